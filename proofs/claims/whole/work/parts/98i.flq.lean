theorem vf_ll (num den : Nat) : FP.Core.leading num den ≤ (num.log2 : Int) - (den.log2 : Int) := by
  unfold FP.Core.leading
  dsimp only
  split <;> omega
/-- a fitting datum -/
def vf_ft (D : FP.Core.Datum) : Prop := D = .inf true ∨ D = .inf false ∨ ∃ s c q, D = .fin s c q ∧ c < 16777216 ∧ -149 ≤ q ∧ q ≤ 104 ∧ (q = -149 ∨ 8388608 ≤ c)
theorem vf_rf (s : Bool) (num den : Nat) (e : Int) (hd : 0 < den) : vf_ft (FP.Core.roundRatio FP.Core.b32 s num den e) := by
  rcases vf_rr s num den e 0 hd (by decide) (by decide) with h | ⟨c, q, h, h1, h2, h3, h4, _⟩
  · cases s
    · exact Or.inr (Or.inl h.1)
    · exact Or.inl h.1
  · exact Or.inr (Or.inr ⟨s, c, q, h, h1, h2, h3, h4⟩)
theorem vf_rb (s : Bool) (num den : Nat) (e B : Int) (hd : 0 < den) (hB : 0 ≤ B) (hB2 : B ≤ 100) (h : num = 0 ∨ FP.Core.leading num den + e ≤ B) : vf_ft (FP.Core.roundRatio FP.Core.b32 s num den e) ∧ ∃ c q, FP.Core.roundRatio FP.Core.b32 s num den e = .fin s c q ∧ (c = 0 ∨ (c.log2 : Int) + q ≤ B + 1) := by
  refine ⟨vf_rf s num den e hd, ?_⟩
  rcases vf_rr s num den e B hd hB hB2 with h2 | ⟨c, q, h1, _, _, _, _, h5⟩
  · exact absurd h h2.2
  · exact ⟨c, q, h1, h5 h⟩
theorem vf_mg {c : Nat} {q m C : Int} (h : c = 0 ∨ (c.log2 : Int) + q ≤ C) (hm : m ≤ q) : c * 2 ^ (q - m).toNat < 2 ^ (C + 1 - m).toNat := by
  rcases h with h | h
  · subst h
    rw [Nat.zero_mul]
    exact Nat.two_pow_pos _
  · have hl := @Nat.lt_log2_self c
    generalize c.log2 = l at h hl
    refine Nat.lt_of_lt_of_le ((Nat.mul_lt_mul_right (Nat.two_pow_pos _)).mpr hl) ?_
    rw [← Nat.pow_add]
    exact Nat.pow_le_pow_right (by decide) (by omega)
theorem vf_sum (s : Bool) (c : Nat) (q : Int) (t : Bool) (d : Nat) (r C : Int) (h1 : c = 0 ∨ (c.log2 : Int) + q ≤ C) (h2 : d = 0 ∨ (d.log2 : Int) + r ≤ C) (hC : 0 ≤ C) (hC2 : C ≤ 99) : vf_ft (FP.Core.round FP.Core.b32 (FP.Core.exactSum (.fin s c q) (.fin t d r))) ∧ ∃ g a b, FP.Core.round FP.Core.b32 (FP.Core.exactSum (.fin s c q) (.fin t d r)) = .fin g a b ∧ (a = 0 ∨ (a.log2 : Int) + b ≤ C + 2) := by
  show vf_ft (FP.Core.roundRatio FP.Core.b32 (FP.Core.sumSign s t (FP.Core.sumUnits s c q t d r (min q r))) (FP.Core.sumUnits s c q t d r (min q r)).natAbs 1 (min q r)) ∧ _
  obtain ⟨g, hg⟩ : ∃ g, FP.Core.sumSign s t (FP.Core.sumUnits s c q t d r (min q r)) = g := ⟨_, rfl⟩
  obtain ⟨n, hn⟩ : ∃ n, (FP.Core.sumUnits s c q t d r (min q r)).natAbs = n := ⟨_, rfl⟩
  have e : FP.Core.round FP.Core.b32 (FP.Core.exactSum (.fin s c q) (.fin t d r)) = FP.Core.roundRatio FP.Core.b32 g n 1 (min q r) := by
    rw [← hg, ← hn]
    rfl
  rw [e, hg, hn]
  have ha := vf_mg h1 (show min q r ≤ q by omega)
  have hb := vf_mg h2 (show min q r ≤ r by omega)
  have hab : n ≤ c * 2 ^ (q - min q r).toNat + d * 2 ^ (r - min q r).toNat := by
    rw [← hn]
    unfold FP.Core.sumUnits FP.Core.signed FP.Core.inUnits
    generalize c * 2 ^ (q - min q r).toNat = a
    generalize d * 2 ^ (r - min q r).toNat = b
    cases s <;> cases t <;> simp only [Bool.false_eq_true, if_false, if_true] <;> omega
  have hz : n = 0 ∨ FP.Core.leading n 1 + min q r ≤ C + 1 := by
    by_cases z : n = 0
    · exact Or.inl z
    · refine Or.inr ?_
      have hl := vf_ll n 1
      have h1l : Nat.log2 1 = 0 := by decide +kernel
      rw [h1l] at hl
      have hm : min q r ≤ C := by
        rcases h1 with h1 | h1
        · rcases h2 with h2 | h2
          · subst h1
            subst h2
            simp only [Nat.zero_mul] at hab
            omega
          · have := Int.natCast_nonneg d.log2
            omega
        · have := Int.natCast_nonneg c.log2
          omega
      have hk : n < 2 ^ ((C + 1 - min q r).toNat + 1) := by
        rw [Nat.pow_succ]
        omega
      have := vf_l2 hk
      omega
  have := vf_rb g n 1 (min q r) (C + 1) (by decide) (by omega) (by omega) hz
  obtain ⟨f, a, b, h, h3⟩ := this
  exact ⟨f, g, a, b, h, by omega⟩
theorem vf_e2 {D : FP.Core.Datum} (h : vf_ft D) : vf_d (.ofNat (FP.Core.encode FP.Core.b32 D)) = D := vf_ed D h
theorem vf_add {x y : UInt32} {C : Int} (hx : vf_fn x C) (hy : vf_fn y C) (hC : 0 ≤ C) (hC2 : C ≤ 99) : vf_fn (FP.fadd x y) (C + 2) := by
  obtain ⟨s, c, q, e1, h1⟩ := hx
  obtain ⟨t, d, r, e2, h2⟩ := hy
  obtain ⟨f, g, a, b, h, h3⟩ := vf_sum s c q t d r C h1 h2 hC hC2
  refine ⟨g, a, b, ?_, h3⟩
  have e : vf_d (FP.fadd x y) = FP.Core.round FP.Core.b32 (FP.Core.exactSum (vf_d x) (vf_d y)) := by
    rw [e1, e2]
    show vf_d (.ofNat (FP.Core.encode FP.Core.b32 (FP.Core.round FP.Core.b32 (FP.Core.exactSum (vf_d x) (vf_d y))))) = _
    rw [e1, e2]
    exact vf_e2 f
  rw [e, e1, e2]
  exact h
theorem vf_sub {x y : UInt32} {C : Int} (hx : vf_fn x C) (hy : vf_fn y C) (hC : 0 ≤ C) (hC2 : C ≤ 99) : vf_fn (FP.fsub x y) (C + 2) := by
  obtain ⟨s, c, q, e1, h1⟩ := hx
  obtain ⟨t, d, r, e2, h2⟩ := hy
  obtain ⟨f, g, a, b, h, h3⟩ := vf_sum s c q (!t) d r C h1 h2 hC hC2
  refine ⟨g, a, b, ?_, h3⟩
  show vf_d (.ofNat (FP.Core.encode FP.Core.b32 (FP.Core.round FP.Core.b32 (FP.Core.exactSum (vf_d x) (FP.Core.negate (vf_d y)))))) = _
  rw [e1, e2]
  exact (vf_e2 f).trans h
theorem vf_mul {x y : UInt32} {A B : Int} (hx : vf_fn x A) (hy : vf_fn y B) (hA : 0 ≤ A) (hB : 0 ≤ B) (hC : A + B ≤ 99) : vf_fn (FP.fmul x y) (A + B + 2) := by
  obtain ⟨s, c, q, e1, h1⟩ := hx
  obtain ⟨t, d, r, e2, h2⟩ := hy
  have hz : c * d = 0 ∨ FP.Core.leading (c * d) 1 + (q + r) ≤ A + B + 1 := by
    rcases h1 with h1 | h1
    · exact Or.inl (by rw [h1, Nat.zero_mul])
    · rcases h2 with h2 | h2
      · exact Or.inl (by rw [h2, Nat.mul_zero])
      · refine Or.inr ?_
        have hl := vf_ll (c * d) 1
        have h1l : Nat.log2 1 = 0 := by decide +kernel
        rw [h1l] at hl
        have a := @Nat.lt_log2_self c
        have b := @Nat.lt_log2_self d
        have hk : c * d < 2 ^ ((c.log2 + d.log2 + 1) + 1) := by
          rw [show c.log2 + d.log2 + 1 + 1 = (c.log2 + 1) + (d.log2 + 1) by omega, Nat.pow_add]
          exact Nat.mul_lt_mul'' a b
        have := vf_l2 hk
        omega
  obtain ⟨f, a, b, h, h3⟩ := vf_rb (s != t) (c * d) 1 (q + r) (A + B + 1) (by decide) (by omega) (by omega) hz
  refine ⟨s != t, a, b, ?_, by omega⟩
  show vf_d (.ofNat (FP.Core.encode FP.Core.b32 (FP.Core.round FP.Core.b32 (FP.Core.exactProduct (vf_d x) (vf_d y))))) = _
  rw [e1, e2]
  exact (vf_e2 f).trans h
/-- not below one -/
def vf_g1 (y : UInt32) : Prop := ∃ t d r, vf_d y = .fin t d r ∧ d ≠ 0 ∧ 0 ≤ (d.log2 : Int) + r
theorem vf_div {x y : UInt32} {A : Int} (hx : vf_fn x A) (hy : vf_g1 y) (hA : 0 ≤ A) (hA2 : A ≤ 99) : vf_fn (FP.fdiv x y) (A + 1) := by
  obtain ⟨s, c, q, e1, h1⟩ := hx
  obtain ⟨t, d, r, e2, h2, h3⟩ := hy
  have hz : c = 0 ∨ FP.Core.leading c d + (q - r) ≤ A := by
    rcases h1 with h1 | h1
    · exact Or.inl h1
    · have := vf_ll c d
      exact Or.inr (by omega)
  obtain ⟨f, a, b, h, h4⟩ := vf_rb (s != t) c d (q - r) A (Nat.pos_of_ne_zero h2) hA (by omega) hz
  refine ⟨s != t, a, b, ?_, h4⟩
  show vf_d (.ofNat (FP.Core.encode FP.Core.b32 (FP.Core.quotient FP.Core.b32 (vf_d x) (vf_d y)))) = _
  rw [e1, e2]
  have e : FP.Core.quotient FP.Core.b32 (.fin s c q) (.fin t d r) = FP.Core.roundRatio FP.Core.b32 (s != t) c d (q - r) := by
    show (if d = 0 then _ else _) = _
    rw [if_neg h2]
  rw [e]
  exact (vf_e2 f).trans h
