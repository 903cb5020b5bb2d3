theorem vf_l2 {c k : Nat} (h : c < 2 ^ (k + 1)) : c.log2 ≤ k := by
  by_cases z : c = 0
  · subst z
    exact Nat.zero_le _
  · exact Nat.le_of_lt_succ ((Nat.log2_lt z).mpr h)
/-- what rounding gives -/
theorem vf_rr (s : Bool) (num den : Nat) (e B : Int) (hd : 0 < den) (hB : 0 ≤ B) (hB2 : B ≤ 100) : (FP.Core.roundRatio FP.Core.b32 s num den e = .inf s ∧ ¬ (num = 0 ∨ FP.Core.leading num den + e ≤ B)) ∨ ∃ c q, FP.Core.roundRatio FP.Core.b32 s num den e = .fin s c q ∧ c < 16777216 ∧ -149 ≤ q ∧ q ≤ 104 ∧ (q = -149 ∨ 8388608 ≤ c) ∧ (num = 0 ∨ FP.Core.leading num den + e ≤ B → c = 0 ∨ (c.log2 : Int) + q ≤ B + 1) := by
  have hm : FP.Core.Fmt.qmin FP.Core.b32 = -149 := by decide
  have hx : FP.Core.Fmt.qmax FP.Core.b32 = 104 := by decide
  have ht : FP.Core.Fmt.tails FP.Core.b32 = 8388608 := by decide
  unfold FP.Core.roundRatio
  by_cases hn : num = 0
  · rw [if_pos hn]
    refine Or.inr ⟨0, -149, by rw [hm], by decide, by decide, by decide, Or.inl rfl, fun _ => Or.inl rfl⟩
  · rw [if_neg hn]
    obtain ⟨q, hq⟩ : ∃ q, FP.Core.quantum FP.Core.b32 num den e = q := ⟨_, rfl⟩
    rw [hq]
    have hq2 : q = max (-149) (FP.Core.leading num den + e - 23) := by
      rw [← hq]
      unfold FP.Core.quantum
      rw [hm]
      rfl
    unfold FP.Core.roundAt FP.Core.settle FP.Core.bound
    rw [hx, ht]
    by_cases h1 : q = FP.Core.leading num den + e - 23
    · have hc := vf_un (e := e) (q := q) hn hd h1
      generalize FP.Core.nearest (FP.Core.unitsNum num e q) (FP.Core.unitsDen den e q) = c at hc
      by_cases h2 : c < 2 ^ FP.Core.Fmt.p FP.Core.b32
      · rw [if_pos h2]
        have h3 : c < 16777216 := h2
        have h4 : c.log2 ≤ 23 := vf_l2 h3
        by_cases h5 : q ≤ 104
        · rw [if_pos h5]
          refine Or.inr ⟨c, q, rfl, h3, by omega, h5, Or.inr hc, fun z => Or.inr (by omega)⟩
        · rw [if_neg h5]
          exact Or.inl ⟨rfl, by omega⟩
      · rw [if_neg h2]
        have h4 : Nat.log2 8388608 = 23 := by decide +kernel
        by_cases h5 : q + 1 ≤ 104
        · rw [if_pos h5]
          refine Or.inr ⟨8388608, q + 1, rfl, by decide, by omega, h5, Or.inr (Nat.le_refl _), fun z => Or.inr (by rw [h4]; omega)⟩
        · rw [if_neg h5]
          exact Or.inl ⟨rfl, by omega⟩
    · have h6 : q = -149 := by omega
      subst h6
      generalize FP.Core.nearest (FP.Core.unitsNum num e (-149)) (FP.Core.unitsDen den e (-149)) = c
      by_cases h2 : c < 2 ^ FP.Core.Fmt.p FP.Core.b32
      · rw [if_pos h2, if_pos (by decide)]
        have h3 : c < 16777216 := h2
        have h4 : c.log2 ≤ 23 := vf_l2 h3
        refine Or.inr ⟨c, -149, rfl, h3, by decide, by decide, Or.inl rfl, fun z => Or.inr (by omega)⟩
      · rw [if_neg h2, if_pos (by decide)]
        have h4 : Nat.log2 8388608 = 23 := by decide +kernel
        refine Or.inr ⟨8388608, -149 + 1, rfl, by decide, by decide, by decide, Or.inr (Nat.le_refl _), fun z => Or.inr (by rw [h4]; omega)⟩
/-- a float's datum; no NaN; finite, below a bound -/
def vf_d (x : UInt32) : FP.Core.Datum := FP.Core.decode FP.Core.b32 x.toNat
def vf_ok (x : UInt32) : Prop := vf_d x ≠ .nan
def vf_fn (x : UInt32) (B : Int) : Prop := ∃ s c q, vf_d x = .fin s c q ∧ (c = 0 ∨ (c.log2 : Int) + q ≤ B)
theorem vf_fn_ok {x : UInt32} {B : Int} (h : vf_fn x B) : vf_ok x := by
  obtain ⟨s, c, q, h, _⟩ := h
  unfold vf_ok
  rw [h]
  exact fun z => nomatch z
theorem vf_fn_le {x : UInt32} {A B : Int} (h : vf_fn x A) (hab : A ≤ B) : vf_fn x B := by
  obtain ⟨s, c, q, h, h2⟩ := h
  exact ⟨s, c, q, h, h2.imp id (fun z => Int.le_trans z hab)⟩
theorem vf_n3 {x : UInt32} (h : vf_ok x) : vm_n3 x = true := by
  unfold vm_n3
  refine decide_eq_true ?_
  rw [UInt32.le_iff_toNat_le, UInt32.toNat_and]
  have e1 : (0x7fffffff : UInt32).toNat = 2 ^ 31 - 1 := by decide
  have e2 : (0x7f800000 : UInt32).toNat = 2139095040 := by decide
  rw [e1, e2, Nat.and_two_pow_sub_one_eq_mod]
  refine Nat.le_of_not_lt fun hc => h ?_
  have hx := x.toNat_lt
  have ht : FP.Core.Fmt.tails FP.Core.b32 = 8388608 := by decide
  have he : FP.Core.Fmt.exps FP.Core.b32 = 256 := by decide
  unfold vf_d FP.Core.decode FP.Core.fieldE FP.Core.fieldT
  rw [ht, he, if_pos (by omega), if_neg (by omega)]
theorem vf_ed (D : FP.Core.Datum) (h : D = .inf true ∨ D = .inf false ∨ ∃ s c q, D = .fin s c q ∧ c < 16777216 ∧ -149 ≤ q ∧ q ≤ 104 ∧ (q = -149 ∨ 8388608 ≤ c)) : vf_d (.ofNat (FP.Core.encode FP.Core.b32 D)) = D := by
  unfold vf_d
  rcases h with h | h | ⟨s, c, q, h, h1, h2, h3, h4⟩
  · subst h
    decide +kernel
  · subst h
    decide +kernel
  · subst h
    have := vf_de s c q h1 h2 h3 h4
    rw [UInt32.toNat_ofNat_of_lt' this.2.1]
    exact this.1
