/-- FLOATS that many small ones were added to: finite, not -0 -/
def vf_bd (x : UInt32) (N : Nat) : Prop := ∃ s c q, vf_d x = .fin s c q ∧ (c = 0 → s = false) ∧ -149 ≤ q ∧ c * 2 ^ (q + 149).toNat ≤ N * 2 ^ 167
theorem vf_nrK {a b K : Nat} (hb : 0 < b) (h : a ≤ K * b) : FP.Core.nearest a b ≤ K := by
  have e := Nat.div_add_mod a b
  have l := Nat.mod_lt a hb
  have d : a / b ≤ K := Nat.div_le_of_le_mul (by rw [Nat.mul_comm]; exact h)
  by_cases c : a / b = K
  · have z : a % b = 0 := by
      rw [c] at e
      rw [Nat.mul_comm] at h
      omega
    unfold FP.Core.nearest
    rw [z, if_pos (by omega)]
    exact d
  · unfold FP.Core.nearest
    split
    · exact d
    · split
      · omega
      · have := Nat.mod_lt (a / b) (show 0 < 2 by decide)
        omega
theorem vf_rdB (g : Bool) {n M : Nat} {e : Int} (he : -149 ≤ e) (hM : M < 16777216) (hg : n = 0 → g = false) (h : n * 2 ^ (e + 149).toNat ≤ M * 2 ^ 167) : ∃ c q, FP.Core.roundRatio FP.Core.b32 g n 1 e = .fin g c q ∧ (c = 0 → g = false) ∧ -149 ≤ q ∧ c * 2 ^ (q + 149).toNat ≤ M * 2 ^ 167 := by
  have hm : FP.Core.Fmt.qmin FP.Core.b32 = -149 := by decide
  have hx : FP.Core.Fmt.qmax FP.Core.b32 = 104 := by decide
  have ht : FP.Core.Fmt.tails FP.Core.b32 = 8388608 := by decide
  have hp : FP.Core.b32.p = 24 := rfl
  unfold FP.Core.roundRatio
  by_cases hn : n = 0
  · rw [if_pos hn, hm]
    exact ⟨0, -149, rfl, fun _ => hg hn, by decide, by rw [Nat.zero_mul]; exact Nat.zero_le _⟩
  · rw [if_neg hn]
    have hq : FP.Core.quantum FP.Core.b32 n 1 e = max (-149) (FP.Core.leading n 1 + e - 23) := by
      unfold FP.Core.quantum
      rw [hm, hp]
      rfl
    have hl : FP.Core.leading n 1 ≤ (n.log2 : Int) := by
      have := vf_ll n 1
      have h1l : Nat.log2 1 = 0 := by decide +kernel
      rw [h1l] at this
      omega
    have hlog : (n.log2 : Int) + e ≤ 41 := by
      have h2 := Nat.log2_self_le hn
      have h3 : 2 ^ (n.log2 + (e + 149).toNat) < 2 ^ 191 := by
        rw [Nat.pow_add]
        refine Nat.lt_of_le_of_lt (Nat.mul_le_mul_right _ h2) (Nat.lt_of_le_of_lt h ?_)
        rw [show (2 : Nat) ^ 191 = 16777216 * 2 ^ 167 by decide]
        exact (Nat.mul_lt_mul_right (Nat.two_pow_pos _)).mpr hM
      have := vf_cn h3
      omega
    have hq1 : FP.Core.quantum FP.Core.b32 n 1 e ≤ 18 := by rw [hq]; omega
    have hq2 : -149 ≤ FP.Core.quantum FP.Core.b32 n 1 e := by rw [hq]; omega
    have hne : FP.Core.nearest (FP.Core.unitsNum n e (FP.Core.quantum FP.Core.b32 n 1 e)) (FP.Core.unitsDen 1 e (FP.Core.quantum FP.Core.b32 n 1 e)) ≠ 0 := by
      by_cases c : FP.Core.leading n 1 + e - 23 < -149
      · have e1 : FP.Core.quantum FP.Core.b32 n 1 e = -149 := by rw [hq]; omega
        rw [e1]
        have := vf_nr (FP.Core.unitsNum n e (-149)) (FP.Core.unitsDen 1 e (-149))
        have e2 : FP.Core.unitsDen 1 e (-149) = 1 := by
          unfold FP.Core.unitsDen
          rw [show (-149 - e).toNat = 0 by omega]
        rw [e2, Nat.div_one] at this
        have e3 : 0 < FP.Core.unitsNum n e (-149) := Nat.mul_pos (by omega) (Nat.two_pow_pos _)
        rw [e2]
        omega
      · have e1 : FP.Core.quantum FP.Core.b32 n 1 e = FP.Core.leading n 1 + e - 23 := by rw [hq]; omega
        have := vf_un (num := n) (den := 1) (e := e) (q := FP.Core.quantum FP.Core.b32 n 1 e) hn (by decide) e1
        omega
    generalize FP.Core.quantum FP.Core.b32 n 1 e = q at hq1 hq2 hne ⊢
    have hy : (q + 149).toNat ≤ 167 := by omega
    have hK : FP.Core.nearest (FP.Core.unitsNum n e q) (FP.Core.unitsDen 1 e q) ≤ M * 2 ^ (167 - (q + 149).toNat) := by
      refine vf_nrK (Nat.mul_pos (by decide) (Nat.two_pow_pos _)) ?_
      unfold FP.Core.unitsNum FP.Core.unitsDen
      rw [Nat.one_mul]
      have ex : (e - q).toNat = (e + 149).toNat - (q + 149).toNat := by omega
      have ey : (q - e).toNat = (q + 149).toNat - (e + 149).toNat := by omega
      rw [ex, ey]
      generalize (e + 149).toNat = x at h
      generalize (q + 149).toNat = y at hy
      refine Nat.le_of_mul_le_mul_right (c := 2 ^ y) ?_ (Nat.two_pow_pos _)
      rw [Nat.mul_assoc, Nat.mul_assoc, Nat.mul_assoc, ← Nat.pow_add, ← Nat.pow_add, ← Nat.pow_add]
      by_cases c : y ≤ x
      · rw [show x - y + y = x by omega, show 167 - y + (y - x + y) = 167 by omega]
        exact h
      · rw [show x - y + y = x + (y - x) by omega, show 167 - y + (y - x + y) = 167 + (y - x) by omega, Nat.pow_add, Nat.pow_add, ← Nat.mul_assoc, ← Nat.mul_assoc]
        exact Nat.mul_le_mul_right _ h
    unfold FP.Core.roundAt FP.Core.settle FP.Core.bound
    rw [hx, ht, hp]
    generalize FP.Core.nearest (FP.Core.unitsNum n e q) (FP.Core.unitsDen 1 e q) = c at hne hK ⊢
    have hcy : c * 2 ^ (q + 149).toNat ≤ M * 2 ^ 167 := by
      refine Nat.le_trans (Nat.mul_le_mul_right _ hK) ?_
      rw [Nat.mul_assoc, ← Nat.pow_add, show 167 - (q + 149).toNat + (q + 149).toNat = 167 by omega]
      exact Nat.le_refl _
    by_cases d : c < 2 ^ 24
    · rw [if_pos d, if_pos (by omega)]
      exact ⟨c, q, rfl, fun z => absurd z hne, hq2, hcy⟩
    · rw [if_neg d, if_pos (by omega)]
      refine ⟨8388608, q + 1, rfl, fun z => absurd z (by decide), by omega, Nat.le_trans ?_ hcy⟩
      rw [show (q + 1 + 149).toNat = (q + 149).toNat + 1 by omega, Nat.pow_succ, Nat.mul_comm _ 2, ← Nat.mul_assoc]
      exact Nat.mul_le_mul_right _ (by omega)
theorem vf_bda {x y : UInt32} {N : Nat} (hx : vf_bd x N) (hy : ∃ t d r, vf_d y = .fin t d r ∧ -149 ≤ r ∧ d * 2 ^ (r + 149).toNat ≤ 1 * 2 ^ 167) (hN : N + 1 < 16777216) : vf_bd (FP.fadd x y) (N + 1) := by
  obtain ⟨s, c, q, e1, s1, q1, b1⟩ := hx
  obtain ⟨t, d, r, e2, r1, b2⟩ := hy
  have e : vf_d (FP.fadd x y) = FP.Core.roundRatio FP.Core.b32 (FP.Core.sumSign s t (FP.Core.sumUnits s c q t d r (min q r))) (FP.Core.sumUnits s c q t d r (min q r)).natAbs 1 (min q r) := by
    show vf_d (.ofNat (FP.Core.encode FP.Core.b32 (FP.Core.round FP.Core.b32 (FP.Core.exactSum (vf_d x) (vf_d y))))) = _
    rw [e1, e2]
    exact vf_e2 (vf_rf _ _ 1 _ (by decide))
  have hab : (FP.Core.sumUnits s c q t d r (min q r)).natAbs ≤ c * 2 ^ (q - min q r).toNat + d * 2 ^ (r - min q r).toNat := by
    unfold FP.Core.sumUnits FP.Core.signed FP.Core.inUnits
    generalize c * 2 ^ (q - min q r).toNat = a
    generalize d * 2 ^ (r - min q r).toNat = b
    cases s <;> cases t <;> simp only [Bool.false_eq_true, if_false, if_true] <;> omega
  have hg : (FP.Core.sumUnits s c q t d r (min q r)).natAbs = 0 → FP.Core.sumSign s t (FP.Core.sumUnits s c q t d r (min q r)) = false := by
    intro z
    have z2 : FP.Core.sumUnits s c q t d r (min q r) = 0 := Int.natAbs_eq_zero.mp z
    unfold FP.Core.sumSign
    rw [if_pos z2]
    cases hs : s
    · rfl
    · cases ht : t
      · rfl
      · exfalso
        rw [hs, ht] at z2
        unfold FP.Core.sumUnits FP.Core.signed FP.Core.inUnits at z2
        have p1 : c * 2 ^ (q - min q r).toNat = 0 := by
          generalize c * 2 ^ (q - min q r).toNat = a at z2 ⊢
          generalize d * 2 ^ (r - min q r).toNat = b at z2
          simp only [if_true] at z2
          omega
        have p2 : c = 0 := by
          rcases Nat.mul_eq_zero.mp p1 with p | p
          · exact p
          · exact absurd p (Nat.ne_of_gt (Nat.two_pow_pos _))
        have := s1 p2
        rw [hs] at this
        exact absurd this (by decide)
  have hb : (FP.Core.sumUnits s c q t d r (min q r)).natAbs * 2 ^ (min q r + 149).toNat ≤ (N + 1) * 2 ^ 167 := by
    refine Nat.le_trans (Nat.mul_le_mul_right _ hab) ?_
    rw [Nat.add_mul, Nat.mul_assoc, Nat.mul_assoc, ← Nat.pow_add, ← Nat.pow_add, show (q - min q r).toNat + (min q r + 149).toNat = (q + 149).toNat by omega, show (r - min q r).toNat + (min q r + 149).toNat = (r + 149).toNat by omega, Nat.add_mul N 1]
    exact Nat.add_le_add b1 b2
  obtain ⟨a, b, h1, h2, h3, h4⟩ := vf_rdB (FP.Core.sumSign s t (FP.Core.sumUnits s c q t d r (min q r))) (M := N + 1) (show -149 ≤ min q r by omega) hN hg hb
  exact ⟨_, a, b, e.trans h1, h2, h3, h4⟩
theorem vf_bd0 : vf_bd 0 0 := ⟨false, 0, -149, by decide +kernel, fun _ => rfl, by decide, by decide⟩
theorem vf_bdn {x : UInt32} {N : Nat} (h : vf_bd x N) : (∃ s c q, vf_d x = .fin s c q) ∧ x ≠ 2147483648 := by
  obtain ⟨s, c, q, e, z, -, -⟩ := h
  refine ⟨⟨s, c, q, e⟩, fun y => ?_⟩
  have e2 : vf_d 2147483648 = .fin true 0 (-149) := by decide +kernel
  rw [y, e2] at e
  cases e
  exact absurd (z rfl) (by decide)
theorem vf_bd1 {y : UInt32} (h : vf_fn y 17) : ∃ t d r, vf_d y = .fin t d r ∧ -149 ≤ r ∧ d * 2 ^ (r + 149).toNat ≤ 1 * 2 ^ 167 := by
  obtain ⟨s, c, q, e, h2⟩ := h
  have D := vf_dec e
  have hq : -149 ≤ q := by
    by_cases z : 0 < y.toNat / 8388608 % 256
    · have := (D.2.2.2 z).2
      omega
    · have := (D.2.2.1 (by omega)).2
      omega
  refine ⟨s, c, q, e, hq, ?_⟩
  have := vf_mg h2 (m := -149) hq
  rw [show (q - -149).toNat = (q + 149).toNat by omega, show ((17 : Int) + 1 - -149).toNat = 167 by decide] at this
  omega
