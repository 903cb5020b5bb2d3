/-- a number of the format is read back as it was written -/
theorem vf_de (s : Bool) (c : Nat) (q : Int) (hc : c < 16777216) (h1 : -149 ≤ q) (h2 : q ≤ 104) (h3 : q = -149 ∨ 8388608 ≤ c) : FP.Core.decode FP.Core.b32 (FP.Core.encode FP.Core.b32 (.fin s c q)) = .fin s c q ∧ FP.Core.encode FP.Core.b32 (.fin s c q) < 4294967296 ∧ FP.Core.encode FP.Core.b32 (.fin s c q) % 2147483648 < 2139095040 := by
  have ht : FP.Core.Fmt.tails FP.Core.b32 = 8388608 := by decide
  have he : FP.Core.Fmt.exps FP.Core.b32 = 256 := by decide
  have hm : FP.Core.Fmt.qmin FP.Core.b32 = -149 := by decide
  by_cases hl : c < 8388608
  · have hq : q = -149 := h3.resolve_right (by omega)
    have e : FP.Core.encode FP.Core.b32 (.fin s c q) = s.toNat * 2147483648 + c := by
      show (if c < FP.Core.Fmt.tails FP.Core.b32 then FP.Core.assemble FP.Core.b32 s 0 c else _) = _
      rw [ht, if_pos hl]
      show (s.toNat * FP.Core.Fmt.exps FP.Core.b32 + 0) * FP.Core.Fmt.tails FP.Core.b32 + c = _
      rw [ht, he]
      omega
    rw [e]
    have hs : s.toNat ≤ 1 := by cases s <;> decide
    refine ⟨?_, by omega, by omega⟩
    unfold FP.Core.decode FP.Core.fieldE FP.Core.fieldT FP.Core.fieldS
    rw [ht, he, hm, show (s.toNat * 2147483648 + c) / 8388608 % 256 = 0 by omega, show (s.toNat * 2147483648 + c) % 8388608 = c by omega, show (s.toNat * 2147483648 + c) / 8388608 / 256 = s.toNat by omega, hq]
    cases s <;> rfl
  · obtain ⟨a, ha⟩ : ∃ a : Nat, q = (a : Int) - 149 := ⟨(q + 149).toNat, by omega⟩
    have e : FP.Core.encode FP.Core.b32 (.fin s c q) = s.toNat * 2147483648 + (a + 1) * 8388608 + (c - 8388608) := by
      show (if c < FP.Core.Fmt.tails FP.Core.b32 then _ else FP.Core.assemble FP.Core.b32 s ((q - FP.Core.Fmt.qmin FP.Core.b32).toNat + 1) (c - FP.Core.Fmt.tails FP.Core.b32)) = _
      rw [ht, if_neg hl, hm, show (q - -149).toNat = a by omega]
      show (s.toNat * FP.Core.Fmt.exps FP.Core.b32 + (a + 1)) * FP.Core.Fmt.tails FP.Core.b32 + _ = _
      rw [ht, he]
      omega
    rw [e]
    have hs : s.toNat ≤ 1 := by cases s <;> decide
    have ha2 : a ≤ 253 := by omega
    refine ⟨?_, by omega, by omega⟩
    unfold FP.Core.decode FP.Core.fieldE FP.Core.fieldT FP.Core.fieldS
    rw [ht, he, hm, show (s.toNat * 2147483648 + (a + 1) * 8388608 + (c - 8388608)) / 8388608 % 256 = a + 1 by omega, show (s.toNat * 2147483648 + (a + 1) * 8388608 + (c - 8388608)) % 8388608 = c - 8388608 by omega, show (s.toNat * 2147483648 + (a + 1) * 8388608 + (c - 8388608)) / 8388608 / 256 = s.toNat by omega]
    rw [if_neg (by omega), if_neg (by omega), show 8388608 + (c - 8388608) = c by omega, show (-149 : Int) + (((a + 1 : Nat) : Int) - 1) = q by omega]
    cases s <;> rfl
theorem vf_le1 {num den : Nat} (hn : num ≠ 0) (hd : den ≠ 0) : den * 2 ^ (FP.Core.leading num den).toNat ≤ num * 2 ^ (-(FP.Core.leading num den)).toNat := by
  unfold FP.Core.leading
  dsimp only
  split
  · assumption
  · have a := Nat.log2_self_le hn
    have b := @Nat.lt_log2_self den
    generalize num.log2 = ln at a
    generalize den.log2 = ld at b
    by_cases h : ld + 1 ≤ ln
    · rw [show (((ln : Int) - (ld : Int) - 1)).toNat = ln - ld - 1 by omega, show (-((ln : Int) - (ld : Int) - 1)).toNat = 0 by omega, Nat.pow_zero, Nat.mul_one]
      refine Nat.le_trans ?_ a
      refine Nat.le_trans (Nat.mul_le_mul_right _ (Nat.le_of_lt b)) ?_
      rw [← Nat.pow_add, show ld + 1 + (ln - ld - 1) = ln by omega]
      exact Nat.le_refl _
    · rw [show (((ln : Int) - (ld : Int) - 1)).toNat = 0 by omega, show (-((ln : Int) - (ld : Int) - 1)).toNat = ld + 1 - ln by omega, Nat.pow_zero, Nat.mul_one]
      refine Nat.le_trans (Nat.le_of_lt b) ?_
      refine Nat.le_trans ?_ (Nat.mul_le_mul_right _ a)
      rw [← Nat.pow_add, show ln + (ld + 1 - ln) = ld + 1 by omega]
      exact Nat.le_refl _
theorem vf_nr (a b : Nat) : a / b ≤ FP.Core.nearest a b := by
  unfold FP.Core.nearest
  split
  · exact Nat.le_refl _
  · split <;> omega
theorem vf_un {num den : Nat} {e q : Int} (hn : num ≠ 0) (hd : 0 < den) (hq : q = FP.Core.leading num den + e - 23) : 8388608 ≤ FP.Core.nearest (FP.Core.unitsNum num e q) (FP.Core.unitsDen den e q) := by
  have h := vf_le1 hn (Nat.ne_of_gt hd)
  refine Nat.le_trans ?_ (vf_nr _ _)
  unfold FP.Core.unitsNum FP.Core.unitsDen
  generalize FP.Core.leading num den = k at h hq
  rw [show (e - q).toNat = (23 - k).toNat by omega, show (q - e).toNat = (k - 23).toNat by omega]
  refine (Nat.le_div_iff_mul_le (Nat.mul_pos hd (Nat.two_pow_pos _))).mpr ?_
  rw [show (8388608 : Nat) = 2 ^ 23 by decide]
  by_cases h1 : 23 ≤ k
  · rw [show (23 - k).toNat = 0 by omega, Nat.pow_zero, Nat.mul_one]
    rw [show (-k).toNat = 0 by omega, Nat.pow_zero, Nat.mul_one] at h
    refine Nat.le_trans (Nat.le_of_eq ?_) h
    rw [Nat.mul_comm, Nat.mul_assoc, ← Nat.pow_add, show (k - 23).toNat + 23 = k.toNat by omega]
  · rw [show (k - 23).toNat = 0 by omega, Nat.pow_zero, Nat.mul_one, Nat.mul_comm]
    by_cases h2 : 0 ≤ k
    · rw [show (-k).toNat = 0 by omega, Nat.pow_zero, Nat.mul_one] at h
      refine Nat.le_trans (Nat.le_of_eq ?_) (Nat.mul_le_mul_right (2 ^ (23 - k).toNat) h)
      rw [Nat.mul_assoc, ← Nat.pow_add, show k.toNat + (23 - k).toNat = 23 by omega]
    · rw [show k.toNat = 0 by omega, Nat.pow_zero, Nat.mul_one] at h
      refine Nat.le_trans (Nat.mul_le_mul_right (2 ^ 23) h) (Nat.le_of_eq ?_)
      rw [Nat.mul_assoc, ← Nat.pow_add, show (-k).toNat + 23 = (23 - k).toNat by omega]
