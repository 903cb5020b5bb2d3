theorem vf_s16 : ∀ i, i < 29 → 0 ≤ (vm_sV 16 i).toInt ∧ (vm_sV 16 i).toInt ≤ 15 := by decide +kernel
theorem vf_i63n {n : Nat} (h : n ≤ 63) : vf_fn (FP.i2f (nI n)) 6 := by
  refine vf_i63 ?_
  have e : (nI n).toInt = n := nI_toInt (by omega)
  omega
