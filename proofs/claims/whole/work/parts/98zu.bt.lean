theorem vm_bvn (a : Nat) : (nI a).toBitVec = BitVec.ofNat 32 a := rfl
theorem vm_i32 {x y : Int32} (h : x.toBitVec.toNat = y.toBitVec.toNat) : x = y := Int32.toBitVec_inj.mp (BitVec.eq_of_toNat_eq h)
theorem vm_sm31 : ∀ d, d < 32 → ((nI d &&& 31).toBitVec.smod 32) = BitVec.ofNat 32 d := by decide +kernel
theorem vm_shr {a d : Nat} (ha : a < 2147483648) (hd : d < 32) : nI a >>> (nI d &&& 31) = nI (a / 2 ^ d) := by
  refine vm_i32 ?_
  have e : (nI a >>> (nI d &&& 31)).toBitVec = (BitVec.ofNat 32 a).sshiftRight' (BitVec.ofNat 32 d) := by
    rw [Int32.toBitVec_shiftRight]
    rw [vm_sm31 d hd, vm_bvn]
  have hm : (BitVec.ofNat 32 a).msb = false := by
    rw [BitVec.msb_eq_decide]
    simp only [BitVec.toNat_ofNat]
    rw [Nat.mod_eq_of_lt (by omega)]
    exact decide_eq_false (by omega)
  rw [e, BitVec.toNat_sshiftRight'_of_msb_false hm, vm_bvn]
  simp only [BitVec.toNat_ofNat]
  rw [Nat.mod_eq_of_lt (show a < 2 ^ 32 by omega), Nat.mod_eq_of_lt (show d < 2 ^ 32 by omega), Nat.shiftRight_eq_div_pow]
  have : a / 2 ^ d ≤ a := Nat.div_le_self _ _
  rw [Nat.mod_eq_of_lt (by omega)]
theorem vm_shl {a d : Nat} (hd : d < 32) : nI a <<< (nI d &&& 31) = nI (a * 2 ^ d) := by
  refine vm_i32 ?_
  have e : (nI a <<< (nI d &&& 31)).toBitVec = (BitVec.ofNat 32 a) <<< (BitVec.ofNat 32 d) := by
    rw [Int32.toBitVec_shiftLeft]
    rw [vm_sm31 d hd, vm_bvn]
  rw [e, vm_bvn, BitVec.shiftLeft_eq', BitVec.toNat_shiftLeft]
  simp only [BitVec.toNat_ofNat]
  rw [Nat.mod_eq_of_lt (show d < 2 ^ 32 by omega), Nat.shiftLeft_eq, Nat.mod_mul_mod]
theorem vm_orn {a b d : Nat} (hb : b < 2 ^ d) (h : 2 ^ d * a + b < 4294967296) : nI (2 ^ d * a) ||| nI b = nI (2 ^ d * a + b) := by
  refine vm_i32 ?_
  rw [Int32.toBitVec_or, BitVec.toNat_or, vm_bvn, vm_bvn, vm_bvn]
  simp only [BitVec.toNat_ofNat]
  rw [Nat.mod_eq_of_lt (show 2 ^ d * a < 2 ^ 32 by omega), Nat.mod_eq_of_lt (show b < 2 ^ 32 by omega), Nat.mod_eq_of_lt (show 2 ^ d * a + b < 2 ^ 32 by omega)]
  exact (Nat.two_pow_add_eq_or_of_lt hb a).symm
theorem vm_andm {a k : Nat} (ha : a < 4294967296) (hk : k < 32) : nI a &&& nI (2 ^ k - 1) = nI (a % 2 ^ k) := by
  refine vm_i32 ?_
  rw [Int32.toBitVec_and, BitVec.toNat_and, vm_bvn, vm_bvn, vm_bvn]
  simp only [BitVec.toNat_ofNat]
  have h1 : 2 ^ k ≤ 2 ^ 31 := Nat.pow_le_pow_right (by decide) (by omega)
  have h3 : a % 2 ^ k ≤ a := Nat.mod_le _ _
  rw [Nat.mod_eq_of_lt (show a < 2 ^ 32 by omega), Nat.mod_eq_of_lt (show 2 ^ k - 1 < 2 ^ 32 by omega), Nat.mod_eq_of_lt (show a % 2 ^ k < 2 ^ 32 by omega), Nat.and_two_pow_sub_one_eq_mod]
theorem vm_u32 (v : UInt32) : v.toInt32 = nI v.toNat := by
  refine vm_i32 ?_
  rw [UInt32.toBitVec_toInt32, vm_bvn]
  simp only [BitVec.toNat_ofNat]
  have := v.toNat_lt
  exact (Nat.mod_eq_of_lt (by omega)).symm
/-- the bits put together: a normal number, one below -/
theorem vm_bits1 {S E T : Nat} (hS : S ≤ 1) (hE : E < 256) (hT : T < 8388608) : ((nI (2 ^ 31 * S) ||| (nI E <<< ((23 : Int32) &&& 31))) ||| (nI (8388608 + T) &&& 8388607)) = nI (2147483648 * S + 8388608 * E + T) := by
  have e23 : nI E <<< ((23 : Int32) &&& 31) = nI (8388608 * E) := by
    have := vm_shl (a := E) (d := 23) (by decide)
    rw [show E * 2 ^ 23 = 8388608 * E by rw [Nat.mul_comm]] at this
    exact this
  have em : nI (8388608 + T) &&& 8388607 = nI T := by
    have := vm_andm (a := 8388608 + T) (k := 23) (by omega) (by decide)
    rw [show (8388608 + T) % 2 ^ 23 = T by omega] at this
    exact this
  rw [e23, em, vm_orn (a := S) (b := 8388608 * E) (d := 31) (by omega) (by omega)]
  have z := vm_orn (a := 256 * S + E) (b := T) (d := 23) (by omega) (by omega)
  rw [show 2 ^ 23 * (256 * S + E) = 2 ^ 31 * S + 8388608 * E by omega] at z
  rw [z]
theorem vm_bits0 {S T : Nat} (hS : S ≤ 1) (hT : T < 8388608) : (nI (2 ^ 31 * S) ||| nI T) = nI (2147483648 * S + T) := vm_orn (a := S) (b := T) (d := 31) (by omega) (by omega)
theorem vf_dec {x : UInt32} {s : Bool} {c : Nat} {q : Int} (h : vf_d x = .fin s c q) : x.toNat / 8388608 % 256 < 255 ∧ s = (x.toNat / 8388608 / 256 % 2 == 1) ∧ (x.toNat / 8388608 % 256 = 0 → c = x.toNat % 8388608 ∧ q = -149) ∧ (0 < x.toNat / 8388608 % 256 → c = 8388608 + x.toNat % 8388608 ∧ q = (x.toNat / 8388608 % 256 : Nat) - 150) := by
  have ht : FP.Core.Fmt.tails FP.Core.b32 = 8388608 := by decide
  have he : FP.Core.Fmt.exps FP.Core.b32 = 256 := by decide
  have hm : FP.Core.Fmt.qmin FP.Core.b32 = -149 := by decide
  unfold vf_d FP.Core.decode FP.Core.fieldE FP.Core.fieldT FP.Core.fieldS at h
  rw [ht, he, hm] at h
  have hlt : x.toNat / 8388608 % 256 < 256 := Nat.mod_lt _ (by decide)
  generalize x.toNat / 8388608 % 256 = E at h hlt ⊢
  generalize x.toNat % 8388608 = T at h ⊢
  generalize (x.toNat / 8388608 / 256 % 2 == 1) = S at h ⊢
  split at h
  · split at h <;> cases h
  · rename_i h1
    split at h
    · rename_i h2
      cases h
      exact ⟨by omega, rfl, fun _ => ⟨rfl, rfl⟩, fun z => absurd z (by omega)⟩
    · rename_i h2
      cases h
      exact ⟨by omega, rfl, fun z => absurd z h2, fun _ => ⟨rfl, by omega⟩⟩
/-- the same number without its sign -/
theorem vf_abs {v : UInt32} {s : Bool} {c : Nat} {q : Int} (h : vf_d v = .fin s c q) (hc : c ≠ 0) : vf_fd (if s then FP.fneg v else v) c q := by
  obtain ⟨h1, h2, h3, h4⟩ := vf_dec h
  have hfit : c < 16777216 ∧ -149 ≤ q ∧ q ≤ 104 ∧ (q = -149 ∨ 8388608 ≤ c) := by
    have hT : v.toNat % 8388608 < 8388608 := Nat.mod_lt _ (by decide)
    by_cases z : v.toNat / 8388608 % 256 = 0
    · obtain ⟨a, b⟩ := h3 z
      exact ⟨by omega, by omega, by omega, Or.inl b⟩
    · obtain ⟨a, b⟩ := h4 (by omega)
      exact ⟨by omega, by omega, by omega, Or.inr (by omega)⟩
  refine ⟨?_, hc, hfit⟩
  cases s
  · exact h
  · show vf_d (v ^^^ 0x80000000) = _
    have hv := v.toNat_lt
    have hS : v.toNat / 2147483648 = 1 := by
      have : v.toNat / 8388608 / 256 % 2 = 1 := by simpa using h2.symm
      omega
    have e : (v ^^^ 0x80000000).toNat = v.toNat - 2147483648 := by
      rw [UInt32.toNat_xor, show (0x80000000 : UInt32).toNat = 2 ^ 31 * 1 from by decide]
      have z := Nat.two_pow_add_eq_or_of_lt (b := v.toNat - 2147483648) (i := 31) (by omega) 1
      have w : v.toNat = 2 ^ 31 * 1 + (v.toNat - 2147483648) := by omega
      have d : (2 ^ 31 * 1) &&& (v.toNat - 2147483648) = 0 := by
        have : (v.toNat - 2147483648) % 2 ^ 31 = v.toNat - 2147483648 := Nat.mod_eq_of_lt (by omega)
        rw [← this, Nat.mul_one]
        apply Nat.eq_of_testBit_eq
        intro i
        rw [Nat.testBit_and, Nat.testBit_two_pow, Nat.testBit_mod_two_pow, Nat.zero_testBit]
        by_cases y : 31 = i
        · subst y
          simp
        · simp [y]
      apply Nat.eq_of_testBit_eq
      intro i
      rw [Nat.testBit_xor, w, z, Nat.testBit_or]
      have d2 := congrArg (fun t => t.testBit i) d
      simp only [Nat.testBit_and, Nat.zero_testBit] at d2
      rw [← z, show 2 ^ 31 * 1 + (v.toNat - 2147483648) - 2147483648 = v.toNat - 2147483648 by omega]
      revert d2
      cases (2 ^ 31 * 1).testBit i <;> cases (v.toNat - 2147483648).testBit i <;> simp
    unfold vf_d
    rw [e]
    have ht : FP.Core.Fmt.tails FP.Core.b32 = 8388608 := by decide
    have he : FP.Core.Fmt.exps FP.Core.b32 = 256 := by decide
    have hm : FP.Core.Fmt.qmin FP.Core.b32 = -149 := by decide
    unfold FP.Core.decode FP.Core.fieldE FP.Core.fieldT FP.Core.fieldS
    rw [ht, he, hm, show (v.toNat - 2147483648) / 8388608 % 256 = v.toNat / 8388608 % 256 by omega, show (v.toNat - 2147483648) % 8388608 = v.toNat % 8388608 by omega, show (v.toNat - 2147483648) / 8388608 / 256 = 0 by omega, if_neg (by omega)]
    by_cases z : v.toNat / 8388608 % 256 = 0
    · obtain ⟨a, b⟩ := h3 z
      rw [if_pos z, a, b]
      rfl
    · obtain ⟨a, b⟩ := h4 (by omega)
      rw [if_neg z, a, b, show (-149 : Int) + ((v.toNat / 8388608 % 256 : Nat) - 1) = (v.toNat / 8388608 % 256 : Nat) - 150 by omega]
      rfl
/-- against nought -/
theorem vf_vs0 {v : UInt32} {s : Bool} {c : Nat} {q : Int} {o : CmpOp} (h : vf_d v = .fin s c q) (hc : c ≠ 0) : Op.cmpValue (FP.fcmp v 0) o = if s then -1 else 1 := by
  have e : FP.fcmp v 0 = some (compare (FP.Core.signed s (c * 2 ^ (q - min q (-149)).toNat)) (FP.Core.signed false (0 * 2 ^ ((-149) - min q (-149)).toNat))) := by
    show FP.Core.order (vf_d v) (vf_d 0) = _
    rw [h, show vf_d 0 = .fin false 0 (-149) from by decide +kernel]
    rfl
  have hp : 0 < c * 2 ^ (q - min q (-149)).toNat := Nat.mul_pos (Nat.pos_of_ne_zero hc) (Nat.two_pow_pos _)
  rw [e, Nat.zero_mul]
  generalize c * 2 ^ (q - min q (-149)).toNat = a at hp
  cases s
  · rw [show compare (FP.Core.signed false a) (FP.Core.signed false 0) = .gt from Int.compare_eq_gt.mpr (by unfold FP.Core.signed; rw [if_neg (by decide), if_neg (by decide)]; omega)]
    cases o <;> rfl
  · rw [show compare (FP.Core.signed true a) (FP.Core.signed false 0) = .lt from Int.compare_eq_lt.mpr (by unfold FP.Core.signed; rw [if_pos rfl, if_neg (by decide)]; omega)]
    cases o <;> rfl
