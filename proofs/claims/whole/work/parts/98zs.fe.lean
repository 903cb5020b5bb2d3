theorem vf_lt1 {num den : Nat} (hd : den ≠ 0) : num * 2 ^ (-(FP.Core.leading num den + 1)).toNat < den * 2 ^ (FP.Core.leading num den + 1).toNat := by
  unfold FP.Core.leading
  dsimp only
  split
  · have a := @Nat.lt_log2_self num
    have b := Nat.log2_self_le hd
    generalize num.log2 = ln at a
    generalize den.log2 = ld at b
    by_cases h : ld ≤ ln + 1
    · rw [show (-((ln : Int) - (ld : Int) + 1)).toNat = 0 by omega, show ((ln : Int) - (ld : Int) + 1).toNat = ln + 1 - ld by omega, Nat.pow_zero, Nat.mul_one]
      refine Nat.lt_of_lt_of_le a (Nat.le_trans (Nat.le_of_eq ?_) (Nat.mul_le_mul_right _ b))
      rw [← Nat.pow_add, show ld + (ln + 1 - ld) = ln + 1 by omega]
    · rw [show (-((ln : Int) - (ld : Int) + 1)).toNat = ld - ln - 1 by omega, show ((ln : Int) - (ld : Int) + 1).toNat = 0 by omega, Nat.pow_zero, Nat.mul_one]
      refine Nat.lt_of_lt_of_le ((Nat.mul_lt_mul_right (Nat.two_pow_pos _)).mpr a) (Nat.le_trans (Nat.le_of_eq ?_) b)
      rw [← Nat.pow_add, show ln + 1 + (ld - ln - 1) = ld by omega]
  · rename_i h
    rw [Int.sub_add_cancel]
    exact Nat.lt_of_not_le h
theorem vf_cn {a b : Nat} (h : 2 ^ a < 2 ^ b) : a < b := (Nat.pow_lt_pow_iff_right (by decide : 1 < 2)).mp h
/-- where the leading digit of an exact ratio stands -/
theorem vf_ld {num den C : Nat} {e Q : Int} (hd : 0 < den) (hC : C ≠ 0) (h : num * 2 ^ (e - Q).toNat = C * (den * 2 ^ (Q - e).toNat)) : FP.Core.leading num den + e = (C.log2 : Int) + Q := by
  have hn : num ≠ 0 := by
    intro z
    subst z
    rw [Nat.zero_mul] at h
    exact absurd h.symm (Nat.mul_ne_zero hC (Nat.mul_ne_zero (Nat.ne_of_gt hd) (Nat.ne_of_gt (Nat.two_pow_pos _))))
  have h1 := vf_le1 hn (Nat.ne_of_gt hd)
  have h2 := vf_lt1 (num := num) (Nat.ne_of_gt hd)
  have c1 := Nat.log2_self_le hC
  have c2 := @Nat.lt_log2_self C
  generalize FP.Core.leading num den = k at h1 h2
  generalize C.log2 = j at c1 c2
  have up : k + e ≤ j + Q := by
    have z : den * 2 ^ (k.toNat + (e - Q).toNat) < den * 2 ^ (j + 1 + (Q - e).toNat + (-k).toNat) := by
      calc den * 2 ^ (k.toNat + (e - Q).toNat) = den * 2 ^ k.toNat * 2 ^ (e - Q).toNat := by rw [Nat.pow_add, Nat.mul_assoc]
        _ ≤ num * 2 ^ (-k).toNat * 2 ^ (e - Q).toNat := Nat.mul_le_mul_right _ h1
        _ = num * 2 ^ (e - Q).toNat * 2 ^ (-k).toNat := by rw [Nat.mul_assoc, Nat.mul_assoc, Nat.mul_comm (2 ^ (-k).toNat)]
        _ = C * (den * 2 ^ (Q - e).toNat * 2 ^ (-k).toNat) := by rw [h, Nat.mul_assoc]
        _ < 2 ^ (j + 1) * (den * 2 ^ (Q - e).toNat * 2 ^ (-k).toNat) := (Nat.mul_lt_mul_right (Nat.mul_pos (Nat.mul_pos hd (Nat.two_pow_pos _)) (Nat.two_pow_pos _))).mpr c2
        _ = den * 2 ^ (j + 1 + (Q - e).toNat + (-k).toNat) := by rw [Nat.pow_add 2 (j + 1 + (Q - e).toNat) (-k).toNat, Nat.pow_add 2 (j + 1) (Q - e).toNat]; ac_rfl
    have := vf_cn (Nat.lt_of_mul_lt_mul_left z)
    omega
  have lo : j + Q ≤ k + e := by
    have z : den * 2 ^ (j + (Q - e).toNat + (-(k + 1)).toNat) < den * 2 ^ ((k + 1).toNat + (e - Q).toNat) := by
      calc den * 2 ^ (j + (Q - e).toNat + (-(k + 1)).toNat) = 2 ^ j * (den * 2 ^ (Q - e).toNat * 2 ^ (-(k + 1)).toNat) := by rw [Nat.pow_add 2 (j + (Q - e).toNat) (-(k + 1)).toNat, Nat.pow_add 2 j (Q - e).toNat]; ac_rfl
        _ ≤ C * (den * 2 ^ (Q - e).toNat * 2 ^ (-(k + 1)).toNat) := Nat.mul_le_mul_right _ c1
        _ = num * 2 ^ (e - Q).toNat * 2 ^ (-(k + 1)).toNat := by rw [h]; ac_rfl
        _ = num * 2 ^ (-(k + 1)).toNat * 2 ^ (e - Q).toNat := by rw [Nat.mul_assoc, Nat.mul_assoc, Nat.mul_comm (2 ^ (-(k + 1)).toNat)]
        _ < den * 2 ^ (k + 1).toNat * 2 ^ (e - Q).toNat := (Nat.mul_lt_mul_right (Nat.two_pow_pos _)).mpr h2
        _ = den * 2 ^ ((k + 1).toNat + (e - Q).toNat) := by rw [Nat.pow_add, Nat.mul_assoc]
    have := vf_cn (Nat.lt_of_mul_lt_mul_left z)
    omega
  omega
theorem vf_l23 {C : Nat} (h : 8388608 ≤ C) (h2 : C < 16777216) : C.log2 = 23 := by
  have a := vf_l2 (c := C) (k := 23) h2
  have b := (Nat.le_log2 (k := 23) (by omega : C ≠ 0)).mpr h
  omega
/-- what fits is rounded to itself -/
theorem vf_ex (s : Bool) {num den C : Nat} {e Q : Int} (hd : 0 < den) (hC : C ≠ 0) (hC2 : C < 16777216) (h1 : -149 ≤ Q) (h2 : Q ≤ 104) (h3 : Q = -149 ∨ 8388608 ≤ C) (h : num * 2 ^ (e - Q).toNat = C * (den * 2 ^ (Q - e).toNat)) : FP.Core.roundRatio FP.Core.b32 s num den e = .fin s C Q := by
  have hm : FP.Core.Fmt.qmin FP.Core.b32 = -149 := by decide
  have hx : FP.Core.Fmt.qmax FP.Core.b32 = 104 := by decide
  have hn : num ≠ 0 := by
    intro z
    subst z
    rw [Nat.zero_mul] at h
    exact absurd h.symm (Nat.mul_ne_zero hC (Nat.mul_ne_zero (Nat.ne_of_gt hd) (Nat.ne_of_gt (Nat.two_pow_pos _))))
  have hl := vf_ld hd hC h
  have hq : FP.Core.quantum FP.Core.b32 num den e = Q := by
    unfold FP.Core.quantum
    rw [hm, hl, show ((FP.Core.Fmt.p FP.Core.b32 : Nat) : Int) = 24 from by decide]
    by_cases z : 8388608 ≤ C
    · rw [vf_l23 z hC2]
      omega
    · have := vf_l2 (c := C) (k := 22) (by have : (2 : Nat) ^ (22 + 1) = 8388608 := by decide
                                           omega)
      have := h3.resolve_right z
      omega
  unfold FP.Core.roundRatio
  rw [if_neg hn, hq]
  have hnear : FP.Core.nearest (FP.Core.unitsNum num e Q) (FP.Core.unitsDen den e Q) = C := by
    unfold FP.Core.unitsNum FP.Core.unitsDen
    rw [h]
    have hp : 0 < den * 2 ^ (Q - e).toNat := Nat.mul_pos hd (Nat.two_pow_pos _)
    generalize den * 2 ^ (Q - e).toNat = D at hp
    unfold FP.Core.nearest
    rw [Nat.mul_mod_left, if_pos (by omega), Nat.mul_div_cancel _ hp]
  unfold FP.Core.roundAt FP.Core.settle FP.Core.bound
  rw [hnear, if_pos (show C < 2 ^ FP.Core.Fmt.p FP.Core.b32 from hC2), if_pos (by rw [hx]; exact h2)]
/-- a positive number that fits -/
def vf_fd (x : UInt32) (c : Nat) (q : Int) : Prop := vf_d x = .fin false c q ∧ c ≠ 0 ∧ c < 16777216 ∧ -149 ≤ q ∧ q ≤ 104 ∧ (q = -149 ∨ 8388608 ≤ c)
theorem vf_two : vf_d 1073741824 = .fin false 8388608 (-22) := by decide +kernel
theorem vf_one : vf_d 1065353216 = .fin false 8388608 (-23) := by decide +kernel
theorem vf_big : vf_d 1258291200 = .fin false 8388608 0 := by decide +kernel
theorem vf_fdn {x : UInt32} {c : Nat} {q : Int} (h : vf_fd x c q) : vm_n3 x = true := vf_n3 (by unfold vf_ok; rw [h.1]; exact fun z => nomatch z)
theorem vf_hv {x : UInt32} {c : Nat} {q : Int} (h : vf_fd x c q) (hc : 8388608 ≤ c) (hq : -149 < q) : vf_fd (FP.fdiv x 1073741824) c (q - 1) := by
  have e : FP.Core.quotient FP.Core.b32 (vf_d x) (vf_d 1073741824) = .fin false c (q - 1) := by
    rw [h.1, vf_two]
    show (if (8388608 : Nat) = 0 then (if c = 0 then FP.Core.Datum.nan else FP.Core.Datum.inf (false != false)) else FP.Core.roundRatio FP.Core.b32 (false != false) c 8388608 (q - -22)) = _
    rw [if_neg (by decide)]
    refine vf_ex false (by decide) h.2.1 h.2.2.1 (by omega) (by have := h.2.2.2.2.1; omega) (Or.inr hc) ?_
    rw [show (q - -22 - (q - 1)).toNat = 23 by omega, show (q - 1 - (q - -22)).toNat = 0 by omega]
  refine ⟨?_, h.2.1, h.2.2.1, by omega, by have := h.2.2.2.2.1; omega, Or.inr hc⟩
  show vf_d (.ofNat (FP.Core.encode FP.Core.b32 (FP.Core.quotient FP.Core.b32 (vf_d x) (vf_d 1073741824)))) = _
  rw [e]
  exact vf_ed _ (Or.inr (Or.inr ⟨false, c, q - 1, rfl, h.2.2.1, by omega, by have := h.2.2.2.2.1; omega, Or.inr hc⟩))
theorem vf_mulx {x y : UInt32} {c d C : Nat} {q r Q : Int} (hx : vf_d x = .fin false c q) (hy : vf_d y = .fin false d r) (hC : C ≠ 0) (hC2 : C < 16777216) (h1 : -149 ≤ Q) (h2 : Q ≤ 104) (h3 : Q = -149 ∨ 8388608 ≤ C) (h : c * d * 2 ^ (q + r - Q).toNat = C * (1 * 2 ^ (Q - (q + r)).toNat)) : vf_fd (FP.fmul x y) C Q := by
  have e : FP.Core.round FP.Core.b32 (FP.Core.exactProduct (vf_d x) (vf_d y)) = .fin false C Q := by
    rw [hx, hy]
    exact vf_ex false (by decide) hC hC2 h1 h2 h3 h
  refine ⟨?_, hC, hC2, h1, h2, h3⟩
  show vf_d (.ofNat (FP.Core.encode FP.Core.b32 (FP.Core.round FP.Core.b32 (FP.Core.exactProduct (vf_d x) (vf_d y))))) = _
  rw [e]
  exact vf_ed _ (Or.inr (Or.inr ⟨false, C, Q, rfl, hC2, h1, h2, h3⟩))
theorem vf_db1 {x : UInt32} {c : Nat} {q : Int} (h : vf_fd x c q) (hc : 8388608 ≤ c) (hq : q < 104) : vf_fd (FP.fmul x 1073741824) c (q + 1) := by
  refine vf_mulx h.1 vf_two h.2.1 h.2.2.1 (by have := h.2.2.2.1; omega) (by omega) (Or.inr hc) ?_
  rw [show (q + -22 - (q + 1)).toNat = 0 by omega, show (q + 1 - (q + -22)).toNat = 23 by omega, Nat.one_mul, Nat.pow_zero, Nat.mul_one]
theorem vf_db0 {x : UInt32} {c : Nat} (h : vf_fd x c (-149)) (hc : c < 8388608) : vf_fd (FP.fmul x 1073741824) (c * 2) (-149) := by
  refine vf_mulx h.1 vf_two (by have := h.2.1; omega) (by omega) (by decide) (by decide) (Or.inl rfl) ?_
  rw [show (-149 + -22 - (-149) : Int).toNat = 0 by decide, show (-149 - (-149 + -22) : Int).toNat = 22 by decide, Nat.one_mul, Nat.pow_zero, Nat.mul_one, Nat.mul_assoc]
/-- a comparison with a power of two -/
theorem vf_cmp {x y : UInt32} {c : Nat} {q r : Int} {o : CmpOp} (hx : vf_d x = .fin false c q) (hy : vf_d y = .fin false 8388608 r) : (Op.cmpValue (FP.fcmp x y) o < 0 ↔ c * 2 ^ (q - min q r).toNat < 8388608 * 2 ^ (r - min q r).toNat) := by
  have e : FP.fcmp x y = some (compare ((c * 2 ^ (q - min q r).toNat : Nat) : Int) ((8388608 * 2 ^ (r - min q r).toNat : Nat) : Int)) := by
    show FP.Core.order (vf_d x) (vf_d y) = _
    rw [hx, hy]
    rfl
  rw [e]
  generalize c * 2 ^ (q - min q r).toNat = a
  generalize 8388608 * 2 ^ (r - min q r).toNat = b
  by_cases h : a < b
  · rw [show compare (a : Int) (b : Int) = .lt from Int.compare_eq_lt.mpr (by omega)]
    exact ⟨fun _ => h, fun _ => by cases o <;> decide⟩
  · refine ⟨fun z => ?_, fun z => absurd z h⟩
    by_cases h2 : a = b
    · rw [h2, show compare (b : Int) (b : Int) = .eq from Int.compare_eq_eq.mpr rfl] at z
      exact absurd z (by cases o <;> decide)
    · rw [show compare (a : Int) (b : Int) = .gt from Int.compare_eq_gt.mpr (by omega)] at z
      exact absurd z (by cases o <;> decide)
theorem vf_ge {x y : UInt32} {c : Nat} {q r : Int} {o : CmpOp} (h : vf_fd x c q) (hy : vf_d y = .fin false 8388608 r) (hc : 8388608 ≤ c) (hq : r ≤ q) : ¬ Op.cmpValue (FP.fcmp x y) o < 0 := by
  rw [vf_cmp h.1 hy, show min q r = r by omega, Int.sub_self]
  exact Nat.not_lt.mpr (Nat.le_trans (by rw [Int.toNat_zero, Nat.pow_zero, Nat.mul_one]; exact hc) (Nat.le_mul_of_pos_right c (Nat.two_pow_pos _)))
theorem vf_lt {x y : UInt32} {c : Nat} {q r : Int} {o : CmpOp} (h : vf_fd x c q) (hy : vf_d y = .fin false 8388608 r) (hq : q < r) : Op.cmpValue (FP.fcmp x y) o < 0 := by
  refine (vf_cmp h.1 hy).mpr ?_
  rw [show min q r = q by omega, Int.sub_self, Int.toNat_zero, Nat.pow_zero, Nat.mul_one]
  refine Nat.lt_of_lt_of_le h.2.2.1 ?_
  obtain ⟨n, hn⟩ : ∃ n, (r - q).toNat = n + 1 := ⟨(r - q).toNat - 1, by omega⟩
  rw [hn, Nat.pow_succ]
  have := Nat.two_pow_pos n
  omega
def sp_hv (r : UInt32) : Nat → UInt32
  | 0 => r
  | j + 1 => FP.fdiv (sp_hv r j) 1073741824
def sp_db (r : UInt32) : Nat → UInt32
  | 0 => r
  | j + 1 => FP.fmul (sp_db r j) 1073741824
theorem sp_hv_f {r : UInt32} {c : Nat} {q : Int} (h : vf_fd r c q) (hc : 8388608 ≤ c) : ∀ j : Nat, -149 ≤ q - (j : Int) → vf_fd (sp_hv r j) c (q - (j : Int))
  | 0, _ => by
    show vf_fd r c (q - 0)
    rw [Int.sub_zero]
    exact h
  | j + 1, hj => by
    have z := vf_hv (sp_hv_f h hc j (by omega)) hc (by omega)
    rw [show q - (j : Int) - 1 = q - ((j + 1 : Nat) : Int) by omega] at z
    exact z
theorem sp_db_f {r : UInt32} {c : Nat} {q : Int} (h : vf_fd r c q) (hc : 8388608 ≤ c) : ∀ j : Nat, q + (j : Int) ≤ 104 → vf_fd (sp_db r j) c (q + (j : Int))
  | 0, _ => by
    show vf_fd r c (q + 0)
    rw [Int.add_zero]
    exact h
  | j + 1, hj => by
    have z := vf_db1 (sp_db_f h hc j (by omega)) hc (by omega)
    rw [show q + (j : Int) + 1 = q + ((j + 1 : Nat) : Int) by omega] at z
    exact z
theorem sp_db_s {r : UInt32} {c : Nat} (h : vf_fd r c (-149)) : ∀ j : Nat, (∀ i, i < j → c * 2 ^ i < 8388608) → vf_fd (sp_db r j) (c * 2 ^ j) (-149)
  | 0, _ => by
    show vf_fd r (c * 1) (-149)
    rw [Nat.mul_one]
    exact h
  | j + 1, hj => by
    have z := vf_db0 (sp_db_s h j (fun i hi => hj i (by omega))) (hj j (by omega))
    rw [Nat.mul_assoc, ← Nat.pow_succ] at z
    exact z
theorem sp_db_a (r : UInt32) (a : Nat) : ∀ b, sp_db (sp_db r a) b = sp_db r (a + b)
  | 0 => rfl
  | b + 1 => by
    show FP.fmul (sp_db (sp_db r a) b) _ = FP.fmul (sp_db r (a + b)) _
    rw [sp_db_a r a b]
theorem vf_digits {x : UInt32} {C : Nat} (h : vf_fd x C (-23)) : vf_fd (FP.fmul x 1258291200) C 0 := by
  by_cases hc : 8388608 ≤ C
  · refine vf_mulx h.1 vf_big h.2.1 h.2.2.1 (by decide) (by decide) (Or.inr hc) ?_
    rw [show (-23 + 0 - 0 : Int).toNat = 0 by decide, show (0 - (-23 + 0) : Int).toNat = 23 by decide, Nat.one_mul, Nat.pow_zero, Nat.mul_one]
  · have := h.2.2.2.2.2
    omega
theorem vf_f2i {x : UInt32} {C : Nat} (h : vf_fd x C 0) : FP.f2i x = nI C := by
  have e : FP.f2i x = Int32.ofInt (FP.Core.toInt (-2147483648) 2147483647 (vf_d x)) := rfl
  rw [e, h.1]
  show Int32.ofInt (max (-2147483648) (min 2147483647 (FP.Core.signed false (C * 2 ^ 0 / 2 ^ 0)))) = _
  have h2 := h.2.2.1
  unfold FP.Core.signed
  rw [Nat.pow_zero, Nat.mul_one, Nat.div_one, if_neg (by decide), show max (-2147483648) (min 2147483647 (C : Int)) = (C : Int) by omega]
  rfl
