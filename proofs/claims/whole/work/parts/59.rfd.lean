theorem vm_and63 (x : Int32) : 0 ≤ (x &&& 63).toInt ∧ (x &&& 63).toInt ≤ 63 := by
  have e : (x &&& 63).toInt = (x.toBitVec &&& (63 : Int32).toBitVec).toInt := rfl
  have h : (x.toBitVec &&& (63 : Int32).toBitVec).toNat ≤ 63 := by
    rw [BitVec.toNat_and]
    exact Nat.and_le_right
  rw [e, BitVec.toInt_eq_toNat_of_lt (by omega)]
  omega
theorem sp_ch_b (c k : Int32) : 0 ≤ (sp_ch c k).toInt ∧ (sp_ch c k).toInt ≤ 63 := vm_and63 _
theorem sp_ch_d (c d k : Int32) : (if sp_ch d k < sp_ch c k then sp_ch c k - sp_ch d k else sp_ch d k - sp_ch c k) = sp_ab (sp_ch c k - sp_ch d k) := by
  apply sp_ab_s
  have h1 := sp_ch_b c k
  have h2 := sp_ch_b d k
  rw [Int32.toInt_sub]
  exact Int.bmod_eq_of_le (by omega) (by omega)
set_option maxHeartbeats 4000000 in
set_option maxRecDepth 20000 in
/-- DitherDeskModel.at  -/
theorem r_at {l : Launch} {X : vm_Cx} {G : List vm_Sh} {I : Nat → Nat → Int32} {F : Nat → Nat → UInt32} {p : Nat} {x y : Int32} (hR : vm_isR G) (hp : p < 4) : vm_K l X vm_M180 [.ref 152, .int (nI p), .int x, .int y] (G, I, F) (some (.int (144 * nI p + I 153 p * y + x))) (G, I, F) := by
  refine vm_K.mk (by decide) (Nat.le_of_ble_eq_true rfl) ?_
  show vm_J _ _ _ (0, (0, 0), [.ref 152, .int (nI p), .int x, .int y], []) _ _ _
  refine vm_J.go vm_q180 (k := 12) (hs := [vm_shR, (0, 4, [])]) (f' := (16, (0, 0), [.ref 152, .int (nI p), .int x, .int y], [.int (((144 * (nI p)) + ((I 153 (nI p).toNatClampNeg) * y)) + x)])) (h' := (G, I, F)) (hs' := []) rfl (vm_b2 rfl (vm_b2 rfl (vm_b2 rfl (vm_b2 rfl (vm_b2 (vm_b2 (vm_hG hR.c152) rfl) (vm_b2 rfl (vm_b2 (vm_b2 (vm_hG hR.c153) (vm_in_e (j := p) (n := 4) rfl (by omega) (by omega))) (vm_b2 rfl (vm_b2 rfl (vm_b2 rfl (vm_b2 rfl (vm_b2 rfl rfl)))))))))))) ?_
  rw [vm_ix_e (j := p) rfl (by omega)]
  exact vm_J.end vm_q180 (en := (16, .ireturn, 1, [], .null)) rfl rfl vm_rI (Nat.zero_le _) (Nat.zero_le _) rfl
set_option maxHeartbeats 4000000 in
set_option maxRecDepth 20000 in
/-- DitherDeskModel.draw  -/
theorem r_draw {l : Launch} {X : vm_Cx} {G : List vm_Sh} {I : Nat → Nat → Int32} {F : Nat → Nat → UInt32}  (hR : vm_isR G) : vm_K l X vm_M182 [.ref 152] (G, I, F) (some (.int (sp_d (I 152 11 * 1103515245 + 12345)))) (G, (vm_up I 152 11 (I 152 11 * 1103515245 + 12345)), F) := by
  refine vm_K.mk (by decide) (Nat.le_of_ble_eq_true rfl) ?_
  show vm_J _ _ _ (0, (0, 0), [.ref 152], []) _ _ _
  refine vm_J.go vm_q182 (k := 14) (hs := [vm_shR, vm_shR, vm_shR]) (f' := (25, (0, 0), [.ref 152], [.int (((((vm_up I 152 11 (((I 152 11) * 1103515245) + 12345)) 152 11).toUInt32 >>> ((9 : Int32).toUInt32 &&& Int32.toUInt32 31)).toInt32) - ((((vm_up I 152 11 (((I 152 11) * 1103515245) + 12345)) 152 11).toUInt32 >>> ((9 : Int32).toUInt32 &&& Int32.toUInt32 31)).toInt32) / 64 * 64)])) (h' := (G, (vm_up I 152 11 (((I 152 11) * 1103515245) + 12345)), F)) (hs' := []) rfl (vm_b2 rfl (vm_b2 rfl (vm_b2 (vm_b2 (vm_hG hR.c152) rfl) (vm_b2 rfl (vm_b2 rfl (vm_b2 rfl (vm_b2 rfl (vm_b2 (vm_b2 (vm_b2 (vm_hG hR.c152) rfl) rfl) (vm_b2 rfl (vm_b2 (vm_b2 (vm_hG hR.c152) rfl) (vm_b2 rfl (vm_b2 rfl (vm_b2 rfl (vm_b2 rfl rfl)))))))))))))) ?_
  exact vm_J.end vm_q182 (en := (25, .ireturn, 1, [], .null)) rfl (by rw [vm_up_h]; rfl) vm_rI (Nat.zero_le _) (Nat.zero_le _) rfl
theorem r_apart_c {l : Launch} {X : vm_Cx} {G : List vm_Sh} {I : Nat → Nat → Int32} {F : Nat → Nat → UInt32} {c d k : Int32} : vm_K l X vm_M230 [.int (sp_ch c k), .int (sp_ch d k)] (G, I, F) (some (.int (sp_ab (sp_ch c k - sp_ch d k)))) (G, I, F) := by
  rw [← sp_ch_d]
  exact r_apart
theorem vm_m0 {m : Int32} (h : m = 0) : ¬ m = 1 ∧ ¬ m = 2 ∧ ¬ m = 3 := by
  subst h
  decide
