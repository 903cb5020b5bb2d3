set_option maxHeartbeats 4000000 in
set_option maxRecDepth 20000 in
/-- DitherDeskModel.screenAt -/
theorem r_screenAt_0 {l : Launch} {X : vm_Cx} {G : List vm_Sh} {I : Nat → Nat → Int32} {F : Nat → Nat → UInt32} {a : Nat} {b : Nat} (hR : vm_isR G) (hk : I 152 8 = 0) (ha : a ≤ 12) (hb : b ≤ 12) : vm_K l X vm_M247 [.ref 152, .int (nI a), .int (nI b)] (G, I, F) (some (.int (vm_sV 16 (0 + 2 * (b % 2) + a % 2)))) (G, I, F) := by
  refine vm_K.mk (by decide) (Nat.le_of_ble_eq_true rfl) ?_
  show vm_J _ _ _ (0, (0, 0), [.ref 152, .int (nI a), .int (nI b), .retAddr 0], []) _ _ _
  refine vm_J.go vm_q247 (k := 3) (hs := [vm_shR]) (f' := (7, (0, 0), [.ref 152, .int (nI a), .int (nI b), .retAddr 0], [.int (I 152 8), .ref 100015])) (h' := (G, I, F)) (hs' := []) rfl (vm_b2 rfl (vm_b2 rfl (vm_b2 (vm_b2 (vm_hG hR.c152) rfl) rfl))) ?_
  rw [(hk : I 152 8 = 0)]
  refine vm_J.go vm_q247 (k := 6) (hs := [(60, 15, []), vm_shR]) (f' := (19, (0, 0), [.ref 152, .int (nI a), .int (nI b), .int (vm_sV 15 0)], [.int (I 152 8), .ref 100017, .ref 100016])) (h' := (G, I, F)) (hs' := []) rfl (vm_b2 (vm_b2 rfl rfl) (vm_b2 rfl (vm_b2 rfl (vm_b2 rfl (vm_b2 rfl (vm_b2 (vm_b2 (vm_hG hR.c152) rfl) rfl)))))) ?_
  rw [(rfl : vm_sV 15 0 = nI 2)]
  rw [(hk : I 152 8 = 0)]
  refine vm_J.go vm_q247 (k := 12) (hs := [(60, 17, []), (60, 16, [])]) (f' := (31, (0, 0), [.ref 152, .int (nI a), .int (nI b), .int (nI 2)], [.int (vm_sV 16 (((vm_sV 17 0) + ((nI 2) * ((nI b) - (nI b) / (nI 2) * (nI 2)))) + ((nI a) - (nI a) / (nI 2) * (nI 2))).toNatClampNeg)])) (h' := (G, I, F)) (hs' := []) rfl (vm_b2 (vm_b2 rfl rfl) (vm_b2 rfl (vm_b2 rfl (vm_b2 rfl (vm_b2 rfl (vm_b2 rfl (vm_b2 rfl (vm_b2 rfl (vm_b2 rfl (vm_b2 rfl (vm_b2 rfl (vm_b2 (vm_b2 rfl (vm_in_e (j := (0 + (2 * (b % 2))) + (a % 2)) (n := 29) (vm_pa (vm_pa (rfl : (vm_sV 17 0 : Int32) = nI 0) (vm_pm (rfl : (nI 2 : Int32) = nI 2) (vm_pr (rfl : (nI b : Int32) = nI b) (rfl : (nI 2 : Int32) = nI 2) (by omega) (by omega) (by omega)))) (vm_pr (rfl : (nI a : Int32) = nI a) (rfl : (nI 2 : Int32) = nI 2) (by omega) (by omega) (by omega))) (by omega) (by omega))) rfl)))))))))))) ?_
  rw [vm_ix_e (j := (0 + (2 * (b % 2))) + (a % 2)) (vm_pa (vm_pa (rfl : (vm_sV 17 0 : Int32) = nI 0) (vm_pm (rfl : (nI 2 : Int32) = nI 2) (vm_pr (rfl : (nI b : Int32) = nI b) (rfl : (nI 2 : Int32) = nI 2) (by omega) (by omega) (by omega)))) (vm_pr (rfl : (nI a : Int32) = nI a) (rfl : (nI 2 : Int32) = nI 2) (by omega) (by omega) (by omega))) (by omega)]
  exact vm_J.end vm_q247 (en := (31, .ireturn, 1, [], .null)) rfl rfl vm_rI (Nat.zero_le _) (Nat.zero_le _) rfl
set_option maxHeartbeats 4000000 in
set_option maxRecDepth 20000 in
/-- DitherDeskModel.screenAt -/
theorem r_screenAt_1 {l : Launch} {X : vm_Cx} {G : List vm_Sh} {I : Nat → Nat → Int32} {F : Nat → Nat → UInt32} {a : Nat} {b : Nat} (hR : vm_isR G) (hk : I 152 8 = 1) (ha : a ≤ 12) (hb : b ≤ 12) : vm_K l X vm_M247 [.ref 152, .int (nI a), .int (nI b)] (G, I, F) (some (.int (vm_sV 16 (4 + 4 * (b % 4) + a % 4)))) (G, I, F) := by
  refine vm_K.mk (by decide) (Nat.le_of_ble_eq_true rfl) ?_
  show vm_J _ _ _ (0, (0, 0), [.ref 152, .int (nI a), .int (nI b), .retAddr 0], []) _ _ _
  refine vm_J.go vm_q247 (k := 3) (hs := [vm_shR]) (f' := (7, (0, 0), [.ref 152, .int (nI a), .int (nI b), .retAddr 0], [.int (I 152 8), .ref 100015])) (h' := (G, I, F)) (hs' := []) rfl (vm_b2 rfl (vm_b2 rfl (vm_b2 (vm_b2 (vm_hG hR.c152) rfl) rfl))) ?_
  rw [(hk : I 152 8 = 1)]
  refine vm_J.go vm_q247 (k := 6) (hs := [(60, 15, []), vm_shR]) (f' := (19, (0, 0), [.ref 152, .int (nI a), .int (nI b), .int (vm_sV 15 1)], [.int (I 152 8), .ref 100017, .ref 100016])) (h' := (G, I, F)) (hs' := []) rfl (vm_b2 (vm_b2 rfl rfl) (vm_b2 rfl (vm_b2 rfl (vm_b2 rfl (vm_b2 rfl (vm_b2 (vm_b2 (vm_hG hR.c152) rfl) rfl)))))) ?_
  rw [(rfl : vm_sV 15 1 = nI 4)]
  rw [(hk : I 152 8 = 1)]
  refine vm_J.go vm_q247 (k := 12) (hs := [(60, 17, []), (60, 16, [])]) (f' := (31, (0, 0), [.ref 152, .int (nI a), .int (nI b), .int (nI 4)], [.int (vm_sV 16 (((vm_sV 17 1) + ((nI 4) * ((nI b) - (nI b) / (nI 4) * (nI 4)))) + ((nI a) - (nI a) / (nI 4) * (nI 4))).toNatClampNeg)])) (h' := (G, I, F)) (hs' := []) rfl (vm_b2 (vm_b2 rfl rfl) (vm_b2 rfl (vm_b2 rfl (vm_b2 rfl (vm_b2 rfl (vm_b2 rfl (vm_b2 rfl (vm_b2 rfl (vm_b2 rfl (vm_b2 rfl (vm_b2 rfl (vm_b2 (vm_b2 rfl (vm_in_e (j := (4 + (4 * (b % 4))) + (a % 4)) (n := 29) (vm_pa (vm_pa (rfl : (vm_sV 17 1 : Int32) = nI 4) (vm_pm (rfl : (nI 4 : Int32) = nI 4) (vm_pr (rfl : (nI b : Int32) = nI b) (rfl : (nI 4 : Int32) = nI 4) (by omega) (by omega) (by omega)))) (vm_pr (rfl : (nI a : Int32) = nI a) (rfl : (nI 4 : Int32) = nI 4) (by omega) (by omega) (by omega))) (by omega) (by omega))) rfl)))))))))))) ?_
  rw [vm_ix_e (j := (4 + (4 * (b % 4))) + (a % 4)) (vm_pa (vm_pa (rfl : (vm_sV 17 1 : Int32) = nI 4) (vm_pm (rfl : (nI 4 : Int32) = nI 4) (vm_pr (rfl : (nI b : Int32) = nI b) (rfl : (nI 4 : Int32) = nI 4) (by omega) (by omega) (by omega)))) (vm_pr (rfl : (nI a : Int32) = nI a) (rfl : (nI 4 : Int32) = nI 4) (by omega) (by omega) (by omega))) (by omega)]
  exact vm_J.end vm_q247 (en := (31, .ireturn, 1, [], .null)) rfl rfl vm_rI (Nat.zero_le _) (Nat.zero_le _) rfl
set_option maxHeartbeats 4000000 in
set_option maxRecDepth 20000 in
/-- DitherDeskModel.screenAt -/
theorem r_screenAt_2 {l : Launch} {X : vm_Cx} {G : List vm_Sh} {I : Nat → Nat → Int32} {F : Nat → Nat → UInt32} {a : Nat} {b : Nat} (hR : vm_isR G) (hk : I 152 8 = 2) (ha : a ≤ 12) (hb : b ≤ 12) : vm_K l X vm_M247 [.ref 152, .int (nI a), .int (nI b)] (G, I, F) (some (.int (vm_sV 16 (20 + 3 * (b % 3) + a % 3)))) (G, I, F) := by
  refine vm_K.mk (by decide) (Nat.le_of_ble_eq_true rfl) ?_
  show vm_J _ _ _ (0, (0, 0), [.ref 152, .int (nI a), .int (nI b), .retAddr 0], []) _ _ _
  refine vm_J.go vm_q247 (k := 3) (hs := [vm_shR]) (f' := (7, (0, 0), [.ref 152, .int (nI a), .int (nI b), .retAddr 0], [.int (I 152 8), .ref 100015])) (h' := (G, I, F)) (hs' := []) rfl (vm_b2 rfl (vm_b2 rfl (vm_b2 (vm_b2 (vm_hG hR.c152) rfl) rfl))) ?_
  rw [(hk : I 152 8 = 2)]
  refine vm_J.go vm_q247 (k := 6) (hs := [(60, 15, []), vm_shR]) (f' := (19, (0, 0), [.ref 152, .int (nI a), .int (nI b), .int (vm_sV 15 2)], [.int (I 152 8), .ref 100017, .ref 100016])) (h' := (G, I, F)) (hs' := []) rfl (vm_b2 (vm_b2 rfl rfl) (vm_b2 rfl (vm_b2 rfl (vm_b2 rfl (vm_b2 rfl (vm_b2 (vm_b2 (vm_hG hR.c152) rfl) rfl)))))) ?_
  rw [(rfl : vm_sV 15 2 = nI 3)]
  rw [(hk : I 152 8 = 2)]
  refine vm_J.go vm_q247 (k := 12) (hs := [(60, 17, []), (60, 16, [])]) (f' := (31, (0, 0), [.ref 152, .int (nI a), .int (nI b), .int (nI 3)], [.int (vm_sV 16 (((vm_sV 17 2) + ((nI 3) * ((nI b) - (nI b) / (nI 3) * (nI 3)))) + ((nI a) - (nI a) / (nI 3) * (nI 3))).toNatClampNeg)])) (h' := (G, I, F)) (hs' := []) rfl (vm_b2 (vm_b2 rfl rfl) (vm_b2 rfl (vm_b2 rfl (vm_b2 rfl (vm_b2 rfl (vm_b2 rfl (vm_b2 rfl (vm_b2 rfl (vm_b2 rfl (vm_b2 rfl (vm_b2 rfl (vm_b2 (vm_b2 rfl (vm_in_e (j := (20 + (3 * (b % 3))) + (a % 3)) (n := 29) (vm_pa (vm_pa (rfl : (vm_sV 17 2 : Int32) = nI 20) (vm_pm (rfl : (nI 3 : Int32) = nI 3) (vm_pr (rfl : (nI b : Int32) = nI b) (rfl : (nI 3 : Int32) = nI 3) (by omega) (by omega) (by omega)))) (vm_pr (rfl : (nI a : Int32) = nI a) (rfl : (nI 3 : Int32) = nI 3) (by omega) (by omega) (by omega))) (by omega) (by omega))) rfl)))))))))))) ?_
  rw [vm_ix_e (j := (20 + (3 * (b % 3))) + (a % 3)) (vm_pa (vm_pa (rfl : (vm_sV 17 2 : Int32) = nI 20) (vm_pm (rfl : (nI 3 : Int32) = nI 3) (vm_pr (rfl : (nI b : Int32) = nI b) (rfl : (nI 3 : Int32) = nI 3) (by omega) (by omega) (by omega)))) (vm_pr (rfl : (nI a : Int32) = nI a) (rfl : (nI 3 : Int32) = nI 3) (by omega) (by omega) (by omega))) (by omega)]
  exact vm_J.end vm_q247 (en := (31, .ireturn, 1, [], .null)) rfl rfl vm_rI (Nat.zero_le _) (Nat.zero_le _) rfl
