/-- the cutter's cells stand from C on -/
def vm_isC (G : List vm_Sh) (C : Nat) : Prop := (G[C]? = some (3, 5, [.ref (C + 1), .ref (C + 2), .int 0, .ref (C + 3), .int 0])) ∧ (G[C + 1]? = some (0, 144, [])) ∧ (G[C + 2]? = some (0, 144, [])) ∧ (G[C + 3]? = some (54, 16, [.ref (C + 4), .ref (C + 5), .ref (C + 6), .ref (C + 7), .ref (C + 8), .ref (C + 9), .ref (C + 10), .ref (C + 11), .ref (C + 12), .ref (C + 13), .ref (C + 14), .ref (C + 15), .ref (C + 16), .ref (C + 17), .ref (C + 18), .ref (C + 19)])) ∧ (∀ b, b < 16 → G[C + 4 + b]? = some (2, 6, [.int 0, .int 0, .int 0, .int 0, .int 0, .int 0]))
theorem vm_lt16 {p : Int32} (h : 15 < p) : 16 ≤ p := by
  rw [Int32.lt_iff_toInt_lt] at h
  rw [Int32.le_iff_toInt_le]
  have : (15 : Int32).toInt = 15 := rfl
  have : (16 : Int32).toInt = 16 := rfl
  omega
set_option maxHeartbeats 4000000 in
set_option maxRecDepth 20000 in
/-- DitherDesk$Cutter.rawBox  -/
theorem m_rawBox_0 {l : Launch} {X : vm_Cx} {G : List vm_Sh} {I : Nat → Nat → Int32} {F : Nat → Nat → UInt32} {C : Nat} (hC : vm_isC G C) : vm_K l X vm_M8 [.ref C, .int 0] (G, I, F) (some (.ref (C + 4))) (G, I, F) := by
  refine vm_K.mk (by decide) (Nat.le_of_ble_eq_true rfl) ?_
  show vm_J _ _ _ (0, (0, 0), [.ref C, .int 0], []) _ _ _
  refine vm_J.go vm_q8 (k := 2) (hs := []) (f' := (bif vm_ic .lt 0 0 then 22 else 4, (0, 0), [.ref C, .int 0], [])) (h' := (G, I, F)) (hs' := []) rfl rfl ?_
  refine vm_J.bF (by decide) ?_
  refine vm_J.go vm_q8 (k := 5) (hs := [(3, 5, [.ref (C + 1), .ref (C + 2), .int 0, .ref (C + 3), .int 0]), (54, 16, [.ref (C + 4), .ref (C + 5), .ref (C + 6), .ref (C + 7), .ref (C + 8), .ref (C + 9), .ref (C + 10), .ref (C + 11), .ref (C + 12), .ref (C + 13), .ref (C + 14), .ref (C + 15), .ref (C + 16), .ref (C + 17), .ref (C + 18), .ref (C + 19)])]) (f' := (bif vm_ic .ge 0 16 then 22 else 13, (0, 0), [.ref C, .int 0], [])) (h' := (G, I, F)) (hs' := []) rfl (vm_b2 rfl (vm_b2 rfl (vm_b2 (vm_b2 (vm_hG hC.1) rfl) (vm_b2 (vm_b2 (vm_hG hC.2.2.2.1) rfl) (vm_b2 rfl rfl))))) ?_
  refine vm_J.bF (by decide) ?_
  refine vm_J.go vm_q8 (k := 5) (hs := [(3, 5, [.ref (C + 1), .ref (C + 2), .int 0, .ref (C + 3), .int 0]), (54, 16, [.ref (C + 4), .ref (C + 5), .ref (C + 6), .ref (C + 7), .ref (C + 8), .ref (C + 9), .ref (C + 10), .ref (C + 11), .ref (C + 12), .ref (C + 13), .ref (C + 14), .ref (C + 15), .ref (C + 16), .ref (C + 17), .ref (C + 18), .ref (C + 19)])]) (f' := (23, (0, 0), [.ref C, .int 0], [.ref (C + 4)])) (h' := (G, I, F)) (hs' := []) rfl (vm_b2 rfl (vm_b2 (vm_b2 (vm_hG hC.1) rfl) (vm_b2 rfl (vm_b2 (vm_b2 (vm_b2 (vm_hG hC.2.2.2.1) rfl) rfl) (vm_b2 rfl rfl))))) ?_
  exact vm_J.end vm_q8 (en := (23, .areturn, 1, [], .null)) rfl rfl vm_rA (Nat.zero_le _) (Nat.zero_le _) rfl
set_option maxHeartbeats 4000000 in
set_option maxRecDepth 20000 in
/-- DitherDesk$Cutter.rawBox  -/
theorem m_rawBox_1 {l : Launch} {X : vm_Cx} {G : List vm_Sh} {I : Nat → Nat → Int32} {F : Nat → Nat → UInt32} {C : Nat} (hC : vm_isC G C) : vm_K l X vm_M8 [.ref C, .int 1] (G, I, F) (some (.ref (C + 5))) (G, I, F) := by
  refine vm_K.mk (by decide) (Nat.le_of_ble_eq_true rfl) ?_
  show vm_J _ _ _ (0, (0, 0), [.ref C, .int 1], []) _ _ _
  refine vm_J.go vm_q8 (k := 2) (hs := []) (f' := (bif vm_ic .lt 1 0 then 22 else 4, (0, 0), [.ref C, .int 1], [])) (h' := (G, I, F)) (hs' := []) rfl rfl ?_
  refine vm_J.bF (by decide) ?_
  refine vm_J.go vm_q8 (k := 5) (hs := [(3, 5, [.ref (C + 1), .ref (C + 2), .int 0, .ref (C + 3), .int 0]), (54, 16, [.ref (C + 4), .ref (C + 5), .ref (C + 6), .ref (C + 7), .ref (C + 8), .ref (C + 9), .ref (C + 10), .ref (C + 11), .ref (C + 12), .ref (C + 13), .ref (C + 14), .ref (C + 15), .ref (C + 16), .ref (C + 17), .ref (C + 18), .ref (C + 19)])]) (f' := (bif vm_ic .ge 1 16 then 22 else 13, (0, 0), [.ref C, .int 1], [])) (h' := (G, I, F)) (hs' := []) rfl (vm_b2 rfl (vm_b2 rfl (vm_b2 (vm_b2 (vm_hG hC.1) rfl) (vm_b2 (vm_b2 (vm_hG hC.2.2.2.1) rfl) (vm_b2 rfl rfl))))) ?_
  refine vm_J.bF (by decide) ?_
  refine vm_J.go vm_q8 (k := 5) (hs := [(3, 5, [.ref (C + 1), .ref (C + 2), .int 0, .ref (C + 3), .int 0]), (54, 16, [.ref (C + 4), .ref (C + 5), .ref (C + 6), .ref (C + 7), .ref (C + 8), .ref (C + 9), .ref (C + 10), .ref (C + 11), .ref (C + 12), .ref (C + 13), .ref (C + 14), .ref (C + 15), .ref (C + 16), .ref (C + 17), .ref (C + 18), .ref (C + 19)])]) (f' := (23, (0, 0), [.ref C, .int 1], [.ref (C + 5)])) (h' := (G, I, F)) (hs' := []) rfl (vm_b2 rfl (vm_b2 (vm_b2 (vm_hG hC.1) rfl) (vm_b2 rfl (vm_b2 (vm_b2 (vm_b2 (vm_hG hC.2.2.2.1) rfl) rfl) (vm_b2 rfl rfl))))) ?_
  exact vm_J.end vm_q8 (en := (23, .areturn, 1, [], .null)) rfl rfl vm_rA (Nat.zero_le _) (Nat.zero_le _) rfl
set_option maxHeartbeats 4000000 in
set_option maxRecDepth 20000 in
/-- DitherDesk$Cutter.rawBox  -/
theorem m_rawBox_2 {l : Launch} {X : vm_Cx} {G : List vm_Sh} {I : Nat → Nat → Int32} {F : Nat → Nat → UInt32} {C : Nat} (hC : vm_isC G C) : vm_K l X vm_M8 [.ref C, .int 2] (G, I, F) (some (.ref (C + 6))) (G, I, F) := by
  refine vm_K.mk (by decide) (Nat.le_of_ble_eq_true rfl) ?_
  show vm_J _ _ _ (0, (0, 0), [.ref C, .int 2], []) _ _ _
  refine vm_J.go vm_q8 (k := 2) (hs := []) (f' := (bif vm_ic .lt 2 0 then 22 else 4, (0, 0), [.ref C, .int 2], [])) (h' := (G, I, F)) (hs' := []) rfl rfl ?_
  refine vm_J.bF (by decide) ?_
  refine vm_J.go vm_q8 (k := 5) (hs := [(3, 5, [.ref (C + 1), .ref (C + 2), .int 0, .ref (C + 3), .int 0]), (54, 16, [.ref (C + 4), .ref (C + 5), .ref (C + 6), .ref (C + 7), .ref (C + 8), .ref (C + 9), .ref (C + 10), .ref (C + 11), .ref (C + 12), .ref (C + 13), .ref (C + 14), .ref (C + 15), .ref (C + 16), .ref (C + 17), .ref (C + 18), .ref (C + 19)])]) (f' := (bif vm_ic .ge 2 16 then 22 else 13, (0, 0), [.ref C, .int 2], [])) (h' := (G, I, F)) (hs' := []) rfl (vm_b2 rfl (vm_b2 rfl (vm_b2 (vm_b2 (vm_hG hC.1) rfl) (vm_b2 (vm_b2 (vm_hG hC.2.2.2.1) rfl) (vm_b2 rfl rfl))))) ?_
  refine vm_J.bF (by decide) ?_
  refine vm_J.go vm_q8 (k := 5) (hs := [(3, 5, [.ref (C + 1), .ref (C + 2), .int 0, .ref (C + 3), .int 0]), (54, 16, [.ref (C + 4), .ref (C + 5), .ref (C + 6), .ref (C + 7), .ref (C + 8), .ref (C + 9), .ref (C + 10), .ref (C + 11), .ref (C + 12), .ref (C + 13), .ref (C + 14), .ref (C + 15), .ref (C + 16), .ref (C + 17), .ref (C + 18), .ref (C + 19)])]) (f' := (23, (0, 0), [.ref C, .int 2], [.ref (C + 6)])) (h' := (G, I, F)) (hs' := []) rfl (vm_b2 rfl (vm_b2 (vm_b2 (vm_hG hC.1) rfl) (vm_b2 rfl (vm_b2 (vm_b2 (vm_b2 (vm_hG hC.2.2.2.1) rfl) rfl) (vm_b2 rfl rfl))))) ?_
  exact vm_J.end vm_q8 (en := (23, .areturn, 1, [], .null)) rfl rfl vm_rA (Nat.zero_le _) (Nat.zero_le _) rfl
set_option maxHeartbeats 4000000 in
set_option maxRecDepth 20000 in
/-- DitherDesk$Cutter.rawBox  -/
theorem m_rawBox_3 {l : Launch} {X : vm_Cx} {G : List vm_Sh} {I : Nat → Nat → Int32} {F : Nat → Nat → UInt32} {C : Nat} (hC : vm_isC G C) : vm_K l X vm_M8 [.ref C, .int 3] (G, I, F) (some (.ref (C + 7))) (G, I, F) := by
  refine vm_K.mk (by decide) (Nat.le_of_ble_eq_true rfl) ?_
  show vm_J _ _ _ (0, (0, 0), [.ref C, .int 3], []) _ _ _
  refine vm_J.go vm_q8 (k := 2) (hs := []) (f' := (bif vm_ic .lt 3 0 then 22 else 4, (0, 0), [.ref C, .int 3], [])) (h' := (G, I, F)) (hs' := []) rfl rfl ?_
  refine vm_J.bF (by decide) ?_
  refine vm_J.go vm_q8 (k := 5) (hs := [(3, 5, [.ref (C + 1), .ref (C + 2), .int 0, .ref (C + 3), .int 0]), (54, 16, [.ref (C + 4), .ref (C + 5), .ref (C + 6), .ref (C + 7), .ref (C + 8), .ref (C + 9), .ref (C + 10), .ref (C + 11), .ref (C + 12), .ref (C + 13), .ref (C + 14), .ref (C + 15), .ref (C + 16), .ref (C + 17), .ref (C + 18), .ref (C + 19)])]) (f' := (bif vm_ic .ge 3 16 then 22 else 13, (0, 0), [.ref C, .int 3], [])) (h' := (G, I, F)) (hs' := []) rfl (vm_b2 rfl (vm_b2 rfl (vm_b2 (vm_b2 (vm_hG hC.1) rfl) (vm_b2 (vm_b2 (vm_hG hC.2.2.2.1) rfl) (vm_b2 rfl rfl))))) ?_
  refine vm_J.bF (by decide) ?_
  refine vm_J.go vm_q8 (k := 5) (hs := [(3, 5, [.ref (C + 1), .ref (C + 2), .int 0, .ref (C + 3), .int 0]), (54, 16, [.ref (C + 4), .ref (C + 5), .ref (C + 6), .ref (C + 7), .ref (C + 8), .ref (C + 9), .ref (C + 10), .ref (C + 11), .ref (C + 12), .ref (C + 13), .ref (C + 14), .ref (C + 15), .ref (C + 16), .ref (C + 17), .ref (C + 18), .ref (C + 19)])]) (f' := (23, (0, 0), [.ref C, .int 3], [.ref (C + 7)])) (h' := (G, I, F)) (hs' := []) rfl (vm_b2 rfl (vm_b2 (vm_b2 (vm_hG hC.1) rfl) (vm_b2 rfl (vm_b2 (vm_b2 (vm_b2 (vm_hG hC.2.2.2.1) rfl) rfl) (vm_b2 rfl rfl))))) ?_
  exact vm_J.end vm_q8 (en := (23, .areturn, 1, [], .null)) rfl rfl vm_rA (Nat.zero_le _) (Nat.zero_le _) rfl
set_option maxHeartbeats 4000000 in
set_option maxRecDepth 20000 in
/-- DitherDesk$Cutter.rawBox  -/
theorem m_rawBox_4 {l : Launch} {X : vm_Cx} {G : List vm_Sh} {I : Nat → Nat → Int32} {F : Nat → Nat → UInt32} {C : Nat} (hC : vm_isC G C) : vm_K l X vm_M8 [.ref C, .int 4] (G, I, F) (some (.ref (C + 8))) (G, I, F) := by
  refine vm_K.mk (by decide) (Nat.le_of_ble_eq_true rfl) ?_
  show vm_J _ _ _ (0, (0, 0), [.ref C, .int 4], []) _ _ _
  refine vm_J.go vm_q8 (k := 2) (hs := []) (f' := (bif vm_ic .lt 4 0 then 22 else 4, (0, 0), [.ref C, .int 4], [])) (h' := (G, I, F)) (hs' := []) rfl rfl ?_
  refine vm_J.bF (by decide) ?_
  refine vm_J.go vm_q8 (k := 5) (hs := [(3, 5, [.ref (C + 1), .ref (C + 2), .int 0, .ref (C + 3), .int 0]), (54, 16, [.ref (C + 4), .ref (C + 5), .ref (C + 6), .ref (C + 7), .ref (C + 8), .ref (C + 9), .ref (C + 10), .ref (C + 11), .ref (C + 12), .ref (C + 13), .ref (C + 14), .ref (C + 15), .ref (C + 16), .ref (C + 17), .ref (C + 18), .ref (C + 19)])]) (f' := (bif vm_ic .ge 4 16 then 22 else 13, (0, 0), [.ref C, .int 4], [])) (h' := (G, I, F)) (hs' := []) rfl (vm_b2 rfl (vm_b2 rfl (vm_b2 (vm_b2 (vm_hG hC.1) rfl) (vm_b2 (vm_b2 (vm_hG hC.2.2.2.1) rfl) (vm_b2 rfl rfl))))) ?_
  refine vm_J.bF (by decide) ?_
  refine vm_J.go vm_q8 (k := 5) (hs := [(3, 5, [.ref (C + 1), .ref (C + 2), .int 0, .ref (C + 3), .int 0]), (54, 16, [.ref (C + 4), .ref (C + 5), .ref (C + 6), .ref (C + 7), .ref (C + 8), .ref (C + 9), .ref (C + 10), .ref (C + 11), .ref (C + 12), .ref (C + 13), .ref (C + 14), .ref (C + 15), .ref (C + 16), .ref (C + 17), .ref (C + 18), .ref (C + 19)])]) (f' := (23, (0, 0), [.ref C, .int 4], [.ref (C + 8)])) (h' := (G, I, F)) (hs' := []) rfl (vm_b2 rfl (vm_b2 (vm_b2 (vm_hG hC.1) rfl) (vm_b2 rfl (vm_b2 (vm_b2 (vm_b2 (vm_hG hC.2.2.2.1) rfl) rfl) (vm_b2 rfl rfl))))) ?_
  exact vm_J.end vm_q8 (en := (23, .areturn, 1, [], .null)) rfl rfl vm_rA (Nat.zero_le _) (Nat.zero_le _) rfl
set_option maxHeartbeats 4000000 in
set_option maxRecDepth 20000 in
/-- DitherDesk$Cutter.rawBox  -/
theorem m_rawBox_5 {l : Launch} {X : vm_Cx} {G : List vm_Sh} {I : Nat → Nat → Int32} {F : Nat → Nat → UInt32} {C : Nat} (hC : vm_isC G C) : vm_K l X vm_M8 [.ref C, .int 5] (G, I, F) (some (.ref (C + 9))) (G, I, F) := by
  refine vm_K.mk (by decide) (Nat.le_of_ble_eq_true rfl) ?_
  show vm_J _ _ _ (0, (0, 0), [.ref C, .int 5], []) _ _ _
  refine vm_J.go vm_q8 (k := 2) (hs := []) (f' := (bif vm_ic .lt 5 0 then 22 else 4, (0, 0), [.ref C, .int 5], [])) (h' := (G, I, F)) (hs' := []) rfl rfl ?_
  refine vm_J.bF (by decide) ?_
  refine vm_J.go vm_q8 (k := 5) (hs := [(3, 5, [.ref (C + 1), .ref (C + 2), .int 0, .ref (C + 3), .int 0]), (54, 16, [.ref (C + 4), .ref (C + 5), .ref (C + 6), .ref (C + 7), .ref (C + 8), .ref (C + 9), .ref (C + 10), .ref (C + 11), .ref (C + 12), .ref (C + 13), .ref (C + 14), .ref (C + 15), .ref (C + 16), .ref (C + 17), .ref (C + 18), .ref (C + 19)])]) (f' := (bif vm_ic .ge 5 16 then 22 else 13, (0, 0), [.ref C, .int 5], [])) (h' := (G, I, F)) (hs' := []) rfl (vm_b2 rfl (vm_b2 rfl (vm_b2 (vm_b2 (vm_hG hC.1) rfl) (vm_b2 (vm_b2 (vm_hG hC.2.2.2.1) rfl) (vm_b2 rfl rfl))))) ?_
  refine vm_J.bF (by decide) ?_
  refine vm_J.go vm_q8 (k := 5) (hs := [(3, 5, [.ref (C + 1), .ref (C + 2), .int 0, .ref (C + 3), .int 0]), (54, 16, [.ref (C + 4), .ref (C + 5), .ref (C + 6), .ref (C + 7), .ref (C + 8), .ref (C + 9), .ref (C + 10), .ref (C + 11), .ref (C + 12), .ref (C + 13), .ref (C + 14), .ref (C + 15), .ref (C + 16), .ref (C + 17), .ref (C + 18), .ref (C + 19)])]) (f' := (23, (0, 0), [.ref C, .int 5], [.ref (C + 9)])) (h' := (G, I, F)) (hs' := []) rfl (vm_b2 rfl (vm_b2 (vm_b2 (vm_hG hC.1) rfl) (vm_b2 rfl (vm_b2 (vm_b2 (vm_b2 (vm_hG hC.2.2.2.1) rfl) rfl) (vm_b2 rfl rfl))))) ?_
  exact vm_J.end vm_q8 (en := (23, .areturn, 1, [], .null)) rfl rfl vm_rA (Nat.zero_le _) (Nat.zero_le _) rfl
set_option maxHeartbeats 4000000 in
set_option maxRecDepth 20000 in
/-- DitherDesk$Cutter.rawBox  -/
theorem m_rawBox_6 {l : Launch} {X : vm_Cx} {G : List vm_Sh} {I : Nat → Nat → Int32} {F : Nat → Nat → UInt32} {C : Nat} (hC : vm_isC G C) : vm_K l X vm_M8 [.ref C, .int 6] (G, I, F) (some (.ref (C + 10))) (G, I, F) := by
  refine vm_K.mk (by decide) (Nat.le_of_ble_eq_true rfl) ?_
  show vm_J _ _ _ (0, (0, 0), [.ref C, .int 6], []) _ _ _
  refine vm_J.go vm_q8 (k := 2) (hs := []) (f' := (bif vm_ic .lt 6 0 then 22 else 4, (0, 0), [.ref C, .int 6], [])) (h' := (G, I, F)) (hs' := []) rfl rfl ?_
  refine vm_J.bF (by decide) ?_
  refine vm_J.go vm_q8 (k := 5) (hs := [(3, 5, [.ref (C + 1), .ref (C + 2), .int 0, .ref (C + 3), .int 0]), (54, 16, [.ref (C + 4), .ref (C + 5), .ref (C + 6), .ref (C + 7), .ref (C + 8), .ref (C + 9), .ref (C + 10), .ref (C + 11), .ref (C + 12), .ref (C + 13), .ref (C + 14), .ref (C + 15), .ref (C + 16), .ref (C + 17), .ref (C + 18), .ref (C + 19)])]) (f' := (bif vm_ic .ge 6 16 then 22 else 13, (0, 0), [.ref C, .int 6], [])) (h' := (G, I, F)) (hs' := []) rfl (vm_b2 rfl (vm_b2 rfl (vm_b2 (vm_b2 (vm_hG hC.1) rfl) (vm_b2 (vm_b2 (vm_hG hC.2.2.2.1) rfl) (vm_b2 rfl rfl))))) ?_
  refine vm_J.bF (by decide) ?_
  refine vm_J.go vm_q8 (k := 5) (hs := [(3, 5, [.ref (C + 1), .ref (C + 2), .int 0, .ref (C + 3), .int 0]), (54, 16, [.ref (C + 4), .ref (C + 5), .ref (C + 6), .ref (C + 7), .ref (C + 8), .ref (C + 9), .ref (C + 10), .ref (C + 11), .ref (C + 12), .ref (C + 13), .ref (C + 14), .ref (C + 15), .ref (C + 16), .ref (C + 17), .ref (C + 18), .ref (C + 19)])]) (f' := (23, (0, 0), [.ref C, .int 6], [.ref (C + 10)])) (h' := (G, I, F)) (hs' := []) rfl (vm_b2 rfl (vm_b2 (vm_b2 (vm_hG hC.1) rfl) (vm_b2 rfl (vm_b2 (vm_b2 (vm_b2 (vm_hG hC.2.2.2.1) rfl) rfl) (vm_b2 rfl rfl))))) ?_
  exact vm_J.end vm_q8 (en := (23, .areturn, 1, [], .null)) rfl rfl vm_rA (Nat.zero_le _) (Nat.zero_le _) rfl
set_option maxHeartbeats 4000000 in
set_option maxRecDepth 20000 in
/-- DitherDesk$Cutter.rawBox  -/
theorem m_rawBox_7 {l : Launch} {X : vm_Cx} {G : List vm_Sh} {I : Nat → Nat → Int32} {F : Nat → Nat → UInt32} {C : Nat} (hC : vm_isC G C) : vm_K l X vm_M8 [.ref C, .int 7] (G, I, F) (some (.ref (C + 11))) (G, I, F) := by
  refine vm_K.mk (by decide) (Nat.le_of_ble_eq_true rfl) ?_
  show vm_J _ _ _ (0, (0, 0), [.ref C, .int 7], []) _ _ _
  refine vm_J.go vm_q8 (k := 2) (hs := []) (f' := (bif vm_ic .lt 7 0 then 22 else 4, (0, 0), [.ref C, .int 7], [])) (h' := (G, I, F)) (hs' := []) rfl rfl ?_
  refine vm_J.bF (by decide) ?_
  refine vm_J.go vm_q8 (k := 5) (hs := [(3, 5, [.ref (C + 1), .ref (C + 2), .int 0, .ref (C + 3), .int 0]), (54, 16, [.ref (C + 4), .ref (C + 5), .ref (C + 6), .ref (C + 7), .ref (C + 8), .ref (C + 9), .ref (C + 10), .ref (C + 11), .ref (C + 12), .ref (C + 13), .ref (C + 14), .ref (C + 15), .ref (C + 16), .ref (C + 17), .ref (C + 18), .ref (C + 19)])]) (f' := (bif vm_ic .ge 7 16 then 22 else 13, (0, 0), [.ref C, .int 7], [])) (h' := (G, I, F)) (hs' := []) rfl (vm_b2 rfl (vm_b2 rfl (vm_b2 (vm_b2 (vm_hG hC.1) rfl) (vm_b2 (vm_b2 (vm_hG hC.2.2.2.1) rfl) (vm_b2 rfl rfl))))) ?_
  refine vm_J.bF (by decide) ?_
  refine vm_J.go vm_q8 (k := 5) (hs := [(3, 5, [.ref (C + 1), .ref (C + 2), .int 0, .ref (C + 3), .int 0]), (54, 16, [.ref (C + 4), .ref (C + 5), .ref (C + 6), .ref (C + 7), .ref (C + 8), .ref (C + 9), .ref (C + 10), .ref (C + 11), .ref (C + 12), .ref (C + 13), .ref (C + 14), .ref (C + 15), .ref (C + 16), .ref (C + 17), .ref (C + 18), .ref (C + 19)])]) (f' := (23, (0, 0), [.ref C, .int 7], [.ref (C + 11)])) (h' := (G, I, F)) (hs' := []) rfl (vm_b2 rfl (vm_b2 (vm_b2 (vm_hG hC.1) rfl) (vm_b2 rfl (vm_b2 (vm_b2 (vm_b2 (vm_hG hC.2.2.2.1) rfl) rfl) (vm_b2 rfl rfl))))) ?_
  exact vm_J.end vm_q8 (en := (23, .areturn, 1, [], .null)) rfl rfl vm_rA (Nat.zero_le _) (Nat.zero_le _) rfl
set_option maxHeartbeats 4000000 in
set_option maxRecDepth 20000 in
/-- DitherDesk$Cutter.rawBox  -/
theorem m_rawBox_8 {l : Launch} {X : vm_Cx} {G : List vm_Sh} {I : Nat → Nat → Int32} {F : Nat → Nat → UInt32} {C : Nat} (hC : vm_isC G C) : vm_K l X vm_M8 [.ref C, .int 8] (G, I, F) (some (.ref (C + 12))) (G, I, F) := by
  refine vm_K.mk (by decide) (Nat.le_of_ble_eq_true rfl) ?_
  show vm_J _ _ _ (0, (0, 0), [.ref C, .int 8], []) _ _ _
  refine vm_J.go vm_q8 (k := 2) (hs := []) (f' := (bif vm_ic .lt 8 0 then 22 else 4, (0, 0), [.ref C, .int 8], [])) (h' := (G, I, F)) (hs' := []) rfl rfl ?_
  refine vm_J.bF (by decide) ?_
  refine vm_J.go vm_q8 (k := 5) (hs := [(3, 5, [.ref (C + 1), .ref (C + 2), .int 0, .ref (C + 3), .int 0]), (54, 16, [.ref (C + 4), .ref (C + 5), .ref (C + 6), .ref (C + 7), .ref (C + 8), .ref (C + 9), .ref (C + 10), .ref (C + 11), .ref (C + 12), .ref (C + 13), .ref (C + 14), .ref (C + 15), .ref (C + 16), .ref (C + 17), .ref (C + 18), .ref (C + 19)])]) (f' := (bif vm_ic .ge 8 16 then 22 else 13, (0, 0), [.ref C, .int 8], [])) (h' := (G, I, F)) (hs' := []) rfl (vm_b2 rfl (vm_b2 rfl (vm_b2 (vm_b2 (vm_hG hC.1) rfl) (vm_b2 (vm_b2 (vm_hG hC.2.2.2.1) rfl) (vm_b2 rfl rfl))))) ?_
  refine vm_J.bF (by decide) ?_
  refine vm_J.go vm_q8 (k := 5) (hs := [(3, 5, [.ref (C + 1), .ref (C + 2), .int 0, .ref (C + 3), .int 0]), (54, 16, [.ref (C + 4), .ref (C + 5), .ref (C + 6), .ref (C + 7), .ref (C + 8), .ref (C + 9), .ref (C + 10), .ref (C + 11), .ref (C + 12), .ref (C + 13), .ref (C + 14), .ref (C + 15), .ref (C + 16), .ref (C + 17), .ref (C + 18), .ref (C + 19)])]) (f' := (23, (0, 0), [.ref C, .int 8], [.ref (C + 12)])) (h' := (G, I, F)) (hs' := []) rfl (vm_b2 rfl (vm_b2 (vm_b2 (vm_hG hC.1) rfl) (vm_b2 rfl (vm_b2 (vm_b2 (vm_b2 (vm_hG hC.2.2.2.1) rfl) rfl) (vm_b2 rfl rfl))))) ?_
  exact vm_J.end vm_q8 (en := (23, .areturn, 1, [], .null)) rfl rfl vm_rA (Nat.zero_le _) (Nat.zero_le _) rfl
set_option maxHeartbeats 4000000 in
set_option maxRecDepth 20000 in
/-- DitherDesk$Cutter.rawBox  -/
theorem m_rawBox_9 {l : Launch} {X : vm_Cx} {G : List vm_Sh} {I : Nat → Nat → Int32} {F : Nat → Nat → UInt32} {C : Nat} (hC : vm_isC G C) : vm_K l X vm_M8 [.ref C, .int 9] (G, I, F) (some (.ref (C + 13))) (G, I, F) := by
  refine vm_K.mk (by decide) (Nat.le_of_ble_eq_true rfl) ?_
  show vm_J _ _ _ (0, (0, 0), [.ref C, .int 9], []) _ _ _
  refine vm_J.go vm_q8 (k := 2) (hs := []) (f' := (bif vm_ic .lt 9 0 then 22 else 4, (0, 0), [.ref C, .int 9], [])) (h' := (G, I, F)) (hs' := []) rfl rfl ?_
  refine vm_J.bF (by decide) ?_
  refine vm_J.go vm_q8 (k := 5) (hs := [(3, 5, [.ref (C + 1), .ref (C + 2), .int 0, .ref (C + 3), .int 0]), (54, 16, [.ref (C + 4), .ref (C + 5), .ref (C + 6), .ref (C + 7), .ref (C + 8), .ref (C + 9), .ref (C + 10), .ref (C + 11), .ref (C + 12), .ref (C + 13), .ref (C + 14), .ref (C + 15), .ref (C + 16), .ref (C + 17), .ref (C + 18), .ref (C + 19)])]) (f' := (bif vm_ic .ge 9 16 then 22 else 13, (0, 0), [.ref C, .int 9], [])) (h' := (G, I, F)) (hs' := []) rfl (vm_b2 rfl (vm_b2 rfl (vm_b2 (vm_b2 (vm_hG hC.1) rfl) (vm_b2 (vm_b2 (vm_hG hC.2.2.2.1) rfl) (vm_b2 rfl rfl))))) ?_
  refine vm_J.bF (by decide) ?_
  refine vm_J.go vm_q8 (k := 5) (hs := [(3, 5, [.ref (C + 1), .ref (C + 2), .int 0, .ref (C + 3), .int 0]), (54, 16, [.ref (C + 4), .ref (C + 5), .ref (C + 6), .ref (C + 7), .ref (C + 8), .ref (C + 9), .ref (C + 10), .ref (C + 11), .ref (C + 12), .ref (C + 13), .ref (C + 14), .ref (C + 15), .ref (C + 16), .ref (C + 17), .ref (C + 18), .ref (C + 19)])]) (f' := (23, (0, 0), [.ref C, .int 9], [.ref (C + 13)])) (h' := (G, I, F)) (hs' := []) rfl (vm_b2 rfl (vm_b2 (vm_b2 (vm_hG hC.1) rfl) (vm_b2 rfl (vm_b2 (vm_b2 (vm_b2 (vm_hG hC.2.2.2.1) rfl) rfl) (vm_b2 rfl rfl))))) ?_
  exact vm_J.end vm_q8 (en := (23, .areturn, 1, [], .null)) rfl rfl vm_rA (Nat.zero_le _) (Nat.zero_le _) rfl
set_option maxHeartbeats 4000000 in
set_option maxRecDepth 20000 in
/-- DitherDesk$Cutter.rawBox  -/
theorem m_rawBox_10 {l : Launch} {X : vm_Cx} {G : List vm_Sh} {I : Nat → Nat → Int32} {F : Nat → Nat → UInt32} {C : Nat} (hC : vm_isC G C) : vm_K l X vm_M8 [.ref C, .int 10] (G, I, F) (some (.ref (C + 14))) (G, I, F) := by
  refine vm_K.mk (by decide) (Nat.le_of_ble_eq_true rfl) ?_
  show vm_J _ _ _ (0, (0, 0), [.ref C, .int 10], []) _ _ _
  refine vm_J.go vm_q8 (k := 2) (hs := []) (f' := (bif vm_ic .lt 10 0 then 22 else 4, (0, 0), [.ref C, .int 10], [])) (h' := (G, I, F)) (hs' := []) rfl rfl ?_
  refine vm_J.bF (by decide) ?_
  refine vm_J.go vm_q8 (k := 5) (hs := [(3, 5, [.ref (C + 1), .ref (C + 2), .int 0, .ref (C + 3), .int 0]), (54, 16, [.ref (C + 4), .ref (C + 5), .ref (C + 6), .ref (C + 7), .ref (C + 8), .ref (C + 9), .ref (C + 10), .ref (C + 11), .ref (C + 12), .ref (C + 13), .ref (C + 14), .ref (C + 15), .ref (C + 16), .ref (C + 17), .ref (C + 18), .ref (C + 19)])]) (f' := (bif vm_ic .ge 10 16 then 22 else 13, (0, 0), [.ref C, .int 10], [])) (h' := (G, I, F)) (hs' := []) rfl (vm_b2 rfl (vm_b2 rfl (vm_b2 (vm_b2 (vm_hG hC.1) rfl) (vm_b2 (vm_b2 (vm_hG hC.2.2.2.1) rfl) (vm_b2 rfl rfl))))) ?_
  refine vm_J.bF (by decide) ?_
  refine vm_J.go vm_q8 (k := 5) (hs := [(3, 5, [.ref (C + 1), .ref (C + 2), .int 0, .ref (C + 3), .int 0]), (54, 16, [.ref (C + 4), .ref (C + 5), .ref (C + 6), .ref (C + 7), .ref (C + 8), .ref (C + 9), .ref (C + 10), .ref (C + 11), .ref (C + 12), .ref (C + 13), .ref (C + 14), .ref (C + 15), .ref (C + 16), .ref (C + 17), .ref (C + 18), .ref (C + 19)])]) (f' := (23, (0, 0), [.ref C, .int 10], [.ref (C + 14)])) (h' := (G, I, F)) (hs' := []) rfl (vm_b2 rfl (vm_b2 (vm_b2 (vm_hG hC.1) rfl) (vm_b2 rfl (vm_b2 (vm_b2 (vm_b2 (vm_hG hC.2.2.2.1) rfl) rfl) (vm_b2 rfl rfl))))) ?_
  exact vm_J.end vm_q8 (en := (23, .areturn, 1, [], .null)) rfl rfl vm_rA (Nat.zero_le _) (Nat.zero_le _) rfl
set_option maxHeartbeats 4000000 in
set_option maxRecDepth 20000 in
/-- DitherDesk$Cutter.rawBox  -/
theorem m_rawBox_11 {l : Launch} {X : vm_Cx} {G : List vm_Sh} {I : Nat → Nat → Int32} {F : Nat → Nat → UInt32} {C : Nat} (hC : vm_isC G C) : vm_K l X vm_M8 [.ref C, .int 11] (G, I, F) (some (.ref (C + 15))) (G, I, F) := by
  refine vm_K.mk (by decide) (Nat.le_of_ble_eq_true rfl) ?_
  show vm_J _ _ _ (0, (0, 0), [.ref C, .int 11], []) _ _ _
  refine vm_J.go vm_q8 (k := 2) (hs := []) (f' := (bif vm_ic .lt 11 0 then 22 else 4, (0, 0), [.ref C, .int 11], [])) (h' := (G, I, F)) (hs' := []) rfl rfl ?_
  refine vm_J.bF (by decide) ?_
  refine vm_J.go vm_q8 (k := 5) (hs := [(3, 5, [.ref (C + 1), .ref (C + 2), .int 0, .ref (C + 3), .int 0]), (54, 16, [.ref (C + 4), .ref (C + 5), .ref (C + 6), .ref (C + 7), .ref (C + 8), .ref (C + 9), .ref (C + 10), .ref (C + 11), .ref (C + 12), .ref (C + 13), .ref (C + 14), .ref (C + 15), .ref (C + 16), .ref (C + 17), .ref (C + 18), .ref (C + 19)])]) (f' := (bif vm_ic .ge 11 16 then 22 else 13, (0, 0), [.ref C, .int 11], [])) (h' := (G, I, F)) (hs' := []) rfl (vm_b2 rfl (vm_b2 rfl (vm_b2 (vm_b2 (vm_hG hC.1) rfl) (vm_b2 (vm_b2 (vm_hG hC.2.2.2.1) rfl) (vm_b2 rfl rfl))))) ?_
  refine vm_J.bF (by decide) ?_
  refine vm_J.go vm_q8 (k := 5) (hs := [(3, 5, [.ref (C + 1), .ref (C + 2), .int 0, .ref (C + 3), .int 0]), (54, 16, [.ref (C + 4), .ref (C + 5), .ref (C + 6), .ref (C + 7), .ref (C + 8), .ref (C + 9), .ref (C + 10), .ref (C + 11), .ref (C + 12), .ref (C + 13), .ref (C + 14), .ref (C + 15), .ref (C + 16), .ref (C + 17), .ref (C + 18), .ref (C + 19)])]) (f' := (23, (0, 0), [.ref C, .int 11], [.ref (C + 15)])) (h' := (G, I, F)) (hs' := []) rfl (vm_b2 rfl (vm_b2 (vm_b2 (vm_hG hC.1) rfl) (vm_b2 rfl (vm_b2 (vm_b2 (vm_b2 (vm_hG hC.2.2.2.1) rfl) rfl) (vm_b2 rfl rfl))))) ?_
  exact vm_J.end vm_q8 (en := (23, .areturn, 1, [], .null)) rfl rfl vm_rA (Nat.zero_le _) (Nat.zero_le _) rfl
set_option maxHeartbeats 4000000 in
set_option maxRecDepth 20000 in
/-- DitherDesk$Cutter.rawBox  -/
theorem m_rawBox_12 {l : Launch} {X : vm_Cx} {G : List vm_Sh} {I : Nat → Nat → Int32} {F : Nat → Nat → UInt32} {C : Nat} (hC : vm_isC G C) : vm_K l X vm_M8 [.ref C, .int 12] (G, I, F) (some (.ref (C + 16))) (G, I, F) := by
  refine vm_K.mk (by decide) (Nat.le_of_ble_eq_true rfl) ?_
  show vm_J _ _ _ (0, (0, 0), [.ref C, .int 12], []) _ _ _
  refine vm_J.go vm_q8 (k := 2) (hs := []) (f' := (bif vm_ic .lt 12 0 then 22 else 4, (0, 0), [.ref C, .int 12], [])) (h' := (G, I, F)) (hs' := []) rfl rfl ?_
  refine vm_J.bF (by decide) ?_
  refine vm_J.go vm_q8 (k := 5) (hs := [(3, 5, [.ref (C + 1), .ref (C + 2), .int 0, .ref (C + 3), .int 0]), (54, 16, [.ref (C + 4), .ref (C + 5), .ref (C + 6), .ref (C + 7), .ref (C + 8), .ref (C + 9), .ref (C + 10), .ref (C + 11), .ref (C + 12), .ref (C + 13), .ref (C + 14), .ref (C + 15), .ref (C + 16), .ref (C + 17), .ref (C + 18), .ref (C + 19)])]) (f' := (bif vm_ic .ge 12 16 then 22 else 13, (0, 0), [.ref C, .int 12], [])) (h' := (G, I, F)) (hs' := []) rfl (vm_b2 rfl (vm_b2 rfl (vm_b2 (vm_b2 (vm_hG hC.1) rfl) (vm_b2 (vm_b2 (vm_hG hC.2.2.2.1) rfl) (vm_b2 rfl rfl))))) ?_
  refine vm_J.bF (by decide) ?_
  refine vm_J.go vm_q8 (k := 5) (hs := [(3, 5, [.ref (C + 1), .ref (C + 2), .int 0, .ref (C + 3), .int 0]), (54, 16, [.ref (C + 4), .ref (C + 5), .ref (C + 6), .ref (C + 7), .ref (C + 8), .ref (C + 9), .ref (C + 10), .ref (C + 11), .ref (C + 12), .ref (C + 13), .ref (C + 14), .ref (C + 15), .ref (C + 16), .ref (C + 17), .ref (C + 18), .ref (C + 19)])]) (f' := (23, (0, 0), [.ref C, .int 12], [.ref (C + 16)])) (h' := (G, I, F)) (hs' := []) rfl (vm_b2 rfl (vm_b2 (vm_b2 (vm_hG hC.1) rfl) (vm_b2 rfl (vm_b2 (vm_b2 (vm_b2 (vm_hG hC.2.2.2.1) rfl) rfl) (vm_b2 rfl rfl))))) ?_
  exact vm_J.end vm_q8 (en := (23, .areturn, 1, [], .null)) rfl rfl vm_rA (Nat.zero_le _) (Nat.zero_le _) rfl
set_option maxHeartbeats 4000000 in
set_option maxRecDepth 20000 in
/-- DitherDesk$Cutter.rawBox  -/
theorem m_rawBox_13 {l : Launch} {X : vm_Cx} {G : List vm_Sh} {I : Nat → Nat → Int32} {F : Nat → Nat → UInt32} {C : Nat} (hC : vm_isC G C) : vm_K l X vm_M8 [.ref C, .int 13] (G, I, F) (some (.ref (C + 17))) (G, I, F) := by
  refine vm_K.mk (by decide) (Nat.le_of_ble_eq_true rfl) ?_
  show vm_J _ _ _ (0, (0, 0), [.ref C, .int 13], []) _ _ _
  refine vm_J.go vm_q8 (k := 2) (hs := []) (f' := (bif vm_ic .lt 13 0 then 22 else 4, (0, 0), [.ref C, .int 13], [])) (h' := (G, I, F)) (hs' := []) rfl rfl ?_
  refine vm_J.bF (by decide) ?_
  refine vm_J.go vm_q8 (k := 5) (hs := [(3, 5, [.ref (C + 1), .ref (C + 2), .int 0, .ref (C + 3), .int 0]), (54, 16, [.ref (C + 4), .ref (C + 5), .ref (C + 6), .ref (C + 7), .ref (C + 8), .ref (C + 9), .ref (C + 10), .ref (C + 11), .ref (C + 12), .ref (C + 13), .ref (C + 14), .ref (C + 15), .ref (C + 16), .ref (C + 17), .ref (C + 18), .ref (C + 19)])]) (f' := (bif vm_ic .ge 13 16 then 22 else 13, (0, 0), [.ref C, .int 13], [])) (h' := (G, I, F)) (hs' := []) rfl (vm_b2 rfl (vm_b2 rfl (vm_b2 (vm_b2 (vm_hG hC.1) rfl) (vm_b2 (vm_b2 (vm_hG hC.2.2.2.1) rfl) (vm_b2 rfl rfl))))) ?_
  refine vm_J.bF (by decide) ?_
  refine vm_J.go vm_q8 (k := 5) (hs := [(3, 5, [.ref (C + 1), .ref (C + 2), .int 0, .ref (C + 3), .int 0]), (54, 16, [.ref (C + 4), .ref (C + 5), .ref (C + 6), .ref (C + 7), .ref (C + 8), .ref (C + 9), .ref (C + 10), .ref (C + 11), .ref (C + 12), .ref (C + 13), .ref (C + 14), .ref (C + 15), .ref (C + 16), .ref (C + 17), .ref (C + 18), .ref (C + 19)])]) (f' := (23, (0, 0), [.ref C, .int 13], [.ref (C + 17)])) (h' := (G, I, F)) (hs' := []) rfl (vm_b2 rfl (vm_b2 (vm_b2 (vm_hG hC.1) rfl) (vm_b2 rfl (vm_b2 (vm_b2 (vm_b2 (vm_hG hC.2.2.2.1) rfl) rfl) (vm_b2 rfl rfl))))) ?_
  exact vm_J.end vm_q8 (en := (23, .areturn, 1, [], .null)) rfl rfl vm_rA (Nat.zero_le _) (Nat.zero_le _) rfl
set_option maxHeartbeats 4000000 in
set_option maxRecDepth 20000 in
/-- DitherDesk$Cutter.rawBox  -/
theorem m_rawBox_14 {l : Launch} {X : vm_Cx} {G : List vm_Sh} {I : Nat → Nat → Int32} {F : Nat → Nat → UInt32} {C : Nat} (hC : vm_isC G C) : vm_K l X vm_M8 [.ref C, .int 14] (G, I, F) (some (.ref (C + 18))) (G, I, F) := by
  refine vm_K.mk (by decide) (Nat.le_of_ble_eq_true rfl) ?_
  show vm_J _ _ _ (0, (0, 0), [.ref C, .int 14], []) _ _ _
  refine vm_J.go vm_q8 (k := 2) (hs := []) (f' := (bif vm_ic .lt 14 0 then 22 else 4, (0, 0), [.ref C, .int 14], [])) (h' := (G, I, F)) (hs' := []) rfl rfl ?_
  refine vm_J.bF (by decide) ?_
  refine vm_J.go vm_q8 (k := 5) (hs := [(3, 5, [.ref (C + 1), .ref (C + 2), .int 0, .ref (C + 3), .int 0]), (54, 16, [.ref (C + 4), .ref (C + 5), .ref (C + 6), .ref (C + 7), .ref (C + 8), .ref (C + 9), .ref (C + 10), .ref (C + 11), .ref (C + 12), .ref (C + 13), .ref (C + 14), .ref (C + 15), .ref (C + 16), .ref (C + 17), .ref (C + 18), .ref (C + 19)])]) (f' := (bif vm_ic .ge 14 16 then 22 else 13, (0, 0), [.ref C, .int 14], [])) (h' := (G, I, F)) (hs' := []) rfl (vm_b2 rfl (vm_b2 rfl (vm_b2 (vm_b2 (vm_hG hC.1) rfl) (vm_b2 (vm_b2 (vm_hG hC.2.2.2.1) rfl) (vm_b2 rfl rfl))))) ?_
  refine vm_J.bF (by decide) ?_
  refine vm_J.go vm_q8 (k := 5) (hs := [(3, 5, [.ref (C + 1), .ref (C + 2), .int 0, .ref (C + 3), .int 0]), (54, 16, [.ref (C + 4), .ref (C + 5), .ref (C + 6), .ref (C + 7), .ref (C + 8), .ref (C + 9), .ref (C + 10), .ref (C + 11), .ref (C + 12), .ref (C + 13), .ref (C + 14), .ref (C + 15), .ref (C + 16), .ref (C + 17), .ref (C + 18), .ref (C + 19)])]) (f' := (23, (0, 0), [.ref C, .int 14], [.ref (C + 18)])) (h' := (G, I, F)) (hs' := []) rfl (vm_b2 rfl (vm_b2 (vm_b2 (vm_hG hC.1) rfl) (vm_b2 rfl (vm_b2 (vm_b2 (vm_b2 (vm_hG hC.2.2.2.1) rfl) rfl) (vm_b2 rfl rfl))))) ?_
  exact vm_J.end vm_q8 (en := (23, .areturn, 1, [], .null)) rfl rfl vm_rA (Nat.zero_le _) (Nat.zero_le _) rfl
set_option maxHeartbeats 4000000 in
set_option maxRecDepth 20000 in
/-- DitherDesk$Cutter.rawBox  -/
theorem m_rawBox_15 {l : Launch} {X : vm_Cx} {G : List vm_Sh} {I : Nat → Nat → Int32} {F : Nat → Nat → UInt32} {C : Nat} (hC : vm_isC G C) : vm_K l X vm_M8 [.ref C, .int 15] (G, I, F) (some (.ref (C + 19))) (G, I, F) := by
  refine vm_K.mk (by decide) (Nat.le_of_ble_eq_true rfl) ?_
  show vm_J _ _ _ (0, (0, 0), [.ref C, .int 15], []) _ _ _
  refine vm_J.go vm_q8 (k := 2) (hs := []) (f' := (bif vm_ic .lt 15 0 then 22 else 4, (0, 0), [.ref C, .int 15], [])) (h' := (G, I, F)) (hs' := []) rfl rfl ?_
  refine vm_J.bF (by decide) ?_
  refine vm_J.go vm_q8 (k := 5) (hs := [(3, 5, [.ref (C + 1), .ref (C + 2), .int 0, .ref (C + 3), .int 0]), (54, 16, [.ref (C + 4), .ref (C + 5), .ref (C + 6), .ref (C + 7), .ref (C + 8), .ref (C + 9), .ref (C + 10), .ref (C + 11), .ref (C + 12), .ref (C + 13), .ref (C + 14), .ref (C + 15), .ref (C + 16), .ref (C + 17), .ref (C + 18), .ref (C + 19)])]) (f' := (bif vm_ic .ge 15 16 then 22 else 13, (0, 0), [.ref C, .int 15], [])) (h' := (G, I, F)) (hs' := []) rfl (vm_b2 rfl (vm_b2 rfl (vm_b2 (vm_b2 (vm_hG hC.1) rfl) (vm_b2 (vm_b2 (vm_hG hC.2.2.2.1) rfl) (vm_b2 rfl rfl))))) ?_
  refine vm_J.bF (by decide) ?_
  refine vm_J.go vm_q8 (k := 5) (hs := [(3, 5, [.ref (C + 1), .ref (C + 2), .int 0, .ref (C + 3), .int 0]), (54, 16, [.ref (C + 4), .ref (C + 5), .ref (C + 6), .ref (C + 7), .ref (C + 8), .ref (C + 9), .ref (C + 10), .ref (C + 11), .ref (C + 12), .ref (C + 13), .ref (C + 14), .ref (C + 15), .ref (C + 16), .ref (C + 17), .ref (C + 18), .ref (C + 19)])]) (f' := (23, (0, 0), [.ref C, .int 15], [.ref (C + 19)])) (h' := (G, I, F)) (hs' := []) rfl (vm_b2 rfl (vm_b2 (vm_b2 (vm_hG hC.1) rfl) (vm_b2 rfl (vm_b2 (vm_b2 (vm_b2 (vm_hG hC.2.2.2.1) rfl) rfl) (vm_b2 rfl rfl))))) ?_
  exact vm_J.end vm_q8 (en := (23, .areturn, 1, [], .null)) rfl rfl vm_rA (Nat.zero_le _) (Nat.zero_le _) rfl
theorem m_rawBox_n {l : Launch} {X : vm_Cx} {G : List vm_Sh} {I : Nat → Nat → Int32} {F : Nat → Nat → UInt32} {C p : Nat} (hC : vm_isC G C) (hp : p < 16) : vm_K l X vm_M8 [.ref C, .int (nI p)] (G, I, F) (some (.ref (C + 4 + p))) (G, I, F) := by
  match p, hp with
  | 0, _ => exact m_rawBox_0 hC
  | 1, _ => exact m_rawBox_1 hC
  | 2, _ => exact m_rawBox_2 hC
  | 3, _ => exact m_rawBox_3 hC
  | 4, _ => exact m_rawBox_4 hC
  | 5, _ => exact m_rawBox_5 hC
  | 6, _ => exact m_rawBox_6 hC
  | 7, _ => exact m_rawBox_7 hC
  | 8, _ => exact m_rawBox_8 hC
  | 9, _ => exact m_rawBox_9 hC
  | 10, _ => exact m_rawBox_10 hC
  | 11, _ => exact m_rawBox_11 hC
  | 12, _ => exact m_rawBox_12 hC
  | 13, _ => exact m_rawBox_13 hC
  | 14, _ => exact m_rawBox_14 hC
  | 15, _ => exact m_rawBox_15 hC
  | p + 16, hp => exact absurd hp (by omega)
set_option maxHeartbeats 4000000 in
set_option maxRecDepth 20000 in
/-- DitherDesk$Cutter.rawBox  -/
theorem m_rawBox_x {l : Launch} {X : vm_Cx} {G : List vm_Sh} {I : Nat → Nat → Int32} {F : Nat → Nat → UInt32} {C : Nat} {p : Int32} (hC : vm_isC G C) (hx : p < 0 ∨ 15 < p) : vm_K l X vm_M8 [.ref C, .int p] (G, I, F) (some (.null)) (G, I, F) := by
  refine vm_K.mk (by decide) (Nat.le_of_ble_eq_true rfl) ?_
  show vm_J _ _ _ (0, (0, 0), [.ref C, .int p], []) _ _ _
  refine vm_J.go vm_q8 (k := 2) (hs := []) (f' := (bif vm_ic .lt p 0 then 22 else 4, (0, 0), [.ref C, .int p], [])) (h' := (G, I, F)) (hs' := []) rfl rfl ?_
  refine vm_J.br (fun c1 => ?_) (fun c1 => ?_)
  · have c1 : p < 0 := of_decide_eq_true c1
    refine vm_J.go vm_q8 (k := 1) (hs := []) (f' := (23, (0, 0), [.ref C, .int p], [.null])) (h' := (G, I, F)) (hs' := []) rfl rfl ?_
    exact vm_J.end vm_q8 (en := (23, .areturn, 1, [], .null)) rfl rfl vm_rN (Nat.zero_le _) (Nat.zero_le _) rfl
  · have c1 : ¬ (p < 0) := of_decide_eq_false c1
    refine vm_J.go vm_q8 (k := 5) (hs := [(3, 5, [.ref (C + 1), .ref (C + 2), .int 0, .ref (C + 3), .int 0]), (54, 16, [.ref (C + 4), .ref (C + 5), .ref (C + 6), .ref (C + 7), .ref (C + 8), .ref (C + 9), .ref (C + 10), .ref (C + 11), .ref (C + 12), .ref (C + 13), .ref (C + 14), .ref (C + 15), .ref (C + 16), .ref (C + 17), .ref (C + 18), .ref (C + 19)])]) (f' := (bif vm_ic .ge p 16 then 22 else 13, (0, 0), [.ref C, .int p], [])) (h' := (G, I, F)) (hs' := []) rfl (vm_b2 rfl (vm_b2 rfl (vm_b2 (vm_b2 (vm_hG hC.1) rfl) (vm_b2 (vm_b2 (vm_hG hC.2.2.2.1) rfl) (vm_b2 rfl rfl))))) ?_
    refine vm_J.br (fun c2 => ?_) (fun c2 => ?_)
    · have c2 : 16 ≤ p := of_decide_eq_true c2
      refine vm_J.go vm_q8 (k := 1) (hs := []) (f' := (23, (0, 0), [.ref C, .int p], [.null])) (h' := (G, I, F)) (hs' := []) rfl rfl ?_
      exact vm_J.end vm_q8 (en := (23, .areturn, 1, [], .null)) rfl rfl vm_rN (Nat.zero_le _) (Nat.zero_le _) rfl
    · have c2 : ¬ (16 ≤ p) := of_decide_eq_false c2
      exact (hx.elim c1 (fun q => c2 (vm_lt16 q))).elim
/-- one colour behind another by a channel -/
abbrev sp_bh (c o k : Int32) : Prop := (¬ sp_ch c k = sp_ch o k ∧ sp_ch o k < sp_ch c k) ∨ (sp_ch c k = sp_ch o k ∧ o < c)
/-- a range's least and greatest -/
def sp_lo (f : Nat → Int32) (lo : Nat) : Nat → Int32
  | 0 => 63
  | j + 1 => sp_mn (sp_lo f lo j) (f (lo + j))
def sp_hi (f : Nat → Int32) (lo : Nat) : Nat → Int32
  | 0 => 0
  | j + 1 => sp_mx (sp_hi f lo j) (f (lo + j))
set_option maxHeartbeats 4000000 in
set_option maxRecDepth 20000 in
/-- DitherDesk$Cutter.isBehind  -/
theorem m_isBehind {l : Launch} {X : vm_Cx} {G : List vm_Sh} {I : Nat → Nat → Int32} {F : Nat → Nat → UInt32} {c o k : Int32} : vm_K l X vm_M14 [.int c, .int o, .int k] (G, I, F) (some (.int (vm_bi (sp_bh c o k)))) (G, I, F) := by
  refine vm_K.mk (by decide) (Nat.le_of_ble_eq_true rfl) ?_
  show vm_J _ _ _ (0, (0, 0), [.int c, .int o, .int k, .retAddr 0, .retAddr 0], []) _ _ _
  refine vm_J.go vm_q14 (k := 2) (hs := []) (f' := (2, (0, 0), [.int c, .int o, .int k, .retAddr 0, .retAddr 0], [.int k, .int c])) (h' := (G, I, F)) (hs' := []) rfl rfl ?_
  refine vm_J.call vm_q14 (Z := vm_M164) (n := 2) (k := 1) (mi := 164) (pc := 2) (en := (2, .invokestatic 109, 3, [164, 574, 1], .null)) rfl trivial rfl rfl vm_z164 (av := [.int c, .int k]) (rest := []) (m_channelOf (c := c) (k := k)) rfl (Nat.le_of_ble_eq_true rfl) ⟨Nat.le_of_ble_eq_true rfl, Nat.le_of_ble_eq_true rfl⟩ ⟨Nat.le_of_ble_eq_true rfl, Nat.le_of_ble_eq_true rfl⟩ ?_
  show vm_J _ _ _ (5, (0, 0), [.int c, .int o, .int k, .retAddr 0, .retAddr 0], [.int (sp_ch c k)]) (G, I, F) _ _
  refine vm_J.go vm_q14 (k := 3) (hs := []) (f' := (8, (0, 0), [.int c, .int o, .int k, .int (sp_ch c k), .retAddr 0], [.int k, .int o])) (h' := (G, I, F)) (hs' := []) rfl rfl ?_
  refine vm_J.call vm_q14 (Z := vm_M164) (n := 2) (k := 1) (mi := 164) (pc := 8) (en := (8, .invokestatic 109, 3, [164, 574, 1], .null)) rfl trivial rfl rfl vm_z164 (av := [.int o, .int k]) (rest := []) (m_channelOf (c := o) (k := k)) rfl (Nat.le_of_ble_eq_true rfl) ⟨Nat.le_of_ble_eq_true rfl, Nat.le_of_ble_eq_true rfl⟩ ⟨Nat.le_of_ble_eq_true rfl, Nat.le_of_ble_eq_true rfl⟩ ?_
  show vm_J _ _ _ (11, (0, 0), [.int c, .int o, .int k, .int (sp_ch c k), .retAddr 0], [.int (sp_ch o k)]) (G, I, F) _ _
  refine vm_J.go vm_q14 (k := 4) (hs := []) (f' := (bif vm_ic .eq (sp_ch c k) (sp_ch o k) then 33 else 19, (0, 0), [.int c, .int o, .int k, .int (sp_ch c k), .int (sp_ch o k)], [])) (h' := (G, I, F)) (hs' := []) rfl rfl ?_
  refine vm_J.br (fun c1 => ?_) (fun c1 => ?_)
  · have c1 : (sp_ch c k) = (sp_ch o k) := of_decide_eq_true c1
    refine vm_J.go vm_q14 (k := 3) (hs := []) (f' := (bif vm_ic .le c o then 42 else 38, (0, 0), [.int c, .int o, .int k, .int (sp_ch c k), .int (sp_ch o k)], [])) (h' := (G, I, F)) (hs' := []) rfl rfl ?_
    refine vm_J.br (fun c2 => ?_) (fun c2 => ?_)
    · have c2 : c ≤ o := of_decide_eq_true c2
      refine vm_J.go vm_q14 (k := 1) (hs := []) (f' := (43, (0, 0), [.int c, .int o, .int k, .int (sp_ch c k), .int (sp_ch o k)], [.int 0])) (h' := (G, I, F)) (hs' := []) rfl rfl ?_
      exact vm_J.end vm_q14 (en := (43, .ireturn, 1, [], .null)) rfl (by rw [vm_bi_f (fun z => z.elim (fun z => z.1 c1) (fun z => vm_le_ng c2 z.2))]; rfl) (vm_rZ vm_bi_01) (Nat.zero_le _) (Nat.zero_le _) rfl
    · have c2 : ¬ (c ≤ o) := of_decide_eq_false c2
      refine vm_J.go vm_q14 (k := 2) (hs := []) (f' := (43, (0, 0), [.int c, .int o, .int k, .int (sp_ch c k), .int (sp_ch o k)], [.int 1])) (h' := (G, I, F)) (hs' := []) rfl rfl ?_
      exact vm_J.end vm_q14 (en := (43, .ireturn, 1, [], .null)) rfl (by rw [vm_bi_t (Or.inr ⟨c1, vm_nle_g c2⟩)]; rfl) (vm_rZ vm_bi_01) (Nat.zero_le _) (Nat.zero_le _) rfl
  · have c1 : ¬ ((sp_ch c k) = (sp_ch o k)) := of_decide_eq_false c1
    refine vm_J.go vm_q14 (k := 3) (hs := []) (f' := (bif vm_ic .le (sp_ch c k) (sp_ch o k) then 29 else 25, (0, 0), [.int c, .int o, .int k, .int (sp_ch c k), .int (sp_ch o k)], [])) (h' := (G, I, F)) (hs' := []) rfl rfl ?_
    refine vm_J.br (fun c3 => ?_) (fun c3 => ?_)
    · have c3 : (sp_ch c k) ≤ (sp_ch o k) := of_decide_eq_true c3
      refine vm_J.go vm_q14 (k := 2) (hs := []) (f' := (43, (0, 0), [.int c, .int o, .int k, .int (sp_ch c k), .int (sp_ch o k)], [.int 0])) (h' := (G, I, F)) (hs' := []) rfl rfl ?_
      exact vm_J.end vm_q14 (en := (43, .ireturn, 1, [], .null)) rfl (by rw [vm_bi_f (fun z => z.elim (fun z => vm_le_ng c3 z.2) (fun z => c1 z.1))]; rfl) (vm_rZ vm_bi_01) (Nat.zero_le _) (Nat.zero_le _) rfl
    · have c3 : ¬ ((sp_ch c k) ≤ (sp_ch o k)) := of_decide_eq_false c3
      refine vm_J.go vm_q14 (k := 2) (hs := []) (f' := (43, (0, 0), [.int c, .int o, .int k, .int (sp_ch c k), .int (sp_ch o k)], [.int 1])) (h' := (G, I, F)) (hs' := []) rfl rfl ?_
      exact vm_J.end vm_q14 (en := (43, .ireturn, 1, [], .null)) rfl (by rw [vm_bi_t (Or.inl ⟨c1, vm_nle_g c3⟩)]; rfl) (vm_rZ vm_bi_01) (Nat.zero_le _) (Nat.zero_le _) rfl
/-- how many of the tallied colours are ahead of one -/
def sp_ca (f : Nat → Int32) (n e : Nat) : Int32 := sp_sum (fun i => if f e < f i ∨ f i = f e ∧ i < e then 1 else 0) n
set_option maxHeartbeats 4000000 in
set_option maxRecDepth 20000 in
/-- DitherDesk$Cutter.coloursAhead  -/
theorem m_Cu_ahead {l : Launch} {X : vm_Cx} {G : List vm_Sh} {I : Nat → Nat → Int32} {F : Nat → Nat → UInt32} {C n e : Nat} (hC : vm_isC G C) (hn : I C 2 = nI n) (hn2 : n ≤ 144) (he : e < n) : vm_K l X vm_M5 [.ref C, .int (nI e)] (G, I, F) (some (.int (sp_ca (I (C + 2)) n e))) (G, I, F) := by
  refine vm_K.mk (by decide) (Nat.le_of_ble_eq_true rfl) ?_
  show vm_J _ _ _ (0, (0, 0), [.ref C, .int (nI e), .retAddr 0, .retAddr 0, .retAddr 0], []) _ _ _
  refine vm_J.go vm_q5 (k := 3) (hs := [(3, 5, [.ref (C + 1), .ref (C + 2), .int 0, .ref (C + 3), .int 0])]) (f' := (5, (0, 0), [.ref C, .int (nI e), .retAddr 0, .retAddr 0, .retAddr 0], [.int (nI e), .ref (C + 2)])) (h' := (G, I, F)) (hs' := []) rfl (vm_b2 rfl (vm_b2 (vm_b2 (vm_hG hC.1) rfl) (vm_b2 rfl rfl))) ?_
  refine vm_J.call vm_q5 (Z := vm_M152) (n := 2) (k := 1) (mi := 152) (pc := 5) (en := (5, .invokestatic 35, 3, [152, 505, 1], .null)) rfl trivial rfl rfl vm_z152 (av := [.ref (C + 2), .int (nI e)]) (rest := []) (m_at_n (j := e) hC.2.2.1 (by omega) (by omega)) rfl (Nat.le_of_ble_eq_true rfl) ⟨Nat.le_of_ble_eq_true rfl, Nat.le_of_ble_eq_true rfl⟩ ⟨Nat.le_of_ble_eq_true rfl, Nat.le_of_ble_eq_true rfl⟩ ?_
  show vm_J _ _ _ (8, (0, 0), [.ref C, .int (nI e), .retAddr 0, .retAddr 0, .retAddr 0], [.int (I (C + 2) e)]) (G, I, F) _ _
  refine vm_J.go vm_q5 (k := 5) (hs := []) (f' := (14, (0, 0), [.ref C, .int (nI e), .int (I (C + 2) e), .int 0, .int 0], [])) (h' := (G, I, F)) (hs' := []) rfl rfl ?_
  refine vm_J.cnt n (fun j => (14, (0, 0), [.ref C, .int (nI e), .int (I (C + 2) e), .int (sp_sum (fun i => if I (C + 2) e < I (C + 2) i ∨ I (C + 2) i = I (C + 2) e ∧ i < e then 1 else 0) j), .int (nI j)], [])) (fun j => (G, I, F)) (fun _ => True) rfl rfl trivial (fun j hj pj ij => ?_) (fun pj => ?_)
  · show vm_J _ _ _ (14, (0, 0), [.ref C, .int (nI e), .int (I (C + 2) e), .int (sp_sum (fun i => if I (C + 2) e < I (C + 2) i ∨ I (C + 2) i = I (C + 2) e ∧ i < e then 1 else 0) j), .int (nI j)], []) (G, I, F) _ _
    refine vm_J.go vm_q5 (k := 4) (hs := [(3, 5, [.ref (C + 1), .ref (C + 2), .int 0, .ref (C + 3), .int 0])]) (f' := (bif vm_ic .ge (nI j) (I C 2) then 64 else 23, (0, 0), [.ref C, .int (nI e), .int (I (C + 2) e), .int (sp_sum (fun i => if I (C + 2) e < I (C + 2) i ∨ I (C + 2) i = I (C + 2) e ∧ i < e then 1 else 0) j), .int (nI j)], [])) (h' := (G, I, F)) (hs' := []) rfl (vm_b2 rfl (vm_b2 rfl (vm_b2 (vm_b2 (vm_hG hC.1) rfl) (vm_b2 rfl rfl)))) ?_
    refine vm_J.br (fun c1 => ?_) (fun c1 => ?_)
    · rw [(hn : I C 2 = nI n)] at c1
      have c1 := vm_ge_t (a := j) (b := n) (by omega) (by omega) c1
      exact (show False by omega).elim
    · rw [(hn : I C 2 = nI n)] at c1
      have c1 := vm_ge_f (a := j) (b := n) (by omega) (by omega) c1
      refine vm_J.go vm_q5 (k := 3) (hs := [(3, 5, [.ref (C + 1), .ref (C + 2), .int 0, .ref (C + 3), .int 0])]) (f' := (29, (0, 0), [.ref C, .int (nI e), .int (I (C + 2) e), .int (sp_sum (fun i => if I (C + 2) e < I (C + 2) i ∨ I (C + 2) i = I (C + 2) e ∧ i < e then 1 else 0) j), .int (nI j)], [.int (nI j), .ref (C + 2)])) (h' := (G, I, F)) (hs' := []) rfl (vm_b2 rfl (vm_b2 (vm_b2 (vm_hG hC.1) rfl) (vm_b2 rfl rfl))) ?_
      refine vm_J.call vm_q5 (Z := vm_M152) (n := 2) (k := 1) (mi := 152) (pc := 29) (en := (29, .invokestatic 35, 3, [152, 505, 1], .null)) rfl trivial rfl rfl vm_z152 (av := [.ref (C + 2), .int (nI j)]) (rest := []) (m_at_n (j := j) hC.2.2.1 (by omega) (by omega)) rfl (Nat.le_of_ble_eq_true rfl) ⟨Nat.le_of_ble_eq_true rfl, Nat.le_of_ble_eq_true rfl⟩ ⟨Nat.le_of_ble_eq_true rfl, Nat.le_of_ble_eq_true rfl⟩ ?_
      show vm_J _ _ _ (32, (0, 0), [.ref C, .int (nI e), .int (I (C + 2) e), .int (sp_sum (fun i => if I (C + 2) e < I (C + 2) i ∨ I (C + 2) i = I (C + 2) e ∧ i < e then 1 else 0) j), .int (nI j)], [.int (I (C + 2) j)]) (G, I, F) _ _
      refine vm_J.go vm_q5 (k := 2) (hs := []) (f' := (bif vm_ic .gt (I (C + 2) j) (I (C + 2) e) then 55 else 36, (0, 0), [.ref C, .int (nI e), .int (I (C + 2) e), .int (sp_sum (fun i => if I (C + 2) e < I (C + 2) i ∨ I (C + 2) i = I (C + 2) e ∧ i < e then 1 else 0) j), .int (nI j)], [])) (h' := (G, I, F)) (hs' := []) rfl rfl ?_
      refine vm_J.br (fun c2 => ?_) (fun c2 => ?_)
      · have c2 : (I (C + 2) e) < (I (C + 2) j) := of_decide_eq_true c2
        refine vm_J.go vm_q5 (k := 3) (hs := []) (f' := (14, (0, 0), [.ref C, .int (nI e), .int (I (C + 2) e), .int ((sp_sum (fun i => if I (C + 2) e < I (C + 2) i ∨ I (C + 2) i = I (C + 2) e ∧ i < e then 1 else 0) j) + 1), .int ((nI j) + 1)], [])) (h' := (G, I, F)) (hs' := []) rfl rfl ?_
        rw [((vm_pa (rfl : nI j = nI j) (rfl : (1 : Int32) = nI 1)) : (nI j) + 1 = nI (j + 1))]
        rw [show ((sp_sum (fun i => if I (C + 2) e < I (C + 2) i ∨ I (C + 2) i = I (C + 2) e ∧ i < e then 1 else 0) j) + 1 : Int32) = sp_sum (fun i => if I (C + 2) e < I (C + 2) i ∨ I (C + 2) i = I (C + 2) e ∧ i < e then 1 else 0) (j + 1) from by rw [sp_sum, if_pos (Or.inl c2)]]
        exact ij trivial
      · have c2 : ¬ ((I (C + 2) e) < (I (C + 2) j)) := of_decide_eq_false c2
        refine vm_J.go vm_q5 (k := 3) (hs := [(3, 5, [.ref (C + 1), .ref (C + 2), .int 0, .ref (C + 3), .int 0])]) (f' := (42, (0, 0), [.ref C, .int (nI e), .int (I (C + 2) e), .int (sp_sum (fun i => if I (C + 2) e < I (C + 2) i ∨ I (C + 2) i = I (C + 2) e ∧ i < e then 1 else 0) j), .int (nI j)], [.int (nI j), .ref (C + 2)])) (h' := (G, I, F)) (hs' := []) rfl (vm_b2 rfl (vm_b2 (vm_b2 (vm_hG hC.1) rfl) (vm_b2 rfl rfl))) ?_
        refine vm_J.call vm_q5 (Z := vm_M152) (n := 2) (k := 1) (mi := 152) (pc := 42) (en := (42, .invokestatic 35, 3, [152, 505, 1], .null)) rfl trivial rfl rfl vm_z152 (av := [.ref (C + 2), .int (nI j)]) (rest := []) (m_at_n (j := j) hC.2.2.1 (by omega) (by omega)) rfl (Nat.le_of_ble_eq_true rfl) ⟨Nat.le_of_ble_eq_true rfl, Nat.le_of_ble_eq_true rfl⟩ ⟨Nat.le_of_ble_eq_true rfl, Nat.le_of_ble_eq_true rfl⟩ ?_
        show vm_J _ _ _ (45, (0, 0), [.ref C, .int (nI e), .int (I (C + 2) e), .int (sp_sum (fun i => if I (C + 2) e < I (C + 2) i ∨ I (C + 2) i = I (C + 2) e ∧ i < e then 1 else 0) j), .int (nI j)], [.int (I (C + 2) j)]) (G, I, F) _ _
        refine vm_J.go vm_q5 (k := 2) (hs := []) (f' := (bif vm_ic .ne (I (C + 2) j) (I (C + 2) e) then 58 else 49, (0, 0), [.ref C, .int (nI e), .int (I (C + 2) e), .int (sp_sum (fun i => if I (C + 2) e < I (C + 2) i ∨ I (C + 2) i = I (C + 2) e ∧ i < e then 1 else 0) j), .int (nI j)], [])) (h' := (G, I, F)) (hs' := []) rfl rfl ?_
        refine vm_J.br (fun c3 => ?_) (fun c3 => ?_)
        · have c3 : ¬ (I (C + 2) j) = (I (C + 2) e) := of_decide_eq_true c3
          refine vm_J.go vm_q5 (k := 2) (hs := []) (f' := (14, (0, 0), [.ref C, .int (nI e), .int (I (C + 2) e), .int (sp_sum (fun i => if I (C + 2) e < I (C + 2) i ∨ I (C + 2) i = I (C + 2) e ∧ i < e then 1 else 0) j), .int ((nI j) + 1)], [])) (h' := (G, I, F)) (hs' := []) rfl rfl ?_
          rw [((vm_pa (rfl : nI j = nI j) (rfl : (1 : Int32) = nI 1)) : (nI j) + 1 = nI (j + 1))]
          rw [show (sp_sum (fun i => if I (C + 2) e < I (C + 2) i ∨ I (C + 2) i = I (C + 2) e ∧ i < e then 1 else 0) j : Int32) = sp_sum (fun i => if I (C + 2) e < I (C + 2) i ∨ I (C + 2) i = I (C + 2) e ∧ i < e then 1 else 0) (j + 1) from by rw [sp_sum, if_neg (fun z => z.elim c2 (fun y => c3 y.1))]; exact (Int32.add_zero _).symm]
          exact ij trivial
        · have c3 : (I (C + 2) j) = (I (C + 2) e) := Decidable.of_not_not (of_decide_eq_false c3)
          refine vm_J.go vm_q5 (k := 3) (hs := []) (f' := (bif vm_ic .ge (nI j) (nI e) then 58 else 55, (0, 0), [.ref C, .int (nI e), .int (I (C + 2) e), .int (sp_sum (fun i => if I (C + 2) e < I (C + 2) i ∨ I (C + 2) i = I (C + 2) e ∧ i < e then 1 else 0) j), .int (nI j)], [])) (h' := (G, I, F)) (hs' := []) rfl rfl ?_
          refine vm_J.br (fun c4 => ?_) (fun c4 => ?_)
          · have c4 := vm_ge_t (a := j) (b := e) (by omega) (by omega) c4
            refine vm_J.go vm_q5 (k := 2) (hs := []) (f' := (14, (0, 0), [.ref C, .int (nI e), .int (I (C + 2) e), .int (sp_sum (fun i => if I (C + 2) e < I (C + 2) i ∨ I (C + 2) i = I (C + 2) e ∧ i < e then 1 else 0) j), .int ((nI j) + 1)], [])) (h' := (G, I, F)) (hs' := []) rfl rfl ?_
            rw [((vm_pa (rfl : nI j = nI j) (rfl : (1 : Int32) = nI 1)) : (nI j) + 1 = nI (j + 1))]
            rw [show (sp_sum (fun i => if I (C + 2) e < I (C + 2) i ∨ I (C + 2) i = I (C + 2) e ∧ i < e then 1 else 0) j : Int32) = sp_sum (fun i => if I (C + 2) e < I (C + 2) i ∨ I (C + 2) i = I (C + 2) e ∧ i < e then 1 else 0) (j + 1) from by rw [sp_sum, if_neg (fun z => z.elim c2 (fun y => absurd y.2 (by omega)))]; exact (Int32.add_zero _).symm]
            exact ij trivial
          · have c4 := vm_ge_f (a := j) (b := e) (by omega) (by omega) c4
            refine vm_J.go vm_q5 (k := 3) (hs := []) (f' := (14, (0, 0), [.ref C, .int (nI e), .int (I (C + 2) e), .int ((sp_sum (fun i => if I (C + 2) e < I (C + 2) i ∨ I (C + 2) i = I (C + 2) e ∧ i < e then 1 else 0) j) + 1), .int ((nI j) + 1)], [])) (h' := (G, I, F)) (hs' := []) rfl rfl ?_
            rw [((vm_pa (rfl : nI j = nI j) (rfl : (1 : Int32) = nI 1)) : (nI j) + 1 = nI (j + 1))]
            rw [show ((sp_sum (fun i => if I (C + 2) e < I (C + 2) i ∨ I (C + 2) i = I (C + 2) e ∧ i < e then 1 else 0) j) + 1 : Int32) = sp_sum (fun i => if I (C + 2) e < I (C + 2) i ∨ I (C + 2) i = I (C + 2) e ∧ i < e then 1 else 0) (j + 1) from by rw [sp_sum, if_pos (Or.inr ⟨c3, c4⟩)]]
            exact ij trivial
  · show vm_J _ _ _ (14, (0, 0), [.ref C, .int (nI e), .int (I (C + 2) e), .int (sp_sum (fun i => if I (C + 2) e < I (C + 2) i ∨ I (C + 2) i = I (C + 2) e ∧ i < e then 1 else 0) n), .int (nI n)], []) (G, I, F) _ _
    refine vm_J.go vm_q5 (k := 4) (hs := [(3, 5, [.ref (C + 1), .ref (C + 2), .int 0, .ref (C + 3), .int 0])]) (f' := (bif vm_ic .ge (nI n) (I C 2) then 64 else 23, (0, 0), [.ref C, .int (nI e), .int (I (C + 2) e), .int (sp_sum (fun i => if I (C + 2) e < I (C + 2) i ∨ I (C + 2) i = I (C + 2) e ∧ i < e then 1 else 0) n), .int (nI n)], [])) (h' := (G, I, F)) (hs' := []) rfl (vm_b2 rfl (vm_b2 rfl (vm_b2 (vm_b2 (vm_hG hC.1) rfl) (vm_b2 rfl rfl)))) ?_
    refine vm_J.br (fun c5 => ?_) (fun c5 => ?_)
    · rw [(hn : I C 2 = nI n)] at c5
      have c5 := vm_ge_t (a := n) (b := n) (by omega) (by omega) c5
      refine vm_J.go vm_q5 (k := 1) (hs := []) (f' := (65, (0, 0), [.ref C, .int (nI e), .int (I (C + 2) e), .int (sp_sum (fun i => if I (C + 2) e < I (C + 2) i ∨ I (C + 2) i = I (C + 2) e ∧ i < e then 1 else 0) n), .int (nI n)], [.int (sp_sum (fun i => if I (C + 2) e < I (C + 2) i ∨ I (C + 2) i = I (C + 2) e ∧ i < e then 1 else 0) n)])) (h' := (G, I, F)) (hs' := []) rfl rfl ?_
      exact vm_J.end vm_q5 (en := (65, .ireturn, 1, [], .null)) rfl rfl vm_rI (Nat.zero_le _) (Nat.zero_le _) rfl
    · rw [(hn : I C 2 = nI n)] at c5
      have c5 := vm_ge_f (a := n) (b := n) (by omega) (by omega) c5
      exact (show False by omega).elim
set_option maxHeartbeats 4000000 in
set_option maxRecDepth 20000 in
/-- DitherDesk$Cutter.commonest  -/
theorem m_Cu_commonest {l : Launch} {X : vm_Cx} {G : List vm_Sh} {I : Nat → Nat → Int32} {F : Nat → Nat → UInt32} {C n : Nat} {k : Int32} (hC : vm_isC G C) (hn : I C 2 = nI n) (hn2 : n ≤ 144) : vm_K l X vm_M4 [.ref C, .int k] (G, I, F) (some (.int (if sp_fi (fun i => sp_ca (I (C + 2)) n i = k) n < n then I (C + 1) (sp_fi (fun i => sp_ca (I (C + 2)) n i = k) n) else -5))) (G, I, F) := by
  refine vm_K.mk (by decide) (Nat.le_of_ble_eq_true rfl) ?_
  show vm_J _ _ _ (0, (0, 0), [.ref C, .int k, .retAddr 0], []) _ _ _
  refine vm_J.go vm_q4 (k := 2) (hs := []) (f' := (2, (0, 0), [.ref C, .int k, .int 0], [])) (h' := (G, I, F)) (hs' := []) rfl rfl ?_
  refine vm_J.cnt n (fun j => (2, (0, 0), [.ref C, .int k, .int (nI j)], [])) (fun j => (G, I, F)) (fun j => ∀ i, i < j → ¬ sp_ca (I (C + 2)) n i = k) rfl rfl vm_all0 (fun j hj pj ij => ?_) (fun pj => ?_)
  · show vm_J _ _ _ (2, (0, 0), [.ref C, .int k, .int (nI j)], []) (G, I, F) _ _
    refine vm_J.go vm_q4 (k := 4) (hs := [(3, 5, [.ref (C + 1), .ref (C + 2), .int 0, .ref (C + 3), .int 0])]) (f' := (bif vm_ic .ge (nI j) (I C 2) then 34 else 10, (0, 0), [.ref C, .int k, .int (nI j)], [])) (h' := (G, I, F)) (hs' := []) rfl (vm_b2 rfl (vm_b2 rfl (vm_b2 (vm_b2 (vm_hG hC.1) rfl) (vm_b2 rfl rfl)))) ?_
    refine vm_J.br (fun c1 => ?_) (fun c1 => ?_)
    · rw [(hn : I C 2 = nI n)] at c1
      have c1 := vm_ge_t (a := j) (b := n) (by omega) (by omega) c1
      exact (show False by omega).elim
    · rw [(hn : I C 2 = nI n)] at c1
      have c1 := vm_ge_f (a := j) (b := n) (by omega) (by omega) c1
      refine vm_J.go vm_q4 (k := 2) (hs := []) (f' := (12, (0, 0), [.ref C, .int k, .int (nI j)], [.int (nI j), .ref C])) (h' := (G, I, F)) (hs' := []) rfl rfl ?_
      refine vm_J.call vm_q4 (Z := vm_M5) (n := 1) (k := 0) (mi := 5) (pc := 12) (en := (12, .invokevirtual 47, 3, [5, 528, 0], .null)) rfl trivial rfl rfl vm_z5 (av := [.ref C, .int (nI j)]) (rest := []) (m_Cu_ahead (e := j) hC hn hn2 (by omega)) ⟨_, _, rfl, rfl, _, 1, _, hC.1, rfl, rfl, rfl⟩ (Nat.le_of_ble_eq_true rfl) ⟨Nat.le_of_ble_eq_true rfl, Nat.le_of_ble_eq_true rfl⟩ ⟨Nat.le_of_ble_eq_true rfl, Nat.le_of_ble_eq_true rfl⟩ ?_
      show vm_J _ _ _ (15, (0, 0), [.ref C, .int k, .int (nI j)], [.int (sp_ca (I (C + 2)) n j)]) (G, I, F) _ _
      refine vm_J.go vm_q4 (k := 2) (hs := []) (f' := (bif vm_ic .ne (sp_ca (I (C + 2)) n j) k then 28 else 19, (0, 0), [.ref C, .int k, .int (nI j)], [])) (h' := (G, I, F)) (hs' := []) rfl rfl ?_
      refine vm_J.br (fun c2 => ?_) (fun c2 => ?_)
      · have c2 : ¬ (sp_ca (I (C + 2)) n j) = k := of_decide_eq_true c2
        refine vm_J.go vm_q4 (k := 2) (hs := []) (f' := (2, (0, 0), [.ref C, .int k, .int ((nI j) + 1)], [])) (h' := (G, I, F)) (hs' := []) rfl rfl ?_
        rw [((vm_pa (rfl : nI j = nI j) (rfl : (1 : Int32) = nI 1)) : (nI j) + 1 = nI (j + 1))]
        exact ij (vm_alls (p := fun i => ¬ sp_ca (I (C + 2)) n i = k) pj c2)
      · have c2 : (sp_ca (I (C + 2)) n j) = k := Decidable.of_not_not (of_decide_eq_false c2)
        refine vm_J.go vm_q4 (k := 3) (hs := [(3, 5, [.ref (C + 1), .ref (C + 2), .int 0, .ref (C + 3), .int 0])]) (f' := (24, (0, 0), [.ref C, .int k, .int (nI j)], [.int (nI j), .ref (C + 1)])) (h' := (G, I, F)) (hs' := []) rfl (vm_b2 rfl (vm_b2 (vm_b2 (vm_hG hC.1) rfl) (vm_b2 rfl rfl))) ?_
        refine vm_J.call vm_q4 (Z := vm_M152) (n := 2) (k := 1) (mi := 152) (pc := 24) (en := (24, .invokestatic 35, 3, [152, 505, 1], .null)) rfl trivial rfl rfl vm_z152 (av := [.ref (C + 1), .int (nI j)]) (rest := []) (m_at_n (j := j) hC.2.1 (by omega) (by omega)) rfl (Nat.le_of_ble_eq_true rfl) ⟨Nat.le_of_ble_eq_true rfl, Nat.le_of_ble_eq_true rfl⟩ ⟨Nat.le_of_ble_eq_true rfl, Nat.le_of_ble_eq_true rfl⟩ ?_
        show vm_J _ _ _ (27, (0, 0), [.ref C, .int k, .int (nI j)], [.int (I (C + 1) j)]) (G, I, F) _ _
        exact vm_J.end vm_q4 (en := (27, .ireturn, 1, [], .null)) rfl (by rw [sp_fi_hit (p := fun i => sp_ca (I (C + 2)) n i = k) hj pj c2, if_pos hj]; rfl) vm_rI (Nat.zero_le _) (Nat.zero_le _) rfl
  · show vm_J _ _ _ (2, (0, 0), [.ref C, .int k, .int (nI n)], []) (G, I, F) _ _
    refine vm_J.go vm_q4 (k := 4) (hs := [(3, 5, [.ref (C + 1), .ref (C + 2), .int 0, .ref (C + 3), .int 0])]) (f' := (bif vm_ic .ge (nI n) (I C 2) then 34 else 10, (0, 0), [.ref C, .int k, .int (nI n)], [])) (h' := (G, I, F)) (hs' := []) rfl (vm_b2 rfl (vm_b2 rfl (vm_b2 (vm_b2 (vm_hG hC.1) rfl) (vm_b2 rfl rfl)))) ?_
    refine vm_J.br (fun c3 => ?_) (fun c3 => ?_)
    · rw [(hn : I C 2 = nI n)] at c3
      have c3 := vm_ge_t (a := n) (b := n) (by omega) (by omega) c3
      refine vm_J.go vm_q4 (k := 1) (hs := []) (f' := (36, (0, 0), [.ref C, .int k, .int (nI n)], [.int (-5)])) (h' := (G, I, F)) (hs' := []) rfl rfl ?_
      exact vm_J.end vm_q4 (en := (36, .ireturn, 1, [], .null)) rfl (by rw [sp_fi_none (p := fun i => sp_ca (I (C + 2)) n i = k) pj, if_neg (Nat.lt_irrefl n)]; rfl) vm_rI (Nat.zero_le _) (Nat.zero_le _) rfl
    · rw [(hn : I C 2 = nI n)] at c3
      have c3 := vm_ge_f (a := n) (b := n) (by omega) (by omega) c3
      exact (show False by omega).elim
set_option maxHeartbeats 4000000 in
set_option maxRecDepth 20000 in
/-- DitherDesk$Cutter.spanOn  -/
theorem m_Cu_spanOn {l : Launch} {X : vm_Cx} {G : List vm_Sh} {I : Nat → Nat → Int32} {F : Nat → Nat → UInt32} {C b x y : Nat} {k : Int32} (hC : vm_isC G C) (hb : G[b]? = some (2, 6, [.int 0, .int 0, .int 0, .int 0, .int 0, .int 0])) (hx : I b 0 = nI x) (hy : I b 1 = nI y) (hxy : x ≤ y) (hy2 : y ≤ 144) : vm_K l X vm_M10 [.ref C, .ref b, .int k] (G, I, F) (some (.int (sp_hi (fun i => sp_ch (I (C + 1) i) k) x (y - x) - sp_lo (fun i => sp_ch (I (C + 1) i) k) x (y - x)))) (G, I, F) := by
  refine vm_K.mk (by decide) (Nat.le_of_ble_eq_true rfl) ?_
  show vm_J _ _ _ (0, (0, 0), [.ref C, .ref b, .int k, .retAddr 0, .retAddr 0, .retAddr 0, .retAddr 0], []) _ _ _
  refine vm_J.go vm_q10 (k := 7) (hs := [(2, 6, [.int 0, .int 0, .int 0, .int 0, .int 0, .int 0])]) (f' := (12, (0, 0), [.ref C, .ref b, .int k, .int 63, .int 0, .int (I b 0), .retAddr 0], [])) (h' := (G, I, F)) (hs' := []) rfl (vm_b2 rfl (vm_b2 rfl (vm_b2 rfl (vm_b2 rfl (vm_b2 rfl (vm_b2 (vm_b2 (vm_hG hb) rfl) (vm_b2 rfl rfl))))))) ?_
  rw [(hx : I b 0 = nI x)]
  refine vm_J.cnt (y - x) (fun j => (12, (0, 0), [.ref C, .ref b, .int k, .int (sp_lo (fun i => sp_ch (I (C + 1) i) k) x j), .int (sp_hi (fun i => sp_ch (I (C + 1) i) k) x j), .int (nI (x + j)), .retAddr 0], [])) (fun j => (G, I, F)) (fun _ => True) rfl rfl trivial (fun j hj pj ij => ?_) (fun pj => ?_)
  · show vm_J _ _ _ (12, (0, 0), [.ref C, .ref b, .int k, .int (sp_lo (fun i => sp_ch (I (C + 1) i) k) x j), .int (sp_hi (fun i => sp_ch (I (C + 1) i) k) x j), .int (nI (x + j)), .retAddr 0], []) (G, I, F) _ _
    refine vm_J.go vm_q10 (k := 4) (hs := [(2, 6, [.int 0, .int 0, .int 0, .int 0, .int 0, .int 0])]) (f' := (bif vm_ic .ge (nI (x + j)) (I b 1) then 58 else 21, (0, 0), [.ref C, .ref b, .int k, .int (sp_lo (fun i => sp_ch (I (C + 1) i) k) x j), .int (sp_hi (fun i => sp_ch (I (C + 1) i) k) x j), .int (nI (x + j)), .retAddr 0], [])) (h' := (G, I, F)) (hs' := []) rfl (vm_b2 rfl (vm_b2 rfl (vm_b2 (vm_b2 (vm_hG hb) rfl) (vm_b2 rfl rfl)))) ?_
    refine vm_J.br (fun c1 => ?_) (fun c1 => ?_)
    · rw [(hy : I b 1 = nI y)] at c1
      have c1 := vm_ge_t (a := x + j) (b := y) (by omega) (by omega) c1
      exact (show False by omega).elim
    · rw [(hy : I b 1 = nI y)] at c1
      have c1 := vm_ge_f (a := x + j) (b := y) (by omega) (by omega) c1
      refine vm_J.go vm_q10 (k := 3) (hs := [(3, 5, [.ref (C + 1), .ref (C + 2), .int 0, .ref (C + 3), .int 0])]) (f' := (27, (0, 0), [.ref C, .ref b, .int k, .int (sp_lo (fun i => sp_ch (I (C + 1) i) k) x j), .int (sp_hi (fun i => sp_ch (I (C + 1) i) k) x j), .int (nI (x + j)), .retAddr 0], [.int (nI (x + j)), .ref (C + 1)])) (h' := (G, I, F)) (hs' := []) rfl (vm_b2 rfl (vm_b2 (vm_b2 (vm_hG hC.1) rfl) (vm_b2 rfl rfl))) ?_
      refine vm_J.call vm_q10 (Z := vm_M152) (n := 2) (k := 1) (mi := 152) (pc := 27) (en := (27, .invokestatic 35, 3, [152, 505, 1], .null)) rfl trivial rfl rfl vm_z152 (av := [.ref (C + 1), .int (nI (x + j))]) (rest := []) (m_at_n (j := x + j) hC.2.1 (by omega) (by omega)) rfl (Nat.le_of_ble_eq_true rfl) ⟨Nat.le_of_ble_eq_true rfl, Nat.le_of_ble_eq_true rfl⟩ ⟨Nat.le_of_ble_eq_true rfl, Nat.le_of_ble_eq_true rfl⟩ ?_
      show vm_J _ _ _ (30, (0, 0), [.ref C, .ref b, .int k, .int (sp_lo (fun i => sp_ch (I (C + 1) i) k) x j), .int (sp_hi (fun i => sp_ch (I (C + 1) i) k) x j), .int (nI (x + j)), .retAddr 0], [.int (I (C + 1) (x + j))]) (G, I, F) _ _
      refine vm_J.go vm_q10 (k := 1) (hs := []) (f' := (31, (0, 0), [.ref C, .ref b, .int k, .int (sp_lo (fun i => sp_ch (I (C + 1) i) k) x j), .int (sp_hi (fun i => sp_ch (I (C + 1) i) k) x j), .int (nI (x + j)), .retAddr 0], [.int k, .int (I (C + 1) (x + j))])) (h' := (G, I, F)) (hs' := []) rfl rfl ?_
      refine vm_J.call vm_q10 (Z := vm_M164) (n := 2) (k := 1) (mi := 164) (pc := 31) (en := (31, .invokestatic 109, 3, [164, 574, 1], .null)) rfl trivial rfl rfl vm_z164 (av := [.int (I (C + 1) (x + j)), .int k]) (rest := []) (m_channelOf (c := I (C + 1) (x + j)) (k := k)) rfl (Nat.le_of_ble_eq_true rfl) ⟨Nat.le_of_ble_eq_true rfl, Nat.le_of_ble_eq_true rfl⟩ ⟨Nat.le_of_ble_eq_true rfl, Nat.le_of_ble_eq_true rfl⟩ ?_
      show vm_J _ _ _ (34, (0, 0), [.ref C, .ref b, .int k, .int (sp_lo (fun i => sp_ch (I (C + 1) i) k) x j), .int (sp_hi (fun i => sp_ch (I (C + 1) i) k) x j), .int (nI (x + j)), .retAddr 0], [.int (sp_ch (I (C + 1) (x + j)) k)]) (G, I, F) _ _
      refine vm_J.go vm_q10 (k := 3) (hs := []) (f' := (39, (0, 0), [.ref C, .ref b, .int k, .int (sp_lo (fun i => sp_ch (I (C + 1) i) k) x j), .int (sp_hi (fun i => sp_ch (I (C + 1) i) k) x j), .int (nI (x + j)), .int (sp_ch (I (C + 1) (x + j)) k)], [.int (sp_ch (I (C + 1) (x + j)) k), .int (sp_lo (fun i => sp_ch (I (C + 1) i) k) x j)])) (h' := (G, I, F)) (hs' := []) rfl rfl ?_
      refine vm_J.call vm_q10 (Z := vm_M300) (n := 2) (k := 1) (mi := 300) (pc := 39) (en := (39, .invokestatic 103, 3, [300, 575, 0], .null)) rfl trivial rfl rfl vm_z300 (av := [.int (sp_lo (fun i => sp_ch (I (C + 1) i) k) x j), .int (sp_ch (I (C + 1) (x + j)) k)]) (rest := []) (j_min (a := sp_lo (fun i => sp_ch (I (C + 1) i) k) x j) (b := sp_ch (I (C + 1) (x + j)) k)) rfl (Nat.le_of_ble_eq_true rfl) ⟨Nat.le_of_ble_eq_true rfl, Nat.le_of_ble_eq_true rfl⟩ ⟨Nat.le_of_ble_eq_true rfl, Nat.le_of_ble_eq_true rfl⟩ ?_
      show vm_J _ _ _ (42, (0, 0), [.ref C, .ref b, .int k, .int (sp_lo (fun i => sp_ch (I (C + 1) i) k) x j), .int (sp_hi (fun i => sp_ch (I (C + 1) i) k) x j), .int (nI (x + j)), .int (sp_ch (I (C + 1) (x + j)) k)], [.int (sp_mn (sp_lo (fun i => sp_ch (I (C + 1) i) k) x j) (sp_ch (I (C + 1) (x + j)) k))]) (G, I, F) _ _
      refine vm_J.go vm_q10 (k := 3) (hs := []) (f' := (47, (0, 0), [.ref C, .ref b, .int k, .int (sp_mn (sp_lo (fun i => sp_ch (I (C + 1) i) k) x j) (sp_ch (I (C + 1) (x + j)) k)), .int (sp_hi (fun i => sp_ch (I (C + 1) i) k) x j), .int (nI (x + j)), .int (sp_ch (I (C + 1) (x + j)) k)], [.int (sp_ch (I (C + 1) (x + j)) k), .int (sp_hi (fun i => sp_ch (I (C + 1) i) k) x j)])) (h' := (G, I, F)) (hs' := []) rfl rfl ?_
      refine vm_J.call vm_q10 (Z := vm_M299) (n := 2) (k := 1) (mi := 299) (pc := 47) (en := (47, .invokestatic 112, 3, [299, 578, 0], .null)) rfl trivial rfl rfl vm_z299 (av := [.int (sp_hi (fun i => sp_ch (I (C + 1) i) k) x j), .int (sp_ch (I (C + 1) (x + j)) k)]) (rest := []) (j_max (a := sp_hi (fun i => sp_ch (I (C + 1) i) k) x j) (b := sp_ch (I (C + 1) (x + j)) k)) rfl (Nat.le_of_ble_eq_true rfl) ⟨Nat.le_of_ble_eq_true rfl, Nat.le_of_ble_eq_true rfl⟩ ⟨Nat.le_of_ble_eq_true rfl, Nat.le_of_ble_eq_true rfl⟩ ?_
      show vm_J _ _ _ (50, (0, 0), [.ref C, .ref b, .int k, .int (sp_mn (sp_lo (fun i => sp_ch (I (C + 1) i) k) x j) (sp_ch (I (C + 1) (x + j)) k)), .int (sp_hi (fun i => sp_ch (I (C + 1) i) k) x j), .int (nI (x + j)), .int (sp_ch (I (C + 1) (x + j)) k)], [.int (sp_mx (sp_hi (fun i => sp_ch (I (C + 1) i) k) x j) (sp_ch (I (C + 1) (x + j)) k))]) (G, I, F) _ _
      refine vm_J.go vm_q10 (k := 3) (hs := []) (f' := (12, (0, 0), [.ref C, .ref b, .int k, .int (sp_mn (sp_lo (fun i => sp_ch (I (C + 1) i) k) x j) (sp_ch (I (C + 1) (x + j)) k)), .int (sp_mx (sp_hi (fun i => sp_ch (I (C + 1) i) k) x j) (sp_ch (I (C + 1) (x + j)) k)), .int ((nI (x + j)) + 1), .int (sp_ch (I (C + 1) (x + j)) k)], [])) (h' := (G, I, F)) (hs' := []) rfl rfl ?_
      rw [((vm_pa (rfl : nI (x + j) = nI (x + j)) (rfl : (1 : Int32) = nI 1)) : (nI (x + j)) + 1 = nI (x + j + 1))]
      refine vm_J.mask [true, true, true, true, true, true, false] ?_
      show vm_J _ _ _ (12, (0, 0), [.ref C, .ref b, .int k, .int (sp_mn (sp_lo (fun i => sp_ch (I (C + 1) i) k) x j) (sp_ch (I (C + 1) (x + j)) k)), .int (sp_mx (sp_hi (fun i => sp_ch (I (C + 1) i) k) x j) (sp_ch (I (C + 1) (x + j)) k)), .int (nI (x + j + 1)), .retAddr 0], []) (G, I, F) _ _
      rw [show (sp_mn (sp_lo (fun i => sp_ch (I (C + 1) i) k) x j) (sp_ch (I (C + 1) (x + j)) k) : Int32) = sp_lo (fun i => sp_ch (I (C + 1) i) k) x (j + 1) from by rfl]
      rw [show (sp_mx (sp_hi (fun i => sp_ch (I (C + 1) i) k) x j) (sp_ch (I (C + 1) (x + j)) k) : Int32) = sp_hi (fun i => sp_ch (I (C + 1) i) k) x (j + 1) from by rfl]
      exact ij trivial
  · show vm_J _ _ _ (12, (0, 0), [.ref C, .ref b, .int k, .int (sp_lo (fun i => sp_ch (I (C + 1) i) k) x (y - x)), .int (sp_hi (fun i => sp_ch (I (C + 1) i) k) x (y - x)), .int (nI (x + (y - x))), .retAddr 0], []) (G, I, F) _ _
    refine vm_J.go vm_q10 (k := 4) (hs := [(2, 6, [.int 0, .int 0, .int 0, .int 0, .int 0, .int 0])]) (f' := (bif vm_ic .ge (nI (x + (y - x))) (I b 1) then 58 else 21, (0, 0), [.ref C, .ref b, .int k, .int (sp_lo (fun i => sp_ch (I (C + 1) i) k) x (y - x)), .int (sp_hi (fun i => sp_ch (I (C + 1) i) k) x (y - x)), .int (nI (x + (y - x))), .retAddr 0], [])) (h' := (G, I, F)) (hs' := []) rfl (vm_b2 rfl (vm_b2 rfl (vm_b2 (vm_b2 (vm_hG hb) rfl) (vm_b2 rfl rfl)))) ?_
    refine vm_J.br (fun c2 => ?_) (fun c2 => ?_)
    · rw [(hy : I b 1 = nI y)] at c2
      have c2 := vm_ge_t (a := x + (y - x)) (b := y) (by omega) (by omega) c2
      refine vm_J.go vm_q10 (k := 3) (hs := []) (f' := (62, (0, 0), [.ref C, .ref b, .int k, .int (sp_lo (fun i => sp_ch (I (C + 1) i) k) x (y - x)), .int (sp_hi (fun i => sp_ch (I (C + 1) i) k) x (y - x)), .int (nI (x + (y - x))), .retAddr 0], [.int ((sp_hi (fun i => sp_ch (I (C + 1) i) k) x (y - x)) - (sp_lo (fun i => sp_ch (I (C + 1) i) k) x (y - x)))])) (h' := (G, I, F)) (hs' := []) rfl rfl ?_
      exact vm_J.end vm_q10 (en := (62, .ireturn, 1, [], .null)) rfl rfl vm_rI (Nat.zero_le _) (Nat.zero_le _) rfl
    · rw [(hy : I b 1 = nI y)] at c2
      have c2 := vm_ge_f (a := x + (y - x)) (b := y) (by omega) (by omega) c2
      exact (show False by omega).elim
