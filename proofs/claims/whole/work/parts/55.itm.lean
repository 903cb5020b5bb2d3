set_option maxHeartbeats 4000000 in
set_option maxRecDepth 20000 in
/-- DitherDesk.itemOf  -/
theorem m_itemOf_0 {l : Launch} {X : vm_Cx} {G : List vm_Sh} {I : Nat → Nat → Int32} {F : Nat → Nat → UInt32} {v : Int64} : vm_K l X vm_M149 [.int 0, .long v] (G, I, F) (some (.int (v.toInt32.toInt8.toInt32))) (G, I, F) := by
  refine vm_K.mk (by decide) (Nat.le_of_ble_eq_true rfl) ?_
  show vm_J _ _ _ (0, (0, 0), [.int 0, .long v, .retAddr 0], []) _ _ _
  refine vm_J.go vm_q149 (k := 5) (hs := []) (f' := (35, (0, 0), [.int 0, .long v, .retAddr 0], [.int v.toInt32.toInt8.toInt32])) (h' := (G, I, F)) (hs' := []) rfl rfl ?_
  exact vm_J.end vm_q149 (en := (35, .ireturn, 1, [], .null)) rfl rfl vm_rI (Nat.zero_le _) (Nat.zero_le _) rfl
set_option maxHeartbeats 4000000 in
set_option maxRecDepth 20000 in
/-- DitherDeskModel.lowest  -/
theorem r_lowest_0 {l : Launch} {X : vm_Cx} {G : List vm_Sh} {I : Nat → Nat → Int32} {F : Nat → Nat → UInt32} {v : Int64} : vm_K l X vm_M291 [.int 0, .long v] (G, I, F) (some (.int (v.toInt32.toInt8.toInt32))) (G, I, F) := by
  refine vm_K.mk (by decide) (Nat.le_of_ble_eq_true rfl) ?_
  show vm_J _ _ _ (0, (0, 0), [.int 0, .long v, .retAddr 0], []) _ _ _
  refine vm_J.go vm_q291 (k := 5) (hs := []) (f' := (31, (0, 0), [.int 0, .long v, .retAddr 0], [.int v.toInt32.toInt8.toInt32])) (h' := (G, I, F)) (hs' := []) rfl rfl ?_
  exact vm_J.end vm_q291 (en := (31, .ireturn, 1, [], .null)) rfl rfl vm_rI (Nat.zero_le _) (Nat.zero_le _) rfl
set_option maxHeartbeats 4000000 in
set_option maxRecDepth 20000 in
/-- DitherDesk.itemOf  -/
theorem m_itemOf_1 {l : Launch} {X : vm_Cx} {G : List vm_Sh} {I : Nat → Nat → Int32} {F : Nat → Nat → UInt32} {v : Int64} : vm_K l X vm_M149 [.int 1, .long v] (G, I, F) (some (.int (v.toInt32.toInt16.toInt32))) (G, I, F) := by
  refine vm_K.mk (by decide) (Nat.le_of_ble_eq_true rfl) ?_
  show vm_J _ _ _ (0, (0, 0), [.int 1, .long v, .retAddr 0], []) _ _ _
  refine vm_J.go vm_q149 (k := 5) (hs := []) (f' := (39, (0, 0), [.int 1, .long v, .retAddr 0], [.int v.toInt32.toInt16.toInt32])) (h' := (G, I, F)) (hs' := []) rfl rfl ?_
  exact vm_J.end vm_q149 (en := (39, .ireturn, 1, [], .null)) rfl rfl vm_rI (Nat.zero_le _) (Nat.zero_le _) rfl
set_option maxHeartbeats 4000000 in
set_option maxRecDepth 20000 in
/-- DitherDeskModel.lowest  -/
theorem r_lowest_1 {l : Launch} {X : vm_Cx} {G : List vm_Sh} {I : Nat → Nat → Int32} {F : Nat → Nat → UInt32} {v : Int64} : vm_K l X vm_M291 [.int 1, .long v] (G, I, F) (some (.int (v.toInt32.toInt16.toInt32))) (G, I, F) := by
  refine vm_K.mk (by decide) (Nat.le_of_ble_eq_true rfl) ?_
  show vm_J _ _ _ (0, (0, 0), [.int 1, .long v, .retAddr 0], []) _ _ _
  refine vm_J.go vm_q291 (k := 5) (hs := []) (f' := (35, (0, 0), [.int 1, .long v, .retAddr 0], [.int v.toInt32.toInt16.toInt32])) (h' := (G, I, F)) (hs' := []) rfl rfl ?_
  exact vm_J.end vm_q291 (en := (35, .ireturn, 1, [], .null)) rfl rfl vm_rI (Nat.zero_le _) (Nat.zero_le _) rfl
set_option maxHeartbeats 4000000 in
set_option maxRecDepth 20000 in
/-- DitherDesk.itemOf  -/
theorem m_itemOf_2 {l : Launch} {X : vm_Cx} {G : List vm_Sh} {I : Nat → Nat → Int32} {F : Nat → Nat → UInt32} {v : Int64} : vm_K l X vm_M149 [.int 2, .long v] (G, I, F) (some (.int (v.toInt32))) (G, I, F) := by
  refine vm_K.mk (by decide) (Nat.le_of_ble_eq_true rfl) ?_
  show vm_J _ _ _ (0, (0, 0), [.int 2, .long v, .retAddr 0], []) _ _ _
  refine vm_J.go vm_q149 (k := 4) (hs := []) (f' := (48, (0, 0), [.int 2, .long v, .retAddr 0], [.int v.toInt32])) (h' := (G, I, F)) (hs' := []) rfl rfl ?_
  exact vm_J.end vm_q149 (en := (48, .ireturn, 1, [], .null)) rfl rfl vm_rI (Nat.zero_le _) (Nat.zero_le _) rfl
set_option maxHeartbeats 4000000 in
set_option maxRecDepth 20000 in
/-- DitherDeskModel.lowest  -/
theorem r_lowest_2 {l : Launch} {X : vm_Cx} {G : List vm_Sh} {I : Nat → Nat → Int32} {F : Nat → Nat → UInt32} {v : Int64} : vm_K l X vm_M291 [.int 2, .long v] (G, I, F) (some (.int (v.toInt32))) (G, I, F) := by
  refine vm_K.mk (by decide) (Nat.le_of_ble_eq_true rfl) ?_
  show vm_J _ _ _ (0, (0, 0), [.int 2, .long v, .retAddr 0], []) _ _ _
  refine vm_J.go vm_q291 (k := 4) (hs := []) (f' := (38, (0, 0), [.int 2, .long v, .retAddr 0], [.int v.toInt32])) (h' := (G, I, F)) (hs' := []) rfl rfl ?_
  exact vm_J.end vm_q291 (en := (38, .ireturn, 1, [], .null)) rfl rfl vm_rI (Nat.zero_le _) (Nat.zero_le _) rfl
