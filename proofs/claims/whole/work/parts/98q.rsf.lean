set_option maxHeartbeats 4000000 in
set_option maxRecDepth 20000 in
/-- DitherDeskModel.screenFor -/
theorem r_screenFor_0_n {l : Launch} {X : vm_Cx} {G : List vm_Sh} {I : Nat → Nat → Int32} {F : Nat → Nat → UInt32} {a : Nat} {b : Nat} {c : Int32} (hR : vm_isR G) (hk : I 152 8 = 0) (ha : a ≤ 12) (hb : b ≤ 12) : vm_K l X vm_M248 [.ref 152, .int (nI a), .int (nI b), .int c, .int 0] (G, I, F) (some (.int (vm_sV 16 (0 + 2 * (b % 2) + a % 2)))) (G, I, F) := by
  refine vm_K.mk (by decide) (Nat.le_of_ble_eq_true rfl) ?_
  show vm_J _ _ _ (0, (0, 0), [.ref 152, .int (nI a), .int (nI b), .int c, .int 0, .retAddr 0], []) _ _ _
  refine vm_J.go vm_q248 (k := 3) (hs := [vm_shR]) (f' := (7, (0, 0), [.ref 152, .int (nI a), .int (nI b), .int c, .int 0, .retAddr 0], [.int (I 152 8), .ref 100015])) (h' := (G, I, F)) (hs' := []) rfl (vm_b2 rfl (vm_b2 rfl (vm_b2 (vm_b2 (vm_hG hR.c152) rfl) rfl))) ?_
  rw [(hk : I 152 8 = 0)]
  refine vm_J.go vm_q248 (k := 4) (hs := [(60, 15, [])]) (f' := (bif vm_ic .eq 0 0 then 19 else 15, (0, 0), [.ref 152, .int (nI a), .int (nI b), .int c, .int 0, .int (vm_sV 15 0)], [])) (h' := (G, I, F)) (hs' := []) rfl (vm_b2 (vm_b2 rfl rfl) (vm_b2 rfl (vm_b2 rfl (vm_b2 rfl rfl)))) ?_
  rw [(rfl : vm_sV 15 0 = nI 2)]
  refine vm_J.bT (by decide) ?_
  refine vm_J.go vm_q248 (k := 3) (hs := []) (f' := (22, (0, 0), [.ref 152, .int (nI a), .int (nI b), .int c, .int 0, .int (nI 2)], [.int (nI b), .int (nI a), .ref 152])) (h' := (G, I, F)) (hs' := []) rfl rfl ?_
  refine vm_J.call vm_q248 (Z := vm_M247) (n := 2) (k := 0) (mi := 247) (pc := 22) (en := (22, .invokevirtual 385, 3, [247, 1640, 0], .null)) rfl trivial rfl rfl vm_z247 (av := [.ref 152, .int (nI a), .int (nI b)]) (rest := []) (r_screenAt_0 (a := a) (b := b) hR hk (by omega) (by omega)) ⟨_, _, rfl, rfl, _, 11, _, hR.c152, rfl, rfl, rfl⟩ (Nat.le_of_ble_eq_true rfl) ⟨Nat.le_of_ble_eq_true rfl, Nat.le_of_ble_eq_true rfl⟩ ⟨Nat.le_of_ble_eq_true rfl, Nat.le_of_ble_eq_true rfl⟩ ?_
  show vm_J _ _ _ (25, (0, 0), [.ref 152, .int (nI a), .int (nI b), .int c, .int 0, .int (nI 2)], [.int (vm_sV 16 (0 + 2 * (b % 2) + a % 2))]) (G, I, F) _ _
  exact vm_J.end vm_q248 (en := (25, .ireturn, 1, [], .null)) rfl rfl vm_rI (Nat.zero_le _) (Nat.zero_le _) rfl
set_option maxHeartbeats 4000000 in
set_option maxRecDepth 20000 in
/-- DitherDeskModel.screenFor -/
theorem r_screenFor_0_0 {l : Launch} {X : vm_Cx} {G : List vm_Sh} {I : Nat → Nat → Int32} {F : Nat → Nat → UInt32} {a : Nat} {b : Nat} (hR : vm_isR G) (hk : I 152 8 = 0) (ha : a ≤ 12) (hb : b ≤ 12) : vm_K l X vm_M248 [.ref 152, .int (nI a), .int (nI b), .int 0, .int 1] (G, I, F) (some (.int (vm_sV 16 (0 + 2 * (b % 2) + a % 2)))) (G, I, F) := by
  refine vm_K.mk (by decide) (Nat.le_of_ble_eq_true rfl) ?_
  show vm_J _ _ _ (0, (0, 0), [.ref 152, .int (nI a), .int (nI b), .int 0, .int 1, .retAddr 0], []) _ _ _
  refine vm_J.go vm_q248 (k := 3) (hs := [vm_shR]) (f' := (7, (0, 0), [.ref 152, .int (nI a), .int (nI b), .int 0, .int 1, .retAddr 0], [.int (I 152 8), .ref 100015])) (h' := (G, I, F)) (hs' := []) rfl (vm_b2 rfl (vm_b2 rfl (vm_b2 (vm_b2 (vm_hG hR.c152) rfl) rfl))) ?_
  rw [(hk : I 152 8 = 0)]
  refine vm_J.go vm_q248 (k := 4) (hs := [(60, 15, [])]) (f' := (bif vm_ic .eq 1 0 then 19 else 15, (0, 0), [.ref 152, .int (nI a), .int (nI b), .int 0, .int 1, .int (vm_sV 15 0)], [])) (h' := (G, I, F)) (hs' := []) rfl (vm_b2 (vm_b2 rfl rfl) (vm_b2 rfl (vm_b2 rfl (vm_b2 rfl rfl)))) ?_
  rw [(rfl : vm_sV 15 0 = nI 2)]
  refine vm_J.bF (by decide) ?_
  refine vm_J.go vm_q248 (k := 2) (hs := []) (f' := (bif vm_ic .ne 0 0 then 26 else 19, (0, 0), [.ref 152, .int (nI a), .int (nI b), .int 0, .int 1, .int (nI 2)], [])) (h' := (G, I, F)) (hs' := []) rfl rfl ?_
  refine vm_J.bF (by decide) ?_
  refine vm_J.go vm_q248 (k := 3) (hs := []) (f' := (22, (0, 0), [.ref 152, .int (nI a), .int (nI b), .int 0, .int 1, .int (nI 2)], [.int (nI b), .int (nI a), .ref 152])) (h' := (G, I, F)) (hs' := []) rfl rfl ?_
  refine vm_J.call vm_q248 (Z := vm_M247) (n := 2) (k := 0) (mi := 247) (pc := 22) (en := (22, .invokevirtual 385, 3, [247, 1640, 0], .null)) rfl trivial rfl rfl vm_z247 (av := [.ref 152, .int (nI a), .int (nI b)]) (rest := []) (r_screenAt_0 (a := a) (b := b) hR hk (by omega) (by omega)) ⟨_, _, rfl, rfl, _, 11, _, hR.c152, rfl, rfl, rfl⟩ (Nat.le_of_ble_eq_true rfl) ⟨Nat.le_of_ble_eq_true rfl, Nat.le_of_ble_eq_true rfl⟩ ⟨Nat.le_of_ble_eq_true rfl, Nat.le_of_ble_eq_true rfl⟩ ?_
  show vm_J _ _ _ (25, (0, 0), [.ref 152, .int (nI a), .int (nI b), .int 0, .int 1, .int (nI 2)], [.int (vm_sV 16 (0 + 2 * (b % 2) + a % 2))]) (G, I, F) _ _
  exact vm_J.end vm_q248 (en := (25, .ireturn, 1, [], .null)) rfl rfl vm_rI (Nat.zero_le _) (Nat.zero_le _) rfl
set_option maxHeartbeats 4000000 in
set_option maxRecDepth 20000 in
/-- DitherDeskModel.screenFor -/
theorem r_screenFor_0_1 {l : Launch} {X : vm_Cx} {G : List vm_Sh} {I : Nat → Nat → Int32} {F : Nat → Nat → UInt32} {a : Nat} {b : Nat} (hR : vm_isR G) (hk : I 152 8 = 0) (ha : a ≤ 12) (hb : b ≤ 12) : vm_K l X vm_M248 [.ref 152, .int (nI a), .int (nI b), .int 1, .int 1] (G, I, F) (some (.int (vm_sV 16 (0 + 2 * (a % 2) + b % 2)))) (G, I, F) := by
  refine vm_K.mk (by decide) (Nat.le_of_ble_eq_true rfl) ?_
  show vm_J _ _ _ (0, (0, 0), [.ref 152, .int (nI a), .int (nI b), .int 1, .int 1, .retAddr 0], []) _ _ _
  refine vm_J.go vm_q248 (k := 3) (hs := [vm_shR]) (f' := (7, (0, 0), [.ref 152, .int (nI a), .int (nI b), .int 1, .int 1, .retAddr 0], [.int (I 152 8), .ref 100015])) (h' := (G, I, F)) (hs' := []) rfl (vm_b2 rfl (vm_b2 rfl (vm_b2 (vm_b2 (vm_hG hR.c152) rfl) rfl))) ?_
  rw [(hk : I 152 8 = 0)]
  refine vm_J.go vm_q248 (k := 4) (hs := [(60, 15, [])]) (f' := (bif vm_ic .eq 1 0 then 19 else 15, (0, 0), [.ref 152, .int (nI a), .int (nI b), .int 1, .int 1, .int (vm_sV 15 0)], [])) (h' := (G, I, F)) (hs' := []) rfl (vm_b2 (vm_b2 rfl rfl) (vm_b2 rfl (vm_b2 rfl (vm_b2 rfl rfl)))) ?_
  rw [(rfl : vm_sV 15 0 = nI 2)]
  refine vm_J.bF (by decide) ?_
  refine vm_J.go vm_q248 (k := 2) (hs := []) (f' := (bif vm_ic .ne 1 0 then 26 else 19, (0, 0), [.ref 152, .int (nI a), .int (nI b), .int 1, .int 1, .int (nI 2)], [])) (h' := (G, I, F)) (hs' := []) rfl rfl ?_
  refine vm_J.bT (by decide) ?_
  refine vm_J.go vm_q248 (k := 3) (hs := []) (f' := (bif vm_ic .ne 1 1 then 40 else 31, (0, 0), [.ref 152, .int (nI a), .int (nI b), .int 1, .int 1, .int (nI 2)], [])) (h' := (G, I, F)) (hs' := []) rfl rfl ?_
  refine vm_J.bF (by decide) ?_
  refine vm_J.go vm_q248 (k := 3) (hs := []) (f' := (34, (0, 0), [.ref 152, .int (nI a), .int (nI b), .int 1, .int 1, .int (nI 2)], [.int (nI a), .int (nI b), .ref 152])) (h' := (G, I, F)) (hs' := []) rfl rfl ?_
  refine vm_J.call vm_q248 (Z := vm_M247) (n := 2) (k := 0) (mi := 247) (pc := 34) (en := (34, .invokevirtual 385, 3, [247, 1640, 0], .null)) rfl trivial rfl rfl vm_z247 (av := [.ref 152, .int (nI b), .int (nI a)]) (rest := []) (r_screenAt_0 (a := b) (b := a) hR hk (by omega) (by omega)) ⟨_, _, rfl, rfl, _, 11, _, hR.c152, rfl, rfl, rfl⟩ (Nat.le_of_ble_eq_true rfl) ⟨Nat.le_of_ble_eq_true rfl, Nat.le_of_ble_eq_true rfl⟩ ⟨Nat.le_of_ble_eq_true rfl, Nat.le_of_ble_eq_true rfl⟩ ?_
  show vm_J _ _ _ (37, (0, 0), [.ref 152, .int (nI a), .int (nI b), .int 1, .int 1, .int (nI 2)], [.int (vm_sV 16 (0 + 2 * (a % 2) + b % 2))]) (G, I, F) _ _
  refine vm_J.go vm_q248 (k := 1) (hs := []) (f' := (54, (0, 0), [.ref 152, .int (nI a), .int (nI b), .int 1, .int 1, .int (nI 2)], [.int (vm_sV 16 (0 + 2 * (a % 2) + b % 2))])) (h' := (G, I, F)) (hs' := []) rfl rfl ?_
  exact vm_J.end vm_q248 (en := (54, .ireturn, 1, [], .null)) rfl rfl vm_rI (Nat.zero_le _) (Nat.zero_le _) rfl
set_option maxHeartbeats 4000000 in
set_option maxRecDepth 20000 in
/-- DitherDeskModel.screenFor -/
theorem r_screenFor_0_2 {l : Launch} {X : vm_Cx} {G : List vm_Sh} {I : Nat → Nat → Int32} {F : Nat → Nat → UInt32} {a : Nat} {b : Nat} (hR : vm_isR G) (hk : I 152 8 = 0) (ha : a ≤ 12) (hb : b ≤ 12) : vm_K l X vm_M248 [.ref 152, .int (nI a), .int (nI b), .int 2, .int 1] (G, I, F) (some (.int (3 - vm_sV 16 (0 + 2 * (b % 2) + a % 2)))) (G, I, F) := by
  refine vm_K.mk (by decide) (Nat.le_of_ble_eq_true rfl) ?_
  show vm_J _ _ _ (0, (0, 0), [.ref 152, .int (nI a), .int (nI b), .int 2, .int 1, .retAddr 0], []) _ _ _
  refine vm_J.go vm_q248 (k := 3) (hs := [vm_shR]) (f' := (7, (0, 0), [.ref 152, .int (nI a), .int (nI b), .int 2, .int 1, .retAddr 0], [.int (I 152 8), .ref 100015])) (h' := (G, I, F)) (hs' := []) rfl (vm_b2 rfl (vm_b2 rfl (vm_b2 (vm_b2 (vm_hG hR.c152) rfl) rfl))) ?_
  rw [(hk : I 152 8 = 0)]
  refine vm_J.go vm_q248 (k := 4) (hs := [(60, 15, [])]) (f' := (bif vm_ic .eq 1 0 then 19 else 15, (0, 0), [.ref 152, .int (nI a), .int (nI b), .int 2, .int 1, .int (vm_sV 15 0)], [])) (h' := (G, I, F)) (hs' := []) rfl (vm_b2 (vm_b2 rfl rfl) (vm_b2 rfl (vm_b2 rfl (vm_b2 rfl rfl)))) ?_
  rw [(rfl : vm_sV 15 0 = nI 2)]
  refine vm_J.bF (by decide) ?_
  refine vm_J.go vm_q248 (k := 2) (hs := []) (f' := (bif vm_ic .ne 2 0 then 26 else 19, (0, 0), [.ref 152, .int (nI a), .int (nI b), .int 2, .int 1, .int (nI 2)], [])) (h' := (G, I, F)) (hs' := []) rfl rfl ?_
  refine vm_J.bT (by decide) ?_
  refine vm_J.go vm_q248 (k := 3) (hs := []) (f' := (bif vm_ic .ne 2 1 then 40 else 31, (0, 0), [.ref 152, .int (nI a), .int (nI b), .int 2, .int 1, .int (nI 2)], [])) (h' := (G, I, F)) (hs' := []) rfl rfl ?_
  refine vm_J.bT (by decide) ?_
  refine vm_J.go vm_q248 (k := 8) (hs := []) (f' := (50, (0, 0), [.ref 152, .int (nI a), .int (nI b), .int 2, .int 1, .int (nI 2)], [.int (nI b), .int (nI a), .ref 152, .int (((nI 2) * (nI 2)) - 1)])) (h' := (G, I, F)) (hs' := []) rfl rfl ?_
  refine vm_J.call vm_q248 (Z := vm_M247) (n := 2) (k := 0) (mi := 247) (pc := 50) (en := (50, .invokevirtual 385, 3, [247, 1640, 0], .null)) rfl trivial rfl rfl vm_z247 (av := [.ref 152, .int (nI a), .int (nI b)]) (rest := [.int (((nI 2) * (nI 2)) - 1)]) (r_screenAt_0 (a := a) (b := b) hR hk (by omega) (by omega)) ⟨_, _, rfl, rfl, _, 11, _, hR.c152, rfl, rfl, rfl⟩ (Nat.le_of_ble_eq_true rfl) ⟨Nat.le_of_ble_eq_true rfl, Nat.le_of_ble_eq_true rfl⟩ ⟨Nat.le_of_ble_eq_true rfl, Nat.le_of_ble_eq_true rfl⟩ ?_
  show vm_J _ _ _ (53, (0, 0), [.ref 152, .int (nI a), .int (nI b), .int 2, .int 1, .int (nI 2)], [.int (vm_sV 16 (0 + 2 * (b % 2) + a % 2)), .int (((nI 2) * (nI 2)) - 1)]) (G, I, F) _ _
  refine vm_J.go vm_q248 (k := 1) (hs := []) (f' := (54, (0, 0), [.ref 152, .int (nI a), .int (nI b), .int 2, .int 1, .int (nI 2)], [.int ((((nI 2) * (nI 2)) - 1) - (vm_sV 16 (0 + 2 * (b % 2) + a % 2)))])) (h' := (G, I, F)) (hs' := []) rfl rfl ?_
  exact vm_J.end vm_q248 (en := (54, .ireturn, 1, [], .null)) rfl rfl vm_rI (Nat.zero_le _) (Nat.zero_le _) rfl
set_option maxHeartbeats 4000000 in
set_option maxRecDepth 20000 in
/-- DitherDeskModel.screenFor -/
theorem r_screenFor_1_n {l : Launch} {X : vm_Cx} {G : List vm_Sh} {I : Nat → Nat → Int32} {F : Nat → Nat → UInt32} {a : Nat} {b : Nat} {c : Int32} (hR : vm_isR G) (hk : I 152 8 = 1) (ha : a ≤ 12) (hb : b ≤ 12) : vm_K l X vm_M248 [.ref 152, .int (nI a), .int (nI b), .int c, .int 0] (G, I, F) (some (.int (vm_sV 16 (4 + 4 * (b % 4) + a % 4)))) (G, I, F) := by
  refine vm_K.mk (by decide) (Nat.le_of_ble_eq_true rfl) ?_
  show vm_J _ _ _ (0, (0, 0), [.ref 152, .int (nI a), .int (nI b), .int c, .int 0, .retAddr 0], []) _ _ _
  refine vm_J.go vm_q248 (k := 3) (hs := [vm_shR]) (f' := (7, (0, 0), [.ref 152, .int (nI a), .int (nI b), .int c, .int 0, .retAddr 0], [.int (I 152 8), .ref 100015])) (h' := (G, I, F)) (hs' := []) rfl (vm_b2 rfl (vm_b2 rfl (vm_b2 (vm_b2 (vm_hG hR.c152) rfl) rfl))) ?_
  rw [(hk : I 152 8 = 1)]
  refine vm_J.go vm_q248 (k := 4) (hs := [(60, 15, [])]) (f' := (bif vm_ic .eq 0 0 then 19 else 15, (0, 0), [.ref 152, .int (nI a), .int (nI b), .int c, .int 0, .int (vm_sV 15 1)], [])) (h' := (G, I, F)) (hs' := []) rfl (vm_b2 (vm_b2 rfl rfl) (vm_b2 rfl (vm_b2 rfl (vm_b2 rfl rfl)))) ?_
  rw [(rfl : vm_sV 15 1 = nI 4)]
  refine vm_J.bT (by decide) ?_
  refine vm_J.go vm_q248 (k := 3) (hs := []) (f' := (22, (0, 0), [.ref 152, .int (nI a), .int (nI b), .int c, .int 0, .int (nI 4)], [.int (nI b), .int (nI a), .ref 152])) (h' := (G, I, F)) (hs' := []) rfl rfl ?_
  refine vm_J.call vm_q248 (Z := vm_M247) (n := 2) (k := 0) (mi := 247) (pc := 22) (en := (22, .invokevirtual 385, 3, [247, 1640, 0], .null)) rfl trivial rfl rfl vm_z247 (av := [.ref 152, .int (nI a), .int (nI b)]) (rest := []) (r_screenAt_1 (a := a) (b := b) hR hk (by omega) (by omega)) ⟨_, _, rfl, rfl, _, 11, _, hR.c152, rfl, rfl, rfl⟩ (Nat.le_of_ble_eq_true rfl) ⟨Nat.le_of_ble_eq_true rfl, Nat.le_of_ble_eq_true rfl⟩ ⟨Nat.le_of_ble_eq_true rfl, Nat.le_of_ble_eq_true rfl⟩ ?_
  show vm_J _ _ _ (25, (0, 0), [.ref 152, .int (nI a), .int (nI b), .int c, .int 0, .int (nI 4)], [.int (vm_sV 16 (4 + 4 * (b % 4) + a % 4))]) (G, I, F) _ _
  exact vm_J.end vm_q248 (en := (25, .ireturn, 1, [], .null)) rfl rfl vm_rI (Nat.zero_le _) (Nat.zero_le _) rfl
set_option maxHeartbeats 4000000 in
set_option maxRecDepth 20000 in
/-- DitherDeskModel.screenFor -/
theorem r_screenFor_1_0 {l : Launch} {X : vm_Cx} {G : List vm_Sh} {I : Nat → Nat → Int32} {F : Nat → Nat → UInt32} {a : Nat} {b : Nat} (hR : vm_isR G) (hk : I 152 8 = 1) (ha : a ≤ 12) (hb : b ≤ 12) : vm_K l X vm_M248 [.ref 152, .int (nI a), .int (nI b), .int 0, .int 1] (G, I, F) (some (.int (vm_sV 16 (4 + 4 * (b % 4) + a % 4)))) (G, I, F) := by
  refine vm_K.mk (by decide) (Nat.le_of_ble_eq_true rfl) ?_
  show vm_J _ _ _ (0, (0, 0), [.ref 152, .int (nI a), .int (nI b), .int 0, .int 1, .retAddr 0], []) _ _ _
  refine vm_J.go vm_q248 (k := 3) (hs := [vm_shR]) (f' := (7, (0, 0), [.ref 152, .int (nI a), .int (nI b), .int 0, .int 1, .retAddr 0], [.int (I 152 8), .ref 100015])) (h' := (G, I, F)) (hs' := []) rfl (vm_b2 rfl (vm_b2 rfl (vm_b2 (vm_b2 (vm_hG hR.c152) rfl) rfl))) ?_
  rw [(hk : I 152 8 = 1)]
  refine vm_J.go vm_q248 (k := 4) (hs := [(60, 15, [])]) (f' := (bif vm_ic .eq 1 0 then 19 else 15, (0, 0), [.ref 152, .int (nI a), .int (nI b), .int 0, .int 1, .int (vm_sV 15 1)], [])) (h' := (G, I, F)) (hs' := []) rfl (vm_b2 (vm_b2 rfl rfl) (vm_b2 rfl (vm_b2 rfl (vm_b2 rfl rfl)))) ?_
  rw [(rfl : vm_sV 15 1 = nI 4)]
  refine vm_J.bF (by decide) ?_
  refine vm_J.go vm_q248 (k := 2) (hs := []) (f' := (bif vm_ic .ne 0 0 then 26 else 19, (0, 0), [.ref 152, .int (nI a), .int (nI b), .int 0, .int 1, .int (nI 4)], [])) (h' := (G, I, F)) (hs' := []) rfl rfl ?_
  refine vm_J.bF (by decide) ?_
  refine vm_J.go vm_q248 (k := 3) (hs := []) (f' := (22, (0, 0), [.ref 152, .int (nI a), .int (nI b), .int 0, .int 1, .int (nI 4)], [.int (nI b), .int (nI a), .ref 152])) (h' := (G, I, F)) (hs' := []) rfl rfl ?_
  refine vm_J.call vm_q248 (Z := vm_M247) (n := 2) (k := 0) (mi := 247) (pc := 22) (en := (22, .invokevirtual 385, 3, [247, 1640, 0], .null)) rfl trivial rfl rfl vm_z247 (av := [.ref 152, .int (nI a), .int (nI b)]) (rest := []) (r_screenAt_1 (a := a) (b := b) hR hk (by omega) (by omega)) ⟨_, _, rfl, rfl, _, 11, _, hR.c152, rfl, rfl, rfl⟩ (Nat.le_of_ble_eq_true rfl) ⟨Nat.le_of_ble_eq_true rfl, Nat.le_of_ble_eq_true rfl⟩ ⟨Nat.le_of_ble_eq_true rfl, Nat.le_of_ble_eq_true rfl⟩ ?_
  show vm_J _ _ _ (25, (0, 0), [.ref 152, .int (nI a), .int (nI b), .int 0, .int 1, .int (nI 4)], [.int (vm_sV 16 (4 + 4 * (b % 4) + a % 4))]) (G, I, F) _ _
  exact vm_J.end vm_q248 (en := (25, .ireturn, 1, [], .null)) rfl rfl vm_rI (Nat.zero_le _) (Nat.zero_le _) rfl
set_option maxHeartbeats 4000000 in
set_option maxRecDepth 20000 in
/-- DitherDeskModel.screenFor -/
theorem r_screenFor_1_1 {l : Launch} {X : vm_Cx} {G : List vm_Sh} {I : Nat → Nat → Int32} {F : Nat → Nat → UInt32} {a : Nat} {b : Nat} (hR : vm_isR G) (hk : I 152 8 = 1) (ha : a ≤ 12) (hb : b ≤ 12) : vm_K l X vm_M248 [.ref 152, .int (nI a), .int (nI b), .int 1, .int 1] (G, I, F) (some (.int (vm_sV 16 (4 + 4 * (a % 4) + b % 4)))) (G, I, F) := by
  refine vm_K.mk (by decide) (Nat.le_of_ble_eq_true rfl) ?_
  show vm_J _ _ _ (0, (0, 0), [.ref 152, .int (nI a), .int (nI b), .int 1, .int 1, .retAddr 0], []) _ _ _
  refine vm_J.go vm_q248 (k := 3) (hs := [vm_shR]) (f' := (7, (0, 0), [.ref 152, .int (nI a), .int (nI b), .int 1, .int 1, .retAddr 0], [.int (I 152 8), .ref 100015])) (h' := (G, I, F)) (hs' := []) rfl (vm_b2 rfl (vm_b2 rfl (vm_b2 (vm_b2 (vm_hG hR.c152) rfl) rfl))) ?_
  rw [(hk : I 152 8 = 1)]
  refine vm_J.go vm_q248 (k := 4) (hs := [(60, 15, [])]) (f' := (bif vm_ic .eq 1 0 then 19 else 15, (0, 0), [.ref 152, .int (nI a), .int (nI b), .int 1, .int 1, .int (vm_sV 15 1)], [])) (h' := (G, I, F)) (hs' := []) rfl (vm_b2 (vm_b2 rfl rfl) (vm_b2 rfl (vm_b2 rfl (vm_b2 rfl rfl)))) ?_
  rw [(rfl : vm_sV 15 1 = nI 4)]
  refine vm_J.bF (by decide) ?_
  refine vm_J.go vm_q248 (k := 2) (hs := []) (f' := (bif vm_ic .ne 1 0 then 26 else 19, (0, 0), [.ref 152, .int (nI a), .int (nI b), .int 1, .int 1, .int (nI 4)], [])) (h' := (G, I, F)) (hs' := []) rfl rfl ?_
  refine vm_J.bT (by decide) ?_
  refine vm_J.go vm_q248 (k := 3) (hs := []) (f' := (bif vm_ic .ne 1 1 then 40 else 31, (0, 0), [.ref 152, .int (nI a), .int (nI b), .int 1, .int 1, .int (nI 4)], [])) (h' := (G, I, F)) (hs' := []) rfl rfl ?_
  refine vm_J.bF (by decide) ?_
  refine vm_J.go vm_q248 (k := 3) (hs := []) (f' := (34, (0, 0), [.ref 152, .int (nI a), .int (nI b), .int 1, .int 1, .int (nI 4)], [.int (nI a), .int (nI b), .ref 152])) (h' := (G, I, F)) (hs' := []) rfl rfl ?_
  refine vm_J.call vm_q248 (Z := vm_M247) (n := 2) (k := 0) (mi := 247) (pc := 34) (en := (34, .invokevirtual 385, 3, [247, 1640, 0], .null)) rfl trivial rfl rfl vm_z247 (av := [.ref 152, .int (nI b), .int (nI a)]) (rest := []) (r_screenAt_1 (a := b) (b := a) hR hk (by omega) (by omega)) ⟨_, _, rfl, rfl, _, 11, _, hR.c152, rfl, rfl, rfl⟩ (Nat.le_of_ble_eq_true rfl) ⟨Nat.le_of_ble_eq_true rfl, Nat.le_of_ble_eq_true rfl⟩ ⟨Nat.le_of_ble_eq_true rfl, Nat.le_of_ble_eq_true rfl⟩ ?_
  show vm_J _ _ _ (37, (0, 0), [.ref 152, .int (nI a), .int (nI b), .int 1, .int 1, .int (nI 4)], [.int (vm_sV 16 (4 + 4 * (a % 4) + b % 4))]) (G, I, F) _ _
  refine vm_J.go vm_q248 (k := 1) (hs := []) (f' := (54, (0, 0), [.ref 152, .int (nI a), .int (nI b), .int 1, .int 1, .int (nI 4)], [.int (vm_sV 16 (4 + 4 * (a % 4) + b % 4))])) (h' := (G, I, F)) (hs' := []) rfl rfl ?_
  exact vm_J.end vm_q248 (en := (54, .ireturn, 1, [], .null)) rfl rfl vm_rI (Nat.zero_le _) (Nat.zero_le _) rfl
set_option maxHeartbeats 4000000 in
set_option maxRecDepth 20000 in
/-- DitherDeskModel.screenFor -/
theorem r_screenFor_1_2 {l : Launch} {X : vm_Cx} {G : List vm_Sh} {I : Nat → Nat → Int32} {F : Nat → Nat → UInt32} {a : Nat} {b : Nat} (hR : vm_isR G) (hk : I 152 8 = 1) (ha : a ≤ 12) (hb : b ≤ 12) : vm_K l X vm_M248 [.ref 152, .int (nI a), .int (nI b), .int 2, .int 1] (G, I, F) (some (.int (15 - vm_sV 16 (4 + 4 * (b % 4) + a % 4)))) (G, I, F) := by
  refine vm_K.mk (by decide) (Nat.le_of_ble_eq_true rfl) ?_
  show vm_J _ _ _ (0, (0, 0), [.ref 152, .int (nI a), .int (nI b), .int 2, .int 1, .retAddr 0], []) _ _ _
  refine vm_J.go vm_q248 (k := 3) (hs := [vm_shR]) (f' := (7, (0, 0), [.ref 152, .int (nI a), .int (nI b), .int 2, .int 1, .retAddr 0], [.int (I 152 8), .ref 100015])) (h' := (G, I, F)) (hs' := []) rfl (vm_b2 rfl (vm_b2 rfl (vm_b2 (vm_b2 (vm_hG hR.c152) rfl) rfl))) ?_
  rw [(hk : I 152 8 = 1)]
  refine vm_J.go vm_q248 (k := 4) (hs := [(60, 15, [])]) (f' := (bif vm_ic .eq 1 0 then 19 else 15, (0, 0), [.ref 152, .int (nI a), .int (nI b), .int 2, .int 1, .int (vm_sV 15 1)], [])) (h' := (G, I, F)) (hs' := []) rfl (vm_b2 (vm_b2 rfl rfl) (vm_b2 rfl (vm_b2 rfl (vm_b2 rfl rfl)))) ?_
  rw [(rfl : vm_sV 15 1 = nI 4)]
  refine vm_J.bF (by decide) ?_
  refine vm_J.go vm_q248 (k := 2) (hs := []) (f' := (bif vm_ic .ne 2 0 then 26 else 19, (0, 0), [.ref 152, .int (nI a), .int (nI b), .int 2, .int 1, .int (nI 4)], [])) (h' := (G, I, F)) (hs' := []) rfl rfl ?_
  refine vm_J.bT (by decide) ?_
  refine vm_J.go vm_q248 (k := 3) (hs := []) (f' := (bif vm_ic .ne 2 1 then 40 else 31, (0, 0), [.ref 152, .int (nI a), .int (nI b), .int 2, .int 1, .int (nI 4)], [])) (h' := (G, I, F)) (hs' := []) rfl rfl ?_
  refine vm_J.bT (by decide) ?_
  refine vm_J.go vm_q248 (k := 8) (hs := []) (f' := (50, (0, 0), [.ref 152, .int (nI a), .int (nI b), .int 2, .int 1, .int (nI 4)], [.int (nI b), .int (nI a), .ref 152, .int (((nI 4) * (nI 4)) - 1)])) (h' := (G, I, F)) (hs' := []) rfl rfl ?_
  refine vm_J.call vm_q248 (Z := vm_M247) (n := 2) (k := 0) (mi := 247) (pc := 50) (en := (50, .invokevirtual 385, 3, [247, 1640, 0], .null)) rfl trivial rfl rfl vm_z247 (av := [.ref 152, .int (nI a), .int (nI b)]) (rest := [.int (((nI 4) * (nI 4)) - 1)]) (r_screenAt_1 (a := a) (b := b) hR hk (by omega) (by omega)) ⟨_, _, rfl, rfl, _, 11, _, hR.c152, rfl, rfl, rfl⟩ (Nat.le_of_ble_eq_true rfl) ⟨Nat.le_of_ble_eq_true rfl, Nat.le_of_ble_eq_true rfl⟩ ⟨Nat.le_of_ble_eq_true rfl, Nat.le_of_ble_eq_true rfl⟩ ?_
  show vm_J _ _ _ (53, (0, 0), [.ref 152, .int (nI a), .int (nI b), .int 2, .int 1, .int (nI 4)], [.int (vm_sV 16 (4 + 4 * (b % 4) + a % 4)), .int (((nI 4) * (nI 4)) - 1)]) (G, I, F) _ _
  refine vm_J.go vm_q248 (k := 1) (hs := []) (f' := (54, (0, 0), [.ref 152, .int (nI a), .int (nI b), .int 2, .int 1, .int (nI 4)], [.int ((((nI 4) * (nI 4)) - 1) - (vm_sV 16 (4 + 4 * (b % 4) + a % 4)))])) (h' := (G, I, F)) (hs' := []) rfl rfl ?_
  exact vm_J.end vm_q248 (en := (54, .ireturn, 1, [], .null)) rfl rfl vm_rI (Nat.zero_le _) (Nat.zero_le _) rfl
set_option maxHeartbeats 4000000 in
set_option maxRecDepth 20000 in
/-- DitherDeskModel.screenFor -/
theorem r_screenFor_2_n {l : Launch} {X : vm_Cx} {G : List vm_Sh} {I : Nat → Nat → Int32} {F : Nat → Nat → UInt32} {a : Nat} {b : Nat} {c : Int32} (hR : vm_isR G) (hk : I 152 8 = 2) (ha : a ≤ 12) (hb : b ≤ 12) : vm_K l X vm_M248 [.ref 152, .int (nI a), .int (nI b), .int c, .int 0] (G, I, F) (some (.int (vm_sV 16 (20 + 3 * (b % 3) + a % 3)))) (G, I, F) := by
  refine vm_K.mk (by decide) (Nat.le_of_ble_eq_true rfl) ?_
  show vm_J _ _ _ (0, (0, 0), [.ref 152, .int (nI a), .int (nI b), .int c, .int 0, .retAddr 0], []) _ _ _
  refine vm_J.go vm_q248 (k := 3) (hs := [vm_shR]) (f' := (7, (0, 0), [.ref 152, .int (nI a), .int (nI b), .int c, .int 0, .retAddr 0], [.int (I 152 8), .ref 100015])) (h' := (G, I, F)) (hs' := []) rfl (vm_b2 rfl (vm_b2 rfl (vm_b2 (vm_b2 (vm_hG hR.c152) rfl) rfl))) ?_
  rw [(hk : I 152 8 = 2)]
  refine vm_J.go vm_q248 (k := 4) (hs := [(60, 15, [])]) (f' := (bif vm_ic .eq 0 0 then 19 else 15, (0, 0), [.ref 152, .int (nI a), .int (nI b), .int c, .int 0, .int (vm_sV 15 2)], [])) (h' := (G, I, F)) (hs' := []) rfl (vm_b2 (vm_b2 rfl rfl) (vm_b2 rfl (vm_b2 rfl (vm_b2 rfl rfl)))) ?_
  rw [(rfl : vm_sV 15 2 = nI 3)]
  refine vm_J.bT (by decide) ?_
  refine vm_J.go vm_q248 (k := 3) (hs := []) (f' := (22, (0, 0), [.ref 152, .int (nI a), .int (nI b), .int c, .int 0, .int (nI 3)], [.int (nI b), .int (nI a), .ref 152])) (h' := (G, I, F)) (hs' := []) rfl rfl ?_
  refine vm_J.call vm_q248 (Z := vm_M247) (n := 2) (k := 0) (mi := 247) (pc := 22) (en := (22, .invokevirtual 385, 3, [247, 1640, 0], .null)) rfl trivial rfl rfl vm_z247 (av := [.ref 152, .int (nI a), .int (nI b)]) (rest := []) (r_screenAt_2 (a := a) (b := b) hR hk (by omega) (by omega)) ⟨_, _, rfl, rfl, _, 11, _, hR.c152, rfl, rfl, rfl⟩ (Nat.le_of_ble_eq_true rfl) ⟨Nat.le_of_ble_eq_true rfl, Nat.le_of_ble_eq_true rfl⟩ ⟨Nat.le_of_ble_eq_true rfl, Nat.le_of_ble_eq_true rfl⟩ ?_
  show vm_J _ _ _ (25, (0, 0), [.ref 152, .int (nI a), .int (nI b), .int c, .int 0, .int (nI 3)], [.int (vm_sV 16 (20 + 3 * (b % 3) + a % 3))]) (G, I, F) _ _
  exact vm_J.end vm_q248 (en := (25, .ireturn, 1, [], .null)) rfl rfl vm_rI (Nat.zero_le _) (Nat.zero_le _) rfl
set_option maxHeartbeats 4000000 in
set_option maxRecDepth 20000 in
/-- DitherDeskModel.screenFor -/
theorem r_screenFor_2_0 {l : Launch} {X : vm_Cx} {G : List vm_Sh} {I : Nat → Nat → Int32} {F : Nat → Nat → UInt32} {a : Nat} {b : Nat} (hR : vm_isR G) (hk : I 152 8 = 2) (ha : a ≤ 12) (hb : b ≤ 12) : vm_K l X vm_M248 [.ref 152, .int (nI a), .int (nI b), .int 0, .int 1] (G, I, F) (some (.int (vm_sV 16 (20 + 3 * (b % 3) + a % 3)))) (G, I, F) := by
  refine vm_K.mk (by decide) (Nat.le_of_ble_eq_true rfl) ?_
  show vm_J _ _ _ (0, (0, 0), [.ref 152, .int (nI a), .int (nI b), .int 0, .int 1, .retAddr 0], []) _ _ _
  refine vm_J.go vm_q248 (k := 3) (hs := [vm_shR]) (f' := (7, (0, 0), [.ref 152, .int (nI a), .int (nI b), .int 0, .int 1, .retAddr 0], [.int (I 152 8), .ref 100015])) (h' := (G, I, F)) (hs' := []) rfl (vm_b2 rfl (vm_b2 rfl (vm_b2 (vm_b2 (vm_hG hR.c152) rfl) rfl))) ?_
  rw [(hk : I 152 8 = 2)]
  refine vm_J.go vm_q248 (k := 4) (hs := [(60, 15, [])]) (f' := (bif vm_ic .eq 1 0 then 19 else 15, (0, 0), [.ref 152, .int (nI a), .int (nI b), .int 0, .int 1, .int (vm_sV 15 2)], [])) (h' := (G, I, F)) (hs' := []) rfl (vm_b2 (vm_b2 rfl rfl) (vm_b2 rfl (vm_b2 rfl (vm_b2 rfl rfl)))) ?_
  rw [(rfl : vm_sV 15 2 = nI 3)]
  refine vm_J.bF (by decide) ?_
  refine vm_J.go vm_q248 (k := 2) (hs := []) (f' := (bif vm_ic .ne 0 0 then 26 else 19, (0, 0), [.ref 152, .int (nI a), .int (nI b), .int 0, .int 1, .int (nI 3)], [])) (h' := (G, I, F)) (hs' := []) rfl rfl ?_
  refine vm_J.bF (by decide) ?_
  refine vm_J.go vm_q248 (k := 3) (hs := []) (f' := (22, (0, 0), [.ref 152, .int (nI a), .int (nI b), .int 0, .int 1, .int (nI 3)], [.int (nI b), .int (nI a), .ref 152])) (h' := (G, I, F)) (hs' := []) rfl rfl ?_
  refine vm_J.call vm_q248 (Z := vm_M247) (n := 2) (k := 0) (mi := 247) (pc := 22) (en := (22, .invokevirtual 385, 3, [247, 1640, 0], .null)) rfl trivial rfl rfl vm_z247 (av := [.ref 152, .int (nI a), .int (nI b)]) (rest := []) (r_screenAt_2 (a := a) (b := b) hR hk (by omega) (by omega)) ⟨_, _, rfl, rfl, _, 11, _, hR.c152, rfl, rfl, rfl⟩ (Nat.le_of_ble_eq_true rfl) ⟨Nat.le_of_ble_eq_true rfl, Nat.le_of_ble_eq_true rfl⟩ ⟨Nat.le_of_ble_eq_true rfl, Nat.le_of_ble_eq_true rfl⟩ ?_
  show vm_J _ _ _ (25, (0, 0), [.ref 152, .int (nI a), .int (nI b), .int 0, .int 1, .int (nI 3)], [.int (vm_sV 16 (20 + 3 * (b % 3) + a % 3))]) (G, I, F) _ _
  exact vm_J.end vm_q248 (en := (25, .ireturn, 1, [], .null)) rfl rfl vm_rI (Nat.zero_le _) (Nat.zero_le _) rfl
set_option maxHeartbeats 4000000 in
set_option maxRecDepth 20000 in
/-- DitherDeskModel.screenFor -/
theorem r_screenFor_2_1 {l : Launch} {X : vm_Cx} {G : List vm_Sh} {I : Nat → Nat → Int32} {F : Nat → Nat → UInt32} {a : Nat} {b : Nat} (hR : vm_isR G) (hk : I 152 8 = 2) (ha : a ≤ 12) (hb : b ≤ 12) : vm_K l X vm_M248 [.ref 152, .int (nI a), .int (nI b), .int 1, .int 1] (G, I, F) (some (.int (vm_sV 16 (20 + 3 * (a % 3) + b % 3)))) (G, I, F) := by
  refine vm_K.mk (by decide) (Nat.le_of_ble_eq_true rfl) ?_
  show vm_J _ _ _ (0, (0, 0), [.ref 152, .int (nI a), .int (nI b), .int 1, .int 1, .retAddr 0], []) _ _ _
  refine vm_J.go vm_q248 (k := 3) (hs := [vm_shR]) (f' := (7, (0, 0), [.ref 152, .int (nI a), .int (nI b), .int 1, .int 1, .retAddr 0], [.int (I 152 8), .ref 100015])) (h' := (G, I, F)) (hs' := []) rfl (vm_b2 rfl (vm_b2 rfl (vm_b2 (vm_b2 (vm_hG hR.c152) rfl) rfl))) ?_
  rw [(hk : I 152 8 = 2)]
  refine vm_J.go vm_q248 (k := 4) (hs := [(60, 15, [])]) (f' := (bif vm_ic .eq 1 0 then 19 else 15, (0, 0), [.ref 152, .int (nI a), .int (nI b), .int 1, .int 1, .int (vm_sV 15 2)], [])) (h' := (G, I, F)) (hs' := []) rfl (vm_b2 (vm_b2 rfl rfl) (vm_b2 rfl (vm_b2 rfl (vm_b2 rfl rfl)))) ?_
  rw [(rfl : vm_sV 15 2 = nI 3)]
  refine vm_J.bF (by decide) ?_
  refine vm_J.go vm_q248 (k := 2) (hs := []) (f' := (bif vm_ic .ne 1 0 then 26 else 19, (0, 0), [.ref 152, .int (nI a), .int (nI b), .int 1, .int 1, .int (nI 3)], [])) (h' := (G, I, F)) (hs' := []) rfl rfl ?_
  refine vm_J.bT (by decide) ?_
  refine vm_J.go vm_q248 (k := 3) (hs := []) (f' := (bif vm_ic .ne 1 1 then 40 else 31, (0, 0), [.ref 152, .int (nI a), .int (nI b), .int 1, .int 1, .int (nI 3)], [])) (h' := (G, I, F)) (hs' := []) rfl rfl ?_
  refine vm_J.bF (by decide) ?_
  refine vm_J.go vm_q248 (k := 3) (hs := []) (f' := (34, (0, 0), [.ref 152, .int (nI a), .int (nI b), .int 1, .int 1, .int (nI 3)], [.int (nI a), .int (nI b), .ref 152])) (h' := (G, I, F)) (hs' := []) rfl rfl ?_
  refine vm_J.call vm_q248 (Z := vm_M247) (n := 2) (k := 0) (mi := 247) (pc := 34) (en := (34, .invokevirtual 385, 3, [247, 1640, 0], .null)) rfl trivial rfl rfl vm_z247 (av := [.ref 152, .int (nI b), .int (nI a)]) (rest := []) (r_screenAt_2 (a := b) (b := a) hR hk (by omega) (by omega)) ⟨_, _, rfl, rfl, _, 11, _, hR.c152, rfl, rfl, rfl⟩ (Nat.le_of_ble_eq_true rfl) ⟨Nat.le_of_ble_eq_true rfl, Nat.le_of_ble_eq_true rfl⟩ ⟨Nat.le_of_ble_eq_true rfl, Nat.le_of_ble_eq_true rfl⟩ ?_
  show vm_J _ _ _ (37, (0, 0), [.ref 152, .int (nI a), .int (nI b), .int 1, .int 1, .int (nI 3)], [.int (vm_sV 16 (20 + 3 * (a % 3) + b % 3))]) (G, I, F) _ _
  refine vm_J.go vm_q248 (k := 1) (hs := []) (f' := (54, (0, 0), [.ref 152, .int (nI a), .int (nI b), .int 1, .int 1, .int (nI 3)], [.int (vm_sV 16 (20 + 3 * (a % 3) + b % 3))])) (h' := (G, I, F)) (hs' := []) rfl rfl ?_
  exact vm_J.end vm_q248 (en := (54, .ireturn, 1, [], .null)) rfl rfl vm_rI (Nat.zero_le _) (Nat.zero_le _) rfl
set_option maxHeartbeats 4000000 in
set_option maxRecDepth 20000 in
/-- DitherDeskModel.screenFor -/
theorem r_screenFor_2_2 {l : Launch} {X : vm_Cx} {G : List vm_Sh} {I : Nat → Nat → Int32} {F : Nat → Nat → UInt32} {a : Nat} {b : Nat} (hR : vm_isR G) (hk : I 152 8 = 2) (ha : a ≤ 12) (hb : b ≤ 12) : vm_K l X vm_M248 [.ref 152, .int (nI a), .int (nI b), .int 2, .int 1] (G, I, F) (some (.int (8 - vm_sV 16 (20 + 3 * (b % 3) + a % 3)))) (G, I, F) := by
  refine vm_K.mk (by decide) (Nat.le_of_ble_eq_true rfl) ?_
  show vm_J _ _ _ (0, (0, 0), [.ref 152, .int (nI a), .int (nI b), .int 2, .int 1, .retAddr 0], []) _ _ _
  refine vm_J.go vm_q248 (k := 3) (hs := [vm_shR]) (f' := (7, (0, 0), [.ref 152, .int (nI a), .int (nI b), .int 2, .int 1, .retAddr 0], [.int (I 152 8), .ref 100015])) (h' := (G, I, F)) (hs' := []) rfl (vm_b2 rfl (vm_b2 rfl (vm_b2 (vm_b2 (vm_hG hR.c152) rfl) rfl))) ?_
  rw [(hk : I 152 8 = 2)]
  refine vm_J.go vm_q248 (k := 4) (hs := [(60, 15, [])]) (f' := (bif vm_ic .eq 1 0 then 19 else 15, (0, 0), [.ref 152, .int (nI a), .int (nI b), .int 2, .int 1, .int (vm_sV 15 2)], [])) (h' := (G, I, F)) (hs' := []) rfl (vm_b2 (vm_b2 rfl rfl) (vm_b2 rfl (vm_b2 rfl (vm_b2 rfl rfl)))) ?_
  rw [(rfl : vm_sV 15 2 = nI 3)]
  refine vm_J.bF (by decide) ?_
  refine vm_J.go vm_q248 (k := 2) (hs := []) (f' := (bif vm_ic .ne 2 0 then 26 else 19, (0, 0), [.ref 152, .int (nI a), .int (nI b), .int 2, .int 1, .int (nI 3)], [])) (h' := (G, I, F)) (hs' := []) rfl rfl ?_
  refine vm_J.bT (by decide) ?_
  refine vm_J.go vm_q248 (k := 3) (hs := []) (f' := (bif vm_ic .ne 2 1 then 40 else 31, (0, 0), [.ref 152, .int (nI a), .int (nI b), .int 2, .int 1, .int (nI 3)], [])) (h' := (G, I, F)) (hs' := []) rfl rfl ?_
  refine vm_J.bT (by decide) ?_
  refine vm_J.go vm_q248 (k := 8) (hs := []) (f' := (50, (0, 0), [.ref 152, .int (nI a), .int (nI b), .int 2, .int 1, .int (nI 3)], [.int (nI b), .int (nI a), .ref 152, .int (((nI 3) * (nI 3)) - 1)])) (h' := (G, I, F)) (hs' := []) rfl rfl ?_
  refine vm_J.call vm_q248 (Z := vm_M247) (n := 2) (k := 0) (mi := 247) (pc := 50) (en := (50, .invokevirtual 385, 3, [247, 1640, 0], .null)) rfl trivial rfl rfl vm_z247 (av := [.ref 152, .int (nI a), .int (nI b)]) (rest := [.int (((nI 3) * (nI 3)) - 1)]) (r_screenAt_2 (a := a) (b := b) hR hk (by omega) (by omega)) ⟨_, _, rfl, rfl, _, 11, _, hR.c152, rfl, rfl, rfl⟩ (Nat.le_of_ble_eq_true rfl) ⟨Nat.le_of_ble_eq_true rfl, Nat.le_of_ble_eq_true rfl⟩ ⟨Nat.le_of_ble_eq_true rfl, Nat.le_of_ble_eq_true rfl⟩ ?_
  show vm_J _ _ _ (53, (0, 0), [.ref 152, .int (nI a), .int (nI b), .int 2, .int 1, .int (nI 3)], [.int (vm_sV 16 (20 + 3 * (b % 3) + a % 3)), .int (((nI 3) * (nI 3)) - 1)]) (G, I, F) _ _
  refine vm_J.go vm_q248 (k := 1) (hs := []) (f' := (54, (0, 0), [.ref 152, .int (nI a), .int (nI b), .int 2, .int 1, .int (nI 3)], [.int ((((nI 3) * (nI 3)) - 1) - (vm_sV 16 (20 + 3 * (b % 3) + a % 3)))])) (h' := (G, I, F)) (hs' := []) rfl rfl ?_
  exact vm_J.end vm_q248 (en := (54, .ireturn, 1, [], .null)) rfl rfl vm_rI (Nat.zero_le _) (Nat.zero_le _) rfl
