set_option maxHeartbeats 4000000 in
set_option maxRecDepth 20000 in
/-- DitherDeskModel.box -/
theorem r_box_x {l : Launch} {X : vm_Cx} {G : List vm_Sh} {I : Nat → Nat → Int32} {F : Nat → Nat → UInt32} {q : Int32} {k : Int32} {x : Int32} {z : Int32} (hR : vm_isR G) (hx : ¬ (0 ≤ q ∧ q ≤ 3)) : vm_K l X vm_M210 [.ref 152, .int q, .int k, .int x, .int z] (G, I, F) (some (.int (-1))) (G, I, F) := by
  refine vm_K.mk (by decide) (Nat.le_of_ble_eq_true rfl) ?_
  show vm_J _ _ _ (0, (0, 0), [.ref 152, .int q, .int k, .int x, .int z, .retAddr 0], []) _ _ _
  refine vm_J.go vm_q210 (k := 2) (hs := []) (f' := (2, (0, 0), [.ref 152, .int q, .int k, .int x, .int z, .retAddr 0], [.int q, .ref 152])) (h' := (G, I, F)) (hs' := []) rfl rfl ?_
  refine vm_J.call vm_q210 (Z := vm_M172) (n := 1) (k := 0) (mi := 172) (pc := 2) (en := (2, .invokevirtual 156, 3, [172, 1313, 0], .null)) rfl trivial rfl rfl vm_z172 (av := [.ref 152, .int q]) (rest := []) (r_isPic_x (q := q) hR hx) ⟨_, _, rfl, rfl, _, 11, _, hR.c152, rfl, rfl, rfl⟩ (Nat.le_of_ble_eq_true rfl) ⟨Nat.le_of_ble_eq_true rfl, Nat.le_of_ble_eq_true rfl⟩ ⟨Nat.le_of_ble_eq_true rfl, Nat.le_of_ble_eq_true rfl⟩ ?_
  show vm_J _ _ _ (5, (0, 0), [.ref 152, .int q, .int k, .int x, .int z, .retAddr 0], [.int 0]) (G, I, F) _ _
  refine vm_J.go vm_q210 (k := 1) (hs := []) (f' := (bif vm_ic .eq 0 0 then 18 else 8, (0, 0), [.ref 152, .int q, .int k, .int x, .int z, .retAddr 0], [])) (h' := (G, I, F)) (hs' := []) rfl rfl ?_
  refine vm_J.bT (by decide) ?_
  refine vm_J.go vm_q210 (k := 1) (hs := []) (f' := (19, (0, 0), [.ref 152, .int q, .int k, .int x, .int z, .retAddr 0], [.int (-1)])) (h' := (G, I, F)) (hs' := []) rfl rfl ?_
  exact vm_J.end vm_q210 (en := (19, .ireturn, 1, [], .null)) rfl rfl vm_rI (Nat.zero_le _) (Nat.zero_le _) rfl
set_option maxHeartbeats 4000000 in
set_option maxRecDepth 20000 in
/-- DitherDeskModel.box -/
theorem r_box_m {l : Launch} {X : vm_Cx} {G : List vm_Sh} {I : Nat → Nat → Int32} {F : Nat → Nat → UInt32} {p : Nat} {w : Nat} {k : Int32} {x : Int32} {z : Int32} (hR : vm_isR G) (hw : I 153 p = nI w) (hp : p < 4) (hw2 : w ≤ 12) (hw0 : w = 0) : vm_K l X vm_M210 [.ref 152, .int (nI p), .int k, .int x, .int z] (G, I, F) (some (.int (-1))) (G, I, F) := by
  refine vm_K.mk (by decide) (Nat.le_of_ble_eq_true rfl) ?_
  show vm_J _ _ _ (0, (0, 0), [.ref 152, .int (nI p), .int k, .int x, .int z, .retAddr 0], []) _ _ _
  refine vm_J.go vm_q210 (k := 2) (hs := []) (f' := (2, (0, 0), [.ref 152, .int (nI p), .int k, .int x, .int z, .retAddr 0], [.int (nI p), .ref 152])) (h' := (G, I, F)) (hs' := []) rfl rfl ?_
  refine vm_J.call vm_q210 (Z := vm_M172) (n := 1) (k := 0) (mi := 172) (pc := 2) (en := (2, .invokevirtual 156, 3, [172, 1313, 0], .null)) rfl trivial rfl rfl vm_z172 (av := [.ref 152, .int (nI p)]) (rest := []) (r_isPic_n (p := p) (w := w) hR (by omega) hw (by omega) (by omega)) ⟨_, _, rfl, rfl, _, 11, _, hR.c152, rfl, rfl, rfl⟩ (Nat.le_of_ble_eq_true rfl) ⟨Nat.le_of_ble_eq_true rfl, Nat.le_of_ble_eq_true rfl⟩ ⟨Nat.le_of_ble_eq_true rfl, Nat.le_of_ble_eq_true rfl⟩ ?_
  show vm_J _ _ _ (5, (0, 0), [.ref 152, .int (nI p), .int k, .int x, .int z, .retAddr 0], [.int 0]) (G, I, F) _ _
  refine vm_J.go vm_q210 (k := 1) (hs := []) (f' := (bif vm_ic .eq 0 0 then 18 else 8, (0, 0), [.ref 152, .int (nI p), .int k, .int x, .int z, .retAddr 0], [])) (h' := (G, I, F)) (hs' := []) rfl rfl ?_
  refine vm_J.bT (by decide) ?_
  refine vm_J.go vm_q210 (k := 1) (hs := []) (f' := (19, (0, 0), [.ref 152, .int (nI p), .int k, .int x, .int z, .retAddr 0], [.int (-1)])) (h' := (G, I, F)) (hs' := []) rfl rfl ?_
  exact vm_J.end vm_q210 (en := (19, .ireturn, 1, [], .null)) rfl rfl vm_rI (Nat.zero_le _) (Nat.zero_le _) rfl
set_option maxHeartbeats 4000000 in
set_option maxRecDepth 20000 in
/-- DitherDeskModel.box -/
theorem r_box_z {l : Launch} {X : vm_Cx} {G : List vm_Sh} {I : Nat → Nat → Int32} {F : Nat → Nat → UInt32} {p : Nat} {w : Nat} {k : Int32} {x : Int32} {z : Int32} (hR : vm_isR G) (hw : I 153 p = nI w) (hp : p < 4) (hw2 : w ≤ 12) (hw0 : 0 < w) (hz : ¬ (0 ≤ z ∧ z ≤ 4)) : vm_K l X vm_M210 [.ref 152, .int (nI p), .int k, .int x, .int z] (G, I, F) (some (.int (-1))) (G, I, F) := by
  refine vm_K.mk (by decide) (Nat.le_of_ble_eq_true rfl) ?_
  show vm_J _ _ _ (0, (0, 0), [.ref 152, .int (nI p), .int k, .int x, .int z, .retAddr 0], []) _ _ _
  refine vm_J.go vm_q210 (k := 2) (hs := []) (f' := (2, (0, 0), [.ref 152, .int (nI p), .int k, .int x, .int z, .retAddr 0], [.int (nI p), .ref 152])) (h' := (G, I, F)) (hs' := []) rfl rfl ?_
  refine vm_J.call vm_q210 (Z := vm_M172) (n := 1) (k := 0) (mi := 172) (pc := 2) (en := (2, .invokevirtual 156, 3, [172, 1313, 0], .null)) rfl trivial rfl rfl vm_z172 (av := [.ref 152, .int (nI p)]) (rest := []) (r_isPic_y (p := p) (w := w) hR (by omega) hw (by omega) (by omega)) ⟨_, _, rfl, rfl, _, 11, _, hR.c152, rfl, rfl, rfl⟩ (Nat.le_of_ble_eq_true rfl) ⟨Nat.le_of_ble_eq_true rfl, Nat.le_of_ble_eq_true rfl⟩ ⟨Nat.le_of_ble_eq_true rfl, Nat.le_of_ble_eq_true rfl⟩ ?_
  show vm_J _ _ _ (5, (0, 0), [.ref 152, .int (nI p), .int k, .int x, .int z, .retAddr 0], [.int 1]) (G, I, F) _ _
  refine vm_J.go vm_q210 (k := 1) (hs := []) (f' := (bif vm_ic .eq 1 0 then 18 else 8, (0, 0), [.ref 152, .int (nI p), .int k, .int x, .int z, .retAddr 0], [])) (h' := (G, I, F)) (hs' := []) rfl rfl ?_
  refine vm_J.bF (by decide) ?_
  refine vm_J.go vm_q210 (k := 3) (hs := []) (f' := (12, (0, 0), [.ref 152, .int (nI p), .int k, .int x, .int z, .retAddr 0], [.int 4, .int 0, .int z])) (h' := (G, I, F)) (hs' := []) rfl rfl ?_
  refine vm_J.call vm_q210 (Z := vm_M168) (n := 3) (k := 1) (mi := 168) (pc := 12) (en := (12, .invokestatic 141, 3, [168, 1302, 0], .null)) rfl trivial rfl rfl vm_z168 (av := [.int z, .int 0, .int 4]) (rest := []) (r_isIn_n (v := z) (a := 0) (b := 4) hz) rfl (Nat.le_of_ble_eq_true rfl) ⟨Nat.le_of_ble_eq_true rfl, Nat.le_of_ble_eq_true rfl⟩ ⟨Nat.le_of_ble_eq_true rfl, Nat.le_of_ble_eq_true rfl⟩ ?_
  show vm_J _ _ _ (15, (0, 0), [.ref 152, .int (nI p), .int k, .int x, .int z, .retAddr 0], [.int 0]) (G, I, F) _ _
  refine vm_J.go vm_q210 (k := 1) (hs := []) (f' := (bif vm_ic .ne 0 0 then 20 else 18, (0, 0), [.ref 152, .int (nI p), .int k, .int x, .int z, .retAddr 0], [])) (h' := (G, I, F)) (hs' := []) rfl rfl ?_
  refine vm_J.bF (by decide) ?_
  refine vm_J.go vm_q210 (k := 1) (hs := []) (f' := (19, (0, 0), [.ref 152, .int (nI p), .int k, .int x, .int z, .retAddr 0], [.int (-1)])) (h' := (G, I, F)) (hs' := []) rfl rfl ?_
  exact vm_J.end vm_q210 (en := (19, .ireturn, 1, [], .null)) rfl rfl vm_rI (Nat.zero_le _) (Nat.zero_le _) rfl
set_option maxHeartbeats 4000000 in
set_option maxRecDepth 20000 in
/-- DitherDeskModel.box -/
theorem r_box_b {l : Launch} {X : vm_Cx} {G : List vm_Sh} {I : Nat → Nat → Int32} {F : Nat → Nat → UInt32} {p : Nat} {w : Nat} {k : Int32} {x : Int32} {z : Int32} (hR : vm_isR G) (hw : I 153 p = nI w) (hp : p < 4) (hw2 : w ≤ 12) (hw0 : 0 < w) (hz : 0 ≤ z ∧ z ≤ 4) (hk : ¬ (1 ≤ k ∧ k ≤ 16)) : vm_K l X vm_M210 [.ref 152, .int (nI p), .int k, .int x, .int z] (G, I, F) (some (.int (-2))) (G, I, F) := by
  refine vm_K.mk (by decide) (Nat.le_of_ble_eq_true rfl) ?_
  show vm_J _ _ _ (0, (0, 0), [.ref 152, .int (nI p), .int k, .int x, .int z, .retAddr 0], []) _ _ _
  refine vm_J.go vm_q210 (k := 2) (hs := []) (f' := (2, (0, 0), [.ref 152, .int (nI p), .int k, .int x, .int z, .retAddr 0], [.int (nI p), .ref 152])) (h' := (G, I, F)) (hs' := []) rfl rfl ?_
  refine vm_J.call vm_q210 (Z := vm_M172) (n := 1) (k := 0) (mi := 172) (pc := 2) (en := (2, .invokevirtual 156, 3, [172, 1313, 0], .null)) rfl trivial rfl rfl vm_z172 (av := [.ref 152, .int (nI p)]) (rest := []) (r_isPic_y (p := p) (w := w) hR (by omega) hw (by omega) (by omega)) ⟨_, _, rfl, rfl, _, 11, _, hR.c152, rfl, rfl, rfl⟩ (Nat.le_of_ble_eq_true rfl) ⟨Nat.le_of_ble_eq_true rfl, Nat.le_of_ble_eq_true rfl⟩ ⟨Nat.le_of_ble_eq_true rfl, Nat.le_of_ble_eq_true rfl⟩ ?_
  show vm_J _ _ _ (5, (0, 0), [.ref 152, .int (nI p), .int k, .int x, .int z, .retAddr 0], [.int 1]) (G, I, F) _ _
  refine vm_J.go vm_q210 (k := 1) (hs := []) (f' := (bif vm_ic .eq 1 0 then 18 else 8, (0, 0), [.ref 152, .int (nI p), .int k, .int x, .int z, .retAddr 0], [])) (h' := (G, I, F)) (hs' := []) rfl rfl ?_
  refine vm_J.bF (by decide) ?_
  refine vm_J.go vm_q210 (k := 3) (hs := []) (f' := (12, (0, 0), [.ref 152, .int (nI p), .int k, .int x, .int z, .retAddr 0], [.int 4, .int 0, .int z])) (h' := (G, I, F)) (hs' := []) rfl rfl ?_
  refine vm_J.call vm_q210 (Z := vm_M168) (n := 3) (k := 1) (mi := 168) (pc := 12) (en := (12, .invokestatic 141, 3, [168, 1302, 0], .null)) rfl trivial rfl rfl vm_z168 (av := [.int z, .int 0, .int 4]) (rest := []) (r_isIn_y (v := z) (a := 0) (b := 4) hz) rfl (Nat.le_of_ble_eq_true rfl) ⟨Nat.le_of_ble_eq_true rfl, Nat.le_of_ble_eq_true rfl⟩ ⟨Nat.le_of_ble_eq_true rfl, Nat.le_of_ble_eq_true rfl⟩ ?_
  show vm_J _ _ _ (15, (0, 0), [.ref 152, .int (nI p), .int k, .int x, .int z, .retAddr 0], [.int 1]) (G, I, F) _ _
  refine vm_J.go vm_q210 (k := 1) (hs := []) (f' := (bif vm_ic .ne 1 0 then 20 else 18, (0, 0), [.ref 152, .int (nI p), .int k, .int x, .int z, .retAddr 0], [])) (h' := (G, I, F)) (hs' := []) rfl rfl ?_
  refine vm_J.bT (by decide) ?_
  refine vm_J.go vm_q210 (k := 3) (hs := []) (f' := (24, (0, 0), [.ref 152, .int (nI p), .int k, .int x, .int z, .retAddr 0], [.int 16, .int 1, .int k])) (h' := (G, I, F)) (hs' := []) rfl rfl ?_
  refine vm_J.call vm_q210 (Z := vm_M168) (n := 3) (k := 1) (mi := 168) (pc := 24) (en := (24, .invokestatic 141, 3, [168, 1302, 0], .null)) rfl trivial rfl rfl vm_z168 (av := [.int k, .int 1, .int 16]) (rest := []) (r_isIn_n (v := k) (a := 1) (b := 16) hk) rfl (Nat.le_of_ble_eq_true rfl) ⟨Nat.le_of_ble_eq_true rfl, Nat.le_of_ble_eq_true rfl⟩ ⟨Nat.le_of_ble_eq_true rfl, Nat.le_of_ble_eq_true rfl⟩ ?_
  show vm_J _ _ _ (27, (0, 0), [.ref 152, .int (nI p), .int k, .int x, .int z, .retAddr 0], [.int 0]) (G, I, F) _ _
  refine vm_J.go vm_q210 (k := 1) (hs := []) (f' := (bif vm_ic .ne 0 0 then 33 else 30, (0, 0), [.ref 152, .int (nI p), .int k, .int x, .int z, .retAddr 0], [])) (h' := (G, I, F)) (hs' := []) rfl rfl ?_
  refine vm_J.bF (by decide) ?_
  refine vm_J.go vm_q210 (k := 1) (hs := []) (f' := (32, (0, 0), [.ref 152, .int (nI p), .int k, .int x, .int z, .retAddr 0], [.int (-2)])) (h' := (G, I, F)) (hs' := []) rfl rfl ?_
  exact vm_J.end vm_q210 (en := (32, .ireturn, 1, [], .null)) rfl rfl vm_rI (Nat.zero_le _) (Nat.zero_le _) rfl
set_option maxHeartbeats 4000000 in
set_option maxRecDepth 20000 in
/-- DitherDeskModel.box -/
theorem r_box_f {l : Launch} {X : vm_Cx} {G : List vm_Sh} {I : Nat → Nat → Int32} {F : Nat → Nat → UInt32} {p : Nat} {w : Nat} {k : Nat} {u : Nat} {x : Int32} {z : Int32} (hR : vm_isR G) (hw : I 153 p = nI w) (hp : p < 4) (hw2 : w ≤ 12) (hw0 : 0 < w) (hz : 0 ≤ z ∧ z ≤ 4) (hk1 : 0 < k) (hk2 : k ≤ 16) (hu : I 152 10 = nI u) (hv : u = 6000) : vm_K l X vm_M210 [.ref 152, .int (nI p), .int (nI k), .int x, .int z] (G, I, F) (some (.int (-4))) (G, I, F) := by
  refine vm_K.mk (by decide) (Nat.le_of_ble_eq_true rfl) ?_
  show vm_J _ _ _ (0, (0, 0), [.ref 152, .int (nI p), .int (nI k), .int x, .int z, .retAddr 0], []) _ _ _
  refine vm_J.go vm_q210 (k := 2) (hs := []) (f' := (2, (0, 0), [.ref 152, .int (nI p), .int (nI k), .int x, .int z, .retAddr 0], [.int (nI p), .ref 152])) (h' := (G, I, F)) (hs' := []) rfl rfl ?_
  refine vm_J.call vm_q210 (Z := vm_M172) (n := 1) (k := 0) (mi := 172) (pc := 2) (en := (2, .invokevirtual 156, 3, [172, 1313, 0], .null)) rfl trivial rfl rfl vm_z172 (av := [.ref 152, .int (nI p)]) (rest := []) (r_isPic_y (p := p) (w := w) hR (by omega) hw (by omega) (by omega)) ⟨_, _, rfl, rfl, _, 11, _, hR.c152, rfl, rfl, rfl⟩ (Nat.le_of_ble_eq_true rfl) ⟨Nat.le_of_ble_eq_true rfl, Nat.le_of_ble_eq_true rfl⟩ ⟨Nat.le_of_ble_eq_true rfl, Nat.le_of_ble_eq_true rfl⟩ ?_
  show vm_J _ _ _ (5, (0, 0), [.ref 152, .int (nI p), .int (nI k), .int x, .int z, .retAddr 0], [.int 1]) (G, I, F) _ _
  refine vm_J.go vm_q210 (k := 1) (hs := []) (f' := (bif vm_ic .eq 1 0 then 18 else 8, (0, 0), [.ref 152, .int (nI p), .int (nI k), .int x, .int z, .retAddr 0], [])) (h' := (G, I, F)) (hs' := []) rfl rfl ?_
  refine vm_J.bF (by decide) ?_
  refine vm_J.go vm_q210 (k := 3) (hs := []) (f' := (12, (0, 0), [.ref 152, .int (nI p), .int (nI k), .int x, .int z, .retAddr 0], [.int 4, .int 0, .int z])) (h' := (G, I, F)) (hs' := []) rfl rfl ?_
  refine vm_J.call vm_q210 (Z := vm_M168) (n := 3) (k := 1) (mi := 168) (pc := 12) (en := (12, .invokestatic 141, 3, [168, 1302, 0], .null)) rfl trivial rfl rfl vm_z168 (av := [.int z, .int 0, .int 4]) (rest := []) (r_isIn_y (v := z) (a := 0) (b := 4) hz) rfl (Nat.le_of_ble_eq_true rfl) ⟨Nat.le_of_ble_eq_true rfl, Nat.le_of_ble_eq_true rfl⟩ ⟨Nat.le_of_ble_eq_true rfl, Nat.le_of_ble_eq_true rfl⟩ ?_
  show vm_J _ _ _ (15, (0, 0), [.ref 152, .int (nI p), .int (nI k), .int x, .int z, .retAddr 0], [.int 1]) (G, I, F) _ _
  refine vm_J.go vm_q210 (k := 1) (hs := []) (f' := (bif vm_ic .ne 1 0 then 20 else 18, (0, 0), [.ref 152, .int (nI p), .int (nI k), .int x, .int z, .retAddr 0], [])) (h' := (G, I, F)) (hs' := []) rfl rfl ?_
  refine vm_J.bT (by decide) ?_
  refine vm_J.go vm_q210 (k := 3) (hs := []) (f' := (24, (0, 0), [.ref 152, .int (nI p), .int (nI k), .int x, .int z, .retAddr 0], [.int 16, .int 1, .int (nI k)])) (h' := (G, I, F)) (hs' := []) rfl rfl ?_
  refine vm_J.call vm_q210 (Z := vm_M168) (n := 3) (k := 1) (mi := 168) (pc := 24) (en := (24, .invokestatic 141, 3, [168, 1302, 0], .null)) rfl trivial rfl rfl vm_z168 (av := [.int (nI k), .int 1, .int 16]) (rest := []) (r_isIn_y (v := nI k) (a := 1) (b := 16) (vm_bp1 (m := 16) hk1 hk2 rfl (by decide))) rfl (Nat.le_of_ble_eq_true rfl) ⟨Nat.le_of_ble_eq_true rfl, Nat.le_of_ble_eq_true rfl⟩ ⟨Nat.le_of_ble_eq_true rfl, Nat.le_of_ble_eq_true rfl⟩ ?_
  show vm_J _ _ _ (27, (0, 0), [.ref 152, .int (nI p), .int (nI k), .int x, .int z, .retAddr 0], [.int 1]) (G, I, F) _ _
  refine vm_J.go vm_q210 (k := 1) (hs := []) (f' := (bif vm_ic .ne 1 0 then 33 else 30, (0, 0), [.ref 152, .int (nI p), .int (nI k), .int x, .int z, .retAddr 0], [])) (h' := (G, I, F)) (hs' := []) rfl rfl ?_
  refine vm_J.bT (by decide) ?_
  refine vm_J.go vm_q210 (k := 2) (hs := [vm_shR]) (f' := (37, (0, 0), [.ref 152, .int (nI p), .int (nI k), .int x, .int z, .retAddr 0], [.int (I 152 10)])) (h' := (G, I, F)) (hs' := []) rfl (vm_b2 rfl (vm_b2 (vm_b2 (vm_hG hR.c152) rfl) rfl)) ?_
  rw [(hu : I 152 10 = nI u)]
  refine vm_J.go vm_q210 (k := 2) (hs := []) (f' := (bif vm_ic .ne (nI u) 6000 then 46 else 43, (0, 0), [.ref 152, .int (nI p), .int (nI k), .int x, .int z, .retAddr 0], [])) (h' := (G, I, F)) (hs' := []) rfl rfl ?_
  refine vm_J.br (fun c1 => ?_) (fun c1 => ?_)
  · have c1 := vm_ne_t (a := u) (b := 6000) (by omega) (by omega) c1
    exact (show False by omega).elim
  · have c1 := vm_ne_f (a := u) (b := 6000) (by omega) (by omega) c1
    refine vm_J.go vm_q210 (k := 1) (hs := []) (f' := (45, (0, 0), [.ref 152, .int (nI p), .int (nI k), .int x, .int z, .retAddr 0], [.int (-4)])) (h' := (G, I, F)) (hs' := []) rfl rfl ?_
    exact vm_J.end vm_q210 (en := (45, .ireturn, 1, [], .null)) rfl rfl vm_rI (Nat.zero_le _) (Nat.zero_le _) rfl
set_option maxHeartbeats 4000000 in
set_option maxRecDepth 20000 in
/-- DitherDeskModel.box -/
theorem r_box_n {l : Launch} {X : vm_Cx} {G : List vm_Sh} {I : Nat → Nat → Int32} {F : Nat → Nat → UInt32} {p : Nat} {w : Nat} {h : Nat} {k : Nat} {u : Nat} {x : Int32} {z : Int32} (hR : vm_isR G) (hw : I 153 p = nI w) (hh : I 154 p = nI h) (hp : p < 4) (hw2 : w ≤ 12) (hh2 : h ≤ 12) (hw0 : 0 < w) (hh0 : 0 < h) (hk1 : 0 < k) (hk2 : k ≤ 16) (hu : I 152 10 = nI u) (hv : u < 6000) (hz : 0 ≤ z ∧ z ≤ 4) (hbx : ¬ (vr_ba (((vr_cut I (fun y => I 155 (144 * p + y)) (w * h) k).1) 161) (vr_gth I (fun y => I 155 (144 * p + y)) (w * h)).2 (vr_cut I (fun y => I 155 (144 * p + y)) (w * h) k).2 x) < (vr_cut I (fun y => I 155 (144 * p + y)) (w * h) k).2) : vm_K l X vm_M210 [.ref 152, .int (nI p), .int (nI k), .int x, .int z] (G, I, F) (some (.int (-2))) (G, ((vr_cut I (fun y => I 155 (144 * p + y)) (w * h) k).1), F) := by
  refine vm_K.mk (by decide) (Nat.le_of_ble_eq_true rfl) ?_
  have hwh := vm_mul144 hw2 hh2
  have hwh := vm_mul144 hw2 hh2
  have hgn2 : (vr_gth I (fun y => I 155 (144 * p + y)) (w * h)).2 ≤ 144 := Nat.le_trans (vr_gth_n I (fun y => I 155 (144 * p + y)) (w * h)).2 hwh
  have hib := vr_cut_ib (I := I) (f := (fun y => I 155 (144 * p + y))) (k := k) (Nat.mul_pos hw0 hh0) hk1 hk2
  show vm_J _ _ _ (0, (0, 0), [.ref 152, .int (nI p), .int (nI k), .int x, .int z, .retAddr 0], []) _ _ _
  refine vm_J.go vm_q210 (k := 2) (hs := []) (f' := (2, (0, 0), [.ref 152, .int (nI p), .int (nI k), .int x, .int z, .retAddr 0], [.int (nI p), .ref 152])) (h' := (G, I, F)) (hs' := []) rfl rfl ?_
  refine vm_J.call vm_q210 (Z := vm_M172) (n := 1) (k := 0) (mi := 172) (pc := 2) (en := (2, .invokevirtual 156, 3, [172, 1313, 0], .null)) rfl trivial rfl rfl vm_z172 (av := [.ref 152, .int (nI p)]) (rest := []) (r_isPic_y (p := p) (w := w) hR (by omega) hw (by omega) (by omega)) ⟨_, _, rfl, rfl, _, 11, _, hR.c152, rfl, rfl, rfl⟩ (Nat.le_of_ble_eq_true rfl) ⟨Nat.le_of_ble_eq_true rfl, Nat.le_of_ble_eq_true rfl⟩ ⟨Nat.le_of_ble_eq_true rfl, Nat.le_of_ble_eq_true rfl⟩ ?_
  show vm_J _ _ _ (5, (0, 0), [.ref 152, .int (nI p), .int (nI k), .int x, .int z, .retAddr 0], [.int 1]) (G, I, F) _ _
  refine vm_J.go vm_q210 (k := 1) (hs := []) (f' := (bif vm_ic .eq 1 0 then 18 else 8, (0, 0), [.ref 152, .int (nI p), .int (nI k), .int x, .int z, .retAddr 0], [])) (h' := (G, I, F)) (hs' := []) rfl rfl ?_
  refine vm_J.bF (by decide) ?_
  refine vm_J.go vm_q210 (k := 3) (hs := []) (f' := (12, (0, 0), [.ref 152, .int (nI p), .int (nI k), .int x, .int z, .retAddr 0], [.int 4, .int 0, .int z])) (h' := (G, I, F)) (hs' := []) rfl rfl ?_
  refine vm_J.call vm_q210 (Z := vm_M168) (n := 3) (k := 1) (mi := 168) (pc := 12) (en := (12, .invokestatic 141, 3, [168, 1302, 0], .null)) rfl trivial rfl rfl vm_z168 (av := [.int z, .int 0, .int 4]) (rest := []) (r_isIn_y (v := z) (a := 0) (b := 4) hz) rfl (Nat.le_of_ble_eq_true rfl) ⟨Nat.le_of_ble_eq_true rfl, Nat.le_of_ble_eq_true rfl⟩ ⟨Nat.le_of_ble_eq_true rfl, Nat.le_of_ble_eq_true rfl⟩ ?_
  show vm_J _ _ _ (15, (0, 0), [.ref 152, .int (nI p), .int (nI k), .int x, .int z, .retAddr 0], [.int 1]) (G, I, F) _ _
  refine vm_J.go vm_q210 (k := 1) (hs := []) (f' := (bif vm_ic .ne 1 0 then 20 else 18, (0, 0), [.ref 152, .int (nI p), .int (nI k), .int x, .int z, .retAddr 0], [])) (h' := (G, I, F)) (hs' := []) rfl rfl ?_
  refine vm_J.bT (by decide) ?_
  refine vm_J.go vm_q210 (k := 3) (hs := []) (f' := (24, (0, 0), [.ref 152, .int (nI p), .int (nI k), .int x, .int z, .retAddr 0], [.int 16, .int 1, .int (nI k)])) (h' := (G, I, F)) (hs' := []) rfl rfl ?_
  refine vm_J.call vm_q210 (Z := vm_M168) (n := 3) (k := 1) (mi := 168) (pc := 24) (en := (24, .invokestatic 141, 3, [168, 1302, 0], .null)) rfl trivial rfl rfl vm_z168 (av := [.int (nI k), .int 1, .int 16]) (rest := []) (r_isIn_y (v := nI k) (a := 1) (b := 16) (vm_bp1 (m := 16) hk1 hk2 rfl (by decide))) rfl (Nat.le_of_ble_eq_true rfl) ⟨Nat.le_of_ble_eq_true rfl, Nat.le_of_ble_eq_true rfl⟩ ⟨Nat.le_of_ble_eq_true rfl, Nat.le_of_ble_eq_true rfl⟩ ?_
  show vm_J _ _ _ (27, (0, 0), [.ref 152, .int (nI p), .int (nI k), .int x, .int z, .retAddr 0], [.int 1]) (G, I, F) _ _
  refine vm_J.go vm_q210 (k := 1) (hs := []) (f' := (bif vm_ic .ne 1 0 then 33 else 30, (0, 0), [.ref 152, .int (nI p), .int (nI k), .int x, .int z, .retAddr 0], [])) (h' := (G, I, F)) (hs' := []) rfl rfl ?_
  refine vm_J.bT (by decide) ?_
  refine vm_J.go vm_q210 (k := 2) (hs := [vm_shR]) (f' := (37, (0, 0), [.ref 152, .int (nI p), .int (nI k), .int x, .int z, .retAddr 0], [.int (I 152 10)])) (h' := (G, I, F)) (hs' := []) rfl (vm_b2 rfl (vm_b2 (vm_b2 (vm_hG hR.c152) rfl) rfl)) ?_
  rw [(hu : I 152 10 = nI u)]
  refine vm_J.go vm_q210 (k := 2) (hs := []) (f' := (bif vm_ic .ne (nI u) 6000 then 46 else 43, (0, 0), [.ref 152, .int (nI p), .int (nI k), .int x, .int z, .retAddr 0], [])) (h' := (G, I, F)) (hs' := []) rfl rfl ?_
  refine vm_J.br (fun c1 => ?_) (fun c1 => ?_)
  · have c1 := vm_ne_t (a := u) (b := 6000) (by omega) (by omega) c1
    refine vm_J.go vm_q210 (k := 3) (hs := []) (f' := (49, (0, 0), [.ref 152, .int (nI p), .int (nI k), .int x, .int z, .retAddr 0], [.int (nI k), .int (nI p), .ref 152])) (h' := (G, I, F)) (hs' := []) rfl rfl ?_
    refine vm_J.call vm_q210 (Z := vm_M205) (n := 2) (k := 0) (mi := 205) (pc := 49) (en := (49, .invokevirtual 245, 3, [205, 1394, 0], .null)) rfl trivial rfl rfl vm_z205 (av := [.ref 152, .int (nI p), .int (nI k)]) (rest := []) (r_cutsInto (p := p) (w := w) (h := h) (k := k) hR hw hh (by omega) (by omega) (by omega) (by omega) (by omega) (by omega) (by omega)) ⟨_, _, rfl, rfl, _, 11, _, hR.c152, rfl, rfl, rfl⟩ (Nat.le_of_ble_eq_true rfl) ⟨Nat.le_of_ble_eq_true rfl, Nat.le_of_ble_eq_true rfl⟩ ⟨Nat.le_of_ble_eq_true rfl, Nat.le_of_ble_eq_true rfl⟩ ?_
    show vm_J _ _ _ (52, (0, 0), [.ref 152, .int (nI p), .int (nI k), .int x, .int z, .retAddr 0], []) (G, ((vr_cut I (fun y => I 155 (144 * p + y)) (w * h) k).1), F) _ _
    refine vm_J.go vm_q210 (k := 2) (hs := []) (f' := (54, (0, 0), [.ref 152, .int (nI p), .int (nI k), .int x, .int z, .retAddr 0], [.int x, .ref 152])) (h' := (G, ((vr_cut I (fun y => I 155 (144 * p + y)) (w * h) k).1), F)) (hs' := []) rfl rfl ?_
    refine vm_J.call vm_q210 (Z := vm_M206) (n := 1) (k := 0) (mi := 206) (pc := 54) (en := (54, .invokevirtual 249, 3, [206, 1434, 0], .null)) rfl trivial rfl rfl vm_z206 (av := [.ref 152, .int x]) (rest := []) (r_boxAt (n := (vr_gth I (fun y => I 155 (144 * p + y)) (w * h)).2) (nb := (vr_cut I (fun y => I 155 (144 * p + y)) (w * h) k).2) (i := x) hR hgn2 hib.1.2.1 (by omega) hib.1.2.2) ⟨_, _, rfl, rfl, _, 11, _, hR.c152, rfl, rfl, rfl⟩ (Nat.le_of_ble_eq_true rfl) ⟨Nat.le_of_ble_eq_true rfl, Nat.le_of_ble_eq_true rfl⟩ ⟨Nat.le_of_ble_eq_true rfl, Nat.le_of_ble_eq_true rfl⟩ ?_
    show vm_J _ _ _ (57, (0, 0), [.ref 152, .int (nI p), .int (nI k), .int x, .int z, .retAddr 0], [.int (if (vr_ba (((vr_cut I (fun y => I 155 (144 * p + y)) (w * h) k).1) 161) (vr_gth I (fun y => I 155 (144 * p + y)) (w * h)).2 (vr_cut I (fun y => I 155 (144 * p + y)) (w * h) k).2 x) < (vr_cut I (fun y => I 155 (144 * p + y)) (w * h) k).2 then nI (vr_ba (((vr_cut I (fun y => I 155 (144 * p + y)) (w * h) k).1) 161) (vr_gth I (fun y => I 155 (144 * p + y)) (w * h)).2 (vr_cut I (fun y => I 155 (144 * p + y)) (w * h) k).2 x) else -1)]) (G, ((vr_cut I (fun y => I 155 (144 * p + y)) (w * h) k).1), F) _ _
    rw [if_neg hbx]
    show vm_J _ _ _ (57, (0, 0), [.ref 152, .int (nI p), .int (nI k), .int x, .int z, .retAddr 0], [.int (-1)]) (G, ((vr_cut I (fun y => I 155 (144 * p + y)) (w * h) k).1), F) _ _
    refine vm_J.go vm_q210 (k := 3) (hs := []) (f' := (bif vm_ic .ge (-1) 0 then 67 else 64, (0, 0), [.ref 152, .int (nI p), .int (nI k), .int x, .int z, .int (-1)], [])) (h' := (G, ((vr_cut I (fun y => I 155 (144 * p + y)) (w * h) k).1), F)) (hs' := []) rfl rfl ?_
    refine vm_J.bF (by decide) ?_
    refine vm_J.go vm_q210 (k := 1) (hs := []) (f' := (66, (0, 0), [.ref 152, .int (nI p), .int (nI k), .int x, .int z, .int (-1)], [.int (-2)])) (h' := (G, ((vr_cut I (fun y => I 155 (144 * p + y)) (w * h) k).1), F)) (hs' := []) rfl rfl ?_
    exact vm_J.end vm_q210 (en := (66, .ireturn, 1, [], .null)) rfl rfl vm_rI (Nat.zero_le _) (Nat.zero_le _) rfl
  · have c1 := vm_ne_f (a := u) (b := 6000) (by omega) (by omega) c1
    exact (show False by omega).elim
set_option maxHeartbeats 4000000 in
set_option maxRecDepth 20000 in
/-- DitherDeskModel.box -/
theorem r_box_0 {l : Launch} {X : vm_Cx} {G : List vm_Sh} {I : Nat → Nat → Int32} {F : Nat → Nat → UInt32} {p : Nat} {w : Nat} {h : Nat} {k : Nat} {u : Nat} {x : Int32} (hR : vm_isR G) (hw : I 153 p = nI w) (hh : I 154 p = nI h) (hp : p < 4) (hw2 : w ≤ 12) (hh2 : h ≤ 12) (hw0 : 0 < w) (hh0 : 0 < h) (hk1 : 0 < k) (hk2 : k ≤ 16) (hu : I 152 10 = nI u) (hv : u < 6000) (hbx : (vr_ba (((vr_cut I (fun y => I 155 (144 * p + y)) (w * h) k).1) 161) (vr_gth I (fun y => I 155 (144 * p + y)) (w * h)).2 (vr_cut I (fun y => I 155 (144 * p + y)) (w * h) k).2 x) < (vr_cut I (fun y => I 155 (144 * p + y)) (w * h) k).2) : vm_K l X vm_M210 [.ref 152, .int (nI p), .int (nI k), .int x, .int 0] (G, I, F) (some (.int (vr_px (((vr_cut I (fun y => I 155 (144 * p + y)) (w * h) k).1) 161) (((vr_cut I (fun y => I 155 (144 * p + y)) (w * h) k).1) 160) (vr_gth I (fun y => I 155 (144 * p + y)) (w * h)).2 (nI (vr_ba (((vr_cut I (fun y => I 155 (144 * p + y)) (w * h) k).1) 161) (vr_gth I (fun y => I 155 (144 * p + y)) (w * h)).2 (vr_cut I (fun y => I 155 (144 * p + y)) (w * h) k).2 x))))) (G, (vm_up ((vr_cut I (fun y => I 155 (144 * p + y)) (w * h) k).1) 152 10 (nI (u + 1))), F) := by
  refine vm_K.mk (by decide) (Nat.le_of_ble_eq_true rfl) ?_
  have hwh := vm_mul144 hw2 hh2
  have hwh := vm_mul144 hw2 hh2
  have hgn2 : (vr_gth I (fun y => I 155 (144 * p + y)) (w * h)).2 ≤ 144 := Nat.le_trans (vr_gth_n I (fun y => I 155 (144 * p + y)) (w * h)).2 hwh
  have hib := vr_cut_ib (I := I) (f := (fun y => I 155 (144 * p + y))) (k := k) (Nat.mul_pos hw0 hh0) hk1 hk2
  show vm_J _ _ _ (0, (0, 0), [.ref 152, .int (nI p), .int (nI k), .int x, .int 0, .retAddr 0], []) _ _ _
  refine vm_J.go vm_q210 (k := 2) (hs := []) (f' := (2, (0, 0), [.ref 152, .int (nI p), .int (nI k), .int x, .int 0, .retAddr 0], [.int (nI p), .ref 152])) (h' := (G, I, F)) (hs' := []) rfl rfl ?_
  refine vm_J.call vm_q210 (Z := vm_M172) (n := 1) (k := 0) (mi := 172) (pc := 2) (en := (2, .invokevirtual 156, 3, [172, 1313, 0], .null)) rfl trivial rfl rfl vm_z172 (av := [.ref 152, .int (nI p)]) (rest := []) (r_isPic_y (p := p) (w := w) hR (by omega) hw (by omega) (by omega)) ⟨_, _, rfl, rfl, _, 11, _, hR.c152, rfl, rfl, rfl⟩ (Nat.le_of_ble_eq_true rfl) ⟨Nat.le_of_ble_eq_true rfl, Nat.le_of_ble_eq_true rfl⟩ ⟨Nat.le_of_ble_eq_true rfl, Nat.le_of_ble_eq_true rfl⟩ ?_
  show vm_J _ _ _ (5, (0, 0), [.ref 152, .int (nI p), .int (nI k), .int x, .int 0, .retAddr 0], [.int 1]) (G, I, F) _ _
  refine vm_J.go vm_q210 (k := 1) (hs := []) (f' := (bif vm_ic .eq 1 0 then 18 else 8, (0, 0), [.ref 152, .int (nI p), .int (nI k), .int x, .int 0, .retAddr 0], [])) (h' := (G, I, F)) (hs' := []) rfl rfl ?_
  refine vm_J.bF (by decide) ?_
  refine vm_J.go vm_q210 (k := 3) (hs := []) (f' := (12, (0, 0), [.ref 152, .int (nI p), .int (nI k), .int x, .int 0, .retAddr 0], [.int 4, .int 0, .int 0])) (h' := (G, I, F)) (hs' := []) rfl rfl ?_
  refine vm_J.call vm_q210 (Z := vm_M168) (n := 3) (k := 1) (mi := 168) (pc := 12) (en := (12, .invokestatic 141, 3, [168, 1302, 0], .null)) rfl trivial rfl rfl vm_z168 (av := [.int 0, .int 0, .int 4]) (rest := []) (r_isIn_y (v := 0) (a := 0) (b := 4) (by decide)) rfl (Nat.le_of_ble_eq_true rfl) ⟨Nat.le_of_ble_eq_true rfl, Nat.le_of_ble_eq_true rfl⟩ ⟨Nat.le_of_ble_eq_true rfl, Nat.le_of_ble_eq_true rfl⟩ ?_
  show vm_J _ _ _ (15, (0, 0), [.ref 152, .int (nI p), .int (nI k), .int x, .int 0, .retAddr 0], [.int 1]) (G, I, F) _ _
  refine vm_J.go vm_q210 (k := 1) (hs := []) (f' := (bif vm_ic .ne 1 0 then 20 else 18, (0, 0), [.ref 152, .int (nI p), .int (nI k), .int x, .int 0, .retAddr 0], [])) (h' := (G, I, F)) (hs' := []) rfl rfl ?_
  refine vm_J.bT (by decide) ?_
  refine vm_J.go vm_q210 (k := 3) (hs := []) (f' := (24, (0, 0), [.ref 152, .int (nI p), .int (nI k), .int x, .int 0, .retAddr 0], [.int 16, .int 1, .int (nI k)])) (h' := (G, I, F)) (hs' := []) rfl rfl ?_
  refine vm_J.call vm_q210 (Z := vm_M168) (n := 3) (k := 1) (mi := 168) (pc := 24) (en := (24, .invokestatic 141, 3, [168, 1302, 0], .null)) rfl trivial rfl rfl vm_z168 (av := [.int (nI k), .int 1, .int 16]) (rest := []) (r_isIn_y (v := nI k) (a := 1) (b := 16) (vm_bp1 (m := 16) hk1 hk2 rfl (by decide))) rfl (Nat.le_of_ble_eq_true rfl) ⟨Nat.le_of_ble_eq_true rfl, Nat.le_of_ble_eq_true rfl⟩ ⟨Nat.le_of_ble_eq_true rfl, Nat.le_of_ble_eq_true rfl⟩ ?_
  show vm_J _ _ _ (27, (0, 0), [.ref 152, .int (nI p), .int (nI k), .int x, .int 0, .retAddr 0], [.int 1]) (G, I, F) _ _
  refine vm_J.go vm_q210 (k := 1) (hs := []) (f' := (bif vm_ic .ne 1 0 then 33 else 30, (0, 0), [.ref 152, .int (nI p), .int (nI k), .int x, .int 0, .retAddr 0], [])) (h' := (G, I, F)) (hs' := []) rfl rfl ?_
  refine vm_J.bT (by decide) ?_
  refine vm_J.go vm_q210 (k := 2) (hs := [vm_shR]) (f' := (37, (0, 0), [.ref 152, .int (nI p), .int (nI k), .int x, .int 0, .retAddr 0], [.int (I 152 10)])) (h' := (G, I, F)) (hs' := []) rfl (vm_b2 rfl (vm_b2 (vm_b2 (vm_hG hR.c152) rfl) rfl)) ?_
  rw [(hu : I 152 10 = nI u)]
  refine vm_J.go vm_q210 (k := 2) (hs := []) (f' := (bif vm_ic .ne (nI u) 6000 then 46 else 43, (0, 0), [.ref 152, .int (nI p), .int (nI k), .int x, .int 0, .retAddr 0], [])) (h' := (G, I, F)) (hs' := []) rfl rfl ?_
  refine vm_J.br (fun c1 => ?_) (fun c1 => ?_)
  · have c1 := vm_ne_t (a := u) (b := 6000) (by omega) (by omega) c1
    refine vm_J.go vm_q210 (k := 3) (hs := []) (f' := (49, (0, 0), [.ref 152, .int (nI p), .int (nI k), .int x, .int 0, .retAddr 0], [.int (nI k), .int (nI p), .ref 152])) (h' := (G, I, F)) (hs' := []) rfl rfl ?_
    refine vm_J.call vm_q210 (Z := vm_M205) (n := 2) (k := 0) (mi := 205) (pc := 49) (en := (49, .invokevirtual 245, 3, [205, 1394, 0], .null)) rfl trivial rfl rfl vm_z205 (av := [.ref 152, .int (nI p), .int (nI k)]) (rest := []) (r_cutsInto (p := p) (w := w) (h := h) (k := k) hR hw hh (by omega) (by omega) (by omega) (by omega) (by omega) (by omega) (by omega)) ⟨_, _, rfl, rfl, _, 11, _, hR.c152, rfl, rfl, rfl⟩ (Nat.le_of_ble_eq_true rfl) ⟨Nat.le_of_ble_eq_true rfl, Nat.le_of_ble_eq_true rfl⟩ ⟨Nat.le_of_ble_eq_true rfl, Nat.le_of_ble_eq_true rfl⟩ ?_
    show vm_J _ _ _ (52, (0, 0), [.ref 152, .int (nI p), .int (nI k), .int x, .int 0, .retAddr 0], []) (G, ((vr_cut I (fun y => I 155 (144 * p + y)) (w * h) k).1), F) _ _
    refine vm_J.go vm_q210 (k := 2) (hs := []) (f' := (54, (0, 0), [.ref 152, .int (nI p), .int (nI k), .int x, .int 0, .retAddr 0], [.int x, .ref 152])) (h' := (G, ((vr_cut I (fun y => I 155 (144 * p + y)) (w * h) k).1), F)) (hs' := []) rfl rfl ?_
    refine vm_J.call vm_q210 (Z := vm_M206) (n := 1) (k := 0) (mi := 206) (pc := 54) (en := (54, .invokevirtual 249, 3, [206, 1434, 0], .null)) rfl trivial rfl rfl vm_z206 (av := [.ref 152, .int x]) (rest := []) (r_boxAt (n := (vr_gth I (fun y => I 155 (144 * p + y)) (w * h)).2) (nb := (vr_cut I (fun y => I 155 (144 * p + y)) (w * h) k).2) (i := x) hR hgn2 hib.1.2.1 (by omega) hib.1.2.2) ⟨_, _, rfl, rfl, _, 11, _, hR.c152, rfl, rfl, rfl⟩ (Nat.le_of_ble_eq_true rfl) ⟨Nat.le_of_ble_eq_true rfl, Nat.le_of_ble_eq_true rfl⟩ ⟨Nat.le_of_ble_eq_true rfl, Nat.le_of_ble_eq_true rfl⟩ ?_
    show vm_J _ _ _ (57, (0, 0), [.ref 152, .int (nI p), .int (nI k), .int x, .int 0, .retAddr 0], [.int (if (vr_ba (((vr_cut I (fun y => I 155 (144 * p + y)) (w * h) k).1) 161) (vr_gth I (fun y => I 155 (144 * p + y)) (w * h)).2 (vr_cut I (fun y => I 155 (144 * p + y)) (w * h) k).2 x) < (vr_cut I (fun y => I 155 (144 * p + y)) (w * h) k).2 then nI (vr_ba (((vr_cut I (fun y => I 155 (144 * p + y)) (w * h) k).1) 161) (vr_gth I (fun y => I 155 (144 * p + y)) (w * h)).2 (vr_cut I (fun y => I 155 (144 * p + y)) (w * h) k).2 x) else -1)]) (G, ((vr_cut I (fun y => I 155 (144 * p + y)) (w * h) k).1), F) _ _
    rw [if_pos hbx]
    obtain ⟨t, et⟩ : ∃ t, (vr_ba (((vr_cut I (fun y => I 155 (144 * p + y)) (w * h) k).1) 161) (vr_gth I (fun y => I 155 (144 * p + y)) (w * h)).2 (vr_cut I (fun y => I 155 (144 * p + y)) (w * h) k).2 x) = t := ⟨_, rfl⟩
    rw [et] at hbx ⊢
    have hft := hib.1.2.2 t hbx
    show vm_J _ _ _ (57, (0, 0), [.ref 152, .int (nI p), .int (nI k), .int x, .int 0, .retAddr 0], [.int (nI t)]) (G, ((vr_cut I (fun y => I 155 (144 * p + y)) (w * h) k).1), F) _ _
    refine vm_J.go vm_q210 (k := 3) (hs := []) (f' := (bif vm_ic .ge (nI t) 0 then 67 else 64, (0, 0), [.ref 152, .int (nI p), .int (nI k), .int x, .int 0, .int (nI t)], [])) (h' := (G, ((vr_cut I (fun y => I 155 (144 * p + y)) (w * h) k).1), F)) (hs' := []) rfl rfl ?_
    refine vm_J.br (fun c2 => ?_) (fun c2 => ?_)
    · have c2 := vm_ge_t (a := t) (b := 0) (by omega) (by omega) c2
      refine vm_J.go vm_q210 (k := 3) (hs := [vm_shR]) (f' := (72, (0, 0), [.ref 152, .int (nI p), .int (nI k), .int x, .int 0, .int (nI t)], [.int (((vr_cut I (fun y => I 155 (144 * p + y)) (w * h) k).1) 152 10), .ref 152])) (h' := (G, ((vr_cut I (fun y => I 155 (144 * p + y)) (w * h) k).1), F)) (hs' := []) rfl (vm_b2 rfl (vm_b2 rfl (vm_b2 (vm_b2 (vm_hG hR.c152) rfl) rfl))) ?_
      rw [((Eq.trans (vr_cut_k _ _ _ _ 10 (by decide) (by decide)) hu) : ((vr_cut I (fun y => I 155 (144 * p + y)) (w * h) k).1) 152 10 = nI u)]
      refine vm_J.go vm_q210 (k := 2) (hs := []) (f' := (74, (0, 0), [.ref 152, .int (nI p), .int (nI k), .int x, .int 0, .int (nI t)], [.int ((nI u) + 1), .ref 152])) (h' := (G, ((vr_cut I (fun y => I 155 (144 * p + y)) (w * h) k).1), F)) (hs' := []) rfl rfl ?_
      rw [((vm_pa (rfl : (nI u : Int32) = nI u) (rfl : (1 : Int32) = nI 1)) : (nI u) + 1 = nI (u + 1))]
      refine vm_J.go vm_q210 (k := 5) (hs := [vm_shR]) (f' := (111, (0, 0), [.ref 152, .int (nI p), .int (nI k), .int x, .int 0, .int (nI t)], [.int (nI t), .ref 152])) (h' := (G, (vm_up ((vr_cut I (fun y => I 155 (144 * p + y)) (w * h) k).1) 152 10 (nI (u + 1))), F)) (hs' := []) rfl (vm_b2 (vm_b2 (vm_b2 (vm_hG hR.c152) rfl) rfl) (vm_b2 rfl (vm_b2 rfl (vm_b2 rfl (vm_b2 rfl rfl))))) ?_
      refine vm_J.call vm_q210 (Z := vm_M199) (n := 1) (k := 0) (mi := 199) (pc := 111) (en := (111, .invokevirtual 220, 3, [199, 1418, 0], .null)) rfl trivial rfl rfl vm_z199 (av := [.ref 152, .int (nI t)]) (rest := []) (r_pixelsOf (n := (vr_gth I (fun y => I 155 (144 * p + y)) (w * h)).2) (x := nI t) hR (Eq.trans (vm_up_k2 _ 152 10 _ 14 (by decide)) hib.1.1) (by omega)) ⟨_, _, rfl, rfl, _, 11, _, hR.c152, rfl, rfl, rfl⟩ (Nat.le_of_ble_eq_true rfl) ⟨Nat.le_of_ble_eq_true rfl, Nat.le_of_ble_eq_true rfl⟩ ⟨Nat.le_of_ble_eq_true rfl, Nat.le_of_ble_eq_true rfl⟩ ?_
      rw [((vm_up_f _ 152 _ _ 160 (by decide)) : (vm_up ((vr_cut I (fun y => I 155 (144 * p + y)) (w * h) k).1) 152 10 (nI (u + 1))) 160 = ((vr_cut I (fun y => I 155 (144 * p + y)) (w * h) k).1) 160)]
      rw [((vm_up_f _ 152 _ _ 161 (by decide)) : (vm_up ((vr_cut I (fun y => I 155 (144 * p + y)) (w * h) k).1) 152 10 (nI (u + 1))) 161 = ((vr_cut I (fun y => I 155 (144 * p + y)) (w * h) k).1) 161)]
      show vm_J _ _ _ (114, (0, 0), [.ref 152, .int (nI p), .int (nI k), .int x, .int 0, .int (nI t)], [.int (vr_px (((vr_cut I (fun y => I 155 (144 * p + y)) (w * h) k).1) 161) (((vr_cut I (fun y => I 155 (144 * p + y)) (w * h) k).1) 160) ((vr_gth I (fun y => I 155 (144 * p + y)) (w * h)).2) (nI t))]) (G, (vm_up ((vr_cut I (fun y => I 155 (144 * p + y)) (w * h) k).1) 152 10 (nI (u + 1))), F) _ _
      exact vm_J.end vm_q210 (en := (114, .ireturn, 1, [], .null)) rfl rfl vm_rI (Nat.zero_le _) (Nat.zero_le _) rfl
    · have c2 := vm_ge_f (a := t) (b := 0) (by omega) (by omega) c2
      exact (show False by omega).elim
  · have c1 := vm_ne_f (a := u) (b := 6000) (by omega) (by omega) c1
    exact (show False by omega).elim
set_option maxHeartbeats 4000000 in
set_option maxRecDepth 20000 in
/-- DitherDeskModel.box -/
theorem r_box_1 {l : Launch} {X : vm_Cx} {G : List vm_Sh} {I : Nat → Nat → Int32} {F : Nat → Nat → UInt32} {p : Nat} {w : Nat} {h : Nat} {k : Nat} {u : Nat} {x : Int32} (hR : vm_isR G) (hw : I 153 p = nI w) (hh : I 154 p = nI h) (hp : p < 4) (hw2 : w ≤ 12) (hh2 : h ≤ 12) (hw0 : 0 < w) (hh0 : 0 < h) (hk1 : 0 < k) (hk2 : k ≤ 16) (hu : I 152 10 = nI u) (hv : u < 6000) (hbx : (vr_ba (((vr_cut I (fun y => I 155 (144 * p + y)) (w * h) k).1) 161) (vr_gth I (fun y => I 155 (144 * p + y)) (w * h)).2 (vr_cut I (fun y => I 155 (144 * p + y)) (w * h) k).2 x) < (vr_cut I (fun y => I 155 (144 * p + y)) (w * h) k).2) : vm_K l X vm_M210 [.ref 152, .int (nI p), .int (nI k), .int x, .int 1] (G, I, F) (some (.int (vr_co (((vr_cut I (fun y => I 155 (144 * p + y)) (w * h) k).1) 161) (vr_gth I (fun y => I 155 (144 * p + y)) (w * h)).2 (nI (vr_ba (((vr_cut I (fun y => I 155 (144 * p + y)) (w * h) k).1) 161) (vr_gth I (fun y => I 155 (144 * p + y)) (w * h)).2 (vr_cut I (fun y => I 155 (144 * p + y)) (w * h) k).2 x))))) (G, (vm_up ((vr_cut I (fun y => I 155 (144 * p + y)) (w * h) k).1) 152 10 (nI (u + 1))), F) := by
  refine vm_K.mk (by decide) (Nat.le_of_ble_eq_true rfl) ?_
  have hwh := vm_mul144 hw2 hh2
  have hwh := vm_mul144 hw2 hh2
  have hgn2 : (vr_gth I (fun y => I 155 (144 * p + y)) (w * h)).2 ≤ 144 := Nat.le_trans (vr_gth_n I (fun y => I 155 (144 * p + y)) (w * h)).2 hwh
  have hib := vr_cut_ib (I := I) (f := (fun y => I 155 (144 * p + y))) (k := k) (Nat.mul_pos hw0 hh0) hk1 hk2
  show vm_J _ _ _ (0, (0, 0), [.ref 152, .int (nI p), .int (nI k), .int x, .int 1, .retAddr 0], []) _ _ _
  refine vm_J.go vm_q210 (k := 2) (hs := []) (f' := (2, (0, 0), [.ref 152, .int (nI p), .int (nI k), .int x, .int 1, .retAddr 0], [.int (nI p), .ref 152])) (h' := (G, I, F)) (hs' := []) rfl rfl ?_
  refine vm_J.call vm_q210 (Z := vm_M172) (n := 1) (k := 0) (mi := 172) (pc := 2) (en := (2, .invokevirtual 156, 3, [172, 1313, 0], .null)) rfl trivial rfl rfl vm_z172 (av := [.ref 152, .int (nI p)]) (rest := []) (r_isPic_y (p := p) (w := w) hR (by omega) hw (by omega) (by omega)) ⟨_, _, rfl, rfl, _, 11, _, hR.c152, rfl, rfl, rfl⟩ (Nat.le_of_ble_eq_true rfl) ⟨Nat.le_of_ble_eq_true rfl, Nat.le_of_ble_eq_true rfl⟩ ⟨Nat.le_of_ble_eq_true rfl, Nat.le_of_ble_eq_true rfl⟩ ?_
  show vm_J _ _ _ (5, (0, 0), [.ref 152, .int (nI p), .int (nI k), .int x, .int 1, .retAddr 0], [.int 1]) (G, I, F) _ _
  refine vm_J.go vm_q210 (k := 1) (hs := []) (f' := (bif vm_ic .eq 1 0 then 18 else 8, (0, 0), [.ref 152, .int (nI p), .int (nI k), .int x, .int 1, .retAddr 0], [])) (h' := (G, I, F)) (hs' := []) rfl rfl ?_
  refine vm_J.bF (by decide) ?_
  refine vm_J.go vm_q210 (k := 3) (hs := []) (f' := (12, (0, 0), [.ref 152, .int (nI p), .int (nI k), .int x, .int 1, .retAddr 0], [.int 4, .int 0, .int 1])) (h' := (G, I, F)) (hs' := []) rfl rfl ?_
  refine vm_J.call vm_q210 (Z := vm_M168) (n := 3) (k := 1) (mi := 168) (pc := 12) (en := (12, .invokestatic 141, 3, [168, 1302, 0], .null)) rfl trivial rfl rfl vm_z168 (av := [.int 1, .int 0, .int 4]) (rest := []) (r_isIn_y (v := 1) (a := 0) (b := 4) (by decide)) rfl (Nat.le_of_ble_eq_true rfl) ⟨Nat.le_of_ble_eq_true rfl, Nat.le_of_ble_eq_true rfl⟩ ⟨Nat.le_of_ble_eq_true rfl, Nat.le_of_ble_eq_true rfl⟩ ?_
  show vm_J _ _ _ (15, (0, 0), [.ref 152, .int (nI p), .int (nI k), .int x, .int 1, .retAddr 0], [.int 1]) (G, I, F) _ _
  refine vm_J.go vm_q210 (k := 1) (hs := []) (f' := (bif vm_ic .ne 1 0 then 20 else 18, (0, 0), [.ref 152, .int (nI p), .int (nI k), .int x, .int 1, .retAddr 0], [])) (h' := (G, I, F)) (hs' := []) rfl rfl ?_
  refine vm_J.bT (by decide) ?_
  refine vm_J.go vm_q210 (k := 3) (hs := []) (f' := (24, (0, 0), [.ref 152, .int (nI p), .int (nI k), .int x, .int 1, .retAddr 0], [.int 16, .int 1, .int (nI k)])) (h' := (G, I, F)) (hs' := []) rfl rfl ?_
  refine vm_J.call vm_q210 (Z := vm_M168) (n := 3) (k := 1) (mi := 168) (pc := 24) (en := (24, .invokestatic 141, 3, [168, 1302, 0], .null)) rfl trivial rfl rfl vm_z168 (av := [.int (nI k), .int 1, .int 16]) (rest := []) (r_isIn_y (v := nI k) (a := 1) (b := 16) (vm_bp1 (m := 16) hk1 hk2 rfl (by decide))) rfl (Nat.le_of_ble_eq_true rfl) ⟨Nat.le_of_ble_eq_true rfl, Nat.le_of_ble_eq_true rfl⟩ ⟨Nat.le_of_ble_eq_true rfl, Nat.le_of_ble_eq_true rfl⟩ ?_
  show vm_J _ _ _ (27, (0, 0), [.ref 152, .int (nI p), .int (nI k), .int x, .int 1, .retAddr 0], [.int 1]) (G, I, F) _ _
  refine vm_J.go vm_q210 (k := 1) (hs := []) (f' := (bif vm_ic .ne 1 0 then 33 else 30, (0, 0), [.ref 152, .int (nI p), .int (nI k), .int x, .int 1, .retAddr 0], [])) (h' := (G, I, F)) (hs' := []) rfl rfl ?_
  refine vm_J.bT (by decide) ?_
  refine vm_J.go vm_q210 (k := 2) (hs := [vm_shR]) (f' := (37, (0, 0), [.ref 152, .int (nI p), .int (nI k), .int x, .int 1, .retAddr 0], [.int (I 152 10)])) (h' := (G, I, F)) (hs' := []) rfl (vm_b2 rfl (vm_b2 (vm_b2 (vm_hG hR.c152) rfl) rfl)) ?_
  rw [(hu : I 152 10 = nI u)]
  refine vm_J.go vm_q210 (k := 2) (hs := []) (f' := (bif vm_ic .ne (nI u) 6000 then 46 else 43, (0, 0), [.ref 152, .int (nI p), .int (nI k), .int x, .int 1, .retAddr 0], [])) (h' := (G, I, F)) (hs' := []) rfl rfl ?_
  refine vm_J.br (fun c1 => ?_) (fun c1 => ?_)
  · have c1 := vm_ne_t (a := u) (b := 6000) (by omega) (by omega) c1
    refine vm_J.go vm_q210 (k := 3) (hs := []) (f' := (49, (0, 0), [.ref 152, .int (nI p), .int (nI k), .int x, .int 1, .retAddr 0], [.int (nI k), .int (nI p), .ref 152])) (h' := (G, I, F)) (hs' := []) rfl rfl ?_
    refine vm_J.call vm_q210 (Z := vm_M205) (n := 2) (k := 0) (mi := 205) (pc := 49) (en := (49, .invokevirtual 245, 3, [205, 1394, 0], .null)) rfl trivial rfl rfl vm_z205 (av := [.ref 152, .int (nI p), .int (nI k)]) (rest := []) (r_cutsInto (p := p) (w := w) (h := h) (k := k) hR hw hh (by omega) (by omega) (by omega) (by omega) (by omega) (by omega) (by omega)) ⟨_, _, rfl, rfl, _, 11, _, hR.c152, rfl, rfl, rfl⟩ (Nat.le_of_ble_eq_true rfl) ⟨Nat.le_of_ble_eq_true rfl, Nat.le_of_ble_eq_true rfl⟩ ⟨Nat.le_of_ble_eq_true rfl, Nat.le_of_ble_eq_true rfl⟩ ?_
    show vm_J _ _ _ (52, (0, 0), [.ref 152, .int (nI p), .int (nI k), .int x, .int 1, .retAddr 0], []) (G, ((vr_cut I (fun y => I 155 (144 * p + y)) (w * h) k).1), F) _ _
    refine vm_J.go vm_q210 (k := 2) (hs := []) (f' := (54, (0, 0), [.ref 152, .int (nI p), .int (nI k), .int x, .int 1, .retAddr 0], [.int x, .ref 152])) (h' := (G, ((vr_cut I (fun y => I 155 (144 * p + y)) (w * h) k).1), F)) (hs' := []) rfl rfl ?_
    refine vm_J.call vm_q210 (Z := vm_M206) (n := 1) (k := 0) (mi := 206) (pc := 54) (en := (54, .invokevirtual 249, 3, [206, 1434, 0], .null)) rfl trivial rfl rfl vm_z206 (av := [.ref 152, .int x]) (rest := []) (r_boxAt (n := (vr_gth I (fun y => I 155 (144 * p + y)) (w * h)).2) (nb := (vr_cut I (fun y => I 155 (144 * p + y)) (w * h) k).2) (i := x) hR hgn2 hib.1.2.1 (by omega) hib.1.2.2) ⟨_, _, rfl, rfl, _, 11, _, hR.c152, rfl, rfl, rfl⟩ (Nat.le_of_ble_eq_true rfl) ⟨Nat.le_of_ble_eq_true rfl, Nat.le_of_ble_eq_true rfl⟩ ⟨Nat.le_of_ble_eq_true rfl, Nat.le_of_ble_eq_true rfl⟩ ?_
    show vm_J _ _ _ (57, (0, 0), [.ref 152, .int (nI p), .int (nI k), .int x, .int 1, .retAddr 0], [.int (if (vr_ba (((vr_cut I (fun y => I 155 (144 * p + y)) (w * h) k).1) 161) (vr_gth I (fun y => I 155 (144 * p + y)) (w * h)).2 (vr_cut I (fun y => I 155 (144 * p + y)) (w * h) k).2 x) < (vr_cut I (fun y => I 155 (144 * p + y)) (w * h) k).2 then nI (vr_ba (((vr_cut I (fun y => I 155 (144 * p + y)) (w * h) k).1) 161) (vr_gth I (fun y => I 155 (144 * p + y)) (w * h)).2 (vr_cut I (fun y => I 155 (144 * p + y)) (w * h) k).2 x) else -1)]) (G, ((vr_cut I (fun y => I 155 (144 * p + y)) (w * h) k).1), F) _ _
    rw [if_pos hbx]
    obtain ⟨t, et⟩ : ∃ t, (vr_ba (((vr_cut I (fun y => I 155 (144 * p + y)) (w * h) k).1) 161) (vr_gth I (fun y => I 155 (144 * p + y)) (w * h)).2 (vr_cut I (fun y => I 155 (144 * p + y)) (w * h) k).2 x) = t := ⟨_, rfl⟩
    rw [et] at hbx ⊢
    have hft := hib.1.2.2 t hbx
    show vm_J _ _ _ (57, (0, 0), [.ref 152, .int (nI p), .int (nI k), .int x, .int 1, .retAddr 0], [.int (nI t)]) (G, ((vr_cut I (fun y => I 155 (144 * p + y)) (w * h) k).1), F) _ _
    refine vm_J.go vm_q210 (k := 3) (hs := []) (f' := (bif vm_ic .ge (nI t) 0 then 67 else 64, (0, 0), [.ref 152, .int (nI p), .int (nI k), .int x, .int 1, .int (nI t)], [])) (h' := (G, ((vr_cut I (fun y => I 155 (144 * p + y)) (w * h) k).1), F)) (hs' := []) rfl rfl ?_
    refine vm_J.br (fun c2 => ?_) (fun c2 => ?_)
    · have c2 := vm_ge_t (a := t) (b := 0) (by omega) (by omega) c2
      refine vm_J.go vm_q210 (k := 3) (hs := [vm_shR]) (f' := (72, (0, 0), [.ref 152, .int (nI p), .int (nI k), .int x, .int 1, .int (nI t)], [.int (((vr_cut I (fun y => I 155 (144 * p + y)) (w * h) k).1) 152 10), .ref 152])) (h' := (G, ((vr_cut I (fun y => I 155 (144 * p + y)) (w * h) k).1), F)) (hs' := []) rfl (vm_b2 rfl (vm_b2 rfl (vm_b2 (vm_b2 (vm_hG hR.c152) rfl) rfl))) ?_
      rw [((Eq.trans (vr_cut_k _ _ _ _ 10 (by decide) (by decide)) hu) : ((vr_cut I (fun y => I 155 (144 * p + y)) (w * h) k).1) 152 10 = nI u)]
      refine vm_J.go vm_q210 (k := 2) (hs := []) (f' := (74, (0, 0), [.ref 152, .int (nI p), .int (nI k), .int x, .int 1, .int (nI t)], [.int ((nI u) + 1), .ref 152])) (h' := (G, ((vr_cut I (fun y => I 155 (144 * p + y)) (w * h) k).1), F)) (hs' := []) rfl rfl ?_
      rw [((vm_pa (rfl : (nI u : Int32) = nI u) (rfl : (1 : Int32) = nI 1)) : (nI u) + 1 = nI (u + 1))]
      refine vm_J.go vm_q210 (k := 5) (hs := [vm_shR]) (f' := (118, (0, 0), [.ref 152, .int (nI p), .int (nI k), .int x, .int 1, .int (nI t)], [.int (nI t), .ref 152])) (h' := (G, (vm_up ((vr_cut I (fun y => I 155 (144 * p + y)) (w * h) k).1) 152 10 (nI (u + 1))), F)) (hs' := []) rfl (vm_b2 (vm_b2 (vm_b2 (vm_hG hR.c152) rfl) rfl) (vm_b2 rfl (vm_b2 rfl (vm_b2 rfl (vm_b2 rfl rfl))))) ?_
      refine vm_J.call vm_q210 (Z := vm_M209) (n := 1) (k := 0) (mi := 209) (pc := 118) (en := (118, .invokevirtual 252, 3, [209, 1438, 0], .null)) rfl trivial rfl rfl vm_z209 (av := [.ref 152, .int (nI t)]) (rest := []) (r_coloursOf (n := (vr_gth I (fun y => I 155 (144 * p + y)) (w * h)).2) (x := nI t) hR (Eq.trans (vm_up_k2 _ 152 10 _ 14 (by decide)) hib.1.1) (by omega)) ⟨_, _, rfl, rfl, _, 11, _, hR.c152, rfl, rfl, rfl⟩ (Nat.le_of_ble_eq_true rfl) ⟨Nat.le_of_ble_eq_true rfl, Nat.le_of_ble_eq_true rfl⟩ ⟨Nat.le_of_ble_eq_true rfl, Nat.le_of_ble_eq_true rfl⟩ ?_
      rw [((vm_up_f _ 152 _ _ 161 (by decide)) : (vm_up ((vr_cut I (fun y => I 155 (144 * p + y)) (w * h) k).1) 152 10 (nI (u + 1))) 161 = ((vr_cut I (fun y => I 155 (144 * p + y)) (w * h) k).1) 161)]
      show vm_J _ _ _ (121, (0, 0), [.ref 152, .int (nI p), .int (nI k), .int x, .int 1, .int (nI t)], [.int (vr_co (((vr_cut I (fun y => I 155 (144 * p + y)) (w * h) k).1) 161) ((vr_gth I (fun y => I 155 (144 * p + y)) (w * h)).2) (nI t))]) (G, (vm_up ((vr_cut I (fun y => I 155 (144 * p + y)) (w * h) k).1) 152 10 (nI (u + 1))), F) _ _
      exact vm_J.end vm_q210 (en := (121, .ireturn, 1, [], .null)) rfl rfl vm_rI (Nat.zero_le _) (Nat.zero_le _) rfl
    · have c2 := vm_ge_f (a := t) (b := 0) (by omega) (by omega) c2
      exact (show False by omega).elim
  · have c1 := vm_ne_f (a := u) (b := 6000) (by omega) (by omega) c1
    exact (show False by omega).elim
set_option maxHeartbeats 4000000 in
set_option maxRecDepth 20000 in
/-- DitherDeskModel.box -/
theorem r_box_2 {l : Launch} {X : vm_Cx} {G : List vm_Sh} {I : Nat → Nat → Int32} {F : Nat → Nat → UInt32} {p : Nat} {w : Nat} {h : Nat} {k : Nat} {u : Nat} {x : Int32} (hR : vm_isR G) (hw : I 153 p = nI w) (hh : I 154 p = nI h) (hp : p < 4) (hw2 : w ≤ 12) (hh2 : h ≤ 12) (hw0 : 0 < w) (hh0 : 0 < h) (hk1 : 0 < k) (hk2 : k ≤ 16) (hu : I 152 10 = nI u) (hv : u < 6000) (hbx : (vr_ba (((vr_cut I (fun y => I 155 (144 * p + y)) (w * h) k).1) 161) (vr_gth I (fun y => I 155 (144 * p + y)) (w * h)).2 (vr_cut I (fun y => I 155 (144 * p + y)) (w * h) k).2 x) < (vr_cut I (fun y => I 155 (144 * p + y)) (w * h) k).2) (hpx : 0 < vr_px (((vr_cut I (fun y => I 155 (144 * p + y)) (w * h) k).1) 161) (((vr_cut I (fun y => I 155 (144 * p + y)) (w * h) k).1) 160) (vr_gth I (fun y => I 155 (144 * p + y)) (w * h)).2 (nI (vr_ba (((vr_cut I (fun y => I 155 (144 * p + y)) (w * h) k).1) 161) (vr_gth I (fun y => I 155 (144 * p + y)) (w * h)).2 (vr_cut I (fun y => I 155 (144 * p + y)) (w * h) k).2 x))) : vm_K l X vm_M210 [.ref 152, .int (nI p), .int (nI k), .int x, .int 2] (G, I, F) (some (.int (vr_cm (((vr_cut I (fun y => I 155 (144 * p + y)) (w * h) k).1) 159) (((vr_cut I (fun y => I 155 (144 * p + y)) (w * h) k).1) 161) (((vr_cut I (fun y => I 155 (144 * p + y)) (w * h) k).1) 160) (vr_gth I (fun y => I 155 (144 * p + y)) (w * h)).2 (nI (vr_ba (((vr_cut I (fun y => I 155 (144 * p + y)) (w * h) k).1) 161) (vr_gth I (fun y => I 155 (144 * p + y)) (w * h)).2 (vr_cut I (fun y => I 155 (144 * p + y)) (w * h) k).2 x)) 3))) (G, (vm_up ((vr_cut I (fun y => I 155 (144 * p + y)) (w * h) k).1) 152 10 (nI (u + 1))), F) := by
  refine vm_K.mk (by decide) (Nat.le_of_ble_eq_true rfl) ?_
  have hwh := vm_mul144 hw2 hh2
  have hwh := vm_mul144 hw2 hh2
  have hgn2 : (vr_gth I (fun y => I 155 (144 * p + y)) (w * h)).2 ≤ 144 := Nat.le_trans (vr_gth_n I (fun y => I 155 (144 * p + y)) (w * h)).2 hwh
  have hib := vr_cut_ib (I := I) (f := (fun y => I 155 (144 * p + y))) (k := k) (Nat.mul_pos hw0 hh0) hk1 hk2
  show vm_J _ _ _ (0, (0, 0), [.ref 152, .int (nI p), .int (nI k), .int x, .int 2, .retAddr 0], []) _ _ _
  refine vm_J.go vm_q210 (k := 2) (hs := []) (f' := (2, (0, 0), [.ref 152, .int (nI p), .int (nI k), .int x, .int 2, .retAddr 0], [.int (nI p), .ref 152])) (h' := (G, I, F)) (hs' := []) rfl rfl ?_
  refine vm_J.call vm_q210 (Z := vm_M172) (n := 1) (k := 0) (mi := 172) (pc := 2) (en := (2, .invokevirtual 156, 3, [172, 1313, 0], .null)) rfl trivial rfl rfl vm_z172 (av := [.ref 152, .int (nI p)]) (rest := []) (r_isPic_y (p := p) (w := w) hR (by omega) hw (by omega) (by omega)) ⟨_, _, rfl, rfl, _, 11, _, hR.c152, rfl, rfl, rfl⟩ (Nat.le_of_ble_eq_true rfl) ⟨Nat.le_of_ble_eq_true rfl, Nat.le_of_ble_eq_true rfl⟩ ⟨Nat.le_of_ble_eq_true rfl, Nat.le_of_ble_eq_true rfl⟩ ?_
  show vm_J _ _ _ (5, (0, 0), [.ref 152, .int (nI p), .int (nI k), .int x, .int 2, .retAddr 0], [.int 1]) (G, I, F) _ _
  refine vm_J.go vm_q210 (k := 1) (hs := []) (f' := (bif vm_ic .eq 1 0 then 18 else 8, (0, 0), [.ref 152, .int (nI p), .int (nI k), .int x, .int 2, .retAddr 0], [])) (h' := (G, I, F)) (hs' := []) rfl rfl ?_
  refine vm_J.bF (by decide) ?_
  refine vm_J.go vm_q210 (k := 3) (hs := []) (f' := (12, (0, 0), [.ref 152, .int (nI p), .int (nI k), .int x, .int 2, .retAddr 0], [.int 4, .int 0, .int 2])) (h' := (G, I, F)) (hs' := []) rfl rfl ?_
  refine vm_J.call vm_q210 (Z := vm_M168) (n := 3) (k := 1) (mi := 168) (pc := 12) (en := (12, .invokestatic 141, 3, [168, 1302, 0], .null)) rfl trivial rfl rfl vm_z168 (av := [.int 2, .int 0, .int 4]) (rest := []) (r_isIn_y (v := 2) (a := 0) (b := 4) (by decide)) rfl (Nat.le_of_ble_eq_true rfl) ⟨Nat.le_of_ble_eq_true rfl, Nat.le_of_ble_eq_true rfl⟩ ⟨Nat.le_of_ble_eq_true rfl, Nat.le_of_ble_eq_true rfl⟩ ?_
  show vm_J _ _ _ (15, (0, 0), [.ref 152, .int (nI p), .int (nI k), .int x, .int 2, .retAddr 0], [.int 1]) (G, I, F) _ _
  refine vm_J.go vm_q210 (k := 1) (hs := []) (f' := (bif vm_ic .ne 1 0 then 20 else 18, (0, 0), [.ref 152, .int (nI p), .int (nI k), .int x, .int 2, .retAddr 0], [])) (h' := (G, I, F)) (hs' := []) rfl rfl ?_
  refine vm_J.bT (by decide) ?_
  refine vm_J.go vm_q210 (k := 3) (hs := []) (f' := (24, (0, 0), [.ref 152, .int (nI p), .int (nI k), .int x, .int 2, .retAddr 0], [.int 16, .int 1, .int (nI k)])) (h' := (G, I, F)) (hs' := []) rfl rfl ?_
  refine vm_J.call vm_q210 (Z := vm_M168) (n := 3) (k := 1) (mi := 168) (pc := 24) (en := (24, .invokestatic 141, 3, [168, 1302, 0], .null)) rfl trivial rfl rfl vm_z168 (av := [.int (nI k), .int 1, .int 16]) (rest := []) (r_isIn_y (v := nI k) (a := 1) (b := 16) (vm_bp1 (m := 16) hk1 hk2 rfl (by decide))) rfl (Nat.le_of_ble_eq_true rfl) ⟨Nat.le_of_ble_eq_true rfl, Nat.le_of_ble_eq_true rfl⟩ ⟨Nat.le_of_ble_eq_true rfl, Nat.le_of_ble_eq_true rfl⟩ ?_
  show vm_J _ _ _ (27, (0, 0), [.ref 152, .int (nI p), .int (nI k), .int x, .int 2, .retAddr 0], [.int 1]) (G, I, F) _ _
  refine vm_J.go vm_q210 (k := 1) (hs := []) (f' := (bif vm_ic .ne 1 0 then 33 else 30, (0, 0), [.ref 152, .int (nI p), .int (nI k), .int x, .int 2, .retAddr 0], [])) (h' := (G, I, F)) (hs' := []) rfl rfl ?_
  refine vm_J.bT (by decide) ?_
  refine vm_J.go vm_q210 (k := 2) (hs := [vm_shR]) (f' := (37, (0, 0), [.ref 152, .int (nI p), .int (nI k), .int x, .int 2, .retAddr 0], [.int (I 152 10)])) (h' := (G, I, F)) (hs' := []) rfl (vm_b2 rfl (vm_b2 (vm_b2 (vm_hG hR.c152) rfl) rfl)) ?_
  rw [(hu : I 152 10 = nI u)]
  refine vm_J.go vm_q210 (k := 2) (hs := []) (f' := (bif vm_ic .ne (nI u) 6000 then 46 else 43, (0, 0), [.ref 152, .int (nI p), .int (nI k), .int x, .int 2, .retAddr 0], [])) (h' := (G, I, F)) (hs' := []) rfl rfl ?_
  refine vm_J.br (fun c1 => ?_) (fun c1 => ?_)
  · have c1 := vm_ne_t (a := u) (b := 6000) (by omega) (by omega) c1
    refine vm_J.go vm_q210 (k := 3) (hs := []) (f' := (49, (0, 0), [.ref 152, .int (nI p), .int (nI k), .int x, .int 2, .retAddr 0], [.int (nI k), .int (nI p), .ref 152])) (h' := (G, I, F)) (hs' := []) rfl rfl ?_
    refine vm_J.call vm_q210 (Z := vm_M205) (n := 2) (k := 0) (mi := 205) (pc := 49) (en := (49, .invokevirtual 245, 3, [205, 1394, 0], .null)) rfl trivial rfl rfl vm_z205 (av := [.ref 152, .int (nI p), .int (nI k)]) (rest := []) (r_cutsInto (p := p) (w := w) (h := h) (k := k) hR hw hh (by omega) (by omega) (by omega) (by omega) (by omega) (by omega) (by omega)) ⟨_, _, rfl, rfl, _, 11, _, hR.c152, rfl, rfl, rfl⟩ (Nat.le_of_ble_eq_true rfl) ⟨Nat.le_of_ble_eq_true rfl, Nat.le_of_ble_eq_true rfl⟩ ⟨Nat.le_of_ble_eq_true rfl, Nat.le_of_ble_eq_true rfl⟩ ?_
    show vm_J _ _ _ (52, (0, 0), [.ref 152, .int (nI p), .int (nI k), .int x, .int 2, .retAddr 0], []) (G, ((vr_cut I (fun y => I 155 (144 * p + y)) (w * h) k).1), F) _ _
    refine vm_J.go vm_q210 (k := 2) (hs := []) (f' := (54, (0, 0), [.ref 152, .int (nI p), .int (nI k), .int x, .int 2, .retAddr 0], [.int x, .ref 152])) (h' := (G, ((vr_cut I (fun y => I 155 (144 * p + y)) (w * h) k).1), F)) (hs' := []) rfl rfl ?_
    refine vm_J.call vm_q210 (Z := vm_M206) (n := 1) (k := 0) (mi := 206) (pc := 54) (en := (54, .invokevirtual 249, 3, [206, 1434, 0], .null)) rfl trivial rfl rfl vm_z206 (av := [.ref 152, .int x]) (rest := []) (r_boxAt (n := (vr_gth I (fun y => I 155 (144 * p + y)) (w * h)).2) (nb := (vr_cut I (fun y => I 155 (144 * p + y)) (w * h) k).2) (i := x) hR hgn2 hib.1.2.1 (by omega) hib.1.2.2) ⟨_, _, rfl, rfl, _, 11, _, hR.c152, rfl, rfl, rfl⟩ (Nat.le_of_ble_eq_true rfl) ⟨Nat.le_of_ble_eq_true rfl, Nat.le_of_ble_eq_true rfl⟩ ⟨Nat.le_of_ble_eq_true rfl, Nat.le_of_ble_eq_true rfl⟩ ?_
    show vm_J _ _ _ (57, (0, 0), [.ref 152, .int (nI p), .int (nI k), .int x, .int 2, .retAddr 0], [.int (if (vr_ba (((vr_cut I (fun y => I 155 (144 * p + y)) (w * h) k).1) 161) (vr_gth I (fun y => I 155 (144 * p + y)) (w * h)).2 (vr_cut I (fun y => I 155 (144 * p + y)) (w * h) k).2 x) < (vr_cut I (fun y => I 155 (144 * p + y)) (w * h) k).2 then nI (vr_ba (((vr_cut I (fun y => I 155 (144 * p + y)) (w * h) k).1) 161) (vr_gth I (fun y => I 155 (144 * p + y)) (w * h)).2 (vr_cut I (fun y => I 155 (144 * p + y)) (w * h) k).2 x) else -1)]) (G, ((vr_cut I (fun y => I 155 (144 * p + y)) (w * h) k).1), F) _ _
    rw [if_pos hbx]
    obtain ⟨t, et⟩ : ∃ t, (vr_ba (((vr_cut I (fun y => I 155 (144 * p + y)) (w * h) k).1) 161) (vr_gth I (fun y => I 155 (144 * p + y)) (w * h)).2 (vr_cut I (fun y => I 155 (144 * p + y)) (w * h) k).2 x) = t := ⟨_, rfl⟩
    rw [et] at hbx ⊢
    have hft := hib.1.2.2 t hbx
    rw [et] at hpx
    show vm_J _ _ _ (57, (0, 0), [.ref 152, .int (nI p), .int (nI k), .int x, .int 2, .retAddr 0], [.int (nI t)]) (G, ((vr_cut I (fun y => I 155 (144 * p + y)) (w * h) k).1), F) _ _
    refine vm_J.go vm_q210 (k := 3) (hs := []) (f' := (bif vm_ic .ge (nI t) 0 then 67 else 64, (0, 0), [.ref 152, .int (nI p), .int (nI k), .int x, .int 2, .int (nI t)], [])) (h' := (G, ((vr_cut I (fun y => I 155 (144 * p + y)) (w * h) k).1), F)) (hs' := []) rfl rfl ?_
    refine vm_J.br (fun c2 => ?_) (fun c2 => ?_)
    · have c2 := vm_ge_t (a := t) (b := 0) (by omega) (by omega) c2
      refine vm_J.go vm_q210 (k := 3) (hs := [vm_shR]) (f' := (72, (0, 0), [.ref 152, .int (nI p), .int (nI k), .int x, .int 2, .int (nI t)], [.int (((vr_cut I (fun y => I 155 (144 * p + y)) (w * h) k).1) 152 10), .ref 152])) (h' := (G, ((vr_cut I (fun y => I 155 (144 * p + y)) (w * h) k).1), F)) (hs' := []) rfl (vm_b2 rfl (vm_b2 rfl (vm_b2 (vm_b2 (vm_hG hR.c152) rfl) rfl))) ?_
      rw [((Eq.trans (vr_cut_k _ _ _ _ 10 (by decide) (by decide)) hu) : ((vr_cut I (fun y => I 155 (144 * p + y)) (w * h) k).1) 152 10 = nI u)]
      refine vm_J.go vm_q210 (k := 2) (hs := []) (f' := (74, (0, 0), [.ref 152, .int (nI p), .int (nI k), .int x, .int 2, .int (nI t)], [.int ((nI u) + 1), .ref 152])) (h' := (G, ((vr_cut I (fun y => I 155 (144 * p + y)) (w * h) k).1), F)) (hs' := []) rfl rfl ?_
      rw [((vm_pa (rfl : (nI u : Int32) = nI u) (rfl : (1 : Int32) = nI 1)) : (nI u) + 1 = nI (u + 1))]
      refine vm_J.go vm_q210 (k := 5) (hs := [vm_shR]) (f' := (125, (0, 0), [.ref 152, .int (nI p), .int (nI k), .int x, .int 2, .int (nI t)], [.int (nI t), .ref 152])) (h' := (G, (vm_up ((vr_cut I (fun y => I 155 (144 * p + y)) (w * h) k).1) 152 10 (nI (u + 1))), F)) (hs' := []) rfl (vm_b2 (vm_b2 (vm_b2 (vm_hG hR.c152) rfl) rfl) (vm_b2 rfl (vm_b2 rfl (vm_b2 rfl (vm_b2 rfl rfl))))) ?_
      refine vm_J.call vm_q210 (Z := vm_M208) (n := 1) (k := 0) (mi := 208) (pc := 125) (en := (125, .invokevirtual 255, 3, [208, 1442, 0], .null)) rfl trivial rfl rfl vm_z208 (av := [.ref 152, .int (nI t)]) (rest := []) (r_bmean (n := (vr_gth I (fun y => I 155 (144 * p + y)) (w * h)).2) (x := nI t) hR (Eq.trans (vm_up_k2 _ 152 10 _ 14 (by decide)) hib.1.1) (by omega) (show 0 < vr_px ((vm_up ((vr_cut I (fun y => I 155 (144 * p + y)) (w * h) k).1) 152 10 (nI (u + 1))) 161) ((vm_up ((vr_cut I (fun y => I 155 (144 * p + y)) (w * h) k).1) 152 10 (nI (u + 1))) 160) _ _ from by rw [(vm_up_f _ 152 _ _ 161 (by decide)), (vm_up_f _ 152 _ _ 160 (by decide))]; exact hpx)) ⟨_, _, rfl, rfl, _, 11, _, hR.c152, rfl, rfl, rfl⟩ (Nat.le_of_ble_eq_true rfl) ⟨Nat.le_of_ble_eq_true rfl, Nat.le_of_ble_eq_true rfl⟩ ⟨Nat.le_of_ble_eq_true rfl, Nat.le_of_ble_eq_true rfl⟩ ?_
      rw [((vm_up_f _ 152 _ _ 159 (by decide)) : (vm_up ((vr_cut I (fun y => I 155 (144 * p + y)) (w * h) k).1) 152 10 (nI (u + 1))) 159 = ((vr_cut I (fun y => I 155 (144 * p + y)) (w * h) k).1) 159)]
      rw [((vm_up_f _ 152 _ _ 160 (by decide)) : (vm_up ((vr_cut I (fun y => I 155 (144 * p + y)) (w * h) k).1) 152 10 (nI (u + 1))) 160 = ((vr_cut I (fun y => I 155 (144 * p + y)) (w * h) k).1) 160)]
      rw [((vm_up_f _ 152 _ _ 161 (by decide)) : (vm_up ((vr_cut I (fun y => I 155 (144 * p + y)) (w * h) k).1) 152 10 (nI (u + 1))) 161 = ((vr_cut I (fun y => I 155 (144 * p + y)) (w * h) k).1) 161)]
      show vm_J _ _ _ (128, (0, 0), [.ref 152, .int (nI p), .int (nI k), .int x, .int 2, .int (nI t)], [.int (vr_cm (((vr_cut I (fun y => I 155 (144 * p + y)) (w * h) k).1) 159) (((vr_cut I (fun y => I 155 (144 * p + y)) (w * h) k).1) 161) (((vr_cut I (fun y => I 155 (144 * p + y)) (w * h) k).1) 160) ((vr_gth I (fun y => I 155 (144 * p + y)) (w * h)).2) (nI t) 3)]) (G, (vm_up ((vr_cut I (fun y => I 155 (144 * p + y)) (w * h) k).1) 152 10 (nI (u + 1))), F) _ _
      exact vm_J.end vm_q210 (en := (128, .ireturn, 1, [], .null)) rfl rfl vm_rI (Nat.zero_le _) (Nat.zero_le _) rfl
    · have c2 := vm_ge_f (a := t) (b := 0) (by omega) (by omega) c2
      exact (show False by omega).elim
  · have c1 := vm_ne_f (a := u) (b := 6000) (by omega) (by omega) c1
    exact (show False by omega).elim
set_option maxHeartbeats 4000000 in
set_option maxRecDepth 20000 in
/-- DitherDeskModel.box -/
theorem r_box_3 {l : Launch} {X : vm_Cx} {G : List vm_Sh} {I : Nat → Nat → Int32} {F : Nat → Nat → UInt32} {p : Nat} {w : Nat} {h : Nat} {k : Nat} {u : Nat} {x : Int32} (hR : vm_isR G) (hw : I 153 p = nI w) (hh : I 154 p = nI h) (hp : p < 4) (hw2 : w ≤ 12) (hh2 : h ≤ 12) (hw0 : 0 < w) (hh0 : 0 < h) (hk1 : 0 < k) (hk2 : k ≤ 16) (hu : I 152 10 = nI u) (hv : u < 6000) (hbx : (vr_ba (((vr_cut I (fun y => I 155 (144 * p + y)) (w * h) k).1) 161) (vr_gth I (fun y => I 155 (144 * p + y)) (w * h)).2 (vr_cut I (fun y => I 155 (144 * p + y)) (w * h) k).2 x) < (vr_cut I (fun y => I 155 (144 * p + y)) (w * h) k).2) : vm_K l X vm_M210 [.ref 152, .int (nI p), .int (nI k), .int x, .int 3] (G, I, F) (some (.int (vr_so (((vr_cut I (fun y => I 155 (144 * p + y)) (w * h) k).1) 159) (((vr_cut I (fun y => I 155 (144 * p + y)) (w * h) k).1) 161) (vr_gth I (fun y => I 155 (144 * p + y)) (w * h)).2 (nI (vr_ba (((vr_cut I (fun y => I 155 (144 * p + y)) (w * h) k).1) 161) (vr_gth I (fun y => I 155 (144 * p + y)) (w * h)).2 (vr_cut I (fun y => I 155 (144 * p + y)) (w * h) k).2 x))))) (G, (vm_up ((vr_cut I (fun y => I 155 (144 * p + y)) (w * h) k).1) 152 10 (nI (u + 1))), F) := by
  refine vm_K.mk (by decide) (Nat.le_of_ble_eq_true rfl) ?_
  have hwh := vm_mul144 hw2 hh2
  have hwh := vm_mul144 hw2 hh2
  have hgn2 : (vr_gth I (fun y => I 155 (144 * p + y)) (w * h)).2 ≤ 144 := Nat.le_trans (vr_gth_n I (fun y => I 155 (144 * p + y)) (w * h)).2 hwh
  have hib := vr_cut_ib (I := I) (f := (fun y => I 155 (144 * p + y))) (k := k) (Nat.mul_pos hw0 hh0) hk1 hk2
  show vm_J _ _ _ (0, (0, 0), [.ref 152, .int (nI p), .int (nI k), .int x, .int 3, .retAddr 0], []) _ _ _
  refine vm_J.go vm_q210 (k := 2) (hs := []) (f' := (2, (0, 0), [.ref 152, .int (nI p), .int (nI k), .int x, .int 3, .retAddr 0], [.int (nI p), .ref 152])) (h' := (G, I, F)) (hs' := []) rfl rfl ?_
  refine vm_J.call vm_q210 (Z := vm_M172) (n := 1) (k := 0) (mi := 172) (pc := 2) (en := (2, .invokevirtual 156, 3, [172, 1313, 0], .null)) rfl trivial rfl rfl vm_z172 (av := [.ref 152, .int (nI p)]) (rest := []) (r_isPic_y (p := p) (w := w) hR (by omega) hw (by omega) (by omega)) ⟨_, _, rfl, rfl, _, 11, _, hR.c152, rfl, rfl, rfl⟩ (Nat.le_of_ble_eq_true rfl) ⟨Nat.le_of_ble_eq_true rfl, Nat.le_of_ble_eq_true rfl⟩ ⟨Nat.le_of_ble_eq_true rfl, Nat.le_of_ble_eq_true rfl⟩ ?_
  show vm_J _ _ _ (5, (0, 0), [.ref 152, .int (nI p), .int (nI k), .int x, .int 3, .retAddr 0], [.int 1]) (G, I, F) _ _
  refine vm_J.go vm_q210 (k := 1) (hs := []) (f' := (bif vm_ic .eq 1 0 then 18 else 8, (0, 0), [.ref 152, .int (nI p), .int (nI k), .int x, .int 3, .retAddr 0], [])) (h' := (G, I, F)) (hs' := []) rfl rfl ?_
  refine vm_J.bF (by decide) ?_
  refine vm_J.go vm_q210 (k := 3) (hs := []) (f' := (12, (0, 0), [.ref 152, .int (nI p), .int (nI k), .int x, .int 3, .retAddr 0], [.int 4, .int 0, .int 3])) (h' := (G, I, F)) (hs' := []) rfl rfl ?_
  refine vm_J.call vm_q210 (Z := vm_M168) (n := 3) (k := 1) (mi := 168) (pc := 12) (en := (12, .invokestatic 141, 3, [168, 1302, 0], .null)) rfl trivial rfl rfl vm_z168 (av := [.int 3, .int 0, .int 4]) (rest := []) (r_isIn_y (v := 3) (a := 0) (b := 4) (by decide)) rfl (Nat.le_of_ble_eq_true rfl) ⟨Nat.le_of_ble_eq_true rfl, Nat.le_of_ble_eq_true rfl⟩ ⟨Nat.le_of_ble_eq_true rfl, Nat.le_of_ble_eq_true rfl⟩ ?_
  show vm_J _ _ _ (15, (0, 0), [.ref 152, .int (nI p), .int (nI k), .int x, .int 3, .retAddr 0], [.int 1]) (G, I, F) _ _
  refine vm_J.go vm_q210 (k := 1) (hs := []) (f' := (bif vm_ic .ne 1 0 then 20 else 18, (0, 0), [.ref 152, .int (nI p), .int (nI k), .int x, .int 3, .retAddr 0], [])) (h' := (G, I, F)) (hs' := []) rfl rfl ?_
  refine vm_J.bT (by decide) ?_
  refine vm_J.go vm_q210 (k := 3) (hs := []) (f' := (24, (0, 0), [.ref 152, .int (nI p), .int (nI k), .int x, .int 3, .retAddr 0], [.int 16, .int 1, .int (nI k)])) (h' := (G, I, F)) (hs' := []) rfl rfl ?_
  refine vm_J.call vm_q210 (Z := vm_M168) (n := 3) (k := 1) (mi := 168) (pc := 24) (en := (24, .invokestatic 141, 3, [168, 1302, 0], .null)) rfl trivial rfl rfl vm_z168 (av := [.int (nI k), .int 1, .int 16]) (rest := []) (r_isIn_y (v := nI k) (a := 1) (b := 16) (vm_bp1 (m := 16) hk1 hk2 rfl (by decide))) rfl (Nat.le_of_ble_eq_true rfl) ⟨Nat.le_of_ble_eq_true rfl, Nat.le_of_ble_eq_true rfl⟩ ⟨Nat.le_of_ble_eq_true rfl, Nat.le_of_ble_eq_true rfl⟩ ?_
  show vm_J _ _ _ (27, (0, 0), [.ref 152, .int (nI p), .int (nI k), .int x, .int 3, .retAddr 0], [.int 1]) (G, I, F) _ _
  refine vm_J.go vm_q210 (k := 1) (hs := []) (f' := (bif vm_ic .ne 1 0 then 33 else 30, (0, 0), [.ref 152, .int (nI p), .int (nI k), .int x, .int 3, .retAddr 0], [])) (h' := (G, I, F)) (hs' := []) rfl rfl ?_
  refine vm_J.bT (by decide) ?_
  refine vm_J.go vm_q210 (k := 2) (hs := [vm_shR]) (f' := (37, (0, 0), [.ref 152, .int (nI p), .int (nI k), .int x, .int 3, .retAddr 0], [.int (I 152 10)])) (h' := (G, I, F)) (hs' := []) rfl (vm_b2 rfl (vm_b2 (vm_b2 (vm_hG hR.c152) rfl) rfl)) ?_
  rw [(hu : I 152 10 = nI u)]
  refine vm_J.go vm_q210 (k := 2) (hs := []) (f' := (bif vm_ic .ne (nI u) 6000 then 46 else 43, (0, 0), [.ref 152, .int (nI p), .int (nI k), .int x, .int 3, .retAddr 0], [])) (h' := (G, I, F)) (hs' := []) rfl rfl ?_
  refine vm_J.br (fun c1 => ?_) (fun c1 => ?_)
  · have c1 := vm_ne_t (a := u) (b := 6000) (by omega) (by omega) c1
    refine vm_J.go vm_q210 (k := 3) (hs := []) (f' := (49, (0, 0), [.ref 152, .int (nI p), .int (nI k), .int x, .int 3, .retAddr 0], [.int (nI k), .int (nI p), .ref 152])) (h' := (G, I, F)) (hs' := []) rfl rfl ?_
    refine vm_J.call vm_q210 (Z := vm_M205) (n := 2) (k := 0) (mi := 205) (pc := 49) (en := (49, .invokevirtual 245, 3, [205, 1394, 0], .null)) rfl trivial rfl rfl vm_z205 (av := [.ref 152, .int (nI p), .int (nI k)]) (rest := []) (r_cutsInto (p := p) (w := w) (h := h) (k := k) hR hw hh (by omega) (by omega) (by omega) (by omega) (by omega) (by omega) (by omega)) ⟨_, _, rfl, rfl, _, 11, _, hR.c152, rfl, rfl, rfl⟩ (Nat.le_of_ble_eq_true rfl) ⟨Nat.le_of_ble_eq_true rfl, Nat.le_of_ble_eq_true rfl⟩ ⟨Nat.le_of_ble_eq_true rfl, Nat.le_of_ble_eq_true rfl⟩ ?_
    show vm_J _ _ _ (52, (0, 0), [.ref 152, .int (nI p), .int (nI k), .int x, .int 3, .retAddr 0], []) (G, ((vr_cut I (fun y => I 155 (144 * p + y)) (w * h) k).1), F) _ _
    refine vm_J.go vm_q210 (k := 2) (hs := []) (f' := (54, (0, 0), [.ref 152, .int (nI p), .int (nI k), .int x, .int 3, .retAddr 0], [.int x, .ref 152])) (h' := (G, ((vr_cut I (fun y => I 155 (144 * p + y)) (w * h) k).1), F)) (hs' := []) rfl rfl ?_
    refine vm_J.call vm_q210 (Z := vm_M206) (n := 1) (k := 0) (mi := 206) (pc := 54) (en := (54, .invokevirtual 249, 3, [206, 1434, 0], .null)) rfl trivial rfl rfl vm_z206 (av := [.ref 152, .int x]) (rest := []) (r_boxAt (n := (vr_gth I (fun y => I 155 (144 * p + y)) (w * h)).2) (nb := (vr_cut I (fun y => I 155 (144 * p + y)) (w * h) k).2) (i := x) hR hgn2 hib.1.2.1 (by omega) hib.1.2.2) ⟨_, _, rfl, rfl, _, 11, _, hR.c152, rfl, rfl, rfl⟩ (Nat.le_of_ble_eq_true rfl) ⟨Nat.le_of_ble_eq_true rfl, Nat.le_of_ble_eq_true rfl⟩ ⟨Nat.le_of_ble_eq_true rfl, Nat.le_of_ble_eq_true rfl⟩ ?_
    show vm_J _ _ _ (57, (0, 0), [.ref 152, .int (nI p), .int (nI k), .int x, .int 3, .retAddr 0], [.int (if (vr_ba (((vr_cut I (fun y => I 155 (144 * p + y)) (w * h) k).1) 161) (vr_gth I (fun y => I 155 (144 * p + y)) (w * h)).2 (vr_cut I (fun y => I 155 (144 * p + y)) (w * h) k).2 x) < (vr_cut I (fun y => I 155 (144 * p + y)) (w * h) k).2 then nI (vr_ba (((vr_cut I (fun y => I 155 (144 * p + y)) (w * h) k).1) 161) (vr_gth I (fun y => I 155 (144 * p + y)) (w * h)).2 (vr_cut I (fun y => I 155 (144 * p + y)) (w * h) k).2 x) else -1)]) (G, ((vr_cut I (fun y => I 155 (144 * p + y)) (w * h) k).1), F) _ _
    rw [if_pos hbx]
    obtain ⟨t, et⟩ : ∃ t, (vr_ba (((vr_cut I (fun y => I 155 (144 * p + y)) (w * h) k).1) 161) (vr_gth I (fun y => I 155 (144 * p + y)) (w * h)).2 (vr_cut I (fun y => I 155 (144 * p + y)) (w * h) k).2 x) = t := ⟨_, rfl⟩
    rw [et] at hbx ⊢
    have hft := hib.1.2.2 t hbx
    show vm_J _ _ _ (57, (0, 0), [.ref 152, .int (nI p), .int (nI k), .int x, .int 3, .retAddr 0], [.int (nI t)]) (G, ((vr_cut I (fun y => I 155 (144 * p + y)) (w * h) k).1), F) _ _
    refine vm_J.go vm_q210 (k := 3) (hs := []) (f' := (bif vm_ic .ge (nI t) 0 then 67 else 64, (0, 0), [.ref 152, .int (nI p), .int (nI k), .int x, .int 3, .int (nI t)], [])) (h' := (G, ((vr_cut I (fun y => I 155 (144 * p + y)) (w * h) k).1), F)) (hs' := []) rfl rfl ?_
    refine vm_J.br (fun c2 => ?_) (fun c2 => ?_)
    · have c2 := vm_ge_t (a := t) (b := 0) (by omega) (by omega) c2
      refine vm_J.go vm_q210 (k := 3) (hs := [vm_shR]) (f' := (72, (0, 0), [.ref 152, .int (nI p), .int (nI k), .int x, .int 3, .int (nI t)], [.int (((vr_cut I (fun y => I 155 (144 * p + y)) (w * h) k).1) 152 10), .ref 152])) (h' := (G, ((vr_cut I (fun y => I 155 (144 * p + y)) (w * h) k).1), F)) (hs' := []) rfl (vm_b2 rfl (vm_b2 rfl (vm_b2 (vm_b2 (vm_hG hR.c152) rfl) rfl))) ?_
      rw [((Eq.trans (vr_cut_k _ _ _ _ 10 (by decide) (by decide)) hu) : ((vr_cut I (fun y => I 155 (144 * p + y)) (w * h) k).1) 152 10 = nI u)]
      refine vm_J.go vm_q210 (k := 2) (hs := []) (f' := (74, (0, 0), [.ref 152, .int (nI p), .int (nI k), .int x, .int 3, .int (nI t)], [.int ((nI u) + 1), .ref 152])) (h' := (G, ((vr_cut I (fun y => I 155 (144 * p + y)) (w * h) k).1), F)) (hs' := []) rfl rfl ?_
      rw [((vm_pa (rfl : (nI u : Int32) = nI u) (rfl : (1 : Int32) = nI 1)) : (nI u) + 1 = nI (u + 1))]
      refine vm_J.go vm_q210 (k := 5) (hs := [vm_shR]) (f' := (132, (0, 0), [.ref 152, .int (nI p), .int (nI k), .int x, .int 3, .int (nI t)], [.int (nI t), .ref 152])) (h' := (G, (vm_up ((vr_cut I (fun y => I 155 (144 * p + y)) (w * h) k).1) 152 10 (nI (u + 1))), F)) (hs' := []) rfl (vm_b2 (vm_b2 (vm_b2 (vm_hG hR.c152) rfl) rfl) (vm_b2 rfl (vm_b2 rfl (vm_b2 rfl (vm_b2 rfl rfl))))) ?_
      refine vm_J.call vm_q210 (Z := vm_M198) (n := 1) (k := 0) (mi := 198) (pc := 132) (en := (132, .invokevirtual 217, 3, [198, 1406, 0], .null)) rfl trivial rfl rfl vm_z198 (av := [.ref 152, .int (nI t)]) (rest := []) (r_spanOf (n := (vr_gth I (fun y => I 155 (144 * p + y)) (w * h)).2) (x := nI t) hR (Eq.trans (vm_up_k2 _ 152 10 _ 14 (by decide)) hib.1.1) (by omega)) ⟨_, _, rfl, rfl, _, 11, _, hR.c152, rfl, rfl, rfl⟩ (Nat.le_of_ble_eq_true rfl) ⟨Nat.le_of_ble_eq_true rfl, Nat.le_of_ble_eq_true rfl⟩ ⟨Nat.le_of_ble_eq_true rfl, Nat.le_of_ble_eq_true rfl⟩ ?_
      rw [((vm_up_f _ 152 _ _ 159 (by decide)) : (vm_up ((vr_cut I (fun y => I 155 (144 * p + y)) (w * h) k).1) 152 10 (nI (u + 1))) 159 = ((vr_cut I (fun y => I 155 (144 * p + y)) (w * h) k).1) 159)]
      rw [((vm_up_f _ 152 _ _ 161 (by decide)) : (vm_up ((vr_cut I (fun y => I 155 (144 * p + y)) (w * h) k).1) 152 10 (nI (u + 1))) 161 = ((vr_cut I (fun y => I 155 (144 * p + y)) (w * h) k).1) 161)]
      show vm_J _ _ _ (135, (0, 0), [.ref 152, .int (nI p), .int (nI k), .int x, .int 3, .int (nI t)], [.int (vr_so (((vr_cut I (fun y => I 155 (144 * p + y)) (w * h) k).1) 159) (((vr_cut I (fun y => I 155 (144 * p + y)) (w * h) k).1) 161) ((vr_gth I (fun y => I 155 (144 * p + y)) (w * h)).2) (nI t))]) (G, (vm_up ((vr_cut I (fun y => I 155 (144 * p + y)) (w * h) k).1) 152 10 (nI (u + 1))), F) _ _
      exact vm_J.end vm_q210 (en := (135, .ireturn, 1, [], .null)) rfl rfl vm_rI (Nat.zero_le _) (Nat.zero_le _) rfl
    · have c2 := vm_ge_f (a := t) (b := 0) (by omega) (by omega) c2
      exact (show False by omega).elim
  · have c1 := vm_ne_f (a := u) (b := 6000) (by omega) (by omega) c1
    exact (show False by omega).elim
set_option maxHeartbeats 4000000 in
set_option maxRecDepth 20000 in
/-- DitherDeskModel.box -/
theorem r_box_4 {l : Launch} {X : vm_Cx} {G : List vm_Sh} {I : Nat → Nat → Int32} {F : Nat → Nat → UInt32} {p : Nat} {w : Nat} {h : Nat} {k : Nat} {u : Nat} {x : Int32} (hR : vm_isR G) (hw : I 153 p = nI w) (hh : I 154 p = nI h) (hp : p < 4) (hw2 : w ≤ 12) (hh2 : h ≤ 12) (hw0 : 0 < w) (hh0 : 0 < h) (hk1 : 0 < k) (hk2 : k ≤ 16) (hu : I 152 10 = nI u) (hv : u < 6000) (hbx : (vr_ba (((vr_cut I (fun y => I 155 (144 * p + y)) (w * h) k).1) 161) (vr_gth I (fun y => I 155 (144 * p + y)) (w * h)).2 (vr_cut I (fun y => I 155 (144 * p + y)) (w * h) k).2 x) < (vr_cut I (fun y => I 155 (144 * p + y)) (w * h) k).2) : vm_K l X vm_M210 [.ref 152, .int (nI p), .int (nI k), .int x, .int 4] (G, I, F) (some (.int (((vr_cut I (fun y => I 155 (144 * p + y)) (w * h) k).1) 159 (vr_fi (((vr_cut I (fun y => I 155 (144 * p + y)) (w * h) k).1) 161) (vr_gth I (fun y => I 155 (144 * p + y)) (w * h)).2 (nI (vr_ba (((vr_cut I (fun y => I 155 (144 * p + y)) (w * h) k).1) 161) (vr_gth I (fun y => I 155 (144 * p + y)) (w * h)).2 (vr_cut I (fun y => I 155 (144 * p + y)) (w * h) k).2 x)))))) (G, (vm_up ((vr_cut I (fun y => I 155 (144 * p + y)) (w * h) k).1) 152 10 (nI (u + 1))), F) := by
  refine vm_K.mk (by decide) (Nat.le_of_ble_eq_true rfl) ?_
  have hwh := vm_mul144 hw2 hh2
  have hwh := vm_mul144 hw2 hh2
  have hgn2 : (vr_gth I (fun y => I 155 (144 * p + y)) (w * h)).2 ≤ 144 := Nat.le_trans (vr_gth_n I (fun y => I 155 (144 * p + y)) (w * h)).2 hwh
  have hib := vr_cut_ib (I := I) (f := (fun y => I 155 (144 * p + y))) (k := k) (Nat.mul_pos hw0 hh0) hk1 hk2
  show vm_J _ _ _ (0, (0, 0), [.ref 152, .int (nI p), .int (nI k), .int x, .int 4, .retAddr 0], []) _ _ _
  refine vm_J.go vm_q210 (k := 2) (hs := []) (f' := (2, (0, 0), [.ref 152, .int (nI p), .int (nI k), .int x, .int 4, .retAddr 0], [.int (nI p), .ref 152])) (h' := (G, I, F)) (hs' := []) rfl rfl ?_
  refine vm_J.call vm_q210 (Z := vm_M172) (n := 1) (k := 0) (mi := 172) (pc := 2) (en := (2, .invokevirtual 156, 3, [172, 1313, 0], .null)) rfl trivial rfl rfl vm_z172 (av := [.ref 152, .int (nI p)]) (rest := []) (r_isPic_y (p := p) (w := w) hR (by omega) hw (by omega) (by omega)) ⟨_, _, rfl, rfl, _, 11, _, hR.c152, rfl, rfl, rfl⟩ (Nat.le_of_ble_eq_true rfl) ⟨Nat.le_of_ble_eq_true rfl, Nat.le_of_ble_eq_true rfl⟩ ⟨Nat.le_of_ble_eq_true rfl, Nat.le_of_ble_eq_true rfl⟩ ?_
  show vm_J _ _ _ (5, (0, 0), [.ref 152, .int (nI p), .int (nI k), .int x, .int 4, .retAddr 0], [.int 1]) (G, I, F) _ _
  refine vm_J.go vm_q210 (k := 1) (hs := []) (f' := (bif vm_ic .eq 1 0 then 18 else 8, (0, 0), [.ref 152, .int (nI p), .int (nI k), .int x, .int 4, .retAddr 0], [])) (h' := (G, I, F)) (hs' := []) rfl rfl ?_
  refine vm_J.bF (by decide) ?_
  refine vm_J.go vm_q210 (k := 3) (hs := []) (f' := (12, (0, 0), [.ref 152, .int (nI p), .int (nI k), .int x, .int 4, .retAddr 0], [.int 4, .int 0, .int 4])) (h' := (G, I, F)) (hs' := []) rfl rfl ?_
  refine vm_J.call vm_q210 (Z := vm_M168) (n := 3) (k := 1) (mi := 168) (pc := 12) (en := (12, .invokestatic 141, 3, [168, 1302, 0], .null)) rfl trivial rfl rfl vm_z168 (av := [.int 4, .int 0, .int 4]) (rest := []) (r_isIn_y (v := 4) (a := 0) (b := 4) (by decide)) rfl (Nat.le_of_ble_eq_true rfl) ⟨Nat.le_of_ble_eq_true rfl, Nat.le_of_ble_eq_true rfl⟩ ⟨Nat.le_of_ble_eq_true rfl, Nat.le_of_ble_eq_true rfl⟩ ?_
  show vm_J _ _ _ (15, (0, 0), [.ref 152, .int (nI p), .int (nI k), .int x, .int 4, .retAddr 0], [.int 1]) (G, I, F) _ _
  refine vm_J.go vm_q210 (k := 1) (hs := []) (f' := (bif vm_ic .ne 1 0 then 20 else 18, (0, 0), [.ref 152, .int (nI p), .int (nI k), .int x, .int 4, .retAddr 0], [])) (h' := (G, I, F)) (hs' := []) rfl rfl ?_
  refine vm_J.bT (by decide) ?_
  refine vm_J.go vm_q210 (k := 3) (hs := []) (f' := (24, (0, 0), [.ref 152, .int (nI p), .int (nI k), .int x, .int 4, .retAddr 0], [.int 16, .int 1, .int (nI k)])) (h' := (G, I, F)) (hs' := []) rfl rfl ?_
  refine vm_J.call vm_q210 (Z := vm_M168) (n := 3) (k := 1) (mi := 168) (pc := 24) (en := (24, .invokestatic 141, 3, [168, 1302, 0], .null)) rfl trivial rfl rfl vm_z168 (av := [.int (nI k), .int 1, .int 16]) (rest := []) (r_isIn_y (v := nI k) (a := 1) (b := 16) (vm_bp1 (m := 16) hk1 hk2 rfl (by decide))) rfl (Nat.le_of_ble_eq_true rfl) ⟨Nat.le_of_ble_eq_true rfl, Nat.le_of_ble_eq_true rfl⟩ ⟨Nat.le_of_ble_eq_true rfl, Nat.le_of_ble_eq_true rfl⟩ ?_
  show vm_J _ _ _ (27, (0, 0), [.ref 152, .int (nI p), .int (nI k), .int x, .int 4, .retAddr 0], [.int 1]) (G, I, F) _ _
  refine vm_J.go vm_q210 (k := 1) (hs := []) (f' := (bif vm_ic .ne 1 0 then 33 else 30, (0, 0), [.ref 152, .int (nI p), .int (nI k), .int x, .int 4, .retAddr 0], [])) (h' := (G, I, F)) (hs' := []) rfl rfl ?_
  refine vm_J.bT (by decide) ?_
  refine vm_J.go vm_q210 (k := 2) (hs := [vm_shR]) (f' := (37, (0, 0), [.ref 152, .int (nI p), .int (nI k), .int x, .int 4, .retAddr 0], [.int (I 152 10)])) (h' := (G, I, F)) (hs' := []) rfl (vm_b2 rfl (vm_b2 (vm_b2 (vm_hG hR.c152) rfl) rfl)) ?_
  rw [(hu : I 152 10 = nI u)]
  refine vm_J.go vm_q210 (k := 2) (hs := []) (f' := (bif vm_ic .ne (nI u) 6000 then 46 else 43, (0, 0), [.ref 152, .int (nI p), .int (nI k), .int x, .int 4, .retAddr 0], [])) (h' := (G, I, F)) (hs' := []) rfl rfl ?_
  refine vm_J.br (fun c1 => ?_) (fun c1 => ?_)
  · have c1 := vm_ne_t (a := u) (b := 6000) (by omega) (by omega) c1
    refine vm_J.go vm_q210 (k := 3) (hs := []) (f' := (49, (0, 0), [.ref 152, .int (nI p), .int (nI k), .int x, .int 4, .retAddr 0], [.int (nI k), .int (nI p), .ref 152])) (h' := (G, I, F)) (hs' := []) rfl rfl ?_
    refine vm_J.call vm_q210 (Z := vm_M205) (n := 2) (k := 0) (mi := 205) (pc := 49) (en := (49, .invokevirtual 245, 3, [205, 1394, 0], .null)) rfl trivial rfl rfl vm_z205 (av := [.ref 152, .int (nI p), .int (nI k)]) (rest := []) (r_cutsInto (p := p) (w := w) (h := h) (k := k) hR hw hh (by omega) (by omega) (by omega) (by omega) (by omega) (by omega) (by omega)) ⟨_, _, rfl, rfl, _, 11, _, hR.c152, rfl, rfl, rfl⟩ (Nat.le_of_ble_eq_true rfl) ⟨Nat.le_of_ble_eq_true rfl, Nat.le_of_ble_eq_true rfl⟩ ⟨Nat.le_of_ble_eq_true rfl, Nat.le_of_ble_eq_true rfl⟩ ?_
    show vm_J _ _ _ (52, (0, 0), [.ref 152, .int (nI p), .int (nI k), .int x, .int 4, .retAddr 0], []) (G, ((vr_cut I (fun y => I 155 (144 * p + y)) (w * h) k).1), F) _ _
    refine vm_J.go vm_q210 (k := 2) (hs := []) (f' := (54, (0, 0), [.ref 152, .int (nI p), .int (nI k), .int x, .int 4, .retAddr 0], [.int x, .ref 152])) (h' := (G, ((vr_cut I (fun y => I 155 (144 * p + y)) (w * h) k).1), F)) (hs' := []) rfl rfl ?_
    refine vm_J.call vm_q210 (Z := vm_M206) (n := 1) (k := 0) (mi := 206) (pc := 54) (en := (54, .invokevirtual 249, 3, [206, 1434, 0], .null)) rfl trivial rfl rfl vm_z206 (av := [.ref 152, .int x]) (rest := []) (r_boxAt (n := (vr_gth I (fun y => I 155 (144 * p + y)) (w * h)).2) (nb := (vr_cut I (fun y => I 155 (144 * p + y)) (w * h) k).2) (i := x) hR hgn2 hib.1.2.1 (by omega) hib.1.2.2) ⟨_, _, rfl, rfl, _, 11, _, hR.c152, rfl, rfl, rfl⟩ (Nat.le_of_ble_eq_true rfl) ⟨Nat.le_of_ble_eq_true rfl, Nat.le_of_ble_eq_true rfl⟩ ⟨Nat.le_of_ble_eq_true rfl, Nat.le_of_ble_eq_true rfl⟩ ?_
    show vm_J _ _ _ (57, (0, 0), [.ref 152, .int (nI p), .int (nI k), .int x, .int 4, .retAddr 0], [.int (if (vr_ba (((vr_cut I (fun y => I 155 (144 * p + y)) (w * h) k).1) 161) (vr_gth I (fun y => I 155 (144 * p + y)) (w * h)).2 (vr_cut I (fun y => I 155 (144 * p + y)) (w * h) k).2 x) < (vr_cut I (fun y => I 155 (144 * p + y)) (w * h) k).2 then nI (vr_ba (((vr_cut I (fun y => I 155 (144 * p + y)) (w * h) k).1) 161) (vr_gth I (fun y => I 155 (144 * p + y)) (w * h)).2 (vr_cut I (fun y => I 155 (144 * p + y)) (w * h) k).2 x) else -1)]) (G, ((vr_cut I (fun y => I 155 (144 * p + y)) (w * h) k).1), F) _ _
    rw [if_pos hbx]
    obtain ⟨t, et⟩ : ∃ t, (vr_ba (((vr_cut I (fun y => I 155 (144 * p + y)) (w * h) k).1) 161) (vr_gth I (fun y => I 155 (144 * p + y)) (w * h)).2 (vr_cut I (fun y => I 155 (144 * p + y)) (w * h) k).2 x) = t := ⟨_, rfl⟩
    rw [et] at hbx ⊢
    have hft := hib.1.2.2 t hbx
    show vm_J _ _ _ (57, (0, 0), [.ref 152, .int (nI p), .int (nI k), .int x, .int 4, .retAddr 0], [.int (nI t)]) (G, ((vr_cut I (fun y => I 155 (144 * p + y)) (w * h) k).1), F) _ _
    refine vm_J.go vm_q210 (k := 3) (hs := []) (f' := (bif vm_ic .ge (nI t) 0 then 67 else 64, (0, 0), [.ref 152, .int (nI p), .int (nI k), .int x, .int 4, .int (nI t)], [])) (h' := (G, ((vr_cut I (fun y => I 155 (144 * p + y)) (w * h) k).1), F)) (hs' := []) rfl rfl ?_
    refine vm_J.br (fun c2 => ?_) (fun c2 => ?_)
    · have c2 := vm_ge_t (a := t) (b := 0) (by omega) (by omega) c2
      refine vm_J.go vm_q210 (k := 3) (hs := [vm_shR]) (f' := (72, (0, 0), [.ref 152, .int (nI p), .int (nI k), .int x, .int 4, .int (nI t)], [.int (((vr_cut I (fun y => I 155 (144 * p + y)) (w * h) k).1) 152 10), .ref 152])) (h' := (G, ((vr_cut I (fun y => I 155 (144 * p + y)) (w * h) k).1), F)) (hs' := []) rfl (vm_b2 rfl (vm_b2 rfl (vm_b2 (vm_b2 (vm_hG hR.c152) rfl) rfl))) ?_
      rw [((Eq.trans (vr_cut_k _ _ _ _ 10 (by decide) (by decide)) hu) : ((vr_cut I (fun y => I 155 (144 * p + y)) (w * h) k).1) 152 10 = nI u)]
      refine vm_J.go vm_q210 (k := 2) (hs := []) (f' := (74, (0, 0), [.ref 152, .int (nI p), .int (nI k), .int x, .int 4, .int (nI t)], [.int ((nI u) + 1), .ref 152])) (h' := (G, ((vr_cut I (fun y => I 155 (144 * p + y)) (w * h) k).1), F)) (hs' := []) rfl rfl ?_
      rw [((vm_pa (rfl : (nI u : Int32) = nI u) (rfl : (1 : Int32) = nI 1)) : (nI u) + 1 = nI (u + 1))]
      refine vm_J.go vm_q210 (k := 7) (hs := [vm_shR, vm_shR]) (f' := (143, (0, 0), [.ref 152, .int (nI p), .int (nI k), .int x, .int 4, .int (nI t)], [.int (nI t), .ref 152, .ref 159])) (h' := (G, (vm_up ((vr_cut I (fun y => I 155 (144 * p + y)) (w * h) k).1) 152 10 (nI (u + 1))), F)) (hs' := []) rfl (vm_b2 (vm_b2 (vm_b2 (vm_hG hR.c152) rfl) rfl) (vm_b2 rfl (vm_b2 rfl (vm_b2 rfl (vm_b2 (vm_b2 (vm_hG hR.c152) rfl) (vm_b2 rfl (vm_b2 rfl rfl))))))) ?_
      refine vm_J.call vm_q210 (Z := vm_M200) (n := 1) (k := 0) (mi := 200) (pc := 143) (en := (143, .invokevirtual 223, 3, [200, 1422, 0], .null)) rfl trivial rfl rfl vm_z200 (av := [.ref 152, .int (nI t)]) (rest := [.ref 159]) (show vm_K l X vm_M200 [.ref 152, .int (nI t)] (G, (vm_up ((vr_cut I (fun y => I 155 (144 * p + y)) (w * h) k).1) 152 10 (nI (u + 1))), F) (some (.int (nI (vr_fi (((vr_cut I (fun y => I 155 (144 * p + y)) (w * h) k).1) 161) (vr_gth I (fun y => I 155 (144 * p + y)) (w * h)).2 (nI t))))) (G, (vm_up ((vr_cut I (fun y => I 155 (144 * p + y)) (w * h) k).1) 152 10 (nI (u + 1))), F) from by have hy := hib.1.2.2 t hbx; have q := r_firstOf (l := l) (X := X) (I := (vm_up ((vr_cut I (fun y => I 155 (144 * p + y)) (w * h) k).1) 152 10 (nI (u + 1)))) (F := F) (n := (vr_gth I (fun y => I 155 (144 * p + y)) (w * h)).2) (x := nI t) hR hgn2 (by rw [(vm_up_f _ 152 _ _ 161 (by decide))]; exact hy); rw [((vm_up_f _ 152 _ _ 161 (by decide)) : (vm_up ((vr_cut I (fun y => I 155 (144 * p + y)) (w * h) k).1) 152 10 (nI (u + 1))) 161 = ((vr_cut I (fun y => I 155 (144 * p + y)) (w * h) k).1) 161)] at q; exact q) ⟨_, _, rfl, rfl, _, 11, _, hR.c152, rfl, rfl, rfl⟩ (Nat.le_of_ble_eq_true rfl) ⟨Nat.le_of_ble_eq_true rfl, Nat.le_of_ble_eq_true rfl⟩ ⟨Nat.le_of_ble_eq_true rfl, Nat.le_of_ble_eq_true rfl⟩ ?_
      show vm_J _ _ _ (146, (0, 0), [.ref 152, .int (nI p), .int (nI k), .int x, .int 4, .int (nI t)], [.int (nI (vr_fi (((vr_cut I (fun y => I 155 (144 * p + y)) (w * h) k).1) 161) (vr_gth I (fun y => I 155 (144 * p + y)) (w * h)).2 (nI t))), .ref 159]) (G, (vm_up ((vr_cut I (fun y => I 155 (144 * p + y)) (w * h) k).1) 152 10 (nI (u + 1))), F) _ _
      refine vm_J.go vm_q210 (k := 1) (hs := [(0, 144, [])]) (f' := (147, (0, 0), [.ref 152, .int (nI p), .int (nI k), .int x, .int 4, .int (nI t)], [.int ((vm_up ((vr_cut I (fun y => I 155 (144 * p + y)) (w * h) k).1) 152 10 (nI (u + 1))) 159 (nI (vr_fi (((vr_cut I (fun y => I 155 (144 * p + y)) (w * h) k).1) 161) (vr_gth I (fun y => I 155 (144 * p + y)) (w * h)).2 (nI t))).toNatClampNeg)])) (h' := (G, (vm_up ((vr_cut I (fun y => I 155 (144 * p + y)) (w * h) k).1) 152 10 (nI (u + 1))), F)) (hs' := []) rfl (vm_b2 (vm_b2 (vm_hG hR.c159) (vm_in_e (j := (vr_fi (((vr_cut I (fun y => I 155 (144 * p + y)) (w * h) k).1) 161) (vr_gth I (fun y => I 155 (144 * p + y)) (w * h)).2 (nI t))) (n := 144) rfl (by omega) (by omega))) rfl) ?_
      rw [vm_ix_e (j := (vr_fi (((vr_cut I (fun y => I 155 (144 * p + y)) (w * h) k).1) 161) (vr_gth I (fun y => I 155 (144 * p + y)) (w * h)).2 (nI t))) rfl (by omega)]
      rw [((congrFun (vm_up_f _ 152 _ _ 159 (by decide)) (vr_fi (((vr_cut I (fun y => I 155 (144 * p + y)) (w * h) k).1) 161) (vr_gth I (fun y => I 155 (144 * p + y)) (w * h)).2 (nI t))) : (vm_up ((vr_cut I (fun y => I 155 (144 * p + y)) (w * h) k).1) 152 10 (nI (u + 1))) 159 (vr_fi (((vr_cut I (fun y => I 155 (144 * p + y)) (w * h) k).1) 161) (vr_gth I (fun y => I 155 (144 * p + y)) (w * h)).2 (nI t)) = ((vr_cut I (fun y => I 155 (144 * p + y)) (w * h) k).1) 159 (vr_fi (((vr_cut I (fun y => I 155 (144 * p + y)) (w * h) k).1) 161) (vr_gth I (fun y => I 155 (144 * p + y)) (w * h)).2 (nI t)))]
      exact vm_J.end vm_q210 (en := (147, .ireturn, 1, [], .null)) rfl rfl vm_rI (Nat.zero_le _) (Nat.zero_le _) rfl
    · have c2 := vm_ge_f (a := t) (b := 0) (by omega) (by omega) c2
      exact (show False by omega).elim
  · have c1 := vm_ne_f (a := u) (b := 6000) (by omega) (by omega) c1
    exact (show False by omega).elim
