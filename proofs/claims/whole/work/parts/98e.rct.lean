set_option maxHeartbeats 4000000 in
set_option maxRecDepth 20000 in
/-- DitherDeskModel.cut -/
theorem r_cut_x {l : Launch} {X : vm_Cx} {G : List vm_Sh} {I : Nat → Nat → Int32} {F : Nat → Nat → UInt32} {q : Int32} {u : Int32} {k : Int32} (hR : vm_isR G) (hx : ¬ (0 ≤ q ∧ q ≤ 3)) : vm_K l X vm_M229 [.ref 152, .int q, .int u, .int k] (G, I, F) (some (.int (-1))) (G, I, F) := by
  refine vm_K.mk (by decide) (Nat.le_of_ble_eq_true rfl) ?_
  show vm_J _ _ _ (0, (0, 0), [.ref 152, .int q, .int u, .int k, .retAddr 0], []) _ _ _
  refine vm_J.go vm_q229 (k := 1) (hs := []) (f' := (1, (0, 0), [.ref 152, .int q, .int u, .int k, .retAddr 0], [.int q])) (h' := (G, I, F)) (hs' := []) rfl rfl ?_
  refine vm_J.call vm_q229 (Z := vm_M173) (n := 1) (k := 1) (mi := 173) (pc := 1) (en := (1, .invokestatic 145, 3, [173, 1453, 0], .null)) rfl trivial rfl rfl vm_z173 (av := [.int q]) (rest := []) (r_isPalette_n (c := q) hx) rfl (Nat.le_of_ble_eq_true rfl) ⟨Nat.le_of_ble_eq_true rfl, Nat.le_of_ble_eq_true rfl⟩ ⟨Nat.le_of_ble_eq_true rfl, Nat.le_of_ble_eq_true rfl⟩ ?_
  show vm_J _ _ _ (4, (0, 0), [.ref 152, .int q, .int u, .int k, .retAddr 0], [.int 0]) (G, I, F) _ _
  refine vm_J.go vm_q229 (k := 1) (hs := []) (f' := (bif vm_ic .eq 0 0 then 15 else 7, (0, 0), [.ref 152, .int q, .int u, .int k, .retAddr 0], [])) (h' := (G, I, F)) (hs' := []) rfl rfl ?_
  refine vm_J.bT (by decide) ?_
  refine vm_J.go vm_q229 (k := 1) (hs := []) (f' := (16, (0, 0), [.ref 152, .int q, .int u, .int k, .retAddr 0], [.int (-1)])) (h' := (G, I, F)) (hs' := []) rfl rfl ?_
  exact vm_J.end vm_q229 (en := (16, .ireturn, 1, [], .null)) rfl rfl vm_rI (Nat.zero_le _) (Nat.zero_le _) rfl
set_option maxHeartbeats 4000000 in
set_option maxRecDepth 20000 in
/-- DitherDeskModel.cut -/
theorem r_cut_x2 {l : Launch} {X : vm_Cx} {G : List vm_Sh} {I : Nat → Nat → Int32} {F : Nat → Nat → UInt32} {p : Nat} {q : Int32} {k : Int32} (hR : vm_isR G) (hp : p < 4) (hx : ¬ (0 ≤ q ∧ q ≤ 3)) : vm_K l X vm_M229 [.ref 152, .int (nI p), .int q, .int k] (G, I, F) (some (.int (-1))) (G, I, F) := by
  refine vm_K.mk (by decide) (Nat.le_of_ble_eq_true rfl) ?_
  show vm_J _ _ _ (0, (0, 0), [.ref 152, .int (nI p), .int q, .int k, .retAddr 0], []) _ _ _
  refine vm_J.go vm_q229 (k := 1) (hs := []) (f' := (1, (0, 0), [.ref 152, .int (nI p), .int q, .int k, .retAddr 0], [.int (nI p)])) (h' := (G, I, F)) (hs' := []) rfl rfl ?_
  refine vm_J.call vm_q229 (Z := vm_M173) (n := 1) (k := 1) (mi := 173) (pc := 1) (en := (1, .invokestatic 145, 3, [173, 1453, 0], .null)) rfl trivial rfl rfl vm_z173 (av := [.int (nI p)]) (rest := []) (r_isPalette_y (c := nI p) (vm_bp4 hp)) rfl (Nat.le_of_ble_eq_true rfl) ⟨Nat.le_of_ble_eq_true rfl, Nat.le_of_ble_eq_true rfl⟩ ⟨Nat.le_of_ble_eq_true rfl, Nat.le_of_ble_eq_true rfl⟩ ?_
  show vm_J _ _ _ (4, (0, 0), [.ref 152, .int (nI p), .int q, .int k, .retAddr 0], [.int 1]) (G, I, F) _ _
  refine vm_J.go vm_q229 (k := 1) (hs := []) (f' := (bif vm_ic .eq 1 0 then 15 else 7, (0, 0), [.ref 152, .int (nI p), .int q, .int k, .retAddr 0], [])) (h' := (G, I, F)) (hs' := []) rfl rfl ?_
  refine vm_J.bF (by decide) ?_
  refine vm_J.go vm_q229 (k := 2) (hs := []) (f' := (9, (0, 0), [.ref 152, .int (nI p), .int q, .int k, .retAddr 0], [.int q, .ref 152])) (h' := (G, I, F)) (hs' := []) rfl rfl ?_
  refine vm_J.call vm_q229 (Z := vm_M172) (n := 1) (k := 0) (mi := 172) (pc := 9) (en := (9, .invokevirtual 156, 3, [172, 1313, 0], .null)) rfl trivial rfl rfl vm_z172 (av := [.ref 152, .int q]) (rest := []) (r_isPic_x (q := q) hR hx) ⟨_, _, rfl, rfl, _, 11, _, hR.c152, rfl, rfl, rfl⟩ (Nat.le_of_ble_eq_true rfl) ⟨Nat.le_of_ble_eq_true rfl, Nat.le_of_ble_eq_true rfl⟩ ⟨Nat.le_of_ble_eq_true rfl, Nat.le_of_ble_eq_true rfl⟩ ?_
  show vm_J _ _ _ (12, (0, 0), [.ref 152, .int (nI p), .int q, .int k, .retAddr 0], [.int 0]) (G, I, F) _ _
  refine vm_J.go vm_q229 (k := 1) (hs := []) (f' := (bif vm_ic .ne 0 0 then 17 else 15, (0, 0), [.ref 152, .int (nI p), .int q, .int k, .retAddr 0], [])) (h' := (G, I, F)) (hs' := []) rfl rfl ?_
  refine vm_J.bF (by decide) ?_
  refine vm_J.go vm_q229 (k := 1) (hs := []) (f' := (16, (0, 0), [.ref 152, .int (nI p), .int q, .int k, .retAddr 0], [.int (-1)])) (h' := (G, I, F)) (hs' := []) rfl rfl ?_
  exact vm_J.end vm_q229 (en := (16, .ireturn, 1, [], .null)) rfl rfl vm_rI (Nat.zero_le _) (Nat.zero_le _) rfl
set_option maxHeartbeats 4000000 in
set_option maxRecDepth 20000 in
/-- DitherDeskModel.cut -/
theorem r_cut_m {l : Launch} {X : vm_Cx} {G : List vm_Sh} {I : Nat → Nat → Int32} {F : Nat → Nat → UInt32} {p : Nat} {q : Nat} {w : Nat} {k : Int32} (hR : vm_isR G) (hp : p < 4) (hw : I 153 q = nI w) (hq : q < 4) (hw2 : w ≤ 12) (hw0 : w = 0) : vm_K l X vm_M229 [.ref 152, .int (nI p), .int (nI q), .int k] (G, I, F) (some (.int (-1))) (G, I, F) := by
  refine vm_K.mk (by decide) (Nat.le_of_ble_eq_true rfl) ?_
  show vm_J _ _ _ (0, (0, 0), [.ref 152, .int (nI p), .int (nI q), .int k, .retAddr 0], []) _ _ _
  refine vm_J.go vm_q229 (k := 1) (hs := []) (f' := (1, (0, 0), [.ref 152, .int (nI p), .int (nI q), .int k, .retAddr 0], [.int (nI p)])) (h' := (G, I, F)) (hs' := []) rfl rfl ?_
  refine vm_J.call vm_q229 (Z := vm_M173) (n := 1) (k := 1) (mi := 173) (pc := 1) (en := (1, .invokestatic 145, 3, [173, 1453, 0], .null)) rfl trivial rfl rfl vm_z173 (av := [.int (nI p)]) (rest := []) (r_isPalette_y (c := nI p) (vm_bp4 hp)) rfl (Nat.le_of_ble_eq_true rfl) ⟨Nat.le_of_ble_eq_true rfl, Nat.le_of_ble_eq_true rfl⟩ ⟨Nat.le_of_ble_eq_true rfl, Nat.le_of_ble_eq_true rfl⟩ ?_
  show vm_J _ _ _ (4, (0, 0), [.ref 152, .int (nI p), .int (nI q), .int k, .retAddr 0], [.int 1]) (G, I, F) _ _
  refine vm_J.go vm_q229 (k := 1) (hs := []) (f' := (bif vm_ic .eq 1 0 then 15 else 7, (0, 0), [.ref 152, .int (nI p), .int (nI q), .int k, .retAddr 0], [])) (h' := (G, I, F)) (hs' := []) rfl rfl ?_
  refine vm_J.bF (by decide) ?_
  refine vm_J.go vm_q229 (k := 2) (hs := []) (f' := (9, (0, 0), [.ref 152, .int (nI p), .int (nI q), .int k, .retAddr 0], [.int (nI q), .ref 152])) (h' := (G, I, F)) (hs' := []) rfl rfl ?_
  refine vm_J.call vm_q229 (Z := vm_M172) (n := 1) (k := 0) (mi := 172) (pc := 9) (en := (9, .invokevirtual 156, 3, [172, 1313, 0], .null)) rfl trivial rfl rfl vm_z172 (av := [.ref 152, .int (nI q)]) (rest := []) (r_isPic_n (p := q) (w := w) hR (by omega) hw (by omega) (by omega)) ⟨_, _, rfl, rfl, _, 11, _, hR.c152, rfl, rfl, rfl⟩ (Nat.le_of_ble_eq_true rfl) ⟨Nat.le_of_ble_eq_true rfl, Nat.le_of_ble_eq_true rfl⟩ ⟨Nat.le_of_ble_eq_true rfl, Nat.le_of_ble_eq_true rfl⟩ ?_
  show vm_J _ _ _ (12, (0, 0), [.ref 152, .int (nI p), .int (nI q), .int k, .retAddr 0], [.int 0]) (G, I, F) _ _
  refine vm_J.go vm_q229 (k := 1) (hs := []) (f' := (bif vm_ic .ne 0 0 then 17 else 15, (0, 0), [.ref 152, .int (nI p), .int (nI q), .int k, .retAddr 0], [])) (h' := (G, I, F)) (hs' := []) rfl rfl ?_
  refine vm_J.bF (by decide) ?_
  refine vm_J.go vm_q229 (k := 1) (hs := []) (f' := (16, (0, 0), [.ref 152, .int (nI p), .int (nI q), .int k, .retAddr 0], [.int (-1)])) (h' := (G, I, F)) (hs' := []) rfl rfl ?_
  exact vm_J.end vm_q229 (en := (16, .ireturn, 1, [], .null)) rfl rfl vm_rI (Nat.zero_le _) (Nat.zero_le _) rfl
set_option maxHeartbeats 4000000 in
set_option maxRecDepth 20000 in
/-- DitherDeskModel.cut -/
theorem r_cut_b {l : Launch} {X : vm_Cx} {G : List vm_Sh} {I : Nat → Nat → Int32} {F : Nat → Nat → UInt32} {p : Nat} {q : Nat} {w : Nat} {k : Int32} (hR : vm_isR G) (hp : p < 4) (hw : I 153 q = nI w) (hq : q < 4) (hw2 : w ≤ 12) (hw0 : 0 < w) (hk : ¬ (1 ≤ k ∧ k ≤ 16)) : vm_K l X vm_M229 [.ref 152, .int (nI p), .int (nI q), .int k] (G, I, F) (some (.int (-2))) (G, I, F) := by
  refine vm_K.mk (by decide) (Nat.le_of_ble_eq_true rfl) ?_
  show vm_J _ _ _ (0, (0, 0), [.ref 152, .int (nI p), .int (nI q), .int k, .retAddr 0], []) _ _ _
  refine vm_J.go vm_q229 (k := 1) (hs := []) (f' := (1, (0, 0), [.ref 152, .int (nI p), .int (nI q), .int k, .retAddr 0], [.int (nI p)])) (h' := (G, I, F)) (hs' := []) rfl rfl ?_
  refine vm_J.call vm_q229 (Z := vm_M173) (n := 1) (k := 1) (mi := 173) (pc := 1) (en := (1, .invokestatic 145, 3, [173, 1453, 0], .null)) rfl trivial rfl rfl vm_z173 (av := [.int (nI p)]) (rest := []) (r_isPalette_y (c := nI p) (vm_bp4 hp)) rfl (Nat.le_of_ble_eq_true rfl) ⟨Nat.le_of_ble_eq_true rfl, Nat.le_of_ble_eq_true rfl⟩ ⟨Nat.le_of_ble_eq_true rfl, Nat.le_of_ble_eq_true rfl⟩ ?_
  show vm_J _ _ _ (4, (0, 0), [.ref 152, .int (nI p), .int (nI q), .int k, .retAddr 0], [.int 1]) (G, I, F) _ _
  refine vm_J.go vm_q229 (k := 1) (hs := []) (f' := (bif vm_ic .eq 1 0 then 15 else 7, (0, 0), [.ref 152, .int (nI p), .int (nI q), .int k, .retAddr 0], [])) (h' := (G, I, F)) (hs' := []) rfl rfl ?_
  refine vm_J.bF (by decide) ?_
  refine vm_J.go vm_q229 (k := 2) (hs := []) (f' := (9, (0, 0), [.ref 152, .int (nI p), .int (nI q), .int k, .retAddr 0], [.int (nI q), .ref 152])) (h' := (G, I, F)) (hs' := []) rfl rfl ?_
  refine vm_J.call vm_q229 (Z := vm_M172) (n := 1) (k := 0) (mi := 172) (pc := 9) (en := (9, .invokevirtual 156, 3, [172, 1313, 0], .null)) rfl trivial rfl rfl vm_z172 (av := [.ref 152, .int (nI q)]) (rest := []) (r_isPic_y (p := q) (w := w) hR (by omega) hw (by omega) (by omega)) ⟨_, _, rfl, rfl, _, 11, _, hR.c152, rfl, rfl, rfl⟩ (Nat.le_of_ble_eq_true rfl) ⟨Nat.le_of_ble_eq_true rfl, Nat.le_of_ble_eq_true rfl⟩ ⟨Nat.le_of_ble_eq_true rfl, Nat.le_of_ble_eq_true rfl⟩ ?_
  show vm_J _ _ _ (12, (0, 0), [.ref 152, .int (nI p), .int (nI q), .int k, .retAddr 0], [.int 1]) (G, I, F) _ _
  refine vm_J.go vm_q229 (k := 1) (hs := []) (f' := (bif vm_ic .ne 1 0 then 17 else 15, (0, 0), [.ref 152, .int (nI p), .int (nI q), .int k, .retAddr 0], [])) (h' := (G, I, F)) (hs' := []) rfl rfl ?_
  refine vm_J.bT (by decide) ?_
  refine vm_J.go vm_q229 (k := 3) (hs := []) (f' := (21, (0, 0), [.ref 152, .int (nI p), .int (nI q), .int k, .retAddr 0], [.int 16, .int 1, .int k])) (h' := (G, I, F)) (hs' := []) rfl rfl ?_
  refine vm_J.call vm_q229 (Z := vm_M168) (n := 3) (k := 1) (mi := 168) (pc := 21) (en := (21, .invokestatic 141, 3, [168, 1302, 0], .null)) rfl trivial rfl rfl vm_z168 (av := [.int k, .int 1, .int 16]) (rest := []) (r_isIn_n (v := k) (a := 1) (b := 16) hk) rfl (Nat.le_of_ble_eq_true rfl) ⟨Nat.le_of_ble_eq_true rfl, Nat.le_of_ble_eq_true rfl⟩ ⟨Nat.le_of_ble_eq_true rfl, Nat.le_of_ble_eq_true rfl⟩ ?_
  show vm_J _ _ _ (24, (0, 0), [.ref 152, .int (nI p), .int (nI q), .int k, .retAddr 0], [.int 0]) (G, I, F) _ _
  refine vm_J.go vm_q229 (k := 1) (hs := []) (f' := (bif vm_ic .ne 0 0 then 30 else 27, (0, 0), [.ref 152, .int (nI p), .int (nI q), .int k, .retAddr 0], [])) (h' := (G, I, F)) (hs' := []) rfl rfl ?_
  refine vm_J.bF (by decide) ?_
  refine vm_J.go vm_q229 (k := 1) (hs := []) (f' := (29, (0, 0), [.ref 152, .int (nI p), .int (nI q), .int k, .retAddr 0], [.int (-2)])) (h' := (G, I, F)) (hs' := []) rfl rfl ?_
  exact vm_J.end vm_q229 (en := (29, .ireturn, 1, [], .null)) rfl rfl vm_rI (Nat.zero_le _) (Nat.zero_le _) rfl
set_option maxHeartbeats 4000000 in
set_option maxRecDepth 20000 in
/-- DitherDeskModel.cut -/
theorem r_cut_f {l : Launch} {X : vm_Cx} {G : List vm_Sh} {I : Nat → Nat → Int32} {F : Nat → Nat → UInt32} {p : Nat} {q : Nat} {w : Nat} {k : Nat} {u : Nat} (hR : vm_isR G) (hp : p < 4) (hw : I 153 q = nI w) (hq : q < 4) (hw2 : w ≤ 12) (hw0 : 0 < w) (hk1 : 0 < k) (hk2 : k ≤ 16) (hu : I 152 10 = nI u) (hv : 6000 < u + 1) (hv2 : u ≤ 6000) : vm_K l X vm_M229 [.ref 152, .int (nI p), .int (nI q), .int (nI k)] (G, I, F) (some (.int (-4))) (G, I, F) := by
  refine vm_K.mk (by decide) (Nat.le_of_ble_eq_true rfl) ?_
  show vm_J _ _ _ (0, (0, 0), [.ref 152, .int (nI p), .int (nI q), .int (nI k), .retAddr 0], []) _ _ _
  refine vm_J.go vm_q229 (k := 1) (hs := []) (f' := (1, (0, 0), [.ref 152, .int (nI p), .int (nI q), .int (nI k), .retAddr 0], [.int (nI p)])) (h' := (G, I, F)) (hs' := []) rfl rfl ?_
  refine vm_J.call vm_q229 (Z := vm_M173) (n := 1) (k := 1) (mi := 173) (pc := 1) (en := (1, .invokestatic 145, 3, [173, 1453, 0], .null)) rfl trivial rfl rfl vm_z173 (av := [.int (nI p)]) (rest := []) (r_isPalette_y (c := nI p) (vm_bp4 hp)) rfl (Nat.le_of_ble_eq_true rfl) ⟨Nat.le_of_ble_eq_true rfl, Nat.le_of_ble_eq_true rfl⟩ ⟨Nat.le_of_ble_eq_true rfl, Nat.le_of_ble_eq_true rfl⟩ ?_
  show vm_J _ _ _ (4, (0, 0), [.ref 152, .int (nI p), .int (nI q), .int (nI k), .retAddr 0], [.int 1]) (G, I, F) _ _
  refine vm_J.go vm_q229 (k := 1) (hs := []) (f' := (bif vm_ic .eq 1 0 then 15 else 7, (0, 0), [.ref 152, .int (nI p), .int (nI q), .int (nI k), .retAddr 0], [])) (h' := (G, I, F)) (hs' := []) rfl rfl ?_
  refine vm_J.bF (by decide) ?_
  refine vm_J.go vm_q229 (k := 2) (hs := []) (f' := (9, (0, 0), [.ref 152, .int (nI p), .int (nI q), .int (nI k), .retAddr 0], [.int (nI q), .ref 152])) (h' := (G, I, F)) (hs' := []) rfl rfl ?_
  refine vm_J.call vm_q229 (Z := vm_M172) (n := 1) (k := 0) (mi := 172) (pc := 9) (en := (9, .invokevirtual 156, 3, [172, 1313, 0], .null)) rfl trivial rfl rfl vm_z172 (av := [.ref 152, .int (nI q)]) (rest := []) (r_isPic_y (p := q) (w := w) hR (by omega) hw (by omega) (by omega)) ⟨_, _, rfl, rfl, _, 11, _, hR.c152, rfl, rfl, rfl⟩ (Nat.le_of_ble_eq_true rfl) ⟨Nat.le_of_ble_eq_true rfl, Nat.le_of_ble_eq_true rfl⟩ ⟨Nat.le_of_ble_eq_true rfl, Nat.le_of_ble_eq_true rfl⟩ ?_
  show vm_J _ _ _ (12, (0, 0), [.ref 152, .int (nI p), .int (nI q), .int (nI k), .retAddr 0], [.int 1]) (G, I, F) _ _
  refine vm_J.go vm_q229 (k := 1) (hs := []) (f' := (bif vm_ic .ne 1 0 then 17 else 15, (0, 0), [.ref 152, .int (nI p), .int (nI q), .int (nI k), .retAddr 0], [])) (h' := (G, I, F)) (hs' := []) rfl rfl ?_
  refine vm_J.bT (by decide) ?_
  refine vm_J.go vm_q229 (k := 3) (hs := []) (f' := (21, (0, 0), [.ref 152, .int (nI p), .int (nI q), .int (nI k), .retAddr 0], [.int 16, .int 1, .int (nI k)])) (h' := (G, I, F)) (hs' := []) rfl rfl ?_
  refine vm_J.call vm_q229 (Z := vm_M168) (n := 3) (k := 1) (mi := 168) (pc := 21) (en := (21, .invokestatic 141, 3, [168, 1302, 0], .null)) rfl trivial rfl rfl vm_z168 (av := [.int (nI k), .int 1, .int 16]) (rest := []) (r_isIn_y (v := nI k) (a := 1) (b := 16) (vm_bp1 (m := 16) hk1 hk2 rfl (by decide))) rfl (Nat.le_of_ble_eq_true rfl) ⟨Nat.le_of_ble_eq_true rfl, Nat.le_of_ble_eq_true rfl⟩ ⟨Nat.le_of_ble_eq_true rfl, Nat.le_of_ble_eq_true rfl⟩ ?_
  show vm_J _ _ _ (24, (0, 0), [.ref 152, .int (nI p), .int (nI q), .int (nI k), .retAddr 0], [.int 1]) (G, I, F) _ _
  refine vm_J.go vm_q229 (k := 1) (hs := []) (f' := (bif vm_ic .ne 1 0 then 30 else 27, (0, 0), [.ref 152, .int (nI p), .int (nI q), .int (nI k), .retAddr 0], [])) (h' := (G, I, F)) (hs' := []) rfl rfl ?_
  refine vm_J.bT (by decide) ?_
  refine vm_J.go vm_q229 (k := 2) (hs := []) (f' := (32, (0, 0), [.ref 152, .int (nI p), .int (nI q), .int (nI k), .retAddr 0], [.int 1, .ref 152])) (h' := (G, I, F)) (hs' := []) rfl rfl ?_
  refine vm_J.call vm_q229 (Z := vm_M178) (n := 1) (k := 0) (mi := 178) (pc := 32) (en := (32, .invokevirtual 304, 3, [178, 1528, 0], .null)) rfl trivial rfl rfl vm_z178 (av := [.ref 152, .int 1]) (rest := []) (r_works_n (u := u) (k := 1) hR hu hv (by omega) (by omega)) ⟨_, _, rfl, rfl, _, 11, _, hR.c152, rfl, rfl, rfl⟩ (Nat.le_of_ble_eq_true rfl) ⟨Nat.le_of_ble_eq_true rfl, Nat.le_of_ble_eq_true rfl⟩ ⟨Nat.le_of_ble_eq_true rfl, Nat.le_of_ble_eq_true rfl⟩ ?_
  show vm_J _ _ _ (35, (0, 0), [.ref 152, .int (nI p), .int (nI q), .int (nI k), .retAddr 0], [.int 0]) (G, I, F) _ _
  refine vm_J.go vm_q229 (k := 1) (hs := []) (f' := (bif vm_ic .ne 0 0 then 41 else 38, (0, 0), [.ref 152, .int (nI p), .int (nI q), .int (nI k), .retAddr 0], [])) (h' := (G, I, F)) (hs' := []) rfl rfl ?_
  refine vm_J.bF (by decide) ?_
  refine vm_J.go vm_q229 (k := 1) (hs := []) (f' := (40, (0, 0), [.ref 152, .int (nI p), .int (nI q), .int (nI k), .retAddr 0], [.int (-4)])) (h' := (G, I, F)) (hs' := []) rfl rfl ?_
  exact vm_J.end vm_q229 (en := (40, .ireturn, 1, [], .null)) rfl rfl vm_rI (Nat.zero_le _) (Nat.zero_le _) rfl
set_option maxHeartbeats 4000000 in
set_option maxRecDepth 20000 in
/-- DitherDeskModel.cut -/
theorem r_cut_s {l : Launch} {X : vm_Cx} {G : List vm_Sh} {I : Nat → Nat → Int32} {F : Nat → Nat → UInt32} {p : Nat} {n : Nat} {q : Nat} {w : Nat} {k : Nat} {u : Nat} (hR : vm_isR G) (hp : p < 4) (hn : I 156 p = nI n) (hn2 : n ≤ 16) (hw : I 153 q = nI w) (hq : q < 4) (hw2 : w ≤ 12) (hw0 : 0 < w) (hk1 : 0 < k) (hk2 : k ≤ 16) (hu : I 152 10 = nI u) (hv : u + 1 ≤ 6000) (hks : k ≤ (vr_kl (vm_up I 152 10 (nI (u + 1))) p n n).2) : vm_K l X vm_M229 [.ref 152, .int (nI p), .int (nI q), .int (nI k)] (G, I, F) (some (.int (nI (vr_kl (vm_up I 152 10 (nI (u + 1))) p n n).2))) (G, ((vr_kl (vm_up I 152 10 (nI (u + 1))) p n n).1), F) := by
  refine vm_K.mk (by decide) (Nat.le_of_ble_eq_true rfl) ?_
  have hkb := (vr_kl_b (vm_up I 152 10 (nI (u + 1))) p n n (Nat.le_refl n)).2
  show vm_J _ _ _ (0, (0, 0), [.ref 152, .int (nI p), .int (nI q), .int (nI k), .retAddr 0], []) _ _ _
  refine vm_J.go vm_q229 (k := 1) (hs := []) (f' := (1, (0, 0), [.ref 152, .int (nI p), .int (nI q), .int (nI k), .retAddr 0], [.int (nI p)])) (h' := (G, I, F)) (hs' := []) rfl rfl ?_
  refine vm_J.call vm_q229 (Z := vm_M173) (n := 1) (k := 1) (mi := 173) (pc := 1) (en := (1, .invokestatic 145, 3, [173, 1453, 0], .null)) rfl trivial rfl rfl vm_z173 (av := [.int (nI p)]) (rest := []) (r_isPalette_y (c := nI p) (vm_bp4 hp)) rfl (Nat.le_of_ble_eq_true rfl) ⟨Nat.le_of_ble_eq_true rfl, Nat.le_of_ble_eq_true rfl⟩ ⟨Nat.le_of_ble_eq_true rfl, Nat.le_of_ble_eq_true rfl⟩ ?_
  show vm_J _ _ _ (4, (0, 0), [.ref 152, .int (nI p), .int (nI q), .int (nI k), .retAddr 0], [.int 1]) (G, I, F) _ _
  refine vm_J.go vm_q229 (k := 1) (hs := []) (f' := (bif vm_ic .eq 1 0 then 15 else 7, (0, 0), [.ref 152, .int (nI p), .int (nI q), .int (nI k), .retAddr 0], [])) (h' := (G, I, F)) (hs' := []) rfl rfl ?_
  refine vm_J.bF (by decide) ?_
  refine vm_J.go vm_q229 (k := 2) (hs := []) (f' := (9, (0, 0), [.ref 152, .int (nI p), .int (nI q), .int (nI k), .retAddr 0], [.int (nI q), .ref 152])) (h' := (G, I, F)) (hs' := []) rfl rfl ?_
  refine vm_J.call vm_q229 (Z := vm_M172) (n := 1) (k := 0) (mi := 172) (pc := 9) (en := (9, .invokevirtual 156, 3, [172, 1313, 0], .null)) rfl trivial rfl rfl vm_z172 (av := [.ref 152, .int (nI q)]) (rest := []) (r_isPic_y (p := q) (w := w) hR (by omega) hw (by omega) (by omega)) ⟨_, _, rfl, rfl, _, 11, _, hR.c152, rfl, rfl, rfl⟩ (Nat.le_of_ble_eq_true rfl) ⟨Nat.le_of_ble_eq_true rfl, Nat.le_of_ble_eq_true rfl⟩ ⟨Nat.le_of_ble_eq_true rfl, Nat.le_of_ble_eq_true rfl⟩ ?_
  show vm_J _ _ _ (12, (0, 0), [.ref 152, .int (nI p), .int (nI q), .int (nI k), .retAddr 0], [.int 1]) (G, I, F) _ _
  refine vm_J.go vm_q229 (k := 1) (hs := []) (f' := (bif vm_ic .ne 1 0 then 17 else 15, (0, 0), [.ref 152, .int (nI p), .int (nI q), .int (nI k), .retAddr 0], [])) (h' := (G, I, F)) (hs' := []) rfl rfl ?_
  refine vm_J.bT (by decide) ?_
  refine vm_J.go vm_q229 (k := 3) (hs := []) (f' := (21, (0, 0), [.ref 152, .int (nI p), .int (nI q), .int (nI k), .retAddr 0], [.int 16, .int 1, .int (nI k)])) (h' := (G, I, F)) (hs' := []) rfl rfl ?_
  refine vm_J.call vm_q229 (Z := vm_M168) (n := 3) (k := 1) (mi := 168) (pc := 21) (en := (21, .invokestatic 141, 3, [168, 1302, 0], .null)) rfl trivial rfl rfl vm_z168 (av := [.int (nI k), .int 1, .int 16]) (rest := []) (r_isIn_y (v := nI k) (a := 1) (b := 16) (vm_bp1 (m := 16) hk1 hk2 rfl (by decide))) rfl (Nat.le_of_ble_eq_true rfl) ⟨Nat.le_of_ble_eq_true rfl, Nat.le_of_ble_eq_true rfl⟩ ⟨Nat.le_of_ble_eq_true rfl, Nat.le_of_ble_eq_true rfl⟩ ?_
  show vm_J _ _ _ (24, (0, 0), [.ref 152, .int (nI p), .int (nI q), .int (nI k), .retAddr 0], [.int 1]) (G, I, F) _ _
  refine vm_J.go vm_q229 (k := 1) (hs := []) (f' := (bif vm_ic .ne 1 0 then 30 else 27, (0, 0), [.ref 152, .int (nI p), .int (nI q), .int (nI k), .retAddr 0], [])) (h' := (G, I, F)) (hs' := []) rfl rfl ?_
  refine vm_J.bT (by decide) ?_
  refine vm_J.go vm_q229 (k := 2) (hs := []) (f' := (32, (0, 0), [.ref 152, .int (nI p), .int (nI q), .int (nI k), .retAddr 0], [.int 1, .ref 152])) (h' := (G, I, F)) (hs' := []) rfl rfl ?_
  refine vm_J.call vm_q229 (Z := vm_M178) (n := 1) (k := 0) (mi := 178) (pc := 32) (en := (32, .invokevirtual 304, 3, [178, 1528, 0], .null)) rfl trivial rfl rfl vm_z178 (av := [.ref 152, .int 1]) (rest := []) (r_works_y (u := u) (k := 1) hR hu hv) ⟨_, _, rfl, rfl, _, 11, _, hR.c152, rfl, rfl, rfl⟩ (Nat.le_of_ble_eq_true rfl) ⟨Nat.le_of_ble_eq_true rfl, Nat.le_of_ble_eq_true rfl⟩ ⟨Nat.le_of_ble_eq_true rfl, Nat.le_of_ble_eq_true rfl⟩ ?_
  show vm_J _ _ _ (35, (0, 0), [.ref 152, .int (nI p), .int (nI q), .int (nI k), .retAddr 0], [.int 1]) (G, (vm_up I 152 10 (nI (u + 1))), F) _ _
  refine vm_J.go vm_q229 (k := 1) (hs := []) (f' := (bif vm_ic .ne 1 0 then 41 else 38, (0, 0), [.ref 152, .int (nI p), .int (nI q), .int (nI k), .retAddr 0], [])) (h' := (G, (vm_up I 152 10 (nI (u + 1))), F)) (hs' := []) rfl rfl ?_
  refine vm_J.bT (by decide) ?_
  refine vm_J.go vm_q229 (k := 2) (hs := []) (f' := (43, (0, 0), [.ref 152, .int (nI p), .int (nI q), .int (nI k), .retAddr 0], [.int (nI p), .ref 152])) (h' := (G, (vm_up I 152 10 (nI (u + 1))), F)) (hs' := []) rfl rfl ?_
  refine vm_J.call vm_q229 (Z := vm_M228) (n := 1) (k := 0) (mi := 228) (pc := 43) (en := (43, .invokevirtual 307, 3, [228, 1532, 0], .null)) rfl trivial rfl rfl vm_z228 (av := [.ref 152, .int (nI p)]) (rest := []) (r_keeps (p := p) (n := n) hR (Eq.trans (congrFun (vm_up_f _ 152 _ _ 156 (by decide)) p) hn) (by omega) (by omega)) ⟨_, _, rfl, rfl, _, 11, _, hR.c152, rfl, rfl, rfl⟩ (Nat.le_of_ble_eq_true rfl) ⟨Nat.le_of_ble_eq_true rfl, Nat.le_of_ble_eq_true rfl⟩ ⟨Nat.le_of_ble_eq_true rfl, Nat.le_of_ble_eq_true rfl⟩ ?_
  show vm_J _ _ _ (46, (0, 0), [.ref 152, .int (nI p), .int (nI q), .int (nI k), .retAddr 0], []) (G, ((vr_kl (vm_up I 152 10 (nI (u + 1))) p n n).1), F) _ _
  refine vm_J.go vm_q229 (k := 4) (hs := [vm_shR, (0, 4, [])]) (f' := (52, (0, 0), [.ref 152, .int (nI p), .int (nI q), .int (nI k), .retAddr 0], [.int (((vr_kl (vm_up I 152 10 (nI (u + 1))) p n n).1) 156 (nI p).toNatClampNeg)])) (h' := (G, ((vr_kl (vm_up I 152 10 (nI (u + 1))) p n n).1), F)) (hs' := []) rfl (vm_b2 rfl (vm_b2 (vm_b2 (vm_hG hR.c152) rfl) (vm_b2 rfl (vm_b2 (vm_b2 (vm_hG hR.c156) (vm_in_e (j := p) (n := 4) rfl (by omega) (by omega))) rfl)))) ?_
  rw [vm_ix_e (j := p) rfl (by omega)]
  rw [((vr_kl_n _ _ _ ((vm_up_o2 _ 152 10 _ 156 _ (by decide)).trans hn) _) : ((vr_kl (vm_up I 152 10 (nI (u + 1))) p n n).1) 156 p = nI (vr_kl (vm_up I 152 10 (nI (u + 1))) p n n).2)]
  refine vm_J.go vm_q229 (k := 2) (hs := []) (f' := (bif vm_ic .lt (nI (vr_kl (vm_up I 152 10 (nI (u + 1))) p n n).2) (nI k) then 63 else 56, (0, 0), [.ref 152, .int (nI p), .int (nI q), .int (nI k), .retAddr 0], [])) (h' := (G, ((vr_kl (vm_up I 152 10 (nI (u + 1))) p n n).1), F)) (hs' := []) rfl rfl ?_
  refine vm_J.br (fun c1 => ?_) (fun c1 => ?_)
  · rw [(rfl : nI (vr_kl (vm_up I 152 10 (nI (u + 1))) p n n).2 = nI ((vr_kl (vm_up I 152 10 (nI (u + 1))) p n n).2))] at c1
    have c1 := vm_lt_t (a := (vr_kl (vm_up I 152 10 (nI (u + 1))) p n n).2) (b := k) (by omega) (by omega) c1
    exact (show False by omega).elim
  · rw [(rfl : nI (vr_kl (vm_up I 152 10 (nI (u + 1))) p n n).2 = nI ((vr_kl (vm_up I 152 10 (nI (u + 1))) p n n).2))] at c1
    have c1 := vm_lt_f (a := (vr_kl (vm_up I 152 10 (nI (u + 1))) p n n).2) (b := k) (by omega) (by omega) c1
    refine vm_J.go vm_q229 (k := 4) (hs := [vm_shR, (0, 4, [])]) (f' := (62, (0, 0), [.ref 152, .int (nI p), .int (nI q), .int (nI k), .retAddr 0], [.int (((vr_kl (vm_up I 152 10 (nI (u + 1))) p n n).1) 156 (nI p).toNatClampNeg)])) (h' := (G, ((vr_kl (vm_up I 152 10 (nI (u + 1))) p n n).1), F)) (hs' := []) rfl (vm_b2 rfl (vm_b2 (vm_b2 (vm_hG hR.c152) rfl) (vm_b2 rfl (vm_b2 (vm_b2 (vm_hG hR.c156) (vm_in_e (j := p) (n := 4) rfl (by omega) (by omega))) rfl)))) ?_
    rw [vm_ix_e (j := p) rfl (by omega)]
    rw [((vr_kl_n _ _ _ ((vm_up_o2 _ 152 10 _ 156 _ (by decide)).trans hn) _) : ((vr_kl (vm_up I 152 10 (nI (u + 1))) p n n).1) 156 p = nI (vr_kl (vm_up I 152 10 (nI (u + 1))) p n n).2)]
    exact vm_J.end vm_q229 (en := (62, .ireturn, 1, [], .null)) rfl rfl vm_rI (Nat.zero_le _) (Nat.zero_le _) rfl
