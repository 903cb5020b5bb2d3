theorem vm_lt0_le {b : Int32} (h : b < 0) : b ≤ 150 := by
  rw [Int32.lt_iff_toInt_lt, show (0 : Int32).toInt = 0 from rfl] at h
  rw [Int32.le_iff_toInt_le, show (150 : Int32).toInt = 150 from rfl]
  omega
theorem vm_tw_g {lo : Int} {ts : List Nat} {d : Nat} {x a b : Int32} (h : ¬ (a ≤ x ∧ x ≤ b)) (ha : a.toInt ≤ lo) (hb : lo + (ts.length : Int) ≤ b.toInt + 1) : vm_tw lo ts d x = d := vm_tw_d fun k hk e => h ⟨by rw [Int32.le_iff_toInt_le]; omega, by rw [Int32.le_iff_toInt_le]; omega⟩
theorem vm_wq_x {α : Type} (I : Nat → Nat → α) (d lo n b : Nat) (f : Nat → α) (h : b < lo ∨ lo + n ≤ b) : vm_wq I d f lo n d b = I d b := by
  rcases h with h | h
  · exact vm_wq_l _ _ _ _ _ _ h
  · exact vm_wq_r _ _ _ _ _ _ h
set_option maxHeartbeats 4000000 in
set_option maxRecDepth 20000 in
/-- DitherDeskModel.of -/
theorem r_of_b {l : Launch} {X : vm_Cx} {G : List vm_Sh} {I : Nat → Nat → Int32} {F : Nat → Nat → UInt32} {p : Nat} {w : Nat} {h : Nat} {x : Int32} (hR : vm_isR G) (hw : I 153 p = nI w) (hh : I 154 p = nI h) (hp : p < 4) (hw2 : w ≤ 12) (hh2 : h ≤ 12) (hw0 : 0 < w) (hx : ¬ (0 ≤ x ∧ x ≤ 4)) : vm_K l X vm_M189 [.ref 152, .int (nI p), .int x] (G, I, F) (some (.int (-1))) (G, ((vr_gth I (fun y => I 155 (144 * p + y)) (w * h)).1), F) := by
  refine vm_K.mk (by decide) (Nat.le_of_ble_eq_true rfl) ?_
  have hwh := vm_mul144 hw2 hh2
  show vm_J _ _ _ (0, (0, 0), [.ref 152, .int (nI p), .int x], []) _ _ _
  refine vm_J.go vm_q189 (k := 2) (hs := []) (f' := (2, (0, 0), [.ref 152, .int (nI p), .int x], [.int (nI p), .ref 152])) (h' := (G, I, F)) (hs' := []) rfl rfl ?_
  refine vm_J.call vm_q189 (Z := vm_M172) (n := 1) (k := 0) (mi := 172) (pc := 2) (en := (2, .invokevirtual 156, 3, [172, 1313, 0], .null)) rfl trivial rfl rfl vm_z172 (av := [.ref 152, .int (nI p)]) (rest := []) (r_isPic_y (p := p) (w := w) hR (by omega) hw (by omega) (by omega)) ⟨_, _, rfl, rfl, _, 11, _, hR.c152, rfl, rfl, rfl⟩ (Nat.le_of_ble_eq_true rfl) ⟨Nat.le_of_ble_eq_true rfl, Nat.le_of_ble_eq_true rfl⟩ ⟨Nat.le_of_ble_eq_true rfl, Nat.le_of_ble_eq_true rfl⟩ ?_
  show vm_J _ _ _ (5, (0, 0), [.ref 152, .int (nI p), .int x], [.int 1]) (G, I, F) _ _
  refine vm_J.go vm_q189 (k := 1) (hs := []) (f' := (bif vm_ic .ne 1 0 then 10 else 8, (0, 0), [.ref 152, .int (nI p), .int x], [])) (h' := (G, I, F)) (hs' := []) rfl rfl ?_
  refine vm_J.bT (by decide) ?_
  refine vm_J.go vm_q189 (k := 2) (hs := []) (f' := (12, (0, 0), [.ref 152, .int (nI p), .int x], [.int (nI p), .ref 152])) (h' := (G, I, F)) (hs' := []) rfl rfl ?_
  refine vm_J.call vm_q189 (Z := vm_M188) (n := 1) (k := 0) (mi := 188) (pc := 12) (en := (12, .invokevirtual 195, 3, [188, 1359, 0], .null)) rfl trivial rfl rfl vm_z188 (av := [.ref 152, .int (nI p)]) (rest := []) (r_find (p := p) (w := w) (h := h) hR hw hh (by omega) (by omega) (by omega)) ⟨_, _, rfl, rfl, _, 11, _, hR.c152, rfl, rfl, rfl⟩ (Nat.le_of_ble_eq_true rfl) ⟨Nat.le_of_ble_eq_true rfl, Nat.le_of_ble_eq_true rfl⟩ ⟨Nat.le_of_ble_eq_true rfl, Nat.le_of_ble_eq_true rfl⟩ ?_
  show vm_J _ _ _ (15, (0, 0), [.ref 152, .int (nI p), .int x], []) (G, ((vr_gth I (fun y => I 155 (144 * p + y)) (w * h)).1), F) _ _
  refine vm_J.go vm_q189 (k := 2) (hs := []) (f' := (vm_tw 0 [52, 59, 66, 71, 78] 90 x, (0, 0), [.ref 152, .int (nI p), .int x], [])) (h' := (G, ((vr_gth I (fun y => I 155 (144 * p + y)) (w * h)).1), F)) (hs' := []) rfl rfl ?_
  rw [show vm_tw 0 [52, 59, 66, 71, 78] 90 x = 90 from vm_tw_g hx (by decide) (by decide)]
  refine vm_J.go vm_q189 (k := 1) (hs := []) (f' := (91, (0, 0), [.ref 152, .int (nI p), .int x], [.int (-1)])) (h' := (G, ((vr_gth I (fun y => I 155 (144 * p + y)) (w * h)).1), F)) (hs' := []) rfl rfl ?_
  exact vm_J.end vm_q189 (en := (91, .ireturn, 1, [], .null)) rfl rfl vm_rI (Nat.zero_le _) (Nat.zero_le _) rfl
set_option maxHeartbeats 4000000 in
set_option maxRecDepth 20000 in
/-- DitherDeskModel.see -/
theorem r_see_0 {l : Launch} {X : vm_Cx} {G : List vm_Sh} {I : Nat → Nat → Int32} {F : Nat → Nat → UInt32} {y : Int32} {e : Int32} (hR : vm_isR G) : vm_K l X vm_M269 [.ref 152, .int (-1), .int y, .int e] (G, I, F) (some (.int 0)) (G, (vm_up I 152 49 0), F) := by
  refine vm_K.mk (by decide) (Nat.le_of_ble_eq_true rfl) ?_
  show vm_J _ _ _ (0, (0, 0), [.ref 152, .int (-1), .int y, .int e], []) _ _ _
  refine vm_J.go vm_q269 (k := 3) (hs := []) (f' := (bif vm_ic .ne (-1) (-1) then 12 else 5, (0, 0), [.ref 152, .int (-1), .int y, .int e], [])) (h' := (G, I, F)) (hs' := []) rfl rfl ?_
  refine vm_J.bF (by decide) ?_
  refine vm_J.go vm_q269 (k := 4) (hs := [vm_shR]) (f' := (11, (0, 0), [.ref 152, .int (-1), .int y, .int e], [.int 0])) (h' := (G, (vm_up I 152 49 0), F)) (hs' := []) rfl (vm_b2 rfl (vm_b2 rfl (vm_b2 (vm_b2 (vm_b2 (vm_hG hR.c152) rfl) rfl) (vm_b2 rfl rfl)))) ?_
  exact vm_J.end vm_q269 (en := (11, .ireturn, 1, [], .null)) rfl rfl vm_rI (Nat.zero_le _) (Nat.zero_le _) rfl
set_option maxHeartbeats 4000000 in
set_option maxRecDepth 20000 in
/-- DitherDeskModel.see -/
theorem r_see_b {l : Launch} {X : vm_Cx} {G : List vm_Sh} {I : Nat → Nat → Int32} {F : Nat → Nat → UInt32} {x : Int32} {y : Int32} {e : Int32} (hR : vm_isR G) (hx1 : ¬ x = -1) (hb : ¬ ((0 ≤ x ∧ x ≤ 11) ∧ (0 ≤ y ∧ y ≤ 11) ∧ 0 ≤ e ∧ e ≤ 15)) : vm_K l X vm_M269 [.ref 152, .int x, .int y, .int e] (G, I, F) (some (.int (-2))) (G, I, F) := by
  refine vm_K.mk (by decide) (Nat.le_of_ble_eq_true rfl) ?_
  show vm_J _ _ _ (0, (0, 0), [.ref 152, .int x, .int y, .int e], []) _ _ _
  refine vm_J.go vm_q269 (k := 3) (hs := []) (f' := (bif vm_ic .ne x (-1) then 12 else 5, (0, 0), [.ref 152, .int x, .int y, .int e], [])) (h' := (G, I, F)) (hs' := []) rfl rfl ?_
  refine vm_J.bT (decide_eq_true hx1) ?_
  refine vm_J.go vm_q269 (k := 3) (hs := []) (f' := (16, (0, 0), [.ref 152, .int x, .int y, .int e], [.int 11, .int 0, .int x])) (h' := (G, I, F)) (hs' := []) rfl rfl ?_
  refine vm_J.call vm_q269 (Z := vm_M168) (n := 3) (k := 1) (mi := 168) (pc := 16) (en := (16, .invokestatic 141, 3, [168, 1302, 0], .null)) rfl trivial rfl rfl vm_z168 (av := [.int x, .int 0, .int 11]) (rest := []) (r_isIn (v := x) (a := 0) (b := 11)) rfl (Nat.le_of_ble_eq_true rfl) ⟨Nat.le_of_ble_eq_true rfl, Nat.le_of_ble_eq_true rfl⟩ ⟨Nat.le_of_ble_eq_true rfl, Nat.le_of_ble_eq_true rfl⟩ ?_
  show vm_J _ _ _ (19, (0, 0), [.ref 152, .int x, .int y, .int e], [.int (vm_bi (0 ≤ x ∧ x ≤ 11))]) (G, I, F) _ _
  refine vm_J.go vm_q269 (k := 1) (hs := []) (f' := (bif vm_ic .eq (vm_bi (0 ≤ x ∧ x ≤ 11)) 0 then 42 else 22, (0, 0), [.ref 152, .int x, .int y, .int e], [])) (h' := (G, I, F)) (hs' := []) rfl rfl ?_
  refine vm_J.br (fun c1 => ?_) (fun c1 => ?_)
  · have c1 := vm_bi_eq_t c1
    refine vm_J.go vm_q269 (k := 1) (hs := []) (f' := (44, (0, 0), [.ref 152, .int x, .int y, .int e], [.int (-2)])) (h' := (G, I, F)) (hs' := []) rfl rfl ?_
    exact vm_J.end vm_q269 (en := (44, .ireturn, 1, [], .null)) rfl rfl vm_rI (Nat.zero_le _) (Nat.zero_le _) rfl
  · have c1 := vm_bi_eq_f c1
    refine vm_J.go vm_q269 (k := 3) (hs := []) (f' := (26, (0, 0), [.ref 152, .int x, .int y, .int e], [.int 11, .int 0, .int y])) (h' := (G, I, F)) (hs' := []) rfl rfl ?_
    refine vm_J.call vm_q269 (Z := vm_M168) (n := 3) (k := 1) (mi := 168) (pc := 26) (en := (26, .invokestatic 141, 3, [168, 1302, 0], .null)) rfl trivial rfl rfl vm_z168 (av := [.int y, .int 0, .int 11]) (rest := []) (r_isIn (v := y) (a := 0) (b := 11)) rfl (Nat.le_of_ble_eq_true rfl) ⟨Nat.le_of_ble_eq_true rfl, Nat.le_of_ble_eq_true rfl⟩ ⟨Nat.le_of_ble_eq_true rfl, Nat.le_of_ble_eq_true rfl⟩ ?_
    show vm_J _ _ _ (29, (0, 0), [.ref 152, .int x, .int y, .int e], [.int (vm_bi (0 ≤ y ∧ y ≤ 11))]) (G, I, F) _ _
    refine vm_J.go vm_q269 (k := 1) (hs := []) (f' := (bif vm_ic .eq (vm_bi (0 ≤ y ∧ y ≤ 11)) 0 then 42 else 32, (0, 0), [.ref 152, .int x, .int y, .int e], [])) (h' := (G, I, F)) (hs' := []) rfl rfl ?_
    refine vm_J.br (fun c2 => ?_) (fun c2 => ?_)
    · have c2 := vm_bi_eq_t c2
      refine vm_J.go vm_q269 (k := 1) (hs := []) (f' := (44, (0, 0), [.ref 152, .int x, .int y, .int e], [.int (-2)])) (h' := (G, I, F)) (hs' := []) rfl rfl ?_
      exact vm_J.end vm_q269 (en := (44, .ireturn, 1, [], .null)) rfl rfl vm_rI (Nat.zero_le _) (Nat.zero_le _) rfl
    · have c2 := vm_bi_eq_f c2
      refine vm_J.go vm_q269 (k := 3) (hs := []) (f' := (36, (0, 0), [.ref 152, .int x, .int y, .int e], [.int 15, .int 0, .int e])) (h' := (G, I, F)) (hs' := []) rfl rfl ?_
      refine vm_J.call vm_q269 (Z := vm_M168) (n := 3) (k := 1) (mi := 168) (pc := 36) (en := (36, .invokestatic 141, 3, [168, 1302, 0], .null)) rfl trivial rfl rfl vm_z168 (av := [.int e, .int 0, .int 15]) (rest := []) (r_isIn (v := e) (a := 0) (b := 15)) rfl (Nat.le_of_ble_eq_true rfl) ⟨Nat.le_of_ble_eq_true rfl, Nat.le_of_ble_eq_true rfl⟩ ⟨Nat.le_of_ble_eq_true rfl, Nat.le_of_ble_eq_true rfl⟩ ?_
      show vm_J _ _ _ (39, (0, 0), [.ref 152, .int x, .int y, .int e], [.int (vm_bi (0 ≤ e ∧ e ≤ 15))]) (G, I, F) _ _
      refine vm_J.go vm_q269 (k := 1) (hs := []) (f' := (bif vm_ic .ne (vm_bi (0 ≤ e ∧ e ≤ 15)) 0 then 45 else 42, (0, 0), [.ref 152, .int x, .int y, .int e], [])) (h' := (G, I, F)) (hs' := []) rfl rfl ?_
      refine vm_J.br (fun c3 => ?_) (fun c3 => ?_)
      · have c3 := vm_bi_ne_t c3
        exact absurd ⟨c1, c2, c3⟩ hb
      · have c3 := vm_bi_ne_f c3
        refine vm_J.go vm_q269 (k := 1) (hs := []) (f' := (44, (0, 0), [.ref 152, .int x, .int y, .int e], [.int (-2)])) (h' := (G, I, F)) (hs' := []) rfl rfl ?_
        exact vm_J.end vm_q269 (en := (44, .ireturn, 1, [], .null)) rfl rfl vm_rI (Nat.zero_le _) (Nat.zero_le _) rfl
set_option maxHeartbeats 4000000 in
set_option maxRecDepth 20000 in
/-- DitherDeskModel.see -/
theorem r_see_f {l : Launch} {X : vm_Cx} {G : List vm_Sh} {I : Nat → Nat → Int32} {F : Nat → Nat → UInt32} {n : Nat} {x : Int32} {y : Int32} {e : Int32} (hR : vm_isR G) (hn : I 152 49 = nI n) (hn2 : n = 6) (hx1 : ¬ x = -1) (hb : (0 ≤ x ∧ x ≤ 11) ∧ (0 ≤ y ∧ y ≤ 11) ∧ 0 ≤ e ∧ e ≤ 15) : vm_K l X vm_M269 [.ref 152, .int x, .int y, .int e] (G, I, F) (some (.int (-4))) (G, I, F) := by
  refine vm_K.mk (by decide) (Nat.le_of_ble_eq_true rfl) ?_
  show vm_J _ _ _ (0, (0, 0), [.ref 152, .int x, .int y, .int e], []) _ _ _
  refine vm_J.go vm_q269 (k := 3) (hs := []) (f' := (bif vm_ic .ne x (-1) then 12 else 5, (0, 0), [.ref 152, .int x, .int y, .int e], [])) (h' := (G, I, F)) (hs' := []) rfl rfl ?_
  refine vm_J.bT (decide_eq_true hx1) ?_
  refine vm_J.go vm_q269 (k := 3) (hs := []) (f' := (16, (0, 0), [.ref 152, .int x, .int y, .int e], [.int 11, .int 0, .int x])) (h' := (G, I, F)) (hs' := []) rfl rfl ?_
  refine vm_J.call vm_q269 (Z := vm_M168) (n := 3) (k := 1) (mi := 168) (pc := 16) (en := (16, .invokestatic 141, 3, [168, 1302, 0], .null)) rfl trivial rfl rfl vm_z168 (av := [.int x, .int 0, .int 11]) (rest := []) (r_isIn_y (v := x) (a := 0) (b := 11) hb.1) rfl (Nat.le_of_ble_eq_true rfl) ⟨Nat.le_of_ble_eq_true rfl, Nat.le_of_ble_eq_true rfl⟩ ⟨Nat.le_of_ble_eq_true rfl, Nat.le_of_ble_eq_true rfl⟩ ?_
  show vm_J _ _ _ (19, (0, 0), [.ref 152, .int x, .int y, .int e], [.int 1]) (G, I, F) _ _
  refine vm_J.go vm_q269 (k := 1) (hs := []) (f' := (bif vm_ic .eq 1 0 then 42 else 22, (0, 0), [.ref 152, .int x, .int y, .int e], [])) (h' := (G, I, F)) (hs' := []) rfl rfl ?_
  refine vm_J.bF (by decide) ?_
  refine vm_J.go vm_q269 (k := 3) (hs := []) (f' := (26, (0, 0), [.ref 152, .int x, .int y, .int e], [.int 11, .int 0, .int y])) (h' := (G, I, F)) (hs' := []) rfl rfl ?_
  refine vm_J.call vm_q269 (Z := vm_M168) (n := 3) (k := 1) (mi := 168) (pc := 26) (en := (26, .invokestatic 141, 3, [168, 1302, 0], .null)) rfl trivial rfl rfl vm_z168 (av := [.int y, .int 0, .int 11]) (rest := []) (r_isIn_y (v := y) (a := 0) (b := 11) hb.2.1) rfl (Nat.le_of_ble_eq_true rfl) ⟨Nat.le_of_ble_eq_true rfl, Nat.le_of_ble_eq_true rfl⟩ ⟨Nat.le_of_ble_eq_true rfl, Nat.le_of_ble_eq_true rfl⟩ ?_
  show vm_J _ _ _ (29, (0, 0), [.ref 152, .int x, .int y, .int e], [.int 1]) (G, I, F) _ _
  refine vm_J.go vm_q269 (k := 1) (hs := []) (f' := (bif vm_ic .eq 1 0 then 42 else 32, (0, 0), [.ref 152, .int x, .int y, .int e], [])) (h' := (G, I, F)) (hs' := []) rfl rfl ?_
  refine vm_J.bF (by decide) ?_
  refine vm_J.go vm_q269 (k := 3) (hs := []) (f' := (36, (0, 0), [.ref 152, .int x, .int y, .int e], [.int 15, .int 0, .int e])) (h' := (G, I, F)) (hs' := []) rfl rfl ?_
  refine vm_J.call vm_q269 (Z := vm_M168) (n := 3) (k := 1) (mi := 168) (pc := 36) (en := (36, .invokestatic 141, 3, [168, 1302, 0], .null)) rfl trivial rfl rfl vm_z168 (av := [.int e, .int 0, .int 15]) (rest := []) (r_isIn_y (v := e) (a := 0) (b := 15) hb.2.2) rfl (Nat.le_of_ble_eq_true rfl) ⟨Nat.le_of_ble_eq_true rfl, Nat.le_of_ble_eq_true rfl⟩ ⟨Nat.le_of_ble_eq_true rfl, Nat.le_of_ble_eq_true rfl⟩ ?_
  show vm_J _ _ _ (39, (0, 0), [.ref 152, .int x, .int y, .int e], [.int 1]) (G, I, F) _ _
  refine vm_J.go vm_q269 (k := 1) (hs := []) (f' := (bif vm_ic .ne 1 0 then 45 else 42, (0, 0), [.ref 152, .int x, .int y, .int e], [])) (h' := (G, I, F)) (hs' := []) rfl rfl ?_
  refine vm_J.bT (by decide) ?_
  refine vm_J.go vm_q269 (k := 2) (hs := [vm_shR]) (f' := (49, (0, 0), [.ref 152, .int x, .int y, .int e], [.int (I 152 49)])) (h' := (G, I, F)) (hs' := []) rfl (vm_b2 rfl (vm_b2 (vm_b2 (vm_hG hR.c152) rfl) rfl)) ?_
  rw [(hn : I 152 49 = nI n)]
  refine vm_J.go vm_q269 (k := 2) (hs := []) (f' := (bif vm_ic .ne (nI n) 6 then 57 else 54, (0, 0), [.ref 152, .int x, .int y, .int e], [])) (h' := (G, I, F)) (hs' := []) rfl rfl ?_
  refine vm_J.br (fun c1 => ?_) (fun c1 => ?_)
  · have c1 := vm_ne_t (a := n) (b := 6) (by omega) (by omega) c1
    exact (show False by omega).elim
  · have c1 := vm_ne_f (a := n) (b := 6) (by omega) (by omega) c1
    refine vm_J.go vm_q269 (k := 1) (hs := []) (f' := (56, (0, 0), [.ref 152, .int x, .int y, .int e], [.int (-4)])) (h' := (G, I, F)) (hs' := []) rfl rfl ?_
    exact vm_J.end vm_q269 (en := (56, .ireturn, 1, [], .null)) rfl rfl vm_rI (Nat.zero_le _) (Nat.zero_le _) rfl
set_option maxHeartbeats 4000000 in
set_option maxRecDepth 20000 in
/-- DitherDeskModel.see -/
theorem r_see_y {l : Launch} {X : vm_Cx} {G : List vm_Sh} {I : Nat → Nat → Int32} {F : Nat → Nat → UInt32} {n : Nat} {x : Int32} {y : Int32} {e : Int32} (hR : vm_isR G) (hn : I 152 49 = nI n) (hn2 : n < 6) (hx1 : ¬ x = -1) (hb : (0 ≤ x ∧ x ≤ 11) ∧ (0 ≤ y ∧ y ≤ 11) ∧ 0 ≤ e ∧ e ≤ 15) : vm_K l X vm_M269 [.ref 152, .int x, .int y, .int e] (G, I, F) (some (.int (nI (n + 1)))) (G, (vm_up (vm_up (vm_up (vm_up I 182 n x) 183 n y) 184 n e) 152 49 (nI (n + 1))), F) := by
  refine vm_K.mk (by decide) (Nat.le_of_ble_eq_true rfl) ?_
  show vm_J _ _ _ (0, (0, 0), [.ref 152, .int x, .int y, .int e], []) _ _ _
  refine vm_J.go vm_q269 (k := 3) (hs := []) (f' := (bif vm_ic .ne x (-1) then 12 else 5, (0, 0), [.ref 152, .int x, .int y, .int e], [])) (h' := (G, I, F)) (hs' := []) rfl rfl ?_
  refine vm_J.bT (decide_eq_true hx1) ?_
  refine vm_J.go vm_q269 (k := 3) (hs := []) (f' := (16, (0, 0), [.ref 152, .int x, .int y, .int e], [.int 11, .int 0, .int x])) (h' := (G, I, F)) (hs' := []) rfl rfl ?_
  refine vm_J.call vm_q269 (Z := vm_M168) (n := 3) (k := 1) (mi := 168) (pc := 16) (en := (16, .invokestatic 141, 3, [168, 1302, 0], .null)) rfl trivial rfl rfl vm_z168 (av := [.int x, .int 0, .int 11]) (rest := []) (r_isIn_y (v := x) (a := 0) (b := 11) hb.1) rfl (Nat.le_of_ble_eq_true rfl) ⟨Nat.le_of_ble_eq_true rfl, Nat.le_of_ble_eq_true rfl⟩ ⟨Nat.le_of_ble_eq_true rfl, Nat.le_of_ble_eq_true rfl⟩ ?_
  show vm_J _ _ _ (19, (0, 0), [.ref 152, .int x, .int y, .int e], [.int 1]) (G, I, F) _ _
  refine vm_J.go vm_q269 (k := 1) (hs := []) (f' := (bif vm_ic .eq 1 0 then 42 else 22, (0, 0), [.ref 152, .int x, .int y, .int e], [])) (h' := (G, I, F)) (hs' := []) rfl rfl ?_
  refine vm_J.bF (by decide) ?_
  refine vm_J.go vm_q269 (k := 3) (hs := []) (f' := (26, (0, 0), [.ref 152, .int x, .int y, .int e], [.int 11, .int 0, .int y])) (h' := (G, I, F)) (hs' := []) rfl rfl ?_
  refine vm_J.call vm_q269 (Z := vm_M168) (n := 3) (k := 1) (mi := 168) (pc := 26) (en := (26, .invokestatic 141, 3, [168, 1302, 0], .null)) rfl trivial rfl rfl vm_z168 (av := [.int y, .int 0, .int 11]) (rest := []) (r_isIn_y (v := y) (a := 0) (b := 11) hb.2.1) rfl (Nat.le_of_ble_eq_true rfl) ⟨Nat.le_of_ble_eq_true rfl, Nat.le_of_ble_eq_true rfl⟩ ⟨Nat.le_of_ble_eq_true rfl, Nat.le_of_ble_eq_true rfl⟩ ?_
  show vm_J _ _ _ (29, (0, 0), [.ref 152, .int x, .int y, .int e], [.int 1]) (G, I, F) _ _
  refine vm_J.go vm_q269 (k := 1) (hs := []) (f' := (bif vm_ic .eq 1 0 then 42 else 32, (0, 0), [.ref 152, .int x, .int y, .int e], [])) (h' := (G, I, F)) (hs' := []) rfl rfl ?_
  refine vm_J.bF (by decide) ?_
  refine vm_J.go vm_q269 (k := 3) (hs := []) (f' := (36, (0, 0), [.ref 152, .int x, .int y, .int e], [.int 15, .int 0, .int e])) (h' := (G, I, F)) (hs' := []) rfl rfl ?_
  refine vm_J.call vm_q269 (Z := vm_M168) (n := 3) (k := 1) (mi := 168) (pc := 36) (en := (36, .invokestatic 141, 3, [168, 1302, 0], .null)) rfl trivial rfl rfl vm_z168 (av := [.int e, .int 0, .int 15]) (rest := []) (r_isIn_y (v := e) (a := 0) (b := 15) hb.2.2) rfl (Nat.le_of_ble_eq_true rfl) ⟨Nat.le_of_ble_eq_true rfl, Nat.le_of_ble_eq_true rfl⟩ ⟨Nat.le_of_ble_eq_true rfl, Nat.le_of_ble_eq_true rfl⟩ ?_
  show vm_J _ _ _ (39, (0, 0), [.ref 152, .int x, .int y, .int e], [.int 1]) (G, I, F) _ _
  refine vm_J.go vm_q269 (k := 1) (hs := []) (f' := (bif vm_ic .ne 1 0 then 45 else 42, (0, 0), [.ref 152, .int x, .int y, .int e], [])) (h' := (G, I, F)) (hs' := []) rfl rfl ?_
  refine vm_J.bT (by decide) ?_
  refine vm_J.go vm_q269 (k := 2) (hs := [vm_shR]) (f' := (49, (0, 0), [.ref 152, .int x, .int y, .int e], [.int (I 152 49)])) (h' := (G, I, F)) (hs' := []) rfl (vm_b2 rfl (vm_b2 (vm_b2 (vm_hG hR.c152) rfl) rfl)) ?_
  rw [(hn : I 152 49 = nI n)]
  refine vm_J.go vm_q269 (k := 2) (hs := []) (f' := (bif vm_ic .ne (nI n) 6 then 57 else 54, (0, 0), [.ref 152, .int x, .int y, .int e], [])) (h' := (G, I, F)) (hs' := []) rfl rfl ?_
  refine vm_J.br (fun c1 => ?_) (fun c1 => ?_)
  · have c1 := vm_ne_t (a := n) (b := 6) (by omega) (by omega) c1
    refine vm_J.go vm_q269 (k := 4) (hs := [vm_shR, vm_shR]) (f' := (65, (0, 0), [.ref 152, .int x, .int y, .int e], [.int (I 152 49), .ref 182])) (h' := (G, I, F)) (hs' := []) rfl (vm_b2 rfl (vm_b2 (vm_b2 (vm_hG hR.c152) rfl) (vm_b2 rfl (vm_b2 (vm_b2 (vm_hG hR.c152) rfl) rfl)))) ?_
    rw [(hn : I 152 49 = nI n)]
    refine vm_J.go vm_q269 (k := 6) (hs := [(0, 6, []), vm_shR, vm_shR]) (f' := (75, (0, 0), [.ref 152, .int x, .int y, .int e], [.int ((vm_up I 182 ((nI n).toNatClampNeg) x) 152 49), .ref 183])) (h' := (G, (vm_up I 182 ((nI n).toNatClampNeg) x), F)) (hs' := []) rfl (vm_b2 rfl (vm_b2 (vm_b2 (vm_hG hR.c182) (vm_in_e (j := n) (n := 6) rfl (by omega) (by omega))) (vm_b2 rfl (vm_b2 (vm_b2 (vm_hG hR.c152) rfl) (vm_b2 rfl (vm_b2 (vm_b2 (vm_hG hR.c152) rfl) rfl)))))) ?_
    rw [vm_ix_e (j := n) rfl (by omega)]
    rw [((Eq.trans (congrFun (vm_up_f _ 182 _ _ 152 (by decide)) 49) hn) : (vm_up I 182 (n) x) 152 49 = nI n)]
    refine vm_J.go vm_q269 (k := 6) (hs := [(0, 6, []), vm_shR, vm_shR]) (f' := (85, (0, 0), [.ref 152, .int x, .int y, .int e], [.int ((vm_up (vm_up I 182 (n) x) 183 ((nI n).toNatClampNeg) y) 152 49), .ref 184])) (h' := (G, (vm_up (vm_up I 182 (n) x) 183 ((nI n).toNatClampNeg) y), F)) (hs' := []) rfl (vm_b2 rfl (vm_b2 (vm_b2 (vm_hG hR.c183) (vm_in_e (j := n) (n := 6) rfl (by omega) (by omega))) (vm_b2 rfl (vm_b2 (vm_b2 (vm_hG hR.c152) rfl) (vm_b2 rfl (vm_b2 (vm_b2 (vm_hG hR.c152) rfl) rfl)))))) ?_
    rw [vm_ix_e (j := n) rfl (by omega)]
    rw [((Eq.trans (congrFun (vm_up_f _ 183 _ _ 152 (by decide)) 49) (Eq.trans (congrFun (vm_up_f _ 182 _ _ 152 (by decide)) 49) hn)) : (vm_up (vm_up I 182 (n) x) 183 (n) y) 152 49 = nI n)]
    refine vm_J.go vm_q269 (k := 5) (hs := [(0, 6, []), vm_shR]) (f' := (92, (0, 0), [.ref 152, .int x, .int y, .int e], [.int ((vm_up (vm_up (vm_up I 182 (n) x) 183 (n) y) 184 ((nI n).toNatClampNeg) e) 152 49), .ref 152])) (h' := (G, (vm_up (vm_up (vm_up I 182 (n) x) 183 (n) y) 184 ((nI n).toNatClampNeg) e), F)) (hs' := []) rfl (vm_b2 rfl (vm_b2 (vm_b2 (vm_hG hR.c184) (vm_in_e (j := n) (n := 6) rfl (by omega) (by omega))) (vm_b2 rfl (vm_b2 rfl (vm_b2 (vm_b2 (vm_hG hR.c152) rfl) rfl))))) ?_
    rw [vm_ix_e (j := n) rfl (by omega)]
    rw [((Eq.trans (congrFun (vm_up_f _ 184 _ _ 152 (by decide)) 49) (Eq.trans (congrFun (vm_up_f _ 183 _ _ 152 (by decide)) 49) (Eq.trans (congrFun (vm_up_f _ 182 _ _ 152 (by decide)) 49) hn))) : (vm_up (vm_up (vm_up I 182 (n) x) 183 (n) y) 184 (n) e) 152 49 = nI n)]
    refine vm_J.go vm_q269 (k := 2) (hs := []) (f' := (94, (0, 0), [.ref 152, .int x, .int y, .int e], [.int ((nI n) + 1), .ref 152])) (h' := (G, (vm_up (vm_up (vm_up I 182 (n) x) 183 (n) y) 184 (n) e), F)) (hs' := []) rfl rfl ?_
    rw [((vm_pa (rfl : (nI n : Int32) = nI n) (rfl : (1 : Int32) = nI 1)) : (nI n) + 1 = nI (n + 1))]
    refine vm_J.go vm_q269 (k := 3) (hs := [vm_shR, vm_shR]) (f' := (101, (0, 0), [.ref 152, .int x, .int y, .int e], [.int ((vm_up (vm_up (vm_up (vm_up I 182 (n) x) 183 (n) y) 184 (n) e) 152 49 (nI (n + 1))) 152 49)])) (h' := (G, (vm_up (vm_up (vm_up (vm_up I 182 (n) x) 183 (n) y) 184 (n) e) 152 49 (nI (n + 1))), F)) (hs' := []) rfl (vm_b2 (vm_b2 (vm_b2 (vm_hG hR.c152) rfl) rfl) (vm_b2 rfl (vm_b2 (vm_b2 (vm_hG hR.c152) rfl) rfl))) ?_
    rw [((vm_up_h _ 152 49 _) : (vm_up (vm_up (vm_up (vm_up I 182 (n) x) 183 (n) y) 184 (n) e) 152 49 (nI (n + 1))) 152 49 = nI (n + 1))]
    exact vm_J.end vm_q269 (en := (101, .ireturn, 1, [], .null)) rfl rfl vm_rI (Nat.zero_le _) (Nat.zero_le _) rfl
  · have c1 := vm_ne_f (a := n) (b := 6) (by omega) (by omega) c1
    exact (show False by omega).elim
set_option maxHeartbeats 4000000 in
set_option maxRecDepth 20000 in
/-- DitherDeskModel.plan -/
theorem r_plan_c {l : Launch} {X : vm_Cx} {G : List vm_Sh} {I : Nat → Nat → Int32} {F : Nat → Nat → UInt32} {v : Int32} (hR : vm_isR G) : vm_K l X vm_M282 [.ref 152, .int (-1), .int v] (G, I, F) (some (.int 0)) (G, (vm_up I 152 50 0), F) := by
  refine vm_K.mk (by decide) (Nat.le_of_ble_eq_true rfl) ?_
  show vm_J _ _ _ (0, (0, 0), [.ref 152, .int (-1), .int v], []) _ _ _
  refine vm_J.go vm_q282 (k := 3) (hs := []) (f' := (bif vm_ic .ne (-1) (-1) then 12 else 5, (0, 0), [.ref 152, .int (-1), .int v], [])) (h' := (G, I, F)) (hs' := []) rfl rfl ?_
  refine vm_J.bF (by decide) ?_
  refine vm_J.go vm_q282 (k := 4) (hs := [vm_shR]) (f' := (11, (0, 0), [.ref 152, .int (-1), .int v], [.int 0])) (h' := (G, (vm_up I 152 50 0), F)) (hs' := []) rfl (vm_b2 rfl (vm_b2 rfl (vm_b2 (vm_b2 (vm_b2 (vm_hG hR.c152) rfl) rfl) (vm_b2 rfl rfl)))) ?_
  exact vm_J.end vm_q282 (en := (11, .ireturn, 1, [], .null)) rfl rfl vm_rI (Nat.zero_le _) (Nat.zero_le _) rfl
set_option maxHeartbeats 4000000 in
set_option maxRecDepth 20000 in
/-- DitherDeskModel.plan -/
theorem r_plan_x {l : Launch} {X : vm_Cx} {G : List vm_Sh} {I : Nat → Nat → Int32} {F : Nat → Nat → UInt32} {x : Int32} {v : Int32} (hR : vm_isR G) (hx1 : ¬ x = -1) (hx : ¬ (0 ≤ x ∧ x ≤ 3)) : vm_K l X vm_M282 [.ref 152, .int x, .int v] (G, I, F) (some (.int (-1))) (G, I, F) := by
  refine vm_K.mk (by decide) (Nat.le_of_ble_eq_true rfl) ?_
  show vm_J _ _ _ (0, (0, 0), [.ref 152, .int x, .int v], []) _ _ _
  refine vm_J.go vm_q282 (k := 3) (hs := []) (f' := (bif vm_ic .ne x (-1) then 12 else 5, (0, 0), [.ref 152, .int x, .int v], [])) (h' := (G, I, F)) (hs' := []) rfl rfl ?_
  refine vm_J.bT (decide_eq_true hx1) ?_
  refine vm_J.go vm_q282 (k := 3) (hs := []) (f' := (15, (0, 0), [.ref 152, .int x, .int v], [.int 3, .int 0, .int x])) (h' := (G, I, F)) (hs' := []) rfl rfl ?_
  refine vm_J.call vm_q282 (Z := vm_M168) (n := 3) (k := 1) (mi := 168) (pc := 15) (en := (15, .invokestatic 141, 3, [168, 1302, 0], .null)) rfl trivial rfl rfl vm_z168 (av := [.int x, .int 0, .int 3]) (rest := []) (r_isIn_n (v := x) (a := 0) (b := 3) hx) rfl (Nat.le_of_ble_eq_true rfl) ⟨Nat.le_of_ble_eq_true rfl, Nat.le_of_ble_eq_true rfl⟩ ⟨Nat.le_of_ble_eq_true rfl, Nat.le_of_ble_eq_true rfl⟩ ?_
  show vm_J _ _ _ (18, (0, 0), [.ref 152, .int x, .int v], [.int 0]) (G, I, F) _ _
  refine vm_J.go vm_q282 (k := 1) (hs := []) (f' := (bif vm_ic .eq 0 0 then 32 else 21, (0, 0), [.ref 152, .int x, .int v], [])) (h' := (G, I, F)) (hs' := []) rfl rfl ?_
  refine vm_J.bT (by decide) ?_
  refine vm_J.go vm_q282 (k := 1) (hs := []) (f' := (33, (0, 0), [.ref 152, .int x, .int v], [.int (-1)])) (h' := (G, I, F)) (hs' := []) rfl rfl ?_
  exact vm_J.end vm_q282 (en := (33, .ireturn, 1, [], .null)) rfl rfl vm_rI (Nat.zero_le _) (Nat.zero_le _) rfl
set_option maxHeartbeats 4000000 in
set_option maxRecDepth 20000 in
/-- DitherDeskModel.plan -/
theorem r_plan_b0 {l : Launch} {X : vm_Cx} {G : List vm_Sh} {I : Nat → Nat → Int32} {F : Nat → Nat → UInt32} {v : Int32} (hR : vm_isR G) (hv : ¬ (0 ≤ v ∧ v ≤ 3)) : vm_K l X vm_M282 [.ref 152, .int 0, .int v] (G, I, F) (some (.int (-1))) (G, I, F) := by
  refine vm_K.mk (by decide) (Nat.le_of_ble_eq_true rfl) ?_
  show vm_J _ _ _ (0, (0, 0), [.ref 152, .int 0, .int v], []) _ _ _
  refine vm_J.go vm_q282 (k := 3) (hs := []) (f' := (bif vm_ic .ne 0 (-1) then 12 else 5, (0, 0), [.ref 152, .int 0, .int v], [])) (h' := (G, I, F)) (hs' := []) rfl rfl ?_
  refine vm_J.bT (by decide) ?_
  refine vm_J.go vm_q282 (k := 3) (hs := []) (f' := (15, (0, 0), [.ref 152, .int 0, .int v], [.int 3, .int 0, .int 0])) (h' := (G, I, F)) (hs' := []) rfl rfl ?_
  refine vm_J.call vm_q282 (Z := vm_M168) (n := 3) (k := 1) (mi := 168) (pc := 15) (en := (15, .invokestatic 141, 3, [168, 1302, 0], .null)) rfl trivial rfl rfl vm_z168 (av := [.int 0, .int 0, .int 3]) (rest := []) (r_isIn_y (v := 0) (a := 0) (b := 3) (by decide)) rfl (Nat.le_of_ble_eq_true rfl) ⟨Nat.le_of_ble_eq_true rfl, Nat.le_of_ble_eq_true rfl⟩ ⟨Nat.le_of_ble_eq_true rfl, Nat.le_of_ble_eq_true rfl⟩ ?_
  show vm_J _ _ _ (18, (0, 0), [.ref 152, .int 0, .int v], [.int 1]) (G, I, F) _ _
  refine vm_J.go vm_q282 (k := 1) (hs := []) (f' := (bif vm_ic .eq 1 0 then 32 else 21, (0, 0), [.ref 152, .int 0, .int v], [])) (h' := (G, I, F)) (hs' := []) rfl rfl ?_
  refine vm_J.bF (by decide) ?_
  refine vm_J.go vm_q282 (k := 2) (hs := []) (f' := (bif vm_ic .ne 0 0 then 34 else 25, (0, 0), [.ref 152, .int 0, .int v], [])) (h' := (G, I, F)) (hs' := []) rfl rfl ?_
  refine vm_J.bF (by decide) ?_
  refine vm_J.go vm_q282 (k := 1) (hs := []) (f' := (26, (0, 0), [.ref 152, .int 0, .int v], [.int v])) (h' := (G, I, F)) (hs' := []) rfl rfl ?_
  refine vm_J.call vm_q282 (Z := vm_M173) (n := 1) (k := 1) (mi := 173) (pc := 26) (en := (26, .invokestatic 145, 3, [173, 1453, 0], .null)) rfl trivial rfl rfl vm_z173 (av := [.int v]) (rest := []) (r_isPalette_n (c := v) hv) rfl (Nat.le_of_ble_eq_true rfl) ⟨Nat.le_of_ble_eq_true rfl, Nat.le_of_ble_eq_true rfl⟩ ⟨Nat.le_of_ble_eq_true rfl, Nat.le_of_ble_eq_true rfl⟩ ?_
  show vm_J _ _ _ (29, (0, 0), [.ref 152, .int 0, .int v], [.int 0]) (G, I, F) _ _
  refine vm_J.go vm_q282 (k := 1) (hs := []) (f' := (bif vm_ic .ne 0 0 then 34 else 32, (0, 0), [.ref 152, .int 0, .int v], [])) (h' := (G, I, F)) (hs' := []) rfl rfl ?_
  refine vm_J.bF (by decide) ?_
  refine vm_J.go vm_q282 (k := 1) (hs := []) (f' := (33, (0, 0), [.ref 152, .int 0, .int v], [.int (-1)])) (h' := (G, I, F)) (hs' := []) rfl rfl ?_
  exact vm_J.end vm_q282 (en := (33, .ireturn, 1, [], .null)) rfl rfl vm_rI (Nat.zero_le _) (Nat.zero_le _) rfl
set_option maxHeartbeats 4000000 in
set_option maxRecDepth 20000 in
/-- DitherDeskModel.plan -/
theorem r_plan_f0 {l : Launch} {X : vm_Cx} {G : List vm_Sh} {I : Nat → Nat → Int32} {F : Nat → Nat → UInt32} {n : Nat} {v : Int32} (hR : vm_isR G) (hn : I 152 50 = nI n) (hn2 : n = 8) (hv : 0 ≤ v ∧ v ≤ 3) : vm_K l X vm_M282 [.ref 152, .int 0, .int v] (G, I, F) (some (.int (-4))) (G, I, F) := by
  refine vm_K.mk (by decide) (Nat.le_of_ble_eq_true rfl) ?_
  show vm_J _ _ _ (0, (0, 0), [.ref 152, .int 0, .int v], []) _ _ _
  refine vm_J.go vm_q282 (k := 3) (hs := []) (f' := (bif vm_ic .ne 0 (-1) then 12 else 5, (0, 0), [.ref 152, .int 0, .int v], [])) (h' := (G, I, F)) (hs' := []) rfl rfl ?_
  refine vm_J.bT (by decide) ?_
  refine vm_J.go vm_q282 (k := 3) (hs := []) (f' := (15, (0, 0), [.ref 152, .int 0, .int v], [.int 3, .int 0, .int 0])) (h' := (G, I, F)) (hs' := []) rfl rfl ?_
  refine vm_J.call vm_q282 (Z := vm_M168) (n := 3) (k := 1) (mi := 168) (pc := 15) (en := (15, .invokestatic 141, 3, [168, 1302, 0], .null)) rfl trivial rfl rfl vm_z168 (av := [.int 0, .int 0, .int 3]) (rest := []) (r_isIn_y (v := 0) (a := 0) (b := 3) (by decide)) rfl (Nat.le_of_ble_eq_true rfl) ⟨Nat.le_of_ble_eq_true rfl, Nat.le_of_ble_eq_true rfl⟩ ⟨Nat.le_of_ble_eq_true rfl, Nat.le_of_ble_eq_true rfl⟩ ?_
  show vm_J _ _ _ (18, (0, 0), [.ref 152, .int 0, .int v], [.int 1]) (G, I, F) _ _
  refine vm_J.go vm_q282 (k := 1) (hs := []) (f' := (bif vm_ic .eq 1 0 then 32 else 21, (0, 0), [.ref 152, .int 0, .int v], [])) (h' := (G, I, F)) (hs' := []) rfl rfl ?_
  refine vm_J.bF (by decide) ?_
  refine vm_J.go vm_q282 (k := 2) (hs := []) (f' := (bif vm_ic .ne 0 0 then 34 else 25, (0, 0), [.ref 152, .int 0, .int v], [])) (h' := (G, I, F)) (hs' := []) rfl rfl ?_
  refine vm_J.bF (by decide) ?_
  refine vm_J.go vm_q282 (k := 1) (hs := []) (f' := (26, (0, 0), [.ref 152, .int 0, .int v], [.int v])) (h' := (G, I, F)) (hs' := []) rfl rfl ?_
  refine vm_J.call vm_q282 (Z := vm_M173) (n := 1) (k := 1) (mi := 173) (pc := 26) (en := (26, .invokestatic 145, 3, [173, 1453, 0], .null)) rfl trivial rfl rfl vm_z173 (av := [.int v]) (rest := []) (r_isPalette_y (c := v) hv) rfl (Nat.le_of_ble_eq_true rfl) ⟨Nat.le_of_ble_eq_true rfl, Nat.le_of_ble_eq_true rfl⟩ ⟨Nat.le_of_ble_eq_true rfl, Nat.le_of_ble_eq_true rfl⟩ ?_
  show vm_J _ _ _ (29, (0, 0), [.ref 152, .int 0, .int v], [.int 1]) (G, I, F) _ _
  refine vm_J.go vm_q282 (k := 1) (hs := []) (f' := (bif vm_ic .ne 1 0 then 34 else 32, (0, 0), [.ref 152, .int 0, .int v], [])) (h' := (G, I, F)) (hs' := []) rfl rfl ?_
  refine vm_J.bT (by decide) ?_
  refine vm_J.go vm_q282 (k := 2) (hs := []) (f' := (bif vm_ic .le 0 0 then 69 else 38, (0, 0), [.ref 152, .int 0, .int v], [])) (h' := (G, I, F)) (hs' := []) rfl rfl ?_
  refine vm_J.bT (by decide) ?_
  refine vm_J.go vm_q282 (k := 2) (hs := [vm_shR]) (f' := (73, (0, 0), [.ref 152, .int 0, .int v], [.int (I 152 50)])) (h' := (G, I, F)) (hs' := []) rfl (vm_b2 rfl (vm_b2 (vm_b2 (vm_hG hR.c152) rfl) rfl)) ?_
  rw [(hn : I 152 50 = nI n)]
  refine vm_J.go vm_q282 (k := 2) (hs := []) (f' := (bif vm_ic .ne (nI n) 8 then 81 else 78, (0, 0), [.ref 152, .int 0, .int v], [])) (h' := (G, I, F)) (hs' := []) rfl rfl ?_
  refine vm_J.br (fun c1 => ?_) (fun c1 => ?_)
  · have c1 := vm_ne_t (a := n) (b := 8) (by omega) (by omega) c1
    exact (show False by omega).elim
  · have c1 := vm_ne_f (a := n) (b := 8) (by omega) (by omega) c1
    refine vm_J.go vm_q282 (k := 1) (hs := []) (f' := (80, (0, 0), [.ref 152, .int 0, .int v], [.int (-4)])) (h' := (G, I, F)) (hs' := []) rfl rfl ?_
    exact vm_J.end vm_q282 (en := (80, .ireturn, 1, [], .null)) rfl rfl vm_rI (Nat.zero_le _) (Nat.zero_le _) rfl
set_option maxHeartbeats 4000000 in
set_option maxRecDepth 20000 in
/-- DitherDeskModel.plan -/
theorem r_plan_y0 {l : Launch} {X : vm_Cx} {G : List vm_Sh} {I : Nat → Nat → Int32} {F : Nat → Nat → UInt32} {n : Nat} {v : Int32} (hR : vm_isR G) (hn : I 152 50 = nI n) (hn2 : n < 8) (hv : 0 ≤ v ∧ v ≤ 3) : vm_K l X vm_M282 [.ref 152, .int 0, .int v] (G, I, F) (some (.int (nI (n + 1)))) (G, (vm_up (vm_up (vm_up I 185 n 0) 186 n v) 152 50 (nI (n + 1))), F) := by
  refine vm_K.mk (by decide) (Nat.le_of_ble_eq_true rfl) ?_
  show vm_J _ _ _ (0, (0, 0), [.ref 152, .int 0, .int v], []) _ _ _
  refine vm_J.go vm_q282 (k := 3) (hs := []) (f' := (bif vm_ic .ne 0 (-1) then 12 else 5, (0, 0), [.ref 152, .int 0, .int v], [])) (h' := (G, I, F)) (hs' := []) rfl rfl ?_
  refine vm_J.bT (by decide) ?_
  refine vm_J.go vm_q282 (k := 3) (hs := []) (f' := (15, (0, 0), [.ref 152, .int 0, .int v], [.int 3, .int 0, .int 0])) (h' := (G, I, F)) (hs' := []) rfl rfl ?_
  refine vm_J.call vm_q282 (Z := vm_M168) (n := 3) (k := 1) (mi := 168) (pc := 15) (en := (15, .invokestatic 141, 3, [168, 1302, 0], .null)) rfl trivial rfl rfl vm_z168 (av := [.int 0, .int 0, .int 3]) (rest := []) (r_isIn_y (v := 0) (a := 0) (b := 3) (by decide)) rfl (Nat.le_of_ble_eq_true rfl) ⟨Nat.le_of_ble_eq_true rfl, Nat.le_of_ble_eq_true rfl⟩ ⟨Nat.le_of_ble_eq_true rfl, Nat.le_of_ble_eq_true rfl⟩ ?_
  show vm_J _ _ _ (18, (0, 0), [.ref 152, .int 0, .int v], [.int 1]) (G, I, F) _ _
  refine vm_J.go vm_q282 (k := 1) (hs := []) (f' := (bif vm_ic .eq 1 0 then 32 else 21, (0, 0), [.ref 152, .int 0, .int v], [])) (h' := (G, I, F)) (hs' := []) rfl rfl ?_
  refine vm_J.bF (by decide) ?_
  refine vm_J.go vm_q282 (k := 2) (hs := []) (f' := (bif vm_ic .ne 0 0 then 34 else 25, (0, 0), [.ref 152, .int 0, .int v], [])) (h' := (G, I, F)) (hs' := []) rfl rfl ?_
  refine vm_J.bF (by decide) ?_
  refine vm_J.go vm_q282 (k := 1) (hs := []) (f' := (26, (0, 0), [.ref 152, .int 0, .int v], [.int v])) (h' := (G, I, F)) (hs' := []) rfl rfl ?_
  refine vm_J.call vm_q282 (Z := vm_M173) (n := 1) (k := 1) (mi := 173) (pc := 26) (en := (26, .invokestatic 145, 3, [173, 1453, 0], .null)) rfl trivial rfl rfl vm_z173 (av := [.int v]) (rest := []) (r_isPalette_y (c := v) hv) rfl (Nat.le_of_ble_eq_true rfl) ⟨Nat.le_of_ble_eq_true rfl, Nat.le_of_ble_eq_true rfl⟩ ⟨Nat.le_of_ble_eq_true rfl, Nat.le_of_ble_eq_true rfl⟩ ?_
  show vm_J _ _ _ (29, (0, 0), [.ref 152, .int 0, .int v], [.int 1]) (G, I, F) _ _
  refine vm_J.go vm_q282 (k := 1) (hs := []) (f' := (bif vm_ic .ne 1 0 then 34 else 32, (0, 0), [.ref 152, .int 0, .int v], [])) (h' := (G, I, F)) (hs' := []) rfl rfl ?_
  refine vm_J.bT (by decide) ?_
  refine vm_J.go vm_q282 (k := 2) (hs := []) (f' := (bif vm_ic .le 0 0 then 69 else 38, (0, 0), [.ref 152, .int 0, .int v], [])) (h' := (G, I, F)) (hs' := []) rfl rfl ?_
  refine vm_J.bT (by decide) ?_
  refine vm_J.go vm_q282 (k := 2) (hs := [vm_shR]) (f' := (73, (0, 0), [.ref 152, .int 0, .int v], [.int (I 152 50)])) (h' := (G, I, F)) (hs' := []) rfl (vm_b2 rfl (vm_b2 (vm_b2 (vm_hG hR.c152) rfl) rfl)) ?_
  rw [(hn : I 152 50 = nI n)]
  refine vm_J.go vm_q282 (k := 2) (hs := []) (f' := (bif vm_ic .ne (nI n) 8 then 81 else 78, (0, 0), [.ref 152, .int 0, .int v], [])) (h' := (G, I, F)) (hs' := []) rfl rfl ?_
  refine vm_J.br (fun c1 => ?_) (fun c1 => ?_)
  · have c1 := vm_ne_t (a := n) (b := 8) (by omega) (by omega) c1
    refine vm_J.go vm_q282 (k := 4) (hs := [vm_shR, vm_shR]) (f' := (89, (0, 0), [.ref 152, .int 0, .int v], [.int (I 152 50), .ref 185])) (h' := (G, I, F)) (hs' := []) rfl (vm_b2 rfl (vm_b2 (vm_b2 (vm_hG hR.c152) rfl) (vm_b2 rfl (vm_b2 (vm_b2 (vm_hG hR.c152) rfl) rfl)))) ?_
    rw [(hn : I 152 50 = nI n)]
    refine vm_J.go vm_q282 (k := 6) (hs := [(0, 8, []), vm_shR, vm_shR]) (f' := (99, (0, 0), [.ref 152, .int 0, .int v], [.int ((vm_up I 185 ((nI n).toNatClampNeg) 0) 152 50), .ref 186])) (h' := (G, (vm_up I 185 ((nI n).toNatClampNeg) 0), F)) (hs' := []) rfl (vm_b2 rfl (vm_b2 (vm_b2 (vm_hG hR.c185) (vm_in_e (j := n) (n := 8) rfl (by omega) (by omega))) (vm_b2 rfl (vm_b2 (vm_b2 (vm_hG hR.c152) rfl) (vm_b2 rfl (vm_b2 (vm_b2 (vm_hG hR.c152) rfl) rfl)))))) ?_
    rw [vm_ix_e (j := n) rfl (by omega)]
    rw [((Eq.trans (congrFun (vm_up_f _ 185 _ _ 152 (by decide)) 50) hn) : (vm_up I 185 (n) 0) 152 50 = nI n)]
    refine vm_J.go vm_q282 (k := 5) (hs := [(0, 8, []), vm_shR]) (f' := (106, (0, 0), [.ref 152, .int 0, .int v], [.int ((vm_up (vm_up I 185 (n) 0) 186 ((nI n).toNatClampNeg) v) 152 50), .ref 152])) (h' := (G, (vm_up (vm_up I 185 (n) 0) 186 ((nI n).toNatClampNeg) v), F)) (hs' := []) rfl (vm_b2 rfl (vm_b2 (vm_b2 (vm_hG hR.c186) (vm_in_e (j := n) (n := 8) rfl (by omega) (by omega))) (vm_b2 rfl (vm_b2 rfl (vm_b2 (vm_b2 (vm_hG hR.c152) rfl) rfl))))) ?_
    rw [vm_ix_e (j := n) rfl (by omega)]
    rw [((Eq.trans (congrFun (vm_up_f _ 186 _ _ 152 (by decide)) 50) (Eq.trans (congrFun (vm_up_f _ 185 _ _ 152 (by decide)) 50) hn)) : (vm_up (vm_up I 185 (n) 0) 186 (n) v) 152 50 = nI n)]
    refine vm_J.go vm_q282 (k := 2) (hs := []) (f' := (108, (0, 0), [.ref 152, .int 0, .int v], [.int ((nI n) + 1), .ref 152])) (h' := (G, (vm_up (vm_up I 185 (n) 0) 186 (n) v), F)) (hs' := []) rfl rfl ?_
    rw [((vm_pa (rfl : (nI n : Int32) = nI n) (rfl : (1 : Int32) = nI 1)) : (nI n) + 1 = nI (n + 1))]
    refine vm_J.go vm_q282 (k := 3) (hs := [vm_shR, vm_shR]) (f' := (115, (0, 0), [.ref 152, .int 0, .int v], [.int ((vm_up (vm_up (vm_up I 185 (n) 0) 186 (n) v) 152 50 (nI (n + 1))) 152 50)])) (h' := (G, (vm_up (vm_up (vm_up I 185 (n) 0) 186 (n) v) 152 50 (nI (n + 1))), F)) (hs' := []) rfl (vm_b2 (vm_b2 (vm_b2 (vm_hG hR.c152) rfl) rfl) (vm_b2 rfl (vm_b2 (vm_b2 (vm_hG hR.c152) rfl) rfl))) ?_
    rw [((vm_up_h _ 152 50 _) : (vm_up (vm_up (vm_up I 185 (n) 0) 186 (n) v) 152 50 (nI (n + 1))) 152 50 = nI (n + 1))]
    exact vm_J.end vm_q282 (en := (115, .ireturn, 1, [], .null)) rfl rfl vm_rI (Nat.zero_le _) (Nat.zero_le _) rfl
  · have c1 := vm_ne_f (a := n) (b := 8) (by omega) (by omega) c1
    exact (show False by omega).elim
set_option maxHeartbeats 4000000 in
set_option maxRecDepth 20000 in
/-- DitherDeskModel.plan -/
theorem r_plan_b1 {l : Launch} {X : vm_Cx} {G : List vm_Sh} {I : Nat → Nat → Int32} {F : Nat → Nat → UInt32} {v : Int32} (hR : vm_isR G) (hv : ¬ (0 ≤ v ∧ v ≤ 3)) : vm_K l X vm_M282 [.ref 152, .int 1, .int v] (G, I, F) (some (.int (-2))) (G, I, F) := by
  refine vm_K.mk (by decide) (Nat.le_of_ble_eq_true rfl) ?_
  show vm_J _ _ _ (0, (0, 0), [.ref 152, .int 1, .int v], []) _ _ _
  refine vm_J.go vm_q282 (k := 3) (hs := []) (f' := (bif vm_ic .ne 1 (-1) then 12 else 5, (0, 0), [.ref 152, .int 1, .int v], [])) (h' := (G, I, F)) (hs' := []) rfl rfl ?_
  refine vm_J.bT (by decide) ?_
  refine vm_J.go vm_q282 (k := 3) (hs := []) (f' := (15, (0, 0), [.ref 152, .int 1, .int v], [.int 3, .int 0, .int 1])) (h' := (G, I, F)) (hs' := []) rfl rfl ?_
  refine vm_J.call vm_q282 (Z := vm_M168) (n := 3) (k := 1) (mi := 168) (pc := 15) (en := (15, .invokestatic 141, 3, [168, 1302, 0], .null)) rfl trivial rfl rfl vm_z168 (av := [.int 1, .int 0, .int 3]) (rest := []) (r_isIn_y (v := 1) (a := 0) (b := 3) (by decide)) rfl (Nat.le_of_ble_eq_true rfl) ⟨Nat.le_of_ble_eq_true rfl, Nat.le_of_ble_eq_true rfl⟩ ⟨Nat.le_of_ble_eq_true rfl, Nat.le_of_ble_eq_true rfl⟩ ?_
  show vm_J _ _ _ (18, (0, 0), [.ref 152, .int 1, .int v], [.int 1]) (G, I, F) _ _
  refine vm_J.go vm_q282 (k := 1) (hs := []) (f' := (bif vm_ic .eq 1 0 then 32 else 21, (0, 0), [.ref 152, .int 1, .int v], [])) (h' := (G, I, F)) (hs' := []) rfl rfl ?_
  refine vm_J.bF (by decide) ?_
  refine vm_J.go vm_q282 (k := 2) (hs := []) (f' := (bif vm_ic .ne 1 0 then 34 else 25, (0, 0), [.ref 152, .int 1, .int v], [])) (h' := (G, I, F)) (hs' := []) rfl rfl ?_
  refine vm_J.bT (by decide) ?_
  refine vm_J.go vm_q282 (k := 2) (hs := []) (f' := (bif vm_ic .le 1 0 then 69 else 38, (0, 0), [.ref 152, .int 1, .int v], [])) (h' := (G, I, F)) (hs' := []) rfl rfl ?_
  refine vm_J.bF (by decide) ?_
  refine vm_J.go vm_q282 (k := 5) (hs := []) (f' := (bif vm_ic .ne 1 1 then 49 else 45, (0, 0), [.ref 152, .int 1, .int v], [.int 0, .int v])) (h' := (G, I, F)) (hs' := []) rfl rfl ?_
  refine vm_J.bF (by decide) ?_
  refine vm_J.go vm_q282 (k := 2) (hs := []) (f' := (60, (0, 0), [.ref 152, .int 1, .int v], [.int 3, .int 0, .int v])) (h' := (G, I, F)) (hs' := []) rfl rfl ?_
  refine vm_J.call vm_q282 (Z := vm_M168) (n := 3) (k := 1) (mi := 168) (pc := 60) (en := (60, .invokestatic 141, 3, [168, 1302, 0], .null)) rfl trivial rfl rfl vm_z168 (av := [.int v, .int 0, .int 3]) (rest := []) (r_isIn_n (v := v) (a := 0) (b := 3) hv) rfl (Nat.le_of_ble_eq_true rfl) ⟨Nat.le_of_ble_eq_true rfl, Nat.le_of_ble_eq_true rfl⟩ ⟨Nat.le_of_ble_eq_true rfl, Nat.le_of_ble_eq_true rfl⟩ ?_
  show vm_J _ _ _ (63, (0, 0), [.ref 152, .int 1, .int v], [.int 0]) (G, I, F) _ _
  refine vm_J.go vm_q282 (k := 1) (hs := []) (f' := (bif vm_ic .ne 0 0 then 69 else 66, (0, 0), [.ref 152, .int 1, .int v], [])) (h' := (G, I, F)) (hs' := []) rfl rfl ?_
  refine vm_J.bF (by decide) ?_
  refine vm_J.go vm_q282 (k := 1) (hs := []) (f' := (68, (0, 0), [.ref 152, .int 1, .int v], [.int (-2)])) (h' := (G, I, F)) (hs' := []) rfl rfl ?_
  exact vm_J.end vm_q282 (en := (68, .ireturn, 1, [], .null)) rfl rfl vm_rI (Nat.zero_le _) (Nat.zero_le _) rfl
set_option maxHeartbeats 4000000 in
set_option maxRecDepth 20000 in
/-- DitherDeskModel.plan -/
theorem r_plan_f1 {l : Launch} {X : vm_Cx} {G : List vm_Sh} {I : Nat → Nat → Int32} {F : Nat → Nat → UInt32} {n : Nat} {v : Int32} (hR : vm_isR G) (hn : I 152 50 = nI n) (hn2 : n = 8) (hv : 0 ≤ v ∧ v ≤ 3) : vm_K l X vm_M282 [.ref 152, .int 1, .int v] (G, I, F) (some (.int (-4))) (G, I, F) := by
  refine vm_K.mk (by decide) (Nat.le_of_ble_eq_true rfl) ?_
  show vm_J _ _ _ (0, (0, 0), [.ref 152, .int 1, .int v], []) _ _ _
  refine vm_J.go vm_q282 (k := 3) (hs := []) (f' := (bif vm_ic .ne 1 (-1) then 12 else 5, (0, 0), [.ref 152, .int 1, .int v], [])) (h' := (G, I, F)) (hs' := []) rfl rfl ?_
  refine vm_J.bT (by decide) ?_
  refine vm_J.go vm_q282 (k := 3) (hs := []) (f' := (15, (0, 0), [.ref 152, .int 1, .int v], [.int 3, .int 0, .int 1])) (h' := (G, I, F)) (hs' := []) rfl rfl ?_
  refine vm_J.call vm_q282 (Z := vm_M168) (n := 3) (k := 1) (mi := 168) (pc := 15) (en := (15, .invokestatic 141, 3, [168, 1302, 0], .null)) rfl trivial rfl rfl vm_z168 (av := [.int 1, .int 0, .int 3]) (rest := []) (r_isIn_y (v := 1) (a := 0) (b := 3) (by decide)) rfl (Nat.le_of_ble_eq_true rfl) ⟨Nat.le_of_ble_eq_true rfl, Nat.le_of_ble_eq_true rfl⟩ ⟨Nat.le_of_ble_eq_true rfl, Nat.le_of_ble_eq_true rfl⟩ ?_
  show vm_J _ _ _ (18, (0, 0), [.ref 152, .int 1, .int v], [.int 1]) (G, I, F) _ _
  refine vm_J.go vm_q282 (k := 1) (hs := []) (f' := (bif vm_ic .eq 1 0 then 32 else 21, (0, 0), [.ref 152, .int 1, .int v], [])) (h' := (G, I, F)) (hs' := []) rfl rfl ?_
  refine vm_J.bF (by decide) ?_
  refine vm_J.go vm_q282 (k := 2) (hs := []) (f' := (bif vm_ic .ne 1 0 then 34 else 25, (0, 0), [.ref 152, .int 1, .int v], [])) (h' := (G, I, F)) (hs' := []) rfl rfl ?_
  refine vm_J.bT (by decide) ?_
  refine vm_J.go vm_q282 (k := 2) (hs := []) (f' := (bif vm_ic .le 1 0 then 69 else 38, (0, 0), [.ref 152, .int 1, .int v], [])) (h' := (G, I, F)) (hs' := []) rfl rfl ?_
  refine vm_J.bF (by decide) ?_
  refine vm_J.go vm_q282 (k := 5) (hs := []) (f' := (bif vm_ic .ne 1 1 then 49 else 45, (0, 0), [.ref 152, .int 1, .int v], [.int 0, .int v])) (h' := (G, I, F)) (hs' := []) rfl rfl ?_
  refine vm_J.bF (by decide) ?_
  refine vm_J.go vm_q282 (k := 2) (hs := []) (f' := (60, (0, 0), [.ref 152, .int 1, .int v], [.int 3, .int 0, .int v])) (h' := (G, I, F)) (hs' := []) rfl rfl ?_
  refine vm_J.call vm_q282 (Z := vm_M168) (n := 3) (k := 1) (mi := 168) (pc := 60) (en := (60, .invokestatic 141, 3, [168, 1302, 0], .null)) rfl trivial rfl rfl vm_z168 (av := [.int v, .int 0, .int 3]) (rest := []) (r_isIn_y (v := v) (a := 0) (b := 3) hv) rfl (Nat.le_of_ble_eq_true rfl) ⟨Nat.le_of_ble_eq_true rfl, Nat.le_of_ble_eq_true rfl⟩ ⟨Nat.le_of_ble_eq_true rfl, Nat.le_of_ble_eq_true rfl⟩ ?_
  show vm_J _ _ _ (63, (0, 0), [.ref 152, .int 1, .int v], [.int 1]) (G, I, F) _ _
  refine vm_J.go vm_q282 (k := 1) (hs := []) (f' := (bif vm_ic .ne 1 0 then 69 else 66, (0, 0), [.ref 152, .int 1, .int v], [])) (h' := (G, I, F)) (hs' := []) rfl rfl ?_
  refine vm_J.bT (by decide) ?_
  refine vm_J.go vm_q282 (k := 2) (hs := [vm_shR]) (f' := (73, (0, 0), [.ref 152, .int 1, .int v], [.int (I 152 50)])) (h' := (G, I, F)) (hs' := []) rfl (vm_b2 rfl (vm_b2 (vm_b2 (vm_hG hR.c152) rfl) rfl)) ?_
  rw [(hn : I 152 50 = nI n)]
  refine vm_J.go vm_q282 (k := 2) (hs := []) (f' := (bif vm_ic .ne (nI n) 8 then 81 else 78, (0, 0), [.ref 152, .int 1, .int v], [])) (h' := (G, I, F)) (hs' := []) rfl rfl ?_
  refine vm_J.br (fun c1 => ?_) (fun c1 => ?_)
  · have c1 := vm_ne_t (a := n) (b := 8) (by omega) (by omega) c1
    exact (show False by omega).elim
  · have c1 := vm_ne_f (a := n) (b := 8) (by omega) (by omega) c1
    refine vm_J.go vm_q282 (k := 1) (hs := []) (f' := (80, (0, 0), [.ref 152, .int 1, .int v], [.int (-4)])) (h' := (G, I, F)) (hs' := []) rfl rfl ?_
    exact vm_J.end vm_q282 (en := (80, .ireturn, 1, [], .null)) rfl rfl vm_rI (Nat.zero_le _) (Nat.zero_le _) rfl
set_option maxHeartbeats 4000000 in
set_option maxRecDepth 20000 in
/-- DitherDeskModel.plan -/
theorem r_plan_y1 {l : Launch} {X : vm_Cx} {G : List vm_Sh} {I : Nat → Nat → Int32} {F : Nat → Nat → UInt32} {n : Nat} {v : Int32} (hR : vm_isR G) (hn : I 152 50 = nI n) (hn2 : n < 8) (hv : 0 ≤ v ∧ v ≤ 3) : vm_K l X vm_M282 [.ref 152, .int 1, .int v] (G, I, F) (some (.int (nI (n + 1)))) (G, (vm_up (vm_up (vm_up I 185 n 1) 186 n v) 152 50 (nI (n + 1))), F) := by
  refine vm_K.mk (by decide) (Nat.le_of_ble_eq_true rfl) ?_
  show vm_J _ _ _ (0, (0, 0), [.ref 152, .int 1, .int v], []) _ _ _
  refine vm_J.go vm_q282 (k := 3) (hs := []) (f' := (bif vm_ic .ne 1 (-1) then 12 else 5, (0, 0), [.ref 152, .int 1, .int v], [])) (h' := (G, I, F)) (hs' := []) rfl rfl ?_
  refine vm_J.bT (by decide) ?_
  refine vm_J.go vm_q282 (k := 3) (hs := []) (f' := (15, (0, 0), [.ref 152, .int 1, .int v], [.int 3, .int 0, .int 1])) (h' := (G, I, F)) (hs' := []) rfl rfl ?_
  refine vm_J.call vm_q282 (Z := vm_M168) (n := 3) (k := 1) (mi := 168) (pc := 15) (en := (15, .invokestatic 141, 3, [168, 1302, 0], .null)) rfl trivial rfl rfl vm_z168 (av := [.int 1, .int 0, .int 3]) (rest := []) (r_isIn_y (v := 1) (a := 0) (b := 3) (by decide)) rfl (Nat.le_of_ble_eq_true rfl) ⟨Nat.le_of_ble_eq_true rfl, Nat.le_of_ble_eq_true rfl⟩ ⟨Nat.le_of_ble_eq_true rfl, Nat.le_of_ble_eq_true rfl⟩ ?_
  show vm_J _ _ _ (18, (0, 0), [.ref 152, .int 1, .int v], [.int 1]) (G, I, F) _ _
  refine vm_J.go vm_q282 (k := 1) (hs := []) (f' := (bif vm_ic .eq 1 0 then 32 else 21, (0, 0), [.ref 152, .int 1, .int v], [])) (h' := (G, I, F)) (hs' := []) rfl rfl ?_
  refine vm_J.bF (by decide) ?_
  refine vm_J.go vm_q282 (k := 2) (hs := []) (f' := (bif vm_ic .ne 1 0 then 34 else 25, (0, 0), [.ref 152, .int 1, .int v], [])) (h' := (G, I, F)) (hs' := []) rfl rfl ?_
  refine vm_J.bT (by decide) ?_
  refine vm_J.go vm_q282 (k := 2) (hs := []) (f' := (bif vm_ic .le 1 0 then 69 else 38, (0, 0), [.ref 152, .int 1, .int v], [])) (h' := (G, I, F)) (hs' := []) rfl rfl ?_
  refine vm_J.bF (by decide) ?_
  refine vm_J.go vm_q282 (k := 5) (hs := []) (f' := (bif vm_ic .ne 1 1 then 49 else 45, (0, 0), [.ref 152, .int 1, .int v], [.int 0, .int v])) (h' := (G, I, F)) (hs' := []) rfl rfl ?_
  refine vm_J.bF (by decide) ?_
  refine vm_J.go vm_q282 (k := 2) (hs := []) (f' := (60, (0, 0), [.ref 152, .int 1, .int v], [.int 3, .int 0, .int v])) (h' := (G, I, F)) (hs' := []) rfl rfl ?_
  refine vm_J.call vm_q282 (Z := vm_M168) (n := 3) (k := 1) (mi := 168) (pc := 60) (en := (60, .invokestatic 141, 3, [168, 1302, 0], .null)) rfl trivial rfl rfl vm_z168 (av := [.int v, .int 0, .int 3]) (rest := []) (r_isIn_y (v := v) (a := 0) (b := 3) hv) rfl (Nat.le_of_ble_eq_true rfl) ⟨Nat.le_of_ble_eq_true rfl, Nat.le_of_ble_eq_true rfl⟩ ⟨Nat.le_of_ble_eq_true rfl, Nat.le_of_ble_eq_true rfl⟩ ?_
  show vm_J _ _ _ (63, (0, 0), [.ref 152, .int 1, .int v], [.int 1]) (G, I, F) _ _
  refine vm_J.go vm_q282 (k := 1) (hs := []) (f' := (bif vm_ic .ne 1 0 then 69 else 66, (0, 0), [.ref 152, .int 1, .int v], [])) (h' := (G, I, F)) (hs' := []) rfl rfl ?_
  refine vm_J.bT (by decide) ?_
  refine vm_J.go vm_q282 (k := 2) (hs := [vm_shR]) (f' := (73, (0, 0), [.ref 152, .int 1, .int v], [.int (I 152 50)])) (h' := (G, I, F)) (hs' := []) rfl (vm_b2 rfl (vm_b2 (vm_b2 (vm_hG hR.c152) rfl) rfl)) ?_
  rw [(hn : I 152 50 = nI n)]
  refine vm_J.go vm_q282 (k := 2) (hs := []) (f' := (bif vm_ic .ne (nI n) 8 then 81 else 78, (0, 0), [.ref 152, .int 1, .int v], [])) (h' := (G, I, F)) (hs' := []) rfl rfl ?_
  refine vm_J.br (fun c1 => ?_) (fun c1 => ?_)
  · have c1 := vm_ne_t (a := n) (b := 8) (by omega) (by omega) c1
    refine vm_J.go vm_q282 (k := 4) (hs := [vm_shR, vm_shR]) (f' := (89, (0, 0), [.ref 152, .int 1, .int v], [.int (I 152 50), .ref 185])) (h' := (G, I, F)) (hs' := []) rfl (vm_b2 rfl (vm_b2 (vm_b2 (vm_hG hR.c152) rfl) (vm_b2 rfl (vm_b2 (vm_b2 (vm_hG hR.c152) rfl) rfl)))) ?_
    rw [(hn : I 152 50 = nI n)]
    refine vm_J.go vm_q282 (k := 6) (hs := [(0, 8, []), vm_shR, vm_shR]) (f' := (99, (0, 0), [.ref 152, .int 1, .int v], [.int ((vm_up I 185 ((nI n).toNatClampNeg) 1) 152 50), .ref 186])) (h' := (G, (vm_up I 185 ((nI n).toNatClampNeg) 1), F)) (hs' := []) rfl (vm_b2 rfl (vm_b2 (vm_b2 (vm_hG hR.c185) (vm_in_e (j := n) (n := 8) rfl (by omega) (by omega))) (vm_b2 rfl (vm_b2 (vm_b2 (vm_hG hR.c152) rfl) (vm_b2 rfl (vm_b2 (vm_b2 (vm_hG hR.c152) rfl) rfl)))))) ?_
    rw [vm_ix_e (j := n) rfl (by omega)]
    rw [((Eq.trans (congrFun (vm_up_f _ 185 _ _ 152 (by decide)) 50) hn) : (vm_up I 185 (n) 1) 152 50 = nI n)]
    refine vm_J.go vm_q282 (k := 5) (hs := [(0, 8, []), vm_shR]) (f' := (106, (0, 0), [.ref 152, .int 1, .int v], [.int ((vm_up (vm_up I 185 (n) 1) 186 ((nI n).toNatClampNeg) v) 152 50), .ref 152])) (h' := (G, (vm_up (vm_up I 185 (n) 1) 186 ((nI n).toNatClampNeg) v), F)) (hs' := []) rfl (vm_b2 rfl (vm_b2 (vm_b2 (vm_hG hR.c186) (vm_in_e (j := n) (n := 8) rfl (by omega) (by omega))) (vm_b2 rfl (vm_b2 rfl (vm_b2 (vm_b2 (vm_hG hR.c152) rfl) rfl))))) ?_
    rw [vm_ix_e (j := n) rfl (by omega)]
    rw [((Eq.trans (congrFun (vm_up_f _ 186 _ _ 152 (by decide)) 50) (Eq.trans (congrFun (vm_up_f _ 185 _ _ 152 (by decide)) 50) hn)) : (vm_up (vm_up I 185 (n) 1) 186 (n) v) 152 50 = nI n)]
    refine vm_J.go vm_q282 (k := 2) (hs := []) (f' := (108, (0, 0), [.ref 152, .int 1, .int v], [.int ((nI n) + 1), .ref 152])) (h' := (G, (vm_up (vm_up I 185 (n) 1) 186 (n) v), F)) (hs' := []) rfl rfl ?_
    rw [((vm_pa (rfl : (nI n : Int32) = nI n) (rfl : (1 : Int32) = nI 1)) : (nI n) + 1 = nI (n + 1))]
    refine vm_J.go vm_q282 (k := 3) (hs := [vm_shR, vm_shR]) (f' := (115, (0, 0), [.ref 152, .int 1, .int v], [.int ((vm_up (vm_up (vm_up I 185 (n) 1) 186 (n) v) 152 50 (nI (n + 1))) 152 50)])) (h' := (G, (vm_up (vm_up (vm_up I 185 (n) 1) 186 (n) v) 152 50 (nI (n + 1))), F)) (hs' := []) rfl (vm_b2 (vm_b2 (vm_b2 (vm_hG hR.c152) rfl) rfl) (vm_b2 rfl (vm_b2 (vm_b2 (vm_hG hR.c152) rfl) rfl))) ?_
    rw [((vm_up_h _ 152 50 _) : (vm_up (vm_up (vm_up I 185 (n) 1) 186 (n) v) 152 50 (nI (n + 1))) 152 50 = nI (n + 1))]
    exact vm_J.end vm_q282 (en := (115, .ireturn, 1, [], .null)) rfl rfl vm_rI (Nat.zero_le _) (Nat.zero_le _) rfl
  · have c1 := vm_ne_f (a := n) (b := 8) (by omega) (by omega) c1
    exact (show False by omega).elim
set_option maxHeartbeats 4000000 in
set_option maxRecDepth 20000 in
/-- DitherDeskModel.plan -/
theorem r_plan_b2 {l : Launch} {X : vm_Cx} {G : List vm_Sh} {I : Nat → Nat → Int32} {F : Nat → Nat → UInt32} {v : Int32} (hR : vm_isR G) (hv : ¬ (0 ≤ v ∧ v ≤ 4)) : vm_K l X vm_M282 [.ref 152, .int 2, .int v] (G, I, F) (some (.int (-2))) (G, I, F) := by
  refine vm_K.mk (by decide) (Nat.le_of_ble_eq_true rfl) ?_
  show vm_J _ _ _ (0, (0, 0), [.ref 152, .int 2, .int v], []) _ _ _
  refine vm_J.go vm_q282 (k := 3) (hs := []) (f' := (bif vm_ic .ne 2 (-1) then 12 else 5, (0, 0), [.ref 152, .int 2, .int v], [])) (h' := (G, I, F)) (hs' := []) rfl rfl ?_
  refine vm_J.bT (by decide) ?_
  refine vm_J.go vm_q282 (k := 3) (hs := []) (f' := (15, (0, 0), [.ref 152, .int 2, .int v], [.int 3, .int 0, .int 2])) (h' := (G, I, F)) (hs' := []) rfl rfl ?_
  refine vm_J.call vm_q282 (Z := vm_M168) (n := 3) (k := 1) (mi := 168) (pc := 15) (en := (15, .invokestatic 141, 3, [168, 1302, 0], .null)) rfl trivial rfl rfl vm_z168 (av := [.int 2, .int 0, .int 3]) (rest := []) (r_isIn_y (v := 2) (a := 0) (b := 3) (by decide)) rfl (Nat.le_of_ble_eq_true rfl) ⟨Nat.le_of_ble_eq_true rfl, Nat.le_of_ble_eq_true rfl⟩ ⟨Nat.le_of_ble_eq_true rfl, Nat.le_of_ble_eq_true rfl⟩ ?_
  show vm_J _ _ _ (18, (0, 0), [.ref 152, .int 2, .int v], [.int 1]) (G, I, F) _ _
  refine vm_J.go vm_q282 (k := 1) (hs := []) (f' := (bif vm_ic .eq 1 0 then 32 else 21, (0, 0), [.ref 152, .int 2, .int v], [])) (h' := (G, I, F)) (hs' := []) rfl rfl ?_
  refine vm_J.bF (by decide) ?_
  refine vm_J.go vm_q282 (k := 2) (hs := []) (f' := (bif vm_ic .ne 2 0 then 34 else 25, (0, 0), [.ref 152, .int 2, .int v], [])) (h' := (G, I, F)) (hs' := []) rfl rfl ?_
  refine vm_J.bT (by decide) ?_
  refine vm_J.go vm_q282 (k := 2) (hs := []) (f' := (bif vm_ic .le 2 0 then 69 else 38, (0, 0), [.ref 152, .int 2, .int v], [])) (h' := (G, I, F)) (hs' := []) rfl rfl ?_
  refine vm_J.bF (by decide) ?_
  refine vm_J.go vm_q282 (k := 5) (hs := []) (f' := (bif vm_ic .ne 2 1 then 49 else 45, (0, 0), [.ref 152, .int 2, .int v], [.int 0, .int v])) (h' := (G, I, F)) (hs' := []) rfl rfl ?_
  refine vm_J.bT (by decide) ?_
  refine vm_J.go vm_q282 (k := 3) (hs := []) (f' := (bif vm_ic .ne 2 2 then 58 else 54, (0, 0), [.ref 152, .int 2, .int v], [.int 0, .int v])) (h' := (G, I, F)) (hs' := []) rfl rfl ?_
  refine vm_J.bF (by decide) ?_
  refine vm_J.go vm_q282 (k := 2) (hs := []) (f' := (60, (0, 0), [.ref 152, .int 2, .int v], [.int 4, .int 0, .int v])) (h' := (G, I, F)) (hs' := []) rfl rfl ?_
  refine vm_J.call vm_q282 (Z := vm_M168) (n := 3) (k := 1) (mi := 168) (pc := 60) (en := (60, .invokestatic 141, 3, [168, 1302, 0], .null)) rfl trivial rfl rfl vm_z168 (av := [.int v, .int 0, .int 4]) (rest := []) (r_isIn_n (v := v) (a := 0) (b := 4) hv) rfl (Nat.le_of_ble_eq_true rfl) ⟨Nat.le_of_ble_eq_true rfl, Nat.le_of_ble_eq_true rfl⟩ ⟨Nat.le_of_ble_eq_true rfl, Nat.le_of_ble_eq_true rfl⟩ ?_
  show vm_J _ _ _ (63, (0, 0), [.ref 152, .int 2, .int v], [.int 0]) (G, I, F) _ _
  refine vm_J.go vm_q282 (k := 1) (hs := []) (f' := (bif vm_ic .ne 0 0 then 69 else 66, (0, 0), [.ref 152, .int 2, .int v], [])) (h' := (G, I, F)) (hs' := []) rfl rfl ?_
  refine vm_J.bF (by decide) ?_
  refine vm_J.go vm_q282 (k := 1) (hs := []) (f' := (68, (0, 0), [.ref 152, .int 2, .int v], [.int (-2)])) (h' := (G, I, F)) (hs' := []) rfl rfl ?_
  exact vm_J.end vm_q282 (en := (68, .ireturn, 1, [], .null)) rfl rfl vm_rI (Nat.zero_le _) (Nat.zero_le _) rfl
set_option maxHeartbeats 4000000 in
set_option maxRecDepth 20000 in
/-- DitherDeskModel.plan -/
theorem r_plan_f2 {l : Launch} {X : vm_Cx} {G : List vm_Sh} {I : Nat → Nat → Int32} {F : Nat → Nat → UInt32} {n : Nat} {v : Int32} (hR : vm_isR G) (hn : I 152 50 = nI n) (hn2 : n = 8) (hv : 0 ≤ v ∧ v ≤ 4) : vm_K l X vm_M282 [.ref 152, .int 2, .int v] (G, I, F) (some (.int (-4))) (G, I, F) := by
  refine vm_K.mk (by decide) (Nat.le_of_ble_eq_true rfl) ?_
  show vm_J _ _ _ (0, (0, 0), [.ref 152, .int 2, .int v], []) _ _ _
  refine vm_J.go vm_q282 (k := 3) (hs := []) (f' := (bif vm_ic .ne 2 (-1) then 12 else 5, (0, 0), [.ref 152, .int 2, .int v], [])) (h' := (G, I, F)) (hs' := []) rfl rfl ?_
  refine vm_J.bT (by decide) ?_
  refine vm_J.go vm_q282 (k := 3) (hs := []) (f' := (15, (0, 0), [.ref 152, .int 2, .int v], [.int 3, .int 0, .int 2])) (h' := (G, I, F)) (hs' := []) rfl rfl ?_
  refine vm_J.call vm_q282 (Z := vm_M168) (n := 3) (k := 1) (mi := 168) (pc := 15) (en := (15, .invokestatic 141, 3, [168, 1302, 0], .null)) rfl trivial rfl rfl vm_z168 (av := [.int 2, .int 0, .int 3]) (rest := []) (r_isIn_y (v := 2) (a := 0) (b := 3) (by decide)) rfl (Nat.le_of_ble_eq_true rfl) ⟨Nat.le_of_ble_eq_true rfl, Nat.le_of_ble_eq_true rfl⟩ ⟨Nat.le_of_ble_eq_true rfl, Nat.le_of_ble_eq_true rfl⟩ ?_
  show vm_J _ _ _ (18, (0, 0), [.ref 152, .int 2, .int v], [.int 1]) (G, I, F) _ _
  refine vm_J.go vm_q282 (k := 1) (hs := []) (f' := (bif vm_ic .eq 1 0 then 32 else 21, (0, 0), [.ref 152, .int 2, .int v], [])) (h' := (G, I, F)) (hs' := []) rfl rfl ?_
  refine vm_J.bF (by decide) ?_
  refine vm_J.go vm_q282 (k := 2) (hs := []) (f' := (bif vm_ic .ne 2 0 then 34 else 25, (0, 0), [.ref 152, .int 2, .int v], [])) (h' := (G, I, F)) (hs' := []) rfl rfl ?_
  refine vm_J.bT (by decide) ?_
  refine vm_J.go vm_q282 (k := 2) (hs := []) (f' := (bif vm_ic .le 2 0 then 69 else 38, (0, 0), [.ref 152, .int 2, .int v], [])) (h' := (G, I, F)) (hs' := []) rfl rfl ?_
  refine vm_J.bF (by decide) ?_
  refine vm_J.go vm_q282 (k := 5) (hs := []) (f' := (bif vm_ic .ne 2 1 then 49 else 45, (0, 0), [.ref 152, .int 2, .int v], [.int 0, .int v])) (h' := (G, I, F)) (hs' := []) rfl rfl ?_
  refine vm_J.bT (by decide) ?_
  refine vm_J.go vm_q282 (k := 3) (hs := []) (f' := (bif vm_ic .ne 2 2 then 58 else 54, (0, 0), [.ref 152, .int 2, .int v], [.int 0, .int v])) (h' := (G, I, F)) (hs' := []) rfl rfl ?_
  refine vm_J.bF (by decide) ?_
  refine vm_J.go vm_q282 (k := 2) (hs := []) (f' := (60, (0, 0), [.ref 152, .int 2, .int v], [.int 4, .int 0, .int v])) (h' := (G, I, F)) (hs' := []) rfl rfl ?_
  refine vm_J.call vm_q282 (Z := vm_M168) (n := 3) (k := 1) (mi := 168) (pc := 60) (en := (60, .invokestatic 141, 3, [168, 1302, 0], .null)) rfl trivial rfl rfl vm_z168 (av := [.int v, .int 0, .int 4]) (rest := []) (r_isIn_y (v := v) (a := 0) (b := 4) hv) rfl (Nat.le_of_ble_eq_true rfl) ⟨Nat.le_of_ble_eq_true rfl, Nat.le_of_ble_eq_true rfl⟩ ⟨Nat.le_of_ble_eq_true rfl, Nat.le_of_ble_eq_true rfl⟩ ?_
  show vm_J _ _ _ (63, (0, 0), [.ref 152, .int 2, .int v], [.int 1]) (G, I, F) _ _
  refine vm_J.go vm_q282 (k := 1) (hs := []) (f' := (bif vm_ic .ne 1 0 then 69 else 66, (0, 0), [.ref 152, .int 2, .int v], [])) (h' := (G, I, F)) (hs' := []) rfl rfl ?_
  refine vm_J.bT (by decide) ?_
  refine vm_J.go vm_q282 (k := 2) (hs := [vm_shR]) (f' := (73, (0, 0), [.ref 152, .int 2, .int v], [.int (I 152 50)])) (h' := (G, I, F)) (hs' := []) rfl (vm_b2 rfl (vm_b2 (vm_b2 (vm_hG hR.c152) rfl) rfl)) ?_
  rw [(hn : I 152 50 = nI n)]
  refine vm_J.go vm_q282 (k := 2) (hs := []) (f' := (bif vm_ic .ne (nI n) 8 then 81 else 78, (0, 0), [.ref 152, .int 2, .int v], [])) (h' := (G, I, F)) (hs' := []) rfl rfl ?_
  refine vm_J.br (fun c1 => ?_) (fun c1 => ?_)
  · have c1 := vm_ne_t (a := n) (b := 8) (by omega) (by omega) c1
    exact (show False by omega).elim
  · have c1 := vm_ne_f (a := n) (b := 8) (by omega) (by omega) c1
    refine vm_J.go vm_q282 (k := 1) (hs := []) (f' := (80, (0, 0), [.ref 152, .int 2, .int v], [.int (-4)])) (h' := (G, I, F)) (hs' := []) rfl rfl ?_
    exact vm_J.end vm_q282 (en := (80, .ireturn, 1, [], .null)) rfl rfl vm_rI (Nat.zero_le _) (Nat.zero_le _) rfl
set_option maxHeartbeats 4000000 in
set_option maxRecDepth 20000 in
/-- DitherDeskModel.plan -/
theorem r_plan_y2 {l : Launch} {X : vm_Cx} {G : List vm_Sh} {I : Nat → Nat → Int32} {F : Nat → Nat → UInt32} {n : Nat} {v : Int32} (hR : vm_isR G) (hn : I 152 50 = nI n) (hn2 : n < 8) (hv : 0 ≤ v ∧ v ≤ 4) : vm_K l X vm_M282 [.ref 152, .int 2, .int v] (G, I, F) (some (.int (nI (n + 1)))) (G, (vm_up (vm_up (vm_up I 185 n 2) 186 n v) 152 50 (nI (n + 1))), F) := by
  refine vm_K.mk (by decide) (Nat.le_of_ble_eq_true rfl) ?_
  show vm_J _ _ _ (0, (0, 0), [.ref 152, .int 2, .int v], []) _ _ _
  refine vm_J.go vm_q282 (k := 3) (hs := []) (f' := (bif vm_ic .ne 2 (-1) then 12 else 5, (0, 0), [.ref 152, .int 2, .int v], [])) (h' := (G, I, F)) (hs' := []) rfl rfl ?_
  refine vm_J.bT (by decide) ?_
  refine vm_J.go vm_q282 (k := 3) (hs := []) (f' := (15, (0, 0), [.ref 152, .int 2, .int v], [.int 3, .int 0, .int 2])) (h' := (G, I, F)) (hs' := []) rfl rfl ?_
  refine vm_J.call vm_q282 (Z := vm_M168) (n := 3) (k := 1) (mi := 168) (pc := 15) (en := (15, .invokestatic 141, 3, [168, 1302, 0], .null)) rfl trivial rfl rfl vm_z168 (av := [.int 2, .int 0, .int 3]) (rest := []) (r_isIn_y (v := 2) (a := 0) (b := 3) (by decide)) rfl (Nat.le_of_ble_eq_true rfl) ⟨Nat.le_of_ble_eq_true rfl, Nat.le_of_ble_eq_true rfl⟩ ⟨Nat.le_of_ble_eq_true rfl, Nat.le_of_ble_eq_true rfl⟩ ?_
  show vm_J _ _ _ (18, (0, 0), [.ref 152, .int 2, .int v], [.int 1]) (G, I, F) _ _
  refine vm_J.go vm_q282 (k := 1) (hs := []) (f' := (bif vm_ic .eq 1 0 then 32 else 21, (0, 0), [.ref 152, .int 2, .int v], [])) (h' := (G, I, F)) (hs' := []) rfl rfl ?_
  refine vm_J.bF (by decide) ?_
  refine vm_J.go vm_q282 (k := 2) (hs := []) (f' := (bif vm_ic .ne 2 0 then 34 else 25, (0, 0), [.ref 152, .int 2, .int v], [])) (h' := (G, I, F)) (hs' := []) rfl rfl ?_
  refine vm_J.bT (by decide) ?_
  refine vm_J.go vm_q282 (k := 2) (hs := []) (f' := (bif vm_ic .le 2 0 then 69 else 38, (0, 0), [.ref 152, .int 2, .int v], [])) (h' := (G, I, F)) (hs' := []) rfl rfl ?_
  refine vm_J.bF (by decide) ?_
  refine vm_J.go vm_q282 (k := 5) (hs := []) (f' := (bif vm_ic .ne 2 1 then 49 else 45, (0, 0), [.ref 152, .int 2, .int v], [.int 0, .int v])) (h' := (G, I, F)) (hs' := []) rfl rfl ?_
  refine vm_J.bT (by decide) ?_
  refine vm_J.go vm_q282 (k := 3) (hs := []) (f' := (bif vm_ic .ne 2 2 then 58 else 54, (0, 0), [.ref 152, .int 2, .int v], [.int 0, .int v])) (h' := (G, I, F)) (hs' := []) rfl rfl ?_
  refine vm_J.bF (by decide) ?_
  refine vm_J.go vm_q282 (k := 2) (hs := []) (f' := (60, (0, 0), [.ref 152, .int 2, .int v], [.int 4, .int 0, .int v])) (h' := (G, I, F)) (hs' := []) rfl rfl ?_
  refine vm_J.call vm_q282 (Z := vm_M168) (n := 3) (k := 1) (mi := 168) (pc := 60) (en := (60, .invokestatic 141, 3, [168, 1302, 0], .null)) rfl trivial rfl rfl vm_z168 (av := [.int v, .int 0, .int 4]) (rest := []) (r_isIn_y (v := v) (a := 0) (b := 4) hv) rfl (Nat.le_of_ble_eq_true rfl) ⟨Nat.le_of_ble_eq_true rfl, Nat.le_of_ble_eq_true rfl⟩ ⟨Nat.le_of_ble_eq_true rfl, Nat.le_of_ble_eq_true rfl⟩ ?_
  show vm_J _ _ _ (63, (0, 0), [.ref 152, .int 2, .int v], [.int 1]) (G, I, F) _ _
  refine vm_J.go vm_q282 (k := 1) (hs := []) (f' := (bif vm_ic .ne 1 0 then 69 else 66, (0, 0), [.ref 152, .int 2, .int v], [])) (h' := (G, I, F)) (hs' := []) rfl rfl ?_
  refine vm_J.bT (by decide) ?_
  refine vm_J.go vm_q282 (k := 2) (hs := [vm_shR]) (f' := (73, (0, 0), [.ref 152, .int 2, .int v], [.int (I 152 50)])) (h' := (G, I, F)) (hs' := []) rfl (vm_b2 rfl (vm_b2 (vm_b2 (vm_hG hR.c152) rfl) rfl)) ?_
  rw [(hn : I 152 50 = nI n)]
  refine vm_J.go vm_q282 (k := 2) (hs := []) (f' := (bif vm_ic .ne (nI n) 8 then 81 else 78, (0, 0), [.ref 152, .int 2, .int v], [])) (h' := (G, I, F)) (hs' := []) rfl rfl ?_
  refine vm_J.br (fun c1 => ?_) (fun c1 => ?_)
  · have c1 := vm_ne_t (a := n) (b := 8) (by omega) (by omega) c1
    refine vm_J.go vm_q282 (k := 4) (hs := [vm_shR, vm_shR]) (f' := (89, (0, 0), [.ref 152, .int 2, .int v], [.int (I 152 50), .ref 185])) (h' := (G, I, F)) (hs' := []) rfl (vm_b2 rfl (vm_b2 (vm_b2 (vm_hG hR.c152) rfl) (vm_b2 rfl (vm_b2 (vm_b2 (vm_hG hR.c152) rfl) rfl)))) ?_
    rw [(hn : I 152 50 = nI n)]
    refine vm_J.go vm_q282 (k := 6) (hs := [(0, 8, []), vm_shR, vm_shR]) (f' := (99, (0, 0), [.ref 152, .int 2, .int v], [.int ((vm_up I 185 ((nI n).toNatClampNeg) 2) 152 50), .ref 186])) (h' := (G, (vm_up I 185 ((nI n).toNatClampNeg) 2), F)) (hs' := []) rfl (vm_b2 rfl (vm_b2 (vm_b2 (vm_hG hR.c185) (vm_in_e (j := n) (n := 8) rfl (by omega) (by omega))) (vm_b2 rfl (vm_b2 (vm_b2 (vm_hG hR.c152) rfl) (vm_b2 rfl (vm_b2 (vm_b2 (vm_hG hR.c152) rfl) rfl)))))) ?_
    rw [vm_ix_e (j := n) rfl (by omega)]
    rw [((Eq.trans (congrFun (vm_up_f _ 185 _ _ 152 (by decide)) 50) hn) : (vm_up I 185 (n) 2) 152 50 = nI n)]
    refine vm_J.go vm_q282 (k := 5) (hs := [(0, 8, []), vm_shR]) (f' := (106, (0, 0), [.ref 152, .int 2, .int v], [.int ((vm_up (vm_up I 185 (n) 2) 186 ((nI n).toNatClampNeg) v) 152 50), .ref 152])) (h' := (G, (vm_up (vm_up I 185 (n) 2) 186 ((nI n).toNatClampNeg) v), F)) (hs' := []) rfl (vm_b2 rfl (vm_b2 (vm_b2 (vm_hG hR.c186) (vm_in_e (j := n) (n := 8) rfl (by omega) (by omega))) (vm_b2 rfl (vm_b2 rfl (vm_b2 (vm_b2 (vm_hG hR.c152) rfl) rfl))))) ?_
    rw [vm_ix_e (j := n) rfl (by omega)]
    rw [((Eq.trans (congrFun (vm_up_f _ 186 _ _ 152 (by decide)) 50) (Eq.trans (congrFun (vm_up_f _ 185 _ _ 152 (by decide)) 50) hn)) : (vm_up (vm_up I 185 (n) 2) 186 (n) v) 152 50 = nI n)]
    refine vm_J.go vm_q282 (k := 2) (hs := []) (f' := (108, (0, 0), [.ref 152, .int 2, .int v], [.int ((nI n) + 1), .ref 152])) (h' := (G, (vm_up (vm_up I 185 (n) 2) 186 (n) v), F)) (hs' := []) rfl rfl ?_
    rw [((vm_pa (rfl : (nI n : Int32) = nI n) (rfl : (1 : Int32) = nI 1)) : (nI n) + 1 = nI (n + 1))]
    refine vm_J.go vm_q282 (k := 3) (hs := [vm_shR, vm_shR]) (f' := (115, (0, 0), [.ref 152, .int 2, .int v], [.int ((vm_up (vm_up (vm_up I 185 (n) 2) 186 (n) v) 152 50 (nI (n + 1))) 152 50)])) (h' := (G, (vm_up (vm_up (vm_up I 185 (n) 2) 186 (n) v) 152 50 (nI (n + 1))), F)) (hs' := []) rfl (vm_b2 (vm_b2 (vm_b2 (vm_hG hR.c152) rfl) rfl) (vm_b2 rfl (vm_b2 (vm_b2 (vm_hG hR.c152) rfl) rfl))) ?_
    rw [((vm_up_h _ 152 50 _) : (vm_up (vm_up (vm_up I 185 (n) 2) 186 (n) v) 152 50 (nI (n + 1))) 152 50 = nI (n + 1))]
    exact vm_J.end vm_q282 (en := (115, .ireturn, 1, [], .null)) rfl rfl vm_rI (Nat.zero_le _) (Nat.zero_le _) rfl
  · have c1 := vm_ne_f (a := n) (b := 8) (by omega) (by omega) c1
    exact (show False by omega).elim
set_option maxHeartbeats 4000000 in
set_option maxRecDepth 20000 in
/-- DitherDeskModel.plan -/
theorem r_plan_b3 {l : Launch} {X : vm_Cx} {G : List vm_Sh} {I : Nat → Nat → Int32} {F : Nat → Nat → UInt32} {v : Int32} (hR : vm_isR G) (hv : ¬ (0 ≤ v ∧ v ≤ 15)) : vm_K l X vm_M282 [.ref 152, .int 3, .int v] (G, I, F) (some (.int (-2))) (G, I, F) := by
  refine vm_K.mk (by decide) (Nat.le_of_ble_eq_true rfl) ?_
  show vm_J _ _ _ (0, (0, 0), [.ref 152, .int 3, .int v], []) _ _ _
  refine vm_J.go vm_q282 (k := 3) (hs := []) (f' := (bif vm_ic .ne 3 (-1) then 12 else 5, (0, 0), [.ref 152, .int 3, .int v], [])) (h' := (G, I, F)) (hs' := []) rfl rfl ?_
  refine vm_J.bT (by decide) ?_
  refine vm_J.go vm_q282 (k := 3) (hs := []) (f' := (15, (0, 0), [.ref 152, .int 3, .int v], [.int 3, .int 0, .int 3])) (h' := (G, I, F)) (hs' := []) rfl rfl ?_
  refine vm_J.call vm_q282 (Z := vm_M168) (n := 3) (k := 1) (mi := 168) (pc := 15) (en := (15, .invokestatic 141, 3, [168, 1302, 0], .null)) rfl trivial rfl rfl vm_z168 (av := [.int 3, .int 0, .int 3]) (rest := []) (r_isIn_y (v := 3) (a := 0) (b := 3) (by decide)) rfl (Nat.le_of_ble_eq_true rfl) ⟨Nat.le_of_ble_eq_true rfl, Nat.le_of_ble_eq_true rfl⟩ ⟨Nat.le_of_ble_eq_true rfl, Nat.le_of_ble_eq_true rfl⟩ ?_
  show vm_J _ _ _ (18, (0, 0), [.ref 152, .int 3, .int v], [.int 1]) (G, I, F) _ _
  refine vm_J.go vm_q282 (k := 1) (hs := []) (f' := (bif vm_ic .eq 1 0 then 32 else 21, (0, 0), [.ref 152, .int 3, .int v], [])) (h' := (G, I, F)) (hs' := []) rfl rfl ?_
  refine vm_J.bF (by decide) ?_
  refine vm_J.go vm_q282 (k := 2) (hs := []) (f' := (bif vm_ic .ne 3 0 then 34 else 25, (0, 0), [.ref 152, .int 3, .int v], [])) (h' := (G, I, F)) (hs' := []) rfl rfl ?_
  refine vm_J.bT (by decide) ?_
  refine vm_J.go vm_q282 (k := 2) (hs := []) (f' := (bif vm_ic .le 3 0 then 69 else 38, (0, 0), [.ref 152, .int 3, .int v], [])) (h' := (G, I, F)) (hs' := []) rfl rfl ?_
  refine vm_J.bF (by decide) ?_
  refine vm_J.go vm_q282 (k := 5) (hs := []) (f' := (bif vm_ic .ne 3 1 then 49 else 45, (0, 0), [.ref 152, .int 3, .int v], [.int 0, .int v])) (h' := (G, I, F)) (hs' := []) rfl rfl ?_
  refine vm_J.bT (by decide) ?_
  refine vm_J.go vm_q282 (k := 3) (hs := []) (f' := (bif vm_ic .ne 3 2 then 58 else 54, (0, 0), [.ref 152, .int 3, .int v], [.int 0, .int v])) (h' := (G, I, F)) (hs' := []) rfl rfl ?_
  refine vm_J.bT (by decide) ?_
  refine vm_J.go vm_q282 (k := 1) (hs := []) (f' := (60, (0, 0), [.ref 152, .int 3, .int v], [.int 15, .int 0, .int v])) (h' := (G, I, F)) (hs' := []) rfl rfl ?_
  refine vm_J.call vm_q282 (Z := vm_M168) (n := 3) (k := 1) (mi := 168) (pc := 60) (en := (60, .invokestatic 141, 3, [168, 1302, 0], .null)) rfl trivial rfl rfl vm_z168 (av := [.int v, .int 0, .int 15]) (rest := []) (r_isIn_n (v := v) (a := 0) (b := 15) hv) rfl (Nat.le_of_ble_eq_true rfl) ⟨Nat.le_of_ble_eq_true rfl, Nat.le_of_ble_eq_true rfl⟩ ⟨Nat.le_of_ble_eq_true rfl, Nat.le_of_ble_eq_true rfl⟩ ?_
  show vm_J _ _ _ (63, (0, 0), [.ref 152, .int 3, .int v], [.int 0]) (G, I, F) _ _
  refine vm_J.go vm_q282 (k := 1) (hs := []) (f' := (bif vm_ic .ne 0 0 then 69 else 66, (0, 0), [.ref 152, .int 3, .int v], [])) (h' := (G, I, F)) (hs' := []) rfl rfl ?_
  refine vm_J.bF (by decide) ?_
  refine vm_J.go vm_q282 (k := 1) (hs := []) (f' := (68, (0, 0), [.ref 152, .int 3, .int v], [.int (-2)])) (h' := (G, I, F)) (hs' := []) rfl rfl ?_
  exact vm_J.end vm_q282 (en := (68, .ireturn, 1, [], .null)) rfl rfl vm_rI (Nat.zero_le _) (Nat.zero_le _) rfl
set_option maxHeartbeats 4000000 in
set_option maxRecDepth 20000 in
/-- DitherDeskModel.plan -/
theorem r_plan_f3 {l : Launch} {X : vm_Cx} {G : List vm_Sh} {I : Nat → Nat → Int32} {F : Nat → Nat → UInt32} {n : Nat} {v : Int32} (hR : vm_isR G) (hn : I 152 50 = nI n) (hn2 : n = 8) (hv : 0 ≤ v ∧ v ≤ 15) : vm_K l X vm_M282 [.ref 152, .int 3, .int v] (G, I, F) (some (.int (-4))) (G, I, F) := by
  refine vm_K.mk (by decide) (Nat.le_of_ble_eq_true rfl) ?_
  show vm_J _ _ _ (0, (0, 0), [.ref 152, .int 3, .int v], []) _ _ _
  refine vm_J.go vm_q282 (k := 3) (hs := []) (f' := (bif vm_ic .ne 3 (-1) then 12 else 5, (0, 0), [.ref 152, .int 3, .int v], [])) (h' := (G, I, F)) (hs' := []) rfl rfl ?_
  refine vm_J.bT (by decide) ?_
  refine vm_J.go vm_q282 (k := 3) (hs := []) (f' := (15, (0, 0), [.ref 152, .int 3, .int v], [.int 3, .int 0, .int 3])) (h' := (G, I, F)) (hs' := []) rfl rfl ?_
  refine vm_J.call vm_q282 (Z := vm_M168) (n := 3) (k := 1) (mi := 168) (pc := 15) (en := (15, .invokestatic 141, 3, [168, 1302, 0], .null)) rfl trivial rfl rfl vm_z168 (av := [.int 3, .int 0, .int 3]) (rest := []) (r_isIn_y (v := 3) (a := 0) (b := 3) (by decide)) rfl (Nat.le_of_ble_eq_true rfl) ⟨Nat.le_of_ble_eq_true rfl, Nat.le_of_ble_eq_true rfl⟩ ⟨Nat.le_of_ble_eq_true rfl, Nat.le_of_ble_eq_true rfl⟩ ?_
  show vm_J _ _ _ (18, (0, 0), [.ref 152, .int 3, .int v], [.int 1]) (G, I, F) _ _
  refine vm_J.go vm_q282 (k := 1) (hs := []) (f' := (bif vm_ic .eq 1 0 then 32 else 21, (0, 0), [.ref 152, .int 3, .int v], [])) (h' := (G, I, F)) (hs' := []) rfl rfl ?_
  refine vm_J.bF (by decide) ?_
  refine vm_J.go vm_q282 (k := 2) (hs := []) (f' := (bif vm_ic .ne 3 0 then 34 else 25, (0, 0), [.ref 152, .int 3, .int v], [])) (h' := (G, I, F)) (hs' := []) rfl rfl ?_
  refine vm_J.bT (by decide) ?_
  refine vm_J.go vm_q282 (k := 2) (hs := []) (f' := (bif vm_ic .le 3 0 then 69 else 38, (0, 0), [.ref 152, .int 3, .int v], [])) (h' := (G, I, F)) (hs' := []) rfl rfl ?_
  refine vm_J.bF (by decide) ?_
  refine vm_J.go vm_q282 (k := 5) (hs := []) (f' := (bif vm_ic .ne 3 1 then 49 else 45, (0, 0), [.ref 152, .int 3, .int v], [.int 0, .int v])) (h' := (G, I, F)) (hs' := []) rfl rfl ?_
  refine vm_J.bT (by decide) ?_
  refine vm_J.go vm_q282 (k := 3) (hs := []) (f' := (bif vm_ic .ne 3 2 then 58 else 54, (0, 0), [.ref 152, .int 3, .int v], [.int 0, .int v])) (h' := (G, I, F)) (hs' := []) rfl rfl ?_
  refine vm_J.bT (by decide) ?_
  refine vm_J.go vm_q282 (k := 1) (hs := []) (f' := (60, (0, 0), [.ref 152, .int 3, .int v], [.int 15, .int 0, .int v])) (h' := (G, I, F)) (hs' := []) rfl rfl ?_
  refine vm_J.call vm_q282 (Z := vm_M168) (n := 3) (k := 1) (mi := 168) (pc := 60) (en := (60, .invokestatic 141, 3, [168, 1302, 0], .null)) rfl trivial rfl rfl vm_z168 (av := [.int v, .int 0, .int 15]) (rest := []) (r_isIn_y (v := v) (a := 0) (b := 15) hv) rfl (Nat.le_of_ble_eq_true rfl) ⟨Nat.le_of_ble_eq_true rfl, Nat.le_of_ble_eq_true rfl⟩ ⟨Nat.le_of_ble_eq_true rfl, Nat.le_of_ble_eq_true rfl⟩ ?_
  show vm_J _ _ _ (63, (0, 0), [.ref 152, .int 3, .int v], [.int 1]) (G, I, F) _ _
  refine vm_J.go vm_q282 (k := 1) (hs := []) (f' := (bif vm_ic .ne 1 0 then 69 else 66, (0, 0), [.ref 152, .int 3, .int v], [])) (h' := (G, I, F)) (hs' := []) rfl rfl ?_
  refine vm_J.bT (by decide) ?_
  refine vm_J.go vm_q282 (k := 2) (hs := [vm_shR]) (f' := (73, (0, 0), [.ref 152, .int 3, .int v], [.int (I 152 50)])) (h' := (G, I, F)) (hs' := []) rfl (vm_b2 rfl (vm_b2 (vm_b2 (vm_hG hR.c152) rfl) rfl)) ?_
  rw [(hn : I 152 50 = nI n)]
  refine vm_J.go vm_q282 (k := 2) (hs := []) (f' := (bif vm_ic .ne (nI n) 8 then 81 else 78, (0, 0), [.ref 152, .int 3, .int v], [])) (h' := (G, I, F)) (hs' := []) rfl rfl ?_
  refine vm_J.br (fun c1 => ?_) (fun c1 => ?_)
  · have c1 := vm_ne_t (a := n) (b := 8) (by omega) (by omega) c1
    exact (show False by omega).elim
  · have c1 := vm_ne_f (a := n) (b := 8) (by omega) (by omega) c1
    refine vm_J.go vm_q282 (k := 1) (hs := []) (f' := (80, (0, 0), [.ref 152, .int 3, .int v], [.int (-4)])) (h' := (G, I, F)) (hs' := []) rfl rfl ?_
    exact vm_J.end vm_q282 (en := (80, .ireturn, 1, [], .null)) rfl rfl vm_rI (Nat.zero_le _) (Nat.zero_le _) rfl
set_option maxHeartbeats 4000000 in
set_option maxRecDepth 20000 in
/-- DitherDeskModel.plan -/
theorem r_plan_y3 {l : Launch} {X : vm_Cx} {G : List vm_Sh} {I : Nat → Nat → Int32} {F : Nat → Nat → UInt32} {n : Nat} {v : Int32} (hR : vm_isR G) (hn : I 152 50 = nI n) (hn2 : n < 8) (hv : 0 ≤ v ∧ v ≤ 15) : vm_K l X vm_M282 [.ref 152, .int 3, .int v] (G, I, F) (some (.int (nI (n + 1)))) (G, (vm_up (vm_up (vm_up I 185 n 3) 186 n v) 152 50 (nI (n + 1))), F) := by
  refine vm_K.mk (by decide) (Nat.le_of_ble_eq_true rfl) ?_
  show vm_J _ _ _ (0, (0, 0), [.ref 152, .int 3, .int v], []) _ _ _
  refine vm_J.go vm_q282 (k := 3) (hs := []) (f' := (bif vm_ic .ne 3 (-1) then 12 else 5, (0, 0), [.ref 152, .int 3, .int v], [])) (h' := (G, I, F)) (hs' := []) rfl rfl ?_
  refine vm_J.bT (by decide) ?_
  refine vm_J.go vm_q282 (k := 3) (hs := []) (f' := (15, (0, 0), [.ref 152, .int 3, .int v], [.int 3, .int 0, .int 3])) (h' := (G, I, F)) (hs' := []) rfl rfl ?_
  refine vm_J.call vm_q282 (Z := vm_M168) (n := 3) (k := 1) (mi := 168) (pc := 15) (en := (15, .invokestatic 141, 3, [168, 1302, 0], .null)) rfl trivial rfl rfl vm_z168 (av := [.int 3, .int 0, .int 3]) (rest := []) (r_isIn_y (v := 3) (a := 0) (b := 3) (by decide)) rfl (Nat.le_of_ble_eq_true rfl) ⟨Nat.le_of_ble_eq_true rfl, Nat.le_of_ble_eq_true rfl⟩ ⟨Nat.le_of_ble_eq_true rfl, Nat.le_of_ble_eq_true rfl⟩ ?_
  show vm_J _ _ _ (18, (0, 0), [.ref 152, .int 3, .int v], [.int 1]) (G, I, F) _ _
  refine vm_J.go vm_q282 (k := 1) (hs := []) (f' := (bif vm_ic .eq 1 0 then 32 else 21, (0, 0), [.ref 152, .int 3, .int v], [])) (h' := (G, I, F)) (hs' := []) rfl rfl ?_
  refine vm_J.bF (by decide) ?_
  refine vm_J.go vm_q282 (k := 2) (hs := []) (f' := (bif vm_ic .ne 3 0 then 34 else 25, (0, 0), [.ref 152, .int 3, .int v], [])) (h' := (G, I, F)) (hs' := []) rfl rfl ?_
  refine vm_J.bT (by decide) ?_
  refine vm_J.go vm_q282 (k := 2) (hs := []) (f' := (bif vm_ic .le 3 0 then 69 else 38, (0, 0), [.ref 152, .int 3, .int v], [])) (h' := (G, I, F)) (hs' := []) rfl rfl ?_
  refine vm_J.bF (by decide) ?_
  refine vm_J.go vm_q282 (k := 5) (hs := []) (f' := (bif vm_ic .ne 3 1 then 49 else 45, (0, 0), [.ref 152, .int 3, .int v], [.int 0, .int v])) (h' := (G, I, F)) (hs' := []) rfl rfl ?_
  refine vm_J.bT (by decide) ?_
  refine vm_J.go vm_q282 (k := 3) (hs := []) (f' := (bif vm_ic .ne 3 2 then 58 else 54, (0, 0), [.ref 152, .int 3, .int v], [.int 0, .int v])) (h' := (G, I, F)) (hs' := []) rfl rfl ?_
  refine vm_J.bT (by decide) ?_
  refine vm_J.go vm_q282 (k := 1) (hs := []) (f' := (60, (0, 0), [.ref 152, .int 3, .int v], [.int 15, .int 0, .int v])) (h' := (G, I, F)) (hs' := []) rfl rfl ?_
  refine vm_J.call vm_q282 (Z := vm_M168) (n := 3) (k := 1) (mi := 168) (pc := 60) (en := (60, .invokestatic 141, 3, [168, 1302, 0], .null)) rfl trivial rfl rfl vm_z168 (av := [.int v, .int 0, .int 15]) (rest := []) (r_isIn_y (v := v) (a := 0) (b := 15) hv) rfl (Nat.le_of_ble_eq_true rfl) ⟨Nat.le_of_ble_eq_true rfl, Nat.le_of_ble_eq_true rfl⟩ ⟨Nat.le_of_ble_eq_true rfl, Nat.le_of_ble_eq_true rfl⟩ ?_
  show vm_J _ _ _ (63, (0, 0), [.ref 152, .int 3, .int v], [.int 1]) (G, I, F) _ _
  refine vm_J.go vm_q282 (k := 1) (hs := []) (f' := (bif vm_ic .ne 1 0 then 69 else 66, (0, 0), [.ref 152, .int 3, .int v], [])) (h' := (G, I, F)) (hs' := []) rfl rfl ?_
  refine vm_J.bT (by decide) ?_
  refine vm_J.go vm_q282 (k := 2) (hs := [vm_shR]) (f' := (73, (0, 0), [.ref 152, .int 3, .int v], [.int (I 152 50)])) (h' := (G, I, F)) (hs' := []) rfl (vm_b2 rfl (vm_b2 (vm_b2 (vm_hG hR.c152) rfl) rfl)) ?_
  rw [(hn : I 152 50 = nI n)]
  refine vm_J.go vm_q282 (k := 2) (hs := []) (f' := (bif vm_ic .ne (nI n) 8 then 81 else 78, (0, 0), [.ref 152, .int 3, .int v], [])) (h' := (G, I, F)) (hs' := []) rfl rfl ?_
  refine vm_J.br (fun c1 => ?_) (fun c1 => ?_)
  · have c1 := vm_ne_t (a := n) (b := 8) (by omega) (by omega) c1
    refine vm_J.go vm_q282 (k := 4) (hs := [vm_shR, vm_shR]) (f' := (89, (0, 0), [.ref 152, .int 3, .int v], [.int (I 152 50), .ref 185])) (h' := (G, I, F)) (hs' := []) rfl (vm_b2 rfl (vm_b2 (vm_b2 (vm_hG hR.c152) rfl) (vm_b2 rfl (vm_b2 (vm_b2 (vm_hG hR.c152) rfl) rfl)))) ?_
    rw [(hn : I 152 50 = nI n)]
    refine vm_J.go vm_q282 (k := 6) (hs := [(0, 8, []), vm_shR, vm_shR]) (f' := (99, (0, 0), [.ref 152, .int 3, .int v], [.int ((vm_up I 185 ((nI n).toNatClampNeg) 3) 152 50), .ref 186])) (h' := (G, (vm_up I 185 ((nI n).toNatClampNeg) 3), F)) (hs' := []) rfl (vm_b2 rfl (vm_b2 (vm_b2 (vm_hG hR.c185) (vm_in_e (j := n) (n := 8) rfl (by omega) (by omega))) (vm_b2 rfl (vm_b2 (vm_b2 (vm_hG hR.c152) rfl) (vm_b2 rfl (vm_b2 (vm_b2 (vm_hG hR.c152) rfl) rfl)))))) ?_
    rw [vm_ix_e (j := n) rfl (by omega)]
    rw [((Eq.trans (congrFun (vm_up_f _ 185 _ _ 152 (by decide)) 50) hn) : (vm_up I 185 (n) 3) 152 50 = nI n)]
    refine vm_J.go vm_q282 (k := 5) (hs := [(0, 8, []), vm_shR]) (f' := (106, (0, 0), [.ref 152, .int 3, .int v], [.int ((vm_up (vm_up I 185 (n) 3) 186 ((nI n).toNatClampNeg) v) 152 50), .ref 152])) (h' := (G, (vm_up (vm_up I 185 (n) 3) 186 ((nI n).toNatClampNeg) v), F)) (hs' := []) rfl (vm_b2 rfl (vm_b2 (vm_b2 (vm_hG hR.c186) (vm_in_e (j := n) (n := 8) rfl (by omega) (by omega))) (vm_b2 rfl (vm_b2 rfl (vm_b2 (vm_b2 (vm_hG hR.c152) rfl) rfl))))) ?_
    rw [vm_ix_e (j := n) rfl (by omega)]
    rw [((Eq.trans (congrFun (vm_up_f _ 186 _ _ 152 (by decide)) 50) (Eq.trans (congrFun (vm_up_f _ 185 _ _ 152 (by decide)) 50) hn)) : (vm_up (vm_up I 185 (n) 3) 186 (n) v) 152 50 = nI n)]
    refine vm_J.go vm_q282 (k := 2) (hs := []) (f' := (108, (0, 0), [.ref 152, .int 3, .int v], [.int ((nI n) + 1), .ref 152])) (h' := (G, (vm_up (vm_up I 185 (n) 3) 186 (n) v), F)) (hs' := []) rfl rfl ?_
    rw [((vm_pa (rfl : (nI n : Int32) = nI n) (rfl : (1 : Int32) = nI 1)) : (nI n) + 1 = nI (n + 1))]
    refine vm_J.go vm_q282 (k := 3) (hs := [vm_shR, vm_shR]) (f' := (115, (0, 0), [.ref 152, .int 3, .int v], [.int ((vm_up (vm_up (vm_up I 185 (n) 3) 186 (n) v) 152 50 (nI (n + 1))) 152 50)])) (h' := (G, (vm_up (vm_up (vm_up I 185 (n) 3) 186 (n) v) 152 50 (nI (n + 1))), F)) (hs' := []) rfl (vm_b2 (vm_b2 (vm_b2 (vm_hG hR.c152) rfl) rfl) (vm_b2 rfl (vm_b2 (vm_b2 (vm_hG hR.c152) rfl) rfl))) ?_
    rw [((vm_up_h _ 152 50 _) : (vm_up (vm_up (vm_up I 185 (n) 3) 186 (n) v) 152 50 (nI (n + 1))) 152 50 = nI (n + 1))]
    exact vm_J.end vm_q282 (en := (115, .ireturn, 1, [], .null)) rfl rfl vm_rI (Nat.zero_le _) (Nat.zero_le _) rfl
  · have c1 := vm_ne_f (a := n) (b := 8) (by omega) (by omega) c1
    exact (show False by omega).elim
set_option maxHeartbeats 4000000 in
set_option maxRecDepth 20000 in
/-- DitherDeskModel.book -/
theorem r_book_c {l : Launch} {X : vm_Cx} {G : List vm_Sh} {I : Nat → Nat → Int32} {F : Nat → Nat → UInt32} {v : Int32} (hR : vm_isR G) : vm_K l X vm_M285 [.ref 152, .int (-1), .int v] (G, I, F) (some (.int 0)) (G, (vm_up I 152 51 0), F) := by
  refine vm_K.mk (by decide) (Nat.le_of_ble_eq_true rfl) ?_
  show vm_J _ _ _ (0, (0, 0), [.ref 152, .int (-1), .int v], []) _ _ _
  refine vm_J.go vm_q285 (k := 3) (hs := []) (f' := (bif vm_ic .ne (-1) (-1) then 12 else 5, (0, 0), [.ref 152, .int (-1), .int v], [])) (h' := (G, I, F)) (hs' := []) rfl rfl ?_
  refine vm_J.bF (by decide) ?_
  refine vm_J.go vm_q285 (k := 4) (hs := [vm_shR]) (f' := (11, (0, 0), [.ref 152, .int (-1), .int v], [.int 0])) (h' := (G, (vm_up I 152 51 0), F)) (hs' := []) rfl (vm_b2 rfl (vm_b2 rfl (vm_b2 (vm_b2 (vm_b2 (vm_hG hR.c152) rfl) rfl) (vm_b2 rfl rfl)))) ?_
  exact vm_J.end vm_q285 (en := (11, .ireturn, 1, [], .null)) rfl rfl vm_rI (Nat.zero_le _) (Nat.zero_le _) rfl
set_option maxHeartbeats 4000000 in
set_option maxRecDepth 20000 in
/-- DitherDeskModel.book -/
theorem r_book_x {l : Launch} {X : vm_Cx} {G : List vm_Sh} {I : Nat → Nat → Int32} {F : Nat → Nat → UInt32} {x : Int32} {v : Int32} (hR : vm_isR G) (hx1 : ¬ x = -1) (hx : ¬ (0 ≤ x ∧ x ≤ 3)) : vm_K l X vm_M285 [.ref 152, .int x, .int v] (G, I, F) (some (.int (-1))) (G, I, F) := by
  refine vm_K.mk (by decide) (Nat.le_of_ble_eq_true rfl) ?_
  show vm_J _ _ _ (0, (0, 0), [.ref 152, .int x, .int v], []) _ _ _
  refine vm_J.go vm_q285 (k := 3) (hs := []) (f' := (bif vm_ic .ne x (-1) then 12 else 5, (0, 0), [.ref 152, .int x, .int v], [])) (h' := (G, I, F)) (hs' := []) rfl rfl ?_
  refine vm_J.bT (decide_eq_true hx1) ?_
  refine vm_J.go vm_q285 (k := 1) (hs := []) (f' := (13, (0, 0), [.ref 152, .int x, .int v], [.int x])) (h' := (G, I, F)) (hs' := []) rfl rfl ?_
  refine vm_J.call vm_q285 (Z := vm_M173) (n := 1) (k := 1) (mi := 173) (pc := 13) (en := (13, .invokestatic 145, 3, [173, 1453, 0], .null)) rfl trivial rfl rfl vm_z173 (av := [.int x]) (rest := []) (r_isPalette_n (c := x) hx) rfl (Nat.le_of_ble_eq_true rfl) ⟨Nat.le_of_ble_eq_true rfl, Nat.le_of_ble_eq_true rfl⟩ ⟨Nat.le_of_ble_eq_true rfl, Nat.le_of_ble_eq_true rfl⟩ ?_
  show vm_J _ _ _ (16, (0, 0), [.ref 152, .int x, .int v], [.int 0]) (G, I, F) _ _
  refine vm_J.go vm_q285 (k := 1) (hs := []) (f' := (bif vm_ic .ne 0 0 then 21 else 19, (0, 0), [.ref 152, .int x, .int v], [])) (h' := (G, I, F)) (hs' := []) rfl rfl ?_
  refine vm_J.bF (by decide) ?_
  refine vm_J.go vm_q285 (k := 1) (hs := []) (f' := (20, (0, 0), [.ref 152, .int x, .int v], [.int (-1)])) (h' := (G, I, F)) (hs' := []) rfl rfl ?_
  exact vm_J.end vm_q285 (en := (20, .ireturn, 1, [], .null)) rfl rfl vm_rI (Nat.zero_le _) (Nat.zero_le _) rfl
set_option maxHeartbeats 4000000 in
set_option maxRecDepth 20000 in
/-- DitherDeskModel.book -/
theorem r_book_b {l : Launch} {X : vm_Cx} {G : List vm_Sh} {I : Nat → Nat → Int32} {F : Nat → Nat → UInt32} {x : Int32} {v : Int32} (hR : vm_isR G) (hx1 : ¬ x = -1) (hx : 0 ≤ x ∧ x ≤ 3) (hv : ¬ (0 ≤ v ∧ v ≤ 16)) : vm_K l X vm_M285 [.ref 152, .int x, .int v] (G, I, F) (some (.int (-2))) (G, I, F) := by
  refine vm_K.mk (by decide) (Nat.le_of_ble_eq_true rfl) ?_
  show vm_J _ _ _ (0, (0, 0), [.ref 152, .int x, .int v], []) _ _ _
  refine vm_J.go vm_q285 (k := 3) (hs := []) (f' := (bif vm_ic .ne x (-1) then 12 else 5, (0, 0), [.ref 152, .int x, .int v], [])) (h' := (G, I, F)) (hs' := []) rfl rfl ?_
  refine vm_J.bT (decide_eq_true hx1) ?_
  refine vm_J.go vm_q285 (k := 1) (hs := []) (f' := (13, (0, 0), [.ref 152, .int x, .int v], [.int x])) (h' := (G, I, F)) (hs' := []) rfl rfl ?_
  refine vm_J.call vm_q285 (Z := vm_M173) (n := 1) (k := 1) (mi := 173) (pc := 13) (en := (13, .invokestatic 145, 3, [173, 1453, 0], .null)) rfl trivial rfl rfl vm_z173 (av := [.int x]) (rest := []) (r_isPalette_y (c := x) hx) rfl (Nat.le_of_ble_eq_true rfl) ⟨Nat.le_of_ble_eq_true rfl, Nat.le_of_ble_eq_true rfl⟩ ⟨Nat.le_of_ble_eq_true rfl, Nat.le_of_ble_eq_true rfl⟩ ?_
  show vm_J _ _ _ (16, (0, 0), [.ref 152, .int x, .int v], [.int 1]) (G, I, F) _ _
  refine vm_J.go vm_q285 (k := 1) (hs := []) (f' := (bif vm_ic .ne 1 0 then 21 else 19, (0, 0), [.ref 152, .int x, .int v], [])) (h' := (G, I, F)) (hs' := []) rfl rfl ?_
  refine vm_J.bT (by decide) ?_
  refine vm_J.go vm_q285 (k := 3) (hs := []) (f' := (25, (0, 0), [.ref 152, .int x, .int v], [.int 16, .int 0, .int v])) (h' := (G, I, F)) (hs' := []) rfl rfl ?_
  refine vm_J.call vm_q285 (Z := vm_M168) (n := 3) (k := 1) (mi := 168) (pc := 25) (en := (25, .invokestatic 141, 3, [168, 1302, 0], .null)) rfl trivial rfl rfl vm_z168 (av := [.int v, .int 0, .int 16]) (rest := []) (r_isIn_n (v := v) (a := 0) (b := 16) hv) rfl (Nat.le_of_ble_eq_true rfl) ⟨Nat.le_of_ble_eq_true rfl, Nat.le_of_ble_eq_true rfl⟩ ⟨Nat.le_of_ble_eq_true rfl, Nat.le_of_ble_eq_true rfl⟩ ?_
  show vm_J _ _ _ (28, (0, 0), [.ref 152, .int x, .int v], [.int 0]) (G, I, F) _ _
  refine vm_J.go vm_q285 (k := 1) (hs := []) (f' := (bif vm_ic .ne 0 0 then 34 else 31, (0, 0), [.ref 152, .int x, .int v], [])) (h' := (G, I, F)) (hs' := []) rfl rfl ?_
  refine vm_J.bF (by decide) ?_
  refine vm_J.go vm_q285 (k := 1) (hs := []) (f' := (33, (0, 0), [.ref 152, .int x, .int v], [.int (-2)])) (h' := (G, I, F)) (hs' := []) rfl rfl ?_
  exact vm_J.end vm_q285 (en := (33, .ireturn, 1, [], .null)) rfl rfl vm_rI (Nat.zero_le _) (Nat.zero_le _) rfl
set_option maxHeartbeats 4000000 in
set_option maxRecDepth 20000 in
/-- DitherDeskModel.book -/
theorem r_book_f {l : Launch} {X : vm_Cx} {G : List vm_Sh} {I : Nat → Nat → Int32} {F : Nat → Nat → UInt32} {n : Nat} {x : Int32} {v : Int32} (hR : vm_isR G) (hn : I 152 51 = nI n) (hn2 : n = 8) (hx1 : ¬ x = -1) (hx : 0 ≤ x ∧ x ≤ 3) (hv : 0 ≤ v ∧ v ≤ 16) : vm_K l X vm_M285 [.ref 152, .int x, .int v] (G, I, F) (some (.int (-4))) (G, I, F) := by
  refine vm_K.mk (by decide) (Nat.le_of_ble_eq_true rfl) ?_
  show vm_J _ _ _ (0, (0, 0), [.ref 152, .int x, .int v], []) _ _ _
  refine vm_J.go vm_q285 (k := 3) (hs := []) (f' := (bif vm_ic .ne x (-1) then 12 else 5, (0, 0), [.ref 152, .int x, .int v], [])) (h' := (G, I, F)) (hs' := []) rfl rfl ?_
  refine vm_J.bT (decide_eq_true hx1) ?_
  refine vm_J.go vm_q285 (k := 1) (hs := []) (f' := (13, (0, 0), [.ref 152, .int x, .int v], [.int x])) (h' := (G, I, F)) (hs' := []) rfl rfl ?_
  refine vm_J.call vm_q285 (Z := vm_M173) (n := 1) (k := 1) (mi := 173) (pc := 13) (en := (13, .invokestatic 145, 3, [173, 1453, 0], .null)) rfl trivial rfl rfl vm_z173 (av := [.int x]) (rest := []) (r_isPalette_y (c := x) hx) rfl (Nat.le_of_ble_eq_true rfl) ⟨Nat.le_of_ble_eq_true rfl, Nat.le_of_ble_eq_true rfl⟩ ⟨Nat.le_of_ble_eq_true rfl, Nat.le_of_ble_eq_true rfl⟩ ?_
  show vm_J _ _ _ (16, (0, 0), [.ref 152, .int x, .int v], [.int 1]) (G, I, F) _ _
  refine vm_J.go vm_q285 (k := 1) (hs := []) (f' := (bif vm_ic .ne 1 0 then 21 else 19, (0, 0), [.ref 152, .int x, .int v], [])) (h' := (G, I, F)) (hs' := []) rfl rfl ?_
  refine vm_J.bT (by decide) ?_
  refine vm_J.go vm_q285 (k := 3) (hs := []) (f' := (25, (0, 0), [.ref 152, .int x, .int v], [.int 16, .int 0, .int v])) (h' := (G, I, F)) (hs' := []) rfl rfl ?_
  refine vm_J.call vm_q285 (Z := vm_M168) (n := 3) (k := 1) (mi := 168) (pc := 25) (en := (25, .invokestatic 141, 3, [168, 1302, 0], .null)) rfl trivial rfl rfl vm_z168 (av := [.int v, .int 0, .int 16]) (rest := []) (r_isIn_y (v := v) (a := 0) (b := 16) hv) rfl (Nat.le_of_ble_eq_true rfl) ⟨Nat.le_of_ble_eq_true rfl, Nat.le_of_ble_eq_true rfl⟩ ⟨Nat.le_of_ble_eq_true rfl, Nat.le_of_ble_eq_true rfl⟩ ?_
  show vm_J _ _ _ (28, (0, 0), [.ref 152, .int x, .int v], [.int 1]) (G, I, F) _ _
  refine vm_J.go vm_q285 (k := 1) (hs := []) (f' := (bif vm_ic .ne 1 0 then 34 else 31, (0, 0), [.ref 152, .int x, .int v], [])) (h' := (G, I, F)) (hs' := []) rfl rfl ?_
  refine vm_J.bT (by decide) ?_
  refine vm_J.go vm_q285 (k := 2) (hs := [vm_shR]) (f' := (38, (0, 0), [.ref 152, .int x, .int v], [.int (I 152 51)])) (h' := (G, I, F)) (hs' := []) rfl (vm_b2 rfl (vm_b2 (vm_b2 (vm_hG hR.c152) rfl) rfl)) ?_
  rw [(hn : I 152 51 = nI n)]
  refine vm_J.go vm_q285 (k := 2) (hs := []) (f' := (bif vm_ic .ne (nI n) 8 then 46 else 43, (0, 0), [.ref 152, .int x, .int v], [])) (h' := (G, I, F)) (hs' := []) rfl rfl ?_
  refine vm_J.br (fun c1 => ?_) (fun c1 => ?_)
  · have c1 := vm_ne_t (a := n) (b := 8) (by omega) (by omega) c1
    exact (show False by omega).elim
  · have c1 := vm_ne_f (a := n) (b := 8) (by omega) (by omega) c1
    refine vm_J.go vm_q285 (k := 1) (hs := []) (f' := (45, (0, 0), [.ref 152, .int x, .int v], [.int (-4)])) (h' := (G, I, F)) (hs' := []) rfl rfl ?_
    exact vm_J.end vm_q285 (en := (45, .ireturn, 1, [], .null)) rfl rfl vm_rI (Nat.zero_le _) (Nat.zero_le _) rfl
set_option maxHeartbeats 4000000 in
set_option maxRecDepth 20000 in
/-- DitherDeskModel.book -/
theorem r_book_y {l : Launch} {X : vm_Cx} {G : List vm_Sh} {I : Nat → Nat → Int32} {F : Nat → Nat → UInt32} {n : Nat} {x : Int32} {v : Int32} (hR : vm_isR G) (hn : I 152 51 = nI n) (hn2 : n < 8) (hx1 : ¬ x = -1) (hx : 0 ≤ x ∧ x ≤ 3) (hv : 0 ≤ v ∧ v ≤ 16) : vm_K l X vm_M285 [.ref 152, .int x, .int v] (G, I, F) (some (.int (nI (n + 1)))) (G, (vm_up (vm_up (vm_up I 187 n x) 188 n v) 152 51 (nI (n + 1))), F) := by
  refine vm_K.mk (by decide) (Nat.le_of_ble_eq_true rfl) ?_
  show vm_J _ _ _ (0, (0, 0), [.ref 152, .int x, .int v], []) _ _ _
  refine vm_J.go vm_q285 (k := 3) (hs := []) (f' := (bif vm_ic .ne x (-1) then 12 else 5, (0, 0), [.ref 152, .int x, .int v], [])) (h' := (G, I, F)) (hs' := []) rfl rfl ?_
  refine vm_J.bT (decide_eq_true hx1) ?_
  refine vm_J.go vm_q285 (k := 1) (hs := []) (f' := (13, (0, 0), [.ref 152, .int x, .int v], [.int x])) (h' := (G, I, F)) (hs' := []) rfl rfl ?_
  refine vm_J.call vm_q285 (Z := vm_M173) (n := 1) (k := 1) (mi := 173) (pc := 13) (en := (13, .invokestatic 145, 3, [173, 1453, 0], .null)) rfl trivial rfl rfl vm_z173 (av := [.int x]) (rest := []) (r_isPalette_y (c := x) hx) rfl (Nat.le_of_ble_eq_true rfl) ⟨Nat.le_of_ble_eq_true rfl, Nat.le_of_ble_eq_true rfl⟩ ⟨Nat.le_of_ble_eq_true rfl, Nat.le_of_ble_eq_true rfl⟩ ?_
  show vm_J _ _ _ (16, (0, 0), [.ref 152, .int x, .int v], [.int 1]) (G, I, F) _ _
  refine vm_J.go vm_q285 (k := 1) (hs := []) (f' := (bif vm_ic .ne 1 0 then 21 else 19, (0, 0), [.ref 152, .int x, .int v], [])) (h' := (G, I, F)) (hs' := []) rfl rfl ?_
  refine vm_J.bT (by decide) ?_
  refine vm_J.go vm_q285 (k := 3) (hs := []) (f' := (25, (0, 0), [.ref 152, .int x, .int v], [.int 16, .int 0, .int v])) (h' := (G, I, F)) (hs' := []) rfl rfl ?_
  refine vm_J.call vm_q285 (Z := vm_M168) (n := 3) (k := 1) (mi := 168) (pc := 25) (en := (25, .invokestatic 141, 3, [168, 1302, 0], .null)) rfl trivial rfl rfl vm_z168 (av := [.int v, .int 0, .int 16]) (rest := []) (r_isIn_y (v := v) (a := 0) (b := 16) hv) rfl (Nat.le_of_ble_eq_true rfl) ⟨Nat.le_of_ble_eq_true rfl, Nat.le_of_ble_eq_true rfl⟩ ⟨Nat.le_of_ble_eq_true rfl, Nat.le_of_ble_eq_true rfl⟩ ?_
  show vm_J _ _ _ (28, (0, 0), [.ref 152, .int x, .int v], [.int 1]) (G, I, F) _ _
  refine vm_J.go vm_q285 (k := 1) (hs := []) (f' := (bif vm_ic .ne 1 0 then 34 else 31, (0, 0), [.ref 152, .int x, .int v], [])) (h' := (G, I, F)) (hs' := []) rfl rfl ?_
  refine vm_J.bT (by decide) ?_
  refine vm_J.go vm_q285 (k := 2) (hs := [vm_shR]) (f' := (38, (0, 0), [.ref 152, .int x, .int v], [.int (I 152 51)])) (h' := (G, I, F)) (hs' := []) rfl (vm_b2 rfl (vm_b2 (vm_b2 (vm_hG hR.c152) rfl) rfl)) ?_
  rw [(hn : I 152 51 = nI n)]
  refine vm_J.go vm_q285 (k := 2) (hs := []) (f' := (bif vm_ic .ne (nI n) 8 then 46 else 43, (0, 0), [.ref 152, .int x, .int v], [])) (h' := (G, I, F)) (hs' := []) rfl rfl ?_
  refine vm_J.br (fun c1 => ?_) (fun c1 => ?_)
  · have c1 := vm_ne_t (a := n) (b := 8) (by omega) (by omega) c1
    refine vm_J.go vm_q285 (k := 4) (hs := [vm_shR, vm_shR]) (f' := (54, (0, 0), [.ref 152, .int x, .int v], [.int (I 152 51), .ref 187])) (h' := (G, I, F)) (hs' := []) rfl (vm_b2 rfl (vm_b2 (vm_b2 (vm_hG hR.c152) rfl) (vm_b2 rfl (vm_b2 (vm_b2 (vm_hG hR.c152) rfl) rfl)))) ?_
    rw [(hn : I 152 51 = nI n)]
    refine vm_J.go vm_q285 (k := 6) (hs := [(0, 8, []), vm_shR, vm_shR]) (f' := (64, (0, 0), [.ref 152, .int x, .int v], [.int ((vm_up I 187 ((nI n).toNatClampNeg) x) 152 51), .ref 188])) (h' := (G, (vm_up I 187 ((nI n).toNatClampNeg) x), F)) (hs' := []) rfl (vm_b2 rfl (vm_b2 (vm_b2 (vm_hG hR.c187) (vm_in_e (j := n) (n := 8) rfl (by omega) (by omega))) (vm_b2 rfl (vm_b2 (vm_b2 (vm_hG hR.c152) rfl) (vm_b2 rfl (vm_b2 (vm_b2 (vm_hG hR.c152) rfl) rfl)))))) ?_
    rw [vm_ix_e (j := n) rfl (by omega)]
    rw [((Eq.trans (congrFun (vm_up_f _ 187 _ _ 152 (by decide)) 51) hn) : (vm_up I 187 (n) x) 152 51 = nI n)]
    refine vm_J.go vm_q285 (k := 5) (hs := [(0, 8, []), vm_shR]) (f' := (71, (0, 0), [.ref 152, .int x, .int v], [.int ((vm_up (vm_up I 187 (n) x) 188 ((nI n).toNatClampNeg) v) 152 51), .ref 152])) (h' := (G, (vm_up (vm_up I 187 (n) x) 188 ((nI n).toNatClampNeg) v), F)) (hs' := []) rfl (vm_b2 rfl (vm_b2 (vm_b2 (vm_hG hR.c188) (vm_in_e (j := n) (n := 8) rfl (by omega) (by omega))) (vm_b2 rfl (vm_b2 rfl (vm_b2 (vm_b2 (vm_hG hR.c152) rfl) rfl))))) ?_
    rw [vm_ix_e (j := n) rfl (by omega)]
    rw [((Eq.trans (congrFun (vm_up_f _ 188 _ _ 152 (by decide)) 51) (Eq.trans (congrFun (vm_up_f _ 187 _ _ 152 (by decide)) 51) hn)) : (vm_up (vm_up I 187 (n) x) 188 (n) v) 152 51 = nI n)]
    refine vm_J.go vm_q285 (k := 2) (hs := []) (f' := (73, (0, 0), [.ref 152, .int x, .int v], [.int ((nI n) + 1), .ref 152])) (h' := (G, (vm_up (vm_up I 187 (n) x) 188 (n) v), F)) (hs' := []) rfl rfl ?_
    rw [((vm_pa (rfl : (nI n : Int32) = nI n) (rfl : (1 : Int32) = nI 1)) : (nI n) + 1 = nI (n + 1))]
    refine vm_J.go vm_q285 (k := 3) (hs := [vm_shR, vm_shR]) (f' := (80, (0, 0), [.ref 152, .int x, .int v], [.int ((vm_up (vm_up (vm_up I 187 (n) x) 188 (n) v) 152 51 (nI (n + 1))) 152 51)])) (h' := (G, (vm_up (vm_up (vm_up I 187 (n) x) 188 (n) v) 152 51 (nI (n + 1))), F)) (hs' := []) rfl (vm_b2 (vm_b2 (vm_b2 (vm_hG hR.c152) rfl) rfl) (vm_b2 rfl (vm_b2 (vm_b2 (vm_hG hR.c152) rfl) rfl))) ?_
    rw [((vm_up_h _ 152 51 _) : (vm_up (vm_up (vm_up I 187 (n) x) 188 (n) v) 152 51 (nI (n + 1))) 152 51 = nI (n + 1))]
    exact vm_J.end vm_q285 (en := (80, .ireturn, 1, [], .null)) rfl rfl vm_rI (Nat.zero_le _) (Nat.zero_le _) rfl
  · have c1 := vm_ne_f (a := n) (b := 8) (by omega) (by omega) c1
    exact (show False by omega).elim
set_option maxHeartbeats 4000000 in
set_option maxRecDepth 20000 in
/-- DitherDeskModel.looked -/
theorem r_looked {l : Launch} {X : vm_Cx} {G : List vm_Sh} {I : Nat → Nat → Int32} {F : Nat → Nat → UInt32} {n : Nat} {bp : Nat → Nat} (hR : vm_isR G) (hn : I 152 51 = nI n) (hn2 : n ≤ 8) (hbp : ∀ k, k < n → I 187 k = nI (bp k) ∧ bp k < 4) : vm_K l X vm_M286 [.ref 152] (G, I, F) (some (.int (sp_fo (fun k => ¬ I 156 (bp k) = I 188 k) n (-5)))) (G, I, F) := by
  refine vm_K.mk (by decide) (Nat.le_of_ble_eq_true rfl) ?_
  show vm_J _ _ _ (0, (0, 0), [.ref 152, .retAddr 0], []) _ _ _
  refine vm_J.go vm_q286 (k := 2) (hs := []) (f' := (2, (0, 0), [.ref 152, .int 0], [])) (h' := (G, I, F)) (hs' := []) rfl rfl ?_
  refine vm_J.cnt n (fun k => (2, (0, 0), [.ref 152, .int (nI k)], [])) (fun k => (G, I, F)) (fun k => ∀ i, i < k → ¬ ¬ I 156 (bp i) = I 188 i) rfl rfl vm_all0 (fun k hk pk ik => ?_) (fun pk => ?_)
  · have hb4 := (hbp k hk).2
    show vm_J _ _ _ (2, (0, 0), [.ref 152, .int (nI k)], []) (G, I, F) _ _
    refine vm_J.go vm_q286 (k := 3) (hs := [vm_shR]) (f' := (7, (0, 0), [.ref 152, .int (nI k)], [.int (I 152 51), .int (nI k)])) (h' := (G, I, F)) (hs' := []) rfl (vm_b2 rfl (vm_b2 rfl (vm_b2 (vm_b2 (vm_hG hR.c152) rfl) rfl))) ?_
    rw [(hn : I 152 51 = nI n)]
    refine vm_J.go vm_q286 (k := 1) (hs := []) (f' := (bif vm_ic .ge (nI k) (nI n) then 38 else 10, (0, 0), [.ref 152, .int (nI k)], [])) (h' := (G, I, F)) (hs' := []) rfl rfl ?_
    refine vm_J.br (fun c1 => ?_) (fun c1 => ?_)
    · have c1 := vm_ge_t (a := k) (b := n) (by omega) (by omega) c1
      exact (show False by omega).elim
    · have c1 := vm_ge_f (a := k) (b := n) (by omega) (by omega) c1
      refine vm_J.go vm_q286 (k := 6) (hs := [vm_shR, vm_shR, (0, 8, [])]) (f' := (20, (0, 0), [.ref 152, .int (nI k)], [.int (I 187 (nI k).toNatClampNeg), .ref 156])) (h' := (G, I, F)) (hs' := []) rfl (vm_b2 rfl (vm_b2 (vm_b2 (vm_hG hR.c152) rfl) (vm_b2 rfl (vm_b2 (vm_b2 (vm_hG hR.c152) rfl) (vm_b2 rfl (vm_b2 (vm_b2 (vm_hG hR.c187) (vm_in_e (j := k) (n := 8) rfl (by omega) (by omega))) rfl)))))) ?_
      rw [vm_ix_e (j := k) rfl (by omega)]
      rw [((hbp k (by omega)).1 : I 187 k = nI (bp k))]
      refine vm_J.go vm_q286 (k := 5) (hs := [(0, 4, []), vm_shR, (0, 8, [])]) (f' := (27, (0, 0), [.ref 152, .int (nI k)], [.int (I 188 (nI k).toNatClampNeg), .int (I 156 (nI (bp k)).toNatClampNeg)])) (h' := (G, I, F)) (hs' := []) rfl (vm_b2 (vm_b2 (vm_hG hR.c156) (vm_in_e (j := bp k) (n := 4) rfl (by omega) (by omega))) (vm_b2 rfl (vm_b2 (vm_b2 (vm_hG hR.c152) rfl) (vm_b2 rfl (vm_b2 (vm_b2 (vm_hG hR.c188) (vm_in_e (j := k) (n := 8) rfl (by omega) (by omega))) rfl))))) ?_
      rw [vm_ix_e (j := bp k) rfl (by omega), vm_ix_e (j := k) rfl (by omega)]
      refine vm_J.go vm_q286 (k := 1) (hs := []) (f' := (bif vm_ic .eq (I 156 (bp k)) (I 188 k) then 32 else 30, (0, 0), [.ref 152, .int (nI k)], [])) (h' := (G, I, F)) (hs' := []) rfl rfl ?_
      refine vm_J.br (fun c2 => ?_) (fun c2 => ?_)
      · have c2 : (I 156 (bp k)) = (I 188 k) := of_decide_eq_true c2
        refine vm_J.go vm_q286 (k := 2) (hs := []) (f' := (2, (0, 0), [.ref 152, .int ((nI k) + 1)], [])) (h' := (G, I, F)) (hs' := []) rfl rfl ?_
        rw [((vm_pa (rfl : nI k = nI k) (rfl : (1 : Int32) = nI 1)) : (nI k) + 1 = nI (k + 1))]
        exact ik (vm_alls (p := fun i => ¬ ¬ I 156 (bp i) = I 188 i) pk (fun z => z c2))
      · have c2 : ¬ ((I 156 (bp k)) = (I 188 k)) := of_decide_eq_false c2
        refine vm_J.go vm_q286 (k := 1) (hs := []) (f' := (31, (0, 0), [.ref 152, .int (nI k)], [.int (nI k)])) (h' := (G, I, F)) (hs' := []) rfl rfl ?_
        exact vm_J.end vm_q286 (en := (31, .ireturn, 1, [], .null)) rfl (by rw [sp_fo_hit (p := (fun k => ¬ I 156 (bp k) = I 188 k)) hk pk c2]; rfl) vm_rI (Nat.zero_le _) (Nat.zero_le _) rfl
  · show vm_J _ _ _ (2, (0, 0), [.ref 152, .int (nI n)], []) (G, I, F) _ _
    refine vm_J.go vm_q286 (k := 3) (hs := [vm_shR]) (f' := (7, (0, 0), [.ref 152, .int (nI n)], [.int (I 152 51), .int (nI n)])) (h' := (G, I, F)) (hs' := []) rfl (vm_b2 rfl (vm_b2 rfl (vm_b2 (vm_b2 (vm_hG hR.c152) rfl) rfl))) ?_
    rw [(hn : I 152 51 = nI n)]
    refine vm_J.go vm_q286 (k := 1) (hs := []) (f' := (bif vm_ic .ge (nI n) (nI n) then 38 else 10, (0, 0), [.ref 152, .int (nI n)], [])) (h' := (G, I, F)) (hs' := []) rfl rfl ?_
    refine vm_J.br (fun c3 => ?_) (fun c3 => ?_)
    · have c3 := vm_ge_t (a := n) (b := n) (by omega) (by omega) c3
      refine vm_J.go vm_q286 (k := 1) (hs := []) (f' := (40, (0, 0), [.ref 152, .int (nI n)], [.int (-5)])) (h' := (G, I, F)) (hs' := []) rfl rfl ?_
      exact vm_J.end vm_q286 (en := (40, .ireturn, 1, [], .null)) rfl (by rw [sp_fo_none (p := (fun k => ¬ I 156 (bp k) = I 188 k)) pk]; rfl) vm_rI (Nat.zero_le _) (Nat.zero_le _) rfl
    · have c3 := vm_ge_f (a := n) (b := n) (by omega) (by omega) c3
      exact (show False by omega).elim
set_option maxHeartbeats 4000000 in
set_option maxRecDepth 20000 in
/-- DitherDeskModel.feed -/
theorem r_feed_b {l : Launch} {X : vm_Cx} {G : List vm_Sh} {I : Nat → Nat → Int32} {F : Nat → Nat → UInt32} {c : Int32} (hR : vm_isR G) (hc : ¬ (0 ≤ c ∧ c ≤ 127)) : vm_K l X vm_M219 [.ref 152, .int c] (G, I, F) (some (.int (-2))) (G, I, F) := by
  refine vm_K.mk (by decide) (Nat.le_of_ble_eq_true rfl) ?_
  show vm_J _ _ _ (0, (0, 0), [.ref 152, .int c], []) _ _ _
  refine vm_J.go vm_q219 (k := 3) (hs := []) (f' := (4, (0, 0), [.ref 152, .int c], [.int 127, .int 0, .int c])) (h' := (G, I, F)) (hs' := []) rfl rfl ?_
  refine vm_J.call vm_q219 (Z := vm_M168) (n := 3) (k := 1) (mi := 168) (pc := 4) (en := (4, .invokestatic 141, 3, [168, 1302, 0], .null)) rfl trivial rfl rfl vm_z168 (av := [.int c, .int 0, .int 127]) (rest := []) (r_isIn_n (v := c) (a := 0) (b := 127) hc) rfl (Nat.le_of_ble_eq_true rfl) ⟨Nat.le_of_ble_eq_true rfl, Nat.le_of_ble_eq_true rfl⟩ ⟨Nat.le_of_ble_eq_true rfl, Nat.le_of_ble_eq_true rfl⟩ ?_
  show vm_J _ _ _ (7, (0, 0), [.ref 152, .int c], [.int 0]) (G, I, F) _ _
  refine vm_J.go vm_q219 (k := 1) (hs := []) (f' := (bif vm_ic .ne 0 0 then 13 else 10, (0, 0), [.ref 152, .int c], [])) (h' := (G, I, F)) (hs' := []) rfl rfl ?_
  refine vm_J.bF (by decide) ?_
  refine vm_J.go vm_q219 (k := 1) (hs := []) (f' := (12, (0, 0), [.ref 152, .int c], [.int (-2)])) (h' := (G, I, F)) (hs' := []) rfl rfl ?_
  exact vm_J.end vm_q219 (en := (12, .ireturn, 1, [], .null)) rfl rfl vm_rI (Nat.zero_le _) (Nat.zero_le _) rfl
set_option maxHeartbeats 4000000 in
set_option maxRecDepth 20000 in
/-- DitherDeskModel.feed -/
theorem r_feed_f {l : Launch} {X : vm_Cx} {G : List vm_Sh} {I : Nat → Nat → Int32} {F : Nat → Nat → UInt32} {n : Nat} {c : Int32} (hR : vm_isR G) (hn : I 152 25 = nI n) (hn2 : n = 100) (hc : 0 ≤ c ∧ c ≤ 127) : vm_K l X vm_M219 [.ref 152, .int c] (G, I, F) (some (.int (-4))) (G, I, F) := by
  refine vm_K.mk (by decide) (Nat.le_of_ble_eq_true rfl) ?_
  show vm_J _ _ _ (0, (0, 0), [.ref 152, .int c], []) _ _ _
  refine vm_J.go vm_q219 (k := 3) (hs := []) (f' := (4, (0, 0), [.ref 152, .int c], [.int 127, .int 0, .int c])) (h' := (G, I, F)) (hs' := []) rfl rfl ?_
  refine vm_J.call vm_q219 (Z := vm_M168) (n := 3) (k := 1) (mi := 168) (pc := 4) (en := (4, .invokestatic 141, 3, [168, 1302, 0], .null)) rfl trivial rfl rfl vm_z168 (av := [.int c, .int 0, .int 127]) (rest := []) (r_isIn_y (v := c) (a := 0) (b := 127) hc) rfl (Nat.le_of_ble_eq_true rfl) ⟨Nat.le_of_ble_eq_true rfl, Nat.le_of_ble_eq_true rfl⟩ ⟨Nat.le_of_ble_eq_true rfl, Nat.le_of_ble_eq_true rfl⟩ ?_
  show vm_J _ _ _ (7, (0, 0), [.ref 152, .int c], [.int 1]) (G, I, F) _ _
  refine vm_J.go vm_q219 (k := 1) (hs := []) (f' := (bif vm_ic .ne 1 0 then 13 else 10, (0, 0), [.ref 152, .int c], [])) (h' := (G, I, F)) (hs' := []) rfl rfl ?_
  refine vm_J.bT (by decide) ?_
  refine vm_J.go vm_q219 (k := 2) (hs := [vm_shR]) (f' := (17, (0, 0), [.ref 152, .int c], [.int (I 152 25)])) (h' := (G, I, F)) (hs' := []) rfl (vm_b2 rfl (vm_b2 (vm_b2 (vm_hG hR.c152) rfl) rfl)) ?_
  rw [(hn : I 152 25 = nI n)]
  refine vm_J.go vm_q219 (k := 2) (hs := []) (f' := (bif vm_ic .ne (nI n) 100 then 25 else 22, (0, 0), [.ref 152, .int c], [])) (h' := (G, I, F)) (hs' := []) rfl rfl ?_
  refine vm_J.br (fun c1 => ?_) (fun c1 => ?_)
  · have c1 := vm_ne_t (a := n) (b := 100) (by omega) (by omega) c1
    exact (show False by omega).elim
  · have c1 := vm_ne_f (a := n) (b := 100) (by omega) (by omega) c1
    refine vm_J.go vm_q219 (k := 1) (hs := []) (f' := (24, (0, 0), [.ref 152, .int c], [.int (-4)])) (h' := (G, I, F)) (hs' := []) rfl rfl ?_
    exact vm_J.end vm_q219 (en := (24, .ireturn, 1, [], .null)) rfl rfl vm_rI (Nat.zero_le _) (Nat.zero_le _) rfl
set_option maxHeartbeats 4000000 in
set_option maxRecDepth 20000 in
/-- DitherDeskModel.feed -/
theorem r_feed_y {l : Launch} {X : vm_Cx} {G : List vm_Sh} {I : Nat → Nat → Int32} {F : Nat → Nat → UInt32} {n : Nat} {c : Int32} (hR : vm_isR G) (hn : I 152 25 = nI n) (hn2 : n < 100) (hc : 0 ≤ c ∧ c ≤ 127) : vm_K l X vm_M219 [.ref 152, .int c] (G, I, F) (some (.int (nI (n + 1)))) (G, (vm_up (vm_up I 165 n c) 152 25 (nI (n + 1))), F) := by
  refine vm_K.mk (by decide) (Nat.le_of_ble_eq_true rfl) ?_
  show vm_J _ _ _ (0, (0, 0), [.ref 152, .int c], []) _ _ _
  refine vm_J.go vm_q219 (k := 3) (hs := []) (f' := (4, (0, 0), [.ref 152, .int c], [.int 127, .int 0, .int c])) (h' := (G, I, F)) (hs' := []) rfl rfl ?_
  refine vm_J.call vm_q219 (Z := vm_M168) (n := 3) (k := 1) (mi := 168) (pc := 4) (en := (4, .invokestatic 141, 3, [168, 1302, 0], .null)) rfl trivial rfl rfl vm_z168 (av := [.int c, .int 0, .int 127]) (rest := []) (r_isIn_y (v := c) (a := 0) (b := 127) hc) rfl (Nat.le_of_ble_eq_true rfl) ⟨Nat.le_of_ble_eq_true rfl, Nat.le_of_ble_eq_true rfl⟩ ⟨Nat.le_of_ble_eq_true rfl, Nat.le_of_ble_eq_true rfl⟩ ?_
  show vm_J _ _ _ (7, (0, 0), [.ref 152, .int c], [.int 1]) (G, I, F) _ _
  refine vm_J.go vm_q219 (k := 1) (hs := []) (f' := (bif vm_ic .ne 1 0 then 13 else 10, (0, 0), [.ref 152, .int c], [])) (h' := (G, I, F)) (hs' := []) rfl rfl ?_
  refine vm_J.bT (by decide) ?_
  refine vm_J.go vm_q219 (k := 2) (hs := [vm_shR]) (f' := (17, (0, 0), [.ref 152, .int c], [.int (I 152 25)])) (h' := (G, I, F)) (hs' := []) rfl (vm_b2 rfl (vm_b2 (vm_b2 (vm_hG hR.c152) rfl) rfl)) ?_
  rw [(hn : I 152 25 = nI n)]
  refine vm_J.go vm_q219 (k := 2) (hs := []) (f' := (bif vm_ic .ne (nI n) 100 then 25 else 22, (0, 0), [.ref 152, .int c], [])) (h' := (G, I, F)) (hs' := []) rfl rfl ?_
  refine vm_J.br (fun c1 => ?_) (fun c1 => ?_)
  · have c1 := vm_ne_t (a := n) (b := 100) (by omega) (by omega) c1
    refine vm_J.go vm_q219 (k := 4) (hs := [vm_shR, vm_shR]) (f' := (33, (0, 0), [.ref 152, .int c], [.int (I 152 25), .ref 165])) (h' := (G, I, F)) (hs' := []) rfl (vm_b2 rfl (vm_b2 (vm_b2 (vm_hG hR.c152) rfl) (vm_b2 rfl (vm_b2 (vm_b2 (vm_hG hR.c152) rfl) rfl)))) ?_
    rw [(hn : I 152 25 = nI n)]
    refine vm_J.go vm_q219 (k := 5) (hs := [(0, 100, []), vm_shR]) (f' := (40, (0, 0), [.ref 152, .int c], [.int ((vm_up I 165 ((nI n).toNatClampNeg) c) 152 25), .ref 152])) (h' := (G, (vm_up I 165 ((nI n).toNatClampNeg) c), F)) (hs' := []) rfl (vm_b2 rfl (vm_b2 (vm_b2 (vm_hG hR.c165) (vm_in_e (j := n) (n := 100) rfl (by omega) (by omega))) (vm_b2 rfl (vm_b2 rfl (vm_b2 (vm_b2 (vm_hG hR.c152) rfl) rfl))))) ?_
    rw [vm_ix_e (j := n) rfl (by omega)]
    rw [((Eq.trans (congrFun (vm_up_f _ 165 _ _ 152 (by decide)) 25) hn) : (vm_up I 165 (n) c) 152 25 = nI n)]
    refine vm_J.go vm_q219 (k := 2) (hs := []) (f' := (42, (0, 0), [.ref 152, .int c], [.int ((nI n) + 1), .ref 152])) (h' := (G, (vm_up I 165 (n) c), F)) (hs' := []) rfl rfl ?_
    rw [((vm_pa (rfl : (nI n : Int32) = nI n) (rfl : (1 : Int32) = nI 1)) : (nI n) + 1 = nI (n + 1))]
    refine vm_J.go vm_q219 (k := 3) (hs := [vm_shR, vm_shR]) (f' := (49, (0, 0), [.ref 152, .int c], [.int ((vm_up (vm_up I 165 (n) c) 152 25 (nI (n + 1))) 152 25)])) (h' := (G, (vm_up (vm_up I 165 (n) c) 152 25 (nI (n + 1))), F)) (hs' := []) rfl (vm_b2 (vm_b2 (vm_b2 (vm_hG hR.c152) rfl) rfl) (vm_b2 rfl (vm_b2 (vm_b2 (vm_hG hR.c152) rfl) rfl))) ?_
    rw [((vm_up_h _ 152 25 _) : (vm_up (vm_up I 165 (n) c) 152 25 (nI (n + 1))) 152 25 = nI (n + 1))]
    exact vm_J.end vm_q219 (en := (49, .ireturn, 1, [], .null)) rfl rfl vm_rI (Nat.zero_le _) (Nat.zero_le _) rfl
  · have c1 := vm_ne_f (a := n) (b := 100) (by omega) (by omega) c1
    exact (show False by omega).elim
set_option maxHeartbeats 4000000 in
set_option maxRecDepth 20000 in
/-- DitherDeskModel.count -/
theorem r_count_0 {l : Launch} {X : vm_Cx} {G : List vm_Sh} {I : Nat → Nat → Int32} {F : Nat → Nat → UInt32}  (hR : vm_isR G) : vm_K l X vm_M289 [.ref 152, .int 0] (G, I, F) (some (.int (sp_sum (fun p => if 0 < I 153 p then 1 else 0) 4))) (G, I, F) := by
  refine vm_K.mk (by decide) (Nat.le_of_ble_eq_true rfl) ?_
  show vm_J _ _ _ (0, (0, 0), [.ref 152, .int 0], []) _ _ _
  refine vm_J.go vm_q289 (k := 3) (hs := []) (f' := (45, (0, 0), [.ref 152, .int 0], [.ref 152])) (h' := (G, I, F)) (hs' := []) rfl rfl ?_
  refine vm_J.call vm_q289 (Z := vm_M177) (n := 0) (k := 0) (mi := 177) (pc := 45) (en := (45, .invokevirtual 483, 3, [177, 1755, 0], .null)) rfl trivial rfl rfl vm_z177 (av := [.ref 152]) (rest := []) (r_manyPictures hR) ⟨_, _, rfl, rfl, _, 11, _, hR.c152, rfl, rfl, rfl⟩ (Nat.le_of_ble_eq_true rfl) ⟨Nat.le_of_ble_eq_true rfl, Nat.le_of_ble_eq_true rfl⟩ ⟨Nat.le_of_ble_eq_true rfl, Nat.le_of_ble_eq_true rfl⟩ ?_
  show vm_J _ _ _ (48, (0, 0), [.ref 152, .int 0], [.int (sp_sum (fun p => if 0 < I 153 p then 1 else 0) 4)]) (G, I, F) _ _
  exact vm_J.end vm_q289 (en := (48, .ireturn, 1, [], .null)) rfl rfl vm_rI (Nat.zero_le _) (Nat.zero_le _) rfl
set_option maxHeartbeats 4000000 in
set_option maxRecDepth 20000 in
/-- DitherDeskModel.count -/
theorem r_count_1 {l : Launch} {X : vm_Cx} {G : List vm_Sh} {I : Nat → Nat → Int32} {F : Nat → Nat → UInt32}  (hR : vm_isR G) : vm_K l X vm_M289 [.ref 152, .int 1] (G, I, F) (some (.int (I 156 0 + I 156 1 + I 156 2 + I 156 3))) (G, I, F) := by
  refine vm_K.mk (by decide) (Nat.le_of_ble_eq_true rfl) ?_
  show vm_J _ _ _ (0, (0, 0), [.ref 152, .int 1], []) _ _ _
  refine vm_J.go vm_q289 (k := 21) (hs := [vm_shR, (0, 4, []), vm_shR, (0, 4, []), vm_shR, (0, 4, []), vm_shR, (0, 4, [])]) (f' := (76, (0, 0), [.ref 152, .int 1], [.int ((((I 156 0) + (I 156 1)) + (I 156 2)) + (I 156 3))])) (h' := (G, I, F)) (hs' := []) rfl (vm_b2 rfl (vm_b2 rfl (vm_b2 rfl (vm_b2 (vm_b2 (vm_hG hR.c152) rfl) (vm_b2 rfl (vm_b2 (vm_b2 (vm_hG hR.c156) rfl) (vm_b2 rfl (vm_b2 (vm_b2 (vm_hG hR.c152) rfl) (vm_b2 rfl (vm_b2 (vm_b2 (vm_hG hR.c156) rfl) (vm_b2 rfl (vm_b2 rfl (vm_b2 (vm_b2 (vm_hG hR.c152) rfl) (vm_b2 rfl (vm_b2 (vm_b2 (vm_hG hR.c156) rfl) (vm_b2 rfl (vm_b2 rfl (vm_b2 (vm_b2 (vm_hG hR.c152) rfl) (vm_b2 rfl (vm_b2 (vm_b2 (vm_hG hR.c156) rfl) (vm_b2 rfl rfl))))))))))))))))))))) ?_
  exact vm_J.end vm_q289 (en := (76, .ireturn, 1, [], .null)) rfl rfl vm_rI (Nat.zero_le _) (Nat.zero_le _) rfl
set_option maxHeartbeats 4000000 in
set_option maxRecDepth 20000 in
/-- DitherDeskModel.count -/
theorem r_count_2 {l : Launch} {X : vm_Cx} {G : List vm_Sh} {I : Nat → Nat → Int32} {F : Nat → Nat → UInt32}  (hR : vm_isR G) : vm_K l X vm_M289 [.ref 152, .int 2] (G, I, F) (some (.int (I 152 49))) (G, I, F) := by
  refine vm_K.mk (by decide) (Nat.le_of_ble_eq_true rfl) ?_
  show vm_J _ _ _ (0, (0, 0), [.ref 152, .int 2], []) _ _ _
  refine vm_J.go vm_q289 (k := 4) (hs := [vm_shR]) (f' := (81, (0, 0), [.ref 152, .int 2], [.int (I 152 49)])) (h' := (G, I, F)) (hs' := []) rfl (vm_b2 rfl (vm_b2 rfl (vm_b2 rfl (vm_b2 (vm_b2 (vm_hG hR.c152) rfl) rfl)))) ?_
  exact vm_J.end vm_q289 (en := (81, .ireturn, 1, [], .null)) rfl rfl vm_rI (Nat.zero_le _) (Nat.zero_le _) rfl
set_option maxHeartbeats 4000000 in
set_option maxRecDepth 20000 in
/-- DitherDeskModel.count -/
theorem r_count_3 {l : Launch} {X : vm_Cx} {G : List vm_Sh} {I : Nat → Nat → Int32} {F : Nat → Nat → UInt32}  (hR : vm_isR G) : vm_K l X vm_M289 [.ref 152, .int 3] (G, I, F) (some (.int (I 152 50))) (G, I, F) := by
  refine vm_K.mk (by decide) (Nat.le_of_ble_eq_true rfl) ?_
  show vm_J _ _ _ (0, (0, 0), [.ref 152, .int 3], []) _ _ _
  refine vm_J.go vm_q289 (k := 4) (hs := [vm_shR]) (f' := (86, (0, 0), [.ref 152, .int 3], [.int (I 152 50)])) (h' := (G, I, F)) (hs' := []) rfl (vm_b2 rfl (vm_b2 rfl (vm_b2 rfl (vm_b2 (vm_b2 (vm_hG hR.c152) rfl) rfl)))) ?_
  exact vm_J.end vm_q289 (en := (86, .ireturn, 1, [], .null)) rfl rfl vm_rI (Nat.zero_le _) (Nat.zero_le _) rfl
set_option maxHeartbeats 4000000 in
set_option maxRecDepth 20000 in
/-- DitherDeskModel.count -/
theorem r_count_4 {l : Launch} {X : vm_Cx} {G : List vm_Sh} {I : Nat → Nat → Int32} {F : Nat → Nat → UInt32}  (hR : vm_isR G) : vm_K l X vm_M289 [.ref 152, .int 4] (G, I, F) (some (.int (I 152 51))) (G, I, F) := by
  refine vm_K.mk (by decide) (Nat.le_of_ble_eq_true rfl) ?_
  show vm_J _ _ _ (0, (0, 0), [.ref 152, .int 4], []) _ _ _
  refine vm_J.go vm_q289 (k := 4) (hs := [vm_shR]) (f' := (91, (0, 0), [.ref 152, .int 4], [.int (I 152 51)])) (h' := (G, I, F)) (hs' := []) rfl (vm_b2 rfl (vm_b2 rfl (vm_b2 rfl (vm_b2 (vm_b2 (vm_hG hR.c152) rfl) rfl)))) ?_
  exact vm_J.end vm_q289 (en := (91, .ireturn, 1, [], .null)) rfl rfl vm_rI (Nat.zero_le _) (Nat.zero_le _) rfl
set_option maxHeartbeats 4000000 in
set_option maxRecDepth 20000 in
/-- DitherDeskModel.count -/
theorem r_count_5 {l : Launch} {X : vm_Cx} {G : List vm_Sh} {I : Nat → Nat → Int32} {F : Nat → Nat → UInt32}  (hR : vm_isR G) : vm_K l X vm_M289 [.ref 152, .int 5] (G, I, F) (some (.int (I 152 25))) (G, I, F) := by
  refine vm_K.mk (by decide) (Nat.le_of_ble_eq_true rfl) ?_
  show vm_J _ _ _ (0, (0, 0), [.ref 152, .int 5], []) _ _ _
  refine vm_J.go vm_q289 (k := 4) (hs := [vm_shR]) (f' := (96, (0, 0), [.ref 152, .int 5], [.int (I 152 25)])) (h' := (G, I, F)) (hs' := []) rfl (vm_b2 rfl (vm_b2 rfl (vm_b2 rfl (vm_b2 (vm_b2 (vm_hG hR.c152) rfl) rfl)))) ?_
  exact vm_J.end vm_q289 (en := (96, .ireturn, 1, [], .null)) rfl rfl vm_rI (Nat.zero_le _) (Nat.zero_le _) rfl
set_option maxHeartbeats 4000000 in
set_option maxRecDepth 20000 in
/-- DitherDeskModel.count -/
theorem r_count_6 {l : Launch} {X : vm_Cx} {G : List vm_Sh} {I : Nat → Nat → Int32} {F : Nat → Nat → UInt32}  (hR : vm_isR G) : vm_K l X vm_M289 [.ref 152, .int 6] (G, I, F) (some (.int (I 152 10))) (G, I, F) := by
  refine vm_K.mk (by decide) (Nat.le_of_ble_eq_true rfl) ?_
  show vm_J _ _ _ (0, (0, 0), [.ref 152, .int 6], []) _ _ _
  refine vm_J.go vm_q289 (k := 4) (hs := [vm_shR]) (f' := (101, (0, 0), [.ref 152, .int 6], [.int (I 152 10)])) (h' := (G, I, F)) (hs' := []) rfl (vm_b2 rfl (vm_b2 rfl (vm_b2 rfl (vm_b2 (vm_b2 (vm_hG hR.c152) rfl) rfl)))) ?_
  exact vm_J.end vm_q289 (en := (101, .ireturn, 1, [], .null)) rfl rfl vm_rI (Nat.zero_le _) (Nat.zero_le _) rfl
set_option maxHeartbeats 4000000 in
set_option maxRecDepth 20000 in
/-- DitherDeskModel.count -/
theorem r_count_b {l : Launch} {X : vm_Cx} {G : List vm_Sh} {I : Nat → Nat → Int32} {F : Nat → Nat → UInt32} {x : Int32} (hR : vm_isR G) (hx : ¬ (0 ≤ x ∧ x ≤ 6)) : vm_K l X vm_M289 [.ref 152, .int x] (G, I, F) (some (.int (-2))) (G, I, F) := by
  refine vm_K.mk (by decide) (Nat.le_of_ble_eq_true rfl) ?_
  show vm_J _ _ _ (0, (0, 0), [.ref 152, .int x], []) _ _ _
  refine vm_J.go vm_q289 (k := 2) (hs := []) (f' := (vm_tw 0 [44, 49, 77, 82, 87, 92, 97] 102 x, (0, 0), [.ref 152, .int x], [])) (h' := (G, I, F)) (hs' := []) rfl rfl ?_
  rw [show vm_tw 0 [44, 49, 77, 82, 87, 92, 97] 102 x = 102 from vm_tw_g hx (by decide) (by decide)]
  refine vm_J.go vm_q289 (k := 1) (hs := []) (f' := (104, (0, 0), [.ref 152, .int x], [.int (-2)])) (h' := (G, I, F)) (hs' := []) rfl rfl ?_
  exact vm_J.end vm_q289 (en := (104, .ireturn, 1, [], .null)) rfl rfl vm_rI (Nat.zero_le _) (Nat.zero_le _) rfl
theorem vm_bp6 {p : Nat} (hp : p < 6) : 0 ≤ nI p ∧ nI p ≤ 5 := vm_bpn (m := 5) (by omega) rfl (by decide)
set_option maxHeartbeats 4000000 in
set_option maxRecDepth 20000 in
/-- DitherDeskModel.tape -/
theorem r_tape_x {l : Launch} {X : vm_Cx} {G : List vm_Sh} {I : Nat → Nat → Int32} {F : Nat → Nat → UInt32} {q : Int32} {a : Int32} {b : Int32} (hR : vm_isR G) (hx : ¬ (0 ≤ q ∧ q ≤ 5)) : vm_K l X vm_M290 [.ref 152, .int q, .int a, .int b] (G, I, F) (some (.int (-1))) (G, I, F) := by
  refine vm_K.mk (by decide) (Nat.le_of_ble_eq_true rfl) ?_
  show vm_J _ _ _ (0, (0, 0), [.ref 152, .int q, .int a, .int b, .retAddr 0], []) _ _ _
  refine vm_J.go vm_q290 (k := 1) (hs := []) (f' := (1, (0, 0), [.ref 152, .int q, .int a, .int b, .retAddr 0], [.int q])) (h' := (G, I, F)) (hs' := []) rfl rfl ?_
  refine vm_J.call vm_q290 (Z := vm_M287) (n := 1) (k := 1) (mi := 287) (pc := 1) (en := (1, .invokestatic 495, 3, [287, 1799, 0], .null)) rfl trivial rfl rfl vm_z287 (av := [.int q]) (rest := []) (r_isTape_n (c := q) hx) rfl (Nat.le_of_ble_eq_true rfl) ⟨Nat.le_of_ble_eq_true rfl, Nat.le_of_ble_eq_true rfl⟩ ⟨Nat.le_of_ble_eq_true rfl, Nat.le_of_ble_eq_true rfl⟩ ?_
  show vm_J _ _ _ (4, (0, 0), [.ref 152, .int q, .int a, .int b, .retAddr 0], [.int 0]) (G, I, F) _ _
  refine vm_J.go vm_q290 (k := 1) (hs := []) (f' := (bif vm_ic .ne 0 0 then 9 else 7, (0, 0), [.ref 152, .int q, .int a, .int b, .retAddr 0], [])) (h' := (G, I, F)) (hs' := []) rfl rfl ?_
  refine vm_J.bF (by decide) ?_
  refine vm_J.go vm_q290 (k := 1) (hs := []) (f' := (8, (0, 0), [.ref 152, .int q, .int a, .int b, .retAddr 0], [.int (-1)])) (h' := (G, I, F)) (hs' := []) rfl rfl ?_
  exact vm_J.end vm_q290 (en := (8, .ireturn, 1, [], .null)) rfl rfl vm_rI (Nat.zero_le _) (Nat.zero_le _) rfl
set_option maxHeartbeats 4000000 in
set_option maxRecDepth 20000 in
/-- DitherDeskModel.tape -/
theorem r_tape_b {l : Launch} {X : vm_Cx} {G : List vm_Sh} {I : Nat → Nat → Int32} {F : Nat → Nat → UInt32} {t : Nat} {a : Int32} {b : Int32} (hR : vm_isR G) (ht : t < 6) (ha : ¬ (-1 ≤ a ∧ a ≤ 3)) : vm_K l X vm_M290 [.ref 152, .int (nI t), .int a, .int b] (G, I, F) (some (.int (-2))) (G, I, F) := by
  refine vm_K.mk (by decide) (Nat.le_of_ble_eq_true rfl) ?_
  show vm_J _ _ _ (0, (0, 0), [.ref 152, .int (nI t), .int a, .int b, .retAddr 0], []) _ _ _
  refine vm_J.go vm_q290 (k := 1) (hs := []) (f' := (1, (0, 0), [.ref 152, .int (nI t), .int a, .int b, .retAddr 0], [.int (nI t)])) (h' := (G, I, F)) (hs' := []) rfl rfl ?_
  refine vm_J.call vm_q290 (Z := vm_M287) (n := 1) (k := 1) (mi := 287) (pc := 1) (en := (1, .invokestatic 495, 3, [287, 1799, 0], .null)) rfl trivial rfl rfl vm_z287 (av := [.int (nI t)]) (rest := []) (r_isTape_y (c := nI t) (vm_bp6 ht)) rfl (Nat.le_of_ble_eq_true rfl) ⟨Nat.le_of_ble_eq_true rfl, Nat.le_of_ble_eq_true rfl⟩ ⟨Nat.le_of_ble_eq_true rfl, Nat.le_of_ble_eq_true rfl⟩ ?_
  show vm_J _ _ _ (4, (0, 0), [.ref 152, .int (nI t), .int a, .int b, .retAddr 0], [.int 1]) (G, I, F) _ _
  refine vm_J.go vm_q290 (k := 1) (hs := []) (f' := (bif vm_ic .ne 1 0 then 9 else 7, (0, 0), [.ref 152, .int (nI t), .int a, .int b, .retAddr 0], [])) (h' := (G, I, F)) (hs' := []) rfl rfl ?_
  refine vm_J.bT (by decide) ?_
  refine vm_J.go vm_q290 (k := 3) (hs := []) (f' := (12, (0, 0), [.ref 152, .int (nI t), .int a, .int b, .retAddr 0], [.int 3, .int (-1), .int a])) (h' := (G, I, F)) (hs' := []) rfl rfl ?_
  refine vm_J.call vm_q290 (Z := vm_M168) (n := 3) (k := 1) (mi := 168) (pc := 12) (en := (12, .invokestatic 141, 3, [168, 1302, 0], .null)) rfl trivial rfl rfl vm_z168 (av := [.int a, .int (-1), .int 3]) (rest := []) (r_isIn_n (v := a) (a := (-1)) (b := 3) ha) rfl (Nat.le_of_ble_eq_true rfl) ⟨Nat.le_of_ble_eq_true rfl, Nat.le_of_ble_eq_true rfl⟩ ⟨Nat.le_of_ble_eq_true rfl, Nat.le_of_ble_eq_true rfl⟩ ?_
  show vm_J _ _ _ (15, (0, 0), [.ref 152, .int (nI t), .int a, .int b, .retAddr 0], [.int 0]) (G, I, F) _ _
  refine vm_J.go vm_q290 (k := 1) (hs := []) (f' := (bif vm_ic .eq 0 0 then 29 else 18, (0, 0), [.ref 152, .int (nI t), .int a, .int b, .retAddr 0], [])) (h' := (G, I, F)) (hs' := []) rfl rfl ?_
  refine vm_J.bT (by decide) ?_
  refine vm_J.go vm_q290 (k := 1) (hs := []) (f' := (31, (0, 0), [.ref 152, .int (nI t), .int a, .int b, .retAddr 0], [.int (-2)])) (h' := (G, I, F)) (hs' := []) rfl rfl ?_
  exact vm_J.end vm_q290 (en := (31, .ireturn, 1, [], .null)) rfl rfl vm_rI (Nat.zero_le _) (Nat.zero_le _) rfl
set_option maxHeartbeats 4000000 in
set_option maxRecDepth 20000 in
/-- DitherDeskModel.tape -/
theorem r_tape_e {l : Launch} {X : vm_Cx} {G : List vm_Sh} {I : Nat → Nat → Int32} {F : Nat → Nat → UInt32} {t : Nat} {b : Int32} (hR : vm_isR G) (ht : t < 6) : vm_K l X vm_M290 [.ref 152, .int (nI t), .int (-1), .int b] (G, I, F) (some (.int 1)) (G, (vm_wq (vm_up (vm_up I 191 t (-1)) 192 t 0) 193 (fun _ => 0) (150 * t) 150), F) := by
  refine vm_K.mk (by decide) (Nat.le_of_ble_eq_true rfl) ?_
  show vm_J _ _ _ (0, (0, 0), [.ref 152, .int (nI t), .int (-1), .int b, .retAddr 0], []) _ _ _
  refine vm_J.go vm_q290 (k := 1) (hs := []) (f' := (1, (0, 0), [.ref 152, .int (nI t), .int (-1), .int b, .retAddr 0], [.int (nI t)])) (h' := (G, I, F)) (hs' := []) rfl rfl ?_
  refine vm_J.call vm_q290 (Z := vm_M287) (n := 1) (k := 1) (mi := 287) (pc := 1) (en := (1, .invokestatic 495, 3, [287, 1799, 0], .null)) rfl trivial rfl rfl vm_z287 (av := [.int (nI t)]) (rest := []) (r_isTape_y (c := nI t) (vm_bp6 ht)) rfl (Nat.le_of_ble_eq_true rfl) ⟨Nat.le_of_ble_eq_true rfl, Nat.le_of_ble_eq_true rfl⟩ ⟨Nat.le_of_ble_eq_true rfl, Nat.le_of_ble_eq_true rfl⟩ ?_
  show vm_J _ _ _ (4, (0, 0), [.ref 152, .int (nI t), .int (-1), .int b, .retAddr 0], [.int 1]) (G, I, F) _ _
  refine vm_J.go vm_q290 (k := 1) (hs := []) (f' := (bif vm_ic .ne 1 0 then 9 else 7, (0, 0), [.ref 152, .int (nI t), .int (-1), .int b, .retAddr 0], [])) (h' := (G, I, F)) (hs' := []) rfl rfl ?_
  refine vm_J.bT (by decide) ?_
  refine vm_J.go vm_q290 (k := 3) (hs := []) (f' := (12, (0, 0), [.ref 152, .int (nI t), .int (-1), .int b, .retAddr 0], [.int 3, .int (-1), .int (-1)])) (h' := (G, I, F)) (hs' := []) rfl rfl ?_
  refine vm_J.call vm_q290 (Z := vm_M168) (n := 3) (k := 1) (mi := 168) (pc := 12) (en := (12, .invokestatic 141, 3, [168, 1302, 0], .null)) rfl trivial rfl rfl vm_z168 (av := [.int (-1), .int (-1), .int 3]) (rest := []) (r_isIn_y (v := (-1)) (a := (-1)) (b := 3) (by decide)) rfl (Nat.le_of_ble_eq_true rfl) ⟨Nat.le_of_ble_eq_true rfl, Nat.le_of_ble_eq_true rfl⟩ ⟨Nat.le_of_ble_eq_true rfl, Nat.le_of_ble_eq_true rfl⟩ ?_
  show vm_J _ _ _ (15, (0, 0), [.ref 152, .int (nI t), .int (-1), .int b, .retAddr 0], [.int 1]) (G, I, F) _ _
  refine vm_J.go vm_q290 (k := 1) (hs := []) (f' := (bif vm_ic .eq 1 0 then 29 else 18, (0, 0), [.ref 152, .int (nI t), .int (-1), .int b, .retAddr 0], [])) (h' := (G, I, F)) (hs' := []) rfl rfl ?_
  refine vm_J.bF (by decide) ?_
  refine vm_J.go vm_q290 (k := 2) (hs := []) (f' := (bif vm_ic .lt (-1) 0 then 32 else 22, (0, 0), [.ref 152, .int (nI t), .int (-1), .int b, .retAddr 0], [])) (h' := (G, I, F)) (hs' := []) rfl rfl ?_
  refine vm_J.bT (by decide) ?_
  refine vm_J.go vm_q290 (k := 2) (hs := []) (f' := (bif vm_ic .lt (-1) 0 then 43 else 36, (0, 0), [.ref 152, .int (nI t), .int (-1), .int b, .retAddr 0], [])) (h' := (G, I, F)) (hs' := []) rfl rfl ?_
  refine vm_J.bT (by decide) ?_
  refine vm_J.go vm_q290 (k := 10) (hs := [vm_shR, (0, 6, []), vm_shR]) (f' := (bif vm_ic .ge (-1) 0 then 63 else 59, (0, 0), [.ref 152, .int (nI t), .int (-1), .int b, .retAddr 0], [.int (nI t), .ref 192])) (h' := (G, (vm_up I 191 ((nI t).toNatClampNeg) (-1)), F)) (hs' := []) rfl (vm_b2 rfl (vm_b2 (vm_b2 (vm_hG hR.c152) rfl) (vm_b2 rfl (vm_b2 rfl (vm_b2 (vm_b2 (vm_hG hR.c191) (vm_in_e (j := t) (n := 6) rfl (by omega) (by omega))) (vm_b2 rfl (vm_b2 (vm_b2 (vm_hG hR.c152) rfl) (vm_b2 rfl (vm_b2 rfl (vm_b2 rfl rfl)))))))))) ?_
  rw [vm_ix_e (j := t) rfl (by omega)]
  refine vm_J.bF (by decide) ?_
  refine vm_J.go vm_q290 (k := 5) (hs := [(0, 6, [])]) (f' := (68, (0, 0), [.ref 152, .int (nI t), .int (-1), .int b, .int 0], [])) (h' := (G, (vm_up (vm_up I 191 (t) (-1)) 192 ((nI t).toNatClampNeg) 0), F)) (hs' := []) rfl (vm_b2 rfl (vm_b2 rfl (vm_b2 (vm_b2 (vm_hG hR.c192) (vm_in_e (j := t) (n := 6) rfl (by omega) (by omega))) (vm_b2 rfl (vm_b2 rfl rfl))))) ?_
  rw [vm_ix_e (j := t) rfl (by omega)]
  refine vm_J.cnt 150 (fun k => (68, (0, 0), [.ref 152, .int (nI t), .int (-1), .int b, .int (nI k)], [])) (fun k => (G, (vm_wq (vm_up (vm_up I 191 t (-1)) 192 t 0) 193 (fun _ => 0) (150 * t) k), F)) (fun _ => True) rfl (by rw [← vm_wq_0]) trivial (fun k hk pk ik => ?_) (fun pk => ?_)
  · show vm_J _ _ _ (68, (0, 0), [.ref 152, .int (nI t), .int (-1), .int b, .int (nI k)], []) (G, (vm_wq (vm_up (vm_up I 191 t (-1)) 192 t 0) 193 (fun _ => 0) (150 * t) k), F) _ _
    refine vm_J.go vm_q290 (k := 3) (hs := []) (f' := (bif vm_ic .ge (nI k) 150 then 96 else 76, (0, 0), [.ref 152, .int (nI t), .int (-1), .int b, .int (nI k)], [])) (h' := (G, (vm_wq (vm_up (vm_up I 191 t (-1)) 192 t 0) 193 (fun _ => 0) (150 * t) k), F)) (hs' := []) rfl rfl ?_
    refine vm_J.br (fun c1 => ?_) (fun c1 => ?_)
    · have c1 := vm_ge_t (a := k) (b := 150) (by omega) (by omega) c1
      exact (show False by omega).elim
    · have c1 := vm_ge_f (a := k) (b := 150) (by omega) (by omega) c1
      refine vm_J.go vm_q290 (k := 11) (hs := [vm_shR, (0, 900, [])]) (f' := (68, (0, 0), [.ref 152, .int (nI t), .int (-1), .int b, .int ((nI k) + 1)], [])) (h' := (G, (vm_up (vm_wq (vm_up (vm_up I 191 t (-1)) 192 t 0) 193 (fun _ => 0) (150 * t) k) 193 (((150 * (nI t)) + (nI k)).toNatClampNeg) 0), F)) (hs' := []) rfl (vm_b2 rfl (vm_b2 (vm_b2 (vm_hG hR.c152) rfl) (vm_b2 rfl (vm_b2 rfl (vm_b2 rfl (vm_b2 rfl (vm_b2 rfl (vm_b2 rfl (vm_b2 (vm_b2 (vm_hG hR.c193) (vm_in_e (j := (150 * t) + k) (n := 900) (vm_pa (vm_pm (rfl : (150 : Int32) = nI 150) (rfl : (nI t : Int32) = nI t)) (rfl : (nI k : Int32) = nI k)) (by omega) (by omega))) (vm_b2 rfl (vm_b2 rfl rfl))))))))))) ?_
      rw [vm_ix_e (j := (150 * t) + k) (vm_pa (vm_pm (rfl : (150 : Int32) = nI 150) (rfl : (nI t : Int32) = nI t)) (rfl : (nI k : Int32) = nI k)) (by omega), ((vm_pa (rfl : nI k = nI k) (rfl : (1 : Int32) = nI 1)) : (nI k) + 1 = nI (k + 1))]
      rw [show (vm_up (vm_wq (vm_up (vm_up I 191 t (-1)) 192 t 0) 193 (fun _ => 0) (150 * t) k) 193 (((150 * t) + k)) 0) = (vm_wq (vm_up (vm_up I 191 t (-1)) 192 t 0) 193 (fun _ => 0) (150 * t) (k + 1)) from by exact vm_wq_s _ 193 (150 * t) k (fun _ => 0)]
      exact ik trivial
  · show vm_J _ _ _ (68, (0, 0), [.ref 152, .int (nI t), .int (-1), .int b, .int (nI 150)], []) (G, (vm_wq (vm_up (vm_up I 191 t (-1)) 192 t 0) 193 (fun _ => 0) (150 * t) 150), F) _ _
    refine vm_J.go vm_q290 (k := 3) (hs := []) (f' := (bif vm_ic .ge (nI 150) 150 then 96 else 76, (0, 0), [.ref 152, .int (nI t), .int (-1), .int b, .int (nI 150)], [])) (h' := (G, (vm_wq (vm_up (vm_up I 191 t (-1)) 192 t 0) 193 (fun _ => 0) (150 * t) 150), F)) (hs' := []) rfl rfl ?_
    refine vm_J.br (fun c2 => ?_) (fun c2 => ?_)
    · have c2 := vm_ge_t (a := 150) (b := 150) (by omega) (by omega) c2
      refine vm_J.go vm_q290 (k := 1) (hs := []) (f' := (97, (0, 0), [.ref 152, .int (nI t), .int (-1), .int b, .int (nI 150)], [.int 1])) (h' := (G, (vm_wq (vm_up (vm_up I 191 t (-1)) 192 t 0) 193 (fun _ => 0) (150 * t) 150), F)) (hs' := []) rfl rfl ?_
      exact vm_J.end vm_q290 (en := (97, .ireturn, 1, [], .null)) rfl rfl vm_rI (Nat.zero_le _) (Nat.zero_le _) rfl
    · have c2 := vm_ge_f (a := 150) (b := 150) (by omega) (by omega) c2
      exact (show False by omega).elim
set_option maxHeartbeats 4000000 in
set_option maxRecDepth 20000 in
/-- DitherDeskModel.tape -/
theorem r_tape_0 {l : Launch} {X : vm_Cx} {G : List vm_Sh} {I : Nat → Nat → Int32} {F : Nat → Nat → UInt32} {t : Nat} {m : Nat} (hR : vm_isR G) (ht : t < 6) (hm : m ≤ 150) : vm_K l X vm_M290 [.ref 152, .int (nI t), .int 0, .int (nI m)] (G, I, F) (some (.int 1)) (G, (vm_wq (vm_up (vm_up I 191 t 0) 192 t (nI m)) 193 (fun _ => 0) (150 * t) 150), F) := by
  refine vm_K.mk (by decide) (Nat.le_of_ble_eq_true rfl) ?_
  show vm_J _ _ _ (0, (0, 0), [.ref 152, .int (nI t), .int 0, .int (nI m), .retAddr 0], []) _ _ _
  refine vm_J.go vm_q290 (k := 1) (hs := []) (f' := (1, (0, 0), [.ref 152, .int (nI t), .int 0, .int (nI m), .retAddr 0], [.int (nI t)])) (h' := (G, I, F)) (hs' := []) rfl rfl ?_
  refine vm_J.call vm_q290 (Z := vm_M287) (n := 1) (k := 1) (mi := 287) (pc := 1) (en := (1, .invokestatic 495, 3, [287, 1799, 0], .null)) rfl trivial rfl rfl vm_z287 (av := [.int (nI t)]) (rest := []) (r_isTape_y (c := nI t) (vm_bp6 ht)) rfl (Nat.le_of_ble_eq_true rfl) ⟨Nat.le_of_ble_eq_true rfl, Nat.le_of_ble_eq_true rfl⟩ ⟨Nat.le_of_ble_eq_true rfl, Nat.le_of_ble_eq_true rfl⟩ ?_
  show vm_J _ _ _ (4, (0, 0), [.ref 152, .int (nI t), .int 0, .int (nI m), .retAddr 0], [.int 1]) (G, I, F) _ _
  refine vm_J.go vm_q290 (k := 1) (hs := []) (f' := (bif vm_ic .ne 1 0 then 9 else 7, (0, 0), [.ref 152, .int (nI t), .int 0, .int (nI m), .retAddr 0], [])) (h' := (G, I, F)) (hs' := []) rfl rfl ?_
  refine vm_J.bT (by decide) ?_
  refine vm_J.go vm_q290 (k := 3) (hs := []) (f' := (12, (0, 0), [.ref 152, .int (nI t), .int 0, .int (nI m), .retAddr 0], [.int 3, .int (-1), .int 0])) (h' := (G, I, F)) (hs' := []) rfl rfl ?_
  refine vm_J.call vm_q290 (Z := vm_M168) (n := 3) (k := 1) (mi := 168) (pc := 12) (en := (12, .invokestatic 141, 3, [168, 1302, 0], .null)) rfl trivial rfl rfl vm_z168 (av := [.int 0, .int (-1), .int 3]) (rest := []) (r_isIn_y (v := 0) (a := (-1)) (b := 3) (by decide)) rfl (Nat.le_of_ble_eq_true rfl) ⟨Nat.le_of_ble_eq_true rfl, Nat.le_of_ble_eq_true rfl⟩ ⟨Nat.le_of_ble_eq_true rfl, Nat.le_of_ble_eq_true rfl⟩ ?_
  show vm_J _ _ _ (15, (0, 0), [.ref 152, .int (nI t), .int 0, .int (nI m), .retAddr 0], [.int 1]) (G, I, F) _ _
  refine vm_J.go vm_q290 (k := 1) (hs := []) (f' := (bif vm_ic .eq 1 0 then 29 else 18, (0, 0), [.ref 152, .int (nI t), .int 0, .int (nI m), .retAddr 0], [])) (h' := (G, I, F)) (hs' := []) rfl rfl ?_
  refine vm_J.bF (by decide) ?_
  refine vm_J.go vm_q290 (k := 2) (hs := []) (f' := (bif vm_ic .lt 0 0 then 32 else 22, (0, 0), [.ref 152, .int (nI t), .int 0, .int (nI m), .retAddr 0], [])) (h' := (G, I, F)) (hs' := []) rfl rfl ?_
  refine vm_J.bF (by decide) ?_
  refine vm_J.go vm_q290 (k := 3) (hs := []) (f' := (bif vm_ic .le (nI m) 150 then 32 else 29, (0, 0), [.ref 152, .int (nI t), .int 0, .int (nI m), .retAddr 0], [])) (h' := (G, I, F)) (hs' := []) rfl rfl ?_
  refine vm_J.br (fun c1 => ?_) (fun c1 => ?_)
  · have c1 := vm_le_t (a := m) (b := 150) (by omega) (by omega) c1
    refine vm_J.go vm_q290 (k := 2) (hs := []) (f' := (bif vm_ic .lt 0 0 then 43 else 36, (0, 0), [.ref 152, .int (nI t), .int 0, .int (nI m), .retAddr 0], [])) (h' := (G, I, F)) (hs' := []) rfl rfl ?_
    refine vm_J.bF (by decide) ?_
    refine vm_J.go vm_q290 (k := 2) (hs := []) (f' := (bif vm_ic .ge (nI m) 0 then 43 else 40, (0, 0), [.ref 152, .int (nI t), .int 0, .int (nI m), .retAddr 0], [])) (h' := (G, I, F)) (hs' := []) rfl rfl ?_
    refine vm_J.br (fun c2 => ?_) (fun c2 => ?_)
    · have c2 := vm_ge_t (a := m) (b := 0) (by omega) (by omega) c2
      refine vm_J.go vm_q290 (k := 10) (hs := [vm_shR, (0, 6, []), vm_shR]) (f' := (bif vm_ic .ge 0 0 then 63 else 59, (0, 0), [.ref 152, .int (nI t), .int 0, .int (nI m), .retAddr 0], [.int (nI t), .ref 192])) (h' := (G, (vm_up I 191 ((nI t).toNatClampNeg) 0), F)) (hs' := []) rfl (vm_b2 rfl (vm_b2 (vm_b2 (vm_hG hR.c152) rfl) (vm_b2 rfl (vm_b2 rfl (vm_b2 (vm_b2 (vm_hG hR.c191) (vm_in_e (j := t) (n := 6) rfl (by omega) (by omega))) (vm_b2 rfl (vm_b2 (vm_b2 (vm_hG hR.c152) rfl) (vm_b2 rfl (vm_b2 rfl (vm_b2 rfl rfl)))))))))) ?_
      rw [vm_ix_e (j := t) rfl (by omega)]
      refine vm_J.bT (by decide) ?_
      refine vm_J.go vm_q290 (k := 4) (hs := [(0, 6, [])]) (f' := (68, (0, 0), [.ref 152, .int (nI t), .int 0, .int (nI m), .int 0], [])) (h' := (G, (vm_up (vm_up I 191 (t) 0) 192 ((nI t).toNatClampNeg) (nI m)), F)) (hs' := []) rfl (vm_b2 rfl (vm_b2 (vm_b2 (vm_hG hR.c192) (vm_in_e (j := t) (n := 6) rfl (by omega) (by omega))) (vm_b2 rfl (vm_b2 rfl rfl)))) ?_
      rw [vm_ix_e (j := t) rfl (by omega)]
      refine vm_J.cnt 150 (fun k => (68, (0, 0), [.ref 152, .int (nI t), .int 0, .int (nI m), .int (nI k)], [])) (fun k => (G, (vm_wq (vm_up (vm_up I 191 t 0) 192 t (nI m)) 193 (fun _ => 0) (150 * t) k), F)) (fun _ => True) rfl (by rw [← vm_wq_0]) trivial (fun k hk pk ik => ?_) (fun pk => ?_)
      · show vm_J _ _ _ (68, (0, 0), [.ref 152, .int (nI t), .int 0, .int (nI m), .int (nI k)], []) (G, (vm_wq (vm_up (vm_up I 191 t 0) 192 t (nI m)) 193 (fun _ => 0) (150 * t) k), F) _ _
        refine vm_J.go vm_q290 (k := 3) (hs := []) (f' := (bif vm_ic .ge (nI k) 150 then 96 else 76, (0, 0), [.ref 152, .int (nI t), .int 0, .int (nI m), .int (nI k)], [])) (h' := (G, (vm_wq (vm_up (vm_up I 191 t 0) 192 t (nI m)) 193 (fun _ => 0) (150 * t) k), F)) (hs' := []) rfl rfl ?_
        refine vm_J.br (fun c3 => ?_) (fun c3 => ?_)
        · have c3 := vm_ge_t (a := k) (b := 150) (by omega) (by omega) c3
          exact (show False by omega).elim
        · have c3 := vm_ge_f (a := k) (b := 150) (by omega) (by omega) c3
          refine vm_J.go vm_q290 (k := 11) (hs := [vm_shR, (0, 900, [])]) (f' := (68, (0, 0), [.ref 152, .int (nI t), .int 0, .int (nI m), .int ((nI k) + 1)], [])) (h' := (G, (vm_up (vm_wq (vm_up (vm_up I 191 t 0) 192 t (nI m)) 193 (fun _ => 0) (150 * t) k) 193 (((150 * (nI t)) + (nI k)).toNatClampNeg) 0), F)) (hs' := []) rfl (vm_b2 rfl (vm_b2 (vm_b2 (vm_hG hR.c152) rfl) (vm_b2 rfl (vm_b2 rfl (vm_b2 rfl (vm_b2 rfl (vm_b2 rfl (vm_b2 rfl (vm_b2 (vm_b2 (vm_hG hR.c193) (vm_in_e (j := (150 * t) + k) (n := 900) (vm_pa (vm_pm (rfl : (150 : Int32) = nI 150) (rfl : (nI t : Int32) = nI t)) (rfl : (nI k : Int32) = nI k)) (by omega) (by omega))) (vm_b2 rfl (vm_b2 rfl rfl))))))))))) ?_
          rw [vm_ix_e (j := (150 * t) + k) (vm_pa (vm_pm (rfl : (150 : Int32) = nI 150) (rfl : (nI t : Int32) = nI t)) (rfl : (nI k : Int32) = nI k)) (by omega), ((vm_pa (rfl : nI k = nI k) (rfl : (1 : Int32) = nI 1)) : (nI k) + 1 = nI (k + 1))]
          rw [show (vm_up (vm_wq (vm_up (vm_up I 191 t 0) 192 t (nI m)) 193 (fun _ => 0) (150 * t) k) 193 (((150 * t) + k)) 0) = (vm_wq (vm_up (vm_up I 191 t 0) 192 t (nI m)) 193 (fun _ => 0) (150 * t) (k + 1)) from by exact vm_wq_s _ 193 (150 * t) k (fun _ => 0)]
          exact ik trivial
      · show vm_J _ _ _ (68, (0, 0), [.ref 152, .int (nI t), .int 0, .int (nI m), .int (nI 150)], []) (G, (vm_wq (vm_up (vm_up I 191 t 0) 192 t (nI m)) 193 (fun _ => 0) (150 * t) 150), F) _ _
        refine vm_J.go vm_q290 (k := 3) (hs := []) (f' := (bif vm_ic .ge (nI 150) 150 then 96 else 76, (0, 0), [.ref 152, .int (nI t), .int 0, .int (nI m), .int (nI 150)], [])) (h' := (G, (vm_wq (vm_up (vm_up I 191 t 0) 192 t (nI m)) 193 (fun _ => 0) (150 * t) 150), F)) (hs' := []) rfl rfl ?_
        refine vm_J.br (fun c4 => ?_) (fun c4 => ?_)
        · have c4 := vm_ge_t (a := 150) (b := 150) (by omega) (by omega) c4
          refine vm_J.go vm_q290 (k := 1) (hs := []) (f' := (97, (0, 0), [.ref 152, .int (nI t), .int 0, .int (nI m), .int (nI 150)], [.int 1])) (h' := (G, (vm_wq (vm_up (vm_up I 191 t 0) 192 t (nI m)) 193 (fun _ => 0) (150 * t) 150), F)) (hs' := []) rfl rfl ?_
          exact vm_J.end vm_q290 (en := (97, .ireturn, 1, [], .null)) rfl rfl vm_rI (Nat.zero_le _) (Nat.zero_le _) rfl
        · have c4 := vm_ge_f (a := 150) (b := 150) (by omega) (by omega) c4
          exact (show False by omega).elim
    · have c2 := vm_ge_f (a := m) (b := 0) (by omega) (by omega) c2
      exact (show False by omega).elim
  · have c1 := vm_le_f (a := m) (b := 150) (by omega) (by omega) c1
    exact (show False by omega).elim
set_option maxHeartbeats 4000000 in
set_option maxRecDepth 20000 in
/-- DitherDeskModel.tape -/
theorem r_tape_g0 {l : Launch} {X : vm_Cx} {G : List vm_Sh} {I : Nat → Nat → Int32} {F : Nat → Nat → UInt32} {t : Nat} {b : Int32} (hR : vm_isR G) (ht : t < 6) (hb : ¬ b ≤ 150) : vm_K l X vm_M290 [.ref 152, .int (nI t), .int 0, .int b] (G, I, F) (some (.int (-2))) (G, I, F) := by
  refine vm_K.mk (by decide) (Nat.le_of_ble_eq_true rfl) ?_
  show vm_J _ _ _ (0, (0, 0), [.ref 152, .int (nI t), .int 0, .int b, .retAddr 0], []) _ _ _
  refine vm_J.go vm_q290 (k := 1) (hs := []) (f' := (1, (0, 0), [.ref 152, .int (nI t), .int 0, .int b, .retAddr 0], [.int (nI t)])) (h' := (G, I, F)) (hs' := []) rfl rfl ?_
  refine vm_J.call vm_q290 (Z := vm_M287) (n := 1) (k := 1) (mi := 287) (pc := 1) (en := (1, .invokestatic 495, 3, [287, 1799, 0], .null)) rfl trivial rfl rfl vm_z287 (av := [.int (nI t)]) (rest := []) (r_isTape_y (c := nI t) (vm_bp6 ht)) rfl (Nat.le_of_ble_eq_true rfl) ⟨Nat.le_of_ble_eq_true rfl, Nat.le_of_ble_eq_true rfl⟩ ⟨Nat.le_of_ble_eq_true rfl, Nat.le_of_ble_eq_true rfl⟩ ?_
  show vm_J _ _ _ (4, (0, 0), [.ref 152, .int (nI t), .int 0, .int b, .retAddr 0], [.int 1]) (G, I, F) _ _
  refine vm_J.go vm_q290 (k := 1) (hs := []) (f' := (bif vm_ic .ne 1 0 then 9 else 7, (0, 0), [.ref 152, .int (nI t), .int 0, .int b, .retAddr 0], [])) (h' := (G, I, F)) (hs' := []) rfl rfl ?_
  refine vm_J.bT (by decide) ?_
  refine vm_J.go vm_q290 (k := 3) (hs := []) (f' := (12, (0, 0), [.ref 152, .int (nI t), .int 0, .int b, .retAddr 0], [.int 3, .int (-1), .int 0])) (h' := (G, I, F)) (hs' := []) rfl rfl ?_
  refine vm_J.call vm_q290 (Z := vm_M168) (n := 3) (k := 1) (mi := 168) (pc := 12) (en := (12, .invokestatic 141, 3, [168, 1302, 0], .null)) rfl trivial rfl rfl vm_z168 (av := [.int 0, .int (-1), .int 3]) (rest := []) (r_isIn_y (v := 0) (a := (-1)) (b := 3) (by decide)) rfl (Nat.le_of_ble_eq_true rfl) ⟨Nat.le_of_ble_eq_true rfl, Nat.le_of_ble_eq_true rfl⟩ ⟨Nat.le_of_ble_eq_true rfl, Nat.le_of_ble_eq_true rfl⟩ ?_
  show vm_J _ _ _ (15, (0, 0), [.ref 152, .int (nI t), .int 0, .int b, .retAddr 0], [.int 1]) (G, I, F) _ _
  refine vm_J.go vm_q290 (k := 1) (hs := []) (f' := (bif vm_ic .eq 1 0 then 29 else 18, (0, 0), [.ref 152, .int (nI t), .int 0, .int b, .retAddr 0], [])) (h' := (G, I, F)) (hs' := []) rfl rfl ?_
  refine vm_J.bF (by decide) ?_
  refine vm_J.go vm_q290 (k := 2) (hs := []) (f' := (bif vm_ic .lt 0 0 then 32 else 22, (0, 0), [.ref 152, .int (nI t), .int 0, .int b, .retAddr 0], [])) (h' := (G, I, F)) (hs' := []) rfl rfl ?_
  refine vm_J.bF (by decide) ?_
  refine vm_J.go vm_q290 (k := 3) (hs := []) (f' := (bif vm_ic .le b 150 then 32 else 29, (0, 0), [.ref 152, .int (nI t), .int 0, .int b, .retAddr 0], [])) (h' := (G, I, F)) (hs' := []) rfl rfl ?_
  refine vm_J.bF (decide_eq_false hb) ?_
  refine vm_J.go vm_q290 (k := 1) (hs := []) (f' := (31, (0, 0), [.ref 152, .int (nI t), .int 0, .int b, .retAddr 0], [.int (-2)])) (h' := (G, I, F)) (hs' := []) rfl rfl ?_
  exact vm_J.end vm_q290 (en := (31, .ireturn, 1, [], .null)) rfl rfl vm_rI (Nat.zero_le _) (Nat.zero_le _) rfl
set_option maxHeartbeats 4000000 in
set_option maxRecDepth 20000 in
/-- DitherDeskModel.tape -/
theorem r_tape_s0 {l : Launch} {X : vm_Cx} {G : List vm_Sh} {I : Nat → Nat → Int32} {F : Nat → Nat → UInt32} {t : Nat} {b : Int32} (hR : vm_isR G) (ht : t < 6) (hb : b < 0) : vm_K l X vm_M290 [.ref 152, .int (nI t), .int 0, .int b] (G, I, F) (some (.int (-14))) (G, I, F) := by
  refine vm_K.mk (by decide) (Nat.le_of_ble_eq_true rfl) ?_
  show vm_J _ _ _ (0, (0, 0), [.ref 152, .int (nI t), .int 0, .int b, .retAddr 0], []) _ _ _
  refine vm_J.go vm_q290 (k := 1) (hs := []) (f' := (1, (0, 0), [.ref 152, .int (nI t), .int 0, .int b, .retAddr 0], [.int (nI t)])) (h' := (G, I, F)) (hs' := []) rfl rfl ?_
  refine vm_J.call vm_q290 (Z := vm_M287) (n := 1) (k := 1) (mi := 287) (pc := 1) (en := (1, .invokestatic 495, 3, [287, 1799, 0], .null)) rfl trivial rfl rfl vm_z287 (av := [.int (nI t)]) (rest := []) (r_isTape_y (c := nI t) (vm_bp6 ht)) rfl (Nat.le_of_ble_eq_true rfl) ⟨Nat.le_of_ble_eq_true rfl, Nat.le_of_ble_eq_true rfl⟩ ⟨Nat.le_of_ble_eq_true rfl, Nat.le_of_ble_eq_true rfl⟩ ?_
  show vm_J _ _ _ (4, (0, 0), [.ref 152, .int (nI t), .int 0, .int b, .retAddr 0], [.int 1]) (G, I, F) _ _
  refine vm_J.go vm_q290 (k := 1) (hs := []) (f' := (bif vm_ic .ne 1 0 then 9 else 7, (0, 0), [.ref 152, .int (nI t), .int 0, .int b, .retAddr 0], [])) (h' := (G, I, F)) (hs' := []) rfl rfl ?_
  refine vm_J.bT (by decide) ?_
  refine vm_J.go vm_q290 (k := 3) (hs := []) (f' := (12, (0, 0), [.ref 152, .int (nI t), .int 0, .int b, .retAddr 0], [.int 3, .int (-1), .int 0])) (h' := (G, I, F)) (hs' := []) rfl rfl ?_
  refine vm_J.call vm_q290 (Z := vm_M168) (n := 3) (k := 1) (mi := 168) (pc := 12) (en := (12, .invokestatic 141, 3, [168, 1302, 0], .null)) rfl trivial rfl rfl vm_z168 (av := [.int 0, .int (-1), .int 3]) (rest := []) (r_isIn_y (v := 0) (a := (-1)) (b := 3) (by decide)) rfl (Nat.le_of_ble_eq_true rfl) ⟨Nat.le_of_ble_eq_true rfl, Nat.le_of_ble_eq_true rfl⟩ ⟨Nat.le_of_ble_eq_true rfl, Nat.le_of_ble_eq_true rfl⟩ ?_
  show vm_J _ _ _ (15, (0, 0), [.ref 152, .int (nI t), .int 0, .int b, .retAddr 0], [.int 1]) (G, I, F) _ _
  refine vm_J.go vm_q290 (k := 1) (hs := []) (f' := (bif vm_ic .eq 1 0 then 29 else 18, (0, 0), [.ref 152, .int (nI t), .int 0, .int b, .retAddr 0], [])) (h' := (G, I, F)) (hs' := []) rfl rfl ?_
  refine vm_J.bF (by decide) ?_
  refine vm_J.go vm_q290 (k := 2) (hs := []) (f' := (bif vm_ic .lt 0 0 then 32 else 22, (0, 0), [.ref 152, .int (nI t), .int 0, .int b, .retAddr 0], [])) (h' := (G, I, F)) (hs' := []) rfl rfl ?_
  refine vm_J.bF (by decide) ?_
  refine vm_J.go vm_q290 (k := 3) (hs := []) (f' := (bif vm_ic .le b 150 then 32 else 29, (0, 0), [.ref 152, .int (nI t), .int 0, .int b, .retAddr 0], [])) (h' := (G, I, F)) (hs' := []) rfl rfl ?_
  refine vm_J.bT (decide_eq_true (vm_lt0_le hb)) ?_
  refine vm_J.go vm_q290 (k := 2) (hs := []) (f' := (bif vm_ic .lt 0 0 then 43 else 36, (0, 0), [.ref 152, .int (nI t), .int 0, .int b, .retAddr 0], [])) (h' := (G, I, F)) (hs' := []) rfl rfl ?_
  refine vm_J.bF (by decide) ?_
  refine vm_J.go vm_q290 (k := 2) (hs := []) (f' := (bif vm_ic .ge b 0 then 43 else 40, (0, 0), [.ref 152, .int (nI t), .int 0, .int b, .retAddr 0], [])) (h' := (G, I, F)) (hs' := []) rfl rfl ?_
  refine vm_J.bF (decide_eq_false (vm_lt_le hb)) ?_
  refine vm_J.go vm_q290 (k := 1) (hs := []) (f' := (42, (0, 0), [.ref 152, .int (nI t), .int 0, .int b, .retAddr 0], [.int (-14)])) (h' := (G, I, F)) (hs' := []) rfl rfl ?_
  exact vm_J.end vm_q290 (en := (42, .ireturn, 1, [], .null)) rfl rfl vm_rI (Nat.zero_le _) (Nat.zero_le _) rfl
set_option maxHeartbeats 4000000 in
set_option maxRecDepth 20000 in
/-- DitherDeskModel.tape -/
theorem r_tape_1 {l : Launch} {X : vm_Cx} {G : List vm_Sh} {I : Nat → Nat → Int32} {F : Nat → Nat → UInt32} {t : Nat} {m : Nat} (hR : vm_isR G) (ht : t < 6) (hm : m ≤ 150) : vm_K l X vm_M290 [.ref 152, .int (nI t), .int 1, .int (nI m)] (G, I, F) (some (.int 1)) (G, (vm_wq (vm_up (vm_up I 191 t 1) 192 t (nI m)) 193 (fun _ => 0) (150 * t) 150), F) := by
  refine vm_K.mk (by decide) (Nat.le_of_ble_eq_true rfl) ?_
  show vm_J _ _ _ (0, (0, 0), [.ref 152, .int (nI t), .int 1, .int (nI m), .retAddr 0], []) _ _ _
  refine vm_J.go vm_q290 (k := 1) (hs := []) (f' := (1, (0, 0), [.ref 152, .int (nI t), .int 1, .int (nI m), .retAddr 0], [.int (nI t)])) (h' := (G, I, F)) (hs' := []) rfl rfl ?_
  refine vm_J.call vm_q290 (Z := vm_M287) (n := 1) (k := 1) (mi := 287) (pc := 1) (en := (1, .invokestatic 495, 3, [287, 1799, 0], .null)) rfl trivial rfl rfl vm_z287 (av := [.int (nI t)]) (rest := []) (r_isTape_y (c := nI t) (vm_bp6 ht)) rfl (Nat.le_of_ble_eq_true rfl) ⟨Nat.le_of_ble_eq_true rfl, Nat.le_of_ble_eq_true rfl⟩ ⟨Nat.le_of_ble_eq_true rfl, Nat.le_of_ble_eq_true rfl⟩ ?_
  show vm_J _ _ _ (4, (0, 0), [.ref 152, .int (nI t), .int 1, .int (nI m), .retAddr 0], [.int 1]) (G, I, F) _ _
  refine vm_J.go vm_q290 (k := 1) (hs := []) (f' := (bif vm_ic .ne 1 0 then 9 else 7, (0, 0), [.ref 152, .int (nI t), .int 1, .int (nI m), .retAddr 0], [])) (h' := (G, I, F)) (hs' := []) rfl rfl ?_
  refine vm_J.bT (by decide) ?_
  refine vm_J.go vm_q290 (k := 3) (hs := []) (f' := (12, (0, 0), [.ref 152, .int (nI t), .int 1, .int (nI m), .retAddr 0], [.int 3, .int (-1), .int 1])) (h' := (G, I, F)) (hs' := []) rfl rfl ?_
  refine vm_J.call vm_q290 (Z := vm_M168) (n := 3) (k := 1) (mi := 168) (pc := 12) (en := (12, .invokestatic 141, 3, [168, 1302, 0], .null)) rfl trivial rfl rfl vm_z168 (av := [.int 1, .int (-1), .int 3]) (rest := []) (r_isIn_y (v := 1) (a := (-1)) (b := 3) (by decide)) rfl (Nat.le_of_ble_eq_true rfl) ⟨Nat.le_of_ble_eq_true rfl, Nat.le_of_ble_eq_true rfl⟩ ⟨Nat.le_of_ble_eq_true rfl, Nat.le_of_ble_eq_true rfl⟩ ?_
  show vm_J _ _ _ (15, (0, 0), [.ref 152, .int (nI t), .int 1, .int (nI m), .retAddr 0], [.int 1]) (G, I, F) _ _
  refine vm_J.go vm_q290 (k := 1) (hs := []) (f' := (bif vm_ic .eq 1 0 then 29 else 18, (0, 0), [.ref 152, .int (nI t), .int 1, .int (nI m), .retAddr 0], [])) (h' := (G, I, F)) (hs' := []) rfl rfl ?_
  refine vm_J.bF (by decide) ?_
  refine vm_J.go vm_q290 (k := 2) (hs := []) (f' := (bif vm_ic .lt 1 0 then 32 else 22, (0, 0), [.ref 152, .int (nI t), .int 1, .int (nI m), .retAddr 0], [])) (h' := (G, I, F)) (hs' := []) rfl rfl ?_
  refine vm_J.bF (by decide) ?_
  refine vm_J.go vm_q290 (k := 3) (hs := []) (f' := (bif vm_ic .le (nI m) 150 then 32 else 29, (0, 0), [.ref 152, .int (nI t), .int 1, .int (nI m), .retAddr 0], [])) (h' := (G, I, F)) (hs' := []) rfl rfl ?_
  refine vm_J.br (fun c1 => ?_) (fun c1 => ?_)
  · have c1 := vm_le_t (a := m) (b := 150) (by omega) (by omega) c1
    refine vm_J.go vm_q290 (k := 2) (hs := []) (f' := (bif vm_ic .lt 1 0 then 43 else 36, (0, 0), [.ref 152, .int (nI t), .int 1, .int (nI m), .retAddr 0], [])) (h' := (G, I, F)) (hs' := []) rfl rfl ?_
    refine vm_J.bF (by decide) ?_
    refine vm_J.go vm_q290 (k := 2) (hs := []) (f' := (bif vm_ic .ge (nI m) 0 then 43 else 40, (0, 0), [.ref 152, .int (nI t), .int 1, .int (nI m), .retAddr 0], [])) (h' := (G, I, F)) (hs' := []) rfl rfl ?_
    refine vm_J.br (fun c2 => ?_) (fun c2 => ?_)
    · have c2 := vm_ge_t (a := m) (b := 0) (by omega) (by omega) c2
      refine vm_J.go vm_q290 (k := 10) (hs := [vm_shR, (0, 6, []), vm_shR]) (f' := (bif vm_ic .ge 1 0 then 63 else 59, (0, 0), [.ref 152, .int (nI t), .int 1, .int (nI m), .retAddr 0], [.int (nI t), .ref 192])) (h' := (G, (vm_up I 191 ((nI t).toNatClampNeg) 1), F)) (hs' := []) rfl (vm_b2 rfl (vm_b2 (vm_b2 (vm_hG hR.c152) rfl) (vm_b2 rfl (vm_b2 rfl (vm_b2 (vm_b2 (vm_hG hR.c191) (vm_in_e (j := t) (n := 6) rfl (by omega) (by omega))) (vm_b2 rfl (vm_b2 (vm_b2 (vm_hG hR.c152) rfl) (vm_b2 rfl (vm_b2 rfl (vm_b2 rfl rfl)))))))))) ?_
      rw [vm_ix_e (j := t) rfl (by omega)]
      refine vm_J.bT (by decide) ?_
      refine vm_J.go vm_q290 (k := 4) (hs := [(0, 6, [])]) (f' := (68, (0, 0), [.ref 152, .int (nI t), .int 1, .int (nI m), .int 0], [])) (h' := (G, (vm_up (vm_up I 191 (t) 1) 192 ((nI t).toNatClampNeg) (nI m)), F)) (hs' := []) rfl (vm_b2 rfl (vm_b2 (vm_b2 (vm_hG hR.c192) (vm_in_e (j := t) (n := 6) rfl (by omega) (by omega))) (vm_b2 rfl (vm_b2 rfl rfl)))) ?_
      rw [vm_ix_e (j := t) rfl (by omega)]
      refine vm_J.cnt 150 (fun k => (68, (0, 0), [.ref 152, .int (nI t), .int 1, .int (nI m), .int (nI k)], [])) (fun k => (G, (vm_wq (vm_up (vm_up I 191 t 1) 192 t (nI m)) 193 (fun _ => 0) (150 * t) k), F)) (fun _ => True) rfl (by rw [← vm_wq_0]) trivial (fun k hk pk ik => ?_) (fun pk => ?_)
      · show vm_J _ _ _ (68, (0, 0), [.ref 152, .int (nI t), .int 1, .int (nI m), .int (nI k)], []) (G, (vm_wq (vm_up (vm_up I 191 t 1) 192 t (nI m)) 193 (fun _ => 0) (150 * t) k), F) _ _
        refine vm_J.go vm_q290 (k := 3) (hs := []) (f' := (bif vm_ic .ge (nI k) 150 then 96 else 76, (0, 0), [.ref 152, .int (nI t), .int 1, .int (nI m), .int (nI k)], [])) (h' := (G, (vm_wq (vm_up (vm_up I 191 t 1) 192 t (nI m)) 193 (fun _ => 0) (150 * t) k), F)) (hs' := []) rfl rfl ?_
        refine vm_J.br (fun c3 => ?_) (fun c3 => ?_)
        · have c3 := vm_ge_t (a := k) (b := 150) (by omega) (by omega) c3
          exact (show False by omega).elim
        · have c3 := vm_ge_f (a := k) (b := 150) (by omega) (by omega) c3
          refine vm_J.go vm_q290 (k := 11) (hs := [vm_shR, (0, 900, [])]) (f' := (68, (0, 0), [.ref 152, .int (nI t), .int 1, .int (nI m), .int ((nI k) + 1)], [])) (h' := (G, (vm_up (vm_wq (vm_up (vm_up I 191 t 1) 192 t (nI m)) 193 (fun _ => 0) (150 * t) k) 193 (((150 * (nI t)) + (nI k)).toNatClampNeg) 0), F)) (hs' := []) rfl (vm_b2 rfl (vm_b2 (vm_b2 (vm_hG hR.c152) rfl) (vm_b2 rfl (vm_b2 rfl (vm_b2 rfl (vm_b2 rfl (vm_b2 rfl (vm_b2 rfl (vm_b2 (vm_b2 (vm_hG hR.c193) (vm_in_e (j := (150 * t) + k) (n := 900) (vm_pa (vm_pm (rfl : (150 : Int32) = nI 150) (rfl : (nI t : Int32) = nI t)) (rfl : (nI k : Int32) = nI k)) (by omega) (by omega))) (vm_b2 rfl (vm_b2 rfl rfl))))))))))) ?_
          rw [vm_ix_e (j := (150 * t) + k) (vm_pa (vm_pm (rfl : (150 : Int32) = nI 150) (rfl : (nI t : Int32) = nI t)) (rfl : (nI k : Int32) = nI k)) (by omega), ((vm_pa (rfl : nI k = nI k) (rfl : (1 : Int32) = nI 1)) : (nI k) + 1 = nI (k + 1))]
          rw [show (vm_up (vm_wq (vm_up (vm_up I 191 t 1) 192 t (nI m)) 193 (fun _ => 0) (150 * t) k) 193 (((150 * t) + k)) 0) = (vm_wq (vm_up (vm_up I 191 t 1) 192 t (nI m)) 193 (fun _ => 0) (150 * t) (k + 1)) from by exact vm_wq_s _ 193 (150 * t) k (fun _ => 0)]
          exact ik trivial
      · show vm_J _ _ _ (68, (0, 0), [.ref 152, .int (nI t), .int 1, .int (nI m), .int (nI 150)], []) (G, (vm_wq (vm_up (vm_up I 191 t 1) 192 t (nI m)) 193 (fun _ => 0) (150 * t) 150), F) _ _
        refine vm_J.go vm_q290 (k := 3) (hs := []) (f' := (bif vm_ic .ge (nI 150) 150 then 96 else 76, (0, 0), [.ref 152, .int (nI t), .int 1, .int (nI m), .int (nI 150)], [])) (h' := (G, (vm_wq (vm_up (vm_up I 191 t 1) 192 t (nI m)) 193 (fun _ => 0) (150 * t) 150), F)) (hs' := []) rfl rfl ?_
        refine vm_J.br (fun c4 => ?_) (fun c4 => ?_)
        · have c4 := vm_ge_t (a := 150) (b := 150) (by omega) (by omega) c4
          refine vm_J.go vm_q290 (k := 1) (hs := []) (f' := (97, (0, 0), [.ref 152, .int (nI t), .int 1, .int (nI m), .int (nI 150)], [.int 1])) (h' := (G, (vm_wq (vm_up (vm_up I 191 t 1) 192 t (nI m)) 193 (fun _ => 0) (150 * t) 150), F)) (hs' := []) rfl rfl ?_
          exact vm_J.end vm_q290 (en := (97, .ireturn, 1, [], .null)) rfl rfl vm_rI (Nat.zero_le _) (Nat.zero_le _) rfl
        · have c4 := vm_ge_f (a := 150) (b := 150) (by omega) (by omega) c4
          exact (show False by omega).elim
    · have c2 := vm_ge_f (a := m) (b := 0) (by omega) (by omega) c2
      exact (show False by omega).elim
  · have c1 := vm_le_f (a := m) (b := 150) (by omega) (by omega) c1
    exact (show False by omega).elim
set_option maxHeartbeats 4000000 in
set_option maxRecDepth 20000 in
/-- DitherDeskModel.tape -/
theorem r_tape_g1 {l : Launch} {X : vm_Cx} {G : List vm_Sh} {I : Nat → Nat → Int32} {F : Nat → Nat → UInt32} {t : Nat} {b : Int32} (hR : vm_isR G) (ht : t < 6) (hb : ¬ b ≤ 150) : vm_K l X vm_M290 [.ref 152, .int (nI t), .int 1, .int b] (G, I, F) (some (.int (-2))) (G, I, F) := by
  refine vm_K.mk (by decide) (Nat.le_of_ble_eq_true rfl) ?_
  show vm_J _ _ _ (0, (0, 0), [.ref 152, .int (nI t), .int 1, .int b, .retAddr 0], []) _ _ _
  refine vm_J.go vm_q290 (k := 1) (hs := []) (f' := (1, (0, 0), [.ref 152, .int (nI t), .int 1, .int b, .retAddr 0], [.int (nI t)])) (h' := (G, I, F)) (hs' := []) rfl rfl ?_
  refine vm_J.call vm_q290 (Z := vm_M287) (n := 1) (k := 1) (mi := 287) (pc := 1) (en := (1, .invokestatic 495, 3, [287, 1799, 0], .null)) rfl trivial rfl rfl vm_z287 (av := [.int (nI t)]) (rest := []) (r_isTape_y (c := nI t) (vm_bp6 ht)) rfl (Nat.le_of_ble_eq_true rfl) ⟨Nat.le_of_ble_eq_true rfl, Nat.le_of_ble_eq_true rfl⟩ ⟨Nat.le_of_ble_eq_true rfl, Nat.le_of_ble_eq_true rfl⟩ ?_
  show vm_J _ _ _ (4, (0, 0), [.ref 152, .int (nI t), .int 1, .int b, .retAddr 0], [.int 1]) (G, I, F) _ _
  refine vm_J.go vm_q290 (k := 1) (hs := []) (f' := (bif vm_ic .ne 1 0 then 9 else 7, (0, 0), [.ref 152, .int (nI t), .int 1, .int b, .retAddr 0], [])) (h' := (G, I, F)) (hs' := []) rfl rfl ?_
  refine vm_J.bT (by decide) ?_
  refine vm_J.go vm_q290 (k := 3) (hs := []) (f' := (12, (0, 0), [.ref 152, .int (nI t), .int 1, .int b, .retAddr 0], [.int 3, .int (-1), .int 1])) (h' := (G, I, F)) (hs' := []) rfl rfl ?_
  refine vm_J.call vm_q290 (Z := vm_M168) (n := 3) (k := 1) (mi := 168) (pc := 12) (en := (12, .invokestatic 141, 3, [168, 1302, 0], .null)) rfl trivial rfl rfl vm_z168 (av := [.int 1, .int (-1), .int 3]) (rest := []) (r_isIn_y (v := 1) (a := (-1)) (b := 3) (by decide)) rfl (Nat.le_of_ble_eq_true rfl) ⟨Nat.le_of_ble_eq_true rfl, Nat.le_of_ble_eq_true rfl⟩ ⟨Nat.le_of_ble_eq_true rfl, Nat.le_of_ble_eq_true rfl⟩ ?_
  show vm_J _ _ _ (15, (0, 0), [.ref 152, .int (nI t), .int 1, .int b, .retAddr 0], [.int 1]) (G, I, F) _ _
  refine vm_J.go vm_q290 (k := 1) (hs := []) (f' := (bif vm_ic .eq 1 0 then 29 else 18, (0, 0), [.ref 152, .int (nI t), .int 1, .int b, .retAddr 0], [])) (h' := (G, I, F)) (hs' := []) rfl rfl ?_
  refine vm_J.bF (by decide) ?_
  refine vm_J.go vm_q290 (k := 2) (hs := []) (f' := (bif vm_ic .lt 1 0 then 32 else 22, (0, 0), [.ref 152, .int (nI t), .int 1, .int b, .retAddr 0], [])) (h' := (G, I, F)) (hs' := []) rfl rfl ?_
  refine vm_J.bF (by decide) ?_
  refine vm_J.go vm_q290 (k := 3) (hs := []) (f' := (bif vm_ic .le b 150 then 32 else 29, (0, 0), [.ref 152, .int (nI t), .int 1, .int b, .retAddr 0], [])) (h' := (G, I, F)) (hs' := []) rfl rfl ?_
  refine vm_J.bF (decide_eq_false hb) ?_
  refine vm_J.go vm_q290 (k := 1) (hs := []) (f' := (31, (0, 0), [.ref 152, .int (nI t), .int 1, .int b, .retAddr 0], [.int (-2)])) (h' := (G, I, F)) (hs' := []) rfl rfl ?_
  exact vm_J.end vm_q290 (en := (31, .ireturn, 1, [], .null)) rfl rfl vm_rI (Nat.zero_le _) (Nat.zero_le _) rfl
set_option maxHeartbeats 4000000 in
set_option maxRecDepth 20000 in
/-- DitherDeskModel.tape -/
theorem r_tape_s1 {l : Launch} {X : vm_Cx} {G : List vm_Sh} {I : Nat → Nat → Int32} {F : Nat → Nat → UInt32} {t : Nat} {b : Int32} (hR : vm_isR G) (ht : t < 6) (hb : b < 0) : vm_K l X vm_M290 [.ref 152, .int (nI t), .int 1, .int b] (G, I, F) (some (.int (-14))) (G, I, F) := by
  refine vm_K.mk (by decide) (Nat.le_of_ble_eq_true rfl) ?_
  show vm_J _ _ _ (0, (0, 0), [.ref 152, .int (nI t), .int 1, .int b, .retAddr 0], []) _ _ _
  refine vm_J.go vm_q290 (k := 1) (hs := []) (f' := (1, (0, 0), [.ref 152, .int (nI t), .int 1, .int b, .retAddr 0], [.int (nI t)])) (h' := (G, I, F)) (hs' := []) rfl rfl ?_
  refine vm_J.call vm_q290 (Z := vm_M287) (n := 1) (k := 1) (mi := 287) (pc := 1) (en := (1, .invokestatic 495, 3, [287, 1799, 0], .null)) rfl trivial rfl rfl vm_z287 (av := [.int (nI t)]) (rest := []) (r_isTape_y (c := nI t) (vm_bp6 ht)) rfl (Nat.le_of_ble_eq_true rfl) ⟨Nat.le_of_ble_eq_true rfl, Nat.le_of_ble_eq_true rfl⟩ ⟨Nat.le_of_ble_eq_true rfl, Nat.le_of_ble_eq_true rfl⟩ ?_
  show vm_J _ _ _ (4, (0, 0), [.ref 152, .int (nI t), .int 1, .int b, .retAddr 0], [.int 1]) (G, I, F) _ _
  refine vm_J.go vm_q290 (k := 1) (hs := []) (f' := (bif vm_ic .ne 1 0 then 9 else 7, (0, 0), [.ref 152, .int (nI t), .int 1, .int b, .retAddr 0], [])) (h' := (G, I, F)) (hs' := []) rfl rfl ?_
  refine vm_J.bT (by decide) ?_
  refine vm_J.go vm_q290 (k := 3) (hs := []) (f' := (12, (0, 0), [.ref 152, .int (nI t), .int 1, .int b, .retAddr 0], [.int 3, .int (-1), .int 1])) (h' := (G, I, F)) (hs' := []) rfl rfl ?_
  refine vm_J.call vm_q290 (Z := vm_M168) (n := 3) (k := 1) (mi := 168) (pc := 12) (en := (12, .invokestatic 141, 3, [168, 1302, 0], .null)) rfl trivial rfl rfl vm_z168 (av := [.int 1, .int (-1), .int 3]) (rest := []) (r_isIn_y (v := 1) (a := (-1)) (b := 3) (by decide)) rfl (Nat.le_of_ble_eq_true rfl) ⟨Nat.le_of_ble_eq_true rfl, Nat.le_of_ble_eq_true rfl⟩ ⟨Nat.le_of_ble_eq_true rfl, Nat.le_of_ble_eq_true rfl⟩ ?_
  show vm_J _ _ _ (15, (0, 0), [.ref 152, .int (nI t), .int 1, .int b, .retAddr 0], [.int 1]) (G, I, F) _ _
  refine vm_J.go vm_q290 (k := 1) (hs := []) (f' := (bif vm_ic .eq 1 0 then 29 else 18, (0, 0), [.ref 152, .int (nI t), .int 1, .int b, .retAddr 0], [])) (h' := (G, I, F)) (hs' := []) rfl rfl ?_
  refine vm_J.bF (by decide) ?_
  refine vm_J.go vm_q290 (k := 2) (hs := []) (f' := (bif vm_ic .lt 1 0 then 32 else 22, (0, 0), [.ref 152, .int (nI t), .int 1, .int b, .retAddr 0], [])) (h' := (G, I, F)) (hs' := []) rfl rfl ?_
  refine vm_J.bF (by decide) ?_
  refine vm_J.go vm_q290 (k := 3) (hs := []) (f' := (bif vm_ic .le b 150 then 32 else 29, (0, 0), [.ref 152, .int (nI t), .int 1, .int b, .retAddr 0], [])) (h' := (G, I, F)) (hs' := []) rfl rfl ?_
  refine vm_J.bT (decide_eq_true (vm_lt0_le hb)) ?_
  refine vm_J.go vm_q290 (k := 2) (hs := []) (f' := (bif vm_ic .lt 1 0 then 43 else 36, (0, 0), [.ref 152, .int (nI t), .int 1, .int b, .retAddr 0], [])) (h' := (G, I, F)) (hs' := []) rfl rfl ?_
  refine vm_J.bF (by decide) ?_
  refine vm_J.go vm_q290 (k := 2) (hs := []) (f' := (bif vm_ic .ge b 0 then 43 else 40, (0, 0), [.ref 152, .int (nI t), .int 1, .int b, .retAddr 0], [])) (h' := (G, I, F)) (hs' := []) rfl rfl ?_
  refine vm_J.bF (decide_eq_false (vm_lt_le hb)) ?_
  refine vm_J.go vm_q290 (k := 1) (hs := []) (f' := (42, (0, 0), [.ref 152, .int (nI t), .int 1, .int b, .retAddr 0], [.int (-14)])) (h' := (G, I, F)) (hs' := []) rfl rfl ?_
  exact vm_J.end vm_q290 (en := (42, .ireturn, 1, [], .null)) rfl rfl vm_rI (Nat.zero_le _) (Nat.zero_le _) rfl
set_option maxHeartbeats 4000000 in
set_option maxRecDepth 20000 in
/-- DitherDeskModel.tape -/
theorem r_tape_2 {l : Launch} {X : vm_Cx} {G : List vm_Sh} {I : Nat → Nat → Int32} {F : Nat → Nat → UInt32} {t : Nat} {m : Nat} (hR : vm_isR G) (ht : t < 6) (hm : m ≤ 150) : vm_K l X vm_M290 [.ref 152, .int (nI t), .int 2, .int (nI m)] (G, I, F) (some (.int 1)) (G, (vm_wq (vm_up (vm_up I 191 t 2) 192 t (nI m)) 193 (fun _ => 0) (150 * t) 150), F) := by
  refine vm_K.mk (by decide) (Nat.le_of_ble_eq_true rfl) ?_
  show vm_J _ _ _ (0, (0, 0), [.ref 152, .int (nI t), .int 2, .int (nI m), .retAddr 0], []) _ _ _
  refine vm_J.go vm_q290 (k := 1) (hs := []) (f' := (1, (0, 0), [.ref 152, .int (nI t), .int 2, .int (nI m), .retAddr 0], [.int (nI t)])) (h' := (G, I, F)) (hs' := []) rfl rfl ?_
  refine vm_J.call vm_q290 (Z := vm_M287) (n := 1) (k := 1) (mi := 287) (pc := 1) (en := (1, .invokestatic 495, 3, [287, 1799, 0], .null)) rfl trivial rfl rfl vm_z287 (av := [.int (nI t)]) (rest := []) (r_isTape_y (c := nI t) (vm_bp6 ht)) rfl (Nat.le_of_ble_eq_true rfl) ⟨Nat.le_of_ble_eq_true rfl, Nat.le_of_ble_eq_true rfl⟩ ⟨Nat.le_of_ble_eq_true rfl, Nat.le_of_ble_eq_true rfl⟩ ?_
  show vm_J _ _ _ (4, (0, 0), [.ref 152, .int (nI t), .int 2, .int (nI m), .retAddr 0], [.int 1]) (G, I, F) _ _
  refine vm_J.go vm_q290 (k := 1) (hs := []) (f' := (bif vm_ic .ne 1 0 then 9 else 7, (0, 0), [.ref 152, .int (nI t), .int 2, .int (nI m), .retAddr 0], [])) (h' := (G, I, F)) (hs' := []) rfl rfl ?_
  refine vm_J.bT (by decide) ?_
  refine vm_J.go vm_q290 (k := 3) (hs := []) (f' := (12, (0, 0), [.ref 152, .int (nI t), .int 2, .int (nI m), .retAddr 0], [.int 3, .int (-1), .int 2])) (h' := (G, I, F)) (hs' := []) rfl rfl ?_
  refine vm_J.call vm_q290 (Z := vm_M168) (n := 3) (k := 1) (mi := 168) (pc := 12) (en := (12, .invokestatic 141, 3, [168, 1302, 0], .null)) rfl trivial rfl rfl vm_z168 (av := [.int 2, .int (-1), .int 3]) (rest := []) (r_isIn_y (v := 2) (a := (-1)) (b := 3) (by decide)) rfl (Nat.le_of_ble_eq_true rfl) ⟨Nat.le_of_ble_eq_true rfl, Nat.le_of_ble_eq_true rfl⟩ ⟨Nat.le_of_ble_eq_true rfl, Nat.le_of_ble_eq_true rfl⟩ ?_
  show vm_J _ _ _ (15, (0, 0), [.ref 152, .int (nI t), .int 2, .int (nI m), .retAddr 0], [.int 1]) (G, I, F) _ _
  refine vm_J.go vm_q290 (k := 1) (hs := []) (f' := (bif vm_ic .eq 1 0 then 29 else 18, (0, 0), [.ref 152, .int (nI t), .int 2, .int (nI m), .retAddr 0], [])) (h' := (G, I, F)) (hs' := []) rfl rfl ?_
  refine vm_J.bF (by decide) ?_
  refine vm_J.go vm_q290 (k := 2) (hs := []) (f' := (bif vm_ic .lt 2 0 then 32 else 22, (0, 0), [.ref 152, .int (nI t), .int 2, .int (nI m), .retAddr 0], [])) (h' := (G, I, F)) (hs' := []) rfl rfl ?_
  refine vm_J.bF (by decide) ?_
  refine vm_J.go vm_q290 (k := 3) (hs := []) (f' := (bif vm_ic .le (nI m) 150 then 32 else 29, (0, 0), [.ref 152, .int (nI t), .int 2, .int (nI m), .retAddr 0], [])) (h' := (G, I, F)) (hs' := []) rfl rfl ?_
  refine vm_J.br (fun c1 => ?_) (fun c1 => ?_)
  · have c1 := vm_le_t (a := m) (b := 150) (by omega) (by omega) c1
    refine vm_J.go vm_q290 (k := 2) (hs := []) (f' := (bif vm_ic .lt 2 0 then 43 else 36, (0, 0), [.ref 152, .int (nI t), .int 2, .int (nI m), .retAddr 0], [])) (h' := (G, I, F)) (hs' := []) rfl rfl ?_
    refine vm_J.bF (by decide) ?_
    refine vm_J.go vm_q290 (k := 2) (hs := []) (f' := (bif vm_ic .ge (nI m) 0 then 43 else 40, (0, 0), [.ref 152, .int (nI t), .int 2, .int (nI m), .retAddr 0], [])) (h' := (G, I, F)) (hs' := []) rfl rfl ?_
    refine vm_J.br (fun c2 => ?_) (fun c2 => ?_)
    · have c2 := vm_ge_t (a := m) (b := 0) (by omega) (by omega) c2
      refine vm_J.go vm_q290 (k := 10) (hs := [vm_shR, (0, 6, []), vm_shR]) (f' := (bif vm_ic .ge 2 0 then 63 else 59, (0, 0), [.ref 152, .int (nI t), .int 2, .int (nI m), .retAddr 0], [.int (nI t), .ref 192])) (h' := (G, (vm_up I 191 ((nI t).toNatClampNeg) 2), F)) (hs' := []) rfl (vm_b2 rfl (vm_b2 (vm_b2 (vm_hG hR.c152) rfl) (vm_b2 rfl (vm_b2 rfl (vm_b2 (vm_b2 (vm_hG hR.c191) (vm_in_e (j := t) (n := 6) rfl (by omega) (by omega))) (vm_b2 rfl (vm_b2 (vm_b2 (vm_hG hR.c152) rfl) (vm_b2 rfl (vm_b2 rfl (vm_b2 rfl rfl)))))))))) ?_
      rw [vm_ix_e (j := t) rfl (by omega)]
      refine vm_J.bT (by decide) ?_
      refine vm_J.go vm_q290 (k := 4) (hs := [(0, 6, [])]) (f' := (68, (0, 0), [.ref 152, .int (nI t), .int 2, .int (nI m), .int 0], [])) (h' := (G, (vm_up (vm_up I 191 (t) 2) 192 ((nI t).toNatClampNeg) (nI m)), F)) (hs' := []) rfl (vm_b2 rfl (vm_b2 (vm_b2 (vm_hG hR.c192) (vm_in_e (j := t) (n := 6) rfl (by omega) (by omega))) (vm_b2 rfl (vm_b2 rfl rfl)))) ?_
      rw [vm_ix_e (j := t) rfl (by omega)]
      refine vm_J.cnt 150 (fun k => (68, (0, 0), [.ref 152, .int (nI t), .int 2, .int (nI m), .int (nI k)], [])) (fun k => (G, (vm_wq (vm_up (vm_up I 191 t 2) 192 t (nI m)) 193 (fun _ => 0) (150 * t) k), F)) (fun _ => True) rfl (by rw [← vm_wq_0]) trivial (fun k hk pk ik => ?_) (fun pk => ?_)
      · show vm_J _ _ _ (68, (0, 0), [.ref 152, .int (nI t), .int 2, .int (nI m), .int (nI k)], []) (G, (vm_wq (vm_up (vm_up I 191 t 2) 192 t (nI m)) 193 (fun _ => 0) (150 * t) k), F) _ _
        refine vm_J.go vm_q290 (k := 3) (hs := []) (f' := (bif vm_ic .ge (nI k) 150 then 96 else 76, (0, 0), [.ref 152, .int (nI t), .int 2, .int (nI m), .int (nI k)], [])) (h' := (G, (vm_wq (vm_up (vm_up I 191 t 2) 192 t (nI m)) 193 (fun _ => 0) (150 * t) k), F)) (hs' := []) rfl rfl ?_
        refine vm_J.br (fun c3 => ?_) (fun c3 => ?_)
        · have c3 := vm_ge_t (a := k) (b := 150) (by omega) (by omega) c3
          exact (show False by omega).elim
        · have c3 := vm_ge_f (a := k) (b := 150) (by omega) (by omega) c3
          refine vm_J.go vm_q290 (k := 11) (hs := [vm_shR, (0, 900, [])]) (f' := (68, (0, 0), [.ref 152, .int (nI t), .int 2, .int (nI m), .int ((nI k) + 1)], [])) (h' := (G, (vm_up (vm_wq (vm_up (vm_up I 191 t 2) 192 t (nI m)) 193 (fun _ => 0) (150 * t) k) 193 (((150 * (nI t)) + (nI k)).toNatClampNeg) 0), F)) (hs' := []) rfl (vm_b2 rfl (vm_b2 (vm_b2 (vm_hG hR.c152) rfl) (vm_b2 rfl (vm_b2 rfl (vm_b2 rfl (vm_b2 rfl (vm_b2 rfl (vm_b2 rfl (vm_b2 (vm_b2 (vm_hG hR.c193) (vm_in_e (j := (150 * t) + k) (n := 900) (vm_pa (vm_pm (rfl : (150 : Int32) = nI 150) (rfl : (nI t : Int32) = nI t)) (rfl : (nI k : Int32) = nI k)) (by omega) (by omega))) (vm_b2 rfl (vm_b2 rfl rfl))))))))))) ?_
          rw [vm_ix_e (j := (150 * t) + k) (vm_pa (vm_pm (rfl : (150 : Int32) = nI 150) (rfl : (nI t : Int32) = nI t)) (rfl : (nI k : Int32) = nI k)) (by omega), ((vm_pa (rfl : nI k = nI k) (rfl : (1 : Int32) = nI 1)) : (nI k) + 1 = nI (k + 1))]
          rw [show (vm_up (vm_wq (vm_up (vm_up I 191 t 2) 192 t (nI m)) 193 (fun _ => 0) (150 * t) k) 193 (((150 * t) + k)) 0) = (vm_wq (vm_up (vm_up I 191 t 2) 192 t (nI m)) 193 (fun _ => 0) (150 * t) (k + 1)) from by exact vm_wq_s _ 193 (150 * t) k (fun _ => 0)]
          exact ik trivial
      · show vm_J _ _ _ (68, (0, 0), [.ref 152, .int (nI t), .int 2, .int (nI m), .int (nI 150)], []) (G, (vm_wq (vm_up (vm_up I 191 t 2) 192 t (nI m)) 193 (fun _ => 0) (150 * t) 150), F) _ _
        refine vm_J.go vm_q290 (k := 3) (hs := []) (f' := (bif vm_ic .ge (nI 150) 150 then 96 else 76, (0, 0), [.ref 152, .int (nI t), .int 2, .int (nI m), .int (nI 150)], [])) (h' := (G, (vm_wq (vm_up (vm_up I 191 t 2) 192 t (nI m)) 193 (fun _ => 0) (150 * t) 150), F)) (hs' := []) rfl rfl ?_
        refine vm_J.br (fun c4 => ?_) (fun c4 => ?_)
        · have c4 := vm_ge_t (a := 150) (b := 150) (by omega) (by omega) c4
          refine vm_J.go vm_q290 (k := 1) (hs := []) (f' := (97, (0, 0), [.ref 152, .int (nI t), .int 2, .int (nI m), .int (nI 150)], [.int 1])) (h' := (G, (vm_wq (vm_up (vm_up I 191 t 2) 192 t (nI m)) 193 (fun _ => 0) (150 * t) 150), F)) (hs' := []) rfl rfl ?_
          exact vm_J.end vm_q290 (en := (97, .ireturn, 1, [], .null)) rfl rfl vm_rI (Nat.zero_le _) (Nat.zero_le _) rfl
        · have c4 := vm_ge_f (a := 150) (b := 150) (by omega) (by omega) c4
          exact (show False by omega).elim
    · have c2 := vm_ge_f (a := m) (b := 0) (by omega) (by omega) c2
      exact (show False by omega).elim
  · have c1 := vm_le_f (a := m) (b := 150) (by omega) (by omega) c1
    exact (show False by omega).elim
set_option maxHeartbeats 4000000 in
set_option maxRecDepth 20000 in
/-- DitherDeskModel.tape -/
theorem r_tape_g2 {l : Launch} {X : vm_Cx} {G : List vm_Sh} {I : Nat → Nat → Int32} {F : Nat → Nat → UInt32} {t : Nat} {b : Int32} (hR : vm_isR G) (ht : t < 6) (hb : ¬ b ≤ 150) : vm_K l X vm_M290 [.ref 152, .int (nI t), .int 2, .int b] (G, I, F) (some (.int (-2))) (G, I, F) := by
  refine vm_K.mk (by decide) (Nat.le_of_ble_eq_true rfl) ?_
  show vm_J _ _ _ (0, (0, 0), [.ref 152, .int (nI t), .int 2, .int b, .retAddr 0], []) _ _ _
  refine vm_J.go vm_q290 (k := 1) (hs := []) (f' := (1, (0, 0), [.ref 152, .int (nI t), .int 2, .int b, .retAddr 0], [.int (nI t)])) (h' := (G, I, F)) (hs' := []) rfl rfl ?_
  refine vm_J.call vm_q290 (Z := vm_M287) (n := 1) (k := 1) (mi := 287) (pc := 1) (en := (1, .invokestatic 495, 3, [287, 1799, 0], .null)) rfl trivial rfl rfl vm_z287 (av := [.int (nI t)]) (rest := []) (r_isTape_y (c := nI t) (vm_bp6 ht)) rfl (Nat.le_of_ble_eq_true rfl) ⟨Nat.le_of_ble_eq_true rfl, Nat.le_of_ble_eq_true rfl⟩ ⟨Nat.le_of_ble_eq_true rfl, Nat.le_of_ble_eq_true rfl⟩ ?_
  show vm_J _ _ _ (4, (0, 0), [.ref 152, .int (nI t), .int 2, .int b, .retAddr 0], [.int 1]) (G, I, F) _ _
  refine vm_J.go vm_q290 (k := 1) (hs := []) (f' := (bif vm_ic .ne 1 0 then 9 else 7, (0, 0), [.ref 152, .int (nI t), .int 2, .int b, .retAddr 0], [])) (h' := (G, I, F)) (hs' := []) rfl rfl ?_
  refine vm_J.bT (by decide) ?_
  refine vm_J.go vm_q290 (k := 3) (hs := []) (f' := (12, (0, 0), [.ref 152, .int (nI t), .int 2, .int b, .retAddr 0], [.int 3, .int (-1), .int 2])) (h' := (G, I, F)) (hs' := []) rfl rfl ?_
  refine vm_J.call vm_q290 (Z := vm_M168) (n := 3) (k := 1) (mi := 168) (pc := 12) (en := (12, .invokestatic 141, 3, [168, 1302, 0], .null)) rfl trivial rfl rfl vm_z168 (av := [.int 2, .int (-1), .int 3]) (rest := []) (r_isIn_y (v := 2) (a := (-1)) (b := 3) (by decide)) rfl (Nat.le_of_ble_eq_true rfl) ⟨Nat.le_of_ble_eq_true rfl, Nat.le_of_ble_eq_true rfl⟩ ⟨Nat.le_of_ble_eq_true rfl, Nat.le_of_ble_eq_true rfl⟩ ?_
  show vm_J _ _ _ (15, (0, 0), [.ref 152, .int (nI t), .int 2, .int b, .retAddr 0], [.int 1]) (G, I, F) _ _
  refine vm_J.go vm_q290 (k := 1) (hs := []) (f' := (bif vm_ic .eq 1 0 then 29 else 18, (0, 0), [.ref 152, .int (nI t), .int 2, .int b, .retAddr 0], [])) (h' := (G, I, F)) (hs' := []) rfl rfl ?_
  refine vm_J.bF (by decide) ?_
  refine vm_J.go vm_q290 (k := 2) (hs := []) (f' := (bif vm_ic .lt 2 0 then 32 else 22, (0, 0), [.ref 152, .int (nI t), .int 2, .int b, .retAddr 0], [])) (h' := (G, I, F)) (hs' := []) rfl rfl ?_
  refine vm_J.bF (by decide) ?_
  refine vm_J.go vm_q290 (k := 3) (hs := []) (f' := (bif vm_ic .le b 150 then 32 else 29, (0, 0), [.ref 152, .int (nI t), .int 2, .int b, .retAddr 0], [])) (h' := (G, I, F)) (hs' := []) rfl rfl ?_
  refine vm_J.bF (decide_eq_false hb) ?_
  refine vm_J.go vm_q290 (k := 1) (hs := []) (f' := (31, (0, 0), [.ref 152, .int (nI t), .int 2, .int b, .retAddr 0], [.int (-2)])) (h' := (G, I, F)) (hs' := []) rfl rfl ?_
  exact vm_J.end vm_q290 (en := (31, .ireturn, 1, [], .null)) rfl rfl vm_rI (Nat.zero_le _) (Nat.zero_le _) rfl
set_option maxHeartbeats 4000000 in
set_option maxRecDepth 20000 in
/-- DitherDeskModel.tape -/
theorem r_tape_s2 {l : Launch} {X : vm_Cx} {G : List vm_Sh} {I : Nat → Nat → Int32} {F : Nat → Nat → UInt32} {t : Nat} {b : Int32} (hR : vm_isR G) (ht : t < 6) (hb : b < 0) : vm_K l X vm_M290 [.ref 152, .int (nI t), .int 2, .int b] (G, I, F) (some (.int (-14))) (G, I, F) := by
  refine vm_K.mk (by decide) (Nat.le_of_ble_eq_true rfl) ?_
  show vm_J _ _ _ (0, (0, 0), [.ref 152, .int (nI t), .int 2, .int b, .retAddr 0], []) _ _ _
  refine vm_J.go vm_q290 (k := 1) (hs := []) (f' := (1, (0, 0), [.ref 152, .int (nI t), .int 2, .int b, .retAddr 0], [.int (nI t)])) (h' := (G, I, F)) (hs' := []) rfl rfl ?_
  refine vm_J.call vm_q290 (Z := vm_M287) (n := 1) (k := 1) (mi := 287) (pc := 1) (en := (1, .invokestatic 495, 3, [287, 1799, 0], .null)) rfl trivial rfl rfl vm_z287 (av := [.int (nI t)]) (rest := []) (r_isTape_y (c := nI t) (vm_bp6 ht)) rfl (Nat.le_of_ble_eq_true rfl) ⟨Nat.le_of_ble_eq_true rfl, Nat.le_of_ble_eq_true rfl⟩ ⟨Nat.le_of_ble_eq_true rfl, Nat.le_of_ble_eq_true rfl⟩ ?_
  show vm_J _ _ _ (4, (0, 0), [.ref 152, .int (nI t), .int 2, .int b, .retAddr 0], [.int 1]) (G, I, F) _ _
  refine vm_J.go vm_q290 (k := 1) (hs := []) (f' := (bif vm_ic .ne 1 0 then 9 else 7, (0, 0), [.ref 152, .int (nI t), .int 2, .int b, .retAddr 0], [])) (h' := (G, I, F)) (hs' := []) rfl rfl ?_
  refine vm_J.bT (by decide) ?_
  refine vm_J.go vm_q290 (k := 3) (hs := []) (f' := (12, (0, 0), [.ref 152, .int (nI t), .int 2, .int b, .retAddr 0], [.int 3, .int (-1), .int 2])) (h' := (G, I, F)) (hs' := []) rfl rfl ?_
  refine vm_J.call vm_q290 (Z := vm_M168) (n := 3) (k := 1) (mi := 168) (pc := 12) (en := (12, .invokestatic 141, 3, [168, 1302, 0], .null)) rfl trivial rfl rfl vm_z168 (av := [.int 2, .int (-1), .int 3]) (rest := []) (r_isIn_y (v := 2) (a := (-1)) (b := 3) (by decide)) rfl (Nat.le_of_ble_eq_true rfl) ⟨Nat.le_of_ble_eq_true rfl, Nat.le_of_ble_eq_true rfl⟩ ⟨Nat.le_of_ble_eq_true rfl, Nat.le_of_ble_eq_true rfl⟩ ?_
  show vm_J _ _ _ (15, (0, 0), [.ref 152, .int (nI t), .int 2, .int b, .retAddr 0], [.int 1]) (G, I, F) _ _
  refine vm_J.go vm_q290 (k := 1) (hs := []) (f' := (bif vm_ic .eq 1 0 then 29 else 18, (0, 0), [.ref 152, .int (nI t), .int 2, .int b, .retAddr 0], [])) (h' := (G, I, F)) (hs' := []) rfl rfl ?_
  refine vm_J.bF (by decide) ?_
  refine vm_J.go vm_q290 (k := 2) (hs := []) (f' := (bif vm_ic .lt 2 0 then 32 else 22, (0, 0), [.ref 152, .int (nI t), .int 2, .int b, .retAddr 0], [])) (h' := (G, I, F)) (hs' := []) rfl rfl ?_
  refine vm_J.bF (by decide) ?_
  refine vm_J.go vm_q290 (k := 3) (hs := []) (f' := (bif vm_ic .le b 150 then 32 else 29, (0, 0), [.ref 152, .int (nI t), .int 2, .int b, .retAddr 0], [])) (h' := (G, I, F)) (hs' := []) rfl rfl ?_
  refine vm_J.bT (decide_eq_true (vm_lt0_le hb)) ?_
  refine vm_J.go vm_q290 (k := 2) (hs := []) (f' := (bif vm_ic .lt 2 0 then 43 else 36, (0, 0), [.ref 152, .int (nI t), .int 2, .int b, .retAddr 0], [])) (h' := (G, I, F)) (hs' := []) rfl rfl ?_
  refine vm_J.bF (by decide) ?_
  refine vm_J.go vm_q290 (k := 2) (hs := []) (f' := (bif vm_ic .ge b 0 then 43 else 40, (0, 0), [.ref 152, .int (nI t), .int 2, .int b, .retAddr 0], [])) (h' := (G, I, F)) (hs' := []) rfl rfl ?_
  refine vm_J.bF (decide_eq_false (vm_lt_le hb)) ?_
  refine vm_J.go vm_q290 (k := 1) (hs := []) (f' := (42, (0, 0), [.ref 152, .int (nI t), .int 2, .int b, .retAddr 0], [.int (-14)])) (h' := (G, I, F)) (hs' := []) rfl rfl ?_
  exact vm_J.end vm_q290 (en := (42, .ireturn, 1, [], .null)) rfl rfl vm_rI (Nat.zero_le _) (Nat.zero_le _) rfl
set_option maxHeartbeats 4000000 in
set_option maxRecDepth 20000 in
/-- DitherDeskModel.tape -/
theorem r_tape_3 {l : Launch} {X : vm_Cx} {G : List vm_Sh} {I : Nat → Nat → Int32} {F : Nat → Nat → UInt32} {t : Nat} {m : Nat} (hR : vm_isR G) (ht : t < 6) (hm : m ≤ 150) : vm_K l X vm_M290 [.ref 152, .int (nI t), .int 3, .int (nI m)] (G, I, F) (some (.int 1)) (G, (vm_wq (vm_up (vm_up I 191 t 3) 192 t (nI m)) 193 (fun _ => 0) (150 * t) 150), F) := by
  refine vm_K.mk (by decide) (Nat.le_of_ble_eq_true rfl) ?_
  show vm_J _ _ _ (0, (0, 0), [.ref 152, .int (nI t), .int 3, .int (nI m), .retAddr 0], []) _ _ _
  refine vm_J.go vm_q290 (k := 1) (hs := []) (f' := (1, (0, 0), [.ref 152, .int (nI t), .int 3, .int (nI m), .retAddr 0], [.int (nI t)])) (h' := (G, I, F)) (hs' := []) rfl rfl ?_
  refine vm_J.call vm_q290 (Z := vm_M287) (n := 1) (k := 1) (mi := 287) (pc := 1) (en := (1, .invokestatic 495, 3, [287, 1799, 0], .null)) rfl trivial rfl rfl vm_z287 (av := [.int (nI t)]) (rest := []) (r_isTape_y (c := nI t) (vm_bp6 ht)) rfl (Nat.le_of_ble_eq_true rfl) ⟨Nat.le_of_ble_eq_true rfl, Nat.le_of_ble_eq_true rfl⟩ ⟨Nat.le_of_ble_eq_true rfl, Nat.le_of_ble_eq_true rfl⟩ ?_
  show vm_J _ _ _ (4, (0, 0), [.ref 152, .int (nI t), .int 3, .int (nI m), .retAddr 0], [.int 1]) (G, I, F) _ _
  refine vm_J.go vm_q290 (k := 1) (hs := []) (f' := (bif vm_ic .ne 1 0 then 9 else 7, (0, 0), [.ref 152, .int (nI t), .int 3, .int (nI m), .retAddr 0], [])) (h' := (G, I, F)) (hs' := []) rfl rfl ?_
  refine vm_J.bT (by decide) ?_
  refine vm_J.go vm_q290 (k := 3) (hs := []) (f' := (12, (0, 0), [.ref 152, .int (nI t), .int 3, .int (nI m), .retAddr 0], [.int 3, .int (-1), .int 3])) (h' := (G, I, F)) (hs' := []) rfl rfl ?_
  refine vm_J.call vm_q290 (Z := vm_M168) (n := 3) (k := 1) (mi := 168) (pc := 12) (en := (12, .invokestatic 141, 3, [168, 1302, 0], .null)) rfl trivial rfl rfl vm_z168 (av := [.int 3, .int (-1), .int 3]) (rest := []) (r_isIn_y (v := 3) (a := (-1)) (b := 3) (by decide)) rfl (Nat.le_of_ble_eq_true rfl) ⟨Nat.le_of_ble_eq_true rfl, Nat.le_of_ble_eq_true rfl⟩ ⟨Nat.le_of_ble_eq_true rfl, Nat.le_of_ble_eq_true rfl⟩ ?_
  show vm_J _ _ _ (15, (0, 0), [.ref 152, .int (nI t), .int 3, .int (nI m), .retAddr 0], [.int 1]) (G, I, F) _ _
  refine vm_J.go vm_q290 (k := 1) (hs := []) (f' := (bif vm_ic .eq 1 0 then 29 else 18, (0, 0), [.ref 152, .int (nI t), .int 3, .int (nI m), .retAddr 0], [])) (h' := (G, I, F)) (hs' := []) rfl rfl ?_
  refine vm_J.bF (by decide) ?_
  refine vm_J.go vm_q290 (k := 2) (hs := []) (f' := (bif vm_ic .lt 3 0 then 32 else 22, (0, 0), [.ref 152, .int (nI t), .int 3, .int (nI m), .retAddr 0], [])) (h' := (G, I, F)) (hs' := []) rfl rfl ?_
  refine vm_J.bF (by decide) ?_
  refine vm_J.go vm_q290 (k := 3) (hs := []) (f' := (bif vm_ic .le (nI m) 150 then 32 else 29, (0, 0), [.ref 152, .int (nI t), .int 3, .int (nI m), .retAddr 0], [])) (h' := (G, I, F)) (hs' := []) rfl rfl ?_
  refine vm_J.br (fun c1 => ?_) (fun c1 => ?_)
  · have c1 := vm_le_t (a := m) (b := 150) (by omega) (by omega) c1
    refine vm_J.go vm_q290 (k := 2) (hs := []) (f' := (bif vm_ic .lt 3 0 then 43 else 36, (0, 0), [.ref 152, .int (nI t), .int 3, .int (nI m), .retAddr 0], [])) (h' := (G, I, F)) (hs' := []) rfl rfl ?_
    refine vm_J.bF (by decide) ?_
    refine vm_J.go vm_q290 (k := 2) (hs := []) (f' := (bif vm_ic .ge (nI m) 0 then 43 else 40, (0, 0), [.ref 152, .int (nI t), .int 3, .int (nI m), .retAddr 0], [])) (h' := (G, I, F)) (hs' := []) rfl rfl ?_
    refine vm_J.br (fun c2 => ?_) (fun c2 => ?_)
    · have c2 := vm_ge_t (a := m) (b := 0) (by omega) (by omega) c2
      refine vm_J.go vm_q290 (k := 10) (hs := [vm_shR, (0, 6, []), vm_shR]) (f' := (bif vm_ic .ge 3 0 then 63 else 59, (0, 0), [.ref 152, .int (nI t), .int 3, .int (nI m), .retAddr 0], [.int (nI t), .ref 192])) (h' := (G, (vm_up I 191 ((nI t).toNatClampNeg) 3), F)) (hs' := []) rfl (vm_b2 rfl (vm_b2 (vm_b2 (vm_hG hR.c152) rfl) (vm_b2 rfl (vm_b2 rfl (vm_b2 (vm_b2 (vm_hG hR.c191) (vm_in_e (j := t) (n := 6) rfl (by omega) (by omega))) (vm_b2 rfl (vm_b2 (vm_b2 (vm_hG hR.c152) rfl) (vm_b2 rfl (vm_b2 rfl (vm_b2 rfl rfl)))))))))) ?_
      rw [vm_ix_e (j := t) rfl (by omega)]
      refine vm_J.bT (by decide) ?_
      refine vm_J.go vm_q290 (k := 4) (hs := [(0, 6, [])]) (f' := (68, (0, 0), [.ref 152, .int (nI t), .int 3, .int (nI m), .int 0], [])) (h' := (G, (vm_up (vm_up I 191 (t) 3) 192 ((nI t).toNatClampNeg) (nI m)), F)) (hs' := []) rfl (vm_b2 rfl (vm_b2 (vm_b2 (vm_hG hR.c192) (vm_in_e (j := t) (n := 6) rfl (by omega) (by omega))) (vm_b2 rfl (vm_b2 rfl rfl)))) ?_
      rw [vm_ix_e (j := t) rfl (by omega)]
      refine vm_J.cnt 150 (fun k => (68, (0, 0), [.ref 152, .int (nI t), .int 3, .int (nI m), .int (nI k)], [])) (fun k => (G, (vm_wq (vm_up (vm_up I 191 t 3) 192 t (nI m)) 193 (fun _ => 0) (150 * t) k), F)) (fun _ => True) rfl (by rw [← vm_wq_0]) trivial (fun k hk pk ik => ?_) (fun pk => ?_)
      · show vm_J _ _ _ (68, (0, 0), [.ref 152, .int (nI t), .int 3, .int (nI m), .int (nI k)], []) (G, (vm_wq (vm_up (vm_up I 191 t 3) 192 t (nI m)) 193 (fun _ => 0) (150 * t) k), F) _ _
        refine vm_J.go vm_q290 (k := 3) (hs := []) (f' := (bif vm_ic .ge (nI k) 150 then 96 else 76, (0, 0), [.ref 152, .int (nI t), .int 3, .int (nI m), .int (nI k)], [])) (h' := (G, (vm_wq (vm_up (vm_up I 191 t 3) 192 t (nI m)) 193 (fun _ => 0) (150 * t) k), F)) (hs' := []) rfl rfl ?_
        refine vm_J.br (fun c3 => ?_) (fun c3 => ?_)
        · have c3 := vm_ge_t (a := k) (b := 150) (by omega) (by omega) c3
          exact (show False by omega).elim
        · have c3 := vm_ge_f (a := k) (b := 150) (by omega) (by omega) c3
          refine vm_J.go vm_q290 (k := 11) (hs := [vm_shR, (0, 900, [])]) (f' := (68, (0, 0), [.ref 152, .int (nI t), .int 3, .int (nI m), .int ((nI k) + 1)], [])) (h' := (G, (vm_up (vm_wq (vm_up (vm_up I 191 t 3) 192 t (nI m)) 193 (fun _ => 0) (150 * t) k) 193 (((150 * (nI t)) + (nI k)).toNatClampNeg) 0), F)) (hs' := []) rfl (vm_b2 rfl (vm_b2 (vm_b2 (vm_hG hR.c152) rfl) (vm_b2 rfl (vm_b2 rfl (vm_b2 rfl (vm_b2 rfl (vm_b2 rfl (vm_b2 rfl (vm_b2 (vm_b2 (vm_hG hR.c193) (vm_in_e (j := (150 * t) + k) (n := 900) (vm_pa (vm_pm (rfl : (150 : Int32) = nI 150) (rfl : (nI t : Int32) = nI t)) (rfl : (nI k : Int32) = nI k)) (by omega) (by omega))) (vm_b2 rfl (vm_b2 rfl rfl))))))))))) ?_
          rw [vm_ix_e (j := (150 * t) + k) (vm_pa (vm_pm (rfl : (150 : Int32) = nI 150) (rfl : (nI t : Int32) = nI t)) (rfl : (nI k : Int32) = nI k)) (by omega), ((vm_pa (rfl : nI k = nI k) (rfl : (1 : Int32) = nI 1)) : (nI k) + 1 = nI (k + 1))]
          rw [show (vm_up (vm_wq (vm_up (vm_up I 191 t 3) 192 t (nI m)) 193 (fun _ => 0) (150 * t) k) 193 (((150 * t) + k)) 0) = (vm_wq (vm_up (vm_up I 191 t 3) 192 t (nI m)) 193 (fun _ => 0) (150 * t) (k + 1)) from by exact vm_wq_s _ 193 (150 * t) k (fun _ => 0)]
          exact ik trivial
      · show vm_J _ _ _ (68, (0, 0), [.ref 152, .int (nI t), .int 3, .int (nI m), .int (nI 150)], []) (G, (vm_wq (vm_up (vm_up I 191 t 3) 192 t (nI m)) 193 (fun _ => 0) (150 * t) 150), F) _ _
        refine vm_J.go vm_q290 (k := 3) (hs := []) (f' := (bif vm_ic .ge (nI 150) 150 then 96 else 76, (0, 0), [.ref 152, .int (nI t), .int 3, .int (nI m), .int (nI 150)], [])) (h' := (G, (vm_wq (vm_up (vm_up I 191 t 3) 192 t (nI m)) 193 (fun _ => 0) (150 * t) 150), F)) (hs' := []) rfl rfl ?_
        refine vm_J.br (fun c4 => ?_) (fun c4 => ?_)
        · have c4 := vm_ge_t (a := 150) (b := 150) (by omega) (by omega) c4
          refine vm_J.go vm_q290 (k := 1) (hs := []) (f' := (97, (0, 0), [.ref 152, .int (nI t), .int 3, .int (nI m), .int (nI 150)], [.int 1])) (h' := (G, (vm_wq (vm_up (vm_up I 191 t 3) 192 t (nI m)) 193 (fun _ => 0) (150 * t) 150), F)) (hs' := []) rfl rfl ?_
          exact vm_J.end vm_q290 (en := (97, .ireturn, 1, [], .null)) rfl rfl vm_rI (Nat.zero_le _) (Nat.zero_le _) rfl
        · have c4 := vm_ge_f (a := 150) (b := 150) (by omega) (by omega) c4
          exact (show False by omega).elim
    · have c2 := vm_ge_f (a := m) (b := 0) (by omega) (by omega) c2
      exact (show False by omega).elim
  · have c1 := vm_le_f (a := m) (b := 150) (by omega) (by omega) c1
    exact (show False by omega).elim
set_option maxHeartbeats 4000000 in
set_option maxRecDepth 20000 in
/-- DitherDeskModel.tape -/
theorem r_tape_g3 {l : Launch} {X : vm_Cx} {G : List vm_Sh} {I : Nat → Nat → Int32} {F : Nat → Nat → UInt32} {t : Nat} {b : Int32} (hR : vm_isR G) (ht : t < 6) (hb : ¬ b ≤ 150) : vm_K l X vm_M290 [.ref 152, .int (nI t), .int 3, .int b] (G, I, F) (some (.int (-2))) (G, I, F) := by
  refine vm_K.mk (by decide) (Nat.le_of_ble_eq_true rfl) ?_
  show vm_J _ _ _ (0, (0, 0), [.ref 152, .int (nI t), .int 3, .int b, .retAddr 0], []) _ _ _
  refine vm_J.go vm_q290 (k := 1) (hs := []) (f' := (1, (0, 0), [.ref 152, .int (nI t), .int 3, .int b, .retAddr 0], [.int (nI t)])) (h' := (G, I, F)) (hs' := []) rfl rfl ?_
  refine vm_J.call vm_q290 (Z := vm_M287) (n := 1) (k := 1) (mi := 287) (pc := 1) (en := (1, .invokestatic 495, 3, [287, 1799, 0], .null)) rfl trivial rfl rfl vm_z287 (av := [.int (nI t)]) (rest := []) (r_isTape_y (c := nI t) (vm_bp6 ht)) rfl (Nat.le_of_ble_eq_true rfl) ⟨Nat.le_of_ble_eq_true rfl, Nat.le_of_ble_eq_true rfl⟩ ⟨Nat.le_of_ble_eq_true rfl, Nat.le_of_ble_eq_true rfl⟩ ?_
  show vm_J _ _ _ (4, (0, 0), [.ref 152, .int (nI t), .int 3, .int b, .retAddr 0], [.int 1]) (G, I, F) _ _
  refine vm_J.go vm_q290 (k := 1) (hs := []) (f' := (bif vm_ic .ne 1 0 then 9 else 7, (0, 0), [.ref 152, .int (nI t), .int 3, .int b, .retAddr 0], [])) (h' := (G, I, F)) (hs' := []) rfl rfl ?_
  refine vm_J.bT (by decide) ?_
  refine vm_J.go vm_q290 (k := 3) (hs := []) (f' := (12, (0, 0), [.ref 152, .int (nI t), .int 3, .int b, .retAddr 0], [.int 3, .int (-1), .int 3])) (h' := (G, I, F)) (hs' := []) rfl rfl ?_
  refine vm_J.call vm_q290 (Z := vm_M168) (n := 3) (k := 1) (mi := 168) (pc := 12) (en := (12, .invokestatic 141, 3, [168, 1302, 0], .null)) rfl trivial rfl rfl vm_z168 (av := [.int 3, .int (-1), .int 3]) (rest := []) (r_isIn_y (v := 3) (a := (-1)) (b := 3) (by decide)) rfl (Nat.le_of_ble_eq_true rfl) ⟨Nat.le_of_ble_eq_true rfl, Nat.le_of_ble_eq_true rfl⟩ ⟨Nat.le_of_ble_eq_true rfl, Nat.le_of_ble_eq_true rfl⟩ ?_
  show vm_J _ _ _ (15, (0, 0), [.ref 152, .int (nI t), .int 3, .int b, .retAddr 0], [.int 1]) (G, I, F) _ _
  refine vm_J.go vm_q290 (k := 1) (hs := []) (f' := (bif vm_ic .eq 1 0 then 29 else 18, (0, 0), [.ref 152, .int (nI t), .int 3, .int b, .retAddr 0], [])) (h' := (G, I, F)) (hs' := []) rfl rfl ?_
  refine vm_J.bF (by decide) ?_
  refine vm_J.go vm_q290 (k := 2) (hs := []) (f' := (bif vm_ic .lt 3 0 then 32 else 22, (0, 0), [.ref 152, .int (nI t), .int 3, .int b, .retAddr 0], [])) (h' := (G, I, F)) (hs' := []) rfl rfl ?_
  refine vm_J.bF (by decide) ?_
  refine vm_J.go vm_q290 (k := 3) (hs := []) (f' := (bif vm_ic .le b 150 then 32 else 29, (0, 0), [.ref 152, .int (nI t), .int 3, .int b, .retAddr 0], [])) (h' := (G, I, F)) (hs' := []) rfl rfl ?_
  refine vm_J.bF (decide_eq_false hb) ?_
  refine vm_J.go vm_q290 (k := 1) (hs := []) (f' := (31, (0, 0), [.ref 152, .int (nI t), .int 3, .int b, .retAddr 0], [.int (-2)])) (h' := (G, I, F)) (hs' := []) rfl rfl ?_
  exact vm_J.end vm_q290 (en := (31, .ireturn, 1, [], .null)) rfl rfl vm_rI (Nat.zero_le _) (Nat.zero_le _) rfl
set_option maxHeartbeats 4000000 in
set_option maxRecDepth 20000 in
/-- DitherDeskModel.tape -/
theorem r_tape_s3 {l : Launch} {X : vm_Cx} {G : List vm_Sh} {I : Nat → Nat → Int32} {F : Nat → Nat → UInt32} {t : Nat} {b : Int32} (hR : vm_isR G) (ht : t < 6) (hb : b < 0) : vm_K l X vm_M290 [.ref 152, .int (nI t), .int 3, .int b] (G, I, F) (some (.int (-14))) (G, I, F) := by
  refine vm_K.mk (by decide) (Nat.le_of_ble_eq_true rfl) ?_
  show vm_J _ _ _ (0, (0, 0), [.ref 152, .int (nI t), .int 3, .int b, .retAddr 0], []) _ _ _
  refine vm_J.go vm_q290 (k := 1) (hs := []) (f' := (1, (0, 0), [.ref 152, .int (nI t), .int 3, .int b, .retAddr 0], [.int (nI t)])) (h' := (G, I, F)) (hs' := []) rfl rfl ?_
  refine vm_J.call vm_q290 (Z := vm_M287) (n := 1) (k := 1) (mi := 287) (pc := 1) (en := (1, .invokestatic 495, 3, [287, 1799, 0], .null)) rfl trivial rfl rfl vm_z287 (av := [.int (nI t)]) (rest := []) (r_isTape_y (c := nI t) (vm_bp6 ht)) rfl (Nat.le_of_ble_eq_true rfl) ⟨Nat.le_of_ble_eq_true rfl, Nat.le_of_ble_eq_true rfl⟩ ⟨Nat.le_of_ble_eq_true rfl, Nat.le_of_ble_eq_true rfl⟩ ?_
  show vm_J _ _ _ (4, (0, 0), [.ref 152, .int (nI t), .int 3, .int b, .retAddr 0], [.int 1]) (G, I, F) _ _
  refine vm_J.go vm_q290 (k := 1) (hs := []) (f' := (bif vm_ic .ne 1 0 then 9 else 7, (0, 0), [.ref 152, .int (nI t), .int 3, .int b, .retAddr 0], [])) (h' := (G, I, F)) (hs' := []) rfl rfl ?_
  refine vm_J.bT (by decide) ?_
  refine vm_J.go vm_q290 (k := 3) (hs := []) (f' := (12, (0, 0), [.ref 152, .int (nI t), .int 3, .int b, .retAddr 0], [.int 3, .int (-1), .int 3])) (h' := (G, I, F)) (hs' := []) rfl rfl ?_
  refine vm_J.call vm_q290 (Z := vm_M168) (n := 3) (k := 1) (mi := 168) (pc := 12) (en := (12, .invokestatic 141, 3, [168, 1302, 0], .null)) rfl trivial rfl rfl vm_z168 (av := [.int 3, .int (-1), .int 3]) (rest := []) (r_isIn_y (v := 3) (a := (-1)) (b := 3) (by decide)) rfl (Nat.le_of_ble_eq_true rfl) ⟨Nat.le_of_ble_eq_true rfl, Nat.le_of_ble_eq_true rfl⟩ ⟨Nat.le_of_ble_eq_true rfl, Nat.le_of_ble_eq_true rfl⟩ ?_
  show vm_J _ _ _ (15, (0, 0), [.ref 152, .int (nI t), .int 3, .int b, .retAddr 0], [.int 1]) (G, I, F) _ _
  refine vm_J.go vm_q290 (k := 1) (hs := []) (f' := (bif vm_ic .eq 1 0 then 29 else 18, (0, 0), [.ref 152, .int (nI t), .int 3, .int b, .retAddr 0], [])) (h' := (G, I, F)) (hs' := []) rfl rfl ?_
  refine vm_J.bF (by decide) ?_
  refine vm_J.go vm_q290 (k := 2) (hs := []) (f' := (bif vm_ic .lt 3 0 then 32 else 22, (0, 0), [.ref 152, .int (nI t), .int 3, .int b, .retAddr 0], [])) (h' := (G, I, F)) (hs' := []) rfl rfl ?_
  refine vm_J.bF (by decide) ?_
  refine vm_J.go vm_q290 (k := 3) (hs := []) (f' := (bif vm_ic .le b 150 then 32 else 29, (0, 0), [.ref 152, .int (nI t), .int 3, .int b, .retAddr 0], [])) (h' := (G, I, F)) (hs' := []) rfl rfl ?_
  refine vm_J.bT (decide_eq_true (vm_lt0_le hb)) ?_
  refine vm_J.go vm_q290 (k := 2) (hs := []) (f' := (bif vm_ic .lt 3 0 then 43 else 36, (0, 0), [.ref 152, .int (nI t), .int 3, .int b, .retAddr 0], [])) (h' := (G, I, F)) (hs' := []) rfl rfl ?_
  refine vm_J.bF (by decide) ?_
  refine vm_J.go vm_q290 (k := 2) (hs := []) (f' := (bif vm_ic .ge b 0 then 43 else 40, (0, 0), [.ref 152, .int (nI t), .int 3, .int b, .retAddr 0], [])) (h' := (G, I, F)) (hs' := []) rfl rfl ?_
  refine vm_J.bF (decide_eq_false (vm_lt_le hb)) ?_
  refine vm_J.go vm_q290 (k := 1) (hs := []) (f' := (42, (0, 0), [.ref 152, .int (nI t), .int 3, .int b, .retAddr 0], [.int (-14)])) (h' := (G, I, F)) (hs' := []) rfl rfl ?_
  exact vm_J.end vm_q290 (en := (42, .ireturn, 1, [], .null)) rfl rfl vm_rI (Nat.zero_le _) (Nat.zero_le _) rfl
set_option maxHeartbeats 4000000 in
set_option maxRecDepth 20000 in
/-- DitherDeskModel.peek -/
theorem r_peek_x {l : Launch} {X : vm_Cx} {G : List vm_Sh} {I : Nat → Nat → Int32} {F : Nat → Nat → UInt32} {q : Int32} {e : Int32} (hR : vm_isR G) (hx : ¬ (0 ≤ q ∧ q ≤ 5)) : vm_K l X vm_M293 [.ref 152, .int q, .int e] (G, I, F) (some (.long (-9223372036854775808))) (G, I, F) := by
  refine vm_K.mk (by decide) (Nat.le_of_ble_eq_true rfl) ?_
  show vm_J _ _ _ (0, (0, 0), [.ref 152, .int q, .int e], []) _ _ _
  refine vm_J.go vm_q293 (k := 1) (hs := []) (f' := (1, (0, 0), [.ref 152, .int q, .int e], [.int q])) (h' := (G, I, F)) (hs' := []) rfl rfl ?_
  refine vm_J.call vm_q293 (Z := vm_M287) (n := 1) (k := 1) (mi := 287) (pc := 1) (en := (1, .invokestatic 495, 3, [287, 1799, 0], .null)) rfl trivial rfl rfl vm_z287 (av := [.int q]) (rest := []) (r_isTape_n (c := q) hx) rfl (Nat.le_of_ble_eq_true rfl) ⟨Nat.le_of_ble_eq_true rfl, Nat.le_of_ble_eq_true rfl⟩ ⟨Nat.le_of_ble_eq_true rfl, Nat.le_of_ble_eq_true rfl⟩ ?_
  show vm_J _ _ _ (4, (0, 0), [.ref 152, .int q, .int e], [.int 0]) (G, I, F) _ _
  refine vm_J.go vm_q293 (k := 1) (hs := []) (f' := (bif vm_ic .eq 0 0 then 32 else 7, (0, 0), [.ref 152, .int q, .int e], [])) (h' := (G, I, F)) (hs' := []) rfl rfl ?_
  refine vm_J.bT (by decide) ?_
  refine vm_J.go vm_q293 (k := 1) (hs := []) (f' := (35, (0, 0), [.ref 152, .int q, .int e], [.long (-9223372036854775808)])) (h' := (G, I, F)) (hs' := []) rfl rfl ?_
  exact vm_J.end vm_q293 (en := (35, .lreturn, 1, [], .null)) rfl rfl vm_rL (Nat.zero_le _) (Nat.zero_le _) rfl
set_option maxHeartbeats 4000000 in
set_option maxRecDepth 20000 in
/-- DitherDeskModel.peek -/
theorem r_peek_e {l : Launch} {X : vm_Cx} {G : List vm_Sh} {I : Nat → Nat → Int32} {F : Nat → Nat → UInt32} {t : Nat} {e : Int32} (hR : vm_isR G) (ht : t < 6) (hso : I 191 t < 0) : vm_K l X vm_M293 [.ref 152, .int (nI t), .int e] (G, I, F) (some (.long (-9223372036854775808))) (G, I, F) := by
  refine vm_K.mk (by decide) (Nat.le_of_ble_eq_true rfl) ?_
  show vm_J _ _ _ (0, (0, 0), [.ref 152, .int (nI t), .int e], []) _ _ _
  refine vm_J.go vm_q293 (k := 1) (hs := []) (f' := (1, (0, 0), [.ref 152, .int (nI t), .int e], [.int (nI t)])) (h' := (G, I, F)) (hs' := []) rfl rfl ?_
  refine vm_J.call vm_q293 (Z := vm_M287) (n := 1) (k := 1) (mi := 287) (pc := 1) (en := (1, .invokestatic 495, 3, [287, 1799, 0], .null)) rfl trivial rfl rfl vm_z287 (av := [.int (nI t)]) (rest := []) (r_isTape_y (c := nI t) (vm_bp6 ht)) rfl (Nat.le_of_ble_eq_true rfl) ⟨Nat.le_of_ble_eq_true rfl, Nat.le_of_ble_eq_true rfl⟩ ⟨Nat.le_of_ble_eq_true rfl, Nat.le_of_ble_eq_true rfl⟩ ?_
  show vm_J _ _ _ (4, (0, 0), [.ref 152, .int (nI t), .int e], [.int 1]) (G, I, F) _ _
  refine vm_J.go vm_q293 (k := 1) (hs := []) (f' := (bif vm_ic .eq 1 0 then 32 else 7, (0, 0), [.ref 152, .int (nI t), .int e], [])) (h' := (G, I, F)) (hs' := []) rfl rfl ?_
  refine vm_J.bF (by decide) ?_
  refine vm_J.go vm_q293 (k := 4) (hs := [vm_shR, (0, 6, [])]) (f' := (13, (0, 0), [.ref 152, .int (nI t), .int e], [.int (I 191 (nI t).toNatClampNeg)])) (h' := (G, I, F)) (hs' := []) rfl (vm_b2 rfl (vm_b2 (vm_b2 (vm_hG hR.c152) rfl) (vm_b2 rfl (vm_b2 (vm_b2 (vm_hG hR.c191) (vm_in_e (j := t) (n := 6) rfl (by omega) (by omega))) rfl)))) ?_
  rw [vm_ix_e (j := t) rfl (by omega)]
  refine vm_J.go vm_q293 (k := 1) (hs := []) (f' := (bif vm_ic .lt (I 191 t) 0 then 32 else 16, (0, 0), [.ref 152, .int (nI t), .int e], [])) (h' := (G, I, F)) (hs' := []) rfl rfl ?_
  refine vm_J.bT (decide_eq_true hso) ?_
  refine vm_J.go vm_q293 (k := 1) (hs := []) (f' := (35, (0, 0), [.ref 152, .int (nI t), .int e], [.long (-9223372036854775808)])) (h' := (G, I, F)) (hs' := []) rfl rfl ?_
  exact vm_J.end vm_q293 (en := (35, .lreturn, 1, [], .null)) rfl rfl vm_rL (Nat.zero_le _) (Nat.zero_le _) rfl
set_option maxHeartbeats 4000000 in
set_option maxRecDepth 20000 in
/-- DitherDeskModel.peek -/
theorem r_peek_p {l : Launch} {X : vm_Cx} {G : List vm_Sh} {I : Nat → Nat → Int32} {F : Nat → Nat → UInt32} {t : Nat} {m : Nat} {e : Int32} (hR : vm_isR G) (ht : t < 6) (hm : I 192 t = nI m) (hm2 : m ≤ 150) (hso : ¬ I 191 t < 0) (he : ¬ (0 ≤ e ∧ e ≤ nI m - 1)) : vm_K l X vm_M293 [.ref 152, .int (nI t), .int e] (G, I, F) (some (.long (-9223372036854775808))) (G, I, F) := by
  refine vm_K.mk (by decide) (Nat.le_of_ble_eq_true rfl) ?_
  show vm_J _ _ _ (0, (0, 0), [.ref 152, .int (nI t), .int e], []) _ _ _
  refine vm_J.go vm_q293 (k := 1) (hs := []) (f' := (1, (0, 0), [.ref 152, .int (nI t), .int e], [.int (nI t)])) (h' := (G, I, F)) (hs' := []) rfl rfl ?_
  refine vm_J.call vm_q293 (Z := vm_M287) (n := 1) (k := 1) (mi := 287) (pc := 1) (en := (1, .invokestatic 495, 3, [287, 1799, 0], .null)) rfl trivial rfl rfl vm_z287 (av := [.int (nI t)]) (rest := []) (r_isTape_y (c := nI t) (vm_bp6 ht)) rfl (Nat.le_of_ble_eq_true rfl) ⟨Nat.le_of_ble_eq_true rfl, Nat.le_of_ble_eq_true rfl⟩ ⟨Nat.le_of_ble_eq_true rfl, Nat.le_of_ble_eq_true rfl⟩ ?_
  show vm_J _ _ _ (4, (0, 0), [.ref 152, .int (nI t), .int e], [.int 1]) (G, I, F) _ _
  refine vm_J.go vm_q293 (k := 1) (hs := []) (f' := (bif vm_ic .eq 1 0 then 32 else 7, (0, 0), [.ref 152, .int (nI t), .int e], [])) (h' := (G, I, F)) (hs' := []) rfl rfl ?_
  refine vm_J.bF (by decide) ?_
  refine vm_J.go vm_q293 (k := 4) (hs := [vm_shR, (0, 6, [])]) (f' := (13, (0, 0), [.ref 152, .int (nI t), .int e], [.int (I 191 (nI t).toNatClampNeg)])) (h' := (G, I, F)) (hs' := []) rfl (vm_b2 rfl (vm_b2 (vm_b2 (vm_hG hR.c152) rfl) (vm_b2 rfl (vm_b2 (vm_b2 (vm_hG hR.c191) (vm_in_e (j := t) (n := 6) rfl (by omega) (by omega))) rfl)))) ?_
  rw [vm_ix_e (j := t) rfl (by omega)]
  refine vm_J.go vm_q293 (k := 1) (hs := []) (f' := (bif vm_ic .lt (I 191 t) 0 then 32 else 16, (0, 0), [.ref 152, .int (nI t), .int e], [])) (h' := (G, I, F)) (hs' := []) rfl rfl ?_
  refine vm_J.bF (decide_eq_false hso) ?_
  refine vm_J.go vm_q293 (k := 6) (hs := [vm_shR, (0, 6, [])]) (f' := (24, (0, 0), [.ref 152, .int (nI t), .int e], [.int (I 192 (nI t).toNatClampNeg), .int 0, .int e])) (h' := (G, I, F)) (hs' := []) rfl (vm_b2 rfl (vm_b2 rfl (vm_b2 rfl (vm_b2 (vm_b2 (vm_hG hR.c152) rfl) (vm_b2 rfl (vm_b2 (vm_b2 (vm_hG hR.c192) (vm_in_e (j := t) (n := 6) rfl (by omega) (by omega))) rfl)))))) ?_
  rw [vm_ix_e (j := t) rfl (by omega)]
  rw [(hm : I 192 t = nI m)]
  refine vm_J.go vm_q293 (k := 2) (hs := []) (f' := (26, (0, 0), [.ref 152, .int (nI t), .int e], [.int ((nI m) - 1), .int 0, .int e])) (h' := (G, I, F)) (hs' := []) rfl rfl ?_
  refine vm_J.call vm_q293 (Z := vm_M168) (n := 3) (k := 1) (mi := 168) (pc := 26) (en := (26, .invokestatic 141, 3, [168, 1302, 0], .null)) rfl trivial rfl rfl vm_z168 (av := [.int e, .int 0, .int ((nI m) - 1)]) (rest := []) (r_isIn_n (v := e) (a := 0) (b := (nI m) - 1) he) rfl (Nat.le_of_ble_eq_true rfl) ⟨Nat.le_of_ble_eq_true rfl, Nat.le_of_ble_eq_true rfl⟩ ⟨Nat.le_of_ble_eq_true rfl, Nat.le_of_ble_eq_true rfl⟩ ?_
  show vm_J _ _ _ (29, (0, 0), [.ref 152, .int (nI t), .int e], [.int 0]) (G, I, F) _ _
  refine vm_J.go vm_q293 (k := 1) (hs := []) (f' := (bif vm_ic .ne 0 0 then 36 else 32, (0, 0), [.ref 152, .int (nI t), .int e], [])) (h' := (G, I, F)) (hs' := []) rfl rfl ?_
  refine vm_J.bF (by decide) ?_
  refine vm_J.go vm_q293 (k := 1) (hs := []) (f' := (35, (0, 0), [.ref 152, .int (nI t), .int e], [.long (-9223372036854775808)])) (h' := (G, I, F)) (hs' := []) rfl rfl ?_
  exact vm_J.end vm_q293 (en := (35, .lreturn, 1, [], .null)) rfl rfl vm_rL (Nat.zero_le _) (Nat.zero_le _) rfl
theorem vm_pl_n {m i : Nat} (hi : i < m) (hm : m ≤ 150) : 0 ≤ nI i ∧ nI i ≤ nI m - 1 := by
  rw [vm_ps (x := nI m) (y := 1) (b := 1) rfl rfl (by omega)]
  exact vm_bpn (m := m - 1) (by omega) rfl (by omega)
set_option maxHeartbeats 4000000 in
set_option maxRecDepth 20000 in
/-- DitherDeskModel.peek -/
theorem r_peek_y {l : Launch} {X : vm_Cx} {G : List vm_Sh} {I : Nat → Nat → Int32} {F : Nat → Nat → UInt32} {t : Nat} {m : Nat} {i : Nat} (hR : vm_isR G) (ht : t < 6) (hm : I 192 t = nI m) (hm2 : m ≤ 150) (hso : ¬ I 191 t < 0) (hi : i < m) : vm_K l X vm_M293 [.ref 152, .int (nI t), .int (nI i)] (G, I, F) (some (.long ((I 193 (150 * t + i)).toInt64))) (G, I, F) := by
  refine vm_K.mk (by decide) (Nat.le_of_ble_eq_true rfl) ?_
  show vm_J _ _ _ (0, (0, 0), [.ref 152, .int (nI t), .int (nI i)], []) _ _ _
  refine vm_J.go vm_q293 (k := 1) (hs := []) (f' := (1, (0, 0), [.ref 152, .int (nI t), .int (nI i)], [.int (nI t)])) (h' := (G, I, F)) (hs' := []) rfl rfl ?_
  refine vm_J.call vm_q293 (Z := vm_M287) (n := 1) (k := 1) (mi := 287) (pc := 1) (en := (1, .invokestatic 495, 3, [287, 1799, 0], .null)) rfl trivial rfl rfl vm_z287 (av := [.int (nI t)]) (rest := []) (r_isTape_y (c := nI t) (vm_bp6 ht)) rfl (Nat.le_of_ble_eq_true rfl) ⟨Nat.le_of_ble_eq_true rfl, Nat.le_of_ble_eq_true rfl⟩ ⟨Nat.le_of_ble_eq_true rfl, Nat.le_of_ble_eq_true rfl⟩ ?_
  show vm_J _ _ _ (4, (0, 0), [.ref 152, .int (nI t), .int (nI i)], [.int 1]) (G, I, F) _ _
  refine vm_J.go vm_q293 (k := 1) (hs := []) (f' := (bif vm_ic .eq 1 0 then 32 else 7, (0, 0), [.ref 152, .int (nI t), .int (nI i)], [])) (h' := (G, I, F)) (hs' := []) rfl rfl ?_
  refine vm_J.bF (by decide) ?_
  refine vm_J.go vm_q293 (k := 4) (hs := [vm_shR, (0, 6, [])]) (f' := (13, (0, 0), [.ref 152, .int (nI t), .int (nI i)], [.int (I 191 (nI t).toNatClampNeg)])) (h' := (G, I, F)) (hs' := []) rfl (vm_b2 rfl (vm_b2 (vm_b2 (vm_hG hR.c152) rfl) (vm_b2 rfl (vm_b2 (vm_b2 (vm_hG hR.c191) (vm_in_e (j := t) (n := 6) rfl (by omega) (by omega))) rfl)))) ?_
  rw [vm_ix_e (j := t) rfl (by omega)]
  refine vm_J.go vm_q293 (k := 1) (hs := []) (f' := (bif vm_ic .lt (I 191 t) 0 then 32 else 16, (0, 0), [.ref 152, .int (nI t), .int (nI i)], [])) (h' := (G, I, F)) (hs' := []) rfl rfl ?_
  refine vm_J.bF (decide_eq_false hso) ?_
  refine vm_J.go vm_q293 (k := 6) (hs := [vm_shR, (0, 6, [])]) (f' := (24, (0, 0), [.ref 152, .int (nI t), .int (nI i)], [.int (I 192 (nI t).toNatClampNeg), .int 0, .int (nI i)])) (h' := (G, I, F)) (hs' := []) rfl (vm_b2 rfl (vm_b2 rfl (vm_b2 rfl (vm_b2 (vm_b2 (vm_hG hR.c152) rfl) (vm_b2 rfl (vm_b2 (vm_b2 (vm_hG hR.c192) (vm_in_e (j := t) (n := 6) rfl (by omega) (by omega))) rfl)))))) ?_
  rw [vm_ix_e (j := t) rfl (by omega)]
  rw [(hm : I 192 t = nI m)]
  refine vm_J.go vm_q293 (k := 2) (hs := []) (f' := (26, (0, 0), [.ref 152, .int (nI t), .int (nI i)], [.int ((nI m) - 1), .int 0, .int (nI i)])) (h' := (G, I, F)) (hs' := []) rfl rfl ?_
  refine vm_J.call vm_q293 (Z := vm_M168) (n := 3) (k := 1) (mi := 168) (pc := 26) (en := (26, .invokestatic 141, 3, [168, 1302, 0], .null)) rfl trivial rfl rfl vm_z168 (av := [.int (nI i), .int 0, .int ((nI m) - 1)]) (rest := []) (r_isIn_y (v := nI i) (a := 0) (b := (nI m) - 1) (vm_pl_n hi hm2)) rfl (Nat.le_of_ble_eq_true rfl) ⟨Nat.le_of_ble_eq_true rfl, Nat.le_of_ble_eq_true rfl⟩ ⟨Nat.le_of_ble_eq_true rfl, Nat.le_of_ble_eq_true rfl⟩ ?_
  show vm_J _ _ _ (29, (0, 0), [.ref 152, .int (nI t), .int (nI i)], [.int 1]) (G, I, F) _ _
  refine vm_J.go vm_q293 (k := 1) (hs := []) (f' := (bif vm_ic .ne 1 0 then 36 else 32, (0, 0), [.ref 152, .int (nI t), .int (nI i)], [])) (h' := (G, I, F)) (hs' := []) rfl rfl ?_
  refine vm_J.bT (by decide) ?_
  refine vm_J.go vm_q293 (k := 9) (hs := [vm_shR, (0, 900, [])]) (f' := (49, (0, 0), [.ref 152, .int (nI t), .int (nI i)], [.long ((I 193 ((150 * (nI t)) + (nI i)).toNatClampNeg).toInt64)])) (h' := (G, I, F)) (hs' := []) rfl (vm_b2 rfl (vm_b2 (vm_b2 (vm_hG hR.c152) rfl) (vm_b2 rfl (vm_b2 rfl (vm_b2 rfl (vm_b2 rfl (vm_b2 rfl (vm_b2 (vm_b2 (vm_hG hR.c193) (vm_in_e (j := (150 * t) + i) (n := 900) (vm_pa (vm_pm (rfl : (150 : Int32) = nI 150) (rfl : (nI t : Int32) = nI t)) (rfl : (nI i : Int32) = nI i)) (by omega) (by omega))) (vm_b2 rfl rfl))))))))) ?_
  rw [vm_ix_e (j := (150 * t) + i) (vm_pa (vm_pm (rfl : (150 : Int32) = nI 150) (rfl : (nI t : Int32) = nI t)) (rfl : (nI i : Int32) = nI i)) (by omega)]
  exact vm_J.end vm_q293 (en := (49, .lreturn, 1, [], .null)) rfl rfl vm_rL (Nat.zero_le _) (Nat.zero_le _) rfl
set_option maxHeartbeats 4000000 in
set_option maxRecDepth 20000 in
/-- DitherDeskModel.item -/
theorem r_item_x {l : Launch} {X : vm_Cx} {G : List vm_Sh} {I : Nat → Nat → Int32} {F : Nat → Nat → UInt32} {q : Int32} {e : Int32} {v : Int64} (hR : vm_isR G) (hx : ¬ (0 ≤ q ∧ q ≤ 5)) : vm_K l X vm_M292 [.ref 152, .int q, .int e, .long v] (G, I, F) (some (.int (-1))) (G, I, F) := by
  refine vm_K.mk (by decide) (Nat.le_of_ble_eq_true rfl) ?_
  show vm_J _ _ _ (0, (0, 0), [.ref 152, .int q, .int e, .long v, .retAddr 0], []) _ _ _
  refine vm_J.go vm_q292 (k := 1) (hs := []) (f' := (1, (0, 0), [.ref 152, .int q, .int e, .long v, .retAddr 0], [.int q])) (h' := (G, I, F)) (hs' := []) rfl rfl ?_
  refine vm_J.call vm_q292 (Z := vm_M287) (n := 1) (k := 1) (mi := 287) (pc := 1) (en := (1, .invokestatic 495, 3, [287, 1799, 0], .null)) rfl trivial rfl rfl vm_z287 (av := [.int q]) (rest := []) (r_isTape_n (c := q) hx) rfl (Nat.le_of_ble_eq_true rfl) ⟨Nat.le_of_ble_eq_true rfl, Nat.le_of_ble_eq_true rfl⟩ ⟨Nat.le_of_ble_eq_true rfl, Nat.le_of_ble_eq_true rfl⟩ ?_
  show vm_J _ _ _ (4, (0, 0), [.ref 152, .int q, .int e, .long v, .retAddr 0], [.int 0]) (G, I, F) _ _
  refine vm_J.go vm_q292 (k := 1) (hs := []) (f' := (bif vm_ic .ne 0 0 then 9 else 7, (0, 0), [.ref 152, .int q, .int e, .long v, .retAddr 0], [])) (h' := (G, I, F)) (hs' := []) rfl rfl ?_
  refine vm_J.bF (by decide) ?_
  refine vm_J.go vm_q292 (k := 1) (hs := []) (f' := (8, (0, 0), [.ref 152, .int q, .int e, .long v, .retAddr 0], [.int (-1)])) (h' := (G, I, F)) (hs' := []) rfl rfl ?_
  exact vm_J.end vm_q292 (en := (8, .ireturn, 1, [], .null)) rfl rfl vm_rI (Nat.zero_le _) (Nat.zero_le _) rfl
set_option maxHeartbeats 4000000 in
set_option maxRecDepth 20000 in
/-- DitherDeskModel.item -/
theorem r_item_e {l : Launch} {X : vm_Cx} {G : List vm_Sh} {I : Nat → Nat → Int32} {F : Nat → Nat → UInt32} {t : Nat} {e : Int32} {v : Int64} (hR : vm_isR G) (ht : t < 6) (hso : I 191 t < 0) : vm_K l X vm_M292 [.ref 152, .int (nI t), .int e, .long v] (G, I, F) (some (.int (-11))) (G, I, F) := by
  refine vm_K.mk (by decide) (Nat.le_of_ble_eq_true rfl) ?_
  show vm_J _ _ _ (0, (0, 0), [.ref 152, .int (nI t), .int e, .long v, .retAddr 0], []) _ _ _
  refine vm_J.go vm_q292 (k := 1) (hs := []) (f' := (1, (0, 0), [.ref 152, .int (nI t), .int e, .long v, .retAddr 0], [.int (nI t)])) (h' := (G, I, F)) (hs' := []) rfl rfl ?_
  refine vm_J.call vm_q292 (Z := vm_M287) (n := 1) (k := 1) (mi := 287) (pc := 1) (en := (1, .invokestatic 495, 3, [287, 1799, 0], .null)) rfl trivial rfl rfl vm_z287 (av := [.int (nI t)]) (rest := []) (r_isTape_y (c := nI t) (vm_bp6 ht)) rfl (Nat.le_of_ble_eq_true rfl) ⟨Nat.le_of_ble_eq_true rfl, Nat.le_of_ble_eq_true rfl⟩ ⟨Nat.le_of_ble_eq_true rfl, Nat.le_of_ble_eq_true rfl⟩ ?_
  show vm_J _ _ _ (4, (0, 0), [.ref 152, .int (nI t), .int e, .long v, .retAddr 0], [.int 1]) (G, I, F) _ _
  refine vm_J.go vm_q292 (k := 1) (hs := []) (f' := (bif vm_ic .ne 1 0 then 9 else 7, (0, 0), [.ref 152, .int (nI t), .int e, .long v, .retAddr 0], [])) (h' := (G, I, F)) (hs' := []) rfl rfl ?_
  refine vm_J.bT (by decide) ?_
  refine vm_J.go vm_q292 (k := 4) (hs := [vm_shR, (0, 6, [])]) (f' := (15, (0, 0), [.ref 152, .int (nI t), .int e, .long v, .retAddr 0], [.int (I 191 (nI t).toNatClampNeg)])) (h' := (G, I, F)) (hs' := []) rfl (vm_b2 rfl (vm_b2 (vm_b2 (vm_hG hR.c152) rfl) (vm_b2 rfl (vm_b2 (vm_b2 (vm_hG hR.c191) (vm_in_e (j := t) (n := 6) rfl (by omega) (by omega))) rfl)))) ?_
  rw [vm_ix_e (j := t) rfl (by omega)]
  refine vm_J.go vm_q292 (k := 1) (hs := []) (f' := (bif vm_ic .ge (I 191 t) 0 then 21 else 18, (0, 0), [.ref 152, .int (nI t), .int e, .long v, .retAddr 0], [])) (h' := (G, I, F)) (hs' := []) rfl rfl ?_
  refine vm_J.bF (decide_eq_false (vm_lt_le hso)) ?_
  refine vm_J.go vm_q292 (k := 1) (hs := []) (f' := (20, (0, 0), [.ref 152, .int (nI t), .int e, .long v, .retAddr 0], [.int (-11)])) (h' := (G, I, F)) (hs' := []) rfl rfl ?_
  exact vm_J.end vm_q292 (en := (20, .ireturn, 1, [], .null)) rfl rfl vm_rI (Nat.zero_le _) (Nat.zero_le _) rfl
set_option maxHeartbeats 4000000 in
set_option maxRecDepth 20000 in
/-- DitherDeskModel.item -/
theorem r_item_p {l : Launch} {X : vm_Cx} {G : List vm_Sh} {I : Nat → Nat → Int32} {F : Nat → Nat → UInt32} {t : Nat} {m : Nat} {e : Int32} {v : Int64} (hR : vm_isR G) (ht : t < 6) (hm : I 192 t = nI m) (hm2 : m ≤ 150) (hso : ¬ I 191 t < 0) (he : ¬ (0 ≤ e ∧ e ≤ nI m - 1)) : vm_K l X vm_M292 [.ref 152, .int (nI t), .int e, .long v] (G, I, F) (some (.int (-13))) (G, I, F) := by
  refine vm_K.mk (by decide) (Nat.le_of_ble_eq_true rfl) ?_
  show vm_J _ _ _ (0, (0, 0), [.ref 152, .int (nI t), .int e, .long v, .retAddr 0], []) _ _ _
  refine vm_J.go vm_q292 (k := 1) (hs := []) (f' := (1, (0, 0), [.ref 152, .int (nI t), .int e, .long v, .retAddr 0], [.int (nI t)])) (h' := (G, I, F)) (hs' := []) rfl rfl ?_
  refine vm_J.call vm_q292 (Z := vm_M287) (n := 1) (k := 1) (mi := 287) (pc := 1) (en := (1, .invokestatic 495, 3, [287, 1799, 0], .null)) rfl trivial rfl rfl vm_z287 (av := [.int (nI t)]) (rest := []) (r_isTape_y (c := nI t) (vm_bp6 ht)) rfl (Nat.le_of_ble_eq_true rfl) ⟨Nat.le_of_ble_eq_true rfl, Nat.le_of_ble_eq_true rfl⟩ ⟨Nat.le_of_ble_eq_true rfl, Nat.le_of_ble_eq_true rfl⟩ ?_
  show vm_J _ _ _ (4, (0, 0), [.ref 152, .int (nI t), .int e, .long v, .retAddr 0], [.int 1]) (G, I, F) _ _
  refine vm_J.go vm_q292 (k := 1) (hs := []) (f' := (bif vm_ic .ne 1 0 then 9 else 7, (0, 0), [.ref 152, .int (nI t), .int e, .long v, .retAddr 0], [])) (h' := (G, I, F)) (hs' := []) rfl rfl ?_
  refine vm_J.bT (by decide) ?_
  refine vm_J.go vm_q292 (k := 4) (hs := [vm_shR, (0, 6, [])]) (f' := (15, (0, 0), [.ref 152, .int (nI t), .int e, .long v, .retAddr 0], [.int (I 191 (nI t).toNatClampNeg)])) (h' := (G, I, F)) (hs' := []) rfl (vm_b2 rfl (vm_b2 (vm_b2 (vm_hG hR.c152) rfl) (vm_b2 rfl (vm_b2 (vm_b2 (vm_hG hR.c191) (vm_in_e (j := t) (n := 6) rfl (by omega) (by omega))) rfl)))) ?_
  rw [vm_ix_e (j := t) rfl (by omega)]
  refine vm_J.go vm_q292 (k := 1) (hs := []) (f' := (bif vm_ic .ge (I 191 t) 0 then 21 else 18, (0, 0), [.ref 152, .int (nI t), .int e, .long v, .retAddr 0], [])) (h' := (G, I, F)) (hs' := []) rfl rfl ?_
  refine vm_J.bT (decide_eq_true (vm_nlt_le hso)) ?_
  refine vm_J.go vm_q292 (k := 6) (hs := [vm_shR, (0, 6, [])]) (f' := (29, (0, 0), [.ref 152, .int (nI t), .int e, .long v, .retAddr 0], [.int (I 192 (nI t).toNatClampNeg), .int 0, .int e])) (h' := (G, I, F)) (hs' := []) rfl (vm_b2 rfl (vm_b2 rfl (vm_b2 rfl (vm_b2 (vm_b2 (vm_hG hR.c152) rfl) (vm_b2 rfl (vm_b2 (vm_b2 (vm_hG hR.c192) (vm_in_e (j := t) (n := 6) rfl (by omega) (by omega))) rfl)))))) ?_
  rw [vm_ix_e (j := t) rfl (by omega)]
  rw [(hm : I 192 t = nI m)]
  refine vm_J.go vm_q292 (k := 2) (hs := []) (f' := (31, (0, 0), [.ref 152, .int (nI t), .int e, .long v, .retAddr 0], [.int ((nI m) - 1), .int 0, .int e])) (h' := (G, I, F)) (hs' := []) rfl rfl ?_
  refine vm_J.call vm_q292 (Z := vm_M168) (n := 3) (k := 1) (mi := 168) (pc := 31) (en := (31, .invokestatic 141, 3, [168, 1302, 0], .null)) rfl trivial rfl rfl vm_z168 (av := [.int e, .int 0, .int ((nI m) - 1)]) (rest := []) (r_isIn_n (v := e) (a := 0) (b := (nI m) - 1) he) rfl (Nat.le_of_ble_eq_true rfl) ⟨Nat.le_of_ble_eq_true rfl, Nat.le_of_ble_eq_true rfl⟩ ⟨Nat.le_of_ble_eq_true rfl, Nat.le_of_ble_eq_true rfl⟩ ?_
  show vm_J _ _ _ (34, (0, 0), [.ref 152, .int (nI t), .int e, .long v, .retAddr 0], [.int 0]) (G, I, F) _ _
  refine vm_J.go vm_q292 (k := 1) (hs := []) (f' := (bif vm_ic .ne 0 0 then 40 else 37, (0, 0), [.ref 152, .int (nI t), .int e, .long v, .retAddr 0], [])) (h' := (G, I, F)) (hs' := []) rfl rfl ?_
  refine vm_J.bF (by decide) ?_
  refine vm_J.go vm_q292 (k := 1) (hs := []) (f' := (39, (0, 0), [.ref 152, .int (nI t), .int e, .long v, .retAddr 0], [.int (-13)])) (h' := (G, I, F)) (hs' := []) rfl rfl ?_
  exact vm_J.end vm_q292 (en := (39, .ireturn, 1, [], .null)) rfl rfl vm_rI (Nat.zero_le _) (Nat.zero_le _) rfl
set_option maxHeartbeats 4000000 in
set_option maxRecDepth 20000 in
/-- DitherDeskModel.item -/
theorem r_item_0 {l : Launch} {X : vm_Cx} {G : List vm_Sh} {I : Nat → Nat → Int32} {F : Nat → Nat → UInt32} {t : Nat} {m : Nat} {i : Nat} {v : Int64} (hR : vm_isR G) (ht : t < 6) (hm : I 192 t = nI m) (hm2 : m ≤ 150) (hso : I 191 t = 0) (hi : i < m) : vm_K l X vm_M292 [.ref 152, .int (nI t), .int (nI i), .long v] (G, I, F) (some (.int 1)) (G, (vm_up I 193 (150 * t + i) v.toInt32.toInt8.toInt32), F) := by
  refine vm_K.mk (by decide) (Nat.le_of_ble_eq_true rfl) ?_
  show vm_J _ _ _ (0, (0, 0), [.ref 152, .int (nI t), .int (nI i), .long v, .retAddr 0], []) _ _ _
  refine vm_J.go vm_q292 (k := 1) (hs := []) (f' := (1, (0, 0), [.ref 152, .int (nI t), .int (nI i), .long v, .retAddr 0], [.int (nI t)])) (h' := (G, I, F)) (hs' := []) rfl rfl ?_
  refine vm_J.call vm_q292 (Z := vm_M287) (n := 1) (k := 1) (mi := 287) (pc := 1) (en := (1, .invokestatic 495, 3, [287, 1799, 0], .null)) rfl trivial rfl rfl vm_z287 (av := [.int (nI t)]) (rest := []) (r_isTape_y (c := nI t) (vm_bp6 ht)) rfl (Nat.le_of_ble_eq_true rfl) ⟨Nat.le_of_ble_eq_true rfl, Nat.le_of_ble_eq_true rfl⟩ ⟨Nat.le_of_ble_eq_true rfl, Nat.le_of_ble_eq_true rfl⟩ ?_
  show vm_J _ _ _ (4, (0, 0), [.ref 152, .int (nI t), .int (nI i), .long v, .retAddr 0], [.int 1]) (G, I, F) _ _
  refine vm_J.go vm_q292 (k := 1) (hs := []) (f' := (bif vm_ic .ne 1 0 then 9 else 7, (0, 0), [.ref 152, .int (nI t), .int (nI i), .long v, .retAddr 0], [])) (h' := (G, I, F)) (hs' := []) rfl rfl ?_
  refine vm_J.bT (by decide) ?_
  refine vm_J.go vm_q292 (k := 4) (hs := [vm_shR, (0, 6, [])]) (f' := (15, (0, 0), [.ref 152, .int (nI t), .int (nI i), .long v, .retAddr 0], [.int (I 191 (nI t).toNatClampNeg)])) (h' := (G, I, F)) (hs' := []) rfl (vm_b2 rfl (vm_b2 (vm_b2 (vm_hG hR.c152) rfl) (vm_b2 rfl (vm_b2 (vm_b2 (vm_hG hR.c191) (vm_in_e (j := t) (n := 6) rfl (by omega) (by omega))) rfl)))) ?_
  rw [vm_ix_e (j := t) rfl (by omega)]
  rw [(hso : I 191 t = 0)]
  refine vm_J.go vm_q292 (k := 1) (hs := []) (f' := (bif vm_ic .ge 0 0 then 21 else 18, (0, 0), [.ref 152, .int (nI t), .int (nI i), .long v, .retAddr 0], [])) (h' := (G, I, F)) (hs' := []) rfl rfl ?_
  refine vm_J.bT (by decide) ?_
  refine vm_J.go vm_q292 (k := 6) (hs := [vm_shR, (0, 6, [])]) (f' := (29, (0, 0), [.ref 152, .int (nI t), .int (nI i), .long v, .retAddr 0], [.int (I 192 (nI t).toNatClampNeg), .int 0, .int (nI i)])) (h' := (G, I, F)) (hs' := []) rfl (vm_b2 rfl (vm_b2 rfl (vm_b2 rfl (vm_b2 (vm_b2 (vm_hG hR.c152) rfl) (vm_b2 rfl (vm_b2 (vm_b2 (vm_hG hR.c192) (vm_in_e (j := t) (n := 6) rfl (by omega) (by omega))) rfl)))))) ?_
  rw [vm_ix_e (j := t) rfl (by omega)]
  rw [(hm : I 192 t = nI m)]
  refine vm_J.go vm_q292 (k := 2) (hs := []) (f' := (31, (0, 0), [.ref 152, .int (nI t), .int (nI i), .long v, .retAddr 0], [.int ((nI m) - 1), .int 0, .int (nI i)])) (h' := (G, I, F)) (hs' := []) rfl rfl ?_
  refine vm_J.call vm_q292 (Z := vm_M168) (n := 3) (k := 1) (mi := 168) (pc := 31) (en := (31, .invokestatic 141, 3, [168, 1302, 0], .null)) rfl trivial rfl rfl vm_z168 (av := [.int (nI i), .int 0, .int ((nI m) - 1)]) (rest := []) (r_isIn_y (v := nI i) (a := 0) (b := (nI m) - 1) (vm_pl_n hi hm2)) rfl (Nat.le_of_ble_eq_true rfl) ⟨Nat.le_of_ble_eq_true rfl, Nat.le_of_ble_eq_true rfl⟩ ⟨Nat.le_of_ble_eq_true rfl, Nat.le_of_ble_eq_true rfl⟩ ?_
  show vm_J _ _ _ (34, (0, 0), [.ref 152, .int (nI t), .int (nI i), .long v, .retAddr 0], [.int 1]) (G, I, F) _ _
  refine vm_J.go vm_q292 (k := 1) (hs := []) (f' := (bif vm_ic .ne 1 0 then 40 else 37, (0, 0), [.ref 152, .int (nI t), .int (nI i), .long v, .retAddr 0], [])) (h' := (G, I, F)) (hs' := []) rfl rfl ?_
  refine vm_J.bT (by decide) ?_
  refine vm_J.go vm_q292 (k := 11) (hs := [vm_shR, vm_shR, (0, 6, [])]) (f' := (57, (0, 0), [.ref 152, .int (nI t), .int (nI i), .long v, .retAddr 0], [.int (I 191 (nI t).toNatClampNeg), .int ((150 * (nI t)) + (nI i)), .ref 193])) (h' := (G, I, F)) (hs' := []) rfl (vm_b2 rfl (vm_b2 (vm_b2 (vm_hG hR.c152) rfl) (vm_b2 rfl (vm_b2 rfl (vm_b2 rfl (vm_b2 rfl (vm_b2 rfl (vm_b2 rfl (vm_b2 (vm_b2 (vm_hG hR.c152) rfl) (vm_b2 rfl (vm_b2 (vm_b2 (vm_hG hR.c191) (vm_in_e (j := t) (n := 6) rfl (by omega) (by omega))) rfl))))))))))) ?_
  rw [vm_ix_e (j := t) rfl (by omega), ((vm_pa (vm_pm (rfl : (150 : Int32) = nI 150) (rfl : (nI t : Int32) = nI t)) (rfl : (nI i : Int32) = nI i)) : (150 * (nI t)) + (nI i) = nI ((150 * t) + i))]
  rw [(hso : I 191 t = 0)]
  refine vm_J.go vm_q292 (k := 1) (hs := []) (f' := (58, (0, 0), [.ref 152, .int (nI t), .int (nI i), .long v, .retAddr 0], [.long v, .int 0, .int (nI ((150 * t) + i)), .ref 193])) (h' := (G, I, F)) (hs' := []) rfl rfl ?_
  refine vm_J.call vm_q292 (Z := vm_M291) (n := 2) (k := 1) (mi := 291) (pc := 58) (en := (58, .invokestatic 498, 3, [291, 1814, 0], .null)) rfl trivial rfl rfl vm_z291 (av := [.int 0, .long v]) (rest := [.int (nI ((150 * t) + i)), .ref 193]) (r_lowest_0 (v := v)) rfl (Nat.le_of_ble_eq_true rfl) ⟨Nat.le_of_ble_eq_true rfl, Nat.le_of_ble_eq_true rfl⟩ ⟨Nat.le_of_ble_eq_true rfl, Nat.le_of_ble_eq_true rfl⟩ ?_
  show vm_J _ _ _ (61, (0, 0), [.ref 152, .int (nI t), .int (nI i), .long v, .retAddr 0], [.int v.toInt32.toInt8.toInt32, .int (nI ((150 * t) + i)), .ref 193]) (G, I, F) _ _
  refine vm_J.go vm_q292 (k := 2) (hs := [(0, 900, [])]) (f' := (63, (0, 0), [.ref 152, .int (nI t), .int (nI i), .long v, .retAddr 0], [.int 1])) (h' := (G, (vm_up I 193 ((nI ((150 * t) + i)).toNatClampNeg) v.toInt32.toInt8.toInt32), F)) (hs' := []) rfl (vm_b2 (vm_b2 (vm_hG hR.c193) (vm_in_e (j := (150 * t) + i) (n := 900) rfl (by omega) (by omega))) (vm_b2 rfl rfl)) ?_
  rw [vm_ix_e (j := (150 * t) + i) rfl (by omega)]
  exact vm_J.end vm_q292 (en := (63, .ireturn, 1, [], .null)) rfl rfl vm_rI (Nat.zero_le _) (Nat.zero_le _) rfl
set_option maxHeartbeats 4000000 in
set_option maxRecDepth 20000 in
/-- DitherDeskModel.item -/
theorem r_item_1 {l : Launch} {X : vm_Cx} {G : List vm_Sh} {I : Nat → Nat → Int32} {F : Nat → Nat → UInt32} {t : Nat} {m : Nat} {i : Nat} {v : Int64} (hR : vm_isR G) (ht : t < 6) (hm : I 192 t = nI m) (hm2 : m ≤ 150) (hso : I 191 t = 1) (hi : i < m) : vm_K l X vm_M292 [.ref 152, .int (nI t), .int (nI i), .long v] (G, I, F) (some (.int 1)) (G, (vm_up I 193 (150 * t + i) v.toInt32.toInt16.toInt32), F) := by
  refine vm_K.mk (by decide) (Nat.le_of_ble_eq_true rfl) ?_
  show vm_J _ _ _ (0, (0, 0), [.ref 152, .int (nI t), .int (nI i), .long v, .retAddr 0], []) _ _ _
  refine vm_J.go vm_q292 (k := 1) (hs := []) (f' := (1, (0, 0), [.ref 152, .int (nI t), .int (nI i), .long v, .retAddr 0], [.int (nI t)])) (h' := (G, I, F)) (hs' := []) rfl rfl ?_
  refine vm_J.call vm_q292 (Z := vm_M287) (n := 1) (k := 1) (mi := 287) (pc := 1) (en := (1, .invokestatic 495, 3, [287, 1799, 0], .null)) rfl trivial rfl rfl vm_z287 (av := [.int (nI t)]) (rest := []) (r_isTape_y (c := nI t) (vm_bp6 ht)) rfl (Nat.le_of_ble_eq_true rfl) ⟨Nat.le_of_ble_eq_true rfl, Nat.le_of_ble_eq_true rfl⟩ ⟨Nat.le_of_ble_eq_true rfl, Nat.le_of_ble_eq_true rfl⟩ ?_
  show vm_J _ _ _ (4, (0, 0), [.ref 152, .int (nI t), .int (nI i), .long v, .retAddr 0], [.int 1]) (G, I, F) _ _
  refine vm_J.go vm_q292 (k := 1) (hs := []) (f' := (bif vm_ic .ne 1 0 then 9 else 7, (0, 0), [.ref 152, .int (nI t), .int (nI i), .long v, .retAddr 0], [])) (h' := (G, I, F)) (hs' := []) rfl rfl ?_
  refine vm_J.bT (by decide) ?_
  refine vm_J.go vm_q292 (k := 4) (hs := [vm_shR, (0, 6, [])]) (f' := (15, (0, 0), [.ref 152, .int (nI t), .int (nI i), .long v, .retAddr 0], [.int (I 191 (nI t).toNatClampNeg)])) (h' := (G, I, F)) (hs' := []) rfl (vm_b2 rfl (vm_b2 (vm_b2 (vm_hG hR.c152) rfl) (vm_b2 rfl (vm_b2 (vm_b2 (vm_hG hR.c191) (vm_in_e (j := t) (n := 6) rfl (by omega) (by omega))) rfl)))) ?_
  rw [vm_ix_e (j := t) rfl (by omega)]
  rw [(hso : I 191 t = 1)]
  refine vm_J.go vm_q292 (k := 1) (hs := []) (f' := (bif vm_ic .ge 1 0 then 21 else 18, (0, 0), [.ref 152, .int (nI t), .int (nI i), .long v, .retAddr 0], [])) (h' := (G, I, F)) (hs' := []) rfl rfl ?_
  refine vm_J.bT (by decide) ?_
  refine vm_J.go vm_q292 (k := 6) (hs := [vm_shR, (0, 6, [])]) (f' := (29, (0, 0), [.ref 152, .int (nI t), .int (nI i), .long v, .retAddr 0], [.int (I 192 (nI t).toNatClampNeg), .int 0, .int (nI i)])) (h' := (G, I, F)) (hs' := []) rfl (vm_b2 rfl (vm_b2 rfl (vm_b2 rfl (vm_b2 (vm_b2 (vm_hG hR.c152) rfl) (vm_b2 rfl (vm_b2 (vm_b2 (vm_hG hR.c192) (vm_in_e (j := t) (n := 6) rfl (by omega) (by omega))) rfl)))))) ?_
  rw [vm_ix_e (j := t) rfl (by omega)]
  rw [(hm : I 192 t = nI m)]
  refine vm_J.go vm_q292 (k := 2) (hs := []) (f' := (31, (0, 0), [.ref 152, .int (nI t), .int (nI i), .long v, .retAddr 0], [.int ((nI m) - 1), .int 0, .int (nI i)])) (h' := (G, I, F)) (hs' := []) rfl rfl ?_
  refine vm_J.call vm_q292 (Z := vm_M168) (n := 3) (k := 1) (mi := 168) (pc := 31) (en := (31, .invokestatic 141, 3, [168, 1302, 0], .null)) rfl trivial rfl rfl vm_z168 (av := [.int (nI i), .int 0, .int ((nI m) - 1)]) (rest := []) (r_isIn_y (v := nI i) (a := 0) (b := (nI m) - 1) (vm_pl_n hi hm2)) rfl (Nat.le_of_ble_eq_true rfl) ⟨Nat.le_of_ble_eq_true rfl, Nat.le_of_ble_eq_true rfl⟩ ⟨Nat.le_of_ble_eq_true rfl, Nat.le_of_ble_eq_true rfl⟩ ?_
  show vm_J _ _ _ (34, (0, 0), [.ref 152, .int (nI t), .int (nI i), .long v, .retAddr 0], [.int 1]) (G, I, F) _ _
  refine vm_J.go vm_q292 (k := 1) (hs := []) (f' := (bif vm_ic .ne 1 0 then 40 else 37, (0, 0), [.ref 152, .int (nI t), .int (nI i), .long v, .retAddr 0], [])) (h' := (G, I, F)) (hs' := []) rfl rfl ?_
  refine vm_J.bT (by decide) ?_
  refine vm_J.go vm_q292 (k := 11) (hs := [vm_shR, vm_shR, (0, 6, [])]) (f' := (57, (0, 0), [.ref 152, .int (nI t), .int (nI i), .long v, .retAddr 0], [.int (I 191 (nI t).toNatClampNeg), .int ((150 * (nI t)) + (nI i)), .ref 193])) (h' := (G, I, F)) (hs' := []) rfl (vm_b2 rfl (vm_b2 (vm_b2 (vm_hG hR.c152) rfl) (vm_b2 rfl (vm_b2 rfl (vm_b2 rfl (vm_b2 rfl (vm_b2 rfl (vm_b2 rfl (vm_b2 (vm_b2 (vm_hG hR.c152) rfl) (vm_b2 rfl (vm_b2 (vm_b2 (vm_hG hR.c191) (vm_in_e (j := t) (n := 6) rfl (by omega) (by omega))) rfl))))))))))) ?_
  rw [vm_ix_e (j := t) rfl (by omega), ((vm_pa (vm_pm (rfl : (150 : Int32) = nI 150) (rfl : (nI t : Int32) = nI t)) (rfl : (nI i : Int32) = nI i)) : (150 * (nI t)) + (nI i) = nI ((150 * t) + i))]
  rw [(hso : I 191 t = 1)]
  refine vm_J.go vm_q292 (k := 1) (hs := []) (f' := (58, (0, 0), [.ref 152, .int (nI t), .int (nI i), .long v, .retAddr 0], [.long v, .int 1, .int (nI ((150 * t) + i)), .ref 193])) (h' := (G, I, F)) (hs' := []) rfl rfl ?_
  refine vm_J.call vm_q292 (Z := vm_M291) (n := 2) (k := 1) (mi := 291) (pc := 58) (en := (58, .invokestatic 498, 3, [291, 1814, 0], .null)) rfl trivial rfl rfl vm_z291 (av := [.int 1, .long v]) (rest := [.int (nI ((150 * t) + i)), .ref 193]) (r_lowest_1 (v := v)) rfl (Nat.le_of_ble_eq_true rfl) ⟨Nat.le_of_ble_eq_true rfl, Nat.le_of_ble_eq_true rfl⟩ ⟨Nat.le_of_ble_eq_true rfl, Nat.le_of_ble_eq_true rfl⟩ ?_
  show vm_J _ _ _ (61, (0, 0), [.ref 152, .int (nI t), .int (nI i), .long v, .retAddr 0], [.int v.toInt32.toInt16.toInt32, .int (nI ((150 * t) + i)), .ref 193]) (G, I, F) _ _
  refine vm_J.go vm_q292 (k := 2) (hs := [(0, 900, [])]) (f' := (63, (0, 0), [.ref 152, .int (nI t), .int (nI i), .long v, .retAddr 0], [.int 1])) (h' := (G, (vm_up I 193 ((nI ((150 * t) + i)).toNatClampNeg) v.toInt32.toInt16.toInt32), F)) (hs' := []) rfl (vm_b2 (vm_b2 (vm_hG hR.c193) (vm_in_e (j := (150 * t) + i) (n := 900) rfl (by omega) (by omega))) (vm_b2 rfl rfl)) ?_
  rw [vm_ix_e (j := (150 * t) + i) rfl (by omega)]
  exact vm_J.end vm_q292 (en := (63, .ireturn, 1, [], .null)) rfl rfl vm_rI (Nat.zero_le _) (Nat.zero_le _) rfl
set_option maxHeartbeats 4000000 in
set_option maxRecDepth 20000 in
/-- DitherDeskModel.item -/
theorem r_item_2 {l : Launch} {X : vm_Cx} {G : List vm_Sh} {I : Nat → Nat → Int32} {F : Nat → Nat → UInt32} {t : Nat} {m : Nat} {i : Nat} {v : Int64} (hR : vm_isR G) (ht : t < 6) (hm : I 192 t = nI m) (hm2 : m ≤ 150) (hso : I 191 t = 2) (hi : i < m) : vm_K l X vm_M292 [.ref 152, .int (nI t), .int (nI i), .long v] (G, I, F) (some (.int 1)) (G, (vm_up I 193 (150 * t + i) v.toInt32), F) := by
  refine vm_K.mk (by decide) (Nat.le_of_ble_eq_true rfl) ?_
  show vm_J _ _ _ (0, (0, 0), [.ref 152, .int (nI t), .int (nI i), .long v, .retAddr 0], []) _ _ _
  refine vm_J.go vm_q292 (k := 1) (hs := []) (f' := (1, (0, 0), [.ref 152, .int (nI t), .int (nI i), .long v, .retAddr 0], [.int (nI t)])) (h' := (G, I, F)) (hs' := []) rfl rfl ?_
  refine vm_J.call vm_q292 (Z := vm_M287) (n := 1) (k := 1) (mi := 287) (pc := 1) (en := (1, .invokestatic 495, 3, [287, 1799, 0], .null)) rfl trivial rfl rfl vm_z287 (av := [.int (nI t)]) (rest := []) (r_isTape_y (c := nI t) (vm_bp6 ht)) rfl (Nat.le_of_ble_eq_true rfl) ⟨Nat.le_of_ble_eq_true rfl, Nat.le_of_ble_eq_true rfl⟩ ⟨Nat.le_of_ble_eq_true rfl, Nat.le_of_ble_eq_true rfl⟩ ?_
  show vm_J _ _ _ (4, (0, 0), [.ref 152, .int (nI t), .int (nI i), .long v, .retAddr 0], [.int 1]) (G, I, F) _ _
  refine vm_J.go vm_q292 (k := 1) (hs := []) (f' := (bif vm_ic .ne 1 0 then 9 else 7, (0, 0), [.ref 152, .int (nI t), .int (nI i), .long v, .retAddr 0], [])) (h' := (G, I, F)) (hs' := []) rfl rfl ?_
  refine vm_J.bT (by decide) ?_
  refine vm_J.go vm_q292 (k := 4) (hs := [vm_shR, (0, 6, [])]) (f' := (15, (0, 0), [.ref 152, .int (nI t), .int (nI i), .long v, .retAddr 0], [.int (I 191 (nI t).toNatClampNeg)])) (h' := (G, I, F)) (hs' := []) rfl (vm_b2 rfl (vm_b2 (vm_b2 (vm_hG hR.c152) rfl) (vm_b2 rfl (vm_b2 (vm_b2 (vm_hG hR.c191) (vm_in_e (j := t) (n := 6) rfl (by omega) (by omega))) rfl)))) ?_
  rw [vm_ix_e (j := t) rfl (by omega)]
  rw [(hso : I 191 t = 2)]
  refine vm_J.go vm_q292 (k := 1) (hs := []) (f' := (bif vm_ic .ge 2 0 then 21 else 18, (0, 0), [.ref 152, .int (nI t), .int (nI i), .long v, .retAddr 0], [])) (h' := (G, I, F)) (hs' := []) rfl rfl ?_
  refine vm_J.bT (by decide) ?_
  refine vm_J.go vm_q292 (k := 6) (hs := [vm_shR, (0, 6, [])]) (f' := (29, (0, 0), [.ref 152, .int (nI t), .int (nI i), .long v, .retAddr 0], [.int (I 192 (nI t).toNatClampNeg), .int 0, .int (nI i)])) (h' := (G, I, F)) (hs' := []) rfl (vm_b2 rfl (vm_b2 rfl (vm_b2 rfl (vm_b2 (vm_b2 (vm_hG hR.c152) rfl) (vm_b2 rfl (vm_b2 (vm_b2 (vm_hG hR.c192) (vm_in_e (j := t) (n := 6) rfl (by omega) (by omega))) rfl)))))) ?_
  rw [vm_ix_e (j := t) rfl (by omega)]
  rw [(hm : I 192 t = nI m)]
  refine vm_J.go vm_q292 (k := 2) (hs := []) (f' := (31, (0, 0), [.ref 152, .int (nI t), .int (nI i), .long v, .retAddr 0], [.int ((nI m) - 1), .int 0, .int (nI i)])) (h' := (G, I, F)) (hs' := []) rfl rfl ?_
  refine vm_J.call vm_q292 (Z := vm_M168) (n := 3) (k := 1) (mi := 168) (pc := 31) (en := (31, .invokestatic 141, 3, [168, 1302, 0], .null)) rfl trivial rfl rfl vm_z168 (av := [.int (nI i), .int 0, .int ((nI m) - 1)]) (rest := []) (r_isIn_y (v := nI i) (a := 0) (b := (nI m) - 1) (vm_pl_n hi hm2)) rfl (Nat.le_of_ble_eq_true rfl) ⟨Nat.le_of_ble_eq_true rfl, Nat.le_of_ble_eq_true rfl⟩ ⟨Nat.le_of_ble_eq_true rfl, Nat.le_of_ble_eq_true rfl⟩ ?_
  show vm_J _ _ _ (34, (0, 0), [.ref 152, .int (nI t), .int (nI i), .long v, .retAddr 0], [.int 1]) (G, I, F) _ _
  refine vm_J.go vm_q292 (k := 1) (hs := []) (f' := (bif vm_ic .ne 1 0 then 40 else 37, (0, 0), [.ref 152, .int (nI t), .int (nI i), .long v, .retAddr 0], [])) (h' := (G, I, F)) (hs' := []) rfl rfl ?_
  refine vm_J.bT (by decide) ?_
  refine vm_J.go vm_q292 (k := 11) (hs := [vm_shR, vm_shR, (0, 6, [])]) (f' := (57, (0, 0), [.ref 152, .int (nI t), .int (nI i), .long v, .retAddr 0], [.int (I 191 (nI t).toNatClampNeg), .int ((150 * (nI t)) + (nI i)), .ref 193])) (h' := (G, I, F)) (hs' := []) rfl (vm_b2 rfl (vm_b2 (vm_b2 (vm_hG hR.c152) rfl) (vm_b2 rfl (vm_b2 rfl (vm_b2 rfl (vm_b2 rfl (vm_b2 rfl (vm_b2 rfl (vm_b2 (vm_b2 (vm_hG hR.c152) rfl) (vm_b2 rfl (vm_b2 (vm_b2 (vm_hG hR.c191) (vm_in_e (j := t) (n := 6) rfl (by omega) (by omega))) rfl))))))))))) ?_
  rw [vm_ix_e (j := t) rfl (by omega), ((vm_pa (vm_pm (rfl : (150 : Int32) = nI 150) (rfl : (nI t : Int32) = nI t)) (rfl : (nI i : Int32) = nI i)) : (150 * (nI t)) + (nI i) = nI ((150 * t) + i))]
  rw [(hso : I 191 t = 2)]
  refine vm_J.go vm_q292 (k := 1) (hs := []) (f' := (58, (0, 0), [.ref 152, .int (nI t), .int (nI i), .long v, .retAddr 0], [.long v, .int 2, .int (nI ((150 * t) + i)), .ref 193])) (h' := (G, I, F)) (hs' := []) rfl rfl ?_
  refine vm_J.call vm_q292 (Z := vm_M291) (n := 2) (k := 1) (mi := 291) (pc := 58) (en := (58, .invokestatic 498, 3, [291, 1814, 0], .null)) rfl trivial rfl rfl vm_z291 (av := [.int 2, .long v]) (rest := [.int (nI ((150 * t) + i)), .ref 193]) (r_lowest_2 (v := v)) rfl (Nat.le_of_ble_eq_true rfl) ⟨Nat.le_of_ble_eq_true rfl, Nat.le_of_ble_eq_true rfl⟩ ⟨Nat.le_of_ble_eq_true rfl, Nat.le_of_ble_eq_true rfl⟩ ?_
  show vm_J _ _ _ (61, (0, 0), [.ref 152, .int (nI t), .int (nI i), .long v, .retAddr 0], [.int v.toInt32, .int (nI ((150 * t) + i)), .ref 193]) (G, I, F) _ _
  refine vm_J.go vm_q292 (k := 2) (hs := [(0, 900, [])]) (f' := (63, (0, 0), [.ref 152, .int (nI t), .int (nI i), .long v, .retAddr 0], [.int 1])) (h' := (G, (vm_up I 193 ((nI ((150 * t) + i)).toNatClampNeg) v.toInt32), F)) (hs' := []) rfl (vm_b2 (vm_b2 (vm_hG hR.c193) (vm_in_e (j := (150 * t) + i) (n := 900) rfl (by omega) (by omega))) (vm_b2 rfl rfl)) ?_
  rw [vm_ix_e (j := (150 * t) + i) rfl (by omega)]
  exact vm_J.end vm_q292 (en := (63, .ireturn, 1, [], .null)) rfl rfl vm_rI (Nat.zero_le _) (Nat.zero_le _) rfl
set_option maxHeartbeats 4000000 in
set_option maxRecDepth 20000 in
/-- DitherDeskModel.twin -/
theorem r_twin_x1 {l : Launch} {X : vm_Cx} {G : List vm_Sh} {I : Nat → Nat → Int32} {F : Nat → Nat → UInt32} {q : Int32} {e : Int32} (hR : vm_isR G) (hx : ¬ (0 ≤ q ∧ q ≤ 5)) : vm_K l X vm_M294 [.ref 152, .int q, .int e] (G, I, F) (some (.int (-1))) (G, I, F) := by
  refine vm_K.mk (by decide) (Nat.le_of_ble_eq_true rfl) ?_
  show vm_J _ _ _ (0, (0, 0), [.ref 152, .int q, .int e, .retAddr 0], []) _ _ _
  refine vm_J.go vm_q294 (k := 1) (hs := []) (f' := (1, (0, 0), [.ref 152, .int q, .int e, .retAddr 0], [.int q])) (h' := (G, I, F)) (hs' := []) rfl rfl ?_
  refine vm_J.call vm_q294 (Z := vm_M287) (n := 1) (k := 1) (mi := 287) (pc := 1) (en := (1, .invokestatic 495, 3, [287, 1799, 0], .null)) rfl trivial rfl rfl vm_z287 (av := [.int q]) (rest := []) (r_isTape_n (c := q) hx) rfl (Nat.le_of_ble_eq_true rfl) ⟨Nat.le_of_ble_eq_true rfl, Nat.le_of_ble_eq_true rfl⟩ ⟨Nat.le_of_ble_eq_true rfl, Nat.le_of_ble_eq_true rfl⟩ ?_
  show vm_J _ _ _ (4, (0, 0), [.ref 152, .int q, .int e, .retAddr 0], [.int 0]) (G, I, F) _ _
  refine vm_J.go vm_q294 (k := 1) (hs := []) (f' := (bif vm_ic .eq 0 0 then 14 else 7, (0, 0), [.ref 152, .int q, .int e, .retAddr 0], [])) (h' := (G, I, F)) (hs' := []) rfl rfl ?_
  refine vm_J.bT (by decide) ?_
  refine vm_J.go vm_q294 (k := 1) (hs := []) (f' := (15, (0, 0), [.ref 152, .int q, .int e, .retAddr 0], [.int (-1)])) (h' := (G, I, F)) (hs' := []) rfl rfl ?_
  exact vm_J.end vm_q294 (en := (15, .ireturn, 1, [], .null)) rfl rfl vm_rI (Nat.zero_le _) (Nat.zero_le _) rfl
set_option maxHeartbeats 4000000 in
set_option maxRecDepth 20000 in
/-- DitherDeskModel.twin -/
theorem r_twin_x2 {l : Launch} {X : vm_Cx} {G : List vm_Sh} {I : Nat → Nat → Int32} {F : Nat → Nat → UInt32} {t : Nat} {q : Int32} (hR : vm_isR G) (ht : t < 6) (hx : ¬ (0 ≤ q ∧ q ≤ 5)) : vm_K l X vm_M294 [.ref 152, .int (nI t), .int q] (G, I, F) (some (.int (-1))) (G, I, F) := by
  refine vm_K.mk (by decide) (Nat.le_of_ble_eq_true rfl) ?_
  show vm_J _ _ _ (0, (0, 0), [.ref 152, .int (nI t), .int q, .retAddr 0], []) _ _ _
  refine vm_J.go vm_q294 (k := 1) (hs := []) (f' := (1, (0, 0), [.ref 152, .int (nI t), .int q, .retAddr 0], [.int (nI t)])) (h' := (G, I, F)) (hs' := []) rfl rfl ?_
  refine vm_J.call vm_q294 (Z := vm_M287) (n := 1) (k := 1) (mi := 287) (pc := 1) (en := (1, .invokestatic 495, 3, [287, 1799, 0], .null)) rfl trivial rfl rfl vm_z287 (av := [.int (nI t)]) (rest := []) (r_isTape_y (c := nI t) (vm_bp6 ht)) rfl (Nat.le_of_ble_eq_true rfl) ⟨Nat.le_of_ble_eq_true rfl, Nat.le_of_ble_eq_true rfl⟩ ⟨Nat.le_of_ble_eq_true rfl, Nat.le_of_ble_eq_true rfl⟩ ?_
  show vm_J _ _ _ (4, (0, 0), [.ref 152, .int (nI t), .int q, .retAddr 0], [.int 1]) (G, I, F) _ _
  refine vm_J.go vm_q294 (k := 1) (hs := []) (f' := (bif vm_ic .eq 1 0 then 14 else 7, (0, 0), [.ref 152, .int (nI t), .int q, .retAddr 0], [])) (h' := (G, I, F)) (hs' := []) rfl rfl ?_
  refine vm_J.bF (by decide) ?_
  refine vm_J.go vm_q294 (k := 1) (hs := []) (f' := (8, (0, 0), [.ref 152, .int (nI t), .int q, .retAddr 0], [.int q])) (h' := (G, I, F)) (hs' := []) rfl rfl ?_
  refine vm_J.call vm_q294 (Z := vm_M287) (n := 1) (k := 1) (mi := 287) (pc := 8) (en := (8, .invokestatic 495, 3, [287, 1799, 0], .null)) rfl trivial rfl rfl vm_z287 (av := [.int q]) (rest := []) (r_isTape_n (c := q) hx) rfl (Nat.le_of_ble_eq_true rfl) ⟨Nat.le_of_ble_eq_true rfl, Nat.le_of_ble_eq_true rfl⟩ ⟨Nat.le_of_ble_eq_true rfl, Nat.le_of_ble_eq_true rfl⟩ ?_
  show vm_J _ _ _ (11, (0, 0), [.ref 152, .int (nI t), .int q, .retAddr 0], [.int 0]) (G, I, F) _ _
  refine vm_J.go vm_q294 (k := 1) (hs := []) (f' := (bif vm_ic .ne 0 0 then 16 else 14, (0, 0), [.ref 152, .int (nI t), .int q, .retAddr 0], [])) (h' := (G, I, F)) (hs' := []) rfl rfl ?_
  refine vm_J.bF (by decide) ?_
  refine vm_J.go vm_q294 (k := 1) (hs := []) (f' := (15, (0, 0), [.ref 152, .int (nI t), .int q, .retAddr 0], [.int (-1)])) (h' := (G, I, F)) (hs' := []) rfl rfl ?_
  exact vm_J.end vm_q294 (en := (15, .ireturn, 1, [], .null)) rfl rfl vm_rI (Nat.zero_le _) (Nat.zero_le _) rfl
set_option maxHeartbeats 4000000 in
set_option maxRecDepth 20000 in
/-- DitherDeskModel.twin -/
theorem r_twin_y {l : Launch} {X : vm_Cx} {G : List vm_Sh} {I : Nat → Nat → Int32} {F : Nat → Nat → UInt32} {t : Nat} {o : Nat} {m : Nat} (hR : vm_isR G) (ht : t < 6) (ho : o < 6) (hm : I 192 o = nI m) : vm_K l X vm_M294 [.ref 152, .int (nI t), .int (nI o)] (G, I, F) (some (.int (nI m))) (G, (vm_wq (vm_up (vm_up I 191 t (I 191 o)) 192 t (nI m)) 193 (fun y => I 193 (150 * o + (y - 150 * t))) (150 * t) 150), F) := by
  refine vm_K.mk (by decide) (Nat.le_of_ble_eq_true rfl) ?_
  show vm_J _ _ _ (0, (0, 0), [.ref 152, .int (nI t), .int (nI o), .retAddr 0], []) _ _ _
  refine vm_J.go vm_q294 (k := 1) (hs := []) (f' := (1, (0, 0), [.ref 152, .int (nI t), .int (nI o), .retAddr 0], [.int (nI t)])) (h' := (G, I, F)) (hs' := []) rfl rfl ?_
  refine vm_J.call vm_q294 (Z := vm_M287) (n := 1) (k := 1) (mi := 287) (pc := 1) (en := (1, .invokestatic 495, 3, [287, 1799, 0], .null)) rfl trivial rfl rfl vm_z287 (av := [.int (nI t)]) (rest := []) (r_isTape_y (c := nI t) (vm_bp6 ht)) rfl (Nat.le_of_ble_eq_true rfl) ⟨Nat.le_of_ble_eq_true rfl, Nat.le_of_ble_eq_true rfl⟩ ⟨Nat.le_of_ble_eq_true rfl, Nat.le_of_ble_eq_true rfl⟩ ?_
  show vm_J _ _ _ (4, (0, 0), [.ref 152, .int (nI t), .int (nI o), .retAddr 0], [.int 1]) (G, I, F) _ _
  refine vm_J.go vm_q294 (k := 1) (hs := []) (f' := (bif vm_ic .eq 1 0 then 14 else 7, (0, 0), [.ref 152, .int (nI t), .int (nI o), .retAddr 0], [])) (h' := (G, I, F)) (hs' := []) rfl rfl ?_
  refine vm_J.bF (by decide) ?_
  refine vm_J.go vm_q294 (k := 1) (hs := []) (f' := (8, (0, 0), [.ref 152, .int (nI t), .int (nI o), .retAddr 0], [.int (nI o)])) (h' := (G, I, F)) (hs' := []) rfl rfl ?_
  refine vm_J.call vm_q294 (Z := vm_M287) (n := 1) (k := 1) (mi := 287) (pc := 8) (en := (8, .invokestatic 495, 3, [287, 1799, 0], .null)) rfl trivial rfl rfl vm_z287 (av := [.int (nI o)]) (rest := []) (r_isTape_y (c := nI o) (vm_bp6 ho)) rfl (Nat.le_of_ble_eq_true rfl) ⟨Nat.le_of_ble_eq_true rfl, Nat.le_of_ble_eq_true rfl⟩ ⟨Nat.le_of_ble_eq_true rfl, Nat.le_of_ble_eq_true rfl⟩ ?_
  show vm_J _ _ _ (11, (0, 0), [.ref 152, .int (nI t), .int (nI o), .retAddr 0], [.int 1]) (G, I, F) _ _
  refine vm_J.go vm_q294 (k := 1) (hs := []) (f' := (bif vm_ic .ne 1 0 then 16 else 14, (0, 0), [.ref 152, .int (nI t), .int (nI o), .retAddr 0], [])) (h' := (G, I, F)) (hs' := []) rfl rfl ?_
  refine vm_J.bT (by decide) ?_
  refine vm_J.go vm_q294 (k := 15) (hs := [vm_shR, vm_shR, (0, 6, []), (0, 6, []), vm_shR, vm_shR, (0, 6, [])]) (f' := (39, (0, 0), [.ref 152, .int (nI t), .int (nI o), .retAddr 0], [.int ((vm_up I 191 ((nI t).toNatClampNeg) (I 191 (nI o).toNatClampNeg)) 192 (nI o).toNatClampNeg), .int (nI t), .ref 192])) (h' := (G, (vm_up I 191 ((nI t).toNatClampNeg) (I 191 (nI o).toNatClampNeg)), F)) (hs' := []) rfl (vm_b2 rfl (vm_b2 (vm_b2 (vm_hG hR.c152) rfl) (vm_b2 rfl (vm_b2 rfl (vm_b2 (vm_b2 (vm_hG hR.c152) rfl) (vm_b2 rfl (vm_b2 (vm_b2 (vm_hG hR.c191) (vm_in_e (j := o) (n := 6) rfl (by omega) (by omega))) (vm_b2 (vm_b2 (vm_hG hR.c191) (vm_in_e (j := t) (n := 6) rfl (by omega) (by omega))) (vm_b2 rfl (vm_b2 (vm_b2 (vm_hG hR.c152) rfl) (vm_b2 rfl (vm_b2 rfl (vm_b2 (vm_b2 (vm_hG hR.c152) rfl) (vm_b2 rfl (vm_b2 (vm_b2 (vm_hG hR.c192) (vm_in_e (j := o) (n := 6) rfl (by omega) (by omega))) rfl))))))))))))))) ?_
  rw [vm_ix_e (j := o) rfl (by omega), vm_ix_e (j := t) rfl (by omega)]
  rw [((Eq.trans (congrFun (vm_up_f _ 191 _ _ 192 (by decide)) o) hm) : (vm_up I 191 (t) (I 191 o)) 192 o = nI m)]
  refine vm_J.go vm_q294 (k := 3) (hs := [(0, 6, [])]) (f' := (42, (0, 0), [.ref 152, .int (nI t), .int (nI o), .int 0], [])) (h' := (G, (vm_up (vm_up I 191 (t) (I 191 o)) 192 ((nI t).toNatClampNeg) (nI m)), F)) (hs' := []) rfl (vm_b2 (vm_b2 (vm_hG hR.c192) (vm_in_e (j := t) (n := 6) rfl (by omega) (by omega))) (vm_b2 rfl (vm_b2 rfl rfl))) ?_
  rw [vm_ix_e (j := t) rfl (by omega)]
  refine vm_J.cnt 150 (fun k => (42, (0, 0), [.ref 152, .int (nI t), .int (nI o), .int (nI k)], [])) (fun k => (G, (vm_wq (vm_up (vm_up I 191 t (I 191 o)) 192 t (nI m)) 193 (fun y => I 193 (150 * o + (y - 150 * t))) (150 * t) k), F)) (fun _ => True) rfl (by rw [← vm_wq_0]) trivial (fun k hk pk ik => ?_) (fun pk => ?_)
  · show vm_J _ _ _ (42, (0, 0), [.ref 152, .int (nI t), .int (nI o), .int (nI k)], []) (G, (vm_wq (vm_up (vm_up I 191 t (I 191 o)) 192 t (nI m)) 193 (fun y => I 193 (150 * o + (y - 150 * t))) (150 * t) k), F) _ _
    refine vm_J.go vm_q294 (k := 3) (hs := []) (f' := (bif vm_ic .ge (nI k) 150 then 79 else 49, (0, 0), [.ref 152, .int (nI t), .int (nI o), .int (nI k)], [])) (h' := (G, (vm_wq (vm_up (vm_up I 191 t (I 191 o)) 192 t (nI m)) 193 (fun y => I 193 (150 * o + (y - 150 * t))) (150 * t) k), F)) (hs' := []) rfl rfl ?_
    refine vm_J.br (fun c1 => ?_) (fun c1 => ?_)
    · have c1 := vm_ge_t (a := k) (b := 150) (by omega) (by omega) c1
      exact (show False by omega).elim
    · have c1 := vm_ge_f (a := k) (b := 150) (by omega) (by omega) c1
      refine vm_J.go vm_q294 (k := 18) (hs := [vm_shR, vm_shR, (0, 900, []), (0, 900, [])]) (f' := (42, (0, 0), [.ref 152, .int (nI t), .int (nI o), .int ((nI k) + 1)], [])) (h' := (G, (vm_up (vm_wq (vm_up (vm_up I 191 t (I 191 o)) 192 t (nI m)) 193 (fun y => I 193 (150 * o + (y - 150 * t))) (150 * t) k) 193 (((150 * (nI t)) + (nI k)).toNatClampNeg) ((vm_wq (vm_up (vm_up I 191 t (I 191 o)) 192 t (nI m)) 193 (fun y => I 193 (150 * o + (y - 150 * t))) (150 * t) k) 193 ((150 * (nI o)) + (nI k)).toNatClampNeg)), F)) (hs' := []) rfl (vm_b2 rfl (vm_b2 (vm_b2 (vm_hG hR.c152) rfl) (vm_b2 rfl (vm_b2 rfl (vm_b2 rfl (vm_b2 rfl (vm_b2 rfl (vm_b2 rfl (vm_b2 (vm_b2 (vm_hG hR.c152) rfl) (vm_b2 rfl (vm_b2 rfl (vm_b2 rfl (vm_b2 rfl (vm_b2 rfl (vm_b2 (vm_b2 (vm_hG hR.c193) (vm_in_e (j := (150 * o) + k) (n := 900) (vm_pa (vm_pm (rfl : (150 : Int32) = nI 150) (rfl : (nI o : Int32) = nI o)) (rfl : (nI k : Int32) = nI k)) (by omega) (by omega))) (vm_b2 (vm_b2 (vm_hG hR.c193) (vm_in_e (j := (150 * t) + k) (n := 900) (vm_pa (vm_pm (rfl : (150 : Int32) = nI 150) (rfl : (nI t : Int32) = nI t)) (rfl : (nI k : Int32) = nI k)) (by omega) (by omega))) (vm_b2 rfl (vm_b2 rfl rfl)))))))))))))))))) ?_
      rw [vm_ix_e (j := (150 * o) + k) (vm_pa (vm_pm (rfl : (150 : Int32) = nI 150) (rfl : (nI o : Int32) = nI o)) (rfl : (nI k : Int32) = nI k)) (by omega), vm_ix_e (j := (150 * t) + k) (vm_pa (vm_pm (rfl : (150 : Int32) = nI 150) (rfl : (nI t : Int32) = nI t)) (rfl : (nI k : Int32) = nI k)) (by omega), ((vm_pa (rfl : nI k = nI k) (rfl : (1 : Int32) = nI 1)) : (nI k) + 1 = nI (k + 1))]
      rw [vm_wq_x _ 193 (150 * t) k (150 * o + k) _ (by omega), vm_up_o2 _ 192 _ _ 193 _ (by decide), vm_up_o2 _ 191 _ _ 193 _ (by decide)]
      have z := ik trivial
      rw [← vm_wq_s, Nat.add_sub_cancel_left] at z
      exact z
  · show vm_J _ _ _ (42, (0, 0), [.ref 152, .int (nI t), .int (nI o), .int (nI 150)], []) (G, (vm_wq (vm_up (vm_up I 191 t (I 191 o)) 192 t (nI m)) 193 (fun y => I 193 (150 * o + (y - 150 * t))) (150 * t) 150), F) _ _
    refine vm_J.go vm_q294 (k := 3) (hs := []) (f' := (bif vm_ic .ge (nI 150) 150 then 79 else 49, (0, 0), [.ref 152, .int (nI t), .int (nI o), .int (nI 150)], [])) (h' := (G, (vm_wq (vm_up (vm_up I 191 t (I 191 o)) 192 t (nI m)) 193 (fun y => I 193 (150 * o + (y - 150 * t))) (150 * t) 150), F)) (hs' := []) rfl rfl ?_
    refine vm_J.br (fun c2 => ?_) (fun c2 => ?_)
    · have c2 := vm_ge_t (a := 150) (b := 150) (by omega) (by omega) c2
      refine vm_J.go vm_q294 (k := 4) (hs := [vm_shR, (0, 6, [])]) (f' := (85, (0, 0), [.ref 152, .int (nI t), .int (nI o), .int (nI 150)], [.int ((vm_wq (vm_up (vm_up I 191 t (I 191 o)) 192 t (nI m)) 193 (fun y => I 193 (150 * o + (y - 150 * t))) (150 * t) 150) 192 (nI t).toNatClampNeg)])) (h' := (G, (vm_wq (vm_up (vm_up I 191 t (I 191 o)) 192 t (nI m)) 193 (fun y => I 193 (150 * o + (y - 150 * t))) (150 * t) 150), F)) (hs' := []) rfl (vm_b2 rfl (vm_b2 (vm_b2 (vm_hG hR.c152) rfl) (vm_b2 rfl (vm_b2 (vm_b2 (vm_hG hR.c192) (vm_in_e (j := t) (n := 6) rfl (by omega) (by omega))) rfl)))) ?_
      rw [vm_ix_e (j := t) rfl (by omega)]
      rw [((Eq.trans (congrFun (vm_wq_o _ 193 (150 * t) 150 192 _ (by decide)) t) (vm_up_h _ 192 t _)) : (vm_wq (vm_up (vm_up I 191 t (I 191 o)) 192 t (nI m)) 193 (fun y => I 193 (150 * o + (y - 150 * t))) (150 * t) 150) 192 t = nI m)]
      exact vm_J.end vm_q294 (en := (85, .ireturn, 1, [], .null)) rfl rfl vm_rI (Nat.zero_le _) (Nat.zero_le _) rfl
    · have c2 := vm_ge_f (a := 150) (b := 150) (by omega) (by omega) c2
      exact (show False by omega).elim
set_option maxHeartbeats 4000000 in
set_option maxRecDepth 20000 in
/-- DitherDeskModel.shift -/
theorem r_shift_x1 {l : Launch} {X : vm_Cx} {G : List vm_Sh} {I : Nat → Nat → Int32} {F : Nat → Nat → UInt32} {q : Int32} {i : Int32} {u : Int32} {j : Int32} {n : Int32} (hR : vm_isR G) (hx : ¬ (0 ≤ q ∧ q ≤ 5)) : vm_K l X vm_M295 [.ref 152, .int q, .int i, .int u, .int j, .int n] (G, I, F) (some (.int (-1))) (G, I, F) := by
  refine vm_K.mk (by decide) (Nat.le_of_ble_eq_true rfl) ?_
  show vm_J _ _ _ (0, (0, 0), [.ref 152, .int q, .int i, .int u, .int j, .int n, .retAddr 0, .retAddr 0, .retAddr 0, .retAddr 0], []) _ _ _
  refine vm_J.go vm_q295 (k := 1) (hs := []) (f' := (1, (0, 0), [.ref 152, .int q, .int i, .int u, .int j, .int n, .retAddr 0, .retAddr 0, .retAddr 0, .retAddr 0], [.int q])) (h' := (G, I, F)) (hs' := []) rfl rfl ?_
  refine vm_J.call vm_q295 (Z := vm_M287) (n := 1) (k := 1) (mi := 287) (pc := 1) (en := (1, .invokestatic 495, 3, [287, 1799, 0], .null)) rfl trivial rfl rfl vm_z287 (av := [.int q]) (rest := []) (r_isTape_n (c := q) hx) rfl (Nat.le_of_ble_eq_true rfl) ⟨Nat.le_of_ble_eq_true rfl, Nat.le_of_ble_eq_true rfl⟩ ⟨Nat.le_of_ble_eq_true rfl, Nat.le_of_ble_eq_true rfl⟩ ?_
  show vm_J _ _ _ (4, (0, 0), [.ref 152, .int q, .int i, .int u, .int j, .int n, .retAddr 0, .retAddr 0, .retAddr 0, .retAddr 0], [.int 0]) (G, I, F) _ _
  refine vm_J.go vm_q295 (k := 1) (hs := []) (f' := (bif vm_ic .eq 0 0 then 14 else 7, (0, 0), [.ref 152, .int q, .int i, .int u, .int j, .int n, .retAddr 0, .retAddr 0, .retAddr 0, .retAddr 0], [])) (h' := (G, I, F)) (hs' := []) rfl rfl ?_
  refine vm_J.bT (by decide) ?_
  refine vm_J.go vm_q295 (k := 1) (hs := []) (f' := (15, (0, 0), [.ref 152, .int q, .int i, .int u, .int j, .int n, .retAddr 0, .retAddr 0, .retAddr 0, .retAddr 0], [.int (-1)])) (h' := (G, I, F)) (hs' := []) rfl rfl ?_
  exact vm_J.end vm_q295 (en := (15, .ireturn, 1, [], .null)) rfl rfl vm_rI (Nat.zero_le _) (Nat.zero_le _) rfl
set_option maxHeartbeats 4000000 in
set_option maxRecDepth 20000 in
/-- DitherDeskModel.shift -/
theorem r_shift_x2 {l : Launch} {X : vm_Cx} {G : List vm_Sh} {I : Nat → Nat → Int32} {F : Nat → Nat → UInt32} {t : Nat} {i : Int32} {q : Int32} {j : Int32} {n : Int32} (hR : vm_isR G) (ht : t < 6) (hx : ¬ (0 ≤ q ∧ q ≤ 5)) : vm_K l X vm_M295 [.ref 152, .int (nI t), .int i, .int q, .int j, .int n] (G, I, F) (some (.int (-1))) (G, I, F) := by
  refine vm_K.mk (by decide) (Nat.le_of_ble_eq_true rfl) ?_
  show vm_J _ _ _ (0, (0, 0), [.ref 152, .int (nI t), .int i, .int q, .int j, .int n, .retAddr 0, .retAddr 0, .retAddr 0, .retAddr 0], []) _ _ _
  refine vm_J.go vm_q295 (k := 1) (hs := []) (f' := (1, (0, 0), [.ref 152, .int (nI t), .int i, .int q, .int j, .int n, .retAddr 0, .retAddr 0, .retAddr 0, .retAddr 0], [.int (nI t)])) (h' := (G, I, F)) (hs' := []) rfl rfl ?_
  refine vm_J.call vm_q295 (Z := vm_M287) (n := 1) (k := 1) (mi := 287) (pc := 1) (en := (1, .invokestatic 495, 3, [287, 1799, 0], .null)) rfl trivial rfl rfl vm_z287 (av := [.int (nI t)]) (rest := []) (r_isTape_y (c := nI t) (vm_bp6 ht)) rfl (Nat.le_of_ble_eq_true rfl) ⟨Nat.le_of_ble_eq_true rfl, Nat.le_of_ble_eq_true rfl⟩ ⟨Nat.le_of_ble_eq_true rfl, Nat.le_of_ble_eq_true rfl⟩ ?_
  show vm_J _ _ _ (4, (0, 0), [.ref 152, .int (nI t), .int i, .int q, .int j, .int n, .retAddr 0, .retAddr 0, .retAddr 0, .retAddr 0], [.int 1]) (G, I, F) _ _
  refine vm_J.go vm_q295 (k := 1) (hs := []) (f' := (bif vm_ic .eq 1 0 then 14 else 7, (0, 0), [.ref 152, .int (nI t), .int i, .int q, .int j, .int n, .retAddr 0, .retAddr 0, .retAddr 0, .retAddr 0], [])) (h' := (G, I, F)) (hs' := []) rfl rfl ?_
  refine vm_J.bF (by decide) ?_
  refine vm_J.go vm_q295 (k := 1) (hs := []) (f' := (8, (0, 0), [.ref 152, .int (nI t), .int i, .int q, .int j, .int n, .retAddr 0, .retAddr 0, .retAddr 0, .retAddr 0], [.int q])) (h' := (G, I, F)) (hs' := []) rfl rfl ?_
  refine vm_J.call vm_q295 (Z := vm_M287) (n := 1) (k := 1) (mi := 287) (pc := 8) (en := (8, .invokestatic 495, 3, [287, 1799, 0], .null)) rfl trivial rfl rfl vm_z287 (av := [.int q]) (rest := []) (r_isTape_n (c := q) hx) rfl (Nat.le_of_ble_eq_true rfl) ⟨Nat.le_of_ble_eq_true rfl, Nat.le_of_ble_eq_true rfl⟩ ⟨Nat.le_of_ble_eq_true rfl, Nat.le_of_ble_eq_true rfl⟩ ?_
  show vm_J _ _ _ (11, (0, 0), [.ref 152, .int (nI t), .int i, .int q, .int j, .int n, .retAddr 0, .retAddr 0, .retAddr 0, .retAddr 0], [.int 0]) (G, I, F) _ _
  refine vm_J.go vm_q295 (k := 1) (hs := []) (f' := (bif vm_ic .ne 0 0 then 16 else 14, (0, 0), [.ref 152, .int (nI t), .int i, .int q, .int j, .int n, .retAddr 0, .retAddr 0, .retAddr 0, .retAddr 0], [])) (h' := (G, I, F)) (hs' := []) rfl rfl ?_
  refine vm_J.bF (by decide) ?_
  refine vm_J.go vm_q295 (k := 1) (hs := []) (f' := (15, (0, 0), [.ref 152, .int (nI t), .int i, .int q, .int j, .int n, .retAddr 0, .retAddr 0, .retAddr 0, .retAddr 0], [.int (-1)])) (h' := (G, I, F)) (hs' := []) rfl rfl ?_
  exact vm_J.end vm_q295 (en := (15, .ireturn, 1, [], .null)) rfl rfl vm_rI (Nat.zero_le _) (Nat.zero_le _) rfl
set_option maxHeartbeats 4000000 in
set_option maxRecDepth 20000 in
/-- DitherDeskModel.shift -/
theorem r_shift_e1 {l : Launch} {X : vm_Cx} {G : List vm_Sh} {I : Nat → Nat → Int32} {F : Nat → Nat → UInt32} {t : Nat} {o : Nat} {i : Int32} {j : Int32} {n : Int32} (hR : vm_isR G) (ht : t < 6) (ho : o < 6) (hso : I 191 t < 0) : vm_K l X vm_M295 [.ref 152, .int (nI t), .int i, .int (nI o), .int j, .int n] (G, I, F) (some (.int (-11))) (G, I, F) := by
  refine vm_K.mk (by decide) (Nat.le_of_ble_eq_true rfl) ?_
  show vm_J _ _ _ (0, (0, 0), [.ref 152, .int (nI t), .int i, .int (nI o), .int j, .int n, .retAddr 0, .retAddr 0, .retAddr 0, .retAddr 0], []) _ _ _
  refine vm_J.go vm_q295 (k := 1) (hs := []) (f' := (1, (0, 0), [.ref 152, .int (nI t), .int i, .int (nI o), .int j, .int n, .retAddr 0, .retAddr 0, .retAddr 0, .retAddr 0], [.int (nI t)])) (h' := (G, I, F)) (hs' := []) rfl rfl ?_
  refine vm_J.call vm_q295 (Z := vm_M287) (n := 1) (k := 1) (mi := 287) (pc := 1) (en := (1, .invokestatic 495, 3, [287, 1799, 0], .null)) rfl trivial rfl rfl vm_z287 (av := [.int (nI t)]) (rest := []) (r_isTape_y (c := nI t) (vm_bp6 ht)) rfl (Nat.le_of_ble_eq_true rfl) ⟨Nat.le_of_ble_eq_true rfl, Nat.le_of_ble_eq_true rfl⟩ ⟨Nat.le_of_ble_eq_true rfl, Nat.le_of_ble_eq_true rfl⟩ ?_
  show vm_J _ _ _ (4, (0, 0), [.ref 152, .int (nI t), .int i, .int (nI o), .int j, .int n, .retAddr 0, .retAddr 0, .retAddr 0, .retAddr 0], [.int 1]) (G, I, F) _ _
  refine vm_J.go vm_q295 (k := 1) (hs := []) (f' := (bif vm_ic .eq 1 0 then 14 else 7, (0, 0), [.ref 152, .int (nI t), .int i, .int (nI o), .int j, .int n, .retAddr 0, .retAddr 0, .retAddr 0, .retAddr 0], [])) (h' := (G, I, F)) (hs' := []) rfl rfl ?_
  refine vm_J.bF (by decide) ?_
  refine vm_J.go vm_q295 (k := 1) (hs := []) (f' := (8, (0, 0), [.ref 152, .int (nI t), .int i, .int (nI o), .int j, .int n, .retAddr 0, .retAddr 0, .retAddr 0, .retAddr 0], [.int (nI o)])) (h' := (G, I, F)) (hs' := []) rfl rfl ?_
  refine vm_J.call vm_q295 (Z := vm_M287) (n := 1) (k := 1) (mi := 287) (pc := 8) (en := (8, .invokestatic 495, 3, [287, 1799, 0], .null)) rfl trivial rfl rfl vm_z287 (av := [.int (nI o)]) (rest := []) (r_isTape_y (c := nI o) (vm_bp6 ho)) rfl (Nat.le_of_ble_eq_true rfl) ⟨Nat.le_of_ble_eq_true rfl, Nat.le_of_ble_eq_true rfl⟩ ⟨Nat.le_of_ble_eq_true rfl, Nat.le_of_ble_eq_true rfl⟩ ?_
  show vm_J _ _ _ (11, (0, 0), [.ref 152, .int (nI t), .int i, .int (nI o), .int j, .int n, .retAddr 0, .retAddr 0, .retAddr 0, .retAddr 0], [.int 1]) (G, I, F) _ _
  refine vm_J.go vm_q295 (k := 1) (hs := []) (f' := (bif vm_ic .ne 1 0 then 16 else 14, (0, 0), [.ref 152, .int (nI t), .int i, .int (nI o), .int j, .int n, .retAddr 0, .retAddr 0, .retAddr 0, .retAddr 0], [])) (h' := (G, I, F)) (hs' := []) rfl rfl ?_
  refine vm_J.bT (by decide) ?_
  refine vm_J.go vm_q295 (k := 4) (hs := [vm_shR, (0, 6, [])]) (f' := (22, (0, 0), [.ref 152, .int (nI t), .int i, .int (nI o), .int j, .int n, .retAddr 0, .retAddr 0, .retAddr 0, .retAddr 0], [.int (I 191 (nI t).toNatClampNeg)])) (h' := (G, I, F)) (hs' := []) rfl (vm_b2 rfl (vm_b2 (vm_b2 (vm_hG hR.c152) rfl) (vm_b2 rfl (vm_b2 (vm_b2 (vm_hG hR.c191) (vm_in_e (j := t) (n := 6) rfl (by omega) (by omega))) rfl)))) ?_
  rw [vm_ix_e (j := t) rfl (by omega)]
  refine vm_J.go vm_q295 (k := 1) (hs := []) (f' := (bif vm_ic .lt (I 191 t) 0 then 34 else 25, (0, 0), [.ref 152, .int (nI t), .int i, .int (nI o), .int j, .int n, .retAddr 0, .retAddr 0, .retAddr 0, .retAddr 0], [])) (h' := (G, I, F)) (hs' := []) rfl rfl ?_
  refine vm_J.bT (decide_eq_true hso) ?_
  refine vm_J.go vm_q295 (k := 1) (hs := []) (f' := (36, (0, 0), [.ref 152, .int (nI t), .int i, .int (nI o), .int j, .int n, .retAddr 0, .retAddr 0, .retAddr 0, .retAddr 0], [.int (-11)])) (h' := (G, I, F)) (hs' := []) rfl rfl ?_
  exact vm_J.end vm_q295 (en := (36, .ireturn, 1, [], .null)) rfl rfl vm_rI (Nat.zero_le _) (Nat.zero_le _) rfl
set_option maxHeartbeats 4000000 in
set_option maxRecDepth 20000 in
/-- DitherDeskModel.shift -/
theorem r_shift_e2 {l : Launch} {X : vm_Cx} {G : List vm_Sh} {I : Nat → Nat → Int32} {F : Nat → Nat → UInt32} {t : Nat} {o : Nat} {i : Int32} {j : Int32} {n : Int32} (hR : vm_isR G) (ht : t < 6) (ho : o < 6) (hso : ¬ I 191 t < 0) (hsp : I 191 o < 0) : vm_K l X vm_M295 [.ref 152, .int (nI t), .int i, .int (nI o), .int j, .int n] (G, I, F) (some (.int (-11))) (G, I, F) := by
  refine vm_K.mk (by decide) (Nat.le_of_ble_eq_true rfl) ?_
  show vm_J _ _ _ (0, (0, 0), [.ref 152, .int (nI t), .int i, .int (nI o), .int j, .int n, .retAddr 0, .retAddr 0, .retAddr 0, .retAddr 0], []) _ _ _
  refine vm_J.go vm_q295 (k := 1) (hs := []) (f' := (1, (0, 0), [.ref 152, .int (nI t), .int i, .int (nI o), .int j, .int n, .retAddr 0, .retAddr 0, .retAddr 0, .retAddr 0], [.int (nI t)])) (h' := (G, I, F)) (hs' := []) rfl rfl ?_
  refine vm_J.call vm_q295 (Z := vm_M287) (n := 1) (k := 1) (mi := 287) (pc := 1) (en := (1, .invokestatic 495, 3, [287, 1799, 0], .null)) rfl trivial rfl rfl vm_z287 (av := [.int (nI t)]) (rest := []) (r_isTape_y (c := nI t) (vm_bp6 ht)) rfl (Nat.le_of_ble_eq_true rfl) ⟨Nat.le_of_ble_eq_true rfl, Nat.le_of_ble_eq_true rfl⟩ ⟨Nat.le_of_ble_eq_true rfl, Nat.le_of_ble_eq_true rfl⟩ ?_
  show vm_J _ _ _ (4, (0, 0), [.ref 152, .int (nI t), .int i, .int (nI o), .int j, .int n, .retAddr 0, .retAddr 0, .retAddr 0, .retAddr 0], [.int 1]) (G, I, F) _ _
  refine vm_J.go vm_q295 (k := 1) (hs := []) (f' := (bif vm_ic .eq 1 0 then 14 else 7, (0, 0), [.ref 152, .int (nI t), .int i, .int (nI o), .int j, .int n, .retAddr 0, .retAddr 0, .retAddr 0, .retAddr 0], [])) (h' := (G, I, F)) (hs' := []) rfl rfl ?_
  refine vm_J.bF (by decide) ?_
  refine vm_J.go vm_q295 (k := 1) (hs := []) (f' := (8, (0, 0), [.ref 152, .int (nI t), .int i, .int (nI o), .int j, .int n, .retAddr 0, .retAddr 0, .retAddr 0, .retAddr 0], [.int (nI o)])) (h' := (G, I, F)) (hs' := []) rfl rfl ?_
  refine vm_J.call vm_q295 (Z := vm_M287) (n := 1) (k := 1) (mi := 287) (pc := 8) (en := (8, .invokestatic 495, 3, [287, 1799, 0], .null)) rfl trivial rfl rfl vm_z287 (av := [.int (nI o)]) (rest := []) (r_isTape_y (c := nI o) (vm_bp6 ho)) rfl (Nat.le_of_ble_eq_true rfl) ⟨Nat.le_of_ble_eq_true rfl, Nat.le_of_ble_eq_true rfl⟩ ⟨Nat.le_of_ble_eq_true rfl, Nat.le_of_ble_eq_true rfl⟩ ?_
  show vm_J _ _ _ (11, (0, 0), [.ref 152, .int (nI t), .int i, .int (nI o), .int j, .int n, .retAddr 0, .retAddr 0, .retAddr 0, .retAddr 0], [.int 1]) (G, I, F) _ _
  refine vm_J.go vm_q295 (k := 1) (hs := []) (f' := (bif vm_ic .ne 1 0 then 16 else 14, (0, 0), [.ref 152, .int (nI t), .int i, .int (nI o), .int j, .int n, .retAddr 0, .retAddr 0, .retAddr 0, .retAddr 0], [])) (h' := (G, I, F)) (hs' := []) rfl rfl ?_
  refine vm_J.bT (by decide) ?_
  refine vm_J.go vm_q295 (k := 4) (hs := [vm_shR, (0, 6, [])]) (f' := (22, (0, 0), [.ref 152, .int (nI t), .int i, .int (nI o), .int j, .int n, .retAddr 0, .retAddr 0, .retAddr 0, .retAddr 0], [.int (I 191 (nI t).toNatClampNeg)])) (h' := (G, I, F)) (hs' := []) rfl (vm_b2 rfl (vm_b2 (vm_b2 (vm_hG hR.c152) rfl) (vm_b2 rfl (vm_b2 (vm_b2 (vm_hG hR.c191) (vm_in_e (j := t) (n := 6) rfl (by omega) (by omega))) rfl)))) ?_
  rw [vm_ix_e (j := t) rfl (by omega)]
  refine vm_J.go vm_q295 (k := 1) (hs := []) (f' := (bif vm_ic .lt (I 191 t) 0 then 34 else 25, (0, 0), [.ref 152, .int (nI t), .int i, .int (nI o), .int j, .int n, .retAddr 0, .retAddr 0, .retAddr 0, .retAddr 0], [])) (h' := (G, I, F)) (hs' := []) rfl rfl ?_
  refine vm_J.bF (decide_eq_false hso) ?_
  refine vm_J.go vm_q295 (k := 4) (hs := [vm_shR, (0, 6, [])]) (f' := (31, (0, 0), [.ref 152, .int (nI t), .int i, .int (nI o), .int j, .int n, .retAddr 0, .retAddr 0, .retAddr 0, .retAddr 0], [.int (I 191 (nI o).toNatClampNeg)])) (h' := (G, I, F)) (hs' := []) rfl (vm_b2 rfl (vm_b2 (vm_b2 (vm_hG hR.c152) rfl) (vm_b2 rfl (vm_b2 (vm_b2 (vm_hG hR.c191) (vm_in_e (j := o) (n := 6) rfl (by omega) (by omega))) rfl)))) ?_
  rw [vm_ix_e (j := o) rfl (by omega)]
  refine vm_J.go vm_q295 (k := 1) (hs := []) (f' := (bif vm_ic .ge (I 191 o) 0 then 37 else 34, (0, 0), [.ref 152, .int (nI t), .int i, .int (nI o), .int j, .int n, .retAddr 0, .retAddr 0, .retAddr 0, .retAddr 0], [])) (h' := (G, I, F)) (hs' := []) rfl rfl ?_
  refine vm_J.bF (decide_eq_false (vm_lt_le hsp)) ?_
  refine vm_J.go vm_q295 (k := 1) (hs := []) (f' := (36, (0, 0), [.ref 152, .int (nI t), .int i, .int (nI o), .int j, .int n, .retAddr 0, .retAddr 0, .retAddr 0, .retAddr 0], [.int (-11)])) (h' := (G, I, F)) (hs' := []) rfl rfl ?_
  exact vm_J.end vm_q295 (en := (36, .ireturn, 1, [], .null)) rfl rfl vm_rI (Nat.zero_le _) (Nat.zero_le _) rfl
set_option maxHeartbeats 4000000 in
set_option maxRecDepth 20000 in
/-- DitherDeskModel.shift -/
theorem r_shift_c {l : Launch} {X : vm_Cx} {G : List vm_Sh} {I : Nat → Nat → Int32} {F : Nat → Nat → UInt32} {t : Nat} {o : Nat} {i : Int32} {j : Int32} {n : Int32} (hR : vm_isR G) (ht : t < 6) (ho : o < 6) (hso : ¬ I 191 t < 0) (hsp : ¬ I 191 o < 0) (hne : ¬ I 191 t = I 191 o) : vm_K l X vm_M295 [.ref 152, .int (nI t), .int i, .int (nI o), .int j, .int n] (G, I, F) (some (.int (-12))) (G, I, F) := by
  refine vm_K.mk (by decide) (Nat.le_of_ble_eq_true rfl) ?_
  show vm_J _ _ _ (0, (0, 0), [.ref 152, .int (nI t), .int i, .int (nI o), .int j, .int n, .retAddr 0, .retAddr 0, .retAddr 0, .retAddr 0], []) _ _ _
  refine vm_J.go vm_q295 (k := 1) (hs := []) (f' := (1, (0, 0), [.ref 152, .int (nI t), .int i, .int (nI o), .int j, .int n, .retAddr 0, .retAddr 0, .retAddr 0, .retAddr 0], [.int (nI t)])) (h' := (G, I, F)) (hs' := []) rfl rfl ?_
  refine vm_J.call vm_q295 (Z := vm_M287) (n := 1) (k := 1) (mi := 287) (pc := 1) (en := (1, .invokestatic 495, 3, [287, 1799, 0], .null)) rfl trivial rfl rfl vm_z287 (av := [.int (nI t)]) (rest := []) (r_isTape_y (c := nI t) (vm_bp6 ht)) rfl (Nat.le_of_ble_eq_true rfl) ⟨Nat.le_of_ble_eq_true rfl, Nat.le_of_ble_eq_true rfl⟩ ⟨Nat.le_of_ble_eq_true rfl, Nat.le_of_ble_eq_true rfl⟩ ?_
  show vm_J _ _ _ (4, (0, 0), [.ref 152, .int (nI t), .int i, .int (nI o), .int j, .int n, .retAddr 0, .retAddr 0, .retAddr 0, .retAddr 0], [.int 1]) (G, I, F) _ _
  refine vm_J.go vm_q295 (k := 1) (hs := []) (f' := (bif vm_ic .eq 1 0 then 14 else 7, (0, 0), [.ref 152, .int (nI t), .int i, .int (nI o), .int j, .int n, .retAddr 0, .retAddr 0, .retAddr 0, .retAddr 0], [])) (h' := (G, I, F)) (hs' := []) rfl rfl ?_
  refine vm_J.bF (by decide) ?_
  refine vm_J.go vm_q295 (k := 1) (hs := []) (f' := (8, (0, 0), [.ref 152, .int (nI t), .int i, .int (nI o), .int j, .int n, .retAddr 0, .retAddr 0, .retAddr 0, .retAddr 0], [.int (nI o)])) (h' := (G, I, F)) (hs' := []) rfl rfl ?_
  refine vm_J.call vm_q295 (Z := vm_M287) (n := 1) (k := 1) (mi := 287) (pc := 8) (en := (8, .invokestatic 495, 3, [287, 1799, 0], .null)) rfl trivial rfl rfl vm_z287 (av := [.int (nI o)]) (rest := []) (r_isTape_y (c := nI o) (vm_bp6 ho)) rfl (Nat.le_of_ble_eq_true rfl) ⟨Nat.le_of_ble_eq_true rfl, Nat.le_of_ble_eq_true rfl⟩ ⟨Nat.le_of_ble_eq_true rfl, Nat.le_of_ble_eq_true rfl⟩ ?_
  show vm_J _ _ _ (11, (0, 0), [.ref 152, .int (nI t), .int i, .int (nI o), .int j, .int n, .retAddr 0, .retAddr 0, .retAddr 0, .retAddr 0], [.int 1]) (G, I, F) _ _
  refine vm_J.go vm_q295 (k := 1) (hs := []) (f' := (bif vm_ic .ne 1 0 then 16 else 14, (0, 0), [.ref 152, .int (nI t), .int i, .int (nI o), .int j, .int n, .retAddr 0, .retAddr 0, .retAddr 0, .retAddr 0], [])) (h' := (G, I, F)) (hs' := []) rfl rfl ?_
  refine vm_J.bT (by decide) ?_
  refine vm_J.go vm_q295 (k := 4) (hs := [vm_shR, (0, 6, [])]) (f' := (22, (0, 0), [.ref 152, .int (nI t), .int i, .int (nI o), .int j, .int n, .retAddr 0, .retAddr 0, .retAddr 0, .retAddr 0], [.int (I 191 (nI t).toNatClampNeg)])) (h' := (G, I, F)) (hs' := []) rfl (vm_b2 rfl (vm_b2 (vm_b2 (vm_hG hR.c152) rfl) (vm_b2 rfl (vm_b2 (vm_b2 (vm_hG hR.c191) (vm_in_e (j := t) (n := 6) rfl (by omega) (by omega))) rfl)))) ?_
  rw [vm_ix_e (j := t) rfl (by omega)]
  refine vm_J.go vm_q295 (k := 1) (hs := []) (f' := (bif vm_ic .lt (I 191 t) 0 then 34 else 25, (0, 0), [.ref 152, .int (nI t), .int i, .int (nI o), .int j, .int n, .retAddr 0, .retAddr 0, .retAddr 0, .retAddr 0], [])) (h' := (G, I, F)) (hs' := []) rfl rfl ?_
  refine vm_J.bF (decide_eq_false hso) ?_
  refine vm_J.go vm_q295 (k := 4) (hs := [vm_shR, (0, 6, [])]) (f' := (31, (0, 0), [.ref 152, .int (nI t), .int i, .int (nI o), .int j, .int n, .retAddr 0, .retAddr 0, .retAddr 0, .retAddr 0], [.int (I 191 (nI o).toNatClampNeg)])) (h' := (G, I, F)) (hs' := []) rfl (vm_b2 rfl (vm_b2 (vm_b2 (vm_hG hR.c152) rfl) (vm_b2 rfl (vm_b2 (vm_b2 (vm_hG hR.c191) (vm_in_e (j := o) (n := 6) rfl (by omega) (by omega))) rfl)))) ?_
  rw [vm_ix_e (j := o) rfl (by omega)]
  refine vm_J.go vm_q295 (k := 1) (hs := []) (f' := (bif vm_ic .ge (I 191 o) 0 then 37 else 34, (0, 0), [.ref 152, .int (nI t), .int i, .int (nI o), .int j, .int n, .retAddr 0, .retAddr 0, .retAddr 0, .retAddr 0], [])) (h' := (G, I, F)) (hs' := []) rfl rfl ?_
  refine vm_J.bT (decide_eq_true (vm_nlt_le hsp)) ?_
  refine vm_J.go vm_q295 (k := 8) (hs := [vm_shR, (0, 6, []), vm_shR, (0, 6, [])]) (f' := (49, (0, 0), [.ref 152, .int (nI t), .int i, .int (nI o), .int j, .int n, .retAddr 0, .retAddr 0, .retAddr 0, .retAddr 0], [.int (I 191 (nI o).toNatClampNeg), .int (I 191 (nI t).toNatClampNeg)])) (h' := (G, I, F)) (hs' := []) rfl (vm_b2 rfl (vm_b2 (vm_b2 (vm_hG hR.c152) rfl) (vm_b2 rfl (vm_b2 (vm_b2 (vm_hG hR.c191) (vm_in_e (j := t) (n := 6) rfl (by omega) (by omega))) (vm_b2 rfl (vm_b2 (vm_b2 (vm_hG hR.c152) rfl) (vm_b2 rfl (vm_b2 (vm_b2 (vm_hG hR.c191) (vm_in_e (j := o) (n := 6) rfl (by omega) (by omega))) rfl)))))))) ?_
  rw [vm_ix_e (j := t) rfl (by omega), vm_ix_e (j := o) rfl (by omega)]
  refine vm_J.go vm_q295 (k := 1) (hs := []) (f' := (bif vm_ic .eq (I 191 t) (I 191 o) then 55 else 52, (0, 0), [.ref 152, .int (nI t), .int i, .int (nI o), .int j, .int n, .retAddr 0, .retAddr 0, .retAddr 0, .retAddr 0], [])) (h' := (G, I, F)) (hs' := []) rfl rfl ?_
  refine vm_J.bF (decide_eq_false hne) ?_
  refine vm_J.go vm_q295 (k := 1) (hs := []) (f' := (54, (0, 0), [.ref 152, .int (nI t), .int i, .int (nI o), .int j, .int n, .retAddr 0, .retAddr 0, .retAddr 0, .retAddr 0], [.int (-12)])) (h' := (G, I, F)) (hs' := []) rfl rfl ?_
  exact vm_J.end vm_q295 (en := (54, .ireturn, 1, [], .null)) rfl rfl vm_rI (Nat.zero_le _) (Nat.zero_le _) rfl
set_option maxHeartbeats 4000000 in
set_option maxRecDepth 20000 in
/-- DitherDeskModel.shift -/
theorem r_shift_p {l : Launch} {X : vm_Cx} {G : List vm_Sh} {I : Nat → Nat → Int32} {F : Nat → Nat → UInt32} {t : Nat} {o : Nat} {m : Nat} {k : Nat} {i : Int32} {j : Int32} {n : Int32} (hR : vm_isR G) (ht : t < 6) (ho : o < 6) (hm : I 192 t = nI m) (hk : I 192 o = nI k) (hm2 : m ≤ 150) (hk2 : k ≤ 150) (hso : ¬ I 191 t < 0) (hsp : ¬ I 191 o < 0) (heq : I 191 t = I 191 o) (hp : ¬ (¬ n < 0 ∧ ¬ i < 0 ∧ ¬ j < 0 ∧ i ≤ nI m - n ∧ j ≤ nI k - n)) : vm_K l X vm_M295 [.ref 152, .int (nI t), .int i, .int (nI o), .int j, .int n] (G, I, F) (some (.int (-13))) (G, I, F) := by
  refine vm_K.mk (by decide) (Nat.le_of_ble_eq_true rfl) ?_
  show vm_J _ _ _ (0, (0, 0), [.ref 152, .int (nI t), .int i, .int (nI o), .int j, .int n, .retAddr 0, .retAddr 0, .retAddr 0, .retAddr 0], []) _ _ _
  refine vm_J.go vm_q295 (k := 1) (hs := []) (f' := (1, (0, 0), [.ref 152, .int (nI t), .int i, .int (nI o), .int j, .int n, .retAddr 0, .retAddr 0, .retAddr 0, .retAddr 0], [.int (nI t)])) (h' := (G, I, F)) (hs' := []) rfl rfl ?_
  refine vm_J.call vm_q295 (Z := vm_M287) (n := 1) (k := 1) (mi := 287) (pc := 1) (en := (1, .invokestatic 495, 3, [287, 1799, 0], .null)) rfl trivial rfl rfl vm_z287 (av := [.int (nI t)]) (rest := []) (r_isTape_y (c := nI t) (vm_bp6 ht)) rfl (Nat.le_of_ble_eq_true rfl) ⟨Nat.le_of_ble_eq_true rfl, Nat.le_of_ble_eq_true rfl⟩ ⟨Nat.le_of_ble_eq_true rfl, Nat.le_of_ble_eq_true rfl⟩ ?_
  show vm_J _ _ _ (4, (0, 0), [.ref 152, .int (nI t), .int i, .int (nI o), .int j, .int n, .retAddr 0, .retAddr 0, .retAddr 0, .retAddr 0], [.int 1]) (G, I, F) _ _
  refine vm_J.go vm_q295 (k := 1) (hs := []) (f' := (bif vm_ic .eq 1 0 then 14 else 7, (0, 0), [.ref 152, .int (nI t), .int i, .int (nI o), .int j, .int n, .retAddr 0, .retAddr 0, .retAddr 0, .retAddr 0], [])) (h' := (G, I, F)) (hs' := []) rfl rfl ?_
  refine vm_J.bF (by decide) ?_
  refine vm_J.go vm_q295 (k := 1) (hs := []) (f' := (8, (0, 0), [.ref 152, .int (nI t), .int i, .int (nI o), .int j, .int n, .retAddr 0, .retAddr 0, .retAddr 0, .retAddr 0], [.int (nI o)])) (h' := (G, I, F)) (hs' := []) rfl rfl ?_
  refine vm_J.call vm_q295 (Z := vm_M287) (n := 1) (k := 1) (mi := 287) (pc := 8) (en := (8, .invokestatic 495, 3, [287, 1799, 0], .null)) rfl trivial rfl rfl vm_z287 (av := [.int (nI o)]) (rest := []) (r_isTape_y (c := nI o) (vm_bp6 ho)) rfl (Nat.le_of_ble_eq_true rfl) ⟨Nat.le_of_ble_eq_true rfl, Nat.le_of_ble_eq_true rfl⟩ ⟨Nat.le_of_ble_eq_true rfl, Nat.le_of_ble_eq_true rfl⟩ ?_
  show vm_J _ _ _ (11, (0, 0), [.ref 152, .int (nI t), .int i, .int (nI o), .int j, .int n, .retAddr 0, .retAddr 0, .retAddr 0, .retAddr 0], [.int 1]) (G, I, F) _ _
  refine vm_J.go vm_q295 (k := 1) (hs := []) (f' := (bif vm_ic .ne 1 0 then 16 else 14, (0, 0), [.ref 152, .int (nI t), .int i, .int (nI o), .int j, .int n, .retAddr 0, .retAddr 0, .retAddr 0, .retAddr 0], [])) (h' := (G, I, F)) (hs' := []) rfl rfl ?_
  refine vm_J.bT (by decide) ?_
  refine vm_J.go vm_q295 (k := 4) (hs := [vm_shR, (0, 6, [])]) (f' := (22, (0, 0), [.ref 152, .int (nI t), .int i, .int (nI o), .int j, .int n, .retAddr 0, .retAddr 0, .retAddr 0, .retAddr 0], [.int (I 191 (nI t).toNatClampNeg)])) (h' := (G, I, F)) (hs' := []) rfl (vm_b2 rfl (vm_b2 (vm_b2 (vm_hG hR.c152) rfl) (vm_b2 rfl (vm_b2 (vm_b2 (vm_hG hR.c191) (vm_in_e (j := t) (n := 6) rfl (by omega) (by omega))) rfl)))) ?_
  rw [vm_ix_e (j := t) rfl (by omega)]
  refine vm_J.go vm_q295 (k := 1) (hs := []) (f' := (bif vm_ic .lt (I 191 t) 0 then 34 else 25, (0, 0), [.ref 152, .int (nI t), .int i, .int (nI o), .int j, .int n, .retAddr 0, .retAddr 0, .retAddr 0, .retAddr 0], [])) (h' := (G, I, F)) (hs' := []) rfl rfl ?_
  refine vm_J.bF (decide_eq_false hso) ?_
  refine vm_J.go vm_q295 (k := 4) (hs := [vm_shR, (0, 6, [])]) (f' := (31, (0, 0), [.ref 152, .int (nI t), .int i, .int (nI o), .int j, .int n, .retAddr 0, .retAddr 0, .retAddr 0, .retAddr 0], [.int (I 191 (nI o).toNatClampNeg)])) (h' := (G, I, F)) (hs' := []) rfl (vm_b2 rfl (vm_b2 (vm_b2 (vm_hG hR.c152) rfl) (vm_b2 rfl (vm_b2 (vm_b2 (vm_hG hR.c191) (vm_in_e (j := o) (n := 6) rfl (by omega) (by omega))) rfl)))) ?_
  rw [vm_ix_e (j := o) rfl (by omega)]
  refine vm_J.go vm_q295 (k := 1) (hs := []) (f' := (bif vm_ic .ge (I 191 o) 0 then 37 else 34, (0, 0), [.ref 152, .int (nI t), .int i, .int (nI o), .int j, .int n, .retAddr 0, .retAddr 0, .retAddr 0, .retAddr 0], [])) (h' := (G, I, F)) (hs' := []) rfl rfl ?_
  refine vm_J.bT (decide_eq_true (vm_nlt_le hsp)) ?_
  refine vm_J.go vm_q295 (k := 8) (hs := [vm_shR, (0, 6, []), vm_shR, (0, 6, [])]) (f' := (49, (0, 0), [.ref 152, .int (nI t), .int i, .int (nI o), .int j, .int n, .retAddr 0, .retAddr 0, .retAddr 0, .retAddr 0], [.int (I 191 (nI o).toNatClampNeg), .int (I 191 (nI t).toNatClampNeg)])) (h' := (G, I, F)) (hs' := []) rfl (vm_b2 rfl (vm_b2 (vm_b2 (vm_hG hR.c152) rfl) (vm_b2 rfl (vm_b2 (vm_b2 (vm_hG hR.c191) (vm_in_e (j := t) (n := 6) rfl (by omega) (by omega))) (vm_b2 rfl (vm_b2 (vm_b2 (vm_hG hR.c152) rfl) (vm_b2 rfl (vm_b2 (vm_b2 (vm_hG hR.c191) (vm_in_e (j := o) (n := 6) rfl (by omega) (by omega))) rfl)))))))) ?_
  rw [vm_ix_e (j := t) rfl (by omega), vm_ix_e (j := o) rfl (by omega)]
  refine vm_J.go vm_q295 (k := 1) (hs := []) (f' := (bif vm_ic .eq (I 191 t) (I 191 o) then 55 else 52, (0, 0), [.ref 152, .int (nI t), .int i, .int (nI o), .int j, .int n, .retAddr 0, .retAddr 0, .retAddr 0, .retAddr 0], [])) (h' := (G, I, F)) (hs' := []) rfl rfl ?_
  refine vm_J.bT (decide_eq_true heq) ?_
  refine vm_J.go vm_q295 (k := 2) (hs := []) (f' := (bif vm_ic .lt n 0 then 96 else 60, (0, 0), [.ref 152, .int (nI t), .int i, .int (nI o), .int j, .int n, .retAddr 0, .retAddr 0, .retAddr 0, .retAddr 0], [])) (h' := (G, I, F)) (hs' := []) rfl rfl ?_
  refine vm_J.br (fun c1 => ?_) (fun c1 => ?_)
  · have c1 : n < 0 := of_decide_eq_true c1
    refine vm_J.go vm_q295 (k := 1) (hs := []) (f' := (98, (0, 0), [.ref 152, .int (nI t), .int i, .int (nI o), .int j, .int n, .retAddr 0, .retAddr 0, .retAddr 0, .retAddr 0], [.int (-13)])) (h' := (G, I, F)) (hs' := []) rfl rfl ?_
    exact vm_J.end vm_q295 (en := (98, .ireturn, 1, [], .null)) rfl rfl vm_rI (Nat.zero_le _) (Nat.zero_le _) rfl
  · have c1 : ¬ (n < 0) := of_decide_eq_false c1
    refine vm_J.go vm_q295 (k := 2) (hs := []) (f' := (bif vm_ic .lt i 0 then 96 else 64, (0, 0), [.ref 152, .int (nI t), .int i, .int (nI o), .int j, .int n, .retAddr 0, .retAddr 0, .retAddr 0, .retAddr 0], [])) (h' := (G, I, F)) (hs' := []) rfl rfl ?_
    refine vm_J.br (fun c2 => ?_) (fun c2 => ?_)
    · have c2 : i < 0 := of_decide_eq_true c2
      refine vm_J.go vm_q295 (k := 1) (hs := []) (f' := (98, (0, 0), [.ref 152, .int (nI t), .int i, .int (nI o), .int j, .int n, .retAddr 0, .retAddr 0, .retAddr 0, .retAddr 0], [.int (-13)])) (h' := (G, I, F)) (hs' := []) rfl rfl ?_
      exact vm_J.end vm_q295 (en := (98, .ireturn, 1, [], .null)) rfl rfl vm_rI (Nat.zero_le _) (Nat.zero_le _) rfl
    · have c2 : ¬ (i < 0) := of_decide_eq_false c2
      refine vm_J.go vm_q295 (k := 2) (hs := []) (f' := (bif vm_ic .lt j 0 then 96 else 69, (0, 0), [.ref 152, .int (nI t), .int i, .int (nI o), .int j, .int n, .retAddr 0, .retAddr 0, .retAddr 0, .retAddr 0], [])) (h' := (G, I, F)) (hs' := []) rfl rfl ?_
      refine vm_J.br (fun c3 => ?_) (fun c3 => ?_)
      · have c3 : j < 0 := of_decide_eq_true c3
        refine vm_J.go vm_q295 (k := 1) (hs := []) (f' := (98, (0, 0), [.ref 152, .int (nI t), .int i, .int (nI o), .int j, .int n, .retAddr 0, .retAddr 0, .retAddr 0, .retAddr 0], [.int (-13)])) (h' := (G, I, F)) (hs' := []) rfl rfl ?_
        exact vm_J.end vm_q295 (en := (98, .ireturn, 1, [], .null)) rfl rfl vm_rI (Nat.zero_le _) (Nat.zero_le _) rfl
      · have c3 : ¬ (j < 0) := of_decide_eq_false c3
        refine vm_J.go vm_q295 (k := 5) (hs := [vm_shR, (0, 6, [])]) (f' := (76, (0, 0), [.ref 152, .int (nI t), .int i, .int (nI o), .int j, .int n, .retAddr 0, .retAddr 0, .retAddr 0, .retAddr 0], [.int (I 192 (nI t).toNatClampNeg), .int i])) (h' := (G, I, F)) (hs' := []) rfl (vm_b2 rfl (vm_b2 rfl (vm_b2 (vm_b2 (vm_hG hR.c152) rfl) (vm_b2 rfl (vm_b2 (vm_b2 (vm_hG hR.c192) (vm_in_e (j := t) (n := 6) rfl (by omega) (by omega))) rfl))))) ?_
        rw [vm_ix_e (j := t) rfl (by omega)]
        rw [(hm : I 192 t = nI m)]
        refine vm_J.go vm_q295 (k := 3) (hs := []) (f' := (bif vm_ic .gt i ((nI m) - n) then 96 else 82, (0, 0), [.ref 152, .int (nI t), .int i, .int (nI o), .int j, .int n, .retAddr 0, .retAddr 0, .retAddr 0, .retAddr 0], [])) (h' := (G, I, F)) (hs' := []) rfl rfl ?_
        refine vm_J.br (fun c4 => ?_) (fun c4 => ?_)
        · have c4 : ((nI m) - n) < i := of_decide_eq_true c4
          refine vm_J.go vm_q295 (k := 1) (hs := []) (f' := (98, (0, 0), [.ref 152, .int (nI t), .int i, .int (nI o), .int j, .int n, .retAddr 0, .retAddr 0, .retAddr 0, .retAddr 0], [.int (-13)])) (h' := (G, I, F)) (hs' := []) rfl rfl ?_
          exact vm_J.end vm_q295 (en := (98, .ireturn, 1, [], .null)) rfl rfl vm_rI (Nat.zero_le _) (Nat.zero_le _) rfl
        · have c4 : ¬ (((nI m) - n) < i) := of_decide_eq_false c4
          refine vm_J.go vm_q295 (k := 5) (hs := [vm_shR, (0, 6, [])]) (f' := (90, (0, 0), [.ref 152, .int (nI t), .int i, .int (nI o), .int j, .int n, .retAddr 0, .retAddr 0, .retAddr 0, .retAddr 0], [.int (I 192 (nI o).toNatClampNeg), .int j])) (h' := (G, I, F)) (hs' := []) rfl (vm_b2 rfl (vm_b2 rfl (vm_b2 (vm_b2 (vm_hG hR.c152) rfl) (vm_b2 rfl (vm_b2 (vm_b2 (vm_hG hR.c192) (vm_in_e (j := o) (n := 6) rfl (by omega) (by omega))) rfl))))) ?_
          rw [vm_ix_e (j := o) rfl (by omega)]
          rw [(hk : I 192 o = nI k)]
          refine vm_J.go vm_q295 (k := 3) (hs := []) (f' := (bif vm_ic .le j ((nI k) - n) then 99 else 96, (0, 0), [.ref 152, .int (nI t), .int i, .int (nI o), .int j, .int n, .retAddr 0, .retAddr 0, .retAddr 0, .retAddr 0], [])) (h' := (G, I, F)) (hs' := []) rfl rfl ?_
          refine vm_J.br (fun c5 => ?_) (fun c5 => ?_)
          · have c5 : j ≤ ((nI k) - n) := of_decide_eq_true c5
            exact absurd ⟨c1, c2, c3, vm_nlt_le c4, c5⟩ hp
          · have c5 : ¬ (j ≤ ((nI k) - n)) := of_decide_eq_false c5
            refine vm_J.go vm_q295 (k := 1) (hs := []) (f' := (98, (0, 0), [.ref 152, .int (nI t), .int i, .int (nI o), .int j, .int n, .retAddr 0, .retAddr 0, .retAddr 0, .retAddr 0], [.int (-13)])) (h' := (G, I, F)) (hs' := []) rfl rfl ?_
            exact vm_J.end vm_q295 (en := (98, .ireturn, 1, [], .null)) rfl rfl vm_rI (Nat.zero_le _) (Nat.zero_le _) rfl
set_option maxHeartbeats 4000000 in
set_option maxRecDepth 20000 in
/-- DitherDeskModel.shift -/
theorem r_shift_u {l : Launch} {X : vm_Cx} {G : List vm_Sh} {I : Nat → Nat → Int32} {F : Nat → Nat → UInt32} {t : Nat} {o : Nat} {m : Nat} {k : Nat} {i : Nat} {j : Nat} {n : Nat} (hR : vm_isR G) (ht : t < 6) (ho : o < 6) (hm : I 192 t = nI m) (hk : I 192 o = nI k) (hm2 : m ≤ 150) (hk2 : k ≤ 150) (hso : ¬ I 191 t < 0) (hsp : ¬ I 191 o < 0) (heq : I 191 t = I 191 o) (hi : i + n ≤ m) (hj : j + n ≤ k) (hd : 150 * t + i < 150 * o + j) : vm_K l X vm_M295 [.ref 152, .int (nI t), .int (nI i), .int (nI o), .int (nI j), .int (nI n)] (G, I, F) (some (.int (nI n))) (G, (vm_wq I 193 (vm_mvf I 193 (150 * t + i) (150 * o + j)) (150 * o + j) n), F) := by
  refine vm_K.mk (by decide) (Nat.le_of_ble_eq_true rfl) ?_
  show vm_J _ _ _ (0, (0, 0), [.ref 152, .int (nI t), .int (nI i), .int (nI o), .int (nI j), .int (nI n), .retAddr 0, .retAddr 0, .retAddr 0, .retAddr 0], []) _ _ _
  refine vm_J.go vm_q295 (k := 1) (hs := []) (f' := (1, (0, 0), [.ref 152, .int (nI t), .int (nI i), .int (nI o), .int (nI j), .int (nI n), .retAddr 0, .retAddr 0, .retAddr 0, .retAddr 0], [.int (nI t)])) (h' := (G, I, F)) (hs' := []) rfl rfl ?_
  refine vm_J.call vm_q295 (Z := vm_M287) (n := 1) (k := 1) (mi := 287) (pc := 1) (en := (1, .invokestatic 495, 3, [287, 1799, 0], .null)) rfl trivial rfl rfl vm_z287 (av := [.int (nI t)]) (rest := []) (r_isTape_y (c := nI t) (vm_bp6 ht)) rfl (Nat.le_of_ble_eq_true rfl) ⟨Nat.le_of_ble_eq_true rfl, Nat.le_of_ble_eq_true rfl⟩ ⟨Nat.le_of_ble_eq_true rfl, Nat.le_of_ble_eq_true rfl⟩ ?_
  show vm_J _ _ _ (4, (0, 0), [.ref 152, .int (nI t), .int (nI i), .int (nI o), .int (nI j), .int (nI n), .retAddr 0, .retAddr 0, .retAddr 0, .retAddr 0], [.int 1]) (G, I, F) _ _
  refine vm_J.go vm_q295 (k := 1) (hs := []) (f' := (bif vm_ic .eq 1 0 then 14 else 7, (0, 0), [.ref 152, .int (nI t), .int (nI i), .int (nI o), .int (nI j), .int (nI n), .retAddr 0, .retAddr 0, .retAddr 0, .retAddr 0], [])) (h' := (G, I, F)) (hs' := []) rfl rfl ?_
  refine vm_J.bF (by decide) ?_
  refine vm_J.go vm_q295 (k := 1) (hs := []) (f' := (8, (0, 0), [.ref 152, .int (nI t), .int (nI i), .int (nI o), .int (nI j), .int (nI n), .retAddr 0, .retAddr 0, .retAddr 0, .retAddr 0], [.int (nI o)])) (h' := (G, I, F)) (hs' := []) rfl rfl ?_
  refine vm_J.call vm_q295 (Z := vm_M287) (n := 1) (k := 1) (mi := 287) (pc := 8) (en := (8, .invokestatic 495, 3, [287, 1799, 0], .null)) rfl trivial rfl rfl vm_z287 (av := [.int (nI o)]) (rest := []) (r_isTape_y (c := nI o) (vm_bp6 ho)) rfl (Nat.le_of_ble_eq_true rfl) ⟨Nat.le_of_ble_eq_true rfl, Nat.le_of_ble_eq_true rfl⟩ ⟨Nat.le_of_ble_eq_true rfl, Nat.le_of_ble_eq_true rfl⟩ ?_
  show vm_J _ _ _ (11, (0, 0), [.ref 152, .int (nI t), .int (nI i), .int (nI o), .int (nI j), .int (nI n), .retAddr 0, .retAddr 0, .retAddr 0, .retAddr 0], [.int 1]) (G, I, F) _ _
  refine vm_J.go vm_q295 (k := 1) (hs := []) (f' := (bif vm_ic .ne 1 0 then 16 else 14, (0, 0), [.ref 152, .int (nI t), .int (nI i), .int (nI o), .int (nI j), .int (nI n), .retAddr 0, .retAddr 0, .retAddr 0, .retAddr 0], [])) (h' := (G, I, F)) (hs' := []) rfl rfl ?_
  refine vm_J.bT (by decide) ?_
  refine vm_J.go vm_q295 (k := 4) (hs := [vm_shR, (0, 6, [])]) (f' := (22, (0, 0), [.ref 152, .int (nI t), .int (nI i), .int (nI o), .int (nI j), .int (nI n), .retAddr 0, .retAddr 0, .retAddr 0, .retAddr 0], [.int (I 191 (nI t).toNatClampNeg)])) (h' := (G, I, F)) (hs' := []) rfl (vm_b2 rfl (vm_b2 (vm_b2 (vm_hG hR.c152) rfl) (vm_b2 rfl (vm_b2 (vm_b2 (vm_hG hR.c191) (vm_in_e (j := t) (n := 6) rfl (by omega) (by omega))) rfl)))) ?_
  rw [vm_ix_e (j := t) rfl (by omega)]
  refine vm_J.go vm_q295 (k := 1) (hs := []) (f' := (bif vm_ic .lt (I 191 t) 0 then 34 else 25, (0, 0), [.ref 152, .int (nI t), .int (nI i), .int (nI o), .int (nI j), .int (nI n), .retAddr 0, .retAddr 0, .retAddr 0, .retAddr 0], [])) (h' := (G, I, F)) (hs' := []) rfl rfl ?_
  refine vm_J.bF (decide_eq_false hso) ?_
  refine vm_J.go vm_q295 (k := 4) (hs := [vm_shR, (0, 6, [])]) (f' := (31, (0, 0), [.ref 152, .int (nI t), .int (nI i), .int (nI o), .int (nI j), .int (nI n), .retAddr 0, .retAddr 0, .retAddr 0, .retAddr 0], [.int (I 191 (nI o).toNatClampNeg)])) (h' := (G, I, F)) (hs' := []) rfl (vm_b2 rfl (vm_b2 (vm_b2 (vm_hG hR.c152) rfl) (vm_b2 rfl (vm_b2 (vm_b2 (vm_hG hR.c191) (vm_in_e (j := o) (n := 6) rfl (by omega) (by omega))) rfl)))) ?_
  rw [vm_ix_e (j := o) rfl (by omega)]
  refine vm_J.go vm_q295 (k := 1) (hs := []) (f' := (bif vm_ic .ge (I 191 o) 0 then 37 else 34, (0, 0), [.ref 152, .int (nI t), .int (nI i), .int (nI o), .int (nI j), .int (nI n), .retAddr 0, .retAddr 0, .retAddr 0, .retAddr 0], [])) (h' := (G, I, F)) (hs' := []) rfl rfl ?_
  refine vm_J.bT (decide_eq_true (vm_nlt_le hsp)) ?_
  refine vm_J.go vm_q295 (k := 8) (hs := [vm_shR, (0, 6, []), vm_shR, (0, 6, [])]) (f' := (49, (0, 0), [.ref 152, .int (nI t), .int (nI i), .int (nI o), .int (nI j), .int (nI n), .retAddr 0, .retAddr 0, .retAddr 0, .retAddr 0], [.int (I 191 (nI o).toNatClampNeg), .int (I 191 (nI t).toNatClampNeg)])) (h' := (G, I, F)) (hs' := []) rfl (vm_b2 rfl (vm_b2 (vm_b2 (vm_hG hR.c152) rfl) (vm_b2 rfl (vm_b2 (vm_b2 (vm_hG hR.c191) (vm_in_e (j := t) (n := 6) rfl (by omega) (by omega))) (vm_b2 rfl (vm_b2 (vm_b2 (vm_hG hR.c152) rfl) (vm_b2 rfl (vm_b2 (vm_b2 (vm_hG hR.c191) (vm_in_e (j := o) (n := 6) rfl (by omega) (by omega))) rfl)))))))) ?_
  rw [vm_ix_e (j := t) rfl (by omega), vm_ix_e (j := o) rfl (by omega)]
  refine vm_J.go vm_q295 (k := 1) (hs := []) (f' := (bif vm_ic .eq (I 191 t) (I 191 o) then 55 else 52, (0, 0), [.ref 152, .int (nI t), .int (nI i), .int (nI o), .int (nI j), .int (nI n), .retAddr 0, .retAddr 0, .retAddr 0, .retAddr 0], [])) (h' := (G, I, F)) (hs' := []) rfl rfl ?_
  refine vm_J.bT (decide_eq_true heq) ?_
  refine vm_J.go vm_q295 (k := 2) (hs := []) (f' := (bif vm_ic .lt (nI n) 0 then 96 else 60, (0, 0), [.ref 152, .int (nI t), .int (nI i), .int (nI o), .int (nI j), .int (nI n), .retAddr 0, .retAddr 0, .retAddr 0, .retAddr 0], [])) (h' := (G, I, F)) (hs' := []) rfl rfl ?_
  refine vm_J.br (fun c1 => ?_) (fun c1 => ?_)
  · have c1 := vm_lt_t (a := n) (b := 0) (by omega) (by omega) c1
    exact (show False by omega).elim
  · have c1 := vm_lt_f (a := n) (b := 0) (by omega) (by omega) c1
    refine vm_J.go vm_q295 (k := 2) (hs := []) (f' := (bif vm_ic .lt (nI i) 0 then 96 else 64, (0, 0), [.ref 152, .int (nI t), .int (nI i), .int (nI o), .int (nI j), .int (nI n), .retAddr 0, .retAddr 0, .retAddr 0, .retAddr 0], [])) (h' := (G, I, F)) (hs' := []) rfl rfl ?_
    refine vm_J.br (fun c2 => ?_) (fun c2 => ?_)
    · have c2 := vm_lt_t (a := i) (b := 0) (by omega) (by omega) c2
      exact (show False by omega).elim
    · have c2 := vm_lt_f (a := i) (b := 0) (by omega) (by omega) c2
      refine vm_J.go vm_q295 (k := 2) (hs := []) (f' := (bif vm_ic .lt (nI j) 0 then 96 else 69, (0, 0), [.ref 152, .int (nI t), .int (nI i), .int (nI o), .int (nI j), .int (nI n), .retAddr 0, .retAddr 0, .retAddr 0, .retAddr 0], [])) (h' := (G, I, F)) (hs' := []) rfl rfl ?_
      refine vm_J.br (fun c3 => ?_) (fun c3 => ?_)
      · have c3 := vm_lt_t (a := j) (b := 0) (by omega) (by omega) c3
        exact (show False by omega).elim
      · have c3 := vm_lt_f (a := j) (b := 0) (by omega) (by omega) c3
        refine vm_J.go vm_q295 (k := 5) (hs := [vm_shR, (0, 6, [])]) (f' := (76, (0, 0), [.ref 152, .int (nI t), .int (nI i), .int (nI o), .int (nI j), .int (nI n), .retAddr 0, .retAddr 0, .retAddr 0, .retAddr 0], [.int (I 192 (nI t).toNatClampNeg), .int (nI i)])) (h' := (G, I, F)) (hs' := []) rfl (vm_b2 rfl (vm_b2 rfl (vm_b2 (vm_b2 (vm_hG hR.c152) rfl) (vm_b2 rfl (vm_b2 (vm_b2 (vm_hG hR.c192) (vm_in_e (j := t) (n := 6) rfl (by omega) (by omega))) rfl))))) ?_
        rw [vm_ix_e (j := t) rfl (by omega)]
        rw [(hm : I 192 t = nI m)]
        refine vm_J.go vm_q295 (k := 3) (hs := []) (f' := (bif vm_ic .gt (nI i) ((nI m) - (nI n)) then 96 else 82, (0, 0), [.ref 152, .int (nI t), .int (nI i), .int (nI o), .int (nI j), .int (nI n), .retAddr 0, .retAddr 0, .retAddr 0, .retAddr 0], [])) (h' := (G, I, F)) (hs' := []) rfl rfl ?_
        refine vm_J.br (fun c4 => ?_) (fun c4 => ?_)
        · rw [((vm_ps (rfl : (nI m : Int32) = nI m) (rfl : (nI n : Int32) = nI n) (by omega)) : (nI m) - (nI n) = nI (m - n))] at c4
          have c4 := vm_gt_t (a := i) (b := m - n) (by omega) (by omega) c4
          exact (show False by omega).elim
        · rw [((vm_ps (rfl : (nI m : Int32) = nI m) (rfl : (nI n : Int32) = nI n) (by omega)) : (nI m) - (nI n) = nI (m - n))] at c4
          have c4 := vm_gt_f (a := i) (b := m - n) (by omega) (by omega) c4
          refine vm_J.go vm_q295 (k := 5) (hs := [vm_shR, (0, 6, [])]) (f' := (90, (0, 0), [.ref 152, .int (nI t), .int (nI i), .int (nI o), .int (nI j), .int (nI n), .retAddr 0, .retAddr 0, .retAddr 0, .retAddr 0], [.int (I 192 (nI o).toNatClampNeg), .int (nI j)])) (h' := (G, I, F)) (hs' := []) rfl (vm_b2 rfl (vm_b2 rfl (vm_b2 (vm_b2 (vm_hG hR.c152) rfl) (vm_b2 rfl (vm_b2 (vm_b2 (vm_hG hR.c192) (vm_in_e (j := o) (n := 6) rfl (by omega) (by omega))) rfl))))) ?_
          rw [vm_ix_e (j := o) rfl (by omega)]
          rw [(hk : I 192 o = nI k)]
          refine vm_J.go vm_q295 (k := 3) (hs := []) (f' := (bif vm_ic .le (nI j) ((nI k) - (nI n)) then 99 else 96, (0, 0), [.ref 152, .int (nI t), .int (nI i), .int (nI o), .int (nI j), .int (nI n), .retAddr 0, .retAddr 0, .retAddr 0, .retAddr 0], [])) (h' := (G, I, F)) (hs' := []) rfl rfl ?_
          refine vm_J.br (fun c5 => ?_) (fun c5 => ?_)
          · rw [((vm_ps (rfl : (nI k : Int32) = nI k) (rfl : (nI n : Int32) = nI n) (by omega)) : (nI k) - (nI n) = nI (k - n))] at c5
            have c5 := vm_le_t (a := j) (b := k - n) (by omega) (by omega) c5
            refine vm_J.go vm_q295 (k := 14) (hs := []) (f' := (121, (0, 0), [.ref 152, .int (nI t), .int (nI i), .int (nI o), .int (nI j), .int (nI n), .int ((150 * (nI t)) + (nI i)), .int ((150 * (nI o)) + (nI j)), .int 0, .retAddr 0], [])) (h' := (G, I, F)) (hs' := []) rfl rfl ?_
            rw [((vm_pa (vm_pm (rfl : (150 : Int32) = nI 150) (rfl : (nI t : Int32) = nI t)) (rfl : (nI i : Int32) = nI i)) : (150 * (nI t)) + (nI i) = nI ((150 * t) + i)), ((vm_pa (vm_pm (rfl : (150 : Int32) = nI 150) (rfl : (nI o : Int32) = nI o)) (rfl : (nI j : Int32) = nI j)) : (150 * (nI o)) + (nI j) = nI ((150 * o) + j))]
            refine vm_J.cnt n (fun e => (121, (0, 0), [.ref 152, .int (nI t), .int (nI i), .int (nI o), .int (nI j), .int (nI n), .int (nI (150 * t + i)), .int (nI (150 * o + j)), .int (nI e), .retAddr 0], [])) (fun e => (G, (vm_wq I 193 (vm_mvf I 193 (150 * t + i) (150 * o + j)) (150 * o + j + (n - e)) e), F)) (fun _ => True) rfl (by rw [← vm_wq_0]) trivial (fun e he pe ie => ?_) (fun pe => ?_)
            · show vm_J _ _ _ (121, (0, 0), [.ref 152, .int (nI t), .int (nI i), .int (nI o), .int (nI j), .int (nI n), .int (nI (150 * t + i)), .int (nI (150 * o + j)), .int (nI e), .retAddr 0], []) (G, (vm_wq I 193 (vm_mvf I 193 (150 * t + i) (150 * o + j)) (150 * o + j + (n - e)) e), F) _ _
              refine vm_J.go vm_q295 (k := 3) (hs := []) (f' := (bif vm_ic .ge (nI e) (nI n) then 175 else 128, (0, 0), [.ref 152, .int (nI t), .int (nI i), .int (nI o), .int (nI j), .int (nI n), .int (nI (150 * t + i)), .int (nI (150 * o + j)), .int (nI e), .retAddr 0], [])) (h' := (G, (vm_wq I 193 (vm_mvf I 193 (150 * t + i) (150 * o + j)) (150 * o + j + (n - e)) e), F)) (hs' := []) rfl rfl ?_
              refine vm_J.br (fun c6 => ?_) (fun c6 => ?_)
              · have c6 := vm_ge_t (a := e) (b := n) (by omega) (by omega) c6
                exact (show False by omega).elim
              · have c6 := vm_ge_f (a := e) (b := n) (by omega) (by omega) c6
                refine vm_J.go vm_q295 (k := 3) (hs := []) (f' := (bif vm_ic .ge (nI (150 * t + i)) (nI (150 * o + j)) then 145 else 135, (0, 0), [.ref 152, .int (nI t), .int (nI i), .int (nI o), .int (nI j), .int (nI n), .int (nI (150 * t + i)), .int (nI (150 * o + j)), .int (nI e), .retAddr 0], [])) (h' := (G, (vm_wq I 193 (vm_mvf I 193 (150 * t + i) (150 * o + j)) (150 * o + j + (n - e)) e), F)) (hs' := []) rfl rfl ?_
                refine vm_J.br (fun c7 => ?_) (fun c7 => ?_)
                · have c7 := vm_ge_t (a := 150 * t + i) (b := 150 * o + j) (by omega) (by omega) c7
                  exact (show False by omega).elim
                · have c7 := vm_ge_f (a := 150 * t + i) (b := 150 * o + j) (by omega) (by omega) c7
                  refine vm_J.go vm_q295 (k := 21) (hs := [vm_shR, vm_shR, (0, 900, []), (0, 900, [])]) (f' := (121, (0, 0), [.ref 152, .int (nI t), .int (nI i), .int (nI o), .int (nI j), .int (nI n), .int (nI (150 * t + i)), .int (nI (150 * o + j)), .int ((nI e) + 1), .int (((nI n) - 1) - (nI e))], [])) (h' := (G, (vm_up (vm_wq I 193 (vm_mvf I 193 (150 * t + i) (150 * o + j)) (150 * o + j + (n - e)) e) 193 (((nI (150 * o + j)) + (((nI n) - 1) - (nI e))).toNatClampNeg) ((vm_wq I 193 (vm_mvf I 193 (150 * t + i) (150 * o + j)) (150 * o + j + (n - e)) e) 193 ((nI (150 * t + i)) + (((nI n) - 1) - (nI e))).toNatClampNeg)), F)) (hs' := []) rfl (vm_b2 rfl (vm_b2 rfl (vm_b2 rfl (vm_b2 rfl (vm_b2 rfl (vm_b2 rfl (vm_b2 rfl (vm_b2 rfl (vm_b2 (vm_b2 (vm_hG hR.c152) rfl) (vm_b2 rfl (vm_b2 rfl (vm_b2 rfl (vm_b2 rfl (vm_b2 (vm_b2 (vm_hG hR.c152) rfl) (vm_b2 rfl (vm_b2 rfl (vm_b2 rfl (vm_b2 (vm_b2 (vm_hG hR.c193) (vm_in_e (j := (150 * t + i) + ((n - 1) - e)) (n := 900) (vm_pa (rfl : (nI (150 * t + i) : Int32) = nI (150 * t + i)) (vm_ps (vm_ps (rfl : (nI n : Int32) = nI n) (rfl : (1 : Int32) = nI 1) (by omega)) (rfl : (nI e : Int32) = nI e) (by omega))) (by omega) (by omega))) (vm_b2 (vm_b2 (vm_hG hR.c193) (vm_in_e (j := (150 * o + j) + ((n - 1) - e)) (n := 900) (vm_pa (rfl : (nI (150 * o + j) : Int32) = nI (150 * o + j)) (vm_ps (vm_ps (rfl : (nI n : Int32) = nI n) (rfl : (1 : Int32) = nI 1) (by omega)) (rfl : (nI e : Int32) = nI e) (by omega))) (by omega) (by omega))) (vm_b2 rfl (vm_b2 rfl rfl))))))))))))))))))))) ?_
                  rw [vm_ix_e (j := (150 * t + i) + ((n - 1) - e)) (vm_pa (rfl : (nI (150 * t + i) : Int32) = nI (150 * t + i)) (vm_ps (vm_ps (rfl : (nI n : Int32) = nI n) (rfl : (1 : Int32) = nI 1) (by omega)) (rfl : (nI e : Int32) = nI e) (by omega))) (by omega), vm_ix_e (j := (150 * o + j) + ((n - 1) - e)) (vm_pa (rfl : (nI (150 * o + j) : Int32) = nI (150 * o + j)) (vm_ps (vm_ps (rfl : (nI n : Int32) = nI n) (rfl : (1 : Int32) = nI 1) (by omega)) (rfl : (nI e : Int32) = nI e) (by omega))) (by omega), ((vm_pa (rfl : nI e = nI e) (rfl : (1 : Int32) = nI 1)) : (nI e) + 1 = nI (e + 1)), ((vm_ps (vm_ps (rfl : (nI n : Int32) = nI n) (rfl : (1 : Int32) = nI 1) (by omega)) (rfl : (nI e : Int32) = nI e) (by omega)) : ((nI n) - 1) - (nI e) = nI ((n - 1) - e))]
                  refine vm_J.mask [true, true, true, true, true, true, true, true, true, false] ?_
                  show vm_J _ _ _ (121, (0, 0), [.ref 152, .int (nI t), .int (nI i), .int (nI o), .int (nI j), .int (nI n), .int (nI (150 * t + i)), .int (nI (150 * o + j)), .int (nI (e + 1)), .retAddr 0], []) (G, (vm_up (vm_wq I 193 (vm_mvf I 193 (150 * t + i) (150 * o + j)) (150 * o + j + (n - e)) e) 193 (((150 * o + j) + ((n - 1) - e))) ((vm_wq I 193 (vm_mvf I 193 (150 * t + i) (150 * o + j)) (150 * o + j + (n - e)) e) 193 ((150 * t + i) + ((n - 1) - e)))), F) _ _
                  rw [vm_mv_u I 193 193 (150 * t + i) (150 * o + j) n e he hd]
                  exact ie trivial
            · show vm_J _ _ _ (121, (0, 0), [.ref 152, .int (nI t), .int (nI i), .int (nI o), .int (nI j), .int (nI n), .int (nI (150 * t + i)), .int (nI (150 * o + j)), .int (nI n), .retAddr 0], []) (G, (vm_wq I 193 (vm_mvf I 193 (150 * t + i) (150 * o + j)) (150 * o + j + (n - n)) n), F) _ _
              refine vm_J.go vm_q295 (k := 3) (hs := []) (f' := (bif vm_ic .ge (nI n) (nI n) then 175 else 128, (0, 0), [.ref 152, .int (nI t), .int (nI i), .int (nI o), .int (nI j), .int (nI n), .int (nI (150 * t + i)), .int (nI (150 * o + j)), .int (nI n), .retAddr 0], [])) (h' := (G, (vm_wq I 193 (vm_mvf I 193 (150 * t + i) (150 * o + j)) (150 * o + j + (n - n)) n), F)) (hs' := []) rfl rfl ?_
              refine vm_J.br (fun c8 => ?_) (fun c8 => ?_)
              · have c8 := vm_ge_t (a := n) (b := n) (by omega) (by omega) c8
                refine vm_J.go vm_q295 (k := 1) (hs := []) (f' := (177, (0, 0), [.ref 152, .int (nI t), .int (nI i), .int (nI o), .int (nI j), .int (nI n), .int (nI (150 * t + i)), .int (nI (150 * o + j)), .int (nI n), .retAddr 0], [.int (nI n)])) (h' := (G, (vm_wq I 193 (vm_mvf I 193 (150 * t + i) (150 * o + j)) (150 * o + j + (n - n)) n), F)) (hs' := []) rfl rfl ?_
                exact vm_J.end vm_q295 (en := (177, .ireturn, 1, [], .null)) rfl rfl vm_rI (Nat.zero_le _) (Nat.zero_le _) (by first | rfl | rw [Nat.sub_self, Nat.add_zero])
              · have c8 := vm_ge_f (a := n) (b := n) (by omega) (by omega) c8
                exact (show False by omega).elim
          · rw [((vm_ps (rfl : (nI k : Int32) = nI k) (rfl : (nI n : Int32) = nI n) (by omega)) : (nI k) - (nI n) = nI (k - n))] at c5
            have c5 := vm_le_f (a := j) (b := k - n) (by omega) (by omega) c5
            exact (show False by omega).elim
set_option maxHeartbeats 4000000 in
set_option maxRecDepth 20000 in
/-- DitherDeskModel.shift -/
theorem r_shift_d {l : Launch} {X : vm_Cx} {G : List vm_Sh} {I : Nat → Nat → Int32} {F : Nat → Nat → UInt32} {t : Nat} {o : Nat} {m : Nat} {k : Nat} {i : Nat} {j : Nat} {n : Nat} (hR : vm_isR G) (ht : t < 6) (ho : o < 6) (hm : I 192 t = nI m) (hk : I 192 o = nI k) (hm2 : m ≤ 150) (hk2 : k ≤ 150) (hso : ¬ I 191 t < 0) (hsp : ¬ I 191 o < 0) (heq : I 191 t = I 191 o) (hi : i + n ≤ m) (hj : j + n ≤ k) (hd : ¬ 150 * t + i < 150 * o + j) : vm_K l X vm_M295 [.ref 152, .int (nI t), .int (nI i), .int (nI o), .int (nI j), .int (nI n)] (G, I, F) (some (.int (nI n))) (G, (vm_wq I 193 (vm_mvf I 193 (150 * t + i) (150 * o + j)) (150 * o + j) n), F) := by
  refine vm_K.mk (by decide) (Nat.le_of_ble_eq_true rfl) ?_
  show vm_J _ _ _ (0, (0, 0), [.ref 152, .int (nI t), .int (nI i), .int (nI o), .int (nI j), .int (nI n), .retAddr 0, .retAddr 0, .retAddr 0, .retAddr 0], []) _ _ _
  refine vm_J.go vm_q295 (k := 1) (hs := []) (f' := (1, (0, 0), [.ref 152, .int (nI t), .int (nI i), .int (nI o), .int (nI j), .int (nI n), .retAddr 0, .retAddr 0, .retAddr 0, .retAddr 0], [.int (nI t)])) (h' := (G, I, F)) (hs' := []) rfl rfl ?_
  refine vm_J.call vm_q295 (Z := vm_M287) (n := 1) (k := 1) (mi := 287) (pc := 1) (en := (1, .invokestatic 495, 3, [287, 1799, 0], .null)) rfl trivial rfl rfl vm_z287 (av := [.int (nI t)]) (rest := []) (r_isTape_y (c := nI t) (vm_bp6 ht)) rfl (Nat.le_of_ble_eq_true rfl) ⟨Nat.le_of_ble_eq_true rfl, Nat.le_of_ble_eq_true rfl⟩ ⟨Nat.le_of_ble_eq_true rfl, Nat.le_of_ble_eq_true rfl⟩ ?_
  show vm_J _ _ _ (4, (0, 0), [.ref 152, .int (nI t), .int (nI i), .int (nI o), .int (nI j), .int (nI n), .retAddr 0, .retAddr 0, .retAddr 0, .retAddr 0], [.int 1]) (G, I, F) _ _
  refine vm_J.go vm_q295 (k := 1) (hs := []) (f' := (bif vm_ic .eq 1 0 then 14 else 7, (0, 0), [.ref 152, .int (nI t), .int (nI i), .int (nI o), .int (nI j), .int (nI n), .retAddr 0, .retAddr 0, .retAddr 0, .retAddr 0], [])) (h' := (G, I, F)) (hs' := []) rfl rfl ?_
  refine vm_J.bF (by decide) ?_
  refine vm_J.go vm_q295 (k := 1) (hs := []) (f' := (8, (0, 0), [.ref 152, .int (nI t), .int (nI i), .int (nI o), .int (nI j), .int (nI n), .retAddr 0, .retAddr 0, .retAddr 0, .retAddr 0], [.int (nI o)])) (h' := (G, I, F)) (hs' := []) rfl rfl ?_
  refine vm_J.call vm_q295 (Z := vm_M287) (n := 1) (k := 1) (mi := 287) (pc := 8) (en := (8, .invokestatic 495, 3, [287, 1799, 0], .null)) rfl trivial rfl rfl vm_z287 (av := [.int (nI o)]) (rest := []) (r_isTape_y (c := nI o) (vm_bp6 ho)) rfl (Nat.le_of_ble_eq_true rfl) ⟨Nat.le_of_ble_eq_true rfl, Nat.le_of_ble_eq_true rfl⟩ ⟨Nat.le_of_ble_eq_true rfl, Nat.le_of_ble_eq_true rfl⟩ ?_
  show vm_J _ _ _ (11, (0, 0), [.ref 152, .int (nI t), .int (nI i), .int (nI o), .int (nI j), .int (nI n), .retAddr 0, .retAddr 0, .retAddr 0, .retAddr 0], [.int 1]) (G, I, F) _ _
  refine vm_J.go vm_q295 (k := 1) (hs := []) (f' := (bif vm_ic .ne 1 0 then 16 else 14, (0, 0), [.ref 152, .int (nI t), .int (nI i), .int (nI o), .int (nI j), .int (nI n), .retAddr 0, .retAddr 0, .retAddr 0, .retAddr 0], [])) (h' := (G, I, F)) (hs' := []) rfl rfl ?_
  refine vm_J.bT (by decide) ?_
  refine vm_J.go vm_q295 (k := 4) (hs := [vm_shR, (0, 6, [])]) (f' := (22, (0, 0), [.ref 152, .int (nI t), .int (nI i), .int (nI o), .int (nI j), .int (nI n), .retAddr 0, .retAddr 0, .retAddr 0, .retAddr 0], [.int (I 191 (nI t).toNatClampNeg)])) (h' := (G, I, F)) (hs' := []) rfl (vm_b2 rfl (vm_b2 (vm_b2 (vm_hG hR.c152) rfl) (vm_b2 rfl (vm_b2 (vm_b2 (vm_hG hR.c191) (vm_in_e (j := t) (n := 6) rfl (by omega) (by omega))) rfl)))) ?_
  rw [vm_ix_e (j := t) rfl (by omega)]
  refine vm_J.go vm_q295 (k := 1) (hs := []) (f' := (bif vm_ic .lt (I 191 t) 0 then 34 else 25, (0, 0), [.ref 152, .int (nI t), .int (nI i), .int (nI o), .int (nI j), .int (nI n), .retAddr 0, .retAddr 0, .retAddr 0, .retAddr 0], [])) (h' := (G, I, F)) (hs' := []) rfl rfl ?_
  refine vm_J.bF (decide_eq_false hso) ?_
  refine vm_J.go vm_q295 (k := 4) (hs := [vm_shR, (0, 6, [])]) (f' := (31, (0, 0), [.ref 152, .int (nI t), .int (nI i), .int (nI o), .int (nI j), .int (nI n), .retAddr 0, .retAddr 0, .retAddr 0, .retAddr 0], [.int (I 191 (nI o).toNatClampNeg)])) (h' := (G, I, F)) (hs' := []) rfl (vm_b2 rfl (vm_b2 (vm_b2 (vm_hG hR.c152) rfl) (vm_b2 rfl (vm_b2 (vm_b2 (vm_hG hR.c191) (vm_in_e (j := o) (n := 6) rfl (by omega) (by omega))) rfl)))) ?_
  rw [vm_ix_e (j := o) rfl (by omega)]
  refine vm_J.go vm_q295 (k := 1) (hs := []) (f' := (bif vm_ic .ge (I 191 o) 0 then 37 else 34, (0, 0), [.ref 152, .int (nI t), .int (nI i), .int (nI o), .int (nI j), .int (nI n), .retAddr 0, .retAddr 0, .retAddr 0, .retAddr 0], [])) (h' := (G, I, F)) (hs' := []) rfl rfl ?_
  refine vm_J.bT (decide_eq_true (vm_nlt_le hsp)) ?_
  refine vm_J.go vm_q295 (k := 8) (hs := [vm_shR, (0, 6, []), vm_shR, (0, 6, [])]) (f' := (49, (0, 0), [.ref 152, .int (nI t), .int (nI i), .int (nI o), .int (nI j), .int (nI n), .retAddr 0, .retAddr 0, .retAddr 0, .retAddr 0], [.int (I 191 (nI o).toNatClampNeg), .int (I 191 (nI t).toNatClampNeg)])) (h' := (G, I, F)) (hs' := []) rfl (vm_b2 rfl (vm_b2 (vm_b2 (vm_hG hR.c152) rfl) (vm_b2 rfl (vm_b2 (vm_b2 (vm_hG hR.c191) (vm_in_e (j := t) (n := 6) rfl (by omega) (by omega))) (vm_b2 rfl (vm_b2 (vm_b2 (vm_hG hR.c152) rfl) (vm_b2 rfl (vm_b2 (vm_b2 (vm_hG hR.c191) (vm_in_e (j := o) (n := 6) rfl (by omega) (by omega))) rfl)))))))) ?_
  rw [vm_ix_e (j := t) rfl (by omega), vm_ix_e (j := o) rfl (by omega)]
  refine vm_J.go vm_q295 (k := 1) (hs := []) (f' := (bif vm_ic .eq (I 191 t) (I 191 o) then 55 else 52, (0, 0), [.ref 152, .int (nI t), .int (nI i), .int (nI o), .int (nI j), .int (nI n), .retAddr 0, .retAddr 0, .retAddr 0, .retAddr 0], [])) (h' := (G, I, F)) (hs' := []) rfl rfl ?_
  refine vm_J.bT (decide_eq_true heq) ?_
  refine vm_J.go vm_q295 (k := 2) (hs := []) (f' := (bif vm_ic .lt (nI n) 0 then 96 else 60, (0, 0), [.ref 152, .int (nI t), .int (nI i), .int (nI o), .int (nI j), .int (nI n), .retAddr 0, .retAddr 0, .retAddr 0, .retAddr 0], [])) (h' := (G, I, F)) (hs' := []) rfl rfl ?_
  refine vm_J.br (fun c1 => ?_) (fun c1 => ?_)
  · have c1 := vm_lt_t (a := n) (b := 0) (by omega) (by omega) c1
    exact (show False by omega).elim
  · have c1 := vm_lt_f (a := n) (b := 0) (by omega) (by omega) c1
    refine vm_J.go vm_q295 (k := 2) (hs := []) (f' := (bif vm_ic .lt (nI i) 0 then 96 else 64, (0, 0), [.ref 152, .int (nI t), .int (nI i), .int (nI o), .int (nI j), .int (nI n), .retAddr 0, .retAddr 0, .retAddr 0, .retAddr 0], [])) (h' := (G, I, F)) (hs' := []) rfl rfl ?_
    refine vm_J.br (fun c2 => ?_) (fun c2 => ?_)
    · have c2 := vm_lt_t (a := i) (b := 0) (by omega) (by omega) c2
      exact (show False by omega).elim
    · have c2 := vm_lt_f (a := i) (b := 0) (by omega) (by omega) c2
      refine vm_J.go vm_q295 (k := 2) (hs := []) (f' := (bif vm_ic .lt (nI j) 0 then 96 else 69, (0, 0), [.ref 152, .int (nI t), .int (nI i), .int (nI o), .int (nI j), .int (nI n), .retAddr 0, .retAddr 0, .retAddr 0, .retAddr 0], [])) (h' := (G, I, F)) (hs' := []) rfl rfl ?_
      refine vm_J.br (fun c3 => ?_) (fun c3 => ?_)
      · have c3 := vm_lt_t (a := j) (b := 0) (by omega) (by omega) c3
        exact (show False by omega).elim
      · have c3 := vm_lt_f (a := j) (b := 0) (by omega) (by omega) c3
        refine vm_J.go vm_q295 (k := 5) (hs := [vm_shR, (0, 6, [])]) (f' := (76, (0, 0), [.ref 152, .int (nI t), .int (nI i), .int (nI o), .int (nI j), .int (nI n), .retAddr 0, .retAddr 0, .retAddr 0, .retAddr 0], [.int (I 192 (nI t).toNatClampNeg), .int (nI i)])) (h' := (G, I, F)) (hs' := []) rfl (vm_b2 rfl (vm_b2 rfl (vm_b2 (vm_b2 (vm_hG hR.c152) rfl) (vm_b2 rfl (vm_b2 (vm_b2 (vm_hG hR.c192) (vm_in_e (j := t) (n := 6) rfl (by omega) (by omega))) rfl))))) ?_
        rw [vm_ix_e (j := t) rfl (by omega)]
        rw [(hm : I 192 t = nI m)]
        refine vm_J.go vm_q295 (k := 3) (hs := []) (f' := (bif vm_ic .gt (nI i) ((nI m) - (nI n)) then 96 else 82, (0, 0), [.ref 152, .int (nI t), .int (nI i), .int (nI o), .int (nI j), .int (nI n), .retAddr 0, .retAddr 0, .retAddr 0, .retAddr 0], [])) (h' := (G, I, F)) (hs' := []) rfl rfl ?_
        refine vm_J.br (fun c4 => ?_) (fun c4 => ?_)
        · rw [((vm_ps (rfl : (nI m : Int32) = nI m) (rfl : (nI n : Int32) = nI n) (by omega)) : (nI m) - (nI n) = nI (m - n))] at c4
          have c4 := vm_gt_t (a := i) (b := m - n) (by omega) (by omega) c4
          exact (show False by omega).elim
        · rw [((vm_ps (rfl : (nI m : Int32) = nI m) (rfl : (nI n : Int32) = nI n) (by omega)) : (nI m) - (nI n) = nI (m - n))] at c4
          have c4 := vm_gt_f (a := i) (b := m - n) (by omega) (by omega) c4
          refine vm_J.go vm_q295 (k := 5) (hs := [vm_shR, (0, 6, [])]) (f' := (90, (0, 0), [.ref 152, .int (nI t), .int (nI i), .int (nI o), .int (nI j), .int (nI n), .retAddr 0, .retAddr 0, .retAddr 0, .retAddr 0], [.int (I 192 (nI o).toNatClampNeg), .int (nI j)])) (h' := (G, I, F)) (hs' := []) rfl (vm_b2 rfl (vm_b2 rfl (vm_b2 (vm_b2 (vm_hG hR.c152) rfl) (vm_b2 rfl (vm_b2 (vm_b2 (vm_hG hR.c192) (vm_in_e (j := o) (n := 6) rfl (by omega) (by omega))) rfl))))) ?_
          rw [vm_ix_e (j := o) rfl (by omega)]
          rw [(hk : I 192 o = nI k)]
          refine vm_J.go vm_q295 (k := 3) (hs := []) (f' := (bif vm_ic .le (nI j) ((nI k) - (nI n)) then 99 else 96, (0, 0), [.ref 152, .int (nI t), .int (nI i), .int (nI o), .int (nI j), .int (nI n), .retAddr 0, .retAddr 0, .retAddr 0, .retAddr 0], [])) (h' := (G, I, F)) (hs' := []) rfl rfl ?_
          refine vm_J.br (fun c5 => ?_) (fun c5 => ?_)
          · rw [((vm_ps (rfl : (nI k : Int32) = nI k) (rfl : (nI n : Int32) = nI n) (by omega)) : (nI k) - (nI n) = nI (k - n))] at c5
            have c5 := vm_le_t (a := j) (b := k - n) (by omega) (by omega) c5
            refine vm_J.go vm_q295 (k := 14) (hs := []) (f' := (121, (0, 0), [.ref 152, .int (nI t), .int (nI i), .int (nI o), .int (nI j), .int (nI n), .int ((150 * (nI t)) + (nI i)), .int ((150 * (nI o)) + (nI j)), .int 0, .retAddr 0], [])) (h' := (G, I, F)) (hs' := []) rfl rfl ?_
            rw [((vm_pa (vm_pm (rfl : (150 : Int32) = nI 150) (rfl : (nI t : Int32) = nI t)) (rfl : (nI i : Int32) = nI i)) : (150 * (nI t)) + (nI i) = nI ((150 * t) + i)), ((vm_pa (vm_pm (rfl : (150 : Int32) = nI 150) (rfl : (nI o : Int32) = nI o)) (rfl : (nI j : Int32) = nI j)) : (150 * (nI o)) + (nI j) = nI ((150 * o) + j))]
            refine vm_J.cnt n (fun e => (121, (0, 0), [.ref 152, .int (nI t), .int (nI i), .int (nI o), .int (nI j), .int (nI n), .int (nI (150 * t + i)), .int (nI (150 * o + j)), .int (nI e), .retAddr 0], [])) (fun e => (G, (vm_wq I 193 (vm_mvf I 193 (150 * t + i) (150 * o + j)) (150 * o + j) e), F)) (fun _ => True) rfl (by rw [← vm_wq_0]) trivial (fun e he pe ie => ?_) (fun pe => ?_)
            · show vm_J _ _ _ (121, (0, 0), [.ref 152, .int (nI t), .int (nI i), .int (nI o), .int (nI j), .int (nI n), .int (nI (150 * t + i)), .int (nI (150 * o + j)), .int (nI e), .retAddr 0], []) (G, (vm_wq I 193 (vm_mvf I 193 (150 * t + i) (150 * o + j)) (150 * o + j) e), F) _ _
              refine vm_J.go vm_q295 (k := 3) (hs := []) (f' := (bif vm_ic .ge (nI e) (nI n) then 175 else 128, (0, 0), [.ref 152, .int (nI t), .int (nI i), .int (nI o), .int (nI j), .int (nI n), .int (nI (150 * t + i)), .int (nI (150 * o + j)), .int (nI e), .retAddr 0], [])) (h' := (G, (vm_wq I 193 (vm_mvf I 193 (150 * t + i) (150 * o + j)) (150 * o + j) e), F)) (hs' := []) rfl rfl ?_
              refine vm_J.br (fun c6 => ?_) (fun c6 => ?_)
              · have c6 := vm_ge_t (a := e) (b := n) (by omega) (by omega) c6
                exact (show False by omega).elim
              · have c6 := vm_ge_f (a := e) (b := n) (by omega) (by omega) c6
                refine vm_J.go vm_q295 (k := 3) (hs := []) (f' := (bif vm_ic .ge (nI (150 * t + i)) (nI (150 * o + j)) then 145 else 135, (0, 0), [.ref 152, .int (nI t), .int (nI i), .int (nI o), .int (nI j), .int (nI n), .int (nI (150 * t + i)), .int (nI (150 * o + j)), .int (nI e), .retAddr 0], [])) (h' := (G, (vm_wq I 193 (vm_mvf I 193 (150 * t + i) (150 * o + j)) (150 * o + j) e), F)) (hs' := []) rfl rfl ?_
                refine vm_J.br (fun c7 => ?_) (fun c7 => ?_)
                · have c7 := vm_ge_t (a := 150 * t + i) (b := 150 * o + j) (by omega) (by omega) c7
                  refine vm_J.go vm_q295 (k := 16) (hs := [vm_shR, vm_shR, (0, 900, []), (0, 900, [])]) (f' := (121, (0, 0), [.ref 152, .int (nI t), .int (nI i), .int (nI o), .int (nI j), .int (nI n), .int (nI (150 * t + i)), .int (nI (150 * o + j)), .int ((nI e) + 1), .int (nI e)], [])) (h' := (G, (vm_up (vm_wq I 193 (vm_mvf I 193 (150 * t + i) (150 * o + j)) (150 * o + j) e) 193 (((nI (150 * o + j)) + (nI e)).toNatClampNeg) ((vm_wq I 193 (vm_mvf I 193 (150 * t + i) (150 * o + j)) (150 * o + j) e) 193 ((nI (150 * t + i)) + (nI e)).toNatClampNeg)), F)) (hs' := []) rfl (vm_b2 rfl (vm_b2 rfl (vm_b2 rfl (vm_b2 (vm_b2 (vm_hG hR.c152) rfl) (vm_b2 rfl (vm_b2 rfl (vm_b2 rfl (vm_b2 rfl (vm_b2 (vm_b2 (vm_hG hR.c152) rfl) (vm_b2 rfl (vm_b2 rfl (vm_b2 rfl (vm_b2 (vm_b2 (vm_hG hR.c193) (vm_in_e (j := (150 * t + i) + e) (n := 900) (vm_pa (rfl : (nI (150 * t + i) : Int32) = nI (150 * t + i)) (rfl : (nI e : Int32) = nI e)) (by omega) (by omega))) (vm_b2 (vm_b2 (vm_hG hR.c193) (vm_in_e (j := (150 * o + j) + e) (n := 900) (vm_pa (rfl : (nI (150 * o + j) : Int32) = nI (150 * o + j)) (rfl : (nI e : Int32) = nI e)) (by omega) (by omega))) (vm_b2 rfl (vm_b2 rfl rfl)))))))))))))))) ?_
                  rw [vm_ix_e (j := (150 * t + i) + e) (vm_pa (rfl : (nI (150 * t + i) : Int32) = nI (150 * t + i)) (rfl : (nI e : Int32) = nI e)) (by omega), vm_ix_e (j := (150 * o + j) + e) (vm_pa (rfl : (nI (150 * o + j) : Int32) = nI (150 * o + j)) (rfl : (nI e : Int32) = nI e)) (by omega), ((vm_pa (rfl : nI e = nI e) (rfl : (1 : Int32) = nI 1)) : (nI e) + 1 = nI (e + 1))]
                  refine vm_J.mask [true, true, true, true, true, true, true, true, true, false] ?_
                  show vm_J _ _ _ (121, (0, 0), [.ref 152, .int (nI t), .int (nI i), .int (nI o), .int (nI j), .int (nI n), .int (nI (150 * t + i)), .int (nI (150 * o + j)), .int (nI (e + 1)), .retAddr 0], []) (G, (vm_up (vm_wq I 193 (vm_mvf I 193 (150 * t + i) (150 * o + j)) (150 * o + j) e) 193 (((150 * o + j) + e)) ((vm_wq I 193 (vm_mvf I 193 (150 * t + i) (150 * o + j)) (150 * o + j) e) 193 ((150 * t + i) + e))), F) _ _
                  rw [vm_mv_d I 193 193 (150 * t + i) (150 * o + j) e hd]
                  exact ie trivial
                · have c7 := vm_ge_f (a := 150 * t + i) (b := 150 * o + j) (by omega) (by omega) c7
                  exact (show False by omega).elim
            · show vm_J _ _ _ (121, (0, 0), [.ref 152, .int (nI t), .int (nI i), .int (nI o), .int (nI j), .int (nI n), .int (nI (150 * t + i)), .int (nI (150 * o + j)), .int (nI n), .retAddr 0], []) (G, (vm_wq I 193 (vm_mvf I 193 (150 * t + i) (150 * o + j)) (150 * o + j) n), F) _ _
              refine vm_J.go vm_q295 (k := 3) (hs := []) (f' := (bif vm_ic .ge (nI n) (nI n) then 175 else 128, (0, 0), [.ref 152, .int (nI t), .int (nI i), .int (nI o), .int (nI j), .int (nI n), .int (nI (150 * t + i)), .int (nI (150 * o + j)), .int (nI n), .retAddr 0], [])) (h' := (G, (vm_wq I 193 (vm_mvf I 193 (150 * t + i) (150 * o + j)) (150 * o + j) n), F)) (hs' := []) rfl rfl ?_
              refine vm_J.br (fun c8 => ?_) (fun c8 => ?_)
              · have c8 := vm_ge_t (a := n) (b := n) (by omega) (by omega) c8
                refine vm_J.go vm_q295 (k := 1) (hs := []) (f' := (177, (0, 0), [.ref 152, .int (nI t), .int (nI i), .int (nI o), .int (nI j), .int (nI n), .int (nI (150 * t + i)), .int (nI (150 * o + j)), .int (nI n), .retAddr 0], [.int (nI n)])) (h' := (G, (vm_wq I 193 (vm_mvf I 193 (150 * t + i) (150 * o + j)) (150 * o + j) n), F)) (hs' := []) rfl rfl ?_
                exact vm_J.end vm_q295 (en := (177, .ireturn, 1, [], .null)) rfl rfl vm_rI (Nat.zero_le _) (Nat.zero_le _) (by first | rfl | rw [Nat.sub_self, Nat.add_zero])
              · have c8 := vm_ge_f (a := n) (b := n) (by omega) (by omega) c8
                exact (show False by omega).elim
          · rw [((vm_ps (rfl : (nI k : Int32) = nI k) (rfl : (nI n : Int32) = nI n) (by omega)) : (nI k) - (nI n) = nI (k - n))] at c5
            have c5 := vm_le_f (a := j) (b := k - n) (by omega) (by omega) c5
            exact (show False by omega).elim
set_option maxHeartbeats 4000000 in
set_option maxRecDepth 20000 in
/-- DitherDeskModel.judge -/
theorem r_judge_x {l : Launch} {X : vm_Cx} {G : List vm_Sh} {I : Nat → Nat → Int32} {F : Nat → Nat → UInt32} {q : Int32} {e : Int32} (hR : vm_isR G) (hx : ¬ (0 ≤ q ∧ q ≤ 5)) : vm_K l X vm_M288 [.ref 152, .int q, .int e] (G, I, F) (some (.int (-1))) (G, I, F) := by
  refine vm_K.mk (by decide) (Nat.le_of_ble_eq_true rfl) ?_
  show vm_J _ _ _ (0, (0, 0), [.ref 152, .int q, .int e, .retAddr 0, .retAddr 0], []) _ _ _
  refine vm_J.go vm_q288 (k := 1) (hs := []) (f' := (1, (0, 0), [.ref 152, .int q, .int e, .retAddr 0, .retAddr 0], [.int q])) (h' := (G, I, F)) (hs' := []) rfl rfl ?_
  refine vm_J.call vm_q288 (Z := vm_M287) (n := 1) (k := 1) (mi := 287) (pc := 1) (en := (1, .invokestatic 495, 3, [287, 1799, 0], .null)) rfl trivial rfl rfl vm_z287 (av := [.int q]) (rest := []) (r_isTape_n (c := q) hx) rfl (Nat.le_of_ble_eq_true rfl) ⟨Nat.le_of_ble_eq_true rfl, Nat.le_of_ble_eq_true rfl⟩ ⟨Nat.le_of_ble_eq_true rfl, Nat.le_of_ble_eq_true rfl⟩ ?_
  show vm_J _ _ _ (4, (0, 0), [.ref 152, .int q, .int e, .retAddr 0, .retAddr 0], [.int 0]) (G, I, F) _ _
  refine vm_J.go vm_q288 (k := 1) (hs := []) (f' := (bif vm_ic .ne 0 0 then 9 else 7, (0, 0), [.ref 152, .int q, .int e, .retAddr 0, .retAddr 0], [])) (h' := (G, I, F)) (hs' := []) rfl rfl ?_
  refine vm_J.bF (by decide) ?_
  refine vm_J.go vm_q288 (k := 1) (hs := []) (f' := (8, (0, 0), [.ref 152, .int q, .int e, .retAddr 0, .retAddr 0], [.int (-1)])) (h' := (G, I, F)) (hs' := []) rfl rfl ?_
  exact vm_J.end vm_q288 (en := (8, .ireturn, 1, [], .null)) rfl rfl vm_rI (Nat.zero_le _) (Nat.zero_le _) rfl
set_option maxHeartbeats 4000000 in
set_option maxRecDepth 20000 in
/-- DitherDeskModel.judge -/
theorem r_judge_c {l : Launch} {X : vm_Cx} {G : List vm_Sh} {I : Nat → Nat → Int32} {F : Nat → Nat → UInt32} {t : Nat} {e : Int32} (hR : vm_isR G) (ht : t < 6) (hso : ¬ I 191 t ≤ 0) : vm_K l X vm_M288 [.ref 152, .int (nI t), .int e] (G, I, F) (some (.int (-12))) (G, I, F) := by
  refine vm_K.mk (by decide) (Nat.le_of_ble_eq_true rfl) ?_
  show vm_J _ _ _ (0, (0, 0), [.ref 152, .int (nI t), .int e, .retAddr 0, .retAddr 0], []) _ _ _
  refine vm_J.go vm_q288 (k := 1) (hs := []) (f' := (1, (0, 0), [.ref 152, .int (nI t), .int e, .retAddr 0, .retAddr 0], [.int (nI t)])) (h' := (G, I, F)) (hs' := []) rfl rfl ?_
  refine vm_J.call vm_q288 (Z := vm_M287) (n := 1) (k := 1) (mi := 287) (pc := 1) (en := (1, .invokestatic 495, 3, [287, 1799, 0], .null)) rfl trivial rfl rfl vm_z287 (av := [.int (nI t)]) (rest := []) (r_isTape_y (c := nI t) (vm_bp6 ht)) rfl (Nat.le_of_ble_eq_true rfl) ⟨Nat.le_of_ble_eq_true rfl, Nat.le_of_ble_eq_true rfl⟩ ⟨Nat.le_of_ble_eq_true rfl, Nat.le_of_ble_eq_true rfl⟩ ?_
  show vm_J _ _ _ (4, (0, 0), [.ref 152, .int (nI t), .int e, .retAddr 0, .retAddr 0], [.int 1]) (G, I, F) _ _
  refine vm_J.go vm_q288 (k := 1) (hs := []) (f' := (bif vm_ic .ne 1 0 then 9 else 7, (0, 0), [.ref 152, .int (nI t), .int e, .retAddr 0, .retAddr 0], [])) (h' := (G, I, F)) (hs' := []) rfl rfl ?_
  refine vm_J.bT (by decide) ?_
  refine vm_J.go vm_q288 (k := 4) (hs := [vm_shR, (0, 6, [])]) (f' := (15, (0, 0), [.ref 152, .int (nI t), .int e, .retAddr 0, .retAddr 0], [.int (I 191 (nI t).toNatClampNeg)])) (h' := (G, I, F)) (hs' := []) rfl (vm_b2 rfl (vm_b2 (vm_b2 (vm_hG hR.c152) rfl) (vm_b2 rfl (vm_b2 (vm_b2 (vm_hG hR.c191) (vm_in_e (j := t) (n := 6) rfl (by omega) (by omega))) rfl)))) ?_
  rw [vm_ix_e (j := t) rfl (by omega)]
  refine vm_J.go vm_q288 (k := 1) (hs := []) (f' := (bif vm_ic .le (I 191 t) 0 then 21 else 18, (0, 0), [.ref 152, .int (nI t), .int e, .retAddr 0, .retAddr 0], [])) (h' := (G, I, F)) (hs' := []) rfl rfl ?_
  refine vm_J.bF (decide_eq_false hso) ?_
  refine vm_J.go vm_q288 (k := 1) (hs := []) (f' := (20, (0, 0), [.ref 152, .int (nI t), .int e, .retAddr 0, .retAddr 0], [.int (-12)])) (h' := (G, I, F)) (hs' := []) rfl rfl ?_
  exact vm_J.end vm_q288 (en := (20, .ireturn, 1, [], .null)) rfl rfl vm_rI (Nat.zero_le _) (Nat.zero_le _) rfl
set_option maxHeartbeats 4000000 in
set_option maxRecDepth 20000 in
/-- DitherDeskModel.judge -/
theorem r_judge_n {l : Launch} {X : vm_Cx} {G : List vm_Sh} {I : Nat → Nat → Int32} {F : Nat → Nat → UInt32} {t : Nat} {w : Nat} {e : Int32} (hR : vm_isR G) (ht : t < 6) (hso : I 191 t ≤ 0) (hw : I 173 0 = nI w) (hw2 : w = 0) : vm_K l X vm_M288 [.ref 152, .int (nI t), .int e] (G, I, F) (some (.int (-5))) (G, (vm_up I 152 40 0), F) := by
  refine vm_K.mk (by decide) (Nat.le_of_ble_eq_true rfl) ?_
  show vm_J _ _ _ (0, (0, 0), [.ref 152, .int (nI t), .int e, .retAddr 0, .retAddr 0], []) _ _ _
  refine vm_J.go vm_q288 (k := 1) (hs := []) (f' := (1, (0, 0), [.ref 152, .int (nI t), .int e, .retAddr 0, .retAddr 0], [.int (nI t)])) (h' := (G, I, F)) (hs' := []) rfl rfl ?_
  refine vm_J.call vm_q288 (Z := vm_M287) (n := 1) (k := 1) (mi := 287) (pc := 1) (en := (1, .invokestatic 495, 3, [287, 1799, 0], .null)) rfl trivial rfl rfl vm_z287 (av := [.int (nI t)]) (rest := []) (r_isTape_y (c := nI t) (vm_bp6 ht)) rfl (Nat.le_of_ble_eq_true rfl) ⟨Nat.le_of_ble_eq_true rfl, Nat.le_of_ble_eq_true rfl⟩ ⟨Nat.le_of_ble_eq_true rfl, Nat.le_of_ble_eq_true rfl⟩ ?_
  show vm_J _ _ _ (4, (0, 0), [.ref 152, .int (nI t), .int e, .retAddr 0, .retAddr 0], [.int 1]) (G, I, F) _ _
  refine vm_J.go vm_q288 (k := 1) (hs := []) (f' := (bif vm_ic .ne 1 0 then 9 else 7, (0, 0), [.ref 152, .int (nI t), .int e, .retAddr 0, .retAddr 0], [])) (h' := (G, I, F)) (hs' := []) rfl rfl ?_
  refine vm_J.bT (by decide) ?_
  refine vm_J.go vm_q288 (k := 4) (hs := [vm_shR, (0, 6, [])]) (f' := (15, (0, 0), [.ref 152, .int (nI t), .int e, .retAddr 0, .retAddr 0], [.int (I 191 (nI t).toNatClampNeg)])) (h' := (G, I, F)) (hs' := []) rfl (vm_b2 rfl (vm_b2 (vm_b2 (vm_hG hR.c152) rfl) (vm_b2 rfl (vm_b2 (vm_b2 (vm_hG hR.c191) (vm_in_e (j := t) (n := 6) rfl (by omega) (by omega))) rfl)))) ?_
  rw [vm_ix_e (j := t) rfl (by omega)]
  refine vm_J.go vm_q288 (k := 1) (hs := []) (f' := (bif vm_ic .le (I 191 t) 0 then 21 else 18, (0, 0), [.ref 152, .int (nI t), .int e, .retAddr 0, .retAddr 0], [])) (h' := (G, I, F)) (hs' := []) rfl rfl ?_
  refine vm_J.bT (decide_eq_true hso) ?_
  refine vm_J.go vm_q288 (k := 1) (hs := []) (f' := (22, (0, 0), [.ref 152, .int (nI t), .int e, .retAddr 0, .retAddr 0], [.ref 152])) (h' := (G, I, F)) (hs' := []) rfl rfl ?_
  refine vm_J.call vm_q288 (Z := vm_M262) (n := 0) (k := 0) (mi := 262) (pc := 22) (en := (22, .invokevirtual 424, 3, [262, 1660, 0], .null)) rfl trivial rfl rfl vm_z262 (av := [.ref 152]) (rest := []) (r_isMade_n hR hw hw2) ⟨_, _, rfl, rfl, _, 11, _, hR.c152, rfl, rfl, rfl⟩ (Nat.le_of_ble_eq_true rfl) ⟨Nat.le_of_ble_eq_true rfl, Nat.le_of_ble_eq_true rfl⟩ ⟨Nat.le_of_ble_eq_true rfl, Nat.le_of_ble_eq_true rfl⟩ ?_
  show vm_J _ _ _ (25, (0, 0), [.ref 152, .int (nI t), .int e, .retAddr 0, .retAddr 0], [.int 0]) (G, (vm_up I 152 40 0), F) _ _
  refine vm_J.go vm_q288 (k := 1) (hs := []) (f' := (bif vm_ic .ne 0 0 then 31 else 28, (0, 0), [.ref 152, .int (nI t), .int e, .retAddr 0, .retAddr 0], [])) (h' := (G, (vm_up I 152 40 0), F)) (hs' := []) rfl rfl ?_
  refine vm_J.bF (by decide) ?_
  refine vm_J.go vm_q288 (k := 1) (hs := []) (f' := (30, (0, 0), [.ref 152, .int (nI t), .int e, .retAddr 0, .retAddr 0], [.int (-5)])) (h' := (G, (vm_up I 152 40 0), F)) (hs' := []) rfl rfl ?_
  exact vm_J.end vm_q288 (en := (30, .ireturn, 1, [], .null)) rfl rfl vm_rI (Nat.zero_le _) (Nat.zero_le _) rfl
theorem vm_lt0_le0 {b : Int32} (h : b < 0) : b ≤ 0 := by
  rw [Int32.lt_iff_toInt_lt] at h
  rw [Int32.le_iff_toInt_le]
  omega
theorem vm_far0 {m i : Nat} (h : m ≤ i) (hi : i < 2147483648) : ¬ (0 < nI m - nI i) := by
  rw [Int32.lt_iff_toInt_lt, Int32.toInt_sub, nI_toInt hi, nI_toInt (by omega), show (0 : Int32).toInt = 0 from rfl, Int.bmod_eq_of_le (by omega) (by omega)]
  omega
set_option maxHeartbeats 4000000 in
set_option maxRecDepth 20000 in
/-- DitherDeskModel.judge -/
theorem r_judge_e {l : Launch} {X : vm_Cx} {G : List vm_Sh} {I : Nat → Nat → Int32} {F : Nat → Nat → UInt32} {t : Nat} {w : Nat} {h : Nat} {e : Int32} (hR : vm_isR G) (ht : t < 6) (hso : I 191 t < 0) (hw : I 173 0 = nI w) (hh : I 174 0 = nI h) (hw2 : w ≤ 12) (hh2 : h ≤ 12) (hw0 : 0 < w) (hh0 : 0 < h) : vm_K l X vm_M288 [.ref 152, .int (nI t), .int e] (G, I, F) (some (.int 200)) (G, (vm_up I 152 40 0), F) := by
  refine vm_K.mk (by decide) (Nat.le_of_ble_eq_true rfl) ?_
  have hwh := vm_mul144 hw2 hh2
  have hpo := Nat.mul_pos hw0 hh0
  show vm_J _ _ _ (0, (0, 0), [.ref 152, .int (nI t), .int e, .retAddr 0, .retAddr 0], []) _ _ _
  refine vm_J.go vm_q288 (k := 1) (hs := []) (f' := (1, (0, 0), [.ref 152, .int (nI t), .int e, .retAddr 0, .retAddr 0], [.int (nI t)])) (h' := (G, I, F)) (hs' := []) rfl rfl ?_
  refine vm_J.call vm_q288 (Z := vm_M287) (n := 1) (k := 1) (mi := 287) (pc := 1) (en := (1, .invokestatic 495, 3, [287, 1799, 0], .null)) rfl trivial rfl rfl vm_z287 (av := [.int (nI t)]) (rest := []) (r_isTape_y (c := nI t) (vm_bp6 ht)) rfl (Nat.le_of_ble_eq_true rfl) ⟨Nat.le_of_ble_eq_true rfl, Nat.le_of_ble_eq_true rfl⟩ ⟨Nat.le_of_ble_eq_true rfl, Nat.le_of_ble_eq_true rfl⟩ ?_
  show vm_J _ _ _ (4, (0, 0), [.ref 152, .int (nI t), .int e, .retAddr 0, .retAddr 0], [.int 1]) (G, I, F) _ _
  refine vm_J.go vm_q288 (k := 1) (hs := []) (f' := (bif vm_ic .ne 1 0 then 9 else 7, (0, 0), [.ref 152, .int (nI t), .int e, .retAddr 0, .retAddr 0], [])) (h' := (G, I, F)) (hs' := []) rfl rfl ?_
  refine vm_J.bT (by decide) ?_
  refine vm_J.go vm_q288 (k := 4) (hs := [vm_shR, (0, 6, [])]) (f' := (15, (0, 0), [.ref 152, .int (nI t), .int e, .retAddr 0, .retAddr 0], [.int (I 191 (nI t).toNatClampNeg)])) (h' := (G, I, F)) (hs' := []) rfl (vm_b2 rfl (vm_b2 (vm_b2 (vm_hG hR.c152) rfl) (vm_b2 rfl (vm_b2 (vm_b2 (vm_hG hR.c191) (vm_in_e (j := t) (n := 6) rfl (by omega) (by omega))) rfl)))) ?_
  rw [vm_ix_e (j := t) rfl (by omega)]
  refine vm_J.go vm_q288 (k := 1) (hs := []) (f' := (bif vm_ic .le (I 191 t) 0 then 21 else 18, (0, 0), [.ref 152, .int (nI t), .int e, .retAddr 0, .retAddr 0], [])) (h' := (G, I, F)) (hs' := []) rfl rfl ?_
  refine vm_J.bT (decide_eq_true (vm_lt0_le0 hso)) ?_
  refine vm_J.go vm_q288 (k := 1) (hs := []) (f' := (22, (0, 0), [.ref 152, .int (nI t), .int e, .retAddr 0, .retAddr 0], [.ref 152])) (h' := (G, I, F)) (hs' := []) rfl rfl ?_
  refine vm_J.call vm_q288 (Z := vm_M262) (n := 0) (k := 0) (mi := 262) (pc := 22) (en := (22, .invokevirtual 424, 3, [262, 1660, 0], .null)) rfl trivial rfl rfl vm_z262 (av := [.ref 152]) (rest := []) (r_isMade_y hR hw hw2 hw0) ⟨_, _, rfl, rfl, _, 11, _, hR.c152, rfl, rfl, rfl⟩ (Nat.le_of_ble_eq_true rfl) ⟨Nat.le_of_ble_eq_true rfl, Nat.le_of_ble_eq_true rfl⟩ ⟨Nat.le_of_ble_eq_true rfl, Nat.le_of_ble_eq_true rfl⟩ ?_
  show vm_J _ _ _ (25, (0, 0), [.ref 152, .int (nI t), .int e, .retAddr 0, .retAddr 0], [.int 1]) (G, (vm_up I 152 40 0), F) _ _
  refine vm_J.go vm_q288 (k := 1) (hs := []) (f' := (bif vm_ic .ne 1 0 then 31 else 28, (0, 0), [.ref 152, .int (nI t), .int e, .retAddr 0, .retAddr 0], [])) (h' := (G, (vm_up I 152 40 0), F)) (hs' := []) rfl rfl ?_
  refine vm_J.bT (by decide) ?_
  refine vm_J.go vm_q288 (k := 4) (hs := [vm_shR, (0, 6, [])]) (f' := (37, (0, 0), [.ref 152, .int (nI t), .int e, .retAddr 0, .retAddr 0], [.int ((vm_up I 152 40 0) 191 (nI t).toNatClampNeg)])) (h' := (G, (vm_up I 152 40 0), F)) (hs' := []) rfl (vm_b2 rfl (vm_b2 (vm_b2 (vm_hG hR.c152) rfl) (vm_b2 rfl (vm_b2 (vm_b2 (vm_hG hR.c191) (vm_in_e (j := t) (n := 6) rfl (by omega) (by omega))) rfl)))) ?_
  rw [vm_ix_e (j := t) rfl (by omega)]
  rw [((congrFun (vm_up_f _ 152 _ _ 191 (by decide)) t) : (vm_up I 152 40 0) 191 t = I 191 t)]
  refine vm_J.go vm_q288 (k := 1) (hs := []) (f' := (bif vm_ic .lt (I 191 t) 0 then 44 else 40, (0, 0), [.ref 152, .int (nI t), .int e, .retAddr 0, .retAddr 0], [])) (h' := (G, (vm_up I 152 40 0), F)) (hs' := []) rfl rfl ?_
  refine vm_J.bT (decide_eq_true hso) ?_
  refine vm_J.go vm_q288 (k := 7) (hs := []) (f' := (63, (0, 0), [.ref 152, .int (nI t), .int e, .int 0, .int 0], [.ref 152, .int 0])) (h' := (G, (vm_up I 152 40 0), F)) (hs' := []) rfl rfl ?_
  refine vm_J.call vm_q288 (Z := vm_M251) (n := 0) (k := 0) (mi := 251) (pc := 63) (en := (63, .invokevirtual 396, 3, [251, 1587, 0], .null)) rfl trivial rfl rfl vm_z251 (av := [.ref 152]) (rest := [.int 0]) (r_shPix (s := 0) (w := w) (h := h) hR (vm_up_h _ 152 40 _) (Eq.trans (congrFun (vm_up_f _ 152 _ _ 173 (by decide)) 0) hw) (Eq.trans (congrFun (vm_up_f _ 152 _ _ 174 (by decide)) 0) hh) (by omega) (by omega) (by omega)) ⟨_, _, rfl, rfl, _, 11, _, hR.c152, rfl, rfl, rfl⟩ (Nat.le_of_ble_eq_true rfl) ⟨Nat.le_of_ble_eq_true rfl, Nat.le_of_ble_eq_true rfl⟩ ⟨Nat.le_of_ble_eq_true rfl, Nat.le_of_ble_eq_true rfl⟩ ?_
  show vm_J _ _ _ (66, (0, 0), [.ref 152, .int (nI t), .int e, .int 0, .int 0], [.int (nI (w * h)), .int 0]) (G, (vm_up I 152 40 0), F) _ _
  refine vm_J.go vm_q288 (k := 1) (hs := []) (f' := (bif vm_ic .ge 0 (nI (w * h)) then 116 else 69, (0, 0), [.ref 152, .int (nI t), .int e, .int 0, .int 0], [])) (h' := (G, (vm_up I 152 40 0), F)) (hs' := []) rfl rfl ?_
  refine vm_J.br (fun c1 => ?_) (fun c1 => ?_)
  · have c1 := vm_ge_t (a := 0) (b := w * h) (by omega) (by omega) c1
    exact (show False by omega).elim
  · have c1 := vm_ge_f (a := 0) (b := w * h) (by omega) (by omega) c1
    refine vm_J.go vm_q288 (k := 3) (hs := []) (f' := (bif vm_ic .lt 0 0 then 82 else 75, (0, 0), [.ref 152, .int (nI t), .int e, .int 0, .int 0], [])) (h' := (G, (vm_up I 152 40 0), F)) (hs' := []) rfl rfl ?_
    refine vm_J.bF (by decide) ?_
    refine vm_J.go vm_q288 (k := 3) (hs := []) (f' := (81, (0, 0), [.ref 152, .int (nI t), .int e, .int 0, .int 0], [.int (200 + 0)])) (h' := (G, (vm_up I 152 40 0), F)) (hs' := []) rfl rfl ?_
    rw [(show (200 + 0 : Int32) = 200 from by decide)]
    exact vm_J.end vm_q288 (en := (81, .ireturn, 1, [], .null)) rfl rfl vm_rI (Nat.zero_le _) (Nat.zero_le _) rfl
set_option maxHeartbeats 4000000 in
set_option maxRecDepth 20000 in
/-- DitherDeskModel.judge -/
theorem r_judge_g {l : Launch} {X : vm_Cx} {G : List vm_Sh} {I : Nat → Nat → Int32} {F : Nat → Nat → UInt32} {t : Nat} {w : Nat} {h : Nat} {e : Int32} (hR : vm_isR G) (ht : t < 6) (hso : I 191 t = 0) (he : ¬ 0 ≤ e) (hw : I 173 0 = nI w) (hh : I 174 0 = nI h) (hw2 : w ≤ 12) (hh2 : h ≤ 12) (hw0 : 0 < w) (hh0 : 0 < h) : vm_K l X vm_M288 [.ref 152, .int (nI t), .int e] (G, I, F) (some (.int 200)) (G, (vm_up I 152 40 0), F) := by
  refine vm_K.mk (by decide) (Nat.le_of_ble_eq_true rfl) ?_
  have hwh := vm_mul144 hw2 hh2
  have hpo := Nat.mul_pos hw0 hh0
  show vm_J _ _ _ (0, (0, 0), [.ref 152, .int (nI t), .int e, .retAddr 0, .retAddr 0], []) _ _ _
  refine vm_J.go vm_q288 (k := 1) (hs := []) (f' := (1, (0, 0), [.ref 152, .int (nI t), .int e, .retAddr 0, .retAddr 0], [.int (nI t)])) (h' := (G, I, F)) (hs' := []) rfl rfl ?_
  refine vm_J.call vm_q288 (Z := vm_M287) (n := 1) (k := 1) (mi := 287) (pc := 1) (en := (1, .invokestatic 495, 3, [287, 1799, 0], .null)) rfl trivial rfl rfl vm_z287 (av := [.int (nI t)]) (rest := []) (r_isTape_y (c := nI t) (vm_bp6 ht)) rfl (Nat.le_of_ble_eq_true rfl) ⟨Nat.le_of_ble_eq_true rfl, Nat.le_of_ble_eq_true rfl⟩ ⟨Nat.le_of_ble_eq_true rfl, Nat.le_of_ble_eq_true rfl⟩ ?_
  show vm_J _ _ _ (4, (0, 0), [.ref 152, .int (nI t), .int e, .retAddr 0, .retAddr 0], [.int 1]) (G, I, F) _ _
  refine vm_J.go vm_q288 (k := 1) (hs := []) (f' := (bif vm_ic .ne 1 0 then 9 else 7, (0, 0), [.ref 152, .int (nI t), .int e, .retAddr 0, .retAddr 0], [])) (h' := (G, I, F)) (hs' := []) rfl rfl ?_
  refine vm_J.bT (by decide) ?_
  refine vm_J.go vm_q288 (k := 4) (hs := [vm_shR, (0, 6, [])]) (f' := (15, (0, 0), [.ref 152, .int (nI t), .int e, .retAddr 0, .retAddr 0], [.int (I 191 (nI t).toNatClampNeg)])) (h' := (G, I, F)) (hs' := []) rfl (vm_b2 rfl (vm_b2 (vm_b2 (vm_hG hR.c152) rfl) (vm_b2 rfl (vm_b2 (vm_b2 (vm_hG hR.c191) (vm_in_e (j := t) (n := 6) rfl (by omega) (by omega))) rfl)))) ?_
  rw [vm_ix_e (j := t) rfl (by omega)]
  rw [(hso : I 191 t = 0)]
  refine vm_J.go vm_q288 (k := 1) (hs := []) (f' := (bif vm_ic .le 0 0 then 21 else 18, (0, 0), [.ref 152, .int (nI t), .int e, .retAddr 0, .retAddr 0], [])) (h' := (G, I, F)) (hs' := []) rfl rfl ?_
  refine vm_J.bT (by decide) ?_
  refine vm_J.go vm_q288 (k := 1) (hs := []) (f' := (22, (0, 0), [.ref 152, .int (nI t), .int e, .retAddr 0, .retAddr 0], [.ref 152])) (h' := (G, I, F)) (hs' := []) rfl rfl ?_
  refine vm_J.call vm_q288 (Z := vm_M262) (n := 0) (k := 0) (mi := 262) (pc := 22) (en := (22, .invokevirtual 424, 3, [262, 1660, 0], .null)) rfl trivial rfl rfl vm_z262 (av := [.ref 152]) (rest := []) (r_isMade_y hR hw hw2 hw0) ⟨_, _, rfl, rfl, _, 11, _, hR.c152, rfl, rfl, rfl⟩ (Nat.le_of_ble_eq_true rfl) ⟨Nat.le_of_ble_eq_true rfl, Nat.le_of_ble_eq_true rfl⟩ ⟨Nat.le_of_ble_eq_true rfl, Nat.le_of_ble_eq_true rfl⟩ ?_
  show vm_J _ _ _ (25, (0, 0), [.ref 152, .int (nI t), .int e, .retAddr 0, .retAddr 0], [.int 1]) (G, (vm_up I 152 40 0), F) _ _
  refine vm_J.go vm_q288 (k := 1) (hs := []) (f' := (bif vm_ic .ne 1 0 then 31 else 28, (0, 0), [.ref 152, .int (nI t), .int e, .retAddr 0, .retAddr 0], [])) (h' := (G, (vm_up I 152 40 0), F)) (hs' := []) rfl rfl ?_
  refine vm_J.bT (by decide) ?_
  refine vm_J.go vm_q288 (k := 4) (hs := [vm_shR, (0, 6, [])]) (f' := (37, (0, 0), [.ref 152, .int (nI t), .int e, .retAddr 0, .retAddr 0], [.int ((vm_up I 152 40 0) 191 (nI t).toNatClampNeg)])) (h' := (G, (vm_up I 152 40 0), F)) (hs' := []) rfl (vm_b2 rfl (vm_b2 (vm_b2 (vm_hG hR.c152) rfl) (vm_b2 rfl (vm_b2 (vm_b2 (vm_hG hR.c191) (vm_in_e (j := t) (n := 6) rfl (by omega) (by omega))) rfl)))) ?_
  rw [vm_ix_e (j := t) rfl (by omega)]
  rw [((Eq.trans (congrFun (vm_up_f _ 152 _ _ 191 (by decide)) t) hso) : (vm_up I 152 40 0) 191 t = 0)]
  refine vm_J.go vm_q288 (k := 1) (hs := []) (f' := (bif vm_ic .lt 0 0 then 44 else 40, (0, 0), [.ref 152, .int (nI t), .int e, .retAddr 0, .retAddr 0], [])) (h' := (G, (vm_up I 152 40 0), F)) (hs' := []) rfl rfl ?_
  refine vm_J.bF (by decide) ?_
  refine vm_J.go vm_q288 (k := 2) (hs := []) (f' := (bif vm_ic .ge e 0 then 48 else 44, (0, 0), [.ref 152, .int (nI t), .int e, .retAddr 0, .retAddr 0], [])) (h' := (G, (vm_up I 152 40 0), F)) (hs' := []) rfl rfl ?_
  refine vm_J.bF (decide_eq_false he) ?_
  refine vm_J.go vm_q288 (k := 7) (hs := []) (f' := (63, (0, 0), [.ref 152, .int (nI t), .int e, .int 0, .int 0], [.ref 152, .int 0])) (h' := (G, (vm_up I 152 40 0), F)) (hs' := []) rfl rfl ?_
  refine vm_J.call vm_q288 (Z := vm_M251) (n := 0) (k := 0) (mi := 251) (pc := 63) (en := (63, .invokevirtual 396, 3, [251, 1587, 0], .null)) rfl trivial rfl rfl vm_z251 (av := [.ref 152]) (rest := [.int 0]) (r_shPix (s := 0) (w := w) (h := h) hR (vm_up_h _ 152 40 _) (Eq.trans (congrFun (vm_up_f _ 152 _ _ 173 (by decide)) 0) hw) (Eq.trans (congrFun (vm_up_f _ 152 _ _ 174 (by decide)) 0) hh) (by omega) (by omega) (by omega)) ⟨_, _, rfl, rfl, _, 11, _, hR.c152, rfl, rfl, rfl⟩ (Nat.le_of_ble_eq_true rfl) ⟨Nat.le_of_ble_eq_true rfl, Nat.le_of_ble_eq_true rfl⟩ ⟨Nat.le_of_ble_eq_true rfl, Nat.le_of_ble_eq_true rfl⟩ ?_
  show vm_J _ _ _ (66, (0, 0), [.ref 152, .int (nI t), .int e, .int 0, .int 0], [.int (nI (w * h)), .int 0]) (G, (vm_up I 152 40 0), F) _ _
  refine vm_J.go vm_q288 (k := 1) (hs := []) (f' := (bif vm_ic .ge 0 (nI (w * h)) then 116 else 69, (0, 0), [.ref 152, .int (nI t), .int e, .int 0, .int 0], [])) (h' := (G, (vm_up I 152 40 0), F)) (hs' := []) rfl rfl ?_
  refine vm_J.br (fun c1 => ?_) (fun c1 => ?_)
  · have c1 := vm_ge_t (a := 0) (b := w * h) (by omega) (by omega) c1
    exact (show False by omega).elim
  · have c1 := vm_ge_f (a := 0) (b := w * h) (by omega) (by omega) c1
    refine vm_J.go vm_q288 (k := 3) (hs := []) (f' := (bif vm_ic .lt 0 0 then 82 else 75, (0, 0), [.ref 152, .int (nI t), .int e, .int 0, .int 0], [])) (h' := (G, (vm_up I 152 40 0), F)) (hs' := []) rfl rfl ?_
    refine vm_J.bF (by decide) ?_
    refine vm_J.go vm_q288 (k := 3) (hs := []) (f' := (81, (0, 0), [.ref 152, .int (nI t), .int e, .int 0, .int 0], [.int (200 + 0)])) (h' := (G, (vm_up I 152 40 0), F)) (hs' := []) rfl rfl ?_
    rw [(show (200 + 0 : Int32) = 200 from by decide)]
    exact vm_J.end vm_q288 (en := (81, .ireturn, 1, [], .null)) rfl rfl vm_rI (Nat.zero_le _) (Nat.zero_le _) rfl
set_option maxHeartbeats 4000000 in
set_option maxRecDepth 20000 in
/-- DitherDeskModel.judge -/
theorem r_judge_f {l : Launch} {X : vm_Cx} {G : List vm_Sh} {I : Nat → Nat → Int32} {F : Nat → Nat → UInt32} {t : Nat} {w : Nat} {h : Nat} {m : Nat} {i : Nat} (hR : vm_isR G) (ht : t < 6) (hso : I 191 t = 0) (hm : I 192 t = nI m) (hm2 : m ≤ 150) (hi : m ≤ i) (hi2 : i < 2147483648) (hw : I 173 0 = nI w) (hh : I 174 0 = nI h) (hw2 : w ≤ 12) (hh2 : h ≤ 12) (hw0 : 0 < w) (hh0 : 0 < h) : vm_K l X vm_M288 [.ref 152, .int (nI t), .int (nI i)] (G, I, F) (some (.int 200)) (G, (vm_up I 152 40 0), F) := by
  refine vm_K.mk (by decide) (Nat.le_of_ble_eq_true rfl) ?_
  have hwh := vm_mul144 hw2 hh2
  have hpo := Nat.mul_pos hw0 hh0
  show vm_J _ _ _ (0, (0, 0), [.ref 152, .int (nI t), .int (nI i), .retAddr 0, .retAddr 0], []) _ _ _
  refine vm_J.go vm_q288 (k := 1) (hs := []) (f' := (1, (0, 0), [.ref 152, .int (nI t), .int (nI i), .retAddr 0, .retAddr 0], [.int (nI t)])) (h' := (G, I, F)) (hs' := []) rfl rfl ?_
  refine vm_J.call vm_q288 (Z := vm_M287) (n := 1) (k := 1) (mi := 287) (pc := 1) (en := (1, .invokestatic 495, 3, [287, 1799, 0], .null)) rfl trivial rfl rfl vm_z287 (av := [.int (nI t)]) (rest := []) (r_isTape_y (c := nI t) (vm_bp6 ht)) rfl (Nat.le_of_ble_eq_true rfl) ⟨Nat.le_of_ble_eq_true rfl, Nat.le_of_ble_eq_true rfl⟩ ⟨Nat.le_of_ble_eq_true rfl, Nat.le_of_ble_eq_true rfl⟩ ?_
  show vm_J _ _ _ (4, (0, 0), [.ref 152, .int (nI t), .int (nI i), .retAddr 0, .retAddr 0], [.int 1]) (G, I, F) _ _
  refine vm_J.go vm_q288 (k := 1) (hs := []) (f' := (bif vm_ic .ne 1 0 then 9 else 7, (0, 0), [.ref 152, .int (nI t), .int (nI i), .retAddr 0, .retAddr 0], [])) (h' := (G, I, F)) (hs' := []) rfl rfl ?_
  refine vm_J.bT (by decide) ?_
  refine vm_J.go vm_q288 (k := 4) (hs := [vm_shR, (0, 6, [])]) (f' := (15, (0, 0), [.ref 152, .int (nI t), .int (nI i), .retAddr 0, .retAddr 0], [.int (I 191 (nI t).toNatClampNeg)])) (h' := (G, I, F)) (hs' := []) rfl (vm_b2 rfl (vm_b2 (vm_b2 (vm_hG hR.c152) rfl) (vm_b2 rfl (vm_b2 (vm_b2 (vm_hG hR.c191) (vm_in_e (j := t) (n := 6) rfl (by omega) (by omega))) rfl)))) ?_
  rw [vm_ix_e (j := t) rfl (by omega)]
  rw [(hso : I 191 t = 0)]
  refine vm_J.go vm_q288 (k := 1) (hs := []) (f' := (bif vm_ic .le 0 0 then 21 else 18, (0, 0), [.ref 152, .int (nI t), .int (nI i), .retAddr 0, .retAddr 0], [])) (h' := (G, I, F)) (hs' := []) rfl rfl ?_
  refine vm_J.bT (by decide) ?_
  refine vm_J.go vm_q288 (k := 1) (hs := []) (f' := (22, (0, 0), [.ref 152, .int (nI t), .int (nI i), .retAddr 0, .retAddr 0], [.ref 152])) (h' := (G, I, F)) (hs' := []) rfl rfl ?_
  refine vm_J.call vm_q288 (Z := vm_M262) (n := 0) (k := 0) (mi := 262) (pc := 22) (en := (22, .invokevirtual 424, 3, [262, 1660, 0], .null)) rfl trivial rfl rfl vm_z262 (av := [.ref 152]) (rest := []) (r_isMade_y hR hw hw2 hw0) ⟨_, _, rfl, rfl, _, 11, _, hR.c152, rfl, rfl, rfl⟩ (Nat.le_of_ble_eq_true rfl) ⟨Nat.le_of_ble_eq_true rfl, Nat.le_of_ble_eq_true rfl⟩ ⟨Nat.le_of_ble_eq_true rfl, Nat.le_of_ble_eq_true rfl⟩ ?_
  show vm_J _ _ _ (25, (0, 0), [.ref 152, .int (nI t), .int (nI i), .retAddr 0, .retAddr 0], [.int 1]) (G, (vm_up I 152 40 0), F) _ _
  refine vm_J.go vm_q288 (k := 1) (hs := []) (f' := (bif vm_ic .ne 1 0 then 31 else 28, (0, 0), [.ref 152, .int (nI t), .int (nI i), .retAddr 0, .retAddr 0], [])) (h' := (G, (vm_up I 152 40 0), F)) (hs' := []) rfl rfl ?_
  refine vm_J.bT (by decide) ?_
  refine vm_J.go vm_q288 (k := 4) (hs := [vm_shR, (0, 6, [])]) (f' := (37, (0, 0), [.ref 152, .int (nI t), .int (nI i), .retAddr 0, .retAddr 0], [.int ((vm_up I 152 40 0) 191 (nI t).toNatClampNeg)])) (h' := (G, (vm_up I 152 40 0), F)) (hs' := []) rfl (vm_b2 rfl (vm_b2 (vm_b2 (vm_hG hR.c152) rfl) (vm_b2 rfl (vm_b2 (vm_b2 (vm_hG hR.c191) (vm_in_e (j := t) (n := 6) rfl (by omega) (by omega))) rfl)))) ?_
  rw [vm_ix_e (j := t) rfl (by omega)]
  rw [((Eq.trans (congrFun (vm_up_f _ 152 _ _ 191 (by decide)) t) hso) : (vm_up I 152 40 0) 191 t = 0)]
  refine vm_J.go vm_q288 (k := 1) (hs := []) (f' := (bif vm_ic .lt 0 0 then 44 else 40, (0, 0), [.ref 152, .int (nI t), .int (nI i), .retAddr 0, .retAddr 0], [])) (h' := (G, (vm_up I 152 40 0), F)) (hs' := []) rfl rfl ?_
  refine vm_J.bF (by decide) ?_
  refine vm_J.go vm_q288 (k := 2) (hs := []) (f' := (bif vm_ic .ge (nI i) 0 then 48 else 44, (0, 0), [.ref 152, .int (nI t), .int (nI i), .retAddr 0, .retAddr 0], [])) (h' := (G, (vm_up I 152 40 0), F)) (hs' := []) rfl rfl ?_
  refine vm_J.br (fun c1 => ?_) (fun c1 => ?_)
  · have c1 := vm_ge_t (a := i) (b := 0) (by omega) (by omega) c1
    refine vm_J.go vm_q288 (k := 4) (hs := [vm_shR, (0, 6, [])]) (f' := (54, (0, 0), [.ref 152, .int (nI t), .int (nI i), .retAddr 0, .retAddr 0], [.int ((vm_up I 152 40 0) 192 (nI t).toNatClampNeg)])) (h' := (G, (vm_up I 152 40 0), F)) (hs' := []) rfl (vm_b2 rfl (vm_b2 (vm_b2 (vm_hG hR.c152) rfl) (vm_b2 rfl (vm_b2 (vm_b2 (vm_hG hR.c192) (vm_in_e (j := t) (n := 6) rfl (by omega) (by omega))) rfl)))) ?_
    rw [vm_ix_e (j := t) rfl (by omega)]
    rw [((Eq.trans (congrFun (vm_up_f _ 152 _ _ 192 (by decide)) t) hm) : (vm_up I 152 40 0) 192 t = nI m)]
    refine vm_J.go vm_q288 (k := 7) (hs := []) (f' := (63, (0, 0), [.ref 152, .int (nI t), .int (nI i), .int ((nI m) - (nI i)), .int 0], [.ref 152, .int 0])) (h' := (G, (vm_up I 152 40 0), F)) (hs' := []) rfl rfl ?_
    refine vm_J.call vm_q288 (Z := vm_M251) (n := 0) (k := 0) (mi := 251) (pc := 63) (en := (63, .invokevirtual 396, 3, [251, 1587, 0], .null)) rfl trivial rfl rfl vm_z251 (av := [.ref 152]) (rest := [.int 0]) (r_shPix (s := 0) (w := w) (h := h) hR (vm_up_h _ 152 40 _) (Eq.trans (congrFun (vm_up_f _ 152 _ _ 173 (by decide)) 0) hw) (Eq.trans (congrFun (vm_up_f _ 152 _ _ 174 (by decide)) 0) hh) (by omega) (by omega) (by omega)) ⟨_, _, rfl, rfl, _, 11, _, hR.c152, rfl, rfl, rfl⟩ (Nat.le_of_ble_eq_true rfl) ⟨Nat.le_of_ble_eq_true rfl, Nat.le_of_ble_eq_true rfl⟩ ⟨Nat.le_of_ble_eq_true rfl, Nat.le_of_ble_eq_true rfl⟩ ?_
    show vm_J _ _ _ (66, (0, 0), [.ref 152, .int (nI t), .int (nI i), .int ((nI m) - (nI i)), .int 0], [.int (nI (w * h)), .int 0]) (G, (vm_up I 152 40 0), F) _ _
    refine vm_J.go vm_q288 (k := 1) (hs := []) (f' := (bif vm_ic .ge 0 (nI (w * h)) then 116 else 69, (0, 0), [.ref 152, .int (nI t), .int (nI i), .int ((nI m) - (nI i)), .int 0], [])) (h' := (G, (vm_up I 152 40 0), F)) (hs' := []) rfl rfl ?_
    refine vm_J.br (fun c2 => ?_) (fun c2 => ?_)
    · have c2 := vm_ge_t (a := 0) (b := w * h) (by omega) (by omega) c2
      exact (show False by omega).elim
    · have c2 := vm_ge_f (a := 0) (b := w * h) (by omega) (by omega) c2
      refine vm_J.go vm_q288 (k := 3) (hs := []) (f' := (bif vm_ic .lt 0 ((nI m) - (nI i)) then 82 else 75, (0, 0), [.ref 152, .int (nI t), .int (nI i), .int ((nI m) - (nI i)), .int 0], [])) (h' := (G, (vm_up I 152 40 0), F)) (hs' := []) rfl rfl ?_
      refine vm_J.bF (decide_eq_false (vm_far0 hi hi2)) ?_
      refine vm_J.go vm_q288 (k := 3) (hs := []) (f' := (81, (0, 0), [.ref 152, .int (nI t), .int (nI i), .int ((nI m) - (nI i)), .int 0], [.int (200 + 0)])) (h' := (G, (vm_up I 152 40 0), F)) (hs' := []) rfl rfl ?_
      rw [(show (200 + 0 : Int32) = 200 from by decide)]
      exact vm_J.end vm_q288 (en := (81, .ireturn, 1, [], .null)) rfl rfl vm_rI (Nat.zero_le _) (Nat.zero_le _) rfl
  · have c1 := vm_ge_f (a := i) (b := 0) (by omega) (by omega) c1
    exact (show False by omega).elim
/-- what a judging answers, by the first that is otherwise -/
def sp_jd (r n lim : Nat) : Int32 := if r < n then (if lim ≤ r then nI (200 + r) else nI r) else -5
set_option maxHeartbeats 4000000 in
set_option maxRecDepth 20000 in
/-- DitherDeskModel.judge -/
theorem r_judge_y {l : Launch} {X : vm_Cx} {G : List vm_Sh} {I : Nat → Nat → Int32} {F : Nat → Nat → UInt32} {t : Nat} {w : Nat} {h : Nat} {m : Nat} {i : Nat} (hR : vm_isR G) (ht : t < 6) (hso : I 191 t = 0) (hm : I 192 t = nI m) (hm2 : m ≤ 150) (hi : i < m) (hw : I 173 0 = nI w) (hh : I 174 0 = nI h) (hw2 : w ≤ 12) (hh2 : h ≤ 12) (hw0 : 0 < w) (hh0 : 0 < h) : vm_K l X vm_M288 [.ref 152, .int (nI t), .int (nI i)] (G, I, F) (some (.int (sp_jd (sp_fi (fun z => m - i ≤ z ∨ ¬ I 193 (150 * t + i + z) = I 177 z) (w * h)) (w * h) (m - i)))) (G, (vm_up I 152 40 0), F) := by
  refine vm_K.mk (by decide) (Nat.le_of_ble_eq_true rfl) ?_
  have hwh := vm_mul144 hw2 hh2
  have hpo := Nat.mul_pos hw0 hh0
  show vm_J _ _ _ (0, (0, 0), [.ref 152, .int (nI t), .int (nI i), .retAddr 0, .retAddr 0], []) _ _ _
  refine vm_J.go vm_q288 (k := 1) (hs := []) (f' := (1, (0, 0), [.ref 152, .int (nI t), .int (nI i), .retAddr 0, .retAddr 0], [.int (nI t)])) (h' := (G, I, F)) (hs' := []) rfl rfl ?_
  refine vm_J.call vm_q288 (Z := vm_M287) (n := 1) (k := 1) (mi := 287) (pc := 1) (en := (1, .invokestatic 495, 3, [287, 1799, 0], .null)) rfl trivial rfl rfl vm_z287 (av := [.int (nI t)]) (rest := []) (r_isTape_y (c := nI t) (vm_bp6 ht)) rfl (Nat.le_of_ble_eq_true rfl) ⟨Nat.le_of_ble_eq_true rfl, Nat.le_of_ble_eq_true rfl⟩ ⟨Nat.le_of_ble_eq_true rfl, Nat.le_of_ble_eq_true rfl⟩ ?_
  show vm_J _ _ _ (4, (0, 0), [.ref 152, .int (nI t), .int (nI i), .retAddr 0, .retAddr 0], [.int 1]) (G, I, F) _ _
  refine vm_J.go vm_q288 (k := 1) (hs := []) (f' := (bif vm_ic .ne 1 0 then 9 else 7, (0, 0), [.ref 152, .int (nI t), .int (nI i), .retAddr 0, .retAddr 0], [])) (h' := (G, I, F)) (hs' := []) rfl rfl ?_
  refine vm_J.bT (by decide) ?_
  refine vm_J.go vm_q288 (k := 4) (hs := [vm_shR, (0, 6, [])]) (f' := (15, (0, 0), [.ref 152, .int (nI t), .int (nI i), .retAddr 0, .retAddr 0], [.int (I 191 (nI t).toNatClampNeg)])) (h' := (G, I, F)) (hs' := []) rfl (vm_b2 rfl (vm_b2 (vm_b2 (vm_hG hR.c152) rfl) (vm_b2 rfl (vm_b2 (vm_b2 (vm_hG hR.c191) (vm_in_e (j := t) (n := 6) rfl (by omega) (by omega))) rfl)))) ?_
  rw [vm_ix_e (j := t) rfl (by omega)]
  rw [(hso : I 191 t = 0)]
  refine vm_J.go vm_q288 (k := 1) (hs := []) (f' := (bif vm_ic .le 0 0 then 21 else 18, (0, 0), [.ref 152, .int (nI t), .int (nI i), .retAddr 0, .retAddr 0], [])) (h' := (G, I, F)) (hs' := []) rfl rfl ?_
  refine vm_J.bT (by decide) ?_
  refine vm_J.go vm_q288 (k := 1) (hs := []) (f' := (22, (0, 0), [.ref 152, .int (nI t), .int (nI i), .retAddr 0, .retAddr 0], [.ref 152])) (h' := (G, I, F)) (hs' := []) rfl rfl ?_
  refine vm_J.call vm_q288 (Z := vm_M262) (n := 0) (k := 0) (mi := 262) (pc := 22) (en := (22, .invokevirtual 424, 3, [262, 1660, 0], .null)) rfl trivial rfl rfl vm_z262 (av := [.ref 152]) (rest := []) (r_isMade_y hR hw hw2 hw0) ⟨_, _, rfl, rfl, _, 11, _, hR.c152, rfl, rfl, rfl⟩ (Nat.le_of_ble_eq_true rfl) ⟨Nat.le_of_ble_eq_true rfl, Nat.le_of_ble_eq_true rfl⟩ ⟨Nat.le_of_ble_eq_true rfl, Nat.le_of_ble_eq_true rfl⟩ ?_
  show vm_J _ _ _ (25, (0, 0), [.ref 152, .int (nI t), .int (nI i), .retAddr 0, .retAddr 0], [.int 1]) (G, (vm_up I 152 40 0), F) _ _
  refine vm_J.go vm_q288 (k := 1) (hs := []) (f' := (bif vm_ic .ne 1 0 then 31 else 28, (0, 0), [.ref 152, .int (nI t), .int (nI i), .retAddr 0, .retAddr 0], [])) (h' := (G, (vm_up I 152 40 0), F)) (hs' := []) rfl rfl ?_
  refine vm_J.bT (by decide) ?_
  refine vm_J.go vm_q288 (k := 4) (hs := [vm_shR, (0, 6, [])]) (f' := (37, (0, 0), [.ref 152, .int (nI t), .int (nI i), .retAddr 0, .retAddr 0], [.int ((vm_up I 152 40 0) 191 (nI t).toNatClampNeg)])) (h' := (G, (vm_up I 152 40 0), F)) (hs' := []) rfl (vm_b2 rfl (vm_b2 (vm_b2 (vm_hG hR.c152) rfl) (vm_b2 rfl (vm_b2 (vm_b2 (vm_hG hR.c191) (vm_in_e (j := t) (n := 6) rfl (by omega) (by omega))) rfl)))) ?_
  rw [vm_ix_e (j := t) rfl (by omega)]
  rw [((Eq.trans (congrFun (vm_up_f _ 152 _ _ 191 (by decide)) t) hso) : (vm_up I 152 40 0) 191 t = 0)]
  refine vm_J.go vm_q288 (k := 1) (hs := []) (f' := (bif vm_ic .lt 0 0 then 44 else 40, (0, 0), [.ref 152, .int (nI t), .int (nI i), .retAddr 0, .retAddr 0], [])) (h' := (G, (vm_up I 152 40 0), F)) (hs' := []) rfl rfl ?_
  refine vm_J.bF (by decide) ?_
  refine vm_J.go vm_q288 (k := 2) (hs := []) (f' := (bif vm_ic .ge (nI i) 0 then 48 else 44, (0, 0), [.ref 152, .int (nI t), .int (nI i), .retAddr 0, .retAddr 0], [])) (h' := (G, (vm_up I 152 40 0), F)) (hs' := []) rfl rfl ?_
  refine vm_J.br (fun c1 => ?_) (fun c1 => ?_)
  · have c1 := vm_ge_t (a := i) (b := 0) (by omega) (by omega) c1
    refine vm_J.go vm_q288 (k := 4) (hs := [vm_shR, (0, 6, [])]) (f' := (54, (0, 0), [.ref 152, .int (nI t), .int (nI i), .retAddr 0, .retAddr 0], [.int ((vm_up I 152 40 0) 192 (nI t).toNatClampNeg)])) (h' := (G, (vm_up I 152 40 0), F)) (hs' := []) rfl (vm_b2 rfl (vm_b2 (vm_b2 (vm_hG hR.c152) rfl) (vm_b2 rfl (vm_b2 (vm_b2 (vm_hG hR.c192) (vm_in_e (j := t) (n := 6) rfl (by omega) (by omega))) rfl)))) ?_
    rw [vm_ix_e (j := t) rfl (by omega)]
    rw [((Eq.trans (congrFun (vm_up_f _ 152 _ _ 192 (by decide)) t) hm) : (vm_up I 152 40 0) 192 t = nI m)]
    refine vm_J.go vm_q288 (k := 5) (hs := []) (f' := (60, (0, 0), [.ref 152, .int (nI t), .int (nI i), .int ((nI m) - (nI i)), .int 0], [])) (h' := (G, (vm_up I 152 40 0), F)) (hs' := []) rfl rfl ?_
    rw [((vm_ps (rfl : (nI m : Int32) = nI m) (rfl : (nI i : Int32) = nI i) (by omega)) : (nI m) - (nI i) = nI (m - i))]
    refine vm_J.cnt (w * h) (fun k => (60, (0, 0), [.ref 152, .int (nI t), .int (nI i), .int (nI (m - i)), .int (nI k)], [])) (fun k => (G, (vm_up I 152 40 0), F)) (fun k => ∀ z, z < k → ¬ (m - i ≤ z ∨ ¬ I 193 (150 * t + i + z) = I 177 z)) rfl rfl vm_all0 (fun k hk pk ik => ?_) (fun pk => ?_)
    · show vm_J _ _ _ (60, (0, 0), [.ref 152, .int (nI t), .int (nI i), .int (nI (m - i)), .int (nI k)], []) (G, (vm_up I 152 40 0), F) _ _
      refine vm_J.go vm_q288 (k := 2) (hs := []) (f' := (63, (0, 0), [.ref 152, .int (nI t), .int (nI i), .int (nI (m - i)), .int (nI k)], [.ref 152, .int (nI k)])) (h' := (G, (vm_up I 152 40 0), F)) (hs' := []) rfl rfl ?_
      refine vm_J.call vm_q288 (Z := vm_M251) (n := 0) (k := 0) (mi := 251) (pc := 63) (en := (63, .invokevirtual 396, 3, [251, 1587, 0], .null)) rfl trivial rfl rfl vm_z251 (av := [.ref 152]) (rest := [.int (nI k)]) (r_shPix (s := 0) (w := w) (h := h) hR (vm_up_h _ 152 40 _) (Eq.trans (congrFun (vm_up_f _ 152 _ _ 173 (by decide)) 0) hw) (Eq.trans (congrFun (vm_up_f _ 152 _ _ 174 (by decide)) 0) hh) (by omega) (by omega) (by omega)) ⟨_, _, rfl, rfl, _, 11, _, hR.c152, rfl, rfl, rfl⟩ (Nat.le_of_ble_eq_true rfl) ⟨Nat.le_of_ble_eq_true rfl, Nat.le_of_ble_eq_true rfl⟩ ⟨Nat.le_of_ble_eq_true rfl, Nat.le_of_ble_eq_true rfl⟩ ?_
      show vm_J _ _ _ (66, (0, 0), [.ref 152, .int (nI t), .int (nI i), .int (nI (m - i)), .int (nI k)], [.int (nI (w * h)), .int (nI k)]) (G, (vm_up I 152 40 0), F) _ _
      refine vm_J.go vm_q288 (k := 1) (hs := []) (f' := (bif vm_ic .ge (nI k) (nI (w * h)) then 116 else 69, (0, 0), [.ref 152, .int (nI t), .int (nI i), .int (nI (m - i)), .int (nI k)], [])) (h' := (G, (vm_up I 152 40 0), F)) (hs' := []) rfl rfl ?_
      refine vm_J.br (fun c2 => ?_) (fun c2 => ?_)
      · have c2 := vm_ge_t (a := k) (b := w * h) (by omega) (by omega) c2
        exact (show False by omega).elim
      · have c2 := vm_ge_f (a := k) (b := w * h) (by omega) (by omega) c2
        refine vm_J.go vm_q288 (k := 3) (hs := []) (f' := (bif vm_ic .lt (nI k) (nI (m - i)) then 82 else 75, (0, 0), [.ref 152, .int (nI t), .int (nI i), .int (nI (m - i)), .int (nI k)], [])) (h' := (G, (vm_up I 152 40 0), F)) (hs' := []) rfl rfl ?_
        refine vm_J.br (fun c3 => ?_) (fun c3 => ?_)
        · have c3 := vm_lt_t (a := k) (b := m - i) (by omega) (by omega) c3
          refine vm_J.go vm_q288 (k := 10) (hs := [vm_shR, (0, 900, [])]) (f' := (97, (0, 0), [.ref 152, .int (nI t), .int (nI i), .int (nI (m - i)), .int (nI k)], [.int ((vm_up I 152 40 0) 193 (((150 * (nI t)) + (nI i)) + (nI k)).toNatClampNeg)])) (h' := (G, (vm_up I 152 40 0), F)) (hs' := []) rfl (vm_b2 rfl (vm_b2 (vm_b2 (vm_hG hR.c152) rfl) (vm_b2 rfl (vm_b2 rfl (vm_b2 rfl (vm_b2 rfl (vm_b2 rfl (vm_b2 rfl (vm_b2 rfl (vm_b2 (vm_b2 (vm_hG hR.c193) (vm_in_e (j := ((150 * t) + i) + k) (n := 900) (vm_pa (vm_pa (vm_pm (rfl : (150 : Int32) = nI 150) (rfl : (nI t : Int32) = nI t)) (rfl : (nI i : Int32) = nI i)) (rfl : (nI k : Int32) = nI k)) (by omega) (by omega))) rfl)))))))))) ?_
          rw [vm_ix_e (j := ((150 * t) + i) + k) (vm_pa (vm_pa (vm_pm (rfl : (150 : Int32) = nI 150) (rfl : (nI t : Int32) = nI t)) (rfl : (nI i : Int32) = nI i)) (rfl : (nI k : Int32) = nI k)) (by omega)]
          rw [((congrFun (vm_up_f _ 152 _ _ 193 (by decide)) (((150 * t) + i) + k)) : (vm_up I 152 40 0) 193 (((150 * t) + i) + k) = I 193 (((150 * t) + i) + k))]
          refine vm_J.go vm_q288 (k := 4) (hs := [vm_shR, (0, 288, [])]) (f' := (104, (0, 0), [.ref 152, .int (nI t), .int (nI i), .int (nI (m - i)), .int (nI k)], [.int ((vm_up I 152 40 0) 177 (nI k).toNatClampNeg), .int (I 193 (((150 * t) + i) + k))])) (h' := (G, (vm_up I 152 40 0), F)) (hs' := []) rfl (vm_b2 rfl (vm_b2 (vm_b2 (vm_hG hR.c152) rfl) (vm_b2 rfl (vm_b2 (vm_b2 (vm_hG hR.c177) (vm_in_e (j := k) (n := 288) rfl (by omega) (by omega))) rfl)))) ?_
          rw [vm_ix_e (j := k) rfl (by omega)]
          rw [((congrFun (vm_up_f _ 152 _ _ 177 (by decide)) k) : (vm_up I 152 40 0) 177 k = I 177 k)]
          refine vm_J.go vm_q288 (k := 1) (hs := []) (f' := (bif vm_ic .eq (I 193 (((150 * t) + i) + k)) (I 177 k) then 110 else 107, (0, 0), [.ref 152, .int (nI t), .int (nI i), .int (nI (m - i)), .int (nI k)], [])) (h' := (G, (vm_up I 152 40 0), F)) (hs' := []) rfl rfl ?_
          refine vm_J.br (fun c4 => ?_) (fun c4 => ?_)
          · have c4 : (I 193 (((150 * t) + i) + k)) = (I 177 k) := of_decide_eq_true c4
            refine vm_J.go vm_q288 (k := 2) (hs := []) (f' := (60, (0, 0), [.ref 152, .int (nI t), .int (nI i), .int (nI (m - i)), .int ((nI k) + 1)], [])) (h' := (G, (vm_up I 152 40 0), F)) (hs' := []) rfl rfl ?_
            rw [((vm_pa (rfl : nI k = nI k) (rfl : (1 : Int32) = nI 1)) : (nI k) + 1 = nI (k + 1))]
            exact ik (vm_alls (p := fun z => ¬ (m - i ≤ z ∨ ¬ I 193 (150 * t + i + z) = I 177 z)) pk (fun z => z.elim (fun y => absurd y (by omega)) (fun y => y c4)))
          · have c4 : ¬ ((I 193 (((150 * t) + i) + k)) = (I 177 k)) := of_decide_eq_false c4
            refine vm_J.go vm_q288 (k := 1) (hs := []) (f' := (109, (0, 0), [.ref 152, .int (nI t), .int (nI i), .int (nI (m - i)), .int (nI k)], [.int (nI k)])) (h' := (G, (vm_up I 152 40 0), F)) (hs' := []) rfl rfl ?_
            exact vm_J.end vm_q288 (en := (109, .ireturn, 1, [], .null)) rfl (by unfold sp_jd; rw [sp_fi_hit (p := (fun z => m - i ≤ z ∨ ¬ I 193 (150 * t + i + z) = I 177 z)) hk pk (Or.inr c4), if_pos hk, if_neg (by omega)]; rfl) vm_rI (Nat.zero_le _) (Nat.zero_le _) rfl
        · have c3 := vm_lt_f (a := k) (b := m - i) (by omega) (by omega) c3
          refine vm_J.go vm_q288 (k := 3) (hs := []) (f' := (81, (0, 0), [.ref 152, .int (nI t), .int (nI i), .int (nI (m - i)), .int (nI k)], [.int (200 + (nI k))])) (h' := (G, (vm_up I 152 40 0), F)) (hs' := []) rfl rfl ?_
          rw [((vm_pa (rfl : (200 : Int32) = nI 200) (rfl : (nI k : Int32) = nI k)) : 200 + (nI k) = nI (200 + k))]
          exact vm_J.end vm_q288 (en := (81, .ireturn, 1, [], .null)) rfl (by unfold sp_jd; rw [sp_fi_hit (p := (fun z => m - i ≤ z ∨ ¬ I 193 (150 * t + i + z) = I 177 z)) hk pk (Or.inl c3), if_pos hk, if_pos c3]; rfl) vm_rI (Nat.zero_le _) (Nat.zero_le _) rfl
    · show vm_J _ _ _ (60, (0, 0), [.ref 152, .int (nI t), .int (nI i), .int (nI (m - i)), .int (nI (w * h))], []) (G, (vm_up I 152 40 0), F) _ _
      refine vm_J.go vm_q288 (k := 2) (hs := []) (f' := (63, (0, 0), [.ref 152, .int (nI t), .int (nI i), .int (nI (m - i)), .int (nI (w * h))], [.ref 152, .int (nI (w * h))])) (h' := (G, (vm_up I 152 40 0), F)) (hs' := []) rfl rfl ?_
      refine vm_J.call vm_q288 (Z := vm_M251) (n := 0) (k := 0) (mi := 251) (pc := 63) (en := (63, .invokevirtual 396, 3, [251, 1587, 0], .null)) rfl trivial rfl rfl vm_z251 (av := [.ref 152]) (rest := [.int (nI (w * h))]) (r_shPix (s := 0) (w := w) (h := h) hR (vm_up_h _ 152 40 _) (Eq.trans (congrFun (vm_up_f _ 152 _ _ 173 (by decide)) 0) hw) (Eq.trans (congrFun (vm_up_f _ 152 _ _ 174 (by decide)) 0) hh) (by omega) (by omega) (by omega)) ⟨_, _, rfl, rfl, _, 11, _, hR.c152, rfl, rfl, rfl⟩ (Nat.le_of_ble_eq_true rfl) ⟨Nat.le_of_ble_eq_true rfl, Nat.le_of_ble_eq_true rfl⟩ ⟨Nat.le_of_ble_eq_true rfl, Nat.le_of_ble_eq_true rfl⟩ ?_
      show vm_J _ _ _ (66, (0, 0), [.ref 152, .int (nI t), .int (nI i), .int (nI (m - i)), .int (nI (w * h))], [.int (nI (w * h)), .int (nI (w * h))]) (G, (vm_up I 152 40 0), F) _ _
      refine vm_J.go vm_q288 (k := 1) (hs := []) (f' := (bif vm_ic .ge (nI (w * h)) (nI (w * h)) then 116 else 69, (0, 0), [.ref 152, .int (nI t), .int (nI i), .int (nI (m - i)), .int (nI (w * h))], [])) (h' := (G, (vm_up I 152 40 0), F)) (hs' := []) rfl rfl ?_
      refine vm_J.br (fun c5 => ?_) (fun c5 => ?_)
      · have c5 := vm_ge_t (a := (w * h)) (b := w * h) (by omega) (by omega) c5
        refine vm_J.go vm_q288 (k := 1) (hs := []) (f' := (118, (0, 0), [.ref 152, .int (nI t), .int (nI i), .int (nI (m - i)), .int (nI (w * h))], [.int (-5)])) (h' := (G, (vm_up I 152 40 0), F)) (hs' := []) rfl rfl ?_
        exact vm_J.end vm_q288 (en := (118, .ireturn, 1, [], .null)) rfl (by unfold sp_jd; rw [sp_fi_none (p := (fun z => m - i ≤ z ∨ ¬ I 193 (150 * t + i + z) = I 177 z)) pk, if_neg (Nat.lt_irrefl _)]; rfl) vm_rI (Nat.zero_le _) (Nat.zero_le _) rfl
      · have c5 := vm_ge_f (a := (w * h)) (b := w * h) (by omega) (by omega) c5
        exact (show False by omega).elim
  · have c1 := vm_ge_f (a := i) (b := 0) (by omega) (by omega) c1
    exact (show False by omega).elim
