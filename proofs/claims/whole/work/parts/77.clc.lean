theorem vm_fu {a b : Int32} {m n : Nat} (h1 : a = nI m) (h2 : b = nI n) (hn : n = m) : a ≤ b := by
  rw [h1, h2, hn]
  exact Int32.le_refl _
theorem vm_nf {a b : Int32} {m n : Nat} (h1 : a = nI m) (h2 : b = nI n) (hn : n < m) (hm : m < 100) : ¬ a ≤ b := by
  rw [h1, h2]
  exact nI_ge hn (by omega)
set_option maxHeartbeats 4000000 in
set_option maxRecDepth 20000 in
/-- DitherDesk.see -/
theorem c_see_0 {l : Launch} {X : vm_Cx} {G : List vm_Sh} {I : Nat → Nat → Int32} {F : Nat → Nat → UInt32} {y : Int32} {e : Int32} (hD : vm_isD G) : vm_K l X vm_M128 [.ref 0, .int (-1), .int y, .int e] (G, I, F) (some (.int 0)) (G, (vm_up I (1 + 11) 2 0), F) := by
  refine vm_K.mk (by decide) (Nat.le_of_ble_eq_true rfl) ?_
  show vm_J _ _ _ (0, (0, 0), [.ref 0, .int (-1), .int y, .int e], []) _ _ _
  refine vm_J.go vm_q128 (k := 3) (hs := []) (f' := (bif vm_ic .ne (-1) (-1) then 17 else 5, (0, 0), [.ref 0, .int (-1), .int y, .int e], [])) (h' := (G, I, F)) (hs' := []) rfl rfl ?_
  refine vm_J.bF (by decide) ?_
  refine vm_J.go vm_q128 (k := 3) (hs := [(12, 9, [.ref 1, .ref 38, .ref 75, .ref 112, .ref 132, .ref 135, .ref 139, .int 0, .int 0]), (11, 7, [.ref (1 + 1), .ref (1 + 2), .ref (1 + 3), .ref (1 + 4), .ref (1 + 11), .ref (1 + 13), .ref (1 + 15)])]) (f' := (12, (0, 0), [.ref 0, .int (-1), .int y, .int e], [.ref (1 + 11)])) (h' := (G, I, F)) (hs' := []) rfl (vm_b2 rfl (vm_b2 (vm_b2 (vm_hG hD.d) rfl) (vm_b2 (vm_b2 (vm_hG hD.w1.w) rfl) rfl))) ?_
  refine vm_J.call vm_q128 (Z := vm_M83) (n := 0) (k := 0) (mi := 83) (pc := 12) (en := (12, .invokevirtual 320, 3, [83, 953, 0], .null)) rfl trivial rfl rfl vm_z83 (av := [.ref (1 + 11)]) (rest := []) (m_Tab_clear (o := 1 + 11) (a := 1 + 12) hD.w1.t1) ⟨_, _, rfl, rfl, _, 7, _, hD.w1.t1, rfl, rfl, rfl⟩ (Nat.le_of_ble_eq_true rfl) ⟨Nat.le_of_ble_eq_true rfl, Nat.le_of_ble_eq_true rfl⟩ ⟨Nat.le_of_ble_eq_true rfl, Nat.le_of_ble_eq_true rfl⟩ ?_
  show vm_J _ _ _ (15, (0, 0), [.ref 0, .int (-1), .int y, .int e], []) (G, (vm_up I (1 + 11) 2 0), F) _ _
  refine vm_J.go vm_q128 (k := 1) (hs := []) (f' := (16, (0, 0), [.ref 0, .int (-1), .int y, .int e], [.int 0])) (h' := (G, (vm_up I (1 + 11) 2 0), F)) (hs' := []) rfl rfl ?_
  exact vm_J.end vm_q128 (en := (16, .ireturn, 1, [], .null)) rfl rfl vm_rI (Nat.zero_le _) (Nat.zero_le _) rfl
set_option maxHeartbeats 4000000 in
set_option maxRecDepth 20000 in
/-- DitherDesk.see -/
theorem c_see_b {l : Launch} {X : vm_Cx} {G : List vm_Sh} {I : Nat → Nat → Int32} {F : Nat → Nat → UInt32} {x : Int32} {y : Int32} {e : Int32} (hD : vm_isD G) (hx1 : ¬ x = -1) (hb : ¬ ((0 ≤ x ∧ x ≤ 11) ∧ (0 ≤ y ∧ y ≤ 11) ∧ 0 ≤ e ∧ e ≤ 15)) : vm_K l X vm_M128 [.ref 0, .int x, .int y, .int e] (G, I, F) (some (.int (-2))) (G, I, F) := by
  refine vm_K.mk (by decide) (Nat.le_of_ble_eq_true rfl) ?_
  show vm_J _ _ _ (0, (0, 0), [.ref 0, .int x, .int y, .int e], []) _ _ _
  refine vm_J.go vm_q128 (k := 3) (hs := []) (f' := (bif vm_ic .ne x (-1) then 17 else 5, (0, 0), [.ref 0, .int x, .int y, .int e], [])) (h' := (G, I, F)) (hs' := []) rfl rfl ?_
  refine vm_J.bT (decide_eq_true hx1) ?_
  refine vm_J.go vm_q128 (k := 3) (hs := []) (f' := (21, (0, 0), [.ref 0, .int x, .int y, .int e], [.int 11, .int 0, .int x])) (h' := (G, I, F)) (hs' := []) rfl rfl ?_
  refine vm_J.call vm_q128 (Z := vm_M151) (n := 3) (k := 1) (mi := 151) (pc := 21) (en := (21, .invokestatic 56, 3, [151, 420, 0], .null)) rfl trivial rfl rfl vm_z151 (av := [.int x, .int 0, .int 11]) (rest := []) (m_isWithin (v := x) (a := 0) (b := 11)) rfl (Nat.le_of_ble_eq_true rfl) ⟨Nat.le_of_ble_eq_true rfl, Nat.le_of_ble_eq_true rfl⟩ ⟨Nat.le_of_ble_eq_true rfl, Nat.le_of_ble_eq_true rfl⟩ ?_
  show vm_J _ _ _ (24, (0, 0), [.ref 0, .int x, .int y, .int e], [.int (vm_bi (0 ≤ x ∧ x ≤ 11))]) (G, I, F) _ _
  refine vm_J.go vm_q128 (k := 1) (hs := []) (f' := (bif vm_ic .eq (vm_bi (0 ≤ x ∧ x ≤ 11)) 0 then 47 else 27, (0, 0), [.ref 0, .int x, .int y, .int e], [])) (h' := (G, I, F)) (hs' := []) rfl rfl ?_
  refine vm_J.br (fun c1 => ?_) (fun c1 => ?_)
  · have c1 := vm_bi_eq_t c1
    refine vm_J.go vm_q128 (k := 1) (hs := []) (f' := (49, (0, 0), [.ref 0, .int x, .int y, .int e], [.int (-2)])) (h' := (G, I, F)) (hs' := []) rfl rfl ?_
    exact vm_J.end vm_q128 (en := (49, .ireturn, 1, [], .null)) rfl rfl vm_rI (Nat.zero_le _) (Nat.zero_le _) rfl
  · have c1 := vm_bi_eq_f c1
    refine vm_J.go vm_q128 (k := 3) (hs := []) (f' := (31, (0, 0), [.ref 0, .int x, .int y, .int e], [.int 11, .int 0, .int y])) (h' := (G, I, F)) (hs' := []) rfl rfl ?_
    refine vm_J.call vm_q128 (Z := vm_M151) (n := 3) (k := 1) (mi := 151) (pc := 31) (en := (31, .invokestatic 56, 3, [151, 420, 0], .null)) rfl trivial rfl rfl vm_z151 (av := [.int y, .int 0, .int 11]) (rest := []) (m_isWithin (v := y) (a := 0) (b := 11)) rfl (Nat.le_of_ble_eq_true rfl) ⟨Nat.le_of_ble_eq_true rfl, Nat.le_of_ble_eq_true rfl⟩ ⟨Nat.le_of_ble_eq_true rfl, Nat.le_of_ble_eq_true rfl⟩ ?_
    show vm_J _ _ _ (34, (0, 0), [.ref 0, .int x, .int y, .int e], [.int (vm_bi (0 ≤ y ∧ y ≤ 11))]) (G, I, F) _ _
    refine vm_J.go vm_q128 (k := 1) (hs := []) (f' := (bif vm_ic .eq (vm_bi (0 ≤ y ∧ y ≤ 11)) 0 then 47 else 37, (0, 0), [.ref 0, .int x, .int y, .int e], [])) (h' := (G, I, F)) (hs' := []) rfl rfl ?_
    refine vm_J.br (fun c2 => ?_) (fun c2 => ?_)
    · have c2 := vm_bi_eq_t c2
      refine vm_J.go vm_q128 (k := 1) (hs := []) (f' := (49, (0, 0), [.ref 0, .int x, .int y, .int e], [.int (-2)])) (h' := (G, I, F)) (hs' := []) rfl rfl ?_
      exact vm_J.end vm_q128 (en := (49, .ireturn, 1, [], .null)) rfl rfl vm_rI (Nat.zero_le _) (Nat.zero_le _) rfl
    · have c2 := vm_bi_eq_f c2
      refine vm_J.go vm_q128 (k := 3) (hs := []) (f' := (41, (0, 0), [.ref 0, .int x, .int y, .int e], [.int 15, .int 0, .int e])) (h' := (G, I, F)) (hs' := []) rfl rfl ?_
      refine vm_J.call vm_q128 (Z := vm_M151) (n := 3) (k := 1) (mi := 151) (pc := 41) (en := (41, .invokestatic 56, 3, [151, 420, 0], .null)) rfl trivial rfl rfl vm_z151 (av := [.int e, .int 0, .int 15]) (rest := []) (m_isWithin (v := e) (a := 0) (b := 15)) rfl (Nat.le_of_ble_eq_true rfl) ⟨Nat.le_of_ble_eq_true rfl, Nat.le_of_ble_eq_true rfl⟩ ⟨Nat.le_of_ble_eq_true rfl, Nat.le_of_ble_eq_true rfl⟩ ?_
      show vm_J _ _ _ (44, (0, 0), [.ref 0, .int x, .int y, .int e], [.int (vm_bi (0 ≤ e ∧ e ≤ 15))]) (G, I, F) _ _
      refine vm_J.go vm_q128 (k := 1) (hs := []) (f' := (bif vm_ic .ne (vm_bi (0 ≤ e ∧ e ≤ 15)) 0 then 50 else 47, (0, 0), [.ref 0, .int x, .int y, .int e], [])) (h' := (G, I, F)) (hs' := []) rfl rfl ?_
      refine vm_J.br (fun c3 => ?_) (fun c3 => ?_)
      · have c3 := vm_bi_ne_t c3
        exact absurd ⟨c1, c2, c3⟩ hb
      · have c3 := vm_bi_ne_f c3
        refine vm_J.go vm_q128 (k := 1) (hs := []) (f' := (49, (0, 0), [.ref 0, .int x, .int y, .int e], [.int (-2)])) (h' := (G, I, F)) (hs' := []) rfl rfl ?_
        exact vm_J.end vm_q128 (en := (49, .ireturn, 1, [], .null)) rfl rfl vm_rI (Nat.zero_le _) (Nat.zero_le _) rfl
set_option maxHeartbeats 4000000 in
set_option maxRecDepth 20000 in
/-- DitherDesk.see -/
theorem c_see_f {l : Launch} {X : vm_Cx} {G : List vm_Sh} {I : Nat → Nat → Int32} {F : Nat → Nat → UInt32} {n : Nat} {x : Int32} {y : Int32} {e : Int32} (hD : vm_isD G) (hn : I (1 + 11) 2 = nI n) (hmo : I (1 + 11) 0 = nI 6) (hn2 : n = 6) (hx1 : ¬ x = -1) (hb : (0 ≤ x ∧ x ≤ 11) ∧ (0 ≤ y ∧ y ≤ 11) ∧ 0 ≤ e ∧ e ≤ 15) : vm_K l X vm_M128 [.ref 0, .int x, .int y, .int e] (G, I, F) (some (.int (-4))) (G, I, F) := by
  refine vm_K.mk (by decide) (Nat.le_of_ble_eq_true rfl) ?_
  show vm_J _ _ _ (0, (0, 0), [.ref 0, .int x, .int y, .int e], []) _ _ _
  refine vm_J.go vm_q128 (k := 3) (hs := []) (f' := (bif vm_ic .ne x (-1) then 17 else 5, (0, 0), [.ref 0, .int x, .int y, .int e], [])) (h' := (G, I, F)) (hs' := []) rfl rfl ?_
  refine vm_J.bT (decide_eq_true hx1) ?_
  refine vm_J.go vm_q128 (k := 3) (hs := []) (f' := (21, (0, 0), [.ref 0, .int x, .int y, .int e], [.int 11, .int 0, .int x])) (h' := (G, I, F)) (hs' := []) rfl rfl ?_
  refine vm_J.call vm_q128 (Z := vm_M151) (n := 3) (k := 1) (mi := 151) (pc := 21) (en := (21, .invokestatic 56, 3, [151, 420, 0], .null)) rfl trivial rfl rfl vm_z151 (av := [.int x, .int 0, .int 11]) (rest := []) (m_isWithin_y (v := x) (a := 0) (b := 11) hb.1) rfl (Nat.le_of_ble_eq_true rfl) ⟨Nat.le_of_ble_eq_true rfl, Nat.le_of_ble_eq_true rfl⟩ ⟨Nat.le_of_ble_eq_true rfl, Nat.le_of_ble_eq_true rfl⟩ ?_
  show vm_J _ _ _ (24, (0, 0), [.ref 0, .int x, .int y, .int e], [.int 1]) (G, I, F) _ _
  refine vm_J.go vm_q128 (k := 1) (hs := []) (f' := (bif vm_ic .eq 1 0 then 47 else 27, (0, 0), [.ref 0, .int x, .int y, .int e], [])) (h' := (G, I, F)) (hs' := []) rfl rfl ?_
  refine vm_J.bF (by decide) ?_
  refine vm_J.go vm_q128 (k := 3) (hs := []) (f' := (31, (0, 0), [.ref 0, .int x, .int y, .int e], [.int 11, .int 0, .int y])) (h' := (G, I, F)) (hs' := []) rfl rfl ?_
  refine vm_J.call vm_q128 (Z := vm_M151) (n := 3) (k := 1) (mi := 151) (pc := 31) (en := (31, .invokestatic 56, 3, [151, 420, 0], .null)) rfl trivial rfl rfl vm_z151 (av := [.int y, .int 0, .int 11]) (rest := []) (m_isWithin_y (v := y) (a := 0) (b := 11) hb.2.1) rfl (Nat.le_of_ble_eq_true rfl) ⟨Nat.le_of_ble_eq_true rfl, Nat.le_of_ble_eq_true rfl⟩ ⟨Nat.le_of_ble_eq_true rfl, Nat.le_of_ble_eq_true rfl⟩ ?_
  show vm_J _ _ _ (34, (0, 0), [.ref 0, .int x, .int y, .int e], [.int 1]) (G, I, F) _ _
  refine vm_J.go vm_q128 (k := 1) (hs := []) (f' := (bif vm_ic .eq 1 0 then 47 else 37, (0, 0), [.ref 0, .int x, .int y, .int e], [])) (h' := (G, I, F)) (hs' := []) rfl rfl ?_
  refine vm_J.bF (by decide) ?_
  refine vm_J.go vm_q128 (k := 3) (hs := []) (f' := (41, (0, 0), [.ref 0, .int x, .int y, .int e], [.int 15, .int 0, .int e])) (h' := (G, I, F)) (hs' := []) rfl rfl ?_
  refine vm_J.call vm_q128 (Z := vm_M151) (n := 3) (k := 1) (mi := 151) (pc := 41) (en := (41, .invokestatic 56, 3, [151, 420, 0], .null)) rfl trivial rfl rfl vm_z151 (av := [.int e, .int 0, .int 15]) (rest := []) (m_isWithin_y (v := e) (a := 0) (b := 15) hb.2.2) rfl (Nat.le_of_ble_eq_true rfl) ⟨Nat.le_of_ble_eq_true rfl, Nat.le_of_ble_eq_true rfl⟩ ⟨Nat.le_of_ble_eq_true rfl, Nat.le_of_ble_eq_true rfl⟩ ?_
  show vm_J _ _ _ (44, (0, 0), [.ref 0, .int x, .int y, .int e], [.int 1]) (G, I, F) _ _
  refine vm_J.go vm_q128 (k := 1) (hs := []) (f' := (bif vm_ic .ne 1 0 then 50 else 47, (0, 0), [.ref 0, .int x, .int y, .int e], [])) (h' := (G, I, F)) (hs' := []) rfl rfl ?_
  refine vm_J.bT (by decide) ?_
  refine vm_J.go vm_q128 (k := 3) (hs := [(12, 9, [.ref 1, .ref 38, .ref 75, .ref 112, .ref 132, .ref 135, .ref 139, .int 0, .int 0]), (11, 7, [.ref (1 + 1), .ref (1 + 2), .ref (1 + 3), .ref (1 + 4), .ref (1 + 11), .ref (1 + 13), .ref (1 + 15)])]) (f' := (57, (0, 0), [.ref 0, .int x, .int y, .int e], [.ref (1 + 11)])) (h' := (G, I, F)) (hs' := []) rfl (vm_b2 rfl (vm_b2 (vm_b2 (vm_hG hD.d) rfl) (vm_b2 (vm_b2 (vm_hG hD.w1.w) rfl) rfl))) ?_
  refine vm_J.call vm_q128 (Z := vm_M82) (n := 0) (k := 0) (mi := 82) (pc := 57) (en := (57, .invokevirtual 325, 3, [82, 957, 0], .null)) rfl trivial rfl rfl vm_z82 (av := [.ref (1 + 11)]) (rest := []) (m_Tab_isFull_y (o := 1 + 11) (a := 1 + 12) hD.w1.t1 (vm_fu hmo hn hn2)) ⟨_, _, rfl, rfl, _, 7, _, hD.w1.t1, rfl, rfl, rfl⟩ (Nat.le_of_ble_eq_true rfl) ⟨Nat.le_of_ble_eq_true rfl, Nat.le_of_ble_eq_true rfl⟩ ⟨Nat.le_of_ble_eq_true rfl, Nat.le_of_ble_eq_true rfl⟩ ?_
  show vm_J _ _ _ (60, (0, 0), [.ref 0, .int x, .int y, .int e], [.int 1]) (G, I, F) _ _
  refine vm_J.go vm_q128 (k := 1) (hs := []) (f' := (bif vm_ic .eq 1 0 then 68 else 63, (0, 0), [.ref 0, .int x, .int y, .int e], [])) (h' := (G, I, F)) (hs' := []) rfl rfl ?_
  refine vm_J.bF (by decide) ?_
  refine vm_J.go vm_q128 (k := 2) (hs := []) (f' := (81, (0, 0), [.ref 0, .int x, .int y, .int e], [.int (-4)])) (h' := (G, I, F)) (hs' := []) rfl rfl ?_
  exact vm_J.end vm_q128 (en := (81, .ireturn, 1, [], .null)) rfl rfl vm_rI (Nat.zero_le _) (Nat.zero_le _) rfl
set_option maxHeartbeats 4000000 in
set_option maxRecDepth 20000 in
/-- DitherDesk.see -/
theorem c_see_y {l : Launch} {X : vm_Cx} {G : List vm_Sh} {I : Nat → Nat → Int32} {F : Nat → Nat → UInt32} {n : Nat} {x : Int32} {y : Int32} {e : Int32} (hD : vm_isD G) (hn : I (1 + 11) 2 = nI n) (hmo : I (1 + 11) 0 = nI 6) (hn2 : n < 6) (hx1 : ¬ x = -1) (hb : (0 ≤ x ∧ x ≤ 11) ∧ (0 ≤ y ∧ y ≤ 11) ∧ 0 ≤ e ∧ e ≤ 15) : vm_K l X vm_M128 [.ref 0, .int x, .int y, .int e] (G, I, F) (some (.int (nI (n + 1)))) (G, (vm_up (vm_up (vm_up (vm_up I (1 + 12) (3 * n) x) (1 + 12) (3 * n + 1) y) (1 + 12) (3 * n + 2) e) (1 + 11) 2 (nI (n + 1))), F) := by
  refine vm_K.mk (by decide) (Nat.le_of_ble_eq_true rfl) ?_
  show vm_J _ _ _ (0, (0, 0), [.ref 0, .int x, .int y, .int e], []) _ _ _
  refine vm_J.go vm_q128 (k := 3) (hs := []) (f' := (bif vm_ic .ne x (-1) then 17 else 5, (0, 0), [.ref 0, .int x, .int y, .int e], [])) (h' := (G, I, F)) (hs' := []) rfl rfl ?_
  refine vm_J.bT (decide_eq_true hx1) ?_
  refine vm_J.go vm_q128 (k := 3) (hs := []) (f' := (21, (0, 0), [.ref 0, .int x, .int y, .int e], [.int 11, .int 0, .int x])) (h' := (G, I, F)) (hs' := []) rfl rfl ?_
  refine vm_J.call vm_q128 (Z := vm_M151) (n := 3) (k := 1) (mi := 151) (pc := 21) (en := (21, .invokestatic 56, 3, [151, 420, 0], .null)) rfl trivial rfl rfl vm_z151 (av := [.int x, .int 0, .int 11]) (rest := []) (m_isWithin_y (v := x) (a := 0) (b := 11) hb.1) rfl (Nat.le_of_ble_eq_true rfl) ⟨Nat.le_of_ble_eq_true rfl, Nat.le_of_ble_eq_true rfl⟩ ⟨Nat.le_of_ble_eq_true rfl, Nat.le_of_ble_eq_true rfl⟩ ?_
  show vm_J _ _ _ (24, (0, 0), [.ref 0, .int x, .int y, .int e], [.int 1]) (G, I, F) _ _
  refine vm_J.go vm_q128 (k := 1) (hs := []) (f' := (bif vm_ic .eq 1 0 then 47 else 27, (0, 0), [.ref 0, .int x, .int y, .int e], [])) (h' := (G, I, F)) (hs' := []) rfl rfl ?_
  refine vm_J.bF (by decide) ?_
  refine vm_J.go vm_q128 (k := 3) (hs := []) (f' := (31, (0, 0), [.ref 0, .int x, .int y, .int e], [.int 11, .int 0, .int y])) (h' := (G, I, F)) (hs' := []) rfl rfl ?_
  refine vm_J.call vm_q128 (Z := vm_M151) (n := 3) (k := 1) (mi := 151) (pc := 31) (en := (31, .invokestatic 56, 3, [151, 420, 0], .null)) rfl trivial rfl rfl vm_z151 (av := [.int y, .int 0, .int 11]) (rest := []) (m_isWithin_y (v := y) (a := 0) (b := 11) hb.2.1) rfl (Nat.le_of_ble_eq_true rfl) ⟨Nat.le_of_ble_eq_true rfl, Nat.le_of_ble_eq_true rfl⟩ ⟨Nat.le_of_ble_eq_true rfl, Nat.le_of_ble_eq_true rfl⟩ ?_
  show vm_J _ _ _ (34, (0, 0), [.ref 0, .int x, .int y, .int e], [.int 1]) (G, I, F) _ _
  refine vm_J.go vm_q128 (k := 1) (hs := []) (f' := (bif vm_ic .eq 1 0 then 47 else 37, (0, 0), [.ref 0, .int x, .int y, .int e], [])) (h' := (G, I, F)) (hs' := []) rfl rfl ?_
  refine vm_J.bF (by decide) ?_
  refine vm_J.go vm_q128 (k := 3) (hs := []) (f' := (41, (0, 0), [.ref 0, .int x, .int y, .int e], [.int 15, .int 0, .int e])) (h' := (G, I, F)) (hs' := []) rfl rfl ?_
  refine vm_J.call vm_q128 (Z := vm_M151) (n := 3) (k := 1) (mi := 151) (pc := 41) (en := (41, .invokestatic 56, 3, [151, 420, 0], .null)) rfl trivial rfl rfl vm_z151 (av := [.int e, .int 0, .int 15]) (rest := []) (m_isWithin_y (v := e) (a := 0) (b := 15) hb.2.2) rfl (Nat.le_of_ble_eq_true rfl) ⟨Nat.le_of_ble_eq_true rfl, Nat.le_of_ble_eq_true rfl⟩ ⟨Nat.le_of_ble_eq_true rfl, Nat.le_of_ble_eq_true rfl⟩ ?_
  show vm_J _ _ _ (44, (0, 0), [.ref 0, .int x, .int y, .int e], [.int 1]) (G, I, F) _ _
  refine vm_J.go vm_q128 (k := 1) (hs := []) (f' := (bif vm_ic .ne 1 0 then 50 else 47, (0, 0), [.ref 0, .int x, .int y, .int e], [])) (h' := (G, I, F)) (hs' := []) rfl rfl ?_
  refine vm_J.bT (by decide) ?_
  refine vm_J.go vm_q128 (k := 3) (hs := [(12, 9, [.ref 1, .ref 38, .ref 75, .ref 112, .ref 132, .ref 135, .ref 139, .int 0, .int 0]), (11, 7, [.ref (1 + 1), .ref (1 + 2), .ref (1 + 3), .ref (1 + 4), .ref (1 + 11), .ref (1 + 13), .ref (1 + 15)])]) (f' := (57, (0, 0), [.ref 0, .int x, .int y, .int e], [.ref (1 + 11)])) (h' := (G, I, F)) (hs' := []) rfl (vm_b2 rfl (vm_b2 (vm_b2 (vm_hG hD.d) rfl) (vm_b2 (vm_b2 (vm_hG hD.w1.w) rfl) rfl))) ?_
  refine vm_J.call vm_q128 (Z := vm_M82) (n := 0) (k := 0) (mi := 82) (pc := 57) (en := (57, .invokevirtual 325, 3, [82, 957, 0], .null)) rfl trivial rfl rfl vm_z82 (av := [.ref (1 + 11)]) (rest := []) (m_Tab_isFull_n (o := 1 + 11) (a := 1 + 12) hD.w1.t1 (vm_nf hmo hn hn2 (by decide))) ⟨_, _, rfl, rfl, _, 7, _, hD.w1.t1, rfl, rfl, rfl⟩ (Nat.le_of_ble_eq_true rfl) ⟨Nat.le_of_ble_eq_true rfl, Nat.le_of_ble_eq_true rfl⟩ ⟨Nat.le_of_ble_eq_true rfl, Nat.le_of_ble_eq_true rfl⟩ ?_
  show vm_J _ _ _ (60, (0, 0), [.ref 0, .int x, .int y, .int e], [.int 0]) (G, I, F) _ _
  refine vm_J.go vm_q128 (k := 1) (hs := []) (f' := (bif vm_ic .eq 0 0 then 68 else 63, (0, 0), [.ref 0, .int x, .int y, .int e], [])) (h' := (G, I, F)) (hs' := []) rfl rfl ?_
  refine vm_J.bT (by decide) ?_
  refine vm_J.go vm_q128 (k := 6) (hs := [(12, 9, [.ref 1, .ref 38, .ref 75, .ref 112, .ref 132, .ref 135, .ref 139, .int 0, .int 0]), (11, 7, [.ref (1 + 1), .ref (1 + 2), .ref (1 + 3), .ref (1 + 4), .ref (1 + 11), .ref (1 + 13), .ref (1 + 15)])]) (f' := (78, (0, 0), [.ref 0, .int x, .int y, .int e], [.int e, .int y, .int x, .ref (1 + 11)])) (h' := (G, I, F)) (hs' := []) rfl (vm_b2 rfl (vm_b2 (vm_b2 (vm_hG hD.d) rfl) (vm_b2 (vm_b2 (vm_hG hD.w1.w) rfl) (vm_b2 rfl (vm_b2 rfl (vm_b2 rfl rfl)))))) ?_
  refine vm_J.call vm_q128 (Z := vm_M84) (n := 3) (k := 0) (mi := 84) (pc := 78) (en := (78, .invokevirtual 326, 3, [84, 961, 0], .null)) rfl trivial rfl rfl vm_z84 (av := [.ref (1 + 11), .int x, .int y, .int e]) (rest := []) (m_Tab_append (o := 1 + 11) (a := 1 + 12) (n := n) (x := x) (y := y) (z := e) hD.w1.t1 hD.w1.u1 hn (by omega) (by omega)) ⟨_, _, rfl, rfl, _, 7, _, hD.w1.t1, rfl, rfl, rfl⟩ (Nat.le_of_ble_eq_true rfl) ⟨Nat.le_of_ble_eq_true rfl, Nat.le_of_ble_eq_true rfl⟩ ⟨Nat.le_of_ble_eq_true rfl, Nat.le_of_ble_eq_true rfl⟩ ?_
  show vm_J _ _ _ (81, (0, 0), [.ref 0, .int x, .int y, .int e], [.int (nI (n + 1))]) (G, (vm_up (vm_up (vm_up (vm_up I (1 + 12) (3 * n) x) (1 + 12) (3 * n + 1) y) (1 + 12) (3 * n + 2) e) (1 + 11) 2 (nI (n + 1))), F) _ _
  exact vm_J.end vm_q128 (en := (81, .ireturn, 1, [], .null)) rfl rfl vm_rI (Nat.zero_le _) (Nat.zero_le _) rfl
set_option maxHeartbeats 4000000 in
set_option maxRecDepth 20000 in
/-- DitherDesk.plan -/
theorem c_plan_c {l : Launch} {X : vm_Cx} {G : List vm_Sh} {I : Nat → Nat → Int32} {F : Nat → Nat → UInt32} {v : Int32} (hD : vm_isD G) : vm_K l X vm_M132 [.ref 0, .int (-1), .int v] (G, I, F) (some (.int 0)) (G, (vm_up I (1 + 13) 2 0), F) := by
  refine vm_K.mk (by decide) (Nat.le_of_ble_eq_true rfl) ?_
  show vm_J _ _ _ (0, (0, 0), [.ref 0, .int (-1), .int v], []) _ _ _
  refine vm_J.go vm_q132 (k := 3) (hs := []) (f' := (bif vm_ic .ne (-1) (-1) then 17 else 5, (0, 0), [.ref 0, .int (-1), .int v], [])) (h' := (G, I, F)) (hs' := []) rfl rfl ?_
  refine vm_J.bF (by decide) ?_
  refine vm_J.go vm_q132 (k := 3) (hs := [(12, 9, [.ref 1, .ref 38, .ref 75, .ref 112, .ref 132, .ref 135, .ref 139, .int 0, .int 0]), (11, 7, [.ref (1 + 1), .ref (1 + 2), .ref (1 + 3), .ref (1 + 4), .ref (1 + 11), .ref (1 + 13), .ref (1 + 15)])]) (f' := (12, (0, 0), [.ref 0, .int (-1), .int v], [.ref (1 + 13)])) (h' := (G, I, F)) (hs' := []) rfl (vm_b2 rfl (vm_b2 (vm_b2 (vm_hG hD.d) rfl) (vm_b2 (vm_b2 (vm_hG hD.w1.w) rfl) rfl))) ?_
  refine vm_J.call vm_q132 (Z := vm_M83) (n := 0) (k := 0) (mi := 83) (pc := 12) (en := (12, .invokevirtual 320, 3, [83, 953, 0], .null)) rfl trivial rfl rfl vm_z83 (av := [.ref (1 + 13)]) (rest := []) (m_Tab_clear (o := 1 + 13) (a := 1 + 14) hD.w1.t2) ⟨_, _, rfl, rfl, _, 7, _, hD.w1.t2, rfl, rfl, rfl⟩ (Nat.le_of_ble_eq_true rfl) ⟨Nat.le_of_ble_eq_true rfl, Nat.le_of_ble_eq_true rfl⟩ ⟨Nat.le_of_ble_eq_true rfl, Nat.le_of_ble_eq_true rfl⟩ ?_
  show vm_J _ _ _ (15, (0, 0), [.ref 0, .int (-1), .int v], []) (G, (vm_up I (1 + 13) 2 0), F) _ _
  refine vm_J.go vm_q132 (k := 1) (hs := []) (f' := (16, (0, 0), [.ref 0, .int (-1), .int v], [.int 0])) (h' := (G, (vm_up I (1 + 13) 2 0), F)) (hs' := []) rfl rfl ?_
  exact vm_J.end vm_q132 (en := (16, .ireturn, 1, [], .null)) rfl rfl vm_rI (Nat.zero_le _) (Nat.zero_le _) rfl
set_option maxHeartbeats 4000000 in
set_option maxRecDepth 20000 in
/-- DitherDesk.plan -/
theorem c_plan_x {l : Launch} {X : vm_Cx} {G : List vm_Sh} {I : Nat → Nat → Int32} {F : Nat → Nat → UInt32} {x : Int32} {v : Int32} (hD : vm_isD G) (hx1 : ¬ x = -1) (hx : ¬ (0 ≤ x ∧ x ≤ 3)) : vm_K l X vm_M132 [.ref 0, .int x, .int v] (G, I, F) (some (.int (-1))) (G, I, F) := by
  refine vm_K.mk (by decide) (Nat.le_of_ble_eq_true rfl) ?_
  show vm_J _ _ _ (0, (0, 0), [.ref 0, .int x, .int v], []) _ _ _
  refine vm_J.go vm_q132 (k := 3) (hs := []) (f' := (bif vm_ic .ne x (-1) then 17 else 5, (0, 0), [.ref 0, .int x, .int v], [])) (h' := (G, I, F)) (hs' := []) rfl rfl ?_
  refine vm_J.bT (decide_eq_true hx1) ?_
  refine vm_J.go vm_q132 (k := 3) (hs := []) (f' := (20, (0, 0), [.ref 0, .int x, .int v], [.int 3, .int 0, .int x])) (h' := (G, I, F)) (hs' := []) rfl rfl ?_
  refine vm_J.call vm_q132 (Z := vm_M151) (n := 3) (k := 1) (mi := 151) (pc := 20) (en := (20, .invokestatic 56, 3, [151, 420, 0], .null)) rfl trivial rfl rfl vm_z151 (av := [.int x, .int 0, .int 3]) (rest := []) (m_isWithin_n (v := x) (a := 0) (b := 3) hx) rfl (Nat.le_of_ble_eq_true rfl) ⟨Nat.le_of_ble_eq_true rfl, Nat.le_of_ble_eq_true rfl⟩ ⟨Nat.le_of_ble_eq_true rfl, Nat.le_of_ble_eq_true rfl⟩ ?_
  show vm_J _ _ _ (23, (0, 0), [.ref 0, .int x, .int v], [.int 0]) (G, I, F) _ _
  refine vm_J.go vm_q132 (k := 1) (hs := []) (f' := (bif vm_ic .ne 0 0 then 28 else 26, (0, 0), [.ref 0, .int x, .int v], [])) (h' := (G, I, F)) (hs' := []) rfl rfl ?_
  refine vm_J.bF (by decide) ?_
  refine vm_J.go vm_q132 (k := 1) (hs := []) (f' := (27, (0, 0), [.ref 0, .int x, .int v], [.int (-1)])) (h' := (G, I, F)) (hs' := []) rfl rfl ?_
  exact vm_J.end vm_q132 (en := (27, .ireturn, 1, [], .null)) rfl rfl vm_rI (Nat.zero_le _) (Nat.zero_le _) rfl
set_option maxHeartbeats 4000000 in
set_option maxRecDepth 20000 in
/-- DitherDesk.plan -/
theorem c_plan_b0 {l : Launch} {X : vm_Cx} {G : List vm_Sh} {I : Nat → Nat → Int32} {F : Nat → Nat → UInt32} {v : Int32} (hD : vm_isD G) (hv : ¬ (0 ≤ v ∧ v ≤ 3)) : vm_K l X vm_M132 [.ref 0, .int 0, .int v] (G, I, F) (some (.int (-1))) (G, I, F) := by
  refine vm_K.mk (by decide) (Nat.le_of_ble_eq_true rfl) ?_
  show vm_J _ _ _ (0, (0, 0), [.ref 0, .int 0, .int v], []) _ _ _
  refine vm_J.go vm_q132 (k := 3) (hs := []) (f' := (bif vm_ic .ne 0 (-1) then 17 else 5, (0, 0), [.ref 0, .int 0, .int v], [])) (h' := (G, I, F)) (hs' := []) rfl rfl ?_
  refine vm_J.bT (by decide) ?_
  refine vm_J.go vm_q132 (k := 3) (hs := []) (f' := (20, (0, 0), [.ref 0, .int 0, .int v], [.int 3, .int 0, .int 0])) (h' := (G, I, F)) (hs' := []) rfl rfl ?_
  refine vm_J.call vm_q132 (Z := vm_M151) (n := 3) (k := 1) (mi := 151) (pc := 20) (en := (20, .invokestatic 56, 3, [151, 420, 0], .null)) rfl trivial rfl rfl vm_z151 (av := [.int 0, .int 0, .int 3]) (rest := []) (m_isWithin_y (v := 0) (a := 0) (b := 3) (by decide)) rfl (Nat.le_of_ble_eq_true rfl) ⟨Nat.le_of_ble_eq_true rfl, Nat.le_of_ble_eq_true rfl⟩ ⟨Nat.le_of_ble_eq_true rfl, Nat.le_of_ble_eq_true rfl⟩ ?_
  show vm_J _ _ _ (23, (0, 0), [.ref 0, .int 0, .int v], [.int 1]) (G, I, F) _ _
  refine vm_J.go vm_q132 (k := 1) (hs := []) (f' := (bif vm_ic .ne 1 0 then 28 else 26, (0, 0), [.ref 0, .int 0, .int v], [])) (h' := (G, I, F)) (hs' := []) rfl rfl ?_
  refine vm_J.bT (by decide) ?_
  refine vm_J.go vm_q132 (k := 4) (hs := []) (f' := (34, (0, 0), [.ref 0, .int 0, .int v], [.int 0, .ref 100009, .int 0, .int v])) (h' := (G, I, F)) (hs' := []) rfl rfl ?_
  refine vm_J.call vm_q132 (Z := vm_M152) (n := 2) (k := 1) (mi := 152) (pc := 34) (en := (34, .invokestatic 118, 3, [152, 511, 0], .null)) rfl trivial rfl rfl vm_z152 (av := [.ref 100009, .int 0]) (rest := [.int 0, .int v]) (m_at_s9_0) rfl (Nat.le_of_ble_eq_true rfl) ⟨Nat.le_of_ble_eq_true rfl, Nat.le_of_ble_eq_true rfl⟩ ⟨Nat.le_of_ble_eq_true rfl, Nat.le_of_ble_eq_true rfl⟩ ?_
  show vm_J _ _ _ (37, (0, 0), [.ref 0, .int 0, .int v], [.int 3, .int 0, .int v]) (G, I, F) _ _
  refine vm_J.call vm_q132 (Z := vm_M151) (n := 3) (k := 1) (mi := 151) (pc := 37) (en := (37, .invokestatic 56, 3, [151, 420, 0], .null)) rfl trivial rfl rfl vm_z151 (av := [.int v, .int 0, .int 3]) (rest := []) (m_isWithin_n (v := v) (a := 0) (b := 3) hv) rfl (Nat.le_of_ble_eq_true rfl) ⟨Nat.le_of_ble_eq_true rfl, Nat.le_of_ble_eq_true rfl⟩ ⟨Nat.le_of_ble_eq_true rfl, Nat.le_of_ble_eq_true rfl⟩ ?_
  show vm_J _ _ _ (40, (0, 0), [.ref 0, .int 0, .int v], [.int 0]) (G, I, F) _ _
  refine vm_J.go vm_q132 (k := 1) (hs := []) (f' := (bif vm_ic .ne 0 0 then 54 else 43, (0, 0), [.ref 0, .int 0, .int v], [])) (h' := (G, I, F)) (hs' := []) rfl rfl ?_
  refine vm_J.bF (by decide) ?_
  refine vm_J.go vm_q132 (k := 2) (hs := []) (f' := (bif vm_ic .ne 0 0 then 51 else 47, (0, 0), [.ref 0, .int 0, .int v], [])) (h' := (G, I, F)) (hs' := []) rfl rfl ?_
  refine vm_J.bF (by decide) ?_
  refine vm_J.go vm_q132 (k := 2) (hs := []) (f' := (53, (0, 0), [.ref 0, .int 0, .int v], [.int (-1)])) (h' := (G, I, F)) (hs' := []) rfl rfl ?_
  exact vm_J.end vm_q132 (en := (53, .ireturn, 1, [], .null)) rfl rfl vm_rI (Nat.zero_le _) (Nat.zero_le _) rfl
set_option maxHeartbeats 4000000 in
set_option maxRecDepth 20000 in
/-- DitherDesk.plan -/
theorem c_plan_f0 {l : Launch} {X : vm_Cx} {G : List vm_Sh} {I : Nat → Nat → Int32} {F : Nat → Nat → UInt32} {n : Nat} {v : Int32} (hD : vm_isD G) (hn : I (1 + 13) 2 = nI n) (hmo : I (1 + 13) 0 = nI 8) (hn2 : n = 8) (hv : 0 ≤ v ∧ v ≤ 3) : vm_K l X vm_M132 [.ref 0, .int 0, .int v] (G, I, F) (some (.int (-4))) (G, I, F) := by
  refine vm_K.mk (by decide) (Nat.le_of_ble_eq_true rfl) ?_
  show vm_J _ _ _ (0, (0, 0), [.ref 0, .int 0, .int v], []) _ _ _
  refine vm_J.go vm_q132 (k := 3) (hs := []) (f' := (bif vm_ic .ne 0 (-1) then 17 else 5, (0, 0), [.ref 0, .int 0, .int v], [])) (h' := (G, I, F)) (hs' := []) rfl rfl ?_
  refine vm_J.bT (by decide) ?_
  refine vm_J.go vm_q132 (k := 3) (hs := []) (f' := (20, (0, 0), [.ref 0, .int 0, .int v], [.int 3, .int 0, .int 0])) (h' := (G, I, F)) (hs' := []) rfl rfl ?_
  refine vm_J.call vm_q132 (Z := vm_M151) (n := 3) (k := 1) (mi := 151) (pc := 20) (en := (20, .invokestatic 56, 3, [151, 420, 0], .null)) rfl trivial rfl rfl vm_z151 (av := [.int 0, .int 0, .int 3]) (rest := []) (m_isWithin_y (v := 0) (a := 0) (b := 3) (by decide)) rfl (Nat.le_of_ble_eq_true rfl) ⟨Nat.le_of_ble_eq_true rfl, Nat.le_of_ble_eq_true rfl⟩ ⟨Nat.le_of_ble_eq_true rfl, Nat.le_of_ble_eq_true rfl⟩ ?_
  show vm_J _ _ _ (23, (0, 0), [.ref 0, .int 0, .int v], [.int 1]) (G, I, F) _ _
  refine vm_J.go vm_q132 (k := 1) (hs := []) (f' := (bif vm_ic .ne 1 0 then 28 else 26, (0, 0), [.ref 0, .int 0, .int v], [])) (h' := (G, I, F)) (hs' := []) rfl rfl ?_
  refine vm_J.bT (by decide) ?_
  refine vm_J.go vm_q132 (k := 4) (hs := []) (f' := (34, (0, 0), [.ref 0, .int 0, .int v], [.int 0, .ref 100009, .int 0, .int v])) (h' := (G, I, F)) (hs' := []) rfl rfl ?_
  refine vm_J.call vm_q132 (Z := vm_M152) (n := 2) (k := 1) (mi := 152) (pc := 34) (en := (34, .invokestatic 118, 3, [152, 511, 0], .null)) rfl trivial rfl rfl vm_z152 (av := [.ref 100009, .int 0]) (rest := [.int 0, .int v]) (m_at_s9_0) rfl (Nat.le_of_ble_eq_true rfl) ⟨Nat.le_of_ble_eq_true rfl, Nat.le_of_ble_eq_true rfl⟩ ⟨Nat.le_of_ble_eq_true rfl, Nat.le_of_ble_eq_true rfl⟩ ?_
  show vm_J _ _ _ (37, (0, 0), [.ref 0, .int 0, .int v], [.int 3, .int 0, .int v]) (G, I, F) _ _
  refine vm_J.call vm_q132 (Z := vm_M151) (n := 3) (k := 1) (mi := 151) (pc := 37) (en := (37, .invokestatic 56, 3, [151, 420, 0], .null)) rfl trivial rfl rfl vm_z151 (av := [.int v, .int 0, .int 3]) (rest := []) (m_isWithin_y (v := v) (a := 0) (b := 3) hv) rfl (Nat.le_of_ble_eq_true rfl) ⟨Nat.le_of_ble_eq_true rfl, Nat.le_of_ble_eq_true rfl⟩ ⟨Nat.le_of_ble_eq_true rfl, Nat.le_of_ble_eq_true rfl⟩ ?_
  show vm_J _ _ _ (40, (0, 0), [.ref 0, .int 0, .int v], [.int 1]) (G, I, F) _ _
  refine vm_J.go vm_q132 (k := 1) (hs := []) (f' := (bif vm_ic .ne 1 0 then 54 else 43, (0, 0), [.ref 0, .int 0, .int v], [])) (h' := (G, I, F)) (hs' := []) rfl rfl ?_
  refine vm_J.bT (by decide) ?_
  refine vm_J.go vm_q132 (k := 3) (hs := [(12, 9, [.ref 1, .ref 38, .ref 75, .ref 112, .ref 132, .ref 135, .ref 139, .int 0, .int 0]), (11, 7, [.ref (1 + 1), .ref (1 + 2), .ref (1 + 3), .ref (1 + 4), .ref (1 + 11), .ref (1 + 13), .ref (1 + 15)])]) (f' := (61, (0, 0), [.ref 0, .int 0, .int v], [.ref (1 + 13)])) (h' := (G, I, F)) (hs' := []) rfl (vm_b2 rfl (vm_b2 (vm_b2 (vm_hG hD.d) rfl) (vm_b2 (vm_b2 (vm_hG hD.w1.w) rfl) rfl))) ?_
  refine vm_J.call vm_q132 (Z := vm_M82) (n := 0) (k := 0) (mi := 82) (pc := 61) (en := (61, .invokevirtual 325, 3, [82, 957, 0], .null)) rfl trivial rfl rfl vm_z82 (av := [.ref (1 + 13)]) (rest := []) (m_Tab_isFull_y (o := 1 + 13) (a := 1 + 14) hD.w1.t2 (vm_fu hmo hn hn2)) ⟨_, _, rfl, rfl, _, 7, _, hD.w1.t2, rfl, rfl, rfl⟩ (Nat.le_of_ble_eq_true rfl) ⟨Nat.le_of_ble_eq_true rfl, Nat.le_of_ble_eq_true rfl⟩ ⟨Nat.le_of_ble_eq_true rfl, Nat.le_of_ble_eq_true rfl⟩ ?_
  show vm_J _ _ _ (64, (0, 0), [.ref 0, .int 0, .int v], [.int 1]) (G, I, F) _ _
  refine vm_J.go vm_q132 (k := 1) (hs := []) (f' := (bif vm_ic .eq 1 0 then 72 else 67, (0, 0), [.ref 0, .int 0, .int v], [])) (h' := (G, I, F)) (hs' := []) rfl rfl ?_
  refine vm_J.bF (by decide) ?_
  refine vm_J.go vm_q132 (k := 2) (hs := []) (f' := (85, (0, 0), [.ref 0, .int 0, .int v], [.int (-4)])) (h' := (G, I, F)) (hs' := []) rfl rfl ?_
  exact vm_J.end vm_q132 (en := (85, .ireturn, 1, [], .null)) rfl rfl vm_rI (Nat.zero_le _) (Nat.zero_le _) rfl
set_option maxHeartbeats 4000000 in
set_option maxRecDepth 20000 in
/-- DitherDesk.plan -/
theorem c_plan_y0 {l : Launch} {X : vm_Cx} {G : List vm_Sh} {I : Nat → Nat → Int32} {F : Nat → Nat → UInt32} {n : Nat} {v : Int32} (hD : vm_isD G) (hn : I (1 + 13) 2 = nI n) (hmo : I (1 + 13) 0 = nI 8) (hn2 : n < 8) (hv : 0 ≤ v ∧ v ≤ 3) : vm_K l X vm_M132 [.ref 0, .int 0, .int v] (G, I, F) (some (.int (nI (n + 1)))) (G, (vm_up (vm_up (vm_up (vm_up I (1 + 14) (3 * n) 0) (1 + 14) (3 * n + 1) v) (1 + 14) (3 * n + 2) 0) (1 + 13) 2 (nI (n + 1))), F) := by
  refine vm_K.mk (by decide) (Nat.le_of_ble_eq_true rfl) ?_
  show vm_J _ _ _ (0, (0, 0), [.ref 0, .int 0, .int v], []) _ _ _
  refine vm_J.go vm_q132 (k := 3) (hs := []) (f' := (bif vm_ic .ne 0 (-1) then 17 else 5, (0, 0), [.ref 0, .int 0, .int v], [])) (h' := (G, I, F)) (hs' := []) rfl rfl ?_
  refine vm_J.bT (by decide) ?_
  refine vm_J.go vm_q132 (k := 3) (hs := []) (f' := (20, (0, 0), [.ref 0, .int 0, .int v], [.int 3, .int 0, .int 0])) (h' := (G, I, F)) (hs' := []) rfl rfl ?_
  refine vm_J.call vm_q132 (Z := vm_M151) (n := 3) (k := 1) (mi := 151) (pc := 20) (en := (20, .invokestatic 56, 3, [151, 420, 0], .null)) rfl trivial rfl rfl vm_z151 (av := [.int 0, .int 0, .int 3]) (rest := []) (m_isWithin_y (v := 0) (a := 0) (b := 3) (by decide)) rfl (Nat.le_of_ble_eq_true rfl) ⟨Nat.le_of_ble_eq_true rfl, Nat.le_of_ble_eq_true rfl⟩ ⟨Nat.le_of_ble_eq_true rfl, Nat.le_of_ble_eq_true rfl⟩ ?_
  show vm_J _ _ _ (23, (0, 0), [.ref 0, .int 0, .int v], [.int 1]) (G, I, F) _ _
  refine vm_J.go vm_q132 (k := 1) (hs := []) (f' := (bif vm_ic .ne 1 0 then 28 else 26, (0, 0), [.ref 0, .int 0, .int v], [])) (h' := (G, I, F)) (hs' := []) rfl rfl ?_
  refine vm_J.bT (by decide) ?_
  refine vm_J.go vm_q132 (k := 4) (hs := []) (f' := (34, (0, 0), [.ref 0, .int 0, .int v], [.int 0, .ref 100009, .int 0, .int v])) (h' := (G, I, F)) (hs' := []) rfl rfl ?_
  refine vm_J.call vm_q132 (Z := vm_M152) (n := 2) (k := 1) (mi := 152) (pc := 34) (en := (34, .invokestatic 118, 3, [152, 511, 0], .null)) rfl trivial rfl rfl vm_z152 (av := [.ref 100009, .int 0]) (rest := [.int 0, .int v]) (m_at_s9_0) rfl (Nat.le_of_ble_eq_true rfl) ⟨Nat.le_of_ble_eq_true rfl, Nat.le_of_ble_eq_true rfl⟩ ⟨Nat.le_of_ble_eq_true rfl, Nat.le_of_ble_eq_true rfl⟩ ?_
  show vm_J _ _ _ (37, (0, 0), [.ref 0, .int 0, .int v], [.int 3, .int 0, .int v]) (G, I, F) _ _
  refine vm_J.call vm_q132 (Z := vm_M151) (n := 3) (k := 1) (mi := 151) (pc := 37) (en := (37, .invokestatic 56, 3, [151, 420, 0], .null)) rfl trivial rfl rfl vm_z151 (av := [.int v, .int 0, .int 3]) (rest := []) (m_isWithin_y (v := v) (a := 0) (b := 3) hv) rfl (Nat.le_of_ble_eq_true rfl) ⟨Nat.le_of_ble_eq_true rfl, Nat.le_of_ble_eq_true rfl⟩ ⟨Nat.le_of_ble_eq_true rfl, Nat.le_of_ble_eq_true rfl⟩ ?_
  show vm_J _ _ _ (40, (0, 0), [.ref 0, .int 0, .int v], [.int 1]) (G, I, F) _ _
  refine vm_J.go vm_q132 (k := 1) (hs := []) (f' := (bif vm_ic .ne 1 0 then 54 else 43, (0, 0), [.ref 0, .int 0, .int v], [])) (h' := (G, I, F)) (hs' := []) rfl rfl ?_
  refine vm_J.bT (by decide) ?_
  refine vm_J.go vm_q132 (k := 3) (hs := [(12, 9, [.ref 1, .ref 38, .ref 75, .ref 112, .ref 132, .ref 135, .ref 139, .int 0, .int 0]), (11, 7, [.ref (1 + 1), .ref (1 + 2), .ref (1 + 3), .ref (1 + 4), .ref (1 + 11), .ref (1 + 13), .ref (1 + 15)])]) (f' := (61, (0, 0), [.ref 0, .int 0, .int v], [.ref (1 + 13)])) (h' := (G, I, F)) (hs' := []) rfl (vm_b2 rfl (vm_b2 (vm_b2 (vm_hG hD.d) rfl) (vm_b2 (vm_b2 (vm_hG hD.w1.w) rfl) rfl))) ?_
  refine vm_J.call vm_q132 (Z := vm_M82) (n := 0) (k := 0) (mi := 82) (pc := 61) (en := (61, .invokevirtual 325, 3, [82, 957, 0], .null)) rfl trivial rfl rfl vm_z82 (av := [.ref (1 + 13)]) (rest := []) (m_Tab_isFull_n (o := 1 + 13) (a := 1 + 14) hD.w1.t2 (vm_nf hmo hn hn2 (by decide))) ⟨_, _, rfl, rfl, _, 7, _, hD.w1.t2, rfl, rfl, rfl⟩ (Nat.le_of_ble_eq_true rfl) ⟨Nat.le_of_ble_eq_true rfl, Nat.le_of_ble_eq_true rfl⟩ ⟨Nat.le_of_ble_eq_true rfl, Nat.le_of_ble_eq_true rfl⟩ ?_
  show vm_J _ _ _ (64, (0, 0), [.ref 0, .int 0, .int v], [.int 0]) (G, I, F) _ _
  refine vm_J.go vm_q132 (k := 1) (hs := []) (f' := (bif vm_ic .eq 0 0 then 72 else 67, (0, 0), [.ref 0, .int 0, .int v], [])) (h' := (G, I, F)) (hs' := []) rfl rfl ?_
  refine vm_J.bT (by decide) ?_
  refine vm_J.go vm_q132 (k := 6) (hs := [(12, 9, [.ref 1, .ref 38, .ref 75, .ref 112, .ref 132, .ref 135, .ref 139, .int 0, .int 0]), (11, 7, [.ref (1 + 1), .ref (1 + 2), .ref (1 + 3), .ref (1 + 4), .ref (1 + 11), .ref (1 + 13), .ref (1 + 15)])]) (f' := (82, (0, 0), [.ref 0, .int 0, .int v], [.int 0, .int v, .int 0, .ref (1 + 13)])) (h' := (G, I, F)) (hs' := []) rfl (vm_b2 rfl (vm_b2 (vm_b2 (vm_hG hD.d) rfl) (vm_b2 (vm_b2 (vm_hG hD.w1.w) rfl) (vm_b2 rfl (vm_b2 rfl (vm_b2 rfl rfl)))))) ?_
  refine vm_J.call vm_q132 (Z := vm_M84) (n := 3) (k := 0) (mi := 84) (pc := 82) (en := (82, .invokevirtual 326, 3, [84, 961, 0], .null)) rfl trivial rfl rfl vm_z84 (av := [.ref (1 + 13), .int 0, .int v, .int 0]) (rest := []) (m_Tab_append (o := 1 + 13) (a := 1 + 14) (n := n) (x := 0) (y := v) (z := 0) hD.w1.t2 hD.w1.u2 hn (by omega) (by omega)) ⟨_, _, rfl, rfl, _, 7, _, hD.w1.t2, rfl, rfl, rfl⟩ (Nat.le_of_ble_eq_true rfl) ⟨Nat.le_of_ble_eq_true rfl, Nat.le_of_ble_eq_true rfl⟩ ⟨Nat.le_of_ble_eq_true rfl, Nat.le_of_ble_eq_true rfl⟩ ?_
  show vm_J _ _ _ (85, (0, 0), [.ref 0, .int 0, .int v], [.int (nI (n + 1))]) (G, (vm_up (vm_up (vm_up (vm_up I (1 + 14) (3 * n) 0) (1 + 14) (3 * n + 1) v) (1 + 14) (3 * n + 2) 0) (1 + 13) 2 (nI (n + 1))), F) _ _
  exact vm_J.end vm_q132 (en := (85, .ireturn, 1, [], .null)) rfl rfl vm_rI (Nat.zero_le _) (Nat.zero_le _) rfl
set_option maxHeartbeats 4000000 in
set_option maxRecDepth 20000 in
/-- DitherDesk.plan -/
theorem c_plan_b1 {l : Launch} {X : vm_Cx} {G : List vm_Sh} {I : Nat → Nat → Int32} {F : Nat → Nat → UInt32} {v : Int32} (hD : vm_isD G) (hv : ¬ (0 ≤ v ∧ v ≤ 3)) : vm_K l X vm_M132 [.ref 0, .int 1, .int v] (G, I, F) (some (.int (-2))) (G, I, F) := by
  refine vm_K.mk (by decide) (Nat.le_of_ble_eq_true rfl) ?_
  show vm_J _ _ _ (0, (0, 0), [.ref 0, .int 1, .int v], []) _ _ _
  refine vm_J.go vm_q132 (k := 3) (hs := []) (f' := (bif vm_ic .ne 1 (-1) then 17 else 5, (0, 0), [.ref 0, .int 1, .int v], [])) (h' := (G, I, F)) (hs' := []) rfl rfl ?_
  refine vm_J.bT (by decide) ?_
  refine vm_J.go vm_q132 (k := 3) (hs := []) (f' := (20, (0, 0), [.ref 0, .int 1, .int v], [.int 3, .int 0, .int 1])) (h' := (G, I, F)) (hs' := []) rfl rfl ?_
  refine vm_J.call vm_q132 (Z := vm_M151) (n := 3) (k := 1) (mi := 151) (pc := 20) (en := (20, .invokestatic 56, 3, [151, 420, 0], .null)) rfl trivial rfl rfl vm_z151 (av := [.int 1, .int 0, .int 3]) (rest := []) (m_isWithin_y (v := 1) (a := 0) (b := 3) (by decide)) rfl (Nat.le_of_ble_eq_true rfl) ⟨Nat.le_of_ble_eq_true rfl, Nat.le_of_ble_eq_true rfl⟩ ⟨Nat.le_of_ble_eq_true rfl, Nat.le_of_ble_eq_true rfl⟩ ?_
  show vm_J _ _ _ (23, (0, 0), [.ref 0, .int 1, .int v], [.int 1]) (G, I, F) _ _
  refine vm_J.go vm_q132 (k := 1) (hs := []) (f' := (bif vm_ic .ne 1 0 then 28 else 26, (0, 0), [.ref 0, .int 1, .int v], [])) (h' := (G, I, F)) (hs' := []) rfl rfl ?_
  refine vm_J.bT (by decide) ?_
  refine vm_J.go vm_q132 (k := 4) (hs := []) (f' := (34, (0, 0), [.ref 0, .int 1, .int v], [.int 1, .ref 100009, .int 0, .int v])) (h' := (G, I, F)) (hs' := []) rfl rfl ?_
  refine vm_J.call vm_q132 (Z := vm_M152) (n := 2) (k := 1) (mi := 152) (pc := 34) (en := (34, .invokestatic 118, 3, [152, 511, 0], .null)) rfl trivial rfl rfl vm_z152 (av := [.ref 100009, .int 1]) (rest := [.int 0, .int v]) (m_at_s9_1) rfl (Nat.le_of_ble_eq_true rfl) ⟨Nat.le_of_ble_eq_true rfl, Nat.le_of_ble_eq_true rfl⟩ ⟨Nat.le_of_ble_eq_true rfl, Nat.le_of_ble_eq_true rfl⟩ ?_
  show vm_J _ _ _ (37, (0, 0), [.ref 0, .int 1, .int v], [.int 3, .int 0, .int v]) (G, I, F) _ _
  refine vm_J.call vm_q132 (Z := vm_M151) (n := 3) (k := 1) (mi := 151) (pc := 37) (en := (37, .invokestatic 56, 3, [151, 420, 0], .null)) rfl trivial rfl rfl vm_z151 (av := [.int v, .int 0, .int 3]) (rest := []) (m_isWithin_n (v := v) (a := 0) (b := 3) hv) rfl (Nat.le_of_ble_eq_true rfl) ⟨Nat.le_of_ble_eq_true rfl, Nat.le_of_ble_eq_true rfl⟩ ⟨Nat.le_of_ble_eq_true rfl, Nat.le_of_ble_eq_true rfl⟩ ?_
  show vm_J _ _ _ (40, (0, 0), [.ref 0, .int 1, .int v], [.int 0]) (G, I, F) _ _
  refine vm_J.go vm_q132 (k := 1) (hs := []) (f' := (bif vm_ic .ne 0 0 then 54 else 43, (0, 0), [.ref 0, .int 1, .int v], [])) (h' := (G, I, F)) (hs' := []) rfl rfl ?_
  refine vm_J.bF (by decide) ?_
  refine vm_J.go vm_q132 (k := 2) (hs := []) (f' := (bif vm_ic .ne 1 0 then 51 else 47, (0, 0), [.ref 0, .int 1, .int v], [])) (h' := (G, I, F)) (hs' := []) rfl rfl ?_
  refine vm_J.bT (by decide) ?_
  refine vm_J.go vm_q132 (k := 1) (hs := []) (f' := (53, (0, 0), [.ref 0, .int 1, .int v], [.int (-2)])) (h' := (G, I, F)) (hs' := []) rfl rfl ?_
  exact vm_J.end vm_q132 (en := (53, .ireturn, 1, [], .null)) rfl rfl vm_rI (Nat.zero_le _) (Nat.zero_le _) rfl
set_option maxHeartbeats 4000000 in
set_option maxRecDepth 20000 in
/-- DitherDesk.plan -/
theorem c_plan_f1 {l : Launch} {X : vm_Cx} {G : List vm_Sh} {I : Nat → Nat → Int32} {F : Nat → Nat → UInt32} {n : Nat} {v : Int32} (hD : vm_isD G) (hn : I (1 + 13) 2 = nI n) (hmo : I (1 + 13) 0 = nI 8) (hn2 : n = 8) (hv : 0 ≤ v ∧ v ≤ 3) : vm_K l X vm_M132 [.ref 0, .int 1, .int v] (G, I, F) (some (.int (-4))) (G, I, F) := by
  refine vm_K.mk (by decide) (Nat.le_of_ble_eq_true rfl) ?_
  show vm_J _ _ _ (0, (0, 0), [.ref 0, .int 1, .int v], []) _ _ _
  refine vm_J.go vm_q132 (k := 3) (hs := []) (f' := (bif vm_ic .ne 1 (-1) then 17 else 5, (0, 0), [.ref 0, .int 1, .int v], [])) (h' := (G, I, F)) (hs' := []) rfl rfl ?_
  refine vm_J.bT (by decide) ?_
  refine vm_J.go vm_q132 (k := 3) (hs := []) (f' := (20, (0, 0), [.ref 0, .int 1, .int v], [.int 3, .int 0, .int 1])) (h' := (G, I, F)) (hs' := []) rfl rfl ?_
  refine vm_J.call vm_q132 (Z := vm_M151) (n := 3) (k := 1) (mi := 151) (pc := 20) (en := (20, .invokestatic 56, 3, [151, 420, 0], .null)) rfl trivial rfl rfl vm_z151 (av := [.int 1, .int 0, .int 3]) (rest := []) (m_isWithin_y (v := 1) (a := 0) (b := 3) (by decide)) rfl (Nat.le_of_ble_eq_true rfl) ⟨Nat.le_of_ble_eq_true rfl, Nat.le_of_ble_eq_true rfl⟩ ⟨Nat.le_of_ble_eq_true rfl, Nat.le_of_ble_eq_true rfl⟩ ?_
  show vm_J _ _ _ (23, (0, 0), [.ref 0, .int 1, .int v], [.int 1]) (G, I, F) _ _
  refine vm_J.go vm_q132 (k := 1) (hs := []) (f' := (bif vm_ic .ne 1 0 then 28 else 26, (0, 0), [.ref 0, .int 1, .int v], [])) (h' := (G, I, F)) (hs' := []) rfl rfl ?_
  refine vm_J.bT (by decide) ?_
  refine vm_J.go vm_q132 (k := 4) (hs := []) (f' := (34, (0, 0), [.ref 0, .int 1, .int v], [.int 1, .ref 100009, .int 0, .int v])) (h' := (G, I, F)) (hs' := []) rfl rfl ?_
  refine vm_J.call vm_q132 (Z := vm_M152) (n := 2) (k := 1) (mi := 152) (pc := 34) (en := (34, .invokestatic 118, 3, [152, 511, 0], .null)) rfl trivial rfl rfl vm_z152 (av := [.ref 100009, .int 1]) (rest := [.int 0, .int v]) (m_at_s9_1) rfl (Nat.le_of_ble_eq_true rfl) ⟨Nat.le_of_ble_eq_true rfl, Nat.le_of_ble_eq_true rfl⟩ ⟨Nat.le_of_ble_eq_true rfl, Nat.le_of_ble_eq_true rfl⟩ ?_
  show vm_J _ _ _ (37, (0, 0), [.ref 0, .int 1, .int v], [.int 3, .int 0, .int v]) (G, I, F) _ _
  refine vm_J.call vm_q132 (Z := vm_M151) (n := 3) (k := 1) (mi := 151) (pc := 37) (en := (37, .invokestatic 56, 3, [151, 420, 0], .null)) rfl trivial rfl rfl vm_z151 (av := [.int v, .int 0, .int 3]) (rest := []) (m_isWithin_y (v := v) (a := 0) (b := 3) hv) rfl (Nat.le_of_ble_eq_true rfl) ⟨Nat.le_of_ble_eq_true rfl, Nat.le_of_ble_eq_true rfl⟩ ⟨Nat.le_of_ble_eq_true rfl, Nat.le_of_ble_eq_true rfl⟩ ?_
  show vm_J _ _ _ (40, (0, 0), [.ref 0, .int 1, .int v], [.int 1]) (G, I, F) _ _
  refine vm_J.go vm_q132 (k := 1) (hs := []) (f' := (bif vm_ic .ne 1 0 then 54 else 43, (0, 0), [.ref 0, .int 1, .int v], [])) (h' := (G, I, F)) (hs' := []) rfl rfl ?_
  refine vm_J.bT (by decide) ?_
  refine vm_J.go vm_q132 (k := 3) (hs := [(12, 9, [.ref 1, .ref 38, .ref 75, .ref 112, .ref 132, .ref 135, .ref 139, .int 0, .int 0]), (11, 7, [.ref (1 + 1), .ref (1 + 2), .ref (1 + 3), .ref (1 + 4), .ref (1 + 11), .ref (1 + 13), .ref (1 + 15)])]) (f' := (61, (0, 0), [.ref 0, .int 1, .int v], [.ref (1 + 13)])) (h' := (G, I, F)) (hs' := []) rfl (vm_b2 rfl (vm_b2 (vm_b2 (vm_hG hD.d) rfl) (vm_b2 (vm_b2 (vm_hG hD.w1.w) rfl) rfl))) ?_
  refine vm_J.call vm_q132 (Z := vm_M82) (n := 0) (k := 0) (mi := 82) (pc := 61) (en := (61, .invokevirtual 325, 3, [82, 957, 0], .null)) rfl trivial rfl rfl vm_z82 (av := [.ref (1 + 13)]) (rest := []) (m_Tab_isFull_y (o := 1 + 13) (a := 1 + 14) hD.w1.t2 (vm_fu hmo hn hn2)) ⟨_, _, rfl, rfl, _, 7, _, hD.w1.t2, rfl, rfl, rfl⟩ (Nat.le_of_ble_eq_true rfl) ⟨Nat.le_of_ble_eq_true rfl, Nat.le_of_ble_eq_true rfl⟩ ⟨Nat.le_of_ble_eq_true rfl, Nat.le_of_ble_eq_true rfl⟩ ?_
  show vm_J _ _ _ (64, (0, 0), [.ref 0, .int 1, .int v], [.int 1]) (G, I, F) _ _
  refine vm_J.go vm_q132 (k := 1) (hs := []) (f' := (bif vm_ic .eq 1 0 then 72 else 67, (0, 0), [.ref 0, .int 1, .int v], [])) (h' := (G, I, F)) (hs' := []) rfl rfl ?_
  refine vm_J.bF (by decide) ?_
  refine vm_J.go vm_q132 (k := 2) (hs := []) (f' := (85, (0, 0), [.ref 0, .int 1, .int v], [.int (-4)])) (h' := (G, I, F)) (hs' := []) rfl rfl ?_
  exact vm_J.end vm_q132 (en := (85, .ireturn, 1, [], .null)) rfl rfl vm_rI (Nat.zero_le _) (Nat.zero_le _) rfl
set_option maxHeartbeats 4000000 in
set_option maxRecDepth 20000 in
/-- DitherDesk.plan -/
theorem c_plan_y1 {l : Launch} {X : vm_Cx} {G : List vm_Sh} {I : Nat → Nat → Int32} {F : Nat → Nat → UInt32} {n : Nat} {v : Int32} (hD : vm_isD G) (hn : I (1 + 13) 2 = nI n) (hmo : I (1 + 13) 0 = nI 8) (hn2 : n < 8) (hv : 0 ≤ v ∧ v ≤ 3) : vm_K l X vm_M132 [.ref 0, .int 1, .int v] (G, I, F) (some (.int (nI (n + 1)))) (G, (vm_up (vm_up (vm_up (vm_up I (1 + 14) (3 * n) 1) (1 + 14) (3 * n + 1) v) (1 + 14) (3 * n + 2) 0) (1 + 13) 2 (nI (n + 1))), F) := by
  refine vm_K.mk (by decide) (Nat.le_of_ble_eq_true rfl) ?_
  show vm_J _ _ _ (0, (0, 0), [.ref 0, .int 1, .int v], []) _ _ _
  refine vm_J.go vm_q132 (k := 3) (hs := []) (f' := (bif vm_ic .ne 1 (-1) then 17 else 5, (0, 0), [.ref 0, .int 1, .int v], [])) (h' := (G, I, F)) (hs' := []) rfl rfl ?_
  refine vm_J.bT (by decide) ?_
  refine vm_J.go vm_q132 (k := 3) (hs := []) (f' := (20, (0, 0), [.ref 0, .int 1, .int v], [.int 3, .int 0, .int 1])) (h' := (G, I, F)) (hs' := []) rfl rfl ?_
  refine vm_J.call vm_q132 (Z := vm_M151) (n := 3) (k := 1) (mi := 151) (pc := 20) (en := (20, .invokestatic 56, 3, [151, 420, 0], .null)) rfl trivial rfl rfl vm_z151 (av := [.int 1, .int 0, .int 3]) (rest := []) (m_isWithin_y (v := 1) (a := 0) (b := 3) (by decide)) rfl (Nat.le_of_ble_eq_true rfl) ⟨Nat.le_of_ble_eq_true rfl, Nat.le_of_ble_eq_true rfl⟩ ⟨Nat.le_of_ble_eq_true rfl, Nat.le_of_ble_eq_true rfl⟩ ?_
  show vm_J _ _ _ (23, (0, 0), [.ref 0, .int 1, .int v], [.int 1]) (G, I, F) _ _
  refine vm_J.go vm_q132 (k := 1) (hs := []) (f' := (bif vm_ic .ne 1 0 then 28 else 26, (0, 0), [.ref 0, .int 1, .int v], [])) (h' := (G, I, F)) (hs' := []) rfl rfl ?_
  refine vm_J.bT (by decide) ?_
  refine vm_J.go vm_q132 (k := 4) (hs := []) (f' := (34, (0, 0), [.ref 0, .int 1, .int v], [.int 1, .ref 100009, .int 0, .int v])) (h' := (G, I, F)) (hs' := []) rfl rfl ?_
  refine vm_J.call vm_q132 (Z := vm_M152) (n := 2) (k := 1) (mi := 152) (pc := 34) (en := (34, .invokestatic 118, 3, [152, 511, 0], .null)) rfl trivial rfl rfl vm_z152 (av := [.ref 100009, .int 1]) (rest := [.int 0, .int v]) (m_at_s9_1) rfl (Nat.le_of_ble_eq_true rfl) ⟨Nat.le_of_ble_eq_true rfl, Nat.le_of_ble_eq_true rfl⟩ ⟨Nat.le_of_ble_eq_true rfl, Nat.le_of_ble_eq_true rfl⟩ ?_
  show vm_J _ _ _ (37, (0, 0), [.ref 0, .int 1, .int v], [.int 3, .int 0, .int v]) (G, I, F) _ _
  refine vm_J.call vm_q132 (Z := vm_M151) (n := 3) (k := 1) (mi := 151) (pc := 37) (en := (37, .invokestatic 56, 3, [151, 420, 0], .null)) rfl trivial rfl rfl vm_z151 (av := [.int v, .int 0, .int 3]) (rest := []) (m_isWithin_y (v := v) (a := 0) (b := 3) hv) rfl (Nat.le_of_ble_eq_true rfl) ⟨Nat.le_of_ble_eq_true rfl, Nat.le_of_ble_eq_true rfl⟩ ⟨Nat.le_of_ble_eq_true rfl, Nat.le_of_ble_eq_true rfl⟩ ?_
  show vm_J _ _ _ (40, (0, 0), [.ref 0, .int 1, .int v], [.int 1]) (G, I, F) _ _
  refine vm_J.go vm_q132 (k := 1) (hs := []) (f' := (bif vm_ic .ne 1 0 then 54 else 43, (0, 0), [.ref 0, .int 1, .int v], [])) (h' := (G, I, F)) (hs' := []) rfl rfl ?_
  refine vm_J.bT (by decide) ?_
  refine vm_J.go vm_q132 (k := 3) (hs := [(12, 9, [.ref 1, .ref 38, .ref 75, .ref 112, .ref 132, .ref 135, .ref 139, .int 0, .int 0]), (11, 7, [.ref (1 + 1), .ref (1 + 2), .ref (1 + 3), .ref (1 + 4), .ref (1 + 11), .ref (1 + 13), .ref (1 + 15)])]) (f' := (61, (0, 0), [.ref 0, .int 1, .int v], [.ref (1 + 13)])) (h' := (G, I, F)) (hs' := []) rfl (vm_b2 rfl (vm_b2 (vm_b2 (vm_hG hD.d) rfl) (vm_b2 (vm_b2 (vm_hG hD.w1.w) rfl) rfl))) ?_
  refine vm_J.call vm_q132 (Z := vm_M82) (n := 0) (k := 0) (mi := 82) (pc := 61) (en := (61, .invokevirtual 325, 3, [82, 957, 0], .null)) rfl trivial rfl rfl vm_z82 (av := [.ref (1 + 13)]) (rest := []) (m_Tab_isFull_n (o := 1 + 13) (a := 1 + 14) hD.w1.t2 (vm_nf hmo hn hn2 (by decide))) ⟨_, _, rfl, rfl, _, 7, _, hD.w1.t2, rfl, rfl, rfl⟩ (Nat.le_of_ble_eq_true rfl) ⟨Nat.le_of_ble_eq_true rfl, Nat.le_of_ble_eq_true rfl⟩ ⟨Nat.le_of_ble_eq_true rfl, Nat.le_of_ble_eq_true rfl⟩ ?_
  show vm_J _ _ _ (64, (0, 0), [.ref 0, .int 1, .int v], [.int 0]) (G, I, F) _ _
  refine vm_J.go vm_q132 (k := 1) (hs := []) (f' := (bif vm_ic .eq 0 0 then 72 else 67, (0, 0), [.ref 0, .int 1, .int v], [])) (h' := (G, I, F)) (hs' := []) rfl rfl ?_
  refine vm_J.bT (by decide) ?_
  refine vm_J.go vm_q132 (k := 6) (hs := [(12, 9, [.ref 1, .ref 38, .ref 75, .ref 112, .ref 132, .ref 135, .ref 139, .int 0, .int 0]), (11, 7, [.ref (1 + 1), .ref (1 + 2), .ref (1 + 3), .ref (1 + 4), .ref (1 + 11), .ref (1 + 13), .ref (1 + 15)])]) (f' := (82, (0, 0), [.ref 0, .int 1, .int v], [.int 0, .int v, .int 1, .ref (1 + 13)])) (h' := (G, I, F)) (hs' := []) rfl (vm_b2 rfl (vm_b2 (vm_b2 (vm_hG hD.d) rfl) (vm_b2 (vm_b2 (vm_hG hD.w1.w) rfl) (vm_b2 rfl (vm_b2 rfl (vm_b2 rfl rfl)))))) ?_
  refine vm_J.call vm_q132 (Z := vm_M84) (n := 3) (k := 0) (mi := 84) (pc := 82) (en := (82, .invokevirtual 326, 3, [84, 961, 0], .null)) rfl trivial rfl rfl vm_z84 (av := [.ref (1 + 13), .int 1, .int v, .int 0]) (rest := []) (m_Tab_append (o := 1 + 13) (a := 1 + 14) (n := n) (x := 1) (y := v) (z := 0) hD.w1.t2 hD.w1.u2 hn (by omega) (by omega)) ⟨_, _, rfl, rfl, _, 7, _, hD.w1.t2, rfl, rfl, rfl⟩ (Nat.le_of_ble_eq_true rfl) ⟨Nat.le_of_ble_eq_true rfl, Nat.le_of_ble_eq_true rfl⟩ ⟨Nat.le_of_ble_eq_true rfl, Nat.le_of_ble_eq_true rfl⟩ ?_
  show vm_J _ _ _ (85, (0, 0), [.ref 0, .int 1, .int v], [.int (nI (n + 1))]) (G, (vm_up (vm_up (vm_up (vm_up I (1 + 14) (3 * n) 1) (1 + 14) (3 * n + 1) v) (1 + 14) (3 * n + 2) 0) (1 + 13) 2 (nI (n + 1))), F) _ _
  exact vm_J.end vm_q132 (en := (85, .ireturn, 1, [], .null)) rfl rfl vm_rI (Nat.zero_le _) (Nat.zero_le _) rfl
set_option maxHeartbeats 4000000 in
set_option maxRecDepth 20000 in
/-- DitherDesk.plan -/
theorem c_plan_b2 {l : Launch} {X : vm_Cx} {G : List vm_Sh} {I : Nat → Nat → Int32} {F : Nat → Nat → UInt32} {v : Int32} (hD : vm_isD G) (hv : ¬ (0 ≤ v ∧ v ≤ 4)) : vm_K l X vm_M132 [.ref 0, .int 2, .int v] (G, I, F) (some (.int (-2))) (G, I, F) := by
  refine vm_K.mk (by decide) (Nat.le_of_ble_eq_true rfl) ?_
  show vm_J _ _ _ (0, (0, 0), [.ref 0, .int 2, .int v], []) _ _ _
  refine vm_J.go vm_q132 (k := 3) (hs := []) (f' := (bif vm_ic .ne 2 (-1) then 17 else 5, (0, 0), [.ref 0, .int 2, .int v], [])) (h' := (G, I, F)) (hs' := []) rfl rfl ?_
  refine vm_J.bT (by decide) ?_
  refine vm_J.go vm_q132 (k := 3) (hs := []) (f' := (20, (0, 0), [.ref 0, .int 2, .int v], [.int 3, .int 0, .int 2])) (h' := (G, I, F)) (hs' := []) rfl rfl ?_
  refine vm_J.call vm_q132 (Z := vm_M151) (n := 3) (k := 1) (mi := 151) (pc := 20) (en := (20, .invokestatic 56, 3, [151, 420, 0], .null)) rfl trivial rfl rfl vm_z151 (av := [.int 2, .int 0, .int 3]) (rest := []) (m_isWithin_y (v := 2) (a := 0) (b := 3) (by decide)) rfl (Nat.le_of_ble_eq_true rfl) ⟨Nat.le_of_ble_eq_true rfl, Nat.le_of_ble_eq_true rfl⟩ ⟨Nat.le_of_ble_eq_true rfl, Nat.le_of_ble_eq_true rfl⟩ ?_
  show vm_J _ _ _ (23, (0, 0), [.ref 0, .int 2, .int v], [.int 1]) (G, I, F) _ _
  refine vm_J.go vm_q132 (k := 1) (hs := []) (f' := (bif vm_ic .ne 1 0 then 28 else 26, (0, 0), [.ref 0, .int 2, .int v], [])) (h' := (G, I, F)) (hs' := []) rfl rfl ?_
  refine vm_J.bT (by decide) ?_
  refine vm_J.go vm_q132 (k := 4) (hs := []) (f' := (34, (0, 0), [.ref 0, .int 2, .int v], [.int 2, .ref 100009, .int 0, .int v])) (h' := (G, I, F)) (hs' := []) rfl rfl ?_
  refine vm_J.call vm_q132 (Z := vm_M152) (n := 2) (k := 1) (mi := 152) (pc := 34) (en := (34, .invokestatic 118, 3, [152, 511, 0], .null)) rfl trivial rfl rfl vm_z152 (av := [.ref 100009, .int 2]) (rest := [.int 0, .int v]) (m_at_s9_2) rfl (Nat.le_of_ble_eq_true rfl) ⟨Nat.le_of_ble_eq_true rfl, Nat.le_of_ble_eq_true rfl⟩ ⟨Nat.le_of_ble_eq_true rfl, Nat.le_of_ble_eq_true rfl⟩ ?_
  show vm_J _ _ _ (37, (0, 0), [.ref 0, .int 2, .int v], [.int 4, .int 0, .int v]) (G, I, F) _ _
  refine vm_J.call vm_q132 (Z := vm_M151) (n := 3) (k := 1) (mi := 151) (pc := 37) (en := (37, .invokestatic 56, 3, [151, 420, 0], .null)) rfl trivial rfl rfl vm_z151 (av := [.int v, .int 0, .int 4]) (rest := []) (m_isWithin_n (v := v) (a := 0) (b := 4) hv) rfl (Nat.le_of_ble_eq_true rfl) ⟨Nat.le_of_ble_eq_true rfl, Nat.le_of_ble_eq_true rfl⟩ ⟨Nat.le_of_ble_eq_true rfl, Nat.le_of_ble_eq_true rfl⟩ ?_
  show vm_J _ _ _ (40, (0, 0), [.ref 0, .int 2, .int v], [.int 0]) (G, I, F) _ _
  refine vm_J.go vm_q132 (k := 1) (hs := []) (f' := (bif vm_ic .ne 0 0 then 54 else 43, (0, 0), [.ref 0, .int 2, .int v], [])) (h' := (G, I, F)) (hs' := []) rfl rfl ?_
  refine vm_J.bF (by decide) ?_
  refine vm_J.go vm_q132 (k := 2) (hs := []) (f' := (bif vm_ic .ne 2 0 then 51 else 47, (0, 0), [.ref 0, .int 2, .int v], [])) (h' := (G, I, F)) (hs' := []) rfl rfl ?_
  refine vm_J.bT (by decide) ?_
  refine vm_J.go vm_q132 (k := 1) (hs := []) (f' := (53, (0, 0), [.ref 0, .int 2, .int v], [.int (-2)])) (h' := (G, I, F)) (hs' := []) rfl rfl ?_
  exact vm_J.end vm_q132 (en := (53, .ireturn, 1, [], .null)) rfl rfl vm_rI (Nat.zero_le _) (Nat.zero_le _) rfl
set_option maxHeartbeats 4000000 in
set_option maxRecDepth 20000 in
/-- DitherDesk.plan -/
theorem c_plan_f2 {l : Launch} {X : vm_Cx} {G : List vm_Sh} {I : Nat → Nat → Int32} {F : Nat → Nat → UInt32} {n : Nat} {v : Int32} (hD : vm_isD G) (hn : I (1 + 13) 2 = nI n) (hmo : I (1 + 13) 0 = nI 8) (hn2 : n = 8) (hv : 0 ≤ v ∧ v ≤ 4) : vm_K l X vm_M132 [.ref 0, .int 2, .int v] (G, I, F) (some (.int (-4))) (G, I, F) := by
  refine vm_K.mk (by decide) (Nat.le_of_ble_eq_true rfl) ?_
  show vm_J _ _ _ (0, (0, 0), [.ref 0, .int 2, .int v], []) _ _ _
  refine vm_J.go vm_q132 (k := 3) (hs := []) (f' := (bif vm_ic .ne 2 (-1) then 17 else 5, (0, 0), [.ref 0, .int 2, .int v], [])) (h' := (G, I, F)) (hs' := []) rfl rfl ?_
  refine vm_J.bT (by decide) ?_
  refine vm_J.go vm_q132 (k := 3) (hs := []) (f' := (20, (0, 0), [.ref 0, .int 2, .int v], [.int 3, .int 0, .int 2])) (h' := (G, I, F)) (hs' := []) rfl rfl ?_
  refine vm_J.call vm_q132 (Z := vm_M151) (n := 3) (k := 1) (mi := 151) (pc := 20) (en := (20, .invokestatic 56, 3, [151, 420, 0], .null)) rfl trivial rfl rfl vm_z151 (av := [.int 2, .int 0, .int 3]) (rest := []) (m_isWithin_y (v := 2) (a := 0) (b := 3) (by decide)) rfl (Nat.le_of_ble_eq_true rfl) ⟨Nat.le_of_ble_eq_true rfl, Nat.le_of_ble_eq_true rfl⟩ ⟨Nat.le_of_ble_eq_true rfl, Nat.le_of_ble_eq_true rfl⟩ ?_
  show vm_J _ _ _ (23, (0, 0), [.ref 0, .int 2, .int v], [.int 1]) (G, I, F) _ _
  refine vm_J.go vm_q132 (k := 1) (hs := []) (f' := (bif vm_ic .ne 1 0 then 28 else 26, (0, 0), [.ref 0, .int 2, .int v], [])) (h' := (G, I, F)) (hs' := []) rfl rfl ?_
  refine vm_J.bT (by decide) ?_
  refine vm_J.go vm_q132 (k := 4) (hs := []) (f' := (34, (0, 0), [.ref 0, .int 2, .int v], [.int 2, .ref 100009, .int 0, .int v])) (h' := (G, I, F)) (hs' := []) rfl rfl ?_
  refine vm_J.call vm_q132 (Z := vm_M152) (n := 2) (k := 1) (mi := 152) (pc := 34) (en := (34, .invokestatic 118, 3, [152, 511, 0], .null)) rfl trivial rfl rfl vm_z152 (av := [.ref 100009, .int 2]) (rest := [.int 0, .int v]) (m_at_s9_2) rfl (Nat.le_of_ble_eq_true rfl) ⟨Nat.le_of_ble_eq_true rfl, Nat.le_of_ble_eq_true rfl⟩ ⟨Nat.le_of_ble_eq_true rfl, Nat.le_of_ble_eq_true rfl⟩ ?_
  show vm_J _ _ _ (37, (0, 0), [.ref 0, .int 2, .int v], [.int 4, .int 0, .int v]) (G, I, F) _ _
  refine vm_J.call vm_q132 (Z := vm_M151) (n := 3) (k := 1) (mi := 151) (pc := 37) (en := (37, .invokestatic 56, 3, [151, 420, 0], .null)) rfl trivial rfl rfl vm_z151 (av := [.int v, .int 0, .int 4]) (rest := []) (m_isWithin_y (v := v) (a := 0) (b := 4) hv) rfl (Nat.le_of_ble_eq_true rfl) ⟨Nat.le_of_ble_eq_true rfl, Nat.le_of_ble_eq_true rfl⟩ ⟨Nat.le_of_ble_eq_true rfl, Nat.le_of_ble_eq_true rfl⟩ ?_
  show vm_J _ _ _ (40, (0, 0), [.ref 0, .int 2, .int v], [.int 1]) (G, I, F) _ _
  refine vm_J.go vm_q132 (k := 1) (hs := []) (f' := (bif vm_ic .ne 1 0 then 54 else 43, (0, 0), [.ref 0, .int 2, .int v], [])) (h' := (G, I, F)) (hs' := []) rfl rfl ?_
  refine vm_J.bT (by decide) ?_
  refine vm_J.go vm_q132 (k := 3) (hs := [(12, 9, [.ref 1, .ref 38, .ref 75, .ref 112, .ref 132, .ref 135, .ref 139, .int 0, .int 0]), (11, 7, [.ref (1 + 1), .ref (1 + 2), .ref (1 + 3), .ref (1 + 4), .ref (1 + 11), .ref (1 + 13), .ref (1 + 15)])]) (f' := (61, (0, 0), [.ref 0, .int 2, .int v], [.ref (1 + 13)])) (h' := (G, I, F)) (hs' := []) rfl (vm_b2 rfl (vm_b2 (vm_b2 (vm_hG hD.d) rfl) (vm_b2 (vm_b2 (vm_hG hD.w1.w) rfl) rfl))) ?_
  refine vm_J.call vm_q132 (Z := vm_M82) (n := 0) (k := 0) (mi := 82) (pc := 61) (en := (61, .invokevirtual 325, 3, [82, 957, 0], .null)) rfl trivial rfl rfl vm_z82 (av := [.ref (1 + 13)]) (rest := []) (m_Tab_isFull_y (o := 1 + 13) (a := 1 + 14) hD.w1.t2 (vm_fu hmo hn hn2)) ⟨_, _, rfl, rfl, _, 7, _, hD.w1.t2, rfl, rfl, rfl⟩ (Nat.le_of_ble_eq_true rfl) ⟨Nat.le_of_ble_eq_true rfl, Nat.le_of_ble_eq_true rfl⟩ ⟨Nat.le_of_ble_eq_true rfl, Nat.le_of_ble_eq_true rfl⟩ ?_
  show vm_J _ _ _ (64, (0, 0), [.ref 0, .int 2, .int v], [.int 1]) (G, I, F) _ _
  refine vm_J.go vm_q132 (k := 1) (hs := []) (f' := (bif vm_ic .eq 1 0 then 72 else 67, (0, 0), [.ref 0, .int 2, .int v], [])) (h' := (G, I, F)) (hs' := []) rfl rfl ?_
  refine vm_J.bF (by decide) ?_
  refine vm_J.go vm_q132 (k := 2) (hs := []) (f' := (85, (0, 0), [.ref 0, .int 2, .int v], [.int (-4)])) (h' := (G, I, F)) (hs' := []) rfl rfl ?_
  exact vm_J.end vm_q132 (en := (85, .ireturn, 1, [], .null)) rfl rfl vm_rI (Nat.zero_le _) (Nat.zero_le _) rfl
set_option maxHeartbeats 4000000 in
set_option maxRecDepth 20000 in
/-- DitherDesk.plan -/
theorem c_plan_y2 {l : Launch} {X : vm_Cx} {G : List vm_Sh} {I : Nat → Nat → Int32} {F : Nat → Nat → UInt32} {n : Nat} {v : Int32} (hD : vm_isD G) (hn : I (1 + 13) 2 = nI n) (hmo : I (1 + 13) 0 = nI 8) (hn2 : n < 8) (hv : 0 ≤ v ∧ v ≤ 4) : vm_K l X vm_M132 [.ref 0, .int 2, .int v] (G, I, F) (some (.int (nI (n + 1)))) (G, (vm_up (vm_up (vm_up (vm_up I (1 + 14) (3 * n) 2) (1 + 14) (3 * n + 1) v) (1 + 14) (3 * n + 2) 0) (1 + 13) 2 (nI (n + 1))), F) := by
  refine vm_K.mk (by decide) (Nat.le_of_ble_eq_true rfl) ?_
  show vm_J _ _ _ (0, (0, 0), [.ref 0, .int 2, .int v], []) _ _ _
  refine vm_J.go vm_q132 (k := 3) (hs := []) (f' := (bif vm_ic .ne 2 (-1) then 17 else 5, (0, 0), [.ref 0, .int 2, .int v], [])) (h' := (G, I, F)) (hs' := []) rfl rfl ?_
  refine vm_J.bT (by decide) ?_
  refine vm_J.go vm_q132 (k := 3) (hs := []) (f' := (20, (0, 0), [.ref 0, .int 2, .int v], [.int 3, .int 0, .int 2])) (h' := (G, I, F)) (hs' := []) rfl rfl ?_
  refine vm_J.call vm_q132 (Z := vm_M151) (n := 3) (k := 1) (mi := 151) (pc := 20) (en := (20, .invokestatic 56, 3, [151, 420, 0], .null)) rfl trivial rfl rfl vm_z151 (av := [.int 2, .int 0, .int 3]) (rest := []) (m_isWithin_y (v := 2) (a := 0) (b := 3) (by decide)) rfl (Nat.le_of_ble_eq_true rfl) ⟨Nat.le_of_ble_eq_true rfl, Nat.le_of_ble_eq_true rfl⟩ ⟨Nat.le_of_ble_eq_true rfl, Nat.le_of_ble_eq_true rfl⟩ ?_
  show vm_J _ _ _ (23, (0, 0), [.ref 0, .int 2, .int v], [.int 1]) (G, I, F) _ _
  refine vm_J.go vm_q132 (k := 1) (hs := []) (f' := (bif vm_ic .ne 1 0 then 28 else 26, (0, 0), [.ref 0, .int 2, .int v], [])) (h' := (G, I, F)) (hs' := []) rfl rfl ?_
  refine vm_J.bT (by decide) ?_
  refine vm_J.go vm_q132 (k := 4) (hs := []) (f' := (34, (0, 0), [.ref 0, .int 2, .int v], [.int 2, .ref 100009, .int 0, .int v])) (h' := (G, I, F)) (hs' := []) rfl rfl ?_
  refine vm_J.call vm_q132 (Z := vm_M152) (n := 2) (k := 1) (mi := 152) (pc := 34) (en := (34, .invokestatic 118, 3, [152, 511, 0], .null)) rfl trivial rfl rfl vm_z152 (av := [.ref 100009, .int 2]) (rest := [.int 0, .int v]) (m_at_s9_2) rfl (Nat.le_of_ble_eq_true rfl) ⟨Nat.le_of_ble_eq_true rfl, Nat.le_of_ble_eq_true rfl⟩ ⟨Nat.le_of_ble_eq_true rfl, Nat.le_of_ble_eq_true rfl⟩ ?_
  show vm_J _ _ _ (37, (0, 0), [.ref 0, .int 2, .int v], [.int 4, .int 0, .int v]) (G, I, F) _ _
  refine vm_J.call vm_q132 (Z := vm_M151) (n := 3) (k := 1) (mi := 151) (pc := 37) (en := (37, .invokestatic 56, 3, [151, 420, 0], .null)) rfl trivial rfl rfl vm_z151 (av := [.int v, .int 0, .int 4]) (rest := []) (m_isWithin_y (v := v) (a := 0) (b := 4) hv) rfl (Nat.le_of_ble_eq_true rfl) ⟨Nat.le_of_ble_eq_true rfl, Nat.le_of_ble_eq_true rfl⟩ ⟨Nat.le_of_ble_eq_true rfl, Nat.le_of_ble_eq_true rfl⟩ ?_
  show vm_J _ _ _ (40, (0, 0), [.ref 0, .int 2, .int v], [.int 1]) (G, I, F) _ _
  refine vm_J.go vm_q132 (k := 1) (hs := []) (f' := (bif vm_ic .ne 1 0 then 54 else 43, (0, 0), [.ref 0, .int 2, .int v], [])) (h' := (G, I, F)) (hs' := []) rfl rfl ?_
  refine vm_J.bT (by decide) ?_
  refine vm_J.go vm_q132 (k := 3) (hs := [(12, 9, [.ref 1, .ref 38, .ref 75, .ref 112, .ref 132, .ref 135, .ref 139, .int 0, .int 0]), (11, 7, [.ref (1 + 1), .ref (1 + 2), .ref (1 + 3), .ref (1 + 4), .ref (1 + 11), .ref (1 + 13), .ref (1 + 15)])]) (f' := (61, (0, 0), [.ref 0, .int 2, .int v], [.ref (1 + 13)])) (h' := (G, I, F)) (hs' := []) rfl (vm_b2 rfl (vm_b2 (vm_b2 (vm_hG hD.d) rfl) (vm_b2 (vm_b2 (vm_hG hD.w1.w) rfl) rfl))) ?_
  refine vm_J.call vm_q132 (Z := vm_M82) (n := 0) (k := 0) (mi := 82) (pc := 61) (en := (61, .invokevirtual 325, 3, [82, 957, 0], .null)) rfl trivial rfl rfl vm_z82 (av := [.ref (1 + 13)]) (rest := []) (m_Tab_isFull_n (o := 1 + 13) (a := 1 + 14) hD.w1.t2 (vm_nf hmo hn hn2 (by decide))) ⟨_, _, rfl, rfl, _, 7, _, hD.w1.t2, rfl, rfl, rfl⟩ (Nat.le_of_ble_eq_true rfl) ⟨Nat.le_of_ble_eq_true rfl, Nat.le_of_ble_eq_true rfl⟩ ⟨Nat.le_of_ble_eq_true rfl, Nat.le_of_ble_eq_true rfl⟩ ?_
  show vm_J _ _ _ (64, (0, 0), [.ref 0, .int 2, .int v], [.int 0]) (G, I, F) _ _
  refine vm_J.go vm_q132 (k := 1) (hs := []) (f' := (bif vm_ic .eq 0 0 then 72 else 67, (0, 0), [.ref 0, .int 2, .int v], [])) (h' := (G, I, F)) (hs' := []) rfl rfl ?_
  refine vm_J.bT (by decide) ?_
  refine vm_J.go vm_q132 (k := 6) (hs := [(12, 9, [.ref 1, .ref 38, .ref 75, .ref 112, .ref 132, .ref 135, .ref 139, .int 0, .int 0]), (11, 7, [.ref (1 + 1), .ref (1 + 2), .ref (1 + 3), .ref (1 + 4), .ref (1 + 11), .ref (1 + 13), .ref (1 + 15)])]) (f' := (82, (0, 0), [.ref 0, .int 2, .int v], [.int 0, .int v, .int 2, .ref (1 + 13)])) (h' := (G, I, F)) (hs' := []) rfl (vm_b2 rfl (vm_b2 (vm_b2 (vm_hG hD.d) rfl) (vm_b2 (vm_b2 (vm_hG hD.w1.w) rfl) (vm_b2 rfl (vm_b2 rfl (vm_b2 rfl rfl)))))) ?_
  refine vm_J.call vm_q132 (Z := vm_M84) (n := 3) (k := 0) (mi := 84) (pc := 82) (en := (82, .invokevirtual 326, 3, [84, 961, 0], .null)) rfl trivial rfl rfl vm_z84 (av := [.ref (1 + 13), .int 2, .int v, .int 0]) (rest := []) (m_Tab_append (o := 1 + 13) (a := 1 + 14) (n := n) (x := 2) (y := v) (z := 0) hD.w1.t2 hD.w1.u2 hn (by omega) (by omega)) ⟨_, _, rfl, rfl, _, 7, _, hD.w1.t2, rfl, rfl, rfl⟩ (Nat.le_of_ble_eq_true rfl) ⟨Nat.le_of_ble_eq_true rfl, Nat.le_of_ble_eq_true rfl⟩ ⟨Nat.le_of_ble_eq_true rfl, Nat.le_of_ble_eq_true rfl⟩ ?_
  show vm_J _ _ _ (85, (0, 0), [.ref 0, .int 2, .int v], [.int (nI (n + 1))]) (G, (vm_up (vm_up (vm_up (vm_up I (1 + 14) (3 * n) 2) (1 + 14) (3 * n + 1) v) (1 + 14) (3 * n + 2) 0) (1 + 13) 2 (nI (n + 1))), F) _ _
  exact vm_J.end vm_q132 (en := (85, .ireturn, 1, [], .null)) rfl rfl vm_rI (Nat.zero_le _) (Nat.zero_le _) rfl
set_option maxHeartbeats 4000000 in
set_option maxRecDepth 20000 in
/-- DitherDesk.plan -/
theorem c_plan_b3 {l : Launch} {X : vm_Cx} {G : List vm_Sh} {I : Nat → Nat → Int32} {F : Nat → Nat → UInt32} {v : Int32} (hD : vm_isD G) (hv : ¬ (0 ≤ v ∧ v ≤ 15)) : vm_K l X vm_M132 [.ref 0, .int 3, .int v] (G, I, F) (some (.int (-2))) (G, I, F) := by
  refine vm_K.mk (by decide) (Nat.le_of_ble_eq_true rfl) ?_
  show vm_J _ _ _ (0, (0, 0), [.ref 0, .int 3, .int v], []) _ _ _
  refine vm_J.go vm_q132 (k := 3) (hs := []) (f' := (bif vm_ic .ne 3 (-1) then 17 else 5, (0, 0), [.ref 0, .int 3, .int v], [])) (h' := (G, I, F)) (hs' := []) rfl rfl ?_
  refine vm_J.bT (by decide) ?_
  refine vm_J.go vm_q132 (k := 3) (hs := []) (f' := (20, (0, 0), [.ref 0, .int 3, .int v], [.int 3, .int 0, .int 3])) (h' := (G, I, F)) (hs' := []) rfl rfl ?_
  refine vm_J.call vm_q132 (Z := vm_M151) (n := 3) (k := 1) (mi := 151) (pc := 20) (en := (20, .invokestatic 56, 3, [151, 420, 0], .null)) rfl trivial rfl rfl vm_z151 (av := [.int 3, .int 0, .int 3]) (rest := []) (m_isWithin_y (v := 3) (a := 0) (b := 3) (by decide)) rfl (Nat.le_of_ble_eq_true rfl) ⟨Nat.le_of_ble_eq_true rfl, Nat.le_of_ble_eq_true rfl⟩ ⟨Nat.le_of_ble_eq_true rfl, Nat.le_of_ble_eq_true rfl⟩ ?_
  show vm_J _ _ _ (23, (0, 0), [.ref 0, .int 3, .int v], [.int 1]) (G, I, F) _ _
  refine vm_J.go vm_q132 (k := 1) (hs := []) (f' := (bif vm_ic .ne 1 0 then 28 else 26, (0, 0), [.ref 0, .int 3, .int v], [])) (h' := (G, I, F)) (hs' := []) rfl rfl ?_
  refine vm_J.bT (by decide) ?_
  refine vm_J.go vm_q132 (k := 4) (hs := []) (f' := (34, (0, 0), [.ref 0, .int 3, .int v], [.int 3, .ref 100009, .int 0, .int v])) (h' := (G, I, F)) (hs' := []) rfl rfl ?_
  refine vm_J.call vm_q132 (Z := vm_M152) (n := 2) (k := 1) (mi := 152) (pc := 34) (en := (34, .invokestatic 118, 3, [152, 511, 0], .null)) rfl trivial rfl rfl vm_z152 (av := [.ref 100009, .int 3]) (rest := [.int 0, .int v]) (m_at_s9_3) rfl (Nat.le_of_ble_eq_true rfl) ⟨Nat.le_of_ble_eq_true rfl, Nat.le_of_ble_eq_true rfl⟩ ⟨Nat.le_of_ble_eq_true rfl, Nat.le_of_ble_eq_true rfl⟩ ?_
  show vm_J _ _ _ (37, (0, 0), [.ref 0, .int 3, .int v], [.int 15, .int 0, .int v]) (G, I, F) _ _
  refine vm_J.call vm_q132 (Z := vm_M151) (n := 3) (k := 1) (mi := 151) (pc := 37) (en := (37, .invokestatic 56, 3, [151, 420, 0], .null)) rfl trivial rfl rfl vm_z151 (av := [.int v, .int 0, .int 15]) (rest := []) (m_isWithin_n (v := v) (a := 0) (b := 15) hv) rfl (Nat.le_of_ble_eq_true rfl) ⟨Nat.le_of_ble_eq_true rfl, Nat.le_of_ble_eq_true rfl⟩ ⟨Nat.le_of_ble_eq_true rfl, Nat.le_of_ble_eq_true rfl⟩ ?_
  show vm_J _ _ _ (40, (0, 0), [.ref 0, .int 3, .int v], [.int 0]) (G, I, F) _ _
  refine vm_J.go vm_q132 (k := 1) (hs := []) (f' := (bif vm_ic .ne 0 0 then 54 else 43, (0, 0), [.ref 0, .int 3, .int v], [])) (h' := (G, I, F)) (hs' := []) rfl rfl ?_
  refine vm_J.bF (by decide) ?_
  refine vm_J.go vm_q132 (k := 2) (hs := []) (f' := (bif vm_ic .ne 3 0 then 51 else 47, (0, 0), [.ref 0, .int 3, .int v], [])) (h' := (G, I, F)) (hs' := []) rfl rfl ?_
  refine vm_J.bT (by decide) ?_
  refine vm_J.go vm_q132 (k := 1) (hs := []) (f' := (53, (0, 0), [.ref 0, .int 3, .int v], [.int (-2)])) (h' := (G, I, F)) (hs' := []) rfl rfl ?_
  exact vm_J.end vm_q132 (en := (53, .ireturn, 1, [], .null)) rfl rfl vm_rI (Nat.zero_le _) (Nat.zero_le _) rfl
set_option maxHeartbeats 4000000 in
set_option maxRecDepth 20000 in
/-- DitherDesk.plan -/
theorem c_plan_f3 {l : Launch} {X : vm_Cx} {G : List vm_Sh} {I : Nat → Nat → Int32} {F : Nat → Nat → UInt32} {n : Nat} {v : Int32} (hD : vm_isD G) (hn : I (1 + 13) 2 = nI n) (hmo : I (1 + 13) 0 = nI 8) (hn2 : n = 8) (hv : 0 ≤ v ∧ v ≤ 15) : vm_K l X vm_M132 [.ref 0, .int 3, .int v] (G, I, F) (some (.int (-4))) (G, I, F) := by
  refine vm_K.mk (by decide) (Nat.le_of_ble_eq_true rfl) ?_
  show vm_J _ _ _ (0, (0, 0), [.ref 0, .int 3, .int v], []) _ _ _
  refine vm_J.go vm_q132 (k := 3) (hs := []) (f' := (bif vm_ic .ne 3 (-1) then 17 else 5, (0, 0), [.ref 0, .int 3, .int v], [])) (h' := (G, I, F)) (hs' := []) rfl rfl ?_
  refine vm_J.bT (by decide) ?_
  refine vm_J.go vm_q132 (k := 3) (hs := []) (f' := (20, (0, 0), [.ref 0, .int 3, .int v], [.int 3, .int 0, .int 3])) (h' := (G, I, F)) (hs' := []) rfl rfl ?_
  refine vm_J.call vm_q132 (Z := vm_M151) (n := 3) (k := 1) (mi := 151) (pc := 20) (en := (20, .invokestatic 56, 3, [151, 420, 0], .null)) rfl trivial rfl rfl vm_z151 (av := [.int 3, .int 0, .int 3]) (rest := []) (m_isWithin_y (v := 3) (a := 0) (b := 3) (by decide)) rfl (Nat.le_of_ble_eq_true rfl) ⟨Nat.le_of_ble_eq_true rfl, Nat.le_of_ble_eq_true rfl⟩ ⟨Nat.le_of_ble_eq_true rfl, Nat.le_of_ble_eq_true rfl⟩ ?_
  show vm_J _ _ _ (23, (0, 0), [.ref 0, .int 3, .int v], [.int 1]) (G, I, F) _ _
  refine vm_J.go vm_q132 (k := 1) (hs := []) (f' := (bif vm_ic .ne 1 0 then 28 else 26, (0, 0), [.ref 0, .int 3, .int v], [])) (h' := (G, I, F)) (hs' := []) rfl rfl ?_
  refine vm_J.bT (by decide) ?_
  refine vm_J.go vm_q132 (k := 4) (hs := []) (f' := (34, (0, 0), [.ref 0, .int 3, .int v], [.int 3, .ref 100009, .int 0, .int v])) (h' := (G, I, F)) (hs' := []) rfl rfl ?_
  refine vm_J.call vm_q132 (Z := vm_M152) (n := 2) (k := 1) (mi := 152) (pc := 34) (en := (34, .invokestatic 118, 3, [152, 511, 0], .null)) rfl trivial rfl rfl vm_z152 (av := [.ref 100009, .int 3]) (rest := [.int 0, .int v]) (m_at_s9_3) rfl (Nat.le_of_ble_eq_true rfl) ⟨Nat.le_of_ble_eq_true rfl, Nat.le_of_ble_eq_true rfl⟩ ⟨Nat.le_of_ble_eq_true rfl, Nat.le_of_ble_eq_true rfl⟩ ?_
  show vm_J _ _ _ (37, (0, 0), [.ref 0, .int 3, .int v], [.int 15, .int 0, .int v]) (G, I, F) _ _
  refine vm_J.call vm_q132 (Z := vm_M151) (n := 3) (k := 1) (mi := 151) (pc := 37) (en := (37, .invokestatic 56, 3, [151, 420, 0], .null)) rfl trivial rfl rfl vm_z151 (av := [.int v, .int 0, .int 15]) (rest := []) (m_isWithin_y (v := v) (a := 0) (b := 15) hv) rfl (Nat.le_of_ble_eq_true rfl) ⟨Nat.le_of_ble_eq_true rfl, Nat.le_of_ble_eq_true rfl⟩ ⟨Nat.le_of_ble_eq_true rfl, Nat.le_of_ble_eq_true rfl⟩ ?_
  show vm_J _ _ _ (40, (0, 0), [.ref 0, .int 3, .int v], [.int 1]) (G, I, F) _ _
  refine vm_J.go vm_q132 (k := 1) (hs := []) (f' := (bif vm_ic .ne 1 0 then 54 else 43, (0, 0), [.ref 0, .int 3, .int v], [])) (h' := (G, I, F)) (hs' := []) rfl rfl ?_
  refine vm_J.bT (by decide) ?_
  refine vm_J.go vm_q132 (k := 3) (hs := [(12, 9, [.ref 1, .ref 38, .ref 75, .ref 112, .ref 132, .ref 135, .ref 139, .int 0, .int 0]), (11, 7, [.ref (1 + 1), .ref (1 + 2), .ref (1 + 3), .ref (1 + 4), .ref (1 + 11), .ref (1 + 13), .ref (1 + 15)])]) (f' := (61, (0, 0), [.ref 0, .int 3, .int v], [.ref (1 + 13)])) (h' := (G, I, F)) (hs' := []) rfl (vm_b2 rfl (vm_b2 (vm_b2 (vm_hG hD.d) rfl) (vm_b2 (vm_b2 (vm_hG hD.w1.w) rfl) rfl))) ?_
  refine vm_J.call vm_q132 (Z := vm_M82) (n := 0) (k := 0) (mi := 82) (pc := 61) (en := (61, .invokevirtual 325, 3, [82, 957, 0], .null)) rfl trivial rfl rfl vm_z82 (av := [.ref (1 + 13)]) (rest := []) (m_Tab_isFull_y (o := 1 + 13) (a := 1 + 14) hD.w1.t2 (vm_fu hmo hn hn2)) ⟨_, _, rfl, rfl, _, 7, _, hD.w1.t2, rfl, rfl, rfl⟩ (Nat.le_of_ble_eq_true rfl) ⟨Nat.le_of_ble_eq_true rfl, Nat.le_of_ble_eq_true rfl⟩ ⟨Nat.le_of_ble_eq_true rfl, Nat.le_of_ble_eq_true rfl⟩ ?_
  show vm_J _ _ _ (64, (0, 0), [.ref 0, .int 3, .int v], [.int 1]) (G, I, F) _ _
  refine vm_J.go vm_q132 (k := 1) (hs := []) (f' := (bif vm_ic .eq 1 0 then 72 else 67, (0, 0), [.ref 0, .int 3, .int v], [])) (h' := (G, I, F)) (hs' := []) rfl rfl ?_
  refine vm_J.bF (by decide) ?_
  refine vm_J.go vm_q132 (k := 2) (hs := []) (f' := (85, (0, 0), [.ref 0, .int 3, .int v], [.int (-4)])) (h' := (G, I, F)) (hs' := []) rfl rfl ?_
  exact vm_J.end vm_q132 (en := (85, .ireturn, 1, [], .null)) rfl rfl vm_rI (Nat.zero_le _) (Nat.zero_le _) rfl
set_option maxHeartbeats 4000000 in
set_option maxRecDepth 20000 in
/-- DitherDesk.plan -/
theorem c_plan_y3 {l : Launch} {X : vm_Cx} {G : List vm_Sh} {I : Nat → Nat → Int32} {F : Nat → Nat → UInt32} {n : Nat} {v : Int32} (hD : vm_isD G) (hn : I (1 + 13) 2 = nI n) (hmo : I (1 + 13) 0 = nI 8) (hn2 : n < 8) (hv : 0 ≤ v ∧ v ≤ 15) : vm_K l X vm_M132 [.ref 0, .int 3, .int v] (G, I, F) (some (.int (nI (n + 1)))) (G, (vm_up (vm_up (vm_up (vm_up I (1 + 14) (3 * n) 3) (1 + 14) (3 * n + 1) v) (1 + 14) (3 * n + 2) 0) (1 + 13) 2 (nI (n + 1))), F) := by
  refine vm_K.mk (by decide) (Nat.le_of_ble_eq_true rfl) ?_
  show vm_J _ _ _ (0, (0, 0), [.ref 0, .int 3, .int v], []) _ _ _
  refine vm_J.go vm_q132 (k := 3) (hs := []) (f' := (bif vm_ic .ne 3 (-1) then 17 else 5, (0, 0), [.ref 0, .int 3, .int v], [])) (h' := (G, I, F)) (hs' := []) rfl rfl ?_
  refine vm_J.bT (by decide) ?_
  refine vm_J.go vm_q132 (k := 3) (hs := []) (f' := (20, (0, 0), [.ref 0, .int 3, .int v], [.int 3, .int 0, .int 3])) (h' := (G, I, F)) (hs' := []) rfl rfl ?_
  refine vm_J.call vm_q132 (Z := vm_M151) (n := 3) (k := 1) (mi := 151) (pc := 20) (en := (20, .invokestatic 56, 3, [151, 420, 0], .null)) rfl trivial rfl rfl vm_z151 (av := [.int 3, .int 0, .int 3]) (rest := []) (m_isWithin_y (v := 3) (a := 0) (b := 3) (by decide)) rfl (Nat.le_of_ble_eq_true rfl) ⟨Nat.le_of_ble_eq_true rfl, Nat.le_of_ble_eq_true rfl⟩ ⟨Nat.le_of_ble_eq_true rfl, Nat.le_of_ble_eq_true rfl⟩ ?_
  show vm_J _ _ _ (23, (0, 0), [.ref 0, .int 3, .int v], [.int 1]) (G, I, F) _ _
  refine vm_J.go vm_q132 (k := 1) (hs := []) (f' := (bif vm_ic .ne 1 0 then 28 else 26, (0, 0), [.ref 0, .int 3, .int v], [])) (h' := (G, I, F)) (hs' := []) rfl rfl ?_
  refine vm_J.bT (by decide) ?_
  refine vm_J.go vm_q132 (k := 4) (hs := []) (f' := (34, (0, 0), [.ref 0, .int 3, .int v], [.int 3, .ref 100009, .int 0, .int v])) (h' := (G, I, F)) (hs' := []) rfl rfl ?_
  refine vm_J.call vm_q132 (Z := vm_M152) (n := 2) (k := 1) (mi := 152) (pc := 34) (en := (34, .invokestatic 118, 3, [152, 511, 0], .null)) rfl trivial rfl rfl vm_z152 (av := [.ref 100009, .int 3]) (rest := [.int 0, .int v]) (m_at_s9_3) rfl (Nat.le_of_ble_eq_true rfl) ⟨Nat.le_of_ble_eq_true rfl, Nat.le_of_ble_eq_true rfl⟩ ⟨Nat.le_of_ble_eq_true rfl, Nat.le_of_ble_eq_true rfl⟩ ?_
  show vm_J _ _ _ (37, (0, 0), [.ref 0, .int 3, .int v], [.int 15, .int 0, .int v]) (G, I, F) _ _
  refine vm_J.call vm_q132 (Z := vm_M151) (n := 3) (k := 1) (mi := 151) (pc := 37) (en := (37, .invokestatic 56, 3, [151, 420, 0], .null)) rfl trivial rfl rfl vm_z151 (av := [.int v, .int 0, .int 15]) (rest := []) (m_isWithin_y (v := v) (a := 0) (b := 15) hv) rfl (Nat.le_of_ble_eq_true rfl) ⟨Nat.le_of_ble_eq_true rfl, Nat.le_of_ble_eq_true rfl⟩ ⟨Nat.le_of_ble_eq_true rfl, Nat.le_of_ble_eq_true rfl⟩ ?_
  show vm_J _ _ _ (40, (0, 0), [.ref 0, .int 3, .int v], [.int 1]) (G, I, F) _ _
  refine vm_J.go vm_q132 (k := 1) (hs := []) (f' := (bif vm_ic .ne 1 0 then 54 else 43, (0, 0), [.ref 0, .int 3, .int v], [])) (h' := (G, I, F)) (hs' := []) rfl rfl ?_
  refine vm_J.bT (by decide) ?_
  refine vm_J.go vm_q132 (k := 3) (hs := [(12, 9, [.ref 1, .ref 38, .ref 75, .ref 112, .ref 132, .ref 135, .ref 139, .int 0, .int 0]), (11, 7, [.ref (1 + 1), .ref (1 + 2), .ref (1 + 3), .ref (1 + 4), .ref (1 + 11), .ref (1 + 13), .ref (1 + 15)])]) (f' := (61, (0, 0), [.ref 0, .int 3, .int v], [.ref (1 + 13)])) (h' := (G, I, F)) (hs' := []) rfl (vm_b2 rfl (vm_b2 (vm_b2 (vm_hG hD.d) rfl) (vm_b2 (vm_b2 (vm_hG hD.w1.w) rfl) rfl))) ?_
  refine vm_J.call vm_q132 (Z := vm_M82) (n := 0) (k := 0) (mi := 82) (pc := 61) (en := (61, .invokevirtual 325, 3, [82, 957, 0], .null)) rfl trivial rfl rfl vm_z82 (av := [.ref (1 + 13)]) (rest := []) (m_Tab_isFull_n (o := 1 + 13) (a := 1 + 14) hD.w1.t2 (vm_nf hmo hn hn2 (by decide))) ⟨_, _, rfl, rfl, _, 7, _, hD.w1.t2, rfl, rfl, rfl⟩ (Nat.le_of_ble_eq_true rfl) ⟨Nat.le_of_ble_eq_true rfl, Nat.le_of_ble_eq_true rfl⟩ ⟨Nat.le_of_ble_eq_true rfl, Nat.le_of_ble_eq_true rfl⟩ ?_
  show vm_J _ _ _ (64, (0, 0), [.ref 0, .int 3, .int v], [.int 0]) (G, I, F) _ _
  refine vm_J.go vm_q132 (k := 1) (hs := []) (f' := (bif vm_ic .eq 0 0 then 72 else 67, (0, 0), [.ref 0, .int 3, .int v], [])) (h' := (G, I, F)) (hs' := []) rfl rfl ?_
  refine vm_J.bT (by decide) ?_
  refine vm_J.go vm_q132 (k := 6) (hs := [(12, 9, [.ref 1, .ref 38, .ref 75, .ref 112, .ref 132, .ref 135, .ref 139, .int 0, .int 0]), (11, 7, [.ref (1 + 1), .ref (1 + 2), .ref (1 + 3), .ref (1 + 4), .ref (1 + 11), .ref (1 + 13), .ref (1 + 15)])]) (f' := (82, (0, 0), [.ref 0, .int 3, .int v], [.int 0, .int v, .int 3, .ref (1 + 13)])) (h' := (G, I, F)) (hs' := []) rfl (vm_b2 rfl (vm_b2 (vm_b2 (vm_hG hD.d) rfl) (vm_b2 (vm_b2 (vm_hG hD.w1.w) rfl) (vm_b2 rfl (vm_b2 rfl (vm_b2 rfl rfl)))))) ?_
  refine vm_J.call vm_q132 (Z := vm_M84) (n := 3) (k := 0) (mi := 84) (pc := 82) (en := (82, .invokevirtual 326, 3, [84, 961, 0], .null)) rfl trivial rfl rfl vm_z84 (av := [.ref (1 + 13), .int 3, .int v, .int 0]) (rest := []) (m_Tab_append (o := 1 + 13) (a := 1 + 14) (n := n) (x := 3) (y := v) (z := 0) hD.w1.t2 hD.w1.u2 hn (by omega) (by omega)) ⟨_, _, rfl, rfl, _, 7, _, hD.w1.t2, rfl, rfl, rfl⟩ (Nat.le_of_ble_eq_true rfl) ⟨Nat.le_of_ble_eq_true rfl, Nat.le_of_ble_eq_true rfl⟩ ⟨Nat.le_of_ble_eq_true rfl, Nat.le_of_ble_eq_true rfl⟩ ?_
  show vm_J _ _ _ (85, (0, 0), [.ref 0, .int 3, .int v], [.int (nI (n + 1))]) (G, (vm_up (vm_up (vm_up (vm_up I (1 + 14) (3 * n) 3) (1 + 14) (3 * n + 1) v) (1 + 14) (3 * n + 2) 0) (1 + 13) 2 (nI (n + 1))), F) _ _
  exact vm_J.end vm_q132 (en := (85, .ireturn, 1, [], .null)) rfl rfl vm_rI (Nat.zero_le _) (Nat.zero_le _) rfl
set_option maxHeartbeats 4000000 in
set_option maxRecDepth 20000 in
/-- DitherDesk.book -/
theorem c_book_c {l : Launch} {X : vm_Cx} {G : List vm_Sh} {I : Nat → Nat → Int32} {F : Nat → Nat → UInt32} {v : Int32} (hD : vm_isD G) : vm_K l X vm_M134 [.ref 0, .int (-1), .int v] (G, I, F) (some (.int 0)) (G, (vm_up I (1 + 15) 2 0), F) := by
  refine vm_K.mk (by decide) (Nat.le_of_ble_eq_true rfl) ?_
  show vm_J _ _ _ (0, (0, 0), [.ref 0, .int (-1), .int v], []) _ _ _
  refine vm_J.go vm_q134 (k := 3) (hs := []) (f' := (bif vm_ic .ne (-1) (-1) then 17 else 5, (0, 0), [.ref 0, .int (-1), .int v], [])) (h' := (G, I, F)) (hs' := []) rfl rfl ?_
  refine vm_J.bF (by decide) ?_
  refine vm_J.go vm_q134 (k := 3) (hs := [(12, 9, [.ref 1, .ref 38, .ref 75, .ref 112, .ref 132, .ref 135, .ref 139, .int 0, .int 0]), (11, 7, [.ref (1 + 1), .ref (1 + 2), .ref (1 + 3), .ref (1 + 4), .ref (1 + 11), .ref (1 + 13), .ref (1 + 15)])]) (f' := (12, (0, 0), [.ref 0, .int (-1), .int v], [.ref (1 + 15)])) (h' := (G, I, F)) (hs' := []) rfl (vm_b2 rfl (vm_b2 (vm_b2 (vm_hG hD.d) rfl) (vm_b2 (vm_b2 (vm_hG hD.w1.w) rfl) rfl))) ?_
  refine vm_J.call vm_q134 (Z := vm_M83) (n := 0) (k := 0) (mi := 83) (pc := 12) (en := (12, .invokevirtual 320, 3, [83, 953, 0], .null)) rfl trivial rfl rfl vm_z83 (av := [.ref (1 + 15)]) (rest := []) (m_Tab_clear (o := 1 + 15) (a := 1 + 16) hD.w1.t3) ⟨_, _, rfl, rfl, _, 7, _, hD.w1.t3, rfl, rfl, rfl⟩ (Nat.le_of_ble_eq_true rfl) ⟨Nat.le_of_ble_eq_true rfl, Nat.le_of_ble_eq_true rfl⟩ ⟨Nat.le_of_ble_eq_true rfl, Nat.le_of_ble_eq_true rfl⟩ ?_
  show vm_J _ _ _ (15, (0, 0), [.ref 0, .int (-1), .int v], []) (G, (vm_up I (1 + 15) 2 0), F) _ _
  refine vm_J.go vm_q134 (k := 1) (hs := []) (f' := (16, (0, 0), [.ref 0, .int (-1), .int v], [.int 0])) (h' := (G, (vm_up I (1 + 15) 2 0), F)) (hs' := []) rfl rfl ?_
  exact vm_J.end vm_q134 (en := (16, .ireturn, 1, [], .null)) rfl rfl vm_rI (Nat.zero_le _) (Nat.zero_le _) rfl
set_option maxHeartbeats 4000000 in
set_option maxRecDepth 20000 in
/-- DitherDesk.book -/
theorem c_book_x {l : Launch} {X : vm_Cx} {G : List vm_Sh} {I : Nat → Nat → Int32} {F : Nat → Nat → UInt32} {x : Int32} {v : Int32} (hD : vm_isD G) (hx1 : ¬ x = -1) (hx : ¬ (0 ≤ x ∧ x ≤ 3)) : vm_K l X vm_M134 [.ref 0, .int x, .int v] (G, I, F) (some (.int (-1))) (G, I, F) := by
  refine vm_K.mk (by decide) (Nat.le_of_ble_eq_true rfl) ?_
  show vm_J _ _ _ (0, (0, 0), [.ref 0, .int x, .int v], []) _ _ _
  refine vm_J.go vm_q134 (k := 3) (hs := []) (f' := (bif vm_ic .ne x (-1) then 17 else 5, (0, 0), [.ref 0, .int x, .int v], [])) (h' := (G, I, F)) (hs' := []) rfl rfl ?_
  refine vm_J.bT (decide_eq_true hx1) ?_
  refine vm_J.go vm_q134 (k := 3) (hs := [(12, 9, [.ref 1, .ref 38, .ref 75, .ref 112, .ref 132, .ref 135, .ref 139, .int 0, .int 0])]) (f' := (22, (0, 0), [.ref 0, .int x, .int v], [.int x, .ref 1])) (h' := (G, I, F)) (hs' := []) rfl (vm_b2 rfl (vm_b2 (vm_b2 (vm_hG hD.d) rfl) (vm_b2 rfl rfl))) ?_
  refine vm_J.call vm_q134 (Z := vm_M93) (n := 1) (k := 0) (mi := 93) (pc := 22) (en := (22, .invokevirtual 172, 3, [93, 619, 0], .null)) rfl trivial rfl rfl vm_z93 (av := [.ref 1, .int x]) (rest := []) (m_pal_x (B := 1) (p := x) hD.w1 (vm_nx hx)) ⟨_, _, rfl, rfl, _, 9, _, hD.w1.w, rfl, rfl, rfl⟩ (Nat.le_of_ble_eq_true rfl) ⟨Nat.le_of_ble_eq_true rfl, Nat.le_of_ble_eq_true rfl⟩ ⟨Nat.le_of_ble_eq_true rfl, Nat.le_of_ble_eq_true rfl⟩ ?_
  show vm_J _ _ _ (25, (0, 0), [.ref 0, .int x, .int v], [.null]) (G, I, F) _ _
  refine vm_J.go vm_q134 (k := 2) (hs := []) (f' := (29, (0, 0), [.ref 0, .int x, .int v], [.int (-1)])) (h' := (G, I, F)) (hs' := []) rfl rfl ?_
  exact vm_J.end vm_q134 (en := (29, .ireturn, 1, [], .null)) rfl rfl vm_rI (Nat.zero_le _) (Nat.zero_le _) rfl
set_option maxHeartbeats 4000000 in
set_option maxRecDepth 20000 in
/-- DitherDesk.book -/
theorem c_book_b {l : Launch} {X : vm_Cx} {G : List vm_Sh} {I : Nat → Nat → Int32} {F : Nat → Nat → UInt32} {p : Nat} {v : Int32} (hD : vm_isD G) (hp : p < 4) (hv : ¬ (0 ≤ v ∧ v ≤ 16)) : vm_K l X vm_M134 [.ref 0, .int (nI p), .int v] (G, I, F) (some (.int (-2))) (G, I, F) := by
  refine vm_K.mk (by decide) (Nat.le_of_ble_eq_true rfl) ?_
  show vm_J _ _ _ (0, (0, 0), [.ref 0, .int (nI p), .int v], []) _ _ _
  refine vm_J.go vm_q134 (k := 3) (hs := []) (f' := (bif vm_ic .ne (nI p) (-1) then 17 else 5, (0, 0), [.ref 0, .int (nI p), .int v], [])) (h' := (G, I, F)) (hs' := []) rfl rfl ?_
  refine vm_J.bT (decide_eq_true (vm_m1 (by omega))) ?_
  refine vm_J.go vm_q134 (k := 3) (hs := [(12, 9, [.ref 1, .ref 38, .ref 75, .ref 112, .ref 132, .ref 135, .ref 139, .int 0, .int 0])]) (f' := (22, (0, 0), [.ref 0, .int (nI p), .int v], [.int (nI p), .ref 1])) (h' := (G, I, F)) (hs' := []) rfl (vm_b2 rfl (vm_b2 (vm_b2 (vm_hG hD.d) rfl) (vm_b2 rfl rfl))) ?_
  refine vm_J.call vm_q134 (Z := vm_M93) (n := 1) (k := 0) (mi := 93) (pc := 22) (en := (22, .invokevirtual 172, 3, [93, 619, 0], .null)) rfl trivial rfl rfl vm_z93 (av := [.ref 1, .int (nI p)]) (rest := []) (m_pal_n (B := 1) (p := p) hD.w1 (by omega)) ⟨_, _, rfl, rfl, _, 9, _, hD.w1.w, rfl, rfl, rfl⟩ (Nat.le_of_ble_eq_true rfl) ⟨Nat.le_of_ble_eq_true rfl, Nat.le_of_ble_eq_true rfl⟩ ⟨Nat.le_of_ble_eq_true rfl, Nat.le_of_ble_eq_true rfl⟩ ?_
  show vm_J _ _ _ (25, (0, 0), [.ref 0, .int (nI p), .int v], [.ref (1 + 25 + 3 * p)]) (G, I, F) _ _
  refine vm_J.go vm_q134 (k := 4) (hs := []) (f' := (34, (0, 0), [.ref 0, .int (nI p), .int v], [.int 16, .int 0, .int v])) (h' := (G, I, F)) (hs' := []) rfl rfl ?_
  refine vm_J.call vm_q134 (Z := vm_M151) (n := 3) (k := 1) (mi := 151) (pc := 34) (en := (34, .invokestatic 56, 3, [151, 420, 0], .null)) rfl trivial rfl rfl vm_z151 (av := [.int v, .int 0, .int 16]) (rest := []) (m_isWithin_n (v := v) (a := 0) (b := 16) hv) rfl (Nat.le_of_ble_eq_true rfl) ⟨Nat.le_of_ble_eq_true rfl, Nat.le_of_ble_eq_true rfl⟩ ⟨Nat.le_of_ble_eq_true rfl, Nat.le_of_ble_eq_true rfl⟩ ?_
  show vm_J _ _ _ (37, (0, 0), [.ref 0, .int (nI p), .int v], [.int 0]) (G, I, F) _ _
  refine vm_J.go vm_q134 (k := 1) (hs := []) (f' := (bif vm_ic .ne 0 0 then 43 else 40, (0, 0), [.ref 0, .int (nI p), .int v], [])) (h' := (G, I, F)) (hs' := []) rfl rfl ?_
  refine vm_J.bF (by decide) ?_
  refine vm_J.go vm_q134 (k := 1) (hs := []) (f' := (42, (0, 0), [.ref 0, .int (nI p), .int v], [.int (-2)])) (h' := (G, I, F)) (hs' := []) rfl rfl ?_
  exact vm_J.end vm_q134 (en := (42, .ireturn, 1, [], .null)) rfl rfl vm_rI (Nat.zero_le _) (Nat.zero_le _) rfl
set_option maxHeartbeats 4000000 in
set_option maxRecDepth 20000 in
/-- DitherDesk.book -/
theorem c_book_f {l : Launch} {X : vm_Cx} {G : List vm_Sh} {I : Nat → Nat → Int32} {F : Nat → Nat → UInt32} {n : Nat} {p : Nat} {v : Int32} (hD : vm_isD G) (hn : I (1 + 15) 2 = nI n) (hmo : I (1 + 15) 0 = nI 8) (hn2 : n = 8) (hp : p < 4) (hv : 0 ≤ v ∧ v ≤ 16) : vm_K l X vm_M134 [.ref 0, .int (nI p), .int v] (G, I, F) (some (.int (-4))) (G, I, F) := by
  refine vm_K.mk (by decide) (Nat.le_of_ble_eq_true rfl) ?_
  show vm_J _ _ _ (0, (0, 0), [.ref 0, .int (nI p), .int v], []) _ _ _
  refine vm_J.go vm_q134 (k := 3) (hs := []) (f' := (bif vm_ic .ne (nI p) (-1) then 17 else 5, (0, 0), [.ref 0, .int (nI p), .int v], [])) (h' := (G, I, F)) (hs' := []) rfl rfl ?_
  refine vm_J.bT (decide_eq_true (vm_m1 (by omega))) ?_
  refine vm_J.go vm_q134 (k := 3) (hs := [(12, 9, [.ref 1, .ref 38, .ref 75, .ref 112, .ref 132, .ref 135, .ref 139, .int 0, .int 0])]) (f' := (22, (0, 0), [.ref 0, .int (nI p), .int v], [.int (nI p), .ref 1])) (h' := (G, I, F)) (hs' := []) rfl (vm_b2 rfl (vm_b2 (vm_b2 (vm_hG hD.d) rfl) (vm_b2 rfl rfl))) ?_
  refine vm_J.call vm_q134 (Z := vm_M93) (n := 1) (k := 0) (mi := 93) (pc := 22) (en := (22, .invokevirtual 172, 3, [93, 619, 0], .null)) rfl trivial rfl rfl vm_z93 (av := [.ref 1, .int (nI p)]) (rest := []) (m_pal_n (B := 1) (p := p) hD.w1 (by omega)) ⟨_, _, rfl, rfl, _, 9, _, hD.w1.w, rfl, rfl, rfl⟩ (Nat.le_of_ble_eq_true rfl) ⟨Nat.le_of_ble_eq_true rfl, Nat.le_of_ble_eq_true rfl⟩ ⟨Nat.le_of_ble_eq_true rfl, Nat.le_of_ble_eq_true rfl⟩ ?_
  show vm_J _ _ _ (25, (0, 0), [.ref 0, .int (nI p), .int v], [.ref (1 + 25 + 3 * p)]) (G, I, F) _ _
  refine vm_J.go vm_q134 (k := 4) (hs := []) (f' := (34, (0, 0), [.ref 0, .int (nI p), .int v], [.int 16, .int 0, .int v])) (h' := (G, I, F)) (hs' := []) rfl rfl ?_
  refine vm_J.call vm_q134 (Z := vm_M151) (n := 3) (k := 1) (mi := 151) (pc := 34) (en := (34, .invokestatic 56, 3, [151, 420, 0], .null)) rfl trivial rfl rfl vm_z151 (av := [.int v, .int 0, .int 16]) (rest := []) (m_isWithin_y (v := v) (a := 0) (b := 16) hv) rfl (Nat.le_of_ble_eq_true rfl) ⟨Nat.le_of_ble_eq_true rfl, Nat.le_of_ble_eq_true rfl⟩ ⟨Nat.le_of_ble_eq_true rfl, Nat.le_of_ble_eq_true rfl⟩ ?_
  show vm_J _ _ _ (37, (0, 0), [.ref 0, .int (nI p), .int v], [.int 1]) (G, I, F) _ _
  refine vm_J.go vm_q134 (k := 1) (hs := []) (f' := (bif vm_ic .ne 1 0 then 43 else 40, (0, 0), [.ref 0, .int (nI p), .int v], [])) (h' := (G, I, F)) (hs' := []) rfl rfl ?_
  refine vm_J.bT (by decide) ?_
  refine vm_J.go vm_q134 (k := 3) (hs := [(12, 9, [.ref 1, .ref 38, .ref 75, .ref 112, .ref 132, .ref 135, .ref 139, .int 0, .int 0]), (11, 7, [.ref (1 + 1), .ref (1 + 2), .ref (1 + 3), .ref (1 + 4), .ref (1 + 11), .ref (1 + 13), .ref (1 + 15)])]) (f' := (50, (0, 0), [.ref 0, .int (nI p), .int v], [.ref (1 + 15)])) (h' := (G, I, F)) (hs' := []) rfl (vm_b2 rfl (vm_b2 (vm_b2 (vm_hG hD.d) rfl) (vm_b2 (vm_b2 (vm_hG hD.w1.w) rfl) rfl))) ?_
  refine vm_J.call vm_q134 (Z := vm_M82) (n := 0) (k := 0) (mi := 82) (pc := 50) (en := (50, .invokevirtual 325, 3, [82, 957, 0], .null)) rfl trivial rfl rfl vm_z82 (av := [.ref (1 + 15)]) (rest := []) (m_Tab_isFull_y (o := 1 + 15) (a := 1 + 16) hD.w1.t3 (vm_fu hmo hn hn2)) ⟨_, _, rfl, rfl, _, 7, _, hD.w1.t3, rfl, rfl, rfl⟩ (Nat.le_of_ble_eq_true rfl) ⟨Nat.le_of_ble_eq_true rfl, Nat.le_of_ble_eq_true rfl⟩ ⟨Nat.le_of_ble_eq_true rfl, Nat.le_of_ble_eq_true rfl⟩ ?_
  show vm_J _ _ _ (53, (0, 0), [.ref 0, .int (nI p), .int v], [.int 1]) (G, I, F) _ _
  refine vm_J.go vm_q134 (k := 1) (hs := []) (f' := (bif vm_ic .eq 1 0 then 61 else 56, (0, 0), [.ref 0, .int (nI p), .int v], [])) (h' := (G, I, F)) (hs' := []) rfl rfl ?_
  refine vm_J.bF (by decide) ?_
  refine vm_J.go vm_q134 (k := 2) (hs := []) (f' := (74, (0, 0), [.ref 0, .int (nI p), .int v], [.int (-4)])) (h' := (G, I, F)) (hs' := []) rfl rfl ?_
  exact vm_J.end vm_q134 (en := (74, .ireturn, 1, [], .null)) rfl rfl vm_rI (Nat.zero_le _) (Nat.zero_le _) rfl
set_option maxHeartbeats 4000000 in
set_option maxRecDepth 20000 in
/-- DitherDesk.book -/
theorem c_book_y {l : Launch} {X : vm_Cx} {G : List vm_Sh} {I : Nat → Nat → Int32} {F : Nat → Nat → UInt32} {n : Nat} {p : Nat} {v : Int32} (hD : vm_isD G) (hn : I (1 + 15) 2 = nI n) (hmo : I (1 + 15) 0 = nI 8) (hn2 : n < 8) (hp : p < 4) (hv : 0 ≤ v ∧ v ≤ 16) : vm_K l X vm_M134 [.ref 0, .int (nI p), .int v] (G, I, F) (some (.int (nI (n + 1)))) (G, (vm_up (vm_up (vm_up (vm_up I (1 + 16) (3 * n) (nI p)) (1 + 16) (3 * n + 1) v) (1 + 16) (3 * n + 2) 0) (1 + 15) 2 (nI (n + 1))), F) := by
  refine vm_K.mk (by decide) (Nat.le_of_ble_eq_true rfl) ?_
  show vm_J _ _ _ (0, (0, 0), [.ref 0, .int (nI p), .int v], []) _ _ _
  refine vm_J.go vm_q134 (k := 3) (hs := []) (f' := (bif vm_ic .ne (nI p) (-1) then 17 else 5, (0, 0), [.ref 0, .int (nI p), .int v], [])) (h' := (G, I, F)) (hs' := []) rfl rfl ?_
  refine vm_J.bT (decide_eq_true (vm_m1 (by omega))) ?_
  refine vm_J.go vm_q134 (k := 3) (hs := [(12, 9, [.ref 1, .ref 38, .ref 75, .ref 112, .ref 132, .ref 135, .ref 139, .int 0, .int 0])]) (f' := (22, (0, 0), [.ref 0, .int (nI p), .int v], [.int (nI p), .ref 1])) (h' := (G, I, F)) (hs' := []) rfl (vm_b2 rfl (vm_b2 (vm_b2 (vm_hG hD.d) rfl) (vm_b2 rfl rfl))) ?_
  refine vm_J.call vm_q134 (Z := vm_M93) (n := 1) (k := 0) (mi := 93) (pc := 22) (en := (22, .invokevirtual 172, 3, [93, 619, 0], .null)) rfl trivial rfl rfl vm_z93 (av := [.ref 1, .int (nI p)]) (rest := []) (m_pal_n (B := 1) (p := p) hD.w1 (by omega)) ⟨_, _, rfl, rfl, _, 9, _, hD.w1.w, rfl, rfl, rfl⟩ (Nat.le_of_ble_eq_true rfl) ⟨Nat.le_of_ble_eq_true rfl, Nat.le_of_ble_eq_true rfl⟩ ⟨Nat.le_of_ble_eq_true rfl, Nat.le_of_ble_eq_true rfl⟩ ?_
  show vm_J _ _ _ (25, (0, 0), [.ref 0, .int (nI p), .int v], [.ref (1 + 25 + 3 * p)]) (G, I, F) _ _
  refine vm_J.go vm_q134 (k := 4) (hs := []) (f' := (34, (0, 0), [.ref 0, .int (nI p), .int v], [.int 16, .int 0, .int v])) (h' := (G, I, F)) (hs' := []) rfl rfl ?_
  refine vm_J.call vm_q134 (Z := vm_M151) (n := 3) (k := 1) (mi := 151) (pc := 34) (en := (34, .invokestatic 56, 3, [151, 420, 0], .null)) rfl trivial rfl rfl vm_z151 (av := [.int v, .int 0, .int 16]) (rest := []) (m_isWithin_y (v := v) (a := 0) (b := 16) hv) rfl (Nat.le_of_ble_eq_true rfl) ⟨Nat.le_of_ble_eq_true rfl, Nat.le_of_ble_eq_true rfl⟩ ⟨Nat.le_of_ble_eq_true rfl, Nat.le_of_ble_eq_true rfl⟩ ?_
  show vm_J _ _ _ (37, (0, 0), [.ref 0, .int (nI p), .int v], [.int 1]) (G, I, F) _ _
  refine vm_J.go vm_q134 (k := 1) (hs := []) (f' := (bif vm_ic .ne 1 0 then 43 else 40, (0, 0), [.ref 0, .int (nI p), .int v], [])) (h' := (G, I, F)) (hs' := []) rfl rfl ?_
  refine vm_J.bT (by decide) ?_
  refine vm_J.go vm_q134 (k := 3) (hs := [(12, 9, [.ref 1, .ref 38, .ref 75, .ref 112, .ref 132, .ref 135, .ref 139, .int 0, .int 0]), (11, 7, [.ref (1 + 1), .ref (1 + 2), .ref (1 + 3), .ref (1 + 4), .ref (1 + 11), .ref (1 + 13), .ref (1 + 15)])]) (f' := (50, (0, 0), [.ref 0, .int (nI p), .int v], [.ref (1 + 15)])) (h' := (G, I, F)) (hs' := []) rfl (vm_b2 rfl (vm_b2 (vm_b2 (vm_hG hD.d) rfl) (vm_b2 (vm_b2 (vm_hG hD.w1.w) rfl) rfl))) ?_
  refine vm_J.call vm_q134 (Z := vm_M82) (n := 0) (k := 0) (mi := 82) (pc := 50) (en := (50, .invokevirtual 325, 3, [82, 957, 0], .null)) rfl trivial rfl rfl vm_z82 (av := [.ref (1 + 15)]) (rest := []) (m_Tab_isFull_n (o := 1 + 15) (a := 1 + 16) hD.w1.t3 (vm_nf hmo hn hn2 (by decide))) ⟨_, _, rfl, rfl, _, 7, _, hD.w1.t3, rfl, rfl, rfl⟩ (Nat.le_of_ble_eq_true rfl) ⟨Nat.le_of_ble_eq_true rfl, Nat.le_of_ble_eq_true rfl⟩ ⟨Nat.le_of_ble_eq_true rfl, Nat.le_of_ble_eq_true rfl⟩ ?_
  show vm_J _ _ _ (53, (0, 0), [.ref 0, .int (nI p), .int v], [.int 0]) (G, I, F) _ _
  refine vm_J.go vm_q134 (k := 1) (hs := []) (f' := (bif vm_ic .eq 0 0 then 61 else 56, (0, 0), [.ref 0, .int (nI p), .int v], [])) (h' := (G, I, F)) (hs' := []) rfl rfl ?_
  refine vm_J.bT (by decide) ?_
  refine vm_J.go vm_q134 (k := 6) (hs := [(12, 9, [.ref 1, .ref 38, .ref 75, .ref 112, .ref 132, .ref 135, .ref 139, .int 0, .int 0]), (11, 7, [.ref (1 + 1), .ref (1 + 2), .ref (1 + 3), .ref (1 + 4), .ref (1 + 11), .ref (1 + 13), .ref (1 + 15)])]) (f' := (71, (0, 0), [.ref 0, .int (nI p), .int v], [.int 0, .int v, .int (nI p), .ref (1 + 15)])) (h' := (G, I, F)) (hs' := []) rfl (vm_b2 rfl (vm_b2 (vm_b2 (vm_hG hD.d) rfl) (vm_b2 (vm_b2 (vm_hG hD.w1.w) rfl) (vm_b2 rfl (vm_b2 rfl (vm_b2 rfl rfl)))))) ?_
  refine vm_J.call vm_q134 (Z := vm_M84) (n := 3) (k := 0) (mi := 84) (pc := 71) (en := (71, .invokevirtual 326, 3, [84, 961, 0], .null)) rfl trivial rfl rfl vm_z84 (av := [.ref (1 + 15), .int (nI p), .int v, .int 0]) (rest := []) (m_Tab_append (o := 1 + 15) (a := 1 + 16) (n := n) (x := nI p) (y := v) (z := 0) hD.w1.t3 hD.w1.u3 hn (by omega) (by omega)) ⟨_, _, rfl, rfl, _, 7, _, hD.w1.t3, rfl, rfl, rfl⟩ (Nat.le_of_ble_eq_true rfl) ⟨Nat.le_of_ble_eq_true rfl, Nat.le_of_ble_eq_true rfl⟩ ⟨Nat.le_of_ble_eq_true rfl, Nat.le_of_ble_eq_true rfl⟩ ?_
  show vm_J _ _ _ (74, (0, 0), [.ref 0, .int (nI p), .int v], [.int (nI (n + 1))]) (G, (vm_up (vm_up (vm_up (vm_up I (1 + 16) (3 * n) (nI p)) (1 + 16) (3 * n + 1) v) (1 + 16) (3 * n + 2) 0) (1 + 15) 2 (nI (n + 1))), F) _ _
  exact vm_J.end vm_q134 (en := (74, .ireturn, 1, [], .null)) rfl rfl vm_rI (Nat.zero_le _) (Nat.zero_le _) rfl
set_option maxHeartbeats 4000000 in
set_option maxRecDepth 20000 in
/-- DitherDesk.looked -/
theorem c_looked {l : Launch} {X : vm_Cx} {G : List vm_Sh} {I : Nat → Nat → Int32} {F : Nat → Nat → UInt32} {n : Nat} {bp : Nat → Nat} (hD : vm_isD G) (hn : I (1 + 15) 2 = nI n) (hn2 : n ≤ 8) (hbp : ∀ k, k < n → I (1 + 16) (3 * k + 0) = nI (bp k) ∧ bp k < 4) : vm_K l X vm_M135 [.ref 0] (G, I, F) (some (.int (sp_fo (fun k => ¬ I (1 + 25 + 3 * bp k) 0 = I (1 + 16) (3 * k + 1)) n (-5)))) (G, I, F) := by
  refine vm_K.mk (by decide) (Nat.le_of_ble_eq_true rfl) ?_
  show vm_J _ _ _ (0, (0, 0), [.ref 0, .retAddr 0, .retAddr 0], []) _ _ _
  refine vm_J.go vm_q135 (k := 2) (hs := []) (f' := (2, (0, 0), [.ref 0, .int 0, .retAddr 0], [])) (h' := (G, I, F)) (hs' := []) rfl rfl ?_
  refine vm_J.cnt n (fun k => (2, (0, 0), [.ref 0, .int (nI k), .retAddr 0], [])) (fun k => (G, I, F)) (fun k => ∀ i, i < k → ¬ ¬ I (1 + 25 + 3 * bp i) 0 = I (1 + 16) (3 * i + 1)) rfl rfl vm_all0 (fun k hk pk ik => ?_) (fun pk => ?_)
  · have hb4 := (hbp k hk).2
    show vm_J _ _ _ (2, (0, 0), [.ref 0, .int (nI k), .retAddr 0], []) (G, I, F) _ _
    refine vm_J.go vm_q135 (k := 5) (hs := [(12, 9, [.ref 1, .ref 38, .ref 75, .ref 112, .ref 132, .ref 135, .ref 139, .int 0, .int 0]), (11, 7, [.ref (1 + 1), .ref (1 + 2), .ref (1 + 3), .ref (1 + 4), .ref (1 + 11), .ref (1 + 13), .ref (1 + 15)]), (9, 3, [.int 0, .ref (1 + 16), .int 0])]) (f' := (13, (0, 0), [.ref 0, .int (nI k), .retAddr 0], [.int (I (1 + 15) 2), .int (nI k)])) (h' := (G, I, F)) (hs' := []) rfl (vm_b2 rfl (vm_b2 rfl (vm_b2 (vm_b2 (vm_hG hD.d) rfl) (vm_b2 (vm_b2 (vm_hG hD.w1.w) rfl) (vm_b2 (vm_b2 (vm_hG hD.w1.t3) rfl) rfl))))) ?_
    rw [(hn : I (1 + 15) 2 = nI n)]
    refine vm_J.go vm_q135 (k := 1) (hs := []) (f' := (bif vm_ic .ge (nI k) (nI n) then 67 else 16, (0, 0), [.ref 0, .int (nI k), .retAddr 0], [])) (h' := (G, I, F)) (hs' := []) rfl rfl ?_
    refine vm_J.br (fun c1 => ?_) (fun c1 => ?_)
    · have c1 := vm_ge_t (a := k) (b := n) (by omega) (by omega) c1
      exact (show False by omega).elim
    · have c1 := vm_ge_f (a := k) (b := n) (by omega) (by omega) c1
      refine vm_J.go vm_q135 (k := 7) (hs := [(12, 9, [.ref 1, .ref 38, .ref 75, .ref 112, .ref 132, .ref 135, .ref 139, .int 0, .int 0]), (12, 9, [.ref 1, .ref 38, .ref 75, .ref 112, .ref 132, .ref 135, .ref 139, .int 0, .int 0]), (11, 7, [.ref (1 + 1), .ref (1 + 2), .ref (1 + 3), .ref (1 + 4), .ref (1 + 11), .ref (1 + 13), .ref (1 + 15)])]) (f' := (29, (0, 0), [.ref 0, .int (nI k), .retAddr 0], [.int 0, .int (nI k), .ref (1 + 15), .ref 1])) (h' := (G, I, F)) (hs' := []) rfl (vm_b2 rfl (vm_b2 (vm_b2 (vm_hG hD.d) rfl) (vm_b2 rfl (vm_b2 (vm_b2 (vm_hG hD.d) rfl) (vm_b2 (vm_b2 (vm_hG hD.w1.w) rfl) (vm_b2 rfl (vm_b2 rfl rfl))))))) ?_
      refine vm_J.call vm_q135 (Z := vm_M85) (n := 2) (k := 0) (mi := 85) (pc := 29) (en := (29, .invokevirtual 356, 3, [85, 1032, 0], .null)) rfl trivial rfl rfl vm_z85 (av := [.ref (1 + 15), .int (nI k), .int 0]) (rest := [.ref 1]) (m_Tab_cell (o := 1 + 15) (a := 1 + 16) (i := k) (j := 0) hD.w1.t3 hD.w1.u3 (by omega)) ⟨_, _, rfl, rfl, _, 7, _, hD.w1.t3, rfl, rfl, rfl⟩ (Nat.le_of_ble_eq_true rfl) ⟨Nat.le_of_ble_eq_true rfl, Nat.le_of_ble_eq_true rfl⟩ ⟨Nat.le_of_ble_eq_true rfl, Nat.le_of_ble_eq_true rfl⟩ ?_
      rw [(hbp k hk).1]
      show vm_J _ _ _ (32, (0, 0), [.ref 0, .int (nI k), .retAddr 0], [.int (nI (bp k)), .ref 1]) (G, I, F) _ _
      refine vm_J.call vm_q135 (Z := vm_M93) (n := 1) (k := 0) (mi := 93) (pc := 32) (en := (32, .invokevirtual 172, 3, [93, 619, 0], .null)) rfl trivial rfl rfl vm_z93 (av := [.ref 1, .int (nI (bp k))]) (rest := []) (m_pal_n (B := 1) (p := bp k) hD.w1 (hbp k hk).2) ⟨_, _, rfl, rfl, _, 9, _, hD.w1.w, rfl, rfl, rfl⟩ (Nat.le_of_ble_eq_true rfl) ⟨Nat.le_of_ble_eq_true rfl, Nat.le_of_ble_eq_true rfl⟩ ⟨Nat.le_of_ble_eq_true rfl, Nat.le_of_ble_eq_true rfl⟩ ?_
      show vm_J _ _ _ (35, (0, 0), [.ref 0, .int (nI k), .retAddr 0], [.ref (1 + 25 + 3 * (bp k))]) (G, I, F) _ _
      refine vm_J.go vm_q135 (k := 10) (hs := [(4, 3, [.int 0, .ref (1 + 26 + 3 * (bp k)), .ref (1 + 27 + 3 * (bp k))]), (12, 9, [.ref 1, .ref 38, .ref 75, .ref 112, .ref 132, .ref 135, .ref 139, .int 0, .int 0]), (11, 7, [.ref (1 + 1), .ref (1 + 2), .ref (1 + 3), .ref (1 + 4), .ref (1 + 11), .ref (1 + 13), .ref (1 + 15)])]) (f' := (53, (0, 0), [.ref 0, .int (nI k), .ref (1 + 25 + 3 * (bp k))], [.int 1, .int (nI k), .ref (1 + 15), .int (I (1 + 25 + 3 * (bp k)) 0)])) (h' := (G, I, F)) (hs' := []) rfl (vm_b2 rfl (vm_b2 rfl (vm_b2 rfl (vm_b2 rfl (vm_b2 (vm_b2 (vm_hG (hD.w1.l (bp k) (hbp k hk).2)) rfl) (vm_b2 rfl (vm_b2 (vm_b2 (vm_hG hD.d) rfl) (vm_b2 (vm_b2 (vm_hG hD.w1.w) rfl) (vm_b2 rfl (vm_b2 rfl rfl)))))))))) ?_
      refine vm_J.call vm_q135 (Z := vm_M85) (n := 2) (k := 0) (mi := 85) (pc := 53) (en := (53, .invokevirtual 356, 3, [85, 1032, 0], .null)) rfl trivial rfl rfl vm_z85 (av := [.ref (1 + 15), .int (nI k), .int 1]) (rest := [.int (I (1 + 25 + 3 * (bp k)) 0)]) (m_Tab_cell (o := 1 + 15) (a := 1 + 16) (i := k) (j := 1) hD.w1.t3 hD.w1.u3 (by omega)) ⟨_, _, rfl, rfl, _, 7, _, hD.w1.t3, rfl, rfl, rfl⟩ (Nat.le_of_ble_eq_true rfl) ⟨Nat.le_of_ble_eq_true rfl, Nat.le_of_ble_eq_true rfl⟩ ⟨Nat.le_of_ble_eq_true rfl, Nat.le_of_ble_eq_true rfl⟩ ?_
      show vm_J _ _ _ (56, (0, 0), [.ref 0, .int (nI k), .ref (1 + 25 + 3 * (bp k))], [.int (I (1 + 16) (3 * k + 1)), .int (I (1 + 25 + 3 * (bp k)) 0)]) (G, I, F) _ _
      refine vm_J.go vm_q135 (k := 1) (hs := []) (f' := (bif vm_ic .eq (I (1 + 25 + 3 * (bp k)) 0) (I (1 + 16) (3 * k + 1)) then 61 else 59, (0, 0), [.ref 0, .int (nI k), .ref (1 + 25 + 3 * (bp k))], [])) (h' := (G, I, F)) (hs' := []) rfl rfl ?_
      refine vm_J.br (fun c2 => ?_) (fun c2 => ?_)
      · have c2 : (I (1 + 25 + 3 * (bp k)) 0) = (I (1 + 16) (3 * k + 1)) := of_decide_eq_true c2
        refine vm_J.go vm_q135 (k := 2) (hs := []) (f' := (2, (0, 0), [.ref 0, .int ((nI k) + 1), .ref (1 + 25 + 3 * (bp k))], [])) (h' := (G, I, F)) (hs' := []) rfl rfl ?_
        rw [((vm_pa (rfl : nI k = nI k) (rfl : (1 : Int32) = nI 1)) : (nI k) + 1 = nI (k + 1))]
        refine vm_J.mask [true, true, false] ?_
        show vm_J _ _ _ (2, (0, 0), [.ref 0, .int (nI (k + 1)), .retAddr 0], []) (G, I, F) _ _
        exact ik (vm_alls (p := fun i => ¬ ¬ I (1 + 25 + 3 * bp i) 0 = I (1 + 16) (3 * i + 1)) pk (fun z => z c2))
      · have c2 : ¬ ((I (1 + 25 + 3 * (bp k)) 0) = (I (1 + 16) (3 * k + 1))) := of_decide_eq_false c2
        refine vm_J.go vm_q135 (k := 1) (hs := []) (f' := (60, (0, 0), [.ref 0, .int (nI k), .ref (1 + 25 + 3 * (bp k))], [.int (nI k)])) (h' := (G, I, F)) (hs' := []) rfl rfl ?_
        exact vm_J.end vm_q135 (en := (60, .ireturn, 1, [], .null)) rfl (by rw [sp_fo_hit (p := (fun k => ¬ I (1 + 25 + 3 * bp k) 0 = I (1 + 16) (3 * k + 1))) hk pk c2]; rfl) vm_rI (Nat.zero_le _) (Nat.zero_le _) rfl
  · show vm_J _ _ _ (2, (0, 0), [.ref 0, .int (nI n), .retAddr 0], []) (G, I, F) _ _
    refine vm_J.go vm_q135 (k := 5) (hs := [(12, 9, [.ref 1, .ref 38, .ref 75, .ref 112, .ref 132, .ref 135, .ref 139, .int 0, .int 0]), (11, 7, [.ref (1 + 1), .ref (1 + 2), .ref (1 + 3), .ref (1 + 4), .ref (1 + 11), .ref (1 + 13), .ref (1 + 15)]), (9, 3, [.int 0, .ref (1 + 16), .int 0])]) (f' := (13, (0, 0), [.ref 0, .int (nI n), .retAddr 0], [.int (I (1 + 15) 2), .int (nI n)])) (h' := (G, I, F)) (hs' := []) rfl (vm_b2 rfl (vm_b2 rfl (vm_b2 (vm_b2 (vm_hG hD.d) rfl) (vm_b2 (vm_b2 (vm_hG hD.w1.w) rfl) (vm_b2 (vm_b2 (vm_hG hD.w1.t3) rfl) rfl))))) ?_
    rw [(hn : I (1 + 15) 2 = nI n)]
    refine vm_J.go vm_q135 (k := 1) (hs := []) (f' := (bif vm_ic .ge (nI n) (nI n) then 67 else 16, (0, 0), [.ref 0, .int (nI n), .retAddr 0], [])) (h' := (G, I, F)) (hs' := []) rfl rfl ?_
    refine vm_J.br (fun c3 => ?_) (fun c3 => ?_)
    · have c3 := vm_ge_t (a := n) (b := n) (by omega) (by omega) c3
      refine vm_J.go vm_q135 (k := 1) (hs := []) (f' := (69, (0, 0), [.ref 0, .int (nI n), .retAddr 0], [.int (-5)])) (h' := (G, I, F)) (hs' := []) rfl rfl ?_
      exact vm_J.end vm_q135 (en := (69, .ireturn, 1, [], .null)) rfl (by rw [sp_fo_none (p := (fun k => ¬ I (1 + 25 + 3 * bp k) 0 = I (1 + 16) (3 * k + 1))) pk]; rfl) vm_rI (Nat.zero_le _) (Nat.zero_le _) rfl
    · have c3 := vm_ge_f (a := n) (b := n) (by omega) (by omega) c3
      exact (show False by omega).elim
set_option maxHeartbeats 4000000 in
set_option maxRecDepth 20000 in
/-- DitherDesk.feed -/
theorem c_feed_b {l : Launch} {X : vm_Cx} {G : List vm_Sh} {I : Nat → Nat → Int32} {F : Nat → Nat → UInt32} {c : Int32} (hD : vm_isD G) (hc : ¬ (0 ≤ c ∧ c ≤ 127)) : vm_K l X vm_M114 [.ref 0, .int c] (G, I, F) (some (.int (-2))) (G, I, F) := by
  refine vm_K.mk (by decide) (Nat.le_of_ble_eq_true rfl) ?_
  show vm_J _ _ _ (0, (0, 0), [.ref 0, .int c], []) _ _ _
  refine vm_J.go vm_q114 (k := 3) (hs := []) (f' := (4, (0, 0), [.ref 0, .int c], [.int 127, .int 0, .int c])) (h' := (G, I, F)) (hs' := []) rfl rfl ?_
  refine vm_J.call vm_q114 (Z := vm_M151) (n := 3) (k := 1) (mi := 151) (pc := 4) (en := (4, .invokestatic 56, 3, [151, 420, 0], .null)) rfl trivial rfl rfl vm_z151 (av := [.int c, .int 0, .int 127]) (rest := []) (m_isWithin_n (v := c) (a := 0) (b := 127) hc) rfl (Nat.le_of_ble_eq_true rfl) ⟨Nat.le_of_ble_eq_true rfl, Nat.le_of_ble_eq_true rfl⟩ ⟨Nat.le_of_ble_eq_true rfl, Nat.le_of_ble_eq_true rfl⟩ ?_
  show vm_J _ _ _ (7, (0, 0), [.ref 0, .int c], [.int 0]) (G, I, F) _ _
  refine vm_J.go vm_q114 (k := 1) (hs := []) (f' := (bif vm_ic .ne 0 0 then 13 else 10, (0, 0), [.ref 0, .int c], [])) (h' := (G, I, F)) (hs' := []) rfl rfl ?_
  refine vm_J.bF (by decide) ?_
  refine vm_J.go vm_q114 (k := 1) (hs := []) (f' := (12, (0, 0), [.ref 0, .int c], [.int (-2)])) (h' := (G, I, F)) (hs' := []) rfl rfl ?_
  exact vm_J.end vm_q114 (en := (12, .ireturn, 1, [], .null)) rfl rfl vm_rI (Nat.zero_le _) (Nat.zero_le _) rfl
set_option maxHeartbeats 4000000 in
set_option maxRecDepth 20000 in
/-- DitherDesk.feed -/
theorem c_feed_f {l : Launch} {X : vm_Cx} {G : List vm_Sh} {I : Nat → Nat → Int32} {F : Nat → Nat → UInt32} {n : Nat} {c : Int32} (hD : vm_isD G) (hn : I 135 1 = nI n) (hn2 : n = 100) (hc : 0 ≤ c ∧ c ≤ 127) : vm_K l X vm_M114 [.ref 0, .int c] (G, I, F) (some (.int (-4))) (G, I, F) := by
  refine vm_K.mk (by decide) (Nat.le_of_ble_eq_true rfl) ?_
  show vm_J _ _ _ (0, (0, 0), [.ref 0, .int c], []) _ _ _
  refine vm_J.go vm_q114 (k := 3) (hs := []) (f' := (4, (0, 0), [.ref 0, .int c], [.int 127, .int 0, .int c])) (h' := (G, I, F)) (hs' := []) rfl rfl ?_
  refine vm_J.call vm_q114 (Z := vm_M151) (n := 3) (k := 1) (mi := 151) (pc := 4) (en := (4, .invokestatic 56, 3, [151, 420, 0], .null)) rfl trivial rfl rfl vm_z151 (av := [.int c, .int 0, .int 127]) (rest := []) (m_isWithin_y (v := c) (a := 0) (b := 127) hc) rfl (Nat.le_of_ble_eq_true rfl) ⟨Nat.le_of_ble_eq_true rfl, Nat.le_of_ble_eq_true rfl⟩ ⟨Nat.le_of_ble_eq_true rfl, Nat.le_of_ble_eq_true rfl⟩ ?_
  show vm_J _ _ _ (7, (0, 0), [.ref 0, .int c], [.int 1]) (G, I, F) _ _
  refine vm_J.go vm_q114 (k := 1) (hs := []) (f' := (bif vm_ic .ne 1 0 then 13 else 10, (0, 0), [.ref 0, .int c], [])) (h' := (G, I, F)) (hs' := []) rfl rfl ?_
  refine vm_J.bT (by decide) ?_
  refine vm_J.go vm_q114 (k := 3) (hs := [(12, 9, [.ref 1, .ref 38, .ref 75, .ref 112, .ref 132, .ref 135, .ref 139, .int 0, .int 0]), (6, 6, [.ref 136, .int 0, .int 0, .ref 137, .ref 138, .int 0])]) (f' := (20, (0, 0), [.ref 0, .int c], [.int (I 135 1)])) (h' := (G, I, F)) (hs' := []) rfl (vm_b2 rfl (vm_b2 (vm_b2 (vm_hG hD.d) rfl) (vm_b2 (vm_b2 (vm_hG hD.rd) rfl) rfl))) ?_
  rw [(hn : I 135 1 = nI n)]
  refine vm_J.go vm_q114 (k := 2) (hs := []) (f' := (bif vm_ic .lt (nI n) 100 then 28 else 25, (0, 0), [.ref 0, .int c], [])) (h' := (G, I, F)) (hs' := []) rfl rfl ?_
  refine vm_J.br (fun c1 => ?_) (fun c1 => ?_)
  · have c1 := vm_lt_t (a := n) (b := 100) (by omega) (by omega) c1
    exact (show False by omega).elim
  · have c1 := vm_lt_f (a := n) (b := 100) (by omega) (by omega) c1
    refine vm_J.go vm_q114 (k := 1) (hs := []) (f' := (27, (0, 0), [.ref 0, .int c], [.int (-4)])) (h' := (G, I, F)) (hs' := []) rfl rfl ?_
    exact vm_J.end vm_q114 (en := (27, .ireturn, 1, [], .null)) rfl rfl vm_rI (Nat.zero_le _) (Nat.zero_le _) rfl
set_option maxHeartbeats 4000000 in
set_option maxRecDepth 20000 in
/-- DitherDesk.feed -/
theorem c_feed_y {l : Launch} {X : vm_Cx} {G : List vm_Sh} {I : Nat → Nat → Int32} {F : Nat → Nat → UInt32} {n : Nat} {c : Int32} (hD : vm_isD G) (hn : I 135 1 = nI n) (hn2 : n < 100) (hc : 0 ≤ c ∧ c ≤ 127) : vm_K l X vm_M114 [.ref 0, .int c] (G, I, F) (some (.int (nI (n + 1)))) (G, (vm_up (vm_up I 136 n c) 135 1 (nI (n + 1))), F) := by
  refine vm_K.mk (by decide) (Nat.le_of_ble_eq_true rfl) ?_
  show vm_J _ _ _ (0, (0, 0), [.ref 0, .int c], []) _ _ _
  refine vm_J.go vm_q114 (k := 3) (hs := []) (f' := (4, (0, 0), [.ref 0, .int c], [.int 127, .int 0, .int c])) (h' := (G, I, F)) (hs' := []) rfl rfl ?_
  refine vm_J.call vm_q114 (Z := vm_M151) (n := 3) (k := 1) (mi := 151) (pc := 4) (en := (4, .invokestatic 56, 3, [151, 420, 0], .null)) rfl trivial rfl rfl vm_z151 (av := [.int c, .int 0, .int 127]) (rest := []) (m_isWithin_y (v := c) (a := 0) (b := 127) hc) rfl (Nat.le_of_ble_eq_true rfl) ⟨Nat.le_of_ble_eq_true rfl, Nat.le_of_ble_eq_true rfl⟩ ⟨Nat.le_of_ble_eq_true rfl, Nat.le_of_ble_eq_true rfl⟩ ?_
  show vm_J _ _ _ (7, (0, 0), [.ref 0, .int c], [.int 1]) (G, I, F) _ _
  refine vm_J.go vm_q114 (k := 1) (hs := []) (f' := (bif vm_ic .ne 1 0 then 13 else 10, (0, 0), [.ref 0, .int c], [])) (h' := (G, I, F)) (hs' := []) rfl rfl ?_
  refine vm_J.bT (by decide) ?_
  refine vm_J.go vm_q114 (k := 3) (hs := [(12, 9, [.ref 1, .ref 38, .ref 75, .ref 112, .ref 132, .ref 135, .ref 139, .int 0, .int 0]), (6, 6, [.ref 136, .int 0, .int 0, .ref 137, .ref 138, .int 0])]) (f' := (20, (0, 0), [.ref 0, .int c], [.int (I 135 1)])) (h' := (G, I, F)) (hs' := []) rfl (vm_b2 rfl (vm_b2 (vm_b2 (vm_hG hD.d) rfl) (vm_b2 (vm_b2 (vm_hG hD.rd) rfl) rfl))) ?_
  rw [(hn : I 135 1 = nI n)]
  refine vm_J.go vm_q114 (k := 2) (hs := []) (f' := (bif vm_ic .lt (nI n) 100 then 28 else 25, (0, 0), [.ref 0, .int c], [])) (h' := (G, I, F)) (hs' := []) rfl rfl ?_
  refine vm_J.br (fun c1 => ?_) (fun c1 => ?_)
  · have c1 := vm_lt_t (a := n) (b := 100) (by omega) (by omega) c1
    refine vm_J.go vm_q114 (k := 3) (hs := [(12, 9, [.ref 1, .ref 38, .ref 75, .ref 112, .ref 132, .ref 135, .ref 139, .int 0, .int 0])]) (f' := (33, (0, 0), [.ref 0, .int c], [.int c, .ref 135])) (h' := (G, I, F)) (hs' := []) rfl (vm_b2 rfl (vm_b2 (vm_b2 (vm_hG hD.d) rfl) (vm_b2 rfl rfl))) ?_
    refine vm_J.call vm_q114 (Z := vm_M47) (n := 1) (k := 0) (mi := 47) (pc := 33) (en := (33, .invokevirtual 214, 3, [47, 675, 0], .null)) rfl trivial rfl rfl vm_z47 (av := [.ref 135, .int c]) (rest := []) (m_Rd_append (o := 135) (a := 136) (b := 137) (c := 138) (n := n) (s := c) hD.rd hD.ra (by decide) hn (by omega)) ⟨_, _, rfl, rfl, _, 4, _, hD.rd, rfl, rfl, rfl⟩ (Nat.le_of_ble_eq_true rfl) ⟨Nat.le_of_ble_eq_true rfl, Nat.le_of_ble_eq_true rfl⟩ ⟨Nat.le_of_ble_eq_true rfl, Nat.le_of_ble_eq_true rfl⟩ ?_
    show vm_J _ _ _ (36, (0, 0), [.ref 0, .int c], []) (G, (vm_up (vm_up I 136 n c) 135 1 (nI (n + 1))), F) _ _
    refine vm_J.go vm_q114 (k := 3) (hs := [(12, 9, [.ref 1, .ref 38, .ref 75, .ref 112, .ref 132, .ref 135, .ref 139, .int 0, .int 0]), (6, 6, [.ref 136, .int 0, .int 0, .ref 137, .ref 138, .int 0])]) (f' := (43, (0, 0), [.ref 0, .int c], [.int ((vm_up (vm_up I 136 n c) 135 1 (nI (n + 1))) 135 1)])) (h' := (G, (vm_up (vm_up I 136 n c) 135 1 (nI (n + 1))), F)) (hs' := []) rfl (vm_b2 rfl (vm_b2 (vm_b2 (vm_hG hD.d) rfl) (vm_b2 (vm_b2 (vm_hG hD.rd) rfl) rfl))) ?_
    rw [((vm_up_h _ 135 1 _) : (vm_up (vm_up I 136 n c) 135 1 (nI (n + 1))) 135 1 = nI (n + 1))]
    exact vm_J.end vm_q114 (en := (43, .ireturn, 1, [], .null)) rfl rfl vm_rI (Nat.zero_le _) (Nat.zero_le _) rfl
  · have c1 := vm_lt_f (a := n) (b := 100) (by omega) (by omega) c1
    exact (show False by omega).elim
set_option maxHeartbeats 4000000 in
set_option maxRecDepth 20000 in
/-- DitherDesk.count -/
theorem c_count_0 {l : Launch} {X : vm_Cx} {G : List vm_Sh} {I : Nat → Nat → Int32} {F : Nat → Nat → UInt32}  (hD : vm_isD G) : vm_K l X vm_M139 [.ref 0, .int 0] (G, I, F) (some (.int (sp_sum (fun p => if 0 < I (1 + 17 + 2 * p) 0 then 1 else 0) 4))) (G, I, F) := by
  refine vm_K.mk (by decide) (Nat.le_of_ble_eq_true rfl) ?_
  show vm_J _ _ _ (0, (0, 0), [.ref 0, .int 0], []) _ _ _
  refine vm_J.go vm_q139 (k := 4) (hs := [(12, 9, [.ref 1, .ref 38, .ref 75, .ref 112, .ref 132, .ref 135, .ref 139, .int 0, .int 0])]) (f' := (48, (0, 0), [.ref 0, .int 0], [.ref 1])) (h' := (G, I, F)) (hs' := []) rfl (vm_b2 rfl (vm_b2 rfl (vm_b2 rfl (vm_b2 (vm_b2 (vm_hG hD.d) rfl) rfl)))) ?_
  refine vm_J.call vm_q139 (Z := vm_M95) (n := 0) (k := 0) (mi := 95) (pc := 48) (en := (48, .invokevirtual 381, 3, [95, 1058, 0], .null)) rfl trivial rfl rfl vm_z95 (av := [.ref 1]) (rest := []) (m_standing (B := 1) hD.w1) ⟨_, _, rfl, rfl, _, 9, _, hD.w1.w, rfl, rfl, rfl⟩ (Nat.le_of_ble_eq_true rfl) ⟨Nat.le_of_ble_eq_true rfl, Nat.le_of_ble_eq_true rfl⟩ ⟨Nat.le_of_ble_eq_true rfl, Nat.le_of_ble_eq_true rfl⟩ ?_
  show vm_J _ _ _ (51, (0, 0), [.ref 0, .int 0], [.int (sp_sum (fun p => if 0 < I (1 + 17 + 2 * p) 0 then 1 else 0) 4)]) (G, I, F) _ _
  exact vm_J.end vm_q139 (en := (51, .ireturn, 1, [], .null)) rfl rfl vm_rI (Nat.zero_le _) (Nat.zero_le _) rfl
set_option maxHeartbeats 4000000 in
set_option maxRecDepth 20000 in
/-- DitherDesk.count -/
theorem c_count_1 {l : Launch} {X : vm_Cx} {G : List vm_Sh} {I : Nat → Nat → Int32} {F : Nat → Nat → UInt32}  (hD : vm_isD G) : vm_K l X vm_M139 [.ref 0, .int 1] (G, I, F) (some (.int (sp_sum (fun p => I (1 + 25 + 3 * p) 0) 4))) (G, I, F) := by
  refine vm_K.mk (by decide) (Nat.le_of_ble_eq_true rfl) ?_
  show vm_J _ _ _ (0, (0, 0), [.ref 0, .int 1], []) _ _ _
  refine vm_J.go vm_q139 (k := 4) (hs := [(12, 9, [.ref 1, .ref 38, .ref 75, .ref 112, .ref 132, .ref 135, .ref 139, .int 0, .int 0])]) (f' := (56, (0, 0), [.ref 0, .int 1], [.ref 1])) (h' := (G, I, F)) (hs' := []) rfl (vm_b2 rfl (vm_b2 rfl (vm_b2 rfl (vm_b2 (vm_b2 (vm_hG hD.d) rfl) rfl)))) ?_
  refine vm_J.call vm_q139 (Z := vm_M96) (n := 0) (k := 0) (mi := 96) (pc := 56) (en := (56, .invokevirtual 384, 3, [96, 1071, 0], .null)) rfl trivial rfl rfl vm_z96 (av := [.ref 1]) (rest := []) (m_allEntries (B := 1) hD.w1) ⟨_, _, rfl, rfl, _, 9, _, hD.w1.w, rfl, rfl, rfl⟩ (Nat.le_of_ble_eq_true rfl) ⟨Nat.le_of_ble_eq_true rfl, Nat.le_of_ble_eq_true rfl⟩ ⟨Nat.le_of_ble_eq_true rfl, Nat.le_of_ble_eq_true rfl⟩ ?_
  show vm_J _ _ _ (59, (0, 0), [.ref 0, .int 1], [.int (sp_sum (fun p => I (1 + 25 + 3 * p) 0) 4)]) (G, I, F) _ _
  exact vm_J.end vm_q139 (en := (59, .ireturn, 1, [], .null)) rfl rfl vm_rI (Nat.zero_le _) (Nat.zero_le _) rfl
set_option maxHeartbeats 4000000 in
set_option maxRecDepth 20000 in
/-- DitherDesk.count -/
theorem c_count_2 {l : Launch} {X : vm_Cx} {G : List vm_Sh} {I : Nat → Nat → Int32} {F : Nat → Nat → UInt32}  (hD : vm_isD G) : vm_K l X vm_M139 [.ref 0, .int 2] (G, I, F) (some (.int (I (1 + 11) 2))) (G, I, F) := by
  refine vm_K.mk (by decide) (Nat.le_of_ble_eq_true rfl) ?_
  show vm_J _ _ _ (0, (0, 0), [.ref 0, .int 2], []) _ _ _
  refine vm_J.go vm_q139 (k := 6) (hs := [(12, 9, [.ref 1, .ref 38, .ref 75, .ref 112, .ref 132, .ref 135, .ref 139, .int 0, .int 0]), (11, 7, [.ref (1 + 1), .ref (1 + 2), .ref (1 + 3), .ref (1 + 4), .ref (1 + 11), .ref (1 + 13), .ref (1 + 15)]), (9, 3, [.int 0, .ref (1 + 12), .int 0])]) (f' := (70, (0, 0), [.ref 0, .int 2], [.int (I (1 + 11) 2)])) (h' := (G, I, F)) (hs' := []) rfl (vm_b2 rfl (vm_b2 rfl (vm_b2 rfl (vm_b2 (vm_b2 (vm_hG hD.d) rfl) (vm_b2 (vm_b2 (vm_hG hD.w1.w) rfl) (vm_b2 (vm_b2 (vm_hG hD.w1.t1) rfl) rfl)))))) ?_
  exact vm_J.end vm_q139 (en := (70, .ireturn, 1, [], .null)) rfl rfl vm_rI (Nat.zero_le _) (Nat.zero_le _) rfl
set_option maxHeartbeats 4000000 in
set_option maxRecDepth 20000 in
/-- DitherDesk.count -/
theorem c_count_3 {l : Launch} {X : vm_Cx} {G : List vm_Sh} {I : Nat → Nat → Int32} {F : Nat → Nat → UInt32}  (hD : vm_isD G) : vm_K l X vm_M139 [.ref 0, .int 3] (G, I, F) (some (.int (I (1 + 13) 2))) (G, I, F) := by
  refine vm_K.mk (by decide) (Nat.le_of_ble_eq_true rfl) ?_
  show vm_J _ _ _ (0, (0, 0), [.ref 0, .int 3], []) _ _ _
  refine vm_J.go vm_q139 (k := 6) (hs := [(12, 9, [.ref 1, .ref 38, .ref 75, .ref 112, .ref 132, .ref 135, .ref 139, .int 0, .int 0]), (11, 7, [.ref (1 + 1), .ref (1 + 2), .ref (1 + 3), .ref (1 + 4), .ref (1 + 11), .ref (1 + 13), .ref (1 + 15)]), (9, 3, [.int 0, .ref (1 + 14), .int 0])]) (f' := (81, (0, 0), [.ref 0, .int 3], [.int (I (1 + 13) 2)])) (h' := (G, I, F)) (hs' := []) rfl (vm_b2 rfl (vm_b2 rfl (vm_b2 rfl (vm_b2 (vm_b2 (vm_hG hD.d) rfl) (vm_b2 (vm_b2 (vm_hG hD.w1.w) rfl) (vm_b2 (vm_b2 (vm_hG hD.w1.t2) rfl) rfl)))))) ?_
  exact vm_J.end vm_q139 (en := (81, .ireturn, 1, [], .null)) rfl rfl vm_rI (Nat.zero_le _) (Nat.zero_le _) rfl
set_option maxHeartbeats 4000000 in
set_option maxRecDepth 20000 in
/-- DitherDesk.count -/
theorem c_count_4 {l : Launch} {X : vm_Cx} {G : List vm_Sh} {I : Nat → Nat → Int32} {F : Nat → Nat → UInt32}  (hD : vm_isD G) : vm_K l X vm_M139 [.ref 0, .int 4] (G, I, F) (some (.int (I (1 + 15) 2))) (G, I, F) := by
  refine vm_K.mk (by decide) (Nat.le_of_ble_eq_true rfl) ?_
  show vm_J _ _ _ (0, (0, 0), [.ref 0, .int 4], []) _ _ _
  refine vm_J.go vm_q139 (k := 6) (hs := [(12, 9, [.ref 1, .ref 38, .ref 75, .ref 112, .ref 132, .ref 135, .ref 139, .int 0, .int 0]), (11, 7, [.ref (1 + 1), .ref (1 + 2), .ref (1 + 3), .ref (1 + 4), .ref (1 + 11), .ref (1 + 13), .ref (1 + 15)]), (9, 3, [.int 0, .ref (1 + 16), .int 0])]) (f' := (92, (0, 0), [.ref 0, .int 4], [.int (I (1 + 15) 2)])) (h' := (G, I, F)) (hs' := []) rfl (vm_b2 rfl (vm_b2 rfl (vm_b2 rfl (vm_b2 (vm_b2 (vm_hG hD.d) rfl) (vm_b2 (vm_b2 (vm_hG hD.w1.w) rfl) (vm_b2 (vm_b2 (vm_hG hD.w1.t3) rfl) rfl)))))) ?_
  exact vm_J.end vm_q139 (en := (92, .ireturn, 1, [], .null)) rfl rfl vm_rI (Nat.zero_le _) (Nat.zero_le _) rfl
set_option maxHeartbeats 4000000 in
set_option maxRecDepth 20000 in
/-- DitherDesk.count -/
theorem c_count_5 {l : Launch} {X : vm_Cx} {G : List vm_Sh} {I : Nat → Nat → Int32} {F : Nat → Nat → UInt32}  (hD : vm_isD G) : vm_K l X vm_M139 [.ref 0, .int 5] (G, I, F) (some (.int (I 135 1))) (G, I, F) := by
  refine vm_K.mk (by decide) (Nat.le_of_ble_eq_true rfl) ?_
  show vm_J _ _ _ (0, (0, 0), [.ref 0, .int 5], []) _ _ _
  refine vm_J.go vm_q139 (k := 5) (hs := [(12, 9, [.ref 1, .ref 38, .ref 75, .ref 112, .ref 132, .ref 135, .ref 139, .int 0, .int 0]), (6, 6, [.ref 136, .int 0, .int 0, .ref 137, .ref 138, .int 0])]) (f' := (100, (0, 0), [.ref 0, .int 5], [.int (I 135 1)])) (h' := (G, I, F)) (hs' := []) rfl (vm_b2 rfl (vm_b2 rfl (vm_b2 rfl (vm_b2 (vm_b2 (vm_hG hD.d) rfl) (vm_b2 (vm_b2 (vm_hG hD.rd) rfl) rfl))))) ?_
  exact vm_J.end vm_q139 (en := (100, .ireturn, 1, [], .null)) rfl rfl vm_rI (Nat.zero_le _) (Nat.zero_le _) rfl
set_option maxHeartbeats 4000000 in
set_option maxRecDepth 20000 in
/-- DitherDesk.count -/
theorem c_count_6 {l : Launch} {X : vm_Cx} {G : List vm_Sh} {I : Nat → Nat → Int32} {F : Nat → Nat → UInt32}  (hD : vm_isD G) : vm_K l X vm_M139 [.ref 0, .int 6] (G, I, F) (some (.int (I 0 8))) (G, I, F) := by
  refine vm_K.mk (by decide) (Nat.le_of_ble_eq_true rfl) ?_
  show vm_J _ _ _ (0, (0, 0), [.ref 0, .int 6], []) _ _ _
  refine vm_J.go vm_q139 (k := 4) (hs := [(12, 9, [.ref 1, .ref 38, .ref 75, .ref 112, .ref 132, .ref 135, .ref 139, .int 0, .int 0])]) (f' := (105, (0, 0), [.ref 0, .int 6], [.int (I 0 8)])) (h' := (G, I, F)) (hs' := []) rfl (vm_b2 rfl (vm_b2 rfl (vm_b2 rfl (vm_b2 (vm_b2 (vm_hG hD.d) rfl) rfl)))) ?_
  exact vm_J.end vm_q139 (en := (105, .ireturn, 1, [], .null)) rfl rfl vm_rI (Nat.zero_le _) (Nat.zero_le _) rfl
set_option maxHeartbeats 4000000 in
set_option maxRecDepth 20000 in
/-- DitherDesk.count -/
theorem c_count_b {l : Launch} {X : vm_Cx} {G : List vm_Sh} {I : Nat → Nat → Int32} {F : Nat → Nat → UInt32} {x : Int32} (hD : vm_isD G) (hx : ¬ (0 ≤ x ∧ x ≤ 6)) : vm_K l X vm_M139 [.ref 0, .int x] (G, I, F) (some (.int (-2))) (G, I, F) := by
  refine vm_K.mk (by decide) (Nat.le_of_ble_eq_true rfl) ?_
  show vm_J _ _ _ (0, (0, 0), [.ref 0, .int x], []) _ _ _
  refine vm_J.go vm_q139 (k := 2) (hs := []) (f' := (vm_tw 0 [44, 52, 60, 71, 82, 93, 101] 106 x, (0, 0), [.ref 0, .int x], [])) (h' := (G, I, F)) (hs' := []) rfl rfl ?_
  rw [show vm_tw 0 [44, 52, 60, 71, 82, 93, 101] 106 x = 106 from vm_tw_g hx (by decide) (by decide)]
  refine vm_J.go vm_q139 (k := 1) (hs := []) (f' := (108, (0, 0), [.ref 0, .int x], [.int (-2)])) (h' := (G, I, F)) (hs' := []) rfl rfl ?_
  exact vm_J.end vm_q139 (en := (108, .ireturn, 1, [], .null)) rfl rfl vm_rI (Nat.zero_le _) (Nat.zero_le _) rfl
set_option maxHeartbeats 4000000 in
set_option maxRecDepth 20000 in
/-- DitherDesk.image -/
theorem c_image {l : Launch} {X : vm_Cx} {G : List vm_Sh} {I : Nat → Nat → Int32} {F : Nat → Nat → UInt32}  (hD : vm_isD G) : vm_K l X vm_M137 [.ref 0] (G, I, F) (some (.int (sp_sum (fun p => if 0 < (vm_up (vm_bW I 38 1) 0 7 1) (1 + 17 + 2 * p) 0 then 1 else 0) 4))) (G, (vm_up (vm_bW I 38 1) 0 7 1), (vm_cp F (1 + 8) (38 + 8) 3)) := by
  refine vm_K.mk (by decide) (Nat.le_of_ble_eq_true rfl) ?_
  show vm_J _ _ _ (0, (0, 0), [.ref 0], []) _ _ _
  refine vm_J.go vm_q137 (k := 4) (hs := [(12, 9, [.ref 1, .ref 38, .ref 75, .ref 112, .ref 132, .ref 135, .ref 139, .int 0, .int 0]), (12, 9, [.ref 1, .ref 38, .ref 75, .ref 112, .ref 132, .ref 135, .ref 139, .int 0, .int 0])]) (f' := (8, (0, 0), [.ref 0], [.ref 1, .ref 38])) (h' := (G, I, F)) (hs' := []) rfl (vm_b2 rfl (vm_b2 (vm_b2 (vm_hG hD.d) rfl) (vm_b2 rfl (vm_b2 (vm_b2 (vm_hG hD.d) rfl) rfl)))) ?_
  refine vm_J.call vm_q137 (Z := vm_M97) (n := 1) (k := 0) (mi := 97) (pc := 8) (en := (8, .invokevirtual 349, 3, [97, 1005, 0], .null)) rfl trivial rfl rfl vm_z97 (av := [.ref 38, .ref 1]) (rest := []) (m_W_become (B := 38) (E := 1) hD.w2 hD.w1 (by omega)) ⟨_, _, rfl, rfl, _, 9, _, hD.w2.w, rfl, rfl, rfl⟩ (Nat.le_of_ble_eq_true rfl) ⟨Nat.le_of_ble_eq_true rfl, Nat.le_of_ble_eq_true rfl⟩ ⟨Nat.le_of_ble_eq_true rfl, Nat.le_of_ble_eq_true rfl⟩ ?_
  show vm_J _ _ _ (11, (0, 0), [.ref 0], []) (G, (vm_bW I 38 1), (vm_cp F (1 + 8) (38 + 8) 3)) _ _
  refine vm_J.go vm_q137 (k := 5) (hs := [(12, 9, [.ref 1, .ref 38, .ref 75, .ref 112, .ref 132, .ref 135, .ref 139, .int 0, .int 0]), (12, 9, [.ref 1, .ref 38, .ref 75, .ref 112, .ref 132, .ref 135, .ref 139, .int 0, .int 0])]) (f' := (20, (0, 0), [.ref 0], [.ref 1])) (h' := (G, (vm_up (vm_bW I 38 1) 0 7 1), (vm_cp F (1 + 8) (38 + 8) 3))) (hs' := []) rfl (vm_b2 rfl (vm_b2 rfl (vm_b2 (vm_b2 (vm_b2 (vm_hG hD.d) rfl) rfl) (vm_b2 rfl (vm_b2 (vm_b2 (vm_hG hD.d) rfl) rfl))))) ?_
  refine vm_J.call vm_q137 (Z := vm_M95) (n := 0) (k := 0) (mi := 95) (pc := 20) (en := (20, .invokevirtual 381, 3, [95, 1058, 0], .null)) rfl trivial rfl rfl vm_z95 (av := [.ref 1]) (rest := []) (m_standing (B := 1) hD.w1) ⟨_, _, rfl, rfl, _, 9, _, hD.w1.w, rfl, rfl, rfl⟩ (Nat.le_of_ble_eq_true rfl) ⟨Nat.le_of_ble_eq_true rfl, Nat.le_of_ble_eq_true rfl⟩ ⟨Nat.le_of_ble_eq_true rfl, Nat.le_of_ble_eq_true rfl⟩ ?_
  show vm_J _ _ _ (23, (0, 0), [.ref 0], [.int (sp_sum (fun p => if 0 < (vm_up (vm_bW I 38 1) 0 7 1) (1 + 17 + 2 * p) 0 then 1 else 0) 4)]) (G, (vm_up (vm_bW I 38 1) 0 7 1), (vm_cp F (1 + 8) (38 + 8) 3)) _ _
  exact vm_J.end vm_q137 (en := (23, .ireturn, 1, [], .null)) rfl rfl vm_rI (Nat.zero_le _) (Nat.zero_le _) rfl
set_option maxHeartbeats 4000000 in
set_option maxRecDepth 20000 in
/-- DitherDesk.undo -/
theorem c_undo_n {l : Launch} {X : vm_Cx} {G : List vm_Sh} {I : Nat → Nat → Int32} {F : Nat → Nat → UInt32}  (hD : vm_isD G) (hi : I 0 7 = 0) : vm_K l X vm_M138 [.ref 0] (G, I, F) (some (.int (-3))) (G, I, F) := by
  refine vm_K.mk (by decide) (Nat.le_of_ble_eq_true rfl) ?_
  show vm_J _ _ _ (0, (0, 0), [.ref 0], []) _ _ _
  refine vm_J.go vm_q138 (k := 2) (hs := [(12, 9, [.ref 1, .ref 38, .ref 75, .ref 112, .ref 132, .ref 135, .ref 139, .int 0, .int 0])]) (f' := (4, (0, 0), [.ref 0], [.int (I 0 7)])) (h' := (G, I, F)) (hs' := []) rfl (vm_b2 rfl (vm_b2 (vm_b2 (vm_hG hD.d) rfl) rfl)) ?_
  rw [(hi : I 0 7 = 0)]
  refine vm_J.go vm_q138 (k := 1) (hs := []) (f' := (bif vm_ic .ne 0 0 then 10 else 7, (0, 0), [.ref 0], [])) (h' := (G, I, F)) (hs' := []) rfl rfl ?_
  refine vm_J.bF (by decide) ?_
  refine vm_J.go vm_q138 (k := 1) (hs := []) (f' := (9, (0, 0), [.ref 0], [.int (-3)])) (h' := (G, I, F)) (hs' := []) rfl rfl ?_
  exact vm_J.end vm_q138 (en := (9, .ireturn, 1, [], .null)) rfl rfl vm_rI (Nat.zero_le _) (Nat.zero_le _) rfl
set_option maxHeartbeats 4000000 in
set_option maxRecDepth 20000 in
/-- DitherDesk.undo -/
theorem c_undo_y {l : Launch} {X : vm_Cx} {G : List vm_Sh} {I : Nat → Nat → Int32} {F : Nat → Nat → UInt32}  (hD : vm_isD G) (hi : I 0 7 = 1) : vm_K l X vm_M138 [.ref 0] (G, I, F) (some (.int (sp_sum (fun p => if 0 < (vm_bW I 1 38) (1 + 17 + 2 * p) 0 then 1 else 0) 4))) (G, (vm_bW I 1 38), (vm_cp F (38 + 8) (1 + 8) 3)) := by
  refine vm_K.mk (by decide) (Nat.le_of_ble_eq_true rfl) ?_
  show vm_J _ _ _ (0, (0, 0), [.ref 0], []) _ _ _
  refine vm_J.go vm_q138 (k := 2) (hs := [(12, 9, [.ref 1, .ref 38, .ref 75, .ref 112, .ref 132, .ref 135, .ref 139, .int 0, .int 0])]) (f' := (4, (0, 0), [.ref 0], [.int (I 0 7)])) (h' := (G, I, F)) (hs' := []) rfl (vm_b2 rfl (vm_b2 (vm_b2 (vm_hG hD.d) rfl) rfl)) ?_
  rw [(hi : I 0 7 = 1)]
  refine vm_J.go vm_q138 (k := 1) (hs := []) (f' := (bif vm_ic .ne 1 0 then 10 else 7, (0, 0), [.ref 0], [])) (h' := (G, I, F)) (hs' := []) rfl rfl ?_
  refine vm_J.bT (by decide) ?_
  refine vm_J.go vm_q138 (k := 4) (hs := [(12, 9, [.ref 1, .ref 38, .ref 75, .ref 112, .ref 132, .ref 135, .ref 139, .int 0, .int 0]), (12, 9, [.ref 1, .ref 38, .ref 75, .ref 112, .ref 132, .ref 135, .ref 139, .int 0, .int 0])]) (f' := (18, (0, 0), [.ref 0], [.ref 38, .ref 1])) (h' := (G, I, F)) (hs' := []) rfl (vm_b2 rfl (vm_b2 (vm_b2 (vm_hG hD.d) rfl) (vm_b2 rfl (vm_b2 (vm_b2 (vm_hG hD.d) rfl) rfl)))) ?_
  refine vm_J.call vm_q138 (Z := vm_M97) (n := 1) (k := 0) (mi := 97) (pc := 18) (en := (18, .invokevirtual 349, 3, [97, 1005, 0], .null)) rfl trivial rfl rfl vm_z97 (av := [.ref 1, .ref 38]) (rest := []) (m_W_become (B := 1) (E := 38) hD.w1 hD.w2 (by omega)) ⟨_, _, rfl, rfl, _, 9, _, hD.w1.w, rfl, rfl, rfl⟩ (Nat.le_of_ble_eq_true rfl) ⟨Nat.le_of_ble_eq_true rfl, Nat.le_of_ble_eq_true rfl⟩ ⟨Nat.le_of_ble_eq_true rfl, Nat.le_of_ble_eq_true rfl⟩ ?_
  show vm_J _ _ _ (21, (0, 0), [.ref 0], []) (G, (vm_bW I 1 38), (vm_cp F (38 + 8) (1 + 8) 3)) _ _
  refine vm_J.go vm_q138 (k := 2) (hs := [(12, 9, [.ref 1, .ref 38, .ref 75, .ref 112, .ref 132, .ref 135, .ref 139, .int 0, .int 0])]) (f' := (25, (0, 0), [.ref 0], [.ref 1])) (h' := (G, (vm_bW I 1 38), (vm_cp F (38 + 8) (1 + 8) 3))) (hs' := []) rfl (vm_b2 rfl (vm_b2 (vm_b2 (vm_hG hD.d) rfl) rfl)) ?_
  refine vm_J.call vm_q138 (Z := vm_M95) (n := 0) (k := 0) (mi := 95) (pc := 25) (en := (25, .invokevirtual 381, 3, [95, 1058, 0], .null)) rfl trivial rfl rfl vm_z95 (av := [.ref 1]) (rest := []) (m_standing (B := 1) hD.w1) ⟨_, _, rfl, rfl, _, 9, _, hD.w1.w, rfl, rfl, rfl⟩ (Nat.le_of_ble_eq_true rfl) ⟨Nat.le_of_ble_eq_true rfl, Nat.le_of_ble_eq_true rfl⟩ ⟨Nat.le_of_ble_eq_true rfl, Nat.le_of_ble_eq_true rfl⟩ ?_
  show vm_J _ _ _ (28, (0, 0), [.ref 0], [.int (sp_sum (fun p => if 0 < (vm_bW I 1 38) (1 + 17 + 2 * p) 0 then 1 else 0) 4)]) (G, (vm_bW I 1 38), (vm_cp F (38 + 8) (1 + 8) 3)) _ _
  exact vm_J.end vm_q138 (en := (28, .ireturn, 1, [], .null)) rfl rfl vm_rI (Nat.zero_le _) (Nat.zero_le _) rfl
