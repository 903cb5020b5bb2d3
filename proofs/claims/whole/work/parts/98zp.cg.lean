set_option maxHeartbeats 4000000 in
set_option maxRecDepth 20000 in
/-- DitherDesk.followRow -/
theorem c_gr0_y {l : Launch} {X : vm_Cx} {G : List vm_Sh} {I : Nat → Nat → Int32} {F : Nat → Nat → UInt32} {c : Nat} {n : Nat} {w : Nat} {h : Nat} {m : Int32} (hD : vm_isD G) (hc : c < 4) (hn : I (75 + 25 + 3 * c) 0 = nI n) (hn0 : 0 < n) (hn2 : n ≤ 16) (hw : I (75 + 17 + 2 * 0) 0 = nI w) (hh : I (75 + 17 + 2 * 0) 1 = nI h) (hw2 : w ≤ 12) (hh2 : h ≤ 12) (hw0 : 0 < w) (hz : I (75 + 3) 0 = m) : vm_K l X vm_M147 [.ref 0, .int 0, .int (nI c)] (G, I, F) (none) (G, (vc_R I (75 + 26 + 3 * c) (75 + 27 + 3 * c) (75 + 18 + 2 * 0) n (w * h) m), F) := by
  refine vm_K.mk (by decide) (Nat.le_of_ble_eq_true rfl) ?_
  show vm_J _ _ _ (0, (0, 0), [.ref 0, .int 0, .int (nI c), .retAddr 0, .retAddr 0], []) _ _ _
  refine vm_J.go vm_q147 (k := 3) (hs := []) (f' := (bif vm_ic .eq 0 1 then 10 else 5, (0, 0), [.ref 0, .int 0, .int (nI c), .retAddr 0, .retAddr 0], [])) (h' := (G, I, F)) (hs' := []) rfl rfl ?_
  refine vm_J.bF (by decide) ?_
  refine vm_J.go vm_q147 (k := 3) (hs := []) (f' := (bif vm_ic .ne 0 2 then 32 else 10, (0, 0), [.ref 0, .int 0, .int (nI c), .retAddr 0, .retAddr 0], [])) (h' := (G, I, F)) (hs' := []) rfl rfl ?_
  refine vm_J.bT (by decide) ?_
  refine vm_J.go vm_q147 (k := 4) (hs := [(12, 9, [.ref 1, .ref 38, .ref 75, .ref 112, .ref 132, .ref 135, .ref 139, .int 0, .int 0])]) (f' := (bif vm_ic .ne 0 0 then 44 else 40, (0, 0), [.ref 0, .int 0, .int (nI c), .retAddr 0, .retAddr 0], [.ref 75])) (h' := (G, I, F)) (hs' := []) rfl (vm_b2 rfl (vm_b2 (vm_b2 (vm_hG hD.d) rfl) (vm_b2 rfl (vm_b2 rfl rfl)))) ?_
  refine vm_J.bF (by decide) ?_
  refine vm_J.go vm_q147 (k := 2) (hs := []) (f' := (45, (0, 0), [.ref 0, .int 0, .int (nI c), .retAddr 0, .retAddr 0], [.int (nI c), .ref 75])) (h' := (G, I, F)) (hs' := []) rfl rfl ?_
  refine vm_J.call vm_q147 (Z := vm_M93) (n := 1) (k := 0) (mi := 93) (pc := 45) (en := (45, .invokevirtual 172, 3, [93, 619, 0], .null)) rfl trivial rfl rfl vm_z93 (av := [.ref 75, .int (nI c)]) (rest := []) (m_pal_n (B := 75) (p := c) hD.w3 (by omega)) ⟨_, _, rfl, rfl, _, 9, _, hD.w3.w, rfl, rfl, rfl⟩ (Nat.le_of_ble_eq_true rfl) ⟨Nat.le_of_ble_eq_true rfl, Nat.le_of_ble_eq_true rfl⟩ ⟨Nat.le_of_ble_eq_true rfl, Nat.le_of_ble_eq_true rfl⟩ ?_
  show vm_J _ _ _ (48, (0, 0), [.ref 0, .int 0, .int (nI c), .retAddr 0, .retAddr 0], [.ref (75 + 25 + 3 * c)]) (G, I, F) _ _
  refine vm_J.go vm_q147 (k := 4) (hs := [(12, 9, [.ref 1, .ref 38, .ref 75, .ref 112, .ref 132, .ref 135, .ref 139, .int 0, .int 0])]) (f' := (54, (0, 0), [.ref 0, .int 0, .int (nI c), .ref (75 + 25 + 3 * c), .retAddr 0], [.int 0, .ref 75])) (h' := (G, I, F)) (hs' := []) rfl (vm_b2 rfl (vm_b2 rfl (vm_b2 (vm_b2 (vm_hG hD.d) rfl) (vm_b2 rfl rfl)))) ?_
  refine vm_J.call vm_q147 (Z := vm_M92) (n := 1) (k := 0) (mi := 92) (pc := 54) (en := (54, .invokevirtual 70, 3, [92, 438, 0], .null)) rfl trivial rfl rfl vm_z92 (av := [.ref 75, .int 0]) (rest := []) (m_picAt_y (B := 75) (p := 0) hD.w3 (by omega) (vm_pv hw hw0 hw2)) ⟨_, _, rfl, rfl, _, 9, _, hD.w3.w, rfl, rfl, rfl⟩ (Nat.le_of_ble_eq_true rfl) ⟨Nat.le_of_ble_eq_true rfl, Nat.le_of_ble_eq_true rfl⟩ ⟨Nat.le_of_ble_eq_true rfl, Nat.le_of_ble_eq_true rfl⟩ ?_
  show vm_J _ _ _ (57, (0, 0), [.ref 0, .int 0, .int (nI c), .ref (75 + 25 + 3 * c), .retAddr 0], [.ref (75 + 17 + 2 * 0)]) (G, I, F) _ _
  refine vm_J.go vm_q147 (k := 3) (hs := []) (f' := (bif vm_ic .ne 0 0 then 91 else 63, (0, 0), [.ref 0, .int 0, .int (nI c), .ref (75 + 25 + 3 * c), .ref (75 + 17 + 2 * 0)], [])) (h' := (G, I, F)) (hs' := []) rfl rfl ?_
  refine vm_J.bF (by decide) ?_
  refine vm_J.go vm_q147 (k := 11) (hs := [(12, 9, [.ref 1, .ref 38, .ref 75, .ref 112, .ref 132, .ref 135, .ref 139, .int 0, .int 0]), (12, 9, [.ref 1, .ref 38, .ref 75, .ref 112, .ref 132, .ref 135, .ref 139, .int 0, .int 0])]) (f' := (84, (0, 0), [.ref 0, .int 0, .int (nI c), .ref (75 + 25 + 3 * c), .ref (75 + 17 + 2 * 0)], [.int 0, .ref 75, .ref (75 + 17 + 2 * 0), .ref (75 + 25 + 3 * c), .ref 132])) (h' := (G, I, F)) (hs' := []) rfl (vm_b2 rfl (vm_b2 rfl (vm_b2 rfl (vm_b2 rfl (vm_b2 rfl (vm_b2 (vm_b2 (vm_hG hD.d) rfl) (vm_b2 rfl (vm_b2 rfl (vm_b2 rfl (vm_b2 (vm_b2 (vm_hG hD.d) rfl) (vm_b2 rfl rfl))))))))))) ?_
  refine vm_J.call vm_q147 (Z := vm_M94) (n := 1) (k := 0) (mi := 94) (pc := 84) (en := (84, .invokevirtual 233, 3, [94, 745, 0], .null)) rfl trivial rfl rfl vm_z94 (av := [.ref 75, .int 0]) (rest := [.ref (75 + 17 + 2 * 0), .ref (75 + 25 + 3 * c), .ref 132]) (m_ruleOf (B := 75) (j := 0) hD.w3 (by omega)) ⟨_, _, rfl, rfl, _, 9, _, hD.w3.w, rfl, rfl, rfl⟩ (Nat.le_of_ble_eq_true rfl) ⟨Nat.le_of_ble_eq_true rfl, Nat.le_of_ble_eq_true rfl⟩ ⟨Nat.le_of_ble_eq_true rfl, Nat.le_of_ble_eq_true rfl⟩ ?_
  rw [(hz : I (75 + 3) 0 = m)]
  show vm_J _ _ _ (87, (0, 0), [.ref 0, .int 0, .int (nI c), .ref (75 + 25 + 3 * c), .ref (75 + 17 + 2 * 0)], [.int m, .ref (75 + 17 + 2 * 0), .ref (75 + 25 + 3 * c), .ref 132]) (G, I, F) _ _
  refine vm_J.call vm_q147 (Z := vm_M57) (n := 3) (k := 0) (mi := 57) (pc := 87) (en := (87, .invokevirtual 236, 3, [57, 750, 0], .null)) rfl trivial rfl rfl vm_z57 (av := [.ref 132, .ref (75 + 25 + 3 * c), .ref (75 + 17 + 2 * 0), .int m]) (rest := []) (m_Rf_once1 (o := 75 + 25 + 3 * c) (a := 75 + 26 + 3 * c) (b := 75 + 27 + 3 * c) (q := 75 + 17 + 2 * 0) (pa := 75 + 18 + 2 * 0) (n := n) (w := w) (h := h) (m := m) hD.rf hD.rs hD.rp (hD.w3.l c hc) (hD.w3.c c hc) (hD.w3.k c hc) hn (by omega) (hD.w3.p 0 (by decide)) (hD.w3.q 0 (by decide)) hw hh (by omega) (by omega) (by omega) (by omega) (by omega) (by omega) (by omega) (by omega) (by omega) (by omega) (by omega) (by omega) (by omega) (by decide) (by omega)) ⟨_, _, rfl, rfl, _, 5, _, hD.rf, rfl, rfl, rfl⟩ (Nat.le_of_ble_eq_true rfl) ⟨Nat.le_of_ble_eq_true rfl, Nat.le_of_ble_eq_true rfl⟩ ⟨Nat.le_of_ble_eq_true rfl, Nat.le_of_ble_eq_true rfl⟩ ?_
  show vm_J _ _ _ (90, (0, 0), [.ref 0, .int 0, .int (nI c), .ref (75 + 25 + 3 * c), .ref (75 + 17 + 2 * 0)], [.int (vc_F I (75 + 26 + 3 * c) (75 + 27 + 3 * c) (75 + 18 + 2 * 0) n (w * h) m)]) (G, vc_R I (75 + 26 + 3 * c) (75 + 27 + 3 * c) (75 + 18 + 2 * 0) n (w * h) m, F) _ _
  refine vm_J.go vm_q147 (k := 4) (hs := []) (f' := (bif vm_ic .ne 0 3 then 121 else 96, (0, 0), [.ref 0, .int 0, .int (nI c), .ref (75 + 25 + 3 * c), .ref (75 + 17 + 2 * 0)], [])) (h' := (G, vc_R I (75 + 26 + 3 * c) (75 + 27 + 3 * c) (75 + 18 + 2 * 0) n (w * h) m, F)) (hs' := []) rfl rfl ?_
  refine vm_J.bT (by decide) ?_
  exact vm_J.end vm_q147 (en := (121, .return_, 1, [], .null)) rfl rfl vm_rV (Nat.zero_le _) (Nat.zero_le _) rfl
set_option maxHeartbeats 4000000 in
set_option maxRecDepth 20000 in
/-- DitherDesk.followRow -/
theorem c_gr0_0 {l : Launch} {X : vm_Cx} {G : List vm_Sh} {I : Nat → Nat → Int32} {F : Nat → Nat → UInt32} {c : Nat} {w : Nat} {h : Nat} {m : Int32} (hD : vm_isD G) (hc : c < 4) (hn : I (75 + 25 + 3 * c) 0 = 0) (hw : I (75 + 17 + 2 * 0) 0 = nI w) (hh : I (75 + 17 + 2 * 0) 1 = nI h) (hw2 : w ≤ 12) (hh2 : h ≤ 12) (hw0 : 0 < w) (hz : I (75 + 3) 0 = m) : vm_K l X vm_M147 [.ref 0, .int 0, .int (nI c)] (G, I, F) (none) (G, (vm_gz I 133 134), F) := by
  refine vm_K.mk (by decide) (Nat.le_of_ble_eq_true rfl) ?_
  show vm_J _ _ _ (0, (0, 0), [.ref 0, .int 0, .int (nI c), .retAddr 0, .retAddr 0], []) _ _ _
  refine vm_J.go vm_q147 (k := 3) (hs := []) (f' := (bif vm_ic .eq 0 1 then 10 else 5, (0, 0), [.ref 0, .int 0, .int (nI c), .retAddr 0, .retAddr 0], [])) (h' := (G, I, F)) (hs' := []) rfl rfl ?_
  refine vm_J.bF (by decide) ?_
  refine vm_J.go vm_q147 (k := 3) (hs := []) (f' := (bif vm_ic .ne 0 2 then 32 else 10, (0, 0), [.ref 0, .int 0, .int (nI c), .retAddr 0, .retAddr 0], [])) (h' := (G, I, F)) (hs' := []) rfl rfl ?_
  refine vm_J.bT (by decide) ?_
  refine vm_J.go vm_q147 (k := 4) (hs := [(12, 9, [.ref 1, .ref 38, .ref 75, .ref 112, .ref 132, .ref 135, .ref 139, .int 0, .int 0])]) (f' := (bif vm_ic .ne 0 0 then 44 else 40, (0, 0), [.ref 0, .int 0, .int (nI c), .retAddr 0, .retAddr 0], [.ref 75])) (h' := (G, I, F)) (hs' := []) rfl (vm_b2 rfl (vm_b2 (vm_b2 (vm_hG hD.d) rfl) (vm_b2 rfl (vm_b2 rfl rfl)))) ?_
  refine vm_J.bF (by decide) ?_
  refine vm_J.go vm_q147 (k := 2) (hs := []) (f' := (45, (0, 0), [.ref 0, .int 0, .int (nI c), .retAddr 0, .retAddr 0], [.int (nI c), .ref 75])) (h' := (G, I, F)) (hs' := []) rfl rfl ?_
  refine vm_J.call vm_q147 (Z := vm_M93) (n := 1) (k := 0) (mi := 93) (pc := 45) (en := (45, .invokevirtual 172, 3, [93, 619, 0], .null)) rfl trivial rfl rfl vm_z93 (av := [.ref 75, .int (nI c)]) (rest := []) (m_pal_n (B := 75) (p := c) hD.w3 (by omega)) ⟨_, _, rfl, rfl, _, 9, _, hD.w3.w, rfl, rfl, rfl⟩ (Nat.le_of_ble_eq_true rfl) ⟨Nat.le_of_ble_eq_true rfl, Nat.le_of_ble_eq_true rfl⟩ ⟨Nat.le_of_ble_eq_true rfl, Nat.le_of_ble_eq_true rfl⟩ ?_
  show vm_J _ _ _ (48, (0, 0), [.ref 0, .int 0, .int (nI c), .retAddr 0, .retAddr 0], [.ref (75 + 25 + 3 * c)]) (G, I, F) _ _
  refine vm_J.go vm_q147 (k := 4) (hs := [(12, 9, [.ref 1, .ref 38, .ref 75, .ref 112, .ref 132, .ref 135, .ref 139, .int 0, .int 0])]) (f' := (54, (0, 0), [.ref 0, .int 0, .int (nI c), .ref (75 + 25 + 3 * c), .retAddr 0], [.int 0, .ref 75])) (h' := (G, I, F)) (hs' := []) rfl (vm_b2 rfl (vm_b2 rfl (vm_b2 (vm_b2 (vm_hG hD.d) rfl) (vm_b2 rfl rfl)))) ?_
  refine vm_J.call vm_q147 (Z := vm_M92) (n := 1) (k := 0) (mi := 92) (pc := 54) (en := (54, .invokevirtual 70, 3, [92, 438, 0], .null)) rfl trivial rfl rfl vm_z92 (av := [.ref 75, .int 0]) (rest := []) (m_picAt_y (B := 75) (p := 0) hD.w3 (by omega) (vm_pv hw hw0 hw2)) ⟨_, _, rfl, rfl, _, 9, _, hD.w3.w, rfl, rfl, rfl⟩ (Nat.le_of_ble_eq_true rfl) ⟨Nat.le_of_ble_eq_true rfl, Nat.le_of_ble_eq_true rfl⟩ ⟨Nat.le_of_ble_eq_true rfl, Nat.le_of_ble_eq_true rfl⟩ ?_
  show vm_J _ _ _ (57, (0, 0), [.ref 0, .int 0, .int (nI c), .ref (75 + 25 + 3 * c), .retAddr 0], [.ref (75 + 17 + 2 * 0)]) (G, I, F) _ _
  refine vm_J.go vm_q147 (k := 3) (hs := []) (f' := (bif vm_ic .ne 0 0 then 91 else 63, (0, 0), [.ref 0, .int 0, .int (nI c), .ref (75 + 25 + 3 * c), .ref (75 + 17 + 2 * 0)], [])) (h' := (G, I, F)) (hs' := []) rfl rfl ?_
  refine vm_J.bF (by decide) ?_
  refine vm_J.go vm_q147 (k := 11) (hs := [(12, 9, [.ref 1, .ref 38, .ref 75, .ref 112, .ref 132, .ref 135, .ref 139, .int 0, .int 0]), (12, 9, [.ref 1, .ref 38, .ref 75, .ref 112, .ref 132, .ref 135, .ref 139, .int 0, .int 0])]) (f' := (84, (0, 0), [.ref 0, .int 0, .int (nI c), .ref (75 + 25 + 3 * c), .ref (75 + 17 + 2 * 0)], [.int 0, .ref 75, .ref (75 + 17 + 2 * 0), .ref (75 + 25 + 3 * c), .ref 132])) (h' := (G, I, F)) (hs' := []) rfl (vm_b2 rfl (vm_b2 rfl (vm_b2 rfl (vm_b2 rfl (vm_b2 rfl (vm_b2 (vm_b2 (vm_hG hD.d) rfl) (vm_b2 rfl (vm_b2 rfl (vm_b2 rfl (vm_b2 (vm_b2 (vm_hG hD.d) rfl) (vm_b2 rfl rfl))))))))))) ?_
  refine vm_J.call vm_q147 (Z := vm_M94) (n := 1) (k := 0) (mi := 94) (pc := 84) (en := (84, .invokevirtual 233, 3, [94, 745, 0], .null)) rfl trivial rfl rfl vm_z94 (av := [.ref 75, .int 0]) (rest := [.ref (75 + 17 + 2 * 0), .ref (75 + 25 + 3 * c), .ref 132]) (m_ruleOf (B := 75) (j := 0) hD.w3 (by omega)) ⟨_, _, rfl, rfl, _, 9, _, hD.w3.w, rfl, rfl, rfl⟩ (Nat.le_of_ble_eq_true rfl) ⟨Nat.le_of_ble_eq_true rfl, Nat.le_of_ble_eq_true rfl⟩ ⟨Nat.le_of_ble_eq_true rfl, Nat.le_of_ble_eq_true rfl⟩ ?_
  rw [(hz : I (75 + 3) 0 = m)]
  show vm_J _ _ _ (87, (0, 0), [.ref 0, .int 0, .int (nI c), .ref (75 + 25 + 3 * c), .ref (75 + 17 + 2 * 0)], [.int m, .ref (75 + 17 + 2 * 0), .ref (75 + 25 + 3 * c), .ref 132]) (G, I, F) _ _
  refine vm_J.call vm_q147 (Z := vm_M57) (n := 3) (k := 0) (mi := 57) (pc := 87) (en := (87, .invokevirtual 236, 3, [57, 750, 0], .null)) rfl trivial rfl rfl vm_z57 (av := [.ref 132, .ref (75 + 25 + 3 * c), .ref (75 + 17 + 2 * 0), .int m]) (rest := []) (m_Rf_once0 (r := 132) (sa := 133) (px := 134) (o := 75 + 25 + 3 * c) (a := 75 + 26 + 3 * c) (b := 75 + 27 + 3 * c) (q := 75 + 17 + 2 * 0) (pa := 75 + 18 + 2 * 0) (w := w) (h := h) (m := m) hD.rf hD.rs hD.rp (hD.w3.l c hc) (hD.w3.c c hc) (hD.w3.k c hc) hn (hD.w3.p 0 (by decide)) (hD.w3.q 0 (by decide)) hw hh (by omega) (by omega) (by omega) (by omega) (by omega) (by omega) (by omega) (by omega) (by omega) (by omega) (by omega) (by omega) (by decide)) ⟨_, _, rfl, rfl, _, 5, _, hD.rf, rfl, rfl, rfl⟩ (Nat.le_of_ble_eq_true rfl) ⟨Nat.le_of_ble_eq_true rfl, Nat.le_of_ble_eq_true rfl⟩ ⟨Nat.le_of_ble_eq_true rfl, Nat.le_of_ble_eq_true rfl⟩ ?_
  show vm_J _ _ _ (90, (0, 0), [.ref 0, .int 0, .int (nI c), .ref (75 + 25 + 3 * c), .ref (75 + 17 + 2 * 0)], [.int 0]) (G, (vm_gz I 133 134), F) _ _
  refine vm_J.go vm_q147 (k := 4) (hs := []) (f' := (bif vm_ic .ne 0 3 then 121 else 96, (0, 0), [.ref 0, .int 0, .int (nI c), .ref (75 + 25 + 3 * c), .ref (75 + 17 + 2 * 0)], [])) (h' := (G, (vm_gz I 133 134), F)) (hs' := []) rfl rfl ?_
  refine vm_J.bT (by decide) ?_
  exact vm_J.end vm_q147 (en := (121, .return_, 1, [], .null)) rfl rfl vm_rV (Nat.zero_le _) (Nat.zero_le _) rfl
set_option maxHeartbeats 4000000 in
set_option maxRecDepth 20000 in
/-- DitherDesk.followRow -/
theorem c_gr0_w {l : Launch} {X : vm_Cx} {G : List vm_Sh} {I : Nat → Nat → Int32} {F : Nat → Nat → UInt32} {c : Nat} {w : Nat} (hD : vm_isD G) (hc : c < 4) (hw : I (75 + 17 + 2 * 0) 0 = nI w) (hw2 : w ≤ 12) (hw0 : w = 0) : vm_K l X vm_M147 [.ref 0, .int 0, .int (nI c)] (G, I, F) (none) (G, I, F) := by
  refine vm_K.mk (by decide) (Nat.le_of_ble_eq_true rfl) ?_
  show vm_J _ _ _ (0, (0, 0), [.ref 0, .int 0, .int (nI c), .retAddr 0, .retAddr 0], []) _ _ _
  refine vm_J.go vm_q147 (k := 3) (hs := []) (f' := (bif vm_ic .eq 0 1 then 10 else 5, (0, 0), [.ref 0, .int 0, .int (nI c), .retAddr 0, .retAddr 0], [])) (h' := (G, I, F)) (hs' := []) rfl rfl ?_
  refine vm_J.bF (by decide) ?_
  refine vm_J.go vm_q147 (k := 3) (hs := []) (f' := (bif vm_ic .ne 0 2 then 32 else 10, (0, 0), [.ref 0, .int 0, .int (nI c), .retAddr 0, .retAddr 0], [])) (h' := (G, I, F)) (hs' := []) rfl rfl ?_
  refine vm_J.bT (by decide) ?_
  refine vm_J.go vm_q147 (k := 4) (hs := [(12, 9, [.ref 1, .ref 38, .ref 75, .ref 112, .ref 132, .ref 135, .ref 139, .int 0, .int 0])]) (f' := (bif vm_ic .ne 0 0 then 44 else 40, (0, 0), [.ref 0, .int 0, .int (nI c), .retAddr 0, .retAddr 0], [.ref 75])) (h' := (G, I, F)) (hs' := []) rfl (vm_b2 rfl (vm_b2 (vm_b2 (vm_hG hD.d) rfl) (vm_b2 rfl (vm_b2 rfl rfl)))) ?_
  refine vm_J.bF (by decide) ?_
  refine vm_J.go vm_q147 (k := 2) (hs := []) (f' := (45, (0, 0), [.ref 0, .int 0, .int (nI c), .retAddr 0, .retAddr 0], [.int (nI c), .ref 75])) (h' := (G, I, F)) (hs' := []) rfl rfl ?_
  refine vm_J.call vm_q147 (Z := vm_M93) (n := 1) (k := 0) (mi := 93) (pc := 45) (en := (45, .invokevirtual 172, 3, [93, 619, 0], .null)) rfl trivial rfl rfl vm_z93 (av := [.ref 75, .int (nI c)]) (rest := []) (m_pal_n (B := 75) (p := c) hD.w3 (by omega)) ⟨_, _, rfl, rfl, _, 9, _, hD.w3.w, rfl, rfl, rfl⟩ (Nat.le_of_ble_eq_true rfl) ⟨Nat.le_of_ble_eq_true rfl, Nat.le_of_ble_eq_true rfl⟩ ⟨Nat.le_of_ble_eq_true rfl, Nat.le_of_ble_eq_true rfl⟩ ?_
  show vm_J _ _ _ (48, (0, 0), [.ref 0, .int 0, .int (nI c), .retAddr 0, .retAddr 0], [.ref (75 + 25 + 3 * c)]) (G, I, F) _ _
  refine vm_J.go vm_q147 (k := 4) (hs := [(12, 9, [.ref 1, .ref 38, .ref 75, .ref 112, .ref 132, .ref 135, .ref 139, .int 0, .int 0])]) (f' := (54, (0, 0), [.ref 0, .int 0, .int (nI c), .ref (75 + 25 + 3 * c), .retAddr 0], [.int 0, .ref 75])) (h' := (G, I, F)) (hs' := []) rfl (vm_b2 rfl (vm_b2 rfl (vm_b2 (vm_b2 (vm_hG hD.d) rfl) (vm_b2 rfl rfl)))) ?_
  refine vm_J.call vm_q147 (Z := vm_M92) (n := 1) (k := 0) (mi := 92) (pc := 54) (en := (54, .invokevirtual 70, 3, [92, 438, 0], .null)) rfl trivial rfl rfl vm_z92 (av := [.ref 75, .int 0]) (rest := []) (m_picAt_n (B := 75) (p := 0) hD.w3 (by omega) (vm_pz hw hw0)) ⟨_, _, rfl, rfl, _, 9, _, hD.w3.w, rfl, rfl, rfl⟩ (Nat.le_of_ble_eq_true rfl) ⟨Nat.le_of_ble_eq_true rfl, Nat.le_of_ble_eq_true rfl⟩ ⟨Nat.le_of_ble_eq_true rfl, Nat.le_of_ble_eq_true rfl⟩ ?_
  show vm_J _ _ _ (57, (0, 0), [.ref 0, .int 0, .int (nI c), .ref (75 + 25 + 3 * c), .retAddr 0], [.null]) (G, I, F) _ _
  refine vm_J.go vm_q147 (k := 3) (hs := []) (f' := (bif vm_ic .ne 0 0 then 91 else 63, (0, 0), [.ref 0, .int 0, .int (nI c), .ref (75 + 25 + 3 * c), .null], [])) (h' := (G, I, F)) (hs' := []) rfl rfl ?_
  refine vm_J.bF (by decide) ?_
  refine vm_J.go vm_q147 (k := 7) (hs := []) (f' := (bif vm_ic .ne 0 3 then 121 else 96, (0, 0), [.ref 0, .int 0, .int (nI c), .ref (75 + 25 + 3 * c), .null], [])) (h' := (G, I, F)) (hs' := []) rfl rfl ?_
  refine vm_J.bT (by decide) ?_
  exact vm_J.end vm_q147 (en := (121, .return_, 1, [], .null)) rfl rfl vm_rV (Nat.zero_le _) (Nat.zero_le _) rfl
set_option maxHeartbeats 4000000 in
set_option maxRecDepth 20000 in
/-- DitherDesk.followRow -/
theorem c_gr1 {l : Launch} {X : vm_Cx} {G : List vm_Sh} {I : Nat → Nat → Int32} {F : Nat → Nat → UInt32} {c : Nat} (hD : vm_isD G) : vm_K l X vm_M147 [.ref 0, .int 1, .int (nI c)] (G, I, F) (none) (G, (vm_up I (75 + 3) 0 (nI c)), F) := by
  refine vm_K.mk (by decide) (Nat.le_of_ble_eq_true rfl) ?_
  show vm_J _ _ _ (0, (0, 0), [.ref 0, .int 1, .int (nI c), .retAddr 0, .retAddr 0], []) _ _ _
  refine vm_J.go vm_q147 (k := 3) (hs := []) (f' := (bif vm_ic .eq 1 1 then 10 else 5, (0, 0), [.ref 0, .int 1, .int (nI c), .retAddr 0, .retAddr 0], [])) (h' := (G, I, F)) (hs' := []) rfl rfl ?_
  refine vm_J.bT (by decide) ?_
  refine vm_J.go vm_q147 (k := 6) (hs := [(12, 9, [.ref 1, .ref 38, .ref 75, .ref 112, .ref 132, .ref 135, .ref 139, .int 0, .int 0]), (11, 7, [.ref (75 + 1), .ref (75 + 2), .ref (75 + 3), .ref (75 + 4), .ref (75 + 11), .ref (75 + 13), .ref (75 + 15)])]) (f' := (bif vm_ic .ne 1 1 then 26 else 22, (0, 0), [.ref 0, .int 1, .int (nI c), .retAddr 0, .retAddr 0], [.ref (75 + 3)])) (h' := (G, I, F)) (hs' := []) rfl (vm_b2 rfl (vm_b2 (vm_b2 (vm_hG hD.d) rfl) (vm_b2 (vm_b2 (vm_hG hD.w3.w) rfl) (vm_b2 rfl (vm_b2 rfl (vm_b2 rfl rfl)))))) ?_
  refine vm_J.bF (by decide) ?_
  refine vm_J.go vm_q147 (k := 3) (hs := []) (f' := (28, (0, 0), [.ref 0, .int 1, .int (nI c), .retAddr 0, .retAddr 0], [.int (nI c), .int 0, .ref (75 + 3)])) (h' := (G, I, F)) (hs' := []) rfl rfl ?_
  refine vm_J.call vm_q147 (Z := vm_M153) (n := 3) (k := 1) (mi := 153) (pc := 28) (en := (28, .invokestatic 92, 3, [153, 464, 0], .null)) rfl trivial rfl rfl vm_z153 (av := [.ref (75 + 3), .int 0, .int (nI c)]) (rest := []) (m_put_n (a := 75 + 3) (j := 0) (v := nI c) hD.w3.rl (by decide) (by omega)) rfl (Nat.le_of_ble_eq_true rfl) ⟨Nat.le_of_ble_eq_true rfl, Nat.le_of_ble_eq_true rfl⟩ ⟨Nat.le_of_ble_eq_true rfl, Nat.le_of_ble_eq_true rfl⟩ ?_
  show vm_J _ _ _ (31, (0, 0), [.ref 0, .int 1, .int (nI c), .retAddr 0, .retAddr 0], []) (G, (vm_up I (75 + 3) 0 (nI c)), F) _ _
  exact vm_J.end vm_q147 (en := (31, .return_, 1, [], .null)) rfl rfl vm_rV (Nat.zero_le _) (Nat.zero_le _) rfl
set_option maxHeartbeats 4000000 in
set_option maxRecDepth 20000 in
/-- DitherDesk.followRow -/
theorem c_gr2 {l : Launch} {X : vm_Cx} {G : List vm_Sh} {I : Nat → Nat → Int32} {F : Nat → Nat → UInt32} {c : Nat} (hD : vm_isD G) : vm_K l X vm_M147 [.ref 0, .int 2, .int (nI c)] (G, I, F) (none) (G, (vm_up I (75 + 3) 1 (nI c)), F) := by
  refine vm_K.mk (by decide) (Nat.le_of_ble_eq_true rfl) ?_
  show vm_J _ _ _ (0, (0, 0), [.ref 0, .int 2, .int (nI c), .retAddr 0, .retAddr 0], []) _ _ _
  refine vm_J.go vm_q147 (k := 3) (hs := []) (f' := (bif vm_ic .eq 2 1 then 10 else 5, (0, 0), [.ref 0, .int 2, .int (nI c), .retAddr 0, .retAddr 0], [])) (h' := (G, I, F)) (hs' := []) rfl rfl ?_
  refine vm_J.bF (by decide) ?_
  refine vm_J.go vm_q147 (k := 3) (hs := []) (f' := (bif vm_ic .ne 2 2 then 32 else 10, (0, 0), [.ref 0, .int 2, .int (nI c), .retAddr 0, .retAddr 0], [])) (h' := (G, I, F)) (hs' := []) rfl rfl ?_
  refine vm_J.bF (by decide) ?_
  refine vm_J.go vm_q147 (k := 6) (hs := [(12, 9, [.ref 1, .ref 38, .ref 75, .ref 112, .ref 132, .ref 135, .ref 139, .int 0, .int 0]), (11, 7, [.ref (75 + 1), .ref (75 + 2), .ref (75 + 3), .ref (75 + 4), .ref (75 + 11), .ref (75 + 13), .ref (75 + 15)])]) (f' := (bif vm_ic .ne 2 1 then 26 else 22, (0, 0), [.ref 0, .int 2, .int (nI c), .retAddr 0, .retAddr 0], [.ref (75 + 3)])) (h' := (G, I, F)) (hs' := []) rfl (vm_b2 rfl (vm_b2 (vm_b2 (vm_hG hD.d) rfl) (vm_b2 (vm_b2 (vm_hG hD.w3.w) rfl) (vm_b2 rfl (vm_b2 rfl (vm_b2 rfl rfl)))))) ?_
  refine vm_J.bT (by decide) ?_
  refine vm_J.go vm_q147 (k := 2) (hs := []) (f' := (28, (0, 0), [.ref 0, .int 2, .int (nI c), .retAddr 0, .retAddr 0], [.int (nI c), .int 1, .ref (75 + 3)])) (h' := (G, I, F)) (hs' := []) rfl rfl ?_
  refine vm_J.call vm_q147 (Z := vm_M153) (n := 3) (k := 1) (mi := 153) (pc := 28) (en := (28, .invokestatic 92, 3, [153, 464, 0], .null)) rfl trivial rfl rfl vm_z153 (av := [.ref (75 + 3), .int 1, .int (nI c)]) (rest := []) (m_put_n (a := 75 + 3) (j := 1) (v := nI c) hD.w3.rl (by decide) (by omega)) rfl (Nat.le_of_ble_eq_true rfl) ⟨Nat.le_of_ble_eq_true rfl, Nat.le_of_ble_eq_true rfl⟩ ⟨Nat.le_of_ble_eq_true rfl, Nat.le_of_ble_eq_true rfl⟩ ?_
  show vm_J _ _ _ (31, (0, 0), [.ref 0, .int 2, .int (nI c), .retAddr 0, .retAddr 0], []) (G, (vm_up I (75 + 3) 1 (nI c)), F) _ _
  exact vm_J.end vm_q147 (en := (31, .return_, 1, [], .null)) rfl rfl vm_rV (Nat.zero_le _) (Nat.zero_le _) rfl
set_option maxHeartbeats 4000000 in
set_option maxRecDepth 20000 in
/-- DitherDesk.followRow -/
theorem c_gr3_yw {l : Launch} {X : vm_Cx} {G : List vm_Sh} {I : Nat → Nat → Int32} {F : Nat → Nat → UInt32} {c : Nat} {n : Nat} {w : Nat} (hD : vm_isD G) (hw : I (75 + 17 + 2 * 0) 0 = nI w) (hw2 : w ≤ 12) (hw0 : 0 < w) (hn : I (75 + 25 + 3 * 0) 0 = nI n) (hn2 : n ≤ 16) (hcn : c < n) (hlk : ¬ I (75 + 27 + 3 * 0) c = 1) : vm_K l X vm_M147 [.ref 0, .int 3, .int (nI c)] (G, I, F) (none) (G, (vm_up (vm_rm I (75 + 26 + 3 * 0) (75 + 27 + 3 * 0) c (n - 1 - c)) (75 + 25 + 3 * 0) 0 (nI (n - 1))), F) := by
  refine vm_K.mk (by decide) (Nat.le_of_ble_eq_true rfl) ?_
  show vm_J _ _ _ (0, (0, 0), [.ref 0, .int 3, .int (nI c), .retAddr 0, .retAddr 0], []) _ _ _
  refine vm_J.go vm_q147 (k := 3) (hs := []) (f' := (bif vm_ic .eq 3 1 then 10 else 5, (0, 0), [.ref 0, .int 3, .int (nI c), .retAddr 0, .retAddr 0], [])) (h' := (G, I, F)) (hs' := []) rfl rfl ?_
  refine vm_J.bF (by decide) ?_
  refine vm_J.go vm_q147 (k := 3) (hs := []) (f' := (bif vm_ic .ne 3 2 then 32 else 10, (0, 0), [.ref 0, .int 3, .int (nI c), .retAddr 0, .retAddr 0], [])) (h' := (G, I, F)) (hs' := []) rfl rfl ?_
  refine vm_J.bT (by decide) ?_
  refine vm_J.go vm_q147 (k := 4) (hs := [(12, 9, [.ref 1, .ref 38, .ref 75, .ref 112, .ref 132, .ref 135, .ref 139, .int 0, .int 0])]) (f' := (bif vm_ic .ne 3 0 then 44 else 40, (0, 0), [.ref 0, .int 3, .int (nI c), .retAddr 0, .retAddr 0], [.ref 75])) (h' := (G, I, F)) (hs' := []) rfl (vm_b2 rfl (vm_b2 (vm_b2 (vm_hG hD.d) rfl) (vm_b2 rfl (vm_b2 rfl rfl)))) ?_
  refine vm_J.bT (by decide) ?_
  refine vm_J.go vm_q147 (k := 1) (hs := []) (f' := (45, (0, 0), [.ref 0, .int 3, .int (nI c), .retAddr 0, .retAddr 0], [.int 0, .ref 75])) (h' := (G, I, F)) (hs' := []) rfl rfl ?_
  refine vm_J.call vm_q147 (Z := vm_M93) (n := 1) (k := 0) (mi := 93) (pc := 45) (en := (45, .invokevirtual 172, 3, [93, 619, 0], .null)) rfl trivial rfl rfl vm_z93 (av := [.ref 75, .int 0]) (rest := []) (m_pal_n (B := 75) (p := 0) hD.w3 (by omega)) ⟨_, _, rfl, rfl, _, 9, _, hD.w3.w, rfl, rfl, rfl⟩ (Nat.le_of_ble_eq_true rfl) ⟨Nat.le_of_ble_eq_true rfl, Nat.le_of_ble_eq_true rfl⟩ ⟨Nat.le_of_ble_eq_true rfl, Nat.le_of_ble_eq_true rfl⟩ ?_
  show vm_J _ _ _ (48, (0, 0), [.ref 0, .int 3, .int (nI c), .retAddr 0, .retAddr 0], [.ref (75 + 25 + 3 * 0)]) (G, I, F) _ _
  refine vm_J.go vm_q147 (k := 4) (hs := [(12, 9, [.ref 1, .ref 38, .ref 75, .ref 112, .ref 132, .ref 135, .ref 139, .int 0, .int 0])]) (f' := (54, (0, 0), [.ref 0, .int 3, .int (nI c), .ref (75 + 25 + 3 * 0), .retAddr 0], [.int 0, .ref 75])) (h' := (G, I, F)) (hs' := []) rfl (vm_b2 rfl (vm_b2 rfl (vm_b2 (vm_b2 (vm_hG hD.d) rfl) (vm_b2 rfl rfl)))) ?_
  refine vm_J.call vm_q147 (Z := vm_M92) (n := 1) (k := 0) (mi := 92) (pc := 54) (en := (54, .invokevirtual 70, 3, [92, 438, 0], .null)) rfl trivial rfl rfl vm_z92 (av := [.ref 75, .int 0]) (rest := []) (m_picAt_y (B := 75) (p := 0) hD.w3 (by omega) (vm_pv hw hw0 hw2)) ⟨_, _, rfl, rfl, _, 9, _, hD.w3.w, rfl, rfl, rfl⟩ (Nat.le_of_ble_eq_true rfl) ⟨Nat.le_of_ble_eq_true rfl, Nat.le_of_ble_eq_true rfl⟩ ⟨Nat.le_of_ble_eq_true rfl, Nat.le_of_ble_eq_true rfl⟩ ?_
  show vm_J _ _ _ (57, (0, 0), [.ref 0, .int 3, .int (nI c), .ref (75 + 25 + 3 * 0), .retAddr 0], [.ref (75 + 17 + 2 * 0)]) (G, I, F) _ _
  refine vm_J.go vm_q147 (k := 3) (hs := []) (f' := (bif vm_ic .ne 3 0 then 91 else 63, (0, 0), [.ref 0, .int 3, .int (nI c), .ref (75 + 25 + 3 * 0), .ref (75 + 17 + 2 * 0)], [])) (h' := (G, I, F)) (hs' := []) rfl rfl ?_
  refine vm_J.bT (by decide) ?_
  refine vm_J.go vm_q147 (k := 3) (hs := []) (f' := (bif vm_ic .ne 3 3 then 121 else 96, (0, 0), [.ref 0, .int 3, .int (nI c), .ref (75 + 25 + 3 * 0), .ref (75 + 17 + 2 * 0)], [])) (h' := (G, I, F)) (hs' := []) rfl rfl ?_
  refine vm_J.bF (by decide) ?_
  refine vm_J.go vm_q147 (k := 4) (hs := []) (f' := (102, (0, 0), [.ref 0, .int 3, .int (nI c), .ref (75 + 25 + 3 * 0), .ref (75 + 17 + 2 * 0)], [.int (nI c), .ref (75 + 25 + 3 * 0)])) (h' := (G, I, F)) (hs' := []) rfl rfl ?_
  refine vm_J.call vm_q147 (Z := vm_M21) (n := 1) (k := 0) (mi := 21) (pc := 102) (en := (102, .invokevirtual 192, 3, [21, 645, 0], .null)) rfl trivial rfl rfl vm_z21 (av := [.ref (75 + 25 + 3 * 0), .int (nI c)]) (rest := []) (m_Pal_has_y (o := 75 + 25 + 3 * 0) (a := 75 + 26 + 3 * 0) (b := 75 + 27 + 3 * 0) (e := nI c) (hD.w3.l 0 (by decide)) (by rw [hn]; exact vm_en_n hcn hn2)) ⟨_, _, rfl, rfl, _, 2, _, (hD.w3.l 0 (by decide)), rfl, rfl, rfl⟩ (Nat.le_of_ble_eq_true rfl) ⟨Nat.le_of_ble_eq_true rfl, Nat.le_of_ble_eq_true rfl⟩ ⟨Nat.le_of_ble_eq_true rfl, Nat.le_of_ble_eq_true rfl⟩ ?_
  show vm_J _ _ _ (105, (0, 0), [.ref 0, .int 3, .int (nI c), .ref (75 + 25 + 3 * 0), .ref (75 + 17 + 2 * 0)], [.int 1]) (G, I, F) _ _
  refine vm_J.go vm_q147 (k := 1) (hs := []) (f' := (bif vm_ic .eq 1 0 then 121 else 108, (0, 0), [.ref 0, .int 3, .int (nI c), .ref (75 + 25 + 3 * 0), .ref (75 + 17 + 2 * 0)], [])) (h' := (G, I, F)) (hs' := []) rfl rfl ?_
  refine vm_J.bF (by decide) ?_
  refine vm_J.go vm_q147 (k := 2) (hs := []) (f' := (110, (0, 0), [.ref 0, .int 3, .int (nI c), .ref (75 + 25 + 3 * 0), .ref (75 + 17 + 2 * 0)], [.int (nI c), .ref (75 + 25 + 3 * 0)])) (h' := (G, I, F)) (hs' := []) rfl rfl ?_
  refine vm_J.call vm_q147 (Z := vm_M24) (n := 1) (k := 0) (mi := 24) (pc := 110) (en := (110, .invokevirtual 198, 3, [24, 658, 0], .null)) rfl trivial rfl rfl vm_z24 (av := [.ref (75 + 25 + 3 * 0), .int (nI c)]) (rest := []) (m_Pal_isLocked_n (o := 75 + 25 + 3 * 0) (a := 75 + 26 + 3 * 0) (b := 75 + 27 + 3 * 0) (j := c) (hD.w3.l 0 (by decide)) (hD.w3.k 0 (by decide)) (by omega) hlk) ⟨_, _, rfl, rfl, _, 2, _, (hD.w3.l 0 (by decide)), rfl, rfl, rfl⟩ (Nat.le_of_ble_eq_true rfl) ⟨Nat.le_of_ble_eq_true rfl, Nat.le_of_ble_eq_true rfl⟩ ⟨Nat.le_of_ble_eq_true rfl, Nat.le_of_ble_eq_true rfl⟩ ?_
  show vm_J _ _ _ (113, (0, 0), [.ref 0, .int 3, .int (nI c), .ref (75 + 25 + 3 * 0), .ref (75 + 17 + 2 * 0)], [.int 0]) (G, I, F) _ _
  refine vm_J.go vm_q147 (k := 1) (hs := []) (f' := (bif vm_ic .ne 0 0 then 121 else 116, (0, 0), [.ref 0, .int 3, .int (nI c), .ref (75 + 25 + 3 * 0), .ref (75 + 17 + 2 * 0)], [])) (h' := (G, I, F)) (hs' := []) rfl rfl ?_
  refine vm_J.bF (by decide) ?_
  refine vm_J.go vm_q147 (k := 2) (hs := []) (f' := (118, (0, 0), [.ref 0, .int 3, .int (nI c), .ref (75 + 25 + 3 * 0), .ref (75 + 17 + 2 * 0)], [.int (nI c), .ref (75 + 25 + 3 * 0)])) (h' := (G, I, F)) (hs' := []) rfl rfl ?_
  refine vm_J.call vm_q147 (Z := vm_M28) (n := 1) (k := 0) (mi := 28) (pc := 118) (en := (118, .invokevirtual 195, 3, [28, 650, 0], .null)) rfl trivial rfl rfl vm_z28 (av := [.ref (75 + 25 + 3 * 0), .int (nI c)]) (rest := []) (m_Pal_remove (o := 75 + 25 + 3 * 0) (a := 75 + 26 + 3 * 0) (b := 75 + 27 + 3 * 0) (n := n) (e := c) (hD.w3.l 0 (by decide)) (hD.w3.c 0 (by decide)) (hD.w3.k 0 (by decide)) hn (by omega) (by omega) (by omega) (by omega) (by omega)) ⟨_, _, rfl, rfl, _, 2, _, (hD.w3.l 0 (by decide)), rfl, rfl, rfl⟩ (Nat.le_of_ble_eq_true rfl) ⟨Nat.le_of_ble_eq_true rfl, Nat.le_of_ble_eq_true rfl⟩ ⟨Nat.le_of_ble_eq_true rfl, Nat.le_of_ble_eq_true rfl⟩ ?_
  show vm_J _ _ _ (121, (0, 0), [.ref 0, .int 3, .int (nI c), .ref (75 + 25 + 3 * 0), .ref (75 + 17 + 2 * 0)], []) (G, (vm_up (vm_rm I (75 + 26 + 3 * 0) (75 + 27 + 3 * 0) c (n - 1 - c)) (75 + 25 + 3 * 0) 0 (nI (n - 1))), F) _ _
  exact vm_J.end vm_q147 (en := (121, .return_, 1, [], .null)) rfl rfl vm_rV (Nat.zero_le _) (Nat.zero_le _) rfl
set_option maxHeartbeats 4000000 in
set_option maxRecDepth 20000 in
/-- DitherDesk.followRow -/
theorem c_gr3_lw {l : Launch} {X : vm_Cx} {G : List vm_Sh} {I : Nat → Nat → Int32} {F : Nat → Nat → UInt32} {c : Nat} {n : Nat} {w : Nat} (hD : vm_isD G) (hw : I (75 + 17 + 2 * 0) 0 = nI w) (hw2 : w ≤ 12) (hw0 : 0 < w) (hn : I (75 + 25 + 3 * 0) 0 = nI n) (hn2 : n ≤ 16) (hcn : c < n) (hlk : I (75 + 27 + 3 * 0) c = 1) : vm_K l X vm_M147 [.ref 0, .int 3, .int (nI c)] (G, I, F) (none) (G, I, F) := by
  refine vm_K.mk (by decide) (Nat.le_of_ble_eq_true rfl) ?_
  show vm_J _ _ _ (0, (0, 0), [.ref 0, .int 3, .int (nI c), .retAddr 0, .retAddr 0], []) _ _ _
  refine vm_J.go vm_q147 (k := 3) (hs := []) (f' := (bif vm_ic .eq 3 1 then 10 else 5, (0, 0), [.ref 0, .int 3, .int (nI c), .retAddr 0, .retAddr 0], [])) (h' := (G, I, F)) (hs' := []) rfl rfl ?_
  refine vm_J.bF (by decide) ?_
  refine vm_J.go vm_q147 (k := 3) (hs := []) (f' := (bif vm_ic .ne 3 2 then 32 else 10, (0, 0), [.ref 0, .int 3, .int (nI c), .retAddr 0, .retAddr 0], [])) (h' := (G, I, F)) (hs' := []) rfl rfl ?_
  refine vm_J.bT (by decide) ?_
  refine vm_J.go vm_q147 (k := 4) (hs := [(12, 9, [.ref 1, .ref 38, .ref 75, .ref 112, .ref 132, .ref 135, .ref 139, .int 0, .int 0])]) (f' := (bif vm_ic .ne 3 0 then 44 else 40, (0, 0), [.ref 0, .int 3, .int (nI c), .retAddr 0, .retAddr 0], [.ref 75])) (h' := (G, I, F)) (hs' := []) rfl (vm_b2 rfl (vm_b2 (vm_b2 (vm_hG hD.d) rfl) (vm_b2 rfl (vm_b2 rfl rfl)))) ?_
  refine vm_J.bT (by decide) ?_
  refine vm_J.go vm_q147 (k := 1) (hs := []) (f' := (45, (0, 0), [.ref 0, .int 3, .int (nI c), .retAddr 0, .retAddr 0], [.int 0, .ref 75])) (h' := (G, I, F)) (hs' := []) rfl rfl ?_
  refine vm_J.call vm_q147 (Z := vm_M93) (n := 1) (k := 0) (mi := 93) (pc := 45) (en := (45, .invokevirtual 172, 3, [93, 619, 0], .null)) rfl trivial rfl rfl vm_z93 (av := [.ref 75, .int 0]) (rest := []) (m_pal_n (B := 75) (p := 0) hD.w3 (by omega)) ⟨_, _, rfl, rfl, _, 9, _, hD.w3.w, rfl, rfl, rfl⟩ (Nat.le_of_ble_eq_true rfl) ⟨Nat.le_of_ble_eq_true rfl, Nat.le_of_ble_eq_true rfl⟩ ⟨Nat.le_of_ble_eq_true rfl, Nat.le_of_ble_eq_true rfl⟩ ?_
  show vm_J _ _ _ (48, (0, 0), [.ref 0, .int 3, .int (nI c), .retAddr 0, .retAddr 0], [.ref (75 + 25 + 3 * 0)]) (G, I, F) _ _
  refine vm_J.go vm_q147 (k := 4) (hs := [(12, 9, [.ref 1, .ref 38, .ref 75, .ref 112, .ref 132, .ref 135, .ref 139, .int 0, .int 0])]) (f' := (54, (0, 0), [.ref 0, .int 3, .int (nI c), .ref (75 + 25 + 3 * 0), .retAddr 0], [.int 0, .ref 75])) (h' := (G, I, F)) (hs' := []) rfl (vm_b2 rfl (vm_b2 rfl (vm_b2 (vm_b2 (vm_hG hD.d) rfl) (vm_b2 rfl rfl)))) ?_
  refine vm_J.call vm_q147 (Z := vm_M92) (n := 1) (k := 0) (mi := 92) (pc := 54) (en := (54, .invokevirtual 70, 3, [92, 438, 0], .null)) rfl trivial rfl rfl vm_z92 (av := [.ref 75, .int 0]) (rest := []) (m_picAt_y (B := 75) (p := 0) hD.w3 (by omega) (vm_pv hw hw0 hw2)) ⟨_, _, rfl, rfl, _, 9, _, hD.w3.w, rfl, rfl, rfl⟩ (Nat.le_of_ble_eq_true rfl) ⟨Nat.le_of_ble_eq_true rfl, Nat.le_of_ble_eq_true rfl⟩ ⟨Nat.le_of_ble_eq_true rfl, Nat.le_of_ble_eq_true rfl⟩ ?_
  show vm_J _ _ _ (57, (0, 0), [.ref 0, .int 3, .int (nI c), .ref (75 + 25 + 3 * 0), .retAddr 0], [.ref (75 + 17 + 2 * 0)]) (G, I, F) _ _
  refine vm_J.go vm_q147 (k := 3) (hs := []) (f' := (bif vm_ic .ne 3 0 then 91 else 63, (0, 0), [.ref 0, .int 3, .int (nI c), .ref (75 + 25 + 3 * 0), .ref (75 + 17 + 2 * 0)], [])) (h' := (G, I, F)) (hs' := []) rfl rfl ?_
  refine vm_J.bT (by decide) ?_
  refine vm_J.go vm_q147 (k := 3) (hs := []) (f' := (bif vm_ic .ne 3 3 then 121 else 96, (0, 0), [.ref 0, .int 3, .int (nI c), .ref (75 + 25 + 3 * 0), .ref (75 + 17 + 2 * 0)], [])) (h' := (G, I, F)) (hs' := []) rfl rfl ?_
  refine vm_J.bF (by decide) ?_
  refine vm_J.go vm_q147 (k := 4) (hs := []) (f' := (102, (0, 0), [.ref 0, .int 3, .int (nI c), .ref (75 + 25 + 3 * 0), .ref (75 + 17 + 2 * 0)], [.int (nI c), .ref (75 + 25 + 3 * 0)])) (h' := (G, I, F)) (hs' := []) rfl rfl ?_
  refine vm_J.call vm_q147 (Z := vm_M21) (n := 1) (k := 0) (mi := 21) (pc := 102) (en := (102, .invokevirtual 192, 3, [21, 645, 0], .null)) rfl trivial rfl rfl vm_z21 (av := [.ref (75 + 25 + 3 * 0), .int (nI c)]) (rest := []) (m_Pal_has_y (o := 75 + 25 + 3 * 0) (a := 75 + 26 + 3 * 0) (b := 75 + 27 + 3 * 0) (e := nI c) (hD.w3.l 0 (by decide)) (by rw [hn]; exact vm_en_n hcn hn2)) ⟨_, _, rfl, rfl, _, 2, _, (hD.w3.l 0 (by decide)), rfl, rfl, rfl⟩ (Nat.le_of_ble_eq_true rfl) ⟨Nat.le_of_ble_eq_true rfl, Nat.le_of_ble_eq_true rfl⟩ ⟨Nat.le_of_ble_eq_true rfl, Nat.le_of_ble_eq_true rfl⟩ ?_
  show vm_J _ _ _ (105, (0, 0), [.ref 0, .int 3, .int (nI c), .ref (75 + 25 + 3 * 0), .ref (75 + 17 + 2 * 0)], [.int 1]) (G, I, F) _ _
  refine vm_J.go vm_q147 (k := 1) (hs := []) (f' := (bif vm_ic .eq 1 0 then 121 else 108, (0, 0), [.ref 0, .int 3, .int (nI c), .ref (75 + 25 + 3 * 0), .ref (75 + 17 + 2 * 0)], [])) (h' := (G, I, F)) (hs' := []) rfl rfl ?_
  refine vm_J.bF (by decide) ?_
  refine vm_J.go vm_q147 (k := 2) (hs := []) (f' := (110, (0, 0), [.ref 0, .int 3, .int (nI c), .ref (75 + 25 + 3 * 0), .ref (75 + 17 + 2 * 0)], [.int (nI c), .ref (75 + 25 + 3 * 0)])) (h' := (G, I, F)) (hs' := []) rfl rfl ?_
  refine vm_J.call vm_q147 (Z := vm_M24) (n := 1) (k := 0) (mi := 24) (pc := 110) (en := (110, .invokevirtual 198, 3, [24, 658, 0], .null)) rfl trivial rfl rfl vm_z24 (av := [.ref (75 + 25 + 3 * 0), .int (nI c)]) (rest := []) (m_Pal_isLocked_y (o := 75 + 25 + 3 * 0) (a := 75 + 26 + 3 * 0) (b := 75 + 27 + 3 * 0) (j := c) (hD.w3.l 0 (by decide)) (hD.w3.k 0 (by decide)) (by omega) hlk) ⟨_, _, rfl, rfl, _, 2, _, (hD.w3.l 0 (by decide)), rfl, rfl, rfl⟩ (Nat.le_of_ble_eq_true rfl) ⟨Nat.le_of_ble_eq_true rfl, Nat.le_of_ble_eq_true rfl⟩ ⟨Nat.le_of_ble_eq_true rfl, Nat.le_of_ble_eq_true rfl⟩ ?_
  show vm_J _ _ _ (113, (0, 0), [.ref 0, .int 3, .int (nI c), .ref (75 + 25 + 3 * 0), .ref (75 + 17 + 2 * 0)], [.int 1]) (G, I, F) _ _
  refine vm_J.go vm_q147 (k := 1) (hs := []) (f' := (bif vm_ic .ne 1 0 then 121 else 116, (0, 0), [.ref 0, .int 3, .int (nI c), .ref (75 + 25 + 3 * 0), .ref (75 + 17 + 2 * 0)], [])) (h' := (G, I, F)) (hs' := []) rfl rfl ?_
  refine vm_J.bT (by decide) ?_
  exact vm_J.end vm_q147 (en := (121, .return_, 1, [], .null)) rfl rfl vm_rV (Nat.zero_le _) (Nat.zero_le _) rfl
set_option maxHeartbeats 4000000 in
set_option maxRecDepth 20000 in
/-- DitherDesk.followRow -/
theorem c_gr3_xw {l : Launch} {X : vm_Cx} {G : List vm_Sh} {I : Nat → Nat → Int32} {F : Nat → Nat → UInt32} {c : Nat} {n : Nat} {w : Nat} (hD : vm_isD G) (hw : I (75 + 17 + 2 * 0) 0 = nI w) (hw2 : w ≤ 12) (hw0 : 0 < w) (hn : I (75 + 25 + 3 * 0) 0 = nI n) (hn2 : n ≤ 16) (hcn : n ≤ c) (hc16 : c < 16) : vm_K l X vm_M147 [.ref 0, .int 3, .int (nI c)] (G, I, F) (none) (G, I, F) := by
  refine vm_K.mk (by decide) (Nat.le_of_ble_eq_true rfl) ?_
  show vm_J _ _ _ (0, (0, 0), [.ref 0, .int 3, .int (nI c), .retAddr 0, .retAddr 0], []) _ _ _
  refine vm_J.go vm_q147 (k := 3) (hs := []) (f' := (bif vm_ic .eq 3 1 then 10 else 5, (0, 0), [.ref 0, .int 3, .int (nI c), .retAddr 0, .retAddr 0], [])) (h' := (G, I, F)) (hs' := []) rfl rfl ?_
  refine vm_J.bF (by decide) ?_
  refine vm_J.go vm_q147 (k := 3) (hs := []) (f' := (bif vm_ic .ne 3 2 then 32 else 10, (0, 0), [.ref 0, .int 3, .int (nI c), .retAddr 0, .retAddr 0], [])) (h' := (G, I, F)) (hs' := []) rfl rfl ?_
  refine vm_J.bT (by decide) ?_
  refine vm_J.go vm_q147 (k := 4) (hs := [(12, 9, [.ref 1, .ref 38, .ref 75, .ref 112, .ref 132, .ref 135, .ref 139, .int 0, .int 0])]) (f' := (bif vm_ic .ne 3 0 then 44 else 40, (0, 0), [.ref 0, .int 3, .int (nI c), .retAddr 0, .retAddr 0], [.ref 75])) (h' := (G, I, F)) (hs' := []) rfl (vm_b2 rfl (vm_b2 (vm_b2 (vm_hG hD.d) rfl) (vm_b2 rfl (vm_b2 rfl rfl)))) ?_
  refine vm_J.bT (by decide) ?_
  refine vm_J.go vm_q147 (k := 1) (hs := []) (f' := (45, (0, 0), [.ref 0, .int 3, .int (nI c), .retAddr 0, .retAddr 0], [.int 0, .ref 75])) (h' := (G, I, F)) (hs' := []) rfl rfl ?_
  refine vm_J.call vm_q147 (Z := vm_M93) (n := 1) (k := 0) (mi := 93) (pc := 45) (en := (45, .invokevirtual 172, 3, [93, 619, 0], .null)) rfl trivial rfl rfl vm_z93 (av := [.ref 75, .int 0]) (rest := []) (m_pal_n (B := 75) (p := 0) hD.w3 (by omega)) ⟨_, _, rfl, rfl, _, 9, _, hD.w3.w, rfl, rfl, rfl⟩ (Nat.le_of_ble_eq_true rfl) ⟨Nat.le_of_ble_eq_true rfl, Nat.le_of_ble_eq_true rfl⟩ ⟨Nat.le_of_ble_eq_true rfl, Nat.le_of_ble_eq_true rfl⟩ ?_
  show vm_J _ _ _ (48, (0, 0), [.ref 0, .int 3, .int (nI c), .retAddr 0, .retAddr 0], [.ref (75 + 25 + 3 * 0)]) (G, I, F) _ _
  refine vm_J.go vm_q147 (k := 4) (hs := [(12, 9, [.ref 1, .ref 38, .ref 75, .ref 112, .ref 132, .ref 135, .ref 139, .int 0, .int 0])]) (f' := (54, (0, 0), [.ref 0, .int 3, .int (nI c), .ref (75 + 25 + 3 * 0), .retAddr 0], [.int 0, .ref 75])) (h' := (G, I, F)) (hs' := []) rfl (vm_b2 rfl (vm_b2 rfl (vm_b2 (vm_b2 (vm_hG hD.d) rfl) (vm_b2 rfl rfl)))) ?_
  refine vm_J.call vm_q147 (Z := vm_M92) (n := 1) (k := 0) (mi := 92) (pc := 54) (en := (54, .invokevirtual 70, 3, [92, 438, 0], .null)) rfl trivial rfl rfl vm_z92 (av := [.ref 75, .int 0]) (rest := []) (m_picAt_y (B := 75) (p := 0) hD.w3 (by omega) (vm_pv hw hw0 hw2)) ⟨_, _, rfl, rfl, _, 9, _, hD.w3.w, rfl, rfl, rfl⟩ (Nat.le_of_ble_eq_true rfl) ⟨Nat.le_of_ble_eq_true rfl, Nat.le_of_ble_eq_true rfl⟩ ⟨Nat.le_of_ble_eq_true rfl, Nat.le_of_ble_eq_true rfl⟩ ?_
  show vm_J _ _ _ (57, (0, 0), [.ref 0, .int 3, .int (nI c), .ref (75 + 25 + 3 * 0), .retAddr 0], [.ref (75 + 17 + 2 * 0)]) (G, I, F) _ _
  refine vm_J.go vm_q147 (k := 3) (hs := []) (f' := (bif vm_ic .ne 3 0 then 91 else 63, (0, 0), [.ref 0, .int 3, .int (nI c), .ref (75 + 25 + 3 * 0), .ref (75 + 17 + 2 * 0)], [])) (h' := (G, I, F)) (hs' := []) rfl rfl ?_
  refine vm_J.bT (by decide) ?_
  refine vm_J.go vm_q147 (k := 3) (hs := []) (f' := (bif vm_ic .ne 3 3 then 121 else 96, (0, 0), [.ref 0, .int 3, .int (nI c), .ref (75 + 25 + 3 * 0), .ref (75 + 17 + 2 * 0)], [])) (h' := (G, I, F)) (hs' := []) rfl rfl ?_
  refine vm_J.bF (by decide) ?_
  refine vm_J.go vm_q147 (k := 4) (hs := []) (f' := (102, (0, 0), [.ref 0, .int 3, .int (nI c), .ref (75 + 25 + 3 * 0), .ref (75 + 17 + 2 * 0)], [.int (nI c), .ref (75 + 25 + 3 * 0)])) (h' := (G, I, F)) (hs' := []) rfl rfl ?_
  refine vm_J.call vm_q147 (Z := vm_M21) (n := 1) (k := 0) (mi := 21) (pc := 102) (en := (102, .invokevirtual 192, 3, [21, 645, 0], .null)) rfl trivial rfl rfl vm_z21 (av := [.ref (75 + 25 + 3 * 0), .int (nI c)]) (rest := []) (m_Pal_has_n (o := 75 + 25 + 3 * 0) (a := 75 + 26 + 3 * 0) (b := 75 + 27 + 3 * 0) (e := nI c) (hD.w3.l 0 (by decide)) (by rw [hn]; exact (fun z_ => vm_nle1 hcn (by omega) z_.2))) ⟨_, _, rfl, rfl, _, 2, _, (hD.w3.l 0 (by decide)), rfl, rfl, rfl⟩ (Nat.le_of_ble_eq_true rfl) ⟨Nat.le_of_ble_eq_true rfl, Nat.le_of_ble_eq_true rfl⟩ ⟨Nat.le_of_ble_eq_true rfl, Nat.le_of_ble_eq_true rfl⟩ ?_
  show vm_J _ _ _ (105, (0, 0), [.ref 0, .int 3, .int (nI c), .ref (75 + 25 + 3 * 0), .ref (75 + 17 + 2 * 0)], [.int 0]) (G, I, F) _ _
  refine vm_J.go vm_q147 (k := 1) (hs := []) (f' := (bif vm_ic .eq 0 0 then 121 else 108, (0, 0), [.ref 0, .int 3, .int (nI c), .ref (75 + 25 + 3 * 0), .ref (75 + 17 + 2 * 0)], [])) (h' := (G, I, F)) (hs' := []) rfl rfl ?_
  refine vm_J.bT (by decide) ?_
  exact vm_J.end vm_q147 (en := (121, .return_, 1, [], .null)) rfl rfl vm_rV (Nat.zero_le _) (Nat.zero_le _) rfl
set_option maxHeartbeats 4000000 in
set_option maxRecDepth 20000 in
/-- DitherDesk.followRow -/
theorem c_gr3_ym {l : Launch} {X : vm_Cx} {G : List vm_Sh} {I : Nat → Nat → Int32} {F : Nat → Nat → UInt32} {c : Nat} {n : Nat} {w : Nat} (hD : vm_isD G) (hw : I (75 + 17 + 2 * 0) 0 = nI w) (hw2 : w ≤ 12) (hw0 : w = 0) (hn : I (75 + 25 + 3 * 0) 0 = nI n) (hn2 : n ≤ 16) (hcn : c < n) (hlk : ¬ I (75 + 27 + 3 * 0) c = 1) : vm_K l X vm_M147 [.ref 0, .int 3, .int (nI c)] (G, I, F) (none) (G, (vm_up (vm_rm I (75 + 26 + 3 * 0) (75 + 27 + 3 * 0) c (n - 1 - c)) (75 + 25 + 3 * 0) 0 (nI (n - 1))), F) := by
  refine vm_K.mk (by decide) (Nat.le_of_ble_eq_true rfl) ?_
  show vm_J _ _ _ (0, (0, 0), [.ref 0, .int 3, .int (nI c), .retAddr 0, .retAddr 0], []) _ _ _
  refine vm_J.go vm_q147 (k := 3) (hs := []) (f' := (bif vm_ic .eq 3 1 then 10 else 5, (0, 0), [.ref 0, .int 3, .int (nI c), .retAddr 0, .retAddr 0], [])) (h' := (G, I, F)) (hs' := []) rfl rfl ?_
  refine vm_J.bF (by decide) ?_
  refine vm_J.go vm_q147 (k := 3) (hs := []) (f' := (bif vm_ic .ne 3 2 then 32 else 10, (0, 0), [.ref 0, .int 3, .int (nI c), .retAddr 0, .retAddr 0], [])) (h' := (G, I, F)) (hs' := []) rfl rfl ?_
  refine vm_J.bT (by decide) ?_
  refine vm_J.go vm_q147 (k := 4) (hs := [(12, 9, [.ref 1, .ref 38, .ref 75, .ref 112, .ref 132, .ref 135, .ref 139, .int 0, .int 0])]) (f' := (bif vm_ic .ne 3 0 then 44 else 40, (0, 0), [.ref 0, .int 3, .int (nI c), .retAddr 0, .retAddr 0], [.ref 75])) (h' := (G, I, F)) (hs' := []) rfl (vm_b2 rfl (vm_b2 (vm_b2 (vm_hG hD.d) rfl) (vm_b2 rfl (vm_b2 rfl rfl)))) ?_
  refine vm_J.bT (by decide) ?_
  refine vm_J.go vm_q147 (k := 1) (hs := []) (f' := (45, (0, 0), [.ref 0, .int 3, .int (nI c), .retAddr 0, .retAddr 0], [.int 0, .ref 75])) (h' := (G, I, F)) (hs' := []) rfl rfl ?_
  refine vm_J.call vm_q147 (Z := vm_M93) (n := 1) (k := 0) (mi := 93) (pc := 45) (en := (45, .invokevirtual 172, 3, [93, 619, 0], .null)) rfl trivial rfl rfl vm_z93 (av := [.ref 75, .int 0]) (rest := []) (m_pal_n (B := 75) (p := 0) hD.w3 (by omega)) ⟨_, _, rfl, rfl, _, 9, _, hD.w3.w, rfl, rfl, rfl⟩ (Nat.le_of_ble_eq_true rfl) ⟨Nat.le_of_ble_eq_true rfl, Nat.le_of_ble_eq_true rfl⟩ ⟨Nat.le_of_ble_eq_true rfl, Nat.le_of_ble_eq_true rfl⟩ ?_
  show vm_J _ _ _ (48, (0, 0), [.ref 0, .int 3, .int (nI c), .retAddr 0, .retAddr 0], [.ref (75 + 25 + 3 * 0)]) (G, I, F) _ _
  refine vm_J.go vm_q147 (k := 4) (hs := [(12, 9, [.ref 1, .ref 38, .ref 75, .ref 112, .ref 132, .ref 135, .ref 139, .int 0, .int 0])]) (f' := (54, (0, 0), [.ref 0, .int 3, .int (nI c), .ref (75 + 25 + 3 * 0), .retAddr 0], [.int 0, .ref 75])) (h' := (G, I, F)) (hs' := []) rfl (vm_b2 rfl (vm_b2 rfl (vm_b2 (vm_b2 (vm_hG hD.d) rfl) (vm_b2 rfl rfl)))) ?_
  refine vm_J.call vm_q147 (Z := vm_M92) (n := 1) (k := 0) (mi := 92) (pc := 54) (en := (54, .invokevirtual 70, 3, [92, 438, 0], .null)) rfl trivial rfl rfl vm_z92 (av := [.ref 75, .int 0]) (rest := []) (m_picAt_n (B := 75) (p := 0) hD.w3 (by omega) (vm_pz hw hw0)) ⟨_, _, rfl, rfl, _, 9, _, hD.w3.w, rfl, rfl, rfl⟩ (Nat.le_of_ble_eq_true rfl) ⟨Nat.le_of_ble_eq_true rfl, Nat.le_of_ble_eq_true rfl⟩ ⟨Nat.le_of_ble_eq_true rfl, Nat.le_of_ble_eq_true rfl⟩ ?_
  show vm_J _ _ _ (57, (0, 0), [.ref 0, .int 3, .int (nI c), .ref (75 + 25 + 3 * 0), .retAddr 0], [.null]) (G, I, F) _ _
  refine vm_J.go vm_q147 (k := 3) (hs := []) (f' := (bif vm_ic .ne 3 0 then 91 else 63, (0, 0), [.ref 0, .int 3, .int (nI c), .ref (75 + 25 + 3 * 0), .null], [])) (h' := (G, I, F)) (hs' := []) rfl rfl ?_
  refine vm_J.bT (by decide) ?_
  refine vm_J.go vm_q147 (k := 3) (hs := []) (f' := (bif vm_ic .ne 3 3 then 121 else 96, (0, 0), [.ref 0, .int 3, .int (nI c), .ref (75 + 25 + 3 * 0), .null], [])) (h' := (G, I, F)) (hs' := []) rfl rfl ?_
  refine vm_J.bF (by decide) ?_
  refine vm_J.go vm_q147 (k := 4) (hs := []) (f' := (102, (0, 0), [.ref 0, .int 3, .int (nI c), .ref (75 + 25 + 3 * 0), .null], [.int (nI c), .ref (75 + 25 + 3 * 0)])) (h' := (G, I, F)) (hs' := []) rfl rfl ?_
  refine vm_J.call vm_q147 (Z := vm_M21) (n := 1) (k := 0) (mi := 21) (pc := 102) (en := (102, .invokevirtual 192, 3, [21, 645, 0], .null)) rfl trivial rfl rfl vm_z21 (av := [.ref (75 + 25 + 3 * 0), .int (nI c)]) (rest := []) (m_Pal_has_y (o := 75 + 25 + 3 * 0) (a := 75 + 26 + 3 * 0) (b := 75 + 27 + 3 * 0) (e := nI c) (hD.w3.l 0 (by decide)) (by rw [hn]; exact vm_en_n hcn hn2)) ⟨_, _, rfl, rfl, _, 2, _, (hD.w3.l 0 (by decide)), rfl, rfl, rfl⟩ (Nat.le_of_ble_eq_true rfl) ⟨Nat.le_of_ble_eq_true rfl, Nat.le_of_ble_eq_true rfl⟩ ⟨Nat.le_of_ble_eq_true rfl, Nat.le_of_ble_eq_true rfl⟩ ?_
  show vm_J _ _ _ (105, (0, 0), [.ref 0, .int 3, .int (nI c), .ref (75 + 25 + 3 * 0), .null], [.int 1]) (G, I, F) _ _
  refine vm_J.go vm_q147 (k := 1) (hs := []) (f' := (bif vm_ic .eq 1 0 then 121 else 108, (0, 0), [.ref 0, .int 3, .int (nI c), .ref (75 + 25 + 3 * 0), .null], [])) (h' := (G, I, F)) (hs' := []) rfl rfl ?_
  refine vm_J.bF (by decide) ?_
  refine vm_J.go vm_q147 (k := 2) (hs := []) (f' := (110, (0, 0), [.ref 0, .int 3, .int (nI c), .ref (75 + 25 + 3 * 0), .null], [.int (nI c), .ref (75 + 25 + 3 * 0)])) (h' := (G, I, F)) (hs' := []) rfl rfl ?_
  refine vm_J.call vm_q147 (Z := vm_M24) (n := 1) (k := 0) (mi := 24) (pc := 110) (en := (110, .invokevirtual 198, 3, [24, 658, 0], .null)) rfl trivial rfl rfl vm_z24 (av := [.ref (75 + 25 + 3 * 0), .int (nI c)]) (rest := []) (m_Pal_isLocked_n (o := 75 + 25 + 3 * 0) (a := 75 + 26 + 3 * 0) (b := 75 + 27 + 3 * 0) (j := c) (hD.w3.l 0 (by decide)) (hD.w3.k 0 (by decide)) (by omega) hlk) ⟨_, _, rfl, rfl, _, 2, _, (hD.w3.l 0 (by decide)), rfl, rfl, rfl⟩ (Nat.le_of_ble_eq_true rfl) ⟨Nat.le_of_ble_eq_true rfl, Nat.le_of_ble_eq_true rfl⟩ ⟨Nat.le_of_ble_eq_true rfl, Nat.le_of_ble_eq_true rfl⟩ ?_
  show vm_J _ _ _ (113, (0, 0), [.ref 0, .int 3, .int (nI c), .ref (75 + 25 + 3 * 0), .null], [.int 0]) (G, I, F) _ _
  refine vm_J.go vm_q147 (k := 1) (hs := []) (f' := (bif vm_ic .ne 0 0 then 121 else 116, (0, 0), [.ref 0, .int 3, .int (nI c), .ref (75 + 25 + 3 * 0), .null], [])) (h' := (G, I, F)) (hs' := []) rfl rfl ?_
  refine vm_J.bF (by decide) ?_
  refine vm_J.go vm_q147 (k := 2) (hs := []) (f' := (118, (0, 0), [.ref 0, .int 3, .int (nI c), .ref (75 + 25 + 3 * 0), .null], [.int (nI c), .ref (75 + 25 + 3 * 0)])) (h' := (G, I, F)) (hs' := []) rfl rfl ?_
  refine vm_J.call vm_q147 (Z := vm_M28) (n := 1) (k := 0) (mi := 28) (pc := 118) (en := (118, .invokevirtual 195, 3, [28, 650, 0], .null)) rfl trivial rfl rfl vm_z28 (av := [.ref (75 + 25 + 3 * 0), .int (nI c)]) (rest := []) (m_Pal_remove (o := 75 + 25 + 3 * 0) (a := 75 + 26 + 3 * 0) (b := 75 + 27 + 3 * 0) (n := n) (e := c) (hD.w3.l 0 (by decide)) (hD.w3.c 0 (by decide)) (hD.w3.k 0 (by decide)) hn (by omega) (by omega) (by omega) (by omega) (by omega)) ⟨_, _, rfl, rfl, _, 2, _, (hD.w3.l 0 (by decide)), rfl, rfl, rfl⟩ (Nat.le_of_ble_eq_true rfl) ⟨Nat.le_of_ble_eq_true rfl, Nat.le_of_ble_eq_true rfl⟩ ⟨Nat.le_of_ble_eq_true rfl, Nat.le_of_ble_eq_true rfl⟩ ?_
  show vm_J _ _ _ (121, (0, 0), [.ref 0, .int 3, .int (nI c), .ref (75 + 25 + 3 * 0), .null], []) (G, (vm_up (vm_rm I (75 + 26 + 3 * 0) (75 + 27 + 3 * 0) c (n - 1 - c)) (75 + 25 + 3 * 0) 0 (nI (n - 1))), F) _ _
  exact vm_J.end vm_q147 (en := (121, .return_, 1, [], .null)) rfl rfl vm_rV (Nat.zero_le _) (Nat.zero_le _) rfl
set_option maxHeartbeats 4000000 in
set_option maxRecDepth 20000 in
/-- DitherDesk.followRow -/
theorem c_gr3_lm {l : Launch} {X : vm_Cx} {G : List vm_Sh} {I : Nat → Nat → Int32} {F : Nat → Nat → UInt32} {c : Nat} {n : Nat} {w : Nat} (hD : vm_isD G) (hw : I (75 + 17 + 2 * 0) 0 = nI w) (hw2 : w ≤ 12) (hw0 : w = 0) (hn : I (75 + 25 + 3 * 0) 0 = nI n) (hn2 : n ≤ 16) (hcn : c < n) (hlk : I (75 + 27 + 3 * 0) c = 1) : vm_K l X vm_M147 [.ref 0, .int 3, .int (nI c)] (G, I, F) (none) (G, I, F) := by
  refine vm_K.mk (by decide) (Nat.le_of_ble_eq_true rfl) ?_
  show vm_J _ _ _ (0, (0, 0), [.ref 0, .int 3, .int (nI c), .retAddr 0, .retAddr 0], []) _ _ _
  refine vm_J.go vm_q147 (k := 3) (hs := []) (f' := (bif vm_ic .eq 3 1 then 10 else 5, (0, 0), [.ref 0, .int 3, .int (nI c), .retAddr 0, .retAddr 0], [])) (h' := (G, I, F)) (hs' := []) rfl rfl ?_
  refine vm_J.bF (by decide) ?_
  refine vm_J.go vm_q147 (k := 3) (hs := []) (f' := (bif vm_ic .ne 3 2 then 32 else 10, (0, 0), [.ref 0, .int 3, .int (nI c), .retAddr 0, .retAddr 0], [])) (h' := (G, I, F)) (hs' := []) rfl rfl ?_
  refine vm_J.bT (by decide) ?_
  refine vm_J.go vm_q147 (k := 4) (hs := [(12, 9, [.ref 1, .ref 38, .ref 75, .ref 112, .ref 132, .ref 135, .ref 139, .int 0, .int 0])]) (f' := (bif vm_ic .ne 3 0 then 44 else 40, (0, 0), [.ref 0, .int 3, .int (nI c), .retAddr 0, .retAddr 0], [.ref 75])) (h' := (G, I, F)) (hs' := []) rfl (vm_b2 rfl (vm_b2 (vm_b2 (vm_hG hD.d) rfl) (vm_b2 rfl (vm_b2 rfl rfl)))) ?_
  refine vm_J.bT (by decide) ?_
  refine vm_J.go vm_q147 (k := 1) (hs := []) (f' := (45, (0, 0), [.ref 0, .int 3, .int (nI c), .retAddr 0, .retAddr 0], [.int 0, .ref 75])) (h' := (G, I, F)) (hs' := []) rfl rfl ?_
  refine vm_J.call vm_q147 (Z := vm_M93) (n := 1) (k := 0) (mi := 93) (pc := 45) (en := (45, .invokevirtual 172, 3, [93, 619, 0], .null)) rfl trivial rfl rfl vm_z93 (av := [.ref 75, .int 0]) (rest := []) (m_pal_n (B := 75) (p := 0) hD.w3 (by omega)) ⟨_, _, rfl, rfl, _, 9, _, hD.w3.w, rfl, rfl, rfl⟩ (Nat.le_of_ble_eq_true rfl) ⟨Nat.le_of_ble_eq_true rfl, Nat.le_of_ble_eq_true rfl⟩ ⟨Nat.le_of_ble_eq_true rfl, Nat.le_of_ble_eq_true rfl⟩ ?_
  show vm_J _ _ _ (48, (0, 0), [.ref 0, .int 3, .int (nI c), .retAddr 0, .retAddr 0], [.ref (75 + 25 + 3 * 0)]) (G, I, F) _ _
  refine vm_J.go vm_q147 (k := 4) (hs := [(12, 9, [.ref 1, .ref 38, .ref 75, .ref 112, .ref 132, .ref 135, .ref 139, .int 0, .int 0])]) (f' := (54, (0, 0), [.ref 0, .int 3, .int (nI c), .ref (75 + 25 + 3 * 0), .retAddr 0], [.int 0, .ref 75])) (h' := (G, I, F)) (hs' := []) rfl (vm_b2 rfl (vm_b2 rfl (vm_b2 (vm_b2 (vm_hG hD.d) rfl) (vm_b2 rfl rfl)))) ?_
  refine vm_J.call vm_q147 (Z := vm_M92) (n := 1) (k := 0) (mi := 92) (pc := 54) (en := (54, .invokevirtual 70, 3, [92, 438, 0], .null)) rfl trivial rfl rfl vm_z92 (av := [.ref 75, .int 0]) (rest := []) (m_picAt_n (B := 75) (p := 0) hD.w3 (by omega) (vm_pz hw hw0)) ⟨_, _, rfl, rfl, _, 9, _, hD.w3.w, rfl, rfl, rfl⟩ (Nat.le_of_ble_eq_true rfl) ⟨Nat.le_of_ble_eq_true rfl, Nat.le_of_ble_eq_true rfl⟩ ⟨Nat.le_of_ble_eq_true rfl, Nat.le_of_ble_eq_true rfl⟩ ?_
  show vm_J _ _ _ (57, (0, 0), [.ref 0, .int 3, .int (nI c), .ref (75 + 25 + 3 * 0), .retAddr 0], [.null]) (G, I, F) _ _
  refine vm_J.go vm_q147 (k := 3) (hs := []) (f' := (bif vm_ic .ne 3 0 then 91 else 63, (0, 0), [.ref 0, .int 3, .int (nI c), .ref (75 + 25 + 3 * 0), .null], [])) (h' := (G, I, F)) (hs' := []) rfl rfl ?_
  refine vm_J.bT (by decide) ?_
  refine vm_J.go vm_q147 (k := 3) (hs := []) (f' := (bif vm_ic .ne 3 3 then 121 else 96, (0, 0), [.ref 0, .int 3, .int (nI c), .ref (75 + 25 + 3 * 0), .null], [])) (h' := (G, I, F)) (hs' := []) rfl rfl ?_
  refine vm_J.bF (by decide) ?_
  refine vm_J.go vm_q147 (k := 4) (hs := []) (f' := (102, (0, 0), [.ref 0, .int 3, .int (nI c), .ref (75 + 25 + 3 * 0), .null], [.int (nI c), .ref (75 + 25 + 3 * 0)])) (h' := (G, I, F)) (hs' := []) rfl rfl ?_
  refine vm_J.call vm_q147 (Z := vm_M21) (n := 1) (k := 0) (mi := 21) (pc := 102) (en := (102, .invokevirtual 192, 3, [21, 645, 0], .null)) rfl trivial rfl rfl vm_z21 (av := [.ref (75 + 25 + 3 * 0), .int (nI c)]) (rest := []) (m_Pal_has_y (o := 75 + 25 + 3 * 0) (a := 75 + 26 + 3 * 0) (b := 75 + 27 + 3 * 0) (e := nI c) (hD.w3.l 0 (by decide)) (by rw [hn]; exact vm_en_n hcn hn2)) ⟨_, _, rfl, rfl, _, 2, _, (hD.w3.l 0 (by decide)), rfl, rfl, rfl⟩ (Nat.le_of_ble_eq_true rfl) ⟨Nat.le_of_ble_eq_true rfl, Nat.le_of_ble_eq_true rfl⟩ ⟨Nat.le_of_ble_eq_true rfl, Nat.le_of_ble_eq_true rfl⟩ ?_
  show vm_J _ _ _ (105, (0, 0), [.ref 0, .int 3, .int (nI c), .ref (75 + 25 + 3 * 0), .null], [.int 1]) (G, I, F) _ _
  refine vm_J.go vm_q147 (k := 1) (hs := []) (f' := (bif vm_ic .eq 1 0 then 121 else 108, (0, 0), [.ref 0, .int 3, .int (nI c), .ref (75 + 25 + 3 * 0), .null], [])) (h' := (G, I, F)) (hs' := []) rfl rfl ?_
  refine vm_J.bF (by decide) ?_
  refine vm_J.go vm_q147 (k := 2) (hs := []) (f' := (110, (0, 0), [.ref 0, .int 3, .int (nI c), .ref (75 + 25 + 3 * 0), .null], [.int (nI c), .ref (75 + 25 + 3 * 0)])) (h' := (G, I, F)) (hs' := []) rfl rfl ?_
  refine vm_J.call vm_q147 (Z := vm_M24) (n := 1) (k := 0) (mi := 24) (pc := 110) (en := (110, .invokevirtual 198, 3, [24, 658, 0], .null)) rfl trivial rfl rfl vm_z24 (av := [.ref (75 + 25 + 3 * 0), .int (nI c)]) (rest := []) (m_Pal_isLocked_y (o := 75 + 25 + 3 * 0) (a := 75 + 26 + 3 * 0) (b := 75 + 27 + 3 * 0) (j := c) (hD.w3.l 0 (by decide)) (hD.w3.k 0 (by decide)) (by omega) hlk) ⟨_, _, rfl, rfl, _, 2, _, (hD.w3.l 0 (by decide)), rfl, rfl, rfl⟩ (Nat.le_of_ble_eq_true rfl) ⟨Nat.le_of_ble_eq_true rfl, Nat.le_of_ble_eq_true rfl⟩ ⟨Nat.le_of_ble_eq_true rfl, Nat.le_of_ble_eq_true rfl⟩ ?_
  show vm_J _ _ _ (113, (0, 0), [.ref 0, .int 3, .int (nI c), .ref (75 + 25 + 3 * 0), .null], [.int 1]) (G, I, F) _ _
  refine vm_J.go vm_q147 (k := 1) (hs := []) (f' := (bif vm_ic .ne 1 0 then 121 else 116, (0, 0), [.ref 0, .int 3, .int (nI c), .ref (75 + 25 + 3 * 0), .null], [])) (h' := (G, I, F)) (hs' := []) rfl rfl ?_
  refine vm_J.bT (by decide) ?_
  exact vm_J.end vm_q147 (en := (121, .return_, 1, [], .null)) rfl rfl vm_rV (Nat.zero_le _) (Nat.zero_le _) rfl
set_option maxHeartbeats 4000000 in
set_option maxRecDepth 20000 in
/-- DitherDesk.followRow -/
theorem c_gr3_xm {l : Launch} {X : vm_Cx} {G : List vm_Sh} {I : Nat → Nat → Int32} {F : Nat → Nat → UInt32} {c : Nat} {n : Nat} {w : Nat} (hD : vm_isD G) (hw : I (75 + 17 + 2 * 0) 0 = nI w) (hw2 : w ≤ 12) (hw0 : w = 0) (hn : I (75 + 25 + 3 * 0) 0 = nI n) (hn2 : n ≤ 16) (hcn : n ≤ c) (hc16 : c < 16) : vm_K l X vm_M147 [.ref 0, .int 3, .int (nI c)] (G, I, F) (none) (G, I, F) := by
  refine vm_K.mk (by decide) (Nat.le_of_ble_eq_true rfl) ?_
  show vm_J _ _ _ (0, (0, 0), [.ref 0, .int 3, .int (nI c), .retAddr 0, .retAddr 0], []) _ _ _
  refine vm_J.go vm_q147 (k := 3) (hs := []) (f' := (bif vm_ic .eq 3 1 then 10 else 5, (0, 0), [.ref 0, .int 3, .int (nI c), .retAddr 0, .retAddr 0], [])) (h' := (G, I, F)) (hs' := []) rfl rfl ?_
  refine vm_J.bF (by decide) ?_
  refine vm_J.go vm_q147 (k := 3) (hs := []) (f' := (bif vm_ic .ne 3 2 then 32 else 10, (0, 0), [.ref 0, .int 3, .int (nI c), .retAddr 0, .retAddr 0], [])) (h' := (G, I, F)) (hs' := []) rfl rfl ?_
  refine vm_J.bT (by decide) ?_
  refine vm_J.go vm_q147 (k := 4) (hs := [(12, 9, [.ref 1, .ref 38, .ref 75, .ref 112, .ref 132, .ref 135, .ref 139, .int 0, .int 0])]) (f' := (bif vm_ic .ne 3 0 then 44 else 40, (0, 0), [.ref 0, .int 3, .int (nI c), .retAddr 0, .retAddr 0], [.ref 75])) (h' := (G, I, F)) (hs' := []) rfl (vm_b2 rfl (vm_b2 (vm_b2 (vm_hG hD.d) rfl) (vm_b2 rfl (vm_b2 rfl rfl)))) ?_
  refine vm_J.bT (by decide) ?_
  refine vm_J.go vm_q147 (k := 1) (hs := []) (f' := (45, (0, 0), [.ref 0, .int 3, .int (nI c), .retAddr 0, .retAddr 0], [.int 0, .ref 75])) (h' := (G, I, F)) (hs' := []) rfl rfl ?_
  refine vm_J.call vm_q147 (Z := vm_M93) (n := 1) (k := 0) (mi := 93) (pc := 45) (en := (45, .invokevirtual 172, 3, [93, 619, 0], .null)) rfl trivial rfl rfl vm_z93 (av := [.ref 75, .int 0]) (rest := []) (m_pal_n (B := 75) (p := 0) hD.w3 (by omega)) ⟨_, _, rfl, rfl, _, 9, _, hD.w3.w, rfl, rfl, rfl⟩ (Nat.le_of_ble_eq_true rfl) ⟨Nat.le_of_ble_eq_true rfl, Nat.le_of_ble_eq_true rfl⟩ ⟨Nat.le_of_ble_eq_true rfl, Nat.le_of_ble_eq_true rfl⟩ ?_
  show vm_J _ _ _ (48, (0, 0), [.ref 0, .int 3, .int (nI c), .retAddr 0, .retAddr 0], [.ref (75 + 25 + 3 * 0)]) (G, I, F) _ _
  refine vm_J.go vm_q147 (k := 4) (hs := [(12, 9, [.ref 1, .ref 38, .ref 75, .ref 112, .ref 132, .ref 135, .ref 139, .int 0, .int 0])]) (f' := (54, (0, 0), [.ref 0, .int 3, .int (nI c), .ref (75 + 25 + 3 * 0), .retAddr 0], [.int 0, .ref 75])) (h' := (G, I, F)) (hs' := []) rfl (vm_b2 rfl (vm_b2 rfl (vm_b2 (vm_b2 (vm_hG hD.d) rfl) (vm_b2 rfl rfl)))) ?_
  refine vm_J.call vm_q147 (Z := vm_M92) (n := 1) (k := 0) (mi := 92) (pc := 54) (en := (54, .invokevirtual 70, 3, [92, 438, 0], .null)) rfl trivial rfl rfl vm_z92 (av := [.ref 75, .int 0]) (rest := []) (m_picAt_n (B := 75) (p := 0) hD.w3 (by omega) (vm_pz hw hw0)) ⟨_, _, rfl, rfl, _, 9, _, hD.w3.w, rfl, rfl, rfl⟩ (Nat.le_of_ble_eq_true rfl) ⟨Nat.le_of_ble_eq_true rfl, Nat.le_of_ble_eq_true rfl⟩ ⟨Nat.le_of_ble_eq_true rfl, Nat.le_of_ble_eq_true rfl⟩ ?_
  show vm_J _ _ _ (57, (0, 0), [.ref 0, .int 3, .int (nI c), .ref (75 + 25 + 3 * 0), .retAddr 0], [.null]) (G, I, F) _ _
  refine vm_J.go vm_q147 (k := 3) (hs := []) (f' := (bif vm_ic .ne 3 0 then 91 else 63, (0, 0), [.ref 0, .int 3, .int (nI c), .ref (75 + 25 + 3 * 0), .null], [])) (h' := (G, I, F)) (hs' := []) rfl rfl ?_
  refine vm_J.bT (by decide) ?_
  refine vm_J.go vm_q147 (k := 3) (hs := []) (f' := (bif vm_ic .ne 3 3 then 121 else 96, (0, 0), [.ref 0, .int 3, .int (nI c), .ref (75 + 25 + 3 * 0), .null], [])) (h' := (G, I, F)) (hs' := []) rfl rfl ?_
  refine vm_J.bF (by decide) ?_
  refine vm_J.go vm_q147 (k := 4) (hs := []) (f' := (102, (0, 0), [.ref 0, .int 3, .int (nI c), .ref (75 + 25 + 3 * 0), .null], [.int (nI c), .ref (75 + 25 + 3 * 0)])) (h' := (G, I, F)) (hs' := []) rfl rfl ?_
  refine vm_J.call vm_q147 (Z := vm_M21) (n := 1) (k := 0) (mi := 21) (pc := 102) (en := (102, .invokevirtual 192, 3, [21, 645, 0], .null)) rfl trivial rfl rfl vm_z21 (av := [.ref (75 + 25 + 3 * 0), .int (nI c)]) (rest := []) (m_Pal_has_n (o := 75 + 25 + 3 * 0) (a := 75 + 26 + 3 * 0) (b := 75 + 27 + 3 * 0) (e := nI c) (hD.w3.l 0 (by decide)) (by rw [hn]; exact (fun z_ => vm_nle1 hcn (by omega) z_.2))) ⟨_, _, rfl, rfl, _, 2, _, (hD.w3.l 0 (by decide)), rfl, rfl, rfl⟩ (Nat.le_of_ble_eq_true rfl) ⟨Nat.le_of_ble_eq_true rfl, Nat.le_of_ble_eq_true rfl⟩ ⟨Nat.le_of_ble_eq_true rfl, Nat.le_of_ble_eq_true rfl⟩ ?_
  show vm_J _ _ _ (105, (0, 0), [.ref 0, .int 3, .int (nI c), .ref (75 + 25 + 3 * 0), .null], [.int 0]) (G, I, F) _ _
  refine vm_J.go vm_q147 (k := 1) (hs := []) (f' := (bif vm_ic .eq 0 0 then 121 else 108, (0, 0), [.ref 0, .int 3, .int (nI c), .ref (75 + 25 + 3 * 0), .null], [])) (h' := (G, I, F)) (hs' := []) rfl rfl ?_
  refine vm_J.bT (by decide) ?_
  exact vm_J.end vm_q147 (en := (121, .return_, 1, [], .null)) rfl rfl vm_rV (Nat.zero_le _) (Nat.zero_le _) rfl
