set_option maxHeartbeats 4000000 in
set_option maxRecDepth 20000 in
/-- DitherDesk.copyInts  -/
theorem m_copySelf {l : Launch} {X : vm_Cx} {G : List vm_Sh} {I : Nat → Nat → Int32} {F : Nat → Nat → UInt32} {a n : Nat} (ha : G[a]? = some (0, n, [])) (hn : n < 2147483648) : vm_K l X vm_M156 [.ref a, .ref a] (G, I, F) (none) (G, I, F) := by
  refine vm_K.mk (by decide) (Nat.le_of_ble_eq_true rfl) ?_
  show vm_J _ _ _ (0, (0, 0), [.ref a, .ref a, .retAddr 0], []) _ _ _
  refine vm_J.go vm_q156 (k := 2) (hs := []) (f' := (2, (0, 0), [.ref a, .ref a, .int 0], [])) (h' := (G, I, F)) (hs' := []) rfl rfl ?_
  refine vm_J.cnt n (fun j => (2, (0, 0), [.ref a, .ref a, .int (nI j)], [])) (fun j => (G, I, F)) (fun _ => True) rfl rfl trivial (fun j hj pj ij => ?_) (fun pj => ?_)
  · show vm_J _ _ _ (2, (0, 0), [.ref a, .ref a, .int (nI j)], []) (G, I, F) _ _
    refine vm_J.go vm_q156 (k := 4) (hs := [(0, n, [])]) (f' := (bif vm_ic .ge (nI j) (nI n) then 26 else 8, (0, 0), [.ref a, .ref a, .int (nI j)], [])) (h' := (G, I, F)) (hs' := []) rfl (vm_b2 rfl (vm_b2 rfl (vm_b2 (vm_hG ha) (vm_b2 rfl rfl)))) ?_
    refine vm_J.br (fun c1 => ?_) (fun c1 => ?_)
    · have c1 := vm_ge_t (a := j) (b := n) (by omega) (by omega) c1
      exact (show False by omega).elim
    · have c1 := vm_ge_f (a := j) (b := n) (by omega) (by omega) c1
      refine vm_J.go vm_q156 (k := 4) (hs := [(0, n, [])]) (f' := (bif vm_ic .ge (nI j) (nI n) then 26 else 14, (0, 0), [.ref a, .ref a, .int (nI j)], [])) (h' := (G, I, F)) (hs' := []) rfl (vm_b2 rfl (vm_b2 rfl (vm_b2 (vm_hG ha) (vm_b2 rfl rfl)))) ?_
      refine vm_J.br (fun c2 => ?_) (fun c2 => ?_)
      · have c2 := vm_ge_t (a := j) (b := n) (by omega) (by omega) c2
        exact (show False by omega).elim
      · have c2 := vm_ge_f (a := j) (b := n) (by omega) (by omega) c2
        refine vm_J.go vm_q156 (k := 8) (hs := [(0, n, []), (0, n, [])]) (f' := (2, (0, 0), [.ref a, .ref a, .int ((nI j) + 1)], [])) (h' := (G, (vm_up I a ((nI j).toNatClampNeg) (I a (nI j).toNatClampNeg)), F)) (hs' := []) rfl (vm_b2 rfl (vm_b2 rfl (vm_b2 rfl (vm_b2 rfl (vm_b2 (vm_b2 (vm_hG ha) (vm_in_e (j := j) (n := n) rfl (by omega) (by omega))) (vm_b2 (vm_b2 (vm_hG ha) (vm_in_e (j := j) (n := n) rfl (by omega) (by omega))) (vm_b2 rfl (vm_b2 rfl rfl)))))))) ?_
        rw [vm_ix_e (j := j) rfl (by omega), ((vm_pa (rfl : nI j = nI j) (rfl : (1 : Int32) = nI 1)) : (nI j) + 1 = nI (j + 1))]
        rw [vm_up_self _ _ _ rfl]
        exact ij trivial
  · show vm_J _ _ _ (2, (0, 0), [.ref a, .ref a, .int (nI n)], []) (G, I, F) _ _
    refine vm_J.go vm_q156 (k := 4) (hs := [(0, n, [])]) (f' := (bif vm_ic .ge (nI n) (nI n) then 26 else 8, (0, 0), [.ref a, .ref a, .int (nI n)], [])) (h' := (G, I, F)) (hs' := []) rfl (vm_b2 rfl (vm_b2 rfl (vm_b2 (vm_hG ha) (vm_b2 rfl rfl)))) ?_
    refine vm_J.br (fun c3 => ?_) (fun c3 => ?_)
    · have c3 := vm_ge_t (a := n) (b := n) (by omega) (by omega) c3
      exact vm_J.end vm_q156 (en := (26, .return_, 1, [], .null)) rfl rfl vm_rV (Nat.zero_le _) (Nat.zero_le _) rfl
    · have c3 := vm_ge_f (a := n) (b := n) (by omega) (by omega) c3
      exact (show False by omega).elim
set_option maxHeartbeats 4000000 in
set_option maxRecDepth 20000 in
/-- DitherDesk$Tape.become  -/
theorem m_Tape_self {l : Launch} {X : vm_Cx} {G : List vm_Sh} {I : Nat → Nat → Int32} {F : Nat → Nat → UInt32} {o a : Nat} (ho : G[o]? = some (10, 3, [.int 0, .int 0, .ref a])) (ha : G[a]? = some (0, 150, [])) : vm_K l X vm_M89 [.ref o, .ref o] (G, I, F) (none) (G, I, F) := by
  refine vm_K.mk (by decide) (Nat.le_of_ble_eq_true rfl) ?_
  show vm_J _ _ _ (0, (0, 0), [.ref o, .ref o], []) _ _ _
  refine vm_J.go vm_q89 (k := 12) (hs := [(10, 3, [.int 0, .int 0, .ref a]), (10, 3, [.int 0, .int 0, .ref a]), (10, 3, [.int 0, .int 0, .ref a]), (10, 3, [.int 0, .int 0, .ref a]), (10, 3, [.int 0, .int 0, .ref a]), (10, 3, [.int 0, .int 0, .ref a])]) (f' := (24, (0, 0), [.ref o, .ref o], [.ref a, .ref a])) (h' := (G, (vm_up (vm_up I o 0 (I o 0)) o 1 ((vm_up I o 0 (I o 0)) o 1)), F)) (hs' := []) rfl (vm_b2 rfl (vm_b2 rfl (vm_b2 (vm_b2 (vm_hG ho) rfl) (vm_b2 (vm_b2 (vm_b2 (vm_hG ho) rfl) rfl) (vm_b2 rfl (vm_b2 rfl (vm_b2 (vm_b2 (vm_hG ho) rfl) (vm_b2 (vm_b2 (vm_b2 (vm_hG ho) rfl) rfl) (vm_b2 rfl (vm_b2 (vm_b2 (vm_hG ho) rfl) (vm_b2 rfl (vm_b2 (vm_b2 (vm_hG ho) rfl) rfl)))))))))))) ?_
  refine vm_J.call vm_q89 (Z := vm_M156) (n := 2) (k := 1) (mi := 156) (pc := 24) (en := (24, .invokestatic 26, 3, [156, 1103, 1], .null)) rfl trivial rfl rfl vm_z156 (av := [.ref a, .ref a]) (rest := []) (m_copySelf ha (by decide)) rfl (Nat.le_of_ble_eq_true rfl) ⟨Nat.le_of_ble_eq_true rfl, Nat.le_of_ble_eq_true rfl⟩ ⟨Nat.le_of_ble_eq_true rfl, Nat.le_of_ble_eq_true rfl⟩ ?_
  show vm_J _ _ _ (27, (0, 0), [.ref o, .ref o], []) (G, (vm_up (vm_up I o 0 (I o 0)) o 1 ((vm_up I o 0 (I o 0)) o 1)), F) _ _
  exact vm_J.end vm_q89 (en := (27, .return_, 1, [], .null)) rfl rfl vm_rV (Nat.zero_le _) (Nat.zero_le _) (by rw [vm_up_self _ _ _ rfl, vm_up_self _ _ _ rfl])
set_option maxHeartbeats 4000000 in
set_option maxRecDepth 20000 in
/-- DitherDesk.tape -/
theorem c_tape_x {l : Launch} {X : vm_Cx} {G : List vm_Sh} {I : Nat → Nat → Int32} {F : Nat → Nat → UInt32} {q : Int32} {a : Int32} {b : Int32} (hD : vm_isD G) (hx : ¬ (0 ≤ q ∧ q ≤ 5)) : vm_K l X vm_M140 [.ref 0, .int q, .int a, .int b] (G, I, F) (some (.int (-1))) (G, I, F) := by
  refine vm_K.mk (by decide) (Nat.le_of_ble_eq_true rfl) ?_
  show vm_J _ _ _ (0, (0, 0), [.ref 0, .int q, .int a, .int b, .retAddr 0], []) _ _ _
  refine vm_J.go vm_q140 (k := 2) (hs := []) (f' := (2, (0, 0), [.ref 0, .int q, .int a, .int b, .retAddr 0], [.int q, .ref 0])) (h' := (G, I, F)) (hs' := []) rfl rfl ?_
  refine vm_J.call vm_q140 (Z := vm_M145) (n := 1) (k := 0) (mi := 145) (pc := 2) (en := (2, .invokevirtual 365, 3, [145, 1049, 0], .null)) rfl trivial rfl rfl vm_z145 (av := [.ref 0, .int q]) (rest := []) (m_tapeAt_x (o := 0) (n := 1) (v := 38) (t := 75) (cu := 112) (rf := 132) (rd := 135) (T := 139) (p := q) hD.d hD.t (vm_nx hx)) ⟨_, _, rfl, rfl, _, 10, _, hD.d, rfl, rfl, rfl⟩ (Nat.le_of_ble_eq_true rfl) ⟨Nat.le_of_ble_eq_true rfl, Nat.le_of_ble_eq_true rfl⟩ ⟨Nat.le_of_ble_eq_true rfl, Nat.le_of_ble_eq_true rfl⟩ ?_
  show vm_J _ _ _ (5, (0, 0), [.ref 0, .int q, .int a, .int b, .retAddr 0], [.null]) (G, I, F) _ _
  refine vm_J.go vm_q140 (k := 4) (hs := []) (f' := (13, (0, 0), [.ref 0, .int q, .int a, .int b, .null], [.int (-1)])) (h' := (G, I, F)) (hs' := []) rfl rfl ?_
  exact vm_J.end vm_q140 (en := (13, .ireturn, 1, [], .null)) rfl rfl vm_rI (Nat.zero_le _) (Nat.zero_le _) rfl
set_option maxHeartbeats 4000000 in
set_option maxRecDepth 20000 in
/-- DitherDesk.tape -/
theorem c_tape_b {l : Launch} {X : vm_Cx} {G : List vm_Sh} {I : Nat → Nat → Int32} {F : Nat → Nat → UInt32} {t : Nat} {a : Int32} {b : Int32} (hD : vm_isD G) (ht : t < 6) (ha : ¬ (-1 ≤ a ∧ a ≤ 3)) : vm_K l X vm_M140 [.ref 0, .int (nI t), .int a, .int b] (G, I, F) (some (.int (-2))) (G, I, F) := by
  refine vm_K.mk (by decide) (Nat.le_of_ble_eq_true rfl) ?_
  show vm_J _ _ _ (0, (0, 0), [.ref 0, .int (nI t), .int a, .int b, .retAddr 0], []) _ _ _
  refine vm_J.go vm_q140 (k := 2) (hs := []) (f' := (2, (0, 0), [.ref 0, .int (nI t), .int a, .int b, .retAddr 0], [.int (nI t), .ref 0])) (h' := (G, I, F)) (hs' := []) rfl rfl ?_
  refine vm_J.call vm_q140 (Z := vm_M145) (n := 1) (k := 0) (mi := 145) (pc := 2) (en := (2, .invokevirtual 365, 3, [145, 1049, 0], .null)) rfl trivial rfl rfl vm_z145 (av := [.ref 0, .int (nI t)]) (rest := []) (m_tapeAt_n (o := 0) (n := 1) (v := 38) (t := 75) (cu := 112) (rf := 132) (rd := 135) (T := 139) (p := t) hD.d hD.t (by omega)) ⟨_, _, rfl, rfl, _, 10, _, hD.d, rfl, rfl, rfl⟩ (Nat.le_of_ble_eq_true rfl) ⟨Nat.le_of_ble_eq_true rfl, Nat.le_of_ble_eq_true rfl⟩ ⟨Nat.le_of_ble_eq_true rfl, Nat.le_of_ble_eq_true rfl⟩ ?_
  show vm_J _ _ _ (5, (0, 0), [.ref 0, .int (nI t), .int a, .int b, .retAddr 0], [.ref (139 + 1 + 2 * t)]) (G, I, F) _ _
  refine vm_J.go vm_q140 (k := 6) (hs := []) (f' := (17, (0, 0), [.ref 0, .int (nI t), .int a, .int b, .ref (139 + 1 + 2 * t)], [.int 3, .int (-1), .int a])) (h' := (G, I, F)) (hs' := []) rfl rfl ?_
  refine vm_J.call vm_q140 (Z := vm_M151) (n := 3) (k := 1) (mi := 151) (pc := 17) (en := (17, .invokestatic 56, 3, [151, 420, 0], .null)) rfl trivial rfl rfl vm_z151 (av := [.int a, .int (-1), .int 3]) (rest := []) (m_isWithin_n (v := a) (a := (-1)) (b := 3) ha) rfl (Nat.le_of_ble_eq_true rfl) ⟨Nat.le_of_ble_eq_true rfl, Nat.le_of_ble_eq_true rfl⟩ ⟨Nat.le_of_ble_eq_true rfl, Nat.le_of_ble_eq_true rfl⟩ ?_
  show vm_J _ _ _ (20, (0, 0), [.ref 0, .int (nI t), .int a, .int b, .ref (139 + 1 + 2 * t)], [.int 0]) (G, I, F) _ _
  refine vm_J.go vm_q140 (k := 1) (hs := []) (f' := (bif vm_ic .eq 0 0 then 35 else 23, (0, 0), [.ref 0, .int (nI t), .int a, .int b, .ref (139 + 1 + 2 * t)], [])) (h' := (G, I, F)) (hs' := []) rfl rfl ?_
  refine vm_J.bT (by decide) ?_
  refine vm_J.go vm_q140 (k := 1) (hs := []) (f' := (37, (0, 0), [.ref 0, .int (nI t), .int a, .int b, .ref (139 + 1 + 2 * t)], [.int (-2)])) (h' := (G, I, F)) (hs' := []) rfl rfl ?_
  exact vm_J.end vm_q140 (en := (37, .ireturn, 1, [], .null)) rfl rfl vm_rI (Nat.zero_le _) (Nat.zero_le _) rfl
set_option maxHeartbeats 4000000 in
set_option maxRecDepth 20000 in
/-- DitherDesk.tape -/
theorem c_tape_e {l : Launch} {X : vm_Cx} {G : List vm_Sh} {I : Nat → Nat → Int32} {F : Nat → Nat → UInt32} {t : Nat} {b : Int32} (hD : vm_isD G) (ht : t < 6) : vm_K l X vm_M140 [.ref 0, .int (nI t), .int (-1), .int b] (G, I, F) (some (.int 1)) (G, (vm_zc 0 (vm_up (vm_up I (139 + 1 + 2 * t) 0 (-1)) (139 + 1 + 2 * t) 1 0) (139 + 2 + 2 * t) 150), F) := by
  refine vm_K.mk (by decide) (Nat.le_of_ble_eq_true rfl) ?_
  show vm_J _ _ _ (0, (0, 0), [.ref 0, .int (nI t), .int (-1), .int b, .retAddr 0], []) _ _ _
  refine vm_J.go vm_q140 (k := 2) (hs := []) (f' := (2, (0, 0), [.ref 0, .int (nI t), .int (-1), .int b, .retAddr 0], [.int (nI t), .ref 0])) (h' := (G, I, F)) (hs' := []) rfl rfl ?_
  refine vm_J.call vm_q140 (Z := vm_M145) (n := 1) (k := 0) (mi := 145) (pc := 2) (en := (2, .invokevirtual 365, 3, [145, 1049, 0], .null)) rfl trivial rfl rfl vm_z145 (av := [.ref 0, .int (nI t)]) (rest := []) (m_tapeAt_n (o := 0) (n := 1) (v := 38) (t := 75) (cu := 112) (rf := 132) (rd := 135) (T := 139) (p := t) hD.d hD.t (by omega)) ⟨_, _, rfl, rfl, _, 10, _, hD.d, rfl, rfl, rfl⟩ (Nat.le_of_ble_eq_true rfl) ⟨Nat.le_of_ble_eq_true rfl, Nat.le_of_ble_eq_true rfl⟩ ⟨Nat.le_of_ble_eq_true rfl, Nat.le_of_ble_eq_true rfl⟩ ?_
  show vm_J _ _ _ (5, (0, 0), [.ref 0, .int (nI t), .int (-1), .int b, .retAddr 0], [.ref (139 + 1 + 2 * t)]) (G, I, F) _ _
  refine vm_J.go vm_q140 (k := 6) (hs := []) (f' := (17, (0, 0), [.ref 0, .int (nI t), .int (-1), .int b, .ref (139 + 1 + 2 * t)], [.int 3, .int (-1), .int (-1)])) (h' := (G, I, F)) (hs' := []) rfl rfl ?_
  refine vm_J.call vm_q140 (Z := vm_M151) (n := 3) (k := 1) (mi := 151) (pc := 17) (en := (17, .invokestatic 56, 3, [151, 420, 0], .null)) rfl trivial rfl rfl vm_z151 (av := [.int (-1), .int (-1), .int 3]) (rest := []) (m_isWithin_y (v := (-1)) (a := (-1)) (b := 3) (by decide)) rfl (Nat.le_of_ble_eq_true rfl) ⟨Nat.le_of_ble_eq_true rfl, Nat.le_of_ble_eq_true rfl⟩ ⟨Nat.le_of_ble_eq_true rfl, Nat.le_of_ble_eq_true rfl⟩ ?_
  show vm_J _ _ _ (20, (0, 0), [.ref 0, .int (nI t), .int (-1), .int b, .ref (139 + 1 + 2 * t)], [.int 1]) (G, I, F) _ _
  refine vm_J.go vm_q140 (k := 1) (hs := []) (f' := (bif vm_ic .eq 1 0 then 35 else 23, (0, 0), [.ref 0, .int (nI t), .int (-1), .int b, .ref (139 + 1 + 2 * t)], [])) (h' := (G, I, F)) (hs' := []) rfl rfl ?_
  refine vm_J.bF (by decide) ?_
  refine vm_J.go vm_q140 (k := 3) (hs := []) (f' := (bif vm_ic .eq (-1) (-1) then 38 else 28, (0, 0), [.ref 0, .int (nI t), .int (-1), .int b, .ref (139 + 1 + 2 * t)], [])) (h' := (G, I, F)) (hs' := []) rfl rfl ?_
  refine vm_J.bT (by decide) ?_
  refine vm_J.go vm_q140 (k := 3) (hs := []) (f' := (bif vm_ic .eq (-1) (-1) then 50 else 43, (0, 0), [.ref 0, .int (nI t), .int (-1), .int b, .ref (139 + 1 + 2 * t)], [])) (h' := (G, I, F)) (hs' := []) rfl rfl ?_
  refine vm_J.bT (by decide) ?_
  refine vm_J.go vm_q140 (k := 5) (hs := []) (f' := (bif vm_ic .ne (-1) (-1) then 62 else 58, (0, 0), [.ref 0, .int (nI t), .int (-1), .int b, .ref (139 + 1 + 2 * t)], [.int (-1), .ref (139 + 1 + 2 * t)])) (h' := (G, I, F)) (hs' := []) rfl rfl ?_
  refine vm_J.bF (by decide) ?_
  refine vm_J.go vm_q140 (k := 2) (hs := []) (f' := (63, (0, 0), [.ref 0, .int (nI t), .int (-1), .int b, .ref (139 + 1 + 2 * t)], [.int 0, .int (-1), .ref (139 + 1 + 2 * t)])) (h' := (G, I, F)) (hs' := []) rfl rfl ?_
  refine vm_J.call vm_q140 (Z := vm_M88) (n := 2) (k := 0) (mi := 88) (pc := 63) (en := (63, .invokevirtual 387, 3, [88, 1079, 0], .null)) rfl trivial rfl rfl vm_z88 (av := [.ref (139 + 1 + 2 * t), .int (-1), .int 0]) (rest := []) (m_Tape_zero (o := 139 + 1 + 2 * t) (a := 139 + 2 + 2 * t) (x := -1) (y := 0) (hD.t.2.1 t ht) (hD.t.2.2 t ht)) ⟨_, _, rfl, rfl, _, 8, _, (hD.t.2.1 t ht), rfl, rfl, rfl⟩ (Nat.le_of_ble_eq_true rfl) ⟨Nat.le_of_ble_eq_true rfl, Nat.le_of_ble_eq_true rfl⟩ ⟨Nat.le_of_ble_eq_true rfl, Nat.le_of_ble_eq_true rfl⟩ ?_
  show vm_J _ _ _ (66, (0, 0), [.ref 0, .int (nI t), .int (-1), .int b, .ref (139 + 1 + 2 * t)], []) (G, (vm_zc 0 (vm_up (vm_up I (139 + 1 + 2 * t) 0 (-1)) (139 + 1 + 2 * t) 1 0) (139 + 2 + 2 * t) 150), F) _ _
  refine vm_J.go vm_q140 (k := 1) (hs := []) (f' := (67, (0, 0), [.ref 0, .int (nI t), .int (-1), .int b, .ref (139 + 1 + 2 * t)], [.int 1])) (h' := (G, (vm_zc 0 (vm_up (vm_up I (139 + 1 + 2 * t) 0 (-1)) (139 + 1 + 2 * t) 1 0) (139 + 2 + 2 * t) 150), F)) (hs' := []) rfl rfl ?_
  exact vm_J.end vm_q140 (en := (67, .ireturn, 1, [], .null)) rfl rfl vm_rI (Nat.zero_le _) (Nat.zero_le _) rfl
set_option maxHeartbeats 4000000 in
set_option maxRecDepth 20000 in
/-- DitherDesk.tape -/
theorem c_tape_0 {l : Launch} {X : vm_Cx} {G : List vm_Sh} {I : Nat → Nat → Int32} {F : Nat → Nat → UInt32} {t : Nat} {m : Nat} (hD : vm_isD G) (ht : t < 6) (hm : m ≤ 150) : vm_K l X vm_M140 [.ref 0, .int (nI t), .int 0, .int (nI m)] (G, I, F) (some (.int 1)) (G, (vm_zc 0 (vm_up (vm_up I (139 + 1 + 2 * t) 0 0) (139 + 1 + 2 * t) 1 (nI m)) (139 + 2 + 2 * t) 150), F) := by
  refine vm_K.mk (by decide) (Nat.le_of_ble_eq_true rfl) ?_
  show vm_J _ _ _ (0, (0, 0), [.ref 0, .int (nI t), .int 0, .int (nI m), .retAddr 0], []) _ _ _
  refine vm_J.go vm_q140 (k := 2) (hs := []) (f' := (2, (0, 0), [.ref 0, .int (nI t), .int 0, .int (nI m), .retAddr 0], [.int (nI t), .ref 0])) (h' := (G, I, F)) (hs' := []) rfl rfl ?_
  refine vm_J.call vm_q140 (Z := vm_M145) (n := 1) (k := 0) (mi := 145) (pc := 2) (en := (2, .invokevirtual 365, 3, [145, 1049, 0], .null)) rfl trivial rfl rfl vm_z145 (av := [.ref 0, .int (nI t)]) (rest := []) (m_tapeAt_n (o := 0) (n := 1) (v := 38) (t := 75) (cu := 112) (rf := 132) (rd := 135) (T := 139) (p := t) hD.d hD.t (by omega)) ⟨_, _, rfl, rfl, _, 10, _, hD.d, rfl, rfl, rfl⟩ (Nat.le_of_ble_eq_true rfl) ⟨Nat.le_of_ble_eq_true rfl, Nat.le_of_ble_eq_true rfl⟩ ⟨Nat.le_of_ble_eq_true rfl, Nat.le_of_ble_eq_true rfl⟩ ?_
  show vm_J _ _ _ (5, (0, 0), [.ref 0, .int (nI t), .int 0, .int (nI m), .retAddr 0], [.ref (139 + 1 + 2 * t)]) (G, I, F) _ _
  refine vm_J.go vm_q140 (k := 6) (hs := []) (f' := (17, (0, 0), [.ref 0, .int (nI t), .int 0, .int (nI m), .ref (139 + 1 + 2 * t)], [.int 3, .int (-1), .int 0])) (h' := (G, I, F)) (hs' := []) rfl rfl ?_
  refine vm_J.call vm_q140 (Z := vm_M151) (n := 3) (k := 1) (mi := 151) (pc := 17) (en := (17, .invokestatic 56, 3, [151, 420, 0], .null)) rfl trivial rfl rfl vm_z151 (av := [.int 0, .int (-1), .int 3]) (rest := []) (m_isWithin_y (v := 0) (a := (-1)) (b := 3) (by decide)) rfl (Nat.le_of_ble_eq_true rfl) ⟨Nat.le_of_ble_eq_true rfl, Nat.le_of_ble_eq_true rfl⟩ ⟨Nat.le_of_ble_eq_true rfl, Nat.le_of_ble_eq_true rfl⟩ ?_
  show vm_J _ _ _ (20, (0, 0), [.ref 0, .int (nI t), .int 0, .int (nI m), .ref (139 + 1 + 2 * t)], [.int 1]) (G, I, F) _ _
  refine vm_J.go vm_q140 (k := 1) (hs := []) (f' := (bif vm_ic .eq 1 0 then 35 else 23, (0, 0), [.ref 0, .int (nI t), .int 0, .int (nI m), .ref (139 + 1 + 2 * t)], [])) (h' := (G, I, F)) (hs' := []) rfl rfl ?_
  refine vm_J.bF (by decide) ?_
  refine vm_J.go vm_q140 (k := 3) (hs := []) (f' := (bif vm_ic .eq 0 (-1) then 38 else 28, (0, 0), [.ref 0, .int (nI t), .int 0, .int (nI m), .ref (139 + 1 + 2 * t)], [])) (h' := (G, I, F)) (hs' := []) rfl rfl ?_
  refine vm_J.bF (by decide) ?_
  refine vm_J.go vm_q140 (k := 3) (hs := []) (f' := (bif vm_ic .le (nI m) 150 then 38 else 35, (0, 0), [.ref 0, .int (nI t), .int 0, .int (nI m), .ref (139 + 1 + 2 * t)], [])) (h' := (G, I, F)) (hs' := []) rfl rfl ?_
  refine vm_J.br (fun c1 => ?_) (fun c1 => ?_)
  · have c1 := vm_le_t (a := m) (b := 150) (by omega) (by omega) c1
    refine vm_J.go vm_q140 (k := 3) (hs := []) (f' := (bif vm_ic .eq 0 (-1) then 50 else 43, (0, 0), [.ref 0, .int (nI t), .int 0, .int (nI m), .ref (139 + 1 + 2 * t)], [])) (h' := (G, I, F)) (hs' := []) rfl rfl ?_
    refine vm_J.bF (by decide) ?_
    refine vm_J.go vm_q140 (k := 2) (hs := []) (f' := (bif vm_ic .ge (nI m) 0 then 50 else 47, (0, 0), [.ref 0, .int (nI t), .int 0, .int (nI m), .ref (139 + 1 + 2 * t)], [])) (h' := (G, I, F)) (hs' := []) rfl rfl ?_
    refine vm_J.br (fun c2 => ?_) (fun c2 => ?_)
    · have c2 := vm_ge_t (a := m) (b := 0) (by omega) (by omega) c2
      refine vm_J.go vm_q140 (k := 5) (hs := []) (f' := (bif vm_ic .ne 0 (-1) then 62 else 58, (0, 0), [.ref 0, .int (nI t), .int 0, .int (nI m), .ref (139 + 1 + 2 * t)], [.int 0, .ref (139 + 1 + 2 * t)])) (h' := (G, I, F)) (hs' := []) rfl rfl ?_
      refine vm_J.bT (by decide) ?_
      refine vm_J.go vm_q140 (k := 1) (hs := []) (f' := (63, (0, 0), [.ref 0, .int (nI t), .int 0, .int (nI m), .ref (139 + 1 + 2 * t)], [.int (nI m), .int 0, .ref (139 + 1 + 2 * t)])) (h' := (G, I, F)) (hs' := []) rfl rfl ?_
      refine vm_J.call vm_q140 (Z := vm_M88) (n := 2) (k := 0) (mi := 88) (pc := 63) (en := (63, .invokevirtual 387, 3, [88, 1079, 0], .null)) rfl trivial rfl rfl vm_z88 (av := [.ref (139 + 1 + 2 * t), .int 0, .int (nI m)]) (rest := []) (m_Tape_zero (o := 139 + 1 + 2 * t) (a := 139 + 2 + 2 * t) (x := 0) (y := nI m) (hD.t.2.1 t ht) (hD.t.2.2 t ht)) ⟨_, _, rfl, rfl, _, 8, _, (hD.t.2.1 t ht), rfl, rfl, rfl⟩ (Nat.le_of_ble_eq_true rfl) ⟨Nat.le_of_ble_eq_true rfl, Nat.le_of_ble_eq_true rfl⟩ ⟨Nat.le_of_ble_eq_true rfl, Nat.le_of_ble_eq_true rfl⟩ ?_
      show vm_J _ _ _ (66, (0, 0), [.ref 0, .int (nI t), .int 0, .int (nI m), .ref (139 + 1 + 2 * t)], []) (G, (vm_zc 0 (vm_up (vm_up I (139 + 1 + 2 * t) 0 0) (139 + 1 + 2 * t) 1 (nI m)) (139 + 2 + 2 * t) 150), F) _ _
      refine vm_J.go vm_q140 (k := 1) (hs := []) (f' := (67, (0, 0), [.ref 0, .int (nI t), .int 0, .int (nI m), .ref (139 + 1 + 2 * t)], [.int 1])) (h' := (G, (vm_zc 0 (vm_up (vm_up I (139 + 1 + 2 * t) 0 0) (139 + 1 + 2 * t) 1 (nI m)) (139 + 2 + 2 * t) 150), F)) (hs' := []) rfl rfl ?_
      exact vm_J.end vm_q140 (en := (67, .ireturn, 1, [], .null)) rfl rfl vm_rI (Nat.zero_le _) (Nat.zero_le _) rfl
    · have c2 := vm_ge_f (a := m) (b := 0) (by omega) (by omega) c2
      exact (show False by omega).elim
  · have c1 := vm_le_f (a := m) (b := 150) (by omega) (by omega) c1
    exact (show False by omega).elim
set_option maxHeartbeats 4000000 in
set_option maxRecDepth 20000 in
/-- DitherDesk.tape -/
theorem c_tape_g0 {l : Launch} {X : vm_Cx} {G : List vm_Sh} {I : Nat → Nat → Int32} {F : Nat → Nat → UInt32} {t : Nat} {b : Int32} (hD : vm_isD G) (ht : t < 6) (hb : ¬ b ≤ 150) : vm_K l X vm_M140 [.ref 0, .int (nI t), .int 0, .int b] (G, I, F) (some (.int (-2))) (G, I, F) := by
  refine vm_K.mk (by decide) (Nat.le_of_ble_eq_true rfl) ?_
  show vm_J _ _ _ (0, (0, 0), [.ref 0, .int (nI t), .int 0, .int b, .retAddr 0], []) _ _ _
  refine vm_J.go vm_q140 (k := 2) (hs := []) (f' := (2, (0, 0), [.ref 0, .int (nI t), .int 0, .int b, .retAddr 0], [.int (nI t), .ref 0])) (h' := (G, I, F)) (hs' := []) rfl rfl ?_
  refine vm_J.call vm_q140 (Z := vm_M145) (n := 1) (k := 0) (mi := 145) (pc := 2) (en := (2, .invokevirtual 365, 3, [145, 1049, 0], .null)) rfl trivial rfl rfl vm_z145 (av := [.ref 0, .int (nI t)]) (rest := []) (m_tapeAt_n (o := 0) (n := 1) (v := 38) (t := 75) (cu := 112) (rf := 132) (rd := 135) (T := 139) (p := t) hD.d hD.t (by omega)) ⟨_, _, rfl, rfl, _, 10, _, hD.d, rfl, rfl, rfl⟩ (Nat.le_of_ble_eq_true rfl) ⟨Nat.le_of_ble_eq_true rfl, Nat.le_of_ble_eq_true rfl⟩ ⟨Nat.le_of_ble_eq_true rfl, Nat.le_of_ble_eq_true rfl⟩ ?_
  show vm_J _ _ _ (5, (0, 0), [.ref 0, .int (nI t), .int 0, .int b, .retAddr 0], [.ref (139 + 1 + 2 * t)]) (G, I, F) _ _
  refine vm_J.go vm_q140 (k := 6) (hs := []) (f' := (17, (0, 0), [.ref 0, .int (nI t), .int 0, .int b, .ref (139 + 1 + 2 * t)], [.int 3, .int (-1), .int 0])) (h' := (G, I, F)) (hs' := []) rfl rfl ?_
  refine vm_J.call vm_q140 (Z := vm_M151) (n := 3) (k := 1) (mi := 151) (pc := 17) (en := (17, .invokestatic 56, 3, [151, 420, 0], .null)) rfl trivial rfl rfl vm_z151 (av := [.int 0, .int (-1), .int 3]) (rest := []) (m_isWithin_y (v := 0) (a := (-1)) (b := 3) (by decide)) rfl (Nat.le_of_ble_eq_true rfl) ⟨Nat.le_of_ble_eq_true rfl, Nat.le_of_ble_eq_true rfl⟩ ⟨Nat.le_of_ble_eq_true rfl, Nat.le_of_ble_eq_true rfl⟩ ?_
  show vm_J _ _ _ (20, (0, 0), [.ref 0, .int (nI t), .int 0, .int b, .ref (139 + 1 + 2 * t)], [.int 1]) (G, I, F) _ _
  refine vm_J.go vm_q140 (k := 1) (hs := []) (f' := (bif vm_ic .eq 1 0 then 35 else 23, (0, 0), [.ref 0, .int (nI t), .int 0, .int b, .ref (139 + 1 + 2 * t)], [])) (h' := (G, I, F)) (hs' := []) rfl rfl ?_
  refine vm_J.bF (by decide) ?_
  refine vm_J.go vm_q140 (k := 3) (hs := []) (f' := (bif vm_ic .eq 0 (-1) then 38 else 28, (0, 0), [.ref 0, .int (nI t), .int 0, .int b, .ref (139 + 1 + 2 * t)], [])) (h' := (G, I, F)) (hs' := []) rfl rfl ?_
  refine vm_J.bF (by decide) ?_
  refine vm_J.go vm_q140 (k := 3) (hs := []) (f' := (bif vm_ic .le b 150 then 38 else 35, (0, 0), [.ref 0, .int (nI t), .int 0, .int b, .ref (139 + 1 + 2 * t)], [])) (h' := (G, I, F)) (hs' := []) rfl rfl ?_
  refine vm_J.bF (decide_eq_false hb) ?_
  refine vm_J.go vm_q140 (k := 1) (hs := []) (f' := (37, (0, 0), [.ref 0, .int (nI t), .int 0, .int b, .ref (139 + 1 + 2 * t)], [.int (-2)])) (h' := (G, I, F)) (hs' := []) rfl rfl ?_
  exact vm_J.end vm_q140 (en := (37, .ireturn, 1, [], .null)) rfl rfl vm_rI (Nat.zero_le _) (Nat.zero_le _) rfl
set_option maxHeartbeats 4000000 in
set_option maxRecDepth 20000 in
/-- DitherDesk.tape -/
theorem c_tape_s0 {l : Launch} {X : vm_Cx} {G : List vm_Sh} {I : Nat → Nat → Int32} {F : Nat → Nat → UInt32} {t : Nat} {b : Int32} (hD : vm_isD G) (ht : t < 6) (hb : b < 0) : vm_K l X vm_M140 [.ref 0, .int (nI t), .int 0, .int b] (G, I, F) (some (.int (-14))) (G, I, F) := by
  refine vm_K.mk (by decide) (Nat.le_of_ble_eq_true rfl) ?_
  show vm_J _ _ _ (0, (0, 0), [.ref 0, .int (nI t), .int 0, .int b, .retAddr 0], []) _ _ _
  refine vm_J.go vm_q140 (k := 2) (hs := []) (f' := (2, (0, 0), [.ref 0, .int (nI t), .int 0, .int b, .retAddr 0], [.int (nI t), .ref 0])) (h' := (G, I, F)) (hs' := []) rfl rfl ?_
  refine vm_J.call vm_q140 (Z := vm_M145) (n := 1) (k := 0) (mi := 145) (pc := 2) (en := (2, .invokevirtual 365, 3, [145, 1049, 0], .null)) rfl trivial rfl rfl vm_z145 (av := [.ref 0, .int (nI t)]) (rest := []) (m_tapeAt_n (o := 0) (n := 1) (v := 38) (t := 75) (cu := 112) (rf := 132) (rd := 135) (T := 139) (p := t) hD.d hD.t (by omega)) ⟨_, _, rfl, rfl, _, 10, _, hD.d, rfl, rfl, rfl⟩ (Nat.le_of_ble_eq_true rfl) ⟨Nat.le_of_ble_eq_true rfl, Nat.le_of_ble_eq_true rfl⟩ ⟨Nat.le_of_ble_eq_true rfl, Nat.le_of_ble_eq_true rfl⟩ ?_
  show vm_J _ _ _ (5, (0, 0), [.ref 0, .int (nI t), .int 0, .int b, .retAddr 0], [.ref (139 + 1 + 2 * t)]) (G, I, F) _ _
  refine vm_J.go vm_q140 (k := 6) (hs := []) (f' := (17, (0, 0), [.ref 0, .int (nI t), .int 0, .int b, .ref (139 + 1 + 2 * t)], [.int 3, .int (-1), .int 0])) (h' := (G, I, F)) (hs' := []) rfl rfl ?_
  refine vm_J.call vm_q140 (Z := vm_M151) (n := 3) (k := 1) (mi := 151) (pc := 17) (en := (17, .invokestatic 56, 3, [151, 420, 0], .null)) rfl trivial rfl rfl vm_z151 (av := [.int 0, .int (-1), .int 3]) (rest := []) (m_isWithin_y (v := 0) (a := (-1)) (b := 3) (by decide)) rfl (Nat.le_of_ble_eq_true rfl) ⟨Nat.le_of_ble_eq_true rfl, Nat.le_of_ble_eq_true rfl⟩ ⟨Nat.le_of_ble_eq_true rfl, Nat.le_of_ble_eq_true rfl⟩ ?_
  show vm_J _ _ _ (20, (0, 0), [.ref 0, .int (nI t), .int 0, .int b, .ref (139 + 1 + 2 * t)], [.int 1]) (G, I, F) _ _
  refine vm_J.go vm_q140 (k := 1) (hs := []) (f' := (bif vm_ic .eq 1 0 then 35 else 23, (0, 0), [.ref 0, .int (nI t), .int 0, .int b, .ref (139 + 1 + 2 * t)], [])) (h' := (G, I, F)) (hs' := []) rfl rfl ?_
  refine vm_J.bF (by decide) ?_
  refine vm_J.go vm_q140 (k := 3) (hs := []) (f' := (bif vm_ic .eq 0 (-1) then 38 else 28, (0, 0), [.ref 0, .int (nI t), .int 0, .int b, .ref (139 + 1 + 2 * t)], [])) (h' := (G, I, F)) (hs' := []) rfl rfl ?_
  refine vm_J.bF (by decide) ?_
  refine vm_J.go vm_q140 (k := 3) (hs := []) (f' := (bif vm_ic .le b 150 then 38 else 35, (0, 0), [.ref 0, .int (nI t), .int 0, .int b, .ref (139 + 1 + 2 * t)], [])) (h' := (G, I, F)) (hs' := []) rfl rfl ?_
  refine vm_J.bT (decide_eq_true (vm_lt0_le hb)) ?_
  refine vm_J.go vm_q140 (k := 3) (hs := []) (f' := (bif vm_ic .eq 0 (-1) then 50 else 43, (0, 0), [.ref 0, .int (nI t), .int 0, .int b, .ref (139 + 1 + 2 * t)], [])) (h' := (G, I, F)) (hs' := []) rfl rfl ?_
  refine vm_J.bF (by decide) ?_
  refine vm_J.go vm_q140 (k := 2) (hs := []) (f' := (bif vm_ic .ge b 0 then 50 else 47, (0, 0), [.ref 0, .int (nI t), .int 0, .int b, .ref (139 + 1 + 2 * t)], [])) (h' := (G, I, F)) (hs' := []) rfl rfl ?_
  refine vm_J.bF (decide_eq_false (vm_lt_le hb)) ?_
  refine vm_J.go vm_q140 (k := 1) (hs := []) (f' := (49, (0, 0), [.ref 0, .int (nI t), .int 0, .int b, .ref (139 + 1 + 2 * t)], [.int (-14)])) (h' := (G, I, F)) (hs' := []) rfl rfl ?_
  exact vm_J.end vm_q140 (en := (49, .ireturn, 1, [], .null)) rfl rfl vm_rI (Nat.zero_le _) (Nat.zero_le _) rfl
set_option maxHeartbeats 4000000 in
set_option maxRecDepth 20000 in
/-- DitherDesk.tape -/
theorem c_tape_1 {l : Launch} {X : vm_Cx} {G : List vm_Sh} {I : Nat → Nat → Int32} {F : Nat → Nat → UInt32} {t : Nat} {m : Nat} (hD : vm_isD G) (ht : t < 6) (hm : m ≤ 150) : vm_K l X vm_M140 [.ref 0, .int (nI t), .int 1, .int (nI m)] (G, I, F) (some (.int 1)) (G, (vm_zc 0 (vm_up (vm_up I (139 + 1 + 2 * t) 0 1) (139 + 1 + 2 * t) 1 (nI m)) (139 + 2 + 2 * t) 150), F) := by
  refine vm_K.mk (by decide) (Nat.le_of_ble_eq_true rfl) ?_
  show vm_J _ _ _ (0, (0, 0), [.ref 0, .int (nI t), .int 1, .int (nI m), .retAddr 0], []) _ _ _
  refine vm_J.go vm_q140 (k := 2) (hs := []) (f' := (2, (0, 0), [.ref 0, .int (nI t), .int 1, .int (nI m), .retAddr 0], [.int (nI t), .ref 0])) (h' := (G, I, F)) (hs' := []) rfl rfl ?_
  refine vm_J.call vm_q140 (Z := vm_M145) (n := 1) (k := 0) (mi := 145) (pc := 2) (en := (2, .invokevirtual 365, 3, [145, 1049, 0], .null)) rfl trivial rfl rfl vm_z145 (av := [.ref 0, .int (nI t)]) (rest := []) (m_tapeAt_n (o := 0) (n := 1) (v := 38) (t := 75) (cu := 112) (rf := 132) (rd := 135) (T := 139) (p := t) hD.d hD.t (by omega)) ⟨_, _, rfl, rfl, _, 10, _, hD.d, rfl, rfl, rfl⟩ (Nat.le_of_ble_eq_true rfl) ⟨Nat.le_of_ble_eq_true rfl, Nat.le_of_ble_eq_true rfl⟩ ⟨Nat.le_of_ble_eq_true rfl, Nat.le_of_ble_eq_true rfl⟩ ?_
  show vm_J _ _ _ (5, (0, 0), [.ref 0, .int (nI t), .int 1, .int (nI m), .retAddr 0], [.ref (139 + 1 + 2 * t)]) (G, I, F) _ _
  refine vm_J.go vm_q140 (k := 6) (hs := []) (f' := (17, (0, 0), [.ref 0, .int (nI t), .int 1, .int (nI m), .ref (139 + 1 + 2 * t)], [.int 3, .int (-1), .int 1])) (h' := (G, I, F)) (hs' := []) rfl rfl ?_
  refine vm_J.call vm_q140 (Z := vm_M151) (n := 3) (k := 1) (mi := 151) (pc := 17) (en := (17, .invokestatic 56, 3, [151, 420, 0], .null)) rfl trivial rfl rfl vm_z151 (av := [.int 1, .int (-1), .int 3]) (rest := []) (m_isWithin_y (v := 1) (a := (-1)) (b := 3) (by decide)) rfl (Nat.le_of_ble_eq_true rfl) ⟨Nat.le_of_ble_eq_true rfl, Nat.le_of_ble_eq_true rfl⟩ ⟨Nat.le_of_ble_eq_true rfl, Nat.le_of_ble_eq_true rfl⟩ ?_
  show vm_J _ _ _ (20, (0, 0), [.ref 0, .int (nI t), .int 1, .int (nI m), .ref (139 + 1 + 2 * t)], [.int 1]) (G, I, F) _ _
  refine vm_J.go vm_q140 (k := 1) (hs := []) (f' := (bif vm_ic .eq 1 0 then 35 else 23, (0, 0), [.ref 0, .int (nI t), .int 1, .int (nI m), .ref (139 + 1 + 2 * t)], [])) (h' := (G, I, F)) (hs' := []) rfl rfl ?_
  refine vm_J.bF (by decide) ?_
  refine vm_J.go vm_q140 (k := 3) (hs := []) (f' := (bif vm_ic .eq 1 (-1) then 38 else 28, (0, 0), [.ref 0, .int (nI t), .int 1, .int (nI m), .ref (139 + 1 + 2 * t)], [])) (h' := (G, I, F)) (hs' := []) rfl rfl ?_
  refine vm_J.bF (by decide) ?_
  refine vm_J.go vm_q140 (k := 3) (hs := []) (f' := (bif vm_ic .le (nI m) 150 then 38 else 35, (0, 0), [.ref 0, .int (nI t), .int 1, .int (nI m), .ref (139 + 1 + 2 * t)], [])) (h' := (G, I, F)) (hs' := []) rfl rfl ?_
  refine vm_J.br (fun c1 => ?_) (fun c1 => ?_)
  · have c1 := vm_le_t (a := m) (b := 150) (by omega) (by omega) c1
    refine vm_J.go vm_q140 (k := 3) (hs := []) (f' := (bif vm_ic .eq 1 (-1) then 50 else 43, (0, 0), [.ref 0, .int (nI t), .int 1, .int (nI m), .ref (139 + 1 + 2 * t)], [])) (h' := (G, I, F)) (hs' := []) rfl rfl ?_
    refine vm_J.bF (by decide) ?_
    refine vm_J.go vm_q140 (k := 2) (hs := []) (f' := (bif vm_ic .ge (nI m) 0 then 50 else 47, (0, 0), [.ref 0, .int (nI t), .int 1, .int (nI m), .ref (139 + 1 + 2 * t)], [])) (h' := (G, I, F)) (hs' := []) rfl rfl ?_
    refine vm_J.br (fun c2 => ?_) (fun c2 => ?_)
    · have c2 := vm_ge_t (a := m) (b := 0) (by omega) (by omega) c2
      refine vm_J.go vm_q140 (k := 5) (hs := []) (f' := (bif vm_ic .ne 1 (-1) then 62 else 58, (0, 0), [.ref 0, .int (nI t), .int 1, .int (nI m), .ref (139 + 1 + 2 * t)], [.int 1, .ref (139 + 1 + 2 * t)])) (h' := (G, I, F)) (hs' := []) rfl rfl ?_
      refine vm_J.bT (by decide) ?_
      refine vm_J.go vm_q140 (k := 1) (hs := []) (f' := (63, (0, 0), [.ref 0, .int (nI t), .int 1, .int (nI m), .ref (139 + 1 + 2 * t)], [.int (nI m), .int 1, .ref (139 + 1 + 2 * t)])) (h' := (G, I, F)) (hs' := []) rfl rfl ?_
      refine vm_J.call vm_q140 (Z := vm_M88) (n := 2) (k := 0) (mi := 88) (pc := 63) (en := (63, .invokevirtual 387, 3, [88, 1079, 0], .null)) rfl trivial rfl rfl vm_z88 (av := [.ref (139 + 1 + 2 * t), .int 1, .int (nI m)]) (rest := []) (m_Tape_zero (o := 139 + 1 + 2 * t) (a := 139 + 2 + 2 * t) (x := 1) (y := nI m) (hD.t.2.1 t ht) (hD.t.2.2 t ht)) ⟨_, _, rfl, rfl, _, 8, _, (hD.t.2.1 t ht), rfl, rfl, rfl⟩ (Nat.le_of_ble_eq_true rfl) ⟨Nat.le_of_ble_eq_true rfl, Nat.le_of_ble_eq_true rfl⟩ ⟨Nat.le_of_ble_eq_true rfl, Nat.le_of_ble_eq_true rfl⟩ ?_
      show vm_J _ _ _ (66, (0, 0), [.ref 0, .int (nI t), .int 1, .int (nI m), .ref (139 + 1 + 2 * t)], []) (G, (vm_zc 0 (vm_up (vm_up I (139 + 1 + 2 * t) 0 1) (139 + 1 + 2 * t) 1 (nI m)) (139 + 2 + 2 * t) 150), F) _ _
      refine vm_J.go vm_q140 (k := 1) (hs := []) (f' := (67, (0, 0), [.ref 0, .int (nI t), .int 1, .int (nI m), .ref (139 + 1 + 2 * t)], [.int 1])) (h' := (G, (vm_zc 0 (vm_up (vm_up I (139 + 1 + 2 * t) 0 1) (139 + 1 + 2 * t) 1 (nI m)) (139 + 2 + 2 * t) 150), F)) (hs' := []) rfl rfl ?_
      exact vm_J.end vm_q140 (en := (67, .ireturn, 1, [], .null)) rfl rfl vm_rI (Nat.zero_le _) (Nat.zero_le _) rfl
    · have c2 := vm_ge_f (a := m) (b := 0) (by omega) (by omega) c2
      exact (show False by omega).elim
  · have c1 := vm_le_f (a := m) (b := 150) (by omega) (by omega) c1
    exact (show False by omega).elim
set_option maxHeartbeats 4000000 in
set_option maxRecDepth 20000 in
/-- DitherDesk.tape -/
theorem c_tape_g1 {l : Launch} {X : vm_Cx} {G : List vm_Sh} {I : Nat → Nat → Int32} {F : Nat → Nat → UInt32} {t : Nat} {b : Int32} (hD : vm_isD G) (ht : t < 6) (hb : ¬ b ≤ 150) : vm_K l X vm_M140 [.ref 0, .int (nI t), .int 1, .int b] (G, I, F) (some (.int (-2))) (G, I, F) := by
  refine vm_K.mk (by decide) (Nat.le_of_ble_eq_true rfl) ?_
  show vm_J _ _ _ (0, (0, 0), [.ref 0, .int (nI t), .int 1, .int b, .retAddr 0], []) _ _ _
  refine vm_J.go vm_q140 (k := 2) (hs := []) (f' := (2, (0, 0), [.ref 0, .int (nI t), .int 1, .int b, .retAddr 0], [.int (nI t), .ref 0])) (h' := (G, I, F)) (hs' := []) rfl rfl ?_
  refine vm_J.call vm_q140 (Z := vm_M145) (n := 1) (k := 0) (mi := 145) (pc := 2) (en := (2, .invokevirtual 365, 3, [145, 1049, 0], .null)) rfl trivial rfl rfl vm_z145 (av := [.ref 0, .int (nI t)]) (rest := []) (m_tapeAt_n (o := 0) (n := 1) (v := 38) (t := 75) (cu := 112) (rf := 132) (rd := 135) (T := 139) (p := t) hD.d hD.t (by omega)) ⟨_, _, rfl, rfl, _, 10, _, hD.d, rfl, rfl, rfl⟩ (Nat.le_of_ble_eq_true rfl) ⟨Nat.le_of_ble_eq_true rfl, Nat.le_of_ble_eq_true rfl⟩ ⟨Nat.le_of_ble_eq_true rfl, Nat.le_of_ble_eq_true rfl⟩ ?_
  show vm_J _ _ _ (5, (0, 0), [.ref 0, .int (nI t), .int 1, .int b, .retAddr 0], [.ref (139 + 1 + 2 * t)]) (G, I, F) _ _
  refine vm_J.go vm_q140 (k := 6) (hs := []) (f' := (17, (0, 0), [.ref 0, .int (nI t), .int 1, .int b, .ref (139 + 1 + 2 * t)], [.int 3, .int (-1), .int 1])) (h' := (G, I, F)) (hs' := []) rfl rfl ?_
  refine vm_J.call vm_q140 (Z := vm_M151) (n := 3) (k := 1) (mi := 151) (pc := 17) (en := (17, .invokestatic 56, 3, [151, 420, 0], .null)) rfl trivial rfl rfl vm_z151 (av := [.int 1, .int (-1), .int 3]) (rest := []) (m_isWithin_y (v := 1) (a := (-1)) (b := 3) (by decide)) rfl (Nat.le_of_ble_eq_true rfl) ⟨Nat.le_of_ble_eq_true rfl, Nat.le_of_ble_eq_true rfl⟩ ⟨Nat.le_of_ble_eq_true rfl, Nat.le_of_ble_eq_true rfl⟩ ?_
  show vm_J _ _ _ (20, (0, 0), [.ref 0, .int (nI t), .int 1, .int b, .ref (139 + 1 + 2 * t)], [.int 1]) (G, I, F) _ _
  refine vm_J.go vm_q140 (k := 1) (hs := []) (f' := (bif vm_ic .eq 1 0 then 35 else 23, (0, 0), [.ref 0, .int (nI t), .int 1, .int b, .ref (139 + 1 + 2 * t)], [])) (h' := (G, I, F)) (hs' := []) rfl rfl ?_
  refine vm_J.bF (by decide) ?_
  refine vm_J.go vm_q140 (k := 3) (hs := []) (f' := (bif vm_ic .eq 1 (-1) then 38 else 28, (0, 0), [.ref 0, .int (nI t), .int 1, .int b, .ref (139 + 1 + 2 * t)], [])) (h' := (G, I, F)) (hs' := []) rfl rfl ?_
  refine vm_J.bF (by decide) ?_
  refine vm_J.go vm_q140 (k := 3) (hs := []) (f' := (bif vm_ic .le b 150 then 38 else 35, (0, 0), [.ref 0, .int (nI t), .int 1, .int b, .ref (139 + 1 + 2 * t)], [])) (h' := (G, I, F)) (hs' := []) rfl rfl ?_
  refine vm_J.bF (decide_eq_false hb) ?_
  refine vm_J.go vm_q140 (k := 1) (hs := []) (f' := (37, (0, 0), [.ref 0, .int (nI t), .int 1, .int b, .ref (139 + 1 + 2 * t)], [.int (-2)])) (h' := (G, I, F)) (hs' := []) rfl rfl ?_
  exact vm_J.end vm_q140 (en := (37, .ireturn, 1, [], .null)) rfl rfl vm_rI (Nat.zero_le _) (Nat.zero_le _) rfl
set_option maxHeartbeats 4000000 in
set_option maxRecDepth 20000 in
/-- DitherDesk.tape -/
theorem c_tape_s1 {l : Launch} {X : vm_Cx} {G : List vm_Sh} {I : Nat → Nat → Int32} {F : Nat → Nat → UInt32} {t : Nat} {b : Int32} (hD : vm_isD G) (ht : t < 6) (hb : b < 0) : vm_K l X vm_M140 [.ref 0, .int (nI t), .int 1, .int b] (G, I, F) (some (.int (-14))) (G, I, F) := by
  refine vm_K.mk (by decide) (Nat.le_of_ble_eq_true rfl) ?_
  show vm_J _ _ _ (0, (0, 0), [.ref 0, .int (nI t), .int 1, .int b, .retAddr 0], []) _ _ _
  refine vm_J.go vm_q140 (k := 2) (hs := []) (f' := (2, (0, 0), [.ref 0, .int (nI t), .int 1, .int b, .retAddr 0], [.int (nI t), .ref 0])) (h' := (G, I, F)) (hs' := []) rfl rfl ?_
  refine vm_J.call vm_q140 (Z := vm_M145) (n := 1) (k := 0) (mi := 145) (pc := 2) (en := (2, .invokevirtual 365, 3, [145, 1049, 0], .null)) rfl trivial rfl rfl vm_z145 (av := [.ref 0, .int (nI t)]) (rest := []) (m_tapeAt_n (o := 0) (n := 1) (v := 38) (t := 75) (cu := 112) (rf := 132) (rd := 135) (T := 139) (p := t) hD.d hD.t (by omega)) ⟨_, _, rfl, rfl, _, 10, _, hD.d, rfl, rfl, rfl⟩ (Nat.le_of_ble_eq_true rfl) ⟨Nat.le_of_ble_eq_true rfl, Nat.le_of_ble_eq_true rfl⟩ ⟨Nat.le_of_ble_eq_true rfl, Nat.le_of_ble_eq_true rfl⟩ ?_
  show vm_J _ _ _ (5, (0, 0), [.ref 0, .int (nI t), .int 1, .int b, .retAddr 0], [.ref (139 + 1 + 2 * t)]) (G, I, F) _ _
  refine vm_J.go vm_q140 (k := 6) (hs := []) (f' := (17, (0, 0), [.ref 0, .int (nI t), .int 1, .int b, .ref (139 + 1 + 2 * t)], [.int 3, .int (-1), .int 1])) (h' := (G, I, F)) (hs' := []) rfl rfl ?_
  refine vm_J.call vm_q140 (Z := vm_M151) (n := 3) (k := 1) (mi := 151) (pc := 17) (en := (17, .invokestatic 56, 3, [151, 420, 0], .null)) rfl trivial rfl rfl vm_z151 (av := [.int 1, .int (-1), .int 3]) (rest := []) (m_isWithin_y (v := 1) (a := (-1)) (b := 3) (by decide)) rfl (Nat.le_of_ble_eq_true rfl) ⟨Nat.le_of_ble_eq_true rfl, Nat.le_of_ble_eq_true rfl⟩ ⟨Nat.le_of_ble_eq_true rfl, Nat.le_of_ble_eq_true rfl⟩ ?_
  show vm_J _ _ _ (20, (0, 0), [.ref 0, .int (nI t), .int 1, .int b, .ref (139 + 1 + 2 * t)], [.int 1]) (G, I, F) _ _
  refine vm_J.go vm_q140 (k := 1) (hs := []) (f' := (bif vm_ic .eq 1 0 then 35 else 23, (0, 0), [.ref 0, .int (nI t), .int 1, .int b, .ref (139 + 1 + 2 * t)], [])) (h' := (G, I, F)) (hs' := []) rfl rfl ?_
  refine vm_J.bF (by decide) ?_
  refine vm_J.go vm_q140 (k := 3) (hs := []) (f' := (bif vm_ic .eq 1 (-1) then 38 else 28, (0, 0), [.ref 0, .int (nI t), .int 1, .int b, .ref (139 + 1 + 2 * t)], [])) (h' := (G, I, F)) (hs' := []) rfl rfl ?_
  refine vm_J.bF (by decide) ?_
  refine vm_J.go vm_q140 (k := 3) (hs := []) (f' := (bif vm_ic .le b 150 then 38 else 35, (0, 0), [.ref 0, .int (nI t), .int 1, .int b, .ref (139 + 1 + 2 * t)], [])) (h' := (G, I, F)) (hs' := []) rfl rfl ?_
  refine vm_J.bT (decide_eq_true (vm_lt0_le hb)) ?_
  refine vm_J.go vm_q140 (k := 3) (hs := []) (f' := (bif vm_ic .eq 1 (-1) then 50 else 43, (0, 0), [.ref 0, .int (nI t), .int 1, .int b, .ref (139 + 1 + 2 * t)], [])) (h' := (G, I, F)) (hs' := []) rfl rfl ?_
  refine vm_J.bF (by decide) ?_
  refine vm_J.go vm_q140 (k := 2) (hs := []) (f' := (bif vm_ic .ge b 0 then 50 else 47, (0, 0), [.ref 0, .int (nI t), .int 1, .int b, .ref (139 + 1 + 2 * t)], [])) (h' := (G, I, F)) (hs' := []) rfl rfl ?_
  refine vm_J.bF (decide_eq_false (vm_lt_le hb)) ?_
  refine vm_J.go vm_q140 (k := 1) (hs := []) (f' := (49, (0, 0), [.ref 0, .int (nI t), .int 1, .int b, .ref (139 + 1 + 2 * t)], [.int (-14)])) (h' := (G, I, F)) (hs' := []) rfl rfl ?_
  exact vm_J.end vm_q140 (en := (49, .ireturn, 1, [], .null)) rfl rfl vm_rI (Nat.zero_le _) (Nat.zero_le _) rfl
set_option maxHeartbeats 4000000 in
set_option maxRecDepth 20000 in
/-- DitherDesk.tape -/
theorem c_tape_2 {l : Launch} {X : vm_Cx} {G : List vm_Sh} {I : Nat → Nat → Int32} {F : Nat → Nat → UInt32} {t : Nat} {m : Nat} (hD : vm_isD G) (ht : t < 6) (hm : m ≤ 150) : vm_K l X vm_M140 [.ref 0, .int (nI t), .int 2, .int (nI m)] (G, I, F) (some (.int 1)) (G, (vm_zc 0 (vm_up (vm_up I (139 + 1 + 2 * t) 0 2) (139 + 1 + 2 * t) 1 (nI m)) (139 + 2 + 2 * t) 150), F) := by
  refine vm_K.mk (by decide) (Nat.le_of_ble_eq_true rfl) ?_
  show vm_J _ _ _ (0, (0, 0), [.ref 0, .int (nI t), .int 2, .int (nI m), .retAddr 0], []) _ _ _
  refine vm_J.go vm_q140 (k := 2) (hs := []) (f' := (2, (0, 0), [.ref 0, .int (nI t), .int 2, .int (nI m), .retAddr 0], [.int (nI t), .ref 0])) (h' := (G, I, F)) (hs' := []) rfl rfl ?_
  refine vm_J.call vm_q140 (Z := vm_M145) (n := 1) (k := 0) (mi := 145) (pc := 2) (en := (2, .invokevirtual 365, 3, [145, 1049, 0], .null)) rfl trivial rfl rfl vm_z145 (av := [.ref 0, .int (nI t)]) (rest := []) (m_tapeAt_n (o := 0) (n := 1) (v := 38) (t := 75) (cu := 112) (rf := 132) (rd := 135) (T := 139) (p := t) hD.d hD.t (by omega)) ⟨_, _, rfl, rfl, _, 10, _, hD.d, rfl, rfl, rfl⟩ (Nat.le_of_ble_eq_true rfl) ⟨Nat.le_of_ble_eq_true rfl, Nat.le_of_ble_eq_true rfl⟩ ⟨Nat.le_of_ble_eq_true rfl, Nat.le_of_ble_eq_true rfl⟩ ?_
  show vm_J _ _ _ (5, (0, 0), [.ref 0, .int (nI t), .int 2, .int (nI m), .retAddr 0], [.ref (139 + 1 + 2 * t)]) (G, I, F) _ _
  refine vm_J.go vm_q140 (k := 6) (hs := []) (f' := (17, (0, 0), [.ref 0, .int (nI t), .int 2, .int (nI m), .ref (139 + 1 + 2 * t)], [.int 3, .int (-1), .int 2])) (h' := (G, I, F)) (hs' := []) rfl rfl ?_
  refine vm_J.call vm_q140 (Z := vm_M151) (n := 3) (k := 1) (mi := 151) (pc := 17) (en := (17, .invokestatic 56, 3, [151, 420, 0], .null)) rfl trivial rfl rfl vm_z151 (av := [.int 2, .int (-1), .int 3]) (rest := []) (m_isWithin_y (v := 2) (a := (-1)) (b := 3) (by decide)) rfl (Nat.le_of_ble_eq_true rfl) ⟨Nat.le_of_ble_eq_true rfl, Nat.le_of_ble_eq_true rfl⟩ ⟨Nat.le_of_ble_eq_true rfl, Nat.le_of_ble_eq_true rfl⟩ ?_
  show vm_J _ _ _ (20, (0, 0), [.ref 0, .int (nI t), .int 2, .int (nI m), .ref (139 + 1 + 2 * t)], [.int 1]) (G, I, F) _ _
  refine vm_J.go vm_q140 (k := 1) (hs := []) (f' := (bif vm_ic .eq 1 0 then 35 else 23, (0, 0), [.ref 0, .int (nI t), .int 2, .int (nI m), .ref (139 + 1 + 2 * t)], [])) (h' := (G, I, F)) (hs' := []) rfl rfl ?_
  refine vm_J.bF (by decide) ?_
  refine vm_J.go vm_q140 (k := 3) (hs := []) (f' := (bif vm_ic .eq 2 (-1) then 38 else 28, (0, 0), [.ref 0, .int (nI t), .int 2, .int (nI m), .ref (139 + 1 + 2 * t)], [])) (h' := (G, I, F)) (hs' := []) rfl rfl ?_
  refine vm_J.bF (by decide) ?_
  refine vm_J.go vm_q140 (k := 3) (hs := []) (f' := (bif vm_ic .le (nI m) 150 then 38 else 35, (0, 0), [.ref 0, .int (nI t), .int 2, .int (nI m), .ref (139 + 1 + 2 * t)], [])) (h' := (G, I, F)) (hs' := []) rfl rfl ?_
  refine vm_J.br (fun c1 => ?_) (fun c1 => ?_)
  · have c1 := vm_le_t (a := m) (b := 150) (by omega) (by omega) c1
    refine vm_J.go vm_q140 (k := 3) (hs := []) (f' := (bif vm_ic .eq 2 (-1) then 50 else 43, (0, 0), [.ref 0, .int (nI t), .int 2, .int (nI m), .ref (139 + 1 + 2 * t)], [])) (h' := (G, I, F)) (hs' := []) rfl rfl ?_
    refine vm_J.bF (by decide) ?_
    refine vm_J.go vm_q140 (k := 2) (hs := []) (f' := (bif vm_ic .ge (nI m) 0 then 50 else 47, (0, 0), [.ref 0, .int (nI t), .int 2, .int (nI m), .ref (139 + 1 + 2 * t)], [])) (h' := (G, I, F)) (hs' := []) rfl rfl ?_
    refine vm_J.br (fun c2 => ?_) (fun c2 => ?_)
    · have c2 := vm_ge_t (a := m) (b := 0) (by omega) (by omega) c2
      refine vm_J.go vm_q140 (k := 5) (hs := []) (f' := (bif vm_ic .ne 2 (-1) then 62 else 58, (0, 0), [.ref 0, .int (nI t), .int 2, .int (nI m), .ref (139 + 1 + 2 * t)], [.int 2, .ref (139 + 1 + 2 * t)])) (h' := (G, I, F)) (hs' := []) rfl rfl ?_
      refine vm_J.bT (by decide) ?_
      refine vm_J.go vm_q140 (k := 1) (hs := []) (f' := (63, (0, 0), [.ref 0, .int (nI t), .int 2, .int (nI m), .ref (139 + 1 + 2 * t)], [.int (nI m), .int 2, .ref (139 + 1 + 2 * t)])) (h' := (G, I, F)) (hs' := []) rfl rfl ?_
      refine vm_J.call vm_q140 (Z := vm_M88) (n := 2) (k := 0) (mi := 88) (pc := 63) (en := (63, .invokevirtual 387, 3, [88, 1079, 0], .null)) rfl trivial rfl rfl vm_z88 (av := [.ref (139 + 1 + 2 * t), .int 2, .int (nI m)]) (rest := []) (m_Tape_zero (o := 139 + 1 + 2 * t) (a := 139 + 2 + 2 * t) (x := 2) (y := nI m) (hD.t.2.1 t ht) (hD.t.2.2 t ht)) ⟨_, _, rfl, rfl, _, 8, _, (hD.t.2.1 t ht), rfl, rfl, rfl⟩ (Nat.le_of_ble_eq_true rfl) ⟨Nat.le_of_ble_eq_true rfl, Nat.le_of_ble_eq_true rfl⟩ ⟨Nat.le_of_ble_eq_true rfl, Nat.le_of_ble_eq_true rfl⟩ ?_
      show vm_J _ _ _ (66, (0, 0), [.ref 0, .int (nI t), .int 2, .int (nI m), .ref (139 + 1 + 2 * t)], []) (G, (vm_zc 0 (vm_up (vm_up I (139 + 1 + 2 * t) 0 2) (139 + 1 + 2 * t) 1 (nI m)) (139 + 2 + 2 * t) 150), F) _ _
      refine vm_J.go vm_q140 (k := 1) (hs := []) (f' := (67, (0, 0), [.ref 0, .int (nI t), .int 2, .int (nI m), .ref (139 + 1 + 2 * t)], [.int 1])) (h' := (G, (vm_zc 0 (vm_up (vm_up I (139 + 1 + 2 * t) 0 2) (139 + 1 + 2 * t) 1 (nI m)) (139 + 2 + 2 * t) 150), F)) (hs' := []) rfl rfl ?_
      exact vm_J.end vm_q140 (en := (67, .ireturn, 1, [], .null)) rfl rfl vm_rI (Nat.zero_le _) (Nat.zero_le _) rfl
    · have c2 := vm_ge_f (a := m) (b := 0) (by omega) (by omega) c2
      exact (show False by omega).elim
  · have c1 := vm_le_f (a := m) (b := 150) (by omega) (by omega) c1
    exact (show False by omega).elim
set_option maxHeartbeats 4000000 in
set_option maxRecDepth 20000 in
/-- DitherDesk.tape -/
theorem c_tape_g2 {l : Launch} {X : vm_Cx} {G : List vm_Sh} {I : Nat → Nat → Int32} {F : Nat → Nat → UInt32} {t : Nat} {b : Int32} (hD : vm_isD G) (ht : t < 6) (hb : ¬ b ≤ 150) : vm_K l X vm_M140 [.ref 0, .int (nI t), .int 2, .int b] (G, I, F) (some (.int (-2))) (G, I, F) := by
  refine vm_K.mk (by decide) (Nat.le_of_ble_eq_true rfl) ?_
  show vm_J _ _ _ (0, (0, 0), [.ref 0, .int (nI t), .int 2, .int b, .retAddr 0], []) _ _ _
  refine vm_J.go vm_q140 (k := 2) (hs := []) (f' := (2, (0, 0), [.ref 0, .int (nI t), .int 2, .int b, .retAddr 0], [.int (nI t), .ref 0])) (h' := (G, I, F)) (hs' := []) rfl rfl ?_
  refine vm_J.call vm_q140 (Z := vm_M145) (n := 1) (k := 0) (mi := 145) (pc := 2) (en := (2, .invokevirtual 365, 3, [145, 1049, 0], .null)) rfl trivial rfl rfl vm_z145 (av := [.ref 0, .int (nI t)]) (rest := []) (m_tapeAt_n (o := 0) (n := 1) (v := 38) (t := 75) (cu := 112) (rf := 132) (rd := 135) (T := 139) (p := t) hD.d hD.t (by omega)) ⟨_, _, rfl, rfl, _, 10, _, hD.d, rfl, rfl, rfl⟩ (Nat.le_of_ble_eq_true rfl) ⟨Nat.le_of_ble_eq_true rfl, Nat.le_of_ble_eq_true rfl⟩ ⟨Nat.le_of_ble_eq_true rfl, Nat.le_of_ble_eq_true rfl⟩ ?_
  show vm_J _ _ _ (5, (0, 0), [.ref 0, .int (nI t), .int 2, .int b, .retAddr 0], [.ref (139 + 1 + 2 * t)]) (G, I, F) _ _
  refine vm_J.go vm_q140 (k := 6) (hs := []) (f' := (17, (0, 0), [.ref 0, .int (nI t), .int 2, .int b, .ref (139 + 1 + 2 * t)], [.int 3, .int (-1), .int 2])) (h' := (G, I, F)) (hs' := []) rfl rfl ?_
  refine vm_J.call vm_q140 (Z := vm_M151) (n := 3) (k := 1) (mi := 151) (pc := 17) (en := (17, .invokestatic 56, 3, [151, 420, 0], .null)) rfl trivial rfl rfl vm_z151 (av := [.int 2, .int (-1), .int 3]) (rest := []) (m_isWithin_y (v := 2) (a := (-1)) (b := 3) (by decide)) rfl (Nat.le_of_ble_eq_true rfl) ⟨Nat.le_of_ble_eq_true rfl, Nat.le_of_ble_eq_true rfl⟩ ⟨Nat.le_of_ble_eq_true rfl, Nat.le_of_ble_eq_true rfl⟩ ?_
  show vm_J _ _ _ (20, (0, 0), [.ref 0, .int (nI t), .int 2, .int b, .ref (139 + 1 + 2 * t)], [.int 1]) (G, I, F) _ _
  refine vm_J.go vm_q140 (k := 1) (hs := []) (f' := (bif vm_ic .eq 1 0 then 35 else 23, (0, 0), [.ref 0, .int (nI t), .int 2, .int b, .ref (139 + 1 + 2 * t)], [])) (h' := (G, I, F)) (hs' := []) rfl rfl ?_
  refine vm_J.bF (by decide) ?_
  refine vm_J.go vm_q140 (k := 3) (hs := []) (f' := (bif vm_ic .eq 2 (-1) then 38 else 28, (0, 0), [.ref 0, .int (nI t), .int 2, .int b, .ref (139 + 1 + 2 * t)], [])) (h' := (G, I, F)) (hs' := []) rfl rfl ?_
  refine vm_J.bF (by decide) ?_
  refine vm_J.go vm_q140 (k := 3) (hs := []) (f' := (bif vm_ic .le b 150 then 38 else 35, (0, 0), [.ref 0, .int (nI t), .int 2, .int b, .ref (139 + 1 + 2 * t)], [])) (h' := (G, I, F)) (hs' := []) rfl rfl ?_
  refine vm_J.bF (decide_eq_false hb) ?_
  refine vm_J.go vm_q140 (k := 1) (hs := []) (f' := (37, (0, 0), [.ref 0, .int (nI t), .int 2, .int b, .ref (139 + 1 + 2 * t)], [.int (-2)])) (h' := (G, I, F)) (hs' := []) rfl rfl ?_
  exact vm_J.end vm_q140 (en := (37, .ireturn, 1, [], .null)) rfl rfl vm_rI (Nat.zero_le _) (Nat.zero_le _) rfl
set_option maxHeartbeats 4000000 in
set_option maxRecDepth 20000 in
/-- DitherDesk.tape -/
theorem c_tape_s2 {l : Launch} {X : vm_Cx} {G : List vm_Sh} {I : Nat → Nat → Int32} {F : Nat → Nat → UInt32} {t : Nat} {b : Int32} (hD : vm_isD G) (ht : t < 6) (hb : b < 0) : vm_K l X vm_M140 [.ref 0, .int (nI t), .int 2, .int b] (G, I, F) (some (.int (-14))) (G, I, F) := by
  refine vm_K.mk (by decide) (Nat.le_of_ble_eq_true rfl) ?_
  show vm_J _ _ _ (0, (0, 0), [.ref 0, .int (nI t), .int 2, .int b, .retAddr 0], []) _ _ _
  refine vm_J.go vm_q140 (k := 2) (hs := []) (f' := (2, (0, 0), [.ref 0, .int (nI t), .int 2, .int b, .retAddr 0], [.int (nI t), .ref 0])) (h' := (G, I, F)) (hs' := []) rfl rfl ?_
  refine vm_J.call vm_q140 (Z := vm_M145) (n := 1) (k := 0) (mi := 145) (pc := 2) (en := (2, .invokevirtual 365, 3, [145, 1049, 0], .null)) rfl trivial rfl rfl vm_z145 (av := [.ref 0, .int (nI t)]) (rest := []) (m_tapeAt_n (o := 0) (n := 1) (v := 38) (t := 75) (cu := 112) (rf := 132) (rd := 135) (T := 139) (p := t) hD.d hD.t (by omega)) ⟨_, _, rfl, rfl, _, 10, _, hD.d, rfl, rfl, rfl⟩ (Nat.le_of_ble_eq_true rfl) ⟨Nat.le_of_ble_eq_true rfl, Nat.le_of_ble_eq_true rfl⟩ ⟨Nat.le_of_ble_eq_true rfl, Nat.le_of_ble_eq_true rfl⟩ ?_
  show vm_J _ _ _ (5, (0, 0), [.ref 0, .int (nI t), .int 2, .int b, .retAddr 0], [.ref (139 + 1 + 2 * t)]) (G, I, F) _ _
  refine vm_J.go vm_q140 (k := 6) (hs := []) (f' := (17, (0, 0), [.ref 0, .int (nI t), .int 2, .int b, .ref (139 + 1 + 2 * t)], [.int 3, .int (-1), .int 2])) (h' := (G, I, F)) (hs' := []) rfl rfl ?_
  refine vm_J.call vm_q140 (Z := vm_M151) (n := 3) (k := 1) (mi := 151) (pc := 17) (en := (17, .invokestatic 56, 3, [151, 420, 0], .null)) rfl trivial rfl rfl vm_z151 (av := [.int 2, .int (-1), .int 3]) (rest := []) (m_isWithin_y (v := 2) (a := (-1)) (b := 3) (by decide)) rfl (Nat.le_of_ble_eq_true rfl) ⟨Nat.le_of_ble_eq_true rfl, Nat.le_of_ble_eq_true rfl⟩ ⟨Nat.le_of_ble_eq_true rfl, Nat.le_of_ble_eq_true rfl⟩ ?_
  show vm_J _ _ _ (20, (0, 0), [.ref 0, .int (nI t), .int 2, .int b, .ref (139 + 1 + 2 * t)], [.int 1]) (G, I, F) _ _
  refine vm_J.go vm_q140 (k := 1) (hs := []) (f' := (bif vm_ic .eq 1 0 then 35 else 23, (0, 0), [.ref 0, .int (nI t), .int 2, .int b, .ref (139 + 1 + 2 * t)], [])) (h' := (G, I, F)) (hs' := []) rfl rfl ?_
  refine vm_J.bF (by decide) ?_
  refine vm_J.go vm_q140 (k := 3) (hs := []) (f' := (bif vm_ic .eq 2 (-1) then 38 else 28, (0, 0), [.ref 0, .int (nI t), .int 2, .int b, .ref (139 + 1 + 2 * t)], [])) (h' := (G, I, F)) (hs' := []) rfl rfl ?_
  refine vm_J.bF (by decide) ?_
  refine vm_J.go vm_q140 (k := 3) (hs := []) (f' := (bif vm_ic .le b 150 then 38 else 35, (0, 0), [.ref 0, .int (nI t), .int 2, .int b, .ref (139 + 1 + 2 * t)], [])) (h' := (G, I, F)) (hs' := []) rfl rfl ?_
  refine vm_J.bT (decide_eq_true (vm_lt0_le hb)) ?_
  refine vm_J.go vm_q140 (k := 3) (hs := []) (f' := (bif vm_ic .eq 2 (-1) then 50 else 43, (0, 0), [.ref 0, .int (nI t), .int 2, .int b, .ref (139 + 1 + 2 * t)], [])) (h' := (G, I, F)) (hs' := []) rfl rfl ?_
  refine vm_J.bF (by decide) ?_
  refine vm_J.go vm_q140 (k := 2) (hs := []) (f' := (bif vm_ic .ge b 0 then 50 else 47, (0, 0), [.ref 0, .int (nI t), .int 2, .int b, .ref (139 + 1 + 2 * t)], [])) (h' := (G, I, F)) (hs' := []) rfl rfl ?_
  refine vm_J.bF (decide_eq_false (vm_lt_le hb)) ?_
  refine vm_J.go vm_q140 (k := 1) (hs := []) (f' := (49, (0, 0), [.ref 0, .int (nI t), .int 2, .int b, .ref (139 + 1 + 2 * t)], [.int (-14)])) (h' := (G, I, F)) (hs' := []) rfl rfl ?_
  exact vm_J.end vm_q140 (en := (49, .ireturn, 1, [], .null)) rfl rfl vm_rI (Nat.zero_le _) (Nat.zero_le _) rfl
set_option maxHeartbeats 4000000 in
set_option maxRecDepth 20000 in
/-- DitherDesk.tape -/
theorem c_tape_3 {l : Launch} {X : vm_Cx} {G : List vm_Sh} {I : Nat → Nat → Int32} {F : Nat → Nat → UInt32} {t : Nat} {m : Nat} (hD : vm_isD G) (ht : t < 6) (hm : m ≤ 150) : vm_K l X vm_M140 [.ref 0, .int (nI t), .int 3, .int (nI m)] (G, I, F) (some (.int 1)) (G, (vm_zc 0 (vm_up (vm_up I (139 + 1 + 2 * t) 0 3) (139 + 1 + 2 * t) 1 (nI m)) (139 + 2 + 2 * t) 150), F) := by
  refine vm_K.mk (by decide) (Nat.le_of_ble_eq_true rfl) ?_
  show vm_J _ _ _ (0, (0, 0), [.ref 0, .int (nI t), .int 3, .int (nI m), .retAddr 0], []) _ _ _
  refine vm_J.go vm_q140 (k := 2) (hs := []) (f' := (2, (0, 0), [.ref 0, .int (nI t), .int 3, .int (nI m), .retAddr 0], [.int (nI t), .ref 0])) (h' := (G, I, F)) (hs' := []) rfl rfl ?_
  refine vm_J.call vm_q140 (Z := vm_M145) (n := 1) (k := 0) (mi := 145) (pc := 2) (en := (2, .invokevirtual 365, 3, [145, 1049, 0], .null)) rfl trivial rfl rfl vm_z145 (av := [.ref 0, .int (nI t)]) (rest := []) (m_tapeAt_n (o := 0) (n := 1) (v := 38) (t := 75) (cu := 112) (rf := 132) (rd := 135) (T := 139) (p := t) hD.d hD.t (by omega)) ⟨_, _, rfl, rfl, _, 10, _, hD.d, rfl, rfl, rfl⟩ (Nat.le_of_ble_eq_true rfl) ⟨Nat.le_of_ble_eq_true rfl, Nat.le_of_ble_eq_true rfl⟩ ⟨Nat.le_of_ble_eq_true rfl, Nat.le_of_ble_eq_true rfl⟩ ?_
  show vm_J _ _ _ (5, (0, 0), [.ref 0, .int (nI t), .int 3, .int (nI m), .retAddr 0], [.ref (139 + 1 + 2 * t)]) (G, I, F) _ _
  refine vm_J.go vm_q140 (k := 6) (hs := []) (f' := (17, (0, 0), [.ref 0, .int (nI t), .int 3, .int (nI m), .ref (139 + 1 + 2 * t)], [.int 3, .int (-1), .int 3])) (h' := (G, I, F)) (hs' := []) rfl rfl ?_
  refine vm_J.call vm_q140 (Z := vm_M151) (n := 3) (k := 1) (mi := 151) (pc := 17) (en := (17, .invokestatic 56, 3, [151, 420, 0], .null)) rfl trivial rfl rfl vm_z151 (av := [.int 3, .int (-1), .int 3]) (rest := []) (m_isWithin_y (v := 3) (a := (-1)) (b := 3) (by decide)) rfl (Nat.le_of_ble_eq_true rfl) ⟨Nat.le_of_ble_eq_true rfl, Nat.le_of_ble_eq_true rfl⟩ ⟨Nat.le_of_ble_eq_true rfl, Nat.le_of_ble_eq_true rfl⟩ ?_
  show vm_J _ _ _ (20, (0, 0), [.ref 0, .int (nI t), .int 3, .int (nI m), .ref (139 + 1 + 2 * t)], [.int 1]) (G, I, F) _ _
  refine vm_J.go vm_q140 (k := 1) (hs := []) (f' := (bif vm_ic .eq 1 0 then 35 else 23, (0, 0), [.ref 0, .int (nI t), .int 3, .int (nI m), .ref (139 + 1 + 2 * t)], [])) (h' := (G, I, F)) (hs' := []) rfl rfl ?_
  refine vm_J.bF (by decide) ?_
  refine vm_J.go vm_q140 (k := 3) (hs := []) (f' := (bif vm_ic .eq 3 (-1) then 38 else 28, (0, 0), [.ref 0, .int (nI t), .int 3, .int (nI m), .ref (139 + 1 + 2 * t)], [])) (h' := (G, I, F)) (hs' := []) rfl rfl ?_
  refine vm_J.bF (by decide) ?_
  refine vm_J.go vm_q140 (k := 3) (hs := []) (f' := (bif vm_ic .le (nI m) 150 then 38 else 35, (0, 0), [.ref 0, .int (nI t), .int 3, .int (nI m), .ref (139 + 1 + 2 * t)], [])) (h' := (G, I, F)) (hs' := []) rfl rfl ?_
  refine vm_J.br (fun c1 => ?_) (fun c1 => ?_)
  · have c1 := vm_le_t (a := m) (b := 150) (by omega) (by omega) c1
    refine vm_J.go vm_q140 (k := 3) (hs := []) (f' := (bif vm_ic .eq 3 (-1) then 50 else 43, (0, 0), [.ref 0, .int (nI t), .int 3, .int (nI m), .ref (139 + 1 + 2 * t)], [])) (h' := (G, I, F)) (hs' := []) rfl rfl ?_
    refine vm_J.bF (by decide) ?_
    refine vm_J.go vm_q140 (k := 2) (hs := []) (f' := (bif vm_ic .ge (nI m) 0 then 50 else 47, (0, 0), [.ref 0, .int (nI t), .int 3, .int (nI m), .ref (139 + 1 + 2 * t)], [])) (h' := (G, I, F)) (hs' := []) rfl rfl ?_
    refine vm_J.br (fun c2 => ?_) (fun c2 => ?_)
    · have c2 := vm_ge_t (a := m) (b := 0) (by omega) (by omega) c2
      refine vm_J.go vm_q140 (k := 5) (hs := []) (f' := (bif vm_ic .ne 3 (-1) then 62 else 58, (0, 0), [.ref 0, .int (nI t), .int 3, .int (nI m), .ref (139 + 1 + 2 * t)], [.int 3, .ref (139 + 1 + 2 * t)])) (h' := (G, I, F)) (hs' := []) rfl rfl ?_
      refine vm_J.bT (by decide) ?_
      refine vm_J.go vm_q140 (k := 1) (hs := []) (f' := (63, (0, 0), [.ref 0, .int (nI t), .int 3, .int (nI m), .ref (139 + 1 + 2 * t)], [.int (nI m), .int 3, .ref (139 + 1 + 2 * t)])) (h' := (G, I, F)) (hs' := []) rfl rfl ?_
      refine vm_J.call vm_q140 (Z := vm_M88) (n := 2) (k := 0) (mi := 88) (pc := 63) (en := (63, .invokevirtual 387, 3, [88, 1079, 0], .null)) rfl trivial rfl rfl vm_z88 (av := [.ref (139 + 1 + 2 * t), .int 3, .int (nI m)]) (rest := []) (m_Tape_zero (o := 139 + 1 + 2 * t) (a := 139 + 2 + 2 * t) (x := 3) (y := nI m) (hD.t.2.1 t ht) (hD.t.2.2 t ht)) ⟨_, _, rfl, rfl, _, 8, _, (hD.t.2.1 t ht), rfl, rfl, rfl⟩ (Nat.le_of_ble_eq_true rfl) ⟨Nat.le_of_ble_eq_true rfl, Nat.le_of_ble_eq_true rfl⟩ ⟨Nat.le_of_ble_eq_true rfl, Nat.le_of_ble_eq_true rfl⟩ ?_
      show vm_J _ _ _ (66, (0, 0), [.ref 0, .int (nI t), .int 3, .int (nI m), .ref (139 + 1 + 2 * t)], []) (G, (vm_zc 0 (vm_up (vm_up I (139 + 1 + 2 * t) 0 3) (139 + 1 + 2 * t) 1 (nI m)) (139 + 2 + 2 * t) 150), F) _ _
      refine vm_J.go vm_q140 (k := 1) (hs := []) (f' := (67, (0, 0), [.ref 0, .int (nI t), .int 3, .int (nI m), .ref (139 + 1 + 2 * t)], [.int 1])) (h' := (G, (vm_zc 0 (vm_up (vm_up I (139 + 1 + 2 * t) 0 3) (139 + 1 + 2 * t) 1 (nI m)) (139 + 2 + 2 * t) 150), F)) (hs' := []) rfl rfl ?_
      exact vm_J.end vm_q140 (en := (67, .ireturn, 1, [], .null)) rfl rfl vm_rI (Nat.zero_le _) (Nat.zero_le _) rfl
    · have c2 := vm_ge_f (a := m) (b := 0) (by omega) (by omega) c2
      exact (show False by omega).elim
  · have c1 := vm_le_f (a := m) (b := 150) (by omega) (by omega) c1
    exact (show False by omega).elim
set_option maxHeartbeats 4000000 in
set_option maxRecDepth 20000 in
/-- DitherDesk.tape -/
theorem c_tape_g3 {l : Launch} {X : vm_Cx} {G : List vm_Sh} {I : Nat → Nat → Int32} {F : Nat → Nat → UInt32} {t : Nat} {b : Int32} (hD : vm_isD G) (ht : t < 6) (hb : ¬ b ≤ 150) : vm_K l X vm_M140 [.ref 0, .int (nI t), .int 3, .int b] (G, I, F) (some (.int (-2))) (G, I, F) := by
  refine vm_K.mk (by decide) (Nat.le_of_ble_eq_true rfl) ?_
  show vm_J _ _ _ (0, (0, 0), [.ref 0, .int (nI t), .int 3, .int b, .retAddr 0], []) _ _ _
  refine vm_J.go vm_q140 (k := 2) (hs := []) (f' := (2, (0, 0), [.ref 0, .int (nI t), .int 3, .int b, .retAddr 0], [.int (nI t), .ref 0])) (h' := (G, I, F)) (hs' := []) rfl rfl ?_
  refine vm_J.call vm_q140 (Z := vm_M145) (n := 1) (k := 0) (mi := 145) (pc := 2) (en := (2, .invokevirtual 365, 3, [145, 1049, 0], .null)) rfl trivial rfl rfl vm_z145 (av := [.ref 0, .int (nI t)]) (rest := []) (m_tapeAt_n (o := 0) (n := 1) (v := 38) (t := 75) (cu := 112) (rf := 132) (rd := 135) (T := 139) (p := t) hD.d hD.t (by omega)) ⟨_, _, rfl, rfl, _, 10, _, hD.d, rfl, rfl, rfl⟩ (Nat.le_of_ble_eq_true rfl) ⟨Nat.le_of_ble_eq_true rfl, Nat.le_of_ble_eq_true rfl⟩ ⟨Nat.le_of_ble_eq_true rfl, Nat.le_of_ble_eq_true rfl⟩ ?_
  show vm_J _ _ _ (5, (0, 0), [.ref 0, .int (nI t), .int 3, .int b, .retAddr 0], [.ref (139 + 1 + 2 * t)]) (G, I, F) _ _
  refine vm_J.go vm_q140 (k := 6) (hs := []) (f' := (17, (0, 0), [.ref 0, .int (nI t), .int 3, .int b, .ref (139 + 1 + 2 * t)], [.int 3, .int (-1), .int 3])) (h' := (G, I, F)) (hs' := []) rfl rfl ?_
  refine vm_J.call vm_q140 (Z := vm_M151) (n := 3) (k := 1) (mi := 151) (pc := 17) (en := (17, .invokestatic 56, 3, [151, 420, 0], .null)) rfl trivial rfl rfl vm_z151 (av := [.int 3, .int (-1), .int 3]) (rest := []) (m_isWithin_y (v := 3) (a := (-1)) (b := 3) (by decide)) rfl (Nat.le_of_ble_eq_true rfl) ⟨Nat.le_of_ble_eq_true rfl, Nat.le_of_ble_eq_true rfl⟩ ⟨Nat.le_of_ble_eq_true rfl, Nat.le_of_ble_eq_true rfl⟩ ?_
  show vm_J _ _ _ (20, (0, 0), [.ref 0, .int (nI t), .int 3, .int b, .ref (139 + 1 + 2 * t)], [.int 1]) (G, I, F) _ _
  refine vm_J.go vm_q140 (k := 1) (hs := []) (f' := (bif vm_ic .eq 1 0 then 35 else 23, (0, 0), [.ref 0, .int (nI t), .int 3, .int b, .ref (139 + 1 + 2 * t)], [])) (h' := (G, I, F)) (hs' := []) rfl rfl ?_
  refine vm_J.bF (by decide) ?_
  refine vm_J.go vm_q140 (k := 3) (hs := []) (f' := (bif vm_ic .eq 3 (-1) then 38 else 28, (0, 0), [.ref 0, .int (nI t), .int 3, .int b, .ref (139 + 1 + 2 * t)], [])) (h' := (G, I, F)) (hs' := []) rfl rfl ?_
  refine vm_J.bF (by decide) ?_
  refine vm_J.go vm_q140 (k := 3) (hs := []) (f' := (bif vm_ic .le b 150 then 38 else 35, (0, 0), [.ref 0, .int (nI t), .int 3, .int b, .ref (139 + 1 + 2 * t)], [])) (h' := (G, I, F)) (hs' := []) rfl rfl ?_
  refine vm_J.bF (decide_eq_false hb) ?_
  refine vm_J.go vm_q140 (k := 1) (hs := []) (f' := (37, (0, 0), [.ref 0, .int (nI t), .int 3, .int b, .ref (139 + 1 + 2 * t)], [.int (-2)])) (h' := (G, I, F)) (hs' := []) rfl rfl ?_
  exact vm_J.end vm_q140 (en := (37, .ireturn, 1, [], .null)) rfl rfl vm_rI (Nat.zero_le _) (Nat.zero_le _) rfl
set_option maxHeartbeats 4000000 in
set_option maxRecDepth 20000 in
/-- DitherDesk.tape -/
theorem c_tape_s3 {l : Launch} {X : vm_Cx} {G : List vm_Sh} {I : Nat → Nat → Int32} {F : Nat → Nat → UInt32} {t : Nat} {b : Int32} (hD : vm_isD G) (ht : t < 6) (hb : b < 0) : vm_K l X vm_M140 [.ref 0, .int (nI t), .int 3, .int b] (G, I, F) (some (.int (-14))) (G, I, F) := by
  refine vm_K.mk (by decide) (Nat.le_of_ble_eq_true rfl) ?_
  show vm_J _ _ _ (0, (0, 0), [.ref 0, .int (nI t), .int 3, .int b, .retAddr 0], []) _ _ _
  refine vm_J.go vm_q140 (k := 2) (hs := []) (f' := (2, (0, 0), [.ref 0, .int (nI t), .int 3, .int b, .retAddr 0], [.int (nI t), .ref 0])) (h' := (G, I, F)) (hs' := []) rfl rfl ?_
  refine vm_J.call vm_q140 (Z := vm_M145) (n := 1) (k := 0) (mi := 145) (pc := 2) (en := (2, .invokevirtual 365, 3, [145, 1049, 0], .null)) rfl trivial rfl rfl vm_z145 (av := [.ref 0, .int (nI t)]) (rest := []) (m_tapeAt_n (o := 0) (n := 1) (v := 38) (t := 75) (cu := 112) (rf := 132) (rd := 135) (T := 139) (p := t) hD.d hD.t (by omega)) ⟨_, _, rfl, rfl, _, 10, _, hD.d, rfl, rfl, rfl⟩ (Nat.le_of_ble_eq_true rfl) ⟨Nat.le_of_ble_eq_true rfl, Nat.le_of_ble_eq_true rfl⟩ ⟨Nat.le_of_ble_eq_true rfl, Nat.le_of_ble_eq_true rfl⟩ ?_
  show vm_J _ _ _ (5, (0, 0), [.ref 0, .int (nI t), .int 3, .int b, .retAddr 0], [.ref (139 + 1 + 2 * t)]) (G, I, F) _ _
  refine vm_J.go vm_q140 (k := 6) (hs := []) (f' := (17, (0, 0), [.ref 0, .int (nI t), .int 3, .int b, .ref (139 + 1 + 2 * t)], [.int 3, .int (-1), .int 3])) (h' := (G, I, F)) (hs' := []) rfl rfl ?_
  refine vm_J.call vm_q140 (Z := vm_M151) (n := 3) (k := 1) (mi := 151) (pc := 17) (en := (17, .invokestatic 56, 3, [151, 420, 0], .null)) rfl trivial rfl rfl vm_z151 (av := [.int 3, .int (-1), .int 3]) (rest := []) (m_isWithin_y (v := 3) (a := (-1)) (b := 3) (by decide)) rfl (Nat.le_of_ble_eq_true rfl) ⟨Nat.le_of_ble_eq_true rfl, Nat.le_of_ble_eq_true rfl⟩ ⟨Nat.le_of_ble_eq_true rfl, Nat.le_of_ble_eq_true rfl⟩ ?_
  show vm_J _ _ _ (20, (0, 0), [.ref 0, .int (nI t), .int 3, .int b, .ref (139 + 1 + 2 * t)], [.int 1]) (G, I, F) _ _
  refine vm_J.go vm_q140 (k := 1) (hs := []) (f' := (bif vm_ic .eq 1 0 then 35 else 23, (0, 0), [.ref 0, .int (nI t), .int 3, .int b, .ref (139 + 1 + 2 * t)], [])) (h' := (G, I, F)) (hs' := []) rfl rfl ?_
  refine vm_J.bF (by decide) ?_
  refine vm_J.go vm_q140 (k := 3) (hs := []) (f' := (bif vm_ic .eq 3 (-1) then 38 else 28, (0, 0), [.ref 0, .int (nI t), .int 3, .int b, .ref (139 + 1 + 2 * t)], [])) (h' := (G, I, F)) (hs' := []) rfl rfl ?_
  refine vm_J.bF (by decide) ?_
  refine vm_J.go vm_q140 (k := 3) (hs := []) (f' := (bif vm_ic .le b 150 then 38 else 35, (0, 0), [.ref 0, .int (nI t), .int 3, .int b, .ref (139 + 1 + 2 * t)], [])) (h' := (G, I, F)) (hs' := []) rfl rfl ?_
  refine vm_J.bT (decide_eq_true (vm_lt0_le hb)) ?_
  refine vm_J.go vm_q140 (k := 3) (hs := []) (f' := (bif vm_ic .eq 3 (-1) then 50 else 43, (0, 0), [.ref 0, .int (nI t), .int 3, .int b, .ref (139 + 1 + 2 * t)], [])) (h' := (G, I, F)) (hs' := []) rfl rfl ?_
  refine vm_J.bF (by decide) ?_
  refine vm_J.go vm_q140 (k := 2) (hs := []) (f' := (bif vm_ic .ge b 0 then 50 else 47, (0, 0), [.ref 0, .int (nI t), .int 3, .int b, .ref (139 + 1 + 2 * t)], [])) (h' := (G, I, F)) (hs' := []) rfl rfl ?_
  refine vm_J.bF (decide_eq_false (vm_lt_le hb)) ?_
  refine vm_J.go vm_q140 (k := 1) (hs := []) (f' := (49, (0, 0), [.ref 0, .int (nI t), .int 3, .int b, .ref (139 + 1 + 2 * t)], [.int (-14)])) (h' := (G, I, F)) (hs' := []) rfl rfl ?_
  exact vm_J.end vm_q140 (en := (49, .ireturn, 1, [], .null)) rfl rfl vm_rI (Nat.zero_le _) (Nat.zero_le _) rfl
set_option maxHeartbeats 4000000 in
set_option maxRecDepth 20000 in
/-- DitherDesk.peek -/
theorem c_peek_x {l : Launch} {X : vm_Cx} {G : List vm_Sh} {I : Nat → Nat → Int32} {F : Nat → Nat → UInt32} {q : Int32} {e : Int32} (hD : vm_isD G) (hx : ¬ (0 ≤ q ∧ q ≤ 5)) : vm_K l X vm_M142 [.ref 0, .int q, .int e] (G, I, F) (some (.long (-9223372036854775808))) (G, I, F) := by
  refine vm_K.mk (by decide) (Nat.le_of_ble_eq_true rfl) ?_
  show vm_J _ _ _ (0, (0, 0), [.ref 0, .int q, .int e, .retAddr 0], []) _ _ _
  refine vm_J.go vm_q142 (k := 2) (hs := []) (f' := (2, (0, 0), [.ref 0, .int q, .int e, .retAddr 0], [.int q, .ref 0])) (h' := (G, I, F)) (hs' := []) rfl rfl ?_
  refine vm_J.call vm_q142 (Z := vm_M145) (n := 1) (k := 0) (mi := 145) (pc := 2) (en := (2, .invokevirtual 365, 3, [145, 1049, 0], .null)) rfl trivial rfl rfl vm_z145 (av := [.ref 0, .int q]) (rest := []) (m_tapeAt_x (o := 0) (n := 1) (v := 38) (t := 75) (cu := 112) (rf := 132) (rd := 135) (T := 139) (p := q) hD.d hD.t (vm_nx hx)) ⟨_, _, rfl, rfl, _, 10, _, hD.d, rfl, rfl, rfl⟩ (Nat.le_of_ble_eq_true rfl) ⟨Nat.le_of_ble_eq_true rfl, Nat.le_of_ble_eq_true rfl⟩ ⟨Nat.le_of_ble_eq_true rfl, Nat.le_of_ble_eq_true rfl⟩ ?_
  show vm_J _ _ _ (5, (0, 0), [.ref 0, .int q, .int e, .retAddr 0], [.null]) (G, I, F) _ _
  refine vm_J.go vm_q142 (k := 4) (hs := []) (f' := (27, (0, 0), [.ref 0, .int q, .int e, .null], [.long (-9223372036854775808)])) (h' := (G, I, F)) (hs' := []) rfl rfl ?_
  exact vm_J.end vm_q142 (en := (27, .lreturn, 1, [], .null)) rfl rfl vm_rL (Nat.zero_le _) (Nat.zero_le _) rfl
set_option maxHeartbeats 4000000 in
set_option maxRecDepth 20000 in
/-- DitherDesk.peek -/
theorem c_peek_p {l : Launch} {X : vm_Cx} {G : List vm_Sh} {I : Nat → Nat → Int32} {F : Nat → Nat → UInt32} {t : Nat} {m : Nat} {e : Int32} (hD : vm_isD G) (ht : t < 6) (hm : I (139 + 1 + 2 * t) 1 = nI m) (hm2 : m ≤ 150) (he : ¬ (0 ≤ e ∧ e ≤ nI m - 1)) : vm_K l X vm_M142 [.ref 0, .int (nI t), .int e] (G, I, F) (some (.long (-9223372036854775808))) (G, I, F) := by
  refine vm_K.mk (by decide) (Nat.le_of_ble_eq_true rfl) ?_
  show vm_J _ _ _ (0, (0, 0), [.ref 0, .int (nI t), .int e, .retAddr 0], []) _ _ _
  refine vm_J.go vm_q142 (k := 2) (hs := []) (f' := (2, (0, 0), [.ref 0, .int (nI t), .int e, .retAddr 0], [.int (nI t), .ref 0])) (h' := (G, I, F)) (hs' := []) rfl rfl ?_
  refine vm_J.call vm_q142 (Z := vm_M145) (n := 1) (k := 0) (mi := 145) (pc := 2) (en := (2, .invokevirtual 365, 3, [145, 1049, 0], .null)) rfl trivial rfl rfl vm_z145 (av := [.ref 0, .int (nI t)]) (rest := []) (m_tapeAt_n (o := 0) (n := 1) (v := 38) (t := 75) (cu := 112) (rf := 132) (rd := 135) (T := 139) (p := t) hD.d hD.t (by omega)) ⟨_, _, rfl, rfl, _, 10, _, hD.d, rfl, rfl, rfl⟩ (Nat.le_of_ble_eq_true rfl) ⟨Nat.le_of_ble_eq_true rfl, Nat.le_of_ble_eq_true rfl⟩ ⟨Nat.le_of_ble_eq_true rfl, Nat.le_of_ble_eq_true rfl⟩ ?_
  show vm_J _ _ _ (5, (0, 0), [.ref 0, .int (nI t), .int e, .retAddr 0], [.ref (139 + 1 + 2 * t)]) (G, I, F) _ _
  refine vm_J.go vm_q142 (k := 7) (hs := [(10, 3, [.int 0, .int 0, .ref (139 + 2 + 2 * t)])]) (f' := (16, (0, 0), [.ref 0, .int (nI t), .int e, .ref (139 + 1 + 2 * t)], [.int (I (139 + 1 + 2 * t) 1), .int 0, .int e])) (h' := (G, I, F)) (hs' := []) rfl (vm_b2 rfl (vm_b2 rfl (vm_b2 rfl (vm_b2 rfl (vm_b2 rfl (vm_b2 rfl (vm_b2 (vm_b2 (vm_hG (hD.t.2.1 t ht)) rfl) rfl))))))) ?_
  rw [(hm : I (139 + 1 + 2 * t) 1 = nI m)]
  refine vm_J.go vm_q142 (k := 2) (hs := []) (f' := (18, (0, 0), [.ref 0, .int (nI t), .int e, .ref (139 + 1 + 2 * t)], [.int ((nI m) - 1), .int 0, .int e])) (h' := (G, I, F)) (hs' := []) rfl rfl ?_
  refine vm_J.call vm_q142 (Z := vm_M151) (n := 3) (k := 1) (mi := 151) (pc := 18) (en := (18, .invokestatic 56, 3, [151, 420, 0], .null)) rfl trivial rfl rfl vm_z151 (av := [.int e, .int 0, .int ((nI m) - 1)]) (rest := []) (m_isWithin_n (v := e) (a := 0) (b := (nI m) - 1) he) rfl (Nat.le_of_ble_eq_true rfl) ⟨Nat.le_of_ble_eq_true rfl, Nat.le_of_ble_eq_true rfl⟩ ⟨Nat.le_of_ble_eq_true rfl, Nat.le_of_ble_eq_true rfl⟩ ?_
  show vm_J _ _ _ (21, (0, 0), [.ref 0, .int (nI t), .int e, .ref (139 + 1 + 2 * t)], [.int 0]) (G, I, F) _ _
  refine vm_J.go vm_q142 (k := 1) (hs := []) (f' := (bif vm_ic .ne 0 0 then 28 else 24, (0, 0), [.ref 0, .int (nI t), .int e, .ref (139 + 1 + 2 * t)], [])) (h' := (G, I, F)) (hs' := []) rfl rfl ?_
  refine vm_J.bF (by decide) ?_
  refine vm_J.go vm_q142 (k := 1) (hs := []) (f' := (27, (0, 0), [.ref 0, .int (nI t), .int e, .ref (139 + 1 + 2 * t)], [.long (-9223372036854775808)])) (h' := (G, I, F)) (hs' := []) rfl rfl ?_
  exact vm_J.end vm_q142 (en := (27, .lreturn, 1, [], .null)) rfl rfl vm_rL (Nat.zero_le _) (Nat.zero_le _) rfl
set_option maxHeartbeats 4000000 in
set_option maxRecDepth 20000 in
/-- DitherDesk.peek -/
theorem c_peek_y {l : Launch} {X : vm_Cx} {G : List vm_Sh} {I : Nat → Nat → Int32} {F : Nat → Nat → UInt32} {t : Nat} {m : Nat} {i : Nat} (hD : vm_isD G) (ht : t < 6) (hm : I (139 + 1 + 2 * t) 1 = nI m) (hm2 : m ≤ 150) (hi : i < m) : vm_K l X vm_M142 [.ref 0, .int (nI t), .int (nI i)] (G, I, F) (some (.long ((I (139 + 2 + 2 * t) i).toInt64))) (G, I, F) := by
  refine vm_K.mk (by decide) (Nat.le_of_ble_eq_true rfl) ?_
  show vm_J _ _ _ (0, (0, 0), [.ref 0, .int (nI t), .int (nI i), .retAddr 0], []) _ _ _
  refine vm_J.go vm_q142 (k := 2) (hs := []) (f' := (2, (0, 0), [.ref 0, .int (nI t), .int (nI i), .retAddr 0], [.int (nI t), .ref 0])) (h' := (G, I, F)) (hs' := []) rfl rfl ?_
  refine vm_J.call vm_q142 (Z := vm_M145) (n := 1) (k := 0) (mi := 145) (pc := 2) (en := (2, .invokevirtual 365, 3, [145, 1049, 0], .null)) rfl trivial rfl rfl vm_z145 (av := [.ref 0, .int (nI t)]) (rest := []) (m_tapeAt_n (o := 0) (n := 1) (v := 38) (t := 75) (cu := 112) (rf := 132) (rd := 135) (T := 139) (p := t) hD.d hD.t (by omega)) ⟨_, _, rfl, rfl, _, 10, _, hD.d, rfl, rfl, rfl⟩ (Nat.le_of_ble_eq_true rfl) ⟨Nat.le_of_ble_eq_true rfl, Nat.le_of_ble_eq_true rfl⟩ ⟨Nat.le_of_ble_eq_true rfl, Nat.le_of_ble_eq_true rfl⟩ ?_
  show vm_J _ _ _ (5, (0, 0), [.ref 0, .int (nI t), .int (nI i), .retAddr 0], [.ref (139 + 1 + 2 * t)]) (G, I, F) _ _
  refine vm_J.go vm_q142 (k := 7) (hs := [(10, 3, [.int 0, .int 0, .ref (139 + 2 + 2 * t)])]) (f' := (16, (0, 0), [.ref 0, .int (nI t), .int (nI i), .ref (139 + 1 + 2 * t)], [.int (I (139 + 1 + 2 * t) 1), .int 0, .int (nI i)])) (h' := (G, I, F)) (hs' := []) rfl (vm_b2 rfl (vm_b2 rfl (vm_b2 rfl (vm_b2 rfl (vm_b2 rfl (vm_b2 rfl (vm_b2 (vm_b2 (vm_hG (hD.t.2.1 t ht)) rfl) rfl))))))) ?_
  rw [(hm : I (139 + 1 + 2 * t) 1 = nI m)]
  refine vm_J.go vm_q142 (k := 2) (hs := []) (f' := (18, (0, 0), [.ref 0, .int (nI t), .int (nI i), .ref (139 + 1 + 2 * t)], [.int ((nI m) - 1), .int 0, .int (nI i)])) (h' := (G, I, F)) (hs' := []) rfl rfl ?_
  refine vm_J.call vm_q142 (Z := vm_M151) (n := 3) (k := 1) (mi := 151) (pc := 18) (en := (18, .invokestatic 56, 3, [151, 420, 0], .null)) rfl trivial rfl rfl vm_z151 (av := [.int (nI i), .int 0, .int ((nI m) - 1)]) (rest := []) (m_isWithin_y (v := nI i) (a := 0) (b := (nI m) - 1) (vm_pl_n hi hm2)) rfl (Nat.le_of_ble_eq_true rfl) ⟨Nat.le_of_ble_eq_true rfl, Nat.le_of_ble_eq_true rfl⟩ ⟨Nat.le_of_ble_eq_true rfl, Nat.le_of_ble_eq_true rfl⟩ ?_
  show vm_J _ _ _ (21, (0, 0), [.ref 0, .int (nI t), .int (nI i), .ref (139 + 1 + 2 * t)], [.int 1]) (G, I, F) _ _
  refine vm_J.go vm_q142 (k := 1) (hs := []) (f' := (bif vm_ic .ne 1 0 then 28 else 24, (0, 0), [.ref 0, .int (nI t), .int (nI i), .ref (139 + 1 + 2 * t)], [])) (h' := (G, I, F)) (hs' := []) rfl rfl ?_
  refine vm_J.bT (by decide) ?_
  refine vm_J.go vm_q142 (k := 3) (hs := [(10, 3, [.int 0, .int 0, .ref (139 + 2 + 2 * t)])]) (f' := (33, (0, 0), [.ref 0, .int (nI t), .int (nI i), .ref (139 + 1 + 2 * t)], [.int (nI i), .ref (139 + 2 + 2 * t)])) (h' := (G, I, F)) (hs' := []) rfl (vm_b2 rfl (vm_b2 (vm_b2 (vm_hG (hD.t.2.1 t ht)) rfl) (vm_b2 rfl rfl))) ?_
  refine vm_J.call vm_q142 (Z := vm_M152) (n := 2) (k := 1) (mi := 152) (pc := 33) (en := (33, .invokestatic 118, 3, [152, 511, 0], .null)) rfl trivial rfl rfl vm_z152 (av := [.ref (139 + 2 + 2 * t), .int (nI i)]) (rest := []) (m_at_n (j := i) (hD.t.2.2 t ht) (by omega) (by omega)) rfl (Nat.le_of_ble_eq_true rfl) ⟨Nat.le_of_ble_eq_true rfl, Nat.le_of_ble_eq_true rfl⟩ ⟨Nat.le_of_ble_eq_true rfl, Nat.le_of_ble_eq_true rfl⟩ ?_
  show vm_J _ _ _ (36, (0, 0), [.ref 0, .int (nI t), .int (nI i), .ref (139 + 1 + 2 * t)], [.int (I (139 + 2 + 2 * t) i)]) (G, I, F) _ _
  refine vm_J.go vm_q142 (k := 1) (hs := []) (f' := (37, (0, 0), [.ref 0, .int (nI t), .int (nI i), .ref (139 + 1 + 2 * t)], [.long ((I (139 + 2 + 2 * t) i).toInt64)])) (h' := (G, I, F)) (hs' := []) rfl rfl ?_
  exact vm_J.end vm_q142 (en := (37, .lreturn, 1, [], .null)) rfl rfl vm_rL (Nat.zero_le _) (Nat.zero_le _) rfl
set_option maxHeartbeats 4000000 in
set_option maxRecDepth 20000 in
/-- DitherDesk.item -/
theorem c_item_x {l : Launch} {X : vm_Cx} {G : List vm_Sh} {I : Nat → Nat → Int32} {F : Nat → Nat → UInt32} {q : Int32} {e : Int32} {v : Int64} (hD : vm_isD G) (hx : ¬ (0 ≤ q ∧ q ≤ 5)) : vm_K l X vm_M141 [.ref 0, .int q, .int e, .long v] (G, I, F) (some (.int (-1))) (G, I, F) := by
  refine vm_K.mk (by decide) (Nat.le_of_ble_eq_true rfl) ?_
  show vm_J _ _ _ (0, (0, 0), [.ref 0, .int q, .int e, .long v, .retAddr 0, .retAddr 0], []) _ _ _
  refine vm_J.go vm_q141 (k := 2) (hs := []) (f' := (2, (0, 0), [.ref 0, .int q, .int e, .long v, .retAddr 0, .retAddr 0], [.int q, .ref 0])) (h' := (G, I, F)) (hs' := []) rfl rfl ?_
  refine vm_J.call vm_q141 (Z := vm_M145) (n := 1) (k := 0) (mi := 145) (pc := 2) (en := (2, .invokevirtual 365, 3, [145, 1049, 0], .null)) rfl trivial rfl rfl vm_z145 (av := [.ref 0, .int q]) (rest := []) (m_tapeAt_x (o := 0) (n := 1) (v := 38) (t := 75) (cu := 112) (rf := 132) (rd := 135) (T := 139) (p := q) hD.d hD.t (vm_nx hx)) ⟨_, _, rfl, rfl, _, 10, _, hD.d, rfl, rfl, rfl⟩ (Nat.le_of_ble_eq_true rfl) ⟨Nat.le_of_ble_eq_true rfl, Nat.le_of_ble_eq_true rfl⟩ ⟨Nat.le_of_ble_eq_true rfl, Nat.le_of_ble_eq_true rfl⟩ ?_
  show vm_J _ _ _ (5, (0, 0), [.ref 0, .int q, .int e, .long v, .retAddr 0, .retAddr 0], [.null]) (G, I, F) _ _
  refine vm_J.go vm_q141 (k := 4) (hs := []) (f' := (13, (0, 0), [.ref 0, .int q, .int e, .long v, .retAddr 0, .null], [.int (-1)])) (h' := (G, I, F)) (hs' := []) rfl rfl ?_
  exact vm_J.end vm_q141 (en := (13, .ireturn, 1, [], .null)) rfl rfl vm_rI (Nat.zero_le _) (Nat.zero_le _) rfl
set_option maxHeartbeats 4000000 in
set_option maxRecDepth 20000 in
/-- DitherDesk.item -/
theorem c_item_e {l : Launch} {X : vm_Cx} {G : List vm_Sh} {I : Nat → Nat → Int32} {F : Nat → Nat → UInt32} {t : Nat} {e : Int32} {v : Int64} (hD : vm_isD G) (ht : t < 6) (hso : I (139 + 1 + 2 * t) 0 = -1) : vm_K l X vm_M141 [.ref 0, .int (nI t), .int e, .long v] (G, I, F) (some (.int (-11))) (G, I, F) := by
  refine vm_K.mk (by decide) (Nat.le_of_ble_eq_true rfl) ?_
  show vm_J _ _ _ (0, (0, 0), [.ref 0, .int (nI t), .int e, .long v, .retAddr 0, .retAddr 0], []) _ _ _
  refine vm_J.go vm_q141 (k := 2) (hs := []) (f' := (2, (0, 0), [.ref 0, .int (nI t), .int e, .long v, .retAddr 0, .retAddr 0], [.int (nI t), .ref 0])) (h' := (G, I, F)) (hs' := []) rfl rfl ?_
  refine vm_J.call vm_q141 (Z := vm_M145) (n := 1) (k := 0) (mi := 145) (pc := 2) (en := (2, .invokevirtual 365, 3, [145, 1049, 0], .null)) rfl trivial rfl rfl vm_z145 (av := [.ref 0, .int (nI t)]) (rest := []) (m_tapeAt_n (o := 0) (n := 1) (v := 38) (t := 75) (cu := 112) (rf := 132) (rd := 135) (T := 139) (p := t) hD.d hD.t (by omega)) ⟨_, _, rfl, rfl, _, 10, _, hD.d, rfl, rfl, rfl⟩ (Nat.le_of_ble_eq_true rfl) ⟨Nat.le_of_ble_eq_true rfl, Nat.le_of_ble_eq_true rfl⟩ ⟨Nat.le_of_ble_eq_true rfl, Nat.le_of_ble_eq_true rfl⟩ ?_
  show vm_J _ _ _ (5, (0, 0), [.ref 0, .int (nI t), .int e, .long v, .retAddr 0, .retAddr 0], [.ref (139 + 1 + 2 * t)]) (G, I, F) _ _
  refine vm_J.go vm_q141 (k := 5) (hs := [(10, 3, [.int 0, .int 0, .ref (139 + 2 + 2 * t)])]) (f' := (19, (0, 0), [.ref 0, .int (nI t), .int e, .long v, .retAddr 0, .ref (139 + 1 + 2 * t)], [.int (I (139 + 1 + 2 * t) 0)])) (h' := (G, I, F)) (hs' := []) rfl (vm_b2 rfl (vm_b2 rfl (vm_b2 rfl (vm_b2 rfl (vm_b2 (vm_b2 (vm_hG (hD.t.2.1 t ht)) rfl) rfl))))) ?_
  rw [(hso : I (139 + 1 + 2 * t) 0 = (-1))]
  refine vm_J.go vm_q141 (k := 2) (hs := []) (f' := (bif vm_ic .ne (-1) (-1) then 26 else 23, (0, 0), [.ref 0, .int (nI t), .int e, .long v, .retAddr 0, .ref (139 + 1 + 2 * t)], [])) (h' := (G, I, F)) (hs' := []) rfl rfl ?_
  refine vm_J.bF (by decide) ?_
  refine vm_J.go vm_q141 (k := 1) (hs := []) (f' := (25, (0, 0), [.ref 0, .int (nI t), .int e, .long v, .retAddr 0, .ref (139 + 1 + 2 * t)], [.int (-11)])) (h' := (G, I, F)) (hs' := []) rfl rfl ?_
  exact vm_J.end vm_q141 (en := (25, .ireturn, 1, [], .null)) rfl rfl vm_rI (Nat.zero_le _) (Nat.zero_le _) rfl
set_option maxHeartbeats 4000000 in
set_option maxRecDepth 20000 in
/-- DitherDesk.item -/
theorem c_item_p {l : Launch} {X : vm_Cx} {G : List vm_Sh} {I : Nat → Nat → Int32} {F : Nat → Nat → UInt32} {t : Nat} {m : Nat} {e : Int32} {v : Int64} (hD : vm_isD G) (ht : t < 6) (hm : I (139 + 1 + 2 * t) 1 = nI m) (hm2 : m ≤ 150) (hso : ¬ I (139 + 1 + 2 * t) 0 = -1) (he : ¬ (0 ≤ e ∧ e ≤ nI m - 1)) : vm_K l X vm_M141 [.ref 0, .int (nI t), .int e, .long v] (G, I, F) (some (.int (-13))) (G, I, F) := by
  refine vm_K.mk (by decide) (Nat.le_of_ble_eq_true rfl) ?_
  show vm_J _ _ _ (0, (0, 0), [.ref 0, .int (nI t), .int e, .long v, .retAddr 0, .retAddr 0], []) _ _ _
  refine vm_J.go vm_q141 (k := 2) (hs := []) (f' := (2, (0, 0), [.ref 0, .int (nI t), .int e, .long v, .retAddr 0, .retAddr 0], [.int (nI t), .ref 0])) (h' := (G, I, F)) (hs' := []) rfl rfl ?_
  refine vm_J.call vm_q141 (Z := vm_M145) (n := 1) (k := 0) (mi := 145) (pc := 2) (en := (2, .invokevirtual 365, 3, [145, 1049, 0], .null)) rfl trivial rfl rfl vm_z145 (av := [.ref 0, .int (nI t)]) (rest := []) (m_tapeAt_n (o := 0) (n := 1) (v := 38) (t := 75) (cu := 112) (rf := 132) (rd := 135) (T := 139) (p := t) hD.d hD.t (by omega)) ⟨_, _, rfl, rfl, _, 10, _, hD.d, rfl, rfl, rfl⟩ (Nat.le_of_ble_eq_true rfl) ⟨Nat.le_of_ble_eq_true rfl, Nat.le_of_ble_eq_true rfl⟩ ⟨Nat.le_of_ble_eq_true rfl, Nat.le_of_ble_eq_true rfl⟩ ?_
  show vm_J _ _ _ (5, (0, 0), [.ref 0, .int (nI t), .int e, .long v, .retAddr 0, .retAddr 0], [.ref (139 + 1 + 2 * t)]) (G, I, F) _ _
  refine vm_J.go vm_q141 (k := 7) (hs := [(10, 3, [.int 0, .int 0, .ref (139 + 2 + 2 * t)])]) (f' := (bif vm_ic .ne (I (139 + 1 + 2 * t) 0) (-1) then 26 else 23, (0, 0), [.ref 0, .int (nI t), .int e, .long v, .retAddr 0, .ref (139 + 1 + 2 * t)], [])) (h' := (G, I, F)) (hs' := []) rfl (vm_b2 rfl (vm_b2 rfl (vm_b2 rfl (vm_b2 rfl (vm_b2 (vm_b2 (vm_hG (hD.t.2.1 t ht)) rfl) (vm_b2 rfl (vm_b2 rfl rfl))))))) ?_
  refine vm_J.bT (decide_eq_true hso) ?_
  refine vm_J.go vm_q141 (k := 4) (hs := [(10, 3, [.int 0, .int 0, .ref (139 + 2 + 2 * t)])]) (f' := (33, (0, 0), [.ref 0, .int (nI t), .int e, .long v, .retAddr 0, .ref (139 + 1 + 2 * t)], [.int (I (139 + 1 + 2 * t) 1), .int 0, .int e])) (h' := (G, I, F)) (hs' := []) rfl (vm_b2 rfl (vm_b2 rfl (vm_b2 rfl (vm_b2 (vm_b2 (vm_hG (hD.t.2.1 t ht)) rfl) rfl)))) ?_
  rw [(hm : I (139 + 1 + 2 * t) 1 = nI m)]
  refine vm_J.go vm_q141 (k := 2) (hs := []) (f' := (35, (0, 0), [.ref 0, .int (nI t), .int e, .long v, .retAddr 0, .ref (139 + 1 + 2 * t)], [.int ((nI m) - 1), .int 0, .int e])) (h' := (G, I, F)) (hs' := []) rfl rfl ?_
  refine vm_J.call vm_q141 (Z := vm_M151) (n := 3) (k := 1) (mi := 151) (pc := 35) (en := (35, .invokestatic 56, 3, [151, 420, 0], .null)) rfl trivial rfl rfl vm_z151 (av := [.int e, .int 0, .int ((nI m) - 1)]) (rest := []) (m_isWithin_n (v := e) (a := 0) (b := (nI m) - 1) he) rfl (Nat.le_of_ble_eq_true rfl) ⟨Nat.le_of_ble_eq_true rfl, Nat.le_of_ble_eq_true rfl⟩ ⟨Nat.le_of_ble_eq_true rfl, Nat.le_of_ble_eq_true rfl⟩ ?_
  show vm_J _ _ _ (38, (0, 0), [.ref 0, .int (nI t), .int e, .long v, .retAddr 0, .ref (139 + 1 + 2 * t)], [.int 0]) (G, I, F) _ _
  refine vm_J.go vm_q141 (k := 1) (hs := []) (f' := (bif vm_ic .ne 0 0 then 44 else 41, (0, 0), [.ref 0, .int (nI t), .int e, .long v, .retAddr 0, .ref (139 + 1 + 2 * t)], [])) (h' := (G, I, F)) (hs' := []) rfl rfl ?_
  refine vm_J.bF (by decide) ?_
  refine vm_J.go vm_q141 (k := 1) (hs := []) (f' := (43, (0, 0), [.ref 0, .int (nI t), .int e, .long v, .retAddr 0, .ref (139 + 1 + 2 * t)], [.int (-13)])) (h' := (G, I, F)) (hs' := []) rfl rfl ?_
  exact vm_J.end vm_q141 (en := (43, .ireturn, 1, [], .null)) rfl rfl vm_rI (Nat.zero_le _) (Nat.zero_le _) rfl
set_option maxHeartbeats 4000000 in
set_option maxRecDepth 20000 in
/-- DitherDesk.item -/
theorem c_item_0 {l : Launch} {X : vm_Cx} {G : List vm_Sh} {I : Nat → Nat → Int32} {F : Nat → Nat → UInt32} {t : Nat} {m : Nat} {i : Nat} {v : Int64} (hD : vm_isD G) (ht : t < 6) (hm : I (139 + 1 + 2 * t) 1 = nI m) (hm2 : m ≤ 150) (hso : I (139 + 1 + 2 * t) 0 = 0) (hi : i < m) : vm_K l X vm_M141 [.ref 0, .int (nI t), .int (nI i), .long v] (G, I, F) (some (.int 1)) (G, (vm_up I (139 + 2 + 2 * t) i v.toInt32.toInt8.toInt32), F) := by
  refine vm_K.mk (by decide) (Nat.le_of_ble_eq_true rfl) ?_
  show vm_J _ _ _ (0, (0, 0), [.ref 0, .int (nI t), .int (nI i), .long v, .retAddr 0, .retAddr 0], []) _ _ _
  refine vm_J.go vm_q141 (k := 2) (hs := []) (f' := (2, (0, 0), [.ref 0, .int (nI t), .int (nI i), .long v, .retAddr 0, .retAddr 0], [.int (nI t), .ref 0])) (h' := (G, I, F)) (hs' := []) rfl rfl ?_
  refine vm_J.call vm_q141 (Z := vm_M145) (n := 1) (k := 0) (mi := 145) (pc := 2) (en := (2, .invokevirtual 365, 3, [145, 1049, 0], .null)) rfl trivial rfl rfl vm_z145 (av := [.ref 0, .int (nI t)]) (rest := []) (m_tapeAt_n (o := 0) (n := 1) (v := 38) (t := 75) (cu := 112) (rf := 132) (rd := 135) (T := 139) (p := t) hD.d hD.t (by omega)) ⟨_, _, rfl, rfl, _, 10, _, hD.d, rfl, rfl, rfl⟩ (Nat.le_of_ble_eq_true rfl) ⟨Nat.le_of_ble_eq_true rfl, Nat.le_of_ble_eq_true rfl⟩ ⟨Nat.le_of_ble_eq_true rfl, Nat.le_of_ble_eq_true rfl⟩ ?_
  show vm_J _ _ _ (5, (0, 0), [.ref 0, .int (nI t), .int (nI i), .long v, .retAddr 0, .retAddr 0], [.ref (139 + 1 + 2 * t)]) (G, I, F) _ _
  refine vm_J.go vm_q141 (k := 5) (hs := [(10, 3, [.int 0, .int 0, .ref (139 + 2 + 2 * t)])]) (f' := (19, (0, 0), [.ref 0, .int (nI t), .int (nI i), .long v, .retAddr 0, .ref (139 + 1 + 2 * t)], [.int (I (139 + 1 + 2 * t) 0)])) (h' := (G, I, F)) (hs' := []) rfl (vm_b2 rfl (vm_b2 rfl (vm_b2 rfl (vm_b2 rfl (vm_b2 (vm_b2 (vm_hG (hD.t.2.1 t ht)) rfl) rfl))))) ?_
  rw [(hso : I (139 + 1 + 2 * t) 0 = 0)]
  refine vm_J.go vm_q141 (k := 2) (hs := []) (f' := (bif vm_ic .ne 0 (-1) then 26 else 23, (0, 0), [.ref 0, .int (nI t), .int (nI i), .long v, .retAddr 0, .ref (139 + 1 + 2 * t)], [])) (h' := (G, I, F)) (hs' := []) rfl rfl ?_
  refine vm_J.bT (by decide) ?_
  refine vm_J.go vm_q141 (k := 4) (hs := [(10, 3, [.int 0, .int 0, .ref (139 + 2 + 2 * t)])]) (f' := (33, (0, 0), [.ref 0, .int (nI t), .int (nI i), .long v, .retAddr 0, .ref (139 + 1 + 2 * t)], [.int (I (139 + 1 + 2 * t) 1), .int 0, .int (nI i)])) (h' := (G, I, F)) (hs' := []) rfl (vm_b2 rfl (vm_b2 rfl (vm_b2 rfl (vm_b2 (vm_b2 (vm_hG (hD.t.2.1 t ht)) rfl) rfl)))) ?_
  rw [(hm : I (139 + 1 + 2 * t) 1 = nI m)]
  refine vm_J.go vm_q141 (k := 2) (hs := []) (f' := (35, (0, 0), [.ref 0, .int (nI t), .int (nI i), .long v, .retAddr 0, .ref (139 + 1 + 2 * t)], [.int ((nI m) - 1), .int 0, .int (nI i)])) (h' := (G, I, F)) (hs' := []) rfl rfl ?_
  refine vm_J.call vm_q141 (Z := vm_M151) (n := 3) (k := 1) (mi := 151) (pc := 35) (en := (35, .invokestatic 56, 3, [151, 420, 0], .null)) rfl trivial rfl rfl vm_z151 (av := [.int (nI i), .int 0, .int ((nI m) - 1)]) (rest := []) (m_isWithin_y (v := nI i) (a := 0) (b := (nI m) - 1) (vm_pl_n hi hm2)) rfl (Nat.le_of_ble_eq_true rfl) ⟨Nat.le_of_ble_eq_true rfl, Nat.le_of_ble_eq_true rfl⟩ ⟨Nat.le_of_ble_eq_true rfl, Nat.le_of_ble_eq_true rfl⟩ ?_
  show vm_J _ _ _ (38, (0, 0), [.ref 0, .int (nI t), .int (nI i), .long v, .retAddr 0, .ref (139 + 1 + 2 * t)], [.int 1]) (G, I, F) _ _
  refine vm_J.go vm_q141 (k := 1) (hs := []) (f' := (bif vm_ic .ne 1 0 then 44 else 41, (0, 0), [.ref 0, .int (nI t), .int (nI i), .long v, .retAddr 0, .ref (139 + 1 + 2 * t)], [])) (h' := (G, I, F)) (hs' := []) rfl rfl ?_
  refine vm_J.bT (by decide) ?_
  refine vm_J.go vm_q141 (k := 5) (hs := [(10, 3, [.int 0, .int 0, .ref (139 + 2 + 2 * t)]), (10, 3, [.int 0, .int 0, .ref (139 + 2 + 2 * t)])]) (f' := (55, (0, 0), [.ref 0, .int (nI t), .int (nI i), .long v, .retAddr 0, .ref (139 + 1 + 2 * t)], [.int (I (139 + 1 + 2 * t) 0), .int (nI i), .ref (139 + 2 + 2 * t)])) (h' := (G, I, F)) (hs' := []) rfl (vm_b2 rfl (vm_b2 (vm_b2 (vm_hG (hD.t.2.1 t ht)) rfl) (vm_b2 rfl (vm_b2 rfl (vm_b2 (vm_b2 (vm_hG (hD.t.2.1 t ht)) rfl) rfl))))) ?_
  rw [(hso : I (139 + 1 + 2 * t) 0 = 0)]
  refine vm_J.go vm_q141 (k := 1) (hs := []) (f' := (56, (0, 0), [.ref 0, .int (nI t), .int (nI i), .long v, .retAddr 0, .ref (139 + 1 + 2 * t)], [.long v, .int 0, .int (nI i), .ref (139 + 2 + 2 * t)])) (h' := (G, I, F)) (hs' := []) rfl rfl ?_
  refine vm_J.call vm_q141 (Z := vm_M149) (n := 2) (k := 1) (mi := 149) (pc := 56) (en := (56, .invokestatic 390, 3, [149, 1088, 0], .null)) rfl trivial rfl rfl vm_z149 (av := [.int 0, .long v]) (rest := [.int (nI i), .ref (139 + 2 + 2 * t)]) (m_itemOf_0 (v := v)) rfl (Nat.le_of_ble_eq_true rfl) ⟨Nat.le_of_ble_eq_true rfl, Nat.le_of_ble_eq_true rfl⟩ ⟨Nat.le_of_ble_eq_true rfl, Nat.le_of_ble_eq_true rfl⟩ ?_
  show vm_J _ _ _ (59, (0, 0), [.ref 0, .int (nI t), .int (nI i), .long v, .retAddr 0, .ref (139 + 1 + 2 * t)], [.int v.toInt32.toInt8.toInt32, .int (nI i), .ref (139 + 2 + 2 * t)]) (G, I, F) _ _
  refine vm_J.call vm_q141 (Z := vm_M153) (n := 3) (k := 1) (mi := 153) (pc := 59) (en := (59, .invokestatic 92, 3, [153, 464, 0], .null)) rfl trivial rfl rfl vm_z153 (av := [.ref (139 + 2 + 2 * t), .int (nI i), .int v.toInt32.toInt8.toInt32]) (rest := []) (m_put_n (j := i) (v := v.toInt32.toInt8.toInt32) (hD.t.2.2 t ht) (by omega) (by omega)) rfl (Nat.le_of_ble_eq_true rfl) ⟨Nat.le_of_ble_eq_true rfl, Nat.le_of_ble_eq_true rfl⟩ ⟨Nat.le_of_ble_eq_true rfl, Nat.le_of_ble_eq_true rfl⟩ ?_
  show vm_J _ _ _ (62, (0, 0), [.ref 0, .int (nI t), .int (nI i), .long v, .retAddr 0, .ref (139 + 1 + 2 * t)], []) (G, (vm_up I (139 + 2 + 2 * t) i v.toInt32.toInt8.toInt32), F) _ _
  refine vm_J.go vm_q141 (k := 1) (hs := []) (f' := (63, (0, 0), [.ref 0, .int (nI t), .int (nI i), .long v, .retAddr 0, .ref (139 + 1 + 2 * t)], [.int 1])) (h' := (G, (vm_up I (139 + 2 + 2 * t) i v.toInt32.toInt8.toInt32), F)) (hs' := []) rfl rfl ?_
  exact vm_J.end vm_q141 (en := (63, .ireturn, 1, [], .null)) rfl rfl vm_rI (Nat.zero_le _) (Nat.zero_le _) rfl
set_option maxHeartbeats 4000000 in
set_option maxRecDepth 20000 in
/-- DitherDesk.item -/
theorem c_item_1 {l : Launch} {X : vm_Cx} {G : List vm_Sh} {I : Nat → Nat → Int32} {F : Nat → Nat → UInt32} {t : Nat} {m : Nat} {i : Nat} {v : Int64} (hD : vm_isD G) (ht : t < 6) (hm : I (139 + 1 + 2 * t) 1 = nI m) (hm2 : m ≤ 150) (hso : I (139 + 1 + 2 * t) 0 = 1) (hi : i < m) : vm_K l X vm_M141 [.ref 0, .int (nI t), .int (nI i), .long v] (G, I, F) (some (.int 1)) (G, (vm_up I (139 + 2 + 2 * t) i v.toInt32.toInt16.toInt32), F) := by
  refine vm_K.mk (by decide) (Nat.le_of_ble_eq_true rfl) ?_
  show vm_J _ _ _ (0, (0, 0), [.ref 0, .int (nI t), .int (nI i), .long v, .retAddr 0, .retAddr 0], []) _ _ _
  refine vm_J.go vm_q141 (k := 2) (hs := []) (f' := (2, (0, 0), [.ref 0, .int (nI t), .int (nI i), .long v, .retAddr 0, .retAddr 0], [.int (nI t), .ref 0])) (h' := (G, I, F)) (hs' := []) rfl rfl ?_
  refine vm_J.call vm_q141 (Z := vm_M145) (n := 1) (k := 0) (mi := 145) (pc := 2) (en := (2, .invokevirtual 365, 3, [145, 1049, 0], .null)) rfl trivial rfl rfl vm_z145 (av := [.ref 0, .int (nI t)]) (rest := []) (m_tapeAt_n (o := 0) (n := 1) (v := 38) (t := 75) (cu := 112) (rf := 132) (rd := 135) (T := 139) (p := t) hD.d hD.t (by omega)) ⟨_, _, rfl, rfl, _, 10, _, hD.d, rfl, rfl, rfl⟩ (Nat.le_of_ble_eq_true rfl) ⟨Nat.le_of_ble_eq_true rfl, Nat.le_of_ble_eq_true rfl⟩ ⟨Nat.le_of_ble_eq_true rfl, Nat.le_of_ble_eq_true rfl⟩ ?_
  show vm_J _ _ _ (5, (0, 0), [.ref 0, .int (nI t), .int (nI i), .long v, .retAddr 0, .retAddr 0], [.ref (139 + 1 + 2 * t)]) (G, I, F) _ _
  refine vm_J.go vm_q141 (k := 5) (hs := [(10, 3, [.int 0, .int 0, .ref (139 + 2 + 2 * t)])]) (f' := (19, (0, 0), [.ref 0, .int (nI t), .int (nI i), .long v, .retAddr 0, .ref (139 + 1 + 2 * t)], [.int (I (139 + 1 + 2 * t) 0)])) (h' := (G, I, F)) (hs' := []) rfl (vm_b2 rfl (vm_b2 rfl (vm_b2 rfl (vm_b2 rfl (vm_b2 (vm_b2 (vm_hG (hD.t.2.1 t ht)) rfl) rfl))))) ?_
  rw [(hso : I (139 + 1 + 2 * t) 0 = 1)]
  refine vm_J.go vm_q141 (k := 2) (hs := []) (f' := (bif vm_ic .ne 1 (-1) then 26 else 23, (0, 0), [.ref 0, .int (nI t), .int (nI i), .long v, .retAddr 0, .ref (139 + 1 + 2 * t)], [])) (h' := (G, I, F)) (hs' := []) rfl rfl ?_
  refine vm_J.bT (by decide) ?_
  refine vm_J.go vm_q141 (k := 4) (hs := [(10, 3, [.int 0, .int 0, .ref (139 + 2 + 2 * t)])]) (f' := (33, (0, 0), [.ref 0, .int (nI t), .int (nI i), .long v, .retAddr 0, .ref (139 + 1 + 2 * t)], [.int (I (139 + 1 + 2 * t) 1), .int 0, .int (nI i)])) (h' := (G, I, F)) (hs' := []) rfl (vm_b2 rfl (vm_b2 rfl (vm_b2 rfl (vm_b2 (vm_b2 (vm_hG (hD.t.2.1 t ht)) rfl) rfl)))) ?_
  rw [(hm : I (139 + 1 + 2 * t) 1 = nI m)]
  refine vm_J.go vm_q141 (k := 2) (hs := []) (f' := (35, (0, 0), [.ref 0, .int (nI t), .int (nI i), .long v, .retAddr 0, .ref (139 + 1 + 2 * t)], [.int ((nI m) - 1), .int 0, .int (nI i)])) (h' := (G, I, F)) (hs' := []) rfl rfl ?_
  refine vm_J.call vm_q141 (Z := vm_M151) (n := 3) (k := 1) (mi := 151) (pc := 35) (en := (35, .invokestatic 56, 3, [151, 420, 0], .null)) rfl trivial rfl rfl vm_z151 (av := [.int (nI i), .int 0, .int ((nI m) - 1)]) (rest := []) (m_isWithin_y (v := nI i) (a := 0) (b := (nI m) - 1) (vm_pl_n hi hm2)) rfl (Nat.le_of_ble_eq_true rfl) ⟨Nat.le_of_ble_eq_true rfl, Nat.le_of_ble_eq_true rfl⟩ ⟨Nat.le_of_ble_eq_true rfl, Nat.le_of_ble_eq_true rfl⟩ ?_
  show vm_J _ _ _ (38, (0, 0), [.ref 0, .int (nI t), .int (nI i), .long v, .retAddr 0, .ref (139 + 1 + 2 * t)], [.int 1]) (G, I, F) _ _
  refine vm_J.go vm_q141 (k := 1) (hs := []) (f' := (bif vm_ic .ne 1 0 then 44 else 41, (0, 0), [.ref 0, .int (nI t), .int (nI i), .long v, .retAddr 0, .ref (139 + 1 + 2 * t)], [])) (h' := (G, I, F)) (hs' := []) rfl rfl ?_
  refine vm_J.bT (by decide) ?_
  refine vm_J.go vm_q141 (k := 5) (hs := [(10, 3, [.int 0, .int 0, .ref (139 + 2 + 2 * t)]), (10, 3, [.int 0, .int 0, .ref (139 + 2 + 2 * t)])]) (f' := (55, (0, 0), [.ref 0, .int (nI t), .int (nI i), .long v, .retAddr 0, .ref (139 + 1 + 2 * t)], [.int (I (139 + 1 + 2 * t) 0), .int (nI i), .ref (139 + 2 + 2 * t)])) (h' := (G, I, F)) (hs' := []) rfl (vm_b2 rfl (vm_b2 (vm_b2 (vm_hG (hD.t.2.1 t ht)) rfl) (vm_b2 rfl (vm_b2 rfl (vm_b2 (vm_b2 (vm_hG (hD.t.2.1 t ht)) rfl) rfl))))) ?_
  rw [(hso : I (139 + 1 + 2 * t) 0 = 1)]
  refine vm_J.go vm_q141 (k := 1) (hs := []) (f' := (56, (0, 0), [.ref 0, .int (nI t), .int (nI i), .long v, .retAddr 0, .ref (139 + 1 + 2 * t)], [.long v, .int 1, .int (nI i), .ref (139 + 2 + 2 * t)])) (h' := (G, I, F)) (hs' := []) rfl rfl ?_
  refine vm_J.call vm_q141 (Z := vm_M149) (n := 2) (k := 1) (mi := 149) (pc := 56) (en := (56, .invokestatic 390, 3, [149, 1088, 0], .null)) rfl trivial rfl rfl vm_z149 (av := [.int 1, .long v]) (rest := [.int (nI i), .ref (139 + 2 + 2 * t)]) (m_itemOf_1 (v := v)) rfl (Nat.le_of_ble_eq_true rfl) ⟨Nat.le_of_ble_eq_true rfl, Nat.le_of_ble_eq_true rfl⟩ ⟨Nat.le_of_ble_eq_true rfl, Nat.le_of_ble_eq_true rfl⟩ ?_
  show vm_J _ _ _ (59, (0, 0), [.ref 0, .int (nI t), .int (nI i), .long v, .retAddr 0, .ref (139 + 1 + 2 * t)], [.int v.toInt32.toInt16.toInt32, .int (nI i), .ref (139 + 2 + 2 * t)]) (G, I, F) _ _
  refine vm_J.call vm_q141 (Z := vm_M153) (n := 3) (k := 1) (mi := 153) (pc := 59) (en := (59, .invokestatic 92, 3, [153, 464, 0], .null)) rfl trivial rfl rfl vm_z153 (av := [.ref (139 + 2 + 2 * t), .int (nI i), .int v.toInt32.toInt16.toInt32]) (rest := []) (m_put_n (j := i) (v := v.toInt32.toInt16.toInt32) (hD.t.2.2 t ht) (by omega) (by omega)) rfl (Nat.le_of_ble_eq_true rfl) ⟨Nat.le_of_ble_eq_true rfl, Nat.le_of_ble_eq_true rfl⟩ ⟨Nat.le_of_ble_eq_true rfl, Nat.le_of_ble_eq_true rfl⟩ ?_
  show vm_J _ _ _ (62, (0, 0), [.ref 0, .int (nI t), .int (nI i), .long v, .retAddr 0, .ref (139 + 1 + 2 * t)], []) (G, (vm_up I (139 + 2 + 2 * t) i v.toInt32.toInt16.toInt32), F) _ _
  refine vm_J.go vm_q141 (k := 1) (hs := []) (f' := (63, (0, 0), [.ref 0, .int (nI t), .int (nI i), .long v, .retAddr 0, .ref (139 + 1 + 2 * t)], [.int 1])) (h' := (G, (vm_up I (139 + 2 + 2 * t) i v.toInt32.toInt16.toInt32), F)) (hs' := []) rfl rfl ?_
  exact vm_J.end vm_q141 (en := (63, .ireturn, 1, [], .null)) rfl rfl vm_rI (Nat.zero_le _) (Nat.zero_le _) rfl
set_option maxHeartbeats 4000000 in
set_option maxRecDepth 20000 in
/-- DitherDesk.item -/
theorem c_item_2 {l : Launch} {X : vm_Cx} {G : List vm_Sh} {I : Nat → Nat → Int32} {F : Nat → Nat → UInt32} {t : Nat} {m : Nat} {i : Nat} {v : Int64} (hD : vm_isD G) (ht : t < 6) (hm : I (139 + 1 + 2 * t) 1 = nI m) (hm2 : m ≤ 150) (hso : I (139 + 1 + 2 * t) 0 = 2) (hi : i < m) : vm_K l X vm_M141 [.ref 0, .int (nI t), .int (nI i), .long v] (G, I, F) (some (.int 1)) (G, (vm_up I (139 + 2 + 2 * t) i v.toInt32), F) := by
  refine vm_K.mk (by decide) (Nat.le_of_ble_eq_true rfl) ?_
  show vm_J _ _ _ (0, (0, 0), [.ref 0, .int (nI t), .int (nI i), .long v, .retAddr 0, .retAddr 0], []) _ _ _
  refine vm_J.go vm_q141 (k := 2) (hs := []) (f' := (2, (0, 0), [.ref 0, .int (nI t), .int (nI i), .long v, .retAddr 0, .retAddr 0], [.int (nI t), .ref 0])) (h' := (G, I, F)) (hs' := []) rfl rfl ?_
  refine vm_J.call vm_q141 (Z := vm_M145) (n := 1) (k := 0) (mi := 145) (pc := 2) (en := (2, .invokevirtual 365, 3, [145, 1049, 0], .null)) rfl trivial rfl rfl vm_z145 (av := [.ref 0, .int (nI t)]) (rest := []) (m_tapeAt_n (o := 0) (n := 1) (v := 38) (t := 75) (cu := 112) (rf := 132) (rd := 135) (T := 139) (p := t) hD.d hD.t (by omega)) ⟨_, _, rfl, rfl, _, 10, _, hD.d, rfl, rfl, rfl⟩ (Nat.le_of_ble_eq_true rfl) ⟨Nat.le_of_ble_eq_true rfl, Nat.le_of_ble_eq_true rfl⟩ ⟨Nat.le_of_ble_eq_true rfl, Nat.le_of_ble_eq_true rfl⟩ ?_
  show vm_J _ _ _ (5, (0, 0), [.ref 0, .int (nI t), .int (nI i), .long v, .retAddr 0, .retAddr 0], [.ref (139 + 1 + 2 * t)]) (G, I, F) _ _
  refine vm_J.go vm_q141 (k := 5) (hs := [(10, 3, [.int 0, .int 0, .ref (139 + 2 + 2 * t)])]) (f' := (19, (0, 0), [.ref 0, .int (nI t), .int (nI i), .long v, .retAddr 0, .ref (139 + 1 + 2 * t)], [.int (I (139 + 1 + 2 * t) 0)])) (h' := (G, I, F)) (hs' := []) rfl (vm_b2 rfl (vm_b2 rfl (vm_b2 rfl (vm_b2 rfl (vm_b2 (vm_b2 (vm_hG (hD.t.2.1 t ht)) rfl) rfl))))) ?_
  rw [(hso : I (139 + 1 + 2 * t) 0 = 2)]
  refine vm_J.go vm_q141 (k := 2) (hs := []) (f' := (bif vm_ic .ne 2 (-1) then 26 else 23, (0, 0), [.ref 0, .int (nI t), .int (nI i), .long v, .retAddr 0, .ref (139 + 1 + 2 * t)], [])) (h' := (G, I, F)) (hs' := []) rfl rfl ?_
  refine vm_J.bT (by decide) ?_
  refine vm_J.go vm_q141 (k := 4) (hs := [(10, 3, [.int 0, .int 0, .ref (139 + 2 + 2 * t)])]) (f' := (33, (0, 0), [.ref 0, .int (nI t), .int (nI i), .long v, .retAddr 0, .ref (139 + 1 + 2 * t)], [.int (I (139 + 1 + 2 * t) 1), .int 0, .int (nI i)])) (h' := (G, I, F)) (hs' := []) rfl (vm_b2 rfl (vm_b2 rfl (vm_b2 rfl (vm_b2 (vm_b2 (vm_hG (hD.t.2.1 t ht)) rfl) rfl)))) ?_
  rw [(hm : I (139 + 1 + 2 * t) 1 = nI m)]
  refine vm_J.go vm_q141 (k := 2) (hs := []) (f' := (35, (0, 0), [.ref 0, .int (nI t), .int (nI i), .long v, .retAddr 0, .ref (139 + 1 + 2 * t)], [.int ((nI m) - 1), .int 0, .int (nI i)])) (h' := (G, I, F)) (hs' := []) rfl rfl ?_
  refine vm_J.call vm_q141 (Z := vm_M151) (n := 3) (k := 1) (mi := 151) (pc := 35) (en := (35, .invokestatic 56, 3, [151, 420, 0], .null)) rfl trivial rfl rfl vm_z151 (av := [.int (nI i), .int 0, .int ((nI m) - 1)]) (rest := []) (m_isWithin_y (v := nI i) (a := 0) (b := (nI m) - 1) (vm_pl_n hi hm2)) rfl (Nat.le_of_ble_eq_true rfl) ⟨Nat.le_of_ble_eq_true rfl, Nat.le_of_ble_eq_true rfl⟩ ⟨Nat.le_of_ble_eq_true rfl, Nat.le_of_ble_eq_true rfl⟩ ?_
  show vm_J _ _ _ (38, (0, 0), [.ref 0, .int (nI t), .int (nI i), .long v, .retAddr 0, .ref (139 + 1 + 2 * t)], [.int 1]) (G, I, F) _ _
  refine vm_J.go vm_q141 (k := 1) (hs := []) (f' := (bif vm_ic .ne 1 0 then 44 else 41, (0, 0), [.ref 0, .int (nI t), .int (nI i), .long v, .retAddr 0, .ref (139 + 1 + 2 * t)], [])) (h' := (G, I, F)) (hs' := []) rfl rfl ?_
  refine vm_J.bT (by decide) ?_
  refine vm_J.go vm_q141 (k := 5) (hs := [(10, 3, [.int 0, .int 0, .ref (139 + 2 + 2 * t)]), (10, 3, [.int 0, .int 0, .ref (139 + 2 + 2 * t)])]) (f' := (55, (0, 0), [.ref 0, .int (nI t), .int (nI i), .long v, .retAddr 0, .ref (139 + 1 + 2 * t)], [.int (I (139 + 1 + 2 * t) 0), .int (nI i), .ref (139 + 2 + 2 * t)])) (h' := (G, I, F)) (hs' := []) rfl (vm_b2 rfl (vm_b2 (vm_b2 (vm_hG (hD.t.2.1 t ht)) rfl) (vm_b2 rfl (vm_b2 rfl (vm_b2 (vm_b2 (vm_hG (hD.t.2.1 t ht)) rfl) rfl))))) ?_
  rw [(hso : I (139 + 1 + 2 * t) 0 = 2)]
  refine vm_J.go vm_q141 (k := 1) (hs := []) (f' := (56, (0, 0), [.ref 0, .int (nI t), .int (nI i), .long v, .retAddr 0, .ref (139 + 1 + 2 * t)], [.long v, .int 2, .int (nI i), .ref (139 + 2 + 2 * t)])) (h' := (G, I, F)) (hs' := []) rfl rfl ?_
  refine vm_J.call vm_q141 (Z := vm_M149) (n := 2) (k := 1) (mi := 149) (pc := 56) (en := (56, .invokestatic 390, 3, [149, 1088, 0], .null)) rfl trivial rfl rfl vm_z149 (av := [.int 2, .long v]) (rest := [.int (nI i), .ref (139 + 2 + 2 * t)]) (m_itemOf_2 (v := v)) rfl (Nat.le_of_ble_eq_true rfl) ⟨Nat.le_of_ble_eq_true rfl, Nat.le_of_ble_eq_true rfl⟩ ⟨Nat.le_of_ble_eq_true rfl, Nat.le_of_ble_eq_true rfl⟩ ?_
  show vm_J _ _ _ (59, (0, 0), [.ref 0, .int (nI t), .int (nI i), .long v, .retAddr 0, .ref (139 + 1 + 2 * t)], [.int v.toInt32, .int (nI i), .ref (139 + 2 + 2 * t)]) (G, I, F) _ _
  refine vm_J.call vm_q141 (Z := vm_M153) (n := 3) (k := 1) (mi := 153) (pc := 59) (en := (59, .invokestatic 92, 3, [153, 464, 0], .null)) rfl trivial rfl rfl vm_z153 (av := [.ref (139 + 2 + 2 * t), .int (nI i), .int v.toInt32]) (rest := []) (m_put_n (j := i) (v := v.toInt32) (hD.t.2.2 t ht) (by omega) (by omega)) rfl (Nat.le_of_ble_eq_true rfl) ⟨Nat.le_of_ble_eq_true rfl, Nat.le_of_ble_eq_true rfl⟩ ⟨Nat.le_of_ble_eq_true rfl, Nat.le_of_ble_eq_true rfl⟩ ?_
  show vm_J _ _ _ (62, (0, 0), [.ref 0, .int (nI t), .int (nI i), .long v, .retAddr 0, .ref (139 + 1 + 2 * t)], []) (G, (vm_up I (139 + 2 + 2 * t) i v.toInt32), F) _ _
  refine vm_J.go vm_q141 (k := 1) (hs := []) (f' := (63, (0, 0), [.ref 0, .int (nI t), .int (nI i), .long v, .retAddr 0, .ref (139 + 1 + 2 * t)], [.int 1])) (h' := (G, (vm_up I (139 + 2 + 2 * t) i v.toInt32), F)) (hs' := []) rfl rfl ?_
  exact vm_J.end vm_q141 (en := (63, .ireturn, 1, [], .null)) rfl rfl vm_rI (Nat.zero_le _) (Nat.zero_le _) rfl
set_option maxHeartbeats 4000000 in
set_option maxRecDepth 20000 in
/-- DitherDesk.twin -/
theorem c_twin_xa {l : Launch} {X : vm_Cx} {G : List vm_Sh} {I : Nat → Nat → Int32} {F : Nat → Nat → UInt32} {q : Int32} {q2 : Int32} (hD : vm_isD G) (hx : ¬ (0 ≤ q ∧ q ≤ 5)) (hx2 : ¬ (0 ≤ q2 ∧ q2 ≤ 5)) : vm_K l X vm_M143 [.ref 0, .int q, .int q2] (G, I, F) (some (.int (-1))) (G, I, F) := by
  refine vm_K.mk (by decide) (Nat.le_of_ble_eq_true rfl) ?_
  show vm_J _ _ _ (0, (0, 0), [.ref 0, .int q, .int q2, .retAddr 0, .retAddr 0], []) _ _ _
  refine vm_J.go vm_q143 (k := 2) (hs := []) (f' := (2, (0, 0), [.ref 0, .int q, .int q2, .retAddr 0, .retAddr 0], [.int q, .ref 0])) (h' := (G, I, F)) (hs' := []) rfl rfl ?_
  refine vm_J.call vm_q143 (Z := vm_M145) (n := 1) (k := 0) (mi := 145) (pc := 2) (en := (2, .invokevirtual 365, 3, [145, 1049, 0], .null)) rfl trivial rfl rfl vm_z145 (av := [.ref 0, .int q]) (rest := []) (m_tapeAt_x (o := 0) (n := 1) (v := 38) (t := 75) (cu := 112) (rf := 132) (rd := 135) (T := 139) (p := q) hD.d hD.t (vm_nx hx)) ⟨_, _, rfl, rfl, _, 10, _, hD.d, rfl, rfl, rfl⟩ (Nat.le_of_ble_eq_true rfl) ⟨Nat.le_of_ble_eq_true rfl, Nat.le_of_ble_eq_true rfl⟩ ⟨Nat.le_of_ble_eq_true rfl, Nat.le_of_ble_eq_true rfl⟩ ?_
  show vm_J _ _ _ (5, (0, 0), [.ref 0, .int q, .int q2, .retAddr 0, .retAddr 0], [.null]) (G, I, F) _ _
  refine vm_J.go vm_q143 (k := 3) (hs := []) (f' := (8, (0, 0), [.ref 0, .int q, .int q2, .null, .retAddr 0], [.int q2, .ref 0])) (h' := (G, I, F)) (hs' := []) rfl rfl ?_
  refine vm_J.call vm_q143 (Z := vm_M145) (n := 1) (k := 0) (mi := 145) (pc := 8) (en := (8, .invokevirtual 365, 3, [145, 1049, 0], .null)) rfl trivial rfl rfl vm_z145 (av := [.ref 0, .int q2]) (rest := []) (m_tapeAt_x (o := 0) (n := 1) (v := 38) (t := 75) (cu := 112) (rf := 132) (rd := 135) (T := 139) (p := q2) hD.d hD.t (vm_nx hx2)) ⟨_, _, rfl, rfl, _, 10, _, hD.d, rfl, rfl, rfl⟩ (Nat.le_of_ble_eq_true rfl) ⟨Nat.le_of_ble_eq_true rfl, Nat.le_of_ble_eq_true rfl⟩ ⟨Nat.le_of_ble_eq_true rfl, Nat.le_of_ble_eq_true rfl⟩ ?_
  show vm_J _ _ _ (11, (0, 0), [.ref 0, .int q, .int q2, .null, .retAddr 0], [.null]) (G, I, F) _ _
  refine vm_J.go vm_q143 (k := 4) (hs := []) (f' := (23, (0, 0), [.ref 0, .int q, .int q2, .null, .null], [.int (-1)])) (h' := (G, I, F)) (hs' := []) rfl rfl ?_
  exact vm_J.end vm_q143 (en := (23, .ireturn, 1, [], .null)) rfl rfl vm_rI (Nat.zero_le _) (Nat.zero_le _) rfl
set_option maxHeartbeats 4000000 in
set_option maxRecDepth 20000 in
/-- DitherDesk.twin -/
theorem c_twin_xb {l : Launch} {X : vm_Cx} {G : List vm_Sh} {I : Nat → Nat → Int32} {F : Nat → Nat → UInt32} {q : Int32} {o : Nat} (hD : vm_isD G) (hx : ¬ (0 ≤ q ∧ q ≤ 5)) (ho : o < 6) : vm_K l X vm_M143 [.ref 0, .int q, .int (nI o)] (G, I, F) (some (.int (-1))) (G, I, F) := by
  refine vm_K.mk (by decide) (Nat.le_of_ble_eq_true rfl) ?_
  show vm_J _ _ _ (0, (0, 0), [.ref 0, .int q, .int (nI o), .retAddr 0, .retAddr 0], []) _ _ _
  refine vm_J.go vm_q143 (k := 2) (hs := []) (f' := (2, (0, 0), [.ref 0, .int q, .int (nI o), .retAddr 0, .retAddr 0], [.int q, .ref 0])) (h' := (G, I, F)) (hs' := []) rfl rfl ?_
  refine vm_J.call vm_q143 (Z := vm_M145) (n := 1) (k := 0) (mi := 145) (pc := 2) (en := (2, .invokevirtual 365, 3, [145, 1049, 0], .null)) rfl trivial rfl rfl vm_z145 (av := [.ref 0, .int q]) (rest := []) (m_tapeAt_x (o := 0) (n := 1) (v := 38) (t := 75) (cu := 112) (rf := 132) (rd := 135) (T := 139) (p := q) hD.d hD.t (vm_nx hx)) ⟨_, _, rfl, rfl, _, 10, _, hD.d, rfl, rfl, rfl⟩ (Nat.le_of_ble_eq_true rfl) ⟨Nat.le_of_ble_eq_true rfl, Nat.le_of_ble_eq_true rfl⟩ ⟨Nat.le_of_ble_eq_true rfl, Nat.le_of_ble_eq_true rfl⟩ ?_
  show vm_J _ _ _ (5, (0, 0), [.ref 0, .int q, .int (nI o), .retAddr 0, .retAddr 0], [.null]) (G, I, F) _ _
  refine vm_J.go vm_q143 (k := 3) (hs := []) (f' := (8, (0, 0), [.ref 0, .int q, .int (nI o), .null, .retAddr 0], [.int (nI o), .ref 0])) (h' := (G, I, F)) (hs' := []) rfl rfl ?_
  refine vm_J.call vm_q143 (Z := vm_M145) (n := 1) (k := 0) (mi := 145) (pc := 8) (en := (8, .invokevirtual 365, 3, [145, 1049, 0], .null)) rfl trivial rfl rfl vm_z145 (av := [.ref 0, .int (nI o)]) (rest := []) (m_tapeAt_n (o := 0) (n := 1) (v := 38) (t := 75) (cu := 112) (rf := 132) (rd := 135) (T := 139) (p := o) hD.d hD.t (by omega)) ⟨_, _, rfl, rfl, _, 10, _, hD.d, rfl, rfl, rfl⟩ (Nat.le_of_ble_eq_true rfl) ⟨Nat.le_of_ble_eq_true rfl, Nat.le_of_ble_eq_true rfl⟩ ⟨Nat.le_of_ble_eq_true rfl, Nat.le_of_ble_eq_true rfl⟩ ?_
  show vm_J _ _ _ (11, (0, 0), [.ref 0, .int q, .int (nI o), .null, .retAddr 0], [.ref (139 + 1 + 2 * o)]) (G, I, F) _ _
  refine vm_J.go vm_q143 (k := 4) (hs := []) (f' := (23, (0, 0), [.ref 0, .int q, .int (nI o), .null, .ref (139 + 1 + 2 * o)], [.int (-1)])) (h' := (G, I, F)) (hs' := []) rfl rfl ?_
  exact vm_J.end vm_q143 (en := (23, .ireturn, 1, [], .null)) rfl rfl vm_rI (Nat.zero_le _) (Nat.zero_le _) rfl
set_option maxHeartbeats 4000000 in
set_option maxRecDepth 20000 in
/-- DitherDesk.twin -/
theorem c_twin_x2 {l : Launch} {X : vm_Cx} {G : List vm_Sh} {I : Nat → Nat → Int32} {F : Nat → Nat → UInt32} {t : Nat} {q : Int32} (hD : vm_isD G) (ht : t < 6) (hx : ¬ (0 ≤ q ∧ q ≤ 5)) : vm_K l X vm_M143 [.ref 0, .int (nI t), .int q] (G, I, F) (some (.int (-1))) (G, I, F) := by
  refine vm_K.mk (by decide) (Nat.le_of_ble_eq_true rfl) ?_
  show vm_J _ _ _ (0, (0, 0), [.ref 0, .int (nI t), .int q, .retAddr 0, .retAddr 0], []) _ _ _
  refine vm_J.go vm_q143 (k := 2) (hs := []) (f' := (2, (0, 0), [.ref 0, .int (nI t), .int q, .retAddr 0, .retAddr 0], [.int (nI t), .ref 0])) (h' := (G, I, F)) (hs' := []) rfl rfl ?_
  refine vm_J.call vm_q143 (Z := vm_M145) (n := 1) (k := 0) (mi := 145) (pc := 2) (en := (2, .invokevirtual 365, 3, [145, 1049, 0], .null)) rfl trivial rfl rfl vm_z145 (av := [.ref 0, .int (nI t)]) (rest := []) (m_tapeAt_n (o := 0) (n := 1) (v := 38) (t := 75) (cu := 112) (rf := 132) (rd := 135) (T := 139) (p := t) hD.d hD.t (by omega)) ⟨_, _, rfl, rfl, _, 10, _, hD.d, rfl, rfl, rfl⟩ (Nat.le_of_ble_eq_true rfl) ⟨Nat.le_of_ble_eq_true rfl, Nat.le_of_ble_eq_true rfl⟩ ⟨Nat.le_of_ble_eq_true rfl, Nat.le_of_ble_eq_true rfl⟩ ?_
  show vm_J _ _ _ (5, (0, 0), [.ref 0, .int (nI t), .int q, .retAddr 0, .retAddr 0], [.ref (139 + 1 + 2 * t)]) (G, I, F) _ _
  refine vm_J.go vm_q143 (k := 3) (hs := []) (f' := (8, (0, 0), [.ref 0, .int (nI t), .int q, .ref (139 + 1 + 2 * t), .retAddr 0], [.int q, .ref 0])) (h' := (G, I, F)) (hs' := []) rfl rfl ?_
  refine vm_J.call vm_q143 (Z := vm_M145) (n := 1) (k := 0) (mi := 145) (pc := 8) (en := (8, .invokevirtual 365, 3, [145, 1049, 0], .null)) rfl trivial rfl rfl vm_z145 (av := [.ref 0, .int q]) (rest := []) (m_tapeAt_x (o := 0) (n := 1) (v := 38) (t := 75) (cu := 112) (rf := 132) (rd := 135) (T := 139) (p := q) hD.d hD.t (vm_nx hx)) ⟨_, _, rfl, rfl, _, 10, _, hD.d, rfl, rfl, rfl⟩ (Nat.le_of_ble_eq_true rfl) ⟨Nat.le_of_ble_eq_true rfl, Nat.le_of_ble_eq_true rfl⟩ ⟨Nat.le_of_ble_eq_true rfl, Nat.le_of_ble_eq_true rfl⟩ ?_
  show vm_J _ _ _ (11, (0, 0), [.ref 0, .int (nI t), .int q, .ref (139 + 1 + 2 * t), .retAddr 0], [.null]) (G, I, F) _ _
  refine vm_J.go vm_q143 (k := 6) (hs := []) (f' := (23, (0, 0), [.ref 0, .int (nI t), .int q, .ref (139 + 1 + 2 * t), .null], [.int (-1)])) (h' := (G, I, F)) (hs' := []) rfl rfl ?_
  exact vm_J.end vm_q143 (en := (23, .ireturn, 1, [], .null)) rfl rfl vm_rI (Nat.zero_le _) (Nat.zero_le _) rfl
theorem vm_bA_1 (I : Nat → Nat → Int32) (o a o2 a2 : Nat) (h : o ≠ a) (h2 : o2 ≠ o) : vm_bA I o a o2 a2 o 1 = I o2 1 := by
  unfold vm_bA
  rw [vm_cp_f _ _ _ _ _ h, vm_up_h, vm_up_o2 _ _ _ _ _ _ h2]
set_option maxHeartbeats 4000000 in
set_option maxRecDepth 20000 in
/-- DitherDesk.twin -/
theorem c_twin_y {l : Launch} {X : vm_Cx} {G : List vm_Sh} {I : Nat → Nat → Int32} {F : Nat → Nat → UInt32} {t : Nat} {o : Nat} {m : Nat} (hD : vm_isD G) (ht : t < 6) (ho : o < 6) (hm : I (139 + 1 + 2 * o) 1 = nI m) (hne : ¬ t = o) : vm_K l X vm_M143 [.ref 0, .int (nI t), .int (nI o)] (G, I, F) (some (.int (nI m))) (G, (vm_bA I (139 + 1 + 2 * t) (139 + 2 + 2 * t) (139 + 1 + 2 * o) (139 + 2 + 2 * o)), F) := by
  refine vm_K.mk (by decide) (Nat.le_of_ble_eq_true rfl) ?_
  show vm_J _ _ _ (0, (0, 0), [.ref 0, .int (nI t), .int (nI o), .retAddr 0, .retAddr 0], []) _ _ _
  refine vm_J.go vm_q143 (k := 2) (hs := []) (f' := (2, (0, 0), [.ref 0, .int (nI t), .int (nI o), .retAddr 0, .retAddr 0], [.int (nI t), .ref 0])) (h' := (G, I, F)) (hs' := []) rfl rfl ?_
  refine vm_J.call vm_q143 (Z := vm_M145) (n := 1) (k := 0) (mi := 145) (pc := 2) (en := (2, .invokevirtual 365, 3, [145, 1049, 0], .null)) rfl trivial rfl rfl vm_z145 (av := [.ref 0, .int (nI t)]) (rest := []) (m_tapeAt_n (o := 0) (n := 1) (v := 38) (t := 75) (cu := 112) (rf := 132) (rd := 135) (T := 139) (p := t) hD.d hD.t (by omega)) ⟨_, _, rfl, rfl, _, 10, _, hD.d, rfl, rfl, rfl⟩ (Nat.le_of_ble_eq_true rfl) ⟨Nat.le_of_ble_eq_true rfl, Nat.le_of_ble_eq_true rfl⟩ ⟨Nat.le_of_ble_eq_true rfl, Nat.le_of_ble_eq_true rfl⟩ ?_
  show vm_J _ _ _ (5, (0, 0), [.ref 0, .int (nI t), .int (nI o), .retAddr 0, .retAddr 0], [.ref (139 + 1 + 2 * t)]) (G, I, F) _ _
  refine vm_J.go vm_q143 (k := 3) (hs := []) (f' := (8, (0, 0), [.ref 0, .int (nI t), .int (nI o), .ref (139 + 1 + 2 * t), .retAddr 0], [.int (nI o), .ref 0])) (h' := (G, I, F)) (hs' := []) rfl rfl ?_
  refine vm_J.call vm_q143 (Z := vm_M145) (n := 1) (k := 0) (mi := 145) (pc := 8) (en := (8, .invokevirtual 365, 3, [145, 1049, 0], .null)) rfl trivial rfl rfl vm_z145 (av := [.ref 0, .int (nI o)]) (rest := []) (m_tapeAt_n (o := 0) (n := 1) (v := 38) (t := 75) (cu := 112) (rf := 132) (rd := 135) (T := 139) (p := o) hD.d hD.t (by omega)) ⟨_, _, rfl, rfl, _, 10, _, hD.d, rfl, rfl, rfl⟩ (Nat.le_of_ble_eq_true rfl) ⟨Nat.le_of_ble_eq_true rfl, Nat.le_of_ble_eq_true rfl⟩ ⟨Nat.le_of_ble_eq_true rfl, Nat.le_of_ble_eq_true rfl⟩ ?_
  show vm_J _ _ _ (11, (0, 0), [.ref 0, .int (nI t), .int (nI o), .ref (139 + 1 + 2 * t), .retAddr 0], [.ref (139 + 1 + 2 * o)]) (G, I, F) _ _
  refine vm_J.go vm_q143 (k := 7) (hs := []) (f' := (27, (0, 0), [.ref 0, .int (nI t), .int (nI o), .ref (139 + 1 + 2 * t), .ref (139 + 1 + 2 * o)], [.ref (139 + 1 + 2 * o), .ref (139 + 1 + 2 * t)])) (h' := (G, I, F)) (hs' := []) rfl rfl ?_
  refine vm_J.call vm_q143 (Z := vm_M89) (n := 1) (k := 0) (mi := 89) (pc := 27) (en := (27, .invokevirtual 394, 3, [89, 1099, 0], .null)) rfl trivial rfl rfl vm_z89 (av := [.ref (139 + 1 + 2 * t), .ref (139 + 1 + 2 * o)]) (rest := []) (m_Tape_become (o := 139 + 1 + 2 * t) (o2 := 139 + 1 + 2 * o) (a := 139 + 2 + 2 * t) (a2 := 139 + 2 + 2 * o) (hD.t.2.1 t ht) (hD.t.2.1 o ho) (hD.t.2.2 t ht) (hD.t.2.2 o ho) (by omega)) ⟨_, _, rfl, rfl, _, 8, _, (hD.t.2.1 t ht), rfl, rfl, rfl⟩ (Nat.le_of_ble_eq_true rfl) ⟨Nat.le_of_ble_eq_true rfl, Nat.le_of_ble_eq_true rfl⟩ ⟨Nat.le_of_ble_eq_true rfl, Nat.le_of_ble_eq_true rfl⟩ ?_
  show vm_J _ _ _ (30, (0, 0), [.ref 0, .int (nI t), .int (nI o), .ref (139 + 1 + 2 * t), .ref (139 + 1 + 2 * o)], []) (G, (vm_bA I (139 + 1 + 2 * t) (139 + 2 + 2 * t) (139 + 1 + 2 * o) (139 + 2 + 2 * o)), F) _ _
  refine vm_J.go vm_q143 (k := 2) (hs := [(10, 3, [.int 0, .int 0, .ref (139 + 2 + 2 * t)])]) (f' := (34, (0, 0), [.ref 0, .int (nI t), .int (nI o), .ref (139 + 1 + 2 * t), .ref (139 + 1 + 2 * o)], [.int ((vm_bA I (139 + 1 + 2 * t) (139 + 2 + 2 * t) (139 + 1 + 2 * o) (139 + 2 + 2 * o)) (139 + 1 + 2 * t) 1)])) (h' := (G, (vm_bA I (139 + 1 + 2 * t) (139 + 2 + 2 * t) (139 + 1 + 2 * o) (139 + 2 + 2 * o)), F)) (hs' := []) rfl (vm_b2 rfl (vm_b2 (vm_b2 (vm_hG (hD.t.2.1 t ht)) rfl) rfl)) ?_
  rw [((Eq.trans (vm_bA_1 _ _ _ _ _ (by omega) (by omega)) hm) : (vm_bA I (139 + 1 + 2 * t) (139 + 2 + 2 * t) (139 + 1 + 2 * o) (139 + 2 + 2 * o)) (139 + 1 + 2 * t) 1 = nI m)]
  exact vm_J.end vm_q143 (en := (34, .ireturn, 1, [], .null)) rfl rfl vm_rI (Nat.zero_le _) (Nat.zero_le _) rfl
set_option maxHeartbeats 4000000 in
set_option maxRecDepth 20000 in
/-- DitherDesk.twin -/
theorem c_twin_z {l : Launch} {X : vm_Cx} {G : List vm_Sh} {I : Nat → Nat → Int32} {F : Nat → Nat → UInt32} {t : Nat} {m : Nat} (hD : vm_isD G) (ht : t < 6) (hm : I (139 + 1 + 2 * t) 1 = nI m) : vm_K l X vm_M143 [.ref 0, .int (nI t), .int (nI t)] (G, I, F) (some (.int (nI m))) (G, I, F) := by
  refine vm_K.mk (by decide) (Nat.le_of_ble_eq_true rfl) ?_
  show vm_J _ _ _ (0, (0, 0), [.ref 0, .int (nI t), .int (nI t), .retAddr 0, .retAddr 0], []) _ _ _
  refine vm_J.go vm_q143 (k := 2) (hs := []) (f' := (2, (0, 0), [.ref 0, .int (nI t), .int (nI t), .retAddr 0, .retAddr 0], [.int (nI t), .ref 0])) (h' := (G, I, F)) (hs' := []) rfl rfl ?_
  refine vm_J.call vm_q143 (Z := vm_M145) (n := 1) (k := 0) (mi := 145) (pc := 2) (en := (2, .invokevirtual 365, 3, [145, 1049, 0], .null)) rfl trivial rfl rfl vm_z145 (av := [.ref 0, .int (nI t)]) (rest := []) (m_tapeAt_n (o := 0) (n := 1) (v := 38) (t := 75) (cu := 112) (rf := 132) (rd := 135) (T := 139) (p := t) hD.d hD.t (by omega)) ⟨_, _, rfl, rfl, _, 10, _, hD.d, rfl, rfl, rfl⟩ (Nat.le_of_ble_eq_true rfl) ⟨Nat.le_of_ble_eq_true rfl, Nat.le_of_ble_eq_true rfl⟩ ⟨Nat.le_of_ble_eq_true rfl, Nat.le_of_ble_eq_true rfl⟩ ?_
  show vm_J _ _ _ (5, (0, 0), [.ref 0, .int (nI t), .int (nI t), .retAddr 0, .retAddr 0], [.ref (139 + 1 + 2 * t)]) (G, I, F) _ _
  refine vm_J.go vm_q143 (k := 3) (hs := []) (f' := (8, (0, 0), [.ref 0, .int (nI t), .int (nI t), .ref (139 + 1 + 2 * t), .retAddr 0], [.int (nI t), .ref 0])) (h' := (G, I, F)) (hs' := []) rfl rfl ?_
  refine vm_J.call vm_q143 (Z := vm_M145) (n := 1) (k := 0) (mi := 145) (pc := 8) (en := (8, .invokevirtual 365, 3, [145, 1049, 0], .null)) rfl trivial rfl rfl vm_z145 (av := [.ref 0, .int (nI t)]) (rest := []) (m_tapeAt_n (o := 0) (n := 1) (v := 38) (t := 75) (cu := 112) (rf := 132) (rd := 135) (T := 139) (p := t) hD.d hD.t (by omega)) ⟨_, _, rfl, rfl, _, 10, _, hD.d, rfl, rfl, rfl⟩ (Nat.le_of_ble_eq_true rfl) ⟨Nat.le_of_ble_eq_true rfl, Nat.le_of_ble_eq_true rfl⟩ ⟨Nat.le_of_ble_eq_true rfl, Nat.le_of_ble_eq_true rfl⟩ ?_
  show vm_J _ _ _ (11, (0, 0), [.ref 0, .int (nI t), .int (nI t), .ref (139 + 1 + 2 * t), .retAddr 0], [.ref (139 + 1 + 2 * t)]) (G, I, F) _ _
  refine vm_J.go vm_q143 (k := 7) (hs := []) (f' := (27, (0, 0), [.ref 0, .int (nI t), .int (nI t), .ref (139 + 1 + 2 * t), .ref (139 + 1 + 2 * t)], [.ref (139 + 1 + 2 * t), .ref (139 + 1 + 2 * t)])) (h' := (G, I, F)) (hs' := []) rfl rfl ?_
  refine vm_J.call vm_q143 (Z := vm_M89) (n := 1) (k := 0) (mi := 89) (pc := 27) (en := (27, .invokevirtual 394, 3, [89, 1099, 0], .null)) rfl trivial rfl rfl vm_z89 (av := [.ref (139 + 1 + 2 * t), .ref (139 + 1 + 2 * t)]) (rest := []) (m_Tape_self (o := 139 + 1 + 2 * t) (a := 139 + 2 + 2 * t) (hD.t.2.1 t ht) (hD.t.2.2 t ht)) ⟨_, _, rfl, rfl, _, 8, _, (hD.t.2.1 t ht), rfl, rfl, rfl⟩ (Nat.le_of_ble_eq_true rfl) ⟨Nat.le_of_ble_eq_true rfl, Nat.le_of_ble_eq_true rfl⟩ ⟨Nat.le_of_ble_eq_true rfl, Nat.le_of_ble_eq_true rfl⟩ ?_
  show vm_J _ _ _ (30, (0, 0), [.ref 0, .int (nI t), .int (nI t), .ref (139 + 1 + 2 * t), .ref (139 + 1 + 2 * t)], []) (G, I, F) _ _
  refine vm_J.go vm_q143 (k := 2) (hs := [(10, 3, [.int 0, .int 0, .ref (139 + 2 + 2 * t)])]) (f' := (34, (0, 0), [.ref 0, .int (nI t), .int (nI t), .ref (139 + 1 + 2 * t), .ref (139 + 1 + 2 * t)], [.int (I (139 + 1 + 2 * t) 1)])) (h' := (G, I, F)) (hs' := []) rfl (vm_b2 rfl (vm_b2 (vm_b2 (vm_hG (hD.t.2.1 t ht)) rfl) rfl)) ?_
  rw [(hm : I (139 + 1 + 2 * t) 1 = nI m)]
  exact vm_J.end vm_q143 (en := (34, .ireturn, 1, [], .null)) rfl rfl vm_rI (Nat.zero_le _) (Nat.zero_le _) rfl
set_option maxHeartbeats 4000000 in
set_option maxRecDepth 20000 in
/-- DitherDesk.shift -/
theorem c_shift_xa {l : Launch} {X : vm_Cx} {G : List vm_Sh} {I : Nat → Nat → Int32} {F : Nat → Nat → UInt32} {q : Int32} {i : Int32} {q2 : Int32} {j : Int32} {n : Int32} (hD : vm_isD G) (hx : ¬ (0 ≤ q ∧ q ≤ 5)) (hx2 : ¬ (0 ≤ q2 ∧ q2 ≤ 5)) : vm_K l X vm_M144 [.ref 0, .int q, .int i, .int q2, .int j, .int n] (G, I, F) (some (.int (-1))) (G, I, F) := by
  refine vm_K.mk (by decide) (Nat.le_of_ble_eq_true rfl) ?_
  show vm_J _ _ _ (0, (0, 0), [.ref 0, .int q, .int i, .int q2, .int j, .int n, .retAddr 0, .retAddr 0], []) _ _ _
  refine vm_J.go vm_q144 (k := 2) (hs := []) (f' := (2, (0, 0), [.ref 0, .int q, .int i, .int q2, .int j, .int n, .retAddr 0, .retAddr 0], [.int q, .ref 0])) (h' := (G, I, F)) (hs' := []) rfl rfl ?_
  refine vm_J.call vm_q144 (Z := vm_M145) (n := 1) (k := 0) (mi := 145) (pc := 2) (en := (2, .invokevirtual 365, 3, [145, 1049, 0], .null)) rfl trivial rfl rfl vm_z145 (av := [.ref 0, .int q]) (rest := []) (m_tapeAt_x (o := 0) (n := 1) (v := 38) (t := 75) (cu := 112) (rf := 132) (rd := 135) (T := 139) (p := q) hD.d hD.t (vm_nx hx)) ⟨_, _, rfl, rfl, _, 10, _, hD.d, rfl, rfl, rfl⟩ (Nat.le_of_ble_eq_true rfl) ⟨Nat.le_of_ble_eq_true rfl, Nat.le_of_ble_eq_true rfl⟩ ⟨Nat.le_of_ble_eq_true rfl, Nat.le_of_ble_eq_true rfl⟩ ?_
  show vm_J _ _ _ (5, (0, 0), [.ref 0, .int q, .int i, .int q2, .int j, .int n, .retAddr 0, .retAddr 0], [.null]) (G, I, F) _ _
  refine vm_J.go vm_q144 (k := 3) (hs := []) (f' := (9, (0, 0), [.ref 0, .int q, .int i, .int q2, .int j, .int n, .null, .retAddr 0], [.int q2, .ref 0])) (h' := (G, I, F)) (hs' := []) rfl rfl ?_
  refine vm_J.call vm_q144 (Z := vm_M145) (n := 1) (k := 0) (mi := 145) (pc := 9) (en := (9, .invokevirtual 365, 3, [145, 1049, 0], .null)) rfl trivial rfl rfl vm_z145 (av := [.ref 0, .int q2]) (rest := []) (m_tapeAt_x (o := 0) (n := 1) (v := 38) (t := 75) (cu := 112) (rf := 132) (rd := 135) (T := 139) (p := q2) hD.d hD.t (vm_nx hx2)) ⟨_, _, rfl, rfl, _, 10, _, hD.d, rfl, rfl, rfl⟩ (Nat.le_of_ble_eq_true rfl) ⟨Nat.le_of_ble_eq_true rfl, Nat.le_of_ble_eq_true rfl⟩ ⟨Nat.le_of_ble_eq_true rfl, Nat.le_of_ble_eq_true rfl⟩ ?_
  show vm_J _ _ _ (12, (0, 0), [.ref 0, .int q, .int i, .int q2, .int j, .int n, .null, .retAddr 0], [.null]) (G, I, F) _ _
  refine vm_J.go vm_q144 (k := 4) (hs := []) (f' := (25, (0, 0), [.ref 0, .int q, .int i, .int q2, .int j, .int n, .null, .null], [.int (-1)])) (h' := (G, I, F)) (hs' := []) rfl rfl ?_
  exact vm_J.end vm_q144 (en := (25, .ireturn, 1, [], .null)) rfl rfl vm_rI (Nat.zero_le _) (Nat.zero_le _) rfl
set_option maxHeartbeats 4000000 in
set_option maxRecDepth 20000 in
/-- DitherDesk.shift -/
theorem c_shift_xb {l : Launch} {X : vm_Cx} {G : List vm_Sh} {I : Nat → Nat → Int32} {F : Nat → Nat → UInt32} {o : Nat} {q : Int32} {i : Int32} {j : Int32} {n : Int32} (hD : vm_isD G) (hx : ¬ (0 ≤ q ∧ q ≤ 5)) (ho : o < 6) : vm_K l X vm_M144 [.ref 0, .int q, .int i, .int (nI o), .int j, .int n] (G, I, F) (some (.int (-1))) (G, I, F) := by
  refine vm_K.mk (by decide) (Nat.le_of_ble_eq_true rfl) ?_
  show vm_J _ _ _ (0, (0, 0), [.ref 0, .int q, .int i, .int (nI o), .int j, .int n, .retAddr 0, .retAddr 0], []) _ _ _
  refine vm_J.go vm_q144 (k := 2) (hs := []) (f' := (2, (0, 0), [.ref 0, .int q, .int i, .int (nI o), .int j, .int n, .retAddr 0, .retAddr 0], [.int q, .ref 0])) (h' := (G, I, F)) (hs' := []) rfl rfl ?_
  refine vm_J.call vm_q144 (Z := vm_M145) (n := 1) (k := 0) (mi := 145) (pc := 2) (en := (2, .invokevirtual 365, 3, [145, 1049, 0], .null)) rfl trivial rfl rfl vm_z145 (av := [.ref 0, .int q]) (rest := []) (m_tapeAt_x (o := 0) (n := 1) (v := 38) (t := 75) (cu := 112) (rf := 132) (rd := 135) (T := 139) (p := q) hD.d hD.t (vm_nx hx)) ⟨_, _, rfl, rfl, _, 10, _, hD.d, rfl, rfl, rfl⟩ (Nat.le_of_ble_eq_true rfl) ⟨Nat.le_of_ble_eq_true rfl, Nat.le_of_ble_eq_true rfl⟩ ⟨Nat.le_of_ble_eq_true rfl, Nat.le_of_ble_eq_true rfl⟩ ?_
  show vm_J _ _ _ (5, (0, 0), [.ref 0, .int q, .int i, .int (nI o), .int j, .int n, .retAddr 0, .retAddr 0], [.null]) (G, I, F) _ _
  refine vm_J.go vm_q144 (k := 3) (hs := []) (f' := (9, (0, 0), [.ref 0, .int q, .int i, .int (nI o), .int j, .int n, .null, .retAddr 0], [.int (nI o), .ref 0])) (h' := (G, I, F)) (hs' := []) rfl rfl ?_
  refine vm_J.call vm_q144 (Z := vm_M145) (n := 1) (k := 0) (mi := 145) (pc := 9) (en := (9, .invokevirtual 365, 3, [145, 1049, 0], .null)) rfl trivial rfl rfl vm_z145 (av := [.ref 0, .int (nI o)]) (rest := []) (m_tapeAt_n (o := 0) (n := 1) (v := 38) (t := 75) (cu := 112) (rf := 132) (rd := 135) (T := 139) (p := o) hD.d hD.t (by omega)) ⟨_, _, rfl, rfl, _, 10, _, hD.d, rfl, rfl, rfl⟩ (Nat.le_of_ble_eq_true rfl) ⟨Nat.le_of_ble_eq_true rfl, Nat.le_of_ble_eq_true rfl⟩ ⟨Nat.le_of_ble_eq_true rfl, Nat.le_of_ble_eq_true rfl⟩ ?_
  show vm_J _ _ _ (12, (0, 0), [.ref 0, .int q, .int i, .int (nI o), .int j, .int n, .null, .retAddr 0], [.ref (139 + 1 + 2 * o)]) (G, I, F) _ _
  refine vm_J.go vm_q144 (k := 4) (hs := []) (f' := (25, (0, 0), [.ref 0, .int q, .int i, .int (nI o), .int j, .int n, .null, .ref (139 + 1 + 2 * o)], [.int (-1)])) (h' := (G, I, F)) (hs' := []) rfl rfl ?_
  exact vm_J.end vm_q144 (en := (25, .ireturn, 1, [], .null)) rfl rfl vm_rI (Nat.zero_le _) (Nat.zero_le _) rfl
set_option maxHeartbeats 4000000 in
set_option maxRecDepth 20000 in
/-- DitherDesk.shift -/
theorem c_shift_x2 {l : Launch} {X : vm_Cx} {G : List vm_Sh} {I : Nat → Nat → Int32} {F : Nat → Nat → UInt32} {t : Nat} {i : Int32} {q : Int32} {j : Int32} {n : Int32} (hD : vm_isD G) (ht : t < 6) (hx : ¬ (0 ≤ q ∧ q ≤ 5)) : vm_K l X vm_M144 [.ref 0, .int (nI t), .int i, .int q, .int j, .int n] (G, I, F) (some (.int (-1))) (G, I, F) := by
  refine vm_K.mk (by decide) (Nat.le_of_ble_eq_true rfl) ?_
  show vm_J _ _ _ (0, (0, 0), [.ref 0, .int (nI t), .int i, .int q, .int j, .int n, .retAddr 0, .retAddr 0], []) _ _ _
  refine vm_J.go vm_q144 (k := 2) (hs := []) (f' := (2, (0, 0), [.ref 0, .int (nI t), .int i, .int q, .int j, .int n, .retAddr 0, .retAddr 0], [.int (nI t), .ref 0])) (h' := (G, I, F)) (hs' := []) rfl rfl ?_
  refine vm_J.call vm_q144 (Z := vm_M145) (n := 1) (k := 0) (mi := 145) (pc := 2) (en := (2, .invokevirtual 365, 3, [145, 1049, 0], .null)) rfl trivial rfl rfl vm_z145 (av := [.ref 0, .int (nI t)]) (rest := []) (m_tapeAt_n (o := 0) (n := 1) (v := 38) (t := 75) (cu := 112) (rf := 132) (rd := 135) (T := 139) (p := t) hD.d hD.t (by omega)) ⟨_, _, rfl, rfl, _, 10, _, hD.d, rfl, rfl, rfl⟩ (Nat.le_of_ble_eq_true rfl) ⟨Nat.le_of_ble_eq_true rfl, Nat.le_of_ble_eq_true rfl⟩ ⟨Nat.le_of_ble_eq_true rfl, Nat.le_of_ble_eq_true rfl⟩ ?_
  show vm_J _ _ _ (5, (0, 0), [.ref 0, .int (nI t), .int i, .int q, .int j, .int n, .retAddr 0, .retAddr 0], [.ref (139 + 1 + 2 * t)]) (G, I, F) _ _
  refine vm_J.go vm_q144 (k := 3) (hs := []) (f' := (9, (0, 0), [.ref 0, .int (nI t), .int i, .int q, .int j, .int n, .ref (139 + 1 + 2 * t), .retAddr 0], [.int q, .ref 0])) (h' := (G, I, F)) (hs' := []) rfl rfl ?_
  refine vm_J.call vm_q144 (Z := vm_M145) (n := 1) (k := 0) (mi := 145) (pc := 9) (en := (9, .invokevirtual 365, 3, [145, 1049, 0], .null)) rfl trivial rfl rfl vm_z145 (av := [.ref 0, .int q]) (rest := []) (m_tapeAt_x (o := 0) (n := 1) (v := 38) (t := 75) (cu := 112) (rf := 132) (rd := 135) (T := 139) (p := q) hD.d hD.t (vm_nx hx)) ⟨_, _, rfl, rfl, _, 10, _, hD.d, rfl, rfl, rfl⟩ (Nat.le_of_ble_eq_true rfl) ⟨Nat.le_of_ble_eq_true rfl, Nat.le_of_ble_eq_true rfl⟩ ⟨Nat.le_of_ble_eq_true rfl, Nat.le_of_ble_eq_true rfl⟩ ?_
  show vm_J _ _ _ (12, (0, 0), [.ref 0, .int (nI t), .int i, .int q, .int j, .int n, .ref (139 + 1 + 2 * t), .retAddr 0], [.null]) (G, I, F) _ _
  refine vm_J.go vm_q144 (k := 6) (hs := []) (f' := (25, (0, 0), [.ref 0, .int (nI t), .int i, .int q, .int j, .int n, .ref (139 + 1 + 2 * t), .null], [.int (-1)])) (h' := (G, I, F)) (hs' := []) rfl rfl ?_
  exact vm_J.end vm_q144 (en := (25, .ireturn, 1, [], .null)) rfl rfl vm_rI (Nat.zero_le _) (Nat.zero_le _) rfl
set_option maxHeartbeats 4000000 in
set_option maxRecDepth 20000 in
/-- DitherDesk.shift -/
theorem c_shift_e1 {l : Launch} {X : vm_Cx} {G : List vm_Sh} {I : Nat → Nat → Int32} {F : Nat → Nat → UInt32} {t : Nat} {o : Nat} {i : Int32} {j : Int32} {n : Int32} (hD : vm_isD G) (ht : t < 6) (ho : o < 6) (hst : I (139 + 1 + 2 * t) 0 = -1) : vm_K l X vm_M144 [.ref 0, .int (nI t), .int i, .int (nI o), .int j, .int n] (G, I, F) (some (.int (-11))) (G, I, F) := by
  refine vm_K.mk (by decide) (Nat.le_of_ble_eq_true rfl) ?_
  show vm_J _ _ _ (0, (0, 0), [.ref 0, .int (nI t), .int i, .int (nI o), .int j, .int n, .retAddr 0, .retAddr 0], []) _ _ _
  refine vm_J.go vm_q144 (k := 2) (hs := []) (f' := (2, (0, 0), [.ref 0, .int (nI t), .int i, .int (nI o), .int j, .int n, .retAddr 0, .retAddr 0], [.int (nI t), .ref 0])) (h' := (G, I, F)) (hs' := []) rfl rfl ?_
  refine vm_J.call vm_q144 (Z := vm_M145) (n := 1) (k := 0) (mi := 145) (pc := 2) (en := (2, .invokevirtual 365, 3, [145, 1049, 0], .null)) rfl trivial rfl rfl vm_z145 (av := [.ref 0, .int (nI t)]) (rest := []) (m_tapeAt_n (o := 0) (n := 1) (v := 38) (t := 75) (cu := 112) (rf := 132) (rd := 135) (T := 139) (p := t) hD.d hD.t (by omega)) ⟨_, _, rfl, rfl, _, 10, _, hD.d, rfl, rfl, rfl⟩ (Nat.le_of_ble_eq_true rfl) ⟨Nat.le_of_ble_eq_true rfl, Nat.le_of_ble_eq_true rfl⟩ ⟨Nat.le_of_ble_eq_true rfl, Nat.le_of_ble_eq_true rfl⟩ ?_
  show vm_J _ _ _ (5, (0, 0), [.ref 0, .int (nI t), .int i, .int (nI o), .int j, .int n, .retAddr 0, .retAddr 0], [.ref (139 + 1 + 2 * t)]) (G, I, F) _ _
  refine vm_J.go vm_q144 (k := 3) (hs := []) (f' := (9, (0, 0), [.ref 0, .int (nI t), .int i, .int (nI o), .int j, .int n, .ref (139 + 1 + 2 * t), .retAddr 0], [.int (nI o), .ref 0])) (h' := (G, I, F)) (hs' := []) rfl rfl ?_
  refine vm_J.call vm_q144 (Z := vm_M145) (n := 1) (k := 0) (mi := 145) (pc := 9) (en := (9, .invokevirtual 365, 3, [145, 1049, 0], .null)) rfl trivial rfl rfl vm_z145 (av := [.ref 0, .int (nI o)]) (rest := []) (m_tapeAt_n (o := 0) (n := 1) (v := 38) (t := 75) (cu := 112) (rf := 132) (rd := 135) (T := 139) (p := o) hD.d hD.t (by omega)) ⟨_, _, rfl, rfl, _, 10, _, hD.d, rfl, rfl, rfl⟩ (Nat.le_of_ble_eq_true rfl) ⟨Nat.le_of_ble_eq_true rfl, Nat.le_of_ble_eq_true rfl⟩ ⟨Nat.le_of_ble_eq_true rfl, Nat.le_of_ble_eq_true rfl⟩ ?_
  show vm_J _ _ _ (12, (0, 0), [.ref 0, .int (nI t), .int i, .int (nI o), .int j, .int n, .ref (139 + 1 + 2 * t), .retAddr 0], [.ref (139 + 1 + 2 * o)]) (G, I, F) _ _
  refine vm_J.go vm_q144 (k := 9) (hs := [(10, 3, [.int 0, .int 0, .ref (139 + 2 + 2 * t)])]) (f' := (bif vm_ic .eq (I (139 + 1 + 2 * t) 0) (-1) then 44 else 35, (0, 0), [.ref 0, .int (nI t), .int i, .int (nI o), .int j, .int n, .ref (139 + 1 + 2 * t), .ref (139 + 1 + 2 * o)], [])) (h' := (G, I, F)) (hs' := []) rfl (vm_b2 rfl (vm_b2 rfl (vm_b2 rfl (vm_b2 rfl (vm_b2 rfl (vm_b2 rfl (vm_b2 (vm_b2 (vm_hG (hD.t.2.1 t ht)) rfl) (vm_b2 rfl (vm_b2 rfl rfl))))))))) ?_
  refine vm_J.bT (decide_eq_true hst) ?_
  refine vm_J.go vm_q144 (k := 1) (hs := []) (f' := (46, (0, 0), [.ref 0, .int (nI t), .int i, .int (nI o), .int j, .int n, .ref (139 + 1 + 2 * t), .ref (139 + 1 + 2 * o)], [.int (-11)])) (h' := (G, I, F)) (hs' := []) rfl rfl ?_
  exact vm_J.end vm_q144 (en := (46, .ireturn, 1, [], .null)) rfl rfl vm_rI (Nat.zero_le _) (Nat.zero_le _) rfl
set_option maxHeartbeats 4000000 in
set_option maxRecDepth 20000 in
/-- DitherDesk.shift -/
theorem c_shift_e2 {l : Launch} {X : vm_Cx} {G : List vm_Sh} {I : Nat → Nat → Int32} {F : Nat → Nat → UInt32} {t : Nat} {o : Nat} {i : Int32} {j : Int32} {n : Int32} (hD : vm_isD G) (ht : t < 6) (ho : o < 6) (hst : ¬ I (139 + 1 + 2 * t) 0 = -1) (hso : I (139 + 1 + 2 * o) 0 = -1) : vm_K l X vm_M144 [.ref 0, .int (nI t), .int i, .int (nI o), .int j, .int n] (G, I, F) (some (.int (-11))) (G, I, F) := by
  refine vm_K.mk (by decide) (Nat.le_of_ble_eq_true rfl) ?_
  show vm_J _ _ _ (0, (0, 0), [.ref 0, .int (nI t), .int i, .int (nI o), .int j, .int n, .retAddr 0, .retAddr 0], []) _ _ _
  refine vm_J.go vm_q144 (k := 2) (hs := []) (f' := (2, (0, 0), [.ref 0, .int (nI t), .int i, .int (nI o), .int j, .int n, .retAddr 0, .retAddr 0], [.int (nI t), .ref 0])) (h' := (G, I, F)) (hs' := []) rfl rfl ?_
  refine vm_J.call vm_q144 (Z := vm_M145) (n := 1) (k := 0) (mi := 145) (pc := 2) (en := (2, .invokevirtual 365, 3, [145, 1049, 0], .null)) rfl trivial rfl rfl vm_z145 (av := [.ref 0, .int (nI t)]) (rest := []) (m_tapeAt_n (o := 0) (n := 1) (v := 38) (t := 75) (cu := 112) (rf := 132) (rd := 135) (T := 139) (p := t) hD.d hD.t (by omega)) ⟨_, _, rfl, rfl, _, 10, _, hD.d, rfl, rfl, rfl⟩ (Nat.le_of_ble_eq_true rfl) ⟨Nat.le_of_ble_eq_true rfl, Nat.le_of_ble_eq_true rfl⟩ ⟨Nat.le_of_ble_eq_true rfl, Nat.le_of_ble_eq_true rfl⟩ ?_
  show vm_J _ _ _ (5, (0, 0), [.ref 0, .int (nI t), .int i, .int (nI o), .int j, .int n, .retAddr 0, .retAddr 0], [.ref (139 + 1 + 2 * t)]) (G, I, F) _ _
  refine vm_J.go vm_q144 (k := 3) (hs := []) (f' := (9, (0, 0), [.ref 0, .int (nI t), .int i, .int (nI o), .int j, .int n, .ref (139 + 1 + 2 * t), .retAddr 0], [.int (nI o), .ref 0])) (h' := (G, I, F)) (hs' := []) rfl rfl ?_
  refine vm_J.call vm_q144 (Z := vm_M145) (n := 1) (k := 0) (mi := 145) (pc := 9) (en := (9, .invokevirtual 365, 3, [145, 1049, 0], .null)) rfl trivial rfl rfl vm_z145 (av := [.ref 0, .int (nI o)]) (rest := []) (m_tapeAt_n (o := 0) (n := 1) (v := 38) (t := 75) (cu := 112) (rf := 132) (rd := 135) (T := 139) (p := o) hD.d hD.t (by omega)) ⟨_, _, rfl, rfl, _, 10, _, hD.d, rfl, rfl, rfl⟩ (Nat.le_of_ble_eq_true rfl) ⟨Nat.le_of_ble_eq_true rfl, Nat.le_of_ble_eq_true rfl⟩ ⟨Nat.le_of_ble_eq_true rfl, Nat.le_of_ble_eq_true rfl⟩ ?_
  show vm_J _ _ _ (12, (0, 0), [.ref 0, .int (nI t), .int i, .int (nI o), .int j, .int n, .ref (139 + 1 + 2 * t), .retAddr 0], [.ref (139 + 1 + 2 * o)]) (G, I, F) _ _
  refine vm_J.go vm_q144 (k := 9) (hs := [(10, 3, [.int 0, .int 0, .ref (139 + 2 + 2 * t)])]) (f' := (bif vm_ic .eq (I (139 + 1 + 2 * t) 0) (-1) then 44 else 35, (0, 0), [.ref 0, .int (nI t), .int i, .int (nI o), .int j, .int n, .ref (139 + 1 + 2 * t), .ref (139 + 1 + 2 * o)], [])) (h' := (G, I, F)) (hs' := []) rfl (vm_b2 rfl (vm_b2 rfl (vm_b2 rfl (vm_b2 rfl (vm_b2 rfl (vm_b2 rfl (vm_b2 (vm_b2 (vm_hG (hD.t.2.1 t ht)) rfl) (vm_b2 rfl (vm_b2 rfl rfl))))))))) ?_
  refine vm_J.bF (decide_eq_false hst) ?_
  refine vm_J.go vm_q144 (k := 4) (hs := [(10, 3, [.int 0, .int 0, .ref (139 + 2 + 2 * o)])]) (f' := (bif vm_ic .ne (I (139 + 1 + 2 * o) 0) (-1) then 47 else 44, (0, 0), [.ref 0, .int (nI t), .int i, .int (nI o), .int j, .int n, .ref (139 + 1 + 2 * t), .ref (139 + 1 + 2 * o)], [])) (h' := (G, I, F)) (hs' := []) rfl (vm_b2 rfl (vm_b2 (vm_b2 (vm_hG (hD.t.2.1 o ho)) rfl) (vm_b2 rfl (vm_b2 rfl rfl)))) ?_
  refine vm_J.bF (decide_eq_false (fun z => z hso)) ?_
  refine vm_J.go vm_q144 (k := 1) (hs := []) (f' := (46, (0, 0), [.ref 0, .int (nI t), .int i, .int (nI o), .int j, .int n, .ref (139 + 1 + 2 * t), .ref (139 + 1 + 2 * o)], [.int (-11)])) (h' := (G, I, F)) (hs' := []) rfl rfl ?_
  exact vm_J.end vm_q144 (en := (46, .ireturn, 1, [], .null)) rfl rfl vm_rI (Nat.zero_le _) (Nat.zero_le _) rfl
set_option maxHeartbeats 4000000 in
set_option maxRecDepth 20000 in
/-- DitherDesk.shift -/
theorem c_shift_c {l : Launch} {X : vm_Cx} {G : List vm_Sh} {I : Nat → Nat → Int32} {F : Nat → Nat → UInt32} {t : Nat} {o : Nat} {i : Int32} {j : Int32} {n : Int32} (hD : vm_isD G) (ht : t < 6) (ho : o < 6) (hst : ¬ I (139 + 1 + 2 * t) 0 = -1) (hso : ¬ I (139 + 1 + 2 * o) 0 = -1) (hne : ¬ I (139 + 1 + 2 * t) 0 = I (139 + 1 + 2 * o) 0) : vm_K l X vm_M144 [.ref 0, .int (nI t), .int i, .int (nI o), .int j, .int n] (G, I, F) (some (.int (-12))) (G, I, F) := by
  refine vm_K.mk (by decide) (Nat.le_of_ble_eq_true rfl) ?_
  show vm_J _ _ _ (0, (0, 0), [.ref 0, .int (nI t), .int i, .int (nI o), .int j, .int n, .retAddr 0, .retAddr 0], []) _ _ _
  refine vm_J.go vm_q144 (k := 2) (hs := []) (f' := (2, (0, 0), [.ref 0, .int (nI t), .int i, .int (nI o), .int j, .int n, .retAddr 0, .retAddr 0], [.int (nI t), .ref 0])) (h' := (G, I, F)) (hs' := []) rfl rfl ?_
  refine vm_J.call vm_q144 (Z := vm_M145) (n := 1) (k := 0) (mi := 145) (pc := 2) (en := (2, .invokevirtual 365, 3, [145, 1049, 0], .null)) rfl trivial rfl rfl vm_z145 (av := [.ref 0, .int (nI t)]) (rest := []) (m_tapeAt_n (o := 0) (n := 1) (v := 38) (t := 75) (cu := 112) (rf := 132) (rd := 135) (T := 139) (p := t) hD.d hD.t (by omega)) ⟨_, _, rfl, rfl, _, 10, _, hD.d, rfl, rfl, rfl⟩ (Nat.le_of_ble_eq_true rfl) ⟨Nat.le_of_ble_eq_true rfl, Nat.le_of_ble_eq_true rfl⟩ ⟨Nat.le_of_ble_eq_true rfl, Nat.le_of_ble_eq_true rfl⟩ ?_
  show vm_J _ _ _ (5, (0, 0), [.ref 0, .int (nI t), .int i, .int (nI o), .int j, .int n, .retAddr 0, .retAddr 0], [.ref (139 + 1 + 2 * t)]) (G, I, F) _ _
  refine vm_J.go vm_q144 (k := 3) (hs := []) (f' := (9, (0, 0), [.ref 0, .int (nI t), .int i, .int (nI o), .int j, .int n, .ref (139 + 1 + 2 * t), .retAddr 0], [.int (nI o), .ref 0])) (h' := (G, I, F)) (hs' := []) rfl rfl ?_
  refine vm_J.call vm_q144 (Z := vm_M145) (n := 1) (k := 0) (mi := 145) (pc := 9) (en := (9, .invokevirtual 365, 3, [145, 1049, 0], .null)) rfl trivial rfl rfl vm_z145 (av := [.ref 0, .int (nI o)]) (rest := []) (m_tapeAt_n (o := 0) (n := 1) (v := 38) (t := 75) (cu := 112) (rf := 132) (rd := 135) (T := 139) (p := o) hD.d hD.t (by omega)) ⟨_, _, rfl, rfl, _, 10, _, hD.d, rfl, rfl, rfl⟩ (Nat.le_of_ble_eq_true rfl) ⟨Nat.le_of_ble_eq_true rfl, Nat.le_of_ble_eq_true rfl⟩ ⟨Nat.le_of_ble_eq_true rfl, Nat.le_of_ble_eq_true rfl⟩ ?_
  show vm_J _ _ _ (12, (0, 0), [.ref 0, .int (nI t), .int i, .int (nI o), .int j, .int n, .ref (139 + 1 + 2 * t), .retAddr 0], [.ref (139 + 1 + 2 * o)]) (G, I, F) _ _
  refine vm_J.go vm_q144 (k := 9) (hs := [(10, 3, [.int 0, .int 0, .ref (139 + 2 + 2 * t)])]) (f' := (bif vm_ic .eq (I (139 + 1 + 2 * t) 0) (-1) then 44 else 35, (0, 0), [.ref 0, .int (nI t), .int i, .int (nI o), .int j, .int n, .ref (139 + 1 + 2 * t), .ref (139 + 1 + 2 * o)], [])) (h' := (G, I, F)) (hs' := []) rfl (vm_b2 rfl (vm_b2 rfl (vm_b2 rfl (vm_b2 rfl (vm_b2 rfl (vm_b2 rfl (vm_b2 (vm_b2 (vm_hG (hD.t.2.1 t ht)) rfl) (vm_b2 rfl (vm_b2 rfl rfl))))))))) ?_
  refine vm_J.bF (decide_eq_false hst) ?_
  refine vm_J.go vm_q144 (k := 4) (hs := [(10, 3, [.int 0, .int 0, .ref (139 + 2 + 2 * o)])]) (f' := (bif vm_ic .ne (I (139 + 1 + 2 * o) 0) (-1) then 47 else 44, (0, 0), [.ref 0, .int (nI t), .int i, .int (nI o), .int j, .int n, .ref (139 + 1 + 2 * t), .ref (139 + 1 + 2 * o)], [])) (h' := (G, I, F)) (hs' := []) rfl (vm_b2 rfl (vm_b2 (vm_b2 (vm_hG (hD.t.2.1 o ho)) rfl) (vm_b2 rfl (vm_b2 rfl rfl)))) ?_
  refine vm_J.bT (decide_eq_true hso) ?_
  refine vm_J.go vm_q144 (k := 5) (hs := [(10, 3, [.int 0, .int 0, .ref (139 + 2 + 2 * t)]), (10, 3, [.int 0, .int 0, .ref (139 + 2 + 2 * o)])]) (f' := (bif vm_ic .eq (I (139 + 1 + 2 * t) 0) (I (139 + 1 + 2 * o) 0) then 63 else 60, (0, 0), [.ref 0, .int (nI t), .int i, .int (nI o), .int j, .int n, .ref (139 + 1 + 2 * t), .ref (139 + 1 + 2 * o)], [])) (h' := (G, I, F)) (hs' := []) rfl (vm_b2 rfl (vm_b2 (vm_b2 (vm_hG (hD.t.2.1 t ht)) rfl) (vm_b2 rfl (vm_b2 (vm_b2 (vm_hG (hD.t.2.1 o ho)) rfl) (vm_b2 rfl rfl))))) ?_
  refine vm_J.bF (decide_eq_false hne) ?_
  refine vm_J.go vm_q144 (k := 1) (hs := []) (f' := (62, (0, 0), [.ref 0, .int (nI t), .int i, .int (nI o), .int j, .int n, .ref (139 + 1 + 2 * t), .ref (139 + 1 + 2 * o)], [.int (-12)])) (h' := (G, I, F)) (hs' := []) rfl rfl ?_
  exact vm_J.end vm_q144 (en := (62, .ireturn, 1, [], .null)) rfl rfl vm_rI (Nat.zero_le _) (Nat.zero_le _) rfl
set_option maxHeartbeats 4000000 in
set_option maxRecDepth 20000 in
/-- DitherDesk.shift -/
theorem c_shift_p {l : Launch} {X : vm_Cx} {G : List vm_Sh} {I : Nat → Nat → Int32} {F : Nat → Nat → UInt32} {t : Nat} {o : Nat} {m : Nat} {k : Nat} {i : Int32} {j : Int32} {n : Int32} (hD : vm_isD G) (ht : t < 6) (ho : o < 6) (hm : I (139 + 1 + 2 * t) 1 = nI m) (hk : I (139 + 1 + 2 * o) 1 = nI k) (hm2 : m ≤ 150) (hk2 : k ≤ 150) (hst : ¬ I (139 + 1 + 2 * t) 0 = -1) (hso : ¬ I (139 + 1 + 2 * o) 0 = -1) (heq : I (139 + 1 + 2 * t) 0 = I (139 + 1 + 2 * o) 0) (hp : ¬ (¬ n < 0 ∧ (0 ≤ i ∧ i ≤ nI m) ∧ (0 ≤ j ∧ j ≤ nI k) ∧ n ≤ nI m - i ∧ n ≤ nI k - j)) : vm_K l X vm_M144 [.ref 0, .int (nI t), .int i, .int (nI o), .int j, .int n] (G, I, F) (some (.int (-13))) (G, I, F) := by
  refine vm_K.mk (by decide) (Nat.le_of_ble_eq_true rfl) ?_
  show vm_J _ _ _ (0, (0, 0), [.ref 0, .int (nI t), .int i, .int (nI o), .int j, .int n, .retAddr 0, .retAddr 0], []) _ _ _
  refine vm_J.go vm_q144 (k := 2) (hs := []) (f' := (2, (0, 0), [.ref 0, .int (nI t), .int i, .int (nI o), .int j, .int n, .retAddr 0, .retAddr 0], [.int (nI t), .ref 0])) (h' := (G, I, F)) (hs' := []) rfl rfl ?_
  refine vm_J.call vm_q144 (Z := vm_M145) (n := 1) (k := 0) (mi := 145) (pc := 2) (en := (2, .invokevirtual 365, 3, [145, 1049, 0], .null)) rfl trivial rfl rfl vm_z145 (av := [.ref 0, .int (nI t)]) (rest := []) (m_tapeAt_n (o := 0) (n := 1) (v := 38) (t := 75) (cu := 112) (rf := 132) (rd := 135) (T := 139) (p := t) hD.d hD.t (by omega)) ⟨_, _, rfl, rfl, _, 10, _, hD.d, rfl, rfl, rfl⟩ (Nat.le_of_ble_eq_true rfl) ⟨Nat.le_of_ble_eq_true rfl, Nat.le_of_ble_eq_true rfl⟩ ⟨Nat.le_of_ble_eq_true rfl, Nat.le_of_ble_eq_true rfl⟩ ?_
  show vm_J _ _ _ (5, (0, 0), [.ref 0, .int (nI t), .int i, .int (nI o), .int j, .int n, .retAddr 0, .retAddr 0], [.ref (139 + 1 + 2 * t)]) (G, I, F) _ _
  refine vm_J.go vm_q144 (k := 3) (hs := []) (f' := (9, (0, 0), [.ref 0, .int (nI t), .int i, .int (nI o), .int j, .int n, .ref (139 + 1 + 2 * t), .retAddr 0], [.int (nI o), .ref 0])) (h' := (G, I, F)) (hs' := []) rfl rfl ?_
  refine vm_J.call vm_q144 (Z := vm_M145) (n := 1) (k := 0) (mi := 145) (pc := 9) (en := (9, .invokevirtual 365, 3, [145, 1049, 0], .null)) rfl trivial rfl rfl vm_z145 (av := [.ref 0, .int (nI o)]) (rest := []) (m_tapeAt_n (o := 0) (n := 1) (v := 38) (t := 75) (cu := 112) (rf := 132) (rd := 135) (T := 139) (p := o) hD.d hD.t (by omega)) ⟨_, _, rfl, rfl, _, 10, _, hD.d, rfl, rfl, rfl⟩ (Nat.le_of_ble_eq_true rfl) ⟨Nat.le_of_ble_eq_true rfl, Nat.le_of_ble_eq_true rfl⟩ ⟨Nat.le_of_ble_eq_true rfl, Nat.le_of_ble_eq_true rfl⟩ ?_
  show vm_J _ _ _ (12, (0, 0), [.ref 0, .int (nI t), .int i, .int (nI o), .int j, .int n, .ref (139 + 1 + 2 * t), .retAddr 0], [.ref (139 + 1 + 2 * o)]) (G, I, F) _ _
  refine vm_J.go vm_q144 (k := 9) (hs := [(10, 3, [.int 0, .int 0, .ref (139 + 2 + 2 * t)])]) (f' := (bif vm_ic .eq (I (139 + 1 + 2 * t) 0) (-1) then 44 else 35, (0, 0), [.ref 0, .int (nI t), .int i, .int (nI o), .int j, .int n, .ref (139 + 1 + 2 * t), .ref (139 + 1 + 2 * o)], [])) (h' := (G, I, F)) (hs' := []) rfl (vm_b2 rfl (vm_b2 rfl (vm_b2 rfl (vm_b2 rfl (vm_b2 rfl (vm_b2 rfl (vm_b2 (vm_b2 (vm_hG (hD.t.2.1 t ht)) rfl) (vm_b2 rfl (vm_b2 rfl rfl))))))))) ?_
  refine vm_J.bF (decide_eq_false hst) ?_
  refine vm_J.go vm_q144 (k := 4) (hs := [(10, 3, [.int 0, .int 0, .ref (139 + 2 + 2 * o)])]) (f' := (bif vm_ic .ne (I (139 + 1 + 2 * o) 0) (-1) then 47 else 44, (0, 0), [.ref 0, .int (nI t), .int i, .int (nI o), .int j, .int n, .ref (139 + 1 + 2 * t), .ref (139 + 1 + 2 * o)], [])) (h' := (G, I, F)) (hs' := []) rfl (vm_b2 rfl (vm_b2 (vm_b2 (vm_hG (hD.t.2.1 o ho)) rfl) (vm_b2 rfl (vm_b2 rfl rfl)))) ?_
  refine vm_J.bT (decide_eq_true hso) ?_
  refine vm_J.go vm_q144 (k := 5) (hs := [(10, 3, [.int 0, .int 0, .ref (139 + 2 + 2 * t)]), (10, 3, [.int 0, .int 0, .ref (139 + 2 + 2 * o)])]) (f' := (bif vm_ic .eq (I (139 + 1 + 2 * t) 0) (I (139 + 1 + 2 * o) 0) then 63 else 60, (0, 0), [.ref 0, .int (nI t), .int i, .int (nI o), .int j, .int n, .ref (139 + 1 + 2 * t), .ref (139 + 1 + 2 * o)], [])) (h' := (G, I, F)) (hs' := []) rfl (vm_b2 rfl (vm_b2 (vm_b2 (vm_hG (hD.t.2.1 t ht)) rfl) (vm_b2 rfl (vm_b2 (vm_b2 (vm_hG (hD.t.2.1 o ho)) rfl) (vm_b2 rfl rfl))))) ?_
  refine vm_J.bT (decide_eq_true heq) ?_
  refine vm_J.go vm_q144 (k := 2) (hs := []) (f' := (bif vm_ic .lt n 0 then 120 else 68, (0, 0), [.ref 0, .int (nI t), .int i, .int (nI o), .int j, .int n, .ref (139 + 1 + 2 * t), .ref (139 + 1 + 2 * o)], [])) (h' := (G, I, F)) (hs' := []) rfl rfl ?_
  refine vm_J.br (fun c1 => ?_) (fun c1 => ?_)
  · have c1 : n < 0 := of_decide_eq_true c1
    refine vm_J.go vm_q144 (k := 1) (hs := []) (f' := (122, (0, 0), [.ref 0, .int (nI t), .int i, .int (nI o), .int j, .int n, .ref (139 + 1 + 2 * t), .ref (139 + 1 + 2 * o)], [.int (-13)])) (h' := (G, I, F)) (hs' := []) rfl rfl ?_
    exact vm_J.end vm_q144 (en := (122, .ireturn, 1, [], .null)) rfl rfl vm_rI (Nat.zero_le _) (Nat.zero_le _) rfl
  · have c1 : ¬ (n < 0) := of_decide_eq_false c1
    refine vm_J.go vm_q144 (k := 4) (hs := [(10, 3, [.int 0, .int 0, .ref (139 + 2 + 2 * t)])]) (f' := (75, (0, 0), [.ref 0, .int (nI t), .int i, .int (nI o), .int j, .int n, .ref (139 + 1 + 2 * t), .ref (139 + 1 + 2 * o)], [.int (I (139 + 1 + 2 * t) 1), .int 0, .int i])) (h' := (G, I, F)) (hs' := []) rfl (vm_b2 rfl (vm_b2 rfl (vm_b2 rfl (vm_b2 (vm_b2 (vm_hG (hD.t.2.1 t ht)) rfl) rfl)))) ?_
    rw [(hm : I (139 + 1 + 2 * t) 1 = nI m)]
    refine vm_J.call vm_q144 (Z := vm_M151) (n := 3) (k := 1) (mi := 151) (pc := 75) (en := (75, .invokestatic 56, 3, [151, 420, 0], .null)) rfl trivial rfl rfl vm_z151 (av := [.int i, .int 0, .int (nI m)]) (rest := []) (m_isWithin (v := i) (a := 0) (b := nI m)) rfl (Nat.le_of_ble_eq_true rfl) ⟨Nat.le_of_ble_eq_true rfl, Nat.le_of_ble_eq_true rfl⟩ ⟨Nat.le_of_ble_eq_true rfl, Nat.le_of_ble_eq_true rfl⟩ ?_
    show vm_J _ _ _ (78, (0, 0), [.ref 0, .int (nI t), .int i, .int (nI o), .int j, .int n, .ref (139 + 1 + 2 * t), .ref (139 + 1 + 2 * o)], [.int (vm_bi (0 ≤ i ∧ i ≤ (nI m)))]) (G, I, F) _ _
    refine vm_J.go vm_q144 (k := 1) (hs := []) (f' := (bif vm_ic .eq (vm_bi (0 ≤ i ∧ i ≤ (nI m))) 0 then 120 else 81, (0, 0), [.ref 0, .int (nI t), .int i, .int (nI o), .int j, .int n, .ref (139 + 1 + 2 * t), .ref (139 + 1 + 2 * o)], [])) (h' := (G, I, F)) (hs' := []) rfl rfl ?_
    refine vm_J.br (fun c2 => ?_) (fun c2 => ?_)
    · have c2 := vm_bi_eq_t c2
      refine vm_J.go vm_q144 (k := 1) (hs := []) (f' := (122, (0, 0), [.ref 0, .int (nI t), .int i, .int (nI o), .int j, .int n, .ref (139 + 1 + 2 * t), .ref (139 + 1 + 2 * o)], [.int (-13)])) (h' := (G, I, F)) (hs' := []) rfl rfl ?_
      exact vm_J.end vm_q144 (en := (122, .ireturn, 1, [], .null)) rfl rfl vm_rI (Nat.zero_le _) (Nat.zero_le _) rfl
    · have c2 := vm_bi_eq_f c2
      refine vm_J.go vm_q144 (k := 4) (hs := [(10, 3, [.int 0, .int 0, .ref (139 + 2 + 2 * o)])]) (f' := (89, (0, 0), [.ref 0, .int (nI t), .int i, .int (nI o), .int j, .int n, .ref (139 + 1 + 2 * t), .ref (139 + 1 + 2 * o)], [.int (I (139 + 1 + 2 * o) 1), .int 0, .int j])) (h' := (G, I, F)) (hs' := []) rfl (vm_b2 rfl (vm_b2 rfl (vm_b2 rfl (vm_b2 (vm_b2 (vm_hG (hD.t.2.1 o ho)) rfl) rfl)))) ?_
      rw [(hk : I (139 + 1 + 2 * o) 1 = nI k)]
      refine vm_J.call vm_q144 (Z := vm_M151) (n := 3) (k := 1) (mi := 151) (pc := 89) (en := (89, .invokestatic 56, 3, [151, 420, 0], .null)) rfl trivial rfl rfl vm_z151 (av := [.int j, .int 0, .int (nI k)]) (rest := []) (m_isWithin (v := j) (a := 0) (b := nI k)) rfl (Nat.le_of_ble_eq_true rfl) ⟨Nat.le_of_ble_eq_true rfl, Nat.le_of_ble_eq_true rfl⟩ ⟨Nat.le_of_ble_eq_true rfl, Nat.le_of_ble_eq_true rfl⟩ ?_
      show vm_J _ _ _ (92, (0, 0), [.ref 0, .int (nI t), .int i, .int (nI o), .int j, .int n, .ref (139 + 1 + 2 * t), .ref (139 + 1 + 2 * o)], [.int (vm_bi (0 ≤ j ∧ j ≤ (nI k)))]) (G, I, F) _ _
      refine vm_J.go vm_q144 (k := 1) (hs := []) (f' := (bif vm_ic .eq (vm_bi (0 ≤ j ∧ j ≤ (nI k))) 0 then 120 else 95, (0, 0), [.ref 0, .int (nI t), .int i, .int (nI o), .int j, .int n, .ref (139 + 1 + 2 * t), .ref (139 + 1 + 2 * o)], [])) (h' := (G, I, F)) (hs' := []) rfl rfl ?_
      refine vm_J.br (fun c3 => ?_) (fun c3 => ?_)
      · have c3 := vm_bi_eq_t c3
        refine vm_J.go vm_q144 (k := 1) (hs := []) (f' := (122, (0, 0), [.ref 0, .int (nI t), .int i, .int (nI o), .int j, .int n, .ref (139 + 1 + 2 * t), .ref (139 + 1 + 2 * o)], [.int (-13)])) (h' := (G, I, F)) (hs' := []) rfl rfl ?_
        exact vm_J.end vm_q144 (en := (122, .ireturn, 1, [], .null)) rfl rfl vm_rI (Nat.zero_le _) (Nat.zero_le _) rfl
      · have c3 := vm_bi_eq_f c3
        refine vm_J.go vm_q144 (k := 3) (hs := [(10, 3, [.int 0, .int 0, .ref (139 + 2 + 2 * t)])]) (f' := (102, (0, 0), [.ref 0, .int (nI t), .int i, .int (nI o), .int j, .int n, .ref (139 + 1 + 2 * t), .ref (139 + 1 + 2 * o)], [.int (I (139 + 1 + 2 * t) 1), .int n])) (h' := (G, I, F)) (hs' := []) rfl (vm_b2 rfl (vm_b2 rfl (vm_b2 (vm_b2 (vm_hG (hD.t.2.1 t ht)) rfl) rfl))) ?_
        rw [(hm : I (139 + 1 + 2 * t) 1 = nI m)]
        refine vm_J.go vm_q144 (k := 3) (hs := []) (f' := (bif vm_ic .gt n ((nI m) - i) then 120 else 107, (0, 0), [.ref 0, .int (nI t), .int i, .int (nI o), .int j, .int n, .ref (139 + 1 + 2 * t), .ref (139 + 1 + 2 * o)], [])) (h' := (G, I, F)) (hs' := []) rfl rfl ?_
        refine vm_J.br (fun c4 => ?_) (fun c4 => ?_)
        · have c4 : ((nI m) - i) < n := of_decide_eq_true c4
          refine vm_J.go vm_q144 (k := 1) (hs := []) (f' := (122, (0, 0), [.ref 0, .int (nI t), .int i, .int (nI o), .int j, .int n, .ref (139 + 1 + 2 * t), .ref (139 + 1 + 2 * o)], [.int (-13)])) (h' := (G, I, F)) (hs' := []) rfl rfl ?_
          exact vm_J.end vm_q144 (en := (122, .ireturn, 1, [], .null)) rfl rfl vm_rI (Nat.zero_le _) (Nat.zero_le _) rfl
        · have c4 : ¬ (((nI m) - i) < n) := of_decide_eq_false c4
          refine vm_J.go vm_q144 (k := 3) (hs := [(10, 3, [.int 0, .int 0, .ref (139 + 2 + 2 * o)])]) (f' := (114, (0, 0), [.ref 0, .int (nI t), .int i, .int (nI o), .int j, .int n, .ref (139 + 1 + 2 * t), .ref (139 + 1 + 2 * o)], [.int (I (139 + 1 + 2 * o) 1), .int n])) (h' := (G, I, F)) (hs' := []) rfl (vm_b2 rfl (vm_b2 rfl (vm_b2 (vm_b2 (vm_hG (hD.t.2.1 o ho)) rfl) rfl))) ?_
          rw [(hk : I (139 + 1 + 2 * o) 1 = nI k)]
          refine vm_J.go vm_q144 (k := 3) (hs := []) (f' := (bif vm_ic .le n ((nI k) - j) then 123 else 120, (0, 0), [.ref 0, .int (nI t), .int i, .int (nI o), .int j, .int n, .ref (139 + 1 + 2 * t), .ref (139 + 1 + 2 * o)], [])) (h' := (G, I, F)) (hs' := []) rfl rfl ?_
          refine vm_J.br (fun c5 => ?_) (fun c5 => ?_)
          · have c5 : n ≤ ((nI k) - j) := of_decide_eq_true c5
            exact absurd ⟨c1, c2, c3, vm_nlt_le c4, c5⟩ hp
          · have c5 : ¬ (n ≤ ((nI k) - j)) := of_decide_eq_false c5
            refine vm_J.go vm_q144 (k := 1) (hs := []) (f' := (122, (0, 0), [.ref 0, .int (nI t), .int i, .int (nI o), .int j, .int n, .ref (139 + 1 + 2 * t), .ref (139 + 1 + 2 * o)], [.int (-13)])) (h' := (G, I, F)) (hs' := []) rfl rfl ?_
            exact vm_J.end vm_q144 (en := (122, .ireturn, 1, [], .null)) rfl rfl vm_rI (Nat.zero_le _) (Nat.zero_le _) rfl
theorem vm_rng {i m : Nat} (hi : i ≤ m) (hm : m ≤ 150) : 0 ≤ nI i ∧ nI i ≤ nI m := vm_bpn hi rfl (by omega)
set_option maxHeartbeats 4000000 in
set_option maxRecDepth 20000 in
/-- DitherDesk.shift -/
theorem c_shift_y {l : Launch} {X : vm_Cx} {G : List vm_Sh} {I : Nat → Nat → Int32} {F : Nat → Nat → UInt32} {t : Nat} {o : Nat} {m : Nat} {k : Nat} {i : Nat} {j : Nat} {n : Nat} (hD : vm_isD G) (ht : t < 6) (ho : o < 6) (hm : I (139 + 1 + 2 * t) 1 = nI m) (hk : I (139 + 1 + 2 * o) 1 = nI k) (hm2 : m ≤ 150) (hk2 : k ≤ 150) (hst : ¬ I (139 + 1 + 2 * t) 0 = -1) (hso : ¬ I (139 + 1 + 2 * o) 0 = -1) (heq : I (139 + 1 + 2 * t) 0 = I (139 + 1 + 2 * o) 0) (hi : i + n ≤ m) (hj : j + n ≤ k) : vm_K l X vm_M144 [.ref 0, .int (nI t), .int (nI i), .int (nI o), .int (nI j), .int (nI n)] (G, I, F) (some (.int (nI n))) (G, (vm_wq I (139 + 2 + 2 * o) (vm_mvf I (139 + 2 + 2 * t) i j) j n), F) := by
  refine vm_K.mk (by decide) (Nat.le_of_ble_eq_true rfl) ?_
  show vm_J _ _ _ (0, (0, 0), [.ref 0, .int (nI t), .int (nI i), .int (nI o), .int (nI j), .int (nI n), .retAddr 0, .retAddr 0], []) _ _ _
  refine vm_J.go vm_q144 (k := 2) (hs := []) (f' := (2, (0, 0), [.ref 0, .int (nI t), .int (nI i), .int (nI o), .int (nI j), .int (nI n), .retAddr 0, .retAddr 0], [.int (nI t), .ref 0])) (h' := (G, I, F)) (hs' := []) rfl rfl ?_
  refine vm_J.call vm_q144 (Z := vm_M145) (n := 1) (k := 0) (mi := 145) (pc := 2) (en := (2, .invokevirtual 365, 3, [145, 1049, 0], .null)) rfl trivial rfl rfl vm_z145 (av := [.ref 0, .int (nI t)]) (rest := []) (m_tapeAt_n (o := 0) (n := 1) (v := 38) (t := 75) (cu := 112) (rf := 132) (rd := 135) (T := 139) (p := t) hD.d hD.t (by omega)) ⟨_, _, rfl, rfl, _, 10, _, hD.d, rfl, rfl, rfl⟩ (Nat.le_of_ble_eq_true rfl) ⟨Nat.le_of_ble_eq_true rfl, Nat.le_of_ble_eq_true rfl⟩ ⟨Nat.le_of_ble_eq_true rfl, Nat.le_of_ble_eq_true rfl⟩ ?_
  show vm_J _ _ _ (5, (0, 0), [.ref 0, .int (nI t), .int (nI i), .int (nI o), .int (nI j), .int (nI n), .retAddr 0, .retAddr 0], [.ref (139 + 1 + 2 * t)]) (G, I, F) _ _
  refine vm_J.go vm_q144 (k := 3) (hs := []) (f' := (9, (0, 0), [.ref 0, .int (nI t), .int (nI i), .int (nI o), .int (nI j), .int (nI n), .ref (139 + 1 + 2 * t), .retAddr 0], [.int (nI o), .ref 0])) (h' := (G, I, F)) (hs' := []) rfl rfl ?_
  refine vm_J.call vm_q144 (Z := vm_M145) (n := 1) (k := 0) (mi := 145) (pc := 9) (en := (9, .invokevirtual 365, 3, [145, 1049, 0], .null)) rfl trivial rfl rfl vm_z145 (av := [.ref 0, .int (nI o)]) (rest := []) (m_tapeAt_n (o := 0) (n := 1) (v := 38) (t := 75) (cu := 112) (rf := 132) (rd := 135) (T := 139) (p := o) hD.d hD.t (by omega)) ⟨_, _, rfl, rfl, _, 10, _, hD.d, rfl, rfl, rfl⟩ (Nat.le_of_ble_eq_true rfl) ⟨Nat.le_of_ble_eq_true rfl, Nat.le_of_ble_eq_true rfl⟩ ⟨Nat.le_of_ble_eq_true rfl, Nat.le_of_ble_eq_true rfl⟩ ?_
  show vm_J _ _ _ (12, (0, 0), [.ref 0, .int (nI t), .int (nI i), .int (nI o), .int (nI j), .int (nI n), .ref (139 + 1 + 2 * t), .retAddr 0], [.ref (139 + 1 + 2 * o)]) (G, I, F) _ _
  refine vm_J.go vm_q144 (k := 9) (hs := [(10, 3, [.int 0, .int 0, .ref (139 + 2 + 2 * t)])]) (f' := (bif vm_ic .eq (I (139 + 1 + 2 * t) 0) (-1) then 44 else 35, (0, 0), [.ref 0, .int (nI t), .int (nI i), .int (nI o), .int (nI j), .int (nI n), .ref (139 + 1 + 2 * t), .ref (139 + 1 + 2 * o)], [])) (h' := (G, I, F)) (hs' := []) rfl (vm_b2 rfl (vm_b2 rfl (vm_b2 rfl (vm_b2 rfl (vm_b2 rfl (vm_b2 rfl (vm_b2 (vm_b2 (vm_hG (hD.t.2.1 t ht)) rfl) (vm_b2 rfl (vm_b2 rfl rfl))))))))) ?_
  refine vm_J.bF (decide_eq_false hst) ?_
  refine vm_J.go vm_q144 (k := 4) (hs := [(10, 3, [.int 0, .int 0, .ref (139 + 2 + 2 * o)])]) (f' := (bif vm_ic .ne (I (139 + 1 + 2 * o) 0) (-1) then 47 else 44, (0, 0), [.ref 0, .int (nI t), .int (nI i), .int (nI o), .int (nI j), .int (nI n), .ref (139 + 1 + 2 * t), .ref (139 + 1 + 2 * o)], [])) (h' := (G, I, F)) (hs' := []) rfl (vm_b2 rfl (vm_b2 (vm_b2 (vm_hG (hD.t.2.1 o ho)) rfl) (vm_b2 rfl (vm_b2 rfl rfl)))) ?_
  refine vm_J.bT (decide_eq_true hso) ?_
  refine vm_J.go vm_q144 (k := 5) (hs := [(10, 3, [.int 0, .int 0, .ref (139 + 2 + 2 * t)]), (10, 3, [.int 0, .int 0, .ref (139 + 2 + 2 * o)])]) (f' := (bif vm_ic .eq (I (139 + 1 + 2 * t) 0) (I (139 + 1 + 2 * o) 0) then 63 else 60, (0, 0), [.ref 0, .int (nI t), .int (nI i), .int (nI o), .int (nI j), .int (nI n), .ref (139 + 1 + 2 * t), .ref (139 + 1 + 2 * o)], [])) (h' := (G, I, F)) (hs' := []) rfl (vm_b2 rfl (vm_b2 (vm_b2 (vm_hG (hD.t.2.1 t ht)) rfl) (vm_b2 rfl (vm_b2 (vm_b2 (vm_hG (hD.t.2.1 o ho)) rfl) (vm_b2 rfl rfl))))) ?_
  refine vm_J.bT (decide_eq_true heq) ?_
  refine vm_J.go vm_q144 (k := 2) (hs := []) (f' := (bif vm_ic .lt (nI n) 0 then 120 else 68, (0, 0), [.ref 0, .int (nI t), .int (nI i), .int (nI o), .int (nI j), .int (nI n), .ref (139 + 1 + 2 * t), .ref (139 + 1 + 2 * o)], [])) (h' := (G, I, F)) (hs' := []) rfl rfl ?_
  refine vm_J.br (fun c1 => ?_) (fun c1 => ?_)
  · have c1 := vm_lt_t (a := n) (b := 0) (by omega) (by omega) c1
    exact (show False by omega).elim
  · have c1 := vm_lt_f (a := n) (b := 0) (by omega) (by omega) c1
    refine vm_J.go vm_q144 (k := 4) (hs := [(10, 3, [.int 0, .int 0, .ref (139 + 2 + 2 * t)])]) (f' := (75, (0, 0), [.ref 0, .int (nI t), .int (nI i), .int (nI o), .int (nI j), .int (nI n), .ref (139 + 1 + 2 * t), .ref (139 + 1 + 2 * o)], [.int (I (139 + 1 + 2 * t) 1), .int 0, .int (nI i)])) (h' := (G, I, F)) (hs' := []) rfl (vm_b2 rfl (vm_b2 rfl (vm_b2 rfl (vm_b2 (vm_b2 (vm_hG (hD.t.2.1 t ht)) rfl) rfl)))) ?_
    rw [(hm : I (139 + 1 + 2 * t) 1 = nI m)]
    refine vm_J.call vm_q144 (Z := vm_M151) (n := 3) (k := 1) (mi := 151) (pc := 75) (en := (75, .invokestatic 56, 3, [151, 420, 0], .null)) rfl trivial rfl rfl vm_z151 (av := [.int (nI i), .int 0, .int (nI m)]) (rest := []) (m_isWithin_y (v := nI i) (a := 0) (b := nI m) (vm_rng (by omega) hm2)) rfl (Nat.le_of_ble_eq_true rfl) ⟨Nat.le_of_ble_eq_true rfl, Nat.le_of_ble_eq_true rfl⟩ ⟨Nat.le_of_ble_eq_true rfl, Nat.le_of_ble_eq_true rfl⟩ ?_
    show vm_J _ _ _ (78, (0, 0), [.ref 0, .int (nI t), .int (nI i), .int (nI o), .int (nI j), .int (nI n), .ref (139 + 1 + 2 * t), .ref (139 + 1 + 2 * o)], [.int 1]) (G, I, F) _ _
    refine vm_J.go vm_q144 (k := 1) (hs := []) (f' := (bif vm_ic .eq 1 0 then 120 else 81, (0, 0), [.ref 0, .int (nI t), .int (nI i), .int (nI o), .int (nI j), .int (nI n), .ref (139 + 1 + 2 * t), .ref (139 + 1 + 2 * o)], [])) (h' := (G, I, F)) (hs' := []) rfl rfl ?_
    refine vm_J.bF (by decide) ?_
    refine vm_J.go vm_q144 (k := 4) (hs := [(10, 3, [.int 0, .int 0, .ref (139 + 2 + 2 * o)])]) (f' := (89, (0, 0), [.ref 0, .int (nI t), .int (nI i), .int (nI o), .int (nI j), .int (nI n), .ref (139 + 1 + 2 * t), .ref (139 + 1 + 2 * o)], [.int (I (139 + 1 + 2 * o) 1), .int 0, .int (nI j)])) (h' := (G, I, F)) (hs' := []) rfl (vm_b2 rfl (vm_b2 rfl (vm_b2 rfl (vm_b2 (vm_b2 (vm_hG (hD.t.2.1 o ho)) rfl) rfl)))) ?_
    rw [(hk : I (139 + 1 + 2 * o) 1 = nI k)]
    refine vm_J.call vm_q144 (Z := vm_M151) (n := 3) (k := 1) (mi := 151) (pc := 89) (en := (89, .invokestatic 56, 3, [151, 420, 0], .null)) rfl trivial rfl rfl vm_z151 (av := [.int (nI j), .int 0, .int (nI k)]) (rest := []) (m_isWithin_y (v := nI j) (a := 0) (b := nI k) (vm_rng (by omega) hk2)) rfl (Nat.le_of_ble_eq_true rfl) ⟨Nat.le_of_ble_eq_true rfl, Nat.le_of_ble_eq_true rfl⟩ ⟨Nat.le_of_ble_eq_true rfl, Nat.le_of_ble_eq_true rfl⟩ ?_
    show vm_J _ _ _ (92, (0, 0), [.ref 0, .int (nI t), .int (nI i), .int (nI o), .int (nI j), .int (nI n), .ref (139 + 1 + 2 * t), .ref (139 + 1 + 2 * o)], [.int 1]) (G, I, F) _ _
    refine vm_J.go vm_q144 (k := 1) (hs := []) (f' := (bif vm_ic .eq 1 0 then 120 else 95, (0, 0), [.ref 0, .int (nI t), .int (nI i), .int (nI o), .int (nI j), .int (nI n), .ref (139 + 1 + 2 * t), .ref (139 + 1 + 2 * o)], [])) (h' := (G, I, F)) (hs' := []) rfl rfl ?_
    refine vm_J.bF (by decide) ?_
    refine vm_J.go vm_q144 (k := 3) (hs := [(10, 3, [.int 0, .int 0, .ref (139 + 2 + 2 * t)])]) (f' := (102, (0, 0), [.ref 0, .int (nI t), .int (nI i), .int (nI o), .int (nI j), .int (nI n), .ref (139 + 1 + 2 * t), .ref (139 + 1 + 2 * o)], [.int (I (139 + 1 + 2 * t) 1), .int (nI n)])) (h' := (G, I, F)) (hs' := []) rfl (vm_b2 rfl (vm_b2 rfl (vm_b2 (vm_b2 (vm_hG (hD.t.2.1 t ht)) rfl) rfl))) ?_
    rw [(hm : I (139 + 1 + 2 * t) 1 = nI m)]
    refine vm_J.go vm_q144 (k := 3) (hs := []) (f' := (bif vm_ic .gt (nI n) ((nI m) - (nI i)) then 120 else 107, (0, 0), [.ref 0, .int (nI t), .int (nI i), .int (nI o), .int (nI j), .int (nI n), .ref (139 + 1 + 2 * t), .ref (139 + 1 + 2 * o)], [])) (h' := (G, I, F)) (hs' := []) rfl rfl ?_
    refine vm_J.br (fun c2 => ?_) (fun c2 => ?_)
    · rw [((vm_ps (rfl : (nI m : Int32) = nI m) (rfl : (nI i : Int32) = nI i) (by omega)) : (nI m) - (nI i) = nI (m - i))] at c2
      have c2 := vm_gt_t (a := n) (b := m - i) (by omega) (by omega) c2
      exact (show False by omega).elim
    · rw [((vm_ps (rfl : (nI m : Int32) = nI m) (rfl : (nI i : Int32) = nI i) (by omega)) : (nI m) - (nI i) = nI (m - i))] at c2
      have c2 := vm_gt_f (a := n) (b := m - i) (by omega) (by omega) c2
      refine vm_J.go vm_q144 (k := 3) (hs := [(10, 3, [.int 0, .int 0, .ref (139 + 2 + 2 * o)])]) (f' := (114, (0, 0), [.ref 0, .int (nI t), .int (nI i), .int (nI o), .int (nI j), .int (nI n), .ref (139 + 1 + 2 * t), .ref (139 + 1 + 2 * o)], [.int (I (139 + 1 + 2 * o) 1), .int (nI n)])) (h' := (G, I, F)) (hs' := []) rfl (vm_b2 rfl (vm_b2 rfl (vm_b2 (vm_b2 (vm_hG (hD.t.2.1 o ho)) rfl) rfl))) ?_
      rw [(hk : I (139 + 1 + 2 * o) 1 = nI k)]
      refine vm_J.go vm_q144 (k := 3) (hs := []) (f' := (bif vm_ic .le (nI n) ((nI k) - (nI j)) then 123 else 120, (0, 0), [.ref 0, .int (nI t), .int (nI i), .int (nI o), .int (nI j), .int (nI n), .ref (139 + 1 + 2 * t), .ref (139 + 1 + 2 * o)], [])) (h' := (G, I, F)) (hs' := []) rfl rfl ?_
      refine vm_J.br (fun c3 => ?_) (fun c3 => ?_)
      · rw [((vm_ps (rfl : (nI k : Int32) = nI k) (rfl : (nI j : Int32) = nI j) (by omega)) : (nI k) - (nI j) = nI (k - j))] at c3
        have c3 := vm_le_t (a := n) (b := k - j) (by omega) (by omega) c3
        refine vm_J.go vm_q144 (k := 5) (hs := []) (f' := (132, (0, 0), [.ref 0, .int (nI t), .int (nI i), .int (nI o), .int (nI j), .int (nI n), .ref (139 + 1 + 2 * t), .ref (139 + 1 + 2 * o)], [.int (nI n), .int (nI j), .ref (139 + 1 + 2 * o), .int (nI i), .ref (139 + 1 + 2 * t)])) (h' := (G, I, F)) (hs' := []) rfl rfl ?_
        refine vm_J.call vm_q144 (Z := vm_M148) (n := 5) (k := 1) (mi := 148) (pc := 132) (en := (132, .invokestatic 397, 3, [148, 1108, 0], .null)) rfl trivial rfl rfl vm_z148 (av := [.ref (139 + 1 + 2 * t), .int (nI i), .ref (139 + 1 + 2 * o), .int (nI j), .int (nI n)]) (rest := []) (m_moveItems (o := 139 + 1 + 2 * t) (s := 139 + 2 + 2 * t) (q := 139 + 1 + 2 * o) (d := 139 + 2 + 2 * o) (i := i) (j := j) (n := n) (hD.t.2.1 t ht) (hD.t.2.2 t ht) (hD.t.2.1 o ho) (hD.t.2.2 o ho) (by omega) (by omega)) rfl (Nat.le_of_ble_eq_true rfl) ⟨Nat.le_of_ble_eq_true rfl, Nat.le_of_ble_eq_true rfl⟩ ⟨Nat.le_of_ble_eq_true rfl, Nat.le_of_ble_eq_true rfl⟩ ?_
        show vm_J _ _ _ (135, (0, 0), [.ref 0, .int (nI t), .int (nI i), .int (nI o), .int (nI j), .int (nI n), .ref (139 + 1 + 2 * t), .ref (139 + 1 + 2 * o)], []) (G, (vm_wq I (139 + 2 + 2 * o) (vm_mvf I (139 + 2 + 2 * t) i j) j n), F) _ _
        refine vm_J.go vm_q144 (k := 1) (hs := []) (f' := (137, (0, 0), [.ref 0, .int (nI t), .int (nI i), .int (nI o), .int (nI j), .int (nI n), .ref (139 + 1 + 2 * t), .ref (139 + 1 + 2 * o)], [.int (nI n)])) (h' := (G, (vm_wq I (139 + 2 + 2 * o) (vm_mvf I (139 + 2 + 2 * t) i j) j n), F)) (hs' := []) rfl rfl ?_
        exact vm_J.end vm_q144 (en := (137, .ireturn, 1, [], .null)) rfl rfl vm_rI (Nat.zero_le _) (Nat.zero_le _) rfl
      · rw [((vm_ps (rfl : (nI k : Int32) = nI k) (rfl : (nI j : Int32) = nI j) (by omega)) : (nI k) - (nI j) = nI (k - j))] at c3
        have c3 := vm_le_f (a := n) (b := k - j) (by omega) (by omega) c3
        exact (show False by omega).elim
