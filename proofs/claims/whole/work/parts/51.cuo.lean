set_option maxHeartbeats 4000000 in
set_option maxRecDepth 20000 in
/-- DitherDesk$Cutter.openBox  -/
theorem m_Cu_open {l : Launch} {X : vm_Cx} {G : List vm_Sh} {I : Nat → Nat → Int32} {F : Nat → Nat → UInt32} {C n x y : Nat} (hC : vm_isC G C) (hn : I C 4 = nI n) (hn2 : n < 16) (hxy : x ≤ y) (hy2 : y ≤ 144) : vm_K l X vm_M7 [.ref C, .int (nI x), .int (nI y)] (G, I, F) (none) (G, (vm_up (vm_mu (vm_ms (vm_up (vm_up I (C + 4 + n) 0 (nI x)) (C + 4 + n) 1 (nI y)) C (C + 4 + n) x (y - x) 3) C (C + 4 + n) x (y - x)) C 4 (nI (n + 1))), F) := by
  refine vm_K.mk (by decide) (Nat.le_of_ble_eq_true rfl) ?_
  show vm_J _ _ _ (0, (0, 0), [.ref C, .int (nI x), .int (nI y), .retAddr 0], []) _ _ _
  refine vm_J.go vm_q7 (k := 3) (hs := [(3, 5, [.ref (C + 1), .ref (C + 2), .int 0, .ref (C + 3), .int 0])]) (f' := (5, (0, 0), [.ref C, .int (nI x), .int (nI y), .retAddr 0], [.int (I C 4), .ref C])) (h' := (G, I, F)) (hs' := []) rfl (vm_b2 rfl (vm_b2 rfl (vm_b2 (vm_b2 (vm_hG hC.1) rfl) rfl))) ?_
  rw [(hn : I C 4 = nI n)]
  refine vm_J.call vm_q7 (Z := vm_M8) (n := 1) (k := 0) (mi := 8) (pc := 5) (en := (5, .invokevirtual 80, 3, [8, 562, 0], .null)) rfl trivial rfl rfl vm_z8 (av := [.ref C, .int (nI n)]) (rest := []) (m_rawBox_n (p := n) hC (by omega)) ⟨_, _, rfl, rfl, _, 1, _, hC.1, rfl, rfl, rfl⟩ (Nat.le_of_ble_eq_true rfl) ⟨Nat.le_of_ble_eq_true rfl, Nat.le_of_ble_eq_true rfl⟩ ⟨Nat.le_of_ble_eq_true rfl, Nat.le_of_ble_eq_true rfl⟩ ?_
  show vm_J _ _ _ (8, (0, 0), [.ref C, .int (nI x), .int (nI y), .retAddr 0], [.ref (C + 4 + n)]) (G, I, F) _ _
  refine vm_J.go vm_q7 (k := 11) (hs := [(2, 6, [.int 0, .int 0, .int 0, .int 0, .int 0, .int 0]), (2, 6, [.int 0, .int 0, .int 0, .int 0, .int 0, .int 0])]) (f' := (25, (0, 0), [.ref C, .int (nI x), .int (nI y), .ref (C + 4 + n)], [.ref (C + 4 + n), .ref C])) (h' := (G, (vm_up (vm_up I (C + 4 + n) 0 (nI x)) (C + 4 + n) 1 (nI y)), F)) (hs' := []) rfl (vm_b2 rfl (vm_b2 rfl (vm_b2 rfl (vm_b2 rfl (vm_b2 rfl (vm_b2 (vm_b2 (vm_b2 (vm_hG (hC.2.2.2.2 n hn2)) rfl) rfl) (vm_b2 rfl (vm_b2 rfl (vm_b2 (vm_b2 (vm_b2 (vm_hG (hC.2.2.2.2 n hn2)) rfl) rfl) (vm_b2 rfl (vm_b2 rfl rfl))))))))))) ?_
  refine vm_J.call vm_q7 (Z := vm_M9) (n := 1) (k := 0) (mi := 9) (pc := 25) (en := (25, .invokevirtual 77, 3, [9, 566, 0], .null)) rfl trivial rfl rfl vm_z9 (av := [.ref C, .ref (C + 4 + n)]) (rest := []) (m_Cu_measure (x := x) (y := y) hC (hC.2.2.2.2 n hn2) ((vm_up_k2 _ (C + 4 + n) 1 _ 0 (by decide)).trans (vm_up_h I (C + 4 + n) 0 _)) (vm_up_h _ (C + 4 + n) 1 _) hxy hy2 (by omega) (by omega)) ⟨_, _, rfl, rfl, _, 1, _, hC.1, rfl, rfl, rfl⟩ (Nat.le_of_ble_eq_true rfl) ⟨Nat.le_of_ble_eq_true rfl, Nat.le_of_ble_eq_true rfl⟩ ⟨Nat.le_of_ble_eq_true rfl, Nat.le_of_ble_eq_true rfl⟩ ?_
  show vm_J _ _ _ (28, (0, 0), [.ref C, .int (nI x), .int (nI y), .ref (C + 4 + n)], []) (G, (vm_mu (vm_ms (vm_up (vm_up I (C + 4 + n) 0 (nI x)) (C + 4 + n) 1 (nI y)) C (C + 4 + n) x (y - x) 3) C (C + 4 + n) x (y - x)), F) _ _
  refine vm_J.go vm_q7 (k := 5) (hs := [(3, 5, [.ref (C + 1), .ref (C + 2), .int 0, .ref (C + 3), .int 0])]) (f' := (35, (0, 0), [.ref C, .int (nI x), .int (nI y), .ref (C + 4 + n)], [.int (((vm_mu (vm_ms (vm_up (vm_up I (C + 4 + n) 0 (nI x)) (C + 4 + n) 1 (nI y)) C (C + 4 + n) x (y - x) 3) C (C + 4 + n) x (y - x)) C 4) + 1), .ref C])) (h' := (G, (vm_mu (vm_ms (vm_up (vm_up I (C + 4 + n) 0 (nI x)) (C + 4 + n) 1 (nI y)) C (C + 4 + n) x (y - x) 3) C (C + 4 + n) x (y - x)), F)) (hs' := []) rfl (vm_b2 rfl (vm_b2 rfl (vm_b2 (vm_b2 (vm_hG hC.1) rfl) (vm_b2 rfl (vm_b2 rfl rfl))))) ?_
  rw [((vm_pa ((vm_mu_o _ C (C + 4 + n) x C (by omega) 4 (y - x)).trans ((vm_ms_o _ C (C + 4 + n) x _ C (by omega) 4 3).trans ((vm_up_o2 _ (C + 4 + n) 1 _ C 4 (by omega)).trans ((vm_up_o2 I (C + 4 + n) 0 _ C 4 (by omega)).trans hn)))) (rfl : (1 : Int32) = nI 1)) : ((vm_mu (vm_ms (vm_up (vm_up I (C + 4 + n) 0 (nI x)) (C + 4 + n) 1 (nI y)) C (C + 4 + n) x (y - x) 3) C (C + 4 + n) x (y - x)) C 4) + 1 = nI (n + 1))]
  refine vm_J.go vm_q7 (k := 1) (hs := [(3, 5, [.ref (C + 1), .ref (C + 2), .int 0, .ref (C + 3), .int 0])]) (f' := (38, (0, 0), [.ref C, .int (nI x), .int (nI y), .ref (C + 4 + n)], [])) (h' := (G, (vm_up (vm_mu (vm_ms (vm_up (vm_up I (C + 4 + n) 0 (nI x)) (C + 4 + n) 1 (nI y)) C (C + 4 + n) x (y - x) 3) C (C + 4 + n) x (y - x)) C 4 (nI (n + 1))), F)) (hs' := []) rfl (vm_b2 (vm_b2 (vm_b2 (vm_hG hC.1) rfl) rfl) rfl) ?_
  exact vm_J.end vm_q7 (en := (38, .return_, 1, [], .null)) rfl rfl vm_rV (Nat.zero_le _) (Nat.zero_le _) rfl
set_option maxHeartbeats 4000000 in
set_option maxRecDepth 20000 in
/-- DitherDesk$Cutter.boxAt  -/
theorem m_Cu_boxAt {l : Launch} {X : vm_Cx} {G : List vm_Sh} {I : Nat → Nat → Int32} {F : Nat → Nat → UInt32} {C n : Nat} {i : Int32} (hC : vm_isC G C) (hn : I C 4 = nI n) (hn2 : n ≤ 16) : vm_K l X vm_M16 [.ref C, .int i] (G, I, F) (some ((if sp_fi (fun t => sp_sum (fun u => if I (C + 4 + u) 5 < I (C + 4 + t) 5 then 1 else 0) n = i) n < n then Value.ref (C + 4 + sp_fi (fun t => sp_sum (fun u => if I (C + 4 + u) 5 < I (C + 4 + t) 5 then 1 else 0) n = i) n) else Value.null))) (G, I, F) := by
  refine vm_K.mk (by decide) (Nat.le_of_ble_eq_true rfl) ?_
  show vm_J _ _ _ (0, (0, 0), [.ref C, .int i, .retAddr 0, .retAddr 0], []) _ _ _
  refine vm_J.go vm_q16 (k := 2) (hs := []) (f' := (2, (0, 0), [.ref C, .int i, .int 0, .retAddr 0], [])) (h' := (G, I, F)) (hs' := []) rfl rfl ?_
  refine vm_J.cnt n (fun j => (2, (0, 0), [.ref C, .int i, .int (nI j), .retAddr 0], [])) (fun j => (G, I, F)) (fun j => ∀ t, t < j → ¬ sp_sum (fun u => if I (C + 4 + u) 5 < I (C + 4 + t) 5 then 1 else 0) n = i) rfl rfl vm_all0 (fun j hj pj ij => ?_) (fun pj => ?_)
  · show vm_J _ _ _ (2, (0, 0), [.ref C, .int i, .int (nI j), .retAddr 0], []) (G, I, F) _ _
    refine vm_J.go vm_q16 (k := 4) (hs := [(3, 5, [.ref (C + 1), .ref (C + 2), .int 0, .ref (C + 3), .int 0])]) (f' := (bif vm_ic .ge (nI j) (I C 4) then 37 else 10, (0, 0), [.ref C, .int i, .int (nI j), .retAddr 0], [])) (h' := (G, I, F)) (hs' := []) rfl (vm_b2 rfl (vm_b2 rfl (vm_b2 (vm_b2 (vm_hG hC.1) rfl) (vm_b2 rfl rfl)))) ?_
    refine vm_J.br (fun c1 => ?_) (fun c1 => ?_)
    · rw [(hn : I C 4 = nI n)] at c1
      have c1 := vm_ge_t (a := j) (b := n) (by omega) (by omega) c1
      exact (show False by omega).elim
    · rw [(hn : I C 4 = nI n)] at c1
      have c1 := vm_ge_f (a := j) (b := n) (by omega) (by omega) c1
      refine vm_J.go vm_q16 (k := 2) (hs := []) (f' := (12, (0, 0), [.ref C, .int i, .int (nI j), .retAddr 0], [.int (nI j), .ref C])) (h' := (G, I, F)) (hs' := []) rfl rfl ?_
      refine vm_J.call vm_q16 (Z := vm_M8) (n := 1) (k := 0) (mi := 8) (pc := 12) (en := (12, .invokevirtual 80, 3, [8, 562, 0], .null)) rfl trivial rfl rfl vm_z8 (av := [.ref C, .int (nI j)]) (rest := []) (m_rawBox_n (p := j) hC (by omega)) ⟨_, _, rfl, rfl, _, 1, _, hC.1, rfl, rfl, rfl⟩ (Nat.le_of_ble_eq_true rfl) ⟨Nat.le_of_ble_eq_true rfl, Nat.le_of_ble_eq_true rfl⟩ ⟨Nat.le_of_ble_eq_true rfl, Nat.le_of_ble_eq_true rfl⟩ ?_
      show vm_J _ _ _ (15, (0, 0), [.ref C, .int i, .int (nI j), .retAddr 0], [.ref (C + 4 + j)]) (G, I, F) _ _
      refine vm_J.go vm_q16 (k := 5) (hs := []) (f' := (22, (0, 0), [.ref C, .int i, .int (nI j), .ref (C + 4 + j)], [.ref (C + 4 + j), .ref C])) (h' := (G, I, F)) (hs' := []) rfl rfl ?_
      refine vm_J.call vm_q16 (Z := vm_M17) (n := 1) (k := 0) (mi := 17) (pc := 22) (en := (22, .invokevirtual 123, 3, [17, 604, 0], .null)) rfl trivial rfl rfl vm_z17 (av := [.ref C, .ref (C + 4 + j)]) (rest := []) (m_Cu_boxesAhead (b := C + 4 + j) hC (hC.2.2.2.2 j (by omega)) hn hn2) ⟨_, _, rfl, rfl, _, 1, _, hC.1, rfl, rfl, rfl⟩ (Nat.le_of_ble_eq_true rfl) ⟨Nat.le_of_ble_eq_true rfl, Nat.le_of_ble_eq_true rfl⟩ ⟨Nat.le_of_ble_eq_true rfl, Nat.le_of_ble_eq_true rfl⟩ ?_
      show vm_J _ _ _ (25, (0, 0), [.ref C, .int i, .int (nI j), .ref (C + 4 + j)], [.int (sp_sum (fun u => if I (C + 4 + u) 5 < I (C + 4 + j) 5 then 1 else 0) n)]) (G, I, F) _ _
      refine vm_J.go vm_q16 (k := 2) (hs := []) (f' := (bif vm_ic .ne (sp_sum (fun u => if I (C + 4 + u) 5 < I (C + 4 + j) 5 then 1 else 0) n) i then 31 else 29, (0, 0), [.ref C, .int i, .int (nI j), .ref (C + 4 + j)], [])) (h' := (G, I, F)) (hs' := []) rfl rfl ?_
      refine vm_J.br (fun c2 => ?_) (fun c2 => ?_)
      · have c2 : ¬ (sp_sum (fun u => if I (C + 4 + u) 5 < I (C + 4 + j) 5 then 1 else 0) n) = i := of_decide_eq_true c2
        refine vm_J.go vm_q16 (k := 2) (hs := []) (f' := (2, (0, 0), [.ref C, .int i, .int ((nI j) + 1), .ref (C + 4 + j)], [])) (h' := (G, I, F)) (hs' := []) rfl rfl ?_
        rw [((vm_pa (rfl : nI j = nI j) (rfl : (1 : Int32) = nI 1)) : (nI j) + 1 = nI (j + 1))]
        refine vm_J.mask [true, true, true, false] ?_
        show vm_J _ _ _ (2, (0, 0), [.ref C, .int i, .int (nI (j + 1)), .retAddr 0], []) (G, I, F) _ _
        exact ij (vm_alls (p := fun t => ¬ sp_sum (fun u => if I (C + 4 + u) 5 < I (C + 4 + t) 5 then 1 else 0) n = i) pj c2)
      · have c2 : (sp_sum (fun u => if I (C + 4 + u) 5 < I (C + 4 + j) 5 then 1 else 0) n) = i := Decidable.of_not_not (of_decide_eq_false c2)
        refine vm_J.go vm_q16 (k := 1) (hs := []) (f' := (30, (0, 0), [.ref C, .int i, .int (nI j), .ref (C + 4 + j)], [.ref (C + 4 + j)])) (h' := (G, I, F)) (hs' := []) rfl rfl ?_
        rw [sp_fi_hit (p := (fun t => sp_sum (fun u => if I (C + 4 + u) 5 < I (C + 4 + t) 5 then 1 else 0) n = i)) hj pj c2, if_pos hj]
        exact vm_J.end vm_q16 (en := (30, .areturn, 1, [], .null)) rfl rfl vm_rA (Nat.zero_le _) (Nat.zero_le _) rfl
  · show vm_J _ _ _ (2, (0, 0), [.ref C, .int i, .int (nI n), .retAddr 0], []) (G, I, F) _ _
    refine vm_J.go vm_q16 (k := 4) (hs := [(3, 5, [.ref (C + 1), .ref (C + 2), .int 0, .ref (C + 3), .int 0])]) (f' := (bif vm_ic .ge (nI n) (I C 4) then 37 else 10, (0, 0), [.ref C, .int i, .int (nI n), .retAddr 0], [])) (h' := (G, I, F)) (hs' := []) rfl (vm_b2 rfl (vm_b2 rfl (vm_b2 (vm_b2 (vm_hG hC.1) rfl) (vm_b2 rfl rfl)))) ?_
    refine vm_J.br (fun c3 => ?_) (fun c3 => ?_)
    · rw [(hn : I C 4 = nI n)] at c3
      have c3 := vm_ge_t (a := n) (b := n) (by omega) (by omega) c3
      refine vm_J.go vm_q16 (k := 1) (hs := []) (f' := (38, (0, 0), [.ref C, .int i, .int (nI n), .retAddr 0], [.null])) (h' := (G, I, F)) (hs' := []) rfl rfl ?_
      rw [sp_fi_none (p := (fun t => sp_sum (fun u => if I (C + 4 + u) 5 < I (C + 4 + t) 5 then 1 else 0) n = i)) pj, if_neg (Nat.lt_irrefl n)]
      exact vm_J.end vm_q16 (en := (38, .areturn, 1, [], .null)) rfl rfl vm_rN (Nat.zero_le _) (Nat.zero_le _) rfl
    · rw [(hn : I C 4 = nI n)] at c3
      have c3 := vm_ge_f (a := n) (b := n) (by omega) (by omega) c3
      exact (show False by omega).elim
