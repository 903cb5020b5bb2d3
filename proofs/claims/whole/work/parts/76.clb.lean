set_option maxHeartbeats 4000000 in
set_option maxRecDepth 20000 in
/-- DitherDesk.entry -/
theorem c_entry_x {l : Launch} {X : vm_Cx} {G : List vm_Sh} {I : Nat → Nat → Int32} {F : Nat → Nat → UInt32} {q : Int32} {c : Int32} (hD : vm_isD G) (hx : ¬ (0 ≤ q ∧ q ≤ 3)) : vm_K l X vm_M109 [.ref 0, .int q, .int c] (G, I, F) (some (.int (-1))) (G, I, F) := by
  refine vm_K.mk (by decide) (Nat.le_of_ble_eq_true rfl) ?_
  show vm_J _ _ _ (0, (0, 0), [.ref 0, .int q, .int c, .retAddr 0], []) _ _ _
  refine vm_J.go vm_q109 (k := 3) (hs := [(12, 9, [.ref 1, .ref 38, .ref 75, .ref 112, .ref 132, .ref 135, .ref 139, .int 0, .int 0])]) (f' := (5, (0, 0), [.ref 0, .int q, .int c, .retAddr 0], [.int q, .ref 1])) (h' := (G, I, F)) (hs' := []) rfl (vm_b2 rfl (vm_b2 (vm_b2 (vm_hG hD.d) rfl) (vm_b2 rfl rfl))) ?_
  refine vm_J.call vm_q109 (Z := vm_M93) (n := 1) (k := 0) (mi := 93) (pc := 5) (en := (5, .invokevirtual 172, 3, [93, 619, 0], .null)) rfl trivial rfl rfl vm_z93 (av := [.ref 1, .int q]) (rest := []) (m_pal_x (B := 1) (p := q) hD.w1 (vm_nx hx)) ⟨_, _, rfl, rfl, _, 9, _, hD.w1.w, rfl, rfl, rfl⟩ (Nat.le_of_ble_eq_true rfl) ⟨Nat.le_of_ble_eq_true rfl, Nat.le_of_ble_eq_true rfl⟩ ⟨Nat.le_of_ble_eq_true rfl, Nat.le_of_ble_eq_true rfl⟩ ?_
  show vm_J _ _ _ (8, (0, 0), [.ref 0, .int q, .int c, .retAddr 0], [.null]) (G, I, F) _ _
  refine vm_J.go vm_q109 (k := 4) (hs := []) (f' := (14, (0, 0), [.ref 0, .int q, .int c, .null], [.int (-1)])) (h' := (G, I, F)) (hs' := []) rfl rfl ?_
  exact vm_J.end vm_q109 (en := (14, .ireturn, 1, [], .null)) rfl rfl vm_rI (Nat.zero_le _) (Nat.zero_le _) rfl
set_option maxHeartbeats 4000000 in
set_option maxRecDepth 20000 in
/-- DitherDesk.entry -/
theorem c_entry_b {l : Launch} {X : vm_Cx} {G : List vm_Sh} {I : Nat → Nat → Int32} {F : Nat → Nat → UInt32} {p : Nat} {c : Int32} (hD : vm_isD G) (hp : p < 4) (hc : ¬ (0 ≤ c ∧ c ≤ 262143)) : vm_K l X vm_M109 [.ref 0, .int (nI p), .int c] (G, I, F) (some (.int (-2))) (G, I, F) := by
  refine vm_K.mk (by decide) (Nat.le_of_ble_eq_true rfl) ?_
  show vm_J _ _ _ (0, (0, 0), [.ref 0, .int (nI p), .int c, .retAddr 0], []) _ _ _
  refine vm_J.go vm_q109 (k := 3) (hs := [(12, 9, [.ref 1, .ref 38, .ref 75, .ref 112, .ref 132, .ref 135, .ref 139, .int 0, .int 0])]) (f' := (5, (0, 0), [.ref 0, .int (nI p), .int c, .retAddr 0], [.int (nI p), .ref 1])) (h' := (G, I, F)) (hs' := []) rfl (vm_b2 rfl (vm_b2 (vm_b2 (vm_hG hD.d) rfl) (vm_b2 rfl rfl))) ?_
  refine vm_J.call vm_q109 (Z := vm_M93) (n := 1) (k := 0) (mi := 93) (pc := 5) (en := (5, .invokevirtual 172, 3, [93, 619, 0], .null)) rfl trivial rfl rfl vm_z93 (av := [.ref 1, .int (nI p)]) (rest := []) (m_pal_n (B := 1) (p := p) hD.w1 (by omega)) ⟨_, _, rfl, rfl, _, 9, _, hD.w1.w, rfl, rfl, rfl⟩ (Nat.le_of_ble_eq_true rfl) ⟨Nat.le_of_ble_eq_true rfl, Nat.le_of_ble_eq_true rfl⟩ ⟨Nat.le_of_ble_eq_true rfl, Nat.le_of_ble_eq_true rfl⟩ ?_
  show vm_J _ _ _ (8, (0, 0), [.ref 0, .int (nI p), .int c, .retAddr 0], [.ref (1 + 25 + 3 * p)]) (G, I, F) _ _
  refine vm_J.go vm_q109 (k := 4) (hs := []) (f' := (16, (0, 0), [.ref 0, .int (nI p), .int c, .ref (1 + 25 + 3 * p)], [.int c])) (h' := (G, I, F)) (hs' := []) rfl rfl ?_
  refine vm_J.call vm_q109 (Z := vm_M163) (n := 1) (k := 1) (mi := 163) (pc := 16) (en := (16, .invokestatic 77, 3, [163, 448, 0], .null)) rfl trivial rfl rfl vm_z163 (av := [.int c]) (rest := []) (m_isColour_n (c := c) hc) rfl (Nat.le_of_ble_eq_true rfl) ⟨Nat.le_of_ble_eq_true rfl, Nat.le_of_ble_eq_true rfl⟩ ⟨Nat.le_of_ble_eq_true rfl, Nat.le_of_ble_eq_true rfl⟩ ?_
  show vm_J _ _ _ (19, (0, 0), [.ref 0, .int (nI p), .int c, .ref (1 + 25 + 3 * p)], [.int 0]) (G, I, F) _ _
  refine vm_J.go vm_q109 (k := 1) (hs := []) (f' := (bif vm_ic .ne 0 0 then 25 else 22, (0, 0), [.ref 0, .int (nI p), .int c, .ref (1 + 25 + 3 * p)], [])) (h' := (G, I, F)) (hs' := []) rfl rfl ?_
  refine vm_J.bF (by decide) ?_
  refine vm_J.go vm_q109 (k := 1) (hs := []) (f' := (24, (0, 0), [.ref 0, .int (nI p), .int c, .ref (1 + 25 + 3 * p)], [.int (-2)])) (h' := (G, I, F)) (hs' := []) rfl rfl ?_
  exact vm_J.end vm_q109 (en := (24, .ireturn, 1, [], .null)) rfl rfl vm_rI (Nat.zero_le _) (Nat.zero_le _) rfl
set_option maxHeartbeats 4000000 in
set_option maxRecDepth 20000 in
/-- DitherDesk.entry -/
theorem c_entry_s {l : Launch} {X : vm_Cx} {G : List vm_Sh} {I : Nat → Nat → Int32} {F : Nat → Nat → UInt32} {p : Nat} {n : Nat} {j : Nat} {c : Int32} (hD : vm_isD G) (hn : I (1 + 25 + 3 * p) 0 = nI n) (hp : p < 4) (hn2 : n ≤ 16) (hcc : 0 ≤ c ∧ c ≤ 262143) (hj : j < n) (hb : ∀ k, k < j → ¬ I (1 + 26 + 3 * p) k = c) (hc : I (1 + 26 + 3 * p) j = c) : vm_K l X vm_M109 [.ref 0, .int (nI p), .int c] (G, I, F) (some (.int (-3))) (G, I, F) := by
  refine vm_K.mk (by decide) (Nat.le_of_ble_eq_true rfl) ?_
  show vm_J _ _ _ (0, (0, 0), [.ref 0, .int (nI p), .int c, .retAddr 0], []) _ _ _
  refine vm_J.go vm_q109 (k := 3) (hs := [(12, 9, [.ref 1, .ref 38, .ref 75, .ref 112, .ref 132, .ref 135, .ref 139, .int 0, .int 0])]) (f' := (5, (0, 0), [.ref 0, .int (nI p), .int c, .retAddr 0], [.int (nI p), .ref 1])) (h' := (G, I, F)) (hs' := []) rfl (vm_b2 rfl (vm_b2 (vm_b2 (vm_hG hD.d) rfl) (vm_b2 rfl rfl))) ?_
  refine vm_J.call vm_q109 (Z := vm_M93) (n := 1) (k := 0) (mi := 93) (pc := 5) (en := (5, .invokevirtual 172, 3, [93, 619, 0], .null)) rfl trivial rfl rfl vm_z93 (av := [.ref 1, .int (nI p)]) (rest := []) (m_pal_n (B := 1) (p := p) hD.w1 (by omega)) ⟨_, _, rfl, rfl, _, 9, _, hD.w1.w, rfl, rfl, rfl⟩ (Nat.le_of_ble_eq_true rfl) ⟨Nat.le_of_ble_eq_true rfl, Nat.le_of_ble_eq_true rfl⟩ ⟨Nat.le_of_ble_eq_true rfl, Nat.le_of_ble_eq_true rfl⟩ ?_
  show vm_J _ _ _ (8, (0, 0), [.ref 0, .int (nI p), .int c, .retAddr 0], [.ref (1 + 25 + 3 * p)]) (G, I, F) _ _
  refine vm_J.go vm_q109 (k := 4) (hs := []) (f' := (16, (0, 0), [.ref 0, .int (nI p), .int c, .ref (1 + 25 + 3 * p)], [.int c])) (h' := (G, I, F)) (hs' := []) rfl rfl ?_
  refine vm_J.call vm_q109 (Z := vm_M163) (n := 1) (k := 1) (mi := 163) (pc := 16) (en := (16, .invokestatic 77, 3, [163, 448, 0], .null)) rfl trivial rfl rfl vm_z163 (av := [.int c]) (rest := []) (m_isColour_y (c := c) hcc) rfl (Nat.le_of_ble_eq_true rfl) ⟨Nat.le_of_ble_eq_true rfl, Nat.le_of_ble_eq_true rfl⟩ ⟨Nat.le_of_ble_eq_true rfl, Nat.le_of_ble_eq_true rfl⟩ ?_
  show vm_J _ _ _ (19, (0, 0), [.ref 0, .int (nI p), .int c, .ref (1 + 25 + 3 * p)], [.int 1]) (G, I, F) _ _
  refine vm_J.go vm_q109 (k := 1) (hs := []) (f' := (bif vm_ic .ne 1 0 then 25 else 22, (0, 0), [.ref 0, .int (nI p), .int c, .ref (1 + 25 + 3 * p)], [])) (h' := (G, I, F)) (hs' := []) rfl rfl ?_
  refine vm_J.bT (by decide) ?_
  refine vm_J.go vm_q109 (k := 2) (hs := []) (f' := (27, (0, 0), [.ref 0, .int (nI p), .int c, .ref (1 + 25 + 3 * p)], [.int c, .ref (1 + 25 + 3 * p)])) (h' := (G, I, F)) (hs' := []) rfl rfl ?_
  refine vm_J.call vm_q109 (Z := vm_M25) (n := 1) (k := 0) (mi := 25) (pc := 27) (en := (27, .invokevirtual 176, 3, [25, 623, 0], .null)) rfl trivial rfl rfl vm_z25 (av := [.ref (1 + 25 + 3 * p), .int c]) (rest := []) (m_ew_y (o := 1 + 25 + 3 * p) (a := 1 + 26 + 3 * p) (b := 1 + 27 + 3 * p) (n := n) (j := j) (c := c) (hD.w1.l p hp) (hD.w1.c p hp) hn (by omega) hj hb hc) ⟨_, _, rfl, rfl, _, 2, _, (hD.w1.l p hp), rfl, rfl, rfl⟩ (Nat.le_of_ble_eq_true rfl) ⟨Nat.le_of_ble_eq_true rfl, Nat.le_of_ble_eq_true rfl⟩ ⟨Nat.le_of_ble_eq_true rfl, Nat.le_of_ble_eq_true rfl⟩ ?_
  show vm_J _ _ _ (30, (0, 0), [.ref 0, .int (nI p), .int c, .ref (1 + 25 + 3 * p)], [.int (nI j)]) (G, I, F) _ _
  refine vm_J.go vm_q109 (k := 1) (hs := []) (f' := (bif vm_ic .lt (nI j) 0 then 36 else 33, (0, 0), [.ref 0, .int (nI p), .int c, .ref (1 + 25 + 3 * p)], [])) (h' := (G, I, F)) (hs' := []) rfl rfl ?_
  refine vm_J.br (fun c1 => ?_) (fun c1 => ?_)
  · have c1 := vm_lt_t (a := j) (b := 0) (by omega) (by omega) c1
    exact (show False by omega).elim
  · have c1 := vm_lt_f (a := j) (b := 0) (by omega) (by omega) c1
    refine vm_J.go vm_q109 (k := 1) (hs := []) (f' := (35, (0, 0), [.ref 0, .int (nI p), .int c, .ref (1 + 25 + 3 * p)], [.int (-3)])) (h' := (G, I, F)) (hs' := []) rfl rfl ?_
    exact vm_J.end vm_q109 (en := (35, .ireturn, 1, [], .null)) rfl rfl vm_rI (Nat.zero_le _) (Nat.zero_le _) rfl
theorem vm_app_0 (I : Nat → Nat → Int32) (o a b n : Nat) (c l : Int32) : vm_app I o a b n c l o 0 = nI (n + 1) := vm_up_h _ _ _ _
theorem vm_16 {x : Int32} {n : Nat} (h : x = nI n) (hn : n = 16) : 16 ≤ x := by
  rw [h, hn]
  decide
theorem vm_n16 {x : Int32} {n : Nat} (h : x = nI n) (hn : n < 16) : ¬ 16 ≤ x := by
  rw [h]
  exact nI_ge hn (by decide)
set_option maxHeartbeats 4000000 in
set_option maxRecDepth 20000 in
/-- DitherDesk.entry -/
theorem c_entry_f {l : Launch} {X : vm_Cx} {G : List vm_Sh} {I : Nat → Nat → Int32} {F : Nat → Nat → UInt32} {p : Nat} {n : Nat} {c : Int32} (hD : vm_isD G) (hn : I (1 + 25 + 3 * p) 0 = nI n) (hp : p < 4) (hn2 : n = 16) (hcc : 0 ≤ c ∧ c ≤ 262143) (hb : ∀ k, k < n → ¬ I (1 + 26 + 3 * p) k = c) : vm_K l X vm_M109 [.ref 0, .int (nI p), .int c] (G, I, F) (some (.int (-4))) (G, I, F) := by
  refine vm_K.mk (by decide) (Nat.le_of_ble_eq_true rfl) ?_
  show vm_J _ _ _ (0, (0, 0), [.ref 0, .int (nI p), .int c, .retAddr 0], []) _ _ _
  refine vm_J.go vm_q109 (k := 3) (hs := [(12, 9, [.ref 1, .ref 38, .ref 75, .ref 112, .ref 132, .ref 135, .ref 139, .int 0, .int 0])]) (f' := (5, (0, 0), [.ref 0, .int (nI p), .int c, .retAddr 0], [.int (nI p), .ref 1])) (h' := (G, I, F)) (hs' := []) rfl (vm_b2 rfl (vm_b2 (vm_b2 (vm_hG hD.d) rfl) (vm_b2 rfl rfl))) ?_
  refine vm_J.call vm_q109 (Z := vm_M93) (n := 1) (k := 0) (mi := 93) (pc := 5) (en := (5, .invokevirtual 172, 3, [93, 619, 0], .null)) rfl trivial rfl rfl vm_z93 (av := [.ref 1, .int (nI p)]) (rest := []) (m_pal_n (B := 1) (p := p) hD.w1 (by omega)) ⟨_, _, rfl, rfl, _, 9, _, hD.w1.w, rfl, rfl, rfl⟩ (Nat.le_of_ble_eq_true rfl) ⟨Nat.le_of_ble_eq_true rfl, Nat.le_of_ble_eq_true rfl⟩ ⟨Nat.le_of_ble_eq_true rfl, Nat.le_of_ble_eq_true rfl⟩ ?_
  show vm_J _ _ _ (8, (0, 0), [.ref 0, .int (nI p), .int c, .retAddr 0], [.ref (1 + 25 + 3 * p)]) (G, I, F) _ _
  refine vm_J.go vm_q109 (k := 4) (hs := []) (f' := (16, (0, 0), [.ref 0, .int (nI p), .int c, .ref (1 + 25 + 3 * p)], [.int c])) (h' := (G, I, F)) (hs' := []) rfl rfl ?_
  refine vm_J.call vm_q109 (Z := vm_M163) (n := 1) (k := 1) (mi := 163) (pc := 16) (en := (16, .invokestatic 77, 3, [163, 448, 0], .null)) rfl trivial rfl rfl vm_z163 (av := [.int c]) (rest := []) (m_isColour_y (c := c) hcc) rfl (Nat.le_of_ble_eq_true rfl) ⟨Nat.le_of_ble_eq_true rfl, Nat.le_of_ble_eq_true rfl⟩ ⟨Nat.le_of_ble_eq_true rfl, Nat.le_of_ble_eq_true rfl⟩ ?_
  show vm_J _ _ _ (19, (0, 0), [.ref 0, .int (nI p), .int c, .ref (1 + 25 + 3 * p)], [.int 1]) (G, I, F) _ _
  refine vm_J.go vm_q109 (k := 1) (hs := []) (f' := (bif vm_ic .ne 1 0 then 25 else 22, (0, 0), [.ref 0, .int (nI p), .int c, .ref (1 + 25 + 3 * p)], [])) (h' := (G, I, F)) (hs' := []) rfl rfl ?_
  refine vm_J.bT (by decide) ?_
  refine vm_J.go vm_q109 (k := 2) (hs := []) (f' := (27, (0, 0), [.ref 0, .int (nI p), .int c, .ref (1 + 25 + 3 * p)], [.int c, .ref (1 + 25 + 3 * p)])) (h' := (G, I, F)) (hs' := []) rfl rfl ?_
  refine vm_J.call vm_q109 (Z := vm_M25) (n := 1) (k := 0) (mi := 25) (pc := 27) (en := (27, .invokevirtual 176, 3, [25, 623, 0], .null)) rfl trivial rfl rfl vm_z25 (av := [.ref (1 + 25 + 3 * p), .int c]) (rest := []) (m_ew_n (o := 1 + 25 + 3 * p) (a := 1 + 26 + 3 * p) (b := 1 + 27 + 3 * p) (n := n) (c := c) (hD.w1.l p hp) (hD.w1.c p hp) hn (by omega) hb) ⟨_, _, rfl, rfl, _, 2, _, (hD.w1.l p hp), rfl, rfl, rfl⟩ (Nat.le_of_ble_eq_true rfl) ⟨Nat.le_of_ble_eq_true rfl, Nat.le_of_ble_eq_true rfl⟩ ⟨Nat.le_of_ble_eq_true rfl, Nat.le_of_ble_eq_true rfl⟩ ?_
  show vm_J _ _ _ (30, (0, 0), [.ref 0, .int (nI p), .int c, .ref (1 + 25 + 3 * p)], [.int (-1)]) (G, I, F) _ _
  refine vm_J.go vm_q109 (k := 1) (hs := []) (f' := (bif vm_ic .lt (-1) 0 then 36 else 33, (0, 0), [.ref 0, .int (nI p), .int c, .ref (1 + 25 + 3 * p)], [])) (h' := (G, I, F)) (hs' := []) rfl rfl ?_
  refine vm_J.bT (by decide) ?_
  refine vm_J.go vm_q109 (k := 1) (hs := []) (f' := (37, (0, 0), [.ref 0, .int (nI p), .int c, .ref (1 + 25 + 3 * p)], [.ref (1 + 25 + 3 * p)])) (h' := (G, I, F)) (hs' := []) rfl rfl ?_
  refine vm_J.call vm_q109 (Z := vm_M22) (n := 0) (k := 0) (mi := 22) (pc := 37) (en := (37, .invokevirtual 181, 3, [22, 632, 0], .null)) rfl trivial rfl rfl vm_z22 (av := [.ref (1 + 25 + 3 * p)]) (rest := []) (m_Pal_isFull_y (o := 1 + 25 + 3 * p) (a := 1 + 26 + 3 * p) (b := 1 + 27 + 3 * p) (hD.w1.l p hp) (vm_16 hn hn2)) ⟨_, _, rfl, rfl, _, 2, _, (hD.w1.l p hp), rfl, rfl, rfl⟩ (Nat.le_of_ble_eq_true rfl) ⟨Nat.le_of_ble_eq_true rfl, Nat.le_of_ble_eq_true rfl⟩ ⟨Nat.le_of_ble_eq_true rfl, Nat.le_of_ble_eq_true rfl⟩ ?_
  show vm_J _ _ _ (40, (0, 0), [.ref 0, .int (nI p), .int c, .ref (1 + 25 + 3 * p)], [.int 1]) (G, I, F) _ _
  refine vm_J.go vm_q109 (k := 1) (hs := []) (f' := (bif vm_ic .eq 1 0 then 46 else 43, (0, 0), [.ref 0, .int (nI p), .int c, .ref (1 + 25 + 3 * p)], [])) (h' := (G, I, F)) (hs' := []) rfl rfl ?_
  refine vm_J.bF (by decide) ?_
  refine vm_J.go vm_q109 (k := 1) (hs := []) (f' := (45, (0, 0), [.ref 0, .int (nI p), .int c, .ref (1 + 25 + 3 * p)], [.int (-4)])) (h' := (G, I, F)) (hs' := []) rfl rfl ?_
  exact vm_J.end vm_q109 (en := (45, .ireturn, 1, [], .null)) rfl rfl vm_rI (Nat.zero_le _) (Nat.zero_le _) rfl
set_option maxHeartbeats 4000000 in
set_option maxRecDepth 20000 in
/-- DitherDesk.entry -/
theorem c_entry_y {l : Launch} {X : vm_Cx} {G : List vm_Sh} {I : Nat → Nat → Int32} {F : Nat → Nat → UInt32} {p : Nat} {n : Nat} {c : Int32} (hD : vm_isD G) (hn : I (1 + 25 + 3 * p) 0 = nI n) (hp : p < 4) (hn2 : n < 16) (hcc : 0 ≤ c ∧ c ≤ 262143) (hb : ∀ k, k < n → ¬ I (1 + 26 + 3 * p) k = c) : vm_K l X vm_M109 [.ref 0, .int (nI p), .int c] (G, I, F) (some (.int (nI n))) (G, (vm_app I (1 + 25 + 3 * p) (1 + 26 + 3 * p) (1 + 27 + 3 * p) n c 0), F) := by
  refine vm_K.mk (by decide) (Nat.le_of_ble_eq_true rfl) ?_
  show vm_J _ _ _ (0, (0, 0), [.ref 0, .int (nI p), .int c, .retAddr 0], []) _ _ _
  refine vm_J.go vm_q109 (k := 3) (hs := [(12, 9, [.ref 1, .ref 38, .ref 75, .ref 112, .ref 132, .ref 135, .ref 139, .int 0, .int 0])]) (f' := (5, (0, 0), [.ref 0, .int (nI p), .int c, .retAddr 0], [.int (nI p), .ref 1])) (h' := (G, I, F)) (hs' := []) rfl (vm_b2 rfl (vm_b2 (vm_b2 (vm_hG hD.d) rfl) (vm_b2 rfl rfl))) ?_
  refine vm_J.call vm_q109 (Z := vm_M93) (n := 1) (k := 0) (mi := 93) (pc := 5) (en := (5, .invokevirtual 172, 3, [93, 619, 0], .null)) rfl trivial rfl rfl vm_z93 (av := [.ref 1, .int (nI p)]) (rest := []) (m_pal_n (B := 1) (p := p) hD.w1 (by omega)) ⟨_, _, rfl, rfl, _, 9, _, hD.w1.w, rfl, rfl, rfl⟩ (Nat.le_of_ble_eq_true rfl) ⟨Nat.le_of_ble_eq_true rfl, Nat.le_of_ble_eq_true rfl⟩ ⟨Nat.le_of_ble_eq_true rfl, Nat.le_of_ble_eq_true rfl⟩ ?_
  show vm_J _ _ _ (8, (0, 0), [.ref 0, .int (nI p), .int c, .retAddr 0], [.ref (1 + 25 + 3 * p)]) (G, I, F) _ _
  refine vm_J.go vm_q109 (k := 4) (hs := []) (f' := (16, (0, 0), [.ref 0, .int (nI p), .int c, .ref (1 + 25 + 3 * p)], [.int c])) (h' := (G, I, F)) (hs' := []) rfl rfl ?_
  refine vm_J.call vm_q109 (Z := vm_M163) (n := 1) (k := 1) (mi := 163) (pc := 16) (en := (16, .invokestatic 77, 3, [163, 448, 0], .null)) rfl trivial rfl rfl vm_z163 (av := [.int c]) (rest := []) (m_isColour_y (c := c) hcc) rfl (Nat.le_of_ble_eq_true rfl) ⟨Nat.le_of_ble_eq_true rfl, Nat.le_of_ble_eq_true rfl⟩ ⟨Nat.le_of_ble_eq_true rfl, Nat.le_of_ble_eq_true rfl⟩ ?_
  show vm_J _ _ _ (19, (0, 0), [.ref 0, .int (nI p), .int c, .ref (1 + 25 + 3 * p)], [.int 1]) (G, I, F) _ _
  refine vm_J.go vm_q109 (k := 1) (hs := []) (f' := (bif vm_ic .ne 1 0 then 25 else 22, (0, 0), [.ref 0, .int (nI p), .int c, .ref (1 + 25 + 3 * p)], [])) (h' := (G, I, F)) (hs' := []) rfl rfl ?_
  refine vm_J.bT (by decide) ?_
  refine vm_J.go vm_q109 (k := 2) (hs := []) (f' := (27, (0, 0), [.ref 0, .int (nI p), .int c, .ref (1 + 25 + 3 * p)], [.int c, .ref (1 + 25 + 3 * p)])) (h' := (G, I, F)) (hs' := []) rfl rfl ?_
  refine vm_J.call vm_q109 (Z := vm_M25) (n := 1) (k := 0) (mi := 25) (pc := 27) (en := (27, .invokevirtual 176, 3, [25, 623, 0], .null)) rfl trivial rfl rfl vm_z25 (av := [.ref (1 + 25 + 3 * p), .int c]) (rest := []) (m_ew_n (o := 1 + 25 + 3 * p) (a := 1 + 26 + 3 * p) (b := 1 + 27 + 3 * p) (n := n) (c := c) (hD.w1.l p hp) (hD.w1.c p hp) hn (by omega) hb) ⟨_, _, rfl, rfl, _, 2, _, (hD.w1.l p hp), rfl, rfl, rfl⟩ (Nat.le_of_ble_eq_true rfl) ⟨Nat.le_of_ble_eq_true rfl, Nat.le_of_ble_eq_true rfl⟩ ⟨Nat.le_of_ble_eq_true rfl, Nat.le_of_ble_eq_true rfl⟩ ?_
  show vm_J _ _ _ (30, (0, 0), [.ref 0, .int (nI p), .int c, .ref (1 + 25 + 3 * p)], [.int (-1)]) (G, I, F) _ _
  refine vm_J.go vm_q109 (k := 1) (hs := []) (f' := (bif vm_ic .lt (-1) 0 then 36 else 33, (0, 0), [.ref 0, .int (nI p), .int c, .ref (1 + 25 + 3 * p)], [])) (h' := (G, I, F)) (hs' := []) rfl rfl ?_
  refine vm_J.bT (by decide) ?_
  refine vm_J.go vm_q109 (k := 1) (hs := []) (f' := (37, (0, 0), [.ref 0, .int (nI p), .int c, .ref (1 + 25 + 3 * p)], [.ref (1 + 25 + 3 * p)])) (h' := (G, I, F)) (hs' := []) rfl rfl ?_
  refine vm_J.call vm_q109 (Z := vm_M22) (n := 0) (k := 0) (mi := 22) (pc := 37) (en := (37, .invokevirtual 181, 3, [22, 632, 0], .null)) rfl trivial rfl rfl vm_z22 (av := [.ref (1 + 25 + 3 * p)]) (rest := []) (m_Pal_isFull_n (o := 1 + 25 + 3 * p) (a := 1 + 26 + 3 * p) (b := 1 + 27 + 3 * p) (hD.w1.l p hp) (vm_n16 hn hn2)) ⟨_, _, rfl, rfl, _, 2, _, (hD.w1.l p hp), rfl, rfl, rfl⟩ (Nat.le_of_ble_eq_true rfl) ⟨Nat.le_of_ble_eq_true rfl, Nat.le_of_ble_eq_true rfl⟩ ⟨Nat.le_of_ble_eq_true rfl, Nat.le_of_ble_eq_true rfl⟩ ?_
  show vm_J _ _ _ (40, (0, 0), [.ref 0, .int (nI p), .int c, .ref (1 + 25 + 3 * p)], [.int 0]) (G, I, F) _ _
  refine vm_J.go vm_q109 (k := 1) (hs := []) (f' := (bif vm_ic .eq 0 0 then 46 else 43, (0, 0), [.ref 0, .int (nI p), .int c, .ref (1 + 25 + 3 * p)], [])) (h' := (G, I, F)) (hs' := []) rfl rfl ?_
  refine vm_J.bT (by decide) ?_
  refine vm_J.go vm_q109 (k := 3) (hs := []) (f' := (49, (0, 0), [.ref 0, .int (nI p), .int c, .ref (1 + 25 + 3 * p)], [.int 0, .int c, .ref (1 + 25 + 3 * p)])) (h' := (G, I, F)) (hs' := []) rfl rfl ?_
  refine vm_J.call vm_q109 (Z := vm_M26) (n := 2) (k := 0) (mi := 26) (pc := 49) (en := (49, .invokevirtual 185, 3, [26, 636, 0], .null)) rfl trivial rfl rfl vm_z26 (av := [.ref (1 + 25 + 3 * p), .int c, .int 0]) (rest := []) (m_Pal_append_0 (o := 1 + 25 + 3 * p) (a := 1 + 26 + 3 * p) (b := 1 + 27 + 3 * p) (n := n) (c := c) (hD.w1.l p hp) (hD.w1.c p hp) (hD.w1.k p hp) hn (by omega) (by omega) (by omega) (by omega)) ⟨_, _, rfl, rfl, _, 2, _, (hD.w1.l p hp), rfl, rfl, rfl⟩ (Nat.le_of_ble_eq_true rfl) ⟨Nat.le_of_ble_eq_true rfl, Nat.le_of_ble_eq_true rfl⟩ ⟨Nat.le_of_ble_eq_true rfl, Nat.le_of_ble_eq_true rfl⟩ ?_
  show vm_J _ _ _ (52, (0, 0), [.ref 0, .int (nI p), .int c, .ref (1 + 25 + 3 * p)], []) (G, (vm_app I (1 + 25 + 3 * p) (1 + 26 + 3 * p) (1 + 27 + 3 * p) n c 0), F) _ _
  refine vm_J.go vm_q109 (k := 2) (hs := [(4, 3, [.int 0, .ref (1 + 26 + 3 * p), .ref (1 + 27 + 3 * p)])]) (f' := (56, (0, 0), [.ref 0, .int (nI p), .int c, .ref (1 + 25 + 3 * p)], [.int ((vm_app I (1 + 25 + 3 * p) (1 + 26 + 3 * p) (1 + 27 + 3 * p) n c 0) (1 + 25 + 3 * p) 0)])) (h' := (G, (vm_app I (1 + 25 + 3 * p) (1 + 26 + 3 * p) (1 + 27 + 3 * p) n c 0), F)) (hs' := []) rfl (vm_b2 rfl (vm_b2 (vm_b2 (vm_hG (hD.w1.l p hp)) rfl) rfl)) ?_
  rw [((vm_app_0 _ _ _ _ _ _ _) : (vm_app I (1 + 25 + 3 * p) (1 + 26 + 3 * p) (1 + 27 + 3 * p) n c 0) (1 + 25 + 3 * p) 0 = nI (n + 1))]
  refine vm_J.go vm_q109 (k := 2) (hs := []) (f' := (58, (0, 0), [.ref 0, .int (nI p), .int c, .ref (1 + 25 + 3 * p)], [.int ((nI (n + 1)) - 1)])) (h' := (G, (vm_app I (1 + 25 + 3 * p) (1 + 26 + 3 * p) (1 + 27 + 3 * p) n c 0), F)) (hs' := []) rfl rfl ?_
  rw [((vm_ps (rfl : (nI (n + 1) : Int32) = nI (n + 1)) (rfl : (1 : Int32) = nI 1) (by omega)) : (nI (n + 1)) - 1 = nI ((n + 1) - 1))]
  exact vm_J.end vm_q109 (en := (58, .ireturn, 1, [], .null)) rfl (by rw [Nat.add_sub_cancel]; rfl) vm_rI (Nat.zero_le _) (Nat.zero_le _) rfl
set_option maxHeartbeats 4000000 in
set_option maxRecDepth 20000 in
/-- DitherDesk.drop -/
theorem c_drop_x {l : Launch} {X : vm_Cx} {G : List vm_Sh} {I : Nat → Nat → Int32} {F : Nat → Nat → UInt32} {q : Int32} {e : Int32} (hD : vm_isD G) (hx : ¬ (0 ≤ q ∧ q ≤ 3)) : vm_K l X vm_M110 [.ref 0, .int q, .int e] (G, I, F) (some (.int (-1))) (G, I, F) := by
  refine vm_K.mk (by decide) (Nat.le_of_ble_eq_true rfl) ?_
  show vm_J _ _ _ (0, (0, 0), [.ref 0, .int q, .int e, .retAddr 0], []) _ _ _
  refine vm_J.go vm_q110 (k := 3) (hs := [(12, 9, [.ref 1, .ref 38, .ref 75, .ref 112, .ref 132, .ref 135, .ref 139, .int 0, .int 0])]) (f' := (5, (0, 0), [.ref 0, .int q, .int e, .retAddr 0], [.int q, .ref 1])) (h' := (G, I, F)) (hs' := []) rfl (vm_b2 rfl (vm_b2 (vm_b2 (vm_hG hD.d) rfl) (vm_b2 rfl rfl))) ?_
  refine vm_J.call vm_q110 (Z := vm_M93) (n := 1) (k := 0) (mi := 93) (pc := 5) (en := (5, .invokevirtual 172, 3, [93, 619, 0], .null)) rfl trivial rfl rfl vm_z93 (av := [.ref 1, .int q]) (rest := []) (m_pal_x (B := 1) (p := q) hD.w1 (vm_nx hx)) ⟨_, _, rfl, rfl, _, 9, _, hD.w1.w, rfl, rfl, rfl⟩ (Nat.le_of_ble_eq_true rfl) ⟨Nat.le_of_ble_eq_true rfl, Nat.le_of_ble_eq_true rfl⟩ ⟨Nat.le_of_ble_eq_true rfl, Nat.le_of_ble_eq_true rfl⟩ ?_
  show vm_J _ _ _ (8, (0, 0), [.ref 0, .int q, .int e, .retAddr 0], [.null]) (G, I, F) _ _
  refine vm_J.go vm_q110 (k := 4) (hs := []) (f' := (22, (0, 0), [.ref 0, .int q, .int e, .null], [.int (-1)])) (h' := (G, I, F)) (hs' := []) rfl rfl ?_
  exact vm_J.end vm_q110 (en := (22, .ireturn, 1, [], .null)) rfl rfl vm_rI (Nat.zero_le _) (Nat.zero_le _) rfl
set_option maxHeartbeats 4000000 in
set_option maxRecDepth 20000 in
/-- DitherDesk.drop -/
theorem c_drop_e {l : Launch} {X : vm_Cx} {G : List vm_Sh} {I : Nat → Nat → Int32} {F : Nat → Nat → UInt32} {p : Nat} {n : Nat} {e : Int32} (hD : vm_isD G) (hn : I (1 + 25 + 3 * p) 0 = nI n) (hp : p < 4) (he : ¬ (0 ≤ e ∧ e ≤ nI n - 1)) : vm_K l X vm_M110 [.ref 0, .int (nI p), .int e] (G, I, F) (some (.int (-1))) (G, I, F) := by
  refine vm_K.mk (by decide) (Nat.le_of_ble_eq_true rfl) ?_
  show vm_J _ _ _ (0, (0, 0), [.ref 0, .int (nI p), .int e, .retAddr 0], []) _ _ _
  refine vm_J.go vm_q110 (k := 3) (hs := [(12, 9, [.ref 1, .ref 38, .ref 75, .ref 112, .ref 132, .ref 135, .ref 139, .int 0, .int 0])]) (f' := (5, (0, 0), [.ref 0, .int (nI p), .int e, .retAddr 0], [.int (nI p), .ref 1])) (h' := (G, I, F)) (hs' := []) rfl (vm_b2 rfl (vm_b2 (vm_b2 (vm_hG hD.d) rfl) (vm_b2 rfl rfl))) ?_
  refine vm_J.call vm_q110 (Z := vm_M93) (n := 1) (k := 0) (mi := 93) (pc := 5) (en := (5, .invokevirtual 172, 3, [93, 619, 0], .null)) rfl trivial rfl rfl vm_z93 (av := [.ref 1, .int (nI p)]) (rest := []) (m_pal_n (B := 1) (p := p) hD.w1 (by omega)) ⟨_, _, rfl, rfl, _, 9, _, hD.w1.w, rfl, rfl, rfl⟩ (Nat.le_of_ble_eq_true rfl) ⟨Nat.le_of_ble_eq_true rfl, Nat.le_of_ble_eq_true rfl⟩ ⟨Nat.le_of_ble_eq_true rfl, Nat.le_of_ble_eq_true rfl⟩ ?_
  show vm_J _ _ _ (8, (0, 0), [.ref 0, .int (nI p), .int e, .retAddr 0], [.ref (1 + 25 + 3 * p)]) (G, I, F) _ _
  refine vm_J.go vm_q110 (k := 5) (hs := []) (f' := (15, (0, 0), [.ref 0, .int (nI p), .int e, .ref (1 + 25 + 3 * p)], [.int e, .ref (1 + 25 + 3 * p)])) (h' := (G, I, F)) (hs' := []) rfl rfl ?_
  refine vm_J.call vm_q110 (Z := vm_M21) (n := 1) (k := 0) (mi := 21) (pc := 15) (en := (15, .invokevirtual 192, 3, [21, 645, 0], .null)) rfl trivial rfl rfl vm_z21 (av := [.ref (1 + 25 + 3 * p), .int e]) (rest := []) (m_Pal_has_n (o := 1 + 25 + 3 * p) (a := 1 + 26 + 3 * p) (b := 1 + 27 + 3 * p) (e := e) (hD.w1.l p hp) (by rw [hn]; exact he)) ⟨_, _, rfl, rfl, _, 2, _, (hD.w1.l p hp), rfl, rfl, rfl⟩ (Nat.le_of_ble_eq_true rfl) ⟨Nat.le_of_ble_eq_true rfl, Nat.le_of_ble_eq_true rfl⟩ ⟨Nat.le_of_ble_eq_true rfl, Nat.le_of_ble_eq_true rfl⟩ ?_
  show vm_J _ _ _ (18, (0, 0), [.ref 0, .int (nI p), .int e, .ref (1 + 25 + 3 * p)], [.int 0]) (G, I, F) _ _
  refine vm_J.go vm_q110 (k := 1) (hs := []) (f' := (bif vm_ic .ne 0 0 then 23 else 21, (0, 0), [.ref 0, .int (nI p), .int e, .ref (1 + 25 + 3 * p)], [])) (h' := (G, I, F)) (hs' := []) rfl rfl ?_
  refine vm_J.bF (by decide) ?_
  refine vm_J.go vm_q110 (k := 1) (hs := []) (f' := (22, (0, 0), [.ref 0, .int (nI p), .int e, .ref (1 + 25 + 3 * p)], [.int (-1)])) (h' := (G, I, F)) (hs' := []) rfl rfl ?_
  exact vm_J.end vm_q110 (en := (22, .ireturn, 1, [], .null)) rfl rfl vm_rI (Nat.zero_le _) (Nat.zero_le _) rfl
set_option maxHeartbeats 4000000 in
set_option maxRecDepth 20000 in
/-- DitherDesk.change -/
theorem c_change_x {l : Launch} {X : vm_Cx} {G : List vm_Sh} {I : Nat → Nat → Int32} {F : Nat → Nat → UInt32} {q : Int32} {e : Int32} {c : Int32} (hD : vm_isD G) (hx : ¬ (0 ≤ q ∧ q ≤ 3)) : vm_K l X vm_M111 [.ref 0, .int q, .int e, .int c] (G, I, F) (some (.int (-1))) (G, I, F) := by
  refine vm_K.mk (by decide) (Nat.le_of_ble_eq_true rfl) ?_
  show vm_J _ _ _ (0, (0, 0), [.ref 0, .int q, .int e, .int c, .retAddr 0, .retAddr 0, .retAddr 0], []) _ _ _
  refine vm_J.go vm_q111 (k := 3) (hs := [(12, 9, [.ref 1, .ref 38, .ref 75, .ref 112, .ref 132, .ref 135, .ref 139, .int 0, .int 0])]) (f' := (5, (0, 0), [.ref 0, .int q, .int e, .int c, .retAddr 0, .retAddr 0, .retAddr 0], [.int q, .ref 1])) (h' := (G, I, F)) (hs' := []) rfl (vm_b2 rfl (vm_b2 (vm_b2 (vm_hG hD.d) rfl) (vm_b2 rfl rfl))) ?_
  refine vm_J.call vm_q111 (Z := vm_M93) (n := 1) (k := 0) (mi := 93) (pc := 5) (en := (5, .invokevirtual 172, 3, [93, 619, 0], .null)) rfl trivial rfl rfl vm_z93 (av := [.ref 1, .int q]) (rest := []) (m_pal_x (B := 1) (p := q) hD.w1 (vm_nx hx)) ⟨_, _, rfl, rfl, _, 9, _, hD.w1.w, rfl, rfl, rfl⟩ (Nat.le_of_ble_eq_true rfl) ⟨Nat.le_of_ble_eq_true rfl, Nat.le_of_ble_eq_true rfl⟩ ⟨Nat.le_of_ble_eq_true rfl, Nat.le_of_ble_eq_true rfl⟩ ?_
  show vm_J _ _ _ (8, (0, 0), [.ref 0, .int q, .int e, .int c, .retAddr 0, .retAddr 0, .retAddr 0], [.null]) (G, I, F) _ _
  refine vm_J.go vm_q111 (k := 4) (hs := []) (f' := (25, (0, 0), [.ref 0, .int q, .int e, .int c, .null, .retAddr 0, .retAddr 0], [.int (-1)])) (h' := (G, I, F)) (hs' := []) rfl rfl ?_
  exact vm_J.end vm_q111 (en := (25, .ireturn, 1, [], .null)) rfl rfl vm_rI (Nat.zero_le _) (Nat.zero_le _) rfl
set_option maxHeartbeats 4000000 in
set_option maxRecDepth 20000 in
/-- DitherDesk.change -/
theorem c_change_e {l : Launch} {X : vm_Cx} {G : List vm_Sh} {I : Nat → Nat → Int32} {F : Nat → Nat → UInt32} {p : Nat} {n : Nat} {e : Int32} {c : Int32} (hD : vm_isD G) (hn : I (1 + 25 + 3 * p) 0 = nI n) (hp : p < 4) (he : ¬ (0 ≤ e ∧ e ≤ nI n - 1)) : vm_K l X vm_M111 [.ref 0, .int (nI p), .int e, .int c] (G, I, F) (some (.int (-1))) (G, I, F) := by
  refine vm_K.mk (by decide) (Nat.le_of_ble_eq_true rfl) ?_
  show vm_J _ _ _ (0, (0, 0), [.ref 0, .int (nI p), .int e, .int c, .retAddr 0, .retAddr 0, .retAddr 0], []) _ _ _
  refine vm_J.go vm_q111 (k := 3) (hs := [(12, 9, [.ref 1, .ref 38, .ref 75, .ref 112, .ref 132, .ref 135, .ref 139, .int 0, .int 0])]) (f' := (5, (0, 0), [.ref 0, .int (nI p), .int e, .int c, .retAddr 0, .retAddr 0, .retAddr 0], [.int (nI p), .ref 1])) (h' := (G, I, F)) (hs' := []) rfl (vm_b2 rfl (vm_b2 (vm_b2 (vm_hG hD.d) rfl) (vm_b2 rfl rfl))) ?_
  refine vm_J.call vm_q111 (Z := vm_M93) (n := 1) (k := 0) (mi := 93) (pc := 5) (en := (5, .invokevirtual 172, 3, [93, 619, 0], .null)) rfl trivial rfl rfl vm_z93 (av := [.ref 1, .int (nI p)]) (rest := []) (m_pal_n (B := 1) (p := p) hD.w1 (by omega)) ⟨_, _, rfl, rfl, _, 9, _, hD.w1.w, rfl, rfl, rfl⟩ (Nat.le_of_ble_eq_true rfl) ⟨Nat.le_of_ble_eq_true rfl, Nat.le_of_ble_eq_true rfl⟩ ⟨Nat.le_of_ble_eq_true rfl, Nat.le_of_ble_eq_true rfl⟩ ?_
  show vm_J _ _ _ (8, (0, 0), [.ref 0, .int (nI p), .int e, .int c, .retAddr 0, .retAddr 0, .retAddr 0], [.ref (1 + 25 + 3 * p)]) (G, I, F) _ _
  refine vm_J.go vm_q111 (k := 5) (hs := []) (f' := (18, (0, 0), [.ref 0, .int (nI p), .int e, .int c, .ref (1 + 25 + 3 * p), .retAddr 0, .retAddr 0], [.int e, .ref (1 + 25 + 3 * p)])) (h' := (G, I, F)) (hs' := []) rfl rfl ?_
  refine vm_J.call vm_q111 (Z := vm_M21) (n := 1) (k := 0) (mi := 21) (pc := 18) (en := (18, .invokevirtual 192, 3, [21, 645, 0], .null)) rfl trivial rfl rfl vm_z21 (av := [.ref (1 + 25 + 3 * p), .int e]) (rest := []) (m_Pal_has_n (o := 1 + 25 + 3 * p) (a := 1 + 26 + 3 * p) (b := 1 + 27 + 3 * p) (e := e) (hD.w1.l p hp) (by rw [hn]; exact he)) ⟨_, _, rfl, rfl, _, 2, _, (hD.w1.l p hp), rfl, rfl, rfl⟩ (Nat.le_of_ble_eq_true rfl) ⟨Nat.le_of_ble_eq_true rfl, Nat.le_of_ble_eq_true rfl⟩ ⟨Nat.le_of_ble_eq_true rfl, Nat.le_of_ble_eq_true rfl⟩ ?_
  show vm_J _ _ _ (21, (0, 0), [.ref 0, .int (nI p), .int e, .int c, .ref (1 + 25 + 3 * p), .retAddr 0, .retAddr 0], [.int 0]) (G, I, F) _ _
  refine vm_J.go vm_q111 (k := 1) (hs := []) (f' := (bif vm_ic .ne 0 0 then 26 else 24, (0, 0), [.ref 0, .int (nI p), .int e, .int c, .ref (1 + 25 + 3 * p), .retAddr 0, .retAddr 0], [])) (h' := (G, I, F)) (hs' := []) rfl rfl ?_
  refine vm_J.bF (by decide) ?_
  refine vm_J.go vm_q111 (k := 1) (hs := []) (f' := (25, (0, 0), [.ref 0, .int (nI p), .int e, .int c, .ref (1 + 25 + 3 * p), .retAddr 0, .retAddr 0], [.int (-1)])) (h' := (G, I, F)) (hs' := []) rfl rfl ?_
  exact vm_J.end vm_q111 (en := (25, .ireturn, 1, [], .null)) rfl rfl vm_rI (Nat.zero_le _) (Nat.zero_le _) rfl
set_option maxHeartbeats 4000000 in
set_option maxRecDepth 20000 in
/-- DitherDesk.lock -/
theorem c_lock_x {l : Launch} {X : vm_Cx} {G : List vm_Sh} {I : Nat → Nat → Int32} {F : Nat → Nat → UInt32} {q : Int32} {e : Int32} {c : Int32} (hD : vm_isD G) (hx : ¬ (0 ≤ q ∧ q ≤ 3)) : vm_K l X vm_M112 [.ref 0, .int q, .int e, .int c] (G, I, F) (some (.int (-1))) (G, I, F) := by
  refine vm_K.mk (by decide) (Nat.le_of_ble_eq_true rfl) ?_
  show vm_J _ _ _ (0, (0, 0), [.ref 0, .int q, .int e, .int c, .retAddr 0, .retAddr 0], []) _ _ _
  refine vm_J.go vm_q112 (k := 3) (hs := [(12, 9, [.ref 1, .ref 38, .ref 75, .ref 112, .ref 132, .ref 135, .ref 139, .int 0, .int 0])]) (f' := (5, (0, 0), [.ref 0, .int q, .int e, .int c, .retAddr 0, .retAddr 0], [.int q, .ref 1])) (h' := (G, I, F)) (hs' := []) rfl (vm_b2 rfl (vm_b2 (vm_b2 (vm_hG hD.d) rfl) (vm_b2 rfl rfl))) ?_
  refine vm_J.call vm_q112 (Z := vm_M93) (n := 1) (k := 0) (mi := 93) (pc := 5) (en := (5, .invokevirtual 172, 3, [93, 619, 0], .null)) rfl trivial rfl rfl vm_z93 (av := [.ref 1, .int q]) (rest := []) (m_pal_x (B := 1) (p := q) hD.w1 (vm_nx hx)) ⟨_, _, rfl, rfl, _, 9, _, hD.w1.w, rfl, rfl, rfl⟩ (Nat.le_of_ble_eq_true rfl) ⟨Nat.le_of_ble_eq_true rfl, Nat.le_of_ble_eq_true rfl⟩ ⟨Nat.le_of_ble_eq_true rfl, Nat.le_of_ble_eq_true rfl⟩ ?_
  show vm_J _ _ _ (8, (0, 0), [.ref 0, .int q, .int e, .int c, .retAddr 0, .retAddr 0], [.null]) (G, I, F) _ _
  refine vm_J.go vm_q112 (k := 4) (hs := []) (f' := (25, (0, 0), [.ref 0, .int q, .int e, .int c, .null, .retAddr 0], [.int (-1)])) (h' := (G, I, F)) (hs' := []) rfl rfl ?_
  exact vm_J.end vm_q112 (en := (25, .ireturn, 1, [], .null)) rfl rfl vm_rI (Nat.zero_le _) (Nat.zero_le _) rfl
set_option maxHeartbeats 4000000 in
set_option maxRecDepth 20000 in
/-- DitherDesk.lock -/
theorem c_lock_e {l : Launch} {X : vm_Cx} {G : List vm_Sh} {I : Nat → Nat → Int32} {F : Nat → Nat → UInt32} {p : Nat} {n : Nat} {e : Int32} {c : Int32} (hD : vm_isD G) (hn : I (1 + 25 + 3 * p) 0 = nI n) (hp : p < 4) (he : ¬ (0 ≤ e ∧ e ≤ nI n - 1)) : vm_K l X vm_M112 [.ref 0, .int (nI p), .int e, .int c] (G, I, F) (some (.int (-1))) (G, I, F) := by
  refine vm_K.mk (by decide) (Nat.le_of_ble_eq_true rfl) ?_
  show vm_J _ _ _ (0, (0, 0), [.ref 0, .int (nI p), .int e, .int c, .retAddr 0, .retAddr 0], []) _ _ _
  refine vm_J.go vm_q112 (k := 3) (hs := [(12, 9, [.ref 1, .ref 38, .ref 75, .ref 112, .ref 132, .ref 135, .ref 139, .int 0, .int 0])]) (f' := (5, (0, 0), [.ref 0, .int (nI p), .int e, .int c, .retAddr 0, .retAddr 0], [.int (nI p), .ref 1])) (h' := (G, I, F)) (hs' := []) rfl (vm_b2 rfl (vm_b2 (vm_b2 (vm_hG hD.d) rfl) (vm_b2 rfl rfl))) ?_
  refine vm_J.call vm_q112 (Z := vm_M93) (n := 1) (k := 0) (mi := 93) (pc := 5) (en := (5, .invokevirtual 172, 3, [93, 619, 0], .null)) rfl trivial rfl rfl vm_z93 (av := [.ref 1, .int (nI p)]) (rest := []) (m_pal_n (B := 1) (p := p) hD.w1 (by omega)) ⟨_, _, rfl, rfl, _, 9, _, hD.w1.w, rfl, rfl, rfl⟩ (Nat.le_of_ble_eq_true rfl) ⟨Nat.le_of_ble_eq_true rfl, Nat.le_of_ble_eq_true rfl⟩ ⟨Nat.le_of_ble_eq_true rfl, Nat.le_of_ble_eq_true rfl⟩ ?_
  show vm_J _ _ _ (8, (0, 0), [.ref 0, .int (nI p), .int e, .int c, .retAddr 0, .retAddr 0], [.ref (1 + 25 + 3 * p)]) (G, I, F) _ _
  refine vm_J.go vm_q112 (k := 5) (hs := []) (f' := (18, (0, 0), [.ref 0, .int (nI p), .int e, .int c, .ref (1 + 25 + 3 * p), .retAddr 0], [.int e, .ref (1 + 25 + 3 * p)])) (h' := (G, I, F)) (hs' := []) rfl rfl ?_
  refine vm_J.call vm_q112 (Z := vm_M21) (n := 1) (k := 0) (mi := 21) (pc := 18) (en := (18, .invokevirtual 192, 3, [21, 645, 0], .null)) rfl trivial rfl rfl vm_z21 (av := [.ref (1 + 25 + 3 * p), .int e]) (rest := []) (m_Pal_has_n (o := 1 + 25 + 3 * p) (a := 1 + 26 + 3 * p) (b := 1 + 27 + 3 * p) (e := e) (hD.w1.l p hp) (by rw [hn]; exact he)) ⟨_, _, rfl, rfl, _, 2, _, (hD.w1.l p hp), rfl, rfl, rfl⟩ (Nat.le_of_ble_eq_true rfl) ⟨Nat.le_of_ble_eq_true rfl, Nat.le_of_ble_eq_true rfl⟩ ⟨Nat.le_of_ble_eq_true rfl, Nat.le_of_ble_eq_true rfl⟩ ?_
  show vm_J _ _ _ (21, (0, 0), [.ref 0, .int (nI p), .int e, .int c, .ref (1 + 25 + 3 * p), .retAddr 0], [.int 0]) (G, I, F) _ _
  refine vm_J.go vm_q112 (k := 1) (hs := []) (f' := (bif vm_ic .ne 0 0 then 26 else 24, (0, 0), [.ref 0, .int (nI p), .int e, .int c, .ref (1 + 25 + 3 * p), .retAddr 0], [])) (h' := (G, I, F)) (hs' := []) rfl rfl ?_
  refine vm_J.bF (by decide) ?_
  refine vm_J.go vm_q112 (k := 1) (hs := []) (f' := (25, (0, 0), [.ref 0, .int (nI p), .int e, .int c, .ref (1 + 25 + 3 * p), .retAddr 0], [.int (-1)])) (h' := (G, I, F)) (hs' := []) rfl rfl ?_
  exact vm_J.end vm_q112 (en := (25, .ireturn, 1, [], .null)) rfl rfl vm_rI (Nat.zero_le _) (Nat.zero_le _) rfl
set_option maxHeartbeats 4000000 in
set_option maxRecDepth 20000 in
/-- DitherDesk.told -/
theorem c_told_x {l : Launch} {X : vm_Cx} {G : List vm_Sh} {I : Nat → Nat → Int32} {F : Nat → Nat → UInt32} {q : Int32} {e : Int32} {c : Int32} (hD : vm_isD G) (hx : ¬ (0 ≤ q ∧ q ≤ 3)) : vm_K l X vm_M113 [.ref 0, .int q, .int e, .int c] (G, I, F) (some (.int (-1))) (G, I, F) := by
  refine vm_K.mk (by decide) (Nat.le_of_ble_eq_true rfl) ?_
  show vm_J _ _ _ (0, (0, 0), [.ref 0, .int q, .int e, .int c, .retAddr 0], []) _ _ _
  refine vm_J.go vm_q113 (k := 3) (hs := [(12, 9, [.ref 1, .ref 38, .ref 75, .ref 112, .ref 132, .ref 135, .ref 139, .int 0, .int 0])]) (f' := (5, (0, 0), [.ref 0, .int q, .int e, .int c, .retAddr 0], [.int q, .ref 1])) (h' := (G, I, F)) (hs' := []) rfl (vm_b2 rfl (vm_b2 (vm_b2 (vm_hG hD.d) rfl) (vm_b2 rfl rfl))) ?_
  refine vm_J.call vm_q113 (Z := vm_M93) (n := 1) (k := 0) (mi := 93) (pc := 5) (en := (5, .invokevirtual 172, 3, [93, 619, 0], .null)) rfl trivial rfl rfl vm_z93 (av := [.ref 1, .int q]) (rest := []) (m_pal_x (B := 1) (p := q) hD.w1 (vm_nx hx)) ⟨_, _, rfl, rfl, _, 9, _, hD.w1.w, rfl, rfl, rfl⟩ (Nat.le_of_ble_eq_true rfl) ⟨Nat.le_of_ble_eq_true rfl, Nat.le_of_ble_eq_true rfl⟩ ⟨Nat.le_of_ble_eq_true rfl, Nat.le_of_ble_eq_true rfl⟩ ?_
  show vm_J _ _ _ (8, (0, 0), [.ref 0, .int q, .int e, .int c, .retAddr 0], [.null]) (G, I, F) _ _
  refine vm_J.go vm_q113 (k := 4) (hs := []) (f' := (34, (0, 0), [.ref 0, .int q, .int e, .int c, .null], [.int (-1)])) (h' := (G, I, F)) (hs' := []) rfl rfl ?_
  exact vm_J.end vm_q113 (en := (34, .ireturn, 1, [], .null)) rfl rfl vm_rI (Nat.zero_le _) (Nat.zero_le _) rfl
set_option maxHeartbeats 4000000 in
set_option maxRecDepth 20000 in
/-- DitherDesk.told -/
theorem c_told_e {l : Launch} {X : vm_Cx} {G : List vm_Sh} {I : Nat → Nat → Int32} {F : Nat → Nat → UInt32} {p : Nat} {n : Nat} {e : Int32} {c : Int32} (hD : vm_isD G) (hn : I (1 + 25 + 3 * p) 0 = nI n) (hp : p < 4) (he : ¬ (0 ≤ e ∧ e ≤ nI n - 1)) : vm_K l X vm_M113 [.ref 0, .int (nI p), .int e, .int c] (G, I, F) (some (.int (-1))) (G, I, F) := by
  refine vm_K.mk (by decide) (Nat.le_of_ble_eq_true rfl) ?_
  show vm_J _ _ _ (0, (0, 0), [.ref 0, .int (nI p), .int e, .int c, .retAddr 0], []) _ _ _
  refine vm_J.go vm_q113 (k := 3) (hs := [(12, 9, [.ref 1, .ref 38, .ref 75, .ref 112, .ref 132, .ref 135, .ref 139, .int 0, .int 0])]) (f' := (5, (0, 0), [.ref 0, .int (nI p), .int e, .int c, .retAddr 0], [.int (nI p), .ref 1])) (h' := (G, I, F)) (hs' := []) rfl (vm_b2 rfl (vm_b2 (vm_b2 (vm_hG hD.d) rfl) (vm_b2 rfl rfl))) ?_
  refine vm_J.call vm_q113 (Z := vm_M93) (n := 1) (k := 0) (mi := 93) (pc := 5) (en := (5, .invokevirtual 172, 3, [93, 619, 0], .null)) rfl trivial rfl rfl vm_z93 (av := [.ref 1, .int (nI p)]) (rest := []) (m_pal_n (B := 1) (p := p) hD.w1 (by omega)) ⟨_, _, rfl, rfl, _, 9, _, hD.w1.w, rfl, rfl, rfl⟩ (Nat.le_of_ble_eq_true rfl) ⟨Nat.le_of_ble_eq_true rfl, Nat.le_of_ble_eq_true rfl⟩ ⟨Nat.le_of_ble_eq_true rfl, Nat.le_of_ble_eq_true rfl⟩ ?_
  show vm_J _ _ _ (8, (0, 0), [.ref 0, .int (nI p), .int e, .int c, .retAddr 0], [.ref (1 + 25 + 3 * p)]) (G, I, F) _ _
  refine vm_J.go vm_q113 (k := 5) (hs := []) (f' := (18, (0, 0), [.ref 0, .int (nI p), .int e, .int c, .ref (1 + 25 + 3 * p)], [.int e, .ref (1 + 25 + 3 * p)])) (h' := (G, I, F)) (hs' := []) rfl rfl ?_
  refine vm_J.call vm_q113 (Z := vm_M21) (n := 1) (k := 0) (mi := 21) (pc := 18) (en := (18, .invokevirtual 192, 3, [21, 645, 0], .null)) rfl trivial rfl rfl vm_z21 (av := [.ref (1 + 25 + 3 * p), .int e]) (rest := []) (m_Pal_has_n (o := 1 + 25 + 3 * p) (a := 1 + 26 + 3 * p) (b := 1 + 27 + 3 * p) (e := e) (hD.w1.l p hp) (by rw [hn]; exact he)) ⟨_, _, rfl, rfl, _, 2, _, (hD.w1.l p hp), rfl, rfl, rfl⟩ (Nat.le_of_ble_eq_true rfl) ⟨Nat.le_of_ble_eq_true rfl, Nat.le_of_ble_eq_true rfl⟩ ⟨Nat.le_of_ble_eq_true rfl, Nat.le_of_ble_eq_true rfl⟩ ?_
  show vm_J _ _ _ (21, (0, 0), [.ref 0, .int (nI p), .int e, .int c, .ref (1 + 25 + 3 * p)], [.int 0]) (G, I, F) _ _
  refine vm_J.go vm_q113 (k := 1) (hs := []) (f' := (bif vm_ic .eq 0 0 then 33 else 24, (0, 0), [.ref 0, .int (nI p), .int e, .int c, .ref (1 + 25 + 3 * p)], [])) (h' := (G, I, F)) (hs' := []) rfl rfl ?_
  refine vm_J.bT (by decide) ?_
  refine vm_J.go vm_q113 (k := 1) (hs := []) (f' := (34, (0, 0), [.ref 0, .int (nI p), .int e, .int c, .ref (1 + 25 + 3 * p)], [.int (-1)])) (h' := (G, I, F)) (hs' := []) rfl rfl ?_
  exact vm_J.end vm_q113 (en := (34, .ireturn, 1, [], .null)) rfl rfl vm_rI (Nat.zero_le _) (Nat.zero_le _) rfl
set_option maxHeartbeats 4000000 in
set_option maxRecDepth 20000 in
/-- DitherDesk.drop -/
theorem c_drop_y {l : Launch} {X : vm_Cx} {G : List vm_Sh} {I : Nat → Nat → Int32} {F : Nat → Nat → UInt32} {p : Nat} {n : Nat} {e : Nat} (hD : vm_isD G) (hn : I (1 + 25 + 3 * p) 0 = nI n) (hp : p < 4) (hn2 : n ≤ 16) (he : e < n) : vm_K l X vm_M110 [.ref 0, .int (nI p), .int (nI e)] (G, I, F) (some (.int (nI (n - 1)))) (G, (vm_up (vm_rm I (1 + 26 + 3 * p) (1 + 27 + 3 * p) e (n - 1 - e)) (1 + 25 + 3 * p) 0 (nI (n - 1))), F) := by
  refine vm_K.mk (by decide) (Nat.le_of_ble_eq_true rfl) ?_
  show vm_J _ _ _ (0, (0, 0), [.ref 0, .int (nI p), .int (nI e), .retAddr 0], []) _ _ _
  refine vm_J.go vm_q110 (k := 3) (hs := [(12, 9, [.ref 1, .ref 38, .ref 75, .ref 112, .ref 132, .ref 135, .ref 139, .int 0, .int 0])]) (f' := (5, (0, 0), [.ref 0, .int (nI p), .int (nI e), .retAddr 0], [.int (nI p), .ref 1])) (h' := (G, I, F)) (hs' := []) rfl (vm_b2 rfl (vm_b2 (vm_b2 (vm_hG hD.d) rfl) (vm_b2 rfl rfl))) ?_
  refine vm_J.call vm_q110 (Z := vm_M93) (n := 1) (k := 0) (mi := 93) (pc := 5) (en := (5, .invokevirtual 172, 3, [93, 619, 0], .null)) rfl trivial rfl rfl vm_z93 (av := [.ref 1, .int (nI p)]) (rest := []) (m_pal_n (B := 1) (p := p) hD.w1 (by omega)) ⟨_, _, rfl, rfl, _, 9, _, hD.w1.w, rfl, rfl, rfl⟩ (Nat.le_of_ble_eq_true rfl) ⟨Nat.le_of_ble_eq_true rfl, Nat.le_of_ble_eq_true rfl⟩ ⟨Nat.le_of_ble_eq_true rfl, Nat.le_of_ble_eq_true rfl⟩ ?_
  show vm_J _ _ _ (8, (0, 0), [.ref 0, .int (nI p), .int (nI e), .retAddr 0], [.ref (1 + 25 + 3 * p)]) (G, I, F) _ _
  refine vm_J.go vm_q110 (k := 5) (hs := []) (f' := (15, (0, 0), [.ref 0, .int (nI p), .int (nI e), .ref (1 + 25 + 3 * p)], [.int (nI e), .ref (1 + 25 + 3 * p)])) (h' := (G, I, F)) (hs' := []) rfl rfl ?_
  refine vm_J.call vm_q110 (Z := vm_M21) (n := 1) (k := 0) (mi := 21) (pc := 15) (en := (15, .invokevirtual 192, 3, [21, 645, 0], .null)) rfl trivial rfl rfl vm_z21 (av := [.ref (1 + 25 + 3 * p), .int (nI e)]) (rest := []) (m_Pal_has_y (o := 1 + 25 + 3 * p) (a := 1 + 26 + 3 * p) (b := 1 + 27 + 3 * p) (e := nI e) (hD.w1.l p hp) (by rw [hn]; exact vm_en_n he hn2)) ⟨_, _, rfl, rfl, _, 2, _, (hD.w1.l p hp), rfl, rfl, rfl⟩ (Nat.le_of_ble_eq_true rfl) ⟨Nat.le_of_ble_eq_true rfl, Nat.le_of_ble_eq_true rfl⟩ ⟨Nat.le_of_ble_eq_true rfl, Nat.le_of_ble_eq_true rfl⟩ ?_
  show vm_J _ _ _ (18, (0, 0), [.ref 0, .int (nI p), .int (nI e), .ref (1 + 25 + 3 * p)], [.int 1]) (G, I, F) _ _
  refine vm_J.go vm_q110 (k := 1) (hs := []) (f' := (bif vm_ic .ne 1 0 then 23 else 21, (0, 0), [.ref 0, .int (nI p), .int (nI e), .ref (1 + 25 + 3 * p)], [])) (h' := (G, I, F)) (hs' := []) rfl rfl ?_
  refine vm_J.bT (by decide) ?_
  refine vm_J.go vm_q110 (k := 2) (hs := []) (f' := (25, (0, 0), [.ref 0, .int (nI p), .int (nI e), .ref (1 + 25 + 3 * p)], [.int (nI e), .ref (1 + 25 + 3 * p)])) (h' := (G, I, F)) (hs' := []) rfl rfl ?_
  refine vm_J.call vm_q110 (Z := vm_M28) (n := 1) (k := 0) (mi := 28) (pc := 25) (en := (25, .invokevirtual 195, 3, [28, 650, 0], .null)) rfl trivial rfl rfl vm_z28 (av := [.ref (1 + 25 + 3 * p), .int (nI e)]) (rest := []) (m_Pal_remove (o := 1 + 25 + 3 * p) (a := 1 + 26 + 3 * p) (b := 1 + 27 + 3 * p) (n := n) (e := e) (hD.w1.l p hp) (hD.w1.c p hp) (hD.w1.k p hp) hn (by omega) (by omega) (by omega) (by omega) (by omega)) ⟨_, _, rfl, rfl, _, 2, _, (hD.w1.l p hp), rfl, rfl, rfl⟩ (Nat.le_of_ble_eq_true rfl) ⟨Nat.le_of_ble_eq_true rfl, Nat.le_of_ble_eq_true rfl⟩ ⟨Nat.le_of_ble_eq_true rfl, Nat.le_of_ble_eq_true rfl⟩ ?_
  show vm_J _ _ _ (28, (0, 0), [.ref 0, .int (nI p), .int (nI e), .ref (1 + 25 + 3 * p)], []) (G, (vm_up (vm_rm I (1 + 26 + 3 * p) (1 + 27 + 3 * p) e (n - 1 - e)) (1 + 25 + 3 * p) 0 (nI (n - 1))), F) _ _
  refine vm_J.go vm_q110 (k := 2) (hs := [(4, 3, [.int 0, .ref (1 + 26 + 3 * p), .ref (1 + 27 + 3 * p)])]) (f' := (32, (0, 0), [.ref 0, .int (nI p), .int (nI e), .ref (1 + 25 + 3 * p)], [.int ((vm_up (vm_rm I (1 + 26 + 3 * p) (1 + 27 + 3 * p) e (n - 1 - e)) (1 + 25 + 3 * p) 0 (nI (n - 1))) (1 + 25 + 3 * p) 0)])) (h' := (G, (vm_up (vm_rm I (1 + 26 + 3 * p) (1 + 27 + 3 * p) e (n - 1 - e)) (1 + 25 + 3 * p) 0 (nI (n - 1))), F)) (hs' := []) rfl (vm_b2 rfl (vm_b2 (vm_b2 (vm_hG (hD.w1.l p hp)) rfl) rfl)) ?_
  rw [((vm_up_h _ (1 + 25 + 3 * p) 0 _) : (vm_up (vm_rm I (1 + 26 + 3 * p) (1 + 27 + 3 * p) e (n - 1 - e)) (1 + 25 + 3 * p) 0 (nI (n - 1))) (1 + 25 + 3 * p) 0 = nI (n - 1))]
  exact vm_J.end vm_q110 (en := (32, .ireturn, 1, [], .null)) rfl rfl vm_rI (Nat.zero_le _) (Nat.zero_le _) rfl
set_option maxHeartbeats 4000000 in
set_option maxRecDepth 20000 in
/-- DitherDesk.change -/
theorem c_change_b {l : Launch} {X : vm_Cx} {G : List vm_Sh} {I : Nat → Nat → Int32} {F : Nat → Nat → UInt32} {p : Nat} {n : Nat} {e : Nat} {c : Int32} (hD : vm_isD G) (hn : I (1 + 25 + 3 * p) 0 = nI n) (hp : p < 4) (hn2 : n ≤ 16) (he : e < n) (hc : ¬ (0 ≤ c ∧ c ≤ 262143)) : vm_K l X vm_M111 [.ref 0, .int (nI p), .int (nI e), .int c] (G, I, F) (some (.int (-2))) (G, I, F) := by
  refine vm_K.mk (by decide) (Nat.le_of_ble_eq_true rfl) ?_
  show vm_J _ _ _ (0, (0, 0), [.ref 0, .int (nI p), .int (nI e), .int c, .retAddr 0, .retAddr 0, .retAddr 0], []) _ _ _
  refine vm_J.go vm_q111 (k := 3) (hs := [(12, 9, [.ref 1, .ref 38, .ref 75, .ref 112, .ref 132, .ref 135, .ref 139, .int 0, .int 0])]) (f' := (5, (0, 0), [.ref 0, .int (nI p), .int (nI e), .int c, .retAddr 0, .retAddr 0, .retAddr 0], [.int (nI p), .ref 1])) (h' := (G, I, F)) (hs' := []) rfl (vm_b2 rfl (vm_b2 (vm_b2 (vm_hG hD.d) rfl) (vm_b2 rfl rfl))) ?_
  refine vm_J.call vm_q111 (Z := vm_M93) (n := 1) (k := 0) (mi := 93) (pc := 5) (en := (5, .invokevirtual 172, 3, [93, 619, 0], .null)) rfl trivial rfl rfl vm_z93 (av := [.ref 1, .int (nI p)]) (rest := []) (m_pal_n (B := 1) (p := p) hD.w1 (by omega)) ⟨_, _, rfl, rfl, _, 9, _, hD.w1.w, rfl, rfl, rfl⟩ (Nat.le_of_ble_eq_true rfl) ⟨Nat.le_of_ble_eq_true rfl, Nat.le_of_ble_eq_true rfl⟩ ⟨Nat.le_of_ble_eq_true rfl, Nat.le_of_ble_eq_true rfl⟩ ?_
  show vm_J _ _ _ (8, (0, 0), [.ref 0, .int (nI p), .int (nI e), .int c, .retAddr 0, .retAddr 0, .retAddr 0], [.ref (1 + 25 + 3 * p)]) (G, I, F) _ _
  refine vm_J.go vm_q111 (k := 5) (hs := []) (f' := (18, (0, 0), [.ref 0, .int (nI p), .int (nI e), .int c, .ref (1 + 25 + 3 * p), .retAddr 0, .retAddr 0], [.int (nI e), .ref (1 + 25 + 3 * p)])) (h' := (G, I, F)) (hs' := []) rfl rfl ?_
  refine vm_J.call vm_q111 (Z := vm_M21) (n := 1) (k := 0) (mi := 21) (pc := 18) (en := (18, .invokevirtual 192, 3, [21, 645, 0], .null)) rfl trivial rfl rfl vm_z21 (av := [.ref (1 + 25 + 3 * p), .int (nI e)]) (rest := []) (m_Pal_has_y (o := 1 + 25 + 3 * p) (a := 1 + 26 + 3 * p) (b := 1 + 27 + 3 * p) (e := nI e) (hD.w1.l p hp) (by rw [hn]; exact vm_en_n he hn2)) ⟨_, _, rfl, rfl, _, 2, _, (hD.w1.l p hp), rfl, rfl, rfl⟩ (Nat.le_of_ble_eq_true rfl) ⟨Nat.le_of_ble_eq_true rfl, Nat.le_of_ble_eq_true rfl⟩ ⟨Nat.le_of_ble_eq_true rfl, Nat.le_of_ble_eq_true rfl⟩ ?_
  show vm_J _ _ _ (21, (0, 0), [.ref 0, .int (nI p), .int (nI e), .int c, .ref (1 + 25 + 3 * p), .retAddr 0, .retAddr 0], [.int 1]) (G, I, F) _ _
  refine vm_J.go vm_q111 (k := 1) (hs := []) (f' := (bif vm_ic .ne 1 0 then 26 else 24, (0, 0), [.ref 0, .int (nI p), .int (nI e), .int c, .ref (1 + 25 + 3 * p), .retAddr 0, .retAddr 0], [])) (h' := (G, I, F)) (hs' := []) rfl rfl ?_
  refine vm_J.bT (by decide) ?_
  refine vm_J.go vm_q111 (k := 1) (hs := []) (f' := (27, (0, 0), [.ref 0, .int (nI p), .int (nI e), .int c, .ref (1 + 25 + 3 * p), .retAddr 0, .retAddr 0], [.int c])) (h' := (G, I, F)) (hs' := []) rfl rfl ?_
  refine vm_J.call vm_q111 (Z := vm_M163) (n := 1) (k := 1) (mi := 163) (pc := 27) (en := (27, .invokestatic 77, 3, [163, 448, 0], .null)) rfl trivial rfl rfl vm_z163 (av := [.int c]) (rest := []) (m_isColour_n (c := c) hc) rfl (Nat.le_of_ble_eq_true rfl) ⟨Nat.le_of_ble_eq_true rfl, Nat.le_of_ble_eq_true rfl⟩ ⟨Nat.le_of_ble_eq_true rfl, Nat.le_of_ble_eq_true rfl⟩ ?_
  show vm_J _ _ _ (30, (0, 0), [.ref 0, .int (nI p), .int (nI e), .int c, .ref (1 + 25 + 3 * p), .retAddr 0, .retAddr 0], [.int 0]) (G, I, F) _ _
  refine vm_J.go vm_q111 (k := 1) (hs := []) (f' := (bif vm_ic .ne 0 0 then 36 else 33, (0, 0), [.ref 0, .int (nI p), .int (nI e), .int c, .ref (1 + 25 + 3 * p), .retAddr 0, .retAddr 0], [])) (h' := (G, I, F)) (hs' := []) rfl rfl ?_
  refine vm_J.bF (by decide) ?_
  refine vm_J.go vm_q111 (k := 1) (hs := []) (f' := (35, (0, 0), [.ref 0, .int (nI p), .int (nI e), .int c, .ref (1 + 25 + 3 * p), .retAddr 0, .retAddr 0], [.int (-2)])) (h' := (G, I, F)) (hs' := []) rfl rfl ?_
  exact vm_J.end vm_q111 (en := (35, .ireturn, 1, [], .null)) rfl rfl vm_rI (Nat.zero_le _) (Nat.zero_le _) rfl
set_option maxHeartbeats 4000000 in
set_option maxRecDepth 20000 in
/-- DitherDesk.change -/
theorem c_change_l {l : Launch} {X : vm_Cx} {G : List vm_Sh} {I : Nat → Nat → Int32} {F : Nat → Nat → UInt32} {p : Nat} {n : Nat} {e : Nat} {c : Int32} (hD : vm_isD G) (hn : I (1 + 25 + 3 * p) 0 = nI n) (hp : p < 4) (hn2 : n ≤ 16) (he : e < n) (hcc : 0 ≤ c ∧ c ≤ 262143) (hl : I (1 + 27 + 3 * p) e = 1) : vm_K l X vm_M111 [.ref 0, .int (nI p), .int (nI e), .int c] (G, I, F) (some (.int (-3))) (G, I, F) := by
  refine vm_K.mk (by decide) (Nat.le_of_ble_eq_true rfl) ?_
  show vm_J _ _ _ (0, (0, 0), [.ref 0, .int (nI p), .int (nI e), .int c, .retAddr 0, .retAddr 0, .retAddr 0], []) _ _ _
  refine vm_J.go vm_q111 (k := 3) (hs := [(12, 9, [.ref 1, .ref 38, .ref 75, .ref 112, .ref 132, .ref 135, .ref 139, .int 0, .int 0])]) (f' := (5, (0, 0), [.ref 0, .int (nI p), .int (nI e), .int c, .retAddr 0, .retAddr 0, .retAddr 0], [.int (nI p), .ref 1])) (h' := (G, I, F)) (hs' := []) rfl (vm_b2 rfl (vm_b2 (vm_b2 (vm_hG hD.d) rfl) (vm_b2 rfl rfl))) ?_
  refine vm_J.call vm_q111 (Z := vm_M93) (n := 1) (k := 0) (mi := 93) (pc := 5) (en := (5, .invokevirtual 172, 3, [93, 619, 0], .null)) rfl trivial rfl rfl vm_z93 (av := [.ref 1, .int (nI p)]) (rest := []) (m_pal_n (B := 1) (p := p) hD.w1 (by omega)) ⟨_, _, rfl, rfl, _, 9, _, hD.w1.w, rfl, rfl, rfl⟩ (Nat.le_of_ble_eq_true rfl) ⟨Nat.le_of_ble_eq_true rfl, Nat.le_of_ble_eq_true rfl⟩ ⟨Nat.le_of_ble_eq_true rfl, Nat.le_of_ble_eq_true rfl⟩ ?_
  show vm_J _ _ _ (8, (0, 0), [.ref 0, .int (nI p), .int (nI e), .int c, .retAddr 0, .retAddr 0, .retAddr 0], [.ref (1 + 25 + 3 * p)]) (G, I, F) _ _
  refine vm_J.go vm_q111 (k := 5) (hs := []) (f' := (18, (0, 0), [.ref 0, .int (nI p), .int (nI e), .int c, .ref (1 + 25 + 3 * p), .retAddr 0, .retAddr 0], [.int (nI e), .ref (1 + 25 + 3 * p)])) (h' := (G, I, F)) (hs' := []) rfl rfl ?_
  refine vm_J.call vm_q111 (Z := vm_M21) (n := 1) (k := 0) (mi := 21) (pc := 18) (en := (18, .invokevirtual 192, 3, [21, 645, 0], .null)) rfl trivial rfl rfl vm_z21 (av := [.ref (1 + 25 + 3 * p), .int (nI e)]) (rest := []) (m_Pal_has_y (o := 1 + 25 + 3 * p) (a := 1 + 26 + 3 * p) (b := 1 + 27 + 3 * p) (e := nI e) (hD.w1.l p hp) (by rw [hn]; exact vm_en_n he hn2)) ⟨_, _, rfl, rfl, _, 2, _, (hD.w1.l p hp), rfl, rfl, rfl⟩ (Nat.le_of_ble_eq_true rfl) ⟨Nat.le_of_ble_eq_true rfl, Nat.le_of_ble_eq_true rfl⟩ ⟨Nat.le_of_ble_eq_true rfl, Nat.le_of_ble_eq_true rfl⟩ ?_
  show vm_J _ _ _ (21, (0, 0), [.ref 0, .int (nI p), .int (nI e), .int c, .ref (1 + 25 + 3 * p), .retAddr 0, .retAddr 0], [.int 1]) (G, I, F) _ _
  refine vm_J.go vm_q111 (k := 1) (hs := []) (f' := (bif vm_ic .ne 1 0 then 26 else 24, (0, 0), [.ref 0, .int (nI p), .int (nI e), .int c, .ref (1 + 25 + 3 * p), .retAddr 0, .retAddr 0], [])) (h' := (G, I, F)) (hs' := []) rfl rfl ?_
  refine vm_J.bT (by decide) ?_
  refine vm_J.go vm_q111 (k := 1) (hs := []) (f' := (27, (0, 0), [.ref 0, .int (nI p), .int (nI e), .int c, .ref (1 + 25 + 3 * p), .retAddr 0, .retAddr 0], [.int c])) (h' := (G, I, F)) (hs' := []) rfl rfl ?_
  refine vm_J.call vm_q111 (Z := vm_M163) (n := 1) (k := 1) (mi := 163) (pc := 27) (en := (27, .invokestatic 77, 3, [163, 448, 0], .null)) rfl trivial rfl rfl vm_z163 (av := [.int c]) (rest := []) (m_isColour_y (c := c) hcc) rfl (Nat.le_of_ble_eq_true rfl) ⟨Nat.le_of_ble_eq_true rfl, Nat.le_of_ble_eq_true rfl⟩ ⟨Nat.le_of_ble_eq_true rfl, Nat.le_of_ble_eq_true rfl⟩ ?_
  show vm_J _ _ _ (30, (0, 0), [.ref 0, .int (nI p), .int (nI e), .int c, .ref (1 + 25 + 3 * p), .retAddr 0, .retAddr 0], [.int 1]) (G, I, F) _ _
  refine vm_J.go vm_q111 (k := 1) (hs := []) (f' := (bif vm_ic .ne 1 0 then 36 else 33, (0, 0), [.ref 0, .int (nI p), .int (nI e), .int c, .ref (1 + 25 + 3 * p), .retAddr 0, .retAddr 0], [])) (h' := (G, I, F)) (hs' := []) rfl rfl ?_
  refine vm_J.bT (by decide) ?_
  refine vm_J.go vm_q111 (k := 2) (hs := []) (f' := (39, (0, 0), [.ref 0, .int (nI p), .int (nI e), .int c, .ref (1 + 25 + 3 * p), .retAddr 0, .retAddr 0], [.int c, .ref (1 + 25 + 3 * p)])) (h' := (G, I, F)) (hs' := []) rfl rfl ?_
  refine vm_J.call vm_q111 (Z := vm_M25) (n := 1) (k := 0) (mi := 25) (pc := 39) (en := (39, .invokevirtual 176, 3, [25, 623, 0], .null)) rfl trivial rfl rfl vm_z25 (av := [.ref (1 + 25 + 3 * p), .int c]) (rest := []) (m_Pal_entryWith (o := 1 + 25 + 3 * p) (a := 1 + 26 + 3 * p) (b := 1 + 27 + 3 * p) (n := n) (c := c) (hD.w1.l p hp) (hD.w1.c p hp) hn (by omega)) ⟨_, _, rfl, rfl, _, 2, _, (hD.w1.l p hp), rfl, rfl, rfl⟩ (Nat.le_of_ble_eq_true rfl) ⟨Nat.le_of_ble_eq_true rfl, Nat.le_of_ble_eq_true rfl⟩ ⟨Nat.le_of_ble_eq_true rfl, Nat.le_of_ble_eq_true rfl⟩ ?_
  show vm_J _ _ _ (42, (0, 0), [.ref 0, .int (nI p), .int (nI e), .int c, .ref (1 + 25 + 3 * p), .retAddr 0, .retAddr 0], [.int (sp_ew (I (1 + 26 + 3 * p)) c n)]) (G, I, F) _ _
  refine vm_J.go vm_q111 (k := 3) (hs := []) (f' := (47, (0, 0), [.ref 0, .int (nI p), .int (nI e), .int c, .ref (1 + 25 + 3 * p), .int (sp_ew (I (1 + 26 + 3 * p)) c n), .retAddr 0], [.int (nI e), .ref (1 + 25 + 3 * p)])) (h' := (G, I, F)) (hs' := []) rfl rfl ?_
  refine vm_J.call vm_q111 (Z := vm_M24) (n := 1) (k := 0) (mi := 24) (pc := 47) (en := (47, .invokevirtual 198, 3, [24, 658, 0], .null)) rfl trivial rfl rfl vm_z24 (av := [.ref (1 + 25 + 3 * p), .int (nI e)]) (rest := []) (m_Pal_isLocked_y (o := 1 + 25 + 3 * p) (a := 1 + 26 + 3 * p) (b := 1 + 27 + 3 * p) (j := e) (hD.w1.l p hp) (hD.w1.k p hp) (by omega) hl) ⟨_, _, rfl, rfl, _, 2, _, (hD.w1.l p hp), rfl, rfl, rfl⟩ (Nat.le_of_ble_eq_true rfl) ⟨Nat.le_of_ble_eq_true rfl, Nat.le_of_ble_eq_true rfl⟩ ⟨Nat.le_of_ble_eq_true rfl, Nat.le_of_ble_eq_true rfl⟩ ?_
  show vm_J _ _ _ (50, (0, 0), [.ref 0, .int (nI p), .int (nI e), .int c, .ref (1 + 25 + 3 * p), .int (sp_ew (I (1 + 26 + 3 * p)) c n), .retAddr 0], [.int 1]) (G, I, F) _ _
  refine vm_J.go vm_q111 (k := 1) (hs := []) (f' := (bif vm_ic .ne 1 0 then 64 else 53, (0, 0), [.ref 0, .int (nI p), .int (nI e), .int c, .ref (1 + 25 + 3 * p), .int (sp_ew (I (1 + 26 + 3 * p)) c n), .retAddr 0], [])) (h' := (G, I, F)) (hs' := []) rfl rfl ?_
  refine vm_J.bT (by decide) ?_
  refine vm_J.go vm_q111 (k := 1) (hs := []) (f' := (66, (0, 0), [.ref 0, .int (nI p), .int (nI e), .int c, .ref (1 + 25 + 3 * p), .int (sp_ew (I (1 + 26 + 3 * p)) c n), .retAddr 0], [.int (-3)])) (h' := (G, I, F)) (hs' := []) rfl rfl ?_
  exact vm_J.end vm_q111 (en := (66, .ireturn, 1, [], .null)) rfl rfl vm_rI (Nat.zero_le _) (Nat.zero_le _) rfl
set_option maxHeartbeats 4000000 in
set_option maxRecDepth 20000 in
/-- DitherDesk.change -/
theorem c_change_s {l : Launch} {X : vm_Cx} {G : List vm_Sh} {I : Nat → Nat → Int32} {F : Nat → Nat → UInt32} {p : Nat} {n : Nat} {e : Nat} {j : Nat} {c : Int32} (hD : vm_isD G) (hn : I (1 + 25 + 3 * p) 0 = nI n) (hp : p < 4) (hn2 : n ≤ 16) (he : e < n) (hcc : 0 ≤ c ∧ c ≤ 262143) (hl : ¬ I (1 + 27 + 3 * p) e = 1) (hj : j < n) (hb : ∀ k, k < j → ¬ I (1 + 26 + 3 * p) k = c) (hc : I (1 + 26 + 3 * p) j = c) (hje : ¬ j = e) : vm_K l X vm_M111 [.ref 0, .int (nI p), .int (nI e), .int c] (G, I, F) (some (.int (-3))) (G, I, F) := by
  refine vm_K.mk (by decide) (Nat.le_of_ble_eq_true rfl) ?_
  show vm_J _ _ _ (0, (0, 0), [.ref 0, .int (nI p), .int (nI e), .int c, .retAddr 0, .retAddr 0, .retAddr 0], []) _ _ _
  refine vm_J.go vm_q111 (k := 3) (hs := [(12, 9, [.ref 1, .ref 38, .ref 75, .ref 112, .ref 132, .ref 135, .ref 139, .int 0, .int 0])]) (f' := (5, (0, 0), [.ref 0, .int (nI p), .int (nI e), .int c, .retAddr 0, .retAddr 0, .retAddr 0], [.int (nI p), .ref 1])) (h' := (G, I, F)) (hs' := []) rfl (vm_b2 rfl (vm_b2 (vm_b2 (vm_hG hD.d) rfl) (vm_b2 rfl rfl))) ?_
  refine vm_J.call vm_q111 (Z := vm_M93) (n := 1) (k := 0) (mi := 93) (pc := 5) (en := (5, .invokevirtual 172, 3, [93, 619, 0], .null)) rfl trivial rfl rfl vm_z93 (av := [.ref 1, .int (nI p)]) (rest := []) (m_pal_n (B := 1) (p := p) hD.w1 (by omega)) ⟨_, _, rfl, rfl, _, 9, _, hD.w1.w, rfl, rfl, rfl⟩ (Nat.le_of_ble_eq_true rfl) ⟨Nat.le_of_ble_eq_true rfl, Nat.le_of_ble_eq_true rfl⟩ ⟨Nat.le_of_ble_eq_true rfl, Nat.le_of_ble_eq_true rfl⟩ ?_
  show vm_J _ _ _ (8, (0, 0), [.ref 0, .int (nI p), .int (nI e), .int c, .retAddr 0, .retAddr 0, .retAddr 0], [.ref (1 + 25 + 3 * p)]) (G, I, F) _ _
  refine vm_J.go vm_q111 (k := 5) (hs := []) (f' := (18, (0, 0), [.ref 0, .int (nI p), .int (nI e), .int c, .ref (1 + 25 + 3 * p), .retAddr 0, .retAddr 0], [.int (nI e), .ref (1 + 25 + 3 * p)])) (h' := (G, I, F)) (hs' := []) rfl rfl ?_
  refine vm_J.call vm_q111 (Z := vm_M21) (n := 1) (k := 0) (mi := 21) (pc := 18) (en := (18, .invokevirtual 192, 3, [21, 645, 0], .null)) rfl trivial rfl rfl vm_z21 (av := [.ref (1 + 25 + 3 * p), .int (nI e)]) (rest := []) (m_Pal_has_y (o := 1 + 25 + 3 * p) (a := 1 + 26 + 3 * p) (b := 1 + 27 + 3 * p) (e := nI e) (hD.w1.l p hp) (by rw [hn]; exact vm_en_n he hn2)) ⟨_, _, rfl, rfl, _, 2, _, (hD.w1.l p hp), rfl, rfl, rfl⟩ (Nat.le_of_ble_eq_true rfl) ⟨Nat.le_of_ble_eq_true rfl, Nat.le_of_ble_eq_true rfl⟩ ⟨Nat.le_of_ble_eq_true rfl, Nat.le_of_ble_eq_true rfl⟩ ?_
  show vm_J _ _ _ (21, (0, 0), [.ref 0, .int (nI p), .int (nI e), .int c, .ref (1 + 25 + 3 * p), .retAddr 0, .retAddr 0], [.int 1]) (G, I, F) _ _
  refine vm_J.go vm_q111 (k := 1) (hs := []) (f' := (bif vm_ic .ne 1 0 then 26 else 24, (0, 0), [.ref 0, .int (nI p), .int (nI e), .int c, .ref (1 + 25 + 3 * p), .retAddr 0, .retAddr 0], [])) (h' := (G, I, F)) (hs' := []) rfl rfl ?_
  refine vm_J.bT (by decide) ?_
  refine vm_J.go vm_q111 (k := 1) (hs := []) (f' := (27, (0, 0), [.ref 0, .int (nI p), .int (nI e), .int c, .ref (1 + 25 + 3 * p), .retAddr 0, .retAddr 0], [.int c])) (h' := (G, I, F)) (hs' := []) rfl rfl ?_
  refine vm_J.call vm_q111 (Z := vm_M163) (n := 1) (k := 1) (mi := 163) (pc := 27) (en := (27, .invokestatic 77, 3, [163, 448, 0], .null)) rfl trivial rfl rfl vm_z163 (av := [.int c]) (rest := []) (m_isColour_y (c := c) hcc) rfl (Nat.le_of_ble_eq_true rfl) ⟨Nat.le_of_ble_eq_true rfl, Nat.le_of_ble_eq_true rfl⟩ ⟨Nat.le_of_ble_eq_true rfl, Nat.le_of_ble_eq_true rfl⟩ ?_
  show vm_J _ _ _ (30, (0, 0), [.ref 0, .int (nI p), .int (nI e), .int c, .ref (1 + 25 + 3 * p), .retAddr 0, .retAddr 0], [.int 1]) (G, I, F) _ _
  refine vm_J.go vm_q111 (k := 1) (hs := []) (f' := (bif vm_ic .ne 1 0 then 36 else 33, (0, 0), [.ref 0, .int (nI p), .int (nI e), .int c, .ref (1 + 25 + 3 * p), .retAddr 0, .retAddr 0], [])) (h' := (G, I, F)) (hs' := []) rfl rfl ?_
  refine vm_J.bT (by decide) ?_
  refine vm_J.go vm_q111 (k := 2) (hs := []) (f' := (39, (0, 0), [.ref 0, .int (nI p), .int (nI e), .int c, .ref (1 + 25 + 3 * p), .retAddr 0, .retAddr 0], [.int c, .ref (1 + 25 + 3 * p)])) (h' := (G, I, F)) (hs' := []) rfl rfl ?_
  refine vm_J.call vm_q111 (Z := vm_M25) (n := 1) (k := 0) (mi := 25) (pc := 39) (en := (39, .invokevirtual 176, 3, [25, 623, 0], .null)) rfl trivial rfl rfl vm_z25 (av := [.ref (1 + 25 + 3 * p), .int c]) (rest := []) (m_ew_y (o := 1 + 25 + 3 * p) (a := 1 + 26 + 3 * p) (b := 1 + 27 + 3 * p) (n := n) (j := j) (c := c) (hD.w1.l p hp) (hD.w1.c p hp) hn (by omega) hj hb hc) ⟨_, _, rfl, rfl, _, 2, _, (hD.w1.l p hp), rfl, rfl, rfl⟩ (Nat.le_of_ble_eq_true rfl) ⟨Nat.le_of_ble_eq_true rfl, Nat.le_of_ble_eq_true rfl⟩ ⟨Nat.le_of_ble_eq_true rfl, Nat.le_of_ble_eq_true rfl⟩ ?_
  show vm_J _ _ _ (42, (0, 0), [.ref 0, .int (nI p), .int (nI e), .int c, .ref (1 + 25 + 3 * p), .retAddr 0, .retAddr 0], [.int (nI j)]) (G, I, F) _ _
  refine vm_J.go vm_q111 (k := 3) (hs := []) (f' := (47, (0, 0), [.ref 0, .int (nI p), .int (nI e), .int c, .ref (1 + 25 + 3 * p), .int (nI j), .retAddr 0], [.int (nI e), .ref (1 + 25 + 3 * p)])) (h' := (G, I, F)) (hs' := []) rfl rfl ?_
  refine vm_J.call vm_q111 (Z := vm_M24) (n := 1) (k := 0) (mi := 24) (pc := 47) (en := (47, .invokevirtual 198, 3, [24, 658, 0], .null)) rfl trivial rfl rfl vm_z24 (av := [.ref (1 + 25 + 3 * p), .int (nI e)]) (rest := []) (m_Pal_isLocked_n (o := 1 + 25 + 3 * p) (a := 1 + 26 + 3 * p) (b := 1 + 27 + 3 * p) (j := e) (hD.w1.l p hp) (hD.w1.k p hp) (by omega) hl) ⟨_, _, rfl, rfl, _, 2, _, (hD.w1.l p hp), rfl, rfl, rfl⟩ (Nat.le_of_ble_eq_true rfl) ⟨Nat.le_of_ble_eq_true rfl, Nat.le_of_ble_eq_true rfl⟩ ⟨Nat.le_of_ble_eq_true rfl, Nat.le_of_ble_eq_true rfl⟩ ?_
  show vm_J _ _ _ (50, (0, 0), [.ref 0, .int (nI p), .int (nI e), .int c, .ref (1 + 25 + 3 * p), .int (nI j), .retAddr 0], [.int 0]) (G, I, F) _ _
  refine vm_J.go vm_q111 (k := 1) (hs := []) (f' := (bif vm_ic .ne 0 0 then 64 else 53, (0, 0), [.ref 0, .int (nI p), .int (nI e), .int c, .ref (1 + 25 + 3 * p), .int (nI j), .retAddr 0], [])) (h' := (G, I, F)) (hs' := []) rfl rfl ?_
  refine vm_J.bF (by decide) ?_
  refine vm_J.go vm_q111 (k := 2) (hs := []) (f' := (bif vm_ic .lt (nI j) 0 then 67 else 58, (0, 0), [.ref 0, .int (nI p), .int (nI e), .int c, .ref (1 + 25 + 3 * p), .int (nI j), .retAddr 0], [])) (h' := (G, I, F)) (hs' := []) rfl rfl ?_
  refine vm_J.br (fun c1 => ?_) (fun c1 => ?_)
  · have c1 := vm_lt_t (a := j) (b := 0) (by omega) (by omega) c1
    exact (show False by omega).elim
  · have c1 := vm_lt_f (a := j) (b := 0) (by omega) (by omega) c1
    refine vm_J.go vm_q111 (k := 3) (hs := []) (f' := (bif vm_ic .eq (nI j) (nI e) then 67 else 64, (0, 0), [.ref 0, .int (nI p), .int (nI e), .int c, .ref (1 + 25 + 3 * p), .int (nI j), .retAddr 0], [])) (h' := (G, I, F)) (hs' := []) rfl rfl ?_
    refine vm_J.br (fun c2 => ?_) (fun c2 => ?_)
    · have c2 := vm_eq_t (a := j) (b := e) (by omega) (by omega) c2
      exact (show False by omega).elim
    · have c2 := vm_eq_f (a := j) (b := e) (by omega) (by omega) c2
      refine vm_J.go vm_q111 (k := 1) (hs := []) (f' := (66, (0, 0), [.ref 0, .int (nI p), .int (nI e), .int c, .ref (1 + 25 + 3 * p), .int (nI j), .retAddr 0], [.int (-3)])) (h' := (G, I, F)) (hs' := []) rfl rfl ?_
      exact vm_J.end vm_q111 (en := (66, .ireturn, 1, [], .null)) rfl rfl vm_rI (Nat.zero_le _) (Nat.zero_le _) rfl
set_option maxHeartbeats 4000000 in
set_option maxRecDepth 20000 in
/-- DitherDesk.change -/
theorem c_change_y {l : Launch} {X : vm_Cx} {G : List vm_Sh} {I : Nat → Nat → Int32} {F : Nat → Nat → UInt32} {p : Nat} {n : Nat} {e : Nat} {c : Int32} (hD : vm_isD G) (hn : I (1 + 25 + 3 * p) 0 = nI n) (hp : p < 4) (hn2 : n ≤ 16) (he : e < n) (hcc : 0 ≤ c ∧ c ≤ 262143) (hl : ¬ I (1 + 27 + 3 * p) e = 1) (hb : ∀ k, k < n → ¬ I (1 + 26 + 3 * p) k = c) : vm_K l X vm_M111 [.ref 0, .int (nI p), .int (nI e), .int c] (G, I, F) (some (.int (I (1 + 26 + 3 * p) e))) (G, (vm_up I (1 + 26 + 3 * p) e c), F) := by
  refine vm_K.mk (by decide) (Nat.le_of_ble_eq_true rfl) ?_
  show vm_J _ _ _ (0, (0, 0), [.ref 0, .int (nI p), .int (nI e), .int c, .retAddr 0, .retAddr 0, .retAddr 0], []) _ _ _
  refine vm_J.go vm_q111 (k := 3) (hs := [(12, 9, [.ref 1, .ref 38, .ref 75, .ref 112, .ref 132, .ref 135, .ref 139, .int 0, .int 0])]) (f' := (5, (0, 0), [.ref 0, .int (nI p), .int (nI e), .int c, .retAddr 0, .retAddr 0, .retAddr 0], [.int (nI p), .ref 1])) (h' := (G, I, F)) (hs' := []) rfl (vm_b2 rfl (vm_b2 (vm_b2 (vm_hG hD.d) rfl) (vm_b2 rfl rfl))) ?_
  refine vm_J.call vm_q111 (Z := vm_M93) (n := 1) (k := 0) (mi := 93) (pc := 5) (en := (5, .invokevirtual 172, 3, [93, 619, 0], .null)) rfl trivial rfl rfl vm_z93 (av := [.ref 1, .int (nI p)]) (rest := []) (m_pal_n (B := 1) (p := p) hD.w1 (by omega)) ⟨_, _, rfl, rfl, _, 9, _, hD.w1.w, rfl, rfl, rfl⟩ (Nat.le_of_ble_eq_true rfl) ⟨Nat.le_of_ble_eq_true rfl, Nat.le_of_ble_eq_true rfl⟩ ⟨Nat.le_of_ble_eq_true rfl, Nat.le_of_ble_eq_true rfl⟩ ?_
  show vm_J _ _ _ (8, (0, 0), [.ref 0, .int (nI p), .int (nI e), .int c, .retAddr 0, .retAddr 0, .retAddr 0], [.ref (1 + 25 + 3 * p)]) (G, I, F) _ _
  refine vm_J.go vm_q111 (k := 5) (hs := []) (f' := (18, (0, 0), [.ref 0, .int (nI p), .int (nI e), .int c, .ref (1 + 25 + 3 * p), .retAddr 0, .retAddr 0], [.int (nI e), .ref (1 + 25 + 3 * p)])) (h' := (G, I, F)) (hs' := []) rfl rfl ?_
  refine vm_J.call vm_q111 (Z := vm_M21) (n := 1) (k := 0) (mi := 21) (pc := 18) (en := (18, .invokevirtual 192, 3, [21, 645, 0], .null)) rfl trivial rfl rfl vm_z21 (av := [.ref (1 + 25 + 3 * p), .int (nI e)]) (rest := []) (m_Pal_has_y (o := 1 + 25 + 3 * p) (a := 1 + 26 + 3 * p) (b := 1 + 27 + 3 * p) (e := nI e) (hD.w1.l p hp) (by rw [hn]; exact vm_en_n he hn2)) ⟨_, _, rfl, rfl, _, 2, _, (hD.w1.l p hp), rfl, rfl, rfl⟩ (Nat.le_of_ble_eq_true rfl) ⟨Nat.le_of_ble_eq_true rfl, Nat.le_of_ble_eq_true rfl⟩ ⟨Nat.le_of_ble_eq_true rfl, Nat.le_of_ble_eq_true rfl⟩ ?_
  show vm_J _ _ _ (21, (0, 0), [.ref 0, .int (nI p), .int (nI e), .int c, .ref (1 + 25 + 3 * p), .retAddr 0, .retAddr 0], [.int 1]) (G, I, F) _ _
  refine vm_J.go vm_q111 (k := 1) (hs := []) (f' := (bif vm_ic .ne 1 0 then 26 else 24, (0, 0), [.ref 0, .int (nI p), .int (nI e), .int c, .ref (1 + 25 + 3 * p), .retAddr 0, .retAddr 0], [])) (h' := (G, I, F)) (hs' := []) rfl rfl ?_
  refine vm_J.bT (by decide) ?_
  refine vm_J.go vm_q111 (k := 1) (hs := []) (f' := (27, (0, 0), [.ref 0, .int (nI p), .int (nI e), .int c, .ref (1 + 25 + 3 * p), .retAddr 0, .retAddr 0], [.int c])) (h' := (G, I, F)) (hs' := []) rfl rfl ?_
  refine vm_J.call vm_q111 (Z := vm_M163) (n := 1) (k := 1) (mi := 163) (pc := 27) (en := (27, .invokestatic 77, 3, [163, 448, 0], .null)) rfl trivial rfl rfl vm_z163 (av := [.int c]) (rest := []) (m_isColour_y (c := c) hcc) rfl (Nat.le_of_ble_eq_true rfl) ⟨Nat.le_of_ble_eq_true rfl, Nat.le_of_ble_eq_true rfl⟩ ⟨Nat.le_of_ble_eq_true rfl, Nat.le_of_ble_eq_true rfl⟩ ?_
  show vm_J _ _ _ (30, (0, 0), [.ref 0, .int (nI p), .int (nI e), .int c, .ref (1 + 25 + 3 * p), .retAddr 0, .retAddr 0], [.int 1]) (G, I, F) _ _
  refine vm_J.go vm_q111 (k := 1) (hs := []) (f' := (bif vm_ic .ne 1 0 then 36 else 33, (0, 0), [.ref 0, .int (nI p), .int (nI e), .int c, .ref (1 + 25 + 3 * p), .retAddr 0, .retAddr 0], [])) (h' := (G, I, F)) (hs' := []) rfl rfl ?_
  refine vm_J.bT (by decide) ?_
  refine vm_J.go vm_q111 (k := 2) (hs := []) (f' := (39, (0, 0), [.ref 0, .int (nI p), .int (nI e), .int c, .ref (1 + 25 + 3 * p), .retAddr 0, .retAddr 0], [.int c, .ref (1 + 25 + 3 * p)])) (h' := (G, I, F)) (hs' := []) rfl rfl ?_
  refine vm_J.call vm_q111 (Z := vm_M25) (n := 1) (k := 0) (mi := 25) (pc := 39) (en := (39, .invokevirtual 176, 3, [25, 623, 0], .null)) rfl trivial rfl rfl vm_z25 (av := [.ref (1 + 25 + 3 * p), .int c]) (rest := []) (m_ew_n (o := 1 + 25 + 3 * p) (a := 1 + 26 + 3 * p) (b := 1 + 27 + 3 * p) (n := n) (c := c) (hD.w1.l p hp) (hD.w1.c p hp) hn (by omega) hb) ⟨_, _, rfl, rfl, _, 2, _, (hD.w1.l p hp), rfl, rfl, rfl⟩ (Nat.le_of_ble_eq_true rfl) ⟨Nat.le_of_ble_eq_true rfl, Nat.le_of_ble_eq_true rfl⟩ ⟨Nat.le_of_ble_eq_true rfl, Nat.le_of_ble_eq_true rfl⟩ ?_
  show vm_J _ _ _ (42, (0, 0), [.ref 0, .int (nI p), .int (nI e), .int c, .ref (1 + 25 + 3 * p), .retAddr 0, .retAddr 0], [.int (-1)]) (G, I, F) _ _
  refine vm_J.go vm_q111 (k := 3) (hs := []) (f' := (47, (0, 0), [.ref 0, .int (nI p), .int (nI e), .int c, .ref (1 + 25 + 3 * p), .int (-1), .retAddr 0], [.int (nI e), .ref (1 + 25 + 3 * p)])) (h' := (G, I, F)) (hs' := []) rfl rfl ?_
  refine vm_J.call vm_q111 (Z := vm_M24) (n := 1) (k := 0) (mi := 24) (pc := 47) (en := (47, .invokevirtual 198, 3, [24, 658, 0], .null)) rfl trivial rfl rfl vm_z24 (av := [.ref (1 + 25 + 3 * p), .int (nI e)]) (rest := []) (m_Pal_isLocked_n (o := 1 + 25 + 3 * p) (a := 1 + 26 + 3 * p) (b := 1 + 27 + 3 * p) (j := e) (hD.w1.l p hp) (hD.w1.k p hp) (by omega) hl) ⟨_, _, rfl, rfl, _, 2, _, (hD.w1.l p hp), rfl, rfl, rfl⟩ (Nat.le_of_ble_eq_true rfl) ⟨Nat.le_of_ble_eq_true rfl, Nat.le_of_ble_eq_true rfl⟩ ⟨Nat.le_of_ble_eq_true rfl, Nat.le_of_ble_eq_true rfl⟩ ?_
  show vm_J _ _ _ (50, (0, 0), [.ref 0, .int (nI p), .int (nI e), .int c, .ref (1 + 25 + 3 * p), .int (-1), .retAddr 0], [.int 0]) (G, I, F) _ _
  refine vm_J.go vm_q111 (k := 1) (hs := []) (f' := (bif vm_ic .ne 0 0 then 64 else 53, (0, 0), [.ref 0, .int (nI p), .int (nI e), .int c, .ref (1 + 25 + 3 * p), .int (-1), .retAddr 0], [])) (h' := (G, I, F)) (hs' := []) rfl rfl ?_
  refine vm_J.bF (by decide) ?_
  refine vm_J.go vm_q111 (k := 2) (hs := []) (f' := (bif vm_ic .lt (-1) 0 then 67 else 58, (0, 0), [.ref 0, .int (nI p), .int (nI e), .int c, .ref (1 + 25 + 3 * p), .int (-1), .retAddr 0], [])) (h' := (G, I, F)) (hs' := []) rfl rfl ?_
  refine vm_J.bT (by decide) ?_
  refine vm_J.go vm_q111 (k := 2) (hs := []) (f' := (70, (0, 0), [.ref 0, .int (nI p), .int (nI e), .int c, .ref (1 + 25 + 3 * p), .int (-1), .retAddr 0], [.int (nI e), .ref (1 + 25 + 3 * p)])) (h' := (G, I, F)) (hs' := []) rfl rfl ?_
  refine vm_J.call vm_q111 (Z := vm_M23) (n := 1) (k := 0) (mi := 23) (pc := 70) (en := (70, .invokevirtual 201, 3, [23, 662, 0], .null)) rfl trivial rfl rfl vm_z23 (av := [.ref (1 + 25 + 3 * p), .int (nI e)]) (rest := []) (m_Pal_colourOf (o := 1 + 25 + 3 * p) (a := 1 + 26 + 3 * p) (b := 1 + 27 + 3 * p) (j := e) (hD.w1.l p hp) (hD.w1.c p hp) (by omega)) ⟨_, _, rfl, rfl, _, 2, _, (hD.w1.l p hp), rfl, rfl, rfl⟩ (Nat.le_of_ble_eq_true rfl) ⟨Nat.le_of_ble_eq_true rfl, Nat.le_of_ble_eq_true rfl⟩ ⟨Nat.le_of_ble_eq_true rfl, Nat.le_of_ble_eq_true rfl⟩ ?_
  show vm_J _ _ _ (73, (0, 0), [.ref 0, .int (nI p), .int (nI e), .int c, .ref (1 + 25 + 3 * p), .int (-1), .retAddr 0], [.int (I (1 + 26 + 3 * p) e)]) (G, I, F) _ _
  refine vm_J.go vm_q111 (k := 5) (hs := [(4, 3, [.int 0, .ref (1 + 26 + 3 * p), .ref (1 + 27 + 3 * p)])]) (f' := (82, (0, 0), [.ref 0, .int (nI p), .int (nI e), .int c, .ref (1 + 25 + 3 * p), .int (-1), .int (I (1 + 26 + 3 * p) e)], [.int c, .int (nI e), .ref (1 + 26 + 3 * p)])) (h' := (G, I, F)) (hs' := []) rfl (vm_b2 rfl (vm_b2 rfl (vm_b2 (vm_b2 (vm_hG (hD.w1.l p hp)) rfl) (vm_b2 rfl (vm_b2 rfl rfl))))) ?_
  refine vm_J.call vm_q111 (Z := vm_M153) (n := 3) (k := 1) (mi := 153) (pc := 82) (en := (82, .invokestatic 92, 3, [153, 464, 0], .null)) rfl trivial rfl rfl vm_z153 (av := [.ref (1 + 26 + 3 * p), .int (nI e), .int c]) (rest := []) (m_put_n (j := e) (v := c) (hD.w1.c p hp) (by omega) (by omega)) rfl (Nat.le_of_ble_eq_true rfl) ⟨Nat.le_of_ble_eq_true rfl, Nat.le_of_ble_eq_true rfl⟩ ⟨Nat.le_of_ble_eq_true rfl, Nat.le_of_ble_eq_true rfl⟩ ?_
  show vm_J _ _ _ (85, (0, 0), [.ref 0, .int (nI p), .int (nI e), .int c, .ref (1 + 25 + 3 * p), .int (-1), .int (I (1 + 26 + 3 * p) e)], []) (G, (vm_up I (1 + 26 + 3 * p) e c), F) _ _
  refine vm_J.go vm_q111 (k := 1) (hs := []) (f' := (87, (0, 0), [.ref 0, .int (nI p), .int (nI e), .int c, .ref (1 + 25 + 3 * p), .int (-1), .int (I (1 + 26 + 3 * p) e)], [.int (I (1 + 26 + 3 * p) e)])) (h' := (G, (vm_up I (1 + 26 + 3 * p) e c), F)) (hs' := []) rfl rfl ?_
  exact vm_J.end vm_q111 (en := (87, .ireturn, 1, [], .null)) rfl rfl vm_rI (Nat.zero_le _) (Nat.zero_le _) rfl
set_option maxHeartbeats 4000000 in
set_option maxRecDepth 20000 in
/-- DitherDesk.change -/
theorem c_change_z {l : Launch} {X : vm_Cx} {G : List vm_Sh} {I : Nat → Nat → Int32} {F : Nat → Nat → UInt32} {p : Nat} {n : Nat} {e : Nat} {c : Int32} (hD : vm_isD G) (hn : I (1 + 25 + 3 * p) 0 = nI n) (hp : p < 4) (hn2 : n ≤ 16) (he : e < n) (hcc : 0 ≤ c ∧ c ≤ 262143) (hl : ¬ I (1 + 27 + 3 * p) e = 1) (hb : ∀ k, k < e → ¬ I (1 + 26 + 3 * p) k = c) (hc : I (1 + 26 + 3 * p) e = c) : vm_K l X vm_M111 [.ref 0, .int (nI p), .int (nI e), .int c] (G, I, F) (some (.int (I (1 + 26 + 3 * p) e))) (G, (vm_up I (1 + 26 + 3 * p) e c), F) := by
  refine vm_K.mk (by decide) (Nat.le_of_ble_eq_true rfl) ?_
  show vm_J _ _ _ (0, (0, 0), [.ref 0, .int (nI p), .int (nI e), .int c, .retAddr 0, .retAddr 0, .retAddr 0], []) _ _ _
  refine vm_J.go vm_q111 (k := 3) (hs := [(12, 9, [.ref 1, .ref 38, .ref 75, .ref 112, .ref 132, .ref 135, .ref 139, .int 0, .int 0])]) (f' := (5, (0, 0), [.ref 0, .int (nI p), .int (nI e), .int c, .retAddr 0, .retAddr 0, .retAddr 0], [.int (nI p), .ref 1])) (h' := (G, I, F)) (hs' := []) rfl (vm_b2 rfl (vm_b2 (vm_b2 (vm_hG hD.d) rfl) (vm_b2 rfl rfl))) ?_
  refine vm_J.call vm_q111 (Z := vm_M93) (n := 1) (k := 0) (mi := 93) (pc := 5) (en := (5, .invokevirtual 172, 3, [93, 619, 0], .null)) rfl trivial rfl rfl vm_z93 (av := [.ref 1, .int (nI p)]) (rest := []) (m_pal_n (B := 1) (p := p) hD.w1 (by omega)) ⟨_, _, rfl, rfl, _, 9, _, hD.w1.w, rfl, rfl, rfl⟩ (Nat.le_of_ble_eq_true rfl) ⟨Nat.le_of_ble_eq_true rfl, Nat.le_of_ble_eq_true rfl⟩ ⟨Nat.le_of_ble_eq_true rfl, Nat.le_of_ble_eq_true rfl⟩ ?_
  show vm_J _ _ _ (8, (0, 0), [.ref 0, .int (nI p), .int (nI e), .int c, .retAddr 0, .retAddr 0, .retAddr 0], [.ref (1 + 25 + 3 * p)]) (G, I, F) _ _
  refine vm_J.go vm_q111 (k := 5) (hs := []) (f' := (18, (0, 0), [.ref 0, .int (nI p), .int (nI e), .int c, .ref (1 + 25 + 3 * p), .retAddr 0, .retAddr 0], [.int (nI e), .ref (1 + 25 + 3 * p)])) (h' := (G, I, F)) (hs' := []) rfl rfl ?_
  refine vm_J.call vm_q111 (Z := vm_M21) (n := 1) (k := 0) (mi := 21) (pc := 18) (en := (18, .invokevirtual 192, 3, [21, 645, 0], .null)) rfl trivial rfl rfl vm_z21 (av := [.ref (1 + 25 + 3 * p), .int (nI e)]) (rest := []) (m_Pal_has_y (o := 1 + 25 + 3 * p) (a := 1 + 26 + 3 * p) (b := 1 + 27 + 3 * p) (e := nI e) (hD.w1.l p hp) (by rw [hn]; exact vm_en_n he hn2)) ⟨_, _, rfl, rfl, _, 2, _, (hD.w1.l p hp), rfl, rfl, rfl⟩ (Nat.le_of_ble_eq_true rfl) ⟨Nat.le_of_ble_eq_true rfl, Nat.le_of_ble_eq_true rfl⟩ ⟨Nat.le_of_ble_eq_true rfl, Nat.le_of_ble_eq_true rfl⟩ ?_
  show vm_J _ _ _ (21, (0, 0), [.ref 0, .int (nI p), .int (nI e), .int c, .ref (1 + 25 + 3 * p), .retAddr 0, .retAddr 0], [.int 1]) (G, I, F) _ _
  refine vm_J.go vm_q111 (k := 1) (hs := []) (f' := (bif vm_ic .ne 1 0 then 26 else 24, (0, 0), [.ref 0, .int (nI p), .int (nI e), .int c, .ref (1 + 25 + 3 * p), .retAddr 0, .retAddr 0], [])) (h' := (G, I, F)) (hs' := []) rfl rfl ?_
  refine vm_J.bT (by decide) ?_
  refine vm_J.go vm_q111 (k := 1) (hs := []) (f' := (27, (0, 0), [.ref 0, .int (nI p), .int (nI e), .int c, .ref (1 + 25 + 3 * p), .retAddr 0, .retAddr 0], [.int c])) (h' := (G, I, F)) (hs' := []) rfl rfl ?_
  refine vm_J.call vm_q111 (Z := vm_M163) (n := 1) (k := 1) (mi := 163) (pc := 27) (en := (27, .invokestatic 77, 3, [163, 448, 0], .null)) rfl trivial rfl rfl vm_z163 (av := [.int c]) (rest := []) (m_isColour_y (c := c) hcc) rfl (Nat.le_of_ble_eq_true rfl) ⟨Nat.le_of_ble_eq_true rfl, Nat.le_of_ble_eq_true rfl⟩ ⟨Nat.le_of_ble_eq_true rfl, Nat.le_of_ble_eq_true rfl⟩ ?_
  show vm_J _ _ _ (30, (0, 0), [.ref 0, .int (nI p), .int (nI e), .int c, .ref (1 + 25 + 3 * p), .retAddr 0, .retAddr 0], [.int 1]) (G, I, F) _ _
  refine vm_J.go vm_q111 (k := 1) (hs := []) (f' := (bif vm_ic .ne 1 0 then 36 else 33, (0, 0), [.ref 0, .int (nI p), .int (nI e), .int c, .ref (1 + 25 + 3 * p), .retAddr 0, .retAddr 0], [])) (h' := (G, I, F)) (hs' := []) rfl rfl ?_
  refine vm_J.bT (by decide) ?_
  refine vm_J.go vm_q111 (k := 2) (hs := []) (f' := (39, (0, 0), [.ref 0, .int (nI p), .int (nI e), .int c, .ref (1 + 25 + 3 * p), .retAddr 0, .retAddr 0], [.int c, .ref (1 + 25 + 3 * p)])) (h' := (G, I, F)) (hs' := []) rfl rfl ?_
  refine vm_J.call vm_q111 (Z := vm_M25) (n := 1) (k := 0) (mi := 25) (pc := 39) (en := (39, .invokevirtual 176, 3, [25, 623, 0], .null)) rfl trivial rfl rfl vm_z25 (av := [.ref (1 + 25 + 3 * p), .int c]) (rest := []) (m_ew_y (o := 1 + 25 + 3 * p) (a := 1 + 26 + 3 * p) (b := 1 + 27 + 3 * p) (n := n) (j := e) (c := c) (hD.w1.l p hp) (hD.w1.c p hp) hn (by omega) he hb hc) ⟨_, _, rfl, rfl, _, 2, _, (hD.w1.l p hp), rfl, rfl, rfl⟩ (Nat.le_of_ble_eq_true rfl) ⟨Nat.le_of_ble_eq_true rfl, Nat.le_of_ble_eq_true rfl⟩ ⟨Nat.le_of_ble_eq_true rfl, Nat.le_of_ble_eq_true rfl⟩ ?_
  show vm_J _ _ _ (42, (0, 0), [.ref 0, .int (nI p), .int (nI e), .int c, .ref (1 + 25 + 3 * p), .retAddr 0, .retAddr 0], [.int (nI e)]) (G, I, F) _ _
  refine vm_J.go vm_q111 (k := 3) (hs := []) (f' := (47, (0, 0), [.ref 0, .int (nI p), .int (nI e), .int c, .ref (1 + 25 + 3 * p), .int (nI e), .retAddr 0], [.int (nI e), .ref (1 + 25 + 3 * p)])) (h' := (G, I, F)) (hs' := []) rfl rfl ?_
  refine vm_J.call vm_q111 (Z := vm_M24) (n := 1) (k := 0) (mi := 24) (pc := 47) (en := (47, .invokevirtual 198, 3, [24, 658, 0], .null)) rfl trivial rfl rfl vm_z24 (av := [.ref (1 + 25 + 3 * p), .int (nI e)]) (rest := []) (m_Pal_isLocked_n (o := 1 + 25 + 3 * p) (a := 1 + 26 + 3 * p) (b := 1 + 27 + 3 * p) (j := e) (hD.w1.l p hp) (hD.w1.k p hp) (by omega) hl) ⟨_, _, rfl, rfl, _, 2, _, (hD.w1.l p hp), rfl, rfl, rfl⟩ (Nat.le_of_ble_eq_true rfl) ⟨Nat.le_of_ble_eq_true rfl, Nat.le_of_ble_eq_true rfl⟩ ⟨Nat.le_of_ble_eq_true rfl, Nat.le_of_ble_eq_true rfl⟩ ?_
  show vm_J _ _ _ (50, (0, 0), [.ref 0, .int (nI p), .int (nI e), .int c, .ref (1 + 25 + 3 * p), .int (nI e), .retAddr 0], [.int 0]) (G, I, F) _ _
  refine vm_J.go vm_q111 (k := 1) (hs := []) (f' := (bif vm_ic .ne 0 0 then 64 else 53, (0, 0), [.ref 0, .int (nI p), .int (nI e), .int c, .ref (1 + 25 + 3 * p), .int (nI e), .retAddr 0], [])) (h' := (G, I, F)) (hs' := []) rfl rfl ?_
  refine vm_J.bF (by decide) ?_
  refine vm_J.go vm_q111 (k := 2) (hs := []) (f' := (bif vm_ic .lt (nI e) 0 then 67 else 58, (0, 0), [.ref 0, .int (nI p), .int (nI e), .int c, .ref (1 + 25 + 3 * p), .int (nI e), .retAddr 0], [])) (h' := (G, I, F)) (hs' := []) rfl rfl ?_
  refine vm_J.br (fun c1 => ?_) (fun c1 => ?_)
  · have c1 := vm_lt_t (a := e) (b := 0) (by omega) (by omega) c1
    exact (show False by omega).elim
  · have c1 := vm_lt_f (a := e) (b := 0) (by omega) (by omega) c1
    refine vm_J.go vm_q111 (k := 3) (hs := []) (f' := (bif vm_ic .eq (nI e) (nI e) then 67 else 64, (0, 0), [.ref 0, .int (nI p), .int (nI e), .int c, .ref (1 + 25 + 3 * p), .int (nI e), .retAddr 0], [])) (h' := (G, I, F)) (hs' := []) rfl rfl ?_
    refine vm_J.br (fun c2 => ?_) (fun c2 => ?_)
    · have c2 := vm_eq_t (a := e) (b := e) (by omega) (by omega) c2
      refine vm_J.go vm_q111 (k := 2) (hs := []) (f' := (70, (0, 0), [.ref 0, .int (nI p), .int (nI e), .int c, .ref (1 + 25 + 3 * p), .int (nI e), .retAddr 0], [.int (nI e), .ref (1 + 25 + 3 * p)])) (h' := (G, I, F)) (hs' := []) rfl rfl ?_
      refine vm_J.call vm_q111 (Z := vm_M23) (n := 1) (k := 0) (mi := 23) (pc := 70) (en := (70, .invokevirtual 201, 3, [23, 662, 0], .null)) rfl trivial rfl rfl vm_z23 (av := [.ref (1 + 25 + 3 * p), .int (nI e)]) (rest := []) (m_Pal_colourOf (o := 1 + 25 + 3 * p) (a := 1 + 26 + 3 * p) (b := 1 + 27 + 3 * p) (j := e) (hD.w1.l p hp) (hD.w1.c p hp) (by omega)) ⟨_, _, rfl, rfl, _, 2, _, (hD.w1.l p hp), rfl, rfl, rfl⟩ (Nat.le_of_ble_eq_true rfl) ⟨Nat.le_of_ble_eq_true rfl, Nat.le_of_ble_eq_true rfl⟩ ⟨Nat.le_of_ble_eq_true rfl, Nat.le_of_ble_eq_true rfl⟩ ?_
      show vm_J _ _ _ (73, (0, 0), [.ref 0, .int (nI p), .int (nI e), .int c, .ref (1 + 25 + 3 * p), .int (nI e), .retAddr 0], [.int (I (1 + 26 + 3 * p) e)]) (G, I, F) _ _
      refine vm_J.go vm_q111 (k := 5) (hs := [(4, 3, [.int 0, .ref (1 + 26 + 3 * p), .ref (1 + 27 + 3 * p)])]) (f' := (82, (0, 0), [.ref 0, .int (nI p), .int (nI e), .int c, .ref (1 + 25 + 3 * p), .int (nI e), .int (I (1 + 26 + 3 * p) e)], [.int c, .int (nI e), .ref (1 + 26 + 3 * p)])) (h' := (G, I, F)) (hs' := []) rfl (vm_b2 rfl (vm_b2 rfl (vm_b2 (vm_b2 (vm_hG (hD.w1.l p hp)) rfl) (vm_b2 rfl (vm_b2 rfl rfl))))) ?_
      refine vm_J.call vm_q111 (Z := vm_M153) (n := 3) (k := 1) (mi := 153) (pc := 82) (en := (82, .invokestatic 92, 3, [153, 464, 0], .null)) rfl trivial rfl rfl vm_z153 (av := [.ref (1 + 26 + 3 * p), .int (nI e), .int c]) (rest := []) (m_put_n (j := e) (v := c) (hD.w1.c p hp) (by omega) (by omega)) rfl (Nat.le_of_ble_eq_true rfl) ⟨Nat.le_of_ble_eq_true rfl, Nat.le_of_ble_eq_true rfl⟩ ⟨Nat.le_of_ble_eq_true rfl, Nat.le_of_ble_eq_true rfl⟩ ?_
      show vm_J _ _ _ (85, (0, 0), [.ref 0, .int (nI p), .int (nI e), .int c, .ref (1 + 25 + 3 * p), .int (nI e), .int (I (1 + 26 + 3 * p) e)], []) (G, (vm_up I (1 + 26 + 3 * p) e c), F) _ _
      refine vm_J.go vm_q111 (k := 1) (hs := []) (f' := (87, (0, 0), [.ref 0, .int (nI p), .int (nI e), .int c, .ref (1 + 25 + 3 * p), .int (nI e), .int (I (1 + 26 + 3 * p) e)], [.int (I (1 + 26 + 3 * p) e)])) (h' := (G, (vm_up I (1 + 26 + 3 * p) e c), F)) (hs' := []) rfl rfl ?_
      exact vm_J.end vm_q111 (en := (87, .ireturn, 1, [], .null)) rfl rfl vm_rI (Nat.zero_le _) (Nat.zero_le _) rfl
    · have c2 := vm_eq_f (a := e) (b := e) (by omega) (by omega) c2
      exact (show False by omega).elim
set_option maxHeartbeats 4000000 in
set_option maxRecDepth 20000 in
/-- DitherDesk.lock -/
theorem c_lock_01 {l : Launch} {X : vm_Cx} {G : List vm_Sh} {I : Nat → Nat → Int32} {F : Nat → Nat → UInt32} {p : Nat} {n : Nat} {e : Nat} (hD : vm_isD G) (hn : I (1 + 25 + 3 * p) 0 = nI n) (hp : p < 4) (hn2 : n ≤ 16) (he : e < n) (hl : I (1 + 27 + 3 * p) e = 1) : vm_K l X vm_M112 [.ref 0, .int (nI p), .int (nI e), .int 0] (G, I, F) (some (.int 1)) (G, (vm_up I (1 + 27 + 3 * p) e 0), F) := by
  refine vm_K.mk (by decide) (Nat.le_of_ble_eq_true rfl) ?_
  show vm_J _ _ _ (0, (0, 0), [.ref 0, .int (nI p), .int (nI e), .int 0, .retAddr 0, .retAddr 0], []) _ _ _
  refine vm_J.go vm_q112 (k := 3) (hs := [(12, 9, [.ref 1, .ref 38, .ref 75, .ref 112, .ref 132, .ref 135, .ref 139, .int 0, .int 0])]) (f' := (5, (0, 0), [.ref 0, .int (nI p), .int (nI e), .int 0, .retAddr 0, .retAddr 0], [.int (nI p), .ref 1])) (h' := (G, I, F)) (hs' := []) rfl (vm_b2 rfl (vm_b2 (vm_b2 (vm_hG hD.d) rfl) (vm_b2 rfl rfl))) ?_
  refine vm_J.call vm_q112 (Z := vm_M93) (n := 1) (k := 0) (mi := 93) (pc := 5) (en := (5, .invokevirtual 172, 3, [93, 619, 0], .null)) rfl trivial rfl rfl vm_z93 (av := [.ref 1, .int (nI p)]) (rest := []) (m_pal_n (B := 1) (p := p) hD.w1 (by omega)) ⟨_, _, rfl, rfl, _, 9, _, hD.w1.w, rfl, rfl, rfl⟩ (Nat.le_of_ble_eq_true rfl) ⟨Nat.le_of_ble_eq_true rfl, Nat.le_of_ble_eq_true rfl⟩ ⟨Nat.le_of_ble_eq_true rfl, Nat.le_of_ble_eq_true rfl⟩ ?_
  show vm_J _ _ _ (8, (0, 0), [.ref 0, .int (nI p), .int (nI e), .int 0, .retAddr 0, .retAddr 0], [.ref (1 + 25 + 3 * p)]) (G, I, F) _ _
  refine vm_J.go vm_q112 (k := 5) (hs := []) (f' := (18, (0, 0), [.ref 0, .int (nI p), .int (nI e), .int 0, .ref (1 + 25 + 3 * p), .retAddr 0], [.int (nI e), .ref (1 + 25 + 3 * p)])) (h' := (G, I, F)) (hs' := []) rfl rfl ?_
  refine vm_J.call vm_q112 (Z := vm_M21) (n := 1) (k := 0) (mi := 21) (pc := 18) (en := (18, .invokevirtual 192, 3, [21, 645, 0], .null)) rfl trivial rfl rfl vm_z21 (av := [.ref (1 + 25 + 3 * p), .int (nI e)]) (rest := []) (m_Pal_has_y (o := 1 + 25 + 3 * p) (a := 1 + 26 + 3 * p) (b := 1 + 27 + 3 * p) (e := nI e) (hD.w1.l p hp) (by rw [hn]; exact vm_en_n he hn2)) ⟨_, _, rfl, rfl, _, 2, _, (hD.w1.l p hp), rfl, rfl, rfl⟩ (Nat.le_of_ble_eq_true rfl) ⟨Nat.le_of_ble_eq_true rfl, Nat.le_of_ble_eq_true rfl⟩ ⟨Nat.le_of_ble_eq_true rfl, Nat.le_of_ble_eq_true rfl⟩ ?_
  show vm_J _ _ _ (21, (0, 0), [.ref 0, .int (nI p), .int (nI e), .int 0, .ref (1 + 25 + 3 * p), .retAddr 0], [.int 1]) (G, I, F) _ _
  refine vm_J.go vm_q112 (k := 1) (hs := []) (f' := (bif vm_ic .ne 1 0 then 26 else 24, (0, 0), [.ref 0, .int (nI p), .int (nI e), .int 0, .ref (1 + 25 + 3 * p), .retAddr 0], [])) (h' := (G, I, F)) (hs' := []) rfl rfl ?_
  refine vm_J.bT (by decide) ?_
  refine vm_J.go vm_q112 (k := 2) (hs := []) (f' := (29, (0, 0), [.ref 0, .int (nI p), .int (nI e), .int 0, .ref (1 + 25 + 3 * p), .retAddr 0], [.int (nI e), .ref (1 + 25 + 3 * p)])) (h' := (G, I, F)) (hs' := []) rfl rfl ?_
  refine vm_J.call vm_q112 (Z := vm_M24) (n := 1) (k := 0) (mi := 24) (pc := 29) (en := (29, .invokevirtual 198, 3, [24, 658, 0], .null)) rfl trivial rfl rfl vm_z24 (av := [.ref (1 + 25 + 3 * p), .int (nI e)]) (rest := []) (m_Pal_isLocked_y (o := 1 + 25 + 3 * p) (a := 1 + 26 + 3 * p) (b := 1 + 27 + 3 * p) (j := e) (hD.w1.l p hp) (hD.w1.k p hp) (by omega) hl) ⟨_, _, rfl, rfl, _, 2, _, (hD.w1.l p hp), rfl, rfl, rfl⟩ (Nat.le_of_ble_eq_true rfl) ⟨Nat.le_of_ble_eq_true rfl, Nat.le_of_ble_eq_true rfl⟩ ⟨Nat.le_of_ble_eq_true rfl, Nat.le_of_ble_eq_true rfl⟩ ?_
  show vm_J _ _ _ (32, (0, 0), [.ref 0, .int (nI p), .int (nI e), .int 0, .ref (1 + 25 + 3 * p), .retAddr 0], [.int 1]) (G, I, F) _ _
  refine vm_J.go vm_q112 (k := 1) (hs := []) (f' := (bif vm_ic .eq 1 0 then 39 else 35, (0, 0), [.ref 0, .int (nI p), .int (nI e), .int 0, .ref (1 + 25 + 3 * p), .retAddr 0], [])) (h' := (G, I, F)) (hs' := []) rfl rfl ?_
  refine vm_J.bF (by decide) ?_
  refine vm_J.go vm_q112 (k := 8) (hs := [(4, 3, [.int 0, .ref (1 + 26 + 3 * p), .ref (1 + 27 + 3 * p)])]) (f' := (bif vm_ic .eq 0 0 then 56 else 52, (0, 0), [.ref 0, .int (nI p), .int (nI e), .int 0, .ref (1 + 25 + 3 * p), .int 1], [.int (nI e), .ref (1 + 27 + 3 * p)])) (h' := (G, I, F)) (hs' := []) rfl (vm_b2 rfl (vm_b2 rfl (vm_b2 rfl (vm_b2 rfl (vm_b2 (vm_b2 (vm_hG (hD.w1.l p hp)) rfl) (vm_b2 rfl (vm_b2 rfl (vm_b2 rfl rfl)))))))) ?_
  refine vm_J.bT (by decide) ?_
  refine vm_J.go vm_q112 (k := 1) (hs := []) (f' := (57, (0, 0), [.ref 0, .int (nI p), .int (nI e), .int 0, .ref (1 + 25 + 3 * p), .int 1], [.int 0, .int (nI e), .ref (1 + 27 + 3 * p)])) (h' := (G, I, F)) (hs' := []) rfl rfl ?_
  refine vm_J.call vm_q112 (Z := vm_M153) (n := 3) (k := 1) (mi := 153) (pc := 57) (en := (57, .invokestatic 92, 3, [153, 464, 0], .null)) rfl trivial rfl rfl vm_z153 (av := [.ref (1 + 27 + 3 * p), .int (nI e), .int 0]) (rest := []) (m_put_n (j := e) (v := 0) (hD.w1.k p hp) (by omega) (by omega)) rfl (Nat.le_of_ble_eq_true rfl) ⟨Nat.le_of_ble_eq_true rfl, Nat.le_of_ble_eq_true rfl⟩ ⟨Nat.le_of_ble_eq_true rfl, Nat.le_of_ble_eq_true rfl⟩ ?_
  show vm_J _ _ _ (60, (0, 0), [.ref 0, .int (nI p), .int (nI e), .int 0, .ref (1 + 25 + 3 * p), .int 1], []) (G, (vm_up I (1 + 27 + 3 * p) e 0), F) _ _
  refine vm_J.go vm_q112 (k := 1) (hs := []) (f' := (62, (0, 0), [.ref 0, .int (nI p), .int (nI e), .int 0, .ref (1 + 25 + 3 * p), .int 1], [.int 1])) (h' := (G, (vm_up I (1 + 27 + 3 * p) e 0), F)) (hs' := []) rfl rfl ?_
  exact vm_J.end vm_q112 (en := (62, .ireturn, 1, [], .null)) rfl rfl vm_rI (Nat.zero_le _) (Nat.zero_le _) rfl
set_option maxHeartbeats 4000000 in
set_option maxRecDepth 20000 in
/-- DitherDesk.lock -/
theorem c_lock_00 {l : Launch} {X : vm_Cx} {G : List vm_Sh} {I : Nat → Nat → Int32} {F : Nat → Nat → UInt32} {p : Nat} {n : Nat} {e : Nat} (hD : vm_isD G) (hn : I (1 + 25 + 3 * p) 0 = nI n) (hp : p < 4) (hn2 : n ≤ 16) (he : e < n) (hl : ¬ I (1 + 27 + 3 * p) e = 1) : vm_K l X vm_M112 [.ref 0, .int (nI p), .int (nI e), .int 0] (G, I, F) (some (.int 0)) (G, (vm_up I (1 + 27 + 3 * p) e 0), F) := by
  refine vm_K.mk (by decide) (Nat.le_of_ble_eq_true rfl) ?_
  show vm_J _ _ _ (0, (0, 0), [.ref 0, .int (nI p), .int (nI e), .int 0, .retAddr 0, .retAddr 0], []) _ _ _
  refine vm_J.go vm_q112 (k := 3) (hs := [(12, 9, [.ref 1, .ref 38, .ref 75, .ref 112, .ref 132, .ref 135, .ref 139, .int 0, .int 0])]) (f' := (5, (0, 0), [.ref 0, .int (nI p), .int (nI e), .int 0, .retAddr 0, .retAddr 0], [.int (nI p), .ref 1])) (h' := (G, I, F)) (hs' := []) rfl (vm_b2 rfl (vm_b2 (vm_b2 (vm_hG hD.d) rfl) (vm_b2 rfl rfl))) ?_
  refine vm_J.call vm_q112 (Z := vm_M93) (n := 1) (k := 0) (mi := 93) (pc := 5) (en := (5, .invokevirtual 172, 3, [93, 619, 0], .null)) rfl trivial rfl rfl vm_z93 (av := [.ref 1, .int (nI p)]) (rest := []) (m_pal_n (B := 1) (p := p) hD.w1 (by omega)) ⟨_, _, rfl, rfl, _, 9, _, hD.w1.w, rfl, rfl, rfl⟩ (Nat.le_of_ble_eq_true rfl) ⟨Nat.le_of_ble_eq_true rfl, Nat.le_of_ble_eq_true rfl⟩ ⟨Nat.le_of_ble_eq_true rfl, Nat.le_of_ble_eq_true rfl⟩ ?_
  show vm_J _ _ _ (8, (0, 0), [.ref 0, .int (nI p), .int (nI e), .int 0, .retAddr 0, .retAddr 0], [.ref (1 + 25 + 3 * p)]) (G, I, F) _ _
  refine vm_J.go vm_q112 (k := 5) (hs := []) (f' := (18, (0, 0), [.ref 0, .int (nI p), .int (nI e), .int 0, .ref (1 + 25 + 3 * p), .retAddr 0], [.int (nI e), .ref (1 + 25 + 3 * p)])) (h' := (G, I, F)) (hs' := []) rfl rfl ?_
  refine vm_J.call vm_q112 (Z := vm_M21) (n := 1) (k := 0) (mi := 21) (pc := 18) (en := (18, .invokevirtual 192, 3, [21, 645, 0], .null)) rfl trivial rfl rfl vm_z21 (av := [.ref (1 + 25 + 3 * p), .int (nI e)]) (rest := []) (m_Pal_has_y (o := 1 + 25 + 3 * p) (a := 1 + 26 + 3 * p) (b := 1 + 27 + 3 * p) (e := nI e) (hD.w1.l p hp) (by rw [hn]; exact vm_en_n he hn2)) ⟨_, _, rfl, rfl, _, 2, _, (hD.w1.l p hp), rfl, rfl, rfl⟩ (Nat.le_of_ble_eq_true rfl) ⟨Nat.le_of_ble_eq_true rfl, Nat.le_of_ble_eq_true rfl⟩ ⟨Nat.le_of_ble_eq_true rfl, Nat.le_of_ble_eq_true rfl⟩ ?_
  show vm_J _ _ _ (21, (0, 0), [.ref 0, .int (nI p), .int (nI e), .int 0, .ref (1 + 25 + 3 * p), .retAddr 0], [.int 1]) (G, I, F) _ _
  refine vm_J.go vm_q112 (k := 1) (hs := []) (f' := (bif vm_ic .ne 1 0 then 26 else 24, (0, 0), [.ref 0, .int (nI p), .int (nI e), .int 0, .ref (1 + 25 + 3 * p), .retAddr 0], [])) (h' := (G, I, F)) (hs' := []) rfl rfl ?_
  refine vm_J.bT (by decide) ?_
  refine vm_J.go vm_q112 (k := 2) (hs := []) (f' := (29, (0, 0), [.ref 0, .int (nI p), .int (nI e), .int 0, .ref (1 + 25 + 3 * p), .retAddr 0], [.int (nI e), .ref (1 + 25 + 3 * p)])) (h' := (G, I, F)) (hs' := []) rfl rfl ?_
  refine vm_J.call vm_q112 (Z := vm_M24) (n := 1) (k := 0) (mi := 24) (pc := 29) (en := (29, .invokevirtual 198, 3, [24, 658, 0], .null)) rfl trivial rfl rfl vm_z24 (av := [.ref (1 + 25 + 3 * p), .int (nI e)]) (rest := []) (m_Pal_isLocked_n (o := 1 + 25 + 3 * p) (a := 1 + 26 + 3 * p) (b := 1 + 27 + 3 * p) (j := e) (hD.w1.l p hp) (hD.w1.k p hp) (by omega) hl) ⟨_, _, rfl, rfl, _, 2, _, (hD.w1.l p hp), rfl, rfl, rfl⟩ (Nat.le_of_ble_eq_true rfl) ⟨Nat.le_of_ble_eq_true rfl, Nat.le_of_ble_eq_true rfl⟩ ⟨Nat.le_of_ble_eq_true rfl, Nat.le_of_ble_eq_true rfl⟩ ?_
  show vm_J _ _ _ (32, (0, 0), [.ref 0, .int (nI p), .int (nI e), .int 0, .ref (1 + 25 + 3 * p), .retAddr 0], [.int 0]) (G, I, F) _ _
  refine vm_J.go vm_q112 (k := 1) (hs := []) (f' := (bif vm_ic .eq 0 0 then 39 else 35, (0, 0), [.ref 0, .int (nI p), .int (nI e), .int 0, .ref (1 + 25 + 3 * p), .retAddr 0], [])) (h' := (G, I, F)) (hs' := []) rfl rfl ?_
  refine vm_J.bT (by decide) ?_
  refine vm_J.go vm_q112 (k := 7) (hs := [(4, 3, [.int 0, .ref (1 + 26 + 3 * p), .ref (1 + 27 + 3 * p)])]) (f' := (bif vm_ic .eq 0 0 then 56 else 52, (0, 0), [.ref 0, .int (nI p), .int (nI e), .int 0, .ref (1 + 25 + 3 * p), .int 0], [.int (nI e), .ref (1 + 27 + 3 * p)])) (h' := (G, I, F)) (hs' := []) rfl (vm_b2 rfl (vm_b2 rfl (vm_b2 rfl (vm_b2 (vm_b2 (vm_hG (hD.w1.l p hp)) rfl) (vm_b2 rfl (vm_b2 rfl (vm_b2 rfl rfl))))))) ?_
  refine vm_J.bT (by decide) ?_
  refine vm_J.go vm_q112 (k := 1) (hs := []) (f' := (57, (0, 0), [.ref 0, .int (nI p), .int (nI e), .int 0, .ref (1 + 25 + 3 * p), .int 0], [.int 0, .int (nI e), .ref (1 + 27 + 3 * p)])) (h' := (G, I, F)) (hs' := []) rfl rfl ?_
  refine vm_J.call vm_q112 (Z := vm_M153) (n := 3) (k := 1) (mi := 153) (pc := 57) (en := (57, .invokestatic 92, 3, [153, 464, 0], .null)) rfl trivial rfl rfl vm_z153 (av := [.ref (1 + 27 + 3 * p), .int (nI e), .int 0]) (rest := []) (m_put_n (j := e) (v := 0) (hD.w1.k p hp) (by omega) (by omega)) rfl (Nat.le_of_ble_eq_true rfl) ⟨Nat.le_of_ble_eq_true rfl, Nat.le_of_ble_eq_true rfl⟩ ⟨Nat.le_of_ble_eq_true rfl, Nat.le_of_ble_eq_true rfl⟩ ?_
  show vm_J _ _ _ (60, (0, 0), [.ref 0, .int (nI p), .int (nI e), .int 0, .ref (1 + 25 + 3 * p), .int 0], []) (G, (vm_up I (1 + 27 + 3 * p) e 0), F) _ _
  refine vm_J.go vm_q112 (k := 1) (hs := []) (f' := (62, (0, 0), [.ref 0, .int (nI p), .int (nI e), .int 0, .ref (1 + 25 + 3 * p), .int 0], [.int 0])) (h' := (G, (vm_up I (1 + 27 + 3 * p) e 0), F)) (hs' := []) rfl rfl ?_
  exact vm_J.end vm_q112 (en := (62, .ireturn, 1, [], .null)) rfl rfl vm_rI (Nat.zero_le _) (Nat.zero_le _) rfl
set_option maxHeartbeats 4000000 in
set_option maxRecDepth 20000 in
/-- DitherDesk.lock -/
theorem c_lock_11 {l : Launch} {X : vm_Cx} {G : List vm_Sh} {I : Nat → Nat → Int32} {F : Nat → Nat → UInt32} {p : Nat} {n : Nat} {e : Nat} (hD : vm_isD G) (hn : I (1 + 25 + 3 * p) 0 = nI n) (hp : p < 4) (hn2 : n ≤ 16) (he : e < n) (hl : I (1 + 27 + 3 * p) e = 1) : vm_K l X vm_M112 [.ref 0, .int (nI p), .int (nI e), .int 1] (G, I, F) (some (.int 1)) (G, (vm_up I (1 + 27 + 3 * p) e 1), F) := by
  refine vm_K.mk (by decide) (Nat.le_of_ble_eq_true rfl) ?_
  show vm_J _ _ _ (0, (0, 0), [.ref 0, .int (nI p), .int (nI e), .int 1, .retAddr 0, .retAddr 0], []) _ _ _
  refine vm_J.go vm_q112 (k := 3) (hs := [(12, 9, [.ref 1, .ref 38, .ref 75, .ref 112, .ref 132, .ref 135, .ref 139, .int 0, .int 0])]) (f' := (5, (0, 0), [.ref 0, .int (nI p), .int (nI e), .int 1, .retAddr 0, .retAddr 0], [.int (nI p), .ref 1])) (h' := (G, I, F)) (hs' := []) rfl (vm_b2 rfl (vm_b2 (vm_b2 (vm_hG hD.d) rfl) (vm_b2 rfl rfl))) ?_
  refine vm_J.call vm_q112 (Z := vm_M93) (n := 1) (k := 0) (mi := 93) (pc := 5) (en := (5, .invokevirtual 172, 3, [93, 619, 0], .null)) rfl trivial rfl rfl vm_z93 (av := [.ref 1, .int (nI p)]) (rest := []) (m_pal_n (B := 1) (p := p) hD.w1 (by omega)) ⟨_, _, rfl, rfl, _, 9, _, hD.w1.w, rfl, rfl, rfl⟩ (Nat.le_of_ble_eq_true rfl) ⟨Nat.le_of_ble_eq_true rfl, Nat.le_of_ble_eq_true rfl⟩ ⟨Nat.le_of_ble_eq_true rfl, Nat.le_of_ble_eq_true rfl⟩ ?_
  show vm_J _ _ _ (8, (0, 0), [.ref 0, .int (nI p), .int (nI e), .int 1, .retAddr 0, .retAddr 0], [.ref (1 + 25 + 3 * p)]) (G, I, F) _ _
  refine vm_J.go vm_q112 (k := 5) (hs := []) (f' := (18, (0, 0), [.ref 0, .int (nI p), .int (nI e), .int 1, .ref (1 + 25 + 3 * p), .retAddr 0], [.int (nI e), .ref (1 + 25 + 3 * p)])) (h' := (G, I, F)) (hs' := []) rfl rfl ?_
  refine vm_J.call vm_q112 (Z := vm_M21) (n := 1) (k := 0) (mi := 21) (pc := 18) (en := (18, .invokevirtual 192, 3, [21, 645, 0], .null)) rfl trivial rfl rfl vm_z21 (av := [.ref (1 + 25 + 3 * p), .int (nI e)]) (rest := []) (m_Pal_has_y (o := 1 + 25 + 3 * p) (a := 1 + 26 + 3 * p) (b := 1 + 27 + 3 * p) (e := nI e) (hD.w1.l p hp) (by rw [hn]; exact vm_en_n he hn2)) ⟨_, _, rfl, rfl, _, 2, _, (hD.w1.l p hp), rfl, rfl, rfl⟩ (Nat.le_of_ble_eq_true rfl) ⟨Nat.le_of_ble_eq_true rfl, Nat.le_of_ble_eq_true rfl⟩ ⟨Nat.le_of_ble_eq_true rfl, Nat.le_of_ble_eq_true rfl⟩ ?_
  show vm_J _ _ _ (21, (0, 0), [.ref 0, .int (nI p), .int (nI e), .int 1, .ref (1 + 25 + 3 * p), .retAddr 0], [.int 1]) (G, I, F) _ _
  refine vm_J.go vm_q112 (k := 1) (hs := []) (f' := (bif vm_ic .ne 1 0 then 26 else 24, (0, 0), [.ref 0, .int (nI p), .int (nI e), .int 1, .ref (1 + 25 + 3 * p), .retAddr 0], [])) (h' := (G, I, F)) (hs' := []) rfl rfl ?_
  refine vm_J.bT (by decide) ?_
  refine vm_J.go vm_q112 (k := 2) (hs := []) (f' := (29, (0, 0), [.ref 0, .int (nI p), .int (nI e), .int 1, .ref (1 + 25 + 3 * p), .retAddr 0], [.int (nI e), .ref (1 + 25 + 3 * p)])) (h' := (G, I, F)) (hs' := []) rfl rfl ?_
  refine vm_J.call vm_q112 (Z := vm_M24) (n := 1) (k := 0) (mi := 24) (pc := 29) (en := (29, .invokevirtual 198, 3, [24, 658, 0], .null)) rfl trivial rfl rfl vm_z24 (av := [.ref (1 + 25 + 3 * p), .int (nI e)]) (rest := []) (m_Pal_isLocked_y (o := 1 + 25 + 3 * p) (a := 1 + 26 + 3 * p) (b := 1 + 27 + 3 * p) (j := e) (hD.w1.l p hp) (hD.w1.k p hp) (by omega) hl) ⟨_, _, rfl, rfl, _, 2, _, (hD.w1.l p hp), rfl, rfl, rfl⟩ (Nat.le_of_ble_eq_true rfl) ⟨Nat.le_of_ble_eq_true rfl, Nat.le_of_ble_eq_true rfl⟩ ⟨Nat.le_of_ble_eq_true rfl, Nat.le_of_ble_eq_true rfl⟩ ?_
  show vm_J _ _ _ (32, (0, 0), [.ref 0, .int (nI p), .int (nI e), .int 1, .ref (1 + 25 + 3 * p), .retAddr 0], [.int 1]) (G, I, F) _ _
  refine vm_J.go vm_q112 (k := 1) (hs := []) (f' := (bif vm_ic .eq 1 0 then 39 else 35, (0, 0), [.ref 0, .int (nI p), .int (nI e), .int 1, .ref (1 + 25 + 3 * p), .retAddr 0], [])) (h' := (G, I, F)) (hs' := []) rfl rfl ?_
  refine vm_J.bF (by decide) ?_
  refine vm_J.go vm_q112 (k := 8) (hs := [(4, 3, [.int 0, .ref (1 + 26 + 3 * p), .ref (1 + 27 + 3 * p)])]) (f' := (bif vm_ic .eq 1 0 then 56 else 52, (0, 0), [.ref 0, .int (nI p), .int (nI e), .int 1, .ref (1 + 25 + 3 * p), .int 1], [.int (nI e), .ref (1 + 27 + 3 * p)])) (h' := (G, I, F)) (hs' := []) rfl (vm_b2 rfl (vm_b2 rfl (vm_b2 rfl (vm_b2 rfl (vm_b2 (vm_b2 (vm_hG (hD.w1.l p hp)) rfl) (vm_b2 rfl (vm_b2 rfl (vm_b2 rfl rfl)))))))) ?_
  refine vm_J.bF (by decide) ?_
  refine vm_J.go vm_q112 (k := 2) (hs := []) (f' := (57, (0, 0), [.ref 0, .int (nI p), .int (nI e), .int 1, .ref (1 + 25 + 3 * p), .int 1], [.int 1, .int (nI e), .ref (1 + 27 + 3 * p)])) (h' := (G, I, F)) (hs' := []) rfl rfl ?_
  refine vm_J.call vm_q112 (Z := vm_M153) (n := 3) (k := 1) (mi := 153) (pc := 57) (en := (57, .invokestatic 92, 3, [153, 464, 0], .null)) rfl trivial rfl rfl vm_z153 (av := [.ref (1 + 27 + 3 * p), .int (nI e), .int 1]) (rest := []) (m_put_n (j := e) (v := 1) (hD.w1.k p hp) (by omega) (by omega)) rfl (Nat.le_of_ble_eq_true rfl) ⟨Nat.le_of_ble_eq_true rfl, Nat.le_of_ble_eq_true rfl⟩ ⟨Nat.le_of_ble_eq_true rfl, Nat.le_of_ble_eq_true rfl⟩ ?_
  show vm_J _ _ _ (60, (0, 0), [.ref 0, .int (nI p), .int (nI e), .int 1, .ref (1 + 25 + 3 * p), .int 1], []) (G, (vm_up I (1 + 27 + 3 * p) e 1), F) _ _
  refine vm_J.go vm_q112 (k := 1) (hs := []) (f' := (62, (0, 0), [.ref 0, .int (nI p), .int (nI e), .int 1, .ref (1 + 25 + 3 * p), .int 1], [.int 1])) (h' := (G, (vm_up I (1 + 27 + 3 * p) e 1), F)) (hs' := []) rfl rfl ?_
  exact vm_J.end vm_q112 (en := (62, .ireturn, 1, [], .null)) rfl rfl vm_rI (Nat.zero_le _) (Nat.zero_le _) rfl
set_option maxHeartbeats 4000000 in
set_option maxRecDepth 20000 in
/-- DitherDesk.lock -/
theorem c_lock_10 {l : Launch} {X : vm_Cx} {G : List vm_Sh} {I : Nat → Nat → Int32} {F : Nat → Nat → UInt32} {p : Nat} {n : Nat} {e : Nat} (hD : vm_isD G) (hn : I (1 + 25 + 3 * p) 0 = nI n) (hp : p < 4) (hn2 : n ≤ 16) (he : e < n) (hl : ¬ I (1 + 27 + 3 * p) e = 1) : vm_K l X vm_M112 [.ref 0, .int (nI p), .int (nI e), .int 1] (G, I, F) (some (.int 0)) (G, (vm_up I (1 + 27 + 3 * p) e 1), F) := by
  refine vm_K.mk (by decide) (Nat.le_of_ble_eq_true rfl) ?_
  show vm_J _ _ _ (0, (0, 0), [.ref 0, .int (nI p), .int (nI e), .int 1, .retAddr 0, .retAddr 0], []) _ _ _
  refine vm_J.go vm_q112 (k := 3) (hs := [(12, 9, [.ref 1, .ref 38, .ref 75, .ref 112, .ref 132, .ref 135, .ref 139, .int 0, .int 0])]) (f' := (5, (0, 0), [.ref 0, .int (nI p), .int (nI e), .int 1, .retAddr 0, .retAddr 0], [.int (nI p), .ref 1])) (h' := (G, I, F)) (hs' := []) rfl (vm_b2 rfl (vm_b2 (vm_b2 (vm_hG hD.d) rfl) (vm_b2 rfl rfl))) ?_
  refine vm_J.call vm_q112 (Z := vm_M93) (n := 1) (k := 0) (mi := 93) (pc := 5) (en := (5, .invokevirtual 172, 3, [93, 619, 0], .null)) rfl trivial rfl rfl vm_z93 (av := [.ref 1, .int (nI p)]) (rest := []) (m_pal_n (B := 1) (p := p) hD.w1 (by omega)) ⟨_, _, rfl, rfl, _, 9, _, hD.w1.w, rfl, rfl, rfl⟩ (Nat.le_of_ble_eq_true rfl) ⟨Nat.le_of_ble_eq_true rfl, Nat.le_of_ble_eq_true rfl⟩ ⟨Nat.le_of_ble_eq_true rfl, Nat.le_of_ble_eq_true rfl⟩ ?_
  show vm_J _ _ _ (8, (0, 0), [.ref 0, .int (nI p), .int (nI e), .int 1, .retAddr 0, .retAddr 0], [.ref (1 + 25 + 3 * p)]) (G, I, F) _ _
  refine vm_J.go vm_q112 (k := 5) (hs := []) (f' := (18, (0, 0), [.ref 0, .int (nI p), .int (nI e), .int 1, .ref (1 + 25 + 3 * p), .retAddr 0], [.int (nI e), .ref (1 + 25 + 3 * p)])) (h' := (G, I, F)) (hs' := []) rfl rfl ?_
  refine vm_J.call vm_q112 (Z := vm_M21) (n := 1) (k := 0) (mi := 21) (pc := 18) (en := (18, .invokevirtual 192, 3, [21, 645, 0], .null)) rfl trivial rfl rfl vm_z21 (av := [.ref (1 + 25 + 3 * p), .int (nI e)]) (rest := []) (m_Pal_has_y (o := 1 + 25 + 3 * p) (a := 1 + 26 + 3 * p) (b := 1 + 27 + 3 * p) (e := nI e) (hD.w1.l p hp) (by rw [hn]; exact vm_en_n he hn2)) ⟨_, _, rfl, rfl, _, 2, _, (hD.w1.l p hp), rfl, rfl, rfl⟩ (Nat.le_of_ble_eq_true rfl) ⟨Nat.le_of_ble_eq_true rfl, Nat.le_of_ble_eq_true rfl⟩ ⟨Nat.le_of_ble_eq_true rfl, Nat.le_of_ble_eq_true rfl⟩ ?_
  show vm_J _ _ _ (21, (0, 0), [.ref 0, .int (nI p), .int (nI e), .int 1, .ref (1 + 25 + 3 * p), .retAddr 0], [.int 1]) (G, I, F) _ _
  refine vm_J.go vm_q112 (k := 1) (hs := []) (f' := (bif vm_ic .ne 1 0 then 26 else 24, (0, 0), [.ref 0, .int (nI p), .int (nI e), .int 1, .ref (1 + 25 + 3 * p), .retAddr 0], [])) (h' := (G, I, F)) (hs' := []) rfl rfl ?_
  refine vm_J.bT (by decide) ?_
  refine vm_J.go vm_q112 (k := 2) (hs := []) (f' := (29, (0, 0), [.ref 0, .int (nI p), .int (nI e), .int 1, .ref (1 + 25 + 3 * p), .retAddr 0], [.int (nI e), .ref (1 + 25 + 3 * p)])) (h' := (G, I, F)) (hs' := []) rfl rfl ?_
  refine vm_J.call vm_q112 (Z := vm_M24) (n := 1) (k := 0) (mi := 24) (pc := 29) (en := (29, .invokevirtual 198, 3, [24, 658, 0], .null)) rfl trivial rfl rfl vm_z24 (av := [.ref (1 + 25 + 3 * p), .int (nI e)]) (rest := []) (m_Pal_isLocked_n (o := 1 + 25 + 3 * p) (a := 1 + 26 + 3 * p) (b := 1 + 27 + 3 * p) (j := e) (hD.w1.l p hp) (hD.w1.k p hp) (by omega) hl) ⟨_, _, rfl, rfl, _, 2, _, (hD.w1.l p hp), rfl, rfl, rfl⟩ (Nat.le_of_ble_eq_true rfl) ⟨Nat.le_of_ble_eq_true rfl, Nat.le_of_ble_eq_true rfl⟩ ⟨Nat.le_of_ble_eq_true rfl, Nat.le_of_ble_eq_true rfl⟩ ?_
  show vm_J _ _ _ (32, (0, 0), [.ref 0, .int (nI p), .int (nI e), .int 1, .ref (1 + 25 + 3 * p), .retAddr 0], [.int 0]) (G, I, F) _ _
  refine vm_J.go vm_q112 (k := 1) (hs := []) (f' := (bif vm_ic .eq 0 0 then 39 else 35, (0, 0), [.ref 0, .int (nI p), .int (nI e), .int 1, .ref (1 + 25 + 3 * p), .retAddr 0], [])) (h' := (G, I, F)) (hs' := []) rfl rfl ?_
  refine vm_J.bT (by decide) ?_
  refine vm_J.go vm_q112 (k := 7) (hs := [(4, 3, [.int 0, .ref (1 + 26 + 3 * p), .ref (1 + 27 + 3 * p)])]) (f' := (bif vm_ic .eq 1 0 then 56 else 52, (0, 0), [.ref 0, .int (nI p), .int (nI e), .int 1, .ref (1 + 25 + 3 * p), .int 0], [.int (nI e), .ref (1 + 27 + 3 * p)])) (h' := (G, I, F)) (hs' := []) rfl (vm_b2 rfl (vm_b2 rfl (vm_b2 rfl (vm_b2 (vm_b2 (vm_hG (hD.w1.l p hp)) rfl) (vm_b2 rfl (vm_b2 rfl (vm_b2 rfl rfl))))))) ?_
  refine vm_J.bF (by decide) ?_
  refine vm_J.go vm_q112 (k := 2) (hs := []) (f' := (57, (0, 0), [.ref 0, .int (nI p), .int (nI e), .int 1, .ref (1 + 25 + 3 * p), .int 0], [.int 1, .int (nI e), .ref (1 + 27 + 3 * p)])) (h' := (G, I, F)) (hs' := []) rfl rfl ?_
  refine vm_J.call vm_q112 (Z := vm_M153) (n := 3) (k := 1) (mi := 153) (pc := 57) (en := (57, .invokestatic 92, 3, [153, 464, 0], .null)) rfl trivial rfl rfl vm_z153 (av := [.ref (1 + 27 + 3 * p), .int (nI e), .int 1]) (rest := []) (m_put_n (j := e) (v := 1) (hD.w1.k p hp) (by omega) (by omega)) rfl (Nat.le_of_ble_eq_true rfl) ⟨Nat.le_of_ble_eq_true rfl, Nat.le_of_ble_eq_true rfl⟩ ⟨Nat.le_of_ble_eq_true rfl, Nat.le_of_ble_eq_true rfl⟩ ?_
  show vm_J _ _ _ (60, (0, 0), [.ref 0, .int (nI p), .int (nI e), .int 1, .ref (1 + 25 + 3 * p), .int 0], []) (G, (vm_up I (1 + 27 + 3 * p) e 1), F) _ _
  refine vm_J.go vm_q112 (k := 1) (hs := []) (f' := (62, (0, 0), [.ref 0, .int (nI p), .int (nI e), .int 1, .ref (1 + 25 + 3 * p), .int 0], [.int 0])) (h' := (G, (vm_up I (1 + 27 + 3 * p) e 1), F)) (hs' := []) rfl rfl ?_
  exact vm_J.end vm_q112 (en := (62, .ireturn, 1, [], .null)) rfl rfl vm_rI (Nat.zero_le _) (Nat.zero_le _) rfl
set_option maxHeartbeats 4000000 in
set_option maxRecDepth 20000 in
/-- DitherDesk.told -/
theorem c_told_b {l : Launch} {X : vm_Cx} {G : List vm_Sh} {I : Nat → Nat → Int32} {F : Nat → Nat → UInt32} {p : Nat} {n : Nat} {e : Nat} {c : Int32} (hD : vm_isD G) (hn : I (1 + 25 + 3 * p) 0 = nI n) (hp : p < 4) (hn2 : n ≤ 16) (he : e < n) (hk : ¬ (0 ≤ c ∧ c ≤ 4)) : vm_K l X vm_M113 [.ref 0, .int (nI p), .int (nI e), .int c] (G, I, F) (some (.int (-1))) (G, I, F) := by
  refine vm_K.mk (by decide) (Nat.le_of_ble_eq_true rfl) ?_
  show vm_J _ _ _ (0, (0, 0), [.ref 0, .int (nI p), .int (nI e), .int c, .retAddr 0], []) _ _ _
  refine vm_J.go vm_q113 (k := 3) (hs := [(12, 9, [.ref 1, .ref 38, .ref 75, .ref 112, .ref 132, .ref 135, .ref 139, .int 0, .int 0])]) (f' := (5, (0, 0), [.ref 0, .int (nI p), .int (nI e), .int c, .retAddr 0], [.int (nI p), .ref 1])) (h' := (G, I, F)) (hs' := []) rfl (vm_b2 rfl (vm_b2 (vm_b2 (vm_hG hD.d) rfl) (vm_b2 rfl rfl))) ?_
  refine vm_J.call vm_q113 (Z := vm_M93) (n := 1) (k := 0) (mi := 93) (pc := 5) (en := (5, .invokevirtual 172, 3, [93, 619, 0], .null)) rfl trivial rfl rfl vm_z93 (av := [.ref 1, .int (nI p)]) (rest := []) (m_pal_n (B := 1) (p := p) hD.w1 (by omega)) ⟨_, _, rfl, rfl, _, 9, _, hD.w1.w, rfl, rfl, rfl⟩ (Nat.le_of_ble_eq_true rfl) ⟨Nat.le_of_ble_eq_true rfl, Nat.le_of_ble_eq_true rfl⟩ ⟨Nat.le_of_ble_eq_true rfl, Nat.le_of_ble_eq_true rfl⟩ ?_
  show vm_J _ _ _ (8, (0, 0), [.ref 0, .int (nI p), .int (nI e), .int c, .retAddr 0], [.ref (1 + 25 + 3 * p)]) (G, I, F) _ _
  refine vm_J.go vm_q113 (k := 5) (hs := []) (f' := (18, (0, 0), [.ref 0, .int (nI p), .int (nI e), .int c, .ref (1 + 25 + 3 * p)], [.int (nI e), .ref (1 + 25 + 3 * p)])) (h' := (G, I, F)) (hs' := []) rfl rfl ?_
  refine vm_J.call vm_q113 (Z := vm_M21) (n := 1) (k := 0) (mi := 21) (pc := 18) (en := (18, .invokevirtual 192, 3, [21, 645, 0], .null)) rfl trivial rfl rfl vm_z21 (av := [.ref (1 + 25 + 3 * p), .int (nI e)]) (rest := []) (m_Pal_has_y (o := 1 + 25 + 3 * p) (a := 1 + 26 + 3 * p) (b := 1 + 27 + 3 * p) (e := nI e) (hD.w1.l p hp) (by rw [hn]; exact vm_en_n he hn2)) ⟨_, _, rfl, rfl, _, 2, _, (hD.w1.l p hp), rfl, rfl, rfl⟩ (Nat.le_of_ble_eq_true rfl) ⟨Nat.le_of_ble_eq_true rfl, Nat.le_of_ble_eq_true rfl⟩ ⟨Nat.le_of_ble_eq_true rfl, Nat.le_of_ble_eq_true rfl⟩ ?_
  show vm_J _ _ _ (21, (0, 0), [.ref 0, .int (nI p), .int (nI e), .int c, .ref (1 + 25 + 3 * p)], [.int 1]) (G, I, F) _ _
  refine vm_J.go vm_q113 (k := 1) (hs := []) (f' := (bif vm_ic .eq 1 0 then 33 else 24, (0, 0), [.ref 0, .int (nI p), .int (nI e), .int c, .ref (1 + 25 + 3 * p)], [])) (h' := (G, I, F)) (hs' := []) rfl rfl ?_
  refine vm_J.bF (by decide) ?_
  refine vm_J.go vm_q113 (k := 3) (hs := []) (f' := (27, (0, 0), [.ref 0, .int (nI p), .int (nI e), .int c, .ref (1 + 25 + 3 * p)], [.int 4, .int 0, .int c])) (h' := (G, I, F)) (hs' := []) rfl rfl ?_
  refine vm_J.call vm_q113 (Z := vm_M151) (n := 3) (k := 1) (mi := 151) (pc := 27) (en := (27, .invokestatic 56, 3, [151, 420, 0], .null)) rfl trivial rfl rfl vm_z151 (av := [.int c, .int 0, .int 4]) (rest := []) (m_isWithin_n (v := c) (a := 0) (b := 4) hk) rfl (Nat.le_of_ble_eq_true rfl) ⟨Nat.le_of_ble_eq_true rfl, Nat.le_of_ble_eq_true rfl⟩ ⟨Nat.le_of_ble_eq_true rfl, Nat.le_of_ble_eq_true rfl⟩ ?_
  show vm_J _ _ _ (30, (0, 0), [.ref 0, .int (nI p), .int (nI e), .int c, .ref (1 + 25 + 3 * p)], [.int 0]) (G, I, F) _ _
  refine vm_J.go vm_q113 (k := 1) (hs := []) (f' := (bif vm_ic .ne 0 0 then 35 else 33, (0, 0), [.ref 0, .int (nI p), .int (nI e), .int c, .ref (1 + 25 + 3 * p)], [])) (h' := (G, I, F)) (hs' := []) rfl rfl ?_
  refine vm_J.bF (by decide) ?_
  refine vm_J.go vm_q113 (k := 1) (hs := []) (f' := (34, (0, 0), [.ref 0, .int (nI p), .int (nI e), .int c, .ref (1 + 25 + 3 * p)], [.int (-1)])) (h' := (G, I, F)) (hs' := []) rfl rfl ?_
  exact vm_J.end vm_q113 (en := (34, .ireturn, 1, [], .null)) rfl rfl vm_rI (Nat.zero_le _) (Nat.zero_le _) rfl
set_option maxHeartbeats 4000000 in
set_option maxRecDepth 20000 in
/-- DitherDesk.told -/
theorem c_told_0 {l : Launch} {X : vm_Cx} {G : List vm_Sh} {I : Nat → Nat → Int32} {F : Nat → Nat → UInt32} {p : Nat} {n : Nat} {e : Nat} (hD : vm_isD G) (hn : I (1 + 25 + 3 * p) 0 = nI n) (hp : p < 4) (hn2 : n ≤ 16) (he : e < n) : vm_K l X vm_M113 [.ref 0, .int (nI p), .int (nI e), .int 0] (G, I, F) (some (.int (I (1 + 26 + 3 * p) e))) (G, I, F) := by
  refine vm_K.mk (by decide) (Nat.le_of_ble_eq_true rfl) ?_
  show vm_J _ _ _ (0, (0, 0), [.ref 0, .int (nI p), .int (nI e), .int 0, .retAddr 0], []) _ _ _
  refine vm_J.go vm_q113 (k := 3) (hs := [(12, 9, [.ref 1, .ref 38, .ref 75, .ref 112, .ref 132, .ref 135, .ref 139, .int 0, .int 0])]) (f' := (5, (0, 0), [.ref 0, .int (nI p), .int (nI e), .int 0, .retAddr 0], [.int (nI p), .ref 1])) (h' := (G, I, F)) (hs' := []) rfl (vm_b2 rfl (vm_b2 (vm_b2 (vm_hG hD.d) rfl) (vm_b2 rfl rfl))) ?_
  refine vm_J.call vm_q113 (Z := vm_M93) (n := 1) (k := 0) (mi := 93) (pc := 5) (en := (5, .invokevirtual 172, 3, [93, 619, 0], .null)) rfl trivial rfl rfl vm_z93 (av := [.ref 1, .int (nI p)]) (rest := []) (m_pal_n (B := 1) (p := p) hD.w1 (by omega)) ⟨_, _, rfl, rfl, _, 9, _, hD.w1.w, rfl, rfl, rfl⟩ (Nat.le_of_ble_eq_true rfl) ⟨Nat.le_of_ble_eq_true rfl, Nat.le_of_ble_eq_true rfl⟩ ⟨Nat.le_of_ble_eq_true rfl, Nat.le_of_ble_eq_true rfl⟩ ?_
  show vm_J _ _ _ (8, (0, 0), [.ref 0, .int (nI p), .int (nI e), .int 0, .retAddr 0], [.ref (1 + 25 + 3 * p)]) (G, I, F) _ _
  refine vm_J.go vm_q113 (k := 5) (hs := []) (f' := (18, (0, 0), [.ref 0, .int (nI p), .int (nI e), .int 0, .ref (1 + 25 + 3 * p)], [.int (nI e), .ref (1 + 25 + 3 * p)])) (h' := (G, I, F)) (hs' := []) rfl rfl ?_
  refine vm_J.call vm_q113 (Z := vm_M21) (n := 1) (k := 0) (mi := 21) (pc := 18) (en := (18, .invokevirtual 192, 3, [21, 645, 0], .null)) rfl trivial rfl rfl vm_z21 (av := [.ref (1 + 25 + 3 * p), .int (nI e)]) (rest := []) (m_Pal_has_y (o := 1 + 25 + 3 * p) (a := 1 + 26 + 3 * p) (b := 1 + 27 + 3 * p) (e := nI e) (hD.w1.l p hp) (by rw [hn]; exact vm_en_n he hn2)) ⟨_, _, rfl, rfl, _, 2, _, (hD.w1.l p hp), rfl, rfl, rfl⟩ (Nat.le_of_ble_eq_true rfl) ⟨Nat.le_of_ble_eq_true rfl, Nat.le_of_ble_eq_true rfl⟩ ⟨Nat.le_of_ble_eq_true rfl, Nat.le_of_ble_eq_true rfl⟩ ?_
  show vm_J _ _ _ (21, (0, 0), [.ref 0, .int (nI p), .int (nI e), .int 0, .ref (1 + 25 + 3 * p)], [.int 1]) (G, I, F) _ _
  refine vm_J.go vm_q113 (k := 1) (hs := []) (f' := (bif vm_ic .eq 1 0 then 33 else 24, (0, 0), [.ref 0, .int (nI p), .int (nI e), .int 0, .ref (1 + 25 + 3 * p)], [])) (h' := (G, I, F)) (hs' := []) rfl rfl ?_
  refine vm_J.bF (by decide) ?_
  refine vm_J.go vm_q113 (k := 3) (hs := []) (f' := (27, (0, 0), [.ref 0, .int (nI p), .int (nI e), .int 0, .ref (1 + 25 + 3 * p)], [.int 4, .int 0, .int 0])) (h' := (G, I, F)) (hs' := []) rfl rfl ?_
  refine vm_J.call vm_q113 (Z := vm_M151) (n := 3) (k := 1) (mi := 151) (pc := 27) (en := (27, .invokestatic 56, 3, [151, 420, 0], .null)) rfl trivial rfl rfl vm_z151 (av := [.int 0, .int 0, .int 4]) (rest := []) (m_isWithin_y (v := 0) (a := 0) (b := 4) (by decide)) rfl (Nat.le_of_ble_eq_true rfl) ⟨Nat.le_of_ble_eq_true rfl, Nat.le_of_ble_eq_true rfl⟩ ⟨Nat.le_of_ble_eq_true rfl, Nat.le_of_ble_eq_true rfl⟩ ?_
  show vm_J _ _ _ (30, (0, 0), [.ref 0, .int (nI p), .int (nI e), .int 0, .ref (1 + 25 + 3 * p)], [.int 1]) (G, I, F) _ _
  refine vm_J.go vm_q113 (k := 1) (hs := []) (f' := (bif vm_ic .ne 1 0 then 35 else 33, (0, 0), [.ref 0, .int (nI p), .int (nI e), .int 0, .ref (1 + 25 + 3 * p)], [])) (h' := (G, I, F)) (hs' := []) rfl rfl ?_
  refine vm_J.bT (by decide) ?_
  refine vm_J.go vm_q113 (k := 4) (hs := []) (f' := (67, (0, 0), [.ref 0, .int (nI p), .int (nI e), .int 0, .ref (1 + 25 + 3 * p)], [.int (nI e), .ref (1 + 25 + 3 * p)])) (h' := (G, I, F)) (hs' := []) rfl rfl ?_
  refine vm_J.call vm_q113 (Z := vm_M23) (n := 1) (k := 0) (mi := 23) (pc := 67) (en := (67, .invokevirtual 201, 3, [23, 662, 0], .null)) rfl trivial rfl rfl vm_z23 (av := [.ref (1 + 25 + 3 * p), .int (nI e)]) (rest := []) (m_Pal_colourOf (o := 1 + 25 + 3 * p) (a := 1 + 26 + 3 * p) (b := 1 + 27 + 3 * p) (j := e) (hD.w1.l p hp) (hD.w1.c p hp) (by omega)) ⟨_, _, rfl, rfl, _, 2, _, (hD.w1.l p hp), rfl, rfl, rfl⟩ (Nat.le_of_ble_eq_true rfl) ⟨Nat.le_of_ble_eq_true rfl, Nat.le_of_ble_eq_true rfl⟩ ⟨Nat.le_of_ble_eq_true rfl, Nat.le_of_ble_eq_true rfl⟩ ?_
  show vm_J _ _ _ (70, (0, 0), [.ref 0, .int (nI p), .int (nI e), .int 0, .ref (1 + 25 + 3 * p)], [.int (I (1 + 26 + 3 * p) e)]) (G, I, F) _ _
  exact vm_J.end vm_q113 (en := (70, .ireturn, 1, [], .null)) rfl rfl vm_rI (Nat.zero_le _) (Nat.zero_le _) rfl
set_option maxHeartbeats 4000000 in
set_option maxRecDepth 20000 in
/-- DitherDesk.told -/
theorem c_told_2 {l : Launch} {X : vm_Cx} {G : List vm_Sh} {I : Nat → Nat → Int32} {F : Nat → Nat → UInt32} {p : Nat} {n : Nat} {e : Nat} (hD : vm_isD G) (hn : I (1 + 25 + 3 * p) 0 = nI n) (hp : p < 4) (hn2 : n ≤ 16) (he : e < n) : vm_K l X vm_M113 [.ref 0, .int (nI p), .int (nI e), .int 2] (G, I, F) (some (.int (sp_ch (I (1 + 26 + 3 * p) e) 0))) (G, I, F) := by
  refine vm_K.mk (by decide) (Nat.le_of_ble_eq_true rfl) ?_
  show vm_J _ _ _ (0, (0, 0), [.ref 0, .int (nI p), .int (nI e), .int 2, .retAddr 0], []) _ _ _
  refine vm_J.go vm_q113 (k := 3) (hs := [(12, 9, [.ref 1, .ref 38, .ref 75, .ref 112, .ref 132, .ref 135, .ref 139, .int 0, .int 0])]) (f' := (5, (0, 0), [.ref 0, .int (nI p), .int (nI e), .int 2, .retAddr 0], [.int (nI p), .ref 1])) (h' := (G, I, F)) (hs' := []) rfl (vm_b2 rfl (vm_b2 (vm_b2 (vm_hG hD.d) rfl) (vm_b2 rfl rfl))) ?_
  refine vm_J.call vm_q113 (Z := vm_M93) (n := 1) (k := 0) (mi := 93) (pc := 5) (en := (5, .invokevirtual 172, 3, [93, 619, 0], .null)) rfl trivial rfl rfl vm_z93 (av := [.ref 1, .int (nI p)]) (rest := []) (m_pal_n (B := 1) (p := p) hD.w1 (by omega)) ⟨_, _, rfl, rfl, _, 9, _, hD.w1.w, rfl, rfl, rfl⟩ (Nat.le_of_ble_eq_true rfl) ⟨Nat.le_of_ble_eq_true rfl, Nat.le_of_ble_eq_true rfl⟩ ⟨Nat.le_of_ble_eq_true rfl, Nat.le_of_ble_eq_true rfl⟩ ?_
  show vm_J _ _ _ (8, (0, 0), [.ref 0, .int (nI p), .int (nI e), .int 2, .retAddr 0], [.ref (1 + 25 + 3 * p)]) (G, I, F) _ _
  refine vm_J.go vm_q113 (k := 5) (hs := []) (f' := (18, (0, 0), [.ref 0, .int (nI p), .int (nI e), .int 2, .ref (1 + 25 + 3 * p)], [.int (nI e), .ref (1 + 25 + 3 * p)])) (h' := (G, I, F)) (hs' := []) rfl rfl ?_
  refine vm_J.call vm_q113 (Z := vm_M21) (n := 1) (k := 0) (mi := 21) (pc := 18) (en := (18, .invokevirtual 192, 3, [21, 645, 0], .null)) rfl trivial rfl rfl vm_z21 (av := [.ref (1 + 25 + 3 * p), .int (nI e)]) (rest := []) (m_Pal_has_y (o := 1 + 25 + 3 * p) (a := 1 + 26 + 3 * p) (b := 1 + 27 + 3 * p) (e := nI e) (hD.w1.l p hp) (by rw [hn]; exact vm_en_n he hn2)) ⟨_, _, rfl, rfl, _, 2, _, (hD.w1.l p hp), rfl, rfl, rfl⟩ (Nat.le_of_ble_eq_true rfl) ⟨Nat.le_of_ble_eq_true rfl, Nat.le_of_ble_eq_true rfl⟩ ⟨Nat.le_of_ble_eq_true rfl, Nat.le_of_ble_eq_true rfl⟩ ?_
  show vm_J _ _ _ (21, (0, 0), [.ref 0, .int (nI p), .int (nI e), .int 2, .ref (1 + 25 + 3 * p)], [.int 1]) (G, I, F) _ _
  refine vm_J.go vm_q113 (k := 1) (hs := []) (f' := (bif vm_ic .eq 1 0 then 33 else 24, (0, 0), [.ref 0, .int (nI p), .int (nI e), .int 2, .ref (1 + 25 + 3 * p)], [])) (h' := (G, I, F)) (hs' := []) rfl rfl ?_
  refine vm_J.bF (by decide) ?_
  refine vm_J.go vm_q113 (k := 3) (hs := []) (f' := (27, (0, 0), [.ref 0, .int (nI p), .int (nI e), .int 2, .ref (1 + 25 + 3 * p)], [.int 4, .int 0, .int 2])) (h' := (G, I, F)) (hs' := []) rfl rfl ?_
  refine vm_J.call vm_q113 (Z := vm_M151) (n := 3) (k := 1) (mi := 151) (pc := 27) (en := (27, .invokestatic 56, 3, [151, 420, 0], .null)) rfl trivial rfl rfl vm_z151 (av := [.int 2, .int 0, .int 4]) (rest := []) (m_isWithin_y (v := 2) (a := 0) (b := 4) (by decide)) rfl (Nat.le_of_ble_eq_true rfl) ⟨Nat.le_of_ble_eq_true rfl, Nat.le_of_ble_eq_true rfl⟩ ⟨Nat.le_of_ble_eq_true rfl, Nat.le_of_ble_eq_true rfl⟩ ?_
  show vm_J _ _ _ (30, (0, 0), [.ref 0, .int (nI p), .int (nI e), .int 2, .ref (1 + 25 + 3 * p)], [.int 1]) (G, I, F) _ _
  refine vm_J.go vm_q113 (k := 1) (hs := []) (f' := (bif vm_ic .ne 1 0 then 35 else 33, (0, 0), [.ref 0, .int (nI p), .int (nI e), .int 2, .ref (1 + 25 + 3 * p)], [])) (h' := (G, I, F)) (hs' := []) rfl rfl ?_
  refine vm_J.bT (by decide) ?_
  refine vm_J.go vm_q113 (k := 4) (hs := []) (f' := (89, (0, 0), [.ref 0, .int (nI p), .int (nI e), .int 2, .ref (1 + 25 + 3 * p)], [.int (nI e), .ref (1 + 25 + 3 * p)])) (h' := (G, I, F)) (hs' := []) rfl rfl ?_
  refine vm_J.call vm_q113 (Z := vm_M23) (n := 1) (k := 0) (mi := 23) (pc := 89) (en := (89, .invokevirtual 201, 3, [23, 662, 0], .null)) rfl trivial rfl rfl vm_z23 (av := [.ref (1 + 25 + 3 * p), .int (nI e)]) (rest := []) (m_Pal_colourOf (o := 1 + 25 + 3 * p) (a := 1 + 26 + 3 * p) (b := 1 + 27 + 3 * p) (j := e) (hD.w1.l p hp) (hD.w1.c p hp) (by omega)) ⟨_, _, rfl, rfl, _, 2, _, (hD.w1.l p hp), rfl, rfl, rfl⟩ (Nat.le_of_ble_eq_true rfl) ⟨Nat.le_of_ble_eq_true rfl, Nat.le_of_ble_eq_true rfl⟩ ⟨Nat.le_of_ble_eq_true rfl, Nat.le_of_ble_eq_true rfl⟩ ?_
  show vm_J _ _ _ (92, (0, 0), [.ref 0, .int (nI p), .int (nI e), .int 2, .ref (1 + 25 + 3 * p)], [.int (I (1 + 26 + 3 * p) e)]) (G, I, F) _ _
  refine vm_J.go vm_q113 (k := 3) (hs := []) (f' := (95, (0, 0), [.ref 0, .int (nI p), .int (nI e), .int 2, .ref (1 + 25 + 3 * p)], [.int (2 - 2), .int (I (1 + 26 + 3 * p) e)])) (h' := (G, I, F)) (hs' := []) rfl rfl ?_
  rw [(show (2 - 2 : Int32) = 0 from by decide)]
  refine vm_J.call vm_q113 (Z := vm_M164) (n := 2) (k := 1) (mi := 164) (pc := 95) (en := (95, .invokestatic 208, 3, [164, 489, 0], .null)) rfl trivial rfl rfl vm_z164 (av := [.int (I (1 + 26 + 3 * p) e), .int 0]) (rest := []) (m_channelOf (c := I (1 + 26 + 3 * p) e) (k := 0)) rfl (Nat.le_of_ble_eq_true rfl) ⟨Nat.le_of_ble_eq_true rfl, Nat.le_of_ble_eq_true rfl⟩ ⟨Nat.le_of_ble_eq_true rfl, Nat.le_of_ble_eq_true rfl⟩ ?_
  show vm_J _ _ _ (98, (0, 0), [.ref 0, .int (nI p), .int (nI e), .int 2, .ref (1 + 25 + 3 * p)], [.int (sp_ch (I (1 + 26 + 3 * p) e) 0)]) (G, I, F) _ _
  exact vm_J.end vm_q113 (en := (98, .ireturn, 1, [], .null)) rfl rfl vm_rI (Nat.zero_le _) (Nat.zero_le _) rfl
set_option maxHeartbeats 4000000 in
set_option maxRecDepth 20000 in
/-- DitherDesk.told -/
theorem c_told_3 {l : Launch} {X : vm_Cx} {G : List vm_Sh} {I : Nat → Nat → Int32} {F : Nat → Nat → UInt32} {p : Nat} {n : Nat} {e : Nat} (hD : vm_isD G) (hn : I (1 + 25 + 3 * p) 0 = nI n) (hp : p < 4) (hn2 : n ≤ 16) (he : e < n) : vm_K l X vm_M113 [.ref 0, .int (nI p), .int (nI e), .int 3] (G, I, F) (some (.int (sp_ch (I (1 + 26 + 3 * p) e) 1))) (G, I, F) := by
  refine vm_K.mk (by decide) (Nat.le_of_ble_eq_true rfl) ?_
  show vm_J _ _ _ (0, (0, 0), [.ref 0, .int (nI p), .int (nI e), .int 3, .retAddr 0], []) _ _ _
  refine vm_J.go vm_q113 (k := 3) (hs := [(12, 9, [.ref 1, .ref 38, .ref 75, .ref 112, .ref 132, .ref 135, .ref 139, .int 0, .int 0])]) (f' := (5, (0, 0), [.ref 0, .int (nI p), .int (nI e), .int 3, .retAddr 0], [.int (nI p), .ref 1])) (h' := (G, I, F)) (hs' := []) rfl (vm_b2 rfl (vm_b2 (vm_b2 (vm_hG hD.d) rfl) (vm_b2 rfl rfl))) ?_
  refine vm_J.call vm_q113 (Z := vm_M93) (n := 1) (k := 0) (mi := 93) (pc := 5) (en := (5, .invokevirtual 172, 3, [93, 619, 0], .null)) rfl trivial rfl rfl vm_z93 (av := [.ref 1, .int (nI p)]) (rest := []) (m_pal_n (B := 1) (p := p) hD.w1 (by omega)) ⟨_, _, rfl, rfl, _, 9, _, hD.w1.w, rfl, rfl, rfl⟩ (Nat.le_of_ble_eq_true rfl) ⟨Nat.le_of_ble_eq_true rfl, Nat.le_of_ble_eq_true rfl⟩ ⟨Nat.le_of_ble_eq_true rfl, Nat.le_of_ble_eq_true rfl⟩ ?_
  show vm_J _ _ _ (8, (0, 0), [.ref 0, .int (nI p), .int (nI e), .int 3, .retAddr 0], [.ref (1 + 25 + 3 * p)]) (G, I, F) _ _
  refine vm_J.go vm_q113 (k := 5) (hs := []) (f' := (18, (0, 0), [.ref 0, .int (nI p), .int (nI e), .int 3, .ref (1 + 25 + 3 * p)], [.int (nI e), .ref (1 + 25 + 3 * p)])) (h' := (G, I, F)) (hs' := []) rfl rfl ?_
  refine vm_J.call vm_q113 (Z := vm_M21) (n := 1) (k := 0) (mi := 21) (pc := 18) (en := (18, .invokevirtual 192, 3, [21, 645, 0], .null)) rfl trivial rfl rfl vm_z21 (av := [.ref (1 + 25 + 3 * p), .int (nI e)]) (rest := []) (m_Pal_has_y (o := 1 + 25 + 3 * p) (a := 1 + 26 + 3 * p) (b := 1 + 27 + 3 * p) (e := nI e) (hD.w1.l p hp) (by rw [hn]; exact vm_en_n he hn2)) ⟨_, _, rfl, rfl, _, 2, _, (hD.w1.l p hp), rfl, rfl, rfl⟩ (Nat.le_of_ble_eq_true rfl) ⟨Nat.le_of_ble_eq_true rfl, Nat.le_of_ble_eq_true rfl⟩ ⟨Nat.le_of_ble_eq_true rfl, Nat.le_of_ble_eq_true rfl⟩ ?_
  show vm_J _ _ _ (21, (0, 0), [.ref 0, .int (nI p), .int (nI e), .int 3, .ref (1 + 25 + 3 * p)], [.int 1]) (G, I, F) _ _
  refine vm_J.go vm_q113 (k := 1) (hs := []) (f' := (bif vm_ic .eq 1 0 then 33 else 24, (0, 0), [.ref 0, .int (nI p), .int (nI e), .int 3, .ref (1 + 25 + 3 * p)], [])) (h' := (G, I, F)) (hs' := []) rfl rfl ?_
  refine vm_J.bF (by decide) ?_
  refine vm_J.go vm_q113 (k := 3) (hs := []) (f' := (27, (0, 0), [.ref 0, .int (nI p), .int (nI e), .int 3, .ref (1 + 25 + 3 * p)], [.int 4, .int 0, .int 3])) (h' := (G, I, F)) (hs' := []) rfl rfl ?_
  refine vm_J.call vm_q113 (Z := vm_M151) (n := 3) (k := 1) (mi := 151) (pc := 27) (en := (27, .invokestatic 56, 3, [151, 420, 0], .null)) rfl trivial rfl rfl vm_z151 (av := [.int 3, .int 0, .int 4]) (rest := []) (m_isWithin_y (v := 3) (a := 0) (b := 4) (by decide)) rfl (Nat.le_of_ble_eq_true rfl) ⟨Nat.le_of_ble_eq_true rfl, Nat.le_of_ble_eq_true rfl⟩ ⟨Nat.le_of_ble_eq_true rfl, Nat.le_of_ble_eq_true rfl⟩ ?_
  show vm_J _ _ _ (30, (0, 0), [.ref 0, .int (nI p), .int (nI e), .int 3, .ref (1 + 25 + 3 * p)], [.int 1]) (G, I, F) _ _
  refine vm_J.go vm_q113 (k := 1) (hs := []) (f' := (bif vm_ic .ne 1 0 then 35 else 33, (0, 0), [.ref 0, .int (nI p), .int (nI e), .int 3, .ref (1 + 25 + 3 * p)], [])) (h' := (G, I, F)) (hs' := []) rfl rfl ?_
  refine vm_J.bT (by decide) ?_
  refine vm_J.go vm_q113 (k := 4) (hs := []) (f' := (89, (0, 0), [.ref 0, .int (nI p), .int (nI e), .int 3, .ref (1 + 25 + 3 * p)], [.int (nI e), .ref (1 + 25 + 3 * p)])) (h' := (G, I, F)) (hs' := []) rfl rfl ?_
  refine vm_J.call vm_q113 (Z := vm_M23) (n := 1) (k := 0) (mi := 23) (pc := 89) (en := (89, .invokevirtual 201, 3, [23, 662, 0], .null)) rfl trivial rfl rfl vm_z23 (av := [.ref (1 + 25 + 3 * p), .int (nI e)]) (rest := []) (m_Pal_colourOf (o := 1 + 25 + 3 * p) (a := 1 + 26 + 3 * p) (b := 1 + 27 + 3 * p) (j := e) (hD.w1.l p hp) (hD.w1.c p hp) (by omega)) ⟨_, _, rfl, rfl, _, 2, _, (hD.w1.l p hp), rfl, rfl, rfl⟩ (Nat.le_of_ble_eq_true rfl) ⟨Nat.le_of_ble_eq_true rfl, Nat.le_of_ble_eq_true rfl⟩ ⟨Nat.le_of_ble_eq_true rfl, Nat.le_of_ble_eq_true rfl⟩ ?_
  show vm_J _ _ _ (92, (0, 0), [.ref 0, .int (nI p), .int (nI e), .int 3, .ref (1 + 25 + 3 * p)], [.int (I (1 + 26 + 3 * p) e)]) (G, I, F) _ _
  refine vm_J.go vm_q113 (k := 3) (hs := []) (f' := (95, (0, 0), [.ref 0, .int (nI p), .int (nI e), .int 3, .ref (1 + 25 + 3 * p)], [.int (3 - 2), .int (I (1 + 26 + 3 * p) e)])) (h' := (G, I, F)) (hs' := []) rfl rfl ?_
  rw [(show (3 - 2 : Int32) = 1 from by decide)]
  refine vm_J.call vm_q113 (Z := vm_M164) (n := 2) (k := 1) (mi := 164) (pc := 95) (en := (95, .invokestatic 208, 3, [164, 489, 0], .null)) rfl trivial rfl rfl vm_z164 (av := [.int (I (1 + 26 + 3 * p) e), .int 1]) (rest := []) (m_channelOf (c := I (1 + 26 + 3 * p) e) (k := 1)) rfl (Nat.le_of_ble_eq_true rfl) ⟨Nat.le_of_ble_eq_true rfl, Nat.le_of_ble_eq_true rfl⟩ ⟨Nat.le_of_ble_eq_true rfl, Nat.le_of_ble_eq_true rfl⟩ ?_
  show vm_J _ _ _ (98, (0, 0), [.ref 0, .int (nI p), .int (nI e), .int 3, .ref (1 + 25 + 3 * p)], [.int (sp_ch (I (1 + 26 + 3 * p) e) 1)]) (G, I, F) _ _
  exact vm_J.end vm_q113 (en := (98, .ireturn, 1, [], .null)) rfl rfl vm_rI (Nat.zero_le _) (Nat.zero_le _) rfl
set_option maxHeartbeats 4000000 in
set_option maxRecDepth 20000 in
/-- DitherDesk.told -/
theorem c_told_4 {l : Launch} {X : vm_Cx} {G : List vm_Sh} {I : Nat → Nat → Int32} {F : Nat → Nat → UInt32} {p : Nat} {n : Nat} {e : Nat} (hD : vm_isD G) (hn : I (1 + 25 + 3 * p) 0 = nI n) (hp : p < 4) (hn2 : n ≤ 16) (he : e < n) : vm_K l X vm_M113 [.ref 0, .int (nI p), .int (nI e), .int 4] (G, I, F) (some (.int (sp_ch (I (1 + 26 + 3 * p) e) 2))) (G, I, F) := by
  refine vm_K.mk (by decide) (Nat.le_of_ble_eq_true rfl) ?_
  show vm_J _ _ _ (0, (0, 0), [.ref 0, .int (nI p), .int (nI e), .int 4, .retAddr 0], []) _ _ _
  refine vm_J.go vm_q113 (k := 3) (hs := [(12, 9, [.ref 1, .ref 38, .ref 75, .ref 112, .ref 132, .ref 135, .ref 139, .int 0, .int 0])]) (f' := (5, (0, 0), [.ref 0, .int (nI p), .int (nI e), .int 4, .retAddr 0], [.int (nI p), .ref 1])) (h' := (G, I, F)) (hs' := []) rfl (vm_b2 rfl (vm_b2 (vm_b2 (vm_hG hD.d) rfl) (vm_b2 rfl rfl))) ?_
  refine vm_J.call vm_q113 (Z := vm_M93) (n := 1) (k := 0) (mi := 93) (pc := 5) (en := (5, .invokevirtual 172, 3, [93, 619, 0], .null)) rfl trivial rfl rfl vm_z93 (av := [.ref 1, .int (nI p)]) (rest := []) (m_pal_n (B := 1) (p := p) hD.w1 (by omega)) ⟨_, _, rfl, rfl, _, 9, _, hD.w1.w, rfl, rfl, rfl⟩ (Nat.le_of_ble_eq_true rfl) ⟨Nat.le_of_ble_eq_true rfl, Nat.le_of_ble_eq_true rfl⟩ ⟨Nat.le_of_ble_eq_true rfl, Nat.le_of_ble_eq_true rfl⟩ ?_
  show vm_J _ _ _ (8, (0, 0), [.ref 0, .int (nI p), .int (nI e), .int 4, .retAddr 0], [.ref (1 + 25 + 3 * p)]) (G, I, F) _ _
  refine vm_J.go vm_q113 (k := 5) (hs := []) (f' := (18, (0, 0), [.ref 0, .int (nI p), .int (nI e), .int 4, .ref (1 + 25 + 3 * p)], [.int (nI e), .ref (1 + 25 + 3 * p)])) (h' := (G, I, F)) (hs' := []) rfl rfl ?_
  refine vm_J.call vm_q113 (Z := vm_M21) (n := 1) (k := 0) (mi := 21) (pc := 18) (en := (18, .invokevirtual 192, 3, [21, 645, 0], .null)) rfl trivial rfl rfl vm_z21 (av := [.ref (1 + 25 + 3 * p), .int (nI e)]) (rest := []) (m_Pal_has_y (o := 1 + 25 + 3 * p) (a := 1 + 26 + 3 * p) (b := 1 + 27 + 3 * p) (e := nI e) (hD.w1.l p hp) (by rw [hn]; exact vm_en_n he hn2)) ⟨_, _, rfl, rfl, _, 2, _, (hD.w1.l p hp), rfl, rfl, rfl⟩ (Nat.le_of_ble_eq_true rfl) ⟨Nat.le_of_ble_eq_true rfl, Nat.le_of_ble_eq_true rfl⟩ ⟨Nat.le_of_ble_eq_true rfl, Nat.le_of_ble_eq_true rfl⟩ ?_
  show vm_J _ _ _ (21, (0, 0), [.ref 0, .int (nI p), .int (nI e), .int 4, .ref (1 + 25 + 3 * p)], [.int 1]) (G, I, F) _ _
  refine vm_J.go vm_q113 (k := 1) (hs := []) (f' := (bif vm_ic .eq 1 0 then 33 else 24, (0, 0), [.ref 0, .int (nI p), .int (nI e), .int 4, .ref (1 + 25 + 3 * p)], [])) (h' := (G, I, F)) (hs' := []) rfl rfl ?_
  refine vm_J.bF (by decide) ?_
  refine vm_J.go vm_q113 (k := 3) (hs := []) (f' := (27, (0, 0), [.ref 0, .int (nI p), .int (nI e), .int 4, .ref (1 + 25 + 3 * p)], [.int 4, .int 0, .int 4])) (h' := (G, I, F)) (hs' := []) rfl rfl ?_
  refine vm_J.call vm_q113 (Z := vm_M151) (n := 3) (k := 1) (mi := 151) (pc := 27) (en := (27, .invokestatic 56, 3, [151, 420, 0], .null)) rfl trivial rfl rfl vm_z151 (av := [.int 4, .int 0, .int 4]) (rest := []) (m_isWithin_y (v := 4) (a := 0) (b := 4) (by decide)) rfl (Nat.le_of_ble_eq_true rfl) ⟨Nat.le_of_ble_eq_true rfl, Nat.le_of_ble_eq_true rfl⟩ ⟨Nat.le_of_ble_eq_true rfl, Nat.le_of_ble_eq_true rfl⟩ ?_
  show vm_J _ _ _ (30, (0, 0), [.ref 0, .int (nI p), .int (nI e), .int 4, .ref (1 + 25 + 3 * p)], [.int 1]) (G, I, F) _ _
  refine vm_J.go vm_q113 (k := 1) (hs := []) (f' := (bif vm_ic .ne 1 0 then 35 else 33, (0, 0), [.ref 0, .int (nI p), .int (nI e), .int 4, .ref (1 + 25 + 3 * p)], [])) (h' := (G, I, F)) (hs' := []) rfl rfl ?_
  refine vm_J.bT (by decide) ?_
  refine vm_J.go vm_q113 (k := 4) (hs := []) (f' := (89, (0, 0), [.ref 0, .int (nI p), .int (nI e), .int 4, .ref (1 + 25 + 3 * p)], [.int (nI e), .ref (1 + 25 + 3 * p)])) (h' := (G, I, F)) (hs' := []) rfl rfl ?_
  refine vm_J.call vm_q113 (Z := vm_M23) (n := 1) (k := 0) (mi := 23) (pc := 89) (en := (89, .invokevirtual 201, 3, [23, 662, 0], .null)) rfl trivial rfl rfl vm_z23 (av := [.ref (1 + 25 + 3 * p), .int (nI e)]) (rest := []) (m_Pal_colourOf (o := 1 + 25 + 3 * p) (a := 1 + 26 + 3 * p) (b := 1 + 27 + 3 * p) (j := e) (hD.w1.l p hp) (hD.w1.c p hp) (by omega)) ⟨_, _, rfl, rfl, _, 2, _, (hD.w1.l p hp), rfl, rfl, rfl⟩ (Nat.le_of_ble_eq_true rfl) ⟨Nat.le_of_ble_eq_true rfl, Nat.le_of_ble_eq_true rfl⟩ ⟨Nat.le_of_ble_eq_true rfl, Nat.le_of_ble_eq_true rfl⟩ ?_
  show vm_J _ _ _ (92, (0, 0), [.ref 0, .int (nI p), .int (nI e), .int 4, .ref (1 + 25 + 3 * p)], [.int (I (1 + 26 + 3 * p) e)]) (G, I, F) _ _
  refine vm_J.go vm_q113 (k := 3) (hs := []) (f' := (95, (0, 0), [.ref 0, .int (nI p), .int (nI e), .int 4, .ref (1 + 25 + 3 * p)], [.int (4 - 2), .int (I (1 + 26 + 3 * p) e)])) (h' := (G, I, F)) (hs' := []) rfl rfl ?_
  rw [(show (4 - 2 : Int32) = 2 from by decide)]
  refine vm_J.call vm_q113 (Z := vm_M164) (n := 2) (k := 1) (mi := 164) (pc := 95) (en := (95, .invokestatic 208, 3, [164, 489, 0], .null)) rfl trivial rfl rfl vm_z164 (av := [.int (I (1 + 26 + 3 * p) e), .int 2]) (rest := []) (m_channelOf (c := I (1 + 26 + 3 * p) e) (k := 2)) rfl (Nat.le_of_ble_eq_true rfl) ⟨Nat.le_of_ble_eq_true rfl, Nat.le_of_ble_eq_true rfl⟩ ⟨Nat.le_of_ble_eq_true rfl, Nat.le_of_ble_eq_true rfl⟩ ?_
  show vm_J _ _ _ (98, (0, 0), [.ref 0, .int (nI p), .int (nI e), .int 4, .ref (1 + 25 + 3 * p)], [.int (sp_ch (I (1 + 26 + 3 * p) e) 2)]) (G, I, F) _ _
  exact vm_J.end vm_q113 (en := (98, .ireturn, 1, [], .null)) rfl rfl vm_rI (Nat.zero_le _) (Nat.zero_le _) rfl
set_option maxHeartbeats 4000000 in
set_option maxRecDepth 20000 in
/-- DitherDesk.told -/
theorem c_told_11 {l : Launch} {X : vm_Cx} {G : List vm_Sh} {I : Nat → Nat → Int32} {F : Nat → Nat → UInt32} {p : Nat} {n : Nat} {e : Nat} (hD : vm_isD G) (hn : I (1 + 25 + 3 * p) 0 = nI n) (hp : p < 4) (hn2 : n ≤ 16) (he : e < n) (hl : I (1 + 27 + 3 * p) e = 1) : vm_K l X vm_M113 [.ref 0, .int (nI p), .int (nI e), .int 1] (G, I, F) (some (.int 1)) (G, I, F) := by
  refine vm_K.mk (by decide) (Nat.le_of_ble_eq_true rfl) ?_
  show vm_J _ _ _ (0, (0, 0), [.ref 0, .int (nI p), .int (nI e), .int 1, .retAddr 0], []) _ _ _
  refine vm_J.go vm_q113 (k := 3) (hs := [(12, 9, [.ref 1, .ref 38, .ref 75, .ref 112, .ref 132, .ref 135, .ref 139, .int 0, .int 0])]) (f' := (5, (0, 0), [.ref 0, .int (nI p), .int (nI e), .int 1, .retAddr 0], [.int (nI p), .ref 1])) (h' := (G, I, F)) (hs' := []) rfl (vm_b2 rfl (vm_b2 (vm_b2 (vm_hG hD.d) rfl) (vm_b2 rfl rfl))) ?_
  refine vm_J.call vm_q113 (Z := vm_M93) (n := 1) (k := 0) (mi := 93) (pc := 5) (en := (5, .invokevirtual 172, 3, [93, 619, 0], .null)) rfl trivial rfl rfl vm_z93 (av := [.ref 1, .int (nI p)]) (rest := []) (m_pal_n (B := 1) (p := p) hD.w1 (by omega)) ⟨_, _, rfl, rfl, _, 9, _, hD.w1.w, rfl, rfl, rfl⟩ (Nat.le_of_ble_eq_true rfl) ⟨Nat.le_of_ble_eq_true rfl, Nat.le_of_ble_eq_true rfl⟩ ⟨Nat.le_of_ble_eq_true rfl, Nat.le_of_ble_eq_true rfl⟩ ?_
  show vm_J _ _ _ (8, (0, 0), [.ref 0, .int (nI p), .int (nI e), .int 1, .retAddr 0], [.ref (1 + 25 + 3 * p)]) (G, I, F) _ _
  refine vm_J.go vm_q113 (k := 5) (hs := []) (f' := (18, (0, 0), [.ref 0, .int (nI p), .int (nI e), .int 1, .ref (1 + 25 + 3 * p)], [.int (nI e), .ref (1 + 25 + 3 * p)])) (h' := (G, I, F)) (hs' := []) rfl rfl ?_
  refine vm_J.call vm_q113 (Z := vm_M21) (n := 1) (k := 0) (mi := 21) (pc := 18) (en := (18, .invokevirtual 192, 3, [21, 645, 0], .null)) rfl trivial rfl rfl vm_z21 (av := [.ref (1 + 25 + 3 * p), .int (nI e)]) (rest := []) (m_Pal_has_y (o := 1 + 25 + 3 * p) (a := 1 + 26 + 3 * p) (b := 1 + 27 + 3 * p) (e := nI e) (hD.w1.l p hp) (by rw [hn]; exact vm_en_n he hn2)) ⟨_, _, rfl, rfl, _, 2, _, (hD.w1.l p hp), rfl, rfl, rfl⟩ (Nat.le_of_ble_eq_true rfl) ⟨Nat.le_of_ble_eq_true rfl, Nat.le_of_ble_eq_true rfl⟩ ⟨Nat.le_of_ble_eq_true rfl, Nat.le_of_ble_eq_true rfl⟩ ?_
  show vm_J _ _ _ (21, (0, 0), [.ref 0, .int (nI p), .int (nI e), .int 1, .ref (1 + 25 + 3 * p)], [.int 1]) (G, I, F) _ _
  refine vm_J.go vm_q113 (k := 1) (hs := []) (f' := (bif vm_ic .eq 1 0 then 33 else 24, (0, 0), [.ref 0, .int (nI p), .int (nI e), .int 1, .ref (1 + 25 + 3 * p)], [])) (h' := (G, I, F)) (hs' := []) rfl rfl ?_
  refine vm_J.bF (by decide) ?_
  refine vm_J.go vm_q113 (k := 3) (hs := []) (f' := (27, (0, 0), [.ref 0, .int (nI p), .int (nI e), .int 1, .ref (1 + 25 + 3 * p)], [.int 4, .int 0, .int 1])) (h' := (G, I, F)) (hs' := []) rfl rfl ?_
  refine vm_J.call vm_q113 (Z := vm_M151) (n := 3) (k := 1) (mi := 151) (pc := 27) (en := (27, .invokestatic 56, 3, [151, 420, 0], .null)) rfl trivial rfl rfl vm_z151 (av := [.int 1, .int 0, .int 4]) (rest := []) (m_isWithin_y (v := 1) (a := 0) (b := 4) (by decide)) rfl (Nat.le_of_ble_eq_true rfl) ⟨Nat.le_of_ble_eq_true rfl, Nat.le_of_ble_eq_true rfl⟩ ⟨Nat.le_of_ble_eq_true rfl, Nat.le_of_ble_eq_true rfl⟩ ?_
  show vm_J _ _ _ (30, (0, 0), [.ref 0, .int (nI p), .int (nI e), .int 1, .ref (1 + 25 + 3 * p)], [.int 1]) (G, I, F) _ _
  refine vm_J.go vm_q113 (k := 1) (hs := []) (f' := (bif vm_ic .ne 1 0 then 35 else 33, (0, 0), [.ref 0, .int (nI p), .int (nI e), .int 1, .ref (1 + 25 + 3 * p)], [])) (h' := (G, I, F)) (hs' := []) rfl rfl ?_
  refine vm_J.bT (by decide) ?_
  refine vm_J.go vm_q113 (k := 4) (hs := []) (f' := (74, (0, 0), [.ref 0, .int (nI p), .int (nI e), .int 1, .ref (1 + 25 + 3 * p)], [.int (nI e), .ref (1 + 25 + 3 * p)])) (h' := (G, I, F)) (hs' := []) rfl rfl ?_
  refine vm_J.call vm_q113 (Z := vm_M24) (n := 1) (k := 0) (mi := 24) (pc := 74) (en := (74, .invokevirtual 198, 3, [24, 658, 0], .null)) rfl trivial rfl rfl vm_z24 (av := [.ref (1 + 25 + 3 * p), .int (nI e)]) (rest := []) (m_Pal_isLocked_y (o := 1 + 25 + 3 * p) (a := 1 + 26 + 3 * p) (b := 1 + 27 + 3 * p) (j := e) (hD.w1.l p hp) (hD.w1.k p hp) (by omega) hl) ⟨_, _, rfl, rfl, _, 2, _, (hD.w1.l p hp), rfl, rfl, rfl⟩ (Nat.le_of_ble_eq_true rfl) ⟨Nat.le_of_ble_eq_true rfl, Nat.le_of_ble_eq_true rfl⟩ ⟨Nat.le_of_ble_eq_true rfl, Nat.le_of_ble_eq_true rfl⟩ ?_
  show vm_J _ _ _ (77, (0, 0), [.ref 0, .int (nI p), .int (nI e), .int 1, .ref (1 + 25 + 3 * p)], [.int 1]) (G, I, F) _ _
  refine vm_J.go vm_q113 (k := 1) (hs := []) (f' := (bif vm_ic .eq 1 0 then 84 else 80, (0, 0), [.ref 0, .int (nI p), .int (nI e), .int 1, .ref (1 + 25 + 3 * p)], [])) (h' := (G, I, F)) (hs' := []) rfl rfl ?_
  refine vm_J.bF (by decide) ?_
  refine vm_J.go vm_q113 (k := 2) (hs := []) (f' := (85, (0, 0), [.ref 0, .int (nI p), .int (nI e), .int 1, .ref (1 + 25 + 3 * p)], [.int 1])) (h' := (G, I, F)) (hs' := []) rfl rfl ?_
  exact vm_J.end vm_q113 (en := (85, .ireturn, 1, [], .null)) rfl rfl vm_rI (Nat.zero_le _) (Nat.zero_le _) rfl
set_option maxHeartbeats 4000000 in
set_option maxRecDepth 20000 in
/-- DitherDesk.told -/
theorem c_told_10 {l : Launch} {X : vm_Cx} {G : List vm_Sh} {I : Nat → Nat → Int32} {F : Nat → Nat → UInt32} {p : Nat} {n : Nat} {e : Nat} (hD : vm_isD G) (hn : I (1 + 25 + 3 * p) 0 = nI n) (hp : p < 4) (hn2 : n ≤ 16) (he : e < n) (hl : ¬ I (1 + 27 + 3 * p) e = 1) : vm_K l X vm_M113 [.ref 0, .int (nI p), .int (nI e), .int 1] (G, I, F) (some (.int 0)) (G, I, F) := by
  refine vm_K.mk (by decide) (Nat.le_of_ble_eq_true rfl) ?_
  show vm_J _ _ _ (0, (0, 0), [.ref 0, .int (nI p), .int (nI e), .int 1, .retAddr 0], []) _ _ _
  refine vm_J.go vm_q113 (k := 3) (hs := [(12, 9, [.ref 1, .ref 38, .ref 75, .ref 112, .ref 132, .ref 135, .ref 139, .int 0, .int 0])]) (f' := (5, (0, 0), [.ref 0, .int (nI p), .int (nI e), .int 1, .retAddr 0], [.int (nI p), .ref 1])) (h' := (G, I, F)) (hs' := []) rfl (vm_b2 rfl (vm_b2 (vm_b2 (vm_hG hD.d) rfl) (vm_b2 rfl rfl))) ?_
  refine vm_J.call vm_q113 (Z := vm_M93) (n := 1) (k := 0) (mi := 93) (pc := 5) (en := (5, .invokevirtual 172, 3, [93, 619, 0], .null)) rfl trivial rfl rfl vm_z93 (av := [.ref 1, .int (nI p)]) (rest := []) (m_pal_n (B := 1) (p := p) hD.w1 (by omega)) ⟨_, _, rfl, rfl, _, 9, _, hD.w1.w, rfl, rfl, rfl⟩ (Nat.le_of_ble_eq_true rfl) ⟨Nat.le_of_ble_eq_true rfl, Nat.le_of_ble_eq_true rfl⟩ ⟨Nat.le_of_ble_eq_true rfl, Nat.le_of_ble_eq_true rfl⟩ ?_
  show vm_J _ _ _ (8, (0, 0), [.ref 0, .int (nI p), .int (nI e), .int 1, .retAddr 0], [.ref (1 + 25 + 3 * p)]) (G, I, F) _ _
  refine vm_J.go vm_q113 (k := 5) (hs := []) (f' := (18, (0, 0), [.ref 0, .int (nI p), .int (nI e), .int 1, .ref (1 + 25 + 3 * p)], [.int (nI e), .ref (1 + 25 + 3 * p)])) (h' := (G, I, F)) (hs' := []) rfl rfl ?_
  refine vm_J.call vm_q113 (Z := vm_M21) (n := 1) (k := 0) (mi := 21) (pc := 18) (en := (18, .invokevirtual 192, 3, [21, 645, 0], .null)) rfl trivial rfl rfl vm_z21 (av := [.ref (1 + 25 + 3 * p), .int (nI e)]) (rest := []) (m_Pal_has_y (o := 1 + 25 + 3 * p) (a := 1 + 26 + 3 * p) (b := 1 + 27 + 3 * p) (e := nI e) (hD.w1.l p hp) (by rw [hn]; exact vm_en_n he hn2)) ⟨_, _, rfl, rfl, _, 2, _, (hD.w1.l p hp), rfl, rfl, rfl⟩ (Nat.le_of_ble_eq_true rfl) ⟨Nat.le_of_ble_eq_true rfl, Nat.le_of_ble_eq_true rfl⟩ ⟨Nat.le_of_ble_eq_true rfl, Nat.le_of_ble_eq_true rfl⟩ ?_
  show vm_J _ _ _ (21, (0, 0), [.ref 0, .int (nI p), .int (nI e), .int 1, .ref (1 + 25 + 3 * p)], [.int 1]) (G, I, F) _ _
  refine vm_J.go vm_q113 (k := 1) (hs := []) (f' := (bif vm_ic .eq 1 0 then 33 else 24, (0, 0), [.ref 0, .int (nI p), .int (nI e), .int 1, .ref (1 + 25 + 3 * p)], [])) (h' := (G, I, F)) (hs' := []) rfl rfl ?_
  refine vm_J.bF (by decide) ?_
  refine vm_J.go vm_q113 (k := 3) (hs := []) (f' := (27, (0, 0), [.ref 0, .int (nI p), .int (nI e), .int 1, .ref (1 + 25 + 3 * p)], [.int 4, .int 0, .int 1])) (h' := (G, I, F)) (hs' := []) rfl rfl ?_
  refine vm_J.call vm_q113 (Z := vm_M151) (n := 3) (k := 1) (mi := 151) (pc := 27) (en := (27, .invokestatic 56, 3, [151, 420, 0], .null)) rfl trivial rfl rfl vm_z151 (av := [.int 1, .int 0, .int 4]) (rest := []) (m_isWithin_y (v := 1) (a := 0) (b := 4) (by decide)) rfl (Nat.le_of_ble_eq_true rfl) ⟨Nat.le_of_ble_eq_true rfl, Nat.le_of_ble_eq_true rfl⟩ ⟨Nat.le_of_ble_eq_true rfl, Nat.le_of_ble_eq_true rfl⟩ ?_
  show vm_J _ _ _ (30, (0, 0), [.ref 0, .int (nI p), .int (nI e), .int 1, .ref (1 + 25 + 3 * p)], [.int 1]) (G, I, F) _ _
  refine vm_J.go vm_q113 (k := 1) (hs := []) (f' := (bif vm_ic .ne 1 0 then 35 else 33, (0, 0), [.ref 0, .int (nI p), .int (nI e), .int 1, .ref (1 + 25 + 3 * p)], [])) (h' := (G, I, F)) (hs' := []) rfl rfl ?_
  refine vm_J.bT (by decide) ?_
  refine vm_J.go vm_q113 (k := 4) (hs := []) (f' := (74, (0, 0), [.ref 0, .int (nI p), .int (nI e), .int 1, .ref (1 + 25 + 3 * p)], [.int (nI e), .ref (1 + 25 + 3 * p)])) (h' := (G, I, F)) (hs' := []) rfl rfl ?_
  refine vm_J.call vm_q113 (Z := vm_M24) (n := 1) (k := 0) (mi := 24) (pc := 74) (en := (74, .invokevirtual 198, 3, [24, 658, 0], .null)) rfl trivial rfl rfl vm_z24 (av := [.ref (1 + 25 + 3 * p), .int (nI e)]) (rest := []) (m_Pal_isLocked_n (o := 1 + 25 + 3 * p) (a := 1 + 26 + 3 * p) (b := 1 + 27 + 3 * p) (j := e) (hD.w1.l p hp) (hD.w1.k p hp) (by omega) hl) ⟨_, _, rfl, rfl, _, 2, _, (hD.w1.l p hp), rfl, rfl, rfl⟩ (Nat.le_of_ble_eq_true rfl) ⟨Nat.le_of_ble_eq_true rfl, Nat.le_of_ble_eq_true rfl⟩ ⟨Nat.le_of_ble_eq_true rfl, Nat.le_of_ble_eq_true rfl⟩ ?_
  show vm_J _ _ _ (77, (0, 0), [.ref 0, .int (nI p), .int (nI e), .int 1, .ref (1 + 25 + 3 * p)], [.int 0]) (G, I, F) _ _
  refine vm_J.go vm_q113 (k := 1) (hs := []) (f' := (bif vm_ic .eq 0 0 then 84 else 80, (0, 0), [.ref 0, .int (nI p), .int (nI e), .int 1, .ref (1 + 25 + 3 * p)], [])) (h' := (G, I, F)) (hs' := []) rfl rfl ?_
  refine vm_J.bT (by decide) ?_
  refine vm_J.go vm_q113 (k := 1) (hs := []) (f' := (85, (0, 0), [.ref 0, .int (nI p), .int (nI e), .int 1, .ref (1 + 25 + 3 * p)], [.int 0])) (h' := (G, I, F)) (hs' := []) rfl rfl ?_
  exact vm_J.end vm_q113 (en := (85, .ireturn, 1, [], .null)) rfl rfl vm_rI (Nat.zero_le _) (Nat.zero_le _) rfl
set_option maxHeartbeats 4000000 in
set_option maxRecDepth 20000 in
/-- DitherDesk.rule -/
theorem c_rule_x {l : Launch} {X : vm_Cx} {G : List vm_Sh} {I : Nat → Nat → Int32} {F : Nat → Nat → UInt32} {x : Int32} {v : Int32} (hD : vm_isD G) (hx : ¬ (0 ≤ x ∧ x ≤ 3)) : vm_K l X vm_M118 [.ref 0, .int x, .int v] (G, I, F) (some (.int (-1))) (G, I, F) := by
  refine vm_K.mk (by decide) (Nat.le_of_ble_eq_true rfl) ?_
  show vm_J _ _ _ (0, (0, 0), [.ref 0, .int x, .int v, .retAddr 0], []) _ _ _
  refine vm_J.go vm_q118 (k := 3) (hs := []) (f' := (3, (0, 0), [.ref 0, .int x, .int v, .retAddr 0], [.int 3, .int 0, .int x])) (h' := (G, I, F)) (hs' := []) rfl rfl ?_
  refine vm_J.call vm_q118 (Z := vm_M151) (n := 3) (k := 1) (mi := 151) (pc := 3) (en := (3, .invokestatic 56, 3, [151, 420, 0], .null)) rfl trivial rfl rfl vm_z151 (av := [.int x, .int 0, .int 3]) (rest := []) (m_isWithin_n (v := x) (a := 0) (b := 3) hx) rfl (Nat.le_of_ble_eq_true rfl) ⟨Nat.le_of_ble_eq_true rfl, Nat.le_of_ble_eq_true rfl⟩ ⟨Nat.le_of_ble_eq_true rfl, Nat.le_of_ble_eq_true rfl⟩ ?_
  show vm_J _ _ _ (6, (0, 0), [.ref 0, .int x, .int v, .retAddr 0], [.int 0]) (G, I, F) _ _
  refine vm_J.go vm_q118 (k := 1) (hs := []) (f' := (bif vm_ic .ne 0 0 then 11 else 9, (0, 0), [.ref 0, .int x, .int v, .retAddr 0], [])) (h' := (G, I, F)) (hs' := []) rfl rfl ?_
  refine vm_J.bF (by decide) ?_
  refine vm_J.go vm_q118 (k := 1) (hs := []) (f' := (10, (0, 0), [.ref 0, .int x, .int v, .retAddr 0], [.int (-1)])) (h' := (G, I, F)) (hs' := []) rfl rfl ?_
  exact vm_J.end vm_q118 (en := (10, .ireturn, 1, [], .null)) rfl rfl vm_rI (Nat.zero_le _) (Nat.zero_le _) rfl
set_option maxHeartbeats 4000000 in
set_option maxRecDepth 20000 in
/-- DitherDesk.rule -/
theorem c_rule_b0 {l : Launch} {X : vm_Cx} {G : List vm_Sh} {I : Nat → Nat → Int32} {F : Nat → Nat → UInt32} {v : Int32} (hD : vm_isD G) (hv : ¬ (0 ≤ v ∧ v ≤ 3)) : vm_K l X vm_M118 [.ref 0, .int 0, .int v] (G, I, F) (some (.int (-2))) (G, I, F) := by
  refine vm_K.mk (by decide) (Nat.le_of_ble_eq_true rfl) ?_
  show vm_J _ _ _ (0, (0, 0), [.ref 0, .int 0, .int v, .retAddr 0], []) _ _ _
  refine vm_J.go vm_q118 (k := 3) (hs := []) (f' := (3, (0, 0), [.ref 0, .int 0, .int v, .retAddr 0], [.int 3, .int 0, .int 0])) (h' := (G, I, F)) (hs' := []) rfl rfl ?_
  refine vm_J.call vm_q118 (Z := vm_M151) (n := 3) (k := 1) (mi := 151) (pc := 3) (en := (3, .invokestatic 56, 3, [151, 420, 0], .null)) rfl trivial rfl rfl vm_z151 (av := [.int 0, .int 0, .int 3]) (rest := []) (m_isWithin_y (v := 0) (a := 0) (b := 3) (by decide)) rfl (Nat.le_of_ble_eq_true rfl) ⟨Nat.le_of_ble_eq_true rfl, Nat.le_of_ble_eq_true rfl⟩ ⟨Nat.le_of_ble_eq_true rfl, Nat.le_of_ble_eq_true rfl⟩ ?_
  show vm_J _ _ _ (6, (0, 0), [.ref 0, .int 0, .int v, .retAddr 0], [.int 1]) (G, I, F) _ _
  refine vm_J.go vm_q118 (k := 1) (hs := []) (f' := (bif vm_ic .ne 1 0 then 11 else 9, (0, 0), [.ref 0, .int 0, .int v, .retAddr 0], [])) (h' := (G, I, F)) (hs' := []) rfl rfl ?_
  refine vm_J.bT (by decide) ?_
  refine vm_J.go vm_q118 (k := 4) (hs := []) (f' := (17, (0, 0), [.ref 0, .int 0, .int v, .retAddr 0], [.int 0, .ref 100001, .int 0, .int v])) (h' := (G, I, F)) (hs' := []) rfl rfl ?_
  refine vm_J.call vm_q118 (Z := vm_M152) (n := 2) (k := 1) (mi := 152) (pc := 17) (en := (17, .invokestatic 118, 3, [152, 511, 0], .null)) rfl trivial rfl rfl vm_z152 (av := [.ref 100001, .int 0]) (rest := [.int 0, .int v]) (m_at_s1_0) rfl (Nat.le_of_ble_eq_true rfl) ⟨Nat.le_of_ble_eq_true rfl, Nat.le_of_ble_eq_true rfl⟩ ⟨Nat.le_of_ble_eq_true rfl, Nat.le_of_ble_eq_true rfl⟩ ?_
  show vm_J _ _ _ (20, (0, 0), [.ref 0, .int 0, .int v, .retAddr 0], [.int 3, .int 0, .int v]) (G, I, F) _ _
  refine vm_J.call vm_q118 (Z := vm_M151) (n := 3) (k := 1) (mi := 151) (pc := 20) (en := (20, .invokestatic 56, 3, [151, 420, 0], .null)) rfl trivial rfl rfl vm_z151 (av := [.int v, .int 0, .int 3]) (rest := []) (m_isWithin_n (v := v) (a := 0) (b := 3) hv) rfl (Nat.le_of_ble_eq_true rfl) ⟨Nat.le_of_ble_eq_true rfl, Nat.le_of_ble_eq_true rfl⟩ ⟨Nat.le_of_ble_eq_true rfl, Nat.le_of_ble_eq_true rfl⟩ ?_
  show vm_J _ _ _ (23, (0, 0), [.ref 0, .int 0, .int v, .retAddr 0], [.int 0]) (G, I, F) _ _
  refine vm_J.go vm_q118 (k := 1) (hs := []) (f' := (bif vm_ic .ne 0 0 then 29 else 26, (0, 0), [.ref 0, .int 0, .int v, .retAddr 0], [])) (h' := (G, I, F)) (hs' := []) rfl rfl ?_
  refine vm_J.bF (by decide) ?_
  refine vm_J.go vm_q118 (k := 1) (hs := []) (f' := (28, (0, 0), [.ref 0, .int 0, .int v, .retAddr 0], [.int (-2)])) (h' := (G, I, F)) (hs' := []) rfl rfl ?_
  exact vm_J.end vm_q118 (en := (28, .ireturn, 1, [], .null)) rfl rfl vm_rI (Nat.zero_le _) (Nat.zero_le _) rfl
set_option maxHeartbeats 4000000 in
set_option maxRecDepth 20000 in
/-- DitherDesk.rule -/
theorem c_rule_0 {l : Launch} {X : vm_Cx} {G : List vm_Sh} {I : Nat → Nat → Int32} {F : Nat → Nat → UInt32} {v : Int32} (hD : vm_isD G) (hv : 0 ≤ v ∧ v ≤ 3) : vm_K l X vm_M118 [.ref 0, .int 0, .int v] (G, I, F) (some (.int (I (1 + 3) 0))) (G, (vm_up I (1 + 3) 0 v), F) := by
  refine vm_K.mk (by decide) (Nat.le_of_ble_eq_true rfl) ?_
  show vm_J _ _ _ (0, (0, 0), [.ref 0, .int 0, .int v, .retAddr 0], []) _ _ _
  refine vm_J.go vm_q118 (k := 3) (hs := []) (f' := (3, (0, 0), [.ref 0, .int 0, .int v, .retAddr 0], [.int 3, .int 0, .int 0])) (h' := (G, I, F)) (hs' := []) rfl rfl ?_
  refine vm_J.call vm_q118 (Z := vm_M151) (n := 3) (k := 1) (mi := 151) (pc := 3) (en := (3, .invokestatic 56, 3, [151, 420, 0], .null)) rfl trivial rfl rfl vm_z151 (av := [.int 0, .int 0, .int 3]) (rest := []) (m_isWithin_y (v := 0) (a := 0) (b := 3) (by decide)) rfl (Nat.le_of_ble_eq_true rfl) ⟨Nat.le_of_ble_eq_true rfl, Nat.le_of_ble_eq_true rfl⟩ ⟨Nat.le_of_ble_eq_true rfl, Nat.le_of_ble_eq_true rfl⟩ ?_
  show vm_J _ _ _ (6, (0, 0), [.ref 0, .int 0, .int v, .retAddr 0], [.int 1]) (G, I, F) _ _
  refine vm_J.go vm_q118 (k := 1) (hs := []) (f' := (bif vm_ic .ne 1 0 then 11 else 9, (0, 0), [.ref 0, .int 0, .int v, .retAddr 0], [])) (h' := (G, I, F)) (hs' := []) rfl rfl ?_
  refine vm_J.bT (by decide) ?_
  refine vm_J.go vm_q118 (k := 4) (hs := []) (f' := (17, (0, 0), [.ref 0, .int 0, .int v, .retAddr 0], [.int 0, .ref 100001, .int 0, .int v])) (h' := (G, I, F)) (hs' := []) rfl rfl ?_
  refine vm_J.call vm_q118 (Z := vm_M152) (n := 2) (k := 1) (mi := 152) (pc := 17) (en := (17, .invokestatic 118, 3, [152, 511, 0], .null)) rfl trivial rfl rfl vm_z152 (av := [.ref 100001, .int 0]) (rest := [.int 0, .int v]) (m_at_s1_0) rfl (Nat.le_of_ble_eq_true rfl) ⟨Nat.le_of_ble_eq_true rfl, Nat.le_of_ble_eq_true rfl⟩ ⟨Nat.le_of_ble_eq_true rfl, Nat.le_of_ble_eq_true rfl⟩ ?_
  show vm_J _ _ _ (20, (0, 0), [.ref 0, .int 0, .int v, .retAddr 0], [.int 3, .int 0, .int v]) (G, I, F) _ _
  refine vm_J.call vm_q118 (Z := vm_M151) (n := 3) (k := 1) (mi := 151) (pc := 20) (en := (20, .invokestatic 56, 3, [151, 420, 0], .null)) rfl trivial rfl rfl vm_z151 (av := [.int v, .int 0, .int 3]) (rest := []) (m_isWithin_y (v := v) (a := 0) (b := 3) hv) rfl (Nat.le_of_ble_eq_true rfl) ⟨Nat.le_of_ble_eq_true rfl, Nat.le_of_ble_eq_true rfl⟩ ⟨Nat.le_of_ble_eq_true rfl, Nat.le_of_ble_eq_true rfl⟩ ?_
  show vm_J _ _ _ (23, (0, 0), [.ref 0, .int 0, .int v, .retAddr 0], [.int 1]) (G, I, F) _ _
  refine vm_J.go vm_q118 (k := 1) (hs := []) (f' := (bif vm_ic .ne 1 0 then 29 else 26, (0, 0), [.ref 0, .int 0, .int v, .retAddr 0], [])) (h' := (G, I, F)) (hs' := []) rfl rfl ?_
  refine vm_J.bT (by decide) ?_
  refine vm_J.go vm_q118 (k := 3) (hs := [(12, 9, [.ref 1, .ref 38, .ref 75, .ref 112, .ref 132, .ref 135, .ref 139, .int 0, .int 0])]) (f' := (34, (0, 0), [.ref 0, .int 0, .int v, .retAddr 0], [.int 0, .ref 1])) (h' := (G, I, F)) (hs' := []) rfl (vm_b2 rfl (vm_b2 (vm_b2 (vm_hG hD.d) rfl) (vm_b2 rfl rfl))) ?_
  refine vm_J.call vm_q118 (Z := vm_M94) (n := 1) (k := 0) (mi := 94) (pc := 34) (en := (34, .invokevirtual 233, 3, [94, 745, 0], .null)) rfl trivial rfl rfl vm_z94 (av := [.ref 1, .int 0]) (rest := []) (m_ruleOf (B := 1) (j := 0) hD.w1 (by omega)) ⟨_, _, rfl, rfl, _, 9, _, hD.w1.w, rfl, rfl, rfl⟩ (Nat.le_of_ble_eq_true rfl) ⟨Nat.le_of_ble_eq_true rfl, Nat.le_of_ble_eq_true rfl⟩ ⟨Nat.le_of_ble_eq_true rfl, Nat.le_of_ble_eq_true rfl⟩ ?_
  show vm_J _ _ _ (37, (0, 0), [.ref 0, .int 0, .int v, .retAddr 0], [.int (I (1 + 3) 0)]) (G, I, F) _ _
  refine vm_J.go vm_q118 (k := 6) (hs := [(12, 9, [.ref 1, .ref 38, .ref 75, .ref 112, .ref 132, .ref 135, .ref 139, .int 0, .int 0]), (11, 7, [.ref (1 + 1), .ref (1 + 2), .ref (1 + 3), .ref (1 + 4), .ref (1 + 11), .ref (1 + 13), .ref (1 + 15)])]) (f' := (47, (0, 0), [.ref 0, .int 0, .int v, .int (I (1 + 3) 0)], [.int v, .int 0, .ref (1 + 3)])) (h' := (G, I, F)) (hs' := []) rfl (vm_b2 rfl (vm_b2 rfl (vm_b2 (vm_b2 (vm_hG hD.d) rfl) (vm_b2 (vm_b2 (vm_hG hD.w1.w) rfl) (vm_b2 rfl (vm_b2 rfl rfl)))))) ?_
  refine vm_J.call vm_q118 (Z := vm_M153) (n := 3) (k := 1) (mi := 153) (pc := 47) (en := (47, .invokestatic 92, 3, [153, 464, 0], .null)) rfl trivial rfl rfl vm_z153 (av := [.ref (1 + 3), .int 0, .int v]) (rest := []) (m_put_n (j := 0) (v := v) hD.w1.rl (by omega) (by omega)) rfl (Nat.le_of_ble_eq_true rfl) ⟨Nat.le_of_ble_eq_true rfl, Nat.le_of_ble_eq_true rfl⟩ ⟨Nat.le_of_ble_eq_true rfl, Nat.le_of_ble_eq_true rfl⟩ ?_
  show vm_J _ _ _ (50, (0, 0), [.ref 0, .int 0, .int v, .int (I (1 + 3) 0)], []) (G, (vm_up I (1 + 3) 0 v), F) _ _
  refine vm_J.go vm_q118 (k := 1) (hs := []) (f' := (51, (0, 0), [.ref 0, .int 0, .int v, .int (I (1 + 3) 0)], [.int (I (1 + 3) 0)])) (h' := (G, (vm_up I (1 + 3) 0 v), F)) (hs' := []) rfl rfl ?_
  exact vm_J.end vm_q118 (en := (51, .ireturn, 1, [], .null)) rfl rfl vm_rI (Nat.zero_le _) (Nat.zero_le _) rfl
set_option maxHeartbeats 4000000 in
set_option maxRecDepth 20000 in
/-- DitherDesk.rule -/
theorem c_rule_b1 {l : Launch} {X : vm_Cx} {G : List vm_Sh} {I : Nat → Nat → Int32} {F : Nat → Nat → UInt32} {v : Int32} (hD : vm_isD G) (hv : ¬ (0 ≤ v ∧ v ≤ 4)) : vm_K l X vm_M118 [.ref 0, .int 1, .int v] (G, I, F) (some (.int (-2))) (G, I, F) := by
  refine vm_K.mk (by decide) (Nat.le_of_ble_eq_true rfl) ?_
  show vm_J _ _ _ (0, (0, 0), [.ref 0, .int 1, .int v, .retAddr 0], []) _ _ _
  refine vm_J.go vm_q118 (k := 3) (hs := []) (f' := (3, (0, 0), [.ref 0, .int 1, .int v, .retAddr 0], [.int 3, .int 0, .int 1])) (h' := (G, I, F)) (hs' := []) rfl rfl ?_
  refine vm_J.call vm_q118 (Z := vm_M151) (n := 3) (k := 1) (mi := 151) (pc := 3) (en := (3, .invokestatic 56, 3, [151, 420, 0], .null)) rfl trivial rfl rfl vm_z151 (av := [.int 1, .int 0, .int 3]) (rest := []) (m_isWithin_y (v := 1) (a := 0) (b := 3) (by decide)) rfl (Nat.le_of_ble_eq_true rfl) ⟨Nat.le_of_ble_eq_true rfl, Nat.le_of_ble_eq_true rfl⟩ ⟨Nat.le_of_ble_eq_true rfl, Nat.le_of_ble_eq_true rfl⟩ ?_
  show vm_J _ _ _ (6, (0, 0), [.ref 0, .int 1, .int v, .retAddr 0], [.int 1]) (G, I, F) _ _
  refine vm_J.go vm_q118 (k := 1) (hs := []) (f' := (bif vm_ic .ne 1 0 then 11 else 9, (0, 0), [.ref 0, .int 1, .int v, .retAddr 0], [])) (h' := (G, I, F)) (hs' := []) rfl rfl ?_
  refine vm_J.bT (by decide) ?_
  refine vm_J.go vm_q118 (k := 4) (hs := []) (f' := (17, (0, 0), [.ref 0, .int 1, .int v, .retAddr 0], [.int 1, .ref 100001, .int 0, .int v])) (h' := (G, I, F)) (hs' := []) rfl rfl ?_
  refine vm_J.call vm_q118 (Z := vm_M152) (n := 2) (k := 1) (mi := 152) (pc := 17) (en := (17, .invokestatic 118, 3, [152, 511, 0], .null)) rfl trivial rfl rfl vm_z152 (av := [.ref 100001, .int 1]) (rest := [.int 0, .int v]) (m_at_s1_1) rfl (Nat.le_of_ble_eq_true rfl) ⟨Nat.le_of_ble_eq_true rfl, Nat.le_of_ble_eq_true rfl⟩ ⟨Nat.le_of_ble_eq_true rfl, Nat.le_of_ble_eq_true rfl⟩ ?_
  show vm_J _ _ _ (20, (0, 0), [.ref 0, .int 1, .int v, .retAddr 0], [.int 4, .int 0, .int v]) (G, I, F) _ _
  refine vm_J.call vm_q118 (Z := vm_M151) (n := 3) (k := 1) (mi := 151) (pc := 20) (en := (20, .invokestatic 56, 3, [151, 420, 0], .null)) rfl trivial rfl rfl vm_z151 (av := [.int v, .int 0, .int 4]) (rest := []) (m_isWithin_n (v := v) (a := 0) (b := 4) hv) rfl (Nat.le_of_ble_eq_true rfl) ⟨Nat.le_of_ble_eq_true rfl, Nat.le_of_ble_eq_true rfl⟩ ⟨Nat.le_of_ble_eq_true rfl, Nat.le_of_ble_eq_true rfl⟩ ?_
  show vm_J _ _ _ (23, (0, 0), [.ref 0, .int 1, .int v, .retAddr 0], [.int 0]) (G, I, F) _ _
  refine vm_J.go vm_q118 (k := 1) (hs := []) (f' := (bif vm_ic .ne 0 0 then 29 else 26, (0, 0), [.ref 0, .int 1, .int v, .retAddr 0], [])) (h' := (G, I, F)) (hs' := []) rfl rfl ?_
  refine vm_J.bF (by decide) ?_
  refine vm_J.go vm_q118 (k := 1) (hs := []) (f' := (28, (0, 0), [.ref 0, .int 1, .int v, .retAddr 0], [.int (-2)])) (h' := (G, I, F)) (hs' := []) rfl rfl ?_
  exact vm_J.end vm_q118 (en := (28, .ireturn, 1, [], .null)) rfl rfl vm_rI (Nat.zero_le _) (Nat.zero_le _) rfl
set_option maxHeartbeats 4000000 in
set_option maxRecDepth 20000 in
/-- DitherDesk.rule -/
theorem c_rule_1 {l : Launch} {X : vm_Cx} {G : List vm_Sh} {I : Nat → Nat → Int32} {F : Nat → Nat → UInt32} {v : Int32} (hD : vm_isD G) (hv : 0 ≤ v ∧ v ≤ 4) : vm_K l X vm_M118 [.ref 0, .int 1, .int v] (G, I, F) (some (.int (I (1 + 3) 1))) (G, (vm_up I (1 + 3) 1 v), F) := by
  refine vm_K.mk (by decide) (Nat.le_of_ble_eq_true rfl) ?_
  show vm_J _ _ _ (0, (0, 0), [.ref 0, .int 1, .int v, .retAddr 0], []) _ _ _
  refine vm_J.go vm_q118 (k := 3) (hs := []) (f' := (3, (0, 0), [.ref 0, .int 1, .int v, .retAddr 0], [.int 3, .int 0, .int 1])) (h' := (G, I, F)) (hs' := []) rfl rfl ?_
  refine vm_J.call vm_q118 (Z := vm_M151) (n := 3) (k := 1) (mi := 151) (pc := 3) (en := (3, .invokestatic 56, 3, [151, 420, 0], .null)) rfl trivial rfl rfl vm_z151 (av := [.int 1, .int 0, .int 3]) (rest := []) (m_isWithin_y (v := 1) (a := 0) (b := 3) (by decide)) rfl (Nat.le_of_ble_eq_true rfl) ⟨Nat.le_of_ble_eq_true rfl, Nat.le_of_ble_eq_true rfl⟩ ⟨Nat.le_of_ble_eq_true rfl, Nat.le_of_ble_eq_true rfl⟩ ?_
  show vm_J _ _ _ (6, (0, 0), [.ref 0, .int 1, .int v, .retAddr 0], [.int 1]) (G, I, F) _ _
  refine vm_J.go vm_q118 (k := 1) (hs := []) (f' := (bif vm_ic .ne 1 0 then 11 else 9, (0, 0), [.ref 0, .int 1, .int v, .retAddr 0], [])) (h' := (G, I, F)) (hs' := []) rfl rfl ?_
  refine vm_J.bT (by decide) ?_
  refine vm_J.go vm_q118 (k := 4) (hs := []) (f' := (17, (0, 0), [.ref 0, .int 1, .int v, .retAddr 0], [.int 1, .ref 100001, .int 0, .int v])) (h' := (G, I, F)) (hs' := []) rfl rfl ?_
  refine vm_J.call vm_q118 (Z := vm_M152) (n := 2) (k := 1) (mi := 152) (pc := 17) (en := (17, .invokestatic 118, 3, [152, 511, 0], .null)) rfl trivial rfl rfl vm_z152 (av := [.ref 100001, .int 1]) (rest := [.int 0, .int v]) (m_at_s1_1) rfl (Nat.le_of_ble_eq_true rfl) ⟨Nat.le_of_ble_eq_true rfl, Nat.le_of_ble_eq_true rfl⟩ ⟨Nat.le_of_ble_eq_true rfl, Nat.le_of_ble_eq_true rfl⟩ ?_
  show vm_J _ _ _ (20, (0, 0), [.ref 0, .int 1, .int v, .retAddr 0], [.int 4, .int 0, .int v]) (G, I, F) _ _
  refine vm_J.call vm_q118 (Z := vm_M151) (n := 3) (k := 1) (mi := 151) (pc := 20) (en := (20, .invokestatic 56, 3, [151, 420, 0], .null)) rfl trivial rfl rfl vm_z151 (av := [.int v, .int 0, .int 4]) (rest := []) (m_isWithin_y (v := v) (a := 0) (b := 4) hv) rfl (Nat.le_of_ble_eq_true rfl) ⟨Nat.le_of_ble_eq_true rfl, Nat.le_of_ble_eq_true rfl⟩ ⟨Nat.le_of_ble_eq_true rfl, Nat.le_of_ble_eq_true rfl⟩ ?_
  show vm_J _ _ _ (23, (0, 0), [.ref 0, .int 1, .int v, .retAddr 0], [.int 1]) (G, I, F) _ _
  refine vm_J.go vm_q118 (k := 1) (hs := []) (f' := (bif vm_ic .ne 1 0 then 29 else 26, (0, 0), [.ref 0, .int 1, .int v, .retAddr 0], [])) (h' := (G, I, F)) (hs' := []) rfl rfl ?_
  refine vm_J.bT (by decide) ?_
  refine vm_J.go vm_q118 (k := 3) (hs := [(12, 9, [.ref 1, .ref 38, .ref 75, .ref 112, .ref 132, .ref 135, .ref 139, .int 0, .int 0])]) (f' := (34, (0, 0), [.ref 0, .int 1, .int v, .retAddr 0], [.int 1, .ref 1])) (h' := (G, I, F)) (hs' := []) rfl (vm_b2 rfl (vm_b2 (vm_b2 (vm_hG hD.d) rfl) (vm_b2 rfl rfl))) ?_
  refine vm_J.call vm_q118 (Z := vm_M94) (n := 1) (k := 0) (mi := 94) (pc := 34) (en := (34, .invokevirtual 233, 3, [94, 745, 0], .null)) rfl trivial rfl rfl vm_z94 (av := [.ref 1, .int 1]) (rest := []) (m_ruleOf (B := 1) (j := 1) hD.w1 (by omega)) ⟨_, _, rfl, rfl, _, 9, _, hD.w1.w, rfl, rfl, rfl⟩ (Nat.le_of_ble_eq_true rfl) ⟨Nat.le_of_ble_eq_true rfl, Nat.le_of_ble_eq_true rfl⟩ ⟨Nat.le_of_ble_eq_true rfl, Nat.le_of_ble_eq_true rfl⟩ ?_
  show vm_J _ _ _ (37, (0, 0), [.ref 0, .int 1, .int v, .retAddr 0], [.int (I (1 + 3) 1)]) (G, I, F) _ _
  refine vm_J.go vm_q118 (k := 6) (hs := [(12, 9, [.ref 1, .ref 38, .ref 75, .ref 112, .ref 132, .ref 135, .ref 139, .int 0, .int 0]), (11, 7, [.ref (1 + 1), .ref (1 + 2), .ref (1 + 3), .ref (1 + 4), .ref (1 + 11), .ref (1 + 13), .ref (1 + 15)])]) (f' := (47, (0, 0), [.ref 0, .int 1, .int v, .int (I (1 + 3) 1)], [.int v, .int 1, .ref (1 + 3)])) (h' := (G, I, F)) (hs' := []) rfl (vm_b2 rfl (vm_b2 rfl (vm_b2 (vm_b2 (vm_hG hD.d) rfl) (vm_b2 (vm_b2 (vm_hG hD.w1.w) rfl) (vm_b2 rfl (vm_b2 rfl rfl)))))) ?_
  refine vm_J.call vm_q118 (Z := vm_M153) (n := 3) (k := 1) (mi := 153) (pc := 47) (en := (47, .invokestatic 92, 3, [153, 464, 0], .null)) rfl trivial rfl rfl vm_z153 (av := [.ref (1 + 3), .int 1, .int v]) (rest := []) (m_put_n (j := 1) (v := v) hD.w1.rl (by omega) (by omega)) rfl (Nat.le_of_ble_eq_true rfl) ⟨Nat.le_of_ble_eq_true rfl, Nat.le_of_ble_eq_true rfl⟩ ⟨Nat.le_of_ble_eq_true rfl, Nat.le_of_ble_eq_true rfl⟩ ?_
  show vm_J _ _ _ (50, (0, 0), [.ref 0, .int 1, .int v, .int (I (1 + 3) 1)], []) (G, (vm_up I (1 + 3) 1 v), F) _ _
  refine vm_J.go vm_q118 (k := 1) (hs := []) (f' := (51, (0, 0), [.ref 0, .int 1, .int v, .int (I (1 + 3) 1)], [.int (I (1 + 3) 1)])) (h' := (G, (vm_up I (1 + 3) 1 v), F)) (hs' := []) rfl rfl ?_
  exact vm_J.end vm_q118 (en := (51, .ireturn, 1, [], .null)) rfl rfl vm_rI (Nat.zero_le _) (Nat.zero_le _) rfl
set_option maxHeartbeats 4000000 in
set_option maxRecDepth 20000 in
/-- DitherDesk.rule -/
theorem c_rule_b2 {l : Launch} {X : vm_Cx} {G : List vm_Sh} {I : Nat → Nat → Int32} {F : Nat → Nat → UInt32} {v : Int32} (hD : vm_isD G) (hv : ¬ (0 ≤ v ∧ v ≤ 2)) : vm_K l X vm_M118 [.ref 0, .int 2, .int v] (G, I, F) (some (.int (-2))) (G, I, F) := by
  refine vm_K.mk (by decide) (Nat.le_of_ble_eq_true rfl) ?_
  show vm_J _ _ _ (0, (0, 0), [.ref 0, .int 2, .int v, .retAddr 0], []) _ _ _
  refine vm_J.go vm_q118 (k := 3) (hs := []) (f' := (3, (0, 0), [.ref 0, .int 2, .int v, .retAddr 0], [.int 3, .int 0, .int 2])) (h' := (G, I, F)) (hs' := []) rfl rfl ?_
  refine vm_J.call vm_q118 (Z := vm_M151) (n := 3) (k := 1) (mi := 151) (pc := 3) (en := (3, .invokestatic 56, 3, [151, 420, 0], .null)) rfl trivial rfl rfl vm_z151 (av := [.int 2, .int 0, .int 3]) (rest := []) (m_isWithin_y (v := 2) (a := 0) (b := 3) (by decide)) rfl (Nat.le_of_ble_eq_true rfl) ⟨Nat.le_of_ble_eq_true rfl, Nat.le_of_ble_eq_true rfl⟩ ⟨Nat.le_of_ble_eq_true rfl, Nat.le_of_ble_eq_true rfl⟩ ?_
  show vm_J _ _ _ (6, (0, 0), [.ref 0, .int 2, .int v, .retAddr 0], [.int 1]) (G, I, F) _ _
  refine vm_J.go vm_q118 (k := 1) (hs := []) (f' := (bif vm_ic .ne 1 0 then 11 else 9, (0, 0), [.ref 0, .int 2, .int v, .retAddr 0], [])) (h' := (G, I, F)) (hs' := []) rfl rfl ?_
  refine vm_J.bT (by decide) ?_
  refine vm_J.go vm_q118 (k := 4) (hs := []) (f' := (17, (0, 0), [.ref 0, .int 2, .int v, .retAddr 0], [.int 2, .ref 100001, .int 0, .int v])) (h' := (G, I, F)) (hs' := []) rfl rfl ?_
  refine vm_J.call vm_q118 (Z := vm_M152) (n := 2) (k := 1) (mi := 152) (pc := 17) (en := (17, .invokestatic 118, 3, [152, 511, 0], .null)) rfl trivial rfl rfl vm_z152 (av := [.ref 100001, .int 2]) (rest := [.int 0, .int v]) (m_at_s1_2) rfl (Nat.le_of_ble_eq_true rfl) ⟨Nat.le_of_ble_eq_true rfl, Nat.le_of_ble_eq_true rfl⟩ ⟨Nat.le_of_ble_eq_true rfl, Nat.le_of_ble_eq_true rfl⟩ ?_
  show vm_J _ _ _ (20, (0, 0), [.ref 0, .int 2, .int v, .retAddr 0], [.int 2, .int 0, .int v]) (G, I, F) _ _
  refine vm_J.call vm_q118 (Z := vm_M151) (n := 3) (k := 1) (mi := 151) (pc := 20) (en := (20, .invokestatic 56, 3, [151, 420, 0], .null)) rfl trivial rfl rfl vm_z151 (av := [.int v, .int 0, .int 2]) (rest := []) (m_isWithin_n (v := v) (a := 0) (b := 2) hv) rfl (Nat.le_of_ble_eq_true rfl) ⟨Nat.le_of_ble_eq_true rfl, Nat.le_of_ble_eq_true rfl⟩ ⟨Nat.le_of_ble_eq_true rfl, Nat.le_of_ble_eq_true rfl⟩ ?_
  show vm_J _ _ _ (23, (0, 0), [.ref 0, .int 2, .int v, .retAddr 0], [.int 0]) (G, I, F) _ _
  refine vm_J.go vm_q118 (k := 1) (hs := []) (f' := (bif vm_ic .ne 0 0 then 29 else 26, (0, 0), [.ref 0, .int 2, .int v, .retAddr 0], [])) (h' := (G, I, F)) (hs' := []) rfl rfl ?_
  refine vm_J.bF (by decide) ?_
  refine vm_J.go vm_q118 (k := 1) (hs := []) (f' := (28, (0, 0), [.ref 0, .int 2, .int v, .retAddr 0], [.int (-2)])) (h' := (G, I, F)) (hs' := []) rfl rfl ?_
  exact vm_J.end vm_q118 (en := (28, .ireturn, 1, [], .null)) rfl rfl vm_rI (Nat.zero_le _) (Nat.zero_le _) rfl
set_option maxHeartbeats 4000000 in
set_option maxRecDepth 20000 in
/-- DitherDesk.rule -/
theorem c_rule_2 {l : Launch} {X : vm_Cx} {G : List vm_Sh} {I : Nat → Nat → Int32} {F : Nat → Nat → UInt32} {v : Int32} (hD : vm_isD G) (hv : 0 ≤ v ∧ v ≤ 2) : vm_K l X vm_M118 [.ref 0, .int 2, .int v] (G, I, F) (some (.int (I (1 + 3) 2))) (G, (vm_up I (1 + 3) 2 v), F) := by
  refine vm_K.mk (by decide) (Nat.le_of_ble_eq_true rfl) ?_
  show vm_J _ _ _ (0, (0, 0), [.ref 0, .int 2, .int v, .retAddr 0], []) _ _ _
  refine vm_J.go vm_q118 (k := 3) (hs := []) (f' := (3, (0, 0), [.ref 0, .int 2, .int v, .retAddr 0], [.int 3, .int 0, .int 2])) (h' := (G, I, F)) (hs' := []) rfl rfl ?_
  refine vm_J.call vm_q118 (Z := vm_M151) (n := 3) (k := 1) (mi := 151) (pc := 3) (en := (3, .invokestatic 56, 3, [151, 420, 0], .null)) rfl trivial rfl rfl vm_z151 (av := [.int 2, .int 0, .int 3]) (rest := []) (m_isWithin_y (v := 2) (a := 0) (b := 3) (by decide)) rfl (Nat.le_of_ble_eq_true rfl) ⟨Nat.le_of_ble_eq_true rfl, Nat.le_of_ble_eq_true rfl⟩ ⟨Nat.le_of_ble_eq_true rfl, Nat.le_of_ble_eq_true rfl⟩ ?_
  show vm_J _ _ _ (6, (0, 0), [.ref 0, .int 2, .int v, .retAddr 0], [.int 1]) (G, I, F) _ _
  refine vm_J.go vm_q118 (k := 1) (hs := []) (f' := (bif vm_ic .ne 1 0 then 11 else 9, (0, 0), [.ref 0, .int 2, .int v, .retAddr 0], [])) (h' := (G, I, F)) (hs' := []) rfl rfl ?_
  refine vm_J.bT (by decide) ?_
  refine vm_J.go vm_q118 (k := 4) (hs := []) (f' := (17, (0, 0), [.ref 0, .int 2, .int v, .retAddr 0], [.int 2, .ref 100001, .int 0, .int v])) (h' := (G, I, F)) (hs' := []) rfl rfl ?_
  refine vm_J.call vm_q118 (Z := vm_M152) (n := 2) (k := 1) (mi := 152) (pc := 17) (en := (17, .invokestatic 118, 3, [152, 511, 0], .null)) rfl trivial rfl rfl vm_z152 (av := [.ref 100001, .int 2]) (rest := [.int 0, .int v]) (m_at_s1_2) rfl (Nat.le_of_ble_eq_true rfl) ⟨Nat.le_of_ble_eq_true rfl, Nat.le_of_ble_eq_true rfl⟩ ⟨Nat.le_of_ble_eq_true rfl, Nat.le_of_ble_eq_true rfl⟩ ?_
  show vm_J _ _ _ (20, (0, 0), [.ref 0, .int 2, .int v, .retAddr 0], [.int 2, .int 0, .int v]) (G, I, F) _ _
  refine vm_J.call vm_q118 (Z := vm_M151) (n := 3) (k := 1) (mi := 151) (pc := 20) (en := (20, .invokestatic 56, 3, [151, 420, 0], .null)) rfl trivial rfl rfl vm_z151 (av := [.int v, .int 0, .int 2]) (rest := []) (m_isWithin_y (v := v) (a := 0) (b := 2) hv) rfl (Nat.le_of_ble_eq_true rfl) ⟨Nat.le_of_ble_eq_true rfl, Nat.le_of_ble_eq_true rfl⟩ ⟨Nat.le_of_ble_eq_true rfl, Nat.le_of_ble_eq_true rfl⟩ ?_
  show vm_J _ _ _ (23, (0, 0), [.ref 0, .int 2, .int v, .retAddr 0], [.int 1]) (G, I, F) _ _
  refine vm_J.go vm_q118 (k := 1) (hs := []) (f' := (bif vm_ic .ne 1 0 then 29 else 26, (0, 0), [.ref 0, .int 2, .int v, .retAddr 0], [])) (h' := (G, I, F)) (hs' := []) rfl rfl ?_
  refine vm_J.bT (by decide) ?_
  refine vm_J.go vm_q118 (k := 3) (hs := [(12, 9, [.ref 1, .ref 38, .ref 75, .ref 112, .ref 132, .ref 135, .ref 139, .int 0, .int 0])]) (f' := (34, (0, 0), [.ref 0, .int 2, .int v, .retAddr 0], [.int 2, .ref 1])) (h' := (G, I, F)) (hs' := []) rfl (vm_b2 rfl (vm_b2 (vm_b2 (vm_hG hD.d) rfl) (vm_b2 rfl rfl))) ?_
  refine vm_J.call vm_q118 (Z := vm_M94) (n := 1) (k := 0) (mi := 94) (pc := 34) (en := (34, .invokevirtual 233, 3, [94, 745, 0], .null)) rfl trivial rfl rfl vm_z94 (av := [.ref 1, .int 2]) (rest := []) (m_ruleOf (B := 1) (j := 2) hD.w1 (by omega)) ⟨_, _, rfl, rfl, _, 9, _, hD.w1.w, rfl, rfl, rfl⟩ (Nat.le_of_ble_eq_true rfl) ⟨Nat.le_of_ble_eq_true rfl, Nat.le_of_ble_eq_true rfl⟩ ⟨Nat.le_of_ble_eq_true rfl, Nat.le_of_ble_eq_true rfl⟩ ?_
  show vm_J _ _ _ (37, (0, 0), [.ref 0, .int 2, .int v, .retAddr 0], [.int (I (1 + 3) 2)]) (G, I, F) _ _
  refine vm_J.go vm_q118 (k := 6) (hs := [(12, 9, [.ref 1, .ref 38, .ref 75, .ref 112, .ref 132, .ref 135, .ref 139, .int 0, .int 0]), (11, 7, [.ref (1 + 1), .ref (1 + 2), .ref (1 + 3), .ref (1 + 4), .ref (1 + 11), .ref (1 + 13), .ref (1 + 15)])]) (f' := (47, (0, 0), [.ref 0, .int 2, .int v, .int (I (1 + 3) 2)], [.int v, .int 2, .ref (1 + 3)])) (h' := (G, I, F)) (hs' := []) rfl (vm_b2 rfl (vm_b2 rfl (vm_b2 (vm_b2 (vm_hG hD.d) rfl) (vm_b2 (vm_b2 (vm_hG hD.w1.w) rfl) (vm_b2 rfl (vm_b2 rfl rfl)))))) ?_
  refine vm_J.call vm_q118 (Z := vm_M153) (n := 3) (k := 1) (mi := 153) (pc := 47) (en := (47, .invokestatic 92, 3, [153, 464, 0], .null)) rfl trivial rfl rfl vm_z153 (av := [.ref (1 + 3), .int 2, .int v]) (rest := []) (m_put_n (j := 2) (v := v) hD.w1.rl (by omega) (by omega)) rfl (Nat.le_of_ble_eq_true rfl) ⟨Nat.le_of_ble_eq_true rfl, Nat.le_of_ble_eq_true rfl⟩ ⟨Nat.le_of_ble_eq_true rfl, Nat.le_of_ble_eq_true rfl⟩ ?_
  show vm_J _ _ _ (50, (0, 0), [.ref 0, .int 2, .int v, .int (I (1 + 3) 2)], []) (G, (vm_up I (1 + 3) 2 v), F) _ _
  refine vm_J.go vm_q118 (k := 1) (hs := []) (f' := (51, (0, 0), [.ref 0, .int 2, .int v, .int (I (1 + 3) 2)], [.int (I (1 + 3) 2)])) (h' := (G, (vm_up I (1 + 3) 2 v), F)) (hs' := []) rfl rfl ?_
  exact vm_J.end vm_q118 (en := (51, .ireturn, 1, [], .null)) rfl rfl vm_rI (Nat.zero_le _) (Nat.zero_le _) rfl
set_option maxHeartbeats 4000000 in
set_option maxRecDepth 20000 in
/-- DitherDesk.rule -/
theorem c_rule_b3 {l : Launch} {X : vm_Cx} {G : List vm_Sh} {I : Nat → Nat → Int32} {F : Nat → Nat → UInt32} {v : Int32} (hD : vm_isD G) (hv : ¬ (0 ≤ v ∧ v ≤ 63)) : vm_K l X vm_M118 [.ref 0, .int 3, .int v] (G, I, F) (some (.int (-2))) (G, I, F) := by
  refine vm_K.mk (by decide) (Nat.le_of_ble_eq_true rfl) ?_
  show vm_J _ _ _ (0, (0, 0), [.ref 0, .int 3, .int v, .retAddr 0], []) _ _ _
  refine vm_J.go vm_q118 (k := 3) (hs := []) (f' := (3, (0, 0), [.ref 0, .int 3, .int v, .retAddr 0], [.int 3, .int 0, .int 3])) (h' := (G, I, F)) (hs' := []) rfl rfl ?_
  refine vm_J.call vm_q118 (Z := vm_M151) (n := 3) (k := 1) (mi := 151) (pc := 3) (en := (3, .invokestatic 56, 3, [151, 420, 0], .null)) rfl trivial rfl rfl vm_z151 (av := [.int 3, .int 0, .int 3]) (rest := []) (m_isWithin_y (v := 3) (a := 0) (b := 3) (by decide)) rfl (Nat.le_of_ble_eq_true rfl) ⟨Nat.le_of_ble_eq_true rfl, Nat.le_of_ble_eq_true rfl⟩ ⟨Nat.le_of_ble_eq_true rfl, Nat.le_of_ble_eq_true rfl⟩ ?_
  show vm_J _ _ _ (6, (0, 0), [.ref 0, .int 3, .int v, .retAddr 0], [.int 1]) (G, I, F) _ _
  refine vm_J.go vm_q118 (k := 1) (hs := []) (f' := (bif vm_ic .ne 1 0 then 11 else 9, (0, 0), [.ref 0, .int 3, .int v, .retAddr 0], [])) (h' := (G, I, F)) (hs' := []) rfl rfl ?_
  refine vm_J.bT (by decide) ?_
  refine vm_J.go vm_q118 (k := 4) (hs := []) (f' := (17, (0, 0), [.ref 0, .int 3, .int v, .retAddr 0], [.int 3, .ref 100001, .int 0, .int v])) (h' := (G, I, F)) (hs' := []) rfl rfl ?_
  refine vm_J.call vm_q118 (Z := vm_M152) (n := 2) (k := 1) (mi := 152) (pc := 17) (en := (17, .invokestatic 118, 3, [152, 511, 0], .null)) rfl trivial rfl rfl vm_z152 (av := [.ref 100001, .int 3]) (rest := [.int 0, .int v]) (m_at_s1_3) rfl (Nat.le_of_ble_eq_true rfl) ⟨Nat.le_of_ble_eq_true rfl, Nat.le_of_ble_eq_true rfl⟩ ⟨Nat.le_of_ble_eq_true rfl, Nat.le_of_ble_eq_true rfl⟩ ?_
  show vm_J _ _ _ (20, (0, 0), [.ref 0, .int 3, .int v, .retAddr 0], [.int 63, .int 0, .int v]) (G, I, F) _ _
  refine vm_J.call vm_q118 (Z := vm_M151) (n := 3) (k := 1) (mi := 151) (pc := 20) (en := (20, .invokestatic 56, 3, [151, 420, 0], .null)) rfl trivial rfl rfl vm_z151 (av := [.int v, .int 0, .int 63]) (rest := []) (m_isWithin_n (v := v) (a := 0) (b := 63) hv) rfl (Nat.le_of_ble_eq_true rfl) ⟨Nat.le_of_ble_eq_true rfl, Nat.le_of_ble_eq_true rfl⟩ ⟨Nat.le_of_ble_eq_true rfl, Nat.le_of_ble_eq_true rfl⟩ ?_
  show vm_J _ _ _ (23, (0, 0), [.ref 0, .int 3, .int v, .retAddr 0], [.int 0]) (G, I, F) _ _
  refine vm_J.go vm_q118 (k := 1) (hs := []) (f' := (bif vm_ic .ne 0 0 then 29 else 26, (0, 0), [.ref 0, .int 3, .int v, .retAddr 0], [])) (h' := (G, I, F)) (hs' := []) rfl rfl ?_
  refine vm_J.bF (by decide) ?_
  refine vm_J.go vm_q118 (k := 1) (hs := []) (f' := (28, (0, 0), [.ref 0, .int 3, .int v, .retAddr 0], [.int (-2)])) (h' := (G, I, F)) (hs' := []) rfl rfl ?_
  exact vm_J.end vm_q118 (en := (28, .ireturn, 1, [], .null)) rfl rfl vm_rI (Nat.zero_le _) (Nat.zero_le _) rfl
set_option maxHeartbeats 4000000 in
set_option maxRecDepth 20000 in
/-- DitherDesk.rule -/
theorem c_rule_3 {l : Launch} {X : vm_Cx} {G : List vm_Sh} {I : Nat → Nat → Int32} {F : Nat → Nat → UInt32} {v : Int32} (hD : vm_isD G) (hv : 0 ≤ v ∧ v ≤ 63) : vm_K l X vm_M118 [.ref 0, .int 3, .int v] (G, I, F) (some (.int (I (1 + 3) 3))) (G, (vm_up I (1 + 3) 3 v), F) := by
  refine vm_K.mk (by decide) (Nat.le_of_ble_eq_true rfl) ?_
  show vm_J _ _ _ (0, (0, 0), [.ref 0, .int 3, .int v, .retAddr 0], []) _ _ _
  refine vm_J.go vm_q118 (k := 3) (hs := []) (f' := (3, (0, 0), [.ref 0, .int 3, .int v, .retAddr 0], [.int 3, .int 0, .int 3])) (h' := (G, I, F)) (hs' := []) rfl rfl ?_
  refine vm_J.call vm_q118 (Z := vm_M151) (n := 3) (k := 1) (mi := 151) (pc := 3) (en := (3, .invokestatic 56, 3, [151, 420, 0], .null)) rfl trivial rfl rfl vm_z151 (av := [.int 3, .int 0, .int 3]) (rest := []) (m_isWithin_y (v := 3) (a := 0) (b := 3) (by decide)) rfl (Nat.le_of_ble_eq_true rfl) ⟨Nat.le_of_ble_eq_true rfl, Nat.le_of_ble_eq_true rfl⟩ ⟨Nat.le_of_ble_eq_true rfl, Nat.le_of_ble_eq_true rfl⟩ ?_
  show vm_J _ _ _ (6, (0, 0), [.ref 0, .int 3, .int v, .retAddr 0], [.int 1]) (G, I, F) _ _
  refine vm_J.go vm_q118 (k := 1) (hs := []) (f' := (bif vm_ic .ne 1 0 then 11 else 9, (0, 0), [.ref 0, .int 3, .int v, .retAddr 0], [])) (h' := (G, I, F)) (hs' := []) rfl rfl ?_
  refine vm_J.bT (by decide) ?_
  refine vm_J.go vm_q118 (k := 4) (hs := []) (f' := (17, (0, 0), [.ref 0, .int 3, .int v, .retAddr 0], [.int 3, .ref 100001, .int 0, .int v])) (h' := (G, I, F)) (hs' := []) rfl rfl ?_
  refine vm_J.call vm_q118 (Z := vm_M152) (n := 2) (k := 1) (mi := 152) (pc := 17) (en := (17, .invokestatic 118, 3, [152, 511, 0], .null)) rfl trivial rfl rfl vm_z152 (av := [.ref 100001, .int 3]) (rest := [.int 0, .int v]) (m_at_s1_3) rfl (Nat.le_of_ble_eq_true rfl) ⟨Nat.le_of_ble_eq_true rfl, Nat.le_of_ble_eq_true rfl⟩ ⟨Nat.le_of_ble_eq_true rfl, Nat.le_of_ble_eq_true rfl⟩ ?_
  show vm_J _ _ _ (20, (0, 0), [.ref 0, .int 3, .int v, .retAddr 0], [.int 63, .int 0, .int v]) (G, I, F) _ _
  refine vm_J.call vm_q118 (Z := vm_M151) (n := 3) (k := 1) (mi := 151) (pc := 20) (en := (20, .invokestatic 56, 3, [151, 420, 0], .null)) rfl trivial rfl rfl vm_z151 (av := [.int v, .int 0, .int 63]) (rest := []) (m_isWithin_y (v := v) (a := 0) (b := 63) hv) rfl (Nat.le_of_ble_eq_true rfl) ⟨Nat.le_of_ble_eq_true rfl, Nat.le_of_ble_eq_true rfl⟩ ⟨Nat.le_of_ble_eq_true rfl, Nat.le_of_ble_eq_true rfl⟩ ?_
  show vm_J _ _ _ (23, (0, 0), [.ref 0, .int 3, .int v, .retAddr 0], [.int 1]) (G, I, F) _ _
  refine vm_J.go vm_q118 (k := 1) (hs := []) (f' := (bif vm_ic .ne 1 0 then 29 else 26, (0, 0), [.ref 0, .int 3, .int v, .retAddr 0], [])) (h' := (G, I, F)) (hs' := []) rfl rfl ?_
  refine vm_J.bT (by decide) ?_
  refine vm_J.go vm_q118 (k := 3) (hs := [(12, 9, [.ref 1, .ref 38, .ref 75, .ref 112, .ref 132, .ref 135, .ref 139, .int 0, .int 0])]) (f' := (34, (0, 0), [.ref 0, .int 3, .int v, .retAddr 0], [.int 3, .ref 1])) (h' := (G, I, F)) (hs' := []) rfl (vm_b2 rfl (vm_b2 (vm_b2 (vm_hG hD.d) rfl) (vm_b2 rfl rfl))) ?_
  refine vm_J.call vm_q118 (Z := vm_M94) (n := 1) (k := 0) (mi := 94) (pc := 34) (en := (34, .invokevirtual 233, 3, [94, 745, 0], .null)) rfl trivial rfl rfl vm_z94 (av := [.ref 1, .int 3]) (rest := []) (m_ruleOf (B := 1) (j := 3) hD.w1 (by omega)) ⟨_, _, rfl, rfl, _, 9, _, hD.w1.w, rfl, rfl, rfl⟩ (Nat.le_of_ble_eq_true rfl) ⟨Nat.le_of_ble_eq_true rfl, Nat.le_of_ble_eq_true rfl⟩ ⟨Nat.le_of_ble_eq_true rfl, Nat.le_of_ble_eq_true rfl⟩ ?_
  show vm_J _ _ _ (37, (0, 0), [.ref 0, .int 3, .int v, .retAddr 0], [.int (I (1 + 3) 3)]) (G, I, F) _ _
  refine vm_J.go vm_q118 (k := 6) (hs := [(12, 9, [.ref 1, .ref 38, .ref 75, .ref 112, .ref 132, .ref 135, .ref 139, .int 0, .int 0]), (11, 7, [.ref (1 + 1), .ref (1 + 2), .ref (1 + 3), .ref (1 + 4), .ref (1 + 11), .ref (1 + 13), .ref (1 + 15)])]) (f' := (47, (0, 0), [.ref 0, .int 3, .int v, .int (I (1 + 3) 3)], [.int v, .int 3, .ref (1 + 3)])) (h' := (G, I, F)) (hs' := []) rfl (vm_b2 rfl (vm_b2 rfl (vm_b2 (vm_b2 (vm_hG hD.d) rfl) (vm_b2 (vm_b2 (vm_hG hD.w1.w) rfl) (vm_b2 rfl (vm_b2 rfl rfl)))))) ?_
  refine vm_J.call vm_q118 (Z := vm_M153) (n := 3) (k := 1) (mi := 153) (pc := 47) (en := (47, .invokestatic 92, 3, [153, 464, 0], .null)) rfl trivial rfl rfl vm_z153 (av := [.ref (1 + 3), .int 3, .int v]) (rest := []) (m_put_n (j := 3) (v := v) hD.w1.rl (by omega) (by omega)) rfl (Nat.le_of_ble_eq_true rfl) ⟨Nat.le_of_ble_eq_true rfl, Nat.le_of_ble_eq_true rfl⟩ ⟨Nat.le_of_ble_eq_true rfl, Nat.le_of_ble_eq_true rfl⟩ ?_
  show vm_J _ _ _ (50, (0, 0), [.ref 0, .int 3, .int v, .int (I (1 + 3) 3)], []) (G, (vm_up I (1 + 3) 3 v), F) _ _
  refine vm_J.go vm_q118 (k := 1) (hs := []) (f' := (51, (0, 0), [.ref 0, .int 3, .int v, .int (I (1 + 3) 3)], [.int (I (1 + 3) 3)])) (h' := (G, (vm_up I (1 + 3) 3 v), F)) (hs' := []) rfl rfl ?_
  exact vm_J.end vm_q118 (en := (51, .ireturn, 1, [], .null)) rfl rfl vm_rI (Nat.zero_le _) (Nat.zero_le _) rfl
set_option maxHeartbeats 4000000 in
set_option maxRecDepth 20000 in
/-- DitherDesk.far -/
theorem c_far_y {l : Launch} {X : vm_Cx} {G : List vm_Sh} {I : Nat → Nat → Int32} {F : Nat → Nat → UInt32} {x : Int32} {y : Int32} (hD : vm_isD G) (hx : 0 ≤ x ∧ x ≤ 262143) (hy : 0 ≤ y ∧ y ≤ 262143) : vm_K l X vm_M119 [.ref 0, .int x, .int y] (G, I, F) (some (.int (sp_far (I (1 + 3) 0) x y))) (G, I, F) := by
  refine vm_K.mk (by decide) (Nat.le_of_ble_eq_true rfl) ?_
  show vm_J _ _ _ (0, (0, 0), [.ref 0, .int x, .int y], []) _ _ _
  refine vm_J.go vm_q119 (k := 1) (hs := []) (f' := (1, (0, 0), [.ref 0, .int x, .int y], [.int x])) (h' := (G, I, F)) (hs' := []) rfl rfl ?_
  refine vm_J.call vm_q119 (Z := vm_M163) (n := 1) (k := 1) (mi := 163) (pc := 1) (en := (1, .invokestatic 77, 3, [163, 448, 0], .null)) rfl trivial rfl rfl vm_z163 (av := [.int x]) (rest := []) (m_isColour_y (c := x) hx) rfl (Nat.le_of_ble_eq_true rfl) ⟨Nat.le_of_ble_eq_true rfl, Nat.le_of_ble_eq_true rfl⟩ ⟨Nat.le_of_ble_eq_true rfl, Nat.le_of_ble_eq_true rfl⟩ ?_
  show vm_J _ _ _ (4, (0, 0), [.ref 0, .int x, .int y], [.int 1]) (G, I, F) _ _
  refine vm_J.go vm_q119 (k := 1) (hs := []) (f' := (bif vm_ic .eq 1 0 then 14 else 7, (0, 0), [.ref 0, .int x, .int y], [])) (h' := (G, I, F)) (hs' := []) rfl rfl ?_
  refine vm_J.bF (by decide) ?_
  refine vm_J.go vm_q119 (k := 1) (hs := []) (f' := (8, (0, 0), [.ref 0, .int x, .int y], [.int y])) (h' := (G, I, F)) (hs' := []) rfl rfl ?_
  refine vm_J.call vm_q119 (Z := vm_M163) (n := 1) (k := 1) (mi := 163) (pc := 8) (en := (8, .invokestatic 77, 3, [163, 448, 0], .null)) rfl trivial rfl rfl vm_z163 (av := [.int y]) (rest := []) (m_isColour_y (c := y) hy) rfl (Nat.le_of_ble_eq_true rfl) ⟨Nat.le_of_ble_eq_true rfl, Nat.le_of_ble_eq_true rfl⟩ ⟨Nat.le_of_ble_eq_true rfl, Nat.le_of_ble_eq_true rfl⟩ ?_
  show vm_J _ _ _ (11, (0, 0), [.ref 0, .int x, .int y], [.int 1]) (G, I, F) _ _
  refine vm_J.go vm_q119 (k := 1) (hs := []) (f' := (bif vm_ic .ne 1 0 then 17 else 14, (0, 0), [.ref 0, .int x, .int y], [])) (h' := (G, I, F)) (hs' := []) rfl rfl ?_
  refine vm_J.bT (by decide) ?_
  refine vm_J.go vm_q119 (k := 3) (hs := [(12, 9, [.ref 1, .ref 38, .ref 75, .ref 112, .ref 132, .ref 135, .ref 139, .int 0, .int 0])]) (f' := (22, (0, 0), [.ref 0, .int x, .int y], [.int 0, .ref 1])) (h' := (G, I, F)) (hs' := []) rfl (vm_b2 rfl (vm_b2 (vm_b2 (vm_hG hD.d) rfl) (vm_b2 rfl rfl))) ?_
  refine vm_J.call vm_q119 (Z := vm_M94) (n := 1) (k := 0) (mi := 94) (pc := 22) (en := (22, .invokevirtual 233, 3, [94, 745, 0], .null)) rfl trivial rfl rfl vm_z94 (av := [.ref 1, .int 0]) (rest := []) (m_ruleOf (B := 1) (j := 0) hD.w1 (by omega)) ⟨_, _, rfl, rfl, _, 9, _, hD.w1.w, rfl, rfl, rfl⟩ (Nat.le_of_ble_eq_true rfl) ⟨Nat.le_of_ble_eq_true rfl, Nat.le_of_ble_eq_true rfl⟩ ⟨Nat.le_of_ble_eq_true rfl, Nat.le_of_ble_eq_true rfl⟩ ?_
  show vm_J _ _ _ (25, (0, 0), [.ref 0, .int x, .int y], [.int (I (1 + 3) 0)]) (G, I, F) _ _
  refine vm_J.go vm_q119 (k := 2) (hs := []) (f' := (27, (0, 0), [.ref 0, .int x, .int y], [.int y, .int x, .int (I (1 + 3) 0)])) (h' := (G, I, F)) (hs' := []) rfl rfl ?_
  refine vm_J.call vm_q119 (Z := vm_M165) (n := 3) (k := 1) (mi := 165) (pc := 27) (en := (27, .invokestatic 246, 3, [165, 791, 0], .null)) rfl trivial rfl rfl vm_z165 (av := [.int (I (1 + 3) 0), .int x, .int y]) (rest := []) (m_farBetween (m := I (1 + 3) 0) (x := x) (y := y)) rfl (Nat.le_of_ble_eq_true rfl) ⟨Nat.le_of_ble_eq_true rfl, Nat.le_of_ble_eq_true rfl⟩ ⟨Nat.le_of_ble_eq_true rfl, Nat.le_of_ble_eq_true rfl⟩ ?_
  show vm_J _ _ _ (30, (0, 0), [.ref 0, .int x, .int y], [.int (sp_far (I (1 + 3) 0) x y)]) (G, I, F) _ _
  exact vm_J.end vm_q119 (en := (30, .ireturn, 1, [], .null)) rfl rfl vm_rI (Nat.zero_le _) (Nat.zero_le _) rfl
set_option maxHeartbeats 4000000 in
set_option maxRecDepth 20000 in
/-- DitherDesk.far -/
theorem c_far_b1 {l : Launch} {X : vm_Cx} {G : List vm_Sh} {I : Nat → Nat → Int32} {F : Nat → Nat → UInt32} {x : Int32} {y : Int32} (hD : vm_isD G) (hx : ¬ (0 ≤ x ∧ x ≤ 262143)) : vm_K l X vm_M119 [.ref 0, .int x, .int y] (G, I, F) (some (.int (-2))) (G, I, F) := by
  refine vm_K.mk (by decide) (Nat.le_of_ble_eq_true rfl) ?_
  show vm_J _ _ _ (0, (0, 0), [.ref 0, .int x, .int y], []) _ _ _
  refine vm_J.go vm_q119 (k := 1) (hs := []) (f' := (1, (0, 0), [.ref 0, .int x, .int y], [.int x])) (h' := (G, I, F)) (hs' := []) rfl rfl ?_
  refine vm_J.call vm_q119 (Z := vm_M163) (n := 1) (k := 1) (mi := 163) (pc := 1) (en := (1, .invokestatic 77, 3, [163, 448, 0], .null)) rfl trivial rfl rfl vm_z163 (av := [.int x]) (rest := []) (m_isColour_n (c := x) hx) rfl (Nat.le_of_ble_eq_true rfl) ⟨Nat.le_of_ble_eq_true rfl, Nat.le_of_ble_eq_true rfl⟩ ⟨Nat.le_of_ble_eq_true rfl, Nat.le_of_ble_eq_true rfl⟩ ?_
  show vm_J _ _ _ (4, (0, 0), [.ref 0, .int x, .int y], [.int 0]) (G, I, F) _ _
  refine vm_J.go vm_q119 (k := 1) (hs := []) (f' := (bif vm_ic .eq 0 0 then 14 else 7, (0, 0), [.ref 0, .int x, .int y], [])) (h' := (G, I, F)) (hs' := []) rfl rfl ?_
  refine vm_J.bT (by decide) ?_
  refine vm_J.go vm_q119 (k := 1) (hs := []) (f' := (16, (0, 0), [.ref 0, .int x, .int y], [.int (-2)])) (h' := (G, I, F)) (hs' := []) rfl rfl ?_
  exact vm_J.end vm_q119 (en := (16, .ireturn, 1, [], .null)) rfl rfl vm_rI (Nat.zero_le _) (Nat.zero_le _) rfl
set_option maxHeartbeats 4000000 in
set_option maxRecDepth 20000 in
/-- DitherDesk.far -/
theorem c_far_b2 {l : Launch} {X : vm_Cx} {G : List vm_Sh} {I : Nat → Nat → Int32} {F : Nat → Nat → UInt32} {x : Int32} {y : Int32} (hD : vm_isD G) (hx : 0 ≤ x ∧ x ≤ 262143) (hy : ¬ (0 ≤ y ∧ y ≤ 262143)) : vm_K l X vm_M119 [.ref 0, .int x, .int y] (G, I, F) (some (.int (-2))) (G, I, F) := by
  refine vm_K.mk (by decide) (Nat.le_of_ble_eq_true rfl) ?_
  show vm_J _ _ _ (0, (0, 0), [.ref 0, .int x, .int y], []) _ _ _
  refine vm_J.go vm_q119 (k := 1) (hs := []) (f' := (1, (0, 0), [.ref 0, .int x, .int y], [.int x])) (h' := (G, I, F)) (hs' := []) rfl rfl ?_
  refine vm_J.call vm_q119 (Z := vm_M163) (n := 1) (k := 1) (mi := 163) (pc := 1) (en := (1, .invokestatic 77, 3, [163, 448, 0], .null)) rfl trivial rfl rfl vm_z163 (av := [.int x]) (rest := []) (m_isColour_y (c := x) hx) rfl (Nat.le_of_ble_eq_true rfl) ⟨Nat.le_of_ble_eq_true rfl, Nat.le_of_ble_eq_true rfl⟩ ⟨Nat.le_of_ble_eq_true rfl, Nat.le_of_ble_eq_true rfl⟩ ?_
  show vm_J _ _ _ (4, (0, 0), [.ref 0, .int x, .int y], [.int 1]) (G, I, F) _ _
  refine vm_J.go vm_q119 (k := 1) (hs := []) (f' := (bif vm_ic .eq 1 0 then 14 else 7, (0, 0), [.ref 0, .int x, .int y], [])) (h' := (G, I, F)) (hs' := []) rfl rfl ?_
  refine vm_J.bF (by decide) ?_
  refine vm_J.go vm_q119 (k := 1) (hs := []) (f' := (8, (0, 0), [.ref 0, .int x, .int y], [.int y])) (h' := (G, I, F)) (hs' := []) rfl rfl ?_
  refine vm_J.call vm_q119 (Z := vm_M163) (n := 1) (k := 1) (mi := 163) (pc := 8) (en := (8, .invokestatic 77, 3, [163, 448, 0], .null)) rfl trivial rfl rfl vm_z163 (av := [.int y]) (rest := []) (m_isColour_n (c := y) hy) rfl (Nat.le_of_ble_eq_true rfl) ⟨Nat.le_of_ble_eq_true rfl, Nat.le_of_ble_eq_true rfl⟩ ⟨Nat.le_of_ble_eq_true rfl, Nat.le_of_ble_eq_true rfl⟩ ?_
  show vm_J _ _ _ (11, (0, 0), [.ref 0, .int x, .int y], [.int 0]) (G, I, F) _ _
  refine vm_J.go vm_q119 (k := 1) (hs := []) (f' := (bif vm_ic .ne 0 0 then 17 else 14, (0, 0), [.ref 0, .int x, .int y], [])) (h' := (G, I, F)) (hs' := []) rfl rfl ?_
  refine vm_J.bF (by decide) ?_
  refine vm_J.go vm_q119 (k := 1) (hs := []) (f' := (16, (0, 0), [.ref 0, .int x, .int y], [.int (-2)])) (h' := (G, I, F)) (hs' := []) rfl rfl ?_
  exact vm_J.end vm_q119 (en := (16, .ireturn, 1, [], .null)) rfl rfl vm_rI (Nat.zero_le _) (Nat.zero_le _) rfl
set_option maxHeartbeats 4000000 in
set_option maxRecDepth 20000 in
/-- DitherDesk.nearest -/
theorem c_nearest_x {l : Launch} {X : vm_Cx} {G : List vm_Sh} {I : Nat → Nat → Int32} {F : Nat → Nat → UInt32} {q : Int32} {c : Int32} (hD : vm_isD G) (hx : ¬ (0 ≤ q ∧ q ≤ 3)) : vm_K l X vm_M120 [.ref 0, .int q, .int c] (G, I, F) (some (.int (-1))) (G, I, F) := by
  refine vm_K.mk (by decide) (Nat.le_of_ble_eq_true rfl) ?_
  show vm_J _ _ _ (0, (0, 0), [.ref 0, .int q, .int c, .retAddr 0], []) _ _ _
  refine vm_J.go vm_q120 (k := 3) (hs := [(12, 9, [.ref 1, .ref 38, .ref 75, .ref 112, .ref 132, .ref 135, .ref 139, .int 0, .int 0])]) (f' := (5, (0, 0), [.ref 0, .int q, .int c, .retAddr 0], [.int q, .ref 1])) (h' := (G, I, F)) (hs' := []) rfl (vm_b2 rfl (vm_b2 (vm_b2 (vm_hG hD.d) rfl) (vm_b2 rfl rfl))) ?_
  refine vm_J.call vm_q120 (Z := vm_M93) (n := 1) (k := 0) (mi := 93) (pc := 5) (en := (5, .invokevirtual 172, 3, [93, 619, 0], .null)) rfl trivial rfl rfl vm_z93 (av := [.ref 1, .int q]) (rest := []) (m_pal_x (B := 1) (p := q) hD.w1 (vm_nx hx)) ⟨_, _, rfl, rfl, _, 9, _, hD.w1.w, rfl, rfl, rfl⟩ (Nat.le_of_ble_eq_true rfl) ⟨Nat.le_of_ble_eq_true rfl, Nat.le_of_ble_eq_true rfl⟩ ⟨Nat.le_of_ble_eq_true rfl, Nat.le_of_ble_eq_true rfl⟩ ?_
  show vm_J _ _ _ (8, (0, 0), [.ref 0, .int q, .int c, .retAddr 0], [.null]) (G, I, F) _ _
  refine vm_J.go vm_q120 (k := 4) (hs := []) (f' := (14, (0, 0), [.ref 0, .int q, .int c, .null], [.int (-1)])) (h' := (G, I, F)) (hs' := []) rfl rfl ?_
  exact vm_J.end vm_q120 (en := (14, .ireturn, 1, [], .null)) rfl rfl vm_rI (Nat.zero_le _) (Nat.zero_le _) rfl
set_option maxHeartbeats 4000000 in
set_option maxRecDepth 20000 in
/-- DitherDesk.nearest -/
theorem c_nearest_b {l : Launch} {X : vm_Cx} {G : List vm_Sh} {I : Nat → Nat → Int32} {F : Nat → Nat → UInt32} {p : Nat} {c : Int32} (hD : vm_isD G) (hp : p < 4) (hc : ¬ (0 ≤ c ∧ c ≤ 262143)) : vm_K l X vm_M120 [.ref 0, .int (nI p), .int c] (G, I, F) (some (.int (-2))) (G, I, F) := by
  refine vm_K.mk (by decide) (Nat.le_of_ble_eq_true rfl) ?_
  show vm_J _ _ _ (0, (0, 0), [.ref 0, .int (nI p), .int c, .retAddr 0], []) _ _ _
  refine vm_J.go vm_q120 (k := 3) (hs := [(12, 9, [.ref 1, .ref 38, .ref 75, .ref 112, .ref 132, .ref 135, .ref 139, .int 0, .int 0])]) (f' := (5, (0, 0), [.ref 0, .int (nI p), .int c, .retAddr 0], [.int (nI p), .ref 1])) (h' := (G, I, F)) (hs' := []) rfl (vm_b2 rfl (vm_b2 (vm_b2 (vm_hG hD.d) rfl) (vm_b2 rfl rfl))) ?_
  refine vm_J.call vm_q120 (Z := vm_M93) (n := 1) (k := 0) (mi := 93) (pc := 5) (en := (5, .invokevirtual 172, 3, [93, 619, 0], .null)) rfl trivial rfl rfl vm_z93 (av := [.ref 1, .int (nI p)]) (rest := []) (m_pal_n (B := 1) (p := p) hD.w1 (by omega)) ⟨_, _, rfl, rfl, _, 9, _, hD.w1.w, rfl, rfl, rfl⟩ (Nat.le_of_ble_eq_true rfl) ⟨Nat.le_of_ble_eq_true rfl, Nat.le_of_ble_eq_true rfl⟩ ⟨Nat.le_of_ble_eq_true rfl, Nat.le_of_ble_eq_true rfl⟩ ?_
  show vm_J _ _ _ (8, (0, 0), [.ref 0, .int (nI p), .int c, .retAddr 0], [.ref (1 + 25 + 3 * p)]) (G, I, F) _ _
  refine vm_J.go vm_q120 (k := 4) (hs := []) (f' := (16, (0, 0), [.ref 0, .int (nI p), .int c, .ref (1 + 25 + 3 * p)], [.int c])) (h' := (G, I, F)) (hs' := []) rfl rfl ?_
  refine vm_J.call vm_q120 (Z := vm_M163) (n := 1) (k := 1) (mi := 163) (pc := 16) (en := (16, .invokestatic 77, 3, [163, 448, 0], .null)) rfl trivial rfl rfl vm_z163 (av := [.int c]) (rest := []) (m_isColour_n (c := c) hc) rfl (Nat.le_of_ble_eq_true rfl) ⟨Nat.le_of_ble_eq_true rfl, Nat.le_of_ble_eq_true rfl⟩ ⟨Nat.le_of_ble_eq_true rfl, Nat.le_of_ble_eq_true rfl⟩ ?_
  show vm_J _ _ _ (19, (0, 0), [.ref 0, .int (nI p), .int c, .ref (1 + 25 + 3 * p)], [.int 0]) (G, I, F) _ _
  refine vm_J.go vm_q120 (k := 1) (hs := []) (f' := (bif vm_ic .eq 0 0 then 39 else 22, (0, 0), [.ref 0, .int (nI p), .int c, .ref (1 + 25 + 3 * p)], [])) (h' := (G, I, F)) (hs' := []) rfl rfl ?_
  refine vm_J.bT (by decide) ?_
  refine vm_J.go vm_q120 (k := 1) (hs := []) (f' := (41, (0, 0), [.ref 0, .int (nI p), .int c, .ref (1 + 25 + 3 * p)], [.int (-2)])) (h' := (G, I, F)) (hs' := []) rfl rfl ?_
  exact vm_J.end vm_q120 (en := (41, .ireturn, 1, [], .null)) rfl rfl vm_rI (Nat.zero_le _) (Nat.zero_le _) rfl
set_option maxHeartbeats 4000000 in
set_option maxRecDepth 20000 in
/-- DitherDesk.nearest -/
theorem c_nearest_y {l : Launch} {X : vm_Cx} {G : List vm_Sh} {I : Nat → Nat → Int32} {F : Nat → Nat → UInt32} {p : Nat} {n : Nat} {c : Int32} (hD : vm_isD G) (hn : I (1 + 25 + 3 * p) 0 = nI n) (hp : p < 4) (hn2 : n ≤ 16) (hc : 0 ≤ c ∧ c ≤ 262143) : vm_K l X vm_M120 [.ref 0, .int (nI p), .int c] (G, I, F) (some (.int (sp_ni (sp_nr (fun k => sp_far (I (1 + 3) 0) c (I (1 + 26 + 3 * p) k)) (fun k => nI k = -1) n)))) (G, I, F) := by
  refine vm_K.mk (by decide) (Nat.le_of_ble_eq_true rfl) ?_
  show vm_J _ _ _ (0, (0, 0), [.ref 0, .int (nI p), .int c, .retAddr 0], []) _ _ _
  refine vm_J.go vm_q120 (k := 3) (hs := [(12, 9, [.ref 1, .ref 38, .ref 75, .ref 112, .ref 132, .ref 135, .ref 139, .int 0, .int 0])]) (f' := (5, (0, 0), [.ref 0, .int (nI p), .int c, .retAddr 0], [.int (nI p), .ref 1])) (h' := (G, I, F)) (hs' := []) rfl (vm_b2 rfl (vm_b2 (vm_b2 (vm_hG hD.d) rfl) (vm_b2 rfl rfl))) ?_
  refine vm_J.call vm_q120 (Z := vm_M93) (n := 1) (k := 0) (mi := 93) (pc := 5) (en := (5, .invokevirtual 172, 3, [93, 619, 0], .null)) rfl trivial rfl rfl vm_z93 (av := [.ref 1, .int (nI p)]) (rest := []) (m_pal_n (B := 1) (p := p) hD.w1 (by omega)) ⟨_, _, rfl, rfl, _, 9, _, hD.w1.w, rfl, rfl, rfl⟩ (Nat.le_of_ble_eq_true rfl) ⟨Nat.le_of_ble_eq_true rfl, Nat.le_of_ble_eq_true rfl⟩ ⟨Nat.le_of_ble_eq_true rfl, Nat.le_of_ble_eq_true rfl⟩ ?_
  show vm_J _ _ _ (8, (0, 0), [.ref 0, .int (nI p), .int c, .retAddr 0], [.ref (1 + 25 + 3 * p)]) (G, I, F) _ _
  refine vm_J.go vm_q120 (k := 4) (hs := []) (f' := (16, (0, 0), [.ref 0, .int (nI p), .int c, .ref (1 + 25 + 3 * p)], [.int c])) (h' := (G, I, F)) (hs' := []) rfl rfl ?_
  refine vm_J.call vm_q120 (Z := vm_M163) (n := 1) (k := 1) (mi := 163) (pc := 16) (en := (16, .invokestatic 77, 3, [163, 448, 0], .null)) rfl trivial rfl rfl vm_z163 (av := [.int c]) (rest := []) (m_isColour_y (c := c) hc) rfl (Nat.le_of_ble_eq_true rfl) ⟨Nat.le_of_ble_eq_true rfl, Nat.le_of_ble_eq_true rfl⟩ ⟨Nat.le_of_ble_eq_true rfl, Nat.le_of_ble_eq_true rfl⟩ ?_
  show vm_J _ _ _ (19, (0, 0), [.ref 0, .int (nI p), .int c, .ref (1 + 25 + 3 * p)], [.int 1]) (G, I, F) _ _
  refine vm_J.go vm_q120 (k := 1) (hs := []) (f' := (bif vm_ic .eq 1 0 then 39 else 22, (0, 0), [.ref 0, .int (nI p), .int c, .ref (1 + 25 + 3 * p)], [])) (h' := (G, I, F)) (hs' := []) rfl rfl ?_
  refine vm_J.bF (by decide) ?_
  refine vm_J.go vm_q120 (k := 5) (hs := [(12, 9, [.ref 1, .ref 38, .ref 75, .ref 112, .ref 132, .ref 135, .ref 139, .int 0, .int 0])]) (f' := (29, (0, 0), [.ref 0, .int (nI p), .int c, .ref (1 + 25 + 3 * p)], [.int 0, .ref 1, .int c, .ref (1 + 25 + 3 * p)])) (h' := (G, I, F)) (hs' := []) rfl (vm_b2 rfl (vm_b2 rfl (vm_b2 rfl (vm_b2 (vm_b2 (vm_hG hD.d) rfl) (vm_b2 rfl rfl))))) ?_
  refine vm_J.call vm_q120 (Z := vm_M94) (n := 1) (k := 0) (mi := 94) (pc := 29) (en := (29, .invokevirtual 233, 3, [94, 745, 0], .null)) rfl trivial rfl rfl vm_z94 (av := [.ref 1, .int 0]) (rest := [.int c, .ref (1 + 25 + 3 * p)]) (m_ruleOf (B := 1) (j := 0) hD.w1 (by omega)) ⟨_, _, rfl, rfl, _, 9, _, hD.w1.w, rfl, rfl, rfl⟩ (Nat.le_of_ble_eq_true rfl) ⟨Nat.le_of_ble_eq_true rfl, Nat.le_of_ble_eq_true rfl⟩ ⟨Nat.le_of_ble_eq_true rfl, Nat.le_of_ble_eq_true rfl⟩ ?_
  show vm_J _ _ _ (32, (0, 0), [.ref 0, .int (nI p), .int c, .ref (1 + 25 + 3 * p)], [.int (I (1 + 3) 0), .int c, .ref (1 + 25 + 3 * p)]) (G, I, F) _ _
  refine vm_J.go vm_q120 (k := 1) (hs := []) (f' := (33, (0, 0), [.ref 0, .int (nI p), .int c, .ref (1 + 25 + 3 * p)], [.int (-1), .int (I (1 + 3) 0), .int c, .ref (1 + 25 + 3 * p)])) (h' := (G, I, F)) (hs' := []) rfl rfl ?_
  refine vm_J.call vm_q120 (Z := vm_M30) (n := 3) (k := 0) (mi := 30) (pc := 33) (en := (33, .invokevirtual 249, 3, [30, 796, 0], .null)) rfl trivial rfl rfl vm_z30 (av := [.ref (1 + 25 + 3 * p), .int c, .int (I (1 + 3) 0), .int (-1)]) (rest := []) (m_Pal_nearestTo (o := 1 + 25 + 3 * p) (a := 1 + 26 + 3 * p) (b := 1 + 27 + 3 * p) (n := n) (c := c) (m := I (1 + 3) 0) (x := -1) (hD.w1.l p hp) (hD.w1.c p hp) hn (by omega)) ⟨_, _, rfl, rfl, _, 2, _, (hD.w1.l p hp), rfl, rfl, rfl⟩ (Nat.le_of_ble_eq_true rfl) ⟨Nat.le_of_ble_eq_true rfl, Nat.le_of_ble_eq_true rfl⟩ ⟨Nat.le_of_ble_eq_true rfl, Nat.le_of_ble_eq_true rfl⟩ ?_
  show vm_J _ _ _ (36, (0, 0), [.ref 0, .int (nI p), .int c, .ref (1 + 25 + 3 * p)], [.int (sp_ni (sp_nr (fun k => sp_far (I (1 + 3) 0) c (I (1 + 26 + 3 * p) k)) (fun k => nI k = (-1)) n))]) (G, I, F) _ _
  refine vm_J.go vm_q120 (k := 1) (hs := []) (f' := (41, (0, 0), [.ref 0, .int (nI p), .int c, .ref (1 + 25 + 3 * p)], [.int (sp_ni (sp_nr (fun k => sp_far (I (1 + 3) 0) c (I (1 + 26 + 3 * p) k)) (fun k => nI k = (-1)) n))])) (h' := (G, I, F)) (hs' := []) rfl rfl ?_
  exact vm_J.end vm_q120 (en := (41, .ireturn, 1, [], .null)) rfl rfl vm_rI (Nat.zero_le _) (Nat.zero_le _) rfl
set_option maxHeartbeats 4000000 in
set_option maxRecDepth 20000 in
/-- DitherDesk.near -/
theorem c_near_x {l : Launch} {X : vm_Cx} {G : List vm_Sh} {I : Nat → Nat → Int32} {F : Nat → Nat → UInt32} {q : Int32} {c : Int32} {x : Int32} (hD : vm_isD G) (hx : ¬ (0 ≤ q ∧ q ≤ 3)) : vm_K l X vm_M121 [.ref 0, .int q, .int c, .int x] (G, I, F) (some (.int (-1))) (G, I, F) := by
  refine vm_K.mk (by decide) (Nat.le_of_ble_eq_true rfl) ?_
  show vm_J _ _ _ (0, (0, 0), [.ref 0, .int q, .int c, .int x, .retAddr 0], []) _ _ _
  refine vm_J.go vm_q121 (k := 3) (hs := [(12, 9, [.ref 1, .ref 38, .ref 75, .ref 112, .ref 132, .ref 135, .ref 139, .int 0, .int 0])]) (f' := (5, (0, 0), [.ref 0, .int q, .int c, .int x, .retAddr 0], [.int q, .ref 1])) (h' := (G, I, F)) (hs' := []) rfl (vm_b2 rfl (vm_b2 (vm_b2 (vm_hG hD.d) rfl) (vm_b2 rfl rfl))) ?_
  refine vm_J.call vm_q121 (Z := vm_M93) (n := 1) (k := 0) (mi := 93) (pc := 5) (en := (5, .invokevirtual 172, 3, [93, 619, 0], .null)) rfl trivial rfl rfl vm_z93 (av := [.ref 1, .int q]) (rest := []) (m_pal_x (B := 1) (p := q) hD.w1 (vm_nx hx)) ⟨_, _, rfl, rfl, _, 9, _, hD.w1.w, rfl, rfl, rfl⟩ (Nat.le_of_ble_eq_true rfl) ⟨Nat.le_of_ble_eq_true rfl, Nat.le_of_ble_eq_true rfl⟩ ⟨Nat.le_of_ble_eq_true rfl, Nat.le_of_ble_eq_true rfl⟩ ?_
  show vm_J _ _ _ (8, (0, 0), [.ref 0, .int q, .int c, .int x, .retAddr 0], [.null]) (G, I, F) _ _
  refine vm_J.go vm_q121 (k := 4) (hs := []) (f' := (16, (0, 0), [.ref 0, .int q, .int c, .int x, .null], [.int (-1)])) (h' := (G, I, F)) (hs' := []) rfl rfl ?_
  exact vm_J.end vm_q121 (en := (16, .ireturn, 1, [], .null)) rfl rfl vm_rI (Nat.zero_le _) (Nat.zero_le _) rfl
set_option maxHeartbeats 4000000 in
set_option maxRecDepth 20000 in
/-- DitherDesk.near -/
theorem c_near_b {l : Launch} {X : vm_Cx} {G : List vm_Sh} {I : Nat → Nat → Int32} {F : Nat → Nat → UInt32} {p : Nat} {c : Int32} {x : Int32} (hD : vm_isD G) (hp : p < 4) (hc : ¬ (0 ≤ c ∧ c ≤ 262143)) : vm_K l X vm_M121 [.ref 0, .int (nI p), .int c, .int x] (G, I, F) (some (.int (-2))) (G, I, F) := by
  refine vm_K.mk (by decide) (Nat.le_of_ble_eq_true rfl) ?_
  show vm_J _ _ _ (0, (0, 0), [.ref 0, .int (nI p), .int c, .int x, .retAddr 0], []) _ _ _
  refine vm_J.go vm_q121 (k := 3) (hs := [(12, 9, [.ref 1, .ref 38, .ref 75, .ref 112, .ref 132, .ref 135, .ref 139, .int 0, .int 0])]) (f' := (5, (0, 0), [.ref 0, .int (nI p), .int c, .int x, .retAddr 0], [.int (nI p), .ref 1])) (h' := (G, I, F)) (hs' := []) rfl (vm_b2 rfl (vm_b2 (vm_b2 (vm_hG hD.d) rfl) (vm_b2 rfl rfl))) ?_
  refine vm_J.call vm_q121 (Z := vm_M93) (n := 1) (k := 0) (mi := 93) (pc := 5) (en := (5, .invokevirtual 172, 3, [93, 619, 0], .null)) rfl trivial rfl rfl vm_z93 (av := [.ref 1, .int (nI p)]) (rest := []) (m_pal_n (B := 1) (p := p) hD.w1 (by omega)) ⟨_, _, rfl, rfl, _, 9, _, hD.w1.w, rfl, rfl, rfl⟩ (Nat.le_of_ble_eq_true rfl) ⟨Nat.le_of_ble_eq_true rfl, Nat.le_of_ble_eq_true rfl⟩ ⟨Nat.le_of_ble_eq_true rfl, Nat.le_of_ble_eq_true rfl⟩ ?_
  show vm_J _ _ _ (8, (0, 0), [.ref 0, .int (nI p), .int c, .int x, .retAddr 0], [.ref (1 + 25 + 3 * p)]) (G, I, F) _ _
  refine vm_J.go vm_q121 (k := 4) (hs := []) (f' := (18, (0, 0), [.ref 0, .int (nI p), .int c, .int x, .ref (1 + 25 + 3 * p)], [.int c])) (h' := (G, I, F)) (hs' := []) rfl rfl ?_
  refine vm_J.call vm_q121 (Z := vm_M163) (n := 1) (k := 1) (mi := 163) (pc := 18) (en := (18, .invokestatic 77, 3, [163, 448, 0], .null)) rfl trivial rfl rfl vm_z163 (av := [.int c]) (rest := []) (m_isColour_n (c := c) hc) rfl (Nat.le_of_ble_eq_true rfl) ⟨Nat.le_of_ble_eq_true rfl, Nat.le_of_ble_eq_true rfl⟩ ⟨Nat.le_of_ble_eq_true rfl, Nat.le_of_ble_eq_true rfl⟩ ?_
  show vm_J _ _ _ (21, (0, 0), [.ref 0, .int (nI p), .int c, .int x, .ref (1 + 25 + 3 * p)], [.int 0]) (G, I, F) _ _
  refine vm_J.go vm_q121 (k := 1) (hs := []) (f' := (bif vm_ic .eq 0 0 then 39 else 24, (0, 0), [.ref 0, .int (nI p), .int c, .int x, .ref (1 + 25 + 3 * p)], [])) (h' := (G, I, F)) (hs' := []) rfl rfl ?_
  refine vm_J.bT (by decide) ?_
  refine vm_J.go vm_q121 (k := 1) (hs := []) (f' := (41, (0, 0), [.ref 0, .int (nI p), .int c, .int x, .ref (1 + 25 + 3 * p)], [.int (-2)])) (h' := (G, I, F)) (hs' := []) rfl rfl ?_
  exact vm_J.end vm_q121 (en := (41, .ireturn, 1, [], .null)) rfl rfl vm_rI (Nat.zero_le _) (Nat.zero_le _) rfl
set_option maxHeartbeats 4000000 in
set_option maxRecDepth 20000 in
/-- DitherDesk.near -/
theorem c_near_k {l : Launch} {X : vm_Cx} {G : List vm_Sh} {I : Nat → Nat → Int32} {F : Nat → Nat → UInt32} {p : Nat} {n : Nat} {c : Int32} {x : Int32} (hD : vm_isD G) (hn : I (1 + 25 + 3 * p) 0 = nI n) (hp : p < 4) (hn2 : n ≤ 16) (hc : 0 ≤ c ∧ c ≤ 262143) (hk : ¬ (0 ≤ x ∧ x ≤ nI n - 1)) : vm_K l X vm_M121 [.ref 0, .int (nI p), .int c, .int x] (G, I, F) (some (.int (-2))) (G, I, F) := by
  refine vm_K.mk (by decide) (Nat.le_of_ble_eq_true rfl) ?_
  show vm_J _ _ _ (0, (0, 0), [.ref 0, .int (nI p), .int c, .int x, .retAddr 0], []) _ _ _
  refine vm_J.go vm_q121 (k := 3) (hs := [(12, 9, [.ref 1, .ref 38, .ref 75, .ref 112, .ref 132, .ref 135, .ref 139, .int 0, .int 0])]) (f' := (5, (0, 0), [.ref 0, .int (nI p), .int c, .int x, .retAddr 0], [.int (nI p), .ref 1])) (h' := (G, I, F)) (hs' := []) rfl (vm_b2 rfl (vm_b2 (vm_b2 (vm_hG hD.d) rfl) (vm_b2 rfl rfl))) ?_
  refine vm_J.call vm_q121 (Z := vm_M93) (n := 1) (k := 0) (mi := 93) (pc := 5) (en := (5, .invokevirtual 172, 3, [93, 619, 0], .null)) rfl trivial rfl rfl vm_z93 (av := [.ref 1, .int (nI p)]) (rest := []) (m_pal_n (B := 1) (p := p) hD.w1 (by omega)) ⟨_, _, rfl, rfl, _, 9, _, hD.w1.w, rfl, rfl, rfl⟩ (Nat.le_of_ble_eq_true rfl) ⟨Nat.le_of_ble_eq_true rfl, Nat.le_of_ble_eq_true rfl⟩ ⟨Nat.le_of_ble_eq_true rfl, Nat.le_of_ble_eq_true rfl⟩ ?_
  show vm_J _ _ _ (8, (0, 0), [.ref 0, .int (nI p), .int c, .int x, .retAddr 0], [.ref (1 + 25 + 3 * p)]) (G, I, F) _ _
  refine vm_J.go vm_q121 (k := 4) (hs := []) (f' := (18, (0, 0), [.ref 0, .int (nI p), .int c, .int x, .ref (1 + 25 + 3 * p)], [.int c])) (h' := (G, I, F)) (hs' := []) rfl rfl ?_
  refine vm_J.call vm_q121 (Z := vm_M163) (n := 1) (k := 1) (mi := 163) (pc := 18) (en := (18, .invokestatic 77, 3, [163, 448, 0], .null)) rfl trivial rfl rfl vm_z163 (av := [.int c]) (rest := []) (m_isColour_y (c := c) hc) rfl (Nat.le_of_ble_eq_true rfl) ⟨Nat.le_of_ble_eq_true rfl, Nat.le_of_ble_eq_true rfl⟩ ⟨Nat.le_of_ble_eq_true rfl, Nat.le_of_ble_eq_true rfl⟩ ?_
  show vm_J _ _ _ (21, (0, 0), [.ref 0, .int (nI p), .int c, .int x, .ref (1 + 25 + 3 * p)], [.int 1]) (G, I, F) _ _
  refine vm_J.go vm_q121 (k := 1) (hs := []) (f' := (bif vm_ic .eq 1 0 then 39 else 24, (0, 0), [.ref 0, .int (nI p), .int c, .int x, .ref (1 + 25 + 3 * p)], [])) (h' := (G, I, F)) (hs' := []) rfl rfl ?_
  refine vm_J.bF (by decide) ?_
  refine vm_J.go vm_q121 (k := 4) (hs := [(4, 3, [.int 0, .ref (1 + 26 + 3 * p), .ref (1 + 27 + 3 * p)])]) (f' := (31, (0, 0), [.ref 0, .int (nI p), .int c, .int x, .ref (1 + 25 + 3 * p)], [.int (I (1 + 25 + 3 * p) 0), .int 0, .int x])) (h' := (G, I, F)) (hs' := []) rfl (vm_b2 rfl (vm_b2 rfl (vm_b2 rfl (vm_b2 (vm_b2 (vm_hG (hD.w1.l p hp)) rfl) rfl)))) ?_
  rw [(hn : I (1 + 25 + 3 * p) 0 = nI n)]
  refine vm_J.go vm_q121 (k := 2) (hs := []) (f' := (33, (0, 0), [.ref 0, .int (nI p), .int c, .int x, .ref (1 + 25 + 3 * p)], [.int ((nI n) - 1), .int 0, .int x])) (h' := (G, I, F)) (hs' := []) rfl rfl ?_
  refine vm_J.call vm_q121 (Z := vm_M151) (n := 3) (k := 1) (mi := 151) (pc := 33) (en := (33, .invokestatic 56, 3, [151, 420, 0], .null)) rfl trivial rfl rfl vm_z151 (av := [.int x, .int 0, .int ((nI n) - 1)]) (rest := []) (m_isWithin_n (v := x) (a := 0) (b := (nI n) - 1) hk) rfl (Nat.le_of_ble_eq_true rfl) ⟨Nat.le_of_ble_eq_true rfl, Nat.le_of_ble_eq_true rfl⟩ ⟨Nat.le_of_ble_eq_true rfl, Nat.le_of_ble_eq_true rfl⟩ ?_
  show vm_J _ _ _ (36, (0, 0), [.ref 0, .int (nI p), .int c, .int x, .ref (1 + 25 + 3 * p)], [.int 0]) (G, I, F) _ _
  refine vm_J.go vm_q121 (k := 1) (hs := []) (f' := (bif vm_ic .ne 0 0 then 42 else 39, (0, 0), [.ref 0, .int (nI p), .int c, .int x, .ref (1 + 25 + 3 * p)], [])) (h' := (G, I, F)) (hs' := []) rfl rfl ?_
  refine vm_J.bF (by decide) ?_
  refine vm_J.go vm_q121 (k := 1) (hs := []) (f' := (41, (0, 0), [.ref 0, .int (nI p), .int c, .int x, .ref (1 + 25 + 3 * p)], [.int (-2)])) (h' := (G, I, F)) (hs' := []) rfl rfl ?_
  exact vm_J.end vm_q121 (en := (41, .ireturn, 1, [], .null)) rfl rfl vm_rI (Nat.zero_le _) (Nat.zero_le _) rfl
set_option maxHeartbeats 4000000 in
set_option maxRecDepth 20000 in
/-- DitherDesk.near -/
theorem c_near_y {l : Launch} {X : vm_Cx} {G : List vm_Sh} {I : Nat → Nat → Int32} {F : Nat → Nat → UInt32} {p : Nat} {n : Nat} {c : Int32} {x : Int32} (hD : vm_isD G) (hn : I (1 + 25 + 3 * p) 0 = nI n) (hp : p < 4) (hn2 : n ≤ 16) (hc : 0 ≤ c ∧ c ≤ 262143) (hk : 0 ≤ x ∧ x ≤ nI n - 1) : vm_K l X vm_M121 [.ref 0, .int (nI p), .int c, .int x] (G, I, F) (some (.int (sp_fo (fun e => sp_ah (fun k => sp_far (I (1 + 3) 0) c (I (1 + 26 + 3 * p) k)) n e = x) n (-5)))) (G, I, F) := by
  refine vm_K.mk (by decide) (Nat.le_of_ble_eq_true rfl) ?_
  show vm_J _ _ _ (0, (0, 0), [.ref 0, .int (nI p), .int c, .int x, .retAddr 0], []) _ _ _
  refine vm_J.go vm_q121 (k := 3) (hs := [(12, 9, [.ref 1, .ref 38, .ref 75, .ref 112, .ref 132, .ref 135, .ref 139, .int 0, .int 0])]) (f' := (5, (0, 0), [.ref 0, .int (nI p), .int c, .int x, .retAddr 0], [.int (nI p), .ref 1])) (h' := (G, I, F)) (hs' := []) rfl (vm_b2 rfl (vm_b2 (vm_b2 (vm_hG hD.d) rfl) (vm_b2 rfl rfl))) ?_
  refine vm_J.call vm_q121 (Z := vm_M93) (n := 1) (k := 0) (mi := 93) (pc := 5) (en := (5, .invokevirtual 172, 3, [93, 619, 0], .null)) rfl trivial rfl rfl vm_z93 (av := [.ref 1, .int (nI p)]) (rest := []) (m_pal_n (B := 1) (p := p) hD.w1 (by omega)) ⟨_, _, rfl, rfl, _, 9, _, hD.w1.w, rfl, rfl, rfl⟩ (Nat.le_of_ble_eq_true rfl) ⟨Nat.le_of_ble_eq_true rfl, Nat.le_of_ble_eq_true rfl⟩ ⟨Nat.le_of_ble_eq_true rfl, Nat.le_of_ble_eq_true rfl⟩ ?_
  show vm_J _ _ _ (8, (0, 0), [.ref 0, .int (nI p), .int c, .int x, .retAddr 0], [.ref (1 + 25 + 3 * p)]) (G, I, F) _ _
  refine vm_J.go vm_q121 (k := 4) (hs := []) (f' := (18, (0, 0), [.ref 0, .int (nI p), .int c, .int x, .ref (1 + 25 + 3 * p)], [.int c])) (h' := (G, I, F)) (hs' := []) rfl rfl ?_
  refine vm_J.call vm_q121 (Z := vm_M163) (n := 1) (k := 1) (mi := 163) (pc := 18) (en := (18, .invokestatic 77, 3, [163, 448, 0], .null)) rfl trivial rfl rfl vm_z163 (av := [.int c]) (rest := []) (m_isColour_y (c := c) hc) rfl (Nat.le_of_ble_eq_true rfl) ⟨Nat.le_of_ble_eq_true rfl, Nat.le_of_ble_eq_true rfl⟩ ⟨Nat.le_of_ble_eq_true rfl, Nat.le_of_ble_eq_true rfl⟩ ?_
  show vm_J _ _ _ (21, (0, 0), [.ref 0, .int (nI p), .int c, .int x, .ref (1 + 25 + 3 * p)], [.int 1]) (G, I, F) _ _
  refine vm_J.go vm_q121 (k := 1) (hs := []) (f' := (bif vm_ic .eq 1 0 then 39 else 24, (0, 0), [.ref 0, .int (nI p), .int c, .int x, .ref (1 + 25 + 3 * p)], [])) (h' := (G, I, F)) (hs' := []) rfl rfl ?_
  refine vm_J.bF (by decide) ?_
  refine vm_J.go vm_q121 (k := 4) (hs := [(4, 3, [.int 0, .ref (1 + 26 + 3 * p), .ref (1 + 27 + 3 * p)])]) (f' := (31, (0, 0), [.ref 0, .int (nI p), .int c, .int x, .ref (1 + 25 + 3 * p)], [.int (I (1 + 25 + 3 * p) 0), .int 0, .int x])) (h' := (G, I, F)) (hs' := []) rfl (vm_b2 rfl (vm_b2 rfl (vm_b2 rfl (vm_b2 (vm_b2 (vm_hG (hD.w1.l p hp)) rfl) rfl)))) ?_
  rw [(hn : I (1 + 25 + 3 * p) 0 = nI n)]
  refine vm_J.go vm_q121 (k := 2) (hs := []) (f' := (33, (0, 0), [.ref 0, .int (nI p), .int c, .int x, .ref (1 + 25 + 3 * p)], [.int ((nI n) - 1), .int 0, .int x])) (h' := (G, I, F)) (hs' := []) rfl rfl ?_
  refine vm_J.call vm_q121 (Z := vm_M151) (n := 3) (k := 1) (mi := 151) (pc := 33) (en := (33, .invokestatic 56, 3, [151, 420, 0], .null)) rfl trivial rfl rfl vm_z151 (av := [.int x, .int 0, .int ((nI n) - 1)]) (rest := []) (m_isWithin_y (v := x) (a := 0) (b := (nI n) - 1) hk) rfl (Nat.le_of_ble_eq_true rfl) ⟨Nat.le_of_ble_eq_true rfl, Nat.le_of_ble_eq_true rfl⟩ ⟨Nat.le_of_ble_eq_true rfl, Nat.le_of_ble_eq_true rfl⟩ ?_
  show vm_J _ _ _ (36, (0, 0), [.ref 0, .int (nI p), .int c, .int x, .ref (1 + 25 + 3 * p)], [.int 1]) (G, I, F) _ _
  refine vm_J.go vm_q121 (k := 1) (hs := []) (f' := (bif vm_ic .ne 1 0 then 42 else 39, (0, 0), [.ref 0, .int (nI p), .int c, .int x, .ref (1 + 25 + 3 * p)], [])) (h' := (G, I, F)) (hs' := []) rfl rfl ?_
  refine vm_J.bT (by decide) ?_
  refine vm_J.go vm_q121 (k := 6) (hs := [(12, 9, [.ref 1, .ref 38, .ref 75, .ref 112, .ref 132, .ref 135, .ref 139, .int 0, .int 0])]) (f' := (51, (0, 0), [.ref 0, .int (nI p), .int c, .int x, .ref (1 + 25 + 3 * p)], [.int 0, .ref 1, .int x, .int c, .ref (1 + 25 + 3 * p)])) (h' := (G, I, F)) (hs' := []) rfl (vm_b2 rfl (vm_b2 rfl (vm_b2 rfl (vm_b2 rfl (vm_b2 (vm_b2 (vm_hG hD.d) rfl) (vm_b2 rfl rfl)))))) ?_
  refine vm_J.call vm_q121 (Z := vm_M94) (n := 1) (k := 0) (mi := 94) (pc := 51) (en := (51, .invokevirtual 233, 3, [94, 745, 0], .null)) rfl trivial rfl rfl vm_z94 (av := [.ref 1, .int 0]) (rest := [.int x, .int c, .ref (1 + 25 + 3 * p)]) (m_ruleOf (B := 1) (j := 0) hD.w1 (by omega)) ⟨_, _, rfl, rfl, _, 9, _, hD.w1.w, rfl, rfl, rfl⟩ (Nat.le_of_ble_eq_true rfl) ⟨Nat.le_of_ble_eq_true rfl, Nat.le_of_ble_eq_true rfl⟩ ⟨Nat.le_of_ble_eq_true rfl, Nat.le_of_ble_eq_true rfl⟩ ?_
  show vm_J _ _ _ (54, (0, 0), [.ref 0, .int (nI p), .int c, .int x, .ref (1 + 25 + 3 * p)], [.int (I (1 + 3) 0), .int x, .int c, .ref (1 + 25 + 3 * p)]) (G, I, F) _ _
  refine vm_J.call vm_q121 (Z := vm_M31) (n := 3) (k := 0) (mi := 31) (pc := 54) (en := (54, .invokevirtual 252, 3, [31, 801, 0], .null)) rfl trivial rfl rfl vm_z31 (av := [.ref (1 + 25 + 3 * p), .int c, .int x, .int (I (1 + 3) 0)]) (rest := []) (m_Pal_nextNearest (o := 1 + 25 + 3 * p) (a := 1 + 26 + 3 * p) (b := 1 + 27 + 3 * p) (n := n) (c := c) (m := I (1 + 3) 0) (v := x) (hD.w1.l p hp) (hD.w1.c p hp) hn (by omega)) ⟨_, _, rfl, rfl, _, 2, _, (hD.w1.l p hp), rfl, rfl, rfl⟩ (Nat.le_of_ble_eq_true rfl) ⟨Nat.le_of_ble_eq_true rfl, Nat.le_of_ble_eq_true rfl⟩ ⟨Nat.le_of_ble_eq_true rfl, Nat.le_of_ble_eq_true rfl⟩ ?_
  show vm_J _ _ _ (57, (0, 0), [.ref 0, .int (nI p), .int c, .int x, .ref (1 + 25 + 3 * p)], [.int (sp_fo (fun e => sp_ah (fun k => sp_far (I (1 + 3) 0) c (I (1 + 26 + 3 * p) k)) n e = x) n (-5))]) (G, I, F) _ _
  exact vm_J.end vm_q121 (en := (57, .ireturn, 1, [], .null)) rfl rfl vm_rI (Nat.zero_le _) (Nat.zero_le _) rfl
