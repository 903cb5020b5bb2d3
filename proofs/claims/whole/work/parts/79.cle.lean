set_option maxHeartbeats 4000000 in
set_option maxRecDepth 20000 in
/-- DitherDesk.sheet -/
theorem c_sheet_b {l : Launch} {X : vm_Cx} {G : List vm_Sh} {I : Nat → Nat → Int32} {F : Nat → Nat → UInt32} {x : Int32} {y : Int32} {k : Int32} (hD : vm_isD G) (hk : ¬ (0 ≤ k ∧ k ≤ 2)) : vm_K l X vm_M123 [.ref 0, .int x, .int y, .int k] (G, I, F) (some (.int (-1))) (G, I, F) := by
  refine vm_K.mk (by decide) (Nat.le_of_ble_eq_true rfl) ?_
  show vm_J _ _ _ (0, (0, 0), [.ref 0, .int x, .int y, .int k, .retAddr 0, .retAddr 0], []) _ _ _
  refine vm_J.go vm_q123 (k := 7) (hs := [(12, 9, [.ref 1, .ref 38, .ref 75, .ref 112, .ref 132, .ref 135, .ref 139, .int 0, .int 0]), (11, 7, [.ref (1 + 1), .ref (1 + 2), .ref (1 + 3), .ref (1 + 4), .ref (1 + 11), .ref (1 + 13), .ref (1 + 15)])]) (f' := (12, (0, 0), [.ref 0, .int x, .int y, .int k, .ref (1 + 4), .retAddr 0], [.int 2, .int 0, .int k])) (h' := (G, I, F)) (hs' := []) rfl (vm_b2 rfl (vm_b2 (vm_b2 (vm_hG hD.d) rfl) (vm_b2 (vm_b2 (vm_hG hD.w1.w) rfl) (vm_b2 rfl (vm_b2 rfl (vm_b2 rfl (vm_b2 rfl rfl))))))) ?_
  refine vm_J.call vm_q123 (Z := vm_M151) (n := 3) (k := 1) (mi := 151) (pc := 12) (en := (12, .invokestatic 56, 3, [151, 420, 0], .null)) rfl trivial rfl rfl vm_z151 (av := [.int k, .int 0, .int 2]) (rest := []) (m_isWithin_n (v := k) (a := 0) (b := 2) hk) rfl (Nat.le_of_ble_eq_true rfl) ⟨Nat.le_of_ble_eq_true rfl, Nat.le_of_ble_eq_true rfl⟩ ⟨Nat.le_of_ble_eq_true rfl, Nat.le_of_ble_eq_true rfl⟩ ?_
  show vm_J _ _ _ (15, (0, 0), [.ref 0, .int x, .int y, .int k, .ref (1 + 4), .retAddr 0], [.int 0]) (G, I, F) _ _
  refine vm_J.go vm_q123 (k := 1) (hs := []) (f' := (bif vm_ic .ne 0 0 then 20 else 18, (0, 0), [.ref 0, .int x, .int y, .int k, .ref (1 + 4), .retAddr 0], [])) (h' := (G, I, F)) (hs' := []) rfl rfl ?_
  refine vm_J.bF (by decide) ?_
  refine vm_J.go vm_q123 (k := 1) (hs := []) (f' := (19, (0, 0), [.ref 0, .int x, .int y, .int k, .ref (1 + 4), .retAddr 0], [.int (-1)])) (h' := (G, I, F)) (hs' := []) rfl rfl ?_
  exact vm_J.end vm_q123 (en := (19, .ireturn, 1, [], .null)) rfl rfl vm_rI (Nat.zero_le _) (Nat.zero_le _) rfl
set_option maxHeartbeats 4000000 in
set_option maxRecDepth 20000 in
/-- DitherDesk.sheet -/
theorem c_sheet_n {l : Launch} {X : vm_Cx} {G : List vm_Sh} {I : Nat → Nat → Int32} {F : Nat → Nat → UInt32} {x : Int32} {y : Int32} {k : Int32} (hD : vm_isD G) (hk : 0 ≤ k ∧ k ≤ 2) (hmd : I (1 + 4) 0 = -1) : vm_K l X vm_M123 [.ref 0, .int x, .int y, .int k] (G, I, F) (some (.int (-3))) (G, I, F) := by
  refine vm_K.mk (by decide) (Nat.le_of_ble_eq_true rfl) ?_
  show vm_J _ _ _ (0, (0, 0), [.ref 0, .int x, .int y, .int k, .retAddr 0, .retAddr 0], []) _ _ _
  refine vm_J.go vm_q123 (k := 7) (hs := [(12, 9, [.ref 1, .ref 38, .ref 75, .ref 112, .ref 132, .ref 135, .ref 139, .int 0, .int 0]), (11, 7, [.ref (1 + 1), .ref (1 + 2), .ref (1 + 3), .ref (1 + 4), .ref (1 + 11), .ref (1 + 13), .ref (1 + 15)])]) (f' := (12, (0, 0), [.ref 0, .int x, .int y, .int k, .ref (1 + 4), .retAddr 0], [.int 2, .int 0, .int k])) (h' := (G, I, F)) (hs' := []) rfl (vm_b2 rfl (vm_b2 (vm_b2 (vm_hG hD.d) rfl) (vm_b2 (vm_b2 (vm_hG hD.w1.w) rfl) (vm_b2 rfl (vm_b2 rfl (vm_b2 rfl (vm_b2 rfl rfl))))))) ?_
  refine vm_J.call vm_q123 (Z := vm_M151) (n := 3) (k := 1) (mi := 151) (pc := 12) (en := (12, .invokestatic 56, 3, [151, 420, 0], .null)) rfl trivial rfl rfl vm_z151 (av := [.int k, .int 0, .int 2]) (rest := []) (m_isWithin_y (v := k) (a := 0) (b := 2) hk) rfl (Nat.le_of_ble_eq_true rfl) ⟨Nat.le_of_ble_eq_true rfl, Nat.le_of_ble_eq_true rfl⟩ ⟨Nat.le_of_ble_eq_true rfl, Nat.le_of_ble_eq_true rfl⟩ ?_
  show vm_J _ _ _ (15, (0, 0), [.ref 0, .int x, .int y, .int k, .ref (1 + 4), .retAddr 0], [.int 1]) (G, I, F) _ _
  refine vm_J.go vm_q123 (k := 1) (hs := []) (f' := (bif vm_ic .ne 1 0 then 20 else 18, (0, 0), [.ref 0, .int x, .int y, .int k, .ref (1 + 4), .retAddr 0], [])) (h' := (G, I, F)) (hs' := []) rfl rfl ?_
  refine vm_J.bT (by decide) ?_
  refine vm_J.go vm_q123 (k := 1) (hs := []) (f' := (22, (0, 0), [.ref 0, .int x, .int y, .int k, .ref (1 + 4), .retAddr 0], [.ref (1 + 4)])) (h' := (G, I, F)) (hs' := []) rfl rfl ?_
  refine vm_J.call vm_q123 (Z := vm_M61) (n := 0) (k := 0) (mi := 61) (pc := 22) (en := (22, .invokevirtual 268, 3, [61, 887, 0], .null)) rfl trivial rfl rfl vm_z61 (av := [.ref (1 + 4)]) (rest := []) (m_isMade_n (o := 1 + 4) (a := 1 + 5) (b := 1 + 6) (c := 1 + 7) (d := 1 + 8) (e := 1 + 9) (f := 1 + 10) hD.w1.sh (fun z => z hmd)) ⟨_, _, rfl, rfl, _, 6, _, hD.w1.sh, rfl, rfl, rfl⟩ (Nat.le_of_ble_eq_true rfl) ⟨Nat.le_of_ble_eq_true rfl, Nat.le_of_ble_eq_true rfl⟩ ⟨Nat.le_of_ble_eq_true rfl, Nat.le_of_ble_eq_true rfl⟩ ?_
  show vm_J _ _ _ (25, (0, 0), [.ref 0, .int x, .int y, .int k, .ref (1 + 4), .retAddr 0], [.int 0]) (G, I, F) _ _
  refine vm_J.go vm_q123 (k := 1) (hs := []) (f' := (bif vm_ic .ne 0 0 then 31 else 28, (0, 0), [.ref 0, .int x, .int y, .int k, .ref (1 + 4), .retAddr 0], [])) (h' := (G, I, F)) (hs' := []) rfl rfl ?_
  refine vm_J.bF (by decide) ?_
  refine vm_J.go vm_q123 (k := 1) (hs := []) (f' := (30, (0, 0), [.ref 0, .int x, .int y, .int k, .ref (1 + 4), .retAddr 0], [.int (-3)])) (h' := (G, I, F)) (hs' := []) rfl rfl ?_
  exact vm_J.end vm_q123 (en := (30, .ireturn, 1, [], .null)) rfl rfl vm_rI (Nat.zero_le _) (Nat.zero_le _) rfl
set_option maxHeartbeats 4000000 in
set_option maxRecDepth 20000 in
/-- DitherDesk.sheet -/
theorem c_sheet_c {l : Launch} {X : vm_Cx} {G : List vm_Sh} {I : Nat → Nat → Int32} {F : Nat → Nat → UInt32} {w : Nat} {h : Nat} {x : Int32} {y : Int32} {k : Int32} (hD : vm_isD G) (hw : I (1 + 4) 1 = nI w) (hh : I (1 + 4) 2 = nI h) (hw2 : w ≤ 12) (hh2 : h ≤ 12) (hw0 : 0 < w) (hmd : ¬ I (1 + 4) 0 = -1) (hh0 : 0 < h) (hk : 0 ≤ k ∧ k ≤ 2) (ho : ¬ ((0 ≤ x ∧ x ≤ nI (w - 1)) ∧ 0 ≤ y ∧ y ≤ nI (h - 1))) : vm_K l X vm_M123 [.ref 0, .int x, .int y, .int k] (G, I, F) (some (.int (-2))) (G, I, F) := by
  refine vm_K.mk (by decide) (Nat.le_of_ble_eq_true rfl) ?_
  show vm_J _ _ _ (0, (0, 0), [.ref 0, .int x, .int y, .int k, .retAddr 0, .retAddr 0], []) _ _ _
  refine vm_J.go vm_q123 (k := 7) (hs := [(12, 9, [.ref 1, .ref 38, .ref 75, .ref 112, .ref 132, .ref 135, .ref 139, .int 0, .int 0]), (11, 7, [.ref (1 + 1), .ref (1 + 2), .ref (1 + 3), .ref (1 + 4), .ref (1 + 11), .ref (1 + 13), .ref (1 + 15)])]) (f' := (12, (0, 0), [.ref 0, .int x, .int y, .int k, .ref (1 + 4), .retAddr 0], [.int 2, .int 0, .int k])) (h' := (G, I, F)) (hs' := []) rfl (vm_b2 rfl (vm_b2 (vm_b2 (vm_hG hD.d) rfl) (vm_b2 (vm_b2 (vm_hG hD.w1.w) rfl) (vm_b2 rfl (vm_b2 rfl (vm_b2 rfl (vm_b2 rfl rfl))))))) ?_
  refine vm_J.call vm_q123 (Z := vm_M151) (n := 3) (k := 1) (mi := 151) (pc := 12) (en := (12, .invokestatic 56, 3, [151, 420, 0], .null)) rfl trivial rfl rfl vm_z151 (av := [.int k, .int 0, .int 2]) (rest := []) (m_isWithin_y (v := k) (a := 0) (b := 2) hk) rfl (Nat.le_of_ble_eq_true rfl) ⟨Nat.le_of_ble_eq_true rfl, Nat.le_of_ble_eq_true rfl⟩ ⟨Nat.le_of_ble_eq_true rfl, Nat.le_of_ble_eq_true rfl⟩ ?_
  show vm_J _ _ _ (15, (0, 0), [.ref 0, .int x, .int y, .int k, .ref (1 + 4), .retAddr 0], [.int 1]) (G, I, F) _ _
  refine vm_J.go vm_q123 (k := 1) (hs := []) (f' := (bif vm_ic .ne 1 0 then 20 else 18, (0, 0), [.ref 0, .int x, .int y, .int k, .ref (1 + 4), .retAddr 0], [])) (h' := (G, I, F)) (hs' := []) rfl rfl ?_
  refine vm_J.bT (by decide) ?_
  refine vm_J.go vm_q123 (k := 1) (hs := []) (f' := (22, (0, 0), [.ref 0, .int x, .int y, .int k, .ref (1 + 4), .retAddr 0], [.ref (1 + 4)])) (h' := (G, I, F)) (hs' := []) rfl rfl ?_
  refine vm_J.call vm_q123 (Z := vm_M61) (n := 0) (k := 0) (mi := 61) (pc := 22) (en := (22, .invokevirtual 268, 3, [61, 887, 0], .null)) rfl trivial rfl rfl vm_z61 (av := [.ref (1 + 4)]) (rest := []) (m_isMade_y (o := 1 + 4) (a := 1 + 5) (b := 1 + 6) (c := 1 + 7) (d := 1 + 8) (e := 1 + 9) (f := 1 + 10) hD.w1.sh hmd) ⟨_, _, rfl, rfl, _, 6, _, hD.w1.sh, rfl, rfl, rfl⟩ (Nat.le_of_ble_eq_true rfl) ⟨Nat.le_of_ble_eq_true rfl, Nat.le_of_ble_eq_true rfl⟩ ⟨Nat.le_of_ble_eq_true rfl, Nat.le_of_ble_eq_true rfl⟩ ?_
  show vm_J _ _ _ (25, (0, 0), [.ref 0, .int x, .int y, .int k, .ref (1 + 4), .retAddr 0], [.int 1]) (G, I, F) _ _
  refine vm_J.go vm_q123 (k := 1) (hs := []) (f' := (bif vm_ic .ne 1 0 then 31 else 28, (0, 0), [.ref 0, .int x, .int y, .int k, .ref (1 + 4), .retAddr 0], [])) (h' := (G, I, F)) (hs' := []) rfl rfl ?_
  refine vm_J.bT (by decide) ?_
  refine vm_J.go vm_q123 (k := 4) (hs := [(8, 9, [.int 0, .int 0, .int 0, .ref (1 + 5), .ref (1 + 6), .ref (1 + 7), .ref (1 + 8), .ref (1 + 9), .ref (1 + 10)])]) (f' := (38, (0, 0), [.ref 0, .int x, .int y, .int k, .ref (1 + 4), .retAddr 0], [.int (I (1 + 4) 1), .int 0, .int x])) (h' := (G, I, F)) (hs' := []) rfl (vm_b2 rfl (vm_b2 rfl (vm_b2 rfl (vm_b2 (vm_b2 (vm_hG hD.w1.sh) rfl) rfl)))) ?_
  rw [(hw : I (1 + 4) 1 = nI w)]
  refine vm_J.go vm_q123 (k := 2) (hs := []) (f' := (40, (0, 0), [.ref 0, .int x, .int y, .int k, .ref (1 + 4), .retAddr 0], [.int ((nI w) - 1), .int 0, .int x])) (h' := (G, I, F)) (hs' := []) rfl rfl ?_
  rw [((vm_ps (rfl : (nI w : Int32) = nI w) (rfl : (1 : Int32) = nI 1) (by omega)) : (nI w) - 1 = nI (w - 1))]
  refine vm_J.call vm_q123 (Z := vm_M151) (n := 3) (k := 1) (mi := 151) (pc := 40) (en := (40, .invokestatic 56, 3, [151, 420, 0], .null)) rfl trivial rfl rfl vm_z151 (av := [.int x, .int 0, .int (nI (w - 1))]) (rest := []) (m_isWithin (v := x) (a := 0) (b := nI (w - 1))) rfl (Nat.le_of_ble_eq_true rfl) ⟨Nat.le_of_ble_eq_true rfl, Nat.le_of_ble_eq_true rfl⟩ ⟨Nat.le_of_ble_eq_true rfl, Nat.le_of_ble_eq_true rfl⟩ ?_
  show vm_J _ _ _ (43, (0, 0), [.ref 0, .int x, .int y, .int k, .ref (1 + 4), .retAddr 0], [.int (vm_bi (0 ≤ x ∧ x ≤ (nI (w - 1))))]) (G, I, F) _ _
  refine vm_J.go vm_q123 (k := 1) (hs := []) (f' := (bif vm_ic .eq (vm_bi (0 ≤ x ∧ x ≤ (nI (w - 1)))) 0 then 61 else 46, (0, 0), [.ref 0, .int x, .int y, .int k, .ref (1 + 4), .retAddr 0], [])) (h' := (G, I, F)) (hs' := []) rfl rfl ?_
  refine vm_J.br (fun c1 => ?_) (fun c1 => ?_)
  · have c1 := vm_bi_eq_t c1
    refine vm_J.go vm_q123 (k := 1) (hs := []) (f' := (63, (0, 0), [.ref 0, .int x, .int y, .int k, .ref (1 + 4), .retAddr 0], [.int (-2)])) (h' := (G, I, F)) (hs' := []) rfl rfl ?_
    exact vm_J.end vm_q123 (en := (63, .ireturn, 1, [], .null)) rfl rfl vm_rI (Nat.zero_le _) (Nat.zero_le _) rfl
  · have c1 := vm_bi_eq_f c1
    refine vm_J.go vm_q123 (k := 4) (hs := [(8, 9, [.int 0, .int 0, .int 0, .ref (1 + 5), .ref (1 + 6), .ref (1 + 7), .ref (1 + 8), .ref (1 + 9), .ref (1 + 10)])]) (f' := (53, (0, 0), [.ref 0, .int x, .int y, .int k, .ref (1 + 4), .retAddr 0], [.int (I (1 + 4) 2), .int 0, .int y])) (h' := (G, I, F)) (hs' := []) rfl (vm_b2 rfl (vm_b2 rfl (vm_b2 rfl (vm_b2 (vm_b2 (vm_hG hD.w1.sh) rfl) rfl)))) ?_
    rw [(hh : I (1 + 4) 2 = nI h)]
    refine vm_J.go vm_q123 (k := 2) (hs := []) (f' := (55, (0, 0), [.ref 0, .int x, .int y, .int k, .ref (1 + 4), .retAddr 0], [.int ((nI h) - 1), .int 0, .int y])) (h' := (G, I, F)) (hs' := []) rfl rfl ?_
    rw [((vm_ps (rfl : (nI h : Int32) = nI h) (rfl : (1 : Int32) = nI 1) (by omega)) : (nI h) - 1 = nI (h - 1))]
    refine vm_J.call vm_q123 (Z := vm_M151) (n := 3) (k := 1) (mi := 151) (pc := 55) (en := (55, .invokestatic 56, 3, [151, 420, 0], .null)) rfl trivial rfl rfl vm_z151 (av := [.int y, .int 0, .int (nI (h - 1))]) (rest := []) (m_isWithin (v := y) (a := 0) (b := nI (h - 1))) rfl (Nat.le_of_ble_eq_true rfl) ⟨Nat.le_of_ble_eq_true rfl, Nat.le_of_ble_eq_true rfl⟩ ⟨Nat.le_of_ble_eq_true rfl, Nat.le_of_ble_eq_true rfl⟩ ?_
    show vm_J _ _ _ (58, (0, 0), [.ref 0, .int x, .int y, .int k, .ref (1 + 4), .retAddr 0], [.int (vm_bi (0 ≤ y ∧ y ≤ (nI (h - 1))))]) (G, I, F) _ _
    refine vm_J.go vm_q123 (k := 1) (hs := []) (f' := (bif vm_ic .ne (vm_bi (0 ≤ y ∧ y ≤ (nI (h - 1)))) 0 then 64 else 61, (0, 0), [.ref 0, .int x, .int y, .int k, .ref (1 + 4), .retAddr 0], [])) (h' := (G, I, F)) (hs' := []) rfl rfl ?_
    refine vm_J.br (fun c2 => ?_) (fun c2 => ?_)
    · have c2 := vm_bi_ne_t c2
      exact absurd ⟨c1, c2⟩ ho
    · have c2 := vm_bi_ne_f c2
      refine vm_J.go vm_q123 (k := 1) (hs := []) (f' := (63, (0, 0), [.ref 0, .int x, .int y, .int k, .ref (1 + 4), .retAddr 0], [.int (-2)])) (h' := (G, I, F)) (hs' := []) rfl rfl ?_
      exact vm_J.end vm_q123 (en := (63, .ireturn, 1, [], .null)) rfl rfl vm_rI (Nat.zero_le _) (Nat.zero_le _) rfl
set_option maxHeartbeats 4000000 in
set_option maxRecDepth 20000 in
/-- DitherDesk.sheet -/
theorem c_sheet_0 {l : Launch} {X : vm_Cx} {G : List vm_Sh} {I : Nat → Nat → Int32} {F : Nat → Nat → UInt32} {w : Nat} {h : Nat} {i : Nat} {j : Nat} (hD : vm_isD G) (hw : I (1 + 4) 1 = nI w) (hh : I (1 + 4) 2 = nI h) (hw2 : w ≤ 12) (hh2 : h ≤ 12) (hw0 : 0 < w) (hmd : ¬ I (1 + 4) 0 = -1) (hi : i < w) (hj : j < h) : vm_K l X vm_M123 [.ref 0, .int (nI i), .int (nI j), .int 0] (G, I, F) (some (.int (I (1 + 6) (j * w + i)))) (G, I, F) := by
  refine vm_K.mk (by decide) (Nat.le_of_ble_eq_true rfl) ?_
  have hwh := vm_mul144 hw2 hh2
  have hlin := vm_lin hi hj
  show vm_J _ _ _ (0, (0, 0), [.ref 0, .int (nI i), .int (nI j), .int 0, .retAddr 0, .retAddr 0], []) _ _ _
  refine vm_J.go vm_q123 (k := 7) (hs := [(12, 9, [.ref 1, .ref 38, .ref 75, .ref 112, .ref 132, .ref 135, .ref 139, .int 0, .int 0]), (11, 7, [.ref (1 + 1), .ref (1 + 2), .ref (1 + 3), .ref (1 + 4), .ref (1 + 11), .ref (1 + 13), .ref (1 + 15)])]) (f' := (12, (0, 0), [.ref 0, .int (nI i), .int (nI j), .int 0, .ref (1 + 4), .retAddr 0], [.int 2, .int 0, .int 0])) (h' := (G, I, F)) (hs' := []) rfl (vm_b2 rfl (vm_b2 (vm_b2 (vm_hG hD.d) rfl) (vm_b2 (vm_b2 (vm_hG hD.w1.w) rfl) (vm_b2 rfl (vm_b2 rfl (vm_b2 rfl (vm_b2 rfl rfl))))))) ?_
  refine vm_J.call vm_q123 (Z := vm_M151) (n := 3) (k := 1) (mi := 151) (pc := 12) (en := (12, .invokestatic 56, 3, [151, 420, 0], .null)) rfl trivial rfl rfl vm_z151 (av := [.int 0, .int 0, .int 2]) (rest := []) (m_isWithin_y (v := 0) (a := 0) (b := 2) (by decide)) rfl (Nat.le_of_ble_eq_true rfl) ⟨Nat.le_of_ble_eq_true rfl, Nat.le_of_ble_eq_true rfl⟩ ⟨Nat.le_of_ble_eq_true rfl, Nat.le_of_ble_eq_true rfl⟩ ?_
  show vm_J _ _ _ (15, (0, 0), [.ref 0, .int (nI i), .int (nI j), .int 0, .ref (1 + 4), .retAddr 0], [.int 1]) (G, I, F) _ _
  refine vm_J.go vm_q123 (k := 1) (hs := []) (f' := (bif vm_ic .ne 1 0 then 20 else 18, (0, 0), [.ref 0, .int (nI i), .int (nI j), .int 0, .ref (1 + 4), .retAddr 0], [])) (h' := (G, I, F)) (hs' := []) rfl rfl ?_
  refine vm_J.bT (by decide) ?_
  refine vm_J.go vm_q123 (k := 1) (hs := []) (f' := (22, (0, 0), [.ref 0, .int (nI i), .int (nI j), .int 0, .ref (1 + 4), .retAddr 0], [.ref (1 + 4)])) (h' := (G, I, F)) (hs' := []) rfl rfl ?_
  refine vm_J.call vm_q123 (Z := vm_M61) (n := 0) (k := 0) (mi := 61) (pc := 22) (en := (22, .invokevirtual 268, 3, [61, 887, 0], .null)) rfl trivial rfl rfl vm_z61 (av := [.ref (1 + 4)]) (rest := []) (m_isMade_y (o := 1 + 4) (a := 1 + 5) (b := 1 + 6) (c := 1 + 7) (d := 1 + 8) (e := 1 + 9) (f := 1 + 10) hD.w1.sh hmd) ⟨_, _, rfl, rfl, _, 6, _, hD.w1.sh, rfl, rfl, rfl⟩ (Nat.le_of_ble_eq_true rfl) ⟨Nat.le_of_ble_eq_true rfl, Nat.le_of_ble_eq_true rfl⟩ ⟨Nat.le_of_ble_eq_true rfl, Nat.le_of_ble_eq_true rfl⟩ ?_
  show vm_J _ _ _ (25, (0, 0), [.ref 0, .int (nI i), .int (nI j), .int 0, .ref (1 + 4), .retAddr 0], [.int 1]) (G, I, F) _ _
  refine vm_J.go vm_q123 (k := 1) (hs := []) (f' := (bif vm_ic .ne 1 0 then 31 else 28, (0, 0), [.ref 0, .int (nI i), .int (nI j), .int 0, .ref (1 + 4), .retAddr 0], [])) (h' := (G, I, F)) (hs' := []) rfl rfl ?_
  refine vm_J.bT (by decide) ?_
  refine vm_J.go vm_q123 (k := 4) (hs := [(8, 9, [.int 0, .int 0, .int 0, .ref (1 + 5), .ref (1 + 6), .ref (1 + 7), .ref (1 + 8), .ref (1 + 9), .ref (1 + 10)])]) (f' := (38, (0, 0), [.ref 0, .int (nI i), .int (nI j), .int 0, .ref (1 + 4), .retAddr 0], [.int (I (1 + 4) 1), .int 0, .int (nI i)])) (h' := (G, I, F)) (hs' := []) rfl (vm_b2 rfl (vm_b2 rfl (vm_b2 rfl (vm_b2 (vm_b2 (vm_hG hD.w1.sh) rfl) rfl)))) ?_
  rw [(hw : I (1 + 4) 1 = nI w)]
  refine vm_J.go vm_q123 (k := 2) (hs := []) (f' := (40, (0, 0), [.ref 0, .int (nI i), .int (nI j), .int 0, .ref (1 + 4), .retAddr 0], [.int ((nI w) - 1), .int 0, .int (nI i)])) (h' := (G, I, F)) (hs' := []) rfl rfl ?_
  rw [((vm_ps (rfl : (nI w : Int32) = nI w) (rfl : (1 : Int32) = nI 1) (by omega)) : (nI w) - 1 = nI (w - 1))]
  refine vm_J.call vm_q123 (Z := vm_M151) (n := 3) (k := 1) (mi := 151) (pc := 40) (en := (40, .invokestatic 56, 3, [151, 420, 0], .null)) rfl trivial rfl rfl vm_z151 (av := [.int (nI i), .int 0, .int (nI (w - 1))]) (rest := []) (m_isWithin_y (v := nI i) (a := 0) (b := nI (w - 1)) (vm_bpn (by omega) rfl (by omega))) rfl (Nat.le_of_ble_eq_true rfl) ⟨Nat.le_of_ble_eq_true rfl, Nat.le_of_ble_eq_true rfl⟩ ⟨Nat.le_of_ble_eq_true rfl, Nat.le_of_ble_eq_true rfl⟩ ?_
  show vm_J _ _ _ (43, (0, 0), [.ref 0, .int (nI i), .int (nI j), .int 0, .ref (1 + 4), .retAddr 0], [.int 1]) (G, I, F) _ _
  refine vm_J.go vm_q123 (k := 1) (hs := []) (f' := (bif vm_ic .eq 1 0 then 61 else 46, (0, 0), [.ref 0, .int (nI i), .int (nI j), .int 0, .ref (1 + 4), .retAddr 0], [])) (h' := (G, I, F)) (hs' := []) rfl rfl ?_
  refine vm_J.bF (by decide) ?_
  refine vm_J.go vm_q123 (k := 4) (hs := [(8, 9, [.int 0, .int 0, .int 0, .ref (1 + 5), .ref (1 + 6), .ref (1 + 7), .ref (1 + 8), .ref (1 + 9), .ref (1 + 10)])]) (f' := (53, (0, 0), [.ref 0, .int (nI i), .int (nI j), .int 0, .ref (1 + 4), .retAddr 0], [.int (I (1 + 4) 2), .int 0, .int (nI j)])) (h' := (G, I, F)) (hs' := []) rfl (vm_b2 rfl (vm_b2 rfl (vm_b2 rfl (vm_b2 (vm_b2 (vm_hG hD.w1.sh) rfl) rfl)))) ?_
  rw [(hh : I (1 + 4) 2 = nI h)]
  refine vm_J.go vm_q123 (k := 2) (hs := []) (f' := (55, (0, 0), [.ref 0, .int (nI i), .int (nI j), .int 0, .ref (1 + 4), .retAddr 0], [.int ((nI h) - 1), .int 0, .int (nI j)])) (h' := (G, I, F)) (hs' := []) rfl rfl ?_
  rw [((vm_ps (rfl : (nI h : Int32) = nI h) (rfl : (1 : Int32) = nI 1) (by omega)) : (nI h) - 1 = nI (h - 1))]
  refine vm_J.call vm_q123 (Z := vm_M151) (n := 3) (k := 1) (mi := 151) (pc := 55) (en := (55, .invokestatic 56, 3, [151, 420, 0], .null)) rfl trivial rfl rfl vm_z151 (av := [.int (nI j), .int 0, .int (nI (h - 1))]) (rest := []) (m_isWithin_y (v := nI j) (a := 0) (b := nI (h - 1)) (vm_bpn (by omega) rfl (by omega))) rfl (Nat.le_of_ble_eq_true rfl) ⟨Nat.le_of_ble_eq_true rfl, Nat.le_of_ble_eq_true rfl⟩ ⟨Nat.le_of_ble_eq_true rfl, Nat.le_of_ble_eq_true rfl⟩ ?_
  show vm_J _ _ _ (58, (0, 0), [.ref 0, .int (nI i), .int (nI j), .int 0, .ref (1 + 4), .retAddr 0], [.int 1]) (G, I, F) _ _
  refine vm_J.go vm_q123 (k := 1) (hs := []) (f' := (bif vm_ic .ne 1 0 then 64 else 61, (0, 0), [.ref 0, .int (nI i), .int (nI j), .int 0, .ref (1 + 4), .retAddr 0], [])) (h' := (G, I, F)) (hs' := []) rfl rfl ?_
  refine vm_J.bT (by decide) ?_
  refine vm_J.go vm_q123 (k := 3) (hs := [(8, 9, [.int 0, .int 0, .int 0, .ref (1 + 5), .ref (1 + 6), .ref (1 + 7), .ref (1 + 8), .ref (1 + 9), .ref (1 + 10)])]) (f' := (70, (0, 0), [.ref 0, .int (nI i), .int (nI j), .int 0, .ref (1 + 4), .retAddr 0], [.int (I (1 + 4) 1), .int (nI j)])) (h' := (G, I, F)) (hs' := []) rfl (vm_b2 rfl (vm_b2 rfl (vm_b2 (vm_b2 (vm_hG hD.w1.sh) rfl) rfl))) ?_
  rw [(hw : I (1 + 4) 1 = nI w)]
  refine vm_J.go vm_q123 (k := 9) (hs := [(8, 9, [.int 0, .int 0, .int 0, .ref (1 + 5), .ref (1 + 6), .ref (1 + 7), .ref (1 + 8), .ref (1 + 9), .ref (1 + 10)])]) (f' := (111, (0, 0), [.ref 0, .int (nI i), .int (nI j), .int 0, .ref (1 + 4), .int (((nI j) * (nI w)) + (nI i))], [.int (((nI j) * (nI w)) + (nI i)), .ref (1 + 6)])) (h' := (G, I, F)) (hs' := []) rfl (vm_b2 rfl (vm_b2 rfl (vm_b2 rfl (vm_b2 rfl (vm_b2 rfl (vm_b2 rfl (vm_b2 rfl (vm_b2 (vm_b2 (vm_hG hD.w1.sh) rfl) (vm_b2 rfl rfl))))))))) ?_
  rw [((vm_pa (vm_pm (rfl : (nI j : Int32) = nI j) (rfl : (nI w : Int32) = nI w)) (rfl : (nI i : Int32) = nI i)) : ((nI j) * (nI w)) + (nI i) = nI ((j * w) + i))]
  refine vm_J.call vm_q123 (Z := vm_M152) (n := 2) (k := 1) (mi := 152) (pc := 111) (en := (111, .invokestatic 118, 3, [152, 511, 0], .null)) rfl trivial rfl rfl vm_z152 (av := [.ref (1 + 6), .int (nI ((j * w) + i))]) (rest := []) (m_at_n (j := (j * w) + i) hD.w1.s2 (by omega) (by omega)) rfl (Nat.le_of_ble_eq_true rfl) ⟨Nat.le_of_ble_eq_true rfl, Nat.le_of_ble_eq_true rfl⟩ ⟨Nat.le_of_ble_eq_true rfl, Nat.le_of_ble_eq_true rfl⟩ ?_
  show vm_J _ _ _ (114, (0, 0), [.ref 0, .int (nI i), .int (nI j), .int 0, .ref (1 + 4), .int (nI ((j * w) + i))], [.int (I (1 + 6) ((j * w) + i))]) (G, I, F) _ _
  exact vm_J.end vm_q123 (en := (114, .ireturn, 1, [], .null)) rfl rfl vm_rI (Nat.zero_le _) (Nat.zero_le _) rfl
set_option maxHeartbeats 4000000 in
set_option maxRecDepth 20000 in
/-- DitherDesk.sheet -/
theorem c_sheet_1 {l : Launch} {X : vm_Cx} {G : List vm_Sh} {I : Nat → Nat → Int32} {F : Nat → Nat → UInt32} {w : Nat} {h : Nat} {i : Nat} {j : Nat} (hD : vm_isD G) (hw : I (1 + 4) 1 = nI w) (hh : I (1 + 4) 2 = nI h) (hw2 : w ≤ 12) (hh2 : h ≤ 12) (hw0 : 0 < w) (hmd : ¬ I (1 + 4) 0 = -1) (hi : i < w) (hj : j < h) : vm_K l X vm_M123 [.ref 0, .int (nI i), .int (nI j), .int 1] (G, I, F) (some (.int (I (1 + 7) (j * w + i)))) (G, I, F) := by
  refine vm_K.mk (by decide) (Nat.le_of_ble_eq_true rfl) ?_
  have hwh := vm_mul144 hw2 hh2
  have hlin := vm_lin hi hj
  show vm_J _ _ _ (0, (0, 0), [.ref 0, .int (nI i), .int (nI j), .int 1, .retAddr 0, .retAddr 0], []) _ _ _
  refine vm_J.go vm_q123 (k := 7) (hs := [(12, 9, [.ref 1, .ref 38, .ref 75, .ref 112, .ref 132, .ref 135, .ref 139, .int 0, .int 0]), (11, 7, [.ref (1 + 1), .ref (1 + 2), .ref (1 + 3), .ref (1 + 4), .ref (1 + 11), .ref (1 + 13), .ref (1 + 15)])]) (f' := (12, (0, 0), [.ref 0, .int (nI i), .int (nI j), .int 1, .ref (1 + 4), .retAddr 0], [.int 2, .int 0, .int 1])) (h' := (G, I, F)) (hs' := []) rfl (vm_b2 rfl (vm_b2 (vm_b2 (vm_hG hD.d) rfl) (vm_b2 (vm_b2 (vm_hG hD.w1.w) rfl) (vm_b2 rfl (vm_b2 rfl (vm_b2 rfl (vm_b2 rfl rfl))))))) ?_
  refine vm_J.call vm_q123 (Z := vm_M151) (n := 3) (k := 1) (mi := 151) (pc := 12) (en := (12, .invokestatic 56, 3, [151, 420, 0], .null)) rfl trivial rfl rfl vm_z151 (av := [.int 1, .int 0, .int 2]) (rest := []) (m_isWithin_y (v := 1) (a := 0) (b := 2) (by decide)) rfl (Nat.le_of_ble_eq_true rfl) ⟨Nat.le_of_ble_eq_true rfl, Nat.le_of_ble_eq_true rfl⟩ ⟨Nat.le_of_ble_eq_true rfl, Nat.le_of_ble_eq_true rfl⟩ ?_
  show vm_J _ _ _ (15, (0, 0), [.ref 0, .int (nI i), .int (nI j), .int 1, .ref (1 + 4), .retAddr 0], [.int 1]) (G, I, F) _ _
  refine vm_J.go vm_q123 (k := 1) (hs := []) (f' := (bif vm_ic .ne 1 0 then 20 else 18, (0, 0), [.ref 0, .int (nI i), .int (nI j), .int 1, .ref (1 + 4), .retAddr 0], [])) (h' := (G, I, F)) (hs' := []) rfl rfl ?_
  refine vm_J.bT (by decide) ?_
  refine vm_J.go vm_q123 (k := 1) (hs := []) (f' := (22, (0, 0), [.ref 0, .int (nI i), .int (nI j), .int 1, .ref (1 + 4), .retAddr 0], [.ref (1 + 4)])) (h' := (G, I, F)) (hs' := []) rfl rfl ?_
  refine vm_J.call vm_q123 (Z := vm_M61) (n := 0) (k := 0) (mi := 61) (pc := 22) (en := (22, .invokevirtual 268, 3, [61, 887, 0], .null)) rfl trivial rfl rfl vm_z61 (av := [.ref (1 + 4)]) (rest := []) (m_isMade_y (o := 1 + 4) (a := 1 + 5) (b := 1 + 6) (c := 1 + 7) (d := 1 + 8) (e := 1 + 9) (f := 1 + 10) hD.w1.sh hmd) ⟨_, _, rfl, rfl, _, 6, _, hD.w1.sh, rfl, rfl, rfl⟩ (Nat.le_of_ble_eq_true rfl) ⟨Nat.le_of_ble_eq_true rfl, Nat.le_of_ble_eq_true rfl⟩ ⟨Nat.le_of_ble_eq_true rfl, Nat.le_of_ble_eq_true rfl⟩ ?_
  show vm_J _ _ _ (25, (0, 0), [.ref 0, .int (nI i), .int (nI j), .int 1, .ref (1 + 4), .retAddr 0], [.int 1]) (G, I, F) _ _
  refine vm_J.go vm_q123 (k := 1) (hs := []) (f' := (bif vm_ic .ne 1 0 then 31 else 28, (0, 0), [.ref 0, .int (nI i), .int (nI j), .int 1, .ref (1 + 4), .retAddr 0], [])) (h' := (G, I, F)) (hs' := []) rfl rfl ?_
  refine vm_J.bT (by decide) ?_
  refine vm_J.go vm_q123 (k := 4) (hs := [(8, 9, [.int 0, .int 0, .int 0, .ref (1 + 5), .ref (1 + 6), .ref (1 + 7), .ref (1 + 8), .ref (1 + 9), .ref (1 + 10)])]) (f' := (38, (0, 0), [.ref 0, .int (nI i), .int (nI j), .int 1, .ref (1 + 4), .retAddr 0], [.int (I (1 + 4) 1), .int 0, .int (nI i)])) (h' := (G, I, F)) (hs' := []) rfl (vm_b2 rfl (vm_b2 rfl (vm_b2 rfl (vm_b2 (vm_b2 (vm_hG hD.w1.sh) rfl) rfl)))) ?_
  rw [(hw : I (1 + 4) 1 = nI w)]
  refine vm_J.go vm_q123 (k := 2) (hs := []) (f' := (40, (0, 0), [.ref 0, .int (nI i), .int (nI j), .int 1, .ref (1 + 4), .retAddr 0], [.int ((nI w) - 1), .int 0, .int (nI i)])) (h' := (G, I, F)) (hs' := []) rfl rfl ?_
  rw [((vm_ps (rfl : (nI w : Int32) = nI w) (rfl : (1 : Int32) = nI 1) (by omega)) : (nI w) - 1 = nI (w - 1))]
  refine vm_J.call vm_q123 (Z := vm_M151) (n := 3) (k := 1) (mi := 151) (pc := 40) (en := (40, .invokestatic 56, 3, [151, 420, 0], .null)) rfl trivial rfl rfl vm_z151 (av := [.int (nI i), .int 0, .int (nI (w - 1))]) (rest := []) (m_isWithin_y (v := nI i) (a := 0) (b := nI (w - 1)) (vm_bpn (by omega) rfl (by omega))) rfl (Nat.le_of_ble_eq_true rfl) ⟨Nat.le_of_ble_eq_true rfl, Nat.le_of_ble_eq_true rfl⟩ ⟨Nat.le_of_ble_eq_true rfl, Nat.le_of_ble_eq_true rfl⟩ ?_
  show vm_J _ _ _ (43, (0, 0), [.ref 0, .int (nI i), .int (nI j), .int 1, .ref (1 + 4), .retAddr 0], [.int 1]) (G, I, F) _ _
  refine vm_J.go vm_q123 (k := 1) (hs := []) (f' := (bif vm_ic .eq 1 0 then 61 else 46, (0, 0), [.ref 0, .int (nI i), .int (nI j), .int 1, .ref (1 + 4), .retAddr 0], [])) (h' := (G, I, F)) (hs' := []) rfl rfl ?_
  refine vm_J.bF (by decide) ?_
  refine vm_J.go vm_q123 (k := 4) (hs := [(8, 9, [.int 0, .int 0, .int 0, .ref (1 + 5), .ref (1 + 6), .ref (1 + 7), .ref (1 + 8), .ref (1 + 9), .ref (1 + 10)])]) (f' := (53, (0, 0), [.ref 0, .int (nI i), .int (nI j), .int 1, .ref (1 + 4), .retAddr 0], [.int (I (1 + 4) 2), .int 0, .int (nI j)])) (h' := (G, I, F)) (hs' := []) rfl (vm_b2 rfl (vm_b2 rfl (vm_b2 rfl (vm_b2 (vm_b2 (vm_hG hD.w1.sh) rfl) rfl)))) ?_
  rw [(hh : I (1 + 4) 2 = nI h)]
  refine vm_J.go vm_q123 (k := 2) (hs := []) (f' := (55, (0, 0), [.ref 0, .int (nI i), .int (nI j), .int 1, .ref (1 + 4), .retAddr 0], [.int ((nI h) - 1), .int 0, .int (nI j)])) (h' := (G, I, F)) (hs' := []) rfl rfl ?_
  rw [((vm_ps (rfl : (nI h : Int32) = nI h) (rfl : (1 : Int32) = nI 1) (by omega)) : (nI h) - 1 = nI (h - 1))]
  refine vm_J.call vm_q123 (Z := vm_M151) (n := 3) (k := 1) (mi := 151) (pc := 55) (en := (55, .invokestatic 56, 3, [151, 420, 0], .null)) rfl trivial rfl rfl vm_z151 (av := [.int (nI j), .int 0, .int (nI (h - 1))]) (rest := []) (m_isWithin_y (v := nI j) (a := 0) (b := nI (h - 1)) (vm_bpn (by omega) rfl (by omega))) rfl (Nat.le_of_ble_eq_true rfl) ⟨Nat.le_of_ble_eq_true rfl, Nat.le_of_ble_eq_true rfl⟩ ⟨Nat.le_of_ble_eq_true rfl, Nat.le_of_ble_eq_true rfl⟩ ?_
  show vm_J _ _ _ (58, (0, 0), [.ref 0, .int (nI i), .int (nI j), .int 1, .ref (1 + 4), .retAddr 0], [.int 1]) (G, I, F) _ _
  refine vm_J.go vm_q123 (k := 1) (hs := []) (f' := (bif vm_ic .ne 1 0 then 64 else 61, (0, 0), [.ref 0, .int (nI i), .int (nI j), .int 1, .ref (1 + 4), .retAddr 0], [])) (h' := (G, I, F)) (hs' := []) rfl rfl ?_
  refine vm_J.bT (by decide) ?_
  refine vm_J.go vm_q123 (k := 3) (hs := [(8, 9, [.int 0, .int 0, .int 0, .ref (1 + 5), .ref (1 + 6), .ref (1 + 7), .ref (1 + 8), .ref (1 + 9), .ref (1 + 10)])]) (f' := (70, (0, 0), [.ref 0, .int (nI i), .int (nI j), .int 1, .ref (1 + 4), .retAddr 0], [.int (I (1 + 4) 1), .int (nI j)])) (h' := (G, I, F)) (hs' := []) rfl (vm_b2 rfl (vm_b2 rfl (vm_b2 (vm_b2 (vm_hG hD.w1.sh) rfl) rfl))) ?_
  rw [(hw : I (1 + 4) 1 = nI w)]
  refine vm_J.go vm_q123 (k := 9) (hs := [(8, 9, [.int 0, .int 0, .int 0, .ref (1 + 5), .ref (1 + 6), .ref (1 + 7), .ref (1 + 8), .ref (1 + 9), .ref (1 + 10)])]) (f' := (122, (0, 0), [.ref 0, .int (nI i), .int (nI j), .int 1, .ref (1 + 4), .int (((nI j) * (nI w)) + (nI i))], [.int (((nI j) * (nI w)) + (nI i)), .ref (1 + 7)])) (h' := (G, I, F)) (hs' := []) rfl (vm_b2 rfl (vm_b2 rfl (vm_b2 rfl (vm_b2 rfl (vm_b2 rfl (vm_b2 rfl (vm_b2 rfl (vm_b2 (vm_b2 (vm_hG hD.w1.sh) rfl) (vm_b2 rfl rfl))))))))) ?_
  rw [((vm_pa (vm_pm (rfl : (nI j : Int32) = nI j) (rfl : (nI w : Int32) = nI w)) (rfl : (nI i : Int32) = nI i)) : ((nI j) * (nI w)) + (nI i) = nI ((j * w) + i))]
  refine vm_J.call vm_q123 (Z := vm_M152) (n := 2) (k := 1) (mi := 152) (pc := 122) (en := (122, .invokestatic 118, 3, [152, 511, 0], .null)) rfl trivial rfl rfl vm_z152 (av := [.ref (1 + 7), .int (nI ((j * w) + i))]) (rest := []) (m_at_n (j := (j * w) + i) hD.w1.s3 (by omega) (by omega)) rfl (Nat.le_of_ble_eq_true rfl) ⟨Nat.le_of_ble_eq_true rfl, Nat.le_of_ble_eq_true rfl⟩ ⟨Nat.le_of_ble_eq_true rfl, Nat.le_of_ble_eq_true rfl⟩ ?_
  show vm_J _ _ _ (125, (0, 0), [.ref 0, .int (nI i), .int (nI j), .int 1, .ref (1 + 4), .int (nI ((j * w) + i))], [.int (I (1 + 7) ((j * w) + i))]) (G, I, F) _ _
  exact vm_J.end vm_q123 (en := (125, .ireturn, 1, [], .null)) rfl rfl vm_rI (Nat.zero_le _) (Nat.zero_le _) rfl
set_option maxHeartbeats 4000000 in
set_option maxRecDepth 20000 in
/-- DitherDesk.sheet -/
theorem c_sheet_2 {l : Launch} {X : vm_Cx} {G : List vm_Sh} {I : Nat → Nat → Int32} {F : Nat → Nat → UInt32} {w : Nat} {h : Nat} {i : Nat} {j : Nat} (hD : vm_isD G) (hw : I (1 + 4) 1 = nI w) (hh : I (1 + 4) 2 = nI h) (hw2 : w ≤ 12) (hh2 : h ≤ 12) (hw0 : 0 < w) (hmd : ¬ I (1 + 4) 0 = -1) (hi : i < w) (hj : j < h) : vm_K l X vm_M123 [.ref 0, .int (nI i), .int (nI j), .int 2] (G, I, F) (some (.int (I (1 + 5) (j * w + i)))) (G, I, F) := by
  refine vm_K.mk (by decide) (Nat.le_of_ble_eq_true rfl) ?_
  have hwh := vm_mul144 hw2 hh2
  have hlin := vm_lin hi hj
  show vm_J _ _ _ (0, (0, 0), [.ref 0, .int (nI i), .int (nI j), .int 2, .retAddr 0, .retAddr 0], []) _ _ _
  refine vm_J.go vm_q123 (k := 7) (hs := [(12, 9, [.ref 1, .ref 38, .ref 75, .ref 112, .ref 132, .ref 135, .ref 139, .int 0, .int 0]), (11, 7, [.ref (1 + 1), .ref (1 + 2), .ref (1 + 3), .ref (1 + 4), .ref (1 + 11), .ref (1 + 13), .ref (1 + 15)])]) (f' := (12, (0, 0), [.ref 0, .int (nI i), .int (nI j), .int 2, .ref (1 + 4), .retAddr 0], [.int 2, .int 0, .int 2])) (h' := (G, I, F)) (hs' := []) rfl (vm_b2 rfl (vm_b2 (vm_b2 (vm_hG hD.d) rfl) (vm_b2 (vm_b2 (vm_hG hD.w1.w) rfl) (vm_b2 rfl (vm_b2 rfl (vm_b2 rfl (vm_b2 rfl rfl))))))) ?_
  refine vm_J.call vm_q123 (Z := vm_M151) (n := 3) (k := 1) (mi := 151) (pc := 12) (en := (12, .invokestatic 56, 3, [151, 420, 0], .null)) rfl trivial rfl rfl vm_z151 (av := [.int 2, .int 0, .int 2]) (rest := []) (m_isWithin_y (v := 2) (a := 0) (b := 2) (by decide)) rfl (Nat.le_of_ble_eq_true rfl) ⟨Nat.le_of_ble_eq_true rfl, Nat.le_of_ble_eq_true rfl⟩ ⟨Nat.le_of_ble_eq_true rfl, Nat.le_of_ble_eq_true rfl⟩ ?_
  show vm_J _ _ _ (15, (0, 0), [.ref 0, .int (nI i), .int (nI j), .int 2, .ref (1 + 4), .retAddr 0], [.int 1]) (G, I, F) _ _
  refine vm_J.go vm_q123 (k := 1) (hs := []) (f' := (bif vm_ic .ne 1 0 then 20 else 18, (0, 0), [.ref 0, .int (nI i), .int (nI j), .int 2, .ref (1 + 4), .retAddr 0], [])) (h' := (G, I, F)) (hs' := []) rfl rfl ?_
  refine vm_J.bT (by decide) ?_
  refine vm_J.go vm_q123 (k := 1) (hs := []) (f' := (22, (0, 0), [.ref 0, .int (nI i), .int (nI j), .int 2, .ref (1 + 4), .retAddr 0], [.ref (1 + 4)])) (h' := (G, I, F)) (hs' := []) rfl rfl ?_
  refine vm_J.call vm_q123 (Z := vm_M61) (n := 0) (k := 0) (mi := 61) (pc := 22) (en := (22, .invokevirtual 268, 3, [61, 887, 0], .null)) rfl trivial rfl rfl vm_z61 (av := [.ref (1 + 4)]) (rest := []) (m_isMade_y (o := 1 + 4) (a := 1 + 5) (b := 1 + 6) (c := 1 + 7) (d := 1 + 8) (e := 1 + 9) (f := 1 + 10) hD.w1.sh hmd) ⟨_, _, rfl, rfl, _, 6, _, hD.w1.sh, rfl, rfl, rfl⟩ (Nat.le_of_ble_eq_true rfl) ⟨Nat.le_of_ble_eq_true rfl, Nat.le_of_ble_eq_true rfl⟩ ⟨Nat.le_of_ble_eq_true rfl, Nat.le_of_ble_eq_true rfl⟩ ?_
  show vm_J _ _ _ (25, (0, 0), [.ref 0, .int (nI i), .int (nI j), .int 2, .ref (1 + 4), .retAddr 0], [.int 1]) (G, I, F) _ _
  refine vm_J.go vm_q123 (k := 1) (hs := []) (f' := (bif vm_ic .ne 1 0 then 31 else 28, (0, 0), [.ref 0, .int (nI i), .int (nI j), .int 2, .ref (1 + 4), .retAddr 0], [])) (h' := (G, I, F)) (hs' := []) rfl rfl ?_
  refine vm_J.bT (by decide) ?_
  refine vm_J.go vm_q123 (k := 4) (hs := [(8, 9, [.int 0, .int 0, .int 0, .ref (1 + 5), .ref (1 + 6), .ref (1 + 7), .ref (1 + 8), .ref (1 + 9), .ref (1 + 10)])]) (f' := (38, (0, 0), [.ref 0, .int (nI i), .int (nI j), .int 2, .ref (1 + 4), .retAddr 0], [.int (I (1 + 4) 1), .int 0, .int (nI i)])) (h' := (G, I, F)) (hs' := []) rfl (vm_b2 rfl (vm_b2 rfl (vm_b2 rfl (vm_b2 (vm_b2 (vm_hG hD.w1.sh) rfl) rfl)))) ?_
  rw [(hw : I (1 + 4) 1 = nI w)]
  refine vm_J.go vm_q123 (k := 2) (hs := []) (f' := (40, (0, 0), [.ref 0, .int (nI i), .int (nI j), .int 2, .ref (1 + 4), .retAddr 0], [.int ((nI w) - 1), .int 0, .int (nI i)])) (h' := (G, I, F)) (hs' := []) rfl rfl ?_
  rw [((vm_ps (rfl : (nI w : Int32) = nI w) (rfl : (1 : Int32) = nI 1) (by omega)) : (nI w) - 1 = nI (w - 1))]
  refine vm_J.call vm_q123 (Z := vm_M151) (n := 3) (k := 1) (mi := 151) (pc := 40) (en := (40, .invokestatic 56, 3, [151, 420, 0], .null)) rfl trivial rfl rfl vm_z151 (av := [.int (nI i), .int 0, .int (nI (w - 1))]) (rest := []) (m_isWithin_y (v := nI i) (a := 0) (b := nI (w - 1)) (vm_bpn (by omega) rfl (by omega))) rfl (Nat.le_of_ble_eq_true rfl) ⟨Nat.le_of_ble_eq_true rfl, Nat.le_of_ble_eq_true rfl⟩ ⟨Nat.le_of_ble_eq_true rfl, Nat.le_of_ble_eq_true rfl⟩ ?_
  show vm_J _ _ _ (43, (0, 0), [.ref 0, .int (nI i), .int (nI j), .int 2, .ref (1 + 4), .retAddr 0], [.int 1]) (G, I, F) _ _
  refine vm_J.go vm_q123 (k := 1) (hs := []) (f' := (bif vm_ic .eq 1 0 then 61 else 46, (0, 0), [.ref 0, .int (nI i), .int (nI j), .int 2, .ref (1 + 4), .retAddr 0], [])) (h' := (G, I, F)) (hs' := []) rfl rfl ?_
  refine vm_J.bF (by decide) ?_
  refine vm_J.go vm_q123 (k := 4) (hs := [(8, 9, [.int 0, .int 0, .int 0, .ref (1 + 5), .ref (1 + 6), .ref (1 + 7), .ref (1 + 8), .ref (1 + 9), .ref (1 + 10)])]) (f' := (53, (0, 0), [.ref 0, .int (nI i), .int (nI j), .int 2, .ref (1 + 4), .retAddr 0], [.int (I (1 + 4) 2), .int 0, .int (nI j)])) (h' := (G, I, F)) (hs' := []) rfl (vm_b2 rfl (vm_b2 rfl (vm_b2 rfl (vm_b2 (vm_b2 (vm_hG hD.w1.sh) rfl) rfl)))) ?_
  rw [(hh : I (1 + 4) 2 = nI h)]
  refine vm_J.go vm_q123 (k := 2) (hs := []) (f' := (55, (0, 0), [.ref 0, .int (nI i), .int (nI j), .int 2, .ref (1 + 4), .retAddr 0], [.int ((nI h) - 1), .int 0, .int (nI j)])) (h' := (G, I, F)) (hs' := []) rfl rfl ?_
  rw [((vm_ps (rfl : (nI h : Int32) = nI h) (rfl : (1 : Int32) = nI 1) (by omega)) : (nI h) - 1 = nI (h - 1))]
  refine vm_J.call vm_q123 (Z := vm_M151) (n := 3) (k := 1) (mi := 151) (pc := 55) (en := (55, .invokestatic 56, 3, [151, 420, 0], .null)) rfl trivial rfl rfl vm_z151 (av := [.int (nI j), .int 0, .int (nI (h - 1))]) (rest := []) (m_isWithin_y (v := nI j) (a := 0) (b := nI (h - 1)) (vm_bpn (by omega) rfl (by omega))) rfl (Nat.le_of_ble_eq_true rfl) ⟨Nat.le_of_ble_eq_true rfl, Nat.le_of_ble_eq_true rfl⟩ ⟨Nat.le_of_ble_eq_true rfl, Nat.le_of_ble_eq_true rfl⟩ ?_
  show vm_J _ _ _ (58, (0, 0), [.ref 0, .int (nI i), .int (nI j), .int 2, .ref (1 + 4), .retAddr 0], [.int 1]) (G, I, F) _ _
  refine vm_J.go vm_q123 (k := 1) (hs := []) (f' := (bif vm_ic .ne 1 0 then 64 else 61, (0, 0), [.ref 0, .int (nI i), .int (nI j), .int 2, .ref (1 + 4), .retAddr 0], [])) (h' := (G, I, F)) (hs' := []) rfl rfl ?_
  refine vm_J.bT (by decide) ?_
  refine vm_J.go vm_q123 (k := 3) (hs := [(8, 9, [.int 0, .int 0, .int 0, .ref (1 + 5), .ref (1 + 6), .ref (1 + 7), .ref (1 + 8), .ref (1 + 9), .ref (1 + 10)])]) (f' := (70, (0, 0), [.ref 0, .int (nI i), .int (nI j), .int 2, .ref (1 + 4), .retAddr 0], [.int (I (1 + 4) 1), .int (nI j)])) (h' := (G, I, F)) (hs' := []) rfl (vm_b2 rfl (vm_b2 rfl (vm_b2 (vm_b2 (vm_hG hD.w1.sh) rfl) rfl))) ?_
  rw [(hw : I (1 + 4) 1 = nI w)]
  refine vm_J.go vm_q123 (k := 9) (hs := [(8, 9, [.int 0, .int 0, .int 0, .ref (1 + 5), .ref (1 + 6), .ref (1 + 7), .ref (1 + 8), .ref (1 + 9), .ref (1 + 10)])]) (f' := (133, (0, 0), [.ref 0, .int (nI i), .int (nI j), .int 2, .ref (1 + 4), .int (((nI j) * (nI w)) + (nI i))], [.int (((nI j) * (nI w)) + (nI i)), .ref (1 + 5)])) (h' := (G, I, F)) (hs' := []) rfl (vm_b2 rfl (vm_b2 rfl (vm_b2 rfl (vm_b2 rfl (vm_b2 rfl (vm_b2 rfl (vm_b2 rfl (vm_b2 (vm_b2 (vm_hG hD.w1.sh) rfl) (vm_b2 rfl rfl))))))))) ?_
  rw [((vm_pa (vm_pm (rfl : (nI j : Int32) = nI j) (rfl : (nI w : Int32) = nI w)) (rfl : (nI i : Int32) = nI i)) : ((nI j) * (nI w)) + (nI i) = nI ((j * w) + i))]
  refine vm_J.call vm_q123 (Z := vm_M152) (n := 2) (k := 1) (mi := 152) (pc := 133) (en := (133, .invokestatic 118, 3, [152, 511, 0], .null)) rfl trivial rfl rfl vm_z152 (av := [.ref (1 + 5), .int (nI ((j * w) + i))]) (rest := []) (m_at_n (j := (j * w) + i) hD.w1.s1 (by omega) (by omega)) rfl (Nat.le_of_ble_eq_true rfl) ⟨Nat.le_of_ble_eq_true rfl, Nat.le_of_ble_eq_true rfl⟩ ⟨Nat.le_of_ble_eq_true rfl, Nat.le_of_ble_eq_true rfl⟩ ?_
  show vm_J _ _ _ (136, (0, 0), [.ref 0, .int (nI i), .int (nI j), .int 2, .ref (1 + 4), .int (nI ((j * w) + i))], [.int (I (1 + 5) ((j * w) + i))]) (G, I, F) _ _
  exact vm_J.end vm_q123 (en := (136, .ireturn, 1, [], .null)) rfl rfl vm_rI (Nat.zero_le _) (Nat.zero_le _) rfl
set_option maxHeartbeats 4000000 in
set_option maxRecDepth 20000 in
/-- DitherDesk.sum -/
theorem c_sum_b {l : Launch} {X : vm_Cx} {G : List vm_Sh} {I : Nat → Nat → Int32} {F : Nat → Nat → UInt32} {k : Int32} (hD : vm_isD G) (hk : ¬ (0 ≤ k ∧ k ≤ 15)) : vm_K l X vm_M124 [.ref 0, .int k] (G, I, F) (some (.long (-9223372036854775808))) (G, I, F) := by
  refine vm_K.mk (by decide) (Nat.le_of_ble_eq_true rfl) ?_
  show vm_J _ _ _ (0, (0, 0), [.ref 0, .int k, .retAddr 0], []) _ _ _
  refine vm_J.go vm_q124 (k := 7) (hs := [(12, 9, [.ref 1, .ref 38, .ref 75, .ref 112, .ref 132, .ref 135, .ref 139, .int 0, .int 0]), (11, 7, [.ref (1 + 1), .ref (1 + 2), .ref (1 + 3), .ref (1 + 4), .ref (1 + 11), .ref (1 + 13), .ref (1 + 15)])]) (f' := (12, (0, 0), [.ref 0, .int k, .ref (1 + 4)], [.int 15, .int 0, .int k])) (h' := (G, I, F)) (hs' := []) rfl (vm_b2 rfl (vm_b2 (vm_b2 (vm_hG hD.d) rfl) (vm_b2 (vm_b2 (vm_hG hD.w1.w) rfl) (vm_b2 rfl (vm_b2 rfl (vm_b2 rfl (vm_b2 rfl rfl))))))) ?_
  refine vm_J.call vm_q124 (Z := vm_M151) (n := 3) (k := 1) (mi := 151) (pc := 12) (en := (12, .invokestatic 56, 3, [151, 420, 0], .null)) rfl trivial rfl rfl vm_z151 (av := [.int k, .int 0, .int 15]) (rest := []) (m_isWithin_n (v := k) (a := 0) (b := 15) hk) rfl (Nat.le_of_ble_eq_true rfl) ⟨Nat.le_of_ble_eq_true rfl, Nat.le_of_ble_eq_true rfl⟩ ⟨Nat.le_of_ble_eq_true rfl, Nat.le_of_ble_eq_true rfl⟩ ?_
  show vm_J _ _ _ (15, (0, 0), [.ref 0, .int k, .ref (1 + 4)], [.int 0]) (G, I, F) _ _
  refine vm_J.go vm_q124 (k := 1) (hs := []) (f' := (bif vm_ic .eq 0 0 then 25 else 18, (0, 0), [.ref 0, .int k, .ref (1 + 4)], [])) (h' := (G, I, F)) (hs' := []) rfl rfl ?_
  refine vm_J.bT (by decide) ?_
  refine vm_J.go vm_q124 (k := 1) (hs := []) (f' := (28, (0, 0), [.ref 0, .int k, .ref (1 + 4)], [.long (-9223372036854775808)])) (h' := (G, I, F)) (hs' := []) rfl rfl ?_
  exact vm_J.end vm_q124 (en := (28, .lreturn, 1, [], .null)) rfl rfl vm_rL (Nat.zero_le _) (Nat.zero_le _) rfl
set_option maxHeartbeats 4000000 in
set_option maxRecDepth 20000 in
/-- DitherDesk.sum -/
theorem c_sum_n {l : Launch} {X : vm_Cx} {G : List vm_Sh} {I : Nat → Nat → Int32} {F : Nat → Nat → UInt32} {k : Int32} (hD : vm_isD G) (hk : 0 ≤ k ∧ k ≤ 15) (hmd : I (1 + 4) 0 = -1) : vm_K l X vm_M124 [.ref 0, .int k] (G, I, F) (some (.long (-9223372036854775808))) (G, I, F) := by
  refine vm_K.mk (by decide) (Nat.le_of_ble_eq_true rfl) ?_
  show vm_J _ _ _ (0, (0, 0), [.ref 0, .int k, .retAddr 0], []) _ _ _
  refine vm_J.go vm_q124 (k := 7) (hs := [(12, 9, [.ref 1, .ref 38, .ref 75, .ref 112, .ref 132, .ref 135, .ref 139, .int 0, .int 0]), (11, 7, [.ref (1 + 1), .ref (1 + 2), .ref (1 + 3), .ref (1 + 4), .ref (1 + 11), .ref (1 + 13), .ref (1 + 15)])]) (f' := (12, (0, 0), [.ref 0, .int k, .ref (1 + 4)], [.int 15, .int 0, .int k])) (h' := (G, I, F)) (hs' := []) rfl (vm_b2 rfl (vm_b2 (vm_b2 (vm_hG hD.d) rfl) (vm_b2 (vm_b2 (vm_hG hD.w1.w) rfl) (vm_b2 rfl (vm_b2 rfl (vm_b2 rfl (vm_b2 rfl rfl))))))) ?_
  refine vm_J.call vm_q124 (Z := vm_M151) (n := 3) (k := 1) (mi := 151) (pc := 12) (en := (12, .invokestatic 56, 3, [151, 420, 0], .null)) rfl trivial rfl rfl vm_z151 (av := [.int k, .int 0, .int 15]) (rest := []) (m_isWithin_y (v := k) (a := 0) (b := 15) hk) rfl (Nat.le_of_ble_eq_true rfl) ⟨Nat.le_of_ble_eq_true rfl, Nat.le_of_ble_eq_true rfl⟩ ⟨Nat.le_of_ble_eq_true rfl, Nat.le_of_ble_eq_true rfl⟩ ?_
  show vm_J _ _ _ (15, (0, 0), [.ref 0, .int k, .ref (1 + 4)], [.int 1]) (G, I, F) _ _
  refine vm_J.go vm_q124 (k := 1) (hs := []) (f' := (bif vm_ic .eq 1 0 then 25 else 18, (0, 0), [.ref 0, .int k, .ref (1 + 4)], [])) (h' := (G, I, F)) (hs' := []) rfl rfl ?_
  refine vm_J.bF (by decide) ?_
  refine vm_J.go vm_q124 (k := 1) (hs := []) (f' := (19, (0, 0), [.ref 0, .int k, .ref (1 + 4)], [.ref (1 + 4)])) (h' := (G, I, F)) (hs' := []) rfl rfl ?_
  refine vm_J.call vm_q124 (Z := vm_M61) (n := 0) (k := 0) (mi := 61) (pc := 19) (en := (19, .invokevirtual 268, 3, [61, 887, 0], .null)) rfl trivial rfl rfl vm_z61 (av := [.ref (1 + 4)]) (rest := []) (m_isMade_n (o := 1 + 4) (a := 1 + 5) (b := 1 + 6) (c := 1 + 7) (d := 1 + 8) (e := 1 + 9) (f := 1 + 10) hD.w1.sh (fun z => z hmd)) ⟨_, _, rfl, rfl, _, 6, _, hD.w1.sh, rfl, rfl, rfl⟩ (Nat.le_of_ble_eq_true rfl) ⟨Nat.le_of_ble_eq_true rfl, Nat.le_of_ble_eq_true rfl⟩ ⟨Nat.le_of_ble_eq_true rfl, Nat.le_of_ble_eq_true rfl⟩ ?_
  show vm_J _ _ _ (22, (0, 0), [.ref 0, .int k, .ref (1 + 4)], [.int 0]) (G, I, F) _ _
  refine vm_J.go vm_q124 (k := 1) (hs := []) (f' := (bif vm_ic .ne 0 0 then 29 else 25, (0, 0), [.ref 0, .int k, .ref (1 + 4)], [])) (h' := (G, I, F)) (hs' := []) rfl rfl ?_
  refine vm_J.bF (by decide) ?_
  refine vm_J.go vm_q124 (k := 1) (hs := []) (f' := (28, (0, 0), [.ref 0, .int k, .ref (1 + 4)], [.long (-9223372036854775808)])) (h' := (G, I, F)) (hs' := []) rfl rfl ?_
  exact vm_J.end vm_q124 (en := (28, .lreturn, 1, [], .null)) rfl rfl vm_rL (Nat.zero_le _) (Nat.zero_le _) rfl
set_option maxHeartbeats 4000000 in
set_option maxRecDepth 20000 in
/-- DitherDesk.sum -/
theorem c_sum_0 {l : Launch} {X : vm_Cx} {G : List vm_Sh} {I : Nat → Nat → Int32} {F : Nat → Nat → UInt32} {w : Nat} {h : Nat} (hD : vm_isD G) (hw : I (1 + 4) 1 = nI w) (hh : I (1 + 4) 2 = nI h) (hw2 : w ≤ 12) (hh2 : h ≤ 12) (hw0 : 0 < w) (hmd : ¬ I (1 + 4) 0 = -1) : vm_K l X vm_M124 [.ref 0, .int 0] (G, I, F) (some (.long ((sp_sum (fun p => sp_sh (I (1 + 7)) (I (1 + 5)) 0 p * sp_sh (I (1 + 7)) (I (1 + 5)) 0 p) (w * h)).toInt64))) (G, I, F) := by
  refine vm_K.mk (by decide) (Nat.le_of_ble_eq_true rfl) ?_
  show vm_J _ _ _ (0, (0, 0), [.ref 0, .int 0, .retAddr 0], []) _ _ _
  refine vm_J.go vm_q124 (k := 7) (hs := [(12, 9, [.ref 1, .ref 38, .ref 75, .ref 112, .ref 132, .ref 135, .ref 139, .int 0, .int 0]), (11, 7, [.ref (1 + 1), .ref (1 + 2), .ref (1 + 3), .ref (1 + 4), .ref (1 + 11), .ref (1 + 13), .ref (1 + 15)])]) (f' := (12, (0, 0), [.ref 0, .int 0, .ref (1 + 4)], [.int 15, .int 0, .int 0])) (h' := (G, I, F)) (hs' := []) rfl (vm_b2 rfl (vm_b2 (vm_b2 (vm_hG hD.d) rfl) (vm_b2 (vm_b2 (vm_hG hD.w1.w) rfl) (vm_b2 rfl (vm_b2 rfl (vm_b2 rfl (vm_b2 rfl rfl))))))) ?_
  refine vm_J.call vm_q124 (Z := vm_M151) (n := 3) (k := 1) (mi := 151) (pc := 12) (en := (12, .invokestatic 56, 3, [151, 420, 0], .null)) rfl trivial rfl rfl vm_z151 (av := [.int 0, .int 0, .int 15]) (rest := []) (m_isWithin_y (v := 0) (a := 0) (b := 15) (by decide)) rfl (Nat.le_of_ble_eq_true rfl) ⟨Nat.le_of_ble_eq_true rfl, Nat.le_of_ble_eq_true rfl⟩ ⟨Nat.le_of_ble_eq_true rfl, Nat.le_of_ble_eq_true rfl⟩ ?_
  show vm_J _ _ _ (15, (0, 0), [.ref 0, .int 0, .ref (1 + 4)], [.int 1]) (G, I, F) _ _
  refine vm_J.go vm_q124 (k := 1) (hs := []) (f' := (bif vm_ic .eq 1 0 then 25 else 18, (0, 0), [.ref 0, .int 0, .ref (1 + 4)], [])) (h' := (G, I, F)) (hs' := []) rfl rfl ?_
  refine vm_J.bF (by decide) ?_
  refine vm_J.go vm_q124 (k := 1) (hs := []) (f' := (19, (0, 0), [.ref 0, .int 0, .ref (1 + 4)], [.ref (1 + 4)])) (h' := (G, I, F)) (hs' := []) rfl rfl ?_
  refine vm_J.call vm_q124 (Z := vm_M61) (n := 0) (k := 0) (mi := 61) (pc := 19) (en := (19, .invokevirtual 268, 3, [61, 887, 0], .null)) rfl trivial rfl rfl vm_z61 (av := [.ref (1 + 4)]) (rest := []) (m_isMade_y (o := 1 + 4) (a := 1 + 5) (b := 1 + 6) (c := 1 + 7) (d := 1 + 8) (e := 1 + 9) (f := 1 + 10) hD.w1.sh hmd) ⟨_, _, rfl, rfl, _, 6, _, hD.w1.sh, rfl, rfl, rfl⟩ (Nat.le_of_ble_eq_true rfl) ⟨Nat.le_of_ble_eq_true rfl, Nat.le_of_ble_eq_true rfl⟩ ⟨Nat.le_of_ble_eq_true rfl, Nat.le_of_ble_eq_true rfl⟩ ?_
  show vm_J _ _ _ (22, (0, 0), [.ref 0, .int 0, .ref (1 + 4)], [.int 1]) (G, I, F) _ _
  refine vm_J.go vm_q124 (k := 1) (hs := []) (f' := (bif vm_ic .ne 1 0 then 29 else 25, (0, 0), [.ref 0, .int 0, .ref (1 + 4)], [])) (h' := (G, I, F)) (hs' := []) rfl rfl ?_
  refine vm_J.bT (by decide) ?_
  refine vm_J.go vm_q124 (k := 4) (hs := []) (f' := (165, (0, 0), [.ref 0, .int 0, .ref (1 + 4)], [.int 0, .ref (1 + 4)])) (h' := (G, I, F)) (hs' := []) rfl rfl ?_
  refine vm_J.call vm_q124 (Z := vm_M72) (n := 1) (k := 0) (mi := 72) (pc := 165) (en := (165, .invokevirtual 307, 3, [72, 930, 0], .null)) rfl trivial rfl rfl vm_z72 (av := [.ref (1 + 4), .int 0]) (rest := []) (m_Sh_errorOn (o := 1 + 4) (a := 1 + 5) (b := 1 + 6) (c := 1 + 7) (d := 1 + 8) (e := 1 + 9) (f := 1 + 10) (w := w) (h := h) (k := 0) hD.w1.sh hD.w1.s1 hD.w1.s3 hw hh (by omega) (by omega)) ⟨_, _, rfl, rfl, _, 6, _, hD.w1.sh, rfl, rfl, rfl⟩ (Nat.le_of_ble_eq_true rfl) ⟨Nat.le_of_ble_eq_true rfl, Nat.le_of_ble_eq_true rfl⟩ ⟨Nat.le_of_ble_eq_true rfl, Nat.le_of_ble_eq_true rfl⟩ ?_
  show vm_J _ _ _ (168, (0, 0), [.ref 0, .int 0, .ref (1 + 4)], [.int (sp_sum (fun p => sp_sh (I (1 + 7)) (I (1 + 5)) 0 p * sp_sh (I (1 + 7)) (I (1 + 5)) 0 p) (w * h))]) (G, I, F) _ _
  refine vm_J.go vm_q124 (k := 1) (hs := []) (f' := (169, (0, 0), [.ref 0, .int 0, .ref (1 + 4)], [.long ((sp_sum (fun p => sp_sh (I (1 + 7)) (I (1 + 5)) 0 p * sp_sh (I (1 + 7)) (I (1 + 5)) 0 p) (w * h)).toInt64)])) (h' := (G, I, F)) (hs' := []) rfl rfl ?_
  exact vm_J.end vm_q124 (en := (169, .lreturn, 1, [], .null)) rfl rfl vm_rL (Nat.zero_le _) (Nat.zero_le _) rfl
set_option maxHeartbeats 4000000 in
set_option maxRecDepth 20000 in
/-- DitherDesk.sum -/
theorem c_sum_1 {l : Launch} {X : vm_Cx} {G : List vm_Sh} {I : Nat → Nat → Int32} {F : Nat → Nat → UInt32} {w : Nat} {h : Nat} (hD : vm_isD G) (hw : I (1 + 4) 1 = nI w) (hh : I (1 + 4) 2 = nI h) (hw2 : w ≤ 12) (hh2 : h ≤ 12) (hw0 : 0 < w) (hmd : ¬ I (1 + 4) 0 = -1) : vm_K l X vm_M124 [.ref 0, .int 1] (G, I, F) (some (.long ((sp_sum (fun p => sp_sh (I (1 + 7)) (I (1 + 5)) 1 p * sp_sh (I (1 + 7)) (I (1 + 5)) 1 p) (w * h)).toInt64))) (G, I, F) := by
  refine vm_K.mk (by decide) (Nat.le_of_ble_eq_true rfl) ?_
  show vm_J _ _ _ (0, (0, 0), [.ref 0, .int 1, .retAddr 0], []) _ _ _
  refine vm_J.go vm_q124 (k := 7) (hs := [(12, 9, [.ref 1, .ref 38, .ref 75, .ref 112, .ref 132, .ref 135, .ref 139, .int 0, .int 0]), (11, 7, [.ref (1 + 1), .ref (1 + 2), .ref (1 + 3), .ref (1 + 4), .ref (1 + 11), .ref (1 + 13), .ref (1 + 15)])]) (f' := (12, (0, 0), [.ref 0, .int 1, .ref (1 + 4)], [.int 15, .int 0, .int 1])) (h' := (G, I, F)) (hs' := []) rfl (vm_b2 rfl (vm_b2 (vm_b2 (vm_hG hD.d) rfl) (vm_b2 (vm_b2 (vm_hG hD.w1.w) rfl) (vm_b2 rfl (vm_b2 rfl (vm_b2 rfl (vm_b2 rfl rfl))))))) ?_
  refine vm_J.call vm_q124 (Z := vm_M151) (n := 3) (k := 1) (mi := 151) (pc := 12) (en := (12, .invokestatic 56, 3, [151, 420, 0], .null)) rfl trivial rfl rfl vm_z151 (av := [.int 1, .int 0, .int 15]) (rest := []) (m_isWithin_y (v := 1) (a := 0) (b := 15) (by decide)) rfl (Nat.le_of_ble_eq_true rfl) ⟨Nat.le_of_ble_eq_true rfl, Nat.le_of_ble_eq_true rfl⟩ ⟨Nat.le_of_ble_eq_true rfl, Nat.le_of_ble_eq_true rfl⟩ ?_
  show vm_J _ _ _ (15, (0, 0), [.ref 0, .int 1, .ref (1 + 4)], [.int 1]) (G, I, F) _ _
  refine vm_J.go vm_q124 (k := 1) (hs := []) (f' := (bif vm_ic .eq 1 0 then 25 else 18, (0, 0), [.ref 0, .int 1, .ref (1 + 4)], [])) (h' := (G, I, F)) (hs' := []) rfl rfl ?_
  refine vm_J.bF (by decide) ?_
  refine vm_J.go vm_q124 (k := 1) (hs := []) (f' := (19, (0, 0), [.ref 0, .int 1, .ref (1 + 4)], [.ref (1 + 4)])) (h' := (G, I, F)) (hs' := []) rfl rfl ?_
  refine vm_J.call vm_q124 (Z := vm_M61) (n := 0) (k := 0) (mi := 61) (pc := 19) (en := (19, .invokevirtual 268, 3, [61, 887, 0], .null)) rfl trivial rfl rfl vm_z61 (av := [.ref (1 + 4)]) (rest := []) (m_isMade_y (o := 1 + 4) (a := 1 + 5) (b := 1 + 6) (c := 1 + 7) (d := 1 + 8) (e := 1 + 9) (f := 1 + 10) hD.w1.sh hmd) ⟨_, _, rfl, rfl, _, 6, _, hD.w1.sh, rfl, rfl, rfl⟩ (Nat.le_of_ble_eq_true rfl) ⟨Nat.le_of_ble_eq_true rfl, Nat.le_of_ble_eq_true rfl⟩ ⟨Nat.le_of_ble_eq_true rfl, Nat.le_of_ble_eq_true rfl⟩ ?_
  show vm_J _ _ _ (22, (0, 0), [.ref 0, .int 1, .ref (1 + 4)], [.int 1]) (G, I, F) _ _
  refine vm_J.go vm_q124 (k := 1) (hs := []) (f' := (bif vm_ic .ne 1 0 then 29 else 25, (0, 0), [.ref 0, .int 1, .ref (1 + 4)], [])) (h' := (G, I, F)) (hs' := []) rfl rfl ?_
  refine vm_J.bT (by decide) ?_
  refine vm_J.go vm_q124 (k := 4) (hs := []) (f' := (165, (0, 0), [.ref 0, .int 1, .ref (1 + 4)], [.int 1, .ref (1 + 4)])) (h' := (G, I, F)) (hs' := []) rfl rfl ?_
  refine vm_J.call vm_q124 (Z := vm_M72) (n := 1) (k := 0) (mi := 72) (pc := 165) (en := (165, .invokevirtual 307, 3, [72, 930, 0], .null)) rfl trivial rfl rfl vm_z72 (av := [.ref (1 + 4), .int 1]) (rest := []) (m_Sh_errorOn (o := 1 + 4) (a := 1 + 5) (b := 1 + 6) (c := 1 + 7) (d := 1 + 8) (e := 1 + 9) (f := 1 + 10) (w := w) (h := h) (k := 1) hD.w1.sh hD.w1.s1 hD.w1.s3 hw hh (by omega) (by omega)) ⟨_, _, rfl, rfl, _, 6, _, hD.w1.sh, rfl, rfl, rfl⟩ (Nat.le_of_ble_eq_true rfl) ⟨Nat.le_of_ble_eq_true rfl, Nat.le_of_ble_eq_true rfl⟩ ⟨Nat.le_of_ble_eq_true rfl, Nat.le_of_ble_eq_true rfl⟩ ?_
  show vm_J _ _ _ (168, (0, 0), [.ref 0, .int 1, .ref (1 + 4)], [.int (sp_sum (fun p => sp_sh (I (1 + 7)) (I (1 + 5)) 1 p * sp_sh (I (1 + 7)) (I (1 + 5)) 1 p) (w * h))]) (G, I, F) _ _
  refine vm_J.go vm_q124 (k := 1) (hs := []) (f' := (169, (0, 0), [.ref 0, .int 1, .ref (1 + 4)], [.long ((sp_sum (fun p => sp_sh (I (1 + 7)) (I (1 + 5)) 1 p * sp_sh (I (1 + 7)) (I (1 + 5)) 1 p) (w * h)).toInt64)])) (h' := (G, I, F)) (hs' := []) rfl rfl ?_
  exact vm_J.end vm_q124 (en := (169, .lreturn, 1, [], .null)) rfl rfl vm_rL (Nat.zero_le _) (Nat.zero_le _) rfl
set_option maxHeartbeats 4000000 in
set_option maxRecDepth 20000 in
/-- DitherDesk.sum -/
theorem c_sum_2 {l : Launch} {X : vm_Cx} {G : List vm_Sh} {I : Nat → Nat → Int32} {F : Nat → Nat → UInt32} {w : Nat} {h : Nat} (hD : vm_isD G) (hw : I (1 + 4) 1 = nI w) (hh : I (1 + 4) 2 = nI h) (hw2 : w ≤ 12) (hh2 : h ≤ 12) (hw0 : 0 < w) (hmd : ¬ I (1 + 4) 0 = -1) : vm_K l X vm_M124 [.ref 0, .int 2] (G, I, F) (some (.long ((sp_sum (fun p => sp_sh (I (1 + 7)) (I (1 + 5)) 2 p * sp_sh (I (1 + 7)) (I (1 + 5)) 2 p) (w * h)).toInt64))) (G, I, F) := by
  refine vm_K.mk (by decide) (Nat.le_of_ble_eq_true rfl) ?_
  show vm_J _ _ _ (0, (0, 0), [.ref 0, .int 2, .retAddr 0], []) _ _ _
  refine vm_J.go vm_q124 (k := 7) (hs := [(12, 9, [.ref 1, .ref 38, .ref 75, .ref 112, .ref 132, .ref 135, .ref 139, .int 0, .int 0]), (11, 7, [.ref (1 + 1), .ref (1 + 2), .ref (1 + 3), .ref (1 + 4), .ref (1 + 11), .ref (1 + 13), .ref (1 + 15)])]) (f' := (12, (0, 0), [.ref 0, .int 2, .ref (1 + 4)], [.int 15, .int 0, .int 2])) (h' := (G, I, F)) (hs' := []) rfl (vm_b2 rfl (vm_b2 (vm_b2 (vm_hG hD.d) rfl) (vm_b2 (vm_b2 (vm_hG hD.w1.w) rfl) (vm_b2 rfl (vm_b2 rfl (vm_b2 rfl (vm_b2 rfl rfl))))))) ?_
  refine vm_J.call vm_q124 (Z := vm_M151) (n := 3) (k := 1) (mi := 151) (pc := 12) (en := (12, .invokestatic 56, 3, [151, 420, 0], .null)) rfl trivial rfl rfl vm_z151 (av := [.int 2, .int 0, .int 15]) (rest := []) (m_isWithin_y (v := 2) (a := 0) (b := 15) (by decide)) rfl (Nat.le_of_ble_eq_true rfl) ⟨Nat.le_of_ble_eq_true rfl, Nat.le_of_ble_eq_true rfl⟩ ⟨Nat.le_of_ble_eq_true rfl, Nat.le_of_ble_eq_true rfl⟩ ?_
  show vm_J _ _ _ (15, (0, 0), [.ref 0, .int 2, .ref (1 + 4)], [.int 1]) (G, I, F) _ _
  refine vm_J.go vm_q124 (k := 1) (hs := []) (f' := (bif vm_ic .eq 1 0 then 25 else 18, (0, 0), [.ref 0, .int 2, .ref (1 + 4)], [])) (h' := (G, I, F)) (hs' := []) rfl rfl ?_
  refine vm_J.bF (by decide) ?_
  refine vm_J.go vm_q124 (k := 1) (hs := []) (f' := (19, (0, 0), [.ref 0, .int 2, .ref (1 + 4)], [.ref (1 + 4)])) (h' := (G, I, F)) (hs' := []) rfl rfl ?_
  refine vm_J.call vm_q124 (Z := vm_M61) (n := 0) (k := 0) (mi := 61) (pc := 19) (en := (19, .invokevirtual 268, 3, [61, 887, 0], .null)) rfl trivial rfl rfl vm_z61 (av := [.ref (1 + 4)]) (rest := []) (m_isMade_y (o := 1 + 4) (a := 1 + 5) (b := 1 + 6) (c := 1 + 7) (d := 1 + 8) (e := 1 + 9) (f := 1 + 10) hD.w1.sh hmd) ⟨_, _, rfl, rfl, _, 6, _, hD.w1.sh, rfl, rfl, rfl⟩ (Nat.le_of_ble_eq_true rfl) ⟨Nat.le_of_ble_eq_true rfl, Nat.le_of_ble_eq_true rfl⟩ ⟨Nat.le_of_ble_eq_true rfl, Nat.le_of_ble_eq_true rfl⟩ ?_
  show vm_J _ _ _ (22, (0, 0), [.ref 0, .int 2, .ref (1 + 4)], [.int 1]) (G, I, F) _ _
  refine vm_J.go vm_q124 (k := 1) (hs := []) (f' := (bif vm_ic .ne 1 0 then 29 else 25, (0, 0), [.ref 0, .int 2, .ref (1 + 4)], [])) (h' := (G, I, F)) (hs' := []) rfl rfl ?_
  refine vm_J.bT (by decide) ?_
  refine vm_J.go vm_q124 (k := 4) (hs := []) (f' := (165, (0, 0), [.ref 0, .int 2, .ref (1 + 4)], [.int 2, .ref (1 + 4)])) (h' := (G, I, F)) (hs' := []) rfl rfl ?_
  refine vm_J.call vm_q124 (Z := vm_M72) (n := 1) (k := 0) (mi := 72) (pc := 165) (en := (165, .invokevirtual 307, 3, [72, 930, 0], .null)) rfl trivial rfl rfl vm_z72 (av := [.ref (1 + 4), .int 2]) (rest := []) (m_Sh_errorOn (o := 1 + 4) (a := 1 + 5) (b := 1 + 6) (c := 1 + 7) (d := 1 + 8) (e := 1 + 9) (f := 1 + 10) (w := w) (h := h) (k := 2) hD.w1.sh hD.w1.s1 hD.w1.s3 hw hh (by omega) (by omega)) ⟨_, _, rfl, rfl, _, 6, _, hD.w1.sh, rfl, rfl, rfl⟩ (Nat.le_of_ble_eq_true rfl) ⟨Nat.le_of_ble_eq_true rfl, Nat.le_of_ble_eq_true rfl⟩ ⟨Nat.le_of_ble_eq_true rfl, Nat.le_of_ble_eq_true rfl⟩ ?_
  show vm_J _ _ _ (168, (0, 0), [.ref 0, .int 2, .ref (1 + 4)], [.int (sp_sum (fun p => sp_sh (I (1 + 7)) (I (1 + 5)) 2 p * sp_sh (I (1 + 7)) (I (1 + 5)) 2 p) (w * h))]) (G, I, F) _ _
  refine vm_J.go vm_q124 (k := 1) (hs := []) (f' := (169, (0, 0), [.ref 0, .int 2, .ref (1 + 4)], [.long ((sp_sum (fun p => sp_sh (I (1 + 7)) (I (1 + 5)) 2 p * sp_sh (I (1 + 7)) (I (1 + 5)) 2 p) (w * h)).toInt64)])) (h' := (G, I, F)) (hs' := []) rfl rfl ?_
  exact vm_J.end vm_q124 (en := (169, .lreturn, 1, [], .null)) rfl rfl vm_rL (Nat.zero_le _) (Nat.zero_le _) rfl
set_option maxHeartbeats 4000000 in
set_option maxRecDepth 20000 in
/-- DitherDesk.sum -/
theorem c_sum_3 {l : Launch} {X : vm_Cx} {G : List vm_Sh} {I : Nat → Nat → Int32} {F : Nat → Nat → UInt32} {w : Nat} {h : Nat} (hD : vm_isD G) (hw : I (1 + 4) 1 = nI w) (hh : I (1 + 4) 2 = nI h) (hw2 : w ≤ 12) (hh2 : h ≤ 12) (hw0 : 0 < w) (hmd : ¬ I (1 + 4) 0 = -1) : vm_K l X vm_M124 [.ref 0, .int 3] (G, I, F) (some (.long ((sp_sum (fun p => sp_sh (I (1 + 7)) (I (1 + 5)) 0 p * sp_sh (I (1 + 7)) (I (1 + 5)) 0 p) (w * h) + sp_sum (fun p => sp_sh (I (1 + 7)) (I (1 + 5)) 1 p * sp_sh (I (1 + 7)) (I (1 + 5)) 1 p) (w * h) + sp_sum (fun p => sp_sh (I (1 + 7)) (I (1 + 5)) 2 p * sp_sh (I (1 + 7)) (I (1 + 5)) 2 p) (w * h)).toInt64))) (G, I, F) := by
  refine vm_K.mk (by decide) (Nat.le_of_ble_eq_true rfl) ?_
  show vm_J _ _ _ (0, (0, 0), [.ref 0, .int 3, .retAddr 0], []) _ _ _
  refine vm_J.go vm_q124 (k := 7) (hs := [(12, 9, [.ref 1, .ref 38, .ref 75, .ref 112, .ref 132, .ref 135, .ref 139, .int 0, .int 0]), (11, 7, [.ref (1 + 1), .ref (1 + 2), .ref (1 + 3), .ref (1 + 4), .ref (1 + 11), .ref (1 + 13), .ref (1 + 15)])]) (f' := (12, (0, 0), [.ref 0, .int 3, .ref (1 + 4)], [.int 15, .int 0, .int 3])) (h' := (G, I, F)) (hs' := []) rfl (vm_b2 rfl (vm_b2 (vm_b2 (vm_hG hD.d) rfl) (vm_b2 (vm_b2 (vm_hG hD.w1.w) rfl) (vm_b2 rfl (vm_b2 rfl (vm_b2 rfl (vm_b2 rfl rfl))))))) ?_
  refine vm_J.call vm_q124 (Z := vm_M151) (n := 3) (k := 1) (mi := 151) (pc := 12) (en := (12, .invokestatic 56, 3, [151, 420, 0], .null)) rfl trivial rfl rfl vm_z151 (av := [.int 3, .int 0, .int 15]) (rest := []) (m_isWithin_y (v := 3) (a := 0) (b := 15) (by decide)) rfl (Nat.le_of_ble_eq_true rfl) ⟨Nat.le_of_ble_eq_true rfl, Nat.le_of_ble_eq_true rfl⟩ ⟨Nat.le_of_ble_eq_true rfl, Nat.le_of_ble_eq_true rfl⟩ ?_
  show vm_J _ _ _ (15, (0, 0), [.ref 0, .int 3, .ref (1 + 4)], [.int 1]) (G, I, F) _ _
  refine vm_J.go vm_q124 (k := 1) (hs := []) (f' := (bif vm_ic .eq 1 0 then 25 else 18, (0, 0), [.ref 0, .int 3, .ref (1 + 4)], [])) (h' := (G, I, F)) (hs' := []) rfl rfl ?_
  refine vm_J.bF (by decide) ?_
  refine vm_J.go vm_q124 (k := 1) (hs := []) (f' := (19, (0, 0), [.ref 0, .int 3, .ref (1 + 4)], [.ref (1 + 4)])) (h' := (G, I, F)) (hs' := []) rfl rfl ?_
  refine vm_J.call vm_q124 (Z := vm_M61) (n := 0) (k := 0) (mi := 61) (pc := 19) (en := (19, .invokevirtual 268, 3, [61, 887, 0], .null)) rfl trivial rfl rfl vm_z61 (av := [.ref (1 + 4)]) (rest := []) (m_isMade_y (o := 1 + 4) (a := 1 + 5) (b := 1 + 6) (c := 1 + 7) (d := 1 + 8) (e := 1 + 9) (f := 1 + 10) hD.w1.sh hmd) ⟨_, _, rfl, rfl, _, 6, _, hD.w1.sh, rfl, rfl, rfl⟩ (Nat.le_of_ble_eq_true rfl) ⟨Nat.le_of_ble_eq_true rfl, Nat.le_of_ble_eq_true rfl⟩ ⟨Nat.le_of_ble_eq_true rfl, Nat.le_of_ble_eq_true rfl⟩ ?_
  show vm_J _ _ _ (22, (0, 0), [.ref 0, .int 3, .ref (1 + 4)], [.int 1]) (G, I, F) _ _
  refine vm_J.go vm_q124 (k := 1) (hs := []) (f' := (bif vm_ic .ne 1 0 then 29 else 25, (0, 0), [.ref 0, .int 3, .ref (1 + 4)], [])) (h' := (G, I, F)) (hs' := []) rfl rfl ?_
  refine vm_J.bT (by decide) ?_
  refine vm_J.go vm_q124 (k := 3) (hs := []) (f' := (97, (0, 0), [.ref 0, .int 3, .ref (1 + 4)], [.ref (1 + 4)])) (h' := (G, I, F)) (hs' := []) rfl rfl ?_
  refine vm_J.call vm_q124 (Z := vm_M73) (n := 0) (k := 0) (mi := 73) (pc := 97) (en := (97, .invokevirtual 280, 3, [73, 895, 0], .null)) rfl trivial rfl rfl vm_z73 (av := [.ref (1 + 4)]) (rest := []) (m_Sh_errorOnAll (o := 1 + 4) (a := 1 + 5) (b := 1 + 6) (c := 1 + 7) (d := 1 + 8) (e := 1 + 9) (f := 1 + 10) (w := w) (h := h) hD.w1.sh hD.w1.s1 hD.w1.s3 hw hh (by omega) (by omega)) ⟨_, _, rfl, rfl, _, 6, _, hD.w1.sh, rfl, rfl, rfl⟩ (Nat.le_of_ble_eq_true rfl) ⟨Nat.le_of_ble_eq_true rfl, Nat.le_of_ble_eq_true rfl⟩ ⟨Nat.le_of_ble_eq_true rfl, Nat.le_of_ble_eq_true rfl⟩ ?_
  show vm_J _ _ _ (100, (0, 0), [.ref 0, .int 3, .ref (1 + 4)], [.int (sp_sum (fun p => sp_sh (I (1 + 7)) (I (1 + 5)) 0 p * sp_sh (I (1 + 7)) (I (1 + 5)) 0 p) (w * h) + sp_sum (fun p => sp_sh (I (1 + 7)) (I (1 + 5)) 1 p * sp_sh (I (1 + 7)) (I (1 + 5)) 1 p) (w * h) + sp_sum (fun p => sp_sh (I (1 + 7)) (I (1 + 5)) 2 p * sp_sh (I (1 + 7)) (I (1 + 5)) 2 p) (w * h))]) (G, I, F) _ _
  refine vm_J.go vm_q124 (k := 1) (hs := []) (f' := (101, (0, 0), [.ref 0, .int 3, .ref (1 + 4)], [.long ((sp_sum (fun p => sp_sh (I (1 + 7)) (I (1 + 5)) 0 p * sp_sh (I (1 + 7)) (I (1 + 5)) 0 p) (w * h) + sp_sum (fun p => sp_sh (I (1 + 7)) (I (1 + 5)) 1 p * sp_sh (I (1 + 7)) (I (1 + 5)) 1 p) (w * h) + sp_sum (fun p => sp_sh (I (1 + 7)) (I (1 + 5)) 2 p * sp_sh (I (1 + 7)) (I (1 + 5)) 2 p) (w * h)).toInt64)])) (h' := (G, I, F)) (hs' := []) rfl rfl ?_
  exact vm_J.end vm_q124 (en := (101, .lreturn, 1, [], .null)) rfl rfl vm_rL (Nat.zero_le _) (Nat.zero_le _) rfl
set_option maxHeartbeats 4000000 in
set_option maxRecDepth 20000 in
/-- DitherDesk.sum -/
theorem c_sum_4 {l : Launch} {X : vm_Cx} {G : List vm_Sh} {I : Nat → Nat → Int32} {F : Nat → Nat → UInt32} {w : Nat} {h : Nat} (hD : vm_isD G) (hw : I (1 + 4) 1 = nI w) (hh : I (1 + 4) 2 = nI h) (hw2 : w ≤ 12) (hh2 : h ≤ 12) (hw0 : 0 < w) (hmd : ¬ I (1 + 4) 0 = -1) : vm_K l X vm_M124 [.ref 0, .int 4] (G, I, F) (some (.long ((sp_sum (fun p => sp_sh (I (1 + 7)) (I (1 + 5)) 0 p) (w * h)).toInt64))) (G, I, F) := by
  refine vm_K.mk (by decide) (Nat.le_of_ble_eq_true rfl) ?_
  show vm_J _ _ _ (0, (0, 0), [.ref 0, .int 4, .retAddr 0], []) _ _ _
  refine vm_J.go vm_q124 (k := 7) (hs := [(12, 9, [.ref 1, .ref 38, .ref 75, .ref 112, .ref 132, .ref 135, .ref 139, .int 0, .int 0]), (11, 7, [.ref (1 + 1), .ref (1 + 2), .ref (1 + 3), .ref (1 + 4), .ref (1 + 11), .ref (1 + 13), .ref (1 + 15)])]) (f' := (12, (0, 0), [.ref 0, .int 4, .ref (1 + 4)], [.int 15, .int 0, .int 4])) (h' := (G, I, F)) (hs' := []) rfl (vm_b2 rfl (vm_b2 (vm_b2 (vm_hG hD.d) rfl) (vm_b2 (vm_b2 (vm_hG hD.w1.w) rfl) (vm_b2 rfl (vm_b2 rfl (vm_b2 rfl (vm_b2 rfl rfl))))))) ?_
  refine vm_J.call vm_q124 (Z := vm_M151) (n := 3) (k := 1) (mi := 151) (pc := 12) (en := (12, .invokestatic 56, 3, [151, 420, 0], .null)) rfl trivial rfl rfl vm_z151 (av := [.int 4, .int 0, .int 15]) (rest := []) (m_isWithin_y (v := 4) (a := 0) (b := 15) (by decide)) rfl (Nat.le_of_ble_eq_true rfl) ⟨Nat.le_of_ble_eq_true rfl, Nat.le_of_ble_eq_true rfl⟩ ⟨Nat.le_of_ble_eq_true rfl, Nat.le_of_ble_eq_true rfl⟩ ?_
  show vm_J _ _ _ (15, (0, 0), [.ref 0, .int 4, .ref (1 + 4)], [.int 1]) (G, I, F) _ _
  refine vm_J.go vm_q124 (k := 1) (hs := []) (f' := (bif vm_ic .eq 1 0 then 25 else 18, (0, 0), [.ref 0, .int 4, .ref (1 + 4)], [])) (h' := (G, I, F)) (hs' := []) rfl rfl ?_
  refine vm_J.bF (by decide) ?_
  refine vm_J.go vm_q124 (k := 1) (hs := []) (f' := (19, (0, 0), [.ref 0, .int 4, .ref (1 + 4)], [.ref (1 + 4)])) (h' := (G, I, F)) (hs' := []) rfl rfl ?_
  refine vm_J.call vm_q124 (Z := vm_M61) (n := 0) (k := 0) (mi := 61) (pc := 19) (en := (19, .invokevirtual 268, 3, [61, 887, 0], .null)) rfl trivial rfl rfl vm_z61 (av := [.ref (1 + 4)]) (rest := []) (m_isMade_y (o := 1 + 4) (a := 1 + 5) (b := 1 + 6) (c := 1 + 7) (d := 1 + 8) (e := 1 + 9) (f := 1 + 10) hD.w1.sh hmd) ⟨_, _, rfl, rfl, _, 6, _, hD.w1.sh, rfl, rfl, rfl⟩ (Nat.le_of_ble_eq_true rfl) ⟨Nat.le_of_ble_eq_true rfl, Nat.le_of_ble_eq_true rfl⟩ ⟨Nat.le_of_ble_eq_true rfl, Nat.le_of_ble_eq_true rfl⟩ ?_
  show vm_J _ _ _ (22, (0, 0), [.ref 0, .int 4, .ref (1 + 4)], [.int 1]) (G, I, F) _ _
  refine vm_J.go vm_q124 (k := 1) (hs := []) (f' := (bif vm_ic .ne 1 0 then 29 else 25, (0, 0), [.ref 0, .int 4, .ref (1 + 4)], [])) (h' := (G, I, F)) (hs' := []) rfl rfl ?_
  refine vm_J.bT (by decide) ?_
  refine vm_J.go vm_q124 (k := 6) (hs := []) (f' := (106, (0, 0), [.ref 0, .int 4, .ref (1 + 4)], [.int (4 - 4), .ref (1 + 4)])) (h' := (G, I, F)) (hs' := []) rfl rfl ?_
  rw [(show (4 - 4 : Int32) = 0 from by decide)]
  refine vm_J.call vm_q124 (Z := vm_M74) (n := 1) (k := 0) (mi := 74) (pc := 106) (en := (106, .invokevirtual 283, 3, [74, 907, 0], .null)) rfl trivial rfl rfl vm_z74 (av := [.ref (1 + 4), .int 0]) (rest := []) (m_Sh_shiftOn (o := 1 + 4) (a := 1 + 5) (b := 1 + 6) (c := 1 + 7) (d := 1 + 8) (e := 1 + 9) (f := 1 + 10) (w := w) (h := h) (k := 0) hD.w1.sh hD.w1.s1 hD.w1.s3 hw hh (by omega) (by omega)) ⟨_, _, rfl, rfl, _, 6, _, hD.w1.sh, rfl, rfl, rfl⟩ (Nat.le_of_ble_eq_true rfl) ⟨Nat.le_of_ble_eq_true rfl, Nat.le_of_ble_eq_true rfl⟩ ⟨Nat.le_of_ble_eq_true rfl, Nat.le_of_ble_eq_true rfl⟩ ?_
  show vm_J _ _ _ (109, (0, 0), [.ref 0, .int 4, .ref (1 + 4)], [.int (sp_sum (fun p => sp_sh (I (1 + 7)) (I (1 + 5)) 0 p) (w * h))]) (G, I, F) _ _
  refine vm_J.go vm_q124 (k := 1) (hs := []) (f' := (110, (0, 0), [.ref 0, .int 4, .ref (1 + 4)], [.long ((sp_sum (fun p => sp_sh (I (1 + 7)) (I (1 + 5)) 0 p) (w * h)).toInt64)])) (h' := (G, I, F)) (hs' := []) rfl rfl ?_
  exact vm_J.end vm_q124 (en := (110, .lreturn, 1, [], .null)) rfl rfl vm_rL (Nat.zero_le _) (Nat.zero_le _) rfl
set_option maxHeartbeats 4000000 in
set_option maxRecDepth 20000 in
/-- DitherDesk.sum -/
theorem c_sum_5 {l : Launch} {X : vm_Cx} {G : List vm_Sh} {I : Nat → Nat → Int32} {F : Nat → Nat → UInt32} {w : Nat} {h : Nat} (hD : vm_isD G) (hw : I (1 + 4) 1 = nI w) (hh : I (1 + 4) 2 = nI h) (hw2 : w ≤ 12) (hh2 : h ≤ 12) (hw0 : 0 < w) (hmd : ¬ I (1 + 4) 0 = -1) : vm_K l X vm_M124 [.ref 0, .int 5] (G, I, F) (some (.long ((sp_sum (fun p => sp_sh (I (1 + 7)) (I (1 + 5)) 1 p) (w * h)).toInt64))) (G, I, F) := by
  refine vm_K.mk (by decide) (Nat.le_of_ble_eq_true rfl) ?_
  show vm_J _ _ _ (0, (0, 0), [.ref 0, .int 5, .retAddr 0], []) _ _ _
  refine vm_J.go vm_q124 (k := 7) (hs := [(12, 9, [.ref 1, .ref 38, .ref 75, .ref 112, .ref 132, .ref 135, .ref 139, .int 0, .int 0]), (11, 7, [.ref (1 + 1), .ref (1 + 2), .ref (1 + 3), .ref (1 + 4), .ref (1 + 11), .ref (1 + 13), .ref (1 + 15)])]) (f' := (12, (0, 0), [.ref 0, .int 5, .ref (1 + 4)], [.int 15, .int 0, .int 5])) (h' := (G, I, F)) (hs' := []) rfl (vm_b2 rfl (vm_b2 (vm_b2 (vm_hG hD.d) rfl) (vm_b2 (vm_b2 (vm_hG hD.w1.w) rfl) (vm_b2 rfl (vm_b2 rfl (vm_b2 rfl (vm_b2 rfl rfl))))))) ?_
  refine vm_J.call vm_q124 (Z := vm_M151) (n := 3) (k := 1) (mi := 151) (pc := 12) (en := (12, .invokestatic 56, 3, [151, 420, 0], .null)) rfl trivial rfl rfl vm_z151 (av := [.int 5, .int 0, .int 15]) (rest := []) (m_isWithin_y (v := 5) (a := 0) (b := 15) (by decide)) rfl (Nat.le_of_ble_eq_true rfl) ⟨Nat.le_of_ble_eq_true rfl, Nat.le_of_ble_eq_true rfl⟩ ⟨Nat.le_of_ble_eq_true rfl, Nat.le_of_ble_eq_true rfl⟩ ?_
  show vm_J _ _ _ (15, (0, 0), [.ref 0, .int 5, .ref (1 + 4)], [.int 1]) (G, I, F) _ _
  refine vm_J.go vm_q124 (k := 1) (hs := []) (f' := (bif vm_ic .eq 1 0 then 25 else 18, (0, 0), [.ref 0, .int 5, .ref (1 + 4)], [])) (h' := (G, I, F)) (hs' := []) rfl rfl ?_
  refine vm_J.bF (by decide) ?_
  refine vm_J.go vm_q124 (k := 1) (hs := []) (f' := (19, (0, 0), [.ref 0, .int 5, .ref (1 + 4)], [.ref (1 + 4)])) (h' := (G, I, F)) (hs' := []) rfl rfl ?_
  refine vm_J.call vm_q124 (Z := vm_M61) (n := 0) (k := 0) (mi := 61) (pc := 19) (en := (19, .invokevirtual 268, 3, [61, 887, 0], .null)) rfl trivial rfl rfl vm_z61 (av := [.ref (1 + 4)]) (rest := []) (m_isMade_y (o := 1 + 4) (a := 1 + 5) (b := 1 + 6) (c := 1 + 7) (d := 1 + 8) (e := 1 + 9) (f := 1 + 10) hD.w1.sh hmd) ⟨_, _, rfl, rfl, _, 6, _, hD.w1.sh, rfl, rfl, rfl⟩ (Nat.le_of_ble_eq_true rfl) ⟨Nat.le_of_ble_eq_true rfl, Nat.le_of_ble_eq_true rfl⟩ ⟨Nat.le_of_ble_eq_true rfl, Nat.le_of_ble_eq_true rfl⟩ ?_
  show vm_J _ _ _ (22, (0, 0), [.ref 0, .int 5, .ref (1 + 4)], [.int 1]) (G, I, F) _ _
  refine vm_J.go vm_q124 (k := 1) (hs := []) (f' := (bif vm_ic .ne 1 0 then 29 else 25, (0, 0), [.ref 0, .int 5, .ref (1 + 4)], [])) (h' := (G, I, F)) (hs' := []) rfl rfl ?_
  refine vm_J.bT (by decide) ?_
  refine vm_J.go vm_q124 (k := 6) (hs := []) (f' := (106, (0, 0), [.ref 0, .int 5, .ref (1 + 4)], [.int (5 - 4), .ref (1 + 4)])) (h' := (G, I, F)) (hs' := []) rfl rfl ?_
  rw [(show (5 - 4 : Int32) = 1 from by decide)]
  refine vm_J.call vm_q124 (Z := vm_M74) (n := 1) (k := 0) (mi := 74) (pc := 106) (en := (106, .invokevirtual 283, 3, [74, 907, 0], .null)) rfl trivial rfl rfl vm_z74 (av := [.ref (1 + 4), .int 1]) (rest := []) (m_Sh_shiftOn (o := 1 + 4) (a := 1 + 5) (b := 1 + 6) (c := 1 + 7) (d := 1 + 8) (e := 1 + 9) (f := 1 + 10) (w := w) (h := h) (k := 1) hD.w1.sh hD.w1.s1 hD.w1.s3 hw hh (by omega) (by omega)) ⟨_, _, rfl, rfl, _, 6, _, hD.w1.sh, rfl, rfl, rfl⟩ (Nat.le_of_ble_eq_true rfl) ⟨Nat.le_of_ble_eq_true rfl, Nat.le_of_ble_eq_true rfl⟩ ⟨Nat.le_of_ble_eq_true rfl, Nat.le_of_ble_eq_true rfl⟩ ?_
  show vm_J _ _ _ (109, (0, 0), [.ref 0, .int 5, .ref (1 + 4)], [.int (sp_sum (fun p => sp_sh (I (1 + 7)) (I (1 + 5)) 1 p) (w * h))]) (G, I, F) _ _
  refine vm_J.go vm_q124 (k := 1) (hs := []) (f' := (110, (0, 0), [.ref 0, .int 5, .ref (1 + 4)], [.long ((sp_sum (fun p => sp_sh (I (1 + 7)) (I (1 + 5)) 1 p) (w * h)).toInt64)])) (h' := (G, I, F)) (hs' := []) rfl rfl ?_
  exact vm_J.end vm_q124 (en := (110, .lreturn, 1, [], .null)) rfl rfl vm_rL (Nat.zero_le _) (Nat.zero_le _) rfl
set_option maxHeartbeats 4000000 in
set_option maxRecDepth 20000 in
/-- DitherDesk.sum -/
theorem c_sum_6 {l : Launch} {X : vm_Cx} {G : List vm_Sh} {I : Nat → Nat → Int32} {F : Nat → Nat → UInt32} {w : Nat} {h : Nat} (hD : vm_isD G) (hw : I (1 + 4) 1 = nI w) (hh : I (1 + 4) 2 = nI h) (hw2 : w ≤ 12) (hh2 : h ≤ 12) (hw0 : 0 < w) (hmd : ¬ I (1 + 4) 0 = -1) : vm_K l X vm_M124 [.ref 0, .int 6] (G, I, F) (some (.long ((sp_sum (fun p => sp_sh (I (1 + 7)) (I (1 + 5)) 2 p) (w * h)).toInt64))) (G, I, F) := by
  refine vm_K.mk (by decide) (Nat.le_of_ble_eq_true rfl) ?_
  show vm_J _ _ _ (0, (0, 0), [.ref 0, .int 6, .retAddr 0], []) _ _ _
  refine vm_J.go vm_q124 (k := 7) (hs := [(12, 9, [.ref 1, .ref 38, .ref 75, .ref 112, .ref 132, .ref 135, .ref 139, .int 0, .int 0]), (11, 7, [.ref (1 + 1), .ref (1 + 2), .ref (1 + 3), .ref (1 + 4), .ref (1 + 11), .ref (1 + 13), .ref (1 + 15)])]) (f' := (12, (0, 0), [.ref 0, .int 6, .ref (1 + 4)], [.int 15, .int 0, .int 6])) (h' := (G, I, F)) (hs' := []) rfl (vm_b2 rfl (vm_b2 (vm_b2 (vm_hG hD.d) rfl) (vm_b2 (vm_b2 (vm_hG hD.w1.w) rfl) (vm_b2 rfl (vm_b2 rfl (vm_b2 rfl (vm_b2 rfl rfl))))))) ?_
  refine vm_J.call vm_q124 (Z := vm_M151) (n := 3) (k := 1) (mi := 151) (pc := 12) (en := (12, .invokestatic 56, 3, [151, 420, 0], .null)) rfl trivial rfl rfl vm_z151 (av := [.int 6, .int 0, .int 15]) (rest := []) (m_isWithin_y (v := 6) (a := 0) (b := 15) (by decide)) rfl (Nat.le_of_ble_eq_true rfl) ⟨Nat.le_of_ble_eq_true rfl, Nat.le_of_ble_eq_true rfl⟩ ⟨Nat.le_of_ble_eq_true rfl, Nat.le_of_ble_eq_true rfl⟩ ?_
  show vm_J _ _ _ (15, (0, 0), [.ref 0, .int 6, .ref (1 + 4)], [.int 1]) (G, I, F) _ _
  refine vm_J.go vm_q124 (k := 1) (hs := []) (f' := (bif vm_ic .eq 1 0 then 25 else 18, (0, 0), [.ref 0, .int 6, .ref (1 + 4)], [])) (h' := (G, I, F)) (hs' := []) rfl rfl ?_
  refine vm_J.bF (by decide) ?_
  refine vm_J.go vm_q124 (k := 1) (hs := []) (f' := (19, (0, 0), [.ref 0, .int 6, .ref (1 + 4)], [.ref (1 + 4)])) (h' := (G, I, F)) (hs' := []) rfl rfl ?_
  refine vm_J.call vm_q124 (Z := vm_M61) (n := 0) (k := 0) (mi := 61) (pc := 19) (en := (19, .invokevirtual 268, 3, [61, 887, 0], .null)) rfl trivial rfl rfl vm_z61 (av := [.ref (1 + 4)]) (rest := []) (m_isMade_y (o := 1 + 4) (a := 1 + 5) (b := 1 + 6) (c := 1 + 7) (d := 1 + 8) (e := 1 + 9) (f := 1 + 10) hD.w1.sh hmd) ⟨_, _, rfl, rfl, _, 6, _, hD.w1.sh, rfl, rfl, rfl⟩ (Nat.le_of_ble_eq_true rfl) ⟨Nat.le_of_ble_eq_true rfl, Nat.le_of_ble_eq_true rfl⟩ ⟨Nat.le_of_ble_eq_true rfl, Nat.le_of_ble_eq_true rfl⟩ ?_
  show vm_J _ _ _ (22, (0, 0), [.ref 0, .int 6, .ref (1 + 4)], [.int 1]) (G, I, F) _ _
  refine vm_J.go vm_q124 (k := 1) (hs := []) (f' := (bif vm_ic .ne 1 0 then 29 else 25, (0, 0), [.ref 0, .int 6, .ref (1 + 4)], [])) (h' := (G, I, F)) (hs' := []) rfl rfl ?_
  refine vm_J.bT (by decide) ?_
  refine vm_J.go vm_q124 (k := 6) (hs := []) (f' := (106, (0, 0), [.ref 0, .int 6, .ref (1 + 4)], [.int (6 - 4), .ref (1 + 4)])) (h' := (G, I, F)) (hs' := []) rfl rfl ?_
  rw [(show (6 - 4 : Int32) = 2 from by decide)]
  refine vm_J.call vm_q124 (Z := vm_M74) (n := 1) (k := 0) (mi := 74) (pc := 106) (en := (106, .invokevirtual 283, 3, [74, 907, 0], .null)) rfl trivial rfl rfl vm_z74 (av := [.ref (1 + 4), .int 2]) (rest := []) (m_Sh_shiftOn (o := 1 + 4) (a := 1 + 5) (b := 1 + 6) (c := 1 + 7) (d := 1 + 8) (e := 1 + 9) (f := 1 + 10) (w := w) (h := h) (k := 2) hD.w1.sh hD.w1.s1 hD.w1.s3 hw hh (by omega) (by omega)) ⟨_, _, rfl, rfl, _, 6, _, hD.w1.sh, rfl, rfl, rfl⟩ (Nat.le_of_ble_eq_true rfl) ⟨Nat.le_of_ble_eq_true rfl, Nat.le_of_ble_eq_true rfl⟩ ⟨Nat.le_of_ble_eq_true rfl, Nat.le_of_ble_eq_true rfl⟩ ?_
  show vm_J _ _ _ (109, (0, 0), [.ref 0, .int 6, .ref (1 + 4)], [.int (sp_sum (fun p => sp_sh (I (1 + 7)) (I (1 + 5)) 2 p) (w * h))]) (G, I, F) _ _
  refine vm_J.go vm_q124 (k := 1) (hs := []) (f' := (110, (0, 0), [.ref 0, .int 6, .ref (1 + 4)], [.long ((sp_sum (fun p => sp_sh (I (1 + 7)) (I (1 + 5)) 2 p) (w * h)).toInt64)])) (h' := (G, I, F)) (hs' := []) rfl rfl ?_
  exact vm_J.end vm_q124 (en := (110, .lreturn, 1, [], .null)) rfl rfl vm_rL (Nat.zero_le _) (Nat.zero_le _) rfl
set_option maxHeartbeats 4000000 in
set_option maxRecDepth 20000 in
/-- DitherDesk.sum -/
theorem c_sum_7 {l : Launch} {X : vm_Cx} {G : List vm_Sh} {I : Nat → Nat → Int32} {F : Nat → Nat → UInt32} {w : Nat} {h : Nat} (hD : vm_isD G) (hw : I (1 + 4) 1 = nI w) (hh : I (1 + 4) 2 = nI h) (hw2 : w ≤ 12) (hh2 : h ≤ 12) (hw0 : 0 < w) (hmd : ¬ I (1 + 4) 0 = -1) : vm_K l X vm_M124 [.ref 0, .int 7] (G, I, F) (some (.long ((sp_ba (I (1 + 7)) (I (1 + 5)) w h).toInt64))) (G, I, F) := by
  refine vm_K.mk (by decide) (Nat.le_of_ble_eq_true rfl) ?_
  show vm_J _ _ _ (0, (0, 0), [.ref 0, .int 7, .retAddr 0], []) _ _ _
  refine vm_J.go vm_q124 (k := 7) (hs := [(12, 9, [.ref 1, .ref 38, .ref 75, .ref 112, .ref 132, .ref 135, .ref 139, .int 0, .int 0]), (11, 7, [.ref (1 + 1), .ref (1 + 2), .ref (1 + 3), .ref (1 + 4), .ref (1 + 11), .ref (1 + 13), .ref (1 + 15)])]) (f' := (12, (0, 0), [.ref 0, .int 7, .ref (1 + 4)], [.int 15, .int 0, .int 7])) (h' := (G, I, F)) (hs' := []) rfl (vm_b2 rfl (vm_b2 (vm_b2 (vm_hG hD.d) rfl) (vm_b2 (vm_b2 (vm_hG hD.w1.w) rfl) (vm_b2 rfl (vm_b2 rfl (vm_b2 rfl (vm_b2 rfl rfl))))))) ?_
  refine vm_J.call vm_q124 (Z := vm_M151) (n := 3) (k := 1) (mi := 151) (pc := 12) (en := (12, .invokestatic 56, 3, [151, 420, 0], .null)) rfl trivial rfl rfl vm_z151 (av := [.int 7, .int 0, .int 15]) (rest := []) (m_isWithin_y (v := 7) (a := 0) (b := 15) (by decide)) rfl (Nat.le_of_ble_eq_true rfl) ⟨Nat.le_of_ble_eq_true rfl, Nat.le_of_ble_eq_true rfl⟩ ⟨Nat.le_of_ble_eq_true rfl, Nat.le_of_ble_eq_true rfl⟩ ?_
  show vm_J _ _ _ (15, (0, 0), [.ref 0, .int 7, .ref (1 + 4)], [.int 1]) (G, I, F) _ _
  refine vm_J.go vm_q124 (k := 1) (hs := []) (f' := (bif vm_ic .eq 1 0 then 25 else 18, (0, 0), [.ref 0, .int 7, .ref (1 + 4)], [])) (h' := (G, I, F)) (hs' := []) rfl rfl ?_
  refine vm_J.bF (by decide) ?_
  refine vm_J.go vm_q124 (k := 1) (hs := []) (f' := (19, (0, 0), [.ref 0, .int 7, .ref (1 + 4)], [.ref (1 + 4)])) (h' := (G, I, F)) (hs' := []) rfl rfl ?_
  refine vm_J.call vm_q124 (Z := vm_M61) (n := 0) (k := 0) (mi := 61) (pc := 19) (en := (19, .invokevirtual 268, 3, [61, 887, 0], .null)) rfl trivial rfl rfl vm_z61 (av := [.ref (1 + 4)]) (rest := []) (m_isMade_y (o := 1 + 4) (a := 1 + 5) (b := 1 + 6) (c := 1 + 7) (d := 1 + 8) (e := 1 + 9) (f := 1 + 10) hD.w1.sh hmd) ⟨_, _, rfl, rfl, _, 6, _, hD.w1.sh, rfl, rfl, rfl⟩ (Nat.le_of_ble_eq_true rfl) ⟨Nat.le_of_ble_eq_true rfl, Nat.le_of_ble_eq_true rfl⟩ ⟨Nat.le_of_ble_eq_true rfl, Nat.le_of_ble_eq_true rfl⟩ ?_
  show vm_J _ _ _ (22, (0, 0), [.ref 0, .int 7, .ref (1 + 4)], [.int 1]) (G, I, F) _ _
  refine vm_J.go vm_q124 (k := 1) (hs := []) (f' := (bif vm_ic .ne 1 0 then 29 else 25, (0, 0), [.ref 0, .int 7, .ref (1 + 4)], [])) (h' := (G, I, F)) (hs' := []) rfl rfl ?_
  refine vm_J.bT (by decide) ?_
  refine vm_J.go vm_q124 (k := 3) (hs := []) (f' := (112, (0, 0), [.ref 0, .int 7, .ref (1 + 4)], [.ref (1 + 4)])) (h' := (G, I, F)) (hs' := []) rfl rfl ?_
  refine vm_J.call vm_q124 (Z := vm_M75) (n := 0) (k := 0) (mi := 75) (pc := 112) (en := (112, .invokevirtual 286, 3, [75, 911, 0], .null)) rfl trivial rfl rfl vm_z75 (av := [.ref (1 + 4)]) (rest := []) (m_Sh_blocks (o := 1 + 4) (a := 1 + 5) (b := 1 + 6) (c := 1 + 7) (d := 1 + 8) (e := 1 + 9) (f := 1 + 10) (w := w) (h := h) hD.w1.sh hD.w1.s1 hD.w1.s3 hw hh (by omega) (by omega)) ⟨_, _, rfl, rfl, _, 6, _, hD.w1.sh, rfl, rfl, rfl⟩ (Nat.le_of_ble_eq_true rfl) ⟨Nat.le_of_ble_eq_true rfl, Nat.le_of_ble_eq_true rfl⟩ ⟨Nat.le_of_ble_eq_true rfl, Nat.le_of_ble_eq_true rfl⟩ ?_
  show vm_J _ _ _ (115, (0, 0), [.ref 0, .int 7, .ref (1 + 4)], [.int (sp_ba (I (1 + 7)) (I (1 + 5)) w h)]) (G, I, F) _ _
  refine vm_J.go vm_q124 (k := 1) (hs := []) (f' := (116, (0, 0), [.ref 0, .int 7, .ref (1 + 4)], [.long ((sp_ba (I (1 + 7)) (I (1 + 5)) w h).toInt64)])) (h' := (G, I, F)) (hs' := []) rfl rfl ?_
  exact vm_J.end vm_q124 (en := (116, .lreturn, 1, [], .null)) rfl rfl vm_rL (Nat.zero_le _) (Nat.zero_le _) rfl
set_option maxHeartbeats 4000000 in
set_option maxRecDepth 20000 in
/-- DitherDesk.sum -/
theorem c_sum_8 {l : Launch} {X : vm_Cx} {G : List vm_Sh} {I : Nat → Nat → Int32} {F : Nat → Nat → UInt32} {w : Nat} {h : Nat} (hD : vm_isD G) (hw : I (1 + 4) 1 = nI w) (hh : I (1 + 4) 2 = nI h) (hw2 : w ≤ 12) (hh2 : h ≤ 12) (hw0 : 0 < w) (hmd : ¬ I (1 + 4) 0 = -1) : vm_K l X vm_M124 [.ref 0, .int 8] (G, I, F) (some (.long ((sp_sum (fun i => sp_sum (sp_ru (I (1 + 6)) w i) w) h).toInt64))) (G, I, F) := by
  refine vm_K.mk (by decide) (Nat.le_of_ble_eq_true rfl) ?_
  show vm_J _ _ _ (0, (0, 0), [.ref 0, .int 8, .retAddr 0], []) _ _ _
  refine vm_J.go vm_q124 (k := 7) (hs := [(12, 9, [.ref 1, .ref 38, .ref 75, .ref 112, .ref 132, .ref 135, .ref 139, .int 0, .int 0]), (11, 7, [.ref (1 + 1), .ref (1 + 2), .ref (1 + 3), .ref (1 + 4), .ref (1 + 11), .ref (1 + 13), .ref (1 + 15)])]) (f' := (12, (0, 0), [.ref 0, .int 8, .ref (1 + 4)], [.int 15, .int 0, .int 8])) (h' := (G, I, F)) (hs' := []) rfl (vm_b2 rfl (vm_b2 (vm_b2 (vm_hG hD.d) rfl) (vm_b2 (vm_b2 (vm_hG hD.w1.w) rfl) (vm_b2 rfl (vm_b2 rfl (vm_b2 rfl (vm_b2 rfl rfl))))))) ?_
  refine vm_J.call vm_q124 (Z := vm_M151) (n := 3) (k := 1) (mi := 151) (pc := 12) (en := (12, .invokestatic 56, 3, [151, 420, 0], .null)) rfl trivial rfl rfl vm_z151 (av := [.int 8, .int 0, .int 15]) (rest := []) (m_isWithin_y (v := 8) (a := 0) (b := 15) (by decide)) rfl (Nat.le_of_ble_eq_true rfl) ⟨Nat.le_of_ble_eq_true rfl, Nat.le_of_ble_eq_true rfl⟩ ⟨Nat.le_of_ble_eq_true rfl, Nat.le_of_ble_eq_true rfl⟩ ?_
  show vm_J _ _ _ (15, (0, 0), [.ref 0, .int 8, .ref (1 + 4)], [.int 1]) (G, I, F) _ _
  refine vm_J.go vm_q124 (k := 1) (hs := []) (f' := (bif vm_ic .eq 1 0 then 25 else 18, (0, 0), [.ref 0, .int 8, .ref (1 + 4)], [])) (h' := (G, I, F)) (hs' := []) rfl rfl ?_
  refine vm_J.bF (by decide) ?_
  refine vm_J.go vm_q124 (k := 1) (hs := []) (f' := (19, (0, 0), [.ref 0, .int 8, .ref (1 + 4)], [.ref (1 + 4)])) (h' := (G, I, F)) (hs' := []) rfl rfl ?_
  refine vm_J.call vm_q124 (Z := vm_M61) (n := 0) (k := 0) (mi := 61) (pc := 19) (en := (19, .invokevirtual 268, 3, [61, 887, 0], .null)) rfl trivial rfl rfl vm_z61 (av := [.ref (1 + 4)]) (rest := []) (m_isMade_y (o := 1 + 4) (a := 1 + 5) (b := 1 + 6) (c := 1 + 7) (d := 1 + 8) (e := 1 + 9) (f := 1 + 10) hD.w1.sh hmd) ⟨_, _, rfl, rfl, _, 6, _, hD.w1.sh, rfl, rfl, rfl⟩ (Nat.le_of_ble_eq_true rfl) ⟨Nat.le_of_ble_eq_true rfl, Nat.le_of_ble_eq_true rfl⟩ ⟨Nat.le_of_ble_eq_true rfl, Nat.le_of_ble_eq_true rfl⟩ ?_
  show vm_J _ _ _ (22, (0, 0), [.ref 0, .int 8, .ref (1 + 4)], [.int 1]) (G, I, F) _ _
  refine vm_J.go vm_q124 (k := 1) (hs := []) (f' := (bif vm_ic .ne 1 0 then 29 else 25, (0, 0), [.ref 0, .int 8, .ref (1 + 4)], [])) (h' := (G, I, F)) (hs' := []) rfl rfl ?_
  refine vm_J.bT (by decide) ?_
  refine vm_J.go vm_q124 (k := 3) (hs := []) (f' := (118, (0, 0), [.ref 0, .int 8, .ref (1 + 4)], [.ref (1 + 4)])) (h' := (G, I, F)) (hs' := []) rfl rfl ?_
  refine vm_J.call vm_q124 (Z := vm_M77) (n := 0) (k := 0) (mi := 77) (pc := 118) (en := (118, .invokevirtual 289, 3, [77, 919, 0], .null)) rfl trivial rfl rfl vm_z77 (av := [.ref (1 + 4)]) (rest := []) (m_Sh_runs (o := 1 + 4) (a := 1 + 5) (b := 1 + 6) (c := 1 + 7) (d := 1 + 8) (e := 1 + 9) (f := 1 + 10) (w := w) (h := h) hD.w1.sh hD.w1.s2 hw hh (by omega) (by omega)) ⟨_, _, rfl, rfl, _, 6, _, hD.w1.sh, rfl, rfl, rfl⟩ (Nat.le_of_ble_eq_true rfl) ⟨Nat.le_of_ble_eq_true rfl, Nat.le_of_ble_eq_true rfl⟩ ⟨Nat.le_of_ble_eq_true rfl, Nat.le_of_ble_eq_true rfl⟩ ?_
  show vm_J _ _ _ (121, (0, 0), [.ref 0, .int 8, .ref (1 + 4)], [.int (sp_sum (fun i => sp_sum (sp_ru (I (1 + 6)) w i) w) h)]) (G, I, F) _ _
  refine vm_J.go vm_q124 (k := 1) (hs := []) (f' := (122, (0, 0), [.ref 0, .int 8, .ref (1 + 4)], [.long ((sp_sum (fun i => sp_sum (sp_ru (I (1 + 6)) w i) w) h).toInt64)])) (h' := (G, I, F)) (hs' := []) rfl rfl ?_
  exact vm_J.end vm_q124 (en := (122, .lreturn, 1, [], .null)) rfl rfl vm_rL (Nat.zero_le _) (Nat.zero_le _) rfl
set_option maxHeartbeats 4000000 in
set_option maxRecDepth 20000 in
/-- DitherDesk.sum -/
theorem c_sum_9 {l : Launch} {X : vm_Cx} {G : List vm_Sh} {I : Nat → Nat → Int32} {F : Nat → Nat → UInt32} {w : Nat} {h : Nat} (hD : vm_isD G) (hw : I (1 + 4) 1 = nI w) (hh : I (1 + 4) 2 = nI h) (hw2 : w ≤ 12) (hh2 : h ≤ 12) (hw0 : 0 < w) (hmd : ¬ I (1 + 4) 0 = -1) : vm_K l X vm_M124 [.ref 0, .int 9] (G, I, F) (some (.long ((sp_sum (fun e => if 0 < sp_sum (fun p => if I (1 + 6) p = nI e then 1 else 0) (w * h) then 1 else 0) 16).toInt64))) (G, I, F) := by
  refine vm_K.mk (by decide) (Nat.le_of_ble_eq_true rfl) ?_
  show vm_J _ _ _ (0, (0, 0), [.ref 0, .int 9, .retAddr 0], []) _ _ _
  refine vm_J.go vm_q124 (k := 7) (hs := [(12, 9, [.ref 1, .ref 38, .ref 75, .ref 112, .ref 132, .ref 135, .ref 139, .int 0, .int 0]), (11, 7, [.ref (1 + 1), .ref (1 + 2), .ref (1 + 3), .ref (1 + 4), .ref (1 + 11), .ref (1 + 13), .ref (1 + 15)])]) (f' := (12, (0, 0), [.ref 0, .int 9, .ref (1 + 4)], [.int 15, .int 0, .int 9])) (h' := (G, I, F)) (hs' := []) rfl (vm_b2 rfl (vm_b2 (vm_b2 (vm_hG hD.d) rfl) (vm_b2 (vm_b2 (vm_hG hD.w1.w) rfl) (vm_b2 rfl (vm_b2 rfl (vm_b2 rfl (vm_b2 rfl rfl))))))) ?_
  refine vm_J.call vm_q124 (Z := vm_M151) (n := 3) (k := 1) (mi := 151) (pc := 12) (en := (12, .invokestatic 56, 3, [151, 420, 0], .null)) rfl trivial rfl rfl vm_z151 (av := [.int 9, .int 0, .int 15]) (rest := []) (m_isWithin_y (v := 9) (a := 0) (b := 15) (by decide)) rfl (Nat.le_of_ble_eq_true rfl) ⟨Nat.le_of_ble_eq_true rfl, Nat.le_of_ble_eq_true rfl⟩ ⟨Nat.le_of_ble_eq_true rfl, Nat.le_of_ble_eq_true rfl⟩ ?_
  show vm_J _ _ _ (15, (0, 0), [.ref 0, .int 9, .ref (1 + 4)], [.int 1]) (G, I, F) _ _
  refine vm_J.go vm_q124 (k := 1) (hs := []) (f' := (bif vm_ic .eq 1 0 then 25 else 18, (0, 0), [.ref 0, .int 9, .ref (1 + 4)], [])) (h' := (G, I, F)) (hs' := []) rfl rfl ?_
  refine vm_J.bF (by decide) ?_
  refine vm_J.go vm_q124 (k := 1) (hs := []) (f' := (19, (0, 0), [.ref 0, .int 9, .ref (1 + 4)], [.ref (1 + 4)])) (h' := (G, I, F)) (hs' := []) rfl rfl ?_
  refine vm_J.call vm_q124 (Z := vm_M61) (n := 0) (k := 0) (mi := 61) (pc := 19) (en := (19, .invokevirtual 268, 3, [61, 887, 0], .null)) rfl trivial rfl rfl vm_z61 (av := [.ref (1 + 4)]) (rest := []) (m_isMade_y (o := 1 + 4) (a := 1 + 5) (b := 1 + 6) (c := 1 + 7) (d := 1 + 8) (e := 1 + 9) (f := 1 + 10) hD.w1.sh hmd) ⟨_, _, rfl, rfl, _, 6, _, hD.w1.sh, rfl, rfl, rfl⟩ (Nat.le_of_ble_eq_true rfl) ⟨Nat.le_of_ble_eq_true rfl, Nat.le_of_ble_eq_true rfl⟩ ⟨Nat.le_of_ble_eq_true rfl, Nat.le_of_ble_eq_true rfl⟩ ?_
  show vm_J _ _ _ (22, (0, 0), [.ref 0, .int 9, .ref (1 + 4)], [.int 1]) (G, I, F) _ _
  refine vm_J.go vm_q124 (k := 1) (hs := []) (f' := (bif vm_ic .ne 1 0 then 29 else 25, (0, 0), [.ref 0, .int 9, .ref (1 + 4)], [])) (h' := (G, I, F)) (hs' := []) rfl rfl ?_
  refine vm_J.bT (by decide) ?_
  refine vm_J.go vm_q124 (k := 3) (hs := []) (f' := (124, (0, 0), [.ref 0, .int 9, .ref (1 + 4)], [.ref (1 + 4)])) (h' := (G, I, F)) (hs' := []) rfl rfl ?_
  refine vm_J.call vm_q124 (Z := vm_M79) (n := 0) (k := 0) (mi := 79) (pc := 124) (en := (124, .invokevirtual 265, 3, [79, 871, 0], .null)) rfl trivial rfl rfl vm_z79 (av := [.ref (1 + 4)]) (rest := []) (m_Sh_unlike (o := 1 + 4) (a := 1 + 5) (b := 1 + 6) (c := 1 + 7) (d := 1 + 8) (e := 1 + 9) (f := 1 + 10) (w := w) (h := h) hD.w1.sh hD.w1.s2 hw hh (by omega) (by omega)) ⟨_, _, rfl, rfl, _, 6, _, hD.w1.sh, rfl, rfl, rfl⟩ (Nat.le_of_ble_eq_true rfl) ⟨Nat.le_of_ble_eq_true rfl, Nat.le_of_ble_eq_true rfl⟩ ⟨Nat.le_of_ble_eq_true rfl, Nat.le_of_ble_eq_true rfl⟩ ?_
  show vm_J _ _ _ (127, (0, 0), [.ref 0, .int 9, .ref (1 + 4)], [.int (sp_sum (fun e => if 0 < sp_sum (fun p => if I (1 + 6) p = nI e then 1 else 0) (w * h) then 1 else 0) 16)]) (G, I, F) _ _
  refine vm_J.go vm_q124 (k := 1) (hs := []) (f' := (128, (0, 0), [.ref 0, .int 9, .ref (1 + 4)], [.long ((sp_sum (fun e => if 0 < sp_sum (fun p => if I (1 + 6) p = nI e then 1 else 0) (w * h) then 1 else 0) 16).toInt64)])) (h' := (G, I, F)) (hs' := []) rfl rfl ?_
  exact vm_J.end vm_q124 (en := (128, .lreturn, 1, [], .null)) rfl rfl vm_rL (Nat.zero_le _) (Nat.zero_le _) rfl
set_option maxHeartbeats 4000000 in
set_option maxRecDepth 20000 in
/-- DitherDesk.sum -/
theorem c_sum_13 {l : Launch} {X : vm_Cx} {G : List vm_Sh} {I : Nat → Nat → Int32} {F : Nat → Nat → UInt32} {w : Nat} {h : Nat} (hD : vm_isD G) (hw : I (1 + 4) 1 = nI w) (hh : I (1 + 4) 2 = nI h) (hw2 : w ≤ 12) (hh2 : h ≤ 12) (hw0 : 0 < w) (hmd : ¬ I (1 + 4) 0 = -1) : vm_K l X vm_M124 [.ref 0, .int 13] (G, I, F) (some (.long ((I (1 + 4) 0).toInt64))) (G, I, F) := by
  refine vm_K.mk (by decide) (Nat.le_of_ble_eq_true rfl) ?_
  show vm_J _ _ _ (0, (0, 0), [.ref 0, .int 13, .retAddr 0], []) _ _ _
  refine vm_J.go vm_q124 (k := 7) (hs := [(12, 9, [.ref 1, .ref 38, .ref 75, .ref 112, .ref 132, .ref 135, .ref 139, .int 0, .int 0]), (11, 7, [.ref (1 + 1), .ref (1 + 2), .ref (1 + 3), .ref (1 + 4), .ref (1 + 11), .ref (1 + 13), .ref (1 + 15)])]) (f' := (12, (0, 0), [.ref 0, .int 13, .ref (1 + 4)], [.int 15, .int 0, .int 13])) (h' := (G, I, F)) (hs' := []) rfl (vm_b2 rfl (vm_b2 (vm_b2 (vm_hG hD.d) rfl) (vm_b2 (vm_b2 (vm_hG hD.w1.w) rfl) (vm_b2 rfl (vm_b2 rfl (vm_b2 rfl (vm_b2 rfl rfl))))))) ?_
  refine vm_J.call vm_q124 (Z := vm_M151) (n := 3) (k := 1) (mi := 151) (pc := 12) (en := (12, .invokestatic 56, 3, [151, 420, 0], .null)) rfl trivial rfl rfl vm_z151 (av := [.int 13, .int 0, .int 15]) (rest := []) (m_isWithin_y (v := 13) (a := 0) (b := 15) (by decide)) rfl (Nat.le_of_ble_eq_true rfl) ⟨Nat.le_of_ble_eq_true rfl, Nat.le_of_ble_eq_true rfl⟩ ⟨Nat.le_of_ble_eq_true rfl, Nat.le_of_ble_eq_true rfl⟩ ?_
  show vm_J _ _ _ (15, (0, 0), [.ref 0, .int 13, .ref (1 + 4)], [.int 1]) (G, I, F) _ _
  refine vm_J.go vm_q124 (k := 1) (hs := []) (f' := (bif vm_ic .eq 1 0 then 25 else 18, (0, 0), [.ref 0, .int 13, .ref (1 + 4)], [])) (h' := (G, I, F)) (hs' := []) rfl rfl ?_
  refine vm_J.bF (by decide) ?_
  refine vm_J.go vm_q124 (k := 1) (hs := []) (f' := (19, (0, 0), [.ref 0, .int 13, .ref (1 + 4)], [.ref (1 + 4)])) (h' := (G, I, F)) (hs' := []) rfl rfl ?_
  refine vm_J.call vm_q124 (Z := vm_M61) (n := 0) (k := 0) (mi := 61) (pc := 19) (en := (19, .invokevirtual 268, 3, [61, 887, 0], .null)) rfl trivial rfl rfl vm_z61 (av := [.ref (1 + 4)]) (rest := []) (m_isMade_y (o := 1 + 4) (a := 1 + 5) (b := 1 + 6) (c := 1 + 7) (d := 1 + 8) (e := 1 + 9) (f := 1 + 10) hD.w1.sh hmd) ⟨_, _, rfl, rfl, _, 6, _, hD.w1.sh, rfl, rfl, rfl⟩ (Nat.le_of_ble_eq_true rfl) ⟨Nat.le_of_ble_eq_true rfl, Nat.le_of_ble_eq_true rfl⟩ ⟨Nat.le_of_ble_eq_true rfl, Nat.le_of_ble_eq_true rfl⟩ ?_
  show vm_J _ _ _ (22, (0, 0), [.ref 0, .int 13, .ref (1 + 4)], [.int 1]) (G, I, F) _ _
  refine vm_J.go vm_q124 (k := 1) (hs := []) (f' := (bif vm_ic .ne 1 0 then 29 else 25, (0, 0), [.ref 0, .int 13, .ref (1 + 4)], [])) (h' := (G, I, F)) (hs' := []) rfl rfl ?_
  refine vm_J.bT (by decide) ?_
  refine vm_J.go vm_q124 (k := 5) (hs := [(8, 9, [.int 0, .int 0, .int 0, .ref (1 + 5), .ref (1 + 6), .ref (1 + 7), .ref (1 + 8), .ref (1 + 9), .ref (1 + 10)])]) (f' := (150, (0, 0), [.ref 0, .int 13, .ref (1 + 4)], [.long ((I (1 + 4) 0).toInt64)])) (h' := (G, I, F)) (hs' := []) rfl (vm_b2 rfl (vm_b2 rfl (vm_b2 rfl (vm_b2 (vm_b2 (vm_hG hD.w1.sh) rfl) (vm_b2 rfl rfl))))) ?_
  exact vm_J.end vm_q124 (en := (150, .lreturn, 1, [], .null)) rfl rfl vm_rL (Nat.zero_le _) (Nat.zero_le _) rfl
set_option maxHeartbeats 4000000 in
set_option maxRecDepth 20000 in
/-- DitherDesk.sum -/
theorem c_sum_14 {l : Launch} {X : vm_Cx} {G : List vm_Sh} {I : Nat → Nat → Int32} {F : Nat → Nat → UInt32} {w : Nat} {h : Nat} (hD : vm_isD G) (hw : I (1 + 4) 1 = nI w) (hh : I (1 + 4) 2 = nI h) (hw2 : w ≤ 12) (hh2 : h ≤ 12) (hw0 : 0 < w) (hmd : ¬ I (1 + 4) 0 = -1) : vm_K l X vm_M124 [.ref 0, .int 14] (G, I, F) (some (.long ((nI w).toInt64))) (G, I, F) := by
  refine vm_K.mk (by decide) (Nat.le_of_ble_eq_true rfl) ?_
  show vm_J _ _ _ (0, (0, 0), [.ref 0, .int 14, .retAddr 0], []) _ _ _
  refine vm_J.go vm_q124 (k := 7) (hs := [(12, 9, [.ref 1, .ref 38, .ref 75, .ref 112, .ref 132, .ref 135, .ref 139, .int 0, .int 0]), (11, 7, [.ref (1 + 1), .ref (1 + 2), .ref (1 + 3), .ref (1 + 4), .ref (1 + 11), .ref (1 + 13), .ref (1 + 15)])]) (f' := (12, (0, 0), [.ref 0, .int 14, .ref (1 + 4)], [.int 15, .int 0, .int 14])) (h' := (G, I, F)) (hs' := []) rfl (vm_b2 rfl (vm_b2 (vm_b2 (vm_hG hD.d) rfl) (vm_b2 (vm_b2 (vm_hG hD.w1.w) rfl) (vm_b2 rfl (vm_b2 rfl (vm_b2 rfl (vm_b2 rfl rfl))))))) ?_
  refine vm_J.call vm_q124 (Z := vm_M151) (n := 3) (k := 1) (mi := 151) (pc := 12) (en := (12, .invokestatic 56, 3, [151, 420, 0], .null)) rfl trivial rfl rfl vm_z151 (av := [.int 14, .int 0, .int 15]) (rest := []) (m_isWithin_y (v := 14) (a := 0) (b := 15) (by decide)) rfl (Nat.le_of_ble_eq_true rfl) ⟨Nat.le_of_ble_eq_true rfl, Nat.le_of_ble_eq_true rfl⟩ ⟨Nat.le_of_ble_eq_true rfl, Nat.le_of_ble_eq_true rfl⟩ ?_
  show vm_J _ _ _ (15, (0, 0), [.ref 0, .int 14, .ref (1 + 4)], [.int 1]) (G, I, F) _ _
  refine vm_J.go vm_q124 (k := 1) (hs := []) (f' := (bif vm_ic .eq 1 0 then 25 else 18, (0, 0), [.ref 0, .int 14, .ref (1 + 4)], [])) (h' := (G, I, F)) (hs' := []) rfl rfl ?_
  refine vm_J.bF (by decide) ?_
  refine vm_J.go vm_q124 (k := 1) (hs := []) (f' := (19, (0, 0), [.ref 0, .int 14, .ref (1 + 4)], [.ref (1 + 4)])) (h' := (G, I, F)) (hs' := []) rfl rfl ?_
  refine vm_J.call vm_q124 (Z := vm_M61) (n := 0) (k := 0) (mi := 61) (pc := 19) (en := (19, .invokevirtual 268, 3, [61, 887, 0], .null)) rfl trivial rfl rfl vm_z61 (av := [.ref (1 + 4)]) (rest := []) (m_isMade_y (o := 1 + 4) (a := 1 + 5) (b := 1 + 6) (c := 1 + 7) (d := 1 + 8) (e := 1 + 9) (f := 1 + 10) hD.w1.sh hmd) ⟨_, _, rfl, rfl, _, 6, _, hD.w1.sh, rfl, rfl, rfl⟩ (Nat.le_of_ble_eq_true rfl) ⟨Nat.le_of_ble_eq_true rfl, Nat.le_of_ble_eq_true rfl⟩ ⟨Nat.le_of_ble_eq_true rfl, Nat.le_of_ble_eq_true rfl⟩ ?_
  show vm_J _ _ _ (22, (0, 0), [.ref 0, .int 14, .ref (1 + 4)], [.int 1]) (G, I, F) _ _
  refine vm_J.go vm_q124 (k := 1) (hs := []) (f' := (bif vm_ic .ne 1 0 then 29 else 25, (0, 0), [.ref 0, .int 14, .ref (1 + 4)], [])) (h' := (G, I, F)) (hs' := []) rfl rfl ?_
  refine vm_J.bT (by decide) ?_
  refine vm_J.go vm_q124 (k := 4) (hs := [(8, 9, [.int 0, .int 0, .int 0, .ref (1 + 5), .ref (1 + 6), .ref (1 + 7), .ref (1 + 8), .ref (1 + 9), .ref (1 + 10)])]) (f' := (155, (0, 0), [.ref 0, .int 14, .ref (1 + 4)], [.int (I (1 + 4) 1)])) (h' := (G, I, F)) (hs' := []) rfl (vm_b2 rfl (vm_b2 rfl (vm_b2 rfl (vm_b2 (vm_b2 (vm_hG hD.w1.sh) rfl) rfl)))) ?_
  rw [(hw : I (1 + 4) 1 = nI w)]
  refine vm_J.go vm_q124 (k := 1) (hs := []) (f' := (156, (0, 0), [.ref 0, .int 14, .ref (1 + 4)], [.long ((nI w).toInt64)])) (h' := (G, I, F)) (hs' := []) rfl rfl ?_
  exact vm_J.end vm_q124 (en := (156, .lreturn, 1, [], .null)) rfl rfl vm_rL (Nat.zero_le _) (Nat.zero_le _) rfl
set_option maxHeartbeats 4000000 in
set_option maxRecDepth 20000 in
/-- DitherDesk.sum -/
theorem c_sum_15 {l : Launch} {X : vm_Cx} {G : List vm_Sh} {I : Nat → Nat → Int32} {F : Nat → Nat → UInt32} {w : Nat} {h : Nat} (hD : vm_isD G) (hw : I (1 + 4) 1 = nI w) (hh : I (1 + 4) 2 = nI h) (hw2 : w ≤ 12) (hh2 : h ≤ 12) (hw0 : 0 < w) (hmd : ¬ I (1 + 4) 0 = -1) : vm_K l X vm_M124 [.ref 0, .int 15] (G, I, F) (some (.long ((nI h).toInt64))) (G, I, F) := by
  refine vm_K.mk (by decide) (Nat.le_of_ble_eq_true rfl) ?_
  show vm_J _ _ _ (0, (0, 0), [.ref 0, .int 15, .retAddr 0], []) _ _ _
  refine vm_J.go vm_q124 (k := 7) (hs := [(12, 9, [.ref 1, .ref 38, .ref 75, .ref 112, .ref 132, .ref 135, .ref 139, .int 0, .int 0]), (11, 7, [.ref (1 + 1), .ref (1 + 2), .ref (1 + 3), .ref (1 + 4), .ref (1 + 11), .ref (1 + 13), .ref (1 + 15)])]) (f' := (12, (0, 0), [.ref 0, .int 15, .ref (1 + 4)], [.int 15, .int 0, .int 15])) (h' := (G, I, F)) (hs' := []) rfl (vm_b2 rfl (vm_b2 (vm_b2 (vm_hG hD.d) rfl) (vm_b2 (vm_b2 (vm_hG hD.w1.w) rfl) (vm_b2 rfl (vm_b2 rfl (vm_b2 rfl (vm_b2 rfl rfl))))))) ?_
  refine vm_J.call vm_q124 (Z := vm_M151) (n := 3) (k := 1) (mi := 151) (pc := 12) (en := (12, .invokestatic 56, 3, [151, 420, 0], .null)) rfl trivial rfl rfl vm_z151 (av := [.int 15, .int 0, .int 15]) (rest := []) (m_isWithin_y (v := 15) (a := 0) (b := 15) (by decide)) rfl (Nat.le_of_ble_eq_true rfl) ⟨Nat.le_of_ble_eq_true rfl, Nat.le_of_ble_eq_true rfl⟩ ⟨Nat.le_of_ble_eq_true rfl, Nat.le_of_ble_eq_true rfl⟩ ?_
  show vm_J _ _ _ (15, (0, 0), [.ref 0, .int 15, .ref (1 + 4)], [.int 1]) (G, I, F) _ _
  refine vm_J.go vm_q124 (k := 1) (hs := []) (f' := (bif vm_ic .eq 1 0 then 25 else 18, (0, 0), [.ref 0, .int 15, .ref (1 + 4)], [])) (h' := (G, I, F)) (hs' := []) rfl rfl ?_
  refine vm_J.bF (by decide) ?_
  refine vm_J.go vm_q124 (k := 1) (hs := []) (f' := (19, (0, 0), [.ref 0, .int 15, .ref (1 + 4)], [.ref (1 + 4)])) (h' := (G, I, F)) (hs' := []) rfl rfl ?_
  refine vm_J.call vm_q124 (Z := vm_M61) (n := 0) (k := 0) (mi := 61) (pc := 19) (en := (19, .invokevirtual 268, 3, [61, 887, 0], .null)) rfl trivial rfl rfl vm_z61 (av := [.ref (1 + 4)]) (rest := []) (m_isMade_y (o := 1 + 4) (a := 1 + 5) (b := 1 + 6) (c := 1 + 7) (d := 1 + 8) (e := 1 + 9) (f := 1 + 10) hD.w1.sh hmd) ⟨_, _, rfl, rfl, _, 6, _, hD.w1.sh, rfl, rfl, rfl⟩ (Nat.le_of_ble_eq_true rfl) ⟨Nat.le_of_ble_eq_true rfl, Nat.le_of_ble_eq_true rfl⟩ ⟨Nat.le_of_ble_eq_true rfl, Nat.le_of_ble_eq_true rfl⟩ ?_
  show vm_J _ _ _ (22, (0, 0), [.ref 0, .int 15, .ref (1 + 4)], [.int 1]) (G, I, F) _ _
  refine vm_J.go vm_q124 (k := 1) (hs := []) (f' := (bif vm_ic .ne 1 0 then 29 else 25, (0, 0), [.ref 0, .int 15, .ref (1 + 4)], [])) (h' := (G, I, F)) (hs' := []) rfl rfl ?_
  refine vm_J.bT (by decide) ?_
  refine vm_J.go vm_q124 (k := 4) (hs := [(8, 9, [.int 0, .int 0, .int 0, .ref (1 + 5), .ref (1 + 6), .ref (1 + 7), .ref (1 + 8), .ref (1 + 9), .ref (1 + 10)])]) (f' := (161, (0, 0), [.ref 0, .int 15, .ref (1 + 4)], [.int (I (1 + 4) 2)])) (h' := (G, I, F)) (hs' := []) rfl (vm_b2 rfl (vm_b2 rfl (vm_b2 rfl (vm_b2 (vm_b2 (vm_hG hD.w1.sh) rfl) rfl)))) ?_
  rw [(hh : I (1 + 4) 2 = nI h)]
  refine vm_J.go vm_q124 (k := 1) (hs := []) (f' := (162, (0, 0), [.ref 0, .int 15, .ref (1 + 4)], [.long ((nI h).toInt64)])) (h' := (G, I, F)) (hs' := []) rfl rfl ?_
  exact vm_J.end vm_q124 (en := (162, .lreturn, 1, [], .null)) rfl rfl vm_rL (Nat.zero_le _) (Nat.zero_le _) rfl
set_option maxHeartbeats 4000000 in
set_option maxRecDepth 20000 in
/-- DitherDesk.used -/
theorem c_used_b {l : Launch} {X : vm_Cx} {G : List vm_Sh} {I : Nat → Nat → Int32} {F : Nat → Nat → UInt32} {e : Int32} (hD : vm_isD G) (he : ¬ (0 ≤ e ∧ e ≤ 15)) : vm_K l X vm_M125 [.ref 0, .int e] (G, I, F) (some (.int (-2))) (G, I, F) := by
  refine vm_K.mk (by decide) (Nat.le_of_ble_eq_true rfl) ?_
  show vm_J _ _ _ (0, (0, 0), [.ref 0, .int e], []) _ _ _
  refine vm_J.go vm_q125 (k := 3) (hs := []) (f' := (4, (0, 0), [.ref 0, .int e], [.int 15, .int 0, .int e])) (h' := (G, I, F)) (hs' := []) rfl rfl ?_
  refine vm_J.call vm_q125 (Z := vm_M151) (n := 3) (k := 1) (mi := 151) (pc := 4) (en := (4, .invokestatic 56, 3, [151, 420, 0], .null)) rfl trivial rfl rfl vm_z151 (av := [.int e, .int 0, .int 15]) (rest := []) (m_isWithin_n (v := e) (a := 0) (b := 15) he) rfl (Nat.le_of_ble_eq_true rfl) ⟨Nat.le_of_ble_eq_true rfl, Nat.le_of_ble_eq_true rfl⟩ ⟨Nat.le_of_ble_eq_true rfl, Nat.le_of_ble_eq_true rfl⟩ ?_
  show vm_J _ _ _ (7, (0, 0), [.ref 0, .int e], [.int 0]) (G, I, F) _ _
  refine vm_J.go vm_q125 (k := 1) (hs := []) (f' := (bif vm_ic .ne 0 0 then 13 else 10, (0, 0), [.ref 0, .int e], [])) (h' := (G, I, F)) (hs' := []) rfl rfl ?_
  refine vm_J.bF (by decide) ?_
  refine vm_J.go vm_q125 (k := 1) (hs := []) (f' := (12, (0, 0), [.ref 0, .int e], [.int (-2)])) (h' := (G, I, F)) (hs' := []) rfl rfl ?_
  exact vm_J.end vm_q125 (en := (12, .ireturn, 1, [], .null)) rfl rfl vm_rI (Nat.zero_le _) (Nat.zero_le _) rfl
set_option maxHeartbeats 4000000 in
set_option maxRecDepth 20000 in
/-- DitherDesk.used -/
theorem c_used_n {l : Launch} {X : vm_Cx} {G : List vm_Sh} {I : Nat → Nat → Int32} {F : Nat → Nat → UInt32} {e : Int32} (hD : vm_isD G) (he : 0 ≤ e ∧ e ≤ 15) (hmd : I (1 + 4) 0 = -1) : vm_K l X vm_M125 [.ref 0, .int e] (G, I, F) (some (.int (-3))) (G, I, F) := by
  refine vm_K.mk (by decide) (Nat.le_of_ble_eq_true rfl) ?_
  show vm_J _ _ _ (0, (0, 0), [.ref 0, .int e], []) _ _ _
  refine vm_J.go vm_q125 (k := 3) (hs := []) (f' := (4, (0, 0), [.ref 0, .int e], [.int 15, .int 0, .int e])) (h' := (G, I, F)) (hs' := []) rfl rfl ?_
  refine vm_J.call vm_q125 (Z := vm_M151) (n := 3) (k := 1) (mi := 151) (pc := 4) (en := (4, .invokestatic 56, 3, [151, 420, 0], .null)) rfl trivial rfl rfl vm_z151 (av := [.int e, .int 0, .int 15]) (rest := []) (m_isWithin_y (v := e) (a := 0) (b := 15) he) rfl (Nat.le_of_ble_eq_true rfl) ⟨Nat.le_of_ble_eq_true rfl, Nat.le_of_ble_eq_true rfl⟩ ⟨Nat.le_of_ble_eq_true rfl, Nat.le_of_ble_eq_true rfl⟩ ?_
  show vm_J _ _ _ (7, (0, 0), [.ref 0, .int e], [.int 1]) (G, I, F) _ _
  refine vm_J.go vm_q125 (k := 1) (hs := []) (f' := (bif vm_ic .ne 1 0 then 13 else 10, (0, 0), [.ref 0, .int e], [])) (h' := (G, I, F)) (hs' := []) rfl rfl ?_
  refine vm_J.bT (by decide) ?_
  refine vm_J.go vm_q125 (k := 3) (hs := [(12, 9, [.ref 1, .ref 38, .ref 75, .ref 112, .ref 132, .ref 135, .ref 139, .int 0, .int 0]), (11, 7, [.ref (1 + 1), .ref (1 + 2), .ref (1 + 3), .ref (1 + 4), .ref (1 + 11), .ref (1 + 13), .ref (1 + 15)])]) (f' := (20, (0, 0), [.ref 0, .int e], [.ref (1 + 4)])) (h' := (G, I, F)) (hs' := []) rfl (vm_b2 rfl (vm_b2 (vm_b2 (vm_hG hD.d) rfl) (vm_b2 (vm_b2 (vm_hG hD.w1.w) rfl) rfl))) ?_
  refine vm_J.call vm_q125 (Z := vm_M61) (n := 0) (k := 0) (mi := 61) (pc := 20) (en := (20, .invokevirtual 268, 3, [61, 887, 0], .null)) rfl trivial rfl rfl vm_z61 (av := [.ref (1 + 4)]) (rest := []) (m_isMade_n (o := 1 + 4) (a := 1 + 5) (b := 1 + 6) (c := 1 + 7) (d := 1 + 8) (e := 1 + 9) (f := 1 + 10) hD.w1.sh (fun z => z hmd)) ⟨_, _, rfl, rfl, _, 6, _, hD.w1.sh, rfl, rfl, rfl⟩ (Nat.le_of_ble_eq_true rfl) ⟨Nat.le_of_ble_eq_true rfl, Nat.le_of_ble_eq_true rfl⟩ ⟨Nat.le_of_ble_eq_true rfl, Nat.le_of_ble_eq_true rfl⟩ ?_
  show vm_J _ _ _ (23, (0, 0), [.ref 0, .int e], [.int 0]) (G, I, F) _ _
  refine vm_J.go vm_q125 (k := 1) (hs := []) (f' := (bif vm_ic .eq 0 0 then 40 else 26, (0, 0), [.ref 0, .int e], [])) (h' := (G, I, F)) (hs' := []) rfl rfl ?_
  refine vm_J.bT (by decide) ?_
  refine vm_J.go vm_q125 (k := 1) (hs := []) (f' := (42, (0, 0), [.ref 0, .int e], [.int (-3)])) (h' := (G, I, F)) (hs' := []) rfl rfl ?_
  exact vm_J.end vm_q125 (en := (42, .ireturn, 1, [], .null)) rfl rfl vm_rI (Nat.zero_le _) (Nat.zero_le _) rfl
set_option maxHeartbeats 4000000 in
set_option maxRecDepth 20000 in
/-- DitherDesk.used -/
theorem c_used_y {l : Launch} {X : vm_Cx} {G : List vm_Sh} {I : Nat → Nat → Int32} {F : Nat → Nat → UInt32} {w : Nat} {h : Nat} {e : Int32} (hD : vm_isD G) (hw : I (1 + 4) 1 = nI w) (hh : I (1 + 4) 2 = nI h) (hw2 : w ≤ 12) (hh2 : h ≤ 12) (hw0 : 0 < w) (hmd : ¬ I (1 + 4) 0 = -1) (he : 0 ≤ e ∧ e ≤ 15) : vm_K l X vm_M125 [.ref 0, .int e] (G, I, F) (some (.int (sp_sum (fun p => if I (1 + 6) p = e then 1 else 0) (w * h)))) (G, I, F) := by
  refine vm_K.mk (by decide) (Nat.le_of_ble_eq_true rfl) ?_
  show vm_J _ _ _ (0, (0, 0), [.ref 0, .int e], []) _ _ _
  refine vm_J.go vm_q125 (k := 3) (hs := []) (f' := (4, (0, 0), [.ref 0, .int e], [.int 15, .int 0, .int e])) (h' := (G, I, F)) (hs' := []) rfl rfl ?_
  refine vm_J.call vm_q125 (Z := vm_M151) (n := 3) (k := 1) (mi := 151) (pc := 4) (en := (4, .invokestatic 56, 3, [151, 420, 0], .null)) rfl trivial rfl rfl vm_z151 (av := [.int e, .int 0, .int 15]) (rest := []) (m_isWithin_y (v := e) (a := 0) (b := 15) he) rfl (Nat.le_of_ble_eq_true rfl) ⟨Nat.le_of_ble_eq_true rfl, Nat.le_of_ble_eq_true rfl⟩ ⟨Nat.le_of_ble_eq_true rfl, Nat.le_of_ble_eq_true rfl⟩ ?_
  show vm_J _ _ _ (7, (0, 0), [.ref 0, .int e], [.int 1]) (G, I, F) _ _
  refine vm_J.go vm_q125 (k := 1) (hs := []) (f' := (bif vm_ic .ne 1 0 then 13 else 10, (0, 0), [.ref 0, .int e], [])) (h' := (G, I, F)) (hs' := []) rfl rfl ?_
  refine vm_J.bT (by decide) ?_
  refine vm_J.go vm_q125 (k := 3) (hs := [(12, 9, [.ref 1, .ref 38, .ref 75, .ref 112, .ref 132, .ref 135, .ref 139, .int 0, .int 0]), (11, 7, [.ref (1 + 1), .ref (1 + 2), .ref (1 + 3), .ref (1 + 4), .ref (1 + 11), .ref (1 + 13), .ref (1 + 15)])]) (f' := (20, (0, 0), [.ref 0, .int e], [.ref (1 + 4)])) (h' := (G, I, F)) (hs' := []) rfl (vm_b2 rfl (vm_b2 (vm_b2 (vm_hG hD.d) rfl) (vm_b2 (vm_b2 (vm_hG hD.w1.w) rfl) rfl))) ?_
  refine vm_J.call vm_q125 (Z := vm_M61) (n := 0) (k := 0) (mi := 61) (pc := 20) (en := (20, .invokevirtual 268, 3, [61, 887, 0], .null)) rfl trivial rfl rfl vm_z61 (av := [.ref (1 + 4)]) (rest := []) (m_isMade_y (o := 1 + 4) (a := 1 + 5) (b := 1 + 6) (c := 1 + 7) (d := 1 + 8) (e := 1 + 9) (f := 1 + 10) hD.w1.sh hmd) ⟨_, _, rfl, rfl, _, 6, _, hD.w1.sh, rfl, rfl, rfl⟩ (Nat.le_of_ble_eq_true rfl) ⟨Nat.le_of_ble_eq_true rfl, Nat.le_of_ble_eq_true rfl⟩ ⟨Nat.le_of_ble_eq_true rfl, Nat.le_of_ble_eq_true rfl⟩ ?_
  show vm_J _ _ _ (23, (0, 0), [.ref 0, .int e], [.int 1]) (G, I, F) _ _
  refine vm_J.go vm_q125 (k := 1) (hs := []) (f' := (bif vm_ic .eq 1 0 then 40 else 26, (0, 0), [.ref 0, .int e], [])) (h' := (G, I, F)) (hs' := []) rfl rfl ?_
  refine vm_J.bF (by decide) ?_
  refine vm_J.go vm_q125 (k := 4) (hs := [(12, 9, [.ref 1, .ref 38, .ref 75, .ref 112, .ref 132, .ref 135, .ref 139, .int 0, .int 0]), (11, 7, [.ref (1 + 1), .ref (1 + 2), .ref (1 + 3), .ref (1 + 4), .ref (1 + 11), .ref (1 + 13), .ref (1 + 15)])]) (f' := (34, (0, 0), [.ref 0, .int e], [.int e, .ref (1 + 4)])) (h' := (G, I, F)) (hs' := []) rfl (vm_b2 rfl (vm_b2 (vm_b2 (vm_hG hD.d) rfl) (vm_b2 (vm_b2 (vm_hG hD.w1.w) rfl) (vm_b2 rfl rfl)))) ?_
  refine vm_J.call vm_q125 (Z := vm_M78) (n := 1) (k := 0) (mi := 78) (pc := 34) (en := (34, .invokevirtual 310, 3, [78, 935, 0], .null)) rfl trivial rfl rfl vm_z78 (av := [.ref (1 + 4), .int e]) (rest := []) (m_Sh_pixelsWith (o := 1 + 4) (a := 1 + 5) (b := 1 + 6) (c := 1 + 7) (d := 1 + 8) (e := 1 + 9) (f := 1 + 10) (w := w) (h := h) (k := e) hD.w1.sh hD.w1.s2 hw hh (by omega) (by omega)) ⟨_, _, rfl, rfl, _, 6, _, hD.w1.sh, rfl, rfl, rfl⟩ (Nat.le_of_ble_eq_true rfl) ⟨Nat.le_of_ble_eq_true rfl, Nat.le_of_ble_eq_true rfl⟩ ⟨Nat.le_of_ble_eq_true rfl, Nat.le_of_ble_eq_true rfl⟩ ?_
  show vm_J _ _ _ (37, (0, 0), [.ref 0, .int e], [.int (sp_sum (fun p => if I (1 + 6) p = e then 1 else 0) (w * h))]) (G, I, F) _ _
  refine vm_J.go vm_q125 (k := 1) (hs := []) (f' := (42, (0, 0), [.ref 0, .int e], [.int (sp_sum (fun p => if I (1 + 6) p = e then 1 else 0) (w * h))])) (h' := (G, I, F)) (hs' := []) rfl rfl ?_
  exact vm_J.end vm_q125 (en := (42, .ireturn, 1, [], .null)) rfl rfl vm_rI (Nat.zero_le _) (Nat.zero_le _) rfl
set_option maxHeartbeats 4000000 in
set_option maxRecDepth 20000 in
/-- DitherDesk.taken -/
theorem c_taken_b {l : Launch} {X : vm_Cx} {G : List vm_Sh} {I : Nat → Nat → Int32} {F : Nat → Nat → UInt32} {k : Int32} (hD : vm_isD G) (he : ¬ (0 ≤ k ∧ k ≤ 4)) : vm_K l X vm_M126 [.ref 0, .int k] (G, I, F) (some (.int (-2))) (G, I, F) := by
  refine vm_K.mk (by decide) (Nat.le_of_ble_eq_true rfl) ?_
  show vm_J _ _ _ (0, (0, 0), [.ref 0, .int k], []) _ _ _
  refine vm_J.go vm_q126 (k := 3) (hs := []) (f' := (3, (0, 0), [.ref 0, .int k], [.int 4, .int 0, .int k])) (h' := (G, I, F)) (hs' := []) rfl rfl ?_
  refine vm_J.call vm_q126 (Z := vm_M151) (n := 3) (k := 1) (mi := 151) (pc := 3) (en := (3, .invokestatic 56, 3, [151, 420, 0], .null)) rfl trivial rfl rfl vm_z151 (av := [.int k, .int 0, .int 4]) (rest := []) (m_isWithin_n (v := k) (a := 0) (b := 4) he) rfl (Nat.le_of_ble_eq_true rfl) ⟨Nat.le_of_ble_eq_true rfl, Nat.le_of_ble_eq_true rfl⟩ ⟨Nat.le_of_ble_eq_true rfl, Nat.le_of_ble_eq_true rfl⟩ ?_
  show vm_J _ _ _ (6, (0, 0), [.ref 0, .int k], [.int 0]) (G, I, F) _ _
  refine vm_J.go vm_q126 (k := 1) (hs := []) (f' := (bif vm_ic .ne 0 0 then 12 else 9, (0, 0), [.ref 0, .int k], [])) (h' := (G, I, F)) (hs' := []) rfl rfl ?_
  refine vm_J.bF (by decide) ?_
  refine vm_J.go vm_q126 (k := 1) (hs := []) (f' := (11, (0, 0), [.ref 0, .int k], [.int (-2)])) (h' := (G, I, F)) (hs' := []) rfl rfl ?_
  exact vm_J.end vm_q126 (en := (11, .ireturn, 1, [], .null)) rfl rfl vm_rI (Nat.zero_le _) (Nat.zero_le _) rfl
set_option maxHeartbeats 4000000 in
set_option maxRecDepth 20000 in
/-- DitherDesk.taken -/
theorem c_taken_n {l : Launch} {X : vm_Cx} {G : List vm_Sh} {I : Nat → Nat → Int32} {F : Nat → Nat → UInt32} {k : Int32} (hD : vm_isD G) (he : 0 ≤ k ∧ k ≤ 4) (hmd : I (1 + 4) 0 = -1) : vm_K l X vm_M126 [.ref 0, .int k] (G, I, F) (some (.int (-11))) (G, I, F) := by
  refine vm_K.mk (by decide) (Nat.le_of_ble_eq_true rfl) ?_
  show vm_J _ _ _ (0, (0, 0), [.ref 0, .int k], []) _ _ _
  refine vm_J.go vm_q126 (k := 3) (hs := []) (f' := (3, (0, 0), [.ref 0, .int k], [.int 4, .int 0, .int k])) (h' := (G, I, F)) (hs' := []) rfl rfl ?_
  refine vm_J.call vm_q126 (Z := vm_M151) (n := 3) (k := 1) (mi := 151) (pc := 3) (en := (3, .invokestatic 56, 3, [151, 420, 0], .null)) rfl trivial rfl rfl vm_z151 (av := [.int k, .int 0, .int 4]) (rest := []) (m_isWithin_y (v := k) (a := 0) (b := 4) he) rfl (Nat.le_of_ble_eq_true rfl) ⟨Nat.le_of_ble_eq_true rfl, Nat.le_of_ble_eq_true rfl⟩ ⟨Nat.le_of_ble_eq_true rfl, Nat.le_of_ble_eq_true rfl⟩ ?_
  show vm_J _ _ _ (6, (0, 0), [.ref 0, .int k], [.int 1]) (G, I, F) _ _
  refine vm_J.go vm_q126 (k := 1) (hs := []) (f' := (bif vm_ic .ne 1 0 then 12 else 9, (0, 0), [.ref 0, .int k], [])) (h' := (G, I, F)) (hs' := []) rfl rfl ?_
  refine vm_J.bT (by decide) ?_
  refine vm_J.go vm_q126 (k := 3) (hs := [(12, 9, [.ref 1, .ref 38, .ref 75, .ref 112, .ref 132, .ref 135, .ref 139, .int 0, .int 0]), (11, 7, [.ref (1 + 1), .ref (1 + 2), .ref (1 + 3), .ref (1 + 4), .ref (1 + 11), .ref (1 + 13), .ref (1 + 15)])]) (f' := (19, (0, 0), [.ref 0, .int k], [.ref (1 + 4)])) (h' := (G, I, F)) (hs' := []) rfl (vm_b2 rfl (vm_b2 (vm_b2 (vm_hG hD.d) rfl) (vm_b2 (vm_b2 (vm_hG hD.w1.w) rfl) rfl))) ?_
  refine vm_J.call vm_q126 (Z := vm_M61) (n := 0) (k := 0) (mi := 61) (pc := 19) (en := (19, .invokevirtual 268, 3, [61, 887, 0], .null)) rfl trivial rfl rfl vm_z61 (av := [.ref (1 + 4)]) (rest := []) (m_isMade_n (o := 1 + 4) (a := 1 + 5) (b := 1 + 6) (c := 1 + 7) (d := 1 + 8) (e := 1 + 9) (f := 1 + 10) hD.w1.sh (fun z => z hmd)) ⟨_, _, rfl, rfl, _, 6, _, hD.w1.sh, rfl, rfl, rfl⟩ (Nat.le_of_ble_eq_true rfl) ⟨Nat.le_of_ble_eq_true rfl, Nat.le_of_ble_eq_true rfl⟩ ⟨Nat.le_of_ble_eq_true rfl, Nat.le_of_ble_eq_true rfl⟩ ?_
  show vm_J _ _ _ (22, (0, 0), [.ref 0, .int k], [.int 0]) (G, I, F) _ _
  refine vm_J.go vm_q126 (k := 1) (hs := []) (f' := (bif vm_ic .ne 0 0 then 28 else 25, (0, 0), [.ref 0, .int k], [])) (h' := (G, I, F)) (hs' := []) rfl rfl ?_
  refine vm_J.bF (by decide) ?_
  refine vm_J.go vm_q126 (k := 1) (hs := []) (f' := (27, (0, 0), [.ref 0, .int k], [.int (-11)])) (h' := (G, I, F)) (hs' := []) rfl rfl ?_
  exact vm_J.end vm_q126 (en := (27, .ireturn, 1, [], .null)) rfl rfl vm_rI (Nat.zero_le _) (Nat.zero_le _) rfl
set_option maxHeartbeats 4000000 in
set_option maxRecDepth 20000 in
/-- DitherDesk.taken -/
theorem c_taken_0_0 {l : Launch} {X : vm_Cx} {G : List vm_Sh} {I : Nat → Nat → Int32} {F : Nat → Nat → UInt32}  (hD : vm_isD G) (hy : I (1 + 4) 0 = 0) : vm_K l X vm_M126 [.ref 0, .int 0] (G, I, F) (some (.int (0))) (G, I, F) := by
  refine vm_K.mk (by decide) (Nat.le_of_ble_eq_true rfl) ?_
  show vm_J _ _ _ (0, (0, 0), [.ref 0, .int 0], []) _ _ _
  refine vm_J.go vm_q126 (k := 3) (hs := []) (f' := (3, (0, 0), [.ref 0, .int 0], [.int 4, .int 0, .int 0])) (h' := (G, I, F)) (hs' := []) rfl rfl ?_
  refine vm_J.call vm_q126 (Z := vm_M151) (n := 3) (k := 1) (mi := 151) (pc := 3) (en := (3, .invokestatic 56, 3, [151, 420, 0], .null)) rfl trivial rfl rfl vm_z151 (av := [.int 0, .int 0, .int 4]) (rest := []) (m_isWithin_y (v := 0) (a := 0) (b := 4) (by decide)) rfl (Nat.le_of_ble_eq_true rfl) ⟨Nat.le_of_ble_eq_true rfl, Nat.le_of_ble_eq_true rfl⟩ ⟨Nat.le_of_ble_eq_true rfl, Nat.le_of_ble_eq_true rfl⟩ ?_
  show vm_J _ _ _ (6, (0, 0), [.ref 0, .int 0], [.int 1]) (G, I, F) _ _
  refine vm_J.go vm_q126 (k := 1) (hs := []) (f' := (bif vm_ic .ne 1 0 then 12 else 9, (0, 0), [.ref 0, .int 0], [])) (h' := (G, I, F)) (hs' := []) rfl rfl ?_
  refine vm_J.bT (by decide) ?_
  refine vm_J.go vm_q126 (k := 3) (hs := [(12, 9, [.ref 1, .ref 38, .ref 75, .ref 112, .ref 132, .ref 135, .ref 139, .int 0, .int 0]), (11, 7, [.ref (1 + 1), .ref (1 + 2), .ref (1 + 3), .ref (1 + 4), .ref (1 + 11), .ref (1 + 13), .ref (1 + 15)])]) (f' := (19, (0, 0), [.ref 0, .int 0], [.ref (1 + 4)])) (h' := (G, I, F)) (hs' := []) rfl (vm_b2 rfl (vm_b2 (vm_b2 (vm_hG hD.d) rfl) (vm_b2 (vm_b2 (vm_hG hD.w1.w) rfl) rfl))) ?_
  refine vm_J.call vm_q126 (Z := vm_M61) (n := 0) (k := 0) (mi := 61) (pc := 19) (en := (19, .invokevirtual 268, 3, [61, 887, 0], .null)) rfl trivial rfl rfl vm_z61 (av := [.ref (1 + 4)]) (rest := []) (m_isMade_y (o := 1 + 4) (a := 1 + 5) (b := 1 + 6) (c := 1 + 7) (d := 1 + 8) (e := 1 + 9) (f := 1 + 10) hD.w1.sh (by rw [hy]; decide)) ⟨_, _, rfl, rfl, _, 6, _, hD.w1.sh, rfl, rfl, rfl⟩ (Nat.le_of_ble_eq_true rfl) ⟨Nat.le_of_ble_eq_true rfl, Nat.le_of_ble_eq_true rfl⟩ ⟨Nat.le_of_ble_eq_true rfl, Nat.le_of_ble_eq_true rfl⟩ ?_
  show vm_J _ _ _ (22, (0, 0), [.ref 0, .int 0], [.int 1]) (G, I, F) _ _
  refine vm_J.go vm_q126 (k := 1) (hs := []) (f' := (bif vm_ic .ne 1 0 then 28 else 25, (0, 0), [.ref 0, .int 0], [])) (h' := (G, I, F)) (hs' := []) rfl rfl ?_
  refine vm_J.bT (by decide) ?_
  refine vm_J.go vm_q126 (k := 4) (hs := [(12, 9, [.ref 1, .ref 38, .ref 75, .ref 112, .ref 132, .ref 135, .ref 139, .int 0, .int 0]), (11, 7, [.ref (1 + 1), .ref (1 + 2), .ref (1 + 3), .ref (1 + 4), .ref (1 + 11), .ref (1 + 13), .ref (1 + 15)]), (8, 9, [.int 0, .int 0, .int 0, .ref (1 + 5), .ref (1 + 6), .ref (1 + 7), .ref (1 + 8), .ref (1 + 9), .ref (1 + 10)])]) (f' := (38, (0, 0), [.ref 0, .int 0], [.int (I (1 + 4) 0)])) (h' := (G, I, F)) (hs' := []) rfl (vm_b2 rfl (vm_b2 (vm_b2 (vm_hG hD.d) rfl) (vm_b2 (vm_b2 (vm_hG hD.w1.w) rfl) (vm_b2 (vm_b2 (vm_hG hD.w1.sh) rfl) rfl)))) ?_
  rw [(hy : I (1 + 4) 0 = 0)]
  refine vm_J.go vm_q126 (k := 1) (hs := []) (f' := (39, (0, 0), [.ref 0, .int 0], [.int 0, .int 0])) (h' := (G, I, F)) (hs' := []) rfl rfl ?_
  refine vm_J.call vm_q126 (Z := vm_M150) (n := 2) (k := 1) (mi := 150) (pc := 39) (en := (39, .invokestatic 313, 3, [150, 940, 0], .null)) rfl trivial rfl rfl vm_z150 (av := [.int 0, .int 0]) (rest := []) m_under_1_0 rfl (Nat.le_of_ble_eq_true rfl) ⟨Nat.le_of_ble_eq_true rfl, Nat.le_of_ble_eq_true rfl⟩ ⟨Nat.le_of_ble_eq_true rfl, Nat.le_of_ble_eq_true rfl⟩ ?_
  show vm_J _ _ _ (42, (0, 0), [.ref 0, .int 0], [.int 1]) (G, I, F) _ _
  refine vm_J.go vm_q126 (k := 1) (hs := []) (f' := (bif vm_ic .eq 1 0 then 58 else 45, (0, 0), [.ref 0, .int 0], [])) (h' := (G, I, F)) (hs' := []) rfl rfl ?_
  refine vm_J.bF (by decide) ?_
  refine vm_J.go vm_q126 (k := 4) (hs := [(12, 9, [.ref 1, .ref 38, .ref 75, .ref 112, .ref 132, .ref 135, .ref 139, .int 0, .int 0]), (11, 7, [.ref (1 + 1), .ref (1 + 2), .ref (1 + 3), .ref (1 + 4), .ref (1 + 11), .ref (1 + 13), .ref (1 + 15)]), (8, 9, [.int 0, .int 0, .int 0, .ref (1 + 5), .ref (1 + 6), .ref (1 + 7), .ref (1 + 8), .ref (1 + 9), .ref (1 + 10)])]) (f' := (55, (0, 0), [.ref 0, .int 0], [.int (I (1 + 4) 0)])) (h' := (G, I, F)) (hs' := []) rfl (vm_b2 rfl (vm_b2 (vm_b2 (vm_hG hD.d) rfl) (vm_b2 (vm_b2 (vm_hG hD.w1.w) rfl) (vm_b2 (vm_b2 (vm_hG hD.w1.sh) rfl) rfl)))) ?_
  rw [(hy : I (1 + 4) 0 = 0)]
  refine vm_J.go vm_q126 (k := 1) (hs := []) (f' := (60, (0, 0), [.ref 0, .int 0], [.int 0])) (h' := (G, I, F)) (hs' := []) rfl rfl ?_
  exact vm_J.end vm_q126 (en := (60, .ireturn, 1, [], .null)) rfl rfl vm_rI (Nat.zero_le _) (Nat.zero_le _) rfl
set_option maxHeartbeats 4000000 in
set_option maxRecDepth 20000 in
/-- DitherDesk.taken -/
theorem c_taken_0_1 {l : Launch} {X : vm_Cx} {G : List vm_Sh} {I : Nat → Nat → Int32} {F : Nat → Nat → UInt32}  (hD : vm_isD G) (hy : I (1 + 4) 0 = 0) : vm_K l X vm_M126 [.ref 0, .int 1] (G, I, F) (some (.int (-12))) (G, I, F) := by
  refine vm_K.mk (by decide) (Nat.le_of_ble_eq_true rfl) ?_
  show vm_J _ _ _ (0, (0, 0), [.ref 0, .int 1], []) _ _ _
  refine vm_J.go vm_q126 (k := 3) (hs := []) (f' := (3, (0, 0), [.ref 0, .int 1], [.int 4, .int 0, .int 1])) (h' := (G, I, F)) (hs' := []) rfl rfl ?_
  refine vm_J.call vm_q126 (Z := vm_M151) (n := 3) (k := 1) (mi := 151) (pc := 3) (en := (3, .invokestatic 56, 3, [151, 420, 0], .null)) rfl trivial rfl rfl vm_z151 (av := [.int 1, .int 0, .int 4]) (rest := []) (m_isWithin_y (v := 1) (a := 0) (b := 4) (by decide)) rfl (Nat.le_of_ble_eq_true rfl) ⟨Nat.le_of_ble_eq_true rfl, Nat.le_of_ble_eq_true rfl⟩ ⟨Nat.le_of_ble_eq_true rfl, Nat.le_of_ble_eq_true rfl⟩ ?_
  show vm_J _ _ _ (6, (0, 0), [.ref 0, .int 1], [.int 1]) (G, I, F) _ _
  refine vm_J.go vm_q126 (k := 1) (hs := []) (f' := (bif vm_ic .ne 1 0 then 12 else 9, (0, 0), [.ref 0, .int 1], [])) (h' := (G, I, F)) (hs' := []) rfl rfl ?_
  refine vm_J.bT (by decide) ?_
  refine vm_J.go vm_q126 (k := 3) (hs := [(12, 9, [.ref 1, .ref 38, .ref 75, .ref 112, .ref 132, .ref 135, .ref 139, .int 0, .int 0]), (11, 7, [.ref (1 + 1), .ref (1 + 2), .ref (1 + 3), .ref (1 + 4), .ref (1 + 11), .ref (1 + 13), .ref (1 + 15)])]) (f' := (19, (0, 0), [.ref 0, .int 1], [.ref (1 + 4)])) (h' := (G, I, F)) (hs' := []) rfl (vm_b2 rfl (vm_b2 (vm_b2 (vm_hG hD.d) rfl) (vm_b2 (vm_b2 (vm_hG hD.w1.w) rfl) rfl))) ?_
  refine vm_J.call vm_q126 (Z := vm_M61) (n := 0) (k := 0) (mi := 61) (pc := 19) (en := (19, .invokevirtual 268, 3, [61, 887, 0], .null)) rfl trivial rfl rfl vm_z61 (av := [.ref (1 + 4)]) (rest := []) (m_isMade_y (o := 1 + 4) (a := 1 + 5) (b := 1 + 6) (c := 1 + 7) (d := 1 + 8) (e := 1 + 9) (f := 1 + 10) hD.w1.sh (by rw [hy]; decide)) ⟨_, _, rfl, rfl, _, 6, _, hD.w1.sh, rfl, rfl, rfl⟩ (Nat.le_of_ble_eq_true rfl) ⟨Nat.le_of_ble_eq_true rfl, Nat.le_of_ble_eq_true rfl⟩ ⟨Nat.le_of_ble_eq_true rfl, Nat.le_of_ble_eq_true rfl⟩ ?_
  show vm_J _ _ _ (22, (0, 0), [.ref 0, .int 1], [.int 1]) (G, I, F) _ _
  refine vm_J.go vm_q126 (k := 1) (hs := []) (f' := (bif vm_ic .ne 1 0 then 28 else 25, (0, 0), [.ref 0, .int 1], [])) (h' := (G, I, F)) (hs' := []) rfl rfl ?_
  refine vm_J.bT (by decide) ?_
  refine vm_J.go vm_q126 (k := 4) (hs := [(12, 9, [.ref 1, .ref 38, .ref 75, .ref 112, .ref 132, .ref 135, .ref 139, .int 0, .int 0]), (11, 7, [.ref (1 + 1), .ref (1 + 2), .ref (1 + 3), .ref (1 + 4), .ref (1 + 11), .ref (1 + 13), .ref (1 + 15)]), (8, 9, [.int 0, .int 0, .int 0, .ref (1 + 5), .ref (1 + 6), .ref (1 + 7), .ref (1 + 8), .ref (1 + 9), .ref (1 + 10)])]) (f' := (38, (0, 0), [.ref 0, .int 1], [.int (I (1 + 4) 0)])) (h' := (G, I, F)) (hs' := []) rfl (vm_b2 rfl (vm_b2 (vm_b2 (vm_hG hD.d) rfl) (vm_b2 (vm_b2 (vm_hG hD.w1.w) rfl) (vm_b2 (vm_b2 (vm_hG hD.w1.sh) rfl) rfl)))) ?_
  rw [(hy : I (1 + 4) 0 = 0)]
  refine vm_J.go vm_q126 (k := 1) (hs := []) (f' := (39, (0, 0), [.ref 0, .int 1], [.int 1, .int 0])) (h' := (G, I, F)) (hs' := []) rfl rfl ?_
  refine vm_J.call vm_q126 (Z := vm_M150) (n := 2) (k := 1) (mi := 150) (pc := 39) (en := (39, .invokestatic 313, 3, [150, 940, 0], .null)) rfl trivial rfl rfl vm_z150 (av := [.int 0, .int 1]) (rest := []) m_under_1_1 rfl (Nat.le_of_ble_eq_true rfl) ⟨Nat.le_of_ble_eq_true rfl, Nat.le_of_ble_eq_true rfl⟩ ⟨Nat.le_of_ble_eq_true rfl, Nat.le_of_ble_eq_true rfl⟩ ?_
  show vm_J _ _ _ (42, (0, 0), [.ref 0, .int 1], [.int 0]) (G, I, F) _ _
  refine vm_J.go vm_q126 (k := 1) (hs := []) (f' := (bif vm_ic .eq 0 0 then 58 else 45, (0, 0), [.ref 0, .int 1], [])) (h' := (G, I, F)) (hs' := []) rfl rfl ?_
  refine vm_J.bT (by decide) ?_
  refine vm_J.go vm_q126 (k := 1) (hs := []) (f' := (60, (0, 0), [.ref 0, .int 1], [.int (-12)])) (h' := (G, I, F)) (hs' := []) rfl rfl ?_
  exact vm_J.end vm_q126 (en := (60, .ireturn, 1, [], .null)) rfl rfl vm_rI (Nat.zero_le _) (Nat.zero_le _) rfl
set_option maxHeartbeats 4000000 in
set_option maxRecDepth 20000 in
/-- DitherDesk.taken -/
theorem c_taken_0_2 {l : Launch} {X : vm_Cx} {G : List vm_Sh} {I : Nat → Nat → Int32} {F : Nat → Nat → UInt32}  (hD : vm_isD G) (hy : I (1 + 4) 0 = 0) : vm_K l X vm_M126 [.ref 0, .int 2] (G, I, F) (some (.int (-12))) (G, I, F) := by
  refine vm_K.mk (by decide) (Nat.le_of_ble_eq_true rfl) ?_
  show vm_J _ _ _ (0, (0, 0), [.ref 0, .int 2], []) _ _ _
  refine vm_J.go vm_q126 (k := 3) (hs := []) (f' := (3, (0, 0), [.ref 0, .int 2], [.int 4, .int 0, .int 2])) (h' := (G, I, F)) (hs' := []) rfl rfl ?_
  refine vm_J.call vm_q126 (Z := vm_M151) (n := 3) (k := 1) (mi := 151) (pc := 3) (en := (3, .invokestatic 56, 3, [151, 420, 0], .null)) rfl trivial rfl rfl vm_z151 (av := [.int 2, .int 0, .int 4]) (rest := []) (m_isWithin_y (v := 2) (a := 0) (b := 4) (by decide)) rfl (Nat.le_of_ble_eq_true rfl) ⟨Nat.le_of_ble_eq_true rfl, Nat.le_of_ble_eq_true rfl⟩ ⟨Nat.le_of_ble_eq_true rfl, Nat.le_of_ble_eq_true rfl⟩ ?_
  show vm_J _ _ _ (6, (0, 0), [.ref 0, .int 2], [.int 1]) (G, I, F) _ _
  refine vm_J.go vm_q126 (k := 1) (hs := []) (f' := (bif vm_ic .ne 1 0 then 12 else 9, (0, 0), [.ref 0, .int 2], [])) (h' := (G, I, F)) (hs' := []) rfl rfl ?_
  refine vm_J.bT (by decide) ?_
  refine vm_J.go vm_q126 (k := 3) (hs := [(12, 9, [.ref 1, .ref 38, .ref 75, .ref 112, .ref 132, .ref 135, .ref 139, .int 0, .int 0]), (11, 7, [.ref (1 + 1), .ref (1 + 2), .ref (1 + 3), .ref (1 + 4), .ref (1 + 11), .ref (1 + 13), .ref (1 + 15)])]) (f' := (19, (0, 0), [.ref 0, .int 2], [.ref (1 + 4)])) (h' := (G, I, F)) (hs' := []) rfl (vm_b2 rfl (vm_b2 (vm_b2 (vm_hG hD.d) rfl) (vm_b2 (vm_b2 (vm_hG hD.w1.w) rfl) rfl))) ?_
  refine vm_J.call vm_q126 (Z := vm_M61) (n := 0) (k := 0) (mi := 61) (pc := 19) (en := (19, .invokevirtual 268, 3, [61, 887, 0], .null)) rfl trivial rfl rfl vm_z61 (av := [.ref (1 + 4)]) (rest := []) (m_isMade_y (o := 1 + 4) (a := 1 + 5) (b := 1 + 6) (c := 1 + 7) (d := 1 + 8) (e := 1 + 9) (f := 1 + 10) hD.w1.sh (by rw [hy]; decide)) ⟨_, _, rfl, rfl, _, 6, _, hD.w1.sh, rfl, rfl, rfl⟩ (Nat.le_of_ble_eq_true rfl) ⟨Nat.le_of_ble_eq_true rfl, Nat.le_of_ble_eq_true rfl⟩ ⟨Nat.le_of_ble_eq_true rfl, Nat.le_of_ble_eq_true rfl⟩ ?_
  show vm_J _ _ _ (22, (0, 0), [.ref 0, .int 2], [.int 1]) (G, I, F) _ _
  refine vm_J.go vm_q126 (k := 1) (hs := []) (f' := (bif vm_ic .ne 1 0 then 28 else 25, (0, 0), [.ref 0, .int 2], [])) (h' := (G, I, F)) (hs' := []) rfl rfl ?_
  refine vm_J.bT (by decide) ?_
  refine vm_J.go vm_q126 (k := 4) (hs := [(12, 9, [.ref 1, .ref 38, .ref 75, .ref 112, .ref 132, .ref 135, .ref 139, .int 0, .int 0]), (11, 7, [.ref (1 + 1), .ref (1 + 2), .ref (1 + 3), .ref (1 + 4), .ref (1 + 11), .ref (1 + 13), .ref (1 + 15)]), (8, 9, [.int 0, .int 0, .int 0, .ref (1 + 5), .ref (1 + 6), .ref (1 + 7), .ref (1 + 8), .ref (1 + 9), .ref (1 + 10)])]) (f' := (38, (0, 0), [.ref 0, .int 2], [.int (I (1 + 4) 0)])) (h' := (G, I, F)) (hs' := []) rfl (vm_b2 rfl (vm_b2 (vm_b2 (vm_hG hD.d) rfl) (vm_b2 (vm_b2 (vm_hG hD.w1.w) rfl) (vm_b2 (vm_b2 (vm_hG hD.w1.sh) rfl) rfl)))) ?_
  rw [(hy : I (1 + 4) 0 = 0)]
  refine vm_J.go vm_q126 (k := 1) (hs := []) (f' := (39, (0, 0), [.ref 0, .int 2], [.int 2, .int 0])) (h' := (G, I, F)) (hs' := []) rfl rfl ?_
  refine vm_J.call vm_q126 (Z := vm_M150) (n := 2) (k := 1) (mi := 150) (pc := 39) (en := (39, .invokestatic 313, 3, [150, 940, 0], .null)) rfl trivial rfl rfl vm_z150 (av := [.int 0, .int 2]) (rest := []) m_under_1_2 rfl (Nat.le_of_ble_eq_true rfl) ⟨Nat.le_of_ble_eq_true rfl, Nat.le_of_ble_eq_true rfl⟩ ⟨Nat.le_of_ble_eq_true rfl, Nat.le_of_ble_eq_true rfl⟩ ?_
  show vm_J _ _ _ (42, (0, 0), [.ref 0, .int 2], [.int 0]) (G, I, F) _ _
  refine vm_J.go vm_q126 (k := 1) (hs := []) (f' := (bif vm_ic .eq 0 0 then 58 else 45, (0, 0), [.ref 0, .int 2], [])) (h' := (G, I, F)) (hs' := []) rfl rfl ?_
  refine vm_J.bT (by decide) ?_
  refine vm_J.go vm_q126 (k := 1) (hs := []) (f' := (60, (0, 0), [.ref 0, .int 2], [.int (-12)])) (h' := (G, I, F)) (hs' := []) rfl rfl ?_
  exact vm_J.end vm_q126 (en := (60, .ireturn, 1, [], .null)) rfl rfl vm_rI (Nat.zero_le _) (Nat.zero_le _) rfl
set_option maxHeartbeats 4000000 in
set_option maxRecDepth 20000 in
/-- DitherDesk.taken -/
theorem c_taken_0_3 {l : Launch} {X : vm_Cx} {G : List vm_Sh} {I : Nat → Nat → Int32} {F : Nat → Nat → UInt32}  (hD : vm_isD G) (hy : I (1 + 4) 0 = 0) : vm_K l X vm_M126 [.ref 0, .int 3] (G, I, F) (some (.int (-12))) (G, I, F) := by
  refine vm_K.mk (by decide) (Nat.le_of_ble_eq_true rfl) ?_
  show vm_J _ _ _ (0, (0, 0), [.ref 0, .int 3], []) _ _ _
  refine vm_J.go vm_q126 (k := 3) (hs := []) (f' := (3, (0, 0), [.ref 0, .int 3], [.int 4, .int 0, .int 3])) (h' := (G, I, F)) (hs' := []) rfl rfl ?_
  refine vm_J.call vm_q126 (Z := vm_M151) (n := 3) (k := 1) (mi := 151) (pc := 3) (en := (3, .invokestatic 56, 3, [151, 420, 0], .null)) rfl trivial rfl rfl vm_z151 (av := [.int 3, .int 0, .int 4]) (rest := []) (m_isWithin_y (v := 3) (a := 0) (b := 4) (by decide)) rfl (Nat.le_of_ble_eq_true rfl) ⟨Nat.le_of_ble_eq_true rfl, Nat.le_of_ble_eq_true rfl⟩ ⟨Nat.le_of_ble_eq_true rfl, Nat.le_of_ble_eq_true rfl⟩ ?_
  show vm_J _ _ _ (6, (0, 0), [.ref 0, .int 3], [.int 1]) (G, I, F) _ _
  refine vm_J.go vm_q126 (k := 1) (hs := []) (f' := (bif vm_ic .ne 1 0 then 12 else 9, (0, 0), [.ref 0, .int 3], [])) (h' := (G, I, F)) (hs' := []) rfl rfl ?_
  refine vm_J.bT (by decide) ?_
  refine vm_J.go vm_q126 (k := 3) (hs := [(12, 9, [.ref 1, .ref 38, .ref 75, .ref 112, .ref 132, .ref 135, .ref 139, .int 0, .int 0]), (11, 7, [.ref (1 + 1), .ref (1 + 2), .ref (1 + 3), .ref (1 + 4), .ref (1 + 11), .ref (1 + 13), .ref (1 + 15)])]) (f' := (19, (0, 0), [.ref 0, .int 3], [.ref (1 + 4)])) (h' := (G, I, F)) (hs' := []) rfl (vm_b2 rfl (vm_b2 (vm_b2 (vm_hG hD.d) rfl) (vm_b2 (vm_b2 (vm_hG hD.w1.w) rfl) rfl))) ?_
  refine vm_J.call vm_q126 (Z := vm_M61) (n := 0) (k := 0) (mi := 61) (pc := 19) (en := (19, .invokevirtual 268, 3, [61, 887, 0], .null)) rfl trivial rfl rfl vm_z61 (av := [.ref (1 + 4)]) (rest := []) (m_isMade_y (o := 1 + 4) (a := 1 + 5) (b := 1 + 6) (c := 1 + 7) (d := 1 + 8) (e := 1 + 9) (f := 1 + 10) hD.w1.sh (by rw [hy]; decide)) ⟨_, _, rfl, rfl, _, 6, _, hD.w1.sh, rfl, rfl, rfl⟩ (Nat.le_of_ble_eq_true rfl) ⟨Nat.le_of_ble_eq_true rfl, Nat.le_of_ble_eq_true rfl⟩ ⟨Nat.le_of_ble_eq_true rfl, Nat.le_of_ble_eq_true rfl⟩ ?_
  show vm_J _ _ _ (22, (0, 0), [.ref 0, .int 3], [.int 1]) (G, I, F) _ _
  refine vm_J.go vm_q126 (k := 1) (hs := []) (f' := (bif vm_ic .ne 1 0 then 28 else 25, (0, 0), [.ref 0, .int 3], [])) (h' := (G, I, F)) (hs' := []) rfl rfl ?_
  refine vm_J.bT (by decide) ?_
  refine vm_J.go vm_q126 (k := 4) (hs := [(12, 9, [.ref 1, .ref 38, .ref 75, .ref 112, .ref 132, .ref 135, .ref 139, .int 0, .int 0]), (11, 7, [.ref (1 + 1), .ref (1 + 2), .ref (1 + 3), .ref (1 + 4), .ref (1 + 11), .ref (1 + 13), .ref (1 + 15)]), (8, 9, [.int 0, .int 0, .int 0, .ref (1 + 5), .ref (1 + 6), .ref (1 + 7), .ref (1 + 8), .ref (1 + 9), .ref (1 + 10)])]) (f' := (38, (0, 0), [.ref 0, .int 3], [.int (I (1 + 4) 0)])) (h' := (G, I, F)) (hs' := []) rfl (vm_b2 rfl (vm_b2 (vm_b2 (vm_hG hD.d) rfl) (vm_b2 (vm_b2 (vm_hG hD.w1.w) rfl) (vm_b2 (vm_b2 (vm_hG hD.w1.sh) rfl) rfl)))) ?_
  rw [(hy : I (1 + 4) 0 = 0)]
  refine vm_J.go vm_q126 (k := 1) (hs := []) (f' := (39, (0, 0), [.ref 0, .int 3], [.int 3, .int 0])) (h' := (G, I, F)) (hs' := []) rfl rfl ?_
  refine vm_J.call vm_q126 (Z := vm_M150) (n := 2) (k := 1) (mi := 150) (pc := 39) (en := (39, .invokestatic 313, 3, [150, 940, 0], .null)) rfl trivial rfl rfl vm_z150 (av := [.int 0, .int 3]) (rest := []) m_under_1_3 rfl (Nat.le_of_ble_eq_true rfl) ⟨Nat.le_of_ble_eq_true rfl, Nat.le_of_ble_eq_true rfl⟩ ⟨Nat.le_of_ble_eq_true rfl, Nat.le_of_ble_eq_true rfl⟩ ?_
  show vm_J _ _ _ (42, (0, 0), [.ref 0, .int 3], [.int 0]) (G, I, F) _ _
  refine vm_J.go vm_q126 (k := 1) (hs := []) (f' := (bif vm_ic .eq 0 0 then 58 else 45, (0, 0), [.ref 0, .int 3], [])) (h' := (G, I, F)) (hs' := []) rfl rfl ?_
  refine vm_J.bT (by decide) ?_
  refine vm_J.go vm_q126 (k := 1) (hs := []) (f' := (60, (0, 0), [.ref 0, .int 3], [.int (-12)])) (h' := (G, I, F)) (hs' := []) rfl rfl ?_
  exact vm_J.end vm_q126 (en := (60, .ireturn, 1, [], .null)) rfl rfl vm_rI (Nat.zero_le _) (Nat.zero_le _) rfl
set_option maxHeartbeats 4000000 in
set_option maxRecDepth 20000 in
/-- DitherDesk.taken -/
theorem c_taken_0_4 {l : Launch} {X : vm_Cx} {G : List vm_Sh} {I : Nat → Nat → Int32} {F : Nat → Nat → UInt32}  (hD : vm_isD G) (hy : I (1 + 4) 0 = 0) : vm_K l X vm_M126 [.ref 0, .int 4] (G, I, F) (some (.int (-12))) (G, I, F) := by
  refine vm_K.mk (by decide) (Nat.le_of_ble_eq_true rfl) ?_
  show vm_J _ _ _ (0, (0, 0), [.ref 0, .int 4], []) _ _ _
  refine vm_J.go vm_q126 (k := 3) (hs := []) (f' := (3, (0, 0), [.ref 0, .int 4], [.int 4, .int 0, .int 4])) (h' := (G, I, F)) (hs' := []) rfl rfl ?_
  refine vm_J.call vm_q126 (Z := vm_M151) (n := 3) (k := 1) (mi := 151) (pc := 3) (en := (3, .invokestatic 56, 3, [151, 420, 0], .null)) rfl trivial rfl rfl vm_z151 (av := [.int 4, .int 0, .int 4]) (rest := []) (m_isWithin_y (v := 4) (a := 0) (b := 4) (by decide)) rfl (Nat.le_of_ble_eq_true rfl) ⟨Nat.le_of_ble_eq_true rfl, Nat.le_of_ble_eq_true rfl⟩ ⟨Nat.le_of_ble_eq_true rfl, Nat.le_of_ble_eq_true rfl⟩ ?_
  show vm_J _ _ _ (6, (0, 0), [.ref 0, .int 4], [.int 1]) (G, I, F) _ _
  refine vm_J.go vm_q126 (k := 1) (hs := []) (f' := (bif vm_ic .ne 1 0 then 12 else 9, (0, 0), [.ref 0, .int 4], [])) (h' := (G, I, F)) (hs' := []) rfl rfl ?_
  refine vm_J.bT (by decide) ?_
  refine vm_J.go vm_q126 (k := 3) (hs := [(12, 9, [.ref 1, .ref 38, .ref 75, .ref 112, .ref 132, .ref 135, .ref 139, .int 0, .int 0]), (11, 7, [.ref (1 + 1), .ref (1 + 2), .ref (1 + 3), .ref (1 + 4), .ref (1 + 11), .ref (1 + 13), .ref (1 + 15)])]) (f' := (19, (0, 0), [.ref 0, .int 4], [.ref (1 + 4)])) (h' := (G, I, F)) (hs' := []) rfl (vm_b2 rfl (vm_b2 (vm_b2 (vm_hG hD.d) rfl) (vm_b2 (vm_b2 (vm_hG hD.w1.w) rfl) rfl))) ?_
  refine vm_J.call vm_q126 (Z := vm_M61) (n := 0) (k := 0) (mi := 61) (pc := 19) (en := (19, .invokevirtual 268, 3, [61, 887, 0], .null)) rfl trivial rfl rfl vm_z61 (av := [.ref (1 + 4)]) (rest := []) (m_isMade_y (o := 1 + 4) (a := 1 + 5) (b := 1 + 6) (c := 1 + 7) (d := 1 + 8) (e := 1 + 9) (f := 1 + 10) hD.w1.sh (by rw [hy]; decide)) ⟨_, _, rfl, rfl, _, 6, _, hD.w1.sh, rfl, rfl, rfl⟩ (Nat.le_of_ble_eq_true rfl) ⟨Nat.le_of_ble_eq_true rfl, Nat.le_of_ble_eq_true rfl⟩ ⟨Nat.le_of_ble_eq_true rfl, Nat.le_of_ble_eq_true rfl⟩ ?_
  show vm_J _ _ _ (22, (0, 0), [.ref 0, .int 4], [.int 1]) (G, I, F) _ _
  refine vm_J.go vm_q126 (k := 1) (hs := []) (f' := (bif vm_ic .ne 1 0 then 28 else 25, (0, 0), [.ref 0, .int 4], [])) (h' := (G, I, F)) (hs' := []) rfl rfl ?_
  refine vm_J.bT (by decide) ?_
  refine vm_J.go vm_q126 (k := 4) (hs := [(12, 9, [.ref 1, .ref 38, .ref 75, .ref 112, .ref 132, .ref 135, .ref 139, .int 0, .int 0]), (11, 7, [.ref (1 + 1), .ref (1 + 2), .ref (1 + 3), .ref (1 + 4), .ref (1 + 11), .ref (1 + 13), .ref (1 + 15)]), (8, 9, [.int 0, .int 0, .int 0, .ref (1 + 5), .ref (1 + 6), .ref (1 + 7), .ref (1 + 8), .ref (1 + 9), .ref (1 + 10)])]) (f' := (38, (0, 0), [.ref 0, .int 4], [.int (I (1 + 4) 0)])) (h' := (G, I, F)) (hs' := []) rfl (vm_b2 rfl (vm_b2 (vm_b2 (vm_hG hD.d) rfl) (vm_b2 (vm_b2 (vm_hG hD.w1.w) rfl) (vm_b2 (vm_b2 (vm_hG hD.w1.sh) rfl) rfl)))) ?_
  rw [(hy : I (1 + 4) 0 = 0)]
  refine vm_J.go vm_q126 (k := 1) (hs := []) (f' := (39, (0, 0), [.ref 0, .int 4], [.int 4, .int 0])) (h' := (G, I, F)) (hs' := []) rfl rfl ?_
  refine vm_J.call vm_q126 (Z := vm_M150) (n := 2) (k := 1) (mi := 150) (pc := 39) (en := (39, .invokestatic 313, 3, [150, 940, 0], .null)) rfl trivial rfl rfl vm_z150 (av := [.int 0, .int 4]) (rest := []) m_under_1_4 rfl (Nat.le_of_ble_eq_true rfl) ⟨Nat.le_of_ble_eq_true rfl, Nat.le_of_ble_eq_true rfl⟩ ⟨Nat.le_of_ble_eq_true rfl, Nat.le_of_ble_eq_true rfl⟩ ?_
  show vm_J _ _ _ (42, (0, 0), [.ref 0, .int 4], [.int 0]) (G, I, F) _ _
  refine vm_J.go vm_q126 (k := 1) (hs := []) (f' := (bif vm_ic .eq 0 0 then 58 else 45, (0, 0), [.ref 0, .int 4], [])) (h' := (G, I, F)) (hs' := []) rfl rfl ?_
  refine vm_J.bT (by decide) ?_
  refine vm_J.go vm_q126 (k := 1) (hs := []) (f' := (60, (0, 0), [.ref 0, .int 4], [.int (-12)])) (h' := (G, I, F)) (hs' := []) rfl rfl ?_
  exact vm_J.end vm_q126 (en := (60, .ireturn, 1, [], .null)) rfl rfl vm_rI (Nat.zero_le _) (Nat.zero_le _) rfl
set_option maxHeartbeats 4000000 in
set_option maxRecDepth 20000 in
/-- DitherDesk.taken -/
theorem c_taken_1_0 {l : Launch} {X : vm_Cx} {G : List vm_Sh} {I : Nat → Nat → Int32} {F : Nat → Nat → UInt32}  (hD : vm_isD G) (hy : I (1 + 4) 0 = 1) : vm_K l X vm_M126 [.ref 0, .int 0] (G, I, F) (some (.int (1))) (G, I, F) := by
  refine vm_K.mk (by decide) (Nat.le_of_ble_eq_true rfl) ?_
  show vm_J _ _ _ (0, (0, 0), [.ref 0, .int 0], []) _ _ _
  refine vm_J.go vm_q126 (k := 3) (hs := []) (f' := (3, (0, 0), [.ref 0, .int 0], [.int 4, .int 0, .int 0])) (h' := (G, I, F)) (hs' := []) rfl rfl ?_
  refine vm_J.call vm_q126 (Z := vm_M151) (n := 3) (k := 1) (mi := 151) (pc := 3) (en := (3, .invokestatic 56, 3, [151, 420, 0], .null)) rfl trivial rfl rfl vm_z151 (av := [.int 0, .int 0, .int 4]) (rest := []) (m_isWithin_y (v := 0) (a := 0) (b := 4) (by decide)) rfl (Nat.le_of_ble_eq_true rfl) ⟨Nat.le_of_ble_eq_true rfl, Nat.le_of_ble_eq_true rfl⟩ ⟨Nat.le_of_ble_eq_true rfl, Nat.le_of_ble_eq_true rfl⟩ ?_
  show vm_J _ _ _ (6, (0, 0), [.ref 0, .int 0], [.int 1]) (G, I, F) _ _
  refine vm_J.go vm_q126 (k := 1) (hs := []) (f' := (bif vm_ic .ne 1 0 then 12 else 9, (0, 0), [.ref 0, .int 0], [])) (h' := (G, I, F)) (hs' := []) rfl rfl ?_
  refine vm_J.bT (by decide) ?_
  refine vm_J.go vm_q126 (k := 3) (hs := [(12, 9, [.ref 1, .ref 38, .ref 75, .ref 112, .ref 132, .ref 135, .ref 139, .int 0, .int 0]), (11, 7, [.ref (1 + 1), .ref (1 + 2), .ref (1 + 3), .ref (1 + 4), .ref (1 + 11), .ref (1 + 13), .ref (1 + 15)])]) (f' := (19, (0, 0), [.ref 0, .int 0], [.ref (1 + 4)])) (h' := (G, I, F)) (hs' := []) rfl (vm_b2 rfl (vm_b2 (vm_b2 (vm_hG hD.d) rfl) (vm_b2 (vm_b2 (vm_hG hD.w1.w) rfl) rfl))) ?_
  refine vm_J.call vm_q126 (Z := vm_M61) (n := 0) (k := 0) (mi := 61) (pc := 19) (en := (19, .invokevirtual 268, 3, [61, 887, 0], .null)) rfl trivial rfl rfl vm_z61 (av := [.ref (1 + 4)]) (rest := []) (m_isMade_y (o := 1 + 4) (a := 1 + 5) (b := 1 + 6) (c := 1 + 7) (d := 1 + 8) (e := 1 + 9) (f := 1 + 10) hD.w1.sh (by rw [hy]; decide)) ⟨_, _, rfl, rfl, _, 6, _, hD.w1.sh, rfl, rfl, rfl⟩ (Nat.le_of_ble_eq_true rfl) ⟨Nat.le_of_ble_eq_true rfl, Nat.le_of_ble_eq_true rfl⟩ ⟨Nat.le_of_ble_eq_true rfl, Nat.le_of_ble_eq_true rfl⟩ ?_
  show vm_J _ _ _ (22, (0, 0), [.ref 0, .int 0], [.int 1]) (G, I, F) _ _
  refine vm_J.go vm_q126 (k := 1) (hs := []) (f' := (bif vm_ic .ne 1 0 then 28 else 25, (0, 0), [.ref 0, .int 0], [])) (h' := (G, I, F)) (hs' := []) rfl rfl ?_
  refine vm_J.bT (by decide) ?_
  refine vm_J.go vm_q126 (k := 4) (hs := [(12, 9, [.ref 1, .ref 38, .ref 75, .ref 112, .ref 132, .ref 135, .ref 139, .int 0, .int 0]), (11, 7, [.ref (1 + 1), .ref (1 + 2), .ref (1 + 3), .ref (1 + 4), .ref (1 + 11), .ref (1 + 13), .ref (1 + 15)]), (8, 9, [.int 0, .int 0, .int 0, .ref (1 + 5), .ref (1 + 6), .ref (1 + 7), .ref (1 + 8), .ref (1 + 9), .ref (1 + 10)])]) (f' := (38, (0, 0), [.ref 0, .int 0], [.int (I (1 + 4) 0)])) (h' := (G, I, F)) (hs' := []) rfl (vm_b2 rfl (vm_b2 (vm_b2 (vm_hG hD.d) rfl) (vm_b2 (vm_b2 (vm_hG hD.w1.w) rfl) (vm_b2 (vm_b2 (vm_hG hD.w1.sh) rfl) rfl)))) ?_
  rw [(hy : I (1 + 4) 0 = 1)]
  refine vm_J.go vm_q126 (k := 1) (hs := []) (f' := (39, (0, 0), [.ref 0, .int 0], [.int 0, .int 1])) (h' := (G, I, F)) (hs' := []) rfl rfl ?_
  refine vm_J.call vm_q126 (Z := vm_M150) (n := 2) (k := 1) (mi := 150) (pc := 39) (en := (39, .invokestatic 313, 3, [150, 940, 0], .null)) rfl trivial rfl rfl vm_z150 (av := [.int 1, .int 0]) (rest := []) m_under_2_0 rfl (Nat.le_of_ble_eq_true rfl) ⟨Nat.le_of_ble_eq_true rfl, Nat.le_of_ble_eq_true rfl⟩ ⟨Nat.le_of_ble_eq_true rfl, Nat.le_of_ble_eq_true rfl⟩ ?_
  show vm_J _ _ _ (42, (0, 0), [.ref 0, .int 0], [.int 1]) (G, I, F) _ _
  refine vm_J.go vm_q126 (k := 1) (hs := []) (f' := (bif vm_ic .eq 1 0 then 58 else 45, (0, 0), [.ref 0, .int 0], [])) (h' := (G, I, F)) (hs' := []) rfl rfl ?_
  refine vm_J.bF (by decide) ?_
  refine vm_J.go vm_q126 (k := 4) (hs := [(12, 9, [.ref 1, .ref 38, .ref 75, .ref 112, .ref 132, .ref 135, .ref 139, .int 0, .int 0]), (11, 7, [.ref (1 + 1), .ref (1 + 2), .ref (1 + 3), .ref (1 + 4), .ref (1 + 11), .ref (1 + 13), .ref (1 + 15)]), (8, 9, [.int 0, .int 0, .int 0, .ref (1 + 5), .ref (1 + 6), .ref (1 + 7), .ref (1 + 8), .ref (1 + 9), .ref (1 + 10)])]) (f' := (55, (0, 0), [.ref 0, .int 0], [.int (I (1 + 4) 0)])) (h' := (G, I, F)) (hs' := []) rfl (vm_b2 rfl (vm_b2 (vm_b2 (vm_hG hD.d) rfl) (vm_b2 (vm_b2 (vm_hG hD.w1.w) rfl) (vm_b2 (vm_b2 (vm_hG hD.w1.sh) rfl) rfl)))) ?_
  rw [(hy : I (1 + 4) 0 = 1)]
  refine vm_J.go vm_q126 (k := 1) (hs := []) (f' := (60, (0, 0), [.ref 0, .int 0], [.int 1])) (h' := (G, I, F)) (hs' := []) rfl rfl ?_
  exact vm_J.end vm_q126 (en := (60, .ireturn, 1, [], .null)) rfl rfl vm_rI (Nat.zero_le _) (Nat.zero_le _) rfl
set_option maxHeartbeats 4000000 in
set_option maxRecDepth 20000 in
/-- DitherDesk.taken -/
theorem c_taken_1_1 {l : Launch} {X : vm_Cx} {G : List vm_Sh} {I : Nat → Nat → Int32} {F : Nat → Nat → UInt32}  (hD : vm_isD G) (hy : I (1 + 4) 0 = 1) : vm_K l X vm_M126 [.ref 0, .int 1] (G, I, F) (some (.int (1))) (G, I, F) := by
  refine vm_K.mk (by decide) (Nat.le_of_ble_eq_true rfl) ?_
  show vm_J _ _ _ (0, (0, 0), [.ref 0, .int 1], []) _ _ _
  refine vm_J.go vm_q126 (k := 3) (hs := []) (f' := (3, (0, 0), [.ref 0, .int 1], [.int 4, .int 0, .int 1])) (h' := (G, I, F)) (hs' := []) rfl rfl ?_
  refine vm_J.call vm_q126 (Z := vm_M151) (n := 3) (k := 1) (mi := 151) (pc := 3) (en := (3, .invokestatic 56, 3, [151, 420, 0], .null)) rfl trivial rfl rfl vm_z151 (av := [.int 1, .int 0, .int 4]) (rest := []) (m_isWithin_y (v := 1) (a := 0) (b := 4) (by decide)) rfl (Nat.le_of_ble_eq_true rfl) ⟨Nat.le_of_ble_eq_true rfl, Nat.le_of_ble_eq_true rfl⟩ ⟨Nat.le_of_ble_eq_true rfl, Nat.le_of_ble_eq_true rfl⟩ ?_
  show vm_J _ _ _ (6, (0, 0), [.ref 0, .int 1], [.int 1]) (G, I, F) _ _
  refine vm_J.go vm_q126 (k := 1) (hs := []) (f' := (bif vm_ic .ne 1 0 then 12 else 9, (0, 0), [.ref 0, .int 1], [])) (h' := (G, I, F)) (hs' := []) rfl rfl ?_
  refine vm_J.bT (by decide) ?_
  refine vm_J.go vm_q126 (k := 3) (hs := [(12, 9, [.ref 1, .ref 38, .ref 75, .ref 112, .ref 132, .ref 135, .ref 139, .int 0, .int 0]), (11, 7, [.ref (1 + 1), .ref (1 + 2), .ref (1 + 3), .ref (1 + 4), .ref (1 + 11), .ref (1 + 13), .ref (1 + 15)])]) (f' := (19, (0, 0), [.ref 0, .int 1], [.ref (1 + 4)])) (h' := (G, I, F)) (hs' := []) rfl (vm_b2 rfl (vm_b2 (vm_b2 (vm_hG hD.d) rfl) (vm_b2 (vm_b2 (vm_hG hD.w1.w) rfl) rfl))) ?_
  refine vm_J.call vm_q126 (Z := vm_M61) (n := 0) (k := 0) (mi := 61) (pc := 19) (en := (19, .invokevirtual 268, 3, [61, 887, 0], .null)) rfl trivial rfl rfl vm_z61 (av := [.ref (1 + 4)]) (rest := []) (m_isMade_y (o := 1 + 4) (a := 1 + 5) (b := 1 + 6) (c := 1 + 7) (d := 1 + 8) (e := 1 + 9) (f := 1 + 10) hD.w1.sh (by rw [hy]; decide)) ⟨_, _, rfl, rfl, _, 6, _, hD.w1.sh, rfl, rfl, rfl⟩ (Nat.le_of_ble_eq_true rfl) ⟨Nat.le_of_ble_eq_true rfl, Nat.le_of_ble_eq_true rfl⟩ ⟨Nat.le_of_ble_eq_true rfl, Nat.le_of_ble_eq_true rfl⟩ ?_
  show vm_J _ _ _ (22, (0, 0), [.ref 0, .int 1], [.int 1]) (G, I, F) _ _
  refine vm_J.go vm_q126 (k := 1) (hs := []) (f' := (bif vm_ic .ne 1 0 then 28 else 25, (0, 0), [.ref 0, .int 1], [])) (h' := (G, I, F)) (hs' := []) rfl rfl ?_
  refine vm_J.bT (by decide) ?_
  refine vm_J.go vm_q126 (k := 4) (hs := [(12, 9, [.ref 1, .ref 38, .ref 75, .ref 112, .ref 132, .ref 135, .ref 139, .int 0, .int 0]), (11, 7, [.ref (1 + 1), .ref (1 + 2), .ref (1 + 3), .ref (1 + 4), .ref (1 + 11), .ref (1 + 13), .ref (1 + 15)]), (8, 9, [.int 0, .int 0, .int 0, .ref (1 + 5), .ref (1 + 6), .ref (1 + 7), .ref (1 + 8), .ref (1 + 9), .ref (1 + 10)])]) (f' := (38, (0, 0), [.ref 0, .int 1], [.int (I (1 + 4) 0)])) (h' := (G, I, F)) (hs' := []) rfl (vm_b2 rfl (vm_b2 (vm_b2 (vm_hG hD.d) rfl) (vm_b2 (vm_b2 (vm_hG hD.w1.w) rfl) (vm_b2 (vm_b2 (vm_hG hD.w1.sh) rfl) rfl)))) ?_
  rw [(hy : I (1 + 4) 0 = 1)]
  refine vm_J.go vm_q126 (k := 1) (hs := []) (f' := (39, (0, 0), [.ref 0, .int 1], [.int 1, .int 1])) (h' := (G, I, F)) (hs' := []) rfl rfl ?_
  refine vm_J.call vm_q126 (Z := vm_M150) (n := 2) (k := 1) (mi := 150) (pc := 39) (en := (39, .invokestatic 313, 3, [150, 940, 0], .null)) rfl trivial rfl rfl vm_z150 (av := [.int 1, .int 1]) (rest := []) m_under_2_1 rfl (Nat.le_of_ble_eq_true rfl) ⟨Nat.le_of_ble_eq_true rfl, Nat.le_of_ble_eq_true rfl⟩ ⟨Nat.le_of_ble_eq_true rfl, Nat.le_of_ble_eq_true rfl⟩ ?_
  show vm_J _ _ _ (42, (0, 0), [.ref 0, .int 1], [.int 1]) (G, I, F) _ _
  refine vm_J.go vm_q126 (k := 1) (hs := []) (f' := (bif vm_ic .eq 1 0 then 58 else 45, (0, 0), [.ref 0, .int 1], [])) (h' := (G, I, F)) (hs' := []) rfl rfl ?_
  refine vm_J.bF (by decide) ?_
  refine vm_J.go vm_q126 (k := 4) (hs := [(12, 9, [.ref 1, .ref 38, .ref 75, .ref 112, .ref 132, .ref 135, .ref 139, .int 0, .int 0]), (11, 7, [.ref (1 + 1), .ref (1 + 2), .ref (1 + 3), .ref (1 + 4), .ref (1 + 11), .ref (1 + 13), .ref (1 + 15)]), (8, 9, [.int 0, .int 0, .int 0, .ref (1 + 5), .ref (1 + 6), .ref (1 + 7), .ref (1 + 8), .ref (1 + 9), .ref (1 + 10)])]) (f' := (55, (0, 0), [.ref 0, .int 1], [.int (I (1 + 4) 0)])) (h' := (G, I, F)) (hs' := []) rfl (vm_b2 rfl (vm_b2 (vm_b2 (vm_hG hD.d) rfl) (vm_b2 (vm_b2 (vm_hG hD.w1.w) rfl) (vm_b2 (vm_b2 (vm_hG hD.w1.sh) rfl) rfl)))) ?_
  rw [(hy : I (1 + 4) 0 = 1)]
  refine vm_J.go vm_q126 (k := 1) (hs := []) (f' := (60, (0, 0), [.ref 0, .int 1], [.int 1])) (h' := (G, I, F)) (hs' := []) rfl rfl ?_
  exact vm_J.end vm_q126 (en := (60, .ireturn, 1, [], .null)) rfl rfl vm_rI (Nat.zero_le _) (Nat.zero_le _) rfl
set_option maxHeartbeats 4000000 in
set_option maxRecDepth 20000 in
/-- DitherDesk.taken -/
theorem c_taken_1_2 {l : Launch} {X : vm_Cx} {G : List vm_Sh} {I : Nat → Nat → Int32} {F : Nat → Nat → UInt32}  (hD : vm_isD G) (hy : I (1 + 4) 0 = 1) : vm_K l X vm_M126 [.ref 0, .int 2] (G, I, F) (some (.int (-12))) (G, I, F) := by
  refine vm_K.mk (by decide) (Nat.le_of_ble_eq_true rfl) ?_
  show vm_J _ _ _ (0, (0, 0), [.ref 0, .int 2], []) _ _ _
  refine vm_J.go vm_q126 (k := 3) (hs := []) (f' := (3, (0, 0), [.ref 0, .int 2], [.int 4, .int 0, .int 2])) (h' := (G, I, F)) (hs' := []) rfl rfl ?_
  refine vm_J.call vm_q126 (Z := vm_M151) (n := 3) (k := 1) (mi := 151) (pc := 3) (en := (3, .invokestatic 56, 3, [151, 420, 0], .null)) rfl trivial rfl rfl vm_z151 (av := [.int 2, .int 0, .int 4]) (rest := []) (m_isWithin_y (v := 2) (a := 0) (b := 4) (by decide)) rfl (Nat.le_of_ble_eq_true rfl) ⟨Nat.le_of_ble_eq_true rfl, Nat.le_of_ble_eq_true rfl⟩ ⟨Nat.le_of_ble_eq_true rfl, Nat.le_of_ble_eq_true rfl⟩ ?_
  show vm_J _ _ _ (6, (0, 0), [.ref 0, .int 2], [.int 1]) (G, I, F) _ _
  refine vm_J.go vm_q126 (k := 1) (hs := []) (f' := (bif vm_ic .ne 1 0 then 12 else 9, (0, 0), [.ref 0, .int 2], [])) (h' := (G, I, F)) (hs' := []) rfl rfl ?_
  refine vm_J.bT (by decide) ?_
  refine vm_J.go vm_q126 (k := 3) (hs := [(12, 9, [.ref 1, .ref 38, .ref 75, .ref 112, .ref 132, .ref 135, .ref 139, .int 0, .int 0]), (11, 7, [.ref (1 + 1), .ref (1 + 2), .ref (1 + 3), .ref (1 + 4), .ref (1 + 11), .ref (1 + 13), .ref (1 + 15)])]) (f' := (19, (0, 0), [.ref 0, .int 2], [.ref (1 + 4)])) (h' := (G, I, F)) (hs' := []) rfl (vm_b2 rfl (vm_b2 (vm_b2 (vm_hG hD.d) rfl) (vm_b2 (vm_b2 (vm_hG hD.w1.w) rfl) rfl))) ?_
  refine vm_J.call vm_q126 (Z := vm_M61) (n := 0) (k := 0) (mi := 61) (pc := 19) (en := (19, .invokevirtual 268, 3, [61, 887, 0], .null)) rfl trivial rfl rfl vm_z61 (av := [.ref (1 + 4)]) (rest := []) (m_isMade_y (o := 1 + 4) (a := 1 + 5) (b := 1 + 6) (c := 1 + 7) (d := 1 + 8) (e := 1 + 9) (f := 1 + 10) hD.w1.sh (by rw [hy]; decide)) ⟨_, _, rfl, rfl, _, 6, _, hD.w1.sh, rfl, rfl, rfl⟩ (Nat.le_of_ble_eq_true rfl) ⟨Nat.le_of_ble_eq_true rfl, Nat.le_of_ble_eq_true rfl⟩ ⟨Nat.le_of_ble_eq_true rfl, Nat.le_of_ble_eq_true rfl⟩ ?_
  show vm_J _ _ _ (22, (0, 0), [.ref 0, .int 2], [.int 1]) (G, I, F) _ _
  refine vm_J.go vm_q126 (k := 1) (hs := []) (f' := (bif vm_ic .ne 1 0 then 28 else 25, (0, 0), [.ref 0, .int 2], [])) (h' := (G, I, F)) (hs' := []) rfl rfl ?_
  refine vm_J.bT (by decide) ?_
  refine vm_J.go vm_q126 (k := 4) (hs := [(12, 9, [.ref 1, .ref 38, .ref 75, .ref 112, .ref 132, .ref 135, .ref 139, .int 0, .int 0]), (11, 7, [.ref (1 + 1), .ref (1 + 2), .ref (1 + 3), .ref (1 + 4), .ref (1 + 11), .ref (1 + 13), .ref (1 + 15)]), (8, 9, [.int 0, .int 0, .int 0, .ref (1 + 5), .ref (1 + 6), .ref (1 + 7), .ref (1 + 8), .ref (1 + 9), .ref (1 + 10)])]) (f' := (38, (0, 0), [.ref 0, .int 2], [.int (I (1 + 4) 0)])) (h' := (G, I, F)) (hs' := []) rfl (vm_b2 rfl (vm_b2 (vm_b2 (vm_hG hD.d) rfl) (vm_b2 (vm_b2 (vm_hG hD.w1.w) rfl) (vm_b2 (vm_b2 (vm_hG hD.w1.sh) rfl) rfl)))) ?_
  rw [(hy : I (1 + 4) 0 = 1)]
  refine vm_J.go vm_q126 (k := 1) (hs := []) (f' := (39, (0, 0), [.ref 0, .int 2], [.int 2, .int 1])) (h' := (G, I, F)) (hs' := []) rfl rfl ?_
  refine vm_J.call vm_q126 (Z := vm_M150) (n := 2) (k := 1) (mi := 150) (pc := 39) (en := (39, .invokestatic 313, 3, [150, 940, 0], .null)) rfl trivial rfl rfl vm_z150 (av := [.int 1, .int 2]) (rest := []) m_under_2_2 rfl (Nat.le_of_ble_eq_true rfl) ⟨Nat.le_of_ble_eq_true rfl, Nat.le_of_ble_eq_true rfl⟩ ⟨Nat.le_of_ble_eq_true rfl, Nat.le_of_ble_eq_true rfl⟩ ?_
  show vm_J _ _ _ (42, (0, 0), [.ref 0, .int 2], [.int 0]) (G, I, F) _ _
  refine vm_J.go vm_q126 (k := 1) (hs := []) (f' := (bif vm_ic .eq 0 0 then 58 else 45, (0, 0), [.ref 0, .int 2], [])) (h' := (G, I, F)) (hs' := []) rfl rfl ?_
  refine vm_J.bT (by decide) ?_
  refine vm_J.go vm_q126 (k := 1) (hs := []) (f' := (60, (0, 0), [.ref 0, .int 2], [.int (-12)])) (h' := (G, I, F)) (hs' := []) rfl rfl ?_
  exact vm_J.end vm_q126 (en := (60, .ireturn, 1, [], .null)) rfl rfl vm_rI (Nat.zero_le _) (Nat.zero_le _) rfl
set_option maxHeartbeats 4000000 in
set_option maxRecDepth 20000 in
/-- DitherDesk.taken -/
theorem c_taken_1_3 {l : Launch} {X : vm_Cx} {G : List vm_Sh} {I : Nat → Nat → Int32} {F : Nat → Nat → UInt32}  (hD : vm_isD G) (hy : I (1 + 4) 0 = 1) : vm_K l X vm_M126 [.ref 0, .int 3] (G, I, F) (some (.int (-12))) (G, I, F) := by
  refine vm_K.mk (by decide) (Nat.le_of_ble_eq_true rfl) ?_
  show vm_J _ _ _ (0, (0, 0), [.ref 0, .int 3], []) _ _ _
  refine vm_J.go vm_q126 (k := 3) (hs := []) (f' := (3, (0, 0), [.ref 0, .int 3], [.int 4, .int 0, .int 3])) (h' := (G, I, F)) (hs' := []) rfl rfl ?_
  refine vm_J.call vm_q126 (Z := vm_M151) (n := 3) (k := 1) (mi := 151) (pc := 3) (en := (3, .invokestatic 56, 3, [151, 420, 0], .null)) rfl trivial rfl rfl vm_z151 (av := [.int 3, .int 0, .int 4]) (rest := []) (m_isWithin_y (v := 3) (a := 0) (b := 4) (by decide)) rfl (Nat.le_of_ble_eq_true rfl) ⟨Nat.le_of_ble_eq_true rfl, Nat.le_of_ble_eq_true rfl⟩ ⟨Nat.le_of_ble_eq_true rfl, Nat.le_of_ble_eq_true rfl⟩ ?_
  show vm_J _ _ _ (6, (0, 0), [.ref 0, .int 3], [.int 1]) (G, I, F) _ _
  refine vm_J.go vm_q126 (k := 1) (hs := []) (f' := (bif vm_ic .ne 1 0 then 12 else 9, (0, 0), [.ref 0, .int 3], [])) (h' := (G, I, F)) (hs' := []) rfl rfl ?_
  refine vm_J.bT (by decide) ?_
  refine vm_J.go vm_q126 (k := 3) (hs := [(12, 9, [.ref 1, .ref 38, .ref 75, .ref 112, .ref 132, .ref 135, .ref 139, .int 0, .int 0]), (11, 7, [.ref (1 + 1), .ref (1 + 2), .ref (1 + 3), .ref (1 + 4), .ref (1 + 11), .ref (1 + 13), .ref (1 + 15)])]) (f' := (19, (0, 0), [.ref 0, .int 3], [.ref (1 + 4)])) (h' := (G, I, F)) (hs' := []) rfl (vm_b2 rfl (vm_b2 (vm_b2 (vm_hG hD.d) rfl) (vm_b2 (vm_b2 (vm_hG hD.w1.w) rfl) rfl))) ?_
  refine vm_J.call vm_q126 (Z := vm_M61) (n := 0) (k := 0) (mi := 61) (pc := 19) (en := (19, .invokevirtual 268, 3, [61, 887, 0], .null)) rfl trivial rfl rfl vm_z61 (av := [.ref (1 + 4)]) (rest := []) (m_isMade_y (o := 1 + 4) (a := 1 + 5) (b := 1 + 6) (c := 1 + 7) (d := 1 + 8) (e := 1 + 9) (f := 1 + 10) hD.w1.sh (by rw [hy]; decide)) ⟨_, _, rfl, rfl, _, 6, _, hD.w1.sh, rfl, rfl, rfl⟩ (Nat.le_of_ble_eq_true rfl) ⟨Nat.le_of_ble_eq_true rfl, Nat.le_of_ble_eq_true rfl⟩ ⟨Nat.le_of_ble_eq_true rfl, Nat.le_of_ble_eq_true rfl⟩ ?_
  show vm_J _ _ _ (22, (0, 0), [.ref 0, .int 3], [.int 1]) (G, I, F) _ _
  refine vm_J.go vm_q126 (k := 1) (hs := []) (f' := (bif vm_ic .ne 1 0 then 28 else 25, (0, 0), [.ref 0, .int 3], [])) (h' := (G, I, F)) (hs' := []) rfl rfl ?_
  refine vm_J.bT (by decide) ?_
  refine vm_J.go vm_q126 (k := 4) (hs := [(12, 9, [.ref 1, .ref 38, .ref 75, .ref 112, .ref 132, .ref 135, .ref 139, .int 0, .int 0]), (11, 7, [.ref (1 + 1), .ref (1 + 2), .ref (1 + 3), .ref (1 + 4), .ref (1 + 11), .ref (1 + 13), .ref (1 + 15)]), (8, 9, [.int 0, .int 0, .int 0, .ref (1 + 5), .ref (1 + 6), .ref (1 + 7), .ref (1 + 8), .ref (1 + 9), .ref (1 + 10)])]) (f' := (38, (0, 0), [.ref 0, .int 3], [.int (I (1 + 4) 0)])) (h' := (G, I, F)) (hs' := []) rfl (vm_b2 rfl (vm_b2 (vm_b2 (vm_hG hD.d) rfl) (vm_b2 (vm_b2 (vm_hG hD.w1.w) rfl) (vm_b2 (vm_b2 (vm_hG hD.w1.sh) rfl) rfl)))) ?_
  rw [(hy : I (1 + 4) 0 = 1)]
  refine vm_J.go vm_q126 (k := 1) (hs := []) (f' := (39, (0, 0), [.ref 0, .int 3], [.int 3, .int 1])) (h' := (G, I, F)) (hs' := []) rfl rfl ?_
  refine vm_J.call vm_q126 (Z := vm_M150) (n := 2) (k := 1) (mi := 150) (pc := 39) (en := (39, .invokestatic 313, 3, [150, 940, 0], .null)) rfl trivial rfl rfl vm_z150 (av := [.int 1, .int 3]) (rest := []) m_under_2_3 rfl (Nat.le_of_ble_eq_true rfl) ⟨Nat.le_of_ble_eq_true rfl, Nat.le_of_ble_eq_true rfl⟩ ⟨Nat.le_of_ble_eq_true rfl, Nat.le_of_ble_eq_true rfl⟩ ?_
  show vm_J _ _ _ (42, (0, 0), [.ref 0, .int 3], [.int 0]) (G, I, F) _ _
  refine vm_J.go vm_q126 (k := 1) (hs := []) (f' := (bif vm_ic .eq 0 0 then 58 else 45, (0, 0), [.ref 0, .int 3], [])) (h' := (G, I, F)) (hs' := []) rfl rfl ?_
  refine vm_J.bT (by decide) ?_
  refine vm_J.go vm_q126 (k := 1) (hs := []) (f' := (60, (0, 0), [.ref 0, .int 3], [.int (-12)])) (h' := (G, I, F)) (hs' := []) rfl rfl ?_
  exact vm_J.end vm_q126 (en := (60, .ireturn, 1, [], .null)) rfl rfl vm_rI (Nat.zero_le _) (Nat.zero_le _) rfl
set_option maxHeartbeats 4000000 in
set_option maxRecDepth 20000 in
/-- DitherDesk.taken -/
theorem c_taken_1_4 {l : Launch} {X : vm_Cx} {G : List vm_Sh} {I : Nat → Nat → Int32} {F : Nat → Nat → UInt32}  (hD : vm_isD G) (hy : I (1 + 4) 0 = 1) : vm_K l X vm_M126 [.ref 0, .int 4] (G, I, F) (some (.int (-12))) (G, I, F) := by
  refine vm_K.mk (by decide) (Nat.le_of_ble_eq_true rfl) ?_
  show vm_J _ _ _ (0, (0, 0), [.ref 0, .int 4], []) _ _ _
  refine vm_J.go vm_q126 (k := 3) (hs := []) (f' := (3, (0, 0), [.ref 0, .int 4], [.int 4, .int 0, .int 4])) (h' := (G, I, F)) (hs' := []) rfl rfl ?_
  refine vm_J.call vm_q126 (Z := vm_M151) (n := 3) (k := 1) (mi := 151) (pc := 3) (en := (3, .invokestatic 56, 3, [151, 420, 0], .null)) rfl trivial rfl rfl vm_z151 (av := [.int 4, .int 0, .int 4]) (rest := []) (m_isWithin_y (v := 4) (a := 0) (b := 4) (by decide)) rfl (Nat.le_of_ble_eq_true rfl) ⟨Nat.le_of_ble_eq_true rfl, Nat.le_of_ble_eq_true rfl⟩ ⟨Nat.le_of_ble_eq_true rfl, Nat.le_of_ble_eq_true rfl⟩ ?_
  show vm_J _ _ _ (6, (0, 0), [.ref 0, .int 4], [.int 1]) (G, I, F) _ _
  refine vm_J.go vm_q126 (k := 1) (hs := []) (f' := (bif vm_ic .ne 1 0 then 12 else 9, (0, 0), [.ref 0, .int 4], [])) (h' := (G, I, F)) (hs' := []) rfl rfl ?_
  refine vm_J.bT (by decide) ?_
  refine vm_J.go vm_q126 (k := 3) (hs := [(12, 9, [.ref 1, .ref 38, .ref 75, .ref 112, .ref 132, .ref 135, .ref 139, .int 0, .int 0]), (11, 7, [.ref (1 + 1), .ref (1 + 2), .ref (1 + 3), .ref (1 + 4), .ref (1 + 11), .ref (1 + 13), .ref (1 + 15)])]) (f' := (19, (0, 0), [.ref 0, .int 4], [.ref (1 + 4)])) (h' := (G, I, F)) (hs' := []) rfl (vm_b2 rfl (vm_b2 (vm_b2 (vm_hG hD.d) rfl) (vm_b2 (vm_b2 (vm_hG hD.w1.w) rfl) rfl))) ?_
  refine vm_J.call vm_q126 (Z := vm_M61) (n := 0) (k := 0) (mi := 61) (pc := 19) (en := (19, .invokevirtual 268, 3, [61, 887, 0], .null)) rfl trivial rfl rfl vm_z61 (av := [.ref (1 + 4)]) (rest := []) (m_isMade_y (o := 1 + 4) (a := 1 + 5) (b := 1 + 6) (c := 1 + 7) (d := 1 + 8) (e := 1 + 9) (f := 1 + 10) hD.w1.sh (by rw [hy]; decide)) ⟨_, _, rfl, rfl, _, 6, _, hD.w1.sh, rfl, rfl, rfl⟩ (Nat.le_of_ble_eq_true rfl) ⟨Nat.le_of_ble_eq_true rfl, Nat.le_of_ble_eq_true rfl⟩ ⟨Nat.le_of_ble_eq_true rfl, Nat.le_of_ble_eq_true rfl⟩ ?_
  show vm_J _ _ _ (22, (0, 0), [.ref 0, .int 4], [.int 1]) (G, I, F) _ _
  refine vm_J.go vm_q126 (k := 1) (hs := []) (f' := (bif vm_ic .ne 1 0 then 28 else 25, (0, 0), [.ref 0, .int 4], [])) (h' := (G, I, F)) (hs' := []) rfl rfl ?_
  refine vm_J.bT (by decide) ?_
  refine vm_J.go vm_q126 (k := 4) (hs := [(12, 9, [.ref 1, .ref 38, .ref 75, .ref 112, .ref 132, .ref 135, .ref 139, .int 0, .int 0]), (11, 7, [.ref (1 + 1), .ref (1 + 2), .ref (1 + 3), .ref (1 + 4), .ref (1 + 11), .ref (1 + 13), .ref (1 + 15)]), (8, 9, [.int 0, .int 0, .int 0, .ref (1 + 5), .ref (1 + 6), .ref (1 + 7), .ref (1 + 8), .ref (1 + 9), .ref (1 + 10)])]) (f' := (38, (0, 0), [.ref 0, .int 4], [.int (I (1 + 4) 0)])) (h' := (G, I, F)) (hs' := []) rfl (vm_b2 rfl (vm_b2 (vm_b2 (vm_hG hD.d) rfl) (vm_b2 (vm_b2 (vm_hG hD.w1.w) rfl) (vm_b2 (vm_b2 (vm_hG hD.w1.sh) rfl) rfl)))) ?_
  rw [(hy : I (1 + 4) 0 = 1)]
  refine vm_J.go vm_q126 (k := 1) (hs := []) (f' := (39, (0, 0), [.ref 0, .int 4], [.int 4, .int 1])) (h' := (G, I, F)) (hs' := []) rfl rfl ?_
  refine vm_J.call vm_q126 (Z := vm_M150) (n := 2) (k := 1) (mi := 150) (pc := 39) (en := (39, .invokestatic 313, 3, [150, 940, 0], .null)) rfl trivial rfl rfl vm_z150 (av := [.int 1, .int 4]) (rest := []) m_under_2_4 rfl (Nat.le_of_ble_eq_true rfl) ⟨Nat.le_of_ble_eq_true rfl, Nat.le_of_ble_eq_true rfl⟩ ⟨Nat.le_of_ble_eq_true rfl, Nat.le_of_ble_eq_true rfl⟩ ?_
  show vm_J _ _ _ (42, (0, 0), [.ref 0, .int 4], [.int 0]) (G, I, F) _ _
  refine vm_J.go vm_q126 (k := 1) (hs := []) (f' := (bif vm_ic .eq 0 0 then 58 else 45, (0, 0), [.ref 0, .int 4], [])) (h' := (G, I, F)) (hs' := []) rfl rfl ?_
  refine vm_J.bT (by decide) ?_
  refine vm_J.go vm_q126 (k := 1) (hs := []) (f' := (60, (0, 0), [.ref 0, .int 4], [.int (-12)])) (h' := (G, I, F)) (hs' := []) rfl rfl ?_
  exact vm_J.end vm_q126 (en := (60, .ireturn, 1, [], .null)) rfl rfl vm_rI (Nat.zero_le _) (Nat.zero_le _) rfl
set_option maxHeartbeats 4000000 in
set_option maxRecDepth 20000 in
/-- DitherDesk.taken -/
theorem c_taken_2_0 {l : Launch} {X : vm_Cx} {G : List vm_Sh} {I : Nat → Nat → Int32} {F : Nat → Nat → UInt32}  (hD : vm_isD G) (hy : I (1 + 4) 0 = 2) : vm_K l X vm_M126 [.ref 0, .int 0] (G, I, F) (some (.int (2))) (G, I, F) := by
  refine vm_K.mk (by decide) (Nat.le_of_ble_eq_true rfl) ?_
  show vm_J _ _ _ (0, (0, 0), [.ref 0, .int 0], []) _ _ _
  refine vm_J.go vm_q126 (k := 3) (hs := []) (f' := (3, (0, 0), [.ref 0, .int 0], [.int 4, .int 0, .int 0])) (h' := (G, I, F)) (hs' := []) rfl rfl ?_
  refine vm_J.call vm_q126 (Z := vm_M151) (n := 3) (k := 1) (mi := 151) (pc := 3) (en := (3, .invokestatic 56, 3, [151, 420, 0], .null)) rfl trivial rfl rfl vm_z151 (av := [.int 0, .int 0, .int 4]) (rest := []) (m_isWithin_y (v := 0) (a := 0) (b := 4) (by decide)) rfl (Nat.le_of_ble_eq_true rfl) ⟨Nat.le_of_ble_eq_true rfl, Nat.le_of_ble_eq_true rfl⟩ ⟨Nat.le_of_ble_eq_true rfl, Nat.le_of_ble_eq_true rfl⟩ ?_
  show vm_J _ _ _ (6, (0, 0), [.ref 0, .int 0], [.int 1]) (G, I, F) _ _
  refine vm_J.go vm_q126 (k := 1) (hs := []) (f' := (bif vm_ic .ne 1 0 then 12 else 9, (0, 0), [.ref 0, .int 0], [])) (h' := (G, I, F)) (hs' := []) rfl rfl ?_
  refine vm_J.bT (by decide) ?_
  refine vm_J.go vm_q126 (k := 3) (hs := [(12, 9, [.ref 1, .ref 38, .ref 75, .ref 112, .ref 132, .ref 135, .ref 139, .int 0, .int 0]), (11, 7, [.ref (1 + 1), .ref (1 + 2), .ref (1 + 3), .ref (1 + 4), .ref (1 + 11), .ref (1 + 13), .ref (1 + 15)])]) (f' := (19, (0, 0), [.ref 0, .int 0], [.ref (1 + 4)])) (h' := (G, I, F)) (hs' := []) rfl (vm_b2 rfl (vm_b2 (vm_b2 (vm_hG hD.d) rfl) (vm_b2 (vm_b2 (vm_hG hD.w1.w) rfl) rfl))) ?_
  refine vm_J.call vm_q126 (Z := vm_M61) (n := 0) (k := 0) (mi := 61) (pc := 19) (en := (19, .invokevirtual 268, 3, [61, 887, 0], .null)) rfl trivial rfl rfl vm_z61 (av := [.ref (1 + 4)]) (rest := []) (m_isMade_y (o := 1 + 4) (a := 1 + 5) (b := 1 + 6) (c := 1 + 7) (d := 1 + 8) (e := 1 + 9) (f := 1 + 10) hD.w1.sh (by rw [hy]; decide)) ⟨_, _, rfl, rfl, _, 6, _, hD.w1.sh, rfl, rfl, rfl⟩ (Nat.le_of_ble_eq_true rfl) ⟨Nat.le_of_ble_eq_true rfl, Nat.le_of_ble_eq_true rfl⟩ ⟨Nat.le_of_ble_eq_true rfl, Nat.le_of_ble_eq_true rfl⟩ ?_
  show vm_J _ _ _ (22, (0, 0), [.ref 0, .int 0], [.int 1]) (G, I, F) _ _
  refine vm_J.go vm_q126 (k := 1) (hs := []) (f' := (bif vm_ic .ne 1 0 then 28 else 25, (0, 0), [.ref 0, .int 0], [])) (h' := (G, I, F)) (hs' := []) rfl rfl ?_
  refine vm_J.bT (by decide) ?_
  refine vm_J.go vm_q126 (k := 4) (hs := [(12, 9, [.ref 1, .ref 38, .ref 75, .ref 112, .ref 132, .ref 135, .ref 139, .int 0, .int 0]), (11, 7, [.ref (1 + 1), .ref (1 + 2), .ref (1 + 3), .ref (1 + 4), .ref (1 + 11), .ref (1 + 13), .ref (1 + 15)]), (8, 9, [.int 0, .int 0, .int 0, .ref (1 + 5), .ref (1 + 6), .ref (1 + 7), .ref (1 + 8), .ref (1 + 9), .ref (1 + 10)])]) (f' := (38, (0, 0), [.ref 0, .int 0], [.int (I (1 + 4) 0)])) (h' := (G, I, F)) (hs' := []) rfl (vm_b2 rfl (vm_b2 (vm_b2 (vm_hG hD.d) rfl) (vm_b2 (vm_b2 (vm_hG hD.w1.w) rfl) (vm_b2 (vm_b2 (vm_hG hD.w1.sh) rfl) rfl)))) ?_
  rw [(hy : I (1 + 4) 0 = 2)]
  refine vm_J.go vm_q126 (k := 1) (hs := []) (f' := (39, (0, 0), [.ref 0, .int 0], [.int 0, .int 2])) (h' := (G, I, F)) (hs' := []) rfl rfl ?_
  refine vm_J.call vm_q126 (Z := vm_M150) (n := 2) (k := 1) (mi := 150) (pc := 39) (en := (39, .invokestatic 313, 3, [150, 940, 0], .null)) rfl trivial rfl rfl vm_z150 (av := [.int 2, .int 0]) (rest := []) m_under_3_0 rfl (Nat.le_of_ble_eq_true rfl) ⟨Nat.le_of_ble_eq_true rfl, Nat.le_of_ble_eq_true rfl⟩ ⟨Nat.le_of_ble_eq_true rfl, Nat.le_of_ble_eq_true rfl⟩ ?_
  show vm_J _ _ _ (42, (0, 0), [.ref 0, .int 0], [.int 1]) (G, I, F) _ _
  refine vm_J.go vm_q126 (k := 1) (hs := []) (f' := (bif vm_ic .eq 1 0 then 58 else 45, (0, 0), [.ref 0, .int 0], [])) (h' := (G, I, F)) (hs' := []) rfl rfl ?_
  refine vm_J.bF (by decide) ?_
  refine vm_J.go vm_q126 (k := 4) (hs := [(12, 9, [.ref 1, .ref 38, .ref 75, .ref 112, .ref 132, .ref 135, .ref 139, .int 0, .int 0]), (11, 7, [.ref (1 + 1), .ref (1 + 2), .ref (1 + 3), .ref (1 + 4), .ref (1 + 11), .ref (1 + 13), .ref (1 + 15)]), (8, 9, [.int 0, .int 0, .int 0, .ref (1 + 5), .ref (1 + 6), .ref (1 + 7), .ref (1 + 8), .ref (1 + 9), .ref (1 + 10)])]) (f' := (55, (0, 0), [.ref 0, .int 0], [.int (I (1 + 4) 0)])) (h' := (G, I, F)) (hs' := []) rfl (vm_b2 rfl (vm_b2 (vm_b2 (vm_hG hD.d) rfl) (vm_b2 (vm_b2 (vm_hG hD.w1.w) rfl) (vm_b2 (vm_b2 (vm_hG hD.w1.sh) rfl) rfl)))) ?_
  rw [(hy : I (1 + 4) 0 = 2)]
  refine vm_J.go vm_q126 (k := 1) (hs := []) (f' := (60, (0, 0), [.ref 0, .int 0], [.int 2])) (h' := (G, I, F)) (hs' := []) rfl rfl ?_
  exact vm_J.end vm_q126 (en := (60, .ireturn, 1, [], .null)) rfl rfl vm_rI (Nat.zero_le _) (Nat.zero_le _) rfl
set_option maxHeartbeats 4000000 in
set_option maxRecDepth 20000 in
/-- DitherDesk.taken -/
theorem c_taken_2_1 {l : Launch} {X : vm_Cx} {G : List vm_Sh} {I : Nat → Nat → Int32} {F : Nat → Nat → UInt32}  (hD : vm_isD G) (hy : I (1 + 4) 0 = 2) : vm_K l X vm_M126 [.ref 0, .int 1] (G, I, F) (some (.int (2))) (G, I, F) := by
  refine vm_K.mk (by decide) (Nat.le_of_ble_eq_true rfl) ?_
  show vm_J _ _ _ (0, (0, 0), [.ref 0, .int 1], []) _ _ _
  refine vm_J.go vm_q126 (k := 3) (hs := []) (f' := (3, (0, 0), [.ref 0, .int 1], [.int 4, .int 0, .int 1])) (h' := (G, I, F)) (hs' := []) rfl rfl ?_
  refine vm_J.call vm_q126 (Z := vm_M151) (n := 3) (k := 1) (mi := 151) (pc := 3) (en := (3, .invokestatic 56, 3, [151, 420, 0], .null)) rfl trivial rfl rfl vm_z151 (av := [.int 1, .int 0, .int 4]) (rest := []) (m_isWithin_y (v := 1) (a := 0) (b := 4) (by decide)) rfl (Nat.le_of_ble_eq_true rfl) ⟨Nat.le_of_ble_eq_true rfl, Nat.le_of_ble_eq_true rfl⟩ ⟨Nat.le_of_ble_eq_true rfl, Nat.le_of_ble_eq_true rfl⟩ ?_
  show vm_J _ _ _ (6, (0, 0), [.ref 0, .int 1], [.int 1]) (G, I, F) _ _
  refine vm_J.go vm_q126 (k := 1) (hs := []) (f' := (bif vm_ic .ne 1 0 then 12 else 9, (0, 0), [.ref 0, .int 1], [])) (h' := (G, I, F)) (hs' := []) rfl rfl ?_
  refine vm_J.bT (by decide) ?_
  refine vm_J.go vm_q126 (k := 3) (hs := [(12, 9, [.ref 1, .ref 38, .ref 75, .ref 112, .ref 132, .ref 135, .ref 139, .int 0, .int 0]), (11, 7, [.ref (1 + 1), .ref (1 + 2), .ref (1 + 3), .ref (1 + 4), .ref (1 + 11), .ref (1 + 13), .ref (1 + 15)])]) (f' := (19, (0, 0), [.ref 0, .int 1], [.ref (1 + 4)])) (h' := (G, I, F)) (hs' := []) rfl (vm_b2 rfl (vm_b2 (vm_b2 (vm_hG hD.d) rfl) (vm_b2 (vm_b2 (vm_hG hD.w1.w) rfl) rfl))) ?_
  refine vm_J.call vm_q126 (Z := vm_M61) (n := 0) (k := 0) (mi := 61) (pc := 19) (en := (19, .invokevirtual 268, 3, [61, 887, 0], .null)) rfl trivial rfl rfl vm_z61 (av := [.ref (1 + 4)]) (rest := []) (m_isMade_y (o := 1 + 4) (a := 1 + 5) (b := 1 + 6) (c := 1 + 7) (d := 1 + 8) (e := 1 + 9) (f := 1 + 10) hD.w1.sh (by rw [hy]; decide)) ⟨_, _, rfl, rfl, _, 6, _, hD.w1.sh, rfl, rfl, rfl⟩ (Nat.le_of_ble_eq_true rfl) ⟨Nat.le_of_ble_eq_true rfl, Nat.le_of_ble_eq_true rfl⟩ ⟨Nat.le_of_ble_eq_true rfl, Nat.le_of_ble_eq_true rfl⟩ ?_
  show vm_J _ _ _ (22, (0, 0), [.ref 0, .int 1], [.int 1]) (G, I, F) _ _
  refine vm_J.go vm_q126 (k := 1) (hs := []) (f' := (bif vm_ic .ne 1 0 then 28 else 25, (0, 0), [.ref 0, .int 1], [])) (h' := (G, I, F)) (hs' := []) rfl rfl ?_
  refine vm_J.bT (by decide) ?_
  refine vm_J.go vm_q126 (k := 4) (hs := [(12, 9, [.ref 1, .ref 38, .ref 75, .ref 112, .ref 132, .ref 135, .ref 139, .int 0, .int 0]), (11, 7, [.ref (1 + 1), .ref (1 + 2), .ref (1 + 3), .ref (1 + 4), .ref (1 + 11), .ref (1 + 13), .ref (1 + 15)]), (8, 9, [.int 0, .int 0, .int 0, .ref (1 + 5), .ref (1 + 6), .ref (1 + 7), .ref (1 + 8), .ref (1 + 9), .ref (1 + 10)])]) (f' := (38, (0, 0), [.ref 0, .int 1], [.int (I (1 + 4) 0)])) (h' := (G, I, F)) (hs' := []) rfl (vm_b2 rfl (vm_b2 (vm_b2 (vm_hG hD.d) rfl) (vm_b2 (vm_b2 (vm_hG hD.w1.w) rfl) (vm_b2 (vm_b2 (vm_hG hD.w1.sh) rfl) rfl)))) ?_
  rw [(hy : I (1 + 4) 0 = 2)]
  refine vm_J.go vm_q126 (k := 1) (hs := []) (f' := (39, (0, 0), [.ref 0, .int 1], [.int 1, .int 2])) (h' := (G, I, F)) (hs' := []) rfl rfl ?_
  refine vm_J.call vm_q126 (Z := vm_M150) (n := 2) (k := 1) (mi := 150) (pc := 39) (en := (39, .invokestatic 313, 3, [150, 940, 0], .null)) rfl trivial rfl rfl vm_z150 (av := [.int 2, .int 1]) (rest := []) m_under_3_1 rfl (Nat.le_of_ble_eq_true rfl) ⟨Nat.le_of_ble_eq_true rfl, Nat.le_of_ble_eq_true rfl⟩ ⟨Nat.le_of_ble_eq_true rfl, Nat.le_of_ble_eq_true rfl⟩ ?_
  show vm_J _ _ _ (42, (0, 0), [.ref 0, .int 1], [.int 1]) (G, I, F) _ _
  refine vm_J.go vm_q126 (k := 1) (hs := []) (f' := (bif vm_ic .eq 1 0 then 58 else 45, (0, 0), [.ref 0, .int 1], [])) (h' := (G, I, F)) (hs' := []) rfl rfl ?_
  refine vm_J.bF (by decide) ?_
  refine vm_J.go vm_q126 (k := 4) (hs := [(12, 9, [.ref 1, .ref 38, .ref 75, .ref 112, .ref 132, .ref 135, .ref 139, .int 0, .int 0]), (11, 7, [.ref (1 + 1), .ref (1 + 2), .ref (1 + 3), .ref (1 + 4), .ref (1 + 11), .ref (1 + 13), .ref (1 + 15)]), (8, 9, [.int 0, .int 0, .int 0, .ref (1 + 5), .ref (1 + 6), .ref (1 + 7), .ref (1 + 8), .ref (1 + 9), .ref (1 + 10)])]) (f' := (55, (0, 0), [.ref 0, .int 1], [.int (I (1 + 4) 0)])) (h' := (G, I, F)) (hs' := []) rfl (vm_b2 rfl (vm_b2 (vm_b2 (vm_hG hD.d) rfl) (vm_b2 (vm_b2 (vm_hG hD.w1.w) rfl) (vm_b2 (vm_b2 (vm_hG hD.w1.sh) rfl) rfl)))) ?_
  rw [(hy : I (1 + 4) 0 = 2)]
  refine vm_J.go vm_q126 (k := 1) (hs := []) (f' := (60, (0, 0), [.ref 0, .int 1], [.int 2])) (h' := (G, I, F)) (hs' := []) rfl rfl ?_
  exact vm_J.end vm_q126 (en := (60, .ireturn, 1, [], .null)) rfl rfl vm_rI (Nat.zero_le _) (Nat.zero_le _) rfl
set_option maxHeartbeats 4000000 in
set_option maxRecDepth 20000 in
/-- DitherDesk.taken -/
theorem c_taken_2_2 {l : Launch} {X : vm_Cx} {G : List vm_Sh} {I : Nat → Nat → Int32} {F : Nat → Nat → UInt32}  (hD : vm_isD G) (hy : I (1 + 4) 0 = 2) : vm_K l X vm_M126 [.ref 0, .int 2] (G, I, F) (some (.int (2))) (G, I, F) := by
  refine vm_K.mk (by decide) (Nat.le_of_ble_eq_true rfl) ?_
  show vm_J _ _ _ (0, (0, 0), [.ref 0, .int 2], []) _ _ _
  refine vm_J.go vm_q126 (k := 3) (hs := []) (f' := (3, (0, 0), [.ref 0, .int 2], [.int 4, .int 0, .int 2])) (h' := (G, I, F)) (hs' := []) rfl rfl ?_
  refine vm_J.call vm_q126 (Z := vm_M151) (n := 3) (k := 1) (mi := 151) (pc := 3) (en := (3, .invokestatic 56, 3, [151, 420, 0], .null)) rfl trivial rfl rfl vm_z151 (av := [.int 2, .int 0, .int 4]) (rest := []) (m_isWithin_y (v := 2) (a := 0) (b := 4) (by decide)) rfl (Nat.le_of_ble_eq_true rfl) ⟨Nat.le_of_ble_eq_true rfl, Nat.le_of_ble_eq_true rfl⟩ ⟨Nat.le_of_ble_eq_true rfl, Nat.le_of_ble_eq_true rfl⟩ ?_
  show vm_J _ _ _ (6, (0, 0), [.ref 0, .int 2], [.int 1]) (G, I, F) _ _
  refine vm_J.go vm_q126 (k := 1) (hs := []) (f' := (bif vm_ic .ne 1 0 then 12 else 9, (0, 0), [.ref 0, .int 2], [])) (h' := (G, I, F)) (hs' := []) rfl rfl ?_
  refine vm_J.bT (by decide) ?_
  refine vm_J.go vm_q126 (k := 3) (hs := [(12, 9, [.ref 1, .ref 38, .ref 75, .ref 112, .ref 132, .ref 135, .ref 139, .int 0, .int 0]), (11, 7, [.ref (1 + 1), .ref (1 + 2), .ref (1 + 3), .ref (1 + 4), .ref (1 + 11), .ref (1 + 13), .ref (1 + 15)])]) (f' := (19, (0, 0), [.ref 0, .int 2], [.ref (1 + 4)])) (h' := (G, I, F)) (hs' := []) rfl (vm_b2 rfl (vm_b2 (vm_b2 (vm_hG hD.d) rfl) (vm_b2 (vm_b2 (vm_hG hD.w1.w) rfl) rfl))) ?_
  refine vm_J.call vm_q126 (Z := vm_M61) (n := 0) (k := 0) (mi := 61) (pc := 19) (en := (19, .invokevirtual 268, 3, [61, 887, 0], .null)) rfl trivial rfl rfl vm_z61 (av := [.ref (1 + 4)]) (rest := []) (m_isMade_y (o := 1 + 4) (a := 1 + 5) (b := 1 + 6) (c := 1 + 7) (d := 1 + 8) (e := 1 + 9) (f := 1 + 10) hD.w1.sh (by rw [hy]; decide)) ⟨_, _, rfl, rfl, _, 6, _, hD.w1.sh, rfl, rfl, rfl⟩ (Nat.le_of_ble_eq_true rfl) ⟨Nat.le_of_ble_eq_true rfl, Nat.le_of_ble_eq_true rfl⟩ ⟨Nat.le_of_ble_eq_true rfl, Nat.le_of_ble_eq_true rfl⟩ ?_
  show vm_J _ _ _ (22, (0, 0), [.ref 0, .int 2], [.int 1]) (G, I, F) _ _
  refine vm_J.go vm_q126 (k := 1) (hs := []) (f' := (bif vm_ic .ne 1 0 then 28 else 25, (0, 0), [.ref 0, .int 2], [])) (h' := (G, I, F)) (hs' := []) rfl rfl ?_
  refine vm_J.bT (by decide) ?_
  refine vm_J.go vm_q126 (k := 4) (hs := [(12, 9, [.ref 1, .ref 38, .ref 75, .ref 112, .ref 132, .ref 135, .ref 139, .int 0, .int 0]), (11, 7, [.ref (1 + 1), .ref (1 + 2), .ref (1 + 3), .ref (1 + 4), .ref (1 + 11), .ref (1 + 13), .ref (1 + 15)]), (8, 9, [.int 0, .int 0, .int 0, .ref (1 + 5), .ref (1 + 6), .ref (1 + 7), .ref (1 + 8), .ref (1 + 9), .ref (1 + 10)])]) (f' := (38, (0, 0), [.ref 0, .int 2], [.int (I (1 + 4) 0)])) (h' := (G, I, F)) (hs' := []) rfl (vm_b2 rfl (vm_b2 (vm_b2 (vm_hG hD.d) rfl) (vm_b2 (vm_b2 (vm_hG hD.w1.w) rfl) (vm_b2 (vm_b2 (vm_hG hD.w1.sh) rfl) rfl)))) ?_
  rw [(hy : I (1 + 4) 0 = 2)]
  refine vm_J.go vm_q126 (k := 1) (hs := []) (f' := (39, (0, 0), [.ref 0, .int 2], [.int 2, .int 2])) (h' := (G, I, F)) (hs' := []) rfl rfl ?_
  refine vm_J.call vm_q126 (Z := vm_M150) (n := 2) (k := 1) (mi := 150) (pc := 39) (en := (39, .invokestatic 313, 3, [150, 940, 0], .null)) rfl trivial rfl rfl vm_z150 (av := [.int 2, .int 2]) (rest := []) m_under_3_2 rfl (Nat.le_of_ble_eq_true rfl) ⟨Nat.le_of_ble_eq_true rfl, Nat.le_of_ble_eq_true rfl⟩ ⟨Nat.le_of_ble_eq_true rfl, Nat.le_of_ble_eq_true rfl⟩ ?_
  show vm_J _ _ _ (42, (0, 0), [.ref 0, .int 2], [.int 1]) (G, I, F) _ _
  refine vm_J.go vm_q126 (k := 1) (hs := []) (f' := (bif vm_ic .eq 1 0 then 58 else 45, (0, 0), [.ref 0, .int 2], [])) (h' := (G, I, F)) (hs' := []) rfl rfl ?_
  refine vm_J.bF (by decide) ?_
  refine vm_J.go vm_q126 (k := 4) (hs := [(12, 9, [.ref 1, .ref 38, .ref 75, .ref 112, .ref 132, .ref 135, .ref 139, .int 0, .int 0]), (11, 7, [.ref (1 + 1), .ref (1 + 2), .ref (1 + 3), .ref (1 + 4), .ref (1 + 11), .ref (1 + 13), .ref (1 + 15)]), (8, 9, [.int 0, .int 0, .int 0, .ref (1 + 5), .ref (1 + 6), .ref (1 + 7), .ref (1 + 8), .ref (1 + 9), .ref (1 + 10)])]) (f' := (55, (0, 0), [.ref 0, .int 2], [.int (I (1 + 4) 0)])) (h' := (G, I, F)) (hs' := []) rfl (vm_b2 rfl (vm_b2 (vm_b2 (vm_hG hD.d) rfl) (vm_b2 (vm_b2 (vm_hG hD.w1.w) rfl) (vm_b2 (vm_b2 (vm_hG hD.w1.sh) rfl) rfl)))) ?_
  rw [(hy : I (1 + 4) 0 = 2)]
  refine vm_J.go vm_q126 (k := 1) (hs := []) (f' := (60, (0, 0), [.ref 0, .int 2], [.int 2])) (h' := (G, I, F)) (hs' := []) rfl rfl ?_
  exact vm_J.end vm_q126 (en := (60, .ireturn, 1, [], .null)) rfl rfl vm_rI (Nat.zero_le _) (Nat.zero_le _) rfl
set_option maxHeartbeats 4000000 in
set_option maxRecDepth 20000 in
/-- DitherDesk.taken -/
theorem c_taken_2_3 {l : Launch} {X : vm_Cx} {G : List vm_Sh} {I : Nat → Nat → Int32} {F : Nat → Nat → UInt32}  (hD : vm_isD G) (hy : I (1 + 4) 0 = 2) : vm_K l X vm_M126 [.ref 0, .int 3] (G, I, F) (some (.int (-12))) (G, I, F) := by
  refine vm_K.mk (by decide) (Nat.le_of_ble_eq_true rfl) ?_
  show vm_J _ _ _ (0, (0, 0), [.ref 0, .int 3], []) _ _ _
  refine vm_J.go vm_q126 (k := 3) (hs := []) (f' := (3, (0, 0), [.ref 0, .int 3], [.int 4, .int 0, .int 3])) (h' := (G, I, F)) (hs' := []) rfl rfl ?_
  refine vm_J.call vm_q126 (Z := vm_M151) (n := 3) (k := 1) (mi := 151) (pc := 3) (en := (3, .invokestatic 56, 3, [151, 420, 0], .null)) rfl trivial rfl rfl vm_z151 (av := [.int 3, .int 0, .int 4]) (rest := []) (m_isWithin_y (v := 3) (a := 0) (b := 4) (by decide)) rfl (Nat.le_of_ble_eq_true rfl) ⟨Nat.le_of_ble_eq_true rfl, Nat.le_of_ble_eq_true rfl⟩ ⟨Nat.le_of_ble_eq_true rfl, Nat.le_of_ble_eq_true rfl⟩ ?_
  show vm_J _ _ _ (6, (0, 0), [.ref 0, .int 3], [.int 1]) (G, I, F) _ _
  refine vm_J.go vm_q126 (k := 1) (hs := []) (f' := (bif vm_ic .ne 1 0 then 12 else 9, (0, 0), [.ref 0, .int 3], [])) (h' := (G, I, F)) (hs' := []) rfl rfl ?_
  refine vm_J.bT (by decide) ?_
  refine vm_J.go vm_q126 (k := 3) (hs := [(12, 9, [.ref 1, .ref 38, .ref 75, .ref 112, .ref 132, .ref 135, .ref 139, .int 0, .int 0]), (11, 7, [.ref (1 + 1), .ref (1 + 2), .ref (1 + 3), .ref (1 + 4), .ref (1 + 11), .ref (1 + 13), .ref (1 + 15)])]) (f' := (19, (0, 0), [.ref 0, .int 3], [.ref (1 + 4)])) (h' := (G, I, F)) (hs' := []) rfl (vm_b2 rfl (vm_b2 (vm_b2 (vm_hG hD.d) rfl) (vm_b2 (vm_b2 (vm_hG hD.w1.w) rfl) rfl))) ?_
  refine vm_J.call vm_q126 (Z := vm_M61) (n := 0) (k := 0) (mi := 61) (pc := 19) (en := (19, .invokevirtual 268, 3, [61, 887, 0], .null)) rfl trivial rfl rfl vm_z61 (av := [.ref (1 + 4)]) (rest := []) (m_isMade_y (o := 1 + 4) (a := 1 + 5) (b := 1 + 6) (c := 1 + 7) (d := 1 + 8) (e := 1 + 9) (f := 1 + 10) hD.w1.sh (by rw [hy]; decide)) ⟨_, _, rfl, rfl, _, 6, _, hD.w1.sh, rfl, rfl, rfl⟩ (Nat.le_of_ble_eq_true rfl) ⟨Nat.le_of_ble_eq_true rfl, Nat.le_of_ble_eq_true rfl⟩ ⟨Nat.le_of_ble_eq_true rfl, Nat.le_of_ble_eq_true rfl⟩ ?_
  show vm_J _ _ _ (22, (0, 0), [.ref 0, .int 3], [.int 1]) (G, I, F) _ _
  refine vm_J.go vm_q126 (k := 1) (hs := []) (f' := (bif vm_ic .ne 1 0 then 28 else 25, (0, 0), [.ref 0, .int 3], [])) (h' := (G, I, F)) (hs' := []) rfl rfl ?_
  refine vm_J.bT (by decide) ?_
  refine vm_J.go vm_q126 (k := 4) (hs := [(12, 9, [.ref 1, .ref 38, .ref 75, .ref 112, .ref 132, .ref 135, .ref 139, .int 0, .int 0]), (11, 7, [.ref (1 + 1), .ref (1 + 2), .ref (1 + 3), .ref (1 + 4), .ref (1 + 11), .ref (1 + 13), .ref (1 + 15)]), (8, 9, [.int 0, .int 0, .int 0, .ref (1 + 5), .ref (1 + 6), .ref (1 + 7), .ref (1 + 8), .ref (1 + 9), .ref (1 + 10)])]) (f' := (38, (0, 0), [.ref 0, .int 3], [.int (I (1 + 4) 0)])) (h' := (G, I, F)) (hs' := []) rfl (vm_b2 rfl (vm_b2 (vm_b2 (vm_hG hD.d) rfl) (vm_b2 (vm_b2 (vm_hG hD.w1.w) rfl) (vm_b2 (vm_b2 (vm_hG hD.w1.sh) rfl) rfl)))) ?_
  rw [(hy : I (1 + 4) 0 = 2)]
  refine vm_J.go vm_q126 (k := 1) (hs := []) (f' := (39, (0, 0), [.ref 0, .int 3], [.int 3, .int 2])) (h' := (G, I, F)) (hs' := []) rfl rfl ?_
  refine vm_J.call vm_q126 (Z := vm_M150) (n := 2) (k := 1) (mi := 150) (pc := 39) (en := (39, .invokestatic 313, 3, [150, 940, 0], .null)) rfl trivial rfl rfl vm_z150 (av := [.int 2, .int 3]) (rest := []) m_under_3_3 rfl (Nat.le_of_ble_eq_true rfl) ⟨Nat.le_of_ble_eq_true rfl, Nat.le_of_ble_eq_true rfl⟩ ⟨Nat.le_of_ble_eq_true rfl, Nat.le_of_ble_eq_true rfl⟩ ?_
  show vm_J _ _ _ (42, (0, 0), [.ref 0, .int 3], [.int 0]) (G, I, F) _ _
  refine vm_J.go vm_q126 (k := 1) (hs := []) (f' := (bif vm_ic .eq 0 0 then 58 else 45, (0, 0), [.ref 0, .int 3], [])) (h' := (G, I, F)) (hs' := []) rfl rfl ?_
  refine vm_J.bT (by decide) ?_
  refine vm_J.go vm_q126 (k := 1) (hs := []) (f' := (60, (0, 0), [.ref 0, .int 3], [.int (-12)])) (h' := (G, I, F)) (hs' := []) rfl rfl ?_
  exact vm_J.end vm_q126 (en := (60, .ireturn, 1, [], .null)) rfl rfl vm_rI (Nat.zero_le _) (Nat.zero_le _) rfl
set_option maxHeartbeats 4000000 in
set_option maxRecDepth 20000 in
/-- DitherDesk.taken -/
theorem c_taken_2_4 {l : Launch} {X : vm_Cx} {G : List vm_Sh} {I : Nat → Nat → Int32} {F : Nat → Nat → UInt32}  (hD : vm_isD G) (hy : I (1 + 4) 0 = 2) : vm_K l X vm_M126 [.ref 0, .int 4] (G, I, F) (some (.int (-12))) (G, I, F) := by
  refine vm_K.mk (by decide) (Nat.le_of_ble_eq_true rfl) ?_
  show vm_J _ _ _ (0, (0, 0), [.ref 0, .int 4], []) _ _ _
  refine vm_J.go vm_q126 (k := 3) (hs := []) (f' := (3, (0, 0), [.ref 0, .int 4], [.int 4, .int 0, .int 4])) (h' := (G, I, F)) (hs' := []) rfl rfl ?_
  refine vm_J.call vm_q126 (Z := vm_M151) (n := 3) (k := 1) (mi := 151) (pc := 3) (en := (3, .invokestatic 56, 3, [151, 420, 0], .null)) rfl trivial rfl rfl vm_z151 (av := [.int 4, .int 0, .int 4]) (rest := []) (m_isWithin_y (v := 4) (a := 0) (b := 4) (by decide)) rfl (Nat.le_of_ble_eq_true rfl) ⟨Nat.le_of_ble_eq_true rfl, Nat.le_of_ble_eq_true rfl⟩ ⟨Nat.le_of_ble_eq_true rfl, Nat.le_of_ble_eq_true rfl⟩ ?_
  show vm_J _ _ _ (6, (0, 0), [.ref 0, .int 4], [.int 1]) (G, I, F) _ _
  refine vm_J.go vm_q126 (k := 1) (hs := []) (f' := (bif vm_ic .ne 1 0 then 12 else 9, (0, 0), [.ref 0, .int 4], [])) (h' := (G, I, F)) (hs' := []) rfl rfl ?_
  refine vm_J.bT (by decide) ?_
  refine vm_J.go vm_q126 (k := 3) (hs := [(12, 9, [.ref 1, .ref 38, .ref 75, .ref 112, .ref 132, .ref 135, .ref 139, .int 0, .int 0]), (11, 7, [.ref (1 + 1), .ref (1 + 2), .ref (1 + 3), .ref (1 + 4), .ref (1 + 11), .ref (1 + 13), .ref (1 + 15)])]) (f' := (19, (0, 0), [.ref 0, .int 4], [.ref (1 + 4)])) (h' := (G, I, F)) (hs' := []) rfl (vm_b2 rfl (vm_b2 (vm_b2 (vm_hG hD.d) rfl) (vm_b2 (vm_b2 (vm_hG hD.w1.w) rfl) rfl))) ?_
  refine vm_J.call vm_q126 (Z := vm_M61) (n := 0) (k := 0) (mi := 61) (pc := 19) (en := (19, .invokevirtual 268, 3, [61, 887, 0], .null)) rfl trivial rfl rfl vm_z61 (av := [.ref (1 + 4)]) (rest := []) (m_isMade_y (o := 1 + 4) (a := 1 + 5) (b := 1 + 6) (c := 1 + 7) (d := 1 + 8) (e := 1 + 9) (f := 1 + 10) hD.w1.sh (by rw [hy]; decide)) ⟨_, _, rfl, rfl, _, 6, _, hD.w1.sh, rfl, rfl, rfl⟩ (Nat.le_of_ble_eq_true rfl) ⟨Nat.le_of_ble_eq_true rfl, Nat.le_of_ble_eq_true rfl⟩ ⟨Nat.le_of_ble_eq_true rfl, Nat.le_of_ble_eq_true rfl⟩ ?_
  show vm_J _ _ _ (22, (0, 0), [.ref 0, .int 4], [.int 1]) (G, I, F) _ _
  refine vm_J.go vm_q126 (k := 1) (hs := []) (f' := (bif vm_ic .ne 1 0 then 28 else 25, (0, 0), [.ref 0, .int 4], [])) (h' := (G, I, F)) (hs' := []) rfl rfl ?_
  refine vm_J.bT (by decide) ?_
  refine vm_J.go vm_q126 (k := 4) (hs := [(12, 9, [.ref 1, .ref 38, .ref 75, .ref 112, .ref 132, .ref 135, .ref 139, .int 0, .int 0]), (11, 7, [.ref (1 + 1), .ref (1 + 2), .ref (1 + 3), .ref (1 + 4), .ref (1 + 11), .ref (1 + 13), .ref (1 + 15)]), (8, 9, [.int 0, .int 0, .int 0, .ref (1 + 5), .ref (1 + 6), .ref (1 + 7), .ref (1 + 8), .ref (1 + 9), .ref (1 + 10)])]) (f' := (38, (0, 0), [.ref 0, .int 4], [.int (I (1 + 4) 0)])) (h' := (G, I, F)) (hs' := []) rfl (vm_b2 rfl (vm_b2 (vm_b2 (vm_hG hD.d) rfl) (vm_b2 (vm_b2 (vm_hG hD.w1.w) rfl) (vm_b2 (vm_b2 (vm_hG hD.w1.sh) rfl) rfl)))) ?_
  rw [(hy : I (1 + 4) 0 = 2)]
  refine vm_J.go vm_q126 (k := 1) (hs := []) (f' := (39, (0, 0), [.ref 0, .int 4], [.int 4, .int 2])) (h' := (G, I, F)) (hs' := []) rfl rfl ?_
  refine vm_J.call vm_q126 (Z := vm_M150) (n := 2) (k := 1) (mi := 150) (pc := 39) (en := (39, .invokestatic 313, 3, [150, 940, 0], .null)) rfl trivial rfl rfl vm_z150 (av := [.int 2, .int 4]) (rest := []) m_under_3_4 rfl (Nat.le_of_ble_eq_true rfl) ⟨Nat.le_of_ble_eq_true rfl, Nat.le_of_ble_eq_true rfl⟩ ⟨Nat.le_of_ble_eq_true rfl, Nat.le_of_ble_eq_true rfl⟩ ?_
  show vm_J _ _ _ (42, (0, 0), [.ref 0, .int 4], [.int 0]) (G, I, F) _ _
  refine vm_J.go vm_q126 (k := 1) (hs := []) (f' := (bif vm_ic .eq 0 0 then 58 else 45, (0, 0), [.ref 0, .int 4], [])) (h' := (G, I, F)) (hs' := []) rfl rfl ?_
  refine vm_J.bT (by decide) ?_
  refine vm_J.go vm_q126 (k := 1) (hs := []) (f' := (60, (0, 0), [.ref 0, .int 4], [.int (-12)])) (h' := (G, I, F)) (hs' := []) rfl rfl ?_
  exact vm_J.end vm_q126 (en := (60, .ireturn, 1, [], .null)) rfl rfl vm_rI (Nat.zero_le _) (Nat.zero_le _) rfl
set_option maxHeartbeats 4000000 in
set_option maxRecDepth 20000 in
/-- DitherDesk.taken -/
theorem c_taken_3_0 {l : Launch} {X : vm_Cx} {G : List vm_Sh} {I : Nat → Nat → Int32} {F : Nat → Nat → UInt32}  (hD : vm_isD G) (hy : I (1 + 4) 0 = 3) : vm_K l X vm_M126 [.ref 0, .int 0] (G, I, F) (some (.int (3))) (G, I, F) := by
  refine vm_K.mk (by decide) (Nat.le_of_ble_eq_true rfl) ?_
  show vm_J _ _ _ (0, (0, 0), [.ref 0, .int 0], []) _ _ _
  refine vm_J.go vm_q126 (k := 3) (hs := []) (f' := (3, (0, 0), [.ref 0, .int 0], [.int 4, .int 0, .int 0])) (h' := (G, I, F)) (hs' := []) rfl rfl ?_
  refine vm_J.call vm_q126 (Z := vm_M151) (n := 3) (k := 1) (mi := 151) (pc := 3) (en := (3, .invokestatic 56, 3, [151, 420, 0], .null)) rfl trivial rfl rfl vm_z151 (av := [.int 0, .int 0, .int 4]) (rest := []) (m_isWithin_y (v := 0) (a := 0) (b := 4) (by decide)) rfl (Nat.le_of_ble_eq_true rfl) ⟨Nat.le_of_ble_eq_true rfl, Nat.le_of_ble_eq_true rfl⟩ ⟨Nat.le_of_ble_eq_true rfl, Nat.le_of_ble_eq_true rfl⟩ ?_
  show vm_J _ _ _ (6, (0, 0), [.ref 0, .int 0], [.int 1]) (G, I, F) _ _
  refine vm_J.go vm_q126 (k := 1) (hs := []) (f' := (bif vm_ic .ne 1 0 then 12 else 9, (0, 0), [.ref 0, .int 0], [])) (h' := (G, I, F)) (hs' := []) rfl rfl ?_
  refine vm_J.bT (by decide) ?_
  refine vm_J.go vm_q126 (k := 3) (hs := [(12, 9, [.ref 1, .ref 38, .ref 75, .ref 112, .ref 132, .ref 135, .ref 139, .int 0, .int 0]), (11, 7, [.ref (1 + 1), .ref (1 + 2), .ref (1 + 3), .ref (1 + 4), .ref (1 + 11), .ref (1 + 13), .ref (1 + 15)])]) (f' := (19, (0, 0), [.ref 0, .int 0], [.ref (1 + 4)])) (h' := (G, I, F)) (hs' := []) rfl (vm_b2 rfl (vm_b2 (vm_b2 (vm_hG hD.d) rfl) (vm_b2 (vm_b2 (vm_hG hD.w1.w) rfl) rfl))) ?_
  refine vm_J.call vm_q126 (Z := vm_M61) (n := 0) (k := 0) (mi := 61) (pc := 19) (en := (19, .invokevirtual 268, 3, [61, 887, 0], .null)) rfl trivial rfl rfl vm_z61 (av := [.ref (1 + 4)]) (rest := []) (m_isMade_y (o := 1 + 4) (a := 1 + 5) (b := 1 + 6) (c := 1 + 7) (d := 1 + 8) (e := 1 + 9) (f := 1 + 10) hD.w1.sh (by rw [hy]; decide)) ⟨_, _, rfl, rfl, _, 6, _, hD.w1.sh, rfl, rfl, rfl⟩ (Nat.le_of_ble_eq_true rfl) ⟨Nat.le_of_ble_eq_true rfl, Nat.le_of_ble_eq_true rfl⟩ ⟨Nat.le_of_ble_eq_true rfl, Nat.le_of_ble_eq_true rfl⟩ ?_
  show vm_J _ _ _ (22, (0, 0), [.ref 0, .int 0], [.int 1]) (G, I, F) _ _
  refine vm_J.go vm_q126 (k := 1) (hs := []) (f' := (bif vm_ic .ne 1 0 then 28 else 25, (0, 0), [.ref 0, .int 0], [])) (h' := (G, I, F)) (hs' := []) rfl rfl ?_
  refine vm_J.bT (by decide) ?_
  refine vm_J.go vm_q126 (k := 4) (hs := [(12, 9, [.ref 1, .ref 38, .ref 75, .ref 112, .ref 132, .ref 135, .ref 139, .int 0, .int 0]), (11, 7, [.ref (1 + 1), .ref (1 + 2), .ref (1 + 3), .ref (1 + 4), .ref (1 + 11), .ref (1 + 13), .ref (1 + 15)]), (8, 9, [.int 0, .int 0, .int 0, .ref (1 + 5), .ref (1 + 6), .ref (1 + 7), .ref (1 + 8), .ref (1 + 9), .ref (1 + 10)])]) (f' := (38, (0, 0), [.ref 0, .int 0], [.int (I (1 + 4) 0)])) (h' := (G, I, F)) (hs' := []) rfl (vm_b2 rfl (vm_b2 (vm_b2 (vm_hG hD.d) rfl) (vm_b2 (vm_b2 (vm_hG hD.w1.w) rfl) (vm_b2 (vm_b2 (vm_hG hD.w1.sh) rfl) rfl)))) ?_
  rw [(hy : I (1 + 4) 0 = 3)]
  refine vm_J.go vm_q126 (k := 1) (hs := []) (f' := (39, (0, 0), [.ref 0, .int 0], [.int 0, .int 3])) (h' := (G, I, F)) (hs' := []) rfl rfl ?_
  refine vm_J.call vm_q126 (Z := vm_M150) (n := 2) (k := 1) (mi := 150) (pc := 39) (en := (39, .invokestatic 313, 3, [150, 940, 0], .null)) rfl trivial rfl rfl vm_z150 (av := [.int 3, .int 0]) (rest := []) m_under_4_0 rfl (Nat.le_of_ble_eq_true rfl) ⟨Nat.le_of_ble_eq_true rfl, Nat.le_of_ble_eq_true rfl⟩ ⟨Nat.le_of_ble_eq_true rfl, Nat.le_of_ble_eq_true rfl⟩ ?_
  show vm_J _ _ _ (42, (0, 0), [.ref 0, .int 0], [.int 1]) (G, I, F) _ _
  refine vm_J.go vm_q126 (k := 1) (hs := []) (f' := (bif vm_ic .eq 1 0 then 58 else 45, (0, 0), [.ref 0, .int 0], [])) (h' := (G, I, F)) (hs' := []) rfl rfl ?_
  refine vm_J.bF (by decide) ?_
  refine vm_J.go vm_q126 (k := 4) (hs := [(12, 9, [.ref 1, .ref 38, .ref 75, .ref 112, .ref 132, .ref 135, .ref 139, .int 0, .int 0]), (11, 7, [.ref (1 + 1), .ref (1 + 2), .ref (1 + 3), .ref (1 + 4), .ref (1 + 11), .ref (1 + 13), .ref (1 + 15)]), (8, 9, [.int 0, .int 0, .int 0, .ref (1 + 5), .ref (1 + 6), .ref (1 + 7), .ref (1 + 8), .ref (1 + 9), .ref (1 + 10)])]) (f' := (55, (0, 0), [.ref 0, .int 0], [.int (I (1 + 4) 0)])) (h' := (G, I, F)) (hs' := []) rfl (vm_b2 rfl (vm_b2 (vm_b2 (vm_hG hD.d) rfl) (vm_b2 (vm_b2 (vm_hG hD.w1.w) rfl) (vm_b2 (vm_b2 (vm_hG hD.w1.sh) rfl) rfl)))) ?_
  rw [(hy : I (1 + 4) 0 = 3)]
  refine vm_J.go vm_q126 (k := 1) (hs := []) (f' := (60, (0, 0), [.ref 0, .int 0], [.int 3])) (h' := (G, I, F)) (hs' := []) rfl rfl ?_
  exact vm_J.end vm_q126 (en := (60, .ireturn, 1, [], .null)) rfl rfl vm_rI (Nat.zero_le _) (Nat.zero_le _) rfl
set_option maxHeartbeats 4000000 in
set_option maxRecDepth 20000 in
/-- DitherDesk.taken -/
theorem c_taken_3_1 {l : Launch} {X : vm_Cx} {G : List vm_Sh} {I : Nat → Nat → Int32} {F : Nat → Nat → UInt32}  (hD : vm_isD G) (hy : I (1 + 4) 0 = 3) : vm_K l X vm_M126 [.ref 0, .int 1] (G, I, F) (some (.int (-12))) (G, I, F) := by
  refine vm_K.mk (by decide) (Nat.le_of_ble_eq_true rfl) ?_
  show vm_J _ _ _ (0, (0, 0), [.ref 0, .int 1], []) _ _ _
  refine vm_J.go vm_q126 (k := 3) (hs := []) (f' := (3, (0, 0), [.ref 0, .int 1], [.int 4, .int 0, .int 1])) (h' := (G, I, F)) (hs' := []) rfl rfl ?_
  refine vm_J.call vm_q126 (Z := vm_M151) (n := 3) (k := 1) (mi := 151) (pc := 3) (en := (3, .invokestatic 56, 3, [151, 420, 0], .null)) rfl trivial rfl rfl vm_z151 (av := [.int 1, .int 0, .int 4]) (rest := []) (m_isWithin_y (v := 1) (a := 0) (b := 4) (by decide)) rfl (Nat.le_of_ble_eq_true rfl) ⟨Nat.le_of_ble_eq_true rfl, Nat.le_of_ble_eq_true rfl⟩ ⟨Nat.le_of_ble_eq_true rfl, Nat.le_of_ble_eq_true rfl⟩ ?_
  show vm_J _ _ _ (6, (0, 0), [.ref 0, .int 1], [.int 1]) (G, I, F) _ _
  refine vm_J.go vm_q126 (k := 1) (hs := []) (f' := (bif vm_ic .ne 1 0 then 12 else 9, (0, 0), [.ref 0, .int 1], [])) (h' := (G, I, F)) (hs' := []) rfl rfl ?_
  refine vm_J.bT (by decide) ?_
  refine vm_J.go vm_q126 (k := 3) (hs := [(12, 9, [.ref 1, .ref 38, .ref 75, .ref 112, .ref 132, .ref 135, .ref 139, .int 0, .int 0]), (11, 7, [.ref (1 + 1), .ref (1 + 2), .ref (1 + 3), .ref (1 + 4), .ref (1 + 11), .ref (1 + 13), .ref (1 + 15)])]) (f' := (19, (0, 0), [.ref 0, .int 1], [.ref (1 + 4)])) (h' := (G, I, F)) (hs' := []) rfl (vm_b2 rfl (vm_b2 (vm_b2 (vm_hG hD.d) rfl) (vm_b2 (vm_b2 (vm_hG hD.w1.w) rfl) rfl))) ?_
  refine vm_J.call vm_q126 (Z := vm_M61) (n := 0) (k := 0) (mi := 61) (pc := 19) (en := (19, .invokevirtual 268, 3, [61, 887, 0], .null)) rfl trivial rfl rfl vm_z61 (av := [.ref (1 + 4)]) (rest := []) (m_isMade_y (o := 1 + 4) (a := 1 + 5) (b := 1 + 6) (c := 1 + 7) (d := 1 + 8) (e := 1 + 9) (f := 1 + 10) hD.w1.sh (by rw [hy]; decide)) ⟨_, _, rfl, rfl, _, 6, _, hD.w1.sh, rfl, rfl, rfl⟩ (Nat.le_of_ble_eq_true rfl) ⟨Nat.le_of_ble_eq_true rfl, Nat.le_of_ble_eq_true rfl⟩ ⟨Nat.le_of_ble_eq_true rfl, Nat.le_of_ble_eq_true rfl⟩ ?_
  show vm_J _ _ _ (22, (0, 0), [.ref 0, .int 1], [.int 1]) (G, I, F) _ _
  refine vm_J.go vm_q126 (k := 1) (hs := []) (f' := (bif vm_ic .ne 1 0 then 28 else 25, (0, 0), [.ref 0, .int 1], [])) (h' := (G, I, F)) (hs' := []) rfl rfl ?_
  refine vm_J.bT (by decide) ?_
  refine vm_J.go vm_q126 (k := 4) (hs := [(12, 9, [.ref 1, .ref 38, .ref 75, .ref 112, .ref 132, .ref 135, .ref 139, .int 0, .int 0]), (11, 7, [.ref (1 + 1), .ref (1 + 2), .ref (1 + 3), .ref (1 + 4), .ref (1 + 11), .ref (1 + 13), .ref (1 + 15)]), (8, 9, [.int 0, .int 0, .int 0, .ref (1 + 5), .ref (1 + 6), .ref (1 + 7), .ref (1 + 8), .ref (1 + 9), .ref (1 + 10)])]) (f' := (38, (0, 0), [.ref 0, .int 1], [.int (I (1 + 4) 0)])) (h' := (G, I, F)) (hs' := []) rfl (vm_b2 rfl (vm_b2 (vm_b2 (vm_hG hD.d) rfl) (vm_b2 (vm_b2 (vm_hG hD.w1.w) rfl) (vm_b2 (vm_b2 (vm_hG hD.w1.sh) rfl) rfl)))) ?_
  rw [(hy : I (1 + 4) 0 = 3)]
  refine vm_J.go vm_q126 (k := 1) (hs := []) (f' := (39, (0, 0), [.ref 0, .int 1], [.int 1, .int 3])) (h' := (G, I, F)) (hs' := []) rfl rfl ?_
  refine vm_J.call vm_q126 (Z := vm_M150) (n := 2) (k := 1) (mi := 150) (pc := 39) (en := (39, .invokestatic 313, 3, [150, 940, 0], .null)) rfl trivial rfl rfl vm_z150 (av := [.int 3, .int 1]) (rest := []) m_under_4_1 rfl (Nat.le_of_ble_eq_true rfl) ⟨Nat.le_of_ble_eq_true rfl, Nat.le_of_ble_eq_true rfl⟩ ⟨Nat.le_of_ble_eq_true rfl, Nat.le_of_ble_eq_true rfl⟩ ?_
  show vm_J _ _ _ (42, (0, 0), [.ref 0, .int 1], [.int 0]) (G, I, F) _ _
  refine vm_J.go vm_q126 (k := 1) (hs := []) (f' := (bif vm_ic .eq 0 0 then 58 else 45, (0, 0), [.ref 0, .int 1], [])) (h' := (G, I, F)) (hs' := []) rfl rfl ?_
  refine vm_J.bT (by decide) ?_
  refine vm_J.go vm_q126 (k := 1) (hs := []) (f' := (60, (0, 0), [.ref 0, .int 1], [.int (-12)])) (h' := (G, I, F)) (hs' := []) rfl rfl ?_
  exact vm_J.end vm_q126 (en := (60, .ireturn, 1, [], .null)) rfl rfl vm_rI (Nat.zero_le _) (Nat.zero_le _) rfl
set_option maxHeartbeats 4000000 in
set_option maxRecDepth 20000 in
/-- DitherDesk.taken -/
theorem c_taken_3_2 {l : Launch} {X : vm_Cx} {G : List vm_Sh} {I : Nat → Nat → Int32} {F : Nat → Nat → UInt32}  (hD : vm_isD G) (hy : I (1 + 4) 0 = 3) : vm_K l X vm_M126 [.ref 0, .int 2] (G, I, F) (some (.int (-12))) (G, I, F) := by
  refine vm_K.mk (by decide) (Nat.le_of_ble_eq_true rfl) ?_
  show vm_J _ _ _ (0, (0, 0), [.ref 0, .int 2], []) _ _ _
  refine vm_J.go vm_q126 (k := 3) (hs := []) (f' := (3, (0, 0), [.ref 0, .int 2], [.int 4, .int 0, .int 2])) (h' := (G, I, F)) (hs' := []) rfl rfl ?_
  refine vm_J.call vm_q126 (Z := vm_M151) (n := 3) (k := 1) (mi := 151) (pc := 3) (en := (3, .invokestatic 56, 3, [151, 420, 0], .null)) rfl trivial rfl rfl vm_z151 (av := [.int 2, .int 0, .int 4]) (rest := []) (m_isWithin_y (v := 2) (a := 0) (b := 4) (by decide)) rfl (Nat.le_of_ble_eq_true rfl) ⟨Nat.le_of_ble_eq_true rfl, Nat.le_of_ble_eq_true rfl⟩ ⟨Nat.le_of_ble_eq_true rfl, Nat.le_of_ble_eq_true rfl⟩ ?_
  show vm_J _ _ _ (6, (0, 0), [.ref 0, .int 2], [.int 1]) (G, I, F) _ _
  refine vm_J.go vm_q126 (k := 1) (hs := []) (f' := (bif vm_ic .ne 1 0 then 12 else 9, (0, 0), [.ref 0, .int 2], [])) (h' := (G, I, F)) (hs' := []) rfl rfl ?_
  refine vm_J.bT (by decide) ?_
  refine vm_J.go vm_q126 (k := 3) (hs := [(12, 9, [.ref 1, .ref 38, .ref 75, .ref 112, .ref 132, .ref 135, .ref 139, .int 0, .int 0]), (11, 7, [.ref (1 + 1), .ref (1 + 2), .ref (1 + 3), .ref (1 + 4), .ref (1 + 11), .ref (1 + 13), .ref (1 + 15)])]) (f' := (19, (0, 0), [.ref 0, .int 2], [.ref (1 + 4)])) (h' := (G, I, F)) (hs' := []) rfl (vm_b2 rfl (vm_b2 (vm_b2 (vm_hG hD.d) rfl) (vm_b2 (vm_b2 (vm_hG hD.w1.w) rfl) rfl))) ?_
  refine vm_J.call vm_q126 (Z := vm_M61) (n := 0) (k := 0) (mi := 61) (pc := 19) (en := (19, .invokevirtual 268, 3, [61, 887, 0], .null)) rfl trivial rfl rfl vm_z61 (av := [.ref (1 + 4)]) (rest := []) (m_isMade_y (o := 1 + 4) (a := 1 + 5) (b := 1 + 6) (c := 1 + 7) (d := 1 + 8) (e := 1 + 9) (f := 1 + 10) hD.w1.sh (by rw [hy]; decide)) ⟨_, _, rfl, rfl, _, 6, _, hD.w1.sh, rfl, rfl, rfl⟩ (Nat.le_of_ble_eq_true rfl) ⟨Nat.le_of_ble_eq_true rfl, Nat.le_of_ble_eq_true rfl⟩ ⟨Nat.le_of_ble_eq_true rfl, Nat.le_of_ble_eq_true rfl⟩ ?_
  show vm_J _ _ _ (22, (0, 0), [.ref 0, .int 2], [.int 1]) (G, I, F) _ _
  refine vm_J.go vm_q126 (k := 1) (hs := []) (f' := (bif vm_ic .ne 1 0 then 28 else 25, (0, 0), [.ref 0, .int 2], [])) (h' := (G, I, F)) (hs' := []) rfl rfl ?_
  refine vm_J.bT (by decide) ?_
  refine vm_J.go vm_q126 (k := 4) (hs := [(12, 9, [.ref 1, .ref 38, .ref 75, .ref 112, .ref 132, .ref 135, .ref 139, .int 0, .int 0]), (11, 7, [.ref (1 + 1), .ref (1 + 2), .ref (1 + 3), .ref (1 + 4), .ref (1 + 11), .ref (1 + 13), .ref (1 + 15)]), (8, 9, [.int 0, .int 0, .int 0, .ref (1 + 5), .ref (1 + 6), .ref (1 + 7), .ref (1 + 8), .ref (1 + 9), .ref (1 + 10)])]) (f' := (38, (0, 0), [.ref 0, .int 2], [.int (I (1 + 4) 0)])) (h' := (G, I, F)) (hs' := []) rfl (vm_b2 rfl (vm_b2 (vm_b2 (vm_hG hD.d) rfl) (vm_b2 (vm_b2 (vm_hG hD.w1.w) rfl) (vm_b2 (vm_b2 (vm_hG hD.w1.sh) rfl) rfl)))) ?_
  rw [(hy : I (1 + 4) 0 = 3)]
  refine vm_J.go vm_q126 (k := 1) (hs := []) (f' := (39, (0, 0), [.ref 0, .int 2], [.int 2, .int 3])) (h' := (G, I, F)) (hs' := []) rfl rfl ?_
  refine vm_J.call vm_q126 (Z := vm_M150) (n := 2) (k := 1) (mi := 150) (pc := 39) (en := (39, .invokestatic 313, 3, [150, 940, 0], .null)) rfl trivial rfl rfl vm_z150 (av := [.int 3, .int 2]) (rest := []) m_under_4_2 rfl (Nat.le_of_ble_eq_true rfl) ⟨Nat.le_of_ble_eq_true rfl, Nat.le_of_ble_eq_true rfl⟩ ⟨Nat.le_of_ble_eq_true rfl, Nat.le_of_ble_eq_true rfl⟩ ?_
  show vm_J _ _ _ (42, (0, 0), [.ref 0, .int 2], [.int 0]) (G, I, F) _ _
  refine vm_J.go vm_q126 (k := 1) (hs := []) (f' := (bif vm_ic .eq 0 0 then 58 else 45, (0, 0), [.ref 0, .int 2], [])) (h' := (G, I, F)) (hs' := []) rfl rfl ?_
  refine vm_J.bT (by decide) ?_
  refine vm_J.go vm_q126 (k := 1) (hs := []) (f' := (60, (0, 0), [.ref 0, .int 2], [.int (-12)])) (h' := (G, I, F)) (hs' := []) rfl rfl ?_
  exact vm_J.end vm_q126 (en := (60, .ireturn, 1, [], .null)) rfl rfl vm_rI (Nat.zero_le _) (Nat.zero_le _) rfl
set_option maxHeartbeats 4000000 in
set_option maxRecDepth 20000 in
/-- DitherDesk.taken -/
theorem c_taken_3_3 {l : Launch} {X : vm_Cx} {G : List vm_Sh} {I : Nat → Nat → Int32} {F : Nat → Nat → UInt32}  (hD : vm_isD G) (hy : I (1 + 4) 0 = 3) : vm_K l X vm_M126 [.ref 0, .int 3] (G, I, F) (some (.int (3))) (G, I, F) := by
  refine vm_K.mk (by decide) (Nat.le_of_ble_eq_true rfl) ?_
  show vm_J _ _ _ (0, (0, 0), [.ref 0, .int 3], []) _ _ _
  refine vm_J.go vm_q126 (k := 3) (hs := []) (f' := (3, (0, 0), [.ref 0, .int 3], [.int 4, .int 0, .int 3])) (h' := (G, I, F)) (hs' := []) rfl rfl ?_
  refine vm_J.call vm_q126 (Z := vm_M151) (n := 3) (k := 1) (mi := 151) (pc := 3) (en := (3, .invokestatic 56, 3, [151, 420, 0], .null)) rfl trivial rfl rfl vm_z151 (av := [.int 3, .int 0, .int 4]) (rest := []) (m_isWithin_y (v := 3) (a := 0) (b := 4) (by decide)) rfl (Nat.le_of_ble_eq_true rfl) ⟨Nat.le_of_ble_eq_true rfl, Nat.le_of_ble_eq_true rfl⟩ ⟨Nat.le_of_ble_eq_true rfl, Nat.le_of_ble_eq_true rfl⟩ ?_
  show vm_J _ _ _ (6, (0, 0), [.ref 0, .int 3], [.int 1]) (G, I, F) _ _
  refine vm_J.go vm_q126 (k := 1) (hs := []) (f' := (bif vm_ic .ne 1 0 then 12 else 9, (0, 0), [.ref 0, .int 3], [])) (h' := (G, I, F)) (hs' := []) rfl rfl ?_
  refine vm_J.bT (by decide) ?_
  refine vm_J.go vm_q126 (k := 3) (hs := [(12, 9, [.ref 1, .ref 38, .ref 75, .ref 112, .ref 132, .ref 135, .ref 139, .int 0, .int 0]), (11, 7, [.ref (1 + 1), .ref (1 + 2), .ref (1 + 3), .ref (1 + 4), .ref (1 + 11), .ref (1 + 13), .ref (1 + 15)])]) (f' := (19, (0, 0), [.ref 0, .int 3], [.ref (1 + 4)])) (h' := (G, I, F)) (hs' := []) rfl (vm_b2 rfl (vm_b2 (vm_b2 (vm_hG hD.d) rfl) (vm_b2 (vm_b2 (vm_hG hD.w1.w) rfl) rfl))) ?_
  refine vm_J.call vm_q126 (Z := vm_M61) (n := 0) (k := 0) (mi := 61) (pc := 19) (en := (19, .invokevirtual 268, 3, [61, 887, 0], .null)) rfl trivial rfl rfl vm_z61 (av := [.ref (1 + 4)]) (rest := []) (m_isMade_y (o := 1 + 4) (a := 1 + 5) (b := 1 + 6) (c := 1 + 7) (d := 1 + 8) (e := 1 + 9) (f := 1 + 10) hD.w1.sh (by rw [hy]; decide)) ⟨_, _, rfl, rfl, _, 6, _, hD.w1.sh, rfl, rfl, rfl⟩ (Nat.le_of_ble_eq_true rfl) ⟨Nat.le_of_ble_eq_true rfl, Nat.le_of_ble_eq_true rfl⟩ ⟨Nat.le_of_ble_eq_true rfl, Nat.le_of_ble_eq_true rfl⟩ ?_
  show vm_J _ _ _ (22, (0, 0), [.ref 0, .int 3], [.int 1]) (G, I, F) _ _
  refine vm_J.go vm_q126 (k := 1) (hs := []) (f' := (bif vm_ic .ne 1 0 then 28 else 25, (0, 0), [.ref 0, .int 3], [])) (h' := (G, I, F)) (hs' := []) rfl rfl ?_
  refine vm_J.bT (by decide) ?_
  refine vm_J.go vm_q126 (k := 4) (hs := [(12, 9, [.ref 1, .ref 38, .ref 75, .ref 112, .ref 132, .ref 135, .ref 139, .int 0, .int 0]), (11, 7, [.ref (1 + 1), .ref (1 + 2), .ref (1 + 3), .ref (1 + 4), .ref (1 + 11), .ref (1 + 13), .ref (1 + 15)]), (8, 9, [.int 0, .int 0, .int 0, .ref (1 + 5), .ref (1 + 6), .ref (1 + 7), .ref (1 + 8), .ref (1 + 9), .ref (1 + 10)])]) (f' := (38, (0, 0), [.ref 0, .int 3], [.int (I (1 + 4) 0)])) (h' := (G, I, F)) (hs' := []) rfl (vm_b2 rfl (vm_b2 (vm_b2 (vm_hG hD.d) rfl) (vm_b2 (vm_b2 (vm_hG hD.w1.w) rfl) (vm_b2 (vm_b2 (vm_hG hD.w1.sh) rfl) rfl)))) ?_
  rw [(hy : I (1 + 4) 0 = 3)]
  refine vm_J.go vm_q126 (k := 1) (hs := []) (f' := (39, (0, 0), [.ref 0, .int 3], [.int 3, .int 3])) (h' := (G, I, F)) (hs' := []) rfl rfl ?_
  refine vm_J.call vm_q126 (Z := vm_M150) (n := 2) (k := 1) (mi := 150) (pc := 39) (en := (39, .invokestatic 313, 3, [150, 940, 0], .null)) rfl trivial rfl rfl vm_z150 (av := [.int 3, .int 3]) (rest := []) m_under_4_3 rfl (Nat.le_of_ble_eq_true rfl) ⟨Nat.le_of_ble_eq_true rfl, Nat.le_of_ble_eq_true rfl⟩ ⟨Nat.le_of_ble_eq_true rfl, Nat.le_of_ble_eq_true rfl⟩ ?_
  show vm_J _ _ _ (42, (0, 0), [.ref 0, .int 3], [.int 1]) (G, I, F) _ _
  refine vm_J.go vm_q126 (k := 1) (hs := []) (f' := (bif vm_ic .eq 1 0 then 58 else 45, (0, 0), [.ref 0, .int 3], [])) (h' := (G, I, F)) (hs' := []) rfl rfl ?_
  refine vm_J.bF (by decide) ?_
  refine vm_J.go vm_q126 (k := 4) (hs := [(12, 9, [.ref 1, .ref 38, .ref 75, .ref 112, .ref 132, .ref 135, .ref 139, .int 0, .int 0]), (11, 7, [.ref (1 + 1), .ref (1 + 2), .ref (1 + 3), .ref (1 + 4), .ref (1 + 11), .ref (1 + 13), .ref (1 + 15)]), (8, 9, [.int 0, .int 0, .int 0, .ref (1 + 5), .ref (1 + 6), .ref (1 + 7), .ref (1 + 8), .ref (1 + 9), .ref (1 + 10)])]) (f' := (55, (0, 0), [.ref 0, .int 3], [.int (I (1 + 4) 0)])) (h' := (G, I, F)) (hs' := []) rfl (vm_b2 rfl (vm_b2 (vm_b2 (vm_hG hD.d) rfl) (vm_b2 (vm_b2 (vm_hG hD.w1.w) rfl) (vm_b2 (vm_b2 (vm_hG hD.w1.sh) rfl) rfl)))) ?_
  rw [(hy : I (1 + 4) 0 = 3)]
  refine vm_J.go vm_q126 (k := 1) (hs := []) (f' := (60, (0, 0), [.ref 0, .int 3], [.int 3])) (h' := (G, I, F)) (hs' := []) rfl rfl ?_
  exact vm_J.end vm_q126 (en := (60, .ireturn, 1, [], .null)) rfl rfl vm_rI (Nat.zero_le _) (Nat.zero_le _) rfl
set_option maxHeartbeats 4000000 in
set_option maxRecDepth 20000 in
/-- DitherDesk.taken -/
theorem c_taken_3_4 {l : Launch} {X : vm_Cx} {G : List vm_Sh} {I : Nat → Nat → Int32} {F : Nat → Nat → UInt32}  (hD : vm_isD G) (hy : I (1 + 4) 0 = 3) : vm_K l X vm_M126 [.ref 0, .int 4] (G, I, F) (some (.int (-12))) (G, I, F) := by
  refine vm_K.mk (by decide) (Nat.le_of_ble_eq_true rfl) ?_
  show vm_J _ _ _ (0, (0, 0), [.ref 0, .int 4], []) _ _ _
  refine vm_J.go vm_q126 (k := 3) (hs := []) (f' := (3, (0, 0), [.ref 0, .int 4], [.int 4, .int 0, .int 4])) (h' := (G, I, F)) (hs' := []) rfl rfl ?_
  refine vm_J.call vm_q126 (Z := vm_M151) (n := 3) (k := 1) (mi := 151) (pc := 3) (en := (3, .invokestatic 56, 3, [151, 420, 0], .null)) rfl trivial rfl rfl vm_z151 (av := [.int 4, .int 0, .int 4]) (rest := []) (m_isWithin_y (v := 4) (a := 0) (b := 4) (by decide)) rfl (Nat.le_of_ble_eq_true rfl) ⟨Nat.le_of_ble_eq_true rfl, Nat.le_of_ble_eq_true rfl⟩ ⟨Nat.le_of_ble_eq_true rfl, Nat.le_of_ble_eq_true rfl⟩ ?_
  show vm_J _ _ _ (6, (0, 0), [.ref 0, .int 4], [.int 1]) (G, I, F) _ _
  refine vm_J.go vm_q126 (k := 1) (hs := []) (f' := (bif vm_ic .ne 1 0 then 12 else 9, (0, 0), [.ref 0, .int 4], [])) (h' := (G, I, F)) (hs' := []) rfl rfl ?_
  refine vm_J.bT (by decide) ?_
  refine vm_J.go vm_q126 (k := 3) (hs := [(12, 9, [.ref 1, .ref 38, .ref 75, .ref 112, .ref 132, .ref 135, .ref 139, .int 0, .int 0]), (11, 7, [.ref (1 + 1), .ref (1 + 2), .ref (1 + 3), .ref (1 + 4), .ref (1 + 11), .ref (1 + 13), .ref (1 + 15)])]) (f' := (19, (0, 0), [.ref 0, .int 4], [.ref (1 + 4)])) (h' := (G, I, F)) (hs' := []) rfl (vm_b2 rfl (vm_b2 (vm_b2 (vm_hG hD.d) rfl) (vm_b2 (vm_b2 (vm_hG hD.w1.w) rfl) rfl))) ?_
  refine vm_J.call vm_q126 (Z := vm_M61) (n := 0) (k := 0) (mi := 61) (pc := 19) (en := (19, .invokevirtual 268, 3, [61, 887, 0], .null)) rfl trivial rfl rfl vm_z61 (av := [.ref (1 + 4)]) (rest := []) (m_isMade_y (o := 1 + 4) (a := 1 + 5) (b := 1 + 6) (c := 1 + 7) (d := 1 + 8) (e := 1 + 9) (f := 1 + 10) hD.w1.sh (by rw [hy]; decide)) ⟨_, _, rfl, rfl, _, 6, _, hD.w1.sh, rfl, rfl, rfl⟩ (Nat.le_of_ble_eq_true rfl) ⟨Nat.le_of_ble_eq_true rfl, Nat.le_of_ble_eq_true rfl⟩ ⟨Nat.le_of_ble_eq_true rfl, Nat.le_of_ble_eq_true rfl⟩ ?_
  show vm_J _ _ _ (22, (0, 0), [.ref 0, .int 4], [.int 1]) (G, I, F) _ _
  refine vm_J.go vm_q126 (k := 1) (hs := []) (f' := (bif vm_ic .ne 1 0 then 28 else 25, (0, 0), [.ref 0, .int 4], [])) (h' := (G, I, F)) (hs' := []) rfl rfl ?_
  refine vm_J.bT (by decide) ?_
  refine vm_J.go vm_q126 (k := 4) (hs := [(12, 9, [.ref 1, .ref 38, .ref 75, .ref 112, .ref 132, .ref 135, .ref 139, .int 0, .int 0]), (11, 7, [.ref (1 + 1), .ref (1 + 2), .ref (1 + 3), .ref (1 + 4), .ref (1 + 11), .ref (1 + 13), .ref (1 + 15)]), (8, 9, [.int 0, .int 0, .int 0, .ref (1 + 5), .ref (1 + 6), .ref (1 + 7), .ref (1 + 8), .ref (1 + 9), .ref (1 + 10)])]) (f' := (38, (0, 0), [.ref 0, .int 4], [.int (I (1 + 4) 0)])) (h' := (G, I, F)) (hs' := []) rfl (vm_b2 rfl (vm_b2 (vm_b2 (vm_hG hD.d) rfl) (vm_b2 (vm_b2 (vm_hG hD.w1.w) rfl) (vm_b2 (vm_b2 (vm_hG hD.w1.sh) rfl) rfl)))) ?_
  rw [(hy : I (1 + 4) 0 = 3)]
  refine vm_J.go vm_q126 (k := 1) (hs := []) (f' := (39, (0, 0), [.ref 0, .int 4], [.int 4, .int 3])) (h' := (G, I, F)) (hs' := []) rfl rfl ?_
  refine vm_J.call vm_q126 (Z := vm_M150) (n := 2) (k := 1) (mi := 150) (pc := 39) (en := (39, .invokestatic 313, 3, [150, 940, 0], .null)) rfl trivial rfl rfl vm_z150 (av := [.int 3, .int 4]) (rest := []) m_under_4_4 rfl (Nat.le_of_ble_eq_true rfl) ⟨Nat.le_of_ble_eq_true rfl, Nat.le_of_ble_eq_true rfl⟩ ⟨Nat.le_of_ble_eq_true rfl, Nat.le_of_ble_eq_true rfl⟩ ?_
  show vm_J _ _ _ (42, (0, 0), [.ref 0, .int 4], [.int 0]) (G, I, F) _ _
  refine vm_J.go vm_q126 (k := 1) (hs := []) (f' := (bif vm_ic .eq 0 0 then 58 else 45, (0, 0), [.ref 0, .int 4], [])) (h' := (G, I, F)) (hs' := []) rfl rfl ?_
  refine vm_J.bT (by decide) ?_
  refine vm_J.go vm_q126 (k := 1) (hs := []) (f' := (60, (0, 0), [.ref 0, .int 4], [.int (-12)])) (h' := (G, I, F)) (hs' := []) rfl rfl ?_
  exact vm_J.end vm_q126 (en := (60, .ireturn, 1, [], .null)) rfl rfl vm_rI (Nat.zero_le _) (Nat.zero_le _) rfl
set_option maxHeartbeats 4000000 in
set_option maxRecDepth 20000 in
/-- DitherDesk.taken -/
theorem c_taken_4_0 {l : Launch} {X : vm_Cx} {G : List vm_Sh} {I : Nat → Nat → Int32} {F : Nat → Nat → UInt32}  (hD : vm_isD G) (hy : I (1 + 4) 0 = 4) : vm_K l X vm_M126 [.ref 0, .int 0] (G, I, F) (some (.int (4))) (G, I, F) := by
  refine vm_K.mk (by decide) (Nat.le_of_ble_eq_true rfl) ?_
  show vm_J _ _ _ (0, (0, 0), [.ref 0, .int 0], []) _ _ _
  refine vm_J.go vm_q126 (k := 3) (hs := []) (f' := (3, (0, 0), [.ref 0, .int 0], [.int 4, .int 0, .int 0])) (h' := (G, I, F)) (hs' := []) rfl rfl ?_
  refine vm_J.call vm_q126 (Z := vm_M151) (n := 3) (k := 1) (mi := 151) (pc := 3) (en := (3, .invokestatic 56, 3, [151, 420, 0], .null)) rfl trivial rfl rfl vm_z151 (av := [.int 0, .int 0, .int 4]) (rest := []) (m_isWithin_y (v := 0) (a := 0) (b := 4) (by decide)) rfl (Nat.le_of_ble_eq_true rfl) ⟨Nat.le_of_ble_eq_true rfl, Nat.le_of_ble_eq_true rfl⟩ ⟨Nat.le_of_ble_eq_true rfl, Nat.le_of_ble_eq_true rfl⟩ ?_
  show vm_J _ _ _ (6, (0, 0), [.ref 0, .int 0], [.int 1]) (G, I, F) _ _
  refine vm_J.go vm_q126 (k := 1) (hs := []) (f' := (bif vm_ic .ne 1 0 then 12 else 9, (0, 0), [.ref 0, .int 0], [])) (h' := (G, I, F)) (hs' := []) rfl rfl ?_
  refine vm_J.bT (by decide) ?_
  refine vm_J.go vm_q126 (k := 3) (hs := [(12, 9, [.ref 1, .ref 38, .ref 75, .ref 112, .ref 132, .ref 135, .ref 139, .int 0, .int 0]), (11, 7, [.ref (1 + 1), .ref (1 + 2), .ref (1 + 3), .ref (1 + 4), .ref (1 + 11), .ref (1 + 13), .ref (1 + 15)])]) (f' := (19, (0, 0), [.ref 0, .int 0], [.ref (1 + 4)])) (h' := (G, I, F)) (hs' := []) rfl (vm_b2 rfl (vm_b2 (vm_b2 (vm_hG hD.d) rfl) (vm_b2 (vm_b2 (vm_hG hD.w1.w) rfl) rfl))) ?_
  refine vm_J.call vm_q126 (Z := vm_M61) (n := 0) (k := 0) (mi := 61) (pc := 19) (en := (19, .invokevirtual 268, 3, [61, 887, 0], .null)) rfl trivial rfl rfl vm_z61 (av := [.ref (1 + 4)]) (rest := []) (m_isMade_y (o := 1 + 4) (a := 1 + 5) (b := 1 + 6) (c := 1 + 7) (d := 1 + 8) (e := 1 + 9) (f := 1 + 10) hD.w1.sh (by rw [hy]; decide)) ⟨_, _, rfl, rfl, _, 6, _, hD.w1.sh, rfl, rfl, rfl⟩ (Nat.le_of_ble_eq_true rfl) ⟨Nat.le_of_ble_eq_true rfl, Nat.le_of_ble_eq_true rfl⟩ ⟨Nat.le_of_ble_eq_true rfl, Nat.le_of_ble_eq_true rfl⟩ ?_
  show vm_J _ _ _ (22, (0, 0), [.ref 0, .int 0], [.int 1]) (G, I, F) _ _
  refine vm_J.go vm_q126 (k := 1) (hs := []) (f' := (bif vm_ic .ne 1 0 then 28 else 25, (0, 0), [.ref 0, .int 0], [])) (h' := (G, I, F)) (hs' := []) rfl rfl ?_
  refine vm_J.bT (by decide) ?_
  refine vm_J.go vm_q126 (k := 4) (hs := [(12, 9, [.ref 1, .ref 38, .ref 75, .ref 112, .ref 132, .ref 135, .ref 139, .int 0, .int 0]), (11, 7, [.ref (1 + 1), .ref (1 + 2), .ref (1 + 3), .ref (1 + 4), .ref (1 + 11), .ref (1 + 13), .ref (1 + 15)]), (8, 9, [.int 0, .int 0, .int 0, .ref (1 + 5), .ref (1 + 6), .ref (1 + 7), .ref (1 + 8), .ref (1 + 9), .ref (1 + 10)])]) (f' := (38, (0, 0), [.ref 0, .int 0], [.int (I (1 + 4) 0)])) (h' := (G, I, F)) (hs' := []) rfl (vm_b2 rfl (vm_b2 (vm_b2 (vm_hG hD.d) rfl) (vm_b2 (vm_b2 (vm_hG hD.w1.w) rfl) (vm_b2 (vm_b2 (vm_hG hD.w1.sh) rfl) rfl)))) ?_
  rw [(hy : I (1 + 4) 0 = 4)]
  refine vm_J.go vm_q126 (k := 1) (hs := []) (f' := (39, (0, 0), [.ref 0, .int 0], [.int 0, .int 4])) (h' := (G, I, F)) (hs' := []) rfl rfl ?_
  refine vm_J.call vm_q126 (Z := vm_M150) (n := 2) (k := 1) (mi := 150) (pc := 39) (en := (39, .invokestatic 313, 3, [150, 940, 0], .null)) rfl trivial rfl rfl vm_z150 (av := [.int 4, .int 0]) (rest := []) m_under_5_0 rfl (Nat.le_of_ble_eq_true rfl) ⟨Nat.le_of_ble_eq_true rfl, Nat.le_of_ble_eq_true rfl⟩ ⟨Nat.le_of_ble_eq_true rfl, Nat.le_of_ble_eq_true rfl⟩ ?_
  show vm_J _ _ _ (42, (0, 0), [.ref 0, .int 0], [.int 1]) (G, I, F) _ _
  refine vm_J.go vm_q126 (k := 1) (hs := []) (f' := (bif vm_ic .eq 1 0 then 58 else 45, (0, 0), [.ref 0, .int 0], [])) (h' := (G, I, F)) (hs' := []) rfl rfl ?_
  refine vm_J.bF (by decide) ?_
  refine vm_J.go vm_q126 (k := 4) (hs := [(12, 9, [.ref 1, .ref 38, .ref 75, .ref 112, .ref 132, .ref 135, .ref 139, .int 0, .int 0]), (11, 7, [.ref (1 + 1), .ref (1 + 2), .ref (1 + 3), .ref (1 + 4), .ref (1 + 11), .ref (1 + 13), .ref (1 + 15)]), (8, 9, [.int 0, .int 0, .int 0, .ref (1 + 5), .ref (1 + 6), .ref (1 + 7), .ref (1 + 8), .ref (1 + 9), .ref (1 + 10)])]) (f' := (55, (0, 0), [.ref 0, .int 0], [.int (I (1 + 4) 0)])) (h' := (G, I, F)) (hs' := []) rfl (vm_b2 rfl (vm_b2 (vm_b2 (vm_hG hD.d) rfl) (vm_b2 (vm_b2 (vm_hG hD.w1.w) rfl) (vm_b2 (vm_b2 (vm_hG hD.w1.sh) rfl) rfl)))) ?_
  rw [(hy : I (1 + 4) 0 = 4)]
  refine vm_J.go vm_q126 (k := 1) (hs := []) (f' := (60, (0, 0), [.ref 0, .int 0], [.int 4])) (h' := (G, I, F)) (hs' := []) rfl rfl ?_
  exact vm_J.end vm_q126 (en := (60, .ireturn, 1, [], .null)) rfl rfl vm_rI (Nat.zero_le _) (Nat.zero_le _) rfl
set_option maxHeartbeats 4000000 in
set_option maxRecDepth 20000 in
/-- DitherDesk.taken -/
theorem c_taken_4_1 {l : Launch} {X : vm_Cx} {G : List vm_Sh} {I : Nat → Nat → Int32} {F : Nat → Nat → UInt32}  (hD : vm_isD G) (hy : I (1 + 4) 0 = 4) : vm_K l X vm_M126 [.ref 0, .int 1] (G, I, F) (some (.int (-12))) (G, I, F) := by
  refine vm_K.mk (by decide) (Nat.le_of_ble_eq_true rfl) ?_
  show vm_J _ _ _ (0, (0, 0), [.ref 0, .int 1], []) _ _ _
  refine vm_J.go vm_q126 (k := 3) (hs := []) (f' := (3, (0, 0), [.ref 0, .int 1], [.int 4, .int 0, .int 1])) (h' := (G, I, F)) (hs' := []) rfl rfl ?_
  refine vm_J.call vm_q126 (Z := vm_M151) (n := 3) (k := 1) (mi := 151) (pc := 3) (en := (3, .invokestatic 56, 3, [151, 420, 0], .null)) rfl trivial rfl rfl vm_z151 (av := [.int 1, .int 0, .int 4]) (rest := []) (m_isWithin_y (v := 1) (a := 0) (b := 4) (by decide)) rfl (Nat.le_of_ble_eq_true rfl) ⟨Nat.le_of_ble_eq_true rfl, Nat.le_of_ble_eq_true rfl⟩ ⟨Nat.le_of_ble_eq_true rfl, Nat.le_of_ble_eq_true rfl⟩ ?_
  show vm_J _ _ _ (6, (0, 0), [.ref 0, .int 1], [.int 1]) (G, I, F) _ _
  refine vm_J.go vm_q126 (k := 1) (hs := []) (f' := (bif vm_ic .ne 1 0 then 12 else 9, (0, 0), [.ref 0, .int 1], [])) (h' := (G, I, F)) (hs' := []) rfl rfl ?_
  refine vm_J.bT (by decide) ?_
  refine vm_J.go vm_q126 (k := 3) (hs := [(12, 9, [.ref 1, .ref 38, .ref 75, .ref 112, .ref 132, .ref 135, .ref 139, .int 0, .int 0]), (11, 7, [.ref (1 + 1), .ref (1 + 2), .ref (1 + 3), .ref (1 + 4), .ref (1 + 11), .ref (1 + 13), .ref (1 + 15)])]) (f' := (19, (0, 0), [.ref 0, .int 1], [.ref (1 + 4)])) (h' := (G, I, F)) (hs' := []) rfl (vm_b2 rfl (vm_b2 (vm_b2 (vm_hG hD.d) rfl) (vm_b2 (vm_b2 (vm_hG hD.w1.w) rfl) rfl))) ?_
  refine vm_J.call vm_q126 (Z := vm_M61) (n := 0) (k := 0) (mi := 61) (pc := 19) (en := (19, .invokevirtual 268, 3, [61, 887, 0], .null)) rfl trivial rfl rfl vm_z61 (av := [.ref (1 + 4)]) (rest := []) (m_isMade_y (o := 1 + 4) (a := 1 + 5) (b := 1 + 6) (c := 1 + 7) (d := 1 + 8) (e := 1 + 9) (f := 1 + 10) hD.w1.sh (by rw [hy]; decide)) ⟨_, _, rfl, rfl, _, 6, _, hD.w1.sh, rfl, rfl, rfl⟩ (Nat.le_of_ble_eq_true rfl) ⟨Nat.le_of_ble_eq_true rfl, Nat.le_of_ble_eq_true rfl⟩ ⟨Nat.le_of_ble_eq_true rfl, Nat.le_of_ble_eq_true rfl⟩ ?_
  show vm_J _ _ _ (22, (0, 0), [.ref 0, .int 1], [.int 1]) (G, I, F) _ _
  refine vm_J.go vm_q126 (k := 1) (hs := []) (f' := (bif vm_ic .ne 1 0 then 28 else 25, (0, 0), [.ref 0, .int 1], [])) (h' := (G, I, F)) (hs' := []) rfl rfl ?_
  refine vm_J.bT (by decide) ?_
  refine vm_J.go vm_q126 (k := 4) (hs := [(12, 9, [.ref 1, .ref 38, .ref 75, .ref 112, .ref 132, .ref 135, .ref 139, .int 0, .int 0]), (11, 7, [.ref (1 + 1), .ref (1 + 2), .ref (1 + 3), .ref (1 + 4), .ref (1 + 11), .ref (1 + 13), .ref (1 + 15)]), (8, 9, [.int 0, .int 0, .int 0, .ref (1 + 5), .ref (1 + 6), .ref (1 + 7), .ref (1 + 8), .ref (1 + 9), .ref (1 + 10)])]) (f' := (38, (0, 0), [.ref 0, .int 1], [.int (I (1 + 4) 0)])) (h' := (G, I, F)) (hs' := []) rfl (vm_b2 rfl (vm_b2 (vm_b2 (vm_hG hD.d) rfl) (vm_b2 (vm_b2 (vm_hG hD.w1.w) rfl) (vm_b2 (vm_b2 (vm_hG hD.w1.sh) rfl) rfl)))) ?_
  rw [(hy : I (1 + 4) 0 = 4)]
  refine vm_J.go vm_q126 (k := 1) (hs := []) (f' := (39, (0, 0), [.ref 0, .int 1], [.int 1, .int 4])) (h' := (G, I, F)) (hs' := []) rfl rfl ?_
  refine vm_J.call vm_q126 (Z := vm_M150) (n := 2) (k := 1) (mi := 150) (pc := 39) (en := (39, .invokestatic 313, 3, [150, 940, 0], .null)) rfl trivial rfl rfl vm_z150 (av := [.int 4, .int 1]) (rest := []) m_under_5_1 rfl (Nat.le_of_ble_eq_true rfl) ⟨Nat.le_of_ble_eq_true rfl, Nat.le_of_ble_eq_true rfl⟩ ⟨Nat.le_of_ble_eq_true rfl, Nat.le_of_ble_eq_true rfl⟩ ?_
  show vm_J _ _ _ (42, (0, 0), [.ref 0, .int 1], [.int 0]) (G, I, F) _ _
  refine vm_J.go vm_q126 (k := 1) (hs := []) (f' := (bif vm_ic .eq 0 0 then 58 else 45, (0, 0), [.ref 0, .int 1], [])) (h' := (G, I, F)) (hs' := []) rfl rfl ?_
  refine vm_J.bT (by decide) ?_
  refine vm_J.go vm_q126 (k := 1) (hs := []) (f' := (60, (0, 0), [.ref 0, .int 1], [.int (-12)])) (h' := (G, I, F)) (hs' := []) rfl rfl ?_
  exact vm_J.end vm_q126 (en := (60, .ireturn, 1, [], .null)) rfl rfl vm_rI (Nat.zero_le _) (Nat.zero_le _) rfl
set_option maxHeartbeats 4000000 in
set_option maxRecDepth 20000 in
/-- DitherDesk.taken -/
theorem c_taken_4_2 {l : Launch} {X : vm_Cx} {G : List vm_Sh} {I : Nat → Nat → Int32} {F : Nat → Nat → UInt32}  (hD : vm_isD G) (hy : I (1 + 4) 0 = 4) : vm_K l X vm_M126 [.ref 0, .int 2] (G, I, F) (some (.int (-12))) (G, I, F) := by
  refine vm_K.mk (by decide) (Nat.le_of_ble_eq_true rfl) ?_
  show vm_J _ _ _ (0, (0, 0), [.ref 0, .int 2], []) _ _ _
  refine vm_J.go vm_q126 (k := 3) (hs := []) (f' := (3, (0, 0), [.ref 0, .int 2], [.int 4, .int 0, .int 2])) (h' := (G, I, F)) (hs' := []) rfl rfl ?_
  refine vm_J.call vm_q126 (Z := vm_M151) (n := 3) (k := 1) (mi := 151) (pc := 3) (en := (3, .invokestatic 56, 3, [151, 420, 0], .null)) rfl trivial rfl rfl vm_z151 (av := [.int 2, .int 0, .int 4]) (rest := []) (m_isWithin_y (v := 2) (a := 0) (b := 4) (by decide)) rfl (Nat.le_of_ble_eq_true rfl) ⟨Nat.le_of_ble_eq_true rfl, Nat.le_of_ble_eq_true rfl⟩ ⟨Nat.le_of_ble_eq_true rfl, Nat.le_of_ble_eq_true rfl⟩ ?_
  show vm_J _ _ _ (6, (0, 0), [.ref 0, .int 2], [.int 1]) (G, I, F) _ _
  refine vm_J.go vm_q126 (k := 1) (hs := []) (f' := (bif vm_ic .ne 1 0 then 12 else 9, (0, 0), [.ref 0, .int 2], [])) (h' := (G, I, F)) (hs' := []) rfl rfl ?_
  refine vm_J.bT (by decide) ?_
  refine vm_J.go vm_q126 (k := 3) (hs := [(12, 9, [.ref 1, .ref 38, .ref 75, .ref 112, .ref 132, .ref 135, .ref 139, .int 0, .int 0]), (11, 7, [.ref (1 + 1), .ref (1 + 2), .ref (1 + 3), .ref (1 + 4), .ref (1 + 11), .ref (1 + 13), .ref (1 + 15)])]) (f' := (19, (0, 0), [.ref 0, .int 2], [.ref (1 + 4)])) (h' := (G, I, F)) (hs' := []) rfl (vm_b2 rfl (vm_b2 (vm_b2 (vm_hG hD.d) rfl) (vm_b2 (vm_b2 (vm_hG hD.w1.w) rfl) rfl))) ?_
  refine vm_J.call vm_q126 (Z := vm_M61) (n := 0) (k := 0) (mi := 61) (pc := 19) (en := (19, .invokevirtual 268, 3, [61, 887, 0], .null)) rfl trivial rfl rfl vm_z61 (av := [.ref (1 + 4)]) (rest := []) (m_isMade_y (o := 1 + 4) (a := 1 + 5) (b := 1 + 6) (c := 1 + 7) (d := 1 + 8) (e := 1 + 9) (f := 1 + 10) hD.w1.sh (by rw [hy]; decide)) ⟨_, _, rfl, rfl, _, 6, _, hD.w1.sh, rfl, rfl, rfl⟩ (Nat.le_of_ble_eq_true rfl) ⟨Nat.le_of_ble_eq_true rfl, Nat.le_of_ble_eq_true rfl⟩ ⟨Nat.le_of_ble_eq_true rfl, Nat.le_of_ble_eq_true rfl⟩ ?_
  show vm_J _ _ _ (22, (0, 0), [.ref 0, .int 2], [.int 1]) (G, I, F) _ _
  refine vm_J.go vm_q126 (k := 1) (hs := []) (f' := (bif vm_ic .ne 1 0 then 28 else 25, (0, 0), [.ref 0, .int 2], [])) (h' := (G, I, F)) (hs' := []) rfl rfl ?_
  refine vm_J.bT (by decide) ?_
  refine vm_J.go vm_q126 (k := 4) (hs := [(12, 9, [.ref 1, .ref 38, .ref 75, .ref 112, .ref 132, .ref 135, .ref 139, .int 0, .int 0]), (11, 7, [.ref (1 + 1), .ref (1 + 2), .ref (1 + 3), .ref (1 + 4), .ref (1 + 11), .ref (1 + 13), .ref (1 + 15)]), (8, 9, [.int 0, .int 0, .int 0, .ref (1 + 5), .ref (1 + 6), .ref (1 + 7), .ref (1 + 8), .ref (1 + 9), .ref (1 + 10)])]) (f' := (38, (0, 0), [.ref 0, .int 2], [.int (I (1 + 4) 0)])) (h' := (G, I, F)) (hs' := []) rfl (vm_b2 rfl (vm_b2 (vm_b2 (vm_hG hD.d) rfl) (vm_b2 (vm_b2 (vm_hG hD.w1.w) rfl) (vm_b2 (vm_b2 (vm_hG hD.w1.sh) rfl) rfl)))) ?_
  rw [(hy : I (1 + 4) 0 = 4)]
  refine vm_J.go vm_q126 (k := 1) (hs := []) (f' := (39, (0, 0), [.ref 0, .int 2], [.int 2, .int 4])) (h' := (G, I, F)) (hs' := []) rfl rfl ?_
  refine vm_J.call vm_q126 (Z := vm_M150) (n := 2) (k := 1) (mi := 150) (pc := 39) (en := (39, .invokestatic 313, 3, [150, 940, 0], .null)) rfl trivial rfl rfl vm_z150 (av := [.int 4, .int 2]) (rest := []) m_under_5_2 rfl (Nat.le_of_ble_eq_true rfl) ⟨Nat.le_of_ble_eq_true rfl, Nat.le_of_ble_eq_true rfl⟩ ⟨Nat.le_of_ble_eq_true rfl, Nat.le_of_ble_eq_true rfl⟩ ?_
  show vm_J _ _ _ (42, (0, 0), [.ref 0, .int 2], [.int 0]) (G, I, F) _ _
  refine vm_J.go vm_q126 (k := 1) (hs := []) (f' := (bif vm_ic .eq 0 0 then 58 else 45, (0, 0), [.ref 0, .int 2], [])) (h' := (G, I, F)) (hs' := []) rfl rfl ?_
  refine vm_J.bT (by decide) ?_
  refine vm_J.go vm_q126 (k := 1) (hs := []) (f' := (60, (0, 0), [.ref 0, .int 2], [.int (-12)])) (h' := (G, I, F)) (hs' := []) rfl rfl ?_
  exact vm_J.end vm_q126 (en := (60, .ireturn, 1, [], .null)) rfl rfl vm_rI (Nat.zero_le _) (Nat.zero_le _) rfl
set_option maxHeartbeats 4000000 in
set_option maxRecDepth 20000 in
/-- DitherDesk.taken -/
theorem c_taken_4_3 {l : Launch} {X : vm_Cx} {G : List vm_Sh} {I : Nat → Nat → Int32} {F : Nat → Nat → UInt32}  (hD : vm_isD G) (hy : I (1 + 4) 0 = 4) : vm_K l X vm_M126 [.ref 0, .int 3] (G, I, F) (some (.int (4))) (G, I, F) := by
  refine vm_K.mk (by decide) (Nat.le_of_ble_eq_true rfl) ?_
  show vm_J _ _ _ (0, (0, 0), [.ref 0, .int 3], []) _ _ _
  refine vm_J.go vm_q126 (k := 3) (hs := []) (f' := (3, (0, 0), [.ref 0, .int 3], [.int 4, .int 0, .int 3])) (h' := (G, I, F)) (hs' := []) rfl rfl ?_
  refine vm_J.call vm_q126 (Z := vm_M151) (n := 3) (k := 1) (mi := 151) (pc := 3) (en := (3, .invokestatic 56, 3, [151, 420, 0], .null)) rfl trivial rfl rfl vm_z151 (av := [.int 3, .int 0, .int 4]) (rest := []) (m_isWithin_y (v := 3) (a := 0) (b := 4) (by decide)) rfl (Nat.le_of_ble_eq_true rfl) ⟨Nat.le_of_ble_eq_true rfl, Nat.le_of_ble_eq_true rfl⟩ ⟨Nat.le_of_ble_eq_true rfl, Nat.le_of_ble_eq_true rfl⟩ ?_
  show vm_J _ _ _ (6, (0, 0), [.ref 0, .int 3], [.int 1]) (G, I, F) _ _
  refine vm_J.go vm_q126 (k := 1) (hs := []) (f' := (bif vm_ic .ne 1 0 then 12 else 9, (0, 0), [.ref 0, .int 3], [])) (h' := (G, I, F)) (hs' := []) rfl rfl ?_
  refine vm_J.bT (by decide) ?_
  refine vm_J.go vm_q126 (k := 3) (hs := [(12, 9, [.ref 1, .ref 38, .ref 75, .ref 112, .ref 132, .ref 135, .ref 139, .int 0, .int 0]), (11, 7, [.ref (1 + 1), .ref (1 + 2), .ref (1 + 3), .ref (1 + 4), .ref (1 + 11), .ref (1 + 13), .ref (1 + 15)])]) (f' := (19, (0, 0), [.ref 0, .int 3], [.ref (1 + 4)])) (h' := (G, I, F)) (hs' := []) rfl (vm_b2 rfl (vm_b2 (vm_b2 (vm_hG hD.d) rfl) (vm_b2 (vm_b2 (vm_hG hD.w1.w) rfl) rfl))) ?_
  refine vm_J.call vm_q126 (Z := vm_M61) (n := 0) (k := 0) (mi := 61) (pc := 19) (en := (19, .invokevirtual 268, 3, [61, 887, 0], .null)) rfl trivial rfl rfl vm_z61 (av := [.ref (1 + 4)]) (rest := []) (m_isMade_y (o := 1 + 4) (a := 1 + 5) (b := 1 + 6) (c := 1 + 7) (d := 1 + 8) (e := 1 + 9) (f := 1 + 10) hD.w1.sh (by rw [hy]; decide)) ⟨_, _, rfl, rfl, _, 6, _, hD.w1.sh, rfl, rfl, rfl⟩ (Nat.le_of_ble_eq_true rfl) ⟨Nat.le_of_ble_eq_true rfl, Nat.le_of_ble_eq_true rfl⟩ ⟨Nat.le_of_ble_eq_true rfl, Nat.le_of_ble_eq_true rfl⟩ ?_
  show vm_J _ _ _ (22, (0, 0), [.ref 0, .int 3], [.int 1]) (G, I, F) _ _
  refine vm_J.go vm_q126 (k := 1) (hs := []) (f' := (bif vm_ic .ne 1 0 then 28 else 25, (0, 0), [.ref 0, .int 3], [])) (h' := (G, I, F)) (hs' := []) rfl rfl ?_
  refine vm_J.bT (by decide) ?_
  refine vm_J.go vm_q126 (k := 4) (hs := [(12, 9, [.ref 1, .ref 38, .ref 75, .ref 112, .ref 132, .ref 135, .ref 139, .int 0, .int 0]), (11, 7, [.ref (1 + 1), .ref (1 + 2), .ref (1 + 3), .ref (1 + 4), .ref (1 + 11), .ref (1 + 13), .ref (1 + 15)]), (8, 9, [.int 0, .int 0, .int 0, .ref (1 + 5), .ref (1 + 6), .ref (1 + 7), .ref (1 + 8), .ref (1 + 9), .ref (1 + 10)])]) (f' := (38, (0, 0), [.ref 0, .int 3], [.int (I (1 + 4) 0)])) (h' := (G, I, F)) (hs' := []) rfl (vm_b2 rfl (vm_b2 (vm_b2 (vm_hG hD.d) rfl) (vm_b2 (vm_b2 (vm_hG hD.w1.w) rfl) (vm_b2 (vm_b2 (vm_hG hD.w1.sh) rfl) rfl)))) ?_
  rw [(hy : I (1 + 4) 0 = 4)]
  refine vm_J.go vm_q126 (k := 1) (hs := []) (f' := (39, (0, 0), [.ref 0, .int 3], [.int 3, .int 4])) (h' := (G, I, F)) (hs' := []) rfl rfl ?_
  refine vm_J.call vm_q126 (Z := vm_M150) (n := 2) (k := 1) (mi := 150) (pc := 39) (en := (39, .invokestatic 313, 3, [150, 940, 0], .null)) rfl trivial rfl rfl vm_z150 (av := [.int 4, .int 3]) (rest := []) m_under_5_3 rfl (Nat.le_of_ble_eq_true rfl) ⟨Nat.le_of_ble_eq_true rfl, Nat.le_of_ble_eq_true rfl⟩ ⟨Nat.le_of_ble_eq_true rfl, Nat.le_of_ble_eq_true rfl⟩ ?_
  show vm_J _ _ _ (42, (0, 0), [.ref 0, .int 3], [.int 1]) (G, I, F) _ _
  refine vm_J.go vm_q126 (k := 1) (hs := []) (f' := (bif vm_ic .eq 1 0 then 58 else 45, (0, 0), [.ref 0, .int 3], [])) (h' := (G, I, F)) (hs' := []) rfl rfl ?_
  refine vm_J.bF (by decide) ?_
  refine vm_J.go vm_q126 (k := 4) (hs := [(12, 9, [.ref 1, .ref 38, .ref 75, .ref 112, .ref 132, .ref 135, .ref 139, .int 0, .int 0]), (11, 7, [.ref (1 + 1), .ref (1 + 2), .ref (1 + 3), .ref (1 + 4), .ref (1 + 11), .ref (1 + 13), .ref (1 + 15)]), (8, 9, [.int 0, .int 0, .int 0, .ref (1 + 5), .ref (1 + 6), .ref (1 + 7), .ref (1 + 8), .ref (1 + 9), .ref (1 + 10)])]) (f' := (55, (0, 0), [.ref 0, .int 3], [.int (I (1 + 4) 0)])) (h' := (G, I, F)) (hs' := []) rfl (vm_b2 rfl (vm_b2 (vm_b2 (vm_hG hD.d) rfl) (vm_b2 (vm_b2 (vm_hG hD.w1.w) rfl) (vm_b2 (vm_b2 (vm_hG hD.w1.sh) rfl) rfl)))) ?_
  rw [(hy : I (1 + 4) 0 = 4)]
  refine vm_J.go vm_q126 (k := 1) (hs := []) (f' := (60, (0, 0), [.ref 0, .int 3], [.int 4])) (h' := (G, I, F)) (hs' := []) rfl rfl ?_
  exact vm_J.end vm_q126 (en := (60, .ireturn, 1, [], .null)) rfl rfl vm_rI (Nat.zero_le _) (Nat.zero_le _) rfl
set_option maxHeartbeats 4000000 in
set_option maxRecDepth 20000 in
/-- DitherDesk.taken -/
theorem c_taken_4_4 {l : Launch} {X : vm_Cx} {G : List vm_Sh} {I : Nat → Nat → Int32} {F : Nat → Nat → UInt32}  (hD : vm_isD G) (hy : I (1 + 4) 0 = 4) : vm_K l X vm_M126 [.ref 0, .int 4] (G, I, F) (some (.int (4))) (G, I, F) := by
  refine vm_K.mk (by decide) (Nat.le_of_ble_eq_true rfl) ?_
  show vm_J _ _ _ (0, (0, 0), [.ref 0, .int 4], []) _ _ _
  refine vm_J.go vm_q126 (k := 3) (hs := []) (f' := (3, (0, 0), [.ref 0, .int 4], [.int 4, .int 0, .int 4])) (h' := (G, I, F)) (hs' := []) rfl rfl ?_
  refine vm_J.call vm_q126 (Z := vm_M151) (n := 3) (k := 1) (mi := 151) (pc := 3) (en := (3, .invokestatic 56, 3, [151, 420, 0], .null)) rfl trivial rfl rfl vm_z151 (av := [.int 4, .int 0, .int 4]) (rest := []) (m_isWithin_y (v := 4) (a := 0) (b := 4) (by decide)) rfl (Nat.le_of_ble_eq_true rfl) ⟨Nat.le_of_ble_eq_true rfl, Nat.le_of_ble_eq_true rfl⟩ ⟨Nat.le_of_ble_eq_true rfl, Nat.le_of_ble_eq_true rfl⟩ ?_
  show vm_J _ _ _ (6, (0, 0), [.ref 0, .int 4], [.int 1]) (G, I, F) _ _
  refine vm_J.go vm_q126 (k := 1) (hs := []) (f' := (bif vm_ic .ne 1 0 then 12 else 9, (0, 0), [.ref 0, .int 4], [])) (h' := (G, I, F)) (hs' := []) rfl rfl ?_
  refine vm_J.bT (by decide) ?_
  refine vm_J.go vm_q126 (k := 3) (hs := [(12, 9, [.ref 1, .ref 38, .ref 75, .ref 112, .ref 132, .ref 135, .ref 139, .int 0, .int 0]), (11, 7, [.ref (1 + 1), .ref (1 + 2), .ref (1 + 3), .ref (1 + 4), .ref (1 + 11), .ref (1 + 13), .ref (1 + 15)])]) (f' := (19, (0, 0), [.ref 0, .int 4], [.ref (1 + 4)])) (h' := (G, I, F)) (hs' := []) rfl (vm_b2 rfl (vm_b2 (vm_b2 (vm_hG hD.d) rfl) (vm_b2 (vm_b2 (vm_hG hD.w1.w) rfl) rfl))) ?_
  refine vm_J.call vm_q126 (Z := vm_M61) (n := 0) (k := 0) (mi := 61) (pc := 19) (en := (19, .invokevirtual 268, 3, [61, 887, 0], .null)) rfl trivial rfl rfl vm_z61 (av := [.ref (1 + 4)]) (rest := []) (m_isMade_y (o := 1 + 4) (a := 1 + 5) (b := 1 + 6) (c := 1 + 7) (d := 1 + 8) (e := 1 + 9) (f := 1 + 10) hD.w1.sh (by rw [hy]; decide)) ⟨_, _, rfl, rfl, _, 6, _, hD.w1.sh, rfl, rfl, rfl⟩ (Nat.le_of_ble_eq_true rfl) ⟨Nat.le_of_ble_eq_true rfl, Nat.le_of_ble_eq_true rfl⟩ ⟨Nat.le_of_ble_eq_true rfl, Nat.le_of_ble_eq_true rfl⟩ ?_
  show vm_J _ _ _ (22, (0, 0), [.ref 0, .int 4], [.int 1]) (G, I, F) _ _
  refine vm_J.go vm_q126 (k := 1) (hs := []) (f' := (bif vm_ic .ne 1 0 then 28 else 25, (0, 0), [.ref 0, .int 4], [])) (h' := (G, I, F)) (hs' := []) rfl rfl ?_
  refine vm_J.bT (by decide) ?_
  refine vm_J.go vm_q126 (k := 4) (hs := [(12, 9, [.ref 1, .ref 38, .ref 75, .ref 112, .ref 132, .ref 135, .ref 139, .int 0, .int 0]), (11, 7, [.ref (1 + 1), .ref (1 + 2), .ref (1 + 3), .ref (1 + 4), .ref (1 + 11), .ref (1 + 13), .ref (1 + 15)]), (8, 9, [.int 0, .int 0, .int 0, .ref (1 + 5), .ref (1 + 6), .ref (1 + 7), .ref (1 + 8), .ref (1 + 9), .ref (1 + 10)])]) (f' := (38, (0, 0), [.ref 0, .int 4], [.int (I (1 + 4) 0)])) (h' := (G, I, F)) (hs' := []) rfl (vm_b2 rfl (vm_b2 (vm_b2 (vm_hG hD.d) rfl) (vm_b2 (vm_b2 (vm_hG hD.w1.w) rfl) (vm_b2 (vm_b2 (vm_hG hD.w1.sh) rfl) rfl)))) ?_
  rw [(hy : I (1 + 4) 0 = 4)]
  refine vm_J.go vm_q126 (k := 1) (hs := []) (f' := (39, (0, 0), [.ref 0, .int 4], [.int 4, .int 4])) (h' := (G, I, F)) (hs' := []) rfl rfl ?_
  refine vm_J.call vm_q126 (Z := vm_M150) (n := 2) (k := 1) (mi := 150) (pc := 39) (en := (39, .invokestatic 313, 3, [150, 940, 0], .null)) rfl trivial rfl rfl vm_z150 (av := [.int 4, .int 4]) (rest := []) m_under_5_4 rfl (Nat.le_of_ble_eq_true rfl) ⟨Nat.le_of_ble_eq_true rfl, Nat.le_of_ble_eq_true rfl⟩ ⟨Nat.le_of_ble_eq_true rfl, Nat.le_of_ble_eq_true rfl⟩ ?_
  show vm_J _ _ _ (42, (0, 0), [.ref 0, .int 4], [.int 1]) (G, I, F) _ _
  refine vm_J.go vm_q126 (k := 1) (hs := []) (f' := (bif vm_ic .eq 1 0 then 58 else 45, (0, 0), [.ref 0, .int 4], [])) (h' := (G, I, F)) (hs' := []) rfl rfl ?_
  refine vm_J.bF (by decide) ?_
  refine vm_J.go vm_q126 (k := 4) (hs := [(12, 9, [.ref 1, .ref 38, .ref 75, .ref 112, .ref 132, .ref 135, .ref 139, .int 0, .int 0]), (11, 7, [.ref (1 + 1), .ref (1 + 2), .ref (1 + 3), .ref (1 + 4), .ref (1 + 11), .ref (1 + 13), .ref (1 + 15)]), (8, 9, [.int 0, .int 0, .int 0, .ref (1 + 5), .ref (1 + 6), .ref (1 + 7), .ref (1 + 8), .ref (1 + 9), .ref (1 + 10)])]) (f' := (55, (0, 0), [.ref 0, .int 4], [.int (I (1 + 4) 0)])) (h' := (G, I, F)) (hs' := []) rfl (vm_b2 rfl (vm_b2 (vm_b2 (vm_hG hD.d) rfl) (vm_b2 (vm_b2 (vm_hG hD.w1.w) rfl) (vm_b2 (vm_b2 (vm_hG hD.w1.sh) rfl) rfl)))) ?_
  rw [(hy : I (1 + 4) 0 = 4)]
  refine vm_J.go vm_q126 (k := 1) (hs := []) (f' := (60, (0, 0), [.ref 0, .int 4], [.int 4])) (h' := (G, I, F)) (hs' := []) rfl rfl ?_
  exact vm_J.end vm_q126 (en := (60, .ireturn, 1, [], .null)) rfl rfl vm_rI (Nat.zero_le _) (Nat.zero_le _) rfl
set_option maxHeartbeats 4000000 in
set_option maxRecDepth 20000 in
/-- DitherDesk.judge -/
theorem c_judge_x {l : Launch} {X : vm_Cx} {G : List vm_Sh} {I : Nat → Nat → Int32} {F : Nat → Nat → UInt32} {q : Int32} {e : Int32} (hD : vm_isD G) (hx : ¬ (0 ≤ q ∧ q ≤ 5)) : vm_K l X vm_M136 [.ref 0, .int q, .int e] (G, I, F) (some (.int (-1))) (G, I, F) := by
  refine vm_K.mk (by decide) (Nat.le_of_ble_eq_true rfl) ?_
  show vm_J _ _ _ (0, (0, 0), [.ref 0, .int q, .int e, .retAddr 0, .retAddr 0, .retAddr 0], []) _ _ _
  refine vm_J.go vm_q136 (k := 2) (hs := []) (f' := (2, (0, 0), [.ref 0, .int q, .int e, .retAddr 0, .retAddr 0, .retAddr 0], [.int q, .ref 0])) (h' := (G, I, F)) (hs' := []) rfl rfl ?_
  refine vm_J.call vm_q136 (Z := vm_M145) (n := 1) (k := 0) (mi := 145) (pc := 2) (en := (2, .invokevirtual 365, 3, [145, 1049, 0], .null)) rfl trivial rfl rfl vm_z145 (av := [.ref 0, .int q]) (rest := []) (m_tapeAt_x (o := 0) (n := 1) (v := 38) (t := 75) (cu := 112) (rf := 132) (rd := 135) (T := 139) (p := q) hD.d hD.t (vm_nx hx)) ⟨_, _, rfl, rfl, _, 10, _, hD.d, rfl, rfl, rfl⟩ (Nat.le_of_ble_eq_true rfl) ⟨Nat.le_of_ble_eq_true rfl, Nat.le_of_ble_eq_true rfl⟩ ⟨Nat.le_of_ble_eq_true rfl, Nat.le_of_ble_eq_true rfl⟩ ?_
  show vm_J _ _ _ (5, (0, 0), [.ref 0, .int q, .int e, .retAddr 0, .retAddr 0, .retAddr 0], [.null]) (G, I, F) _ _
  refine vm_J.go vm_q136 (k := 4) (hs := []) (f' := (11, (0, 0), [.ref 0, .int q, .int e, .null, .retAddr 0, .retAddr 0], [.int (-1)])) (h' := (G, I, F)) (hs' := []) rfl rfl ?_
  exact vm_J.end vm_q136 (en := (11, .ireturn, 1, [], .null)) rfl rfl vm_rI (Nat.zero_le _) (Nat.zero_le _) rfl
set_option maxHeartbeats 4000000 in
set_option maxRecDepth 20000 in
/-- DitherDesk.judge -/
theorem c_judge_c {l : Launch} {X : vm_Cx} {G : List vm_Sh} {I : Nat → Nat → Int32} {F : Nat → Nat → UInt32} {t : Nat} {e : Int32} (hD : vm_isD G) (ht : t < 6) (hs1 : ¬ I (139 + 1 + 2 * t) 0 = -1) (hs0 : ¬ I (139 + 1 + 2 * t) 0 = 0) : vm_K l X vm_M136 [.ref 0, .int (nI t), .int e] (G, I, F) (some (.int (-12))) (G, I, F) := by
  refine vm_K.mk (by decide) (Nat.le_of_ble_eq_true rfl) ?_
  show vm_J _ _ _ (0, (0, 0), [.ref 0, .int (nI t), .int e, .retAddr 0, .retAddr 0, .retAddr 0], []) _ _ _
  refine vm_J.go vm_q136 (k := 2) (hs := []) (f' := (2, (0, 0), [.ref 0, .int (nI t), .int e, .retAddr 0, .retAddr 0, .retAddr 0], [.int (nI t), .ref 0])) (h' := (G, I, F)) (hs' := []) rfl rfl ?_
  refine vm_J.call vm_q136 (Z := vm_M145) (n := 1) (k := 0) (mi := 145) (pc := 2) (en := (2, .invokevirtual 365, 3, [145, 1049, 0], .null)) rfl trivial rfl rfl vm_z145 (av := [.ref 0, .int (nI t)]) (rest := []) (m_tapeAt_n (o := 0) (n := 1) (v := 38) (t := 75) (cu := 112) (rf := 132) (rd := 135) (T := 139) (p := t) hD.d hD.t (by omega)) ⟨_, _, rfl, rfl, _, 10, _, hD.d, rfl, rfl, rfl⟩ (Nat.le_of_ble_eq_true rfl) ⟨Nat.le_of_ble_eq_true rfl, Nat.le_of_ble_eq_true rfl⟩ ⟨Nat.le_of_ble_eq_true rfl, Nat.le_of_ble_eq_true rfl⟩ ?_
  show vm_J _ _ _ (5, (0, 0), [.ref 0, .int (nI t), .int e, .retAddr 0, .retAddr 0, .retAddr 0], [.ref (139 + 1 + 2 * t)]) (G, I, F) _ _
  refine vm_J.go vm_q136 (k := 7) (hs := [(10, 3, [.int 0, .int 0, .ref (139 + 2 + 2 * t)])]) (f' := (bif vm_ic .eq (I (139 + 1 + 2 * t) 0) (-1) then 30 else 20, (0, 0), [.ref 0, .int (nI t), .int e, .ref (139 + 1 + 2 * t), .retAddr 0, .retAddr 0], [])) (h' := (G, I, F)) (hs' := []) rfl (vm_b2 rfl (vm_b2 rfl (vm_b2 rfl (vm_b2 rfl (vm_b2 (vm_b2 (vm_hG (hD.t.2.1 t ht)) rfl) (vm_b2 rfl (vm_b2 rfl rfl))))))) ?_
  refine vm_J.bF (decide_eq_false hs1) ?_
  refine vm_J.go vm_q136 (k := 3) (hs := [(10, 3, [.int 0, .int 0, .ref (139 + 2 + 2 * t)])]) (f' := (bif vm_ic .eq (I (139 + 1 + 2 * t) 0) 0 then 30 else 27, (0, 0), [.ref 0, .int (nI t), .int e, .ref (139 + 1 + 2 * t), .retAddr 0, .retAddr 0], [])) (h' := (G, I, F)) (hs' := []) rfl (vm_b2 rfl (vm_b2 (vm_b2 (vm_hG (hD.t.2.1 t ht)) rfl) (vm_b2 rfl rfl))) ?_
  refine vm_J.bF (decide_eq_false hs0) ?_
  refine vm_J.go vm_q136 (k := 1) (hs := []) (f' := (29, (0, 0), [.ref 0, .int (nI t), .int e, .ref (139 + 1 + 2 * t), .retAddr 0, .retAddr 0], [.int (-12)])) (h' := (G, I, F)) (hs' := []) rfl rfl ?_
  exact vm_J.end vm_q136 (en := (29, .ireturn, 1, [], .null)) rfl rfl vm_rI (Nat.zero_le _) (Nat.zero_le _) rfl
theorem vm_ge0 {m i : Nat} (h : m ≤ i) (hi : i < 2147483648) : ¬ nI i < nI m - 0 := by
  rw [show nI m - 0 = nI m from Int32.sub_zero _]
  exact fun z => absurd ((vm_lt_i hi (by omega)).mp z) (by omega)
set_option maxHeartbeats 4000000 in
set_option maxRecDepth 20000 in
/-- DitherDesk.judge -/
theorem c_judge_n0 {l : Launch} {X : vm_Cx} {G : List vm_Sh} {I : Nat → Nat → Int32} {F : Nat → Nat → UInt32} {t : Nat} {e : Int32} (hD : vm_isD G) (ht : t < 6) (hso : I (139 + 1 + 2 * t) 0 = 0) (hmd : I (1 + 4) 0 = -1) : vm_K l X vm_M136 [.ref 0, .int (nI t), .int e] (G, I, F) (some (.int (-5))) (G, I, F) := by
  refine vm_K.mk (by decide) (Nat.le_of_ble_eq_true rfl) ?_
  show vm_J _ _ _ (0, (0, 0), [.ref 0, .int (nI t), .int e, .retAddr 0, .retAddr 0, .retAddr 0], []) _ _ _
  refine vm_J.go vm_q136 (k := 2) (hs := []) (f' := (2, (0, 0), [.ref 0, .int (nI t), .int e, .retAddr 0, .retAddr 0, .retAddr 0], [.int (nI t), .ref 0])) (h' := (G, I, F)) (hs' := []) rfl rfl ?_
  refine vm_J.call vm_q136 (Z := vm_M145) (n := 1) (k := 0) (mi := 145) (pc := 2) (en := (2, .invokevirtual 365, 3, [145, 1049, 0], .null)) rfl trivial rfl rfl vm_z145 (av := [.ref 0, .int (nI t)]) (rest := []) (m_tapeAt_n (o := 0) (n := 1) (v := 38) (t := 75) (cu := 112) (rf := 132) (rd := 135) (T := 139) (p := t) hD.d hD.t (by omega)) ⟨_, _, rfl, rfl, _, 10, _, hD.d, rfl, rfl, rfl⟩ (Nat.le_of_ble_eq_true rfl) ⟨Nat.le_of_ble_eq_true rfl, Nat.le_of_ble_eq_true rfl⟩ ⟨Nat.le_of_ble_eq_true rfl, Nat.le_of_ble_eq_true rfl⟩ ?_
  show vm_J _ _ _ (5, (0, 0), [.ref 0, .int (nI t), .int e, .retAddr 0, .retAddr 0, .retAddr 0], [.ref (139 + 1 + 2 * t)]) (G, I, F) _ _
  refine vm_J.go vm_q136 (k := 5) (hs := [(10, 3, [.int 0, .int 0, .ref (139 + 2 + 2 * t)])]) (f' := (16, (0, 0), [.ref 0, .int (nI t), .int e, .ref (139 + 1 + 2 * t), .retAddr 0, .retAddr 0], [.int (I (139 + 1 + 2 * t) 0)])) (h' := (G, I, F)) (hs' := []) rfl (vm_b2 rfl (vm_b2 rfl (vm_b2 rfl (vm_b2 rfl (vm_b2 (vm_b2 (vm_hG (hD.t.2.1 t ht)) rfl) rfl))))) ?_
  rw [(hso : I (139 + 1 + 2 * t) 0 = 0)]
  refine vm_J.go vm_q136 (k := 2) (hs := []) (f' := (bif vm_ic .eq 0 (-1) then 30 else 20, (0, 0), [.ref 0, .int (nI t), .int e, .ref (139 + 1 + 2 * t), .retAddr 0, .retAddr 0], [])) (h' := (G, I, F)) (hs' := []) rfl rfl ?_
  refine vm_J.bF (by decide) ?_
  refine vm_J.go vm_q136 (k := 2) (hs := [(10, 3, [.int 0, .int 0, .ref (139 + 2 + 2 * t)])]) (f' := (24, (0, 0), [.ref 0, .int (nI t), .int e, .ref (139 + 1 + 2 * t), .retAddr 0, .retAddr 0], [.int (I (139 + 1 + 2 * t) 0)])) (h' := (G, I, F)) (hs' := []) rfl (vm_b2 rfl (vm_b2 (vm_b2 (vm_hG (hD.t.2.1 t ht)) rfl) rfl)) ?_
  rw [(hso : I (139 + 1 + 2 * t) 0 = 0)]
  refine vm_J.go vm_q136 (k := 1) (hs := []) (f' := (bif vm_ic .eq 0 0 then 30 else 27, (0, 0), [.ref 0, .int (nI t), .int e, .ref (139 + 1 + 2 * t), .retAddr 0, .retAddr 0], [])) (h' := (G, I, F)) (hs' := []) rfl rfl ?_
  refine vm_J.bT (by decide) ?_
  refine vm_J.go vm_q136 (k := 3) (hs := [(12, 9, [.ref 1, .ref 38, .ref 75, .ref 112, .ref 132, .ref 135, .ref 139, .int 0, .int 0]), (11, 7, [.ref (1 + 1), .ref (1 + 2), .ref (1 + 3), .ref (1 + 4), .ref (1 + 11), .ref (1 + 13), .ref (1 + 15)])]) (f' := (37, (0, 0), [.ref 0, .int (nI t), .int e, .ref (139 + 1 + 2 * t), .retAddr 0, .retAddr 0], [.ref (1 + 4)])) (h' := (G, I, F)) (hs' := []) rfl (vm_b2 rfl (vm_b2 (vm_b2 (vm_hG hD.d) rfl) (vm_b2 (vm_b2 (vm_hG hD.w1.w) rfl) rfl))) ?_
  refine vm_J.call vm_q136 (Z := vm_M61) (n := 0) (k := 0) (mi := 61) (pc := 37) (en := (37, .invokevirtual 268, 3, [61, 887, 0], .null)) rfl trivial rfl rfl vm_z61 (av := [.ref (1 + 4)]) (rest := []) (m_isMade_n (o := 1 + 4) (a := 1 + 5) (b := 1 + 6) (c := 1 + 7) (d := 1 + 8) (e := 1 + 9) (f := 1 + 10) hD.w1.sh (fun z => z hmd)) ⟨_, _, rfl, rfl, _, 6, _, hD.w1.sh, rfl, rfl, rfl⟩ (Nat.le_of_ble_eq_true rfl) ⟨Nat.le_of_ble_eq_true rfl, Nat.le_of_ble_eq_true rfl⟩ ⟨Nat.le_of_ble_eq_true rfl, Nat.le_of_ble_eq_true rfl⟩ ?_
  show vm_J _ _ _ (40, (0, 0), [.ref 0, .int (nI t), .int e, .ref (139 + 1 + 2 * t), .retAddr 0, .retAddr 0], [.int 0]) (G, I, F) _ _
  refine vm_J.go vm_q136 (k := 1) (hs := []) (f' := (bif vm_ic .eq 0 0 then 56 else 43, (0, 0), [.ref 0, .int (nI t), .int e, .ref (139 + 1 + 2 * t), .retAddr 0, .retAddr 0], [])) (h' := (G, I, F)) (hs' := []) rfl rfl ?_
  refine vm_J.bT (by decide) ?_
  refine vm_J.go vm_q136 (k := 7) (hs := []) (f' := (bif vm_ic .ge 0 0 then 129 else 69, (0, 0), [.ref 0, .int (nI t), .int e, .ref (139 + 1 + 2 * t), .int 0, .int 0], [])) (h' := (G, I, F)) (hs' := []) rfl rfl ?_
  refine vm_J.bT (by decide) ?_
  refine vm_J.go vm_q136 (k := 1) (hs := []) (f' := (131, (0, 0), [.ref 0, .int (nI t), .int e, .ref (139 + 1 + 2 * t), .int 0, .int 0], [.int (-5)])) (h' := (G, I, F)) (hs' := []) rfl rfl ?_
  exact vm_J.end vm_q136 (en := (131, .ireturn, 1, [], .null)) rfl rfl vm_rI (Nat.zero_le _) (Nat.zero_le _) rfl
set_option maxHeartbeats 4000000 in
set_option maxRecDepth 20000 in
/-- DitherDesk.judge -/
theorem c_judge_g0 {l : Launch} {X : vm_Cx} {G : List vm_Sh} {I : Nat → Nat → Int32} {F : Nat → Nat → UInt32} {t : Nat} {w : Nat} {h : Nat} {e : Int32} (hD : vm_isD G) (ht : t < 6) (hso : I (139 + 1 + 2 * t) 0 = 0) (he : e < 0) (hw : I (1 + 4) 1 = nI w) (hh : I (1 + 4) 2 = nI h) (hw2 : w ≤ 12) (hh2 : h ≤ 12) (hw0 : 0 < w) (hmd : ¬ I (1 + 4) 0 = -1) (hh0 : 0 < h) : vm_K l X vm_M136 [.ref 0, .int (nI t), .int e] (G, I, F) (some (.int 200)) (G, I, F) := by
  refine vm_K.mk (by decide) (Nat.le_of_ble_eq_true rfl) ?_
  have hwh := vm_mul144 hw2 hh2
  have hpo := Nat.mul_pos hw0 hh0
  show vm_J _ _ _ (0, (0, 0), [.ref 0, .int (nI t), .int e, .retAddr 0, .retAddr 0, .retAddr 0], []) _ _ _
  refine vm_J.go vm_q136 (k := 2) (hs := []) (f' := (2, (0, 0), [.ref 0, .int (nI t), .int e, .retAddr 0, .retAddr 0, .retAddr 0], [.int (nI t), .ref 0])) (h' := (G, I, F)) (hs' := []) rfl rfl ?_
  refine vm_J.call vm_q136 (Z := vm_M145) (n := 1) (k := 0) (mi := 145) (pc := 2) (en := (2, .invokevirtual 365, 3, [145, 1049, 0], .null)) rfl trivial rfl rfl vm_z145 (av := [.ref 0, .int (nI t)]) (rest := []) (m_tapeAt_n (o := 0) (n := 1) (v := 38) (t := 75) (cu := 112) (rf := 132) (rd := 135) (T := 139) (p := t) hD.d hD.t (by omega)) ⟨_, _, rfl, rfl, _, 10, _, hD.d, rfl, rfl, rfl⟩ (Nat.le_of_ble_eq_true rfl) ⟨Nat.le_of_ble_eq_true rfl, Nat.le_of_ble_eq_true rfl⟩ ⟨Nat.le_of_ble_eq_true rfl, Nat.le_of_ble_eq_true rfl⟩ ?_
  show vm_J _ _ _ (5, (0, 0), [.ref 0, .int (nI t), .int e, .retAddr 0, .retAddr 0, .retAddr 0], [.ref (139 + 1 + 2 * t)]) (G, I, F) _ _
  refine vm_J.go vm_q136 (k := 5) (hs := [(10, 3, [.int 0, .int 0, .ref (139 + 2 + 2 * t)])]) (f' := (16, (0, 0), [.ref 0, .int (nI t), .int e, .ref (139 + 1 + 2 * t), .retAddr 0, .retAddr 0], [.int (I (139 + 1 + 2 * t) 0)])) (h' := (G, I, F)) (hs' := []) rfl (vm_b2 rfl (vm_b2 rfl (vm_b2 rfl (vm_b2 rfl (vm_b2 (vm_b2 (vm_hG (hD.t.2.1 t ht)) rfl) rfl))))) ?_
  rw [(hso : I (139 + 1 + 2 * t) 0 = 0)]
  refine vm_J.go vm_q136 (k := 2) (hs := []) (f' := (bif vm_ic .eq 0 (-1) then 30 else 20, (0, 0), [.ref 0, .int (nI t), .int e, .ref (139 + 1 + 2 * t), .retAddr 0, .retAddr 0], [])) (h' := (G, I, F)) (hs' := []) rfl rfl ?_
  refine vm_J.bF (by decide) ?_
  refine vm_J.go vm_q136 (k := 2) (hs := [(10, 3, [.int 0, .int 0, .ref (139 + 2 + 2 * t)])]) (f' := (24, (0, 0), [.ref 0, .int (nI t), .int e, .ref (139 + 1 + 2 * t), .retAddr 0, .retAddr 0], [.int (I (139 + 1 + 2 * t) 0)])) (h' := (G, I, F)) (hs' := []) rfl (vm_b2 rfl (vm_b2 (vm_b2 (vm_hG (hD.t.2.1 t ht)) rfl) rfl)) ?_
  rw [(hso : I (139 + 1 + 2 * t) 0 = 0)]
  refine vm_J.go vm_q136 (k := 1) (hs := []) (f' := (bif vm_ic .eq 0 0 then 30 else 27, (0, 0), [.ref 0, .int (nI t), .int e, .ref (139 + 1 + 2 * t), .retAddr 0, .retAddr 0], [])) (h' := (G, I, F)) (hs' := []) rfl rfl ?_
  refine vm_J.bT (by decide) ?_
  refine vm_J.go vm_q136 (k := 3) (hs := [(12, 9, [.ref 1, .ref 38, .ref 75, .ref 112, .ref 132, .ref 135, .ref 139, .int 0, .int 0]), (11, 7, [.ref (1 + 1), .ref (1 + 2), .ref (1 + 3), .ref (1 + 4), .ref (1 + 11), .ref (1 + 13), .ref (1 + 15)])]) (f' := (37, (0, 0), [.ref 0, .int (nI t), .int e, .ref (139 + 1 + 2 * t), .retAddr 0, .retAddr 0], [.ref (1 + 4)])) (h' := (G, I, F)) (hs' := []) rfl (vm_b2 rfl (vm_b2 (vm_b2 (vm_hG hD.d) rfl) (vm_b2 (vm_b2 (vm_hG hD.w1.w) rfl) rfl))) ?_
  refine vm_J.call vm_q136 (Z := vm_M61) (n := 0) (k := 0) (mi := 61) (pc := 37) (en := (37, .invokevirtual 268, 3, [61, 887, 0], .null)) rfl trivial rfl rfl vm_z61 (av := [.ref (1 + 4)]) (rest := []) (m_isMade_y (o := 1 + 4) (a := 1 + 5) (b := 1 + 6) (c := 1 + 7) (d := 1 + 8) (e := 1 + 9) (f := 1 + 10) hD.w1.sh hmd) ⟨_, _, rfl, rfl, _, 6, _, hD.w1.sh, rfl, rfl, rfl⟩ (Nat.le_of_ble_eq_true rfl) ⟨Nat.le_of_ble_eq_true rfl, Nat.le_of_ble_eq_true rfl⟩ ⟨Nat.le_of_ble_eq_true rfl, Nat.le_of_ble_eq_true rfl⟩ ?_
  show vm_J _ _ _ (40, (0, 0), [.ref 0, .int (nI t), .int e, .ref (139 + 1 + 2 * t), .retAddr 0, .retAddr 0], [.int 1]) (G, I, F) _ _
  refine vm_J.go vm_q136 (k := 1) (hs := []) (f' := (bif vm_ic .eq 1 0 then 56 else 43, (0, 0), [.ref 0, .int (nI t), .int e, .ref (139 + 1 + 2 * t), .retAddr 0, .retAddr 0], [])) (h' := (G, I, F)) (hs' := []) rfl rfl ?_
  refine vm_J.bF (by decide) ?_
  refine vm_J.go vm_q136 (k := 3) (hs := [(12, 9, [.ref 1, .ref 38, .ref 75, .ref 112, .ref 132, .ref 135, .ref 139, .int 0, .int 0]), (11, 7, [.ref (1 + 1), .ref (1 + 2), .ref (1 + 3), .ref (1 + 4), .ref (1 + 11), .ref (1 + 13), .ref (1 + 15)])]) (f' := (50, (0, 0), [.ref 0, .int (nI t), .int e, .ref (139 + 1 + 2 * t), .retAddr 0, .retAddr 0], [.ref (1 + 4)])) (h' := (G, I, F)) (hs' := []) rfl (vm_b2 rfl (vm_b2 (vm_b2 (vm_hG hD.d) rfl) (vm_b2 (vm_b2 (vm_hG hD.w1.w) rfl) rfl))) ?_
  refine vm_J.call vm_q136 (Z := vm_M62) (n := 0) (k := 0) (mi := 62) (pc := 50) (en := (50, .invokevirtual 372, 3, [62, 1053, 0], .null)) rfl trivial rfl rfl vm_z62 (av := [.ref (1 + 4)]) (rest := []) (m_Sh_pixels (o := 1 + 4) (a := 1 + 5) (b := 1 + 6) (c := 1 + 7) (d := 1 + 8) (e := 1 + 9) (f := 1 + 10) (w := w) (h := h) hD.w1.sh hw hh) ⟨_, _, rfl, rfl, _, 6, _, hD.w1.sh, rfl, rfl, rfl⟩ (Nat.le_of_ble_eq_true rfl) ⟨Nat.le_of_ble_eq_true rfl, Nat.le_of_ble_eq_true rfl⟩ ⟨Nat.le_of_ble_eq_true rfl, Nat.le_of_ble_eq_true rfl⟩ ?_
  show vm_J _ _ _ (53, (0, 0), [.ref 0, .int (nI t), .int e, .ref (139 + 1 + 2 * t), .retAddr 0, .retAddr 0], [.int (nI (w * h))]) (G, I, F) _ _
  refine vm_J.go vm_q136 (k := 7) (hs := []) (f' := (bif vm_ic .ge 0 (nI (w * h)) then 129 else 69, (0, 0), [.ref 0, .int (nI t), .int e, .ref (139 + 1 + 2 * t), .int (nI (w * h)), .int 0], [])) (h' := (G, I, F)) (hs' := []) rfl rfl ?_
  refine vm_J.br (fun c1 => ?_) (fun c1 => ?_)
  · have c1 := vm_ge_t (a := 0) (b := w * h) (by omega) (by omega) c1
    exact (show False by omega).elim
  · have c1 := vm_ge_f (a := 0) (b := w * h) (by omega) (by omega) c1
    refine vm_J.go vm_q136 (k := 2) (hs := []) (f' := (bif vm_ic .lt e 0 then 84 else 73, (0, 0), [.ref 0, .int (nI t), .int e, .ref (139 + 1 + 2 * t), .int (nI (w * h)), .int 0], [])) (h' := (G, I, F)) (hs' := []) rfl rfl ?_
    refine vm_J.bT (decide_eq_true he) ?_
    refine vm_J.go vm_q136 (k := 3) (hs := []) (f' := (90, (0, 0), [.ref 0, .int (nI t), .int e, .ref (139 + 1 + 2 * t), .int (nI (w * h)), .int 0], [.int (200 + 0)])) (h' := (G, I, F)) (hs' := []) rfl rfl ?_
    rw [(show (200 + 0 : Int32) = 200 from by decide)]
    exact vm_J.end vm_q136 (en := (90, .ireturn, 1, [], .null)) rfl rfl vm_rI (Nat.zero_le _) (Nat.zero_le _) rfl
set_option maxHeartbeats 4000000 in
set_option maxRecDepth 20000 in
/-- DitherDesk.judge -/
theorem c_judge_f0 {l : Launch} {X : vm_Cx} {G : List vm_Sh} {I : Nat → Nat → Int32} {F : Nat → Nat → UInt32} {t : Nat} {w : Nat} {h : Nat} {m : Nat} {i : Nat} (hD : vm_isD G) (ht : t < 6) (hso : I (139 + 1 + 2 * t) 0 = 0) (hm : I (139 + 1 + 2 * t) 1 = nI m) (hm2 : m ≤ 150) (hi : m ≤ i) (hi2 : i < 2147483648) (hw : I (1 + 4) 1 = nI w) (hh : I (1 + 4) 2 = nI h) (hw2 : w ≤ 12) (hh2 : h ≤ 12) (hw0 : 0 < w) (hmd : ¬ I (1 + 4) 0 = -1) (hh0 : 0 < h) : vm_K l X vm_M136 [.ref 0, .int (nI t), .int (nI i)] (G, I, F) (some (.int 200)) (G, I, F) := by
  refine vm_K.mk (by decide) (Nat.le_of_ble_eq_true rfl) ?_
  have hwh := vm_mul144 hw2 hh2
  have hpo := Nat.mul_pos hw0 hh0
  show vm_J _ _ _ (0, (0, 0), [.ref 0, .int (nI t), .int (nI i), .retAddr 0, .retAddr 0, .retAddr 0], []) _ _ _
  refine vm_J.go vm_q136 (k := 2) (hs := []) (f' := (2, (0, 0), [.ref 0, .int (nI t), .int (nI i), .retAddr 0, .retAddr 0, .retAddr 0], [.int (nI t), .ref 0])) (h' := (G, I, F)) (hs' := []) rfl rfl ?_
  refine vm_J.call vm_q136 (Z := vm_M145) (n := 1) (k := 0) (mi := 145) (pc := 2) (en := (2, .invokevirtual 365, 3, [145, 1049, 0], .null)) rfl trivial rfl rfl vm_z145 (av := [.ref 0, .int (nI t)]) (rest := []) (m_tapeAt_n (o := 0) (n := 1) (v := 38) (t := 75) (cu := 112) (rf := 132) (rd := 135) (T := 139) (p := t) hD.d hD.t (by omega)) ⟨_, _, rfl, rfl, _, 10, _, hD.d, rfl, rfl, rfl⟩ (Nat.le_of_ble_eq_true rfl) ⟨Nat.le_of_ble_eq_true rfl, Nat.le_of_ble_eq_true rfl⟩ ⟨Nat.le_of_ble_eq_true rfl, Nat.le_of_ble_eq_true rfl⟩ ?_
  show vm_J _ _ _ (5, (0, 0), [.ref 0, .int (nI t), .int (nI i), .retAddr 0, .retAddr 0, .retAddr 0], [.ref (139 + 1 + 2 * t)]) (G, I, F) _ _
  refine vm_J.go vm_q136 (k := 5) (hs := [(10, 3, [.int 0, .int 0, .ref (139 + 2 + 2 * t)])]) (f' := (16, (0, 0), [.ref 0, .int (nI t), .int (nI i), .ref (139 + 1 + 2 * t), .retAddr 0, .retAddr 0], [.int (I (139 + 1 + 2 * t) 0)])) (h' := (G, I, F)) (hs' := []) rfl (vm_b2 rfl (vm_b2 rfl (vm_b2 rfl (vm_b2 rfl (vm_b2 (vm_b2 (vm_hG (hD.t.2.1 t ht)) rfl) rfl))))) ?_
  rw [(hso : I (139 + 1 + 2 * t) 0 = 0)]
  refine vm_J.go vm_q136 (k := 2) (hs := []) (f' := (bif vm_ic .eq 0 (-1) then 30 else 20, (0, 0), [.ref 0, .int (nI t), .int (nI i), .ref (139 + 1 + 2 * t), .retAddr 0, .retAddr 0], [])) (h' := (G, I, F)) (hs' := []) rfl rfl ?_
  refine vm_J.bF (by decide) ?_
  refine vm_J.go vm_q136 (k := 2) (hs := [(10, 3, [.int 0, .int 0, .ref (139 + 2 + 2 * t)])]) (f' := (24, (0, 0), [.ref 0, .int (nI t), .int (nI i), .ref (139 + 1 + 2 * t), .retAddr 0, .retAddr 0], [.int (I (139 + 1 + 2 * t) 0)])) (h' := (G, I, F)) (hs' := []) rfl (vm_b2 rfl (vm_b2 (vm_b2 (vm_hG (hD.t.2.1 t ht)) rfl) rfl)) ?_
  rw [(hso : I (139 + 1 + 2 * t) 0 = 0)]
  refine vm_J.go vm_q136 (k := 1) (hs := []) (f' := (bif vm_ic .eq 0 0 then 30 else 27, (0, 0), [.ref 0, .int (nI t), .int (nI i), .ref (139 + 1 + 2 * t), .retAddr 0, .retAddr 0], [])) (h' := (G, I, F)) (hs' := []) rfl rfl ?_
  refine vm_J.bT (by decide) ?_
  refine vm_J.go vm_q136 (k := 3) (hs := [(12, 9, [.ref 1, .ref 38, .ref 75, .ref 112, .ref 132, .ref 135, .ref 139, .int 0, .int 0]), (11, 7, [.ref (1 + 1), .ref (1 + 2), .ref (1 + 3), .ref (1 + 4), .ref (1 + 11), .ref (1 + 13), .ref (1 + 15)])]) (f' := (37, (0, 0), [.ref 0, .int (nI t), .int (nI i), .ref (139 + 1 + 2 * t), .retAddr 0, .retAddr 0], [.ref (1 + 4)])) (h' := (G, I, F)) (hs' := []) rfl (vm_b2 rfl (vm_b2 (vm_b2 (vm_hG hD.d) rfl) (vm_b2 (vm_b2 (vm_hG hD.w1.w) rfl) rfl))) ?_
  refine vm_J.call vm_q136 (Z := vm_M61) (n := 0) (k := 0) (mi := 61) (pc := 37) (en := (37, .invokevirtual 268, 3, [61, 887, 0], .null)) rfl trivial rfl rfl vm_z61 (av := [.ref (1 + 4)]) (rest := []) (m_isMade_y (o := 1 + 4) (a := 1 + 5) (b := 1 + 6) (c := 1 + 7) (d := 1 + 8) (e := 1 + 9) (f := 1 + 10) hD.w1.sh hmd) ⟨_, _, rfl, rfl, _, 6, _, hD.w1.sh, rfl, rfl, rfl⟩ (Nat.le_of_ble_eq_true rfl) ⟨Nat.le_of_ble_eq_true rfl, Nat.le_of_ble_eq_true rfl⟩ ⟨Nat.le_of_ble_eq_true rfl, Nat.le_of_ble_eq_true rfl⟩ ?_
  show vm_J _ _ _ (40, (0, 0), [.ref 0, .int (nI t), .int (nI i), .ref (139 + 1 + 2 * t), .retAddr 0, .retAddr 0], [.int 1]) (G, I, F) _ _
  refine vm_J.go vm_q136 (k := 1) (hs := []) (f' := (bif vm_ic .eq 1 0 then 56 else 43, (0, 0), [.ref 0, .int (nI t), .int (nI i), .ref (139 + 1 + 2 * t), .retAddr 0, .retAddr 0], [])) (h' := (G, I, F)) (hs' := []) rfl rfl ?_
  refine vm_J.bF (by decide) ?_
  refine vm_J.go vm_q136 (k := 3) (hs := [(12, 9, [.ref 1, .ref 38, .ref 75, .ref 112, .ref 132, .ref 135, .ref 139, .int 0, .int 0]), (11, 7, [.ref (1 + 1), .ref (1 + 2), .ref (1 + 3), .ref (1 + 4), .ref (1 + 11), .ref (1 + 13), .ref (1 + 15)])]) (f' := (50, (0, 0), [.ref 0, .int (nI t), .int (nI i), .ref (139 + 1 + 2 * t), .retAddr 0, .retAddr 0], [.ref (1 + 4)])) (h' := (G, I, F)) (hs' := []) rfl (vm_b2 rfl (vm_b2 (vm_b2 (vm_hG hD.d) rfl) (vm_b2 (vm_b2 (vm_hG hD.w1.w) rfl) rfl))) ?_
  refine vm_J.call vm_q136 (Z := vm_M62) (n := 0) (k := 0) (mi := 62) (pc := 50) (en := (50, .invokevirtual 372, 3, [62, 1053, 0], .null)) rfl trivial rfl rfl vm_z62 (av := [.ref (1 + 4)]) (rest := []) (m_Sh_pixels (o := 1 + 4) (a := 1 + 5) (b := 1 + 6) (c := 1 + 7) (d := 1 + 8) (e := 1 + 9) (f := 1 + 10) (w := w) (h := h) hD.w1.sh hw hh) ⟨_, _, rfl, rfl, _, 6, _, hD.w1.sh, rfl, rfl, rfl⟩ (Nat.le_of_ble_eq_true rfl) ⟨Nat.le_of_ble_eq_true rfl, Nat.le_of_ble_eq_true rfl⟩ ⟨Nat.le_of_ble_eq_true rfl, Nat.le_of_ble_eq_true rfl⟩ ?_
  show vm_J _ _ _ (53, (0, 0), [.ref 0, .int (nI t), .int (nI i), .ref (139 + 1 + 2 * t), .retAddr 0, .retAddr 0], [.int (nI (w * h))]) (G, I, F) _ _
  refine vm_J.go vm_q136 (k := 7) (hs := []) (f' := (bif vm_ic .ge 0 (nI (w * h)) then 129 else 69, (0, 0), [.ref 0, .int (nI t), .int (nI i), .ref (139 + 1 + 2 * t), .int (nI (w * h)), .int 0], [])) (h' := (G, I, F)) (hs' := []) rfl rfl ?_
  refine vm_J.br (fun c1 => ?_) (fun c1 => ?_)
  · have c1 := vm_ge_t (a := 0) (b := w * h) (by omega) (by omega) c1
    exact (show False by omega).elim
  · have c1 := vm_ge_f (a := 0) (b := w * h) (by omega) (by omega) c1
    refine vm_J.go vm_q136 (k := 2) (hs := []) (f' := (bif vm_ic .lt (nI i) 0 then 84 else 73, (0, 0), [.ref 0, .int (nI t), .int (nI i), .ref (139 + 1 + 2 * t), .int (nI (w * h)), .int 0], [])) (h' := (G, I, F)) (hs' := []) rfl rfl ?_
    refine vm_J.br (fun c2 => ?_) (fun c2 => ?_)
    · have c2 := vm_lt_t (a := i) (b := 0) (by omega) (by omega) c2
      exact (show False by omega).elim
    · have c2 := vm_lt_f (a := i) (b := 0) (by omega) (by omega) c2
      refine vm_J.go vm_q136 (k := 3) (hs := [(10, 3, [.int 0, .int 0, .ref (139 + 2 + 2 * t)])]) (f' := (78, (0, 0), [.ref 0, .int (nI t), .int (nI i), .ref (139 + 1 + 2 * t), .int (nI (w * h)), .int 0], [.int (I (139 + 1 + 2 * t) 1), .int (nI i)])) (h' := (G, I, F)) (hs' := []) rfl (vm_b2 rfl (vm_b2 rfl (vm_b2 (vm_b2 (vm_hG (hD.t.2.1 t ht)) rfl) rfl))) ?_
      rw [(hm : I (139 + 1 + 2 * t) 1 = nI m)]
      refine vm_J.go vm_q136 (k := 3) (hs := []) (f' := (bif vm_ic .lt (nI i) ((nI m) - 0) then 91 else 84, (0, 0), [.ref 0, .int (nI t), .int (nI i), .ref (139 + 1 + 2 * t), .int (nI (w * h)), .int 0], [])) (h' := (G, I, F)) (hs' := []) rfl rfl ?_
      refine vm_J.br (fun c3 => ?_) (fun c3 => ?_)
      · rw [((vm_ps (rfl : (nI m : Int32) = nI m) (rfl : (0 : Int32) = nI 0) (by omega)) : (nI m) - 0 = nI (m - 0))] at c3
        have c3 := vm_lt_t (a := i) (b := m - 0) (by omega) (by omega) c3
        exact (show False by omega).elim
      · rw [((vm_ps (rfl : (nI m : Int32) = nI m) (rfl : (0 : Int32) = nI 0) (by omega)) : (nI m) - 0 = nI (m - 0))] at c3
        have c3 := vm_lt_f (a := i) (b := m - 0) (by omega) (by omega) c3
        refine vm_J.go vm_q136 (k := 3) (hs := []) (f' := (90, (0, 0), [.ref 0, .int (nI t), .int (nI i), .ref (139 + 1 + 2 * t), .int (nI (w * h)), .int 0], [.int (200 + 0)])) (h' := (G, I, F)) (hs' := []) rfl rfl ?_
        rw [(show (200 + 0 : Int32) = 200 from by decide)]
        exact vm_J.end vm_q136 (en := (90, .ireturn, 1, [], .null)) rfl rfl vm_rI (Nat.zero_le _) (Nat.zero_le _) rfl
set_option maxHeartbeats 4000000 in
set_option maxRecDepth 20000 in
/-- DitherDesk.judge -/
theorem c_judge_nm {l : Launch} {X : vm_Cx} {G : List vm_Sh} {I : Nat → Nat → Int32} {F : Nat → Nat → UInt32} {t : Nat} {e : Int32} (hD : vm_isD G) (ht : t < 6) (hso : I (139 + 1 + 2 * t) 0 = (-1)) (hmd : I (1 + 4) 0 = -1) : vm_K l X vm_M136 [.ref 0, .int (nI t), .int e] (G, I, F) (some (.int (-5))) (G, I, F) := by
  refine vm_K.mk (by decide) (Nat.le_of_ble_eq_true rfl) ?_
  show vm_J _ _ _ (0, (0, 0), [.ref 0, .int (nI t), .int e, .retAddr 0, .retAddr 0, .retAddr 0], []) _ _ _
  refine vm_J.go vm_q136 (k := 2) (hs := []) (f' := (2, (0, 0), [.ref 0, .int (nI t), .int e, .retAddr 0, .retAddr 0, .retAddr 0], [.int (nI t), .ref 0])) (h' := (G, I, F)) (hs' := []) rfl rfl ?_
  refine vm_J.call vm_q136 (Z := vm_M145) (n := 1) (k := 0) (mi := 145) (pc := 2) (en := (2, .invokevirtual 365, 3, [145, 1049, 0], .null)) rfl trivial rfl rfl vm_z145 (av := [.ref 0, .int (nI t)]) (rest := []) (m_tapeAt_n (o := 0) (n := 1) (v := 38) (t := 75) (cu := 112) (rf := 132) (rd := 135) (T := 139) (p := t) hD.d hD.t (by omega)) ⟨_, _, rfl, rfl, _, 10, _, hD.d, rfl, rfl, rfl⟩ (Nat.le_of_ble_eq_true rfl) ⟨Nat.le_of_ble_eq_true rfl, Nat.le_of_ble_eq_true rfl⟩ ⟨Nat.le_of_ble_eq_true rfl, Nat.le_of_ble_eq_true rfl⟩ ?_
  show vm_J _ _ _ (5, (0, 0), [.ref 0, .int (nI t), .int e, .retAddr 0, .retAddr 0, .retAddr 0], [.ref (139 + 1 + 2 * t)]) (G, I, F) _ _
  refine vm_J.go vm_q136 (k := 5) (hs := [(10, 3, [.int 0, .int 0, .ref (139 + 2 + 2 * t)])]) (f' := (16, (0, 0), [.ref 0, .int (nI t), .int e, .ref (139 + 1 + 2 * t), .retAddr 0, .retAddr 0], [.int (I (139 + 1 + 2 * t) 0)])) (h' := (G, I, F)) (hs' := []) rfl (vm_b2 rfl (vm_b2 rfl (vm_b2 rfl (vm_b2 rfl (vm_b2 (vm_b2 (vm_hG (hD.t.2.1 t ht)) rfl) rfl))))) ?_
  rw [(hso : I (139 + 1 + 2 * t) 0 = (-1))]
  refine vm_J.go vm_q136 (k := 2) (hs := []) (f' := (bif vm_ic .eq (-1) (-1) then 30 else 20, (0, 0), [.ref 0, .int (nI t), .int e, .ref (139 + 1 + 2 * t), .retAddr 0, .retAddr 0], [])) (h' := (G, I, F)) (hs' := []) rfl rfl ?_
  refine vm_J.bT (by decide) ?_
  refine vm_J.go vm_q136 (k := 3) (hs := [(12, 9, [.ref 1, .ref 38, .ref 75, .ref 112, .ref 132, .ref 135, .ref 139, .int 0, .int 0]), (11, 7, [.ref (1 + 1), .ref (1 + 2), .ref (1 + 3), .ref (1 + 4), .ref (1 + 11), .ref (1 + 13), .ref (1 + 15)])]) (f' := (37, (0, 0), [.ref 0, .int (nI t), .int e, .ref (139 + 1 + 2 * t), .retAddr 0, .retAddr 0], [.ref (1 + 4)])) (h' := (G, I, F)) (hs' := []) rfl (vm_b2 rfl (vm_b2 (vm_b2 (vm_hG hD.d) rfl) (vm_b2 (vm_b2 (vm_hG hD.w1.w) rfl) rfl))) ?_
  refine vm_J.call vm_q136 (Z := vm_M61) (n := 0) (k := 0) (mi := 61) (pc := 37) (en := (37, .invokevirtual 268, 3, [61, 887, 0], .null)) rfl trivial rfl rfl vm_z61 (av := [.ref (1 + 4)]) (rest := []) (m_isMade_n (o := 1 + 4) (a := 1 + 5) (b := 1 + 6) (c := 1 + 7) (d := 1 + 8) (e := 1 + 9) (f := 1 + 10) hD.w1.sh (fun z => z hmd)) ⟨_, _, rfl, rfl, _, 6, _, hD.w1.sh, rfl, rfl, rfl⟩ (Nat.le_of_ble_eq_true rfl) ⟨Nat.le_of_ble_eq_true rfl, Nat.le_of_ble_eq_true rfl⟩ ⟨Nat.le_of_ble_eq_true rfl, Nat.le_of_ble_eq_true rfl⟩ ?_
  show vm_J _ _ _ (40, (0, 0), [.ref 0, .int (nI t), .int e, .ref (139 + 1 + 2 * t), .retAddr 0, .retAddr 0], [.int 0]) (G, I, F) _ _
  refine vm_J.go vm_q136 (k := 1) (hs := []) (f' := (bif vm_ic .eq 0 0 then 56 else 43, (0, 0), [.ref 0, .int (nI t), .int e, .ref (139 + 1 + 2 * t), .retAddr 0, .retAddr 0], [])) (h' := (G, I, F)) (hs' := []) rfl rfl ?_
  refine vm_J.bT (by decide) ?_
  refine vm_J.go vm_q136 (k := 7) (hs := []) (f' := (bif vm_ic .ge 0 0 then 129 else 69, (0, 0), [.ref 0, .int (nI t), .int e, .ref (139 + 1 + 2 * t), .int 0, .int 0], [])) (h' := (G, I, F)) (hs' := []) rfl rfl ?_
  refine vm_J.bT (by decide) ?_
  refine vm_J.go vm_q136 (k := 1) (hs := []) (f' := (131, (0, 0), [.ref 0, .int (nI t), .int e, .ref (139 + 1 + 2 * t), .int 0, .int 0], [.int (-5)])) (h' := (G, I, F)) (hs' := []) rfl rfl ?_
  exact vm_J.end vm_q136 (en := (131, .ireturn, 1, [], .null)) rfl rfl vm_rI (Nat.zero_le _) (Nat.zero_le _) rfl
set_option maxHeartbeats 4000000 in
set_option maxRecDepth 20000 in
/-- DitherDesk.judge -/
theorem c_judge_gm {l : Launch} {X : vm_Cx} {G : List vm_Sh} {I : Nat → Nat → Int32} {F : Nat → Nat → UInt32} {t : Nat} {w : Nat} {h : Nat} {e : Int32} (hD : vm_isD G) (ht : t < 6) (hso : I (139 + 1 + 2 * t) 0 = (-1)) (he : e < 0) (hw : I (1 + 4) 1 = nI w) (hh : I (1 + 4) 2 = nI h) (hw2 : w ≤ 12) (hh2 : h ≤ 12) (hw0 : 0 < w) (hmd : ¬ I (1 + 4) 0 = -1) (hh0 : 0 < h) : vm_K l X vm_M136 [.ref 0, .int (nI t), .int e] (G, I, F) (some (.int 200)) (G, I, F) := by
  refine vm_K.mk (by decide) (Nat.le_of_ble_eq_true rfl) ?_
  have hwh := vm_mul144 hw2 hh2
  have hpo := Nat.mul_pos hw0 hh0
  show vm_J _ _ _ (0, (0, 0), [.ref 0, .int (nI t), .int e, .retAddr 0, .retAddr 0, .retAddr 0], []) _ _ _
  refine vm_J.go vm_q136 (k := 2) (hs := []) (f' := (2, (0, 0), [.ref 0, .int (nI t), .int e, .retAddr 0, .retAddr 0, .retAddr 0], [.int (nI t), .ref 0])) (h' := (G, I, F)) (hs' := []) rfl rfl ?_
  refine vm_J.call vm_q136 (Z := vm_M145) (n := 1) (k := 0) (mi := 145) (pc := 2) (en := (2, .invokevirtual 365, 3, [145, 1049, 0], .null)) rfl trivial rfl rfl vm_z145 (av := [.ref 0, .int (nI t)]) (rest := []) (m_tapeAt_n (o := 0) (n := 1) (v := 38) (t := 75) (cu := 112) (rf := 132) (rd := 135) (T := 139) (p := t) hD.d hD.t (by omega)) ⟨_, _, rfl, rfl, _, 10, _, hD.d, rfl, rfl, rfl⟩ (Nat.le_of_ble_eq_true rfl) ⟨Nat.le_of_ble_eq_true rfl, Nat.le_of_ble_eq_true rfl⟩ ⟨Nat.le_of_ble_eq_true rfl, Nat.le_of_ble_eq_true rfl⟩ ?_
  show vm_J _ _ _ (5, (0, 0), [.ref 0, .int (nI t), .int e, .retAddr 0, .retAddr 0, .retAddr 0], [.ref (139 + 1 + 2 * t)]) (G, I, F) _ _
  refine vm_J.go vm_q136 (k := 5) (hs := [(10, 3, [.int 0, .int 0, .ref (139 + 2 + 2 * t)])]) (f' := (16, (0, 0), [.ref 0, .int (nI t), .int e, .ref (139 + 1 + 2 * t), .retAddr 0, .retAddr 0], [.int (I (139 + 1 + 2 * t) 0)])) (h' := (G, I, F)) (hs' := []) rfl (vm_b2 rfl (vm_b2 rfl (vm_b2 rfl (vm_b2 rfl (vm_b2 (vm_b2 (vm_hG (hD.t.2.1 t ht)) rfl) rfl))))) ?_
  rw [(hso : I (139 + 1 + 2 * t) 0 = (-1))]
  refine vm_J.go vm_q136 (k := 2) (hs := []) (f' := (bif vm_ic .eq (-1) (-1) then 30 else 20, (0, 0), [.ref 0, .int (nI t), .int e, .ref (139 + 1 + 2 * t), .retAddr 0, .retAddr 0], [])) (h' := (G, I, F)) (hs' := []) rfl rfl ?_
  refine vm_J.bT (by decide) ?_
  refine vm_J.go vm_q136 (k := 3) (hs := [(12, 9, [.ref 1, .ref 38, .ref 75, .ref 112, .ref 132, .ref 135, .ref 139, .int 0, .int 0]), (11, 7, [.ref (1 + 1), .ref (1 + 2), .ref (1 + 3), .ref (1 + 4), .ref (1 + 11), .ref (1 + 13), .ref (1 + 15)])]) (f' := (37, (0, 0), [.ref 0, .int (nI t), .int e, .ref (139 + 1 + 2 * t), .retAddr 0, .retAddr 0], [.ref (1 + 4)])) (h' := (G, I, F)) (hs' := []) rfl (vm_b2 rfl (vm_b2 (vm_b2 (vm_hG hD.d) rfl) (vm_b2 (vm_b2 (vm_hG hD.w1.w) rfl) rfl))) ?_
  refine vm_J.call vm_q136 (Z := vm_M61) (n := 0) (k := 0) (mi := 61) (pc := 37) (en := (37, .invokevirtual 268, 3, [61, 887, 0], .null)) rfl trivial rfl rfl vm_z61 (av := [.ref (1 + 4)]) (rest := []) (m_isMade_y (o := 1 + 4) (a := 1 + 5) (b := 1 + 6) (c := 1 + 7) (d := 1 + 8) (e := 1 + 9) (f := 1 + 10) hD.w1.sh hmd) ⟨_, _, rfl, rfl, _, 6, _, hD.w1.sh, rfl, rfl, rfl⟩ (Nat.le_of_ble_eq_true rfl) ⟨Nat.le_of_ble_eq_true rfl, Nat.le_of_ble_eq_true rfl⟩ ⟨Nat.le_of_ble_eq_true rfl, Nat.le_of_ble_eq_true rfl⟩ ?_
  show vm_J _ _ _ (40, (0, 0), [.ref 0, .int (nI t), .int e, .ref (139 + 1 + 2 * t), .retAddr 0, .retAddr 0], [.int 1]) (G, I, F) _ _
  refine vm_J.go vm_q136 (k := 1) (hs := []) (f' := (bif vm_ic .eq 1 0 then 56 else 43, (0, 0), [.ref 0, .int (nI t), .int e, .ref (139 + 1 + 2 * t), .retAddr 0, .retAddr 0], [])) (h' := (G, I, F)) (hs' := []) rfl rfl ?_
  refine vm_J.bF (by decide) ?_
  refine vm_J.go vm_q136 (k := 3) (hs := [(12, 9, [.ref 1, .ref 38, .ref 75, .ref 112, .ref 132, .ref 135, .ref 139, .int 0, .int 0]), (11, 7, [.ref (1 + 1), .ref (1 + 2), .ref (1 + 3), .ref (1 + 4), .ref (1 + 11), .ref (1 + 13), .ref (1 + 15)])]) (f' := (50, (0, 0), [.ref 0, .int (nI t), .int e, .ref (139 + 1 + 2 * t), .retAddr 0, .retAddr 0], [.ref (1 + 4)])) (h' := (G, I, F)) (hs' := []) rfl (vm_b2 rfl (vm_b2 (vm_b2 (vm_hG hD.d) rfl) (vm_b2 (vm_b2 (vm_hG hD.w1.w) rfl) rfl))) ?_
  refine vm_J.call vm_q136 (Z := vm_M62) (n := 0) (k := 0) (mi := 62) (pc := 50) (en := (50, .invokevirtual 372, 3, [62, 1053, 0], .null)) rfl trivial rfl rfl vm_z62 (av := [.ref (1 + 4)]) (rest := []) (m_Sh_pixels (o := 1 + 4) (a := 1 + 5) (b := 1 + 6) (c := 1 + 7) (d := 1 + 8) (e := 1 + 9) (f := 1 + 10) (w := w) (h := h) hD.w1.sh hw hh) ⟨_, _, rfl, rfl, _, 6, _, hD.w1.sh, rfl, rfl, rfl⟩ (Nat.le_of_ble_eq_true rfl) ⟨Nat.le_of_ble_eq_true rfl, Nat.le_of_ble_eq_true rfl⟩ ⟨Nat.le_of_ble_eq_true rfl, Nat.le_of_ble_eq_true rfl⟩ ?_
  show vm_J _ _ _ (53, (0, 0), [.ref 0, .int (nI t), .int e, .ref (139 + 1 + 2 * t), .retAddr 0, .retAddr 0], [.int (nI (w * h))]) (G, I, F) _ _
  refine vm_J.go vm_q136 (k := 7) (hs := []) (f' := (bif vm_ic .ge 0 (nI (w * h)) then 129 else 69, (0, 0), [.ref 0, .int (nI t), .int e, .ref (139 + 1 + 2 * t), .int (nI (w * h)), .int 0], [])) (h' := (G, I, F)) (hs' := []) rfl rfl ?_
  refine vm_J.br (fun c1 => ?_) (fun c1 => ?_)
  · have c1 := vm_ge_t (a := 0) (b := w * h) (by omega) (by omega) c1
    exact (show False by omega).elim
  · have c1 := vm_ge_f (a := 0) (b := w * h) (by omega) (by omega) c1
    refine vm_J.go vm_q136 (k := 2) (hs := []) (f' := (bif vm_ic .lt e 0 then 84 else 73, (0, 0), [.ref 0, .int (nI t), .int e, .ref (139 + 1 + 2 * t), .int (nI (w * h)), .int 0], [])) (h' := (G, I, F)) (hs' := []) rfl rfl ?_
    refine vm_J.bT (decide_eq_true he) ?_
    refine vm_J.go vm_q136 (k := 3) (hs := []) (f' := (90, (0, 0), [.ref 0, .int (nI t), .int e, .ref (139 + 1 + 2 * t), .int (nI (w * h)), .int 0], [.int (200 + 0)])) (h' := (G, I, F)) (hs' := []) rfl rfl ?_
    rw [(show (200 + 0 : Int32) = 200 from by decide)]
    exact vm_J.end vm_q136 (en := (90, .ireturn, 1, [], .null)) rfl rfl vm_rI (Nat.zero_le _) (Nat.zero_le _) rfl
set_option maxHeartbeats 4000000 in
set_option maxRecDepth 20000 in
/-- DitherDesk.judge -/
theorem c_judge_fm {l : Launch} {X : vm_Cx} {G : List vm_Sh} {I : Nat → Nat → Int32} {F : Nat → Nat → UInt32} {t : Nat} {w : Nat} {h : Nat} {m : Nat} {i : Nat} (hD : vm_isD G) (ht : t < 6) (hso : I (139 + 1 + 2 * t) 0 = (-1)) (hm : I (139 + 1 + 2 * t) 1 = nI m) (hm2 : m ≤ 150) (hi : m ≤ i) (hi2 : i < 2147483648) (hw : I (1 + 4) 1 = nI w) (hh : I (1 + 4) 2 = nI h) (hw2 : w ≤ 12) (hh2 : h ≤ 12) (hw0 : 0 < w) (hmd : ¬ I (1 + 4) 0 = -1) (hh0 : 0 < h) : vm_K l X vm_M136 [.ref 0, .int (nI t), .int (nI i)] (G, I, F) (some (.int 200)) (G, I, F) := by
  refine vm_K.mk (by decide) (Nat.le_of_ble_eq_true rfl) ?_
  have hwh := vm_mul144 hw2 hh2
  have hpo := Nat.mul_pos hw0 hh0
  show vm_J _ _ _ (0, (0, 0), [.ref 0, .int (nI t), .int (nI i), .retAddr 0, .retAddr 0, .retAddr 0], []) _ _ _
  refine vm_J.go vm_q136 (k := 2) (hs := []) (f' := (2, (0, 0), [.ref 0, .int (nI t), .int (nI i), .retAddr 0, .retAddr 0, .retAddr 0], [.int (nI t), .ref 0])) (h' := (G, I, F)) (hs' := []) rfl rfl ?_
  refine vm_J.call vm_q136 (Z := vm_M145) (n := 1) (k := 0) (mi := 145) (pc := 2) (en := (2, .invokevirtual 365, 3, [145, 1049, 0], .null)) rfl trivial rfl rfl vm_z145 (av := [.ref 0, .int (nI t)]) (rest := []) (m_tapeAt_n (o := 0) (n := 1) (v := 38) (t := 75) (cu := 112) (rf := 132) (rd := 135) (T := 139) (p := t) hD.d hD.t (by omega)) ⟨_, _, rfl, rfl, _, 10, _, hD.d, rfl, rfl, rfl⟩ (Nat.le_of_ble_eq_true rfl) ⟨Nat.le_of_ble_eq_true rfl, Nat.le_of_ble_eq_true rfl⟩ ⟨Nat.le_of_ble_eq_true rfl, Nat.le_of_ble_eq_true rfl⟩ ?_
  show vm_J _ _ _ (5, (0, 0), [.ref 0, .int (nI t), .int (nI i), .retAddr 0, .retAddr 0, .retAddr 0], [.ref (139 + 1 + 2 * t)]) (G, I, F) _ _
  refine vm_J.go vm_q136 (k := 5) (hs := [(10, 3, [.int 0, .int 0, .ref (139 + 2 + 2 * t)])]) (f' := (16, (0, 0), [.ref 0, .int (nI t), .int (nI i), .ref (139 + 1 + 2 * t), .retAddr 0, .retAddr 0], [.int (I (139 + 1 + 2 * t) 0)])) (h' := (G, I, F)) (hs' := []) rfl (vm_b2 rfl (vm_b2 rfl (vm_b2 rfl (vm_b2 rfl (vm_b2 (vm_b2 (vm_hG (hD.t.2.1 t ht)) rfl) rfl))))) ?_
  rw [(hso : I (139 + 1 + 2 * t) 0 = (-1))]
  refine vm_J.go vm_q136 (k := 2) (hs := []) (f' := (bif vm_ic .eq (-1) (-1) then 30 else 20, (0, 0), [.ref 0, .int (nI t), .int (nI i), .ref (139 + 1 + 2 * t), .retAddr 0, .retAddr 0], [])) (h' := (G, I, F)) (hs' := []) rfl rfl ?_
  refine vm_J.bT (by decide) ?_
  refine vm_J.go vm_q136 (k := 3) (hs := [(12, 9, [.ref 1, .ref 38, .ref 75, .ref 112, .ref 132, .ref 135, .ref 139, .int 0, .int 0]), (11, 7, [.ref (1 + 1), .ref (1 + 2), .ref (1 + 3), .ref (1 + 4), .ref (1 + 11), .ref (1 + 13), .ref (1 + 15)])]) (f' := (37, (0, 0), [.ref 0, .int (nI t), .int (nI i), .ref (139 + 1 + 2 * t), .retAddr 0, .retAddr 0], [.ref (1 + 4)])) (h' := (G, I, F)) (hs' := []) rfl (vm_b2 rfl (vm_b2 (vm_b2 (vm_hG hD.d) rfl) (vm_b2 (vm_b2 (vm_hG hD.w1.w) rfl) rfl))) ?_
  refine vm_J.call vm_q136 (Z := vm_M61) (n := 0) (k := 0) (mi := 61) (pc := 37) (en := (37, .invokevirtual 268, 3, [61, 887, 0], .null)) rfl trivial rfl rfl vm_z61 (av := [.ref (1 + 4)]) (rest := []) (m_isMade_y (o := 1 + 4) (a := 1 + 5) (b := 1 + 6) (c := 1 + 7) (d := 1 + 8) (e := 1 + 9) (f := 1 + 10) hD.w1.sh hmd) ⟨_, _, rfl, rfl, _, 6, _, hD.w1.sh, rfl, rfl, rfl⟩ (Nat.le_of_ble_eq_true rfl) ⟨Nat.le_of_ble_eq_true rfl, Nat.le_of_ble_eq_true rfl⟩ ⟨Nat.le_of_ble_eq_true rfl, Nat.le_of_ble_eq_true rfl⟩ ?_
  show vm_J _ _ _ (40, (0, 0), [.ref 0, .int (nI t), .int (nI i), .ref (139 + 1 + 2 * t), .retAddr 0, .retAddr 0], [.int 1]) (G, I, F) _ _
  refine vm_J.go vm_q136 (k := 1) (hs := []) (f' := (bif vm_ic .eq 1 0 then 56 else 43, (0, 0), [.ref 0, .int (nI t), .int (nI i), .ref (139 + 1 + 2 * t), .retAddr 0, .retAddr 0], [])) (h' := (G, I, F)) (hs' := []) rfl rfl ?_
  refine vm_J.bF (by decide) ?_
  refine vm_J.go vm_q136 (k := 3) (hs := [(12, 9, [.ref 1, .ref 38, .ref 75, .ref 112, .ref 132, .ref 135, .ref 139, .int 0, .int 0]), (11, 7, [.ref (1 + 1), .ref (1 + 2), .ref (1 + 3), .ref (1 + 4), .ref (1 + 11), .ref (1 + 13), .ref (1 + 15)])]) (f' := (50, (0, 0), [.ref 0, .int (nI t), .int (nI i), .ref (139 + 1 + 2 * t), .retAddr 0, .retAddr 0], [.ref (1 + 4)])) (h' := (G, I, F)) (hs' := []) rfl (vm_b2 rfl (vm_b2 (vm_b2 (vm_hG hD.d) rfl) (vm_b2 (vm_b2 (vm_hG hD.w1.w) rfl) rfl))) ?_
  refine vm_J.call vm_q136 (Z := vm_M62) (n := 0) (k := 0) (mi := 62) (pc := 50) (en := (50, .invokevirtual 372, 3, [62, 1053, 0], .null)) rfl trivial rfl rfl vm_z62 (av := [.ref (1 + 4)]) (rest := []) (m_Sh_pixels (o := 1 + 4) (a := 1 + 5) (b := 1 + 6) (c := 1 + 7) (d := 1 + 8) (e := 1 + 9) (f := 1 + 10) (w := w) (h := h) hD.w1.sh hw hh) ⟨_, _, rfl, rfl, _, 6, _, hD.w1.sh, rfl, rfl, rfl⟩ (Nat.le_of_ble_eq_true rfl) ⟨Nat.le_of_ble_eq_true rfl, Nat.le_of_ble_eq_true rfl⟩ ⟨Nat.le_of_ble_eq_true rfl, Nat.le_of_ble_eq_true rfl⟩ ?_
  show vm_J _ _ _ (53, (0, 0), [.ref 0, .int (nI t), .int (nI i), .ref (139 + 1 + 2 * t), .retAddr 0, .retAddr 0], [.int (nI (w * h))]) (G, I, F) _ _
  refine vm_J.go vm_q136 (k := 7) (hs := []) (f' := (bif vm_ic .ge 0 (nI (w * h)) then 129 else 69, (0, 0), [.ref 0, .int (nI t), .int (nI i), .ref (139 + 1 + 2 * t), .int (nI (w * h)), .int 0], [])) (h' := (G, I, F)) (hs' := []) rfl rfl ?_
  refine vm_J.br (fun c1 => ?_) (fun c1 => ?_)
  · have c1 := vm_ge_t (a := 0) (b := w * h) (by omega) (by omega) c1
    exact (show False by omega).elim
  · have c1 := vm_ge_f (a := 0) (b := w * h) (by omega) (by omega) c1
    refine vm_J.go vm_q136 (k := 2) (hs := []) (f' := (bif vm_ic .lt (nI i) 0 then 84 else 73, (0, 0), [.ref 0, .int (nI t), .int (nI i), .ref (139 + 1 + 2 * t), .int (nI (w * h)), .int 0], [])) (h' := (G, I, F)) (hs' := []) rfl rfl ?_
    refine vm_J.br (fun c2 => ?_) (fun c2 => ?_)
    · have c2 := vm_lt_t (a := i) (b := 0) (by omega) (by omega) c2
      exact (show False by omega).elim
    · have c2 := vm_lt_f (a := i) (b := 0) (by omega) (by omega) c2
      refine vm_J.go vm_q136 (k := 3) (hs := [(10, 3, [.int 0, .int 0, .ref (139 + 2 + 2 * t)])]) (f' := (78, (0, 0), [.ref 0, .int (nI t), .int (nI i), .ref (139 + 1 + 2 * t), .int (nI (w * h)), .int 0], [.int (I (139 + 1 + 2 * t) 1), .int (nI i)])) (h' := (G, I, F)) (hs' := []) rfl (vm_b2 rfl (vm_b2 rfl (vm_b2 (vm_b2 (vm_hG (hD.t.2.1 t ht)) rfl) rfl))) ?_
      rw [(hm : I (139 + 1 + 2 * t) 1 = nI m)]
      refine vm_J.go vm_q136 (k := 3) (hs := []) (f' := (bif vm_ic .lt (nI i) ((nI m) - 0) then 91 else 84, (0, 0), [.ref 0, .int (nI t), .int (nI i), .ref (139 + 1 + 2 * t), .int (nI (w * h)), .int 0], [])) (h' := (G, I, F)) (hs' := []) rfl rfl ?_
      refine vm_J.br (fun c3 => ?_) (fun c3 => ?_)
      · rw [((vm_ps (rfl : (nI m : Int32) = nI m) (rfl : (0 : Int32) = nI 0) (by omega)) : (nI m) - 0 = nI (m - 0))] at c3
        have c3 := vm_lt_t (a := i) (b := m - 0) (by omega) (by omega) c3
        exact (show False by omega).elim
      · rw [((vm_ps (rfl : (nI m : Int32) = nI m) (rfl : (0 : Int32) = nI 0) (by omega)) : (nI m) - 0 = nI (m - 0))] at c3
        have c3 := vm_lt_f (a := i) (b := m - 0) (by omega) (by omega) c3
        refine vm_J.go vm_q136 (k := 3) (hs := []) (f' := (90, (0, 0), [.ref 0, .int (nI t), .int (nI i), .ref (139 + 1 + 2 * t), .int (nI (w * h)), .int 0], [.int (200 + 0)])) (h' := (G, I, F)) (hs' := []) rfl rfl ?_
        rw [(show (200 + 0 : Int32) = 200 from by decide)]
        exact vm_J.end vm_q136 (en := (90, .ireturn, 1, [], .null)) rfl rfl vm_rI (Nat.zero_le _) (Nat.zero_le _) rfl
set_option maxHeartbeats 4000000 in
set_option maxRecDepth 20000 in
/-- DitherDesk.judge -/
theorem c_judge_y {l : Launch} {X : vm_Cx} {G : List vm_Sh} {I : Nat → Nat → Int32} {F : Nat → Nat → UInt32} {t : Nat} {w : Nat} {h : Nat} {m : Nat} {i : Nat} (hD : vm_isD G) (ht : t < 6) (hso : I (139 + 1 + 2 * t) 0 = 0) (hm : I (139 + 1 + 2 * t) 1 = nI m) (hm2 : m ≤ 150) (hi : i < m) (hw : I (1 + 4) 1 = nI w) (hh : I (1 + 4) 2 = nI h) (hw2 : w ≤ 12) (hh2 : h ≤ 12) (hw0 : 0 < w) (hmd : ¬ I (1 + 4) 0 = -1) (hh0 : 0 < h) : vm_K l X vm_M136 [.ref 0, .int (nI t), .int (nI i)] (G, I, F) (some (.int (sp_jd (sp_fi (fun z => m - i ≤ z ∨ ¬ I (139 + 2 + 2 * t) (i + z) = I (1 + 6) z) (w * h)) (w * h) (m - i)))) (G, I, F) := by
  refine vm_K.mk (by decide) (Nat.le_of_ble_eq_true rfl) ?_
  have hwh := vm_mul144 hw2 hh2
  have hpo := Nat.mul_pos hw0 hh0
  show vm_J _ _ _ (0, (0, 0), [.ref 0, .int (nI t), .int (nI i), .retAddr 0, .retAddr 0, .retAddr 0], []) _ _ _
  refine vm_J.go vm_q136 (k := 2) (hs := []) (f' := (2, (0, 0), [.ref 0, .int (nI t), .int (nI i), .retAddr 0, .retAddr 0, .retAddr 0], [.int (nI t), .ref 0])) (h' := (G, I, F)) (hs' := []) rfl rfl ?_
  refine vm_J.call vm_q136 (Z := vm_M145) (n := 1) (k := 0) (mi := 145) (pc := 2) (en := (2, .invokevirtual 365, 3, [145, 1049, 0], .null)) rfl trivial rfl rfl vm_z145 (av := [.ref 0, .int (nI t)]) (rest := []) (m_tapeAt_n (o := 0) (n := 1) (v := 38) (t := 75) (cu := 112) (rf := 132) (rd := 135) (T := 139) (p := t) hD.d hD.t (by omega)) ⟨_, _, rfl, rfl, _, 10, _, hD.d, rfl, rfl, rfl⟩ (Nat.le_of_ble_eq_true rfl) ⟨Nat.le_of_ble_eq_true rfl, Nat.le_of_ble_eq_true rfl⟩ ⟨Nat.le_of_ble_eq_true rfl, Nat.le_of_ble_eq_true rfl⟩ ?_
  show vm_J _ _ _ (5, (0, 0), [.ref 0, .int (nI t), .int (nI i), .retAddr 0, .retAddr 0, .retAddr 0], [.ref (139 + 1 + 2 * t)]) (G, I, F) _ _
  refine vm_J.go vm_q136 (k := 5) (hs := [(10, 3, [.int 0, .int 0, .ref (139 + 2 + 2 * t)])]) (f' := (16, (0, 0), [.ref 0, .int (nI t), .int (nI i), .ref (139 + 1 + 2 * t), .retAddr 0, .retAddr 0], [.int (I (139 + 1 + 2 * t) 0)])) (h' := (G, I, F)) (hs' := []) rfl (vm_b2 rfl (vm_b2 rfl (vm_b2 rfl (vm_b2 rfl (vm_b2 (vm_b2 (vm_hG (hD.t.2.1 t ht)) rfl) rfl))))) ?_
  rw [(hso : I (139 + 1 + 2 * t) 0 = 0)]
  refine vm_J.go vm_q136 (k := 2) (hs := []) (f' := (bif vm_ic .eq 0 (-1) then 30 else 20, (0, 0), [.ref 0, .int (nI t), .int (nI i), .ref (139 + 1 + 2 * t), .retAddr 0, .retAddr 0], [])) (h' := (G, I, F)) (hs' := []) rfl rfl ?_
  refine vm_J.bF (by decide) ?_
  refine vm_J.go vm_q136 (k := 2) (hs := [(10, 3, [.int 0, .int 0, .ref (139 + 2 + 2 * t)])]) (f' := (24, (0, 0), [.ref 0, .int (nI t), .int (nI i), .ref (139 + 1 + 2 * t), .retAddr 0, .retAddr 0], [.int (I (139 + 1 + 2 * t) 0)])) (h' := (G, I, F)) (hs' := []) rfl (vm_b2 rfl (vm_b2 (vm_b2 (vm_hG (hD.t.2.1 t ht)) rfl) rfl)) ?_
  rw [(hso : I (139 + 1 + 2 * t) 0 = 0)]
  refine vm_J.go vm_q136 (k := 1) (hs := []) (f' := (bif vm_ic .eq 0 0 then 30 else 27, (0, 0), [.ref 0, .int (nI t), .int (nI i), .ref (139 + 1 + 2 * t), .retAddr 0, .retAddr 0], [])) (h' := (G, I, F)) (hs' := []) rfl rfl ?_
  refine vm_J.bT (by decide) ?_
  refine vm_J.go vm_q136 (k := 3) (hs := [(12, 9, [.ref 1, .ref 38, .ref 75, .ref 112, .ref 132, .ref 135, .ref 139, .int 0, .int 0]), (11, 7, [.ref (1 + 1), .ref (1 + 2), .ref (1 + 3), .ref (1 + 4), .ref (1 + 11), .ref (1 + 13), .ref (1 + 15)])]) (f' := (37, (0, 0), [.ref 0, .int (nI t), .int (nI i), .ref (139 + 1 + 2 * t), .retAddr 0, .retAddr 0], [.ref (1 + 4)])) (h' := (G, I, F)) (hs' := []) rfl (vm_b2 rfl (vm_b2 (vm_b2 (vm_hG hD.d) rfl) (vm_b2 (vm_b2 (vm_hG hD.w1.w) rfl) rfl))) ?_
  refine vm_J.call vm_q136 (Z := vm_M61) (n := 0) (k := 0) (mi := 61) (pc := 37) (en := (37, .invokevirtual 268, 3, [61, 887, 0], .null)) rfl trivial rfl rfl vm_z61 (av := [.ref (1 + 4)]) (rest := []) (m_isMade_y (o := 1 + 4) (a := 1 + 5) (b := 1 + 6) (c := 1 + 7) (d := 1 + 8) (e := 1 + 9) (f := 1 + 10) hD.w1.sh hmd) ⟨_, _, rfl, rfl, _, 6, _, hD.w1.sh, rfl, rfl, rfl⟩ (Nat.le_of_ble_eq_true rfl) ⟨Nat.le_of_ble_eq_true rfl, Nat.le_of_ble_eq_true rfl⟩ ⟨Nat.le_of_ble_eq_true rfl, Nat.le_of_ble_eq_true rfl⟩ ?_
  show vm_J _ _ _ (40, (0, 0), [.ref 0, .int (nI t), .int (nI i), .ref (139 + 1 + 2 * t), .retAddr 0, .retAddr 0], [.int 1]) (G, I, F) _ _
  refine vm_J.go vm_q136 (k := 1) (hs := []) (f' := (bif vm_ic .eq 1 0 then 56 else 43, (0, 0), [.ref 0, .int (nI t), .int (nI i), .ref (139 + 1 + 2 * t), .retAddr 0, .retAddr 0], [])) (h' := (G, I, F)) (hs' := []) rfl rfl ?_
  refine vm_J.bF (by decide) ?_
  refine vm_J.go vm_q136 (k := 3) (hs := [(12, 9, [.ref 1, .ref 38, .ref 75, .ref 112, .ref 132, .ref 135, .ref 139, .int 0, .int 0]), (11, 7, [.ref (1 + 1), .ref (1 + 2), .ref (1 + 3), .ref (1 + 4), .ref (1 + 11), .ref (1 + 13), .ref (1 + 15)])]) (f' := (50, (0, 0), [.ref 0, .int (nI t), .int (nI i), .ref (139 + 1 + 2 * t), .retAddr 0, .retAddr 0], [.ref (1 + 4)])) (h' := (G, I, F)) (hs' := []) rfl (vm_b2 rfl (vm_b2 (vm_b2 (vm_hG hD.d) rfl) (vm_b2 (vm_b2 (vm_hG hD.w1.w) rfl) rfl))) ?_
  refine vm_J.call vm_q136 (Z := vm_M62) (n := 0) (k := 0) (mi := 62) (pc := 50) (en := (50, .invokevirtual 372, 3, [62, 1053, 0], .null)) rfl trivial rfl rfl vm_z62 (av := [.ref (1 + 4)]) (rest := []) (m_Sh_pixels (o := 1 + 4) (a := 1 + 5) (b := 1 + 6) (c := 1 + 7) (d := 1 + 8) (e := 1 + 9) (f := 1 + 10) (w := w) (h := h) hD.w1.sh hw hh) ⟨_, _, rfl, rfl, _, 6, _, hD.w1.sh, rfl, rfl, rfl⟩ (Nat.le_of_ble_eq_true rfl) ⟨Nat.le_of_ble_eq_true rfl, Nat.le_of_ble_eq_true rfl⟩ ⟨Nat.le_of_ble_eq_true rfl, Nat.le_of_ble_eq_true rfl⟩ ?_
  show vm_J _ _ _ (53, (0, 0), [.ref 0, .int (nI t), .int (nI i), .ref (139 + 1 + 2 * t), .retAddr 0, .retAddr 0], [.int (nI (w * h))]) (G, I, F) _ _
  refine vm_J.go vm_q136 (k := 4) (hs := []) (f' := (62, (0, 0), [.ref 0, .int (nI t), .int (nI i), .ref (139 + 1 + 2 * t), .int (nI (w * h)), .int 0], [])) (h' := (G, I, F)) (hs' := []) rfl rfl ?_
  refine vm_J.cnt (w * h) (fun k => (62, (0, 0), [.ref 0, .int (nI t), .int (nI i), .ref (139 + 1 + 2 * t), .int (nI (w * h)), .int (nI k)], [])) (fun k => (G, I, F)) (fun k => ∀ z, z < k → ¬ (m - i ≤ z ∨ ¬ I (139 + 2 + 2 * t) (i + z) = I (1 + 6) z)) rfl rfl vm_all0 (fun k hk pk ik => ?_) (fun pk => ?_)
  · have hkm : k ≤ m - i := by
      rcases Nat.eq_zero_or_pos k with h0 | h0
      · omega
      · have := pk (k - 1) (by omega)
        rw [not_or] at this
        omega
    show vm_J _ _ _ (62, (0, 0), [.ref 0, .int (nI t), .int (nI i), .ref (139 + 1 + 2 * t), .int (nI (w * h)), .int (nI k)], []) (G, I, F) _ _
    refine vm_J.go vm_q136 (k := 3) (hs := []) (f' := (bif vm_ic .ge (nI k) (nI (w * h)) then 129 else 69, (0, 0), [.ref 0, .int (nI t), .int (nI i), .ref (139 + 1 + 2 * t), .int (nI (w * h)), .int (nI k)], [])) (h' := (G, I, F)) (hs' := []) rfl rfl ?_
    refine vm_J.br (fun c1 => ?_) (fun c1 => ?_)
    · have c1 := vm_ge_t (a := k) (b := w * h) (by omega) (by omega) c1
      exact (show False by omega).elim
    · have c1 := vm_ge_f (a := k) (b := w * h) (by omega) (by omega) c1
      refine vm_J.go vm_q136 (k := 2) (hs := []) (f' := (bif vm_ic .lt (nI i) 0 then 84 else 73, (0, 0), [.ref 0, .int (nI t), .int (nI i), .ref (139 + 1 + 2 * t), .int (nI (w * h)), .int (nI k)], [])) (h' := (G, I, F)) (hs' := []) rfl rfl ?_
      refine vm_J.br (fun c2 => ?_) (fun c2 => ?_)
      · have c2 := vm_lt_t (a := i) (b := 0) (by omega) (by omega) c2
        exact (show False by omega).elim
      · have c2 := vm_lt_f (a := i) (b := 0) (by omega) (by omega) c2
        refine vm_J.go vm_q136 (k := 3) (hs := [(10, 3, [.int 0, .int 0, .ref (139 + 2 + 2 * t)])]) (f' := (78, (0, 0), [.ref 0, .int (nI t), .int (nI i), .ref (139 + 1 + 2 * t), .int (nI (w * h)), .int (nI k)], [.int (I (139 + 1 + 2 * t) 1), .int (nI i)])) (h' := (G, I, F)) (hs' := []) rfl (vm_b2 rfl (vm_b2 rfl (vm_b2 (vm_b2 (vm_hG (hD.t.2.1 t ht)) rfl) rfl))) ?_
        rw [(hm : I (139 + 1 + 2 * t) 1 = nI m)]
        refine vm_J.go vm_q136 (k := 3) (hs := []) (f' := (bif vm_ic .lt (nI i) ((nI m) - (nI k)) then 91 else 84, (0, 0), [.ref 0, .int (nI t), .int (nI i), .ref (139 + 1 + 2 * t), .int (nI (w * h)), .int (nI k)], [])) (h' := (G, I, F)) (hs' := []) rfl rfl ?_
        refine vm_J.br (fun c3 => ?_) (fun c3 => ?_)
        · rw [((vm_ps (rfl : (nI m : Int32) = nI m) (rfl : (nI k : Int32) = nI k) (by omega)) : (nI m) - (nI k) = nI (m - k))] at c3
          have c3 := vm_lt_t (a := i) (b := m - k) (by omega) (by omega) c3
          refine vm_J.go vm_q136 (k := 5) (hs := [(10, 3, [.int 0, .int 0, .ref (139 + 2 + 2 * t)])]) (f' := (99, (0, 0), [.ref 0, .int (nI t), .int (nI i), .ref (139 + 1 + 2 * t), .int (nI (w * h)), .int (nI k)], [.int ((nI i) + (nI k)), .ref (139 + 2 + 2 * t)])) (h' := (G, I, F)) (hs' := []) rfl (vm_b2 rfl (vm_b2 (vm_b2 (vm_hG (hD.t.2.1 t ht)) rfl) (vm_b2 rfl (vm_b2 rfl (vm_b2 rfl rfl))))) ?_
          rw [((vm_pa (rfl : (nI i : Int32) = nI i) (rfl : (nI k : Int32) = nI k)) : (nI i) + (nI k) = nI (i + k))]
          refine vm_J.call vm_q136 (Z := vm_M152) (n := 2) (k := 1) (mi := 152) (pc := 99) (en := (99, .invokestatic 118, 3, [152, 511, 0], .null)) rfl trivial rfl rfl vm_z152 (av := [.ref (139 + 2 + 2 * t), .int (nI (i + k))]) (rest := []) (m_at_n (j := i + k) (hD.t.2.2 t ht) (by omega) (by omega)) rfl (Nat.le_of_ble_eq_true rfl) ⟨Nat.le_of_ble_eq_true rfl, Nat.le_of_ble_eq_true rfl⟩ ⟨Nat.le_of_ble_eq_true rfl, Nat.le_of_ble_eq_true rfl⟩ ?_
          show vm_J _ _ _ (102, (0, 0), [.ref 0, .int (nI t), .int (nI i), .ref (139 + 1 + 2 * t), .int (nI (w * h)), .int (nI k)], [.int (I (139 + 2 + 2 * t) (i + k))]) (G, I, F) _ _
          refine vm_J.go vm_q136 (k := 5) (hs := [(12, 9, [.ref 1, .ref 38, .ref 75, .ref 112, .ref 132, .ref 135, .ref 139, .int 0, .int 0]), (11, 7, [.ref (1 + 1), .ref (1 + 2), .ref (1 + 3), .ref (1 + 4), .ref (1 + 11), .ref (1 + 13), .ref (1 + 15)]), (8, 9, [.int 0, .int 0, .int 0, .ref (1 + 5), .ref (1 + 6), .ref (1 + 7), .ref (1 + 8), .ref (1 + 9), .ref (1 + 10)])]) (f' := (114, (0, 0), [.ref 0, .int (nI t), .int (nI i), .ref (139 + 1 + 2 * t), .int (nI (w * h)), .int (nI k)], [.int (nI k), .ref (1 + 6), .int (I (139 + 2 + 2 * t) (i + k))])) (h' := (G, I, F)) (hs' := []) rfl (vm_b2 rfl (vm_b2 (vm_b2 (vm_hG hD.d) rfl) (vm_b2 (vm_b2 (vm_hG hD.w1.w) rfl) (vm_b2 (vm_b2 (vm_hG hD.w1.sh) rfl) (vm_b2 rfl rfl))))) ?_
          refine vm_J.call vm_q136 (Z := vm_M152) (n := 2) (k := 1) (mi := 152) (pc := 114) (en := (114, .invokestatic 118, 3, [152, 511, 0], .null)) rfl trivial rfl rfl vm_z152 (av := [.ref (1 + 6), .int (nI k)]) (rest := [.int (I (139 + 2 + 2 * t) (i + k))]) (m_at_n (j := k) hD.w1.s2 (by omega) (by omega)) rfl (Nat.le_of_ble_eq_true rfl) ⟨Nat.le_of_ble_eq_true rfl, Nat.le_of_ble_eq_true rfl⟩ ⟨Nat.le_of_ble_eq_true rfl, Nat.le_of_ble_eq_true rfl⟩ ?_
          show vm_J _ _ _ (117, (0, 0), [.ref 0, .int (nI t), .int (nI i), .ref (139 + 1 + 2 * t), .int (nI (w * h)), .int (nI k)], [.int (I (1 + 6) k), .int (I (139 + 2 + 2 * t) (i + k))]) (G, I, F) _ _
          refine vm_J.go vm_q136 (k := 1) (hs := []) (f' := (bif vm_ic .eq (I (139 + 2 + 2 * t) (i + k)) (I (1 + 6) k) then 123 else 120, (0, 0), [.ref 0, .int (nI t), .int (nI i), .ref (139 + 1 + 2 * t), .int (nI (w * h)), .int (nI k)], [])) (h' := (G, I, F)) (hs' := []) rfl rfl ?_
          refine vm_J.br (fun c4 => ?_) (fun c4 => ?_)
          · have c4 : (I (139 + 2 + 2 * t) (i + k)) = (I (1 + 6) k) := of_decide_eq_true c4
            refine vm_J.go vm_q136 (k := 2) (hs := []) (f' := (62, (0, 0), [.ref 0, .int (nI t), .int (nI i), .ref (139 + 1 + 2 * t), .int (nI (w * h)), .int ((nI k) + 1)], [])) (h' := (G, I, F)) (hs' := []) rfl rfl ?_
            rw [((vm_pa (rfl : nI k = nI k) (rfl : (1 : Int32) = nI 1)) : (nI k) + 1 = nI (k + 1))]
            exact ik (vm_alls (p := fun z => ¬ (m - i ≤ z ∨ ¬ I (139 + 2 + 2 * t) (i + z) = I (1 + 6) z)) pk (fun z => z.elim (fun y => absurd y (by omega)) (fun y => y c4)))
          · have c4 : ¬ ((I (139 + 2 + 2 * t) (i + k)) = (I (1 + 6) k)) := of_decide_eq_false c4
            refine vm_J.go vm_q136 (k := 1) (hs := []) (f' := (122, (0, 0), [.ref 0, .int (nI t), .int (nI i), .ref (139 + 1 + 2 * t), .int (nI (w * h)), .int (nI k)], [.int (nI k)])) (h' := (G, I, F)) (hs' := []) rfl rfl ?_
            exact vm_J.end vm_q136 (en := (122, .ireturn, 1, [], .null)) rfl (by unfold sp_jd; rw [sp_fi_hit (p := (fun z => m - i ≤ z ∨ ¬ I (139 + 2 + 2 * t) (i + z) = I (1 + 6) z)) hk pk (Or.inr c4), if_pos hk, if_neg (by omega)]; rfl) vm_rI (Nat.zero_le _) (Nat.zero_le _) rfl
        · rw [((vm_ps (rfl : (nI m : Int32) = nI m) (rfl : (nI k : Int32) = nI k) (by omega)) : (nI m) - (nI k) = nI (m - k))] at c3
          have c3 := vm_lt_f (a := i) (b := m - k) (by omega) (by omega) c3
          refine vm_J.go vm_q136 (k := 3) (hs := []) (f' := (90, (0, 0), [.ref 0, .int (nI t), .int (nI i), .ref (139 + 1 + 2 * t), .int (nI (w * h)), .int (nI k)], [.int (200 + (nI k))])) (h' := (G, I, F)) (hs' := []) rfl rfl ?_
          rw [((vm_pa (rfl : (200 : Int32) = nI 200) (rfl : (nI k : Int32) = nI k)) : 200 + (nI k) = nI (200 + k))]
          exact vm_J.end vm_q136 (en := (90, .ireturn, 1, [], .null)) rfl (by unfold sp_jd; rw [sp_fi_hit (p := (fun z => m - i ≤ z ∨ ¬ I (139 + 2 + 2 * t) (i + z) = I (1 + 6) z)) hk pk (Or.inl (by omega)), if_pos hk, if_pos (by omega)]; rfl) vm_rI (Nat.zero_le _) (Nat.zero_le _) rfl
  · show vm_J _ _ _ (62, (0, 0), [.ref 0, .int (nI t), .int (nI i), .ref (139 + 1 + 2 * t), .int (nI (w * h)), .int (nI (w * h))], []) (G, I, F) _ _
    refine vm_J.go vm_q136 (k := 3) (hs := []) (f' := (bif vm_ic .ge (nI (w * h)) (nI (w * h)) then 129 else 69, (0, 0), [.ref 0, .int (nI t), .int (nI i), .ref (139 + 1 + 2 * t), .int (nI (w * h)), .int (nI (w * h))], [])) (h' := (G, I, F)) (hs' := []) rfl rfl ?_
    refine vm_J.br (fun c5 => ?_) (fun c5 => ?_)
    · have c5 := vm_ge_t (a := (w * h)) (b := w * h) (by omega) (by omega) c5
      refine vm_J.go vm_q136 (k := 1) (hs := []) (f' := (131, (0, 0), [.ref 0, .int (nI t), .int (nI i), .ref (139 + 1 + 2 * t), .int (nI (w * h)), .int (nI (w * h))], [.int (-5)])) (h' := (G, I, F)) (hs' := []) rfl rfl ?_
      exact vm_J.end vm_q136 (en := (131, .ireturn, 1, [], .null)) rfl (by unfold sp_jd; rw [sp_fi_none (p := (fun z => m - i ≤ z ∨ ¬ I (139 + 2 + 2 * t) (i + z) = I (1 + 6) z)) pk, if_neg (Nat.lt_irrefl _)]; rfl) vm_rI (Nat.zero_le _) (Nat.zero_le _) rfl
    · have c5 := vm_ge_f (a := (w * h)) (b := w * h) (by omega) (by omega) c5
      exact (show False by omega).elim
theorem vm_sub_r {x a b c d : Int32} (h : ¬ (a ≤ x ∧ x ≤ b)) (h1 : a ≤ c) (h2 : d ≤ b) : ¬ (c ≤ x ∧ x ≤ d) := fun z => h ⟨Int32.le_trans h1 z.1, Int32.le_trans z.2 h2⟩
set_option maxHeartbeats 4000000 in
set_option maxRecDepth 20000 in
/-- DitherDeskModel.sum -/
theorem r_sum_b {l : Launch} {X : vm_Cx} {G : List vm_Sh} {I : Nat → Nat → Int32} {F : Nat → Nat → UInt32} {w : Nat} {h : Nat} {k : Int32} (hR : vm_isR G) (hw : I 173 0 = nI w) (hh : I 174 0 = nI h) (hw2 : w ≤ 12) (hh2 : h ≤ 12) (hw0 : 0 < w) (hk : ¬ (0 ≤ k ∧ k ≤ 15)) : vm_K l X vm_M265 [.ref 152, .int k] (G, I, F) (some (.long (-9223372036854775808))) (G, (vm_up I 152 40 0), F) := by
  refine vm_K.mk (by decide) (Nat.le_of_ble_eq_true rfl) ?_
  show vm_J _ _ _ (0, (0, 0), [.ref 152, .int k], []) _ _ _
  refine vm_J.go vm_q265 (k := 1) (hs := []) (f' := (1, (0, 0), [.ref 152, .int k], [.ref 152])) (h' := (G, I, F)) (hs' := []) rfl rfl ?_
  refine vm_J.call vm_q265 (Z := vm_M262) (n := 0) (k := 0) (mi := 262) (pc := 1) (en := (1, .invokevirtual 424, 3, [262, 1660, 0], .null)) rfl trivial rfl rfl vm_z262 (av := [.ref 152]) (rest := []) (r_isMade_y hR hw hw2 hw0) ⟨_, _, rfl, rfl, _, 11, _, hR.c152, rfl, rfl, rfl⟩ (Nat.le_of_ble_eq_true rfl) ⟨Nat.le_of_ble_eq_true rfl, Nat.le_of_ble_eq_true rfl⟩ ⟨Nat.le_of_ble_eq_true rfl, Nat.le_of_ble_eq_true rfl⟩ ?_
  show vm_J _ _ _ (4, (0, 0), [.ref 152, .int k], [.int 1]) (G, (vm_up I 152 40 0), F) _ _
  refine vm_J.go vm_q265 (k := 1) (hs := []) (f' := (bif vm_ic .ne 1 0 then 11 else 7, (0, 0), [.ref 152, .int k], [])) (h' := (G, (vm_up I 152 40 0), F)) (hs' := []) rfl rfl ?_
  refine vm_J.bT (by decide) ?_
  refine vm_J.go vm_q265 (k := 3) (hs := []) (f' := (14, (0, 0), [.ref 152, .int k], [.int 2, .int 0, .int k])) (h' := (G, (vm_up I 152 40 0), F)) (hs' := []) rfl rfl ?_
  refine vm_J.call vm_q265 (Z := vm_M168) (n := 3) (k := 1) (mi := 168) (pc := 14) (en := (14, .invokestatic 141, 3, [168, 1302, 0], .null)) rfl trivial rfl rfl vm_z168 (av := [.int k, .int 0, .int 2]) (rest := []) (r_isIn_n (v := k) (a := 0) (b := 2) (vm_sub_r hk (by decide) (by decide))) rfl (Nat.le_of_ble_eq_true rfl) ⟨Nat.le_of_ble_eq_true rfl, Nat.le_of_ble_eq_true rfl⟩ ⟨Nat.le_of_ble_eq_true rfl, Nat.le_of_ble_eq_true rfl⟩ ?_
  show vm_J _ _ _ (17, (0, 0), [.ref 152, .int k], [.int 0]) (G, (vm_up I 152 40 0), F) _ _
  refine vm_J.go vm_q265 (k := 1) (hs := []) (f' := (bif vm_ic .eq 0 0 then 27 else 20, (0, 0), [.ref 152, .int k], [])) (h' := (G, (vm_up I 152 40 0), F)) (hs' := []) rfl rfl ?_
  refine vm_J.bT (by decide) ?_
  refine vm_J.go vm_q265 (k := 3) (hs := []) (f' := (31, (0, 0), [.ref 152, .int k], [.int 6, .int 4, .int k])) (h' := (G, (vm_up I 152 40 0), F)) (hs' := []) rfl rfl ?_
  refine vm_J.call vm_q265 (Z := vm_M168) (n := 3) (k := 1) (mi := 168) (pc := 31) (en := (31, .invokestatic 141, 3, [168, 1302, 0], .null)) rfl trivial rfl rfl vm_z168 (av := [.int k, .int 4, .int 6]) (rest := []) (r_isIn_n (v := k) (a := 4) (b := 6) (vm_sub_r hk (by decide) (by decide))) rfl (Nat.le_of_ble_eq_true rfl) ⟨Nat.le_of_ble_eq_true rfl, Nat.le_of_ble_eq_true rfl⟩ ⟨Nat.le_of_ble_eq_true rfl, Nat.le_of_ble_eq_true rfl⟩ ?_
  show vm_J _ _ _ (34, (0, 0), [.ref 152, .int k], [.int 0]) (G, (vm_up I 152 40 0), F) _ _
  refine vm_J.go vm_q265 (k := 1) (hs := []) (f' := (bif vm_ic .eq 0 0 then 46 else 37, (0, 0), [.ref 152, .int k], [])) (h' := (G, (vm_up I 152 40 0), F)) (hs' := []) rfl rfl ?_
  refine vm_J.bT (by decide) ?_
  refine vm_J.go vm_q265 (k := 3) (hs := []) (f' := (51, (0, 0), [.ref 152, .int k], [.int 12, .int 10, .int k])) (h' := (G, (vm_up I 152 40 0), F)) (hs' := []) rfl rfl ?_
  refine vm_J.call vm_q265 (Z := vm_M168) (n := 3) (k := 1) (mi := 168) (pc := 51) (en := (51, .invokestatic 141, 3, [168, 1302, 0], .null)) rfl trivial rfl rfl vm_z168 (av := [.int k, .int 10, .int 12]) (rest := []) (r_isIn_n (v := k) (a := 10) (b := 12) (vm_sub_r hk (by decide) (by decide))) rfl (Nat.le_of_ble_eq_true rfl) ⟨Nat.le_of_ble_eq_true rfl, Nat.le_of_ble_eq_true rfl⟩ ⟨Nat.le_of_ble_eq_true rfl, Nat.le_of_ble_eq_true rfl⟩ ?_
  show vm_J _ _ _ (54, (0, 0), [.ref 152, .int k], [.int 0]) (G, (vm_up I 152 40 0), F) _ _
  refine vm_J.go vm_q265 (k := 1) (hs := []) (f' := (bif vm_ic .eq 0 0 then 71 else 57, (0, 0), [.ref 152, .int k], [])) (h' := (G, (vm_up I 152 40 0), F)) (hs' := []) rfl rfl ?_
  refine vm_J.bT (by decide) ?_
  refine vm_J.go vm_q265 (k := 2) (hs := []) (f' := (vm_tw 3 [140, 188, 188, 188, 146, 152, 158, 188, 188, 188, 164, 172, 180] 188 k, (0, 0), [.ref 152, .int k], [])) (h' := (G, (vm_up I 152 40 0), F)) (hs' := []) rfl rfl ?_
  rw [show vm_tw 3 [140, 188, 188, 188, 146, 152, 158, 188, 188, 188, 164, 172, 180] 188 k = 188 from vm_tw_g hk (by decide) (by decide)]
  refine vm_J.go vm_q265 (k := 1) (hs := []) (f' := (191, (0, 0), [.ref 152, .int k], [.long (-9223372036854775808)])) (h' := (G, (vm_up I 152 40 0), F)) (hs' := []) rfl rfl ?_
  exact vm_J.end vm_q265 (en := (191, .lreturn, 1, [], .null)) rfl rfl vm_rL (Nat.zero_le _) (Nat.zero_le _) rfl
