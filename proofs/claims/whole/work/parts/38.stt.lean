set_option maxHeartbeats 4000000 in
set_option maxRecDepth 20000 in
/-- DitherDesk.at  -/
theorem m_at_s0 {l : Launch} {X : vm_Cx} {G : List vm_Sh} {I : Nat → Nat → Int32} {F : Nat → Nat → UInt32} {i : Int32} (hi : vm_in i 4 = true) : vm_K l X vm_M152 [.ref 100000, .int i] (G, I, F) (some (.int (vm_sV 0 i.toNatClampNeg))) (G, I, F) := by
  refine vm_K.mk (by decide) (Nat.le_of_ble_eq_true rfl) ?_
  show vm_J _ _ _ (0, (0, 0), [.ref 100000, .int i], []) _ _ _
  refine vm_J.go vm_q152 (k := 2) (hs := []) (f' := (bif vm_ic .lt i 0 then 16 else 4, (0, 0), [.ref 100000, .int i], [])) (h' := (G, I, F)) (hs' := []) rfl rfl ?_
  refine vm_J.br (fun c1 => ?_) (fun c1 => ?_)
  · have c1 : i < 0 := of_decide_eq_true c1
    exact absurd c1 (vm_in_0 hi)
  · have c1 : ¬ (i < 0) := of_decide_eq_false c1
    refine vm_J.go vm_q152 (k := 4) (hs := [(60, 0, [])]) (f' := (bif vm_ic .ge i 4 then 16 else 10, (0, 0), [.ref 100000, .int i], [])) (h' := (G, I, F)) (hs' := []) rfl rfl ?_
    refine vm_J.br (fun c2 => ?_) (fun c2 => ?_)
    · have c2 : 4 ≤ i := of_decide_eq_true c2
      exact absurd c2 (vm_in_ge hi (by decide))
    · have c2 : ¬ (4 ≤ i) := of_decide_eq_false c2
      refine vm_J.go vm_q152 (k := 4) (hs := [(60, 0, [])]) (f' := (17, (0, 0), [.ref 100000, .int i], [.int (vm_sV 0 i.toNatClampNeg)])) (h' := (G, I, F)) (hs' := []) rfl (vm_b2 rfl (vm_b2 rfl (vm_b2 (vm_b2 rfl hi) (vm_b2 rfl rfl)))) ?_
      exact vm_J.end vm_q152 (en := (17, .ireturn, 1, [], .null)) rfl rfl vm_rI (Nat.zero_le _) (Nat.zero_le _) rfl
theorem m_at_s0_n {l : Launch} {X : vm_Cx} {G : List vm_Sh} {I : Nat → Nat → Int32} {F : Nat → Nat → UInt32} {j : Nat} (hj : j < 4) : vm_K l X vm_M152 [.ref 100000, .int (nI j)] (G, I, F) (some (.int (vm_sV 0 j))) (G, I, F) := by
  have h := m_at_s0 (l := l) (X := X) (G := G) (I := I) (F := F) (vm_in_n hj (by decide))
  rw [vm_ix_n (by omega)] at h
  exact h
theorem m_at_s0_0 {l : Launch} {X : vm_Cx} {G : List vm_Sh} {I : Nat → Nat → Int32} {F : Nat → Nat → UInt32} : vm_K l X vm_M152 [.ref 100000, .int 0] (G, I, F) (some (.int 0)) (G, I, F) := by
  exact m_at_s0_n (j := 0) (by decide)
theorem m_at_s0_1 {l : Launch} {X : vm_Cx} {G : List vm_Sh} {I : Nat → Nat → Int32} {F : Nat → Nat → UInt32} : vm_K l X vm_M152 [.ref 100000, .int 1] (G, I, F) (some (.int 0)) (G, I, F) := by
  exact m_at_s0_n (j := 1) (by decide)
theorem m_at_s0_2 {l : Launch} {X : vm_Cx} {G : List vm_Sh} {I : Nat → Nat → Int32} {F : Nat → Nat → UInt32} : vm_K l X vm_M152 [.ref 100000, .int 2] (G, I, F) (some (.int 0)) (G, I, F) := by
  exact m_at_s0_n (j := 2) (by decide)
theorem m_at_s0_3 {l : Launch} {X : vm_Cx} {G : List vm_Sh} {I : Nat → Nat → Int32} {F : Nat → Nat → UInt32} : vm_K l X vm_M152 [.ref 100000, .int 3] (G, I, F) (some (.int 16)) (G, I, F) := by
  exact m_at_s0_n (j := 3) (by decide)
set_option maxHeartbeats 4000000 in
set_option maxRecDepth 20000 in
/-- DitherDesk.at  -/
theorem m_at_s1 {l : Launch} {X : vm_Cx} {G : List vm_Sh} {I : Nat → Nat → Int32} {F : Nat → Nat → UInt32} {i : Int32} (hi : vm_in i 4 = true) : vm_K l X vm_M152 [.ref 100001, .int i] (G, I, F) (some (.int (vm_sV 1 i.toNatClampNeg))) (G, I, F) := by
  refine vm_K.mk (by decide) (Nat.le_of_ble_eq_true rfl) ?_
  show vm_J _ _ _ (0, (0, 0), [.ref 100001, .int i], []) _ _ _
  refine vm_J.go vm_q152 (k := 2) (hs := []) (f' := (bif vm_ic .lt i 0 then 16 else 4, (0, 0), [.ref 100001, .int i], [])) (h' := (G, I, F)) (hs' := []) rfl rfl ?_
  refine vm_J.br (fun c1 => ?_) (fun c1 => ?_)
  · have c1 : i < 0 := of_decide_eq_true c1
    exact absurd c1 (vm_in_0 hi)
  · have c1 : ¬ (i < 0) := of_decide_eq_false c1
    refine vm_J.go vm_q152 (k := 4) (hs := [(60, 1, [])]) (f' := (bif vm_ic .ge i 4 then 16 else 10, (0, 0), [.ref 100001, .int i], [])) (h' := (G, I, F)) (hs' := []) rfl rfl ?_
    refine vm_J.br (fun c2 => ?_) (fun c2 => ?_)
    · have c2 : 4 ≤ i := of_decide_eq_true c2
      exact absurd c2 (vm_in_ge hi (by decide))
    · have c2 : ¬ (4 ≤ i) := of_decide_eq_false c2
      refine vm_J.go vm_q152 (k := 4) (hs := [(60, 1, [])]) (f' := (17, (0, 0), [.ref 100001, .int i], [.int (vm_sV 1 i.toNatClampNeg)])) (h' := (G, I, F)) (hs' := []) rfl (vm_b2 rfl (vm_b2 rfl (vm_b2 (vm_b2 rfl hi) (vm_b2 rfl rfl)))) ?_
      exact vm_J.end vm_q152 (en := (17, .ireturn, 1, [], .null)) rfl rfl vm_rI (Nat.zero_le _) (Nat.zero_le _) rfl
theorem m_at_s1_n {l : Launch} {X : vm_Cx} {G : List vm_Sh} {I : Nat → Nat → Int32} {F : Nat → Nat → UInt32} {j : Nat} (hj : j < 4) : vm_K l X vm_M152 [.ref 100001, .int (nI j)] (G, I, F) (some (.int (vm_sV 1 j))) (G, I, F) := by
  have h := m_at_s1 (l := l) (X := X) (G := G) (I := I) (F := F) (vm_in_n hj (by decide))
  rw [vm_ix_n (by omega)] at h
  exact h
theorem m_at_s1_0 {l : Launch} {X : vm_Cx} {G : List vm_Sh} {I : Nat → Nat → Int32} {F : Nat → Nat → UInt32} : vm_K l X vm_M152 [.ref 100001, .int 0] (G, I, F) (some (.int 3)) (G, I, F) := by
  exact m_at_s1_n (j := 0) (by decide)
theorem m_at_s1_1 {l : Launch} {X : vm_Cx} {G : List vm_Sh} {I : Nat → Nat → Int32} {F : Nat → Nat → UInt32} : vm_K l X vm_M152 [.ref 100001, .int 1] (G, I, F) (some (.int 4)) (G, I, F) := by
  exact m_at_s1_n (j := 1) (by decide)
theorem m_at_s1_2 {l : Launch} {X : vm_Cx} {G : List vm_Sh} {I : Nat → Nat → Int32} {F : Nat → Nat → UInt32} : vm_K l X vm_M152 [.ref 100001, .int 2] (G, I, F) (some (.int 2)) (G, I, F) := by
  exact m_at_s1_n (j := 2) (by decide)
theorem m_at_s1_3 {l : Launch} {X : vm_Cx} {G : List vm_Sh} {I : Nat → Nat → Int32} {F : Nat → Nat → UInt32} : vm_K l X vm_M152 [.ref 100001, .int 3] (G, I, F) (some (.int 63)) (G, I, F) := by
  exact m_at_s1_n (j := 3) (by decide)
set_option maxHeartbeats 4000000 in
set_option maxRecDepth 20000 in
/-- DitherDesk.at  -/
theorem m_at_s2 {l : Launch} {X : vm_Cx} {G : List vm_Sh} {I : Nat → Nat → Int32} {F : Nat → Nat → UInt32} {i : Int32} (hi : vm_in i 3 = true) : vm_K l X vm_M152 [.ref 100002, .int i] (G, I, F) (some (.int (vm_sV 2 i.toNatClampNeg))) (G, I, F) := by
  refine vm_K.mk (by decide) (Nat.le_of_ble_eq_true rfl) ?_
  show vm_J _ _ _ (0, (0, 0), [.ref 100002, .int i], []) _ _ _
  refine vm_J.go vm_q152 (k := 2) (hs := []) (f' := (bif vm_ic .lt i 0 then 16 else 4, (0, 0), [.ref 100002, .int i], [])) (h' := (G, I, F)) (hs' := []) rfl rfl ?_
  refine vm_J.br (fun c1 => ?_) (fun c1 => ?_)
  · have c1 : i < 0 := of_decide_eq_true c1
    exact absurd c1 (vm_in_0 hi)
  · have c1 : ¬ (i < 0) := of_decide_eq_false c1
    refine vm_J.go vm_q152 (k := 4) (hs := [(60, 2, [])]) (f' := (bif vm_ic .ge i 3 then 16 else 10, (0, 0), [.ref 100002, .int i], [])) (h' := (G, I, F)) (hs' := []) rfl rfl ?_
    refine vm_J.br (fun c2 => ?_) (fun c2 => ?_)
    · have c2 : 3 ≤ i := of_decide_eq_true c2
      exact absurd c2 (vm_in_ge hi (by decide))
    · have c2 : ¬ (3 ≤ i) := of_decide_eq_false c2
      refine vm_J.go vm_q152 (k := 4) (hs := [(60, 2, [])]) (f' := (17, (0, 0), [.ref 100002, .int i], [.int (vm_sV 2 i.toNatClampNeg)])) (h' := (G, I, F)) (hs' := []) rfl (vm_b2 rfl (vm_b2 rfl (vm_b2 (vm_b2 rfl hi) (vm_b2 rfl rfl)))) ?_
      exact vm_J.end vm_q152 (en := (17, .ireturn, 1, [], .null)) rfl rfl vm_rI (Nat.zero_le _) (Nat.zero_le _) rfl
theorem m_at_s2_n {l : Launch} {X : vm_Cx} {G : List vm_Sh} {I : Nat → Nat → Int32} {F : Nat → Nat → UInt32} {j : Nat} (hj : j < 3) : vm_K l X vm_M152 [.ref 100002, .int (nI j)] (G, I, F) (some (.int (vm_sV 2 j))) (G, I, F) := by
  have h := m_at_s2 (l := l) (X := X) (G := G) (I := I) (F := F) (vm_in_n hj (by decide))
  rw [vm_ix_n (by omega)] at h
  exact h
theorem m_at_s2_0 {l : Launch} {X : vm_Cx} {G : List vm_Sh} {I : Nat → Nat → Int32} {F : Nat → Nat → UInt32} : vm_K l X vm_M152 [.ref 100002, .int 0] (G, I, F) (some (.int 2)) (G, I, F) := by
  exact m_at_s2_n (j := 0) (by decide)
theorem m_at_s2_1 {l : Launch} {X : vm_Cx} {G : List vm_Sh} {I : Nat → Nat → Int32} {F : Nat → Nat → UInt32} : vm_K l X vm_M152 [.ref 100002, .int 1] (G, I, F) (some (.int 4)) (G, I, F) := by
  exact m_at_s2_n (j := 1) (by decide)
theorem m_at_s2_2 {l : Launch} {X : vm_Cx} {G : List vm_Sh} {I : Nat → Nat → Int32} {F : Nat → Nat → UInt32} : vm_K l X vm_M152 [.ref 100002, .int 2] (G, I, F) (some (.int 3)) (G, I, F) := by
  exact m_at_s2_n (j := 2) (by decide)
set_option maxHeartbeats 4000000 in
set_option maxRecDepth 20000 in
/-- DitherDesk.at  -/
theorem m_at_s3 {l : Launch} {X : vm_Cx} {G : List vm_Sh} {I : Nat → Nat → Int32} {F : Nat → Nat → UInt32} {i : Int32} (hi : vm_in i 29 = true) : vm_K l X vm_M152 [.ref 100003, .int i] (G, I, F) (some (.int (vm_sV 3 i.toNatClampNeg))) (G, I, F) := by
  refine vm_K.mk (by decide) (Nat.le_of_ble_eq_true rfl) ?_
  show vm_J _ _ _ (0, (0, 0), [.ref 100003, .int i], []) _ _ _
  refine vm_J.go vm_q152 (k := 2) (hs := []) (f' := (bif vm_ic .lt i 0 then 16 else 4, (0, 0), [.ref 100003, .int i], [])) (h' := (G, I, F)) (hs' := []) rfl rfl ?_
  refine vm_J.br (fun c1 => ?_) (fun c1 => ?_)
  · have c1 : i < 0 := of_decide_eq_true c1
    exact absurd c1 (vm_in_0 hi)
  · have c1 : ¬ (i < 0) := of_decide_eq_false c1
    refine vm_J.go vm_q152 (k := 4) (hs := [(60, 3, [])]) (f' := (bif vm_ic .ge i 29 then 16 else 10, (0, 0), [.ref 100003, .int i], [])) (h' := (G, I, F)) (hs' := []) rfl rfl ?_
    refine vm_J.br (fun c2 => ?_) (fun c2 => ?_)
    · have c2 : 29 ≤ i := of_decide_eq_true c2
      exact absurd c2 (vm_in_ge hi (by decide))
    · have c2 : ¬ (29 ≤ i) := of_decide_eq_false c2
      refine vm_J.go vm_q152 (k := 4) (hs := [(60, 3, [])]) (f' := (17, (0, 0), [.ref 100003, .int i], [.int (vm_sV 3 i.toNatClampNeg)])) (h' := (G, I, F)) (hs' := []) rfl (vm_b2 rfl (vm_b2 rfl (vm_b2 (vm_b2 rfl hi) (vm_b2 rfl rfl)))) ?_
      exact vm_J.end vm_q152 (en := (17, .ireturn, 1, [], .null)) rfl rfl vm_rI (Nat.zero_le _) (Nat.zero_le _) rfl
theorem m_at_s3_n {l : Launch} {X : vm_Cx} {G : List vm_Sh} {I : Nat → Nat → Int32} {F : Nat → Nat → UInt32} {j : Nat} (hj : j < 29) : vm_K l X vm_M152 [.ref 100003, .int (nI j)] (G, I, F) (some (.int (vm_sV 3 j))) (G, I, F) := by
  have h := m_at_s3 (l := l) (X := X) (G := G) (I := I) (F := F) (vm_in_n hj (by decide))
  rw [vm_ix_n (by omega)] at h
  exact h
theorem m_at_s3_0 {l : Launch} {X : vm_Cx} {G : List vm_Sh} {I : Nat → Nat → Int32} {F : Nat → Nat → UInt32} : vm_K l X vm_M152 [.ref 100003, .int 0] (G, I, F) (some (.int 0)) (G, I, F) := by
  exact m_at_s3_n (j := 0) (by decide)
theorem m_at_s3_1 {l : Launch} {X : vm_Cx} {G : List vm_Sh} {I : Nat → Nat → Int32} {F : Nat → Nat → UInt32} : vm_K l X vm_M152 [.ref 100003, .int 1] (G, I, F) (some (.int 2)) (G, I, F) := by
  exact m_at_s3_n (j := 1) (by decide)
theorem m_at_s3_2 {l : Launch} {X : vm_Cx} {G : List vm_Sh} {I : Nat → Nat → Int32} {F : Nat → Nat → UInt32} : vm_K l X vm_M152 [.ref 100003, .int 2] (G, I, F) (some (.int 3)) (G, I, F) := by
  exact m_at_s3_n (j := 2) (by decide)
theorem m_at_s3_3 {l : Launch} {X : vm_Cx} {G : List vm_Sh} {I : Nat → Nat → Int32} {F : Nat → Nat → UInt32} : vm_K l X vm_M152 [.ref 100003, .int 3] (G, I, F) (some (.int 1)) (G, I, F) := by
  exact m_at_s3_n (j := 3) (by decide)
theorem m_at_s3_4 {l : Launch} {X : vm_Cx} {G : List vm_Sh} {I : Nat → Nat → Int32} {F : Nat → Nat → UInt32} : vm_K l X vm_M152 [.ref 100003, .int 4] (G, I, F) (some (.int 0)) (G, I, F) := by
  exact m_at_s3_n (j := 4) (by decide)
theorem m_at_s3_5 {l : Launch} {X : vm_Cx} {G : List vm_Sh} {I : Nat → Nat → Int32} {F : Nat → Nat → UInt32} : vm_K l X vm_M152 [.ref 100003, .int 5] (G, I, F) (some (.int 8)) (G, I, F) := by
  exact m_at_s3_n (j := 5) (by decide)
theorem m_at_s3_6 {l : Launch} {X : vm_Cx} {G : List vm_Sh} {I : Nat → Nat → Int32} {F : Nat → Nat → UInt32} : vm_K l X vm_M152 [.ref 100003, .int 6] (G, I, F) (some (.int 2)) (G, I, F) := by
  exact m_at_s3_n (j := 6) (by decide)
theorem m_at_s3_7 {l : Launch} {X : vm_Cx} {G : List vm_Sh} {I : Nat → Nat → Int32} {F : Nat → Nat → UInt32} : vm_K l X vm_M152 [.ref 100003, .int 7] (G, I, F) (some (.int 10)) (G, I, F) := by
  exact m_at_s3_n (j := 7) (by decide)
theorem m_at_s3_8 {l : Launch} {X : vm_Cx} {G : List vm_Sh} {I : Nat → Nat → Int32} {F : Nat → Nat → UInt32} : vm_K l X vm_M152 [.ref 100003, .int 8] (G, I, F) (some (.int 12)) (G, I, F) := by
  exact m_at_s3_n (j := 8) (by decide)
theorem m_at_s3_9 {l : Launch} {X : vm_Cx} {G : List vm_Sh} {I : Nat → Nat → Int32} {F : Nat → Nat → UInt32} : vm_K l X vm_M152 [.ref 100003, .int 9] (G, I, F) (some (.int 4)) (G, I, F) := by
  exact m_at_s3_n (j := 9) (by decide)
theorem m_at_s3_10 {l : Launch} {X : vm_Cx} {G : List vm_Sh} {I : Nat → Nat → Int32} {F : Nat → Nat → UInt32} : vm_K l X vm_M152 [.ref 100003, .int 10] (G, I, F) (some (.int 14)) (G, I, F) := by
  exact m_at_s3_n (j := 10) (by decide)
theorem m_at_s3_11 {l : Launch} {X : vm_Cx} {G : List vm_Sh} {I : Nat → Nat → Int32} {F : Nat → Nat → UInt32} : vm_K l X vm_M152 [.ref 100003, .int 11] (G, I, F) (some (.int 6)) (G, I, F) := by
  exact m_at_s3_n (j := 11) (by decide)
theorem m_at_s3_12 {l : Launch} {X : vm_Cx} {G : List vm_Sh} {I : Nat → Nat → Int32} {F : Nat → Nat → UInt32} : vm_K l X vm_M152 [.ref 100003, .int 12] (G, I, F) (some (.int 3)) (G, I, F) := by
  exact m_at_s3_n (j := 12) (by decide)
theorem m_at_s3_13 {l : Launch} {X : vm_Cx} {G : List vm_Sh} {I : Nat → Nat → Int32} {F : Nat → Nat → UInt32} : vm_K l X vm_M152 [.ref 100003, .int 13] (G, I, F) (some (.int 11)) (G, I, F) := by
  exact m_at_s3_n (j := 13) (by decide)
theorem m_at_s3_14 {l : Launch} {X : vm_Cx} {G : List vm_Sh} {I : Nat → Nat → Int32} {F : Nat → Nat → UInt32} : vm_K l X vm_M152 [.ref 100003, .int 14] (G, I, F) (some (.int 1)) (G, I, F) := by
  exact m_at_s3_n (j := 14) (by decide)
theorem m_at_s3_15 {l : Launch} {X : vm_Cx} {G : List vm_Sh} {I : Nat → Nat → Int32} {F : Nat → Nat → UInt32} : vm_K l X vm_M152 [.ref 100003, .int 15] (G, I, F) (some (.int 9)) (G, I, F) := by
  exact m_at_s3_n (j := 15) (by decide)
theorem m_at_s3_16 {l : Launch} {X : vm_Cx} {G : List vm_Sh} {I : Nat → Nat → Int32} {F : Nat → Nat → UInt32} : vm_K l X vm_M152 [.ref 100003, .int 16] (G, I, F) (some (.int 15)) (G, I, F) := by
  exact m_at_s3_n (j := 16) (by decide)
theorem m_at_s3_17 {l : Launch} {X : vm_Cx} {G : List vm_Sh} {I : Nat → Nat → Int32} {F : Nat → Nat → UInt32} : vm_K l X vm_M152 [.ref 100003, .int 17] (G, I, F) (some (.int 7)) (G, I, F) := by
  exact m_at_s3_n (j := 17) (by decide)
theorem m_at_s3_18 {l : Launch} {X : vm_Cx} {G : List vm_Sh} {I : Nat → Nat → Int32} {F : Nat → Nat → UInt32} : vm_K l X vm_M152 [.ref 100003, .int 18] (G, I, F) (some (.int 13)) (G, I, F) := by
  exact m_at_s3_n (j := 18) (by decide)
theorem m_at_s3_19 {l : Launch} {X : vm_Cx} {G : List vm_Sh} {I : Nat → Nat → Int32} {F : Nat → Nat → UInt32} : vm_K l X vm_M152 [.ref 100003, .int 19] (G, I, F) (some (.int 5)) (G, I, F) := by
  exact m_at_s3_n (j := 19) (by decide)
theorem m_at_s3_20 {l : Launch} {X : vm_Cx} {G : List vm_Sh} {I : Nat → Nat → Int32} {F : Nat → Nat → UInt32} : vm_K l X vm_M152 [.ref 100003, .int 20] (G, I, F) (some (.int 6)) (G, I, F) := by
  exact m_at_s3_n (j := 20) (by decide)
theorem m_at_s3_21 {l : Launch} {X : vm_Cx} {G : List vm_Sh} {I : Nat → Nat → Int32} {F : Nat → Nat → UInt32} : vm_K l X vm_M152 [.ref 100003, .int 21] (G, I, F) (some (.int 8)) (G, I, F) := by
  exact m_at_s3_n (j := 21) (by decide)
theorem m_at_s3_22 {l : Launch} {X : vm_Cx} {G : List vm_Sh} {I : Nat → Nat → Int32} {F : Nat → Nat → UInt32} : vm_K l X vm_M152 [.ref 100003, .int 22] (G, I, F) (some (.int 4)) (G, I, F) := by
  exact m_at_s3_n (j := 22) (by decide)
theorem m_at_s3_23 {l : Launch} {X : vm_Cx} {G : List vm_Sh} {I : Nat → Nat → Int32} {F : Nat → Nat → UInt32} : vm_K l X vm_M152 [.ref 100003, .int 23] (G, I, F) (some (.int 1)) (G, I, F) := by
  exact m_at_s3_n (j := 23) (by decide)
theorem m_at_s3_24 {l : Launch} {X : vm_Cx} {G : List vm_Sh} {I : Nat → Nat → Int32} {F : Nat → Nat → UInt32} : vm_K l X vm_M152 [.ref 100003, .int 24] (G, I, F) (some (.int 0)) (G, I, F) := by
  exact m_at_s3_n (j := 24) (by decide)
theorem m_at_s3_25 {l : Launch} {X : vm_Cx} {G : List vm_Sh} {I : Nat → Nat → Int32} {F : Nat → Nat → UInt32} : vm_K l X vm_M152 [.ref 100003, .int 25] (G, I, F) (some (.int 3)) (G, I, F) := by
  exact m_at_s3_n (j := 25) (by decide)
theorem m_at_s3_26 {l : Launch} {X : vm_Cx} {G : List vm_Sh} {I : Nat → Nat → Int32} {F : Nat → Nat → UInt32} : vm_K l X vm_M152 [.ref 100003, .int 26] (G, I, F) (some (.int 5)) (G, I, F) := by
  exact m_at_s3_n (j := 26) (by decide)
theorem m_at_s3_27 {l : Launch} {X : vm_Cx} {G : List vm_Sh} {I : Nat → Nat → Int32} {F : Nat → Nat → UInt32} : vm_K l X vm_M152 [.ref 100003, .int 27] (G, I, F) (some (.int 2)) (G, I, F) := by
  exact m_at_s3_n (j := 27) (by decide)
theorem m_at_s3_28 {l : Launch} {X : vm_Cx} {G : List vm_Sh} {I : Nat → Nat → Int32} {F : Nat → Nat → UInt32} : vm_K l X vm_M152 [.ref 100003, .int 28] (G, I, F) (some (.int 7)) (G, I, F) := by
  exact m_at_s3_n (j := 28) (by decide)
set_option maxHeartbeats 4000000 in
set_option maxRecDepth 20000 in
/-- DitherDesk.at  -/
theorem m_at_s4 {l : Launch} {X : vm_Cx} {G : List vm_Sh} {I : Nat → Nat → Int32} {F : Nat → Nat → UInt32} {i : Int32} (hi : vm_in i 3 = true) : vm_K l X vm_M152 [.ref 100004, .int i] (G, I, F) (some (.int (vm_sV 4 i.toNatClampNeg))) (G, I, F) := by
  refine vm_K.mk (by decide) (Nat.le_of_ble_eq_true rfl) ?_
  show vm_J _ _ _ (0, (0, 0), [.ref 100004, .int i], []) _ _ _
  refine vm_J.go vm_q152 (k := 2) (hs := []) (f' := (bif vm_ic .lt i 0 then 16 else 4, (0, 0), [.ref 100004, .int i], [])) (h' := (G, I, F)) (hs' := []) rfl rfl ?_
  refine vm_J.br (fun c1 => ?_) (fun c1 => ?_)
  · have c1 : i < 0 := of_decide_eq_true c1
    exact absurd c1 (vm_in_0 hi)
  · have c1 : ¬ (i < 0) := of_decide_eq_false c1
    refine vm_J.go vm_q152 (k := 4) (hs := [(60, 4, [])]) (f' := (bif vm_ic .ge i 3 then 16 else 10, (0, 0), [.ref 100004, .int i], [])) (h' := (G, I, F)) (hs' := []) rfl rfl ?_
    refine vm_J.br (fun c2 => ?_) (fun c2 => ?_)
    · have c2 : 3 ≤ i := of_decide_eq_true c2
      exact absurd c2 (vm_in_ge hi (by decide))
    · have c2 : ¬ (3 ≤ i) := of_decide_eq_false c2
      refine vm_J.go vm_q152 (k := 4) (hs := [(60, 4, [])]) (f' := (17, (0, 0), [.ref 100004, .int i], [.int (vm_sV 4 i.toNatClampNeg)])) (h' := (G, I, F)) (hs' := []) rfl (vm_b2 rfl (vm_b2 rfl (vm_b2 (vm_b2 rfl hi) (vm_b2 rfl rfl)))) ?_
      exact vm_J.end vm_q152 (en := (17, .ireturn, 1, [], .null)) rfl rfl vm_rI (Nat.zero_le _) (Nat.zero_le _) rfl
theorem m_at_s4_n {l : Launch} {X : vm_Cx} {G : List vm_Sh} {I : Nat → Nat → Int32} {F : Nat → Nat → UInt32} {j : Nat} (hj : j < 3) : vm_K l X vm_M152 [.ref 100004, .int (nI j)] (G, I, F) (some (.int (vm_sV 4 j))) (G, I, F) := by
  have h := m_at_s4 (l := l) (X := X) (G := G) (I := I) (F := F) (vm_in_n hj (by decide))
  rw [vm_ix_n (by omega)] at h
  exact h
theorem m_at_s4_0 {l : Launch} {X : vm_Cx} {G : List vm_Sh} {I : Nat → Nat → Int32} {F : Nat → Nat → UInt32} : vm_K l X vm_M152 [.ref 100004, .int 0] (G, I, F) (some (.int 0)) (G, I, F) := by
  exact m_at_s4_n (j := 0) (by decide)
theorem m_at_s4_1 {l : Launch} {X : vm_Cx} {G : List vm_Sh} {I : Nat → Nat → Int32} {F : Nat → Nat → UInt32} : vm_K l X vm_M152 [.ref 100004, .int 1] (G, I, F) (some (.int 4)) (G, I, F) := by
  exact m_at_s4_n (j := 1) (by decide)
theorem m_at_s4_2 {l : Launch} {X : vm_Cx} {G : List vm_Sh} {I : Nat → Nat → Int32} {F : Nat → Nat → UInt32} : vm_K l X vm_M152 [.ref 100004, .int 2] (G, I, F) (some (.int 20)) (G, I, F) := by
  exact m_at_s4_n (j := 2) (by decide)
set_option maxHeartbeats 4000000 in
set_option maxRecDepth 20000 in
/-- DitherDesk.at  -/
theorem m_at_s5 {l : Launch} {X : vm_Cx} {G : List vm_Sh} {I : Nat → Nat → Int32} {F : Nat → Nat → UInt32} {i : Int32} (hi : vm_in i 5 = true) : vm_K l X vm_M152 [.ref 100005, .int i] (G, I, F) (some (.int (vm_sV 5 i.toNatClampNeg))) (G, I, F) := by
  refine vm_K.mk (by decide) (Nat.le_of_ble_eq_true rfl) ?_
  show vm_J _ _ _ (0, (0, 0), [.ref 100005, .int i], []) _ _ _
  refine vm_J.go vm_q152 (k := 2) (hs := []) (f' := (bif vm_ic .lt i 0 then 16 else 4, (0, 0), [.ref 100005, .int i], [])) (h' := (G, I, F)) (hs' := []) rfl rfl ?_
  refine vm_J.br (fun c1 => ?_) (fun c1 => ?_)
  · have c1 : i < 0 := of_decide_eq_true c1
    exact absurd c1 (vm_in_0 hi)
  · have c1 : ¬ (i < 0) := of_decide_eq_false c1
    refine vm_J.go vm_q152 (k := 4) (hs := [(60, 5, [])]) (f' := (bif vm_ic .ge i 5 then 16 else 10, (0, 0), [.ref 100005, .int i], [])) (h' := (G, I, F)) (hs' := []) rfl rfl ?_
    refine vm_J.br (fun c2 => ?_) (fun c2 => ?_)
    · have c2 : 5 ≤ i := of_decide_eq_true c2
      exact absurd c2 (vm_in_ge hi (by decide))
    · have c2 : ¬ (5 ≤ i) := of_decide_eq_false c2
      refine vm_J.go vm_q152 (k := 4) (hs := [(60, 5, [])]) (f' := (17, (0, 0), [.ref 100005, .int i], [.int (vm_sV 5 i.toNatClampNeg)])) (h' := (G, I, F)) (hs' := []) rfl (vm_b2 rfl (vm_b2 rfl (vm_b2 (vm_b2 rfl hi) (vm_b2 rfl rfl)))) ?_
      exact vm_J.end vm_q152 (en := (17, .ireturn, 1, [], .null)) rfl rfl vm_rI (Nat.zero_le _) (Nat.zero_le _) rfl
theorem m_at_s5_n {l : Launch} {X : vm_Cx} {G : List vm_Sh} {I : Nat → Nat → Int32} {F : Nat → Nat → UInt32} {j : Nat} (hj : j < 5) : vm_K l X vm_M152 [.ref 100005, .int (nI j)] (G, I, F) (some (.int (vm_sV 5 j))) (G, I, F) := by
  have h := m_at_s5 (l := l) (X := X) (G := G) (I := I) (F := F) (vm_in_n hj (by decide))
  rw [vm_ix_n (by omega)] at h
  exact h
theorem m_at_s5_0 {l : Launch} {X : vm_Cx} {G : List vm_Sh} {I : Nat → Nat → Int32} {F : Nat → Nat → UInt32} : vm_K l X vm_M152 [.ref 100005, .int 0] (G, I, F) (some (.int 1)) (G, I, F) := by
  exact m_at_s5_n (j := 0) (by decide)
theorem m_at_s5_1 {l : Launch} {X : vm_Cx} {G : List vm_Sh} {I : Nat → Nat → Int32} {F : Nat → Nat → UInt32} : vm_K l X vm_M152 [.ref 100005, .int 1] (G, I, F) (some (.int 1)) (G, I, F) := by
  exact m_at_s5_n (j := 1) (by decide)
theorem m_at_s5_2 {l : Launch} {X : vm_Cx} {G : List vm_Sh} {I : Nat → Nat → Int32} {F : Nat → Nat → UInt32} : vm_K l X vm_M152 [.ref 100005, .int 2] (G, I, F) (some (.int 16)) (G, I, F) := by
  exact m_at_s5_n (j := 2) (by decide)
theorem m_at_s5_3 {l : Launch} {X : vm_Cx} {G : List vm_Sh} {I : Nat → Nat → Int32} {F : Nat → Nat → UInt32} : vm_K l X vm_M152 [.ref 100005, .int 3] (G, I, F) (some (.int 8)) (G, I, F) := by
  exact m_at_s5_n (j := 3) (by decide)
theorem m_at_s5_4 {l : Launch} {X : vm_Cx} {G : List vm_Sh} {I : Nat → Nat → Int32} {F : Nat → Nat → UInt32} : vm_K l X vm_M152 [.ref 100005, .int 4] (G, I, F) (some (.int 4)) (G, I, F) := by
  exact m_at_s5_n (j := 4) (by decide)
set_option maxHeartbeats 4000000 in
set_option maxRecDepth 20000 in
/-- DitherDesk.at  -/
theorem m_at_s6 {l : Launch} {X : vm_Cx} {G : List vm_Sh} {I : Nat → Nat → Int32} {F : Nat → Nat → UInt32} {i : Int32} (hi : vm_in i 6 = true) : vm_K l X vm_M152 [.ref 100006, .int i] (G, I, F) (some (.int (vm_sV 6 i.toNatClampNeg))) (G, I, F) := by
  refine vm_K.mk (by decide) (Nat.le_of_ble_eq_true rfl) ?_
  show vm_J _ _ _ (0, (0, 0), [.ref 100006, .int i], []) _ _ _
  refine vm_J.go vm_q152 (k := 2) (hs := []) (f' := (bif vm_ic .lt i 0 then 16 else 4, (0, 0), [.ref 100006, .int i], [])) (h' := (G, I, F)) (hs' := []) rfl rfl ?_
  refine vm_J.br (fun c1 => ?_) (fun c1 => ?_)
  · have c1 : i < 0 := of_decide_eq_true c1
    exact absurd c1 (vm_in_0 hi)
  · have c1 : ¬ (i < 0) := of_decide_eq_false c1
    refine vm_J.go vm_q152 (k := 4) (hs := [(60, 6, [])]) (f' := (bif vm_ic .ge i 6 then 16 else 10, (0, 0), [.ref 100006, .int i], [])) (h' := (G, I, F)) (hs' := []) rfl rfl ?_
    refine vm_J.br (fun c2 => ?_) (fun c2 => ?_)
    · have c2 : 6 ≤ i := of_decide_eq_true c2
      exact absurd c2 (vm_in_ge hi (by decide))
    · have c2 : ¬ (6 ≤ i) := of_decide_eq_false c2
      refine vm_J.go vm_q152 (k := 4) (hs := [(60, 6, [])]) (f' := (17, (0, 0), [.ref 100006, .int i], [.int (vm_sV 6 i.toNatClampNeg)])) (h' := (G, I, F)) (hs' := []) rfl (vm_b2 rfl (vm_b2 rfl (vm_b2 (vm_b2 rfl hi) (vm_b2 rfl rfl)))) ?_
      exact vm_J.end vm_q152 (en := (17, .ireturn, 1, [], .null)) rfl rfl vm_rI (Nat.zero_le _) (Nat.zero_le _) rfl
theorem m_at_s6_n {l : Launch} {X : vm_Cx} {G : List vm_Sh} {I : Nat → Nat → Int32} {F : Nat → Nat → UInt32} {j : Nat} (hj : j < 6) : vm_K l X vm_M152 [.ref 100006, .int (nI j)] (G, I, F) (some (.int (vm_sV 6 j))) (G, I, F) := by
  have h := m_at_s6 (l := l) (X := X) (G := G) (I := I) (F := F) (vm_in_n hj (by decide))
  rw [vm_ix_n (by omega)] at h
  exact h
theorem m_at_s6_0 {l : Launch} {X : vm_Cx} {G : List vm_Sh} {I : Nat → Nat → Int32} {F : Nat → Nat → UInt32} : vm_K l X vm_M152 [.ref 100006, .int 0] (G, I, F) (some (.int 0)) (G, I, F) := by
  exact m_at_s6_n (j := 0) (by decide)
theorem m_at_s6_1 {l : Launch} {X : vm_Cx} {G : List vm_Sh} {I : Nat → Nat → Int32} {F : Nat → Nat → UInt32} : vm_K l X vm_M152 [.ref 100006, .int 1] (G, I, F) (some (.int 0)) (G, I, F) := by
  exact m_at_s6_n (j := 1) (by decide)
theorem m_at_s6_2 {l : Launch} {X : vm_Cx} {G : List vm_Sh} {I : Nat → Nat → Int32} {F : Nat → Nat → UInt32} : vm_K l X vm_M152 [.ref 100006, .int 2] (G, I, F) (some (.int 1)) (G, I, F) := by
  exact m_at_s6_n (j := 2) (by decide)
theorem m_at_s6_3 {l : Launch} {X : vm_Cx} {G : List vm_Sh} {I : Nat → Nat → Int32} {F : Nat → Nat → UInt32} : vm_K l X vm_M152 [.ref 100006, .int 3] (G, I, F) (some (.int 5)) (G, I, F) := by
  exact m_at_s6_n (j := 3) (by decide)
theorem m_at_s6_4 {l : Launch} {X : vm_Cx} {G : List vm_Sh} {I : Nat → Nat → Int32} {F : Nat → Nat → UInt32} : vm_K l X vm_M152 [.ref 100006, .int 4] (G, I, F) (some (.int 11)) (G, I, F) := by
  exact m_at_s6_n (j := 4) (by decide)
theorem m_at_s6_5 {l : Launch} {X : vm_Cx} {G : List vm_Sh} {I : Nat → Nat → Int32} {F : Nat → Nat → UInt32} : vm_K l X vm_M152 [.ref 100006, .int 5] (G, I, F) (some (.int 14)) (G, I, F) := by
  exact m_at_s6_n (j := 5) (by decide)
set_option maxHeartbeats 4000000 in
set_option maxRecDepth 20000 in
/-- DitherDesk.at  -/
theorem m_at_s7 {l : Launch} {X : vm_Cx} {G : List vm_Sh} {I : Nat → Nat → Int32} {F : Nat → Nat → UInt32} {i : Int32} (hi : vm_in i 42 = true) : vm_K l X vm_M152 [.ref 100007, .int i] (G, I, F) (some (.int (vm_sV 7 i.toNatClampNeg))) (G, I, F) := by
  refine vm_K.mk (by decide) (Nat.le_of_ble_eq_true rfl) ?_
  show vm_J _ _ _ (0, (0, 0), [.ref 100007, .int i], []) _ _ _
  refine vm_J.go vm_q152 (k := 2) (hs := []) (f' := (bif vm_ic .lt i 0 then 16 else 4, (0, 0), [.ref 100007, .int i], [])) (h' := (G, I, F)) (hs' := []) rfl rfl ?_
  refine vm_J.br (fun c1 => ?_) (fun c1 => ?_)
  · have c1 : i < 0 := of_decide_eq_true c1
    exact absurd c1 (vm_in_0 hi)
  · have c1 : ¬ (i < 0) := of_decide_eq_false c1
    refine vm_J.go vm_q152 (k := 4) (hs := [(60, 7, [])]) (f' := (bif vm_ic .ge i 42 then 16 else 10, (0, 0), [.ref 100007, .int i], [])) (h' := (G, I, F)) (hs' := []) rfl rfl ?_
    refine vm_J.br (fun c2 => ?_) (fun c2 => ?_)
    · have c2 : 42 ≤ i := of_decide_eq_true c2
      exact absurd c2 (vm_in_ge hi (by decide))
    · have c2 : ¬ (42 ≤ i) := of_decide_eq_false c2
      refine vm_J.go vm_q152 (k := 4) (hs := [(60, 7, [])]) (f' := (17, (0, 0), [.ref 100007, .int i], [.int (vm_sV 7 i.toNatClampNeg)])) (h' := (G, I, F)) (hs' := []) rfl (vm_b2 rfl (vm_b2 rfl (vm_b2 (vm_b2 rfl hi) (vm_b2 rfl rfl)))) ?_
      exact vm_J.end vm_q152 (en := (17, .ireturn, 1, [], .null)) rfl rfl vm_rI (Nat.zero_le _) (Nat.zero_le _) rfl
theorem m_at_s7_n {l : Launch} {X : vm_Cx} {G : List vm_Sh} {I : Nat → Nat → Int32} {F : Nat → Nat → UInt32} {j : Nat} (hj : j < 42) : vm_K l X vm_M152 [.ref 100007, .int (nI j)] (G, I, F) (some (.int (vm_sV 7 j))) (G, I, F) := by
  have h := m_at_s7 (l := l) (X := X) (G := G) (I := I) (F := F) (vm_in_n hj (by decide))
  rw [vm_ix_n (by omega)] at h
  exact h
theorem m_at_s7_0 {l : Launch} {X : vm_Cx} {G : List vm_Sh} {I : Nat → Nat → Int32} {F : Nat → Nat → UInt32} : vm_K l X vm_M152 [.ref 100007, .int 0] (G, I, F) (some (.int 1)) (G, I, F) := by
  exact m_at_s7_n (j := 0) (by decide)
theorem m_at_s7_1 {l : Launch} {X : vm_Cx} {G : List vm_Sh} {I : Nat → Nat → Int32} {F : Nat → Nat → UInt32} : vm_K l X vm_M152 [.ref 100007, .int 1] (G, I, F) (some (.int 0)) (G, I, F) := by
  exact m_at_s7_n (j := 1) (by decide)
theorem m_at_s7_2 {l : Launch} {X : vm_Cx} {G : List vm_Sh} {I : Nat → Nat → Int32} {F : Nat → Nat → UInt32} : vm_K l X vm_M152 [.ref 100007, .int 2] (G, I, F) (some (.int 1)) (G, I, F) := by
  exact m_at_s7_n (j := 2) (by decide)
theorem m_at_s7_3 {l : Launch} {X : vm_Cx} {G : List vm_Sh} {I : Nat → Nat → Int32} {F : Nat → Nat → UInt32} : vm_K l X vm_M152 [.ref 100007, .int 3] (G, I, F) (some (.int 1)) (G, I, F) := by
  exact m_at_s7_n (j := 3) (by decide)
theorem m_at_s7_4 {l : Launch} {X : vm_Cx} {G : List vm_Sh} {I : Nat → Nat → Int32} {F : Nat → Nat → UInt32} : vm_K l X vm_M152 [.ref 100007, .int 4] (G, I, F) (some (.int 0)) (G, I, F) := by
  exact m_at_s7_n (j := 4) (by decide)
theorem m_at_s7_5 {l : Launch} {X : vm_Cx} {G : List vm_Sh} {I : Nat → Nat → Int32} {F : Nat → Nat → UInt32} : vm_K l X vm_M152 [.ref 100007, .int 5] (G, I, F) (some (.int 7)) (G, I, F) := by
  exact m_at_s7_n (j := 5) (by decide)
theorem m_at_s7_6 {l : Launch} {X : vm_Cx} {G : List vm_Sh} {I : Nat → Nat → Int32} {F : Nat → Nat → UInt32} : vm_K l X vm_M152 [.ref 100007, .int 6] (G, I, F) (some (.int (-1))) (G, I, F) := by
  exact m_at_s7_n (j := 6) (by decide)
theorem m_at_s7_7 {l : Launch} {X : vm_Cx} {G : List vm_Sh} {I : Nat → Nat → Int32} {F : Nat → Nat → UInt32} : vm_K l X vm_M152 [.ref 100007, .int 7] (G, I, F) (some (.int 1)) (G, I, F) := by
  exact m_at_s7_n (j := 7) (by decide)
theorem m_at_s7_8 {l : Launch} {X : vm_Cx} {G : List vm_Sh} {I : Nat → Nat → Int32} {F : Nat → Nat → UInt32} : vm_K l X vm_M152 [.ref 100007, .int 8] (G, I, F) (some (.int 3)) (G, I, F) := by
  exact m_at_s7_n (j := 8) (by decide)
theorem m_at_s7_9 {l : Launch} {X : vm_Cx} {G : List vm_Sh} {I : Nat → Nat → Int32} {F : Nat → Nat → UInt32} : vm_K l X vm_M152 [.ref 100007, .int 9] (G, I, F) (some (.int 0)) (G, I, F) := by
  exact m_at_s7_n (j := 9) (by decide)
theorem m_at_s7_10 {l : Launch} {X : vm_Cx} {G : List vm_Sh} {I : Nat → Nat → Int32} {F : Nat → Nat → UInt32} : vm_K l X vm_M152 [.ref 100007, .int 10] (G, I, F) (some (.int 1)) (G, I, F) := by
  exact m_at_s7_n (j := 10) (by decide)
theorem m_at_s7_11 {l : Launch} {X : vm_Cx} {G : List vm_Sh} {I : Nat → Nat → Int32} {F : Nat → Nat → UInt32} : vm_K l X vm_M152 [.ref 100007, .int 11] (G, I, F) (some (.int 5)) (G, I, F) := by
  exact m_at_s7_n (j := 11) (by decide)
theorem m_at_s7_12 {l : Launch} {X : vm_Cx} {G : List vm_Sh} {I : Nat → Nat → Int32} {F : Nat → Nat → UInt32} : vm_K l X vm_M152 [.ref 100007, .int 12] (G, I, F) (some (.int 1)) (G, I, F) := by
  exact m_at_s7_n (j := 12) (by decide)
theorem m_at_s7_13 {l : Launch} {X : vm_Cx} {G : List vm_Sh} {I : Nat → Nat → Int32} {F : Nat → Nat → UInt32} : vm_K l X vm_M152 [.ref 100007, .int 13] (G, I, F) (some (.int 1)) (G, I, F) := by
  exact m_at_s7_n (j := 13) (by decide)
theorem m_at_s7_14 {l : Launch} {X : vm_Cx} {G : List vm_Sh} {I : Nat → Nat → Int32} {F : Nat → Nat → UInt32} : vm_K l X vm_M152 [.ref 100007, .int 14] (G, I, F) (some (.int 1)) (G, I, F) := by
  exact m_at_s7_n (j := 14) (by decide)
theorem m_at_s7_15 {l : Launch} {X : vm_Cx} {G : List vm_Sh} {I : Nat → Nat → Int32} {F : Nat → Nat → UInt32} : vm_K l X vm_M152 [.ref 100007, .int 15] (G, I, F) (some (.int 1)) (G, I, F) := by
  exact m_at_s7_n (j := 15) (by decide)
theorem m_at_s7_16 {l : Launch} {X : vm_Cx} {G : List vm_Sh} {I : Nat → Nat → Int32} {F : Nat → Nat → UInt32} : vm_K l X vm_M152 [.ref 100007, .int 16] (G, I, F) (some (.int 0)) (G, I, F) := by
  exact m_at_s7_n (j := 16) (by decide)
theorem m_at_s7_17 {l : Launch} {X : vm_Cx} {G : List vm_Sh} {I : Nat → Nat → Int32} {F : Nat → Nat → UInt32} : vm_K l X vm_M152 [.ref 100007, .int 17] (G, I, F) (some (.int 1)) (G, I, F) := by
  exact m_at_s7_n (j := 17) (by decide)
theorem m_at_s7_18 {l : Launch} {X : vm_Cx} {G : List vm_Sh} {I : Nat → Nat → Int32} {F : Nat → Nat → UInt32} : vm_K l X vm_M152 [.ref 100007, .int 18] (G, I, F) (some (.int 2)) (G, I, F) := by
  exact m_at_s7_n (j := 18) (by decide)
theorem m_at_s7_19 {l : Launch} {X : vm_Cx} {G : List vm_Sh} {I : Nat → Nat → Int32} {F : Nat → Nat → UInt32} : vm_K l X vm_M152 [.ref 100007, .int 19] (G, I, F) (some (.int 0)) (G, I, F) := by
  exact m_at_s7_n (j := 19) (by decide)
theorem m_at_s7_20 {l : Launch} {X : vm_Cx} {G : List vm_Sh} {I : Nat → Nat → Int32} {F : Nat → Nat → UInt32} : vm_K l X vm_M152 [.ref 100007, .int 20] (G, I, F) (some (.int 1)) (G, I, F) := by
  exact m_at_s7_n (j := 20) (by decide)
theorem m_at_s7_21 {l : Launch} {X : vm_Cx} {G : List vm_Sh} {I : Nat → Nat → Int32} {F : Nat → Nat → UInt32} : vm_K l X vm_M152 [.ref 100007, .int 21] (G, I, F) (some (.int (-1))) (G, I, F) := by
  exact m_at_s7_n (j := 21) (by decide)
theorem m_at_s7_22 {l : Launch} {X : vm_Cx} {G : List vm_Sh} {I : Nat → Nat → Int32} {F : Nat → Nat → UInt32} : vm_K l X vm_M152 [.ref 100007, .int 22] (G, I, F) (some (.int 1)) (G, I, F) := by
  exact m_at_s7_n (j := 22) (by decide)
theorem m_at_s7_23 {l : Launch} {X : vm_Cx} {G : List vm_Sh} {I : Nat → Nat → Int32} {F : Nat → Nat → UInt32} : vm_K l X vm_M152 [.ref 100007, .int 23] (G, I, F) (some (.int 1)) (G, I, F) := by
  exact m_at_s7_n (j := 23) (by decide)
theorem m_at_s7_24 {l : Launch} {X : vm_Cx} {G : List vm_Sh} {I : Nat → Nat → Int32} {F : Nat → Nat → UInt32} : vm_K l X vm_M152 [.ref 100007, .int 24] (G, I, F) (some (.int 0)) (G, I, F) := by
  exact m_at_s7_n (j := 24) (by decide)
theorem m_at_s7_25 {l : Launch} {X : vm_Cx} {G : List vm_Sh} {I : Nat → Nat → Int32} {F : Nat → Nat → UInt32} : vm_K l X vm_M152 [.ref 100007, .int 25] (G, I, F) (some (.int 1)) (G, I, F) := by
  exact m_at_s7_n (j := 25) (by decide)
theorem m_at_s7_26 {l : Launch} {X : vm_Cx} {G : List vm_Sh} {I : Nat → Nat → Int32} {F : Nat → Nat → UInt32} : vm_K l X vm_M152 [.ref 100007, .int 26] (G, I, F) (some (.int 1)) (G, I, F) := by
  exact m_at_s7_n (j := 26) (by decide)
theorem m_at_s7_27 {l : Launch} {X : vm_Cx} {G : List vm_Sh} {I : Nat → Nat → Int32} {F : Nat → Nat → UInt32} : vm_K l X vm_M152 [.ref 100007, .int 27] (G, I, F) (some (.int 1)) (G, I, F) := by
  exact m_at_s7_n (j := 27) (by decide)
theorem m_at_s7_28 {l : Launch} {X : vm_Cx} {G : List vm_Sh} {I : Nat → Nat → Int32} {F : Nat → Nat → UInt32} : vm_K l X vm_M152 [.ref 100007, .int 28] (G, I, F) (some (.int 1)) (G, I, F) := by
  exact m_at_s7_n (j := 28) (by decide)
theorem m_at_s7_29 {l : Launch} {X : vm_Cx} {G : List vm_Sh} {I : Nat → Nat → Int32} {F : Nat → Nat → UInt32} : vm_K l X vm_M152 [.ref 100007, .int 29] (G, I, F) (some (.int 1)) (G, I, F) := by
  exact m_at_s7_n (j := 29) (by decide)
theorem m_at_s7_30 {l : Launch} {X : vm_Cx} {G : List vm_Sh} {I : Nat → Nat → Int32} {F : Nat → Nat → UInt32} : vm_K l X vm_M152 [.ref 100007, .int 30] (G, I, F) (some (.int 0)) (G, I, F) := by
  exact m_at_s7_n (j := 30) (by decide)
theorem m_at_s7_31 {l : Launch} {X : vm_Cx} {G : List vm_Sh} {I : Nat → Nat → Int32} {F : Nat → Nat → UInt32} : vm_K l X vm_M152 [.ref 100007, .int 31] (G, I, F) (some (.int 2)) (G, I, F) := by
  exact m_at_s7_n (j := 31) (by decide)
theorem m_at_s7_32 {l : Launch} {X : vm_Cx} {G : List vm_Sh} {I : Nat → Nat → Int32} {F : Nat → Nat → UInt32} : vm_K l X vm_M152 [.ref 100007, .int 32] (G, I, F) (some (.int 1)) (G, I, F) := by
  exact m_at_s7_n (j := 32) (by decide)
theorem m_at_s7_33 {l : Launch} {X : vm_Cx} {G : List vm_Sh} {I : Nat → Nat → Int32} {F : Nat → Nat → UInt32} : vm_K l X vm_M152 [.ref 100007, .int 33] (G, I, F) (some (.int 1)) (G, I, F) := by
  exact m_at_s7_n (j := 33) (by decide)
theorem m_at_s7_34 {l : Launch} {X : vm_Cx} {G : List vm_Sh} {I : Nat → Nat → Int32} {F : Nat → Nat → UInt32} : vm_K l X vm_M152 [.ref 100007, .int 34] (G, I, F) (some (.int 0)) (G, I, F) := by
  exact m_at_s7_n (j := 34) (by decide)
theorem m_at_s7_35 {l : Launch} {X : vm_Cx} {G : List vm_Sh} {I : Nat → Nat → Int32} {F : Nat → Nat → UInt32} : vm_K l X vm_M152 [.ref 100007, .int 35] (G, I, F) (some (.int 2)) (G, I, F) := by
  exact m_at_s7_n (j := 35) (by decide)
theorem m_at_s7_36 {l : Launch} {X : vm_Cx} {G : List vm_Sh} {I : Nat → Nat → Int32} {F : Nat → Nat → UInt32} : vm_K l X vm_M152 [.ref 100007, .int 36] (G, I, F) (some (.int (-1))) (G, I, F) := by
  exact m_at_s7_n (j := 36) (by decide)
theorem m_at_s7_37 {l : Launch} {X : vm_Cx} {G : List vm_Sh} {I : Nat → Nat → Int32} {F : Nat → Nat → UInt32} : vm_K l X vm_M152 [.ref 100007, .int 37] (G, I, F) (some (.int 1)) (G, I, F) := by
  exact m_at_s7_n (j := 37) (by decide)
theorem m_at_s7_38 {l : Launch} {X : vm_Cx} {G : List vm_Sh} {I : Nat → Nat → Int32} {F : Nat → Nat → UInt32} : vm_K l X vm_M152 [.ref 100007, .int 38] (G, I, F) (some (.int 1)) (G, I, F) := by
  exact m_at_s7_n (j := 38) (by decide)
theorem m_at_s7_39 {l : Launch} {X : vm_Cx} {G : List vm_Sh} {I : Nat → Nat → Int32} {F : Nat → Nat → UInt32} : vm_K l X vm_M152 [.ref 100007, .int 39] (G, I, F) (some (.int 0)) (G, I, F) := by
  exact m_at_s7_n (j := 39) (by decide)
theorem m_at_s7_40 {l : Launch} {X : vm_Cx} {G : List vm_Sh} {I : Nat → Nat → Int32} {F : Nat → Nat → UInt32} : vm_K l X vm_M152 [.ref 100007, .int 40] (G, I, F) (some (.int 1)) (G, I, F) := by
  exact m_at_s7_n (j := 40) (by decide)
theorem m_at_s7_41 {l : Launch} {X : vm_Cx} {G : List vm_Sh} {I : Nat → Nat → Int32} {F : Nat → Nat → UInt32} : vm_K l X vm_M152 [.ref 100007, .int 41] (G, I, F) (some (.int 1)) (G, I, F) := by
  exact m_at_s7_n (j := 41) (by decide)
set_option maxHeartbeats 4000000 in
set_option maxRecDepth 20000 in
/-- DitherDesk.at  -/
theorem m_at_s8 {l : Launch} {X : vm_Cx} {G : List vm_Sh} {I : Nat → Nat → Int32} {F : Nat → Nat → UInt32} {i : Int32} (hi : vm_in i 5 = true) : vm_K l X vm_M152 [.ref 100008, .int i] (G, I, F) (some (.int (vm_sV 8 i.toNatClampNeg))) (G, I, F) := by
  refine vm_K.mk (by decide) (Nat.le_of_ble_eq_true rfl) ?_
  show vm_J _ _ _ (0, (0, 0), [.ref 100008, .int i], []) _ _ _
  refine vm_J.go vm_q152 (k := 2) (hs := []) (f' := (bif vm_ic .lt i 0 then 16 else 4, (0, 0), [.ref 100008, .int i], [])) (h' := (G, I, F)) (hs' := []) rfl rfl ?_
  refine vm_J.br (fun c1 => ?_) (fun c1 => ?_)
  · have c1 : i < 0 := of_decide_eq_true c1
    exact absurd c1 (vm_in_0 hi)
  · have c1 : ¬ (i < 0) := of_decide_eq_false c1
    refine vm_J.go vm_q152 (k := 4) (hs := [(60, 8, [])]) (f' := (bif vm_ic .ge i 5 then 16 else 10, (0, 0), [.ref 100008, .int i], [])) (h' := (G, I, F)) (hs' := []) rfl rfl ?_
    refine vm_J.br (fun c2 => ?_) (fun c2 => ?_)
    · have c2 : 5 ≤ i := of_decide_eq_true c2
      exact absurd c2 (vm_in_ge hi (by decide))
    · have c2 : ¬ (5 ≤ i) := of_decide_eq_false c2
      refine vm_J.go vm_q152 (k := 4) (hs := [(60, 8, [])]) (f' := (17, (0, 0), [.ref 100008, .int i], [.int (vm_sV 8 i.toNatClampNeg)])) (h' := (G, I, F)) (hs' := []) rfl (vm_b2 rfl (vm_b2 rfl (vm_b2 (vm_b2 rfl hi) (vm_b2 rfl rfl)))) ?_
      exact vm_J.end vm_q152 (en := (17, .ireturn, 1, [], .null)) rfl rfl vm_rI (Nat.zero_le _) (Nat.zero_le _) rfl
theorem m_at_s8_n {l : Launch} {X : vm_Cx} {G : List vm_Sh} {I : Nat → Nat → Int32} {F : Nat → Nat → UInt32} {j : Nat} (hj : j < 5) : vm_K l X vm_M152 [.ref 100008, .int (nI j)] (G, I, F) (some (.int (vm_sV 8 j))) (G, I, F) := by
  have h := m_at_s8 (l := l) (X := X) (G := G) (I := I) (F := F) (vm_in_n hj (by decide))
  rw [vm_ix_n (by omega)] at h
  exact h
theorem m_at_s8_0 {l : Launch} {X : vm_Cx} {G : List vm_Sh} {I : Nat → Nat → Int32} {F : Nat → Nat → UInt32} : vm_K l X vm_M152 [.ref 100008, .int 0] (G, I, F) (some (.int (-1))) (G, I, F) := by
  exact m_at_s8_n (j := 0) (by decide)
theorem m_at_s8_1 {l : Launch} {X : vm_Cx} {G : List vm_Sh} {I : Nat → Nat → Int32} {F : Nat → Nat → UInt32} : vm_K l X vm_M152 [.ref 100008, .int 1] (G, I, F) (some (.int 0)) (G, I, F) := by
  exact m_at_s8_n (j := 1) (by decide)
theorem m_at_s8_2 {l : Launch} {X : vm_Cx} {G : List vm_Sh} {I : Nat → Nat → Int32} {F : Nat → Nat → UInt32} : vm_K l X vm_M152 [.ref 100008, .int 2] (G, I, F) (some (.int 1)) (G, I, F) := by
  exact m_at_s8_n (j := 2) (by decide)
theorem m_at_s8_3 {l : Launch} {X : vm_Cx} {G : List vm_Sh} {I : Nat → Nat → Int32} {F : Nat → Nat → UInt32} : vm_K l X vm_M152 [.ref 100008, .int 3] (G, I, F) (some (.int 0)) (G, I, F) := by
  exact m_at_s8_n (j := 3) (by decide)
theorem m_at_s8_4 {l : Launch} {X : vm_Cx} {G : List vm_Sh} {I : Nat → Nat → Int32} {F : Nat → Nat → UInt32} : vm_K l X vm_M152 [.ref 100008, .int 4] (G, I, F) (some (.int 3)) (G, I, F) := by
  exact m_at_s8_n (j := 4) (by decide)
set_option maxHeartbeats 4000000 in
set_option maxRecDepth 20000 in
/-- DitherDesk.at  -/
theorem m_at_s9 {l : Launch} {X : vm_Cx} {G : List vm_Sh} {I : Nat → Nat → Int32} {F : Nat → Nat → UInt32} {i : Int32} (hi : vm_in i 4 = true) : vm_K l X vm_M152 [.ref 100009, .int i] (G, I, F) (some (.int (vm_sV 9 i.toNatClampNeg))) (G, I, F) := by
  refine vm_K.mk (by decide) (Nat.le_of_ble_eq_true rfl) ?_
  show vm_J _ _ _ (0, (0, 0), [.ref 100009, .int i], []) _ _ _
  refine vm_J.go vm_q152 (k := 2) (hs := []) (f' := (bif vm_ic .lt i 0 then 16 else 4, (0, 0), [.ref 100009, .int i], [])) (h' := (G, I, F)) (hs' := []) rfl rfl ?_
  refine vm_J.br (fun c1 => ?_) (fun c1 => ?_)
  · have c1 : i < 0 := of_decide_eq_true c1
    exact absurd c1 (vm_in_0 hi)
  · have c1 : ¬ (i < 0) := of_decide_eq_false c1
    refine vm_J.go vm_q152 (k := 4) (hs := [(60, 9, [])]) (f' := (bif vm_ic .ge i 4 then 16 else 10, (0, 0), [.ref 100009, .int i], [])) (h' := (G, I, F)) (hs' := []) rfl rfl ?_
    refine vm_J.br (fun c2 => ?_) (fun c2 => ?_)
    · have c2 : 4 ≤ i := of_decide_eq_true c2
      exact absurd c2 (vm_in_ge hi (by decide))
    · have c2 : ¬ (4 ≤ i) := of_decide_eq_false c2
      refine vm_J.go vm_q152 (k := 4) (hs := [(60, 9, [])]) (f' := (17, (0, 0), [.ref 100009, .int i], [.int (vm_sV 9 i.toNatClampNeg)])) (h' := (G, I, F)) (hs' := []) rfl (vm_b2 rfl (vm_b2 rfl (vm_b2 (vm_b2 rfl hi) (vm_b2 rfl rfl)))) ?_
      exact vm_J.end vm_q152 (en := (17, .ireturn, 1, [], .null)) rfl rfl vm_rI (Nat.zero_le _) (Nat.zero_le _) rfl
theorem m_at_s9_n {l : Launch} {X : vm_Cx} {G : List vm_Sh} {I : Nat → Nat → Int32} {F : Nat → Nat → UInt32} {j : Nat} (hj : j < 4) : vm_K l X vm_M152 [.ref 100009, .int (nI j)] (G, I, F) (some (.int (vm_sV 9 j))) (G, I, F) := by
  have h := m_at_s9 (l := l) (X := X) (G := G) (I := I) (F := F) (vm_in_n hj (by decide))
  rw [vm_ix_n (by omega)] at h
  exact h
theorem m_at_s9_0 {l : Launch} {X : vm_Cx} {G : List vm_Sh} {I : Nat → Nat → Int32} {F : Nat → Nat → UInt32} : vm_K l X vm_M152 [.ref 100009, .int 0] (G, I, F) (some (.int 3)) (G, I, F) := by
  exact m_at_s9_n (j := 0) (by decide)
theorem m_at_s9_1 {l : Launch} {X : vm_Cx} {G : List vm_Sh} {I : Nat → Nat → Int32} {F : Nat → Nat → UInt32} : vm_K l X vm_M152 [.ref 100009, .int 1] (G, I, F) (some (.int 3)) (G, I, F) := by
  exact m_at_s9_n (j := 1) (by decide)
theorem m_at_s9_2 {l : Launch} {X : vm_Cx} {G : List vm_Sh} {I : Nat → Nat → Int32} {F : Nat → Nat → UInt32} : vm_K l X vm_M152 [.ref 100009, .int 2] (G, I, F) (some (.int 4)) (G, I, F) := by
  exact m_at_s9_n (j := 2) (by decide)
theorem m_at_s9_3 {l : Launch} {X : vm_Cx} {G : List vm_Sh} {I : Nat → Nat → Int32} {F : Nat → Nat → UInt32} : vm_K l X vm_M152 [.ref 100009, .int 3] (G, I, F) (some (.int 15)) (G, I, F) := by
  exact m_at_s9_n (j := 3) (by decide)
set_option maxHeartbeats 4000000 in
set_option maxRecDepth 20000 in
/-- DitherDesk.isUnder  -/
theorem m_under_0_0 {l : Launch} {X : vm_Cx} {G : List vm_Sh} {I : Nat → Nat → Int32} {F : Nat → Nat → UInt32}  : vm_K l X vm_M150 [.int (-1), .int 0] (G, I, F) (some (.int 0)) (G, I, F) := by
  refine vm_K.mk (by decide) (Nat.le_of_ble_eq_true rfl) ?_
  show vm_J _ _ _ (0, (0, 0), [.int (-1), .int 0, .retAddr 0, .retAddr 0], []) _ _ _
  refine vm_J.go vm_q150 (k := 8) (hs := [(60, 8, [])]) (f' := (bif vm_ic .ge 0 5 then 37 else 12, (0, 0), [.int (-1), .int 0, .int (-1), .int 0], [])) (h' := (G, I, F)) (hs' := []) rfl rfl ?_
  refine vm_J.bF (by decide) ?_
  refine vm_J.go vm_q150 (k := 2) (hs := []) (f' := (bif vm_ic .lt (-1) 0 then 37 else 16, (0, 0), [.int (-1), .int 0, .int (-1), .int 0], [])) (h' := (G, I, F)) (hs' := []) rfl rfl ?_
  refine vm_J.bT (by decide) ?_
  refine vm_J.go vm_q150 (k := 1) (hs := []) (f' := (38, (0, 0), [.int (-1), .int 0, .int (-1), .int 0], [.int 0])) (h' := (G, I, F)) (hs' := []) rfl rfl ?_
  exact vm_J.end vm_q150 (en := (38, .ireturn, 1, [], .null)) rfl rfl vm_rZ0 (Nat.zero_le _) (Nat.zero_le _) rfl
set_option maxHeartbeats 4000000 in
set_option maxRecDepth 20000 in
/-- DitherDesk.isUnder  -/
theorem m_under_0_1 {l : Launch} {X : vm_Cx} {G : List vm_Sh} {I : Nat → Nat → Int32} {F : Nat → Nat → UInt32}  : vm_K l X vm_M150 [.int (-1), .int 1] (G, I, F) (some (.int 0)) (G, I, F) := by
  refine vm_K.mk (by decide) (Nat.le_of_ble_eq_true rfl) ?_
  show vm_J _ _ _ (0, (0, 0), [.int (-1), .int 1, .retAddr 0, .retAddr 0], []) _ _ _
  refine vm_J.go vm_q150 (k := 8) (hs := [(60, 8, [])]) (f' := (bif vm_ic .ge 0 5 then 37 else 12, (0, 0), [.int (-1), .int 1, .int (-1), .int 0], [])) (h' := (G, I, F)) (hs' := []) rfl rfl ?_
  refine vm_J.bF (by decide) ?_
  refine vm_J.go vm_q150 (k := 2) (hs := []) (f' := (bif vm_ic .lt (-1) 0 then 37 else 16, (0, 0), [.int (-1), .int 1, .int (-1), .int 0], [])) (h' := (G, I, F)) (hs' := []) rfl rfl ?_
  refine vm_J.bT (by decide) ?_
  refine vm_J.go vm_q150 (k := 1) (hs := []) (f' := (38, (0, 0), [.int (-1), .int 1, .int (-1), .int 0], [.int 0])) (h' := (G, I, F)) (hs' := []) rfl rfl ?_
  exact vm_J.end vm_q150 (en := (38, .ireturn, 1, [], .null)) rfl rfl vm_rZ0 (Nat.zero_le _) (Nat.zero_le _) rfl
set_option maxHeartbeats 4000000 in
set_option maxRecDepth 20000 in
/-- DitherDesk.isUnder  -/
theorem m_under_0_2 {l : Launch} {X : vm_Cx} {G : List vm_Sh} {I : Nat → Nat → Int32} {F : Nat → Nat → UInt32}  : vm_K l X vm_M150 [.int (-1), .int 2] (G, I, F) (some (.int 0)) (G, I, F) := by
  refine vm_K.mk (by decide) (Nat.le_of_ble_eq_true rfl) ?_
  show vm_J _ _ _ (0, (0, 0), [.int (-1), .int 2, .retAddr 0, .retAddr 0], []) _ _ _
  refine vm_J.go vm_q150 (k := 8) (hs := [(60, 8, [])]) (f' := (bif vm_ic .ge 0 5 then 37 else 12, (0, 0), [.int (-1), .int 2, .int (-1), .int 0], [])) (h' := (G, I, F)) (hs' := []) rfl rfl ?_
  refine vm_J.bF (by decide) ?_
  refine vm_J.go vm_q150 (k := 2) (hs := []) (f' := (bif vm_ic .lt (-1) 0 then 37 else 16, (0, 0), [.int (-1), .int 2, .int (-1), .int 0], [])) (h' := (G, I, F)) (hs' := []) rfl rfl ?_
  refine vm_J.bT (by decide) ?_
  refine vm_J.go vm_q150 (k := 1) (hs := []) (f' := (38, (0, 0), [.int (-1), .int 2, .int (-1), .int 0], [.int 0])) (h' := (G, I, F)) (hs' := []) rfl rfl ?_
  exact vm_J.end vm_q150 (en := (38, .ireturn, 1, [], .null)) rfl rfl vm_rZ0 (Nat.zero_le _) (Nat.zero_le _) rfl
set_option maxHeartbeats 4000000 in
set_option maxRecDepth 20000 in
/-- DitherDesk.isUnder  -/
theorem m_under_0_3 {l : Launch} {X : vm_Cx} {G : List vm_Sh} {I : Nat → Nat → Int32} {F : Nat → Nat → UInt32}  : vm_K l X vm_M150 [.int (-1), .int 3] (G, I, F) (some (.int 0)) (G, I, F) := by
  refine vm_K.mk (by decide) (Nat.le_of_ble_eq_true rfl) ?_
  show vm_J _ _ _ (0, (0, 0), [.int (-1), .int 3, .retAddr 0, .retAddr 0], []) _ _ _
  refine vm_J.go vm_q150 (k := 8) (hs := [(60, 8, [])]) (f' := (bif vm_ic .ge 0 5 then 37 else 12, (0, 0), [.int (-1), .int 3, .int (-1), .int 0], [])) (h' := (G, I, F)) (hs' := []) rfl rfl ?_
  refine vm_J.bF (by decide) ?_
  refine vm_J.go vm_q150 (k := 2) (hs := []) (f' := (bif vm_ic .lt (-1) 0 then 37 else 16, (0, 0), [.int (-1), .int 3, .int (-1), .int 0], [])) (h' := (G, I, F)) (hs' := []) rfl rfl ?_
  refine vm_J.bT (by decide) ?_
  refine vm_J.go vm_q150 (k := 1) (hs := []) (f' := (38, (0, 0), [.int (-1), .int 3, .int (-1), .int 0], [.int 0])) (h' := (G, I, F)) (hs' := []) rfl rfl ?_
  exact vm_J.end vm_q150 (en := (38, .ireturn, 1, [], .null)) rfl rfl vm_rZ0 (Nat.zero_le _) (Nat.zero_le _) rfl
set_option maxHeartbeats 4000000 in
set_option maxRecDepth 20000 in
/-- DitherDesk.isUnder  -/
theorem m_under_0_4 {l : Launch} {X : vm_Cx} {G : List vm_Sh} {I : Nat → Nat → Int32} {F : Nat → Nat → UInt32}  : vm_K l X vm_M150 [.int (-1), .int 4] (G, I, F) (some (.int 0)) (G, I, F) := by
  refine vm_K.mk (by decide) (Nat.le_of_ble_eq_true rfl) ?_
  show vm_J _ _ _ (0, (0, 0), [.int (-1), .int 4, .retAddr 0, .retAddr 0], []) _ _ _
  refine vm_J.go vm_q150 (k := 8) (hs := [(60, 8, [])]) (f' := (bif vm_ic .ge 0 5 then 37 else 12, (0, 0), [.int (-1), .int 4, .int (-1), .int 0], [])) (h' := (G, I, F)) (hs' := []) rfl rfl ?_
  refine vm_J.bF (by decide) ?_
  refine vm_J.go vm_q150 (k := 2) (hs := []) (f' := (bif vm_ic .lt (-1) 0 then 37 else 16, (0, 0), [.int (-1), .int 4, .int (-1), .int 0], [])) (h' := (G, I, F)) (hs' := []) rfl rfl ?_
  refine vm_J.bT (by decide) ?_
  refine vm_J.go vm_q150 (k := 1) (hs := []) (f' := (38, (0, 0), [.int (-1), .int 4, .int (-1), .int 0], [.int 0])) (h' := (G, I, F)) (hs' := []) rfl rfl ?_
  exact vm_J.end vm_q150 (en := (38, .ireturn, 1, [], .null)) rfl rfl vm_rZ0 (Nat.zero_le _) (Nat.zero_le _) rfl
set_option maxHeartbeats 4000000 in
set_option maxRecDepth 20000 in
/-- DitherDesk.isUnder  -/
theorem m_under_1_0 {l : Launch} {X : vm_Cx} {G : List vm_Sh} {I : Nat → Nat → Int32} {F : Nat → Nat → UInt32}  : vm_K l X vm_M150 [.int 0, .int 0] (G, I, F) (some (.int 1)) (G, I, F) := by
  refine vm_K.mk (by decide) (Nat.le_of_ble_eq_true rfl) ?_
  show vm_J _ _ _ (0, (0, 0), [.int 0, .int 0, .retAddr 0, .retAddr 0], []) _ _ _
  refine vm_J.go vm_q150 (k := 8) (hs := [(60, 8, [])]) (f' := (bif vm_ic .ge 0 5 then 37 else 12, (0, 0), [.int 0, .int 0, .int 0, .int 0], [])) (h' := (G, I, F)) (hs' := []) rfl rfl ?_
  refine vm_J.bF (by decide) ?_
  refine vm_J.go vm_q150 (k := 2) (hs := []) (f' := (bif vm_ic .lt 0 0 then 37 else 16, (0, 0), [.int 0, .int 0, .int 0, .int 0], [])) (h' := (G, I, F)) (hs' := []) rfl rfl ?_
  refine vm_J.bF (by decide) ?_
  refine vm_J.go vm_q150 (k := 3) (hs := []) (f' := (bif vm_ic .ne 0 0 then 23 else 21, (0, 0), [.int 0, .int 0, .int 0, .int 0], [])) (h' := (G, I, F)) (hs' := []) rfl rfl ?_
  refine vm_J.bF (by decide) ?_
  refine vm_J.go vm_q150 (k := 1) (hs := []) (f' := (22, (0, 0), [.int 0, .int 0, .int 0, .int 0], [.int 1])) (h' := (G, I, F)) (hs' := []) rfl rfl ?_
  exact vm_J.end vm_q150 (en := (22, .ireturn, 1, [], .null)) rfl rfl vm_rZ1 (Nat.zero_le _) (Nat.zero_le _) rfl
set_option maxHeartbeats 4000000 in
set_option maxRecDepth 20000 in
/-- DitherDesk.isUnder  -/
theorem m_under_1_1 {l : Launch} {X : vm_Cx} {G : List vm_Sh} {I : Nat → Nat → Int32} {F : Nat → Nat → UInt32}  : vm_K l X vm_M150 [.int 0, .int 1] (G, I, F) (some (.int 0)) (G, I, F) := by
  refine vm_K.mk (by decide) (Nat.le_of_ble_eq_true rfl) ?_
  show vm_J _ _ _ (0, (0, 0), [.int 0, .int 1, .retAddr 0, .retAddr 0], []) _ _ _
  refine vm_J.go vm_q150 (k := 8) (hs := [(60, 8, [])]) (f' := (bif vm_ic .ge 0 5 then 37 else 12, (0, 0), [.int 0, .int 1, .int 0, .int 0], [])) (h' := (G, I, F)) (hs' := []) rfl rfl ?_
  refine vm_J.bF (by decide) ?_
  refine vm_J.go vm_q150 (k := 2) (hs := []) (f' := (bif vm_ic .lt 0 0 then 37 else 16, (0, 0), [.int 0, .int 1, .int 0, .int 0], [])) (h' := (G, I, F)) (hs' := []) rfl rfl ?_
  refine vm_J.bF (by decide) ?_
  refine vm_J.go vm_q150 (k := 3) (hs := []) (f' := (bif vm_ic .ne 0 1 then 23 else 21, (0, 0), [.int 0, .int 1, .int 0, .int 0], [])) (h' := (G, I, F)) (hs' := []) rfl rfl ?_
  refine vm_J.bT (by decide) ?_
  refine vm_J.go vm_q150 (k := 2) (hs := []) (f' := (27, (0, 0), [.int 0, .int 1, .int 0, .int 0], [.int 0, .ref 100008])) (h' := (G, I, F)) (hs' := []) rfl rfl ?_
  refine vm_J.call vm_q150 (Z := vm_M152) (n := 2) (k := 1) (mi := 152) (pc := 27) (en := (27, .invokestatic 118, 3, [152, 511, 0], .null)) rfl trivial rfl rfl vm_z152 (av := [.ref 100008, .int 0]) (rest := []) m_at_s8_0 rfl (Nat.le_of_ble_eq_true rfl) ⟨Nat.le_of_ble_eq_true rfl, Nat.le_of_ble_eq_true rfl⟩ ⟨Nat.le_of_ble_eq_true rfl, Nat.le_of_ble_eq_true rfl⟩ ?_
  show vm_J _ _ _ (30, (0, 0), [.int 0, .int 1, .int 0, .int 0], [.int (-1)]) (G, I, F) _ _
  refine vm_J.go vm_q150 (k := 7) (hs := [(60, 8, [])]) (f' := (bif vm_ic .ge (0 + 1) 5 then 37 else 12, (0, 0), [.int 0, .int 1, .int (-1), .int (0 + 1)], [])) (h' := (G, I, F)) (hs' := []) rfl rfl ?_
  rw [(show (0 + 1 : Int32) = 1 from by decide)]
  refine vm_J.bF (by decide) ?_
  refine vm_J.go vm_q150 (k := 2) (hs := []) (f' := (bif vm_ic .lt (-1) 0 then 37 else 16, (0, 0), [.int 0, .int 1, .int (-1), .int 1], [])) (h' := (G, I, F)) (hs' := []) rfl rfl ?_
  refine vm_J.bT (by decide) ?_
  refine vm_J.go vm_q150 (k := 1) (hs := []) (f' := (38, (0, 0), [.int 0, .int 1, .int (-1), .int 1], [.int 0])) (h' := (G, I, F)) (hs' := []) rfl rfl ?_
  exact vm_J.end vm_q150 (en := (38, .ireturn, 1, [], .null)) rfl rfl vm_rZ0 (Nat.zero_le _) (Nat.zero_le _) rfl
set_option maxHeartbeats 4000000 in
set_option maxRecDepth 20000 in
/-- DitherDesk.isUnder  -/
theorem m_under_1_2 {l : Launch} {X : vm_Cx} {G : List vm_Sh} {I : Nat → Nat → Int32} {F : Nat → Nat → UInt32}  : vm_K l X vm_M150 [.int 0, .int 2] (G, I, F) (some (.int 0)) (G, I, F) := by
  refine vm_K.mk (by decide) (Nat.le_of_ble_eq_true rfl) ?_
  show vm_J _ _ _ (0, (0, 0), [.int 0, .int 2, .retAddr 0, .retAddr 0], []) _ _ _
  refine vm_J.go vm_q150 (k := 8) (hs := [(60, 8, [])]) (f' := (bif vm_ic .ge 0 5 then 37 else 12, (0, 0), [.int 0, .int 2, .int 0, .int 0], [])) (h' := (G, I, F)) (hs' := []) rfl rfl ?_
  refine vm_J.bF (by decide) ?_
  refine vm_J.go vm_q150 (k := 2) (hs := []) (f' := (bif vm_ic .lt 0 0 then 37 else 16, (0, 0), [.int 0, .int 2, .int 0, .int 0], [])) (h' := (G, I, F)) (hs' := []) rfl rfl ?_
  refine vm_J.bF (by decide) ?_
  refine vm_J.go vm_q150 (k := 3) (hs := []) (f' := (bif vm_ic .ne 0 2 then 23 else 21, (0, 0), [.int 0, .int 2, .int 0, .int 0], [])) (h' := (G, I, F)) (hs' := []) rfl rfl ?_
  refine vm_J.bT (by decide) ?_
  refine vm_J.go vm_q150 (k := 2) (hs := []) (f' := (27, (0, 0), [.int 0, .int 2, .int 0, .int 0], [.int 0, .ref 100008])) (h' := (G, I, F)) (hs' := []) rfl rfl ?_
  refine vm_J.call vm_q150 (Z := vm_M152) (n := 2) (k := 1) (mi := 152) (pc := 27) (en := (27, .invokestatic 118, 3, [152, 511, 0], .null)) rfl trivial rfl rfl vm_z152 (av := [.ref 100008, .int 0]) (rest := []) m_at_s8_0 rfl (Nat.le_of_ble_eq_true rfl) ⟨Nat.le_of_ble_eq_true rfl, Nat.le_of_ble_eq_true rfl⟩ ⟨Nat.le_of_ble_eq_true rfl, Nat.le_of_ble_eq_true rfl⟩ ?_
  show vm_J _ _ _ (30, (0, 0), [.int 0, .int 2, .int 0, .int 0], [.int (-1)]) (G, I, F) _ _
  refine vm_J.go vm_q150 (k := 7) (hs := [(60, 8, [])]) (f' := (bif vm_ic .ge (0 + 1) 5 then 37 else 12, (0, 0), [.int 0, .int 2, .int (-1), .int (0 + 1)], [])) (h' := (G, I, F)) (hs' := []) rfl rfl ?_
  rw [(show (0 + 1 : Int32) = 1 from by decide)]
  refine vm_J.bF (by decide) ?_
  refine vm_J.go vm_q150 (k := 2) (hs := []) (f' := (bif vm_ic .lt (-1) 0 then 37 else 16, (0, 0), [.int 0, .int 2, .int (-1), .int 1], [])) (h' := (G, I, F)) (hs' := []) rfl rfl ?_
  refine vm_J.bT (by decide) ?_
  refine vm_J.go vm_q150 (k := 1) (hs := []) (f' := (38, (0, 0), [.int 0, .int 2, .int (-1), .int 1], [.int 0])) (h' := (G, I, F)) (hs' := []) rfl rfl ?_
  exact vm_J.end vm_q150 (en := (38, .ireturn, 1, [], .null)) rfl rfl vm_rZ0 (Nat.zero_le _) (Nat.zero_le _) rfl
set_option maxHeartbeats 4000000 in
set_option maxRecDepth 20000 in
/-- DitherDesk.isUnder  -/
theorem m_under_1_3 {l : Launch} {X : vm_Cx} {G : List vm_Sh} {I : Nat → Nat → Int32} {F : Nat → Nat → UInt32}  : vm_K l X vm_M150 [.int 0, .int 3] (G, I, F) (some (.int 0)) (G, I, F) := by
  refine vm_K.mk (by decide) (Nat.le_of_ble_eq_true rfl) ?_
  show vm_J _ _ _ (0, (0, 0), [.int 0, .int 3, .retAddr 0, .retAddr 0], []) _ _ _
  refine vm_J.go vm_q150 (k := 8) (hs := [(60, 8, [])]) (f' := (bif vm_ic .ge 0 5 then 37 else 12, (0, 0), [.int 0, .int 3, .int 0, .int 0], [])) (h' := (G, I, F)) (hs' := []) rfl rfl ?_
  refine vm_J.bF (by decide) ?_
  refine vm_J.go vm_q150 (k := 2) (hs := []) (f' := (bif vm_ic .lt 0 0 then 37 else 16, (0, 0), [.int 0, .int 3, .int 0, .int 0], [])) (h' := (G, I, F)) (hs' := []) rfl rfl ?_
  refine vm_J.bF (by decide) ?_
  refine vm_J.go vm_q150 (k := 3) (hs := []) (f' := (bif vm_ic .ne 0 3 then 23 else 21, (0, 0), [.int 0, .int 3, .int 0, .int 0], [])) (h' := (G, I, F)) (hs' := []) rfl rfl ?_
  refine vm_J.bT (by decide) ?_
  refine vm_J.go vm_q150 (k := 2) (hs := []) (f' := (27, (0, 0), [.int 0, .int 3, .int 0, .int 0], [.int 0, .ref 100008])) (h' := (G, I, F)) (hs' := []) rfl rfl ?_
  refine vm_J.call vm_q150 (Z := vm_M152) (n := 2) (k := 1) (mi := 152) (pc := 27) (en := (27, .invokestatic 118, 3, [152, 511, 0], .null)) rfl trivial rfl rfl vm_z152 (av := [.ref 100008, .int 0]) (rest := []) m_at_s8_0 rfl (Nat.le_of_ble_eq_true rfl) ⟨Nat.le_of_ble_eq_true rfl, Nat.le_of_ble_eq_true rfl⟩ ⟨Nat.le_of_ble_eq_true rfl, Nat.le_of_ble_eq_true rfl⟩ ?_
  show vm_J _ _ _ (30, (0, 0), [.int 0, .int 3, .int 0, .int 0], [.int (-1)]) (G, I, F) _ _
  refine vm_J.go vm_q150 (k := 7) (hs := [(60, 8, [])]) (f' := (bif vm_ic .ge (0 + 1) 5 then 37 else 12, (0, 0), [.int 0, .int 3, .int (-1), .int (0 + 1)], [])) (h' := (G, I, F)) (hs' := []) rfl rfl ?_
  rw [(show (0 + 1 : Int32) = 1 from by decide)]
  refine vm_J.bF (by decide) ?_
  refine vm_J.go vm_q150 (k := 2) (hs := []) (f' := (bif vm_ic .lt (-1) 0 then 37 else 16, (0, 0), [.int 0, .int 3, .int (-1), .int 1], [])) (h' := (G, I, F)) (hs' := []) rfl rfl ?_
  refine vm_J.bT (by decide) ?_
  refine vm_J.go vm_q150 (k := 1) (hs := []) (f' := (38, (0, 0), [.int 0, .int 3, .int (-1), .int 1], [.int 0])) (h' := (G, I, F)) (hs' := []) rfl rfl ?_
  exact vm_J.end vm_q150 (en := (38, .ireturn, 1, [], .null)) rfl rfl vm_rZ0 (Nat.zero_le _) (Nat.zero_le _) rfl
set_option maxHeartbeats 4000000 in
set_option maxRecDepth 20000 in
/-- DitherDesk.isUnder  -/
theorem m_under_1_4 {l : Launch} {X : vm_Cx} {G : List vm_Sh} {I : Nat → Nat → Int32} {F : Nat → Nat → UInt32}  : vm_K l X vm_M150 [.int 0, .int 4] (G, I, F) (some (.int 0)) (G, I, F) := by
  refine vm_K.mk (by decide) (Nat.le_of_ble_eq_true rfl) ?_
  show vm_J _ _ _ (0, (0, 0), [.int 0, .int 4, .retAddr 0, .retAddr 0], []) _ _ _
  refine vm_J.go vm_q150 (k := 8) (hs := [(60, 8, [])]) (f' := (bif vm_ic .ge 0 5 then 37 else 12, (0, 0), [.int 0, .int 4, .int 0, .int 0], [])) (h' := (G, I, F)) (hs' := []) rfl rfl ?_
  refine vm_J.bF (by decide) ?_
  refine vm_J.go vm_q150 (k := 2) (hs := []) (f' := (bif vm_ic .lt 0 0 then 37 else 16, (0, 0), [.int 0, .int 4, .int 0, .int 0], [])) (h' := (G, I, F)) (hs' := []) rfl rfl ?_
  refine vm_J.bF (by decide) ?_
  refine vm_J.go vm_q150 (k := 3) (hs := []) (f' := (bif vm_ic .ne 0 4 then 23 else 21, (0, 0), [.int 0, .int 4, .int 0, .int 0], [])) (h' := (G, I, F)) (hs' := []) rfl rfl ?_
  refine vm_J.bT (by decide) ?_
  refine vm_J.go vm_q150 (k := 2) (hs := []) (f' := (27, (0, 0), [.int 0, .int 4, .int 0, .int 0], [.int 0, .ref 100008])) (h' := (G, I, F)) (hs' := []) rfl rfl ?_
  refine vm_J.call vm_q150 (Z := vm_M152) (n := 2) (k := 1) (mi := 152) (pc := 27) (en := (27, .invokestatic 118, 3, [152, 511, 0], .null)) rfl trivial rfl rfl vm_z152 (av := [.ref 100008, .int 0]) (rest := []) m_at_s8_0 rfl (Nat.le_of_ble_eq_true rfl) ⟨Nat.le_of_ble_eq_true rfl, Nat.le_of_ble_eq_true rfl⟩ ⟨Nat.le_of_ble_eq_true rfl, Nat.le_of_ble_eq_true rfl⟩ ?_
  show vm_J _ _ _ (30, (0, 0), [.int 0, .int 4, .int 0, .int 0], [.int (-1)]) (G, I, F) _ _
  refine vm_J.go vm_q150 (k := 7) (hs := [(60, 8, [])]) (f' := (bif vm_ic .ge (0 + 1) 5 then 37 else 12, (0, 0), [.int 0, .int 4, .int (-1), .int (0 + 1)], [])) (h' := (G, I, F)) (hs' := []) rfl rfl ?_
  rw [(show (0 + 1 : Int32) = 1 from by decide)]
  refine vm_J.bF (by decide) ?_
  refine vm_J.go vm_q150 (k := 2) (hs := []) (f' := (bif vm_ic .lt (-1) 0 then 37 else 16, (0, 0), [.int 0, .int 4, .int (-1), .int 1], [])) (h' := (G, I, F)) (hs' := []) rfl rfl ?_
  refine vm_J.bT (by decide) ?_
  refine vm_J.go vm_q150 (k := 1) (hs := []) (f' := (38, (0, 0), [.int 0, .int 4, .int (-1), .int 1], [.int 0])) (h' := (G, I, F)) (hs' := []) rfl rfl ?_
  exact vm_J.end vm_q150 (en := (38, .ireturn, 1, [], .null)) rfl rfl vm_rZ0 (Nat.zero_le _) (Nat.zero_le _) rfl
set_option maxHeartbeats 4000000 in
set_option maxRecDepth 20000 in
/-- DitherDesk.isUnder  -/
theorem m_under_2_0 {l : Launch} {X : vm_Cx} {G : List vm_Sh} {I : Nat → Nat → Int32} {F : Nat → Nat → UInt32}  : vm_K l X vm_M150 [.int 1, .int 0] (G, I, F) (some (.int 1)) (G, I, F) := by
  refine vm_K.mk (by decide) (Nat.le_of_ble_eq_true rfl) ?_
  show vm_J _ _ _ (0, (0, 0), [.int 1, .int 0, .retAddr 0, .retAddr 0], []) _ _ _
  refine vm_J.go vm_q150 (k := 8) (hs := [(60, 8, [])]) (f' := (bif vm_ic .ge 0 5 then 37 else 12, (0, 0), [.int 1, .int 0, .int 1, .int 0], [])) (h' := (G, I, F)) (hs' := []) rfl rfl ?_
  refine vm_J.bF (by decide) ?_
  refine vm_J.go vm_q150 (k := 2) (hs := []) (f' := (bif vm_ic .lt 1 0 then 37 else 16, (0, 0), [.int 1, .int 0, .int 1, .int 0], [])) (h' := (G, I, F)) (hs' := []) rfl rfl ?_
  refine vm_J.bF (by decide) ?_
  refine vm_J.go vm_q150 (k := 3) (hs := []) (f' := (bif vm_ic .ne 1 0 then 23 else 21, (0, 0), [.int 1, .int 0, .int 1, .int 0], [])) (h' := (G, I, F)) (hs' := []) rfl rfl ?_
  refine vm_J.bT (by decide) ?_
  refine vm_J.go vm_q150 (k := 2) (hs := []) (f' := (27, (0, 0), [.int 1, .int 0, .int 1, .int 0], [.int 1, .ref 100008])) (h' := (G, I, F)) (hs' := []) rfl rfl ?_
  refine vm_J.call vm_q150 (Z := vm_M152) (n := 2) (k := 1) (mi := 152) (pc := 27) (en := (27, .invokestatic 118, 3, [152, 511, 0], .null)) rfl trivial rfl rfl vm_z152 (av := [.ref 100008, .int 1]) (rest := []) m_at_s8_1 rfl (Nat.le_of_ble_eq_true rfl) ⟨Nat.le_of_ble_eq_true rfl, Nat.le_of_ble_eq_true rfl⟩ ⟨Nat.le_of_ble_eq_true rfl, Nat.le_of_ble_eq_true rfl⟩ ?_
  show vm_J _ _ _ (30, (0, 0), [.int 1, .int 0, .int 1, .int 0], [.int 0]) (G, I, F) _ _
  refine vm_J.go vm_q150 (k := 7) (hs := [(60, 8, [])]) (f' := (bif vm_ic .ge (0 + 1) 5 then 37 else 12, (0, 0), [.int 1, .int 0, .int 0, .int (0 + 1)], [])) (h' := (G, I, F)) (hs' := []) rfl rfl ?_
  rw [(show (0 + 1 : Int32) = 1 from by decide)]
  refine vm_J.bF (by decide) ?_
  refine vm_J.go vm_q150 (k := 2) (hs := []) (f' := (bif vm_ic .lt 0 0 then 37 else 16, (0, 0), [.int 1, .int 0, .int 0, .int 1], [])) (h' := (G, I, F)) (hs' := []) rfl rfl ?_
  refine vm_J.bF (by decide) ?_
  refine vm_J.go vm_q150 (k := 3) (hs := []) (f' := (bif vm_ic .ne 0 0 then 23 else 21, (0, 0), [.int 1, .int 0, .int 0, .int 1], [])) (h' := (G, I, F)) (hs' := []) rfl rfl ?_
  refine vm_J.bF (by decide) ?_
  refine vm_J.go vm_q150 (k := 1) (hs := []) (f' := (22, (0, 0), [.int 1, .int 0, .int 0, .int 1], [.int 1])) (h' := (G, I, F)) (hs' := []) rfl rfl ?_
  exact vm_J.end vm_q150 (en := (22, .ireturn, 1, [], .null)) rfl rfl vm_rZ1 (Nat.zero_le _) (Nat.zero_le _) rfl
set_option maxHeartbeats 4000000 in
set_option maxRecDepth 20000 in
/-- DitherDesk.isUnder  -/
theorem m_under_2_1 {l : Launch} {X : vm_Cx} {G : List vm_Sh} {I : Nat → Nat → Int32} {F : Nat → Nat → UInt32}  : vm_K l X vm_M150 [.int 1, .int 1] (G, I, F) (some (.int 1)) (G, I, F) := by
  refine vm_K.mk (by decide) (Nat.le_of_ble_eq_true rfl) ?_
  show vm_J _ _ _ (0, (0, 0), [.int 1, .int 1, .retAddr 0, .retAddr 0], []) _ _ _
  refine vm_J.go vm_q150 (k := 8) (hs := [(60, 8, [])]) (f' := (bif vm_ic .ge 0 5 then 37 else 12, (0, 0), [.int 1, .int 1, .int 1, .int 0], [])) (h' := (G, I, F)) (hs' := []) rfl rfl ?_
  refine vm_J.bF (by decide) ?_
  refine vm_J.go vm_q150 (k := 2) (hs := []) (f' := (bif vm_ic .lt 1 0 then 37 else 16, (0, 0), [.int 1, .int 1, .int 1, .int 0], [])) (h' := (G, I, F)) (hs' := []) rfl rfl ?_
  refine vm_J.bF (by decide) ?_
  refine vm_J.go vm_q150 (k := 3) (hs := []) (f' := (bif vm_ic .ne 1 1 then 23 else 21, (0, 0), [.int 1, .int 1, .int 1, .int 0], [])) (h' := (G, I, F)) (hs' := []) rfl rfl ?_
  refine vm_J.bF (by decide) ?_
  refine vm_J.go vm_q150 (k := 1) (hs := []) (f' := (22, (0, 0), [.int 1, .int 1, .int 1, .int 0], [.int 1])) (h' := (G, I, F)) (hs' := []) rfl rfl ?_
  exact vm_J.end vm_q150 (en := (22, .ireturn, 1, [], .null)) rfl rfl vm_rZ1 (Nat.zero_le _) (Nat.zero_le _) rfl
set_option maxHeartbeats 4000000 in
set_option maxRecDepth 20000 in
/-- DitherDesk.isUnder  -/
theorem m_under_2_2 {l : Launch} {X : vm_Cx} {G : List vm_Sh} {I : Nat → Nat → Int32} {F : Nat → Nat → UInt32}  : vm_K l X vm_M150 [.int 1, .int 2] (G, I, F) (some (.int 0)) (G, I, F) := by
  refine vm_K.mk (by decide) (Nat.le_of_ble_eq_true rfl) ?_
  show vm_J _ _ _ (0, (0, 0), [.int 1, .int 2, .retAddr 0, .retAddr 0], []) _ _ _
  refine vm_J.go vm_q150 (k := 8) (hs := [(60, 8, [])]) (f' := (bif vm_ic .ge 0 5 then 37 else 12, (0, 0), [.int 1, .int 2, .int 1, .int 0], [])) (h' := (G, I, F)) (hs' := []) rfl rfl ?_
  refine vm_J.bF (by decide) ?_
  refine vm_J.go vm_q150 (k := 2) (hs := []) (f' := (bif vm_ic .lt 1 0 then 37 else 16, (0, 0), [.int 1, .int 2, .int 1, .int 0], [])) (h' := (G, I, F)) (hs' := []) rfl rfl ?_
  refine vm_J.bF (by decide) ?_
  refine vm_J.go vm_q150 (k := 3) (hs := []) (f' := (bif vm_ic .ne 1 2 then 23 else 21, (0, 0), [.int 1, .int 2, .int 1, .int 0], [])) (h' := (G, I, F)) (hs' := []) rfl rfl ?_
  refine vm_J.bT (by decide) ?_
  refine vm_J.go vm_q150 (k := 2) (hs := []) (f' := (27, (0, 0), [.int 1, .int 2, .int 1, .int 0], [.int 1, .ref 100008])) (h' := (G, I, F)) (hs' := []) rfl rfl ?_
  refine vm_J.call vm_q150 (Z := vm_M152) (n := 2) (k := 1) (mi := 152) (pc := 27) (en := (27, .invokestatic 118, 3, [152, 511, 0], .null)) rfl trivial rfl rfl vm_z152 (av := [.ref 100008, .int 1]) (rest := []) m_at_s8_1 rfl (Nat.le_of_ble_eq_true rfl) ⟨Nat.le_of_ble_eq_true rfl, Nat.le_of_ble_eq_true rfl⟩ ⟨Nat.le_of_ble_eq_true rfl, Nat.le_of_ble_eq_true rfl⟩ ?_
  show vm_J _ _ _ (30, (0, 0), [.int 1, .int 2, .int 1, .int 0], [.int 0]) (G, I, F) _ _
  refine vm_J.go vm_q150 (k := 7) (hs := [(60, 8, [])]) (f' := (bif vm_ic .ge (0 + 1) 5 then 37 else 12, (0, 0), [.int 1, .int 2, .int 0, .int (0 + 1)], [])) (h' := (G, I, F)) (hs' := []) rfl rfl ?_
  rw [(show (0 + 1 : Int32) = 1 from by decide)]
  refine vm_J.bF (by decide) ?_
  refine vm_J.go vm_q150 (k := 2) (hs := []) (f' := (bif vm_ic .lt 0 0 then 37 else 16, (0, 0), [.int 1, .int 2, .int 0, .int 1], [])) (h' := (G, I, F)) (hs' := []) rfl rfl ?_
  refine vm_J.bF (by decide) ?_
  refine vm_J.go vm_q150 (k := 3) (hs := []) (f' := (bif vm_ic .ne 0 2 then 23 else 21, (0, 0), [.int 1, .int 2, .int 0, .int 1], [])) (h' := (G, I, F)) (hs' := []) rfl rfl ?_
  refine vm_J.bT (by decide) ?_
  refine vm_J.go vm_q150 (k := 2) (hs := []) (f' := (27, (0, 0), [.int 1, .int 2, .int 0, .int 1], [.int 0, .ref 100008])) (h' := (G, I, F)) (hs' := []) rfl rfl ?_
  refine vm_J.call vm_q150 (Z := vm_M152) (n := 2) (k := 1) (mi := 152) (pc := 27) (en := (27, .invokestatic 118, 3, [152, 511, 0], .null)) rfl trivial rfl rfl vm_z152 (av := [.ref 100008, .int 0]) (rest := []) m_at_s8_0 rfl (Nat.le_of_ble_eq_true rfl) ⟨Nat.le_of_ble_eq_true rfl, Nat.le_of_ble_eq_true rfl⟩ ⟨Nat.le_of_ble_eq_true rfl, Nat.le_of_ble_eq_true rfl⟩ ?_
  show vm_J _ _ _ (30, (0, 0), [.int 1, .int 2, .int 0, .int 1], [.int (-1)]) (G, I, F) _ _
  refine vm_J.go vm_q150 (k := 7) (hs := [(60, 8, [])]) (f' := (bif vm_ic .ge (1 + 1) 5 then 37 else 12, (0, 0), [.int 1, .int 2, .int (-1), .int (1 + 1)], [])) (h' := (G, I, F)) (hs' := []) rfl rfl ?_
  rw [(show (1 + 1 : Int32) = 2 from by decide)]
  refine vm_J.bF (by decide) ?_
  refine vm_J.go vm_q150 (k := 2) (hs := []) (f' := (bif vm_ic .lt (-1) 0 then 37 else 16, (0, 0), [.int 1, .int 2, .int (-1), .int 2], [])) (h' := (G, I, F)) (hs' := []) rfl rfl ?_
  refine vm_J.bT (by decide) ?_
  refine vm_J.go vm_q150 (k := 1) (hs := []) (f' := (38, (0, 0), [.int 1, .int 2, .int (-1), .int 2], [.int 0])) (h' := (G, I, F)) (hs' := []) rfl rfl ?_
  exact vm_J.end vm_q150 (en := (38, .ireturn, 1, [], .null)) rfl rfl vm_rZ0 (Nat.zero_le _) (Nat.zero_le _) rfl
set_option maxHeartbeats 4000000 in
set_option maxRecDepth 20000 in
/-- DitherDesk.isUnder  -/
theorem m_under_2_3 {l : Launch} {X : vm_Cx} {G : List vm_Sh} {I : Nat → Nat → Int32} {F : Nat → Nat → UInt32}  : vm_K l X vm_M150 [.int 1, .int 3] (G, I, F) (some (.int 0)) (G, I, F) := by
  refine vm_K.mk (by decide) (Nat.le_of_ble_eq_true rfl) ?_
  show vm_J _ _ _ (0, (0, 0), [.int 1, .int 3, .retAddr 0, .retAddr 0], []) _ _ _
  refine vm_J.go vm_q150 (k := 8) (hs := [(60, 8, [])]) (f' := (bif vm_ic .ge 0 5 then 37 else 12, (0, 0), [.int 1, .int 3, .int 1, .int 0], [])) (h' := (G, I, F)) (hs' := []) rfl rfl ?_
  refine vm_J.bF (by decide) ?_
  refine vm_J.go vm_q150 (k := 2) (hs := []) (f' := (bif vm_ic .lt 1 0 then 37 else 16, (0, 0), [.int 1, .int 3, .int 1, .int 0], [])) (h' := (G, I, F)) (hs' := []) rfl rfl ?_
  refine vm_J.bF (by decide) ?_
  refine vm_J.go vm_q150 (k := 3) (hs := []) (f' := (bif vm_ic .ne 1 3 then 23 else 21, (0, 0), [.int 1, .int 3, .int 1, .int 0], [])) (h' := (G, I, F)) (hs' := []) rfl rfl ?_
  refine vm_J.bT (by decide) ?_
  refine vm_J.go vm_q150 (k := 2) (hs := []) (f' := (27, (0, 0), [.int 1, .int 3, .int 1, .int 0], [.int 1, .ref 100008])) (h' := (G, I, F)) (hs' := []) rfl rfl ?_
  refine vm_J.call vm_q150 (Z := vm_M152) (n := 2) (k := 1) (mi := 152) (pc := 27) (en := (27, .invokestatic 118, 3, [152, 511, 0], .null)) rfl trivial rfl rfl vm_z152 (av := [.ref 100008, .int 1]) (rest := []) m_at_s8_1 rfl (Nat.le_of_ble_eq_true rfl) ⟨Nat.le_of_ble_eq_true rfl, Nat.le_of_ble_eq_true rfl⟩ ⟨Nat.le_of_ble_eq_true rfl, Nat.le_of_ble_eq_true rfl⟩ ?_
  show vm_J _ _ _ (30, (0, 0), [.int 1, .int 3, .int 1, .int 0], [.int 0]) (G, I, F) _ _
  refine vm_J.go vm_q150 (k := 7) (hs := [(60, 8, [])]) (f' := (bif vm_ic .ge (0 + 1) 5 then 37 else 12, (0, 0), [.int 1, .int 3, .int 0, .int (0 + 1)], [])) (h' := (G, I, F)) (hs' := []) rfl rfl ?_
  rw [(show (0 + 1 : Int32) = 1 from by decide)]
  refine vm_J.bF (by decide) ?_
  refine vm_J.go vm_q150 (k := 2) (hs := []) (f' := (bif vm_ic .lt 0 0 then 37 else 16, (0, 0), [.int 1, .int 3, .int 0, .int 1], [])) (h' := (G, I, F)) (hs' := []) rfl rfl ?_
  refine vm_J.bF (by decide) ?_
  refine vm_J.go vm_q150 (k := 3) (hs := []) (f' := (bif vm_ic .ne 0 3 then 23 else 21, (0, 0), [.int 1, .int 3, .int 0, .int 1], [])) (h' := (G, I, F)) (hs' := []) rfl rfl ?_
  refine vm_J.bT (by decide) ?_
  refine vm_J.go vm_q150 (k := 2) (hs := []) (f' := (27, (0, 0), [.int 1, .int 3, .int 0, .int 1], [.int 0, .ref 100008])) (h' := (G, I, F)) (hs' := []) rfl rfl ?_
  refine vm_J.call vm_q150 (Z := vm_M152) (n := 2) (k := 1) (mi := 152) (pc := 27) (en := (27, .invokestatic 118, 3, [152, 511, 0], .null)) rfl trivial rfl rfl vm_z152 (av := [.ref 100008, .int 0]) (rest := []) m_at_s8_0 rfl (Nat.le_of_ble_eq_true rfl) ⟨Nat.le_of_ble_eq_true rfl, Nat.le_of_ble_eq_true rfl⟩ ⟨Nat.le_of_ble_eq_true rfl, Nat.le_of_ble_eq_true rfl⟩ ?_
  show vm_J _ _ _ (30, (0, 0), [.int 1, .int 3, .int 0, .int 1], [.int (-1)]) (G, I, F) _ _
  refine vm_J.go vm_q150 (k := 7) (hs := [(60, 8, [])]) (f' := (bif vm_ic .ge (1 + 1) 5 then 37 else 12, (0, 0), [.int 1, .int 3, .int (-1), .int (1 + 1)], [])) (h' := (G, I, F)) (hs' := []) rfl rfl ?_
  rw [(show (1 + 1 : Int32) = 2 from by decide)]
  refine vm_J.bF (by decide) ?_
  refine vm_J.go vm_q150 (k := 2) (hs := []) (f' := (bif vm_ic .lt (-1) 0 then 37 else 16, (0, 0), [.int 1, .int 3, .int (-1), .int 2], [])) (h' := (G, I, F)) (hs' := []) rfl rfl ?_
  refine vm_J.bT (by decide) ?_
  refine vm_J.go vm_q150 (k := 1) (hs := []) (f' := (38, (0, 0), [.int 1, .int 3, .int (-1), .int 2], [.int 0])) (h' := (G, I, F)) (hs' := []) rfl rfl ?_
  exact vm_J.end vm_q150 (en := (38, .ireturn, 1, [], .null)) rfl rfl vm_rZ0 (Nat.zero_le _) (Nat.zero_le _) rfl
set_option maxHeartbeats 4000000 in
set_option maxRecDepth 20000 in
/-- DitherDesk.isUnder  -/
theorem m_under_2_4 {l : Launch} {X : vm_Cx} {G : List vm_Sh} {I : Nat → Nat → Int32} {F : Nat → Nat → UInt32}  : vm_K l X vm_M150 [.int 1, .int 4] (G, I, F) (some (.int 0)) (G, I, F) := by
  refine vm_K.mk (by decide) (Nat.le_of_ble_eq_true rfl) ?_
  show vm_J _ _ _ (0, (0, 0), [.int 1, .int 4, .retAddr 0, .retAddr 0], []) _ _ _
  refine vm_J.go vm_q150 (k := 8) (hs := [(60, 8, [])]) (f' := (bif vm_ic .ge 0 5 then 37 else 12, (0, 0), [.int 1, .int 4, .int 1, .int 0], [])) (h' := (G, I, F)) (hs' := []) rfl rfl ?_
  refine vm_J.bF (by decide) ?_
  refine vm_J.go vm_q150 (k := 2) (hs := []) (f' := (bif vm_ic .lt 1 0 then 37 else 16, (0, 0), [.int 1, .int 4, .int 1, .int 0], [])) (h' := (G, I, F)) (hs' := []) rfl rfl ?_
  refine vm_J.bF (by decide) ?_
  refine vm_J.go vm_q150 (k := 3) (hs := []) (f' := (bif vm_ic .ne 1 4 then 23 else 21, (0, 0), [.int 1, .int 4, .int 1, .int 0], [])) (h' := (G, I, F)) (hs' := []) rfl rfl ?_
  refine vm_J.bT (by decide) ?_
  refine vm_J.go vm_q150 (k := 2) (hs := []) (f' := (27, (0, 0), [.int 1, .int 4, .int 1, .int 0], [.int 1, .ref 100008])) (h' := (G, I, F)) (hs' := []) rfl rfl ?_
  refine vm_J.call vm_q150 (Z := vm_M152) (n := 2) (k := 1) (mi := 152) (pc := 27) (en := (27, .invokestatic 118, 3, [152, 511, 0], .null)) rfl trivial rfl rfl vm_z152 (av := [.ref 100008, .int 1]) (rest := []) m_at_s8_1 rfl (Nat.le_of_ble_eq_true rfl) ⟨Nat.le_of_ble_eq_true rfl, Nat.le_of_ble_eq_true rfl⟩ ⟨Nat.le_of_ble_eq_true rfl, Nat.le_of_ble_eq_true rfl⟩ ?_
  show vm_J _ _ _ (30, (0, 0), [.int 1, .int 4, .int 1, .int 0], [.int 0]) (G, I, F) _ _
  refine vm_J.go vm_q150 (k := 7) (hs := [(60, 8, [])]) (f' := (bif vm_ic .ge (0 + 1) 5 then 37 else 12, (0, 0), [.int 1, .int 4, .int 0, .int (0 + 1)], [])) (h' := (G, I, F)) (hs' := []) rfl rfl ?_
  rw [(show (0 + 1 : Int32) = 1 from by decide)]
  refine vm_J.bF (by decide) ?_
  refine vm_J.go vm_q150 (k := 2) (hs := []) (f' := (bif vm_ic .lt 0 0 then 37 else 16, (0, 0), [.int 1, .int 4, .int 0, .int 1], [])) (h' := (G, I, F)) (hs' := []) rfl rfl ?_
  refine vm_J.bF (by decide) ?_
  refine vm_J.go vm_q150 (k := 3) (hs := []) (f' := (bif vm_ic .ne 0 4 then 23 else 21, (0, 0), [.int 1, .int 4, .int 0, .int 1], [])) (h' := (G, I, F)) (hs' := []) rfl rfl ?_
  refine vm_J.bT (by decide) ?_
  refine vm_J.go vm_q150 (k := 2) (hs := []) (f' := (27, (0, 0), [.int 1, .int 4, .int 0, .int 1], [.int 0, .ref 100008])) (h' := (G, I, F)) (hs' := []) rfl rfl ?_
  refine vm_J.call vm_q150 (Z := vm_M152) (n := 2) (k := 1) (mi := 152) (pc := 27) (en := (27, .invokestatic 118, 3, [152, 511, 0], .null)) rfl trivial rfl rfl vm_z152 (av := [.ref 100008, .int 0]) (rest := []) m_at_s8_0 rfl (Nat.le_of_ble_eq_true rfl) ⟨Nat.le_of_ble_eq_true rfl, Nat.le_of_ble_eq_true rfl⟩ ⟨Nat.le_of_ble_eq_true rfl, Nat.le_of_ble_eq_true rfl⟩ ?_
  show vm_J _ _ _ (30, (0, 0), [.int 1, .int 4, .int 0, .int 1], [.int (-1)]) (G, I, F) _ _
  refine vm_J.go vm_q150 (k := 7) (hs := [(60, 8, [])]) (f' := (bif vm_ic .ge (1 + 1) 5 then 37 else 12, (0, 0), [.int 1, .int 4, .int (-1), .int (1 + 1)], [])) (h' := (G, I, F)) (hs' := []) rfl rfl ?_
  rw [(show (1 + 1 : Int32) = 2 from by decide)]
  refine vm_J.bF (by decide) ?_
  refine vm_J.go vm_q150 (k := 2) (hs := []) (f' := (bif vm_ic .lt (-1) 0 then 37 else 16, (0, 0), [.int 1, .int 4, .int (-1), .int 2], [])) (h' := (G, I, F)) (hs' := []) rfl rfl ?_
  refine vm_J.bT (by decide) ?_
  refine vm_J.go vm_q150 (k := 1) (hs := []) (f' := (38, (0, 0), [.int 1, .int 4, .int (-1), .int 2], [.int 0])) (h' := (G, I, F)) (hs' := []) rfl rfl ?_
  exact vm_J.end vm_q150 (en := (38, .ireturn, 1, [], .null)) rfl rfl vm_rZ0 (Nat.zero_le _) (Nat.zero_le _) rfl
set_option maxHeartbeats 4000000 in
set_option maxRecDepth 20000 in
/-- DitherDesk.isUnder  -/
theorem m_under_3_0 {l : Launch} {X : vm_Cx} {G : List vm_Sh} {I : Nat → Nat → Int32} {F : Nat → Nat → UInt32}  : vm_K l X vm_M150 [.int 2, .int 0] (G, I, F) (some (.int 1)) (G, I, F) := by
  refine vm_K.mk (by decide) (Nat.le_of_ble_eq_true rfl) ?_
  show vm_J _ _ _ (0, (0, 0), [.int 2, .int 0, .retAddr 0, .retAddr 0], []) _ _ _
  refine vm_J.go vm_q150 (k := 8) (hs := [(60, 8, [])]) (f' := (bif vm_ic .ge 0 5 then 37 else 12, (0, 0), [.int 2, .int 0, .int 2, .int 0], [])) (h' := (G, I, F)) (hs' := []) rfl rfl ?_
  refine vm_J.bF (by decide) ?_
  refine vm_J.go vm_q150 (k := 2) (hs := []) (f' := (bif vm_ic .lt 2 0 then 37 else 16, (0, 0), [.int 2, .int 0, .int 2, .int 0], [])) (h' := (G, I, F)) (hs' := []) rfl rfl ?_
  refine vm_J.bF (by decide) ?_
  refine vm_J.go vm_q150 (k := 3) (hs := []) (f' := (bif vm_ic .ne 2 0 then 23 else 21, (0, 0), [.int 2, .int 0, .int 2, .int 0], [])) (h' := (G, I, F)) (hs' := []) rfl rfl ?_
  refine vm_J.bT (by decide) ?_
  refine vm_J.go vm_q150 (k := 2) (hs := []) (f' := (27, (0, 0), [.int 2, .int 0, .int 2, .int 0], [.int 2, .ref 100008])) (h' := (G, I, F)) (hs' := []) rfl rfl ?_
  refine vm_J.call vm_q150 (Z := vm_M152) (n := 2) (k := 1) (mi := 152) (pc := 27) (en := (27, .invokestatic 118, 3, [152, 511, 0], .null)) rfl trivial rfl rfl vm_z152 (av := [.ref 100008, .int 2]) (rest := []) m_at_s8_2 rfl (Nat.le_of_ble_eq_true rfl) ⟨Nat.le_of_ble_eq_true rfl, Nat.le_of_ble_eq_true rfl⟩ ⟨Nat.le_of_ble_eq_true rfl, Nat.le_of_ble_eq_true rfl⟩ ?_
  show vm_J _ _ _ (30, (0, 0), [.int 2, .int 0, .int 2, .int 0], [.int 1]) (G, I, F) _ _
  refine vm_J.go vm_q150 (k := 7) (hs := [(60, 8, [])]) (f' := (bif vm_ic .ge (0 + 1) 5 then 37 else 12, (0, 0), [.int 2, .int 0, .int 1, .int (0 + 1)], [])) (h' := (G, I, F)) (hs' := []) rfl rfl ?_
  rw [(show (0 + 1 : Int32) = 1 from by decide)]
  refine vm_J.bF (by decide) ?_
  refine vm_J.go vm_q150 (k := 2) (hs := []) (f' := (bif vm_ic .lt 1 0 then 37 else 16, (0, 0), [.int 2, .int 0, .int 1, .int 1], [])) (h' := (G, I, F)) (hs' := []) rfl rfl ?_
  refine vm_J.bF (by decide) ?_
  refine vm_J.go vm_q150 (k := 3) (hs := []) (f' := (bif vm_ic .ne 1 0 then 23 else 21, (0, 0), [.int 2, .int 0, .int 1, .int 1], [])) (h' := (G, I, F)) (hs' := []) rfl rfl ?_
  refine vm_J.bT (by decide) ?_
  refine vm_J.go vm_q150 (k := 2) (hs := []) (f' := (27, (0, 0), [.int 2, .int 0, .int 1, .int 1], [.int 1, .ref 100008])) (h' := (G, I, F)) (hs' := []) rfl rfl ?_
  refine vm_J.call vm_q150 (Z := vm_M152) (n := 2) (k := 1) (mi := 152) (pc := 27) (en := (27, .invokestatic 118, 3, [152, 511, 0], .null)) rfl trivial rfl rfl vm_z152 (av := [.ref 100008, .int 1]) (rest := []) m_at_s8_1 rfl (Nat.le_of_ble_eq_true rfl) ⟨Nat.le_of_ble_eq_true rfl, Nat.le_of_ble_eq_true rfl⟩ ⟨Nat.le_of_ble_eq_true rfl, Nat.le_of_ble_eq_true rfl⟩ ?_
  show vm_J _ _ _ (30, (0, 0), [.int 2, .int 0, .int 1, .int 1], [.int 0]) (G, I, F) _ _
  refine vm_J.go vm_q150 (k := 7) (hs := [(60, 8, [])]) (f' := (bif vm_ic .ge (1 + 1) 5 then 37 else 12, (0, 0), [.int 2, .int 0, .int 0, .int (1 + 1)], [])) (h' := (G, I, F)) (hs' := []) rfl rfl ?_
  rw [(show (1 + 1 : Int32) = 2 from by decide)]
  refine vm_J.bF (by decide) ?_
  refine vm_J.go vm_q150 (k := 2) (hs := []) (f' := (bif vm_ic .lt 0 0 then 37 else 16, (0, 0), [.int 2, .int 0, .int 0, .int 2], [])) (h' := (G, I, F)) (hs' := []) rfl rfl ?_
  refine vm_J.bF (by decide) ?_
  refine vm_J.go vm_q150 (k := 3) (hs := []) (f' := (bif vm_ic .ne 0 0 then 23 else 21, (0, 0), [.int 2, .int 0, .int 0, .int 2], [])) (h' := (G, I, F)) (hs' := []) rfl rfl ?_
  refine vm_J.bF (by decide) ?_
  refine vm_J.go vm_q150 (k := 1) (hs := []) (f' := (22, (0, 0), [.int 2, .int 0, .int 0, .int 2], [.int 1])) (h' := (G, I, F)) (hs' := []) rfl rfl ?_
  exact vm_J.end vm_q150 (en := (22, .ireturn, 1, [], .null)) rfl rfl vm_rZ1 (Nat.zero_le _) (Nat.zero_le _) rfl
set_option maxHeartbeats 4000000 in
set_option maxRecDepth 20000 in
/-- DitherDesk.isUnder  -/
theorem m_under_3_1 {l : Launch} {X : vm_Cx} {G : List vm_Sh} {I : Nat → Nat → Int32} {F : Nat → Nat → UInt32}  : vm_K l X vm_M150 [.int 2, .int 1] (G, I, F) (some (.int 1)) (G, I, F) := by
  refine vm_K.mk (by decide) (Nat.le_of_ble_eq_true rfl) ?_
  show vm_J _ _ _ (0, (0, 0), [.int 2, .int 1, .retAddr 0, .retAddr 0], []) _ _ _
  refine vm_J.go vm_q150 (k := 8) (hs := [(60, 8, [])]) (f' := (bif vm_ic .ge 0 5 then 37 else 12, (0, 0), [.int 2, .int 1, .int 2, .int 0], [])) (h' := (G, I, F)) (hs' := []) rfl rfl ?_
  refine vm_J.bF (by decide) ?_
  refine vm_J.go vm_q150 (k := 2) (hs := []) (f' := (bif vm_ic .lt 2 0 then 37 else 16, (0, 0), [.int 2, .int 1, .int 2, .int 0], [])) (h' := (G, I, F)) (hs' := []) rfl rfl ?_
  refine vm_J.bF (by decide) ?_
  refine vm_J.go vm_q150 (k := 3) (hs := []) (f' := (bif vm_ic .ne 2 1 then 23 else 21, (0, 0), [.int 2, .int 1, .int 2, .int 0], [])) (h' := (G, I, F)) (hs' := []) rfl rfl ?_
  refine vm_J.bT (by decide) ?_
  refine vm_J.go vm_q150 (k := 2) (hs := []) (f' := (27, (0, 0), [.int 2, .int 1, .int 2, .int 0], [.int 2, .ref 100008])) (h' := (G, I, F)) (hs' := []) rfl rfl ?_
  refine vm_J.call vm_q150 (Z := vm_M152) (n := 2) (k := 1) (mi := 152) (pc := 27) (en := (27, .invokestatic 118, 3, [152, 511, 0], .null)) rfl trivial rfl rfl vm_z152 (av := [.ref 100008, .int 2]) (rest := []) m_at_s8_2 rfl (Nat.le_of_ble_eq_true rfl) ⟨Nat.le_of_ble_eq_true rfl, Nat.le_of_ble_eq_true rfl⟩ ⟨Nat.le_of_ble_eq_true rfl, Nat.le_of_ble_eq_true rfl⟩ ?_
  show vm_J _ _ _ (30, (0, 0), [.int 2, .int 1, .int 2, .int 0], [.int 1]) (G, I, F) _ _
  refine vm_J.go vm_q150 (k := 7) (hs := [(60, 8, [])]) (f' := (bif vm_ic .ge (0 + 1) 5 then 37 else 12, (0, 0), [.int 2, .int 1, .int 1, .int (0 + 1)], [])) (h' := (G, I, F)) (hs' := []) rfl rfl ?_
  rw [(show (0 + 1 : Int32) = 1 from by decide)]
  refine vm_J.bF (by decide) ?_
  refine vm_J.go vm_q150 (k := 2) (hs := []) (f' := (bif vm_ic .lt 1 0 then 37 else 16, (0, 0), [.int 2, .int 1, .int 1, .int 1], [])) (h' := (G, I, F)) (hs' := []) rfl rfl ?_
  refine vm_J.bF (by decide) ?_
  refine vm_J.go vm_q150 (k := 3) (hs := []) (f' := (bif vm_ic .ne 1 1 then 23 else 21, (0, 0), [.int 2, .int 1, .int 1, .int 1], [])) (h' := (G, I, F)) (hs' := []) rfl rfl ?_
  refine vm_J.bF (by decide) ?_
  refine vm_J.go vm_q150 (k := 1) (hs := []) (f' := (22, (0, 0), [.int 2, .int 1, .int 1, .int 1], [.int 1])) (h' := (G, I, F)) (hs' := []) rfl rfl ?_
  exact vm_J.end vm_q150 (en := (22, .ireturn, 1, [], .null)) rfl rfl vm_rZ1 (Nat.zero_le _) (Nat.zero_le _) rfl
set_option maxHeartbeats 4000000 in
set_option maxRecDepth 20000 in
/-- DitherDesk.isUnder  -/
theorem m_under_3_2 {l : Launch} {X : vm_Cx} {G : List vm_Sh} {I : Nat → Nat → Int32} {F : Nat → Nat → UInt32}  : vm_K l X vm_M150 [.int 2, .int 2] (G, I, F) (some (.int 1)) (G, I, F) := by
  refine vm_K.mk (by decide) (Nat.le_of_ble_eq_true rfl) ?_
  show vm_J _ _ _ (0, (0, 0), [.int 2, .int 2, .retAddr 0, .retAddr 0], []) _ _ _
  refine vm_J.go vm_q150 (k := 8) (hs := [(60, 8, [])]) (f' := (bif vm_ic .ge 0 5 then 37 else 12, (0, 0), [.int 2, .int 2, .int 2, .int 0], [])) (h' := (G, I, F)) (hs' := []) rfl rfl ?_
  refine vm_J.bF (by decide) ?_
  refine vm_J.go vm_q150 (k := 2) (hs := []) (f' := (bif vm_ic .lt 2 0 then 37 else 16, (0, 0), [.int 2, .int 2, .int 2, .int 0], [])) (h' := (G, I, F)) (hs' := []) rfl rfl ?_
  refine vm_J.bF (by decide) ?_
  refine vm_J.go vm_q150 (k := 3) (hs := []) (f' := (bif vm_ic .ne 2 2 then 23 else 21, (0, 0), [.int 2, .int 2, .int 2, .int 0], [])) (h' := (G, I, F)) (hs' := []) rfl rfl ?_
  refine vm_J.bF (by decide) ?_
  refine vm_J.go vm_q150 (k := 1) (hs := []) (f' := (22, (0, 0), [.int 2, .int 2, .int 2, .int 0], [.int 1])) (h' := (G, I, F)) (hs' := []) rfl rfl ?_
  exact vm_J.end vm_q150 (en := (22, .ireturn, 1, [], .null)) rfl rfl vm_rZ1 (Nat.zero_le _) (Nat.zero_le _) rfl
set_option maxHeartbeats 4000000 in
set_option maxRecDepth 20000 in
/-- DitherDesk.isUnder  -/
theorem m_under_3_3 {l : Launch} {X : vm_Cx} {G : List vm_Sh} {I : Nat → Nat → Int32} {F : Nat → Nat → UInt32}  : vm_K l X vm_M150 [.int 2, .int 3] (G, I, F) (some (.int 0)) (G, I, F) := by
  refine vm_K.mk (by decide) (Nat.le_of_ble_eq_true rfl) ?_
  show vm_J _ _ _ (0, (0, 0), [.int 2, .int 3, .retAddr 0, .retAddr 0], []) _ _ _
  refine vm_J.go vm_q150 (k := 8) (hs := [(60, 8, [])]) (f' := (bif vm_ic .ge 0 5 then 37 else 12, (0, 0), [.int 2, .int 3, .int 2, .int 0], [])) (h' := (G, I, F)) (hs' := []) rfl rfl ?_
  refine vm_J.bF (by decide) ?_
  refine vm_J.go vm_q150 (k := 2) (hs := []) (f' := (bif vm_ic .lt 2 0 then 37 else 16, (0, 0), [.int 2, .int 3, .int 2, .int 0], [])) (h' := (G, I, F)) (hs' := []) rfl rfl ?_
  refine vm_J.bF (by decide) ?_
  refine vm_J.go vm_q150 (k := 3) (hs := []) (f' := (bif vm_ic .ne 2 3 then 23 else 21, (0, 0), [.int 2, .int 3, .int 2, .int 0], [])) (h' := (G, I, F)) (hs' := []) rfl rfl ?_
  refine vm_J.bT (by decide) ?_
  refine vm_J.go vm_q150 (k := 2) (hs := []) (f' := (27, (0, 0), [.int 2, .int 3, .int 2, .int 0], [.int 2, .ref 100008])) (h' := (G, I, F)) (hs' := []) rfl rfl ?_
  refine vm_J.call vm_q150 (Z := vm_M152) (n := 2) (k := 1) (mi := 152) (pc := 27) (en := (27, .invokestatic 118, 3, [152, 511, 0], .null)) rfl trivial rfl rfl vm_z152 (av := [.ref 100008, .int 2]) (rest := []) m_at_s8_2 rfl (Nat.le_of_ble_eq_true rfl) ⟨Nat.le_of_ble_eq_true rfl, Nat.le_of_ble_eq_true rfl⟩ ⟨Nat.le_of_ble_eq_true rfl, Nat.le_of_ble_eq_true rfl⟩ ?_
  show vm_J _ _ _ (30, (0, 0), [.int 2, .int 3, .int 2, .int 0], [.int 1]) (G, I, F) _ _
  refine vm_J.go vm_q150 (k := 7) (hs := [(60, 8, [])]) (f' := (bif vm_ic .ge (0 + 1) 5 then 37 else 12, (0, 0), [.int 2, .int 3, .int 1, .int (0 + 1)], [])) (h' := (G, I, F)) (hs' := []) rfl rfl ?_
  rw [(show (0 + 1 : Int32) = 1 from by decide)]
  refine vm_J.bF (by decide) ?_
  refine vm_J.go vm_q150 (k := 2) (hs := []) (f' := (bif vm_ic .lt 1 0 then 37 else 16, (0, 0), [.int 2, .int 3, .int 1, .int 1], [])) (h' := (G, I, F)) (hs' := []) rfl rfl ?_
  refine vm_J.bF (by decide) ?_
  refine vm_J.go vm_q150 (k := 3) (hs := []) (f' := (bif vm_ic .ne 1 3 then 23 else 21, (0, 0), [.int 2, .int 3, .int 1, .int 1], [])) (h' := (G, I, F)) (hs' := []) rfl rfl ?_
  refine vm_J.bT (by decide) ?_
  refine vm_J.go vm_q150 (k := 2) (hs := []) (f' := (27, (0, 0), [.int 2, .int 3, .int 1, .int 1], [.int 1, .ref 100008])) (h' := (G, I, F)) (hs' := []) rfl rfl ?_
  refine vm_J.call vm_q150 (Z := vm_M152) (n := 2) (k := 1) (mi := 152) (pc := 27) (en := (27, .invokestatic 118, 3, [152, 511, 0], .null)) rfl trivial rfl rfl vm_z152 (av := [.ref 100008, .int 1]) (rest := []) m_at_s8_1 rfl (Nat.le_of_ble_eq_true rfl) ⟨Nat.le_of_ble_eq_true rfl, Nat.le_of_ble_eq_true rfl⟩ ⟨Nat.le_of_ble_eq_true rfl, Nat.le_of_ble_eq_true rfl⟩ ?_
  show vm_J _ _ _ (30, (0, 0), [.int 2, .int 3, .int 1, .int 1], [.int 0]) (G, I, F) _ _
  refine vm_J.go vm_q150 (k := 7) (hs := [(60, 8, [])]) (f' := (bif vm_ic .ge (1 + 1) 5 then 37 else 12, (0, 0), [.int 2, .int 3, .int 0, .int (1 + 1)], [])) (h' := (G, I, F)) (hs' := []) rfl rfl ?_
  rw [(show (1 + 1 : Int32) = 2 from by decide)]
  refine vm_J.bF (by decide) ?_
  refine vm_J.go vm_q150 (k := 2) (hs := []) (f' := (bif vm_ic .lt 0 0 then 37 else 16, (0, 0), [.int 2, .int 3, .int 0, .int 2], [])) (h' := (G, I, F)) (hs' := []) rfl rfl ?_
  refine vm_J.bF (by decide) ?_
  refine vm_J.go vm_q150 (k := 3) (hs := []) (f' := (bif vm_ic .ne 0 3 then 23 else 21, (0, 0), [.int 2, .int 3, .int 0, .int 2], [])) (h' := (G, I, F)) (hs' := []) rfl rfl ?_
  refine vm_J.bT (by decide) ?_
  refine vm_J.go vm_q150 (k := 2) (hs := []) (f' := (27, (0, 0), [.int 2, .int 3, .int 0, .int 2], [.int 0, .ref 100008])) (h' := (G, I, F)) (hs' := []) rfl rfl ?_
  refine vm_J.call vm_q150 (Z := vm_M152) (n := 2) (k := 1) (mi := 152) (pc := 27) (en := (27, .invokestatic 118, 3, [152, 511, 0], .null)) rfl trivial rfl rfl vm_z152 (av := [.ref 100008, .int 0]) (rest := []) m_at_s8_0 rfl (Nat.le_of_ble_eq_true rfl) ⟨Nat.le_of_ble_eq_true rfl, Nat.le_of_ble_eq_true rfl⟩ ⟨Nat.le_of_ble_eq_true rfl, Nat.le_of_ble_eq_true rfl⟩ ?_
  show vm_J _ _ _ (30, (0, 0), [.int 2, .int 3, .int 0, .int 2], [.int (-1)]) (G, I, F) _ _
  refine vm_J.go vm_q150 (k := 7) (hs := [(60, 8, [])]) (f' := (bif vm_ic .ge (2 + 1) 5 then 37 else 12, (0, 0), [.int 2, .int 3, .int (-1), .int (2 + 1)], [])) (h' := (G, I, F)) (hs' := []) rfl rfl ?_
  rw [(show (2 + 1 : Int32) = 3 from by decide)]
  refine vm_J.bF (by decide) ?_
  refine vm_J.go vm_q150 (k := 2) (hs := []) (f' := (bif vm_ic .lt (-1) 0 then 37 else 16, (0, 0), [.int 2, .int 3, .int (-1), .int 3], [])) (h' := (G, I, F)) (hs' := []) rfl rfl ?_
  refine vm_J.bT (by decide) ?_
  refine vm_J.go vm_q150 (k := 1) (hs := []) (f' := (38, (0, 0), [.int 2, .int 3, .int (-1), .int 3], [.int 0])) (h' := (G, I, F)) (hs' := []) rfl rfl ?_
  exact vm_J.end vm_q150 (en := (38, .ireturn, 1, [], .null)) rfl rfl vm_rZ0 (Nat.zero_le _) (Nat.zero_le _) rfl
set_option maxHeartbeats 4000000 in
set_option maxRecDepth 20000 in
/-- DitherDesk.isUnder  -/
theorem m_under_3_4 {l : Launch} {X : vm_Cx} {G : List vm_Sh} {I : Nat → Nat → Int32} {F : Nat → Nat → UInt32}  : vm_K l X vm_M150 [.int 2, .int 4] (G, I, F) (some (.int 0)) (G, I, F) := by
  refine vm_K.mk (by decide) (Nat.le_of_ble_eq_true rfl) ?_
  show vm_J _ _ _ (0, (0, 0), [.int 2, .int 4, .retAddr 0, .retAddr 0], []) _ _ _
  refine vm_J.go vm_q150 (k := 8) (hs := [(60, 8, [])]) (f' := (bif vm_ic .ge 0 5 then 37 else 12, (0, 0), [.int 2, .int 4, .int 2, .int 0], [])) (h' := (G, I, F)) (hs' := []) rfl rfl ?_
  refine vm_J.bF (by decide) ?_
  refine vm_J.go vm_q150 (k := 2) (hs := []) (f' := (bif vm_ic .lt 2 0 then 37 else 16, (0, 0), [.int 2, .int 4, .int 2, .int 0], [])) (h' := (G, I, F)) (hs' := []) rfl rfl ?_
  refine vm_J.bF (by decide) ?_
  refine vm_J.go vm_q150 (k := 3) (hs := []) (f' := (bif vm_ic .ne 2 4 then 23 else 21, (0, 0), [.int 2, .int 4, .int 2, .int 0], [])) (h' := (G, I, F)) (hs' := []) rfl rfl ?_
  refine vm_J.bT (by decide) ?_
  refine vm_J.go vm_q150 (k := 2) (hs := []) (f' := (27, (0, 0), [.int 2, .int 4, .int 2, .int 0], [.int 2, .ref 100008])) (h' := (G, I, F)) (hs' := []) rfl rfl ?_
  refine vm_J.call vm_q150 (Z := vm_M152) (n := 2) (k := 1) (mi := 152) (pc := 27) (en := (27, .invokestatic 118, 3, [152, 511, 0], .null)) rfl trivial rfl rfl vm_z152 (av := [.ref 100008, .int 2]) (rest := []) m_at_s8_2 rfl (Nat.le_of_ble_eq_true rfl) ⟨Nat.le_of_ble_eq_true rfl, Nat.le_of_ble_eq_true rfl⟩ ⟨Nat.le_of_ble_eq_true rfl, Nat.le_of_ble_eq_true rfl⟩ ?_
  show vm_J _ _ _ (30, (0, 0), [.int 2, .int 4, .int 2, .int 0], [.int 1]) (G, I, F) _ _
  refine vm_J.go vm_q150 (k := 7) (hs := [(60, 8, [])]) (f' := (bif vm_ic .ge (0 + 1) 5 then 37 else 12, (0, 0), [.int 2, .int 4, .int 1, .int (0 + 1)], [])) (h' := (G, I, F)) (hs' := []) rfl rfl ?_
  rw [(show (0 + 1 : Int32) = 1 from by decide)]
  refine vm_J.bF (by decide) ?_
  refine vm_J.go vm_q150 (k := 2) (hs := []) (f' := (bif vm_ic .lt 1 0 then 37 else 16, (0, 0), [.int 2, .int 4, .int 1, .int 1], [])) (h' := (G, I, F)) (hs' := []) rfl rfl ?_
  refine vm_J.bF (by decide) ?_
  refine vm_J.go vm_q150 (k := 3) (hs := []) (f' := (bif vm_ic .ne 1 4 then 23 else 21, (0, 0), [.int 2, .int 4, .int 1, .int 1], [])) (h' := (G, I, F)) (hs' := []) rfl rfl ?_
  refine vm_J.bT (by decide) ?_
  refine vm_J.go vm_q150 (k := 2) (hs := []) (f' := (27, (0, 0), [.int 2, .int 4, .int 1, .int 1], [.int 1, .ref 100008])) (h' := (G, I, F)) (hs' := []) rfl rfl ?_
  refine vm_J.call vm_q150 (Z := vm_M152) (n := 2) (k := 1) (mi := 152) (pc := 27) (en := (27, .invokestatic 118, 3, [152, 511, 0], .null)) rfl trivial rfl rfl vm_z152 (av := [.ref 100008, .int 1]) (rest := []) m_at_s8_1 rfl (Nat.le_of_ble_eq_true rfl) ⟨Nat.le_of_ble_eq_true rfl, Nat.le_of_ble_eq_true rfl⟩ ⟨Nat.le_of_ble_eq_true rfl, Nat.le_of_ble_eq_true rfl⟩ ?_
  show vm_J _ _ _ (30, (0, 0), [.int 2, .int 4, .int 1, .int 1], [.int 0]) (G, I, F) _ _
  refine vm_J.go vm_q150 (k := 7) (hs := [(60, 8, [])]) (f' := (bif vm_ic .ge (1 + 1) 5 then 37 else 12, (0, 0), [.int 2, .int 4, .int 0, .int (1 + 1)], [])) (h' := (G, I, F)) (hs' := []) rfl rfl ?_
  rw [(show (1 + 1 : Int32) = 2 from by decide)]
  refine vm_J.bF (by decide) ?_
  refine vm_J.go vm_q150 (k := 2) (hs := []) (f' := (bif vm_ic .lt 0 0 then 37 else 16, (0, 0), [.int 2, .int 4, .int 0, .int 2], [])) (h' := (G, I, F)) (hs' := []) rfl rfl ?_
  refine vm_J.bF (by decide) ?_
  refine vm_J.go vm_q150 (k := 3) (hs := []) (f' := (bif vm_ic .ne 0 4 then 23 else 21, (0, 0), [.int 2, .int 4, .int 0, .int 2], [])) (h' := (G, I, F)) (hs' := []) rfl rfl ?_
  refine vm_J.bT (by decide) ?_
  refine vm_J.go vm_q150 (k := 2) (hs := []) (f' := (27, (0, 0), [.int 2, .int 4, .int 0, .int 2], [.int 0, .ref 100008])) (h' := (G, I, F)) (hs' := []) rfl rfl ?_
  refine vm_J.call vm_q150 (Z := vm_M152) (n := 2) (k := 1) (mi := 152) (pc := 27) (en := (27, .invokestatic 118, 3, [152, 511, 0], .null)) rfl trivial rfl rfl vm_z152 (av := [.ref 100008, .int 0]) (rest := []) m_at_s8_0 rfl (Nat.le_of_ble_eq_true rfl) ⟨Nat.le_of_ble_eq_true rfl, Nat.le_of_ble_eq_true rfl⟩ ⟨Nat.le_of_ble_eq_true rfl, Nat.le_of_ble_eq_true rfl⟩ ?_
  show vm_J _ _ _ (30, (0, 0), [.int 2, .int 4, .int 0, .int 2], [.int (-1)]) (G, I, F) _ _
  refine vm_J.go vm_q150 (k := 7) (hs := [(60, 8, [])]) (f' := (bif vm_ic .ge (2 + 1) 5 then 37 else 12, (0, 0), [.int 2, .int 4, .int (-1), .int (2 + 1)], [])) (h' := (G, I, F)) (hs' := []) rfl rfl ?_
  rw [(show (2 + 1 : Int32) = 3 from by decide)]
  refine vm_J.bF (by decide) ?_
  refine vm_J.go vm_q150 (k := 2) (hs := []) (f' := (bif vm_ic .lt (-1) 0 then 37 else 16, (0, 0), [.int 2, .int 4, .int (-1), .int 3], [])) (h' := (G, I, F)) (hs' := []) rfl rfl ?_
  refine vm_J.bT (by decide) ?_
  refine vm_J.go vm_q150 (k := 1) (hs := []) (f' := (38, (0, 0), [.int 2, .int 4, .int (-1), .int 3], [.int 0])) (h' := (G, I, F)) (hs' := []) rfl rfl ?_
  exact vm_J.end vm_q150 (en := (38, .ireturn, 1, [], .null)) rfl rfl vm_rZ0 (Nat.zero_le _) (Nat.zero_le _) rfl
set_option maxHeartbeats 4000000 in
set_option maxRecDepth 20000 in
/-- DitherDesk.isUnder  -/
theorem m_under_4_0 {l : Launch} {X : vm_Cx} {G : List vm_Sh} {I : Nat → Nat → Int32} {F : Nat → Nat → UInt32}  : vm_K l X vm_M150 [.int 3, .int 0] (G, I, F) (some (.int 1)) (G, I, F) := by
  refine vm_K.mk (by decide) (Nat.le_of_ble_eq_true rfl) ?_
  show vm_J _ _ _ (0, (0, 0), [.int 3, .int 0, .retAddr 0, .retAddr 0], []) _ _ _
  refine vm_J.go vm_q150 (k := 8) (hs := [(60, 8, [])]) (f' := (bif vm_ic .ge 0 5 then 37 else 12, (0, 0), [.int 3, .int 0, .int 3, .int 0], [])) (h' := (G, I, F)) (hs' := []) rfl rfl ?_
  refine vm_J.bF (by decide) ?_
  refine vm_J.go vm_q150 (k := 2) (hs := []) (f' := (bif vm_ic .lt 3 0 then 37 else 16, (0, 0), [.int 3, .int 0, .int 3, .int 0], [])) (h' := (G, I, F)) (hs' := []) rfl rfl ?_
  refine vm_J.bF (by decide) ?_
  refine vm_J.go vm_q150 (k := 3) (hs := []) (f' := (bif vm_ic .ne 3 0 then 23 else 21, (0, 0), [.int 3, .int 0, .int 3, .int 0], [])) (h' := (G, I, F)) (hs' := []) rfl rfl ?_
  refine vm_J.bT (by decide) ?_
  refine vm_J.go vm_q150 (k := 2) (hs := []) (f' := (27, (0, 0), [.int 3, .int 0, .int 3, .int 0], [.int 3, .ref 100008])) (h' := (G, I, F)) (hs' := []) rfl rfl ?_
  refine vm_J.call vm_q150 (Z := vm_M152) (n := 2) (k := 1) (mi := 152) (pc := 27) (en := (27, .invokestatic 118, 3, [152, 511, 0], .null)) rfl trivial rfl rfl vm_z152 (av := [.ref 100008, .int 3]) (rest := []) m_at_s8_3 rfl (Nat.le_of_ble_eq_true rfl) ⟨Nat.le_of_ble_eq_true rfl, Nat.le_of_ble_eq_true rfl⟩ ⟨Nat.le_of_ble_eq_true rfl, Nat.le_of_ble_eq_true rfl⟩ ?_
  show vm_J _ _ _ (30, (0, 0), [.int 3, .int 0, .int 3, .int 0], [.int 0]) (G, I, F) _ _
  refine vm_J.go vm_q150 (k := 7) (hs := [(60, 8, [])]) (f' := (bif vm_ic .ge (0 + 1) 5 then 37 else 12, (0, 0), [.int 3, .int 0, .int 0, .int (0 + 1)], [])) (h' := (G, I, F)) (hs' := []) rfl rfl ?_
  rw [(show (0 + 1 : Int32) = 1 from by decide)]
  refine vm_J.bF (by decide) ?_
  refine vm_J.go vm_q150 (k := 2) (hs := []) (f' := (bif vm_ic .lt 0 0 then 37 else 16, (0, 0), [.int 3, .int 0, .int 0, .int 1], [])) (h' := (G, I, F)) (hs' := []) rfl rfl ?_
  refine vm_J.bF (by decide) ?_
  refine vm_J.go vm_q150 (k := 3) (hs := []) (f' := (bif vm_ic .ne 0 0 then 23 else 21, (0, 0), [.int 3, .int 0, .int 0, .int 1], [])) (h' := (G, I, F)) (hs' := []) rfl rfl ?_
  refine vm_J.bF (by decide) ?_
  refine vm_J.go vm_q150 (k := 1) (hs := []) (f' := (22, (0, 0), [.int 3, .int 0, .int 0, .int 1], [.int 1])) (h' := (G, I, F)) (hs' := []) rfl rfl ?_
  exact vm_J.end vm_q150 (en := (22, .ireturn, 1, [], .null)) rfl rfl vm_rZ1 (Nat.zero_le _) (Nat.zero_le _) rfl
set_option maxHeartbeats 4000000 in
set_option maxRecDepth 20000 in
/-- DitherDesk.isUnder  -/
theorem m_under_4_1 {l : Launch} {X : vm_Cx} {G : List vm_Sh} {I : Nat → Nat → Int32} {F : Nat → Nat → UInt32}  : vm_K l X vm_M150 [.int 3, .int 1] (G, I, F) (some (.int 0)) (G, I, F) := by
  refine vm_K.mk (by decide) (Nat.le_of_ble_eq_true rfl) ?_
  show vm_J _ _ _ (0, (0, 0), [.int 3, .int 1, .retAddr 0, .retAddr 0], []) _ _ _
  refine vm_J.go vm_q150 (k := 8) (hs := [(60, 8, [])]) (f' := (bif vm_ic .ge 0 5 then 37 else 12, (0, 0), [.int 3, .int 1, .int 3, .int 0], [])) (h' := (G, I, F)) (hs' := []) rfl rfl ?_
  refine vm_J.bF (by decide) ?_
  refine vm_J.go vm_q150 (k := 2) (hs := []) (f' := (bif vm_ic .lt 3 0 then 37 else 16, (0, 0), [.int 3, .int 1, .int 3, .int 0], [])) (h' := (G, I, F)) (hs' := []) rfl rfl ?_
  refine vm_J.bF (by decide) ?_
  refine vm_J.go vm_q150 (k := 3) (hs := []) (f' := (bif vm_ic .ne 3 1 then 23 else 21, (0, 0), [.int 3, .int 1, .int 3, .int 0], [])) (h' := (G, I, F)) (hs' := []) rfl rfl ?_
  refine vm_J.bT (by decide) ?_
  refine vm_J.go vm_q150 (k := 2) (hs := []) (f' := (27, (0, 0), [.int 3, .int 1, .int 3, .int 0], [.int 3, .ref 100008])) (h' := (G, I, F)) (hs' := []) rfl rfl ?_
  refine vm_J.call vm_q150 (Z := vm_M152) (n := 2) (k := 1) (mi := 152) (pc := 27) (en := (27, .invokestatic 118, 3, [152, 511, 0], .null)) rfl trivial rfl rfl vm_z152 (av := [.ref 100008, .int 3]) (rest := []) m_at_s8_3 rfl (Nat.le_of_ble_eq_true rfl) ⟨Nat.le_of_ble_eq_true rfl, Nat.le_of_ble_eq_true rfl⟩ ⟨Nat.le_of_ble_eq_true rfl, Nat.le_of_ble_eq_true rfl⟩ ?_
  show vm_J _ _ _ (30, (0, 0), [.int 3, .int 1, .int 3, .int 0], [.int 0]) (G, I, F) _ _
  refine vm_J.go vm_q150 (k := 7) (hs := [(60, 8, [])]) (f' := (bif vm_ic .ge (0 + 1) 5 then 37 else 12, (0, 0), [.int 3, .int 1, .int 0, .int (0 + 1)], [])) (h' := (G, I, F)) (hs' := []) rfl rfl ?_
  rw [(show (0 + 1 : Int32) = 1 from by decide)]
  refine vm_J.bF (by decide) ?_
  refine vm_J.go vm_q150 (k := 2) (hs := []) (f' := (bif vm_ic .lt 0 0 then 37 else 16, (0, 0), [.int 3, .int 1, .int 0, .int 1], [])) (h' := (G, I, F)) (hs' := []) rfl rfl ?_
  refine vm_J.bF (by decide) ?_
  refine vm_J.go vm_q150 (k := 3) (hs := []) (f' := (bif vm_ic .ne 0 1 then 23 else 21, (0, 0), [.int 3, .int 1, .int 0, .int 1], [])) (h' := (G, I, F)) (hs' := []) rfl rfl ?_
  refine vm_J.bT (by decide) ?_
  refine vm_J.go vm_q150 (k := 2) (hs := []) (f' := (27, (0, 0), [.int 3, .int 1, .int 0, .int 1], [.int 0, .ref 100008])) (h' := (G, I, F)) (hs' := []) rfl rfl ?_
  refine vm_J.call vm_q150 (Z := vm_M152) (n := 2) (k := 1) (mi := 152) (pc := 27) (en := (27, .invokestatic 118, 3, [152, 511, 0], .null)) rfl trivial rfl rfl vm_z152 (av := [.ref 100008, .int 0]) (rest := []) m_at_s8_0 rfl (Nat.le_of_ble_eq_true rfl) ⟨Nat.le_of_ble_eq_true rfl, Nat.le_of_ble_eq_true rfl⟩ ⟨Nat.le_of_ble_eq_true rfl, Nat.le_of_ble_eq_true rfl⟩ ?_
  show vm_J _ _ _ (30, (0, 0), [.int 3, .int 1, .int 0, .int 1], [.int (-1)]) (G, I, F) _ _
  refine vm_J.go vm_q150 (k := 7) (hs := [(60, 8, [])]) (f' := (bif vm_ic .ge (1 + 1) 5 then 37 else 12, (0, 0), [.int 3, .int 1, .int (-1), .int (1 + 1)], [])) (h' := (G, I, F)) (hs' := []) rfl rfl ?_
  rw [(show (1 + 1 : Int32) = 2 from by decide)]
  refine vm_J.bF (by decide) ?_
  refine vm_J.go vm_q150 (k := 2) (hs := []) (f' := (bif vm_ic .lt (-1) 0 then 37 else 16, (0, 0), [.int 3, .int 1, .int (-1), .int 2], [])) (h' := (G, I, F)) (hs' := []) rfl rfl ?_
  refine vm_J.bT (by decide) ?_
  refine vm_J.go vm_q150 (k := 1) (hs := []) (f' := (38, (0, 0), [.int 3, .int 1, .int (-1), .int 2], [.int 0])) (h' := (G, I, F)) (hs' := []) rfl rfl ?_
  exact vm_J.end vm_q150 (en := (38, .ireturn, 1, [], .null)) rfl rfl vm_rZ0 (Nat.zero_le _) (Nat.zero_le _) rfl
set_option maxHeartbeats 4000000 in
set_option maxRecDepth 20000 in
/-- DitherDesk.isUnder  -/
theorem m_under_4_2 {l : Launch} {X : vm_Cx} {G : List vm_Sh} {I : Nat → Nat → Int32} {F : Nat → Nat → UInt32}  : vm_K l X vm_M150 [.int 3, .int 2] (G, I, F) (some (.int 0)) (G, I, F) := by
  refine vm_K.mk (by decide) (Nat.le_of_ble_eq_true rfl) ?_
  show vm_J _ _ _ (0, (0, 0), [.int 3, .int 2, .retAddr 0, .retAddr 0], []) _ _ _
  refine vm_J.go vm_q150 (k := 8) (hs := [(60, 8, [])]) (f' := (bif vm_ic .ge 0 5 then 37 else 12, (0, 0), [.int 3, .int 2, .int 3, .int 0], [])) (h' := (G, I, F)) (hs' := []) rfl rfl ?_
  refine vm_J.bF (by decide) ?_
  refine vm_J.go vm_q150 (k := 2) (hs := []) (f' := (bif vm_ic .lt 3 0 then 37 else 16, (0, 0), [.int 3, .int 2, .int 3, .int 0], [])) (h' := (G, I, F)) (hs' := []) rfl rfl ?_
  refine vm_J.bF (by decide) ?_
  refine vm_J.go vm_q150 (k := 3) (hs := []) (f' := (bif vm_ic .ne 3 2 then 23 else 21, (0, 0), [.int 3, .int 2, .int 3, .int 0], [])) (h' := (G, I, F)) (hs' := []) rfl rfl ?_
  refine vm_J.bT (by decide) ?_
  refine vm_J.go vm_q150 (k := 2) (hs := []) (f' := (27, (0, 0), [.int 3, .int 2, .int 3, .int 0], [.int 3, .ref 100008])) (h' := (G, I, F)) (hs' := []) rfl rfl ?_
  refine vm_J.call vm_q150 (Z := vm_M152) (n := 2) (k := 1) (mi := 152) (pc := 27) (en := (27, .invokestatic 118, 3, [152, 511, 0], .null)) rfl trivial rfl rfl vm_z152 (av := [.ref 100008, .int 3]) (rest := []) m_at_s8_3 rfl (Nat.le_of_ble_eq_true rfl) ⟨Nat.le_of_ble_eq_true rfl, Nat.le_of_ble_eq_true rfl⟩ ⟨Nat.le_of_ble_eq_true rfl, Nat.le_of_ble_eq_true rfl⟩ ?_
  show vm_J _ _ _ (30, (0, 0), [.int 3, .int 2, .int 3, .int 0], [.int 0]) (G, I, F) _ _
  refine vm_J.go vm_q150 (k := 7) (hs := [(60, 8, [])]) (f' := (bif vm_ic .ge (0 + 1) 5 then 37 else 12, (0, 0), [.int 3, .int 2, .int 0, .int (0 + 1)], [])) (h' := (G, I, F)) (hs' := []) rfl rfl ?_
  rw [(show (0 + 1 : Int32) = 1 from by decide)]
  refine vm_J.bF (by decide) ?_
  refine vm_J.go vm_q150 (k := 2) (hs := []) (f' := (bif vm_ic .lt 0 0 then 37 else 16, (0, 0), [.int 3, .int 2, .int 0, .int 1], [])) (h' := (G, I, F)) (hs' := []) rfl rfl ?_
  refine vm_J.bF (by decide) ?_
  refine vm_J.go vm_q150 (k := 3) (hs := []) (f' := (bif vm_ic .ne 0 2 then 23 else 21, (0, 0), [.int 3, .int 2, .int 0, .int 1], [])) (h' := (G, I, F)) (hs' := []) rfl rfl ?_
  refine vm_J.bT (by decide) ?_
  refine vm_J.go vm_q150 (k := 2) (hs := []) (f' := (27, (0, 0), [.int 3, .int 2, .int 0, .int 1], [.int 0, .ref 100008])) (h' := (G, I, F)) (hs' := []) rfl rfl ?_
  refine vm_J.call vm_q150 (Z := vm_M152) (n := 2) (k := 1) (mi := 152) (pc := 27) (en := (27, .invokestatic 118, 3, [152, 511, 0], .null)) rfl trivial rfl rfl vm_z152 (av := [.ref 100008, .int 0]) (rest := []) m_at_s8_0 rfl (Nat.le_of_ble_eq_true rfl) ⟨Nat.le_of_ble_eq_true rfl, Nat.le_of_ble_eq_true rfl⟩ ⟨Nat.le_of_ble_eq_true rfl, Nat.le_of_ble_eq_true rfl⟩ ?_
  show vm_J _ _ _ (30, (0, 0), [.int 3, .int 2, .int 0, .int 1], [.int (-1)]) (G, I, F) _ _
  refine vm_J.go vm_q150 (k := 7) (hs := [(60, 8, [])]) (f' := (bif vm_ic .ge (1 + 1) 5 then 37 else 12, (0, 0), [.int 3, .int 2, .int (-1), .int (1 + 1)], [])) (h' := (G, I, F)) (hs' := []) rfl rfl ?_
  rw [(show (1 + 1 : Int32) = 2 from by decide)]
  refine vm_J.bF (by decide) ?_
  refine vm_J.go vm_q150 (k := 2) (hs := []) (f' := (bif vm_ic .lt (-1) 0 then 37 else 16, (0, 0), [.int 3, .int 2, .int (-1), .int 2], [])) (h' := (G, I, F)) (hs' := []) rfl rfl ?_
  refine vm_J.bT (by decide) ?_
  refine vm_J.go vm_q150 (k := 1) (hs := []) (f' := (38, (0, 0), [.int 3, .int 2, .int (-1), .int 2], [.int 0])) (h' := (G, I, F)) (hs' := []) rfl rfl ?_
  exact vm_J.end vm_q150 (en := (38, .ireturn, 1, [], .null)) rfl rfl vm_rZ0 (Nat.zero_le _) (Nat.zero_le _) rfl
set_option maxHeartbeats 4000000 in
set_option maxRecDepth 20000 in
/-- DitherDesk.isUnder  -/
theorem m_under_4_3 {l : Launch} {X : vm_Cx} {G : List vm_Sh} {I : Nat → Nat → Int32} {F : Nat → Nat → UInt32}  : vm_K l X vm_M150 [.int 3, .int 3] (G, I, F) (some (.int 1)) (G, I, F) := by
  refine vm_K.mk (by decide) (Nat.le_of_ble_eq_true rfl) ?_
  show vm_J _ _ _ (0, (0, 0), [.int 3, .int 3, .retAddr 0, .retAddr 0], []) _ _ _
  refine vm_J.go vm_q150 (k := 8) (hs := [(60, 8, [])]) (f' := (bif vm_ic .ge 0 5 then 37 else 12, (0, 0), [.int 3, .int 3, .int 3, .int 0], [])) (h' := (G, I, F)) (hs' := []) rfl rfl ?_
  refine vm_J.bF (by decide) ?_
  refine vm_J.go vm_q150 (k := 2) (hs := []) (f' := (bif vm_ic .lt 3 0 then 37 else 16, (0, 0), [.int 3, .int 3, .int 3, .int 0], [])) (h' := (G, I, F)) (hs' := []) rfl rfl ?_
  refine vm_J.bF (by decide) ?_
  refine vm_J.go vm_q150 (k := 3) (hs := []) (f' := (bif vm_ic .ne 3 3 then 23 else 21, (0, 0), [.int 3, .int 3, .int 3, .int 0], [])) (h' := (G, I, F)) (hs' := []) rfl rfl ?_
  refine vm_J.bF (by decide) ?_
  refine vm_J.go vm_q150 (k := 1) (hs := []) (f' := (22, (0, 0), [.int 3, .int 3, .int 3, .int 0], [.int 1])) (h' := (G, I, F)) (hs' := []) rfl rfl ?_
  exact vm_J.end vm_q150 (en := (22, .ireturn, 1, [], .null)) rfl rfl vm_rZ1 (Nat.zero_le _) (Nat.zero_le _) rfl
set_option maxHeartbeats 4000000 in
set_option maxRecDepth 20000 in
/-- DitherDesk.isUnder  -/
theorem m_under_4_4 {l : Launch} {X : vm_Cx} {G : List vm_Sh} {I : Nat → Nat → Int32} {F : Nat → Nat → UInt32}  : vm_K l X vm_M150 [.int 3, .int 4] (G, I, F) (some (.int 0)) (G, I, F) := by
  refine vm_K.mk (by decide) (Nat.le_of_ble_eq_true rfl) ?_
  show vm_J _ _ _ (0, (0, 0), [.int 3, .int 4, .retAddr 0, .retAddr 0], []) _ _ _
  refine vm_J.go vm_q150 (k := 8) (hs := [(60, 8, [])]) (f' := (bif vm_ic .ge 0 5 then 37 else 12, (0, 0), [.int 3, .int 4, .int 3, .int 0], [])) (h' := (G, I, F)) (hs' := []) rfl rfl ?_
  refine vm_J.bF (by decide) ?_
  refine vm_J.go vm_q150 (k := 2) (hs := []) (f' := (bif vm_ic .lt 3 0 then 37 else 16, (0, 0), [.int 3, .int 4, .int 3, .int 0], [])) (h' := (G, I, F)) (hs' := []) rfl rfl ?_
  refine vm_J.bF (by decide) ?_
  refine vm_J.go vm_q150 (k := 3) (hs := []) (f' := (bif vm_ic .ne 3 4 then 23 else 21, (0, 0), [.int 3, .int 4, .int 3, .int 0], [])) (h' := (G, I, F)) (hs' := []) rfl rfl ?_
  refine vm_J.bT (by decide) ?_
  refine vm_J.go vm_q150 (k := 2) (hs := []) (f' := (27, (0, 0), [.int 3, .int 4, .int 3, .int 0], [.int 3, .ref 100008])) (h' := (G, I, F)) (hs' := []) rfl rfl ?_
  refine vm_J.call vm_q150 (Z := vm_M152) (n := 2) (k := 1) (mi := 152) (pc := 27) (en := (27, .invokestatic 118, 3, [152, 511, 0], .null)) rfl trivial rfl rfl vm_z152 (av := [.ref 100008, .int 3]) (rest := []) m_at_s8_3 rfl (Nat.le_of_ble_eq_true rfl) ⟨Nat.le_of_ble_eq_true rfl, Nat.le_of_ble_eq_true rfl⟩ ⟨Nat.le_of_ble_eq_true rfl, Nat.le_of_ble_eq_true rfl⟩ ?_
  show vm_J _ _ _ (30, (0, 0), [.int 3, .int 4, .int 3, .int 0], [.int 0]) (G, I, F) _ _
  refine vm_J.go vm_q150 (k := 7) (hs := [(60, 8, [])]) (f' := (bif vm_ic .ge (0 + 1) 5 then 37 else 12, (0, 0), [.int 3, .int 4, .int 0, .int (0 + 1)], [])) (h' := (G, I, F)) (hs' := []) rfl rfl ?_
  rw [(show (0 + 1 : Int32) = 1 from by decide)]
  refine vm_J.bF (by decide) ?_
  refine vm_J.go vm_q150 (k := 2) (hs := []) (f' := (bif vm_ic .lt 0 0 then 37 else 16, (0, 0), [.int 3, .int 4, .int 0, .int 1], [])) (h' := (G, I, F)) (hs' := []) rfl rfl ?_
  refine vm_J.bF (by decide) ?_
  refine vm_J.go vm_q150 (k := 3) (hs := []) (f' := (bif vm_ic .ne 0 4 then 23 else 21, (0, 0), [.int 3, .int 4, .int 0, .int 1], [])) (h' := (G, I, F)) (hs' := []) rfl rfl ?_
  refine vm_J.bT (by decide) ?_
  refine vm_J.go vm_q150 (k := 2) (hs := []) (f' := (27, (0, 0), [.int 3, .int 4, .int 0, .int 1], [.int 0, .ref 100008])) (h' := (G, I, F)) (hs' := []) rfl rfl ?_
  refine vm_J.call vm_q150 (Z := vm_M152) (n := 2) (k := 1) (mi := 152) (pc := 27) (en := (27, .invokestatic 118, 3, [152, 511, 0], .null)) rfl trivial rfl rfl vm_z152 (av := [.ref 100008, .int 0]) (rest := []) m_at_s8_0 rfl (Nat.le_of_ble_eq_true rfl) ⟨Nat.le_of_ble_eq_true rfl, Nat.le_of_ble_eq_true rfl⟩ ⟨Nat.le_of_ble_eq_true rfl, Nat.le_of_ble_eq_true rfl⟩ ?_
  show vm_J _ _ _ (30, (0, 0), [.int 3, .int 4, .int 0, .int 1], [.int (-1)]) (G, I, F) _ _
  refine vm_J.go vm_q150 (k := 7) (hs := [(60, 8, [])]) (f' := (bif vm_ic .ge (1 + 1) 5 then 37 else 12, (0, 0), [.int 3, .int 4, .int (-1), .int (1 + 1)], [])) (h' := (G, I, F)) (hs' := []) rfl rfl ?_
  rw [(show (1 + 1 : Int32) = 2 from by decide)]
  refine vm_J.bF (by decide) ?_
  refine vm_J.go vm_q150 (k := 2) (hs := []) (f' := (bif vm_ic .lt (-1) 0 then 37 else 16, (0, 0), [.int 3, .int 4, .int (-1), .int 2], [])) (h' := (G, I, F)) (hs' := []) rfl rfl ?_
  refine vm_J.bT (by decide) ?_
  refine vm_J.go vm_q150 (k := 1) (hs := []) (f' := (38, (0, 0), [.int 3, .int 4, .int (-1), .int 2], [.int 0])) (h' := (G, I, F)) (hs' := []) rfl rfl ?_
  exact vm_J.end vm_q150 (en := (38, .ireturn, 1, [], .null)) rfl rfl vm_rZ0 (Nat.zero_le _) (Nat.zero_le _) rfl
set_option maxHeartbeats 4000000 in
set_option maxRecDepth 20000 in
/-- DitherDesk.isUnder  -/
theorem m_under_5_0 {l : Launch} {X : vm_Cx} {G : List vm_Sh} {I : Nat → Nat → Int32} {F : Nat → Nat → UInt32}  : vm_K l X vm_M150 [.int 4, .int 0] (G, I, F) (some (.int 1)) (G, I, F) := by
  refine vm_K.mk (by decide) (Nat.le_of_ble_eq_true rfl) ?_
  show vm_J _ _ _ (0, (0, 0), [.int 4, .int 0, .retAddr 0, .retAddr 0], []) _ _ _
  refine vm_J.go vm_q150 (k := 8) (hs := [(60, 8, [])]) (f' := (bif vm_ic .ge 0 5 then 37 else 12, (0, 0), [.int 4, .int 0, .int 4, .int 0], [])) (h' := (G, I, F)) (hs' := []) rfl rfl ?_
  refine vm_J.bF (by decide) ?_
  refine vm_J.go vm_q150 (k := 2) (hs := []) (f' := (bif vm_ic .lt 4 0 then 37 else 16, (0, 0), [.int 4, .int 0, .int 4, .int 0], [])) (h' := (G, I, F)) (hs' := []) rfl rfl ?_
  refine vm_J.bF (by decide) ?_
  refine vm_J.go vm_q150 (k := 3) (hs := []) (f' := (bif vm_ic .ne 4 0 then 23 else 21, (0, 0), [.int 4, .int 0, .int 4, .int 0], [])) (h' := (G, I, F)) (hs' := []) rfl rfl ?_
  refine vm_J.bT (by decide) ?_
  refine vm_J.go vm_q150 (k := 2) (hs := []) (f' := (27, (0, 0), [.int 4, .int 0, .int 4, .int 0], [.int 4, .ref 100008])) (h' := (G, I, F)) (hs' := []) rfl rfl ?_
  refine vm_J.call vm_q150 (Z := vm_M152) (n := 2) (k := 1) (mi := 152) (pc := 27) (en := (27, .invokestatic 118, 3, [152, 511, 0], .null)) rfl trivial rfl rfl vm_z152 (av := [.ref 100008, .int 4]) (rest := []) m_at_s8_4 rfl (Nat.le_of_ble_eq_true rfl) ⟨Nat.le_of_ble_eq_true rfl, Nat.le_of_ble_eq_true rfl⟩ ⟨Nat.le_of_ble_eq_true rfl, Nat.le_of_ble_eq_true rfl⟩ ?_
  show vm_J _ _ _ (30, (0, 0), [.int 4, .int 0, .int 4, .int 0], [.int 3]) (G, I, F) _ _
  refine vm_J.go vm_q150 (k := 7) (hs := [(60, 8, [])]) (f' := (bif vm_ic .ge (0 + 1) 5 then 37 else 12, (0, 0), [.int 4, .int 0, .int 3, .int (0 + 1)], [])) (h' := (G, I, F)) (hs' := []) rfl rfl ?_
  rw [(show (0 + 1 : Int32) = 1 from by decide)]
  refine vm_J.bF (by decide) ?_
  refine vm_J.go vm_q150 (k := 2) (hs := []) (f' := (bif vm_ic .lt 3 0 then 37 else 16, (0, 0), [.int 4, .int 0, .int 3, .int 1], [])) (h' := (G, I, F)) (hs' := []) rfl rfl ?_
  refine vm_J.bF (by decide) ?_
  refine vm_J.go vm_q150 (k := 3) (hs := []) (f' := (bif vm_ic .ne 3 0 then 23 else 21, (0, 0), [.int 4, .int 0, .int 3, .int 1], [])) (h' := (G, I, F)) (hs' := []) rfl rfl ?_
  refine vm_J.bT (by decide) ?_
  refine vm_J.go vm_q150 (k := 2) (hs := []) (f' := (27, (0, 0), [.int 4, .int 0, .int 3, .int 1], [.int 3, .ref 100008])) (h' := (G, I, F)) (hs' := []) rfl rfl ?_
  refine vm_J.call vm_q150 (Z := vm_M152) (n := 2) (k := 1) (mi := 152) (pc := 27) (en := (27, .invokestatic 118, 3, [152, 511, 0], .null)) rfl trivial rfl rfl vm_z152 (av := [.ref 100008, .int 3]) (rest := []) m_at_s8_3 rfl (Nat.le_of_ble_eq_true rfl) ⟨Nat.le_of_ble_eq_true rfl, Nat.le_of_ble_eq_true rfl⟩ ⟨Nat.le_of_ble_eq_true rfl, Nat.le_of_ble_eq_true rfl⟩ ?_
  show vm_J _ _ _ (30, (0, 0), [.int 4, .int 0, .int 3, .int 1], [.int 0]) (G, I, F) _ _
  refine vm_J.go vm_q150 (k := 7) (hs := [(60, 8, [])]) (f' := (bif vm_ic .ge (1 + 1) 5 then 37 else 12, (0, 0), [.int 4, .int 0, .int 0, .int (1 + 1)], [])) (h' := (G, I, F)) (hs' := []) rfl rfl ?_
  rw [(show (1 + 1 : Int32) = 2 from by decide)]
  refine vm_J.bF (by decide) ?_
  refine vm_J.go vm_q150 (k := 2) (hs := []) (f' := (bif vm_ic .lt 0 0 then 37 else 16, (0, 0), [.int 4, .int 0, .int 0, .int 2], [])) (h' := (G, I, F)) (hs' := []) rfl rfl ?_
  refine vm_J.bF (by decide) ?_
  refine vm_J.go vm_q150 (k := 3) (hs := []) (f' := (bif vm_ic .ne 0 0 then 23 else 21, (0, 0), [.int 4, .int 0, .int 0, .int 2], [])) (h' := (G, I, F)) (hs' := []) rfl rfl ?_
  refine vm_J.bF (by decide) ?_
  refine vm_J.go vm_q150 (k := 1) (hs := []) (f' := (22, (0, 0), [.int 4, .int 0, .int 0, .int 2], [.int 1])) (h' := (G, I, F)) (hs' := []) rfl rfl ?_
  exact vm_J.end vm_q150 (en := (22, .ireturn, 1, [], .null)) rfl rfl vm_rZ1 (Nat.zero_le _) (Nat.zero_le _) rfl
set_option maxHeartbeats 4000000 in
set_option maxRecDepth 20000 in
/-- DitherDesk.isUnder  -/
theorem m_under_5_1 {l : Launch} {X : vm_Cx} {G : List vm_Sh} {I : Nat → Nat → Int32} {F : Nat → Nat → UInt32}  : vm_K l X vm_M150 [.int 4, .int 1] (G, I, F) (some (.int 0)) (G, I, F) := by
  refine vm_K.mk (by decide) (Nat.le_of_ble_eq_true rfl) ?_
  show vm_J _ _ _ (0, (0, 0), [.int 4, .int 1, .retAddr 0, .retAddr 0], []) _ _ _
  refine vm_J.go vm_q150 (k := 8) (hs := [(60, 8, [])]) (f' := (bif vm_ic .ge 0 5 then 37 else 12, (0, 0), [.int 4, .int 1, .int 4, .int 0], [])) (h' := (G, I, F)) (hs' := []) rfl rfl ?_
  refine vm_J.bF (by decide) ?_
  refine vm_J.go vm_q150 (k := 2) (hs := []) (f' := (bif vm_ic .lt 4 0 then 37 else 16, (0, 0), [.int 4, .int 1, .int 4, .int 0], [])) (h' := (G, I, F)) (hs' := []) rfl rfl ?_
  refine vm_J.bF (by decide) ?_
  refine vm_J.go vm_q150 (k := 3) (hs := []) (f' := (bif vm_ic .ne 4 1 then 23 else 21, (0, 0), [.int 4, .int 1, .int 4, .int 0], [])) (h' := (G, I, F)) (hs' := []) rfl rfl ?_
  refine vm_J.bT (by decide) ?_
  refine vm_J.go vm_q150 (k := 2) (hs := []) (f' := (27, (0, 0), [.int 4, .int 1, .int 4, .int 0], [.int 4, .ref 100008])) (h' := (G, I, F)) (hs' := []) rfl rfl ?_
  refine vm_J.call vm_q150 (Z := vm_M152) (n := 2) (k := 1) (mi := 152) (pc := 27) (en := (27, .invokestatic 118, 3, [152, 511, 0], .null)) rfl trivial rfl rfl vm_z152 (av := [.ref 100008, .int 4]) (rest := []) m_at_s8_4 rfl (Nat.le_of_ble_eq_true rfl) ⟨Nat.le_of_ble_eq_true rfl, Nat.le_of_ble_eq_true rfl⟩ ⟨Nat.le_of_ble_eq_true rfl, Nat.le_of_ble_eq_true rfl⟩ ?_
  show vm_J _ _ _ (30, (0, 0), [.int 4, .int 1, .int 4, .int 0], [.int 3]) (G, I, F) _ _
  refine vm_J.go vm_q150 (k := 7) (hs := [(60, 8, [])]) (f' := (bif vm_ic .ge (0 + 1) 5 then 37 else 12, (0, 0), [.int 4, .int 1, .int 3, .int (0 + 1)], [])) (h' := (G, I, F)) (hs' := []) rfl rfl ?_
  rw [(show (0 + 1 : Int32) = 1 from by decide)]
  refine vm_J.bF (by decide) ?_
  refine vm_J.go vm_q150 (k := 2) (hs := []) (f' := (bif vm_ic .lt 3 0 then 37 else 16, (0, 0), [.int 4, .int 1, .int 3, .int 1], [])) (h' := (G, I, F)) (hs' := []) rfl rfl ?_
  refine vm_J.bF (by decide) ?_
  refine vm_J.go vm_q150 (k := 3) (hs := []) (f' := (bif vm_ic .ne 3 1 then 23 else 21, (0, 0), [.int 4, .int 1, .int 3, .int 1], [])) (h' := (G, I, F)) (hs' := []) rfl rfl ?_
  refine vm_J.bT (by decide) ?_
  refine vm_J.go vm_q150 (k := 2) (hs := []) (f' := (27, (0, 0), [.int 4, .int 1, .int 3, .int 1], [.int 3, .ref 100008])) (h' := (G, I, F)) (hs' := []) rfl rfl ?_
  refine vm_J.call vm_q150 (Z := vm_M152) (n := 2) (k := 1) (mi := 152) (pc := 27) (en := (27, .invokestatic 118, 3, [152, 511, 0], .null)) rfl trivial rfl rfl vm_z152 (av := [.ref 100008, .int 3]) (rest := []) m_at_s8_3 rfl (Nat.le_of_ble_eq_true rfl) ⟨Nat.le_of_ble_eq_true rfl, Nat.le_of_ble_eq_true rfl⟩ ⟨Nat.le_of_ble_eq_true rfl, Nat.le_of_ble_eq_true rfl⟩ ?_
  show vm_J _ _ _ (30, (0, 0), [.int 4, .int 1, .int 3, .int 1], [.int 0]) (G, I, F) _ _
  refine vm_J.go vm_q150 (k := 7) (hs := [(60, 8, [])]) (f' := (bif vm_ic .ge (1 + 1) 5 then 37 else 12, (0, 0), [.int 4, .int 1, .int 0, .int (1 + 1)], [])) (h' := (G, I, F)) (hs' := []) rfl rfl ?_
  rw [(show (1 + 1 : Int32) = 2 from by decide)]
  refine vm_J.bF (by decide) ?_
  refine vm_J.go vm_q150 (k := 2) (hs := []) (f' := (bif vm_ic .lt 0 0 then 37 else 16, (0, 0), [.int 4, .int 1, .int 0, .int 2], [])) (h' := (G, I, F)) (hs' := []) rfl rfl ?_
  refine vm_J.bF (by decide) ?_
  refine vm_J.go vm_q150 (k := 3) (hs := []) (f' := (bif vm_ic .ne 0 1 then 23 else 21, (0, 0), [.int 4, .int 1, .int 0, .int 2], [])) (h' := (G, I, F)) (hs' := []) rfl rfl ?_
  refine vm_J.bT (by decide) ?_
  refine vm_J.go vm_q150 (k := 2) (hs := []) (f' := (27, (0, 0), [.int 4, .int 1, .int 0, .int 2], [.int 0, .ref 100008])) (h' := (G, I, F)) (hs' := []) rfl rfl ?_
  refine vm_J.call vm_q150 (Z := vm_M152) (n := 2) (k := 1) (mi := 152) (pc := 27) (en := (27, .invokestatic 118, 3, [152, 511, 0], .null)) rfl trivial rfl rfl vm_z152 (av := [.ref 100008, .int 0]) (rest := []) m_at_s8_0 rfl (Nat.le_of_ble_eq_true rfl) ⟨Nat.le_of_ble_eq_true rfl, Nat.le_of_ble_eq_true rfl⟩ ⟨Nat.le_of_ble_eq_true rfl, Nat.le_of_ble_eq_true rfl⟩ ?_
  show vm_J _ _ _ (30, (0, 0), [.int 4, .int 1, .int 0, .int 2], [.int (-1)]) (G, I, F) _ _
  refine vm_J.go vm_q150 (k := 7) (hs := [(60, 8, [])]) (f' := (bif vm_ic .ge (2 + 1) 5 then 37 else 12, (0, 0), [.int 4, .int 1, .int (-1), .int (2 + 1)], [])) (h' := (G, I, F)) (hs' := []) rfl rfl ?_
  rw [(show (2 + 1 : Int32) = 3 from by decide)]
  refine vm_J.bF (by decide) ?_
  refine vm_J.go vm_q150 (k := 2) (hs := []) (f' := (bif vm_ic .lt (-1) 0 then 37 else 16, (0, 0), [.int 4, .int 1, .int (-1), .int 3], [])) (h' := (G, I, F)) (hs' := []) rfl rfl ?_
  refine vm_J.bT (by decide) ?_
  refine vm_J.go vm_q150 (k := 1) (hs := []) (f' := (38, (0, 0), [.int 4, .int 1, .int (-1), .int 3], [.int 0])) (h' := (G, I, F)) (hs' := []) rfl rfl ?_
  exact vm_J.end vm_q150 (en := (38, .ireturn, 1, [], .null)) rfl rfl vm_rZ0 (Nat.zero_le _) (Nat.zero_le _) rfl
set_option maxHeartbeats 4000000 in
set_option maxRecDepth 20000 in
/-- DitherDesk.isUnder  -/
theorem m_under_5_2 {l : Launch} {X : vm_Cx} {G : List vm_Sh} {I : Nat → Nat → Int32} {F : Nat → Nat → UInt32}  : vm_K l X vm_M150 [.int 4, .int 2] (G, I, F) (some (.int 0)) (G, I, F) := by
  refine vm_K.mk (by decide) (Nat.le_of_ble_eq_true rfl) ?_
  show vm_J _ _ _ (0, (0, 0), [.int 4, .int 2, .retAddr 0, .retAddr 0], []) _ _ _
  refine vm_J.go vm_q150 (k := 8) (hs := [(60, 8, [])]) (f' := (bif vm_ic .ge 0 5 then 37 else 12, (0, 0), [.int 4, .int 2, .int 4, .int 0], [])) (h' := (G, I, F)) (hs' := []) rfl rfl ?_
  refine vm_J.bF (by decide) ?_
  refine vm_J.go vm_q150 (k := 2) (hs := []) (f' := (bif vm_ic .lt 4 0 then 37 else 16, (0, 0), [.int 4, .int 2, .int 4, .int 0], [])) (h' := (G, I, F)) (hs' := []) rfl rfl ?_
  refine vm_J.bF (by decide) ?_
  refine vm_J.go vm_q150 (k := 3) (hs := []) (f' := (bif vm_ic .ne 4 2 then 23 else 21, (0, 0), [.int 4, .int 2, .int 4, .int 0], [])) (h' := (G, I, F)) (hs' := []) rfl rfl ?_
  refine vm_J.bT (by decide) ?_
  refine vm_J.go vm_q150 (k := 2) (hs := []) (f' := (27, (0, 0), [.int 4, .int 2, .int 4, .int 0], [.int 4, .ref 100008])) (h' := (G, I, F)) (hs' := []) rfl rfl ?_
  refine vm_J.call vm_q150 (Z := vm_M152) (n := 2) (k := 1) (mi := 152) (pc := 27) (en := (27, .invokestatic 118, 3, [152, 511, 0], .null)) rfl trivial rfl rfl vm_z152 (av := [.ref 100008, .int 4]) (rest := []) m_at_s8_4 rfl (Nat.le_of_ble_eq_true rfl) ⟨Nat.le_of_ble_eq_true rfl, Nat.le_of_ble_eq_true rfl⟩ ⟨Nat.le_of_ble_eq_true rfl, Nat.le_of_ble_eq_true rfl⟩ ?_
  show vm_J _ _ _ (30, (0, 0), [.int 4, .int 2, .int 4, .int 0], [.int 3]) (G, I, F) _ _
  refine vm_J.go vm_q150 (k := 7) (hs := [(60, 8, [])]) (f' := (bif vm_ic .ge (0 + 1) 5 then 37 else 12, (0, 0), [.int 4, .int 2, .int 3, .int (0 + 1)], [])) (h' := (G, I, F)) (hs' := []) rfl rfl ?_
  rw [(show (0 + 1 : Int32) = 1 from by decide)]
  refine vm_J.bF (by decide) ?_
  refine vm_J.go vm_q150 (k := 2) (hs := []) (f' := (bif vm_ic .lt 3 0 then 37 else 16, (0, 0), [.int 4, .int 2, .int 3, .int 1], [])) (h' := (G, I, F)) (hs' := []) rfl rfl ?_
  refine vm_J.bF (by decide) ?_
  refine vm_J.go vm_q150 (k := 3) (hs := []) (f' := (bif vm_ic .ne 3 2 then 23 else 21, (0, 0), [.int 4, .int 2, .int 3, .int 1], [])) (h' := (G, I, F)) (hs' := []) rfl rfl ?_
  refine vm_J.bT (by decide) ?_
  refine vm_J.go vm_q150 (k := 2) (hs := []) (f' := (27, (0, 0), [.int 4, .int 2, .int 3, .int 1], [.int 3, .ref 100008])) (h' := (G, I, F)) (hs' := []) rfl rfl ?_
  refine vm_J.call vm_q150 (Z := vm_M152) (n := 2) (k := 1) (mi := 152) (pc := 27) (en := (27, .invokestatic 118, 3, [152, 511, 0], .null)) rfl trivial rfl rfl vm_z152 (av := [.ref 100008, .int 3]) (rest := []) m_at_s8_3 rfl (Nat.le_of_ble_eq_true rfl) ⟨Nat.le_of_ble_eq_true rfl, Nat.le_of_ble_eq_true rfl⟩ ⟨Nat.le_of_ble_eq_true rfl, Nat.le_of_ble_eq_true rfl⟩ ?_
  show vm_J _ _ _ (30, (0, 0), [.int 4, .int 2, .int 3, .int 1], [.int 0]) (G, I, F) _ _
  refine vm_J.go vm_q150 (k := 7) (hs := [(60, 8, [])]) (f' := (bif vm_ic .ge (1 + 1) 5 then 37 else 12, (0, 0), [.int 4, .int 2, .int 0, .int (1 + 1)], [])) (h' := (G, I, F)) (hs' := []) rfl rfl ?_
  rw [(show (1 + 1 : Int32) = 2 from by decide)]
  refine vm_J.bF (by decide) ?_
  refine vm_J.go vm_q150 (k := 2) (hs := []) (f' := (bif vm_ic .lt 0 0 then 37 else 16, (0, 0), [.int 4, .int 2, .int 0, .int 2], [])) (h' := (G, I, F)) (hs' := []) rfl rfl ?_
  refine vm_J.bF (by decide) ?_
  refine vm_J.go vm_q150 (k := 3) (hs := []) (f' := (bif vm_ic .ne 0 2 then 23 else 21, (0, 0), [.int 4, .int 2, .int 0, .int 2], [])) (h' := (G, I, F)) (hs' := []) rfl rfl ?_
  refine vm_J.bT (by decide) ?_
  refine vm_J.go vm_q150 (k := 2) (hs := []) (f' := (27, (0, 0), [.int 4, .int 2, .int 0, .int 2], [.int 0, .ref 100008])) (h' := (G, I, F)) (hs' := []) rfl rfl ?_
  refine vm_J.call vm_q150 (Z := vm_M152) (n := 2) (k := 1) (mi := 152) (pc := 27) (en := (27, .invokestatic 118, 3, [152, 511, 0], .null)) rfl trivial rfl rfl vm_z152 (av := [.ref 100008, .int 0]) (rest := []) m_at_s8_0 rfl (Nat.le_of_ble_eq_true rfl) ⟨Nat.le_of_ble_eq_true rfl, Nat.le_of_ble_eq_true rfl⟩ ⟨Nat.le_of_ble_eq_true rfl, Nat.le_of_ble_eq_true rfl⟩ ?_
  show vm_J _ _ _ (30, (0, 0), [.int 4, .int 2, .int 0, .int 2], [.int (-1)]) (G, I, F) _ _
  refine vm_J.go vm_q150 (k := 7) (hs := [(60, 8, [])]) (f' := (bif vm_ic .ge (2 + 1) 5 then 37 else 12, (0, 0), [.int 4, .int 2, .int (-1), .int (2 + 1)], [])) (h' := (G, I, F)) (hs' := []) rfl rfl ?_
  rw [(show (2 + 1 : Int32) = 3 from by decide)]
  refine vm_J.bF (by decide) ?_
  refine vm_J.go vm_q150 (k := 2) (hs := []) (f' := (bif vm_ic .lt (-1) 0 then 37 else 16, (0, 0), [.int 4, .int 2, .int (-1), .int 3], [])) (h' := (G, I, F)) (hs' := []) rfl rfl ?_
  refine vm_J.bT (by decide) ?_
  refine vm_J.go vm_q150 (k := 1) (hs := []) (f' := (38, (0, 0), [.int 4, .int 2, .int (-1), .int 3], [.int 0])) (h' := (G, I, F)) (hs' := []) rfl rfl ?_
  exact vm_J.end vm_q150 (en := (38, .ireturn, 1, [], .null)) rfl rfl vm_rZ0 (Nat.zero_le _) (Nat.zero_le _) rfl
set_option maxHeartbeats 4000000 in
set_option maxRecDepth 20000 in
/-- DitherDesk.isUnder  -/
theorem m_under_5_3 {l : Launch} {X : vm_Cx} {G : List vm_Sh} {I : Nat → Nat → Int32} {F : Nat → Nat → UInt32}  : vm_K l X vm_M150 [.int 4, .int 3] (G, I, F) (some (.int 1)) (G, I, F) := by
  refine vm_K.mk (by decide) (Nat.le_of_ble_eq_true rfl) ?_
  show vm_J _ _ _ (0, (0, 0), [.int 4, .int 3, .retAddr 0, .retAddr 0], []) _ _ _
  refine vm_J.go vm_q150 (k := 8) (hs := [(60, 8, [])]) (f' := (bif vm_ic .ge 0 5 then 37 else 12, (0, 0), [.int 4, .int 3, .int 4, .int 0], [])) (h' := (G, I, F)) (hs' := []) rfl rfl ?_
  refine vm_J.bF (by decide) ?_
  refine vm_J.go vm_q150 (k := 2) (hs := []) (f' := (bif vm_ic .lt 4 0 then 37 else 16, (0, 0), [.int 4, .int 3, .int 4, .int 0], [])) (h' := (G, I, F)) (hs' := []) rfl rfl ?_
  refine vm_J.bF (by decide) ?_
  refine vm_J.go vm_q150 (k := 3) (hs := []) (f' := (bif vm_ic .ne 4 3 then 23 else 21, (0, 0), [.int 4, .int 3, .int 4, .int 0], [])) (h' := (G, I, F)) (hs' := []) rfl rfl ?_
  refine vm_J.bT (by decide) ?_
  refine vm_J.go vm_q150 (k := 2) (hs := []) (f' := (27, (0, 0), [.int 4, .int 3, .int 4, .int 0], [.int 4, .ref 100008])) (h' := (G, I, F)) (hs' := []) rfl rfl ?_
  refine vm_J.call vm_q150 (Z := vm_M152) (n := 2) (k := 1) (mi := 152) (pc := 27) (en := (27, .invokestatic 118, 3, [152, 511, 0], .null)) rfl trivial rfl rfl vm_z152 (av := [.ref 100008, .int 4]) (rest := []) m_at_s8_4 rfl (Nat.le_of_ble_eq_true rfl) ⟨Nat.le_of_ble_eq_true rfl, Nat.le_of_ble_eq_true rfl⟩ ⟨Nat.le_of_ble_eq_true rfl, Nat.le_of_ble_eq_true rfl⟩ ?_
  show vm_J _ _ _ (30, (0, 0), [.int 4, .int 3, .int 4, .int 0], [.int 3]) (G, I, F) _ _
  refine vm_J.go vm_q150 (k := 7) (hs := [(60, 8, [])]) (f' := (bif vm_ic .ge (0 + 1) 5 then 37 else 12, (0, 0), [.int 4, .int 3, .int 3, .int (0 + 1)], [])) (h' := (G, I, F)) (hs' := []) rfl rfl ?_
  rw [(show (0 + 1 : Int32) = 1 from by decide)]
  refine vm_J.bF (by decide) ?_
  refine vm_J.go vm_q150 (k := 2) (hs := []) (f' := (bif vm_ic .lt 3 0 then 37 else 16, (0, 0), [.int 4, .int 3, .int 3, .int 1], [])) (h' := (G, I, F)) (hs' := []) rfl rfl ?_
  refine vm_J.bF (by decide) ?_
  refine vm_J.go vm_q150 (k := 3) (hs := []) (f' := (bif vm_ic .ne 3 3 then 23 else 21, (0, 0), [.int 4, .int 3, .int 3, .int 1], [])) (h' := (G, I, F)) (hs' := []) rfl rfl ?_
  refine vm_J.bF (by decide) ?_
  refine vm_J.go vm_q150 (k := 1) (hs := []) (f' := (22, (0, 0), [.int 4, .int 3, .int 3, .int 1], [.int 1])) (h' := (G, I, F)) (hs' := []) rfl rfl ?_
  exact vm_J.end vm_q150 (en := (22, .ireturn, 1, [], .null)) rfl rfl vm_rZ1 (Nat.zero_le _) (Nat.zero_le _) rfl
set_option maxHeartbeats 4000000 in
set_option maxRecDepth 20000 in
/-- DitherDesk.isUnder  -/
theorem m_under_5_4 {l : Launch} {X : vm_Cx} {G : List vm_Sh} {I : Nat → Nat → Int32} {F : Nat → Nat → UInt32}  : vm_K l X vm_M150 [.int 4, .int 4] (G, I, F) (some (.int 1)) (G, I, F) := by
  refine vm_K.mk (by decide) (Nat.le_of_ble_eq_true rfl) ?_
  show vm_J _ _ _ (0, (0, 0), [.int 4, .int 4, .retAddr 0, .retAddr 0], []) _ _ _
  refine vm_J.go vm_q150 (k := 8) (hs := [(60, 8, [])]) (f' := (bif vm_ic .ge 0 5 then 37 else 12, (0, 0), [.int 4, .int 4, .int 4, .int 0], [])) (h' := (G, I, F)) (hs' := []) rfl rfl ?_
  refine vm_J.bF (by decide) ?_
  refine vm_J.go vm_q150 (k := 2) (hs := []) (f' := (bif vm_ic .lt 4 0 then 37 else 16, (0, 0), [.int 4, .int 4, .int 4, .int 0], [])) (h' := (G, I, F)) (hs' := []) rfl rfl ?_
  refine vm_J.bF (by decide) ?_
  refine vm_J.go vm_q150 (k := 3) (hs := []) (f' := (bif vm_ic .ne 4 4 then 23 else 21, (0, 0), [.int 4, .int 4, .int 4, .int 0], [])) (h' := (G, I, F)) (hs' := []) rfl rfl ?_
  refine vm_J.bF (by decide) ?_
  refine vm_J.go vm_q150 (k := 1) (hs := []) (f' := (22, (0, 0), [.int 4, .int 4, .int 4, .int 0], [.int 1])) (h' := (G, I, F)) (hs' := []) rfl rfl ?_
  exact vm_J.end vm_q150 (en := (22, .ireturn, 1, [], .null)) rfl rfl vm_rZ1 (Nat.zero_le _) (Nat.zero_le _) rfl
