/-- THE LAW'S LOOP -/
theorem lq_tw (lo : Int) (ts : List Nat) (d : Nat) (x : Int32) : vm_tw lo ts d x = d ∨ vm_tw lo ts d x ∈ ts := by
  unfold vm_tw
  split
  · exact Or.inl rfl
  · split
    · next t h => exact Or.inr (List.mem_of_getElem? h)
    · exact Or.inl rfl
theorem lq_in {k j s : Nat} (h : k + j < s) (hs : s ≤ 3072) {b : Int32} (hb : b = nI j) : vm_in (nI k + b) s = true := by
  subst hb
  refine vm_in_e (j := k + j) ?_ h (by omega)
  unfold nI
  exact (Int32.ofNat_add k j).symm
theorem lq_gt {k s : Nat} (hk : k ≤ 4000) (hs : s ≤ 4000) : vm_ic .gt (nI k) (Int32.ofNat s - 6) = decide (s < k + 6) := by
  have h1 : (nI k).toInt = (k : Int) := nI_toInt (by omega)
  have h2 : (Int32.ofNat s).toInt = (s : Int) := nI_toInt (n := s) (by omega)
  have h3 : (Int32.ofNat s - 6).toInt = (s : Int) - 6 := by
    rw [Int32.toInt_sub, h2, show (6 : Int32).toInt = 6 from rfl, Int.bmod_eq_of_le (by omega) (by omega)]
  refine decide_eq_decide.mpr ?_
  rw [Int32.lt_iff_toInt_lt, h3, h1]
  omega
theorem lq_step {nm : String} {l : Launch} {X : vm_Cx} {G : List vm_Sh} {I : vm_IH} {F : vm_FH} {i : Int32} (hD : vm_isD G) (hR : vm_isR G) (h : Rel I F) (hb : lq_b X i) (hk : lq_K nm l X i G) : lq_N nm l X 27 i G I F := by
  have hOK : vm_OK (lq_M nm vm_Le0) := lq_ok vm_Lf0 rfl
  have e := lq_tw 0 [232, 275, 328, 361, 404, 447, 480, 513, 546, 590, 643, 676, 709, 752, 811, 854, 877, 900, 943, 986, 1019, 1052, 1085, 1128, 1171, 1214, 1238, 1261, 1284, 1327, 1370, 1413, 1457, 1500, 1533, 1556, 1589, 1602, 1635, 1648, 1661, 1684, 1727, 1800, 1834, 1867] 1930 (vm_sx X i.toNatClampNeg &&& 63)
  obtain ⟨t, ht⟩ : ∃ t, t = vm_tw 0 [232, 275, 328, 361, 404, 447, 480, 513, 546, 590, 643, 676, 709, 752, 811, 854, 877, 900, 943, 986, 1019, 1052, 1085, 1128, 1171, 1214, 1238, 1261, 1284, 1327, 1370, 1413, 1457, 1500, 1533, 1556, 1589, 1602, 1635, 1648, 1661, 1684, 1727, 1800, 1834, 1867] 1930 (vm_sx X i.toNatClampNeg &&& 63) := ⟨_, rfl⟩
  rw [← ht] at e
  have hN : lq_N nm l X t i G I F := by
    rcases e with rfl | e
    · exact hk I F h
    · simp only [List.mem_cons, List.not_mem_nil, or_false] at e
      rcases e with rfl | rfl | rfl | rfl | rfl | rfl | rfl | rfl | rfl | rfl | rfl | rfl | rfl | rfl | rfl | rfl | rfl | rfl | rfl | rfl | rfl | rfl | rfl | rfl | rfl | rfl | rfl | rfl | rfl | rfl | rfl | rfl | rfl | rfl | rfl | rfl | rfl | rfl | rfl | rfl | rfl | rfl | rfl | rfl | rfl | rfl
      · exact lc_0 hD hR h hb hk
      · exact lc_1 hD hR h hb hk
      · exact lc_2 hD hR h hb hk
      · exact lc_3 hD hR h hb hk
      · exact lc_4 hD hR h hb hk
      · exact lc_5 hD hR h hb hk
      · exact lc_6 hD hR h hb hk
      · exact lc_7 hD hR h hb hk
      · exact lc_8 hD hR h hb hk
      · exact lc_9 hD hR h hb hk
      · exact lc_10 hD hR h hb hk
      · exact lc_11 hD hR h hb hk
      · exact lc_12 hD hR h hb hk
      · exact lc_13 hD hR h hb hk
      · exact lc_14 hD hR h hb hk
      · exact lc_15 hD hR h hb hk
      · exact lc_16 hD hR h hb hk
      · exact lc_17 hD hR h hb hk
      · exact lc_18 hD hR h hb hk
      · exact lc_19 hD hR h hb hk
      · exact lc_20 hD hR h hb hk
      · exact lc_21 hD hR h hb hk
      · exact lc_22 hD hR h hb hk
      · exact lc_23 hD hR h hb hk
      · exact lc_24 hD hR h hb hk
      · exact lc_25 hD hR h hb hk
      · exact lc_26 hD hR h hb hk
      · exact lc_27 hD hR h hb hk
      · exact lc_28 hD hR h hb hk
      · exact lc_29 hD hR h hb hk
      · exact lc_30 hD hR h hb hk
      · exact lc_31 hD hR h hb hk
      · exact lc_32 hD hR h hb hk
      · exact lc_33 hD hR h hb hk
      · exact lc_34 hD hR h hb hk
      · exact lc_35 hD hR h hb hk
      · exact lc_36 hD hR h hb hk
      · exact lc_37 hD hR h hb hk
      · exact lc_38 hD hR h hb hk
      · exact lc_39 hD hR h hb hk
      · exact lc_40 hD hR h hb hk
      · exact lc_41 hD hR h hb hk
      · exact lc_42 hD hR h hb hk
      · exact lc_43 hD hR h hb hk
      · exact lc_44 hD hR h hb hk
      · exact lc_45 hD hR h hb hk
  obtain ⟨h', hj⟩ := hN
  refine ⟨h', ?_⟩
  rw [ht] at hj
  exact vm_J.go (M := lq_M nm vm_Le0) hOK (k := 6) (hs := [(61, 0, [])]) (f' := (vm_tw 0 [232, 275, 328, 361, 404, 447, 480, 513, 546, 590, 643, 676, 709, 752, 811, 854, 877, 900, 943, 986, 1019, 1052, 1085, 1128, 1171, 1214, 1238, 1261, 1284, 1327, 1370, 1413, 1457, 1500, 1533, 1556, 1589, 1602, 1635, 1648, 1661, 1684, 1727, 1800, 1834, 1867] 1930 (vm_sx X i.toNatClampNeg &&& 63), (194, 13271), [.ref 100018, .ref 0, .ref 152, .int i], [])) (h' := (G, I, F)) (hs' := []) rfl (vm_b2 rfl (vm_b2 rfl (vm_b2 (vm_b2 rfl hb.1) (vm_b2 rfl (vm_b2 rfl (vm_b2 rfl rfl)))))) hj
theorem lq_fin {nm : String} {l : Launch} {X : vm_Cx} {G : List vm_Sh} {I : vm_IH} {F : vm_FH} {i : Int32} : lq_N nm l X 1936 i G I F := by
  have hOK : vm_OK (lq_M nm vm_Le28) := lq_ok vm_Lf28 rfl
  refine ⟨(G, I, F), ?_⟩
  refine vm_J.go (M := lq_M nm vm_Le28) hOK (k := 1) (hs := []) (f' := (1937, (194, 13271), [.ref 100018, .ref 0, .ref 152, .int i], [.int 1])) (h' := (G, I, F)) (hs' := []) rfl rfl ?_
  exact vm_J.ret (M := lq_M nm vm_Le28) hOK (en := (1937, .ireturn, 1, [], .null)) rfl (by first | exact Or.inr ⟨rfl, Or.inr rfl⟩ | exact Or.inl rfl) rfl (Nat.le_of_ble_eq_true rfl) (Nat.le_of_ble_eq_true rfl)
theorem lq_loop {nm : String} {l : Launch} {X : vm_Cx} {G : List vm_Sh} (hs : vm_sl X ≤ 3072) (hD : vm_isD G) (hR : vm_isR G) : ∀ (n k : Nat) (I : vm_IH) (F : vm_FH), Rel I F → k ≤ 3078 → vm_sl X < k + 6 * n + 6 → lq_N nm l X 18 (nI k) G I F
  | 0, k, I, F, h, hk, hn => by
    obtain ⟨h', hj⟩ := lq_fin (nm := nm) (l := l) (X := X) (G := G) (I := I) (F := F) (i := nI k)
    refine ⟨h', ?_⟩
    refine vm_J.go (M := lq_M nm vm_Le0) (lq_ok vm_Lf0 rfl) (k := 6) (hs := [(61, 0, [])]) (f' := (bif vm_ic .gt (nI k) (Int32.ofNat (vm_sl X) - 6) then 1936 else 27, (194, 13271), [.ref 100018, .ref 0, .ref 152, .int (nI k)], [])) (h' := (G, I, F)) (hs' := []) rfl rfl (vm_J.bT ?_ hj)
    rw [lq_gt (by omega) (by omega)]
    exact decide_eq_true (by omega)
  | n + 1, k, I, F, h, hk, hn => by
    by_cases hc : vm_sl X < k + 6
    · obtain ⟨h', hj⟩ := lq_fin (nm := nm) (l := l) (X := X) (G := G) (I := I) (F := F) (i := nI k)
      refine ⟨h', ?_⟩
      refine vm_J.go (M := lq_M nm vm_Le0) (lq_ok vm_Lf0 rfl) (k := 6) (hs := [(61, 0, [])]) (f' := (bif vm_ic .gt (nI k) (Int32.ofNat (vm_sl X) - 6) then 1936 else 27, (194, 13271), [.ref 100018, .ref 0, .ref 152, .int (nI k)], [])) (h' := (G, I, F)) (hs' := []) rfl rfl (vm_J.bT ?_ hj)
      rw [lq_gt (by omega) (by omega)]
      exact decide_eq_true hc
    · have hb : lq_b X (nI k) := ⟨vm_in_n (by omega) (by omega), lq_in (j := 1) (by omega) hs rfl, lq_in (j := 2) (by omega) hs rfl, lq_in (j := 3) (by omega) hs rfl, lq_in (j := 4) (by omega) hs rfl, lq_in (j := 5) (by omega) hs rfl⟩
      have hK : lq_K nm l X (nI k) G := fun I2 F2 h2 => by
        obtain ⟨h', hj⟩ := lq_loop (nm := nm) hs hD hR n (k + 6) I2 F2 h2 (by omega) (by omega)
        refine ⟨h', ?_⟩
        refine vm_J.go (M := lq_M nm vm_Le28) (lq_ok vm_Lf28 rfl) (k := 2) (hs := []) (f' := (18, (194, 13271), [.ref 100018, .ref 0, .ref 152, .int (nI k + 6)], [])) (h' := (G, I2, F2)) (hs' := []) rfl rfl ?_
        rw [show nI k + 6 = nI (k + 6) from (Int32.ofNat_add k 6).symm]
        exact hj
      obtain ⟨h', hj⟩ := lq_step hD hR h hb hK
      refine ⟨h', ?_⟩
      refine vm_J.go (M := lq_M nm vm_Le0) (lq_ok vm_Lf0 rfl) (k := 6) (hs := [(61, 0, [])]) (f' := (bif vm_ic .gt (nI k) (Int32.ofNat (vm_sl X) - 6) then 1936 else 27, (194, 13271), [.ref 100018, .ref 0, .ref 152, .int (nI k)], [])) (h' := (G, I, F)) (hs' := []) rfl rfl (vm_J.bF ?_ hj)
      rw [lq_gt (by omega) (by omega)]
      exact decide_eq_false hc
def lq_h0 : vm_H := ([], fun _ _ => 0, fun _ _ => 0)
/-- THE LAW RUNS -/
theorem lq_law (nm : String) (l : Launch) (X : vm_Cx) (hs : vm_sl X ≤ 3072) : ∃ h', vm_J l X (lq_M nm []) (0, (0, 0), vm_e0 [.ref 100018] 4, []) lq_h0 (some (.int 1)) h' := by
  obtain ⟨h1, h2, e1, hl, e2, hD, hR, hP⟩ := st_ex
  obtain ⟨h', hj⟩ := lq_loop (nm := nm) (l := l) hs hD hR 512 0 h2.2.1 h2.2.2 (st_Rel hP) (by omega) (by omega)
  refine ⟨h', ?_⟩
  have K1 := vm_K.mk (l := l) (X := X) (M := vm_M98) (by decide) (av := [.ref 0]) (by decide) (ev_J l X 4000 vm_M98 _ st_h0 h1 vm_q98 e1)
  have K2 := vm_K.mk (l := l) (X := X) (M := vm_M167) (by decide) (av := [.ref 152]) (by decide) (ev_J l X 4000 vm_M167 _ (st_n h1) h2 vm_q167 e2)
  have hOK : vm_OK (lq_M nm vm_Le0) := lq_ok vm_Lf0 rfl
  refine vm_J.go (M := lq_M nm vm_Le0) hOK (k := 2) (hs := []) (f' := (4, (1, 9), vm_e0 [.ref 100018] 4, [.ref 0, .ref 0])) (h' := st_h0) (hs' := []) rfl rfl ?_
  refine vm_J.call (M := lq_M nm vm_Le0) (Z := vm_M98) hOK (pc := 4) (en := (4, .invokespecial 9, 3, [98, 114, 0], .null)) rfl (n := 0) (k := 2) (mi := 98) trivial rfl rfl vm_z98 (cs := (1, 9)) (av := [.ref 0]) (rest := [.ref 0]) K1 ⟨_, _, rfl, rfl, _, 10, _, rfl, rfl, rfl, rfl⟩ (by decide) ⟨Nat.le_of_ble_eq_true rfl, Nat.le_of_ble_eq_true rfl⟩ ⟨Nat.le_of_ble_eq_true rfl, Nat.le_of_ble_eq_true rfl⟩ ?_
  refine vm_J.go (M := lq_M nm vm_Le0) hOK (k := 3) (hs := []) (f' := (12, (153, 6883), [.ref 100018, .ref 0, .retAddr 0, .retAddr 0], [.ref h1.1.length, .ref h1.1.length])) (h' := st_n h1) (hs' := []) rfl (vm_b2 rfl (vm_b2 ?_ (vm_b2 rfl rfl))) ?_
  · rw [hl]
    rfl
  rw [hl]
  have hg : (st_n h1).1[152]? = some (13, (vm_df 11).length, vm_df 11) := by
    show (h1.1 ++ [_])[152]? = _
    rw [← hl, List.getElem?_concat_length]
  refine vm_J.call (M := lq_M nm vm_Le0) (Z := vm_M167) hOK (pc := 12) (en := (12, .invokespecial 12, 3, [167, 1113, 0], .null)) rfl (n := 0) (k := 2) (mi := 167) trivial rfl rfl vm_z167 (cs := (153, 6883)) (av := [.ref 152]) (rest := [.ref 152]) K2 ⟨_, _, rfl, rfl, _, 11, _, hg, rfl, rfl, rfl⟩ (by decide) ⟨Nat.le_of_ble_eq_true rfl, Nat.le_of_ble_eq_true rfl⟩ ⟨Nat.le_of_ble_eq_true rfl, Nat.le_of_ble_eq_true rfl⟩ ?_
  refine vm_J.go (M := lq_M nm vm_Le0) hOK (k := 3) (hs := []) (f' := (18, (194, 13271), [.ref 100018, .ref 0, .ref 152, .int 0], [])) (h' := h2) (hs' := []) rfl rfl ?_
  exact hj
