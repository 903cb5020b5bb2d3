/-- THE LAW: one call of both, case by case -/
def lq_M (nm : String) (es : List vm_E) : vm_M := (⟨x.cls, nm, x.desc⟩, code, 4, ret, room_1, es)
def lq_np (es : List vm_E) : Bool := es.all fun e => match e.2.1 with
  | .putfield _ => false
  | .getstatic _ => false
  | _ => true
theorem lq_ck (c : MethodName) (nm d : String) (e : vm_E) (h : (match e.2.1 with
  | .putfield _ => false
  | .getstatic _ => false
  | _ => true) = true) : vm_ck ⟨c.cls, nm, d⟩ e = vm_ck c e := by
  obtain ⟨pc, i, len, xs, v⟩ := e
  cases i
  case putfield => cases h
  case getstatic => cases h
  all_goals first | rfl | (rcases xs with _ | ⟨q1, _ | ⟨q2, _ | ⟨q3, xs⟩⟩⟩ <;> first | rfl | (cases v <;> rfl))
theorem lq_ok {nm : String} {es : List vm_E} (h : vm_OK (x, code, 4, ret, room_1, es)) (hp : lq_np es = true) : vm_OK (lq_M nm es) := by
  refine List.all_eq_true.mpr fun e he => ?_
  have h1 := List.all_eq_true.mp h e he
  have h2 := List.all_eq_true.mp hp e he
  show (decide (decode code e.1 = .ok (e.2.1, e.2.2.1)) && vm_ck ⟨x.cls, nm, x.desc⟩ e) = true
  rw [lq_ck x nm x.desc e h2]
  exact h1
def lq_b (X : vm_Cx) (i : Int32) : Prop := vm_in i (vm_sl X) = true ∧ vm_in (i + 1) (vm_sl X) = true ∧ vm_in (i + 2) (vm_sl X) = true ∧ vm_in (i + 3) (vm_sl X) = true ∧ vm_in (i + 4) (vm_sl X) = true ∧ vm_in (i + 5) (vm_sl X) = true
def lq_N (nm : String) (l : Launch) (X : vm_Cx) (pc : Nat) (i : Int32) (G : List vm_Sh) (I : vm_IH) (F : vm_FH) : Prop := ∃ h', vm_J l X (lq_M nm []) (pc, (194, 13271), [.ref 100018, .ref 0, .ref 152, .int i], []) (G, I, F) (some (.int 1)) h'
def lq_K (nm : String) (l : Launch) (X : vm_Cx) (i : Int32) (G : List vm_Sh) : Prop := ∀ I2 F2, Rel I2 F2 → lq_N nm l X 1930 i G I2 F2
theorem lq_cat {M : vm_M} {r : Value} (h : vm_ri M r) : ([r].map fun v => v.category).sum ≤ 8 := by
  rcases h with ⟨-, v, rfl⟩ | ⟨-, v, rfl⟩
  · exact (by decide : (2 : Nat) ≤ 8)
  · exact (by decide : (1 : Nat) ≤ 8)
theorem lc_0 {nm : String} {l : Launch} {X : vm_Cx} {G : List vm_Sh} {I : vm_IH} {F : vm_FH} {i : Int32} (hD : vm_isD G) (hR : vm_isR G) (h : Rel I F) (hb : lq_b X i) (hk : lq_K nm l X i G) : lq_N nm l X 232 i G I F := by
  have hOK : vm_OK (lq_M nm (vm_Le0 ++ vm_Le1)) := lq_ok (vm_allA vm_Lf0 vm_Lf1) rfl
  obtain ⟨-, b1, b2, b3, b4, b5⟩ := hb
  obtain ⟨r, I1, F1, I2, F2, ht, K1, K2, hr⟩ := call_picture (l := l) (X := X) (q := (vm_sx X (i + 1).toNatClampNeg)) (a := (vm_sx X (i + 2).toNatClampNeg)) (b := (vm_sx X (i + 3).toNatClampNeg)) hD hR h
  obtain ⟨h', hj⟩ := hk I2 F2 hr
  refine ⟨h', ?_⟩
  replace hj : vm_J l X (lq_M nm (vm_Le0 ++ vm_Le1)) _ _ _ _ := hj
  refine vm_J.go (M := lq_M nm (vm_Le0 ++ vm_Le1)) hOK (k := 16) (hs := [(61, 0, []), (61, 0, []), (61, 0, [])]) (f' := (248, (194, 13271), [.ref 100018, .ref 0, .ref 152, .int i], [.int (vm_sx X (i + 3).toNatClampNeg), .int (vm_sx X (i + 2).toNatClampNeg), .int (vm_sx X (i + 1).toNatClampNeg), .ref 0])) (h' := (G, I, F)) (hs' := []) rfl (vm_b2 rfl (vm_b2 rfl (vm_b2 rfl (vm_b2 rfl (vm_b2 rfl (vm_b2 (vm_b2 rfl b1) (vm_b2 rfl (vm_b2 rfl (vm_b2 rfl (vm_b2 rfl (vm_b2 (vm_b2 rfl b2) (vm_b2 rfl (vm_b2 rfl (vm_b2 rfl (vm_b2 rfl (vm_b2 (vm_b2 rfl b3) rfl)))))))))))))))) ?_
  refine vm_J.call (M := lq_M nm (vm_Le0 ++ vm_Le1)) (Z := vm_M99) hOK (pc := 248) (en := (248, .invokevirtual 13, 3, [99, 412, 0], .null)) rfl (n := 3) (k := 0) (mi := 99) trivial rfl rfl vm_z99 (cs := (194, 13271)) (av := [.ref 0, .int (vm_sx X (i + 1).toNatClampNeg), .int (vm_sx X (i + 2).toNatClampNeg), .int (vm_sx X (i + 3).toNatClampNeg)]) (rest := []) K1 ⟨_, _, rfl, rfl, _, 10, _, hD.1, rfl, rfl, rfl⟩ (by decide) ⟨Nat.le_of_ble_eq_true rfl, Nat.le_of_ble_eq_true rfl⟩ ⟨Nat.le_of_ble_eq_true rfl, Nat.le_of_ble_eq_true rfl⟩ ?_
  replace hj := hj
  refine vm_J.go (M := lq_M nm (vm_Le0 ++ vm_Le1)) hOK (k := 16) (hs := [(61, 0, []), (61, 0, []), (61, 0, [])]) (f' := (267, (194, 13271), [.ref 100018, .ref 0, .ref 152, .int i], [.int (vm_sx X (i + 3).toNatClampNeg), .int (vm_sx X (i + 2).toNatClampNeg), .int (vm_sx X (i + 1).toNatClampNeg), .ref 152, r])) (h' := (G, I1, F1)) (hs' := []) rfl (vm_b2 rfl (vm_b2 rfl (vm_b2 rfl (vm_b2 rfl (vm_b2 rfl (vm_b2 (vm_b2 rfl b1) (vm_b2 rfl (vm_b2 rfl (vm_b2 rfl (vm_b2 rfl (vm_b2 (vm_b2 rfl b2) (vm_b2 rfl (vm_b2 rfl (vm_b2 rfl (vm_b2 rfl (vm_b2 (vm_b2 rfl b3) rfl)))))))))))))))) ?_
  refine vm_J.call (M := lq_M nm (vm_Le0 ++ vm_Le1)) (Z := vm_M179) hOK (pc := 267) (en := (267, .invokevirtual 17, 3, [179, 1298, 0], .null)) rfl (n := 3) (k := 0) (mi := 179) trivial rfl rfl vm_z179 (cs := (194, 13271)) (av := [.ref 152, .int (vm_sx X (i + 1).toNatClampNeg), .int (vm_sx X (i + 2).toNatClampNeg), .int (vm_sx X (i + 3).toNatClampNeg)]) (rest := [r]) K2 ⟨_, _, rfl, rfl, _, 11, _, hR.1, rfl, rfl, rfl⟩ (lq_cat ht) ⟨Nat.le_of_ble_eq_true rfl, Nat.le_of_ble_eq_true rfl⟩ ⟨Nat.le_of_ble_eq_true rfl, Nat.le_of_ble_eq_true rfl⟩ ?_
  replace hj := hj
  rcases ht with ⟨hl, v, rfl⟩ | ⟨hl, v, rfl⟩
  · exact absurd hl (by decide)
  · refine vm_J.go (M := lq_M nm (vm_Le0 ++ vm_Le1)) hOK (k := 1) (hs := []) (f' := (bif vm_ic .eq v v then 1930 else 273, (194, 13271), [.ref 100018, .ref 0, .ref 152, .int i], [])) (h' := (G, I2, F2)) (hs' := []) rfl rfl (vm_J.bT (decide_eq_true rfl) hj)
theorem lc_1 {nm : String} {l : Launch} {X : vm_Cx} {G : List vm_Sh} {I : vm_IH} {F : vm_FH} {i : Int32} (hD : vm_isD G) (hR : vm_isR G) (h : Rel I F) (hb : lq_b X i) (hk : lq_K nm l X i G) : lq_N nm l X 275 i G I F := by
  have hOK : vm_OK (lq_M nm (vm_Le1 ++ vm_Le2)) := lq_ok (vm_allA vm_Lf1 vm_Lf2) rfl
  obtain ⟨-, b1, b2, b3, b4, b5⟩ := hb
  obtain ⟨r, I1, F1, I2, F2, ht, K1, K2, hr⟩ := call_paint (l := l) (X := X) (q := (vm_sx X (i + 1).toNatClampNeg)) (x := (vm_sx X (i + 2).toNatClampNeg)) (y := (vm_sx X (i + 3).toNatClampNeg)) (c := (vm_sx X (i + 4).toNatClampNeg)) hD hR h
  obtain ⟨h', hj⟩ := hk I2 F2 hr
  refine ⟨h', ?_⟩
  replace hj : vm_J l X (lq_M nm (vm_Le1 ++ vm_Le2)) _ _ _ _ := hj
  refine vm_J.go (M := lq_M nm (vm_Le1 ++ vm_Le2)) hOK (k := 21) (hs := [(61, 0, []), (61, 0, []), (61, 0, []), (61, 0, [])]) (f' := (296, (194, 13271), [.ref 100018, .ref 0, .ref 152, .int i], [.int (vm_sx X (i + 4).toNatClampNeg), .int (vm_sx X (i + 3).toNatClampNeg), .int (vm_sx X (i + 2).toNatClampNeg), .int (vm_sx X (i + 1).toNatClampNeg), .ref 0])) (h' := (G, I, F)) (hs' := []) rfl (vm_b2 rfl (vm_b2 rfl (vm_b2 rfl (vm_b2 rfl (vm_b2 rfl (vm_b2 (vm_b2 rfl b1) (vm_b2 rfl (vm_b2 rfl (vm_b2 rfl (vm_b2 rfl (vm_b2 (vm_b2 rfl b2) (vm_b2 rfl (vm_b2 rfl (vm_b2 rfl (vm_b2 rfl (vm_b2 (vm_b2 rfl b3) (vm_b2 rfl (vm_b2 rfl (vm_b2 rfl (vm_b2 rfl (vm_b2 (vm_b2 rfl b4) rfl))))))))))))))))))))) ?_
  refine vm_J.call (M := lq_M nm (vm_Le1 ++ vm_Le2)) (Z := vm_M100) hOK (pc := 296) (en := (296, .invokevirtual 18, 3, [100, 434, 0], .null)) rfl (n := 4) (k := 0) (mi := 100) trivial rfl rfl vm_z100 (cs := (194, 13271)) (av := [.ref 0, .int (vm_sx X (i + 1).toNatClampNeg), .int (vm_sx X (i + 2).toNatClampNeg), .int (vm_sx X (i + 3).toNatClampNeg), .int (vm_sx X (i + 4).toNatClampNeg)]) (rest := []) K1 ⟨_, _, rfl, rfl, _, 10, _, hD.1, rfl, rfl, rfl⟩ (by decide) ⟨Nat.le_of_ble_eq_true rfl, Nat.le_of_ble_eq_true rfl⟩ ⟨Nat.le_of_ble_eq_true rfl, Nat.le_of_ble_eq_true rfl⟩ ?_
  replace hj := hj
  refine vm_J.go (M := lq_M nm (vm_Le1 ++ vm_Le2)) hOK (k := 21) (hs := [(61, 0, []), (61, 0, []), (61, 0, []), (61, 0, [])]) (f' := (320, (194, 13271), [.ref 100018, .ref 0, .ref 152, .int i], [.int (vm_sx X (i + 4).toNatClampNeg), .int (vm_sx X (i + 3).toNatClampNeg), .int (vm_sx X (i + 2).toNatClampNeg), .int (vm_sx X (i + 1).toNatClampNeg), .ref 152, r])) (h' := (G, I1, F1)) (hs' := []) rfl (vm_b2 rfl (vm_b2 rfl (vm_b2 rfl (vm_b2 rfl (vm_b2 rfl (vm_b2 (vm_b2 rfl b1) (vm_b2 rfl (vm_b2 rfl (vm_b2 rfl (vm_b2 rfl (vm_b2 (vm_b2 rfl b2) (vm_b2 rfl (vm_b2 rfl (vm_b2 rfl (vm_b2 rfl (vm_b2 (vm_b2 rfl b3) (vm_b2 rfl (vm_b2 rfl (vm_b2 rfl (vm_b2 rfl (vm_b2 (vm_b2 rfl b4) rfl))))))))))))))))))))) ?_
  refine vm_J.call (M := lq_M nm (vm_Le1 ++ vm_Le2)) (Z := vm_M181) hOK (pc := 320) (en := (320, .invokevirtual 22, 3, [181, 1309, 0], .null)) rfl (n := 4) (k := 0) (mi := 181) trivial rfl rfl vm_z181 (cs := (194, 13271)) (av := [.ref 152, .int (vm_sx X (i + 1).toNatClampNeg), .int (vm_sx X (i + 2).toNatClampNeg), .int (vm_sx X (i + 3).toNatClampNeg), .int (vm_sx X (i + 4).toNatClampNeg)]) (rest := [r]) K2 ⟨_, _, rfl, rfl, _, 11, _, hR.1, rfl, rfl, rfl⟩ (lq_cat ht) ⟨Nat.le_of_ble_eq_true rfl, Nat.le_of_ble_eq_true rfl⟩ ⟨Nat.le_of_ble_eq_true rfl, Nat.le_of_ble_eq_true rfl⟩ ?_
  replace hj := hj
  rcases ht with ⟨hl, v, rfl⟩ | ⟨hl, v, rfl⟩
  · exact absurd hl (by decide)
  · refine vm_J.go (M := lq_M nm (vm_Le1 ++ vm_Le2)) hOK (k := 1) (hs := []) (f' := (bif vm_ic .eq v v then 1930 else 326, (194, 13271), [.ref 100018, .ref 0, .ref 152, .int i], [])) (h' := (G, I2, F2)) (hs' := []) rfl rfl (vm_J.bT (decide_eq_true rfl) hj)
theorem lc_2 {nm : String} {l : Launch} {X : vm_Cx} {G : List vm_Sh} {I : vm_IH} {F : vm_FH} {i : Int32} (hD : vm_isD G) (hR : vm_isR G) (h : Rel I F) (hb : lq_b X i) (hk : lq_K nm l X i G) : lq_N nm l X 328 i G I F := by
  have hOK : vm_OK (lq_M nm (vm_Le2)) := lq_ok vm_Lf2 rfl
  obtain ⟨-, b1, b2, b3, b4, b5⟩ := hb
  obtain ⟨r, I1, F1, I2, F2, ht, K1, K2, hr⟩ := call_noise (l := l) (X := X) (q := (vm_sx X (i + 1).toNatClampNeg)) (c := (vm_sx X (i + 2).toNatClampNeg)) hD hR h
  obtain ⟨h', hj⟩ := hk I2 F2 hr
  refine ⟨h', ?_⟩
  replace hj : vm_J l X (lq_M nm (vm_Le2)) _ _ _ _ := hj
  refine vm_J.go (M := lq_M nm (vm_Le2)) hOK (k := 11) (hs := [(61, 0, []), (61, 0, [])]) (f' := (339, (194, 13271), [.ref 100018, .ref 0, .ref 152, .int i], [.int (vm_sx X (i + 2).toNatClampNeg), .int (vm_sx X (i + 1).toNatClampNeg), .ref 0])) (h' := (G, I, F)) (hs' := []) rfl (vm_b2 rfl (vm_b2 rfl (vm_b2 rfl (vm_b2 rfl (vm_b2 rfl (vm_b2 (vm_b2 rfl b1) (vm_b2 rfl (vm_b2 rfl (vm_b2 rfl (vm_b2 rfl (vm_b2 (vm_b2 rfl b2) rfl))))))))))) ?_
  refine vm_J.call (M := lq_M nm (vm_Le2)) (Z := vm_M101) hOK (pc := 339) (en := (339, .invokevirtual 23, 3, [101, 467, 0], .null)) rfl (n := 2) (k := 0) (mi := 101) trivial rfl rfl vm_z101 (cs := (194, 13271)) (av := [.ref 0, .int (vm_sx X (i + 1).toNatClampNeg), .int (vm_sx X (i + 2).toNatClampNeg)]) (rest := []) K1 ⟨_, _, rfl, rfl, _, 10, _, hD.1, rfl, rfl, rfl⟩ (by decide) ⟨Nat.le_of_ble_eq_true rfl, Nat.le_of_ble_eq_true rfl⟩ ⟨Nat.le_of_ble_eq_true rfl, Nat.le_of_ble_eq_true rfl⟩ ?_
  replace hj := hj
  refine vm_J.go (M := lq_M nm (vm_Le2)) hOK (k := 11) (hs := [(61, 0, []), (61, 0, [])]) (f' := (353, (194, 13271), [.ref 100018, .ref 0, .ref 152, .int i], [.int (vm_sx X (i + 2).toNatClampNeg), .int (vm_sx X (i + 1).toNatClampNeg), .ref 152, r])) (h' := (G, I1, F1)) (hs' := []) rfl (vm_b2 rfl (vm_b2 rfl (vm_b2 rfl (vm_b2 rfl (vm_b2 rfl (vm_b2 (vm_b2 rfl b1) (vm_b2 rfl (vm_b2 rfl (vm_b2 rfl (vm_b2 rfl (vm_b2 (vm_b2 rfl b2) rfl))))))))))) ?_
  refine vm_J.call (M := lq_M nm (vm_Le2)) (Z := vm_M183) hOK (pc := 353) (en := (353, .invokevirtual 27, 3, [183, 1329, 0], .null)) rfl (n := 2) (k := 0) (mi := 183) trivial rfl rfl vm_z183 (cs := (194, 13271)) (av := [.ref 152, .int (vm_sx X (i + 1).toNatClampNeg), .int (vm_sx X (i + 2).toNatClampNeg)]) (rest := [r]) K2 ⟨_, _, rfl, rfl, _, 11, _, hR.1, rfl, rfl, rfl⟩ (lq_cat ht) ⟨Nat.le_of_ble_eq_true rfl, Nat.le_of_ble_eq_true rfl⟩ ⟨Nat.le_of_ble_eq_true rfl, Nat.le_of_ble_eq_true rfl⟩ ?_
  replace hj := hj
  rcases ht with ⟨hl, v, rfl⟩ | ⟨hl, v, rfl⟩
  · exact absurd hl (by decide)
  · refine vm_J.go (M := lq_M nm (vm_Le2)) hOK (k := 1) (hs := []) (f' := (bif vm_ic .eq v v then 1930 else 359, (194, 13271), [.ref 100018, .ref 0, .ref 152, .int i], [])) (h' := (G, I2, F2)) (hs' := []) rfl rfl (vm_J.bT (decide_eq_true rfl) hj)
theorem lc_3 {nm : String} {l : Launch} {X : vm_Cx} {G : List vm_Sh} {I : vm_IH} {F : vm_FH} {i : Int32} (hD : vm_isD G) (hR : vm_isR G) (h : Rel I F) (hb : lq_b X i) (hk : lq_K nm l X i G) : lq_N nm l X 361 i G I F := by
  have hOK : vm_OK (lq_M nm (vm_Le2 ++ vm_Le3)) := lq_ok (vm_allA vm_Lf2 vm_Lf3) rfl
  obtain ⟨-, b1, b2, b3, b4, b5⟩ := hb
  obtain ⟨r, I1, F1, I2, F2, ht, K1, K2, hr⟩ := call_shade (l := l) (X := X) (q := (vm_sx X (i + 1).toNatClampNeg)) (a := (vm_sx X (i + 2).toNatClampNeg)) (b := (vm_sx X (i + 3).toNatClampNeg)) hD hR h
  obtain ⟨h', hj⟩ := hk I2 F2 hr
  refine ⟨h', ?_⟩
  replace hj : vm_J l X (lq_M nm (vm_Le2 ++ vm_Le3)) _ _ _ _ := hj
  refine vm_J.go (M := lq_M nm (vm_Le2 ++ vm_Le3)) hOK (k := 16) (hs := [(61, 0, []), (61, 0, []), (61, 0, [])]) (f' := (377, (194, 13271), [.ref 100018, .ref 0, .ref 152, .int i], [.int (vm_sx X (i + 3).toNatClampNeg), .int (vm_sx X (i + 2).toNatClampNeg), .int (vm_sx X (i + 1).toNatClampNeg), .ref 0])) (h' := (G, I, F)) (hs' := []) rfl (vm_b2 rfl (vm_b2 rfl (vm_b2 rfl (vm_b2 rfl (vm_b2 rfl (vm_b2 (vm_b2 rfl b1) (vm_b2 rfl (vm_b2 rfl (vm_b2 rfl (vm_b2 rfl (vm_b2 (vm_b2 rfl b2) (vm_b2 rfl (vm_b2 rfl (vm_b2 rfl (vm_b2 rfl (vm_b2 (vm_b2 rfl b3) rfl)))))))))))))))) ?_
  refine vm_J.call (M := lq_M nm (vm_Le2 ++ vm_Le3)) (Z := vm_M102) hOK (pc := 377) (en := (377, .invokevirtual 28, 3, [102, 478, 0], .null)) rfl (n := 3) (k := 0) (mi := 102) trivial rfl rfl vm_z102 (cs := (194, 13271)) (av := [.ref 0, .int (vm_sx X (i + 1).toNatClampNeg), .int (vm_sx X (i + 2).toNatClampNeg), .int (vm_sx X (i + 3).toNatClampNeg)]) (rest := []) K1 ⟨_, _, rfl, rfl, _, 10, _, hD.1, rfl, rfl, rfl⟩ (by decide) ⟨Nat.le_of_ble_eq_true rfl, Nat.le_of_ble_eq_true rfl⟩ ⟨Nat.le_of_ble_eq_true rfl, Nat.le_of_ble_eq_true rfl⟩ ?_
  replace hj := hj
  refine vm_J.go (M := lq_M nm (vm_Le2 ++ vm_Le3)) hOK (k := 16) (hs := [(61, 0, []), (61, 0, []), (61, 0, [])]) (f' := (396, (194, 13271), [.ref 100018, .ref 0, .ref 152, .int i], [.int (vm_sx X (i + 3).toNatClampNeg), .int (vm_sx X (i + 2).toNatClampNeg), .int (vm_sx X (i + 1).toNatClampNeg), .ref 152, r])) (h' := (G, I1, F1)) (hs' := []) rfl (vm_b2 rfl (vm_b2 rfl (vm_b2 rfl (vm_b2 rfl (vm_b2 rfl (vm_b2 (vm_b2 rfl b1) (vm_b2 rfl (vm_b2 rfl (vm_b2 rfl (vm_b2 rfl (vm_b2 (vm_b2 rfl b2) (vm_b2 rfl (vm_b2 rfl (vm_b2 rfl (vm_b2 rfl (vm_b2 (vm_b2 rfl b3) rfl)))))))))))))))) ?_
  refine vm_J.call (M := lq_M nm (vm_Le2 ++ vm_Le3)) (Z := vm_M185) hOK (pc := 396) (en := (396, .invokevirtual 31, 3, [185, 1341, 0], .null)) rfl (n := 3) (k := 0) (mi := 185) trivial rfl rfl vm_z185 (cs := (194, 13271)) (av := [.ref 152, .int (vm_sx X (i + 1).toNatClampNeg), .int (vm_sx X (i + 2).toNatClampNeg), .int (vm_sx X (i + 3).toNatClampNeg)]) (rest := [r]) K2 ⟨_, _, rfl, rfl, _, 11, _, hR.1, rfl, rfl, rfl⟩ (lq_cat ht) ⟨Nat.le_of_ble_eq_true rfl, Nat.le_of_ble_eq_true rfl⟩ ⟨Nat.le_of_ble_eq_true rfl, Nat.le_of_ble_eq_true rfl⟩ ?_
  replace hj := hj
  rcases ht with ⟨hl, v, rfl⟩ | ⟨hl, v, rfl⟩
  · exact absurd hl (by decide)
  · refine vm_J.go (M := lq_M nm (vm_Le2 ++ vm_Le3)) hOK (k := 1) (hs := []) (f' := (bif vm_ic .eq v v then 1930 else 402, (194, 13271), [.ref 100018, .ref 0, .ref 152, .int i], [])) (h' := (G, I2, F2)) (hs' := []) rfl rfl (vm_J.bT (decide_eq_true rfl) hj)
theorem lc_4 {nm : String} {l : Launch} {X : vm_Cx} {G : List vm_Sh} {I : vm_IH} {F : vm_FH} {i : Int32} (hD : vm_isD G) (hR : vm_isR G) (h : Rel I F) (hb : lq_b X i) (hk : lq_K nm l X i G) : lq_N nm l X 404 i G I F := by
  have hOK : vm_OK (lq_M nm (vm_Le3 ++ vm_Le4)) := lq_ok (vm_allA vm_Lf3 vm_Lf4) rfl
  obtain ⟨-, b1, b2, b3, b4, b5⟩ := hb
  obtain ⟨r, I1, F1, I2, F2, ht, K1, K2, hr⟩ := call_pixel (l := l) (X := X) (q := (vm_sx X (i + 1).toNatClampNeg)) (x := (vm_sx X (i + 2).toNatClampNeg)) (y := (vm_sx X (i + 3).toNatClampNeg)) hD hR h
  obtain ⟨h', hj⟩ := hk I2 F2 hr
  refine ⟨h', ?_⟩
  replace hj : vm_J l X (lq_M nm (vm_Le3 ++ vm_Le4)) _ _ _ _ := hj
  refine vm_J.go (M := lq_M nm (vm_Le3 ++ vm_Le4)) hOK (k := 16) (hs := [(61, 0, []), (61, 0, []), (61, 0, [])]) (f' := (420, (194, 13271), [.ref 100018, .ref 0, .ref 152, .int i], [.int (vm_sx X (i + 3).toNatClampNeg), .int (vm_sx X (i + 2).toNatClampNeg), .int (vm_sx X (i + 1).toNatClampNeg), .ref 0])) (h' := (G, I, F)) (hs' := []) rfl (vm_b2 rfl (vm_b2 rfl (vm_b2 rfl (vm_b2 rfl (vm_b2 rfl (vm_b2 (vm_b2 rfl b1) (vm_b2 rfl (vm_b2 rfl (vm_b2 rfl (vm_b2 rfl (vm_b2 (vm_b2 rfl b2) (vm_b2 rfl (vm_b2 rfl (vm_b2 rfl (vm_b2 rfl (vm_b2 (vm_b2 rfl b3) rfl)))))))))))))))) ?_
  refine vm_J.call (M := lq_M nm (vm_Le3 ++ vm_Le4)) (Z := vm_M103) hOK (pc := 420) (en := (420, .invokevirtual 32, 3, [103, 492, 0], .null)) rfl (n := 3) (k := 0) (mi := 103) trivial rfl rfl vm_z103 (cs := (194, 13271)) (av := [.ref 0, .int (vm_sx X (i + 1).toNatClampNeg), .int (vm_sx X (i + 2).toNatClampNeg), .int (vm_sx X (i + 3).toNatClampNeg)]) (rest := []) K1 ⟨_, _, rfl, rfl, _, 10, _, hD.1, rfl, rfl, rfl⟩ (by decide) ⟨Nat.le_of_ble_eq_true rfl, Nat.le_of_ble_eq_true rfl⟩ ⟨Nat.le_of_ble_eq_true rfl, Nat.le_of_ble_eq_true rfl⟩ ?_
  replace hj := hj
  refine vm_J.go (M := lq_M nm (vm_Le3 ++ vm_Le4)) hOK (k := 16) (hs := [(61, 0, []), (61, 0, []), (61, 0, [])]) (f' := (439, (194, 13271), [.ref 100018, .ref 0, .ref 152, .int i], [.int (vm_sx X (i + 3).toNatClampNeg), .int (vm_sx X (i + 2).toNatClampNeg), .int (vm_sx X (i + 1).toNatClampNeg), .ref 152, r])) (h' := (G, I1, F1)) (hs' := []) rfl (vm_b2 rfl (vm_b2 rfl (vm_b2 rfl (vm_b2 rfl (vm_b2 rfl (vm_b2 (vm_b2 rfl b1) (vm_b2 rfl (vm_b2 rfl (vm_b2 rfl (vm_b2 rfl (vm_b2 (vm_b2 rfl b2) (vm_b2 rfl (vm_b2 rfl (vm_b2 rfl (vm_b2 rfl (vm_b2 (vm_b2 rfl b3) rfl)))))))))))))))) ?_
  refine vm_J.call (M := lq_M nm (vm_Le3 ++ vm_Le4)) (Z := vm_M186) hOK (pc := 439) (en := (439, .invokevirtual 35, 3, [186, 1351, 0], .null)) rfl (n := 3) (k := 0) (mi := 186) trivial rfl rfl vm_z186 (cs := (194, 13271)) (av := [.ref 152, .int (vm_sx X (i + 1).toNatClampNeg), .int (vm_sx X (i + 2).toNatClampNeg), .int (vm_sx X (i + 3).toNatClampNeg)]) (rest := [r]) K2 ⟨_, _, rfl, rfl, _, 11, _, hR.1, rfl, rfl, rfl⟩ (lq_cat ht) ⟨Nat.le_of_ble_eq_true rfl, Nat.le_of_ble_eq_true rfl⟩ ⟨Nat.le_of_ble_eq_true rfl, Nat.le_of_ble_eq_true rfl⟩ ?_
  replace hj := hj
  rcases ht with ⟨hl, v, rfl⟩ | ⟨hl, v, rfl⟩
  · exact absurd hl (by decide)
  · refine vm_J.go (M := lq_M nm (vm_Le3 ++ vm_Le4)) hOK (k := 1) (hs := []) (f' := (bif vm_ic .eq v v then 1930 else 445, (194, 13271), [.ref 100018, .ref 0, .ref 152, .int i], [])) (h' := (G, I2, F2)) (hs' := []) rfl rfl (vm_J.bT (decide_eq_true rfl) hj)
theorem lc_5 {nm : String} {l : Launch} {X : vm_Cx} {G : List vm_Sh} {I : vm_IH} {F : vm_FH} {i : Int32} (hD : vm_isD G) (hR : vm_isR G) (h : Rel I F) (hb : lq_b X i) (hk : lq_K nm l X i G) : lq_N nm l X 447 i G I F := by
  have hOK : vm_OK (lq_M nm (vm_Le4)) := lq_ok vm_Lf4 rfl
  obtain ⟨-, b1, b2, b3, b4, b5⟩ := hb
  obtain ⟨r, I1, F1, I2, F2, ht, K1, K2, hr⟩ := call_of (l := l) (X := X) (q := (vm_sx X (i + 1).toNatClampNeg)) (x := (vm_sx X (i + 2).toNatClampNeg)) hD hR h
  obtain ⟨h', hj⟩ := hk I2 F2 hr
  refine ⟨h', ?_⟩
  replace hj : vm_J l X (lq_M nm (vm_Le4)) _ _ _ _ := hj
  refine vm_J.go (M := lq_M nm (vm_Le4)) hOK (k := 11) (hs := [(61, 0, []), (61, 0, [])]) (f' := (458, (194, 13271), [.ref 100018, .ref 0, .ref 152, .int i], [.int (vm_sx X (i + 2).toNatClampNeg), .int (vm_sx X (i + 1).toNatClampNeg), .ref 0])) (h' := (G, I, F)) (hs' := []) rfl (vm_b2 rfl (vm_b2 rfl (vm_b2 rfl (vm_b2 rfl (vm_b2 rfl (vm_b2 (vm_b2 rfl b1) (vm_b2 rfl (vm_b2 rfl (vm_b2 rfl (vm_b2 rfl (vm_b2 (vm_b2 rfl b2) rfl))))))))))) ?_
  refine vm_J.call (M := lq_M nm (vm_Le4)) (Z := vm_M104) hOK (pc := 458) (en := (458, .invokevirtual 36, 3, [104, 496, 0], .null)) rfl (n := 2) (k := 0) (mi := 104) trivial rfl rfl vm_z104 (cs := (194, 13271)) (av := [.ref 0, .int (vm_sx X (i + 1).toNatClampNeg), .int (vm_sx X (i + 2).toNatClampNeg)]) (rest := []) K1 ⟨_, _, rfl, rfl, _, 10, _, hD.1, rfl, rfl, rfl⟩ (by decide) ⟨Nat.le_of_ble_eq_true rfl, Nat.le_of_ble_eq_true rfl⟩ ⟨Nat.le_of_ble_eq_true rfl, Nat.le_of_ble_eq_true rfl⟩ ?_
  replace hj := hj
  refine vm_J.go (M := lq_M nm (vm_Le4)) hOK (k := 11) (hs := [(61, 0, []), (61, 0, [])]) (f' := (472, (194, 13271), [.ref 100018, .ref 0, .ref 152, .int i], [.int (vm_sx X (i + 2).toNatClampNeg), .int (vm_sx X (i + 1).toNatClampNeg), .ref 152, r])) (h' := (G, I1, F1)) (hs' := []) rfl (vm_b2 rfl (vm_b2 rfl (vm_b2 rfl (vm_b2 rfl (vm_b2 rfl (vm_b2 (vm_b2 rfl b1) (vm_b2 rfl (vm_b2 rfl (vm_b2 rfl (vm_b2 rfl (vm_b2 (vm_b2 rfl b2) rfl))))))))))) ?_
  refine vm_J.call (M := lq_M nm (vm_Le4)) (Z := vm_M189) hOK (pc := 472) (en := (472, .invokevirtual 39, 3, [189, 1355, 0], .null)) rfl (n := 2) (k := 0) (mi := 189) trivial rfl rfl vm_z189 (cs := (194, 13271)) (av := [.ref 152, .int (vm_sx X (i + 1).toNatClampNeg), .int (vm_sx X (i + 2).toNatClampNeg)]) (rest := [r]) K2 ⟨_, _, rfl, rfl, _, 11, _, hR.1, rfl, rfl, rfl⟩ (lq_cat ht) ⟨Nat.le_of_ble_eq_true rfl, Nat.le_of_ble_eq_true rfl⟩ ⟨Nat.le_of_ble_eq_true rfl, Nat.le_of_ble_eq_true rfl⟩ ?_
  replace hj := hj
  rcases ht with ⟨hl, v, rfl⟩ | ⟨hl, v, rfl⟩
  · exact absurd hl (by decide)
  · refine vm_J.go (M := lq_M nm (vm_Le4)) hOK (k := 1) (hs := []) (f' := (bif vm_ic .eq v v then 1930 else 478, (194, 13271), [.ref 100018, .ref 0, .ref 152, .int i], [])) (h' := (G, I2, F2)) (hs' := []) rfl rfl (vm_J.bT (decide_eq_true rfl) hj)
theorem lc_6 {nm : String} {l : Launch} {X : vm_Cx} {G : List vm_Sh} {I : vm_IH} {F : vm_FH} {i : Int32} (hD : vm_isD G) (hR : vm_isR G) (h : Rel I F) (hb : lq_b X i) (hk : lq_K nm l X i G) : lq_N nm l X 480 i G I F := by
  have hOK : vm_OK (lq_M nm (vm_Le4 ++ vm_Le5)) := lq_ok (vm_allA vm_Lf4 vm_Lf5) rfl
  obtain ⟨-, b1, b2, b3, b4, b5⟩ := hb
  obtain ⟨r, I1, F1, I2, F2, ht, K1, K2, hr⟩ := call_many (l := l) (X := X) (q := (vm_sx X (i + 1).toNatClampNeg)) (c := (vm_sx X (i + 2).toNatClampNeg)) hD hR h
  obtain ⟨h', hj⟩ := hk I2 F2 hr
  refine ⟨h', ?_⟩
  replace hj : vm_J l X (lq_M nm (vm_Le4 ++ vm_Le5)) _ _ _ _ := hj
  refine vm_J.go (M := lq_M nm (vm_Le4 ++ vm_Le5)) hOK (k := 11) (hs := [(61, 0, []), (61, 0, [])]) (f' := (491, (194, 13271), [.ref 100018, .ref 0, .ref 152, .int i], [.int (vm_sx X (i + 2).toNatClampNeg), .int (vm_sx X (i + 1).toNatClampNeg), .ref 0])) (h' := (G, I, F)) (hs' := []) rfl (vm_b2 rfl (vm_b2 rfl (vm_b2 rfl (vm_b2 rfl (vm_b2 rfl (vm_b2 (vm_b2 rfl b1) (vm_b2 rfl (vm_b2 rfl (vm_b2 rfl (vm_b2 rfl (vm_b2 (vm_b2 rfl b2) rfl))))))))))) ?_
  refine vm_J.call (M := lq_M nm (vm_Le4 ++ vm_Le5)) (Z := vm_M105) hOK (pc := 491) (en := (491, .invokevirtual 40, 3, [105, 512, 0], .null)) rfl (n := 2) (k := 0) (mi := 105) trivial rfl rfl vm_z105 (cs := (194, 13271)) (av := [.ref 0, .int (vm_sx X (i + 1).toNatClampNeg), .int (vm_sx X (i + 2).toNatClampNeg)]) (rest := []) K1 ⟨_, _, rfl, rfl, _, 10, _, hD.1, rfl, rfl, rfl⟩ (by decide) ⟨Nat.le_of_ble_eq_true rfl, Nat.le_of_ble_eq_true rfl⟩ ⟨Nat.le_of_ble_eq_true rfl, Nat.le_of_ble_eq_true rfl⟩ ?_
  replace hj := hj
  refine vm_J.go (M := lq_M nm (vm_Le4 ++ vm_Le5)) hOK (k := 11) (hs := [(61, 0, []), (61, 0, [])]) (f' := (505, (194, 13271), [.ref 100018, .ref 0, .ref 152, .int i], [.int (vm_sx X (i + 2).toNatClampNeg), .int (vm_sx X (i + 1).toNatClampNeg), .ref 152, r])) (h' := (G, I1, F1)) (hs' := []) rfl (vm_b2 rfl (vm_b2 rfl (vm_b2 rfl (vm_b2 rfl (vm_b2 rfl (vm_b2 (vm_b2 rfl b1) (vm_b2 rfl (vm_b2 rfl (vm_b2 rfl (vm_b2 rfl (vm_b2 (vm_b2 rfl b2) rfl))))))))))) ?_
  refine vm_J.call (M := lq_M nm (vm_Le4 ++ vm_Le5)) (Z := vm_M190) hOK (pc := 505) (en := (505, .invokevirtual 43, 3, [190, 1367, 0], .null)) rfl (n := 2) (k := 0) (mi := 190) trivial rfl rfl vm_z190 (cs := (194, 13271)) (av := [.ref 152, .int (vm_sx X (i + 1).toNatClampNeg), .int (vm_sx X (i + 2).toNatClampNeg)]) (rest := [r]) K2 ⟨_, _, rfl, rfl, _, 11, _, hR.1, rfl, rfl, rfl⟩ (lq_cat ht) ⟨Nat.le_of_ble_eq_true rfl, Nat.le_of_ble_eq_true rfl⟩ ⟨Nat.le_of_ble_eq_true rfl, Nat.le_of_ble_eq_true rfl⟩ ?_
  replace hj := hj
  rcases ht with ⟨hl, v, rfl⟩ | ⟨hl, v, rfl⟩
  · exact absurd hl (by decide)
  · refine vm_J.go (M := lq_M nm (vm_Le4 ++ vm_Le5)) hOK (k := 1) (hs := []) (f' := (bif vm_ic .eq v v then 1930 else 511, (194, 13271), [.ref 100018, .ref 0, .ref 152, .int i], [])) (h' := (G, I2, F2)) (hs' := []) rfl rfl (vm_J.bT (decide_eq_true rfl) hj)
theorem lc_7 {nm : String} {l : Launch} {X : vm_Cx} {G : List vm_Sh} {I : vm_IH} {F : vm_FH} {i : Int32} (hD : vm_isD G) (hR : vm_isR G) (h : Rel I F) (hb : lq_b X i) (hk : lq_K nm l X i G) : lq_N nm l X 513 i G I F := by
  have hOK : vm_OK (lq_M nm (vm_Le5)) := lq_ok vm_Lf5 rfl
  obtain ⟨-, b1, b2, b3, b4, b5⟩ := hb
  obtain ⟨r, I1, F1, I2, F2, ht, K1, K2, hr⟩ := call_common (l := l) (X := X) (q := (vm_sx X (i + 1).toNatClampNeg)) (x := (vm_sx X (i + 2).toNatClampNeg)) hD hR h
  obtain ⟨h', hj⟩ := hk I2 F2 hr
  refine ⟨h', ?_⟩
  replace hj : vm_J l X (lq_M nm (vm_Le5)) _ _ _ _ := hj
  refine vm_J.go (M := lq_M nm (vm_Le5)) hOK (k := 11) (hs := [(61, 0, []), (61, 0, [])]) (f' := (524, (194, 13271), [.ref 100018, .ref 0, .ref 152, .int i], [.int (vm_sx X (i + 2).toNatClampNeg), .int (vm_sx X (i + 1).toNatClampNeg), .ref 0])) (h' := (G, I, F)) (hs' := []) rfl (vm_b2 rfl (vm_b2 rfl (vm_b2 rfl (vm_b2 rfl (vm_b2 rfl (vm_b2 (vm_b2 rfl b1) (vm_b2 rfl (vm_b2 rfl (vm_b2 rfl (vm_b2 rfl (vm_b2 (vm_b2 rfl b2) rfl))))))))))) ?_
  refine vm_J.call (M := lq_M nm (vm_Le5)) (Z := vm_M106) hOK (pc := 524) (en := (524, .invokevirtual 44, 3, [106, 520, 0], .null)) rfl (n := 2) (k := 0) (mi := 106) trivial rfl rfl vm_z106 (cs := (194, 13271)) (av := [.ref 0, .int (vm_sx X (i + 1).toNatClampNeg), .int (vm_sx X (i + 2).toNatClampNeg)]) (rest := []) K1 ⟨_, _, rfl, rfl, _, 10, _, hD.1, rfl, rfl, rfl⟩ (by decide) ⟨Nat.le_of_ble_eq_true rfl, Nat.le_of_ble_eq_true rfl⟩ ⟨Nat.le_of_ble_eq_true rfl, Nat.le_of_ble_eq_true rfl⟩ ?_
  replace hj := hj
  refine vm_J.go (M := lq_M nm (vm_Le5)) hOK (k := 11) (hs := [(61, 0, []), (61, 0, [])]) (f' := (538, (194, 13271), [.ref 100018, .ref 0, .ref 152, .int i], [.int (vm_sx X (i + 2).toNatClampNeg), .int (vm_sx X (i + 1).toNatClampNeg), .ref 152, r])) (h' := (G, I1, F1)) (hs' := []) rfl (vm_b2 rfl (vm_b2 rfl (vm_b2 rfl (vm_b2 rfl (vm_b2 rfl (vm_b2 (vm_b2 rfl b1) (vm_b2 rfl (vm_b2 rfl (vm_b2 rfl (vm_b2 rfl (vm_b2 (vm_b2 rfl b2) rfl))))))))))) ?_
  refine vm_J.call (M := lq_M nm (vm_Le5)) (Z := vm_M192) hOK (pc := 538) (en := (538, .invokevirtual 47, 3, [192, 1371, 0], .null)) rfl (n := 2) (k := 0) (mi := 192) trivial rfl rfl vm_z192 (cs := (194, 13271)) (av := [.ref 152, .int (vm_sx X (i + 1).toNatClampNeg), .int (vm_sx X (i + 2).toNatClampNeg)]) (rest := [r]) K2 ⟨_, _, rfl, rfl, _, 11, _, hR.1, rfl, rfl, rfl⟩ (lq_cat ht) ⟨Nat.le_of_ble_eq_true rfl, Nat.le_of_ble_eq_true rfl⟩ ⟨Nat.le_of_ble_eq_true rfl, Nat.le_of_ble_eq_true rfl⟩ ?_
  replace hj := hj
  rcases ht with ⟨hl, v, rfl⟩ | ⟨hl, v, rfl⟩
  · exact absurd hl (by decide)
  · refine vm_J.go (M := lq_M nm (vm_Le5)) hOK (k := 1) (hs := []) (f' := (bif vm_ic .eq v v then 1930 else 544, (194, 13271), [.ref 100018, .ref 0, .ref 152, .int i], [])) (h' := (G, I2, F2)) (hs' := []) rfl rfl (vm_J.bT (decide_eq_true rfl) hj)
theorem lc_8 {nm : String} {l : Launch} {X : vm_Cx} {G : List vm_Sh} {I : vm_IH} {F : vm_FH} {i : Int32} (hD : vm_isD G) (hR : vm_isR G) (h : Rel I F) (hb : lq_b X i) (hk : lq_K nm l X i G) : lq_N nm l X 546 i G I F := by
  have hOK : vm_OK (lq_M nm (vm_Le5 ++ vm_Le6)) := lq_ok (vm_allA vm_Lf5 vm_Lf6) rfl
  obtain ⟨-, b1, b2, b3, b4, b5⟩ := hb
  obtain ⟨r, I1, F1, I2, F2, ht, K1, K2, hr⟩ := call_mean (l := l) (X := X) (q := (vm_sx X (i + 1).toNatClampNeg)) (k := (vm_sx X (i + 2).toNatClampNeg)) (t := (vm_sx X (i + 3).toNatClampNeg)) hD hR h
  obtain ⟨h', hj⟩ := hk I2 F2 hr
  refine ⟨h', ?_⟩
  replace hj : vm_J l X (lq_M nm (vm_Le5 ++ vm_Le6)) _ _ _ _ := hj
  refine vm_J.go (M := lq_M nm (vm_Le5 ++ vm_Le6)) hOK (k := 16) (hs := [(61, 0, []), (61, 0, []), (61, 0, [])]) (f' := (562, (194, 13271), [.ref 100018, .ref 0, .ref 152, .int i], [.int (vm_sx X (i + 3).toNatClampNeg), .int (vm_sx X (i + 2).toNatClampNeg), .int (vm_sx X (i + 1).toNatClampNeg), .ref 0])) (h' := (G, I, F)) (hs' := []) rfl (vm_b2 rfl (vm_b2 rfl (vm_b2 rfl (vm_b2 rfl (vm_b2 rfl (vm_b2 (vm_b2 rfl b1) (vm_b2 rfl (vm_b2 rfl (vm_b2 rfl (vm_b2 rfl (vm_b2 (vm_b2 rfl b2) (vm_b2 rfl (vm_b2 rfl (vm_b2 rfl (vm_b2 rfl (vm_b2 (vm_b2 rfl b3) rfl)))))))))))))))) ?_
  refine vm_J.call (M := lq_M nm (vm_Le5 ++ vm_Le6)) (Z := vm_M107) hOK (pc := 562) (en := (562, .invokevirtual 48, 3, [107, 532, 0], .null)) rfl (n := 3) (k := 0) (mi := 107) trivial rfl rfl vm_z107 (cs := (194, 13271)) (av := [.ref 0, .int (vm_sx X (i + 1).toNatClampNeg), .int (vm_sx X (i + 2).toNatClampNeg), .int (vm_sx X (i + 3).toNatClampNeg)]) (rest := []) K1 ⟨_, _, rfl, rfl, _, 10, _, hD.1, rfl, rfl, rfl⟩ (by decide) ⟨Nat.le_of_ble_eq_true rfl, Nat.le_of_ble_eq_true rfl⟩ ⟨Nat.le_of_ble_eq_true rfl, Nat.le_of_ble_eq_true rfl⟩ ?_
  replace hj := hj
  refine vm_J.go (M := lq_M nm (vm_Le5 ++ vm_Le6)) hOK (k := 16) (hs := [(61, 0, []), (61, 0, []), (61, 0, [])]) (f' := (581, (194, 13271), [.ref 100018, .ref 0, .ref 152, .int i], [.int (vm_sx X (i + 3).toNatClampNeg), .int (vm_sx X (i + 2).toNatClampNeg), .int (vm_sx X (i + 1).toNatClampNeg), .ref 152, r])) (h' := (G, I1, F1)) (hs' := []) rfl (vm_b2 rfl (vm_b2 rfl (vm_b2 rfl (vm_b2 rfl (vm_b2 rfl (vm_b2 (vm_b2 rfl b1) (vm_b2 rfl (vm_b2 rfl (vm_b2 rfl (vm_b2 rfl (vm_b2 (vm_b2 rfl b2) (vm_b2 rfl (vm_b2 rfl (vm_b2 rfl (vm_b2 rfl (vm_b2 (vm_b2 rfl b3) rfl)))))))))))))))) ?_
  refine vm_J.call (M := lq_M nm (vm_Le5 ++ vm_Le6)) (Z := vm_M195) hOK (pc := 581) (en := (581, .invokevirtual 52, 3, [195, 1379, 0], .null)) rfl (n := 3) (k := 0) (mi := 195) trivial rfl rfl vm_z195 (cs := (194, 13271)) (av := [.ref 152, .int (vm_sx X (i + 1).toNatClampNeg), .int (vm_sx X (i + 2).toNatClampNeg), .int (vm_sx X (i + 3).toNatClampNeg)]) (rest := [r]) K2 ⟨_, _, rfl, rfl, _, 11, _, hR.1, rfl, rfl, rfl⟩ (lq_cat ht) ⟨Nat.le_of_ble_eq_true rfl, Nat.le_of_ble_eq_true rfl⟩ ⟨Nat.le_of_ble_eq_true rfl, Nat.le_of_ble_eq_true rfl⟩ ?_
  replace hj := hj
  rcases ht with ⟨hl, v, rfl⟩ | ⟨hl, v, rfl⟩
  · refine vm_J.go (M := lq_M nm (vm_Le5 ++ vm_Le6)) hOK (k := 2) (hs := []) (f' := (bif vm_ic .eq (lg_cmp v v) 0 then 1930 else 588, (194, 13271), [.ref 100018, .ref 0, .ref 152, .int i], [])) (h' := (G, I2, F2)) (hs' := []) rfl rfl (vm_J.bT (decide_eq_true (lg_cmp_e v)) hj)
  · exact absurd hl (by decide)
theorem lc_9 {nm : String} {l : Launch} {X : vm_Cx} {G : List vm_Sh} {I : vm_IH} {F : vm_FH} {i : Int32} (hD : vm_isD G) (hR : vm_isR G) (h : Rel I F) (hb : lq_b X i) (hk : lq_K nm l X i G) : lq_N nm l X 590 i G I F := by
  have hOK : vm_OK (lq_M nm (vm_Le6 ++ vm_Le7)) := lq_ok (vm_allA vm_Lf6 vm_Lf7) rfl
  obtain ⟨-, b1, b2, b3, b4, b5⟩ := hb
  obtain ⟨r, I1, F1, I2, F2, ht, K1, K2, hr⟩ := call_box (l := l) (X := X) (q := (vm_sx X (i + 1).toNatClampNeg)) (k := (vm_sx X (i + 2).toNatClampNeg)) (x := (vm_sx X (i + 3).toNatClampNeg)) (z := (vm_sx X (i + 4).toNatClampNeg)) hD hR h
  obtain ⟨h', hj⟩ := hk I2 F2 hr
  refine ⟨h', ?_⟩
  replace hj : vm_J l X (lq_M nm (vm_Le6 ++ vm_Le7)) _ _ _ _ := hj
  refine vm_J.go (M := lq_M nm (vm_Le6 ++ vm_Le7)) hOK (k := 21) (hs := [(61, 0, []), (61, 0, []), (61, 0, []), (61, 0, [])]) (f' := (611, (194, 13271), [.ref 100018, .ref 0, .ref 152, .int i], [.int (vm_sx X (i + 4).toNatClampNeg), .int (vm_sx X (i + 3).toNatClampNeg), .int (vm_sx X (i + 2).toNatClampNeg), .int (vm_sx X (i + 1).toNatClampNeg), .ref 0])) (h' := (G, I, F)) (hs' := []) rfl (vm_b2 rfl (vm_b2 rfl (vm_b2 rfl (vm_b2 rfl (vm_b2 rfl (vm_b2 (vm_b2 rfl b1) (vm_b2 rfl (vm_b2 rfl (vm_b2 rfl (vm_b2 rfl (vm_b2 (vm_b2 rfl b2) (vm_b2 rfl (vm_b2 rfl (vm_b2 rfl (vm_b2 rfl (vm_b2 (vm_b2 rfl b3) (vm_b2 rfl (vm_b2 rfl (vm_b2 rfl (vm_b2 rfl (vm_b2 (vm_b2 rfl b4) rfl))))))))))))))))))))) ?_
  refine vm_J.call (M := lq_M nm (vm_Le6 ++ vm_Le7)) (Z := vm_M108) hOK (pc := 611) (en := (611, .invokevirtual 53, 3, [108, 545, 0], .null)) rfl (n := 4) (k := 0) (mi := 108) trivial rfl rfl vm_z108 (cs := (194, 13271)) (av := [.ref 0, .int (vm_sx X (i + 1).toNatClampNeg), .int (vm_sx X (i + 2).toNatClampNeg), .int (vm_sx X (i + 3).toNatClampNeg), .int (vm_sx X (i + 4).toNatClampNeg)]) (rest := []) K1 ⟨_, _, rfl, rfl, _, 10, _, hD.1, rfl, rfl, rfl⟩ (by decide) ⟨Nat.le_of_ble_eq_true rfl, Nat.le_of_ble_eq_true rfl⟩ ⟨Nat.le_of_ble_eq_true rfl, Nat.le_of_ble_eq_true rfl⟩ ?_
  replace hj := hj
  refine vm_J.go (M := lq_M nm (vm_Le6 ++ vm_Le7)) hOK (k := 21) (hs := [(61, 0, []), (61, 0, []), (61, 0, []), (61, 0, [])]) (f' := (635, (194, 13271), [.ref 100018, .ref 0, .ref 152, .int i], [.int (vm_sx X (i + 4).toNatClampNeg), .int (vm_sx X (i + 3).toNatClampNeg), .int (vm_sx X (i + 2).toNatClampNeg), .int (vm_sx X (i + 1).toNatClampNeg), .ref 152, r])) (h' := (G, I1, F1)) (hs' := []) rfl (vm_b2 rfl (vm_b2 rfl (vm_b2 rfl (vm_b2 rfl (vm_b2 rfl (vm_b2 (vm_b2 rfl b1) (vm_b2 rfl (vm_b2 rfl (vm_b2 rfl (vm_b2 rfl (vm_b2 (vm_b2 rfl b2) (vm_b2 rfl (vm_b2 rfl (vm_b2 rfl (vm_b2 rfl (vm_b2 (vm_b2 rfl b3) (vm_b2 rfl (vm_b2 rfl (vm_b2 rfl (vm_b2 rfl (vm_b2 (vm_b2 rfl b4) rfl))))))))))))))))))))) ?_
  refine vm_J.call (M := lq_M nm (vm_Le6 ++ vm_Le7)) (Z := vm_M210) hOK (pc := 635) (en := (635, .invokevirtual 56, 3, [210, 1390, 0], .null)) rfl (n := 4) (k := 0) (mi := 210) trivial rfl rfl vm_z210 (cs := (194, 13271)) (av := [.ref 152, .int (vm_sx X (i + 1).toNatClampNeg), .int (vm_sx X (i + 2).toNatClampNeg), .int (vm_sx X (i + 3).toNatClampNeg), .int (vm_sx X (i + 4).toNatClampNeg)]) (rest := [r]) K2 ⟨_, _, rfl, rfl, _, 11, _, hR.1, rfl, rfl, rfl⟩ (lq_cat ht) ⟨Nat.le_of_ble_eq_true rfl, Nat.le_of_ble_eq_true rfl⟩ ⟨Nat.le_of_ble_eq_true rfl, Nat.le_of_ble_eq_true rfl⟩ ?_
  replace hj := hj
  rcases ht with ⟨hl, v, rfl⟩ | ⟨hl, v, rfl⟩
  · exact absurd hl (by decide)
  · refine vm_J.go (M := lq_M nm (vm_Le6 ++ vm_Le7)) hOK (k := 1) (hs := []) (f' := (bif vm_ic .eq v v then 1930 else 641, (194, 13271), [.ref 100018, .ref 0, .ref 152, .int i], [])) (h' := (G, I2, F2)) (hs' := []) rfl rfl (vm_J.bT (decide_eq_true rfl) hj)
theorem lc_10 {nm : String} {l : Launch} {X : vm_Cx} {G : List vm_Sh} {I : vm_IH} {F : vm_FH} {i : Int32} (hD : vm_isD G) (hR : vm_isR G) (h : Rel I F) (hb : lq_b X i) (hk : lq_K nm l X i G) : lq_N nm l X 643 i G I F := by
  have hOK : vm_OK (lq_M nm (vm_Le7)) := lq_ok vm_Lf7 rfl
  obtain ⟨-, b1, b2, b3, b4, b5⟩ := hb
  obtain ⟨r, I1, F1, I2, F2, ht, K1, K2, hr⟩ := call_entry (l := l) (X := X) (q := (vm_sx X (i + 1).toNatClampNeg)) (c := (vm_sx X (i + 2).toNatClampNeg)) hD hR h
  obtain ⟨h', hj⟩ := hk I2 F2 hr
  refine ⟨h', ?_⟩
  replace hj : vm_J l X (lq_M nm (vm_Le7)) _ _ _ _ := hj
  refine vm_J.go (M := lq_M nm (vm_Le7)) hOK (k := 11) (hs := [(61, 0, []), (61, 0, [])]) (f' := (654, (194, 13271), [.ref 100018, .ref 0, .ref 152, .int i], [.int (vm_sx X (i + 2).toNatClampNeg), .int (vm_sx X (i + 1).toNatClampNeg), .ref 0])) (h' := (G, I, F)) (hs' := []) rfl (vm_b2 rfl (vm_b2 rfl (vm_b2 rfl (vm_b2 rfl (vm_b2 rfl (vm_b2 (vm_b2 rfl b1) (vm_b2 rfl (vm_b2 rfl (vm_b2 rfl (vm_b2 rfl (vm_b2 (vm_b2 rfl b2) rfl))))))))))) ?_
  refine vm_J.call (M := lq_M nm (vm_Le7)) (Z := vm_M109) hOK (pc := 654) (en := (654, .invokevirtual 57, 3, [109, 615, 0], .null)) rfl (n := 2) (k := 0) (mi := 109) trivial rfl rfl vm_z109 (cs := (194, 13271)) (av := [.ref 0, .int (vm_sx X (i + 1).toNatClampNeg), .int (vm_sx X (i + 2).toNatClampNeg)]) (rest := []) K1 ⟨_, _, rfl, rfl, _, 10, _, hD.1, rfl, rfl, rfl⟩ (by decide) ⟨Nat.le_of_ble_eq_true rfl, Nat.le_of_ble_eq_true rfl⟩ ⟨Nat.le_of_ble_eq_true rfl, Nat.le_of_ble_eq_true rfl⟩ ?_
  replace hj := hj
  refine vm_J.go (M := lq_M nm (vm_Le7)) hOK (k := 11) (hs := [(61, 0, []), (61, 0, [])]) (f' := (668, (194, 13271), [.ref 100018, .ref 0, .ref 152, .int i], [.int (vm_sx X (i + 2).toNatClampNeg), .int (vm_sx X (i + 1).toNatClampNeg), .ref 152, r])) (h' := (G, I1, F1)) (hs' := []) rfl (vm_b2 rfl (vm_b2 rfl (vm_b2 rfl (vm_b2 rfl (vm_b2 rfl (vm_b2 (vm_b2 rfl b1) (vm_b2 rfl (vm_b2 rfl (vm_b2 rfl (vm_b2 rfl (vm_b2 (vm_b2 rfl b2) rfl))))))))))) ?_
  refine vm_J.call (M := lq_M nm (vm_Le7)) (Z := vm_M213) hOK (pc := 668) (en := (668, .invokevirtual 60, 3, [213, 1449, 0], .null)) rfl (n := 2) (k := 0) (mi := 213) trivial rfl rfl vm_z213 (cs := (194, 13271)) (av := [.ref 152, .int (vm_sx X (i + 1).toNatClampNeg), .int (vm_sx X (i + 2).toNatClampNeg)]) (rest := [r]) K2 ⟨_, _, rfl, rfl, _, 11, _, hR.1, rfl, rfl, rfl⟩ (lq_cat ht) ⟨Nat.le_of_ble_eq_true rfl, Nat.le_of_ble_eq_true rfl⟩ ⟨Nat.le_of_ble_eq_true rfl, Nat.le_of_ble_eq_true rfl⟩ ?_
  replace hj := hj
  rcases ht with ⟨hl, v, rfl⟩ | ⟨hl, v, rfl⟩
  · exact absurd hl (by decide)
  · refine vm_J.go (M := lq_M nm (vm_Le7)) hOK (k := 1) (hs := []) (f' := (bif vm_ic .eq v v then 1930 else 674, (194, 13271), [.ref 100018, .ref 0, .ref 152, .int i], [])) (h' := (G, I2, F2)) (hs' := []) rfl rfl (vm_J.bT (decide_eq_true rfl) hj)
theorem lc_11 {nm : String} {l : Launch} {X : vm_Cx} {G : List vm_Sh} {I : vm_IH} {F : vm_FH} {i : Int32} (hD : vm_isD G) (hR : vm_isR G) (h : Rel I F) (hb : lq_b X i) (hk : lq_K nm l X i G) : lq_N nm l X 676 i G I F := by
  have hOK : vm_OK (lq_M nm (vm_Le8)) := lq_ok vm_Lf8 rfl
  obtain ⟨-, b1, b2, b3, b4, b5⟩ := hb
  obtain ⟨r, I1, F1, I2, F2, ht, K1, K2, hr⟩ := call_drop (l := l) (X := X) (q := (vm_sx X (i + 1).toNatClampNeg)) (e := (vm_sx X (i + 2).toNatClampNeg)) hD hR h
  obtain ⟨h', hj⟩ := hk I2 F2 hr
  refine ⟨h', ?_⟩
  replace hj : vm_J l X (lq_M nm (vm_Le8)) _ _ _ _ := hj
  refine vm_J.go (M := lq_M nm (vm_Le8)) hOK (k := 11) (hs := [(61, 0, []), (61, 0, [])]) (f' := (687, (194, 13271), [.ref 100018, .ref 0, .ref 152, .int i], [.int (vm_sx X (i + 2).toNatClampNeg), .int (vm_sx X (i + 1).toNatClampNeg), .ref 0])) (h' := (G, I, F)) (hs' := []) rfl (vm_b2 rfl (vm_b2 rfl (vm_b2 rfl (vm_b2 rfl (vm_b2 rfl (vm_b2 (vm_b2 rfl b1) (vm_b2 rfl (vm_b2 rfl (vm_b2 rfl (vm_b2 rfl (vm_b2 (vm_b2 rfl b2) rfl))))))))))) ?_
  refine vm_J.call (M := lq_M nm (vm_Le8)) (Z := vm_M110) hOK (pc := 687) (en := (687, .invokevirtual 61, 3, [110, 641, 0], .null)) rfl (n := 2) (k := 0) (mi := 110) trivial rfl rfl vm_z110 (cs := (194, 13271)) (av := [.ref 0, .int (vm_sx X (i + 1).toNatClampNeg), .int (vm_sx X (i + 2).toNatClampNeg)]) (rest := []) K1 ⟨_, _, rfl, rfl, _, 10, _, hD.1, rfl, rfl, rfl⟩ (by decide) ⟨Nat.le_of_ble_eq_true rfl, Nat.le_of_ble_eq_true rfl⟩ ⟨Nat.le_of_ble_eq_true rfl, Nat.le_of_ble_eq_true rfl⟩ ?_
  replace hj := hj
  refine vm_J.go (M := lq_M nm (vm_Le8)) hOK (k := 11) (hs := [(61, 0, []), (61, 0, [])]) (f' := (701, (194, 13271), [.ref 100018, .ref 0, .ref 152, .int i], [.int (vm_sx X (i + 2).toNatClampNeg), .int (vm_sx X (i + 1).toNatClampNeg), .ref 152, r])) (h' := (G, I1, F1)) (hs' := []) rfl (vm_b2 rfl (vm_b2 rfl (vm_b2 rfl (vm_b2 rfl (vm_b2 rfl (vm_b2 (vm_b2 rfl b1) (vm_b2 rfl (vm_b2 rfl (vm_b2 rfl (vm_b2 rfl (vm_b2 (vm_b2 rfl b2) rfl))))))))))) ?_
  refine vm_J.call (M := lq_M nm (vm_Le8)) (Z := vm_M215) hOK (pc := 701) (en := (701, .invokevirtual 64, 3, [215, 1464, 0], .null)) rfl (n := 2) (k := 0) (mi := 215) trivial rfl rfl vm_z215 (cs := (194, 13271)) (av := [.ref 152, .int (vm_sx X (i + 1).toNatClampNeg), .int (vm_sx X (i + 2).toNatClampNeg)]) (rest := [r]) K2 ⟨_, _, rfl, rfl, _, 11, _, hR.1, rfl, rfl, rfl⟩ (lq_cat ht) ⟨Nat.le_of_ble_eq_true rfl, Nat.le_of_ble_eq_true rfl⟩ ⟨Nat.le_of_ble_eq_true rfl, Nat.le_of_ble_eq_true rfl⟩ ?_
  replace hj := hj
  rcases ht with ⟨hl, v, rfl⟩ | ⟨hl, v, rfl⟩
  · exact absurd hl (by decide)
  · refine vm_J.go (M := lq_M nm (vm_Le8)) hOK (k := 1) (hs := []) (f' := (bif vm_ic .eq v v then 1930 else 707, (194, 13271), [.ref 100018, .ref 0, .ref 152, .int i], [])) (h' := (G, I2, F2)) (hs' := []) rfl rfl (vm_J.bT (decide_eq_true rfl) hj)
theorem lc_12 {nm : String} {l : Launch} {X : vm_Cx} {G : List vm_Sh} {I : vm_IH} {F : vm_FH} {i : Int32} (hD : vm_isD G) (hR : vm_isR G) (h : Rel I F) (hb : lq_b X i) (hk : lq_K nm l X i G) : lq_N nm l X 709 i G I F := by
  have hOK : vm_OK (lq_M nm (vm_Le8 ++ vm_Le9)) := lq_ok (vm_allA vm_Lf8 vm_Lf9) rfl
  obtain ⟨-, b1, b2, b3, b4, b5⟩ := hb
  obtain ⟨r, I1, F1, I2, F2, ht, K1, K2, hr⟩ := call_change (l := l) (X := X) (q := (vm_sx X (i + 1).toNatClampNeg)) (e := (vm_sx X (i + 2).toNatClampNeg)) (c := (vm_sx X (i + 3).toNatClampNeg)) hD hR h
  obtain ⟨h', hj⟩ := hk I2 F2 hr
  refine ⟨h', ?_⟩
  replace hj : vm_J l X (lq_M nm (vm_Le8 ++ vm_Le9)) _ _ _ _ := hj
  refine vm_J.go (M := lq_M nm (vm_Le8 ++ vm_Le9)) hOK (k := 16) (hs := [(61, 0, []), (61, 0, []), (61, 0, [])]) (f' := (725, (194, 13271), [.ref 100018, .ref 0, .ref 152, .int i], [.int (vm_sx X (i + 3).toNatClampNeg), .int (vm_sx X (i + 2).toNatClampNeg), .int (vm_sx X (i + 1).toNatClampNeg), .ref 0])) (h' := (G, I, F)) (hs' := []) rfl (vm_b2 rfl (vm_b2 rfl (vm_b2 rfl (vm_b2 rfl (vm_b2 rfl (vm_b2 (vm_b2 rfl b1) (vm_b2 rfl (vm_b2 rfl (vm_b2 rfl (vm_b2 rfl (vm_b2 (vm_b2 rfl b2) (vm_b2 rfl (vm_b2 rfl (vm_b2 rfl (vm_b2 rfl (vm_b2 (vm_b2 rfl b3) rfl)))))))))))))))) ?_
  refine vm_J.call (M := lq_M nm (vm_Le8 ++ vm_Le9)) (Z := vm_M111) hOK (pc := 725) (en := (725, .invokevirtual 65, 3, [111, 654, 0], .null)) rfl (n := 3) (k := 0) (mi := 111) trivial rfl rfl vm_z111 (cs := (194, 13271)) (av := [.ref 0, .int (vm_sx X (i + 1).toNatClampNeg), .int (vm_sx X (i + 2).toNatClampNeg), .int (vm_sx X (i + 3).toNatClampNeg)]) (rest := []) K1 ⟨_, _, rfl, rfl, _, 10, _, hD.1, rfl, rfl, rfl⟩ (by decide) ⟨Nat.le_of_ble_eq_true rfl, Nat.le_of_ble_eq_true rfl⟩ ⟨Nat.le_of_ble_eq_true rfl, Nat.le_of_ble_eq_true rfl⟩ ?_
  replace hj := hj
  refine vm_J.go (M := lq_M nm (vm_Le8 ++ vm_Le9)) hOK (k := 16) (hs := [(61, 0, []), (61, 0, []), (61, 0, [])]) (f' := (744, (194, 13271), [.ref 100018, .ref 0, .ref 152, .int i], [.int (vm_sx X (i + 3).toNatClampNeg), .int (vm_sx X (i + 2).toNatClampNeg), .int (vm_sx X (i + 1).toNatClampNeg), .ref 152, r])) (h' := (G, I1, F1)) (hs' := []) rfl (vm_b2 rfl (vm_b2 rfl (vm_b2 rfl (vm_b2 rfl (vm_b2 rfl (vm_b2 (vm_b2 rfl b1) (vm_b2 rfl (vm_b2 rfl (vm_b2 rfl (vm_b2 rfl (vm_b2 (vm_b2 rfl b2) (vm_b2 rfl (vm_b2 rfl (vm_b2 rfl (vm_b2 rfl (vm_b2 (vm_b2 rfl b3) rfl)))))))))))))))) ?_
  refine vm_J.call (M := lq_M nm (vm_Le8 ++ vm_Le9)) (Z := vm_M216) hOK (pc := 744) (en := (744, .invokevirtual 68, 3, [216, 1476, 0], .null)) rfl (n := 3) (k := 0) (mi := 216) trivial rfl rfl vm_z216 (cs := (194, 13271)) (av := [.ref 152, .int (vm_sx X (i + 1).toNatClampNeg), .int (vm_sx X (i + 2).toNatClampNeg), .int (vm_sx X (i + 3).toNatClampNeg)]) (rest := [r]) K2 ⟨_, _, rfl, rfl, _, 11, _, hR.1, rfl, rfl, rfl⟩ (lq_cat ht) ⟨Nat.le_of_ble_eq_true rfl, Nat.le_of_ble_eq_true rfl⟩ ⟨Nat.le_of_ble_eq_true rfl, Nat.le_of_ble_eq_true rfl⟩ ?_
  replace hj := hj
  rcases ht with ⟨hl, v, rfl⟩ | ⟨hl, v, rfl⟩
  · exact absurd hl (by decide)
  · refine vm_J.go (M := lq_M nm (vm_Le8 ++ vm_Le9)) hOK (k := 1) (hs := []) (f' := (bif vm_ic .eq v v then 1930 else 750, (194, 13271), [.ref 100018, .ref 0, .ref 152, .int i], [])) (h' := (G, I2, F2)) (hs' := []) rfl rfl (vm_J.bT (decide_eq_true rfl) hj)
theorem lc_13 {nm : String} {l : Launch} {X : vm_Cx} {G : List vm_Sh} {I : vm_IH} {F : vm_FH} {i : Int32} (hD : vm_isD G) (hR : vm_isR G) (h : Rel I F) (hb : lq_b X i) (hk : lq_K nm l X i G) : lq_N nm l X 752 i G I F := by
  have hOK : vm_OK (lq_M nm (vm_Le9 ++ vm_Le10)) := lq_ok (vm_allA vm_Lf9 vm_Lf10) rfl
  obtain ⟨-, b1, b2, b3, b4, b5⟩ := hb
  by_cases hc : (vm_sx X (i + 3).toNatClampNeg) = 0
  · obtain ⟨r, I1, F1, I2, F2, ht, K1, K2, hr⟩ := call_lock (l := l) (X := X) (q := (vm_sx X (i + 1).toNatClampNeg)) (e := (vm_sx X (i + 2).toNatClampNeg)) (c := 0) hD hR h (Or.inl rfl)
    obtain ⟨h', hj⟩ := hk I2 F2 hr
    refine ⟨h', ?_⟩
    replace hj : vm_J l X (lq_M nm (vm_Le9 ++ vm_Le10)) _ _ _ _ := hj
    refine vm_J.go (M := lq_M nm (vm_Le9 ++ vm_Le10)) hOK (k := 16) (hs := [(61, 0, []), (61, 0, []), (61, 0, [])]) (f' := (768, (194, 13271), [.ref 100018, .ref 0, .ref 152, .int i], [.int (vm_sx X (i + 3).toNatClampNeg), .int (vm_sx X (i + 2).toNatClampNeg), .int (vm_sx X (i + 1).toNatClampNeg), .ref 0])) (h' := (G, I, F)) (hs' := []) rfl (vm_b2 rfl (vm_b2 rfl (vm_b2 rfl (vm_b2 rfl (vm_b2 rfl (vm_b2 (vm_b2 rfl b1) (vm_b2 rfl (vm_b2 rfl (vm_b2 rfl (vm_b2 rfl (vm_b2 (vm_b2 rfl b2) (vm_b2 rfl (vm_b2 rfl (vm_b2 rfl (vm_b2 rfl (vm_b2 (vm_b2 rfl b3) rfl)))))))))))))))) ?_
    refine vm_J.go (M := lq_M nm (vm_Le9 ++ vm_Le10)) hOK (k := 1) (hs := []) (f' := (bif vm_ic .eq (vm_sx X (i + 3).toNatClampNeg) 0 then 775 else 771, (194, 13271), [.ref 100018, .ref 0, .ref 152, .int i], [.int (vm_sx X (i + 2).toNatClampNeg), .int (vm_sx X (i + 1).toNatClampNeg), .ref 0])) (h' := (G, I, F)) (hs' := []) rfl rfl ?_
    refine vm_J.bT (decide_eq_true hc) ?_
    refine vm_J.go (M := lq_M nm (vm_Le9 ++ vm_Le10)) hOK (k := 1) (hs := []) (f' := (776, (194, 13271), [.ref 100018, .ref 0, .ref 152, .int i], [.int 0, .int (vm_sx X (i + 2).toNatClampNeg), .int (vm_sx X (i + 1).toNatClampNeg), .ref 0])) (h' := (G, I, F)) (hs' := []) rfl (vm_b2 rfl rfl) ?_
    refine vm_J.call (M := lq_M nm (vm_Le9 ++ vm_Le10)) (Z := vm_M112) hOK (pc := 776) (en := (776, .invokevirtual 69, 3, [112, 663, 0], .null)) rfl (n := 3) (k := 0) (mi := 112) trivial rfl rfl vm_z112 (cs := (194, 13271)) (av := [.ref 0, .int (vm_sx X (i + 1).toNatClampNeg), .int (vm_sx X (i + 2).toNatClampNeg), .int 0]) (rest := []) K1 ⟨_, _, rfl, rfl, _, 10, _, hD.1, rfl, rfl, rfl⟩ (by decide) ⟨Nat.le_of_ble_eq_true rfl, Nat.le_of_ble_eq_true rfl⟩ ⟨Nat.le_of_ble_eq_true rfl, Nat.le_of_ble_eq_true rfl⟩ ?_
    replace hj := hj
    refine vm_J.go (M := lq_M nm (vm_Le9 ++ vm_Le10)) hOK (k := 16) (hs := [(61, 0, []), (61, 0, []), (61, 0, [])]) (f' := (795, (194, 13271), [.ref 100018, .ref 0, .ref 152, .int i], [.int (vm_sx X (i + 3).toNatClampNeg), .int (vm_sx X (i + 2).toNatClampNeg), .int (vm_sx X (i + 1).toNatClampNeg), .ref 152, r])) (h' := (G, I1, F1)) (hs' := []) rfl (vm_b2 rfl (vm_b2 rfl (vm_b2 rfl (vm_b2 rfl (vm_b2 rfl (vm_b2 (vm_b2 rfl b1) (vm_b2 rfl (vm_b2 rfl (vm_b2 rfl (vm_b2 rfl (vm_b2 (vm_b2 rfl b2) (vm_b2 rfl (vm_b2 rfl (vm_b2 rfl (vm_b2 rfl (vm_b2 (vm_b2 rfl b3) rfl)))))))))))))))) ?_
    refine vm_J.go (M := lq_M nm (vm_Le9 ++ vm_Le10)) hOK (k := 1) (hs := []) (f' := (bif vm_ic .eq (vm_sx X (i + 3).toNatClampNeg) 0 then 802 else 798, (194, 13271), [.ref 100018, .ref 0, .ref 152, .int i], [.int (vm_sx X (i + 2).toNatClampNeg), .int (vm_sx X (i + 1).toNatClampNeg), .ref 152, r])) (h' := (G, I1, F1)) (hs' := []) rfl rfl ?_
    refine vm_J.bT (decide_eq_true hc) ?_
    refine vm_J.go (M := lq_M nm (vm_Le9 ++ vm_Le10)) hOK (k := 1) (hs := []) (f' := (803, (194, 13271), [.ref 100018, .ref 0, .ref 152, .int i], [.int 0, .int (vm_sx X (i + 2).toNatClampNeg), .int (vm_sx X (i + 1).toNatClampNeg), .ref 152, r])) (h' := (G, I1, F1)) (hs' := []) rfl (vm_b2 rfl rfl) ?_
    refine vm_J.call (M := lq_M nm (vm_Le9 ++ vm_Le10)) (Z := vm_M217) hOK (pc := 803) (en := (803, .invokevirtual 73, 3, [217, 1480, 0], .null)) rfl (n := 3) (k := 0) (mi := 217) trivial rfl rfl vm_z217 (cs := (194, 13271)) (av := [.ref 152, .int (vm_sx X (i + 1).toNatClampNeg), .int (vm_sx X (i + 2).toNatClampNeg), .int 0]) (rest := [r]) K2 ⟨_, _, rfl, rfl, _, 11, _, hR.1, rfl, rfl, rfl⟩ (lq_cat ht) ⟨Nat.le_of_ble_eq_true rfl, Nat.le_of_ble_eq_true rfl⟩ ⟨Nat.le_of_ble_eq_true rfl, Nat.le_of_ble_eq_true rfl⟩ ?_
    replace hj := hj
    rcases ht with ⟨hl, v, rfl⟩ | ⟨hl, v, rfl⟩
    · exact absurd hl (by decide)
    · refine vm_J.go (M := lq_M nm (vm_Le9 ++ vm_Le10)) hOK (k := 1) (hs := []) (f' := (bif vm_ic .eq v v then 1930 else 809, (194, 13271), [.ref 100018, .ref 0, .ref 152, .int i], [])) (h' := (G, I2, F2)) (hs' := []) rfl rfl (vm_J.bT (decide_eq_true rfl) hj)
  · obtain ⟨r, I1, F1, I2, F2, ht, K1, K2, hr⟩ := call_lock (l := l) (X := X) (q := (vm_sx X (i + 1).toNatClampNeg)) (e := (vm_sx X (i + 2).toNatClampNeg)) (c := 1) hD hR h (Or.inr rfl)
    obtain ⟨h', hj⟩ := hk I2 F2 hr
    refine ⟨h', ?_⟩
    replace hj : vm_J l X (lq_M nm (vm_Le9 ++ vm_Le10)) _ _ _ _ := hj
    refine vm_J.go (M := lq_M nm (vm_Le9 ++ vm_Le10)) hOK (k := 16) (hs := [(61, 0, []), (61, 0, []), (61, 0, [])]) (f' := (768, (194, 13271), [.ref 100018, .ref 0, .ref 152, .int i], [.int (vm_sx X (i + 3).toNatClampNeg), .int (vm_sx X (i + 2).toNatClampNeg), .int (vm_sx X (i + 1).toNatClampNeg), .ref 0])) (h' := (G, I, F)) (hs' := []) rfl (vm_b2 rfl (vm_b2 rfl (vm_b2 rfl (vm_b2 rfl (vm_b2 rfl (vm_b2 (vm_b2 rfl b1) (vm_b2 rfl (vm_b2 rfl (vm_b2 rfl (vm_b2 rfl (vm_b2 (vm_b2 rfl b2) (vm_b2 rfl (vm_b2 rfl (vm_b2 rfl (vm_b2 rfl (vm_b2 (vm_b2 rfl b3) rfl)))))))))))))))) ?_
    refine vm_J.go (M := lq_M nm (vm_Le9 ++ vm_Le10)) hOK (k := 1) (hs := []) (f' := (bif vm_ic .eq (vm_sx X (i + 3).toNatClampNeg) 0 then 775 else 771, (194, 13271), [.ref 100018, .ref 0, .ref 152, .int i], [.int (vm_sx X (i + 2).toNatClampNeg), .int (vm_sx X (i + 1).toNatClampNeg), .ref 0])) (h' := (G, I, F)) (hs' := []) rfl rfl ?_
    refine vm_J.bF (decide_eq_false hc) ?_
    refine vm_J.go (M := lq_M nm (vm_Le9 ++ vm_Le10)) hOK (k := 2) (hs := []) (f' := (776, (194, 13271), [.ref 100018, .ref 0, .ref 152, .int i], [.int 1, .int (vm_sx X (i + 2).toNatClampNeg), .int (vm_sx X (i + 1).toNatClampNeg), .ref 0])) (h' := (G, I, F)) (hs' := []) rfl (vm_b2 rfl (vm_b2 rfl rfl)) ?_
    refine vm_J.call (M := lq_M nm (vm_Le9 ++ vm_Le10)) (Z := vm_M112) hOK (pc := 776) (en := (776, .invokevirtual 69, 3, [112, 663, 0], .null)) rfl (n := 3) (k := 0) (mi := 112) trivial rfl rfl vm_z112 (cs := (194, 13271)) (av := [.ref 0, .int (vm_sx X (i + 1).toNatClampNeg), .int (vm_sx X (i + 2).toNatClampNeg), .int 1]) (rest := []) K1 ⟨_, _, rfl, rfl, _, 10, _, hD.1, rfl, rfl, rfl⟩ (by decide) ⟨Nat.le_of_ble_eq_true rfl, Nat.le_of_ble_eq_true rfl⟩ ⟨Nat.le_of_ble_eq_true rfl, Nat.le_of_ble_eq_true rfl⟩ ?_
    replace hj := hj
    refine vm_J.go (M := lq_M nm (vm_Le9 ++ vm_Le10)) hOK (k := 16) (hs := [(61, 0, []), (61, 0, []), (61, 0, [])]) (f' := (795, (194, 13271), [.ref 100018, .ref 0, .ref 152, .int i], [.int (vm_sx X (i + 3).toNatClampNeg), .int (vm_sx X (i + 2).toNatClampNeg), .int (vm_sx X (i + 1).toNatClampNeg), .ref 152, r])) (h' := (G, I1, F1)) (hs' := []) rfl (vm_b2 rfl (vm_b2 rfl (vm_b2 rfl (vm_b2 rfl (vm_b2 rfl (vm_b2 (vm_b2 rfl b1) (vm_b2 rfl (vm_b2 rfl (vm_b2 rfl (vm_b2 rfl (vm_b2 (vm_b2 rfl b2) (vm_b2 rfl (vm_b2 rfl (vm_b2 rfl (vm_b2 rfl (vm_b2 (vm_b2 rfl b3) rfl)))))))))))))))) ?_
    refine vm_J.go (M := lq_M nm (vm_Le9 ++ vm_Le10)) hOK (k := 1) (hs := []) (f' := (bif vm_ic .eq (vm_sx X (i + 3).toNatClampNeg) 0 then 802 else 798, (194, 13271), [.ref 100018, .ref 0, .ref 152, .int i], [.int (vm_sx X (i + 2).toNatClampNeg), .int (vm_sx X (i + 1).toNatClampNeg), .ref 152, r])) (h' := (G, I1, F1)) (hs' := []) rfl rfl ?_
    refine vm_J.bF (decide_eq_false hc) ?_
    refine vm_J.go (M := lq_M nm (vm_Le9 ++ vm_Le10)) hOK (k := 2) (hs := []) (f' := (803, (194, 13271), [.ref 100018, .ref 0, .ref 152, .int i], [.int 1, .int (vm_sx X (i + 2).toNatClampNeg), .int (vm_sx X (i + 1).toNatClampNeg), .ref 152, r])) (h' := (G, I1, F1)) (hs' := []) rfl (vm_b2 rfl (vm_b2 rfl rfl)) ?_
    refine vm_J.call (M := lq_M nm (vm_Le9 ++ vm_Le10)) (Z := vm_M217) hOK (pc := 803) (en := (803, .invokevirtual 73, 3, [217, 1480, 0], .null)) rfl (n := 3) (k := 0) (mi := 217) trivial rfl rfl vm_z217 (cs := (194, 13271)) (av := [.ref 152, .int (vm_sx X (i + 1).toNatClampNeg), .int (vm_sx X (i + 2).toNatClampNeg), .int 1]) (rest := [r]) K2 ⟨_, _, rfl, rfl, _, 11, _, hR.1, rfl, rfl, rfl⟩ (lq_cat ht) ⟨Nat.le_of_ble_eq_true rfl, Nat.le_of_ble_eq_true rfl⟩ ⟨Nat.le_of_ble_eq_true rfl, Nat.le_of_ble_eq_true rfl⟩ ?_
    replace hj := hj
    rcases ht with ⟨hl, v, rfl⟩ | ⟨hl, v, rfl⟩
    · exact absurd hl (by decide)
    · refine vm_J.go (M := lq_M nm (vm_Le9 ++ vm_Le10)) hOK (k := 1) (hs := []) (f' := (bif vm_ic .eq v v then 1930 else 809, (194, 13271), [.ref 100018, .ref 0, .ref 152, .int i], [])) (h' := (G, I2, F2)) (hs' := []) rfl rfl (vm_J.bT (decide_eq_true rfl) hj)
theorem lc_14 {nm : String} {l : Launch} {X : vm_Cx} {G : List vm_Sh} {I : vm_IH} {F : vm_FH} {i : Int32} (hD : vm_isD G) (hR : vm_isR G) (h : Rel I F) (hb : lq_b X i) (hk : lq_K nm l X i G) : lq_N nm l X 811 i G I F := by
  have hOK : vm_OK (lq_M nm (vm_Le10)) := lq_ok vm_Lf10 rfl
  obtain ⟨-, b1, b2, b3, b4, b5⟩ := hb
  obtain ⟨r, I1, F1, I2, F2, ht, K1, K2, hr⟩ := call_told (l := l) (X := X) (q := (vm_sx X (i + 1).toNatClampNeg)) (e := (vm_sx X (i + 2).toNatClampNeg)) (c := (vm_sx X (i + 3).toNatClampNeg)) hD hR h
  obtain ⟨h', hj⟩ := hk I2 F2 hr
  refine ⟨h', ?_⟩
  replace hj : vm_J l X (lq_M nm (vm_Le10)) _ _ _ _ := hj
  refine vm_J.go (M := lq_M nm (vm_Le10)) hOK (k := 16) (hs := [(61, 0, []), (61, 0, []), (61, 0, [])]) (f' := (827, (194, 13271), [.ref 100018, .ref 0, .ref 152, .int i], [.int (vm_sx X (i + 3).toNatClampNeg), .int (vm_sx X (i + 2).toNatClampNeg), .int (vm_sx X (i + 1).toNatClampNeg), .ref 0])) (h' := (G, I, F)) (hs' := []) rfl (vm_b2 rfl (vm_b2 rfl (vm_b2 rfl (vm_b2 rfl (vm_b2 rfl (vm_b2 (vm_b2 rfl b1) (vm_b2 rfl (vm_b2 rfl (vm_b2 rfl (vm_b2 rfl (vm_b2 (vm_b2 rfl b2) (vm_b2 rfl (vm_b2 rfl (vm_b2 rfl (vm_b2 rfl (vm_b2 (vm_b2 rfl b3) rfl)))))))))))))))) ?_
  refine vm_J.call (M := lq_M nm (vm_Le10)) (Z := vm_M113) hOK (pc := 827) (en := (827, .invokevirtual 74, 3, [113, 667, 0], .null)) rfl (n := 3) (k := 0) (mi := 113) trivial rfl rfl vm_z113 (cs := (194, 13271)) (av := [.ref 0, .int (vm_sx X (i + 1).toNatClampNeg), .int (vm_sx X (i + 2).toNatClampNeg), .int (vm_sx X (i + 3).toNatClampNeg)]) (rest := []) K1 ⟨_, _, rfl, rfl, _, 10, _, hD.1, rfl, rfl, rfl⟩ (by decide) ⟨Nat.le_of_ble_eq_true rfl, Nat.le_of_ble_eq_true rfl⟩ ⟨Nat.le_of_ble_eq_true rfl, Nat.le_of_ble_eq_true rfl⟩ ?_
  replace hj := hj
  refine vm_J.go (M := lq_M nm (vm_Le10)) hOK (k := 16) (hs := [(61, 0, []), (61, 0, []), (61, 0, [])]) (f' := (846, (194, 13271), [.ref 100018, .ref 0, .ref 152, .int i], [.int (vm_sx X (i + 3).toNatClampNeg), .int (vm_sx X (i + 2).toNatClampNeg), .int (vm_sx X (i + 1).toNatClampNeg), .ref 152, r])) (h' := (G, I1, F1)) (hs' := []) rfl (vm_b2 rfl (vm_b2 rfl (vm_b2 rfl (vm_b2 rfl (vm_b2 rfl (vm_b2 (vm_b2 rfl b1) (vm_b2 rfl (vm_b2 rfl (vm_b2 rfl (vm_b2 rfl (vm_b2 (vm_b2 rfl b2) (vm_b2 rfl (vm_b2 rfl (vm_b2 rfl (vm_b2 rfl (vm_b2 (vm_b2 rfl b3) rfl)))))))))))))))) ?_
  refine vm_J.call (M := lq_M nm (vm_Le10)) (Z := vm_M218) hOK (pc := 846) (en := (846, .invokevirtual 77, 3, [218, 1484, 0], .null)) rfl (n := 3) (k := 0) (mi := 218) trivial rfl rfl vm_z218 (cs := (194, 13271)) (av := [.ref 152, .int (vm_sx X (i + 1).toNatClampNeg), .int (vm_sx X (i + 2).toNatClampNeg), .int (vm_sx X (i + 3).toNatClampNeg)]) (rest := [r]) K2 ⟨_, _, rfl, rfl, _, 11, _, hR.1, rfl, rfl, rfl⟩ (lq_cat ht) ⟨Nat.le_of_ble_eq_true rfl, Nat.le_of_ble_eq_true rfl⟩ ⟨Nat.le_of_ble_eq_true rfl, Nat.le_of_ble_eq_true rfl⟩ ?_
  replace hj := hj
  rcases ht with ⟨hl, v, rfl⟩ | ⟨hl, v, rfl⟩
  · exact absurd hl (by decide)
  · refine vm_J.go (M := lq_M nm (vm_Le10)) hOK (k := 1) (hs := []) (f' := (bif vm_ic .eq v v then 1930 else 852, (194, 13271), [.ref 100018, .ref 0, .ref 152, .int i], [])) (h' := (G, I2, F2)) (hs' := []) rfl rfl (vm_J.bT (decide_eq_true rfl) hj)
theorem lc_15 {nm : String} {l : Launch} {X : vm_Cx} {G : List vm_Sh} {I : vm_IH} {F : vm_FH} {i : Int32} (hD : vm_isD G) (hR : vm_isR G) (h : Rel I F) (hb : lq_b X i) (hk : lq_K nm l X i G) : lq_N nm l X 854 i G I F := by
  have hOK : vm_OK (lq_M nm (vm_Le10 ++ vm_Le11)) := lq_ok (vm_allA vm_Lf10 vm_Lf11) rfl
  obtain ⟨-, b1, b2, b3, b4, b5⟩ := hb
  obtain ⟨r, I1, F1, I2, F2, ht, K1, K2, hr⟩ := call_feed (l := l) (X := X) (c := (vm_sx X (i + 1).toNatClampNeg)) hD hR h
  obtain ⟨h', hj⟩ := hk I2 F2 hr
  refine ⟨h', ?_⟩
  replace hj : vm_J l X (lq_M nm (vm_Le10 ++ vm_Le11)) _ _ _ _ := hj
  refine vm_J.go (M := lq_M nm (vm_Le10 ++ vm_Le11)) hOK (k := 6) (hs := [(61, 0, [])]) (f' := (860, (194, 13271), [.ref 100018, .ref 0, .ref 152, .int i], [.int (vm_sx X (i + 1).toNatClampNeg), .ref 0])) (h' := (G, I, F)) (hs' := []) rfl (vm_b2 rfl (vm_b2 rfl (vm_b2 rfl (vm_b2 rfl (vm_b2 rfl (vm_b2 (vm_b2 rfl b1) rfl)))))) ?_
  refine vm_J.call (M := lq_M nm (vm_Le10 ++ vm_Le11)) (Z := vm_M114) hOK (pc := 860) (en := (860, .invokevirtual 78, 3, [114, 671, 0], .null)) rfl (n := 1) (k := 0) (mi := 114) trivial rfl rfl vm_z114 (cs := (194, 13271)) (av := [.ref 0, .int (vm_sx X (i + 1).toNatClampNeg)]) (rest := []) K1 ⟨_, _, rfl, rfl, _, 10, _, hD.1, rfl, rfl, rfl⟩ (by decide) ⟨Nat.le_of_ble_eq_true rfl, Nat.le_of_ble_eq_true rfl⟩ ⟨Nat.le_of_ble_eq_true rfl, Nat.le_of_ble_eq_true rfl⟩ ?_
  replace hj := hj
  refine vm_J.go (M := lq_M nm (vm_Le10 ++ vm_Le11)) hOK (k := 6) (hs := [(61, 0, [])]) (f' := (869, (194, 13271), [.ref 100018, .ref 0, .ref 152, .int i], [.int (vm_sx X (i + 1).toNatClampNeg), .ref 152, r])) (h' := (G, I1, F1)) (hs' := []) rfl (vm_b2 rfl (vm_b2 rfl (vm_b2 rfl (vm_b2 rfl (vm_b2 rfl (vm_b2 (vm_b2 rfl b1) rfl)))))) ?_
  refine vm_J.call (M := lq_M nm (vm_Le10 ++ vm_Le11)) (Z := vm_M219) hOK (pc := 869) (en := (869, .invokevirtual 82, 3, [219, 1488, 0], .null)) rfl (n := 1) (k := 0) (mi := 219) trivial rfl rfl vm_z219 (cs := (194, 13271)) (av := [.ref 152, .int (vm_sx X (i + 1).toNatClampNeg)]) (rest := [r]) K2 ⟨_, _, rfl, rfl, _, 11, _, hR.1, rfl, rfl, rfl⟩ (lq_cat ht) ⟨Nat.le_of_ble_eq_true rfl, Nat.le_of_ble_eq_true rfl⟩ ⟨Nat.le_of_ble_eq_true rfl, Nat.le_of_ble_eq_true rfl⟩ ?_
  replace hj := hj
  rcases ht with ⟨hl, v, rfl⟩ | ⟨hl, v, rfl⟩
  · exact absurd hl (by decide)
  · refine vm_J.go (M := lq_M nm (vm_Le10 ++ vm_Le11)) hOK (k := 1) (hs := []) (f' := (bif vm_ic .eq v v then 1930 else 875, (194, 13271), [.ref 100018, .ref 0, .ref 152, .int i], [])) (h' := (G, I2, F2)) (hs' := []) rfl rfl (vm_J.bT (decide_eq_true rfl) hj)
theorem lc_16 {nm : String} {l : Launch} {X : vm_Cx} {G : List vm_Sh} {I : vm_IH} {F : vm_FH} {i : Int32} (hD : vm_isD G) (hR : vm_isR G) (h : Rel I F) (hb : lq_b X i) (hk : lq_K nm l X i G) : lq_N nm l X 877 i G I F := by
  have hOK : vm_OK (lq_M nm (vm_Le11)) := lq_ok vm_Lf11 rfl
  obtain ⟨-, b1, b2, b3, b4, b5⟩ := hb
  obtain ⟨r, I1, F1, I2, F2, ht, K1, K2, hr⟩ := call_read (l := l) (X := X) (q := (vm_sx X (i + 1).toNatClampNeg)) hD hR h
  obtain ⟨h', hj⟩ := hk I2 F2 hr
  refine ⟨h', ?_⟩
  replace hj : vm_J l X (lq_M nm (vm_Le11)) _ _ _ _ := hj
  refine vm_J.go (M := lq_M nm (vm_Le11)) hOK (k := 6) (hs := [(61, 0, [])]) (f' := (883, (194, 13271), [.ref 100018, .ref 0, .ref 152, .int i], [.int (vm_sx X (i + 1).toNatClampNeg), .ref 0])) (h' := (G, I, F)) (hs' := []) rfl (vm_b2 rfl (vm_b2 rfl (vm_b2 rfl (vm_b2 rfl (vm_b2 rfl (vm_b2 (vm_b2 rfl b1) rfl)))))) ?_
  refine vm_J.call (M := lq_M nm (vm_Le11)) (Z := vm_M115) hOK (pc := 883) (en := (883, .invokevirtual 83, 3, [115, 680, 0], .null)) rfl (n := 1) (k := 0) (mi := 115) trivial rfl rfl vm_z115 (cs := (194, 13271)) (av := [.ref 0, .int (vm_sx X (i + 1).toNatClampNeg)]) (rest := []) K1 ⟨_, _, rfl, rfl, _, 10, _, hD.1, rfl, rfl, rfl⟩ (by decide) ⟨Nat.le_of_ble_eq_true rfl, Nat.le_of_ble_eq_true rfl⟩ ⟨Nat.le_of_ble_eq_true rfl, Nat.le_of_ble_eq_true rfl⟩ ?_
  replace hj := hj
  refine vm_J.go (M := lq_M nm (vm_Le11)) hOK (k := 6) (hs := [(61, 0, [])]) (f' := (892, (194, 13271), [.ref 100018, .ref 0, .ref 152, .int i], [.int (vm_sx X (i + 1).toNatClampNeg), .ref 152, r])) (h' := (G, I1, F1)) (hs' := []) rfl (vm_b2 rfl (vm_b2 rfl (vm_b2 rfl (vm_b2 rfl (vm_b2 rfl (vm_b2 (vm_b2 rfl b1) rfl)))))) ?_
  refine vm_J.call (M := lq_M nm (vm_Le11)) (Z := vm_M227) hOK (pc := 892) (en := (892, .invokevirtual 86, 3, [227, 1492, 0], .null)) rfl (n := 1) (k := 0) (mi := 227) trivial rfl rfl vm_z227 (cs := (194, 13271)) (av := [.ref 152, .int (vm_sx X (i + 1).toNatClampNeg)]) (rest := [r]) K2 ⟨_, _, rfl, rfl, _, 11, _, hR.1, rfl, rfl, rfl⟩ (lq_cat ht) ⟨Nat.le_of_ble_eq_true rfl, Nat.le_of_ble_eq_true rfl⟩ ⟨Nat.le_of_ble_eq_true rfl, Nat.le_of_ble_eq_true rfl⟩ ?_
  replace hj := hj
  rcases ht with ⟨hl, v, rfl⟩ | ⟨hl, v, rfl⟩
  · exact absurd hl (by decide)
  · refine vm_J.go (M := lq_M nm (vm_Le11)) hOK (k := 1) (hs := []) (f' := (bif vm_ic .eq v v then 1930 else 898, (194, 13271), [.ref 100018, .ref 0, .ref 152, .int i], [])) (h' := (G, I2, F2)) (hs' := []) rfl rfl (vm_J.bT (decide_eq_true rfl) hj)
theorem lc_17 {nm : String} {l : Launch} {X : vm_Cx} {G : List vm_Sh} {I : vm_IH} {F : vm_FH} {i : Int32} (hD : vm_isD G) (hR : vm_isR G) (h : Rel I F) (hb : lq_b X i) (hk : lq_K nm l X i G) : lq_N nm l X 900 i G I F := by
  have hOK : vm_OK (lq_M nm (vm_Le11 ++ vm_Le12)) := lq_ok (vm_allA vm_Lf11 vm_Lf12) rfl
  obtain ⟨-, b1, b2, b3, b4, b5⟩ := hb
  obtain ⟨r, I1, F1, I2, F2, ht, K1, K2, hr⟩ := call_cut (l := l) (X := X) (q := (vm_sx X (i + 1).toNatClampNeg)) (e := (vm_sx X (i + 2).toNatClampNeg)) (k := (vm_sx X (i + 3).toNatClampNeg)) hD hR h
  obtain ⟨h', hj⟩ := hk I2 F2 hr
  refine ⟨h', ?_⟩
  replace hj : vm_J l X (lq_M nm (vm_Le11 ++ vm_Le12)) _ _ _ _ := hj
  refine vm_J.go (M := lq_M nm (vm_Le11 ++ vm_Le12)) hOK (k := 16) (hs := [(61, 0, []), (61, 0, []), (61, 0, [])]) (f' := (916, (194, 13271), [.ref 100018, .ref 0, .ref 152, .int i], [.int (vm_sx X (i + 3).toNatClampNeg), .int (vm_sx X (i + 2).toNatClampNeg), .int (vm_sx X (i + 1).toNatClampNeg), .ref 0])) (h' := (G, I, F)) (hs' := []) rfl (vm_b2 rfl (vm_b2 rfl (vm_b2 rfl (vm_b2 rfl (vm_b2 rfl (vm_b2 (vm_b2 rfl b1) (vm_b2 rfl (vm_b2 rfl (vm_b2 rfl (vm_b2 rfl (vm_b2 (vm_b2 rfl b2) (vm_b2 rfl (vm_b2 rfl (vm_b2 rfl (vm_b2 rfl (vm_b2 (vm_b2 rfl b3) rfl)))))))))))))))) ?_
  refine vm_J.call (M := lq_M nm (vm_Le11 ++ vm_Le12)) (Z := vm_M116) hOK (pc := 916) (en := (916, .invokevirtual 87, 3, [116, 725, 0], .null)) rfl (n := 3) (k := 0) (mi := 116) trivial rfl rfl vm_z116 (cs := (194, 13271)) (av := [.ref 0, .int (vm_sx X (i + 1).toNatClampNeg), .int (vm_sx X (i + 2).toNatClampNeg), .int (vm_sx X (i + 3).toNatClampNeg)]) (rest := []) K1 ⟨_, _, rfl, rfl, _, 10, _, hD.1, rfl, rfl, rfl⟩ (by decide) ⟨Nat.le_of_ble_eq_true rfl, Nat.le_of_ble_eq_true rfl⟩ ⟨Nat.le_of_ble_eq_true rfl, Nat.le_of_ble_eq_true rfl⟩ ?_
  replace hj := hj
  refine vm_J.go (M := lq_M nm (vm_Le11 ++ vm_Le12)) hOK (k := 16) (hs := [(61, 0, []), (61, 0, []), (61, 0, [])]) (f' := (935, (194, 13271), [.ref 100018, .ref 0, .ref 152, .int i], [.int (vm_sx X (i + 3).toNatClampNeg), .int (vm_sx X (i + 2).toNatClampNeg), .int (vm_sx X (i + 1).toNatClampNeg), .ref 152, r])) (h' := (G, I1, F1)) (hs' := []) rfl (vm_b2 rfl (vm_b2 rfl (vm_b2 rfl (vm_b2 rfl (vm_b2 rfl (vm_b2 (vm_b2 rfl b1) (vm_b2 rfl (vm_b2 rfl (vm_b2 rfl (vm_b2 rfl (vm_b2 (vm_b2 rfl b2) (vm_b2 rfl (vm_b2 rfl (vm_b2 rfl (vm_b2 rfl (vm_b2 (vm_b2 rfl b3) rfl)))))))))))))))) ?_
  refine vm_J.call (M := lq_M nm (vm_Le11 ++ vm_Le12)) (Z := vm_M229) hOK (pc := 935) (en := (935, .invokevirtual 90, 3, [229, 1524, 0], .null)) rfl (n := 3) (k := 0) (mi := 229) trivial rfl rfl vm_z229 (cs := (194, 13271)) (av := [.ref 152, .int (vm_sx X (i + 1).toNatClampNeg), .int (vm_sx X (i + 2).toNatClampNeg), .int (vm_sx X (i + 3).toNatClampNeg)]) (rest := [r]) K2 ⟨_, _, rfl, rfl, _, 11, _, hR.1, rfl, rfl, rfl⟩ (lq_cat ht) ⟨Nat.le_of_ble_eq_true rfl, Nat.le_of_ble_eq_true rfl⟩ ⟨Nat.le_of_ble_eq_true rfl, Nat.le_of_ble_eq_true rfl⟩ ?_
  replace hj := hj
  rcases ht with ⟨hl, v, rfl⟩ | ⟨hl, v, rfl⟩
  · exact absurd hl (by decide)
  · refine vm_J.go (M := lq_M nm (vm_Le11 ++ vm_Le12)) hOK (k := 1) (hs := []) (f' := (bif vm_ic .eq v v then 1930 else 941, (194, 13271), [.ref 100018, .ref 0, .ref 152, .int i], [])) (h' := (G, I2, F2)) (hs' := []) rfl rfl (vm_J.bT (decide_eq_true rfl) hj)
theorem lc_18 {nm : String} {l : Launch} {X : vm_Cx} {G : List vm_Sh} {I : vm_IH} {F : vm_FH} {i : Int32} (hD : vm_isD G) (hR : vm_isR G) (h : Rel I F) (hb : lq_b X i) (hk : lq_K nm l X i G) : lq_N nm l X 943 i G I F := by
  have hOK : vm_OK (lq_M nm (vm_Le12 ++ vm_Le13)) := lq_ok (vm_allA vm_Lf12 vm_Lf13) rfl
  obtain ⟨-, b1, b2, b3, b4, b5⟩ := hb
  obtain ⟨r, I1, F1, I2, F2, ht, K1, K2, hr⟩ := call_refine (l := l) (X := X) (q := (vm_sx X (i + 1).toNatClampNeg)) (e := (vm_sx X (i + 2).toNatClampNeg)) (k := (vm_sx X (i + 3).toNatClampNeg)) hD hR h
  obtain ⟨h', hj⟩ := hk I2 F2 hr
  refine ⟨h', ?_⟩
  replace hj : vm_J l X (lq_M nm (vm_Le12 ++ vm_Le13)) _ _ _ _ := hj
  refine vm_J.go (M := lq_M nm (vm_Le12 ++ vm_Le13)) hOK (k := 16) (hs := [(61, 0, []), (61, 0, []), (61, 0, [])]) (f' := (959, (194, 13271), [.ref 100018, .ref 0, .ref 152, .int i], [.int (vm_sx X (i + 3).toNatClampNeg), .int (vm_sx X (i + 2).toNatClampNeg), .int (vm_sx X (i + 1).toNatClampNeg), .ref 0])) (h' := (G, I, F)) (hs' := []) rfl (vm_b2 rfl (vm_b2 rfl (vm_b2 rfl (vm_b2 rfl (vm_b2 rfl (vm_b2 (vm_b2 rfl b1) (vm_b2 rfl (vm_b2 rfl (vm_b2 rfl (vm_b2 rfl (vm_b2 (vm_b2 rfl b2) (vm_b2 rfl (vm_b2 rfl (vm_b2 rfl (vm_b2 rfl (vm_b2 (vm_b2 rfl b3) rfl)))))))))))))))) ?_
  refine vm_J.call (M := lq_M nm (vm_Le12 ++ vm_Le13)) (Z := vm_M117) hOK (pc := 959) (en := (959, .invokevirtual 91, 3, [117, 741, 0], .null)) rfl (n := 3) (k := 0) (mi := 117) trivial rfl rfl vm_z117 (cs := (194, 13271)) (av := [.ref 0, .int (vm_sx X (i + 1).toNatClampNeg), .int (vm_sx X (i + 2).toNatClampNeg), .int (vm_sx X (i + 3).toNatClampNeg)]) (rest := []) K1 ⟨_, _, rfl, rfl, _, 10, _, hD.1, rfl, rfl, rfl⟩ (by decide) ⟨Nat.le_of_ble_eq_true rfl, Nat.le_of_ble_eq_true rfl⟩ ⟨Nat.le_of_ble_eq_true rfl, Nat.le_of_ble_eq_true rfl⟩ ?_
  replace hj := hj
  refine vm_J.go (M := lq_M nm (vm_Le12 ++ vm_Le13)) hOK (k := 16) (hs := [(61, 0, []), (61, 0, []), (61, 0, [])]) (f' := (978, (194, 13271), [.ref 100018, .ref 0, .ref 152, .int i], [.int (vm_sx X (i + 3).toNatClampNeg), .int (vm_sx X (i + 2).toNatClampNeg), .int (vm_sx X (i + 1).toNatClampNeg), .ref 152, r])) (h' := (G, I1, F1)) (hs' := []) rfl (vm_b2 rfl (vm_b2 rfl (vm_b2 rfl (vm_b2 rfl (vm_b2 rfl (vm_b2 (vm_b2 rfl b1) (vm_b2 rfl (vm_b2 rfl (vm_b2 rfl (vm_b2 rfl (vm_b2 (vm_b2 rfl b2) (vm_b2 rfl (vm_b2 rfl (vm_b2 rfl (vm_b2 rfl (vm_b2 (vm_b2 rfl b3) rfl)))))))))))))))) ?_
  refine vm_J.call (M := lq_M nm (vm_Le12 ++ vm_Le13)) (Z := vm_M240) hOK (pc := 978) (en := (978, .invokevirtual 94, 3, [240, 1567, 0], .null)) rfl (n := 3) (k := 0) (mi := 240) trivial rfl rfl vm_z240 (cs := (194, 13271)) (av := [.ref 152, .int (vm_sx X (i + 1).toNatClampNeg), .int (vm_sx X (i + 2).toNatClampNeg), .int (vm_sx X (i + 3).toNatClampNeg)]) (rest := [r]) K2 ⟨_, _, rfl, rfl, _, 11, _, hR.1, rfl, rfl, rfl⟩ (lq_cat ht) ⟨Nat.le_of_ble_eq_true rfl, Nat.le_of_ble_eq_true rfl⟩ ⟨Nat.le_of_ble_eq_true rfl, Nat.le_of_ble_eq_true rfl⟩ ?_
  replace hj := hj
  rcases ht with ⟨hl, v, rfl⟩ | ⟨hl, v, rfl⟩
  · exact absurd hl (by decide)
  · refine vm_J.go (M := lq_M nm (vm_Le12 ++ vm_Le13)) hOK (k := 1) (hs := []) (f' := (bif vm_ic .eq v v then 1930 else 984, (194, 13271), [.ref 100018, .ref 0, .ref 152, .int i], [])) (h' := (G, I2, F2)) (hs' := []) rfl rfl (vm_J.bT (decide_eq_true rfl) hj)
theorem lc_19 {nm : String} {l : Launch} {X : vm_Cx} {G : List vm_Sh} {I : vm_IH} {F : vm_FH} {i : Int32} (hD : vm_isD G) (hR : vm_isR G) (h : Rel I F) (hb : lq_b X i) (hk : lq_K nm l X i G) : lq_N nm l X 986 i G I F := by
  have hOK : vm_OK (lq_M nm (vm_Le13)) := lq_ok vm_Lf13 rfl
  obtain ⟨-, b1, b2, b3, b4, b5⟩ := hb
  obtain ⟨r, I1, F1, I2, F2, ht, K1, K2, hr⟩ := call_rule (l := l) (X := X) (x := (vm_sx X (i + 1).toNatClampNeg)) (v := (vm_sx X (i + 2).toNatClampNeg)) hD hR h
  obtain ⟨h', hj⟩ := hk I2 F2 hr
  refine ⟨h', ?_⟩
  replace hj : vm_J l X (lq_M nm (vm_Le13)) _ _ _ _ := hj
  refine vm_J.go (M := lq_M nm (vm_Le13)) hOK (k := 11) (hs := [(61, 0, []), (61, 0, [])]) (f' := (997, (194, 13271), [.ref 100018, .ref 0, .ref 152, .int i], [.int (vm_sx X (i + 2).toNatClampNeg), .int (vm_sx X (i + 1).toNatClampNeg), .ref 0])) (h' := (G, I, F)) (hs' := []) rfl (vm_b2 rfl (vm_b2 rfl (vm_b2 rfl (vm_b2 rfl (vm_b2 rfl (vm_b2 (vm_b2 rfl b1) (vm_b2 rfl (vm_b2 rfl (vm_b2 rfl (vm_b2 rfl (vm_b2 (vm_b2 rfl b2) rfl))))))))))) ?_
  refine vm_J.call (M := lq_M nm (vm_Le13)) (Z := vm_M118) hOK (pc := 997) (en := (997, .invokevirtual 95, 3, [118, 781, 0], .null)) rfl (n := 2) (k := 0) (mi := 118) trivial rfl rfl vm_z118 (cs := (194, 13271)) (av := [.ref 0, .int (vm_sx X (i + 1).toNatClampNeg), .int (vm_sx X (i + 2).toNatClampNeg)]) (rest := []) K1 ⟨_, _, rfl, rfl, _, 10, _, hD.1, rfl, rfl, rfl⟩ (by decide) ⟨Nat.le_of_ble_eq_true rfl, Nat.le_of_ble_eq_true rfl⟩ ⟨Nat.le_of_ble_eq_true rfl, Nat.le_of_ble_eq_true rfl⟩ ?_
  replace hj := hj
  refine vm_J.go (M := lq_M nm (vm_Le13)) hOK (k := 11) (hs := [(61, 0, []), (61, 0, [])]) (f' := (1011, (194, 13271), [.ref 100018, .ref 0, .ref 152, .int i], [.int (vm_sx X (i + 2).toNatClampNeg), .int (vm_sx X (i + 1).toNatClampNeg), .ref 152, r])) (h' := (G, I1, F1)) (hs' := []) rfl (vm_b2 rfl (vm_b2 rfl (vm_b2 rfl (vm_b2 rfl (vm_b2 rfl (vm_b2 (vm_b2 rfl b1) (vm_b2 rfl (vm_b2 rfl (vm_b2 rfl (vm_b2 rfl (vm_b2 (vm_b2 rfl b2) rfl))))))))))) ?_
  refine vm_J.call (M := lq_M nm (vm_Le13)) (Z := vm_M233) hOK (pc := 1011) (en := (1011, .invokevirtual 98, 3, [233, 1536, 0], .null)) rfl (n := 2) (k := 0) (mi := 233) trivial rfl rfl vm_z233 (cs := (194, 13271)) (av := [.ref 152, .int (vm_sx X (i + 1).toNatClampNeg), .int (vm_sx X (i + 2).toNatClampNeg)]) (rest := [r]) K2 ⟨_, _, rfl, rfl, _, 11, _, hR.1, rfl, rfl, rfl⟩ (lq_cat ht) ⟨Nat.le_of_ble_eq_true rfl, Nat.le_of_ble_eq_true rfl⟩ ⟨Nat.le_of_ble_eq_true rfl, Nat.le_of_ble_eq_true rfl⟩ ?_
  replace hj := hj
  rcases ht with ⟨hl, v, rfl⟩ | ⟨hl, v, rfl⟩
  · exact absurd hl (by decide)
  · refine vm_J.go (M := lq_M nm (vm_Le13)) hOK (k := 1) (hs := []) (f' := (bif vm_ic .eq v v then 1930 else 1017, (194, 13271), [.ref 100018, .ref 0, .ref 152, .int i], [])) (h' := (G, I2, F2)) (hs' := []) rfl rfl (vm_J.bT (decide_eq_true rfl) hj)
theorem lc_20 {nm : String} {l : Launch} {X : vm_Cx} {G : List vm_Sh} {I : vm_IH} {F : vm_FH} {i : Int32} (hD : vm_isD G) (hR : vm_isR G) (h : Rel I F) (hb : lq_b X i) (hk : lq_K nm l X i G) : lq_N nm l X 1019 i G I F := by
  have hOK : vm_OK (lq_M nm (vm_Le13 ++ vm_Le14)) := lq_ok (vm_allA vm_Lf13 vm_Lf14) rfl
  obtain ⟨-, b1, b2, b3, b4, b5⟩ := hb
  obtain ⟨r, I1, F1, I2, F2, ht, K1, K2, hr⟩ := call_far (l := l) (X := X) (x := (vm_sx X (i + 1).toNatClampNeg)) (y := (vm_sx X (i + 2).toNatClampNeg)) hD hR h
  obtain ⟨h', hj⟩ := hk I2 F2 hr
  refine ⟨h', ?_⟩
  replace hj : vm_J l X (lq_M nm (vm_Le13 ++ vm_Le14)) _ _ _ _ := hj
  refine vm_J.go (M := lq_M nm (vm_Le13 ++ vm_Le14)) hOK (k := 11) (hs := [(61, 0, []), (61, 0, [])]) (f' := (1030, (194, 13271), [.ref 100018, .ref 0, .ref 152, .int i], [.int (vm_sx X (i + 2).toNatClampNeg), .int (vm_sx X (i + 1).toNatClampNeg), .ref 0])) (h' := (G, I, F)) (hs' := []) rfl (vm_b2 rfl (vm_b2 rfl (vm_b2 rfl (vm_b2 rfl (vm_b2 rfl (vm_b2 (vm_b2 rfl b1) (vm_b2 rfl (vm_b2 rfl (vm_b2 rfl (vm_b2 rfl (vm_b2 (vm_b2 rfl b2) rfl))))))))))) ?_
  refine vm_J.call (M := lq_M nm (vm_Le13 ++ vm_Le14)) (Z := vm_M119) hOK (pc := 1030) (en := (1030, .invokevirtual 99, 3, [119, 787, 0], .null)) rfl (n := 2) (k := 0) (mi := 119) trivial rfl rfl vm_z119 (cs := (194, 13271)) (av := [.ref 0, .int (vm_sx X (i + 1).toNatClampNeg), .int (vm_sx X (i + 2).toNatClampNeg)]) (rest := []) K1 ⟨_, _, rfl, rfl, _, 10, _, hD.1, rfl, rfl, rfl⟩ (by decide) ⟨Nat.le_of_ble_eq_true rfl, Nat.le_of_ble_eq_true rfl⟩ ⟨Nat.le_of_ble_eq_true rfl, Nat.le_of_ble_eq_true rfl⟩ ?_
  replace hj := hj
  refine vm_J.go (M := lq_M nm (vm_Le13 ++ vm_Le14)) hOK (k := 11) (hs := [(61, 0, []), (61, 0, [])]) (f' := (1044, (194, 13271), [.ref 100018, .ref 0, .ref 152, .int i], [.int (vm_sx X (i + 2).toNatClampNeg), .int (vm_sx X (i + 1).toNatClampNeg), .ref 152, r])) (h' := (G, I1, F1)) (hs' := []) rfl (vm_b2 rfl (vm_b2 rfl (vm_b2 rfl (vm_b2 rfl (vm_b2 rfl (vm_b2 (vm_b2 rfl b1) (vm_b2 rfl (vm_b2 rfl (vm_b2 rfl (vm_b2 rfl (vm_b2 (vm_b2 rfl b2) rfl))))))))))) ?_
  refine vm_J.call (M := lq_M nm (vm_Le13 ++ vm_Le14)) (Z := vm_M234) hOK (pc := 1044) (en := (1044, .invokevirtual 102, 3, [234, 1540, 0], .null)) rfl (n := 2) (k := 0) (mi := 234) trivial rfl rfl vm_z234 (cs := (194, 13271)) (av := [.ref 152, .int (vm_sx X (i + 1).toNatClampNeg), .int (vm_sx X (i + 2).toNatClampNeg)]) (rest := [r]) K2 ⟨_, _, rfl, rfl, _, 11, _, hR.1, rfl, rfl, rfl⟩ (lq_cat ht) ⟨Nat.le_of_ble_eq_true rfl, Nat.le_of_ble_eq_true rfl⟩ ⟨Nat.le_of_ble_eq_true rfl, Nat.le_of_ble_eq_true rfl⟩ ?_
  replace hj := hj
  rcases ht with ⟨hl, v, rfl⟩ | ⟨hl, v, rfl⟩
  · exact absurd hl (by decide)
  · refine vm_J.go (M := lq_M nm (vm_Le13 ++ vm_Le14)) hOK (k := 1) (hs := []) (f' := (bif vm_ic .eq v v then 1930 else 1050, (194, 13271), [.ref 100018, .ref 0, .ref 152, .int i], [])) (h' := (G, I2, F2)) (hs' := []) rfl rfl (vm_J.bT (decide_eq_true rfl) hj)
theorem lc_21 {nm : String} {l : Launch} {X : vm_Cx} {G : List vm_Sh} {I : vm_IH} {F : vm_FH} {i : Int32} (hD : vm_isD G) (hR : vm_isR G) (h : Rel I F) (hb : lq_b X i) (hk : lq_K nm l X i G) : lq_N nm l X 1052 i G I F := by
  have hOK : vm_OK (lq_M nm (vm_Le14)) := lq_ok vm_Lf14 rfl
  obtain ⟨-, b1, b2, b3, b4, b5⟩ := hb
  obtain ⟨r, I1, F1, I2, F2, ht, K1, K2, hr⟩ := call_nearest (l := l) (X := X) (q := (vm_sx X (i + 1).toNatClampNeg)) (c := (vm_sx X (i + 2).toNatClampNeg)) hD hR h
  obtain ⟨h', hj⟩ := hk I2 F2 hr
  refine ⟨h', ?_⟩
  replace hj : vm_J l X (lq_M nm (vm_Le14)) _ _ _ _ := hj
  refine vm_J.go (M := lq_M nm (vm_Le14)) hOK (k := 11) (hs := [(61, 0, []), (61, 0, [])]) (f' := (1063, (194, 13271), [.ref 100018, .ref 0, .ref 152, .int i], [.int (vm_sx X (i + 2).toNatClampNeg), .int (vm_sx X (i + 1).toNatClampNeg), .ref 0])) (h' := (G, I, F)) (hs' := []) rfl (vm_b2 rfl (vm_b2 rfl (vm_b2 rfl (vm_b2 rfl (vm_b2 rfl (vm_b2 (vm_b2 rfl b1) (vm_b2 rfl (vm_b2 rfl (vm_b2 rfl (vm_b2 rfl (vm_b2 (vm_b2 rfl b2) rfl))))))))))) ?_
  refine vm_J.call (M := lq_M nm (vm_Le14)) (Z := vm_M120) hOK (pc := 1063) (en := (1063, .invokevirtual 103, 3, [120, 792, 0], .null)) rfl (n := 2) (k := 0) (mi := 120) trivial rfl rfl vm_z120 (cs := (194, 13271)) (av := [.ref 0, .int (vm_sx X (i + 1).toNatClampNeg), .int (vm_sx X (i + 2).toNatClampNeg)]) (rest := []) K1 ⟨_, _, rfl, rfl, _, 10, _, hD.1, rfl, rfl, rfl⟩ (by decide) ⟨Nat.le_of_ble_eq_true rfl, Nat.le_of_ble_eq_true rfl⟩ ⟨Nat.le_of_ble_eq_true rfl, Nat.le_of_ble_eq_true rfl⟩ ?_
  replace hj := hj
  refine vm_J.go (M := lq_M nm (vm_Le14)) hOK (k := 11) (hs := [(61, 0, []), (61, 0, [])]) (f' := (1077, (194, 13271), [.ref 100018, .ref 0, .ref 152, .int i], [.int (vm_sx X (i + 2).toNatClampNeg), .int (vm_sx X (i + 1).toNatClampNeg), .ref 152, r])) (h' := (G, I1, F1)) (hs' := []) rfl (vm_b2 rfl (vm_b2 rfl (vm_b2 rfl (vm_b2 rfl (vm_b2 rfl (vm_b2 (vm_b2 rfl b1) (vm_b2 rfl (vm_b2 rfl (vm_b2 rfl (vm_b2 rfl (vm_b2 (vm_b2 rfl b2) rfl))))))))))) ?_
  refine vm_J.call (M := lq_M nm (vm_Le14)) (Z := vm_M235) hOK (pc := 1077) (en := (1077, .invokevirtual 106, 3, [235, 1551, 0], .null)) rfl (n := 2) (k := 0) (mi := 235) trivial rfl rfl vm_z235 (cs := (194, 13271)) (av := [.ref 152, .int (vm_sx X (i + 1).toNatClampNeg), .int (vm_sx X (i + 2).toNatClampNeg)]) (rest := [r]) K2 ⟨_, _, rfl, rfl, _, 11, _, hR.1, rfl, rfl, rfl⟩ (lq_cat ht) ⟨Nat.le_of_ble_eq_true rfl, Nat.le_of_ble_eq_true rfl⟩ ⟨Nat.le_of_ble_eq_true rfl, Nat.le_of_ble_eq_true rfl⟩ ?_
  replace hj := hj
  rcases ht with ⟨hl, v, rfl⟩ | ⟨hl, v, rfl⟩
  · exact absurd hl (by decide)
  · refine vm_J.go (M := lq_M nm (vm_Le14)) hOK (k := 1) (hs := []) (f' := (bif vm_ic .eq v v then 1930 else 1083, (194, 13271), [.ref 100018, .ref 0, .ref 152, .int i], [])) (h' := (G, I2, F2)) (hs' := []) rfl rfl (vm_J.bT (decide_eq_true rfl) hj)
theorem lc_22 {nm : String} {l : Launch} {X : vm_Cx} {G : List vm_Sh} {I : vm_IH} {F : vm_FH} {i : Int32} (hD : vm_isD G) (hR : vm_isR G) (h : Rel I F) (hb : lq_b X i) (hk : lq_K nm l X i G) : lq_N nm l X 1085 i G I F := by
  have hOK : vm_OK (lq_M nm (vm_Le14 ++ vm_Le15)) := lq_ok (vm_allA vm_Lf14 vm_Lf15) rfl
  obtain ⟨-, b1, b2, b3, b4, b5⟩ := hb
  obtain ⟨r, I1, F1, I2, F2, ht, K1, K2, hr⟩ := call_near (l := l) (X := X) (q := (vm_sx X (i + 1).toNatClampNeg)) (c := (vm_sx X (i + 2).toNatClampNeg)) (x := (vm_sx X (i + 3).toNatClampNeg)) hD hR h
  obtain ⟨h', hj⟩ := hk I2 F2 hr
  refine ⟨h', ?_⟩
  replace hj : vm_J l X (lq_M nm (vm_Le14 ++ vm_Le15)) _ _ _ _ := hj
  refine vm_J.go (M := lq_M nm (vm_Le14 ++ vm_Le15)) hOK (k := 16) (hs := [(61, 0, []), (61, 0, []), (61, 0, [])]) (f' := (1101, (194, 13271), [.ref 100018, .ref 0, .ref 152, .int i], [.int (vm_sx X (i + 3).toNatClampNeg), .int (vm_sx X (i + 2).toNatClampNeg), .int (vm_sx X (i + 1).toNatClampNeg), .ref 0])) (h' := (G, I, F)) (hs' := []) rfl (vm_b2 rfl (vm_b2 rfl (vm_b2 rfl (vm_b2 rfl (vm_b2 rfl (vm_b2 (vm_b2 rfl b1) (vm_b2 rfl (vm_b2 rfl (vm_b2 rfl (vm_b2 rfl (vm_b2 (vm_b2 rfl b2) (vm_b2 rfl (vm_b2 rfl (vm_b2 rfl (vm_b2 rfl (vm_b2 (vm_b2 rfl b3) rfl)))))))))))))))) ?_
  refine vm_J.call (M := lq_M nm (vm_Le14 ++ vm_Le15)) (Z := vm_M121) hOK (pc := 1101) (en := (1101, .invokevirtual 107, 3, [121, 797, 0], .null)) rfl (n := 3) (k := 0) (mi := 121) trivial rfl rfl vm_z121 (cs := (194, 13271)) (av := [.ref 0, .int (vm_sx X (i + 1).toNatClampNeg), .int (vm_sx X (i + 2).toNatClampNeg), .int (vm_sx X (i + 3).toNatClampNeg)]) (rest := []) K1 ⟨_, _, rfl, rfl, _, 10, _, hD.1, rfl, rfl, rfl⟩ (by decide) ⟨Nat.le_of_ble_eq_true rfl, Nat.le_of_ble_eq_true rfl⟩ ⟨Nat.le_of_ble_eq_true rfl, Nat.le_of_ble_eq_true rfl⟩ ?_
  replace hj := hj
  refine vm_J.go (M := lq_M nm (vm_Le14 ++ vm_Le15)) hOK (k := 16) (hs := [(61, 0, []), (61, 0, []), (61, 0, [])]) (f' := (1120, (194, 13271), [.ref 100018, .ref 0, .ref 152, .int i], [.int (vm_sx X (i + 3).toNatClampNeg), .int (vm_sx X (i + 2).toNatClampNeg), .int (vm_sx X (i + 1).toNatClampNeg), .ref 152, r])) (h' := (G, I1, F1)) (hs' := []) rfl (vm_b2 rfl (vm_b2 rfl (vm_b2 rfl (vm_b2 rfl (vm_b2 rfl (vm_b2 (vm_b2 rfl b1) (vm_b2 rfl (vm_b2 rfl (vm_b2 rfl (vm_b2 rfl (vm_b2 (vm_b2 rfl b2) (vm_b2 rfl (vm_b2 rfl (vm_b2 rfl (vm_b2 rfl (vm_b2 (vm_b2 rfl b3) rfl)))))))))))))))) ?_
  refine vm_J.call (M := lq_M nm (vm_Le14 ++ vm_Le15)) (Z := vm_M237) hOK (pc := 1120) (en := (1120, .invokevirtual 110, 3, [237, 1559, 0], .null)) rfl (n := 3) (k := 0) (mi := 237) trivial rfl rfl vm_z237 (cs := (194, 13271)) (av := [.ref 152, .int (vm_sx X (i + 1).toNatClampNeg), .int (vm_sx X (i + 2).toNatClampNeg), .int (vm_sx X (i + 3).toNatClampNeg)]) (rest := [r]) K2 ⟨_, _, rfl, rfl, _, 11, _, hR.1, rfl, rfl, rfl⟩ (lq_cat ht) ⟨Nat.le_of_ble_eq_true rfl, Nat.le_of_ble_eq_true rfl⟩ ⟨Nat.le_of_ble_eq_true rfl, Nat.le_of_ble_eq_true rfl⟩ ?_
  replace hj := hj
  rcases ht with ⟨hl, v, rfl⟩ | ⟨hl, v, rfl⟩
  · exact absurd hl (by decide)
  · refine vm_J.go (M := lq_M nm (vm_Le14 ++ vm_Le15)) hOK (k := 1) (hs := []) (f' := (bif vm_ic .eq v v then 1930 else 1126, (194, 13271), [.ref 100018, .ref 0, .ref 152, .int i], [])) (h' := (G, I2, F2)) (hs' := []) rfl rfl (vm_J.bT (decide_eq_true rfl) hj)
theorem lc_23 {nm : String} {l : Launch} {X : vm_Cx} {G : List vm_Sh} {I : vm_IH} {F : vm_FH} {i : Int32} (hD : vm_isD G) (hR : vm_isR G) (h : Rel I F) (hb : lq_b X i) (hk : lq_K nm l X i G) : lq_N nm l X 1128 i G I F := by
  have hOK : vm_OK (lq_M nm (vm_Le15 ++ vm_Le16)) := lq_ok (vm_allA vm_Lf15 vm_Lf16) rfl
  obtain ⟨-, b1, b2, b3, b4, b5⟩ := hb
  obtain ⟨r, I1, F1, I2, F2, ht, K1, K2, hr⟩ := call_make (l := l) (X := X) (e := (vm_sx X (i + 1).toNatClampNeg)) (q := (vm_sx X (i + 2).toNatClampNeg)) (k := (vm_sx X (i + 3).toNatClampNeg)) hD hR h
  obtain ⟨h', hj⟩ := hk I2 F2 hr
  refine ⟨h', ?_⟩
  replace hj : vm_J l X (lq_M nm (vm_Le15 ++ vm_Le16)) _ _ _ _ := hj
  refine vm_J.go (M := lq_M nm (vm_Le15 ++ vm_Le16)) hOK (k := 16) (hs := [(61, 0, []), (61, 0, []), (61, 0, [])]) (f' := (1144, (194, 13271), [.ref 100018, .ref 0, .ref 152, .int i], [.int (vm_sx X (i + 3).toNatClampNeg), .int (vm_sx X (i + 2).toNatClampNeg), .int (vm_sx X (i + 1).toNatClampNeg), .ref 0])) (h' := (G, I, F)) (hs' := []) rfl (vm_b2 rfl (vm_b2 rfl (vm_b2 rfl (vm_b2 rfl (vm_b2 rfl (vm_b2 (vm_b2 rfl b1) (vm_b2 rfl (vm_b2 rfl (vm_b2 rfl (vm_b2 rfl (vm_b2 (vm_b2 rfl b2) (vm_b2 rfl (vm_b2 rfl (vm_b2 rfl (vm_b2 rfl (vm_b2 (vm_b2 rfl b3) rfl)))))))))))))))) ?_
  refine vm_J.call (M := lq_M nm (vm_Le15 ++ vm_Le16)) (Z := vm_M122) hOK (pc := 1144) (en := (1144, .invokevirtual 111, 3, [122, 809, 0], .null)) rfl (n := 3) (k := 0) (mi := 122) trivial rfl rfl vm_z122 (cs := (194, 13271)) (av := [.ref 0, .int (vm_sx X (i + 1).toNatClampNeg), .int (vm_sx X (i + 2).toNatClampNeg), .int (vm_sx X (i + 3).toNatClampNeg)]) (rest := []) K1 ⟨_, _, rfl, rfl, _, 10, _, hD.1, rfl, rfl, rfl⟩ (by decide) ⟨Nat.le_of_ble_eq_true rfl, Nat.le_of_ble_eq_true rfl⟩ ⟨Nat.le_of_ble_eq_true rfl, Nat.le_of_ble_eq_true rfl⟩ ?_
  replace hj := hj
  refine vm_J.go (M := lq_M nm (vm_Le15 ++ vm_Le16)) hOK (k := 16) (hs := [(61, 0, []), (61, 0, []), (61, 0, [])]) (f' := (1163, (194, 13271), [.ref 100018, .ref 0, .ref 152, .int i], [.int (vm_sx X (i + 3).toNatClampNeg), .int (vm_sx X (i + 2).toNatClampNeg), .int (vm_sx X (i + 1).toNatClampNeg), .ref 152, r])) (h' := (G, I1, F1)) (hs' := []) rfl (vm_b2 rfl (vm_b2 rfl (vm_b2 rfl (vm_b2 rfl (vm_b2 rfl (vm_b2 (vm_b2 rfl b1) (vm_b2 rfl (vm_b2 rfl (vm_b2 rfl (vm_b2 rfl (vm_b2 (vm_b2 rfl b2) (vm_b2 rfl (vm_b2 rfl (vm_b2 rfl (vm_b2 rfl (vm_b2 (vm_b2 rfl b3) rfl)))))))))))))))) ?_
  refine vm_J.call (M := lq_M nm (vm_Le15 ++ vm_Le16)) (Z := vm_M263) hOK (pc := 1163) (en := (1163, .invokevirtual 114, 3, [263, 1579, 0], .null)) rfl (n := 3) (k := 0) (mi := 263) trivial rfl rfl vm_z263 (cs := (194, 13271)) (av := [.ref 152, .int (vm_sx X (i + 1).toNatClampNeg), .int (vm_sx X (i + 2).toNatClampNeg), .int (vm_sx X (i + 3).toNatClampNeg)]) (rest := [r]) K2 ⟨_, _, rfl, rfl, _, 11, _, hR.1, rfl, rfl, rfl⟩ (lq_cat ht) ⟨Nat.le_of_ble_eq_true rfl, Nat.le_of_ble_eq_true rfl⟩ ⟨Nat.le_of_ble_eq_true rfl, Nat.le_of_ble_eq_true rfl⟩ ?_
  replace hj := hj
  rcases ht with ⟨hl, v, rfl⟩ | ⟨hl, v, rfl⟩
  · exact absurd hl (by decide)
  · refine vm_J.go (M := lq_M nm (vm_Le15 ++ vm_Le16)) hOK (k := 1) (hs := []) (f' := (bif vm_ic .eq v v then 1930 else 1169, (194, 13271), [.ref 100018, .ref 0, .ref 152, .int i], [])) (h' := (G, I2, F2)) (hs' := []) rfl rfl (vm_J.bT (decide_eq_true rfl) hj)
theorem lc_24 {nm : String} {l : Launch} {X : vm_Cx} {G : List vm_Sh} {I : vm_IH} {F : vm_FH} {i : Int32} (hD : vm_isD G) (hR : vm_isR G) (h : Rel I F) (hb : lq_b X i) (hk : lq_K nm l X i G) : lq_N nm l X 1171 i G I F := by
  have hOK : vm_OK (lq_M nm (vm_Le16)) := lq_ok vm_Lf16 rfl
  obtain ⟨-, b1, b2, b3, b4, b5⟩ := hb
  obtain ⟨r, I1, F1, I2, F2, ht, K1, K2, hr⟩ := call_sheet (l := l) (X := X) (x := (vm_sx X (i + 1).toNatClampNeg)) (y := (vm_sx X (i + 2).toNatClampNeg)) (k := (vm_sx X (i + 3).toNatClampNeg)) hD hR h
  obtain ⟨h', hj⟩ := hk I2 F2 hr
  refine ⟨h', ?_⟩
  replace hj : vm_J l X (lq_M nm (vm_Le16)) _ _ _ _ := hj
  refine vm_J.go (M := lq_M nm (vm_Le16)) hOK (k := 16) (hs := [(61, 0, []), (61, 0, []), (61, 0, [])]) (f' := (1187, (194, 13271), [.ref 100018, .ref 0, .ref 152, .int i], [.int (vm_sx X (i + 3).toNatClampNeg), .int (vm_sx X (i + 2).toNatClampNeg), .int (vm_sx X (i + 1).toNatClampNeg), .ref 0])) (h' := (G, I, F)) (hs' := []) rfl (vm_b2 rfl (vm_b2 rfl (vm_b2 rfl (vm_b2 rfl (vm_b2 rfl (vm_b2 (vm_b2 rfl b1) (vm_b2 rfl (vm_b2 rfl (vm_b2 rfl (vm_b2 rfl (vm_b2 (vm_b2 rfl b2) (vm_b2 rfl (vm_b2 rfl (vm_b2 rfl (vm_b2 rfl (vm_b2 (vm_b2 rfl b3) rfl)))))))))))))))) ?_
  refine vm_J.call (M := lq_M nm (vm_Le16)) (Z := vm_M123) hOK (pc := 1187) (en := (1187, .invokevirtual 115, 3, [123, 883, 0], .null)) rfl (n := 3) (k := 0) (mi := 123) trivial rfl rfl vm_z123 (cs := (194, 13271)) (av := [.ref 0, .int (vm_sx X (i + 1).toNatClampNeg), .int (vm_sx X (i + 2).toNatClampNeg), .int (vm_sx X (i + 3).toNatClampNeg)]) (rest := []) K1 ⟨_, _, rfl, rfl, _, 10, _, hD.1, rfl, rfl, rfl⟩ (by decide) ⟨Nat.le_of_ble_eq_true rfl, Nat.le_of_ble_eq_true rfl⟩ ⟨Nat.le_of_ble_eq_true rfl, Nat.le_of_ble_eq_true rfl⟩ ?_
  replace hj := hj
  refine vm_J.go (M := lq_M nm (vm_Le16)) hOK (k := 16) (hs := [(61, 0, []), (61, 0, []), (61, 0, [])]) (f' := (1206, (194, 13271), [.ref 100018, .ref 0, .ref 152, .int i], [.int (vm_sx X (i + 3).toNatClampNeg), .int (vm_sx X (i + 2).toNatClampNeg), .int (vm_sx X (i + 1).toNatClampNeg), .ref 152, r])) (h' := (G, I1, F1)) (hs' := []) rfl (vm_b2 rfl (vm_b2 rfl (vm_b2 rfl (vm_b2 rfl (vm_b2 rfl (vm_b2 (vm_b2 rfl b1) (vm_b2 rfl (vm_b2 rfl (vm_b2 rfl (vm_b2 rfl (vm_b2 (vm_b2 rfl b2) (vm_b2 rfl (vm_b2 rfl (vm_b2 rfl (vm_b2 rfl (vm_b2 (vm_b2 rfl b3) rfl)))))))))))))))) ?_
  refine vm_J.call (M := lq_M nm (vm_Le16)) (Z := vm_M264) hOK (pc := 1206) (en := (1206, .invokevirtual 118, 3, [264, 1656, 0], .null)) rfl (n := 3) (k := 0) (mi := 264) trivial rfl rfl vm_z264 (cs := (194, 13271)) (av := [.ref 152, .int (vm_sx X (i + 1).toNatClampNeg), .int (vm_sx X (i + 2).toNatClampNeg), .int (vm_sx X (i + 3).toNatClampNeg)]) (rest := [r]) K2 ⟨_, _, rfl, rfl, _, 11, _, hR.1, rfl, rfl, rfl⟩ (lq_cat ht) ⟨Nat.le_of_ble_eq_true rfl, Nat.le_of_ble_eq_true rfl⟩ ⟨Nat.le_of_ble_eq_true rfl, Nat.le_of_ble_eq_true rfl⟩ ?_
  replace hj := hj
  rcases ht with ⟨hl, v, rfl⟩ | ⟨hl, v, rfl⟩
  · exact absurd hl (by decide)
  · refine vm_J.go (M := lq_M nm (vm_Le16)) hOK (k := 1) (hs := []) (f' := (bif vm_ic .eq v v then 1930 else 1212, (194, 13271), [.ref 100018, .ref 0, .ref 152, .int i], [])) (h' := (G, I2, F2)) (hs' := []) rfl rfl (vm_J.bT (decide_eq_true rfl) hj)
theorem lc_25 {nm : String} {l : Launch} {X : vm_Cx} {G : List vm_Sh} {I : vm_IH} {F : vm_FH} {i : Int32} (hD : vm_isD G) (hR : vm_isR G) (h : Rel I F) (hb : lq_b X i) (hk : lq_K nm l X i G) : lq_N nm l X 1214 i G I F := by
  have hOK : vm_OK (lq_M nm (vm_Le16 ++ vm_Le17)) := lq_ok (vm_allA vm_Lf16 vm_Lf17) rfl
  obtain ⟨-, b1, b2, b3, b4, b5⟩ := hb
  obtain ⟨r, I1, F1, I2, F2, ht, K1, K2, hr⟩ := call_sum (l := l) (X := X) (k := (vm_sx X (i + 1).toNatClampNeg)) hD hR h
  obtain ⟨h', hj⟩ := hk I2 F2 hr
  refine ⟨h', ?_⟩
  replace hj : vm_J l X (lq_M nm (vm_Le16 ++ vm_Le17)) _ _ _ _ := hj
  refine vm_J.go (M := lq_M nm (vm_Le16 ++ vm_Le17)) hOK (k := 6) (hs := [(61, 0, [])]) (f' := (1220, (194, 13271), [.ref 100018, .ref 0, .ref 152, .int i], [.int (vm_sx X (i + 1).toNatClampNeg), .ref 0])) (h' := (G, I, F)) (hs' := []) rfl (vm_b2 rfl (vm_b2 rfl (vm_b2 rfl (vm_b2 rfl (vm_b2 rfl (vm_b2 (vm_b2 rfl b1) rfl)))))) ?_
  refine vm_J.call (M := lq_M nm (vm_Le16 ++ vm_Le17)) (Z := vm_M124) hOK (pc := 1220) (en := (1220, .invokevirtual 119, 3, [124, 891, 0], .null)) rfl (n := 1) (k := 0) (mi := 124) trivial rfl rfl vm_z124 (cs := (194, 13271)) (av := [.ref 0, .int (vm_sx X (i + 1).toNatClampNeg)]) (rest := []) K1 ⟨_, _, rfl, rfl, _, 10, _, hD.1, rfl, rfl, rfl⟩ (by decide) ⟨Nat.le_of_ble_eq_true rfl, Nat.le_of_ble_eq_true rfl⟩ ⟨Nat.le_of_ble_eq_true rfl, Nat.le_of_ble_eq_true rfl⟩ ?_
  replace hj := hj
  refine vm_J.go (M := lq_M nm (vm_Le16 ++ vm_Le17)) hOK (k := 6) (hs := [(61, 0, [])]) (f' := (1229, (194, 13271), [.ref 100018, .ref 0, .ref 152, .int i], [.int (vm_sx X (i + 1).toNatClampNeg), .ref 152, r])) (h' := (G, I1, F1)) (hs' := []) rfl (vm_b2 rfl (vm_b2 rfl (vm_b2 rfl (vm_b2 rfl (vm_b2 rfl (vm_b2 (vm_b2 rfl b1) rfl)))))) ?_
  refine vm_J.call (M := lq_M nm (vm_Le16 ++ vm_Le17)) (Z := vm_M265) hOK (pc := 1229) (en := (1229, .invokevirtual 123, 3, [265, 1664, 0], .null)) rfl (n := 1) (k := 0) (mi := 265) trivial rfl rfl vm_z265 (cs := (194, 13271)) (av := [.ref 152, .int (vm_sx X (i + 1).toNatClampNeg)]) (rest := [r]) K2 ⟨_, _, rfl, rfl, _, 11, _, hR.1, rfl, rfl, rfl⟩ (lq_cat ht) ⟨Nat.le_of_ble_eq_true rfl, Nat.le_of_ble_eq_true rfl⟩ ⟨Nat.le_of_ble_eq_true rfl, Nat.le_of_ble_eq_true rfl⟩ ?_
  replace hj := hj
  rcases ht with ⟨hl, v, rfl⟩ | ⟨hl, v, rfl⟩
  · refine vm_J.go (M := lq_M nm (vm_Le16 ++ vm_Le17)) hOK (k := 2) (hs := []) (f' := (bif vm_ic .eq (lg_cmp v v) 0 then 1930 else 1236, (194, 13271), [.ref 100018, .ref 0, .ref 152, .int i], [])) (h' := (G, I2, F2)) (hs' := []) rfl rfl (vm_J.bT (decide_eq_true (lg_cmp_e v)) hj)
  · exact absurd hl (by decide)
theorem lc_26 {nm : String} {l : Launch} {X : vm_Cx} {G : List vm_Sh} {I : vm_IH} {F : vm_FH} {i : Int32} (hD : vm_isD G) (hR : vm_isR G) (h : Rel I F) (hb : lq_b X i) (hk : lq_K nm l X i G) : lq_N nm l X 1238 i G I F := by
  have hOK : vm_OK (lq_M nm (vm_Le17)) := lq_ok vm_Lf17 rfl
  obtain ⟨-, b1, b2, b3, b4, b5⟩ := hb
  obtain ⟨r, I1, F1, I2, F2, ht, K1, K2, hr⟩ := call_used (l := l) (X := X) (e := (vm_sx X (i + 1).toNatClampNeg)) hD hR h
  obtain ⟨h', hj⟩ := hk I2 F2 hr
  refine ⟨h', ?_⟩
  replace hj : vm_J l X (lq_M nm (vm_Le17)) _ _ _ _ := hj
  refine vm_J.go (M := lq_M nm (vm_Le17)) hOK (k := 6) (hs := [(61, 0, [])]) (f' := (1244, (194, 13271), [.ref 100018, .ref 0, .ref 152, .int i], [.int (vm_sx X (i + 1).toNatClampNeg), .ref 0])) (h' := (G, I, F)) (hs' := []) rfl (vm_b2 rfl (vm_b2 rfl (vm_b2 rfl (vm_b2 rfl (vm_b2 rfl (vm_b2 (vm_b2 rfl b1) rfl)))))) ?_
  refine vm_J.call (M := lq_M nm (vm_Le17)) (Z := vm_M125) hOK (pc := 1244) (en := (1244, .invokevirtual 124, 3, [125, 931, 0], .null)) rfl (n := 1) (k := 0) (mi := 125) trivial rfl rfl vm_z125 (cs := (194, 13271)) (av := [.ref 0, .int (vm_sx X (i + 1).toNatClampNeg)]) (rest := []) K1 ⟨_, _, rfl, rfl, _, 10, _, hD.1, rfl, rfl, rfl⟩ (by decide) ⟨Nat.le_of_ble_eq_true rfl, Nat.le_of_ble_eq_true rfl⟩ ⟨Nat.le_of_ble_eq_true rfl, Nat.le_of_ble_eq_true rfl⟩ ?_
  replace hj := hj
  refine vm_J.go (M := lq_M nm (vm_Le17)) hOK (k := 6) (hs := [(61, 0, [])]) (f' := (1253, (194, 13271), [.ref 100018, .ref 0, .ref 152, .int i], [.int (vm_sx X (i + 1).toNatClampNeg), .ref 152, r])) (h' := (G, I1, F1)) (hs' := []) rfl (vm_b2 rfl (vm_b2 rfl (vm_b2 rfl (vm_b2 rfl (vm_b2 rfl (vm_b2 (vm_b2 rfl b1) rfl)))))) ?_
  refine vm_J.call (M := lq_M nm (vm_Le17)) (Z := vm_M266) hOK (pc := 1253) (en := (1253, .invokevirtual 127, 3, [266, 1706, 0], .null)) rfl (n := 1) (k := 0) (mi := 266) trivial rfl rfl vm_z266 (cs := (194, 13271)) (av := [.ref 152, .int (vm_sx X (i + 1).toNatClampNeg)]) (rest := [r]) K2 ⟨_, _, rfl, rfl, _, 11, _, hR.1, rfl, rfl, rfl⟩ (lq_cat ht) ⟨Nat.le_of_ble_eq_true rfl, Nat.le_of_ble_eq_true rfl⟩ ⟨Nat.le_of_ble_eq_true rfl, Nat.le_of_ble_eq_true rfl⟩ ?_
  replace hj := hj
  rcases ht with ⟨hl, v, rfl⟩ | ⟨hl, v, rfl⟩
  · exact absurd hl (by decide)
  · refine vm_J.go (M := lq_M nm (vm_Le17)) hOK (k := 1) (hs := []) (f' := (bif vm_ic .eq v v then 1930 else 1259, (194, 13271), [.ref 100018, .ref 0, .ref 152, .int i], [])) (h' := (G, I2, F2)) (hs' := []) rfl rfl (vm_J.bT (decide_eq_true rfl) hj)
theorem lc_27 {nm : String} {l : Launch} {X : vm_Cx} {G : List vm_Sh} {I : vm_IH} {F : vm_FH} {i : Int32} (hD : vm_isD G) (hR : vm_isR G) (h : Rel I F) (hb : lq_b X i) (hk : lq_K nm l X i G) : lq_N nm l X 1261 i G I F := by
  have hOK : vm_OK (lq_M nm (vm_Le17)) := lq_ok vm_Lf17 rfl
  obtain ⟨-, b1, b2, b3, b4, b5⟩ := hb
  obtain ⟨r, I1, F1, I2, F2, ht, K1, K2, hr⟩ := call_taken (l := l) (X := X) (k := (vm_sx X (i + 1).toNatClampNeg)) hD hR h
  obtain ⟨h', hj⟩ := hk I2 F2 hr
  refine ⟨h', ?_⟩
  replace hj : vm_J l X (lq_M nm (vm_Le17)) _ _ _ _ := hj
  refine vm_J.go (M := lq_M nm (vm_Le17)) hOK (k := 6) (hs := [(61, 0, [])]) (f' := (1267, (194, 13271), [.ref 100018, .ref 0, .ref 152, .int i], [.int (vm_sx X (i + 1).toNatClampNeg), .ref 0])) (h' := (G, I, F)) (hs' := []) rfl (vm_b2 rfl (vm_b2 rfl (vm_b2 rfl (vm_b2 rfl (vm_b2 rfl (vm_b2 (vm_b2 rfl b1) rfl)))))) ?_
  refine vm_J.call (M := lq_M nm (vm_Le17)) (Z := vm_M126) hOK (pc := 1267) (en := (1267, .invokevirtual 128, 3, [126, 936, 0], .null)) rfl (n := 1) (k := 0) (mi := 126) trivial rfl rfl vm_z126 (cs := (194, 13271)) (av := [.ref 0, .int (vm_sx X (i + 1).toNatClampNeg)]) (rest := []) K1 ⟨_, _, rfl, rfl, _, 10, _, hD.1, rfl, rfl, rfl⟩ (by decide) ⟨Nat.le_of_ble_eq_true rfl, Nat.le_of_ble_eq_true rfl⟩ ⟨Nat.le_of_ble_eq_true rfl, Nat.le_of_ble_eq_true rfl⟩ ?_
  replace hj := hj
  refine vm_J.go (M := lq_M nm (vm_Le17)) hOK (k := 6) (hs := [(61, 0, [])]) (f' := (1276, (194, 13271), [.ref 100018, .ref 0, .ref 152, .int i], [.int (vm_sx X (i + 1).toNatClampNeg), .ref 152, r])) (h' := (G, I1, F1)) (hs' := []) rfl (vm_b2 rfl (vm_b2 rfl (vm_b2 rfl (vm_b2 rfl (vm_b2 rfl (vm_b2 (vm_b2 rfl b1) rfl)))))) ?_
  refine vm_J.call (M := lq_M nm (vm_Le17)) (Z := vm_M267) hOK (pc := 1276) (en := (1276, .invokevirtual 131, 3, [267, 1710, 0], .null)) rfl (n := 1) (k := 0) (mi := 267) trivial rfl rfl vm_z267 (cs := (194, 13271)) (av := [.ref 152, .int (vm_sx X (i + 1).toNatClampNeg)]) (rest := [r]) K2 ⟨_, _, rfl, rfl, _, 11, _, hR.1, rfl, rfl, rfl⟩ (lq_cat ht) ⟨Nat.le_of_ble_eq_true rfl, Nat.le_of_ble_eq_true rfl⟩ ⟨Nat.le_of_ble_eq_true rfl, Nat.le_of_ble_eq_true rfl⟩ ?_
  replace hj := hj
  rcases ht with ⟨hl, v, rfl⟩ | ⟨hl, v, rfl⟩
  · exact absurd hl (by decide)
  · refine vm_J.go (M := lq_M nm (vm_Le17)) hOK (k := 1) (hs := []) (f' := (bif vm_ic .eq v v then 1930 else 1282, (194, 13271), [.ref 100018, .ref 0, .ref 152, .int i], [])) (h' := (G, I2, F2)) (hs' := []) rfl rfl (vm_J.bT (decide_eq_true rfl) hj)
theorem lc_28 {nm : String} {l : Launch} {X : vm_Cx} {G : List vm_Sh} {I : vm_IH} {F : vm_FH} {i : Int32} (hD : vm_isD G) (hR : vm_isR G) (h : Rel I F) (hb : lq_b X i) (hk : lq_K nm l X i G) : lq_N nm l X 1284 i G I F := by
  have hOK : vm_OK (lq_M nm (vm_Le17 ++ vm_Le18)) := lq_ok (vm_allA vm_Lf17 vm_Lf18) rfl
  obtain ⟨-, b1, b2, b3, b4, b5⟩ := hb
  obtain ⟨r, I1, F1, I2, F2, ht, K1, K2, hr⟩ := call_best (l := l) (X := X) (e := (vm_sx X (i + 1).toNatClampNeg)) (q := (vm_sx X (i + 2).toNatClampNeg)) (k := (vm_sx X (i + 3).toNatClampNeg)) hD hR h
  obtain ⟨h', hj⟩ := hk I2 F2 hr
  refine ⟨h', ?_⟩
  replace hj : vm_J l X (lq_M nm (vm_Le17 ++ vm_Le18)) _ _ _ _ := hj
  refine vm_J.go (M := lq_M nm (vm_Le17 ++ vm_Le18)) hOK (k := 16) (hs := [(61, 0, []), (61, 0, []), (61, 0, [])]) (f' := (1300, (194, 13271), [.ref 100018, .ref 0, .ref 152, .int i], [.int (vm_sx X (i + 3).toNatClampNeg), .int (vm_sx X (i + 2).toNatClampNeg), .int (vm_sx X (i + 1).toNatClampNeg), .ref 0])) (h' := (G, I, F)) (hs' := []) rfl (vm_b2 rfl (vm_b2 rfl (vm_b2 rfl (vm_b2 rfl (vm_b2 rfl (vm_b2 (vm_b2 rfl b1) (vm_b2 rfl (vm_b2 rfl (vm_b2 rfl (vm_b2 rfl (vm_b2 (vm_b2 rfl b2) (vm_b2 rfl (vm_b2 rfl (vm_b2 rfl (vm_b2 rfl (vm_b2 (vm_b2 rfl b3) rfl)))))))))))))))) ?_
  refine vm_J.call (M := lq_M nm (vm_Le17 ++ vm_Le18)) (Z := vm_M127) hOK (pc := 1300) (en := (1300, .invokevirtual 132, 3, [127, 945, 0], .null)) rfl (n := 3) (k := 0) (mi := 127) trivial rfl rfl vm_z127 (cs := (194, 13271)) (av := [.ref 0, .int (vm_sx X (i + 1).toNatClampNeg), .int (vm_sx X (i + 2).toNatClampNeg), .int (vm_sx X (i + 3).toNatClampNeg)]) (rest := []) K1 ⟨_, _, rfl, rfl, _, 10, _, hD.1, rfl, rfl, rfl⟩ (by decide) ⟨Nat.le_of_ble_eq_true rfl, Nat.le_of_ble_eq_true rfl⟩ ⟨Nat.le_of_ble_eq_true rfl, Nat.le_of_ble_eq_true rfl⟩ ?_
  replace hj := hj
  refine vm_J.go (M := lq_M nm (vm_Le17 ++ vm_Le18)) hOK (k := 16) (hs := [(61, 0, []), (61, 0, []), (61, 0, [])]) (f' := (1319, (194, 13271), [.ref 100018, .ref 0, .ref 152, .int i], [.int (vm_sx X (i + 3).toNatClampNeg), .int (vm_sx X (i + 2).toNatClampNeg), .int (vm_sx X (i + 1).toNatClampNeg), .ref 152, r])) (h' := (G, I1, F1)) (hs' := []) rfl (vm_b2 rfl (vm_b2 rfl (vm_b2 rfl (vm_b2 rfl (vm_b2 rfl (vm_b2 (vm_b2 rfl b1) (vm_b2 rfl (vm_b2 rfl (vm_b2 rfl (vm_b2 rfl (vm_b2 (vm_b2 rfl b2) (vm_b2 rfl (vm_b2 rfl (vm_b2 rfl (vm_b2 rfl (vm_b2 (vm_b2 rfl b3) rfl)))))))))))))))) ?_
  refine vm_J.call (M := lq_M nm (vm_Le17 ++ vm_Le18)) (Z := vm_M268) hOK (pc := 1319) (en := (1319, .invokevirtual 135, 3, [268, 1714, 0], .null)) rfl (n := 3) (k := 0) (mi := 268) trivial rfl rfl vm_z268 (cs := (194, 13271)) (av := [.ref 152, .int (vm_sx X (i + 1).toNatClampNeg), .int (vm_sx X (i + 2).toNatClampNeg), .int (vm_sx X (i + 3).toNatClampNeg)]) (rest := [r]) K2 ⟨_, _, rfl, rfl, _, 11, _, hR.1, rfl, rfl, rfl⟩ (lq_cat ht) ⟨Nat.le_of_ble_eq_true rfl, Nat.le_of_ble_eq_true rfl⟩ ⟨Nat.le_of_ble_eq_true rfl, Nat.le_of_ble_eq_true rfl⟩ ?_
  replace hj := hj
  rcases ht with ⟨hl, v, rfl⟩ | ⟨hl, v, rfl⟩
  · exact absurd hl (by decide)
  · refine vm_J.go (M := lq_M nm (vm_Le17 ++ vm_Le18)) hOK (k := 1) (hs := []) (f' := (bif vm_ic .eq v v then 1930 else 1325, (194, 13271), [.ref 100018, .ref 0, .ref 152, .int i], [])) (h' := (G, I2, F2)) (hs' := []) rfl rfl (vm_J.bT (decide_eq_true rfl) hj)
theorem lc_29 {nm : String} {l : Launch} {X : vm_Cx} {G : List vm_Sh} {I : vm_IH} {F : vm_FH} {i : Int32} (hD : vm_isD G) (hR : vm_isR G) (h : Rel I F) (hb : lq_b X i) (hk : lq_K nm l X i G) : lq_N nm l X 1327 i G I F := by
  have hOK : vm_OK (lq_M nm (vm_Le18 ++ vm_Le19)) := lq_ok (vm_allA vm_Lf18 vm_Lf19) rfl
  obtain ⟨-, b1, b2, b3, b4, b5⟩ := hb
  obtain ⟨r, I1, F1, I2, F2, ht, K1, K2, hr⟩ := call_see (l := l) (X := X) (x := (vm_sx X (i + 1).toNatClampNeg)) (y := (vm_sx X (i + 2).toNatClampNeg)) (e := (vm_sx X (i + 3).toNatClampNeg)) hD hR h
  obtain ⟨h', hj⟩ := hk I2 F2 hr
  refine ⟨h', ?_⟩
  replace hj : vm_J l X (lq_M nm (vm_Le18 ++ vm_Le19)) _ _ _ _ := hj
  refine vm_J.go (M := lq_M nm (vm_Le18 ++ vm_Le19)) hOK (k := 16) (hs := [(61, 0, []), (61, 0, []), (61, 0, [])]) (f' := (1343, (194, 13271), [.ref 100018, .ref 0, .ref 152, .int i], [.int (vm_sx X (i + 3).toNatClampNeg), .int (vm_sx X (i + 2).toNatClampNeg), .int (vm_sx X (i + 1).toNatClampNeg), .ref 0])) (h' := (G, I, F)) (hs' := []) rfl (vm_b2 rfl (vm_b2 rfl (vm_b2 rfl (vm_b2 rfl (vm_b2 rfl (vm_b2 (vm_b2 rfl b1) (vm_b2 rfl (vm_b2 rfl (vm_b2 rfl (vm_b2 rfl (vm_b2 (vm_b2 rfl b2) (vm_b2 rfl (vm_b2 rfl (vm_b2 rfl (vm_b2 rfl (vm_b2 (vm_b2 rfl b3) rfl)))))))))))))))) ?_
  refine vm_J.call (M := lq_M nm (vm_Le18 ++ vm_Le19)) (Z := vm_M128) hOK (pc := 1343) (en := (1343, .invokevirtual 136, 3, [128, 949, 0], .null)) rfl (n := 3) (k := 0) (mi := 128) trivial rfl rfl vm_z128 (cs := (194, 13271)) (av := [.ref 0, .int (vm_sx X (i + 1).toNatClampNeg), .int (vm_sx X (i + 2).toNatClampNeg), .int (vm_sx X (i + 3).toNatClampNeg)]) (rest := []) K1 ⟨_, _, rfl, rfl, _, 10, _, hD.1, rfl, rfl, rfl⟩ (by decide) ⟨Nat.le_of_ble_eq_true rfl, Nat.le_of_ble_eq_true rfl⟩ ⟨Nat.le_of_ble_eq_true rfl, Nat.le_of_ble_eq_true rfl⟩ ?_
  replace hj := hj
  refine vm_J.go (M := lq_M nm (vm_Le18 ++ vm_Le19)) hOK (k := 16) (hs := [(61, 0, []), (61, 0, []), (61, 0, [])]) (f' := (1362, (194, 13271), [.ref 100018, .ref 0, .ref 152, .int i], [.int (vm_sx X (i + 3).toNatClampNeg), .int (vm_sx X (i + 2).toNatClampNeg), .int (vm_sx X (i + 1).toNatClampNeg), .ref 152, r])) (h' := (G, I1, F1)) (hs' := []) rfl (vm_b2 rfl (vm_b2 rfl (vm_b2 rfl (vm_b2 rfl (vm_b2 rfl (vm_b2 (vm_b2 rfl b1) (vm_b2 rfl (vm_b2 rfl (vm_b2 rfl (vm_b2 rfl (vm_b2 (vm_b2 rfl b2) (vm_b2 rfl (vm_b2 rfl (vm_b2 rfl (vm_b2 rfl (vm_b2 (vm_b2 rfl b3) rfl)))))))))))))))) ?_
  refine vm_J.call (M := lq_M nm (vm_Le18 ++ vm_Le19)) (Z := vm_M269) hOK (pc := 1362) (en := (1362, .invokevirtual 139, 3, [269, 1718, 0], .null)) rfl (n := 3) (k := 0) (mi := 269) trivial rfl rfl vm_z269 (cs := (194, 13271)) (av := [.ref 152, .int (vm_sx X (i + 1).toNatClampNeg), .int (vm_sx X (i + 2).toNatClampNeg), .int (vm_sx X (i + 3).toNatClampNeg)]) (rest := [r]) K2 ⟨_, _, rfl, rfl, _, 11, _, hR.1, rfl, rfl, rfl⟩ (lq_cat ht) ⟨Nat.le_of_ble_eq_true rfl, Nat.le_of_ble_eq_true rfl⟩ ⟨Nat.le_of_ble_eq_true rfl, Nat.le_of_ble_eq_true rfl⟩ ?_
  replace hj := hj
  rcases ht with ⟨hl, v, rfl⟩ | ⟨hl, v, rfl⟩
  · exact absurd hl (by decide)
  · refine vm_J.go (M := lq_M nm (vm_Le18 ++ vm_Le19)) hOK (k := 1) (hs := []) (f' := (bif vm_ic .eq v v then 1930 else 1368, (194, 13271), [.ref 100018, .ref 0, .ref 152, .int i], [])) (h' := (G, I2, F2)) (hs' := []) rfl rfl (vm_J.bT (decide_eq_true rfl) hj)
theorem lc_30 {nm : String} {l : Launch} {X : vm_Cx} {G : List vm_Sh} {I : vm_IH} {F : vm_FH} {i : Int32} (hD : vm_isD G) (hR : vm_isR G) (h : Rel I F) (hb : lq_b X i) (hk : lq_K nm l X i G) : lq_N nm l X 1370 i G I F := by
  have hOK : vm_OK (lq_M nm (vm_Le19 ++ vm_Le20)) := lq_ok (vm_allA vm_Lf19 vm_Lf20) rfl
  obtain ⟨-, b1, b2, b3, b4, b5⟩ := hb
  obtain ⟨r, I1, F1, I2, F2, ht, K1, K2, hr⟩ := call_fits (l := l) (X := X) (e := (vm_sx X (i + 1).toNatClampNeg)) (q := (vm_sx X (i + 2).toNatClampNeg)) (k := (vm_sx X (i + 3).toNatClampNeg)) hD hR h
  obtain ⟨h', hj⟩ := hk I2 F2 hr
  refine ⟨h', ?_⟩
  replace hj : vm_J l X (lq_M nm (vm_Le19 ++ vm_Le20)) _ _ _ _ := hj
  refine vm_J.go (M := lq_M nm (vm_Le19 ++ vm_Le20)) hOK (k := 16) (hs := [(61, 0, []), (61, 0, []), (61, 0, [])]) (f' := (1386, (194, 13271), [.ref 100018, .ref 0, .ref 152, .int i], [.int (vm_sx X (i + 3).toNatClampNeg), .int (vm_sx X (i + 2).toNatClampNeg), .int (vm_sx X (i + 1).toNatClampNeg), .ref 0])) (h' := (G, I, F)) (hs' := []) rfl (vm_b2 rfl (vm_b2 rfl (vm_b2 rfl (vm_b2 rfl (vm_b2 rfl (vm_b2 (vm_b2 rfl b1) (vm_b2 rfl (vm_b2 rfl (vm_b2 rfl (vm_b2 rfl (vm_b2 (vm_b2 rfl b2) (vm_b2 rfl (vm_b2 rfl (vm_b2 rfl (vm_b2 rfl (vm_b2 (vm_b2 rfl b3) rfl)))))))))))))))) ?_
  refine vm_J.call (M := lq_M nm (vm_Le19 ++ vm_Le20)) (Z := vm_M129) hOK (pc := 1386) (en := (1386, .invokevirtual 140, 3, [129, 966, 0], .null)) rfl (n := 3) (k := 0) (mi := 129) trivial rfl rfl vm_z129 (cs := (194, 13271)) (av := [.ref 0, .int (vm_sx X (i + 1).toNatClampNeg), .int (vm_sx X (i + 2).toNatClampNeg), .int (vm_sx X (i + 3).toNatClampNeg)]) (rest := []) K1 ⟨_, _, rfl, rfl, _, 10, _, hD.1, rfl, rfl, rfl⟩ (by decide) ⟨Nat.le_of_ble_eq_true rfl, Nat.le_of_ble_eq_true rfl⟩ ⟨Nat.le_of_ble_eq_true rfl, Nat.le_of_ble_eq_true rfl⟩ ?_
  replace hj := hj
  refine vm_J.go (M := lq_M nm (vm_Le19 ++ vm_Le20)) hOK (k := 16) (hs := [(61, 0, []), (61, 0, []), (61, 0, [])]) (f' := (1405, (194, 13271), [.ref 100018, .ref 0, .ref 152, .int i], [.int (vm_sx X (i + 3).toNatClampNeg), .int (vm_sx X (i + 2).toNatClampNeg), .int (vm_sx X (i + 1).toNatClampNeg), .ref 152, r])) (h' := (G, I1, F1)) (hs' := []) rfl (vm_b2 rfl (vm_b2 rfl (vm_b2 rfl (vm_b2 rfl (vm_b2 rfl (vm_b2 (vm_b2 rfl b1) (vm_b2 rfl (vm_b2 rfl (vm_b2 rfl (vm_b2 rfl (vm_b2 (vm_b2 rfl b2) (vm_b2 rfl (vm_b2 rfl (vm_b2 rfl (vm_b2 rfl (vm_b2 (vm_b2 rfl b3) rfl)))))))))))))))) ?_
  refine vm_J.call (M := lq_M nm (vm_Le19 ++ vm_Le20)) (Z := vm_M271) hOK (pc := 1405) (en := (1405, .invokevirtual 143, 3, [271, 1722, 0], .null)) rfl (n := 3) (k := 0) (mi := 271) trivial rfl rfl vm_z271 (cs := (194, 13271)) (av := [.ref 152, .int (vm_sx X (i + 1).toNatClampNeg), .int (vm_sx X (i + 2).toNatClampNeg), .int (vm_sx X (i + 3).toNatClampNeg)]) (rest := [r]) K2 ⟨_, _, rfl, rfl, _, 11, _, hR.1, rfl, rfl, rfl⟩ (lq_cat ht) ⟨Nat.le_of_ble_eq_true rfl, Nat.le_of_ble_eq_true rfl⟩ ⟨Nat.le_of_ble_eq_true rfl, Nat.le_of_ble_eq_true rfl⟩ ?_
  replace hj := hj
  rcases ht with ⟨hl, v, rfl⟩ | ⟨hl, v, rfl⟩
  · exact absurd hl (by decide)
  · refine vm_J.go (M := lq_M nm (vm_Le19 ++ vm_Le20)) hOK (k := 1) (hs := []) (f' := (bif vm_ic .eq v v then 1930 else 1411, (194, 13271), [.ref 100018, .ref 0, .ref 152, .int i], [])) (h' := (G, I2, F2)) (hs' := []) rfl rfl (vm_J.bT (decide_eq_true rfl) hj)
theorem lc_31 {nm : String} {l : Launch} {X : vm_Cx} {G : List vm_Sh} {I : vm_IH} {F : vm_FH} {i : Int32} (hD : vm_isD G) (hR : vm_isR G) (h : Rel I F) (hb : lq_b X i) (hk : lq_K nm l X i G) : lq_N nm l X 1413 i G I F := by
  have hOK : vm_OK (lq_M nm (vm_Le20)) := lq_ok vm_Lf20 rfl
  obtain ⟨-, b1, b2, b3, b4, b5⟩ := hb
  obtain ⟨r, I1, F1, I2, F2, ht, K1, K2, hr⟩ := call_odds (l := l) (X := X) (q := (vm_sx X (i + 1).toNatClampNeg)) (e := (vm_sx X (i + 2).toNatClampNeg)) (t := (vm_sx X (i + 3).toNatClampNeg)) hD hR h
  obtain ⟨h', hj⟩ := hk I2 F2 hr
  refine ⟨h', ?_⟩
  replace hj : vm_J l X (lq_M nm (vm_Le20)) _ _ _ _ := hj
  refine vm_J.go (M := lq_M nm (vm_Le20)) hOK (k := 16) (hs := [(61, 0, []), (61, 0, []), (61, 0, [])]) (f' := (1429, (194, 13271), [.ref 100018, .ref 0, .ref 152, .int i], [.int (vm_sx X (i + 3).toNatClampNeg), .int (vm_sx X (i + 2).toNatClampNeg), .int (vm_sx X (i + 1).toNatClampNeg), .ref 0])) (h' := (G, I, F)) (hs' := []) rfl (vm_b2 rfl (vm_b2 rfl (vm_b2 rfl (vm_b2 rfl (vm_b2 rfl (vm_b2 (vm_b2 rfl b1) (vm_b2 rfl (vm_b2 rfl (vm_b2 rfl (vm_b2 rfl (vm_b2 (vm_b2 rfl b2) (vm_b2 rfl (vm_b2 rfl (vm_b2 rfl (vm_b2 rfl (vm_b2 (vm_b2 rfl b3) rfl)))))))))))))))) ?_
  refine vm_J.call (M := lq_M nm (vm_Le20)) (Z := vm_M130) hOK (pc := 1429) (en := (1429, .invokevirtual 144, 3, [130, 981, 0], .null)) rfl (n := 3) (k := 0) (mi := 130) trivial rfl rfl vm_z130 (cs := (194, 13271)) (av := [.ref 0, .int (vm_sx X (i + 1).toNatClampNeg), .int (vm_sx X (i + 2).toNatClampNeg), .int (vm_sx X (i + 3).toNatClampNeg)]) (rest := []) K1 ⟨_, _, rfl, rfl, _, 10, _, hD.1, rfl, rfl, rfl⟩ (by decide) ⟨Nat.le_of_ble_eq_true rfl, Nat.le_of_ble_eq_true rfl⟩ ⟨Nat.le_of_ble_eq_true rfl, Nat.le_of_ble_eq_true rfl⟩ ?_
  replace hj := hj
  refine vm_J.go (M := lq_M nm (vm_Le20)) hOK (k := 16) (hs := [(61, 0, []), (61, 0, []), (61, 0, [])]) (f' := (1448, (194, 13271), [.ref 100018, .ref 0, .ref 152, .int i], [.int (vm_sx X (i + 3).toNatClampNeg), .int (vm_sx X (i + 2).toNatClampNeg), .int (vm_sx X (i + 1).toNatClampNeg), .ref 152, r])) (h' := (G, I1, F1)) (hs' := []) rfl (vm_b2 rfl (vm_b2 rfl (vm_b2 rfl (vm_b2 rfl (vm_b2 rfl (vm_b2 (vm_b2 rfl b1) (vm_b2 rfl (vm_b2 rfl (vm_b2 rfl (vm_b2 rfl (vm_b2 (vm_b2 rfl b2) (vm_b2 rfl (vm_b2 rfl (vm_b2 rfl (vm_b2 rfl (vm_b2 (vm_b2 rfl b3) rfl)))))))))))))))) ?_
  refine vm_J.call (M := lq_M nm (vm_Le20)) (Z := vm_M272) hOK (pc := 1448) (en := (1448, .invokevirtual 147, 3, [272, 1730, 0], .null)) rfl (n := 3) (k := 0) (mi := 272) trivial rfl rfl vm_z272 (cs := (194, 13271)) (av := [.ref 152, .int (vm_sx X (i + 1).toNatClampNeg), .int (vm_sx X (i + 2).toNatClampNeg), .int (vm_sx X (i + 3).toNatClampNeg)]) (rest := [r]) K2 ⟨_, _, rfl, rfl, _, 11, _, hR.1, rfl, rfl, rfl⟩ (lq_cat ht) ⟨Nat.le_of_ble_eq_true rfl, Nat.le_of_ble_eq_true rfl⟩ ⟨Nat.le_of_ble_eq_true rfl, Nat.le_of_ble_eq_true rfl⟩ ?_
  replace hj := hj
  rcases ht with ⟨hl, v, rfl⟩ | ⟨hl, v, rfl⟩
  · refine vm_J.go (M := lq_M nm (vm_Le20)) hOK (k := 2) (hs := []) (f' := (bif vm_ic .eq (lg_cmp v v) 0 then 1930 else 1455, (194, 13271), [.ref 100018, .ref 0, .ref 152, .int i], [])) (h' := (G, I2, F2)) (hs' := []) rfl rfl (vm_J.bT (decide_eq_true (lg_cmp_e v)) hj)
  · exact absurd hl (by decide)
theorem lc_32 {nm : String} {l : Launch} {X : vm_Cx} {G : List vm_Sh} {I : vm_IH} {F : vm_FH} {i : Int32} (hD : vm_isD G) (hR : vm_isR G) (h : Rel I F) (hb : lq_b X i) (hk : lq_K nm l X i G) : lq_N nm l X 1457 i G I F := by
  have hOK : vm_OK (lq_M nm (vm_Le20 ++ vm_Le21)) := lq_ok (vm_allA vm_Lf20 vm_Lf21) rfl
  obtain ⟨-, b1, b2, b3, b4, b5⟩ := hb
  obtain ⟨r, I1, F1, I2, F2, ht, K1, K2, hr⟩ := call_spared (l := l) (X := X) (e := (vm_sx X (i + 1).toNatClampNeg)) (q := (vm_sx X (i + 2).toNatClampNeg)) (k := (vm_sx X (i + 3).toNatClampNeg)) hD hR h
  obtain ⟨h', hj⟩ := hk I2 F2 hr
  refine ⟨h', ?_⟩
  replace hj : vm_J l X (lq_M nm (vm_Le20 ++ vm_Le21)) _ _ _ _ := hj
  refine vm_J.go (M := lq_M nm (vm_Le20 ++ vm_Le21)) hOK (k := 16) (hs := [(61, 0, []), (61, 0, []), (61, 0, [])]) (f' := (1473, (194, 13271), [.ref 100018, .ref 0, .ref 152, .int i], [.int (vm_sx X (i + 3).toNatClampNeg), .int (vm_sx X (i + 2).toNatClampNeg), .int (vm_sx X (i + 1).toNatClampNeg), .ref 0])) (h' := (G, I, F)) (hs' := []) rfl (vm_b2 rfl (vm_b2 rfl (vm_b2 rfl (vm_b2 rfl (vm_b2 rfl (vm_b2 (vm_b2 rfl b1) (vm_b2 rfl (vm_b2 rfl (vm_b2 rfl (vm_b2 rfl (vm_b2 (vm_b2 rfl b2) (vm_b2 rfl (vm_b2 rfl (vm_b2 rfl (vm_b2 rfl (vm_b2 (vm_b2 rfl b3) rfl)))))))))))))))) ?_
  refine vm_J.call (M := lq_M nm (vm_Le20 ++ vm_Le21)) (Z := vm_M131) hOK (pc := 1473) (en := (1473, .invokevirtual 148, 3, [131, 985, 0], .null)) rfl (n := 3) (k := 0) (mi := 131) trivial rfl rfl vm_z131 (cs := (194, 13271)) (av := [.ref 0, .int (vm_sx X (i + 1).toNatClampNeg), .int (vm_sx X (i + 2).toNatClampNeg), .int (vm_sx X (i + 3).toNatClampNeg)]) (rest := []) K1 ⟨_, _, rfl, rfl, _, 10, _, hD.1, rfl, rfl, rfl⟩ (by decide) ⟨Nat.le_of_ble_eq_true rfl, Nat.le_of_ble_eq_true rfl⟩ ⟨Nat.le_of_ble_eq_true rfl, Nat.le_of_ble_eq_true rfl⟩ ?_
  replace hj := hj
  refine vm_J.go (M := lq_M nm (vm_Le20 ++ vm_Le21)) hOK (k := 16) (hs := [(61, 0, []), (61, 0, []), (61, 0, [])]) (f' := (1492, (194, 13271), [.ref 100018, .ref 0, .ref 152, .int i], [.int (vm_sx X (i + 3).toNatClampNeg), .int (vm_sx X (i + 2).toNatClampNeg), .int (vm_sx X (i + 1).toNatClampNeg), .ref 152, r])) (h' := (G, I1, F1)) (hs' := []) rfl (vm_b2 rfl (vm_b2 rfl (vm_b2 rfl (vm_b2 rfl (vm_b2 rfl (vm_b2 (vm_b2 rfl b1) (vm_b2 rfl (vm_b2 rfl (vm_b2 rfl (vm_b2 rfl (vm_b2 (vm_b2 rfl b2) (vm_b2 rfl (vm_b2 rfl (vm_b2 rfl (vm_b2 rfl (vm_b2 (vm_b2 rfl b3) rfl)))))))))))))))) ?_
  refine vm_J.call (M := lq_M nm (vm_Le20 ++ vm_Le21)) (Z := vm_M281) hOK (pc := 1492) (en := (1492, .invokevirtual 151, 3, [281, 1763, 0], .null)) rfl (n := 3) (k := 0) (mi := 281) trivial rfl rfl vm_z281 (cs := (194, 13271)) (av := [.ref 152, .int (vm_sx X (i + 1).toNatClampNeg), .int (vm_sx X (i + 2).toNatClampNeg), .int (vm_sx X (i + 3).toNatClampNeg)]) (rest := [r]) K2 ⟨_, _, rfl, rfl, _, 11, _, hR.1, rfl, rfl, rfl⟩ (lq_cat ht) ⟨Nat.le_of_ble_eq_true rfl, Nat.le_of_ble_eq_true rfl⟩ ⟨Nat.le_of_ble_eq_true rfl, Nat.le_of_ble_eq_true rfl⟩ ?_
  replace hj := hj
  rcases ht with ⟨hl, v, rfl⟩ | ⟨hl, v, rfl⟩
  · exact absurd hl (by decide)
  · refine vm_J.go (M := lq_M nm (vm_Le20 ++ vm_Le21)) hOK (k := 1) (hs := []) (f' := (bif vm_ic .eq v v then 1930 else 1498, (194, 13271), [.ref 100018, .ref 0, .ref 152, .int i], [])) (h' := (G, I2, F2)) (hs' := []) rfl rfl (vm_J.bT (decide_eq_true rfl) hj)
theorem lc_33 {nm : String} {l : Launch} {X : vm_Cx} {G : List vm_Sh} {I : vm_IH} {F : vm_FH} {i : Int32} (hD : vm_isD G) (hR : vm_isR G) (h : Rel I F) (hb : lq_b X i) (hk : lq_K nm l X i G) : lq_N nm l X 1500 i G I F := by
  have hOK : vm_OK (lq_M nm (vm_Le21 ++ vm_Le22)) := lq_ok (vm_allA vm_Lf21 vm_Lf22) rfl
  obtain ⟨-, b1, b2, b3, b4, b5⟩ := hb
  obtain ⟨r, I1, F1, I2, F2, ht, K1, K2, hr⟩ := call_plan (l := l) (X := X) (x := (vm_sx X (i + 1).toNatClampNeg)) (v := (vm_sx X (i + 2).toNatClampNeg)) hD hR h
  obtain ⟨h', hj⟩ := hk I2 F2 hr
  refine ⟨h', ?_⟩
  replace hj : vm_J l X (lq_M nm (vm_Le21 ++ vm_Le22)) _ _ _ _ := hj
  refine vm_J.go (M := lq_M nm (vm_Le21 ++ vm_Le22)) hOK (k := 11) (hs := [(61, 0, []), (61, 0, [])]) (f' := (1511, (194, 13271), [.ref 100018, .ref 0, .ref 152, .int i], [.int (vm_sx X (i + 2).toNatClampNeg), .int (vm_sx X (i + 1).toNatClampNeg), .ref 0])) (h' := (G, I, F)) (hs' := []) rfl (vm_b2 rfl (vm_b2 rfl (vm_b2 rfl (vm_b2 rfl (vm_b2 rfl (vm_b2 (vm_b2 rfl b1) (vm_b2 rfl (vm_b2 rfl (vm_b2 rfl (vm_b2 rfl (vm_b2 (vm_b2 rfl b2) rfl))))))))))) ?_
  refine vm_J.call (M := lq_M nm (vm_Le21 ++ vm_Le22)) (Z := vm_M132) hOK (pc := 1511) (en := (1511, .invokevirtual 152, 3, [132, 995, 0], .null)) rfl (n := 2) (k := 0) (mi := 132) trivial rfl rfl vm_z132 (cs := (194, 13271)) (av := [.ref 0, .int (vm_sx X (i + 1).toNatClampNeg), .int (vm_sx X (i + 2).toNatClampNeg)]) (rest := []) K1 ⟨_, _, rfl, rfl, _, 10, _, hD.1, rfl, rfl, rfl⟩ (by decide) ⟨Nat.le_of_ble_eq_true rfl, Nat.le_of_ble_eq_true rfl⟩ ⟨Nat.le_of_ble_eq_true rfl, Nat.le_of_ble_eq_true rfl⟩ ?_
  replace hj := hj
  refine vm_J.go (M := lq_M nm (vm_Le21 ++ vm_Le22)) hOK (k := 11) (hs := [(61, 0, []), (61, 0, [])]) (f' := (1525, (194, 13271), [.ref 100018, .ref 0, .ref 152, .int i], [.int (vm_sx X (i + 2).toNatClampNeg), .int (vm_sx X (i + 1).toNatClampNeg), .ref 152, r])) (h' := (G, I1, F1)) (hs' := []) rfl (vm_b2 rfl (vm_b2 rfl (vm_b2 rfl (vm_b2 rfl (vm_b2 rfl (vm_b2 (vm_b2 rfl b1) (vm_b2 rfl (vm_b2 rfl (vm_b2 rfl (vm_b2 rfl (vm_b2 (vm_b2 rfl b2) rfl))))))))))) ?_
  refine vm_J.call (M := lq_M nm (vm_Le21 ++ vm_Le22)) (Z := vm_M282) hOK (pc := 1525) (en := (1525, .invokevirtual 155, 3, [282, 1775, 0], .null)) rfl (n := 2) (k := 0) (mi := 282) trivial rfl rfl vm_z282 (cs := (194, 13271)) (av := [.ref 152, .int (vm_sx X (i + 1).toNatClampNeg), .int (vm_sx X (i + 2).toNatClampNeg)]) (rest := [r]) K2 ⟨_, _, rfl, rfl, _, 11, _, hR.1, rfl, rfl, rfl⟩ (lq_cat ht) ⟨Nat.le_of_ble_eq_true rfl, Nat.le_of_ble_eq_true rfl⟩ ⟨Nat.le_of_ble_eq_true rfl, Nat.le_of_ble_eq_true rfl⟩ ?_
  replace hj := hj
  rcases ht with ⟨hl, v, rfl⟩ | ⟨hl, v, rfl⟩
  · exact absurd hl (by decide)
  · refine vm_J.go (M := lq_M nm (vm_Le21 ++ vm_Le22)) hOK (k := 1) (hs := []) (f' := (bif vm_ic .eq v v then 1930 else 1531, (194, 13271), [.ref 100018, .ref 0, .ref 152, .int i], [])) (h' := (G, I2, F2)) (hs' := []) rfl rfl (vm_J.bT (decide_eq_true rfl) hj)
theorem lc_34 {nm : String} {l : Launch} {X : vm_Cx} {G : List vm_Sh} {I : vm_IH} {F : vm_FH} {i : Int32} (hD : vm_isD G) (hR : vm_isR G) (h : Rel I F) (hb : lq_b X i) (hk : lq_K nm l X i G) : lq_N nm l X 1533 i G I F := by
  have hOK : vm_OK (lq_M nm (vm_Le22)) := lq_ok vm_Lf22 rfl
  obtain ⟨-, b1, b2, b3, b4, b5⟩ := hb
  obtain ⟨r, I1, F1, I2, F2, ht, K1, K2, hr⟩ := call_ends (l := l) (X := X) (k := (vm_sx X (i + 1).toNatClampNeg)) hD hR h
  obtain ⟨h', hj⟩ := hk I2 F2 hr
  refine ⟨h', ?_⟩
  replace hj : vm_J l X (lq_M nm (vm_Le22)) _ _ _ _ := hj
  refine vm_J.go (M := lq_M nm (vm_Le22)) hOK (k := 6) (hs := [(61, 0, [])]) (f' := (1539, (194, 13271), [.ref 100018, .ref 0, .ref 152, .int i], [.int (vm_sx X (i + 1).toNatClampNeg), .ref 0])) (h' := (G, I, F)) (hs' := []) rfl (vm_b2 rfl (vm_b2 rfl (vm_b2 rfl (vm_b2 rfl (vm_b2 rfl (vm_b2 (vm_b2 rfl b1) rfl)))))) ?_
  refine vm_J.call (M := lq_M nm (vm_Le22)) (Z := vm_M133) hOK (pc := 1539) (en := (1539, .invokevirtual 156, 3, [133, 1001, 0], .null)) rfl (n := 1) (k := 0) (mi := 133) trivial rfl rfl vm_z133 (cs := (194, 13271)) (av := [.ref 0, .int (vm_sx X (i + 1).toNatClampNeg)]) (rest := []) K1 ⟨_, _, rfl, rfl, _, 10, _, hD.1, rfl, rfl, rfl⟩ (by decide) ⟨Nat.le_of_ble_eq_true rfl, Nat.le_of_ble_eq_true rfl⟩ ⟨Nat.le_of_ble_eq_true rfl, Nat.le_of_ble_eq_true rfl⟩ ?_
  replace hj := hj
  refine vm_J.go (M := lq_M nm (vm_Le22)) hOK (k := 6) (hs := [(61, 0, [])]) (f' := (1548, (194, 13271), [.ref 100018, .ref 0, .ref 152, .int i], [.int (vm_sx X (i + 1).toNatClampNeg), .ref 152, r])) (h' := (G, I1, F1)) (hs' := []) rfl (vm_b2 rfl (vm_b2 rfl (vm_b2 rfl (vm_b2 rfl (vm_b2 rfl (vm_b2 (vm_b2 rfl b1) rfl)))))) ?_
  refine vm_J.call (M := lq_M nm (vm_Le22)) (Z := vm_M284) hOK (pc := 1548) (en := (1548, .invokevirtual 159, 3, [284, 1779, 0], .null)) rfl (n := 1) (k := 0) (mi := 284) trivial rfl rfl vm_z284 (cs := (194, 13271)) (av := [.ref 152, .int (vm_sx X (i + 1).toNatClampNeg)]) (rest := [r]) K2 ⟨_, _, rfl, rfl, _, 11, _, hR.1, rfl, rfl, rfl⟩ (lq_cat ht) ⟨Nat.le_of_ble_eq_true rfl, Nat.le_of_ble_eq_true rfl⟩ ⟨Nat.le_of_ble_eq_true rfl, Nat.le_of_ble_eq_true rfl⟩ ?_
  replace hj := hj
  rcases ht with ⟨hl, v, rfl⟩ | ⟨hl, v, rfl⟩
  · exact absurd hl (by decide)
  · refine vm_J.go (M := lq_M nm (vm_Le22)) hOK (k := 1) (hs := []) (f' := (bif vm_ic .eq v v then 1930 else 1554, (194, 13271), [.ref 100018, .ref 0, .ref 152, .int i], [])) (h' := (G, I2, F2)) (hs' := []) rfl rfl (vm_J.bT (decide_eq_true rfl) hj)
theorem lc_35 {nm : String} {l : Launch} {X : vm_Cx} {G : List vm_Sh} {I : vm_IH} {F : vm_FH} {i : Int32} (hD : vm_isD G) (hR : vm_isR G) (h : Rel I F) (hb : lq_b X i) (hk : lq_K nm l X i G) : lq_N nm l X 1556 i G I F := by
  have hOK : vm_OK (lq_M nm (vm_Le22 ++ vm_Le23)) := lq_ok (vm_allA vm_Lf22 vm_Lf23) rfl
  obtain ⟨-, b1, b2, b3, b4, b5⟩ := hb
  obtain ⟨r, I1, F1, I2, F2, ht, K1, K2, hr⟩ := call_book (l := l) (X := X) (x := (vm_sx X (i + 1).toNatClampNeg)) (v := (vm_sx X (i + 2).toNatClampNeg)) hD hR h
  obtain ⟨h', hj⟩ := hk I2 F2 hr
  refine ⟨h', ?_⟩
  replace hj : vm_J l X (lq_M nm (vm_Le22 ++ vm_Le23)) _ _ _ _ := hj
  refine vm_J.go (M := lq_M nm (vm_Le22 ++ vm_Le23)) hOK (k := 11) (hs := [(61, 0, []), (61, 0, [])]) (f' := (1567, (194, 13271), [.ref 100018, .ref 0, .ref 152, .int i], [.int (vm_sx X (i + 2).toNatClampNeg), .int (vm_sx X (i + 1).toNatClampNeg), .ref 0])) (h' := (G, I, F)) (hs' := []) rfl (vm_b2 rfl (vm_b2 rfl (vm_b2 rfl (vm_b2 rfl (vm_b2 rfl (vm_b2 (vm_b2 rfl b1) (vm_b2 rfl (vm_b2 rfl (vm_b2 rfl (vm_b2 rfl (vm_b2 (vm_b2 rfl b2) rfl))))))))))) ?_
  refine vm_J.call (M := lq_M nm (vm_Le22 ++ vm_Le23)) (Z := vm_M134) hOK (pc := 1567) (en := (1567, .invokevirtual 160, 3, [134, 1037, 0], .null)) rfl (n := 2) (k := 0) (mi := 134) trivial rfl rfl vm_z134 (cs := (194, 13271)) (av := [.ref 0, .int (vm_sx X (i + 1).toNatClampNeg), .int (vm_sx X (i + 2).toNatClampNeg)]) (rest := []) K1 ⟨_, _, rfl, rfl, _, 10, _, hD.1, rfl, rfl, rfl⟩ (by decide) ⟨Nat.le_of_ble_eq_true rfl, Nat.le_of_ble_eq_true rfl⟩ ⟨Nat.le_of_ble_eq_true rfl, Nat.le_of_ble_eq_true rfl⟩ ?_
  replace hj := hj
  refine vm_J.go (M := lq_M nm (vm_Le22 ++ vm_Le23)) hOK (k := 11) (hs := [(61, 0, []), (61, 0, [])]) (f' := (1581, (194, 13271), [.ref 100018, .ref 0, .ref 152, .int i], [.int (vm_sx X (i + 2).toNatClampNeg), .int (vm_sx X (i + 1).toNatClampNeg), .ref 152, r])) (h' := (G, I1, F1)) (hs' := []) rfl (vm_b2 rfl (vm_b2 rfl (vm_b2 rfl (vm_b2 rfl (vm_b2 rfl (vm_b2 (vm_b2 rfl b1) (vm_b2 rfl (vm_b2 rfl (vm_b2 rfl (vm_b2 rfl (vm_b2 (vm_b2 rfl b2) rfl))))))))))) ?_
  refine vm_J.call (M := lq_M nm (vm_Le22 ++ vm_Le23)) (Z := vm_M285) hOK (pc := 1581) (en := (1581, .invokevirtual 163, 3, [285, 1787, 0], .null)) rfl (n := 2) (k := 0) (mi := 285) trivial rfl rfl vm_z285 (cs := (194, 13271)) (av := [.ref 152, .int (vm_sx X (i + 1).toNatClampNeg), .int (vm_sx X (i + 2).toNatClampNeg)]) (rest := [r]) K2 ⟨_, _, rfl, rfl, _, 11, _, hR.1, rfl, rfl, rfl⟩ (lq_cat ht) ⟨Nat.le_of_ble_eq_true rfl, Nat.le_of_ble_eq_true rfl⟩ ⟨Nat.le_of_ble_eq_true rfl, Nat.le_of_ble_eq_true rfl⟩ ?_
  replace hj := hj
  rcases ht with ⟨hl, v, rfl⟩ | ⟨hl, v, rfl⟩
  · exact absurd hl (by decide)
  · refine vm_J.go (M := lq_M nm (vm_Le22 ++ vm_Le23)) hOK (k := 1) (hs := []) (f' := (bif vm_ic .eq v v then 1930 else 1587, (194, 13271), [.ref 100018, .ref 0, .ref 152, .int i], [])) (h' := (G, I2, F2)) (hs' := []) rfl rfl (vm_J.bT (decide_eq_true rfl) hj)
theorem lc_36 {nm : String} {l : Launch} {X : vm_Cx} {G : List vm_Sh} {I : vm_IH} {F : vm_FH} {i : Int32} (hD : vm_isD G) (hR : vm_isR G) (h : Rel I F) (hb : lq_b X i) (hk : lq_K nm l X i G) : lq_N nm l X 1589 i G I F := by
  have hOK : vm_OK (lq_M nm (vm_Le23)) := lq_ok vm_Lf23 rfl
  obtain ⟨-, b1, b2, b3, b4, b5⟩ := hb
  obtain ⟨r, I1, F1, I2, F2, ht, K1, K2, hr⟩ := call_looked (l := l) (X := X)  hD hR h
  obtain ⟨h', hj⟩ := hk I2 F2 hr
  refine ⟨h', ?_⟩
  replace hj : vm_J l X (lq_M nm (vm_Le23)) _ _ _ _ := hj
  refine vm_J.go (M := lq_M nm (vm_Le23)) hOK (k := 1) (hs := []) (f' := (1590, (194, 13271), [.ref 100018, .ref 0, .ref 152, .int i], [.ref 0])) (h' := (G, I, F)) (hs' := []) rfl (vm_b2 rfl rfl) ?_
  refine vm_J.call (M := lq_M nm (vm_Le23)) (Z := vm_M135) hOK (pc := 1590) (en := (1590, .invokevirtual 164, 3, [135, 1041, 0], .null)) rfl (n := 0) (k := 0) (mi := 135) trivial rfl rfl vm_z135 (cs := (194, 13271)) (av := [.ref 0]) (rest := []) K1 ⟨_, _, rfl, rfl, _, 10, _, hD.1, rfl, rfl, rfl⟩ (by decide) ⟨Nat.le_of_ble_eq_true rfl, Nat.le_of_ble_eq_true rfl⟩ ⟨Nat.le_of_ble_eq_true rfl, Nat.le_of_ble_eq_true rfl⟩ ?_
  replace hj := hj
  refine vm_J.go (M := lq_M nm (vm_Le23)) hOK (k := 1) (hs := []) (f' := (1594, (194, 13271), [.ref 100018, .ref 0, .ref 152, .int i], [.ref 152, r])) (h' := (G, I1, F1)) (hs' := []) rfl (vm_b2 rfl rfl) ?_
  refine vm_J.call (M := lq_M nm (vm_Le23)) (Z := vm_M286) hOK (pc := 1594) (en := (1594, .invokevirtual 168, 3, [286, 1791, 0], .null)) rfl (n := 0) (k := 0) (mi := 286) trivial rfl rfl vm_z286 (cs := (194, 13271)) (av := [.ref 152]) (rest := [r]) K2 ⟨_, _, rfl, rfl, _, 11, _, hR.1, rfl, rfl, rfl⟩ (lq_cat ht) ⟨Nat.le_of_ble_eq_true rfl, Nat.le_of_ble_eq_true rfl⟩ ⟨Nat.le_of_ble_eq_true rfl, Nat.le_of_ble_eq_true rfl⟩ ?_
  replace hj := hj
  rcases ht with ⟨hl, v, rfl⟩ | ⟨hl, v, rfl⟩
  · exact absurd hl (by decide)
  · refine vm_J.go (M := lq_M nm (vm_Le23)) hOK (k := 1) (hs := []) (f' := (bif vm_ic .eq v v then 1930 else 1600, (194, 13271), [.ref 100018, .ref 0, .ref 152, .int i], [])) (h' := (G, I2, F2)) (hs' := []) rfl rfl (vm_J.bT (decide_eq_true rfl) hj)
theorem lc_37 {nm : String} {l : Launch} {X : vm_Cx} {G : List vm_Sh} {I : vm_IH} {F : vm_FH} {i : Int32} (hD : vm_isD G) (hR : vm_isR G) (h : Rel I F) (hb : lq_b X i) (hk : lq_K nm l X i G) : lq_N nm l X 1602 i G I F := by
  have hOK : vm_OK (lq_M nm (vm_Le23)) := lq_ok vm_Lf23 rfl
  obtain ⟨-, b1, b2, b3, b4, b5⟩ := hb
  obtain ⟨r, I1, F1, I2, F2, ht, K1, K2, hr⟩ := call_judge (l := l) (X := X) (q := (vm_sx X (i + 1).toNatClampNeg)) (e := (vm_sx X (i + 2).toNatClampNeg)) hD hR h
  obtain ⟨h', hj⟩ := hk I2 F2 hr
  refine ⟨h', ?_⟩
  replace hj : vm_J l X (lq_M nm (vm_Le23)) _ _ _ _ := hj
  refine vm_J.go (M := lq_M nm (vm_Le23)) hOK (k := 11) (hs := [(61, 0, []), (61, 0, [])]) (f' := (1613, (194, 13271), [.ref 100018, .ref 0, .ref 152, .int i], [.int (vm_sx X (i + 2).toNatClampNeg), .int (vm_sx X (i + 1).toNatClampNeg), .ref 0])) (h' := (G, I, F)) (hs' := []) rfl (vm_b2 rfl (vm_b2 rfl (vm_b2 rfl (vm_b2 rfl (vm_b2 rfl (vm_b2 (vm_b2 rfl b1) (vm_b2 rfl (vm_b2 rfl (vm_b2 rfl (vm_b2 rfl (vm_b2 (vm_b2 rfl b2) rfl))))))))))) ?_
  refine vm_J.call (M := lq_M nm (vm_Le23)) (Z := vm_M136) hOK (pc := 1613) (en := (1613, .invokevirtual 169, 3, [136, 1045, 0], .null)) rfl (n := 2) (k := 0) (mi := 136) trivial rfl rfl vm_z136 (cs := (194, 13271)) (av := [.ref 0, .int (vm_sx X (i + 1).toNatClampNeg), .int (vm_sx X (i + 2).toNatClampNeg)]) (rest := []) K1 ⟨_, _, rfl, rfl, _, 10, _, hD.1, rfl, rfl, rfl⟩ (by decide) ⟨Nat.le_of_ble_eq_true rfl, Nat.le_of_ble_eq_true rfl⟩ ⟨Nat.le_of_ble_eq_true rfl, Nat.le_of_ble_eq_true rfl⟩ ?_
  replace hj := hj
  refine vm_J.go (M := lq_M nm (vm_Le23)) hOK (k := 11) (hs := [(61, 0, []), (61, 0, [])]) (f' := (1627, (194, 13271), [.ref 100018, .ref 0, .ref 152, .int i], [.int (vm_sx X (i + 2).toNatClampNeg), .int (vm_sx X (i + 1).toNatClampNeg), .ref 152, r])) (h' := (G, I1, F1)) (hs' := []) rfl (vm_b2 rfl (vm_b2 rfl (vm_b2 rfl (vm_b2 rfl (vm_b2 rfl (vm_b2 (vm_b2 rfl b1) (vm_b2 rfl (vm_b2 rfl (vm_b2 rfl (vm_b2 rfl (vm_b2 (vm_b2 rfl b2) rfl))))))))))) ?_
  refine vm_J.call (M := lq_M nm (vm_Le23)) (Z := vm_M288) hOK (pc := 1627) (en := (1627, .invokevirtual 172, 3, [288, 1795, 0], .null)) rfl (n := 2) (k := 0) (mi := 288) trivial rfl rfl vm_z288 (cs := (194, 13271)) (av := [.ref 152, .int (vm_sx X (i + 1).toNatClampNeg), .int (vm_sx X (i + 2).toNatClampNeg)]) (rest := [r]) K2 ⟨_, _, rfl, rfl, _, 11, _, hR.1, rfl, rfl, rfl⟩ (lq_cat ht) ⟨Nat.le_of_ble_eq_true rfl, Nat.le_of_ble_eq_true rfl⟩ ⟨Nat.le_of_ble_eq_true rfl, Nat.le_of_ble_eq_true rfl⟩ ?_
  replace hj := hj
  rcases ht with ⟨hl, v, rfl⟩ | ⟨hl, v, rfl⟩
  · exact absurd hl (by decide)
  · refine vm_J.go (M := lq_M nm (vm_Le23)) hOK (k := 1) (hs := []) (f' := (bif vm_ic .eq v v then 1930 else 1633, (194, 13271), [.ref 100018, .ref 0, .ref 152, .int i], [])) (h' := (G, I2, F2)) (hs' := []) rfl rfl (vm_J.bT (decide_eq_true rfl) hj)
theorem lc_38 {nm : String} {l : Launch} {X : vm_Cx} {G : List vm_Sh} {I : vm_IH} {F : vm_FH} {i : Int32} (hD : vm_isD G) (hR : vm_isR G) (h : Rel I F) (hb : lq_b X i) (hk : lq_K nm l X i G) : lq_N nm l X 1635 i G I F := by
  have hOK : vm_OK (lq_M nm (vm_Le23)) := lq_ok vm_Lf23 rfl
  obtain ⟨-, b1, b2, b3, b4, b5⟩ := hb
  obtain ⟨r, I1, F1, I2, F2, ht, K1, K2, hr⟩ := call_image (l := l) (X := X)  hD hR h
  obtain ⟨h', hj⟩ := hk I2 F2 hr
  refine ⟨h', ?_⟩
  replace hj : vm_J l X (lq_M nm (vm_Le23)) _ _ _ _ := hj
  refine vm_J.go (M := lq_M nm (vm_Le23)) hOK (k := 1) (hs := []) (f' := (1636, (194, 13271), [.ref 100018, .ref 0, .ref 152, .int i], [.ref 0])) (h' := (G, I, F)) (hs' := []) rfl (vm_b2 rfl rfl) ?_
  refine vm_J.call (M := lq_M nm (vm_Le23)) (Z := vm_M137) hOK (pc := 1636) (en := (1636, .invokevirtual 173, 3, [137, 1054, 0], .null)) rfl (n := 0) (k := 0) (mi := 137) trivial rfl rfl vm_z137 (cs := (194, 13271)) (av := [.ref 0]) (rest := []) K1 ⟨_, _, rfl, rfl, _, 10, _, hD.1, rfl, rfl, rfl⟩ (by decide) ⟨Nat.le_of_ble_eq_true rfl, Nat.le_of_ble_eq_true rfl⟩ ⟨Nat.le_of_ble_eq_true rfl, Nat.le_of_ble_eq_true rfl⟩ ?_
  replace hj := hj
  refine vm_J.go (M := lq_M nm (vm_Le23)) hOK (k := 1) (hs := []) (f' := (1640, (194, 13271), [.ref 100018, .ref 0, .ref 152, .int i], [.ref 152, r])) (h' := (G, I1, F1)) (hs' := []) rfl (vm_b2 rfl rfl) ?_
  refine vm_J.call (M := lq_M nm (vm_Le23)) (Z := vm_M278) hOK (pc := 1640) (en := (1640, .invokevirtual 176, 3, [278, 1735, 0], .null)) rfl (n := 0) (k := 0) (mi := 278) trivial rfl rfl vm_z278 (cs := (194, 13271)) (av := [.ref 152]) (rest := [r]) K2 ⟨_, _, rfl, rfl, _, 11, _, hR.1, rfl, rfl, rfl⟩ (lq_cat ht) ⟨Nat.le_of_ble_eq_true rfl, Nat.le_of_ble_eq_true rfl⟩ ⟨Nat.le_of_ble_eq_true rfl, Nat.le_of_ble_eq_true rfl⟩ ?_
  replace hj := hj
  rcases ht with ⟨hl, v, rfl⟩ | ⟨hl, v, rfl⟩
  · exact absurd hl (by decide)
  · refine vm_J.go (M := lq_M nm (vm_Le23)) hOK (k := 1) (hs := []) (f' := (bif vm_ic .eq v v then 1930 else 1646, (194, 13271), [.ref 100018, .ref 0, .ref 152, .int i], [])) (h' := (G, I2, F2)) (hs' := []) rfl rfl (vm_J.bT (decide_eq_true rfl) hj)
theorem lc_39 {nm : String} {l : Launch} {X : vm_Cx} {G : List vm_Sh} {I : vm_IH} {F : vm_FH} {i : Int32} (hD : vm_isD G) (hR : vm_isR G) (h : Rel I F) (hb : lq_b X i) (hk : lq_K nm l X i G) : lq_N nm l X 1648 i G I F := by
  have hOK : vm_OK (lq_M nm (vm_Le23 ++ vm_Le24)) := lq_ok (vm_allA vm_Lf23 vm_Lf24) rfl
  obtain ⟨-, b1, b2, b3, b4, b5⟩ := hb
  obtain ⟨r, I1, F1, I2, F2, ht, K1, K2, hr⟩ := call_undo (l := l) (X := X)  hD hR h
  obtain ⟨h', hj⟩ := hk I2 F2 hr
  refine ⟨h', ?_⟩
  replace hj : vm_J l X (lq_M nm (vm_Le23 ++ vm_Le24)) _ _ _ _ := hj
  refine vm_J.go (M := lq_M nm (vm_Le23 ++ vm_Le24)) hOK (k := 1) (hs := []) (f' := (1649, (194, 13271), [.ref 100018, .ref 0, .ref 152, .int i], [.ref 0])) (h' := (G, I, F)) (hs' := []) rfl (vm_b2 rfl rfl) ?_
  refine vm_J.call (M := lq_M nm (vm_Le23 ++ vm_Le24)) (Z := vm_M138) hOK (pc := 1649) (en := (1649, .invokevirtual 177, 3, [138, 1063, 0], .null)) rfl (n := 0) (k := 0) (mi := 138) trivial rfl rfl vm_z138 (cs := (194, 13271)) (av := [.ref 0]) (rest := []) K1 ⟨_, _, rfl, rfl, _, 10, _, hD.1, rfl, rfl, rfl⟩ (by decide) ⟨Nat.le_of_ble_eq_true rfl, Nat.le_of_ble_eq_true rfl⟩ ⟨Nat.le_of_ble_eq_true rfl, Nat.le_of_ble_eq_true rfl⟩ ?_
  replace hj := hj
  refine vm_J.go (M := lq_M nm (vm_Le23 ++ vm_Le24)) hOK (k := 1) (hs := []) (f' := (1653, (194, 13271), [.ref 100018, .ref 0, .ref 152, .int i], [.ref 152, r])) (h' := (G, I1, F1)) (hs' := []) rfl (vm_b2 rfl rfl) ?_
  refine vm_J.call (M := lq_M nm (vm_Le23 ++ vm_Le24)) (Z := vm_M279) hOK (pc := 1653) (en := (1653, .invokevirtual 180, 3, [279, 1759, 0], .null)) rfl (n := 0) (k := 0) (mi := 279) trivial rfl rfl vm_z279 (cs := (194, 13271)) (av := [.ref 152]) (rest := [r]) K2 ⟨_, _, rfl, rfl, _, 11, _, hR.1, rfl, rfl, rfl⟩ (lq_cat ht) ⟨Nat.le_of_ble_eq_true rfl, Nat.le_of_ble_eq_true rfl⟩ ⟨Nat.le_of_ble_eq_true rfl, Nat.le_of_ble_eq_true rfl⟩ ?_
  replace hj := hj
  rcases ht with ⟨hl, v, rfl⟩ | ⟨hl, v, rfl⟩
  · exact absurd hl (by decide)
  · refine vm_J.go (M := lq_M nm (vm_Le23 ++ vm_Le24)) hOK (k := 1) (hs := []) (f' := (bif vm_ic .eq v v then 1930 else 1659, (194, 13271), [.ref 100018, .ref 0, .ref 152, .int i], [])) (h' := (G, I2, F2)) (hs' := []) rfl rfl (vm_J.bT (decide_eq_true rfl) hj)
theorem lc_40 {nm : String} {l : Launch} {X : vm_Cx} {G : List vm_Sh} {I : vm_IH} {F : vm_FH} {i : Int32} (hD : vm_isD G) (hR : vm_isR G) (h : Rel I F) (hb : lq_b X i) (hk : lq_K nm l X i G) : lq_N nm l X 1661 i G I F := by
  have hOK : vm_OK (lq_M nm (vm_Le24)) := lq_ok vm_Lf24 rfl
  obtain ⟨-, b1, b2, b3, b4, b5⟩ := hb
  obtain ⟨r, I1, F1, I2, F2, ht, K1, K2, hr⟩ := call_count (l := l) (X := X) (x := (vm_sx X (i + 1).toNatClampNeg)) hD hR h
  obtain ⟨h', hj⟩ := hk I2 F2 hr
  refine ⟨h', ?_⟩
  replace hj : vm_J l X (lq_M nm (vm_Le24)) _ _ _ _ := hj
  refine vm_J.go (M := lq_M nm (vm_Le24)) hOK (k := 6) (hs := [(61, 0, [])]) (f' := (1667, (194, 13271), [.ref 100018, .ref 0, .ref 152, .int i], [.int (vm_sx X (i + 1).toNatClampNeg), .ref 0])) (h' := (G, I, F)) (hs' := []) rfl (vm_b2 rfl (vm_b2 rfl (vm_b2 rfl (vm_b2 rfl (vm_b2 rfl (vm_b2 (vm_b2 rfl b1) rfl)))))) ?_
  refine vm_J.call (M := lq_M nm (vm_Le24)) (Z := vm_M139) hOK (pc := 1667) (en := (1667, .invokevirtual 181, 3, [139, 1067, 0], .null)) rfl (n := 1) (k := 0) (mi := 139) trivial rfl rfl vm_z139 (cs := (194, 13271)) (av := [.ref 0, .int (vm_sx X (i + 1).toNatClampNeg)]) (rest := []) K1 ⟨_, _, rfl, rfl, _, 10, _, hD.1, rfl, rfl, rfl⟩ (by decide) ⟨Nat.le_of_ble_eq_true rfl, Nat.le_of_ble_eq_true rfl⟩ ⟨Nat.le_of_ble_eq_true rfl, Nat.le_of_ble_eq_true rfl⟩ ?_
  replace hj := hj
  refine vm_J.go (M := lq_M nm (vm_Le24)) hOK (k := 6) (hs := [(61, 0, [])]) (f' := (1676, (194, 13271), [.ref 100018, .ref 0, .ref 152, .int i], [.int (vm_sx X (i + 1).toNatClampNeg), .ref 152, r])) (h' := (G, I1, F1)) (hs' := []) rfl (vm_b2 rfl (vm_b2 rfl (vm_b2 rfl (vm_b2 rfl (vm_b2 rfl (vm_b2 (vm_b2 rfl b1) rfl)))))) ?_
  refine vm_J.call (M := lq_M nm (vm_Le24)) (Z := vm_M289) hOK (pc := 1676) (en := (1676, .invokevirtual 184, 3, [289, 1802, 0], .null)) rfl (n := 1) (k := 0) (mi := 289) trivial rfl rfl vm_z289 (cs := (194, 13271)) (av := [.ref 152, .int (vm_sx X (i + 1).toNatClampNeg)]) (rest := [r]) K2 ⟨_, _, rfl, rfl, _, 11, _, hR.1, rfl, rfl, rfl⟩ (lq_cat ht) ⟨Nat.le_of_ble_eq_true rfl, Nat.le_of_ble_eq_true rfl⟩ ⟨Nat.le_of_ble_eq_true rfl, Nat.le_of_ble_eq_true rfl⟩ ?_
  replace hj := hj
  rcases ht with ⟨hl, v, rfl⟩ | ⟨hl, v, rfl⟩
  · exact absurd hl (by decide)
  · refine vm_J.go (M := lq_M nm (vm_Le24)) hOK (k := 1) (hs := []) (f' := (bif vm_ic .eq v v then 1930 else 1682, (194, 13271), [.ref 100018, .ref 0, .ref 152, .int i], [])) (h' := (G, I2, F2)) (hs' := []) rfl rfl (vm_J.bT (decide_eq_true rfl) hj)
theorem lc_41 {nm : String} {l : Launch} {X : vm_Cx} {G : List vm_Sh} {I : vm_IH} {F : vm_FH} {i : Int32} (hD : vm_isD G) (hR : vm_isR G) (h : Rel I F) (hb : lq_b X i) (hk : lq_K nm l X i G) : lq_N nm l X 1684 i G I F := by
  have hOK : vm_OK (lq_M nm (vm_Le24 ++ vm_Le25)) := lq_ok (vm_allA vm_Lf24 vm_Lf25) rfl
  obtain ⟨-, b1, b2, b3, b4, b5⟩ := hb
  obtain ⟨r, I1, F1, I2, F2, ht, K1, K2, hr⟩ := call_tape (l := l) (X := X) (q := (vm_sx X (i + 1).toNatClampNeg)) (a := (vm_sx X (i + 2).toNatClampNeg)) (b := (vm_sx X (i + 3).toNatClampNeg)) hD hR h
  obtain ⟨h', hj⟩ := hk I2 F2 hr
  refine ⟨h', ?_⟩
  replace hj : vm_J l X (lq_M nm (vm_Le24 ++ vm_Le25)) _ _ _ _ := hj
  refine vm_J.go (M := lq_M nm (vm_Le24 ++ vm_Le25)) hOK (k := 16) (hs := [(61, 0, []), (61, 0, []), (61, 0, [])]) (f' := (1700, (194, 13271), [.ref 100018, .ref 0, .ref 152, .int i], [.int (vm_sx X (i + 3).toNatClampNeg), .int (vm_sx X (i + 2).toNatClampNeg), .int (vm_sx X (i + 1).toNatClampNeg), .ref 0])) (h' := (G, I, F)) (hs' := []) rfl (vm_b2 rfl (vm_b2 rfl (vm_b2 rfl (vm_b2 rfl (vm_b2 rfl (vm_b2 (vm_b2 rfl b1) (vm_b2 rfl (vm_b2 rfl (vm_b2 rfl (vm_b2 rfl (vm_b2 (vm_b2 rfl b2) (vm_b2 rfl (vm_b2 rfl (vm_b2 rfl (vm_b2 rfl (vm_b2 (vm_b2 rfl b3) rfl)))))))))))))))) ?_
  refine vm_J.call (M := lq_M nm (vm_Le24 ++ vm_Le25)) (Z := vm_M140) hOK (pc := 1700) (en := (1700, .invokevirtual 185, 3, [140, 1075, 0], .null)) rfl (n := 3) (k := 0) (mi := 140) trivial rfl rfl vm_z140 (cs := (194, 13271)) (av := [.ref 0, .int (vm_sx X (i + 1).toNatClampNeg), .int (vm_sx X (i + 2).toNatClampNeg), .int (vm_sx X (i + 3).toNatClampNeg)]) (rest := []) K1 ⟨_, _, rfl, rfl, _, 10, _, hD.1, rfl, rfl, rfl⟩ (by decide) ⟨Nat.le_of_ble_eq_true rfl, Nat.le_of_ble_eq_true rfl⟩ ⟨Nat.le_of_ble_eq_true rfl, Nat.le_of_ble_eq_true rfl⟩ ?_
  replace hj := hj
  refine vm_J.go (M := lq_M nm (vm_Le24 ++ vm_Le25)) hOK (k := 16) (hs := [(61, 0, []), (61, 0, []), (61, 0, [])]) (f' := (1719, (194, 13271), [.ref 100018, .ref 0, .ref 152, .int i], [.int (vm_sx X (i + 3).toNatClampNeg), .int (vm_sx X (i + 2).toNatClampNeg), .int (vm_sx X (i + 1).toNatClampNeg), .ref 152, r])) (h' := (G, I1, F1)) (hs' := []) rfl (vm_b2 rfl (vm_b2 rfl (vm_b2 rfl (vm_b2 rfl (vm_b2 rfl (vm_b2 (vm_b2 rfl b1) (vm_b2 rfl (vm_b2 rfl (vm_b2 rfl (vm_b2 rfl (vm_b2 (vm_b2 rfl b2) (vm_b2 rfl (vm_b2 rfl (vm_b2 rfl (vm_b2 rfl (vm_b2 (vm_b2 rfl b3) rfl)))))))))))))))) ?_
  refine vm_J.call (M := lq_M nm (vm_Le24 ++ vm_Le25)) (Z := vm_M290) hOK (pc := 1719) (en := (1719, .invokevirtual 188, 3, [290, 1806, 0], .null)) rfl (n := 3) (k := 0) (mi := 290) trivial rfl rfl vm_z290 (cs := (194, 13271)) (av := [.ref 152, .int (vm_sx X (i + 1).toNatClampNeg), .int (vm_sx X (i + 2).toNatClampNeg), .int (vm_sx X (i + 3).toNatClampNeg)]) (rest := [r]) K2 ⟨_, _, rfl, rfl, _, 11, _, hR.1, rfl, rfl, rfl⟩ (lq_cat ht) ⟨Nat.le_of_ble_eq_true rfl, Nat.le_of_ble_eq_true rfl⟩ ⟨Nat.le_of_ble_eq_true rfl, Nat.le_of_ble_eq_true rfl⟩ ?_
  replace hj := hj
  rcases ht with ⟨hl, v, rfl⟩ | ⟨hl, v, rfl⟩
  · exact absurd hl (by decide)
  · refine vm_J.go (M := lq_M nm (vm_Le24 ++ vm_Le25)) hOK (k := 1) (hs := []) (f' := (bif vm_ic .eq v v then 1930 else 1725, (194, 13271), [.ref 100018, .ref 0, .ref 152, .int i], [])) (h' := (G, I2, F2)) (hs' := []) rfl rfl (vm_J.bT (decide_eq_true rfl) hj)
theorem lc_42 {nm : String} {l : Launch} {X : vm_Cx} {G : List vm_Sh} {I : vm_IH} {F : vm_FH} {i : Int32} (hD : vm_isD G) (hR : vm_isR G) (h : Rel I F) (hb : lq_b X i) (hk : lq_K nm l X i G) : lq_N nm l X 1727 i G I F := by
  have hOK : vm_OK (lq_M nm (vm_Le25 ++ vm_Le26)) := lq_ok (vm_allA vm_Lf25 vm_Lf26) rfl
  obtain ⟨-, b1, b2, b3, b4, b5⟩ := hb
  obtain ⟨r, I1, F1, I2, F2, ht, K1, K2, hr⟩ := call_item (l := l) (X := X) (q := (vm_sx X (i + 1).toNatClampNeg)) (e := (vm_sx X (i + 2).toNatClampNeg)) (v := ((((vm_sx X (i + 3).toNatClampNeg)).toInt64 <<< ((32 : Int32).toInt64 &&& 63)) ||| (((vm_sx X (i + 4).toNatClampNeg)).toInt64 &&& 4294967295))) hD hR h
  obtain ⟨h', hj⟩ := hk I2 F2 hr
  refine ⟨h', ?_⟩
  replace hj : vm_J l X (lq_M nm (vm_Le25 ++ vm_Le26)) _ _ _ _ := hj
  refine vm_J.go (M := lq_M nm (vm_Le25 ++ vm_Le26)) hOK (k := 28) (hs := [(61, 0, []), (61, 0, []), (61, 0, []), (61, 0, [])]) (f' := (1758, (194, 13271), [.ref 100018, .ref 0, .ref 152, .int i], [.long ((((vm_sx X (i + 3).toNatClampNeg)).toInt64 <<< ((32 : Int32).toInt64 &&& 63)) ||| (((vm_sx X (i + 4).toNatClampNeg)).toInt64 &&& 4294967295)), .int (vm_sx X (i + 2).toNatClampNeg), .int (vm_sx X (i + 1).toNatClampNeg), .ref 0])) (h' := (G, I, F)) (hs' := []) rfl (vm_b2 rfl (vm_b2 rfl (vm_b2 rfl (vm_b2 rfl (vm_b2 rfl (vm_b2 (vm_b2 rfl b1) (vm_b2 rfl (vm_b2 rfl (vm_b2 rfl (vm_b2 rfl (vm_b2 (vm_b2 rfl b2) (vm_b2 rfl (vm_b2 rfl (vm_b2 rfl (vm_b2 rfl (vm_b2 (vm_b2 rfl b3) (vm_b2 rfl (vm_b2 rfl (vm_b2 rfl (vm_b2 rfl (vm_b2 rfl (vm_b2 rfl (vm_b2 rfl (vm_b2 (vm_b2 rfl b4) (vm_b2 rfl (vm_b2 rfl (vm_b2 rfl (vm_b2 rfl rfl)))))))))))))))))))))))))))) ?_
  refine vm_J.call (M := lq_M nm (vm_Le25 ++ vm_Le26)) (Z := vm_M141) hOK (pc := 1758) (en := (1758, .invokevirtual 191, 3, [141, 1084, 0], .null)) rfl (n := 3) (k := 0) (mi := 141) trivial rfl rfl vm_z141 (cs := (194, 13271)) (av := [.ref 0, .int (vm_sx X (i + 1).toNatClampNeg), .int (vm_sx X (i + 2).toNatClampNeg), .long ((((vm_sx X (i + 3).toNatClampNeg)).toInt64 <<< ((32 : Int32).toInt64 &&& 63)) ||| (((vm_sx X (i + 4).toNatClampNeg)).toInt64 &&& 4294967295))]) (rest := []) K1 ⟨_, _, rfl, rfl, _, 10, _, hD.1, rfl, rfl, rfl⟩ (by decide) ⟨Nat.le_of_ble_eq_true rfl, Nat.le_of_ble_eq_true rfl⟩ ⟨Nat.le_of_ble_eq_true rfl, Nat.le_of_ble_eq_true rfl⟩ ?_
  replace hj := hj
  refine vm_J.go (M := lq_M nm (vm_Le25 ++ vm_Le26)) hOK (k := 28) (hs := [(61, 0, []), (61, 0, []), (61, 0, []), (61, 0, [])]) (f' := (1792, (194, 13271), [.ref 100018, .ref 0, .ref 152, .int i], [.long ((((vm_sx X (i + 3).toNatClampNeg)).toInt64 <<< ((32 : Int32).toInt64 &&& 63)) ||| (((vm_sx X (i + 4).toNatClampNeg)).toInt64 &&& 4294967295)), .int (vm_sx X (i + 2).toNatClampNeg), .int (vm_sx X (i + 1).toNatClampNeg), .ref 152, r])) (h' := (G, I1, F1)) (hs' := []) rfl (vm_b2 rfl (vm_b2 rfl (vm_b2 rfl (vm_b2 rfl (vm_b2 rfl (vm_b2 (vm_b2 rfl b1) (vm_b2 rfl (vm_b2 rfl (vm_b2 rfl (vm_b2 rfl (vm_b2 (vm_b2 rfl b2) (vm_b2 rfl (vm_b2 rfl (vm_b2 rfl (vm_b2 rfl (vm_b2 (vm_b2 rfl b3) (vm_b2 rfl (vm_b2 rfl (vm_b2 rfl (vm_b2 rfl (vm_b2 rfl (vm_b2 rfl (vm_b2 rfl (vm_b2 (vm_b2 rfl b4) (vm_b2 rfl (vm_b2 rfl (vm_b2 rfl (vm_b2 rfl rfl)))))))))))))))))))))))))))) ?_
  refine vm_J.call (M := lq_M nm (vm_Le25 ++ vm_Le26)) (Z := vm_M292) hOK (pc := 1792) (en := (1792, .invokevirtual 195, 3, [292, 1810, 0], .null)) rfl (n := 3) (k := 0) (mi := 292) trivial rfl rfl vm_z292 (cs := (194, 13271)) (av := [.ref 152, .int (vm_sx X (i + 1).toNatClampNeg), .int (vm_sx X (i + 2).toNatClampNeg), .long ((((vm_sx X (i + 3).toNatClampNeg)).toInt64 <<< ((32 : Int32).toInt64 &&& 63)) ||| (((vm_sx X (i + 4).toNatClampNeg)).toInt64 &&& 4294967295))]) (rest := [r]) K2 ⟨_, _, rfl, rfl, _, 11, _, hR.1, rfl, rfl, rfl⟩ (lq_cat ht) ⟨Nat.le_of_ble_eq_true rfl, Nat.le_of_ble_eq_true rfl⟩ ⟨Nat.le_of_ble_eq_true rfl, Nat.le_of_ble_eq_true rfl⟩ ?_
  replace hj := hj
  rcases ht with ⟨hl, v, rfl⟩ | ⟨hl, v, rfl⟩
  · exact absurd hl (by decide)
  · refine vm_J.go (M := lq_M nm (vm_Le25 ++ vm_Le26)) hOK (k := 1) (hs := []) (f' := (bif vm_ic .eq v v then 1930 else 1798, (194, 13271), [.ref 100018, .ref 0, .ref 152, .int i], [])) (h' := (G, I2, F2)) (hs' := []) rfl rfl (vm_J.bT (decide_eq_true rfl) hj)
theorem lc_43 {nm : String} {l : Launch} {X : vm_Cx} {G : List vm_Sh} {I : vm_IH} {F : vm_FH} {i : Int32} (hD : vm_isD G) (hR : vm_isR G) (h : Rel I F) (hb : lq_b X i) (hk : lq_K nm l X i G) : lq_N nm l X 1800 i G I F := by
  have hOK : vm_OK (lq_M nm (vm_Le26)) := lq_ok vm_Lf26 rfl
  obtain ⟨-, b1, b2, b3, b4, b5⟩ := hb
  obtain ⟨r, I1, F1, I2, F2, ht, K1, K2, hr⟩ := call_peek (l := l) (X := X) (q := (vm_sx X (i + 1).toNatClampNeg)) (e := (vm_sx X (i + 2).toNatClampNeg)) hD hR h
  obtain ⟨h', hj⟩ := hk I2 F2 hr
  refine ⟨h', ?_⟩
  replace hj : vm_J l X (lq_M nm (vm_Le26)) _ _ _ _ := hj
  refine vm_J.go (M := lq_M nm (vm_Le26)) hOK (k := 11) (hs := [(61, 0, []), (61, 0, [])]) (f' := (1811, (194, 13271), [.ref 100018, .ref 0, .ref 152, .int i], [.int (vm_sx X (i + 2).toNatClampNeg), .int (vm_sx X (i + 1).toNatClampNeg), .ref 0])) (h' := (G, I, F)) (hs' := []) rfl (vm_b2 rfl (vm_b2 rfl (vm_b2 rfl (vm_b2 rfl (vm_b2 rfl (vm_b2 (vm_b2 rfl b1) (vm_b2 rfl (vm_b2 rfl (vm_b2 rfl (vm_b2 rfl (vm_b2 (vm_b2 rfl b2) rfl))))))))))) ?_
  refine vm_J.call (M := lq_M nm (vm_Le26)) (Z := vm_M142) hOK (pc := 1811) (en := (1811, .invokevirtual 196, 3, [142, 1091, 0], .null)) rfl (n := 2) (k := 0) (mi := 142) trivial rfl rfl vm_z142 (cs := (194, 13271)) (av := [.ref 0, .int (vm_sx X (i + 1).toNatClampNeg), .int (vm_sx X (i + 2).toNatClampNeg)]) (rest := []) K1 ⟨_, _, rfl, rfl, _, 10, _, hD.1, rfl, rfl, rfl⟩ (by decide) ⟨Nat.le_of_ble_eq_true rfl, Nat.le_of_ble_eq_true rfl⟩ ⟨Nat.le_of_ble_eq_true rfl, Nat.le_of_ble_eq_true rfl⟩ ?_
  replace hj := hj
  refine vm_J.go (M := lq_M nm (vm_Le26)) hOK (k := 11) (hs := [(61, 0, []), (61, 0, [])]) (f' := (1825, (194, 13271), [.ref 100018, .ref 0, .ref 152, .int i], [.int (vm_sx X (i + 2).toNatClampNeg), .int (vm_sx X (i + 1).toNatClampNeg), .ref 152, r])) (h' := (G, I1, F1)) (hs' := []) rfl (vm_b2 rfl (vm_b2 rfl (vm_b2 rfl (vm_b2 rfl (vm_b2 rfl (vm_b2 (vm_b2 rfl b1) (vm_b2 rfl (vm_b2 rfl (vm_b2 rfl (vm_b2 rfl (vm_b2 (vm_b2 rfl b2) rfl))))))))))) ?_
  refine vm_J.call (M := lq_M nm (vm_Le26)) (Z := vm_M293) hOK (pc := 1825) (en := (1825, .invokevirtual 200, 3, [293, 1817, 0], .null)) rfl (n := 2) (k := 0) (mi := 293) trivial rfl rfl vm_z293 (cs := (194, 13271)) (av := [.ref 152, .int (vm_sx X (i + 1).toNatClampNeg), .int (vm_sx X (i + 2).toNatClampNeg)]) (rest := [r]) K2 ⟨_, _, rfl, rfl, _, 11, _, hR.1, rfl, rfl, rfl⟩ (lq_cat ht) ⟨Nat.le_of_ble_eq_true rfl, Nat.le_of_ble_eq_true rfl⟩ ⟨Nat.le_of_ble_eq_true rfl, Nat.le_of_ble_eq_true rfl⟩ ?_
  replace hj := hj
  rcases ht with ⟨hl, v, rfl⟩ | ⟨hl, v, rfl⟩
  · refine vm_J.go (M := lq_M nm (vm_Le26)) hOK (k := 2) (hs := []) (f' := (bif vm_ic .eq (lg_cmp v v) 0 then 1930 else 1832, (194, 13271), [.ref 100018, .ref 0, .ref 152, .int i], [])) (h' := (G, I2, F2)) (hs' := []) rfl rfl (vm_J.bT (decide_eq_true (lg_cmp_e v)) hj)
  · exact absurd hl (by decide)
theorem lc_44 {nm : String} {l : Launch} {X : vm_Cx} {G : List vm_Sh} {I : vm_IH} {F : vm_FH} {i : Int32} (hD : vm_isD G) (hR : vm_isR G) (h : Rel I F) (hb : lq_b X i) (hk : lq_K nm l X i G) : lq_N nm l X 1834 i G I F := by
  have hOK : vm_OK (lq_M nm (vm_Le26 ++ vm_Le27)) := lq_ok (vm_allA vm_Lf26 vm_Lf27) rfl
  obtain ⟨-, b1, b2, b3, b4, b5⟩ := hb
  obtain ⟨r, I1, F1, I2, F2, ht, K1, K2, hr⟩ := call_twin (l := l) (X := X) (q := (vm_sx X (i + 1).toNatClampNeg)) (e := (vm_sx X (i + 2).toNatClampNeg)) hD hR h
  obtain ⟨h', hj⟩ := hk I2 F2 hr
  refine ⟨h', ?_⟩
  replace hj : vm_J l X (lq_M nm (vm_Le26 ++ vm_Le27)) _ _ _ _ := hj
  refine vm_J.go (M := lq_M nm (vm_Le26 ++ vm_Le27)) hOK (k := 11) (hs := [(61, 0, []), (61, 0, [])]) (f' := (1845, (194, 13271), [.ref 100018, .ref 0, .ref 152, .int i], [.int (vm_sx X (i + 2).toNatClampNeg), .int (vm_sx X (i + 1).toNatClampNeg), .ref 0])) (h' := (G, I, F)) (hs' := []) rfl (vm_b2 rfl (vm_b2 rfl (vm_b2 rfl (vm_b2 rfl (vm_b2 rfl (vm_b2 (vm_b2 rfl b1) (vm_b2 rfl (vm_b2 rfl (vm_b2 rfl (vm_b2 rfl (vm_b2 (vm_b2 rfl b2) rfl))))))))))) ?_
  refine vm_J.call (M := lq_M nm (vm_Le26 ++ vm_Le27)) (Z := vm_M143) hOK (pc := 1845) (en := (1845, .invokevirtual 201, 3, [143, 1095, 0], .null)) rfl (n := 2) (k := 0) (mi := 143) trivial rfl rfl vm_z143 (cs := (194, 13271)) (av := [.ref 0, .int (vm_sx X (i + 1).toNatClampNeg), .int (vm_sx X (i + 2).toNatClampNeg)]) (rest := []) K1 ⟨_, _, rfl, rfl, _, 10, _, hD.1, rfl, rfl, rfl⟩ (by decide) ⟨Nat.le_of_ble_eq_true rfl, Nat.le_of_ble_eq_true rfl⟩ ⟨Nat.le_of_ble_eq_true rfl, Nat.le_of_ble_eq_true rfl⟩ ?_
  replace hj := hj
  refine vm_J.go (M := lq_M nm (vm_Le26 ++ vm_Le27)) hOK (k := 11) (hs := [(61, 0, []), (61, 0, [])]) (f' := (1859, (194, 13271), [.ref 100018, .ref 0, .ref 152, .int i], [.int (vm_sx X (i + 2).toNatClampNeg), .int (vm_sx X (i + 1).toNatClampNeg), .ref 152, r])) (h' := (G, I1, F1)) (hs' := []) rfl (vm_b2 rfl (vm_b2 rfl (vm_b2 rfl (vm_b2 rfl (vm_b2 rfl (vm_b2 (vm_b2 rfl b1) (vm_b2 rfl (vm_b2 rfl (vm_b2 rfl (vm_b2 rfl (vm_b2 (vm_b2 rfl b2) rfl))))))))))) ?_
  refine vm_J.call (M := lq_M nm (vm_Le26 ++ vm_Le27)) (Z := vm_M294) hOK (pc := 1859) (en := (1859, .invokevirtual 204, 3, [294, 1821, 0], .null)) rfl (n := 2) (k := 0) (mi := 294) trivial rfl rfl vm_z294 (cs := (194, 13271)) (av := [.ref 152, .int (vm_sx X (i + 1).toNatClampNeg), .int (vm_sx X (i + 2).toNatClampNeg)]) (rest := [r]) K2 ⟨_, _, rfl, rfl, _, 11, _, hR.1, rfl, rfl, rfl⟩ (lq_cat ht) ⟨Nat.le_of_ble_eq_true rfl, Nat.le_of_ble_eq_true rfl⟩ ⟨Nat.le_of_ble_eq_true rfl, Nat.le_of_ble_eq_true rfl⟩ ?_
  replace hj := hj
  rcases ht with ⟨hl, v, rfl⟩ | ⟨hl, v, rfl⟩
  · exact absurd hl (by decide)
  · refine vm_J.go (M := lq_M nm (vm_Le26 ++ vm_Le27)) hOK (k := 1) (hs := []) (f' := (bif vm_ic .eq v v then 1930 else 1865, (194, 13271), [.ref 100018, .ref 0, .ref 152, .int i], [])) (h' := (G, I2, F2)) (hs' := []) rfl rfl (vm_J.bT (decide_eq_true rfl) hj)
theorem lc_45 {nm : String} {l : Launch} {X : vm_Cx} {G : List vm_Sh} {I : vm_IH} {F : vm_FH} {i : Int32} (hD : vm_isD G) (hR : vm_isR G) (h : Rel I F) (hb : lq_b X i) (hk : lq_K nm l X i G) : lq_N nm l X 1867 i G I F := by
  have hOK : vm_OK (lq_M nm (vm_Le27 ++ vm_Le28)) := lq_ok (vm_allA vm_Lf27 vm_Lf28) rfl
  obtain ⟨-, b1, b2, b3, b4, b5⟩ := hb
  obtain ⟨r, I1, F1, I2, F2, ht, K1, K2, hr⟩ := call_shift (l := l) (X := X) (q := (vm_sx X (i + 1).toNatClampNeg)) (i := (vm_sx X (i + 2).toNatClampNeg)) (e := (vm_sx X (i + 3).toNatClampNeg)) (j := (vm_sx X (i + 4).toNatClampNeg)) (n := (vm_sx X (i + 5).toNatClampNeg)) hD hR h
  obtain ⟨h', hj⟩ := hk I2 F2 hr
  refine ⟨h', ?_⟩
  replace hj : vm_J l X (lq_M nm (vm_Le27 ++ vm_Le28)) _ _ _ _ := hj
  refine vm_J.go (M := lq_M nm (vm_Le27 ++ vm_Le28)) hOK (k := 26) (hs := [(61, 0, []), (61, 0, []), (61, 0, []), (61, 0, []), (61, 0, [])]) (f' := (1893, (194, 13271), [.ref 100018, .ref 0, .ref 152, .int i], [.int (vm_sx X (i + 5).toNatClampNeg), .int (vm_sx X (i + 4).toNatClampNeg), .int (vm_sx X (i + 3).toNatClampNeg), .int (vm_sx X (i + 2).toNatClampNeg), .int (vm_sx X (i + 1).toNatClampNeg), .ref 0])) (h' := (G, I, F)) (hs' := []) rfl (vm_b2 rfl (vm_b2 rfl (vm_b2 rfl (vm_b2 rfl (vm_b2 rfl (vm_b2 (vm_b2 rfl b1) (vm_b2 rfl (vm_b2 rfl (vm_b2 rfl (vm_b2 rfl (vm_b2 (vm_b2 rfl b2) (vm_b2 rfl (vm_b2 rfl (vm_b2 rfl (vm_b2 rfl (vm_b2 (vm_b2 rfl b3) (vm_b2 rfl (vm_b2 rfl (vm_b2 rfl (vm_b2 rfl (vm_b2 (vm_b2 rfl b4) (vm_b2 rfl (vm_b2 rfl (vm_b2 rfl (vm_b2 rfl (vm_b2 (vm_b2 rfl b5) rfl)))))))))))))))))))))))))) ?_
  refine vm_J.call (M := lq_M nm (vm_Le27 ++ vm_Le28)) (Z := vm_M144) hOK (pc := 1893) (en := (1893, .invokevirtual 205, 3, [144, 1104, 0], .null)) rfl (n := 5) (k := 0) (mi := 144) trivial rfl rfl vm_z144 (cs := (194, 13271)) (av := [.ref 0, .int (vm_sx X (i + 1).toNatClampNeg), .int (vm_sx X (i + 2).toNatClampNeg), .int (vm_sx X (i + 3).toNatClampNeg), .int (vm_sx X (i + 4).toNatClampNeg), .int (vm_sx X (i + 5).toNatClampNeg)]) (rest := []) K1 ⟨_, _, rfl, rfl, _, 10, _, hD.1, rfl, rfl, rfl⟩ (by decide) ⟨Nat.le_of_ble_eq_true rfl, Nat.le_of_ble_eq_true rfl⟩ ⟨Nat.le_of_ble_eq_true rfl, Nat.le_of_ble_eq_true rfl⟩ ?_
  replace hj := hj
  refine vm_J.go (M := lq_M nm (vm_Le27 ++ vm_Le28)) hOK (k := 26) (hs := [(61, 0, []), (61, 0, []), (61, 0, []), (61, 0, []), (61, 0, [])]) (f' := (1922, (194, 13271), [.ref 100018, .ref 0, .ref 152, .int i], [.int (vm_sx X (i + 5).toNatClampNeg), .int (vm_sx X (i + 4).toNatClampNeg), .int (vm_sx X (i + 3).toNatClampNeg), .int (vm_sx X (i + 2).toNatClampNeg), .int (vm_sx X (i + 1).toNatClampNeg), .ref 152, r])) (h' := (G, I1, F1)) (hs' := []) rfl (vm_b2 rfl (vm_b2 rfl (vm_b2 rfl (vm_b2 rfl (vm_b2 rfl (vm_b2 (vm_b2 rfl b1) (vm_b2 rfl (vm_b2 rfl (vm_b2 rfl (vm_b2 rfl (vm_b2 (vm_b2 rfl b2) (vm_b2 rfl (vm_b2 rfl (vm_b2 rfl (vm_b2 rfl (vm_b2 (vm_b2 rfl b3) (vm_b2 rfl (vm_b2 rfl (vm_b2 rfl (vm_b2 rfl (vm_b2 (vm_b2 rfl b4) (vm_b2 rfl (vm_b2 rfl (vm_b2 rfl (vm_b2 rfl (vm_b2 (vm_b2 rfl b5) rfl)))))))))))))))))))))))))) ?_
  refine vm_J.call (M := lq_M nm (vm_Le27 ++ vm_Le28)) (Z := vm_M295) hOK (pc := 1922) (en := (1922, .invokevirtual 209, 3, [295, 1825, 0], .null)) rfl (n := 5) (k := 0) (mi := 295) trivial rfl rfl vm_z295 (cs := (194, 13271)) (av := [.ref 152, .int (vm_sx X (i + 1).toNatClampNeg), .int (vm_sx X (i + 2).toNatClampNeg), .int (vm_sx X (i + 3).toNatClampNeg), .int (vm_sx X (i + 4).toNatClampNeg), .int (vm_sx X (i + 5).toNatClampNeg)]) (rest := [r]) K2 ⟨_, _, rfl, rfl, _, 11, _, hR.1, rfl, rfl, rfl⟩ (lq_cat ht) ⟨Nat.le_of_ble_eq_true rfl, Nat.le_of_ble_eq_true rfl⟩ ⟨Nat.le_of_ble_eq_true rfl, Nat.le_of_ble_eq_true rfl⟩ ?_
  replace hj := hj
  rcases ht with ⟨hl, v, rfl⟩ | ⟨hl, v, rfl⟩
  · exact absurd hl (by decide)
  · refine vm_J.go (M := lq_M nm (vm_Le27 ++ vm_Le28)) hOK (k := 1) (hs := []) (f' := (bif vm_ic .eq v v then 1930 else 1928, (194, 13271), [.ref 100018, .ref 0, .ref 152, .int i], [])) (h' := (G, I2, F2)) (hs' := []) rfl rfl (vm_J.bT (decide_eq_true rfl) hj)
