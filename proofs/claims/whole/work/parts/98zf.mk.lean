/-- the reference makes a sheet -/
def rv_mk (H : vm_P2) (q p n s w h kn g k wy : Nat) (m : Int32) : vm_P2 := match wy with
  | 0 => (rv_pl (rv_mb H.1 q s w h 0) p n s m (w * h), rv_mf H.2 s)
  | 1 => rv_sd (rv_mb H.1 q s w h 1, vm_zc 0 (rv_mf H.2 s) 180 432) p n s w h kn m 0 h
  | 2 => rv_sd (rv_mb H.1 q s w h 2, vm_zc 0 (rv_mf H.2 s) 180 432) p n s w h kn m 1 h
  | 3 => (rv_ss (rv_mb H.1 q s w h 3) p n s w g k 0 m h, rv_mf H.2 s)
  | _ => (rv_ss (rv_mb H.1 q s w h 4) p n s w g k 1 m h, rv_mf H.2 s)
theorem r_mk {l : Launch} {X : vm_Cx} {G : List vm_Sh} {I : Nat → Nat → Int32} {F : Nat → Nat → UInt32} {q p n s w h kn g k wy : Nat} {m : Int32} (hR : vm_isR G) (hn : I 156 p = nI n) (hp : p < 4) (hn0 : 0 < n) (hn2 : n ≤ 16) (hw : I 153 q = nI w) (hh : I 154 q = nI h) (hq : q < 4) (hw2 : w ≤ 12) (hh2 : h ≤ 12) (hs : I 152 40 = nI s) (hs2 : s < 2) (hkn : I 152 7 = nI kn) (hkn2 : kn < 5) (hg : I 152 9 = nI g) (hg2 : g ≤ 63) (hk : I 152 8 = nI k) (hk2 : k < 3) (hlo : ∀ i_, i_ < 6 → vf_ok (F 179 i_)) (hz : I 152 6 = m) (hm : m = 0 ∨ m = 1 ∨ m = 2 ∨ m = 3) (hwy : wy < 5) : vm_K l X vm_M252 [.ref 152, .int (nI q), .int (nI p), .int (nI wy)] (G, I, F) none (G, (rv_mk (I, F) q p n s w h kn g k wy m).1, (rv_mk (I, F) q p n s w h kn g k wy m).2) := by
  match wy, hwy with
  | 0, _ => exact r_makes_0 hR hn hp hn0 hn2 hw hh hq hw2 hh2 hs hs2 hkn hkn2 hg hg2 hk hk2 hlo hz hm
  | 1, _ => exact r_makes_1 hR hn hp hn0 hn2 hw hh hq hw2 hh2 hs hs2 hkn hkn2 hg hg2 hk hk2 hlo hz hm
  | 2, _ => exact r_makes_2 hR hn hp hn0 hn2 hw hh hq hw2 hh2 hs hs2 hkn hkn2 hg hg2 hk hk2 hlo hz hm
  | 3, _ => exact r_makes_3 hR hn hp hn0 hn2 hw hh hq hw2 hh2 hs hs2 hkn hkn2 hg hg2 hk hk2 hlo hz hm
  | 4, _ => exact r_makes_4 hR hn hp hn0 hn2 hw hh hq hw2 hh2 hs hs2 hkn hkn2 hg hg2 hk hk2 hlo hz hm
theorem rv_mk_o (H : vm_P2) (q p n s w h kn g k wy : Nat) (m : Int32) (a : Nat) (h1 : a ≠ 173) (h2 : a ≠ 174) (h3 : a ≠ 175) (h4 : a ≠ 176) (h5 : a ≠ 177) (h6 : a ≠ 178) : (rv_mk H q p n s w h kn g k wy m).1 a = H.1 a := by
  unfold rv_mk
  split
  · exact (rv_pl_o _ _ _ _ _ _ h5 h6 _).trans (rv_mb_o _ _ _ _ _ _ _ h1 h2 h3 h4)
  · exact (rv_sd_o _ _ _ _ _ _ _ _ _ _ h5 h6 _).trans (rv_mb_o _ _ _ _ _ _ _ h1 h2 h3 h4)
  · exact (rv_sd_o _ _ _ _ _ _ _ _ _ _ h5 h6 _).trans (rv_mb_o _ _ _ _ _ _ _ h1 h2 h3 h4)
  · exact (rv_ss_o _ _ _ _ _ _ _ _ _ _ h5 h6 _).trans (rv_mb_o _ _ _ _ _ _ _ h1 h2 h3 h4)
  · exact (rv_ss_o _ _ _ _ _ _ _ _ _ _ h5 h6 _).trans (rv_mb_o _ _ _ _ _ _ _ h1 h2 h3 h4)
theorem rv_mk_w (H : vm_P2) (q p n s w h kn g k wy : Nat) (m : Int32) (hwy : wy < 5) (a : Nat) (h5 : a ≠ 177) (h6 : a ≠ 178) : (rv_mk H q p n s w h kn g k wy m).1 a = rv_mb H.1 q s w h (nI wy) a := by
  unfold rv_mk
  match wy, hwy with
  | 0, _ => exact rv_pl_o _ _ _ _ _ _ h5 h6 _
  | 1, _ => exact rv_sd_o _ _ _ _ _ _ _ _ _ _ h5 h6 _
  | 2, _ => exact rv_sd_o _ _ _ _ _ _ _ _ _ _ h5 h6 _
  | 3, _ => exact rv_ss_o _ _ _ _ _ _ _ _ _ _ h5 h6 _
  | 4, _ => exact rv_ss_o _ _ _ _ _ _ _ _ _ _ h5 h6 _
theorem rv_mk_f (H : vm_P2) (q p n s w h kn g k wy : Nat) (m : Int32) (hwy : wy < 5) : (rv_mk H q p n s w h kn g k wy m).1 173 s = nI w ∧ (rv_mk H q p n s w h kn g k wy m).1 174 s = nI h ∧ (rv_mk H q p n s w h kn g k wy m).1 175 s = nI wy := by
  rw [rv_mk_w _ _ _ _ _ _ _ _ _ _ _ _ hwy 173 (by decide) (by decide), rv_mk_w _ _ _ _ _ _ _ _ _ _ _ _ hwy 174 (by decide) (by decide), rv_mk_w _ _ _ _ _ _ _ _ _ _ _ _ hwy 175 (by decide) (by decide)]
  exact rv_mb_w _ _ _ _ _ _
theorem rv_mk_p (H : vm_P2) (q p n s w h kn g k wy : Nat) (m : Int32) (a : Nat) (h1 : a ≠ 179) (h2 : a ≠ 180) (h3 : a ≠ 181) : (rv_mk H q p n s w h kn g k wy m).2 a = H.2 a := by
  unfold rv_mk
  split
  · exact rv_mf_o _ _ _ h1
  · exact (rv_sd_p _ _ _ _ _ _ _ _ _ _ h1 h2 h3 _).trans ((vm_zc_f _ _ _ _ _ h2).trans (rv_mf_o _ _ _ h1))
  · exact (rv_sd_p _ _ _ _ _ _ _ _ _ _ h1 h2 h3 _).trans ((vm_zc_f _ _ _ _ _ h2).trans (rv_mf_o _ _ _ h1))
  · exact rv_mf_o _ _ _ h1
  · exact rv_mf_o _ _ _ h1
theorem rv_mk_ok {H : vm_P2} {q p n s w h kn g k wy : Nat} {m : Int32} (hlo : ∀ i, i < 6 → vf_ok (H.2 179 i)) (hw2 : w ≤ 12) (hh2 : h ≤ 12) (hs2 : s < 2) (hkn : kn < 5) : ∀ i, i < 6 → vf_ok ((rv_mk H q p n s w h kn g k wy m).2 179 i) := by
  unfold rv_mk
  split
  · exact rv_mf_ok hlo
  · exact (rv_sd_ok (vf_zc_ok (rv_mf_ok hlo)) hw2 hh2 hs2 hkn _ (Nat.le_refl _)).2
  · exact (rv_sd_ok (vf_zc_ok (rv_mf_ok hlo)) hw2 hh2 hs2 hkn _ (Nat.le_refl _)).2
  · exact rv_mf_ok hlo
  · exact rv_mf_ok hlo
/-- the class makes a sheet -/
def cv_mk (H : vm_P2) (B a pa n w h kn k g wy : Nat) (m : Int32) : vm_P2 := cv_sd (cv_mb H.1 B pa w h wy, cv_mf H.2 B) B a n w h kn k g wy m h
theorem m_mkF {l : Launch} {X : vm_Cx} {G : List vm_Sh} {I : Nat → Nat → Int32} {F : Nat → Nat → UInt32} {B qo pa o a b r n w h kn k g wy : Nat} {m : Int32} (hW : vm_isW G B) (hqo : G[qo]? = some (5, 3, [.int 0, .int 0, .ref pa])) (hpa : G[pa]? = some (0, 144, [])) (hw : I qo 0 = nI w) (hh : I qo 1 = nI h) (hw2 : w ≤ 12) (hh2 : h ≤ 12) (hBqo : qo < B + 4 ∨ B + 10 < qo) (hBpa : pa < B + 4 ∨ B + 10 < pa) (hBo : o < B + 4 ∨ B + 10 < o) (hBa : a < B + 4 ∨ B + 10 < a) (hBr : r < B + 4 ∨ B + 10 < r) (ho : G[o]? = some (4, 3, [.int 0, .ref a, .ref b])) (ha : G[a]? = some (0, 16, [])) (hn : I o 0 = nI n) (hn2 : n ≤ 16) (hn0 : 0 < n) (hr : G[r]? = some (0, 4, [])) (hz : I r 0 = m) (hkn : I r 1 = nI kn) (hkn2 : kn < 5) (hk : I r 2 = nI k) (hk2 : k < 3) (hg : I r 3 = nI g) (hg2 : g ≤ 63) (hwy : wy < 5) : vm_K l X vm_M63 [.ref (B + 4), .ref qo, .ref o, .int (nI wy), .ref r] (G, I, F) none (G, (cv_mk (I, F) B a pa n w h kn k g wy m).1, (cv_mk (I, F) B a pa n w h kn k g wy m).2) := by
  match wy, hwy with
  | 0, _ => exact m_mkF_0 hW hqo hpa hw hh hw2 hh2 hBqo hBpa hBo hBa hBr ho ha hn hn2 hn0 hr hz hkn hkn2 hk hk2 hg hg2
  | 1, _ => exact m_mkF_1 hW hqo hpa hw hh hw2 hh2 hBqo hBpa hBo hBa hBr ho ha hn hn2 hn0 hr hz hkn hkn2 hk hk2 hg hg2
  | 2, _ => exact m_mkF_2 hW hqo hpa hw hh hw2 hh2 hBqo hBpa hBo hBa hBr ho ha hn hn2 hn0 hr hz hkn hkn2 hk hk2 hg hg2
  | 3, _ => exact m_mkF_3 hW hqo hpa hw hh hw2 hh2 hBqo hBpa hBo hBa hBr ho ha hn hn2 hn0 hr hz hkn hkn2 hk hk2 hg hg2
  | 4, _ => exact m_mkF_4 hW hqo hpa hw hh hw2 hh2 hBqo hBpa hBo hBa hBr ho ha hn hn2 hn0 hr hz hkn hkn2 hk hk2 hg hg2
theorem cv_mk_o (H : vm_P2) (B a pa n w h kn k g wy : Nat) (m : Int32) (z : Nat) (h1 : z ≠ B + 4) (h2 : z ≠ B + 5) (h3 : z ≠ B + 6) (h4 : z ≠ B + 7) : (cv_mk H B a pa n w h kn k g wy m).1 z = H.1 z := (cv_sd_o _ _ _ _ _ _ _ _ _ _ _ _ h3 h4 _).trans (cv_mb_o _ _ _ _ _ _ _ h1 h2)
theorem cv_mk_p (H : vm_P2) (B a pa n w h kn k g wy : Nat) (m : Int32) (z : Nat) (h1 : z ≠ B + 8) (h2 : z ≠ B + 9) (h3 : z ≠ B + 10) : (cv_mk H B a pa n w h kn k g wy m).2 z = H.2 z := (cv_sd_p _ _ _ _ _ _ _ _ _ _ _ _ h1 h2 h3 _).trans (cv_mf_o _ _ _ h1 h2)
theorem cv_mk_f (H : vm_P2) (B a pa n w h kn k g wy : Nat) (m : Int32) : (cv_mk H B a pa n w h kn k g wy m).1 (B + 4) 0 = nI wy ∧ (cv_mk H B a pa n w h kn k g wy m).1 (B + 4) 1 = nI w ∧ (cv_mk H B a pa n w h kn k g wy m).1 (B + 4) 2 = nI h := by
  have e : (cv_mk H B a pa n w h kn k g wy m).1 (B + 4) = cv_mb H.1 B pa w h wy (B + 4) := cv_sd_o _ _ _ _ _ _ _ _ _ _ _ _ (by omega) (by omega) _
  rw [e]
  exact cv_mb_f _ _ _ _ _ _
set_option maxHeartbeats 4000000 in
set_option maxRecDepth 20000 in
/-- DitherDeskModel.make -/
theorem r_make_x {l : Launch} {X : vm_Cx} {G : List vm_Sh} {I : Nat → Nat → Int32} {F : Nat → Nat → UInt32} {q : Int32} {u : Int32} {k : Int32} (hR : vm_isR G) (hx : ¬ (0 ≤ q ∧ q ≤ 3)) : vm_K l X vm_M263 [.ref 152, .int q, .int u, .int k] (G, I, F) (some (.int (-1))) (G, I, F) := by
  refine vm_K.mk (by decide) (Nat.le_of_ble_eq_true rfl) ?_
  show vm_J _ _ _ (0, (0, 0), [.ref 152, .int q, .int u, .int k], []) _ _ _
  refine vm_J.go vm_q263 (k := 2) (hs := []) (f' := (2, (0, 0), [.ref 152, .int q, .int u, .int k], [.int q, .ref 152])) (h' := (G, I, F)) (hs' := []) rfl rfl ?_
  refine vm_J.call vm_q263 (Z := vm_M172) (n := 1) (k := 0) (mi := 172) (pc := 2) (en := (2, .invokevirtual 156, 3, [172, 1313, 0], .null)) rfl trivial rfl rfl vm_z172 (av := [.ref 152, .int q]) (rest := []) (r_isPic_x (q := q) hR hx) ⟨_, _, rfl, rfl, _, 11, _, hR.c152, rfl, rfl, rfl⟩ (Nat.le_of_ble_eq_true rfl) ⟨Nat.le_of_ble_eq_true rfl, Nat.le_of_ble_eq_true rfl⟩ ⟨Nat.le_of_ble_eq_true rfl, Nat.le_of_ble_eq_true rfl⟩ ?_
  show vm_J _ _ _ (5, (0, 0), [.ref 152, .int q, .int u, .int k], [.int 0]) (G, I, F) _ _
  refine vm_J.go vm_q263 (k := 1) (hs := []) (f' := (bif vm_ic .eq 0 0 then 15 else 8, (0, 0), [.ref 152, .int q, .int u, .int k], [])) (h' := (G, I, F)) (hs' := []) rfl rfl ?_
  refine vm_J.bT (by decide) ?_
  refine vm_J.go vm_q263 (k := 1) (hs := []) (f' := (16, (0, 0), [.ref 152, .int q, .int u, .int k], [.int (-1)])) (h' := (G, I, F)) (hs' := []) rfl rfl ?_
  exact vm_J.end vm_q263 (en := (16, .ireturn, 1, [], .null)) rfl rfl vm_rI (Nat.zero_le _) (Nat.zero_le _) rfl
set_option maxHeartbeats 4000000 in
set_option maxRecDepth 20000 in
/-- DitherDeskModel.make -/
theorem r_make_m {l : Launch} {X : vm_Cx} {G : List vm_Sh} {I : Nat → Nat → Int32} {F : Nat → Nat → UInt32} {q : Nat} {w : Nat} {u : Int32} {k : Int32} (hR : vm_isR G) (hw : I 153 q = nI w) (hq : q < 4) (hw2 : w ≤ 12) (hw0 : w = 0) : vm_K l X vm_M263 [.ref 152, .int (nI q), .int u, .int k] (G, I, F) (some (.int (-1))) (G, I, F) := by
  refine vm_K.mk (by decide) (Nat.le_of_ble_eq_true rfl) ?_
  show vm_J _ _ _ (0, (0, 0), [.ref 152, .int (nI q), .int u, .int k], []) _ _ _
  refine vm_J.go vm_q263 (k := 2) (hs := []) (f' := (2, (0, 0), [.ref 152, .int (nI q), .int u, .int k], [.int (nI q), .ref 152])) (h' := (G, I, F)) (hs' := []) rfl rfl ?_
  refine vm_J.call vm_q263 (Z := vm_M172) (n := 1) (k := 0) (mi := 172) (pc := 2) (en := (2, .invokevirtual 156, 3, [172, 1313, 0], .null)) rfl trivial rfl rfl vm_z172 (av := [.ref 152, .int (nI q)]) (rest := []) (r_isPic_n (p := q) (w := w) hR (by omega) hw (by omega) (by omega)) ⟨_, _, rfl, rfl, _, 11, _, hR.c152, rfl, rfl, rfl⟩ (Nat.le_of_ble_eq_true rfl) ⟨Nat.le_of_ble_eq_true rfl, Nat.le_of_ble_eq_true rfl⟩ ⟨Nat.le_of_ble_eq_true rfl, Nat.le_of_ble_eq_true rfl⟩ ?_
  show vm_J _ _ _ (5, (0, 0), [.ref 152, .int (nI q), .int u, .int k], [.int 0]) (G, I, F) _ _
  refine vm_J.go vm_q263 (k := 1) (hs := []) (f' := (bif vm_ic .eq 0 0 then 15 else 8, (0, 0), [.ref 152, .int (nI q), .int u, .int k], [])) (h' := (G, I, F)) (hs' := []) rfl rfl ?_
  refine vm_J.bT (by decide) ?_
  refine vm_J.go vm_q263 (k := 1) (hs := []) (f' := (16, (0, 0), [.ref 152, .int (nI q), .int u, .int k], [.int (-1)])) (h' := (G, I, F)) (hs' := []) rfl rfl ?_
  exact vm_J.end vm_q263 (en := (16, .ireturn, 1, [], .null)) rfl rfl vm_rI (Nat.zero_le _) (Nat.zero_le _) rfl
set_option maxHeartbeats 4000000 in
set_option maxRecDepth 20000 in
/-- DitherDeskModel.make -/
theorem r_make_p {l : Launch} {X : vm_Cx} {G : List vm_Sh} {I : Nat → Nat → Int32} {F : Nat → Nat → UInt32} {q : Nat} {w : Nat} {u : Int32} {k : Int32} (hR : vm_isR G) (hw : I 153 q = nI w) (hq : q < 4) (hw2 : w ≤ 12) (hw0 : 0 < w) (hu_ : ¬ (0 ≤ u ∧ u ≤ 3)) : vm_K l X vm_M263 [.ref 152, .int (nI q), .int u, .int k] (G, I, F) (some (.int (-1))) (G, I, F) := by
  refine vm_K.mk (by decide) (Nat.le_of_ble_eq_true rfl) ?_
  show vm_J _ _ _ (0, (0, 0), [.ref 152, .int (nI q), .int u, .int k], []) _ _ _
  refine vm_J.go vm_q263 (k := 2) (hs := []) (f' := (2, (0, 0), [.ref 152, .int (nI q), .int u, .int k], [.int (nI q), .ref 152])) (h' := (G, I, F)) (hs' := []) rfl rfl ?_
  refine vm_J.call vm_q263 (Z := vm_M172) (n := 1) (k := 0) (mi := 172) (pc := 2) (en := (2, .invokevirtual 156, 3, [172, 1313, 0], .null)) rfl trivial rfl rfl vm_z172 (av := [.ref 152, .int (nI q)]) (rest := []) (r_isPic_y (p := q) (w := w) hR (by omega) hw (by omega) (by omega)) ⟨_, _, rfl, rfl, _, 11, _, hR.c152, rfl, rfl, rfl⟩ (Nat.le_of_ble_eq_true rfl) ⟨Nat.le_of_ble_eq_true rfl, Nat.le_of_ble_eq_true rfl⟩ ⟨Nat.le_of_ble_eq_true rfl, Nat.le_of_ble_eq_true rfl⟩ ?_
  show vm_J _ _ _ (5, (0, 0), [.ref 152, .int (nI q), .int u, .int k], [.int 1]) (G, I, F) _ _
  refine vm_J.go vm_q263 (k := 1) (hs := []) (f' := (bif vm_ic .eq 1 0 then 15 else 8, (0, 0), [.ref 152, .int (nI q), .int u, .int k], [])) (h' := (G, I, F)) (hs' := []) rfl rfl ?_
  refine vm_J.bF (by decide) ?_
  refine vm_J.go vm_q263 (k := 1) (hs := []) (f' := (9, (0, 0), [.ref 152, .int (nI q), .int u, .int k], [.int u])) (h' := (G, I, F)) (hs' := []) rfl rfl ?_
  refine vm_J.call vm_q263 (Z := vm_M173) (n := 1) (k := 1) (mi := 173) (pc := 9) (en := (9, .invokestatic 145, 3, [173, 1453, 0], .null)) rfl trivial rfl rfl vm_z173 (av := [.int u]) (rest := []) (r_isPalette_n (c := u) hu_) rfl (Nat.le_of_ble_eq_true rfl) ⟨Nat.le_of_ble_eq_true rfl, Nat.le_of_ble_eq_true rfl⟩ ⟨Nat.le_of_ble_eq_true rfl, Nat.le_of_ble_eq_true rfl⟩ ?_
  show vm_J _ _ _ (12, (0, 0), [.ref 152, .int (nI q), .int u, .int k], [.int 0]) (G, I, F) _ _
  refine vm_J.go vm_q263 (k := 1) (hs := []) (f' := (bif vm_ic .ne 0 0 then 17 else 15, (0, 0), [.ref 152, .int (nI q), .int u, .int k], [])) (h' := (G, I, F)) (hs' := []) rfl rfl ?_
  refine vm_J.bF (by decide) ?_
  refine vm_J.go vm_q263 (k := 1) (hs := []) (f' := (16, (0, 0), [.ref 152, .int (nI q), .int u, .int k], [.int (-1)])) (h' := (G, I, F)) (hs' := []) rfl rfl ?_
  exact vm_J.end vm_q263 (en := (16, .ireturn, 1, [], .null)) rfl rfl vm_rI (Nat.zero_le _) (Nat.zero_le _) rfl
set_option maxHeartbeats 4000000 in
set_option maxRecDepth 20000 in
/-- DitherDeskModel.best -/
theorem r_best_x {l : Launch} {X : vm_Cx} {G : List vm_Sh} {I : Nat → Nat → Int32} {F : Nat → Nat → UInt32} {q : Int32} {u : Int32} {k : Int32} (hR : vm_isR G) (hx : ¬ (0 ≤ q ∧ q ≤ 3)) : vm_K l X vm_M268 [.ref 152, .int q, .int u, .int k] (G, I, F) (some (.int (-1))) (G, I, F) := by
  refine vm_K.mk (by decide) (Nat.le_of_ble_eq_true rfl) ?_
  show vm_J _ _ _ (0, (0, 0), [.ref 152, .int q, .int u, .int k, .retAddr 0, .retAddr 0, .retAddr 0, .retAddr 0], []) _ _ _
  refine vm_J.go vm_q268 (k := 2) (hs := []) (f' := (2, (0, 0), [.ref 152, .int q, .int u, .int k, .retAddr 0, .retAddr 0, .retAddr 0, .retAddr 0], [.int q, .ref 152])) (h' := (G, I, F)) (hs' := []) rfl rfl ?_
  refine vm_J.call vm_q268 (Z := vm_M172) (n := 1) (k := 0) (mi := 172) (pc := 2) (en := (2, .invokevirtual 156, 3, [172, 1313, 0], .null)) rfl trivial rfl rfl vm_z172 (av := [.ref 152, .int q]) (rest := []) (r_isPic_x (q := q) hR hx) ⟨_, _, rfl, rfl, _, 11, _, hR.c152, rfl, rfl, rfl⟩ (Nat.le_of_ble_eq_true rfl) ⟨Nat.le_of_ble_eq_true rfl, Nat.le_of_ble_eq_true rfl⟩ ⟨Nat.le_of_ble_eq_true rfl, Nat.le_of_ble_eq_true rfl⟩ ?_
  show vm_J _ _ _ (5, (0, 0), [.ref 152, .int q, .int u, .int k, .retAddr 0, .retAddr 0, .retAddr 0, .retAddr 0], [.int 0]) (G, I, F) _ _
  refine vm_J.go vm_q268 (k := 1) (hs := []) (f' := (bif vm_ic .eq 0 0 then 24 else 8, (0, 0), [.ref 152, .int q, .int u, .int k, .retAddr 0, .retAddr 0, .retAddr 0, .retAddr 0], [])) (h' := (G, I, F)) (hs' := []) rfl rfl ?_
  refine vm_J.bT (by decide) ?_
  refine vm_J.go vm_q268 (k := 1) (hs := []) (f' := (25, (0, 0), [.ref 152, .int q, .int u, .int k, .retAddr 0, .retAddr 0, .retAddr 0, .retAddr 0], [.int (-1)])) (h' := (G, I, F)) (hs' := []) rfl rfl ?_
  exact vm_J.end vm_q268 (en := (25, .ireturn, 1, [], .null)) rfl rfl vm_rI (Nat.zero_le _) (Nat.zero_le _) rfl
set_option maxHeartbeats 4000000 in
set_option maxRecDepth 20000 in
/-- DitherDeskModel.best -/
theorem r_best_m {l : Launch} {X : vm_Cx} {G : List vm_Sh} {I : Nat → Nat → Int32} {F : Nat → Nat → UInt32} {q : Nat} {w : Nat} {u : Int32} {k : Int32} (hR : vm_isR G) (hw : I 153 q = nI w) (hq : q < 4) (hw2 : w ≤ 12) (hw0 : w = 0) : vm_K l X vm_M268 [.ref 152, .int (nI q), .int u, .int k] (G, I, F) (some (.int (-1))) (G, I, F) := by
  refine vm_K.mk (by decide) (Nat.le_of_ble_eq_true rfl) ?_
  show vm_J _ _ _ (0, (0, 0), [.ref 152, .int (nI q), .int u, .int k, .retAddr 0, .retAddr 0, .retAddr 0, .retAddr 0], []) _ _ _
  refine vm_J.go vm_q268 (k := 2) (hs := []) (f' := (2, (0, 0), [.ref 152, .int (nI q), .int u, .int k, .retAddr 0, .retAddr 0, .retAddr 0, .retAddr 0], [.int (nI q), .ref 152])) (h' := (G, I, F)) (hs' := []) rfl rfl ?_
  refine vm_J.call vm_q268 (Z := vm_M172) (n := 1) (k := 0) (mi := 172) (pc := 2) (en := (2, .invokevirtual 156, 3, [172, 1313, 0], .null)) rfl trivial rfl rfl vm_z172 (av := [.ref 152, .int (nI q)]) (rest := []) (r_isPic_n (p := q) (w := w) hR (by omega) hw (by omega) (by omega)) ⟨_, _, rfl, rfl, _, 11, _, hR.c152, rfl, rfl, rfl⟩ (Nat.le_of_ble_eq_true rfl) ⟨Nat.le_of_ble_eq_true rfl, Nat.le_of_ble_eq_true rfl⟩ ⟨Nat.le_of_ble_eq_true rfl, Nat.le_of_ble_eq_true rfl⟩ ?_
  show vm_J _ _ _ (5, (0, 0), [.ref 152, .int (nI q), .int u, .int k, .retAddr 0, .retAddr 0, .retAddr 0, .retAddr 0], [.int 0]) (G, I, F) _ _
  refine vm_J.go vm_q268 (k := 1) (hs := []) (f' := (bif vm_ic .eq 0 0 then 24 else 8, (0, 0), [.ref 152, .int (nI q), .int u, .int k, .retAddr 0, .retAddr 0, .retAddr 0, .retAddr 0], [])) (h' := (G, I, F)) (hs' := []) rfl rfl ?_
  refine vm_J.bT (by decide) ?_
  refine vm_J.go vm_q268 (k := 1) (hs := []) (f' := (25, (0, 0), [.ref 152, .int (nI q), .int u, .int k, .retAddr 0, .retAddr 0, .retAddr 0, .retAddr 0], [.int (-1)])) (h' := (G, I, F)) (hs' := []) rfl rfl ?_
  exact vm_J.end vm_q268 (en := (25, .ireturn, 1, [], .null)) rfl rfl vm_rI (Nat.zero_le _) (Nat.zero_le _) rfl
set_option maxHeartbeats 4000000 in
set_option maxRecDepth 20000 in
/-- DitherDeskModel.best -/
theorem r_best_p {l : Launch} {X : vm_Cx} {G : List vm_Sh} {I : Nat → Nat → Int32} {F : Nat → Nat → UInt32} {q : Nat} {w : Nat} {u : Int32} {k : Int32} (hR : vm_isR G) (hw : I 153 q = nI w) (hq : q < 4) (hw2 : w ≤ 12) (hw0 : 0 < w) (hu_ : ¬ (0 ≤ u ∧ u ≤ 3)) : vm_K l X vm_M268 [.ref 152, .int (nI q), .int u, .int k] (G, I, F) (some (.int (-1))) (G, I, F) := by
  refine vm_K.mk (by decide) (Nat.le_of_ble_eq_true rfl) ?_
  show vm_J _ _ _ (0, (0, 0), [.ref 152, .int (nI q), .int u, .int k, .retAddr 0, .retAddr 0, .retAddr 0, .retAddr 0], []) _ _ _
  refine vm_J.go vm_q268 (k := 2) (hs := []) (f' := (2, (0, 0), [.ref 152, .int (nI q), .int u, .int k, .retAddr 0, .retAddr 0, .retAddr 0, .retAddr 0], [.int (nI q), .ref 152])) (h' := (G, I, F)) (hs' := []) rfl rfl ?_
  refine vm_J.call vm_q268 (Z := vm_M172) (n := 1) (k := 0) (mi := 172) (pc := 2) (en := (2, .invokevirtual 156, 3, [172, 1313, 0], .null)) rfl trivial rfl rfl vm_z172 (av := [.ref 152, .int (nI q)]) (rest := []) (r_isPic_y (p := q) (w := w) hR (by omega) hw (by omega) (by omega)) ⟨_, _, rfl, rfl, _, 11, _, hR.c152, rfl, rfl, rfl⟩ (Nat.le_of_ble_eq_true rfl) ⟨Nat.le_of_ble_eq_true rfl, Nat.le_of_ble_eq_true rfl⟩ ⟨Nat.le_of_ble_eq_true rfl, Nat.le_of_ble_eq_true rfl⟩ ?_
  show vm_J _ _ _ (5, (0, 0), [.ref 152, .int (nI q), .int u, .int k, .retAddr 0, .retAddr 0, .retAddr 0, .retAddr 0], [.int 1]) (G, I, F) _ _
  refine vm_J.go vm_q268 (k := 1) (hs := []) (f' := (bif vm_ic .eq 1 0 then 24 else 8, (0, 0), [.ref 152, .int (nI q), .int u, .int k, .retAddr 0, .retAddr 0, .retAddr 0, .retAddr 0], [])) (h' := (G, I, F)) (hs' := []) rfl rfl ?_
  refine vm_J.bF (by decide) ?_
  refine vm_J.go vm_q268 (k := 1) (hs := []) (f' := (9, (0, 0), [.ref 152, .int (nI q), .int u, .int k, .retAddr 0, .retAddr 0, .retAddr 0, .retAddr 0], [.int u])) (h' := (G, I, F)) (hs' := []) rfl rfl ?_
  refine vm_J.call vm_q268 (Z := vm_M173) (n := 1) (k := 1) (mi := 173) (pc := 9) (en := (9, .invokestatic 145, 3, [173, 1453, 0], .null)) rfl trivial rfl rfl vm_z173 (av := [.int u]) (rest := []) (r_isPalette_n (c := u) hu_) rfl (Nat.le_of_ble_eq_true rfl) ⟨Nat.le_of_ble_eq_true rfl, Nat.le_of_ble_eq_true rfl⟩ ⟨Nat.le_of_ble_eq_true rfl, Nat.le_of_ble_eq_true rfl⟩ ?_
  show vm_J _ _ _ (12, (0, 0), [.ref 152, .int (nI q), .int u, .int k, .retAddr 0, .retAddr 0, .retAddr 0, .retAddr 0], [.int 0]) (G, I, F) _ _
  refine vm_J.go vm_q268 (k := 1) (hs := []) (f' := (bif vm_ic .eq 0 0 then 24 else 15, (0, 0), [.ref 152, .int (nI q), .int u, .int k, .retAddr 0, .retAddr 0, .retAddr 0, .retAddr 0], [])) (h' := (G, I, F)) (hs' := []) rfl rfl ?_
  refine vm_J.bT (by decide) ?_
  refine vm_J.go vm_q268 (k := 1) (hs := []) (f' := (25, (0, 0), [.ref 152, .int (nI q), .int u, .int k, .retAddr 0, .retAddr 0, .retAddr 0, .retAddr 0], [.int (-1)])) (h' := (G, I, F)) (hs' := []) rfl rfl ?_
  exact vm_J.end vm_q268 (en := (25, .ireturn, 1, [], .null)) rfl rfl vm_rI (Nat.zero_le _) (Nat.zero_le _) rfl
set_option maxHeartbeats 4000000 in
set_option maxRecDepth 20000 in
/-- DitherDeskModel.fits -/
theorem r_fits_x {l : Launch} {X : vm_Cx} {G : List vm_Sh} {I : Nat → Nat → Int32} {F : Nat → Nat → UInt32} {q : Int32} {u : Int32} {k : Int32} (hR : vm_isR G) (hx : ¬ (0 ≤ q ∧ q ≤ 3)) : vm_K l X vm_M271 [.ref 152, .int q, .int u, .int k] (G, I, F) (some (.int (-1))) (G, I, F) := by
  refine vm_K.mk (by decide) (Nat.le_of_ble_eq_true rfl) ?_
  show vm_J _ _ _ (0, (0, 0), [.ref 152, .int q, .int u, .int k, .retAddr 0, .retAddr 0, .retAddr 0], []) _ _ _
  refine vm_J.go vm_q271 (k := 2) (hs := []) (f' := (2, (0, 0), [.ref 152, .int q, .int u, .int k, .retAddr 0, .retAddr 0, .retAddr 0], [.int q, .ref 152])) (h' := (G, I, F)) (hs' := []) rfl rfl ?_
  refine vm_J.call vm_q271 (Z := vm_M172) (n := 1) (k := 0) (mi := 172) (pc := 2) (en := (2, .invokevirtual 156, 3, [172, 1313, 0], .null)) rfl trivial rfl rfl vm_z172 (av := [.ref 152, .int q]) (rest := []) (r_isPic_x (q := q) hR hx) ⟨_, _, rfl, rfl, _, 11, _, hR.c152, rfl, rfl, rfl⟩ (Nat.le_of_ble_eq_true rfl) ⟨Nat.le_of_ble_eq_true rfl, Nat.le_of_ble_eq_true rfl⟩ ⟨Nat.le_of_ble_eq_true rfl, Nat.le_of_ble_eq_true rfl⟩ ?_
  show vm_J _ _ _ (5, (0, 0), [.ref 152, .int q, .int u, .int k, .retAddr 0, .retAddr 0, .retAddr 0], [.int 0]) (G, I, F) _ _
  refine vm_J.go vm_q271 (k := 1) (hs := []) (f' := (bif vm_ic .eq 0 0 then 24 else 8, (0, 0), [.ref 152, .int q, .int u, .int k, .retAddr 0, .retAddr 0, .retAddr 0], [])) (h' := (G, I, F)) (hs' := []) rfl rfl ?_
  refine vm_J.bT (by decide) ?_
  refine vm_J.go vm_q271 (k := 1) (hs := []) (f' := (25, (0, 0), [.ref 152, .int q, .int u, .int k, .retAddr 0, .retAddr 0, .retAddr 0], [.int (-1)])) (h' := (G, I, F)) (hs' := []) rfl rfl ?_
  exact vm_J.end vm_q271 (en := (25, .ireturn, 1, [], .null)) rfl rfl vm_rI (Nat.zero_le _) (Nat.zero_le _) rfl
set_option maxHeartbeats 4000000 in
set_option maxRecDepth 20000 in
/-- DitherDeskModel.fits -/
theorem r_fits_m {l : Launch} {X : vm_Cx} {G : List vm_Sh} {I : Nat → Nat → Int32} {F : Nat → Nat → UInt32} {q : Nat} {w : Nat} {u : Int32} {k : Int32} (hR : vm_isR G) (hw : I 153 q = nI w) (hq : q < 4) (hw2 : w ≤ 12) (hw0 : w = 0) : vm_K l X vm_M271 [.ref 152, .int (nI q), .int u, .int k] (G, I, F) (some (.int (-1))) (G, I, F) := by
  refine vm_K.mk (by decide) (Nat.le_of_ble_eq_true rfl) ?_
  show vm_J _ _ _ (0, (0, 0), [.ref 152, .int (nI q), .int u, .int k, .retAddr 0, .retAddr 0, .retAddr 0], []) _ _ _
  refine vm_J.go vm_q271 (k := 2) (hs := []) (f' := (2, (0, 0), [.ref 152, .int (nI q), .int u, .int k, .retAddr 0, .retAddr 0, .retAddr 0], [.int (nI q), .ref 152])) (h' := (G, I, F)) (hs' := []) rfl rfl ?_
  refine vm_J.call vm_q271 (Z := vm_M172) (n := 1) (k := 0) (mi := 172) (pc := 2) (en := (2, .invokevirtual 156, 3, [172, 1313, 0], .null)) rfl trivial rfl rfl vm_z172 (av := [.ref 152, .int (nI q)]) (rest := []) (r_isPic_n (p := q) (w := w) hR (by omega) hw (by omega) (by omega)) ⟨_, _, rfl, rfl, _, 11, _, hR.c152, rfl, rfl, rfl⟩ (Nat.le_of_ble_eq_true rfl) ⟨Nat.le_of_ble_eq_true rfl, Nat.le_of_ble_eq_true rfl⟩ ⟨Nat.le_of_ble_eq_true rfl, Nat.le_of_ble_eq_true rfl⟩ ?_
  show vm_J _ _ _ (5, (0, 0), [.ref 152, .int (nI q), .int u, .int k, .retAddr 0, .retAddr 0, .retAddr 0], [.int 0]) (G, I, F) _ _
  refine vm_J.go vm_q271 (k := 1) (hs := []) (f' := (bif vm_ic .eq 0 0 then 24 else 8, (0, 0), [.ref 152, .int (nI q), .int u, .int k, .retAddr 0, .retAddr 0, .retAddr 0], [])) (h' := (G, I, F)) (hs' := []) rfl rfl ?_
  refine vm_J.bT (by decide) ?_
  refine vm_J.go vm_q271 (k := 1) (hs := []) (f' := (25, (0, 0), [.ref 152, .int (nI q), .int u, .int k, .retAddr 0, .retAddr 0, .retAddr 0], [.int (-1)])) (h' := (G, I, F)) (hs' := []) rfl rfl ?_
  exact vm_J.end vm_q271 (en := (25, .ireturn, 1, [], .null)) rfl rfl vm_rI (Nat.zero_le _) (Nat.zero_le _) rfl
set_option maxHeartbeats 4000000 in
set_option maxRecDepth 20000 in
/-- DitherDeskModel.fits -/
theorem r_fits_p {l : Launch} {X : vm_Cx} {G : List vm_Sh} {I : Nat → Nat → Int32} {F : Nat → Nat → UInt32} {q : Nat} {w : Nat} {u : Int32} {k : Int32} (hR : vm_isR G) (hw : I 153 q = nI w) (hq : q < 4) (hw2 : w ≤ 12) (hw0 : 0 < w) (hu_ : ¬ (0 ≤ u ∧ u ≤ 3)) : vm_K l X vm_M271 [.ref 152, .int (nI q), .int u, .int k] (G, I, F) (some (.int (-1))) (G, I, F) := by
  refine vm_K.mk (by decide) (Nat.le_of_ble_eq_true rfl) ?_
  show vm_J _ _ _ (0, (0, 0), [.ref 152, .int (nI q), .int u, .int k, .retAddr 0, .retAddr 0, .retAddr 0], []) _ _ _
  refine vm_J.go vm_q271 (k := 2) (hs := []) (f' := (2, (0, 0), [.ref 152, .int (nI q), .int u, .int k, .retAddr 0, .retAddr 0, .retAddr 0], [.int (nI q), .ref 152])) (h' := (G, I, F)) (hs' := []) rfl rfl ?_
  refine vm_J.call vm_q271 (Z := vm_M172) (n := 1) (k := 0) (mi := 172) (pc := 2) (en := (2, .invokevirtual 156, 3, [172, 1313, 0], .null)) rfl trivial rfl rfl vm_z172 (av := [.ref 152, .int (nI q)]) (rest := []) (r_isPic_y (p := q) (w := w) hR (by omega) hw (by omega) (by omega)) ⟨_, _, rfl, rfl, _, 11, _, hR.c152, rfl, rfl, rfl⟩ (Nat.le_of_ble_eq_true rfl) ⟨Nat.le_of_ble_eq_true rfl, Nat.le_of_ble_eq_true rfl⟩ ⟨Nat.le_of_ble_eq_true rfl, Nat.le_of_ble_eq_true rfl⟩ ?_
  show vm_J _ _ _ (5, (0, 0), [.ref 152, .int (nI q), .int u, .int k, .retAddr 0, .retAddr 0, .retAddr 0], [.int 1]) (G, I, F) _ _
  refine vm_J.go vm_q271 (k := 1) (hs := []) (f' := (bif vm_ic .eq 1 0 then 24 else 8, (0, 0), [.ref 152, .int (nI q), .int u, .int k, .retAddr 0, .retAddr 0, .retAddr 0], [])) (h' := (G, I, F)) (hs' := []) rfl rfl ?_
  refine vm_J.bF (by decide) ?_
  refine vm_J.go vm_q271 (k := 1) (hs := []) (f' := (9, (0, 0), [.ref 152, .int (nI q), .int u, .int k, .retAddr 0, .retAddr 0, .retAddr 0], [.int u])) (h' := (G, I, F)) (hs' := []) rfl rfl ?_
  refine vm_J.call vm_q271 (Z := vm_M173) (n := 1) (k := 1) (mi := 173) (pc := 9) (en := (9, .invokestatic 145, 3, [173, 1453, 0], .null)) rfl trivial rfl rfl vm_z173 (av := [.int u]) (rest := []) (r_isPalette_n (c := u) hu_) rfl (Nat.le_of_ble_eq_true rfl) ⟨Nat.le_of_ble_eq_true rfl, Nat.le_of_ble_eq_true rfl⟩ ⟨Nat.le_of_ble_eq_true rfl, Nat.le_of_ble_eq_true rfl⟩ ?_
  show vm_J _ _ _ (12, (0, 0), [.ref 152, .int (nI q), .int u, .int k, .retAddr 0, .retAddr 0, .retAddr 0], [.int 0]) (G, I, F) _ _
  refine vm_J.go vm_q271 (k := 1) (hs := []) (f' := (bif vm_ic .eq 0 0 then 24 else 15, (0, 0), [.ref 152, .int (nI q), .int u, .int k, .retAddr 0, .retAddr 0, .retAddr 0], [])) (h' := (G, I, F)) (hs' := []) rfl rfl ?_
  refine vm_J.bT (by decide) ?_
  refine vm_J.go vm_q271 (k := 1) (hs := []) (f' := (25, (0, 0), [.ref 152, .int (nI q), .int u, .int k, .retAddr 0, .retAddr 0, .retAddr 0], [.int (-1)])) (h' := (G, I, F)) (hs' := []) rfl rfl ?_
  exact vm_J.end vm_q271 (en := (25, .ireturn, 1, [], .null)) rfl rfl vm_rI (Nat.zero_le _) (Nat.zero_le _) rfl
set_option maxHeartbeats 4000000 in
set_option maxRecDepth 20000 in
/-- DitherDeskModel.spared -/
theorem r_spared_x {l : Launch} {X : vm_Cx} {G : List vm_Sh} {I : Nat → Nat → Int32} {F : Nat → Nat → UInt32} {q : Int32} {u : Int32} {k : Int32} (hR : vm_isR G) (hx : ¬ (0 ≤ q ∧ q ≤ 3)) : vm_K l X vm_M281 [.ref 152, .int q, .int u, .int k] (G, I, F) (some (.int (-1))) (G, I, F) := by
  refine vm_K.mk (by decide) (Nat.le_of_ble_eq_true rfl) ?_
  show vm_J _ _ _ (0, (0, 0), [.ref 152, .int q, .int u, .int k, .retAddr 0, .retAddr 0, .retAddr 0, .retAddr 0], []) _ _ _
  refine vm_J.go vm_q281 (k := 2) (hs := []) (f' := (2, (0, 0), [.ref 152, .int q, .int u, .int k, .retAddr 0, .retAddr 0, .retAddr 0, .retAddr 0], [.int q, .ref 152])) (h' := (G, I, F)) (hs' := []) rfl rfl ?_
  refine vm_J.call vm_q281 (Z := vm_M172) (n := 1) (k := 0) (mi := 172) (pc := 2) (en := (2, .invokevirtual 156, 3, [172, 1313, 0], .null)) rfl trivial rfl rfl vm_z172 (av := [.ref 152, .int q]) (rest := []) (r_isPic_x (q := q) hR hx) ⟨_, _, rfl, rfl, _, 11, _, hR.c152, rfl, rfl, rfl⟩ (Nat.le_of_ble_eq_true rfl) ⟨Nat.le_of_ble_eq_true rfl, Nat.le_of_ble_eq_true rfl⟩ ⟨Nat.le_of_ble_eq_true rfl, Nat.le_of_ble_eq_true rfl⟩ ?_
  show vm_J _ _ _ (5, (0, 0), [.ref 152, .int q, .int u, .int k, .retAddr 0, .retAddr 0, .retAddr 0, .retAddr 0], [.int 0]) (G, I, F) _ _
  refine vm_J.go vm_q281 (k := 1) (hs := []) (f' := (bif vm_ic .eq 0 0 then 24 else 8, (0, 0), [.ref 152, .int q, .int u, .int k, .retAddr 0, .retAddr 0, .retAddr 0, .retAddr 0], [])) (h' := (G, I, F)) (hs' := []) rfl rfl ?_
  refine vm_J.bT (by decide) ?_
  refine vm_J.go vm_q281 (k := 1) (hs := []) (f' := (25, (0, 0), [.ref 152, .int q, .int u, .int k, .retAddr 0, .retAddr 0, .retAddr 0, .retAddr 0], [.int (-1)])) (h' := (G, I, F)) (hs' := []) rfl rfl ?_
  exact vm_J.end vm_q281 (en := (25, .ireturn, 1, [], .null)) rfl rfl vm_rI (Nat.zero_le _) (Nat.zero_le _) rfl
set_option maxHeartbeats 4000000 in
set_option maxRecDepth 20000 in
/-- DitherDeskModel.spared -/
theorem r_spared_m {l : Launch} {X : vm_Cx} {G : List vm_Sh} {I : Nat → Nat → Int32} {F : Nat → Nat → UInt32} {q : Nat} {w : Nat} {u : Int32} {k : Int32} (hR : vm_isR G) (hw : I 153 q = nI w) (hq : q < 4) (hw2 : w ≤ 12) (hw0 : w = 0) : vm_K l X vm_M281 [.ref 152, .int (nI q), .int u, .int k] (G, I, F) (some (.int (-1))) (G, I, F) := by
  refine vm_K.mk (by decide) (Nat.le_of_ble_eq_true rfl) ?_
  show vm_J _ _ _ (0, (0, 0), [.ref 152, .int (nI q), .int u, .int k, .retAddr 0, .retAddr 0, .retAddr 0, .retAddr 0], []) _ _ _
  refine vm_J.go vm_q281 (k := 2) (hs := []) (f' := (2, (0, 0), [.ref 152, .int (nI q), .int u, .int k, .retAddr 0, .retAddr 0, .retAddr 0, .retAddr 0], [.int (nI q), .ref 152])) (h' := (G, I, F)) (hs' := []) rfl rfl ?_
  refine vm_J.call vm_q281 (Z := vm_M172) (n := 1) (k := 0) (mi := 172) (pc := 2) (en := (2, .invokevirtual 156, 3, [172, 1313, 0], .null)) rfl trivial rfl rfl vm_z172 (av := [.ref 152, .int (nI q)]) (rest := []) (r_isPic_n (p := q) (w := w) hR (by omega) hw (by omega) (by omega)) ⟨_, _, rfl, rfl, _, 11, _, hR.c152, rfl, rfl, rfl⟩ (Nat.le_of_ble_eq_true rfl) ⟨Nat.le_of_ble_eq_true rfl, Nat.le_of_ble_eq_true rfl⟩ ⟨Nat.le_of_ble_eq_true rfl, Nat.le_of_ble_eq_true rfl⟩ ?_
  show vm_J _ _ _ (5, (0, 0), [.ref 152, .int (nI q), .int u, .int k, .retAddr 0, .retAddr 0, .retAddr 0, .retAddr 0], [.int 0]) (G, I, F) _ _
  refine vm_J.go vm_q281 (k := 1) (hs := []) (f' := (bif vm_ic .eq 0 0 then 24 else 8, (0, 0), [.ref 152, .int (nI q), .int u, .int k, .retAddr 0, .retAddr 0, .retAddr 0, .retAddr 0], [])) (h' := (G, I, F)) (hs' := []) rfl rfl ?_
  refine vm_J.bT (by decide) ?_
  refine vm_J.go vm_q281 (k := 1) (hs := []) (f' := (25, (0, 0), [.ref 152, .int (nI q), .int u, .int k, .retAddr 0, .retAddr 0, .retAddr 0, .retAddr 0], [.int (-1)])) (h' := (G, I, F)) (hs' := []) rfl rfl ?_
  exact vm_J.end vm_q281 (en := (25, .ireturn, 1, [], .null)) rfl rfl vm_rI (Nat.zero_le _) (Nat.zero_le _) rfl
set_option maxHeartbeats 4000000 in
set_option maxRecDepth 20000 in
/-- DitherDeskModel.spared -/
theorem r_spared_p {l : Launch} {X : vm_Cx} {G : List vm_Sh} {I : Nat → Nat → Int32} {F : Nat → Nat → UInt32} {q : Nat} {w : Nat} {u : Int32} {k : Int32} (hR : vm_isR G) (hw : I 153 q = nI w) (hq : q < 4) (hw2 : w ≤ 12) (hw0 : 0 < w) (hu_ : ¬ (0 ≤ u ∧ u ≤ 3)) : vm_K l X vm_M281 [.ref 152, .int (nI q), .int u, .int k] (G, I, F) (some (.int (-1))) (G, I, F) := by
  refine vm_K.mk (by decide) (Nat.le_of_ble_eq_true rfl) ?_
  show vm_J _ _ _ (0, (0, 0), [.ref 152, .int (nI q), .int u, .int k, .retAddr 0, .retAddr 0, .retAddr 0, .retAddr 0], []) _ _ _
  refine vm_J.go vm_q281 (k := 2) (hs := []) (f' := (2, (0, 0), [.ref 152, .int (nI q), .int u, .int k, .retAddr 0, .retAddr 0, .retAddr 0, .retAddr 0], [.int (nI q), .ref 152])) (h' := (G, I, F)) (hs' := []) rfl rfl ?_
  refine vm_J.call vm_q281 (Z := vm_M172) (n := 1) (k := 0) (mi := 172) (pc := 2) (en := (2, .invokevirtual 156, 3, [172, 1313, 0], .null)) rfl trivial rfl rfl vm_z172 (av := [.ref 152, .int (nI q)]) (rest := []) (r_isPic_y (p := q) (w := w) hR (by omega) hw (by omega) (by omega)) ⟨_, _, rfl, rfl, _, 11, _, hR.c152, rfl, rfl, rfl⟩ (Nat.le_of_ble_eq_true rfl) ⟨Nat.le_of_ble_eq_true rfl, Nat.le_of_ble_eq_true rfl⟩ ⟨Nat.le_of_ble_eq_true rfl, Nat.le_of_ble_eq_true rfl⟩ ?_
  show vm_J _ _ _ (5, (0, 0), [.ref 152, .int (nI q), .int u, .int k, .retAddr 0, .retAddr 0, .retAddr 0, .retAddr 0], [.int 1]) (G, I, F) _ _
  refine vm_J.go vm_q281 (k := 1) (hs := []) (f' := (bif vm_ic .eq 1 0 then 24 else 8, (0, 0), [.ref 152, .int (nI q), .int u, .int k, .retAddr 0, .retAddr 0, .retAddr 0, .retAddr 0], [])) (h' := (G, I, F)) (hs' := []) rfl rfl ?_
  refine vm_J.bF (by decide) ?_
  refine vm_J.go vm_q281 (k := 1) (hs := []) (f' := (9, (0, 0), [.ref 152, .int (nI q), .int u, .int k, .retAddr 0, .retAddr 0, .retAddr 0, .retAddr 0], [.int u])) (h' := (G, I, F)) (hs' := []) rfl rfl ?_
  refine vm_J.call vm_q281 (Z := vm_M173) (n := 1) (k := 1) (mi := 173) (pc := 9) (en := (9, .invokestatic 145, 3, [173, 1453, 0], .null)) rfl trivial rfl rfl vm_z173 (av := [.int u]) (rest := []) (r_isPalette_n (c := u) hu_) rfl (Nat.le_of_ble_eq_true rfl) ⟨Nat.le_of_ble_eq_true rfl, Nat.le_of_ble_eq_true rfl⟩ ⟨Nat.le_of_ble_eq_true rfl, Nat.le_of_ble_eq_true rfl⟩ ?_
  show vm_J _ _ _ (12, (0, 0), [.ref 152, .int (nI q), .int u, .int k, .retAddr 0, .retAddr 0, .retAddr 0, .retAddr 0], [.int 0]) (G, I, F) _ _
  refine vm_J.go vm_q281 (k := 1) (hs := []) (f' := (bif vm_ic .eq 0 0 then 24 else 15, (0, 0), [.ref 152, .int (nI q), .int u, .int k, .retAddr 0, .retAddr 0, .retAddr 0, .retAddr 0], [])) (h' := (G, I, F)) (hs' := []) rfl rfl ?_
  refine vm_J.bT (by decide) ?_
  refine vm_J.go vm_q281 (k := 1) (hs := []) (f' := (25, (0, 0), [.ref 152, .int (nI q), .int u, .int k, .retAddr 0, .retAddr 0, .retAddr 0, .retAddr 0], [.int (-1)])) (h' := (G, I, F)) (hs' := []) rfl rfl ?_
  exact vm_J.end vm_q281 (en := (25, .ireturn, 1, [], .null)) rfl rfl vm_rI (Nat.zero_le _) (Nat.zero_le _) rfl
set_option maxHeartbeats 4000000 in
set_option maxRecDepth 20000 in
/-- DitherDeskModel.make -/
theorem r_make_b {l : Launch} {X : vm_Cx} {G : List vm_Sh} {I : Nat → Nat → Int32} {F : Nat → Nat → UInt32} {p : Nat} {q : Nat} {w : Nat} {k : Int32} (hR : vm_isR G) (hp : p < 4) (hw : I 153 q = nI w) (hq : q < 4) (hw2 : w ≤ 12) (hw0 : 0 < w) (hk : ¬ (0 ≤ k ∧ k ≤ 4)) : vm_K l X vm_M263 [.ref 152, .int (nI q), .int (nI p), .int k] (G, I, F) (some (.int (-2))) (G, I, F) := by
  refine vm_K.mk (by decide) (Nat.le_of_ble_eq_true rfl) ?_
  show vm_J _ _ _ (0, (0, 0), [.ref 152, .int (nI q), .int (nI p), .int k], []) _ _ _
  refine vm_J.go vm_q263 (k := 2) (hs := []) (f' := (2, (0, 0), [.ref 152, .int (nI q), .int (nI p), .int k], [.int (nI q), .ref 152])) (h' := (G, I, F)) (hs' := []) rfl rfl ?_
  refine vm_J.call vm_q263 (Z := vm_M172) (n := 1) (k := 0) (mi := 172) (pc := 2) (en := (2, .invokevirtual 156, 3, [172, 1313, 0], .null)) rfl trivial rfl rfl vm_z172 (av := [.ref 152, .int (nI q)]) (rest := []) (r_isPic_y (p := q) (w := w) hR (by omega) hw (by omega) (by omega)) ⟨_, _, rfl, rfl, _, 11, _, hR.c152, rfl, rfl, rfl⟩ (Nat.le_of_ble_eq_true rfl) ⟨Nat.le_of_ble_eq_true rfl, Nat.le_of_ble_eq_true rfl⟩ ⟨Nat.le_of_ble_eq_true rfl, Nat.le_of_ble_eq_true rfl⟩ ?_
  show vm_J _ _ _ (5, (0, 0), [.ref 152, .int (nI q), .int (nI p), .int k], [.int 1]) (G, I, F) _ _
  refine vm_J.go vm_q263 (k := 1) (hs := []) (f' := (bif vm_ic .eq 1 0 then 15 else 8, (0, 0), [.ref 152, .int (nI q), .int (nI p), .int k], [])) (h' := (G, I, F)) (hs' := []) rfl rfl ?_
  refine vm_J.bF (by decide) ?_
  refine vm_J.go vm_q263 (k := 1) (hs := []) (f' := (9, (0, 0), [.ref 152, .int (nI q), .int (nI p), .int k], [.int (nI p)])) (h' := (G, I, F)) (hs' := []) rfl rfl ?_
  refine vm_J.call vm_q263 (Z := vm_M173) (n := 1) (k := 1) (mi := 173) (pc := 9) (en := (9, .invokestatic 145, 3, [173, 1453, 0], .null)) rfl trivial rfl rfl vm_z173 (av := [.int (nI p)]) (rest := []) (r_isPalette_y (c := nI p) (vm_bp4 hp)) rfl (Nat.le_of_ble_eq_true rfl) ⟨Nat.le_of_ble_eq_true rfl, Nat.le_of_ble_eq_true rfl⟩ ⟨Nat.le_of_ble_eq_true rfl, Nat.le_of_ble_eq_true rfl⟩ ?_
  show vm_J _ _ _ (12, (0, 0), [.ref 152, .int (nI q), .int (nI p), .int k], [.int 1]) (G, I, F) _ _
  refine vm_J.go vm_q263 (k := 1) (hs := []) (f' := (bif vm_ic .ne 1 0 then 17 else 15, (0, 0), [.ref 152, .int (nI q), .int (nI p), .int k], [])) (h' := (G, I, F)) (hs' := []) rfl rfl ?_
  refine vm_J.bT (by decide) ?_
  refine vm_J.go vm_q263 (k := 3) (hs := []) (f' := (20, (0, 0), [.ref 152, .int (nI q), .int (nI p), .int k], [.int 4, .int 0, .int k])) (h' := (G, I, F)) (hs' := []) rfl rfl ?_
  refine vm_J.call vm_q263 (Z := vm_M168) (n := 3) (k := 1) (mi := 168) (pc := 20) (en := (20, .invokestatic 141, 3, [168, 1302, 0], .null)) rfl trivial rfl rfl vm_z168 (av := [.int k, .int 0, .int 4]) (rest := []) (r_isIn_n (v := k) (a := 0) (b := 4) hk) rfl (Nat.le_of_ble_eq_true rfl) ⟨Nat.le_of_ble_eq_true rfl, Nat.le_of_ble_eq_true rfl⟩ ⟨Nat.le_of_ble_eq_true rfl, Nat.le_of_ble_eq_true rfl⟩ ?_
  show vm_J _ _ _ (23, (0, 0), [.ref 152, .int (nI q), .int (nI p), .int k], [.int 0]) (G, I, F) _ _
  refine vm_J.go vm_q263 (k := 1) (hs := []) (f' := (bif vm_ic .ne 0 0 then 29 else 26, (0, 0), [.ref 152, .int (nI q), .int (nI p), .int k], [])) (h' := (G, I, F)) (hs' := []) rfl rfl ?_
  refine vm_J.bF (by decide) ?_
  refine vm_J.go vm_q263 (k := 1) (hs := []) (f' := (28, (0, 0), [.ref 152, .int (nI q), .int (nI p), .int k], [.int (-2)])) (h' := (G, I, F)) (hs' := []) rfl rfl ?_
  exact vm_J.end vm_q263 (en := (28, .ireturn, 1, [], .null)) rfl rfl vm_rI (Nat.zero_le _) (Nat.zero_le _) rfl
set_option maxHeartbeats 4000000 in
set_option maxRecDepth 20000 in
/-- DitherDeskModel.make -/
theorem r_make_s {l : Launch} {X : vm_Cx} {G : List vm_Sh} {I : Nat → Nat → Int32} {F : Nat → Nat → UInt32} {p : Nat} {q : Nat} {w : Nat} {n : Nat} {wy : Nat} (hR : vm_isR G) (hp : p < 4) (hn : I 156 p = nI n) (hn2 : n = 0) (hw : I 153 q = nI w) (hq : q < 4) (hw2 : w ≤ 12) (hw0 : 0 < w) (hwy : wy < 5) : vm_K l X vm_M263 [.ref 152, .int (nI q), .int (nI p), .int (nI wy)] (G, I, F) (some (.int (-3))) (G, I, F) := by
  refine vm_K.mk (by decide) (Nat.le_of_ble_eq_true rfl) ?_
  show vm_J _ _ _ (0, (0, 0), [.ref 152, .int (nI q), .int (nI p), .int (nI wy)], []) _ _ _
  refine vm_J.go vm_q263 (k := 2) (hs := []) (f' := (2, (0, 0), [.ref 152, .int (nI q), .int (nI p), .int (nI wy)], [.int (nI q), .ref 152])) (h' := (G, I, F)) (hs' := []) rfl rfl ?_
  refine vm_J.call vm_q263 (Z := vm_M172) (n := 1) (k := 0) (mi := 172) (pc := 2) (en := (2, .invokevirtual 156, 3, [172, 1313, 0], .null)) rfl trivial rfl rfl vm_z172 (av := [.ref 152, .int (nI q)]) (rest := []) (r_isPic_y (p := q) (w := w) hR (by omega) hw (by omega) (by omega)) ⟨_, _, rfl, rfl, _, 11, _, hR.c152, rfl, rfl, rfl⟩ (Nat.le_of_ble_eq_true rfl) ⟨Nat.le_of_ble_eq_true rfl, Nat.le_of_ble_eq_true rfl⟩ ⟨Nat.le_of_ble_eq_true rfl, Nat.le_of_ble_eq_true rfl⟩ ?_
  show vm_J _ _ _ (5, (0, 0), [.ref 152, .int (nI q), .int (nI p), .int (nI wy)], [.int 1]) (G, I, F) _ _
  refine vm_J.go vm_q263 (k := 1) (hs := []) (f' := (bif vm_ic .eq 1 0 then 15 else 8, (0, 0), [.ref 152, .int (nI q), .int (nI p), .int (nI wy)], [])) (h' := (G, I, F)) (hs' := []) rfl rfl ?_
  refine vm_J.bF (by decide) ?_
  refine vm_J.go vm_q263 (k := 1) (hs := []) (f' := (9, (0, 0), [.ref 152, .int (nI q), .int (nI p), .int (nI wy)], [.int (nI p)])) (h' := (G, I, F)) (hs' := []) rfl rfl ?_
  refine vm_J.call vm_q263 (Z := vm_M173) (n := 1) (k := 1) (mi := 173) (pc := 9) (en := (9, .invokestatic 145, 3, [173, 1453, 0], .null)) rfl trivial rfl rfl vm_z173 (av := [.int (nI p)]) (rest := []) (r_isPalette_y (c := nI p) (vm_bp4 hp)) rfl (Nat.le_of_ble_eq_true rfl) ⟨Nat.le_of_ble_eq_true rfl, Nat.le_of_ble_eq_true rfl⟩ ⟨Nat.le_of_ble_eq_true rfl, Nat.le_of_ble_eq_true rfl⟩ ?_
  show vm_J _ _ _ (12, (0, 0), [.ref 152, .int (nI q), .int (nI p), .int (nI wy)], [.int 1]) (G, I, F) _ _
  refine vm_J.go vm_q263 (k := 1) (hs := []) (f' := (bif vm_ic .ne 1 0 then 17 else 15, (0, 0), [.ref 152, .int (nI q), .int (nI p), .int (nI wy)], [])) (h' := (G, I, F)) (hs' := []) rfl rfl ?_
  refine vm_J.bT (by decide) ?_
  refine vm_J.go vm_q263 (k := 3) (hs := []) (f' := (20, (0, 0), [.ref 152, .int (nI q), .int (nI p), .int (nI wy)], [.int 4, .int 0, .int (nI wy)])) (h' := (G, I, F)) (hs' := []) rfl rfl ?_
  refine vm_J.call vm_q263 (Z := vm_M168) (n := 3) (k := 1) (mi := 168) (pc := 20) (en := (20, .invokestatic 141, 3, [168, 1302, 0], .null)) rfl trivial rfl rfl vm_z168 (av := [.int (nI wy), .int 0, .int 4]) (rest := []) (r_isIn_y (v := nI wy) (a := 0) (b := 4) (vm_bpn (m := 4) (by omega) rfl (by decide))) rfl (Nat.le_of_ble_eq_true rfl) ⟨Nat.le_of_ble_eq_true rfl, Nat.le_of_ble_eq_true rfl⟩ ⟨Nat.le_of_ble_eq_true rfl, Nat.le_of_ble_eq_true rfl⟩ ?_
  show vm_J _ _ _ (23, (0, 0), [.ref 152, .int (nI q), .int (nI p), .int (nI wy)], [.int 1]) (G, I, F) _ _
  refine vm_J.go vm_q263 (k := 1) (hs := []) (f' := (bif vm_ic .ne 1 0 then 29 else 26, (0, 0), [.ref 152, .int (nI q), .int (nI p), .int (nI wy)], [])) (h' := (G, I, F)) (hs' := []) rfl rfl ?_
  refine vm_J.bT (by decide) ?_
  refine vm_J.go vm_q263 (k := 4) (hs := [vm_shR, (0, 4, [])]) (f' := (35, (0, 0), [.ref 152, .int (nI q), .int (nI p), .int (nI wy)], [.int (I 156 (nI p).toNatClampNeg)])) (h' := (G, I, F)) (hs' := []) rfl (vm_b2 rfl (vm_b2 (vm_b2 (vm_hG hR.c152) rfl) (vm_b2 rfl (vm_b2 (vm_b2 (vm_hG hR.c156) (vm_in_e (j := p) (n := 4) rfl (by omega) (by omega))) rfl)))) ?_
  rw [vm_ix_e (j := p) rfl (by omega)]
  rw [(hn : I 156 p = nI n)]
  refine vm_J.go vm_q263 (k := 1) (hs := []) (f' := (bif vm_ic .ne (nI n) 0 then 41 else 38, (0, 0), [.ref 152, .int (nI q), .int (nI p), .int (nI wy)], [])) (h' := (G, I, F)) (hs' := []) rfl rfl ?_
  refine vm_J.br (fun c1 => ?_) (fun c1 => ?_)
  · have c1 := vm_ne_t (a := n) (b := 0) (by omega) (by omega) c1
    exact (show False by omega).elim
  · have c1 := vm_ne_f (a := n) (b := 0) (by omega) (by omega) c1
    refine vm_J.go vm_q263 (k := 1) (hs := []) (f' := (40, (0, 0), [.ref 152, .int (nI q), .int (nI p), .int (nI wy)], [.int (-3)])) (h' := (G, I, F)) (hs' := []) rfl rfl ?_
    exact vm_J.end vm_q263 (en := (40, .ireturn, 1, [], .null)) rfl rfl vm_rI (Nat.zero_le _) (Nat.zero_le _) rfl
set_option maxHeartbeats 4000000 in
set_option maxRecDepth 20000 in
/-- DitherDeskModel.make -/
theorem r_make_f {l : Launch} {X : vm_Cx} {G : List vm_Sh} {I : Nat → Nat → Int32} {F : Nat → Nat → UInt32} {p : Nat} {q : Nat} {w : Nat} {n : Nat} {wy : Nat} {u : Nat} (hR : vm_isR G) (hp : p < 4) (hn : I 156 p = nI n) (hn0 : 0 < n) (hn2 : n ≤ 16) (hw : I 153 q = nI w) (hq : q < 4) (hw2 : w ≤ 12) (hw0 : 0 < w) (hwy : wy < 5) (hu : I 152 10 = nI u) (hv : 6000 < u + 1) (hv2 : u ≤ 6000) : vm_K l X vm_M263 [.ref 152, .int (nI q), .int (nI p), .int (nI wy)] (G, I, F) (some (.int (-4))) (G, I, F) := by
  refine vm_K.mk (by decide) (Nat.le_of_ble_eq_true rfl) ?_
  show vm_J _ _ _ (0, (0, 0), [.ref 152, .int (nI q), .int (nI p), .int (nI wy)], []) _ _ _
  refine vm_J.go vm_q263 (k := 2) (hs := []) (f' := (2, (0, 0), [.ref 152, .int (nI q), .int (nI p), .int (nI wy)], [.int (nI q), .ref 152])) (h' := (G, I, F)) (hs' := []) rfl rfl ?_
  refine vm_J.call vm_q263 (Z := vm_M172) (n := 1) (k := 0) (mi := 172) (pc := 2) (en := (2, .invokevirtual 156, 3, [172, 1313, 0], .null)) rfl trivial rfl rfl vm_z172 (av := [.ref 152, .int (nI q)]) (rest := []) (r_isPic_y (p := q) (w := w) hR (by omega) hw (by omega) (by omega)) ⟨_, _, rfl, rfl, _, 11, _, hR.c152, rfl, rfl, rfl⟩ (Nat.le_of_ble_eq_true rfl) ⟨Nat.le_of_ble_eq_true rfl, Nat.le_of_ble_eq_true rfl⟩ ⟨Nat.le_of_ble_eq_true rfl, Nat.le_of_ble_eq_true rfl⟩ ?_
  show vm_J _ _ _ (5, (0, 0), [.ref 152, .int (nI q), .int (nI p), .int (nI wy)], [.int 1]) (G, I, F) _ _
  refine vm_J.go vm_q263 (k := 1) (hs := []) (f' := (bif vm_ic .eq 1 0 then 15 else 8, (0, 0), [.ref 152, .int (nI q), .int (nI p), .int (nI wy)], [])) (h' := (G, I, F)) (hs' := []) rfl rfl ?_
  refine vm_J.bF (by decide) ?_
  refine vm_J.go vm_q263 (k := 1) (hs := []) (f' := (9, (0, 0), [.ref 152, .int (nI q), .int (nI p), .int (nI wy)], [.int (nI p)])) (h' := (G, I, F)) (hs' := []) rfl rfl ?_
  refine vm_J.call vm_q263 (Z := vm_M173) (n := 1) (k := 1) (mi := 173) (pc := 9) (en := (9, .invokestatic 145, 3, [173, 1453, 0], .null)) rfl trivial rfl rfl vm_z173 (av := [.int (nI p)]) (rest := []) (r_isPalette_y (c := nI p) (vm_bp4 hp)) rfl (Nat.le_of_ble_eq_true rfl) ⟨Nat.le_of_ble_eq_true rfl, Nat.le_of_ble_eq_true rfl⟩ ⟨Nat.le_of_ble_eq_true rfl, Nat.le_of_ble_eq_true rfl⟩ ?_
  show vm_J _ _ _ (12, (0, 0), [.ref 152, .int (nI q), .int (nI p), .int (nI wy)], [.int 1]) (G, I, F) _ _
  refine vm_J.go vm_q263 (k := 1) (hs := []) (f' := (bif vm_ic .ne 1 0 then 17 else 15, (0, 0), [.ref 152, .int (nI q), .int (nI p), .int (nI wy)], [])) (h' := (G, I, F)) (hs' := []) rfl rfl ?_
  refine vm_J.bT (by decide) ?_
  refine vm_J.go vm_q263 (k := 3) (hs := []) (f' := (20, (0, 0), [.ref 152, .int (nI q), .int (nI p), .int (nI wy)], [.int 4, .int 0, .int (nI wy)])) (h' := (G, I, F)) (hs' := []) rfl rfl ?_
  refine vm_J.call vm_q263 (Z := vm_M168) (n := 3) (k := 1) (mi := 168) (pc := 20) (en := (20, .invokestatic 141, 3, [168, 1302, 0], .null)) rfl trivial rfl rfl vm_z168 (av := [.int (nI wy), .int 0, .int 4]) (rest := []) (r_isIn_y (v := nI wy) (a := 0) (b := 4) (vm_bpn (m := 4) (by omega) rfl (by decide))) rfl (Nat.le_of_ble_eq_true rfl) ⟨Nat.le_of_ble_eq_true rfl, Nat.le_of_ble_eq_true rfl⟩ ⟨Nat.le_of_ble_eq_true rfl, Nat.le_of_ble_eq_true rfl⟩ ?_
  show vm_J _ _ _ (23, (0, 0), [.ref 152, .int (nI q), .int (nI p), .int (nI wy)], [.int 1]) (G, I, F) _ _
  refine vm_J.go vm_q263 (k := 1) (hs := []) (f' := (bif vm_ic .ne 1 0 then 29 else 26, (0, 0), [.ref 152, .int (nI q), .int (nI p), .int (nI wy)], [])) (h' := (G, I, F)) (hs' := []) rfl rfl ?_
  refine vm_J.bT (by decide) ?_
  refine vm_J.go vm_q263 (k := 4) (hs := [vm_shR, (0, 4, [])]) (f' := (35, (0, 0), [.ref 152, .int (nI q), .int (nI p), .int (nI wy)], [.int (I 156 (nI p).toNatClampNeg)])) (h' := (G, I, F)) (hs' := []) rfl (vm_b2 rfl (vm_b2 (vm_b2 (vm_hG hR.c152) rfl) (vm_b2 rfl (vm_b2 (vm_b2 (vm_hG hR.c156) (vm_in_e (j := p) (n := 4) rfl (by omega) (by omega))) rfl)))) ?_
  rw [vm_ix_e (j := p) rfl (by omega)]
  rw [(hn : I 156 p = nI n)]
  refine vm_J.go vm_q263 (k := 1) (hs := []) (f' := (bif vm_ic .ne (nI n) 0 then 41 else 38, (0, 0), [.ref 152, .int (nI q), .int (nI p), .int (nI wy)], [])) (h' := (G, I, F)) (hs' := []) rfl rfl ?_
  refine vm_J.br (fun c1 => ?_) (fun c1 => ?_)
  · have c1 := vm_ne_t (a := n) (b := 0) (by omega) (by omega) c1
    refine vm_J.go vm_q263 (k := 2) (hs := []) (f' := (43, (0, 0), [.ref 152, .int (nI q), .int (nI p), .int (nI wy)], [.int 1, .ref 152])) (h' := (G, I, F)) (hs' := []) rfl rfl ?_
    refine vm_J.call vm_q263 (Z := vm_M178) (n := 1) (k := 0) (mi := 178) (pc := 43) (en := (43, .invokevirtual 304, 3, [178, 1528, 0], .null)) rfl trivial rfl rfl vm_z178 (av := [.ref 152, .int 1]) (rest := []) (r_works_n (u := u) (k := 1) hR hu hv (by omega) (by omega)) ⟨_, _, rfl, rfl, _, 11, _, hR.c152, rfl, rfl, rfl⟩ (Nat.le_of_ble_eq_true rfl) ⟨Nat.le_of_ble_eq_true rfl, Nat.le_of_ble_eq_true rfl⟩ ⟨Nat.le_of_ble_eq_true rfl, Nat.le_of_ble_eq_true rfl⟩ ?_
    show vm_J _ _ _ (46, (0, 0), [.ref 152, .int (nI q), .int (nI p), .int (nI wy)], [.int 0]) (G, I, F) _ _
    refine vm_J.go vm_q263 (k := 1) (hs := []) (f' := (bif vm_ic .ne 0 0 then 52 else 49, (0, 0), [.ref 152, .int (nI q), .int (nI p), .int (nI wy)], [])) (h' := (G, I, F)) (hs' := []) rfl rfl ?_
    refine vm_J.bF (by decide) ?_
    refine vm_J.go vm_q263 (k := 1) (hs := []) (f' := (51, (0, 0), [.ref 152, .int (nI q), .int (nI p), .int (nI wy)], [.int (-4)])) (h' := (G, I, F)) (hs' := []) rfl rfl ?_
    exact vm_J.end vm_q263 (en := (51, .ireturn, 1, [], .null)) rfl rfl vm_rI (Nat.zero_le _) (Nat.zero_le _) rfl
  · have c1 := vm_ne_f (a := n) (b := 0) (by omega) (by omega) c1
    exact (show False by omega).elim
set_option maxHeartbeats 4000000 in
set_option maxRecDepth 20000 in
/-- DitherDeskModel.best -/
theorem r_best_b {l : Launch} {X : vm_Cx} {G : List vm_Sh} {I : Nat → Nat → Int32} {F : Nat → Nat → UInt32} {p : Nat} {q : Nat} {w : Nat} {k : Int32} (hR : vm_isR G) (hp : p < 4) (hw : I 153 q = nI w) (hq : q < 4) (hw2 : w ≤ 12) (hw0 : 0 < w) (hk : ¬ (0 ≤ k ∧ k ≤ 1)) : vm_K l X vm_M268 [.ref 152, .int (nI q), .int (nI p), .int k] (G, I, F) (some (.int (-1))) (G, I, F) := by
  refine vm_K.mk (by decide) (Nat.le_of_ble_eq_true rfl) ?_
  show vm_J _ _ _ (0, (0, 0), [.ref 152, .int (nI q), .int (nI p), .int k, .retAddr 0, .retAddr 0, .retAddr 0, .retAddr 0], []) _ _ _
  refine vm_J.go vm_q268 (k := 2) (hs := []) (f' := (2, (0, 0), [.ref 152, .int (nI q), .int (nI p), .int k, .retAddr 0, .retAddr 0, .retAddr 0, .retAddr 0], [.int (nI q), .ref 152])) (h' := (G, I, F)) (hs' := []) rfl rfl ?_
  refine vm_J.call vm_q268 (Z := vm_M172) (n := 1) (k := 0) (mi := 172) (pc := 2) (en := (2, .invokevirtual 156, 3, [172, 1313, 0], .null)) rfl trivial rfl rfl vm_z172 (av := [.ref 152, .int (nI q)]) (rest := []) (r_isPic_y (p := q) (w := w) hR (by omega) hw (by omega) (by omega)) ⟨_, _, rfl, rfl, _, 11, _, hR.c152, rfl, rfl, rfl⟩ (Nat.le_of_ble_eq_true rfl) ⟨Nat.le_of_ble_eq_true rfl, Nat.le_of_ble_eq_true rfl⟩ ⟨Nat.le_of_ble_eq_true rfl, Nat.le_of_ble_eq_true rfl⟩ ?_
  show vm_J _ _ _ (5, (0, 0), [.ref 152, .int (nI q), .int (nI p), .int k, .retAddr 0, .retAddr 0, .retAddr 0, .retAddr 0], [.int 1]) (G, I, F) _ _
  refine vm_J.go vm_q268 (k := 1) (hs := []) (f' := (bif vm_ic .eq 1 0 then 24 else 8, (0, 0), [.ref 152, .int (nI q), .int (nI p), .int k, .retAddr 0, .retAddr 0, .retAddr 0, .retAddr 0], [])) (h' := (G, I, F)) (hs' := []) rfl rfl ?_
  refine vm_J.bF (by decide) ?_
  refine vm_J.go vm_q268 (k := 1) (hs := []) (f' := (9, (0, 0), [.ref 152, .int (nI q), .int (nI p), .int k, .retAddr 0, .retAddr 0, .retAddr 0, .retAddr 0], [.int (nI p)])) (h' := (G, I, F)) (hs' := []) rfl rfl ?_
  refine vm_J.call vm_q268 (Z := vm_M173) (n := 1) (k := 1) (mi := 173) (pc := 9) (en := (9, .invokestatic 145, 3, [173, 1453, 0], .null)) rfl trivial rfl rfl vm_z173 (av := [.int (nI p)]) (rest := []) (r_isPalette_y (c := nI p) (vm_bp4 hp)) rfl (Nat.le_of_ble_eq_true rfl) ⟨Nat.le_of_ble_eq_true rfl, Nat.le_of_ble_eq_true rfl⟩ ⟨Nat.le_of_ble_eq_true rfl, Nat.le_of_ble_eq_true rfl⟩ ?_
  show vm_J _ _ _ (12, (0, 0), [.ref 152, .int (nI q), .int (nI p), .int k, .retAddr 0, .retAddr 0, .retAddr 0, .retAddr 0], [.int 1]) (G, I, F) _ _
  refine vm_J.go vm_q268 (k := 1) (hs := []) (f' := (bif vm_ic .eq 1 0 then 24 else 15, (0, 0), [.ref 152, .int (nI q), .int (nI p), .int k, .retAddr 0, .retAddr 0, .retAddr 0, .retAddr 0], [])) (h' := (G, I, F)) (hs' := []) rfl rfl ?_
  refine vm_J.bF (by decide) ?_
  refine vm_J.go vm_q268 (k := 3) (hs := []) (f' := (18, (0, 0), [.ref 152, .int (nI q), .int (nI p), .int k, .retAddr 0, .retAddr 0, .retAddr 0, .retAddr 0], [.int 1, .int 0, .int k])) (h' := (G, I, F)) (hs' := []) rfl rfl ?_
  refine vm_J.call vm_q268 (Z := vm_M168) (n := 3) (k := 1) (mi := 168) (pc := 18) (en := (18, .invokestatic 141, 3, [168, 1302, 0], .null)) rfl trivial rfl rfl vm_z168 (av := [.int k, .int 0, .int 1]) (rest := []) (r_isIn_n (v := k) (a := 0) (b := 1) hk) rfl (Nat.le_of_ble_eq_true rfl) ⟨Nat.le_of_ble_eq_true rfl, Nat.le_of_ble_eq_true rfl⟩ ⟨Nat.le_of_ble_eq_true rfl, Nat.le_of_ble_eq_true rfl⟩ ?_
  show vm_J _ _ _ (21, (0, 0), [.ref 152, .int (nI q), .int (nI p), .int k, .retAddr 0, .retAddr 0, .retAddr 0, .retAddr 0], [.int 0]) (G, I, F) _ _
  refine vm_J.go vm_q268 (k := 1) (hs := []) (f' := (bif vm_ic .ne 0 0 then 26 else 24, (0, 0), [.ref 152, .int (nI q), .int (nI p), .int k, .retAddr 0, .retAddr 0, .retAddr 0, .retAddr 0], [])) (h' := (G, I, F)) (hs' := []) rfl rfl ?_
  refine vm_J.bF (by decide) ?_
  refine vm_J.go vm_q268 (k := 1) (hs := []) (f' := (25, (0, 0), [.ref 152, .int (nI q), .int (nI p), .int k, .retAddr 0, .retAddr 0, .retAddr 0, .retAddr 0], [.int (-1)])) (h' := (G, I, F)) (hs' := []) rfl rfl ?_
  exact vm_J.end vm_q268 (en := (25, .ireturn, 1, [], .null)) rfl rfl vm_rI (Nat.zero_le _) (Nat.zero_le _) rfl
set_option maxHeartbeats 4000000 in
set_option maxRecDepth 20000 in
/-- DitherDeskModel.best -/
theorem r_best_s {l : Launch} {X : vm_Cx} {G : List vm_Sh} {I : Nat → Nat → Int32} {F : Nat → Nat → UInt32} {p : Nat} {q : Nat} {w : Nat} {n : Nat} {wy : Nat} (hR : vm_isR G) (hp : p < 4) (hn : I 156 p = nI n) (hn2 : n = 0) (hw : I 153 q = nI w) (hq : q < 4) (hw2 : w ≤ 12) (hw0 : 0 < w) (hwy : wy < 2) : vm_K l X vm_M268 [.ref 152, .int (nI q), .int (nI p), .int (nI wy)] (G, I, F) (some (.int (-3))) (G, I, F) := by
  refine vm_K.mk (by decide) (Nat.le_of_ble_eq_true rfl) ?_
  show vm_J _ _ _ (0, (0, 0), [.ref 152, .int (nI q), .int (nI p), .int (nI wy), .retAddr 0, .retAddr 0, .retAddr 0, .retAddr 0], []) _ _ _
  refine vm_J.go vm_q268 (k := 2) (hs := []) (f' := (2, (0, 0), [.ref 152, .int (nI q), .int (nI p), .int (nI wy), .retAddr 0, .retAddr 0, .retAddr 0, .retAddr 0], [.int (nI q), .ref 152])) (h' := (G, I, F)) (hs' := []) rfl rfl ?_
  refine vm_J.call vm_q268 (Z := vm_M172) (n := 1) (k := 0) (mi := 172) (pc := 2) (en := (2, .invokevirtual 156, 3, [172, 1313, 0], .null)) rfl trivial rfl rfl vm_z172 (av := [.ref 152, .int (nI q)]) (rest := []) (r_isPic_y (p := q) (w := w) hR (by omega) hw (by omega) (by omega)) ⟨_, _, rfl, rfl, _, 11, _, hR.c152, rfl, rfl, rfl⟩ (Nat.le_of_ble_eq_true rfl) ⟨Nat.le_of_ble_eq_true rfl, Nat.le_of_ble_eq_true rfl⟩ ⟨Nat.le_of_ble_eq_true rfl, Nat.le_of_ble_eq_true rfl⟩ ?_
  show vm_J _ _ _ (5, (0, 0), [.ref 152, .int (nI q), .int (nI p), .int (nI wy), .retAddr 0, .retAddr 0, .retAddr 0, .retAddr 0], [.int 1]) (G, I, F) _ _
  refine vm_J.go vm_q268 (k := 1) (hs := []) (f' := (bif vm_ic .eq 1 0 then 24 else 8, (0, 0), [.ref 152, .int (nI q), .int (nI p), .int (nI wy), .retAddr 0, .retAddr 0, .retAddr 0, .retAddr 0], [])) (h' := (G, I, F)) (hs' := []) rfl rfl ?_
  refine vm_J.bF (by decide) ?_
  refine vm_J.go vm_q268 (k := 1) (hs := []) (f' := (9, (0, 0), [.ref 152, .int (nI q), .int (nI p), .int (nI wy), .retAddr 0, .retAddr 0, .retAddr 0, .retAddr 0], [.int (nI p)])) (h' := (G, I, F)) (hs' := []) rfl rfl ?_
  refine vm_J.call vm_q268 (Z := vm_M173) (n := 1) (k := 1) (mi := 173) (pc := 9) (en := (9, .invokestatic 145, 3, [173, 1453, 0], .null)) rfl trivial rfl rfl vm_z173 (av := [.int (nI p)]) (rest := []) (r_isPalette_y (c := nI p) (vm_bp4 hp)) rfl (Nat.le_of_ble_eq_true rfl) ⟨Nat.le_of_ble_eq_true rfl, Nat.le_of_ble_eq_true rfl⟩ ⟨Nat.le_of_ble_eq_true rfl, Nat.le_of_ble_eq_true rfl⟩ ?_
  show vm_J _ _ _ (12, (0, 0), [.ref 152, .int (nI q), .int (nI p), .int (nI wy), .retAddr 0, .retAddr 0, .retAddr 0, .retAddr 0], [.int 1]) (G, I, F) _ _
  refine vm_J.go vm_q268 (k := 1) (hs := []) (f' := (bif vm_ic .eq 1 0 then 24 else 15, (0, 0), [.ref 152, .int (nI q), .int (nI p), .int (nI wy), .retAddr 0, .retAddr 0, .retAddr 0, .retAddr 0], [])) (h' := (G, I, F)) (hs' := []) rfl rfl ?_
  refine vm_J.bF (by decide) ?_
  refine vm_J.go vm_q268 (k := 3) (hs := []) (f' := (18, (0, 0), [.ref 152, .int (nI q), .int (nI p), .int (nI wy), .retAddr 0, .retAddr 0, .retAddr 0, .retAddr 0], [.int 1, .int 0, .int (nI wy)])) (h' := (G, I, F)) (hs' := []) rfl rfl ?_
  refine vm_J.call vm_q268 (Z := vm_M168) (n := 3) (k := 1) (mi := 168) (pc := 18) (en := (18, .invokestatic 141, 3, [168, 1302, 0], .null)) rfl trivial rfl rfl vm_z168 (av := [.int (nI wy), .int 0, .int 1]) (rest := []) (r_isIn_y (v := nI wy) (a := 0) (b := 1) (vm_bpn (m := 1) (by omega) rfl (by decide))) rfl (Nat.le_of_ble_eq_true rfl) ⟨Nat.le_of_ble_eq_true rfl, Nat.le_of_ble_eq_true rfl⟩ ⟨Nat.le_of_ble_eq_true rfl, Nat.le_of_ble_eq_true rfl⟩ ?_
  show vm_J _ _ _ (21, (0, 0), [.ref 152, .int (nI q), .int (nI p), .int (nI wy), .retAddr 0, .retAddr 0, .retAddr 0, .retAddr 0], [.int 1]) (G, I, F) _ _
  refine vm_J.go vm_q268 (k := 1) (hs := []) (f' := (bif vm_ic .ne 1 0 then 26 else 24, (0, 0), [.ref 152, .int (nI q), .int (nI p), .int (nI wy), .retAddr 0, .retAddr 0, .retAddr 0, .retAddr 0], [])) (h' := (G, I, F)) (hs' := []) rfl rfl ?_
  refine vm_J.bT (by decide) ?_
  refine vm_J.go vm_q268 (k := 4) (hs := [vm_shR, (0, 4, [])]) (f' := (32, (0, 0), [.ref 152, .int (nI q), .int (nI p), .int (nI wy), .retAddr 0, .retAddr 0, .retAddr 0, .retAddr 0], [.int (I 156 (nI p).toNatClampNeg)])) (h' := (G, I, F)) (hs' := []) rfl (vm_b2 rfl (vm_b2 (vm_b2 (vm_hG hR.c152) rfl) (vm_b2 rfl (vm_b2 (vm_b2 (vm_hG hR.c156) (vm_in_e (j := p) (n := 4) rfl (by omega) (by omega))) rfl)))) ?_
  rw [vm_ix_e (j := p) rfl (by omega)]
  rw [(hn : I 156 p = nI n)]
  refine vm_J.go vm_q268 (k := 1) (hs := []) (f' := (bif vm_ic .ne (nI n) 0 then 38 else 35, (0, 0), [.ref 152, .int (nI q), .int (nI p), .int (nI wy), .retAddr 0, .retAddr 0, .retAddr 0, .retAddr 0], [])) (h' := (G, I, F)) (hs' := []) rfl rfl ?_
  refine vm_J.br (fun c1 => ?_) (fun c1 => ?_)
  · have c1 := vm_ne_t (a := n) (b := 0) (by omega) (by omega) c1
    exact (show False by omega).elim
  · have c1 := vm_ne_f (a := n) (b := 0) (by omega) (by omega) c1
    refine vm_J.go vm_q268 (k := 1) (hs := []) (f' := (37, (0, 0), [.ref 152, .int (nI q), .int (nI p), .int (nI wy), .retAddr 0, .retAddr 0, .retAddr 0, .retAddr 0], [.int (-3)])) (h' := (G, I, F)) (hs' := []) rfl rfl ?_
    exact vm_J.end vm_q268 (en := (37, .ireturn, 1, [], .null)) rfl rfl vm_rI (Nat.zero_le _) (Nat.zero_le _) rfl
set_option maxHeartbeats 4000000 in
set_option maxRecDepth 20000 in
/-- DitherDeskModel.best -/
theorem r_best_f {l : Launch} {X : vm_Cx} {G : List vm_Sh} {I : Nat → Nat → Int32} {F : Nat → Nat → UInt32} {p : Nat} {q : Nat} {w : Nat} {n : Nat} {wy : Nat} {u : Nat} (hR : vm_isR G) (hp : p < 4) (hn : I 156 p = nI n) (hn0 : 0 < n) (hn2 : n ≤ 16) (hw : I 153 q = nI w) (hq : q < 4) (hw2 : w ≤ 12) (hw0 : 0 < w) (hwy : wy < 2) (hu : I 152 10 = nI u) (hv : 6000 < u + 5) (hv2 : u ≤ 6000) : vm_K l X vm_M268 [.ref 152, .int (nI q), .int (nI p), .int (nI wy)] (G, I, F) (some (.int (-4))) (G, I, F) := by
  refine vm_K.mk (by decide) (Nat.le_of_ble_eq_true rfl) ?_
  show vm_J _ _ _ (0, (0, 0), [.ref 152, .int (nI q), .int (nI p), .int (nI wy), .retAddr 0, .retAddr 0, .retAddr 0, .retAddr 0], []) _ _ _
  refine vm_J.go vm_q268 (k := 2) (hs := []) (f' := (2, (0, 0), [.ref 152, .int (nI q), .int (nI p), .int (nI wy), .retAddr 0, .retAddr 0, .retAddr 0, .retAddr 0], [.int (nI q), .ref 152])) (h' := (G, I, F)) (hs' := []) rfl rfl ?_
  refine vm_J.call vm_q268 (Z := vm_M172) (n := 1) (k := 0) (mi := 172) (pc := 2) (en := (2, .invokevirtual 156, 3, [172, 1313, 0], .null)) rfl trivial rfl rfl vm_z172 (av := [.ref 152, .int (nI q)]) (rest := []) (r_isPic_y (p := q) (w := w) hR (by omega) hw (by omega) (by omega)) ⟨_, _, rfl, rfl, _, 11, _, hR.c152, rfl, rfl, rfl⟩ (Nat.le_of_ble_eq_true rfl) ⟨Nat.le_of_ble_eq_true rfl, Nat.le_of_ble_eq_true rfl⟩ ⟨Nat.le_of_ble_eq_true rfl, Nat.le_of_ble_eq_true rfl⟩ ?_
  show vm_J _ _ _ (5, (0, 0), [.ref 152, .int (nI q), .int (nI p), .int (nI wy), .retAddr 0, .retAddr 0, .retAddr 0, .retAddr 0], [.int 1]) (G, I, F) _ _
  refine vm_J.go vm_q268 (k := 1) (hs := []) (f' := (bif vm_ic .eq 1 0 then 24 else 8, (0, 0), [.ref 152, .int (nI q), .int (nI p), .int (nI wy), .retAddr 0, .retAddr 0, .retAddr 0, .retAddr 0], [])) (h' := (G, I, F)) (hs' := []) rfl rfl ?_
  refine vm_J.bF (by decide) ?_
  refine vm_J.go vm_q268 (k := 1) (hs := []) (f' := (9, (0, 0), [.ref 152, .int (nI q), .int (nI p), .int (nI wy), .retAddr 0, .retAddr 0, .retAddr 0, .retAddr 0], [.int (nI p)])) (h' := (G, I, F)) (hs' := []) rfl rfl ?_
  refine vm_J.call vm_q268 (Z := vm_M173) (n := 1) (k := 1) (mi := 173) (pc := 9) (en := (9, .invokestatic 145, 3, [173, 1453, 0], .null)) rfl trivial rfl rfl vm_z173 (av := [.int (nI p)]) (rest := []) (r_isPalette_y (c := nI p) (vm_bp4 hp)) rfl (Nat.le_of_ble_eq_true rfl) ⟨Nat.le_of_ble_eq_true rfl, Nat.le_of_ble_eq_true rfl⟩ ⟨Nat.le_of_ble_eq_true rfl, Nat.le_of_ble_eq_true rfl⟩ ?_
  show vm_J _ _ _ (12, (0, 0), [.ref 152, .int (nI q), .int (nI p), .int (nI wy), .retAddr 0, .retAddr 0, .retAddr 0, .retAddr 0], [.int 1]) (G, I, F) _ _
  refine vm_J.go vm_q268 (k := 1) (hs := []) (f' := (bif vm_ic .eq 1 0 then 24 else 15, (0, 0), [.ref 152, .int (nI q), .int (nI p), .int (nI wy), .retAddr 0, .retAddr 0, .retAddr 0, .retAddr 0], [])) (h' := (G, I, F)) (hs' := []) rfl rfl ?_
  refine vm_J.bF (by decide) ?_
  refine vm_J.go vm_q268 (k := 3) (hs := []) (f' := (18, (0, 0), [.ref 152, .int (nI q), .int (nI p), .int (nI wy), .retAddr 0, .retAddr 0, .retAddr 0, .retAddr 0], [.int 1, .int 0, .int (nI wy)])) (h' := (G, I, F)) (hs' := []) rfl rfl ?_
  refine vm_J.call vm_q268 (Z := vm_M168) (n := 3) (k := 1) (mi := 168) (pc := 18) (en := (18, .invokestatic 141, 3, [168, 1302, 0], .null)) rfl trivial rfl rfl vm_z168 (av := [.int (nI wy), .int 0, .int 1]) (rest := []) (r_isIn_y (v := nI wy) (a := 0) (b := 1) (vm_bpn (m := 1) (by omega) rfl (by decide))) rfl (Nat.le_of_ble_eq_true rfl) ⟨Nat.le_of_ble_eq_true rfl, Nat.le_of_ble_eq_true rfl⟩ ⟨Nat.le_of_ble_eq_true rfl, Nat.le_of_ble_eq_true rfl⟩ ?_
  show vm_J _ _ _ (21, (0, 0), [.ref 152, .int (nI q), .int (nI p), .int (nI wy), .retAddr 0, .retAddr 0, .retAddr 0, .retAddr 0], [.int 1]) (G, I, F) _ _
  refine vm_J.go vm_q268 (k := 1) (hs := []) (f' := (bif vm_ic .ne 1 0 then 26 else 24, (0, 0), [.ref 152, .int (nI q), .int (nI p), .int (nI wy), .retAddr 0, .retAddr 0, .retAddr 0, .retAddr 0], [])) (h' := (G, I, F)) (hs' := []) rfl rfl ?_
  refine vm_J.bT (by decide) ?_
  refine vm_J.go vm_q268 (k := 4) (hs := [vm_shR, (0, 4, [])]) (f' := (32, (0, 0), [.ref 152, .int (nI q), .int (nI p), .int (nI wy), .retAddr 0, .retAddr 0, .retAddr 0, .retAddr 0], [.int (I 156 (nI p).toNatClampNeg)])) (h' := (G, I, F)) (hs' := []) rfl (vm_b2 rfl (vm_b2 (vm_b2 (vm_hG hR.c152) rfl) (vm_b2 rfl (vm_b2 (vm_b2 (vm_hG hR.c156) (vm_in_e (j := p) (n := 4) rfl (by omega) (by omega))) rfl)))) ?_
  rw [vm_ix_e (j := p) rfl (by omega)]
  rw [(hn : I 156 p = nI n)]
  refine vm_J.go vm_q268 (k := 1) (hs := []) (f' := (bif vm_ic .ne (nI n) 0 then 38 else 35, (0, 0), [.ref 152, .int (nI q), .int (nI p), .int (nI wy), .retAddr 0, .retAddr 0, .retAddr 0, .retAddr 0], [])) (h' := (G, I, F)) (hs' := []) rfl rfl ?_
  refine vm_J.br (fun c1 => ?_) (fun c1 => ?_)
  · have c1 := vm_ne_t (a := n) (b := 0) (by omega) (by omega) c1
    refine vm_J.go vm_q268 (k := 2) (hs := []) (f' := (40, (0, 0), [.ref 152, .int (nI q), .int (nI p), .int (nI wy), .retAddr 0, .retAddr 0, .retAddr 0, .retAddr 0], [.int 5, .ref 152])) (h' := (G, I, F)) (hs' := []) rfl rfl ?_
    refine vm_J.call vm_q268 (Z := vm_M178) (n := 1) (k := 0) (mi := 178) (pc := 40) (en := (40, .invokevirtual 304, 3, [178, 1528, 0], .null)) rfl trivial rfl rfl vm_z178 (av := [.ref 152, .int 5]) (rest := []) (r_works_n (u := u) (k := 5) hR hu hv (by omega) (by omega)) ⟨_, _, rfl, rfl, _, 11, _, hR.c152, rfl, rfl, rfl⟩ (Nat.le_of_ble_eq_true rfl) ⟨Nat.le_of_ble_eq_true rfl, Nat.le_of_ble_eq_true rfl⟩ ⟨Nat.le_of_ble_eq_true rfl, Nat.le_of_ble_eq_true rfl⟩ ?_
    show vm_J _ _ _ (43, (0, 0), [.ref 152, .int (nI q), .int (nI p), .int (nI wy), .retAddr 0, .retAddr 0, .retAddr 0, .retAddr 0], [.int 0]) (G, I, F) _ _
    refine vm_J.go vm_q268 (k := 1) (hs := []) (f' := (bif vm_ic .ne 0 0 then 49 else 46, (0, 0), [.ref 152, .int (nI q), .int (nI p), .int (nI wy), .retAddr 0, .retAddr 0, .retAddr 0, .retAddr 0], [])) (h' := (G, I, F)) (hs' := []) rfl rfl ?_
    refine vm_J.bF (by decide) ?_
    refine vm_J.go vm_q268 (k := 1) (hs := []) (f' := (48, (0, 0), [.ref 152, .int (nI q), .int (nI p), .int (nI wy), .retAddr 0, .retAddr 0, .retAddr 0, .retAddr 0], [.int (-4)])) (h' := (G, I, F)) (hs' := []) rfl rfl ?_
    exact vm_J.end vm_q268 (en := (48, .ireturn, 1, [], .null)) rfl rfl vm_rI (Nat.zero_le _) (Nat.zero_le _) rfl
  · have c1 := vm_ne_f (a := n) (b := 0) (by omega) (by omega) c1
    exact (show False by omega).elim
set_option maxHeartbeats 4000000 in
set_option maxRecDepth 20000 in
/-- DitherDeskModel.fits -/
theorem r_fits_b {l : Launch} {X : vm_Cx} {G : List vm_Sh} {I : Nat → Nat → Int32} {F : Nat → Nat → UInt32} {p : Nat} {q : Nat} {w : Nat} {k : Int32} (hR : vm_isR G) (hp : p < 4) (hw : I 153 q = nI w) (hq : q < 4) (hw2 : w ≤ 12) (hw0 : 0 < w) (hk : ¬ (0 ≤ k ∧ k ≤ 1)) : vm_K l X vm_M271 [.ref 152, .int (nI q), .int (nI p), .int k] (G, I, F) (some (.int (-1))) (G, I, F) := by
  refine vm_K.mk (by decide) (Nat.le_of_ble_eq_true rfl) ?_
  show vm_J _ _ _ (0, (0, 0), [.ref 152, .int (nI q), .int (nI p), .int k, .retAddr 0, .retAddr 0, .retAddr 0], []) _ _ _
  refine vm_J.go vm_q271 (k := 2) (hs := []) (f' := (2, (0, 0), [.ref 152, .int (nI q), .int (nI p), .int k, .retAddr 0, .retAddr 0, .retAddr 0], [.int (nI q), .ref 152])) (h' := (G, I, F)) (hs' := []) rfl rfl ?_
  refine vm_J.call vm_q271 (Z := vm_M172) (n := 1) (k := 0) (mi := 172) (pc := 2) (en := (2, .invokevirtual 156, 3, [172, 1313, 0], .null)) rfl trivial rfl rfl vm_z172 (av := [.ref 152, .int (nI q)]) (rest := []) (r_isPic_y (p := q) (w := w) hR (by omega) hw (by omega) (by omega)) ⟨_, _, rfl, rfl, _, 11, _, hR.c152, rfl, rfl, rfl⟩ (Nat.le_of_ble_eq_true rfl) ⟨Nat.le_of_ble_eq_true rfl, Nat.le_of_ble_eq_true rfl⟩ ⟨Nat.le_of_ble_eq_true rfl, Nat.le_of_ble_eq_true rfl⟩ ?_
  show vm_J _ _ _ (5, (0, 0), [.ref 152, .int (nI q), .int (nI p), .int k, .retAddr 0, .retAddr 0, .retAddr 0], [.int 1]) (G, I, F) _ _
  refine vm_J.go vm_q271 (k := 1) (hs := []) (f' := (bif vm_ic .eq 1 0 then 24 else 8, (0, 0), [.ref 152, .int (nI q), .int (nI p), .int k, .retAddr 0, .retAddr 0, .retAddr 0], [])) (h' := (G, I, F)) (hs' := []) rfl rfl ?_
  refine vm_J.bF (by decide) ?_
  refine vm_J.go vm_q271 (k := 1) (hs := []) (f' := (9, (0, 0), [.ref 152, .int (nI q), .int (nI p), .int k, .retAddr 0, .retAddr 0, .retAddr 0], [.int (nI p)])) (h' := (G, I, F)) (hs' := []) rfl rfl ?_
  refine vm_J.call vm_q271 (Z := vm_M173) (n := 1) (k := 1) (mi := 173) (pc := 9) (en := (9, .invokestatic 145, 3, [173, 1453, 0], .null)) rfl trivial rfl rfl vm_z173 (av := [.int (nI p)]) (rest := []) (r_isPalette_y (c := nI p) (vm_bp4 hp)) rfl (Nat.le_of_ble_eq_true rfl) ⟨Nat.le_of_ble_eq_true rfl, Nat.le_of_ble_eq_true rfl⟩ ⟨Nat.le_of_ble_eq_true rfl, Nat.le_of_ble_eq_true rfl⟩ ?_
  show vm_J _ _ _ (12, (0, 0), [.ref 152, .int (nI q), .int (nI p), .int k, .retAddr 0, .retAddr 0, .retAddr 0], [.int 1]) (G, I, F) _ _
  refine vm_J.go vm_q271 (k := 1) (hs := []) (f' := (bif vm_ic .eq 1 0 then 24 else 15, (0, 0), [.ref 152, .int (nI q), .int (nI p), .int k, .retAddr 0, .retAddr 0, .retAddr 0], [])) (h' := (G, I, F)) (hs' := []) rfl rfl ?_
  refine vm_J.bF (by decide) ?_
  refine vm_J.go vm_q271 (k := 3) (hs := []) (f' := (18, (0, 0), [.ref 152, .int (nI q), .int (nI p), .int k, .retAddr 0, .retAddr 0, .retAddr 0], [.int 1, .int 0, .int k])) (h' := (G, I, F)) (hs' := []) rfl rfl ?_
  refine vm_J.call vm_q271 (Z := vm_M168) (n := 3) (k := 1) (mi := 168) (pc := 18) (en := (18, .invokestatic 141, 3, [168, 1302, 0], .null)) rfl trivial rfl rfl vm_z168 (av := [.int k, .int 0, .int 1]) (rest := []) (r_isIn_n (v := k) (a := 0) (b := 1) hk) rfl (Nat.le_of_ble_eq_true rfl) ⟨Nat.le_of_ble_eq_true rfl, Nat.le_of_ble_eq_true rfl⟩ ⟨Nat.le_of_ble_eq_true rfl, Nat.le_of_ble_eq_true rfl⟩ ?_
  show vm_J _ _ _ (21, (0, 0), [.ref 152, .int (nI q), .int (nI p), .int k, .retAddr 0, .retAddr 0, .retAddr 0], [.int 0]) (G, I, F) _ _
  refine vm_J.go vm_q271 (k := 1) (hs := []) (f' := (bif vm_ic .ne 0 0 then 26 else 24, (0, 0), [.ref 152, .int (nI q), .int (nI p), .int k, .retAddr 0, .retAddr 0, .retAddr 0], [])) (h' := (G, I, F)) (hs' := []) rfl rfl ?_
  refine vm_J.bF (by decide) ?_
  refine vm_J.go vm_q271 (k := 1) (hs := []) (f' := (25, (0, 0), [.ref 152, .int (nI q), .int (nI p), .int k, .retAddr 0, .retAddr 0, .retAddr 0], [.int (-1)])) (h' := (G, I, F)) (hs' := []) rfl rfl ?_
  exact vm_J.end vm_q271 (en := (25, .ireturn, 1, [], .null)) rfl rfl vm_rI (Nat.zero_le _) (Nat.zero_le _) rfl
set_option maxHeartbeats 4000000 in
set_option maxRecDepth 20000 in
/-- DitherDeskModel.fits -/
theorem r_fits_s {l : Launch} {X : vm_Cx} {G : List vm_Sh} {I : Nat → Nat → Int32} {F : Nat → Nat → UInt32} {p : Nat} {q : Nat} {w : Nat} {n : Nat} {wy : Nat} (hR : vm_isR G) (hp : p < 4) (hn : I 156 p = nI n) (hn2 : n = 0) (hw : I 153 q = nI w) (hq : q < 4) (hw2 : w ≤ 12) (hw0 : 0 < w) (hwy : wy < 2) : vm_K l X vm_M271 [.ref 152, .int (nI q), .int (nI p), .int (nI wy)] (G, I, F) (some (.int (-3))) (G, I, F) := by
  refine vm_K.mk (by decide) (Nat.le_of_ble_eq_true rfl) ?_
  show vm_J _ _ _ (0, (0, 0), [.ref 152, .int (nI q), .int (nI p), .int (nI wy), .retAddr 0, .retAddr 0, .retAddr 0], []) _ _ _
  refine vm_J.go vm_q271 (k := 2) (hs := []) (f' := (2, (0, 0), [.ref 152, .int (nI q), .int (nI p), .int (nI wy), .retAddr 0, .retAddr 0, .retAddr 0], [.int (nI q), .ref 152])) (h' := (G, I, F)) (hs' := []) rfl rfl ?_
  refine vm_J.call vm_q271 (Z := vm_M172) (n := 1) (k := 0) (mi := 172) (pc := 2) (en := (2, .invokevirtual 156, 3, [172, 1313, 0], .null)) rfl trivial rfl rfl vm_z172 (av := [.ref 152, .int (nI q)]) (rest := []) (r_isPic_y (p := q) (w := w) hR (by omega) hw (by omega) (by omega)) ⟨_, _, rfl, rfl, _, 11, _, hR.c152, rfl, rfl, rfl⟩ (Nat.le_of_ble_eq_true rfl) ⟨Nat.le_of_ble_eq_true rfl, Nat.le_of_ble_eq_true rfl⟩ ⟨Nat.le_of_ble_eq_true rfl, Nat.le_of_ble_eq_true rfl⟩ ?_
  show vm_J _ _ _ (5, (0, 0), [.ref 152, .int (nI q), .int (nI p), .int (nI wy), .retAddr 0, .retAddr 0, .retAddr 0], [.int 1]) (G, I, F) _ _
  refine vm_J.go vm_q271 (k := 1) (hs := []) (f' := (bif vm_ic .eq 1 0 then 24 else 8, (0, 0), [.ref 152, .int (nI q), .int (nI p), .int (nI wy), .retAddr 0, .retAddr 0, .retAddr 0], [])) (h' := (G, I, F)) (hs' := []) rfl rfl ?_
  refine vm_J.bF (by decide) ?_
  refine vm_J.go vm_q271 (k := 1) (hs := []) (f' := (9, (0, 0), [.ref 152, .int (nI q), .int (nI p), .int (nI wy), .retAddr 0, .retAddr 0, .retAddr 0], [.int (nI p)])) (h' := (G, I, F)) (hs' := []) rfl rfl ?_
  refine vm_J.call vm_q271 (Z := vm_M173) (n := 1) (k := 1) (mi := 173) (pc := 9) (en := (9, .invokestatic 145, 3, [173, 1453, 0], .null)) rfl trivial rfl rfl vm_z173 (av := [.int (nI p)]) (rest := []) (r_isPalette_y (c := nI p) (vm_bp4 hp)) rfl (Nat.le_of_ble_eq_true rfl) ⟨Nat.le_of_ble_eq_true rfl, Nat.le_of_ble_eq_true rfl⟩ ⟨Nat.le_of_ble_eq_true rfl, Nat.le_of_ble_eq_true rfl⟩ ?_
  show vm_J _ _ _ (12, (0, 0), [.ref 152, .int (nI q), .int (nI p), .int (nI wy), .retAddr 0, .retAddr 0, .retAddr 0], [.int 1]) (G, I, F) _ _
  refine vm_J.go vm_q271 (k := 1) (hs := []) (f' := (bif vm_ic .eq 1 0 then 24 else 15, (0, 0), [.ref 152, .int (nI q), .int (nI p), .int (nI wy), .retAddr 0, .retAddr 0, .retAddr 0], [])) (h' := (G, I, F)) (hs' := []) rfl rfl ?_
  refine vm_J.bF (by decide) ?_
  refine vm_J.go vm_q271 (k := 3) (hs := []) (f' := (18, (0, 0), [.ref 152, .int (nI q), .int (nI p), .int (nI wy), .retAddr 0, .retAddr 0, .retAddr 0], [.int 1, .int 0, .int (nI wy)])) (h' := (G, I, F)) (hs' := []) rfl rfl ?_
  refine vm_J.call vm_q271 (Z := vm_M168) (n := 3) (k := 1) (mi := 168) (pc := 18) (en := (18, .invokestatic 141, 3, [168, 1302, 0], .null)) rfl trivial rfl rfl vm_z168 (av := [.int (nI wy), .int 0, .int 1]) (rest := []) (r_isIn_y (v := nI wy) (a := 0) (b := 1) (vm_bpn (m := 1) (by omega) rfl (by decide))) rfl (Nat.le_of_ble_eq_true rfl) ⟨Nat.le_of_ble_eq_true rfl, Nat.le_of_ble_eq_true rfl⟩ ⟨Nat.le_of_ble_eq_true rfl, Nat.le_of_ble_eq_true rfl⟩ ?_
  show vm_J _ _ _ (21, (0, 0), [.ref 152, .int (nI q), .int (nI p), .int (nI wy), .retAddr 0, .retAddr 0, .retAddr 0], [.int 1]) (G, I, F) _ _
  refine vm_J.go vm_q271 (k := 1) (hs := []) (f' := (bif vm_ic .ne 1 0 then 26 else 24, (0, 0), [.ref 152, .int (nI q), .int (nI p), .int (nI wy), .retAddr 0, .retAddr 0, .retAddr 0], [])) (h' := (G, I, F)) (hs' := []) rfl rfl ?_
  refine vm_J.bT (by decide) ?_
  refine vm_J.go vm_q271 (k := 4) (hs := [vm_shR, (0, 4, [])]) (f' := (32, (0, 0), [.ref 152, .int (nI q), .int (nI p), .int (nI wy), .retAddr 0, .retAddr 0, .retAddr 0], [.int (I 156 (nI p).toNatClampNeg)])) (h' := (G, I, F)) (hs' := []) rfl (vm_b2 rfl (vm_b2 (vm_b2 (vm_hG hR.c152) rfl) (vm_b2 rfl (vm_b2 (vm_b2 (vm_hG hR.c156) (vm_in_e (j := p) (n := 4) rfl (by omega) (by omega))) rfl)))) ?_
  rw [vm_ix_e (j := p) rfl (by omega)]
  rw [(hn : I 156 p = nI n)]
  refine vm_J.go vm_q271 (k := 1) (hs := []) (f' := (bif vm_ic .ne (nI n) 0 then 38 else 35, (0, 0), [.ref 152, .int (nI q), .int (nI p), .int (nI wy), .retAddr 0, .retAddr 0, .retAddr 0], [])) (h' := (G, I, F)) (hs' := []) rfl rfl ?_
  refine vm_J.br (fun c1 => ?_) (fun c1 => ?_)
  · have c1 := vm_ne_t (a := n) (b := 0) (by omega) (by omega) c1
    exact (show False by omega).elim
  · have c1 := vm_ne_f (a := n) (b := 0) (by omega) (by omega) c1
    refine vm_J.go vm_q271 (k := 1) (hs := []) (f' := (37, (0, 0), [.ref 152, .int (nI q), .int (nI p), .int (nI wy), .retAddr 0, .retAddr 0, .retAddr 0], [.int (-3)])) (h' := (G, I, F)) (hs' := []) rfl rfl ?_
    exact vm_J.end vm_q271 (en := (37, .ireturn, 1, [], .null)) rfl rfl vm_rI (Nat.zero_le _) (Nat.zero_le _) rfl
set_option maxHeartbeats 4000000 in
set_option maxRecDepth 20000 in
/-- DitherDeskModel.fits -/
theorem r_fits_f {l : Launch} {X : vm_Cx} {G : List vm_Sh} {I : Nat → Nat → Int32} {F : Nat → Nat → UInt32} {p : Nat} {q : Nat} {w : Nat} {n : Nat} {wy : Nat} {u : Nat} (hR : vm_isR G) (hp : p < 4) (hn : I 156 p = nI n) (hn0 : 0 < n) (hn2 : n ≤ 16) (hw : I 153 q = nI w) (hq : q < 4) (hw2 : w ≤ 12) (hw0 : 0 < w) (hwy : wy < 2) (hu : I 152 10 = nI u) (hv : 6000 < u + 64) (hv2 : u ≤ 6000) : vm_K l X vm_M271 [.ref 152, .int (nI q), .int (nI p), .int (nI wy)] (G, I, F) (some (.int (-4))) (G, I, F) := by
  refine vm_K.mk (by decide) (Nat.le_of_ble_eq_true rfl) ?_
  show vm_J _ _ _ (0, (0, 0), [.ref 152, .int (nI q), .int (nI p), .int (nI wy), .retAddr 0, .retAddr 0, .retAddr 0], []) _ _ _
  refine vm_J.go vm_q271 (k := 2) (hs := []) (f' := (2, (0, 0), [.ref 152, .int (nI q), .int (nI p), .int (nI wy), .retAddr 0, .retAddr 0, .retAddr 0], [.int (nI q), .ref 152])) (h' := (G, I, F)) (hs' := []) rfl rfl ?_
  refine vm_J.call vm_q271 (Z := vm_M172) (n := 1) (k := 0) (mi := 172) (pc := 2) (en := (2, .invokevirtual 156, 3, [172, 1313, 0], .null)) rfl trivial rfl rfl vm_z172 (av := [.ref 152, .int (nI q)]) (rest := []) (r_isPic_y (p := q) (w := w) hR (by omega) hw (by omega) (by omega)) ⟨_, _, rfl, rfl, _, 11, _, hR.c152, rfl, rfl, rfl⟩ (Nat.le_of_ble_eq_true rfl) ⟨Nat.le_of_ble_eq_true rfl, Nat.le_of_ble_eq_true rfl⟩ ⟨Nat.le_of_ble_eq_true rfl, Nat.le_of_ble_eq_true rfl⟩ ?_
  show vm_J _ _ _ (5, (0, 0), [.ref 152, .int (nI q), .int (nI p), .int (nI wy), .retAddr 0, .retAddr 0, .retAddr 0], [.int 1]) (G, I, F) _ _
  refine vm_J.go vm_q271 (k := 1) (hs := []) (f' := (bif vm_ic .eq 1 0 then 24 else 8, (0, 0), [.ref 152, .int (nI q), .int (nI p), .int (nI wy), .retAddr 0, .retAddr 0, .retAddr 0], [])) (h' := (G, I, F)) (hs' := []) rfl rfl ?_
  refine vm_J.bF (by decide) ?_
  refine vm_J.go vm_q271 (k := 1) (hs := []) (f' := (9, (0, 0), [.ref 152, .int (nI q), .int (nI p), .int (nI wy), .retAddr 0, .retAddr 0, .retAddr 0], [.int (nI p)])) (h' := (G, I, F)) (hs' := []) rfl rfl ?_
  refine vm_J.call vm_q271 (Z := vm_M173) (n := 1) (k := 1) (mi := 173) (pc := 9) (en := (9, .invokestatic 145, 3, [173, 1453, 0], .null)) rfl trivial rfl rfl vm_z173 (av := [.int (nI p)]) (rest := []) (r_isPalette_y (c := nI p) (vm_bp4 hp)) rfl (Nat.le_of_ble_eq_true rfl) ⟨Nat.le_of_ble_eq_true rfl, Nat.le_of_ble_eq_true rfl⟩ ⟨Nat.le_of_ble_eq_true rfl, Nat.le_of_ble_eq_true rfl⟩ ?_
  show vm_J _ _ _ (12, (0, 0), [.ref 152, .int (nI q), .int (nI p), .int (nI wy), .retAddr 0, .retAddr 0, .retAddr 0], [.int 1]) (G, I, F) _ _
  refine vm_J.go vm_q271 (k := 1) (hs := []) (f' := (bif vm_ic .eq 1 0 then 24 else 15, (0, 0), [.ref 152, .int (nI q), .int (nI p), .int (nI wy), .retAddr 0, .retAddr 0, .retAddr 0], [])) (h' := (G, I, F)) (hs' := []) rfl rfl ?_
  refine vm_J.bF (by decide) ?_
  refine vm_J.go vm_q271 (k := 3) (hs := []) (f' := (18, (0, 0), [.ref 152, .int (nI q), .int (nI p), .int (nI wy), .retAddr 0, .retAddr 0, .retAddr 0], [.int 1, .int 0, .int (nI wy)])) (h' := (G, I, F)) (hs' := []) rfl rfl ?_
  refine vm_J.call vm_q271 (Z := vm_M168) (n := 3) (k := 1) (mi := 168) (pc := 18) (en := (18, .invokestatic 141, 3, [168, 1302, 0], .null)) rfl trivial rfl rfl vm_z168 (av := [.int (nI wy), .int 0, .int 1]) (rest := []) (r_isIn_y (v := nI wy) (a := 0) (b := 1) (vm_bpn (m := 1) (by omega) rfl (by decide))) rfl (Nat.le_of_ble_eq_true rfl) ⟨Nat.le_of_ble_eq_true rfl, Nat.le_of_ble_eq_true rfl⟩ ⟨Nat.le_of_ble_eq_true rfl, Nat.le_of_ble_eq_true rfl⟩ ?_
  show vm_J _ _ _ (21, (0, 0), [.ref 152, .int (nI q), .int (nI p), .int (nI wy), .retAddr 0, .retAddr 0, .retAddr 0], [.int 1]) (G, I, F) _ _
  refine vm_J.go vm_q271 (k := 1) (hs := []) (f' := (bif vm_ic .ne 1 0 then 26 else 24, (0, 0), [.ref 152, .int (nI q), .int (nI p), .int (nI wy), .retAddr 0, .retAddr 0, .retAddr 0], [])) (h' := (G, I, F)) (hs' := []) rfl rfl ?_
  refine vm_J.bT (by decide) ?_
  refine vm_J.go vm_q271 (k := 4) (hs := [vm_shR, (0, 4, [])]) (f' := (32, (0, 0), [.ref 152, .int (nI q), .int (nI p), .int (nI wy), .retAddr 0, .retAddr 0, .retAddr 0], [.int (I 156 (nI p).toNatClampNeg)])) (h' := (G, I, F)) (hs' := []) rfl (vm_b2 rfl (vm_b2 (vm_b2 (vm_hG hR.c152) rfl) (vm_b2 rfl (vm_b2 (vm_b2 (vm_hG hR.c156) (vm_in_e (j := p) (n := 4) rfl (by omega) (by omega))) rfl)))) ?_
  rw [vm_ix_e (j := p) rfl (by omega)]
  rw [(hn : I 156 p = nI n)]
  refine vm_J.go vm_q271 (k := 1) (hs := []) (f' := (bif vm_ic .ne (nI n) 0 then 38 else 35, (0, 0), [.ref 152, .int (nI q), .int (nI p), .int (nI wy), .retAddr 0, .retAddr 0, .retAddr 0], [])) (h' := (G, I, F)) (hs' := []) rfl rfl ?_
  refine vm_J.br (fun c1 => ?_) (fun c1 => ?_)
  · have c1 := vm_ne_t (a := n) (b := 0) (by omega) (by omega) c1
    refine vm_J.go vm_q271 (k := 2) (hs := []) (f' := (41, (0, 0), [.ref 152, .int (nI q), .int (nI p), .int (nI wy), .retAddr 0, .retAddr 0, .retAddr 0], [.int 64, .ref 152])) (h' := (G, I, F)) (hs' := []) rfl rfl ?_
    refine vm_J.call vm_q271 (Z := vm_M178) (n := 1) (k := 0) (mi := 178) (pc := 41) (en := (41, .invokevirtual 304, 3, [178, 1528, 0], .null)) rfl trivial rfl rfl vm_z178 (av := [.ref 152, .int 64]) (rest := []) (r_works_n (u := u) (k := 64) hR hu hv (by omega) (by omega)) ⟨_, _, rfl, rfl, _, 11, _, hR.c152, rfl, rfl, rfl⟩ (Nat.le_of_ble_eq_true rfl) ⟨Nat.le_of_ble_eq_true rfl, Nat.le_of_ble_eq_true rfl⟩ ⟨Nat.le_of_ble_eq_true rfl, Nat.le_of_ble_eq_true rfl⟩ ?_
    show vm_J _ _ _ (44, (0, 0), [.ref 152, .int (nI q), .int (nI p), .int (nI wy), .retAddr 0, .retAddr 0, .retAddr 0], [.int 0]) (G, I, F) _ _
    refine vm_J.go vm_q271 (k := 1) (hs := []) (f' := (bif vm_ic .ne 0 0 then 50 else 47, (0, 0), [.ref 152, .int (nI q), .int (nI p), .int (nI wy), .retAddr 0, .retAddr 0, .retAddr 0], [])) (h' := (G, I, F)) (hs' := []) rfl rfl ?_
    refine vm_J.bF (by decide) ?_
    refine vm_J.go vm_q271 (k := 1) (hs := []) (f' := (49, (0, 0), [.ref 152, .int (nI q), .int (nI p), .int (nI wy), .retAddr 0, .retAddr 0, .retAddr 0], [.int (-4)])) (h' := (G, I, F)) (hs' := []) rfl rfl ?_
    exact vm_J.end vm_q271 (en := (49, .ireturn, 1, [], .null)) rfl rfl vm_rI (Nat.zero_le _) (Nat.zero_le _) rfl
  · have c1 := vm_ne_f (a := n) (b := 0) (by omega) (by omega) c1
    exact (show False by omega).elim
set_option maxHeartbeats 4000000 in
set_option maxRecDepth 20000 in
/-- DitherDeskModel.spared -/
theorem r_spared_b {l : Launch} {X : vm_Cx} {G : List vm_Sh} {I : Nat → Nat → Int32} {F : Nat → Nat → UInt32} {p : Nat} {q : Nat} {w : Nat} {k : Int32} (hR : vm_isR G) (hp : p < 4) (hw : I 153 q = nI w) (hq : q < 4) (hw2 : w ≤ 12) (hw0 : 0 < w) (hk : ¬ (0 ≤ k ∧ k ≤ 1)) : vm_K l X vm_M281 [.ref 152, .int (nI q), .int (nI p), .int k] (G, I, F) (some (.int (-1))) (G, I, F) := by
  refine vm_K.mk (by decide) (Nat.le_of_ble_eq_true rfl) ?_
  show vm_J _ _ _ (0, (0, 0), [.ref 152, .int (nI q), .int (nI p), .int k, .retAddr 0, .retAddr 0, .retAddr 0, .retAddr 0], []) _ _ _
  refine vm_J.go vm_q281 (k := 2) (hs := []) (f' := (2, (0, 0), [.ref 152, .int (nI q), .int (nI p), .int k, .retAddr 0, .retAddr 0, .retAddr 0, .retAddr 0], [.int (nI q), .ref 152])) (h' := (G, I, F)) (hs' := []) rfl rfl ?_
  refine vm_J.call vm_q281 (Z := vm_M172) (n := 1) (k := 0) (mi := 172) (pc := 2) (en := (2, .invokevirtual 156, 3, [172, 1313, 0], .null)) rfl trivial rfl rfl vm_z172 (av := [.ref 152, .int (nI q)]) (rest := []) (r_isPic_y (p := q) (w := w) hR (by omega) hw (by omega) (by omega)) ⟨_, _, rfl, rfl, _, 11, _, hR.c152, rfl, rfl, rfl⟩ (Nat.le_of_ble_eq_true rfl) ⟨Nat.le_of_ble_eq_true rfl, Nat.le_of_ble_eq_true rfl⟩ ⟨Nat.le_of_ble_eq_true rfl, Nat.le_of_ble_eq_true rfl⟩ ?_
  show vm_J _ _ _ (5, (0, 0), [.ref 152, .int (nI q), .int (nI p), .int k, .retAddr 0, .retAddr 0, .retAddr 0, .retAddr 0], [.int 1]) (G, I, F) _ _
  refine vm_J.go vm_q281 (k := 1) (hs := []) (f' := (bif vm_ic .eq 1 0 then 24 else 8, (0, 0), [.ref 152, .int (nI q), .int (nI p), .int k, .retAddr 0, .retAddr 0, .retAddr 0, .retAddr 0], [])) (h' := (G, I, F)) (hs' := []) rfl rfl ?_
  refine vm_J.bF (by decide) ?_
  refine vm_J.go vm_q281 (k := 1) (hs := []) (f' := (9, (0, 0), [.ref 152, .int (nI q), .int (nI p), .int k, .retAddr 0, .retAddr 0, .retAddr 0, .retAddr 0], [.int (nI p)])) (h' := (G, I, F)) (hs' := []) rfl rfl ?_
  refine vm_J.call vm_q281 (Z := vm_M173) (n := 1) (k := 1) (mi := 173) (pc := 9) (en := (9, .invokestatic 145, 3, [173, 1453, 0], .null)) rfl trivial rfl rfl vm_z173 (av := [.int (nI p)]) (rest := []) (r_isPalette_y (c := nI p) (vm_bp4 hp)) rfl (Nat.le_of_ble_eq_true rfl) ⟨Nat.le_of_ble_eq_true rfl, Nat.le_of_ble_eq_true rfl⟩ ⟨Nat.le_of_ble_eq_true rfl, Nat.le_of_ble_eq_true rfl⟩ ?_
  show vm_J _ _ _ (12, (0, 0), [.ref 152, .int (nI q), .int (nI p), .int k, .retAddr 0, .retAddr 0, .retAddr 0, .retAddr 0], [.int 1]) (G, I, F) _ _
  refine vm_J.go vm_q281 (k := 1) (hs := []) (f' := (bif vm_ic .eq 1 0 then 24 else 15, (0, 0), [.ref 152, .int (nI q), .int (nI p), .int k, .retAddr 0, .retAddr 0, .retAddr 0, .retAddr 0], [])) (h' := (G, I, F)) (hs' := []) rfl rfl ?_
  refine vm_J.bF (by decide) ?_
  refine vm_J.go vm_q281 (k := 3) (hs := []) (f' := (18, (0, 0), [.ref 152, .int (nI q), .int (nI p), .int k, .retAddr 0, .retAddr 0, .retAddr 0, .retAddr 0], [.int 1, .int 0, .int k])) (h' := (G, I, F)) (hs' := []) rfl rfl ?_
  refine vm_J.call vm_q281 (Z := vm_M168) (n := 3) (k := 1) (mi := 168) (pc := 18) (en := (18, .invokestatic 141, 3, [168, 1302, 0], .null)) rfl trivial rfl rfl vm_z168 (av := [.int k, .int 0, .int 1]) (rest := []) (r_isIn_n (v := k) (a := 0) (b := 1) hk) rfl (Nat.le_of_ble_eq_true rfl) ⟨Nat.le_of_ble_eq_true rfl, Nat.le_of_ble_eq_true rfl⟩ ⟨Nat.le_of_ble_eq_true rfl, Nat.le_of_ble_eq_true rfl⟩ ?_
  show vm_J _ _ _ (21, (0, 0), [.ref 152, .int (nI q), .int (nI p), .int k, .retAddr 0, .retAddr 0, .retAddr 0, .retAddr 0], [.int 0]) (G, I, F) _ _
  refine vm_J.go vm_q281 (k := 1) (hs := []) (f' := (bif vm_ic .ne 0 0 then 26 else 24, (0, 0), [.ref 152, .int (nI q), .int (nI p), .int k, .retAddr 0, .retAddr 0, .retAddr 0, .retAddr 0], [])) (h' := (G, I, F)) (hs' := []) rfl rfl ?_
  refine vm_J.bF (by decide) ?_
  refine vm_J.go vm_q281 (k := 1) (hs := []) (f' := (25, (0, 0), [.ref 152, .int (nI q), .int (nI p), .int k, .retAddr 0, .retAddr 0, .retAddr 0, .retAddr 0], [.int (-1)])) (h' := (G, I, F)) (hs' := []) rfl rfl ?_
  exact vm_J.end vm_q281 (en := (25, .ireturn, 1, [], .null)) rfl rfl vm_rI (Nat.zero_le _) (Nat.zero_le _) rfl
set_option maxHeartbeats 4000000 in
set_option maxRecDepth 20000 in
/-- DitherDeskModel.spared -/
theorem r_spared_f {l : Launch} {X : vm_Cx} {G : List vm_Sh} {I : Nat → Nat → Int32} {F : Nat → Nat → UInt32} {p : Nat} {q : Nat} {w : Nat} {wy : Nat} {u : Nat} (hR : vm_isR G) (hp : p < 4) (hw : I 153 q = nI w) (hq : q < 4) (hw2 : w ≤ 12) (hw0 : 0 < w) (hwy : wy < 2) (hu : I 152 10 = nI u) (hv : 6000 < u + 17) (hv2 : u ≤ 6000) : vm_K l X vm_M281 [.ref 152, .int (nI q), .int (nI p), .int (nI wy)] (G, I, F) (some (.int (-4))) (G, I, F) := by
  refine vm_K.mk (by decide) (Nat.le_of_ble_eq_true rfl) ?_
  show vm_J _ _ _ (0, (0, 0), [.ref 152, .int (nI q), .int (nI p), .int (nI wy), .retAddr 0, .retAddr 0, .retAddr 0, .retAddr 0], []) _ _ _
  refine vm_J.go vm_q281 (k := 2) (hs := []) (f' := (2, (0, 0), [.ref 152, .int (nI q), .int (nI p), .int (nI wy), .retAddr 0, .retAddr 0, .retAddr 0, .retAddr 0], [.int (nI q), .ref 152])) (h' := (G, I, F)) (hs' := []) rfl rfl ?_
  refine vm_J.call vm_q281 (Z := vm_M172) (n := 1) (k := 0) (mi := 172) (pc := 2) (en := (2, .invokevirtual 156, 3, [172, 1313, 0], .null)) rfl trivial rfl rfl vm_z172 (av := [.ref 152, .int (nI q)]) (rest := []) (r_isPic_y (p := q) (w := w) hR (by omega) hw (by omega) (by omega)) ⟨_, _, rfl, rfl, _, 11, _, hR.c152, rfl, rfl, rfl⟩ (Nat.le_of_ble_eq_true rfl) ⟨Nat.le_of_ble_eq_true rfl, Nat.le_of_ble_eq_true rfl⟩ ⟨Nat.le_of_ble_eq_true rfl, Nat.le_of_ble_eq_true rfl⟩ ?_
  show vm_J _ _ _ (5, (0, 0), [.ref 152, .int (nI q), .int (nI p), .int (nI wy), .retAddr 0, .retAddr 0, .retAddr 0, .retAddr 0], [.int 1]) (G, I, F) _ _
  refine vm_J.go vm_q281 (k := 1) (hs := []) (f' := (bif vm_ic .eq 1 0 then 24 else 8, (0, 0), [.ref 152, .int (nI q), .int (nI p), .int (nI wy), .retAddr 0, .retAddr 0, .retAddr 0, .retAddr 0], [])) (h' := (G, I, F)) (hs' := []) rfl rfl ?_
  refine vm_J.bF (by decide) ?_
  refine vm_J.go vm_q281 (k := 1) (hs := []) (f' := (9, (0, 0), [.ref 152, .int (nI q), .int (nI p), .int (nI wy), .retAddr 0, .retAddr 0, .retAddr 0, .retAddr 0], [.int (nI p)])) (h' := (G, I, F)) (hs' := []) rfl rfl ?_
  refine vm_J.call vm_q281 (Z := vm_M173) (n := 1) (k := 1) (mi := 173) (pc := 9) (en := (9, .invokestatic 145, 3, [173, 1453, 0], .null)) rfl trivial rfl rfl vm_z173 (av := [.int (nI p)]) (rest := []) (r_isPalette_y (c := nI p) (vm_bp4 hp)) rfl (Nat.le_of_ble_eq_true rfl) ⟨Nat.le_of_ble_eq_true rfl, Nat.le_of_ble_eq_true rfl⟩ ⟨Nat.le_of_ble_eq_true rfl, Nat.le_of_ble_eq_true rfl⟩ ?_
  show vm_J _ _ _ (12, (0, 0), [.ref 152, .int (nI q), .int (nI p), .int (nI wy), .retAddr 0, .retAddr 0, .retAddr 0, .retAddr 0], [.int 1]) (G, I, F) _ _
  refine vm_J.go vm_q281 (k := 1) (hs := []) (f' := (bif vm_ic .eq 1 0 then 24 else 15, (0, 0), [.ref 152, .int (nI q), .int (nI p), .int (nI wy), .retAddr 0, .retAddr 0, .retAddr 0, .retAddr 0], [])) (h' := (G, I, F)) (hs' := []) rfl rfl ?_
  refine vm_J.bF (by decide) ?_
  refine vm_J.go vm_q281 (k := 3) (hs := []) (f' := (18, (0, 0), [.ref 152, .int (nI q), .int (nI p), .int (nI wy), .retAddr 0, .retAddr 0, .retAddr 0, .retAddr 0], [.int 1, .int 0, .int (nI wy)])) (h' := (G, I, F)) (hs' := []) rfl rfl ?_
  refine vm_J.call vm_q281 (Z := vm_M168) (n := 3) (k := 1) (mi := 168) (pc := 18) (en := (18, .invokestatic 141, 3, [168, 1302, 0], .null)) rfl trivial rfl rfl vm_z168 (av := [.int (nI wy), .int 0, .int 1]) (rest := []) (r_isIn_y (v := nI wy) (a := 0) (b := 1) (vm_bpn (m := 1) (by omega) rfl (by decide))) rfl (Nat.le_of_ble_eq_true rfl) ⟨Nat.le_of_ble_eq_true rfl, Nat.le_of_ble_eq_true rfl⟩ ⟨Nat.le_of_ble_eq_true rfl, Nat.le_of_ble_eq_true rfl⟩ ?_
  show vm_J _ _ _ (21, (0, 0), [.ref 152, .int (nI q), .int (nI p), .int (nI wy), .retAddr 0, .retAddr 0, .retAddr 0, .retAddr 0], [.int 1]) (G, I, F) _ _
  refine vm_J.go vm_q281 (k := 1) (hs := []) (f' := (bif vm_ic .ne 1 0 then 26 else 24, (0, 0), [.ref 152, .int (nI q), .int (nI p), .int (nI wy), .retAddr 0, .retAddr 0, .retAddr 0, .retAddr 0], [])) (h' := (G, I, F)) (hs' := []) rfl rfl ?_
  refine vm_J.bT (by decide) ?_
  refine vm_J.go vm_q281 (k := 2) (hs := []) (f' := (29, (0, 0), [.ref 152, .int (nI q), .int (nI p), .int (nI wy), .retAddr 0, .retAddr 0, .retAddr 0, .retAddr 0], [.int 17, .ref 152])) (h' := (G, I, F)) (hs' := []) rfl rfl ?_
  refine vm_J.call vm_q281 (Z := vm_M178) (n := 1) (k := 0) (mi := 178) (pc := 29) (en := (29, .invokevirtual 304, 3, [178, 1528, 0], .null)) rfl trivial rfl rfl vm_z178 (av := [.ref 152, .int 17]) (rest := []) (r_works_n (u := u) (k := 17) hR hu hv (by omega) (by omega)) ⟨_, _, rfl, rfl, _, 11, _, hR.c152, rfl, rfl, rfl⟩ (Nat.le_of_ble_eq_true rfl) ⟨Nat.le_of_ble_eq_true rfl, Nat.le_of_ble_eq_true rfl⟩ ⟨Nat.le_of_ble_eq_true rfl, Nat.le_of_ble_eq_true rfl⟩ ?_
  show vm_J _ _ _ (32, (0, 0), [.ref 152, .int (nI q), .int (nI p), .int (nI wy), .retAddr 0, .retAddr 0, .retAddr 0, .retAddr 0], [.int 0]) (G, I, F) _ _
  refine vm_J.go vm_q281 (k := 1) (hs := []) (f' := (bif vm_ic .ne 0 0 then 38 else 35, (0, 0), [.ref 152, .int (nI q), .int (nI p), .int (nI wy), .retAddr 0, .retAddr 0, .retAddr 0, .retAddr 0], [])) (h' := (G, I, F)) (hs' := []) rfl rfl ?_
  refine vm_J.bF (by decide) ?_
  refine vm_J.go vm_q281 (k := 1) (hs := []) (f' := (37, (0, 0), [.ref 152, .int (nI q), .int (nI p), .int (nI wy), .retAddr 0, .retAddr 0, .retAddr 0, .retAddr 0], [.int (-4)])) (h' := (G, I, F)) (hs' := []) rfl rfl ?_
  exact vm_J.end vm_q281 (en := (37, .ireturn, 1, [], .null)) rfl rfl vm_rI (Nat.zero_le _) (Nat.zero_le _) rfl
set_option maxHeartbeats 4000000 in
set_option maxRecDepth 20000 in
/-- DitherDeskModel.make -/
theorem r_make_y {l : Launch} {X : vm_Cx} {G : List vm_Sh} {I : Nat → Nat → Int32} {F : Nat → Nat → UInt32} {q : Nat} {p : Nat} {n : Nat} {w : Nat} {h : Nat} {kn : Nat} {g : Nat} {k : Nat} {wy : Nat} {u : Nat} {m : Int32} (hR : vm_isR G) (hn : I 156 p = nI n) (hp : p < 4) (hn0 : 0 < n) (hn2 : n ≤ 16) (hw : I 153 q = nI w) (hh : I 154 q = nI h) (hq : q < 4) (hw2 : w ≤ 12) (hh2 : h ≤ 12) (hw0 : 0 < w) (hkn : I 152 7 = nI kn) (hkn2 : kn < 5) (hg : I 152 9 = nI g) (hg2 : g ≤ 63) (hk : I 152 8 = nI k) (hk2 : k < 3) (hlo : ∀ i_, i_ < 6 → vf_ok (F 179 i_)) (hz : I 152 6 = m) (hm : m = 0 ∨ m = 1 ∨ m = 2 ∨ m = 3) (hwy : wy < 5) (hu : I 152 10 = nI u) (hv : u + 1 ≤ 6000) : vm_K l X vm_M263 [.ref 152, .int (nI q), .int (nI p), .int (nI wy)] (G, I, F) (some (.int (sp_sum (fun e => if 0 < sp_sum (fun y => if (rv_mk ((vm_up (vm_up I 152 10 (nI (u + 1))) 152 40 0), F) q p n 0 w h kn g k wy m).1 177 (144 * 0 + y) = nI e then 1 else 0) (w * h) then 1 else 0) 16))) (G, ((rv_mk ((vm_up (vm_up I 152 10 (nI (u + 1))) 152 40 0), F) q p n 0 w h kn g k wy m).1), ((rv_mk ((vm_up (vm_up I 152 10 (nI (u + 1))) 152 40 0), F) q p n 0 w h kn g k wy m).2)) := by
  refine vm_K.mk (by decide) (Nat.le_of_ble_eq_true rfl) ?_
  show vm_J _ _ _ (0, (0, 0), [.ref 152, .int (nI q), .int (nI p), .int (nI wy)], []) _ _ _
  refine vm_J.go vm_q263 (k := 2) (hs := []) (f' := (2, (0, 0), [.ref 152, .int (nI q), .int (nI p), .int (nI wy)], [.int (nI q), .ref 152])) (h' := (G, I, F)) (hs' := []) rfl rfl ?_
  refine vm_J.call vm_q263 (Z := vm_M172) (n := 1) (k := 0) (mi := 172) (pc := 2) (en := (2, .invokevirtual 156, 3, [172, 1313, 0], .null)) rfl trivial rfl rfl vm_z172 (av := [.ref 152, .int (nI q)]) (rest := []) (r_isPic_y (p := q) (w := w) hR (by omega) hw (by omega) (by omega)) ⟨_, _, rfl, rfl, _, 11, _, hR.c152, rfl, rfl, rfl⟩ (Nat.le_of_ble_eq_true rfl) ⟨Nat.le_of_ble_eq_true rfl, Nat.le_of_ble_eq_true rfl⟩ ⟨Nat.le_of_ble_eq_true rfl, Nat.le_of_ble_eq_true rfl⟩ ?_
  show vm_J _ _ _ (5, (0, 0), [.ref 152, .int (nI q), .int (nI p), .int (nI wy)], [.int 1]) (G, I, F) _ _
  refine vm_J.go vm_q263 (k := 1) (hs := []) (f' := (bif vm_ic .eq 1 0 then 15 else 8, (0, 0), [.ref 152, .int (nI q), .int (nI p), .int (nI wy)], [])) (h' := (G, I, F)) (hs' := []) rfl rfl ?_
  refine vm_J.bF (by decide) ?_
  refine vm_J.go vm_q263 (k := 1) (hs := []) (f' := (9, (0, 0), [.ref 152, .int (nI q), .int (nI p), .int (nI wy)], [.int (nI p)])) (h' := (G, I, F)) (hs' := []) rfl rfl ?_
  refine vm_J.call vm_q263 (Z := vm_M173) (n := 1) (k := 1) (mi := 173) (pc := 9) (en := (9, .invokestatic 145, 3, [173, 1453, 0], .null)) rfl trivial rfl rfl vm_z173 (av := [.int (nI p)]) (rest := []) (r_isPalette_y (c := nI p) (vm_bp4 hp)) rfl (Nat.le_of_ble_eq_true rfl) ⟨Nat.le_of_ble_eq_true rfl, Nat.le_of_ble_eq_true rfl⟩ ⟨Nat.le_of_ble_eq_true rfl, Nat.le_of_ble_eq_true rfl⟩ ?_
  show vm_J _ _ _ (12, (0, 0), [.ref 152, .int (nI q), .int (nI p), .int (nI wy)], [.int 1]) (G, I, F) _ _
  refine vm_J.go vm_q263 (k := 1) (hs := []) (f' := (bif vm_ic .ne 1 0 then 17 else 15, (0, 0), [.ref 152, .int (nI q), .int (nI p), .int (nI wy)], [])) (h' := (G, I, F)) (hs' := []) rfl rfl ?_
  refine vm_J.bT (by decide) ?_
  refine vm_J.go vm_q263 (k := 3) (hs := []) (f' := (20, (0, 0), [.ref 152, .int (nI q), .int (nI p), .int (nI wy)], [.int 4, .int 0, .int (nI wy)])) (h' := (G, I, F)) (hs' := []) rfl rfl ?_
  refine vm_J.call vm_q263 (Z := vm_M168) (n := 3) (k := 1) (mi := 168) (pc := 20) (en := (20, .invokestatic 141, 3, [168, 1302, 0], .null)) rfl trivial rfl rfl vm_z168 (av := [.int (nI wy), .int 0, .int 4]) (rest := []) (r_isIn_y (v := nI wy) (a := 0) (b := 4) (vm_bpn (m := 4) (by omega) rfl (by decide))) rfl (Nat.le_of_ble_eq_true rfl) ⟨Nat.le_of_ble_eq_true rfl, Nat.le_of_ble_eq_true rfl⟩ ⟨Nat.le_of_ble_eq_true rfl, Nat.le_of_ble_eq_true rfl⟩ ?_
  show vm_J _ _ _ (23, (0, 0), [.ref 152, .int (nI q), .int (nI p), .int (nI wy)], [.int 1]) (G, I, F) _ _
  refine vm_J.go vm_q263 (k := 1) (hs := []) (f' := (bif vm_ic .ne 1 0 then 29 else 26, (0, 0), [.ref 152, .int (nI q), .int (nI p), .int (nI wy)], [])) (h' := (G, I, F)) (hs' := []) rfl rfl ?_
  refine vm_J.bT (by decide) ?_
  refine vm_J.go vm_q263 (k := 4) (hs := [vm_shR, (0, 4, [])]) (f' := (35, (0, 0), [.ref 152, .int (nI q), .int (nI p), .int (nI wy)], [.int (I 156 (nI p).toNatClampNeg)])) (h' := (G, I, F)) (hs' := []) rfl (vm_b2 rfl (vm_b2 (vm_b2 (vm_hG hR.c152) rfl) (vm_b2 rfl (vm_b2 (vm_b2 (vm_hG hR.c156) (vm_in_e (j := p) (n := 4) rfl (by omega) (by omega))) rfl)))) ?_
  rw [vm_ix_e (j := p) rfl (by omega)]
  rw [(hn : I 156 p = nI n)]
  refine vm_J.go vm_q263 (k := 1) (hs := []) (f' := (bif vm_ic .ne (nI n) 0 then 41 else 38, (0, 0), [.ref 152, .int (nI q), .int (nI p), .int (nI wy)], [])) (h' := (G, I, F)) (hs' := []) rfl rfl ?_
  refine vm_J.br (fun c1 => ?_) (fun c1 => ?_)
  · have c1 := vm_ne_t (a := n) (b := 0) (by omega) (by omega) c1
    refine vm_J.go vm_q263 (k := 2) (hs := []) (f' := (43, (0, 0), [.ref 152, .int (nI q), .int (nI p), .int (nI wy)], [.int 1, .ref 152])) (h' := (G, I, F)) (hs' := []) rfl rfl ?_
    refine vm_J.call vm_q263 (Z := vm_M178) (n := 1) (k := 0) (mi := 178) (pc := 43) (en := (43, .invokevirtual 304, 3, [178, 1528, 0], .null)) rfl trivial rfl rfl vm_z178 (av := [.ref 152, .int 1]) (rest := []) (r_works_y (u := u) (k := 1) hR hu hv) ⟨_, _, rfl, rfl, _, 11, _, hR.c152, rfl, rfl, rfl⟩ (Nat.le_of_ble_eq_true rfl) ⟨Nat.le_of_ble_eq_true rfl, Nat.le_of_ble_eq_true rfl⟩ ⟨Nat.le_of_ble_eq_true rfl, Nat.le_of_ble_eq_true rfl⟩ ?_
    show vm_J _ _ _ (46, (0, 0), [.ref 152, .int (nI q), .int (nI p), .int (nI wy)], [.int 1]) (G, (vm_up I 152 10 (nI (u + 1))), F) _ _
    refine vm_J.go vm_q263 (k := 1) (hs := []) (f' := (bif vm_ic .ne 1 0 then 52 else 49, (0, 0), [.ref 152, .int (nI q), .int (nI p), .int (nI wy)], [])) (h' := (G, (vm_up I 152 10 (nI (u + 1))), F)) (hs' := []) rfl rfl ?_
    refine vm_J.bT (by decide) ?_
    refine vm_J.go vm_q263 (k := 7) (hs := [vm_shR]) (f' := (61, (0, 0), [.ref 152, .int (nI q), .int (nI p), .int (nI wy)], [.int (nI wy), .int (nI p), .int (nI q), .ref 152])) (h' := (G, (vm_up (vm_up I 152 10 (nI (u + 1))) 152 40 0), F)) (hs' := []) rfl (vm_b2 rfl (vm_b2 rfl (vm_b2 (vm_b2 (vm_b2 (vm_hG hR.c152) rfl) rfl) (vm_b2 rfl (vm_b2 rfl (vm_b2 rfl (vm_b2 rfl rfl))))))) ?_
    refine vm_J.call vm_q263 (Z := vm_M252) (n := 3) (k := 0) (mi := 252) (pc := 61) (en := (61, .invokevirtual 418, 3, [252, 1583, 0], .null)) rfl trivial rfl rfl vm_z252 (av := [.ref 152, .int (nI q), .int (nI p), .int (nI wy)]) (rest := []) (r_mk (I := (vm_up (vm_up I 152 10 (nI (u + 1))) 152 40 0)) (F := F) (q := q) (p := p) (n := n) (s := 0) (w := w) (h := h) (kn := kn) (g := g) (k := k) (m := m) (wy := wy) hR (Eq.trans (congrFun (vm_up_f _ 152 _ _ 156 (by decide)) p) (Eq.trans (congrFun (vm_up_f _ 152 _ _ 156 (by decide)) p) hn)) (by omega) (by omega) (by omega) (Eq.trans (congrFun (vm_up_f _ 152 _ _ 153 (by decide)) q) (Eq.trans (congrFun (vm_up_f _ 152 _ _ 153 (by decide)) q) hw)) (Eq.trans (congrFun (vm_up_f _ 152 _ _ 154 (by decide)) q) (Eq.trans (congrFun (vm_up_f _ 152 _ _ 154 (by decide)) q) hh)) (by omega) (by omega) (by omega) (vm_up_h _ 152 40 _) (by omega) (Eq.trans (vm_up_k2 _ 152 40 _ 7 (by decide)) (Eq.trans (vm_up_k2 _ 152 10 _ 7 (by decide)) hkn)) (by omega) (Eq.trans (vm_up_k2 _ 152 40 _ 9 (by decide)) (Eq.trans (vm_up_k2 _ 152 10 _ 9 (by decide)) hg)) (by omega) (Eq.trans (vm_up_k2 _ 152 40 _ 8 (by decide)) (Eq.trans (vm_up_k2 _ 152 10 _ 8 (by decide)) hk)) (by omega) hlo (Eq.trans (vm_up_k2 _ 152 40 _ 6 (by decide)) (Eq.trans (vm_up_k2 _ 152 10 _ 6 (by decide)) hz)) hm (by omega)) ⟨_, _, rfl, rfl, _, 11, _, hR.c152, rfl, rfl, rfl⟩ (Nat.le_of_ble_eq_true rfl) ⟨Nat.le_of_ble_eq_true rfl, Nat.le_of_ble_eq_true rfl⟩ ⟨Nat.le_of_ble_eq_true rfl, Nat.le_of_ble_eq_true rfl⟩ ?_
    show vm_J _ _ _ (64, (0, 0), [.ref 152, .int (nI q), .int (nI p), .int (nI wy)], []) (G, ((rv_mk ((vm_up (vm_up I 152 10 (nI (u + 1))) 152 40 0), F) q p n 0 w h kn g k wy m).1), ((rv_mk ((vm_up (vm_up I 152 10 (nI (u + 1))) 152 40 0), F) q p n 0 w h kn g k wy m).2)) _ _
    refine vm_J.go vm_q263 (k := 1) (hs := []) (f' := (65, (0, 0), [.ref 152, .int (nI q), .int (nI p), .int (nI wy)], [.ref 152])) (h' := (G, ((rv_mk ((vm_up (vm_up I 152 10 (nI (u + 1))) 152 40 0), F) q p n 0 w h kn g k wy m).1), ((rv_mk ((vm_up (vm_up I 152 10 (nI (u + 1))) 152 40 0), F) q p n 0 w h kn g k wy m).2))) (hs' := []) rfl rfl ?_
    refine vm_J.call vm_q263 (Z := vm_M261) (n := 0) (k := 0) (mi := 261) (pc := 65) (en := (65, .invokevirtual 421, 3, [261, 1648, 0], .null)) rfl trivial rfl rfl vm_z261 (av := [.ref 152]) (rest := []) (r_unlike (I := ((rv_mk ((vm_up (vm_up I 152 10 (nI (u + 1))) 152 40 0), F) q p n 0 w h kn g k wy m).1)) (F := ((rv_mk ((vm_up (vm_up I 152 10 (nI (u + 1))) 152 40 0), F) q p n 0 w h kn g k wy m).2)) (s := 0) (w := w) (h := h) hR (Eq.trans (congrFun (show (rv_mk ((vm_up (vm_up I 152 10 (nI (u + 1))) 152 40 0), F) q p n 0 w h kn g k wy m).1 152 = (vm_up (vm_up I 152 10 (nI (u + 1))) 152 40 0) 152 from (rv_mk_o _ _ _ _ _ _ _ _ _ _ _ _ 152 (by decide) (by decide) (by decide) (by decide) (by decide) (by decide))) 40) (vm_up_h _ 152 40 _)) (rv_mk_f _ _ _ _ _ _ _ _ _ _ _ _ (by omega)).1 (rv_mk_f _ _ _ _ _ _ _ _ _ _ _ _ (by omega)).2.1 (by omega) (by omega) (by omega)) ⟨_, _, rfl, rfl, _, 11, _, hR.c152, rfl, rfl, rfl⟩ (Nat.le_of_ble_eq_true rfl) ⟨Nat.le_of_ble_eq_true rfl, Nat.le_of_ble_eq_true rfl⟩ ⟨Nat.le_of_ble_eq_true rfl, Nat.le_of_ble_eq_true rfl⟩ ?_
    show vm_J _ _ _ (68, (0, 0), [.ref 152, .int (nI q), .int (nI p), .int (nI wy)], [.int (sp_sum (fun e => if 0 < sp_sum (fun y => if ((rv_mk ((vm_up (vm_up I 152 10 (nI (u + 1))) 152 40 0), F) q p n 0 w h kn g k wy m).1) 177 (144 * 0 + y) = nI e then 1 else 0) (w * h) then 1 else 0) 16)]) (G, ((rv_mk ((vm_up (vm_up I 152 10 (nI (u + 1))) 152 40 0), F) q p n 0 w h kn g k wy m).1), ((rv_mk ((vm_up (vm_up I 152 10 (nI (u + 1))) 152 40 0), F) q p n 0 w h kn g k wy m).2)) _ _
    exact vm_J.end vm_q263 (en := (68, .ireturn, 1, [], .null)) rfl rfl vm_rI (Nat.zero_le _) (Nat.zero_le _) rfl
  · have c1 := vm_ne_f (a := n) (b := 0) (by omega) (by omega) c1
    exact (show False by omega).elim
