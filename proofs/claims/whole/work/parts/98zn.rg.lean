/-- what the reference keeps of palettes, metric and kernel -/
def rv_iv (I : Nat → Nat → Int32) : Prop := (∀ p, p < 4 → ∃ n, n ≤ 16 ∧ I 156 p = nI n) ∧ (∃ m, m < 4 ∧ I 152 6 = nI m) ∧ (∃ kn, kn < 5 ∧ I 152 7 = nI kn)
def rv_N (I : Nat → Nat → Int32) (p : Nat) : Nat := (I 156 p).toNatClampNeg
theorem rv_N_e {I : Nat → Nat → Int32} {p n : Nat} (h : I 156 p = nI n) (hn : n ≤ 16) : rv_N I p = n := by
  unfold rv_N
  rw [h]
  exact vm_toM n (by omega)
/-- the reference follows a row of the plan -/
def rv_gr (I : Nat → Nat → Int32) (w h c n : Nat) : Nat → Nat → Int32 := match c with
  | 0 => if 0 < w ∧ 0 < rv_N I n then vr_R I n 0 (rv_N I n) (w * h) (I 152 6) else I
  | 1 => vm_up I 152 6 (nI n)
  | 2 => vm_up I 152 7 (nI n)
  | _ => if n < rv_N I 0 ∧ I 158 n = 0 then vm_rm (vm_up I 156 0 (nI (rv_N I 0 - 1))) 157 158 (16 * 0 + n) (rv_N I 0 - 1 - n) else I
def sp_pb (c n : Nat) : Prop := c < 4 ∧ n ≤ 15 ∧ (c = 0 → n < 4) ∧ (c = 1 → n < 4) ∧ (c = 2 → n < 5)
theorem vr_rs_g (J : Nat → Nat → Int32) (p n : Nat) (B : Nat → Int32) (k : Nat) : ∀ e, 16 * p + e ≤ k → vr_rs J p n B e 157 k = J 157 k
  | 0, _ => rfl
  | e + 1, h => by
    unfold vr_rs
    split
    · rw [vm_up_k2 _ _ _ _ _ (by omega)]
      exact vr_rs_g J p n B k e (by omega)
    · exact vr_rs_g J p n B k e (by omega)
theorem vr_R_g (I : Nat → Nat → Int32) (p q n N : Nat) (m : Int32) (k : Nat) (h : 16 * p + n ≤ k) : vr_R I p q n N m 157 k = I 157 k := (vr_rs_g _ _ _ _ _ _ h).trans (congrFun (vr_K_o _ _ _ _ _ _ 157 (by decide) (by decide) (by decide)) k)
theorem rv_gr_o (I : Nat → Nat → Int32) (w h c n a : Nat) (h0 : a ≠ 152) (h1 : a ≠ 156) (h2 : a ≠ 157) (h3 : a ≠ 158) (h4 : a ≠ 170) (h5 : a ≠ 171) (h6 : a ≠ 172) : rv_gr I w h c n a = I a := by
  unfold rv_gr
  split
  · split
    · exact vr_R_o _ _ _ _ _ _ _ h2 h4 h5 h6
    · rfl
  · exact vm_up_f _ _ _ _ _ h0
  · exact vm_up_f _ _ _ _ _ h0
  · split
    · exact (vm_rm_o _ _ _ _ _ _ h2 h3).trans (vm_up_f _ _ _ _ _ h1)
    · rfl
theorem rv_gr_f (I : Nat → Nat → Int32) (w h c n b : Nat) (h6 : b ≠ 6) (h7 : b ≠ 7) : rv_gr I w h c n 152 b = I 152 b := by
  unfold rv_gr
  split
  · split
    · rw [vr_R_o _ _ _ _ _ _ _ (by decide) (by decide) (by decide) (by decide)]
    · rfl
  · exact vm_up_k2 _ _ _ _ _ h6
  · exact vm_up_k2 _ _ _ _ _ h7
  · split
    · rw [vm_rm_o _ _ _ _ _ _ (by decide) (by decide), vm_up_f _ _ _ _ _ (by decide)]
    · rfl
theorem rv_gr_g (I : Nat → Nat → Int32) (w h c n : Nat) (hi : rv_iv I) (hb : sp_pb c n) : (∀ k, 4 ≤ k → rv_gr I w h c n 156 k = I 156 k) ∧ (∀ k, 64 ≤ k → rv_gr I w h c n 157 k = I 157 k) ∧ (∀ k, 64 ≤ k → rv_gr I w h c n 158 k = I 158 k) := by
  obtain ⟨N0, hN0, e0⟩ := hi.1 0 (by decide)
  have en0 := rv_N_e e0 hN0
  unfold rv_gr
  split
  · have hn4 : n < 4 := hb.2.2.1 rfl
    obtain ⟨N, hN, e⟩ := hi.1 n hn4
    have en := rv_N_e e hN
    split
    · refine ⟨fun k hk => ?_, fun k hk => ?_, fun k hk => ?_⟩
      · rw [vr_R_o _ _ _ _ _ _ _ (by decide) (by decide) (by decide) (by decide)]
      · exact vr_R_g _ _ _ _ _ _ _ (by omega)
      · rw [vr_R_o _ _ _ _ _ _ _ (by decide) (by decide) (by decide) (by decide)]
    · exact ⟨fun k hk => rfl, fun k hk => rfl, fun k hk => rfl⟩
  · exact ⟨fun k hk => by rw [vm_up_f _ _ _ _ _ (by decide)], fun k hk => by rw [vm_up_f _ _ _ _ _ (by decide)], fun k hk => by rw [vm_up_f _ _ _ _ _ (by decide)]⟩
  · exact ⟨fun k hk => by rw [vm_up_f _ _ _ _ _ (by decide)], fun k hk => by rw [vm_up_f _ _ _ _ _ (by decide)], fun k hk => by rw [vm_up_f _ _ _ _ _ (by decide)]⟩
  · split
    · rename_i y
      refine ⟨fun k hk => ?_, fun k hk => ?_, fun k hk => ?_⟩
      · rw [vm_rm_o _ _ _ _ _ _ (by decide) (by decide), vm_up_k2 _ _ _ _ _ (by omega)]
      · rw [vm_rm_a _ _ _ _ _ _ (by decide) (by omega), vm_up_f _ _ _ _ _ (by decide)]
      · rw [vm_rm_b _ _ _ _ _ _ (by decide) (by omega), vm_up_f _ _ _ _ _ (by decide)]
    · exact ⟨fun k hk => rfl, fun k hk => rfl, fun k hk => rfl⟩
theorem rv_gr_i {I : Nat → Nat → Int32} {w h c n : Nat} (hi : rv_iv I) (hb : sp_pb c n) : rv_iv (rv_gr I w h c n) := by
  obtain ⟨N0, hN0, e0⟩ := hi.1 0 (by decide)
  have en0 := rv_N_e e0 hN0
  unfold rv_gr
  split
  · split
    · unfold rv_iv
      rw [vr_R_o _ _ _ _ _ _ 156 (by decide) (by decide) (by decide) (by decide), vr_R_o _ _ _ _ _ _ 152 (by decide) (by decide) (by decide) (by decide)]
      exact hi
    · exact hi
  · refine ⟨?_, ⟨n, hb.2.2.2.1 rfl, vm_up_h _ _ _ _⟩, ?_⟩
    · rw [vm_up_f _ _ _ _ _ (by decide)]
      exact hi.1
    · rw [vm_up_k2 _ _ _ _ _ (by decide)]
      exact hi.2.2
  · refine ⟨?_, ?_, ⟨n, hb.2.2.2.2 rfl, vm_up_h _ _ _ _⟩⟩
    · rw [vm_up_f _ _ _ _ _ (by decide)]
      exact hi.1
    · rw [vm_up_k2 _ _ _ _ _ (by decide)]
      exact hi.2.1
  · split
    · unfold rv_iv
      rw [vm_rm_o _ _ _ _ _ 156 (by decide) (by decide), vm_rm_o _ _ _ _ _ 152 (by decide) (by decide), vm_up_f _ _ _ _ 152 (by decide)]
      refine ⟨fun p hp => ?_, hi.2⟩
      by_cases z : p = 0
      · subst z
        exact ⟨rv_N I 0 - 1, by omega, vm_up_h _ _ _ _⟩
      · rw [vm_up_k2 _ _ _ _ _ z]
        exact hi.1 p hp
    · exact hi
/-- the plan's rows, one by one -/
def rv_gs (I : Nat → Nat → Int32) (w h : Nat) (pw pn : Nat → Nat) : Nat → Nat → Nat → Int32
  | 0 => I
  | j + 1 => rv_gr (rv_gs I w h pw pn j) w h (pw j) (pn j)
theorem rv_gs_o (I : Nat → Nat → Int32) (w h : Nat) (pw pn : Nat → Nat) (a : Nat) (h0 : a ≠ 152) (h1 : a ≠ 156) (h2 : a ≠ 157) (h3 : a ≠ 158) (h4 : a ≠ 170) (h5 : a ≠ 171) (h6 : a ≠ 172) : ∀ j, rv_gs I w h pw pn j a = I a
  | 0 => rfl
  | j + 1 => (rv_gr_o _ _ _ _ _ a h0 h1 h2 h3 h4 h5 h6).trans (rv_gs_o I w h pw pn a h0 h1 h2 h3 h4 h5 h6 j)
theorem rv_gs_f (I : Nat → Nat → Int32) (w h : Nat) (pw pn : Nat → Nat) (b : Nat) (h6 : b ≠ 6) (h7 : b ≠ 7) : ∀ j, rv_gs I w h pw pn j 152 b = I 152 b
  | 0 => rfl
  | j + 1 => (rv_gr_f _ _ _ _ _ b h6 h7).trans (rv_gs_f I w h pw pn b h6 h7 j)
theorem rv_gs_i {I : Nat → Nat → Int32} {w h v : Nat} {pw pn : Nat → Nat} (hi : rv_iv I) (hb : ∀ j, j < v → sp_pb (pw j) (pn j)) : ∀ j, j ≤ v → rv_iv (rv_gs I w h pw pn j)
  | 0, _ => hi
  | j + 1, hj => rv_gr_i (rv_gs_i hi hb j (by omega)) (hb j (by omega))
theorem rv_gs_g {I : Nat → Nat → Int32} {w h v : Nat} {pw pn : Nat → Nat} (hi : rv_iv I) (hb : ∀ j, j < v → sp_pb (pw j) (pn j)) : ∀ j, j ≤ v → (∀ k, 4 ≤ k → rv_gs I w h pw pn j 156 k = I 156 k) ∧ (∀ k, 64 ≤ k → rv_gs I w h pw pn j 157 k = I 157 k) ∧ (∀ k, 64 ≤ k → rv_gs I w h pw pn j 158 k = I 158 k)
  | 0, _ => ⟨fun k hk => rfl, fun k hk => rfl, fun k hk => rfl⟩
  | j + 1, hj => by
    have ih := rv_gs_g (w := w) (h := h) hi hb j (by omega)
    have g := rv_gr_g (rv_gs I w h pw pn j) w h (pw j) (pn j) (rv_gs_i hi hb j (by omega)) (hb j (by omega))
    exact ⟨fun k hk => (g.1 k hk).trans (ih.1 k hk), fun k hk => (g.2.1 k hk).trans (ih.2.1 k hk), fun k hk => (g.2.2 k hk).trans (ih.2.2 k hk)⟩
theorem vm_m4 {m : Nat} {x : Int32} (h : m < 4) (e : x = nI m) : x = 0 ∨ x = 1 ∨ x = 2 ∨ x = 3 := by
  subst e
  match m, h with
  | 0, _ => exact Or.inl rfl
  | 1, _ => exact Or.inr (Or.inl rfl)
  | 2, _ => exact Or.inr (Or.inr (Or.inl rfl))
  | 3, _ => exact Or.inr (Or.inr (Or.inr rfl))
set_option maxHeartbeats 4000000 in
set_option maxRecDepth 20000 in
/-- DitherDeskModel.goesRow -/
theorem r_gr0_y {l : Launch} {X : vm_Cx} {G : List vm_Sh} {I : Nat → Nat → Int32} {F : Nat → Nat → UInt32} {c : Nat} {n : Nat} {w : Nat} {h : Nat} {m : Int32} (hR : vm_isR G) (hc : c < 4) (hn : I 156 c = nI n) (hn0 : 0 < n) (hn2 : n ≤ 16) (hw : I 153 0 = nI w) (hh : I 154 0 = nI h) (hw2 : w ≤ 12) (hh2 : h ≤ 12) (hw0 : 0 < w) (hz : I 152 6 = m) (hm : m = 0 ∨ m = 1 ∨ m = 2 ∨ m = 3) : vm_K l X vm_M283 [.ref 152, .int 0, .int (nI c)] (G, I, F) (none) (G, (vr_R I c 0 n (w * h) m), F) := by
  refine vm_K.mk (by decide) (Nat.le_of_ble_eq_true rfl) ?_
  show vm_J _ _ _ (0, (0, 0), [.ref 152, .int 0, .int (nI c)], []) _ _ _
  refine vm_J.go vm_q283 (k := 4) (hs := []) (f' := (30, (0, 0), [.ref 152, .int 0, .int (nI c)], [.int 0, .ref 152])) (h' := (G, I, F)) (hs' := []) rfl rfl ?_
  refine vm_J.call vm_q283 (Z := vm_M172) (n := 1) (k := 0) (mi := 172) (pc := 30) (en := (30, .invokevirtual 156, 3, [172, 1313, 0], .null)) rfl trivial rfl rfl vm_z172 (av := [.ref 152, .int 0]) (rest := []) (r_isPic_y (I := I) (F := F) (p := 0) (w := w) hR (by decide) hw hw2 (by omega)) ⟨_, _, rfl, rfl, _, 11, _, hR.c152, rfl, rfl, rfl⟩ (Nat.le_of_ble_eq_true rfl) ⟨Nat.le_of_ble_eq_true rfl, Nat.le_of_ble_eq_true rfl⟩ ⟨Nat.le_of_ble_eq_true rfl, Nat.le_of_ble_eq_true rfl⟩ ?_
  show vm_J _ _ _ (33, (0, 0), [.ref 152, .int 0, .int (nI c)], [.int 1]) (G, I, F) _ _
  refine vm_J.go vm_q283 (k := 1) (hs := []) (f' := (bif vm_ic .eq 1 0 then 95 else 36, (0, 0), [.ref 152, .int 0, .int (nI c)], [])) (h' := (G, I, F)) (hs' := []) rfl rfl ?_
  refine vm_J.bF (by decide) ?_
  refine vm_J.go vm_q283 (k := 4) (hs := [vm_shR, (0, 4, [])]) (f' := (42, (0, 0), [.ref 152, .int 0, .int (nI c)], [.int (I 156 (nI c).toNatClampNeg)])) (h' := (G, I, F)) (hs' := []) rfl (vm_b2 rfl (vm_b2 (vm_b2 (vm_hG hR.c152) rfl) (vm_b2 rfl (vm_b2 (vm_b2 (vm_hG hR.c156) (vm_in_e (j := c) (n := 4) rfl (by omega) (by omega))) rfl)))) ?_
  rw [vm_ix_e (j := c) rfl (by omega)]
  rw [(hn : I 156 c = nI n)]
  refine vm_J.go vm_q283 (k := 1) (hs := []) (f' := (bif vm_ic .le (nI n) 0 then 95 else 45, (0, 0), [.ref 152, .int 0, .int (nI c)], [])) (h' := (G, I, F)) (hs' := []) rfl rfl ?_
  refine vm_J.br (fun c1 => ?_) (fun c1 => ?_)
  · have c1 := vm_le_t (a := n) (b := 0) (by omega) (by omega) c1
    exact (show False by omega).elim
  · have c1 := vm_le_f (a := n) (b := 0) (by omega) (by omega) c1
    refine vm_J.go vm_q283 (k := 3) (hs := []) (f' := (48, (0, 0), [.ref 152, .int 0, .int (nI c)], [.int 0, .int (nI c), .ref 152])) (h' := (G, I, F)) (hs' := []) rfl rfl ?_
    refine vm_J.call vm_q283 (Z := vm_M239) (n := 2) (k := 0) (mi := 239) (pc := 48) (en := (48, .invokevirtual 334, 3, [239, 1571, 0], .null)) rfl trivial rfl rfl vm_z239 (av := [.ref 152, .int (nI c), .int 0]) (rest := []) (r_refines (I := I) (F := F) (p := c) (n := n) (q := 0) (w := w) (h := h) (m := m) hR hn hc hn2 hn0 hw hh (by decide) hw2 hh2 hz hm) ⟨_, _, rfl, rfl, _, 11, _, hR.c152, rfl, rfl, rfl⟩ (Nat.le_of_ble_eq_true rfl) ⟨Nat.le_of_ble_eq_true rfl, Nat.le_of_ble_eq_true rfl⟩ ⟨Nat.le_of_ble_eq_true rfl, Nat.le_of_ble_eq_true rfl⟩ ?_
    show vm_J _ _ _ (51, (0, 0), [.ref 152, .int 0, .int (nI c)], [.int (vr_F I c 0 n (w * h) m)]) (G, (vr_R I c 0 n (w * h) m), F) _ _
    refine vm_J.go vm_q283 (k := 2) (hs := []) (f' := (95, (0, 0), [.ref 152, .int 0, .int (nI c)], [])) (h' := (G, (vr_R I c 0 n (w * h) m), F)) (hs' := []) rfl rfl ?_
    exact vm_J.end vm_q283 (en := (95, .return_, 1, [], .null)) rfl rfl vm_rV (Nat.zero_le _) (Nat.zero_le _) rfl
set_option maxHeartbeats 4000000 in
set_option maxRecDepth 20000 in
/-- DitherDeskModel.goesRow -/
theorem r_gr0_w {l : Launch} {X : vm_Cx} {G : List vm_Sh} {I : Nat → Nat → Int32} {F : Nat → Nat → UInt32} {c : Nat} {w : Nat} (hR : vm_isR G) (hw : I 153 0 = nI w) (hw2 : w ≤ 12) (hw0 : w = 0) : vm_K l X vm_M283 [.ref 152, .int 0, .int (nI c)] (G, I, F) (none) (G, I, F) := by
  refine vm_K.mk (by decide) (Nat.le_of_ble_eq_true rfl) ?_
  show vm_J _ _ _ (0, (0, 0), [.ref 152, .int 0, .int (nI c)], []) _ _ _
  refine vm_J.go vm_q283 (k := 4) (hs := []) (f' := (30, (0, 0), [.ref 152, .int 0, .int (nI c)], [.int 0, .ref 152])) (h' := (G, I, F)) (hs' := []) rfl rfl ?_
  refine vm_J.call vm_q283 (Z := vm_M172) (n := 1) (k := 0) (mi := 172) (pc := 30) (en := (30, .invokevirtual 156, 3, [172, 1313, 0], .null)) rfl trivial rfl rfl vm_z172 (av := [.ref 152, .int 0]) (rest := []) (r_isPic_n (I := I) (F := F) (p := 0) (w := w) hR (by decide) hw hw2 (by omega)) ⟨_, _, rfl, rfl, _, 11, _, hR.c152, rfl, rfl, rfl⟩ (Nat.le_of_ble_eq_true rfl) ⟨Nat.le_of_ble_eq_true rfl, Nat.le_of_ble_eq_true rfl⟩ ⟨Nat.le_of_ble_eq_true rfl, Nat.le_of_ble_eq_true rfl⟩ ?_
  show vm_J _ _ _ (33, (0, 0), [.ref 152, .int 0, .int (nI c)], [.int 0]) (G, I, F) _ _
  refine vm_J.go vm_q283 (k := 1) (hs := []) (f' := (bif vm_ic .eq 0 0 then 95 else 36, (0, 0), [.ref 152, .int 0, .int (nI c)], [])) (h' := (G, I, F)) (hs' := []) rfl rfl ?_
  refine vm_J.bT (by decide) ?_
  exact vm_J.end vm_q283 (en := (95, .return_, 1, [], .null)) rfl rfl vm_rV (Nat.zero_le _) (Nat.zero_le _) rfl
set_option maxHeartbeats 4000000 in
set_option maxRecDepth 20000 in
/-- DitherDeskModel.goesRow -/
theorem r_gr0_e {l : Launch} {X : vm_Cx} {G : List vm_Sh} {I : Nat → Nat → Int32} {F : Nat → Nat → UInt32} {c : Nat} {n : Nat} {w : Nat} (hR : vm_isR G) (hc : c < 4) (hn : I 156 c = nI n) (hn2 : n = 0) (hw : I 153 0 = nI w) (hw2 : w ≤ 12) (hw0 : 0 < w) : vm_K l X vm_M283 [.ref 152, .int 0, .int (nI c)] (G, I, F) (none) (G, I, F) := by
  refine vm_K.mk (by decide) (Nat.le_of_ble_eq_true rfl) ?_
  show vm_J _ _ _ (0, (0, 0), [.ref 152, .int 0, .int (nI c)], []) _ _ _
  refine vm_J.go vm_q283 (k := 4) (hs := []) (f' := (30, (0, 0), [.ref 152, .int 0, .int (nI c)], [.int 0, .ref 152])) (h' := (G, I, F)) (hs' := []) rfl rfl ?_
  refine vm_J.call vm_q283 (Z := vm_M172) (n := 1) (k := 0) (mi := 172) (pc := 30) (en := (30, .invokevirtual 156, 3, [172, 1313, 0], .null)) rfl trivial rfl rfl vm_z172 (av := [.ref 152, .int 0]) (rest := []) (r_isPic_y (I := I) (F := F) (p := 0) (w := w) hR (by decide) hw hw2 (by omega)) ⟨_, _, rfl, rfl, _, 11, _, hR.c152, rfl, rfl, rfl⟩ (Nat.le_of_ble_eq_true rfl) ⟨Nat.le_of_ble_eq_true rfl, Nat.le_of_ble_eq_true rfl⟩ ⟨Nat.le_of_ble_eq_true rfl, Nat.le_of_ble_eq_true rfl⟩ ?_
  show vm_J _ _ _ (33, (0, 0), [.ref 152, .int 0, .int (nI c)], [.int 1]) (G, I, F) _ _
  refine vm_J.go vm_q283 (k := 1) (hs := []) (f' := (bif vm_ic .eq 1 0 then 95 else 36, (0, 0), [.ref 152, .int 0, .int (nI c)], [])) (h' := (G, I, F)) (hs' := []) rfl rfl ?_
  refine vm_J.bF (by decide) ?_
  refine vm_J.go vm_q283 (k := 4) (hs := [vm_shR, (0, 4, [])]) (f' := (42, (0, 0), [.ref 152, .int 0, .int (nI c)], [.int (I 156 (nI c).toNatClampNeg)])) (h' := (G, I, F)) (hs' := []) rfl (vm_b2 rfl (vm_b2 (vm_b2 (vm_hG hR.c152) rfl) (vm_b2 rfl (vm_b2 (vm_b2 (vm_hG hR.c156) (vm_in_e (j := c) (n := 4) rfl (by omega) (by omega))) rfl)))) ?_
  rw [vm_ix_e (j := c) rfl (by omega)]
  rw [(hn : I 156 c = nI n)]
  refine vm_J.go vm_q283 (k := 1) (hs := []) (f' := (bif vm_ic .le (nI n) 0 then 95 else 45, (0, 0), [.ref 152, .int 0, .int (nI c)], [])) (h' := (G, I, F)) (hs' := []) rfl rfl ?_
  refine vm_J.br (fun c1 => ?_) (fun c1 => ?_)
  · have c1 := vm_le_t (a := n) (b := 0) (by omega) (by omega) c1
    exact vm_J.end vm_q283 (en := (95, .return_, 1, [], .null)) rfl rfl vm_rV (Nat.zero_le _) (Nat.zero_le _) rfl
  · have c1 := vm_le_f (a := n) (b := 0) (by omega) (by omega) c1
    exact (show False by omega).elim
set_option maxHeartbeats 4000000 in
set_option maxRecDepth 20000 in
/-- DitherDeskModel.goesRow -/
theorem r_gr1 {l : Launch} {X : vm_Cx} {G : List vm_Sh} {I : Nat → Nat → Int32} {F : Nat → Nat → UInt32} {c : Nat} (hR : vm_isR G) : vm_K l X vm_M283 [.ref 152, .int 1, .int (nI c)] (G, I, F) (none) (G, (vm_up I 152 6 (nI c)), F) := by
  refine vm_K.mk (by decide) (Nat.le_of_ble_eq_true rfl) ?_
  show vm_J _ _ _ (0, (0, 0), [.ref 152, .int 1, .int (nI c)], []) _ _ _
  refine vm_J.go vm_q283 (k := 6) (hs := [vm_shR]) (f' := (95, (0, 0), [.ref 152, .int 1, .int (nI c)], [])) (h' := (G, (vm_up I 152 6 (nI c)), F)) (hs' := []) rfl (vm_b2 rfl (vm_b2 rfl (vm_b2 rfl (vm_b2 rfl (vm_b2 (vm_b2 (vm_b2 (vm_hG hR.c152) rfl) rfl) (vm_b2 rfl rfl)))))) ?_
  exact vm_J.end vm_q283 (en := (95, .return_, 1, [], .null)) rfl rfl vm_rV (Nat.zero_le _) (Nat.zero_le _) rfl
set_option maxHeartbeats 4000000 in
set_option maxRecDepth 20000 in
/-- DitherDeskModel.goesRow -/
theorem r_gr2 {l : Launch} {X : vm_Cx} {G : List vm_Sh} {I : Nat → Nat → Int32} {F : Nat → Nat → UInt32} {c : Nat} (hR : vm_isR G) : vm_K l X vm_M283 [.ref 152, .int 2, .int (nI c)] (G, I, F) (none) (G, (vm_up I 152 7 (nI c)), F) := by
  refine vm_K.mk (by decide) (Nat.le_of_ble_eq_true rfl) ?_
  show vm_J _ _ _ (0, (0, 0), [.ref 152, .int 2, .int (nI c)], []) _ _ _
  refine vm_J.go vm_q283 (k := 6) (hs := [vm_shR]) (f' := (95, (0, 0), [.ref 152, .int 2, .int (nI c)], [])) (h' := (G, (vm_up I 152 7 (nI c)), F)) (hs' := []) rfl (vm_b2 rfl (vm_b2 rfl (vm_b2 rfl (vm_b2 rfl (vm_b2 (vm_b2 (vm_b2 (vm_hG hR.c152) rfl) rfl) (vm_b2 rfl rfl)))))) ?_
  exact vm_J.end vm_q283 (en := (95, .return_, 1, [], .null)) rfl rfl vm_rV (Nat.zero_le _) (Nat.zero_le _) rfl
theorem nI_nn {n : Nat} (h : n < 2147483648) : 0 ≤ nI n := by
  rw [Int32.le_iff_toInt_le, nI_toInt h, show (0 : Int32).toInt = 0 from rfl]
  omega
theorem vm_le1 {c n : Nat} (h : c < n) (h1 : 0 < n) (h2 : n < 2147483648) : nI c ≤ nI n - 1 := by
  rw [show nI n - 1 = nI (n - 1) from vm_ps rfl rfl (by omega)]
  exact (vm_le_i (by omega) (by omega)).mpr (by omega)
theorem vm_nle1 {c n : Nat} (h : n ≤ c) (h2 : c < 2147483648) : ¬ nI c ≤ nI n - 1 := by
  intro z
  rw [Int32.le_iff_toInt_le, nI_toInt h2] at z
  by_cases e : n = 0
  · subst e
    have e1 : (nI 0 - 1).toInt = -1 := by decide
    omega
  · rw [show nI n - 1 = nI (n - 1) from vm_ps rfl rfl (by omega), nI_toInt (by omega)] at z
    omega
set_option maxHeartbeats 4000000 in
set_option maxRecDepth 20000 in
/-- DitherDeskModel.goesRow -/
theorem r_gr3_y {l : Launch} {X : vm_Cx} {G : List vm_Sh} {I : Nat → Nat → Int32} {F : Nat → Nat → UInt32} {c : Nat} {n : Nat} (hR : vm_isR G) (hn : I 156 0 = nI n) (hn2 : n ≤ 16) (hcn : c < n) (hlk : I 158 c = 0) : vm_K l X vm_M283 [.ref 152, .int 3, .int (nI c)] (G, I, F) (none) (G, (vm_rm (vm_up I 156 0 (nI (n - 1))) 157 158 (16 * 0 + c) (n - 1 - c)), F) := by
  refine vm_K.mk (by decide) (Nat.le_of_ble_eq_true rfl) ?_
  show vm_J _ _ _ (0, (0, 0), [.ref 152, .int 3, .int (nI c)], []) _ _ _
  refine vm_J.go vm_q283 (k := 5) (hs := []) (f' := (74, (0, 0), [.ref 152, .int 3, .int (nI c)], [.int (nI c), .int 0, .ref 152])) (h' := (G, I, F)) (hs' := []) rfl rfl ?_
  refine vm_J.call vm_q283 (Z := vm_M174) (n := 2) (k := 0) (mi := 174) (pc := 74) (en := (74, .invokevirtual 264, 3, [174, 1468, 0], .null)) rfl trivial rfl rfl vm_z174 (av := [.ref 152, .int 0, .int (nI c)]) (rest := []) (r_isEn_y (I := I) (F := F) (p := 0) (n := n) (e := nI c) hR (by decide) hn ⟨nI_nn (by omega), vm_le1 (by omega) (by omega) (by omega)⟩) ⟨_, _, rfl, rfl, _, 11, _, hR.c152, rfl, rfl, rfl⟩ (Nat.le_of_ble_eq_true rfl) ⟨Nat.le_of_ble_eq_true rfl, Nat.le_of_ble_eq_true rfl⟩ ⟨Nat.le_of_ble_eq_true rfl, Nat.le_of_ble_eq_true rfl⟩ ?_
  show vm_J _ _ _ (77, (0, 0), [.ref 152, .int 3, .int (nI c)], [.int 1]) (G, I, F) _ _
  refine vm_J.go vm_q283 (k := 1) (hs := []) (f' := (bif vm_ic .eq 1 0 then 95 else 80, (0, 0), [.ref 152, .int 3, .int (nI c)], [])) (h' := (G, I, F)) (hs' := []) rfl rfl ?_
  refine vm_J.bF (by decide) ?_
  refine vm_J.go vm_q283 (k := 4) (hs := [vm_shR, (0, 64, [])]) (f' := (86, (0, 0), [.ref 152, .int 3, .int (nI c)], [.int (I 158 (nI c).toNatClampNeg)])) (h' := (G, I, F)) (hs' := []) rfl (vm_b2 rfl (vm_b2 (vm_b2 (vm_hG hR.c152) rfl) (vm_b2 rfl (vm_b2 (vm_b2 (vm_hG hR.c158) (vm_in_e (j := c) (n := 64) rfl (by omega) (by omega))) rfl)))) ?_
  rw [vm_ix_e (j := c) rfl (by omega)]
  refine vm_J.go vm_q283 (k := 1) (hs := []) (f' := (bif vm_ic .ne (I 158 c) 0 then 95 else 89, (0, 0), [.ref 152, .int 3, .int (nI c)], [])) (h' := (G, I, F)) (hs' := []) rfl rfl ?_
  refine vm_J.br (fun c1 => ?_) (fun c1 => ?_)
  · have c1 : ¬ (I 158 c) = 0 := of_decide_eq_true c1
    exact absurd hlk c1
  · have c1 : (I 158 c) = 0 := Decidable.of_not_not (of_decide_eq_false c1)
    refine vm_J.go vm_q283 (k := 3) (hs := []) (f' := (92, (0, 0), [.ref 152, .int 3, .int (nI c)], [.int (nI c), .int 0, .ref 152])) (h' := (G, I, F)) (hs' := []) rfl rfl ?_
    refine vm_J.call vm_q283 (Z := vm_M214) (n := 2) (k := 0) (mi := 214) (pc := 92) (en := (92, .invokevirtual 267, 3, [214, 1472, 0], .null)) rfl trivial rfl rfl vm_z214 (av := [.ref 152, .int 0, .int (nI c)]) (rest := []) (r_goes (I := I) (F := F) (p := 0) (n := n) (e := c) hR hn (by decide) hn2 hcn) ⟨_, _, rfl, rfl, _, 11, _, hR.c152, rfl, rfl, rfl⟩ (Nat.le_of_ble_eq_true rfl) ⟨Nat.le_of_ble_eq_true rfl, Nat.le_of_ble_eq_true rfl⟩ ⟨Nat.le_of_ble_eq_true rfl, Nat.le_of_ble_eq_true rfl⟩ ?_
    show vm_J _ _ _ (95, (0, 0), [.ref 152, .int 3, .int (nI c)], []) (G, (vm_rm (vm_up I 156 0 (nI (n - 1))) 157 158 (16 * 0 + c) (n - 1 - c)), F) _ _
    exact vm_J.end vm_q283 (en := (95, .return_, 1, [], .null)) rfl rfl vm_rV (Nat.zero_le _) (Nat.zero_le _) rfl
set_option maxHeartbeats 4000000 in
set_option maxRecDepth 20000 in
/-- DitherDeskModel.goesRow -/
theorem r_gr3_l {l : Launch} {X : vm_Cx} {G : List vm_Sh} {I : Nat → Nat → Int32} {F : Nat → Nat → UInt32} {c : Nat} {n : Nat} (hR : vm_isR G) (hn : I 156 0 = nI n) (hn2 : n ≤ 16) (hcn : c < n) (hlk : ¬ I 158 c = 0) : vm_K l X vm_M283 [.ref 152, .int 3, .int (nI c)] (G, I, F) (none) (G, I, F) := by
  refine vm_K.mk (by decide) (Nat.le_of_ble_eq_true rfl) ?_
  show vm_J _ _ _ (0, (0, 0), [.ref 152, .int 3, .int (nI c)], []) _ _ _
  refine vm_J.go vm_q283 (k := 5) (hs := []) (f' := (74, (0, 0), [.ref 152, .int 3, .int (nI c)], [.int (nI c), .int 0, .ref 152])) (h' := (G, I, F)) (hs' := []) rfl rfl ?_
  refine vm_J.call vm_q283 (Z := vm_M174) (n := 2) (k := 0) (mi := 174) (pc := 74) (en := (74, .invokevirtual 264, 3, [174, 1468, 0], .null)) rfl trivial rfl rfl vm_z174 (av := [.ref 152, .int 0, .int (nI c)]) (rest := []) (r_isEn_y (I := I) (F := F) (p := 0) (n := n) (e := nI c) hR (by decide) hn ⟨nI_nn (by omega), vm_le1 (by omega) (by omega) (by omega)⟩) ⟨_, _, rfl, rfl, _, 11, _, hR.c152, rfl, rfl, rfl⟩ (Nat.le_of_ble_eq_true rfl) ⟨Nat.le_of_ble_eq_true rfl, Nat.le_of_ble_eq_true rfl⟩ ⟨Nat.le_of_ble_eq_true rfl, Nat.le_of_ble_eq_true rfl⟩ ?_
  show vm_J _ _ _ (77, (0, 0), [.ref 152, .int 3, .int (nI c)], [.int 1]) (G, I, F) _ _
  refine vm_J.go vm_q283 (k := 1) (hs := []) (f' := (bif vm_ic .eq 1 0 then 95 else 80, (0, 0), [.ref 152, .int 3, .int (nI c)], [])) (h' := (G, I, F)) (hs' := []) rfl rfl ?_
  refine vm_J.bF (by decide) ?_
  refine vm_J.go vm_q283 (k := 4) (hs := [vm_shR, (0, 64, [])]) (f' := (86, (0, 0), [.ref 152, .int 3, .int (nI c)], [.int (I 158 (nI c).toNatClampNeg)])) (h' := (G, I, F)) (hs' := []) rfl (vm_b2 rfl (vm_b2 (vm_b2 (vm_hG hR.c152) rfl) (vm_b2 rfl (vm_b2 (vm_b2 (vm_hG hR.c158) (vm_in_e (j := c) (n := 64) rfl (by omega) (by omega))) rfl)))) ?_
  rw [vm_ix_e (j := c) rfl (by omega)]
  refine vm_J.go vm_q283 (k := 1) (hs := []) (f' := (bif vm_ic .ne (I 158 c) 0 then 95 else 89, (0, 0), [.ref 152, .int 3, .int (nI c)], [])) (h' := (G, I, F)) (hs' := []) rfl rfl ?_
  refine vm_J.br (fun c1 => ?_) (fun c1 => ?_)
  · have c1 : ¬ (I 158 c) = 0 := of_decide_eq_true c1
    exact vm_J.end vm_q283 (en := (95, .return_, 1, [], .null)) rfl rfl vm_rV (Nat.zero_le _) (Nat.zero_le _) rfl
  · have c1 : (I 158 c) = 0 := Decidable.of_not_not (of_decide_eq_false c1)
    exact absurd c1 hlk
set_option maxHeartbeats 4000000 in
set_option maxRecDepth 20000 in
/-- DitherDeskModel.goesRow -/
theorem r_gr3_x {l : Launch} {X : vm_Cx} {G : List vm_Sh} {I : Nat → Nat → Int32} {F : Nat → Nat → UInt32} {c : Nat} {n : Nat} (hR : vm_isR G) (hn : I 156 0 = nI n) (hn2 : n ≤ 16) (hcn : n ≤ c) (hc16 : c < 16) : vm_K l X vm_M283 [.ref 152, .int 3, .int (nI c)] (G, I, F) (none) (G, I, F) := by
  refine vm_K.mk (by decide) (Nat.le_of_ble_eq_true rfl) ?_
  show vm_J _ _ _ (0, (0, 0), [.ref 152, .int 3, .int (nI c)], []) _ _ _
  refine vm_J.go vm_q283 (k := 5) (hs := []) (f' := (74, (0, 0), [.ref 152, .int 3, .int (nI c)], [.int (nI c), .int 0, .ref 152])) (h' := (G, I, F)) (hs' := []) rfl rfl ?_
  refine vm_J.call vm_q283 (Z := vm_M174) (n := 2) (k := 0) (mi := 174) (pc := 74) (en := (74, .invokevirtual 264, 3, [174, 1468, 0], .null)) rfl trivial rfl rfl vm_z174 (av := [.ref 152, .int 0, .int (nI c)]) (rest := []) (r_isEn_n (I := I) (F := F) (p := 0) (n := n) (e := nI c) hR (by decide) hn (fun z_ => vm_nle1 (by omega) (by omega) z_.2)) ⟨_, _, rfl, rfl, _, 11, _, hR.c152, rfl, rfl, rfl⟩ (Nat.le_of_ble_eq_true rfl) ⟨Nat.le_of_ble_eq_true rfl, Nat.le_of_ble_eq_true rfl⟩ ⟨Nat.le_of_ble_eq_true rfl, Nat.le_of_ble_eq_true rfl⟩ ?_
  show vm_J _ _ _ (77, (0, 0), [.ref 152, .int 3, .int (nI c)], [.int 0]) (G, I, F) _ _
  refine vm_J.go vm_q283 (k := 1) (hs := []) (f' := (bif vm_ic .eq 0 0 then 95 else 80, (0, 0), [.ref 152, .int 3, .int (nI c)], [])) (h' := (G, I, F)) (hs' := []) rfl rfl ?_
  refine vm_J.bT (by decide) ?_
  exact vm_J.end vm_q283 (en := (95, .return_, 1, [], .null)) rfl rfl vm_rV (Nat.zero_le _) (Nat.zero_le _) rfl
theorem r_goesRow {l : Launch} {X : vm_Cx} {G : List vm_Sh} {I : Nat → Nat → Int32} {F : Nat → Nat → UInt32} {w h c n : Nat} (hR : vm_isR G) (hw : I 153 0 = nI w) (hh : I 154 0 = nI h) (hw2 : w ≤ 12) (hh2 : h ≤ 12) (hi : rv_iv I) (hb : sp_pb c n) : vm_K l X vm_M283 [.ref 152, .int (nI c), .int (nI n)] (G, I, F) none (G, rv_gr I w h c n, F) := by
  obtain ⟨h4, h15, hb0, hb1, hb2⟩ := hb
  match c, h4 with
  | 0, _ =>
    obtain ⟨N, hN, e⟩ := hi.1 n (hb0 rfl)
    obtain ⟨m, hm, em⟩ := hi.2.1
    show vm_K l X _ _ _ _ (G, (if 0 < w ∧ 0 < rv_N I n then vr_R I n 0 (rv_N I n) (w * h) (I 152 6) else I), F)
    rw [rv_N_e e hN]
    by_cases z : 0 < w
    · by_cases y : 0 < N
      · rw [if_pos ⟨z, y⟩]
        exact r_gr0_y hR (hb0 rfl) e y hN hw hh hw2 hh2 z rfl (vm_m4 hm em)
      · rw [if_neg (fun x => y x.2)]
        exact r_gr0_e hR (hb0 rfl) e (by omega) hw hw2 z
    · rw [if_neg (fun x => z x.1)]
      exact r_gr0_w hR hw hw2 (by omega)
  | 1, _ => exact r_gr1 hR
  | 2, _ => exact r_gr2 hR
  | 3, _ =>
    obtain ⟨N, hN, e⟩ := hi.1 0 (by decide)
    show vm_K l X _ _ _ _ (G, (if n < rv_N I 0 ∧ I 158 n = 0 then vm_rm (vm_up I 156 0 (nI (rv_N I 0 - 1))) 157 158 (16 * 0 + n) (rv_N I 0 - 1 - n) else I), F)
    rw [rv_N_e e hN]
    by_cases z : n < N
    · by_cases y : I 158 n = 0
      · rw [if_pos ⟨z, y⟩]
        exact r_gr3_y hR e hN z y
      · rw [if_neg (fun x => y x.2)]
        exact r_gr3_l hR e hN z y
    · rw [if_neg (fun x => z x.1)]
      exact r_gr3_x hR e hN (by omega) (by omega)
