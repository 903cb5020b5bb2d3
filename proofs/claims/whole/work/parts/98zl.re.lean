/-- the palettes are kept; they are given back -/
def rv_m1 (I : Nat → Nat → Int32) : Nat → Nat → Int32 := vr_ppk (vm_up (vm_up I 152 56 2000) 152 55 1) 2000
def rv_m0 (I : Nat → Nat → Int32) : Nat → Nat → Int32 := vr_ppr (vm_up (vm_up I 152 56 2000) 152 55 0) 2000
theorem vm_up2_152 (I : Nat → Nat → Int32) (u v : Int32) (b c a : Nat) (h : a ≠ 152) : vm_up (vm_up I 152 b u) 152 c v a = I a := by
  rw [vm_up_f _ _ _ _ _ h, vm_up_f _ _ _ _ _ h]
theorem vr_pr_g (I : Nat → Nat → Int32) (a n cu k : Nat) (h0 : a ≠ 152) (h : n ≤ k) : vr_pr I a n cu a k = I a k := (vm_up_o2 _ 152 _ _ a _ h0).trans (vm_wr_g _ _ _ _ _ h)
theorem rv_m1_o (I : Nat → Nat → Int32) (a : Nat) (h1 : a ≠ 189) (h2 : a ≠ 152) : rv_m1 I a = I a := (vr_ppk_o _ _ _ h1 h2).trans (vm_up2_152 _ _ _ _ _ _ h2)
theorem rv_m1_f (I : Nat → Nat → Int32) (b : Nat) (h : b ≠ 56) (h5 : b ≠ 55) : rv_m1 I 152 b = I 152 b := by
  have e : vm_up (vm_up I 152 56 2000) 152 55 1 152 b = I 152 b := by rw [vm_up_k2 _ _ _ _ _ h5, vm_up_k2 _ _ _ _ _ h]
  unfold rv_m1
  by_cases h6 : b = 6
  · subst h6
    exact (vr_ppk_6 _ _).trans e
  · by_cases h7 : b = 7
    · subst h7
      exact (vr_ppk_7 _ _).trans e
    · exact (vr_ppk_f _ _ _ h h6 h7).trans e
theorem rv_m1_156 (I : Nat → Nat → Int32) (k : Nat) (hk : k < 4) : rv_m1 I 189 (2000 + k) = I 156 k := by
  unfold rv_m1 vr_ppk
  rw [vm_up_f _ _ _ _ _ (by decide : 189 ≠ 152), vr_pv_l _ _ _ _ (by omega), vm_up_f _ _ _ _ _ (by decide : 189 ≠ 152), vr_pv_l _ _ _ _ (by omega), vr_pk_l _ _ _ _ _ (by omega), vr_pk_l _ _ _ _ _ (by omega), vr_pk_i _ _ _ _ _ hk, vm_up2_152 _ _ _ _ _ _ (by decide)]
theorem rv_m1_157 (I : Nat → Nat → Int32) (k : Nat) (hk : k < 64) : rv_m1 I 189 (2000 + 4 + k) = I 157 k := by
  unfold rv_m1 vr_ppk
  rw [vm_up_f _ _ _ _ _ (by decide : 189 ≠ 152), vr_pv_l _ _ _ _ (by omega), vm_up_f _ _ _ _ _ (by decide : 189 ≠ 152), vr_pv_l _ _ _ _ (by omega), vr_pk_l _ _ _ _ _ (by omega), vr_pk_i _ _ _ _ _ hk, vr_pk_o _ _ _ _ _ (by decide) (by decide), vm_up2_152 _ _ _ _ _ _ (by decide)]
theorem rv_m1_158 (I : Nat → Nat → Int32) (k : Nat) (hk : k < 64) : rv_m1 I 189 (2000 + 4 + 64 + k) = I 158 k := by
  unfold rv_m1 vr_ppk
  rw [vm_up_f _ _ _ _ _ (by decide : 189 ≠ 152), vr_pv_l _ _ _ _ (by omega), vm_up_f _ _ _ _ _ (by decide : 189 ≠ 152), vr_pv_l _ _ _ _ (by omega), vr_pk_i _ _ _ _ _ hk, vr_pk_o _ _ _ _ _ (by decide) (by decide), vr_pk_o _ _ _ _ _ (by decide) (by decide), vm_up2_152 _ _ _ _ _ _ (by decide)]
theorem rv_m1_6 (I : Nat → Nat → Int32) : rv_m1 I 189 (2000 + 4 + 64 + 64) = I 152 6 := by
  unfold rv_m1 vr_ppk
  rw [vm_up_f _ _ _ _ _ (by decide : 189 ≠ 152), vr_pv_l _ _ _ _ (by omega), vm_up_f _ _ _ _ _ (by decide : 189 ≠ 152), vr_pv_i, vm_up_k2 _ _ _ _ _ (by decide), vm_up_k2 _ _ _ _ _ (by decide)]
theorem rv_m1_7 (I : Nat → Nat → Int32) : rv_m1 I 189 (2000 + 4 + 64 + 64 + 1) = I 152 7 := by
  unfold rv_m1 vr_ppk
  rw [vm_up_f _ _ _ _ _ (by decide : 189 ≠ 152), vr_pv_i, vm_up_k2 _ _ _ _ _ (by decide), vm_up_k2 _ _ _ _ _ (by decide)]
theorem rv_m0_o (I : Nat → Nat → Int32) (a : Nat) (h1 : a ≠ 156) (h2 : a ≠ 157) (h3 : a ≠ 158) (h4 : a ≠ 152) : rv_m0 I a = I a := (vr_ppr_o _ _ _ h1 h2 h3 h4).trans (vm_up2_152 _ _ _ _ _ _ h4)
theorem rv_m0_f (I : Nat → Nat → Int32) (b : Nat) (h : b ≠ 56) (h5 : b ≠ 55) (h6 : b ≠ 6) (h7 : b ≠ 7) : rv_m0 I 152 b = I 152 b := (vr_ppr_f _ _ _ h h6 h7).trans (by rw [vm_up_k2 _ _ _ _ _ h5, vm_up_k2 _ _ _ _ _ h])
theorem rv_m0_156 (J : Nat → Nat → Int32) (k : Nat) : rv_m0 J 156 k = if k < 4 then J 189 (2000 + k) else J 156 k := by
  unfold rv_m0 vr_ppr
  rw [vm_up_f _ _ _ _ _ (by decide : 156 ≠ 152), vm_up_f _ _ _ _ _ (by decide : 156 ≠ 152), vm_up_f _ _ _ _ _ (by decide : 156 ≠ 152), vm_up_f _ _ _ _ _ (by decide : 156 ≠ 152), vr_pr_o _ _ _ _ _ (by decide) (by decide), vr_pr_o _ _ _ _ _ (by decide) (by decide)]
  split
  · rename_i h
    rw [vr_pr_i _ _ _ _ _ (by decide) h, vm_up2_152 _ _ _ _ _ _ (by decide)]
  · rename_i h
    rw [vr_pr_g _ _ _ _ _ (by decide) (by omega), vm_up2_152 _ _ _ _ _ _ (by decide)]
theorem rv_m0_157 (J : Nat → Nat → Int32) (k : Nat) : rv_m0 J 157 k = if k < 64 then J 189 (2000 + 4 + k) else J 157 k := by
  unfold rv_m0 vr_ppr
  rw [vm_up_f _ _ _ _ _ (by decide : 157 ≠ 152), vm_up_f _ _ _ _ _ (by decide : 157 ≠ 152), vm_up_f _ _ _ _ _ (by decide : 157 ≠ 152), vm_up_f _ _ _ _ _ (by decide : 157 ≠ 152), vr_pr_o _ _ _ _ _ (by decide) (by decide)]
  split
  · rename_i h
    rw [vr_pr_i _ _ _ _ _ (by decide) h, vr_pr_o _ _ _ _ _ (by decide) (by decide), vm_up2_152 _ _ _ _ _ _ (by decide)]
  · rename_i h
    rw [vr_pr_g _ _ _ _ _ (by decide) (by omega), vr_pr_o _ _ _ _ _ (by decide) (by decide), vm_up2_152 _ _ _ _ _ _ (by decide)]
theorem rv_m0_158 (J : Nat → Nat → Int32) (k : Nat) : rv_m0 J 158 k = if k < 64 then J 189 (2000 + 4 + 64 + k) else J 158 k := by
  unfold rv_m0 vr_ppr
  rw [vm_up_f _ _ _ _ _ (by decide : 158 ≠ 152), vm_up_f _ _ _ _ _ (by decide : 158 ≠ 152), vm_up_f _ _ _ _ _ (by decide : 158 ≠ 152), vm_up_f _ _ _ _ _ (by decide : 158 ≠ 152)]
  split
  · rename_i h
    rw [vr_pr_i _ _ _ _ _ (by decide) h, vr_pr_o _ _ _ _ _ (by decide) (by decide), vr_pr_o _ _ _ _ _ (by decide) (by decide), vm_up2_152 _ _ _ _ _ _ (by decide)]
  · rename_i h
    rw [vr_pr_g _ _ _ _ _ (by decide) (by omega), vr_pr_o _ _ _ _ _ (by decide) (by decide), vr_pr_o _ _ _ _ _ (by decide) (by decide), vm_up2_152 _ _ _ _ _ _ (by decide)]
theorem rv_m0_6 (J : Nat → Nat → Int32) : rv_m0 J 152 6 = J 189 (2000 + 4 + 64 + 64) := (vr_ppr_6 _ _).trans (by rw [vm_up2_152 _ _ _ _ _ _ (by decide)])
theorem rv_m0_7 (J : Nat → Nat → Int32) : rv_m0 J 152 7 = J 189 (2000 + 4 + 64 + 64 + 1) := (vr_ppr_7 _ _).trans (by rw [vm_up2_152 _ _ _ _ _ _ (by decide)])
/-- what was kept is there again -/
theorem rv_mb_all {I J : Nat → Nat → Int32} (h189 : J 189 = rv_m1 I 189) (h6 : ∀ k, 4 ≤ k → J 156 k = I 156 k) (h7 : ∀ k, 64 ≤ k → J 157 k = I 157 k) (h8 : ∀ k, 64 ≤ k → J 158 k = I 158 k) : rv_m0 J 156 = I 156 ∧ rv_m0 J 157 = I 157 ∧ rv_m0 J 158 = I 158 ∧ rv_m0 J 152 6 = I 152 6 ∧ rv_m0 J 152 7 = I 152 7 := by
  refine ⟨?_, ?_, ?_, ?_, ?_⟩
  · funext k
    rw [rv_m0_156, h189]
    split
    · rename_i h
      exact rv_m1_156 I k h
    · exact h6 k (by omega)
  · funext k
    rw [rv_m0_157, h189]
    split
    · rename_i h
      exact rv_m1_157 I k h
    · exact h7 k (by omega)
  · funext k
    rw [rv_m0_158, h189]
    split
    · rename_i h
      exact rv_m1_158 I k h
    · exact h8 k (by omega)
  · rw [rv_m0_6, h189]
    exact rv_m1_6 I
  · rw [rv_m0_7, h189]
    exact rv_m1_7 I
/-- an entry gone for a while -/
def rv_w2 (I : Nat → Nat → Int32) (p n e : Nat) : Nat → Nat → Int32 := vm_rm (vm_up (rv_m1 I) 156 p (nI (n - 1))) 157 158 (16 * p + e) (n - 1 - e)
theorem rv_w2_o (I : Nat → Nat → Int32) (p n e a : Nat) (h1 : a ≠ 189) (h2 : a ≠ 152) (h3 : a ≠ 156) (h4 : a ≠ 157) (h5 : a ≠ 158) : rv_w2 I p n e a = I a := by
  unfold rv_w2
  rw [vm_rm_o _ _ _ _ _ _ h4 h5, vm_up_f _ _ _ _ _ h3]
  exact rv_m1_o I a h1 h2
theorem rv_w2_189 (I : Nat → Nat → Int32) (p n e : Nat) : rv_w2 I p n e 189 = rv_m1 I 189 := by
  unfold rv_w2
  rw [vm_rm_o _ _ _ _ _ _ (by decide) (by decide), vm_up_f _ _ _ _ _ (by decide)]
theorem rv_w2_f (I : Nat → Nat → Int32) (p n e b : Nat) (h : b ≠ 56) (h5 : b ≠ 55) : rv_w2 I p n e 152 b = I 152 b := by
  unfold rv_w2
  rw [vm_rm_o _ _ _ _ _ _ (by decide) (by decide), vm_up_f _ _ _ _ _ (by decide)]
  exact rv_m1_f I b h h5
theorem rv_w2_n (I : Nat → Nat → Int32) (p n e : Nat) : rv_w2 I p n e 156 p = nI (n - 1) := by
  unfold rv_w2
  rw [vm_rm_o _ _ _ _ _ _ (by decide) (by decide), vm_up_h]
theorem rv_w2_g (I : Nat → Nat → Int32) (p n e : Nat) (hp : p < 4) (hn : n ≤ 16) (he : e < n) : (∀ k, 4 ≤ k → rv_w2 I p n e 156 k = I 156 k) ∧ (∀ k, 64 ≤ k → rv_w2 I p n e 157 k = I 157 k) ∧ (∀ k, 64 ≤ k → rv_w2 I p n e 158 k = I 158 k) := by
  unfold rv_w2
  refine ⟨fun k hk => ?_, fun k hk => ?_, fun k hk => ?_⟩
  · rw [vm_rm_o _ _ _ _ _ _ (by decide) (by decide), vm_up_k2 _ _ _ _ _ (by omega), rv_m1_o _ _ (by decide) (by decide)]
  · rw [vm_rm_a _ _ _ _ _ _ (by decide) (by omega), vm_up_f _ _ _ _ _ (by decide), rv_m1_o _ _ (by decide) (by decide)]
  · rw [vm_rm_b _ _ _ _ _ _ (by decide) (by omega), vm_up_f _ _ _ _ _ (by decide), rv_m1_o _ _ (by decide) (by decide)]
def rv_eH (H : vm_P2) (q p n w h kn g k : Nat) (m : Int32) (e : Nat) : vm_P2 := rv_mk (rv_w2 H.1 p n e, H.2) q p (n - 1) 1 w h kn g k 0 m
def rv_ew (H : vm_P2) (q p n w h kn g k : Nat) (m : Int32) (e : Nat) : vm_P2 := (rv_m0 (rv_eH H q p n w h kn g k m e).1, (rv_eH H q p n w h kn g k m e).2)
def rv_ev (H : vm_P2) (q p n w h kn g k : Nat) (m : Int32) (e : Nat) : Int32 := sp_e3 (fun z => (rv_eH H q p n w h kn g k m e).1 178 (144 * 1 + z)) (fun z => (rv_eH H q p n w h kn g k m e).1 176 (144 * 1 + z)) (w * h)
theorem rv_ew_b (H : vm_P2) (q p n w h kn g k : Nat) (m : Int32) (e : Nat) (hp : p < 4) (hn : n ≤ 16) (he : e < n) : (rv_ew H q p n w h kn g k m e).1 156 = H.1 156 ∧ (rv_ew H q p n w h kn g k m e).1 157 = H.1 157 ∧ (rv_ew H q p n w h kn g k m e).1 158 = H.1 158 ∧ (rv_ew H q p n w h kn g k m e).1 152 6 = H.1 152 6 ∧ (rv_ew H q p n w h kn g k m e).1 152 7 = H.1 152 7 := by
  have gg := rv_w2_g H.1 p n e hp hn he
  have o : ∀ a, a ≠ 173 → a ≠ 174 → a ≠ 175 → a ≠ 176 → a ≠ 177 → a ≠ 178 → (rv_eH H q p n w h kn g k m e).1 a = rv_w2 H.1 p n e a := fun a h1 h2 h3 h4 h5 h6 => rv_mk_o _ _ _ _ _ _ _ _ _ _ _ _ a h1 h2 h3 h4 h5 h6
  refine rv_mb_all ?_ ?_ ?_ ?_
  · rw [o 189 (by decide) (by decide) (by decide) (by decide) (by decide) (by decide), rv_w2_189]
  · intro z hz
    rw [o 156 (by decide) (by decide) (by decide) (by decide) (by decide) (by decide)]
    exact gg.1 z hz
  · intro z hz
    rw [o 157 (by decide) (by decide) (by decide) (by decide) (by decide) (by decide)]
    exact gg.2.1 z hz
  · intro z hz
    rw [o 158 (by decide) (by decide) (by decide) (by decide) (by decide) (by decide)]
    exact gg.2.2 z hz
theorem rv_ew_o (H : vm_P2) (q p n w h kn g k : Nat) (m : Int32) (e : Nat) (hp : p < 4) (hn : n ≤ 16) (he : e < n) (a : Nat) (h0 : a ≠ 152) (h9 : a ≠ 189) (h1 : a ≠ 173) (h2 : a ≠ 174) (h3 : a ≠ 175) (h4 : a ≠ 176) (h5 : a ≠ 177) (h6 : a ≠ 178) : (rv_ew H q p n w h kn g k m e).1 a = H.1 a := by
  have b := rv_ew_b H q p n w h kn g k m e hp hn he
  by_cases e6 : a = 156
  · rw [e6]; exact b.1
  · by_cases e7 : a = 157
    · rw [e7]; exact b.2.1
    · by_cases e8 : a = 158
      · rw [e8]; exact b.2.2.1
      · exact (rv_m0_o _ a e6 e7 e8 h0).trans ((rv_mk_o (rv_w2 H.1 p n e, H.2) q p (n - 1) 1 w h kn g k 0 m a h1 h2 h3 h4 h5 h6).trans (rv_w2_o H.1 p n e a h9 h0 e6 e7 e8))
theorem rv_ew_f (H : vm_P2) (q p n w h kn g k : Nat) (m : Int32) (e : Nat) (hp : p < 4) (hn : n ≤ 16) (he : e < n) (b : Nat) (h5 : b ≠ 55) (h6 : b ≠ 56) : (rv_ew H q p n w h kn g k m e).1 152 b = H.1 152 b := by
  have z := rv_ew_b H q p n w h kn g k m e hp hn he
  by_cases e6 : b = 6
  · rw [e6]; exact z.2.2.2.1
  · by_cases e7 : b = 7
    · rw [e7]; exact z.2.2.2.2
    · exact (rv_m0_f _ b h6 h5 e6 e7).trans ((congrFun (rv_mk_o (rv_w2 H.1 p n e, H.2) q p (n - 1) 1 w h kn g k 0 m 152 (by decide) (by decide) (by decide) (by decide) (by decide) (by decide)) b).trans (rv_w2_f H.1 p n e b h6 h5))
theorem rv_ew_p (H : vm_P2) (q p n w h kn g k : Nat) (m : Int32) (e a : Nat) (h1 : a ≠ 179) (h2 : a ≠ 180) (h3 : a ≠ 181) : (rv_ew H q p n w h kn g k m e).2 a = H.2 a := rv_mk_p (rv_w2 H.1 p n e, H.2) q p (n - 1) 1 w h kn g k 0 m a h1 h2 h3
theorem rv_ew_ok {H : vm_P2} {q p n w h kn g k : Nat} {m : Int32} {e : Nat} (hlo : ∀ i, i < 6 → vf_ok (H.2 179 i)) (hw2 : w ≤ 12) (hh2 : h ≤ 12) (hkn : kn < 5) : ∀ i, i < 6 → vf_ok ((rv_ew H q p n w h kn g k m e).2 179 i) := rv_mk_ok (H := (rv_w2 H.1 p n e, H.2)) (q := q) (p := p) (n := n - 1) (s := 1) (g := g) (k := k) (wy := 0) (m := m) hlo hw2 hh2 (by decide) hkn
set_option maxHeartbeats 4000000 in
set_option maxRecDepth 20000 in
/-- DitherDeskModel.errorWithout -/
theorem r_ew {l : Launch} {X : vm_Cx} {G : List vm_Sh} {I : Nat → Nat → Int32} {F : Nat → Nat → UInt32} {q : Nat} {p : Nat} {n : Nat} {w : Nat} {h : Nat} {kn : Nat} {g : Nat} {k : Nat} {e : Nat} {m : Int32} (hR : vm_isR G) (hn : I 156 p = nI n) (hp : p < 4) (he : e < n) (hn1 : 1 < n) (hn2 : n ≤ 16) (hw : I 153 q = nI w) (hh : I 154 q = nI h) (hq : q < 4) (hw2 : w ≤ 12) (hh2 : h ≤ 12) (hs : I 152 40 = 1) (hkn : I 152 7 = nI kn) (hkn2 : kn < 5) (hg : I 152 9 = nI g) (hg2 : g ≤ 63) (hk : I 152 8 = nI k) (hk2 : k < 3) (hlo : ∀ i_, i_ < 6 → vf_ok (F 179 i_)) (hz : I 152 6 = m) (hm : m = 0 ∨ m = 1 ∨ m = 2 ∨ m = 3) : vm_K l X vm_M280 [.ref 152, .int (nI q), .int (nI p), .int (nI e)] (G, I, F) (some (.int (rv_ev (I, F) q p n w h kn g k m e))) (G, ((rv_ew (I, F) q p n w h kn g k m e).1), ((rv_ew (I, F) q p n w h kn g k m e).2)) := by
  refine vm_K.mk (by decide) (Nat.le_of_ble_eq_true rfl) ?_
  show vm_J _ _ _ (0, (0, 0), [.ref 152, .int (nI q), .int (nI p), .int (nI e), .retAddr 0], []) _ _ _
  refine vm_J.go vm_q280 (k := 2) (hs := []) (f' := (2, (0, 0), [.ref 152, .int (nI q), .int (nI p), .int (nI e), .retAddr 0], [.int 1, .ref 152])) (h' := (G, I, F)) (hs' := []) rfl rfl ?_
  refine vm_J.call vm_q280 (Z := vm_M277) (n := 1) (k := 0) (mi := 277) (pc := 2) (en := (2, .invokevirtual 486, 3, [277, 1771, 0], .null)) rfl trivial rfl rfl vm_z277 (av := [.ref 152, .int 1]) (rest := []) (r_minds_1 (I := I) (F := F) hR) ⟨_, _, rfl, rfl, _, 11, _, hR.c152, rfl, rfl, rfl⟩ (Nat.le_of_ble_eq_true rfl) ⟨Nat.le_of_ble_eq_true rfl, Nat.le_of_ble_eq_true rfl⟩ ⟨Nat.le_of_ble_eq_true rfl, Nat.le_of_ble_eq_true rfl⟩ ?_
  show vm_J _ _ _ (5, (0, 0), [.ref 152, .int (nI q), .int (nI p), .int (nI e), .retAddr 0], []) (G, (rv_m1 I), F) _ _
  refine vm_J.go vm_q280 (k := 3) (hs := []) (f' := (8, (0, 0), [.ref 152, .int (nI q), .int (nI p), .int (nI e), .retAddr 0], [.int (nI e), .int (nI p), .ref 152])) (h' := (G, (rv_m1 I), F)) (hs' := []) rfl rfl ?_
  refine vm_J.call vm_q280 (Z := vm_M214) (n := 2) (k := 0) (mi := 214) (pc := 8) (en := (8, .invokevirtual 267, 3, [214, 1472, 0], .null)) rfl trivial rfl rfl vm_z214 (av := [.ref 152, .int (nI p), .int (nI e)]) (rest := []) (r_goes (I := (rv_m1 I)) (F := F) (p := p) (n := n) (e := e) hR (Eq.trans (congrFun (rv_m1_o _ 156 (by decide) (by decide)) p) hn) hp hn2 he) ⟨_, _, rfl, rfl, _, 11, _, hR.c152, rfl, rfl, rfl⟩ (Nat.le_of_ble_eq_true rfl) ⟨Nat.le_of_ble_eq_true rfl, Nat.le_of_ble_eq_true rfl⟩ ⟨Nat.le_of_ble_eq_true rfl, Nat.le_of_ble_eq_true rfl⟩ ?_
  show vm_J _ _ _ (11, (0, 0), [.ref 152, .int (nI q), .int (nI p), .int (nI e), .retAddr 0], []) (G, (rv_w2 I p n e), F) _ _
  refine vm_J.go vm_q280 (k := 4) (hs := []) (f' := (15, (0, 0), [.ref 152, .int (nI q), .int (nI p), .int (nI e), .retAddr 0], [.int 0, .int (nI p), .int (nI q), .ref 152])) (h' := (G, (rv_w2 I p n e), F)) (hs' := []) rfl rfl ?_
  refine vm_J.call vm_q280 (Z := vm_M252) (n := 3) (k := 0) (mi := 252) (pc := 15) (en := (15, .invokevirtual 418, 3, [252, 1583, 0], .null)) rfl trivial rfl rfl vm_z252 (av := [.ref 152, .int (nI q), .int (nI p), .int 0]) (rest := []) (r_mk (I := (rv_w2 I p n e)) (F := F) (q := q) (p := p) (n := n - 1) (s := 1) (w := w) (h := h) (kn := kn) (g := g) (k := k) (wy := 0) (m := m) hR (rv_w2_n _ _ _ _) hp (by omega) (by omega) (Eq.trans (congrFun (rv_w2_o _ _ _ _ 153 (by decide) (by decide) (by decide) (by decide) (by decide)) q) hw) (Eq.trans (congrFun (rv_w2_o _ _ _ _ 154 (by decide) (by decide) (by decide) (by decide) (by decide)) q) hh) hq hw2 hh2 (Eq.trans (rv_w2_f _ _ _ _ 40 (by decide) (by decide)) hs) (by decide) (Eq.trans (rv_w2_f _ _ _ _ 7 (by decide) (by decide)) hkn) hkn2 (Eq.trans (rv_w2_f _ _ _ _ 9 (by decide) (by decide)) hg) hg2 (Eq.trans (rv_w2_f _ _ _ _ 8 (by decide) (by decide)) hk) hk2 hlo (Eq.trans (rv_w2_f _ _ _ _ 6 (by decide) (by decide)) hz) hm (by decide)) ⟨_, _, rfl, rfl, _, 11, _, hR.c152, rfl, rfl, rfl⟩ (Nat.le_of_ble_eq_true rfl) ⟨Nat.le_of_ble_eq_true rfl, Nat.le_of_ble_eq_true rfl⟩ ⟨Nat.le_of_ble_eq_true rfl, Nat.le_of_ble_eq_true rfl⟩ ?_
  show vm_J _ _ _ (18, (0, 0), [.ref 152, .int (nI q), .int (nI p), .int (nI e), .retAddr 0], []) (G, ((rv_mk ((rv_w2 I p n e), F) q p (n - 1) 1 w h kn g k 0 m).1), ((rv_mk ((rv_w2 I p n e), F) q p (n - 1) 1 w h kn g k 0 m).2)) _ _
  refine vm_J.go vm_q280 (k := 1) (hs := []) (f' := (19, (0, 0), [.ref 152, .int (nI q), .int (nI p), .int (nI e), .retAddr 0], [.ref 152])) (h' := (G, ((rv_mk ((rv_w2 I p n e), F) q p (n - 1) 1 w h kn g k 0 m).1), ((rv_mk ((rv_w2 I p n e), F) q p (n - 1) 1 w h kn g k 0 m).2))) (hs' := []) rfl rfl ?_
  refine vm_J.call vm_q280 (Z := vm_M255) (n := 0) (k := 0) (mi := 255) (pc := 19) (en := (19, .invokevirtual 436, 3, [255, 1690, 0], .null)) rfl trivial rfl rfl vm_z255 (av := [.ref 152]) (rest := []) (r_errNow (I := ((rv_mk ((rv_w2 I p n e), F) q p (n - 1) 1 w h kn g k 0 m).1)) (F := ((rv_mk ((rv_w2 I p n e), F) q p (n - 1) 1 w h kn g k 0 m).2)) (s := 1) (w := w) (h := h) hR (Eq.trans (congrFun (show (rv_mk ((rv_w2 I p n e), F) q p (n - 1) 1 w h kn g k 0 m).1 152 = (rv_w2 I p n e) 152 from (rv_mk_o _ _ _ _ _ _ _ _ _ _ _ _ 152 (by decide) (by decide) (by decide) (by decide) (by decide) (by decide))) 40) (Eq.trans (rv_w2_f _ _ _ _ 40 (by decide) (by decide)) hs)) (rv_mk_f _ _ _ _ _ _ _ _ _ _ _ _ (by omega)).1 (rv_mk_f _ _ _ _ _ _ _ _ _ _ _ _ (by omega)).2.1 (by omega) (by omega) (by omega)) ⟨_, _, rfl, rfl, _, 11, _, hR.c152, rfl, rfl, rfl⟩ (Nat.le_of_ble_eq_true rfl) ⟨Nat.le_of_ble_eq_true rfl, Nat.le_of_ble_eq_true rfl⟩ ⟨Nat.le_of_ble_eq_true rfl, Nat.le_of_ble_eq_true rfl⟩ ?_
  show vm_J _ _ _ (22, (0, 0), [.ref 152, .int (nI q), .int (nI p), .int (nI e), .retAddr 0], [.int (sp_e3 (fun z => ((rv_mk ((rv_w2 I p n e), F) q p (n - 1) 1 w h kn g k 0 m).1) 178 (144 * 1 + z)) (fun z => ((rv_mk ((rv_w2 I p n e), F) q p (n - 1) 1 w h kn g k 0 m).1) 176 (144 * 1 + z)) (w * h))]) (G, ((rv_mk ((rv_w2 I p n e), F) q p (n - 1) 1 w h kn g k 0 m).1), ((rv_mk ((rv_w2 I p n e), F) q p (n - 1) 1 w h kn g k 0 m).2)) _ _
  refine vm_J.go vm_q280 (k := 3) (hs := []) (f' := (26, (0, 0), [.ref 152, .int (nI q), .int (nI p), .int (nI e), .int (sp_e3 (fun z => ((rv_mk ((rv_w2 I p n e), F) q p (n - 1) 1 w h kn g k 0 m).1) 178 (144 * 1 + z)) (fun z => ((rv_mk ((rv_w2 I p n e), F) q p (n - 1) 1 w h kn g k 0 m).1) 176 (144 * 1 + z)) (w * h))], [.int 0, .ref 152])) (h' := (G, ((rv_mk ((rv_w2 I p n e), F) q p (n - 1) 1 w h kn g k 0 m).1), ((rv_mk ((rv_w2 I p n e), F) q p (n - 1) 1 w h kn g k 0 m).2))) (hs' := []) rfl rfl ?_
  refine vm_J.call vm_q280 (Z := vm_M277) (n := 1) (k := 0) (mi := 277) (pc := 26) (en := (26, .invokevirtual 486, 3, [277, 1771, 0], .null)) rfl trivial rfl rfl vm_z277 (av := [.ref 152, .int 0]) (rest := []) (r_minds_0 (I := ((rv_mk ((rv_w2 I p n e), F) q p (n - 1) 1 w h kn g k 0 m).1)) (F := ((rv_mk ((rv_w2 I p n e), F) q p (n - 1) 1 w h kn g k 0 m).2)) hR) ⟨_, _, rfl, rfl, _, 11, _, hR.c152, rfl, rfl, rfl⟩ (Nat.le_of_ble_eq_true rfl) ⟨Nat.le_of_ble_eq_true rfl, Nat.le_of_ble_eq_true rfl⟩ ⟨Nat.le_of_ble_eq_true rfl, Nat.le_of_ble_eq_true rfl⟩ ?_
  show vm_J _ _ _ (29, (0, 0), [.ref 152, .int (nI q), .int (nI p), .int (nI e), .int (sp_e3 (fun z => ((rv_mk ((rv_w2 I p n e), F) q p (n - 1) 1 w h kn g k 0 m).1) 178 (144 * 1 + z)) (fun z => ((rv_mk ((rv_w2 I p n e), F) q p (n - 1) 1 w h kn g k 0 m).1) 176 (144 * 1 + z)) (w * h))], []) (G, (rv_m0 ((rv_mk ((rv_w2 I p n e), F) q p (n - 1) 1 w h kn g k 0 m).1)), ((rv_mk ((rv_w2 I p n e), F) q p (n - 1) 1 w h kn g k 0 m).2)) _ _
  refine vm_J.go vm_q280 (k := 1) (hs := []) (f' := (31, (0, 0), [.ref 152, .int (nI q), .int (nI p), .int (nI e), .int (sp_e3 (fun z => ((rv_mk ((rv_w2 I p n e), F) q p (n - 1) 1 w h kn g k 0 m).1) 178 (144 * 1 + z)) (fun z => ((rv_mk ((rv_w2 I p n e), F) q p (n - 1) 1 w h kn g k 0 m).1) 176 (144 * 1 + z)) (w * h))], [.int (sp_e3 (fun z => ((rv_mk ((rv_w2 I p n e), F) q p (n - 1) 1 w h kn g k 0 m).1) 178 (144 * 1 + z)) (fun z => ((rv_mk ((rv_w2 I p n e), F) q p (n - 1) 1 w h kn g k 0 m).1) 176 (144 * 1 + z)) (w * h))])) (h' := (G, (rv_m0 ((rv_mk ((rv_w2 I p n e), F) q p (n - 1) 1 w h kn g k 0 m).1)), ((rv_mk ((rv_w2 I p n e), F) q p (n - 1) 1 w h kn g k 0 m).2))) (hs' := []) rfl rfl ?_
  exact vm_J.end vm_q280 (en := (31, .ireturn, 1, [], .null)) rfl rfl vm_rI (Nat.zero_le _) (Nat.zero_le _) rfl
