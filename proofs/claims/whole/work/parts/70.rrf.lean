/-- a refining pass of the reference: what is tallied, what entries become, the ints then, and whether one changed -/
def vr_J (I : Nat → Nat → Int32) (p q n N : Nat) (m : Int32) : Nat → Nat → Int32 := vm_gat (vm_gz I 171 170) 171 170 (fun y => sp_nn (fun z => sp_far m (I 157 (16 * p + z)) (I 155 (144 * q + y))) (n - 1)) (fun y => I 155 (144 * q + y)) N
def vr_be (I : Nat → Nat → Int32) (p q n N : Nat) (m : Int32) : Nat → Int32 := fun e => sp_be (vr_J I p q n N m 170) (vr_J I p q n N m 171) (I 157 (16 * p + e)) (I 158 (16 * p + e)) e
def vr_rs (J : Nat → Nat → Int32) (p n : Nat) (B : Nat → Int32) : Nat → Nat → Nat → Int32
  | 0 => J
  | e + 1 => if sp_ew (fun z => vr_rs J p n B e 157 (16 * p + z)) (B e) n < 0 then vm_up (vr_rs J p n B e) 157 (16 * p + e) (B e) else vr_rs J p n B e
def vr_rc (J : Nat → Nat → Int32) (p n : Nat) (B : Nat → Int32) : Nat → Int32
  | 0 => 0
  | e + 1 => if sp_ew (fun z => vr_rs J p n B e 157 (16 * p + z)) (B e) n < 0 then 1 else vr_rc J p n B e
theorem vr_rs_o (J : Nat → Nat → Int32) (p n : Nat) (B : Nat → Int32) (a : Nat) (h : a ≠ 157) : ∀ e, vr_rs J p n B e a = J a
  | 0 => rfl
  | e + 1 => by
    unfold vr_rs
    split
    · rw [vm_up_f _ _ _ _ _ h]
      exact vr_rs_o J p n B a h e
    · exact vr_rs_o J p n B a h e
theorem vr_rc_01 (J : Nat → Nat → Int32) (p n : Nat) (B : Nat → Int32) : ∀ e, vr_rc J p n B e = 0 ∨ vr_rc J p n B e = 1
  | 0 => Or.inl rfl
  | e + 1 => by
    unfold vr_rc
    split
    · exact Or.inr rfl
    · exact vr_rc_01 J p n B e
theorem vr_r_y {J : Nat → Nat → Int32} {p n : Nat} {B : Nat → Int32} {e : Nat} (h : sp_ew (fun z => vr_rs J p n B e 157 (16 * p + z)) (B e) n < 0) : vr_rs J p n B (e + 1) = vm_up (vr_rs J p n B e) 157 (16 * p + e) (B e) ∧ vr_rc J p n B (e + 1) = 1 := ⟨if_pos h, if_pos h⟩
theorem vr_r_n {J : Nat → Nat → Int32} {p n : Nat} {B : Nat → Int32} {e : Nat} (h : ¬ sp_ew (fun z => vr_rs J p n B e 157 (16 * p + z)) (B e) n < 0) : vr_rs J p n B (e + 1) = vr_rs J p n B e ∧ vr_rc J p n B (e + 1) = vr_rc J p n B e := ⟨if_neg h, if_neg h⟩
def vr_K (I : Nat → Nat → Int32) (p q n N : Nat) (m : Int32) : Nat → Nat → Int32 := vm_wr (vr_J I p q n N m) 172 (vr_be I p q n N m) n
def vr_R (I : Nat → Nat → Int32) (p q n N : Nat) (m : Int32) : Nat → Nat → Int32 := vr_rs (vr_K I p q n N m) p n (vr_be I p q n N m) n
def vr_F (I : Nat → Nat → Int32) (p q n N : Nat) (m : Int32) : Int32 := vr_rc (vr_K I p q n N m) p n (vr_be I p q n N m) n
theorem vr_K_o (I : Nat → Nat → Int32) (p q n N : Nat) (m : Int32) (a : Nat) (h1 : a ≠ 170) (h2 : a ≠ 171) (h3 : a ≠ 172) : vr_K I p q n N m a = I a := by
  unfold vr_K vr_J
  rw [vm_wr_o _ _ _ _ _ h3]
  funext z
  rw [vm_gat_o _ _ _ _ _ _ h2 h1, vm_gz_o _ _ _ _ h2 h1]
theorem vr_K_h (I : Nat → Nat → Int32) (p q n N : Nat) (m : Int32) (e : Nat) (he : e < n) : vr_K I p q n N m 172 e = vr_be I p q n N m e := vm_wr_h _ _ _ _ _ he
theorem vr_R_o (I : Nat → Nat → Int32) (p q n N : Nat) (m : Int32) (a : Nat) (h0 : a ≠ 157) (h1 : a ≠ 170) (h2 : a ≠ 171) (h3 : a ≠ 172) : vr_R I p q n N m a = I a := (vr_rs_o _ _ _ _ _ h0 _).trans (vr_K_o I p q n N m a h1 h2 h3)
theorem r_means1 {l : Launch} {X : vm_Cx} {G : List vm_Sh} {I : Nat → Nat → Int32} {F : Nat → Nat → UInt32} {p n q w h : Nat} {m : Int32} (hR : vm_isR G) (hn : I 156 p = nI n) (hp : p < 4) (hn2 : n ≤ 16) (hn0 : 0 < n) (hw : I 153 q = nI w) (hh : I 154 q = nI h) (hq : q < 4) (hw2 : w ≤ 12) (hh2 : h ≤ 12) (hz : I 152 6 = m) (hm : m = 0 ∨ m = 1 ∨ m = 2 ∨ m = 3) : vm_K l X vm_M238 [.ref 152, .int (nI p), .int (nI q)] (G, I, F) none (G, vr_K I p q n (w * h) m, F) := r_means hR hn hp hn2 hn0 hw hh hq hw2 hh2 hz hm
set_option maxHeartbeats 4000000 in
set_option maxRecDepth 20000 in
/-- DitherDeskModel.refines -/
theorem r_refines {l : Launch} {X : vm_Cx} {G : List vm_Sh} {I : Nat → Nat → Int32} {F : Nat → Nat → UInt32} {p : Nat} {n : Nat} {q : Nat} {w : Nat} {h : Nat} {m : Int32} (hR : vm_isR G) (hn : I 156 p = nI n) (hp : p < 4) (hn2 : n ≤ 16) (hn0 : 0 < n) (hw : I 153 q = nI w) (hh : I 154 q = nI h) (hq : q < 4) (hw2 : w ≤ 12) (hh2 : h ≤ 12) (hz : I 152 6 = m) (hm : m = 0 ∨ m = 1 ∨ m = 2 ∨ m = 3) : vm_K l X vm_M239 [.ref 152, .int (nI p), .int (nI q)] (G, I, F) (some (.int (vr_F I p q n (w * h) m))) (G, (vr_R I p q n (w * h) m), F) := by
  refine vm_K.mk (by decide) (Nat.le_of_ble_eq_true rfl) ?_
  have hwh := vm_mul144 hw2 hh2
  show vm_J _ _ _ (0, (0, 0), [.ref 152, .int (nI p), .int (nI q), .retAddr 0, .retAddr 0], []) _ _ _
  refine vm_J.go vm_q239 (k := 3) (hs := []) (f' := (3, (0, 0), [.ref 152, .int (nI p), .int (nI q), .retAddr 0, .retAddr 0], [.int (nI q), .int (nI p), .ref 152])) (h' := (G, I, F)) (hs' := []) rfl rfl ?_
  refine vm_J.call vm_q239 (Z := vm_M238) (n := 2) (k := 0) (mi := 238) (pc := 3) (en := (3, .invokevirtual 331, 3, [238, 1575, 0], .null)) rfl trivial rfl rfl vm_z238 (av := [.ref 152, .int (nI p), .int (nI q)]) (rest := []) (r_means1 (p := p) (n := n) (q := q) (w := w) (h := h) (m := m) hR hn (by omega) (by omega) (by omega) hw hh (by omega) (by omega) (by omega) hz hm) ⟨_, _, rfl, rfl, _, 11, _, hR.c152, rfl, rfl, rfl⟩ (Nat.le_of_ble_eq_true rfl) ⟨Nat.le_of_ble_eq_true rfl, Nat.le_of_ble_eq_true rfl⟩ ⟨Nat.le_of_ble_eq_true rfl, Nat.le_of_ble_eq_true rfl⟩ ?_
  show vm_J _ _ _ (6, (0, 0), [.ref 152, .int (nI p), .int (nI q), .retAddr 0, .retAddr 0], []) (G, (vr_K I p q n (w * h) m), F) _ _
  refine vm_J.go vm_q239 (k := 4) (hs := []) (f' := (11, (0, 0), [.ref 152, .int (nI p), .int (nI q), .int 0, .int 0], [])) (h' := (G, (vr_K I p q n (w * h) m), F)) (hs' := []) rfl rfl ?_
  refine vm_J.cnt n (fun e => (11, (0, 0), [.ref 152, .int (nI p), .int (nI q), .int (vr_rc (vr_K I p q n (w * h) m) p n (vr_be I p q n (w * h) m) e), .int (nI e)], [])) (fun e => (G, (vr_rs (vr_K I p q n (w * h) m) p n (vr_be I p q n (w * h) m) e), F)) (fun _ => True) rfl rfl trivial (fun e he pe ie => ?_) (fun pe => ?_)
  · show vm_J _ _ _ (11, (0, 0), [.ref 152, .int (nI p), .int (nI q), .int (vr_rc (vr_K I p q n (w * h) m) p n (vr_be I p q n (w * h) m) e), .int (nI e)], []) (G, (vr_rs (vr_K I p q n (w * h) m) p n (vr_be I p q n (w * h) m) e), F) _ _
    refine vm_J.go vm_q239 (k := 5) (hs := [vm_shR, (0, 4, [])]) (f' := (19, (0, 0), [.ref 152, .int (nI p), .int (nI q), .int (vr_rc (vr_K I p q n (w * h) m) p n (vr_be I p q n (w * h) m) e), .int (nI e)], [.int ((vr_rs (vr_K I p q n (w * h) m) p n (vr_be I p q n (w * h) m) e) 156 (nI p).toNatClampNeg), .int (nI e)])) (h' := (G, (vr_rs (vr_K I p q n (w * h) m) p n (vr_be I p q n (w * h) m) e), F)) (hs' := []) rfl (vm_b2 rfl (vm_b2 rfl (vm_b2 (vm_b2 (vm_hG hR.c152) rfl) (vm_b2 rfl (vm_b2 (vm_b2 (vm_hG hR.c156) (vm_in_e (j := p) (n := 4) rfl (by omega) (by omega))) rfl))))) ?_
    rw [vm_ix_e (j := p) rfl (by omega)]
    rw [((Eq.trans (congrFun (vr_rs_o _ _ _ _ 156 (by decide) _) p) (Eq.trans (congrFun (vr_K_o _ _ _ _ _ _ 156 (by decide) (by decide) (by decide)) p) hn)) : (vr_rs (vr_K I p q n (w * h) m) p n (vr_be I p q n (w * h) m) e) 156 p = nI n)]
    refine vm_J.go vm_q239 (k := 1) (hs := []) (f' := (bif vm_ic .ge (nI e) (nI n) then 67 else 22, (0, 0), [.ref 152, .int (nI p), .int (nI q), .int (vr_rc (vr_K I p q n (w * h) m) p n (vr_be I p q n (w * h) m) e), .int (nI e)], [])) (h' := (G, (vr_rs (vr_K I p q n (w * h) m) p n (vr_be I p q n (w * h) m) e), F)) (hs' := []) rfl rfl ?_
    refine vm_J.br (fun c1 => ?_) (fun c1 => ?_)
    · have c1 := vm_ge_t (a := e) (b := n) (by omega) (by omega) c1
      exact (show False by omega).elim
    · have c1 := vm_ge_f (a := e) (b := n) (by omega) (by omega) c1
      refine vm_J.go vm_q239 (k := 6) (hs := [vm_shR, (0, 16, [])]) (f' := (31, (0, 0), [.ref 152, .int (nI p), .int (nI q), .int (vr_rc (vr_K I p q n (w * h) m) p n (vr_be I p q n (w * h) m) e), .int (nI e)], [.int ((vr_rs (vr_K I p q n (w * h) m) p n (vr_be I p q n (w * h) m) e) 172 (nI e).toNatClampNeg), .int (nI p), .ref 152])) (h' := (G, (vr_rs (vr_K I p q n (w * h) m) p n (vr_be I p q n (w * h) m) e), F)) (hs' := []) rfl (vm_b2 rfl (vm_b2 rfl (vm_b2 rfl (vm_b2 (vm_b2 (vm_hG hR.c152) rfl) (vm_b2 rfl (vm_b2 (vm_b2 (vm_hG hR.c172) (vm_in_e (j := e) (n := 16) rfl (by omega) (by omega))) rfl)))))) ?_
      rw [vm_ix_e (j := e) rfl (by omega)]
      rw [((Eq.trans (congrFun (vr_rs_o _ _ _ _ 172 (by decide) _) e) (vr_K_h _ _ _ _ _ _ e (by omega))) : (vr_rs (vr_K I p q n (w * h) m) p n (vr_be I p q n (w * h) m) e) 172 e = vr_be I p q n (w * h) m e)]
      refine vm_J.call vm_q239 (Z := vm_M211) (n := 2) (k := 0) (mi := 211) (pc := 31) (en := (31, .invokevirtual 258, 3, [211, 1456, 0], .null)) rfl trivial rfl rfl vm_z211 (av := [.ref 152, .int (nI p), .int (vr_be I p q n (w * h) m e)]) (rest := []) (r_entryWith (p := p) (n := n) (c := vr_be I p q n (w * h) m e) hR (by omega) (Eq.trans (congrFun (vr_rs_o _ _ _ _ 156 (by decide) _) p) (Eq.trans (congrFun (vr_K_o _ _ _ _ _ _ 156 (by decide) (by decide) (by decide)) p) hn)) (by omega)) ⟨_, _, rfl, rfl, _, 11, _, hR.c152, rfl, rfl, rfl⟩ (Nat.le_of_ble_eq_true rfl) ⟨Nat.le_of_ble_eq_true rfl, Nat.le_of_ble_eq_true rfl⟩ ⟨Nat.le_of_ble_eq_true rfl, Nat.le_of_ble_eq_true rfl⟩ ?_
      show vm_J _ _ _ (34, (0, 0), [.ref 152, .int (nI p), .int (nI q), .int (vr_rc (vr_K I p q n (w * h) m) p n (vr_be I p q n (w * h) m) e), .int (nI e)], [.int (sp_ew (fun z => (vr_rs (vr_K I p q n (w * h) m) p n (vr_be I p q n (w * h) m) e) 157 (16 * p + z)) (vr_be I p q n (w * h) m e) n)]) (G, (vr_rs (vr_K I p q n (w * h) m) p n (vr_be I p q n (w * h) m) e), F) _ _
      refine vm_J.go vm_q239 (k := 1) (hs := []) (f' := (bif vm_ic .lt (sp_ew (fun z => (vr_rs (vr_K I p q n (w * h) m) p n (vr_be I p q n (w * h) m) e) 157 (16 * p + z)) (vr_be I p q n (w * h) m e) n) 0 then 40 else 37, (0, 0), [.ref 152, .int (nI p), .int (nI q), .int (vr_rc (vr_K I p q n (w * h) m) p n (vr_be I p q n (w * h) m) e), .int (nI e)], [])) (h' := (G, (vr_rs (vr_K I p q n (w * h) m) p n (vr_be I p q n (w * h) m) e), F)) (hs' := []) rfl rfl ?_
      refine vm_J.br (fun c2 => ?_) (fun c2 => ?_)
      · have c2 : (sp_ew (fun z => (vr_rs (vr_K I p q n (w * h) m) p n (vr_be I p q n (w * h) m) e) 157 (16 * p + z)) (vr_be I p q n (w * h) m e) n) < 0 := of_decide_eq_true c2
        refine vm_J.go vm_q239 (k := 11) (hs := [vm_shR, vm_shR, (0, 16, [])]) (f' := (58, (0, 0), [.ref 152, .int (nI p), .int (nI q), .int (vr_rc (vr_K I p q n (w * h) m) p n (vr_be I p q n (w * h) m) e), .int (nI e)], [.int ((vr_rs (vr_K I p q n (w * h) m) p n (vr_be I p q n (w * h) m) e) 172 (nI e).toNatClampNeg), .int ((16 * (nI p)) + (nI e)), .ref 157])) (h' := (G, (vr_rs (vr_K I p q n (w * h) m) p n (vr_be I p q n (w * h) m) e), F)) (hs' := []) rfl (vm_b2 rfl (vm_b2 (vm_b2 (vm_hG hR.c152) rfl) (vm_b2 rfl (vm_b2 rfl (vm_b2 rfl (vm_b2 rfl (vm_b2 rfl (vm_b2 rfl (vm_b2 (vm_b2 (vm_hG hR.c152) rfl) (vm_b2 rfl (vm_b2 (vm_b2 (vm_hG hR.c172) (vm_in_e (j := e) (n := 16) rfl (by omega) (by omega))) rfl))))))))))) ?_
        rw [vm_ix_e (j := e) rfl (by omega), ((vm_pa (vm_pm (rfl : (16 : Int32) = nI 16) (rfl : (nI p : Int32) = nI p)) (rfl : (nI e : Int32) = nI e)) : (16 * (nI p)) + (nI e) = nI ((16 * p) + e))]
        rw [((Eq.trans (congrFun (vr_rs_o _ _ _ _ 172 (by decide) _) e) (vr_K_h _ _ _ _ _ _ e (by omega))) : (vr_rs (vr_K I p q n (w * h) m) p n (vr_be I p q n (w * h) m) e) 172 e = vr_be I p q n (w * h) m e)]
        refine vm_J.go vm_q239 (k := 5) (hs := [(0, 64, [])]) (f' := (11, (0, 0), [.ref 152, .int (nI p), .int (nI q), .int 1, .int ((nI e) + 1)], [])) (h' := (G, (vm_up (vr_rs (vr_K I p q n (w * h) m) p n (vr_be I p q n (w * h) m) e) 157 ((nI ((16 * p) + e)).toNatClampNeg) (vr_be I p q n (w * h) m e)), F)) (hs' := []) rfl (vm_b2 (vm_b2 (vm_hG hR.c157) (vm_in_e (j := (16 * p) + e) (n := 64) rfl (by omega) (by omega))) (vm_b2 rfl (vm_b2 rfl (vm_b2 rfl (vm_b2 rfl rfl))))) ?_
        rw [vm_ix_e (j := (16 * p) + e) rfl (by omega), ((vm_pa (rfl : nI e = nI e) (rfl : (1 : Int32) = nI 1)) : (nI e) + 1 = nI (e + 1))]
        have z := ie trivial
        obtain ⟨y1, y2⟩ := vr_r_y c2
        rw [y1, y2] at z
        exact z
      · have c2 : ¬ ((sp_ew (fun z => (vr_rs (vr_K I p q n (w * h) m) p n (vr_be I p q n (w * h) m) e) 157 (16 * p + z)) (vr_be I p q n (w * h) m e) n) < 0) := of_decide_eq_false c2
        refine vm_J.go vm_q239 (k := 3) (hs := []) (f' := (11, (0, 0), [.ref 152, .int (nI p), .int (nI q), .int (vr_rc (vr_K I p q n (w * h) m) p n (vr_be I p q n (w * h) m) e), .int ((nI e) + 1)], [])) (h' := (G, (vr_rs (vr_K I p q n (w * h) m) p n (vr_be I p q n (w * h) m) e), F)) (hs' := []) rfl rfl ?_
        rw [((vm_pa (rfl : nI e = nI e) (rfl : (1 : Int32) = nI 1)) : (nI e) + 1 = nI (e + 1))]
        have z := ie trivial
        obtain ⟨y1, y2⟩ := vr_r_n c2
        rw [y1, y2] at z
        exact z
  · show vm_J _ _ _ (11, (0, 0), [.ref 152, .int (nI p), .int (nI q), .int (vr_rc (vr_K I p q n (w * h) m) p n (vr_be I p q n (w * h) m) n), .int (nI n)], []) (G, (vr_rs (vr_K I p q n (w * h) m) p n (vr_be I p q n (w * h) m) n), F) _ _
    refine vm_J.go vm_q239 (k := 5) (hs := [vm_shR, (0, 4, [])]) (f' := (19, (0, 0), [.ref 152, .int (nI p), .int (nI q), .int (vr_rc (vr_K I p q n (w * h) m) p n (vr_be I p q n (w * h) m) n), .int (nI n)], [.int ((vr_rs (vr_K I p q n (w * h) m) p n (vr_be I p q n (w * h) m) n) 156 (nI p).toNatClampNeg), .int (nI n)])) (h' := (G, (vr_rs (vr_K I p q n (w * h) m) p n (vr_be I p q n (w * h) m) n), F)) (hs' := []) rfl (vm_b2 rfl (vm_b2 rfl (vm_b2 (vm_b2 (vm_hG hR.c152) rfl) (vm_b2 rfl (vm_b2 (vm_b2 (vm_hG hR.c156) (vm_in_e (j := p) (n := 4) rfl (by omega) (by omega))) rfl))))) ?_
    rw [vm_ix_e (j := p) rfl (by omega)]
    rw [((Eq.trans (congrFun (vr_rs_o _ _ _ _ 156 (by decide) _) p) (Eq.trans (congrFun (vr_K_o _ _ _ _ _ _ 156 (by decide) (by decide) (by decide)) p) hn)) : (vr_rs (vr_K I p q n (w * h) m) p n (vr_be I p q n (w * h) m) n) 156 p = nI n)]
    refine vm_J.go vm_q239 (k := 1) (hs := []) (f' := (bif vm_ic .ge (nI n) (nI n) then 67 else 22, (0, 0), [.ref 152, .int (nI p), .int (nI q), .int (vr_rc (vr_K I p q n (w * h) m) p n (vr_be I p q n (w * h) m) n), .int (nI n)], [])) (h' := (G, (vr_rs (vr_K I p q n (w * h) m) p n (vr_be I p q n (w * h) m) n), F)) (hs' := []) rfl rfl ?_
    refine vm_J.br (fun c3 => ?_) (fun c3 => ?_)
    · have c3 := vm_ge_t (a := n) (b := n) (by omega) (by omega) c3
      refine vm_J.go vm_q239 (k := 1) (hs := []) (f' := (68, (0, 0), [.ref 152, .int (nI p), .int (nI q), .int (vr_rc (vr_K I p q n (w * h) m) p n (vr_be I p q n (w * h) m) n), .int (nI n)], [.int (vr_rc (vr_K I p q n (w * h) m) p n (vr_be I p q n (w * h) m) n)])) (h' := (G, (vr_rs (vr_K I p q n (w * h) m) p n (vr_be I p q n (w * h) m) n), F)) (hs' := []) rfl rfl ?_
      exact vm_J.end vm_q239 (en := (68, .ireturn, 1, [], .null)) rfl rfl (vm_rZ (vr_rc_01 _ _ _ _ _)) (Nat.zero_le _) (Nat.zero_le _) rfl
    · have c3 := vm_ge_f (a := n) (b := n) (by omega) (by omega) c3
      exact (show False by omega).elim
/-- passes, one behind another -/
def vr_it (I : Nat → Nat → Int32) (p q n N : Nat) (m : Int32) : Nat → Nat → Nat → Int32
  | 0 => I
  | t + 1 => vr_R (vr_it I p q n N m t) p q n N m
theorem vr_it_o (I : Nat → Nat → Int32) (p q n N : Nat) (m : Int32) (a : Nat) (h0 : a ≠ 157) (h1 : a ≠ 170) (h2 : a ≠ 171) (h3 : a ≠ 172) : ∀ t, vr_it I p q n N m t a = I a
  | 0 => rfl
  | t + 1 => (vr_R_o _ _ _ _ _ _ _ h0 h1 h2 h3).trans (vr_it_o I p q n N m a h0 h1 h2 h3 t)
/-- the first pass that changes nothing -/
def vr_ft (I : Nat → Nat → Int32) (p q n N : Nat) (m : Int32) (k : Nat) : Nat := sp_fi (fun t => ¬ vr_F (vr_it I p q n N m t) p q n N m = 1) k
def vr_ith (I : Nat → Nat → Int32) (p q n N : Nat) (m : Int32) (k : Nat) : Nat → Nat → Int32 := if vr_ft I p q n N m k < k then vr_it I p q n N m (vr_ft I p q n N m k + 1) else vr_it I p q n N m k
theorem vr_ft_h {I : Nat → Nat → Int32} {p q n N : Nat} {m : Int32} {k t : Nat} (ht : t < k) (h : ∀ u, u < t → vr_F (vr_it I p q n N m u) p q n N m = 1) (hf : ¬ vr_F (vr_it I p q n N m t) p q n N m = 1) : vr_ft I p q n N m k = t := sp_fi_hit (p := fun t => ¬ vr_F (vr_it I p q n N m t) p q n N m = 1) ht (fun u hu z => z (h u hu)) hf
theorem vr_ft_0 {I : Nat → Nat → Int32} {p q n N : Nat} {m : Int32} {k : Nat} (h : ∀ u, u < k → vr_F (vr_it I p q n N m u) p q n N m = 1) : vr_ft I p q n N m k = k := sp_fi_none (p := fun t => ¬ vr_F (vr_it I p q n N m t) p q n N m = 1) fun u hu z => z (h u hu)
theorem vr_ith_h {I : Nat → Nat → Int32} {p q n N : Nat} {m : Int32} {k t : Nat} (ht : t < k) (h : ∀ u, u < t → vr_F (vr_it I p q n N m u) p q n N m = 1) (hf : ¬ vr_F (vr_it I p q n N m t) p q n N m = 1) : vr_ith I p q n N m k = vr_R (vr_it I p q n N m t) p q n N m := by
  unfold vr_ith
  rw [vr_ft_h ht h hf, if_pos ht]
  rfl
theorem vr_ith_0 {I : Nat → Nat → Int32} {p q n N : Nat} {m : Int32} {k : Nat} (h : ∀ u, u < k → vr_F (vr_it I p q n N m u) p q n N m = 1) : vr_ith I p q n N m k = vr_it I p q n N m k := by
  unfold vr_ith
  rw [vr_ft_0 h, if_neg (Nat.lt_irrefl k)]
set_option maxHeartbeats 4000000 in
set_option maxRecDepth 20000 in
/-- DitherDeskModel.refine -/
theorem r_refine_x {l : Launch} {X : vm_Cx} {G : List vm_Sh} {I : Nat → Nat → Int32} {F : Nat → Nat → UInt32} {q : Int32} {u : Int32} {k : Int32} (hR : vm_isR G) (hx : ¬ (0 ≤ q ∧ q ≤ 3)) : vm_K l X vm_M240 [.ref 152, .int q, .int u, .int k] (G, I, F) (some (.int (-1))) (G, I, F) := by
  refine vm_K.mk (by decide) (Nat.le_of_ble_eq_true rfl) ?_
  show vm_J _ _ _ (0, (0, 0), [.ref 152, .int q, .int u, .int k, .retAddr 0], []) _ _ _
  refine vm_J.go vm_q240 (k := 1) (hs := []) (f' := (1, (0, 0), [.ref 152, .int q, .int u, .int k, .retAddr 0], [.int q])) (h' := (G, I, F)) (hs' := []) rfl rfl ?_
  refine vm_J.call vm_q240 (Z := vm_M173) (n := 1) (k := 1) (mi := 173) (pc := 1) (en := (1, .invokestatic 145, 3, [173, 1453, 0], .null)) rfl trivial rfl rfl vm_z173 (av := [.int q]) (rest := []) (r_isPalette_n (c := q) hx) rfl (Nat.le_of_ble_eq_true rfl) ⟨Nat.le_of_ble_eq_true rfl, Nat.le_of_ble_eq_true rfl⟩ ⟨Nat.le_of_ble_eq_true rfl, Nat.le_of_ble_eq_true rfl⟩ ?_
  show vm_J _ _ _ (4, (0, 0), [.ref 152, .int q, .int u, .int k, .retAddr 0], [.int 0]) (G, I, F) _ _
  refine vm_J.go vm_q240 (k := 1) (hs := []) (f' := (bif vm_ic .eq 0 0 then 15 else 7, (0, 0), [.ref 152, .int q, .int u, .int k, .retAddr 0], [])) (h' := (G, I, F)) (hs' := []) rfl rfl ?_
  refine vm_J.bT (by decide) ?_
  refine vm_J.go vm_q240 (k := 1) (hs := []) (f' := (16, (0, 0), [.ref 152, .int q, .int u, .int k, .retAddr 0], [.int (-1)])) (h' := (G, I, F)) (hs' := []) rfl rfl ?_
  exact vm_J.end vm_q240 (en := (16, .ireturn, 1, [], .null)) rfl rfl vm_rI (Nat.zero_le _) (Nat.zero_le _) rfl
set_option maxHeartbeats 4000000 in
set_option maxRecDepth 20000 in
/-- DitherDeskModel.refine -/
theorem r_refine_x2 {l : Launch} {X : vm_Cx} {G : List vm_Sh} {I : Nat → Nat → Int32} {F : Nat → Nat → UInt32} {p : Nat} {q : Int32} {k : Int32} (hR : vm_isR G) (hp : p < 4) (hx : ¬ (0 ≤ q ∧ q ≤ 3)) : vm_K l X vm_M240 [.ref 152, .int (nI p), .int q, .int k] (G, I, F) (some (.int (-1))) (G, I, F) := by
  refine vm_K.mk (by decide) (Nat.le_of_ble_eq_true rfl) ?_
  show vm_J _ _ _ (0, (0, 0), [.ref 152, .int (nI p), .int q, .int k, .retAddr 0], []) _ _ _
  refine vm_J.go vm_q240 (k := 1) (hs := []) (f' := (1, (0, 0), [.ref 152, .int (nI p), .int q, .int k, .retAddr 0], [.int (nI p)])) (h' := (G, I, F)) (hs' := []) rfl rfl ?_
  refine vm_J.call vm_q240 (Z := vm_M173) (n := 1) (k := 1) (mi := 173) (pc := 1) (en := (1, .invokestatic 145, 3, [173, 1453, 0], .null)) rfl trivial rfl rfl vm_z173 (av := [.int (nI p)]) (rest := []) (r_isPalette_y (c := nI p) (vm_bp4 hp)) rfl (Nat.le_of_ble_eq_true rfl) ⟨Nat.le_of_ble_eq_true rfl, Nat.le_of_ble_eq_true rfl⟩ ⟨Nat.le_of_ble_eq_true rfl, Nat.le_of_ble_eq_true rfl⟩ ?_
  show vm_J _ _ _ (4, (0, 0), [.ref 152, .int (nI p), .int q, .int k, .retAddr 0], [.int 1]) (G, I, F) _ _
  refine vm_J.go vm_q240 (k := 1) (hs := []) (f' := (bif vm_ic .eq 1 0 then 15 else 7, (0, 0), [.ref 152, .int (nI p), .int q, .int k, .retAddr 0], [])) (h' := (G, I, F)) (hs' := []) rfl rfl ?_
  refine vm_J.bF (by decide) ?_
  refine vm_J.go vm_q240 (k := 2) (hs := []) (f' := (9, (0, 0), [.ref 152, .int (nI p), .int q, .int k, .retAddr 0], [.int q, .ref 152])) (h' := (G, I, F)) (hs' := []) rfl rfl ?_
  refine vm_J.call vm_q240 (Z := vm_M172) (n := 1) (k := 0) (mi := 172) (pc := 9) (en := (9, .invokevirtual 156, 3, [172, 1313, 0], .null)) rfl trivial rfl rfl vm_z172 (av := [.ref 152, .int q]) (rest := []) (r_isPic_x (q := q) hR hx) ⟨_, _, rfl, rfl, _, 11, _, hR.c152, rfl, rfl, rfl⟩ (Nat.le_of_ble_eq_true rfl) ⟨Nat.le_of_ble_eq_true rfl, Nat.le_of_ble_eq_true rfl⟩ ⟨Nat.le_of_ble_eq_true rfl, Nat.le_of_ble_eq_true rfl⟩ ?_
  show vm_J _ _ _ (12, (0, 0), [.ref 152, .int (nI p), .int q, .int k, .retAddr 0], [.int 0]) (G, I, F) _ _
  refine vm_J.go vm_q240 (k := 1) (hs := []) (f' := (bif vm_ic .ne 0 0 then 17 else 15, (0, 0), [.ref 152, .int (nI p), .int q, .int k, .retAddr 0], [])) (h' := (G, I, F)) (hs' := []) rfl rfl ?_
  refine vm_J.bF (by decide) ?_
  refine vm_J.go vm_q240 (k := 1) (hs := []) (f' := (16, (0, 0), [.ref 152, .int (nI p), .int q, .int k, .retAddr 0], [.int (-1)])) (h' := (G, I, F)) (hs' := []) rfl rfl ?_
  exact vm_J.end vm_q240 (en := (16, .ireturn, 1, [], .null)) rfl rfl vm_rI (Nat.zero_le _) (Nat.zero_le _) rfl
set_option maxHeartbeats 4000000 in
set_option maxRecDepth 20000 in
/-- DitherDeskModel.refine -/
theorem r_refine_m {l : Launch} {X : vm_Cx} {G : List vm_Sh} {I : Nat → Nat → Int32} {F : Nat → Nat → UInt32} {p : Nat} {q : Nat} {w : Nat} {k : Int32} (hR : vm_isR G) (hp : p < 4) (hw : I 153 q = nI w) (hq : q < 4) (hw2 : w ≤ 12) (hw0 : w = 0) : vm_K l X vm_M240 [.ref 152, .int (nI p), .int (nI q), .int k] (G, I, F) (some (.int (-1))) (G, I, F) := by
  refine vm_K.mk (by decide) (Nat.le_of_ble_eq_true rfl) ?_
  show vm_J _ _ _ (0, (0, 0), [.ref 152, .int (nI p), .int (nI q), .int k, .retAddr 0], []) _ _ _
  refine vm_J.go vm_q240 (k := 1) (hs := []) (f' := (1, (0, 0), [.ref 152, .int (nI p), .int (nI q), .int k, .retAddr 0], [.int (nI p)])) (h' := (G, I, F)) (hs' := []) rfl rfl ?_
  refine vm_J.call vm_q240 (Z := vm_M173) (n := 1) (k := 1) (mi := 173) (pc := 1) (en := (1, .invokestatic 145, 3, [173, 1453, 0], .null)) rfl trivial rfl rfl vm_z173 (av := [.int (nI p)]) (rest := []) (r_isPalette_y (c := nI p) (vm_bp4 hp)) rfl (Nat.le_of_ble_eq_true rfl) ⟨Nat.le_of_ble_eq_true rfl, Nat.le_of_ble_eq_true rfl⟩ ⟨Nat.le_of_ble_eq_true rfl, Nat.le_of_ble_eq_true rfl⟩ ?_
  show vm_J _ _ _ (4, (0, 0), [.ref 152, .int (nI p), .int (nI q), .int k, .retAddr 0], [.int 1]) (G, I, F) _ _
  refine vm_J.go vm_q240 (k := 1) (hs := []) (f' := (bif vm_ic .eq 1 0 then 15 else 7, (0, 0), [.ref 152, .int (nI p), .int (nI q), .int k, .retAddr 0], [])) (h' := (G, I, F)) (hs' := []) rfl rfl ?_
  refine vm_J.bF (by decide) ?_
  refine vm_J.go vm_q240 (k := 2) (hs := []) (f' := (9, (0, 0), [.ref 152, .int (nI p), .int (nI q), .int k, .retAddr 0], [.int (nI q), .ref 152])) (h' := (G, I, F)) (hs' := []) rfl rfl ?_
  refine vm_J.call vm_q240 (Z := vm_M172) (n := 1) (k := 0) (mi := 172) (pc := 9) (en := (9, .invokevirtual 156, 3, [172, 1313, 0], .null)) rfl trivial rfl rfl vm_z172 (av := [.ref 152, .int (nI q)]) (rest := []) (r_isPic_n (p := q) (w := w) hR (by omega) hw (by omega) (by omega)) ⟨_, _, rfl, rfl, _, 11, _, hR.c152, rfl, rfl, rfl⟩ (Nat.le_of_ble_eq_true rfl) ⟨Nat.le_of_ble_eq_true rfl, Nat.le_of_ble_eq_true rfl⟩ ⟨Nat.le_of_ble_eq_true rfl, Nat.le_of_ble_eq_true rfl⟩ ?_
  show vm_J _ _ _ (12, (0, 0), [.ref 152, .int (nI p), .int (nI q), .int k, .retAddr 0], [.int 0]) (G, I, F) _ _
  refine vm_J.go vm_q240 (k := 1) (hs := []) (f' := (bif vm_ic .ne 0 0 then 17 else 15, (0, 0), [.ref 152, .int (nI p), .int (nI q), .int k, .retAddr 0], [])) (h' := (G, I, F)) (hs' := []) rfl rfl ?_
  refine vm_J.bF (by decide) ?_
  refine vm_J.go vm_q240 (k := 1) (hs := []) (f' := (16, (0, 0), [.ref 152, .int (nI p), .int (nI q), .int k, .retAddr 0], [.int (-1)])) (h' := (G, I, F)) (hs' := []) rfl rfl ?_
  exact vm_J.end vm_q240 (en := (16, .ireturn, 1, [], .null)) rfl rfl vm_rI (Nat.zero_le _) (Nat.zero_le _) rfl
set_option maxHeartbeats 4000000 in
set_option maxRecDepth 20000 in
/-- DitherDeskModel.refine -/
theorem r_refine_b {l : Launch} {X : vm_Cx} {G : List vm_Sh} {I : Nat → Nat → Int32} {F : Nat → Nat → UInt32} {p : Nat} {q : Nat} {w : Nat} {k : Int32} (hR : vm_isR G) (hp : p < 4) (hw : I 153 q = nI w) (hq : q < 4) (hw2 : w ≤ 12) (hw0 : 0 < w) (hk : ¬ (1 ≤ k ∧ k ≤ 20)) : vm_K l X vm_M240 [.ref 152, .int (nI p), .int (nI q), .int k] (G, I, F) (some (.int (-2))) (G, I, F) := by
  refine vm_K.mk (by decide) (Nat.le_of_ble_eq_true rfl) ?_
  show vm_J _ _ _ (0, (0, 0), [.ref 152, .int (nI p), .int (nI q), .int k, .retAddr 0], []) _ _ _
  refine vm_J.go vm_q240 (k := 1) (hs := []) (f' := (1, (0, 0), [.ref 152, .int (nI p), .int (nI q), .int k, .retAddr 0], [.int (nI p)])) (h' := (G, I, F)) (hs' := []) rfl rfl ?_
  refine vm_J.call vm_q240 (Z := vm_M173) (n := 1) (k := 1) (mi := 173) (pc := 1) (en := (1, .invokestatic 145, 3, [173, 1453, 0], .null)) rfl trivial rfl rfl vm_z173 (av := [.int (nI p)]) (rest := []) (r_isPalette_y (c := nI p) (vm_bp4 hp)) rfl (Nat.le_of_ble_eq_true rfl) ⟨Nat.le_of_ble_eq_true rfl, Nat.le_of_ble_eq_true rfl⟩ ⟨Nat.le_of_ble_eq_true rfl, Nat.le_of_ble_eq_true rfl⟩ ?_
  show vm_J _ _ _ (4, (0, 0), [.ref 152, .int (nI p), .int (nI q), .int k, .retAddr 0], [.int 1]) (G, I, F) _ _
  refine vm_J.go vm_q240 (k := 1) (hs := []) (f' := (bif vm_ic .eq 1 0 then 15 else 7, (0, 0), [.ref 152, .int (nI p), .int (nI q), .int k, .retAddr 0], [])) (h' := (G, I, F)) (hs' := []) rfl rfl ?_
  refine vm_J.bF (by decide) ?_
  refine vm_J.go vm_q240 (k := 2) (hs := []) (f' := (9, (0, 0), [.ref 152, .int (nI p), .int (nI q), .int k, .retAddr 0], [.int (nI q), .ref 152])) (h' := (G, I, F)) (hs' := []) rfl rfl ?_
  refine vm_J.call vm_q240 (Z := vm_M172) (n := 1) (k := 0) (mi := 172) (pc := 9) (en := (9, .invokevirtual 156, 3, [172, 1313, 0], .null)) rfl trivial rfl rfl vm_z172 (av := [.ref 152, .int (nI q)]) (rest := []) (r_isPic_y (p := q) (w := w) hR (by omega) hw (by omega) (by omega)) ⟨_, _, rfl, rfl, _, 11, _, hR.c152, rfl, rfl, rfl⟩ (Nat.le_of_ble_eq_true rfl) ⟨Nat.le_of_ble_eq_true rfl, Nat.le_of_ble_eq_true rfl⟩ ⟨Nat.le_of_ble_eq_true rfl, Nat.le_of_ble_eq_true rfl⟩ ?_
  show vm_J _ _ _ (12, (0, 0), [.ref 152, .int (nI p), .int (nI q), .int k, .retAddr 0], [.int 1]) (G, I, F) _ _
  refine vm_J.go vm_q240 (k := 1) (hs := []) (f' := (bif vm_ic .ne 1 0 then 17 else 15, (0, 0), [.ref 152, .int (nI p), .int (nI q), .int k, .retAddr 0], [])) (h' := (G, I, F)) (hs' := []) rfl rfl ?_
  refine vm_J.bT (by decide) ?_
  refine vm_J.go vm_q240 (k := 3) (hs := []) (f' := (21, (0, 0), [.ref 152, .int (nI p), .int (nI q), .int k, .retAddr 0], [.int 20, .int 1, .int k])) (h' := (G, I, F)) (hs' := []) rfl rfl ?_
  refine vm_J.call vm_q240 (Z := vm_M168) (n := 3) (k := 1) (mi := 168) (pc := 21) (en := (21, .invokestatic 141, 3, [168, 1302, 0], .null)) rfl trivial rfl rfl vm_z168 (av := [.int k, .int 1, .int 20]) (rest := []) (r_isIn_n (v := k) (a := 1) (b := 20) hk) rfl (Nat.le_of_ble_eq_true rfl) ⟨Nat.le_of_ble_eq_true rfl, Nat.le_of_ble_eq_true rfl⟩ ⟨Nat.le_of_ble_eq_true rfl, Nat.le_of_ble_eq_true rfl⟩ ?_
  show vm_J _ _ _ (24, (0, 0), [.ref 152, .int (nI p), .int (nI q), .int k, .retAddr 0], [.int 0]) (G, I, F) _ _
  refine vm_J.go vm_q240 (k := 1) (hs := []) (f' := (bif vm_ic .ne 0 0 then 30 else 27, (0, 0), [.ref 152, .int (nI p), .int (nI q), .int k, .retAddr 0], [])) (h' := (G, I, F)) (hs' := []) rfl rfl ?_
  refine vm_J.bF (by decide) ?_
  refine vm_J.go vm_q240 (k := 1) (hs := []) (f' := (29, (0, 0), [.ref 152, .int (nI p), .int (nI q), .int k, .retAddr 0], [.int (-2)])) (h' := (G, I, F)) (hs' := []) rfl rfl ?_
  exact vm_J.end vm_q240 (en := (29, .ireturn, 1, [], .null)) rfl rfl vm_rI (Nat.zero_le _) (Nat.zero_le _) rfl
set_option maxHeartbeats 4000000 in
set_option maxRecDepth 20000 in
/-- DitherDeskModel.refine -/
theorem r_refine_s {l : Launch} {X : vm_Cx} {G : List vm_Sh} {I : Nat → Nat → Int32} {F : Nat → Nat → UInt32} {p : Nat} {n : Nat} {q : Nat} {w : Nat} {k : Nat} (hR : vm_isR G) (hp : p < 4) (hn : I 156 p = nI n) (hn2 : n = 0) (hw : I 153 q = nI w) (hq : q < 4) (hw2 : w ≤ 12) (hw0 : 0 < w) (hk1 : 0 < k) (hk2 : k ≤ 20) : vm_K l X vm_M240 [.ref 152, .int (nI p), .int (nI q), .int (nI k)] (G, I, F) (some (.int (-3))) (G, I, F) := by
  refine vm_K.mk (by decide) (Nat.le_of_ble_eq_true rfl) ?_
  show vm_J _ _ _ (0, (0, 0), [.ref 152, .int (nI p), .int (nI q), .int (nI k), .retAddr 0], []) _ _ _
  refine vm_J.go vm_q240 (k := 1) (hs := []) (f' := (1, (0, 0), [.ref 152, .int (nI p), .int (nI q), .int (nI k), .retAddr 0], [.int (nI p)])) (h' := (G, I, F)) (hs' := []) rfl rfl ?_
  refine vm_J.call vm_q240 (Z := vm_M173) (n := 1) (k := 1) (mi := 173) (pc := 1) (en := (1, .invokestatic 145, 3, [173, 1453, 0], .null)) rfl trivial rfl rfl vm_z173 (av := [.int (nI p)]) (rest := []) (r_isPalette_y (c := nI p) (vm_bp4 hp)) rfl (Nat.le_of_ble_eq_true rfl) ⟨Nat.le_of_ble_eq_true rfl, Nat.le_of_ble_eq_true rfl⟩ ⟨Nat.le_of_ble_eq_true rfl, Nat.le_of_ble_eq_true rfl⟩ ?_
  show vm_J _ _ _ (4, (0, 0), [.ref 152, .int (nI p), .int (nI q), .int (nI k), .retAddr 0], [.int 1]) (G, I, F) _ _
  refine vm_J.go vm_q240 (k := 1) (hs := []) (f' := (bif vm_ic .eq 1 0 then 15 else 7, (0, 0), [.ref 152, .int (nI p), .int (nI q), .int (nI k), .retAddr 0], [])) (h' := (G, I, F)) (hs' := []) rfl rfl ?_
  refine vm_J.bF (by decide) ?_
  refine vm_J.go vm_q240 (k := 2) (hs := []) (f' := (9, (0, 0), [.ref 152, .int (nI p), .int (nI q), .int (nI k), .retAddr 0], [.int (nI q), .ref 152])) (h' := (G, I, F)) (hs' := []) rfl rfl ?_
  refine vm_J.call vm_q240 (Z := vm_M172) (n := 1) (k := 0) (mi := 172) (pc := 9) (en := (9, .invokevirtual 156, 3, [172, 1313, 0], .null)) rfl trivial rfl rfl vm_z172 (av := [.ref 152, .int (nI q)]) (rest := []) (r_isPic_y (p := q) (w := w) hR (by omega) hw (by omega) (by omega)) ⟨_, _, rfl, rfl, _, 11, _, hR.c152, rfl, rfl, rfl⟩ (Nat.le_of_ble_eq_true rfl) ⟨Nat.le_of_ble_eq_true rfl, Nat.le_of_ble_eq_true rfl⟩ ⟨Nat.le_of_ble_eq_true rfl, Nat.le_of_ble_eq_true rfl⟩ ?_
  show vm_J _ _ _ (12, (0, 0), [.ref 152, .int (nI p), .int (nI q), .int (nI k), .retAddr 0], [.int 1]) (G, I, F) _ _
  refine vm_J.go vm_q240 (k := 1) (hs := []) (f' := (bif vm_ic .ne 1 0 then 17 else 15, (0, 0), [.ref 152, .int (nI p), .int (nI q), .int (nI k), .retAddr 0], [])) (h' := (G, I, F)) (hs' := []) rfl rfl ?_
  refine vm_J.bT (by decide) ?_
  refine vm_J.go vm_q240 (k := 3) (hs := []) (f' := (21, (0, 0), [.ref 152, .int (nI p), .int (nI q), .int (nI k), .retAddr 0], [.int 20, .int 1, .int (nI k)])) (h' := (G, I, F)) (hs' := []) rfl rfl ?_
  refine vm_J.call vm_q240 (Z := vm_M168) (n := 3) (k := 1) (mi := 168) (pc := 21) (en := (21, .invokestatic 141, 3, [168, 1302, 0], .null)) rfl trivial rfl rfl vm_z168 (av := [.int (nI k), .int 1, .int 20]) (rest := []) (r_isIn_y (v := nI k) (a := 1) (b := 20) (vm_bp1 (m := 20) hk1 hk2 rfl (by decide))) rfl (Nat.le_of_ble_eq_true rfl) ⟨Nat.le_of_ble_eq_true rfl, Nat.le_of_ble_eq_true rfl⟩ ⟨Nat.le_of_ble_eq_true rfl, Nat.le_of_ble_eq_true rfl⟩ ?_
  show vm_J _ _ _ (24, (0, 0), [.ref 152, .int (nI p), .int (nI q), .int (nI k), .retAddr 0], [.int 1]) (G, I, F) _ _
  refine vm_J.go vm_q240 (k := 1) (hs := []) (f' := (bif vm_ic .ne 1 0 then 30 else 27, (0, 0), [.ref 152, .int (nI p), .int (nI q), .int (nI k), .retAddr 0], [])) (h' := (G, I, F)) (hs' := []) rfl rfl ?_
  refine vm_J.bT (by decide) ?_
  refine vm_J.go vm_q240 (k := 4) (hs := [vm_shR, (0, 4, [])]) (f' := (36, (0, 0), [.ref 152, .int (nI p), .int (nI q), .int (nI k), .retAddr 0], [.int (I 156 (nI p).toNatClampNeg)])) (h' := (G, I, F)) (hs' := []) rfl (vm_b2 rfl (vm_b2 (vm_b2 (vm_hG hR.c152) rfl) (vm_b2 rfl (vm_b2 (vm_b2 (vm_hG hR.c156) (vm_in_e (j := p) (n := 4) rfl (by omega) (by omega))) rfl)))) ?_
  rw [vm_ix_e (j := p) rfl (by omega)]
  rw [(hn : I 156 p = nI n)]
  refine vm_J.go vm_q240 (k := 1) (hs := []) (f' := (bif vm_ic .ne (nI n) 0 then 42 else 39, (0, 0), [.ref 152, .int (nI p), .int (nI q), .int (nI k), .retAddr 0], [])) (h' := (G, I, F)) (hs' := []) rfl rfl ?_
  refine vm_J.br (fun c1 => ?_) (fun c1 => ?_)
  · have c1 := vm_ne_t (a := n) (b := 0) (by omega) (by omega) c1
    exact (show False by omega).elim
  · have c1 := vm_ne_f (a := n) (b := 0) (by omega) (by omega) c1
    refine vm_J.go vm_q240 (k := 1) (hs := []) (f' := (41, (0, 0), [.ref 152, .int (nI p), .int (nI q), .int (nI k), .retAddr 0], [.int (-3)])) (h' := (G, I, F)) (hs' := []) rfl rfl ?_
    exact vm_J.end vm_q240 (en := (41, .ireturn, 1, [], .null)) rfl rfl vm_rI (Nat.zero_le _) (Nat.zero_le _) rfl
set_option maxHeartbeats 4000000 in
set_option maxRecDepth 20000 in
/-- DitherDeskModel.refine -/
theorem r_refine_f {l : Launch} {X : vm_Cx} {G : List vm_Sh} {I : Nat → Nat → Int32} {F : Nat → Nat → UInt32} {p : Nat} {n : Nat} {q : Nat} {w : Nat} {k : Nat} {u : Nat} (hR : vm_isR G) (hp : p < 4) (hn : I 156 p = nI n) (hn0 : 0 < n) (hn2 : n ≤ 16) (hw : I 153 q = nI w) (hq : q < 4) (hw2 : w ≤ 12) (hw0 : 0 < w) (hk1 : 0 < k) (hk2 : k ≤ 20) (hu : I 152 10 = nI u) (hv : 6000 < u + k) (hv2 : u ≤ 6000) : vm_K l X vm_M240 [.ref 152, .int (nI p), .int (nI q), .int (nI k)] (G, I, F) (some (.int (-4))) (G, I, F) := by
  refine vm_K.mk (by decide) (Nat.le_of_ble_eq_true rfl) ?_
  show vm_J _ _ _ (0, (0, 0), [.ref 152, .int (nI p), .int (nI q), .int (nI k), .retAddr 0], []) _ _ _
  refine vm_J.go vm_q240 (k := 1) (hs := []) (f' := (1, (0, 0), [.ref 152, .int (nI p), .int (nI q), .int (nI k), .retAddr 0], [.int (nI p)])) (h' := (G, I, F)) (hs' := []) rfl rfl ?_
  refine vm_J.call vm_q240 (Z := vm_M173) (n := 1) (k := 1) (mi := 173) (pc := 1) (en := (1, .invokestatic 145, 3, [173, 1453, 0], .null)) rfl trivial rfl rfl vm_z173 (av := [.int (nI p)]) (rest := []) (r_isPalette_y (c := nI p) (vm_bp4 hp)) rfl (Nat.le_of_ble_eq_true rfl) ⟨Nat.le_of_ble_eq_true rfl, Nat.le_of_ble_eq_true rfl⟩ ⟨Nat.le_of_ble_eq_true rfl, Nat.le_of_ble_eq_true rfl⟩ ?_
  show vm_J _ _ _ (4, (0, 0), [.ref 152, .int (nI p), .int (nI q), .int (nI k), .retAddr 0], [.int 1]) (G, I, F) _ _
  refine vm_J.go vm_q240 (k := 1) (hs := []) (f' := (bif vm_ic .eq 1 0 then 15 else 7, (0, 0), [.ref 152, .int (nI p), .int (nI q), .int (nI k), .retAddr 0], [])) (h' := (G, I, F)) (hs' := []) rfl rfl ?_
  refine vm_J.bF (by decide) ?_
  refine vm_J.go vm_q240 (k := 2) (hs := []) (f' := (9, (0, 0), [.ref 152, .int (nI p), .int (nI q), .int (nI k), .retAddr 0], [.int (nI q), .ref 152])) (h' := (G, I, F)) (hs' := []) rfl rfl ?_
  refine vm_J.call vm_q240 (Z := vm_M172) (n := 1) (k := 0) (mi := 172) (pc := 9) (en := (9, .invokevirtual 156, 3, [172, 1313, 0], .null)) rfl trivial rfl rfl vm_z172 (av := [.ref 152, .int (nI q)]) (rest := []) (r_isPic_y (p := q) (w := w) hR (by omega) hw (by omega) (by omega)) ⟨_, _, rfl, rfl, _, 11, _, hR.c152, rfl, rfl, rfl⟩ (Nat.le_of_ble_eq_true rfl) ⟨Nat.le_of_ble_eq_true rfl, Nat.le_of_ble_eq_true rfl⟩ ⟨Nat.le_of_ble_eq_true rfl, Nat.le_of_ble_eq_true rfl⟩ ?_
  show vm_J _ _ _ (12, (0, 0), [.ref 152, .int (nI p), .int (nI q), .int (nI k), .retAddr 0], [.int 1]) (G, I, F) _ _
  refine vm_J.go vm_q240 (k := 1) (hs := []) (f' := (bif vm_ic .ne 1 0 then 17 else 15, (0, 0), [.ref 152, .int (nI p), .int (nI q), .int (nI k), .retAddr 0], [])) (h' := (G, I, F)) (hs' := []) rfl rfl ?_
  refine vm_J.bT (by decide) ?_
  refine vm_J.go vm_q240 (k := 3) (hs := []) (f' := (21, (0, 0), [.ref 152, .int (nI p), .int (nI q), .int (nI k), .retAddr 0], [.int 20, .int 1, .int (nI k)])) (h' := (G, I, F)) (hs' := []) rfl rfl ?_
  refine vm_J.call vm_q240 (Z := vm_M168) (n := 3) (k := 1) (mi := 168) (pc := 21) (en := (21, .invokestatic 141, 3, [168, 1302, 0], .null)) rfl trivial rfl rfl vm_z168 (av := [.int (nI k), .int 1, .int 20]) (rest := []) (r_isIn_y (v := nI k) (a := 1) (b := 20) (vm_bp1 (m := 20) hk1 hk2 rfl (by decide))) rfl (Nat.le_of_ble_eq_true rfl) ⟨Nat.le_of_ble_eq_true rfl, Nat.le_of_ble_eq_true rfl⟩ ⟨Nat.le_of_ble_eq_true rfl, Nat.le_of_ble_eq_true rfl⟩ ?_
  show vm_J _ _ _ (24, (0, 0), [.ref 152, .int (nI p), .int (nI q), .int (nI k), .retAddr 0], [.int 1]) (G, I, F) _ _
  refine vm_J.go vm_q240 (k := 1) (hs := []) (f' := (bif vm_ic .ne 1 0 then 30 else 27, (0, 0), [.ref 152, .int (nI p), .int (nI q), .int (nI k), .retAddr 0], [])) (h' := (G, I, F)) (hs' := []) rfl rfl ?_
  refine vm_J.bT (by decide) ?_
  refine vm_J.go vm_q240 (k := 4) (hs := [vm_shR, (0, 4, [])]) (f' := (36, (0, 0), [.ref 152, .int (nI p), .int (nI q), .int (nI k), .retAddr 0], [.int (I 156 (nI p).toNatClampNeg)])) (h' := (G, I, F)) (hs' := []) rfl (vm_b2 rfl (vm_b2 (vm_b2 (vm_hG hR.c152) rfl) (vm_b2 rfl (vm_b2 (vm_b2 (vm_hG hR.c156) (vm_in_e (j := p) (n := 4) rfl (by omega) (by omega))) rfl)))) ?_
  rw [vm_ix_e (j := p) rfl (by omega)]
  rw [(hn : I 156 p = nI n)]
  refine vm_J.go vm_q240 (k := 1) (hs := []) (f' := (bif vm_ic .ne (nI n) 0 then 42 else 39, (0, 0), [.ref 152, .int (nI p), .int (nI q), .int (nI k), .retAddr 0], [])) (h' := (G, I, F)) (hs' := []) rfl rfl ?_
  refine vm_J.br (fun c1 => ?_) (fun c1 => ?_)
  · have c1 := vm_ne_t (a := n) (b := 0) (by omega) (by omega) c1
    refine vm_J.go vm_q240 (k := 2) (hs := []) (f' := (44, (0, 0), [.ref 152, .int (nI p), .int (nI q), .int (nI k), .retAddr 0], [.int (nI k), .ref 152])) (h' := (G, I, F)) (hs' := []) rfl rfl ?_
    refine vm_J.call vm_q240 (Z := vm_M178) (n := 1) (k := 0) (mi := 178) (pc := 44) (en := (44, .invokevirtual 304, 3, [178, 1528, 0], .null)) rfl trivial rfl rfl vm_z178 (av := [.ref 152, .int (nI k)]) (rest := []) (r_works_n (u := u) (k := k) hR hu hv (by omega) (by omega)) ⟨_, _, rfl, rfl, _, 11, _, hR.c152, rfl, rfl, rfl⟩ (Nat.le_of_ble_eq_true rfl) ⟨Nat.le_of_ble_eq_true rfl, Nat.le_of_ble_eq_true rfl⟩ ⟨Nat.le_of_ble_eq_true rfl, Nat.le_of_ble_eq_true rfl⟩ ?_
    show vm_J _ _ _ (47, (0, 0), [.ref 152, .int (nI p), .int (nI q), .int (nI k), .retAddr 0], [.int 0]) (G, I, F) _ _
    refine vm_J.go vm_q240 (k := 1) (hs := []) (f' := (bif vm_ic .ne 0 0 then 53 else 50, (0, 0), [.ref 152, .int (nI p), .int (nI q), .int (nI k), .retAddr 0], [])) (h' := (G, I, F)) (hs' := []) rfl rfl ?_
    refine vm_J.bF (by decide) ?_
    refine vm_J.go vm_q240 (k := 1) (hs := []) (f' := (52, (0, 0), [.ref 152, .int (nI p), .int (nI q), .int (nI k), .retAddr 0], [.int (-4)])) (h' := (G, I, F)) (hs' := []) rfl rfl ?_
    exact vm_J.end vm_q240 (en := (52, .ireturn, 1, [], .null)) rfl rfl vm_rI (Nat.zero_le _) (Nat.zero_le _) rfl
  · have c1 := vm_ne_f (a := n) (b := 0) (by omega) (by omega) c1
    exact (show False by omega).elim
set_option maxHeartbeats 4000000 in
set_option maxRecDepth 20000 in
/-- DitherDeskModel.refine -/
theorem r_refine_y {l : Launch} {X : vm_Cx} {G : List vm_Sh} {I : Nat → Nat → Int32} {F : Nat → Nat → UInt32} {p : Nat} {n : Nat} {q : Nat} {w : Nat} {h : Nat} {k : Nat} {u : Nat} {m : Int32} (hR : vm_isR G) (hp : p < 4) (hn : I 156 p = nI n) (hn0 : 0 < n) (hn2 : n ≤ 16) (hw : I 153 q = nI w) (hh : I 154 q = nI h) (hq : q < 4) (hw2 : w ≤ 12) (hh2 : h ≤ 12) (hw0 : 0 < w) (hk1 : 0 < k) (hk2 : k ≤ 20) (hu : I 152 10 = nI u) (hv : u + k ≤ 6000) (hz : I 152 6 = m) (hm : m = 0 ∨ m = 1 ∨ m = 2 ∨ m = 3) : vm_K l X vm_M240 [.ref 152, .int (nI p), .int (nI q), .int (nI k)] (G, I, F) (some (.int (nI (vr_ft (vm_up I 152 10 (nI (u + k))) p q n (w * h) m k)))) (G, (vr_ith (vm_up I 152 10 (nI (u + k))) p q n (w * h) m k), F) := by
  refine vm_K.mk (by decide) (Nat.le_of_ble_eq_true rfl) ?_
  have hwh := vm_mul144 hw2 hh2
  show vm_J _ _ _ (0, (0, 0), [.ref 152, .int (nI p), .int (nI q), .int (nI k), .retAddr 0], []) _ _ _
  refine vm_J.go vm_q240 (k := 1) (hs := []) (f' := (1, (0, 0), [.ref 152, .int (nI p), .int (nI q), .int (nI k), .retAddr 0], [.int (nI p)])) (h' := (G, I, F)) (hs' := []) rfl rfl ?_
  refine vm_J.call vm_q240 (Z := vm_M173) (n := 1) (k := 1) (mi := 173) (pc := 1) (en := (1, .invokestatic 145, 3, [173, 1453, 0], .null)) rfl trivial rfl rfl vm_z173 (av := [.int (nI p)]) (rest := []) (r_isPalette_y (c := nI p) (vm_bp4 hp)) rfl (Nat.le_of_ble_eq_true rfl) ⟨Nat.le_of_ble_eq_true rfl, Nat.le_of_ble_eq_true rfl⟩ ⟨Nat.le_of_ble_eq_true rfl, Nat.le_of_ble_eq_true rfl⟩ ?_
  show vm_J _ _ _ (4, (0, 0), [.ref 152, .int (nI p), .int (nI q), .int (nI k), .retAddr 0], [.int 1]) (G, I, F) _ _
  refine vm_J.go vm_q240 (k := 1) (hs := []) (f' := (bif vm_ic .eq 1 0 then 15 else 7, (0, 0), [.ref 152, .int (nI p), .int (nI q), .int (nI k), .retAddr 0], [])) (h' := (G, I, F)) (hs' := []) rfl rfl ?_
  refine vm_J.bF (by decide) ?_
  refine vm_J.go vm_q240 (k := 2) (hs := []) (f' := (9, (0, 0), [.ref 152, .int (nI p), .int (nI q), .int (nI k), .retAddr 0], [.int (nI q), .ref 152])) (h' := (G, I, F)) (hs' := []) rfl rfl ?_
  refine vm_J.call vm_q240 (Z := vm_M172) (n := 1) (k := 0) (mi := 172) (pc := 9) (en := (9, .invokevirtual 156, 3, [172, 1313, 0], .null)) rfl trivial rfl rfl vm_z172 (av := [.ref 152, .int (nI q)]) (rest := []) (r_isPic_y (p := q) (w := w) hR (by omega) hw (by omega) (by omega)) ⟨_, _, rfl, rfl, _, 11, _, hR.c152, rfl, rfl, rfl⟩ (Nat.le_of_ble_eq_true rfl) ⟨Nat.le_of_ble_eq_true rfl, Nat.le_of_ble_eq_true rfl⟩ ⟨Nat.le_of_ble_eq_true rfl, Nat.le_of_ble_eq_true rfl⟩ ?_
  show vm_J _ _ _ (12, (0, 0), [.ref 152, .int (nI p), .int (nI q), .int (nI k), .retAddr 0], [.int 1]) (G, I, F) _ _
  refine vm_J.go vm_q240 (k := 1) (hs := []) (f' := (bif vm_ic .ne 1 0 then 17 else 15, (0, 0), [.ref 152, .int (nI p), .int (nI q), .int (nI k), .retAddr 0], [])) (h' := (G, I, F)) (hs' := []) rfl rfl ?_
  refine vm_J.bT (by decide) ?_
  refine vm_J.go vm_q240 (k := 3) (hs := []) (f' := (21, (0, 0), [.ref 152, .int (nI p), .int (nI q), .int (nI k), .retAddr 0], [.int 20, .int 1, .int (nI k)])) (h' := (G, I, F)) (hs' := []) rfl rfl ?_
  refine vm_J.call vm_q240 (Z := vm_M168) (n := 3) (k := 1) (mi := 168) (pc := 21) (en := (21, .invokestatic 141, 3, [168, 1302, 0], .null)) rfl trivial rfl rfl vm_z168 (av := [.int (nI k), .int 1, .int 20]) (rest := []) (r_isIn_y (v := nI k) (a := 1) (b := 20) (vm_bp1 (m := 20) hk1 hk2 rfl (by decide))) rfl (Nat.le_of_ble_eq_true rfl) ⟨Nat.le_of_ble_eq_true rfl, Nat.le_of_ble_eq_true rfl⟩ ⟨Nat.le_of_ble_eq_true rfl, Nat.le_of_ble_eq_true rfl⟩ ?_
  show vm_J _ _ _ (24, (0, 0), [.ref 152, .int (nI p), .int (nI q), .int (nI k), .retAddr 0], [.int 1]) (G, I, F) _ _
  refine vm_J.go vm_q240 (k := 1) (hs := []) (f' := (bif vm_ic .ne 1 0 then 30 else 27, (0, 0), [.ref 152, .int (nI p), .int (nI q), .int (nI k), .retAddr 0], [])) (h' := (G, I, F)) (hs' := []) rfl rfl ?_
  refine vm_J.bT (by decide) ?_
  refine vm_J.go vm_q240 (k := 4) (hs := [vm_shR, (0, 4, [])]) (f' := (36, (0, 0), [.ref 152, .int (nI p), .int (nI q), .int (nI k), .retAddr 0], [.int (I 156 (nI p).toNatClampNeg)])) (h' := (G, I, F)) (hs' := []) rfl (vm_b2 rfl (vm_b2 (vm_b2 (vm_hG hR.c152) rfl) (vm_b2 rfl (vm_b2 (vm_b2 (vm_hG hR.c156) (vm_in_e (j := p) (n := 4) rfl (by omega) (by omega))) rfl)))) ?_
  rw [vm_ix_e (j := p) rfl (by omega)]
  rw [(hn : I 156 p = nI n)]
  refine vm_J.go vm_q240 (k := 1) (hs := []) (f' := (bif vm_ic .ne (nI n) 0 then 42 else 39, (0, 0), [.ref 152, .int (nI p), .int (nI q), .int (nI k), .retAddr 0], [])) (h' := (G, I, F)) (hs' := []) rfl rfl ?_
  refine vm_J.br (fun c1 => ?_) (fun c1 => ?_)
  · have c1 := vm_ne_t (a := n) (b := 0) (by omega) (by omega) c1
    refine vm_J.go vm_q240 (k := 2) (hs := []) (f' := (44, (0, 0), [.ref 152, .int (nI p), .int (nI q), .int (nI k), .retAddr 0], [.int (nI k), .ref 152])) (h' := (G, I, F)) (hs' := []) rfl rfl ?_
    refine vm_J.call vm_q240 (Z := vm_M178) (n := 1) (k := 0) (mi := 178) (pc := 44) (en := (44, .invokevirtual 304, 3, [178, 1528, 0], .null)) rfl trivial rfl rfl vm_z178 (av := [.ref 152, .int (nI k)]) (rest := []) (r_works_y (u := u) (k := k) hR hu hv) ⟨_, _, rfl, rfl, _, 11, _, hR.c152, rfl, rfl, rfl⟩ (Nat.le_of_ble_eq_true rfl) ⟨Nat.le_of_ble_eq_true rfl, Nat.le_of_ble_eq_true rfl⟩ ⟨Nat.le_of_ble_eq_true rfl, Nat.le_of_ble_eq_true rfl⟩ ?_
    show vm_J _ _ _ (47, (0, 0), [.ref 152, .int (nI p), .int (nI q), .int (nI k), .retAddr 0], [.int 1]) (G, (vm_up I 152 10 (nI (u + k))), F) _ _
    refine vm_J.go vm_q240 (k := 1) (hs := []) (f' := (bif vm_ic .ne 1 0 then 53 else 50, (0, 0), [.ref 152, .int (nI p), .int (nI q), .int (nI k), .retAddr 0], [])) (h' := (G, (vm_up I 152 10 (nI (u + k))), F)) (hs' := []) rfl rfl ?_
    refine vm_J.bT (by decide) ?_
    refine vm_J.go vm_q240 (k := 2) (hs := []) (f' := (56, (0, 0), [.ref 152, .int (nI p), .int (nI q), .int (nI k), .int 0], [])) (h' := (G, (vm_up I 152 10 (nI (u + k))), F)) (hs' := []) rfl rfl ?_
    refine vm_J.cnt k (fun t => (56, (0, 0), [.ref 152, .int (nI p), .int (nI q), .int (nI k), .int (nI t)], [])) (fun t => (G, (vr_it (vm_up I 152 10 (nI (u + k))) p q n (w * h) m t), F)) (fun t => ∀ u_, u_ < t → vr_F (vr_it (vm_up I 152 10 (nI (u + k))) p q n (w * h) m u_) p q n (w * h) m = 1) rfl rfl vm_all0 (fun t ht pt it => ?_) (fun pt => ?_)
    · show vm_J _ _ _ (56, (0, 0), [.ref 152, .int (nI p), .int (nI q), .int (nI k), .int (nI t)], []) (G, (vr_it (vm_up I 152 10 (nI (u + k))) p q n (w * h) m t), F) _ _
      refine vm_J.go vm_q240 (k := 3) (hs := []) (f' := (bif vm_ic .ge (nI t) (nI k) then 77 else 62, (0, 0), [.ref 152, .int (nI p), .int (nI q), .int (nI k), .int (nI t)], [])) (h' := (G, (vr_it (vm_up I 152 10 (nI (u + k))) p q n (w * h) m t), F)) (hs' := []) rfl rfl ?_
      refine vm_J.br (fun c2 => ?_) (fun c2 => ?_)
      · have c2 := vm_ge_t (a := t) (b := k) (by omega) (by omega) c2
        exact (show False by omega).elim
      · have c2 := vm_ge_f (a := t) (b := k) (by omega) (by omega) c2
        refine vm_J.go vm_q240 (k := 3) (hs := []) (f' := (65, (0, 0), [.ref 152, .int (nI p), .int (nI q), .int (nI k), .int (nI t)], [.int (nI q), .int (nI p), .ref 152])) (h' := (G, (vr_it (vm_up I 152 10 (nI (u + k))) p q n (w * h) m t), F)) (hs' := []) rfl rfl ?_
        refine vm_J.call vm_q240 (Z := vm_M239) (n := 2) (k := 0) (mi := 239) (pc := 65) (en := (65, .invokevirtual 334, 3, [239, 1571, 0], .null)) rfl trivial rfl rfl vm_z239 (av := [.ref 152, .int (nI p), .int (nI q)]) (rest := []) (r_refines (p := p) (n := n) (q := q) (w := w) (h := h) (m := m) hR (Eq.trans (congrFun (vr_it_o _ _ _ _ _ _ 156 (by decide) (by decide) (by decide) (by decide) _) p) (Eq.trans (congrFun (vm_up_f _ 152 _ _ 156 (by decide)) p) hn)) (by omega) (by omega) (by omega) (Eq.trans (congrFun (vr_it_o _ _ _ _ _ _ 153 (by decide) (by decide) (by decide) (by decide) _) q) (Eq.trans (congrFun (vm_up_f _ 152 _ _ 153 (by decide)) q) hw)) (Eq.trans (congrFun (vr_it_o _ _ _ _ _ _ 154 (by decide) (by decide) (by decide) (by decide) _) q) (Eq.trans (congrFun (vm_up_f _ 152 _ _ 154 (by decide)) q) hh)) (by omega) (by omega) (by omega) (Eq.trans (congrFun (vr_it_o _ _ _ _ _ _ 152 (by decide) (by decide) (by decide) (by decide) _) 6) (Eq.trans (vm_up_k2 _ 152 10 _ 6 (by decide)) hz)) hm) ⟨_, _, rfl, rfl, _, 11, _, hR.c152, rfl, rfl, rfl⟩ (Nat.le_of_ble_eq_true rfl) ⟨Nat.le_of_ble_eq_true rfl, Nat.le_of_ble_eq_true rfl⟩ ⟨Nat.le_of_ble_eq_true rfl, Nat.le_of_ble_eq_true rfl⟩ ?_
        show vm_J _ _ _ (68, (0, 0), [.ref 152, .int (nI p), .int (nI q), .int (nI k), .int (nI t)], [.int (vr_F (vr_it (vm_up I 152 10 (nI (u + k))) p q n (w * h) m t) p q n (w * h) m)]) (G, (vr_R (vr_it (vm_up I 152 10 (nI (u + k))) p q n (w * h) m t) p q n (w * h) m), F) _ _
        refine vm_J.go vm_q240 (k := 1) (hs := []) (f' := (bif vm_ic .eq (vr_F (vr_it (vm_up I 152 10 (nI (u + k))) p q n (w * h) m t) p q n (w * h) m) 0 then 77 else 71, (0, 0), [.ref 152, .int (nI p), .int (nI q), .int (nI k), .int (nI t)], [])) (h' := (G, (vr_R (vr_it (vm_up I 152 10 (nI (u + k))) p q n (w * h) m t) p q n (w * h) m), F)) (hs' := []) rfl rfl ?_
        refine vm_J.br (fun c3 => ?_) (fun c3 => ?_)
        · have c3 : (vr_F (vr_it (vm_up I 152 10 (nI (u + k))) p q n (w * h) m t) p q n (w * h) m) = 0 := of_decide_eq_true c3
          refine vm_J.go vm_q240 (k := 1) (hs := []) (f' := (79, (0, 0), [.ref 152, .int (nI p), .int (nI q), .int (nI k), .int (nI t)], [.int (nI t)])) (h' := (G, (vr_R (vr_it (vm_up I 152 10 (nI (u + k))) p q n (w * h) m t) p q n (w * h) m), F)) (hs' := []) rfl rfl ?_
          rw [vr_ft_h ht pt (fun e => absurd (e.symm.trans c3) (by decide)), vr_ith_h ht pt (fun e => absurd (e.symm.trans c3) (by decide))]
          exact vm_J.end vm_q240 (en := (79, .ireturn, 1, [], .null)) rfl rfl vm_rI (Nat.zero_le _) (Nat.zero_le _) rfl
        · have c3 : ¬ ((vr_F (vr_it (vm_up I 152 10 (nI (u + k))) p q n (w * h) m t) p q n (w * h) m) = 0) := of_decide_eq_false c3
          refine vm_J.go vm_q240 (k := 2) (hs := []) (f' := (56, (0, 0), [.ref 152, .int (nI p), .int (nI q), .int (nI k), .int ((nI t) + 1)], [])) (h' := (G, (vr_R (vr_it (vm_up I 152 10 (nI (u + k))) p q n (w * h) m t) p q n (w * h) m), F)) (hs' := []) rfl rfl ?_
          rw [((vm_pa (rfl : nI t = nI t) (rfl : (1 : Int32) = nI 1)) : (nI t) + 1 = nI (t + 1))]
          exact it (vm_alls (p := fun u_ => vr_F (vr_it (vm_up I 152 10 (nI (u + k))) p q n (w * h) m u_) p q n (w * h) m = 1) pt ((vr_rc_01 _ _ _ _ _).resolve_left c3))
    · show vm_J _ _ _ (56, (0, 0), [.ref 152, .int (nI p), .int (nI q), .int (nI k), .int (nI k)], []) (G, (vr_it (vm_up I 152 10 (nI (u + k))) p q n (w * h) m k), F) _ _
      refine vm_J.go vm_q240 (k := 3) (hs := []) (f' := (bif vm_ic .ge (nI k) (nI k) then 77 else 62, (0, 0), [.ref 152, .int (nI p), .int (nI q), .int (nI k), .int (nI k)], [])) (h' := (G, (vr_it (vm_up I 152 10 (nI (u + k))) p q n (w * h) m k), F)) (hs' := []) rfl rfl ?_
      refine vm_J.br (fun c4 => ?_) (fun c4 => ?_)
      · have c4 := vm_ge_t (a := k) (b := k) (by omega) (by omega) c4
        refine vm_J.go vm_q240 (k := 1) (hs := []) (f' := (79, (0, 0), [.ref 152, .int (nI p), .int (nI q), .int (nI k), .int (nI k)], [.int (nI k)])) (h' := (G, (vr_it (vm_up I 152 10 (nI (u + k))) p q n (w * h) m k), F)) (hs' := []) rfl rfl ?_
        rw [vr_ft_0 pt, vr_ith_0 pt]
        exact vm_J.end vm_q240 (en := (79, .ireturn, 1, [], .null)) rfl rfl vm_rI (Nat.zero_le _) (Nat.zero_le _) rfl
      · have c4 := vm_ge_f (a := k) (b := k) (by omega) (by omega) c4
        exact (show False by omega).elim
  · have c1 := vm_ne_f (a := n) (b := 0) (by omega) (by omega) c1
    exact (show False by omega).elim
