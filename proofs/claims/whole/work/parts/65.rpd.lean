theorem r_isEn_y {l : Launch} {X : vm_Cx} {G : List vm_Sh} {I : Nat → Nat → Int32} {F : Nat → Nat → UInt32} {p n : Nat} {e : Int32} (hR : vm_isR G) (hp : p < 4) (hn : I 156 p = nI n) (he : (0 ≤ e ∧ e ≤ nI n - 1)) : vm_K l X vm_M174 [.ref 152, .int (nI p), .int e] (G, I, F) (some (.int 1)) (G, I, F) := by
  have q := r_isEntry (l := l) (X := X) (I := I) (F := F) (e := e) hR hp
  rw [hn, vm_bi_t he] at q
  exact q
theorem r_isEn_n {l : Launch} {X : vm_Cx} {G : List vm_Sh} {I : Nat → Nat → Int32} {F : Nat → Nat → UInt32} {p n : Nat} {e : Int32} (hR : vm_isR G) (hp : p < 4) (hn : I 156 p = nI n) (he : ¬ (0 ≤ e ∧ e ≤ nI n - 1)) : vm_K l X vm_M174 [.ref 152, .int (nI p), .int e] (G, I, F) (some (.int 0)) (G, I, F) := by
  have q := r_isEntry (l := l) (X := X) (I := I) (F := F) (e := e) hR hp
  rw [hn, vm_bi_f he] at q
  exact q
theorem vm_en_n {n e : Nat} (he : e < n) (hn : n ≤ 16) : 0 ≤ nI e ∧ nI e ≤ nI n - 1 := by
  have e1 : nI n - 1 = nI (n - 1) := vm_ps (x := nI n) (y := 1) rfl rfl (by omega)
  rw [e1]
  exact ⟨(vm_le_i (a := 0) (b := e) (by decide) (by omega)).mpr (by omega), (vm_le_i (by omega) (by omega)).mpr (by omega)⟩
set_option maxHeartbeats 4000000 in
set_option maxRecDepth 20000 in
/-- DitherDeskModel.isEntry -/
theorem r_isEn_x {l : Launch} {X : vm_Cx} {G : List vm_Sh} {I : Nat → Nat → Int32} {F : Nat → Nat → UInt32} {q : Int32} {e : Int32} (hR : vm_isR G) (hx : ¬ (0 ≤ q ∧ q ≤ 3)) : vm_K l X vm_M174 [.ref 152, .int q, .int e] (G, I, F) (some (.int 0)) (G, I, F) := by
  refine vm_K.mk (by decide) (Nat.le_of_ble_eq_true rfl) ?_
  show vm_J _ _ _ (0, (0, 0), [.ref 152, .int q, .int e], []) _ _ _
  refine vm_J.go vm_q174 (k := 1) (hs := []) (f' := (1, (0, 0), [.ref 152, .int q, .int e], [.int q])) (h' := (G, I, F)) (hs' := []) rfl rfl ?_
  refine vm_J.call vm_q174 (Z := vm_M173) (n := 1) (k := 1) (mi := 173) (pc := 1) (en := (1, .invokestatic 145, 3, [173, 1453, 0], .null)) rfl trivial rfl rfl vm_z173 (av := [.int q]) (rest := []) (r_isPalette_n (c := q) hx) rfl (Nat.le_of_ble_eq_true rfl) ⟨Nat.le_of_ble_eq_true rfl, Nat.le_of_ble_eq_true rfl⟩ ⟨Nat.le_of_ble_eq_true rfl, Nat.le_of_ble_eq_true rfl⟩ ?_
  show vm_J _ _ _ (4, (0, 0), [.ref 152, .int q, .int e], [.int 0]) (G, I, F) _ _
  refine vm_J.go vm_q174 (k := 1) (hs := []) (f' := (bif vm_ic .eq 0 0 then 27 else 7, (0, 0), [.ref 152, .int q, .int e], [])) (h' := (G, I, F)) (hs' := []) rfl rfl ?_
  refine vm_J.bT (by decide) ?_
  refine vm_J.go vm_q174 (k := 1) (hs := []) (f' := (28, (0, 0), [.ref 152, .int q, .int e], [.int 0])) (h' := (G, I, F)) (hs' := []) rfl rfl ?_
  exact vm_J.end vm_q174 (en := (28, .ireturn, 1, [], .null)) rfl rfl vm_rZ0 (Nat.zero_le _) (Nat.zero_le _) rfl
theorem r_ew_n {l : Launch} {X : vm_Cx} {G : List vm_Sh} {I : Nat → Nat → Int32} {F : Nat → Nat → UInt32} {p n : Nat} {c : Int32} (hR : vm_isR G) (hp : p < 4) (hn : I 156 p = nI n) (hn2 : n ≤ 16) (hb : ∀ k, k < n → ¬ I 157 (16 * p + k) = c) : vm_K l X vm_M211 [.ref 152, .int (nI p), .int c] (G, I, F) (some (.int (-1))) (G, I, F) := by
  have q := r_entryWith (l := l) (X := X) (I := I) (F := F) (c := c) hR hp hn hn2
  rw [sp_ew_none (f := fun k => I 157 (16 * p + k)) hb] at q
  exact q
theorem r_ew_y {l : Launch} {X : vm_Cx} {G : List vm_Sh} {I : Nat → Nat → Int32} {F : Nat → Nat → UInt32} {p n j : Nat} {c : Int32} (hR : vm_isR G) (hp : p < 4) (hn : I 156 p = nI n) (hn2 : n ≤ 16) (hj : j < n) (hb : ∀ k, k < j → ¬ I 157 (16 * p + k) = c) (hc : I 157 (16 * p + j) = c) : vm_K l X vm_M211 [.ref 152, .int (nI p), .int c] (G, I, F) (some (.int (nI j))) (G, I, F) := by
  have q := r_entryWith (l := l) (X := X) (I := I) (F := F) (c := c) hR hp hn hn2
  rw [sp_ew_hit (f := fun k => I 157 (16 * p + k)) hj hb hc] at q
  exact q
set_option maxHeartbeats 4000000 in
set_option maxRecDepth 20000 in
/-- DitherDeskModel.comesEntry -/
theorem r_comesE_t {l : Launch} {X : vm_Cx} {G : List vm_Sh} {I : Nat → Nat → Int32} {F : Nat → Nat → UInt32} {p : Nat} {n : Nat} {j : Nat} {c : Int32} {lo : Int32} (hR : vm_isR G) (hn : I 156 p = nI n) (hp : p < 4) (hn2 : n ≤ 16) (hj : j < n) (hb : ∀ k, k < j → ¬ I 157 (16 * p + k) = c) (hc : I 157 (16 * p + j) = c) : vm_K l X vm_M212 [.ref 152, .int (nI p), .int c, .int lo] (G, I, F) (some (.int 0)) (G, I, F) := by
  refine vm_K.mk (by decide) (Nat.le_of_ble_eq_true rfl) ?_
  show vm_J _ _ _ (0, (0, 0), [.ref 152, .int (nI p), .int c, .int lo], []) _ _ _
  refine vm_J.go vm_q212 (k := 3) (hs := []) (f' := (3, (0, 0), [.ref 152, .int (nI p), .int c, .int lo], [.int c, .int (nI p), .ref 152])) (h' := (G, I, F)) (hs' := []) rfl rfl ?_
  refine vm_J.call vm_q212 (Z := vm_M211) (n := 2) (k := 0) (mi := 211) (pc := 3) (en := (3, .invokevirtual 258, 3, [211, 1456, 0], .null)) rfl trivial rfl rfl vm_z211 (av := [.ref 152, .int (nI p), .int c]) (rest := []) (r_ew_y (p := p) (j := j) (c := c) hR (by omega) hn (by omega) hj hb hc) ⟨_, _, rfl, rfl, _, 11, _, hR.c152, rfl, rfl, rfl⟩ (Nat.le_of_ble_eq_true rfl) ⟨Nat.le_of_ble_eq_true rfl, Nat.le_of_ble_eq_true rfl⟩ ⟨Nat.le_of_ble_eq_true rfl, Nat.le_of_ble_eq_true rfl⟩ ?_
  show vm_J _ _ _ (6, (0, 0), [.ref 152, .int (nI p), .int c, .int lo], [.int (nI j)]) (G, I, F) _ _
  refine vm_J.go vm_q212 (k := 1) (hs := []) (f' := (bif vm_ic .ge (nI j) 0 then 20 else 9, (0, 0), [.ref 152, .int (nI p), .int c, .int lo], [])) (h' := (G, I, F)) (hs' := []) rfl rfl ?_
  refine vm_J.br (fun c1 => ?_) (fun c1 => ?_)
  · have c1 := vm_ge_t (a := j) (b := 0) (by omega) (by omega) c1
    refine vm_J.go vm_q212 (k := 1) (hs := []) (f' := (21, (0, 0), [.ref 152, .int (nI p), .int c, .int lo], [.int 0])) (h' := (G, I, F)) (hs' := []) rfl rfl ?_
    exact vm_J.end vm_q212 (en := (21, .ireturn, 1, [], .null)) rfl rfl vm_rZ0 (Nat.zero_le _) (Nat.zero_le _) rfl
  · have c1 := vm_ge_f (a := j) (b := 0) (by omega) (by omega) c1
    exact (show False by omega).elim
set_option maxHeartbeats 4000000 in
set_option maxRecDepth 20000 in
/-- DitherDeskModel.comesEntry -/
theorem r_comesE_f {l : Launch} {X : vm_Cx} {G : List vm_Sh} {I : Nat → Nat → Int32} {F : Nat → Nat → UInt32} {p : Nat} {n : Nat} {c : Int32} {lo : Int32} (hR : vm_isR G) (hn : I 156 p = nI n) (hp : p < 4) (hn2 : n = 16) (hb : ∀ k, k < n → ¬ I 157 (16 * p + k) = c) : vm_K l X vm_M212 [.ref 152, .int (nI p), .int c, .int lo] (G, I, F) (some (.int 0)) (G, I, F) := by
  refine vm_K.mk (by decide) (Nat.le_of_ble_eq_true rfl) ?_
  show vm_J _ _ _ (0, (0, 0), [.ref 152, .int (nI p), .int c, .int lo], []) _ _ _
  refine vm_J.go vm_q212 (k := 3) (hs := []) (f' := (3, (0, 0), [.ref 152, .int (nI p), .int c, .int lo], [.int c, .int (nI p), .ref 152])) (h' := (G, I, F)) (hs' := []) rfl rfl ?_
  refine vm_J.call vm_q212 (Z := vm_M211) (n := 2) (k := 0) (mi := 211) (pc := 3) (en := (3, .invokevirtual 258, 3, [211, 1456, 0], .null)) rfl trivial rfl rfl vm_z211 (av := [.ref 152, .int (nI p), .int c]) (rest := []) (r_ew_n (p := p) (c := c) hR (by omega) hn (by omega) hb) ⟨_, _, rfl, rfl, _, 11, _, hR.c152, rfl, rfl, rfl⟩ (Nat.le_of_ble_eq_true rfl) ⟨Nat.le_of_ble_eq_true rfl, Nat.le_of_ble_eq_true rfl⟩ ⟨Nat.le_of_ble_eq_true rfl, Nat.le_of_ble_eq_true rfl⟩ ?_
  show vm_J _ _ _ (6, (0, 0), [.ref 152, .int (nI p), .int c, .int lo], [.int (-1)]) (G, I, F) _ _
  refine vm_J.go vm_q212 (k := 1) (hs := []) (f' := (bif vm_ic .ge (-1) 0 then 20 else 9, (0, 0), [.ref 152, .int (nI p), .int c, .int lo], [])) (h' := (G, I, F)) (hs' := []) rfl rfl ?_
  refine vm_J.bF (by decide) ?_
  refine vm_J.go vm_q212 (k := 4) (hs := [vm_shR, (0, 4, [])]) (f' := (15, (0, 0), [.ref 152, .int (nI p), .int c, .int lo], [.int (I 156 (nI p).toNatClampNeg)])) (h' := (G, I, F)) (hs' := []) rfl (vm_b2 rfl (vm_b2 (vm_b2 (vm_hG hR.c152) rfl) (vm_b2 rfl (vm_b2 (vm_b2 (vm_hG hR.c156) (vm_in_e (j := p) (n := 4) rfl (by omega) (by omega))) rfl)))) ?_
  rw [vm_ix_e (j := p) rfl (by omega)]
  rw [(hn : I 156 p = nI n)]
  refine vm_J.go vm_q212 (k := 2) (hs := []) (f' := (bif vm_ic .ne (nI n) 16 then 22 else 20, (0, 0), [.ref 152, .int (nI p), .int c, .int lo], [])) (h' := (G, I, F)) (hs' := []) rfl rfl ?_
  refine vm_J.br (fun c1 => ?_) (fun c1 => ?_)
  · have c1 := vm_ne_t (a := n) (b := 16) (by omega) (by omega) c1
    exact (show False by omega).elim
  · have c1 := vm_ne_f (a := n) (b := 16) (by omega) (by omega) c1
    refine vm_J.go vm_q212 (k := 1) (hs := []) (f' := (21, (0, 0), [.ref 152, .int (nI p), .int c, .int lo], [.int 0])) (h' := (G, I, F)) (hs' := []) rfl rfl ?_
    exact vm_J.end vm_q212 (en := (21, .ireturn, 1, [], .null)) rfl rfl vm_rZ0 (Nat.zero_le _) (Nat.zero_le _) rfl
set_option maxHeartbeats 4000000 in
set_option maxRecDepth 20000 in
/-- DitherDeskModel.comesEntry -/
theorem r_comesE_y {l : Launch} {X : vm_Cx} {G : List vm_Sh} {I : Nat → Nat → Int32} {F : Nat → Nat → UInt32} {p : Nat} {n : Nat} {c : Int32} {lo : Int32} (hR : vm_isR G) (hn : I 156 p = nI n) (hp : p < 4) (hn2 : n < 16) (hb : ∀ k, k < n → ¬ I 157 (16 * p + k) = c) : vm_K l X vm_M212 [.ref 152, .int (nI p), .int c, .int lo] (G, I, F) (some (.int 1)) (G, (vm_up (vm_up (vm_up I 157 (16 * p + n) c) 158 (16 * p + n) lo) 156 p (nI (n + 1))), F) := by
  refine vm_K.mk (by decide) (Nat.le_of_ble_eq_true rfl) ?_
  show vm_J _ _ _ (0, (0, 0), [.ref 152, .int (nI p), .int c, .int lo], []) _ _ _
  refine vm_J.go vm_q212 (k := 3) (hs := []) (f' := (3, (0, 0), [.ref 152, .int (nI p), .int c, .int lo], [.int c, .int (nI p), .ref 152])) (h' := (G, I, F)) (hs' := []) rfl rfl ?_
  refine vm_J.call vm_q212 (Z := vm_M211) (n := 2) (k := 0) (mi := 211) (pc := 3) (en := (3, .invokevirtual 258, 3, [211, 1456, 0], .null)) rfl trivial rfl rfl vm_z211 (av := [.ref 152, .int (nI p), .int c]) (rest := []) (r_ew_n (p := p) (c := c) hR (by omega) hn (by omega) hb) ⟨_, _, rfl, rfl, _, 11, _, hR.c152, rfl, rfl, rfl⟩ (Nat.le_of_ble_eq_true rfl) ⟨Nat.le_of_ble_eq_true rfl, Nat.le_of_ble_eq_true rfl⟩ ⟨Nat.le_of_ble_eq_true rfl, Nat.le_of_ble_eq_true rfl⟩ ?_
  show vm_J _ _ _ (6, (0, 0), [.ref 152, .int (nI p), .int c, .int lo], [.int (-1)]) (G, I, F) _ _
  refine vm_J.go vm_q212 (k := 1) (hs := []) (f' := (bif vm_ic .ge (-1) 0 then 20 else 9, (0, 0), [.ref 152, .int (nI p), .int c, .int lo], [])) (h' := (G, I, F)) (hs' := []) rfl rfl ?_
  refine vm_J.bF (by decide) ?_
  refine vm_J.go vm_q212 (k := 4) (hs := [vm_shR, (0, 4, [])]) (f' := (15, (0, 0), [.ref 152, .int (nI p), .int c, .int lo], [.int (I 156 (nI p).toNatClampNeg)])) (h' := (G, I, F)) (hs' := []) rfl (vm_b2 rfl (vm_b2 (vm_b2 (vm_hG hR.c152) rfl) (vm_b2 rfl (vm_b2 (vm_b2 (vm_hG hR.c156) (vm_in_e (j := p) (n := 4) rfl (by omega) (by omega))) rfl)))) ?_
  rw [vm_ix_e (j := p) rfl (by omega)]
  rw [(hn : I 156 p = nI n)]
  refine vm_J.go vm_q212 (k := 2) (hs := []) (f' := (bif vm_ic .ne (nI n) 16 then 22 else 20, (0, 0), [.ref 152, .int (nI p), .int c, .int lo], [])) (h' := (G, I, F)) (hs' := []) rfl rfl ?_
  refine vm_J.br (fun c1 => ?_) (fun c1 => ?_)
  · have c1 := vm_ne_t (a := n) (b := 16) (by omega) (by omega) c1
    refine vm_J.go vm_q212 (k := 9) (hs := [vm_shR, vm_shR, (0, 4, [])]) (f' := (36, (0, 0), [.ref 152, .int (nI p), .int c, .int lo], [.int (I 156 (nI p).toNatClampNeg), .int (16 * (nI p)), .ref 157])) (h' := (G, I, F)) (hs' := []) rfl (vm_b2 rfl (vm_b2 (vm_b2 (vm_hG hR.c152) rfl) (vm_b2 rfl (vm_b2 rfl (vm_b2 rfl (vm_b2 rfl (vm_b2 (vm_b2 (vm_hG hR.c152) rfl) (vm_b2 rfl (vm_b2 (vm_b2 (vm_hG hR.c156) (vm_in_e (j := p) (n := 4) rfl (by omega) (by omega))) rfl))))))))) ?_
    rw [vm_ix_e (j := p) rfl (by omega), ((vm_pm (rfl : (16 : Int32) = nI 16) (rfl : (nI p : Int32) = nI p)) : 16 * (nI p) = nI (16 * p))]
    rw [(hn : I 156 p = nI n)]
    refine vm_J.go vm_q212 (k := 12) (hs := [(0, 64, []), vm_shR, vm_shR, (0, 4, [])]) (f' := (53, (0, 0), [.ref 152, .int (nI p), .int c, .int lo], [.int ((vm_up I 157 (((nI (16 * p)) + (nI n)).toNatClampNeg) c) 156 (nI p).toNatClampNeg), .int (16 * (nI p)), .ref 158])) (h' := (G, (vm_up I 157 (((nI (16 * p)) + (nI n)).toNatClampNeg) c), F)) (hs' := []) rfl (vm_b2 rfl (vm_b2 rfl (vm_b2 (vm_b2 (vm_hG hR.c157) (vm_in_e (j := (16 * p) + n) (n := 64) (vm_pa (rfl : (nI (16 * p) : Int32) = nI (16 * p)) (rfl : (nI n : Int32) = nI n)) (by omega) (by omega))) (vm_b2 rfl (vm_b2 (vm_b2 (vm_hG hR.c152) rfl) (vm_b2 rfl (vm_b2 rfl (vm_b2 rfl (vm_b2 rfl (vm_b2 (vm_b2 (vm_hG hR.c152) rfl) (vm_b2 rfl (vm_b2 (vm_b2 (vm_hG hR.c156) (vm_in_e (j := p) (n := 4) rfl (by omega) (by omega))) rfl)))))))))))) ?_
    rw [vm_ix_e (j := (16 * p) + n) (vm_pa (rfl : (nI (16 * p) : Int32) = nI (16 * p)) (rfl : (nI n : Int32) = nI n)) (by omega), vm_ix_e (j := p) rfl (by omega), ((vm_pm (rfl : (16 : Int32) = nI 16) (rfl : (nI p : Int32) = nI p)) : 16 * (nI p) = nI (16 * p))]
    rw [((Eq.trans (congrFun (vm_up_f _ 157 _ _ 156 (by decide)) p) hn) : (vm_up I 157 (((16 * p) + n)) c) 156 p = nI n)]
    refine vm_J.go vm_q212 (k := 8) (hs := [(0, 64, []), vm_shR, (0, 4, [])]) (f' := (63, (0, 0), [.ref 152, .int (nI p), .int c, .int lo], [.int ((vm_up (vm_up I 157 (((16 * p) + n)) c) 158 (((nI (16 * p)) + (nI n)).toNatClampNeg) lo) 156 (nI p).toNatClampNeg), .int (nI p), .ref 156])) (h' := (G, (vm_up (vm_up I 157 (((16 * p) + n)) c) 158 (((nI (16 * p)) + (nI n)).toNatClampNeg) lo), F)) (hs' := []) rfl (vm_b2 rfl (vm_b2 rfl (vm_b2 (vm_b2 (vm_hG hR.c158) (vm_in_e (j := (16 * p) + n) (n := 64) (vm_pa (rfl : (nI (16 * p) : Int32) = nI (16 * p)) (rfl : (nI n : Int32) = nI n)) (by omega) (by omega))) (vm_b2 rfl (vm_b2 (vm_b2 (vm_hG hR.c152) rfl) (vm_b2 rfl (vm_b2 rfl (vm_b2 (vm_b2 (vm_hG hR.c156) (vm_in_e (j := p) (n := 4) rfl (by omega) (by omega))) rfl)))))))) ?_
    rw [vm_ix_e (j := (16 * p) + n) (vm_pa (rfl : (nI (16 * p) : Int32) = nI (16 * p)) (rfl : (nI n : Int32) = nI n)) (by omega), vm_ix_e (j := p) rfl (by omega)]
    rw [((Eq.trans (congrFun (vm_up_f _ 158 _ _ 156 (by decide)) p) (Eq.trans (congrFun (vm_up_f _ 157 _ _ 156 (by decide)) p) hn)) : (vm_up (vm_up I 157 (((16 * p) + n)) c) 158 (((16 * p) + n)) lo) 156 p = nI n)]
    refine vm_J.go vm_q212 (k := 2) (hs := []) (f' := (65, (0, 0), [.ref 152, .int (nI p), .int c, .int lo], [.int ((nI n) + 1), .int (nI p), .ref 156])) (h' := (G, (vm_up (vm_up I 157 (((16 * p) + n)) c) 158 (((16 * p) + n)) lo), F)) (hs' := []) rfl rfl ?_
    rw [((vm_pa (rfl : (nI n : Int32) = nI n) (rfl : (1 : Int32) = nI 1)) : (nI n) + 1 = nI (n + 1))]
    refine vm_J.go vm_q212 (k := 2) (hs := [(0, 4, [])]) (f' := (67, (0, 0), [.ref 152, .int (nI p), .int c, .int lo], [.int 1])) (h' := (G, (vm_up (vm_up (vm_up I 157 (((16 * p) + n)) c) 158 (((16 * p) + n)) lo) 156 ((nI p).toNatClampNeg) (nI (n + 1))), F)) (hs' := []) rfl (vm_b2 (vm_b2 (vm_hG hR.c156) (vm_in_e (j := p) (n := 4) rfl (by omega) (by omega))) (vm_b2 rfl rfl)) ?_
    rw [vm_ix_e (j := p) rfl (by omega)]
    exact vm_J.end vm_q212 (en := (67, .ireturn, 1, [], .null)) rfl rfl vm_rZ1 (Nat.zero_le _) (Nat.zero_le _) rfl
  · have c1 := vm_ne_f (a := n) (b := 16) (by omega) (by omega) c1
    exact (show False by omega).elim
set_option maxHeartbeats 4000000 in
set_option maxRecDepth 20000 in
/-- DitherDeskModel.entry -/
theorem r_entry_x {l : Launch} {X : vm_Cx} {G : List vm_Sh} {I : Nat → Nat → Int32} {F : Nat → Nat → UInt32} {q : Int32} {c : Int32} (hR : vm_isR G) (hx : ¬ (0 ≤ q ∧ q ≤ 3)) : vm_K l X vm_M213 [.ref 152, .int q, .int c] (G, I, F) (some (.int (-1))) (G, I, F) := by
  refine vm_K.mk (by decide) (Nat.le_of_ble_eq_true rfl) ?_
  show vm_J _ _ _ (0, (0, 0), [.ref 152, .int q, .int c], []) _ _ _
  refine vm_J.go vm_q213 (k := 1) (hs := []) (f' := (1, (0, 0), [.ref 152, .int q, .int c], [.int q])) (h' := (G, I, F)) (hs' := []) rfl rfl ?_
  refine vm_J.call vm_q213 (Z := vm_M173) (n := 1) (k := 1) (mi := 173) (pc := 1) (en := (1, .invokestatic 145, 3, [173, 1453, 0], .null)) rfl trivial rfl rfl vm_z173 (av := [.int q]) (rest := []) (r_isPalette_n (c := q) hx) rfl (Nat.le_of_ble_eq_true rfl) ⟨Nat.le_of_ble_eq_true rfl, Nat.le_of_ble_eq_true rfl⟩ ⟨Nat.le_of_ble_eq_true rfl, Nat.le_of_ble_eq_true rfl⟩ ?_
  show vm_J _ _ _ (4, (0, 0), [.ref 152, .int q, .int c], [.int 0]) (G, I, F) _ _
  refine vm_J.go vm_q213 (k := 1) (hs := []) (f' := (bif vm_ic .ne 0 0 then 9 else 7, (0, 0), [.ref 152, .int q, .int c], [])) (h' := (G, I, F)) (hs' := []) rfl rfl ?_
  refine vm_J.bF (by decide) ?_
  refine vm_J.go vm_q213 (k := 1) (hs := []) (f' := (8, (0, 0), [.ref 152, .int q, .int c], [.int (-1)])) (h' := (G, I, F)) (hs' := []) rfl rfl ?_
  exact vm_J.end vm_q213 (en := (8, .ireturn, 1, [], .null)) rfl rfl vm_rI (Nat.zero_le _) (Nat.zero_le _) rfl
set_option maxHeartbeats 4000000 in
set_option maxRecDepth 20000 in
/-- DitherDeskModel.entry -/
theorem r_entry_b {l : Launch} {X : vm_Cx} {G : List vm_Sh} {I : Nat → Nat → Int32} {F : Nat → Nat → UInt32} {p : Nat} {c : Int32} (hR : vm_isR G) (hp : p < 4) (hc : ¬ (0 ≤ c ∧ c ≤ 262143)) : vm_K l X vm_M213 [.ref 152, .int (nI p), .int c] (G, I, F) (some (.int (-2))) (G, I, F) := by
  refine vm_K.mk (by decide) (Nat.le_of_ble_eq_true rfl) ?_
  show vm_J _ _ _ (0, (0, 0), [.ref 152, .int (nI p), .int c], []) _ _ _
  refine vm_J.go vm_q213 (k := 1) (hs := []) (f' := (1, (0, 0), [.ref 152, .int (nI p), .int c], [.int (nI p)])) (h' := (G, I, F)) (hs' := []) rfl rfl ?_
  refine vm_J.call vm_q213 (Z := vm_M173) (n := 1) (k := 1) (mi := 173) (pc := 1) (en := (1, .invokestatic 145, 3, [173, 1453, 0], .null)) rfl trivial rfl rfl vm_z173 (av := [.int (nI p)]) (rest := []) (r_isPalette_y (c := nI p) (vm_bp4 hp)) rfl (Nat.le_of_ble_eq_true rfl) ⟨Nat.le_of_ble_eq_true rfl, Nat.le_of_ble_eq_true rfl⟩ ⟨Nat.le_of_ble_eq_true rfl, Nat.le_of_ble_eq_true rfl⟩ ?_
  show vm_J _ _ _ (4, (0, 0), [.ref 152, .int (nI p), .int c], [.int 1]) (G, I, F) _ _
  refine vm_J.go vm_q213 (k := 1) (hs := []) (f' := (bif vm_ic .ne 1 0 then 9 else 7, (0, 0), [.ref 152, .int (nI p), .int c], [])) (h' := (G, I, F)) (hs' := []) rfl rfl ?_
  refine vm_J.bT (by decide) ?_
  refine vm_J.go vm_q213 (k := 1) (hs := []) (f' := (10, (0, 0), [.ref 152, .int (nI p), .int c], [.int c])) (h' := (G, I, F)) (hs' := []) rfl rfl ?_
  refine vm_J.call vm_q213 (Z := vm_M169) (n := 1) (k := 1) (mi := 169) (pc := 10) (en := (10, .invokestatic 162, 3, [169, 1321, 0], .null)) rfl trivial rfl rfl vm_z169 (av := [.int c]) (rest := []) (r_isColour_n (c := c) hc) rfl (Nat.le_of_ble_eq_true rfl) ⟨Nat.le_of_ble_eq_true rfl, Nat.le_of_ble_eq_true rfl⟩ ⟨Nat.le_of_ble_eq_true rfl, Nat.le_of_ble_eq_true rfl⟩ ?_
  show vm_J _ _ _ (13, (0, 0), [.ref 152, .int (nI p), .int c], [.int 0]) (G, I, F) _ _
  refine vm_J.go vm_q213 (k := 1) (hs := []) (f' := (bif vm_ic .ne 0 0 then 19 else 16, (0, 0), [.ref 152, .int (nI p), .int c], [])) (h' := (G, I, F)) (hs' := []) rfl rfl ?_
  refine vm_J.bF (by decide) ?_
  refine vm_J.go vm_q213 (k := 1) (hs := []) (f' := (18, (0, 0), [.ref 152, .int (nI p), .int c], [.int (-2)])) (h' := (G, I, F)) (hs' := []) rfl rfl ?_
  exact vm_J.end vm_q213 (en := (18, .ireturn, 1, [], .null)) rfl rfl vm_rI (Nat.zero_le _) (Nat.zero_le _) rfl
set_option maxHeartbeats 4000000 in
set_option maxRecDepth 20000 in
/-- DitherDeskModel.entry -/
theorem r_entry_s {l : Launch} {X : vm_Cx} {G : List vm_Sh} {I : Nat → Nat → Int32} {F : Nat → Nat → UInt32} {p : Nat} {n : Nat} {j : Nat} {c : Int32} (hR : vm_isR G) (hn : I 156 p = nI n) (hp : p < 4) (hn2 : n ≤ 16) (hcc : 0 ≤ c ∧ c ≤ 262143) (hj : j < n) (hb : ∀ k, k < j → ¬ I 157 (16 * p + k) = c) (hc : I 157 (16 * p + j) = c) : vm_K l X vm_M213 [.ref 152, .int (nI p), .int c] (G, I, F) (some (.int (-3))) (G, I, F) := by
  refine vm_K.mk (by decide) (Nat.le_of_ble_eq_true rfl) ?_
  show vm_J _ _ _ (0, (0, 0), [.ref 152, .int (nI p), .int c], []) _ _ _
  refine vm_J.go vm_q213 (k := 1) (hs := []) (f' := (1, (0, 0), [.ref 152, .int (nI p), .int c], [.int (nI p)])) (h' := (G, I, F)) (hs' := []) rfl rfl ?_
  refine vm_J.call vm_q213 (Z := vm_M173) (n := 1) (k := 1) (mi := 173) (pc := 1) (en := (1, .invokestatic 145, 3, [173, 1453, 0], .null)) rfl trivial rfl rfl vm_z173 (av := [.int (nI p)]) (rest := []) (r_isPalette_y (c := nI p) (vm_bp4 hp)) rfl (Nat.le_of_ble_eq_true rfl) ⟨Nat.le_of_ble_eq_true rfl, Nat.le_of_ble_eq_true rfl⟩ ⟨Nat.le_of_ble_eq_true rfl, Nat.le_of_ble_eq_true rfl⟩ ?_
  show vm_J _ _ _ (4, (0, 0), [.ref 152, .int (nI p), .int c], [.int 1]) (G, I, F) _ _
  refine vm_J.go vm_q213 (k := 1) (hs := []) (f' := (bif vm_ic .ne 1 0 then 9 else 7, (0, 0), [.ref 152, .int (nI p), .int c], [])) (h' := (G, I, F)) (hs' := []) rfl rfl ?_
  refine vm_J.bT (by decide) ?_
  refine vm_J.go vm_q213 (k := 1) (hs := []) (f' := (10, (0, 0), [.ref 152, .int (nI p), .int c], [.int c])) (h' := (G, I, F)) (hs' := []) rfl rfl ?_
  refine vm_J.call vm_q213 (Z := vm_M169) (n := 1) (k := 1) (mi := 169) (pc := 10) (en := (10, .invokestatic 162, 3, [169, 1321, 0], .null)) rfl trivial rfl rfl vm_z169 (av := [.int c]) (rest := []) (r_isColour_y (c := c) hcc) rfl (Nat.le_of_ble_eq_true rfl) ⟨Nat.le_of_ble_eq_true rfl, Nat.le_of_ble_eq_true rfl⟩ ⟨Nat.le_of_ble_eq_true rfl, Nat.le_of_ble_eq_true rfl⟩ ?_
  show vm_J _ _ _ (13, (0, 0), [.ref 152, .int (nI p), .int c], [.int 1]) (G, I, F) _ _
  refine vm_J.go vm_q213 (k := 1) (hs := []) (f' := (bif vm_ic .ne 1 0 then 19 else 16, (0, 0), [.ref 152, .int (nI p), .int c], [])) (h' := (G, I, F)) (hs' := []) rfl rfl ?_
  refine vm_J.bT (by decide) ?_
  refine vm_J.go vm_q213 (k := 3) (hs := []) (f' := (22, (0, 0), [.ref 152, .int (nI p), .int c], [.int c, .int (nI p), .ref 152])) (h' := (G, I, F)) (hs' := []) rfl rfl ?_
  refine vm_J.call vm_q213 (Z := vm_M211) (n := 2) (k := 0) (mi := 211) (pc := 22) (en := (22, .invokevirtual 258, 3, [211, 1456, 0], .null)) rfl trivial rfl rfl vm_z211 (av := [.ref 152, .int (nI p), .int c]) (rest := []) (r_ew_y (p := p) (j := j) (c := c) hR (by omega) hn (by omega) hj hb hc) ⟨_, _, rfl, rfl, _, 11, _, hR.c152, rfl, rfl, rfl⟩ (Nat.le_of_ble_eq_true rfl) ⟨Nat.le_of_ble_eq_true rfl, Nat.le_of_ble_eq_true rfl⟩ ⟨Nat.le_of_ble_eq_true rfl, Nat.le_of_ble_eq_true rfl⟩ ?_
  show vm_J _ _ _ (25, (0, 0), [.ref 152, .int (nI p), .int c], [.int (nI j)]) (G, I, F) _ _
  refine vm_J.go vm_q213 (k := 1) (hs := []) (f' := (bif vm_ic .lt (nI j) 0 then 31 else 28, (0, 0), [.ref 152, .int (nI p), .int c], [])) (h' := (G, I, F)) (hs' := []) rfl rfl ?_
  refine vm_J.br (fun c1 => ?_) (fun c1 => ?_)
  · have c1 := vm_lt_t (a := j) (b := 0) (by omega) (by omega) c1
    exact (show False by omega).elim
  · have c1 := vm_lt_f (a := j) (b := 0) (by omega) (by omega) c1
    refine vm_J.go vm_q213 (k := 1) (hs := []) (f' := (30, (0, 0), [.ref 152, .int (nI p), .int c], [.int (-3)])) (h' := (G, I, F)) (hs' := []) rfl rfl ?_
    exact vm_J.end vm_q213 (en := (30, .ireturn, 1, [], .null)) rfl rfl vm_rI (Nat.zero_le _) (Nat.zero_le _) rfl
set_option maxHeartbeats 4000000 in
set_option maxRecDepth 20000 in
/-- DitherDeskModel.entry -/
theorem r_entry_f {l : Launch} {X : vm_Cx} {G : List vm_Sh} {I : Nat → Nat → Int32} {F : Nat → Nat → UInt32} {p : Nat} {n : Nat} {c : Int32} (hR : vm_isR G) (hn : I 156 p = nI n) (hp : p < 4) (hn2 : n = 16) (hcc : 0 ≤ c ∧ c ≤ 262143) (hb : ∀ k, k < n → ¬ I 157 (16 * p + k) = c) : vm_K l X vm_M213 [.ref 152, .int (nI p), .int c] (G, I, F) (some (.int (-4))) (G, I, F) := by
  refine vm_K.mk (by decide) (Nat.le_of_ble_eq_true rfl) ?_
  show vm_J _ _ _ (0, (0, 0), [.ref 152, .int (nI p), .int c], []) _ _ _
  refine vm_J.go vm_q213 (k := 1) (hs := []) (f' := (1, (0, 0), [.ref 152, .int (nI p), .int c], [.int (nI p)])) (h' := (G, I, F)) (hs' := []) rfl rfl ?_
  refine vm_J.call vm_q213 (Z := vm_M173) (n := 1) (k := 1) (mi := 173) (pc := 1) (en := (1, .invokestatic 145, 3, [173, 1453, 0], .null)) rfl trivial rfl rfl vm_z173 (av := [.int (nI p)]) (rest := []) (r_isPalette_y (c := nI p) (vm_bp4 hp)) rfl (Nat.le_of_ble_eq_true rfl) ⟨Nat.le_of_ble_eq_true rfl, Nat.le_of_ble_eq_true rfl⟩ ⟨Nat.le_of_ble_eq_true rfl, Nat.le_of_ble_eq_true rfl⟩ ?_
  show vm_J _ _ _ (4, (0, 0), [.ref 152, .int (nI p), .int c], [.int 1]) (G, I, F) _ _
  refine vm_J.go vm_q213 (k := 1) (hs := []) (f' := (bif vm_ic .ne 1 0 then 9 else 7, (0, 0), [.ref 152, .int (nI p), .int c], [])) (h' := (G, I, F)) (hs' := []) rfl rfl ?_
  refine vm_J.bT (by decide) ?_
  refine vm_J.go vm_q213 (k := 1) (hs := []) (f' := (10, (0, 0), [.ref 152, .int (nI p), .int c], [.int c])) (h' := (G, I, F)) (hs' := []) rfl rfl ?_
  refine vm_J.call vm_q213 (Z := vm_M169) (n := 1) (k := 1) (mi := 169) (pc := 10) (en := (10, .invokestatic 162, 3, [169, 1321, 0], .null)) rfl trivial rfl rfl vm_z169 (av := [.int c]) (rest := []) (r_isColour_y (c := c) hcc) rfl (Nat.le_of_ble_eq_true rfl) ⟨Nat.le_of_ble_eq_true rfl, Nat.le_of_ble_eq_true rfl⟩ ⟨Nat.le_of_ble_eq_true rfl, Nat.le_of_ble_eq_true rfl⟩ ?_
  show vm_J _ _ _ (13, (0, 0), [.ref 152, .int (nI p), .int c], [.int 1]) (G, I, F) _ _
  refine vm_J.go vm_q213 (k := 1) (hs := []) (f' := (bif vm_ic .ne 1 0 then 19 else 16, (0, 0), [.ref 152, .int (nI p), .int c], [])) (h' := (G, I, F)) (hs' := []) rfl rfl ?_
  refine vm_J.bT (by decide) ?_
  refine vm_J.go vm_q213 (k := 3) (hs := []) (f' := (22, (0, 0), [.ref 152, .int (nI p), .int c], [.int c, .int (nI p), .ref 152])) (h' := (G, I, F)) (hs' := []) rfl rfl ?_
  refine vm_J.call vm_q213 (Z := vm_M211) (n := 2) (k := 0) (mi := 211) (pc := 22) (en := (22, .invokevirtual 258, 3, [211, 1456, 0], .null)) rfl trivial rfl rfl vm_z211 (av := [.ref 152, .int (nI p), .int c]) (rest := []) (r_ew_n (p := p) (c := c) hR (by omega) hn (by omega) hb) ⟨_, _, rfl, rfl, _, 11, _, hR.c152, rfl, rfl, rfl⟩ (Nat.le_of_ble_eq_true rfl) ⟨Nat.le_of_ble_eq_true rfl, Nat.le_of_ble_eq_true rfl⟩ ⟨Nat.le_of_ble_eq_true rfl, Nat.le_of_ble_eq_true rfl⟩ ?_
  show vm_J _ _ _ (25, (0, 0), [.ref 152, .int (nI p), .int c], [.int (-1)]) (G, I, F) _ _
  refine vm_J.go vm_q213 (k := 1) (hs := []) (f' := (bif vm_ic .lt (-1) 0 then 31 else 28, (0, 0), [.ref 152, .int (nI p), .int c], [])) (h' := (G, I, F)) (hs' := []) rfl rfl ?_
  refine vm_J.bT (by decide) ?_
  refine vm_J.go vm_q213 (k := 4) (hs := []) (f' := (35, (0, 0), [.ref 152, .int (nI p), .int c], [.int 0, .int c, .int (nI p), .ref 152])) (h' := (G, I, F)) (hs' := []) rfl rfl ?_
  refine vm_J.call vm_q213 (Z := vm_M212) (n := 3) (k := 0) (mi := 212) (pc := 35) (en := (35, .invokevirtual 261, 3, [212, 1460, 0], .null)) rfl trivial rfl rfl vm_z212 (av := [.ref 152, .int (nI p), .int c, .int 0]) (rest := []) (r_comesE_f (p := p) (n := n) (c := c) (lo := 0) hR hn hp hn2 hb) ⟨_, _, rfl, rfl, _, 11, _, hR.c152, rfl, rfl, rfl⟩ (Nat.le_of_ble_eq_true rfl) ⟨Nat.le_of_ble_eq_true rfl, Nat.le_of_ble_eq_true rfl⟩ ⟨Nat.le_of_ble_eq_true rfl, Nat.le_of_ble_eq_true rfl⟩ ?_
  show vm_J _ _ _ (38, (0, 0), [.ref 152, .int (nI p), .int c], [.int 0]) (G, I, F) _ _
  refine vm_J.go vm_q213 (k := 1) (hs := []) (f' := (bif vm_ic .eq 0 0 then 52 else 41, (0, 0), [.ref 152, .int (nI p), .int c], [])) (h' := (G, I, F)) (hs' := []) rfl rfl ?_
  refine vm_J.bT (by decide) ?_
  refine vm_J.go vm_q213 (k := 1) (hs := []) (f' := (54, (0, 0), [.ref 152, .int (nI p), .int c], [.int (-4)])) (h' := (G, I, F)) (hs' := []) rfl rfl ?_
  exact vm_J.end vm_q213 (en := (54, .ireturn, 1, [], .null)) rfl rfl vm_rI (Nat.zero_le _) (Nat.zero_le _) rfl
set_option maxHeartbeats 4000000 in
set_option maxRecDepth 20000 in
/-- DitherDeskModel.entry -/
theorem r_entry_y {l : Launch} {X : vm_Cx} {G : List vm_Sh} {I : Nat → Nat → Int32} {F : Nat → Nat → UInt32} {p : Nat} {n : Nat} {c : Int32} (hR : vm_isR G) (hn : I 156 p = nI n) (hp : p < 4) (hn2 : n < 16) (hcc : 0 ≤ c ∧ c ≤ 262143) (hb : ∀ k, k < n → ¬ I 157 (16 * p + k) = c) : vm_K l X vm_M213 [.ref 152, .int (nI p), .int c] (G, I, F) (some (.int (nI n))) (G, (vm_up (vm_up (vm_up I 157 (16 * p + n) c) 158 (16 * p + n) 0) 156 p (nI (n + 1))), F) := by
  refine vm_K.mk (by decide) (Nat.le_of_ble_eq_true rfl) ?_
  show vm_J _ _ _ (0, (0, 0), [.ref 152, .int (nI p), .int c], []) _ _ _
  refine vm_J.go vm_q213 (k := 1) (hs := []) (f' := (1, (0, 0), [.ref 152, .int (nI p), .int c], [.int (nI p)])) (h' := (G, I, F)) (hs' := []) rfl rfl ?_
  refine vm_J.call vm_q213 (Z := vm_M173) (n := 1) (k := 1) (mi := 173) (pc := 1) (en := (1, .invokestatic 145, 3, [173, 1453, 0], .null)) rfl trivial rfl rfl vm_z173 (av := [.int (nI p)]) (rest := []) (r_isPalette_y (c := nI p) (vm_bp4 hp)) rfl (Nat.le_of_ble_eq_true rfl) ⟨Nat.le_of_ble_eq_true rfl, Nat.le_of_ble_eq_true rfl⟩ ⟨Nat.le_of_ble_eq_true rfl, Nat.le_of_ble_eq_true rfl⟩ ?_
  show vm_J _ _ _ (4, (0, 0), [.ref 152, .int (nI p), .int c], [.int 1]) (G, I, F) _ _
  refine vm_J.go vm_q213 (k := 1) (hs := []) (f' := (bif vm_ic .ne 1 0 then 9 else 7, (0, 0), [.ref 152, .int (nI p), .int c], [])) (h' := (G, I, F)) (hs' := []) rfl rfl ?_
  refine vm_J.bT (by decide) ?_
  refine vm_J.go vm_q213 (k := 1) (hs := []) (f' := (10, (0, 0), [.ref 152, .int (nI p), .int c], [.int c])) (h' := (G, I, F)) (hs' := []) rfl rfl ?_
  refine vm_J.call vm_q213 (Z := vm_M169) (n := 1) (k := 1) (mi := 169) (pc := 10) (en := (10, .invokestatic 162, 3, [169, 1321, 0], .null)) rfl trivial rfl rfl vm_z169 (av := [.int c]) (rest := []) (r_isColour_y (c := c) hcc) rfl (Nat.le_of_ble_eq_true rfl) ⟨Nat.le_of_ble_eq_true rfl, Nat.le_of_ble_eq_true rfl⟩ ⟨Nat.le_of_ble_eq_true rfl, Nat.le_of_ble_eq_true rfl⟩ ?_
  show vm_J _ _ _ (13, (0, 0), [.ref 152, .int (nI p), .int c], [.int 1]) (G, I, F) _ _
  refine vm_J.go vm_q213 (k := 1) (hs := []) (f' := (bif vm_ic .ne 1 0 then 19 else 16, (0, 0), [.ref 152, .int (nI p), .int c], [])) (h' := (G, I, F)) (hs' := []) rfl rfl ?_
  refine vm_J.bT (by decide) ?_
  refine vm_J.go vm_q213 (k := 3) (hs := []) (f' := (22, (0, 0), [.ref 152, .int (nI p), .int c], [.int c, .int (nI p), .ref 152])) (h' := (G, I, F)) (hs' := []) rfl rfl ?_
  refine vm_J.call vm_q213 (Z := vm_M211) (n := 2) (k := 0) (mi := 211) (pc := 22) (en := (22, .invokevirtual 258, 3, [211, 1456, 0], .null)) rfl trivial rfl rfl vm_z211 (av := [.ref 152, .int (nI p), .int c]) (rest := []) (r_ew_n (p := p) (c := c) hR (by omega) hn (by omega) hb) ⟨_, _, rfl, rfl, _, 11, _, hR.c152, rfl, rfl, rfl⟩ (Nat.le_of_ble_eq_true rfl) ⟨Nat.le_of_ble_eq_true rfl, Nat.le_of_ble_eq_true rfl⟩ ⟨Nat.le_of_ble_eq_true rfl, Nat.le_of_ble_eq_true rfl⟩ ?_
  show vm_J _ _ _ (25, (0, 0), [.ref 152, .int (nI p), .int c], [.int (-1)]) (G, I, F) _ _
  refine vm_J.go vm_q213 (k := 1) (hs := []) (f' := (bif vm_ic .lt (-1) 0 then 31 else 28, (0, 0), [.ref 152, .int (nI p), .int c], [])) (h' := (G, I, F)) (hs' := []) rfl rfl ?_
  refine vm_J.bT (by decide) ?_
  refine vm_J.go vm_q213 (k := 4) (hs := []) (f' := (35, (0, 0), [.ref 152, .int (nI p), .int c], [.int 0, .int c, .int (nI p), .ref 152])) (h' := (G, I, F)) (hs' := []) rfl rfl ?_
  refine vm_J.call vm_q213 (Z := vm_M212) (n := 3) (k := 0) (mi := 212) (pc := 35) (en := (35, .invokevirtual 261, 3, [212, 1460, 0], .null)) rfl trivial rfl rfl vm_z212 (av := [.ref 152, .int (nI p), .int c, .int 0]) (rest := []) (r_comesE_y (p := p) (n := n) (c := c) (lo := 0) hR hn hp hn2 hb) ⟨_, _, rfl, rfl, _, 11, _, hR.c152, rfl, rfl, rfl⟩ (Nat.le_of_ble_eq_true rfl) ⟨Nat.le_of_ble_eq_true rfl, Nat.le_of_ble_eq_true rfl⟩ ⟨Nat.le_of_ble_eq_true rfl, Nat.le_of_ble_eq_true rfl⟩ ?_
  show vm_J _ _ _ (38, (0, 0), [.ref 152, .int (nI p), .int c], [.int 1]) (G, (vm_up (vm_up (vm_up I 157 (16 * p + n) c) 158 (16 * p + n) 0) 156 p (nI (n + 1))), F) _ _
  refine vm_J.go vm_q213 (k := 1) (hs := []) (f' := (bif vm_ic .eq 1 0 then 52 else 41, (0, 0), [.ref 152, .int (nI p), .int c], [])) (h' := (G, (vm_up (vm_up (vm_up I 157 (16 * p + n) c) 158 (16 * p + n) 0) 156 p (nI (n + 1))), F)) (hs' := []) rfl rfl ?_
  refine vm_J.bF (by decide) ?_
  refine vm_J.go vm_q213 (k := 4) (hs := [vm_shR, (0, 4, [])]) (f' := (47, (0, 0), [.ref 152, .int (nI p), .int c], [.int ((vm_up (vm_up (vm_up I 157 (16 * p + n) c) 158 (16 * p + n) 0) 156 p (nI (n + 1))) 156 (nI p).toNatClampNeg)])) (h' := (G, (vm_up (vm_up (vm_up I 157 (16 * p + n) c) 158 (16 * p + n) 0) 156 p (nI (n + 1))), F)) (hs' := []) rfl (vm_b2 rfl (vm_b2 (vm_b2 (vm_hG hR.c152) rfl) (vm_b2 rfl (vm_b2 (vm_b2 (vm_hG hR.c156) (vm_in_e (j := p) (n := 4) rfl (by omega) (by omega))) rfl)))) ?_
  rw [vm_ix_e (j := p) rfl (by omega)]
  rw [((vm_up_h _ 156 p _) : (vm_up (vm_up (vm_up I 157 (16 * p + n) c) 158 (16 * p + n) 0) 156 p (nI (n + 1))) 156 p = nI (n + 1))]
  refine vm_J.go vm_q213 (k := 3) (hs := []) (f' := (54, (0, 0), [.ref 152, .int (nI p), .int c], [.int ((nI (n + 1)) - 1)])) (h' := (G, (vm_up (vm_up (vm_up I 157 (16 * p + n) c) 158 (16 * p + n) 0) 156 p (nI (n + 1))), F)) (hs' := []) rfl rfl ?_
  rw [((vm_ps (rfl : (nI (n + 1) : Int32) = nI (n + 1)) (rfl : (1 : Int32) = nI 1) (by omega)) : (nI (n + 1)) - 1 = nI ((n + 1) - 1))]
  exact vm_J.end vm_q213 (en := (54, .ireturn, 1, [], .null)) rfl (by rw [Nat.add_sub_cancel]; rfl) vm_rI (Nat.zero_le _) (Nat.zero_le _) rfl
set_option maxHeartbeats 4000000 in
set_option maxRecDepth 20000 in
/-- DitherDeskModel.goes -/
theorem r_goes {l : Launch} {X : vm_Cx} {G : List vm_Sh} {I : Nat → Nat → Int32} {F : Nat → Nat → UInt32} {p : Nat} {n : Nat} {e : Nat} (hR : vm_isR G) (hn : I 156 p = nI n) (hp : p < 4) (hn2 : n ≤ 16) (he : e < n) : vm_K l X vm_M214 [.ref 152, .int (nI p), .int (nI e)] (G, I, F) (none) (G, (vm_rm (vm_up I 156 p (nI (n - 1))) 157 158 (16 * p + e) (n - 1 - e)), F) := by
  refine vm_K.mk (by decide) (Nat.le_of_ble_eq_true rfl) ?_
  show vm_J _ _ _ (0, (0, 0), [.ref 152, .int (nI p), .int (nI e), .retAddr 0], []) _ _ _
  refine vm_J.go vm_q214 (k := 5) (hs := [vm_shR, (0, 4, [])]) (f' := (7, (0, 0), [.ref 152, .int (nI p), .int (nI e), .retAddr 0], [.int (I 156 (nI p).toNatClampNeg), .int (nI p), .ref 156])) (h' := (G, I, F)) (hs' := []) rfl (vm_b2 rfl (vm_b2 (vm_b2 (vm_hG hR.c152) rfl) (vm_b2 rfl (vm_b2 rfl (vm_b2 (vm_b2 (vm_hG hR.c156) (vm_in_e (j := p) (n := 4) rfl (by omega) (by omega))) rfl))))) ?_
  rw [vm_ix_e (j := p) rfl (by omega)]
  rw [(hn : I 156 p = nI n)]
  refine vm_J.go vm_q214 (k := 2) (hs := []) (f' := (9, (0, 0), [.ref 152, .int (nI p), .int (nI e), .retAddr 0], [.int ((nI n) - 1), .int (nI p), .ref 156])) (h' := (G, I, F)) (hs' := []) rfl rfl ?_
  rw [((vm_ps (rfl : (nI n : Int32) = nI n) (rfl : (1 : Int32) = nI 1) (by omega)) : (nI n) - 1 = nI (n - 1))]
  refine vm_J.go vm_q214 (k := 7) (hs := [(0, 4, [])]) (f' := (17, (0, 0), [.ref 152, .int (nI p), .int (nI e), .int ((16 * (nI p)) + (nI e))], [])) (h' := (G, (vm_up I 156 ((nI p).toNatClampNeg) (nI (n - 1))), F)) (hs' := []) rfl (vm_b2 (vm_b2 (vm_hG hR.c156) (vm_in_e (j := p) (n := 4) rfl (by omega) (by omega))) (vm_b2 rfl (vm_b2 rfl (vm_b2 rfl (vm_b2 rfl (vm_b2 rfl (vm_b2 rfl rfl))))))) ?_
  rw [vm_ix_e (j := p) rfl (by omega), ((vm_pa (vm_pm (rfl : (16 : Int32) = nI 16) (rfl : (nI p : Int32) = nI p)) (rfl : (nI e : Int32) = nI e)) : (16 * (nI p)) + (nI e) = nI ((16 * p) + e))]
  refine vm_J.cnt (n - 1 - e) (fun j => (17, (0, 0), [.ref 152, .int (nI p), .int (nI e), .int (nI (16 * p + e + j))], [])) (fun j => (G, (vm_rm (vm_up I 156 p (nI (n - 1))) 157 158 (16 * p + e) j), F)) (fun _ => True) rfl (by unfold vm_rm; rw [← vm_wq_0, ← vm_wq_0]) trivial (fun j hj pj ij => ?_) (fun pj => ?_)
  · show vm_J _ _ _ (17, (0, 0), [.ref 152, .int (nI p), .int (nI e), .int (nI (16 * p + e + j))], []) (G, (vm_rm (vm_up I 156 p (nI (n - 1))) 157 158 (16 * p + e) j), F) _ _
    refine vm_J.go vm_q214 (k := 8) (hs := [vm_shR, (0, 4, [])]) (f' := (28, (0, 0), [.ref 152, .int (nI p), .int (nI e), .int (nI (16 * p + e + j))], [.int ((vm_rm (vm_up I 156 p (nI (n - 1))) 157 158 (16 * p + e) j) 156 (nI p).toNatClampNeg), .int (16 * (nI p)), .int (nI (16 * p + e + j))])) (h' := (G, (vm_rm (vm_up I 156 p (nI (n - 1))) 157 158 (16 * p + e) j), F)) (hs' := []) rfl (vm_b2 rfl (vm_b2 rfl (vm_b2 rfl (vm_b2 rfl (vm_b2 rfl (vm_b2 (vm_b2 (vm_hG hR.c152) rfl) (vm_b2 rfl (vm_b2 (vm_b2 (vm_hG hR.c156) (vm_in_e (j := p) (n := 4) rfl (by omega) (by omega))) rfl)))))))) ?_
    rw [vm_ix_e (j := p) rfl (by omega), ((vm_pm (rfl : (16 : Int32) = nI 16) (rfl : (nI p : Int32) = nI p)) : 16 * (nI p) = nI (16 * p))]
    rw [((Eq.trans (congrFun (vm_rm_o _ 157 158 (16 * p + e) j 156 (by decide) (by decide)) p) (vm_up_h _ 156 p _)) : (vm_rm (vm_up I 156 p (nI (n - 1))) 157 158 (16 * p + e) j) 156 p = nI (n - 1))]
    refine vm_J.go vm_q214 (k := 2) (hs := []) (f' := (bif vm_ic .ge (nI (16 * p + e + j)) ((nI (16 * p)) + (nI (n - 1))) then 66 else 32, (0, 0), [.ref 152, .int (nI p), .int (nI e), .int (nI (16 * p + e + j))], [])) (h' := (G, (vm_rm (vm_up I 156 p (nI (n - 1))) 157 158 (16 * p + e) j), F)) (hs' := []) rfl rfl ?_
    refine vm_J.br (fun c1 => ?_) (fun c1 => ?_)
    · rw [((vm_pa (rfl : (nI (16 * p) : Int32) = nI (16 * p)) (rfl : (nI (n - 1) : Int32) = nI (n - 1))) : (nI (16 * p)) + (nI (n - 1)) = nI ((16 * p) + (n - 1)))] at c1
      have c1 := vm_ge_t (a := 16 * p + e + j) (b := (16 * p) + (n - 1)) (by omega) (by omega) c1
      exact (show False by omega).elim
    · rw [((vm_pa (rfl : (nI (16 * p) : Int32) = nI (16 * p)) (rfl : (nI (n - 1) : Int32) = nI (n - 1))) : (nI (16 * p)) + (nI (n - 1)) = nI ((16 * p) + (n - 1)))] at c1
      have c1 := vm_ge_f (a := 16 * p + e + j) (b := (16 * p) + (n - 1)) (by omega) (by omega) c1
      refine vm_J.go vm_q214 (k := 19) (hs := [vm_shR, vm_shR, (0, 64, []), (0, 64, []), vm_shR, vm_shR, (0, 64, [])]) (f' := (59, (0, 0), [.ref 152, .int (nI p), .int (nI e), .int (nI (16 * p + e + j))], [.int ((vm_up (vm_rm (vm_up I 156 p (nI (n - 1))) 157 158 (16 * p + e) j) 157 ((nI (16 * p + e + j)).toNatClampNeg) ((vm_rm (vm_up I 156 p (nI (n - 1))) 157 158 (16 * p + e) j) 157 ((nI (16 * p + e + j)) + 1).toNatClampNeg)) 158 ((nI (16 * p + e + j)) + 1).toNatClampNeg), .int (nI (16 * p + e + j)), .ref 158])) (h' := (G, (vm_up (vm_rm (vm_up I 156 p (nI (n - 1))) 157 158 (16 * p + e) j) 157 ((nI (16 * p + e + j)).toNatClampNeg) ((vm_rm (vm_up I 156 p (nI (n - 1))) 157 158 (16 * p + e) j) 157 ((nI (16 * p + e + j)) + 1).toNatClampNeg)), F)) (hs' := []) rfl (vm_b2 rfl (vm_b2 (vm_b2 (vm_hG hR.c152) rfl) (vm_b2 rfl (vm_b2 rfl (vm_b2 (vm_b2 (vm_hG hR.c152) rfl) (vm_b2 rfl (vm_b2 rfl (vm_b2 rfl (vm_b2 (vm_b2 (vm_hG hR.c157) (vm_in_e (j := (16 * p + e + j) + 1) (n := 64) (vm_pa (rfl : (nI (16 * p + e + j) : Int32) = nI (16 * p + e + j)) (rfl : (1 : Int32) = nI 1)) (by omega) (by omega))) (vm_b2 (vm_b2 (vm_hG hR.c157) (vm_in_e (j := 16 * p + e + j) (n := 64) rfl (by omega) (by omega))) (vm_b2 rfl (vm_b2 (vm_b2 (vm_hG hR.c152) rfl) (vm_b2 rfl (vm_b2 rfl (vm_b2 (vm_b2 (vm_hG hR.c152) rfl) (vm_b2 rfl (vm_b2 rfl (vm_b2 rfl (vm_b2 (vm_b2 (vm_hG hR.c158) (vm_in_e (j := (16 * p + e + j) + 1) (n := 64) (vm_pa (rfl : (nI (16 * p + e + j) : Int32) = nI (16 * p + e + j)) (rfl : (1 : Int32) = nI 1)) (by omega) (by omega))) rfl))))))))))))))))))) ?_
      rw [vm_ix_e (j := (16 * p + e + j) + 1) (vm_pa (rfl : (nI (16 * p + e + j) : Int32) = nI (16 * p + e + j)) (rfl : (1 : Int32) = nI 1)) (by omega), vm_ix_e (j := 16 * p + e + j) rfl (by omega)]
      rw [((congrFun (vm_up_f _ 157 _ _ 158 (by decide)) ((16 * p + e + j) + 1)) : (vm_up (vm_rm (vm_up I 156 p (nI (n - 1))) 157 158 (16 * p + e) j) 157 ((16 * p + e + j)) ((vm_rm (vm_up I 156 p (nI (n - 1))) 157 158 (16 * p + e) j) 157 ((16 * p + e + j) + 1))) 158 ((16 * p + e + j) + 1) = (vm_rm (vm_up I 156 p (nI (n - 1))) 157 158 (16 * p + e) j) 158 ((16 * p + e + j) + 1))]
      refine vm_J.go vm_q214 (k := 3) (hs := [(0, 64, [])]) (f' := (17, (0, 0), [.ref 152, .int (nI p), .int (nI e), .int ((nI (16 * p + e + j)) + 1)], [])) (h' := (G, (vm_up (vm_up (vm_rm (vm_up I 156 p (nI (n - 1))) 157 158 (16 * p + e) j) 157 ((16 * p + e + j)) ((vm_rm (vm_up I 156 p (nI (n - 1))) 157 158 (16 * p + e) j) 157 ((16 * p + e + j) + 1))) 158 ((nI (16 * p + e + j)).toNatClampNeg) ((vm_rm (vm_up I 156 p (nI (n - 1))) 157 158 (16 * p + e) j) 158 ((16 * p + e + j) + 1))), F)) (hs' := []) rfl (vm_b2 (vm_b2 (vm_hG hR.c158) (vm_in_e (j := 16 * p + e + j) (n := 64) rfl (by omega) (by omega))) (vm_b2 rfl (vm_b2 rfl rfl))) ?_
      rw [vm_ix_e (j := 16 * p + e + j) rfl (by omega), ((vm_pa (rfl : nI (16 * p + e + j) = nI (16 * p + e + j)) (rfl : (1 : Int32) = nI 1)) : (nI (16 * p + e + j)) + 1 = nI (16 * p + e + j + 1))]
      rw [vm_rm_a _ 157 158 (16 * p + e) j _ (by decide) (by omega), vm_rm_b _ 157 158 (16 * p + e) j _ (by decide) (by omega), vm_rm_s _ 157 158 (16 * p + e) j (by decide)]
      exact ij trivial
  · show vm_J _ _ _ (17, (0, 0), [.ref 152, .int (nI p), .int (nI e), .int (nI (16 * p + e + (n - 1 - e)))], []) (G, (vm_rm (vm_up I 156 p (nI (n - 1))) 157 158 (16 * p + e) (n - 1 - e)), F) _ _
    refine vm_J.go vm_q214 (k := 8) (hs := [vm_shR, (0, 4, [])]) (f' := (28, (0, 0), [.ref 152, .int (nI p), .int (nI e), .int (nI (16 * p + e + (n - 1 - e)))], [.int ((vm_rm (vm_up I 156 p (nI (n - 1))) 157 158 (16 * p + e) (n - 1 - e)) 156 (nI p).toNatClampNeg), .int (16 * (nI p)), .int (nI (16 * p + e + (n - 1 - e)))])) (h' := (G, (vm_rm (vm_up I 156 p (nI (n - 1))) 157 158 (16 * p + e) (n - 1 - e)), F)) (hs' := []) rfl (vm_b2 rfl (vm_b2 rfl (vm_b2 rfl (vm_b2 rfl (vm_b2 rfl (vm_b2 (vm_b2 (vm_hG hR.c152) rfl) (vm_b2 rfl (vm_b2 (vm_b2 (vm_hG hR.c156) (vm_in_e (j := p) (n := 4) rfl (by omega) (by omega))) rfl)))))))) ?_
    rw [vm_ix_e (j := p) rfl (by omega), ((vm_pm (rfl : (16 : Int32) = nI 16) (rfl : (nI p : Int32) = nI p)) : 16 * (nI p) = nI (16 * p))]
    rw [((Eq.trans (congrFun (vm_rm_o _ 157 158 (16 * p + e) (n - 1 - e) 156 (by decide) (by decide)) p) (vm_up_h _ 156 p _)) : (vm_rm (vm_up I 156 p (nI (n - 1))) 157 158 (16 * p + e) (n - 1 - e)) 156 p = nI (n - 1))]
    refine vm_J.go vm_q214 (k := 2) (hs := []) (f' := (bif vm_ic .ge (nI (16 * p + e + (n - 1 - e))) ((nI (16 * p)) + (nI (n - 1))) then 66 else 32, (0, 0), [.ref 152, .int (nI p), .int (nI e), .int (nI (16 * p + e + (n - 1 - e)))], [])) (h' := (G, (vm_rm (vm_up I 156 p (nI (n - 1))) 157 158 (16 * p + e) (n - 1 - e)), F)) (hs' := []) rfl rfl ?_
    refine vm_J.br (fun c2 => ?_) (fun c2 => ?_)
    · rw [((vm_pa (rfl : (nI (16 * p) : Int32) = nI (16 * p)) (rfl : (nI (n - 1) : Int32) = nI (n - 1))) : (nI (16 * p)) + (nI (n - 1)) = nI ((16 * p) + (n - 1)))] at c2
      have c2 := vm_ge_t (a := 16 * p + e + (n - 1 - e)) (b := (16 * p) + (n - 1)) (by omega) (by omega) c2
      exact vm_J.end vm_q214 (en := (66, .return_, 1, [], .null)) rfl rfl vm_rV (Nat.zero_le _) (Nat.zero_le _) rfl
    · rw [((vm_pa (rfl : (nI (16 * p) : Int32) = nI (16 * p)) (rfl : (nI (n - 1) : Int32) = nI (n - 1))) : (nI (16 * p)) + (nI (n - 1)) = nI ((16 * p) + (n - 1)))] at c2
      have c2 := vm_ge_f (a := 16 * p + e + (n - 1 - e)) (b := (16 * p) + (n - 1)) (by omega) (by omega) c2
      exact (show False by omega).elim
set_option maxHeartbeats 4000000 in
set_option maxRecDepth 20000 in
/-- DitherDeskModel.drop -/
theorem r_drop_x {l : Launch} {X : vm_Cx} {G : List vm_Sh} {I : Nat → Nat → Int32} {F : Nat → Nat → UInt32} {q : Int32} {e : Int32} (hR : vm_isR G) (hx : ¬ (0 ≤ q ∧ q ≤ 3)) : vm_K l X vm_M215 [.ref 152, .int q, .int e] (G, I, F) (some (.int (-1))) (G, I, F) := by
  refine vm_K.mk (by decide) (Nat.le_of_ble_eq_true rfl) ?_
  show vm_J _ _ _ (0, (0, 0), [.ref 152, .int q, .int e], []) _ _ _
  refine vm_J.go vm_q215 (k := 3) (hs := []) (f' := (3, (0, 0), [.ref 152, .int q, .int e], [.int e, .int q, .ref 152])) (h' := (G, I, F)) (hs' := []) rfl rfl ?_
  refine vm_J.call vm_q215 (Z := vm_M174) (n := 2) (k := 0) (mi := 174) (pc := 3) (en := (3, .invokevirtual 264, 3, [174, 1468, 0], .null)) rfl trivial rfl rfl vm_z174 (av := [.ref 152, .int q, .int e]) (rest := []) (r_isEn_x (q := q) (e := e) hR hx) ⟨_, _, rfl, rfl, _, 11, _, hR.c152, rfl, rfl, rfl⟩ (Nat.le_of_ble_eq_true rfl) ⟨Nat.le_of_ble_eq_true rfl, Nat.le_of_ble_eq_true rfl⟩ ⟨Nat.le_of_ble_eq_true rfl, Nat.le_of_ble_eq_true rfl⟩ ?_
  show vm_J _ _ _ (6, (0, 0), [.ref 152, .int q, .int e], [.int 0]) (G, I, F) _ _
  refine vm_J.go vm_q215 (k := 1) (hs := []) (f' := (bif vm_ic .ne 0 0 then 11 else 9, (0, 0), [.ref 152, .int q, .int e], [])) (h' := (G, I, F)) (hs' := []) rfl rfl ?_
  refine vm_J.bF (by decide) ?_
  refine vm_J.go vm_q215 (k := 1) (hs := []) (f' := (10, (0, 0), [.ref 152, .int q, .int e], [.int (-1)])) (h' := (G, I, F)) (hs' := []) rfl rfl ?_
  exact vm_J.end vm_q215 (en := (10, .ireturn, 1, [], .null)) rfl rfl vm_rI (Nat.zero_le _) (Nat.zero_le _) rfl
set_option maxHeartbeats 4000000 in
set_option maxRecDepth 20000 in
/-- DitherDeskModel.drop -/
theorem r_drop_e {l : Launch} {X : vm_Cx} {G : List vm_Sh} {I : Nat → Nat → Int32} {F : Nat → Nat → UInt32} {p : Nat} {n : Nat} {e : Int32} (hR : vm_isR G) (hn : I 156 p = nI n) (hp : p < 4) (he : ¬ (0 ≤ e ∧ e ≤ nI n - 1)) : vm_K l X vm_M215 [.ref 152, .int (nI p), .int e] (G, I, F) (some (.int (-1))) (G, I, F) := by
  refine vm_K.mk (by decide) (Nat.le_of_ble_eq_true rfl) ?_
  show vm_J _ _ _ (0, (0, 0), [.ref 152, .int (nI p), .int e], []) _ _ _
  refine vm_J.go vm_q215 (k := 3) (hs := []) (f' := (3, (0, 0), [.ref 152, .int (nI p), .int e], [.int e, .int (nI p), .ref 152])) (h' := (G, I, F)) (hs' := []) rfl rfl ?_
  refine vm_J.call vm_q215 (Z := vm_M174) (n := 2) (k := 0) (mi := 174) (pc := 3) (en := (3, .invokevirtual 264, 3, [174, 1468, 0], .null)) rfl trivial rfl rfl vm_z174 (av := [.ref 152, .int (nI p), .int e]) (rest := []) (r_isEn_n (p := p) (e := e) hR (by omega) hn he) ⟨_, _, rfl, rfl, _, 11, _, hR.c152, rfl, rfl, rfl⟩ (Nat.le_of_ble_eq_true rfl) ⟨Nat.le_of_ble_eq_true rfl, Nat.le_of_ble_eq_true rfl⟩ ⟨Nat.le_of_ble_eq_true rfl, Nat.le_of_ble_eq_true rfl⟩ ?_
  show vm_J _ _ _ (6, (0, 0), [.ref 152, .int (nI p), .int e], [.int 0]) (G, I, F) _ _
  refine vm_J.go vm_q215 (k := 1) (hs := []) (f' := (bif vm_ic .ne 0 0 then 11 else 9, (0, 0), [.ref 152, .int (nI p), .int e], [])) (h' := (G, I, F)) (hs' := []) rfl rfl ?_
  refine vm_J.bF (by decide) ?_
  refine vm_J.go vm_q215 (k := 1) (hs := []) (f' := (10, (0, 0), [.ref 152, .int (nI p), .int e], [.int (-1)])) (h' := (G, I, F)) (hs' := []) rfl rfl ?_
  exact vm_J.end vm_q215 (en := (10, .ireturn, 1, [], .null)) rfl rfl vm_rI (Nat.zero_le _) (Nat.zero_le _) rfl
set_option maxHeartbeats 4000000 in
set_option maxRecDepth 20000 in
/-- DitherDeskModel.change -/
theorem r_change_x {l : Launch} {X : vm_Cx} {G : List vm_Sh} {I : Nat → Nat → Int32} {F : Nat → Nat → UInt32} {q : Int32} {e : Int32} {c : Int32} (hR : vm_isR G) (hx : ¬ (0 ≤ q ∧ q ≤ 3)) : vm_K l X vm_M216 [.ref 152, .int q, .int e, .int c] (G, I, F) (some (.int (-1))) (G, I, F) := by
  refine vm_K.mk (by decide) (Nat.le_of_ble_eq_true rfl) ?_
  show vm_J _ _ _ (0, (0, 0), [.ref 152, .int q, .int e, .int c, .retAddr 0, .retAddr 0, .retAddr 0], []) _ _ _
  refine vm_J.go vm_q216 (k := 3) (hs := []) (f' := (3, (0, 0), [.ref 152, .int q, .int e, .int c, .retAddr 0, .retAddr 0, .retAddr 0], [.int e, .int q, .ref 152])) (h' := (G, I, F)) (hs' := []) rfl rfl ?_
  refine vm_J.call vm_q216 (Z := vm_M174) (n := 2) (k := 0) (mi := 174) (pc := 3) (en := (3, .invokevirtual 264, 3, [174, 1468, 0], .null)) rfl trivial rfl rfl vm_z174 (av := [.ref 152, .int q, .int e]) (rest := []) (r_isEn_x (q := q) (e := e) hR hx) ⟨_, _, rfl, rfl, _, 11, _, hR.c152, rfl, rfl, rfl⟩ (Nat.le_of_ble_eq_true rfl) ⟨Nat.le_of_ble_eq_true rfl, Nat.le_of_ble_eq_true rfl⟩ ⟨Nat.le_of_ble_eq_true rfl, Nat.le_of_ble_eq_true rfl⟩ ?_
  show vm_J _ _ _ (6, (0, 0), [.ref 152, .int q, .int e, .int c, .retAddr 0, .retAddr 0, .retAddr 0], [.int 0]) (G, I, F) _ _
  refine vm_J.go vm_q216 (k := 1) (hs := []) (f' := (bif vm_ic .ne 0 0 then 11 else 9, (0, 0), [.ref 152, .int q, .int e, .int c, .retAddr 0, .retAddr 0, .retAddr 0], [])) (h' := (G, I, F)) (hs' := []) rfl rfl ?_
  refine vm_J.bF (by decide) ?_
  refine vm_J.go vm_q216 (k := 1) (hs := []) (f' := (10, (0, 0), [.ref 152, .int q, .int e, .int c, .retAddr 0, .retAddr 0, .retAddr 0], [.int (-1)])) (h' := (G, I, F)) (hs' := []) rfl rfl ?_
  exact vm_J.end vm_q216 (en := (10, .ireturn, 1, [], .null)) rfl rfl vm_rI (Nat.zero_le _) (Nat.zero_le _) rfl
set_option maxHeartbeats 4000000 in
set_option maxRecDepth 20000 in
/-- DitherDeskModel.change -/
theorem r_change_e {l : Launch} {X : vm_Cx} {G : List vm_Sh} {I : Nat → Nat → Int32} {F : Nat → Nat → UInt32} {p : Nat} {n : Nat} {e : Int32} {c : Int32} (hR : vm_isR G) (hn : I 156 p = nI n) (hp : p < 4) (he : ¬ (0 ≤ e ∧ e ≤ nI n - 1)) : vm_K l X vm_M216 [.ref 152, .int (nI p), .int e, .int c] (G, I, F) (some (.int (-1))) (G, I, F) := by
  refine vm_K.mk (by decide) (Nat.le_of_ble_eq_true rfl) ?_
  show vm_J _ _ _ (0, (0, 0), [.ref 152, .int (nI p), .int e, .int c, .retAddr 0, .retAddr 0, .retAddr 0], []) _ _ _
  refine vm_J.go vm_q216 (k := 3) (hs := []) (f' := (3, (0, 0), [.ref 152, .int (nI p), .int e, .int c, .retAddr 0, .retAddr 0, .retAddr 0], [.int e, .int (nI p), .ref 152])) (h' := (G, I, F)) (hs' := []) rfl rfl ?_
  refine vm_J.call vm_q216 (Z := vm_M174) (n := 2) (k := 0) (mi := 174) (pc := 3) (en := (3, .invokevirtual 264, 3, [174, 1468, 0], .null)) rfl trivial rfl rfl vm_z174 (av := [.ref 152, .int (nI p), .int e]) (rest := []) (r_isEn_n (p := p) (e := e) hR (by omega) hn he) ⟨_, _, rfl, rfl, _, 11, _, hR.c152, rfl, rfl, rfl⟩ (Nat.le_of_ble_eq_true rfl) ⟨Nat.le_of_ble_eq_true rfl, Nat.le_of_ble_eq_true rfl⟩ ⟨Nat.le_of_ble_eq_true rfl, Nat.le_of_ble_eq_true rfl⟩ ?_
  show vm_J _ _ _ (6, (0, 0), [.ref 152, .int (nI p), .int e, .int c, .retAddr 0, .retAddr 0, .retAddr 0], [.int 0]) (G, I, F) _ _
  refine vm_J.go vm_q216 (k := 1) (hs := []) (f' := (bif vm_ic .ne 0 0 then 11 else 9, (0, 0), [.ref 152, .int (nI p), .int e, .int c, .retAddr 0, .retAddr 0, .retAddr 0], [])) (h' := (G, I, F)) (hs' := []) rfl rfl ?_
  refine vm_J.bF (by decide) ?_
  refine vm_J.go vm_q216 (k := 1) (hs := []) (f' := (10, (0, 0), [.ref 152, .int (nI p), .int e, .int c, .retAddr 0, .retAddr 0, .retAddr 0], [.int (-1)])) (h' := (G, I, F)) (hs' := []) rfl rfl ?_
  exact vm_J.end vm_q216 (en := (10, .ireturn, 1, [], .null)) rfl rfl vm_rI (Nat.zero_le _) (Nat.zero_le _) rfl
set_option maxHeartbeats 4000000 in
set_option maxRecDepth 20000 in
/-- DitherDeskModel.lock -/
theorem r_lock_x {l : Launch} {X : vm_Cx} {G : List vm_Sh} {I : Nat → Nat → Int32} {F : Nat → Nat → UInt32} {q : Int32} {e : Int32} {c : Int32} (hR : vm_isR G) (hx : ¬ (0 ≤ q ∧ q ≤ 3)) : vm_K l X vm_M217 [.ref 152, .int q, .int e, .int c] (G, I, F) (some (.int (-1))) (G, I, F) := by
  refine vm_K.mk (by decide) (Nat.le_of_ble_eq_true rfl) ?_
  show vm_J _ _ _ (0, (0, 0), [.ref 152, .int q, .int e, .int c, .retAddr 0], []) _ _ _
  refine vm_J.go vm_q217 (k := 3) (hs := []) (f' := (3, (0, 0), [.ref 152, .int q, .int e, .int c, .retAddr 0], [.int e, .int q, .ref 152])) (h' := (G, I, F)) (hs' := []) rfl rfl ?_
  refine vm_J.call vm_q217 (Z := vm_M174) (n := 2) (k := 0) (mi := 174) (pc := 3) (en := (3, .invokevirtual 264, 3, [174, 1468, 0], .null)) rfl trivial rfl rfl vm_z174 (av := [.ref 152, .int q, .int e]) (rest := []) (r_isEn_x (q := q) (e := e) hR hx) ⟨_, _, rfl, rfl, _, 11, _, hR.c152, rfl, rfl, rfl⟩ (Nat.le_of_ble_eq_true rfl) ⟨Nat.le_of_ble_eq_true rfl, Nat.le_of_ble_eq_true rfl⟩ ⟨Nat.le_of_ble_eq_true rfl, Nat.le_of_ble_eq_true rfl⟩ ?_
  show vm_J _ _ _ (6, (0, 0), [.ref 152, .int q, .int e, .int c, .retAddr 0], [.int 0]) (G, I, F) _ _
  refine vm_J.go vm_q217 (k := 1) (hs := []) (f' := (bif vm_ic .ne 0 0 then 11 else 9, (0, 0), [.ref 152, .int q, .int e, .int c, .retAddr 0], [])) (h' := (G, I, F)) (hs' := []) rfl rfl ?_
  refine vm_J.bF (by decide) ?_
  refine vm_J.go vm_q217 (k := 1) (hs := []) (f' := (10, (0, 0), [.ref 152, .int q, .int e, .int c, .retAddr 0], [.int (-1)])) (h' := (G, I, F)) (hs' := []) rfl rfl ?_
  exact vm_J.end vm_q217 (en := (10, .ireturn, 1, [], .null)) rfl rfl vm_rI (Nat.zero_le _) (Nat.zero_le _) rfl
set_option maxHeartbeats 4000000 in
set_option maxRecDepth 20000 in
/-- DitherDeskModel.lock -/
theorem r_lock_e {l : Launch} {X : vm_Cx} {G : List vm_Sh} {I : Nat → Nat → Int32} {F : Nat → Nat → UInt32} {p : Nat} {n : Nat} {e : Int32} {c : Int32} (hR : vm_isR G) (hn : I 156 p = nI n) (hp : p < 4) (he : ¬ (0 ≤ e ∧ e ≤ nI n - 1)) : vm_K l X vm_M217 [.ref 152, .int (nI p), .int e, .int c] (G, I, F) (some (.int (-1))) (G, I, F) := by
  refine vm_K.mk (by decide) (Nat.le_of_ble_eq_true rfl) ?_
  show vm_J _ _ _ (0, (0, 0), [.ref 152, .int (nI p), .int e, .int c, .retAddr 0], []) _ _ _
  refine vm_J.go vm_q217 (k := 3) (hs := []) (f' := (3, (0, 0), [.ref 152, .int (nI p), .int e, .int c, .retAddr 0], [.int e, .int (nI p), .ref 152])) (h' := (G, I, F)) (hs' := []) rfl rfl ?_
  refine vm_J.call vm_q217 (Z := vm_M174) (n := 2) (k := 0) (mi := 174) (pc := 3) (en := (3, .invokevirtual 264, 3, [174, 1468, 0], .null)) rfl trivial rfl rfl vm_z174 (av := [.ref 152, .int (nI p), .int e]) (rest := []) (r_isEn_n (p := p) (e := e) hR (by omega) hn he) ⟨_, _, rfl, rfl, _, 11, _, hR.c152, rfl, rfl, rfl⟩ (Nat.le_of_ble_eq_true rfl) ⟨Nat.le_of_ble_eq_true rfl, Nat.le_of_ble_eq_true rfl⟩ ⟨Nat.le_of_ble_eq_true rfl, Nat.le_of_ble_eq_true rfl⟩ ?_
  show vm_J _ _ _ (6, (0, 0), [.ref 152, .int (nI p), .int e, .int c, .retAddr 0], [.int 0]) (G, I, F) _ _
  refine vm_J.go vm_q217 (k := 1) (hs := []) (f' := (bif vm_ic .ne 0 0 then 11 else 9, (0, 0), [.ref 152, .int (nI p), .int e, .int c, .retAddr 0], [])) (h' := (G, I, F)) (hs' := []) rfl rfl ?_
  refine vm_J.bF (by decide) ?_
  refine vm_J.go vm_q217 (k := 1) (hs := []) (f' := (10, (0, 0), [.ref 152, .int (nI p), .int e, .int c, .retAddr 0], [.int (-1)])) (h' := (G, I, F)) (hs' := []) rfl rfl ?_
  exact vm_J.end vm_q217 (en := (10, .ireturn, 1, [], .null)) rfl rfl vm_rI (Nat.zero_le _) (Nat.zero_le _) rfl
set_option maxHeartbeats 4000000 in
set_option maxRecDepth 20000 in
/-- DitherDeskModel.told -/
theorem r_told_x {l : Launch} {X : vm_Cx} {G : List vm_Sh} {I : Nat → Nat → Int32} {F : Nat → Nat → UInt32} {q : Int32} {e : Int32} {c : Int32} (hR : vm_isR G) (hx : ¬ (0 ≤ q ∧ q ≤ 3)) : vm_K l X vm_M218 [.ref 152, .int q, .int e, .int c] (G, I, F) (some (.int (-1))) (G, I, F) := by
  refine vm_K.mk (by decide) (Nat.le_of_ble_eq_true rfl) ?_
  show vm_J _ _ _ (0, (0, 0), [.ref 152, .int q, .int e, .int c, .retAddr 0], []) _ _ _
  refine vm_J.go vm_q218 (k := 3) (hs := []) (f' := (3, (0, 0), [.ref 152, .int q, .int e, .int c, .retAddr 0], [.int e, .int q, .ref 152])) (h' := (G, I, F)) (hs' := []) rfl rfl ?_
  refine vm_J.call vm_q218 (Z := vm_M174) (n := 2) (k := 0) (mi := 174) (pc := 3) (en := (3, .invokevirtual 264, 3, [174, 1468, 0], .null)) rfl trivial rfl rfl vm_z174 (av := [.ref 152, .int q, .int e]) (rest := []) (r_isEn_x (q := q) (e := e) hR hx) ⟨_, _, rfl, rfl, _, 11, _, hR.c152, rfl, rfl, rfl⟩ (Nat.le_of_ble_eq_true rfl) ⟨Nat.le_of_ble_eq_true rfl, Nat.le_of_ble_eq_true rfl⟩ ⟨Nat.le_of_ble_eq_true rfl, Nat.le_of_ble_eq_true rfl⟩ ?_
  show vm_J _ _ _ (6, (0, 0), [.ref 152, .int q, .int e, .int c, .retAddr 0], [.int 0]) (G, I, F) _ _
  refine vm_J.go vm_q218 (k := 1) (hs := []) (f' := (bif vm_ic .eq 0 0 then 18 else 9, (0, 0), [.ref 152, .int q, .int e, .int c, .retAddr 0], [])) (h' := (G, I, F)) (hs' := []) rfl rfl ?_
  refine vm_J.bT (by decide) ?_
  refine vm_J.go vm_q218 (k := 1) (hs := []) (f' := (19, (0, 0), [.ref 152, .int q, .int e, .int c, .retAddr 0], [.int (-1)])) (h' := (G, I, F)) (hs' := []) rfl rfl ?_
  exact vm_J.end vm_q218 (en := (19, .ireturn, 1, [], .null)) rfl rfl vm_rI (Nat.zero_le _) (Nat.zero_le _) rfl
set_option maxHeartbeats 4000000 in
set_option maxRecDepth 20000 in
/-- DitherDeskModel.told -/
theorem r_told_e {l : Launch} {X : vm_Cx} {G : List vm_Sh} {I : Nat → Nat → Int32} {F : Nat → Nat → UInt32} {p : Nat} {n : Nat} {e : Int32} {c : Int32} (hR : vm_isR G) (hn : I 156 p = nI n) (hp : p < 4) (he : ¬ (0 ≤ e ∧ e ≤ nI n - 1)) : vm_K l X vm_M218 [.ref 152, .int (nI p), .int e, .int c] (G, I, F) (some (.int (-1))) (G, I, F) := by
  refine vm_K.mk (by decide) (Nat.le_of_ble_eq_true rfl) ?_
  show vm_J _ _ _ (0, (0, 0), [.ref 152, .int (nI p), .int e, .int c, .retAddr 0], []) _ _ _
  refine vm_J.go vm_q218 (k := 3) (hs := []) (f' := (3, (0, 0), [.ref 152, .int (nI p), .int e, .int c, .retAddr 0], [.int e, .int (nI p), .ref 152])) (h' := (G, I, F)) (hs' := []) rfl rfl ?_
  refine vm_J.call vm_q218 (Z := vm_M174) (n := 2) (k := 0) (mi := 174) (pc := 3) (en := (3, .invokevirtual 264, 3, [174, 1468, 0], .null)) rfl trivial rfl rfl vm_z174 (av := [.ref 152, .int (nI p), .int e]) (rest := []) (r_isEn_n (p := p) (e := e) hR (by omega) hn he) ⟨_, _, rfl, rfl, _, 11, _, hR.c152, rfl, rfl, rfl⟩ (Nat.le_of_ble_eq_true rfl) ⟨Nat.le_of_ble_eq_true rfl, Nat.le_of_ble_eq_true rfl⟩ ⟨Nat.le_of_ble_eq_true rfl, Nat.le_of_ble_eq_true rfl⟩ ?_
  show vm_J _ _ _ (6, (0, 0), [.ref 152, .int (nI p), .int e, .int c, .retAddr 0], [.int 0]) (G, I, F) _ _
  refine vm_J.go vm_q218 (k := 1) (hs := []) (f' := (bif vm_ic .eq 0 0 then 18 else 9, (0, 0), [.ref 152, .int (nI p), .int e, .int c, .retAddr 0], [])) (h' := (G, I, F)) (hs' := []) rfl rfl ?_
  refine vm_J.bT (by decide) ?_
  refine vm_J.go vm_q218 (k := 1) (hs := []) (f' := (19, (0, 0), [.ref 152, .int (nI p), .int e, .int c, .retAddr 0], [.int (-1)])) (h' := (G, I, F)) (hs' := []) rfl rfl ?_
  exact vm_J.end vm_q218 (en := (19, .ireturn, 1, [], .null)) rfl rfl vm_rI (Nat.zero_le _) (Nat.zero_le _) rfl
set_option maxHeartbeats 4000000 in
set_option maxRecDepth 20000 in
/-- DitherDeskModel.drop -/
theorem r_drop_y {l : Launch} {X : vm_Cx} {G : List vm_Sh} {I : Nat → Nat → Int32} {F : Nat → Nat → UInt32} {p : Nat} {n : Nat} {e : Nat} (hR : vm_isR G) (hn : I 156 p = nI n) (hp : p < 4) (hn2 : n ≤ 16) (he : e < n) : vm_K l X vm_M215 [.ref 152, .int (nI p), .int (nI e)] (G, I, F) (some (.int (nI (n - 1)))) (G, (vm_rm (vm_up I 156 p (nI (n - 1))) 157 158 (16 * p + e) (n - 1 - e)), F) := by
  refine vm_K.mk (by decide) (Nat.le_of_ble_eq_true rfl) ?_
  show vm_J _ _ _ (0, (0, 0), [.ref 152, .int (nI p), .int (nI e)], []) _ _ _
  refine vm_J.go vm_q215 (k := 3) (hs := []) (f' := (3, (0, 0), [.ref 152, .int (nI p), .int (nI e)], [.int (nI e), .int (nI p), .ref 152])) (h' := (G, I, F)) (hs' := []) rfl rfl ?_
  refine vm_J.call vm_q215 (Z := vm_M174) (n := 2) (k := 0) (mi := 174) (pc := 3) (en := (3, .invokevirtual 264, 3, [174, 1468, 0], .null)) rfl trivial rfl rfl vm_z174 (av := [.ref 152, .int (nI p), .int (nI e)]) (rest := []) (r_isEn_y (p := p) (e := nI e) hR (by omega) hn (vm_en_n he hn2)) ⟨_, _, rfl, rfl, _, 11, _, hR.c152, rfl, rfl, rfl⟩ (Nat.le_of_ble_eq_true rfl) ⟨Nat.le_of_ble_eq_true rfl, Nat.le_of_ble_eq_true rfl⟩ ⟨Nat.le_of_ble_eq_true rfl, Nat.le_of_ble_eq_true rfl⟩ ?_
  show vm_J _ _ _ (6, (0, 0), [.ref 152, .int (nI p), .int (nI e)], [.int 1]) (G, I, F) _ _
  refine vm_J.go vm_q215 (k := 1) (hs := []) (f' := (bif vm_ic .ne 1 0 then 11 else 9, (0, 0), [.ref 152, .int (nI p), .int (nI e)], [])) (h' := (G, I, F)) (hs' := []) rfl rfl ?_
  refine vm_J.bT (by decide) ?_
  refine vm_J.go vm_q215 (k := 3) (hs := []) (f' := (14, (0, 0), [.ref 152, .int (nI p), .int (nI e)], [.int (nI e), .int (nI p), .ref 152])) (h' := (G, I, F)) (hs' := []) rfl rfl ?_
  refine vm_J.call vm_q215 (Z := vm_M214) (n := 2) (k := 0) (mi := 214) (pc := 14) (en := (14, .invokevirtual 267, 3, [214, 1472, 0], .null)) rfl trivial rfl rfl vm_z214 (av := [.ref 152, .int (nI p), .int (nI e)]) (rest := []) (r_goes (p := p) (n := n) (e := e) hR hn (by omega) (by omega) (by omega)) ⟨_, _, rfl, rfl, _, 11, _, hR.c152, rfl, rfl, rfl⟩ (Nat.le_of_ble_eq_true rfl) ⟨Nat.le_of_ble_eq_true rfl, Nat.le_of_ble_eq_true rfl⟩ ⟨Nat.le_of_ble_eq_true rfl, Nat.le_of_ble_eq_true rfl⟩ ?_
  show vm_J _ _ _ (17, (0, 0), [.ref 152, .int (nI p), .int (nI e)], []) (G, (vm_rm (vm_up I 156 p (nI (n - 1))) 157 158 (16 * p + e) (n - 1 - e)), F) _ _
  refine vm_J.go vm_q215 (k := 4) (hs := [vm_shR, (0, 4, [])]) (f' := (23, (0, 0), [.ref 152, .int (nI p), .int (nI e)], [.int ((vm_rm (vm_up I 156 p (nI (n - 1))) 157 158 (16 * p + e) (n - 1 - e)) 156 (nI p).toNatClampNeg)])) (h' := (G, (vm_rm (vm_up I 156 p (nI (n - 1))) 157 158 (16 * p + e) (n - 1 - e)), F)) (hs' := []) rfl (vm_b2 rfl (vm_b2 (vm_b2 (vm_hG hR.c152) rfl) (vm_b2 rfl (vm_b2 (vm_b2 (vm_hG hR.c156) (vm_in_e (j := p) (n := 4) rfl (by omega) (by omega))) rfl)))) ?_
  rw [vm_ix_e (j := p) rfl (by omega)]
  rw [((Eq.trans (congrFun (vm_rm_o _ 157 158 (16 * p + e) (n - 1 - e) 156 (by decide) (by decide)) p) (vm_up_h _ 156 p _)) : (vm_rm (vm_up I 156 p (nI (n - 1))) 157 158 (16 * p + e) (n - 1 - e)) 156 p = nI (n - 1))]
  exact vm_J.end vm_q215 (en := (23, .ireturn, 1, [], .null)) rfl rfl vm_rI (Nat.zero_le _) (Nat.zero_le _) rfl
set_option maxHeartbeats 4000000 in
set_option maxRecDepth 20000 in
/-- DitherDeskModel.change -/
theorem r_change_b {l : Launch} {X : vm_Cx} {G : List vm_Sh} {I : Nat → Nat → Int32} {F : Nat → Nat → UInt32} {p : Nat} {n : Nat} {e : Nat} {c : Int32} (hR : vm_isR G) (hn : I 156 p = nI n) (hp : p < 4) (hn2 : n ≤ 16) (he : e < n) (hc : ¬ (0 ≤ c ∧ c ≤ 262143)) : vm_K l X vm_M216 [.ref 152, .int (nI p), .int (nI e), .int c] (G, I, F) (some (.int (-2))) (G, I, F) := by
  refine vm_K.mk (by decide) (Nat.le_of_ble_eq_true rfl) ?_
  show vm_J _ _ _ (0, (0, 0), [.ref 152, .int (nI p), .int (nI e), .int c, .retAddr 0, .retAddr 0, .retAddr 0], []) _ _ _
  refine vm_J.go vm_q216 (k := 3) (hs := []) (f' := (3, (0, 0), [.ref 152, .int (nI p), .int (nI e), .int c, .retAddr 0, .retAddr 0, .retAddr 0], [.int (nI e), .int (nI p), .ref 152])) (h' := (G, I, F)) (hs' := []) rfl rfl ?_
  refine vm_J.call vm_q216 (Z := vm_M174) (n := 2) (k := 0) (mi := 174) (pc := 3) (en := (3, .invokevirtual 264, 3, [174, 1468, 0], .null)) rfl trivial rfl rfl vm_z174 (av := [.ref 152, .int (nI p), .int (nI e)]) (rest := []) (r_isEn_y (p := p) (e := nI e) hR (by omega) hn (vm_en_n he hn2)) ⟨_, _, rfl, rfl, _, 11, _, hR.c152, rfl, rfl, rfl⟩ (Nat.le_of_ble_eq_true rfl) ⟨Nat.le_of_ble_eq_true rfl, Nat.le_of_ble_eq_true rfl⟩ ⟨Nat.le_of_ble_eq_true rfl, Nat.le_of_ble_eq_true rfl⟩ ?_
  show vm_J _ _ _ (6, (0, 0), [.ref 152, .int (nI p), .int (nI e), .int c, .retAddr 0, .retAddr 0, .retAddr 0], [.int 1]) (G, I, F) _ _
  refine vm_J.go vm_q216 (k := 1) (hs := []) (f' := (bif vm_ic .ne 1 0 then 11 else 9, (0, 0), [.ref 152, .int (nI p), .int (nI e), .int c, .retAddr 0, .retAddr 0, .retAddr 0], [])) (h' := (G, I, F)) (hs' := []) rfl rfl ?_
  refine vm_J.bT (by decide) ?_
  refine vm_J.go vm_q216 (k := 1) (hs := []) (f' := (12, (0, 0), [.ref 152, .int (nI p), .int (nI e), .int c, .retAddr 0, .retAddr 0, .retAddr 0], [.int c])) (h' := (G, I, F)) (hs' := []) rfl rfl ?_
  refine vm_J.call vm_q216 (Z := vm_M169) (n := 1) (k := 1) (mi := 169) (pc := 12) (en := (12, .invokestatic 162, 3, [169, 1321, 0], .null)) rfl trivial rfl rfl vm_z169 (av := [.int c]) (rest := []) (r_isColour_n (c := c) hc) rfl (Nat.le_of_ble_eq_true rfl) ⟨Nat.le_of_ble_eq_true rfl, Nat.le_of_ble_eq_true rfl⟩ ⟨Nat.le_of_ble_eq_true rfl, Nat.le_of_ble_eq_true rfl⟩ ?_
  show vm_J _ _ _ (15, (0, 0), [.ref 152, .int (nI p), .int (nI e), .int c, .retAddr 0, .retAddr 0, .retAddr 0], [.int 0]) (G, I, F) _ _
  refine vm_J.go vm_q216 (k := 1) (hs := []) (f' := (bif vm_ic .ne 0 0 then 21 else 18, (0, 0), [.ref 152, .int (nI p), .int (nI e), .int c, .retAddr 0, .retAddr 0, .retAddr 0], [])) (h' := (G, I, F)) (hs' := []) rfl rfl ?_
  refine vm_J.bF (by decide) ?_
  refine vm_J.go vm_q216 (k := 1) (hs := []) (f' := (20, (0, 0), [.ref 152, .int (nI p), .int (nI e), .int c, .retAddr 0, .retAddr 0, .retAddr 0], [.int (-2)])) (h' := (G, I, F)) (hs' := []) rfl rfl ?_
  exact vm_J.end vm_q216 (en := (20, .ireturn, 1, [], .null)) rfl rfl vm_rI (Nat.zero_le _) (Nat.zero_le _) rfl
set_option maxHeartbeats 4000000 in
set_option maxRecDepth 20000 in
/-- DitherDeskModel.change -/
theorem r_change_l {l : Launch} {X : vm_Cx} {G : List vm_Sh} {I : Nat → Nat → Int32} {F : Nat → Nat → UInt32} {p : Nat} {n : Nat} {e : Nat} {c : Int32} (hR : vm_isR G) (hn : I 156 p = nI n) (hp : p < 4) (hn2 : n ≤ 16) (he : e < n) (hcc : 0 ≤ c ∧ c ≤ 262143) (hl : I 158 (16 * p + e) = 1) : vm_K l X vm_M216 [.ref 152, .int (nI p), .int (nI e), .int c] (G, I, F) (some (.int (-3))) (G, I, F) := by
  refine vm_K.mk (by decide) (Nat.le_of_ble_eq_true rfl) ?_
  show vm_J _ _ _ (0, (0, 0), [.ref 152, .int (nI p), .int (nI e), .int c, .retAddr 0, .retAddr 0, .retAddr 0], []) _ _ _
  refine vm_J.go vm_q216 (k := 3) (hs := []) (f' := (3, (0, 0), [.ref 152, .int (nI p), .int (nI e), .int c, .retAddr 0, .retAddr 0, .retAddr 0], [.int (nI e), .int (nI p), .ref 152])) (h' := (G, I, F)) (hs' := []) rfl rfl ?_
  refine vm_J.call vm_q216 (Z := vm_M174) (n := 2) (k := 0) (mi := 174) (pc := 3) (en := (3, .invokevirtual 264, 3, [174, 1468, 0], .null)) rfl trivial rfl rfl vm_z174 (av := [.ref 152, .int (nI p), .int (nI e)]) (rest := []) (r_isEn_y (p := p) (e := nI e) hR (by omega) hn (vm_en_n he hn2)) ⟨_, _, rfl, rfl, _, 11, _, hR.c152, rfl, rfl, rfl⟩ (Nat.le_of_ble_eq_true rfl) ⟨Nat.le_of_ble_eq_true rfl, Nat.le_of_ble_eq_true rfl⟩ ⟨Nat.le_of_ble_eq_true rfl, Nat.le_of_ble_eq_true rfl⟩ ?_
  show vm_J _ _ _ (6, (0, 0), [.ref 152, .int (nI p), .int (nI e), .int c, .retAddr 0, .retAddr 0, .retAddr 0], [.int 1]) (G, I, F) _ _
  refine vm_J.go vm_q216 (k := 1) (hs := []) (f' := (bif vm_ic .ne 1 0 then 11 else 9, (0, 0), [.ref 152, .int (nI p), .int (nI e), .int c, .retAddr 0, .retAddr 0, .retAddr 0], [])) (h' := (G, I, F)) (hs' := []) rfl rfl ?_
  refine vm_J.bT (by decide) ?_
  refine vm_J.go vm_q216 (k := 1) (hs := []) (f' := (12, (0, 0), [.ref 152, .int (nI p), .int (nI e), .int c, .retAddr 0, .retAddr 0, .retAddr 0], [.int c])) (h' := (G, I, F)) (hs' := []) rfl rfl ?_
  refine vm_J.call vm_q216 (Z := vm_M169) (n := 1) (k := 1) (mi := 169) (pc := 12) (en := (12, .invokestatic 162, 3, [169, 1321, 0], .null)) rfl trivial rfl rfl vm_z169 (av := [.int c]) (rest := []) (r_isColour_y (c := c) hcc) rfl (Nat.le_of_ble_eq_true rfl) ⟨Nat.le_of_ble_eq_true rfl, Nat.le_of_ble_eq_true rfl⟩ ⟨Nat.le_of_ble_eq_true rfl, Nat.le_of_ble_eq_true rfl⟩ ?_
  show vm_J _ _ _ (15, (0, 0), [.ref 152, .int (nI p), .int (nI e), .int c, .retAddr 0, .retAddr 0, .retAddr 0], [.int 1]) (G, I, F) _ _
  refine vm_J.go vm_q216 (k := 1) (hs := []) (f' := (bif vm_ic .ne 1 0 then 21 else 18, (0, 0), [.ref 152, .int (nI p), .int (nI e), .int c, .retAddr 0, .retAddr 0, .retAddr 0], [])) (h' := (G, I, F)) (hs' := []) rfl rfl ?_
  refine vm_J.bT (by decide) ?_
  refine vm_J.go vm_q216 (k := 9) (hs := []) (f' := (32, (0, 0), [.ref 152, .int (nI p), .int (nI e), .int c, .int ((16 * (nI p)) + (nI e)), .retAddr 0, .retAddr 0], [.int c, .int (nI p), .ref 152])) (h' := (G, I, F)) (hs' := []) rfl rfl ?_
  rw [((vm_pa (vm_pm (rfl : (16 : Int32) = nI 16) (rfl : (nI p : Int32) = nI p)) (rfl : (nI e : Int32) = nI e)) : (16 * (nI p)) + (nI e) = nI ((16 * p) + e))]
  refine vm_J.call vm_q216 (Z := vm_M211) (n := 2) (k := 0) (mi := 211) (pc := 32) (en := (32, .invokevirtual 258, 3, [211, 1456, 0], .null)) rfl trivial rfl rfl vm_z211 (av := [.ref 152, .int (nI p), .int c]) (rest := []) (r_entryWith (p := p) (n := n) (c := c) hR hp hn hn2) ⟨_, _, rfl, rfl, _, 11, _, hR.c152, rfl, rfl, rfl⟩ (Nat.le_of_ble_eq_true rfl) ⟨Nat.le_of_ble_eq_true rfl, Nat.le_of_ble_eq_true rfl⟩ ⟨Nat.le_of_ble_eq_true rfl, Nat.le_of_ble_eq_true rfl⟩ ?_
  show vm_J _ _ _ (35, (0, 0), [.ref 152, .int (nI p), .int (nI e), .int c, .int (nI ((16 * p) + e)), .retAddr 0, .retAddr 0], [.int (sp_ew (fun k => I 157 (16 * p + k)) c n)]) (G, I, F) _ _
  refine vm_J.go vm_q216 (k := 6) (hs := [vm_shR, (0, 64, [])]) (f' := (45, (0, 0), [.ref 152, .int (nI p), .int (nI e), .int c, .int (nI ((16 * p) + e)), .int (sp_ew (fun k => I 157 (16 * p + k)) c n), .retAddr 0], [.int 1, .int (I 158 (nI ((16 * p) + e)).toNatClampNeg)])) (h' := (G, I, F)) (hs' := []) rfl (vm_b2 rfl (vm_b2 rfl (vm_b2 (vm_b2 (vm_hG hR.c152) rfl) (vm_b2 rfl (vm_b2 (vm_b2 (vm_hG hR.c158) (vm_in_e (j := (16 * p) + e) (n := 64) rfl (by omega) (by omega))) (vm_b2 rfl rfl)))))) ?_
  rw [vm_ix_e (j := (16 * p) + e) rfl (by omega)]
  refine vm_J.go vm_q216 (k := 1) (hs := []) (f' := (bif vm_ic .eq (I 158 ((16 * p) + e)) 1 then 59 else 48, (0, 0), [.ref 152, .int (nI p), .int (nI e), .int c, .int (nI ((16 * p) + e)), .int (sp_ew (fun k => I 157 (16 * p + k)) c n), .retAddr 0], [])) (h' := (G, I, F)) (hs' := []) rfl rfl ?_
  refine vm_J.bT (decide_eq_true hl) ?_
  refine vm_J.go vm_q216 (k := 1) (hs := []) (f' := (61, (0, 0), [.ref 152, .int (nI p), .int (nI e), .int c, .int (nI ((16 * p) + e)), .int (sp_ew (fun k => I 157 (16 * p + k)) c n), .retAddr 0], [.int (-3)])) (h' := (G, I, F)) (hs' := []) rfl rfl ?_
  exact vm_J.end vm_q216 (en := (61, .ireturn, 1, [], .null)) rfl rfl vm_rI (Nat.zero_le _) (Nat.zero_le _) rfl
set_option maxHeartbeats 4000000 in
set_option maxRecDepth 20000 in
/-- DitherDeskModel.change -/
theorem r_change_s {l : Launch} {X : vm_Cx} {G : List vm_Sh} {I : Nat → Nat → Int32} {F : Nat → Nat → UInt32} {p : Nat} {n : Nat} {e : Nat} {j : Nat} {c : Int32} (hR : vm_isR G) (hn : I 156 p = nI n) (hp : p < 4) (hn2 : n ≤ 16) (he : e < n) (hcc : 0 ≤ c ∧ c ≤ 262143) (hl : ¬ I 158 (16 * p + e) = 1) (hj : j < n) (hb : ∀ k, k < j → ¬ I 157 (16 * p + k) = c) (hc : I 157 (16 * p + j) = c) (hje : ¬ j = e) : vm_K l X vm_M216 [.ref 152, .int (nI p), .int (nI e), .int c] (G, I, F) (some (.int (-3))) (G, I, F) := by
  refine vm_K.mk (by decide) (Nat.le_of_ble_eq_true rfl) ?_
  show vm_J _ _ _ (0, (0, 0), [.ref 152, .int (nI p), .int (nI e), .int c, .retAddr 0, .retAddr 0, .retAddr 0], []) _ _ _
  refine vm_J.go vm_q216 (k := 3) (hs := []) (f' := (3, (0, 0), [.ref 152, .int (nI p), .int (nI e), .int c, .retAddr 0, .retAddr 0, .retAddr 0], [.int (nI e), .int (nI p), .ref 152])) (h' := (G, I, F)) (hs' := []) rfl rfl ?_
  refine vm_J.call vm_q216 (Z := vm_M174) (n := 2) (k := 0) (mi := 174) (pc := 3) (en := (3, .invokevirtual 264, 3, [174, 1468, 0], .null)) rfl trivial rfl rfl vm_z174 (av := [.ref 152, .int (nI p), .int (nI e)]) (rest := []) (r_isEn_y (p := p) (e := nI e) hR (by omega) hn (vm_en_n he hn2)) ⟨_, _, rfl, rfl, _, 11, _, hR.c152, rfl, rfl, rfl⟩ (Nat.le_of_ble_eq_true rfl) ⟨Nat.le_of_ble_eq_true rfl, Nat.le_of_ble_eq_true rfl⟩ ⟨Nat.le_of_ble_eq_true rfl, Nat.le_of_ble_eq_true rfl⟩ ?_
  show vm_J _ _ _ (6, (0, 0), [.ref 152, .int (nI p), .int (nI e), .int c, .retAddr 0, .retAddr 0, .retAddr 0], [.int 1]) (G, I, F) _ _
  refine vm_J.go vm_q216 (k := 1) (hs := []) (f' := (bif vm_ic .ne 1 0 then 11 else 9, (0, 0), [.ref 152, .int (nI p), .int (nI e), .int c, .retAddr 0, .retAddr 0, .retAddr 0], [])) (h' := (G, I, F)) (hs' := []) rfl rfl ?_
  refine vm_J.bT (by decide) ?_
  refine vm_J.go vm_q216 (k := 1) (hs := []) (f' := (12, (0, 0), [.ref 152, .int (nI p), .int (nI e), .int c, .retAddr 0, .retAddr 0, .retAddr 0], [.int c])) (h' := (G, I, F)) (hs' := []) rfl rfl ?_
  refine vm_J.call vm_q216 (Z := vm_M169) (n := 1) (k := 1) (mi := 169) (pc := 12) (en := (12, .invokestatic 162, 3, [169, 1321, 0], .null)) rfl trivial rfl rfl vm_z169 (av := [.int c]) (rest := []) (r_isColour_y (c := c) hcc) rfl (Nat.le_of_ble_eq_true rfl) ⟨Nat.le_of_ble_eq_true rfl, Nat.le_of_ble_eq_true rfl⟩ ⟨Nat.le_of_ble_eq_true rfl, Nat.le_of_ble_eq_true rfl⟩ ?_
  show vm_J _ _ _ (15, (0, 0), [.ref 152, .int (nI p), .int (nI e), .int c, .retAddr 0, .retAddr 0, .retAddr 0], [.int 1]) (G, I, F) _ _
  refine vm_J.go vm_q216 (k := 1) (hs := []) (f' := (bif vm_ic .ne 1 0 then 21 else 18, (0, 0), [.ref 152, .int (nI p), .int (nI e), .int c, .retAddr 0, .retAddr 0, .retAddr 0], [])) (h' := (G, I, F)) (hs' := []) rfl rfl ?_
  refine vm_J.bT (by decide) ?_
  refine vm_J.go vm_q216 (k := 9) (hs := []) (f' := (32, (0, 0), [.ref 152, .int (nI p), .int (nI e), .int c, .int ((16 * (nI p)) + (nI e)), .retAddr 0, .retAddr 0], [.int c, .int (nI p), .ref 152])) (h' := (G, I, F)) (hs' := []) rfl rfl ?_
  rw [((vm_pa (vm_pm (rfl : (16 : Int32) = nI 16) (rfl : (nI p : Int32) = nI p)) (rfl : (nI e : Int32) = nI e)) : (16 * (nI p)) + (nI e) = nI ((16 * p) + e))]
  refine vm_J.call vm_q216 (Z := vm_M211) (n := 2) (k := 0) (mi := 211) (pc := 32) (en := (32, .invokevirtual 258, 3, [211, 1456, 0], .null)) rfl trivial rfl rfl vm_z211 (av := [.ref 152, .int (nI p), .int c]) (rest := []) (r_ew_y (p := p) (j := j) (c := c) hR (by omega) hn (by omega) hj hb hc) ⟨_, _, rfl, rfl, _, 11, _, hR.c152, rfl, rfl, rfl⟩ (Nat.le_of_ble_eq_true rfl) ⟨Nat.le_of_ble_eq_true rfl, Nat.le_of_ble_eq_true rfl⟩ ⟨Nat.le_of_ble_eq_true rfl, Nat.le_of_ble_eq_true rfl⟩ ?_
  show vm_J _ _ _ (35, (0, 0), [.ref 152, .int (nI p), .int (nI e), .int c, .int (nI ((16 * p) + e)), .retAddr 0, .retAddr 0], [.int (nI j)]) (G, I, F) _ _
  refine vm_J.go vm_q216 (k := 6) (hs := [vm_shR, (0, 64, [])]) (f' := (45, (0, 0), [.ref 152, .int (nI p), .int (nI e), .int c, .int (nI ((16 * p) + e)), .int (nI j), .retAddr 0], [.int 1, .int (I 158 (nI ((16 * p) + e)).toNatClampNeg)])) (h' := (G, I, F)) (hs' := []) rfl (vm_b2 rfl (vm_b2 rfl (vm_b2 (vm_b2 (vm_hG hR.c152) rfl) (vm_b2 rfl (vm_b2 (vm_b2 (vm_hG hR.c158) (vm_in_e (j := (16 * p) + e) (n := 64) rfl (by omega) (by omega))) (vm_b2 rfl rfl)))))) ?_
  rw [vm_ix_e (j := (16 * p) + e) rfl (by omega)]
  refine vm_J.go vm_q216 (k := 1) (hs := []) (f' := (bif vm_ic .eq (I 158 ((16 * p) + e)) 1 then 59 else 48, (0, 0), [.ref 152, .int (nI p), .int (nI e), .int c, .int (nI ((16 * p) + e)), .int (nI j), .retAddr 0], [])) (h' := (G, I, F)) (hs' := []) rfl rfl ?_
  refine vm_J.bF (decide_eq_false hl) ?_
  refine vm_J.go vm_q216 (k := 2) (hs := []) (f' := (bif vm_ic .lt (nI j) 0 then 62 else 53, (0, 0), [.ref 152, .int (nI p), .int (nI e), .int c, .int (nI ((16 * p) + e)), .int (nI j), .retAddr 0], [])) (h' := (G, I, F)) (hs' := []) rfl rfl ?_
  refine vm_J.br (fun c1 => ?_) (fun c1 => ?_)
  · have c1 := vm_lt_t (a := j) (b := 0) (by omega) (by omega) c1
    exact (show False by omega).elim
  · have c1 := vm_lt_f (a := j) (b := 0) (by omega) (by omega) c1
    refine vm_J.go vm_q216 (k := 3) (hs := []) (f' := (bif vm_ic .eq (nI j) (nI e) then 62 else 59, (0, 0), [.ref 152, .int (nI p), .int (nI e), .int c, .int (nI ((16 * p) + e)), .int (nI j), .retAddr 0], [])) (h' := (G, I, F)) (hs' := []) rfl rfl ?_
    refine vm_J.br (fun c2 => ?_) (fun c2 => ?_)
    · have c2 := vm_eq_t (a := j) (b := e) (by omega) (by omega) c2
      exact (show False by omega).elim
    · have c2 := vm_eq_f (a := j) (b := e) (by omega) (by omega) c2
      refine vm_J.go vm_q216 (k := 1) (hs := []) (f' := (61, (0, 0), [.ref 152, .int (nI p), .int (nI e), .int c, .int (nI ((16 * p) + e)), .int (nI j), .retAddr 0], [.int (-3)])) (h' := (G, I, F)) (hs' := []) rfl rfl ?_
      exact vm_J.end vm_q216 (en := (61, .ireturn, 1, [], .null)) rfl rfl vm_rI (Nat.zero_le _) (Nat.zero_le _) rfl
set_option maxHeartbeats 4000000 in
set_option maxRecDepth 20000 in
/-- DitherDeskModel.change -/
theorem r_change_y {l : Launch} {X : vm_Cx} {G : List vm_Sh} {I : Nat → Nat → Int32} {F : Nat → Nat → UInt32} {p : Nat} {n : Nat} {e : Nat} {c : Int32} (hR : vm_isR G) (hn : I 156 p = nI n) (hp : p < 4) (hn2 : n ≤ 16) (he : e < n) (hcc : 0 ≤ c ∧ c ≤ 262143) (hl : ¬ I 158 (16 * p + e) = 1) (hb : ∀ k, k < n → ¬ I 157 (16 * p + k) = c) : vm_K l X vm_M216 [.ref 152, .int (nI p), .int (nI e), .int c] (G, I, F) (some (.int (I 157 (16 * p + e)))) (G, (vm_up I 157 (16 * p + e) c), F) := by
  refine vm_K.mk (by decide) (Nat.le_of_ble_eq_true rfl) ?_
  show vm_J _ _ _ (0, (0, 0), [.ref 152, .int (nI p), .int (nI e), .int c, .retAddr 0, .retAddr 0, .retAddr 0], []) _ _ _
  refine vm_J.go vm_q216 (k := 3) (hs := []) (f' := (3, (0, 0), [.ref 152, .int (nI p), .int (nI e), .int c, .retAddr 0, .retAddr 0, .retAddr 0], [.int (nI e), .int (nI p), .ref 152])) (h' := (G, I, F)) (hs' := []) rfl rfl ?_
  refine vm_J.call vm_q216 (Z := vm_M174) (n := 2) (k := 0) (mi := 174) (pc := 3) (en := (3, .invokevirtual 264, 3, [174, 1468, 0], .null)) rfl trivial rfl rfl vm_z174 (av := [.ref 152, .int (nI p), .int (nI e)]) (rest := []) (r_isEn_y (p := p) (e := nI e) hR (by omega) hn (vm_en_n he hn2)) ⟨_, _, rfl, rfl, _, 11, _, hR.c152, rfl, rfl, rfl⟩ (Nat.le_of_ble_eq_true rfl) ⟨Nat.le_of_ble_eq_true rfl, Nat.le_of_ble_eq_true rfl⟩ ⟨Nat.le_of_ble_eq_true rfl, Nat.le_of_ble_eq_true rfl⟩ ?_
  show vm_J _ _ _ (6, (0, 0), [.ref 152, .int (nI p), .int (nI e), .int c, .retAddr 0, .retAddr 0, .retAddr 0], [.int 1]) (G, I, F) _ _
  refine vm_J.go vm_q216 (k := 1) (hs := []) (f' := (bif vm_ic .ne 1 0 then 11 else 9, (0, 0), [.ref 152, .int (nI p), .int (nI e), .int c, .retAddr 0, .retAddr 0, .retAddr 0], [])) (h' := (G, I, F)) (hs' := []) rfl rfl ?_
  refine vm_J.bT (by decide) ?_
  refine vm_J.go vm_q216 (k := 1) (hs := []) (f' := (12, (0, 0), [.ref 152, .int (nI p), .int (nI e), .int c, .retAddr 0, .retAddr 0, .retAddr 0], [.int c])) (h' := (G, I, F)) (hs' := []) rfl rfl ?_
  refine vm_J.call vm_q216 (Z := vm_M169) (n := 1) (k := 1) (mi := 169) (pc := 12) (en := (12, .invokestatic 162, 3, [169, 1321, 0], .null)) rfl trivial rfl rfl vm_z169 (av := [.int c]) (rest := []) (r_isColour_y (c := c) hcc) rfl (Nat.le_of_ble_eq_true rfl) ⟨Nat.le_of_ble_eq_true rfl, Nat.le_of_ble_eq_true rfl⟩ ⟨Nat.le_of_ble_eq_true rfl, Nat.le_of_ble_eq_true rfl⟩ ?_
  show vm_J _ _ _ (15, (0, 0), [.ref 152, .int (nI p), .int (nI e), .int c, .retAddr 0, .retAddr 0, .retAddr 0], [.int 1]) (G, I, F) _ _
  refine vm_J.go vm_q216 (k := 1) (hs := []) (f' := (bif vm_ic .ne 1 0 then 21 else 18, (0, 0), [.ref 152, .int (nI p), .int (nI e), .int c, .retAddr 0, .retAddr 0, .retAddr 0], [])) (h' := (G, I, F)) (hs' := []) rfl rfl ?_
  refine vm_J.bT (by decide) ?_
  refine vm_J.go vm_q216 (k := 9) (hs := []) (f' := (32, (0, 0), [.ref 152, .int (nI p), .int (nI e), .int c, .int ((16 * (nI p)) + (nI e)), .retAddr 0, .retAddr 0], [.int c, .int (nI p), .ref 152])) (h' := (G, I, F)) (hs' := []) rfl rfl ?_
  rw [((vm_pa (vm_pm (rfl : (16 : Int32) = nI 16) (rfl : (nI p : Int32) = nI p)) (rfl : (nI e : Int32) = nI e)) : (16 * (nI p)) + (nI e) = nI ((16 * p) + e))]
  refine vm_J.call vm_q216 (Z := vm_M211) (n := 2) (k := 0) (mi := 211) (pc := 32) (en := (32, .invokevirtual 258, 3, [211, 1456, 0], .null)) rfl trivial rfl rfl vm_z211 (av := [.ref 152, .int (nI p), .int c]) (rest := []) (r_ew_n (p := p) (c := c) hR (by omega) hn (by omega) hb) ⟨_, _, rfl, rfl, _, 11, _, hR.c152, rfl, rfl, rfl⟩ (Nat.le_of_ble_eq_true rfl) ⟨Nat.le_of_ble_eq_true rfl, Nat.le_of_ble_eq_true rfl⟩ ⟨Nat.le_of_ble_eq_true rfl, Nat.le_of_ble_eq_true rfl⟩ ?_
  show vm_J _ _ _ (35, (0, 0), [.ref 152, .int (nI p), .int (nI e), .int c, .int (nI ((16 * p) + e)), .retAddr 0, .retAddr 0], [.int (-1)]) (G, I, F) _ _
  refine vm_J.go vm_q216 (k := 6) (hs := [vm_shR, (0, 64, [])]) (f' := (45, (0, 0), [.ref 152, .int (nI p), .int (nI e), .int c, .int (nI ((16 * p) + e)), .int (-1), .retAddr 0], [.int 1, .int (I 158 (nI ((16 * p) + e)).toNatClampNeg)])) (h' := (G, I, F)) (hs' := []) rfl (vm_b2 rfl (vm_b2 rfl (vm_b2 (vm_b2 (vm_hG hR.c152) rfl) (vm_b2 rfl (vm_b2 (vm_b2 (vm_hG hR.c158) (vm_in_e (j := (16 * p) + e) (n := 64) rfl (by omega) (by omega))) (vm_b2 rfl rfl)))))) ?_
  rw [vm_ix_e (j := (16 * p) + e) rfl (by omega)]
  refine vm_J.go vm_q216 (k := 1) (hs := []) (f' := (bif vm_ic .eq (I 158 ((16 * p) + e)) 1 then 59 else 48, (0, 0), [.ref 152, .int (nI p), .int (nI e), .int c, .int (nI ((16 * p) + e)), .int (-1), .retAddr 0], [])) (h' := (G, I, F)) (hs' := []) rfl rfl ?_
  refine vm_J.bF (decide_eq_false hl) ?_
  refine vm_J.go vm_q216 (k := 2) (hs := []) (f' := (bif vm_ic .lt (-1) 0 then 62 else 53, (0, 0), [.ref 152, .int (nI p), .int (nI e), .int c, .int (nI ((16 * p) + e)), .int (-1), .retAddr 0], [])) (h' := (G, I, F)) (hs' := []) rfl rfl ?_
  refine vm_J.bT (by decide) ?_
  refine vm_J.go vm_q216 (k := 11) (hs := [vm_shR, (0, 64, []), vm_shR, (0, 64, [])]) (f' := (81, (0, 0), [.ref 152, .int (nI p), .int (nI e), .int c, .int (nI ((16 * p) + e)), .int (-1), .int (I 157 (nI ((16 * p) + e)).toNatClampNeg)], [.int (I 157 (nI ((16 * p) + e)).toNatClampNeg)])) (h' := (G, (vm_up I 157 ((nI ((16 * p) + e)).toNatClampNeg) c), F)) (hs' := []) rfl (vm_b2 rfl (vm_b2 (vm_b2 (vm_hG hR.c152) rfl) (vm_b2 rfl (vm_b2 (vm_b2 (vm_hG hR.c157) (vm_in_e (j := (16 * p) + e) (n := 64) rfl (by omega) (by omega))) (vm_b2 rfl (vm_b2 rfl (vm_b2 (vm_b2 (vm_hG hR.c152) rfl) (vm_b2 rfl (vm_b2 rfl (vm_b2 (vm_b2 (vm_hG hR.c157) (vm_in_e (j := (16 * p) + e) (n := 64) rfl (by omega) (by omega))) (vm_b2 rfl rfl))))))))))) ?_
  rw [vm_ix_e (j := (16 * p) + e) rfl (by omega)]
  exact vm_J.end vm_q216 (en := (81, .ireturn, 1, [], .null)) rfl rfl vm_rI (Nat.zero_le _) (Nat.zero_le _) rfl
set_option maxHeartbeats 4000000 in
set_option maxRecDepth 20000 in
/-- DitherDeskModel.change -/
theorem r_change_z {l : Launch} {X : vm_Cx} {G : List vm_Sh} {I : Nat → Nat → Int32} {F : Nat → Nat → UInt32} {p : Nat} {n : Nat} {e : Nat} {c : Int32} (hR : vm_isR G) (hn : I 156 p = nI n) (hp : p < 4) (hn2 : n ≤ 16) (he : e < n) (hcc : 0 ≤ c ∧ c ≤ 262143) (hl : ¬ I 158 (16 * p + e) = 1) (hb : ∀ k, k < e → ¬ I 157 (16 * p + k) = c) (hc : I 157 (16 * p + e) = c) : vm_K l X vm_M216 [.ref 152, .int (nI p), .int (nI e), .int c] (G, I, F) (some (.int (I 157 (16 * p + e)))) (G, (vm_up I 157 (16 * p + e) c), F) := by
  refine vm_K.mk (by decide) (Nat.le_of_ble_eq_true rfl) ?_
  show vm_J _ _ _ (0, (0, 0), [.ref 152, .int (nI p), .int (nI e), .int c, .retAddr 0, .retAddr 0, .retAddr 0], []) _ _ _
  refine vm_J.go vm_q216 (k := 3) (hs := []) (f' := (3, (0, 0), [.ref 152, .int (nI p), .int (nI e), .int c, .retAddr 0, .retAddr 0, .retAddr 0], [.int (nI e), .int (nI p), .ref 152])) (h' := (G, I, F)) (hs' := []) rfl rfl ?_
  refine vm_J.call vm_q216 (Z := vm_M174) (n := 2) (k := 0) (mi := 174) (pc := 3) (en := (3, .invokevirtual 264, 3, [174, 1468, 0], .null)) rfl trivial rfl rfl vm_z174 (av := [.ref 152, .int (nI p), .int (nI e)]) (rest := []) (r_isEn_y (p := p) (e := nI e) hR (by omega) hn (vm_en_n he hn2)) ⟨_, _, rfl, rfl, _, 11, _, hR.c152, rfl, rfl, rfl⟩ (Nat.le_of_ble_eq_true rfl) ⟨Nat.le_of_ble_eq_true rfl, Nat.le_of_ble_eq_true rfl⟩ ⟨Nat.le_of_ble_eq_true rfl, Nat.le_of_ble_eq_true rfl⟩ ?_
  show vm_J _ _ _ (6, (0, 0), [.ref 152, .int (nI p), .int (nI e), .int c, .retAddr 0, .retAddr 0, .retAddr 0], [.int 1]) (G, I, F) _ _
  refine vm_J.go vm_q216 (k := 1) (hs := []) (f' := (bif vm_ic .ne 1 0 then 11 else 9, (0, 0), [.ref 152, .int (nI p), .int (nI e), .int c, .retAddr 0, .retAddr 0, .retAddr 0], [])) (h' := (G, I, F)) (hs' := []) rfl rfl ?_
  refine vm_J.bT (by decide) ?_
  refine vm_J.go vm_q216 (k := 1) (hs := []) (f' := (12, (0, 0), [.ref 152, .int (nI p), .int (nI e), .int c, .retAddr 0, .retAddr 0, .retAddr 0], [.int c])) (h' := (G, I, F)) (hs' := []) rfl rfl ?_
  refine vm_J.call vm_q216 (Z := vm_M169) (n := 1) (k := 1) (mi := 169) (pc := 12) (en := (12, .invokestatic 162, 3, [169, 1321, 0], .null)) rfl trivial rfl rfl vm_z169 (av := [.int c]) (rest := []) (r_isColour_y (c := c) hcc) rfl (Nat.le_of_ble_eq_true rfl) ⟨Nat.le_of_ble_eq_true rfl, Nat.le_of_ble_eq_true rfl⟩ ⟨Nat.le_of_ble_eq_true rfl, Nat.le_of_ble_eq_true rfl⟩ ?_
  show vm_J _ _ _ (15, (0, 0), [.ref 152, .int (nI p), .int (nI e), .int c, .retAddr 0, .retAddr 0, .retAddr 0], [.int 1]) (G, I, F) _ _
  refine vm_J.go vm_q216 (k := 1) (hs := []) (f' := (bif vm_ic .ne 1 0 then 21 else 18, (0, 0), [.ref 152, .int (nI p), .int (nI e), .int c, .retAddr 0, .retAddr 0, .retAddr 0], [])) (h' := (G, I, F)) (hs' := []) rfl rfl ?_
  refine vm_J.bT (by decide) ?_
  refine vm_J.go vm_q216 (k := 9) (hs := []) (f' := (32, (0, 0), [.ref 152, .int (nI p), .int (nI e), .int c, .int ((16 * (nI p)) + (nI e)), .retAddr 0, .retAddr 0], [.int c, .int (nI p), .ref 152])) (h' := (G, I, F)) (hs' := []) rfl rfl ?_
  rw [((vm_pa (vm_pm (rfl : (16 : Int32) = nI 16) (rfl : (nI p : Int32) = nI p)) (rfl : (nI e : Int32) = nI e)) : (16 * (nI p)) + (nI e) = nI ((16 * p) + e))]
  refine vm_J.call vm_q216 (Z := vm_M211) (n := 2) (k := 0) (mi := 211) (pc := 32) (en := (32, .invokevirtual 258, 3, [211, 1456, 0], .null)) rfl trivial rfl rfl vm_z211 (av := [.ref 152, .int (nI p), .int c]) (rest := []) (r_ew_y (p := p) (j := e) (c := c) hR (by omega) hn (by omega) he hb hc) ⟨_, _, rfl, rfl, _, 11, _, hR.c152, rfl, rfl, rfl⟩ (Nat.le_of_ble_eq_true rfl) ⟨Nat.le_of_ble_eq_true rfl, Nat.le_of_ble_eq_true rfl⟩ ⟨Nat.le_of_ble_eq_true rfl, Nat.le_of_ble_eq_true rfl⟩ ?_
  show vm_J _ _ _ (35, (0, 0), [.ref 152, .int (nI p), .int (nI e), .int c, .int (nI ((16 * p) + e)), .retAddr 0, .retAddr 0], [.int (nI e)]) (G, I, F) _ _
  refine vm_J.go vm_q216 (k := 6) (hs := [vm_shR, (0, 64, [])]) (f' := (45, (0, 0), [.ref 152, .int (nI p), .int (nI e), .int c, .int (nI ((16 * p) + e)), .int (nI e), .retAddr 0], [.int 1, .int (I 158 (nI ((16 * p) + e)).toNatClampNeg)])) (h' := (G, I, F)) (hs' := []) rfl (vm_b2 rfl (vm_b2 rfl (vm_b2 (vm_b2 (vm_hG hR.c152) rfl) (vm_b2 rfl (vm_b2 (vm_b2 (vm_hG hR.c158) (vm_in_e (j := (16 * p) + e) (n := 64) rfl (by omega) (by omega))) (vm_b2 rfl rfl)))))) ?_
  rw [vm_ix_e (j := (16 * p) + e) rfl (by omega)]
  refine vm_J.go vm_q216 (k := 1) (hs := []) (f' := (bif vm_ic .eq (I 158 ((16 * p) + e)) 1 then 59 else 48, (0, 0), [.ref 152, .int (nI p), .int (nI e), .int c, .int (nI ((16 * p) + e)), .int (nI e), .retAddr 0], [])) (h' := (G, I, F)) (hs' := []) rfl rfl ?_
  refine vm_J.bF (decide_eq_false hl) ?_
  refine vm_J.go vm_q216 (k := 2) (hs := []) (f' := (bif vm_ic .lt (nI e) 0 then 62 else 53, (0, 0), [.ref 152, .int (nI p), .int (nI e), .int c, .int (nI ((16 * p) + e)), .int (nI e), .retAddr 0], [])) (h' := (G, I, F)) (hs' := []) rfl rfl ?_
  refine vm_J.br (fun c1 => ?_) (fun c1 => ?_)
  · have c1 := vm_lt_t (a := e) (b := 0) (by omega) (by omega) c1
    exact (show False by omega).elim
  · have c1 := vm_lt_f (a := e) (b := 0) (by omega) (by omega) c1
    refine vm_J.go vm_q216 (k := 3) (hs := []) (f' := (bif vm_ic .eq (nI e) (nI e) then 62 else 59, (0, 0), [.ref 152, .int (nI p), .int (nI e), .int c, .int (nI ((16 * p) + e)), .int (nI e), .retAddr 0], [])) (h' := (G, I, F)) (hs' := []) rfl rfl ?_
    refine vm_J.br (fun c2 => ?_) (fun c2 => ?_)
    · have c2 := vm_eq_t (a := e) (b := e) (by omega) (by omega) c2
      refine vm_J.go vm_q216 (k := 11) (hs := [vm_shR, (0, 64, []), vm_shR, (0, 64, [])]) (f' := (81, (0, 0), [.ref 152, .int (nI p), .int (nI e), .int c, .int (nI ((16 * p) + e)), .int (nI e), .int (I 157 (nI ((16 * p) + e)).toNatClampNeg)], [.int (I 157 (nI ((16 * p) + e)).toNatClampNeg)])) (h' := (G, (vm_up I 157 ((nI ((16 * p) + e)).toNatClampNeg) c), F)) (hs' := []) rfl (vm_b2 rfl (vm_b2 (vm_b2 (vm_hG hR.c152) rfl) (vm_b2 rfl (vm_b2 (vm_b2 (vm_hG hR.c157) (vm_in_e (j := (16 * p) + e) (n := 64) rfl (by omega) (by omega))) (vm_b2 rfl (vm_b2 rfl (vm_b2 (vm_b2 (vm_hG hR.c152) rfl) (vm_b2 rfl (vm_b2 rfl (vm_b2 (vm_b2 (vm_hG hR.c157) (vm_in_e (j := (16 * p) + e) (n := 64) rfl (by omega) (by omega))) (vm_b2 rfl rfl))))))))))) ?_
      rw [vm_ix_e (j := (16 * p) + e) rfl (by omega)]
      exact vm_J.end vm_q216 (en := (81, .ireturn, 1, [], .null)) rfl rfl vm_rI (Nat.zero_le _) (Nat.zero_le _) rfl
    · have c2 := vm_eq_f (a := e) (b := e) (by omega) (by omega) c2
      exact (show False by omega).elim
set_option maxHeartbeats 4000000 in
set_option maxRecDepth 20000 in
/-- DitherDeskModel.lock -/
theorem r_lock_0 {l : Launch} {X : vm_Cx} {G : List vm_Sh} {I : Nat → Nat → Int32} {F : Nat → Nat → UInt32} {p : Nat} {n : Nat} {e : Nat} (hR : vm_isR G) (hn : I 156 p = nI n) (hp : p < 4) (hn2 : n ≤ 16) (he : e < n) : vm_K l X vm_M217 [.ref 152, .int (nI p), .int (nI e), .int 0] (G, I, F) (some (.int (I 158 (16 * p + e)))) (G, (vm_up I 158 (16 * p + e) 0), F) := by
  refine vm_K.mk (by decide) (Nat.le_of_ble_eq_true rfl) ?_
  show vm_J _ _ _ (0, (0, 0), [.ref 152, .int (nI p), .int (nI e), .int 0, .retAddr 0], []) _ _ _
  refine vm_J.go vm_q217 (k := 3) (hs := []) (f' := (3, (0, 0), [.ref 152, .int (nI p), .int (nI e), .int 0, .retAddr 0], [.int (nI e), .int (nI p), .ref 152])) (h' := (G, I, F)) (hs' := []) rfl rfl ?_
  refine vm_J.call vm_q217 (Z := vm_M174) (n := 2) (k := 0) (mi := 174) (pc := 3) (en := (3, .invokevirtual 264, 3, [174, 1468, 0], .null)) rfl trivial rfl rfl vm_z174 (av := [.ref 152, .int (nI p), .int (nI e)]) (rest := []) (r_isEn_y (p := p) (e := nI e) hR (by omega) hn (vm_en_n he hn2)) ⟨_, _, rfl, rfl, _, 11, _, hR.c152, rfl, rfl, rfl⟩ (Nat.le_of_ble_eq_true rfl) ⟨Nat.le_of_ble_eq_true rfl, Nat.le_of_ble_eq_true rfl⟩ ⟨Nat.le_of_ble_eq_true rfl, Nat.le_of_ble_eq_true rfl⟩ ?_
  show vm_J _ _ _ (6, (0, 0), [.ref 152, .int (nI p), .int (nI e), .int 0, .retAddr 0], [.int 1]) (G, I, F) _ _
  refine vm_J.go vm_q217 (k := 1) (hs := []) (f' := (bif vm_ic .ne 1 0 then 11 else 9, (0, 0), [.ref 152, .int (nI p), .int (nI e), .int 0, .retAddr 0], [])) (h' := (G, I, F)) (hs' := []) rfl rfl ?_
  refine vm_J.bT (by decide) ?_
  refine vm_J.go vm_q217 (k := 18) (hs := [vm_shR, (0, 64, []), vm_shR]) (f' := (bif vm_ic .eq 0 0 then 42 else 38, (0, 0), [.ref 152, .int (nI p), .int (nI e), .int 0, .int (I 158 ((16 * (nI p)) + (nI e)).toNatClampNeg)], [.int ((16 * (nI p)) + (nI e)), .ref 158])) (h' := (G, I, F)) (hs' := []) rfl (vm_b2 rfl (vm_b2 (vm_b2 (vm_hG hR.c152) rfl) (vm_b2 rfl (vm_b2 rfl (vm_b2 rfl (vm_b2 rfl (vm_b2 rfl (vm_b2 (vm_b2 (vm_hG hR.c158) (vm_in_e (j := (16 * p) + e) (n := 64) (vm_pa (vm_pm (rfl : (16 : Int32) = nI 16) (rfl : (nI p : Int32) = nI p)) (rfl : (nI e : Int32) = nI e)) (by omega) (by omega))) (vm_b2 rfl (vm_b2 rfl (vm_b2 (vm_b2 (vm_hG hR.c152) rfl) (vm_b2 rfl (vm_b2 rfl (vm_b2 rfl (vm_b2 rfl (vm_b2 rfl (vm_b2 rfl (vm_b2 rfl rfl)))))))))))))))))) ?_
  rw [vm_ix_e (j := (16 * p) + e) (vm_pa (vm_pm (rfl : (16 : Int32) = nI 16) (rfl : (nI p : Int32) = nI p)) (rfl : (nI e : Int32) = nI e)) (by omega), ((vm_pa (vm_pm (rfl : (16 : Int32) = nI 16) (rfl : (nI p : Int32) = nI p)) (rfl : (nI e : Int32) = nI e)) : (16 * (nI p)) + (nI e) = nI ((16 * p) + e))]
  refine vm_J.bT (by decide) ?_
  refine vm_J.go vm_q217 (k := 3) (hs := [(0, 64, [])]) (f' := (46, (0, 0), [.ref 152, .int (nI p), .int (nI e), .int 0, .int (I 158 ((16 * p) + e))], [.int (I 158 ((16 * p) + e))])) (h' := (G, (vm_up I 158 ((nI ((16 * p) + e)).toNatClampNeg) 0), F)) (hs' := []) rfl (vm_b2 rfl (vm_b2 (vm_b2 (vm_hG hR.c158) (vm_in_e (j := (16 * p) + e) (n := 64) rfl (by omega) (by omega))) (vm_b2 rfl rfl))) ?_
  rw [vm_ix_e (j := (16 * p) + e) rfl (by omega)]
  exact vm_J.end vm_q217 (en := (46, .ireturn, 1, [], .null)) rfl rfl vm_rI (Nat.zero_le _) (Nat.zero_le _) rfl
set_option maxHeartbeats 4000000 in
set_option maxRecDepth 20000 in
/-- DitherDeskModel.lock -/
theorem r_lock_1 {l : Launch} {X : vm_Cx} {G : List vm_Sh} {I : Nat → Nat → Int32} {F : Nat → Nat → UInt32} {p : Nat} {n : Nat} {e : Nat} (hR : vm_isR G) (hn : I 156 p = nI n) (hp : p < 4) (hn2 : n ≤ 16) (he : e < n) : vm_K l X vm_M217 [.ref 152, .int (nI p), .int (nI e), .int 1] (G, I, F) (some (.int (I 158 (16 * p + e)))) (G, (vm_up I 158 (16 * p + e) 1), F) := by
  refine vm_K.mk (by decide) (Nat.le_of_ble_eq_true rfl) ?_
  show vm_J _ _ _ (0, (0, 0), [.ref 152, .int (nI p), .int (nI e), .int 1, .retAddr 0], []) _ _ _
  refine vm_J.go vm_q217 (k := 3) (hs := []) (f' := (3, (0, 0), [.ref 152, .int (nI p), .int (nI e), .int 1, .retAddr 0], [.int (nI e), .int (nI p), .ref 152])) (h' := (G, I, F)) (hs' := []) rfl rfl ?_
  refine vm_J.call vm_q217 (Z := vm_M174) (n := 2) (k := 0) (mi := 174) (pc := 3) (en := (3, .invokevirtual 264, 3, [174, 1468, 0], .null)) rfl trivial rfl rfl vm_z174 (av := [.ref 152, .int (nI p), .int (nI e)]) (rest := []) (r_isEn_y (p := p) (e := nI e) hR (by omega) hn (vm_en_n he hn2)) ⟨_, _, rfl, rfl, _, 11, _, hR.c152, rfl, rfl, rfl⟩ (Nat.le_of_ble_eq_true rfl) ⟨Nat.le_of_ble_eq_true rfl, Nat.le_of_ble_eq_true rfl⟩ ⟨Nat.le_of_ble_eq_true rfl, Nat.le_of_ble_eq_true rfl⟩ ?_
  show vm_J _ _ _ (6, (0, 0), [.ref 152, .int (nI p), .int (nI e), .int 1, .retAddr 0], [.int 1]) (G, I, F) _ _
  refine vm_J.go vm_q217 (k := 1) (hs := []) (f' := (bif vm_ic .ne 1 0 then 11 else 9, (0, 0), [.ref 152, .int (nI p), .int (nI e), .int 1, .retAddr 0], [])) (h' := (G, I, F)) (hs' := []) rfl rfl ?_
  refine vm_J.bT (by decide) ?_
  refine vm_J.go vm_q217 (k := 18) (hs := [vm_shR, (0, 64, []), vm_shR]) (f' := (bif vm_ic .eq 1 0 then 42 else 38, (0, 0), [.ref 152, .int (nI p), .int (nI e), .int 1, .int (I 158 ((16 * (nI p)) + (nI e)).toNatClampNeg)], [.int ((16 * (nI p)) + (nI e)), .ref 158])) (h' := (G, I, F)) (hs' := []) rfl (vm_b2 rfl (vm_b2 (vm_b2 (vm_hG hR.c152) rfl) (vm_b2 rfl (vm_b2 rfl (vm_b2 rfl (vm_b2 rfl (vm_b2 rfl (vm_b2 (vm_b2 (vm_hG hR.c158) (vm_in_e (j := (16 * p) + e) (n := 64) (vm_pa (vm_pm (rfl : (16 : Int32) = nI 16) (rfl : (nI p : Int32) = nI p)) (rfl : (nI e : Int32) = nI e)) (by omega) (by omega))) (vm_b2 rfl (vm_b2 rfl (vm_b2 (vm_b2 (vm_hG hR.c152) rfl) (vm_b2 rfl (vm_b2 rfl (vm_b2 rfl (vm_b2 rfl (vm_b2 rfl (vm_b2 rfl (vm_b2 rfl rfl)))))))))))))))))) ?_
  rw [vm_ix_e (j := (16 * p) + e) (vm_pa (vm_pm (rfl : (16 : Int32) = nI 16) (rfl : (nI p : Int32) = nI p)) (rfl : (nI e : Int32) = nI e)) (by omega), ((vm_pa (vm_pm (rfl : (16 : Int32) = nI 16) (rfl : (nI p : Int32) = nI p)) (rfl : (nI e : Int32) = nI e)) : (16 * (nI p)) + (nI e) = nI ((16 * p) + e))]
  refine vm_J.bF (by decide) ?_
  refine vm_J.go vm_q217 (k := 4) (hs := [(0, 64, [])]) (f' := (46, (0, 0), [.ref 152, .int (nI p), .int (nI e), .int 1, .int (I 158 ((16 * p) + e))], [.int (I 158 ((16 * p) + e))])) (h' := (G, (vm_up I 158 ((nI ((16 * p) + e)).toNatClampNeg) 1), F)) (hs' := []) rfl (vm_b2 rfl (vm_b2 rfl (vm_b2 (vm_b2 (vm_hG hR.c158) (vm_in_e (j := (16 * p) + e) (n := 64) rfl (by omega) (by omega))) (vm_b2 rfl rfl)))) ?_
  rw [vm_ix_e (j := (16 * p) + e) rfl (by omega)]
  exact vm_J.end vm_q217 (en := (46, .ireturn, 1, [], .null)) rfl rfl vm_rI (Nat.zero_le _) (Nat.zero_le _) rfl
set_option maxHeartbeats 4000000 in
set_option maxRecDepth 20000 in
/-- DitherDeskModel.told -/
theorem r_told_b {l : Launch} {X : vm_Cx} {G : List vm_Sh} {I : Nat → Nat → Int32} {F : Nat → Nat → UInt32} {p : Nat} {n : Nat} {e : Nat} {c : Int32} (hR : vm_isR G) (hn : I 156 p = nI n) (hp : p < 4) (hn2 : n ≤ 16) (he : e < n) (hk : ¬ (0 ≤ c ∧ c ≤ 4)) : vm_K l X vm_M218 [.ref 152, .int (nI p), .int (nI e), .int c] (G, I, F) (some (.int (-1))) (G, I, F) := by
  refine vm_K.mk (by decide) (Nat.le_of_ble_eq_true rfl) ?_
  show vm_J _ _ _ (0, (0, 0), [.ref 152, .int (nI p), .int (nI e), .int c, .retAddr 0], []) _ _ _
  refine vm_J.go vm_q218 (k := 3) (hs := []) (f' := (3, (0, 0), [.ref 152, .int (nI p), .int (nI e), .int c, .retAddr 0], [.int (nI e), .int (nI p), .ref 152])) (h' := (G, I, F)) (hs' := []) rfl rfl ?_
  refine vm_J.call vm_q218 (Z := vm_M174) (n := 2) (k := 0) (mi := 174) (pc := 3) (en := (3, .invokevirtual 264, 3, [174, 1468, 0], .null)) rfl trivial rfl rfl vm_z174 (av := [.ref 152, .int (nI p), .int (nI e)]) (rest := []) (r_isEn_y (p := p) (e := nI e) hR (by omega) hn (vm_en_n he hn2)) ⟨_, _, rfl, rfl, _, 11, _, hR.c152, rfl, rfl, rfl⟩ (Nat.le_of_ble_eq_true rfl) ⟨Nat.le_of_ble_eq_true rfl, Nat.le_of_ble_eq_true rfl⟩ ⟨Nat.le_of_ble_eq_true rfl, Nat.le_of_ble_eq_true rfl⟩ ?_
  show vm_J _ _ _ (6, (0, 0), [.ref 152, .int (nI p), .int (nI e), .int c, .retAddr 0], [.int 1]) (G, I, F) _ _
  refine vm_J.go vm_q218 (k := 1) (hs := []) (f' := (bif vm_ic .eq 1 0 then 18 else 9, (0, 0), [.ref 152, .int (nI p), .int (nI e), .int c, .retAddr 0], [])) (h' := (G, I, F)) (hs' := []) rfl rfl ?_
  refine vm_J.bF (by decide) ?_
  refine vm_J.go vm_q218 (k := 3) (hs := []) (f' := (12, (0, 0), [.ref 152, .int (nI p), .int (nI e), .int c, .retAddr 0], [.int 4, .int 0, .int c])) (h' := (G, I, F)) (hs' := []) rfl rfl ?_
  refine vm_J.call vm_q218 (Z := vm_M168) (n := 3) (k := 1) (mi := 168) (pc := 12) (en := (12, .invokestatic 141, 3, [168, 1302, 0], .null)) rfl trivial rfl rfl vm_z168 (av := [.int c, .int 0, .int 4]) (rest := []) (r_isIn_n (v := c) (a := 0) (b := 4) hk) rfl (Nat.le_of_ble_eq_true rfl) ⟨Nat.le_of_ble_eq_true rfl, Nat.le_of_ble_eq_true rfl⟩ ⟨Nat.le_of_ble_eq_true rfl, Nat.le_of_ble_eq_true rfl⟩ ?_
  show vm_J _ _ _ (15, (0, 0), [.ref 152, .int (nI p), .int (nI e), .int c, .retAddr 0], [.int 0]) (G, I, F) _ _
  refine vm_J.go vm_q218 (k := 1) (hs := []) (f' := (bif vm_ic .ne 0 0 then 20 else 18, (0, 0), [.ref 152, .int (nI p), .int (nI e), .int c, .retAddr 0], [])) (h' := (G, I, F)) (hs' := []) rfl rfl ?_
  refine vm_J.bF (by decide) ?_
  refine vm_J.go vm_q218 (k := 1) (hs := []) (f' := (19, (0, 0), [.ref 152, .int (nI p), .int (nI e), .int c, .retAddr 0], [.int (-1)])) (h' := (G, I, F)) (hs' := []) rfl rfl ?_
  exact vm_J.end vm_q218 (en := (19, .ireturn, 1, [], .null)) rfl rfl vm_rI (Nat.zero_le _) (Nat.zero_le _) rfl
set_option maxHeartbeats 4000000 in
set_option maxRecDepth 20000 in
/-- DitherDeskModel.told -/
theorem r_told_0 {l : Launch} {X : vm_Cx} {G : List vm_Sh} {I : Nat → Nat → Int32} {F : Nat → Nat → UInt32} {p : Nat} {n : Nat} {e : Nat} (hR : vm_isR G) (hn : I 156 p = nI n) (hp : p < 4) (hn2 : n ≤ 16) (he : e < n) : vm_K l X vm_M218 [.ref 152, .int (nI p), .int (nI e), .int 0] (G, I, F) (some (.int (I 157 (16 * p + e)))) (G, I, F) := by
  refine vm_K.mk (by decide) (Nat.le_of_ble_eq_true rfl) ?_
  show vm_J _ _ _ (0, (0, 0), [.ref 152, .int (nI p), .int (nI e), .int 0, .retAddr 0], []) _ _ _
  refine vm_J.go vm_q218 (k := 3) (hs := []) (f' := (3, (0, 0), [.ref 152, .int (nI p), .int (nI e), .int 0, .retAddr 0], [.int (nI e), .int (nI p), .ref 152])) (h' := (G, I, F)) (hs' := []) rfl rfl ?_
  refine vm_J.call vm_q218 (Z := vm_M174) (n := 2) (k := 0) (mi := 174) (pc := 3) (en := (3, .invokevirtual 264, 3, [174, 1468, 0], .null)) rfl trivial rfl rfl vm_z174 (av := [.ref 152, .int (nI p), .int (nI e)]) (rest := []) (r_isEn_y (p := p) (e := nI e) hR (by omega) hn (vm_en_n he hn2)) ⟨_, _, rfl, rfl, _, 11, _, hR.c152, rfl, rfl, rfl⟩ (Nat.le_of_ble_eq_true rfl) ⟨Nat.le_of_ble_eq_true rfl, Nat.le_of_ble_eq_true rfl⟩ ⟨Nat.le_of_ble_eq_true rfl, Nat.le_of_ble_eq_true rfl⟩ ?_
  show vm_J _ _ _ (6, (0, 0), [.ref 152, .int (nI p), .int (nI e), .int 0, .retAddr 0], [.int 1]) (G, I, F) _ _
  refine vm_J.go vm_q218 (k := 1) (hs := []) (f' := (bif vm_ic .eq 1 0 then 18 else 9, (0, 0), [.ref 152, .int (nI p), .int (nI e), .int 0, .retAddr 0], [])) (h' := (G, I, F)) (hs' := []) rfl rfl ?_
  refine vm_J.bF (by decide) ?_
  refine vm_J.go vm_q218 (k := 3) (hs := []) (f' := (12, (0, 0), [.ref 152, .int (nI p), .int (nI e), .int 0, .retAddr 0], [.int 4, .int 0, .int 0])) (h' := (G, I, F)) (hs' := []) rfl rfl ?_
  refine vm_J.call vm_q218 (Z := vm_M168) (n := 3) (k := 1) (mi := 168) (pc := 12) (en := (12, .invokestatic 141, 3, [168, 1302, 0], .null)) rfl trivial rfl rfl vm_z168 (av := [.int 0, .int 0, .int 4]) (rest := []) (r_isIn_y (v := 0) (a := 0) (b := 4) (by decide)) rfl (Nat.le_of_ble_eq_true rfl) ⟨Nat.le_of_ble_eq_true rfl, Nat.le_of_ble_eq_true rfl⟩ ⟨Nat.le_of_ble_eq_true rfl, Nat.le_of_ble_eq_true rfl⟩ ?_
  show vm_J _ _ _ (15, (0, 0), [.ref 152, .int (nI p), .int (nI e), .int 0, .retAddr 0], [.int 1]) (G, I, F) _ _
  refine vm_J.go vm_q218 (k := 1) (hs := []) (f' := (bif vm_ic .ne 1 0 then 20 else 18, (0, 0), [.ref 152, .int (nI p), .int (nI e), .int 0, .retAddr 0], [])) (h' := (G, I, F)) (hs' := []) rfl rfl ?_
  refine vm_J.bT (by decide) ?_
  refine vm_J.go vm_q218 (k := 11) (hs := [vm_shR, (0, 64, [])]) (f' := (bif vm_ic .ne 0 0 then 42 else 37, (0, 0), [.ref 152, .int (nI p), .int (nI e), .int 0, .int (I 157 ((16 * (nI p)) + (nI e)).toNatClampNeg)], [])) (h' := (G, I, F)) (hs' := []) rfl (vm_b2 rfl (vm_b2 (vm_b2 (vm_hG hR.c152) rfl) (vm_b2 rfl (vm_b2 rfl (vm_b2 rfl (vm_b2 rfl (vm_b2 rfl (vm_b2 (vm_b2 (vm_hG hR.c157) (vm_in_e (j := (16 * p) + e) (n := 64) (vm_pa (vm_pm (rfl : (16 : Int32) = nI 16) (rfl : (nI p : Int32) = nI p)) (rfl : (nI e : Int32) = nI e)) (by omega) (by omega))) (vm_b2 rfl (vm_b2 rfl (vm_b2 rfl rfl))))))))))) ?_
  rw [vm_ix_e (j := (16 * p) + e) (vm_pa (vm_pm (rfl : (16 : Int32) = nI 16) (rfl : (nI p : Int32) = nI p)) (rfl : (nI e : Int32) = nI e)) (by omega)]
  refine vm_J.bF (by decide) ?_
  refine vm_J.go vm_q218 (k := 2) (hs := []) (f' := (69, (0, 0), [.ref 152, .int (nI p), .int (nI e), .int 0, .int (I 157 ((16 * p) + e))], [.int (I 157 ((16 * p) + e))])) (h' := (G, I, F)) (hs' := []) rfl rfl ?_
  exact vm_J.end vm_q218 (en := (69, .ireturn, 1, [], .null)) rfl rfl vm_rI (Nat.zero_le _) (Nat.zero_le _) rfl
set_option maxHeartbeats 4000000 in
set_option maxRecDepth 20000 in
/-- DitherDeskModel.told -/
theorem r_told_1 {l : Launch} {X : vm_Cx} {G : List vm_Sh} {I : Nat → Nat → Int32} {F : Nat → Nat → UInt32} {p : Nat} {n : Nat} {e : Nat} (hR : vm_isR G) (hn : I 156 p = nI n) (hp : p < 4) (hn2 : n ≤ 16) (he : e < n) : vm_K l X vm_M218 [.ref 152, .int (nI p), .int (nI e), .int 1] (G, I, F) (some (.int (I 158 (16 * p + e)))) (G, I, F) := by
  refine vm_K.mk (by decide) (Nat.le_of_ble_eq_true rfl) ?_
  show vm_J _ _ _ (0, (0, 0), [.ref 152, .int (nI p), .int (nI e), .int 1, .retAddr 0], []) _ _ _
  refine vm_J.go vm_q218 (k := 3) (hs := []) (f' := (3, (0, 0), [.ref 152, .int (nI p), .int (nI e), .int 1, .retAddr 0], [.int (nI e), .int (nI p), .ref 152])) (h' := (G, I, F)) (hs' := []) rfl rfl ?_
  refine vm_J.call vm_q218 (Z := vm_M174) (n := 2) (k := 0) (mi := 174) (pc := 3) (en := (3, .invokevirtual 264, 3, [174, 1468, 0], .null)) rfl trivial rfl rfl vm_z174 (av := [.ref 152, .int (nI p), .int (nI e)]) (rest := []) (r_isEn_y (p := p) (e := nI e) hR (by omega) hn (vm_en_n he hn2)) ⟨_, _, rfl, rfl, _, 11, _, hR.c152, rfl, rfl, rfl⟩ (Nat.le_of_ble_eq_true rfl) ⟨Nat.le_of_ble_eq_true rfl, Nat.le_of_ble_eq_true rfl⟩ ⟨Nat.le_of_ble_eq_true rfl, Nat.le_of_ble_eq_true rfl⟩ ?_
  show vm_J _ _ _ (6, (0, 0), [.ref 152, .int (nI p), .int (nI e), .int 1, .retAddr 0], [.int 1]) (G, I, F) _ _
  refine vm_J.go vm_q218 (k := 1) (hs := []) (f' := (bif vm_ic .eq 1 0 then 18 else 9, (0, 0), [.ref 152, .int (nI p), .int (nI e), .int 1, .retAddr 0], [])) (h' := (G, I, F)) (hs' := []) rfl rfl ?_
  refine vm_J.bF (by decide) ?_
  refine vm_J.go vm_q218 (k := 3) (hs := []) (f' := (12, (0, 0), [.ref 152, .int (nI p), .int (nI e), .int 1, .retAddr 0], [.int 4, .int 0, .int 1])) (h' := (G, I, F)) (hs' := []) rfl rfl ?_
  refine vm_J.call vm_q218 (Z := vm_M168) (n := 3) (k := 1) (mi := 168) (pc := 12) (en := (12, .invokestatic 141, 3, [168, 1302, 0], .null)) rfl trivial rfl rfl vm_z168 (av := [.int 1, .int 0, .int 4]) (rest := []) (r_isIn_y (v := 1) (a := 0) (b := 4) (by decide)) rfl (Nat.le_of_ble_eq_true rfl) ⟨Nat.le_of_ble_eq_true rfl, Nat.le_of_ble_eq_true rfl⟩ ⟨Nat.le_of_ble_eq_true rfl, Nat.le_of_ble_eq_true rfl⟩ ?_
  show vm_J _ _ _ (15, (0, 0), [.ref 152, .int (nI p), .int (nI e), .int 1, .retAddr 0], [.int 1]) (G, I, F) _ _
  refine vm_J.go vm_q218 (k := 1) (hs := []) (f' := (bif vm_ic .ne 1 0 then 20 else 18, (0, 0), [.ref 152, .int (nI p), .int (nI e), .int 1, .retAddr 0], [])) (h' := (G, I, F)) (hs' := []) rfl rfl ?_
  refine vm_J.bT (by decide) ?_
  refine vm_J.go vm_q218 (k := 11) (hs := [vm_shR, (0, 64, [])]) (f' := (bif vm_ic .ne 1 0 then 42 else 37, (0, 0), [.ref 152, .int (nI p), .int (nI e), .int 1, .int (I 157 ((16 * (nI p)) + (nI e)).toNatClampNeg)], [])) (h' := (G, I, F)) (hs' := []) rfl (vm_b2 rfl (vm_b2 (vm_b2 (vm_hG hR.c152) rfl) (vm_b2 rfl (vm_b2 rfl (vm_b2 rfl (vm_b2 rfl (vm_b2 rfl (vm_b2 (vm_b2 (vm_hG hR.c157) (vm_in_e (j := (16 * p) + e) (n := 64) (vm_pa (vm_pm (rfl : (16 : Int32) = nI 16) (rfl : (nI p : Int32) = nI p)) (rfl : (nI e : Int32) = nI e)) (by omega) (by omega))) (vm_b2 rfl (vm_b2 rfl (vm_b2 rfl rfl))))))))))) ?_
  rw [vm_ix_e (j := (16 * p) + e) (vm_pa (vm_pm (rfl : (16 : Int32) = nI 16) (rfl : (nI p : Int32) = nI p)) (rfl : (nI e : Int32) = nI e)) (by omega)]
  refine vm_J.bT (by decide) ?_
  refine vm_J.go vm_q218 (k := 3) (hs := []) (f' := (bif vm_ic .ne 1 1 then 61 else 47, (0, 0), [.ref 152, .int (nI p), .int (nI e), .int 1, .int (I 157 ((16 * p) + e))], [])) (h' := (G, I, F)) (hs' := []) rfl rfl ?_
  refine vm_J.bF (by decide) ?_
  refine vm_J.go vm_q218 (k := 9) (hs := [vm_shR, (0, 64, [])]) (f' := (69, (0, 0), [.ref 152, .int (nI p), .int (nI e), .int 1, .int (I 157 ((16 * p) + e))], [.int (I 158 ((16 * (nI p)) + (nI e)).toNatClampNeg)])) (h' := (G, I, F)) (hs' := []) rfl (vm_b2 rfl (vm_b2 (vm_b2 (vm_hG hR.c152) rfl) (vm_b2 rfl (vm_b2 rfl (vm_b2 rfl (vm_b2 rfl (vm_b2 rfl (vm_b2 (vm_b2 (vm_hG hR.c158) (vm_in_e (j := (16 * p) + e) (n := 64) (vm_pa (vm_pm (rfl : (16 : Int32) = nI 16) (rfl : (nI p : Int32) = nI p)) (rfl : (nI e : Int32) = nI e)) (by omega) (by omega))) (vm_b2 rfl rfl))))))))) ?_
  rw [vm_ix_e (j := (16 * p) + e) (vm_pa (vm_pm (rfl : (16 : Int32) = nI 16) (rfl : (nI p : Int32) = nI p)) (rfl : (nI e : Int32) = nI e)) (by omega)]
  exact vm_J.end vm_q218 (en := (69, .ireturn, 1, [], .null)) rfl rfl vm_rI (Nat.zero_le _) (Nat.zero_le _) rfl
set_option maxHeartbeats 4000000 in
set_option maxRecDepth 20000 in
/-- DitherDeskModel.told -/
theorem r_told_2 {l : Launch} {X : vm_Cx} {G : List vm_Sh} {I : Nat → Nat → Int32} {F : Nat → Nat → UInt32} {p : Nat} {n : Nat} {e : Nat} (hR : vm_isR G) (hn : I 156 p = nI n) (hp : p < 4) (hn2 : n ≤ 16) (he : e < n) : vm_K l X vm_M218 [.ref 152, .int (nI p), .int (nI e), .int 2] (G, I, F) (some (.int (sp_ch (I 157 (16 * p + e)) 0))) (G, I, F) := by
  refine vm_K.mk (by decide) (Nat.le_of_ble_eq_true rfl) ?_
  show vm_J _ _ _ (0, (0, 0), [.ref 152, .int (nI p), .int (nI e), .int 2, .retAddr 0], []) _ _ _
  refine vm_J.go vm_q218 (k := 3) (hs := []) (f' := (3, (0, 0), [.ref 152, .int (nI p), .int (nI e), .int 2, .retAddr 0], [.int (nI e), .int (nI p), .ref 152])) (h' := (G, I, F)) (hs' := []) rfl rfl ?_
  refine vm_J.call vm_q218 (Z := vm_M174) (n := 2) (k := 0) (mi := 174) (pc := 3) (en := (3, .invokevirtual 264, 3, [174, 1468, 0], .null)) rfl trivial rfl rfl vm_z174 (av := [.ref 152, .int (nI p), .int (nI e)]) (rest := []) (r_isEn_y (p := p) (e := nI e) hR (by omega) hn (vm_en_n he hn2)) ⟨_, _, rfl, rfl, _, 11, _, hR.c152, rfl, rfl, rfl⟩ (Nat.le_of_ble_eq_true rfl) ⟨Nat.le_of_ble_eq_true rfl, Nat.le_of_ble_eq_true rfl⟩ ⟨Nat.le_of_ble_eq_true rfl, Nat.le_of_ble_eq_true rfl⟩ ?_
  show vm_J _ _ _ (6, (0, 0), [.ref 152, .int (nI p), .int (nI e), .int 2, .retAddr 0], [.int 1]) (G, I, F) _ _
  refine vm_J.go vm_q218 (k := 1) (hs := []) (f' := (bif vm_ic .eq 1 0 then 18 else 9, (0, 0), [.ref 152, .int (nI p), .int (nI e), .int 2, .retAddr 0], [])) (h' := (G, I, F)) (hs' := []) rfl rfl ?_
  refine vm_J.bF (by decide) ?_
  refine vm_J.go vm_q218 (k := 3) (hs := []) (f' := (12, (0, 0), [.ref 152, .int (nI p), .int (nI e), .int 2, .retAddr 0], [.int 4, .int 0, .int 2])) (h' := (G, I, F)) (hs' := []) rfl rfl ?_
  refine vm_J.call vm_q218 (Z := vm_M168) (n := 3) (k := 1) (mi := 168) (pc := 12) (en := (12, .invokestatic 141, 3, [168, 1302, 0], .null)) rfl trivial rfl rfl vm_z168 (av := [.int 2, .int 0, .int 4]) (rest := []) (r_isIn_y (v := 2) (a := 0) (b := 4) (by decide)) rfl (Nat.le_of_ble_eq_true rfl) ⟨Nat.le_of_ble_eq_true rfl, Nat.le_of_ble_eq_true rfl⟩ ⟨Nat.le_of_ble_eq_true rfl, Nat.le_of_ble_eq_true rfl⟩ ?_
  show vm_J _ _ _ (15, (0, 0), [.ref 152, .int (nI p), .int (nI e), .int 2, .retAddr 0], [.int 1]) (G, I, F) _ _
  refine vm_J.go vm_q218 (k := 1) (hs := []) (f' := (bif vm_ic .ne 1 0 then 20 else 18, (0, 0), [.ref 152, .int (nI p), .int (nI e), .int 2, .retAddr 0], [])) (h' := (G, I, F)) (hs' := []) rfl rfl ?_
  refine vm_J.bT (by decide) ?_
  refine vm_J.go vm_q218 (k := 11) (hs := [vm_shR, (0, 64, [])]) (f' := (bif vm_ic .ne 2 0 then 42 else 37, (0, 0), [.ref 152, .int (nI p), .int (nI e), .int 2, .int (I 157 ((16 * (nI p)) + (nI e)).toNatClampNeg)], [])) (h' := (G, I, F)) (hs' := []) rfl (vm_b2 rfl (vm_b2 (vm_b2 (vm_hG hR.c152) rfl) (vm_b2 rfl (vm_b2 rfl (vm_b2 rfl (vm_b2 rfl (vm_b2 rfl (vm_b2 (vm_b2 (vm_hG hR.c157) (vm_in_e (j := (16 * p) + e) (n := 64) (vm_pa (vm_pm (rfl : (16 : Int32) = nI 16) (rfl : (nI p : Int32) = nI p)) (rfl : (nI e : Int32) = nI e)) (by omega) (by omega))) (vm_b2 rfl (vm_b2 rfl (vm_b2 rfl rfl))))))))))) ?_
  rw [vm_ix_e (j := (16 * p) + e) (vm_pa (vm_pm (rfl : (16 : Int32) = nI 16) (rfl : (nI p : Int32) = nI p)) (rfl : (nI e : Int32) = nI e)) (by omega)]
  refine vm_J.bT (by decide) ?_
  refine vm_J.go vm_q218 (k := 3) (hs := []) (f' := (bif vm_ic .ne 2 1 then 61 else 47, (0, 0), [.ref 152, .int (nI p), .int (nI e), .int 2, .int (I 157 ((16 * p) + e))], [])) (h' := (G, I, F)) (hs' := []) rfl rfl ?_
  refine vm_J.bT (by decide) ?_
  refine vm_J.go vm_q218 (k := 4) (hs := []) (f' := (66, (0, 0), [.ref 152, .int (nI p), .int (nI e), .int 2, .int (I 157 ((16 * p) + e))], [.int (2 - 2), .int (I 157 ((16 * p) + e))])) (h' := (G, I, F)) (hs' := []) rfl rfl ?_
  rw [(show (2 - 2 : Int32) = 0 from by decide)]
  refine vm_J.call vm_q218 (Z := vm_M170) (n := 2) (k := 1) (mi := 170) (pc := 66) (en := (66, .invokestatic 180, 3, [170, 1348, 0], .null)) rfl trivial rfl rfl vm_z170 (av := [.int (I 157 ((16 * p) + e)), .int 0]) (rest := []) (r_channelOf (c := I 157 ((16 * p) + e)) (k := 0)) rfl (Nat.le_of_ble_eq_true rfl) ⟨Nat.le_of_ble_eq_true rfl, Nat.le_of_ble_eq_true rfl⟩ ⟨Nat.le_of_ble_eq_true rfl, Nat.le_of_ble_eq_true rfl⟩ ?_
  show vm_J _ _ _ (69, (0, 0), [.ref 152, .int (nI p), .int (nI e), .int 2, .int (I 157 ((16 * p) + e))], [.int (sp_ch (I 157 ((16 * p) + e)) 0)]) (G, I, F) _ _
  exact vm_J.end vm_q218 (en := (69, .ireturn, 1, [], .null)) rfl rfl vm_rI (Nat.zero_le _) (Nat.zero_le _) rfl
set_option maxHeartbeats 4000000 in
set_option maxRecDepth 20000 in
/-- DitherDeskModel.told -/
theorem r_told_3 {l : Launch} {X : vm_Cx} {G : List vm_Sh} {I : Nat → Nat → Int32} {F : Nat → Nat → UInt32} {p : Nat} {n : Nat} {e : Nat} (hR : vm_isR G) (hn : I 156 p = nI n) (hp : p < 4) (hn2 : n ≤ 16) (he : e < n) : vm_K l X vm_M218 [.ref 152, .int (nI p), .int (nI e), .int 3] (G, I, F) (some (.int (sp_ch (I 157 (16 * p + e)) 1))) (G, I, F) := by
  refine vm_K.mk (by decide) (Nat.le_of_ble_eq_true rfl) ?_
  show vm_J _ _ _ (0, (0, 0), [.ref 152, .int (nI p), .int (nI e), .int 3, .retAddr 0], []) _ _ _
  refine vm_J.go vm_q218 (k := 3) (hs := []) (f' := (3, (0, 0), [.ref 152, .int (nI p), .int (nI e), .int 3, .retAddr 0], [.int (nI e), .int (nI p), .ref 152])) (h' := (G, I, F)) (hs' := []) rfl rfl ?_
  refine vm_J.call vm_q218 (Z := vm_M174) (n := 2) (k := 0) (mi := 174) (pc := 3) (en := (3, .invokevirtual 264, 3, [174, 1468, 0], .null)) rfl trivial rfl rfl vm_z174 (av := [.ref 152, .int (nI p), .int (nI e)]) (rest := []) (r_isEn_y (p := p) (e := nI e) hR (by omega) hn (vm_en_n he hn2)) ⟨_, _, rfl, rfl, _, 11, _, hR.c152, rfl, rfl, rfl⟩ (Nat.le_of_ble_eq_true rfl) ⟨Nat.le_of_ble_eq_true rfl, Nat.le_of_ble_eq_true rfl⟩ ⟨Nat.le_of_ble_eq_true rfl, Nat.le_of_ble_eq_true rfl⟩ ?_
  show vm_J _ _ _ (6, (0, 0), [.ref 152, .int (nI p), .int (nI e), .int 3, .retAddr 0], [.int 1]) (G, I, F) _ _
  refine vm_J.go vm_q218 (k := 1) (hs := []) (f' := (bif vm_ic .eq 1 0 then 18 else 9, (0, 0), [.ref 152, .int (nI p), .int (nI e), .int 3, .retAddr 0], [])) (h' := (G, I, F)) (hs' := []) rfl rfl ?_
  refine vm_J.bF (by decide) ?_
  refine vm_J.go vm_q218 (k := 3) (hs := []) (f' := (12, (0, 0), [.ref 152, .int (nI p), .int (nI e), .int 3, .retAddr 0], [.int 4, .int 0, .int 3])) (h' := (G, I, F)) (hs' := []) rfl rfl ?_
  refine vm_J.call vm_q218 (Z := vm_M168) (n := 3) (k := 1) (mi := 168) (pc := 12) (en := (12, .invokestatic 141, 3, [168, 1302, 0], .null)) rfl trivial rfl rfl vm_z168 (av := [.int 3, .int 0, .int 4]) (rest := []) (r_isIn_y (v := 3) (a := 0) (b := 4) (by decide)) rfl (Nat.le_of_ble_eq_true rfl) ⟨Nat.le_of_ble_eq_true rfl, Nat.le_of_ble_eq_true rfl⟩ ⟨Nat.le_of_ble_eq_true rfl, Nat.le_of_ble_eq_true rfl⟩ ?_
  show vm_J _ _ _ (15, (0, 0), [.ref 152, .int (nI p), .int (nI e), .int 3, .retAddr 0], [.int 1]) (G, I, F) _ _
  refine vm_J.go vm_q218 (k := 1) (hs := []) (f' := (bif vm_ic .ne 1 0 then 20 else 18, (0, 0), [.ref 152, .int (nI p), .int (nI e), .int 3, .retAddr 0], [])) (h' := (G, I, F)) (hs' := []) rfl rfl ?_
  refine vm_J.bT (by decide) ?_
  refine vm_J.go vm_q218 (k := 11) (hs := [vm_shR, (0, 64, [])]) (f' := (bif vm_ic .ne 3 0 then 42 else 37, (0, 0), [.ref 152, .int (nI p), .int (nI e), .int 3, .int (I 157 ((16 * (nI p)) + (nI e)).toNatClampNeg)], [])) (h' := (G, I, F)) (hs' := []) rfl (vm_b2 rfl (vm_b2 (vm_b2 (vm_hG hR.c152) rfl) (vm_b2 rfl (vm_b2 rfl (vm_b2 rfl (vm_b2 rfl (vm_b2 rfl (vm_b2 (vm_b2 (vm_hG hR.c157) (vm_in_e (j := (16 * p) + e) (n := 64) (vm_pa (vm_pm (rfl : (16 : Int32) = nI 16) (rfl : (nI p : Int32) = nI p)) (rfl : (nI e : Int32) = nI e)) (by omega) (by omega))) (vm_b2 rfl (vm_b2 rfl (vm_b2 rfl rfl))))))))))) ?_
  rw [vm_ix_e (j := (16 * p) + e) (vm_pa (vm_pm (rfl : (16 : Int32) = nI 16) (rfl : (nI p : Int32) = nI p)) (rfl : (nI e : Int32) = nI e)) (by omega)]
  refine vm_J.bT (by decide) ?_
  refine vm_J.go vm_q218 (k := 3) (hs := []) (f' := (bif vm_ic .ne 3 1 then 61 else 47, (0, 0), [.ref 152, .int (nI p), .int (nI e), .int 3, .int (I 157 ((16 * p) + e))], [])) (h' := (G, I, F)) (hs' := []) rfl rfl ?_
  refine vm_J.bT (by decide) ?_
  refine vm_J.go vm_q218 (k := 4) (hs := []) (f' := (66, (0, 0), [.ref 152, .int (nI p), .int (nI e), .int 3, .int (I 157 ((16 * p) + e))], [.int (3 - 2), .int (I 157 ((16 * p) + e))])) (h' := (G, I, F)) (hs' := []) rfl rfl ?_
  rw [(show (3 - 2 : Int32) = 1 from by decide)]
  refine vm_J.call vm_q218 (Z := vm_M170) (n := 2) (k := 1) (mi := 170) (pc := 66) (en := (66, .invokestatic 180, 3, [170, 1348, 0], .null)) rfl trivial rfl rfl vm_z170 (av := [.int (I 157 ((16 * p) + e)), .int 1]) (rest := []) (r_channelOf (c := I 157 ((16 * p) + e)) (k := 1)) rfl (Nat.le_of_ble_eq_true rfl) ⟨Nat.le_of_ble_eq_true rfl, Nat.le_of_ble_eq_true rfl⟩ ⟨Nat.le_of_ble_eq_true rfl, Nat.le_of_ble_eq_true rfl⟩ ?_
  show vm_J _ _ _ (69, (0, 0), [.ref 152, .int (nI p), .int (nI e), .int 3, .int (I 157 ((16 * p) + e))], [.int (sp_ch (I 157 ((16 * p) + e)) 1)]) (G, I, F) _ _
  exact vm_J.end vm_q218 (en := (69, .ireturn, 1, [], .null)) rfl rfl vm_rI (Nat.zero_le _) (Nat.zero_le _) rfl
set_option maxHeartbeats 4000000 in
set_option maxRecDepth 20000 in
/-- DitherDeskModel.told -/
theorem r_told_4 {l : Launch} {X : vm_Cx} {G : List vm_Sh} {I : Nat → Nat → Int32} {F : Nat → Nat → UInt32} {p : Nat} {n : Nat} {e : Nat} (hR : vm_isR G) (hn : I 156 p = nI n) (hp : p < 4) (hn2 : n ≤ 16) (he : e < n) : vm_K l X vm_M218 [.ref 152, .int (nI p), .int (nI e), .int 4] (G, I, F) (some (.int (sp_ch (I 157 (16 * p + e)) 2))) (G, I, F) := by
  refine vm_K.mk (by decide) (Nat.le_of_ble_eq_true rfl) ?_
  show vm_J _ _ _ (0, (0, 0), [.ref 152, .int (nI p), .int (nI e), .int 4, .retAddr 0], []) _ _ _
  refine vm_J.go vm_q218 (k := 3) (hs := []) (f' := (3, (0, 0), [.ref 152, .int (nI p), .int (nI e), .int 4, .retAddr 0], [.int (nI e), .int (nI p), .ref 152])) (h' := (G, I, F)) (hs' := []) rfl rfl ?_
  refine vm_J.call vm_q218 (Z := vm_M174) (n := 2) (k := 0) (mi := 174) (pc := 3) (en := (3, .invokevirtual 264, 3, [174, 1468, 0], .null)) rfl trivial rfl rfl vm_z174 (av := [.ref 152, .int (nI p), .int (nI e)]) (rest := []) (r_isEn_y (p := p) (e := nI e) hR (by omega) hn (vm_en_n he hn2)) ⟨_, _, rfl, rfl, _, 11, _, hR.c152, rfl, rfl, rfl⟩ (Nat.le_of_ble_eq_true rfl) ⟨Nat.le_of_ble_eq_true rfl, Nat.le_of_ble_eq_true rfl⟩ ⟨Nat.le_of_ble_eq_true rfl, Nat.le_of_ble_eq_true rfl⟩ ?_
  show vm_J _ _ _ (6, (0, 0), [.ref 152, .int (nI p), .int (nI e), .int 4, .retAddr 0], [.int 1]) (G, I, F) _ _
  refine vm_J.go vm_q218 (k := 1) (hs := []) (f' := (bif vm_ic .eq 1 0 then 18 else 9, (0, 0), [.ref 152, .int (nI p), .int (nI e), .int 4, .retAddr 0], [])) (h' := (G, I, F)) (hs' := []) rfl rfl ?_
  refine vm_J.bF (by decide) ?_
  refine vm_J.go vm_q218 (k := 3) (hs := []) (f' := (12, (0, 0), [.ref 152, .int (nI p), .int (nI e), .int 4, .retAddr 0], [.int 4, .int 0, .int 4])) (h' := (G, I, F)) (hs' := []) rfl rfl ?_
  refine vm_J.call vm_q218 (Z := vm_M168) (n := 3) (k := 1) (mi := 168) (pc := 12) (en := (12, .invokestatic 141, 3, [168, 1302, 0], .null)) rfl trivial rfl rfl vm_z168 (av := [.int 4, .int 0, .int 4]) (rest := []) (r_isIn_y (v := 4) (a := 0) (b := 4) (by decide)) rfl (Nat.le_of_ble_eq_true rfl) ⟨Nat.le_of_ble_eq_true rfl, Nat.le_of_ble_eq_true rfl⟩ ⟨Nat.le_of_ble_eq_true rfl, Nat.le_of_ble_eq_true rfl⟩ ?_
  show vm_J _ _ _ (15, (0, 0), [.ref 152, .int (nI p), .int (nI e), .int 4, .retAddr 0], [.int 1]) (G, I, F) _ _
  refine vm_J.go vm_q218 (k := 1) (hs := []) (f' := (bif vm_ic .ne 1 0 then 20 else 18, (0, 0), [.ref 152, .int (nI p), .int (nI e), .int 4, .retAddr 0], [])) (h' := (G, I, F)) (hs' := []) rfl rfl ?_
  refine vm_J.bT (by decide) ?_
  refine vm_J.go vm_q218 (k := 11) (hs := [vm_shR, (0, 64, [])]) (f' := (bif vm_ic .ne 4 0 then 42 else 37, (0, 0), [.ref 152, .int (nI p), .int (nI e), .int 4, .int (I 157 ((16 * (nI p)) + (nI e)).toNatClampNeg)], [])) (h' := (G, I, F)) (hs' := []) rfl (vm_b2 rfl (vm_b2 (vm_b2 (vm_hG hR.c152) rfl) (vm_b2 rfl (vm_b2 rfl (vm_b2 rfl (vm_b2 rfl (vm_b2 rfl (vm_b2 (vm_b2 (vm_hG hR.c157) (vm_in_e (j := (16 * p) + e) (n := 64) (vm_pa (vm_pm (rfl : (16 : Int32) = nI 16) (rfl : (nI p : Int32) = nI p)) (rfl : (nI e : Int32) = nI e)) (by omega) (by omega))) (vm_b2 rfl (vm_b2 rfl (vm_b2 rfl rfl))))))))))) ?_
  rw [vm_ix_e (j := (16 * p) + e) (vm_pa (vm_pm (rfl : (16 : Int32) = nI 16) (rfl : (nI p : Int32) = nI p)) (rfl : (nI e : Int32) = nI e)) (by omega)]
  refine vm_J.bT (by decide) ?_
  refine vm_J.go vm_q218 (k := 3) (hs := []) (f' := (bif vm_ic .ne 4 1 then 61 else 47, (0, 0), [.ref 152, .int (nI p), .int (nI e), .int 4, .int (I 157 ((16 * p) + e))], [])) (h' := (G, I, F)) (hs' := []) rfl rfl ?_
  refine vm_J.bT (by decide) ?_
  refine vm_J.go vm_q218 (k := 4) (hs := []) (f' := (66, (0, 0), [.ref 152, .int (nI p), .int (nI e), .int 4, .int (I 157 ((16 * p) + e))], [.int (4 - 2), .int (I 157 ((16 * p) + e))])) (h' := (G, I, F)) (hs' := []) rfl rfl ?_
  rw [(show (4 - 2 : Int32) = 2 from by decide)]
  refine vm_J.call vm_q218 (Z := vm_M170) (n := 2) (k := 1) (mi := 170) (pc := 66) (en := (66, .invokestatic 180, 3, [170, 1348, 0], .null)) rfl trivial rfl rfl vm_z170 (av := [.int (I 157 ((16 * p) + e)), .int 2]) (rest := []) (r_channelOf (c := I 157 ((16 * p) + e)) (k := 2)) rfl (Nat.le_of_ble_eq_true rfl) ⟨Nat.le_of_ble_eq_true rfl, Nat.le_of_ble_eq_true rfl⟩ ⟨Nat.le_of_ble_eq_true rfl, Nat.le_of_ble_eq_true rfl⟩ ?_
  show vm_J _ _ _ (69, (0, 0), [.ref 152, .int (nI p), .int (nI e), .int 4, .int (I 157 ((16 * p) + e))], [.int (sp_ch (I 157 ((16 * p) + e)) 2)]) (G, I, F) _ _
  exact vm_J.end vm_q218 (en := (69, .ireturn, 1, [], .null)) rfl rfl vm_rI (Nat.zero_le _) (Nat.zero_le _) rfl
