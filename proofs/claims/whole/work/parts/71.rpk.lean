/-- entries that aren't locked go, from the last on: the ints, and how many are left, when j were looked at -/
def vr_kl (I : Nat → Nat → Int32) (p n : Nat) : Nat → (Nat → Nat → Int32) × Nat
  | 0 => (I, n)
  | j + 1 => if I 158 (16 * p + (n - 1 - j)) = 0 then (vm_rm (vm_up (vr_kl I p n j).1 156 p (nI ((vr_kl I p n j).2 - 1))) 157 158 (16 * p + (n - 1 - j)) ((vr_kl I p n j).2 - 1 - (n - 1 - j)), (vr_kl I p n j).2 - 1) else vr_kl I p n j
theorem vr_kl_o (I : Nat → Nat → Int32) (p n a : Nat) (h1 : a ≠ 156) (h2 : a ≠ 157) (h3 : a ≠ 158) : ∀ j, (vr_kl I p n j).1 a = I a
  | 0 => rfl
  | j + 1 => by
    unfold vr_kl
    split
    · exact (vm_rm_o _ 157 158 _ _ a h2 h3).trans ((vm_up_f _ 156 _ _ a h1).trans (vr_kl_o I p n a h1 h2 h3 j))
    · exact vr_kl_o I p n a h1 h2 h3 j
theorem vr_kl_n (I : Nat → Nat → Int32) (p n : Nat) (h : I 156 p = nI n) : ∀ j, (vr_kl I p n j).1 156 p = nI (vr_kl I p n j).2
  | 0 => h
  | j + 1 => by
    unfold vr_kl
    split
    · dsimp only
      rw [vm_rm_o _ 157 158 _ _ 156 (by decide) (by decide)]
      exact vm_up_h _ _ _ _
    · exact vr_kl_n I p n h j
theorem vr_kl_b (I : Nat → Nat → Int32) (p n : Nat) : ∀ j, j ≤ n → n - j ≤ (vr_kl I p n j).2 ∧ (vr_kl I p n j).2 ≤ n
  | 0, _ => ⟨Nat.le_refl n, Nat.le_refl n⟩
  | j + 1, hj => by
    have ih := vr_kl_b I p n j (by omega)
    unfold vr_kl
    split
    · exact ⟨by dsimp only; omega, by dsimp only; omega⟩
    · exact ⟨by omega, ih.2⟩
/-- what is below isn't touched yet -/
theorem vr_kl_l (I : Nat → Nat → Int32) (p n e : Nat) : ∀ j, j ≤ n → e < n - j → (vr_kl I p n j).1 158 (16 * p + e) = I 158 (16 * p + e)
  | 0, _, _ => rfl
  | j + 1, hj, he => by
    unfold vr_kl
    split
    · show vm_rm _ 157 158 _ _ 158 (16 * p + e) = _
      unfold vm_rm
      rw [vm_wq_l _ 158 _ _ _ _ (by omega), vm_wq_o _ 157 _ _ 158 _ (by decide), vm_up_o2 _ 156 _ _ 158 _ (by decide)]
      exact vr_kl_l I p n e j (by omega) (by omega)
    · exact vr_kl_l I p n e j (by omega) (by omega)
set_option maxHeartbeats 4000000 in
set_option maxRecDepth 20000 in
/-- DitherDeskModel.keepsLocked -/
theorem r_keeps {l : Launch} {X : vm_Cx} {G : List vm_Sh} {I : Nat → Nat → Int32} {F : Nat → Nat → UInt32} {p : Nat} {n : Nat} (hR : vm_isR G) (hn : I 156 p = nI n) (hp : p < 4) (hn2 : n ≤ 16) : vm_K l X vm_M228 [.ref 152, .int (nI p)] (G, I, F) (none) (G, ((vr_kl I p n n).1), F) := by
  refine vm_K.mk (by decide) (Nat.le_of_ble_eq_true rfl) ?_
  show vm_J _ _ _ (0, (0, 0), [.ref 152, .int (nI p), .retAddr 0], []) _ _ _
  refine vm_J.go vm_q228 (k := 4) (hs := [vm_shR, (0, 4, [])]) (f' := (6, (0, 0), [.ref 152, .int (nI p), .retAddr 0], [.int (I 156 (nI p).toNatClampNeg)])) (h' := (G, I, F)) (hs' := []) rfl (vm_b2 rfl (vm_b2 (vm_b2 (vm_hG hR.c152) rfl) (vm_b2 rfl (vm_b2 (vm_b2 (vm_hG hR.c156) (vm_in_e (j := p) (n := 4) rfl (by omega) (by omega))) rfl)))) ?_
  rw [vm_ix_e (j := p) rfl (by omega)]
  rw [(hn : I 156 p = nI n)]
  refine vm_J.go vm_q228 (k := 3) (hs := []) (f' := (9, (0, 0), [.ref 152, .int (nI p), .int ((nI n) - 1)], [])) (h' := (G, I, F)) (hs' := []) rfl rfl ?_
  refine vm_J.cnt n (fun j => (9, (0, 0), [.ref 152, .int (nI p), .int (nI (n - j) - 1)], [])) (fun j => (G, ((vr_kl I p n j).1), F)) (fun _ => True) rfl rfl trivial (fun j hj pj ij => ?_) (fun pj => ?_)
  · show vm_J _ _ _ (9, (0, 0), [.ref 152, .int (nI p), .int (nI (n - j) - 1)], []) (G, ((vr_kl I p n j).1), F) _ _
    refine vm_J.go vm_q228 (k := 2) (hs := []) (f' := (bif vm_ic .lt (nI (n - j) - 1) 0 then 39 else 13, (0, 0), [.ref 152, .int (nI p), .int (nI (n - j) - 1)], [])) (h' := (G, ((vr_kl I p n j).1), F)) (hs' := []) rfl rfl ?_
    refine vm_J.bF (decide_eq_false (by rw [show nI (n - j) - 1 = nI (n - 1 - j) from (vm_ps (x := nI (n - j)) (y := 1) (b := 1) rfl rfl (by omega)).trans (congrArg nI (by omega))]; exact nI_pos (by omega))) ?_
    rw [show nI (n - j) - 1 = nI (n - 1 - j) from (vm_ps (x := nI (n - j)) (y := 1) (b := 1) rfl rfl (by omega)).trans (congrArg nI (by omega))]
    have hkb := vr_kl_b I p n j (by omega)
    show vm_J _ _ _ (13, (0, 0), [.ref 152, .int (nI p), .int (nI (n - 1 - j))], []) (G, ((vr_kl I p n j).1), F) _ _
    refine vm_J.go vm_q228 (k := 8) (hs := [vm_shR, (0, 64, [])]) (f' := (24, (0, 0), [.ref 152, .int (nI p), .int (nI (n - 1 - j))], [.int (((vr_kl I p n j).1) 158 ((16 * (nI p)) + (nI (n - 1 - j))).toNatClampNeg)])) (h' := (G, ((vr_kl I p n j).1), F)) (hs' := []) rfl (vm_b2 rfl (vm_b2 (vm_b2 (vm_hG hR.c152) rfl) (vm_b2 rfl (vm_b2 rfl (vm_b2 rfl (vm_b2 rfl (vm_b2 rfl (vm_b2 (vm_b2 (vm_hG hR.c158) (vm_in_e (j := (16 * p) + (n - 1 - j)) (n := 64) (vm_pa (vm_pm (rfl : (16 : Int32) = nI 16) (rfl : (nI p : Int32) = nI p)) (rfl : (nI (n - 1 - j) : Int32) = nI (n - 1 - j))) (by omega) (by omega))) rfl)))))))) ?_
    rw [vm_ix_e (j := (16 * p) + (n - 1 - j)) (vm_pa (vm_pm (rfl : (16 : Int32) = nI 16) (rfl : (nI p : Int32) = nI p)) (rfl : (nI (n - 1 - j) : Int32) = nI (n - 1 - j))) (by omega)]
    rw [((vr_kl_l I p n (n - 1 - j) j (by omega) (by omega)) : ((vr_kl I p n j).1) 158 ((16 * p) + (n - 1 - j)) = I 158 ((16 * p) + (n - 1 - j)))]
    refine vm_J.go vm_q228 (k := 1) (hs := []) (f' := (bif vm_ic .ne (I 158 ((16 * p) + (n - 1 - j))) 0 then 33 else 27, (0, 0), [.ref 152, .int (nI p), .int (nI (n - 1 - j))], [])) (h' := (G, ((vr_kl I p n j).1), F)) (hs' := []) rfl rfl ?_
    refine vm_J.br (fun c1 => ?_) (fun c1 => ?_)
    · have c1 : ¬ (I 158 ((16 * p) + (n - 1 - j))) = 0 := of_decide_eq_true c1
      refine vm_J.go vm_q228 (k := 2) (hs := []) (f' := (9, (0, 0), [.ref 152, .int (nI p), .int ((nI (n - 1 - j)) + (-1))], [])) (h' := (G, ((vr_kl I p n j).1), F)) (hs' := []) rfl rfl ?_
      have z := ij trivial
      rw [show vr_kl I p n (j + 1) = _ from if_neg c1] at z
      rw [show nI (n - 1 - j) + (-1) = nI (n - (j + 1)) - 1 from by rw [show n - 1 - j = n - (j + 1) from by omega]; exact (Int32.sub_eq_add_neg _ _).symm]
      exact z
    · have c1 : (I 158 ((16 * p) + (n - 1 - j))) = 0 := Decidable.of_not_not (of_decide_eq_false c1)
      refine vm_J.go vm_q228 (k := 3) (hs := []) (f' := (30, (0, 0), [.ref 152, .int (nI p), .int (nI (n - 1 - j))], [.int (nI (n - 1 - j)), .int (nI p), .ref 152])) (h' := (G, ((vr_kl I p n j).1), F)) (hs' := []) rfl rfl ?_
      refine vm_J.call vm_q228 (Z := vm_M214) (n := 2) (k := 0) (mi := 214) (pc := 30) (en := (30, .invokevirtual 267, 3, [214, 1472, 0], .null)) rfl trivial rfl rfl vm_z214 (av := [.ref 152, .int (nI p), .int (nI (n - 1 - j))]) (rest := []) (r_goes (p := p) (n := (vr_kl I p n j).2) (e := n - 1 - j) hR (vr_kl_n I p n hn j) (by omega) (by omega) (by omega)) ⟨_, _, rfl, rfl, _, 11, _, hR.c152, rfl, rfl, rfl⟩ (Nat.le_of_ble_eq_true rfl) ⟨Nat.le_of_ble_eq_true rfl, Nat.le_of_ble_eq_true rfl⟩ ⟨Nat.le_of_ble_eq_true rfl, Nat.le_of_ble_eq_true rfl⟩ ?_
      show vm_J _ _ _ (33, (0, 0), [.ref 152, .int (nI p), .int (nI (n - 1 - j))], []) (G, (vm_rm (vm_up ((vr_kl I p n j).1) 156 p (nI (((vr_kl I p n j).2) - 1))) 157 158 (16 * p + (n - 1 - j)) (((vr_kl I p n j).2) - 1 - (n - 1 - j))), F) _ _
      refine vm_J.go vm_q228 (k := 2) (hs := []) (f' := (9, (0, 0), [.ref 152, .int (nI p), .int ((nI (n - 1 - j)) + (-1))], [])) (h' := (G, (vm_rm (vm_up ((vr_kl I p n j).1) 156 p (nI (((vr_kl I p n j).2) - 1))) 157 158 (16 * p + (n - 1 - j)) (((vr_kl I p n j).2) - 1 - (n - 1 - j))), F)) (hs' := []) rfl rfl ?_
      have z := ij trivial
      rw [show vr_kl I p n (j + 1) = _ from if_pos c1] at z
      rw [show nI (n - 1 - j) + (-1) = nI (n - (j + 1)) - 1 from by rw [show n - 1 - j = n - (j + 1) from by omega]; exact (Int32.sub_eq_add_neg _ _).symm]
      exact z
  · show vm_J _ _ _ (9, (0, 0), [.ref 152, .int (nI p), .int (nI (n - n) - 1)], []) (G, ((vr_kl I p n n).1), F) _ _
    refine vm_J.go vm_q228 (k := 2) (hs := []) (f' := (bif vm_ic .lt (nI (n - n) - 1) 0 then 39 else 13, (0, 0), [.ref 152, .int (nI p), .int (nI (n - n) - 1)], [])) (h' := (G, ((vr_kl I p n n).1), F)) (hs' := []) rfl rfl ?_
    refine vm_J.bT (decide_eq_true (by rw [Nat.sub_self]; decide)) ?_
    exact vm_J.end vm_q228 (en := (39, .return_, 1, [], .null)) rfl rfl vm_rV (Nat.zero_le _) (Nat.zero_le _) rfl
set_option maxHeartbeats 4000000 in
set_option maxRecDepth 20000 in
/-- DitherDeskModel.passes -/
theorem r_passes_1 {l : Launch} {X : vm_Cx} {G : List vm_Sh} {I : Nat → Nat → Int32} {F : Nat → Nat → UInt32} {a : Nat} {N : Nat} {n : Nat} {cu : Nat} (hR : vm_isR G) (ha : G[a]? = some (0, N, [])) (hcu : I 152 56 = nI cu) (hn : n ≤ N) (hN : N ≤ 600) (hc : cu + n ≤ 2560) (h1 : a ≠ 152) (h2 : a ≠ 189) (hkk : I 152 55 = 1) : vm_K l X vm_M273 [.ref 152, .ref a, .int (nI n)] (G, I, F) (none) (G, (vm_up (vm_wq I 189 (fun y => I a (y - cu)) cu n) 152 56 (nI (cu + n))), F) := by
  refine vm_K.mk (by decide) (Nat.le_of_ble_eq_true rfl) ?_
  show vm_J _ _ _ (0, (0, 0), [.ref 152, .ref a, .int (nI n), .retAddr 0], []) _ _ _
  refine vm_J.go vm_q273 (k := 2) (hs := []) (f' := (2, (0, 0), [.ref 152, .ref a, .int (nI n), .int 0], [])) (h' := (G, I, F)) (hs' := []) rfl rfl ?_
  refine vm_J.cnt n (fun k => (2, (0, 0), [.ref 152, .ref a, .int (nI n), .int (nI k)], [])) (fun k => (G, (vm_up (vm_wq I 189 (fun y => I a (y - cu)) cu k) 152 56 (nI (cu + k))), F)) (fun _ => True) rfl (by rw [← vm_wq_0, Nat.add_zero, vm_up_self _ _ _ hcu]) trivial (fun k hk pk ik => ?_) (fun pk => ?_)
  · show vm_J _ _ _ (2, (0, 0), [.ref 152, .ref a, .int (nI n), .int (nI k)], []) (G, (vm_up (vm_wq I 189 (fun y => I a (y - cu)) cu k) 152 56 (nI (cu + k))), F) _ _
    refine vm_J.go vm_q273 (k := 3) (hs := []) (f' := (bif vm_ic .ge (nI k) (nI n) then 57 else 7, (0, 0), [.ref 152, .ref a, .int (nI n), .int (nI k)], [])) (h' := (G, (vm_up (vm_wq I 189 (fun y => I a (y - cu)) cu k) 152 56 (nI (cu + k))), F)) (hs' := []) rfl rfl ?_
    refine vm_J.br (fun c1 => ?_) (fun c1 => ?_)
    · have c1 := vm_ge_t (a := k) (b := n) (by omega) (by omega) c1
      exact (show False by omega).elim
    · have c1 := vm_ge_f (a := k) (b := n) (by omega) (by omega) c1
      refine vm_J.go vm_q273 (k := 2) (hs := [vm_shR]) (f' := (11, (0, 0), [.ref 152, .ref a, .int (nI n), .int (nI k)], [.int ((vm_up (vm_wq I 189 (fun y => I a (y - cu)) cu k) 152 56 (nI (cu + k))) 152 55)])) (h' := (G, (vm_up (vm_wq I 189 (fun y => I a (y - cu)) cu k) 152 56 (nI (cu + k))), F)) (hs' := []) rfl (vm_b2 rfl (vm_b2 (vm_b2 (vm_hG hR.c152) rfl) rfl)) ?_
      rw [((Eq.trans (vm_up_k2 _ 152 56 _ 55 (by decide)) (Eq.trans (congrFun (vm_wq_o _ 189 cu k 152 _ (by decide)) 55) hkk)) : (vm_up (vm_wq I 189 (fun y => I a (y - cu)) cu k) 152 56 (nI (cu + k))) 152 55 = 1)]
      refine vm_J.go vm_q273 (k := 1) (hs := []) (f' := (bif vm_ic .eq 1 0 then 29 else 14, (0, 0), [.ref 152, .ref a, .int (nI n), .int (nI k)], [])) (h' := (G, (vm_up (vm_wq I 189 (fun y => I a (y - cu)) cu k) 152 56 (nI (cu + k))), F)) (hs' := []) rfl rfl ?_
      refine vm_J.bF (by decide) ?_
      refine vm_J.go vm_q273 (k := 4) (hs := [vm_shR, vm_shR]) (f' := (22, (0, 0), [.ref 152, .ref a, .int (nI n), .int (nI k)], [.int ((vm_up (vm_wq I 189 (fun y => I a (y - cu)) cu k) 152 56 (nI (cu + k))) 152 56), .ref 189])) (h' := (G, (vm_up (vm_wq I 189 (fun y => I a (y - cu)) cu k) 152 56 (nI (cu + k))), F)) (hs' := []) rfl (vm_b2 rfl (vm_b2 (vm_b2 (vm_hG hR.c152) rfl) (vm_b2 rfl (vm_b2 (vm_b2 (vm_hG hR.c152) rfl) rfl)))) ?_
      rw [((vm_up_h _ 152 56 _) : (vm_up (vm_wq I 189 (fun y => I a (y - cu)) cu k) 152 56 (nI (cu + k))) 152 56 = nI (cu + k))]
      refine vm_J.go vm_q273 (k := 3) (hs := [(0, N, [])]) (f' := (25, (0, 0), [.ref 152, .ref a, .int (nI n), .int (nI k)], [.int ((vm_up (vm_wq I 189 (fun y => I a (y - cu)) cu k) 152 56 (nI (cu + k))) a (nI k).toNatClampNeg), .int (nI (cu + k)), .ref 189])) (h' := (G, (vm_up (vm_wq I 189 (fun y => I a (y - cu)) cu k) 152 56 (nI (cu + k))), F)) (hs' := []) rfl (vm_b2 rfl (vm_b2 rfl (vm_b2 (vm_b2 (vm_hG ha) (vm_in_e (j := k) (n := N) rfl (by omega) (by omega))) rfl))) ?_
      rw [vm_ix_e (j := k) rfl (by omega)]
      rw [((Eq.trans (congrFun (vm_up_f _ 152 _ _ a h1) k) (congrFun (vm_wq_o _ 189 cu k a _ h2) k)) : (vm_up (vm_wq I 189 (fun y => I a (y - cu)) cu k) 152 56 (nI (cu + k))) a k = I a k)]
      refine vm_J.go vm_q273 (k := 5) (hs := [(0, 2560, []), vm_shR]) (f' := (46, (0, 0), [.ref 152, .ref a, .int (nI n), .int (nI k)], [.int ((vm_up (vm_up (vm_wq I 189 (fun y => I a (y - cu)) cu k) 152 56 (nI (cu + k))) 189 ((nI (cu + k)).toNatClampNeg) (I a k)) 152 56), .ref 152])) (h' := (G, (vm_up (vm_up (vm_wq I 189 (fun y => I a (y - cu)) cu k) 152 56 (nI (cu + k))) 189 ((nI (cu + k)).toNatClampNeg) (I a k)), F)) (hs' := []) rfl (vm_b2 (vm_b2 (vm_hG hR.c189) (vm_in_e (j := cu + k) (n := 2560) rfl (by omega) (by omega))) (vm_b2 rfl (vm_b2 rfl (vm_b2 rfl (vm_b2 (vm_b2 (vm_hG hR.c152) rfl) rfl))))) ?_
      rw [vm_ix_e (j := cu + k) rfl (by omega)]
      rw [((Eq.trans (congrFun (vm_up_f _ 189 _ _ 152 (by decide)) 56) (vm_up_h _ 152 56 _)) : (vm_up (vm_up (vm_wq I 189 (fun y => I a (y - cu)) cu k) 152 56 (nI (cu + k))) 189 ((cu + k)) (I a k)) 152 56 = nI (cu + k))]
      refine vm_J.go vm_q273 (k := 2) (hs := []) (f' := (48, (0, 0), [.ref 152, .ref a, .int (nI n), .int (nI k)], [.int ((nI (cu + k)) + 1), .ref 152])) (h' := (G, (vm_up (vm_up (vm_wq I 189 (fun y => I a (y - cu)) cu k) 152 56 (nI (cu + k))) 189 ((cu + k)) (I a k)), F)) (hs' := []) rfl rfl ?_
      rw [((vm_pa (rfl : (nI (cu + k) : Int32) = nI (cu + k)) (rfl : (1 : Int32) = nI 1)) : (nI (cu + k)) + 1 = nI ((cu + k) + 1))]
      refine vm_J.go vm_q273 (k := 3) (hs := [vm_shR]) (f' := (2, (0, 0), [.ref 152, .ref a, .int (nI n), .int ((nI k) + 1)], [])) (h' := (G, (vm_up (vm_up (vm_up (vm_wq I 189 (fun y => I a (y - cu)) cu k) 152 56 (nI (cu + k))) 189 ((cu + k)) (I a k)) 152 56 (nI ((cu + k) + 1))), F)) (hs' := []) rfl (vm_b2 (vm_b2 (vm_b2 (vm_hG hR.c152) rfl) rfl) (vm_b2 rfl (vm_b2 rfl rfl))) ?_
      rw [((vm_pa (rfl : nI k = nI k) (rfl : (1 : Int32) = nI 1)) : (nI k) + 1 = nI (k + 1))]
      rw [vm_up_sw _ 152 56 _ 189 _ _ (by decide), vm_up_up]
      have z := ik trivial
      rw [← vm_wq_s, Nat.add_sub_cancel_left] at z
      exact z
  · show vm_J _ _ _ (2, (0, 0), [.ref 152, .ref a, .int (nI n), .int (nI n)], []) (G, (vm_up (vm_wq I 189 (fun y => I a (y - cu)) cu n) 152 56 (nI (cu + n))), F) _ _
    refine vm_J.go vm_q273 (k := 3) (hs := []) (f' := (bif vm_ic .ge (nI n) (nI n) then 57 else 7, (0, 0), [.ref 152, .ref a, .int (nI n), .int (nI n)], [])) (h' := (G, (vm_up (vm_wq I 189 (fun y => I a (y - cu)) cu n) 152 56 (nI (cu + n))), F)) (hs' := []) rfl rfl ?_
    refine vm_J.br (fun c2 => ?_) (fun c2 => ?_)
    · have c2 := vm_ge_t (a := n) (b := n) (by omega) (by omega) c2
      exact vm_J.end vm_q273 (en := (57, .return_, 1, [], .null)) rfl rfl vm_rV (Nat.zero_le _) (Nat.zero_le _) rfl
    · have c2 := vm_ge_f (a := n) (b := n) (by omega) (by omega) c2
      exact (show False by omega).elim
set_option maxHeartbeats 4000000 in
set_option maxRecDepth 20000 in
/-- DitherDeskModel.passes -/
theorem r_passes_0 {l : Launch} {X : vm_Cx} {G : List vm_Sh} {I : Nat → Nat → Int32} {F : Nat → Nat → UInt32} {a : Nat} {N : Nat} {n : Nat} {cu : Nat} (hR : vm_isR G) (ha : G[a]? = some (0, N, [])) (hcu : I 152 56 = nI cu) (hn : n ≤ N) (hN : N ≤ 600) (hc : cu + n ≤ 2560) (h1 : a ≠ 152) (h2 : a ≠ 189) (hkk : I 152 55 = 0) : vm_K l X vm_M273 [.ref 152, .ref a, .int (nI n)] (G, I, F) (none) (G, (vm_up (vm_wr I a (fun y => I 189 (cu + y)) n) 152 56 (nI (cu + n))), F) := by
  refine vm_K.mk (by decide) (Nat.le_of_ble_eq_true rfl) ?_
  show vm_J _ _ _ (0, (0, 0), [.ref 152, .ref a, .int (nI n), .retAddr 0], []) _ _ _
  refine vm_J.go vm_q273 (k := 2) (hs := []) (f' := (2, (0, 0), [.ref 152, .ref a, .int (nI n), .int 0], [])) (h' := (G, I, F)) (hs' := []) rfl rfl ?_
  refine vm_J.cnt n (fun k => (2, (0, 0), [.ref 152, .ref a, .int (nI n), .int (nI k)], [])) (fun k => (G, (vm_up (vm_wr I a (fun y => I 189 (cu + y)) k) 152 56 (nI (cu + k))), F)) (fun _ => True) rfl (by rw [← vm_wr_0, Nat.add_zero, vm_up_self _ _ _ hcu]) trivial (fun k hk pk ik => ?_) (fun pk => ?_)
  · show vm_J _ _ _ (2, (0, 0), [.ref 152, .ref a, .int (nI n), .int (nI k)], []) (G, (vm_up (vm_wr I a (fun y => I 189 (cu + y)) k) 152 56 (nI (cu + k))), F) _ _
    refine vm_J.go vm_q273 (k := 3) (hs := []) (f' := (bif vm_ic .ge (nI k) (nI n) then 57 else 7, (0, 0), [.ref 152, .ref a, .int (nI n), .int (nI k)], [])) (h' := (G, (vm_up (vm_wr I a (fun y => I 189 (cu + y)) k) 152 56 (nI (cu + k))), F)) (hs' := []) rfl rfl ?_
    refine vm_J.br (fun c1 => ?_) (fun c1 => ?_)
    · have c1 := vm_ge_t (a := k) (b := n) (by omega) (by omega) c1
      exact (show False by omega).elim
    · have c1 := vm_ge_f (a := k) (b := n) (by omega) (by omega) c1
      refine vm_J.go vm_q273 (k := 2) (hs := [vm_shR]) (f' := (11, (0, 0), [.ref 152, .ref a, .int (nI n), .int (nI k)], [.int ((vm_up (vm_wr I a (fun y => I 189 (cu + y)) k) 152 56 (nI (cu + k))) 152 55)])) (h' := (G, (vm_up (vm_wr I a (fun y => I 189 (cu + y)) k) 152 56 (nI (cu + k))), F)) (hs' := []) rfl (vm_b2 rfl (vm_b2 (vm_b2 (vm_hG hR.c152) rfl) rfl)) ?_
      rw [((Eq.trans (vm_up_k2 _ 152 56 _ 55 (by decide)) (Eq.trans (congrFun (vm_wr_o _ a k 152 _ (Ne.symm h1)) 55) hkk)) : (vm_up (vm_wr I a (fun y => I 189 (cu + y)) k) 152 56 (nI (cu + k))) 152 55 = 0)]
      refine vm_J.go vm_q273 (k := 1) (hs := []) (f' := (bif vm_ic .eq 0 0 then 29 else 14, (0, 0), [.ref 152, .ref a, .int (nI n), .int (nI k)], [])) (h' := (G, (vm_up (vm_wr I a (fun y => I 189 (cu + y)) k) 152 56 (nI (cu + k))), F)) (hs' := []) rfl rfl ?_
      refine vm_J.bT (by decide) ?_
      refine vm_J.go vm_q273 (k := 6) (hs := [vm_shR, vm_shR]) (f' := (39, (0, 0), [.ref 152, .ref a, .int (nI n), .int (nI k)], [.int ((vm_up (vm_wr I a (fun y => I 189 (cu + y)) k) 152 56 (nI (cu + k))) 152 56), .ref 189, .int (nI k), .ref a])) (h' := (G, (vm_up (vm_wr I a (fun y => I 189 (cu + y)) k) 152 56 (nI (cu + k))), F)) (hs' := []) rfl (vm_b2 rfl (vm_b2 rfl (vm_b2 rfl (vm_b2 (vm_b2 (vm_hG hR.c152) rfl) (vm_b2 rfl (vm_b2 (vm_b2 (vm_hG hR.c152) rfl) rfl)))))) ?_
      rw [((vm_up_h _ 152 56 _) : (vm_up (vm_wr I a (fun y => I 189 (cu + y)) k) 152 56 (nI (cu + k))) 152 56 = nI (cu + k))]
      refine vm_J.go vm_q273 (k := 1) (hs := [(0, 2560, [])]) (f' := (40, (0, 0), [.ref 152, .ref a, .int (nI n), .int (nI k)], [.int ((vm_up (vm_wr I a (fun y => I 189 (cu + y)) k) 152 56 (nI (cu + k))) 189 (nI (cu + k)).toNatClampNeg), .int (nI k), .ref a])) (h' := (G, (vm_up (vm_wr I a (fun y => I 189 (cu + y)) k) 152 56 (nI (cu + k))), F)) (hs' := []) rfl (vm_b2 (vm_b2 (vm_hG hR.c189) (vm_in_e (j := cu + k) (n := 2560) rfl (by omega) (by omega))) rfl) ?_
      rw [vm_ix_e (j := cu + k) rfl (by omega)]
      rw [((Eq.trans (congrFun (vm_up_f _ 152 _ _ 189 (by decide)) (cu + k)) (congrFun (vm_wr_o _ a k 189 _ (Ne.symm h2)) (cu + k))) : (vm_up (vm_wr I a (fun y => I 189 (cu + y)) k) 152 56 (nI (cu + k))) 189 (cu + k) = I 189 (cu + k))]
      refine vm_J.go vm_q273 (k := 4) (hs := [(0, N, []), vm_shR]) (f' := (46, (0, 0), [.ref 152, .ref a, .int (nI n), .int (nI k)], [.int ((vm_up (vm_up (vm_wr I a (fun y => I 189 (cu + y)) k) 152 56 (nI (cu + k))) a ((nI k).toNatClampNeg) (I 189 (cu + k))) 152 56), .ref 152])) (h' := (G, (vm_up (vm_up (vm_wr I a (fun y => I 189 (cu + y)) k) 152 56 (nI (cu + k))) a ((nI k).toNatClampNeg) (I 189 (cu + k))), F)) (hs' := []) rfl (vm_b2 (vm_b2 (vm_hG ha) (vm_in_e (j := k) (n := N) rfl (by omega) (by omega))) (vm_b2 rfl (vm_b2 rfl (vm_b2 (vm_b2 (vm_hG hR.c152) rfl) rfl)))) ?_
      rw [vm_ix_e (j := k) rfl (by omega)]
      rw [((Eq.trans (congrFun (vm_up_f _ a _ _ 152 (Ne.symm h1)) 56) (vm_up_h _ 152 56 _)) : (vm_up (vm_up (vm_wr I a (fun y => I 189 (cu + y)) k) 152 56 (nI (cu + k))) a (k) (I 189 (cu + k))) 152 56 = nI (cu + k))]
      refine vm_J.go vm_q273 (k := 2) (hs := []) (f' := (48, (0, 0), [.ref 152, .ref a, .int (nI n), .int (nI k)], [.int ((nI (cu + k)) + 1), .ref 152])) (h' := (G, (vm_up (vm_up (vm_wr I a (fun y => I 189 (cu + y)) k) 152 56 (nI (cu + k))) a (k) (I 189 (cu + k))), F)) (hs' := []) rfl rfl ?_
      rw [((vm_pa (rfl : (nI (cu + k) : Int32) = nI (cu + k)) (rfl : (1 : Int32) = nI 1)) : (nI (cu + k)) + 1 = nI ((cu + k) + 1))]
      refine vm_J.go vm_q273 (k := 3) (hs := [vm_shR]) (f' := (2, (0, 0), [.ref 152, .ref a, .int (nI n), .int ((nI k) + 1)], [])) (h' := (G, (vm_up (vm_up (vm_up (vm_wr I a (fun y => I 189 (cu + y)) k) 152 56 (nI (cu + k))) a (k) (I 189 (cu + k))) 152 56 (nI ((cu + k) + 1))), F)) (hs' := []) rfl (vm_b2 (vm_b2 (vm_b2 (vm_hG hR.c152) rfl) rfl) (vm_b2 rfl (vm_b2 rfl rfl))) ?_
      rw [((vm_pa (rfl : nI k = nI k) (rfl : (1 : Int32) = nI 1)) : (nI k) + 1 = nI (k + 1))]
      rw [vm_up_sw _ 152 56 _ a _ _ h1, vm_up_up]
      have z := ik trivial
      rw [← vm_wr_s] at z
      exact z
  · show vm_J _ _ _ (2, (0, 0), [.ref 152, .ref a, .int (nI n), .int (nI n)], []) (G, (vm_up (vm_wr I a (fun y => I 189 (cu + y)) n) 152 56 (nI (cu + n))), F) _ _
    refine vm_J.go vm_q273 (k := 3) (hs := []) (f' := (bif vm_ic .ge (nI n) (nI n) then 57 else 7, (0, 0), [.ref 152, .ref a, .int (nI n), .int (nI n)], [])) (h' := (G, (vm_up (vm_wr I a (fun y => I 189 (cu + y)) n) 152 56 (nI (cu + n))), F)) (hs' := []) rfl rfl ?_
    refine vm_J.br (fun c2 => ?_) (fun c2 => ?_)
    · have c2 := vm_ge_t (a := n) (b := n) (by omega) (by omega) c2
      exact vm_J.end vm_q273 (en := (57, .return_, 1, [], .null)) rfl rfl vm_rV (Nat.zero_le _) (Nat.zero_le _) rfl
    · have c2 := vm_ge_f (a := n) (b := n) (by omega) (by omega) c2
      exact (show False by omega).elim
set_option maxHeartbeats 4000000 in
set_option maxRecDepth 20000 in
/-- DitherDeskModel.passOne -/
theorem r_passOne_1 {l : Launch} {X : vm_Cx} {G : List vm_Sh} {I : Nat → Nat → Int32} {F : Nat → Nat → UInt32} {v : Int32} {cu : Nat} (hR : vm_isR G) (hcu : I 152 56 = nI cu) (hc : cu < 2560) (hkk : I 152 55 = 1) : vm_K l X vm_M274 [.ref 152, .int v] (G, I, F) (some (.int v)) (G, (vm_up (vm_up I 189 cu v) 152 56 (nI (cu + 1))), F) := by
  refine vm_K.mk (by decide) (Nat.le_of_ble_eq_true rfl) ?_
  show vm_J _ _ _ (0, (0, 0), [.ref 152, .int v, .retAddr 0], []) _ _ _
  refine vm_J.go vm_q274 (k := 2) (hs := [vm_shR]) (f' := (4, (0, 0), [.ref 152, .int v, .retAddr 0], [.int (I 152 55)])) (h' := (G, I, F)) (hs' := []) rfl (vm_b2 rfl (vm_b2 (vm_b2 (vm_hG hR.c152) rfl) rfl)) ?_
  rw [(hkk : I 152 55 = 1)]
  refine vm_J.go vm_q274 (k := 1) (hs := []) (f' := (bif vm_ic .eq 1 0 then 11 else 7, (0, 0), [.ref 152, .int v, .retAddr 0], [])) (h' := (G, I, F)) (hs' := []) rfl rfl ?_
  refine vm_J.bF (by decide) ?_
  refine vm_J.go vm_q274 (k := 5) (hs := [vm_shR]) (f' := (25, (0, 0), [.ref 152, .int v, .int v], [.int (I 152 55)])) (h' := (G, I, F)) (hs' := []) rfl (vm_b2 rfl (vm_b2 rfl (vm_b2 rfl (vm_b2 rfl (vm_b2 (vm_b2 (vm_hG hR.c152) rfl) rfl))))) ?_
  rw [(hkk : I 152 55 = 1)]
  refine vm_J.go vm_q274 (k := 1) (hs := []) (f' := (bif vm_ic .eq 1 0 then 38 else 28, (0, 0), [.ref 152, .int v, .int v], [])) (h' := (G, I, F)) (hs' := []) rfl rfl ?_
  refine vm_J.bF (by decide) ?_
  refine vm_J.go vm_q274 (k := 4) (hs := [vm_shR, vm_shR]) (f' := (36, (0, 0), [.ref 152, .int v, .int v], [.int (I 152 56), .ref 189])) (h' := (G, I, F)) (hs' := []) rfl (vm_b2 rfl (vm_b2 (vm_b2 (vm_hG hR.c152) rfl) (vm_b2 rfl (vm_b2 (vm_b2 (vm_hG hR.c152) rfl) rfl)))) ?_
  rw [(hcu : I 152 56 = nI cu)]
  refine vm_J.go vm_q274 (k := 5) (hs := [(0, 2560, []), vm_shR]) (f' := (43, (0, 0), [.ref 152, .int v, .int v], [.int ((vm_up I 189 ((nI cu).toNatClampNeg) v) 152 56), .ref 152])) (h' := (G, (vm_up I 189 ((nI cu).toNatClampNeg) v), F)) (hs' := []) rfl (vm_b2 rfl (vm_b2 (vm_b2 (vm_hG hR.c189) (vm_in_e (j := cu) (n := 2560) rfl (by omega) (by omega))) (vm_b2 rfl (vm_b2 rfl (vm_b2 (vm_b2 (vm_hG hR.c152) rfl) rfl))))) ?_
  rw [vm_ix_e (j := cu) rfl (by omega)]
  rw [((Eq.trans (congrFun (vm_up_f _ 189 _ _ 152 (by decide)) 56) hcu) : (vm_up I 189 (cu) v) 152 56 = nI cu)]
  refine vm_J.go vm_q274 (k := 2) (hs := []) (f' := (45, (0, 0), [.ref 152, .int v, .int v], [.int ((nI cu) + 1), .ref 152])) (h' := (G, (vm_up I 189 (cu) v), F)) (hs' := []) rfl rfl ?_
  rw [((vm_pa (rfl : (nI cu : Int32) = nI cu) (rfl : (1 : Int32) = nI 1)) : (nI cu) + 1 = nI (cu + 1))]
  refine vm_J.go vm_q274 (k := 2) (hs := [vm_shR]) (f' := (49, (0, 0), [.ref 152, .int v, .int v], [.int v])) (h' := (G, (vm_up (vm_up I 189 (cu) v) 152 56 (nI (cu + 1))), F)) (hs' := []) rfl (vm_b2 (vm_b2 (vm_b2 (vm_hG hR.c152) rfl) rfl) (vm_b2 rfl rfl)) ?_
  exact vm_J.end vm_q274 (en := (49, .ireturn, 1, [], .null)) rfl rfl vm_rI (Nat.zero_le _) (Nat.zero_le _) rfl
set_option maxHeartbeats 4000000 in
set_option maxRecDepth 20000 in
/-- DitherDeskModel.passOne -/
theorem r_passOne_0 {l : Launch} {X : vm_Cx} {G : List vm_Sh} {I : Nat → Nat → Int32} {F : Nat → Nat → UInt32} {v : Int32} {cu : Nat} (hR : vm_isR G) (hcu : I 152 56 = nI cu) (hc : cu < 2560) (hkk : I 152 55 = 0) : vm_K l X vm_M274 [.ref 152, .int v] (G, I, F) (some (.int (I 189 cu))) (G, (vm_up I 152 56 (nI (cu + 1))), F) := by
  refine vm_K.mk (by decide) (Nat.le_of_ble_eq_true rfl) ?_
  show vm_J _ _ _ (0, (0, 0), [.ref 152, .int v, .retAddr 0], []) _ _ _
  refine vm_J.go vm_q274 (k := 2) (hs := [vm_shR]) (f' := (4, (0, 0), [.ref 152, .int v, .retAddr 0], [.int (I 152 55)])) (h' := (G, I, F)) (hs' := []) rfl (vm_b2 rfl (vm_b2 (vm_b2 (vm_hG hR.c152) rfl) rfl)) ?_
  rw [(hkk : I 152 55 = 0)]
  refine vm_J.go vm_q274 (k := 1) (hs := []) (f' := (bif vm_ic .eq 0 0 then 11 else 7, (0, 0), [.ref 152, .int v, .retAddr 0], [])) (h' := (G, I, F)) (hs' := []) rfl rfl ?_
  refine vm_J.bT (by decide) ?_
  refine vm_J.go vm_q274 (k := 4) (hs := [vm_shR, vm_shR]) (f' := (19, (0, 0), [.ref 152, .int v, .retAddr 0], [.int (I 152 56), .ref 189])) (h' := (G, I, F)) (hs' := []) rfl (vm_b2 rfl (vm_b2 (vm_b2 (vm_hG hR.c152) rfl) (vm_b2 rfl (vm_b2 (vm_b2 (vm_hG hR.c152) rfl) rfl)))) ?_
  rw [(hcu : I 152 56 = nI cu)]
  refine vm_J.go vm_q274 (k := 4) (hs := [(0, 2560, []), vm_shR]) (f' := (25, (0, 0), [.ref 152, .int v, .int (I 189 (nI cu).toNatClampNeg)], [.int (I 152 55)])) (h' := (G, I, F)) (hs' := []) rfl (vm_b2 (vm_b2 (vm_hG hR.c189) (vm_in_e (j := cu) (n := 2560) rfl (by omega) (by omega))) (vm_b2 rfl (vm_b2 rfl (vm_b2 (vm_b2 (vm_hG hR.c152) rfl) rfl)))) ?_
  rw [vm_ix_e (j := cu) rfl (by omega)]
  rw [(hkk : I 152 55 = 0)]
  refine vm_J.go vm_q274 (k := 1) (hs := []) (f' := (bif vm_ic .eq 0 0 then 38 else 28, (0, 0), [.ref 152, .int v, .int (I 189 cu)], [])) (h' := (G, I, F)) (hs' := []) rfl rfl ?_
  refine vm_J.bT (by decide) ?_
  refine vm_J.go vm_q274 (k := 3) (hs := [vm_shR]) (f' := (43, (0, 0), [.ref 152, .int v, .int (I 189 cu)], [.int (I 152 56), .ref 152])) (h' := (G, I, F)) (hs' := []) rfl (vm_b2 rfl (vm_b2 rfl (vm_b2 (vm_b2 (vm_hG hR.c152) rfl) rfl))) ?_
  rw [(hcu : I 152 56 = nI cu)]
  refine vm_J.go vm_q274 (k := 2) (hs := []) (f' := (45, (0, 0), [.ref 152, .int v, .int (I 189 cu)], [.int ((nI cu) + 1), .ref 152])) (h' := (G, I, F)) (hs' := []) rfl rfl ?_
  rw [((vm_pa (rfl : (nI cu : Int32) = nI cu) (rfl : (1 : Int32) = nI 1)) : (nI cu) + 1 = nI (cu + 1))]
  refine vm_J.go vm_q274 (k := 2) (hs := [vm_shR]) (f' := (49, (0, 0), [.ref 152, .int v, .int (I 189 cu)], [.int (I 189 cu)])) (h' := (G, (vm_up I 152 56 (nI (cu + 1))), F)) (hs' := []) rfl (vm_b2 (vm_b2 (vm_b2 (vm_hG hR.c152) rfl) rfl) (vm_b2 rfl rfl)) ?_
  exact vm_J.end vm_q274 (en := (49, .ireturn, 1, [], .null)) rfl rfl vm_rI (Nat.zero_le _) (Nat.zero_le _) rfl
