theorem r_farFrom_m {l : Launch} {X : vm_Cx} {G : List vm_Sh} {I : Nat → Nat → Int32} {F : Nat → Nat → UInt32} {x y m : Int32} (hR : vm_isR G) (hz : I 152 6 = m) (hm : m = 0 ∨ m = 1 ∨ m = 2 ∨ m = 3) : vm_K l X vm_M231 [.ref 152, .int x, .int y] (G, I, F) (some (.int (sp_far m x y))) (G, I, F) := by
  subst hz
  exact r_farFrom hR hm
/-- the nearest of the first n and one -/
def sp_nn (f : Nat → Int32) : Nat → Nat
  | 0 => 0
  | j + 1 => if f (j + 1) < f (sp_nn f j) then j + 1 else sp_nn f j
theorem sp_nn_y {f : Nat → Int32} {j : Nat} (h : f (j + 1) < f (sp_nn f j)) : sp_nn f (j + 1) = j + 1 := if_pos h
theorem sp_nn_n {f : Nat → Int32} {j : Nat} (h : ¬ f (j + 1) < f (sp_nn f j)) : sp_nn f (j + 1) = sp_nn f j := if_neg h
theorem sp_nn_le (f : Nat → Int32) : ∀ j, sp_nn f j ≤ j
  | 0 => Nat.le_refl 0
  | j + 1 => by
    have ih := sp_nn_le f j
    unfold sp_nn
    split <;> omega
set_option maxHeartbeats 4000000 in
set_option maxRecDepth 20000 in
/-- DitherDeskModel.nearestOf -/
theorem r_near {l : Launch} {X : vm_Cx} {G : List vm_Sh} {I : Nat → Nat → Int32} {F : Nat → Nat → UInt32} {p : Nat} {n : Nat} {c : Int32} {m : Int32} (hR : vm_isR G) (hn : I 156 p = nI n) (hp : p < 4) (hn2 : n ≤ 16) (hn0 : 0 < n) (hz : I 152 6 = m) (hm : m = 0 ∨ m = 1 ∨ m = 2 ∨ m = 3) : vm_K l X vm_M232 [.ref 152, .int (nI p), .int c] (G, I, F) (some (.int (nI (sp_nn (fun z => sp_far m (I 157 (16 * p + z)) c) (n - 1))))) (G, I, F) := by
  refine vm_K.mk (by decide) (Nat.le_of_ble_eq_true rfl) ?_
  show vm_J _ _ _ (0, (0, 0), [.ref 152, .int (nI p), .int c, .retAddr 0, .retAddr 0, .retAddr 0, .retAddr 0], []) _ _ _
  refine vm_J.go vm_q232 (k := 10) (hs := [vm_shR, (0, 64, [])]) (f' := (13, (0, 0), [.ref 152, .int (nI p), .int c, .int 0, .retAddr 0, .retAddr 0, .retAddr 0], [.int c, .int (I 157 (16 * (nI p)).toNatClampNeg), .ref 152])) (h' := (G, I, F)) (hs' := []) rfl (vm_b2 rfl (vm_b2 rfl (vm_b2 rfl (vm_b2 rfl (vm_b2 (vm_b2 (vm_hG hR.c152) rfl) (vm_b2 rfl (vm_b2 rfl (vm_b2 rfl (vm_b2 (vm_b2 (vm_hG hR.c157) (vm_in_e (j := 16 * p) (n := 64) (vm_pm (rfl : (16 : Int32) = nI 16) (rfl : (nI p : Int32) = nI p)) (by omega) (by omega))) (vm_b2 rfl rfl)))))))))) ?_
  rw [vm_ix_e (j := 16 * p) (vm_pm (rfl : (16 : Int32) = nI 16) (rfl : (nI p : Int32) = nI p)) (by omega)]
  refine vm_J.call vm_q232 (Z := vm_M231) (n := 2) (k := 0) (mi := 231) (pc := 13) (en := (13, .invokevirtual 316, 3, [231, 1544, 0], .null)) rfl trivial rfl rfl vm_z231 (av := [.ref 152, .int (I 157 (16 * p)), .int c]) (rest := []) (r_farFrom_m (x := I 157 (16 * p)) (y := c) (m := m) hR hz hm) ⟨_, _, rfl, rfl, _, 11, _, hR.c152, rfl, rfl, rfl⟩ (Nat.le_of_ble_eq_true rfl) ⟨Nat.le_of_ble_eq_true rfl, Nat.le_of_ble_eq_true rfl⟩ ⟨Nat.le_of_ble_eq_true rfl, Nat.le_of_ble_eq_true rfl⟩ ?_
  show vm_J _ _ _ (16, (0, 0), [.ref 152, .int (nI p), .int c, .int 0, .retAddr 0, .retAddr 0, .retAddr 0], [.int (sp_far m (I 157 (16 * p)) c)]) (G, I, F) _ _
  refine vm_J.go vm_q232 (k := 3) (hs := []) (f' := (21, (0, 0), [.ref 152, .int (nI p), .int c, .int 0, .int (sp_far m (I 157 (16 * p)) c), .int 1, .retAddr 0], [])) (h' := (G, I, F)) (hs' := []) rfl rfl ?_
  refine vm_J.cnt (n - 1) (fun j => (21, (0, 0), [.ref 152, .int (nI p), .int c, .int (nI (sp_nn (fun z => sp_far m (I 157 (16 * p + z)) c) j)), .int (sp_far m (I 157 (16 * p + sp_nn (fun z => sp_far m (I 157 (16 * p + z)) c) j)) c), .int (nI (j + 1)), .retAddr 0], [])) (fun j => (G, I, F)) (fun _ => True) rfl rfl trivial (fun j hj pj ij => ?_) (fun pj => ?_)
  · show vm_J _ _ _ (21, (0, 0), [.ref 152, .int (nI p), .int c, .int (nI (sp_nn (fun z => sp_far m (I 157 (16 * p + z)) c) j)), .int (sp_far m (I 157 (16 * p + sp_nn (fun z => sp_far m (I 157 (16 * p + z)) c) j)) c), .int (nI (j + 1)), .retAddr 0], []) (G, I, F) _ _
    refine vm_J.go vm_q232 (k := 5) (hs := [vm_shR, (0, 4, [])]) (f' := (29, (0, 0), [.ref 152, .int (nI p), .int c, .int (nI (sp_nn (fun z => sp_far m (I 157 (16 * p + z)) c) j)), .int (sp_far m (I 157 (16 * p + sp_nn (fun z => sp_far m (I 157 (16 * p + z)) c) j)) c), .int (nI (j + 1)), .retAddr 0], [.int (I 156 (nI p).toNatClampNeg), .int (nI (j + 1))])) (h' := (G, I, F)) (hs' := []) rfl (vm_b2 rfl (vm_b2 rfl (vm_b2 (vm_b2 (vm_hG hR.c152) rfl) (vm_b2 rfl (vm_b2 (vm_b2 (vm_hG hR.c156) (vm_in_e (j := p) (n := 4) rfl (by omega) (by omega))) rfl))))) ?_
    rw [vm_ix_e (j := p) rfl (by omega)]
    rw [(hn : I 156 p = nI n)]
    refine vm_J.go vm_q232 (k := 1) (hs := []) (f' := (bif vm_ic .ge (nI (j + 1)) (nI n) then 74 else 32, (0, 0), [.ref 152, .int (nI p), .int c, .int (nI (sp_nn (fun z => sp_far m (I 157 (16 * p + z)) c) j)), .int (sp_far m (I 157 (16 * p + sp_nn (fun z => sp_far m (I 157 (16 * p + z)) c) j)) c), .int (nI (j + 1)), .retAddr 0], [])) (h' := (G, I, F)) (hs' := []) rfl rfl ?_
    refine vm_J.br (fun c1 => ?_) (fun c1 => ?_)
    · have c1 := vm_ge_t (a := j + 1) (b := n) (by omega) (by omega) c1
      exact (show False by omega).elim
    · have c1 := vm_ge_f (a := j + 1) (b := n) (by omega) (by omega) c1
      refine vm_J.go vm_q232 (k := 10) (hs := [vm_shR, (0, 64, [])]) (f' := (46, (0, 0), [.ref 152, .int (nI p), .int c, .int (nI (sp_nn (fun z => sp_far m (I 157 (16 * p + z)) c) j)), .int (sp_far m (I 157 (16 * p + sp_nn (fun z => sp_far m (I 157 (16 * p + z)) c) j)) c), .int (nI (j + 1)), .retAddr 0], [.int c, .int (I 157 ((16 * (nI p)) + (nI (j + 1))).toNatClampNeg), .ref 152])) (h' := (G, I, F)) (hs' := []) rfl (vm_b2 rfl (vm_b2 rfl (vm_b2 (vm_b2 (vm_hG hR.c152) rfl) (vm_b2 rfl (vm_b2 rfl (vm_b2 rfl (vm_b2 rfl (vm_b2 rfl (vm_b2 (vm_b2 (vm_hG hR.c157) (vm_in_e (j := (16 * p) + (j + 1)) (n := 64) (vm_pa (vm_pm (rfl : (16 : Int32) = nI 16) (rfl : (nI p : Int32) = nI p)) (rfl : (nI (j + 1) : Int32) = nI (j + 1))) (by omega) (by omega))) (vm_b2 rfl rfl)))))))))) ?_
      rw [vm_ix_e (j := (16 * p) + (j + 1)) (vm_pa (vm_pm (rfl : (16 : Int32) = nI 16) (rfl : (nI p : Int32) = nI p)) (rfl : (nI (j + 1) : Int32) = nI (j + 1))) (by omega)]
      refine vm_J.call vm_q232 (Z := vm_M231) (n := 2) (k := 0) (mi := 231) (pc := 46) (en := (46, .invokevirtual 316, 3, [231, 1544, 0], .null)) rfl trivial rfl rfl vm_z231 (av := [.ref 152, .int (I 157 ((16 * p) + (j + 1))), .int c]) (rest := []) (r_farFrom_m (x := I 157 ((16 * p) + (j + 1))) (y := c) (m := m) hR hz hm) ⟨_, _, rfl, rfl, _, 11, _, hR.c152, rfl, rfl, rfl⟩ (Nat.le_of_ble_eq_true rfl) ⟨Nat.le_of_ble_eq_true rfl, Nat.le_of_ble_eq_true rfl⟩ ⟨Nat.le_of_ble_eq_true rfl, Nat.le_of_ble_eq_true rfl⟩ ?_
      show vm_J _ _ _ (49, (0, 0), [.ref 152, .int (nI p), .int c, .int (nI (sp_nn (fun z => sp_far m (I 157 (16 * p + z)) c) j)), .int (sp_far m (I 157 (16 * p + sp_nn (fun z => sp_far m (I 157 (16 * p + z)) c) j)) c), .int (nI (j + 1)), .retAddr 0], [.int (sp_far m (I 157 ((16 * p) + (j + 1))) c)]) (G, I, F) _ _
      refine vm_J.go vm_q232 (k := 4) (hs := []) (f' := (bif vm_ic .lt (sp_far m (I 157 ((16 * p) + (j + 1))) c) (sp_far m (I 157 (16 * p + sp_nn (fun z => sp_far m (I 157 (16 * p + z)) c) j)) c) then 61 else 58, (0, 0), [.ref 152, .int (nI p), .int c, .int (nI (sp_nn (fun z => sp_far m (I 157 (16 * p + z)) c) j)), .int (sp_far m (I 157 (16 * p + sp_nn (fun z => sp_far m (I 157 (16 * p + z)) c) j)) c), .int (nI (j + 1)), .int (sp_far m (I 157 ((16 * p) + (j + 1))) c)], [])) (h' := (G, I, F)) (hs' := []) rfl rfl ?_
      refine vm_J.br (fun c2 => ?_) (fun c2 => ?_)
      · have c2 : (sp_far m (I 157 ((16 * p) + (j + 1))) c) < (sp_far m (I 157 (16 * p + sp_nn (fun z => sp_far m (I 157 (16 * p + z)) c) j)) c) := of_decide_eq_true c2
        refine vm_J.go vm_q232 (k := 6) (hs := []) (f' := (21, (0, 0), [.ref 152, .int (nI p), .int c, .int (nI (j + 1)), .int (sp_far m (I 157 ((16 * p) + (j + 1))) c), .int ((nI (j + 1)) + 1), .int (sp_far m (I 157 ((16 * p) + (j + 1))) c)], [])) (h' := (G, I, F)) (hs' := []) rfl rfl ?_
        rw [((vm_pa (rfl : nI (j + 1) = nI (j + 1)) (rfl : (1 : Int32) = nI 1)) : (nI (j + 1)) + 1 = nI (j + 1 + 1))]
        refine vm_J.mask [true, true, true, true, true, true, false] ?_
        show vm_J _ _ _ (21, (0, 0), [.ref 152, .int (nI p), .int c, .int (nI (j + 1)), .int (sp_far m (I 157 ((16 * p) + (j + 1))) c), .int (nI (j + 1 + 1)), .retAddr 0], []) (G, I, F) _ _
        have z := ij trivial
        rw [sp_nn_y (f := (fun z => sp_far m (I 157 (16 * p + z)) c)) c2] at z
        exact z
      · have c2 : ¬ ((sp_far m (I 157 ((16 * p) + (j + 1))) c) < (sp_far m (I 157 (16 * p + sp_nn (fun z => sp_far m (I 157 (16 * p + z)) c) j)) c)) := of_decide_eq_false c2
        refine vm_J.go vm_q232 (k := 3) (hs := []) (f' := (21, (0, 0), [.ref 152, .int (nI p), .int c, .int (nI (sp_nn (fun z => sp_far m (I 157 (16 * p + z)) c) j)), .int (sp_far m (I 157 (16 * p + sp_nn (fun z => sp_far m (I 157 (16 * p + z)) c) j)) c), .int ((nI (j + 1)) + 1), .int (sp_far m (I 157 ((16 * p) + (j + 1))) c)], [])) (h' := (G, I, F)) (hs' := []) rfl rfl ?_
        rw [((vm_pa (rfl : nI (j + 1) = nI (j + 1)) (rfl : (1 : Int32) = nI 1)) : (nI (j + 1)) + 1 = nI (j + 1 + 1))]
        refine vm_J.mask [true, true, true, true, true, true, false] ?_
        show vm_J _ _ _ (21, (0, 0), [.ref 152, .int (nI p), .int c, .int (nI (sp_nn (fun z => sp_far m (I 157 (16 * p + z)) c) j)), .int (sp_far m (I 157 (16 * p + sp_nn (fun z => sp_far m (I 157 (16 * p + z)) c) j)) c), .int (nI (j + 1 + 1)), .retAddr 0], []) (G, I, F) _ _
        have z := ij trivial
        rw [sp_nn_n (f := (fun z => sp_far m (I 157 (16 * p + z)) c)) c2] at z
        exact z
  · show vm_J _ _ _ (21, (0, 0), [.ref 152, .int (nI p), .int c, .int (nI (sp_nn (fun z => sp_far m (I 157 (16 * p + z)) c) (n - 1))), .int (sp_far m (I 157 (16 * p + sp_nn (fun z => sp_far m (I 157 (16 * p + z)) c) (n - 1))) c), .int (nI ((n - 1) + 1)), .retAddr 0], []) (G, I, F) _ _
    refine vm_J.go vm_q232 (k := 5) (hs := [vm_shR, (0, 4, [])]) (f' := (29, (0, 0), [.ref 152, .int (nI p), .int c, .int (nI (sp_nn (fun z => sp_far m (I 157 (16 * p + z)) c) (n - 1))), .int (sp_far m (I 157 (16 * p + sp_nn (fun z => sp_far m (I 157 (16 * p + z)) c) (n - 1))) c), .int (nI ((n - 1) + 1)), .retAddr 0], [.int (I 156 (nI p).toNatClampNeg), .int (nI ((n - 1) + 1))])) (h' := (G, I, F)) (hs' := []) rfl (vm_b2 rfl (vm_b2 rfl (vm_b2 (vm_b2 (vm_hG hR.c152) rfl) (vm_b2 rfl (vm_b2 (vm_b2 (vm_hG hR.c156) (vm_in_e (j := p) (n := 4) rfl (by omega) (by omega))) rfl))))) ?_
    rw [vm_ix_e (j := p) rfl (by omega)]
    rw [(hn : I 156 p = nI n)]
    refine vm_J.go vm_q232 (k := 1) (hs := []) (f' := (bif vm_ic .ge (nI ((n - 1) + 1)) (nI n) then 74 else 32, (0, 0), [.ref 152, .int (nI p), .int c, .int (nI (sp_nn (fun z => sp_far m (I 157 (16 * p + z)) c) (n - 1))), .int (sp_far m (I 157 (16 * p + sp_nn (fun z => sp_far m (I 157 (16 * p + z)) c) (n - 1))) c), .int (nI ((n - 1) + 1)), .retAddr 0], [])) (h' := (G, I, F)) (hs' := []) rfl rfl ?_
    refine vm_J.br (fun c3 => ?_) (fun c3 => ?_)
    · have c3 := vm_ge_t (a := (n - 1) + 1) (b := n) (by omega) (by omega) c3
      refine vm_J.go vm_q232 (k := 1) (hs := []) (f' := (75, (0, 0), [.ref 152, .int (nI p), .int c, .int (nI (sp_nn (fun z => sp_far m (I 157 (16 * p + z)) c) (n - 1))), .int (sp_far m (I 157 (16 * p + sp_nn (fun z => sp_far m (I 157 (16 * p + z)) c) (n - 1))) c), .int (nI ((n - 1) + 1)), .retAddr 0], [.int (nI (sp_nn (fun z => sp_far m (I 157 (16 * p + z)) c) (n - 1)))])) (h' := (G, I, F)) (hs' := []) rfl rfl ?_
      exact vm_J.end vm_q232 (en := (75, .ireturn, 1, [], .null)) rfl rfl vm_rI (Nat.zero_le _) (Nat.zero_le _) rfl
    · have c3 := vm_ge_f (a := (n - 1) + 1) (b := n) (by omega) (by omega) c3
      exact (show False by omega).elim
set_option maxHeartbeats 4000000 in
set_option maxRecDepth 20000 in
/-- DitherDeskModel.far -/
theorem r_far_y {l : Launch} {X : vm_Cx} {G : List vm_Sh} {I : Nat → Nat → Int32} {F : Nat → Nat → UInt32} {x : Int32} {y : Int32} {m : Int32} (hR : vm_isR G) (hz : I 152 6 = m) (hm : m = 0 ∨ m = 1 ∨ m = 2 ∨ m = 3) (hx : 0 ≤ x ∧ x ≤ 262143) (hy : 0 ≤ y ∧ y ≤ 262143) : vm_K l X vm_M234 [.ref 152, .int x, .int y] (G, I, F) (some (.int (sp_far m x y))) (G, I, F) := by
  refine vm_K.mk (by decide) (Nat.le_of_ble_eq_true rfl) ?_
  show vm_J _ _ _ (0, (0, 0), [.ref 152, .int x, .int y], []) _ _ _
  refine vm_J.go vm_q234 (k := 1) (hs := []) (f' := (1, (0, 0), [.ref 152, .int x, .int y], [.int x])) (h' := (G, I, F)) (hs' := []) rfl rfl ?_
  refine vm_J.call vm_q234 (Z := vm_M169) (n := 1) (k := 1) (mi := 169) (pc := 1) (en := (1, .invokestatic 162, 3, [169, 1321, 0], .null)) rfl trivial rfl rfl vm_z169 (av := [.int x]) (rest := []) (r_isColour_y (c := x) hx) rfl (Nat.le_of_ble_eq_true rfl) ⟨Nat.le_of_ble_eq_true rfl, Nat.le_of_ble_eq_true rfl⟩ ⟨Nat.le_of_ble_eq_true rfl, Nat.le_of_ble_eq_true rfl⟩ ?_
  show vm_J _ _ _ (4, (0, 0), [.ref 152, .int x, .int y], [.int 1]) (G, I, F) _ _
  refine vm_J.go vm_q234 (k := 1) (hs := []) (f' := (bif vm_ic .eq 1 0 then 23 else 7, (0, 0), [.ref 152, .int x, .int y], [])) (h' := (G, I, F)) (hs' := []) rfl rfl ?_
  refine vm_J.bF (by decide) ?_
  refine vm_J.go vm_q234 (k := 1) (hs := []) (f' := (8, (0, 0), [.ref 152, .int x, .int y], [.int y])) (h' := (G, I, F)) (hs' := []) rfl rfl ?_
  refine vm_J.call vm_q234 (Z := vm_M169) (n := 1) (k := 1) (mi := 169) (pc := 8) (en := (8, .invokestatic 162, 3, [169, 1321, 0], .null)) rfl trivial rfl rfl vm_z169 (av := [.int y]) (rest := []) (r_isColour_y (c := y) hy) rfl (Nat.le_of_ble_eq_true rfl) ⟨Nat.le_of_ble_eq_true rfl, Nat.le_of_ble_eq_true rfl⟩ ⟨Nat.le_of_ble_eq_true rfl, Nat.le_of_ble_eq_true rfl⟩ ?_
  show vm_J _ _ _ (11, (0, 0), [.ref 152, .int x, .int y], [.int 1]) (G, I, F) _ _
  refine vm_J.go vm_q234 (k := 1) (hs := []) (f' := (bif vm_ic .eq 1 0 then 23 else 14, (0, 0), [.ref 152, .int x, .int y], [])) (h' := (G, I, F)) (hs' := []) rfl rfl ?_
  refine vm_J.bF (by decide) ?_
  refine vm_J.go vm_q234 (k := 3) (hs := []) (f' := (17, (0, 0), [.ref 152, .int x, .int y], [.int y, .int x, .ref 152])) (h' := (G, I, F)) (hs' := []) rfl rfl ?_
  refine vm_J.call vm_q234 (Z := vm_M231) (n := 2) (k := 0) (mi := 231) (pc := 17) (en := (17, .invokevirtual 316, 3, [231, 1544, 0], .null)) rfl trivial rfl rfl vm_z231 (av := [.ref 152, .int x, .int y]) (rest := []) (r_farFrom_m (x := x) (y := y) (m := m) hR hz hm) ⟨_, _, rfl, rfl, _, 11, _, hR.c152, rfl, rfl, rfl⟩ (Nat.le_of_ble_eq_true rfl) ⟨Nat.le_of_ble_eq_true rfl, Nat.le_of_ble_eq_true rfl⟩ ⟨Nat.le_of_ble_eq_true rfl, Nat.le_of_ble_eq_true rfl⟩ ?_
  show vm_J _ _ _ (20, (0, 0), [.ref 152, .int x, .int y], [.int (sp_far m x y)]) (G, I, F) _ _
  refine vm_J.go vm_q234 (k := 1) (hs := []) (f' := (25, (0, 0), [.ref 152, .int x, .int y], [.int (sp_far m x y)])) (h' := (G, I, F)) (hs' := []) rfl rfl ?_
  exact vm_J.end vm_q234 (en := (25, .ireturn, 1, [], .null)) rfl rfl vm_rI (Nat.zero_le _) (Nat.zero_le _) rfl
set_option maxHeartbeats 4000000 in
set_option maxRecDepth 20000 in
/-- DitherDeskModel.far -/
theorem r_far_b1 {l : Launch} {X : vm_Cx} {G : List vm_Sh} {I : Nat → Nat → Int32} {F : Nat → Nat → UInt32} {x : Int32} {y : Int32} (hR : vm_isR G) (hx : ¬ (0 ≤ x ∧ x ≤ 262143)) : vm_K l X vm_M234 [.ref 152, .int x, .int y] (G, I, F) (some (.int (-2))) (G, I, F) := by
  refine vm_K.mk (by decide) (Nat.le_of_ble_eq_true rfl) ?_
  show vm_J _ _ _ (0, (0, 0), [.ref 152, .int x, .int y], []) _ _ _
  refine vm_J.go vm_q234 (k := 1) (hs := []) (f' := (1, (0, 0), [.ref 152, .int x, .int y], [.int x])) (h' := (G, I, F)) (hs' := []) rfl rfl ?_
  refine vm_J.call vm_q234 (Z := vm_M169) (n := 1) (k := 1) (mi := 169) (pc := 1) (en := (1, .invokestatic 162, 3, [169, 1321, 0], .null)) rfl trivial rfl rfl vm_z169 (av := [.int x]) (rest := []) (r_isColour_n (c := x) hx) rfl (Nat.le_of_ble_eq_true rfl) ⟨Nat.le_of_ble_eq_true rfl, Nat.le_of_ble_eq_true rfl⟩ ⟨Nat.le_of_ble_eq_true rfl, Nat.le_of_ble_eq_true rfl⟩ ?_
  show vm_J _ _ _ (4, (0, 0), [.ref 152, .int x, .int y], [.int 0]) (G, I, F) _ _
  refine vm_J.go vm_q234 (k := 1) (hs := []) (f' := (bif vm_ic .eq 0 0 then 23 else 7, (0, 0), [.ref 152, .int x, .int y], [])) (h' := (G, I, F)) (hs' := []) rfl rfl ?_
  refine vm_J.bT (by decide) ?_
  refine vm_J.go vm_q234 (k := 1) (hs := []) (f' := (25, (0, 0), [.ref 152, .int x, .int y], [.int (-2)])) (h' := (G, I, F)) (hs' := []) rfl rfl ?_
  exact vm_J.end vm_q234 (en := (25, .ireturn, 1, [], .null)) rfl rfl vm_rI (Nat.zero_le _) (Nat.zero_le _) rfl
set_option maxHeartbeats 4000000 in
set_option maxRecDepth 20000 in
/-- DitherDeskModel.far -/
theorem r_far_b2 {l : Launch} {X : vm_Cx} {G : List vm_Sh} {I : Nat → Nat → Int32} {F : Nat → Nat → UInt32} {x : Int32} {y : Int32} (hR : vm_isR G) (hx : 0 ≤ x ∧ x ≤ 262143) (hy : ¬ (0 ≤ y ∧ y ≤ 262143)) : vm_K l X vm_M234 [.ref 152, .int x, .int y] (G, I, F) (some (.int (-2))) (G, I, F) := by
  refine vm_K.mk (by decide) (Nat.le_of_ble_eq_true rfl) ?_
  show vm_J _ _ _ (0, (0, 0), [.ref 152, .int x, .int y], []) _ _ _
  refine vm_J.go vm_q234 (k := 1) (hs := []) (f' := (1, (0, 0), [.ref 152, .int x, .int y], [.int x])) (h' := (G, I, F)) (hs' := []) rfl rfl ?_
  refine vm_J.call vm_q234 (Z := vm_M169) (n := 1) (k := 1) (mi := 169) (pc := 1) (en := (1, .invokestatic 162, 3, [169, 1321, 0], .null)) rfl trivial rfl rfl vm_z169 (av := [.int x]) (rest := []) (r_isColour_y (c := x) hx) rfl (Nat.le_of_ble_eq_true rfl) ⟨Nat.le_of_ble_eq_true rfl, Nat.le_of_ble_eq_true rfl⟩ ⟨Nat.le_of_ble_eq_true rfl, Nat.le_of_ble_eq_true rfl⟩ ?_
  show vm_J _ _ _ (4, (0, 0), [.ref 152, .int x, .int y], [.int 1]) (G, I, F) _ _
  refine vm_J.go vm_q234 (k := 1) (hs := []) (f' := (bif vm_ic .eq 1 0 then 23 else 7, (0, 0), [.ref 152, .int x, .int y], [])) (h' := (G, I, F)) (hs' := []) rfl rfl ?_
  refine vm_J.bF (by decide) ?_
  refine vm_J.go vm_q234 (k := 1) (hs := []) (f' := (8, (0, 0), [.ref 152, .int x, .int y], [.int y])) (h' := (G, I, F)) (hs' := []) rfl rfl ?_
  refine vm_J.call vm_q234 (Z := vm_M169) (n := 1) (k := 1) (mi := 169) (pc := 8) (en := (8, .invokestatic 162, 3, [169, 1321, 0], .null)) rfl trivial rfl rfl vm_z169 (av := [.int y]) (rest := []) (r_isColour_n (c := y) hy) rfl (Nat.le_of_ble_eq_true rfl) ⟨Nat.le_of_ble_eq_true rfl, Nat.le_of_ble_eq_true rfl⟩ ⟨Nat.le_of_ble_eq_true rfl, Nat.le_of_ble_eq_true rfl⟩ ?_
  show vm_J _ _ _ (11, (0, 0), [.ref 152, .int x, .int y], [.int 0]) (G, I, F) _ _
  refine vm_J.go vm_q234 (k := 1) (hs := []) (f' := (bif vm_ic .eq 0 0 then 23 else 14, (0, 0), [.ref 152, .int x, .int y], [])) (h' := (G, I, F)) (hs' := []) rfl rfl ?_
  refine vm_J.bT (by decide) ?_
  refine vm_J.go vm_q234 (k := 1) (hs := []) (f' := (25, (0, 0), [.ref 152, .int x, .int y], [.int (-2)])) (h' := (G, I, F)) (hs' := []) rfl rfl ?_
  exact vm_J.end vm_q234 (en := (25, .ireturn, 1, [], .null)) rfl rfl vm_rI (Nat.zero_le _) (Nat.zero_le _) rfl
set_option maxHeartbeats 4000000 in
set_option maxRecDepth 20000 in
/-- DitherDeskModel.nearest -/
theorem r_nearest_x {l : Launch} {X : vm_Cx} {G : List vm_Sh} {I : Nat → Nat → Int32} {F : Nat → Nat → UInt32} {q : Int32} {c : Int32} (hR : vm_isR G) (hx : ¬ (0 ≤ q ∧ q ≤ 3)) : vm_K l X vm_M235 [.ref 152, .int q, .int c] (G, I, F) (some (.int (-1))) (G, I, F) := by
  refine vm_K.mk (by decide) (Nat.le_of_ble_eq_true rfl) ?_
  show vm_J _ _ _ (0, (0, 0), [.ref 152, .int q, .int c], []) _ _ _
  refine vm_J.go vm_q235 (k := 1) (hs := []) (f' := (1, (0, 0), [.ref 152, .int q, .int c], [.int q])) (h' := (G, I, F)) (hs' := []) rfl rfl ?_
  refine vm_J.call vm_q235 (Z := vm_M173) (n := 1) (k := 1) (mi := 173) (pc := 1) (en := (1, .invokestatic 145, 3, [173, 1453, 0], .null)) rfl trivial rfl rfl vm_z173 (av := [.int q]) (rest := []) (r_isPalette_n (c := q) hx) rfl (Nat.le_of_ble_eq_true rfl) ⟨Nat.le_of_ble_eq_true rfl, Nat.le_of_ble_eq_true rfl⟩ ⟨Nat.le_of_ble_eq_true rfl, Nat.le_of_ble_eq_true rfl⟩ ?_
  show vm_J _ _ _ (4, (0, 0), [.ref 152, .int q, .int c], [.int 0]) (G, I, F) _ _
  refine vm_J.go vm_q235 (k := 1) (hs := []) (f' := (bif vm_ic .ne 0 0 then 9 else 7, (0, 0), [.ref 152, .int q, .int c], [])) (h' := (G, I, F)) (hs' := []) rfl rfl ?_
  refine vm_J.bF (by decide) ?_
  refine vm_J.go vm_q235 (k := 1) (hs := []) (f' := (8, (0, 0), [.ref 152, .int q, .int c], [.int (-1)])) (h' := (G, I, F)) (hs' := []) rfl rfl ?_
  exact vm_J.end vm_q235 (en := (8, .ireturn, 1, [], .null)) rfl rfl vm_rI (Nat.zero_le _) (Nat.zero_le _) rfl
set_option maxHeartbeats 4000000 in
set_option maxRecDepth 20000 in
/-- DitherDeskModel.nearest -/
theorem r_nearest_b {l : Launch} {X : vm_Cx} {G : List vm_Sh} {I : Nat → Nat → Int32} {F : Nat → Nat → UInt32} {p : Nat} {c : Int32} (hR : vm_isR G) (hp : p < 4) (hc : ¬ (0 ≤ c ∧ c ≤ 262143)) : vm_K l X vm_M235 [.ref 152, .int (nI p), .int c] (G, I, F) (some (.int (-2))) (G, I, F) := by
  refine vm_K.mk (by decide) (Nat.le_of_ble_eq_true rfl) ?_
  show vm_J _ _ _ (0, (0, 0), [.ref 152, .int (nI p), .int c], []) _ _ _
  refine vm_J.go vm_q235 (k := 1) (hs := []) (f' := (1, (0, 0), [.ref 152, .int (nI p), .int c], [.int (nI p)])) (h' := (G, I, F)) (hs' := []) rfl rfl ?_
  refine vm_J.call vm_q235 (Z := vm_M173) (n := 1) (k := 1) (mi := 173) (pc := 1) (en := (1, .invokestatic 145, 3, [173, 1453, 0], .null)) rfl trivial rfl rfl vm_z173 (av := [.int (nI p)]) (rest := []) (r_isPalette_y (c := nI p) (vm_bp4 hp)) rfl (Nat.le_of_ble_eq_true rfl) ⟨Nat.le_of_ble_eq_true rfl, Nat.le_of_ble_eq_true rfl⟩ ⟨Nat.le_of_ble_eq_true rfl, Nat.le_of_ble_eq_true rfl⟩ ?_
  show vm_J _ _ _ (4, (0, 0), [.ref 152, .int (nI p), .int c], [.int 1]) (G, I, F) _ _
  refine vm_J.go vm_q235 (k := 1) (hs := []) (f' := (bif vm_ic .ne 1 0 then 9 else 7, (0, 0), [.ref 152, .int (nI p), .int c], [])) (h' := (G, I, F)) (hs' := []) rfl rfl ?_
  refine vm_J.bT (by decide) ?_
  refine vm_J.go vm_q235 (k := 1) (hs := []) (f' := (10, (0, 0), [.ref 152, .int (nI p), .int c], [.int c])) (h' := (G, I, F)) (hs' := []) rfl rfl ?_
  refine vm_J.call vm_q235 (Z := vm_M169) (n := 1) (k := 1) (mi := 169) (pc := 10) (en := (10, .invokestatic 162, 3, [169, 1321, 0], .null)) rfl trivial rfl rfl vm_z169 (av := [.int c]) (rest := []) (r_isColour_n (c := c) hc) rfl (Nat.le_of_ble_eq_true rfl) ⟨Nat.le_of_ble_eq_true rfl, Nat.le_of_ble_eq_true rfl⟩ ⟨Nat.le_of_ble_eq_true rfl, Nat.le_of_ble_eq_true rfl⟩ ?_
  show vm_J _ _ _ (13, (0, 0), [.ref 152, .int (nI p), .int c], [.int 0]) (G, I, F) _ _
  refine vm_J.go vm_q235 (k := 1) (hs := []) (f' := (bif vm_ic .ne 0 0 then 19 else 16, (0, 0), [.ref 152, .int (nI p), .int c], [])) (h' := (G, I, F)) (hs' := []) rfl rfl ?_
  refine vm_J.bF (by decide) ?_
  refine vm_J.go vm_q235 (k := 1) (hs := []) (f' := (18, (0, 0), [.ref 152, .int (nI p), .int c], [.int (-2)])) (h' := (G, I, F)) (hs' := []) rfl rfl ?_
  exact vm_J.end vm_q235 (en := (18, .ireturn, 1, [], .null)) rfl rfl vm_rI (Nat.zero_le _) (Nat.zero_le _) rfl
set_option maxHeartbeats 4000000 in
set_option maxRecDepth 20000 in
/-- DitherDeskModel.nearest -/
theorem r_nearest_0 {l : Launch} {X : vm_Cx} {G : List vm_Sh} {I : Nat → Nat → Int32} {F : Nat → Nat → UInt32} {p : Nat} {n : Nat} {c : Int32} (hR : vm_isR G) (hn : I 156 p = nI n) (hp : p < 4) (hn2 : n = 0) (hc : 0 ≤ c ∧ c ≤ 262143) : vm_K l X vm_M235 [.ref 152, .int (nI p), .int c] (G, I, F) (some (.int (-5))) (G, I, F) := by
  refine vm_K.mk (by decide) (Nat.le_of_ble_eq_true rfl) ?_
  show vm_J _ _ _ (0, (0, 0), [.ref 152, .int (nI p), .int c], []) _ _ _
  refine vm_J.go vm_q235 (k := 1) (hs := []) (f' := (1, (0, 0), [.ref 152, .int (nI p), .int c], [.int (nI p)])) (h' := (G, I, F)) (hs' := []) rfl rfl ?_
  refine vm_J.call vm_q235 (Z := vm_M173) (n := 1) (k := 1) (mi := 173) (pc := 1) (en := (1, .invokestatic 145, 3, [173, 1453, 0], .null)) rfl trivial rfl rfl vm_z173 (av := [.int (nI p)]) (rest := []) (r_isPalette_y (c := nI p) (vm_bp4 hp)) rfl (Nat.le_of_ble_eq_true rfl) ⟨Nat.le_of_ble_eq_true rfl, Nat.le_of_ble_eq_true rfl⟩ ⟨Nat.le_of_ble_eq_true rfl, Nat.le_of_ble_eq_true rfl⟩ ?_
  show vm_J _ _ _ (4, (0, 0), [.ref 152, .int (nI p), .int c], [.int 1]) (G, I, F) _ _
  refine vm_J.go vm_q235 (k := 1) (hs := []) (f' := (bif vm_ic .ne 1 0 then 9 else 7, (0, 0), [.ref 152, .int (nI p), .int c], [])) (h' := (G, I, F)) (hs' := []) rfl rfl ?_
  refine vm_J.bT (by decide) ?_
  refine vm_J.go vm_q235 (k := 1) (hs := []) (f' := (10, (0, 0), [.ref 152, .int (nI p), .int c], [.int c])) (h' := (G, I, F)) (hs' := []) rfl rfl ?_
  refine vm_J.call vm_q235 (Z := vm_M169) (n := 1) (k := 1) (mi := 169) (pc := 10) (en := (10, .invokestatic 162, 3, [169, 1321, 0], .null)) rfl trivial rfl rfl vm_z169 (av := [.int c]) (rest := []) (r_isColour_y (c := c) hc) rfl (Nat.le_of_ble_eq_true rfl) ⟨Nat.le_of_ble_eq_true rfl, Nat.le_of_ble_eq_true rfl⟩ ⟨Nat.le_of_ble_eq_true rfl, Nat.le_of_ble_eq_true rfl⟩ ?_
  show vm_J _ _ _ (13, (0, 0), [.ref 152, .int (nI p), .int c], [.int 1]) (G, I, F) _ _
  refine vm_J.go vm_q235 (k := 1) (hs := []) (f' := (bif vm_ic .ne 1 0 then 19 else 16, (0, 0), [.ref 152, .int (nI p), .int c], [])) (h' := (G, I, F)) (hs' := []) rfl rfl ?_
  refine vm_J.bT (by decide) ?_
  refine vm_J.go vm_q235 (k := 4) (hs := [vm_shR, (0, 4, [])]) (f' := (25, (0, 0), [.ref 152, .int (nI p), .int c], [.int (I 156 (nI p).toNatClampNeg)])) (h' := (G, I, F)) (hs' := []) rfl (vm_b2 rfl (vm_b2 (vm_b2 (vm_hG hR.c152) rfl) (vm_b2 rfl (vm_b2 (vm_b2 (vm_hG hR.c156) (vm_in_e (j := p) (n := 4) rfl (by omega) (by omega))) rfl)))) ?_
  rw [vm_ix_e (j := p) rfl (by omega)]
  rw [(hn : I 156 p = nI n)]
  refine vm_J.go vm_q235 (k := 1) (hs := []) (f' := (bif vm_ic .ne (nI n) 0 then 33 else 28, (0, 0), [.ref 152, .int (nI p), .int c], [])) (h' := (G, I, F)) (hs' := []) rfl rfl ?_
  refine vm_J.br (fun c1 => ?_) (fun c1 => ?_)
  · have c1 := vm_ne_t (a := n) (b := 0) (by omega) (by omega) c1
    exact (show False by omega).elim
  · have c1 := vm_ne_f (a := n) (b := 0) (by omega) (by omega) c1
    refine vm_J.go vm_q235 (k := 2) (hs := []) (f' := (39, (0, 0), [.ref 152, .int (nI p), .int c], [.int (-5)])) (h' := (G, I, F)) (hs' := []) rfl rfl ?_
    exact vm_J.end vm_q235 (en := (39, .ireturn, 1, [], .null)) rfl rfl vm_rI (Nat.zero_le _) (Nat.zero_le _) rfl
set_option maxHeartbeats 4000000 in
set_option maxRecDepth 20000 in
/-- DitherDeskModel.nearest -/
theorem r_nearest_y {l : Launch} {X : vm_Cx} {G : List vm_Sh} {I : Nat → Nat → Int32} {F : Nat → Nat → UInt32} {p : Nat} {n : Nat} {c : Int32} {m : Int32} (hR : vm_isR G) (hn : I 156 p = nI n) (hp : p < 4) (hn2 : n ≤ 16) (hn0 : 0 < n) (hz : I 152 6 = m) (hm : m = 0 ∨ m = 1 ∨ m = 2 ∨ m = 3) (hc : 0 ≤ c ∧ c ≤ 262143) : vm_K l X vm_M235 [.ref 152, .int (nI p), .int c] (G, I, F) (some (.int (nI (sp_nn (fun z => sp_far m (I 157 (16 * p + z)) c) (n - 1))))) (G, I, F) := by
  refine vm_K.mk (by decide) (Nat.le_of_ble_eq_true rfl) ?_
  show vm_J _ _ _ (0, (0, 0), [.ref 152, .int (nI p), .int c], []) _ _ _
  refine vm_J.go vm_q235 (k := 1) (hs := []) (f' := (1, (0, 0), [.ref 152, .int (nI p), .int c], [.int (nI p)])) (h' := (G, I, F)) (hs' := []) rfl rfl ?_
  refine vm_J.call vm_q235 (Z := vm_M173) (n := 1) (k := 1) (mi := 173) (pc := 1) (en := (1, .invokestatic 145, 3, [173, 1453, 0], .null)) rfl trivial rfl rfl vm_z173 (av := [.int (nI p)]) (rest := []) (r_isPalette_y (c := nI p) (vm_bp4 hp)) rfl (Nat.le_of_ble_eq_true rfl) ⟨Nat.le_of_ble_eq_true rfl, Nat.le_of_ble_eq_true rfl⟩ ⟨Nat.le_of_ble_eq_true rfl, Nat.le_of_ble_eq_true rfl⟩ ?_
  show vm_J _ _ _ (4, (0, 0), [.ref 152, .int (nI p), .int c], [.int 1]) (G, I, F) _ _
  refine vm_J.go vm_q235 (k := 1) (hs := []) (f' := (bif vm_ic .ne 1 0 then 9 else 7, (0, 0), [.ref 152, .int (nI p), .int c], [])) (h' := (G, I, F)) (hs' := []) rfl rfl ?_
  refine vm_J.bT (by decide) ?_
  refine vm_J.go vm_q235 (k := 1) (hs := []) (f' := (10, (0, 0), [.ref 152, .int (nI p), .int c], [.int c])) (h' := (G, I, F)) (hs' := []) rfl rfl ?_
  refine vm_J.call vm_q235 (Z := vm_M169) (n := 1) (k := 1) (mi := 169) (pc := 10) (en := (10, .invokestatic 162, 3, [169, 1321, 0], .null)) rfl trivial rfl rfl vm_z169 (av := [.int c]) (rest := []) (r_isColour_y (c := c) hc) rfl (Nat.le_of_ble_eq_true rfl) ⟨Nat.le_of_ble_eq_true rfl, Nat.le_of_ble_eq_true rfl⟩ ⟨Nat.le_of_ble_eq_true rfl, Nat.le_of_ble_eq_true rfl⟩ ?_
  show vm_J _ _ _ (13, (0, 0), [.ref 152, .int (nI p), .int c], [.int 1]) (G, I, F) _ _
  refine vm_J.go vm_q235 (k := 1) (hs := []) (f' := (bif vm_ic .ne 1 0 then 19 else 16, (0, 0), [.ref 152, .int (nI p), .int c], [])) (h' := (G, I, F)) (hs' := []) rfl rfl ?_
  refine vm_J.bT (by decide) ?_
  refine vm_J.go vm_q235 (k := 4) (hs := [vm_shR, (0, 4, [])]) (f' := (25, (0, 0), [.ref 152, .int (nI p), .int c], [.int (I 156 (nI p).toNatClampNeg)])) (h' := (G, I, F)) (hs' := []) rfl (vm_b2 rfl (vm_b2 (vm_b2 (vm_hG hR.c152) rfl) (vm_b2 rfl (vm_b2 (vm_b2 (vm_hG hR.c156) (vm_in_e (j := p) (n := 4) rfl (by omega) (by omega))) rfl)))) ?_
  rw [vm_ix_e (j := p) rfl (by omega)]
  rw [(hn : I 156 p = nI n)]
  refine vm_J.go vm_q235 (k := 1) (hs := []) (f' := (bif vm_ic .ne (nI n) 0 then 33 else 28, (0, 0), [.ref 152, .int (nI p), .int c], [])) (h' := (G, I, F)) (hs' := []) rfl rfl ?_
  refine vm_J.br (fun c1 => ?_) (fun c1 => ?_)
  · have c1 := vm_ne_t (a := n) (b := 0) (by omega) (by omega) c1
    refine vm_J.go vm_q235 (k := 3) (hs := []) (f' := (36, (0, 0), [.ref 152, .int (nI p), .int c], [.int c, .int (nI p), .ref 152])) (h' := (G, I, F)) (hs' := []) rfl rfl ?_
    refine vm_J.call vm_q235 (Z := vm_M232) (n := 2) (k := 0) (mi := 232) (pc := 36) (en := (36, .invokevirtual 325, 3, [232, 1555, 0], .null)) rfl trivial rfl rfl vm_z232 (av := [.ref 152, .int (nI p), .int c]) (rest := []) (r_near (p := p) (n := n) (c := c) (m := m) hR hn (by omega) (by omega) (by omega) hz hm) ⟨_, _, rfl, rfl, _, 11, _, hR.c152, rfl, rfl, rfl⟩ (Nat.le_of_ble_eq_true rfl) ⟨Nat.le_of_ble_eq_true rfl, Nat.le_of_ble_eq_true rfl⟩ ⟨Nat.le_of_ble_eq_true rfl, Nat.le_of_ble_eq_true rfl⟩ ?_
    have hnn := sp_nn_le (fun z => sp_far m (I 157 (16 * p + z)) c) (n - 1)
    show vm_J _ _ _ (39, (0, 0), [.ref 152, .int (nI p), .int c], [.int (nI (sp_nn (fun z => sp_far m (I 157 (16 * p + z)) c) (n - 1)))]) (G, I, F) _ _
    exact vm_J.end vm_q235 (en := (39, .ireturn, 1, [], .null)) rfl rfl vm_rI (Nat.zero_le _) (Nat.zero_le _) rfl
  · have c1 := vm_ne_f (a := n) (b := 0) (by omega) (by omega) c1
    exact (show False by omega).elim
set_option maxHeartbeats 4000000 in
set_option maxRecDepth 20000 in
/-- DitherDeskModel.nearerThan -/
theorem r_nearer {l : Launch} {X : vm_Cx} {G : List vm_Sh} {I : Nat → Nat → Int32} {F : Nat → Nat → UInt32} {p : Nat} {n : Nat} {e : Nat} {c : Int32} {m : Int32} (hR : vm_isR G) (hn : I 156 p = nI n) (hp : p < 4) (hn2 : n ≤ 16) (he : e < n) (hz : I 152 6 = m) (hm : m = 0 ∨ m = 1 ∨ m = 2 ∨ m = 3) : vm_K l X vm_M236 [.ref 152, .int (nI p), .int (nI e), .int c] (G, I, F) (some (.int (sp_ah (fun z => sp_far m (I 157 (16 * p + z)) c) n e))) (G, I, F) := by
  refine vm_K.mk (by decide) (Nat.le_of_ble_eq_true rfl) ?_
  show vm_J _ _ _ (0, (0, 0), [.ref 152, .int (nI p), .int (nI e), .int c, .retAddr 0, .retAddr 0, .retAddr 0, .retAddr 0], []) _ _ _
  refine vm_J.go vm_q236 (k := 12) (hs := [vm_shR, (0, 64, [])]) (f' := (16, (0, 0), [.ref 152, .int (nI p), .int (nI e), .int c, .int 0, .retAddr 0, .retAddr 0, .retAddr 0], [.int c, .int (I 157 ((16 * (nI p)) + (nI e)).toNatClampNeg), .ref 152])) (h' := (G, I, F)) (hs' := []) rfl (vm_b2 rfl (vm_b2 rfl (vm_b2 rfl (vm_b2 rfl (vm_b2 (vm_b2 (vm_hG hR.c152) rfl) (vm_b2 rfl (vm_b2 rfl (vm_b2 rfl (vm_b2 rfl (vm_b2 rfl (vm_b2 (vm_b2 (vm_hG hR.c157) (vm_in_e (j := (16 * p) + e) (n := 64) (vm_pa (vm_pm (rfl : (16 : Int32) = nI 16) (rfl : (nI p : Int32) = nI p)) (rfl : (nI e : Int32) = nI e)) (by omega) (by omega))) (vm_b2 rfl rfl)))))))))))) ?_
  rw [vm_ix_e (j := (16 * p) + e) (vm_pa (vm_pm (rfl : (16 : Int32) = nI 16) (rfl : (nI p : Int32) = nI p)) (rfl : (nI e : Int32) = nI e)) (by omega)]
  refine vm_J.call vm_q236 (Z := vm_M231) (n := 2) (k := 0) (mi := 231) (pc := 16) (en := (16, .invokevirtual 316, 3, [231, 1544, 0], .null)) rfl trivial rfl rfl vm_z231 (av := [.ref 152, .int (I 157 ((16 * p) + e)), .int c]) (rest := []) (r_farFrom_m (x := I 157 ((16 * p) + e)) (y := c) (m := m) hR hz hm) ⟨_, _, rfl, rfl, _, 11, _, hR.c152, rfl, rfl, rfl⟩ (Nat.le_of_ble_eq_true rfl) ⟨Nat.le_of_ble_eq_true rfl, Nat.le_of_ble_eq_true rfl⟩ ⟨Nat.le_of_ble_eq_true rfl, Nat.le_of_ble_eq_true rfl⟩ ?_
  show vm_J _ _ _ (19, (0, 0), [.ref 152, .int (nI p), .int (nI e), .int c, .int 0, .retAddr 0, .retAddr 0, .retAddr 0], [.int (sp_far m (I 157 ((16 * p) + e)) c)]) (G, I, F) _ _
  refine vm_J.go vm_q236 (k := 3) (hs := []) (f' := (24, (0, 0), [.ref 152, .int (nI p), .int (nI e), .int c, .int 0, .int (sp_far m (I 157 ((16 * p) + e)) c), .int 0, .retAddr 0], [])) (h' := (G, I, F)) (hs' := []) rfl rfl ?_
  refine vm_J.cnt n (fun k => (24, (0, 0), [.ref 152, .int (nI p), .int (nI e), .int c, .int (sp_sum (fun z => if sp_far m (I 157 (16 * p + z)) c < sp_far m (I 157 (16 * p + e)) c ∨ sp_far m (I 157 (16 * p + z)) c = sp_far m (I 157 (16 * p + e)) c ∧ z < e then 1 else 0) k), .int (sp_far m (I 157 (16 * p + e)) c), .int (nI k), .retAddr 0], [])) (fun k => (G, I, F)) (fun _ => True) rfl rfl trivial (fun k hk pk ik => ?_) (fun pk => ?_)
  · show vm_J _ _ _ (24, (0, 0), [.ref 152, .int (nI p), .int (nI e), .int c, .int (sp_sum (fun z => if sp_far m (I 157 (16 * p + z)) c < sp_far m (I 157 (16 * p + e)) c ∨ sp_far m (I 157 (16 * p + z)) c = sp_far m (I 157 (16 * p + e)) c ∧ z < e then 1 else 0) k), .int (sp_far m (I 157 (16 * p + e)) c), .int (nI k), .retAddr 0], []) (G, I, F) _ _
    refine vm_J.go vm_q236 (k := 5) (hs := [vm_shR, (0, 4, [])]) (f' := (32, (0, 0), [.ref 152, .int (nI p), .int (nI e), .int c, .int (sp_sum (fun z => if sp_far m (I 157 (16 * p + z)) c < sp_far m (I 157 (16 * p + e)) c ∨ sp_far m (I 157 (16 * p + z)) c = sp_far m (I 157 (16 * p + e)) c ∧ z < e then 1 else 0) k), .int (sp_far m (I 157 (16 * p + e)) c), .int (nI k), .retAddr 0], [.int (I 156 (nI p).toNatClampNeg), .int (nI k)])) (h' := (G, I, F)) (hs' := []) rfl (vm_b2 rfl (vm_b2 rfl (vm_b2 (vm_b2 (vm_hG hR.c152) rfl) (vm_b2 rfl (vm_b2 (vm_b2 (vm_hG hR.c156) (vm_in_e (j := p) (n := 4) rfl (by omega) (by omega))) rfl))))) ?_
    rw [vm_ix_e (j := p) rfl (by omega)]
    rw [(hn : I 156 p = nI n)]
    refine vm_J.go vm_q236 (k := 1) (hs := []) (f' := (bif vm_ic .ge (nI k) (nI n) then 90 else 35, (0, 0), [.ref 152, .int (nI p), .int (nI e), .int c, .int (sp_sum (fun z => if sp_far m (I 157 (16 * p + z)) c < sp_far m (I 157 (16 * p + e)) c ∨ sp_far m (I 157 (16 * p + z)) c = sp_far m (I 157 (16 * p + e)) c ∧ z < e then 1 else 0) k), .int (sp_far m (I 157 (16 * p + e)) c), .int (nI k), .retAddr 0], [])) (h' := (G, I, F)) (hs' := []) rfl rfl ?_
    refine vm_J.br (fun c1 => ?_) (fun c1 => ?_)
    · have c1 := vm_ge_t (a := k) (b := n) (by omega) (by omega) c1
      exact (show False by omega).elim
    · have c1 := vm_ge_f (a := k) (b := n) (by omega) (by omega) c1
      refine vm_J.go vm_q236 (k := 10) (hs := [vm_shR, (0, 64, [])]) (f' := (49, (0, 0), [.ref 152, .int (nI p), .int (nI e), .int c, .int (sp_sum (fun z => if sp_far m (I 157 (16 * p + z)) c < sp_far m (I 157 (16 * p + e)) c ∨ sp_far m (I 157 (16 * p + z)) c = sp_far m (I 157 (16 * p + e)) c ∧ z < e then 1 else 0) k), .int (sp_far m (I 157 (16 * p + e)) c), .int (nI k), .retAddr 0], [.int c, .int (I 157 ((16 * (nI p)) + (nI k)).toNatClampNeg), .ref 152])) (h' := (G, I, F)) (hs' := []) rfl (vm_b2 rfl (vm_b2 rfl (vm_b2 (vm_b2 (vm_hG hR.c152) rfl) (vm_b2 rfl (vm_b2 rfl (vm_b2 rfl (vm_b2 rfl (vm_b2 rfl (vm_b2 (vm_b2 (vm_hG hR.c157) (vm_in_e (j := (16 * p) + k) (n := 64) (vm_pa (vm_pm (rfl : (16 : Int32) = nI 16) (rfl : (nI p : Int32) = nI p)) (rfl : (nI k : Int32) = nI k)) (by omega) (by omega))) (vm_b2 rfl rfl)))))))))) ?_
      rw [vm_ix_e (j := (16 * p) + k) (vm_pa (vm_pm (rfl : (16 : Int32) = nI 16) (rfl : (nI p : Int32) = nI p)) (rfl : (nI k : Int32) = nI k)) (by omega)]
      refine vm_J.call vm_q236 (Z := vm_M231) (n := 2) (k := 0) (mi := 231) (pc := 49) (en := (49, .invokevirtual 316, 3, [231, 1544, 0], .null)) rfl trivial rfl rfl vm_z231 (av := [.ref 152, .int (I 157 ((16 * p) + k)), .int c]) (rest := []) (r_farFrom_m (x := I 157 ((16 * p) + k)) (y := c) (m := m) hR hz hm) ⟨_, _, rfl, rfl, _, 11, _, hR.c152, rfl, rfl, rfl⟩ (Nat.le_of_ble_eq_true rfl) ⟨Nat.le_of_ble_eq_true rfl, Nat.le_of_ble_eq_true rfl⟩ ⟨Nat.le_of_ble_eq_true rfl, Nat.le_of_ble_eq_true rfl⟩ ?_
      show vm_J _ _ _ (52, (0, 0), [.ref 152, .int (nI p), .int (nI e), .int c, .int (sp_sum (fun z => if sp_far m (I 157 (16 * p + z)) c < sp_far m (I 157 (16 * p + e)) c ∨ sp_far m (I 157 (16 * p + z)) c = sp_far m (I 157 (16 * p + e)) c ∧ z < e then 1 else 0) k), .int (sp_far m (I 157 (16 * p + e)) c), .int (nI k), .retAddr 0], [.int (sp_far m (I 157 ((16 * p) + k)) c)]) (G, I, F) _ _
      refine vm_J.go vm_q236 (k := 5) (hs := []) (f' := (bif vm_ic .lt (sp_far m (I 157 ((16 * p) + k)) c) (sp_far m (I 157 (16 * p + e)) c) then 76 else 63, (0, 0), [.ref 152, .int (nI p), .int (nI e), .int c, .int (sp_sum (fun z => if sp_far m (I 157 (16 * p + z)) c < sp_far m (I 157 (16 * p + e)) c ∨ sp_far m (I 157 (16 * p + z)) c = sp_far m (I 157 (16 * p + e)) c ∧ z < e then 1 else 0) k), .int (sp_far m (I 157 (16 * p + e)) c), .int (nI k), .int (sp_far m (I 157 ((16 * p) + k)) c)], [.int (sp_sum (fun z => if sp_far m (I 157 (16 * p + z)) c < sp_far m (I 157 (16 * p + e)) c ∨ sp_far m (I 157 (16 * p + z)) c = sp_far m (I 157 (16 * p + e)) c ∧ z < e then 1 else 0) k)])) (h' := (G, I, F)) (hs' := []) rfl rfl ?_
      refine vm_J.br (fun c2 => ?_) (fun c2 => ?_)
      · have c2 : (sp_far m (I 157 ((16 * p) + k)) c) < (sp_far m (I 157 (16 * p + e)) c) := of_decide_eq_true c2
        refine vm_J.go vm_q236 (k := 6) (hs := []) (f' := (24, (0, 0), [.ref 152, .int (nI p), .int (nI e), .int c, .int ((sp_sum (fun z => if sp_far m (I 157 (16 * p + z)) c < sp_far m (I 157 (16 * p + e)) c ∨ sp_far m (I 157 (16 * p + z)) c = sp_far m (I 157 (16 * p + e)) c ∧ z < e then 1 else 0) k) + 1), .int (sp_far m (I 157 (16 * p + e)) c), .int ((nI k) + 1), .int (sp_far m (I 157 ((16 * p) + k)) c)], [])) (h' := (G, I, F)) (hs' := []) rfl rfl ?_
        rw [((vm_pa (rfl : nI k = nI k) (rfl : (1 : Int32) = nI 1)) : (nI k) + 1 = nI (k + 1))]
        refine vm_J.mask [true, true, true, true, true, true, true, false] ?_
        show vm_J _ _ _ (24, (0, 0), [.ref 152, .int (nI p), .int (nI e), .int c, .int ((sp_sum (fun z => if sp_far m (I 157 (16 * p + z)) c < sp_far m (I 157 (16 * p + e)) c ∨ sp_far m (I 157 (16 * p + z)) c = sp_far m (I 157 (16 * p + e)) c ∧ z < e then 1 else 0) k) + 1), .int (sp_far m (I 157 (16 * p + e)) c), .int (nI (k + 1)), .retAddr 0], []) (G, I, F) _ _
        rw [show ((sp_sum (fun z => if sp_far m (I 157 (16 * p + z)) c < sp_far m (I 157 (16 * p + e)) c ∨ sp_far m (I 157 (16 * p + z)) c = sp_far m (I 157 (16 * p + e)) c ∧ z < e then 1 else 0) k) + 1 : Int32) = sp_sum (fun z => if sp_far m (I 157 (16 * p + z)) c < sp_far m (I 157 (16 * p + e)) c ∨ sp_far m (I 157 (16 * p + z)) c = sp_far m (I 157 (16 * p + e)) c ∧ z < e then 1 else 0) (k + 1) from by rw [sp_sum, if_pos (Or.inl c2)]]
        exact ik trivial
      · have c2 : ¬ ((sp_far m (I 157 ((16 * p) + k)) c) < (sp_far m (I 157 (16 * p + e)) c)) := of_decide_eq_false c2
        refine vm_J.go vm_q236 (k := 3) (hs := []) (f' := (bif vm_ic .ne (sp_far m (I 157 ((16 * p) + k)) c) (sp_far m (I 157 (16 * p + e)) c) then 80 else 70, (0, 0), [.ref 152, .int (nI p), .int (nI e), .int c, .int (sp_sum (fun z => if sp_far m (I 157 (16 * p + z)) c < sp_far m (I 157 (16 * p + e)) c ∨ sp_far m (I 157 (16 * p + z)) c = sp_far m (I 157 (16 * p + e)) c ∧ z < e then 1 else 0) k), .int (sp_far m (I 157 (16 * p + e)) c), .int (nI k), .int (sp_far m (I 157 ((16 * p) + k)) c)], [.int (sp_sum (fun z => if sp_far m (I 157 (16 * p + z)) c < sp_far m (I 157 (16 * p + e)) c ∨ sp_far m (I 157 (16 * p + z)) c = sp_far m (I 157 (16 * p + e)) c ∧ z < e then 1 else 0) k)])) (h' := (G, I, F)) (hs' := []) rfl rfl ?_
        refine vm_J.br (fun c3 => ?_) (fun c3 => ?_)
        · have c3 : ¬ (sp_far m (I 157 ((16 * p) + k)) c) = (sp_far m (I 157 (16 * p + e)) c) := of_decide_eq_true c3
          refine vm_J.go vm_q236 (k := 5) (hs := []) (f' := (24, (0, 0), [.ref 152, .int (nI p), .int (nI e), .int c, .int ((sp_sum (fun z => if sp_far m (I 157 (16 * p + z)) c < sp_far m (I 157 (16 * p + e)) c ∨ sp_far m (I 157 (16 * p + z)) c = sp_far m (I 157 (16 * p + e)) c ∧ z < e then 1 else 0) k) + 0), .int (sp_far m (I 157 (16 * p + e)) c), .int ((nI k) + 1), .int (sp_far m (I 157 ((16 * p) + k)) c)], [])) (h' := (G, I, F)) (hs' := []) rfl rfl ?_
          rw [((vm_pa (rfl : nI k = nI k) (rfl : (1 : Int32) = nI 1)) : (nI k) + 1 = nI (k + 1))]
          refine vm_J.mask [true, true, true, true, true, true, true, false] ?_
          show vm_J _ _ _ (24, (0, 0), [.ref 152, .int (nI p), .int (nI e), .int c, .int ((sp_sum (fun z => if sp_far m (I 157 (16 * p + z)) c < sp_far m (I 157 (16 * p + e)) c ∨ sp_far m (I 157 (16 * p + z)) c = sp_far m (I 157 (16 * p + e)) c ∧ z < e then 1 else 0) k) + 0), .int (sp_far m (I 157 (16 * p + e)) c), .int (nI (k + 1)), .retAddr 0], []) (G, I, F) _ _
          rw [show ((sp_sum (fun z => if sp_far m (I 157 (16 * p + z)) c < sp_far m (I 157 (16 * p + e)) c ∨ sp_far m (I 157 (16 * p + z)) c = sp_far m (I 157 (16 * p + e)) c ∧ z < e then 1 else 0) k) + 0 : Int32) = sp_sum (fun z => if sp_far m (I 157 (16 * p + z)) c < sp_far m (I 157 (16 * p + e)) c ∨ sp_far m (I 157 (16 * p + z)) c = sp_far m (I 157 (16 * p + e)) c ∧ z < e then 1 else 0) (k + 1) from by rw [sp_sum, if_neg (fun z => z.elim c2 (fun y => c3 y.1))]]
          exact ik trivial
        · have c3 : (sp_far m (I 157 ((16 * p) + k)) c) = (sp_far m (I 157 (16 * p + e)) c) := Decidable.of_not_not (of_decide_eq_false c3)
          refine vm_J.go vm_q236 (k := 3) (hs := []) (f' := (bif vm_ic .ge (nI k) (nI e) then 80 else 76, (0, 0), [.ref 152, .int (nI p), .int (nI e), .int c, .int (sp_sum (fun z => if sp_far m (I 157 (16 * p + z)) c < sp_far m (I 157 (16 * p + e)) c ∨ sp_far m (I 157 (16 * p + z)) c = sp_far m (I 157 (16 * p + e)) c ∧ z < e then 1 else 0) k), .int (sp_far m (I 157 (16 * p + e)) c), .int (nI k), .int (sp_far m (I 157 ((16 * p) + k)) c)], [.int (sp_sum (fun z => if sp_far m (I 157 (16 * p + z)) c < sp_far m (I 157 (16 * p + e)) c ∨ sp_far m (I 157 (16 * p + z)) c = sp_far m (I 157 (16 * p + e)) c ∧ z < e then 1 else 0) k)])) (h' := (G, I, F)) (hs' := []) rfl rfl ?_
          refine vm_J.br (fun c4 => ?_) (fun c4 => ?_)
          · have c4 := vm_ge_t (a := k) (b := e) (by omega) (by omega) c4
            refine vm_J.go vm_q236 (k := 5) (hs := []) (f' := (24, (0, 0), [.ref 152, .int (nI p), .int (nI e), .int c, .int ((sp_sum (fun z => if sp_far m (I 157 (16 * p + z)) c < sp_far m (I 157 (16 * p + e)) c ∨ sp_far m (I 157 (16 * p + z)) c = sp_far m (I 157 (16 * p + e)) c ∧ z < e then 1 else 0) k) + 0), .int (sp_far m (I 157 (16 * p + e)) c), .int ((nI k) + 1), .int (sp_far m (I 157 ((16 * p) + k)) c)], [])) (h' := (G, I, F)) (hs' := []) rfl rfl ?_
            rw [((vm_pa (rfl : nI k = nI k) (rfl : (1 : Int32) = nI 1)) : (nI k) + 1 = nI (k + 1))]
            refine vm_J.mask [true, true, true, true, true, true, true, false] ?_
            show vm_J _ _ _ (24, (0, 0), [.ref 152, .int (nI p), .int (nI e), .int c, .int ((sp_sum (fun z => if sp_far m (I 157 (16 * p + z)) c < sp_far m (I 157 (16 * p + e)) c ∨ sp_far m (I 157 (16 * p + z)) c = sp_far m (I 157 (16 * p + e)) c ∧ z < e then 1 else 0) k) + 0), .int (sp_far m (I 157 (16 * p + e)) c), .int (nI (k + 1)), .retAddr 0], []) (G, I, F) _ _
            rw [show ((sp_sum (fun z => if sp_far m (I 157 (16 * p + z)) c < sp_far m (I 157 (16 * p + e)) c ∨ sp_far m (I 157 (16 * p + z)) c = sp_far m (I 157 (16 * p + e)) c ∧ z < e then 1 else 0) k) + 0 : Int32) = sp_sum (fun z => if sp_far m (I 157 (16 * p + z)) c < sp_far m (I 157 (16 * p + e)) c ∨ sp_far m (I 157 (16 * p + z)) c = sp_far m (I 157 (16 * p + e)) c ∧ z < e then 1 else 0) (k + 1) from by rw [sp_sum, if_neg (fun z => z.elim c2 (fun y => absurd y.2 (by omega)))]]
            exact ik trivial
          · have c4 := vm_ge_f (a := k) (b := e) (by omega) (by omega) c4
            refine vm_J.go vm_q236 (k := 6) (hs := []) (f' := (24, (0, 0), [.ref 152, .int (nI p), .int (nI e), .int c, .int ((sp_sum (fun z => if sp_far m (I 157 (16 * p + z)) c < sp_far m (I 157 (16 * p + e)) c ∨ sp_far m (I 157 (16 * p + z)) c = sp_far m (I 157 (16 * p + e)) c ∧ z < e then 1 else 0) k) + 1), .int (sp_far m (I 157 (16 * p + e)) c), .int ((nI k) + 1), .int (sp_far m (I 157 ((16 * p) + k)) c)], [])) (h' := (G, I, F)) (hs' := []) rfl rfl ?_
            rw [((vm_pa (rfl : nI k = nI k) (rfl : (1 : Int32) = nI 1)) : (nI k) + 1 = nI (k + 1))]
            refine vm_J.mask [true, true, true, true, true, true, true, false] ?_
            show vm_J _ _ _ (24, (0, 0), [.ref 152, .int (nI p), .int (nI e), .int c, .int ((sp_sum (fun z => if sp_far m (I 157 (16 * p + z)) c < sp_far m (I 157 (16 * p + e)) c ∨ sp_far m (I 157 (16 * p + z)) c = sp_far m (I 157 (16 * p + e)) c ∧ z < e then 1 else 0) k) + 1), .int (sp_far m (I 157 (16 * p + e)) c), .int (nI (k + 1)), .retAddr 0], []) (G, I, F) _ _
            rw [show ((sp_sum (fun z => if sp_far m (I 157 (16 * p + z)) c < sp_far m (I 157 (16 * p + e)) c ∨ sp_far m (I 157 (16 * p + z)) c = sp_far m (I 157 (16 * p + e)) c ∧ z < e then 1 else 0) k) + 1 : Int32) = sp_sum (fun z => if sp_far m (I 157 (16 * p + z)) c < sp_far m (I 157 (16 * p + e)) c ∨ sp_far m (I 157 (16 * p + z)) c = sp_far m (I 157 (16 * p + e)) c ∧ z < e then 1 else 0) (k + 1) from by rw [sp_sum, if_pos (Or.inr ⟨c3, c4⟩)]]
            exact ik trivial
  · show vm_J _ _ _ (24, (0, 0), [.ref 152, .int (nI p), .int (nI e), .int c, .int (sp_sum (fun z => if sp_far m (I 157 (16 * p + z)) c < sp_far m (I 157 (16 * p + e)) c ∨ sp_far m (I 157 (16 * p + z)) c = sp_far m (I 157 (16 * p + e)) c ∧ z < e then 1 else 0) n), .int (sp_far m (I 157 (16 * p + e)) c), .int (nI n), .retAddr 0], []) (G, I, F) _ _
    refine vm_J.go vm_q236 (k := 5) (hs := [vm_shR, (0, 4, [])]) (f' := (32, (0, 0), [.ref 152, .int (nI p), .int (nI e), .int c, .int (sp_sum (fun z => if sp_far m (I 157 (16 * p + z)) c < sp_far m (I 157 (16 * p + e)) c ∨ sp_far m (I 157 (16 * p + z)) c = sp_far m (I 157 (16 * p + e)) c ∧ z < e then 1 else 0) n), .int (sp_far m (I 157 (16 * p + e)) c), .int (nI n), .retAddr 0], [.int (I 156 (nI p).toNatClampNeg), .int (nI n)])) (h' := (G, I, F)) (hs' := []) rfl (vm_b2 rfl (vm_b2 rfl (vm_b2 (vm_b2 (vm_hG hR.c152) rfl) (vm_b2 rfl (vm_b2 (vm_b2 (vm_hG hR.c156) (vm_in_e (j := p) (n := 4) rfl (by omega) (by omega))) rfl))))) ?_
    rw [vm_ix_e (j := p) rfl (by omega)]
    rw [(hn : I 156 p = nI n)]
    refine vm_J.go vm_q236 (k := 1) (hs := []) (f' := (bif vm_ic .ge (nI n) (nI n) then 90 else 35, (0, 0), [.ref 152, .int (nI p), .int (nI e), .int c, .int (sp_sum (fun z => if sp_far m (I 157 (16 * p + z)) c < sp_far m (I 157 (16 * p + e)) c ∨ sp_far m (I 157 (16 * p + z)) c = sp_far m (I 157 (16 * p + e)) c ∧ z < e then 1 else 0) n), .int (sp_far m (I 157 (16 * p + e)) c), .int (nI n), .retAddr 0], [])) (h' := (G, I, F)) (hs' := []) rfl rfl ?_
    refine vm_J.br (fun c5 => ?_) (fun c5 => ?_)
    · have c5 := vm_ge_t (a := n) (b := n) (by omega) (by omega) c5
      refine vm_J.go vm_q236 (k := 1) (hs := []) (f' := (92, (0, 0), [.ref 152, .int (nI p), .int (nI e), .int c, .int (sp_sum (fun z => if sp_far m (I 157 (16 * p + z)) c < sp_far m (I 157 (16 * p + e)) c ∨ sp_far m (I 157 (16 * p + z)) c = sp_far m (I 157 (16 * p + e)) c ∧ z < e then 1 else 0) n), .int (sp_far m (I 157 (16 * p + e)) c), .int (nI n), .retAddr 0], [.int (sp_sum (fun z => if sp_far m (I 157 (16 * p + z)) c < sp_far m (I 157 (16 * p + e)) c ∨ sp_far m (I 157 (16 * p + z)) c = sp_far m (I 157 (16 * p + e)) c ∧ z < e then 1 else 0) n)])) (h' := (G, I, F)) (hs' := []) rfl rfl ?_
      exact vm_J.end vm_q236 (en := (92, .ireturn, 1, [], .null)) rfl rfl vm_rI (Nat.zero_le _) (Nat.zero_le _) rfl
    · have c5 := vm_ge_f (a := n) (b := n) (by omega) (by omega) c5
      exact (show False by omega).elim
set_option maxHeartbeats 4000000 in
set_option maxRecDepth 20000 in
/-- DitherDeskModel.near -/
theorem r_near_x {l : Launch} {X : vm_Cx} {G : List vm_Sh} {I : Nat → Nat → Int32} {F : Nat → Nat → UInt32} {q : Int32} {c : Int32} {x : Int32} (hR : vm_isR G) (hx : ¬ (0 ≤ q ∧ q ≤ 3)) : vm_K l X vm_M237 [.ref 152, .int q, .int c, .int x] (G, I, F) (some (.int (-1))) (G, I, F) := by
  refine vm_K.mk (by decide) (Nat.le_of_ble_eq_true rfl) ?_
  show vm_J _ _ _ (0, (0, 0), [.ref 152, .int q, .int c, .int x, .retAddr 0], []) _ _ _
  refine vm_J.go vm_q237 (k := 1) (hs := []) (f' := (1, (0, 0), [.ref 152, .int q, .int c, .int x, .retAddr 0], [.int q])) (h' := (G, I, F)) (hs' := []) rfl rfl ?_
  refine vm_J.call vm_q237 (Z := vm_M173) (n := 1) (k := 1) (mi := 173) (pc := 1) (en := (1, .invokestatic 145, 3, [173, 1453, 0], .null)) rfl trivial rfl rfl vm_z173 (av := [.int q]) (rest := []) (r_isPalette_n (c := q) hx) rfl (Nat.le_of_ble_eq_true rfl) ⟨Nat.le_of_ble_eq_true rfl, Nat.le_of_ble_eq_true rfl⟩ ⟨Nat.le_of_ble_eq_true rfl, Nat.le_of_ble_eq_true rfl⟩ ?_
  show vm_J _ _ _ (4, (0, 0), [.ref 152, .int q, .int c, .int x, .retAddr 0], [.int 0]) (G, I, F) _ _
  refine vm_J.go vm_q237 (k := 1) (hs := []) (f' := (bif vm_ic .ne 0 0 then 9 else 7, (0, 0), [.ref 152, .int q, .int c, .int x, .retAddr 0], [])) (h' := (G, I, F)) (hs' := []) rfl rfl ?_
  refine vm_J.bF (by decide) ?_
  refine vm_J.go vm_q237 (k := 1) (hs := []) (f' := (8, (0, 0), [.ref 152, .int q, .int c, .int x, .retAddr 0], [.int (-1)])) (h' := (G, I, F)) (hs' := []) rfl rfl ?_
  exact vm_J.end vm_q237 (en := (8, .ireturn, 1, [], .null)) rfl rfl vm_rI (Nat.zero_le _) (Nat.zero_le _) rfl
set_option maxHeartbeats 4000000 in
set_option maxRecDepth 20000 in
/-- DitherDeskModel.near -/
theorem r_near_b {l : Launch} {X : vm_Cx} {G : List vm_Sh} {I : Nat → Nat → Int32} {F : Nat → Nat → UInt32} {p : Nat} {c : Int32} {x : Int32} (hR : vm_isR G) (hp : p < 4) (hc : ¬ (0 ≤ c ∧ c ≤ 262143)) : vm_K l X vm_M237 [.ref 152, .int (nI p), .int c, .int x] (G, I, F) (some (.int (-2))) (G, I, F) := by
  refine vm_K.mk (by decide) (Nat.le_of_ble_eq_true rfl) ?_
  show vm_J _ _ _ (0, (0, 0), [.ref 152, .int (nI p), .int c, .int x, .retAddr 0], []) _ _ _
  refine vm_J.go vm_q237 (k := 1) (hs := []) (f' := (1, (0, 0), [.ref 152, .int (nI p), .int c, .int x, .retAddr 0], [.int (nI p)])) (h' := (G, I, F)) (hs' := []) rfl rfl ?_
  refine vm_J.call vm_q237 (Z := vm_M173) (n := 1) (k := 1) (mi := 173) (pc := 1) (en := (1, .invokestatic 145, 3, [173, 1453, 0], .null)) rfl trivial rfl rfl vm_z173 (av := [.int (nI p)]) (rest := []) (r_isPalette_y (c := nI p) (vm_bp4 hp)) rfl (Nat.le_of_ble_eq_true rfl) ⟨Nat.le_of_ble_eq_true rfl, Nat.le_of_ble_eq_true rfl⟩ ⟨Nat.le_of_ble_eq_true rfl, Nat.le_of_ble_eq_true rfl⟩ ?_
  show vm_J _ _ _ (4, (0, 0), [.ref 152, .int (nI p), .int c, .int x, .retAddr 0], [.int 1]) (G, I, F) _ _
  refine vm_J.go vm_q237 (k := 1) (hs := []) (f' := (bif vm_ic .ne 1 0 then 9 else 7, (0, 0), [.ref 152, .int (nI p), .int c, .int x, .retAddr 0], [])) (h' := (G, I, F)) (hs' := []) rfl rfl ?_
  refine vm_J.bT (by decide) ?_
  refine vm_J.go vm_q237 (k := 1) (hs := []) (f' := (10, (0, 0), [.ref 152, .int (nI p), .int c, .int x, .retAddr 0], [.int c])) (h' := (G, I, F)) (hs' := []) rfl rfl ?_
  refine vm_J.call vm_q237 (Z := vm_M169) (n := 1) (k := 1) (mi := 169) (pc := 10) (en := (10, .invokestatic 162, 3, [169, 1321, 0], .null)) rfl trivial rfl rfl vm_z169 (av := [.int c]) (rest := []) (r_isColour_n (c := c) hc) rfl (Nat.le_of_ble_eq_true rfl) ⟨Nat.le_of_ble_eq_true rfl, Nat.le_of_ble_eq_true rfl⟩ ⟨Nat.le_of_ble_eq_true rfl, Nat.le_of_ble_eq_true rfl⟩ ?_
  show vm_J _ _ _ (13, (0, 0), [.ref 152, .int (nI p), .int c, .int x, .retAddr 0], [.int 0]) (G, I, F) _ _
  refine vm_J.go vm_q237 (k := 1) (hs := []) (f' := (bif vm_ic .ne 0 0 then 19 else 16, (0, 0), [.ref 152, .int (nI p), .int c, .int x, .retAddr 0], [])) (h' := (G, I, F)) (hs' := []) rfl rfl ?_
  refine vm_J.bF (by decide) ?_
  refine vm_J.go vm_q237 (k := 1) (hs := []) (f' := (18, (0, 0), [.ref 152, .int (nI p), .int c, .int x, .retAddr 0], [.int (-2)])) (h' := (G, I, F)) (hs' := []) rfl rfl ?_
  exact vm_J.end vm_q237 (en := (18, .ireturn, 1, [], .null)) rfl rfl vm_rI (Nat.zero_le _) (Nat.zero_le _) rfl
set_option maxHeartbeats 4000000 in
set_option maxRecDepth 20000 in
/-- DitherDeskModel.near -/
theorem r_near_y {l : Launch} {X : vm_Cx} {G : List vm_Sh} {I : Nat → Nat → Int32} {F : Nat → Nat → UInt32} {p : Nat} {n : Nat} {c : Int32} {x : Int32} {m : Int32} (hR : vm_isR G) (hn : I 156 p = nI n) (hp : p < 4) (hn2 : n ≤ 16) (hz : I 152 6 = m) (hm : m = 0 ∨ m = 1 ∨ m = 2 ∨ m = 3) (hc : 0 ≤ c ∧ c ≤ 262143) : vm_K l X vm_M237 [.ref 152, .int (nI p), .int c, .int x] (G, I, F) (some (.int (sp_fo (fun e => sp_ah (fun z => sp_far m (I 157 (16 * p + z)) c) n e = x) n (-2)))) (G, I, F) := by
  refine vm_K.mk (by decide) (Nat.le_of_ble_eq_true rfl) ?_
  show vm_J _ _ _ (0, (0, 0), [.ref 152, .int (nI p), .int c, .int x, .retAddr 0], []) _ _ _
  refine vm_J.go vm_q237 (k := 1) (hs := []) (f' := (1, (0, 0), [.ref 152, .int (nI p), .int c, .int x, .retAddr 0], [.int (nI p)])) (h' := (G, I, F)) (hs' := []) rfl rfl ?_
  refine vm_J.call vm_q237 (Z := vm_M173) (n := 1) (k := 1) (mi := 173) (pc := 1) (en := (1, .invokestatic 145, 3, [173, 1453, 0], .null)) rfl trivial rfl rfl vm_z173 (av := [.int (nI p)]) (rest := []) (r_isPalette_y (c := nI p) (vm_bp4 hp)) rfl (Nat.le_of_ble_eq_true rfl) ⟨Nat.le_of_ble_eq_true rfl, Nat.le_of_ble_eq_true rfl⟩ ⟨Nat.le_of_ble_eq_true rfl, Nat.le_of_ble_eq_true rfl⟩ ?_
  show vm_J _ _ _ (4, (0, 0), [.ref 152, .int (nI p), .int c, .int x, .retAddr 0], [.int 1]) (G, I, F) _ _
  refine vm_J.go vm_q237 (k := 1) (hs := []) (f' := (bif vm_ic .ne 1 0 then 9 else 7, (0, 0), [.ref 152, .int (nI p), .int c, .int x, .retAddr 0], [])) (h' := (G, I, F)) (hs' := []) rfl rfl ?_
  refine vm_J.bT (by decide) ?_
  refine vm_J.go vm_q237 (k := 1) (hs := []) (f' := (10, (0, 0), [.ref 152, .int (nI p), .int c, .int x, .retAddr 0], [.int c])) (h' := (G, I, F)) (hs' := []) rfl rfl ?_
  refine vm_J.call vm_q237 (Z := vm_M169) (n := 1) (k := 1) (mi := 169) (pc := 10) (en := (10, .invokestatic 162, 3, [169, 1321, 0], .null)) rfl trivial rfl rfl vm_z169 (av := [.int c]) (rest := []) (r_isColour_y (c := c) hc) rfl (Nat.le_of_ble_eq_true rfl) ⟨Nat.le_of_ble_eq_true rfl, Nat.le_of_ble_eq_true rfl⟩ ⟨Nat.le_of_ble_eq_true rfl, Nat.le_of_ble_eq_true rfl⟩ ?_
  show vm_J _ _ _ (13, (0, 0), [.ref 152, .int (nI p), .int c, .int x, .retAddr 0], [.int 1]) (G, I, F) _ _
  refine vm_J.go vm_q237 (k := 1) (hs := []) (f' := (bif vm_ic .ne 1 0 then 19 else 16, (0, 0), [.ref 152, .int (nI p), .int c, .int x, .retAddr 0], [])) (h' := (G, I, F)) (hs' := []) rfl rfl ?_
  refine vm_J.bT (by decide) ?_
  refine vm_J.go vm_q237 (k := 2) (hs := []) (f' := (22, (0, 0), [.ref 152, .int (nI p), .int c, .int x, .int 0], [])) (h' := (G, I, F)) (hs' := []) rfl rfl ?_
  refine vm_J.cnt n (fun k => (22, (0, 0), [.ref 152, .int (nI p), .int c, .int x, .int (nI k)], [])) (fun k => (G, I, F)) (fun k => ∀ i, i < k → ¬ sp_ah (fun z => sp_far m (I 157 (16 * p + z)) c) n i = x) rfl rfl vm_all0 (fun k hk pk ik => ?_) (fun pk => ?_)
  · show vm_J _ _ _ (22, (0, 0), [.ref 152, .int (nI p), .int c, .int x, .int (nI k)], []) (G, I, F) _ _
    refine vm_J.go vm_q237 (k := 5) (hs := [vm_shR, (0, 4, [])]) (f' := (30, (0, 0), [.ref 152, .int (nI p), .int c, .int x, .int (nI k)], [.int (I 156 (nI p).toNatClampNeg), .int (nI k)])) (h' := (G, I, F)) (hs' := []) rfl (vm_b2 rfl (vm_b2 rfl (vm_b2 (vm_b2 (vm_hG hR.c152) rfl) (vm_b2 rfl (vm_b2 (vm_b2 (vm_hG hR.c156) (vm_in_e (j := p) (n := 4) rfl (by omega) (by omega))) rfl))))) ?_
    rw [vm_ix_e (j := p) rfl (by omega)]
    rw [(hn : I 156 p = nI n)]
    refine vm_J.go vm_q237 (k := 1) (hs := []) (f' := (bif vm_ic .ge (nI k) (nI n) then 54 else 33, (0, 0), [.ref 152, .int (nI p), .int c, .int x, .int (nI k)], [])) (h' := (G, I, F)) (hs' := []) rfl rfl ?_
    refine vm_J.br (fun c1 => ?_) (fun c1 => ?_)
    · have c1 := vm_ge_t (a := k) (b := n) (by omega) (by omega) c1
      exact (show False by omega).elim
    · have c1 := vm_ge_f (a := k) (b := n) (by omega) (by omega) c1
      refine vm_J.go vm_q237 (k := 4) (hs := []) (f' := (38, (0, 0), [.ref 152, .int (nI p), .int c, .int x, .int (nI k)], [.int c, .int (nI k), .int (nI p), .ref 152])) (h' := (G, I, F)) (hs' := []) rfl rfl ?_
      refine vm_J.call vm_q237 (Z := vm_M236) (n := 3) (k := 0) (mi := 236) (pc := 38) (en := (38, .invokevirtual 328, 3, [236, 1563, 0], .null)) rfl trivial rfl rfl vm_z236 (av := [.ref 152, .int (nI p), .int (nI k), .int c]) (rest := []) (r_nearer (p := p) (n := n) (e := k) (c := c) (m := m) hR hn (by omega) (by omega) (by omega) hz hm) ⟨_, _, rfl, rfl, _, 11, _, hR.c152, rfl, rfl, rfl⟩ (Nat.le_of_ble_eq_true rfl) ⟨Nat.le_of_ble_eq_true rfl, Nat.le_of_ble_eq_true rfl⟩ ⟨Nat.le_of_ble_eq_true rfl, Nat.le_of_ble_eq_true rfl⟩ ?_
      show vm_J _ _ _ (41, (0, 0), [.ref 152, .int (nI p), .int c, .int x, .int (nI k)], [.int (sp_ah (fun z => sp_far m (I 157 (16 * p + z)) c) n k)]) (G, I, F) _ _
      refine vm_J.go vm_q237 (k := 2) (hs := []) (f' := (bif vm_ic .ne (sp_ah (fun z => sp_far m (I 157 (16 * p + z)) c) n k) x then 48 else 45, (0, 0), [.ref 152, .int (nI p), .int c, .int x, .int (nI k)], [])) (h' := (G, I, F)) (hs' := []) rfl rfl ?_
      refine vm_J.br (fun c2 => ?_) (fun c2 => ?_)
      · have c2 : ¬ (sp_ah (fun z => sp_far m (I 157 (16 * p + z)) c) n k) = x := of_decide_eq_true c2
        refine vm_J.go vm_q237 (k := 2) (hs := []) (f' := (22, (0, 0), [.ref 152, .int (nI p), .int c, .int x, .int ((nI k) + 1)], [])) (h' := (G, I, F)) (hs' := []) rfl rfl ?_
        rw [((vm_pa (rfl : nI k = nI k) (rfl : (1 : Int32) = nI 1)) : (nI k) + 1 = nI (k + 1))]
        exact ik (vm_alls (p := fun i => ¬ sp_ah (fun z => sp_far m (I 157 (16 * p + z)) c) n i = x) pk c2)
      · have c2 : (sp_ah (fun z => sp_far m (I 157 (16 * p + z)) c) n k) = x := Decidable.of_not_not (of_decide_eq_false c2)
        refine vm_J.go vm_q237 (k := 1) (hs := []) (f' := (47, (0, 0), [.ref 152, .int (nI p), .int c, .int x, .int (nI k)], [.int (nI k)])) (h' := (G, I, F)) (hs' := []) rfl rfl ?_
        exact vm_J.end vm_q237 (en := (47, .ireturn, 1, [], .null)) rfl (by rw [sp_fo_hit (p := (fun e => sp_ah (fun z => sp_far m (I 157 (16 * p + z)) c) n e = x)) hk pk c2]; rfl) vm_rI (Nat.zero_le _) (Nat.zero_le _) rfl
  · show vm_J _ _ _ (22, (0, 0), [.ref 152, .int (nI p), .int c, .int x, .int (nI n)], []) (G, I, F) _ _
    refine vm_J.go vm_q237 (k := 5) (hs := [vm_shR, (0, 4, [])]) (f' := (30, (0, 0), [.ref 152, .int (nI p), .int c, .int x, .int (nI n)], [.int (I 156 (nI p).toNatClampNeg), .int (nI n)])) (h' := (G, I, F)) (hs' := []) rfl (vm_b2 rfl (vm_b2 rfl (vm_b2 (vm_b2 (vm_hG hR.c152) rfl) (vm_b2 rfl (vm_b2 (vm_b2 (vm_hG hR.c156) (vm_in_e (j := p) (n := 4) rfl (by omega) (by omega))) rfl))))) ?_
    rw [vm_ix_e (j := p) rfl (by omega)]
    rw [(hn : I 156 p = nI n)]
    refine vm_J.go vm_q237 (k := 1) (hs := []) (f' := (bif vm_ic .ge (nI n) (nI n) then 54 else 33, (0, 0), [.ref 152, .int (nI p), .int c, .int x, .int (nI n)], [])) (h' := (G, I, F)) (hs' := []) rfl rfl ?_
    refine vm_J.br (fun c3 => ?_) (fun c3 => ?_)
    · have c3 := vm_ge_t (a := n) (b := n) (by omega) (by omega) c3
      refine vm_J.go vm_q237 (k := 1) (hs := []) (f' := (56, (0, 0), [.ref 152, .int (nI p), .int c, .int x, .int (nI n)], [.int (-2)])) (h' := (G, I, F)) (hs' := []) rfl rfl ?_
      exact vm_J.end vm_q237 (en := (56, .ireturn, 1, [], .null)) rfl (by rw [sp_fo_none (p := (fun e => sp_ah (fun z => sp_far m (I 157 (16 * p + z)) c) n e = x)) pk]; rfl) vm_rI (Nat.zero_le _) (Nat.zero_le _) rfl
    · have c3 := vm_ge_f (a := n) (b := n) (by omega) (by omega) c3
      exact (show False by omega).elim
set_option maxHeartbeats 4000000 in
set_option maxRecDepth 20000 in
/-- DitherDeskModel.rule -/
theorem r_rule_x {l : Launch} {X : vm_Cx} {G : List vm_Sh} {I : Nat → Nat → Int32} {F : Nat → Nat → UInt32} {x : Int32} {v : Int32} (hR : vm_isR G) (hx : ¬ (0 ≤ x ∧ x ≤ 3)) : vm_K l X vm_M233 [.ref 152, .int x, .int v] (G, I, F) (some (.int (-1))) (G, I, F) := by
  refine vm_K.mk (by decide) (Nat.le_of_ble_eq_true rfl) ?_
  show vm_J _ _ _ (0, (0, 0), [.ref 152, .int x, .int v, .retAddr 0], []) _ _ _
  refine vm_J.go vm_q233 (k := 3) (hs := []) (f' := (3, (0, 0), [.ref 152, .int x, .int v, .retAddr 0], [.int 3, .int 0, .int x])) (h' := (G, I, F)) (hs' := []) rfl rfl ?_
  refine vm_J.call vm_q233 (Z := vm_M168) (n := 3) (k := 1) (mi := 168) (pc := 3) (en := (3, .invokestatic 141, 3, [168, 1302, 0], .null)) rfl trivial rfl rfl vm_z168 (av := [.int x, .int 0, .int 3]) (rest := []) (r_isIn_n (v := x) (a := 0) (b := 3) hx) rfl (Nat.le_of_ble_eq_true rfl) ⟨Nat.le_of_ble_eq_true rfl, Nat.le_of_ble_eq_true rfl⟩ ⟨Nat.le_of_ble_eq_true rfl, Nat.le_of_ble_eq_true rfl⟩ ?_
  show vm_J _ _ _ (6, (0, 0), [.ref 152, .int x, .int v, .retAddr 0], [.int 0]) (G, I, F) _ _
  refine vm_J.go vm_q233 (k := 1) (hs := []) (f' := (bif vm_ic .ne 0 0 then 11 else 9, (0, 0), [.ref 152, .int x, .int v, .retAddr 0], [])) (h' := (G, I, F)) (hs' := []) rfl rfl ?_
  refine vm_J.bF (by decide) ?_
  refine vm_J.go vm_q233 (k := 1) (hs := []) (f' := (10, (0, 0), [.ref 152, .int x, .int v, .retAddr 0], [.int (-1)])) (h' := (G, I, F)) (hs' := []) rfl rfl ?_
  exact vm_J.end vm_q233 (en := (10, .ireturn, 1, [], .null)) rfl rfl vm_rI (Nat.zero_le _) (Nat.zero_le _) rfl
set_option maxHeartbeats 4000000 in
set_option maxRecDepth 20000 in
/-- DitherDeskModel.rule -/
theorem r_rule_b0 {l : Launch} {X : vm_Cx} {G : List vm_Sh} {I : Nat → Nat → Int32} {F : Nat → Nat → UInt32} {v : Int32} (hR : vm_isR G) (hv : ¬ (0 ≤ v ∧ v ≤ 3)) : vm_K l X vm_M233 [.ref 152, .int 0, .int v] (G, I, F) (some (.int (-2))) (G, I, F) := by
  refine vm_K.mk (by decide) (Nat.le_of_ble_eq_true rfl) ?_
  show vm_J _ _ _ (0, (0, 0), [.ref 152, .int 0, .int v, .retAddr 0], []) _ _ _
  refine vm_J.go vm_q233 (k := 3) (hs := []) (f' := (3, (0, 0), [.ref 152, .int 0, .int v, .retAddr 0], [.int 3, .int 0, .int 0])) (h' := (G, I, F)) (hs' := []) rfl rfl ?_
  refine vm_J.call vm_q233 (Z := vm_M168) (n := 3) (k := 1) (mi := 168) (pc := 3) (en := (3, .invokestatic 141, 3, [168, 1302, 0], .null)) rfl trivial rfl rfl vm_z168 (av := [.int 0, .int 0, .int 3]) (rest := []) (r_isIn_y (v := 0) (a := 0) (b := 3) (by decide)) rfl (Nat.le_of_ble_eq_true rfl) ⟨Nat.le_of_ble_eq_true rfl, Nat.le_of_ble_eq_true rfl⟩ ⟨Nat.le_of_ble_eq_true rfl, Nat.le_of_ble_eq_true rfl⟩ ?_
  show vm_J _ _ _ (6, (0, 0), [.ref 152, .int 0, .int v, .retAddr 0], [.int 1]) (G, I, F) _ _
  refine vm_J.go vm_q233 (k := 1) (hs := []) (f' := (bif vm_ic .ne 1 0 then 11 else 9, (0, 0), [.ref 152, .int 0, .int v, .retAddr 0], [])) (h' := (G, I, F)) (hs' := []) rfl rfl ?_
  refine vm_J.bT (by decide) ?_
  refine vm_J.go vm_q233 (k := 4) (hs := []) (f' := (bif vm_ic .ne 0 0 then 21 else 17, (0, 0), [.ref 152, .int 0, .int v, .retAddr 0], [.int 0, .int v])) (h' := (G, I, F)) (hs' := []) rfl rfl ?_
  refine vm_J.bF (by decide) ?_
  refine vm_J.go vm_q233 (k := 2) (hs := []) (f' := (41, (0, 0), [.ref 152, .int 0, .int v, .retAddr 0], [.int 3, .int 0, .int v])) (h' := (G, I, F)) (hs' := []) rfl rfl ?_
  refine vm_J.call vm_q233 (Z := vm_M168) (n := 3) (k := 1) (mi := 168) (pc := 41) (en := (41, .invokestatic 141, 3, [168, 1302, 0], .null)) rfl trivial rfl rfl vm_z168 (av := [.int v, .int 0, .int 3]) (rest := []) (r_isIn_n (v := v) (a := 0) (b := 3) hv) rfl (Nat.le_of_ble_eq_true rfl) ⟨Nat.le_of_ble_eq_true rfl, Nat.le_of_ble_eq_true rfl⟩ ⟨Nat.le_of_ble_eq_true rfl, Nat.le_of_ble_eq_true rfl⟩ ?_
  show vm_J _ _ _ (44, (0, 0), [.ref 152, .int 0, .int v, .retAddr 0], [.int 0]) (G, I, F) _ _
  refine vm_J.go vm_q233 (k := 1) (hs := []) (f' := (bif vm_ic .ne 0 0 then 50 else 47, (0, 0), [.ref 152, .int 0, .int v, .retAddr 0], [])) (h' := (G, I, F)) (hs' := []) rfl rfl ?_
  refine vm_J.bF (by decide) ?_
  refine vm_J.go vm_q233 (k := 1) (hs := []) (f' := (49, (0, 0), [.ref 152, .int 0, .int v, .retAddr 0], [.int (-2)])) (h' := (G, I, F)) (hs' := []) rfl rfl ?_
  exact vm_J.end vm_q233 (en := (49, .ireturn, 1, [], .null)) rfl rfl vm_rI (Nat.zero_le _) (Nat.zero_le _) rfl
set_option maxHeartbeats 4000000 in
set_option maxRecDepth 20000 in
/-- DitherDeskModel.rule -/
theorem r_rule_0 {l : Launch} {X : vm_Cx} {G : List vm_Sh} {I : Nat → Nat → Int32} {F : Nat → Nat → UInt32} {v : Int32} (hR : vm_isR G) (hv : 0 ≤ v ∧ v ≤ 3) : vm_K l X vm_M233 [.ref 152, .int 0, .int v] (G, I, F) (some (.int (I 152 6))) (G, (vm_up I 152 6 v), F) := by
  refine vm_K.mk (by decide) (Nat.le_of_ble_eq_true rfl) ?_
  show vm_J _ _ _ (0, (0, 0), [.ref 152, .int 0, .int v, .retAddr 0], []) _ _ _
  refine vm_J.go vm_q233 (k := 3) (hs := []) (f' := (3, (0, 0), [.ref 152, .int 0, .int v, .retAddr 0], [.int 3, .int 0, .int 0])) (h' := (G, I, F)) (hs' := []) rfl rfl ?_
  refine vm_J.call vm_q233 (Z := vm_M168) (n := 3) (k := 1) (mi := 168) (pc := 3) (en := (3, .invokestatic 141, 3, [168, 1302, 0], .null)) rfl trivial rfl rfl vm_z168 (av := [.int 0, .int 0, .int 3]) (rest := []) (r_isIn_y (v := 0) (a := 0) (b := 3) (by decide)) rfl (Nat.le_of_ble_eq_true rfl) ⟨Nat.le_of_ble_eq_true rfl, Nat.le_of_ble_eq_true rfl⟩ ⟨Nat.le_of_ble_eq_true rfl, Nat.le_of_ble_eq_true rfl⟩ ?_
  show vm_J _ _ _ (6, (0, 0), [.ref 152, .int 0, .int v, .retAddr 0], [.int 1]) (G, I, F) _ _
  refine vm_J.go vm_q233 (k := 1) (hs := []) (f' := (bif vm_ic .ne 1 0 then 11 else 9, (0, 0), [.ref 152, .int 0, .int v, .retAddr 0], [])) (h' := (G, I, F)) (hs' := []) rfl rfl ?_
  refine vm_J.bT (by decide) ?_
  refine vm_J.go vm_q233 (k := 4) (hs := []) (f' := (bif vm_ic .ne 0 0 then 21 else 17, (0, 0), [.ref 152, .int 0, .int v, .retAddr 0], [.int 0, .int v])) (h' := (G, I, F)) (hs' := []) rfl rfl ?_
  refine vm_J.bF (by decide) ?_
  refine vm_J.go vm_q233 (k := 2) (hs := []) (f' := (41, (0, 0), [.ref 152, .int 0, .int v, .retAddr 0], [.int 3, .int 0, .int v])) (h' := (G, I, F)) (hs' := []) rfl rfl ?_
  refine vm_J.call vm_q233 (Z := vm_M168) (n := 3) (k := 1) (mi := 168) (pc := 41) (en := (41, .invokestatic 141, 3, [168, 1302, 0], .null)) rfl trivial rfl rfl vm_z168 (av := [.int v, .int 0, .int 3]) (rest := []) (r_isIn_y (v := v) (a := 0) (b := 3) hv) rfl (Nat.le_of_ble_eq_true rfl) ⟨Nat.le_of_ble_eq_true rfl, Nat.le_of_ble_eq_true rfl⟩ ⟨Nat.le_of_ble_eq_true rfl, Nat.le_of_ble_eq_true rfl⟩ ?_
  show vm_J _ _ _ (44, (0, 0), [.ref 152, .int 0, .int v, .retAddr 0], [.int 1]) (G, I, F) _ _
  refine vm_J.go vm_q233 (k := 1) (hs := []) (f' := (bif vm_ic .ne 1 0 then 50 else 47, (0, 0), [.ref 152, .int 0, .int v, .retAddr 0], [])) (h' := (G, I, F)) (hs' := []) rfl rfl ?_
  refine vm_J.bT (by decide) ?_
  refine vm_J.go vm_q233 (k := 2) (hs := []) (f' := (bif vm_ic .ne 0 0 then 61 else 54, (0, 0), [.ref 152, .int 0, .int v, .retAddr 0], [])) (h' := (G, I, F)) (hs' := []) rfl rfl ?_
  refine vm_J.bF (by decide) ?_
  refine vm_J.go vm_q233 (k := 6) (hs := [vm_shR]) (f' := (bif vm_ic .ne 0 0 then 99 else 94, (0, 0), [.ref 152, .int 0, .int v, .int (I 152 6)], [])) (h' := (G, I, F)) (hs' := []) rfl (vm_b2 rfl (vm_b2 (vm_b2 (vm_hG hR.c152) rfl) (vm_b2 rfl (vm_b2 rfl (vm_b2 rfl (vm_b2 rfl rfl)))))) ?_
  refine vm_J.bF (by decide) ?_
  refine vm_J.go vm_q233 (k := 6) (hs := [vm_shR]) (f' := (bif vm_ic .ne 0 1 then 109 else 104, (0, 0), [.ref 152, .int 0, .int v, .int (I 152 6)], [])) (h' := (G, (vm_up I 152 6 v), F)) (hs' := []) rfl (vm_b2 rfl (vm_b2 rfl (vm_b2 (vm_b2 (vm_b2 (vm_hG hR.c152) rfl) rfl) (vm_b2 rfl (vm_b2 rfl (vm_b2 rfl rfl)))))) ?_
  refine vm_J.bT (by decide) ?_
  refine vm_J.go vm_q233 (k := 3) (hs := []) (f' := (bif vm_ic .ne 0 2 then 119 else 114, (0, 0), [.ref 152, .int 0, .int v, .int (I 152 6)], [])) (h' := (G, (vm_up I 152 6 v), F)) (hs' := []) rfl rfl ?_
  refine vm_J.bT (by decide) ?_
  refine vm_J.go vm_q233 (k := 3) (hs := []) (f' := (bif vm_ic .ne 0 3 then 129 else 124, (0, 0), [.ref 152, .int 0, .int v, .int (I 152 6)], [])) (h' := (G, (vm_up I 152 6 v), F)) (hs' := []) rfl rfl ?_
  refine vm_J.bT (by decide) ?_
  refine vm_J.go vm_q233 (k := 1) (hs := []) (f' := (130, (0, 0), [.ref 152, .int 0, .int v, .int (I 152 6)], [.int (I 152 6)])) (h' := (G, (vm_up I 152 6 v), F)) (hs' := []) rfl rfl ?_
  exact vm_J.end vm_q233 (en := (130, .ireturn, 1, [], .null)) rfl rfl vm_rI (Nat.zero_le _) (Nat.zero_le _) rfl
set_option maxHeartbeats 4000000 in
set_option maxRecDepth 20000 in
/-- DitherDeskModel.rule -/
theorem r_rule_b1 {l : Launch} {X : vm_Cx} {G : List vm_Sh} {I : Nat → Nat → Int32} {F : Nat → Nat → UInt32} {v : Int32} (hR : vm_isR G) (hv : ¬ (0 ≤ v ∧ v ≤ 4)) : vm_K l X vm_M233 [.ref 152, .int 1, .int v] (G, I, F) (some (.int (-2))) (G, I, F) := by
  refine vm_K.mk (by decide) (Nat.le_of_ble_eq_true rfl) ?_
  show vm_J _ _ _ (0, (0, 0), [.ref 152, .int 1, .int v, .retAddr 0], []) _ _ _
  refine vm_J.go vm_q233 (k := 3) (hs := []) (f' := (3, (0, 0), [.ref 152, .int 1, .int v, .retAddr 0], [.int 3, .int 0, .int 1])) (h' := (G, I, F)) (hs' := []) rfl rfl ?_
  refine vm_J.call vm_q233 (Z := vm_M168) (n := 3) (k := 1) (mi := 168) (pc := 3) (en := (3, .invokestatic 141, 3, [168, 1302, 0], .null)) rfl trivial rfl rfl vm_z168 (av := [.int 1, .int 0, .int 3]) (rest := []) (r_isIn_y (v := 1) (a := 0) (b := 3) (by decide)) rfl (Nat.le_of_ble_eq_true rfl) ⟨Nat.le_of_ble_eq_true rfl, Nat.le_of_ble_eq_true rfl⟩ ⟨Nat.le_of_ble_eq_true rfl, Nat.le_of_ble_eq_true rfl⟩ ?_
  show vm_J _ _ _ (6, (0, 0), [.ref 152, .int 1, .int v, .retAddr 0], [.int 1]) (G, I, F) _ _
  refine vm_J.go vm_q233 (k := 1) (hs := []) (f' := (bif vm_ic .ne 1 0 then 11 else 9, (0, 0), [.ref 152, .int 1, .int v, .retAddr 0], [])) (h' := (G, I, F)) (hs' := []) rfl rfl ?_
  refine vm_J.bT (by decide) ?_
  refine vm_J.go vm_q233 (k := 4) (hs := []) (f' := (bif vm_ic .ne 1 0 then 21 else 17, (0, 0), [.ref 152, .int 1, .int v, .retAddr 0], [.int 0, .int v])) (h' := (G, I, F)) (hs' := []) rfl rfl ?_
  refine vm_J.bT (by decide) ?_
  refine vm_J.go vm_q233 (k := 3) (hs := []) (f' := (bif vm_ic .ne 1 1 then 30 else 26, (0, 0), [.ref 152, .int 1, .int v, .retAddr 0], [.int 0, .int v])) (h' := (G, I, F)) (hs' := []) rfl rfl ?_
  refine vm_J.bF (by decide) ?_
  refine vm_J.go vm_q233 (k := 2) (hs := []) (f' := (41, (0, 0), [.ref 152, .int 1, .int v, .retAddr 0], [.int 4, .int 0, .int v])) (h' := (G, I, F)) (hs' := []) rfl rfl ?_
  refine vm_J.call vm_q233 (Z := vm_M168) (n := 3) (k := 1) (mi := 168) (pc := 41) (en := (41, .invokestatic 141, 3, [168, 1302, 0], .null)) rfl trivial rfl rfl vm_z168 (av := [.int v, .int 0, .int 4]) (rest := []) (r_isIn_n (v := v) (a := 0) (b := 4) hv) rfl (Nat.le_of_ble_eq_true rfl) ⟨Nat.le_of_ble_eq_true rfl, Nat.le_of_ble_eq_true rfl⟩ ⟨Nat.le_of_ble_eq_true rfl, Nat.le_of_ble_eq_true rfl⟩ ?_
  show vm_J _ _ _ (44, (0, 0), [.ref 152, .int 1, .int v, .retAddr 0], [.int 0]) (G, I, F) _ _
  refine vm_J.go vm_q233 (k := 1) (hs := []) (f' := (bif vm_ic .ne 0 0 then 50 else 47, (0, 0), [.ref 152, .int 1, .int v, .retAddr 0], [])) (h' := (G, I, F)) (hs' := []) rfl rfl ?_
  refine vm_J.bF (by decide) ?_
  refine vm_J.go vm_q233 (k := 1) (hs := []) (f' := (49, (0, 0), [.ref 152, .int 1, .int v, .retAddr 0], [.int (-2)])) (h' := (G, I, F)) (hs' := []) rfl rfl ?_
  exact vm_J.end vm_q233 (en := (49, .ireturn, 1, [], .null)) rfl rfl vm_rI (Nat.zero_le _) (Nat.zero_le _) rfl
set_option maxHeartbeats 4000000 in
set_option maxRecDepth 20000 in
/-- DitherDeskModel.rule -/
theorem r_rule_1 {l : Launch} {X : vm_Cx} {G : List vm_Sh} {I : Nat → Nat → Int32} {F : Nat → Nat → UInt32} {v : Int32} (hR : vm_isR G) (hv : 0 ≤ v ∧ v ≤ 4) : vm_K l X vm_M233 [.ref 152, .int 1, .int v] (G, I, F) (some (.int (I 152 7))) (G, (vm_up I 152 7 v), F) := by
  refine vm_K.mk (by decide) (Nat.le_of_ble_eq_true rfl) ?_
  show vm_J _ _ _ (0, (0, 0), [.ref 152, .int 1, .int v, .retAddr 0], []) _ _ _
  refine vm_J.go vm_q233 (k := 3) (hs := []) (f' := (3, (0, 0), [.ref 152, .int 1, .int v, .retAddr 0], [.int 3, .int 0, .int 1])) (h' := (G, I, F)) (hs' := []) rfl rfl ?_
  refine vm_J.call vm_q233 (Z := vm_M168) (n := 3) (k := 1) (mi := 168) (pc := 3) (en := (3, .invokestatic 141, 3, [168, 1302, 0], .null)) rfl trivial rfl rfl vm_z168 (av := [.int 1, .int 0, .int 3]) (rest := []) (r_isIn_y (v := 1) (a := 0) (b := 3) (by decide)) rfl (Nat.le_of_ble_eq_true rfl) ⟨Nat.le_of_ble_eq_true rfl, Nat.le_of_ble_eq_true rfl⟩ ⟨Nat.le_of_ble_eq_true rfl, Nat.le_of_ble_eq_true rfl⟩ ?_
  show vm_J _ _ _ (6, (0, 0), [.ref 152, .int 1, .int v, .retAddr 0], [.int 1]) (G, I, F) _ _
  refine vm_J.go vm_q233 (k := 1) (hs := []) (f' := (bif vm_ic .ne 1 0 then 11 else 9, (0, 0), [.ref 152, .int 1, .int v, .retAddr 0], [])) (h' := (G, I, F)) (hs' := []) rfl rfl ?_
  refine vm_J.bT (by decide) ?_
  refine vm_J.go vm_q233 (k := 4) (hs := []) (f' := (bif vm_ic .ne 1 0 then 21 else 17, (0, 0), [.ref 152, .int 1, .int v, .retAddr 0], [.int 0, .int v])) (h' := (G, I, F)) (hs' := []) rfl rfl ?_
  refine vm_J.bT (by decide) ?_
  refine vm_J.go vm_q233 (k := 3) (hs := []) (f' := (bif vm_ic .ne 1 1 then 30 else 26, (0, 0), [.ref 152, .int 1, .int v, .retAddr 0], [.int 0, .int v])) (h' := (G, I, F)) (hs' := []) rfl rfl ?_
  refine vm_J.bF (by decide) ?_
  refine vm_J.go vm_q233 (k := 2) (hs := []) (f' := (41, (0, 0), [.ref 152, .int 1, .int v, .retAddr 0], [.int 4, .int 0, .int v])) (h' := (G, I, F)) (hs' := []) rfl rfl ?_
  refine vm_J.call vm_q233 (Z := vm_M168) (n := 3) (k := 1) (mi := 168) (pc := 41) (en := (41, .invokestatic 141, 3, [168, 1302, 0], .null)) rfl trivial rfl rfl vm_z168 (av := [.int v, .int 0, .int 4]) (rest := []) (r_isIn_y (v := v) (a := 0) (b := 4) hv) rfl (Nat.le_of_ble_eq_true rfl) ⟨Nat.le_of_ble_eq_true rfl, Nat.le_of_ble_eq_true rfl⟩ ⟨Nat.le_of_ble_eq_true rfl, Nat.le_of_ble_eq_true rfl⟩ ?_
  show vm_J _ _ _ (44, (0, 0), [.ref 152, .int 1, .int v, .retAddr 0], [.int 1]) (G, I, F) _ _
  refine vm_J.go vm_q233 (k := 1) (hs := []) (f' := (bif vm_ic .ne 1 0 then 50 else 47, (0, 0), [.ref 152, .int 1, .int v, .retAddr 0], [])) (h' := (G, I, F)) (hs' := []) rfl rfl ?_
  refine vm_J.bT (by decide) ?_
  refine vm_J.go vm_q233 (k := 2) (hs := []) (f' := (bif vm_ic .ne 1 0 then 61 else 54, (0, 0), [.ref 152, .int 1, .int v, .retAddr 0], [])) (h' := (G, I, F)) (hs' := []) rfl rfl ?_
  refine vm_J.bT (by decide) ?_
  refine vm_J.go vm_q233 (k := 3) (hs := []) (f' := (bif vm_ic .ne 1 1 then 73 else 66, (0, 0), [.ref 152, .int 1, .int v, .retAddr 0], [])) (h' := (G, I, F)) (hs' := []) rfl rfl ?_
  refine vm_J.bF (by decide) ?_
  refine vm_J.go vm_q233 (k := 6) (hs := [vm_shR]) (f' := (bif vm_ic .ne 1 0 then 99 else 94, (0, 0), [.ref 152, .int 1, .int v, .int (I 152 7)], [])) (h' := (G, I, F)) (hs' := []) rfl (vm_b2 rfl (vm_b2 (vm_b2 (vm_hG hR.c152) rfl) (vm_b2 rfl (vm_b2 rfl (vm_b2 rfl (vm_b2 rfl rfl)))))) ?_
  refine vm_J.bT (by decide) ?_
  refine vm_J.go vm_q233 (k := 3) (hs := []) (f' := (bif vm_ic .ne 1 1 then 109 else 104, (0, 0), [.ref 152, .int 1, .int v, .int (I 152 7)], [])) (h' := (G, I, F)) (hs' := []) rfl rfl ?_
  refine vm_J.bF (by decide) ?_
  refine vm_J.go vm_q233 (k := 6) (hs := [vm_shR]) (f' := (bif vm_ic .ne 1 2 then 119 else 114, (0, 0), [.ref 152, .int 1, .int v, .int (I 152 7)], [])) (h' := (G, (vm_up I 152 7 v), F)) (hs' := []) rfl (vm_b2 rfl (vm_b2 rfl (vm_b2 (vm_b2 (vm_b2 (vm_hG hR.c152) rfl) rfl) (vm_b2 rfl (vm_b2 rfl (vm_b2 rfl rfl)))))) ?_
  refine vm_J.bT (by decide) ?_
  refine vm_J.go vm_q233 (k := 3) (hs := []) (f' := (bif vm_ic .ne 1 3 then 129 else 124, (0, 0), [.ref 152, .int 1, .int v, .int (I 152 7)], [])) (h' := (G, (vm_up I 152 7 v), F)) (hs' := []) rfl rfl ?_
  refine vm_J.bT (by decide) ?_
  refine vm_J.go vm_q233 (k := 1) (hs := []) (f' := (130, (0, 0), [.ref 152, .int 1, .int v, .int (I 152 7)], [.int (I 152 7)])) (h' := (G, (vm_up I 152 7 v), F)) (hs' := []) rfl rfl ?_
  exact vm_J.end vm_q233 (en := (130, .ireturn, 1, [], .null)) rfl rfl vm_rI (Nat.zero_le _) (Nat.zero_le _) rfl
set_option maxHeartbeats 4000000 in
set_option maxRecDepth 20000 in
/-- DitherDeskModel.rule -/
theorem r_rule_b2 {l : Launch} {X : vm_Cx} {G : List vm_Sh} {I : Nat → Nat → Int32} {F : Nat → Nat → UInt32} {v : Int32} (hR : vm_isR G) (hv : ¬ (0 ≤ v ∧ v ≤ 2)) : vm_K l X vm_M233 [.ref 152, .int 2, .int v] (G, I, F) (some (.int (-2))) (G, I, F) := by
  refine vm_K.mk (by decide) (Nat.le_of_ble_eq_true rfl) ?_
  show vm_J _ _ _ (0, (0, 0), [.ref 152, .int 2, .int v, .retAddr 0], []) _ _ _
  refine vm_J.go vm_q233 (k := 3) (hs := []) (f' := (3, (0, 0), [.ref 152, .int 2, .int v, .retAddr 0], [.int 3, .int 0, .int 2])) (h' := (G, I, F)) (hs' := []) rfl rfl ?_
  refine vm_J.call vm_q233 (Z := vm_M168) (n := 3) (k := 1) (mi := 168) (pc := 3) (en := (3, .invokestatic 141, 3, [168, 1302, 0], .null)) rfl trivial rfl rfl vm_z168 (av := [.int 2, .int 0, .int 3]) (rest := []) (r_isIn_y (v := 2) (a := 0) (b := 3) (by decide)) rfl (Nat.le_of_ble_eq_true rfl) ⟨Nat.le_of_ble_eq_true rfl, Nat.le_of_ble_eq_true rfl⟩ ⟨Nat.le_of_ble_eq_true rfl, Nat.le_of_ble_eq_true rfl⟩ ?_
  show vm_J _ _ _ (6, (0, 0), [.ref 152, .int 2, .int v, .retAddr 0], [.int 1]) (G, I, F) _ _
  refine vm_J.go vm_q233 (k := 1) (hs := []) (f' := (bif vm_ic .ne 1 0 then 11 else 9, (0, 0), [.ref 152, .int 2, .int v, .retAddr 0], [])) (h' := (G, I, F)) (hs' := []) rfl rfl ?_
  refine vm_J.bT (by decide) ?_
  refine vm_J.go vm_q233 (k := 4) (hs := []) (f' := (bif vm_ic .ne 2 0 then 21 else 17, (0, 0), [.ref 152, .int 2, .int v, .retAddr 0], [.int 0, .int v])) (h' := (G, I, F)) (hs' := []) rfl rfl ?_
  refine vm_J.bT (by decide) ?_
  refine vm_J.go vm_q233 (k := 3) (hs := []) (f' := (bif vm_ic .ne 2 1 then 30 else 26, (0, 0), [.ref 152, .int 2, .int v, .retAddr 0], [.int 0, .int v])) (h' := (G, I, F)) (hs' := []) rfl rfl ?_
  refine vm_J.bT (by decide) ?_
  refine vm_J.go vm_q233 (k := 3) (hs := []) (f' := (bif vm_ic .ne 2 2 then 39 else 35, (0, 0), [.ref 152, .int 2, .int v, .retAddr 0], [.int 0, .int v])) (h' := (G, I, F)) (hs' := []) rfl rfl ?_
  refine vm_J.bF (by decide) ?_
  refine vm_J.go vm_q233 (k := 2) (hs := []) (f' := (41, (0, 0), [.ref 152, .int 2, .int v, .retAddr 0], [.int 2, .int 0, .int v])) (h' := (G, I, F)) (hs' := []) rfl rfl ?_
  refine vm_J.call vm_q233 (Z := vm_M168) (n := 3) (k := 1) (mi := 168) (pc := 41) (en := (41, .invokestatic 141, 3, [168, 1302, 0], .null)) rfl trivial rfl rfl vm_z168 (av := [.int v, .int 0, .int 2]) (rest := []) (r_isIn_n (v := v) (a := 0) (b := 2) hv) rfl (Nat.le_of_ble_eq_true rfl) ⟨Nat.le_of_ble_eq_true rfl, Nat.le_of_ble_eq_true rfl⟩ ⟨Nat.le_of_ble_eq_true rfl, Nat.le_of_ble_eq_true rfl⟩ ?_
  show vm_J _ _ _ (44, (0, 0), [.ref 152, .int 2, .int v, .retAddr 0], [.int 0]) (G, I, F) _ _
  refine vm_J.go vm_q233 (k := 1) (hs := []) (f' := (bif vm_ic .ne 0 0 then 50 else 47, (0, 0), [.ref 152, .int 2, .int v, .retAddr 0], [])) (h' := (G, I, F)) (hs' := []) rfl rfl ?_
  refine vm_J.bF (by decide) ?_
  refine vm_J.go vm_q233 (k := 1) (hs := []) (f' := (49, (0, 0), [.ref 152, .int 2, .int v, .retAddr 0], [.int (-2)])) (h' := (G, I, F)) (hs' := []) rfl rfl ?_
  exact vm_J.end vm_q233 (en := (49, .ireturn, 1, [], .null)) rfl rfl vm_rI (Nat.zero_le _) (Nat.zero_le _) rfl
set_option maxHeartbeats 4000000 in
set_option maxRecDepth 20000 in
/-- DitherDeskModel.rule -/
theorem r_rule_2 {l : Launch} {X : vm_Cx} {G : List vm_Sh} {I : Nat → Nat → Int32} {F : Nat → Nat → UInt32} {v : Int32} (hR : vm_isR G) (hv : 0 ≤ v ∧ v ≤ 2) : vm_K l X vm_M233 [.ref 152, .int 2, .int v] (G, I, F) (some (.int (I 152 8))) (G, (vm_up I 152 8 v), F) := by
  refine vm_K.mk (by decide) (Nat.le_of_ble_eq_true rfl) ?_
  show vm_J _ _ _ (0, (0, 0), [.ref 152, .int 2, .int v, .retAddr 0], []) _ _ _
  refine vm_J.go vm_q233 (k := 3) (hs := []) (f' := (3, (0, 0), [.ref 152, .int 2, .int v, .retAddr 0], [.int 3, .int 0, .int 2])) (h' := (G, I, F)) (hs' := []) rfl rfl ?_
  refine vm_J.call vm_q233 (Z := vm_M168) (n := 3) (k := 1) (mi := 168) (pc := 3) (en := (3, .invokestatic 141, 3, [168, 1302, 0], .null)) rfl trivial rfl rfl vm_z168 (av := [.int 2, .int 0, .int 3]) (rest := []) (r_isIn_y (v := 2) (a := 0) (b := 3) (by decide)) rfl (Nat.le_of_ble_eq_true rfl) ⟨Nat.le_of_ble_eq_true rfl, Nat.le_of_ble_eq_true rfl⟩ ⟨Nat.le_of_ble_eq_true rfl, Nat.le_of_ble_eq_true rfl⟩ ?_
  show vm_J _ _ _ (6, (0, 0), [.ref 152, .int 2, .int v, .retAddr 0], [.int 1]) (G, I, F) _ _
  refine vm_J.go vm_q233 (k := 1) (hs := []) (f' := (bif vm_ic .ne 1 0 then 11 else 9, (0, 0), [.ref 152, .int 2, .int v, .retAddr 0], [])) (h' := (G, I, F)) (hs' := []) rfl rfl ?_
  refine vm_J.bT (by decide) ?_
  refine vm_J.go vm_q233 (k := 4) (hs := []) (f' := (bif vm_ic .ne 2 0 then 21 else 17, (0, 0), [.ref 152, .int 2, .int v, .retAddr 0], [.int 0, .int v])) (h' := (G, I, F)) (hs' := []) rfl rfl ?_
  refine vm_J.bT (by decide) ?_
  refine vm_J.go vm_q233 (k := 3) (hs := []) (f' := (bif vm_ic .ne 2 1 then 30 else 26, (0, 0), [.ref 152, .int 2, .int v, .retAddr 0], [.int 0, .int v])) (h' := (G, I, F)) (hs' := []) rfl rfl ?_
  refine vm_J.bT (by decide) ?_
  refine vm_J.go vm_q233 (k := 3) (hs := []) (f' := (bif vm_ic .ne 2 2 then 39 else 35, (0, 0), [.ref 152, .int 2, .int v, .retAddr 0], [.int 0, .int v])) (h' := (G, I, F)) (hs' := []) rfl rfl ?_
  refine vm_J.bF (by decide) ?_
  refine vm_J.go vm_q233 (k := 2) (hs := []) (f' := (41, (0, 0), [.ref 152, .int 2, .int v, .retAddr 0], [.int 2, .int 0, .int v])) (h' := (G, I, F)) (hs' := []) rfl rfl ?_
  refine vm_J.call vm_q233 (Z := vm_M168) (n := 3) (k := 1) (mi := 168) (pc := 41) (en := (41, .invokestatic 141, 3, [168, 1302, 0], .null)) rfl trivial rfl rfl vm_z168 (av := [.int v, .int 0, .int 2]) (rest := []) (r_isIn_y (v := v) (a := 0) (b := 2) hv) rfl (Nat.le_of_ble_eq_true rfl) ⟨Nat.le_of_ble_eq_true rfl, Nat.le_of_ble_eq_true rfl⟩ ⟨Nat.le_of_ble_eq_true rfl, Nat.le_of_ble_eq_true rfl⟩ ?_
  show vm_J _ _ _ (44, (0, 0), [.ref 152, .int 2, .int v, .retAddr 0], [.int 1]) (G, I, F) _ _
  refine vm_J.go vm_q233 (k := 1) (hs := []) (f' := (bif vm_ic .ne 1 0 then 50 else 47, (0, 0), [.ref 152, .int 2, .int v, .retAddr 0], [])) (h' := (G, I, F)) (hs' := []) rfl rfl ?_
  refine vm_J.bT (by decide) ?_
  refine vm_J.go vm_q233 (k := 2) (hs := []) (f' := (bif vm_ic .ne 2 0 then 61 else 54, (0, 0), [.ref 152, .int 2, .int v, .retAddr 0], [])) (h' := (G, I, F)) (hs' := []) rfl rfl ?_
  refine vm_J.bT (by decide) ?_
  refine vm_J.go vm_q233 (k := 3) (hs := []) (f' := (bif vm_ic .ne 2 1 then 73 else 66, (0, 0), [.ref 152, .int 2, .int v, .retAddr 0], [])) (h' := (G, I, F)) (hs' := []) rfl rfl ?_
  refine vm_J.bT (by decide) ?_
  refine vm_J.go vm_q233 (k := 3) (hs := []) (f' := (bif vm_ic .ne 2 2 then 85 else 78, (0, 0), [.ref 152, .int 2, .int v, .retAddr 0], [])) (h' := (G, I, F)) (hs' := []) rfl rfl ?_
  refine vm_J.bF (by decide) ?_
  refine vm_J.go vm_q233 (k := 6) (hs := [vm_shR]) (f' := (bif vm_ic .ne 2 0 then 99 else 94, (0, 0), [.ref 152, .int 2, .int v, .int (I 152 8)], [])) (h' := (G, I, F)) (hs' := []) rfl (vm_b2 rfl (vm_b2 (vm_b2 (vm_hG hR.c152) rfl) (vm_b2 rfl (vm_b2 rfl (vm_b2 rfl (vm_b2 rfl rfl)))))) ?_
  refine vm_J.bT (by decide) ?_
  refine vm_J.go vm_q233 (k := 3) (hs := []) (f' := (bif vm_ic .ne 2 1 then 109 else 104, (0, 0), [.ref 152, .int 2, .int v, .int (I 152 8)], [])) (h' := (G, I, F)) (hs' := []) rfl rfl ?_
  refine vm_J.bT (by decide) ?_
  refine vm_J.go vm_q233 (k := 3) (hs := []) (f' := (bif vm_ic .ne 2 2 then 119 else 114, (0, 0), [.ref 152, .int 2, .int v, .int (I 152 8)], [])) (h' := (G, I, F)) (hs' := []) rfl rfl ?_
  refine vm_J.bF (by decide) ?_
  refine vm_J.go vm_q233 (k := 6) (hs := [vm_shR]) (f' := (bif vm_ic .ne 2 3 then 129 else 124, (0, 0), [.ref 152, .int 2, .int v, .int (I 152 8)], [])) (h' := (G, (vm_up I 152 8 v), F)) (hs' := []) rfl (vm_b2 rfl (vm_b2 rfl (vm_b2 (vm_b2 (vm_b2 (vm_hG hR.c152) rfl) rfl) (vm_b2 rfl (vm_b2 rfl (vm_b2 rfl rfl)))))) ?_
  refine vm_J.bT (by decide) ?_
  refine vm_J.go vm_q233 (k := 1) (hs := []) (f' := (130, (0, 0), [.ref 152, .int 2, .int v, .int (I 152 8)], [.int (I 152 8)])) (h' := (G, (vm_up I 152 8 v), F)) (hs' := []) rfl rfl ?_
  exact vm_J.end vm_q233 (en := (130, .ireturn, 1, [], .null)) rfl rfl vm_rI (Nat.zero_le _) (Nat.zero_le _) rfl
set_option maxHeartbeats 4000000 in
set_option maxRecDepth 20000 in
/-- DitherDeskModel.rule -/
theorem r_rule_b3 {l : Launch} {X : vm_Cx} {G : List vm_Sh} {I : Nat → Nat → Int32} {F : Nat → Nat → UInt32} {v : Int32} (hR : vm_isR G) (hv : ¬ (0 ≤ v ∧ v ≤ 63)) : vm_K l X vm_M233 [.ref 152, .int 3, .int v] (G, I, F) (some (.int (-2))) (G, I, F) := by
  refine vm_K.mk (by decide) (Nat.le_of_ble_eq_true rfl) ?_
  show vm_J _ _ _ (0, (0, 0), [.ref 152, .int 3, .int v, .retAddr 0], []) _ _ _
  refine vm_J.go vm_q233 (k := 3) (hs := []) (f' := (3, (0, 0), [.ref 152, .int 3, .int v, .retAddr 0], [.int 3, .int 0, .int 3])) (h' := (G, I, F)) (hs' := []) rfl rfl ?_
  refine vm_J.call vm_q233 (Z := vm_M168) (n := 3) (k := 1) (mi := 168) (pc := 3) (en := (3, .invokestatic 141, 3, [168, 1302, 0], .null)) rfl trivial rfl rfl vm_z168 (av := [.int 3, .int 0, .int 3]) (rest := []) (r_isIn_y (v := 3) (a := 0) (b := 3) (by decide)) rfl (Nat.le_of_ble_eq_true rfl) ⟨Nat.le_of_ble_eq_true rfl, Nat.le_of_ble_eq_true rfl⟩ ⟨Nat.le_of_ble_eq_true rfl, Nat.le_of_ble_eq_true rfl⟩ ?_
  show vm_J _ _ _ (6, (0, 0), [.ref 152, .int 3, .int v, .retAddr 0], [.int 1]) (G, I, F) _ _
  refine vm_J.go vm_q233 (k := 1) (hs := []) (f' := (bif vm_ic .ne 1 0 then 11 else 9, (0, 0), [.ref 152, .int 3, .int v, .retAddr 0], [])) (h' := (G, I, F)) (hs' := []) rfl rfl ?_
  refine vm_J.bT (by decide) ?_
  refine vm_J.go vm_q233 (k := 4) (hs := []) (f' := (bif vm_ic .ne 3 0 then 21 else 17, (0, 0), [.ref 152, .int 3, .int v, .retAddr 0], [.int 0, .int v])) (h' := (G, I, F)) (hs' := []) rfl rfl ?_
  refine vm_J.bT (by decide) ?_
  refine vm_J.go vm_q233 (k := 3) (hs := []) (f' := (bif vm_ic .ne 3 1 then 30 else 26, (0, 0), [.ref 152, .int 3, .int v, .retAddr 0], [.int 0, .int v])) (h' := (G, I, F)) (hs' := []) rfl rfl ?_
  refine vm_J.bT (by decide) ?_
  refine vm_J.go vm_q233 (k := 3) (hs := []) (f' := (bif vm_ic .ne 3 2 then 39 else 35, (0, 0), [.ref 152, .int 3, .int v, .retAddr 0], [.int 0, .int v])) (h' := (G, I, F)) (hs' := []) rfl rfl ?_
  refine vm_J.bT (by decide) ?_
  refine vm_J.go vm_q233 (k := 1) (hs := []) (f' := (41, (0, 0), [.ref 152, .int 3, .int v, .retAddr 0], [.int 63, .int 0, .int v])) (h' := (G, I, F)) (hs' := []) rfl rfl ?_
  refine vm_J.call vm_q233 (Z := vm_M168) (n := 3) (k := 1) (mi := 168) (pc := 41) (en := (41, .invokestatic 141, 3, [168, 1302, 0], .null)) rfl trivial rfl rfl vm_z168 (av := [.int v, .int 0, .int 63]) (rest := []) (r_isIn_n (v := v) (a := 0) (b := 63) hv) rfl (Nat.le_of_ble_eq_true rfl) ⟨Nat.le_of_ble_eq_true rfl, Nat.le_of_ble_eq_true rfl⟩ ⟨Nat.le_of_ble_eq_true rfl, Nat.le_of_ble_eq_true rfl⟩ ?_
  show vm_J _ _ _ (44, (0, 0), [.ref 152, .int 3, .int v, .retAddr 0], [.int 0]) (G, I, F) _ _
  refine vm_J.go vm_q233 (k := 1) (hs := []) (f' := (bif vm_ic .ne 0 0 then 50 else 47, (0, 0), [.ref 152, .int 3, .int v, .retAddr 0], [])) (h' := (G, I, F)) (hs' := []) rfl rfl ?_
  refine vm_J.bF (by decide) ?_
  refine vm_J.go vm_q233 (k := 1) (hs := []) (f' := (49, (0, 0), [.ref 152, .int 3, .int v, .retAddr 0], [.int (-2)])) (h' := (G, I, F)) (hs' := []) rfl rfl ?_
  exact vm_J.end vm_q233 (en := (49, .ireturn, 1, [], .null)) rfl rfl vm_rI (Nat.zero_le _) (Nat.zero_le _) rfl
set_option maxHeartbeats 4000000 in
set_option maxRecDepth 20000 in
/-- DitherDeskModel.rule -/
theorem r_rule_3 {l : Launch} {X : vm_Cx} {G : List vm_Sh} {I : Nat → Nat → Int32} {F : Nat → Nat → UInt32} {v : Int32} (hR : vm_isR G) (hv : 0 ≤ v ∧ v ≤ 63) : vm_K l X vm_M233 [.ref 152, .int 3, .int v] (G, I, F) (some (.int (I 152 9))) (G, (vm_up I 152 9 v), F) := by
  refine vm_K.mk (by decide) (Nat.le_of_ble_eq_true rfl) ?_
  show vm_J _ _ _ (0, (0, 0), [.ref 152, .int 3, .int v, .retAddr 0], []) _ _ _
  refine vm_J.go vm_q233 (k := 3) (hs := []) (f' := (3, (0, 0), [.ref 152, .int 3, .int v, .retAddr 0], [.int 3, .int 0, .int 3])) (h' := (G, I, F)) (hs' := []) rfl rfl ?_
  refine vm_J.call vm_q233 (Z := vm_M168) (n := 3) (k := 1) (mi := 168) (pc := 3) (en := (3, .invokestatic 141, 3, [168, 1302, 0], .null)) rfl trivial rfl rfl vm_z168 (av := [.int 3, .int 0, .int 3]) (rest := []) (r_isIn_y (v := 3) (a := 0) (b := 3) (by decide)) rfl (Nat.le_of_ble_eq_true rfl) ⟨Nat.le_of_ble_eq_true rfl, Nat.le_of_ble_eq_true rfl⟩ ⟨Nat.le_of_ble_eq_true rfl, Nat.le_of_ble_eq_true rfl⟩ ?_
  show vm_J _ _ _ (6, (0, 0), [.ref 152, .int 3, .int v, .retAddr 0], [.int 1]) (G, I, F) _ _
  refine vm_J.go vm_q233 (k := 1) (hs := []) (f' := (bif vm_ic .ne 1 0 then 11 else 9, (0, 0), [.ref 152, .int 3, .int v, .retAddr 0], [])) (h' := (G, I, F)) (hs' := []) rfl rfl ?_
  refine vm_J.bT (by decide) ?_
  refine vm_J.go vm_q233 (k := 4) (hs := []) (f' := (bif vm_ic .ne 3 0 then 21 else 17, (0, 0), [.ref 152, .int 3, .int v, .retAddr 0], [.int 0, .int v])) (h' := (G, I, F)) (hs' := []) rfl rfl ?_
  refine vm_J.bT (by decide) ?_
  refine vm_J.go vm_q233 (k := 3) (hs := []) (f' := (bif vm_ic .ne 3 1 then 30 else 26, (0, 0), [.ref 152, .int 3, .int v, .retAddr 0], [.int 0, .int v])) (h' := (G, I, F)) (hs' := []) rfl rfl ?_
  refine vm_J.bT (by decide) ?_
  refine vm_J.go vm_q233 (k := 3) (hs := []) (f' := (bif vm_ic .ne 3 2 then 39 else 35, (0, 0), [.ref 152, .int 3, .int v, .retAddr 0], [.int 0, .int v])) (h' := (G, I, F)) (hs' := []) rfl rfl ?_
  refine vm_J.bT (by decide) ?_
  refine vm_J.go vm_q233 (k := 1) (hs := []) (f' := (41, (0, 0), [.ref 152, .int 3, .int v, .retAddr 0], [.int 63, .int 0, .int v])) (h' := (G, I, F)) (hs' := []) rfl rfl ?_
  refine vm_J.call vm_q233 (Z := vm_M168) (n := 3) (k := 1) (mi := 168) (pc := 41) (en := (41, .invokestatic 141, 3, [168, 1302, 0], .null)) rfl trivial rfl rfl vm_z168 (av := [.int v, .int 0, .int 63]) (rest := []) (r_isIn_y (v := v) (a := 0) (b := 63) hv) rfl (Nat.le_of_ble_eq_true rfl) ⟨Nat.le_of_ble_eq_true rfl, Nat.le_of_ble_eq_true rfl⟩ ⟨Nat.le_of_ble_eq_true rfl, Nat.le_of_ble_eq_true rfl⟩ ?_
  show vm_J _ _ _ (44, (0, 0), [.ref 152, .int 3, .int v, .retAddr 0], [.int 1]) (G, I, F) _ _
  refine vm_J.go vm_q233 (k := 1) (hs := []) (f' := (bif vm_ic .ne 1 0 then 50 else 47, (0, 0), [.ref 152, .int 3, .int v, .retAddr 0], [])) (h' := (G, I, F)) (hs' := []) rfl rfl ?_
  refine vm_J.bT (by decide) ?_
  refine vm_J.go vm_q233 (k := 2) (hs := []) (f' := (bif vm_ic .ne 3 0 then 61 else 54, (0, 0), [.ref 152, .int 3, .int v, .retAddr 0], [])) (h' := (G, I, F)) (hs' := []) rfl rfl ?_
  refine vm_J.bT (by decide) ?_
  refine vm_J.go vm_q233 (k := 3) (hs := []) (f' := (bif vm_ic .ne 3 1 then 73 else 66, (0, 0), [.ref 152, .int 3, .int v, .retAddr 0], [])) (h' := (G, I, F)) (hs' := []) rfl rfl ?_
  refine vm_J.bT (by decide) ?_
  refine vm_J.go vm_q233 (k := 3) (hs := []) (f' := (bif vm_ic .ne 3 2 then 85 else 78, (0, 0), [.ref 152, .int 3, .int v, .retAddr 0], [])) (h' := (G, I, F)) (hs' := []) rfl rfl ?_
  refine vm_J.bT (by decide) ?_
  refine vm_J.go vm_q233 (k := 5) (hs := [vm_shR]) (f' := (bif vm_ic .ne 3 0 then 99 else 94, (0, 0), [.ref 152, .int 3, .int v, .int (I 152 9)], [])) (h' := (G, I, F)) (hs' := []) rfl (vm_b2 rfl (vm_b2 (vm_b2 (vm_hG hR.c152) rfl) (vm_b2 rfl (vm_b2 rfl (vm_b2 rfl rfl))))) ?_
  refine vm_J.bT (by decide) ?_
  refine vm_J.go vm_q233 (k := 3) (hs := []) (f' := (bif vm_ic .ne 3 1 then 109 else 104, (0, 0), [.ref 152, .int 3, .int v, .int (I 152 9)], [])) (h' := (G, I, F)) (hs' := []) rfl rfl ?_
  refine vm_J.bT (by decide) ?_
  refine vm_J.go vm_q233 (k := 3) (hs := []) (f' := (bif vm_ic .ne 3 2 then 119 else 114, (0, 0), [.ref 152, .int 3, .int v, .int (I 152 9)], [])) (h' := (G, I, F)) (hs' := []) rfl rfl ?_
  refine vm_J.bT (by decide) ?_
  refine vm_J.go vm_q233 (k := 3) (hs := []) (f' := (bif vm_ic .ne 3 3 then 129 else 124, (0, 0), [.ref 152, .int 3, .int v, .int (I 152 9)], [])) (h' := (G, I, F)) (hs' := []) rfl rfl ?_
  refine vm_J.bF (by decide) ?_
  refine vm_J.go vm_q233 (k := 4) (hs := [vm_shR]) (f' := (130, (0, 0), [.ref 152, .int 3, .int v, .int (I 152 9)], [.int (I 152 9)])) (h' := (G, (vm_up I 152 9 v), F)) (hs' := []) rfl (vm_b2 rfl (vm_b2 rfl (vm_b2 (vm_b2 (vm_b2 (vm_hG hR.c152) rfl) rfl) (vm_b2 rfl rfl)))) ?_
  exact vm_J.end vm_q233 (en := (130, .ireturn, 1, [], .null)) rfl rfl vm_rI (Nat.zero_le _) (Nat.zero_le _) rfl
set_option maxHeartbeats 4000000 in
set_option maxRecDepth 20000 in
/-- DitherDeskModel.works -/
theorem r_works_y {l : Launch} {X : vm_Cx} {G : List vm_Sh} {I : Nat → Nat → Int32} {F : Nat → Nat → UInt32} {u : Nat} {k : Nat} (hR : vm_isR G) (hu : I 152 10 = nI u) (hk : u + k ≤ 6000) : vm_K l X vm_M178 [.ref 152, .int (nI k)] (G, I, F) (some (.int 1)) (G, (vm_up I 152 10 (nI (u + k))), F) := by
  refine vm_K.mk (by decide) (Nat.le_of_ble_eq_true rfl) ?_
  show vm_J _ _ _ (0, (0, 0), [.ref 152, .int (nI k)], []) _ _ _
  refine vm_J.go vm_q178 (k := 2) (hs := [vm_shR]) (f' := (4, (0, 0), [.ref 152, .int (nI k)], [.int (I 152 10)])) (h' := (G, I, F)) (hs' := []) rfl (vm_b2 rfl (vm_b2 (vm_b2 (vm_hG hR.c152) rfl) rfl)) ?_
  rw [(hu : I 152 10 = nI u)]
  refine vm_J.go vm_q178 (k := 4) (hs := []) (f' := (bif vm_ic .le ((nI u) + (nI k)) 6000 then 14 else 12, (0, 0), [.ref 152, .int (nI k)], [])) (h' := (G, I, F)) (hs' := []) rfl rfl ?_
  refine vm_J.br (fun c1 => ?_) (fun c1 => ?_)
  · rw [((vm_pa (rfl : (nI u : Int32) = nI u) (rfl : (nI k : Int32) = nI k)) : (nI u) + (nI k) = nI (u + k))] at c1
    have c1 := vm_le_t (a := u + k) (b := 6000) (by omega) (by omega) c1
    refine vm_J.go vm_q178 (k := 3) (hs := [vm_shR]) (f' := (19, (0, 0), [.ref 152, .int (nI k)], [.int (I 152 10), .ref 152])) (h' := (G, I, F)) (hs' := []) rfl (vm_b2 rfl (vm_b2 rfl (vm_b2 (vm_b2 (vm_hG hR.c152) rfl) rfl))) ?_
    rw [(hu : I 152 10 = nI u)]
    refine vm_J.go vm_q178 (k := 2) (hs := []) (f' := (21, (0, 0), [.ref 152, .int (nI k)], [.int ((nI u) + (nI k)), .ref 152])) (h' := (G, I, F)) (hs' := []) rfl rfl ?_
    rw [((vm_pa (rfl : (nI u : Int32) = nI u) (rfl : (nI k : Int32) = nI k)) : (nI u) + (nI k) = nI (u + k))]
    refine vm_J.go vm_q178 (k := 2) (hs := [vm_shR]) (f' := (25, (0, 0), [.ref 152, .int (nI k)], [.int 1])) (h' := (G, (vm_up I 152 10 (nI (u + k))), F)) (hs' := []) rfl (vm_b2 (vm_b2 (vm_b2 (vm_hG hR.c152) rfl) rfl) (vm_b2 rfl rfl)) ?_
    exact vm_J.end vm_q178 (en := (25, .ireturn, 1, [], .null)) rfl rfl vm_rZ1 (Nat.zero_le _) (Nat.zero_le _) rfl
  · rw [((vm_pa (rfl : (nI u : Int32) = nI u) (rfl : (nI k : Int32) = nI k)) : (nI u) + (nI k) = nI (u + k))] at c1
    have c1 := vm_le_f (a := u + k) (b := 6000) (by omega) (by omega) c1
    exact (show False by omega).elim
set_option maxHeartbeats 4000000 in
set_option maxRecDepth 20000 in
/-- DitherDeskModel.works -/
theorem r_works_n {l : Launch} {X : vm_Cx} {G : List vm_Sh} {I : Nat → Nat → Int32} {F : Nat → Nat → UInt32} {u : Nat} {k : Nat} (hR : vm_isR G) (hu : I 152 10 = nI u) (hk : 6000 < u + k) (hu2 : u ≤ 6000) (hk2 : k ≤ 6000) : vm_K l X vm_M178 [.ref 152, .int (nI k)] (G, I, F) (some (.int 0)) (G, I, F) := by
  refine vm_K.mk (by decide) (Nat.le_of_ble_eq_true rfl) ?_
  show vm_J _ _ _ (0, (0, 0), [.ref 152, .int (nI k)], []) _ _ _
  refine vm_J.go vm_q178 (k := 2) (hs := [vm_shR]) (f' := (4, (0, 0), [.ref 152, .int (nI k)], [.int (I 152 10)])) (h' := (G, I, F)) (hs' := []) rfl (vm_b2 rfl (vm_b2 (vm_b2 (vm_hG hR.c152) rfl) rfl)) ?_
  rw [(hu : I 152 10 = nI u)]
  refine vm_J.go vm_q178 (k := 4) (hs := []) (f' := (bif vm_ic .le ((nI u) + (nI k)) 6000 then 14 else 12, (0, 0), [.ref 152, .int (nI k)], [])) (h' := (G, I, F)) (hs' := []) rfl rfl ?_
  refine vm_J.br (fun c1 => ?_) (fun c1 => ?_)
  · rw [((vm_pa (rfl : (nI u : Int32) = nI u) (rfl : (nI k : Int32) = nI k)) : (nI u) + (nI k) = nI (u + k))] at c1
    have c1 := vm_le_t (a := u + k) (b := 6000) (by omega) (by omega) c1
    exact (show False by omega).elim
  · rw [((vm_pa (rfl : (nI u : Int32) = nI u) (rfl : (nI k : Int32) = nI k)) : (nI u) + (nI k) = nI (u + k))] at c1
    have c1 := vm_le_f (a := u + k) (b := 6000) (by omega) (by omega) c1
    refine vm_J.go vm_q178 (k := 1) (hs := []) (f' := (13, (0, 0), [.ref 152, .int (nI k)], [.int 0])) (h' := (G, I, F)) (hs' := []) rfl rfl ?_
    exact vm_J.end vm_q178 (en := (13, .ireturn, 1, [], .null)) rfl rfl vm_rZ0 (Nat.zero_le _) (Nat.zero_le _) rfl
