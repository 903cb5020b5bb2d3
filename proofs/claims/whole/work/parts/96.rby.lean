set_option maxHeartbeats 4000000 in
set_option maxRecDepth 20000 in
/-- DitherDeskModel.isAhead -/
theorem r_isAhead {l : Launch} {X : vm_Cx} {G : List vm_Sh} {I : Nat → Nat → Int32} {F : Nat → Nat → UInt32} {n : Nat} {x : Int32} {y : Int32} (hR : vm_isR G) (hn : I 152 14 = nI n) (hn2 : n ≤ 144) (hx : vr_fi (I 161) n x < n) (hy : vr_fi (I 161) n y < n) : vm_K l X vm_M201 [.ref 152, .int x, .int y] (G, I, F) (some (.int (vm_bi (vr_ia (I 159) (I 161) (I 160) n x y)))) (G, I, F) := by
  refine vm_K.mk (by decide) (Nat.le_of_ble_eq_true rfl) ?_
  show vm_J _ _ _ (0, (0, 0), [.ref 152, .int x, .int y], []) _ _ _
  refine vm_J.go vm_q201 (k := 2) (hs := []) (f' := (2, (0, 0), [.ref 152, .int x, .int y], [.int x, .ref 152])) (h' := (G, I, F)) (hs' := []) rfl rfl ?_
  refine vm_J.call vm_q201 (Z := vm_M198) (n := 1) (k := 0) (mi := 198) (pc := 2) (en := (2, .invokevirtual 217, 3, [198, 1406, 0], .null)) rfl trivial rfl rfl vm_z198 (av := [.ref 152, .int x]) (rest := []) (r_spanOf (n := n) (x := x) hR hn (by omega)) ⟨_, _, rfl, rfl, _, 11, _, hR.c152, rfl, rfl, rfl⟩ (Nat.le_of_ble_eq_true rfl) ⟨Nat.le_of_ble_eq_true rfl, Nat.le_of_ble_eq_true rfl⟩ ⟨Nat.le_of_ble_eq_true rfl, Nat.le_of_ble_eq_true rfl⟩ ?_
  show vm_J _ _ _ (5, (0, 0), [.ref 152, .int x, .int y], [.int (vr_so (I 159) (I 161) n x)]) (G, I, F) _ _
  refine vm_J.go vm_q201 (k := 2) (hs := []) (f' := (7, (0, 0), [.ref 152, .int x, .int y], [.int y, .ref 152, .int (vr_so (I 159) (I 161) n x)])) (h' := (G, I, F)) (hs' := []) rfl rfl ?_
  refine vm_J.call vm_q201 (Z := vm_M198) (n := 1) (k := 0) (mi := 198) (pc := 7) (en := (7, .invokevirtual 217, 3, [198, 1406, 0], .null)) rfl trivial rfl rfl vm_z198 (av := [.ref 152, .int y]) (rest := [.int (vr_so (I 159) (I 161) n x)]) (r_spanOf (n := n) (x := y) hR hn (by omega)) ⟨_, _, rfl, rfl, _, 11, _, hR.c152, rfl, rfl, rfl⟩ (Nat.le_of_ble_eq_true rfl) ⟨Nat.le_of_ble_eq_true rfl, Nat.le_of_ble_eq_true rfl⟩ ⟨Nat.le_of_ble_eq_true rfl, Nat.le_of_ble_eq_true rfl⟩ ?_
  show vm_J _ _ _ (10, (0, 0), [.ref 152, .int x, .int y], [.int (vr_so (I 159) (I 161) n y), .int (vr_so (I 159) (I 161) n x)]) (G, I, F) _ _
  refine vm_J.go vm_q201 (k := 1) (hs := []) (f' := (bif vm_ic .eq (vr_so (I 159) (I 161) n x) (vr_so (I 159) (I 161) n y) then 32 else 13, (0, 0), [.ref 152, .int x, .int y], [])) (h' := (G, I, F)) (hs' := []) rfl rfl ?_
  refine vm_J.br (fun c1 => ?_) (fun c1 => ?_)
  · have c1 : (vr_so (I 159) (I 161) n x) = (vr_so (I 159) (I 161) n y) := of_decide_eq_true c1
    refine vm_J.go vm_q201 (k := 2) (hs := []) (f' := (34, (0, 0), [.ref 152, .int x, .int y], [.int x, .ref 152])) (h' := (G, I, F)) (hs' := []) rfl rfl ?_
    refine vm_J.call vm_q201 (Z := vm_M199) (n := 1) (k := 0) (mi := 199) (pc := 34) (en := (34, .invokevirtual 220, 3, [199, 1418, 0], .null)) rfl trivial rfl rfl vm_z199 (av := [.ref 152, .int x]) (rest := []) (r_pixelsOf (n := n) (x := x) hR hn (by omega)) ⟨_, _, rfl, rfl, _, 11, _, hR.c152, rfl, rfl, rfl⟩ (Nat.le_of_ble_eq_true rfl) ⟨Nat.le_of_ble_eq_true rfl, Nat.le_of_ble_eq_true rfl⟩ ⟨Nat.le_of_ble_eq_true rfl, Nat.le_of_ble_eq_true rfl⟩ ?_
    show vm_J _ _ _ (37, (0, 0), [.ref 152, .int x, .int y], [.int (vr_px (I 161) (I 160) n x)]) (G, I, F) _ _
    refine vm_J.go vm_q201 (k := 2) (hs := []) (f' := (39, (0, 0), [.ref 152, .int x, .int y], [.int y, .ref 152, .int (vr_px (I 161) (I 160) n x)])) (h' := (G, I, F)) (hs' := []) rfl rfl ?_
    refine vm_J.call vm_q201 (Z := vm_M199) (n := 1) (k := 0) (mi := 199) (pc := 39) (en := (39, .invokevirtual 220, 3, [199, 1418, 0], .null)) rfl trivial rfl rfl vm_z199 (av := [.ref 152, .int y]) (rest := [.int (vr_px (I 161) (I 160) n x)]) (r_pixelsOf (n := n) (x := y) hR hn (by omega)) ⟨_, _, rfl, rfl, _, 11, _, hR.c152, rfl, rfl, rfl⟩ (Nat.le_of_ble_eq_true rfl) ⟨Nat.le_of_ble_eq_true rfl, Nat.le_of_ble_eq_true rfl⟩ ⟨Nat.le_of_ble_eq_true rfl, Nat.le_of_ble_eq_true rfl⟩ ?_
    show vm_J _ _ _ (42, (0, 0), [.ref 152, .int x, .int y], [.int (vr_px (I 161) (I 160) n y), .int (vr_px (I 161) (I 160) n x)]) (G, I, F) _ _
    refine vm_J.go vm_q201 (k := 1) (hs := []) (f' := (bif vm_ic .eq (vr_px (I 161) (I 160) n x) (vr_px (I 161) (I 160) n y) then 64 else 45, (0, 0), [.ref 152, .int x, .int y], [])) (h' := (G, I, F)) (hs' := []) rfl rfl ?_
    refine vm_J.br (fun c2 => ?_) (fun c2 => ?_)
    · have c2 : (vr_px (I 161) (I 160) n x) = (vr_px (I 161) (I 160) n y) := of_decide_eq_true c2
      refine vm_J.go vm_q201 (k := 2) (hs := []) (f' := (66, (0, 0), [.ref 152, .int x, .int y], [.int x, .ref 152])) (h' := (G, I, F)) (hs' := []) rfl rfl ?_
      refine vm_J.call vm_q201 (Z := vm_M200) (n := 1) (k := 0) (mi := 200) (pc := 66) (en := (66, .invokevirtual 223, 3, [200, 1422, 0], .null)) rfl trivial rfl rfl vm_z200 (av := [.ref 152, .int x]) (rest := []) (r_firstOf (n := n) (x := x) hR hn2 hx) ⟨_, _, rfl, rfl, _, 11, _, hR.c152, rfl, rfl, rfl⟩ (Nat.le_of_ble_eq_true rfl) ⟨Nat.le_of_ble_eq_true rfl, Nat.le_of_ble_eq_true rfl⟩ ⟨Nat.le_of_ble_eq_true rfl, Nat.le_of_ble_eq_true rfl⟩ ?_
      show vm_J _ _ _ (69, (0, 0), [.ref 152, .int x, .int y], [.int (nI (vr_fi (I 161) n x))]) (G, I, F) _ _
      refine vm_J.go vm_q201 (k := 2) (hs := []) (f' := (71, (0, 0), [.ref 152, .int x, .int y], [.int y, .ref 152, .int (nI (vr_fi (I 161) n x))])) (h' := (G, I, F)) (hs' := []) rfl rfl ?_
      refine vm_J.call vm_q201 (Z := vm_M200) (n := 1) (k := 0) (mi := 200) (pc := 71) (en := (71, .invokevirtual 223, 3, [200, 1422, 0], .null)) rfl trivial rfl rfl vm_z200 (av := [.ref 152, .int y]) (rest := [.int (nI (vr_fi (I 161) n x))]) (r_firstOf (n := n) (x := y) hR hn2 hy) ⟨_, _, rfl, rfl, _, 11, _, hR.c152, rfl, rfl, rfl⟩ (Nat.le_of_ble_eq_true rfl) ⟨Nat.le_of_ble_eq_true rfl, Nat.le_of_ble_eq_true rfl⟩ ⟨Nat.le_of_ble_eq_true rfl, Nat.le_of_ble_eq_true rfl⟩ ?_
      show vm_J _ _ _ (74, (0, 0), [.ref 152, .int x, .int y], [.int (nI (vr_fi (I 161) n y)), .int (nI (vr_fi (I 161) n x))]) (G, I, F) _ _
      refine vm_J.go vm_q201 (k := 1) (hs := []) (f' := (bif vm_ic .ge (nI (vr_fi (I 161) n x)) (nI (vr_fi (I 161) n y)) then 81 else 77, (0, 0), [.ref 152, .int x, .int y], [])) (h' := (G, I, F)) (hs' := []) rfl rfl ?_
      refine vm_J.br (fun c3 => ?_) (fun c3 => ?_)
      · have c3 : (nI (vr_fi (I 161) n y)) ≤ (nI (vr_fi (I 161) n x)) := of_decide_eq_true c3
        refine vm_J.go vm_q201 (k := 1) (hs := []) (f' := (82, (0, 0), [.ref 152, .int x, .int y], [.int 0])) (h' := (G, I, F)) (hs' := []) rfl rfl ?_
        exact vm_J.end vm_q201 (en := (82, .ireturn, 1, [], .null)) rfl (by rw [vm_bi_f (fun z => z.elim (fun z => z.1 c1) (fun z => z.2.elim (fun z => z.1 c2) (fun z => vm_le_ng c3 z.2)))]; rfl) (vm_rZ vm_bi_01) (Nat.zero_le _) (Nat.zero_le _) rfl
      · have c3 : ¬ ((nI (vr_fi (I 161) n y)) ≤ (nI (vr_fi (I 161) n x))) := of_decide_eq_false c3
        refine vm_J.go vm_q201 (k := 2) (hs := []) (f' := (82, (0, 0), [.ref 152, .int x, .int y], [.int 1])) (h' := (G, I, F)) (hs' := []) rfl rfl ?_
        exact vm_J.end vm_q201 (en := (82, .ireturn, 1, [], .null)) rfl (by rw [vm_bi_t (Or.inr ⟨c1, Or.inr ⟨c2, vm_nle_g c3⟩⟩)]; rfl) (vm_rZ vm_bi_01) (Nat.zero_le _) (Nat.zero_le _) rfl
    · have c2 : ¬ ((vr_px (I 161) (I 160) n x) = (vr_px (I 161) (I 160) n y)) := of_decide_eq_false c2
      refine vm_J.go vm_q201 (k := 2) (hs := []) (f' := (47, (0, 0), [.ref 152, .int x, .int y], [.int x, .ref 152])) (h' := (G, I, F)) (hs' := []) rfl rfl ?_
      refine vm_J.call vm_q201 (Z := vm_M199) (n := 1) (k := 0) (mi := 199) (pc := 47) (en := (47, .invokevirtual 220, 3, [199, 1418, 0], .null)) rfl trivial rfl rfl vm_z199 (av := [.ref 152, .int x]) (rest := []) (r_pixelsOf (n := n) (x := x) hR hn (by omega)) ⟨_, _, rfl, rfl, _, 11, _, hR.c152, rfl, rfl, rfl⟩ (Nat.le_of_ble_eq_true rfl) ⟨Nat.le_of_ble_eq_true rfl, Nat.le_of_ble_eq_true rfl⟩ ⟨Nat.le_of_ble_eq_true rfl, Nat.le_of_ble_eq_true rfl⟩ ?_
      show vm_J _ _ _ (50, (0, 0), [.ref 152, .int x, .int y], [.int (vr_px (I 161) (I 160) n x)]) (G, I, F) _ _
      refine vm_J.go vm_q201 (k := 2) (hs := []) (f' := (52, (0, 0), [.ref 152, .int x, .int y], [.int y, .ref 152, .int (vr_px (I 161) (I 160) n x)])) (h' := (G, I, F)) (hs' := []) rfl rfl ?_
      refine vm_J.call vm_q201 (Z := vm_M199) (n := 1) (k := 0) (mi := 199) (pc := 52) (en := (52, .invokevirtual 220, 3, [199, 1418, 0], .null)) rfl trivial rfl rfl vm_z199 (av := [.ref 152, .int y]) (rest := [.int (vr_px (I 161) (I 160) n x)]) (r_pixelsOf (n := n) (x := y) hR hn (by omega)) ⟨_, _, rfl, rfl, _, 11, _, hR.c152, rfl, rfl, rfl⟩ (Nat.le_of_ble_eq_true rfl) ⟨Nat.le_of_ble_eq_true rfl, Nat.le_of_ble_eq_true rfl⟩ ⟨Nat.le_of_ble_eq_true rfl, Nat.le_of_ble_eq_true rfl⟩ ?_
      show vm_J _ _ _ (55, (0, 0), [.ref 152, .int x, .int y], [.int (vr_px (I 161) (I 160) n y), .int (vr_px (I 161) (I 160) n x)]) (G, I, F) _ _
      refine vm_J.go vm_q201 (k := 1) (hs := []) (f' := (bif vm_ic .le (vr_px (I 161) (I 160) n x) (vr_px (I 161) (I 160) n y) then 62 else 58, (0, 0), [.ref 152, .int x, .int y], [])) (h' := (G, I, F)) (hs' := []) rfl rfl ?_
      refine vm_J.br (fun c4 => ?_) (fun c4 => ?_)
      · have c4 : (vr_px (I 161) (I 160) n x) ≤ (vr_px (I 161) (I 160) n y) := of_decide_eq_true c4
        refine vm_J.go vm_q201 (k := 1) (hs := []) (f' := (63, (0, 0), [.ref 152, .int x, .int y], [.int 0])) (h' := (G, I, F)) (hs' := []) rfl rfl ?_
        exact vm_J.end vm_q201 (en := (63, .ireturn, 1, [], .null)) rfl (by rw [vm_bi_f (fun z => z.elim (fun z => z.1 c1) (fun z => z.2.elim (fun z => vm_le_ng c4 z.2) (fun z => c2 z.1)))]; rfl) (vm_rZ vm_bi_01) (Nat.zero_le _) (Nat.zero_le _) rfl
      · have c4 : ¬ ((vr_px (I 161) (I 160) n x) ≤ (vr_px (I 161) (I 160) n y)) := of_decide_eq_false c4
        refine vm_J.go vm_q201 (k := 2) (hs := []) (f' := (63, (0, 0), [.ref 152, .int x, .int y], [.int 1])) (h' := (G, I, F)) (hs' := []) rfl rfl ?_
        exact vm_J.end vm_q201 (en := (63, .ireturn, 1, [], .null)) rfl (by rw [vm_bi_t (Or.inr ⟨c1, Or.inl ⟨c2, vm_nle_g c4⟩⟩)]; rfl) (vm_rZ vm_bi_01) (Nat.zero_le _) (Nat.zero_le _) rfl
  · have c1 : ¬ ((vr_so (I 159) (I 161) n x) = (vr_so (I 159) (I 161) n y)) := of_decide_eq_false c1
    refine vm_J.go vm_q201 (k := 2) (hs := []) (f' := (15, (0, 0), [.ref 152, .int x, .int y], [.int x, .ref 152])) (h' := (G, I, F)) (hs' := []) rfl rfl ?_
    refine vm_J.call vm_q201 (Z := vm_M198) (n := 1) (k := 0) (mi := 198) (pc := 15) (en := (15, .invokevirtual 217, 3, [198, 1406, 0], .null)) rfl trivial rfl rfl vm_z198 (av := [.ref 152, .int x]) (rest := []) (r_spanOf (n := n) (x := x) hR hn (by omega)) ⟨_, _, rfl, rfl, _, 11, _, hR.c152, rfl, rfl, rfl⟩ (Nat.le_of_ble_eq_true rfl) ⟨Nat.le_of_ble_eq_true rfl, Nat.le_of_ble_eq_true rfl⟩ ⟨Nat.le_of_ble_eq_true rfl, Nat.le_of_ble_eq_true rfl⟩ ?_
    show vm_J _ _ _ (18, (0, 0), [.ref 152, .int x, .int y], [.int (vr_so (I 159) (I 161) n x)]) (G, I, F) _ _
    refine vm_J.go vm_q201 (k := 2) (hs := []) (f' := (20, (0, 0), [.ref 152, .int x, .int y], [.int y, .ref 152, .int (vr_so (I 159) (I 161) n x)])) (h' := (G, I, F)) (hs' := []) rfl rfl ?_
    refine vm_J.call vm_q201 (Z := vm_M198) (n := 1) (k := 0) (mi := 198) (pc := 20) (en := (20, .invokevirtual 217, 3, [198, 1406, 0], .null)) rfl trivial rfl rfl vm_z198 (av := [.ref 152, .int y]) (rest := [.int (vr_so (I 159) (I 161) n x)]) (r_spanOf (n := n) (x := y) hR hn (by omega)) ⟨_, _, rfl, rfl, _, 11, _, hR.c152, rfl, rfl, rfl⟩ (Nat.le_of_ble_eq_true rfl) ⟨Nat.le_of_ble_eq_true rfl, Nat.le_of_ble_eq_true rfl⟩ ⟨Nat.le_of_ble_eq_true rfl, Nat.le_of_ble_eq_true rfl⟩ ?_
    show vm_J _ _ _ (23, (0, 0), [.ref 152, .int x, .int y], [.int (vr_so (I 159) (I 161) n y), .int (vr_so (I 159) (I 161) n x)]) (G, I, F) _ _
    refine vm_J.go vm_q201 (k := 1) (hs := []) (f' := (bif vm_ic .le (vr_so (I 159) (I 161) n x) (vr_so (I 159) (I 161) n y) then 30 else 26, (0, 0), [.ref 152, .int x, .int y], [])) (h' := (G, I, F)) (hs' := []) rfl rfl ?_
    refine vm_J.br (fun c5 => ?_) (fun c5 => ?_)
    · have c5 : (vr_so (I 159) (I 161) n x) ≤ (vr_so (I 159) (I 161) n y) := of_decide_eq_true c5
      refine vm_J.go vm_q201 (k := 1) (hs := []) (f' := (31, (0, 0), [.ref 152, .int x, .int y], [.int 0])) (h' := (G, I, F)) (hs' := []) rfl rfl ?_
      exact vm_J.end vm_q201 (en := (31, .ireturn, 1, [], .null)) rfl (by rw [vm_bi_f (fun z => z.elim (fun z => vm_le_ng c5 z.2) (fun z => c1 z.1))]; rfl) (vm_rZ vm_bi_01) (Nat.zero_le _) (Nat.zero_le _) rfl
    · have c5 : ¬ ((vr_so (I 159) (I 161) n x) ≤ (vr_so (I 159) (I 161) n y)) := of_decide_eq_false c5
      refine vm_J.go vm_q201 (k := 2) (hs := []) (f' := (31, (0, 0), [.ref 152, .int x, .int y], [.int 1])) (h' := (G, I, F)) (hs' := []) rfl rfl ?_
      exact vm_J.end vm_q201 (en := (31, .ireturn, 1, [], .null)) rfl (by rw [vm_bi_t (Or.inl ⟨c1, vm_nle_g c5⟩)]; rfl) (vm_rZ vm_bi_01) (Nat.zero_le _) (Nat.zero_le _) rfl
set_option maxHeartbeats 4000000 in
set_option maxRecDepth 20000 in
/-- DitherDeskModel.boxToCut -/
theorem r_boxToCut {l : Launch} {X : vm_Cx} {G : List vm_Sh} {I : Nat → Nat → Int32} {F : Nat → Nat → UInt32} {n : Nat} {nb : Nat} (hR : vm_isR G) (hn : I 152 14 = nI n) (hn2 : n ≤ 144) (hb : I 152 19 = nI nb) (hb0 : 0 < nb) (hb2 : nb ≤ 16) (hne : ∀ z, z < nb → vr_fi (I 161) n (nI z) < n) : vm_K l X vm_M202 [.ref 152] (G, I, F) (some (.int (nI (vr_bc (I 159) (I 161) (I 160) n (nb - 1))))) (G, I, F) := by
  refine vm_K.mk (by decide) (Nat.le_of_ble_eq_true rfl) ?_
  show vm_J _ _ _ (0, (0, 0), [.ref 152, .retAddr 0, .retAddr 0], []) _ _ _
  refine vm_J.go vm_q202 (k := 4) (hs := []) (f' := (4, (0, 0), [.ref 152, .int 0, .int 1], [])) (h' := (G, I, F)) (hs' := []) rfl rfl ?_
  refine vm_J.cnt (nb - 1) (fun j => (4, (0, 0), [.ref 152, .int (nI (vr_bc (I 159) (I 161) (I 160) n j)), .int (nI (1 + j))], [])) (fun j => (G, I, F)) (fun _ => True) rfl rfl trivial (fun j hj pj ij => ?_) (fun pj => ?_)
  · show vm_J _ _ _ (4, (0, 0), [.ref 152, .int (nI (vr_bc (I 159) (I 161) (I 160) n j)), .int (nI (1 + j))], []) (G, I, F) _ _
    refine vm_J.go vm_q202 (k := 3) (hs := [vm_shR]) (f' := (9, (0, 0), [.ref 152, .int (nI (vr_bc (I 159) (I 161) (I 160) n j)), .int (nI (1 + j))], [.int (I 152 19), .int (nI (1 + j))])) (h' := (G, I, F)) (hs' := []) rfl (vm_b2 rfl (vm_b2 rfl (vm_b2 (vm_b2 (vm_hG hR.c152) rfl) rfl))) ?_
    rw [(hb : I 152 19 = nI nb)]
    refine vm_J.go vm_q202 (k := 1) (hs := []) (f' := (bif vm_ic .ge (nI (1 + j)) (nI nb) then 33 else 12, (0, 0), [.ref 152, .int (nI (vr_bc (I 159) (I 161) (I 160) n j)), .int (nI (1 + j))], [])) (h' := (G, I, F)) (hs' := []) rfl rfl ?_
    refine vm_J.br (fun c1 => ?_) (fun c1 => ?_)
    · have c1 := vm_ge_t (a := 1 + j) (b := nb) (by omega) (by omega) c1
      exact (show False by omega).elim
    · have c1 := vm_ge_f (a := 1 + j) (b := nb) (by omega) (by omega) c1
      refine vm_J.go vm_q202 (k := 3) (hs := []) (f' := (15, (0, 0), [.ref 152, .int (nI (vr_bc (I 159) (I 161) (I 160) n j)), .int (nI (1 + j))], [.int (nI (vr_bc (I 159) (I 161) (I 160) n j)), .int (nI (1 + j)), .ref 152])) (h' := (G, I, F)) (hs' := []) rfl rfl ?_
      refine vm_J.call vm_q202 (Z := vm_M201) (n := 2) (k := 0) (mi := 201) (pc := 15) (en := (15, .invokevirtual 229, 3, [201, 1402, 0], .null)) rfl trivial rfl rfl vm_z201 (av := [.ref 152, .int (nI (1 + j)), .int (nI (vr_bc (I 159) (I 161) (I 160) n j))]) (rest := []) (r_isAhead (x := nI (1 + j)) (y := nI (vr_bc (I 159) (I 161) (I 160) n j)) hR hn hn2 (hne _ (by omega)) (hne _ (by have := vr_bc_l (I 159) (I 161) (I 160) n j; omega))) ⟨_, _, rfl, rfl, _, 11, _, hR.c152, rfl, rfl, rfl⟩ (Nat.le_of_ble_eq_true rfl) ⟨Nat.le_of_ble_eq_true rfl, Nat.le_of_ble_eq_true rfl⟩ ⟨Nat.le_of_ble_eq_true rfl, Nat.le_of_ble_eq_true rfl⟩ ?_
      show vm_J _ _ _ (18, (0, 0), [.ref 152, .int (nI (vr_bc (I 159) (I 161) (I 160) n j)), .int (nI (1 + j))], [.int (vm_bi (vr_ia (I 159) (I 161) (I 160) n (nI (1 + j)) (nI (vr_bc (I 159) (I 161) (I 160) n j))))]) (G, I, F) _ _
      refine vm_J.go vm_q202 (k := 1) (hs := []) (f' := (bif vm_ic .eq (vm_bi (vr_ia (I 159) (I 161) (I 160) n (nI (1 + j)) (nI (vr_bc (I 159) (I 161) (I 160) n j)))) 0 then 25 else 21, (0, 0), [.ref 152, .int (nI (vr_bc (I 159) (I 161) (I 160) n j)), .int (nI (1 + j))], [])) (h' := (G, I, F)) (hs' := []) rfl rfl ?_
      refine vm_J.br (fun c2 => ?_) (fun c2 => ?_)
      · have c2 := vm_bi_eq_t c2
        refine vm_J.go vm_q202 (k := 4) (hs := []) (f' := (4, (0, 0), [.ref 152, .int (nI (vr_bc (I 159) (I 161) (I 160) n j)), .int ((nI (1 + j)) + 1)], [])) (h' := (G, I, F)) (hs' := []) rfl rfl ?_
        rw [((vm_pa (rfl : nI (1 + j) = nI (1 + j)) (rfl : (1 : Int32) = nI 1)) : (nI (1 + j)) + 1 = nI (1 + j + 1))]
        have z := ij trivial
        rw [show (vr_bc (I 159) (I 161) (I 160) n (j + 1)) = _ from if_neg c2] at z
        exact z
      · have c2 := vm_bi_eq_f c2
        refine vm_J.go vm_q202 (k := 5) (hs := []) (f' := (4, (0, 0), [.ref 152, .int (nI (1 + j)), .int ((nI (1 + j)) + 1)], [])) (h' := (G, I, F)) (hs' := []) rfl rfl ?_
        rw [((vm_pa (rfl : nI (1 + j) = nI (1 + j)) (rfl : (1 : Int32) = nI 1)) : (nI (1 + j)) + 1 = nI (1 + j + 1))]
        have z := ij trivial
        rw [show (vr_bc (I 159) (I 161) (I 160) n (j + 1)) = _ from if_pos c2] at z
        exact z
  · show vm_J _ _ _ (4, (0, 0), [.ref 152, .int (nI (vr_bc (I 159) (I 161) (I 160) n (nb - 1))), .int (nI (1 + (nb - 1)))], []) (G, I, F) _ _
    refine vm_J.go vm_q202 (k := 3) (hs := [vm_shR]) (f' := (9, (0, 0), [.ref 152, .int (nI (vr_bc (I 159) (I 161) (I 160) n (nb - 1))), .int (nI (1 + (nb - 1)))], [.int (I 152 19), .int (nI (1 + (nb - 1)))])) (h' := (G, I, F)) (hs' := []) rfl (vm_b2 rfl (vm_b2 rfl (vm_b2 (vm_b2 (vm_hG hR.c152) rfl) rfl))) ?_
    rw [(hb : I 152 19 = nI nb)]
    refine vm_J.go vm_q202 (k := 1) (hs := []) (f' := (bif vm_ic .ge (nI (1 + (nb - 1))) (nI nb) then 33 else 12, (0, 0), [.ref 152, .int (nI (vr_bc (I 159) (I 161) (I 160) n (nb - 1))), .int (nI (1 + (nb - 1)))], [])) (h' := (G, I, F)) (hs' := []) rfl rfl ?_
    refine vm_J.br (fun c3 => ?_) (fun c3 => ?_)
    · have c3 := vm_ge_t (a := 1 + (nb - 1)) (b := nb) (by omega) (by omega) c3
      refine vm_J.go vm_q202 (k := 1) (hs := []) (f' := (34, (0, 0), [.ref 152, .int (nI (vr_bc (I 159) (I 161) (I 160) n (nb - 1))), .int (nI (1 + (nb - 1)))], [.int (nI (vr_bc (I 159) (I 161) (I 160) n (nb - 1)))])) (h' := (G, I, F)) (hs' := []) rfl rfl ?_
      exact vm_J.end vm_q202 (en := (34, .ireturn, 1, [], .null)) rfl rfl vm_rI (Nat.zero_le _) (Nat.zero_le _) rfl
    · have c3 := vm_ge_f (a := 1 + (nb - 1)) (b := nb) (by omega) (by omega) c3
      exact (show False by omega).elim
/-- the i-th of the reference's boxes by their first colours -/
def vr_ba (g : Nat → Int32) (n nb : Nat) (i : Int32) : Nat := sp_fi (fun t => sp_sum (fun u_ => if vr_fi g n (nI u_) < vr_fi g n (nI t) then (1 : Int32) else 0) nb = i) nb
set_option maxHeartbeats 4000000 in
set_option maxRecDepth 20000 in
/-- DitherDeskModel.boxAt -/
theorem r_boxAt {l : Launch} {X : vm_Cx} {G : List vm_Sh} {I : Nat → Nat → Int32} {F : Nat → Nat → UInt32} {n : Nat} {nb : Nat} {i : Int32} (hR : vm_isR G) (hn2 : n ≤ 144) (hb : I 152 19 = nI nb) (hb2 : nb ≤ 16) (hne : ∀ z, z < nb → vr_fi (I 161) n (nI z) < n) : vm_K l X vm_M206 [.ref 152, .int i] (G, I, F) (some (.int (if vr_ba (I 161) n nb i < nb then nI (vr_ba (I 161) n nb i) else -1))) (G, I, F) := by
  refine vm_K.mk (by decide) (Nat.le_of_ble_eq_true rfl) ?_
  show vm_J _ _ _ (0, (0, 0), [.ref 152, .int i, .retAddr 0, .retAddr 0, .retAddr 0], []) _ _ _
  refine vm_J.go vm_q206 (k := 2) (hs := []) (f' := (2, (0, 0), [.ref 152, .int i, .int 0, .retAddr 0, .retAddr 0], [])) (h' := (G, I, F)) (hs' := []) rfl rfl ?_
  refine vm_J.cnt nb (fun j => (2, (0, 0), [.ref 152, .int i, .int (nI j), .retAddr 0, .retAddr 0], [])) (fun j => (G, I, F)) (fun j => ∀ t, t < j → ¬ (sp_sum (fun u_ => if vr_fi (I 161) n (nI u_) < vr_fi (I 161) n (nI t) then (1 : Int32) else 0) nb) = i) rfl rfl vm_all0 (fun j hj pj ij => ?_) (fun pj => ?_)
  · show vm_J _ _ _ (2, (0, 0), [.ref 152, .int i, .int (nI j), .retAddr 0, .retAddr 0], []) (G, I, F) _ _
    refine vm_J.go vm_q206 (k := 3) (hs := [vm_shR]) (f' := (7, (0, 0), [.ref 152, .int i, .int (nI j), .retAddr 0, .retAddr 0], [.int (I 152 19), .int (nI j)])) (h' := (G, I, F)) (hs' := []) rfl (vm_b2 rfl (vm_b2 rfl (vm_b2 (vm_b2 (vm_hG hR.c152) rfl) rfl))) ?_
    rw [(hb : I 152 19 = nI nb)]
    refine vm_J.go vm_q206 (k := 1) (hs := []) (f' := (bif vm_ic .ge (nI j) (nI nb) then 65 else 10, (0, 0), [.ref 152, .int i, .int (nI j), .retAddr 0, .retAddr 0], [])) (h' := (G, I, F)) (hs' := []) rfl rfl ?_
    refine vm_J.br (fun c1 => ?_) (fun c1 => ?_)
    · have c1 := vm_ge_t (a := j) (b := nb) (by omega) (by omega) c1
      exact (show False by omega).elim
    · have c1 := vm_ge_f (a := j) (b := nb) (by omega) (by omega) c1
      refine vm_J.go vm_q206 (k := 4) (hs := []) (f' := (15, (0, 0), [.ref 152, .int i, .int (nI j), .int 0, .int 0], [])) (h' := (G, I, F)) (hs' := []) rfl rfl ?_
      refine vm_J.cnt nb (fun u => (15, (0, 0), [.ref 152, .int i, .int (nI j), .int (sp_sum (fun u_ => if vr_fi (I 161) n (nI u_) < vr_fi (I 161) n (nI j) then (1 : Int32) else 0) u), .int (nI u)], [])) (fun u => (G, I, F)) (fun _ => True) rfl rfl trivial (fun u hu pu iu => ?_) (fun pu => ?_)
      · have hf1 := hne j hj
        have hf2 := hne u hu
        show vm_J _ _ _ (15, (0, 0), [.ref 152, .int i, .int (nI j), .int (sp_sum (fun u_ => if vr_fi (I 161) n (nI u_) < vr_fi (I 161) n (nI j) then (1 : Int32) else 0) u), .int (nI u)], []) (G, I, F) _ _
        refine vm_J.go vm_q206 (k := 3) (hs := [vm_shR]) (f' := (21, (0, 0), [.ref 152, .int i, .int (nI j), .int (sp_sum (fun u_ => if vr_fi (I 161) n (nI u_) < vr_fi (I 161) n (nI j) then (1 : Int32) else 0) u), .int (nI u)], [.int (I 152 19), .int (nI u)])) (h' := (G, I, F)) (hs' := []) rfl (vm_b2 rfl (vm_b2 rfl (vm_b2 (vm_b2 (vm_hG hR.c152) rfl) rfl))) ?_
        rw [(hb : I 152 19 = nI nb)]
        refine vm_J.go vm_q206 (k := 1) (hs := []) (f' := (bif vm_ic .ge (nI u) (nI nb) then 52 else 24, (0, 0), [.ref 152, .int i, .int (nI j), .int (sp_sum (fun u_ => if vr_fi (I 161) n (nI u_) < vr_fi (I 161) n (nI j) then (1 : Int32) else 0) u), .int (nI u)], [])) (h' := (G, I, F)) (hs' := []) rfl rfl ?_
        refine vm_J.br (fun c2 => ?_) (fun c2 => ?_)
        · have c2 := vm_ge_t (a := u) (b := nb) (by omega) (by omega) c2
          exact (show False by omega).elim
        · have c2 := vm_ge_f (a := u) (b := nb) (by omega) (by omega) c2
          refine vm_J.go vm_q206 (k := 3) (hs := []) (f' := (28, (0, 0), [.ref 152, .int i, .int (nI j), .int (sp_sum (fun u_ => if vr_fi (I 161) n (nI u_) < vr_fi (I 161) n (nI j) then (1 : Int32) else 0) u), .int (nI u)], [.int (nI u), .ref 152, .int (sp_sum (fun u_ => if vr_fi (I 161) n (nI u_) < vr_fi (I 161) n (nI j) then (1 : Int32) else 0) u)])) (h' := (G, I, F)) (hs' := []) rfl rfl ?_
          refine vm_J.call vm_q206 (Z := vm_M200) (n := 1) (k := 0) (mi := 200) (pc := 28) (en := (28, .invokevirtual 223, 3, [200, 1422, 0], .null)) rfl trivial rfl rfl vm_z200 (av := [.ref 152, .int (nI u)]) (rest := [.int (sp_sum (fun u_ => if vr_fi (I 161) n (nI u_) < vr_fi (I 161) n (nI j) then (1 : Int32) else 0) u)]) (r_firstOf (n := n) (x := nI u) hR hn2 (hne _ (by omega))) ⟨_, _, rfl, rfl, _, 11, _, hR.c152, rfl, rfl, rfl⟩ (Nat.le_of_ble_eq_true rfl) ⟨Nat.le_of_ble_eq_true rfl, Nat.le_of_ble_eq_true rfl⟩ ⟨Nat.le_of_ble_eq_true rfl, Nat.le_of_ble_eq_true rfl⟩ ?_
          show vm_J _ _ _ (31, (0, 0), [.ref 152, .int i, .int (nI j), .int (sp_sum (fun u_ => if vr_fi (I 161) n (nI u_) < vr_fi (I 161) n (nI j) then (1 : Int32) else 0) u), .int (nI u)], [.int (nI (vr_fi (I 161) n (nI u))), .int (sp_sum (fun u_ => if vr_fi (I 161) n (nI u_) < vr_fi (I 161) n (nI j) then (1 : Int32) else 0) u)]) (G, I, F) _ _
          refine vm_J.go vm_q206 (k := 2) (hs := []) (f' := (33, (0, 0), [.ref 152, .int i, .int (nI j), .int (sp_sum (fun u_ => if vr_fi (I 161) n (nI u_) < vr_fi (I 161) n (nI j) then (1 : Int32) else 0) u), .int (nI u)], [.int (nI j), .ref 152, .int (nI (vr_fi (I 161) n (nI u))), .int (sp_sum (fun u_ => if vr_fi (I 161) n (nI u_) < vr_fi (I 161) n (nI j) then (1 : Int32) else 0) u)])) (h' := (G, I, F)) (hs' := []) rfl rfl ?_
          refine vm_J.call vm_q206 (Z := vm_M200) (n := 1) (k := 0) (mi := 200) (pc := 33) (en := (33, .invokevirtual 223, 3, [200, 1422, 0], .null)) rfl trivial rfl rfl vm_z200 (av := [.ref 152, .int (nI j)]) (rest := [.int (nI (vr_fi (I 161) n (nI u))), .int (sp_sum (fun u_ => if vr_fi (I 161) n (nI u_) < vr_fi (I 161) n (nI j) then (1 : Int32) else 0) u)]) (r_firstOf (n := n) (x := nI j) hR hn2 (hne _ (by omega))) ⟨_, _, rfl, rfl, _, 11, _, hR.c152, rfl, rfl, rfl⟩ (Nat.le_of_ble_eq_true rfl) ⟨Nat.le_of_ble_eq_true rfl, Nat.le_of_ble_eq_true rfl⟩ ⟨Nat.le_of_ble_eq_true rfl, Nat.le_of_ble_eq_true rfl⟩ ?_
          show vm_J _ _ _ (36, (0, 0), [.ref 152, .int i, .int (nI j), .int (sp_sum (fun u_ => if vr_fi (I 161) n (nI u_) < vr_fi (I 161) n (nI j) then (1 : Int32) else 0) u), .int (nI u)], [.int (nI (vr_fi (I 161) n (nI j))), .int (nI (vr_fi (I 161) n (nI u))), .int (sp_sum (fun u_ => if vr_fi (I 161) n (nI u_) < vr_fi (I 161) n (nI j) then (1 : Int32) else 0) u)]) (G, I, F) _ _
          refine vm_J.go vm_q206 (k := 1) (hs := []) (f' := (bif vm_ic .ge (nI (vr_fi (I 161) n (nI u))) (nI (vr_fi (I 161) n (nI j))) then 43 else 39, (0, 0), [.ref 152, .int i, .int (nI j), .int (sp_sum (fun u_ => if vr_fi (I 161) n (nI u_) < vr_fi (I 161) n (nI j) then (1 : Int32) else 0) u), .int (nI u)], [.int (sp_sum (fun u_ => if vr_fi (I 161) n (nI u_) < vr_fi (I 161) n (nI j) then (1 : Int32) else 0) u)])) (h' := (G, I, F)) (hs' := []) rfl rfl ?_
          refine vm_J.br (fun c3 => ?_) (fun c3 => ?_)
          · have c3 := vm_ge_t (a := vr_fi (I 161) n (nI u)) (b := vr_fi (I 161) n (nI j)) (by omega) (by omega) c3
            refine vm_J.go vm_q206 (k := 5) (hs := []) (f' := (15, (0, 0), [.ref 152, .int i, .int (nI j), .int ((sp_sum (fun u_ => if vr_fi (I 161) n (nI u_) < vr_fi (I 161) n (nI j) then (1 : Int32) else 0) u) + 0), .int ((nI u) + 1)], [])) (h' := (G, I, F)) (hs' := []) rfl rfl ?_
            rw [((vm_pa (rfl : nI u = nI u) (rfl : (1 : Int32) = nI 1)) : (nI u) + 1 = nI (u + 1))]
            rw [show ((sp_sum (fun u_ => if vr_fi (I 161) n (nI u_) < vr_fi (I 161) n (nI j) then (1 : Int32) else 0) u) + 0 : Int32) = (sp_sum (fun u_ => if vr_fi (I 161) n (nI u_) < vr_fi (I 161) n (nI j) then (1 : Int32) else 0) (u + 1)) from by (rw [sp_sum, if_neg (by omega)])]
            exact iu trivial
          · have c3 := vm_ge_f (a := vr_fi (I 161) n (nI u)) (b := vr_fi (I 161) n (nI j)) (by omega) (by omega) c3
            refine vm_J.go vm_q206 (k := 6) (hs := []) (f' := (15, (0, 0), [.ref 152, .int i, .int (nI j), .int ((sp_sum (fun u_ => if vr_fi (I 161) n (nI u_) < vr_fi (I 161) n (nI j) then (1 : Int32) else 0) u) + 1), .int ((nI u) + 1)], [])) (h' := (G, I, F)) (hs' := []) rfl rfl ?_
            rw [((vm_pa (rfl : nI u = nI u) (rfl : (1 : Int32) = nI 1)) : (nI u) + 1 = nI (u + 1))]
            rw [show ((sp_sum (fun u_ => if vr_fi (I 161) n (nI u_) < vr_fi (I 161) n (nI j) then (1 : Int32) else 0) u) + 1 : Int32) = (sp_sum (fun u_ => if vr_fi (I 161) n (nI u_) < vr_fi (I 161) n (nI j) then (1 : Int32) else 0) (u + 1)) from by (rw [sp_sum, if_pos (by omega)])]
            exact iu trivial
      · show vm_J _ _ _ (15, (0, 0), [.ref 152, .int i, .int (nI j), .int (sp_sum (fun u_ => if vr_fi (I 161) n (nI u_) < vr_fi (I 161) n (nI j) then (1 : Int32) else 0) nb), .int (nI nb)], []) (G, I, F) _ _
        refine vm_J.go vm_q206 (k := 3) (hs := [vm_shR]) (f' := (21, (0, 0), [.ref 152, .int i, .int (nI j), .int (sp_sum (fun u_ => if vr_fi (I 161) n (nI u_) < vr_fi (I 161) n (nI j) then (1 : Int32) else 0) nb), .int (nI nb)], [.int (I 152 19), .int (nI nb)])) (h' := (G, I, F)) (hs' := []) rfl (vm_b2 rfl (vm_b2 rfl (vm_b2 (vm_b2 (vm_hG hR.c152) rfl) rfl))) ?_
        rw [(hb : I 152 19 = nI nb)]
        refine vm_J.go vm_q206 (k := 1) (hs := []) (f' := (bif vm_ic .ge (nI nb) (nI nb) then 52 else 24, (0, 0), [.ref 152, .int i, .int (nI j), .int (sp_sum (fun u_ => if vr_fi (I 161) n (nI u_) < vr_fi (I 161) n (nI j) then (1 : Int32) else 0) nb), .int (nI nb)], [])) (h' := (G, I, F)) (hs' := []) rfl rfl ?_
        refine vm_J.br (fun c4 => ?_) (fun c4 => ?_)
        · have c4 := vm_ge_t (a := nb) (b := nb) (by omega) (by omega) c4
          refine vm_J.go vm_q206 (k := 3) (hs := []) (f' := (bif vm_ic .ne (sp_sum (fun u_ => if vr_fi (I 161) n (nI u_) < vr_fi (I 161) n (nI j) then (1 : Int32) else 0) nb) i then 59 else 57, (0, 0), [.ref 152, .int i, .int (nI j), .int (sp_sum (fun u_ => if vr_fi (I 161) n (nI u_) < vr_fi (I 161) n (nI j) then (1 : Int32) else 0) nb), .int (nI nb)], [])) (h' := (G, I, F)) (hs' := []) rfl rfl ?_
          refine vm_J.br (fun c5 => ?_) (fun c5 => ?_)
          · have c5 : ¬ (sp_sum (fun u_ => if vr_fi (I 161) n (nI u_) < vr_fi (I 161) n (nI j) then (1 : Int32) else 0) nb) = i := of_decide_eq_true c5
            refine vm_J.go vm_q206 (k := 2) (hs := []) (f' := (2, (0, 0), [.ref 152, .int i, .int ((nI j) + 1), .int (sp_sum (fun u_ => if vr_fi (I 161) n (nI u_) < vr_fi (I 161) n (nI j) then (1 : Int32) else 0) nb), .int (nI nb)], [])) (h' := (G, I, F)) (hs' := []) rfl rfl ?_
            rw [((vm_pa (rfl : nI j = nI j) (rfl : (1 : Int32) = nI 1)) : (nI j) + 1 = nI (j + 1))]
            refine vm_J.mask [true, true, true, false, false] ?_
            show vm_J _ _ _ (2, (0, 0), [.ref 152, .int i, .int (nI (j + 1)), .retAddr 0, .retAddr 0], []) (G, I, F) _ _
            exact ij (vm_alls (p := fun t => ¬ (sp_sum (fun u_ => if vr_fi (I 161) n (nI u_) < vr_fi (I 161) n (nI t) then (1 : Int32) else 0) nb) = i) pj c5)
          · have c5 : (sp_sum (fun u_ => if vr_fi (I 161) n (nI u_) < vr_fi (I 161) n (nI j) then (1 : Int32) else 0) nb) = i := Decidable.of_not_not (of_decide_eq_false c5)
            refine vm_J.go vm_q206 (k := 1) (hs := []) (f' := (58, (0, 0), [.ref 152, .int i, .int (nI j), .int (sp_sum (fun u_ => if vr_fi (I 161) n (nI u_) < vr_fi (I 161) n (nI j) then (1 : Int32) else 0) nb), .int (nI nb)], [.int (nI j)])) (h' := (G, I, F)) (hs' := []) rfl rfl ?_
            rw [show vr_ba (I 161) n nb i = j from sp_fi_hit (p := (fun t => (sp_sum (fun u_ => if vr_fi (I 161) n (nI u_) < vr_fi (I 161) n (nI t) then (1 : Int32) else 0) nb) = i)) hj pj c5, if_pos hj]
            exact vm_J.end vm_q206 (en := (58, .ireturn, 1, [], .null)) rfl rfl vm_rI (Nat.zero_le _) (Nat.zero_le _) rfl
        · have c4 := vm_ge_f (a := nb) (b := nb) (by omega) (by omega) c4
          exact (show False by omega).elim
  · show vm_J _ _ _ (2, (0, 0), [.ref 152, .int i, .int (nI nb), .retAddr 0, .retAddr 0], []) (G, I, F) _ _
    refine vm_J.go vm_q206 (k := 3) (hs := [vm_shR]) (f' := (7, (0, 0), [.ref 152, .int i, .int (nI nb), .retAddr 0, .retAddr 0], [.int (I 152 19), .int (nI nb)])) (h' := (G, I, F)) (hs' := []) rfl (vm_b2 rfl (vm_b2 rfl (vm_b2 (vm_b2 (vm_hG hR.c152) rfl) rfl))) ?_
    rw [(hb : I 152 19 = nI nb)]
    refine vm_J.go vm_q206 (k := 1) (hs := []) (f' := (bif vm_ic .ge (nI nb) (nI nb) then 65 else 10, (0, 0), [.ref 152, .int i, .int (nI nb), .retAddr 0, .retAddr 0], [])) (h' := (G, I, F)) (hs' := []) rfl rfl ?_
    refine vm_J.br (fun c6 => ?_) (fun c6 => ?_)
    · have c6 := vm_ge_t (a := nb) (b := nb) (by omega) (by omega) c6
      refine vm_J.go vm_q206 (k := 1) (hs := []) (f' := (66, (0, 0), [.ref 152, .int i, .int (nI nb), .retAddr 0, .retAddr 0], [.int (-1)])) (h' := (G, I, F)) (hs' := []) rfl rfl ?_
      rw [show vr_ba (I 161) n nb i = nb from sp_fi_none (p := (fun t => (sp_sum (fun u_ => if vr_fi (I 161) n (nI u_) < vr_fi (I 161) n (nI t) then (1 : Int32) else 0) nb) = i)) pj, if_neg (Nat.lt_irrefl nb)]
      exact vm_J.end vm_q206 (en := (66, .ireturn, 1, [], .null)) rfl rfl vm_rI (Nat.zero_le _) (Nat.zero_le _) rfl
    · have c6 := vm_ge_f (a := nb) (b := nb) (by omega) (by omega) c6
      exact (show False by omega).elim
def vr_cs (f g h : Nat → Int32) (n : Nat) (x k : Int32) : Int32 := sp_sum (fun i => if g i = x then h i * sp_ch (f i) k else 0) n
def vr_cm (f g h : Nat → Int32) (n : Nat) (x : Int32) : Nat → Int32
  | 0 => 0
  | c + 1 => 64 * vr_cm f g h n x c + sp_rd (vr_cs f g h n x (nI c)) (vr_px g h n x)
