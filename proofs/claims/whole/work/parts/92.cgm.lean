/-- the i-th box by the least colours; its mean -/
def vm_bxa (H : Nat → Nat → Int32) (C n : Nat) (i : Int32) : Nat := sp_fi (fun t => sp_sum (fun u => if H (C + 4 + u) 5 < H (C + 4 + t) 5 then 1 else 0) n = i) n
def vm_bm (H : Nat → Nat → Int32) (C t : Nat) : Int32 := sp_cm H C (H (C + 4 + t) 0).toNatClampNeg ((H (C + 4 + t) 1).toNatClampNeg - (H (C + 4 + t) 0).toNatClampNeg) (H (C + 4 + t) 2) 3
theorem vm_bm_e {H : Nat → Nat → Int32} {C t x y : Nat} (hx : H (C + 4 + t) 0 = nI x) (hy : H (C + 4 + t) 1 = nI y) (x2 : x < 2147483648) (y2 : y < 2147483648) : sp_cm H C x (y - x) (H (C + 4 + t) 2) 3 = vm_bm H C t := by
  unfold vm_bm
  rw [hx, hy, vm_toM x x2, vm_toM y y2]
theorem m_Cu_boxAt_d {l : Launch} {X : vm_Cx} {G : List vm_Sh} {I : Nat → Nat → Int32} {F : Nat → Nat → UInt32} {C n : Nat} {i : Int32} (hC : vm_isC G C) (hn : I C 4 = nI n) (hn2 : n ≤ 16) : vm_K l X vm_M16 [.ref C, .int i] (G, I, F) (some (if vm_bxa I C n i < n then Value.ref (C + 4 + vm_bxa I C n i) else Value.null)) (G, I, F) := m_Cu_boxAt hC hn hn2
/-- the means are given to a palette -/
def vm_gm (H : Nat → Nat → Int32) (C nb po pa pb n : Nat) : Nat → (Nat → Nat → Int32) × Nat
  | 0 => (H, n)
  | i + 1 => if vm_bxa (vm_gm H C nb po pa pb n i).1 C nb (nI i) < nb ∧ sp_wcA ((vm_gm H C nb po pa pb n i).1 pa) (vm_bm (vm_gm H C nb po pa pb n i).1 C (vm_bxa (vm_gm H C nb po pa pb n i).1 C nb (nI i))) (vm_gm H C nb po pa pb n i).2 then (vm_app (vm_gm H C nb po pa pb n i).1 po pa pb (vm_gm H C nb po pa pb n i).2 (vm_bm (vm_gm H C nb po pa pb n i).1 C (vm_bxa (vm_gm H C nb po pa pb n i).1 C nb (nI i))) 0, (vm_gm H C nb po pa pb n i).2 + 1) else vm_gm H C nb po pa pb n i
theorem vm_gm_y {H : Nat → Nat → Int32} {C nb po pa pb n i t : Nat} (et : vm_bxa (vm_gm H C nb po pa pb n i).1 C nb (nI i) = t) (ht : t < nb) (hw : sp_wcA ((vm_gm H C nb po pa pb n i).1 pa) (vm_bm (vm_gm H C nb po pa pb n i).1 C t) (vm_gm H C nb po pa pb n i).2) : vm_gm H C nb po pa pb n (i + 1) = (vm_app (vm_gm H C nb po pa pb n i).1 po pa pb (vm_gm H C nb po pa pb n i).2 (vm_bm (vm_gm H C nb po pa pb n i).1 C t) 0, (vm_gm H C nb po pa pb n i).2 + 1) := by
  subst et
  exact if_pos ⟨ht, hw⟩
theorem vm_gm_n {H : Nat → Nat → Int32} {C nb po pa pb n i t : Nat} (et : vm_bxa (vm_gm H C nb po pa pb n i).1 C nb (nI i) = t) (h : ¬ (t < nb ∧ sp_wcA ((vm_gm H C nb po pa pb n i).1 pa) (vm_bm (vm_gm H C nb po pa pb n i).1 C t) (vm_gm H C nb po pa pb n i).2)) : vm_gm H C nb po pa pb n (i + 1) = vm_gm H C nb po pa pb n i := by
  subst et
  exact if_neg h
theorem vm_gm_o (H : Nat → Nat → Int32) (C nb po pa pb n a : Nat) (h1 : a ≠ po) (h2 : a ≠ pa) (h3 : a ≠ pb) (k : Nat) : ∀ i, (vm_gm H C nb po pa pb n i).1 a k = H a k
  | 0 => rfl
  | i + 1 => by
    unfold vm_gm
    split
    · exact (vm_app_o _ po pa pb _ _ _ a h1 h2 h3 k).trans (vm_gm_o H C nb po pa pb n a h1 h2 h3 k i)
    · exact vm_gm_o H C nb po pa pb n a h1 h2 h3 k i
theorem vm_gm_c {H : Nat → Nat → Int32} {C nb po pa pb n : Nat} (hn : H po 0 = nI n) (hn2 : n ≤ 16) : ∀ i, (vm_gm H C nb po pa pb n i).1 po 0 = nI (vm_gm H C nb po pa pb n i).2 ∧ n ≤ (vm_gm H C nb po pa pb n i).2 ∧ (vm_gm H C nb po pa pb n i).2 ≤ 16
  | 0 => ⟨hn, Nat.le_refl _, hn2⟩
  | i + 1 => by
    have ih := vm_gm_c (C := C) (nb := nb) (pa := pa) (pb := pb) hn hn2 i
    unfold vm_gm
    split
    · rename_i q
      have := q.2.1
      exact ⟨vm_app_0 _ _ _ _ _ _ _, by dsimp only; omega, by dsimp only; omega⟩
    · exact ih
theorem vm_gm_ib {H : Nat → Nat → Int32} {C nb po pa pb n : Nat} (h : vm_ib H C nb) (hb : nb ≤ 16) (h1 : po < C ∨ C + 20 ≤ po) (h2 : pa < C ∨ C + 20 ≤ pa) (h3 : pb < C ∨ C + 20 ≤ pb) (i : Nat) : vm_ib (vm_gm H C nb po pa pb n i).1 C nb := by
  have ho : ∀ a k, C ≤ a → a < C + 20 → (vm_gm H C nb po pa pb n i).1 a k = H a k := fun a k p q => vm_gm_o _ _ _ _ _ _ _ _ (by omega) (by omega) (by omega) k i
  refine ⟨(ho _ _ (by omega) (by omega)).trans h.1, fun t ht => ?_⟩
  rw [ho _ _ (by omega) (by omega), ho _ _ (by omega) (by omega), ho _ _ (by omega) (by omega)]
  exact h.2 t ht
set_option maxHeartbeats 4000000 in
set_option maxRecDepth 20000 in
/-- DitherDesk$Cutter.giveMeansTo -/
theorem m_Cu_give {l : Launch} {X : vm_Cx} {G : List vm_Sh} {I : Nat → Nat → Int32} {F : Nat → Nat → UInt32} {C : Nat} {po : Nat} {pa : Nat} {pb : Nat} {n : Nat} {nb : Nat} (hC : vm_isC G C) (hpo : G[po]? = some (4, 3, [.int 0, .ref pa, .ref pb])) (hpa : G[pa]? = some (0, 16, [])) (hpb : G[pb]? = some (0, 16, [])) (hib : vm_ib I C nb) (hnb : nb ≤ 16) (hn : I po 0 = nI n) (hn2 : n ≤ 16) (h1 : po < C ∨ C + 20 ≤ po) (h2 : pa < C ∨ C + 20 ≤ pa) (h3 : pb < C ∨ C + 20 ≤ pb) (hab : pa ≠ pb) (hoa : po ≠ pa) (hob : po ≠ pb) : vm_K l X vm_M19 [.ref C, .ref po] (G, I, F) (none) (G, ((vm_gm I C nb po pa pb n nb).1), F) := by
  refine vm_K.mk (by decide) (Nat.le_of_ble_eq_true rfl) ?_
  show vm_J _ _ _ (0, (0, 0), [.ref C, .ref po, .retAddr 0, .retAddr 0], []) _ _ _
  refine vm_J.go vm_q19 (k := 2) (hs := []) (f' := (2, (0, 0), [.ref C, .ref po, .int 0, .retAddr 0], [])) (h' := (G, I, F)) (hs' := []) rfl rfl ?_
  refine vm_J.cnt nb (fun i => (2, (0, 0), [.ref C, .ref po, .int (nI i), .retAddr 0], [])) (fun i => (G, ((vm_gm I C nb po pa pb n i).1), F)) (fun _ => True) rfl rfl trivial (fun i hi pi ii => ?_) (fun pi => ?_)
  · have hic := vm_gm_ib (n := n) hib hnb h1 h2 h3 i
    have hcc := vm_gm_c (C := C) (nb := nb) (pa := pa) (pb := pb) hn hn2 i
    show vm_J _ _ _ (2, (0, 0), [.ref C, .ref po, .int (nI i), .retAddr 0], []) (G, ((vm_gm I C nb po pa pb n i).1), F) _ _
    refine vm_J.go vm_q19 (k := 3) (hs := [(3, 5, [.ref (C + 1), .ref (C + 2), .int 0, .ref (C + 3), .int 0])]) (f' := (7, (0, 0), [.ref C, .ref po, .int (nI i), .retAddr 0], [.int (((vm_gm I C nb po pa pb n i).1) C 4), .int (nI i)])) (h' := (G, ((vm_gm I C nb po pa pb n i).1), F)) (hs' := []) rfl (vm_b2 rfl (vm_b2 rfl (vm_b2 (vm_b2 (vm_hG hC.1) rfl) rfl))) ?_
    rw [(hic.1 : ((vm_gm I C nb po pa pb n i).1) C 4 = nI nb)]
    refine vm_J.go vm_q19 (k := 1) (hs := []) (f' := (bif vm_ic .ge (nI i) (nI nb) then 37 else 10, (0, 0), [.ref C, .ref po, .int (nI i), .retAddr 0], [])) (h' := (G, ((vm_gm I C nb po pa pb n i).1), F)) (hs' := []) rfl rfl ?_
    refine vm_J.br (fun c1 => ?_) (fun c1 => ?_)
    · have c1 := vm_ge_t (a := i) (b := nb) (by omega) (by omega) c1
      exact (show False by omega).elim
    · have c1 := vm_ge_f (a := i) (b := nb) (by omega) (by omega) c1
      refine vm_J.go vm_q19 (k := 2) (hs := []) (f' := (12, (0, 0), [.ref C, .ref po, .int (nI i), .retAddr 0], [.int (nI i), .ref C])) (h' := (G, ((vm_gm I C nb po pa pb n i).1), F)) (hs' := []) rfl rfl ?_
      refine vm_J.call vm_q19 (Z := vm_M16) (n := 1) (k := 0) (mi := 16) (pc := 12) (en := (12, .invokevirtual 129, 3, [16, 738, 0], .null)) rfl trivial rfl rfl vm_z16 (av := [.ref C, .int (nI i)]) (rest := []) (m_Cu_boxAt_d (n := nb) (i := nI i) hC (vm_gm_ib (n := n) hib hnb h1 h2 h3 i).1 hnb) ⟨_, _, rfl, rfl, _, 1, _, hC.1, rfl, rfl, rfl⟩ (Nat.le_of_ble_eq_true rfl) ⟨Nat.le_of_ble_eq_true rfl, Nat.le_of_ble_eq_true rfl⟩ ⟨Nat.le_of_ble_eq_true rfl, Nat.le_of_ble_eq_true rfl⟩ ?_
      show vm_J _ _ _ (15, (0, 0), [.ref C, .ref po, .int (nI i), .retAddr 0], [(if vm_bxa ((vm_gm I C nb po pa pb n i).1) C nb (nI i) < nb then Value.ref (C + 4 + vm_bxa ((vm_gm I C nb po pa pb n i).1) C nb (nI i)) else Value.null)]) (G, ((vm_gm I C nb po pa pb n i).1), F) _ _
      obtain ⟨t, et⟩ : ∃ t, vm_bxa ((vm_gm I C nb po pa pb n i).1) C nb (nI i) = t := ⟨_, rfl⟩
      rw [et]
      by_cases ht : t < nb
      · rw [if_pos ht]
        obtain ⟨x, y, hx, hy, hxy, hy2, h5⟩ := hic.2 t ht
        show vm_J _ _ _ (15, (0, 0), [.ref C, .ref po, .int (nI i), .retAddr 0], [.ref (C + 4 + t)]) (G, ((vm_gm I C nb po pa pb n i).1), F) _ _
        refine vm_J.go vm_q19 (k := 6) (hs := []) (f' := (23, (0, 0), [.ref C, .ref po, .int (nI i), .ref (C + 4 + t)], [.ref (C + 4 + t), .ref C, .ref po])) (h' := (G, ((vm_gm I C nb po pa pb n i).1), F)) (hs' := []) rfl rfl ?_
        refine vm_J.call vm_q19 (Z := vm_M18) (n := 1) (k := 0) (mi := 18) (pc := 23) (en := (23, .invokevirtual 132, 3, [18, 739, 0], .null)) rfl trivial rfl rfl vm_z18 (av := [.ref C, .ref (C + 4 + t)]) (rest := [.ref po]) (m_Cu_mean (C := C) (b := C + 4 + t) (x := x) (y := y) hC (hC.2.2.2.2 t (by omega)) hx hy (by omega) (by omega)) ⟨_, _, rfl, rfl, _, 1, _, hC.1, rfl, rfl, rfl⟩ (Nat.le_of_ble_eq_true rfl) ⟨Nat.le_of_ble_eq_true rfl, Nat.le_of_ble_eq_true rfl⟩ ⟨Nat.le_of_ble_eq_true rfl, Nat.le_of_ble_eq_true rfl⟩ ?_
        show vm_J _ _ _ (26, (0, 0), [.ref C, .ref po, .int (nI i), .ref (C + 4 + t)], [.int (sp_cm ((vm_gm I C nb po pa pb n i).1) C x (y - x) (((vm_gm I C nb po pa pb n i).1) (C + 4 + t) 2) 3), .ref po]) (G, ((vm_gm I C nb po pa pb n i).1), F) _ _
        refine vm_J.go vm_q19 (k := 1) (hs := []) (f' := (27, (0, 0), [.ref C, .ref po, .int (nI i), .ref (C + 4 + t)], [.int 0, .int (sp_cm ((vm_gm I C nb po pa pb n i).1) C x (y - x) (((vm_gm I C nb po pa pb n i).1) (C + 4 + t) 2) 3), .ref po])) (h' := (G, ((vm_gm I C nb po pa pb n i).1), F)) (hs' := []) rfl rfl ?_
        rw [vm_bm_e hx hy (by omega) (by omega)]
        by_cases hw : sp_wcA (((vm_gm I C nb po pa pb n i).1) pa) (vm_bm ((vm_gm I C nb po pa pb n i).1) C t) ((vm_gm I C nb po pa pb n i).2)
        · show vm_J _ _ _ (27, (0, 0), [.ref C, .ref po, .int (nI i), .ref (C + 4 + t)], [.int 0, .int (vm_bm ((vm_gm I C nb po pa pb n i).1) C t), .ref po]) (G, ((vm_gm I C nb po pa pb n i).1), F) _ _
          refine vm_J.call vm_q19 (Z := vm_M27) (n := 2) (k := 0) (mi := 27) (pc := 27) (en := (27, .invokevirtual 135, 3, [27, 740, 0], .null)) rfl trivial rfl rfl vm_z27 (av := [.ref po, .int (vm_bm ((vm_gm I C nb po pa pb n i).1) C t), .int 0]) (rest := []) (m_Pal_welcome_y0 (o := po) (a := pa) (b := pb) (n := (vm_gm I C nb po pa pb n i).2) (c := vm_bm ((vm_gm I C nb po pa pb n i).1) C t) hpo hpa hpb (vm_gm_c hn hn2 _).1 hw.1 (by omega) (by omega) (by omega) hw.2) ⟨_, _, rfl, rfl, _, 2, _, hpo, rfl, rfl, rfl⟩ (Nat.le_of_ble_eq_true rfl) ⟨Nat.le_of_ble_eq_true rfl, Nat.le_of_ble_eq_true rfl⟩ ⟨Nat.le_of_ble_eq_true rfl, Nat.le_of_ble_eq_true rfl⟩ ?_
          show vm_J _ _ _ (30, (0, 0), [.ref C, .ref po, .int (nI i), .ref (C + 4 + t)], [.int 1]) (G, (vm_app ((vm_gm I C nb po pa pb n i).1) po pa pb ((vm_gm I C nb po pa pb n i).2) (vm_bm ((vm_gm I C nb po pa pb n i).1) C t) 0), F) _ _
          refine vm_J.go vm_q19 (k := 3) (hs := []) (f' := (2, (0, 0), [.ref C, .ref po, .int ((nI i) + 1), .ref (C + 4 + t)], [])) (h' := (G, (vm_app ((vm_gm I C nb po pa pb n i).1) po pa pb ((vm_gm I C nb po pa pb n i).2) (vm_bm ((vm_gm I C nb po pa pb n i).1) C t) 0), F)) (hs' := []) rfl rfl ?_
          rw [((vm_pa (rfl : nI i = nI i) (rfl : (1 : Int32) = nI 1)) : (nI i) + 1 = nI (i + 1))]
          refine vm_J.mask [true, true, true, false] ?_
          show vm_J _ _ _ (2, (0, 0), [.ref C, .ref po, .int (nI (i + 1)), .retAddr 0], []) (G, (vm_app ((vm_gm I C nb po pa pb n i).1) po pa pb ((vm_gm I C nb po pa pb n i).2) (vm_bm ((vm_gm I C nb po pa pb n i).1) C t) 0), F) _ _
          have z := ii trivial
          rw [vm_gm_y et ht hw] at z
          exact z
        · rcases vm_wc_no hw hcc.2.2 with hf | ⟨q, hq1, hq2⟩
          · show vm_J _ _ _ (27, (0, 0), [.ref C, .ref po, .int (nI i), .ref (C + 4 + t)], [.int 0, .int (vm_bm ((vm_gm I C nb po pa pb n i).1) C t), .ref po]) (G, ((vm_gm I C nb po pa pb n i).1), F) _ _
            refine vm_J.call vm_q19 (Z := vm_M27) (n := 2) (k := 0) (mi := 27) (pc := 27) (en := (27, .invokevirtual 135, 3, [27, 740, 0], .null)) rfl trivial rfl rfl vm_z27 (av := [.ref po, .int (vm_bm ((vm_gm I C nb po pa pb n i).1) C t), .int 0]) (rest := []) (m_Pal_welcome_f0 (o := po) (a := pa) (b := pb) (n := (vm_gm I C nb po pa pb n i).2) (c := vm_bm ((vm_gm I C nb po pa pb n i).1) C t) hpo hpa hpb (vm_gm_c hn hn2 _).1 hf) ⟨_, _, rfl, rfl, _, 2, _, hpo, rfl, rfl, rfl⟩ (Nat.le_of_ble_eq_true rfl) ⟨Nat.le_of_ble_eq_true rfl, Nat.le_of_ble_eq_true rfl⟩ ⟨Nat.le_of_ble_eq_true rfl, Nat.le_of_ble_eq_true rfl⟩ ?_
            show vm_J _ _ _ (30, (0, 0), [.ref C, .ref po, .int (nI i), .ref (C + 4 + t)], [.int 0]) (G, ((vm_gm I C nb po pa pb n i).1), F) _ _
            refine vm_J.go vm_q19 (k := 3) (hs := []) (f' := (2, (0, 0), [.ref C, .ref po, .int ((nI i) + 1), .ref (C + 4 + t)], [])) (h' := (G, ((vm_gm I C nb po pa pb n i).1), F)) (hs' := []) rfl rfl ?_
            rw [((vm_pa (rfl : nI i = nI i) (rfl : (1 : Int32) = nI 1)) : (nI i) + 1 = nI (i + 1))]
            refine vm_J.mask [true, true, true, false] ?_
            show vm_J _ _ _ (2, (0, 0), [.ref C, .ref po, .int (nI (i + 1)), .retAddr 0], []) (G, ((vm_gm I C nb po pa pb n i).1), F) _ _
            have z := ii trivial
            rw [vm_gm_n et (fun q => hw q.2)] at z
            exact z
          · show vm_J _ _ _ (27, (0, 0), [.ref C, .ref po, .int (nI i), .ref (C + 4 + t)], [.int 0, .int (vm_bm ((vm_gm I C nb po pa pb n i).1) C t), .ref po]) (G, ((vm_gm I C nb po pa pb n i).1), F) _ _
            refine vm_J.call vm_q19 (Z := vm_M27) (n := 2) (k := 0) (mi := 27) (pc := 27) (en := (27, .invokevirtual 135, 3, [27, 740, 0], .null)) rfl trivial rfl rfl vm_z27 (av := [.ref po, .int (vm_bm ((vm_gm I C nb po pa pb n i).1) C t), .int 0]) (rest := []) (m_Pal_welcome_t0 (o := po) (a := pa) (b := pb) (n := (vm_gm I C nb po pa pb n i).2) (j := q) (c := vm_bm ((vm_gm I C nb po pa pb n i).1) C t) hpo hpa hpb (vm_gm_c hn hn2 _).1 (by omega) hq1 hq2) ⟨_, _, rfl, rfl, _, 2, _, hpo, rfl, rfl, rfl⟩ (Nat.le_of_ble_eq_true rfl) ⟨Nat.le_of_ble_eq_true rfl, Nat.le_of_ble_eq_true rfl⟩ ⟨Nat.le_of_ble_eq_true rfl, Nat.le_of_ble_eq_true rfl⟩ ?_
            show vm_J _ _ _ (30, (0, 0), [.ref C, .ref po, .int (nI i), .ref (C + 4 + t)], [.int 0]) (G, ((vm_gm I C nb po pa pb n i).1), F) _ _
            refine vm_J.go vm_q19 (k := 3) (hs := []) (f' := (2, (0, 0), [.ref C, .ref po, .int ((nI i) + 1), .ref (C + 4 + t)], [])) (h' := (G, ((vm_gm I C nb po pa pb n i).1), F)) (hs' := []) rfl rfl ?_
            rw [((vm_pa (rfl : nI i = nI i) (rfl : (1 : Int32) = nI 1)) : (nI i) + 1 = nI (i + 1))]
            refine vm_J.mask [true, true, true, false] ?_
            show vm_J _ _ _ (2, (0, 0), [.ref C, .ref po, .int (nI (i + 1)), .retAddr 0], []) (G, ((vm_gm I C nb po pa pb n i).1), F) _ _
            have z := ii trivial
            rw [vm_gm_n et (fun q => hw q.2)] at z
            exact z
      · rw [if_neg ht]
        show vm_J _ _ _ (15, (0, 0), [.ref C, .ref po, .int (nI i), .retAddr 0], [.null]) (G, ((vm_gm I C nb po pa pb n i).1), F) _ _
        refine vm_J.go vm_q19 (k := 5) (hs := []) (f' := (2, (0, 0), [.ref C, .ref po, .int ((nI i) + 1), .null], [])) (h' := (G, ((vm_gm I C nb po pa pb n i).1), F)) (hs' := []) rfl rfl ?_
        rw [((vm_pa (rfl : nI i = nI i) (rfl : (1 : Int32) = nI 1)) : (nI i) + 1 = nI (i + 1))]
        refine vm_J.mask [true, true, true, false] ?_
        show vm_J _ _ _ (2, (0, 0), [.ref C, .ref po, .int (nI (i + 1)), .retAddr 0], []) (G, ((vm_gm I C nb po pa pb n i).1), F) _ _
        have z := ii trivial
        rw [vm_gm_n et (fun q => ht q.1)] at z
        exact z
  · have hic := vm_gm_ib (n := n) hib hnb h1 h2 h3 nb
    show vm_J _ _ _ (2, (0, 0), [.ref C, .ref po, .int (nI nb), .retAddr 0], []) (G, ((vm_gm I C nb po pa pb n nb).1), F) _ _
    refine vm_J.go vm_q19 (k := 3) (hs := [(3, 5, [.ref (C + 1), .ref (C + 2), .int 0, .ref (C + 3), .int 0])]) (f' := (7, (0, 0), [.ref C, .ref po, .int (nI nb), .retAddr 0], [.int (((vm_gm I C nb po pa pb n nb).1) C 4), .int (nI nb)])) (h' := (G, ((vm_gm I C nb po pa pb n nb).1), F)) (hs' := []) rfl (vm_b2 rfl (vm_b2 rfl (vm_b2 (vm_b2 (vm_hG hC.1) rfl) rfl))) ?_
    rw [(hic.1 : ((vm_gm I C nb po pa pb n nb).1) C 4 = nI nb)]
    refine vm_J.go vm_q19 (k := 1) (hs := []) (f' := (bif vm_ic .ge (nI nb) (nI nb) then 37 else 10, (0, 0), [.ref C, .ref po, .int (nI nb), .retAddr 0], [])) (h' := (G, ((vm_gm I C nb po pa pb n nb).1), F)) (hs' := []) rfl rfl ?_
    refine vm_J.br (fun c2 => ?_) (fun c2 => ?_)
    · have c2 := vm_ge_t (a := nb) (b := nb) (by omega) (by omega) c2
      exact vm_J.end vm_q19 (en := (37, .return_, 1, [], .null)) rfl rfl vm_rV (Nat.zero_le _) (Nat.zero_le _) rfl
    · have c2 := vm_ge_f (a := nb) (b := nb) (by omega) (by omega) c2
      exact (show False by omega).elim
