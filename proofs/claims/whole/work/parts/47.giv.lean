abbrev sp_wcA (f : Nat → Int32) (c : Int32) (n : Nat) : Prop := n < 16 ∧ ∀ k, k < n → ¬ f k = c
/-- entries come one behind another, those that would -/
def vm_gv (I : Nat → Nat → Int32) (po pa pb n : Nat) (f l : Nat → Int32) : Nat → (Nat → Nat → Int32) × Nat
  | 0 => (I, n)
  | i + 1 => if sp_wcA ((vm_gv I po pa pb n f l i).1 pa) (f i) (vm_gv I po pa pb n f l i).2 then (vm_app (vm_gv I po pa pb n f l i).1 po pa pb (vm_gv I po pa pb n f l i).2 (f i) (if l i = 1 then 1 else 0), (vm_gv I po pa pb n f l i).2 + 1) else vm_gv I po pa pb n f l i
theorem vm_app_o (I : Nat → Nat → Int32) (o a b n : Nat) (c l : Int32) (x : Nat) (h1 : x ≠ o) (h2 : x ≠ a) (h3 : x ≠ b) (k : Nat) : vm_app I o a b n c l x k = I x k := by
  unfold vm_app
  rw [vm_up_o2 _ _ _ _ _ _ h1, vm_up_o2 _ _ _ _ _ _ h3, vm_up_o2 _ _ _ _ _ _ h2]
theorem vm_gv_o (I : Nat → Nat → Int32) (po pa pb n : Nat) (f l : Nat → Int32) (x : Nat) (h1 : x ≠ po) (h2 : x ≠ pa) (h3 : x ≠ pb) (k : Nat) : ∀ i, (vm_gv I po pa pb n f l i).1 x k = I x k
  | 0 => rfl
  | i + 1 => by
    unfold vm_gv
    split
    · exact (vm_app_o _ po pa pb _ _ _ x h1 h2 h3 k).trans (vm_gv_o I po pa pb n f l x h1 h2 h3 k i)
    · exact vm_gv_o I po pa pb n f l x h1 h2 h3 k i
theorem vm_gv_n (I : Nat → Nat → Int32) (po pa pb n : Nat) (f l : Nat → Int32) (h : I po 0 = nI n) : ∀ i, (vm_gv I po pa pb n f l i).1 po 0 = nI (vm_gv I po pa pb n f l i).2
  | 0 => h
  | i + 1 => by
    unfold vm_gv
    split
    · exact vm_up_h _ _ _ _
    · exact vm_gv_n I po pa pb n f l h i
theorem vm_gv_b (I : Nat → Nat → Int32) (po pa pb n : Nat) (f l : Nat → Int32) (h : n ≤ 16) : ∀ i, n ≤ (vm_gv I po pa pb n f l i).2 ∧ (vm_gv I po pa pb n f l i).2 ≤ 16
  | 0 => ⟨Nat.le_refl n, h⟩
  | i + 1 => by
    have ih := vm_gv_b I po pa pb n f l h i
    unfold vm_gv
    split
    · rename_i hw
      exact ⟨Nat.le_succ_of_le ih.1, hw.1⟩
    · exact ih
theorem vm_wc_no {f : Nat → Int32} {c : Int32} {n : Nat} (h : ¬ sp_wcA f c n) (hn : n ≤ 16) : n = 16 ∨ ∃ j, j < n ∧ f j = c := by
  by_cases h1 : n = 16
  · exact Or.inl h1
  · rcases sp_ew_or f c n with ⟨j, h2, h3, -, -⟩ | ⟨h2, -⟩
    · exact Or.inr ⟨j, h2, h3⟩
    · exact absurd ⟨by omega, h2⟩ h
set_option maxHeartbeats 4000000 in
set_option maxRecDepth 20000 in
/-- DitherDesk$Reader.giveTo  -/
theorem m_Rd_giveTo {l : Launch} {X : vm_Cx} {G : List vm_Sh} {I : Nat → Nat → Int32} {F : Nat → Nat → UInt32} {o a b c po pa pb m n : Nat} (ho : G[o]? = some (6, 6, [.ref a, .int 0, .int 0, .ref b, .ref c, .int 0])) (hb : G[b]? = some (0, 96, [])) (hc : G[c]? = some (0, 96, [])) (hm : I o 5 = nI m) (hm2 : m ≤ 96) (hpo : G[po]? = some (4, 3, [.int 0, .ref pa, .ref pb])) (hpa : G[pa]? = some (0, 16, [])) (hpb : G[pb]? = some (0, 16, [])) (hpn : I po 0 = nI n) (hpn2 : n ≤ 16) (hpp : po ≠ pa) (hpq : po ≠ pb) (hpr : pa ≠ pb) (go0 : o ≠ po) (go1 : o ≠ pa) (go2 : o ≠ pb) (gb0 : b ≠ po) (gb1 : b ≠ pa) (gb2 : b ≠ pb) (gc0 : c ≠ po) (gc1 : c ≠ pa) (gc2 : c ≠ pb) : vm_K l X vm_M49 [.ref o, .ref po] (G, I, F) (some (.int (nI ((vm_gv I po pa pb n (I b) (I c) m).2 - n)))) (G, ((vm_gv I po pa pb n (I b) (I c) m).1), F) := by
  refine vm_K.mk (by decide) (Nat.le_of_ble_eq_true rfl) ?_
  show vm_J _ _ _ (0, (0, 0), [.ref o, .ref po, .retAddr 0, .retAddr 0], []) _ _ _
  refine vm_J.go vm_q49 (k := 4) (hs := []) (f' := (4, (0, 0), [.ref o, .ref po, .int 0, .int 0], [])) (h' := (G, I, F)) (hs' := []) rfl rfl ?_
  refine vm_J.cnt m (fun i => (4, (0, 0), [.ref o, .ref po, .int (nI ((vm_gv I po pa pb n (I b) (I c) i).2 - n)), .int (nI i)], [])) (fun i => (G, ((vm_gv I po pa pb n (I b) (I c) i).1), F)) (fun _ => True) (by rw [show (vm_gv I po pa pb n (I b) (I c) 0).2 = n from rfl, Nat.sub_self]; rfl) rfl trivial (fun i hi pi ii => ?_) (fun pi => ?_)
  · show vm_J _ _ _ (4, (0, 0), [.ref o, .ref po, .int (nI ((vm_gv I po pa pb n (I b) (I c) i).2 - n)), .int (nI i)], []) (G, ((vm_gv I po pa pb n (I b) (I c) i).1), F) _ _
    refine vm_J.go vm_q49 (k := 4) (hs := [(6, 6, [.ref a, .int 0, .int 0, .ref b, .ref c, .int 0])]) (f' := (bif vm_ic .ge (nI i) (((vm_gv I po pa pb n (I b) (I c) i).1) o 5) then 53 else 12, (0, 0), [.ref o, .ref po, .int (nI ((vm_gv I po pa pb n (I b) (I c) i).2 - n)), .int (nI i)], [])) (h' := (G, ((vm_gv I po pa pb n (I b) (I c) i).1), F)) (hs' := []) rfl (vm_b2 rfl (vm_b2 rfl (vm_b2 (vm_b2 (vm_hG ho) rfl) (vm_b2 rfl rfl)))) ?_
    refine vm_J.br (fun c1 => ?_) (fun c1 => ?_)
    · rw [(((vm_gv_o I po pa pb n (I b) (I c) o go0 go1 go2 _ i).trans hm) : ((vm_gv I po pa pb n (I b) (I c) i).1) o 5 = nI m)] at c1
      have c1 := vm_ge_t (a := i) (b := m) (by omega) (by omega) c1
      exact (show False by omega).elim
    · rw [(((vm_gv_o I po pa pb n (I b) (I c) o go0 go1 go2 _ i).trans hm) : ((vm_gv I po pa pb n (I b) (I c) i).1) o 5 = nI m)] at c1
      have c1 := vm_ge_f (a := i) (b := m) (by omega) (by omega) c1
      refine vm_J.go vm_q49 (k := 4) (hs := [(6, 6, [.ref a, .int 0, .int 0, .ref b, .ref c, .int 0])]) (f' := (18, (0, 0), [.ref o, .ref po, .int (nI ((vm_gv I po pa pb n (I b) (I c) i).2 - n)), .int (nI i)], [.int (nI i), .ref b, .ref po])) (h' := (G, ((vm_gv I po pa pb n (I b) (I c) i).1), F)) (hs' := []) rfl (vm_b2 rfl (vm_b2 rfl (vm_b2 (vm_b2 (vm_hG ho) rfl) (vm_b2 rfl rfl)))) ?_
      refine vm_J.call vm_q49 (Z := vm_M152) (n := 2) (k := 1) (mi := 152) (pc := 18) (en := (18, .invokestatic 43, 3, [152, 704, 1], .null)) rfl trivial rfl rfl vm_z152 (av := [.ref b, .int (nI i)]) (rest := [.ref po]) (m_at_v (j := i) (v := (I b) i) hb (by omega) (by omega) ((fun _ => (vm_gv_o I po pa pb n (I b) (I c) b gb0 gb1 gb2 _ i)) i)) rfl (Nat.le_of_ble_eq_true rfl) ⟨Nat.le_of_ble_eq_true rfl, Nat.le_of_ble_eq_true rfl⟩ ⟨Nat.le_of_ble_eq_true rfl, Nat.le_of_ble_eq_true rfl⟩ ?_
      show vm_J _ _ _ (21, (0, 0), [.ref o, .ref po, .int (nI ((vm_gv I po pa pb n (I b) (I c) i).2 - n)), .int (nI i)], [.int ((I b) i), .ref po]) (G, ((vm_gv I po pa pb n (I b) (I c) i).1), F) _ _
      refine vm_J.go vm_q49 (k := 3) (hs := [(6, 6, [.ref a, .int 0, .int 0, .ref b, .ref c, .int 0])]) (f' := (26, (0, 0), [.ref o, .ref po, .int (nI ((vm_gv I po pa pb n (I b) (I c) i).2 - n)), .int (nI i)], [.int (nI i), .ref c, .int ((I b) i), .ref po])) (h' := (G, ((vm_gv I po pa pb n (I b) (I c) i).1), F)) (hs' := []) rfl (vm_b2 rfl (vm_b2 (vm_b2 (vm_hG ho) rfl) (vm_b2 rfl rfl))) ?_
      refine vm_J.call vm_q49 (Z := vm_M152) (n := 2) (k := 1) (mi := 152) (pc := 26) (en := (26, .invokestatic 43, 3, [152, 704, 1], .null)) rfl trivial rfl rfl vm_z152 (av := [.ref c, .int (nI i)]) (rest := [.int ((I b) i), .ref po]) (m_at_v (j := i) (v := (I c) i) hc (by omega) (by omega) ((fun _ => (vm_gv_o I po pa pb n (I b) (I c) c gc0 gc1 gc2 _ i)) i)) rfl (Nat.le_of_ble_eq_true rfl) ⟨Nat.le_of_ble_eq_true rfl, Nat.le_of_ble_eq_true rfl⟩ ⟨Nat.le_of_ble_eq_true rfl, Nat.le_of_ble_eq_true rfl⟩ ?_
      show vm_J _ _ _ (29, (0, 0), [.ref o, .ref po, .int (nI ((vm_gv I po pa pb n (I b) (I c) i).2 - n)), .int (nI i)], [.int ((I c) i), .int ((I b) i), .ref po]) (G, ((vm_gv I po pa pb n (I b) (I c) i).1), F) _ _
      refine vm_J.go vm_q49 (k := 2) (hs := []) (f' := (bif vm_ic .ne ((I c) i) 1 then 37 else 33, (0, 0), [.ref o, .ref po, .int (nI ((vm_gv I po pa pb n (I b) (I c) i).2 - n)), .int (nI i)], [.int ((I b) i), .ref po])) (h' := (G, ((vm_gv I po pa pb n (I b) (I c) i).1), F)) (hs' := []) rfl rfl ?_
      refine vm_J.br (fun c2 => ?_) (fun c2 => ?_)
      · have c2 : ¬ ((I c) i) = 1 := of_decide_eq_true c2
        refine vm_J.go vm_q49 (k := 1) (hs := []) (f' := (38, (0, 0), [.ref o, .ref po, .int (nI ((vm_gv I po pa pb n (I b) (I c) i).2 - n)), .int (nI i)], [.int 0, .int ((I b) i), .ref po])) (h' := (G, ((vm_gv I po pa pb n (I b) (I c) i).1), F)) (hs' := []) rfl rfl ?_
        have hgb := vm_gv_b I po pa pb n (I b) (I c) hpn2 i
        have hgn := vm_gv_n I po pa pb n (I b) (I c) hpn i
        by_cases hw : sp_wcA ((vm_gv I po pa pb n (I b) (I c) i).1 pa) (I b i) (vm_gv I po pa pb n (I b) (I c) i).2
        · show vm_J _ _ _ (38, (0, 0), [.ref o, .ref po, .int (nI ((vm_gv I po pa pb n (I b) (I c) i).2 - n)), .int (nI i)], [.int 0, .int ((I b) i), .ref po]) (G, ((vm_gv I po pa pb n (I b) (I c) i).1), F) _ _
          refine vm_J.call vm_q49 (Z := vm_M27) (n := 2) (k := 0) (mi := 27) (pc := 38) (en := (38, .invokevirtual 47, 3, [27, 718, 0], .null)) rfl trivial rfl rfl vm_z27 (av := [.ref po, .int ((I b) i), .int 0]) (rest := []) (m_Pal_welcome_y0 (c := I b i) hpo hpa hpb hgn hw.1 hpp hpq hpr hw.2) ⟨_, _, rfl, rfl, _, 2, _, hpo, rfl, rfl, rfl⟩ (Nat.le_of_ble_eq_true rfl) ⟨Nat.le_of_ble_eq_true rfl, Nat.le_of_ble_eq_true rfl⟩ ⟨Nat.le_of_ble_eq_true rfl, Nat.le_of_ble_eq_true rfl⟩ ?_
          show vm_J _ _ _ (41, (0, 0), [.ref o, .ref po, .int (nI ((vm_gv I po pa pb n (I b) (I c) i).2 - n)), .int (nI i)], [.int 1]) (G, (vm_app ((vm_gv I po pa pb n (I b) (I c) i).1) po pa pb ((vm_gv I po pa pb n (I b) (I c) i).2) (I b i) 0), F) _ _
          refine vm_J.go vm_q49 (k := 1) (hs := []) (f' := (bif vm_ic .eq 1 0 then 47 else 44, (0, 0), [.ref o, .ref po, .int (nI ((vm_gv I po pa pb n (I b) (I c) i).2 - n)), .int (nI i)], [])) (h' := (G, (vm_app ((vm_gv I po pa pb n (I b) (I c) i).1) po pa pb ((vm_gv I po pa pb n (I b) (I c) i).2) (I b i) 0), F)) (hs' := []) rfl rfl ?_
          refine vm_J.bF (by decide) ?_
          refine vm_J.go vm_q49 (k := 3) (hs := []) (f' := (4, (0, 0), [.ref o, .ref po, .int ((nI ((vm_gv I po pa pb n (I b) (I c) i).2 - n)) + 1), .int ((nI i) + 1)], [])) (h' := (G, (vm_app ((vm_gv I po pa pb n (I b) (I c) i).1) po pa pb ((vm_gv I po pa pb n (I b) (I c) i).2) (I b i) 0), F)) (hs' := []) rfl rfl ?_
          rw [((vm_pa (rfl : nI ((vm_gv I po pa pb n (I b) (I c) i).2 - n) = nI ((vm_gv I po pa pb n (I b) (I c) i).2 - n)) (rfl : (1 : Int32) = nI 1)) : (nI ((vm_gv I po pa pb n (I b) (I c) i).2 - n)) + 1 = nI ((vm_gv I po pa pb n (I b) (I c) i).2 - n + 1)), ((vm_pa (rfl : nI i = nI i) (rfl : (1 : Int32) = nI 1)) : (nI i) + 1 = nI (i + 1))]
          have z := ii trivial
          rw [show (vm_gv I po pa pb n (I b) (I c) (i + 1)) = _ from if_pos hw, if_neg c2] at z
          dsimp only at z
          rw [show (vm_gv I po pa pb n (I b) (I c) i).2 + 1 - n = (vm_gv I po pa pb n (I b) (I c) i).2 - n + 1 from by omega] at z
          exact z
        · rcases vm_wc_no hw hgb.2 with hf | ⟨q, hq1, hq2⟩
          · show vm_J _ _ _ (38, (0, 0), [.ref o, .ref po, .int (nI ((vm_gv I po pa pb n (I b) (I c) i).2 - n)), .int (nI i)], [.int 0, .int ((I b) i), .ref po]) (G, ((vm_gv I po pa pb n (I b) (I c) i).1), F) _ _
            refine vm_J.call vm_q49 (Z := vm_M27) (n := 2) (k := 0) (mi := 27) (pc := 38) (en := (38, .invokevirtual 47, 3, [27, 718, 0], .null)) rfl trivial rfl rfl vm_z27 (av := [.ref po, .int ((I b) i), .int 0]) (rest := []) (m_Pal_welcome_f0 (c := I b i) hpo hpa hpb hgn hf) ⟨_, _, rfl, rfl, _, 2, _, hpo, rfl, rfl, rfl⟩ (Nat.le_of_ble_eq_true rfl) ⟨Nat.le_of_ble_eq_true rfl, Nat.le_of_ble_eq_true rfl⟩ ⟨Nat.le_of_ble_eq_true rfl, Nat.le_of_ble_eq_true rfl⟩ ?_
            show vm_J _ _ _ (41, (0, 0), [.ref o, .ref po, .int (nI ((vm_gv I po pa pb n (I b) (I c) i).2 - n)), .int (nI i)], [.int 0]) (G, ((vm_gv I po pa pb n (I b) (I c) i).1), F) _ _
            refine vm_J.go vm_q49 (k := 1) (hs := []) (f' := (bif vm_ic .eq 0 0 then 47 else 44, (0, 0), [.ref o, .ref po, .int (nI ((vm_gv I po pa pb n (I b) (I c) i).2 - n)), .int (nI i)], [])) (h' := (G, ((vm_gv I po pa pb n (I b) (I c) i).1), F)) (hs' := []) rfl rfl ?_
            refine vm_J.bT (by decide) ?_
            refine vm_J.go vm_q49 (k := 2) (hs := []) (f' := (4, (0, 0), [.ref o, .ref po, .int (nI ((vm_gv I po pa pb n (I b) (I c) i).2 - n)), .int ((nI i) + 1)], [])) (h' := (G, ((vm_gv I po pa pb n (I b) (I c) i).1), F)) (hs' := []) rfl rfl ?_
            rw [((vm_pa (rfl : nI i = nI i) (rfl : (1 : Int32) = nI 1)) : (nI i) + 1 = nI (i + 1))]
            have z := ii trivial
            rw [show (vm_gv I po pa pb n (I b) (I c) (i + 1)) = _ from if_neg hw] at z
            exact z
          · show vm_J _ _ _ (38, (0, 0), [.ref o, .ref po, .int (nI ((vm_gv I po pa pb n (I b) (I c) i).2 - n)), .int (nI i)], [.int 0, .int ((I b) i), .ref po]) (G, ((vm_gv I po pa pb n (I b) (I c) i).1), F) _ _
            refine vm_J.call vm_q49 (Z := vm_M27) (n := 2) (k := 0) (mi := 27) (pc := 38) (en := (38, .invokevirtual 47, 3, [27, 718, 0], .null)) rfl trivial rfl rfl vm_z27 (av := [.ref po, .int ((I b) i), .int 0]) (rest := []) (m_Pal_welcome_t0 (c := I b i) hpo hpa hpb hgn hgb.2 hq1 hq2) ⟨_, _, rfl, rfl, _, 2, _, hpo, rfl, rfl, rfl⟩ (Nat.le_of_ble_eq_true rfl) ⟨Nat.le_of_ble_eq_true rfl, Nat.le_of_ble_eq_true rfl⟩ ⟨Nat.le_of_ble_eq_true rfl, Nat.le_of_ble_eq_true rfl⟩ ?_
            show vm_J _ _ _ (41, (0, 0), [.ref o, .ref po, .int (nI ((vm_gv I po pa pb n (I b) (I c) i).2 - n)), .int (nI i)], [.int 0]) (G, ((vm_gv I po pa pb n (I b) (I c) i).1), F) _ _
            refine vm_J.go vm_q49 (k := 1) (hs := []) (f' := (bif vm_ic .eq 0 0 then 47 else 44, (0, 0), [.ref o, .ref po, .int (nI ((vm_gv I po pa pb n (I b) (I c) i).2 - n)), .int (nI i)], [])) (h' := (G, ((vm_gv I po pa pb n (I b) (I c) i).1), F)) (hs' := []) rfl rfl ?_
            refine vm_J.bT (by decide) ?_
            refine vm_J.go vm_q49 (k := 2) (hs := []) (f' := (4, (0, 0), [.ref o, .ref po, .int (nI ((vm_gv I po pa pb n (I b) (I c) i).2 - n)), .int ((nI i) + 1)], [])) (h' := (G, ((vm_gv I po pa pb n (I b) (I c) i).1), F)) (hs' := []) rfl rfl ?_
            rw [((vm_pa (rfl : nI i = nI i) (rfl : (1 : Int32) = nI 1)) : (nI i) + 1 = nI (i + 1))]
            have z := ii trivial
            rw [show (vm_gv I po pa pb n (I b) (I c) (i + 1)) = _ from if_neg hw] at z
            exact z
      · have c2 : ((I c) i) = 1 := Decidable.of_not_not (of_decide_eq_false c2)
        refine vm_J.go vm_q49 (k := 2) (hs := []) (f' := (38, (0, 0), [.ref o, .ref po, .int (nI ((vm_gv I po pa pb n (I b) (I c) i).2 - n)), .int (nI i)], [.int 1, .int ((I b) i), .ref po])) (h' := (G, ((vm_gv I po pa pb n (I b) (I c) i).1), F)) (hs' := []) rfl rfl ?_
        have hgb := vm_gv_b I po pa pb n (I b) (I c) hpn2 i
        have hgn := vm_gv_n I po pa pb n (I b) (I c) hpn i
        by_cases hw : sp_wcA ((vm_gv I po pa pb n (I b) (I c) i).1 pa) (I b i) (vm_gv I po pa pb n (I b) (I c) i).2
        · show vm_J _ _ _ (38, (0, 0), [.ref o, .ref po, .int (nI ((vm_gv I po pa pb n (I b) (I c) i).2 - n)), .int (nI i)], [.int 1, .int ((I b) i), .ref po]) (G, ((vm_gv I po pa pb n (I b) (I c) i).1), F) _ _
          refine vm_J.call vm_q49 (Z := vm_M27) (n := 2) (k := 0) (mi := 27) (pc := 38) (en := (38, .invokevirtual 47, 3, [27, 718, 0], .null)) rfl trivial rfl rfl vm_z27 (av := [.ref po, .int ((I b) i), .int 1]) (rest := []) (m_Pal_welcome_y1 (c := I b i) hpo hpa hpb hgn hw.1 hpp hpq hpr hw.2) ⟨_, _, rfl, rfl, _, 2, _, hpo, rfl, rfl, rfl⟩ (Nat.le_of_ble_eq_true rfl) ⟨Nat.le_of_ble_eq_true rfl, Nat.le_of_ble_eq_true rfl⟩ ⟨Nat.le_of_ble_eq_true rfl, Nat.le_of_ble_eq_true rfl⟩ ?_
          show vm_J _ _ _ (41, (0, 0), [.ref o, .ref po, .int (nI ((vm_gv I po pa pb n (I b) (I c) i).2 - n)), .int (nI i)], [.int 1]) (G, (vm_app ((vm_gv I po pa pb n (I b) (I c) i).1) po pa pb ((vm_gv I po pa pb n (I b) (I c) i).2) (I b i) 1), F) _ _
          refine vm_J.go vm_q49 (k := 1) (hs := []) (f' := (bif vm_ic .eq 1 0 then 47 else 44, (0, 0), [.ref o, .ref po, .int (nI ((vm_gv I po pa pb n (I b) (I c) i).2 - n)), .int (nI i)], [])) (h' := (G, (vm_app ((vm_gv I po pa pb n (I b) (I c) i).1) po pa pb ((vm_gv I po pa pb n (I b) (I c) i).2) (I b i) 1), F)) (hs' := []) rfl rfl ?_
          refine vm_J.bF (by decide) ?_
          refine vm_J.go vm_q49 (k := 3) (hs := []) (f' := (4, (0, 0), [.ref o, .ref po, .int ((nI ((vm_gv I po pa pb n (I b) (I c) i).2 - n)) + 1), .int ((nI i) + 1)], [])) (h' := (G, (vm_app ((vm_gv I po pa pb n (I b) (I c) i).1) po pa pb ((vm_gv I po pa pb n (I b) (I c) i).2) (I b i) 1), F)) (hs' := []) rfl rfl ?_
          rw [((vm_pa (rfl : nI ((vm_gv I po pa pb n (I b) (I c) i).2 - n) = nI ((vm_gv I po pa pb n (I b) (I c) i).2 - n)) (rfl : (1 : Int32) = nI 1)) : (nI ((vm_gv I po pa pb n (I b) (I c) i).2 - n)) + 1 = nI ((vm_gv I po pa pb n (I b) (I c) i).2 - n + 1)), ((vm_pa (rfl : nI i = nI i) (rfl : (1 : Int32) = nI 1)) : (nI i) + 1 = nI (i + 1))]
          have z := ii trivial
          rw [show (vm_gv I po pa pb n (I b) (I c) (i + 1)) = _ from if_pos hw, if_pos c2] at z
          dsimp only at z
          rw [show (vm_gv I po pa pb n (I b) (I c) i).2 + 1 - n = (vm_gv I po pa pb n (I b) (I c) i).2 - n + 1 from by omega] at z
          exact z
        · rcases vm_wc_no hw hgb.2 with hf | ⟨q, hq1, hq2⟩
          · show vm_J _ _ _ (38, (0, 0), [.ref o, .ref po, .int (nI ((vm_gv I po pa pb n (I b) (I c) i).2 - n)), .int (nI i)], [.int 1, .int ((I b) i), .ref po]) (G, ((vm_gv I po pa pb n (I b) (I c) i).1), F) _ _
            refine vm_J.call vm_q49 (Z := vm_M27) (n := 2) (k := 0) (mi := 27) (pc := 38) (en := (38, .invokevirtual 47, 3, [27, 718, 0], .null)) rfl trivial rfl rfl vm_z27 (av := [.ref po, .int ((I b) i), .int 1]) (rest := []) (m_Pal_welcome_f1 (c := I b i) hpo hpa hpb hgn hf) ⟨_, _, rfl, rfl, _, 2, _, hpo, rfl, rfl, rfl⟩ (Nat.le_of_ble_eq_true rfl) ⟨Nat.le_of_ble_eq_true rfl, Nat.le_of_ble_eq_true rfl⟩ ⟨Nat.le_of_ble_eq_true rfl, Nat.le_of_ble_eq_true rfl⟩ ?_
            show vm_J _ _ _ (41, (0, 0), [.ref o, .ref po, .int (nI ((vm_gv I po pa pb n (I b) (I c) i).2 - n)), .int (nI i)], [.int 0]) (G, ((vm_gv I po pa pb n (I b) (I c) i).1), F) _ _
            refine vm_J.go vm_q49 (k := 1) (hs := []) (f' := (bif vm_ic .eq 0 0 then 47 else 44, (0, 0), [.ref o, .ref po, .int (nI ((vm_gv I po pa pb n (I b) (I c) i).2 - n)), .int (nI i)], [])) (h' := (G, ((vm_gv I po pa pb n (I b) (I c) i).1), F)) (hs' := []) rfl rfl ?_
            refine vm_J.bT (by decide) ?_
            refine vm_J.go vm_q49 (k := 2) (hs := []) (f' := (4, (0, 0), [.ref o, .ref po, .int (nI ((vm_gv I po pa pb n (I b) (I c) i).2 - n)), .int ((nI i) + 1)], [])) (h' := (G, ((vm_gv I po pa pb n (I b) (I c) i).1), F)) (hs' := []) rfl rfl ?_
            rw [((vm_pa (rfl : nI i = nI i) (rfl : (1 : Int32) = nI 1)) : (nI i) + 1 = nI (i + 1))]
            have z := ii trivial
            rw [show (vm_gv I po pa pb n (I b) (I c) (i + 1)) = _ from if_neg hw] at z
            exact z
          · show vm_J _ _ _ (38, (0, 0), [.ref o, .ref po, .int (nI ((vm_gv I po pa pb n (I b) (I c) i).2 - n)), .int (nI i)], [.int 1, .int ((I b) i), .ref po]) (G, ((vm_gv I po pa pb n (I b) (I c) i).1), F) _ _
            refine vm_J.call vm_q49 (Z := vm_M27) (n := 2) (k := 0) (mi := 27) (pc := 38) (en := (38, .invokevirtual 47, 3, [27, 718, 0], .null)) rfl trivial rfl rfl vm_z27 (av := [.ref po, .int ((I b) i), .int 1]) (rest := []) (m_Pal_welcome_t1 (c := I b i) hpo hpa hpb hgn hgb.2 hq1 hq2) ⟨_, _, rfl, rfl, _, 2, _, hpo, rfl, rfl, rfl⟩ (Nat.le_of_ble_eq_true rfl) ⟨Nat.le_of_ble_eq_true rfl, Nat.le_of_ble_eq_true rfl⟩ ⟨Nat.le_of_ble_eq_true rfl, Nat.le_of_ble_eq_true rfl⟩ ?_
            show vm_J _ _ _ (41, (0, 0), [.ref o, .ref po, .int (nI ((vm_gv I po pa pb n (I b) (I c) i).2 - n)), .int (nI i)], [.int 0]) (G, ((vm_gv I po pa pb n (I b) (I c) i).1), F) _ _
            refine vm_J.go vm_q49 (k := 1) (hs := []) (f' := (bif vm_ic .eq 0 0 then 47 else 44, (0, 0), [.ref o, .ref po, .int (nI ((vm_gv I po pa pb n (I b) (I c) i).2 - n)), .int (nI i)], [])) (h' := (G, ((vm_gv I po pa pb n (I b) (I c) i).1), F)) (hs' := []) rfl rfl ?_
            refine vm_J.bT (by decide) ?_
            refine vm_J.go vm_q49 (k := 2) (hs := []) (f' := (4, (0, 0), [.ref o, .ref po, .int (nI ((vm_gv I po pa pb n (I b) (I c) i).2 - n)), .int ((nI i) + 1)], [])) (h' := (G, ((vm_gv I po pa pb n (I b) (I c) i).1), F)) (hs' := []) rfl rfl ?_
            rw [((vm_pa (rfl : nI i = nI i) (rfl : (1 : Int32) = nI 1)) : (nI i) + 1 = nI (i + 1))]
            have z := ii trivial
            rw [show (vm_gv I po pa pb n (I b) (I c) (i + 1)) = _ from if_neg hw] at z
            exact z
  · show vm_J _ _ _ (4, (0, 0), [.ref o, .ref po, .int (nI ((vm_gv I po pa pb n (I b) (I c) m).2 - n)), .int (nI m)], []) (G, ((vm_gv I po pa pb n (I b) (I c) m).1), F) _ _
    refine vm_J.go vm_q49 (k := 4) (hs := [(6, 6, [.ref a, .int 0, .int 0, .ref b, .ref c, .int 0])]) (f' := (bif vm_ic .ge (nI m) (((vm_gv I po pa pb n (I b) (I c) m).1) o 5) then 53 else 12, (0, 0), [.ref o, .ref po, .int (nI ((vm_gv I po pa pb n (I b) (I c) m).2 - n)), .int (nI m)], [])) (h' := (G, ((vm_gv I po pa pb n (I b) (I c) m).1), F)) (hs' := []) rfl (vm_b2 rfl (vm_b2 rfl (vm_b2 (vm_b2 (vm_hG ho) rfl) (vm_b2 rfl rfl)))) ?_
    refine vm_J.br (fun c3 => ?_) (fun c3 => ?_)
    · rw [(((vm_gv_o I po pa pb n (I b) (I c) o go0 go1 go2 _ m).trans hm) : ((vm_gv I po pa pb n (I b) (I c) m).1) o 5 = nI m)] at c3
      have c3 := vm_ge_t (a := m) (b := m) (by omega) (by omega) c3
      refine vm_J.go vm_q49 (k := 1) (hs := []) (f' := (54, (0, 0), [.ref o, .ref po, .int (nI ((vm_gv I po pa pb n (I b) (I c) m).2 - n)), .int (nI m)], [.int (nI ((vm_gv I po pa pb n (I b) (I c) m).2 - n))])) (h' := (G, ((vm_gv I po pa pb n (I b) (I c) m).1), F)) (hs' := []) rfl rfl ?_
      exact vm_J.end vm_q49 (en := (54, .ireturn, 1, [], .null)) rfl rfl vm_rI (Nat.zero_le _) (Nat.zero_le _) rfl
    · rw [(((vm_gv_o I po pa pb n (I b) (I c) o go0 go1 go2 _ m).trans hm) : ((vm_gv I po pa pb n (I b) (I c) m).1) o 5 = nI m)] at c3
      have c3 := vm_ge_f (a := m) (b := m) (by omega) (by omega) c3
      exact (show False by omega).elim
