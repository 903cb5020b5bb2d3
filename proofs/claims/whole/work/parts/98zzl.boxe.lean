/-- BOXES: which is cut, and all cuts -/
theorem bx_wbb {H J : Nat → Nat → Int32} {n nb : Nat} {X Y : Nat → Nat} (R : bx_Q H J n nb X Y) (hnb : nb ≤ 16) : ∀ j, j < nb → (vm_wb H 112 (j + 1) = none ∧ ¬ 0 < vr_so (J 159) (J 161) n (nI (vr_bc (J 159) (J 161) (J 160) n j))) ∨ (vm_wb H 112 (j + 1) = some (vr_bc (J 159) (J 161) (J 160) n j) ∧ 0 < vr_so (J 159) (J 161) n (nI (vr_bc (J 159) (J 161) (J 160) n j)))
  | 0, hj => by
    obtain ⟨-, hQ, -⟩ := R
    obtain ⟨-, -, -, -, -, F4, -⟩ := hQ 0 hj
    by_cases c : 0 < vr_so (J 159) (J 161) n (nI 0)
    · refine Or.inr ⟨?_, c⟩
      exact if_pos ⟨by rw [F4]; exact c, fun t ht => nomatch ht⟩
    · refine Or.inl ⟨?_, c⟩
      exact if_neg fun z => c (by rw [← F4]; exact z.1)
  | j + 1, hj => by
    have ih := bx_wbb R hnb j (by omega)
    have hbl := vr_bc_l (J 159) (J 161) (J 160) n j
    obtain ⟨⟨hn, hf, -, -⟩, hQ, -⟩ := R
    obtain ⟨-, ⟨x1, x2⟩, S, F2, -, F4, F5⟩ := hQ (j + 1) hj
    have b1 := bx_fi S (by omega) (by omega) hn
    have e : vr_bc (J 159) (J 161) (J 160) n (j + 1) = if vr_ia (J 159) (J 161) (J 160) n (nI (1 + j)) (nI (vr_bc (J 159) (J 161) (J 160) n j)) then 1 + j else vr_bc (J 159) (J 161) (J 160) n j := rfl
    rw [e, Nat.add_comm 1 j]
    generalize vr_bc (J 159) (J 161) (J 160) n j = t at *
    obtain ⟨-, ⟨y1, y2⟩, S2, G2, -, G4, G5⟩ := hQ t (by omega)
    have b2 := bx_fi S2 (by omega) (by omega) hn
    have ofi : J 159 (vr_fi (J 161) n (nI (j + 1))) < J 159 (vr_fi (J 161) n (nI t)) ↔ nI (vr_fi (J 161) n (nI (j + 1))) < nI (vr_fi (J 161) n (nI t)) := by
      rw [vm_lt_i (by omega) (by omega)]
      constructor
      · intro z
        by_cases c : vr_fi (J 161) n (nI (j + 1)) < vr_fi (J 161) n (nI t)
        · exact c
        · by_cases d : vr_fi (J 161) n (nI (j + 1)) = vr_fi (J 161) n (nI t)
          · rw [d] at z
            exact absurd z (cl_lti _)
          · exact absurd (cl_ltr z (hf _ _ (by omega) b1.1)) (cl_lti _)
      · exact fun z => hf _ _ z b2.1
    have ew : vm_wb H 112 (j + 1 + 1) = if 0 < H (112 + 4 + (j + 1)) 4 ∧ (∀ t, vm_wb H 112 (j + 1) = some t → sp_ia (H (112 + 4 + (j + 1)) 4) (H (112 + 4 + (j + 1)) 2) (H (112 + 4 + (j + 1)) 5) (H (112 + 4 + t) 4) (H (112 + 4 + t) 2) (H (112 + 4 + t) 5)) then some (j + 1) else vm_wb H 112 (j + 1) := rfl
    rw [ew, F4, F2, F5]
    have ia : sp_ia (vr_so (J 159) (J 161) n (nI (j + 1))) (vr_px (J 161) (J 160) n (nI (j + 1))) (J 159 (vr_fi (J 161) n (nI (j + 1)))) (H (112 + 4 + t) 4) (H (112 + 4 + t) 2) (H (112 + 4 + t) 5) ↔ vr_ia (J 159) (J 161) (J 160) n (nI (j + 1)) (nI t) := by
      rw [G4, G2, G5]
      unfold vr_ia sp_ia
      rw [ofi]
    rcases ih with ⟨i1, i2⟩ | ⟨i1, i2⟩
    · rw [i1]
      by_cases c : 0 < vr_so (J 159) (J 161) n (nI (j + 1))
      · rw [if_pos ⟨c, fun t ht => nomatch ht⟩]
        have : vr_ia (J 159) (J 161) (J 160) n (nI (j + 1)) (nI t) := by
          rw [Int32.lt_iff_toInt_lt] at c i2
          refine Or.inl ⟨fun z => ?_, ?_⟩
          · rw [z] at c
            omega
          · rw [Int32.lt_iff_toInt_lt]
            omega
        rw [if_pos this]
        exact Or.inr ⟨rfl, c⟩
      · rw [if_neg fun z => c z.1]
        refine Or.inl ⟨rfl, ?_⟩
        split
        · exact c
        · exact i2
    · rw [i1]
      by_cases c : 0 < vr_so (J 159) (J 161) n (nI (j + 1)) ∧ vr_ia (J 159) (J 161) (J 160) n (nI (j + 1)) (nI t)
      · rw [if_pos ⟨c.1, fun t2 ht => by
          have : t2 = t := (Option.some.inj ht).symm
          subst this
          exact ia.mpr c.2⟩, if_pos c.2]
        exact Or.inr ⟨rfl, c.1⟩
      · have d : ¬ vr_ia (J 159) (J 161) (J 160) n (nI (j + 1)) (nI t) := fun z => c ⟨by
          rcases z with ⟨_, z⟩ | ⟨z, _⟩
          · exact cl_ltr i2 z
          · rw [z]
            exact i2, z⟩
        rw [if_neg fun z => c ⟨z.1, ia.mp (z.2 t rfl)⟩, if_neg d]
        exact Or.inr ⟨rfl, i2⟩
theorem bx_sim {H J : Nat → Nat → Int32} {n : Nat} (R : bx_R H J n 1) (hib : vm_ib H 112 1) : ∀ j, j ≤ 15 → (vm_ci H 112 j).2 = (vr_ci J n j).2 ∧ bx_R (vm_ci H 112 j).1 (vr_ci J n j).1 n (vr_ci J n j).2
  | 0, _ => ⟨rfl, R⟩
  | j + 1, hj => by
    obtain ⟨e, X, Y, Q⟩ := bx_sim R hib j (by omega)
    obtain ⟨ib, hle, hpos⟩ := vm_ci_p hib j
    have w := bx_wbb Q (by omega) ((vr_ci J n j).2 - 1) (by omega)
    rw [show (vr_ci J n j).2 - 1 + 1 = (vm_ci H 112 j).2 by omega] at w
    have er : vr_ci J n (j + 1) = if 0 < vr_so ((vr_ci J n j).1 159) ((vr_ci J n j).1 161) n (nI (vr_bb (vr_ci J n j).1 n (vr_ci J n j).2)) then (vr_cb (vr_ci J n j).1 n (vr_ci J n j).2 (nI (vr_bb (vr_ci J n j).1 n (vr_ci J n j).2)), (vr_ci J n j).2 + 1) else vr_ci J n j := rfl
    have eb : vr_bb (vr_ci J n j).1 n (vr_ci J n j).2 = vr_bc ((vr_ci J n j).1 159) ((vr_ci J n j).1 161) ((vr_ci J n j).1 160) n ((vr_ci J n j).2 - 1) := rfl
    have hbl := vr_bc_l ((vr_ci J n j).1 159) ((vr_ci J n j).1 161) ((vr_ci J n j).1 160) n ((vr_ci J n j).2 - 1)
    rw [er, eb]
    rcases w with ⟨w1, w2⟩ | ⟨w1, w2⟩
    · rw [if_neg w2]
      have ec : vm_ci H 112 (j + 1) = vm_ci H 112 j := vm_ci_0 w1 1
      rw [ec]
      exact ⟨e, X, Y, Q⟩
    · rw [if_pos w2]
      generalize vr_bc ((vr_ci J n j).1 159) ((vr_ci J n j).1 161) ((vr_ci J n j).1 160) n ((vr_ci J n j).2 - 1) = t at *
      have Qt := Q.2.1 t (by omega)
      have hn := Q.1.1
      obtain ⟨⟨f0, f1⟩, ⟨x1, x2⟩, S, -, -, F4, -⟩ := Qt
      have ec := vm_ci_s w1 f0 f1 (by omega) (by omega)
      rw [ec]
      refine ⟨congrArg Nat.succ e, ?_⟩
      rw [e]
      refine bx_cut Q (by omega) (by omega) ?_
      obtain ⟨x, y, g0, g1, g2, g3, g4⟩ := ib.2 t (by omega)
      have ex := cl_nI (g0.symm.trans f0) (by omega) (by omega)
      have ey := cl_nI (g1.symm.trans f1) (by omega) (by omega)
      by_cases c : y = x + 1
      · have := g4 c
        rw [F4] at this
        exact absurd w2 this
      · omega
/-- what a tally holds are colours -/
theorem tl_col (J : Nat → Nat → Int32) {g : Nat → Int32} : ∀ {p : Nat}, (∀ k, k < p → sp_col (g k)) → ∀ i, i < (vr_gth J g p).2 → sp_col ((vr_gth J g p).1 159 i)
  | 0, _, i, hi => absurd hi (Nat.not_lt_zero i)
  | p + 1, h, i, hi => by
    have ih := tl_col J fun k hk => h k (Nat.lt_succ_of_lt hk)
    have hc := h p (Nat.lt_succ_self p)
    have e : vr_gth J g (p + 1) = vr_t1 (vr_gth J g p).1 (vr_gth J g p).2 (g p) := rfl
    rw [e] at hi ⊢
    have n2 := sp_pf_n ((vr_gth J g p).1 159) (g p) (vr_gth J g p).2
    unfold vr_t1 at hi ⊢
    split at hi
    · next c =>
      rw [if_pos c]
      show sp_col (vm_up (vr_gth J g p).1 160 (sp_pf ((vr_gth J g p).1 159) (g p) (vr_gth J g p).2) ((vr_gth J g p).1 160 (sp_pf ((vr_gth J g p).1 159) (g p) (vr_gth J g p).2) + 1) 159 i)
      rw [vm_up_f _ _ _ _ _ (by decide)]
      exact ih i hi
    · next c =>
      rw [if_neg c]
      show sp_col (vm_up (vm_up (vm_up (vm_tw2 (vr_gth J g p).1 159 160 (vr_gth J g p).2 ((vr_gth J g p).2 - sp_pf ((vr_gth J g p).1 159) (g p) (vr_gth J g p).2)) 159 (sp_pf ((vr_gth J g p).1 159) (g p) (vr_gth J g p).2) (g p)) 160 (sp_pf ((vr_gth J g p).1 159) (g p) (vr_gth J g p).2) 1) 152 14 (nI ((vr_gth J g p).2 + 1)) 159 i)
      rw [vm_up_f _ _ _ _ _ (by decide), (tl_row (vr_gth J g p).1 (a := 159) (b := 160) (g p) 1 (by decide) n2 i hi).1]
      unfold tl_in
      split
      · exact hc
      · have hi : i < (vr_gth J g p).2 + 1 := hi
        split
        · exact ih i (by omega)
        · exact ih (i - 1) (by omega)
