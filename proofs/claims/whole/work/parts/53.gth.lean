/-- the tally with one colour more -/
def vm_t1 (I : Nat → Nat → Int32) (C n : Nat) (c : Int32) : (Nat → Nat → Int32) × Nat := if (sp_pl_ (I (C + 1)) c n) < n ∧ I (C + 1) (sp_pl_ (I (C + 1)) c n) = c then ((vm_up I (C + 2) (sp_pl_ (I (C + 1)) c n) (I (C + 2) (sp_pl_ (I (C + 1)) c n) + 1)), n) else ((vm_up (vm_up (vm_up (vm_tw2 I (C + 1) (C + 2) n (n - (sp_pl_ (I (C + 1)) c n))) (C + 1) (sp_pl_ (I (C + 1)) c n) c) (C + 2) (sp_pl_ (I (C + 1)) c n) 1) C 2 (nI (n + 1))), n + 1)
theorem vm_t1_n (I : Nat → Nat → Int32) (C n : Nat) (c : Int32) (hn : I C 2 = nI n) : (vm_t1 I C n c).1 C 2 = nI (vm_t1 I C n c).2 ∧ (vm_t1 I C n c).2 ≤ n + 1 := by
  unfold vm_t1
  split
  · exact ⟨(vm_up_o2 _ (C + 2) _ _ C 2 (by omega)).trans hn, Nat.le_succ n⟩
  · exact ⟨vm_up_h _ _ _ _, Nat.le_refl _⟩
theorem vm_t1_o (I : Nat → Nat → Int32) (C n : Nat) (c : Int32) (x : Nat) (h0 : x ≠ C) (h1 : x ≠ C + 1) (h2 : x ≠ C + 2) (k : Nat) : (vm_t1 I C n c).1 x k = I x k := by
  unfold vm_t1
  split
  · exact vm_up_o2 _ _ _ _ _ _ h2
  · exact (vm_up_o2 _ _ _ _ _ _ h0).trans ((vm_up_o2 _ _ _ _ _ _ h2).trans ((vm_up_o2 _ _ _ _ _ _ h1).trans (vm_tw2_o I (C + 1) (C + 2) n _ x h1 h2 k)))
/-- a picture's colours tallied -/
def vm_gth (I : Nat → Nat → Int32) (C : Nat) (f : Nat → Int32) : Nat → (Nat → Nat → Int32) × Nat
  | 0 => (vm_up I C 2 0, 0)
  | p + 1 => vm_t1 (vm_gth I C f p).1 C (vm_gth I C f p).2 (f p)
theorem vm_gth_n (I : Nat → Nat → Int32) (C : Nat) (f : Nat → Int32) : ∀ p, (vm_gth I C f p).1 C 2 = nI (vm_gth I C f p).2 ∧ (vm_gth I C f p).2 ≤ p
  | 0 => ⟨vm_up_h _ _ _ _, Nat.le_refl 0⟩
  | p + 1 => by
    have ih := vm_gth_n I C f p
    have h := vm_t1_n (vm_gth I C f p).1 C (vm_gth I C f p).2 (f p) ih.1
    exact ⟨h.1, Nat.le_trans h.2 (Nat.succ_le_succ ih.2)⟩
theorem vm_gth_o (I : Nat → Nat → Int32) (C : Nat) (f : Nat → Int32) (x : Nat) (h0 : x ≠ C) (h1 : x ≠ C + 1) (h2 : x ≠ C + 2) (k : Nat) : ∀ p, (vm_gth I C f p).1 x k = I x k
  | 0 => vm_up_o2 _ _ _ _ _ _ h0
  | p + 1 => (vm_t1_o _ C _ _ x h0 h1 h2 k).trans (vm_gth_o I C f x h0 h1 h2 k p)
theorem m_Cu_tally1 {l : Launch} {X : vm_Cx} {G : List vm_Sh} {I : Nat → Nat → Int32} {F : Nat → Nat → UInt32} {C n : Nat} {c : Int32} (hC : vm_isC G C) (hn : I C 2 = nI n) (hn2 : n < 144) : vm_K l X vm_M3 [.ref C, .int c] (G, I, F) none (G, (vm_t1 I C n c).1, F) := by
  have q := m_Cu_tally (l := l) (X := X) (F := F) (c := c) hC hn hn2
  unfold vm_t1
  by_cases h : (sp_pl_ (I (C + 1)) c n) < n ∧ I (C + 1) (sp_pl_ (I (C + 1)) c n) = c
  · rw [if_pos h] at q ⊢
    exact q
  · rw [if_neg h] at q ⊢
    exact q
set_option maxHeartbeats 4000000 in
set_option maxRecDepth 20000 in
/-- DitherDesk$Cutter.gather  -/
theorem m_Cu_gather {l : Launch} {X : vm_Cx} {G : List vm_Sh} {I : Nat → Nat → Int32} {F : Nat → Nat → UInt32} {C q pa w h : Nat} (hC : vm_isC G C) (hq : G[q]? = some (5, 3, [.int 0, .int 0, .ref pa])) (hpa : G[pa]? = some (0, 144, [])) (hw : I q 0 = nI w) (hh : I q 1 = nI h) (hw2 : w ≤ 12) (hh2 : h ≤ 12) (hq0 : q ≠ C) (hq1 : q ≠ C + 1) (hq2 : q ≠ C + 2) (hpa0 : pa ≠ C) (hpa1 : pa ≠ C + 1) (hpa2 : pa ≠ C + 2) : vm_K l X vm_M2 [.ref C, .ref q] (G, I, F) (none) (G, ((vm_gth I C (I pa) (w * h)).1), F) := by
  refine vm_K.mk (by decide) (Nat.le_of_ble_eq_true rfl) ?_
  have hwh := vm_mul144 hw2 hh2
  show vm_J _ _ _ (0, (0, 0), [.ref C, .ref q, .retAddr 0], []) _ _ _
  refine vm_J.go vm_q2 (k := 5) (hs := [(3, 5, [.ref (C + 1), .ref (C + 2), .int 0, .ref (C + 3), .int 0])]) (f' := (7, (0, 0), [.ref C, .ref q, .int 0], [])) (h' := (G, (vm_up I C 2 0), F)) (hs' := []) rfl (vm_b2 rfl (vm_b2 rfl (vm_b2 (vm_b2 (vm_b2 (vm_hG hC.1) rfl) rfl) (vm_b2 rfl (vm_b2 rfl rfl))))) ?_
  refine vm_J.cnt (w * h) (fun p => (7, (0, 0), [.ref C, .ref q, .int (nI p)], [])) (fun p => (G, ((vm_gth I C (I pa) p).1), F)) (fun _ => True) rfl rfl trivial (fun p hp pp ip => ?_) (fun pp => ?_)
  · show vm_J _ _ _ (7, (0, 0), [.ref C, .ref q, .int (nI p)], []) (G, ((vm_gth I C (I pa) p).1), F) _ _
    refine vm_J.go vm_q2 (k := 2) (hs := []) (f' := (9, (0, 0), [.ref C, .ref q, .int (nI p)], [.ref q, .int (nI p)])) (h' := (G, ((vm_gth I C (I pa) p).1), F)) (hs' := []) rfl rfl ?_
    refine vm_J.call vm_q2 (Z := vm_M36) (n := 0) (k := 0) (mi := 36) (pc := 9) (en := (9, .invokevirtual 29, 3, [36, 504, 0], .null)) rfl trivial rfl rfl vm_z36 (av := [.ref q]) (rest := [.int (nI p)]) (m_Pic_pixels_n hq ((vm_gth_o I C (I pa) q hq0 hq1 hq2 _ p).trans hw) ((vm_gth_o I C (I pa) q hq0 hq1 hq2 _ p).trans hh)) ⟨_, _, rfl, rfl, _, 3, _, hq, rfl, rfl, rfl⟩ (Nat.le_of_ble_eq_true rfl) ⟨Nat.le_of_ble_eq_true rfl, Nat.le_of_ble_eq_true rfl⟩ ⟨Nat.le_of_ble_eq_true rfl, Nat.le_of_ble_eq_true rfl⟩ ?_
    show vm_J _ _ _ (12, (0, 0), [.ref C, .ref q, .int (nI p)], [.int (nI (w * h)), .int (nI p)]) (G, ((vm_gth I C (I pa) p).1), F) _ _
    refine vm_J.go vm_q2 (k := 1) (hs := []) (f' := (bif vm_ic .ge (nI p) (nI (w * h)) then 33 else 15, (0, 0), [.ref C, .ref q, .int (nI p)], [])) (h' := (G, ((vm_gth I C (I pa) p).1), F)) (hs' := []) rfl rfl ?_
    refine vm_J.br (fun c1 => ?_) (fun c1 => ?_)
    · have c1 := vm_ge_t (a := p) (b := w * h) (by omega) (by omega) c1
      exact (show False by omega).elim
    · have c1 := vm_ge_f (a := p) (b := w * h) (by omega) (by omega) c1
      refine vm_J.go vm_q2 (k := 4) (hs := [(5, 3, [.int 0, .int 0, .ref pa])]) (f' := (21, (0, 0), [.ref C, .ref q, .int (nI p)], [.int (nI p), .ref pa, .ref C])) (h' := (G, ((vm_gth I C (I pa) p).1), F)) (hs' := []) rfl (vm_b2 rfl (vm_b2 rfl (vm_b2 (vm_b2 (vm_hG hq) rfl) (vm_b2 rfl rfl)))) ?_
      refine vm_J.call vm_q2 (Z := vm_M152) (n := 2) (k := 1) (mi := 152) (pc := 21) (en := (21, .invokestatic 35, 3, [152, 505, 1], .null)) rfl trivial rfl rfl vm_z152 (av := [.ref pa, .int (nI p)]) (rest := [.ref C]) (m_at_v (j := p) (v := (I pa) p) hpa (by omega) (by omega) ((fun _ => (vm_gth_o I C (I pa) pa hpa0 hpa1 hpa2 _ p)) p)) rfl (Nat.le_of_ble_eq_true rfl) ⟨Nat.le_of_ble_eq_true rfl, Nat.le_of_ble_eq_true rfl⟩ ⟨Nat.le_of_ble_eq_true rfl, Nat.le_of_ble_eq_true rfl⟩ ?_
      show vm_J _ _ _ (24, (0, 0), [.ref C, .ref q, .int (nI p)], [.int ((I pa) p), .ref C]) (G, ((vm_gth I C (I pa) p).1), F) _ _
      refine vm_J.call vm_q2 (Z := vm_M3) (n := 1) (k := 0) (mi := 3) (pc := 24) (en := (24, .invokevirtual 39, 3, [3, 506, 0], .null)) rfl trivial rfl rfl vm_z3 (av := [.ref C, .int ((I pa) p)]) (rest := []) (m_Cu_tally1 (n := (vm_gth I C (I pa) p).2) (c := (I pa) p) hC (vm_gth_n I C (I pa) p).1 (Nat.lt_of_le_of_lt (vm_gth_n I C (I pa) p).2 (by omega))) ⟨_, _, rfl, rfl, _, 1, _, hC.1, rfl, rfl, rfl⟩ (Nat.le_of_ble_eq_true rfl) ⟨Nat.le_of_ble_eq_true rfl, Nat.le_of_ble_eq_true rfl⟩ ⟨Nat.le_of_ble_eq_true rfl, Nat.le_of_ble_eq_true rfl⟩ ?_
      show vm_J _ _ _ (27, (0, 0), [.ref C, .ref q, .int (nI p)], []) (G, (vm_t1 ((vm_gth I C (I pa) p).1) C (vm_gth I C (I pa) p).2 (I pa p)).1, F) _ _
      refine vm_J.go vm_q2 (k := 2) (hs := []) (f' := (7, (0, 0), [.ref C, .ref q, .int ((nI p) + 1)], [])) (h' := (G, (vm_t1 ((vm_gth I C (I pa) p).1) C (vm_gth I C (I pa) p).2 (I pa p)).1, F)) (hs' := []) rfl rfl ?_
      rw [((vm_pa (rfl : nI p = nI p) (rfl : (1 : Int32) = nI 1)) : (nI p) + 1 = nI (p + 1))]
      exact ip trivial
  · show vm_J _ _ _ (7, (0, 0), [.ref C, .ref q, .int (nI (w * h))], []) (G, ((vm_gth I C (I pa) (w * h)).1), F) _ _
    refine vm_J.go vm_q2 (k := 2) (hs := []) (f' := (9, (0, 0), [.ref C, .ref q, .int (nI (w * h))], [.ref q, .int (nI (w * h))])) (h' := (G, ((vm_gth I C (I pa) (w * h)).1), F)) (hs' := []) rfl rfl ?_
    refine vm_J.call vm_q2 (Z := vm_M36) (n := 0) (k := 0) (mi := 36) (pc := 9) (en := (9, .invokevirtual 29, 3, [36, 504, 0], .null)) rfl trivial rfl rfl vm_z36 (av := [.ref q]) (rest := [.int (nI (w * h))]) (m_Pic_pixels_n hq ((vm_gth_o I C (I pa) q hq0 hq1 hq2 _ (w * h)).trans hw) ((vm_gth_o I C (I pa) q hq0 hq1 hq2 _ (w * h)).trans hh)) ⟨_, _, rfl, rfl, _, 3, _, hq, rfl, rfl, rfl⟩ (Nat.le_of_ble_eq_true rfl) ⟨Nat.le_of_ble_eq_true rfl, Nat.le_of_ble_eq_true rfl⟩ ⟨Nat.le_of_ble_eq_true rfl, Nat.le_of_ble_eq_true rfl⟩ ?_
    show vm_J _ _ _ (12, (0, 0), [.ref C, .ref q, .int (nI (w * h))], [.int (nI (w * h)), .int (nI (w * h))]) (G, ((vm_gth I C (I pa) (w * h)).1), F) _ _
    refine vm_J.go vm_q2 (k := 1) (hs := []) (f' := (bif vm_ic .ge (nI (w * h)) (nI (w * h)) then 33 else 15, (0, 0), [.ref C, .ref q, .int (nI (w * h))], [])) (h' := (G, ((vm_gth I C (I pa) (w * h)).1), F)) (hs' := []) rfl rfl ?_
    refine vm_J.br (fun c2 => ?_) (fun c2 => ?_)
    · have c2 := vm_ge_t (a := (w * h)) (b := w * h) (by omega) (by omega) c2
      exact vm_J.end vm_q2 (en := (33, .return_, 1, [], .null)) rfl rfl vm_rV (Nat.zero_le _) (Nat.zero_le _) rfl
    · have c2 := vm_ge_f (a := (w * h)) (b := w * h) (by omega) (by omega) c2
      exact (show False by omega).elim
