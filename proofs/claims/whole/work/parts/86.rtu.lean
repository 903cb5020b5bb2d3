set_option maxHeartbeats 4000000 in
set_option maxRecDepth 20000 in
theorem r_text {l : Launch} {X : vm_Cx} {G : List vm_Sh} {I : Nat → Nat → Int32} {F : Nat → Nat → UInt32} {n : Nat} (hR : vm_isR G) (hn : I 152 25 = nI n) (hn2 : n ≤ 100) : ∃ H, vm_K l X vm_M226 [.ref 152] (G, I, F) (some (.int (vr_ok (sp_txt (I 165) n).1))) (G, H, F) ∧ vr_tP I H n 0 (sp_txt (I 165) n) := by
  have ef : ∀ x, x ≠ 152 → (vm_up (vm_up I 152 26 0) 152 27 0) x = I x := fun x hx => (vm_up_f _ 152 _ _ x hx).trans (vm_up_f _ 152 _ _ x hx)
  have eg : ∀ b, b ≠ 26 → b ≠ 27 → (vm_up (vm_up I 152 26 0) 152 27 0) 152 b = I 152 b := fun b h1 h2 => (vm_up_k2 _ 152 27 _ b h2).trans (vm_up_k2 _ 152 26 _ b h1)
  obtain ⟨H1, hK, hP1, hP2, hP3, hP4, hP5⟩ := r_clause (l := l) (X := X) (I := (vm_up (vm_up I 152 26 0) 152 27 0)) (F := F) (n := n) (p := 0) (k := 0) hR ((eg 25 (by decide) (by decide)).trans hn) ((vm_up_k2 _ 152 27 _ 26 (by decide)).trans (vm_up_h _ _ _ _)) hn2 (Nat.zero_le n) (vm_up_h _ _ _ _) (by decide)
  rw [ef 165 (by decide)] at hK hP4 hP5
  have hcle : (sp_cl (I 165) n 0).2 ≤ n := sp_cl_le (Nat.zero_le n)
  rcases hcl : sp_cl (I 165) n 0 with ⟨_ | q, p1⟩
  · rw [hcl] at hK hP4 hP5
    have hE : sp_txt (I 165) n = (none, p1) := by unfold sp_txt; rw [hcl]
    rw [hE]
    refine ⟨H1, ?_, fun x x1 x2 x3 x4 x5 => (hP1 x x1 x2 x3 x4 x5).trans (ef x x1), fun b b1 b2 b3 => (hP2 b b1 b2 b3).trans (eg b b1 b2), fun j hj => absurd hj (Nat.not_lt_zero j), hP4, trivial⟩
    refine vm_K.mk (by decide) (Nat.le_of_ble_eq_true rfl) ?_
    show vm_J _ _ _ (0, (0, 0), [.ref 152], []) _ _ _
    refine vm_J.go vm_q226 (k := 7) (hs := [vm_shR, vm_shR]) (f' := (11, (0, 0), [.ref 152], [.ref 152])) (h' := (G, (vm_up (vm_up I 152 26 0) 152 27 0), F)) (hs' := []) rfl (vm_b2 rfl (vm_b2 rfl (vm_b2 (vm_b2 (vm_b2 (vm_hG hR.c152) rfl) rfl) (vm_b2 rfl (vm_b2 rfl (vm_b2 (vm_b2 (vm_b2 (vm_hG hR.c152) rfl) rfl) (vm_b2 rfl rfl))))))) ?_
    refine vm_J.call vm_q226 (Z := vm_M225) (n := 0) (k := 0) (mi := 225) (pc := 11) (en := (11, .invokevirtual 298, 3, [225, 1500, 0], .null)) rfl trivial rfl rfl vm_z225 (av := [.ref 152]) (rest := []) hK ⟨_, _, rfl, rfl, _, 11, _, hR.c152, rfl, rfl, rfl⟩ (Nat.le_of_ble_eq_true rfl) ⟨Nat.le_of_ble_eq_true rfl, Nat.le_of_ble_eq_true rfl⟩ ⟨Nat.le_of_ble_eq_true rfl, Nat.le_of_ble_eq_true rfl⟩ ?_
    show vm_J _ _ _ (14, (0, 0), [.ref 152], [.int 0]) (G, H1, F) _ _
    refine vm_J.go vm_q226 (k := 1) (hs := []) (f' := (bif vm_ic .ne 0 0 then 19 else 17, (0, 0), [.ref 152], [])) (h' := (G, H1, F)) (hs' := []) rfl rfl ?_
    refine vm_J.bF (by decide) ?_
    refine vm_J.go vm_q226 (k := 1) (hs := []) (f' := (18, (0, 0), [.ref 152], [.int 0])) (h' := (G, H1, F)) (hs' := []) rfl rfl ?_
    exact vm_J.end vm_q226 (en := (18, .ireturn, 1, [], .null)) rfl rfl vm_rZ0 (Nat.zero_le _) (Nat.zero_le _) rfl
  · rw [hcl] at hK hP4 hP5 hcle
    obtain ⟨c27, c66, c68, c67, c69⟩ := hP5
    obtain ⟨H, hJ, hQ1, hQ2, hQ3, hQ4, hQ5⟩ := r_textL hR hn2 (I 165) 11 H1 p1 1 (by decide) hcle ((hP2 25 (by decide) (by decide) (by decide)).trans ((eg 25 (by decide) (by decide)).trans hn)) hP4 c27 ((hP1 165 (by decide) (by decide) (by decide) (by decide) (by decide)).trans (ef 165 (by decide)))
    have hE : sp_txt (I 165) n = ((sp_tl (I 165) n 11 p1).1.map (fun r => q :: r), (sp_tl (I 165) n 11 p1).2) := by unfold sp_txt; rw [hcl]
    rw [hE]
    refine ⟨H, ?_, fun x x1 x2 x3 x4 x5 => (hQ1 x x1 x2 x3 x4 x5).trans ((hP1 x x1 x2 x3 x4 x5).trans (ef x x1)), fun b b1 b2 b3 => (hQ2 b b1 b2 b3).trans ((hP2 b b1 b2 b3).trans (eg b b1 b2)), fun j hj => absurd hj (Nat.not_lt_zero j), hQ4, ?_⟩
    · rw [show vr_ok ((sp_tl (I 165) n 11 p1).1.map (fun r => q :: r)) = vr_ok (sp_tl (I 165) n 11 p1).1 from by cases (sp_tl (I 165) n 11 p1).1 <;> rfl]
      refine vm_K.mk (by decide) (Nat.le_of_ble_eq_true rfl) ?_
      show vm_J _ _ _ (0, (0, 0), [.ref 152], []) _ _ _
      refine vm_J.go vm_q226 (k := 7) (hs := [vm_shR, vm_shR]) (f' := (11, (0, 0), [.ref 152], [.ref 152])) (h' := (G, (vm_up (vm_up I 152 26 0) 152 27 0), F)) (hs' := []) rfl (vm_b2 rfl (vm_b2 rfl (vm_b2 (vm_b2 (vm_b2 (vm_hG hR.c152) rfl) rfl) (vm_b2 rfl (vm_b2 rfl (vm_b2 (vm_b2 (vm_b2 (vm_hG hR.c152) rfl) rfl) (vm_b2 rfl rfl))))))) ?_
      refine vm_J.call vm_q226 (Z := vm_M225) (n := 0) (k := 0) (mi := 225) (pc := 11) (en := (11, .invokevirtual 298, 3, [225, 1500, 0], .null)) rfl trivial rfl rfl vm_z225 (av := [.ref 152]) (rest := []) hK ⟨_, _, rfl, rfl, _, 11, _, hR.c152, rfl, rfl, rfl⟩ (Nat.le_of_ble_eq_true rfl) ⟨Nat.le_of_ble_eq_true rfl, Nat.le_of_ble_eq_true rfl⟩ ⟨Nat.le_of_ble_eq_true rfl, Nat.le_of_ble_eq_true rfl⟩ ?_
      show vm_J _ _ _ (14, (0, 0), [.ref 152], [.int 1]) (G, H1, F) _ _
      refine vm_J.go vm_q226 (k := 1) (hs := []) (f' := (bif vm_ic .ne 1 0 then 19 else 17, (0, 0), [.ref 152], [])) (h' := (G, H1, F)) (hs' := []) rfl rfl ?_
      refine vm_J.bT (by decide) ?_
      exact hJ
    · rcases hl : (sp_tl (I 165) n 11 p1).1 with _ | ls
      · trivial
      · rw [hl] at hQ5
        obtain ⟨g1, g2, g3⟩ := hQ5
        refine ⟨by rw [g1, List.length_cons]; congr 1; omega, by rw [List.length_cons]; omega, fun i r hr => ?_⟩
        cases i with
        | zero =>
          cases hr
          exact vr_row_e (H := H1) ⟨c66, c68, c67, c69⟩ (hQ3 0 (by omega))
        | succ i =>
          rw [List.getElem?_cons_succ] at hr
          have := g3 i r hr
          rw [show 0 + (i + 1) = 1 + i by omega]
          exact this
/-- shade i of a clause; an entry comes, or not -/
def sp_rc (q : sp_CL) (i : Nat) : Int32 := if q.2.2.1 = 1 then sp_c3 q.1 else sp_bt q.1 q.2.1 (nI i) (nI (q.2.2.1 - 1))
def vr_g1 (S : (Nat → Nat → Int32) × Nat) (p : Nat) (c lo : Int32) : (Nat → Nat → Int32) × Nat := if sp_wcA (fun z => S.1 157 (16 * p + z)) c S.2 then (vm_up (vm_up (vm_up S.1 157 (16 * p + S.2) c) 158 (16 * p + S.2) lo) 156 p (nI (S.2 + 1)), S.2 + 1) else S
def vr_gi (S : (Nat → Nat → Int32) × Nat) (p : Nat) (q : sp_CL) : Nat → (Nat → Nat → Int32) × Nat
  | 0 => S
  | i + 1 => vr_g1 (vr_gi S p q i) p (sp_rc q i) q.2.2.2
def vr_gl (S : (Nat → Nat → Int32) × Nat) (p : Nat) (ls : List sp_CL) : Nat → (Nat → Nat → Int32) × Nat
  | 0 => S
  | k + 1 => match ls[k]? with
    | none => vr_gl S p ls k
    | some q => vr_gi (vr_gl S p ls k) p q q.2.2.1
def vr_gP (I : Nat → Nat → Int32) (p n : Nat) (S : (Nat → Nat → Int32) × Nat) : Prop := (∀ x, x ≠ 156 → x ≠ 157 → x ≠ 158 → S.1 x = I x) ∧ S.1 156 p = nI S.2 ∧ n ≤ S.2 ∧ S.2 ≤ 16
theorem vr_g1_P {I : Nat → Nat → Int32} {p n : Nat} {S : (Nat → Nat → Int32) × Nat} (h : vr_gP I p n S) (c lo : Int32) : vr_gP I p n (vr_g1 S p c lo) := by
  unfold vr_g1
  split
  · rename_i hw
    refine ⟨fun x h1 h2 h3 => ?_, by dsimp only; exact vm_up_h _ _ _ _, Nat.le_succ_of_le h.2.2.1, hw.1⟩
    dsimp only
    rw [vm_up_f _ _ _ _ _ h1, vm_up_f _ _ _ _ _ h3, vm_up_f _ _ _ _ _ h2]
    exact h.1 x h1 h2 h3
  · exact h
theorem vr_gi_P {I : Nat → Nat → Int32} {p n : Nat} {S : (Nat → Nat → Int32) × Nat} (h : vr_gP I p n S) (q : sp_CL) : ∀ i, vr_gP I p n (vr_gi S p q i)
  | 0 => h
  | i + 1 => vr_g1_P (vr_gi_P h q i) _ _
theorem vr_gl_P {I : Nat → Nat → Int32} {p n : Nat} {S : (Nat → Nat → Int32) × Nat} (h : vr_gP I p n S) (ls : List sp_CL) : ∀ k, vr_gP I p n (vr_gl S p ls k)
  | 0 => h
  | k + 1 => by
    unfold vr_gl
    split
    · exact vr_gl_P h ls k
    · exact vr_gi_P (vr_gl_P h ls k) _ _
