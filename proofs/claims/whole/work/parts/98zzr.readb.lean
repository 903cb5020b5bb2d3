/-- GIVING what was read -/
def pl_E (A B : Nat → Nat → Int32) (pa pb p n : Nat) : Prop := ∀ e, e < n → (A pa e = B 157 (16 * p + e) ∧ sp_col (B 157 (16 * p + e))) ∧ A pb e = B 158 (16 * p + e) ∧ (B 158 (16 * p + e) = 0 ∨ B 158 (16 * p + e) = 1)
theorem pl_app {A B : Nat → Nat → Int32} {po pa pb p n : Nat} {c lo : Int32} (h : pl_E A B pa pb p n) (h12 : po ≠ pa) (h13 : po ≠ pb) (h23 : pa ≠ pb) (hc : sp_col c) (hl : lo = 0 ∨ lo = 1) : pl_E (vm_app A po pa pb n c lo) (vm_up (vm_up (vm_up B 157 (16 * p + n) c) 158 (16 * p + n) lo) 156 p (nI (n + 1))) pa pb p (n + 1) := by
  intro e he
  unfold vm_app
  rw [vm_up_f _ po _ _ pa (Ne.symm h12), vm_up_f _ po _ _ pb (Ne.symm h13), vm_up_f _ pb _ _ pa h23, vm_up_f _ 156 _ _ 157 (by decide), vm_up_f _ 156 _ _ 158 (by decide), vm_up_f _ 158 _ _ 157 (by decide)]
  by_cases d : e = n
  · subst d
    rw [vm_up_h, vm_up_h, vm_up_h, vm_up_h]
    exact ⟨⟨rfl, hc⟩, rfl, hl⟩
  · rw [vm_up_k2 _ _ _ _ _ d, vm_up_k2 _ _ _ _ _ (by omega), vm_up_k2 _ _ _ _ _ d, vm_up_f _ pa _ _ pb (Ne.symm h23), vm_up_k2 _ _ _ _ _ (by omega), vm_up_f _ 157 _ _ 158 (by decide)]
    exact h e (by omega)
theorem pl_w {A B : Nat → Nat → Int32} {pa pb p n : Nat} {c : Int32} (h : pl_E A B pa pb p n) : sp_wcA (A pa) c n ↔ sp_wcA (fun z => B 157 (16 * p + z)) c n := by
  unfold sp_wcA
  constructor
  · exact fun z => ⟨z.1, fun k hk y => z.2 k hk ((h k hk).1.1.trans y)⟩
  · exact fun z => ⟨z.1, fun k hk y => z.2 k hk ((h k hk).1.1.symm.trans y)⟩
theorem rd_gi {I : Nat → Nat → Int32} {po pa pb p n c : Nat} {f l : Nat → Int32} {S : (Nat → Nat → Int32) × Nat} {q : sp_CL} (h12 : po ≠ pa) (h13 : po ≠ pb) (h23 : pa ≠ pb) (hl : q.2.2.2 = 0 ∨ q.2.2.2 = 1) (hf : ∀ i, i < q.2.2.1 → (f (c + i) = sp_rc q i ∧ sp_col (sp_rc q i)) ∧ l (c + i) = q.2.2.2) (h : (vm_gv I po pa pb n f l c).2 = S.2 ∧ pl_E (vm_gv I po pa pb n f l c).1 S.1 pa pb p S.2) : ∀ i, i ≤ q.2.2.1 → (vm_gv I po pa pb n f l (c + i)).2 = (vr_gi S p q i).2 ∧ pl_E (vm_gv I po pa pb n f l (c + i)).1 (vr_gi S p q i).1 pa pb p (vr_gi S p q i).2
  | 0, _ => h
  | i + 1, hi => by
    obtain ⟨i1, i2⟩ := rd_gi h12 h13 h23 hl hf h i (by omega)
    obtain ⟨⟨f1, f2⟩, f3⟩ := hf i (by omega)
    have e1 : vm_gv I po pa pb n f l (c + (i + 1)) = if sp_wcA ((vm_gv I po pa pb n f l (c + i)).1 pa) (f (c + i)) (vm_gv I po pa pb n f l (c + i)).2 then (vm_app (vm_gv I po pa pb n f l (c + i)).1 po pa pb (vm_gv I po pa pb n f l (c + i)).2 (f (c + i)) (if l (c + i) = 1 then 1 else 0), (vm_gv I po pa pb n f l (c + i)).2 + 1) else vm_gv I po pa pb n f l (c + i) := rfl
    have e2 : vr_gi S p q (i + 1) = if sp_wcA (fun z => (vr_gi S p q i).1 157 (16 * p + z)) (sp_rc q i) (vr_gi S p q i).2 then (vm_up (vm_up (vm_up (vr_gi S p q i).1 157 (16 * p + (vr_gi S p q i).2) (sp_rc q i)) 158 (16 * p + (vr_gi S p q i).2) q.2.2.2) 156 p (nI ((vr_gi S p q i).2 + 1)), (vr_gi S p q i).2 + 1) else vr_gi S p q i := rfl
    have el : (if l (c + i) = 1 then (1 : Int32) else 0) = q.2.2.2 := by
      rw [f3]
      rcases hl with z | z
      · rw [z, if_neg (by decide)]
      · rw [z, if_pos rfl]
    rw [e1, e2, f1, el, i1]
    by_cases w : sp_wcA (fun z => (vr_gi S p q i).1 157 (16 * p + z)) (sp_rc q i) (vr_gi S p q i).2
    · rw [if_pos w, if_pos ((pl_w i2).mpr w)]
      exact ⟨rfl, pl_app i2 h12 h13 h23 f2 hl⟩
    · rw [if_neg w, if_neg fun z => w ((pl_w i2).mp z)]
      exact ⟨i1, i2⟩
theorem rd_gl {I : Nat → Nat → Int32} {po pa pb p n : Nat} {f l : Nat → Int32} {S : (Nat → Nat → Int32) × Nat} {ls : List sp_CL} (h12 : po ≠ pa) (h13 : po ≠ pb) (h23 : pa ≠ pb) (hq : ∀ (j : Nat) (q : sp_CL), ls[j]? = some q → (q.2.2.2 = 0 ∨ q.2.2.2 = 1) ∧ ∀ i, i < q.2.2.1 → (f (rd_M ls j + i) = sp_rc q i ∧ sp_col (sp_rc q i)) ∧ l (rd_M ls j + i) = q.2.2.2) (h : n = S.2 ∧ pl_E I S.1 pa pb p S.2) : ∀ j, j ≤ ls.length → (vm_gv I po pa pb n f l (rd_M ls j)).2 = (vr_gl S p ls j).2 ∧ pl_E (vm_gv I po pa pb n f l (rd_M ls j)).1 (vr_gl S p ls j).1 pa pb p (vr_gl S p ls j).2
  | 0, _ => by
    have : rd_M ls 0 = 0 := by cases ls <;> rfl
    rw [this]
    exact h
  | j + 1, hj => by
    have ih := rd_gl h12 h13 h23 hq h j (by omega)
    have hs : ls[j]? = some ls[j] := List.getElem?_eq_getElem (by omega)
    obtain ⟨q1, q2⟩ := hq j ls[j] hs
    have e : vr_gl S p ls (j + 1) = vr_gi (vr_gl S p ls j) p ls[j] ls[j].2.2.1 := by
      show (match ls[j]? with
        | none => vr_gl S p ls j
        | some q => vr_gi (vr_gl S p ls j) p q q.2.2.1) = _
      rw [hs]
    rw [e, rd_Ms ls j ls[j] hs]
    exact rd_gi h12 h13 h23 q1 q2 ih _ (Nat.le_refl _)
/-- frames of what the reference gives -/
def gl_fr (S T : (Nat → Nat → Int32) × Nat) (p : Nat) : Prop := (∀ x, x ≠ 156 → x ≠ 157 → x ≠ 158 → T.1 x = S.1 x) ∧ (∀ q, q ≠ p → T.1 156 q = S.1 156 q) ∧ (∀ k, (∀ e, e < 16 → k ≠ 16 * p + e) → T.1 157 k = S.1 157 k ∧ T.1 158 k = S.1 158 k) ∧ (S.1 156 p = nI S.2 → T.1 156 p = nI T.2)
theorem gl_fr0 (S : (Nat → Nat → Int32) × Nat) (p : Nat) : gl_fr S S p := ⟨fun _ _ _ _ => rfl, fun _ _ => rfl, fun _ _ => ⟨rfl, rfl⟩, fun h => h⟩
theorem gl_frt {S T U : (Nat → Nat → Int32) × Nat} {p : Nat} (h : gl_fr S T p) (h2 : gl_fr T U p) : gl_fr S U p := ⟨fun x a b c => (h2.1 x a b c).trans (h.1 x a b c), fun q hq => (h2.2.1 q hq).trans (h.2.1 q hq), fun k hk => ⟨(h2.2.2.1 k hk).1.trans (h.2.2.1 k hk).1, (h2.2.2.1 k hk).2.trans (h.2.2.1 k hk).2⟩, fun e => h2.2.2.2 (h.2.2.2 e)⟩
theorem gl_fr1 (S : (Nat → Nat → Int32) × Nat) (p : Nat) (c lo : Int32) : gl_fr S (vr_g1 S p c lo) p := by
  unfold vr_g1
  by_cases w : sp_wcA (fun z => S.1 157 (16 * p + z)) c S.2
  · rw [if_pos w]
    refine ⟨fun x a b c => ?_, fun q hq => ?_, fun k hk => ?_, fun _ => (show vm_up (vm_up (vm_up S.1 157 (16 * p + S.2) c) 158 (16 * p + S.2) lo) 156 p (nI (S.2 + 1)) 156 p = nI (S.2 + 1) from vm_up_h _ _ _ _)⟩
    · dsimp only
      rw [vm_up_f _ _ _ _ _ a, vm_up_f _ _ _ _ _ c, vm_up_f _ _ _ _ _ b]
    · dsimp only
      rw [vm_up_k2 _ _ _ _ _ hq, vm_up_f _ _ _ _ _ (by decide), vm_up_f _ _ _ _ _ (by decide)]
    · dsimp only
      rw [vm_up_f _ 156 _ _ 157 (by decide), vm_up_f _ 158 _ _ 157 (by decide), vm_up_k2 _ _ _ _ _ (hk _ w.1), vm_up_f _ 156 _ _ 158 (by decide), vm_up_k2 _ _ _ _ _ (hk _ w.1), vm_up_f _ 157 _ _ 158 (by decide)]
      exact ⟨rfl, rfl⟩
  · rw [if_neg w]
    exact gl_fr0 S p
theorem gl_fri (S : (Nat → Nat → Int32) × Nat) (p : Nat) (q : sp_CL) : ∀ i, gl_fr S (vr_gi S p q i) p
  | 0 => gl_fr0 S p
  | i + 1 => gl_frt (gl_fri S p q i) (gl_fr1 _ p _ _)
theorem gl_frl (S : (Nat → Nat → Int32) × Nat) (p : Nat) (ls : List sp_CL) : ∀ j, gl_fr S (vr_gl S p ls j) p
  | 0 => gl_fr0 S p
  | j + 1 => by
    show gl_fr S (match ls[j]? with
      | none => vr_gl S p ls j
      | some q => vr_gi (vr_gl S p ls j) p q q.2.2.1) p
    split
    · exact gl_frl S p ls j
    · exact gl_frt (gl_frl S p ls j) (gl_fri _ p _ _)
/-- everything but the palettes, the work and the text stays -/
theorem Rel_pt {I I' : vm_IH} {F : vm_FH} (h : Rel I F) (e : ∀ x k, cl_mn x k → ¬ (26 ≤ x ∧ x ≤ 37) → ¬ (156 ≤ x ∧ x ≤ 158) → ¬ (x = 0 ∧ k = 8) → ¬ (x = 152 ∧ k = 10) → ¬ (x = 135 ∧ k = 1) → ¬ (x = 152 ∧ k = 25) → I' x k = I x k) (hw : R_wrk I') (hp : Rpal I') (ht : R_txt I') : Rel I' F := by
  have q : Rel (vm_up (vm_up I' 135 1 (I 135 1)) 152 25 (I 152 25)) F := by
    refine Rel_p h (fun x k hm b1 b2 b3 b4 => ?_) (Rwrk_r hw ?_ ?_) (Rpal_r hp ?_ ?_ ?_ ?_)
    · by_cases c : x = 152 ∧ k = 25
      · rw [c.1, c.2, vm_up_h]
      · rw [vm_up_n2 _ _ _ _ _ _ c]
        by_cases d : x = 135 ∧ k = 1
        · rw [d.1, d.2, vm_up_h]
        · rw [vm_up_n2 _ _ _ _ _ _ d]
          exact e x k hm b1 b2 b3 b4 d c
    · rw [vm_up_f _ _ _ _ _ (by decide), vm_up_f _ _ _ _ _ (by decide)]
    · rw [vm_up_k2 _ _ _ _ _ (by decide), vm_up_f _ _ _ _ _ (by decide)]
    · intro a h1 h2
      rw [vm_up_f _ _ _ _ _ (by omega), vm_up_f _ _ _ _ _ (by omega)]
    · rw [vm_up_f _ _ _ _ _ (by decide), vm_up_f _ _ _ _ _ (by decide)]
    · rw [vm_up_f _ _ _ _ _ (by decide), vm_up_f _ _ _ _ _ (by decide)]
    · rw [vm_up_f _ _ _ _ _ (by decide), vm_up_f _ _ _ _ _ (by decide)]
  generalize hJ : vm_up (vm_up I' 135 1 (I 135 1)) 152 25 (I 152 25) = J at q
  have f : ∀ x, x ≠ 135 → x ≠ 152 → I' x = J x := fun x a b => by rw [← hJ, vm_up_f _ _ _ _ _ b, vm_up_f _ _ _ _ _ a]
  have s : ∀ k, k ≠ 25 → I' 152 k = J 152 k := fun k a => by rw [← hJ, vm_up_k2 _ _ _ _ _ a, vm_up_f _ _ _ _ _ (by decide)]
  exact ⟨Rpic_r q.pic (fun a _ _ => f a (by omega) (by omega)) (f _ (by decide) (by decide)) (f _ (by decide) (by decide)) (f _ (by decide) (by decide)),
    hp,
    Rrul_r q.rul (f _ (by decide) (by decide)) (s _ (by decide)) (s _ (by decide)) (s _ (by decide)) (s _ (by decide)),
    Rsht_r q.sht (fun a _ _ => f a (by omega) (by omega)) rfl (congrFun (f _ (by decide) (by decide)) 0) (congrFun (f _ (by decide) (by decide)) 0) (congrFun (f _ (by decide) (by decide)) 0) (fun k _ => congrFun (f _ (by decide) (by decide)) k) (fun k _ => congrFun (f _ (by decide) (by decide)) k) (fun k _ => congrFun (f _ (by decide) (by decide)) k) (fun _ _ => rfl),
    Rsee_r q.see (f _ (by decide) (by decide)) (f _ (by decide) (by decide)) (s _ (by decide)) (f _ (by decide) (by decide)) (f _ (by decide) (by decide)) (f _ (by decide) (by decide)),
    Rpln_r q.pln (f _ (by decide) (by decide)) (f _ (by decide) (by decide)) (s _ (by decide)) (f _ (by decide) (by decide)) (f _ (by decide) (by decide)),
    Rbok_r q.bok (f _ (by decide) (by decide)) (f _ (by decide) (by decide)) (s _ (by decide)) (f _ (by decide) (by decide)) (f _ (by decide) (by decide)),
    Rmst_r q.mst (congrFun (f _ (by decide) (by decide)) 0) (congrFun (f _ (by decide) (by decide)) 0) (congrFun (f _ (by decide) (by decide)) 0),
    hw, ht,
    Rtap_r q.tap (fun a _ _ => f a (by omega) (by omega)) (f _ (by decide) (by decide)) (f _ (by decide) (by decide)) (f _ (by decide) (by decide)),
    Rimg_r q.img (congrFun (f _ (by decide) (by decide)) 7) (s _ (by decide)) (fun a _ _ => f a (by omega) (by omega)) rfl (fun k _ => congrFun (f _ (by decide) (by decide)) k) rfl,
    Rnan_r q.nan rfl⟩
/-- what was read, of the relation's text -/
theorem rd_A {I : vm_IH} {n : Nat} (h : ∀ k, k < n → I 136 k = I 165 k ∧ 0 ≤ I 165 k ∧ I 165 k ≤ 127) : ((sp_txt (I 165) n).1 = none → (vc_P I n).1 = 0 ∧ (vc_P I n).2 135 2 = nI (sp_txt (I 165) n).2) ∧ ∀ ls, (sp_txt (I 165) n).1 = some ls → ls.length ≤ 12 ∧ (vc_P I n).1 = 1 ∧ (vc_P I n).2 135 5 = nI (rd_M ls ls.length) ∧ ∀ (j : Nat) (q : sp_CL), ls[j]? = some q → (sp_col q.1 ∧ (q.2.2.2 = 0 ∨ q.2.2.2 = 1) ∧ 1 ≤ q.2.2.1 ∧ q.2.2.1 ≤ 8) ∧ ∀ i, i < q.2.2.1 → (vc_P I n).2 137 (rd_M ls j + i) = sp_rc q i ∧ (vc_P I n).2 138 (rd_M ls j + i) = q.2.2.2 := by
  have e : sp_txt (I 165) n = rd_t2 (I 136) n 11 0 := tx_txt fun k hk => ((h k hk).1).symm
  have P := rd_P (I 136) n 11 (vm_up I 135 5 0) 0 0 (vm_up_h _ _ _ _)
  rw [e]
  refine ⟨P.1, fun ls hls => ?_⟩
  obtain ⟨a, b, c, -, d⟩ := P.2 ls hls
  refine ⟨a, b, by rw [Nat.zero_add] at c; exact c, fun j q hj => ⟨(d j q hj).1, fun i hi => ?_⟩⟩
  have := (d j q hj).2 i hi
  rw [Nat.zero_add] at this
  exact this
theorem call_read {l : Launch} {X : vm_Cx} {G : List vm_Sh} {I : Nat → Nat → Int32} {F : Nat → Nat → UInt32} {q : Int32} (hD : vm_isD G) (hR : vm_isR G) (h : Rel I F) : vm_Cl l X G I F vm_M115 vm_M227 [.int q] := by
  by_cases hx : 0 ≤ q ∧ q ≤ 3
  · obtain ⟨p, hp, rfl⟩ := cl_q3 hx
    obtain ⟨n, hn, ht1, ht2, htx⟩ := h.txt
    obtain ⟨A1, A2⟩ := rd_A htx
    have vo := fun x a b c => vc_P_o I n x a b c
    have vk : ∀ k, k ≠ 2 → k ≠ 5 → (vc_P I n).2 135 k = I 135 k := fun k a b => (vm_prr_1 (I 136) n 135 137 138 (by decide) (by decide) k a b 12 _ 0 0).trans (vm_up_k2 _ _ _ _ _ b)
    rcases hT : (sp_txt (I 165) n).1 with _ | ls
    · obtain ⟨a1, a2⟩ := A1 hT
      have C := c_read_f (l := l) (X := X) (F := F) hD hp ht1 hn a1
      rw [a2] at C
      generalize vc_P I n = V at *
      have uo : ∀ x, x ≠ 135 → x ≠ 137 → x ≠ 138 → vm_up V.2 135 1 0 x = I x := fun x a b c => (vm_up_f _ _ _ _ _ a).trans (vo x a b c)
      have u1 : vm_up V.2 135 1 0 135 1 = 0 := vm_up_h _ _ _ _
      generalize vm_up V.2 135 1 0 = J at *
      have j65 := uo 165 (by decide) (by decide) (by decide)
      obtain ⟨H, D, hH1, hH2, -⟩ := r_read_f (l := l) (X := X) (G := G) (I := J) (F := F) (n := n) hR hp ((congrFun (uo 152 (by decide) (by decide) (by decide)) 25).trans ht2) hn (by rw [j65]; exact hT)
      rw [j65] at D
      refine .mut C D rfl (Rel_pt h (fun x k hm b1 b2 b3 b4 b5 b6 => ?_) (Rwrk_r h.wrk ?_ ?_) (Rpal_r h.pal (fun a b c => ?_) ?_ ?_ ?_) ⟨0, by decide, ?_, ?_, fun k hk => absurd hk (Nat.not_lt_zero k)⟩)
      · by_cases c : x = 152
        · subst c
          rw [vm_up_k2 _ _ _ _ _ (by omega), hH2 k (by unfold cl_mn at hm; omega) (by unfold cl_mn at hm; omega) (by unfold cl_mn at hm; omega), uo _ (by decide) (by decide) (by decide)]
        · rw [vm_up_f _ _ _ _ _ c, hH1 x c (by unfold cl_mn at hm; omega) (by unfold cl_mn at hm; omega) (by unfold cl_mn at hm; omega) (by unfold cl_mn at hm; omega)]
          exact congrFun (uo x (by unfold cl_mn at hm; omega) (by unfold cl_mn at hm; omega) (by unfold cl_mn at hm; omega)) k
      · rw [vm_up_f _ _ _ _ _ (by decide), hH1 0 (by decide) (by decide) (by decide) (by decide) (by decide), uo 0 (by decide) (by decide) (by decide)]
      · rw [vm_up_k2 _ _ _ _ _ (by decide), hH2 10 (by decide) (by decide) (by decide), uo 152 (by decide) (by decide) (by decide)]
      · rw [vm_up_f _ _ _ _ _ (by omega), hH1 a (by omega) (by omega) (by omega) (by omega) (by omega), uo a (by omega) (by omega) (by omega)]
      · rw [vm_up_f _ _ _ _ _ (by decide), hH1 156 (by decide) (by decide) (by decide) (by decide) (by decide), uo 156 (by decide) (by decide) (by decide)]
      · rw [vm_up_f _ _ _ _ _ (by decide), hH1 157 (by decide) (by decide) (by decide) (by decide) (by decide), uo 157 (by decide) (by decide) (by decide)]
      · rw [vm_up_f _ _ _ _ _ (by decide), hH1 158 (by decide) (by decide) (by decide) (by decide) (by decide), uo 158 (by decide) (by decide) (by decide)]
      · rw [vm_up_f _ _ _ _ _ (by decide), hH1 135 (by decide) (by decide) (by decide) (by decide) (by decide)]
        exact u1
      · exact vm_up_h _ _ _ _
    · obtain ⟨a0, a1, a2, a3⟩ := A2 ls hT
      obtain ⟨n0, hn0, hpc, hpr, hpk⟩ := h.pal p hp
      have hM := rd_Ml ls fun j q hj => (a3 j q hj).1.2.2.2
      have C := c_read_y (l := l) (X := X) (F := F) hD hp ht1 hn hpc hn0 a1 a2 (by omega)
      generalize vc_P I n = V at *
      have uo : ∀ x, x ≠ 135 → x ≠ 137 → x ≠ 138 → vm_up V.2 135 1 0 x = I x := fun x a b c => (vm_up_f _ _ _ _ _ a).trans (vo x a b c)
      have u1 : vm_up V.2 135 1 0 135 1 = 0 := vm_up_h _ _ _ _
      have u7 : vm_up V.2 135 1 0 137 = V.2 137 := vm_up_f _ _ _ _ _ (by decide)
      have u8 : vm_up V.2 135 1 0 138 = V.2 138 := vm_up_f _ _ _ _ _ (by decide)
      rw [u7, u8] at C
      generalize vm_up V.2 135 1 0 = J0 at *
      have go := fun x b1 b2 b3 => vm_gv_o J0 (1 + 25 + 3 * p) (1 + 26 + 3 * p) (1 + 27 + 3 * p) n0 (V.2 137) (V.2 138) x b1 b2 b3
      have gn := vm_gv_n J0 (1 + 25 + 3 * p) (1 + 26 + 3 * p) (1 + 27 + 3 * p) n0 (V.2 137) (V.2 138) (by rw [uo _ (by omega) (by omega) (by omega)]; exact hpc)
      have gb := vm_gv_b J0 (1 + 25 + 3 * p) (1 + 26 + 3 * p) (1 + 27 + 3 * p) n0 (V.2 137) (V.2 138) hn0
      have SG := fun (S : (Nat → Nat → Int32) × Nat) hS => rd_gl (I := J0) (po := 1 + 25 + 3 * p) (pa := 1 + 26 + 3 * p) (pb := 1 + 27 + 3 * p) (p := p) (n := n0) (f := V.2 137) (l := V.2 138) (S := S) (ls := ls) (by omega) (by omega) (by omega) (fun j q hj => ⟨(a3 j q hj).1.2.1, fun i hi => ⟨⟨((a3 j q hj).2 i hi).1, (tx_rc (a3 j q hj).1.2.2.1 (a3 j q hj).1.2.2.2 hi (a3 j q hj).1.1).2⟩, ((a3 j q hj).2 i hi).2⟩⟩) hS ls.length (Nat.le_refl _)
      replace go := fun x b1 b2 b3 z => go x b1 b2 b3 z (rd_M ls ls.length)
      replace gn := gn (rd_M ls ls.length)
      replace gb := gb (rd_M ls ls.length)
      generalize vm_gv J0 (1 + 25 + 3 * p) (1 + 26 + 3 * p) (1 + 27 + 3 * p) n0 (V.2 137) (V.2 138) (rd_M ls ls.length) = Y at *
      have yo : ∀ x, x ≠ 1 + 25 + 3 * p → x ≠ 1 + 26 + 3 * p → x ≠ 1 + 27 + 3 * p → x ≠ 135 → x ≠ 137 → x ≠ 138 → Y.1 x = I x := fun x b1 b2 b3 b4 b5 b6 => (funext fun z => go x b1 b2 b3 z).trans (uo x b4 b5 b6)
      have j65 := yo 165 (by omega) (by omega) (by omega) (by decide) (by decide) (by decide)
      obtain ⟨H, D, hH1, hH2, -⟩ := r_read_y (l := l) (X := X) (G := G) (I := Y.1) (F := F) (n := n) (n0 := n0) (ls := ls) hR hp ((congrFun (yo 152 (by omega) (by omega) (by omega) (by decide) (by decide) (by decide)) 25).trans ht2) hn ((congrFun (yo 156 (by omega) (by omega) (by omega) (by decide) (by decide) (by decide)) p).trans hpr) hn0 (by rw [j65]; exact hT)
      have hU : ∀ x, x ≠ 152 → x ≠ 166 → x ≠ 167 → x ≠ 168 → x ≠ 169 → vm_up H 152 25 0 x = Y.1 x := fun x b1 b2 b3 b4 b5 => (vm_up_f _ _ _ _ _ b1).trans (hH1 x b1 b2 b3 b4 b5)
      have hU2 : ∀ k, k ≠ 25 → k ≠ 26 → k ≠ 27 → k ≠ 28 → vm_up H 152 25 0 152 k = I 152 k := fun k b1 b2 b3 b4 => (vm_up_k2 _ _ _ _ _ b1).trans ((hH2 k b2 b3 b4).trans (congrFun (yo 152 (by omega) (by omega) (by omega) (by decide) (by decide) (by decide)) k))
      have hU5 : vm_up H 152 25 0 152 25 = 0 := vm_up_h _ _ _ _
      generalize vm_up H 152 25 0 = K at *
      have S := SG (K, n0) ⟨rfl, fun e he => by
        show (J0 (1 + 26 + 3 * p) e = K 157 (16 * p + e) ∧ sp_col (K 157 (16 * p + e))) ∧ J0 (1 + 27 + 3 * p) e = K 158 (16 * p + e) ∧ (K 158 (16 * p + e) = 0 ∨ K 158 (16 * p + e) = 1)
        rw [uo _ (by omega) (by omega) (by omega), uo _ (by omega) (by omega) (by omega), hU 157 (by decide) (by decide) (by decide) (by decide) (by decide), hU 158 (by decide) (by decide) (by decide) (by decide) (by decide), yo 157 (by omega) (by omega) (by omega) (by decide) (by decide) (by decide), yo 158 (by omega) (by omega) (by omega) (by decide) (by decide) (by decide)]
        exact hpk e he⟩
      obtain ⟨fo, f6, f7, f8⟩ := gl_frl (K, n0) p ls ls.length
      replace f8 := f8 (by show K 156 p = nI n0; rw [hU 156 (by decide) (by decide) (by decide) (by decide) (by decide), yo 156 (by omega) (by omega) (by omega) (by decide) (by decide) (by decide)]; exact hpr)
      generalize vr_gl (K, n0) p ls ls.length = Z at *
      have zc : ∀ x, x < 152 → ∀ z, Z.1 x z = Y.1 x z := fun x hx z => (congrFun (fo x (by omega) (by omega) (by omega)) z).trans (congrFun (hU x (by omega) (by omega) (by omega) (by omega) (by omega)) z)
      have zi : ∀ x, x < 152 → x ≠ 1 + 25 + 3 * p → x ≠ 1 + 26 + 3 * p → x ≠ 1 + 27 + 3 * p → x ≠ 135 → x ≠ 137 → x ≠ 138 → ∀ z, Z.1 x z = I x z := fun x hx b1 b2 b3 b4 b5 b6 z => (zc x hx z).trans (congrFun (yo x b1 b2 b3 b4 b5 b6) z)
      have z52 : ∀ k, k ≠ 25 → k ≠ 26 → k ≠ 27 → k ≠ 28 → Z.1 152 k = I 152 k := fun k b1 b2 b3 b4 => (congrFun (fo 152 (by decide) (by decide) (by decide)) k).trans (hU2 k b1 b2 b3 b4)
      have kg : ∀ x, 153 ≤ x → x ≠ 166 → x ≠ 167 → x ≠ 168 → x ≠ 169 → K x = I x := fun x b0 b1 b2 b3 b4 => (hU x (by omega) b1 b2 b3 b4).trans (yo x (by omega) (by omega) (by omega) (by omega) (by omega) (by omega))
      refine .mut C D (congrArg (fun z => Value.int (nI (z - n0))) S.1.symm) (Rel_pt h (fun x k hm b1 b2 b3 b4 b5 b6 => ?_) (Rwrk_r h.wrk ?_ ?_) (Rpal_at h.pal p ⟨Y.2, gb.2, ?_, ?_, fun e he => ?_⟩ fun r hr2 hrp => ⟨⟨?_, fun k _ => ?_, fun k _ => ?_⟩, ?_, fun k hk3 => ?_, fun k hk3 => ?_⟩) ⟨0, by decide, ?_, ?_, fun k hk => absurd hk (Nat.not_lt_zero k)⟩)
      · by_cases c : x < 152
        · by_cases c2 : x = 135
          · subst c2
            exact absurd hm (by unfold cl_mn; omega)
          · exact zi x c (by omega) (by omega) (by omega) c2 (by unfold cl_mn at hm; omega) (by unfold cl_mn at hm; omega) k
        · by_cases c2 : x = 152
          · subst c2
            exact z52 k (by omega) (by unfold cl_mn at hm; omega) (by unfold cl_mn at hm; omega) (by unfold cl_mn at hm; omega)
          · exact (congrFun (fo x (by omega) (by omega) (by omega)) k).trans (congrFun (kg x (by omega) (by unfold cl_mn at hm; omega) (by unfold cl_mn at hm; omega) (by unfold cl_mn at hm; omega) (by unfold cl_mn at hm; omega)) k)
      · exact zi 0 (by decide) (by omega) (by omega) (by omega) (by decide) (by decide) (by decide) 8
      · exact z52 10 (by decide) (by decide) (by decide) (by decide)
      · exact (zc _ (by omega) 0).trans gn
      · rw [S.1]
        exact f8
      · rw [zc (1 + 26 + 3 * p) (by omega), zc (1 + 27 + 3 * p) (by omega)]
        exact S.2 e (by rw [← S.1]; exact he)
      · exact zi _ (by omega) (by omega) (by omega) (by omega) (by omega) (by omega) (by omega) _
      · exact zi _ (by omega) (by omega) (by omega) (by omega) (by omega) (by omega) (by omega) _
      · exact zi _ (by omega) (by omega) (by omega) (by omega) (by omega) (by omega) (by omega) _
      · exact (f6 r hrp).trans (congrFun (kg 156 (by decide) (by decide) (by decide) (by decide) (by decide)) r)
      · exact ((f7 _ fun e he => by omega).1).trans (congrFun (kg 157 (by decide) (by decide) (by decide) (by decide) (by decide)) _)
      · exact ((f7 _ fun e he => by omega).2).trans (congrFun (kg 158 (by decide) (by decide) (by decide) (by decide) (by decide)) _)
      · exact (zc 135 (by decide) 1).trans ((go 135 (by omega) (by omega) (by omega) 1).trans u1)
      · exact (congrFun (fo 152 (by decide) (by decide) (by decide)) 25).trans hU5
  · exact .pure (c_read_x hD hx) (r_read_x hR hx) h
