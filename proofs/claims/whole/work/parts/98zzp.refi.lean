/-- REFINING: one pass on both sides -/
theorem rf_g1 (I : Nat → Nat → Int32) {sa px : Nat} (q : Nat) (c : Int32) (h : sa ≠ px) (z : Nat) : ∀ k, vm_ga1 I sa px q c k sa z = if 3 * q ≤ z ∧ z < 3 * q + k then I sa z + sp_ch c (nI (z - 3 * q)) else I sa z
  | 0 => by
    show vm_up I px q (I px q + 1) sa z = _
    rw [vm_up_f _ _ _ _ _ h, if_neg (by omega)]
  | k + 1 => by
    show vm_up (vm_ga1 I sa px q c k) sa (3 * q + k) (vm_ga1 I sa px q c k sa (3 * q + k) + sp_ch c (nI k)) sa z = _
    by_cases e : z = 3 * q + k
    · rw [e, vm_up_h, if_pos (by omega), rf_g1 I q c h, if_neg (by omega), Nat.add_sub_cancel_left]
    · rw [vm_up_k2 _ _ _ _ _ e, rf_g1 I q c h]
      by_cases d : 3 * q ≤ z ∧ z < 3 * q + k
      · rw [if_pos d, if_pos (by omega)]
      · rw [if_neg d, if_neg (by omega)]
/-- what is tallied: the same sums, and small -/
def rf_G (A B : Nat → Nat → Int32) (N : Nat) : Prop := (∀ k, k < 48 → A 133 k = B 171 k) ∧ ∀ e, e < 16 → A 134 e = B 170 e ∧ ∃ P, P ≤ N ∧ B 170 e = nI P ∧ ∀ k, k < 3 → ∃ S, S ≤ 63 * P ∧ B 171 (3 * e + k) = nI S
theorem rf_ga {A B : Nat → Nat → Int32} {N q : Nat} {c : Int32} (h : rf_G A B N) (hq : q < 16) : rf_G (vm_ga1 A 133 134 q c 3) (vm_ga1 B 171 170 q c 3) (N + 1) := by
  obtain ⟨h1, h2⟩ := h
  refine ⟨fun k hk => ?_, fun e he => ?_⟩
  · rw [rf_g1 A q c (by decide), rf_g1 B q c (by decide), h1 k hk]
  · rw [vm_ga1_p _ _ _ _ _ (by decide), vm_ga1_p _ _ _ _ _ (by decide), (h2 e he).1, (h2 q hq).1]
    refine ⟨rfl, ?_⟩
    obtain ⟨P, hP, e1, e2⟩ := (h2 e he).2
    by_cases d : e = q
    · subst d
      refine ⟨P + 1, by omega, ?_, fun k hk => ?_⟩
      · rw [if_pos rfl, e1]
        exact vm_pa rfl (y := 1) (b := 1) rfl
      · obtain ⟨S, hS, e3⟩ := e2 k hk
        obtain ⟨u, hu, e4⟩ := sp_ch_n c (nI (3 * e + k - 3 * e))
        refine ⟨S + u, by omega, ?_⟩
        rw [rf_g1 B e c (by decide), if_pos (by omega), e3, e4]
        exact vm_pa rfl rfl
    · refine ⟨P, by omega, ?_, fun k hk => ?_⟩
      · rw [if_neg d, e1]
      · rw [rf_g1 B q c (by decide), if_neg (by omega)]
        exact e2 k hk
theorem rf_gt {A B : Nat → Nat → Int32} {q q' : Nat → Nat} {c c' : Nat → Int32} : ∀ {N : Nat}, (∀ y, y < N → q y = q' y ∧ q' y < 16 ∧ c y = c' y) → rf_G (vm_gat (vm_gz A 133 134) 133 134 q c N) (vm_gat (vm_gz B 171 170) 171 170 q' c' N) N
  | 0, _ => by
    refine ⟨fun k hk => ?_, fun e he => ⟨?_, 0, Nat.le_refl 0, ?_, fun k hk => ⟨0, Nat.le_refl _, ?_⟩⟩⟩
    · show vm_zc 0 (vm_zc 0 A 133 48) 134 16 133 k = vm_zc 0 (vm_zc 0 B 171 48) 170 16 171 k
      rw [vm_zc_o _ _ 134 _ 133 (by decide), vm_zc_h _ _ 133 48 k hk, vm_zc_o _ _ 170 _ 171 (by decide), vm_zc_h _ _ 171 48 k hk]
    · exact (vm_gz_p A 133 134 e he).trans (vm_gz_p B 171 170 e he).symm
    · exact vm_gz_p B 171 170 e he
    · show vm_zc 0 (vm_zc 0 B 171 48) 170 16 171 (3 * e + k) = 0
      rw [vm_zc_o _ _ _ _ _ (by decide), vm_zc_h _ _ _ _ _ (by omega)]
  | N + 1, h => by
    have ih := rf_gt (A := A) (B := B) fun y hy => h y (Nat.lt_succ_of_lt hy)
    obtain ⟨a, b, d⟩ := h N (Nat.lt_succ_self N)
    show rf_G (vm_ga1 _ 133 134 (q N) (c N) 3) (vm_ga1 _ 171 170 (q' N) (c' N) 3) (N + 1)
    rw [a, d]
    exact rf_ga ih b
theorem rf_mm {A B : Nat → Nat → Int32} {N e : Nat} (h : rf_G A B N) (he : e < 16) (hN : N ≤ 144) : sp_mm (A 133) (A 134 e) e 3 = sp_co (sp_rd (B 171 (3 * e)) (B 170 e)) (sp_rd (B 171 (3 * e + 1)) (B 170 e)) (sp_rd (B 171 (3 * e + 2)) (B 170 e)) ∧ sp_col (sp_mm (A 133) (A 134 e) e 3) := by
  obtain ⟨h1, h2⟩ := h
  obtain ⟨e0, P, hP, e1, e2⟩ := h2 e he
  have T : ∀ k, k < 3 → ∃ u, u < 64 ∧ sp_rd (B 171 (3 * e + k)) (B 170 e) = nI u := fun k hk => by
    obtain ⟨S, hS, e3⟩ := e2 k hk
    rw [e3, e1]
    exact bx_rd hS (by omega)
  obtain ⟨x, hx, ex⟩ := T 0 (by decide)
  obtain ⟨y, hy, ey⟩ := T 1 (by decide)
  obtain ⟨z, hz, ez⟩ := T 2 (by decide)
  have q : sp_mm (A 133) (A 134 e) e 3 = ((0 * 64 + nI x) * 64 + nI y) * 64 + nI z := by
    show ((0 * 64 + sp_rd (A 133 (3 * e + 0)) (A 134 e)) * 64 + sp_rd (A 133 (3 * e + 1)) (A 134 e)) * 64 + sp_rd (A 133 (3 * e + 2)) (A 134 e) = _
    rw [h1 _ (by omega), h1 _ (by omega), h1 _ (by omega), e0, ex, ey, ez]
  rw [q, sp_3n]
  refine ⟨?_, sp_col_i (by omega)⟩
  have ex2 : sp_rd (B 171 (3 * e)) (B 170 e) = nI x := ex
  rw [ex2, ey, ez]
  unfold sp_co
  rw [show (4096 : Int32) * nI x = nI (4096 * x) from vm_pm (x := 4096) (a := 4096) rfl rfl, show (64 : Int32) * nI y = nI (64 * y) from vm_pm (x := 64) (a := 64) rfl rfl, vm_pa (x := nI (4096 * x)) (y := nI (64 * y)) rfl rfl, vm_pa (x := nI (4096 * x + 64 * y)) (y := nI z) rfl rfl, show (x * 64 + y) * 64 + z = 4096 * x + 64 * y + z by omega]
/-- the palette and the picture on both sides -/
def rf_S (H J : Nat → Nat → Int32) (a b pa p q n N : Nat) : Prop := (∀ e, e < n → (H a e = J 157 (16 * p + e) ∧ sp_col (J 157 (16 * p + e))) ∧ H b e = J 158 (16 * p + e) ∧ (J 158 (16 * p + e) = 0 ∨ J 158 (16 * p + e) = 1)) ∧ ∀ y, y < N → H pa y = J 155 (144 * q + y)
theorem sp_ew_c {f g : Nat → Int32} {c : Int32} {n : Nat} (h : ∀ k, k < n → f k = g k) : sp_ew f c n = sp_ew g c n := by
  have e : sp_fi (fun k => f k = c) n = sp_fi (fun k => g k = c) n := sp_fi_c fun k hk => by rw [h k hk]
  unfold sp_ew
  rw [e]
theorem rf_in {f : Nat → Int32} {c : Int32} {n j : Nat} (hj : j < n) (hn : n ≤ 16) (h : f j = c) : ¬ sp_ew f c n < 0 := by
  rcases sp_ew_or f c n with ⟨i, hi, -, -, e⟩ | ⟨z, -⟩
  · rw [e]
    exact fun z => absurd z (Int32.not_lt.mpr (nI_nn (by omega)))
  · exact absurd h (z j hj)
theorem rf_st {H J : Nat → Nat → Int32} {a b pa p q n N : Nat} {m : Int32} (h : rf_S H J a b pa p q n N) (hn0 : 0 < n) (hn : n ≤ 16) (hN : N ≤ 144) (hab : a ≠ b) (ha : a < 112) (hb : b < 112) (hpa : pa < 112) (hpa2 : pa ≠ a) : rf_S (vc_R H a b pa n N m) (vr_R J p q n N m) a b pa p q n N ∧ vc_F H a b pa n N m = vr_F J p q n N m := by
  obtain ⟨hp, hx⟩ := h
  have G : rf_G (vc_J H a pa n N m) (vr_J J p q n N m) N := rf_gt fun y hy => by
    obtain ⟨s, rfl⟩ : ∃ s, n = s + 1 := ⟨n - 1, by omega⟩
    have hle := sp_nn_le (fun z => sp_far m (J 157 (16 * p + z)) (J 155 (144 * q + y))) s
    refine ⟨?_, by show sp_nn _ (s + 1 - 1) < 16; rw [Nat.add_sub_cancel]; omega, hx y hy⟩
    show sp_nq (fun k => sp_far m (H pa y) (H a k)) (fun k => nI k = -1) (s + 1) = sp_nn (fun z => sp_far m (J 157 (16 * p + z)) (J 155 (144 * q + y))) (s + 1 - 1)
    unfold sp_nq
    rw [sp_nr_nn _ _ (by omega)]
    show sp_nn (fun k => sp_far m (H pa y) (H a k)) s = sp_nn _ s
    refine sp_nn_c fun k hk => ?_
    rw [hx y hy, sp_far_s, (hp k (by omega)).1.1]
  have cJ : ∀ x, x ≠ 133 → x ≠ 134 → ∀ z, vc_J H a pa n N m x z = H x z := fun x h1 h2 z => (vm_gat_o _ _ _ _ _ _ h1 h2 z N).trans (vm_gz_o _ _ _ _ h1 h2 z)
  have kJ : ∀ x, x ≠ 170 → x ≠ 171 → x ≠ 172 → vr_K J p q n N m x = J x := fun x h1 h2 h3 => vr_K_o J p q n N m x h1 h2 h3
  have T : ∀ e, e ≤ n → (∀ z, z < n → vm_rfs (vc_J H a pa n N m) 133 134 a b n e a z = vr_rs (vr_K J p q n N m) p n (vr_be J p q n N m) e 157 (16 * p + z) ∧ sp_col (vr_rs (vr_K J p q n N m) p n (vr_be J p q n N m) e 157 (16 * p + z))) ∧ vm_rfc (vc_J H a pa n N m) 133 134 a b n e = vr_rc (vr_K J p q n N m) p n (vr_be J p q n N m) e := by
    intro e
    induction e with
    | zero =>
      intro _
      refine ⟨fun z hz => ?_, rfl⟩
      show vc_J H a pa n N m a z = vr_K J p q n N m 157 (16 * p + z) ∧ sp_col (vr_K J p q n N m 157 (16 * p + z))
      rw [cJ a (by omega) (by omega), kJ 157 (by decide) (by decide) (by decide)]
      exact (hp z hz).1
    | succ e ih =>
      intro he
      obtain ⟨i1, i2⟩ := ih (by omega)
      obtain ⟨m1, m2⟩ := rf_mm G (e := e) (by omega) hN
      have r33 : ∀ z, vm_rfs (vc_J H a pa n N m) 133 134 a b n e 133 z = vc_J H a pa n N m 133 z := fun z => vm_rfs_o _ _ _ _ _ _ _ (by omega) z e
      have r34 : ∀ z, vm_rfs (vc_J H a pa n N m) 133 134 a b n e 134 z = vc_J H a pa n N m 134 z := fun z => vm_rfs_o _ _ _ _ _ _ _ (by omega) z e
      have rb : vm_rfs (vc_J H a pa n N m) 133 134 a b n e b e = J 158 (16 * p + e) := by
        rw [vm_rfs_o _ _ _ _ _ _ _ (Ne.symm hab) e e, cJ b (by omega) (by omega)]
        exact (hp e (by omega)).2.1
      have f33 : vm_rfs (vc_J H a pa n N m) 133 134 a b n e 133 = vc_J H a pa n N m 133 := funext r33
      have old : vr_rs (vr_K J p q n N m) p n (vr_be J p q n N m) e 157 (16 * p + e) = J 157 (16 * p + e) := by
        rw [vr_rs_g _ _ _ _ _ _ (Nat.le_refl _), kJ 157 (by decide) (by decide) (by decide)]
      have ew : ∀ c, sp_ew (vm_rfs (vc_J H a pa n N m) 133 134 a b n e a) c n = sp_ew (fun z => vr_rs (vr_K J p q n N m) p n (vr_be J p q n N m) e 157 (16 * p + z)) c n := fun c => sp_ew_c fun k hk => (i1 k hk).1
      have E1 : vm_rfs (vc_J H a pa n N m) 133 134 a b n (e + 1) = if vm_rcd (vm_rfs (vc_J H a pa n N m) 133 134 a b n e) 133 134 a b n e then vm_rfs (vc_J H a pa n N m) 133 134 a b n e else vm_up (vm_rfs (vc_J H a pa n N m) 133 134 a b n e) a e (sp_mm (vm_rfs (vc_J H a pa n N m) 133 134 a b n e 133) (vm_rfs (vc_J H a pa n N m) 133 134 a b n e 134 e) e 3) := rfl
      have E2 : vm_rfc (vc_J H a pa n N m) 133 134 a b n (e + 1) = if vm_rcd (vm_rfs (vc_J H a pa n N m) 133 134 a b n e) 133 134 a b n e then vm_rfc (vc_J H a pa n N m) 133 134 a b n e else 1 := rfl
      have E3 : vr_rs (vr_K J p q n N m) p n (vr_be J p q n N m) (e + 1) = if sp_ew (fun z => vr_rs (vr_K J p q n N m) p n (vr_be J p q n N m) e 157 (16 * p + z)) (vr_be J p q n N m e) n < 0 then vm_up (vr_rs (vr_K J p q n N m) p n (vr_be J p q n N m) e) 157 (16 * p + e) (vr_be J p q n N m e) else vr_rs (vr_K J p q n N m) p n (vr_be J p q n N m) e := rfl
      have E4 : vr_rc (vr_K J p q n N m) p n (vr_be J p q n N m) (e + 1) = if sp_ew (fun z => vr_rs (vr_K J p q n N m) p n (vr_be J p q n N m) e 157 (16 * p + z)) (vr_be J p q n N m e) n < 0 then 1 else vr_rc (vr_K J p q n N m) p n (vr_be J p q n N m) e := rfl
      have BE : vr_be J p q n N m e = if vr_J J p q n N m 170 e = 0 ∨ J 158 (16 * p + e) = 1 then J 157 (16 * p + e) else sp_mm (vc_J H a pa n N m 133) (vc_J H a pa n N m 134 e) e 3 := by
        rw [m1]
        rfl
      have ge := (G.2 e (by omega)).1
      by_cases c : vr_J J p q n N m 170 e = 0 ∨ J 158 (16 * p + e) = 1
      · rw [if_pos c] at BE
        have n1 : ¬ sp_ew (fun z => vr_rs (vr_K J p q n N m) p n (vr_be J p q n N m) e 157 (16 * p + z)) (vr_be J p q n N m e) n < 0 := rf_in (j := e) (by omega) hn (by rw [BE]; exact old)
        have n2 : vm_rcd (vm_rfs (vc_J H a pa n N m) 133 134 a b n e) 133 134 a b n e := by
          rcases c with c | c
          · exact Or.inr (Or.inl (by rw [r34, ge]; exact c))
          · exact Or.inl (rb.trans c)
        rw [E1, E2, E3, E4, if_pos n2, if_pos n2, if_neg n1, if_neg n1]
        exact ⟨i1, i2⟩
      · rw [if_neg c] at BE
        by_cases d : sp_ew (fun z => vr_rs (vr_K J p q n N m) p n (vr_be J p q n N m) e 157 (16 * p + z)) (vr_be J p q n N m e) n < 0
        · have n2 : ¬ vm_rcd (vm_rfs (vc_J H a pa n N m) 133 134 a b n e) 133 134 a b n e := by
            rintro (z | z | z)
            · exact c (Or.inr (rb.symm.trans z))
            · rw [r34, ge] at z
              exact c (Or.inl z)
            · rw [f33, r34, ew, ← BE] at z
              exact z d
          rw [E1, E2, E3, E4, if_neg n2, if_neg n2, if_pos d, if_pos d]
          refine ⟨fun z hz => ?_, rfl⟩
          rw [f33, r34, ← BE]
          by_cases f : z = e
          · rw [f, vm_up_h, vm_up_h, BE]
            exact ⟨rfl, m2⟩
          · rw [vm_up_k2 _ _ _ _ _ f, vm_up_k2 _ _ _ _ _ (by omega)]
            exact i1 z hz
        · have n2 : vm_rcd (vm_rfs (vc_J H a pa n N m) 133 134 a b n e) 133 134 a b n e := by
            refine Or.inr (Or.inr ?_)
            rw [f33, r34, ew, ← BE]
            exact d
          rw [E1, E2, E3, E4, if_pos n2, if_pos n2, if_neg d, if_neg d]
          exact ⟨i1, i2⟩
  obtain ⟨t1, t2⟩ := T n (Nat.le_refl n)
  refine ⟨⟨fun e he => ⟨t1 e he, ?_⟩, fun y hy => ?_⟩, t2⟩
  · rw [vc_R_o _ _ _ _ _ _ _ _ (Ne.symm hab) (by omega) (by omega), vr_R_o _ _ _ _ _ _ _ (by decide) (by decide) (by decide) (by decide)]
    exact (hp e he).2
  · rw [vc_R_o _ _ _ _ _ _ _ _ hpa2 (by omega) (by omega), vr_R_o _ _ _ _ _ _ _ (by decide) (by decide) (by decide) (by decide)]
    exact hx y hy
theorem rf_it {H J : Nat → Nat → Int32} {a b pa p q n N : Nat} {m : Int32} (h : rf_S H J a b pa p q n N) (hn0 : 0 < n) (hn : n ≤ 16) (hN : N ≤ 144) (hab : a ≠ b) (ha : a < 112) (hb : b < 112) (hpa : pa < 112) (hpa2 : pa ≠ a) : ∀ t, rf_S (vc_it H a b pa n N m t) (vr_it J p q n N m t) a b pa p q n N
  | 0 => h
  | t + 1 => (rf_st (rf_it h hn0 hn hN hab ha hb hpa hpa2 t) hn0 hn hN hab ha hb hpa hpa2).1
theorem rf_ft {H J : Nat → Nat → Int32} {a b pa p q n N : Nat} {m : Int32} (h : rf_S H J a b pa p q n N) (hn0 : 0 < n) (hn : n ≤ 16) (hN : N ≤ 144) (hab : a ≠ b) (ha : a < 112) (hb : b < 112) (hpa : pa < 112) (hpa2 : pa ≠ a) (k : Nat) : vc_ft H a b pa n N m k = vr_ft J p q n N m k ∧ rf_S (vc_ith H a b pa n N m k) (vr_ith J p q n N m k) a b pa p q n N := by
  have I := rf_it (m := m) h hn0 hn hN hab ha hb hpa hpa2
  have e : vc_ft H a b pa n N m k = vr_ft J p q n N m k := sp_fi_c fun t _ => by
    rw [(rf_st (m := m) (I t) hn0 hn hN hab ha hb hpa hpa2).2]
  refine ⟨e, ?_⟩
  unfold vc_ith vr_ith
  rw [e]
  split
  · exact I _
  · exact I _
theorem vc_ith_o (I : Nat → Nat → Int32) (a b pa n N : Nat) (m : Int32) (k x : Nat) (h0 : x ≠ a) (h1 : x ≠ 133) (h2 : x ≠ 134) : vc_ith I a b pa n N m k x = I x := by
  unfold vc_ith
  split
  · exact vc_it_o I a b pa n N m x h0 h1 h2 _
  · exact vc_it_o I a b pa n N m x h0 h1 h2 _
theorem vr_ith_o (I : Nat → Nat → Int32) (p q n N : Nat) (m : Int32) (k x : Nat) (h0 : x ≠ 157) (h1 : x ≠ 170) (h2 : x ≠ 171) (h3 : x ≠ 172) : vr_ith I p q n N m k x = I x := by
  unfold vr_ith
  split
  · exact vr_it_o I p q n N m x h0 h1 h2 h3 _
  · exact vr_it_o I p q n N m x h0 h1 h2 h3 _
theorem rf_7 (J : Nat → Nat → Int32) (p n : Nat) (B : Nat → Int32) (k : Nat) (hn : n ≤ 16) (hk : ∀ e, e < 16 → k ≠ 16 * p + e) : ∀ e, e ≤ n → vr_rs J p n B e 157 k = J 157 k
  | 0, _ => rfl
  | e + 1, he => by
    unfold vr_rs
    split
    · rw [vm_up_k2 _ _ _ _ _ (hk e (by omega))]
      exact rf_7 J p n B k hn hk e (by omega)
    · exact rf_7 J p n B k hn hk e (by omega)
theorem rf_8 (I : Nat → Nat → Int32) (p q n N : Nat) (m : Int32) (k : Nat) (hn : n ≤ 16) (hk : ∀ e, e < 16 → k ≠ 16 * p + e) : ∀ t, vr_it I p q n N m t 157 k = I 157 k
  | 0 => rfl
  | t + 1 => (rf_7 _ p n _ k hn hk n (Nat.le_refl n)).trans ((congrFun (vr_K_o _ p q n N m 157 (by decide) (by decide) (by decide)) k).trans (rf_8 I p q n N m k hn hk t))
theorem vr_ith_7 (I : Nat → Nat → Int32) (p q n N : Nat) (m : Int32) (k r : Nat) (hn : n ≤ 16) (hk : ∀ e, e < 16 → r ≠ 16 * p + e) : vr_ith I p q n N m k 157 r = I 157 r := by
  unfold vr_ith
  split
  · exact rf_8 I p q n N m r hn hk _
  · exact rf_8 I p q n N m r hn hk _
theorem call_refine {l : Launch} {X : vm_Cx} {G : List vm_Sh} {I : Nat → Nat → Int32} {F : Nat → Nat → UInt32} {q : Int32} {e : Int32} {k : Int32} (hD : vm_isD G) (hR : vm_isR G) (h : Rel I F) : vm_Cl l X G I F vm_M117 vm_M240 [.int q, .int e, .int k] := by
  by_cases hx : 0 ≤ q ∧ q ≤ 3
  · obtain ⟨p, hp, rfl⟩ := cl_q3 hx
    by_cases hx2 : 0 ≤ e ∧ e ≤ 3
    · obtain ⟨q, hq, rfl⟩ := cl_q3 hx2
      obtain ⟨w, a, hw, ha, h0, h1, hc, hr, hpx⟩ := h.pic q hq
      by_cases hw0 : w = 0
      · exact .pure (c_refine_nm hD hp hc.1 hq hw hw0) (r_refine_m hR hp hr.1 hq hw hw0) h
      · have hww : 0 < w := by omega
        have hh0 := h1 hww
        have hwh := vm_mul144 hw ha
        have N0 : 0 < w * a := Nat.mul_pos hww hh0
        by_cases hk : 1 ≤ k ∧ k ≤ 20
        · obtain ⟨k, hk1, hk2, rfl⟩ := cl_rng hk (a := 1) (b := 20) rfl rfl (by decide) (by decide)
          obtain ⟨n, hn, hpc, hpr, hpk⟩ := h.pal p hp
          by_cases hn0 : n = 0
          · exact .pure (c_refine_s hD hp hpc hn0 hc.1 hq hw hww hk1 hk2) (r_refine_s hR hp hpr hn0 hr.1 hq hw hww hk1 hk2) h
          · obtain ⟨u, hu, hu1, hu2⟩ := h.wrk
            by_cases hv : u + k ≤ 6000
            · obtain ⟨m, kn, kk, g, ⟨hm4, hkn, hkk, hg⟩, hcr, hrr1, hrr2, hrr3, hrr4⟩ := h.rul
              have C := c_refine_y (l := l) (X := X) (F := F) hD hp hpc (by omega) hn hc.1 hc.2 hq hw ha hww hk1 hk2 hu1 hv hcr.1
              obtain ⟨U, hU⟩ : ∃ U, U = vc_ith (vm_up I 0 8 (nI (u + k))) (1 + 26 + 3 * p) (1 + 27 + 3 * p) (1 + 18 + 2 * q) n (w * a) (nI m) k := ⟨_, rfl⟩
              rw [← hU] at C
              have uo : ∀ x, x ≠ 1 + 26 + 3 * p → x ≠ 133 → x ≠ 134 → ∀ z, ¬ (x = 0 ∧ z = 8) → U x z = I x z := fun x a1 a2 a3 z a4 => by
                rw [hU, vc_ith_o _ _ _ _ _ _ _ _ _ a1 a2 a3, vm_up_n2 _ _ _ _ _ _ a4]
              have u8 : U 0 8 = nI (u + k) := by
                rw [hU, vc_ith_o _ _ _ _ _ _ _ _ _ (by omega) (by decide) (by decide)]
                exact vm_up_h _ _ _ _
              have ug : ∀ x, 153 ≤ x → ∀ z, U x z = I x z := fun x hx z => uo x (by omega) (by omega) (by omega) z (by omega)
              have D := r_refine_y (l := l) (X := X) (I := U) (F := F) hR hp ((ug 156 (by decide) p).trans hpr) (by omega) hn ((ug 153 (by decide) q).trans hr.1) ((ug 154 (by decide) q).trans hr.2) hq hw ha hww hk1 hk2 ((uo 152 (by omega) (by decide) (by decide) 10 (by omega)).trans hu2) hv ((uo 152 (by omega) (by decide) (by decide) 6 (by omega)).trans hrr1) (cl_m4 hm4)
              have S0 : rf_S (vm_up I 0 8 (nI (u + k))) (vm_up U 152 10 (nI (u + k))) (1 + 26 + 3 * p) (1 + 27 + 3 * p) (1 + 18 + 2 * q) p q n (w * a) := by
                refine ⟨fun e he => ?_, fun y hy => ?_⟩
                · rw [vm_up_f I 0 8 _ (1 + 26 + 3 * p) (by omega), vm_up_f I 0 8 _ (1 + 27 + 3 * p) (by omega), vm_up_f U 152 10 _ 157 (by decide), vm_up_f U 152 10 _ 158 (by decide), ug 157 (by decide), ug 158 (by decide)]
                  exact hpk e he
                · rw [vm_up_f I 0 8 _ (1 + 18 + 2 * q) (by omega), vm_up_f U 152 10 _ 155 (by decide), ug 155 (by decide)]
                  exact (hpx y (by omega)).1
              obtain ⟨s1, s2⟩ := rf_ft (m := nI m) S0 (by omega) hn hwh (by omega) (by omega) (by omega) (by omega) (by omega) k
              rw [← hU] at s2
              have zo := fun x a1 a2 a3 a4 => vr_ith_o (vm_up U 152 10 (nI (u + k))) p q n (w * a) (nI m) k x a1 a2 a3 a4
              have z7 := fun r hr => vr_ith_7 (vm_up U 152 10 (nI (u + k))) p q n (w * a) (nI m) k r hn hr
              generalize vr_ith (vm_up U 152 10 (nI (u + k))) p q n (w * a) (nI m) k = Z at *
              have zc : ∀ x, x < 152 → ∀ z, Z x z = U x z := fun x hx z => by rw [zo x (by omega) (by omega) (by omega) (by omega), vm_up_f _ _ _ _ _ (by omega)]
              have zg : ∀ x, 153 ≤ x → x ≠ 157 → x ≠ 170 → x ≠ 171 → x ≠ 172 → ∀ z, Z x z = I x z := fun x hx a1 a2 a3 a4 z => by rw [zo x a1 a2 a3 a4, vm_up_f _ _ _ _ _ (by omega), ug x hx]
              refine .mut C D (congrArg (fun z => Value.int (nI z)) s1.symm) (Rel_p h (fun x z hm2 b1 b2 b3 b4 => ?_) ⟨u + k, hv, ?_, ?_⟩ (Rpal_at h.pal p ⟨n, hn, ?_, ?_, fun e he => ?_⟩ fun r hr2 hrp => ⟨⟨?_, fun k _ => ?_, fun k _ => ?_⟩, ?_, fun k hk3 => ?_, fun k hk3 => ?_⟩))
              · by_cases c2 : x = 152
                · subst c2
                  rw [zo 152 (by decide) (by decide) (by decide) (by decide), vm_up_k2 _ _ _ _ _ (by omega)]
                  exact uo _ (by omega) (by omega) (by omega) _ (by omega)
                · rw [zo x (by omega) (by unfold cl_mn at hm2; omega) (by unfold cl_mn at hm2; omega) (by unfold cl_mn at hm2; omega), vm_up_f _ _ _ _ _ c2]
                  exact uo x (by omega) (by unfold cl_mn at hm2; omega) (by unfold cl_mn at hm2; omega) z b3
              · rw [zc 0 (by decide)]
                exact u8
              · rw [zo 152 (by decide) (by decide) (by decide) (by decide)]
                exact vm_up_h _ _ _ _
              · rw [zc _ (by omega), uo _ (by omega) (by omega) (by omega) _ (by omega)]
                exact hpc
              · rw [zg 156 (by decide) (by decide) (by decide) (by decide) (by decide)]
                exact hpr
              · rw [zc (1 + 26 + 3 * p) (by omega), zc (1 + 27 + 3 * p) (by omega)]
                exact s2.1 e he
              · rw [zc _ (by omega), uo _ (by omega) (by omega) (by omega) _ (by omega)]
              · rw [zc _ (by omega), uo _ (by omega) (by omega) (by omega) _ (by omega)]
              · rw [zc _ (by omega), uo _ (by omega) (by omega) (by omega) _ (by omega)]
              · exact zg 156 (by decide) (by decide) (by decide) (by decide) (by decide) r
              · rw [z7 _ fun e he => by omega, vm_up_f _ _ _ _ _ (by decide), ug _ (by decide)]
              · exact zg 158 (by decide) (by decide) (by decide) (by decide) (by decide) _
            · exact .pure (c_refine_f hD hp hpc (by omega) hn hc.1 hq hw hww hk1 hk2 hu1 (by omega) hu) (r_refine_f hR hp hpr (by omega) hn hr.1 hq hw hww hk1 hk2 hu2 (by omega) hu) h
        · exact .pure (c_refine_b hD hp hc.1 hq hw hww hk) (r_refine_b hR hp hr.1 hq hw hww hk) h
    · exact .pure (c_refine_nx hD hp hx2) (r_refine_x2 hR hp hx2) h
  · by_cases hx2 : 0 ≤ e ∧ e ≤ 3
    · obtain ⟨q, hq, rfl⟩ := cl_q3 hx2
      obtain ⟨w, a, hw, ha, h0, h1, hc, hr, hpx⟩ := h.pic q hq
      by_cases hw0 : w = 0
      · exact .pure (c_refine_xm hD hx hc.1 hq hw hw0) (r_refine_x hR hx) h
      · exact .pure (c_refine_xy hD hx hc.1 hq hw (by omega)) (r_refine_x hR hx) h
    · exact .pure (c_refine_xx hD hx hx2) (r_refine_x hR hx) h
