/-- BOXES: the class's against the reference's -/
def bx_F (H J : Nat → Nat → Int32) (n t : Nat) : Prop := H (112 + 4 + t) 2 = vr_px (J 161) (J 160) n (nI t) ∧ H (112 + 4 + t) 3 = nI (vr_wd (J 159) (J 161) n (nI t) 2) ∧ H (112 + 4 + t) 4 = vr_so (J 159) (J 161) n (nI t) ∧ H (112 + 4 + t) 5 = J 159 (vr_fi (J 161) n (nI t))
def bx_Q (H J : Nat → Nat → Int32) (n nb : Nat) (X Y : Nat → Nat) : Prop := (n ≤ 144 ∧ sp_so (J 159) n ∧ (∀ i, i < n → sp_col (J 159 i)) ∧ ∀ i, i < n → ∃ u, u < nb ∧ J 161 i = nI u) ∧ (∀ t, t < nb → (H (112 + 4 + t) 0 = nI (X t) ∧ H (112 + 4 + t) 1 = nI (Y t)) ∧ (X t < Y t ∧ Y t ≤ n) ∧ bx_S (H 113) (H 114) (X t) (Y t - X t) (J 159) (J 160) (J 161) (nI t) n ∧ bx_F H J n t) ∧ ∀ t u, t < nb → u < nb → t ≠ u → Y t ≤ X u ∨ Y u ≤ X t
def bx_R (H J : Nat → Nat → Int32) (n nb : Nat) : Prop := ∃ X Y, bx_Q H J n nb X Y
theorem bx_one : ∀ m, sp_sum (fun _ => 1) m = nI m
  | 0 => rfl
  | m + 1 => by
    show sp_sum (fun _ => 1) m + 1 = _
    rw [bx_one m]
    exact vm_pa rfl (y := 1) (b := 1) rfl
theorem bx_spl (a : Nat → Int32) (s : Nat) : ∀ m, sp_sum a (s + m) = sp_sum a s + sp_sum (fun u => a (s + u)) m
  | 0 => (Int32.add_zero _).symm
  | m + 1 => by
    show sp_sum a (s + m) + a (s + m) = sp_sum a s + (sp_sum (fun u => a (s + u)) m + a (s + m))
    rw [bx_spl a s m, Int32.add_assoc]
theorem bx_md {F h : Nat → Int32} {o : Nat → Nat} {p : Int32} {x y m : Nat} (hm : y - x = m) (h2 : 2 ≤ m) (hF : ∀ u, u < m → F (x + u) = h (o u)) : sp_md F p x y = x + vr_sd h o m p ∧ 1 ≤ vr_sd h o m p ∧ vr_sd h o m p < m := by
  have e : ∀ t, t < m → sp_sum (fun i => F (x + i)) (t + 1) = sp_sum (fun i => h (o i)) (t + 1) := fun t ht => sp_sum_ext fun k hk => hF k (by omega)
  have q : ∀ t, t < m → ((p ≤ 2 * sp_sum (fun i => F (x + i)) (t + 1)) ↔ ¬ 2 * sp_sum (fun i => h (o i)) (t + 1) < p) := fun t ht => by
    rw [e t ht]
    exact Int32.not_lt.symm
  unfold sp_md vr_sd
  rcases cl_fst (fun t => ¬ 2 * sp_sum (fun i => h (o i)) (t + 1) < p) (m - 2) with a | ⟨j, hj, a, b⟩
  · rw [sp_fi_none a]
    refine ⟨?_, by omega, by omega⟩
    by_cases c : p ≤ 2 * sp_sum (fun i => F (x + i)) (m - 2 + 1)
    · have e2 : sp_fi (fun t => p ≤ 2 * sp_sum (fun i => F (x + i)) (t + 1)) (y - 1 - x) = m - 2 := sp_fi_hit (by omega) (fun k hk z => a k hk ((q k (by omega)).mp z)) c
      rw [e2, if_pos (by omega)]
      omega
    · have e2 : sp_fi (fun t => p ≤ 2 * sp_sum (fun i => F (x + i)) (t + 1)) (y - 1 - x) = y - 1 - x := sp_fi_none fun k hk z => by
        by_cases d : k = m - 2
        · exact c (d ▸ z)
        · exact a k (by omega) ((q k (by omega)).mp z)
      rw [e2, if_neg (by omega)]
      omega
  · have e1 : sp_fi (fun t => ¬ 2 * sp_sum (fun i => h (o i)) (t + 1) < p) (m - 2) = j := sp_fi_hit hj b a
    have e2 : sp_fi (fun t => p ≤ 2 * sp_sum (fun i => F (x + i)) (t + 1)) (y - 1 - x) = j := sp_fi_hit (by omega) (fun k hk z => b k hk ((q k (by omega)).mp z)) ((q j (by omega)).mpr a)
    rw [e1, e2, if_pos (by omega)]
    refine ⟨by omega, by omega, by omega⟩
theorem bx_cut {H J : Nat → Nat → Int32} {n nb t : Nat} {X Y : Nat → Nat} (R : bx_Q H J n nb X Y) (ht : t < nb) (hnb : nb < 16) (h1 : X t + 1 < Y t) : bx_R (vm_ct1 H 112 nb t (X t) (Y t)) (vr_cb J n nb (nI t)) n (nb + 1) := by
  obtain ⟨⟨hn, hf, hc, hmk⟩, hQ, hD⟩ := R
  obtain ⟨⟨f0, f1⟩, ⟨hxy, hyn⟩, S, F2, F3, F4, F5⟩ := hQ t ht
  -- the order
  have hor : ∀ a : Nat → Int32, sp_sum (fun p => a ((vr_ol J n (nI t)).1 p)) (vr_ol J n (nI t)).2 = sp_sum (fun i => if J 161 i = nI t then a i else 0) n := fun a => bx_or _ _ _ _ a n
  have hb := vr_or_b (J 159) (J 161) (nI t) (nI (vr_wd (J 159) (J 161) n (nI t) 2)) n
  have hinj := vr_or_i (J 159) (J 161) (nI t) (nI (vr_wd (J 159) (J 161) n (nI t) 2)) n
  have hm : (vr_ol J n (nI t)).2 = Y t - X t := by
    have a := hor fun _ => 1
    have b := S fun _ _ => 1
    rw [← b, bx_one, bx_one] at a
    have : (vr_ol J n (nI t)).2 ≤ n := hb.1
    exact cl_nI a (by omega) (by omega)
  generalize ho : (vr_ol J n (nI t)).1 = o at *
  have ho1 : ∀ p, p < Y t - X t → o p < n ∧ J 161 (o p) = nI t := fun p hp => by
    rw [← ho]
    exact hb.2 p (by show p < (vr_ol J n (nI t)).2; omega)
  have hi1 : ∀ p q, p < Y t - X t → q < Y t - X t → o p = o q → p = q := fun p q hp hq e => by
    rw [← ho] at e
    exact hinj p q (by show p < (vr_ol J n (nI t)).2; omega) (by show q < (vr_ol J n (nI t)).2; omega) e
  have hs1 : ∀ p q, p < q → q < Y t - X t → bx_ky (nI (vr_wd (J 159) (J 161) n (nI t) 2)) (J 159 (o p)) ≤ bx_ky (nI (vr_wd (J 159) (J 161) n (nI t) 2)) (J 159 (o q)) := fun p q hpq hq => by
    rw [← ho]
    exact bx_ors _ hf n (Nat.le_refl n) p q hpq (by show q < (vr_ol J n (nI t)).2; omega)
  -- the sort
  obtain ⟨i1, i2, i3⟩ := bx_srt H (a := 113) (b := 114) (x := X t) (nI (vr_wd (J 159) (J 161) n (nI t) 2)) (by decide) (Y t - 1 - X t)
  have s0 : ∀ q, q ≠ 113 → q ≠ 114 → vm_srt H 113 114 (nI (vr_wd (J 159) (J 161) n (nI t) 2)) (X t) (Y t - 1 - X t) q = H q := fun q h1 h2 => vm_srt_o _ _ _ _ _ _ h1 h2 _
  have eC : vm_ct1 H 112 nb t (X t) (Y t) = vm_opn (vm_msr (vm_up (vm_srt H 113 114 (H (112 + 4 + t) 3) (X t) (Y t - 1 - X t)) (112 + 4 + t) 1 (nI (sp_md (vm_srt H 113 114 (H (112 + 4 + t) 3) (X t) (Y t - 1 - X t) 114) (vm_srt H 113 114 (H (112 + 4 + t) 3) (X t) (Y t - 1 - X t) (112 + 4 + t) 2) (X t) (Y t)))) 112 (112 + 4 + t) (X t) (sp_md (vm_srt H 113 114 (H (112 + 4 + t) 3) (X t) (Y t - 1 - X t) 114) (vm_srt H 113 114 (H (112 + 4 + t) 3) (X t) (Y t - 1 - X t) (112 + 4 + t) 2) (X t) (Y t) - X t)) 112 nb (sp_md (vm_srt H 113 114 (H (112 + 4 + t) 3) (X t) (Y t - 1 - X t) 114) (vm_srt H 113 114 (H (112 + 4 + t) 3) (X t) (Y t - 1 - X t) (112 + 4 + t) 2) (X t) (Y t)) (Y t) := rfl
  rw [eC, F3]
  have sf2 : vm_srt H 113 114 (nI (vr_wd (J 159) (J 161) n (nI t) 2)) (X t) (Y t - 1 - X t) (112 + 4 + t) 2 = vr_px (J 161) (J 160) n (nI t) := by rw [s0 _ (by omega) (by omega), F2]
  have sf0 : ∀ u k, vm_srt H 113 114 (nI (vr_wd (J 159) (J 161) n (nI t) 2)) (X t) (Y t - 1 - X t) (112 + 4 + u) k = H (112 + 4 + u) k := fun u k => by rw [s0 _ (by omega) (by omega)]
  rw [sf2]
  generalize vm_srt H 113 114 (nI (vr_wd (J 159) (J 161) n (nI t) 2)) (X t) (Y t - 1 - X t) = Z at *
  have S' : bx_S (Z 113) (Z 114) (X t) (Y t - X t) (J 159) (J 160) (J 161) (nI t) n := fun φ => (i2 φ (Y t - X t) (by omega)).trans (S φ)
  have sq : ∀ u, u < Y t - X t → Z 113 (X t + u) = J 159 (o u) ∧ Z 114 (X t + u) = J 160 (o u) := fun u hu => bx_sq S' (fun a => by
    have := hor a
    rw [hm] at this
    exact this) (by omega) hn (fun i j h1 h2 => i3 i j h1 (by omega)) hs1 hf ho1 hi1 hu
  obtain ⟨em, es1, es2⟩ := bx_md (F := Z 114) (h := J 160) (o := o) (p := vr_px (J 161) (J 160) n (nI t)) (x := X t) (y := Y t) rfl (by omega) fun u hu => (sq u hu).2
  have ecs : vr_cs_ J n (nI t) = vr_sd (J 160) o (Y t - X t) (vr_px (J 161) (J 160) n (nI t)) := by
    unfold vr_cs_
    rw [ho, hm]
  have eB : vr_cb J n nb (nI t) = vm_up (vr_mk (vr_cO J n (nI t)) o (nI nb) (vr_cs_ J n (nI t)) (Y t - X t - vr_cs_ J n (nI t))) 152 19 (nI (nb + 1)) := by
    unfold vr_cb
    rw [ho, hm]
  rw [em]
  rw [← ecs] at es1 es2 ⊢
  generalize hsd : vr_cs_ J n (nI t) = s at *
  -- the reference's rows after
  have jO : ∀ a, a ≠ 162 → vr_cO J n (nI t) a = J a := fun a ha => vr_cO_o _ _ _ _ ha
  have j9 : vr_cb J n nb (nI t) 159 = J 159 := vr_cb_o _ _ _ _ _ (by decide) (by decide) (by decide)
  have j0 : vr_cb J n nb (nI t) 160 = J 160 := vr_cb_o _ _ _ _ _ (by decide) (by decide) (by decide)
  have j1 : vr_cb J n nb (nI t) 161 = vr_mk (vr_cO J n (nI t)) o (nI nb) s (Y t - X t - s) 161 := by
    rw [eB]
    exact vm_up_f _ _ _ _ _ (by decide)
  have nt : nI t ≠ nI nb := fun z => by
    have := cl_nI z (by omega) (by omega)
    omega
  have mkS : ∀ a : Nat → Int32, sp_sum (fun i => if vr_cb J n nb (nI t) 161 i = nI t then a i else 0) n + sp_sum (fun w => a (o (s + w))) (Y t - X t - s) = sp_sum (fun i => if J 161 i = nI t then a i else 0) n ∧ sp_sum (fun i => if vr_cb J n nb (nI t) 161 i = nI nb then a i else 0) n = sp_sum (fun w => a (o (s + w))) (Y t - X t - s) := fun a => by
    have := bx_mk (J := vr_cO J n (nI t)) (o := o) (v := nI t) (w := nI nb) (m := Y t - X t) (n := n) (s := s) (fun i hi z => by
      rw [jO 161 (by decide)] at z
      obtain ⟨u, hu, e⟩ := hmk i hi
      have := cl_nI (e.symm.trans z) (by omega) (by omega)
      omega) (fun p hp => by
      rw [jO 161 (by decide)]
      exact ho1 p hp) hi1 nt a (u := Y t - X t - s) (by omega)
    rw [j1]
    rw [jO 161 (by decide)] at this
    exact this
  have mkT : ∀ a : Nat → Int32, sp_sum (fun i => if vr_cb J n nb (nI t) 161 i = nI t then a i else 0) n = sp_sum (fun w => a (o w)) s := fun a => by
    have e := (mkS a).1
    have h2 := hor a
    rw [hm, show Y t - X t = s + (Y t - X t - s) by omega, bx_spl (fun p => a (o p))] at h2
    rw [← h2] at e
    exact (Int32.add_left_inj _).mp e
  have mkO : ∀ i, i < n → (∃ w, w < Y t - X t - s ∧ o (s + w) = i ∧ vr_cb J n nb (nI t) 161 i = nI nb) ∨ vr_cb J n nb (nI t) 161 i = J 161 i := fun i hi => by
    by_cases c : ∃ w, w < Y t - X t - s ∧ o (s + w) = i
    · obtain ⟨w, hw, e⟩ := c
      refine Or.inl ⟨w, hw, e, ?_⟩
      rw [j1, ← e]
      exact vr_mk_y hw
    · refine Or.inr ?_
      rw [j1, vr_mk_n fun w hw z => c ⟨w, hw, z⟩, jO 161 (by decide)]
  have mkU : ∀ u, u < nb → u ≠ t → ∀ i, i < n → (vr_cb J n nb (nI t) 161 i = nI u ↔ J 161 i = nI u) := fun u hu hut i hi => by
    rcases mkO i hi with ⟨w, hw, e, e2⟩ | e
    · rw [e2, ← e, (ho1 _ (by omega)).2]
      constructor
      · intro z
        have := cl_nI z (by omega) (by omega)
        omega
      · intro z
        exact absurd (cl_nI z (by omega) (by omega)).symm hut
    · rw [e]
  -- the class's rows after
  have k3 : ∀ (K : Nat → Nat → Int32) (x y q : Nat), q ≠ 112 → q ≠ 112 + 4 + nb → vm_opn K 112 nb x y q = K q := fun K x y q h1 h2 => funext fun k => vm_opn_o _ _ _ _ _ _ h1 h2 k
  have k4 : ∀ (K : Nat → Nat → Int32) (b x m q : Nat), q ≠ b → vm_msr K 112 b x m q = K q := fun K b x m q h1 => funext fun k => vm_msr_o _ _ _ _ _ _ h1 k
  have o3 : ∀ q, q = 113 ∨ q = 114 → vm_msr (vm_up Z (112 + 4 + t) 1 (nI (X t + s))) 112 (112 + 4 + t) (X t) (X t + s - X t) q = Z q := fun q hq => by rw [k4 _ _ _ _ _ (by omega), vm_up_f _ _ _ _ _ (by omega)]
  have p3 : ∀ q, q = 113 ∨ q = 114 → vm_opn (vm_msr (vm_up Z (112 + 4 + t) 1 (nI (X t + s))) 112 (112 + 4 + t) (X t) (X t + s - X t)) 112 nb (X t + s) (Y t) q = Z q := fun q hq => (k3 _ _ _ _ (by omega) (by omega)).trans (o3 q hq)
  have St : bx_S (Z 113) (Z 114) (X t) s (J 159) (J 160) (vr_cb J n nb (nI t) 161) (nI t) n := fun φ => by
    rw [mkT]
    exact sp_sum_ext fun u hu => by rw [(sq u (by omega)).1, (sq u (by omega)).2]
  have Sn : bx_S (Z 113) (Z 114) (X t + s) (Y t - (X t + s)) (J 159) (J 160) (vr_cb J n nb (nI t) 161) (nI nb) n := fun φ => by
    rw [(mkS _).2, show Y t - (X t + s) = Y t - X t - s by omega]
    exact sp_sum_ext fun u hu => by rw [Nat.add_assoc, (sq (s + u) (by omega)).1, (sq (s + u) (by omega)).2]
  refine ⟨fun u => if u = nb then X t + s else X u, fun u => if u = nb then Y t else if u = t then X t + s else Y u, ⟨hn, ?_, ?_, ?_⟩, fun u hu => ?_, fun u v hu hv huv => ?_⟩
  · rw [j9]
    exact hf
  · rw [j9]
    exact hc
  · intro i hi
    rcases mkO i hi with ⟨w, hw, e, e2⟩ | e
    · exact ⟨nb, Nat.lt_succ_self nb, e2⟩
    · obtain ⟨u, hu, e2⟩ := hmk i hi
      exact ⟨u, by omega, e.trans e2⟩
  · unfold bx_F
    dsimp only
    rw [p3 113 (Or.inl rfl), p3 114 (Or.inr rfl), j9, j0]
    by_cases e : u = nb
    · subst e
      rw [if_pos rfl, if_pos rfl]
      have M := bx_meas (I := vm_up (vm_up (vm_msr (vm_up Z (112 + 4 + t) 1 (nI (X t + s))) 112 (112 + 4 + t) (X t) (X t + s - X t)) (112 + 4 + u) 0 (nI (X t + s))) (112 + 4 + u) 1 (nI (Y t))) (b := 112 + 4 + u) (x := X t + s) (m := Y t - (X t + s)) (n := n) (f := J 159) (h := J 160) (g := vr_cb J n u (nI t) 161) (v := nI u) (by omega) (by omega) (by
        rw [vm_up_f _ _ _ _ _ (by omega), vm_up_f _ _ _ _ _ (by omega), o3 _ (Or.inl rfl), vm_up_f _ _ _ _ _ (by omega), vm_up_f _ _ _ _ _ (by omega), o3 _ (Or.inr rfl)]
        exact Sn) (by omega) (by omega) hn hf hc
      have u1 : ∀ k, vm_opn (vm_msr (vm_up Z (112 + 4 + t) 1 (nI (X t + s))) 112 (112 + 4 + t) (X t) (X t + s - X t)) 112 u (X t + s) (Y t) (112 + 4 + u) k = vm_msr (vm_up (vm_up (vm_msr (vm_up Z (112 + 4 + t) 1 (nI (X t + s))) 112 (112 + 4 + t) (X t) (X t + s - X t)) (112 + 4 + u) 0 (nI (X t + s))) (112 + 4 + u) 1 (nI (Y t))) 112 (112 + 4 + u) (X t + s) (Y t - (X t + s)) (112 + 4 + u) k := fun k => vm_up_o2 _ _ _ _ _ _ (by omega)
      rw [u1, u1, u1, u1, u1, u1]
      refine ⟨⟨?_, ?_⟩, ⟨by omega, hyn⟩, Sn, M⟩
      · rw [vm_msr_k _ _ _ _ _ _ (by decide) (by decide) (by decide) (by decide), vm_up_k2 _ _ _ _ _ (by decide), vm_up_h]
      · rw [vm_msr_k _ _ _ _ _ _ (by decide) (by decide) (by decide) (by decide), vm_up_h]
    · rw [if_neg e, if_neg e]
      have u1 : ∀ k, vm_opn (vm_msr (vm_up Z (112 + 4 + t) 1 (nI (X t + s))) 112 (112 + 4 + t) (X t) (X t + s - X t)) 112 nb (X t + s) (Y t) (112 + 4 + u) k = vm_msr (vm_up Z (112 + 4 + t) 1 (nI (X t + s))) 112 (112 + 4 + t) (X t) (X t + s - X t) (112 + 4 + u) k := fun k => by rw [k3 _ _ _ _ (by omega) (by omega)]
      by_cases e2 : u = t
      · subst e2
        rw [if_pos rfl, u1, u1, u1, u1, u1, u1]
        have M := bx_meas (I := vm_up Z (112 + 4 + u) 1 (nI (X u + s))) (b := 112 + 4 + u) (x := X u) (m := X u + s - X u) (n := n) (f := J 159) (h := J 160) (g := vr_cb J n nb (nI u) 161) (v := nI u) (by omega) (by omega) (by
          rw [vm_up_f _ _ _ _ _ (by omega), vm_up_f _ _ _ _ _ (by omega), Nat.add_sub_cancel_left]
          exact St) (by omega) (by omega) hn hf hc
        refine ⟨⟨?_, ?_⟩, ⟨by omega, by omega⟩, ?_, M⟩
        · rw [vm_msr_k _ _ _ _ _ _ (by decide) (by decide) (by decide) (by decide), vm_up_k2 _ _ _ _ _ (by decide), sf0]
          exact f0
        · rw [vm_msr_k _ _ _ _ _ _ (by decide) (by decide) (by decide) (by decide), vm_up_h]
        · rw [Nat.add_sub_cancel_left]
          exact St
      · rw [if_neg e2]
        have u2 : ∀ k, vm_msr (vm_up Z (112 + 4 + t) 1 (nI (X t + s))) 112 (112 + 4 + t) (X t) (X t + s - X t) (112 + 4 + u) k = H (112 + 4 + u) k := fun k => by rw [k4 _ _ _ _ _ (by omega), vm_up_f _ _ _ _ _ (by omega), sf0]
        rw [u1, u1, u1, u1, u1, u1, u2, u2, u2, u2, u2, u2]
        obtain ⟨g1, g2, g3, g4⟩ := hQ u (by omega)
        have mu := mkU u (by omega) e2
        obtain ⟨c1, c2, c3, c4⟩ := bx_gc (f := J 159) (h := J 160) mu
        rw [c1, c2, c3, c4]
        refine ⟨g1, g2, fun φ => ?_, g4⟩
        have dj := hD u t (by omega) ht e2
        refine Eq.trans (sp_sum_ext fun w hw => ?_) ((g3 φ).trans (sp_sum_ext fun i hi => ?_))
        · have := i1 (X u + w) (by omega)
          rw [this.1, this.2]
        · by_cases d : J 161 i = nI u
          · rw [if_pos d, if_pos ((mu i hi).mpr d)]
          · rw [if_neg d, if_neg fun z => d ((mu i hi).mp z)]
  · show (if u = nb then Y t else if u = t then X t + s else Y u) ≤ (if v = nb then X t + s else X v) ∨ (if v = nb then Y t else if v = t then X t + s else Y v) ≤ (if u = nb then X t + s else X u)
    by_cases e : u = nb
    · rw [if_pos e, if_pos e, if_neg (by omega), if_neg (by omega)]
      by_cases d : v = t
      · rw [if_pos d]
        exact Or.inr (Nat.le_refl _)
      · rw [if_neg d]
        have := hD v t (by omega) ht d
        omega
    · rw [if_neg e, if_neg e]
      by_cases d : v = nb
      · rw [if_pos d, if_pos d]
        by_cases c : u = t
        · rw [if_pos c]
          exact Or.inl (Nat.le_refl _)
        · rw [if_neg c]
          have := hD u t (by omega) ht c
          omega
      · rw [if_neg d, if_neg d]
        have q := hD u v (by omega) (by omega) huv
        by_cases c : u = t
        · subst c
          rw [if_pos rfl, if_neg (Ne.symm huv)]
          omega
        · rw [if_neg c]
          by_cases c2 : v = t
          · subst c2
            rw [if_pos rfl]
            omega
          · rw [if_neg c2]
            exact q
