/-- BOXES: cut of a picture on both sides -/
theorem bx_st {A K : Nat → Nat → Int32} {n : Nat} (h : tl_R A K n) (hc : ∀ i, i < n → sp_col (K 159 i)) (h0 : 0 < n) (hn : n ≤ 144) : bx_R (vm_opn (vm_up A 112 4 0) 112 0 0 n) (vm_up (vm_wr K 161 (fun _ => 0) n) 152 19 1) n 1 := by
  have j9 : vm_up (vm_wr K 161 (fun _ => 0) n) 152 19 1 159 = K 159 := (vm_up_f _ _ _ _ _ (by decide)).trans (vm_wr_o _ _ _ _ _ (by decide))
  have j0 : vm_up (vm_wr K 161 (fun _ => 0) n) 152 19 1 160 = K 160 := (vm_up_f _ _ _ _ _ (by decide)).trans (vm_wr_o _ _ _ _ _ (by decide))
  have j1 : ∀ i, i < n → vm_up (vm_wr K 161 (fun _ => 0) n) 152 19 1 161 i = 0 := fun i hi => by
    rw [vm_up_f _ _ _ _ _ (by decide)]
    unfold vm_wr
    simp [hi]
  have r3 : ∀ q, q = 113 ∨ q = 114 → vm_opn (vm_up A 112 4 0) 112 0 0 n q = A q := fun q hq => funext fun k => by
    rw [vm_opn_o _ _ _ _ _ _ (by omega) (by omega), vm_up_f _ _ _ _ _ (by omega)]
  have S : bx_S (A 113) (A 114) 0 (n - 0) (K 159) (K 160) (vm_up (vm_wr K 161 (fun _ => 0) n) 152 19 1 161) (nI 0) n := fun φ => sp_sum_ext fun u hu => by
    rw [j1 u hu, if_pos (show (0 : Int32) = nI 0 from rfl), Nat.zero_add, (h.2 u hu).1, (h.2 u hu).2]
  have M := bx_meas (I := vm_up (vm_up (vm_up A 112 4 0) (112 + 4 + 0) 0 (nI 0)) (112 + 4 + 0) 1 (nI n)) (b := 112 + 4 + 0) (x := 0) (m := n - 0) (n := n) (f := K 159) (h := K 160) (g := vm_up (vm_wr K 161 (fun _ => 0) n) 152 19 1 161) (v := nI 0) (by decide) (by decide) (by
    rw [vm_up_f _ _ _ _ _ (by decide), vm_up_f _ _ _ _ _ (by decide), vm_up_f _ _ _ _ _ (by decide), vm_up_f _ _ _ _ _ (by decide), vm_up_f _ _ _ _ _ (by decide), vm_up_f _ _ _ _ _ (by decide)]
    exact S) h0 (by omega) hn (fun i j hij hj => by
      rw [← (h.2 i (by omega)).1, ← (h.2 j hj).1]
      exact h.1 i j hij hj) hc
  have u1 : ∀ k, vm_opn (vm_up A 112 4 0) 112 0 0 n (112 + 4 + 0) k = vm_msr (vm_up (vm_up (vm_up A 112 4 0) (112 + 4 + 0) 0 (nI 0)) (112 + 4 + 0) 1 (nI n)) 112 (112 + 4 + 0) 0 (n - 0) (112 + 4 + 0) k := fun k => vm_up_o2 _ _ _ _ _ _ (by decide)
  refine ⟨fun _ => 0, fun _ => n, ⟨hn, ?_, ?_, ?_⟩, fun t ht => ?_, fun t u ht hu htu => by omega⟩
  · rw [j9]
    intro i j hij hj
    rw [← (h.2 i (by omega)).1, ← (h.2 j hj).1]
    exact h.1 i j hij hj
  · rw [j9]
    exact hc
  · exact fun i hi => ⟨0, Nat.one_pos, j1 i hi⟩
  · have : t = 0 := by omega
    subst this
    unfold bx_F
    rw [r3 113 (Or.inl rfl), r3 114 (Or.inr rfl), j9, j0, u1, u1, u1, u1, u1, u1]
    refine ⟨⟨?_, ?_⟩, ⟨h0, Nat.le_refl n⟩, S, M⟩
    · rw [vm_msr_k _ _ _ _ _ _ (by decide) (by decide) (by decide) (by decide), vm_up_k2 _ _ _ _ _ (by decide), vm_up_h]
    · rw [vm_msr_k _ _ _ _ _ _ (by decide) (by decide) (by decide) (by decide), vm_up_h]
theorem bx_vc {I J : Nat → Nat → Int32} {pa N k : Nat} {g : Nat → Int32} (he : ∀ u, u < N → I pa u = g u) (hg : ∀ u, u < N → sp_col (g u)) (h0 : 0 < N) (hN : N ≤ 144) (hk0 : 0 < k) (hk : k ≤ 16) : (vm_gth I 112 (I pa) N).2 = (vr_gth J g N).2 ∧ (vc_cut I pa N k).2 = (vr_cut J g N k).2 ∧ bx_R (vc_cut I pa N k).1 (vr_cut J g N k).1 (vr_gth J g N).2 (vr_cut J g N k).2 := by
  obtain ⟨e1, e2⟩ := tl_gth I J he
  have hp := vr_gth_p J g h0
  have hl := (vr_gth_n J g N).2
  have R := bx_st e2 (tl_col J hg) hp (by omega)
  have ib := vc_cut_0 (I := I) (pa := pa) h0 hN
  rw [e1] at ib
  have := bx_sim R ib (k - 1) (by omega)
  refine ⟨e1, ?_⟩
  unfold vc_cut
  rw [e1]
  exact this
theorem bx_at {H J : Nat → Nat → Int32} {n nb : Nat} (R : bx_R H J n nb) (hnb : nb ≤ 16) (i : Int32) : vm_bxa H 112 nb i = vr_ba (J 161) n nb i := by
  obtain ⟨X, Y, ⟨hn, hf, -, -⟩, hQ, -⟩ := R
  refine sp_fi_c fun t ht => ?_
  have e : sp_sum (fun u => if H (112 + 4 + u) 5 < H (112 + 4 + t) 5 then (1 : Int32) else 0) nb = sp_sum (fun u_ => if vr_fi (J 161) n (nI u_) < vr_fi (J 161) n (nI t) then (1 : Int32) else 0) nb := sp_sum_ext fun u hu => by
    obtain ⟨-, ⟨x1, x2⟩, S, -, -, -, F5⟩ := hQ t ht
    obtain ⟨-, ⟨y1, y2⟩, S2, -, -, -, G5⟩ := hQ u hu
    have b1 := bx_fi S (by omega) (by omega) hn
    have b2 := bx_fi S2 (by omega) (by omega) hn
    have q : H (112 + 4 + u) 5 < H (112 + 4 + t) 5 ↔ vr_fi (J 161) n (nI u) < vr_fi (J 161) n (nI t) := by
      rw [F5, G5]
      constructor
      · intro z
        by_cases c : vr_fi (J 161) n (nI u) < vr_fi (J 161) n (nI t)
        · exact c
        · by_cases d : vr_fi (J 161) n (nI u) = vr_fi (J 161) n (nI t)
          · rw [d] at z
            exact absurd z (cl_lti _)
          · exact absurd (cl_ltr z (hf _ _ (by omega) b2.1)) (cl_lti _)
      · exact fun z => hf _ _ z b1.1
    by_cases c : vr_fi (J 161) n (nI u) < vr_fi (J 161) n (nI t)
    · rw [if_pos c, if_pos (q.mpr c)]
    · rw [if_neg c, if_neg fun z => c (q.mp z)]
  rw [e]
theorem bx_mean {H J : Nat → Nat → Int32} {n nb t : Nat} (R : bx_R H J n nb) (ht : t < nb) : vm_bm H 112 t = vr_cm (J 159) (J 161) (J 160) n (nI t) 3 := by
  obtain ⟨X, Y, ⟨hn, -, -, -⟩, hQ, -⟩ := R
  obtain ⟨⟨f0, f1⟩, ⟨x1, x2⟩, S, F2, -, -, -⟩ := hQ t ht
  have e := vm_bm_e f0 f1 (by omega) (by omega)
  rw [← e, F2]
  have s : ∀ k, sp_cs H 112 (X t) (Y t - X t) k = vr_cs (J 159) (J 161) (J 160) n (nI t) k := fun k => by
    refine (S fun a b => sp_ch a k * b).trans (sp_sum_ext fun i hi => ?_)
    rw [Int32.mul_comm]
  have m : ∀ c, sp_cm H 112 (X t) (Y t - X t) (vr_px (J 161) (J 160) n (nI t)) c = vr_cm (J 159) (J 161) (J 160) n (nI t) c := by
    intro c
    induction c with
    | zero => rfl
    | succ c ih =>
      show sp_cm H 112 (X t) (Y t - X t) (vr_px (J 161) (J 160) n (nI t)) c * 64 + sp_rd (sp_cs H 112 (X t) (Y t - X t) (nI c)) (vr_px (J 161) (J 160) n (nI t)) = 64 * vr_cm (J 159) (J 161) (J 160) n (nI t) c + sp_rd (vr_cs (J 159) (J 161) (J 160) n (nI t) (nI c)) (vr_px (J 161) (J 160) n (nI t))
      rw [ih, s, Int32.mul_comm]
  exact m 3
theorem bx_ans {H J : Nat → Nat → Int32} {n nb t : Nat} (R : bx_R H J n nb) (ht : t < nb) : H (112 + 4 + t) 2 = vr_px (J 161) (J 160) n (nI t) ∧ H (112 + 4 + t) 1 - H (112 + 4 + t) 0 = vr_co (J 161) n (nI t) ∧ H (112 + 4 + t) 4 = vr_so (J 159) (J 161) n (nI t) ∧ H (112 + 4 + t) 5 = J 159 (vr_fi (J 161) n (nI t)) := by
  obtain ⟨X, Y, ⟨hn, -, -, -⟩, hQ, -⟩ := R
  obtain ⟨⟨f0, f1⟩, ⟨x1, x2⟩, S, F2, -, F4, F5⟩ := hQ t ht
  refine ⟨F2, ?_, F4, F5⟩
  have e := S fun _ _ => 1
  rw [bx_one] at e
  rw [f0, f1, vm_ps (x := nI (Y t)) (y := nI (X t)) (a := Y t) (b := X t) rfl rfl (by omega)]
  exact e
theorem bx_mnr (J : vm_IH) (g : Nat → Int32) (N k : Nat) : ∀ x z, cl_mn x z → (vr_cut J g N k).1 x z = J x z := fun x z hm => by
  by_cases e : x = 152
  · subst e
    exact vr_cut_k _ _ _ _ _ (by unfold cl_mn at hm; omega) (by unfold cl_mn at hm; omega)
  · exact congrFun (vr_cut_o _ _ _ _ _ e (by unfold cl_mn at hm; omega) (by unfold cl_mn at hm; omega) (by unfold cl_mn at hm; omega) (by unfold cl_mn at hm; omega)) z
theorem bx_mnc_ (I : vm_IH) {pa N k : Nat} (h0 : 0 < N) (hN : N ≤ 144) (hk : k ≤ 16) : ∀ x z, cl_mn x z → (vc_cut I pa N k).1 x z = I x z := fun x z hm => congrFun (vc_cut_o x h0 hN hk (by unfold cl_mn at hm; omega)) z
theorem vm_up_id (I : vm_IH) (o k : Nat) : vm_up I o k (I o k) = I := by
  funext a b
  unfold vm_up
  by_cases e : a = o
  · rw [if_pos e]
    by_cases f : b = k
    · rw [if_pos f, e, f]
    · rw [if_neg f]
  · rw [if_neg e]
theorem Rel_wk {I : vm_IH} {F : vm_FH} (h : Rel I F) {u : Nat} (hu : u ≤ 6000) : Rel (vm_up (vm_up I 0 8 (nI u)) 152 10 (nI u)) F := ⟨Rpic_r h.pic (fun a_ _ _ => (by simp (disch := omega) only [vm_up_f, vm_up_k2, vm_up_h, vm_wq_o, vm_wq_x, vm_wq_i, vm_zc_f, vm_zc_h, vm_wr_o, vm_rm, vm_app, vm_cp_f, vm_cp_h, vm_bA, Nat.add_zero])) (by simp (disch := omega) only [vm_up_f, vm_up_k2, vm_up_h, vm_wq_o, vm_wq_x, vm_wq_i, vm_zc_f, vm_zc_h, vm_wr_o, vm_rm, vm_app, vm_cp_f, vm_cp_h, vm_bA, Nat.add_zero]) (by simp (disch := omega) only [vm_up_f, vm_up_k2, vm_up_h, vm_wq_o, vm_wq_x, vm_wq_i, vm_zc_f, vm_zc_h, vm_wr_o, vm_rm, vm_app, vm_cp_f, vm_cp_h, vm_bA, Nat.add_zero]) (by simp (disch := omega) only [vm_up_f, vm_up_k2, vm_up_h, vm_wq_o, vm_wq_x, vm_wq_i, vm_zc_f, vm_zc_h, vm_wr_o, vm_rm, vm_app, vm_cp_f, vm_cp_h, vm_bA, Nat.add_zero]), Rpal_r h.pal (fun a_ _ _ => (by simp (disch := omega) only [vm_up_f, vm_up_k2, vm_up_h, vm_wq_o, vm_wq_x, vm_wq_i, vm_zc_f, vm_zc_h, vm_wr_o, vm_rm, vm_app, vm_cp_f, vm_cp_h, vm_bA, Nat.add_zero])) (by simp (disch := omega) only [vm_up_f, vm_up_k2, vm_up_h, vm_wq_o, vm_wq_x, vm_wq_i, vm_zc_f, vm_zc_h, vm_wr_o, vm_rm, vm_app, vm_cp_f, vm_cp_h, vm_bA, Nat.add_zero]) (by simp (disch := omega) only [vm_up_f, vm_up_k2, vm_up_h, vm_wq_o, vm_wq_x, vm_wq_i, vm_zc_f, vm_zc_h, vm_wr_o, vm_rm, vm_app, vm_cp_f, vm_cp_h, vm_bA, Nat.add_zero]) (by simp (disch := omega) only [vm_up_f, vm_up_k2, vm_up_h, vm_wq_o, vm_wq_x, vm_wq_i, vm_zc_f, vm_zc_h, vm_wr_o, vm_rm, vm_app, vm_cp_f, vm_cp_h, vm_bA, Nat.add_zero]), Rrul_r h.rul (by simp (disch := omega) only [vm_up_f, vm_up_k2, vm_up_h, vm_wq_o, vm_wq_x, vm_wq_i, vm_zc_f, vm_zc_h, vm_wr_o, vm_rm, vm_app, vm_cp_f, vm_cp_h, vm_bA, Nat.add_zero]) (by simp (disch := omega) only [vm_up_f, vm_up_k2, vm_up_h, vm_wq_o, vm_wq_x, vm_wq_i, vm_zc_f, vm_zc_h, vm_wr_o, vm_rm, vm_app, vm_cp_f, vm_cp_h, vm_bA, Nat.add_zero]) (by simp (disch := omega) only [vm_up_f, vm_up_k2, vm_up_h, vm_wq_o, vm_wq_x, vm_wq_i, vm_zc_f, vm_zc_h, vm_wr_o, vm_rm, vm_app, vm_cp_f, vm_cp_h, vm_bA, Nat.add_zero]) (by simp (disch := omega) only [vm_up_f, vm_up_k2, vm_up_h, vm_wq_o, vm_wq_x, vm_wq_i, vm_zc_f, vm_zc_h, vm_wr_o, vm_rm, vm_app, vm_cp_f, vm_cp_h, vm_bA, Nat.add_zero]) (by simp (disch := omega) only [vm_up_f, vm_up_k2, vm_up_h, vm_wq_o, vm_wq_x, vm_wq_i, vm_zc_f, vm_zc_h, vm_wr_o, vm_rm, vm_app, vm_cp_f, vm_cp_h, vm_bA, Nat.add_zero]), Rsht_r h.sht (fun a_ _ _ => (by simp (disch := omega) only [vm_up_f, vm_up_k2, vm_up_h, vm_wq_o, vm_wq_x, vm_wq_i, vm_zc_f, vm_zc_h, vm_wr_o, vm_rm, vm_app, vm_cp_f, vm_cp_h, vm_bA, Nat.add_zero])) (by simp (disch := omega) only [vm_up_f, vm_up_k2, vm_up_h, vm_wq_o, vm_wq_x, vm_wq_i, vm_zc_f, vm_zc_h, vm_wr_o, vm_rm, vm_app, vm_cp_f, vm_cp_h, vm_bA, Nat.add_zero]) (by simp (disch := omega) only [vm_up_f, vm_up_k2, vm_up_h, vm_wq_o, vm_wq_x, vm_wq_i, vm_zc_f, vm_zc_h, vm_wr_o, vm_rm, vm_app, vm_cp_f, vm_cp_h, vm_bA, Nat.add_zero]) (by simp (disch := omega) only [vm_up_f, vm_up_k2, vm_up_h, vm_wq_o, vm_wq_x, vm_wq_i, vm_zc_f, vm_zc_h, vm_wr_o, vm_rm, vm_app, vm_cp_f, vm_cp_h, vm_bA, Nat.add_zero]) (by simp (disch := omega) only [vm_up_f, vm_up_k2, vm_up_h, vm_wq_o, vm_wq_x, vm_wq_i, vm_zc_f, vm_zc_h, vm_wr_o, vm_rm, vm_app, vm_cp_f, vm_cp_h, vm_bA, Nat.add_zero]) (fun k_ _ => (by simp (disch := omega) only [vm_up_f, vm_up_k2, vm_up_h, vm_wq_o, vm_wq_x, vm_wq_i, vm_zc_f, vm_zc_h, vm_wr_o, vm_rm, vm_app, vm_cp_f, vm_cp_h, vm_bA, Nat.add_zero])) (fun k_ _ => (by simp (disch := omega) only [vm_up_f, vm_up_k2, vm_up_h, vm_wq_o, vm_wq_x, vm_wq_i, vm_zc_f, vm_zc_h, vm_wr_o, vm_rm, vm_app, vm_cp_f, vm_cp_h, vm_bA, Nat.add_zero])) (fun k_ _ => (by simp (disch := omega) only [vm_up_f, vm_up_k2, vm_up_h, vm_wq_o, vm_wq_x, vm_wq_i, vm_zc_f, vm_zc_h, vm_wr_o, vm_rm, vm_app, vm_cp_f, vm_cp_h, vm_bA, Nat.add_zero])) (fun k_ _ => (by simp (disch := omega) only [vm_up_f, vm_up_k2, vm_up_h, vm_wq_o, vm_wq_x, vm_wq_i, vm_zc_f, vm_zc_h, vm_wr_o, vm_rm, vm_app, vm_cp_f, vm_cp_h, vm_bA, Nat.add_zero])), Rsee_r h.see (by simp (disch := omega) only [vm_up_f, vm_up_k2, vm_up_h, vm_wq_o, vm_wq_x, vm_wq_i, vm_zc_f, vm_zc_h, vm_wr_o, vm_rm, vm_app, vm_cp_f, vm_cp_h, vm_bA, Nat.add_zero]) (by simp (disch := omega) only [vm_up_f, vm_up_k2, vm_up_h, vm_wq_o, vm_wq_x, vm_wq_i, vm_zc_f, vm_zc_h, vm_wr_o, vm_rm, vm_app, vm_cp_f, vm_cp_h, vm_bA, Nat.add_zero]) (by simp (disch := omega) only [vm_up_f, vm_up_k2, vm_up_h, vm_wq_o, vm_wq_x, vm_wq_i, vm_zc_f, vm_zc_h, vm_wr_o, vm_rm, vm_app, vm_cp_f, vm_cp_h, vm_bA, Nat.add_zero]) (by simp (disch := omega) only [vm_up_f, vm_up_k2, vm_up_h, vm_wq_o, vm_wq_x, vm_wq_i, vm_zc_f, vm_zc_h, vm_wr_o, vm_rm, vm_app, vm_cp_f, vm_cp_h, vm_bA, Nat.add_zero]) (by simp (disch := omega) only [vm_up_f, vm_up_k2, vm_up_h, vm_wq_o, vm_wq_x, vm_wq_i, vm_zc_f, vm_zc_h, vm_wr_o, vm_rm, vm_app, vm_cp_f, vm_cp_h, vm_bA, Nat.add_zero]) (by simp (disch := omega) only [vm_up_f, vm_up_k2, vm_up_h, vm_wq_o, vm_wq_x, vm_wq_i, vm_zc_f, vm_zc_h, vm_wr_o, vm_rm, vm_app, vm_cp_f, vm_cp_h, vm_bA, Nat.add_zero]), Rpln_r h.pln (by simp (disch := omega) only [vm_up_f, vm_up_k2, vm_up_h, vm_wq_o, vm_wq_x, vm_wq_i, vm_zc_f, vm_zc_h, vm_wr_o, vm_rm, vm_app, vm_cp_f, vm_cp_h, vm_bA, Nat.add_zero]) (by simp (disch := omega) only [vm_up_f, vm_up_k2, vm_up_h, vm_wq_o, vm_wq_x, vm_wq_i, vm_zc_f, vm_zc_h, vm_wr_o, vm_rm, vm_app, vm_cp_f, vm_cp_h, vm_bA, Nat.add_zero]) (by simp (disch := omega) only [vm_up_f, vm_up_k2, vm_up_h, vm_wq_o, vm_wq_x, vm_wq_i, vm_zc_f, vm_zc_h, vm_wr_o, vm_rm, vm_app, vm_cp_f, vm_cp_h, vm_bA, Nat.add_zero]) (by simp (disch := omega) only [vm_up_f, vm_up_k2, vm_up_h, vm_wq_o, vm_wq_x, vm_wq_i, vm_zc_f, vm_zc_h, vm_wr_o, vm_rm, vm_app, vm_cp_f, vm_cp_h, vm_bA, Nat.add_zero]) (by simp (disch := omega) only [vm_up_f, vm_up_k2, vm_up_h, vm_wq_o, vm_wq_x, vm_wq_i, vm_zc_f, vm_zc_h, vm_wr_o, vm_rm, vm_app, vm_cp_f, vm_cp_h, vm_bA, Nat.add_zero]), Rbok_r h.bok (by simp (disch := omega) only [vm_up_f, vm_up_k2, vm_up_h, vm_wq_o, vm_wq_x, vm_wq_i, vm_zc_f, vm_zc_h, vm_wr_o, vm_rm, vm_app, vm_cp_f, vm_cp_h, vm_bA, Nat.add_zero]) (by simp (disch := omega) only [vm_up_f, vm_up_k2, vm_up_h, vm_wq_o, vm_wq_x, vm_wq_i, vm_zc_f, vm_zc_h, vm_wr_o, vm_rm, vm_app, vm_cp_f, vm_cp_h, vm_bA, Nat.add_zero]) (by simp (disch := omega) only [vm_up_f, vm_up_k2, vm_up_h, vm_wq_o, vm_wq_x, vm_wq_i, vm_zc_f, vm_zc_h, vm_wr_o, vm_rm, vm_app, vm_cp_f, vm_cp_h, vm_bA, Nat.add_zero]) (by simp (disch := omega) only [vm_up_f, vm_up_k2, vm_up_h, vm_wq_o, vm_wq_x, vm_wq_i, vm_zc_f, vm_zc_h, vm_wr_o, vm_rm, vm_app, vm_cp_f, vm_cp_h, vm_bA, Nat.add_zero]) (by simp (disch := omega) only [vm_up_f, vm_up_k2, vm_up_h, vm_wq_o, vm_wq_x, vm_wq_i, vm_zc_f, vm_zc_h, vm_wr_o, vm_rm, vm_app, vm_cp_f, vm_cp_h, vm_bA, Nat.add_zero]), Rmst_r h.mst (by simp (disch := omega) only [vm_up_f, vm_up_k2, vm_up_h, vm_wq_o, vm_wq_x, vm_wq_i, vm_zc_f, vm_zc_h, vm_wr_o, vm_rm, vm_app, vm_cp_f, vm_cp_h, vm_bA, Nat.add_zero]) (by simp (disch := omega) only [vm_up_f, vm_up_k2, vm_up_h, vm_wq_o, vm_wq_x, vm_wq_i, vm_zc_f, vm_zc_h, vm_wr_o, vm_rm, vm_app, vm_cp_f, vm_cp_h, vm_bA, Nat.add_zero]) (by simp (disch := omega) only [vm_up_f, vm_up_k2, vm_up_h, vm_wq_o, vm_wq_x, vm_wq_i, vm_zc_f, vm_zc_h, vm_wr_o, vm_rm, vm_app, vm_cp_f, vm_cp_h, vm_bA, Nat.add_zero]), ⟨u, hu, (congrFun (vm_up_f _ _ _ _ _ (by decide)) 8).trans (vm_up_h _ _ _ _), vm_up_h _ _ _ _⟩, Rtxt_r h.txt (by simp (disch := omega) only [vm_up_f, vm_up_k2, vm_up_h, vm_wq_o, vm_wq_x, vm_wq_i, vm_zc_f, vm_zc_h, vm_wr_o, vm_rm, vm_app, vm_cp_f, vm_cp_h, vm_bA, Nat.add_zero]) (by simp (disch := omega) only [vm_up_f, vm_up_k2, vm_up_h, vm_wq_o, vm_wq_x, vm_wq_i, vm_zc_f, vm_zc_h, vm_wr_o, vm_rm, vm_app, vm_cp_f, vm_cp_h, vm_bA, Nat.add_zero]) (by simp (disch := omega) only [vm_up_f, vm_up_k2, vm_up_h, vm_wq_o, vm_wq_x, vm_wq_i, vm_zc_f, vm_zc_h, vm_wr_o, vm_rm, vm_app, vm_cp_f, vm_cp_h, vm_bA, Nat.add_zero]) (by simp (disch := omega) only [vm_up_f, vm_up_k2, vm_up_h, vm_wq_o, vm_wq_x, vm_wq_i, vm_zc_f, vm_zc_h, vm_wr_o, vm_rm, vm_app, vm_cp_f, vm_cp_h, vm_bA, Nat.add_zero]), Rtap_r h.tap (fun a_ _ _ => (by simp (disch := omega) only [vm_up_f, vm_up_k2, vm_up_h, vm_wq_o, vm_wq_x, vm_wq_i, vm_zc_f, vm_zc_h, vm_wr_o, vm_rm, vm_app, vm_cp_f, vm_cp_h, vm_bA, Nat.add_zero])) (by simp (disch := omega) only [vm_up_f, vm_up_k2, vm_up_h, vm_wq_o, vm_wq_x, vm_wq_i, vm_zc_f, vm_zc_h, vm_wr_o, vm_rm, vm_app, vm_cp_f, vm_cp_h, vm_bA, Nat.add_zero]) (by simp (disch := omega) only [vm_up_f, vm_up_k2, vm_up_h, vm_wq_o, vm_wq_x, vm_wq_i, vm_zc_f, vm_zc_h, vm_wr_o, vm_rm, vm_app, vm_cp_f, vm_cp_h, vm_bA, Nat.add_zero]) (by simp (disch := omega) only [vm_up_f, vm_up_k2, vm_up_h, vm_wq_o, vm_wq_x, vm_wq_i, vm_zc_f, vm_zc_h, vm_wr_o, vm_rm, vm_app, vm_cp_f, vm_cp_h, vm_bA, Nat.add_zero]), Rimg_r h.img (by simp (disch := omega) only [vm_up_f, vm_up_k2, vm_up_h, vm_wq_o, vm_wq_x, vm_wq_i, vm_zc_f, vm_zc_h, vm_wr_o, vm_rm, vm_app, vm_cp_f, vm_cp_h, vm_bA, Nat.add_zero]) (by simp (disch := omega) only [vm_up_f, vm_up_k2, vm_up_h, vm_wq_o, vm_wq_x, vm_wq_i, vm_zc_f, vm_zc_h, vm_wr_o, vm_rm, vm_app, vm_cp_f, vm_cp_h, vm_bA, Nat.add_zero]) (fun a_ _ _ => (by simp (disch := omega) only [vm_up_f, vm_up_k2, vm_up_h, vm_wq_o, vm_wq_x, vm_wq_i, vm_zc_f, vm_zc_h, vm_wr_o, vm_rm, vm_app, vm_cp_f, vm_cp_h, vm_bA, Nat.add_zero])) (by simp (disch := omega) only [vm_up_f, vm_up_k2, vm_up_h, vm_wq_o, vm_wq_x, vm_wq_i, vm_zc_f, vm_zc_h, vm_wr_o, vm_rm, vm_app, vm_cp_f, vm_cp_h, vm_bA, Nat.add_zero]) (fun k_ _ => (by simp (disch := omega) only [vm_up_f, vm_up_k2, vm_up_h, vm_wq_o, vm_wq_x, vm_wq_i, vm_zc_f, vm_zc_h, vm_wr_o, vm_rm, vm_app, vm_cp_f, vm_cp_h, vm_bA, Nat.add_zero])) (by simp (disch := omega) only [vm_up_f, vm_up_k2, vm_up_h, vm_wq_o, vm_wq_x, vm_wq_i, vm_zc_f, vm_zc_h, vm_wr_o, vm_rm, vm_app, vm_cp_f, vm_cp_h, vm_bA, Nat.add_zero]), Rnan_r h.nan (by simp (disch := omega) only [vm_up_f, vm_up_k2, vm_up_h, vm_wq_o, vm_wq_x, vm_wq_i, vm_zc_f, vm_zc_h, vm_wr_o, vm_rm, vm_app, vm_cp_f, vm_cp_h, vm_bA, Nat.add_zero])⟩
theorem Rel_w {I I' : vm_IH} {F : vm_FH} (h : Rel I F) (e : ∀ x k, cl_mn x k → ¬ (x = 0 ∧ k = 8) → ¬ (x = 152 ∧ k = 10) → I' x k = I x k) (hw : R_wrk I') : Rel I' F := by
  obtain ⟨u, hu, a, b⟩ := hw
  have q := Rel_wk (Rel_i (I' := vm_up (vm_up I' 0 8 (I 0 8)) 152 10 (I 152 10)) h fun x k hm => ?_) hu
  · have e2 : vm_up (vm_up (vm_up (vm_up I' 0 8 (I 0 8)) 152 10 (I 152 10)) 0 8 (nI u)) 152 10 (nI u) = I' := by
      funext x k
      unfold vm_up
      by_cases c : x = 152
      · rw [if_pos c]
        by_cases d : k = 10
        · rw [if_pos d, c, d]
          exact b.symm
        · rw [if_neg d, if_neg (by omega), if_pos c, if_neg d, if_neg (by omega)]
      · rw [if_neg c]
        by_cases c2 : x = 0
        · rw [if_pos c2]
          by_cases d : k = 8
          · rw [if_pos d, c2, d]
            exact a.symm
          · rw [if_neg d, if_neg c, if_pos c2, if_neg d]
        · rw [if_neg c2, if_neg c, if_neg c2]
    rw [e2] at q
    exact q
  · by_cases c : x = 152 ∧ k = 10
    · rw [c.1, c.2, vm_up_h]
    · by_cases d : x = 0 ∧ k = 8
      · rw [d.1, d.2, vm_up_f _ _ _ _ _ (by decide), vm_up_h]
      · rw [← e x k hm d c]
        unfold vm_up
        by_cases c1 : x = 152
        · rw [if_pos c1, if_neg (by omega), if_neg (by omega)]
        · rw [if_neg c1]
          by_cases c2 : x = 0
          · rw [if_pos c2, if_neg (by omega)]
          · rw [if_neg c2]
theorem vm_bm_c {H H' : Nat → Nat → Int32} {t : Nat} (h : ∀ a, 112 ≤ a → a < 132 → H' a = H a) (ht : t < 16) : vm_bm H' 112 t = vm_bm H 112 t := by
  unfold vm_bm
  rw [h (112 + 4 + t) (by omega) (by omega)]
  have e : ∀ x n p c, sp_cm H' 112 x n p c = sp_cm H 112 x n p c := by
    intro x n p c
    induction c with
    | zero => rfl
    | succ c ih =>
      show sp_cm H' 112 x n p c * 64 + sp_rd (sp_cs H' 112 x n (nI c)) p = sp_cm H 112 x n p c * 64 + sp_rd (sp_cs H 112 x n (nI c)) p
      unfold sp_cs
      rw [ih, h (112 + 1) (by decide) (by decide), h (112 + 2) (by decide) (by decide)]
  exact e _ _ _ _
theorem vm_up_n2 {α : Type} (I : Nat → Nat → α) (o k : Nat) (x : α) (a b : Nat) (h : ¬ (a = o ∧ b = k)) : vm_up I o k x a b = I a b := by
  unfold vm_up
  by_cases c : a = o
  · rw [if_pos c, if_neg fun d => h ⟨c, d⟩]
  · rw [if_neg c]
/-- what box answers -/
def bx_cv (V : vm_IH) (t : Nat) : Nat → Int32
  | 0 => V (112 + 4 + t) 2
  | 1 => V (112 + 4 + t) 1 - V (112 + 4 + t) 0
  | 2 => vm_bm V 112 t
  | 3 => V (112 + 4 + t) 4
  | _ => V (112 + 4 + t) 5
def bx_rv (W : vm_IH) (n t : Nat) : Nat → Int32
  | 0 => vr_px (W 161) (W 160) n (nI t)
  | 1 => vr_co (W 161) n (nI t)
  | 2 => vr_cm (W 159) (W 161) (W 160) n (nI t) 3
  | 3 => vr_so (W 159) (W 161) n (nI t)
  | _ => W 159 (vr_fi (W 161) n (nI t))
theorem bx_cr {V W : vm_IH} {n nb t z : Nat} (R : bx_R V W n nb) (ht : t < nb) (hz : z < 5) : bx_rv W n t z = bx_cv V t z := by
  obtain ⟨a1, a2, a3, a4⟩ := bx_ans R ht
  rcases (show z = 0 ∨ z = 1 ∨ z = 2 ∨ z = 3 ∨ z = 4 by omega) with rfl | rfl | rfl | rfl | rfl
  · exact a1.symm
  · exact a2.symm
  · exact (bx_mean R ht).symm
  · exact a3.symm
  · exact a4.symm
theorem bx_C {l : Launch} {X : vm_Cx} {G : List vm_Sh} {I : Nat → Nat → Int32} {F : Nat → Nat → UInt32} {p w h k u n : Nat} {x : Int32} (hD : vm_isD G) (hw : I (1 + 17 + 2 * p) 0 = nI w) (hh : I (1 + 17 + 2 * p) 1 = nI h) (hp : p < 4) (hw2 : w ≤ 12) (hh2 : h ≤ 12) (hw0 : 0 < w) (hh0 : 0 < h) (hk1 : 0 < k) (hk2 : k ≤ 16) (hu : I 0 8 = nI u) (hv : u + 1 ≤ 6000) (hn : n < 5) (hbx : (vm_bxa (vc_cut I (1 + 18 + 2 * p) (w * h) k).1 112 (vc_cut I (1 + 18 + 2 * p) (w * h) k).2 x) < (vc_cut I (1 + 18 + 2 * p) (w * h) k).2) : vm_K l X vm_M108 [.ref 0, .int (nI p), .int (nI k), .int x, .int (nI n)] (G, I, F) (some (.int (bx_cv (vc_cut I (1 + 18 + 2 * p) (w * h) k).1 (vm_bxa (vc_cut I (1 + 18 + 2 * p) (w * h) k).1 112 (vc_cut I (1 + 18 + 2 * p) (w * h) k).2 x) n))) (G, vm_up (vc_cut I (1 + 18 + 2 * p) (w * h) k).1 0 8 (nI (u + 1)), F) := by
  rcases (show n = 0 ∨ n = 1 ∨ n = 2 ∨ n = 3 ∨ n = 4 by omega) with rfl | rfl | rfl | rfl | rfl
  · exact c_box_0 hD hw hh hp hw2 hh2 hw0 hh0 hk1 hk2 hu hv hbx
  · exact c_box_1 hD hw hh hp hw2 hh2 hw0 hh0 hk1 hk2 hu hv hbx
  · have e : bx_cv (vc_cut I (1 + 18 + 2 * p) (w * h) k).1 (vm_bxa (vc_cut I (1 + 18 + 2 * p) (w * h) k).1 112 (vc_cut I (1 + 18 + 2 * p) (w * h) k).2 x) 2 = vm_bm (vm_up (vc_cut I (1 + 18 + 2 * p) (w * h) k).1 0 8 (nI (u + 1))) 112 (vm_bxa (vc_cut I (1 + 18 + 2 * p) (w * h) k).1 112 (vc_cut I (1 + 18 + 2 * p) (w * h) k).2 x) := (vm_bm_c (H' := vm_up (vc_cut I (1 + 18 + 2 * p) (w * h) k).1 0 8 (nI (u + 1))) (fun x h1 h2 => vm_up_f _ _ _ _ _ (by omega)) (by have := (vc_cut_ib (I := I) (pa := 1 + 18 + 2 * p) (N := w * h) (k := k) (Nat.mul_pos hw0 hh0) (vm_mul144 hw2 hh2) hk1).2.1; omega)).symm
    rw [e]
    exact c_box_2 hD hw hh hp hw2 hh2 hw0 hh0 hk1 hk2 hu hv hbx
  · exact c_box_3 hD hw hh hp hw2 hh2 hw0 hh0 hk1 hk2 hu hv hbx
  · exact c_box_4 hD hw hh hp hw2 hh2 hw0 hh0 hk1 hk2 hu hv hbx
theorem bx_D {l : Launch} {X : vm_Cx} {G : List vm_Sh} {I : Nat → Nat → Int32} {F : Nat → Nat → UInt32} {p w h k u n : Nat} {x : Int32} (hR : vm_isR G) (hw : I 153 p = nI w) (hh : I 154 p = nI h) (hp : p < 4) (hw2 : w ≤ 12) (hh2 : h ≤ 12) (hw0 : 0 < w) (hh0 : 0 < h) (hk1 : 0 < k) (hk2 : k ≤ 16) (hu : I 152 10 = nI u) (hv : u < 6000) (hn : n < 5) (hbx : (vr_ba ((vr_cut I (fun y => I 155 (144 * p + y)) (w * h) k).1 161) (vr_gth I (fun y => I 155 (144 * p + y)) (w * h)).2 (vr_cut I (fun y => I 155 (144 * p + y)) (w * h) k).2 x) < (vr_cut I (fun y => I 155 (144 * p + y)) (w * h) k).2) : vm_K l X vm_M210 [.ref 152, .int (nI p), .int (nI k), .int x, .int (nI n)] (G, I, F) (some (.int (bx_rv (vr_cut I (fun y => I 155 (144 * p + y)) (w * h) k).1 (vr_gth I (fun y => I 155 (144 * p + y)) (w * h)).2 (vr_ba ((vr_cut I (fun y => I 155 (144 * p + y)) (w * h) k).1 161) (vr_gth I (fun y => I 155 (144 * p + y)) (w * h)).2 (vr_cut I (fun y => I 155 (144 * p + y)) (w * h) k).2 x) n))) (G, vm_up (vr_cut I (fun y => I 155 (144 * p + y)) (w * h) k).1 152 10 (nI (u + 1)), F) := by
  rcases (show n = 0 ∨ n = 1 ∨ n = 2 ∨ n = 3 ∨ n = 4 by omega) with rfl | rfl | rfl | rfl | rfl
  · exact r_box_0 hR hw hh hp hw2 hh2 hw0 hh0 hk1 hk2 hu hv hbx
  · exact r_box_1 hR hw hh hp hw2 hh2 hw0 hh0 hk1 hk2 hu hv hbx
  · exact r_box_2p hR hw hh hp hw2 hh2 hw0 hh0 hk1 hk2 hu hv hbx
  · exact r_box_3 hR hw hh hp hw2 hh2 hw0 hh0 hk1 hk2 hu hv hbx
  · exact r_box_4 hR hw hh hp hw2 hh2 hw0 hh0 hk1 hk2 hu hv hbx
theorem call_box {l : Launch} {X : vm_Cx} {G : List vm_Sh} {I : Nat → Nat → Int32} {F : Nat → Nat → UInt32} {q : Int32} {k : Int32} {x : Int32} {z : Int32} (hD : vm_isD G) (hR : vm_isR G) (h : Rel I F) : vm_Cl l X G I F vm_M108 vm_M210 [.int q, .int k, .int x, .int z] := by
  by_cases hx : 0 ≤ q ∧ q ≤ 3
  · obtain ⟨p, hp, rfl⟩ := cl_q3 hx
    obtain ⟨w, a, hw, ha, h0, h1, hc, hr, hpx⟩ := h.pic p hp
    by_cases hw0 : w = 0
    · exact .pure (c_box_m hD hc.1 hp hw hw0) (r_box_m hR hr.1 hp hw hw0) h
    · have hww : 0 < w := by omega
      have hh0 := h1 hww
      have hwh := vm_mul144 hw ha
      by_cases hz : 0 ≤ z ∧ z ≤ 4
      · by_cases hk : 1 ≤ k ∧ k ≤ 16
        · obtain ⟨k, hk1, hk2, rfl⟩ := cl_rng hk (a := 1) (b := 16) rfl rfl (by decide) (by decide)
          obtain ⟨u, hu, hu1, hu2⟩ := h.wrk
          by_cases hv : u = 6000
          · exact .pure (c_box_f hD hc.1 hp hw hww hz hk1 hk2 hu1 (by omega) hu) (r_box_f hR hr.1 hp hw hww hz hk1 hk2 hu2 hv) h
          · have N0 : 0 < w * a := Nat.mul_pos hww hh0
            have mc := bx_mnc_ I (pa := 1 + 18 + 2 * p) (k := k) N0 hwh hk2
            have V := fun (J : vm_IH) (hJ : ∀ y, y < 144 → J 155 (144 * p + y) = I 155 (144 * p + y)) => bx_vc (I := I) (J := J) (pa := 1 + 18 + 2 * p) (N := w * a) (k := k) (g := fun y => J 155 (144 * p + y)) (fun y hy => ((hpx y (by omega)).1).trans (hJ y (by omega)).symm) (fun y hy => by rw [hJ y (by omega)]; exact (hpx y (by omega)).2) N0 hwh hk1 hk2
            have hle := fun J : vm_IH => (vr_cut_ib (I := J) (f := fun y => J 155 (144 * p + y)) (N := w * a) (k := k) N0 hk1 hk2).2.1
            by_cases hbx : (vm_bxa ((vc_cut I (1 + 18 + 2 * p) (w * a) k).1) 112 (vc_cut I (1 + 18 + 2 * p) (w * a) k).2 x) < (vc_cut I (1 + 18 + 2 * p) (w * a) k).2
            · obtain ⟨n, -, hn, rfl⟩ := cl_rng hz (a := 0) (b := 4) rfl rfl (by decide) (by decide)
              have C := bx_C (l := l) (X := X) (F := F) hD hc.1 hc.2 hp hw ha hww hh0 hk1 hk2 hu1 (by omega) (show n < 5 by omega) hbx
              generalize vc_cut I (1 + 18 + 2 * p) (w * a) k = U at *
              have m2 : ∀ x z, cl_mn x z → ¬ (x = 0 ∧ z = 8) → vm_up U.1 0 8 (nI (u + 1)) x z = I x z := fun x z hm hx => (vm_up_n2 _ _ _ _ _ _ hx).trans (mc x z hm)
              have m3 : vm_up U.1 0 8 (nI (u + 1)) 0 8 = nI (u + 1) := vm_up_h _ _ _ _
              generalize vm_up U.1 0 8 (nI (u + 1)) = J at *
              obtain ⟨-, e2, R⟩ := V J fun y _ => m2 155 _ (by unfold cl_mn; omega) (by omega)
              have hle2 := hle J
              have ea := bx_at R (by omega) x
              have hbx2 : vr_ba ((vr_cut J (fun y => J 155 (144 * p + y)) (w * a) k).1 161) (vr_gth J (fun y => J 155 (144 * p + y)) (w * a)).2 (vr_cut J (fun y => J 155 (144 * p + y)) (w * a) k).2 x < (vr_cut J (fun y => J 155 (144 * p + y)) (w * a) k).2 := by
                rw [← ea, ← e2]
                exact hbx
              have D := bx_D (l := l) (X := X) (F := F) hR ((m2 153 p (by unfold cl_mn; omega) (by omega)).trans hr.1) ((m2 154 p (by unfold cl_mn; omega) (by omega)).trans hr.2) hp hw ha hww hh0 hk1 hk2 ((m2 152 10 (by unfold cl_mn; omega) (by omega)).trans hu2) (by omega) (show n < 5 by omega) hbx2
              rw [← ea, ← e2] at D
              have mr := bx_mnr J (fun y => J 155 (144 * p + y)) (w * a) k
              generalize vr_cut J (fun y => J 155 (144 * p + y)) (w * a) k = W at *
              rw [e2] at C D hbx
              refine .mut C D (congrArg Value.int (bx_cr R hbx (by omega))) (Rel_w h (fun x z hm h1 h2 => ?_) ⟨u + 1, by omega, ?_, vm_up_h _ _ _ _⟩)
              · rw [vm_up_n2 _ _ _ _ _ _ h2, mr x z hm, m2 x z hm h1]
              · rw [vm_up_f _ _ _ _ _ (by decide), mr 0 8 (by unfold cl_mn; omega), m3]
            · obtain ⟨-, e2, R⟩ := V (vc_cut I (1 + 18 + 2 * p) (w * a) k).1 fun y _ => mc 155 _ (by unfold cl_mn; omega)
              have hle2 := hle (vc_cut I (1 + 18 + 2 * p) (w * a) k).1
              have hbx2 := hbx
              rw [e2, bx_at R (by omega) x] at hbx2
              exact .mut (c_box_n hD hc.1 hc.2 hp hw ha hww hh0 hz hk1 hk2 hu1 (by omega) hbx) (r_box_n hR ((mc 153 p (by unfold cl_mn; omega)).trans hr.1) ((mc 154 p (by unfold cl_mn; omega)).trans hr.2) hp hw ha hww hh0 hk1 hk2 ((mc 152 10 (by unfold cl_mn; omega)).trans hu2) (by omega) hz hbx2) rfl (Rel_i h fun x z hm => (bx_mnr _ _ (w * a) k x z hm).trans (mc x z hm))
        · exact .pure (c_box_b hD hc.1 hp hw hww hz hk) (r_box_b hR hr.1 hp hw hww hz hk) h
      · exact .pure (c_box_z hD hc.1 hp hw hww hz) (r_box_z hR hr.1 hp hw hww hz) h
  · exact .pure (c_box_x hD hx) (r_box_x hR hx) h
