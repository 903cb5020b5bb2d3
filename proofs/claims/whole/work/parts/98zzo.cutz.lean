/-- everything but the palettes and the work stays -/
theorem Rel_p {I I' : vm_IH} {F : vm_FH} (h : Rel I F) (e : ∀ x k, cl_mn x k → ¬ (26 ≤ x ∧ x ≤ 37) → ¬ (156 ≤ x ∧ x ≤ 158) → ¬ (x = 0 ∧ k = 8) → ¬ (x = 152 ∧ k = 10) → I' x k = I x k) (hw : R_wrk I') (hp : Rpal I') : Rel I' F := by
  have E : ∀ x, ¬ (26 ≤ x ∧ x ≤ 37) → ¬ (156 ≤ x ∧ x ≤ 158) → x ≠ 0 → x ≠ 152 → (∀ k, cl_mn x k) → I' x = I x := fun x a b c d hx => funext fun k => e x k (hx k) a b (by omega) (by omega)
  have c1 : ∀ a, 12 ≤ a → a ≤ 74 → ¬ (26 ≤ a ∧ a ≤ 37) → I' a = I a := fun a h1 h2 h3 => E a (by omega) (by omega) (by omega) (by omega) fun k => by unfold cl_mn; omega
  have c0 : ∀ a, 4 ≤ a → a ≤ 8 → I' a = I a := fun a h1 h2 => E a (by omega) (by omega) (by omega) (by omega) fun k => by unfold cl_mn; omega
  have c2 : ∀ a, 153 ≤ a → a ≤ 155 → I' a = I a := fun a h1 h2 => E a (by omega) (by omega) (by omega) (by omega) fun k => by unfold cl_mn; omega
  have c3 : ∀ a, 173 ≤ a → a ≤ 178 → I' a = I a := fun a h1 h2 => E a (by omega) (by omega) (by omega) (by omega) fun k => by unfold cl_mn; omega
  have c4 : ∀ a, 182 ≤ a → a ≤ 189 → I' a = I a := fun a h1 h2 => E a (by omega) (by omega) (by omega) (by omega) fun k => by unfold cl_mn; omega
  have c5 : ∀ a, 191 ≤ a → a ≤ 193 → I' a = I a := fun a h1 h2 => E a (by omega) (by omega) (by omega) (by omega) fun k => by unfold cl_mn; omega
  have c6 : ∀ a, 139 ≤ a → a ≤ 151 → I' a = I a := fun a h1 h2 => E a (by omega) (by omega) (by omega) (by omega) fun k => by unfold cl_mn; omega
  have s : ∀ k, (6 ≤ k ∧ k ≤ 9 ∨ k = 25 ∨ 49 ≤ k ∧ k ≤ 51 ∨ k = 54) → I' 152 k = I 152 k := fun k hk => e 152 k (by unfold cl_mn; omega) (by omega) (by omega) (by omega) (by omega)
  refine ⟨Rpic_r h.pic (fun a h1 h2 => c1 a (by omega) (by omega) (by omega)) (c2 _ (by decide) (by decide)) (c2 _ (by decide) (by decide)) (c2 _ (by decide) (by decide)),
    hp,
    Rrul_r h.rul (c0 _ (by decide) (by decide)) (s _ (by decide)) (s _ (by decide)) (s _ (by decide)) (s _ (by decide)),
    Rsht_r h.sht (fun a h1 h2 => c0 a (by omega) (by omega)) rfl (congrFun (c3 _ (by decide) (by decide)) 0) (congrFun (c3 _ (by decide) (by decide)) 0) (congrFun (c3 _ (by decide) (by decide)) 0) (fun k _ => congrFun (c3 _ (by decide) (by decide)) k) (fun k _ => congrFun (c3 _ (by decide) (by decide)) k) (fun k _ => congrFun (c3 _ (by decide) (by decide)) k) (fun c _ => rfl),
    Rsee_r h.see (c1 _ (by decide) (by decide) (by decide)) (c1 _ (by decide) (by decide) (by decide)) (s _ (by decide)) (c4 _ (by decide) (by decide)) (c4 _ (by decide) (by decide)) (c4 _ (by decide) (by decide)),
    Rpln_r h.pln (c1 _ (by decide) (by decide) (by decide)) (c1 _ (by decide) (by decide) (by decide)) (s _ (by decide)) (c4 _ (by decide) (by decide)) (c4 _ (by decide) (by decide)),
    Rbok_r h.bok (c1 _ (by decide) (by decide) (by decide)) (c1 _ (by decide) (by decide) (by decide)) (s _ (by decide)) (c4 _ (by decide) (by decide)) (c4 _ (by decide) (by decide)),
    Rmst_r h.mst (congrFun (c1 _ (by decide) (by decide) (by decide)) 0) (congrFun (c1 _ (by decide) (by decide) (by decide)) 0) (congrFun (c1 _ (by decide) (by decide) (by decide)) 0),
    hw,
    Rtxt_r h.txt (e 135 1 (by unfold cl_mn; omega) (by omega) (by omega) (by omega) (by omega)) (E 136 (by omega) (by omega) (by omega) (by omega) fun k => by unfold cl_mn; omega) (s _ (by decide)) (E 165 (by omega) (by omega) (by omega) (by omega) fun k => by unfold cl_mn; omega),
    Rtap_r h.tap (fun a h1 h2 => c6 a (by omega) (by omega)) (c5 _ (by decide) (by decide)) (c5 _ (by decide) (by decide)) (c5 _ (by decide) (by decide)),
    Rimg_r h.img (e 0 7 (by unfold cl_mn; omega) (by omega) (by omega) (by omega) (by omega)) (s _ (by decide)) (fun a h1 h2 => c1 a (by omega) (by omega) (by omega)) rfl (fun k _ => congrFun (c4 189 (by decide) (by decide)) k) rfl,
    Rnan_r h.nan rfl⟩
theorem sp_kn_c {l l' : Nat → Int32} : ∀ {n : Nat}, (∀ e, e < n → l e = l' e) → sp_kn l n = sp_kn l' n
  | 0, _ => rfl
  | n + 1, h => by
    show (if l n = 1 then sp_kn l n + 1 else sp_kn l n) = if l' n = 1 then sp_kn l' n + 1 else sp_kn l' n
    rw [sp_kn_c fun e he => h e (Nat.lt_succ_of_lt he), h n (Nat.lt_succ_self n)]
/-- the locked entries are the same ones -/
theorem cut_k {I J : vm_IH} {ca cb p n : Nat} (hab : ca ≠ cb) (h : ∀ e, e < n → (I ca e = J 157 (16 * p + e) ∧ sp_col (J 157 (16 * p + e))) ∧ I cb e = J 158 (16 * p + e) ∧ (J 158 (16 * p + e) = 0 ∨ J 158 (16 * p + e) = 1)) : (vr_kl J p n n).2 = sp_kn (I cb) n ∧ ∀ e, e < sp_kn (I cb) n → (vm_klk I ca cb n ca e = (vr_kl J p n n).1 157 (16 * p + e) ∧ sp_col ((vr_kl J p n n).1 157 (16 * p + e))) ∧ vm_klk I ca cb n cb e = (vr_kl J p n n).1 158 (16 * p + e) ∧ ((vr_kl J p n n).1 158 (16 * p + e) = 0 ∨ (vr_kl J p n n).1 158 (16 * p + e) = 1) := by
  obtain ⟨r1, -, -, r4⟩ := kl_r (I := J) (p := p) (n := n) (fun e he => (h e he).2.2) n (Nat.le_refl n)
  have ek : ∀ j, j ≤ n → sp_kn (fun e => J 158 (16 * p + e)) j = sp_kn (I cb) j := fun j hj => sp_kn_c fun e he => ((h e (by omega)).2.1).symm
  rw [Nat.sub_self] at r1 r4
  have e0 : sp_kn (fun e => J 158 (16 * p + e)) 0 = 0 := rfl
  rw [e0, ek n (Nat.le_refl n), Nat.sub_zero, Nat.zero_add] at r1
  refine ⟨r1, fun e he => ?_⟩
  obtain ⟨i, hi, h1, h2⟩ := kl_s he
  obtain ⟨c1, c2⟩ := kl_c hab hi h1
  have q := r4 i (Nat.zero_le i) hi ((h i hi).2.1 ▸ h1)
  rw [e0, ek i (by omega), Nat.sub_zero, Nat.zero_add, h2] at q
  rw [h2] at c1 c2
  rw [c1, c2, q.1, q.2]
  exact ⟨(h i hi).1, rfl, Or.inr rfl⟩
theorem kl_7 (I : vm_IH) (p n : Nat) (hn : n ≤ 16) (hb : ∀ e, e < n → I 158 (16 * p + e) = 0 ∨ I 158 (16 * p + e) = 1) (k : Nat) (hk : ∀ e, e < 16 → k ≠ 16 * p + e) : (vr_kl I p n n).1 157 k = I 157 k ∧ (vr_kl I p n n).1 158 k = I 158 k := by
  obtain ⟨-, r2, r3, -⟩ := kl_r hb n (Nat.le_refl n)
  by_cases c : k < 16 * p + (n - n)
  · exact r2 k c
  · refine r3 k ?_
    by_cases d : 16 * p + n ≤ k
    · exact d
    · exact absurd (show k = 16 * p + (k - 16 * p) by omega) (hk _ (by omega))
/-- rows of the class under a cut, outside the palette -/
theorem cut_c {I : vm_IH} {p q n m N k : Nat} {v : Int32} (h0 : 0 < N) (hN : N ≤ 144) (hk : k ≤ 16) (hp : p < 4) {V : vm_IH × Nat} (hV : V = vc_cut (vm_up (vm_klk (vm_up I 0 8 v) (1 + 26 + 3 * p) (1 + 27 + 3 * p) n) (1 + 25 + 3 * p) 0 (nI m)) (1 + 18 + 2 * q) N k) (x z : Nat) (hx : x < 112 ∨ 132 ≤ x) (h1 : x ≠ 1 + 25 + 3 * p) (h2 : x ≠ 1 + 26 + 3 * p) (h3 : x ≠ 1 + 27 + 3 * p) (h4 : ¬ (x = 0 ∧ z = 8)) : V.1 x z = I x z := by
  rw [hV, vc_cut_o x h0 hN hk hx, vm_up_f _ _ _ _ _ h1, vm_klk_o _ _ _ _ h2 h3]
  unfold vm_up
  by_cases c : x = 0
  · rw [if_pos c, if_neg (by omega)]
  · rw [if_neg c]
theorem call_cut {l : Launch} {X : vm_Cx} {G : List vm_Sh} {I : Nat → Nat → Int32} {F : Nat → Nat → UInt32} {q : Int32} {e : Int32} {k : Int32} (hD : vm_isD G) (hR : vm_isR G) (h : Rel I F) : vm_Cl l X G I F vm_M116 vm_M229 [.int q, .int e, .int k] := by
  by_cases hx : 0 ≤ q ∧ q ≤ 3
  · obtain ⟨p, hp, rfl⟩ := cl_q3 hx
    by_cases hx2 : 0 ≤ e ∧ e ≤ 3
    · obtain ⟨q, hq, rfl⟩ := cl_q3 hx2
      obtain ⟨w, a, hw, ha, h0, h1, hc, hr, hpx⟩ := h.pic q hq
      by_cases hw0 : w = 0
      · exact .pure (c_cut_nm hD hp hc.1 hq hw hw0) (r_cut_m hR hp hr.1 hq hw hw0) h
      · have hww : 0 < w := by omega
        have hh0 := h1 hww
        have hwh := vm_mul144 hw ha
        have N0 : 0 < w * a := Nat.mul_pos hww hh0
        by_cases hk : 1 ≤ k ∧ k ≤ 16
        · obtain ⟨k, hk1, hk2, rfl⟩ := cl_rng hk (a := 1) (b := 16) rfl rfl (by decide) (by decide)
          obtain ⟨u, hu, hu1, hu2⟩ := h.wrk
          by_cases hv : u = 6000
          · exact .pure (c_cut_f hD hp hc.1 hq hw hww hk1 hk2 hu1 (by omega) hu) (r_cut_f hR hp hr.1 hq hw hww hk1 hk2 hu2 (by omega) hu) h
          · obtain ⟨n, hn, hpc, hpr, hpk⟩ := h.pal p hp
            have hv2 : u + 1 ≤ 6000 := by omega
            have hkl := sp_kn_le (vm_up I 0 8 (nI (u + 1)) (1 + 27 + 3 * p)) n
            have i8 : ∀ x, x ≠ 0 → vm_up I 0 8 (nI (u + 1)) x = I x := fun x hx => vm_up_f _ _ _ _ _ hx
            by_cases hks : sp_kn (vm_up I 0 8 (nI (u + 1)) (1 + 27 + 3 * p)) n < k
            · have C := c_cut_y (l := l) (X := X) (F := F) hD hp hpc hn hc.1 hc.2 hq hw ha hww hh0 hk1 hk2 hu1 hv2 hks
              generalize hm : sp_kn (vm_up I 0 8 (nI (u + 1)) (1 + 27 + 3 * p)) n = m at *
              generalize hV : vc_cut (vm_up (vm_klk (vm_up I 0 8 (nI (u + 1))) (1 + 26 + 3 * p) (1 + 27 + 3 * p) n) (1 + 25 + 3 * p) 0 (nI m)) (1 + 18 + 2 * q) (w * a) (k - m) = V at C
              have fV := cut_c (I := I) (p := p) (q := q) (n := n) (m := m) (v := nI (u + 1)) N0 hwh (show k - m ≤ 16 by omega) hp hV.symm
              generalize hGm : vm_gm V.1 112 V.2 (1 + 25 + 3 * p) (1 + 26 + 3 * p) (1 + 27 + 3 * p) m V.2 = Gm at C
              have fG : ∀ x z, x ≠ 1 + 25 + 3 * p → x ≠ 1 + 26 + 3 * p → x ≠ 1 + 27 + 3 * p → Gm.1 x z = V.1 x z := fun x z a1 a2 a3 => by rw [← hGm]; exact vm_gm_o _ _ _ _ _ _ _ _ a1 a2 a3 z _
              have fI : ∀ x z, (x < 112 ∨ 132 ≤ x) → x ≠ 1 + 25 + 3 * p → x ≠ 1 + 26 + 3 * p → x ≠ 1 + 27 + 3 * p → ¬ (x = 0 ∧ z = 8) → Gm.1 x z = I x z := fun x z b1 b2 b3 b4 b5 => (fG x z b2 b3 b4).trans (fV x z b1 b2 b3 b4 b5)
              have j8 : ∀ x, x ≠ 152 → vm_up Gm.1 152 10 (nI (u + 1)) x = Gm.1 x := fun x hx => vm_up_f _ _ _ _ _ hx
              have cg : ∀ x z, 153 ≤ x → Gm.1 x z = I x z := fun x z hx => fI x z (by omega) (by omega) (by omega) (by omega) (by omega)
              have hpal : ∀ e, e < n → (vm_up I 0 8 (nI (u + 1)) (1 + 26 + 3 * p) e = vm_up Gm.1 152 10 (nI (u + 1)) 157 (16 * p + e) ∧ sp_col (vm_up Gm.1 152 10 (nI (u + 1)) 157 (16 * p + e))) ∧ vm_up I 0 8 (nI (u + 1)) (1 + 27 + 3 * p) e = vm_up Gm.1 152 10 (nI (u + 1)) 158 (16 * p + e) ∧ (vm_up Gm.1 152 10 (nI (u + 1)) 158 (16 * p + e) = 0 ∨ vm_up Gm.1 152 10 (nI (u + 1)) 158 (16 * p + e) = 1) := fun e he => by
                rw [i8 _ (by omega), i8 _ (by omega), j8 _ (by decide), j8 _ (by decide), cg _ _ (by decide), cg _ _ (by decide)]
                exact hpk e he
              obtain ⟨k1, k2⟩ := cut_k (ca := 1 + 26 + 3 * p) (cb := 1 + 27 + 3 * p) (by omega) hpal
              rw [hm] at k1 k2
              have D := r_cut_yp (l := l) (X := X) (I := Gm.1) (F := F) hR hp ((cg 156 p (by decide)).trans hpr) hn ((cg 153 q (by decide)).trans hr.1) ((cg 154 q (by decide)).trans hr.2) hq hw ha hww hh0 hk1 hk2 ((fI 152 10 (by omega) (by omega) (by omega) (by omega) (by omega)).trans hu2) hv2 (by rw [k1]; exact hks)
              have klb := fun z hz => kl_7 (vm_up Gm.1 152 10 (nI (u + 1))) p n hn (fun e he => (hpal e he).2.2) z hz
              have klo := fun x a1 a2 a3 => vr_kl_o (vm_up Gm.1 152 10 (nI (u + 1))) p n x a1 a2 a3 n
              have kl6 := fun z hz => kl_6 (vm_up Gm.1 152 10 (nI (u + 1))) p n z hz n
              have kln := vr_kl_n (vm_up Gm.1 152 10 (nI (u + 1))) p n (by rw [j8 _ (by decide), cg _ _ (by decide)]; exact hpr) n
              generalize hKL : vr_kl (vm_up Gm.1 152 10 (nI (u + 1))) p n n = KL at *
              have e55 : (fun y => KL.1 155 (144 * q + y)) = fun y => I 155 (144 * q + y) := funext fun y => by rw [klo 155 (by decide) (by decide) (by decide), j8 _ (by decide), cg _ _ (by decide)]
              rw [e55] at D
              have h0V : ∀ x z, x < 112 → (vm_up (vm_klk (vm_up I 0 8 (nI (u + 1))) (1 + 26 + 3 * p) (1 + 27 + 3 * p) n) (1 + 25 + 3 * p) 0 (nI m)) x z = V.1 x z := fun x z hx => by
                rw [← hV, vc_cut_o x N0 hwh (by omega) (Or.inl hx)]
              have B := bx_vc (I := vm_up (vm_klk (vm_up I 0 8 (nI (u + 1))) (1 + 26 + 3 * p) (1 + 27 + 3 * p) n) (1 + 25 + 3 * p) 0 (nI m)) (J := KL.1) (pa := 1 + 18 + 2 * q) (N := w * a) (k := k - m) (g := fun y => I 155 (144 * q + y)) (fun y hy => by
                rw [h0V _ _ (by omega), fV _ _ (by omega) (by omega) (by omega) (by omega) (by omega)]
                exact (hpx y (by omega)).1) (fun y hy => (hpx y (by omega)).2) N0 hwh (by omega) (by omega)
              rw [hV, ← k1] at B
              obtain ⟨-, e2, RB⟩ := B
              have ib := vr_cut_ib (I := KL.1) (f := fun y => I 155 (144 * q + y)) (N := w * a) (k := k - KL.2) N0 (by omega) (by omega)
              have cba := vr_cut_ba (I := KL.1) (f := fun y => I 155 (144 * q + y)) (N := w * a) (k := k - KL.2) N0 (by omega) (by omega)
              have cno := fun x a1 a2 a3 a4 a5 => vr_cut_o KL.1 (fun y => I 155 (144 * q + y)) (w * a) (k - KL.2) x a1 a2 a3 a4 a5
              have cnk := fun z a1 a2 => vr_cut_k KL.1 (fun y => I 155 (144 * q + y)) (w * a) (k - KL.2) z a1 a2
              obtain ⟨cn, hcn1, hcn2⟩ := vr_gth_cn KL.1 (fun y => I 155 (144 * q + y)) (w * a)
              have c60 : ∀ i, (vr_cut KL.1 (fun y => I 155 (144 * q + y)) (w * a) (k - KL.2)).1 160 i = (vr_gth KL.1 (fun y => I 155 (144 * q + y)) (w * a)).1 160 i := fun i => congrFun (vr_cut_160 ..) i
              have hcol : ∀ t, t < (vr_cut KL.1 (fun y => I 155 (144 * q + y)) (w * a) (k - KL.2)).2 → sp_col (vr_cm ((vr_cut KL.1 (fun y => I 155 (144 * q + y)) (w * a) (k - KL.2)).1 159) ((vr_cut KL.1 (fun y => I 155 (144 * q + y)) (w * a) (k - KL.2)).1 161) ((vr_cut KL.1 (fun y => I 155 (144 * q + y)) (w * a) (k - KL.2)).1 160) (vr_gth KL.1 (fun y => I 155 (144 * q + y)) (w * a)).2 (nI t) 3) := fun t ht => bx_mcol (c := cn) (fun i hi => by rw [c60]; exact (hcn1 i hi).1) (by omega)
              generalize hcu : vr_cut KL.1 (fun y => I 155 (144 * q + y)) (w * a) (k - KL.2) = W at *
              generalize (vr_gth KL.1 (fun y => I 155 (144 * q + y)) (w * a)).2 = cnt at *
              have S := gm_sim (H := V.1) (J := W.1) (n := cnt) (nb := W.2) (po := 1 + 25 + 3 * p) (pa := 1 + 26 + 3 * p) (pb := 1 + 27 + 3 * p) (p := p) (m := m) RB (by omega) hcol cba (by omega) (by omega) (by omega) (by omega) (by omega) (by omega) (fun e he => by
                rw [← h0V _ _ (by omega), ← h0V _ _ (by omega), vm_up_f _ _ _ _ _ (by omega), vm_up_f _ _ _ _ _ (by omega), cno 157 (by decide) (by decide) (by decide) (by decide) (by decide), cno 158 (by decide) (by decide) (by decide) (by decide) (by decide)]
                exact k2 e he) W.2 (Nat.le_refl _)
              rw [e2] at hGm
              rw [hGm] at S
              have gmc := vm_gm_c (H := V.1) (C := 112) (nb := W.2) (po := 1 + 25 + 3 * p) (pa := 1 + 26 + 3 * p) (pb := 1 + 27 + 3 * p) (n := m) (by rw [← h0V _ _ (by omega)]; exact vm_up_h _ _ _ _) (by omega) W.2
              have gmr := vr_gm_c (H := W.1) (c := vr_mn W.1 cnt W.2) (p := p) (m := KL.2) (by rw [cno 156 (by decide) (by decide) (by decide) (by decide) (by decide)]; exact kln) (by omega) W.2
              have gmo := fun x a1 a2 a3 => vr_gm_o W.1 (vr_mn W.1 cnt W.2) p KL.2 x a1 a2 a3 W.2
              have gm6 := fun z hz => gm_6 W.1 (vr_mn W.1 cnt W.2) p KL.2 z hz W.2
              have gm7 := fun z hz => gm_7 W.1 (vr_mn W.1 cnt W.2) p KL.2 z hz W.2
              rw [hGm] at gmc
              rw [← k1] at S
              generalize vr_gm W.1 (vr_mn W.1 cnt W.2) p KL.2 W.2 = Z at *
              have zo : ∀ x, 153 ≤ x → x ≠ 156 → x ≠ 157 → x ≠ 158 → x ≠ 159 → x ≠ 160 → x ≠ 161 → x ≠ 162 → ∀ z, Z.1 x z = I x z := fun x a0 a1 a2 a3 a4 a5 a6 a7 z => by
                rw [gmo x a1 a2 a3, cno x (by omega) a6 a7 a4 a5, klo x a1 a2 a3, j8 x (by omega), cg x z a0]
              have z2 : ∀ z, z ≠ 19 → z ≠ 14 → Z.1 152 z = vm_up Gm.1 152 10 (nI (u + 1)) 152 z := fun z a1 a2 => by
                rw [gmo 152 (by decide) (by decide) (by decide), cnk z a1 a2, klo 152 (by decide) (by decide) (by decide)]
              have zc : ∀ x, x < 152 → ∀ z, Z.1 x z = Gm.1 x z := fun x a0 z => by
                rw [gmo x (by omega) (by omega) (by omega), cno x (by omega) (by omega) (by omega) (by omega) (by omega), klo x (by omega) (by omega) (by omega), j8 x (by omega)]
              have z6 : ∀ z, z ≠ p → Z.1 156 z = I 156 z := fun z hz => by
                rw [gm6 z hz, cno 156 (by decide) (by decide) (by decide) (by decide) (by decide), kl6 z hz, j8 _ (by decide), cg _ _ (by decide)]
              have z7 : ∀ z, (∀ e, e < 16 → z ≠ 16 * p + e) → Z.1 157 z = I 157 z ∧ Z.1 158 z = I 158 z := fun z hz => by
                rw [(gm7 z hz).1, (gm7 z hz).2, cno 157 (by decide) (by decide) (by decide) (by decide) (by decide), cno 158 (by decide) (by decide) (by decide) (by decide) (by decide), (klb z hz).1, (klb z hz).2, j8 _ (by decide), j8 _ (by decide), cg _ _ (by decide), cg _ _ (by decide)]
                exact ⟨rfl, rfl⟩
              refine .mut C D (congrArg (fun z => Value.int (nI z)) S.1.symm) (Rel_p h (fun x z hm2 b1 b2 b3 b4 => ?_) ⟨u + 1, hv2, ?_, ?_⟩ (Rpal_at h.pal p ⟨Gm.2, gmc.2.2, ?_, ?_, fun e he => ?_⟩ fun r hr2 hrp => ⟨⟨?_, fun k _ => ?_, fun k _ => ?_⟩, ?_, fun k hk3 => ?_, fun k hk3 => ?_⟩))
              · by_cases c : x < 152
                · exact (zc x c z).trans (fI x z (by unfold cl_mn at hm2; omega) (by omega) (by omega) (by omega) b3)
                · by_cases c2 : x = 152
                  · subst c2
                    rw [z2 z (by unfold cl_mn at hm2; omega) (by unfold cl_mn at hm2; omega), vm_up_k2 _ _ _ _ _ (by omega)]
                    exact fI _ _ (by omega) (by omega) (by omega) (by omega) (by omega)
                  · exact zo x (by omega) (by omega) (by omega) (by omega) (by unfold cl_mn at hm2; omega) (by unfold cl_mn at hm2; omega) (by unfold cl_mn at hm2; omega) (by unfold cl_mn at hm2; omega) z
              · rw [zc 0 (by decide), fG _ _ (by omega) (by omega) (by omega), ← h0V _ _ (by decide), vm_up_f _ _ _ _ _ (by omega), vm_klk_o _ _ _ _ (by omega) (by omega)]
                exact vm_up_h _ _ _ _
              · rw [z2 10 (by decide) (by decide)]
                exact vm_up_h _ _ _ _
              · rw [zc _ (by omega)]
                exact gmc.1
              · rw [S.1]
                exact gmr.1
              · rw [zc (1 + 26 + 3 * p) (by omega), zc (1 + 27 + 3 * p) (by omega)]
                exact S.2 e he
              · rw [zc _ (by omega)]
                exact fI _ _ (by omega) (by omega) (by omega) (by omega) (by omega)
              · rw [zc _ (by omega)]
                exact fI _ _ (by omega) (by omega) (by omega) (by omega) (by omega)
              · rw [zc _ (by omega)]
                exact fI _ _ (by omega) (by omega) (by omega) (by omega) (by omega)
              · exact z6 r hrp
              · exact (z7 _ fun e he => by omega).1
              · exact (z7 _ fun e he => by omega).2
            · have C := c_cut_s (l := l) (X := X) (F := F) hD hp hpc hn hc.1 hq hw hww hk1 hk2 hu1 hv2 (by omega)
              generalize hm : sp_kn (vm_up I 0 8 (nI (u + 1)) (1 + 27 + 3 * p)) n = m at *
              generalize hV : vm_up (vm_klk (vm_up I 0 8 (nI (u + 1))) (1 + 26 + 3 * p) (1 + 27 + 3 * p) n) (1 + 25 + 3 * p) 0 (nI m) = V at C
              have fI : ∀ x z, x ≠ 1 + 25 + 3 * p → x ≠ 1 + 26 + 3 * p → x ≠ 1 + 27 + 3 * p → ¬ (x = 0 ∧ z = 8) → V x z = I x z := fun x z h1 h2 h3 h4 => by
                rw [← hV, vm_up_f _ _ _ _ _ h1, vm_klk_o _ _ _ _ h2 h3]
                unfold vm_up
                by_cases c : x = 0
                · rw [if_pos c, if_neg (by omega)]
                · rw [if_neg c]
              have j8 : ∀ x, x ≠ 152 → vm_up V 152 10 (nI (u + 1)) x = V x := fun x hx => vm_up_f _ _ _ _ _ hx
              have cg : ∀ x z, 153 ≤ x → V x z = I x z := fun x z hx => fI x z (by omega) (by omega) (by omega) (by omega)
              have hpal : ∀ e, e < n → (vm_up I 0 8 (nI (u + 1)) (1 + 26 + 3 * p) e = vm_up V 152 10 (nI (u + 1)) 157 (16 * p + e) ∧ sp_col (vm_up V 152 10 (nI (u + 1)) 157 (16 * p + e))) ∧ vm_up I 0 8 (nI (u + 1)) (1 + 27 + 3 * p) e = vm_up V 152 10 (nI (u + 1)) 158 (16 * p + e) ∧ (vm_up V 152 10 (nI (u + 1)) 158 (16 * p + e) = 0 ∨ vm_up V 152 10 (nI (u + 1)) 158 (16 * p + e) = 1) := fun e he => by
                rw [i8 _ (by omega), i8 _ (by omega), j8 _ (by decide), j8 _ (by decide), cg _ _ (by decide), cg _ _ (by decide)]
                exact hpk e he
              obtain ⟨k1, k2⟩ := cut_k (ca := 1 + 26 + 3 * p) (cb := 1 + 27 + 3 * p) (by omega) hpal
              rw [hm] at k1 k2
              have D := r_cut_s (l := l) (X := X) (I := V) (F := F) hR hp ((cg 156 p (by decide)).trans hpr) hn ((cg 153 q (by decide)).trans hr.1) hq hw hww hk1 hk2 ((fI 152 10 (by omega) (by omega) (by omega) (by omega)).trans hu2) hv2 (by rw [k1]; omega)
              have klb := fun z hz => kl_7 (vm_up V 152 10 (nI (u + 1))) p n hn (fun e he => (hpal e he).2.2) z hz
              have klo := fun x a1 a2 a3 => vr_kl_o (vm_up V 152 10 (nI (u + 1))) p n x a1 a2 a3 n
              have kl6 := fun z hz => kl_6 (vm_up V 152 10 (nI (u + 1))) p n z hz n
              have kln := vr_kl_n (vm_up V 152 10 (nI (u + 1))) p n (by rw [j8 _ (by decide), cg _ _ (by decide)]; exact hpr) n
              generalize hKL : vr_kl (vm_up V 152 10 (nI (u + 1))) p n n = Z at *
              have zc : ∀ x, x < 152 → ∀ z, Z.1 x z = V x z := fun x a0 z => by
                rw [klo x (by omega) (by omega) (by omega), j8 x (by omega)]
              refine .mut C D (congrArg (fun z => Value.int (nI z)) k1) (Rel_p h (fun x z hm2 b1 b2 b3 b4 => ?_) ⟨u + 1, hv2, ?_, ?_⟩ (Rpal_at h.pal p ⟨m, by omega, ?_, ?_, fun e he => ?_⟩ fun r hr2 hrp => ⟨⟨?_, fun k _ => ?_, fun k _ => ?_⟩, ?_, fun k hk3 => ?_, fun k hk3 => ?_⟩))
              · by_cases c2 : x = 152
                · subst c2
                  rw [klo 152 (by decide) (by decide) (by decide), vm_up_k2 _ _ _ _ _ (by omega)]
                  exact fI _ _ (by omega) (by omega) (by omega) (by omega)
                · rw [klo x (by omega) (by omega) (by omega), j8 x c2]
                  exact fI x z (by omega) (by omega) (by omega) b3
              · rw [zc 0 (by decide), ← hV, vm_up_f _ _ _ _ _ (by omega), vm_klk_o _ _ _ _ (by omega) (by omega)]
                exact vm_up_h _ _ _ _
              · rw [klo 152 (by decide) (by decide) (by decide)]
                exact vm_up_h _ _ _ _
              · rw [zc _ (by omega), ← hV]
                exact vm_up_h _ _ _ _
              · rw [← k1]
                exact kln
              · rw [zc (1 + 26 + 3 * p) (by omega), zc (1 + 27 + 3 * p) (by omega), ← hV, vm_up_f _ _ _ _ _ (by omega), vm_up_f _ _ _ _ _ (by omega)]
                exact k2 e he
              · rw [zc _ (by omega)]
                exact fI _ _ (by omega) (by omega) (by omega) (by omega)
              · rw [zc _ (by omega)]
                exact fI _ _ (by omega) (by omega) (by omega) (by omega)
              · rw [zc _ (by omega)]
                exact fI _ _ (by omega) (by omega) (by omega) (by omega)
              · rw [kl6 r hrp, j8 _ (by decide), cg _ _ (by decide)]
              · rw [(klb _ fun e he => by omega).1, j8 _ (by decide), cg _ _ (by decide)]
              · rw [(klb _ fun e he => by omega).2, j8 _ (by decide), cg _ _ (by decide)]
        · exact .pure (c_cut_b hD hp hc.1 hq hw hww hk) (r_cut_b hR hp hr.1 hq hw hww hk) h
    · exact .pure (c_cut_nx hD hp hx2) (r_cut_x2 hR hp hx2) h
  · by_cases hx2 : 0 ≤ e ∧ e ≤ 3
    · obtain ⟨q, hq, rfl⟩ := cl_q3 hx2
      obtain ⟨w, a, hw, ha, h0, h1, hc, hr, hpx⟩ := h.pic q hq
      by_cases hw0 : w = 0
      · exact .pure (c_cut_xm hD hx hc.1 hq hw hw0) (r_cut_x hR hx) h
      · exact .pure (c_cut_xy hD hx hc.1 hq hw (by omega)) (r_cut_x hR hx) h
    · exact .pure (c_cut_xx hD hx hx2) (r_cut_x hR hx) h
