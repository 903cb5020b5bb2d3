/-- everything but the sheet, the work and the reference's floats stays -/
theorem Rel_sh {I I' : vm_IH} {F F' : vm_FH} (h : Rel I F) (e : ∀ x k, cl_mn x k → ¬ (5 ≤ x ∧ x ≤ 8) → ¬ (173 ≤ x ∧ x ≤ 178) → ¬ (x = 0 ∧ k = 8) → ¬ (x = 152 ∧ k = 10) → I' x k = I x k) (f46 : F' 46 = F 46) (f190 : F' 190 = F 190) (hw : R_wrk I') (hs : Rsht I' F') (hn : R_nan F') : Rel I' F' := by
  have E : ∀ x, ¬ (5 ≤ x ∧ x ≤ 8) → ¬ (173 ≤ x ∧ x ≤ 178) → x ≠ 0 → x ≠ 152 → (∀ k, cl_mn x k) → I' x = I x := fun x a b c d hx => funext fun k => e x k (hx k) a b (by omega) (by omega)
  have c1 : ∀ a, 12 ≤ a → a ≤ 74 → I' a = I a := fun a h1 h2 => E a (by omega) (by omega) (by omega) (by omega) fun k => by unfold cl_mn; omega
  have c2 : ∀ a, 153 ≤ a → a ≤ 158 → I' a = I a := fun a h1 h2 => E a (by omega) (by omega) (by omega) (by omega) fun k => by unfold cl_mn; omega
  have c4 : ∀ a, 182 ≤ a → a ≤ 189 → I' a = I a := fun a h1 h2 => E a (by omega) (by omega) (by omega) (by omega) fun k => by unfold cl_mn; omega
  have c5 : ∀ a, 191 ≤ a → a ≤ 193 → I' a = I a := fun a h1 h2 => E a (by omega) (by omega) (by omega) (by omega) fun k => by unfold cl_mn; omega
  have c6 : ∀ a, 139 ≤ a → a ≤ 151 → I' a = I a := fun a h1 h2 => E a (by omega) (by omega) (by omega) (by omega) fun k => by unfold cl_mn; omega
  have s : ∀ k, (6 ≤ k ∧ k ≤ 9 ∨ k = 25 ∨ 49 ≤ k ∧ k ≤ 51 ∨ k = 54) → I' 152 k = I 152 k := fun k hk => e 152 k (by unfold cl_mn; omega) (by omega) (by omega) (by omega) (by omega)
  refine ⟨Rpic_r h.pic (fun a h1 h2 => c1 a (by omega) (by omega)) (c2 _ (by decide) (by decide)) (c2 _ (by decide) (by decide)) (c2 _ (by decide) (by decide)),
    Rpal_r h.pal (fun a h1 h2 => c1 a (by omega) (by omega)) (c2 _ (by decide) (by decide)) (c2 _ (by decide) (by decide)) (c2 _ (by decide) (by decide)),
    Rrul_r h.rul (E 4 (by omega) (by omega) (by omega) (by omega) fun k => by unfold cl_mn; omega) (s _ (by decide)) (s _ (by decide)) (s _ (by decide)) (s _ (by decide)),
    hs,
    Rsee_r h.see (c1 _ (by decide) (by decide)) (c1 _ (by decide) (by decide)) (s _ (by decide)) (c4 _ (by decide) (by decide)) (c4 _ (by decide) (by decide)) (c4 _ (by decide) (by decide)),
    Rpln_r h.pln (c1 _ (by decide) (by decide)) (c1 _ (by decide) (by decide)) (s _ (by decide)) (c4 _ (by decide) (by decide)) (c4 _ (by decide) (by decide)),
    Rbok_r h.bok (c1 _ (by decide) (by decide)) (c1 _ (by decide) (by decide)) (s _ (by decide)) (c4 _ (by decide) (by decide)) (c4 _ (by decide) (by decide)),
    Rmst_r h.mst (congrFun (c1 _ (by decide) (by decide)) 0) (congrFun (c1 _ (by decide) (by decide)) 0) (congrFun (c1 _ (by decide) (by decide)) 0),
    hw,
    Rtxt_r h.txt (e 135 1 (by unfold cl_mn; omega) (by omega) (by omega) (by omega) (by omega)) (E 136 (by omega) (by omega) (by omega) (by omega) fun k => by unfold cl_mn; omega) (s _ (by decide)) (E 165 (by omega) (by omega) (by omega) (by omega) fun k => by unfold cl_mn; omega),
    Rtap_r h.tap (fun a h1 h2 => c6 a (by omega) (by omega)) (c5 _ (by decide) (by decide)) (c5 _ (by decide) (by decide)) (c5 _ (by decide) (by decide)),
    Rimg_r h.img (e 0 7 (by unfold cl_mn; omega) (by omega) (by omega) (by omega) (by omega)) (s _ (by decide)) (fun a h1 h2 => c1 a (by omega) (by omega)) f46 (fun k _ => congrFun (c4 189 (by decide) (by decide)) k) f190,
    hn⟩
theorem mk_cnt {f g : Nat → Int32} {N : Nat} (h : ∀ z, z < N → f z = g z) : sp_sum (fun e => if 0 < sp_sum (fun y => if f y = nI e then (1 : Int32) else 0) N then (1 : Int32) else 0) 16 = sp_sum (fun e => if 0 < sp_sum (fun y => if g y = nI e then (1 : Int32) else 0) N then (1 : Int32) else 0) 16 := sp_sum_ext fun e he => by
  have : sp_sum (fun y => if f y = nI e then (1 : Int32) else 0) N = sp_sum (fun y => if g y = nI e then (1 : Int32) else 0) N := sp_sum_ext fun z hz => by rw [h z hz]
  rw [this]
theorem call_make {l : Launch} {X : vm_Cx} {G : List vm_Sh} {I : Nat → Nat → Int32} {F : Nat → Nat → UInt32} {e : Int32} {q : Int32} {k : Int32} (hD : vm_isD G) (hR : vm_isR G) (h : Rel I F) : vm_Cl l X G I F vm_M122 vm_M263 [.int e, .int q, .int k] := by
  by_cases hx : 0 ≤ q ∧ q ≤ 3
  · obtain ⟨p, hp, rfl⟩ := cl_q3 hx
    by_cases hx2 : 0 ≤ e ∧ e ≤ 3
    · obtain ⟨q, hq, rfl⟩ := cl_q3 hx2
      obtain ⟨w, a, hw, ha, h0, h1, hc, hr, hpx⟩ := h.pic q hq
      by_cases hw0 : w = 0
      · exact .pure (c_make_nm hD hp hc.1 hq hw hw0) (r_make_m hR hr.1 hq hw hw0) h
      · have hww : 0 < w := by omega
        have hh0 := h1 hww
        have hwh := vm_mul144 hw ha
        by_cases hk : 0 ≤ k ∧ k ≤ 4
        · obtain ⟨wy, -, hwy, rfl⟩ := cl_rng hk (a := 0) (b := 4) rfl rfl (by decide) (by decide)
          replace hwy : wy < 5 := by omega
          obtain ⟨n, hn, hpc, hpr, hpk⟩ := h.pal p hp
          by_cases hn0 : n = 0
          · exact .pure (c_make_s hD hp hpc hn0 hc.1 hq hw hww hwy) (r_make_s hR hp hpr hn0 hr.1 hq hw hww hwy) h
          · obtain ⟨u, hu, hu1, hu2⟩ := h.wrk
            by_cases hv : u + 1 ≤ 6000
            · obtain ⟨m, kn, kk, g, ⟨hm4, hkn, hkk, hg⟩, hcr, hrr1, hrr2, hrr3, hrr4⟩ := h.rul
              have C := c_make_y (l := l) (X := X) (F := F) hD hp hpc (by omega) hn hc.1 hc.2 hq hw ha hww hcr.2.1 hkn hcr.2.2.1 hkk hcr.2.2.2 hg hcr.1 hwy hu1 hv
              obtain ⟨A, hA⟩ : ∃ A, A = cv_mk (vm_up I 0 8 (nI (u + 1)), F) 1 (1 + 26 + 3 * p) (1 + 18 + 2 * q) n w a kn kk g wy (nI m) := ⟨_, rfl⟩
              rw [← hA] at C
              have ao : ∀ x, x ≠ 5 → x ≠ 6 → x ≠ 7 → x ≠ 8 → ∀ z, ¬ (x = 0 ∧ z = 8) → A.1 x z = I x z := fun x a1 a2 a3 a4 z a5 => by
                rw [hA, cv_mk_o _ _ _ _ _ _ _ _ _ _ _ _ _ a1 a2 a3 a4]
                exact vm_up_n2 _ _ _ _ _ _ a5
              have af : ∀ x, x ≠ 9 → x ≠ 10 → x ≠ 11 → A.2 x = F x := fun x a1 a2 a3 => by
                rw [hA, cv_mk_p _ _ _ _ _ _ _ _ _ _ _ _ _ a1 a2 a3]
              have a8 : A.1 0 8 = nI (u + 1) := by
                rw [hA, cv_mk_o _ _ _ _ _ _ _ _ _ _ _ _ _ (by decide) (by decide) (by decide) (by decide)]
                exact (show vm_up I 0 8 (nI (u + 1)) 0 8 = nI (u + 1) from vm_up_h _ _ _ _)
              have ah : A.1 (1 + 4) 0 = nI wy ∧ A.1 (1 + 4) 1 = nI w ∧ A.1 (1 + 4) 2 = nI a := by
                rw [hA]
                exact cv_mk_f _ _ _ _ _ _ _ _ _ _ _ _
              have ag : ∀ x, 153 ≤ x → ∀ z, A.1 x z = I x z := fun x hx z => ao x (by omega) (by omega) (by omega) (by omega) z (by omega)
              have a2 : ∀ z, A.1 152 z = I 152 z := fun z => ao 152 (by decide) (by decide) (by decide) (by decide) z (by omega)
              have hlo : ∀ i, i < 6 → vf_ok (A.2 179 i) := fun i hi => by
                rw [af 179 (by decide) (by decide) (by decide)]
                exact h.nan i hi
              have D := r_make_y (l := l) (X := X) (I := A.1) (F := A.2) hR ((ag 156 (by decide) p).trans hpr) hp (by omega) hn ((ag 153 (by decide) q).trans hr.1) ((ag 154 (by decide) q).trans hr.2) hq hw ha hww ((a2 7).trans hrr2) hkn ((a2 9).trans hrr4) hg ((a2 8).trans hrr3) hkk hlo ((a2 6).trans hrr1) (cl_m4 hm4) hwy ((a2 10).trans hu2) hv
              have j0 : ∀ x, x ≠ 152 → (vm_up (vm_up A.1 152 10 (nI (u + 1))) 152 40 0) x = A.1 x := fun x hx => by rw [vm_up_f _ _ _ _ _ hx, vm_up_f _ _ _ _ _ hx]
              have M := mk_all (I := vm_up I 0 8 (nI (u + 1))) (J := vm_up (vm_up A.1 152 10 (nI (u + 1))) 152 40 0) (F := F) (K := A.2) (B := 1) (a := 1 + 26 + 3 * p) (pa := 1 + 18 + 2 * q) (p := p) (q := q) (n := n) (s := 0) (w := w) (h := a) (kn := kn) (k := kk) (g := g) (wy := wy) (m := nI m) (by omega) (by omega) (by omega) (by omega) (by omega) (by omega) hw ha hkn (by decide) hwy (fun e he => by
                rw [vm_up_f I 0 8 _ (1 + 26 + 3 * p) (by omega), j0 157 (by decide), ag 157 (by decide)]
                exact (hpk e he).1.1) (fun z hz => by
                rw [vm_up_f I 0 8 _ (1 + 18 + 2 * q) (by omega), j0 155 (by decide), ag 155 (by decide)]
                exact hpx z (by omega)) hlo
              rw [← hA] at M
              have ro := fun x b1 b2 b3 b4 b5 b6 => rv_mk_o (vm_up (vm_up A.1 152 10 (nI (u + 1))) 152 40 0, A.2) q p n 0 w a kn g kk wy (nI m) x b1 b2 b3 b4 b5 b6
              have rf := rv_mk_f (vm_up (vm_up A.1 152 10 (nI (u + 1))) 152 40 0, A.2) q p n 0 w a kn g kk wy (nI m) hwy
              have rp := fun x b1 b2 b3 => rv_mk_p (vm_up (vm_up A.1 152 10 (nI (u + 1))) 152 40 0, A.2) q p n 0 w a kn g kk wy (nI m) x b1 b2 b3
              have rk := rv_mk_ok (H := (vm_up (vm_up A.1 152 10 (nI (u + 1))) 152 40 0, A.2)) (q := q) (p := p) (n := n) (s := 0) (g := g) (k := kk) (wy := wy) (m := nI m) hlo hw ha (by decide) hkn
              generalize rv_mk (vm_up (vm_up A.1 152 10 (nI (u + 1))) 152 40 0, A.2) q p n 0 w a kn g kk wy (nI m) = Z at *
              obtain ⟨M1, M2⟩ := M
              have zc : ∀ x, x < 152 → Z.1 x = A.1 x := fun x hx => (ro x (by omega) (by omega) (by omega) (by omega) (by omega) (by omega)).trans (j0 x (by omega))
              refine .mut C D (congrArg Value.int (mk_cnt fun z hz => ?_)) (Rel_sh h (fun x z hm2 b1 b2 b3 b4 => ?_) ((rp 46 (by decide) (by decide) (by decide)).trans (af 46 (by decide) (by decide) (by decide))) ((rp 190 (by decide) (by decide) (by decide)).trans (af 190 (by decide) (by decide) (by decide))) ⟨u + 1, hv, ?_, ?_⟩ (Or.inr ⟨wy, w, a, ⟨hwy, hww, hw, hh0, ha⟩, ?_, rf, fun z hz => ?_, fun c hc => ?_⟩) rk)
              · exact (M1 z hz).2.1.symm
              · by_cases c : x = 152
                · subst c
                  rw [ro 152 (by decide) (by decide) (by decide) (by decide) (by decide) (by decide)]
                  show vm_up (vm_up A.1 152 10 (nI (u + 1))) 152 40 0 152 z = _
                  rw [vm_up_k2 _ _ _ _ _ (by unfold cl_mn at hm2; omega), vm_up_k2 _ _ _ _ _ (by omega)]
                  exact a2 z
                · rw [ro x (by omega) (by omega) (by omega) (by omega) (by omega) (by omega)]
                  show vm_up (vm_up A.1 152 10 (nI (u + 1))) 152 40 0 x z = _
                  rw [j0 x c]
                  exact ao x (by omega) (by omega) (by omega) (by omega) z b3
              · rw [zc 0 (by decide)]
                exact a8
              · rw [ro 152 (by decide) (by decide) (by decide) (by decide) (by decide) (by decide)]
                show vm_up (vm_up A.1 152 10 (nI (u + 1))) 152 40 0 152 10 = _
                rw [vm_up_k2 _ _ _ _ _ (by decide)]
                exact vm_up_h _ _ _ _
              · rw [zc (1 + 4) (by decide)]
                exact ah
              · have := M1 z hz
                rw [Nat.mul_zero, Nat.zero_add] at this
                rw [zc (1 + 5) (by decide), zc (1 + 6) (by decide), zc (1 + 7) (by decide)]
                exact this
              · have := M2 c hc
                rw [Nat.mul_zero, Nat.zero_add] at this
                rw [rp (1 + 8) (by decide) (by decide) (by decide)]
                exact this
            · exact .pure (c_make_f hD hp hpc (by omega) hn hc.1 hq hw hww hwy hu1 (by omega) hu) (r_make_f hR hp hpr (by omega) hn hr.1 hq hw hww hwy hu2 (by omega) hu) h
        · exact .pure (c_make_b hD hp hc.1 hq hw hww hk) (r_make_b hR hp hr.1 hq hw hww hk) h
    · exact .pure (c_make_nx hD hp hx2) (r_make_x hR hx2) h
  · by_cases hx2 : 0 ≤ e ∧ e ≤ 3
    · obtain ⟨q, hq, rfl⟩ := cl_q3 hx2
      obtain ⟨w, a, hw, ha, h0, h1, hc, hr, hpx⟩ := h.pic q hq
      by_cases hw0 : w = 0
      · exact .pure (c_make_xm hD hx hc.1 hq hw hw0) (r_make_m hR hr.1 hq hw hw0) h
      · exact .pure (c_make_xy hD hx hc.1 hq hw (by omega)) (r_make_p hR hr.1 hq hw (by omega) hx) h
    · exact .pure (c_make_xx hD hx hx2) (r_make_x hR hx2) h
