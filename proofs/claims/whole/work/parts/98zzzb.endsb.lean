/-- ENDS: beginning and coming back -/
theorem en_0 {I H : vm_IH} {F : vm_FH} (h : Rel I F) (v v' : Int32) (hH : ∀ x, 152 ≤ x → H x = I x) : en_S (vm_bW (vm_up I 0 8 v) 75 1) (rv_m1 (vm_up H 152 10 v')) := by
  obtain ⟨q1, q2, q3, -⟩ := vm_bW_q (vm_up I 0 8 v) 75 1 (Or.inr (by decide))
  have r : ∀ x, 153 ≤ x → x ≠ 189 → rv_m1 (vm_up H 152 10 v') x = I x := fun x h1 h2 => by
    rw [rv_m1_o _ _ h2 (by omega), vm_up_f _ _ _ _ _ (by omega), hH x (by omega)]
  have f : ∀ b, b ≠ 55 → b ≠ 56 → b ≠ 10 → rv_m1 (vm_up H 152 10 v') 152 b = I 152 b := fun b h1 h2 h3 => by
    rw [rv_m1_f _ _ h2 h1, vm_up_k2 _ _ _ _ _ h3, hH 152 (by decide)]
  have i0 : ∀ x, x ≠ 0 → vm_up I 0 8 v x = I x := fun x hx => vm_up_f _ _ _ _ _ hx
  obtain ⟨m, kn, kk, g, ⟨hm4, hkn, hkk, hg⟩, hcr, hrr1, hrr2, hrr3, hrr4⟩ := h.rul
  refine ⟨fun p hp => ?_, ⟨m, kn, ⟨hm4, hkn⟩, ⟨?_, ?_⟩, ?_, ?_⟩, fun z hz => ?_⟩
  · obtain ⟨n, hn, h1, h2, h3⟩ := h.pal p hp
    obtain ⟨a, b, c⟩ := q2 p hp
    refine ⟨n, hn, ?_, ?_, fun e he => ?_⟩
    · rw [a, i0 _ (by omega)]
      exact h1
    · rw [r 156 (by decide) (by decide)]
      exact h2
    · show (vm_bW (vm_up I 0 8 v) 75 1 (75 + 26 + 3 * p) e = rv_m1 (vm_up H 152 10 v') 157 (16 * p + e) ∧ sp_col (rv_m1 (vm_up H 152 10 v') 157 (16 * p + e))) ∧ vm_bW (vm_up I 0 8 v) 75 1 (75 + 27 + 3 * p) e = rv_m1 (vm_up H 152 10 v') 158 (16 * p + e) ∧ (rv_m1 (vm_up H 152 10 v') 158 (16 * p + e) = 0 ∨ rv_m1 (vm_up H 152 10 v') 158 (16 * p + e) = 1)
      rw [b e (by omega), c e (by omega), i0 (1 + 26 + 3 * p) (by omega), i0 (1 + 27 + 3 * p) (by omega), r 157 (by decide) (by decide), r 158 (by decide) (by decide)]
      exact h3 e he
  · rw [q3 0 (by decide), i0 _ (by decide)]
    exact hcr.1
  · rw [q3 1 (by decide), i0 _ (by decide)]
    exact hcr.2.1
  · rw [f 6 (by decide) (by decide) (by decide)]
    exact hrr1
  · rw [f 7 (by decide) (by decide) (by decide)]
    exact hrr2
  · obtain ⟨w, a, -, -, -, -, -, -, hk⟩ := h.pic 0 (by decide)
    have e := (q1 0 (by decide)).2.2 z hz
    rw [show 75 + 18 = 75 + 18 + 2 * 0 from rfl, e, i0 _ (by decide), r 155 (by decide) (by decide)]
    have q : I (1 + 18 + 2 * 0) z = I 155 (144 * 0 + z) ∧ sp_col (I 155 (144 * 0 + z)) := hk z hz
    rw [show 144 * 0 + z = z by omega] at q
    exact q
theorem en_iv {A J : vm_IH} (S : en_S A J) : rv_iv J := by
  obtain ⟨S1, ⟨m, kn, ⟨hm, hkn⟩, -, s3, s4⟩, -⟩ := S
  refine ⟨fun p hp => ?_, ⟨m, hm, s3⟩, ⟨kn, hkn, s4⟩⟩
  obtain ⟨n, hn, -, h2, -⟩ := S1 p hp
  exact ⟨n, hn, h2⟩
theorem en_fin {I H J : vm_IH} {F F' : vm_FH} {u : Nat} (h : Rel I F) (hv : u + 1 ≤ 6000) (h1 : ∀ x, x < 152 → ∀ z, cl_mn x z → ¬ (x = 0 ∧ z = 8) → H x z = I x z) (h8 : H 0 8 = nI (u + 1)) (h2 : ∀ x, 152 ≤ x → H x = I x) (j9 : J 189 = rv_m1 (vm_up H 152 10 (nI (u + 1))) 189) (j6 : ∀ k, 4 ≤ k → J 156 k = I 156 k) (j7 : ∀ k, 64 ≤ k → J 157 k = I 157 k) (j8 : ∀ k, 64 ≤ k → J 158 k = I 158 k) (jt : tr_F I J) (jo : ∀ x, x ≠ 152 → x ≠ 189 → ¬ (156 ≤ x ∧ x ≤ 158) → ¬ (170 ≤ x ∧ x ≤ 178) → J x = H x) (jf : ∀ b, b ≠ 6 → b ≠ 7 → b ≠ 40 → b ≠ 55 → b ≠ 56 → J 152 b = vm_up H 152 10 (nI (u + 1)) 152 b) (g : tr_G F F') (f9 : F' 9 = F 9) (f46 : F' 46 = F 46) (f190 : F' 190 = F 190) (hn : R_nan F') : Rel (rv_m0 J) F' := by
  have i0 : ∀ x, 153 ≤ x → vm_up H 152 10 (nI (u + 1)) x = I x := fun x hx => by rw [vm_up_f _ _ _ _ _ (by omega), h2 x (by omega)]
  obtain ⟨b6, b7, b8, c6, c7⟩ := rv_mb_all (I := vm_up H 152 10 (nI (u + 1))) (J := J) j9 (fun k hk => by rw [i0 156 (by decide)]; exact j6 k hk) (fun k hk => by rw [i0 157 (by decide)]; exact j7 k hk) (fun k hk => by rw [i0 158 (by decide)]; exact j8 k hk)
  rw [i0 156 (by decide)] at b6
  rw [i0 157 (by decide)] at b7
  rw [i0 158 (by decide)] at b8
  rw [vm_up_k2 _ _ _ _ _ (by decide), h2 152 (by decide)] at c6 c7
  have zo : ∀ x, x ≠ 152 → ¬ (156 ≤ x ∧ x ≤ 158) → rv_m0 J x = J x := fun x a b => rv_m0_o _ _ (by omega) (by omega) (by omega) a
  have zf : ∀ b, b ≠ 6 → b ≠ 7 → b ≠ 40 → b ≠ 55 → b ≠ 56 → rv_m0 J 152 b = vm_up H 152 10 (nI (u + 1)) 152 b := fun b a1 a2 a3 a4 a5 => (rv_m0_f _ _ a5 a4 a1 a2).trans (jf b a1 a2 a3 a4 a5)
  have q0 : Rel (fun x => if x = 189 then I 189 else rv_m0 J x) F' := by
    refine Rel_tr h (fun x z hm2 d1 d3 d4 => ?_) ⟨fun x a b => ?_, fun x a b k hk => ?_⟩ g f9 f46 f190 ⟨u + 1, hv, ?_, ?_⟩ hn
    · by_cases c : x = 189
      · show (if x = 189 then I 189 else rv_m0 J x) z = _
        rw [if_pos c, c]
      · show (if x = 189 then I 189 else rv_m0 J x) z = _
        rw [if_neg c]
        by_cases c2 : x = 152
        · subst c2
          by_cases e6 : z = 6
          · rw [e6]
            exact c6
          · by_cases e7 : z = 7
            · rw [e7]
              exact c7
            · rw [zf z e6 e7 (by unfold cl_mn at hm2; omega) (by unfold cl_mn at hm2; omega) (by unfold cl_mn at hm2; omega), vm_up_k2 _ _ _ _ _ (by omega), h2 152 (by decide)]
        · by_cases c3 : 156 ≤ x ∧ x ≤ 158
          · rcases (show x = 156 ∨ x = 157 ∨ x = 158 by omega) with rfl | rfl | rfl
            · rw [b6]
            · rw [b7]
            · rw [b8]
          · rw [zo x c2 c3, jo x c2 c c3 (by unfold cl_mn at hm2; omega)]
            by_cases c4 : x < 152
            · exact h1 x c4 z hm2 d3
            · rw [h2 x (by omega)]
    · show (if x = 189 then I 189 else rv_m0 J x) 0 = _
      rw [if_neg (by omega), zo x (by omega) (by omega)]
      exact jt.1 x a b
    · show (if x = 189 then I 189 else rv_m0 J x) k = _
      rw [if_neg (by omega), zo x (by omega) (by omega)]
      exact jt.2 x a b k hk
    · show (if 0 = 189 then I 189 else rv_m0 J 0) 8 = _
      rw [if_neg (by decide), zo 0 (by decide) (by decide), jo 0 (by decide) (by decide) (by decide) (by decide)]
      exact h8
    · show (if 152 = 189 then I 189 else rv_m0 J 152) 10 = _
      rw [if_neg (by decide), zf 10 (by decide) (by decide) (by decide) (by decide) (by decide)]
      exact vm_up_h _ _ _ _
  refine Rel_189 q0 (fun x hx => (if_neg hx).symm) fun k hk => ?_
  show rv_m0 J 189 k = (if 189 = 189 then I 189 else rv_m0 J 189) k
  rw [if_pos rfl, zo 189 (by decide) (by decide), j9, sv_m1 _ _ (by omega), i0 189 (by decide)]
theorem su_e3 {f g f' g' : Nat → Int32} {N : Nat} (H : ∀ p, p < N → f' p = f p ∧ g' p = g p) : sp_e3 f' g' N = sp_e3 f g N := by
  have T : ∀ k, sp_sum (fun y => sp_sh f' g' k y * sp_sh f' g' k y) N = sp_sum (fun y => sp_sh f g k y * sp_sh f g k y) N := fun k => sp_sum_ext fun y hy => by rw [su_sh (H y hy).1 (H y hy).2]
  unfold sp_e3
  rw [T, T, T]
/-- the heap that the class leaves, of a plan only -/
theorem en_A {I : vm_IH} {w h v : Nat} {x0 : Int32} {pw pn : Nat → Nat} (hb : ∀ j, j < v → sp_pb (pw j) (pn j)) (x : Nat) (h1 : x < 75 ∨ 112 ≤ x) (h3 : x ≠ 133) (h4 : x ≠ 134) : cv_gs (vm_bW (vm_up I 0 8 x0) 75 1) w h pw pn v x = vm_up I 0 8 x0 x := by
  rw [cv_gs_o hb x (by omega) (by omega) h3 h4 v (Nat.le_refl v)]
  exact vm_bW_o _ _ _ _ (by omega)
theorem call_ends {l : Launch} {X : vm_Cx} {G : List vm_Sh} {I : Nat → Nat → Int32} {F : Nat → Nat → UInt32} {k : Int32} (hD : vm_isD G) (hR : vm_isR G) (h : Rel I F) : vm_Cl l X G I F vm_M133 vm_M284 [.int k] := by
  by_cases hk : 0 ≤ k ∧ k ≤ 1
  · obtain ⟨wy, -, hwy, rfl⟩ := cl_rng hk (a := 0) (b := 1) rfl rfl (by decide) (by decide)
    replace hwy : wy < 2 := by omega
    obtain ⟨u, hu, hu1, hu2⟩ := h.wrk
    by_cases hv : u + 1 ≤ 6000
    · obtain ⟨m, kn, kk, g, ⟨hm4, hkn, hkk, hg⟩, hcr, hrr1, hrr2, hrr3, hrr4⟩ := h.rul
      obtain ⟨w, a, hw, ha, h0, h1, hc, hr, hpx⟩ := h.pic 0 (by decide)
      obtain ⟨v, hv8, hv1, hv2, hvk⟩ := h.pln
      have hP2 : ∀ k, k < v → (I 185 k = nI (I 185 k).toNatClampNeg ∧ I 186 k = nI (I 186 k).toNatClampNeg) ∧ sp_pb (I 185 k).toNatClampNeg (I 186 k).toNatClampNeg := fun k hk => by
        obtain ⟨c, m, hb, -, h3, h4⟩ := hvk k hk
        have hb1 : c < 4 := hb.1
        have hb2 : m ≤ 15 := hb.2.1
        rw [h3, h4, vm_toM c (by omega), vm_toM m (by omega)]
        exact ⟨⟨rfl, rfl⟩, hb⟩
      have hP1 : ∀ k, k < v → (I (1 + 14) (3 * k + 0) = nI (I 185 k).toNatClampNeg ∧ I (1 + 14) (3 * k + 1) = nI (I 186 k).toNatClampNeg) ∧ sp_pb (I 185 k).toNatClampNeg (I 186 k).toNatClampNeg := fun k hk => by
        obtain ⟨c, m, hb, ⟨h5, h6⟩, h3, h4⟩ := hvk k hk
        have hb1 : c < 4 := hb.1
        have hb2 : m ≤ 15 := hb.2.1
        rw [h3, h4, vm_toM c (by omega), vm_toM m (by omega)]
        exact ⟨⟨h5, h6⟩, hb⟩
      have hb : ∀ j, j < v → sp_pb (I 185 j).toNatClampNeg (I 186 j).toNatClampNeg := fun j hj => (hP2 j hj).2
      have civ : (∀ p, p < 4 → ∃ n, n ≤ 16 ∧ I (1 + 25 + 3 * p) 0 = nI n) ∧ (∃ m, m < 4 ∧ I (1 + 3) 0 = nI m) ∧ (∃ kn, kn < 5 ∧ I (1 + 3) 1 = nI kn) := ⟨fun p hp => by
        obtain ⟨n, hn, h1, -, -⟩ := h.pal p hp
        exact ⟨n, hn, h1⟩, ⟨m, hm4, hcr.1⟩, ⟨kn, hkn, hcr.2.1⟩⟩
      have riv : rv_iv I := ⟨fun p hp => by
        obtain ⟨n, hn, -, h1, -⟩ := h.pal p hp
        exact ⟨n, hn, h1⟩, ⟨m, hm4, hrr1⟩, ⟨kn, hkn, hrr2⟩⟩
      have aA := fun x b1 b2 b3 => en_A (I := I) (w := w) (h := a) (v := v) (x0 := nI (u + 1)) (pw := fun k => (I 185 k).toNatClampNeg) (pn := fun k => (I 186 k).toNatClampNeg) hb x b1 b2 b3
      have aF : ∀ x, x ≠ 83 → vm_cp F (1 + 8) (75 + 8) 3 x = F x := fun x hx => vm_cp_f _ _ _ _ _ hx
      have S0 := fun (H : vm_IH) hH => en_gs (w := w) (h := a) (en_0 (H := H) h (nI (u + 1)) (nI (u + 1)) hH) hb hw ha v (Nat.le_refl v)
      have I0 := fun (H : vm_IH) hH => en_iv (en_0 (H := H) h (nI (u + 1)) (nI (u + 1)) hH)
      obtain ⟨A, hA⟩ : ∃ A, A = cv_gs (vm_bW (vm_up I 0 8 (nI (u + 1))) 75 1) w a (fun k => (I 185 k).toNatClampNeg) (fun k => (I 186 k).toNatClampNeg) v := ⟨_, rfl⟩
      rw [← hA] at S0
      have ax : ∀ x, (x < 75 ∨ 112 ≤ x) → x ≠ 133 → x ≠ 134 → A x = vm_up I 0 8 (nI (u + 1)) x := fun x b1 b2 b3 => by rw [hA]; exact aA x b1 b2 b3
      have a1 : ∀ x, x < 152 → ∀ z, cl_mn x z → ¬ (x = 0 ∧ z = 8) → A x z = I x z := fun x hx z hm2 h8 => by
        rw [ax x (by unfold cl_mn at hm2; omega) (by unfold cl_mn at hm2; omega) (by unfold cl_mn at hm2; omega), vm_up_n2 _ _ _ _ _ _ h8]
      have a8 : A 0 8 = nI (u + 1) := by
        rw [ax 0 (by decide) (by decide) (by decide)]
        exact vm_up_h _ _ _ _
      have a2 : ∀ x, 152 ≤ x → A x = I x := fun x hx => by
        rw [ax x (by omega) (by omega) (by omega), vm_up_f _ _ _ _ _ (by omega)]
      -- what the reference does with the plan, over a heap that keeps the reference's rows
      have RJ : ∀ H : vm_IH, (∀ x, 152 ≤ x → H x = I x) → ∀ J, J = rv_gs (rv_m1 (vm_up H 152 10 (nI (u + 1)))) w a (fun k => (I 185 k).toNatClampNeg) (fun k => (I 186 k).toNatClampNeg) v → en_S A J ∧ J 189 = rv_m1 (vm_up H 152 10 (nI (u + 1))) 189 ∧ (∀ k, 4 ≤ k → J 156 k = I 156 k) ∧ (∀ k, 64 ≤ k → J 157 k = I 157 k) ∧ (∀ k, 64 ≤ k → J 158 k = I 158 k) ∧ (∀ x, x ≠ 152 → x ≠ 189 → ¬ (156 ≤ x ∧ x ≤ 158) → ¬ (170 ≤ x ∧ x ≤ 172) → J x = H x) ∧ ∀ b, b ≠ 6 → b ≠ 7 → b ≠ 40 → b ≠ 55 → b ≠ 56 → J 152 b = vm_up H 152 10 (nI (u + 1)) 152 b := by
        intro H hH J hJ
        have G := rv_gs_g (w := w) (h := a) (I0 H hH) hb v (Nat.le_refl v)
        have m1 : ∀ x, 153 ≤ x → x ≠ 189 → rv_m1 (vm_up H 152 10 (nI (u + 1))) x = H x := fun x b1 b2 => by rw [rv_m1_o _ _ b2 (by omega), vm_up_f _ _ _ _ _ (by omega)]
        subst hJ
        refine ⟨S0 H hH, rv_gs_o _ _ _ _ _ _ (by decide) (by decide) (by decide) (by decide) (by decide) (by decide) (by decide) v, fun k hk => ?_, fun k hk => ?_, fun k hk => ?_, fun x b1 b2 b3 b4 => ?_, fun b b1 b2 b3 b4 b5 => ?_⟩
        · rw [G.1 k hk, m1 156 (by decide) (by decide), hH 156 (by decide)]
        · rw [G.2.1 k hk, m1 157 (by decide) (by decide), hH 157 (by decide)]
        · rw [G.2.2 k hk, m1 158 (by decide) (by decide), hH 158 (by decide)]
        · rw [rv_gs_o _ _ _ _ _ _ b1 (by omega) (by omega) (by omega) (by omega) (by omega) (by omega) v, rv_m1_o _ _ b2 b1, vm_up_f _ _ _ _ _ b1]
        · rw [rv_gs_f _ _ _ _ _ _ b1 b2 v, rv_m1_f _ _ b5 b4]
      rcases (show wy = 0 ∨ wy = 1 by omega) with rfl | rfl
      · have ha2 := a2
        rw [hA] at ha2
        have rivA : rv_iv (cv_gs (vm_bW (vm_up I 0 8 (nI (u + 1))) 75 1) w a (fun k => (I 185 k).toNatClampNeg) (fun k => (I 186 k).toNatClampNeg) v) := by
          unfold rv_iv
          rw [ha2 156 (by decide), ha2 152 (by decide)]
          exact riv
        by_cases hw0 : w = 0
        · exact .mut (c_ends_w0 (l := l) (X := X) (F := F) (pw := fun k => (I 185 k).toNatClampNeg) (pn := fun k => (I 186 k).toNatClampNeg) hD hc.1 hc.2 hw ha hu1 hv hv1 hv8 hP1 civ hw0) (r_ends_w0 (l := l) (X := X) (F := vm_cp F (1 + 8) (75 + 8) 3) (pw := fun k => (I 185 k).toNatClampNeg) (pn := fun k => (I 186 k).toNatClampNeg) hR ((congrFun (ha2 153 (by decide)) 0).trans hr.1) ((congrFun (ha2 154 (by decide)) 0).trans hr.2) hw ha ((congrFun (ha2 152 (by decide)) 10).trans hu2) hv ((congrFun (ha2 152 (by decide)) 50).trans hv2) hv8 (fun k hk => by rw [ha2 185 (by decide), ha2 186 (by decide)]; exact hP2 k hk) rivA hw0) rfl (by
            obtain ⟨-, t1, t2, t3, t4, t5, t6⟩ := RJ A a2 _ rfl
            rw [← hA]
            generalize rv_gs (rv_m1 (vm_up A 152 10 (nI (u + 1)))) w a (fun k => (I 185 k).toNatClampNeg) (fun k => (I 186 k).toNatClampNeg) v = J at *
            have j0 : ∀ x, x ≠ 152 → vm_up J 152 40 1 x = J x := fun x hx => vm_up_f _ _ _ _ _ hx
            exact en_fin h hv a1 a8 a2 ((j0 189 (by decide)).trans t1) (fun k hk => (congrFun (j0 156 (by decide)) k).trans (t2 k hk)) (fun k hk => (congrFun (j0 157 (by decide)) k).trans (t3 k hk)) (fun k hk => (congrFun (j0 158 (by decide)) k).trans (t4 k hk)) (tr_o fun x b1 b2 => by rw [j0 x (by omega), t5 x (by omega) (by omega) (by omega) (by omega), a2 x (by omega)]) (fun x b1 b2 b3 b4 => by rw [j0 x b1]; exact t5 x b1 b2 b3 (by omega)) (fun b b1 b2 b3 b4 b5 => (vm_up_k2 _ _ _ _ _ b3).trans (t6 b b1 b2 b3 b4 b5)) (fun c hc => congrFun (aF 179 (by decide)) c) (aF 9 (by decide)) (aF 46 (by decide)) (aF 190 (by decide)) (Rnan_r h.nan (aF 179 (by decide))))
        · obtain ⟨n, hn, -, -, n3, n4, n5⟩ := en_N (S0 A a2) (show 0 < 4 by decide)
          obtain ⟨-, ⟨m2, k2, ⟨hm2, kn2⟩, ⟨s1, s2⟩, -, -⟩, -⟩ := S0 A a2
          by_cases hn0 : n = 0
          · have hA0 : cv_gs (vm_bW (vm_up I 0 8 (nI (u + 1))) 75 1) w a (fun k => (I 185 k).toNatClampNeg) (fun k => (I 186 k).toNatClampNeg) v (75 + 25 + 3 * 0) 0 = 0 := by
              rw [← hA, n3, hn0]
              rfl
            have hJ0 : rv_gs (rv_m1 (vm_up (cv_gs (vm_bW (vm_up I 0 8 (nI (u + 1))) 75 1) w a (fun k => (I 185 k).toNatClampNeg) (fun k => (I 186 k).toNatClampNeg) v) 152 10 (nI (u + 1)))) w a (fun k => (I 185 k).toNatClampNeg) (fun k => (I 186 k).toNatClampNeg) v 156 0 = 0 := by
              rw [← hA, n4, hn0]
              rfl
            exact .mut (c_ends_e0 (l := l) (X := X) (F := F) (pw := fun k => (I 185 k).toNatClampNeg) (pn := fun k => (I 186 k).toNatClampNeg) hD hc.1 hc.2 hw ha hu1 hv hv1 hv8 hP1 civ (by omega) hA0) (r_ends_e0 (l := l) (X := X) (F := vm_cp F (1 + 8) (75 + 8) 3) (pw := fun k => (I 185 k).toNatClampNeg) (pn := fun k => (I 186 k).toNatClampNeg) hR ((congrFun (ha2 153 (by decide)) 0).trans hr.1) ((congrFun (ha2 154 (by decide)) 0).trans hr.2) hw ha ((congrFun (ha2 152 (by decide)) 10).trans hu2) hv ((congrFun (ha2 152 (by decide)) 50).trans hv2) hv8 (fun k hk => by rw [ha2 185 (by decide), ha2 186 (by decide)]; exact hP2 k hk) rivA (by omega) hJ0) rfl (by
              obtain ⟨-, t1, t2, t3, t4, t5, t6⟩ := RJ A a2 _ rfl
              rw [← hA]
              generalize rv_gs (rv_m1 (vm_up A 152 10 (nI (u + 1)))) w a (fun k => (I 185 k).toNatClampNeg) (fun k => (I 186 k).toNatClampNeg) v = J at *
              have j0 : ∀ x, x ≠ 152 → vm_up J 152 40 1 x = J x := fun x hx => vm_up_f _ _ _ _ _ hx
              exact en_fin h hv a1 a8 a2 ((j0 189 (by decide)).trans t1) (fun k hk => (congrFun (j0 156 (by decide)) k).trans (t2 k hk)) (fun k hk => (congrFun (j0 157 (by decide)) k).trans (t3 k hk)) (fun k hk => (congrFun (j0 158 (by decide)) k).trans (t4 k hk)) (tr_o fun x b1 b2 => by rw [j0 x (by omega), t5 x (by omega) (by omega) (by omega) (by omega), a2 x (by omega)]) (fun x b1 b2 b3 b4 => by rw [j0 x b1]; exact t5 x b1 b2 b3 (by omega)) (fun b b1 b2 b3 b4 b5 => (vm_up_k2 _ _ _ _ _ b3).trans (t6 b b1 b2 b3 b4 b5)) (fun c hc => congrFun (aF 179 (by decide)) c) (aF 9 (by decide)) (aF 46 (by decide)) (aF 190 (by decide)) (Rnan_r h.nan (aF 179 (by decide))))
          · have C := c_ends_y0 (l := l) (X := X) (F := F) (m := nI m2) (pw := fun k => (I 185 k).toNatClampNeg) (pn := fun k => (I 186 k).toNatClampNeg) hD hc.1 hc.2 hw ha hu1 hv hv1 hv8 hP1 civ (by omega) (by rw [← hA]; exact n3) (by omega) hn (by rw [← hA]; exact s2) kn2 hcr.2.2.2 hg hcr.2.2.1 hkk (by rw [← hA]; exact s1)
            rw [← hA] at C
            obtain ⟨V, hV⟩ : ∃ V, V = cv_mk (A, vm_cp F (1 + 8) (75 + 8) 3) 75 (75 + 26 + 3 * 0) (75 + 18 + 2 * 0) n w a k2 kk g 1 (nI m2) := ⟨_, rfl⟩
            rw [← hV] at C
            have vo : ∀ x, x ≠ 79 → x ≠ 80 → x ≠ 81 → x ≠ 82 → V.1 x = A x := fun x b1 b2 b3 b4 => by rw [hV, cv_mk_o _ _ _ _ _ _ _ _ _ _ _ _ _ b1 b2 b3 b4]
            have vf : ∀ x, x ≠ 83 → x ≠ 84 → x ≠ 85 → V.2 x = F x := fun x b1 b2 b3 => by rw [hV, cv_mk_p _ _ _ _ _ _ _ _ _ _ _ _ _ b1 b2 b3]; exact aF x b1
            have v1 : ∀ x, x < 152 → ∀ z, cl_mn x z → ¬ (x = 0 ∧ z = 8) → V.1 x z = I x z := fun x hx z hm2 h8 => by
              rw [vo x (by unfold cl_mn at hm2; omega) (by unfold cl_mn at hm2; omega) (by unfold cl_mn at hm2; omega) (by unfold cl_mn at hm2; omega)]
              exact a1 x hx z hm2 h8
            have v2 : ∀ x, 152 ≤ x → V.1 x = I x := fun x hx => (vo x (by omega) (by omega) (by omega) (by omega)).trans (a2 x hx)
            have hlo : ∀ i, i < 6 → vf_ok (V.2 179 i) := fun i hi => by
              rw [vf 179 (by decide) (by decide) (by decide)]
              exact h.nan i hi
            have rivV : rv_iv V.1 := by
              unfold rv_iv
              rw [v2 156 (by decide), v2 152 (by decide)]
              exact riv
            obtain ⟨J, hJ⟩ : ∃ J, J = rv_gs (rv_m1 (vm_up V.1 152 10 (nI (u + 1)))) w a (fun k => (I 185 k).toNatClampNeg) (fun k => (I 186 k).toNatClampNeg) v := ⟨_, rfl⟩
            obtain ⟨SJ, t1, t2, t3, t4, t5, t6⟩ := RJ V.1 v2 J hJ
            obtain ⟨n', c0, c1, -, c3, c4, c5⟩ := en_N SJ (show 0 < 4 by decide)
            have en : n' = n := cl_nI (c3.symm.trans n3) (by omega) (by omega)
            subst en
            obtain ⟨-, ⟨m3, k3, ⟨hm3, hk3⟩, ⟨s1', s2'⟩, s3, s4⟩, s5⟩ := SJ
            have em : m3 = m2 := cl_nI (s1'.symm.trans s1) (by omega) (by omega)
            have ek : k3 = k2 := cl_nI (s2'.symm.trans s2) (by omega) (by omega)
            subst em
            subst ek
            have D := r_ends_y0 (l := l) (X := X) (I := V.1) (F := V.2) (m := nI m3) (pw := fun k => (I 185 k).toNatClampNeg) (pn := fun k => (I 186 k).toNatClampNeg) hR ((congrFun (v2 153 (by decide)) 0).trans hr.1) ((congrFun (v2 154 (by decide)) 0).trans hr.2) hw ha ((congrFun (v2 152 (by decide)) 10).trans hu2) hv ((congrFun (v2 152 (by decide)) 50).trans hv2) hv8 (fun k hk => by rw [v2 185 (by decide), v2 186 (by decide)]; exact hP2 k hk) rivV (by omega) (by rw [← hJ]; exact c4) (by omega) hn (by rw [← hJ]; exact s4) kn2 ((congrFun (v2 152 (by decide)) 9).trans hrr4) hg ((congrFun (v2 152 (by decide)) 8).trans hrr3) hkk (by rw [← hJ]; exact s3) (cl_m4 hm3) hlo
            rw [← hJ] at D
            have j0 : ∀ x, x ≠ 152 → vm_up J 152 40 1 x = J x := fun x hx => vm_up_f _ _ _ _ _ hx
            have M := mk_all (I := A) (J := vm_up J 152 40 1) (F := vm_cp F (1 + 8) (75 + 8) 3) (K := V.2) (B := 75) (a := 75 + 26 + 3 * 0) (pa := 75 + 18 + 2 * 0) (p := 0) (q := 0) (n := n') (s := 1) (w := w) (h := a) (kn := k3) (k := kk) (g := g) (wy := 1) (m := nI m3) (by omega) (by decide) (by decide) (by decide) (by decide) (by decide) hw ha kn2 (by decide) (by decide) (fun e he => by
              rw [j0 157 (by decide)]
              exact (c5 e he).1.1) (fun z hz => by
              rw [j0 155 (by decide), Nat.mul_zero, Nat.zero_add]
              exact s5 z (by have := vm_mul144 hw ha; omega)) hlo
            rw [← hV] at M
            have ro := fun x b1 b2 b3 b4 b5 b6 => rv_mk_o (vm_up J 152 40 1, V.2) 0 0 n' 1 w a k3 g kk 1 (nI m3) x b1 b2 b3 b4 b5 b6
            have rt := tr_mk (vm_up J 152 40 1, V.2) 0 0 n' w a k3 g kk 1 (nI m3)
            have rp := fun x b1 b2 b3 => rv_mk_p (vm_up J 152 40 1, V.2) 0 0 n' 1 w a k3 g kk 1 (nI m3) x b1 b2 b3
            have rk := rv_mk_ok (H := (vm_up J 152 40 1, V.2)) (q := 0) (p := 0) (n := n') (s := 1) (g := g) (k := kk) (wy := 1) (m := nI m3) hlo hw ha (by decide) kn2
            generalize rv_mk (vm_up J 152 40 1, V.2) 0 0 n' 1 w a k3 g kk 1 (nI m3) = Z at *
            have zx : ∀ x, x ≠ 152 → ¬ (173 ≤ x ∧ x ≤ 178) → Z.1 x = J x := fun x b1 b2 => (ro x (by omega) (by omega) (by omega) (by omega) (by omega) (by omega)).trans (j0 x b1)
            have z5 : ∀ b, b ≠ 40 → Z.1 152 b = J 152 b := fun b hb => by
              rw [ro 152 (by decide) (by decide) (by decide) (by decide) (by decide) (by decide)]
              exact (show vm_up J 152 40 1 152 b = J 152 b from vm_up_k2 _ _ _ _ _ hb)
            have m8 : rv_m0 Z.1 178 = Z.1 178 := rv_m0_o _ _ (by decide) (by decide) (by decide) (by decide)
            have m6 : rv_m0 Z.1 176 = Z.1 176 := rv_m0_o _ _ (by decide) (by decide) (by decide) (by decide)
            rw [m8, m6] at D
            refine .mut C D (congrArg Value.int (su_e3 fun z hz => ⟨(M.1 z hz).2.2.symm, (M.1 z hz).1.symm⟩)) (en_fin h hv v1 ((congrFun (vo 0 (by decide) (by decide) (by decide) (by decide)) 8).trans a8) v2 ((zx 189 (by decide) (by decide)).trans t1) (fun k hk => (congrFun (zx 156 (by decide) (by decide)) k).trans (t2 k hk)) (fun k hk => (congrFun (zx 157 (by decide) (by decide)) k).trans (t3 k hk)) (fun k hk => (congrFun (zx 158 (by decide) (by decide)) k).trans (t4 k hk)) (tr_t (tr_o fun x b1 b2 => by show vm_up J 152 40 1 x = I x; rw [j0 x (by omega), t5 x (by omega) (by omega) (by omega) (by omega), v2 x (by omega)]) rt.1) (fun x b1 b2 b3 b4 => (zx x b1 (by omega)).trans (t5 x b1 b2 b3 (by omega))) (fun b b1 b2 b3 b4 b5 => (z5 b b3).trans (t6 b b1 b2 b3 b4 b5)) (fun c hc => (rt.2 c hc).trans (congrFun (vf 179 (by decide) (by decide) (by decide)) c)) ((rp 9 (by decide) (by decide) (by decide)).trans (vf 9 (by decide) (by decide) (by decide))) ((rp 46 (by decide) (by decide) (by decide)).trans (vf 46 (by decide) (by decide) (by decide))) ((rp 190 (by decide) (by decide) (by decide)).trans (vf 190 (by decide) (by decide) (by decide))) rk)
      · have ha2 := a2
        rw [hA] at ha2
        have rivA : rv_iv (cv_gs (vm_bW (vm_up I 0 8 (nI (u + 1))) 75 1) w a (fun k => (I 185 k).toNatClampNeg) (fun k => (I 186 k).toNatClampNeg) v) := by
          unfold rv_iv
          rw [ha2 156 (by decide), ha2 152 (by decide)]
          exact riv
        by_cases hw0 : w = 0
        · exact .mut (c_ends_w1 (l := l) (X := X) (F := F) (pw := fun k => (I 185 k).toNatClampNeg) (pn := fun k => (I 186 k).toNatClampNeg) hD hc.1 hc.2 hw ha hu1 hv hv1 hv8 hP1 civ hw0) (r_ends_w1 (l := l) (X := X) (F := vm_cp F (1 + 8) (75 + 8) 3) (pw := fun k => (I 185 k).toNatClampNeg) (pn := fun k => (I 186 k).toNatClampNeg) hR ((congrFun (ha2 153 (by decide)) 0).trans hr.1) ((congrFun (ha2 154 (by decide)) 0).trans hr.2) hw ha ((congrFun (ha2 152 (by decide)) 10).trans hu2) hv ((congrFun (ha2 152 (by decide)) 50).trans hv2) hv8 (fun k hk => by rw [ha2 185 (by decide), ha2 186 (by decide)]; exact hP2 k hk) rivA hw0) rfl (by
            obtain ⟨-, t1, t2, t3, t4, t5, t6⟩ := RJ A a2 _ rfl
            rw [← hA]
            generalize rv_gs (rv_m1 (vm_up A 152 10 (nI (u + 1)))) w a (fun k => (I 185 k).toNatClampNeg) (fun k => (I 186 k).toNatClampNeg) v = J at *
            have j0 : ∀ x, x ≠ 152 → vm_up J 152 40 1 x = J x := fun x hx => vm_up_f _ _ _ _ _ hx
            exact en_fin h hv a1 a8 a2 ((j0 189 (by decide)).trans t1) (fun k hk => (congrFun (j0 156 (by decide)) k).trans (t2 k hk)) (fun k hk => (congrFun (j0 157 (by decide)) k).trans (t3 k hk)) (fun k hk => (congrFun (j0 158 (by decide)) k).trans (t4 k hk)) (tr_o fun x b1 b2 => by rw [j0 x (by omega), t5 x (by omega) (by omega) (by omega) (by omega), a2 x (by omega)]) (fun x b1 b2 b3 b4 => by rw [j0 x b1]; exact t5 x b1 b2 b3 (by omega)) (fun b b1 b2 b3 b4 b5 => (vm_up_k2 _ _ _ _ _ b3).trans (t6 b b1 b2 b3 b4 b5)) (fun c hc => congrFun (aF 179 (by decide)) c) (aF 9 (by decide)) (aF 46 (by decide)) (aF 190 (by decide)) (Rnan_r h.nan (aF 179 (by decide))))
        · obtain ⟨n, hn, -, -, n3, n4, n5⟩ := en_N (S0 A a2) (show 0 < 4 by decide)
          obtain ⟨-, ⟨m2, k2, ⟨hm2, kn2⟩, ⟨s1, s2⟩, -, -⟩, -⟩ := S0 A a2
          by_cases hn0 : n = 0
          · have hA0 : cv_gs (vm_bW (vm_up I 0 8 (nI (u + 1))) 75 1) w a (fun k => (I 185 k).toNatClampNeg) (fun k => (I 186 k).toNatClampNeg) v (75 + 25 + 3 * 0) 0 = 0 := by
              rw [← hA, n3, hn0]
              rfl
            have hJ0 : rv_gs (rv_m1 (vm_up (cv_gs (vm_bW (vm_up I 0 8 (nI (u + 1))) 75 1) w a (fun k => (I 185 k).toNatClampNeg) (fun k => (I 186 k).toNatClampNeg) v) 152 10 (nI (u + 1)))) w a (fun k => (I 185 k).toNatClampNeg) (fun k => (I 186 k).toNatClampNeg) v 156 0 = 0 := by
              rw [← hA, n4, hn0]
              rfl
            exact .mut (c_ends_e1 (l := l) (X := X) (F := F) (pw := fun k => (I 185 k).toNatClampNeg) (pn := fun k => (I 186 k).toNatClampNeg) hD hc.1 hc.2 hw ha hu1 hv hv1 hv8 hP1 civ (by omega) hA0) (r_ends_e1 (l := l) (X := X) (F := vm_cp F (1 + 8) (75 + 8) 3) (pw := fun k => (I 185 k).toNatClampNeg) (pn := fun k => (I 186 k).toNatClampNeg) hR ((congrFun (ha2 153 (by decide)) 0).trans hr.1) ((congrFun (ha2 154 (by decide)) 0).trans hr.2) hw ha ((congrFun (ha2 152 (by decide)) 10).trans hu2) hv ((congrFun (ha2 152 (by decide)) 50).trans hv2) hv8 (fun k hk => by rw [ha2 185 (by decide), ha2 186 (by decide)]; exact hP2 k hk) rivA (by omega) hJ0) rfl (by
              obtain ⟨-, t1, t2, t3, t4, t5, t6⟩ := RJ A a2 _ rfl
              rw [← hA]
              generalize rv_gs (rv_m1 (vm_up A 152 10 (nI (u + 1)))) w a (fun k => (I 185 k).toNatClampNeg) (fun k => (I 186 k).toNatClampNeg) v = J at *
              have j0 : ∀ x, x ≠ 152 → vm_up J 152 40 1 x = J x := fun x hx => vm_up_f _ _ _ _ _ hx
              exact en_fin h hv a1 a8 a2 ((j0 189 (by decide)).trans t1) (fun k hk => (congrFun (j0 156 (by decide)) k).trans (t2 k hk)) (fun k hk => (congrFun (j0 157 (by decide)) k).trans (t3 k hk)) (fun k hk => (congrFun (j0 158 (by decide)) k).trans (t4 k hk)) (tr_o fun x b1 b2 => by rw [j0 x (by omega), t5 x (by omega) (by omega) (by omega) (by omega), a2 x (by omega)]) (fun x b1 b2 b3 b4 => by rw [j0 x b1]; exact t5 x b1 b2 b3 (by omega)) (fun b b1 b2 b3 b4 b5 => (vm_up_k2 _ _ _ _ _ b3).trans (t6 b b1 b2 b3 b4 b5)) (fun c hc => congrFun (aF 179 (by decide)) c) (aF 9 (by decide)) (aF 46 (by decide)) (aF 190 (by decide)) (Rnan_r h.nan (aF 179 (by decide))))
          · have C := c_ends_y1 (l := l) (X := X) (F := F) (m := nI m2) (pw := fun k => (I 185 k).toNatClampNeg) (pn := fun k => (I 186 k).toNatClampNeg) hD hc.1 hc.2 hw ha hu1 hv hv1 hv8 hP1 civ (by omega) (by rw [← hA]; exact n3) (by omega) hn (by rw [← hA]; exact s2) kn2 hcr.2.2.2 hg hcr.2.2.1 hkk (by rw [← hA]; exact s1)
            rw [← hA] at C
            obtain ⟨V, hV⟩ : ∃ V, V = cv_mk (A, vm_cp F (1 + 8) (75 + 8) 3) 75 (75 + 26 + 3 * 0) (75 + 18 + 2 * 0) n w a k2 kk g 1 (nI m2) := ⟨_, rfl⟩
            rw [← hV] at C
            have vo : ∀ x, x ≠ 79 → x ≠ 80 → x ≠ 81 → x ≠ 82 → V.1 x = A x := fun x b1 b2 b3 b4 => by rw [hV, cv_mk_o _ _ _ _ _ _ _ _ _ _ _ _ _ b1 b2 b3 b4]
            have vf : ∀ x, x ≠ 83 → x ≠ 84 → x ≠ 85 → V.2 x = F x := fun x b1 b2 b3 => by rw [hV, cv_mk_p _ _ _ _ _ _ _ _ _ _ _ _ _ b1 b2 b3]; exact aF x b1
            have v1 : ∀ x, x < 152 → ∀ z, cl_mn x z → ¬ (x = 0 ∧ z = 8) → V.1 x z = I x z := fun x hx z hm2 h8 => by
              rw [vo x (by unfold cl_mn at hm2; omega) (by unfold cl_mn at hm2; omega) (by unfold cl_mn at hm2; omega) (by unfold cl_mn at hm2; omega)]
              exact a1 x hx z hm2 h8
            have v2 : ∀ x, 152 ≤ x → V.1 x = I x := fun x hx => (vo x (by omega) (by omega) (by omega) (by omega)).trans (a2 x hx)
            have hlo : ∀ i, i < 6 → vf_ok (V.2 179 i) := fun i hi => by
              rw [vf 179 (by decide) (by decide) (by decide)]
              exact h.nan i hi
            have rivV : rv_iv V.1 := by
              unfold rv_iv
              rw [v2 156 (by decide), v2 152 (by decide)]
              exact riv
            obtain ⟨J, hJ⟩ : ∃ J, J = rv_gs (rv_m1 (vm_up V.1 152 10 (nI (u + 1)))) w a (fun k => (I 185 k).toNatClampNeg) (fun k => (I 186 k).toNatClampNeg) v := ⟨_, rfl⟩
            obtain ⟨SJ, t1, t2, t3, t4, t5, t6⟩ := RJ V.1 v2 J hJ
            obtain ⟨n', c0, c1, -, c3, c4, c5⟩ := en_N SJ (show 0 < 4 by decide)
            have en : n' = n := cl_nI (c3.symm.trans n3) (by omega) (by omega)
            subst en
            obtain ⟨-, ⟨m3, k3, ⟨hm3, hk3⟩, ⟨s1', s2'⟩, s3, s4⟩, s5⟩ := SJ
            have em : m3 = m2 := cl_nI (s1'.symm.trans s1) (by omega) (by omega)
            have ek : k3 = k2 := cl_nI (s2'.symm.trans s2) (by omega) (by omega)
            subst em
            subst ek
            have D := r_ends_y1 (l := l) (X := X) (I := V.1) (F := V.2) (m := nI m3) (pw := fun k => (I 185 k).toNatClampNeg) (pn := fun k => (I 186 k).toNatClampNeg) hR ((congrFun (v2 153 (by decide)) 0).trans hr.1) ((congrFun (v2 154 (by decide)) 0).trans hr.2) hw ha ((congrFun (v2 152 (by decide)) 10).trans hu2) hv ((congrFun (v2 152 (by decide)) 50).trans hv2) hv8 (fun k hk => by rw [v2 185 (by decide), v2 186 (by decide)]; exact hP2 k hk) rivV (by omega) (by rw [← hJ]; exact c4) (by omega) hn (by rw [← hJ]; exact s4) kn2 ((congrFun (v2 152 (by decide)) 9).trans hrr4) hg ((congrFun (v2 152 (by decide)) 8).trans hrr3) hkk (by rw [← hJ]; exact s3) (cl_m4 hm3) hlo
            rw [← hJ] at D
            have j0 : ∀ x, x ≠ 152 → vm_up J 152 40 1 x = J x := fun x hx => vm_up_f _ _ _ _ _ hx
            have M := mk_all (I := A) (J := vm_up J 152 40 1) (F := vm_cp F (1 + 8) (75 + 8) 3) (K := V.2) (B := 75) (a := 75 + 26 + 3 * 0) (pa := 75 + 18 + 2 * 0) (p := 0) (q := 0) (n := n') (s := 1) (w := w) (h := a) (kn := k3) (k := kk) (g := g) (wy := 1) (m := nI m3) (by omega) (by decide) (by decide) (by decide) (by decide) (by decide) hw ha kn2 (by decide) (by decide) (fun e he => by
              rw [j0 157 (by decide)]
              exact (c5 e he).1.1) (fun z hz => by
              rw [j0 155 (by decide), Nat.mul_zero, Nat.zero_add]
              exact s5 z (by have := vm_mul144 hw ha; omega)) hlo
            rw [← hV] at M
            have ro := fun x b1 b2 b3 b4 b5 b6 => rv_mk_o (vm_up J 152 40 1, V.2) 0 0 n' 1 w a k3 g kk 1 (nI m3) x b1 b2 b3 b4 b5 b6
            have rt := tr_mk (vm_up J 152 40 1, V.2) 0 0 n' w a k3 g kk 1 (nI m3)
            have rp := fun x b1 b2 b3 => rv_mk_p (vm_up J 152 40 1, V.2) 0 0 n' 1 w a k3 g kk 1 (nI m3) x b1 b2 b3
            have rk := rv_mk_ok (H := (vm_up J 152 40 1, V.2)) (q := 0) (p := 0) (n := n') (s := 1) (g := g) (k := kk) (wy := 1) (m := nI m3) hlo hw ha (by decide) kn2
            generalize rv_mk (vm_up J 152 40 1, V.2) 0 0 n' 1 w a k3 g kk 1 (nI m3) = Z at *
            have zx : ∀ x, x ≠ 152 → ¬ (173 ≤ x ∧ x ≤ 178) → Z.1 x = J x := fun x b1 b2 => (ro x (by omega) (by omega) (by omega) (by omega) (by omega) (by omega)).trans (j0 x b1)
            have z5 : ∀ b, b ≠ 40 → Z.1 152 b = J 152 b := fun b hb => by
              rw [ro 152 (by decide) (by decide) (by decide) (by decide) (by decide) (by decide)]
              exact (show vm_up J 152 40 1 152 b = J 152 b from vm_up_k2 _ _ _ _ _ hb)
            have m8 : rv_m0 Z.1 178 = Z.1 178 := rv_m0_o _ _ (by decide) (by decide) (by decide) (by decide)
            have m6 : rv_m0 Z.1 176 = Z.1 176 := rv_m0_o _ _ (by decide) (by decide) (by decide) (by decide)
            rw [m8, m6] at D
            refine .mut C D (congrArg Value.int (su_ba fun z hz => ⟨(M.1 z hz).2.2.symm, (M.1 z hz).1.symm⟩)) (en_fin h hv v1 ((congrFun (vo 0 (by decide) (by decide) (by decide) (by decide)) 8).trans a8) v2 ((zx 189 (by decide) (by decide)).trans t1) (fun k hk => (congrFun (zx 156 (by decide) (by decide)) k).trans (t2 k hk)) (fun k hk => (congrFun (zx 157 (by decide) (by decide)) k).trans (t3 k hk)) (fun k hk => (congrFun (zx 158 (by decide) (by decide)) k).trans (t4 k hk)) (tr_t (tr_o fun x b1 b2 => by show vm_up J 152 40 1 x = I x; rw [j0 x (by omega), t5 x (by omega) (by omega) (by omega) (by omega), v2 x (by omega)]) rt.1) (fun x b1 b2 b3 b4 => (zx x b1 (by omega)).trans (t5 x b1 b2 b3 (by omega))) (fun b b1 b2 b3 b4 b5 => (z5 b b3).trans (t6 b b1 b2 b3 b4 b5)) (fun c hc => (rt.2 c hc).trans (congrFun (vf 179 (by decide) (by decide) (by decide)) c)) ((rp 9 (by decide) (by decide) (by decide)).trans (vf 9 (by decide) (by decide) (by decide))) ((rp 46 (by decide) (by decide) (by decide)).trans (vf 46 (by decide) (by decide) (by decide))) ((rp 190 (by decide) (by decide) (by decide)).trans (vf 190 (by decide) (by decide) (by decide))) rk)
    · exact .pure (c_ends_f hD hwy hu1 (by omega) hu) (r_ends_f hR hwy hu2 (by omega) hu) h
  · exact .pure (c_ends_x hD hk) (r_ends_x hR hk) h
