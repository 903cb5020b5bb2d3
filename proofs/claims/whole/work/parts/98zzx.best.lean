/-- TRIALS: a making in the second sheet leaves the first -/
def tr_F (I I' : Nat → Nat → Int32) : Prop := (∀ x, 173 ≤ x → x ≤ 175 → I' x 0 = I x 0) ∧ ∀ x, 176 ≤ x → x ≤ 178 → ∀ k, k < 144 → I' x k = I x k
theorem tr_0 (I : Nat → Nat → Int32) : tr_F I I := ⟨fun _ _ _ => rfl, fun _ _ _ _ _ => rfl⟩
theorem tr_t {I J K : Nat → Nat → Int32} (h : tr_F I J) (h2 : tr_F J K) : tr_F I K := ⟨fun x a b => (h2.1 x a b).trans (h.1 x a b), fun x a b k hk => (h2.2 x a b k hk).trans (h.2 x a b k hk)⟩
theorem tr_o {I I' : Nat → Nat → Int32} (h : ∀ x, 173 ≤ x → x ≤ 178 → I' x = I x) : tr_F I I' := ⟨fun x a b => congrFun (h x a (by omega)) 0, fun x a b k _ => congrFun (h x (by omega) b) k⟩
theorem tr_fd (I : Nat → Nat → Int32) (p n q : Nat) (m c : Int32) : tr_F I (rv_fd I p n 1 q m c) := by
  unfold rv_fd
  refine ⟨fun x a b => ?_, fun x a b k hk => ?_⟩
  · rw [vm_up_f _ 178 _ _ _ (by omega), vm_up_f _ 177 _ _ _ (by omega)]
  · rw [vm_up_n2 _ _ _ _ _ _ (by omega), vm_up_n2 _ _ _ _ _ _ (by omega)]
theorem tr_mb (I : Nat → Nat → Int32) (q w h : Nat) (wy : Int32) : tr_F I (rv_mb I q 1 w h wy) := by
  unfold rv_mb
  refine ⟨fun x a b => ?_, fun x a b k hk => ?_⟩
  · rw [vm_wq_o _ _ _ _ _ _ (by omega), vm_up_n2 _ _ _ _ _ _ (by omega), vm_up_n2 _ _ _ _ _ _ (by omega), vm_up_n2 _ _ _ _ _ _ (by omega)]
  · have e : vm_wq (vm_up (vm_up (vm_up I 173 1 (nI w)) 174 1 (nI h)) 175 1 wy) 176 (fun b_ => I 155 (144 * q + (b_ - 144 * 1))) (144 * 1) (w * h) x k = vm_up (vm_up (vm_up I 173 1 (nI w)) 174 1 (nI h)) 175 1 wy x k := by
      unfold vm_wq
      by_cases c : x = 176
      · rw [if_pos c, if_neg (by omega), c]
      · rw [if_neg c]
    rw [e, vm_up_f _ _ _ _ _ (by omega), vm_up_f _ _ _ _ _ (by omega), vm_up_f _ _ _ _ _ (by omega)]
theorem tr_pl (I : Nat → Nat → Int32) (p n : Nat) (m : Int32) : ∀ k, tr_F I (rv_pl I p n 1 m k)
  | 0 => tr_0 I
  | k + 1 => tr_t (tr_pl I p n m k) (tr_fd _ _ _ _ _ _)
theorem tr_sr (I : Nat → Nat → Int32) (p n w y g k fl : Nat) (m : Int32) : ∀ i, tr_F I (rv_sr I p n 1 w y g k fl m i)
  | 0 => tr_0 I
  | i + 1 => tr_t (tr_sr I p n w y g k fl m i) (tr_fd _ _ _ _ _ _)
theorem tr_ss (I : Nat → Nat → Int32) (p n w g k fl : Nat) (m : Int32) : ∀ y, tr_F I (rv_ss I p n 1 w g k fl m y)
  | 0 => tr_0 I
  | y + 1 => tr_t (tr_ss I p n w g k fl m y) (tr_sr _ _ _ _ _ _ _ _ _ _)
/-- the first sheet's floats -/
def tr_G (F F' : Nat → Nat → UInt32) : Prop := ∀ c, c < 3 → F' 179 c = F 179 c
theorem tr_pt (F : Nat → Nat → UInt32) (w h : Nat) (tx : Int32) (b c : Nat) (m : UInt32) : tr_G F (sp_pt F 180 179 3 w h tx b c m) := by
  intro d hd
  unfold sp_pt
  split
  · rw [vm_up_f _ _ _ _ _ (by decide)]
  · rw [vm_up_k2 _ _ _ _ _ (by omega)]
theorem tr_Gt {F G H : Nat → Nat → UInt32} (h : tr_G F G) (h2 : tr_G G H) : tr_G F H := fun c hc => (h2 c hc).trans (h c hc)
theorem tr_qs (F : Nat → Nat → UInt32) (w h x y : Nat) (t : Int32) (hd : Nat → UInt32) (to : Int32) (kn : Nat) : ∀ j, tr_G F (sp_qs F 180 179 (3 * 1) w h x y t hd to kn j)
  | 0 => fun _ _ => rfl
  | j + 1 => tr_Gt (tr_qs F w h x y t hd to kn j) (tr_Gt (tr_pt _ _ _ _ _ _ _) (tr_Gt (tr_pt _ _ _ _ _ _ _) (tr_pt _ _ _ _ _ _ _)))
theorem tr_px (H : vm_P2) (p n w h kn x y : Nat) (t m : Int32) : tr_F H.1 (rv_px H p n 1 w h kn x y t m).1 ∧ tr_G H.2 (rv_px H p n 1 w h kn x y t m).2 :=
  ⟨tr_fd _ _ _ _ _ _, tr_Gt (fun c _ => by rw [sp_h3_o _ _ _ _ (by decide)]) (tr_qs _ _ _ _ _ _ _ _ _ _)⟩
theorem tr_rw (H : vm_P2) (p n w h kn y : Nat) (m : Int32) (fl : Nat) : ∀ i, tr_F H.1 (rv_rw H p n 1 w h kn y m fl i).1 ∧ tr_G H.2 (rv_rw H p n 1 w h kn y m fl i).2
  | 0 => ⟨tr_0 _, fun _ _ => rfl⟩
  | i + 1 => ⟨tr_t (tr_rw H p n w h kn y m fl i).1 (tr_px _ _ _ _ _ _ _ _ _ _).1, tr_Gt (tr_rw H p n w h kn y m fl i).2 (tr_px _ _ _ _ _ _ _ _ _ _).2⟩
theorem tr_sd (H : vm_P2) (p n w h kn : Nat) (m : Int32) (fl : Nat) : ∀ y, tr_F H.1 (rv_sd H p n 1 w h kn m fl y).1 ∧ tr_G H.2 (rv_sd H p n 1 w h kn m fl y).2
  | 0 => ⟨tr_0 _, fun _ _ => rfl⟩
  | y + 1 => ⟨tr_t (tr_sd H p n w h kn m fl y).1 (tr_rw _ _ _ _ _ _ _ _ _ _).1, tr_Gt (tr_sd H p n w h kn m fl y).2 (tr_rw _ _ _ _ _ _ _ _ _ _).2⟩
theorem tr_mf (F : Nat → Nat → UInt32) : tr_G F (rv_mf F 1) := fun c hc => by
  unfold rv_mf
  rw [vm_up_k2 _ _ _ _ _ (by omega), vm_up_k2 _ _ _ _ _ (by omega), vm_up_k2 _ _ _ _ _ (by omega)]
theorem tr_mk (H : vm_P2) (q p n w h kn g k wy : Nat) (m : Int32) : tr_F H.1 (rv_mk H q p n 1 w h kn g k wy m).1 ∧ tr_G H.2 (rv_mk H q p n 1 w h kn g k wy m).2 := by
  have z : tr_G H.2 (vm_zc 0 (rv_mf H.2 1) 180 432) := tr_Gt (tr_mf _) fun c _ => by rw [vm_zc_f _ _ _ _ _ (by decide)]
  unfold rv_mk
  split
  · exact ⟨tr_t (tr_mb _ _ _ _ _) (tr_pl _ _ _ _ _), tr_mf _⟩
  · exact ⟨tr_t (tr_mb _ _ _ _ _) (tr_sd _ _ _ _ _ _ _ _ _).1, tr_Gt z (tr_sd _ _ _ _ _ _ _ _ _).2⟩
  · exact ⟨tr_t (tr_mb _ _ _ _ _) (tr_sd _ _ _ _ _ _ _ _ _).1, tr_Gt z (tr_sd _ _ _ _ _ _ _ _ _).2⟩
  · exact ⟨tr_t (tr_mb _ _ _ _ _) (tr_ss _ _ _ _ _ _ _ _ _), tr_mf _⟩
  · exact ⟨tr_t (tr_mb _ _ _ _ _) (tr_ss _ _ _ _ _ _ _ _ _), tr_mf _⟩
theorem Rel_tr {I I' : vm_IH} {F F' : vm_FH} (h : Rel I F) (e : ∀ x k, cl_mn x k → ¬ (173 ≤ x ∧ x ≤ 178) → ¬ (x = 0 ∧ k = 8) → ¬ (x = 152 ∧ k = 10) → I' x k = I x k) (ht : tr_F I I') (hg : tr_G F F') (f9 : F' 9 = F 9) (f46 : F' 46 = F 46) (f190 : F' 190 = F 190) (hw : R_wrk I') (hn : R_nan F') : Rel I' F' :=
  Rel_sh h (fun x k hm a b c d => e x k hm b c d) f46 f190 hw (Rsht_r h.sht (fun a h1 h2 => funext fun k => e a k (by unfold cl_mn; omega) (by omega) (by omega) (by omega)) f9 (ht.1 173 (by decide) (by decide)) (ht.1 174 (by decide) (by decide)) (ht.1 175 (by decide) (by decide)) (ht.2 176 (by decide) (by decide)) (ht.2 177 (by decide) (by decide)) (ht.2 178 (by decide) (by decide)) hg) hn
theorem tr_bs (H : vm_P2) (q p n w h kn g k : Nat) (m : Int32) : ∀ j, tr_F H.1 (rv_bs H q p n w h kn g k m j).1 ∧ tr_G H.2 (rv_bs H q p n w h kn g k m j).2
  | 0 => ⟨tr_0 _, fun _ _ => rfl⟩
  | j + 1 => ⟨tr_t (tr_bs H q p n w h kn g k m j).1 (tr_mk _ _ _ _ _ _ _ _ _ _ _).1, tr_Gt (tr_bs H q p n w h kn g k m j).2 (tr_mk _ _ _ _ _ _ _ _ _ _ _).2⟩
theorem sp_am_c {v v' : Nat → Int32} : ∀ {j : Nat}, (∀ i, i < j → v i = v' i) → sp_am v j = sp_am v' j
  | 0, _ => rfl
  | j + 1, h => by
    have ih := sp_am_c fun i hi => h i (Nat.lt_succ_of_lt hi)
    have hl := sp_am_l v' j
    show (if j = 0 then 0 else if v j < v (sp_am v j) then j else sp_am v j) = if j = 0 then 0 else if v' j < v' (sp_am v' j) then j else sp_am v' j
    by_cases c : j = 0
    · rw [if_pos c, if_pos c]
    · rw [if_neg c, if_neg c, ih, h j (Nat.lt_succ_self j), h (sp_am v' j) (by omega)]
theorem sp_am_lt (v : Nat → Int32) : ∀ j, 0 < j → sp_am v j < j
  | j + 1, _ => by
    show (if j = 0 then 0 else if v j < v (sp_am v j) then j else sp_am v j) < j + 1
    split
    · omega
    · next c =>
      have := sp_am_lt v j (by omega)
      split <;> omega
/-- every way tried on both sides -/
theorem bs_v {I J : Nat → Nat → Int32} {F K : Nat → Nat → UInt32} {a pa p q n w h kn k g : Nat} {m : Int32} (hn : 0 < n) (ha : a < 75) (hpa : pa < 75) (hw2 : w ≤ 12) (hh2 : h ≤ 12) (hkn : kn < 5) (hp : ∀ e, e < n → I a e = J 157 (16 * p + e)) (hx : ∀ z, z < w * h → I pa z = J 155 (144 * q + z) ∧ sp_col (J 155 (144 * q + z))) (hlo : ∀ i, i < 6 → vf_ok (K 179 i)) (j : Nat) (hj : j < 5) : cv_bv (I, F) 75 a pa n w h kn k g m j = rv_bv (J, K) q p n w h kn g k m j := by
  have E := mk_all (I := (cv_bs (I, F) 75 a pa n w h kn k g m j).1) (J := (rv_bs (J, K) q p n w h kn g k m j).1) (F := (cv_bs (I, F) 75 a pa n w h kn k g m j).2) (K := (rv_bs (J, K) q p n w h kn g k m j).2) (B := 75) (a := a) (pa := pa) (p := p) (q := q) (n := n) (s := 1) (w := w) (h := h) (kn := kn) (k := k) (g := g) (wy := j) (m := m) hn (by omega) (by omega) (by omega) (by omega) (by omega) hw2 hh2 hkn (by decide) hj (fun e he => by
    rw [cv_bs_o _ _ _ _ _ _ _ _ _ _ _ _ (by omega) (by omega) (by omega) (by omega), rv_bs_o _ _ _ _ _ _ _ _ _ _ _ (by decide) (by decide) (by decide) (by decide) (by decide) (by decide)]
    exact hp e he) (fun z hz => by
    rw [cv_bs_o _ _ _ _ _ _ _ _ _ _ _ _ (by omega) (by omega) (by omega) (by omega), rv_bs_o _ _ _ _ _ _ _ _ _ _ _ (by decide) (by decide) (by decide) (by decide) (by decide) (by decide)]
    exact hx z hz) (fun i hi => rv_bs_ok (H := (J, K)) (q := q) (p := p) (n := n) (g := g) (k := k) (m := m) hlo hw2 hh2 hkn j i hi)
  exact su_ba fun z hz => ⟨(E.1 z hz).2.2, (E.1 z hz).1⟩
theorem call_best {l : Launch} {X : vm_Cx} {G : List vm_Sh} {I : Nat → Nat → Int32} {F : Nat → Nat → UInt32} {e : Int32} {q : Int32} {k : Int32} (hD : vm_isD G) (hR : vm_isR G) (h : Rel I F) : vm_Cl l X G I F vm_M127 vm_M268 [.int e, .int q, .int k] := by
  by_cases hx : 0 ≤ q ∧ q ≤ 3
  · obtain ⟨p, hp, rfl⟩ := cl_q3 hx
    by_cases hx2 : 0 ≤ e ∧ e ≤ 3
    · obtain ⟨q, hq, rfl⟩ := cl_q3 hx2
      obtain ⟨w, a, hw, ha, h0, h1, hc, hr, hpx⟩ := h.pic q hq
      by_cases hw0 : w = 0
      · exact .pure (c_best_nm hD hp hc.1 hq hw hw0) (r_best_m hR hr.1 hq hw hw0) h
      · have hww : 0 < w := by omega
        have hh0 := h1 hww
        have hwh := vm_mul144 hw ha
        by_cases hk : 0 ≤ k ∧ k ≤ 1
        · obtain ⟨wy, -, hwy, rfl⟩ := cl_rng hk (a := 0) (b := 1) rfl rfl (by decide) (by decide)
          replace hwy : wy < 2 := by omega
          obtain ⟨n, hn, hpc, hpr, hpk⟩ := h.pal p hp
          by_cases hn0 : n = 0
          · exact .pure (c_best_s hD hp hpc hn0 hc.1 hq hw hww hwy) (r_best_s hR hp hpr hn0 hr.1 hq hw hww hwy) h
          · obtain ⟨u, hu, hu1, hu2⟩ := h.wrk
            by_cases hv : u + 5 ≤ 6000
            · obtain ⟨m, kn, kk, g, ⟨hm4, hkn, hkk, hg⟩, hcr, hrr1, hrr2, hrr3, hrr4⟩ := h.rul
              rcases (show wy = 0 ∨ wy = 1 by omega) with rfl | rfl
              · have C := c_best_0 (l := l) (X := X) (F := F) hD hp hpc (by omega) hn hc.1 hc.2 hq hw ha hww hcr.2.1 hkn hcr.2.2.1 hkk hcr.2.2.2 hg hcr.1 hu1 hv
                obtain ⟨V, hV⟩ : ∃ V, V = cv_bv (vm_up I 0 8 (nI (u + 5)), F) 75 (1 + 26 + 3 * p) (1 + 18 + 2 * q) n w a kn kk g (nI m) := ⟨_, rfl⟩
                rw [← hV] at C
                obtain ⟨A, hA⟩ : ∃ A, A = cv_bs (vm_up I 0 8 (nI (u + 5)), F) 75 (1 + 26 + 3 * p) (1 + 18 + 2 * q) n w a kn kk g (nI m) 5 := ⟨_, rfl⟩
                rw [← hA] at C
                have ao : ∀ x, x ≠ 79 → x ≠ 80 → x ≠ 81 → x ≠ 82 → ∀ z, ¬ (x = 0 ∧ z = 8) → A.1 x z = I x z := fun x a1 a2 a3 a4 z a5 => by
                  rw [hA, cv_bs_o _ _ _ _ _ _ _ _ _ _ _ _ a1 a2 a3 a4]
                  exact vm_up_n2 _ _ _ _ _ _ a5
                have af : ∀ x, x ≠ 83 → x ≠ 84 → x ≠ 85 → A.2 x = F x := fun x a1 a2 a3 => by
                  rw [hA, cv_bs_p _ _ _ _ _ _ _ _ _ _ _ _ a1 a2 a3]
                have a8 : A.1 0 8 = nI (u + 5) := by
                  rw [hA, cv_bs_o _ _ _ _ _ _ _ _ _ _ _ _ (by decide) (by decide) (by decide) (by decide)]
                  exact (show vm_up I 0 8 (nI (u + 5)) 0 8 = nI (u + 5) from vm_up_h _ _ _ _)
                have ag : ∀ x, 153 ≤ x → ∀ z, A.1 x z = I x z := fun x hx z => ao x (by omega) (by omega) (by omega) (by omega) z (by omega)
                have a2 : ∀ z, A.1 152 z = I 152 z := fun z => ao 152 (by decide) (by decide) (by decide) (by decide) z (by omega)
                have hlo : ∀ i, i < 6 → vf_ok (A.2 179 i) := fun i hi => by
                  rw [af 179 (by decide) (by decide) (by decide)]
                  exact h.nan i hi
                have D := r_best_0 (l := l) (X := X) (I := A.1) (F := A.2) hR ((ag 156 (by decide) p).trans hpr) hp (by omega) hn ((ag 153 (by decide) q).trans hr.1) ((ag 154 (by decide) q).trans hr.2) hq hw ha hww ((a2 7).trans hrr2) hkn ((a2 9).trans hrr4) hg ((a2 8).trans hrr3) hkk hlo ((a2 6).trans hrr1) (cl_m4 hm4) ((a2 10).trans hu2) hv
                have j0 : ∀ x, x ≠ 152 → (vm_up (vm_up A.1 152 10 (nI (u + 5))) 152 40 1) x = A.1 x := fun x hx => by rw [vm_up_f _ _ _ _ _ hx, vm_up_f _ _ _ _ _ hx]
                have M := fun j hj => bs_v (I := vm_up I 0 8 (nI (u + 5))) (J := vm_up (vm_up A.1 152 10 (nI (u + 5))) 152 40 1) (F := F) (K := A.2) (a := 1 + 26 + 3 * p) (pa := 1 + 18 + 2 * q) (p := p) (q := q) (n := n) (w := w) (h := a) (kn := kn) (k := kk) (g := g) (m := nI m) (by omega) (by omega) (by omega) hw ha hkn (fun e he => by
                  rw [vm_up_f I 0 8 _ (1 + 26 + 3 * p) (by omega), j0 157 (by decide), ag 157 (by decide)]
                  exact (hpk e he).1.1) (fun z hz => by
                  rw [vm_up_f I 0 8 _ (1 + 18 + 2 * q) (by omega), j0 155 (by decide), ag 155 (by decide)]
                  exact hpx z (by omega)) hlo j hj
                rw [← hV] at M
                have ro := fun x b1 b2 b3 b4 b5 b6 => rv_bs_o (vm_up (vm_up A.1 152 10 (nI (u + 5))) 152 40 1, A.2) q p n w a kn g kk (nI m) x b1 b2 b3 b4 b5 b6 5
                have rt := tr_bs (vm_up (vm_up A.1 152 10 (nI (u + 5))) 152 40 1, A.2) q p n w a kn g kk (nI m) 5
                have rp := fun x b1 b2 b3 => rv_bs_p (vm_up (vm_up A.1 152 10 (nI (u + 5))) 152 40 1, A.2) q p n w a kn g kk (nI m) x b1 b2 b3 5
                have rk := rv_bs_ok (H := (vm_up (vm_up A.1 152 10 (nI (u + 5))) 152 40 1, A.2)) (q := q) (p := p) (n := n) (g := g) (k := kk) (m := nI m) hlo hw ha hkn 5
                generalize rv_bs (vm_up (vm_up A.1 152 10 (nI (u + 5))) 152 40 1, A.2) q p n w a kn g kk (nI m) 5 = Z at *
                generalize rv_bv (vm_up (vm_up A.1 152 10 (nI (u + 5))) 152 40 1, A.2) q p n w a kn g kk (nI m) = W at *
                have eam : sp_am W 5 = sp_am V 5 := sp_am_c fun i hi => (M i hi).symm
                have elt := sp_am_lt V 5 (by decide)
                have zc : ∀ x, x < 152 → Z.1 x = A.1 x := fun x hx => (ro x (by omega) (by omega) (by omega) (by omega) (by omega) (by omega)).trans (j0 x (by omega))
                refine .mut C D (congrArg Value.int (congrArg nI eam)) (Rel_tr h (fun x z hm2 b1 b3 b4 => ?_) (tr_t (tr_o fun x h1 h2 => ?_) rt.1) (fun c hc => (rt.2 c hc).trans (congrFun (af 179 (by decide) (by decide) (by decide)) c)) ((rp 9 (by decide) (by decide) (by decide)).trans (af 9 (by decide) (by decide) (by decide))) ((rp 46 (by decide) (by decide) (by decide)).trans (af 46 (by decide) (by decide) (by decide))) ((rp 190 (by decide) (by decide) (by decide)).trans (af 190 (by decide) (by decide) (by decide))) ⟨u + 5, hv, ?_, ?_⟩ rk)
                · by_cases c : x = 152
                  · subst c
                    rw [ro 152 (by decide) (by decide) (by decide) (by decide) (by decide) (by decide)]
                    show vm_up (vm_up A.1 152 10 (nI (u + 5))) 152 40 1 152 z = _
                    rw [vm_up_k2 _ _ _ _ _ (by unfold cl_mn at hm2; omega), vm_up_k2 _ _ _ _ _ (by omega)]
                    exact a2 z
                  · rw [ro x (by omega) (by omega) (by omega) (by omega) (by omega) (by omega)]
                    show vm_up (vm_up A.1 152 10 (nI (u + 5))) 152 40 1 x z = _
                    rw [j0 x c]
                    exact ao x (by unfold cl_mn at hm2; omega) (by unfold cl_mn at hm2; omega) (by unfold cl_mn at hm2; omega) (by unfold cl_mn at hm2; omega) z b3
                · show vm_up (vm_up A.1 152 10 (nI (u + 5))) 152 40 1 x = _
                  rw [j0 x (by omega)]
                  exact funext fun z => ag x (by omega) z
                · rw [zc 0 (by decide)]
                  exact a8
                · rw [ro 152 (by decide) (by decide) (by decide) (by decide) (by decide) (by decide)]
                  show vm_up (vm_up A.1 152 10 (nI (u + 5))) 152 40 1 152 10 = _
                  rw [vm_up_k2 _ _ _ _ _ (by decide)]
                  exact vm_up_h _ _ _ _
              · have C := c_best_1 (l := l) (X := X) (F := F) hD hp hpc (by omega) hn hc.1 hc.2 hq hw ha hww hcr.2.1 hkn hcr.2.2.1 hkk hcr.2.2.2 hg hcr.1 hu1 hv
                obtain ⟨V, hV⟩ : ∃ V, V = cv_bv (vm_up I 0 8 (nI (u + 5)), F) 75 (1 + 26 + 3 * p) (1 + 18 + 2 * q) n w a kn kk g (nI m) := ⟨_, rfl⟩
                rw [← hV] at C
                obtain ⟨A, hA⟩ : ∃ A, A = cv_bs (vm_up I 0 8 (nI (u + 5)), F) 75 (1 + 26 + 3 * p) (1 + 18 + 2 * q) n w a kn kk g (nI m) 5 := ⟨_, rfl⟩
                rw [← hA] at C
                have ao : ∀ x, x ≠ 79 → x ≠ 80 → x ≠ 81 → x ≠ 82 → ∀ z, ¬ (x = 0 ∧ z = 8) → A.1 x z = I x z := fun x a1 a2 a3 a4 z a5 => by
                  rw [hA, cv_bs_o _ _ _ _ _ _ _ _ _ _ _ _ a1 a2 a3 a4]
                  exact vm_up_n2 _ _ _ _ _ _ a5
                have af : ∀ x, x ≠ 83 → x ≠ 84 → x ≠ 85 → A.2 x = F x := fun x a1 a2 a3 => by
                  rw [hA, cv_bs_p _ _ _ _ _ _ _ _ _ _ _ _ a1 a2 a3]
                have a8 : A.1 0 8 = nI (u + 5) := by
                  rw [hA, cv_bs_o _ _ _ _ _ _ _ _ _ _ _ _ (by decide) (by decide) (by decide) (by decide)]
                  exact (show vm_up I 0 8 (nI (u + 5)) 0 8 = nI (u + 5) from vm_up_h _ _ _ _)
                have ag : ∀ x, 153 ≤ x → ∀ z, A.1 x z = I x z := fun x hx z => ao x (by omega) (by omega) (by omega) (by omega) z (by omega)
                have a2 : ∀ z, A.1 152 z = I 152 z := fun z => ao 152 (by decide) (by decide) (by decide) (by decide) z (by omega)
                have hlo : ∀ i, i < 6 → vf_ok (A.2 179 i) := fun i hi => by
                  rw [af 179 (by decide) (by decide) (by decide)]
                  exact h.nan i hi
                have D := r_best_1 (l := l) (X := X) (I := A.1) (F := A.2) hR ((ag 156 (by decide) p).trans hpr) hp (by omega) hn ((ag 153 (by decide) q).trans hr.1) ((ag 154 (by decide) q).trans hr.2) hq hw ha hww ((a2 7).trans hrr2) hkn ((a2 9).trans hrr4) hg ((a2 8).trans hrr3) hkk hlo ((a2 6).trans hrr1) (cl_m4 hm4) ((a2 10).trans hu2) hv
                have j0 : ∀ x, x ≠ 152 → (vm_up (vm_up A.1 152 10 (nI (u + 5))) 152 40 1) x = A.1 x := fun x hx => by rw [vm_up_f _ _ _ _ _ hx, vm_up_f _ _ _ _ _ hx]
                have M := fun j hj => bs_v (I := vm_up I 0 8 (nI (u + 5))) (J := vm_up (vm_up A.1 152 10 (nI (u + 5))) 152 40 1) (F := F) (K := A.2) (a := 1 + 26 + 3 * p) (pa := 1 + 18 + 2 * q) (p := p) (q := q) (n := n) (w := w) (h := a) (kn := kn) (k := kk) (g := g) (m := nI m) (by omega) (by omega) (by omega) hw ha hkn (fun e he => by
                  rw [vm_up_f I 0 8 _ (1 + 26 + 3 * p) (by omega), j0 157 (by decide), ag 157 (by decide)]
                  exact (hpk e he).1.1) (fun z hz => by
                  rw [vm_up_f I 0 8 _ (1 + 18 + 2 * q) (by omega), j0 155 (by decide), ag 155 (by decide)]
                  exact hpx z (by omega)) hlo j hj
                rw [← hV] at M
                have ro := fun x b1 b2 b3 b4 b5 b6 => rv_bs_o (vm_up (vm_up A.1 152 10 (nI (u + 5))) 152 40 1, A.2) q p n w a kn g kk (nI m) x b1 b2 b3 b4 b5 b6 5
                have rt := tr_bs (vm_up (vm_up A.1 152 10 (nI (u + 5))) 152 40 1, A.2) q p n w a kn g kk (nI m) 5
                have rp := fun x b1 b2 b3 => rv_bs_p (vm_up (vm_up A.1 152 10 (nI (u + 5))) 152 40 1, A.2) q p n w a kn g kk (nI m) x b1 b2 b3 5
                have rk := rv_bs_ok (H := (vm_up (vm_up A.1 152 10 (nI (u + 5))) 152 40 1, A.2)) (q := q) (p := p) (n := n) (g := g) (k := kk) (m := nI m) hlo hw ha hkn 5
                generalize rv_bs (vm_up (vm_up A.1 152 10 (nI (u + 5))) 152 40 1, A.2) q p n w a kn g kk (nI m) 5 = Z at *
                generalize rv_bv (vm_up (vm_up A.1 152 10 (nI (u + 5))) 152 40 1, A.2) q p n w a kn g kk (nI m) = W at *
                have eam : sp_am W 5 = sp_am V 5 := sp_am_c fun i hi => (M i hi).symm
                have elt := sp_am_lt V 5 (by decide)
                have zc : ∀ x, x < 152 → Z.1 x = A.1 x := fun x hx => (ro x (by omega) (by omega) (by omega) (by omega) (by omega) (by omega)).trans (j0 x (by omega))
                refine .mut C D (congrArg Value.int (by show W (sp_am W 5) = V (sp_am V 5); rw [eam]; exact (M _ elt).symm)) (Rel_tr h (fun x z hm2 b1 b3 b4 => ?_) (tr_t (tr_o fun x h1 h2 => ?_) rt.1) (fun c hc => (rt.2 c hc).trans (congrFun (af 179 (by decide) (by decide) (by decide)) c)) ((rp 9 (by decide) (by decide) (by decide)).trans (af 9 (by decide) (by decide) (by decide))) ((rp 46 (by decide) (by decide) (by decide)).trans (af 46 (by decide) (by decide) (by decide))) ((rp 190 (by decide) (by decide) (by decide)).trans (af 190 (by decide) (by decide) (by decide))) ⟨u + 5, hv, ?_, ?_⟩ rk)
                · by_cases c : x = 152
                  · subst c
                    rw [ro 152 (by decide) (by decide) (by decide) (by decide) (by decide) (by decide)]
                    show vm_up (vm_up A.1 152 10 (nI (u + 5))) 152 40 1 152 z = _
                    rw [vm_up_k2 _ _ _ _ _ (by unfold cl_mn at hm2; omega), vm_up_k2 _ _ _ _ _ (by omega)]
                    exact a2 z
                  · rw [ro x (by omega) (by omega) (by omega) (by omega) (by omega) (by omega)]
                    show vm_up (vm_up A.1 152 10 (nI (u + 5))) 152 40 1 x z = _
                    rw [j0 x c]
                    exact ao x (by unfold cl_mn at hm2; omega) (by unfold cl_mn at hm2; omega) (by unfold cl_mn at hm2; omega) (by unfold cl_mn at hm2; omega) z b3
                · show vm_up (vm_up A.1 152 10 (nI (u + 5))) 152 40 1 x = _
                  rw [j0 x (by omega)]
                  exact funext fun z => ag x (by omega) z
                · rw [zc 0 (by decide)]
                  exact a8
                · rw [ro 152 (by decide) (by decide) (by decide) (by decide) (by decide) (by decide)]
                  show vm_up (vm_up A.1 152 10 (nI (u + 5))) 152 40 1 152 10 = _
                  rw [vm_up_k2 _ _ _ _ _ (by decide)]
                  exact vm_up_h _ _ _ _
            · exact .pure (c_best_f hD hp hpc (by omega) hn hc.1 hq hw hww hwy hu1 (by omega) hu) (r_best_f hR hp hpr (by omega) hn hr.1 hq hw hww hwy hu2 (by omega) hu) h
        · exact .pure (c_best_b hD hp hc.1 hq hw hww hk) (r_best_b hR hp hr.1 hq hw hww hk) h
    · exact .pure (c_best_nx hD hp hx2) (r_best_x hR hx2) h
  · by_cases hx2 : 0 ≤ e ∧ e ≤ 3
    · obtain ⟨q, hq, rfl⟩ := cl_q3 hx2
      obtain ⟨w, a, hw, ha, h0, h1, hc, hr, hpx⟩ := h.pic q hq
      by_cases hw0 : w = 0
      · exact .pure (c_best_xm hD hx hc.1 hq hw hw0) (r_best_m hR hr.1 hq hw hw0) h
      · exact .pure (c_best_xy hD hx hc.1 hq hw (by omega)) (r_best_p hR hr.1 hq hw (by omega) hx) h
    · exact .pure (c_best_xx hD hx hx2) (r_best_x hR hx2) h
