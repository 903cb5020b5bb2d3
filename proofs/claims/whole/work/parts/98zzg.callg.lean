/-- both tallies of one picture -/
theorem tl_two {I : vm_IH} {p w a : Nat} (hp : p < 4) (hw : w ≤ 12) (ha : a ≤ 12) (hk : ∀ k, k < 144 → I (1 + 18 + 2 * p) k = I 155 (144 * p + k) ∧ sp_col (I 155 (144 * p + k))) : (∀ x k, cl_mn x k → (vm_gth I 112 (I (1 + 18 + 2 * p)) (w * a)).1 x k = I x k) ∧ (vm_gth I 112 (I (1 + 18 + 2 * p)) (w * a)).2 = (vr_gth (vm_gth I 112 (I (1 + 18 + 2 * p)) (w * a)).1 (fun y => (vm_gth I 112 (I (1 + 18 + 2 * p)) (w * a)).1 155 (144 * p + y)) (w * a)).2 ∧ tl_R (vm_gth I 112 (I (1 + 18 + 2 * p)) (w * a)).1 (vr_gth (vm_gth I 112 (I (1 + 18 + 2 * p)) (w * a)).1 (fun y => (vm_gth I 112 (I (1 + 18 + 2 * p)) (w * a)).1 155 (144 * p + y)) (w * a)).1 (vr_gth (vm_gth I 112 (I (1 + 18 + 2 * p)) (w * a)).1 (fun y => (vm_gth I 112 (I (1 + 18 + 2 * p)) (w * a)).1 155 (144 * p + y)) (w * a)).2 := by
  have hm : ∀ x k, cl_mn x k → (vm_gth I 112 (I (1 + 18 + 2 * p)) (w * a)).1 x k = I x k := fun x k hm => vm_gth_o _ _ _ _ (by unfold cl_mn at hm; omega) (by unfold cl_mn at hm; omega) (by unfold cl_mn at hm; omega) _ _
  have hwh := vm_mul144 hw ha
  exact ⟨hm, tl_gth _ _ fun k hk2 => ((hk k (by omega)).1).trans (hm 155 (144 * p + k) (by unfold cl_mn; omega)).symm⟩
theorem tl_cmv {H J : vm_IH} {n m : Nat} {x : Int32} (e1 : n = m) (e2 : tl_R H J m) (hx : ∃ i, i < n ∧ sp_ca (H (112 + 2)) n i = x) : (if sp_fi (fun z => sp_ca (J 160) m z = x) m < m then J 159 (sp_fi (fun z => sp_ca (J 160) m z = x) m) else -2) = (if sp_fi (fun i => sp_ca (H (112 + 2)) n i = x) n < n then H (112 + 1) (sp_fi (fun i => sp_ca (H (112 + 2)) n i = x) n) else -5) := by
  subst e1
  have e : sp_fi (fun z => sp_ca (J 160) n z = x) n = sp_fi (fun i => sp_ca (H (112 + 2)) n i = x) n := sp_fi_c fun k hk => by
    rw [sp_ca_c (f := J 160) (g := H (112 + 2)) (fun j hj => (e2.2 j hj).2.symm) hk]
  obtain ⟨i, hi, hi2⟩ := hx
  have lt : sp_fi (fun i => sp_ca (H (112 + 2)) n i = x) n < n := sp_fi_lt hi hi2
  rw [e, if_pos lt, if_pos lt]
  exact ((e2.2 _ lt).1).symm
theorem tl_cmn {H J : vm_IH} {n m : Nat} {x : Int32} (e1 : n = m) (e2 : tl_R H J m) (hx : ∀ i, i < n → ¬ sp_ca (H (112 + 2)) n i = x) : (if sp_fi (fun z => sp_ca (J 160) m z = x) m < m then J 159 (sp_fi (fun z => sp_ca (J 160) m z = x) m) else -2) = -2 := by
  subst e1
  have e : sp_fi (fun z => sp_ca (J 160) n z = x) n = n := sp_fi_none fun k hk => by
    rw [sp_ca_c (f := J 160) (g := H (112 + 2)) (fun j hj => (e2.2 j hj).2.symm) hk]
    exact hx k hk
  rw [e, if_neg (Nat.lt_irrefl n)]
theorem sp_sN_c {g g' : Nat → Int32} : ∀ {n : Nat}, (∀ k, k < n → g k = g' k) → sp_sN g n = sp_sN g' n
  | 0, _ => rfl
  | n + 1, h => by
    show sp_sN g n + (g n).toNatClampNeg = sp_sN g' n + (g' n).toNatClampNeg
    rw [sp_sN_c fun k hk => h k (Nat.lt_succ_of_lt hk), h n (Nat.lt_succ_self n)]
theorem sp_ch_t (c k : Int32) : (sp_ch c k).toNatClampNeg ≤ 63 := by
  obtain ⟨u, hu, e⟩ := sp_ch_n c k
  rw [e]
  have := nI_toInt (n := u) (by omega)
  show (nI u).toInt.toNat ≤ 63
  omega
/-- far apart is the same both ways -/
theorem sp_ab_uv : ∀ u v, u < 64 → v < 64 → sp_ab (nI u - nI v) = sp_ab (nI v - nI u) := by
  have h : ∀ u, u < 64 → ∀ v, v < 64 → sp_ab (nI u - nI v) = sp_ab (nI v - nI u) := by decide +kernel
  exact fun u v hu hv => h u hu v hv
theorem sp_far_s (m x y : Int32) : sp_far m x y = sp_far m y x := by
  have h : ∀ k, sp_ab (sp_ch x k - sp_ch y k) = sp_ab (sp_ch y k - sp_ch x k) := fun k => by
    obtain ⟨u, hu, e⟩ := sp_ch_n x k
    obtain ⟨v, hv, e2⟩ := sp_ch_n y k
    rw [e, e2]
    exact sp_ab_uv u v hu hv
  unfold sp_far
  rw [h 0, h 1, h 2]
theorem sp_nn_c {f g : Nat → Int32} : ∀ {j : Nat}, (∀ k, k ≤ j → f k = g k) → sp_nn f j = sp_nn g j
  | 0, _ => rfl
  | j + 1, h => by
    have ih := sp_nn_c fun k hk => h k (Nat.le_succ_of_le hk)
    show (if f (j + 1) < f (sp_nn f j) then j + 1 else sp_nn f j) = if g (j + 1) < g (sp_nn g j) then j + 1 else sp_nn g j
    rw [ih, h (j + 1) (Nat.le_refl _), h (sp_nn g j) (Nat.le_succ_of_le (sp_nn_le g j))]
theorem sp_fo_x {p q : Nat → Prop} [DecidablePred p] [DecidablePred q] {n : Nat} {z y : Int32} (h : ∀ k, k < n → (p k ↔ q k)) (hx : ∃ k, k < n ∧ p k) : sp_fo p n z = sp_fo q n y := by
  obtain ⟨i, hi, hp⟩ := hx
  have lt := sp_fi_lt hi hp
  have e := sp_fi_c h
  unfold sp_fo
  rw [if_pos lt, ← e, if_pos lt]
theorem cl_nI {a b : Nat} (h : nI a = nI b) (ha : a < 2147483648) (hb : b < 2147483648) : a = b := by
  have e := congrArg Int32.toInt h
  rw [nI_toInt ha, nI_toInt hb] at e
  omega
theorem cl_m4 {m : Nat} (hm : m < 4) : nI m = 0 ∨ nI m = 1 ∨ nI m = 2 ∨ nI m = 3 := by
  rcases (show m = 0 ∨ m = 1 ∨ m = 2 ∨ m = 3 by omega) with rfl | rfl | rfl | rfl
  · exact Or.inl rfl
  · exact Or.inr (Or.inl rfl)
  · exact Or.inr (Or.inr (Or.inl rfl))
  · exact Or.inr (Or.inr (Or.inr rfl))
theorem call_of {l : Launch} {X : vm_Cx} {G : List vm_Sh} {I : Nat → Nat → Int32} {F : Nat → Nat → UInt32} {q : Int32} {x : Int32} (hD : vm_isD G) (hR : vm_isR G) (h : Rel I F) : vm_Cl l X G I F vm_M104 vm_M189 [.int q, .int x] := by
  by_cases hx : 0 ≤ q ∧ q ≤ 3
  · obtain ⟨p, hp, rfl⟩ := cl_q3 hx
    obtain ⟨w, a, hw, ha, h0, h1, hc, hr, hk⟩ := h.pic p hp
    by_cases hw0 : w = 0
    · exact .pure (c_of_m hD hc.1 hp hw hw0) (r_of_m hR hr.1 hp hw hw0) h
    · have hww : 0 < w := by omega
      have hh0 := h1 hww
      have hwh := vm_mul144 hw ha
      by_cases hx2 : 0 ≤ x ∧ x ≤ 4
      · obtain ⟨n, -, hn, rfl⟩ := cl_rng hx2 (a := 0) (b := 4) rfl rfl (by decide) (by decide)
        obtain ⟨hm, e1, e2⟩ := tl_two hp hw ha hk
        have hr1 := (hm 153 p (by unfold cl_mn; omega)).trans hr.1
        have hr2 := (hm 154 p (by unfold cl_mn; omega)).trans hr.2
        have hfin := Rel_i h (tl_mn I (I (1 + 18 + 2 * p)) (fun y => (vm_gth I 112 (I (1 + 18 + 2 * p)) (w * a)).1 155 (144 * p + y)) (w * a) (w * a))
        have hpos := vm_gth_p I 112 (I (1 + 18 + 2 * p)) (Nat.mul_pos hww hh0)
        rcases (show n = 0 ∨ n = 1 ∨ n = 2 ∨ n = 3 ∨ n = 4 by omega) with rfl | rfl | rfl | rfl | rfl
        · exact .mut (c_of_0 hD hc.1 hc.2 hp hw ha hww hh0) (r_of_0 hR hr1 hr2 hp hw ha hww) rfl hfin
        · exact .mut (c_of_1 hD hc.1 hc.2 hp hw ha hww hh0) (r_of_1 hR hr1 hr2 hp hw ha hww) rfl hfin
        · exact .mut (c_of_2 hD hc.1 hc.2 hp hw ha hww hh0) (r_of_2 hR hr1 hr2 hp hw ha hww) (congrArg (fun z => Value.int (nI z)) e1.symm) hfin
        · exact .mut (c_of_3 hD hc.1 hc.2 hp hw ha hww hh0) (r_of_3 hR hr1 hr2 hp hw ha hww) (congrArg Value.int ((e2.2 0 (e1 ▸ hpos)).1).symm) hfin
        · exact .mut (c_of_4 hD hc.1 hc.2 hp hw ha hww hh0) (r_of_4 hR hr1 hr2 hp hw ha hww hh0) (congrArg Value.int (by rw [← e1] at e2 ⊢; exact ((e2.2 _ (Nat.sub_lt hpos Nat.one_pos)).1).symm)) hfin
      · exact .mut (c_of_b hD hc.1 hp hw hww hx2) (r_of_b hR hr.1 hr.2 hp hw ha hww hx2) rfl (Rel_i h (tl_mnr _ _ _))
  · exact .pure (c_of_x hD hx) (r_of_x hR hx) h
theorem call_common {l : Launch} {X : vm_Cx} {G : List vm_Sh} {I : Nat → Nat → Int32} {F : Nat → Nat → UInt32} {q : Int32} {x : Int32} (hD : vm_isD G) (hR : vm_isR G) (h : Rel I F) : vm_Cl l X G I F vm_M106 vm_M192 [.int q, .int x] := by
  by_cases hx : 0 ≤ q ∧ q ≤ 3
  · obtain ⟨p, hp, rfl⟩ := cl_q3 hx
    obtain ⟨w, a, hw, ha, h0, h1, hc, hr, hk⟩ := h.pic p hp
    by_cases hw0 : w = 0
    · exact .pure (c_common_m hD hc.1 hp hw hw0) (r_common_m hR hr.1 hp hw hw0) h
    · have hww : 0 < w := by omega
      have hh0 := h1 hww
      have hwh := vm_mul144 hw ha
      obtain ⟨hm, e1, e2⟩ := tl_two hp hw ha hk
      have hr1 := (hm 153 p (by unfold cl_mn; omega)).trans hr.1
      have hr2 := (hm 154 p (by unfold cl_mn; omega)).trans hr.2
      have hfin := Rel_i h (tl_mn I (I (1 + 18 + 2 * p)) (fun y => (vm_gth I 112 (I (1 + 18 + 2 * p)) (w * a)).1 155 (144 * p + y)) (w * a) (w * a))
      have hpos := vm_gth_p I 112 (I (1 + 18 + 2 * p)) (Nat.mul_pos hww hh0)
      have hle := (vm_gth_n I 112 (I (1 + 18 + 2 * p)) (w * a)).2
      have rk := sp_ca_rk ((vm_gth I 112 (I (1 + 18 + 2 * p)) (w * a)).1 (112 + 2)) (vm_gth I 112 (I (1 + 18 + 2 * p)) (w * a)).2
      by_cases hx2 : 0 ≤ x ∧ x ≤ nI ((vm_gth I 112 (I (1 + 18 + 2 * p)) (w * a)).2 - 1)
      · refine .mut (c_common_y hD hc.1 hc.2 hp hw ha hww hh0 hx2) (r_common_y hR hr1 hr2 hp hw ha hww) (congrArg Value.int (tl_cmv e1 e2 ?_)) hfin
        obtain ⟨i, hi, rfl⟩ := cl_lo1 hx2 hpos (by omega)
        exact rk.2 i hi
      · refine .mut (c_common_b hD hc.1 hc.2 hp hw ha hww hh0 hx2) (r_common_y hR hr1 hr2 hp hw ha hww) (congrArg Value.int (tl_cmn e1 e2 fun i hi z => hx2 ?_)) hfin
        obtain ⟨r, hr, e3⟩ := rk.1 i hi
        rw [← z, e3]
        exact ⟨nI_nn (by omega), (vm_le_i (by omega) (by omega)).mpr (by omega)⟩
  · exact .pure (c_common_x hD hx) (r_common_x hR hx) h
theorem call_mean {l : Launch} {X : vm_Cx} {G : List vm_Sh} {I : Nat → Nat → Int32} {F : Nat → Nat → UInt32} {q : Int32} {k : Int32} {t : Int32} (hD : vm_isD G) (hR : vm_isR G) (h : Rel I F) : vm_Cl l X G I F vm_M107 vm_M195 [.int q, .int k, .int t] := by
  by_cases hx : 0 ≤ q ∧ q ≤ 3
  · obtain ⟨p, hp, rfl⟩ := cl_q3 hx
    obtain ⟨w, a, hw, ha, h0, h1, hc, hr, hpx⟩ := h.pic p hp
    by_cases hw0 : w = 0
    · exact .pure (c_mean_m hD hc.1 hp hw hw0) (r_mean_m hR hr.1 hp hw hw0) h
    · have hww : 0 < w := by omega
      have hh0 := h1 hww
      have hwh := vm_mul144 hw ha
      by_cases hk : 0 ≤ k ∧ k ≤ 2
      · by_cases ht : 0 ≤ t ∧ t ≤ 1
        · have e : sp_sN (fun z => sp_ch (I 155 (144 * p + z)) k) (w * a) = sp_sN (fun z => sp_ch (I (1 + 18 + 2 * p) z) k) (w * a) := sp_sN_c fun z hz => by rw [(hpx z (by omega)).1]
          have hb : sp_sN (fun z => sp_ch (I (1 + 18 + 2 * p) z) k) (w * a) ≤ 63 * (w * a) := sp_sN_le fun z _ => sp_ch_t _ _
          have hd := Nat.div_le_self (sp_sN (fun z => sp_ch (I (1 + 18 + 2 * p) z) k) (w * a)) (Nat.gcd (w * a) (sp_sN (fun z => sp_ch (I (1 + 18 + 2 * p) z) k) (w * a)))
          have hd2 := Nat.div_le_self (w * a) (Nat.gcd (w * a) (sp_sN (fun z => sp_ch (I (1 + 18 + 2 * p) z) k) (w * a)))
          obtain ⟨n, -, hn, rfl⟩ := cl_rng ht (a := 0) (b := 1) rfl rfl (by decide) (by decide)
          rcases (show n = 0 ∨ n = 1 by omega) with rfl | rfl
          · refine .mut (c_mean_0 hD hc.1 hc.2 hp hw ha hww hh0 hk) (r_mean_0 hR hr.1 hr.2 hp hw ha hww hh0 hk) (congrArg Value.long ?_) h
            rw [e, nL_lo (by omega), Nat.gcd_comm]
          · refine .mut (c_mean_1 hD hc.1 hc.2 hp hw ha hww hh0 hk) (r_mean_1 hR hr.1 hr.2 hp hw ha hww hh0 hk) (congrArg Value.long ?_) h
            rw [e, nL_lo (by omega), Nat.gcd_comm]
        · exact .pure (c_mean_b2 hD hc.1 hp hw hww hk ht) (r_mean_b2 hR hr.1 hp hw hww hk ht) h
      · exact .pure (c_mean_b1 hD hc.1 hp hw hww hk) (r_mean_b1 hR hr.1 hp hw hww hk) h
  · exact .pure (c_mean_x hD hx) (r_mean_x hR hx) h
theorem call_far {l : Launch} {X : vm_Cx} {G : List vm_Sh} {I : Nat → Nat → Int32} {F : Nat → Nat → UInt32} {x : Int32} {y : Int32} (hD : vm_isD G) (hR : vm_isR G) (h : Rel I F) : vm_Cl l X G I F vm_M119 vm_M234 [.int x, .int y] := by
  obtain ⟨m, kn, kk, g, ⟨hm4, hkn, hkk, hg⟩, hcr, hrr1, hrr2, hrr3, hrr4⟩ := h.rul
  by_cases hx : 0 ≤ x ∧ x ≤ 262143
  · by_cases hy : 0 ≤ y ∧ y ≤ 262143
    · exact .mut (c_far_y hD hx hy) (r_far_y hR hrr1 (cl_m4 hm4) hx hy) (by rw [hcr.1]) h
    · exact .pure (c_far_b2 hD hx hy) (r_far_b2 hR hx hy) h
  · exact .pure (c_far_b1 hD hx) (r_far_b1 hR hx) h
theorem call_nearest {l : Launch} {X : vm_Cx} {G : List vm_Sh} {I : Nat → Nat → Int32} {F : Nat → Nat → UInt32} {q : Int32} {c : Int32} (hD : vm_isD G) (hR : vm_isR G) (h : Rel I F) : vm_Cl l X G I F vm_M120 vm_M235 [.int q, .int c] := by
  obtain ⟨m, kn, kk, g, ⟨hm4, hkn, hkk, hg⟩, hcr, hrr1, hrr2, hrr3, hrr4⟩ := h.rul
  by_cases hx : 0 ≤ q ∧ q ≤ 3
  · obtain ⟨p, hp, rfl⟩ := cl_q3 hx
    obtain ⟨n, hn, hc, hr, hk⟩ := h.pal p hp
    by_cases hc0 : 0 ≤ c ∧ c ≤ 262143
    · by_cases hn0 : n = 0
      · subst hn0
        exact .mut (c_nearest_y hD hc hp hn hc0) (r_nearest_0 hR hr hp rfl hc0) rfl h
      · refine .mut (c_nearest_y hD hc hp hn hc0) (r_nearest_y hR hr hp hn (by omega) hrr1 (cl_m4 hm4) hc0) (congrArg Value.int ?_) h
        obtain ⟨j, rfl⟩ : ∃ j, n = j + 1 := ⟨n - 1, by omega⟩
        rw [sp_nr_nn _ _ (by omega)]
        show nI _ = nI _
        refine congrArg nI (sp_nn_c fun k hk2 => ?_)
        rw [hcr.1, sp_far_s, (hk k (by omega)).1.1]
    · exact .pure (c_nearest_b hD hp hc0) (r_nearest_b hR hp hc0) h
  · exact .pure (c_nearest_x hD hx) (r_nearest_x hR hx) h
theorem call_near {l : Launch} {X : vm_Cx} {G : List vm_Sh} {I : Nat → Nat → Int32} {F : Nat → Nat → UInt32} {q : Int32} {c : Int32} {x : Int32} (hD : vm_isD G) (hR : vm_isR G) (h : Rel I F) : vm_Cl l X G I F vm_M121 vm_M237 [.int q, .int c, .int x] := by
  obtain ⟨m, kn, kk, g, ⟨hm4, hkn, hkk, hg⟩, hcr, hrr1, hrr2, hrr3, hrr4⟩ := h.rul
  by_cases hx : 0 ≤ q ∧ q ≤ 3
  · obtain ⟨p, hp, rfl⟩ := cl_q3 hx
    obtain ⟨n, hn, hc, hr, hk⟩ := h.pal p hp
    by_cases hc0 : 0 ≤ c ∧ c ≤ 262143
    · have e : ∀ k, k < n → sp_ah (fun z => sp_far (nI m) (I 157 (16 * p + z)) c) n k = sp_ah (fun k => sp_far (I (1 + 3) 0) c (I (1 + 26 + 3 * p) k)) n k := fun k hk2 => sp_ah_c (fun z hz => by rw [hcr.1, sp_far_s, (hk z hz).1.1]) hk2
      have rk := sp_ah_rk (fun k => sp_far (I (1 + 3) 0) c (I (1 + 26 + 3 * p) k)) n
      by_cases hk2 : 0 ≤ x ∧ x ≤ nI n - 1
      · refine .mut (c_near_y hD hc hp hn hc0 hk2) (r_near_y hR hr hp hn hrr1 (cl_m4 hm4) hc0) (congrArg Value.int (sp_fo_x (fun k hk3 => by rw [e k hk3]) ?_)) h
        obtain ⟨i, hi, rfl⟩ := cl_lo0 hk2 (by omega)
        obtain ⟨j, hj, e2⟩ := rk.2 i hi
        exact ⟨j, hj, (e j hj).trans e2⟩
      · refine .mut (c_near_k hD hc hp hn hc0 hk2) (r_near_y hR hr hp hn hrr1 (cl_m4 hm4) hc0) (congrArg Value.int (sp_fo_none fun k hk3 z => hk2 ?_)) h
        obtain ⟨r, hr2, e3⟩ := rk.1 k hk3
        rw [← z, e k hk3, e3]
        refine ⟨nI_nn (by omega), ?_⟩
        rw [show nI n - 1 = nI (n - 1) from vm_ps (x := nI n) (y := 1) (a := n) (b := 1) rfl rfl (by omega)]
        exact (vm_le_i (by omega) (by omega)).mpr (by omega)
    · exact .pure (c_near_b hD hp hc0) (r_near_b hR hp hc0) h
  · exact .pure (c_near_x hD hx) (r_near_x hR hx) h
theorem call_odds {l : Launch} {X : vm_Cx} {G : List vm_Sh} {I : Nat → Nat → Int32} {F : Nat → Nat → UInt32} {q : Int32} {e : Int32} {t : Int32} (hD : vm_isD G) (hR : vm_isR G) (h : Rel I F) : vm_Cl l X G I F vm_M130 vm_M272 [.int q, .int e, .int t] := by
  obtain ⟨m, kn, kk, g, ⟨hm4, hkn, hkk, hg⟩, hcr, hrr1, hrr2, hrr3, hrr4⟩ := h.rul
  by_cases hx : 0 ≤ q ∧ q ≤ 3
  · obtain ⟨p, hp, rfl⟩ := cl_q3 hx
    obtain ⟨n, hn, hc, hr, hk⟩ := h.pal p hp
    by_cases he : 0 ≤ e ∧ e ≤ nI n - 1
    · obtain ⟨i, hi, rfl⟩ := cl_lo0 he (by omega)
      by_cases ht : 0 ≤ t ∧ t ≤ 1
      · have e1 : sp_sN (fun j => if sp_nn (fun z => sp_far (nI m) (I 157 (16 * p + z)) (sp_od j)) (n - 1) = i then (1 : Int32) else 0) 512 = sp_sN (fun j => if sp_ni (sp_nr (fun k => sp_far (I (1 + 3) 0) (sp_oc j) (I (1 + 26 + 3 * p) k)) (fun k => nI k = -1) n) = nI i then (1 : Int32) else 0) 512 := by
          refine sp_sN_c fun j hj => ?_
          obtain ⟨s, rfl⟩ : ∃ s, n = s + 1 := ⟨n - 1, by omega⟩
          rw [sp_nr_nn _ _ (by omega)]
          have e2 : sp_nn (fun z => sp_far (nI m) (I 157 (16 * p + z)) (sp_od j)) (s + 1 - 1) = sp_nn (fun k => sp_far (I (1 + 3) 0) (sp_oc j) (I (1 + 26 + 3 * p) k)) s := sp_nn_c fun k hk2 => by
            rw [hcr.1, sp_far_s, (hk k (by omega)).1.1, sp_oc_d j hj]
          have hle := sp_nn_le (fun k => sp_far (I (1 + 3) 0) (sp_oc j) (I (1 + 26 + 3 * p) k)) s
          rw [e2]
          show _ = if nI (sp_nn (fun k => sp_far (I (1 + 3) 0) (sp_oc j) (I (1 + 26 + 3 * p) k)) s) = nI i then (1 : Int32) else 0
          by_cases z : sp_nn (fun k => sp_far (I (1 + 3) 0) (sp_oc j) (I (1 + 26 + 3 * p) k)) s = i
          · rw [if_pos z, if_pos (congrArg nI z)]
          · rw [if_neg z, if_neg fun y => z (cl_nI y (by omega) (by omega))]
        have hb : sp_sN (fun j => if sp_ni (sp_nr (fun k => sp_far (I (1 + 3) 0) (sp_oc j) (I (1 + 26 + 3 * p) k)) (fun k => nI k = -1) n) = nI i then (1 : Int32) else 0) 512 ≤ 1 * 512 := sp_sN_le fun z _ => by
          show (if _ then (1 : Int32) else 0).toNatClampNeg ≤ 1
          split <;> decide
        have hd := Nat.div_le_self (sp_sN (fun j => if sp_ni (sp_nr (fun k => sp_far (I (1 + 3) 0) (sp_oc j) (I (1 + 26 + 3 * p) k)) (fun k => nI k = -1) n) = nI i then (1 : Int32) else 0) 512) (Nat.gcd 512 (sp_sN (fun j => if sp_ni (sp_nr (fun k => sp_far (I (1 + 3) 0) (sp_oc j) (I (1 + 26 + 3 * p) k)) (fun k => nI k = -1) n) = nI i then (1 : Int32) else 0) 512))
        have hd2 := Nat.div_le_self 512 (Nat.gcd 512 (sp_sN (fun j => if sp_ni (sp_nr (fun k => sp_far (I (1 + 3) 0) (sp_oc j) (I (1 + 26 + 3 * p) k)) (fun k => nI k = -1) n) = nI i then (1 : Int32) else 0) 512))
        obtain ⟨s, -, hs, rfl⟩ := cl_rng ht (a := 0) (b := 1) rfl rfl (by decide) (by decide)
        rcases (show s = 0 ∨ s = 1 by omega) with rfl | rfl
        · refine .mut (c_odds_0 hD hc hp hn hi) (r_odds_0 hR hr hp hn hi hrr1 (cl_m4 hm4)) (congrArg Value.long ?_) h
          rw [e1, nL_lo (by omega), Nat.gcd_comm]
        · refine .mut (c_odds_1 hD hc hp hn hi) (r_odds_1 hR hr hp hn hi hrr1 (cl_m4 hm4)) (congrArg Value.long ?_) h
          rw [e1, nL_lo (by omega), Nat.gcd_comm]
      · exact .pure (c_odds_b hD hc hp hn hi ht) (r_odds_b hR hr hp hn hi ht) h
    · exact .pure (c_odds_e hD hc hp he) (r_odds_e hR hr hp he) h
  · exact .pure (c_odds_x hD hx) (r_odds_x hR hx) h
