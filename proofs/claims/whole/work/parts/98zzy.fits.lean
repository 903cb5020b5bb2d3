/-- FITS: what a screen gives a pixel -/
theorem ft_sr (I : Nat → Nat → Int32) (p n s w y g k fl : Nat) (m : Int32) : ∀ i, (∀ x, x < i → rv_sr I p n s w y g k fl m i 177 (144 * s + (w * y + x)) = nI (sp_fe (fun z => I 157 (16 * p + z)) n m (sp_lk (sp_sw (I 176 (144 * s + (w * y + x))) k fl x y g)))) ∧ ∀ r, (∀ x, x < i → r ≠ 144 * s + (w * y + x)) → rv_sr I p n s w y g k fl m i 177 r = I 177 r
  | 0 => ⟨fun x hx => absurd hx (Nat.not_lt_zero x), fun _ _ => rfl⟩
  | i + 1 => by
    obtain ⟨a, b⟩ := ft_sr I p n s w y g k fl m i
    have e7 : rv_sr I p n s w y g k fl m i 157 = I 157 := rv_sr_o _ _ _ _ _ _ _ _ _ _ _ (by decide) (by decide) _
    rw [mk_sr1]
    unfold rv_fd
    refine ⟨fun x hx => ?_, fun r hr => ?_⟩
    · rw [vm_up_f _ 178 _ _ 177 (by decide)]
      by_cases c : x = i
      · subst c
        rw [vm_up_h, e7]
      · rw [vm_up_k2 _ _ _ _ _ (by omega)]
        exact a x (by omega)
    · rw [vm_up_f _ 178 _ _ 177 (by decide), vm_up_k2 _ _ _ _ _ (hr i (by omega))]
      exact b r fun x hx => hr x (by omega)
theorem ft_ss {I : Nat → Nat → Int32} {p n s w g k fl : Nat} {m : Int32} : ∀ {y : Nat} {y' x : Nat}, y' < y → x < w → rv_ss I p n s w g k fl m y 177 (144 * s + (w * y' + x)) = nI (sp_fe (fun z => I 157 (16 * p + z)) n m (sp_lk (sp_sw (I 176 (144 * s + (w * y' + x))) k fl x y' g)))
  | y + 1, y', x, hy, hx => by
    have e7 : rv_ss I p n s w g k fl m y 157 = I 157 := rv_ss_o _ _ _ _ _ _ _ _ _ _ (by decide) (by decide) _
    have e6 : rv_ss I p n s w g k fl m y 176 = I 176 := rv_ss_o _ _ _ _ _ _ _ _ _ _ (by decide) (by decide) _
    obtain ⟨a, b⟩ := ft_sr (rv_ss I p n s w g k fl m y) p n s w y g k fl m w
    rw [e7, e6] at a
    show rv_sr (rv_ss I p n s w g k fl m y) p n s w y g k fl m w 177 _ = _
    by_cases c : y' = y
    · rw [c]
      exact a x hx
    · rw [b _ fun x' hx' z => ?_]
      · exact ft_ss (by omega) hx
      · have : w * y' + x = w * y + x' := by omega
        have h1 : (w * y' + x) / w = y' := by rw [Nat.mul_add_div (by omega), Nat.div_eq_of_lt hx, Nat.add_zero]
        have h2 : (w * y + x') / w = y := by rw [Nat.mul_add_div (by omega), Nat.div_eq_of_lt hx', Nat.add_zero]
        rw [this, h2] at h1
        omega
theorem ft_mk {J : Nat → Nat → Int32} {K : Nat → Nat → UInt32} {q p n w h kn g k : Nat} {m : Int32} {x y : Nat} (hx : x < w) (hy : y < h) : (rv_mk (J, K) q p n 1 w h kn g k 3 m).1 177 (144 * 1 + w * y + x) = nI (sp_fe (fun z => J 157 (16 * p + z)) n m (sp_lk (sp_sw (J 155 (144 * q + (w * y + x))) k 0 x y g))) := by
  show rv_ss (rv_mb J q 1 w h 3) p n 1 w g k 0 m h 177 (144 * 1 + w * y + x) = _
  rw [Nat.add_assoc, ft_ss hy hx, rv_mb_o _ _ _ _ _ _ 157 (by decide) (by decide) (by decide) (by decide)]
  have e : rv_mb J q 1 w h 3 176 (144 * 1 + (w * y + x)) = J 155 (144 * q + (w * y + x)) := by
    have ix := vm_lin2 hx hy
    unfold rv_mb
    rw [vm_wq_i _ _ _ _ _ _ (by omega)]
    show J 155 (144 * q + (144 * 1 + (w * y + x) - 144 * 1)) = _
    rw [Nat.add_sub_cancel_left]
  rw [e]
/-- a sum the other way round -/
theorem ft_rev (a : Nat → Int32) : ∀ n, sp_sum (fun t => a (n - 1 - t)) n = sp_sum a n
  | 0 => rfl
  | n + 1 => by
    have e := bx_spl (fun t => a (n + 1 - 1 - t)) 1 n
    rw [Nat.add_comm 1 n] at e
    rw [e]
    have e2 : sp_sum (fun u => a (n + 1 - 1 - (1 + u))) n = sp_sum (fun t => a (n - 1 - t)) n := sp_sum_ext fun u hu => by rw [show n + 1 - 1 - (1 + u) = n - 1 - u by omega]
    rw [e2, ft_rev a n]
    show 0 + a (n + 1 - 1 - 0) + sp_sum a n = sp_sum a n + a n
    rw [Int32.zero_add, Int32.add_comm]
    rfl
theorem ft_f1 (P : Nat → Prop) : ∀ n, n ≤ 64 → ((∀ t, t < n → ¬ P t) → sp_f1 P n = -5) ∧ ∀ j, j < n → P j → (∀ t, t < j → ¬ P t) → sp_f1 P n = nI j
  | 0, _ => ⟨fun _ => rfl, fun j hj => absurd hj (Nat.not_lt_zero j)⟩
  | n + 1, hn => by
    obtain ⟨a, b⟩ := ft_f1 P n (by omega)
    refine ⟨fun h => ?_, fun j hj h1 h2 => ?_⟩
    · show (if sp_f1 P n < 0 ∧ vm_bp (P n) = 1 then nI n else sp_f1 P n) = -5
      rw [a fun t ht => h t (by omega), vm_bp_f (h n (by omega)), if_neg (by decide)]
    · show (if sp_f1 P n < 0 ∧ vm_bp (P n) = 1 then nI n else sp_f1 P n) = nI j
      by_cases c : j = n
      · subst c
        rw [a h2, vm_bp_t h1, if_pos (by decide)]
      · rw [b j (by omega) h1 h2, if_neg fun z => absurd z.1 (Int32.not_lt.mpr (nI_nn (by omega)))]
theorem ft_l1 (Q : Nat → Prop) : ∀ n, n ≤ 64 → ((∀ t, t < n → ¬ Q t) → sp_l1 Q n = -5) ∧ ∀ j, j < n → Q j → (∀ t, j < t → t < n → ¬ Q t) → sp_l1 Q n = nI (63 - j)
  | 0, _ => ⟨fun _ => rfl, fun j hj => absurd hj (Nat.not_lt_zero j)⟩
  | n + 1, hn => by
    obtain ⟨a, b⟩ := ft_l1 Q n (by omega)
    refine ⟨fun h => ?_, fun j hj h1 h2 => ?_⟩
    · show (if vm_bp (Q n) = 1 then nI (63 - n) else sp_l1 Q n) = -5
      rw [a fun t ht => h t (by omega), vm_bp_f (h n (by omega)), if_neg (by decide)]
    · show (if vm_bp (Q n) = 1 then nI (63 - n) else sp_l1 Q n) = nI (63 - j)
      by_cases c : j = n
      · subst c
        rw [vm_bp_t h1, if_pos rfl]
      · rw [vm_bp_f (h2 n (by omega) (by omega)), if_neg (by decide)]
        exact b j (by omega) h1 fun t h3 h4 => h2 t h3 (by omega)
theorem ft_eq {P Q : Nat → Prop} (h : ∀ t, t < 64 → (P t ↔ Q (63 - t))) : sp_sum (fun t => vm_bp (P t)) 64 = sp_sum (fun t => vm_bp (Q t)) 64 ∧ sp_f1 P 64 = sp_l1 Q 64 := by
  constructor
  · rw [← ft_rev (fun t => vm_bp (Q t)) 64]
    refine sp_sum_ext fun t ht => ?_
    have e := h t ht
    by_cases c : P t
    · rw [vm_bp_t c]
      exact (vm_bp_t (e.mp c)).symm
    · rw [vm_bp_f c]
      exact (vm_bp_f fun z => c (e.mpr z)).symm
  · rcases cl_fst P 64 with a | ⟨j, hj, a, b⟩
    · rw [(ft_f1 P 64 (Nat.le_refl _)).1 a, (ft_l1 Q 64 (Nat.le_refl _)).1 fun t ht z => a (63 - t) (by omega) ((h (63 - t) (by omega)).mpr (by rw [show 63 - (63 - t) = t by omega]; exact z))]
    · rw [(ft_f1 P 64 (Nat.le_refl _)).2 j hj a b, (ft_l1 Q 64 (Nat.le_refl _)).2 (63 - j) (by omega) ((h j hj).mp a) fun t h1 h2 z => b (63 - t) (by omega) ((h (63 - t) (by omega)).mpr (by rw [show 63 - (63 - t) = t by omega]; exact z)), show 63 - (63 - j) = j by omega]
theorem tr_fi (H : vm_P2) (q p n w h kn k : Nat) (m : Int32) : ∀ j, tr_F H.1 (rv_fi H q p n w h kn k m j).1 ∧ tr_G H.2 (rv_fi H q p n w h kn k m j).2
  | 0 => ⟨tr_o fun x _ _ => vm_up_f _ _ _ _ _ (by omega), fun _ _ => rfl⟩
  | j + 1 => ⟨tr_t (tr_t (tr_fi H q p n w h kn k m j).1 (tr_mk _ _ _ _ _ _ _ _ _ _ _).1) (tr_o fun x _ _ => vm_up_f _ _ _ _ _ (by omega)), tr_Gt (tr_fi H q p n w h kn k m j).2 (tr_mk _ _ _ _ _ _ _ _ _ _ _).2⟩
/-- a strength fits on both sides -/
theorem ft_P {I J : Nat → Nat → Int32} {F K : Nat → Nat → UInt32} {a q p n w h kn k v : Nat} {m : Int32} {xs ys : Nat → Nat} (hn : 0 < n) (hp : ∀ e, e < n → I a e = J 157 (16 * p + e)) (hx : ∀ z, z < w * h → I (75 + 5) z = J 155 (144 * q + z)) (hs : ∀ u, u < v → I (1 + 12) (3 * u + 2) = J 184 u) (t : Nat) (ht : t < 64) : rv_fp (J, K) q p n w h kn k m v xs ys t ↔ cv_fP (I, F) a n w h k m v xs ys (63 - t) := by
  have o : ∀ x, x ≠ 152 → x ≠ 173 → x ≠ 174 → x ≠ 175 → x ≠ 176 → x ≠ 177 → x ≠ 178 → (rv_fi (J, K) q p n w h kn k m t).1 x = J x := fun x b0 b1 b2 b3 b4 b5 b6 => rv_fi_o _ _ _ _ _ _ _ _ _ _ b0 b1 b2 b3 b4 b5 b6 t
  unfold rv_fp cv_fP vr_zo
  refine forall_congr' fun u => forall_congr' fun hu => ?_
  unfold vr_zp vc_zp
  refine and_congr_right fun h1 => and_congr_right fun h2 => ?_
  have e1 := ft_mk (J := (rv_fi (J, K) q p n w h kn k m t).1) (K := (rv_fi (J, K) q p n w h kn k m t).2) (q := q) (p := p) (n := n) (kn := kn) (g := t) (k := k) (m := m) h1 h2
  rw [o 157 (by decide) (by decide) (by decide) (by decide) (by decide) (by decide) (by decide), o 155 (by decide) (by decide) (by decide) (by decide) (by decide) (by decide) (by decide)] at e1
  have e2 : (rv_mk (rv_fi (J, K) q p n w h kn k m t) q p n 1 w h kn t k 3 m).1 184 u = J 184 u := by
    rw [rv_mk_o _ _ _ _ _ _ _ _ _ _ _ _ _ (by decide) (by decide) (by decide) (by decide) (by decide) (by decide), o 184 (by decide) (by decide) (by decide) (by decide) (by decide) (by decide) (by decide)]
  rw [show rv_mk (rv_fi (J, K) q p n w h kn k m t) q p n 1 w h kn t k 3 m = rv_mk ((rv_fi (J, K) q p n w h kn k m t).1, (rv_fi (J, K) q p n w h kn k m t).2) q p n 1 w h kn t k 3 m from rfl] at e2 ⊢
  rw [e1, e2, mk_h3, show 63 - (63 - t) = t by omega]
  have ix := vm_lin2 h1 h2
  show _ ↔ nI (sp_fe (I a) n m (sp_lk (sp_sw (I (75 + 5) (w * ys u + xs u)) k 0 (xs u) (ys u) t))) = I (1 + 12) (3 * u + 2)
  rw [hx _ (by omega), (mk_fe hn hp m _).1, hs u hu]
theorem call_fits {l : Launch} {X : vm_Cx} {G : List vm_Sh} {I : Nat → Nat → Int32} {F : Nat → Nat → UInt32} {e : Int32} {q : Int32} {k : Int32} (hD : vm_isD G) (hR : vm_isR G) (h : Rel I F) : vm_Cl l X G I F vm_M129 vm_M271 [.int e, .int q, .int k] := by
  by_cases hx : 0 ≤ q ∧ q ≤ 3
  · obtain ⟨p, hp, rfl⟩ := cl_q3 hx
    by_cases hx2 : 0 ≤ e ∧ e ≤ 3
    · obtain ⟨q, hq, rfl⟩ := cl_q3 hx2
      obtain ⟨w, a, hw, ha, h0, h1, hc, hr, hpx⟩ := h.pic q hq
      by_cases hw0 : w = 0
      · exact .pure (c_fits_nm hD hp hc.1 hq hw hw0) (r_fits_m hR hr.1 hq hw hw0) h
      · have hww : 0 < w := by omega
        have hh0 := h1 hww
        have hwh := vm_mul144 hw ha
        by_cases hk : 0 ≤ k ∧ k ≤ 1
        · obtain ⟨wy, -, hwy, rfl⟩ := cl_rng hk (a := 0) (b := 1) rfl rfl (by decide) (by decide)
          replace hwy : wy < 2 := by omega
          obtain ⟨n, hn, hpc, hpr, hpk⟩ := h.pal p hp
          by_cases hn0 : n = 0
          · exact .pure (c_fits_s hD hp hpc hn0 hc.1 hq hw hww hwy) (r_fits_s hR hp hpr hn0 hr.1 hq hw hww hwy) h
          · obtain ⟨u, hu, hu1, hu2⟩ := h.wrk
            by_cases hv : u + 64 ≤ 6000
            · obtain ⟨m, kn, kk, g, ⟨hm4, hkn, hkk, hg⟩, hcr, hrr1, hrr2, hrr3, hrr4⟩ := h.rul
              obtain ⟨v, hv6, hv1, hv2, hvk⟩ := h.see
              have hX2 : ∀ k, k < v → (I 182 k = nI (I 182 k).toNatClampNeg ∧ (I 182 k).toNatClampNeg < 12) ∧ I 183 k = nI (I 183 k).toNatClampNeg ∧ (I 183 k).toNatClampNeg < 12 := fun k hk => by
                obtain ⟨x, y, ⟨h1, h2⟩, -, ⟨h3, h4⟩, -⟩ := hvk k hk
                rw [h3, h4, vm_toM x (by omega), vm_toM y (by omega)]
                exact ⟨⟨rfl, h1⟩, rfl, h2⟩
              have hX1 : ∀ k, k < v → (I (1 + 12) (3 * k + 0) = nI (I 182 k).toNatClampNeg ∧ (I 182 k).toNatClampNeg < 12) ∧ I (1 + 12) (3 * k + 1) = nI (I 183 k).toNatClampNeg ∧ (I 183 k).toNatClampNeg < 12 := fun k hk => by
                obtain ⟨x, y, ⟨h1, h2⟩, ⟨h5, h6⟩, ⟨h3, h4⟩, -⟩ := hvk k hk
                rw [h3, h4, vm_toM x (by omega), vm_toM y (by omega)]
                exact ⟨⟨h5, h1⟩, h6, h2⟩
              have hX3 : ∀ k, k < v → I (1 + 12) (3 * k + 2) = I 184 k := fun k hk => by
                obtain ⟨x, y, -, -, -, h7⟩ := hvk k hk
                exact h7
              rcases (show wy = 0 ∨ wy = 1 by omega) with rfl | rfl
              · have C := c_fits_0 (l := l) (X := X) (F := F) (v := v) (xs := fun k => (I 182 k).toNatClampNeg) (ys := fun k => (I 183 k).toNatClampNeg) hD hp hpc (by omega) hn hc.1 hc.2 hq hw ha hww hcr.2.2.1 hkk hcr.1 hu1 hv hv1 hv6 hX1
                obtain ⟨B0, hB⟩ : ∃ B0, B0 = cv_mb (vm_cp (vm_up I 0 8 (nI (u + 64))) (1 + 3) (75 + 3) 4) 75 (1 + 18 + 2 * q) w a 3 := ⟨_, rfl⟩
                rw [← hB] at C
                have b0 : ∀ x, x ≠ 78 → x ≠ 79 → x ≠ 80 → ∀ z, ¬ (x = 0 ∧ z = 8) → B0 x z = I x z := fun x a1 a2 a3 z a5 => by
                  rw [hB, cv_mb_o _ _ _ _ _ _ _ (by omega) (by omega)]
                  unfold vm_cp
                  rw [if_neg a1]
                  exact vm_up_n2 _ _ _ _ _ _ a5
                have b8 : B0 0 8 = nI (u + 64) := by
                  rw [hB, cv_mb_o _ _ _ _ _ _ _ (by decide) (by decide)]
                  unfold vm_cp
                  rw [if_neg (by decide)]
                  exact vm_up_h _ _ _ _
                have b5 : ∀ z, z < w * a → B0 (75 + 5) z = I (1 + 18 + 2 * q) z := fun z hz => by
                  rw [hB]
                  unfold cv_mb vm_cp
                  rw [if_pos rfl, if_pos (show z < 144 by omega), vm_up_f _ _ _ _ _ (by omega), vm_up_f _ _ _ _ _ (by omega), vm_up_f _ _ _ _ _ (by omega), if_neg (by omega), vm_up_f _ _ _ _ _ (by omega)]
                obtain ⟨A, hA⟩ : ∃ A, A = cv_fi (B0, cv_mf F 75) (1 + 26 + 3 * p) n w a kk (nI m) v (fun k => (I 182 k).toNatClampNeg) (fun k => (I 183 k).toNatClampNeg) 64 := ⟨_, rfl⟩
                rw [← hA] at C
                have a0 : ∀ x, x ≠ 81 → x ≠ 82 → x ≠ 78 → A.1 x = B0 x := fun x a1 a2 a3 => by
                  rw [hA]
                  exact cv_fi_o _ _ _ _ _ _ _ _ _ _ _ (by omega) (by omega) (by omega) 64
                have ao : ∀ x, x ≠ 78 → x ≠ 79 → x ≠ 80 → x ≠ 81 → x ≠ 82 → ∀ z, ¬ (x = 0 ∧ z = 8) → A.1 x z = I x z := fun x a1 a2 a3 a4 a6 z a5 => by
                  rw [a0 x a4 a6 a1]
                  exact b0 x a1 a2 a3 z a5
                have af : ∀ x, x ≠ 83 → x ≠ 84 → x ≠ 85 → A.2 x = F x := fun x a1 a2 a3 => by
                  rw [hA, cv_fi_p _ _ _ _ _ _ _ _ _ _ _ (by omega)]
                  exact cv_mf_o _ _ _ (by omega) (by omega)
                have a8 : A.1 0 8 = nI (u + 64) := by
                  rw [a0 0 (by decide) (by decide) (by decide)]
                  exact b8
                have ag : ∀ x, 153 ≤ x → ∀ z, A.1 x z = I x z := fun x hx z => ao x (by omega) (by omega) (by omega) (by omega) (by omega) z (by omega)
                have a2 : ∀ z, A.1 152 z = I 152 z := fun z => ao 152 (by decide) (by decide) (by decide) (by decide) (by decide) z (by omega)
                have hlo : ∀ i, i < 6 → vf_ok (A.2 179 i) := fun i hi => by
                  rw [af 179 (by decide) (by decide) (by decide)]
                  exact h.nan i hi
                have D := r_fits_0 (l := l) (X := X) (I := A.1) (F := A.2) (v := v) (xs := fun k => (I 182 k).toNatClampNeg) (ys := fun k => (I 183 k).toNatClampNeg) hR ((ag 156 (by decide) p).trans hpr) hp (by omega) hn ((ag 153 (by decide) q).trans hr.1) ((ag 154 (by decide) q).trans hr.2) hq hw ha hww ((a2 7).trans hrr2) hkn ((a2 9).trans hrr4) hg ((a2 8).trans hrr3) hkk hlo ((a2 6).trans hrr1) (cl_m4 hm4) ((a2 10).trans hu2) hv ((a2 49).trans hv2) hv6 (fun k hk => by rw [ag 182 (by decide), ag 183 (by decide)]; exact hX2 k hk)
                have j0 : ∀ x, x ≠ 152 → (vm_up (vm_up A.1 152 10 (nI (u + 64))) 152 40 1) x = A.1 x := fun x hx => by rw [vm_up_f _ _ _ _ _ hx, vm_up_f _ _ _ _ _ hx]
                have M := fun t ht => ft_P (I := B0) (J := vm_up (vm_up A.1 152 10 (nI (u + 64))) 152 40 1) (F := cv_mf F 75) (K := A.2) (a := 1 + 26 + 3 * p) (p := p) (q := q) (n := n) (w := w) (h := a) (kn := kn) (k := kk) (v := v) (m := nI m) (xs := fun k => (I 182 k).toNatClampNeg) (ys := fun k => (I 183 k).toNatClampNeg) (by omega) (fun e he => by
                  rw [b0 (1 + 26 + 3 * p) (by omega) (by omega) (by omega) e (by omega), j0 157 (by decide), ag 157 (by decide)]
                  exact (hpk e he).1.1) (fun z hz => by
                  rw [b5 z hz, j0 155 (by decide), ag 155 (by decide)]
                  exact (hpx z (by omega)).1) (fun k hk => by
                  rw [b0 (1 + 12) (by decide) (by decide) (by decide) _ (by omega), j0 184 (by decide), ag 184 (by decide)]
                  exact hX3 k hk) t ht
                obtain ⟨M1, M2⟩ := ft_eq M
                have ro := fun x b0 b1 b2 b3 b4 b5 b6 => rv_fi_o (vm_up (vm_up A.1 152 10 (nI (u + 64))) 152 40 1, A.2) q p n w a kn kk (nI m) x b0 b1 b2 b3 b4 b5 b6 64
                have rkk := fun z hz => rv_fi_k (vm_up (vm_up A.1 152 10 (nI (u + 64))) 152 40 1, A.2) q p n w a kn kk (nI m) z hz 64
                have rt := tr_fi (vm_up (vm_up A.1 152 10 (nI (u + 64))) 152 40 1, A.2) q p n w a kn kk (nI m) 64
                have rp := fun x b1 b2 b3 => rv_fi_p (vm_up (vm_up A.1 152 10 (nI (u + 64))) 152 40 1, A.2) q p n w a kn kk (nI m) x b1 b2 b3 64
                have rk := rv_fi_ok (H := (vm_up (vm_up A.1 152 10 (nI (u + 64))) 152 40 1, A.2)) (q := q) (p := p) (n := n) (k := kk) (m := nI m) hlo hw ha hkn 64
                generalize rv_fi (vm_up (vm_up A.1 152 10 (nI (u + 64))) 152 40 1, A.2) q p n w a kn kk (nI m) 64 = Z at *
                have zc : ∀ x, x < 152 → Z.1 x = A.1 x := fun x hx => (ro x (by omega) (by omega) (by omega) (by omega) (by omega) (by omega) (by omega)).trans (j0 x (by omega))
                have z2 : ∀ z, z ≠ 9 → z ≠ 10 → z ≠ 40 → Z.1 152 z = I 152 z := fun z c1 c2 c3 => by
                  rw [rkk z c1]
                  show vm_up (vm_up A.1 152 10 (nI (u + 64))) 152 40 1 152 z = _
                  rw [vm_up_k2 _ _ _ _ _ c3, vm_up_k2 _ _ _ _ _ c2]
                  exact a2 z
                refine .mut C D (congrArg Value.int M1) (Rel_tr h (fun x z hm2 b1 b3 b4 => ?_) (tr_t (tr_t (tr_o fun x h1 h2 => ?_) rt.1) (tr_o fun x _ _ => vm_up_f _ _ _ _ _ (by omega))) (fun c hc => (rt.2 c hc).trans (congrFun (af 179 (by decide) (by decide) (by decide)) c)) ((rp 9 (by decide) (by decide) (by decide)).trans (af 9 (by decide) (by decide) (by decide))) ((rp 46 (by decide) (by decide) (by decide)).trans (af 46 (by decide) (by decide) (by decide))) ((rp 190 (by decide) (by decide) (by decide)).trans (af 190 (by decide) (by decide) (by decide))) ⟨u + 64, hv, ?_, ?_⟩ rk)
                · by_cases c : x = 152
                  · subst c
                    by_cases c9 : z = 9
                    · rw [c9, vm_up_h]
                      exact hrr4.symm
                    · rw [vm_up_k2 _ _ _ _ _ c9]
                      exact z2 z c9 (by omega) (by unfold cl_mn at hm2; omega)
                  · rw [vm_up_f _ _ _ _ _ c, ro x c (by omega) (by omega) (by omega) (by omega) (by omega) (by omega)]
                    show vm_up (vm_up A.1 152 10 (nI (u + 64))) 152 40 1 x z = _
                    rw [j0 x c]
                    exact ao x (by unfold cl_mn at hm2; omega) (by unfold cl_mn at hm2; omega) (by unfold cl_mn at hm2; omega) (by unfold cl_mn at hm2; omega) (by unfold cl_mn at hm2; omega) z b3
                · show vm_up (vm_up A.1 152 10 (nI (u + 64))) 152 40 1 x = _
                  rw [j0 x (by omega)]
                  exact funext fun z => ag x (by omega) z
                · rw [vm_up_f _ _ _ _ _ (by decide), zc 0 (by decide)]
                  exact a8
                · rw [vm_up_k2 _ _ _ _ _ (by decide), rkk 10 (by decide)]
                  show vm_up (vm_up A.1 152 10 (nI (u + 64))) 152 40 1 152 10 = _
                  rw [vm_up_k2 _ _ _ _ _ (by decide)]
                  exact vm_up_h _ _ _ _
              · have C := c_fits_1 (l := l) (X := X) (F := F) (v := v) (xs := fun k => (I 182 k).toNatClampNeg) (ys := fun k => (I 183 k).toNatClampNeg) hD hp hpc (by omega) hn hc.1 hc.2 hq hw ha hww hcr.2.2.1 hkk hcr.1 hu1 hv hv1 hv6 hX1
                obtain ⟨B0, hB⟩ : ∃ B0, B0 = cv_mb (vm_cp (vm_up I 0 8 (nI (u + 64))) (1 + 3) (75 + 3) 4) 75 (1 + 18 + 2 * q) w a 3 := ⟨_, rfl⟩
                rw [← hB] at C
                have b0 : ∀ x, x ≠ 78 → x ≠ 79 → x ≠ 80 → ∀ z, ¬ (x = 0 ∧ z = 8) → B0 x z = I x z := fun x a1 a2 a3 z a5 => by
                  rw [hB, cv_mb_o _ _ _ _ _ _ _ (by omega) (by omega)]
                  unfold vm_cp
                  rw [if_neg a1]
                  exact vm_up_n2 _ _ _ _ _ _ a5
                have b8 : B0 0 8 = nI (u + 64) := by
                  rw [hB, cv_mb_o _ _ _ _ _ _ _ (by decide) (by decide)]
                  unfold vm_cp
                  rw [if_neg (by decide)]
                  exact vm_up_h _ _ _ _
                have b5 : ∀ z, z < w * a → B0 (75 + 5) z = I (1 + 18 + 2 * q) z := fun z hz => by
                  rw [hB]
                  unfold cv_mb vm_cp
                  rw [if_pos rfl, if_pos (show z < 144 by omega), vm_up_f _ _ _ _ _ (by omega), vm_up_f _ _ _ _ _ (by omega), vm_up_f _ _ _ _ _ (by omega), if_neg (by omega), vm_up_f _ _ _ _ _ (by omega)]
                obtain ⟨A, hA⟩ : ∃ A, A = cv_fi (B0, cv_mf F 75) (1 + 26 + 3 * p) n w a kk (nI m) v (fun k => (I 182 k).toNatClampNeg) (fun k => (I 183 k).toNatClampNeg) 64 := ⟨_, rfl⟩
                rw [← hA] at C
                have a0 : ∀ x, x ≠ 81 → x ≠ 82 → x ≠ 78 → A.1 x = B0 x := fun x a1 a2 a3 => by
                  rw [hA]
                  exact cv_fi_o _ _ _ _ _ _ _ _ _ _ _ (by omega) (by omega) (by omega) 64
                have ao : ∀ x, x ≠ 78 → x ≠ 79 → x ≠ 80 → x ≠ 81 → x ≠ 82 → ∀ z, ¬ (x = 0 ∧ z = 8) → A.1 x z = I x z := fun x a1 a2 a3 a4 a6 z a5 => by
                  rw [a0 x a4 a6 a1]
                  exact b0 x a1 a2 a3 z a5
                have af : ∀ x, x ≠ 83 → x ≠ 84 → x ≠ 85 → A.2 x = F x := fun x a1 a2 a3 => by
                  rw [hA, cv_fi_p _ _ _ _ _ _ _ _ _ _ _ (by omega)]
                  exact cv_mf_o _ _ _ (by omega) (by omega)
                have a8 : A.1 0 8 = nI (u + 64) := by
                  rw [a0 0 (by decide) (by decide) (by decide)]
                  exact b8
                have ag : ∀ x, 153 ≤ x → ∀ z, A.1 x z = I x z := fun x hx z => ao x (by omega) (by omega) (by omega) (by omega) (by omega) z (by omega)
                have a2 : ∀ z, A.1 152 z = I 152 z := fun z => ao 152 (by decide) (by decide) (by decide) (by decide) (by decide) z (by omega)
                have hlo : ∀ i, i < 6 → vf_ok (A.2 179 i) := fun i hi => by
                  rw [af 179 (by decide) (by decide) (by decide)]
                  exact h.nan i hi
                have D := r_fits_1 (l := l) (X := X) (I := A.1) (F := A.2) (v := v) (xs := fun k => (I 182 k).toNatClampNeg) (ys := fun k => (I 183 k).toNatClampNeg) hR ((ag 156 (by decide) p).trans hpr) hp (by omega) hn ((ag 153 (by decide) q).trans hr.1) ((ag 154 (by decide) q).trans hr.2) hq hw ha hww ((a2 7).trans hrr2) hkn ((a2 9).trans hrr4) hg ((a2 8).trans hrr3) hkk hlo ((a2 6).trans hrr1) (cl_m4 hm4) ((a2 10).trans hu2) hv ((a2 49).trans hv2) hv6 (fun k hk => by rw [ag 182 (by decide), ag 183 (by decide)]; exact hX2 k hk)
                have j0 : ∀ x, x ≠ 152 → (vm_up (vm_up A.1 152 10 (nI (u + 64))) 152 40 1) x = A.1 x := fun x hx => by rw [vm_up_f _ _ _ _ _ hx, vm_up_f _ _ _ _ _ hx]
                have M := fun t ht => ft_P (I := B0) (J := vm_up (vm_up A.1 152 10 (nI (u + 64))) 152 40 1) (F := cv_mf F 75) (K := A.2) (a := 1 + 26 + 3 * p) (p := p) (q := q) (n := n) (w := w) (h := a) (kn := kn) (k := kk) (v := v) (m := nI m) (xs := fun k => (I 182 k).toNatClampNeg) (ys := fun k => (I 183 k).toNatClampNeg) (by omega) (fun e he => by
                  rw [b0 (1 + 26 + 3 * p) (by omega) (by omega) (by omega) e (by omega), j0 157 (by decide), ag 157 (by decide)]
                  exact (hpk e he).1.1) (fun z hz => by
                  rw [b5 z hz, j0 155 (by decide), ag 155 (by decide)]
                  exact (hpx z (by omega)).1) (fun k hk => by
                  rw [b0 (1 + 12) (by decide) (by decide) (by decide) _ (by omega), j0 184 (by decide), ag 184 (by decide)]
                  exact hX3 k hk) t ht
                obtain ⟨M1, M2⟩ := ft_eq M
                have ro := fun x b0 b1 b2 b3 b4 b5 b6 => rv_fi_o (vm_up (vm_up A.1 152 10 (nI (u + 64))) 152 40 1, A.2) q p n w a kn kk (nI m) x b0 b1 b2 b3 b4 b5 b6 64
                have rkk := fun z hz => rv_fi_k (vm_up (vm_up A.1 152 10 (nI (u + 64))) 152 40 1, A.2) q p n w a kn kk (nI m) z hz 64
                have rt := tr_fi (vm_up (vm_up A.1 152 10 (nI (u + 64))) 152 40 1, A.2) q p n w a kn kk (nI m) 64
                have rp := fun x b1 b2 b3 => rv_fi_p (vm_up (vm_up A.1 152 10 (nI (u + 64))) 152 40 1, A.2) q p n w a kn kk (nI m) x b1 b2 b3 64
                have rk := rv_fi_ok (H := (vm_up (vm_up A.1 152 10 (nI (u + 64))) 152 40 1, A.2)) (q := q) (p := p) (n := n) (k := kk) (m := nI m) hlo hw ha hkn 64
                generalize rv_fi (vm_up (vm_up A.1 152 10 (nI (u + 64))) 152 40 1, A.2) q p n w a kn kk (nI m) 64 = Z at *
                have zc : ∀ x, x < 152 → Z.1 x = A.1 x := fun x hx => (ro x (by omega) (by omega) (by omega) (by omega) (by omega) (by omega) (by omega)).trans (j0 x (by omega))
                have z2 : ∀ z, z ≠ 9 → z ≠ 10 → z ≠ 40 → Z.1 152 z = I 152 z := fun z c1 c2 c3 => by
                  rw [rkk z c1]
                  show vm_up (vm_up A.1 152 10 (nI (u + 64))) 152 40 1 152 z = _
                  rw [vm_up_k2 _ _ _ _ _ c3, vm_up_k2 _ _ _ _ _ c2]
                  exact a2 z
                refine .mut C D (congrArg Value.int M2) (Rel_tr h (fun x z hm2 b1 b3 b4 => ?_) (tr_t (tr_t (tr_o fun x h1 h2 => ?_) rt.1) (tr_o fun x _ _ => vm_up_f _ _ _ _ _ (by omega))) (fun c hc => (rt.2 c hc).trans (congrFun (af 179 (by decide) (by decide) (by decide)) c)) ((rp 9 (by decide) (by decide) (by decide)).trans (af 9 (by decide) (by decide) (by decide))) ((rp 46 (by decide) (by decide) (by decide)).trans (af 46 (by decide) (by decide) (by decide))) ((rp 190 (by decide) (by decide) (by decide)).trans (af 190 (by decide) (by decide) (by decide))) ⟨u + 64, hv, ?_, ?_⟩ rk)
                · by_cases c : x = 152
                  · subst c
                    by_cases c9 : z = 9
                    · rw [c9, vm_up_h]
                      exact hrr4.symm
                    · rw [vm_up_k2 _ _ _ _ _ c9]
                      exact z2 z c9 (by omega) (by unfold cl_mn at hm2; omega)
                  · rw [vm_up_f _ _ _ _ _ c, ro x c (by omega) (by omega) (by omega) (by omega) (by omega) (by omega)]
                    show vm_up (vm_up A.1 152 10 (nI (u + 64))) 152 40 1 x z = _
                    rw [j0 x c]
                    exact ao x (by unfold cl_mn at hm2; omega) (by unfold cl_mn at hm2; omega) (by unfold cl_mn at hm2; omega) (by unfold cl_mn at hm2; omega) (by unfold cl_mn at hm2; omega) z b3
                · show vm_up (vm_up A.1 152 10 (nI (u + 64))) 152 40 1 x = _
                  rw [j0 x (by omega)]
                  exact funext fun z => ag x (by omega) z
                · rw [vm_up_f _ _ _ _ _ (by decide), zc 0 (by decide)]
                  exact a8
                · rw [vm_up_k2 _ _ _ _ _ (by decide), rkk 10 (by decide)]
                  show vm_up (vm_up A.1 152 10 (nI (u + 64))) 152 40 1 152 10 = _
                  rw [vm_up_k2 _ _ _ _ _ (by decide)]
                  exact vm_up_h _ _ _ _
            · exact .pure (c_fits_f hD hp hpc (by omega) hn hc.1 hq hw hww hwy hu1 (by omega) hu) (r_fits_f hR hp hpr (by omega) hn hr.1 hq hw hww hwy hu2 (by omega) hu) h
        · exact .pure (c_fits_b hD hp hc.1 hq hw hww hk) (r_fits_b hR hp hr.1 hq hw hww hk) h
    · exact .pure (c_fits_nx hD hp hx2) (r_fits_x hR hx2) h
  · by_cases hx2 : 0 ≤ e ∧ e ≤ 3
    · obtain ⟨q, hq, rfl⟩ := cl_q3 hx2
      obtain ⟨w, a, hw, ha, h0, h1, hc, hr, hpx⟩ := h.pic q hq
      by_cases hw0 : w = 0
      · exact .pure (c_fits_xm hD hx hc.1 hq hw hw0) (r_fits_m hR hr.1 hq hw hw0) h
      · exact .pure (c_fits_xy hD hx hc.1 hq hw (by omega)) (r_fits_p hR hr.1 hq hw (by omega) hx) h
    · exact .pure (c_fits_xx hD hx hx2) (r_fits_x hR hx2) h
