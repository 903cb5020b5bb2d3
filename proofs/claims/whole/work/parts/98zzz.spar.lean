/-- SPARED: a palette without an entry -/
theorem sv_pl (I : Nat → Nat → Int32) (p n s : Nat) (m : Int32) : ∀ k, (∀ z, z < k → rv_pl I p n s m k 178 (144 * s + z) = I 157 (16 * p + sp_fe (fun y => I 157 (16 * p + y)) n m (I 176 (144 * s + z)))) ∧ ∀ r, (∀ z, z < k → r ≠ 144 * s + z) → rv_pl I p n s m k 178 r = I 178 r
  | 0 => ⟨fun z hz => absurd hz (Nat.not_lt_zero z), fun _ _ => rfl⟩
  | k + 1 => by
    obtain ⟨a, b⟩ := sv_pl I p n s m k
    have e7 : rv_pl I p n s m k 157 = I 157 := rv_pl_o _ _ _ _ _ _ (by decide) (by decide) _
    rw [mk_pl1]
    unfold rv_fd
    rw [e7]
    refine ⟨fun z hz => ?_, fun r hr => ?_⟩
    · by_cases c : z = k
      · subst c
        rw [vm_up_h]
      · rw [vm_up_k2 _ _ _ _ _ (by omega), vm_up_f _ 177 _ _ 178 (by decide)]
        exact a z (by omega)
    · rw [vm_up_k2 _ _ _ _ _ (hr k (by omega)), vm_up_f _ 177 _ _ 178 (by decide)]
      exact b r fun z hz => hr z (by omega)
theorem sv_sq : ∀ u, u < 64 → ∀ v, v < 64 → sp_ab (nI u - nI v) * sp_ab (nI u - nI v) = (nI v - nI u) * (nI v - nI u) := by decide +kernel
theorem sv_f0 (x y : Int32) : sp_far 0 x y = (sp_ch y 0 - sp_ch x 0) * (sp_ch y 0 - sp_ch x 0) + (sp_ch y 1 - sp_ch x 1) * (sp_ch y 1 - sp_ch x 1) + (sp_ch y 2 - sp_ch x 2) * (sp_ch y 2 - sp_ch x 2) := by
  have T : ∀ k, sp_ab (sp_ch x k - sp_ch y k) * sp_ab (sp_ch x k - sp_ch y k) = (sp_ch y k - sp_ch x k) * (sp_ch y k - sp_ch x k) := fun k => by
    obtain ⟨u, hu, e⟩ := sp_ch_n x k
    obtain ⟨v, hv, e2⟩ := sp_ch_n y k
    rw [e, e2]
    exact sv_sq u hu v hv
  have e : sp_far 0 x y = sp_ab (sp_ch x 0 - sp_ch y 0) * sp_ab (sp_ch x 0 - sp_ch y 0) + sp_ab (sp_ch x 1 - sp_ch y 1) * sp_ab (sp_ch x 1 - sp_ch y 1) + sp_ab (sp_ch x 2 - sp_ch y 2) * sp_ab (sp_ch x 2 - sp_ch y 2) := rfl
  rw [e, T, T, T]
theorem sv_add (a b : Nat → Int32) : ∀ n, sp_sum (fun z => a z + b z) n = sp_sum a n + sp_sum b n
  | 0 => rfl
  | n + 1 => by
    show sp_sum (fun z => a z + b z) n + (a n + b n) = sp_sum a n + a n + (sp_sum b n + b n)
    rw [sv_add a b n, Int32.add_assoc, Int32.add_assoc, ← Int32.add_assoc (sp_sum b n), Int32.add_comm (sp_sum b n) (a n), Int32.add_assoc]
theorem sv_e3 (f g : Nat → Int32) (n : Nat) : sp_e3 f g n = sp_sum (fun z => sp_far 0 (g z) (f z)) n := by
  unfold sp_e3
  rw [← sv_add, ← sv_add]
  exact sp_sum_ext fun z _ => by
    rw [sv_f0]
    rfl
def sv_ix (e i : Nat) : Nat := if i < e then i else i + 1
theorem sv_nr {f : Nat → Int32} {e : Nat} (he : e < 16) : ∀ j, j ≤ 16 → ((if j ≤ e then j else j - 1) = 0 → sp_nr f (fun k => nI k = nI e) j = none) ∧ ∀ c, (if j ≤ e then j else j - 1) = c + 1 → sp_nr f (fun k => nI k = nI e) j = some (sv_ix e (sp_nn (fun i => f (sv_ix e i)) c))
  | 0, _ => ⟨fun _ => rfl, fun c h => by
    rw [if_pos (Nat.zero_le e)] at h
    exact absurd h (by omega)⟩
  | j + 1, hj => by
    obtain ⟨i1, i2⟩ := sv_nr (f := f) he j (by omega)
    have E : sp_nr f (fun k => nI k = nI e) (j + 1) = match sp_nr f (fun k => nI k = nI e) j with
      | none => if nI j = nI e then none else some j
      | some q => if nI j = nI e then some q else if f j < f q then some j else some q := rfl
    by_cases c : j = e
    · subst c
      rw [if_pos (Nat.le_refl j)] at i1 i2
      rw [if_neg (by omega), Nat.add_sub_cancel]
      refine ⟨fun h => ?_, fun c h => ?_⟩
      · rw [E, i1 h]
        exact if_pos rfl
      · rw [E, i2 c h]
        exact if_pos rfl
    · have cn : ¬ nI j = nI e := fun z => c (cl_nI z (by omega) (by omega))
      have ec : (if j + 1 ≤ e then j + 1 else j + 1 - 1) = (if j ≤ e then j else j - 1) + 1 := by
        by_cases d : j + 1 ≤ e
        · rw [if_pos d, if_pos (by omega)]
        · rw [if_neg d, if_neg (by omega)]
          omega
      have ej : sv_ix e (if j ≤ e then j else j - 1) = j := by
        unfold sv_ix
        by_cases d : j + 1 ≤ e
        · rw [if_pos (show j ≤ e by omega), if_pos (by omega)]
        · rw [if_neg (show ¬ j ≤ e by omega), if_neg (by omega)]
          omega
      rw [ec]
      refine ⟨fun h => by omega, fun c2 h => ?_⟩
      generalize hc : (if j ≤ e then j else j - 1) = cnt at *
      have : c2 = cnt := by omega
      subst this
      cases c2 with
      | zero =>
        rw [E, i1 rfl]
        show (if nI j = nI e then none else some j) = some (sv_ix e 0)
        rw [if_neg cn, ej]
      | succ c3 =>
        rw [E, i2 c3 rfl]
        show (if nI j = nI e then some (sv_ix e (sp_nn (fun i => f (sv_ix e i)) c3)) else if f j < f (sv_ix e (sp_nn (fun i => f (sv_ix e i)) c3)) then some j else some (sv_ix e (sp_nn (fun i => f (sv_ix e i)) c3))) = some (sv_ix e (if f (sv_ix e (c3 + 1)) < f (sv_ix e (sp_nn (fun i => f (sv_ix e i)) c3)) then c3 + 1 else sp_nn (fun i => f (sv_ix e i)) c3))
        rw [if_neg cn, ej]
        split
        · rw [ej]
        · rfl
theorem sv_nq {f : Nat → Int32} {e n : Nat} (he : e < n) (hn : n ≤ 16) (h1 : 1 < n) : sp_nq f (fun k => nI k = nI e) n = sv_ix e (sp_nn (fun i => f (sv_ix e i)) (n - 1 - 1)) := by
  have := (sv_nr (f := f) (e := e) (by omega) n hn).2 (n - 1 - 1) (by rw [if_neg (by omega)]; omega)
  unfold sp_nq
  rw [this]
theorem sv_V {I : Nat → Int32} {P : Nat → Int32} {J : Nat → Nat → Int32} {K : Nat → Nat → UInt32} {q p n w h kn g k e : Nat} {m : Int32} (hp : p < 4) (hn : n ≤ 16) (h1 : 1 < n) (he : e < n) (hpal : ∀ e, e < n → I e = J 157 (16 * p + e)) (hx : ∀ z, z < w * h → P z = J 155 (144 * q + z)) : rv_sV (J, K) q p n w h kn g k m e = sp_sum (fun z => sp_ew1 I n m (nI e) (P z)) (w * h) := by
  unfold rv_sV rv_ev
  rw [sv_e3]
  refine sp_sum_ext fun z hz => ?_
  have o7 := rv_sH_o (J, K) q p n w h kn g k m hp hn 157 (by decide) (by decide) (by decide) (by decide) (by decide) (by decide) (by decide) (by decide) e (by omega)
  have o5 := rv_sH_o (J, K) q p n w h kn g k m hp hn 155 (by decide) (by decide) (by decide) (by decide) (by decide) (by decide) (by decide) (by decide) e (by omega)
  generalize rv_sH (J, K) q p n w h kn g k m e = S at *
  have w7 : ∀ z, rv_w2 S.1 p n e 157 z = if 16 * p + e ≤ z ∧ z < 16 * p + e + (n - 1 - e) then J 157 (z + 1) else J 157 z := fun z => by
    unfold rv_w2
    rw [kl_rm _ _ _ _ (Or.inl rfl), vm_up_f _ _ _ _ _ (by decide), rv_m1_o _ _ (by decide) (by decide), o7]
  have w5 : rv_w2 S.1 p n e 155 = J 155 := by
    rw [rv_w2_o _ _ _ _ _ (by decide) (by decide) (by decide) (by decide) (by decide), o5]
  have b6 : rv_mb (rv_w2 S.1 p n e) q 1 w h 0 176 (144 * 1 + z) = P z := by
    unfold rv_mb
    rw [vm_wq_i _ _ _ _ _ _ (by omega)]
    show rv_w2 S.1 p n e 155 (144 * q + (144 * 1 + z - 144 * 1)) = _
    rw [w5, Nat.add_sub_cancel_left, hx z hz]
  have b7 : rv_mb (rv_w2 S.1 p n e) q 1 w h 0 157 = rv_w2 S.1 p n e 157 := rv_mb_o _ _ _ _ _ _ _ (by decide) (by decide) (by decide) (by decide)
  have pv : ∀ i, i < n - 1 → rv_w2 S.1 p n e 157 (16 * p + i) = I (sv_ix e i) := fun i hi => by
    rw [w7]
    unfold sv_ix
    by_cases c : i < e
    · rw [if_neg (by omega), if_pos c, hpal i (by omega)]
    · rw [if_pos (by omega), if_neg c, hpal (i + 1) (by omega)]
      rfl
  have e6 : (rv_eH S q p n w h kn g k m e).1 176 (144 * 1 + z) = P z := by
    show rv_pl (rv_mb (rv_w2 S.1 p n e) q 1 w h 0) p (n - 1) 1 m (w * h) 176 (144 * 1 + z) = _
    rw [rv_pl_o _ _ _ _ _ _ (by decide) (by decide) _]
    exact b6
  have fe : sp_fe (fun y => rv_w2 S.1 p n e 157 (16 * p + y)) (n - 1) m (P z) = sp_nn (fun i => sp_far m (P z) (I (sv_ix e i))) (n - 1 - 1) := sp_nn_c fun i hi => by
    show sp_far m (rv_w2 S.1 p n e 157 (16 * p + i)) (P z) = _
    rw [pv i (by omega), sp_far_s]
  have e8 : (rv_eH S q p n w h kn g k m e).1 178 (144 * 1 + z) = I (sv_ix e (sp_nn (fun i => sp_far m (P z) (I (sv_ix e i))) (n - 1 - 1))) := by
    show rv_pl (rv_mb (rv_w2 S.1 p n e) q 1 w h 0) p (n - 1) 1 m (w * h) 178 (144 * 1 + z) = _
    have hle := sp_nn_le (fun i => sp_far m (P z) (I (sv_ix e i))) (n - 1 - 1)
    rw [(sv_pl _ p (n - 1) 1 m (w * h)).1 z hz, b6, b7, fe, pv _ (by omega)]
  rw [e6, e8]
  unfold sp_ew1
  rw [sv_nq he hn h1]
theorem sv_I {L L' : Nat → Prop} [DecidablePred L] [DecidablePred L'] {V V' : Nat → Int32} : ∀ {n : Nat}, (∀ e, e < n → (L e ↔ L' e) ∧ V e = V' e) → sp_sI L V n = sp_sI L' V' n ∧ ∀ b, sp_sI L V n = some b → b < n
  | 0, _ => ⟨rfl, fun b h => nomatch h⟩
  | n + 1, h => by
    obtain ⟨i1, i2⟩ := sv_I fun e he => h e (Nat.lt_succ_of_lt he)
    obtain ⟨l, v⟩ := h n (Nat.lt_succ_self n)
    have E : sp_sI L V (n + 1) = if L n then sp_sI L V n else match sp_sI L V n with
      | none => some n
      | some b => if V n < V b then some n else some b := rfl
    have E' : sp_sI L' V' (n + 1) = if L' n then sp_sI L' V' n else match sp_sI L' V' n with
      | none => some n
      | some b => if V' n < V' b then some n else some b := rfl
    rw [E, E', ← i1]
    by_cases c : L n
    · rw [if_pos c, if_pos (l.mp c)]
      exact ⟨rfl, fun b hb => Nat.lt_succ_of_lt (i2 b hb)⟩
    · rw [if_neg c, if_neg fun z => c (l.mpr z)]
      cases hs : sp_sI L V n with
      | none => exact ⟨rfl, fun b hb => by cases hb; exact Nat.lt_succ_self n⟩
      | some b =>
        have hb := i2 b hs
        show (if V n < V b then some n else some b) = (if V' n < V' b then some n else some b) ∧ ∀ b', (if V n < V b then some n else some b) = some b' → b' < n + 1
        rw [v, (h b (by omega)).2]
        refine ⟨rfl, fun b' hb' => ?_⟩
        split at hb'
        · cases hb'
          exact Nat.lt_succ_self n
        · cases hb'
          omega
/-- what the reference keeps beyond an image -/
theorem Rel_189 {I J : vm_IH} {F : vm_FH} (q : Rel I F) (f : ∀ x, x ≠ 189 → J x = I x) (e : ∀ k, k < 1208 → J 189 k = I 189 k) : Rel J F :=
  ⟨Rpic_r q.pic (fun a _ _ => f a (by omega)) (f _ (by decide)) (f _ (by decide)) (f _ (by decide)),
    Rpal_r q.pal (fun a _ _ => f a (by omega)) (f _ (by decide)) (f _ (by decide)) (f _ (by decide)),
    Rrul_r q.rul (f _ (by decide)) (congrFun (f _ (by decide)) _) (congrFun (f _ (by decide)) _) (congrFun (f _ (by decide)) _) (congrFun (f _ (by decide)) _),
    Rsht_r q.sht (fun a _ _ => f a (by omega)) rfl (congrFun (f _ (by decide)) 0) (congrFun (f _ (by decide)) 0) (congrFun (f _ (by decide)) 0) (fun k _ => congrFun (f _ (by decide)) k) (fun k _ => congrFun (f _ (by decide)) k) (fun k _ => congrFun (f _ (by decide)) k) (fun _ _ => rfl),
    Rsee_r q.see (f _ (by decide)) (f _ (by decide)) (congrFun (f _ (by decide)) _) (f _ (by decide)) (f _ (by decide)) (f _ (by decide)),
    Rpln_r q.pln (f _ (by decide)) (f _ (by decide)) (congrFun (f _ (by decide)) _) (f _ (by decide)) (f _ (by decide)),
    Rbok_r q.bok (f _ (by decide)) (f _ (by decide)) (congrFun (f _ (by decide)) _) (f _ (by decide)) (f _ (by decide)),
    Rmst_r q.mst (congrFun (f _ (by decide)) 0) (congrFun (f _ (by decide)) 0) (congrFun (f _ (by decide)) 0),
    Rwrk_r q.wrk (congrFun (f _ (by decide)) _) (congrFun (f _ (by decide)) _),
    Rtxt_r q.txt (congrFun (f _ (by decide)) _) (f _ (by decide)) (congrFun (f _ (by decide)) _) (f _ (by decide)),
    Rtap_r q.tap (fun a _ _ => f a (by omega)) (f _ (by decide)) (f _ (by decide)) (f _ (by decide)),
    Rimg_r q.img (congrFun (f _ (by decide)) _) (congrFun (f _ (by decide)) _) (fun a _ _ => f a (by omega)) rfl e rfl,
    Rnan_r q.nan rfl⟩
theorem sv_m1 (I : vm_IH) (k : Nat) (hk : k < 2000) : rv_m1 I 189 k = I 189 k := by
  unfold rv_m1 vr_ppk
  rw [vm_up_f _ _ _ _ _ (by decide), vr_pv_l _ _ _ _ (by omega), vm_up_f _ _ _ _ _ (by decide), vr_pv_l _ _ _ _ (by omega), vr_pk_l _ _ _ _ _ (by omega), vr_pk_l _ _ _ _ _ (by omega), vr_pk_l _ _ _ _ _ (by omega), vm_up_f _ _ _ _ _ (by decide), vm_up_f _ _ _ _ _ (by decide)]
theorem sv_ew (H : vm_P2) (q p n w h kn g k : Nat) (m : Int32) (e : Nat) : tr_F H.1 (rv_ew H q p n w h kn g k m e).1 ∧ tr_G H.2 (rv_ew H q p n w h kn g k m e).2 ∧ ∀ z, z < 2000 → (rv_ew H q p n w h kn g k m e).1 189 z = H.1 189 z := by
  have M := tr_mk (rv_w2 H.1 p n e, H.2) q p (n - 1) w h kn g k 0 m
  refine ⟨tr_t (tr_o fun x a b => ?_) (tr_t M.1 (tr_o fun x a b => ?_)), M.2, fun z hz => ?_⟩
  · exact rv_w2_o _ _ _ _ _ (by omega) (by omega) (by omega) (by omega) (by omega)
  · exact rv_m0_o _ _ (by omega) (by omega) (by omega) (by omega)
  · show rv_m0 (rv_mk (rv_w2 H.1 p n e, H.2) q p (n - 1) 1 w h kn g k 0 m).1 189 z = _
    rw [rv_m0_o _ _ (by decide) (by decide) (by decide) (by decide), rv_mk_o _ _ _ _ _ _ _ _ _ _ _ _ _ (by decide) (by decide) (by decide) (by decide) (by decide) (by decide)]
    show rv_w2 H.1 p n e 189 z = _
    rw [rv_w2_189]
    exact sv_m1 _ _ hz
theorem sv_sH (H : vm_P2) (q p n w h kn g k : Nat) (m : Int32) : ∀ e, tr_F H.1 (rv_sH H q p n w h kn g k m e).1 ∧ tr_G H.2 (rv_sH H q p n w h kn g k m e).2 ∧ ∀ z, z < 2000 → (rv_sH H q p n w h kn g k m e).1 189 z = H.1 189 z
  | 0 => ⟨tr_0 _, fun _ _ => rfl, fun _ _ => rfl⟩
  | e + 1 => by
    obtain ⟨a, b, c⟩ := sv_sH H q p n w h kn g k m e
    unfold rv_sH
    split
    · exact ⟨a, b, c⟩
    · obtain ⟨a2, b2, c2⟩ := sv_ew (rv_sH H q p n w h kn g k m e) q p n w h kn g k m e
      exact ⟨tr_t a a2, tr_Gt b b2, fun z hz => (c2 z hz).trans (c z hz)⟩
theorem sv_vo {V V' : Nat → Int32} {n : Nat} (h : ∀ e, e < n → V e = V' e) : ∀ {o : Option Nat}, (∀ b, o = some b → b < n) → sp_vo V o = sp_vo V' o
  | none, _ => rfl
  | some b, h2 => h b (h2 b rfl)

theorem call_spared {l : Launch} {X : vm_Cx} {G : List vm_Sh} {I : Nat → Nat → Int32} {F : Nat → Nat → UInt32} {e : Int32} {q : Int32} {k : Int32} (hD : vm_isD G) (hR : vm_isR G) (h : Rel I F) : vm_Cl l X G I F vm_M131 vm_M281 [.int e, .int q, .int k] := by
  by_cases hx : 0 ≤ q ∧ q ≤ 3
  · obtain ⟨p, hp, rfl⟩ := cl_q3 hx
    by_cases hx2 : 0 ≤ e ∧ e ≤ 3
    · obtain ⟨q, hq, rfl⟩ := cl_q3 hx2
      obtain ⟨w, a, hw, ha, h0, h1, hc, hr, hpx⟩ := h.pic q hq
      by_cases hw0 : w = 0
      · exact .pure (c_spared_nm hD hp hc.1 hq hw hw0) (r_spared_m hR hr.1 hq hw hw0) h
      · have hww : 0 < w := by omega
        have hh0 := h1 hww
        have hwh := vm_mul144 hw ha
        by_cases hk : 0 ≤ k ∧ k ≤ 1
        · obtain ⟨wy, -, hwy, rfl⟩ := cl_rng hk (a := 0) (b := 1) rfl rfl (by decide) (by decide)
          replace hwy : wy < 2 := by omega
          obtain ⟨n, hn, hpc, hpr, hpk⟩ := h.pal p hp
          obtain ⟨u, hu, hu1, hu2⟩ := h.wrk
          by_cases hv : u + 17 ≤ 6000
          · obtain ⟨m, kn, kk, g, ⟨hm4, hkn, hkk, hg⟩, hcr, hrr1, hrr2, hrr3, hrr4⟩ := h.rul
            rcases (show wy = 0 ∨ wy = 1 by omega) with rfl | rfl
            · by_cases hn1 : n ≤ 1
              · exact .mut (c_spared_n0 hD hp hpc (by omega) hc.1 hq hw hww hu1 hv) (r_spared_n0 hR hp ((vm_up_o2 _ _ _ _ _ _ (by decide)).trans hpr) (by omega) ((vm_up_o2 _ _ _ _ _ _ (by decide)).trans hr.1) hq hw hww ((vm_up_o2 _ _ _ _ _ _ (by decide)).trans hu2) hv) rfl (Rel_s (Rel_wk h hv) 40 1 (by decide))
              · have C := c_spared_y0 (l := l) (X := X) (F := F) hD hp hpc hn hc.1 hc.2 hq hw ha hww hcr.1 (by omega) hu1 hv
                have i0 : ∀ x, x ≠ 0 → vm_up I 0 8 (nI (u + 17)) x = I x := fun x hx => vm_up_f _ _ _ _ _ hx
                have i8 : vm_up I 0 8 (nI (u + 17)) 0 8 = nI (u + 17) := vm_up_h _ _ _ _
                have in8 : ∀ x z, ¬ (x = 0 ∧ z = 8) → vm_up I 0 8 (nI (u + 17)) x z = I x z := fun x z hz => vm_up_n2 _ _ _ _ _ _ hz
                generalize vm_up I 0 8 (nI (u + 17)) = A at *
                have D := r_spared_y0 (l := l) (X := X) (I := A) (F := F) hR ((congrFun (i0 156 (by decide)) p).trans hpr) hp hn ((congrFun (i0 153 (by decide)) q).trans hr.1) ((congrFun (i0 154 (by decide)) q).trans hr.2) hq hw ha hww ((congrFun (i0 152 (by decide)) 7).trans hrr2) hkn ((congrFun (i0 152 (by decide)) 9).trans hrr4) hg ((congrFun (i0 152 (by decide)) 8).trans hrr3) hkk h.nan ((congrFun (i0 152 (by decide)) 6).trans hrr1) (cl_m4 hm4) (by omega) ((congrFun (i0 152 (by decide)) 10).trans hu2) hv
                have j0 : ∀ x, x ≠ 152 → (vm_up (vm_up A 152 10 (nI (u + 17))) 152 40 1) x = A x := fun x hx => by rw [vm_up_f _ _ _ _ _ hx, vm_up_f _ _ _ _ _ hx]
                have V : ∀ e, e < n → rv_sV (vm_up (vm_up A 152 10 (nI (u + 17))) 152 40 1, F) q p n w a kn g kk (nI m) e = sp_sum (fun z => sp_ew1 (A (1 + 26 + 3 * p)) n (nI m) (nI e) (A (1 + 18 + 2 * q) z)) (w * a) := fun e he => sv_V hp hn (by omega) he (fun e he => by
                  rw [i0 (1 + 26 + 3 * p) (by omega), j0 157 (by decide), i0 157 (by decide)]
                  exact (hpk e he).1.1) (fun z hz => by
                  rw [i0 (1 + 18 + 2 * q) (by omega), j0 155 (by decide), i0 155 (by decide)]
                  exact (hpx z (by omega)).1)
                have SI := sv_I (L := fun e_ => A 158 (16 * p + e_) = 1) (L' := fun e_ => A (1 + 27 + 3 * p) e_ = 1) (V := rv_sV (vm_up (vm_up A 152 10 (nI (u + 17))) 152 40 1, F) q p n w a kn g kk (nI m)) (V' := fun e => sp_sum (fun z => sp_ew1 (A (1 + 26 + 3 * p)) n (nI m) (nI e) (A (1 + 18 + 2 * q) z)) (w * a)) (n := n) fun e he => ⟨by rw [i0 (1 + 27 + 3 * p) (by omega), i0 158 (by decide), (hpk e he).2.1], V e he⟩
                have ro := fun x b1 b2 b3 b4 b5 b6 b7 b8 => rv_sH_o (vm_up (vm_up A 152 10 (nI (u + 17))) 152 40 1, F) q p n w a kn g kk (nI m) hp hn x b1 b2 b3 b4 b5 b6 b7 b8 n (Nat.le_refl n)
                have rf := fun z b1 b2 => rv_sH_f (vm_up (vm_up A 152 10 (nI (u + 17))) 152 40 1, F) q p n w a kn g kk (nI m) hp hn z b1 b2 n (Nat.le_refl n)
                have rt := sv_sH (vm_up (vm_up A 152 10 (nI (u + 17))) 152 40 1, F) q p n w a kn g kk (nI m) n
                have rp := fun x b1 b2 b3 => rv_sH_p (vm_up (vm_up A 152 10 (nI (u + 17))) 152 40 1, F) q p n w a kn g kk (nI m) x b1 b2 b3 n
                have rk := rv_sH_ok (H := (vm_up (vm_up A 152 10 (nI (u + 17))) 152 40 1, F)) (q := q) (p := p) (n := n) (g := g) (k := kk) (m := nI m) h.nan hw ha hkn n
                generalize rv_sH (vm_up (vm_up A 152 10 (nI (u + 17))) 152 40 1, F) q p n w a kn g kk (nI m) n = Z at *
                have z2 : ∀ z, z ≠ 55 → z ≠ 56 → z ≠ 10 → z ≠ 40 → Z.1 152 z = I 152 z := fun z c1 c2 c3 c4 => by
                  rw [rf z c1 c2]
                  show vm_up (vm_up A 152 10 (nI (u + 17))) 152 40 1 152 z = _
                  rw [vm_up_k2 _ _ _ _ _ c4, vm_up_k2 _ _ _ _ _ c3, i0 152 (by decide)]
                have zo : ∀ x, x ≠ 152 → x ≠ 189 → ¬ (173 ≤ x ∧ x ≤ 178) → Z.1 x = A x := fun x c1 c2 c3 => (ro x c1 c2 (by omega) (by omega) (by omega) (by omega) (by omega) (by omega)).trans (j0 x c1)
                have z9 : ∀ z, z < 1208 → Z.1 189 z = I 189 z := fun z hz => (rt.2.2 z (by omega)).trans (congrFun ((j0 189 (by decide)).trans (i0 189 (by decide))) z)
                have q0 : Rel (fun x => if x = 189 then I 189 else Z.1 x) Z.2 := by
                  refine Rel_tr h (fun x z hm2 b1 b3 b4 => ?_) ⟨fun x h1 h2 => ?_, fun x h1 h2 k hk => ?_⟩ (fun c hc => rt.2.1 c hc) (rp 9 (by decide) (by decide) (by decide)) (rp 46 (by decide) (by decide) (by decide)) (rp 190 (by decide) (by decide) (by decide)) ⟨u + 17, hv, ?_, ?_⟩ rk
                  · by_cases c : x = 189
                    · show (if x = 189 then I 189 else Z.1 x) z = _
                      rw [if_pos c, c]
                    · show (if x = 189 then I 189 else Z.1 x) z = _
                      rw [if_neg c]
                      by_cases c2 : x = 152
                      · subst c2
                        exact z2 z (by unfold cl_mn at hm2; omega) (by unfold cl_mn at hm2; omega) (by omega) (by unfold cl_mn at hm2; omega)
                      · rw [zo x c2 c b1]
                        exact in8 x z b3
                  · show (if x = 189 then I 189 else Z.1 x) 0 = _
                    rw [if_neg (by omega), rt.1.1 x h1 h2]
                    exact congrFun ((j0 x (by omega)).trans (i0 x (by omega))) 0
                  · show (if x = 189 then I 189 else Z.1 x) k = _
                    rw [if_neg (by omega), rt.1.2 x h1 h2 k hk]
                    exact congrFun ((j0 x (by omega)).trans (i0 x (by omega))) k
                  · show (if 0 = 189 then I 189 else Z.1 0) 8 = _
                    rw [if_neg (by decide), zo 0 (by decide) (by decide) (by decide)]
                    exact i8
                  · show (if 152 = 189 then I 189 else Z.1 152) 10 = _
                    rw [if_neg (by decide), rf 10 (by decide) (by decide)]
                    show vm_up (vm_up A 152 10 (nI (u + 17))) 152 40 1 152 10 = _
                    rw [vm_up_k2 _ _ _ _ _ (by decide)]
                    exact vm_up_h _ _ _ _
                refine .mut C D (congrArg Value.int (congrArg sp_ni SI.1)) (Rel_189 q0 (fun x hx => (if_neg hx).symm) fun k hk => ?_)
                show Z.1 189 k = (if 189 = 189 then I 189 else Z.1 189) k
                rw [if_pos rfl]
                exact z9 k hk
            · by_cases hn1 : n ≤ 1
              · exact .mut (c_spared_n1 hD hp hpc (by omega) hc.1 hq hw hww hu1 hv) (r_spared_n1 hR hp ((vm_up_o2 _ _ _ _ _ _ (by decide)).trans hpr) (by omega) ((vm_up_o2 _ _ _ _ _ _ (by decide)).trans hr.1) hq hw hww ((vm_up_o2 _ _ _ _ _ _ (by decide)).trans hu2) hv) rfl (Rel_s (Rel_wk h hv) 40 1 (by decide))
              · have C := c_spared_y1 (l := l) (X := X) (F := F) hD hp hpc hn hc.1 hc.2 hq hw ha hww hcr.1 (by omega) hu1 hv
                have i0 : ∀ x, x ≠ 0 → vm_up I 0 8 (nI (u + 17)) x = I x := fun x hx => vm_up_f _ _ _ _ _ hx
                have i8 : vm_up I 0 8 (nI (u + 17)) 0 8 = nI (u + 17) := vm_up_h _ _ _ _
                have in8 : ∀ x z, ¬ (x = 0 ∧ z = 8) → vm_up I 0 8 (nI (u + 17)) x z = I x z := fun x z hz => vm_up_n2 _ _ _ _ _ _ hz
                generalize vm_up I 0 8 (nI (u + 17)) = A at *
                have D := r_spared_y1 (l := l) (X := X) (I := A) (F := F) hR ((congrFun (i0 156 (by decide)) p).trans hpr) hp hn ((congrFun (i0 153 (by decide)) q).trans hr.1) ((congrFun (i0 154 (by decide)) q).trans hr.2) hq hw ha hww ((congrFun (i0 152 (by decide)) 7).trans hrr2) hkn ((congrFun (i0 152 (by decide)) 9).trans hrr4) hg ((congrFun (i0 152 (by decide)) 8).trans hrr3) hkk h.nan ((congrFun (i0 152 (by decide)) 6).trans hrr1) (cl_m4 hm4) (by omega) ((congrFun (i0 152 (by decide)) 10).trans hu2) hv
                have j0 : ∀ x, x ≠ 152 → (vm_up (vm_up A 152 10 (nI (u + 17))) 152 40 1) x = A x := fun x hx => by rw [vm_up_f _ _ _ _ _ hx, vm_up_f _ _ _ _ _ hx]
                have V : ∀ e, e < n → rv_sV (vm_up (vm_up A 152 10 (nI (u + 17))) 152 40 1, F) q p n w a kn g kk (nI m) e = sp_sum (fun z => sp_ew1 (A (1 + 26 + 3 * p)) n (nI m) (nI e) (A (1 + 18 + 2 * q) z)) (w * a) := fun e he => sv_V hp hn (by omega) he (fun e he => by
                  rw [i0 (1 + 26 + 3 * p) (by omega), j0 157 (by decide), i0 157 (by decide)]
                  exact (hpk e he).1.1) (fun z hz => by
                  rw [i0 (1 + 18 + 2 * q) (by omega), j0 155 (by decide), i0 155 (by decide)]
                  exact (hpx z (by omega)).1)
                have SI := sv_I (L := fun e_ => A 158 (16 * p + e_) = 1) (L' := fun e_ => A (1 + 27 + 3 * p) e_ = 1) (V := rv_sV (vm_up (vm_up A 152 10 (nI (u + 17))) 152 40 1, F) q p n w a kn g kk (nI m)) (V' := fun e => sp_sum (fun z => sp_ew1 (A (1 + 26 + 3 * p)) n (nI m) (nI e) (A (1 + 18 + 2 * q) z)) (w * a)) (n := n) fun e he => ⟨by rw [i0 (1 + 27 + 3 * p) (by omega), i0 158 (by decide), (hpk e he).2.1], V e he⟩
                have ro := fun x b1 b2 b3 b4 b5 b6 b7 b8 => rv_sH_o (vm_up (vm_up A 152 10 (nI (u + 17))) 152 40 1, F) q p n w a kn g kk (nI m) hp hn x b1 b2 b3 b4 b5 b6 b7 b8 n (Nat.le_refl n)
                have rf := fun z b1 b2 => rv_sH_f (vm_up (vm_up A 152 10 (nI (u + 17))) 152 40 1, F) q p n w a kn g kk (nI m) hp hn z b1 b2 n (Nat.le_refl n)
                have rt := sv_sH (vm_up (vm_up A 152 10 (nI (u + 17))) 152 40 1, F) q p n w a kn g kk (nI m) n
                have rp := fun x b1 b2 b3 => rv_sH_p (vm_up (vm_up A 152 10 (nI (u + 17))) 152 40 1, F) q p n w a kn g kk (nI m) x b1 b2 b3 n
                have rk := rv_sH_ok (H := (vm_up (vm_up A 152 10 (nI (u + 17))) 152 40 1, F)) (q := q) (p := p) (n := n) (g := g) (k := kk) (m := nI m) h.nan hw ha hkn n
                generalize rv_sH (vm_up (vm_up A 152 10 (nI (u + 17))) 152 40 1, F) q p n w a kn g kk (nI m) n = Z at *
                have z2 : ∀ z, z ≠ 55 → z ≠ 56 → z ≠ 10 → z ≠ 40 → Z.1 152 z = I 152 z := fun z c1 c2 c3 c4 => by
                  rw [rf z c1 c2]
                  show vm_up (vm_up A 152 10 (nI (u + 17))) 152 40 1 152 z = _
                  rw [vm_up_k2 _ _ _ _ _ c4, vm_up_k2 _ _ _ _ _ c3, i0 152 (by decide)]
                have zo : ∀ x, x ≠ 152 → x ≠ 189 → ¬ (173 ≤ x ∧ x ≤ 178) → Z.1 x = A x := fun x c1 c2 c3 => (ro x c1 c2 (by omega) (by omega) (by omega) (by omega) (by omega) (by omega)).trans (j0 x c1)
                have z9 : ∀ z, z < 1208 → Z.1 189 z = I 189 z := fun z hz => (rt.2.2 z (by omega)).trans (congrFun ((j0 189 (by decide)).trans (i0 189 (by decide))) z)
                have q0 : Rel (fun x => if x = 189 then I 189 else Z.1 x) Z.2 := by
                  refine Rel_tr h (fun x z hm2 b1 b3 b4 => ?_) ⟨fun x h1 h2 => ?_, fun x h1 h2 k hk => ?_⟩ (fun c hc => rt.2.1 c hc) (rp 9 (by decide) (by decide) (by decide)) (rp 46 (by decide) (by decide) (by decide)) (rp 190 (by decide) (by decide) (by decide)) ⟨u + 17, hv, ?_, ?_⟩ rk
                  · by_cases c : x = 189
                    · show (if x = 189 then I 189 else Z.1 x) z = _
                      rw [if_pos c, c]
                    · show (if x = 189 then I 189 else Z.1 x) z = _
                      rw [if_neg c]
                      by_cases c2 : x = 152
                      · subst c2
                        exact z2 z (by unfold cl_mn at hm2; omega) (by unfold cl_mn at hm2; omega) (by omega) (by unfold cl_mn at hm2; omega)
                      · rw [zo x c2 c b1]
                        exact in8 x z b3
                  · show (if x = 189 then I 189 else Z.1 x) 0 = _
                    rw [if_neg (by omega), rt.1.1 x h1 h2]
                    exact congrFun ((j0 x (by omega)).trans (i0 x (by omega))) 0
                  · show (if x = 189 then I 189 else Z.1 x) k = _
                    rw [if_neg (by omega), rt.1.2 x h1 h2 k hk]
                    exact congrFun ((j0 x (by omega)).trans (i0 x (by omega))) k
                  · show (if 0 = 189 then I 189 else Z.1 0) 8 = _
                    rw [if_neg (by decide), zo 0 (by decide) (by decide) (by decide)]
                    exact i8
                  · show (if 152 = 189 then I 189 else Z.1 152) 10 = _
                    rw [if_neg (by decide), rf 10 (by decide) (by decide)]
                    show vm_up (vm_up A 152 10 (nI (u + 17))) 152 40 1 152 10 = _
                    rw [vm_up_k2 _ _ _ _ _ (by decide)]
                    exact vm_up_h _ _ _ _
                refine .mut C D (congrArg Value.int (by rw [← SI.1]; exact sv_vo V SI.2)) (Rel_189 q0 (fun x hx => (if_neg hx).symm) fun k hk => ?_)
                show Z.1 189 k = (if 189 = 189 then I 189 else Z.1 189) k
                rw [if_pos rfl]
                exact z9 k hk
          · exact .pure (c_spared_f hD hp hc.1 hq hw hww hwy hu1 (by omega) hu) (r_spared_f hR hp hr.1 hq hw hww hwy hu2 (by omega) hu) h
        · exact .pure (c_spared_b hD hp hc.1 hq hw hww hk) (r_spared_b hR hp hr.1 hq hw hww hk) h
    · exact .pure (c_spared_nx hD hp hx2) (r_spared_x hR hx2) h
  · by_cases hx2 : 0 ≤ e ∧ e ≤ 3
    · obtain ⟨q, hq, rfl⟩ := cl_q3 hx2
      obtain ⟨w, a, hw, ha, h0, h1, hc, hr, hpx⟩ := h.pic q hq
      by_cases hw0 : w = 0
      · exact .pure (c_spared_xm hD hx hc.1 hq hw hw0) (r_spared_m hR hr.1 hq hw hw0) h
      · exact .pure (c_spared_xy hD hx hc.1 hq hw (by omega)) (r_spared_p hR hr.1 hq hw (by omega) hx) h
    · exact .pure (c_spared_xx hD hx hx2) (r_spared_x hR hx2) h
