theorem sp_fi_lt {p : Nat → Prop} [DecidablePred p] : ∀ {n i : Nat}, i < n → p i → sp_fi p n < n
  | 0, i, h, _ => absurd h (Nat.not_lt_zero i)
  | n + 1, i, h, hp => by
    unfold sp_fi
    by_cases q : sp_fi p n < n
    · rw [if_pos q]
      omega
    · rw [if_neg q]
      by_cases e : i = n
      · subst e
        rw [if_pos hp]
        exact Nat.lt_succ_self _
      · exact absurd (sp_fi_lt (by omega : i < n) hp) q
/-- the order of a box: each of its colours comes once -/
theorem vr_or_a (f g : Nat → Int32) (x k : Int32) : ∀ j i, i < j → g i = x → ∃ p, p < (vr_or f g x k j).2 ∧ (vr_or f g x k j).1 p = i
  | 0, i, h, _ => absurd h (Nat.not_lt_zero i)
  | j + 1, i, h, hg => by
    have hs := vr_os_l f k (vr_or f g x k j).1 (vr_or f g x k j).2 j
    unfold vr_or
    by_cases e : i = j
    · subst e
      rw [if_pos hg]
      refine ⟨(vr_or f g x k i).2 - vr_os f k (vr_or f g x k i).1 (vr_or f g x k i).2 i, ?_, ?_⟩
      · dsimp only
        omega
      · show vr_oi _ _ _ _ _ = i
        unfold vr_oi
        rw [if_neg (Nat.lt_irrefl _), if_pos rfl]
    · obtain ⟨p, hp, ho⟩ := vr_or_a f g x k j i (by omega) hg
      split
      · by_cases q : p < (vr_or f g x k j).2 - vr_os f k (vr_or f g x k j).1 (vr_or f g x k j).2 j
        · refine ⟨p, by dsimp only; omega, ?_⟩
          show vr_oi _ _ _ _ p = i
          unfold vr_oi
          rw [if_pos q]
          exact ho
        · refine ⟨p + 1, by dsimp only; omega, ?_⟩
          show vr_oi _ _ _ _ (p + 1) = i
          unfold vr_oi
          rw [if_neg (by omega), if_neg (by omega)]
          exact ho
      · exact ⟨p, hp, ho⟩
theorem vr_or_i (f g : Nat → Int32) (x k : Int32) : ∀ j p q, p < (vr_or f g x k j).2 → q < (vr_or f g x k j).2 → (vr_or f g x k j).1 p = (vr_or f g x k j).1 q → p = q
  | 0, p, q, h, _, _ => absurd h (Nat.not_lt_zero p)
  | j + 1, p, q, hp, hq, he => by
    have hs := vr_os_l f k (vr_or f g x k j).1 (vr_or f g x k j).2 j
    have hb := (vr_or_b f g x k j).2
    have ih := vr_or_i f g x k j
    by_cases hg : g j = x
    · have e : vr_or f g x k (j + 1) = _ := if_pos hg
      rw [e] at hp hq he
      have hp2 : p < (vr_or f g x k j).2 + 1 := hp
      have hq2 : q < (vr_or f g x k j).2 + 1 := hq
      have he2 : vr_oi (vr_or f g x k j).1 (vr_or f g x k j).2 (vr_os f k (vr_or f g x k j).1 (vr_or f g x k j).2 j) j p = vr_oi (vr_or f g x k j).1 (vr_or f g x k j).2 (vr_os f k (vr_or f g x k j).1 (vr_or f g x k j).2 j) j q := he
      revert he2
      generalize vr_os f k (vr_or f g x k j).1 (vr_or f g x k j).2 j = s at hs
      unfold vr_oi
      intro he2
      by_cases p1 : p < (vr_or f g x k j).2 - s
      · rw [if_pos p1] at he2
        have bp := (hb p (by omega)).1
        by_cases q1 : q < (vr_or f g x k j).2 - s
        · rw [if_pos q1] at he2
          exact ih p q (by omega) (by omega) he2
        · rw [if_neg q1] at he2
          by_cases q2 : q = (vr_or f g x k j).2 - s
          · rw [if_pos q2] at he2
            omega
          · rw [if_neg q2] at he2
            have := ih p (q - 1) (by omega) (by omega) he2
            omega
      · rw [if_neg p1] at he2
        by_cases p2 : p = (vr_or f g x k j).2 - s
        · rw [if_pos p2] at he2
          by_cases q1 : q < (vr_or f g x k j).2 - s
          · rw [if_pos q1] at he2
            have := (hb q (by omega)).1
            omega
          · rw [if_neg q1] at he2
            by_cases q2 : q = (vr_or f g x k j).2 - s
            · omega
            · rw [if_neg q2] at he2
              have := (hb (q - 1) (by omega)).1
              omega
        · rw [if_neg p2] at he2
          have bp := (hb (p - 1) (by omega)).1
          by_cases q1 : q < (vr_or f g x k j).2 - s
          · rw [if_pos q1] at he2
            have := ih (p - 1) q (by omega) (by omega) he2
            omega
          · rw [if_neg q1] at he2
            by_cases q2 : q = (vr_or f g x k j).2 - s
            · rw [if_pos q2] at he2
              omega
            · rw [if_neg q2] at he2
              have := ih (p - 1) (q - 1) (by omega) (by omega) he2
              omega
    · rw [vr_or_n hg] at hp hq he
      exact ih p q hp hq he
theorem sp_mn64 (c k : Int32) : sp_mn 64 (sp_ch c k) = sp_ch c k := by
  have h := sp_ch_b c k
  unfold sp_mn
  rw [if_pos]
  rw [Int32.lt_iff_toInt_lt]
  have z : (64 : Int32).toInt = 64 := rfl
  omega
theorem sp_mxm (c k : Int32) : sp_mx (-1) (sp_ch c k) = sp_ch c k := by
  have h := sp_ch_b c k
  unfold sp_mx
  rw [if_pos]
  rw [Int32.lt_iff_toInt_lt]
  have z : (-1 : Int32).toInt = -1 := rfl
  omega
theorem vr_lh (f g : Nat → Int32) (x k k2 : Int32) : ∀ j, ((vr_or f g x k2 j).2 = 0 → vr_lo f g x k j = 64 ∧ vr_hi f g x k j = -1) ∧ ((vr_or f g x k2 j).2 = 1 → vr_lo f g x k j = vr_hi f g x k j)
  | 0 => ⟨fun _ => ⟨rfl, rfl⟩, fun h => absurd h Nat.zero_ne_one⟩
  | j + 1 => by
    have ih := vr_lh f g x k k2 j
    by_cases hg : g j = x
    · have e : (vr_or f g x k2 (j + 1)).2 = (vr_or f g x k2 j).2 + 1 := by rw [show vr_or f g x k2 (j + 1) = _ from if_pos hg]
      rw [e]
      refine ⟨fun h => absurd h (Nat.succ_ne_zero _), fun h => ?_⟩
      have h0 := ih.1 (by omega)
      rw [vr_lo, vr_hi, if_pos hg, if_pos hg, h0.1, h0.2, sp_mn64, sp_mxm]
    · rw [vr_or_n hg, vr_lo, vr_hi, if_neg hg, if_neg hg]
      exact ih
/-- a box with a span has two colours -/
theorem vr_sp_2 {I : Nat → Nat → Int32} {n : Nat} {x : Int32} (h : 0 < vr_so (I 159) (I 161) n x) : 2 ≤ (vr_ol I n x).2 := by
  have q := vr_lh (I 159) (I 161) x (nI (vr_wd (I 159) (I 161) n x 2)) (nI (vr_wd (I 159) (I 161) n x 2)) n
  unfold vr_so vr_sp at h
  by_cases h0 : (vr_ol I n x).2 = 0
  · rw [(q.1 h0).1, (q.1 h0).2] at h
    exact absurd h (by decide)
  · by_cases h1 : (vr_ol I n x).2 = 1
    · rw [q.2 h1, Int32.sub_self] at h
      exact absurd h (by decide)
    · omega
theorem vr_mk_n {J : Nat → Nat → Int32} {o : Nat → Nat} {v : Int32} {s i : Nat} : ∀ {u : Nat}, (∀ t, t < u → o (s + t) ≠ i) → vr_mk J o v s u 161 i = J 161 i
  | 0, _ => rfl
  | u + 1, h => by
    show vm_up _ 161 (o (s + u)) v 161 i = _
    rw [vm_up_k2 _ _ _ _ _ (Ne.symm (h u (Nat.lt_succ_self u)))]
    exact vr_mk_n fun t ht => h t (Nat.lt_succ_of_lt ht)
theorem vr_mk_y {J : Nat → Nat → Int32} {o : Nat → Nat} {v : Int32} {s t : Nat} : ∀ {u : Nat}, t < u → vr_mk J o v s u 161 (o (s + t)) = v
  | u + 1, h => by
    show vm_up _ 161 (o (s + u)) v 161 (o (s + t)) = _
    by_cases e : o (s + t) = o (s + u)
    · rw [e]
      exact vm_up_h _ _ _ _
    · rw [vm_up_k2 _ _ _ _ _ e]
      by_cases e2 : t = u
      · exact absurd (by rw [e2]) e
      · exact vr_mk_y (by omega)
/-- what is known of the reference's boxes -/
def vr_ib (H : Nat → Nat → Int32) (n nb : Nat) : Prop := H 152 14 = nI n ∧ H 152 19 = nI nb ∧ ∀ z, z < nb → vr_fi (H 161) n (nI z) < n
theorem vr_cb_o (I : Nat → Nat → Int32) (n nb : Nat) (x : Int32) (a : Nat) (h0 : a ≠ 152) (h1 : a ≠ 161) (h2 : a ≠ 162) : vr_cb I n nb x a = I a := (vm_up_f _ _ _ _ _ h0).trans ((vr_mk_o _ _ _ _ _ h1 _).trans (vr_cO_o _ _ _ _ h2))
theorem vr_cb_k (I : Nat → Nat → Int32) (n nb : Nat) (x : Int32) (k : Nat) (h : k ≠ 19) : vr_cb I n nb x 152 k = I 152 k := by
  unfold vr_cb
  rw [vm_up_k2 _ _ _ _ _ h, vr_mk_o _ _ _ _ _ (by decide), vr_cO_o _ _ _ _ (by decide)]
theorem vr_cb_ib {H : Nat → Nat → Int32} {n nb b : Nat} (h : vr_ib H n nb) (hb : b < nb) (hnb : nb < 16) (hp : 0 < vr_so (H 159) (H 161) n (nI b)) : vr_ib (vr_cb H n nb (nI b)) n (nb + 1) := by
  have h2 := vr_sp_2 hp
  have hsd := vr_sd_b (H 160) (vr_ol H n (nI b)).1 (vr_ol H n (nI b)).2 (vr_px (H 161) (H 160) n (nI b))
  change _ ≤ vr_cs_ H n (nI b) ∧ (_ → vr_cs_ H n (nI b) ≤ _) ∧ (_ → vr_cs_ H n (nI b) < _) at hsd
  have hol := vr_ol_b H n (nI b)
  have e161 : ∀ i, vr_cb H n nb (nI b) 161 i = vr_mk (vr_cO H n (nI b)) (vr_ol H n (nI b)).1 (nI nb) (vr_cs_ H n (nI b)) ((vr_ol H n (nI b)).2 - vr_cs_ H n (nI b)) 161 i := fun i => vm_up_o2 _ _ _ _ _ _ (by decide)
  refine ⟨(vr_cb_k _ _ _ _ _ (by decide)).trans h.1, vm_up_h _ _ _ _, fun z hz => ?_⟩
  by_cases e1 : z = nb
  · subst e1
    refine sp_fi_lt (hol.2 (vr_cs_ H n (nI b) + 0) (by omega)).1 ?_
    rw [e161]
    exact vr_mk_y (by omega)
  · by_cases e2 : z = b
    · subst e2
      refine sp_fi_lt (hol.2 0 (by omega)).1 ?_
      rw [e161, vr_mk_n fun t ht he => ?_, vr_cO_o _ _ _ _ (by decide)]
      · exact (hol.2 0 (by omega)).2
      · have := vr_or_i (H 159) (H 161) (nI z) (nI (vr_wd (H 159) (H 161) n (nI z) 2)) n _ _ (show vr_cs_ H n (nI z) + t < (vr_ol H n (nI z)).2 by omega) (show 0 < (vr_ol H n (nI z)).2 by omega) he
        omega
    · have hz2 := h.2.2 z (by omega)
      have hok := sp_fi_ok (p := fun i => H 161 i = nI z) hz2
      refine sp_fi_lt hz2 ?_
      rw [e161, vr_mk_n fun t ht he => ?_, vr_cO_o _ _ _ _ (by decide)]
      · exact hok.1
      · have q := (hol.2 (vr_cs_ H n (nI b) + t) (by omega)).2
        rw [he] at q
        exact e2 ((nI_eq (by omega) (by omega)).mp (hok.1.symm.trans q))
/-- the reference's boxes, step by step -/
def vr_bb (H : Nat → Nat → Int32) (n nb : Nat) : Nat := vr_bc (H 159) (H 161) (H 160) n (nb - 1)
def vr_ci (H : Nat → Nat → Int32) (n : Nat) : Nat → (Nat → Nat → Int32) × Nat
  | 0 => (H, 1)
  | j + 1 => if 0 < vr_so ((vr_ci H n j).1 159) ((vr_ci H n j).1 161) n (nI (vr_bb (vr_ci H n j).1 n (vr_ci H n j).2)) then (vr_cb (vr_ci H n j).1 n (vr_ci H n j).2 (nI (vr_bb (vr_ci H n j).1 n (vr_ci H n j).2)), (vr_ci H n j).2 + 1) else vr_ci H n j
theorem vr_ci_0 {H : Nat → Nat → Int32} {n j : Nat} (h : ¬ 0 < vr_so ((vr_ci H n j).1 159) ((vr_ci H n j).1 161) n (nI (vr_bb (vr_ci H n j).1 n (vr_ci H n j).2))) : ∀ d, vr_ci H n (j + d) = vr_ci H n j
  | 0 => rfl
  | d + 1 => by
    have ih := vr_ci_0 h d
    rw [show vr_ci H n (j + (d + 1)) = vr_ci H n (j + d) from if_neg (by show ¬ 0 < vr_so ((vr_ci H n (j + d)).1 159) ((vr_ci H n (j + d)).1 161) n (nI (vr_bb (vr_ci H n (j + d)).1 n (vr_ci H n (j + d)).2)); rw [ih]; exact h)]
    exact ih
theorem vr_ci_e {H : Nat → Nat → Int32} {n j k : Nat} (h : ¬ 0 < vr_so ((vr_ci H n j).1 159) ((vr_ci H n j).1 161) n (nI (vr_bb (vr_ci H n j).1 n (vr_ci H n j).2))) (hj : j ≤ k) : vr_ci H n k = vr_ci H n j := by
  have := vr_ci_0 h (k - j)
  rwa [Nat.add_sub_cancel' hj] at this
theorem vr_ci_p {H : Nat → Nat → Int32} {n : Nat} (h : vr_ib H n 1) : ∀ j, j ≤ 15 → vr_ib (vr_ci H n j).1 n (vr_ci H n j).2 ∧ (vr_ci H n j).2 ≤ j + 1 ∧ 0 < (vr_ci H n j).2
  | 0, _ => ⟨h, Nat.le_refl 1, Nat.one_pos⟩
  | j + 1, hj => by
    have ih := vr_ci_p h j (by omega)
    by_cases q : 0 < vr_so ((vr_ci H n j).1 159) ((vr_ci H n j).1 161) n (nI (vr_bb (vr_ci H n j).1 n (vr_ci H n j).2))
    · rw [show vr_ci H n (j + 1) = _ from if_pos q]
      have hl := vr_bc_l ((vr_ci H n j).1 159) ((vr_ci H n j).1 161) ((vr_ci H n j).1 160) n ((vr_ci H n j).2 - 1)
      exact ⟨vr_cb_ib ih.1 (by unfold vr_bb; omega) (by omega) q, by dsimp only; omega, by dsimp only; omega⟩
    · rw [vr_ci_0 q 1]
      exact ⟨ih.1, by omega, ih.2.2⟩
theorem vr_ci_o (H : Nat → Nat → Int32) (n a : Nat) (h0 : a ≠ 152) (h1 : a ≠ 161) (h2 : a ≠ 162) : ∀ j, (vr_ci H n j).1 a = H a
  | 0 => rfl
  | j + 1 => by
    unfold vr_ci
    split
    · exact (vr_cb_o _ _ _ _ _ h0 h1 h2).trans (vr_ci_o H n a h0 h1 h2 j)
    · exact vr_ci_o H n a h0 h1 h2 j
theorem vr_ci_k (H : Nat → Nat → Int32) (n k : Nat) (h : k ≠ 19) : ∀ j, (vr_ci H n j).1 152 k = H 152 k
  | 0 => rfl
  | j + 1 => by
    unfold vr_ci
    split
    · exact (vr_cb_k _ _ _ _ _ h).trans (vr_ci_k H n k h j)
    · exact vr_ci_k H n k h j
