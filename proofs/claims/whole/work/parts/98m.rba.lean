theorem vf_min (f : Nat → Nat) (P : Nat → Prop) [DecidablePred P] : ∀ n, (∃ u, u < n ∧ P u) → ∃ u, u < n ∧ P u ∧ ∀ v, v < n → P v → f u ≤ f v
  | 0, h => absurd h.choose_spec.1 (Nat.not_lt_zero _)
  | n + 1, h => by
    obtain ⟨w, hw, hp⟩ := h
    by_cases q : ∃ u, u < n ∧ P u
    · obtain ⟨u, h1, h2, h3⟩ := vf_min f P n q
      by_cases r : P n ∧ f n < f u
      · refine ⟨n, Nat.lt_succ_self n, r.1, fun v hv hpv => ?_⟩
        by_cases e : v = n
        · rw [e]
          exact Nat.le_refl _
        · have := h3 v (by omega) hpv
          omega
      · refine ⟨u, by omega, h2, fun v hv hpv => ?_⟩
        by_cases e : v = n
        · subst e
          exact Nat.le_of_not_lt fun z => r ⟨hpv, z⟩
        · exact h3 v (by omega) hpv
    · have e : w = n := by
        by_cases z : w = n
        · exact z
        · exact absurd ⟨w, by omega, hp⟩ q
      subst e
      refine ⟨w, Nat.lt_succ_self w, hp, fun v hv hpv => ?_⟩
      by_cases e : v = w
      · rw [e]
        exact Nat.le_refl _
      · exact absurd ⟨v, by omega, hpv⟩ q
/-- how many are less -/
def vf_rk (f : Nat → Nat) (n t : Nat) : Nat := vf_ns (fun u => if f u < f t then 1 else 0) n
theorem vf_ns_t (t : Nat) : ∀ n, vf_ns (fun u => if u = t then 1 else 0) n = if t < n then 1 else 0
  | 0 => by rw [if_neg (Nat.not_lt_zero t)]; rfl
  | n + 1 => by
    unfold vf_ns
    rw [vf_ns_t t n]
    by_cases e : n = t
    · subst e
      rw [if_neg (Nat.lt_irrefl n), if_pos rfl, if_pos (Nat.lt_succ_self n)]
    · rw [if_neg e]
      by_cases q : t < n
      · rw [if_pos q, if_pos (by omega)]
      · rw [if_neg q, if_neg (by omega)]
theorem vf_ns_a (c d : Nat → Nat) : ∀ n, vf_ns (fun u => c u + d u) n = vf_ns c n + vf_ns d n
  | 0 => rfl
  | n + 1 => by
    unfold vf_ns
    rw [vf_ns_a c d n]
    omega
theorem vf_ns_o : ∀ n, vf_ns (fun _ => 1) n = n
  | 0 => rfl
  | n + 1 => by
    unfold vf_ns
    rw [vf_ns_o n]
/-- unlike numbers take all ranks -/
theorem vf_rank {f : Nat → Nat} {n : Nat} (hi : ∀ u v, u < n → v < n → f u = f v → u = v) : ∀ i, i < n → ∃ t, t < n ∧ vf_rk f n t = i
  | 0, h => by
    obtain ⟨t, h1, _, h3⟩ := vf_min f (fun _ => True) n ⟨0, h, trivial⟩
    refine ⟨t, h1, ?_⟩
    unfold vf_rk
    rw [vf_ns_e (d := fun u => if u = n then 1 else 0) fun u hu => by rw [if_neg (Nat.not_lt.mpr (h3 u hu trivial)), if_neg (Nat.ne_of_lt hu)], vf_ns_t, if_neg (Nat.lt_irrefl n)]
  | i + 1, h => by
    obtain ⟨t, h1, h2⟩ := vf_rank hi i (by omega)
    have hg : ∃ u, u < n ∧ f t < f u := by
      by_cases q : ∃ u, u < n ∧ f t < f u
      · exact q
      · have e : vf_ns (fun u => (if f u < f t then 1 else 0) + (if u = t then 1 else 0)) n = n := by
          rw [vf_ns_e (d := fun _ => 1) fun u hu => ?_, vf_ns_o]
          by_cases e : u = t
          · subst e
            rw [if_neg (Nat.lt_irrefl _), if_pos rfl]
          · have : f u < f t := by
              rcases Nat.lt_trichotomy (f u) (f t) with z | z | z
              · exact z
              · exact absurd (hi u t hu h1 z) e
              · exact absurd ⟨u, hu, z⟩ q
            rw [if_pos this, if_neg e]
        rw [vf_ns_a, vf_ns_t, if_pos h1] at e
        have e2 : vf_rk f n t + 1 = n := e
        omega
    obtain ⟨u, h3, h4, h5⟩ := vf_min f (fun u => f t < f u) n hg
    refine ⟨u, h3, ?_⟩
    have e : vf_rk f n u = vf_ns (fun v => (if f v < f t then 1 else 0) + (if v = t then 1 else 0)) n := by
      unfold vf_rk
      refine vf_ns_e fun v hv => ?_
      by_cases e : v = t
      · subst e
        rw [if_pos h4, if_neg (Nat.lt_irrefl _), if_pos rfl]
      · rw [if_neg e]
        by_cases q : f v < f t
        · rw [if_pos (Nat.lt_trans q h4), if_pos q]
        · rw [if_neg q, if_neg]
          intro z
          have q2 : f t < f v := by
            rcases Nat.lt_or_eq_of_le (Nat.le_of_not_lt q) with r | r
            · exact r
            · exact absurd (hi v t hv h1 r.symm) e
          have := h5 v hv q2
          omega
    rw [e, vf_ns_a, vf_ns_t, if_pos h1]
    have e2 : vf_rk f n t = i := h2
    unfold vf_rk at e2
    omega
theorem vf_rk_s (f : Nat → Nat) (t : Nat) : ∀ n, sp_sum (fun u => if f u < f t then (1 : Int32) else 0) n = nI (vf_rk f n t)
  | 0 => rfl
  | n + 1 => by
    unfold vf_rk vf_ns
    rw [sp_sum, vf_rk_s f t n, vm_na]
    unfold vf_rk
    by_cases q : f n < f t
    · rw [if_pos q, if_pos q]
      rfl
    · rw [if_neg q, if_neg q]
      rfl
/-- every number of a box below the boxes' number names one -/
theorem vr_ba_l {g : Nat → Int32} {n nb : Nat} (hb : nb < 2147483648) (h : ∀ z, z < nb → vr_fi g n (nI z) < n) (i : Nat) (hi : i < nb) : vr_ba g n nb (nI i) < nb := by
  obtain ⟨t, h1, h2⟩ := vf_rank (f := fun z => vr_fi g n (nI z)) (n := nb) (fun u v hu hv e => by
    have a := (sp_fi_ok (p := fun i => g i = nI u) (h u hu)).1
    have b := (sp_fi_ok (p := fun i => g i = nI v) (h v hv)).1
    have e2 : sp_fi (fun i => g i = nI u) n = sp_fi (fun i => g i = nI v) n := e
    rw [e2] at a
    exact (nI_eq (by omega) (by omega)).mp (a.symm.trans b)) i hi
  refine sp_fi_lt h1 ?_
  rw [← h2]
  exact vf_rk_s (fun z => vr_fi g n (nI z)) t nb
theorem vr_cut_ba {I : Nat → Nat → Int32} {f : Nat → Int32} {N k : Nat} (h : 0 < N) (hk : 0 < k) (hk2 : k ≤ 16) (i : Nat) (hi : i < (vr_cut I f N k).2) : vr_ba ((vr_cut I f N k).1 161) (vr_gth I f N).2 (vr_cut I f N k).2 (nI i) < (vr_cut I f N k).2 :=
  vr_ba_l (by have := (vr_cut_ib (I := I) (f := f) h hk hk2).2.1; omega) (vr_cut_ib h hk hk2).1.2.2 i hi
