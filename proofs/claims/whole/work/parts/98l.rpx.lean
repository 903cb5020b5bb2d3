/-- sums of natural numbers -/
def vf_ns (c : Nat → Nat) : Nat → Nat
  | 0 => 0
  | n + 1 => vf_ns c n + c n
theorem vf_ns_e {c d : Nat → Nat} : ∀ {n : Nat}, (∀ i, i < n → c i = d i) → vf_ns c n = vf_ns d n
  | 0, _ => rfl
  | n + 1, h => by
    unfold vf_ns
    rw [vf_ns_e fun i hi => h i (Nat.lt_succ_of_lt hi), h n (Nat.lt_succ_self n)]
theorem vf_ns_1 (c : Nat → Nat) (l : Nat) : ∀ n, l < n → vf_ns (fun i => if i = l then c i + 1 else c i) n = vf_ns c n + 1
  | 0, h => absurd h (Nat.not_lt_zero l)
  | n + 1, h => by
    unfold vf_ns
    by_cases e : n = l
    · subst e
      rw [vf_ns_e (d := c) fun i hi => if_neg (Nat.ne_of_lt hi), if_pos rfl]
      omega
    · rw [vf_ns_1 c l n (by omega), if_neg e]
      omega
theorem vf_ns_2 (c : Nat → Nat) (l : Nat) : ∀ n, l ≤ n → vf_ns (fun i => if i < l then c i else if i = l then 1 else c (i - 1)) (n + 1) = vf_ns c n + 1
  | 0, h => by
    have e : l = 0 := by omega
    subst e
    rfl
  | n + 1, h => by
    by_cases e : l = n + 1
    · subst e
      show vf_ns _ (n + 1) + _ = _
      rw [vf_ns_e (d := c) fun i hi => if_pos hi]
      dsimp only
      rw [if_neg (Nat.lt_irrefl _), if_pos rfl]
    · have ih := vf_ns_2 c l n (by omega)
      show vf_ns _ (n + 1) + _ = vf_ns c n + c n + 1
      rw [ih]
      dsimp only
      rw [if_neg (by omega), if_neg (by omega), Nat.add_sub_cancel]
      omega
/-- the tally's numbers of pixels: positive, and together all pixels -/
def vr_cn (H : Nat → Nat → Int32) (m N : Nat) : Prop := ∃ c : Nat → Nat, (∀ i, i < m → H 160 i = nI (c i) ∧ 0 < c i) ∧ vf_ns c m = N
theorem vr_t1_cn {I : Nat → Nat → Int32} {n N : Nat} {x : Int32} (h : vr_cn I n N) : vr_cn (vr_t1 I n x).1 (vr_t1 I n x).2 (N + 1) := by
  obtain ⟨c, hc, hs⟩ := h
  have hl := sp_pf_n (I 159) x n
  unfold vr_t1
  generalize sp_pf (I 159) x n = l at hl
  split
  · rename_i q
    refine ⟨fun i => if i = l then c i + 1 else c i, fun i hi => ?_, by rw [vf_ns_1 c l n q.1, hs]⟩
    dsimp only
    by_cases e : i = l
    · subst e
      rw [vm_up_h, if_pos rfl, (hc i hi).1]
      exact ⟨(vm_na _ _).symm, Nat.succ_pos _⟩
    · rw [vm_up_k2 _ _ _ _ _ e, if_neg e]
      exact hc i hi
  · refine ⟨fun i => if i < l then c i else if i = l then 1 else c (i - 1), fun i hi => ?_, by rw [vf_ns_2 c l n hl, hs]⟩
    dsimp only at hi ⊢
    rw [vm_up_o2 _ _ _ _ _ _ (by decide)]
    by_cases e : i = l
    · subst e
      rw [vm_up_h, if_neg (Nat.lt_irrefl _), if_pos rfl]
      exact ⟨rfl, Nat.one_pos⟩
    · rw [vm_up_k2 _ _ _ _ _ e, vm_up_o2 _ _ _ _ _ _ (by decide)]
      unfold vm_tw2
      by_cases h1 : i < l
      · rw [vm_wq_l _ _ _ _ _ _ (by omega), vm_wq_o _ _ _ _ _ _ (by decide), if_pos h1]
        exact hc i (by omega)
      · rw [if_neg h1, if_neg e]
        have hw : vm_wq (vm_wq I 159 (fun k => I 159 (k - 1)) (n - (n - l) + 1) (n - l)) 160 (fun k => I 160 (k - 1)) (n - (n - l) + 1) (n - l) 160 i = I 160 (i - 1) := by
          unfold vm_wq
          rw [if_pos rfl, if_pos (by omega)]
        rw [hw]
        exact hc (i - 1) (by omega)
theorem vr_gth_cn (I : Nat → Nat → Int32) (f : Nat → Int32) : ∀ p, vr_cn (vr_gth I f p).1 (vr_gth I f p).2 p
  | 0 => ⟨fun _ => 0, fun i hi => absurd hi (Nat.not_lt_zero i), rfl⟩
  | p + 1 => vr_t1_cn (vr_gth_cn I f p)
theorem vr_cn_px (g h : Nat → Int32) (c : Nat → Nat) (x : Int32) : ∀ n, (∀ i, i < n → h i = nI (c i)) → ∃ s, s ≤ vf_ns c n ∧ sp_sum (fun i => if g i = x then h i else 0) n = nI s ∧ ∀ i, i < n → g i = x → c i ≤ s
  | 0, _ => ⟨0, Nat.le_refl 0, rfl, fun i hi => absurd hi (Nat.not_lt_zero i)⟩
  | n + 1, hc => by
    obtain ⟨s, h1, h2, h3⟩ := vr_cn_px g h c x n fun i hi => hc i (Nat.lt_succ_of_lt hi)
    by_cases e : g n = x
    · refine ⟨s + c n, by unfold vf_ns; omega, ?_, fun i hi hg => ?_⟩
      · rw [sp_sum, h2, if_pos e, hc n (Nat.lt_succ_self n), ← vm_na]
      · by_cases q : i = n
        · subst q
          omega
        · have := h3 i (by omega) hg
          omega
    · refine ⟨s, by unfold vf_ns; omega, ?_, fun i hi hg => ?_⟩
      · rw [sp_sum, h2, if_neg e]
        exact Int32.add_zero _
      · by_cases q : i = n
        · subst q
          exact absurd hg e
        · exact h3 i (by omega) hg
/-- a box has pixels -/
theorem vr_px_p {H : Nat → Nat → Int32} {g : Nat → Int32} {n N : Nat} {x : Int32} (h : vr_cn H n N) (hN : N < 2147483648) (hx : vr_fi g n x < n) : 0 < vr_px g (H 160) n x := by
  obtain ⟨c, hc, hs⟩ := h
  obtain ⟨s, h1, h2, h3⟩ := vr_cn_px g (H 160) c x n fun i hi => (hc i hi).1
  have hok := sp_fi_ok (p := fun i => g i = x) hx
  have h4 := h3 _ hx hok.1
  have h5 := (hc _ hx).2
  unfold vr_px
  rw [h2]
  have h6 : c (sp_fi (fun i => g i = x) n) ≤ s := h4
  have h7 : 0 < c (sp_fi (fun i => g i = x) n) := h5
  exact (vm_lt_i (a := 0) (b := s) (by decide) (by omega)).mpr (by omega)
theorem vr_cut_160 (I : Nat → Nat → Int32) (f : Nat → Int32) (N k : Nat) : (vr_cut I f N k).1 160 = (vr_gth I f N).1 160 :=
  (vr_ci_o _ _ _ (by decide) (by decide) (by decide) _).trans ((vm_up_f _ _ _ _ _ (by decide)).trans (vm_wr_o _ _ _ _ _ (by decide)))
theorem vr_cut_px {I : Nat → Nat → Int32} {f : Nat → Int32} {N k : Nat} (h : 0 < N) (hN : N ≤ 144) (hk : 0 < k) (hk2 : k ≤ 16) (z : Nat) (hz : z < (vr_cut I f N k).2) : 0 < vr_px ((vr_cut I f N k).1 161) ((vr_cut I f N k).1 160) (vr_gth I f N).2 (nI z) := by
  rw [vr_cut_160]
  exact vr_px_p (vr_gth_cn I f N) (by omega) ((vr_cut_ib h hk hk2).1.2.2 z hz)
