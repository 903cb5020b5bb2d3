theorem vm_toM (x : Nat) (h : x < 2147483648) : (nI x).toNatClampNeg = x := vm_ix_e rfl h
/-- a box of one colour has no span -/
theorem sp_spn_1 (I : Nat → Nat → Int32) (C x : Nat) (k : Int32) : ¬ 0 < sp_spn I C x 1 k := by
  have h := sp_ch_b (I (C + 1) x) k
  have e1 : sp_hi (fun i => sp_ch (I (C + 1) i) k) x 1 = sp_ch (I (C + 1) x) k := by
    show sp_mx 0 (sp_ch (I (C + 1) x) k) = _
    unfold sp_mx
    split
    · rfl
    · rename_i q
      rw [Int32.lt_iff_toInt_lt] at q
      have z : (0 : Int32).toInt = 0 := rfl
      exact Int32.toInt.inj (by omega)
  have e2 : sp_lo (fun i => sp_ch (I (C + 1) i) k) x 1 = sp_ch (I (C + 1) x) k := by
    show sp_mn 63 (sp_ch (I (C + 1) x) k) = _
    unfold sp_mn
    split
    · rfl
    · rename_i q
      rw [Int32.lt_iff_toInt_lt] at q
      have z : (63 : Int32).toInt = 63 := rfl
      exact Int32.toInt.inj (by omega)
  unfold sp_spn
  rw [e1, e2, Int32.sub_self]
  decide
theorem vm_ms_1 (I : Nat → Nat → Int32) (C b x : Nat) : ∀ c, ¬ 0 < vm_ms I C b x 1 c b 4
  | 0 => by
    show ¬ 0 < vm_up I b 4 (-1) b 4
    rw [vm_up_h]
    decide
  | c + 1 => by
    unfold vm_ms
    split
    · rw [vm_up_k2 _ _ _ _ _ (by decide), vm_up_h]
      exact sp_spn_1 I C x (nI c)
    · exact vm_ms_1 I C b x c
/-- what is known of the boxes -/
def vm_ib (H : Nat → Nat → Int32) (C n : Nat) : Prop := H C 4 = nI n ∧ ∀ t, t < n → ∃ x y, H (C + 4 + t) 0 = nI x ∧ H (C + 4 + t) 1 = nI y ∧ x < y ∧ y ≤ 144 ∧ (y = x + 1 → ¬ 0 < H (C + 4 + t) 4)
theorem vm_ib_x {H : Nat → Nat → Int32} {C n t x y : Nat} (h : vm_ib H C n) (ht : t < n) (hx : H (C + 4 + t) 0 = nI x) (hy : H (C + 4 + t) 1 = nI y) (x2 : x < 2147483648) (y2 : y < 2147483648) : x < y ∧ y ≤ 144 ∧ (y = x + 1 → ¬ 0 < H (C + 4 + t) 4) := by
  obtain ⟨a, b, h1, h2, h3, h4, h5⟩ := h.2 t ht
  have e1 : x = a := by rw [← vm_toM x x2, ← hx, h1]; exact vm_toM a (by omega)
  have e2 : y = b := by rw [← vm_toM y y2, ← hy, h2]; exact vm_toM b (by omega)
  rw [e1, e2]
  exact ⟨h3, h4, h5⟩
/-- a box is opened; a box is cut -/
def vm_msr (I : Nat → Nat → Int32) (C b x n : Nat) : Nat → Nat → Int32 := vm_mu (vm_ms I C b x n 3) C b x n
def vm_opn (I : Nat → Nat → Int32) (C n x y : Nat) : Nat → Nat → Int32 := vm_up (vm_msr (vm_up (vm_up I (C + 4 + n) 0 (nI x)) (C + 4 + n) 1 (nI y)) C (C + 4 + n) x (y - x)) C 4 (nI (n + 1))
theorem vm_msr_o (I : Nat → Nat → Int32) (C b x n a : Nat) (h : a ≠ b) (k : Nat) : vm_msr I C b x n a k = I a k := (vm_mu_o _ C b x a h k n).trans (vm_ms_o _ C b x n a h k 3)
theorem vm_msr_k (I : Nat → Nat → Int32) (C b x n k : Nat) (h1 : k ≠ 2) (h2 : k ≠ 5) (h3 : k ≠ 4) (h4 : k ≠ 3) : vm_msr I C b x n b k = I b k := (vm_mu_k _ C b x k h1 h2 n).trans (vm_ms_k _ C b x n k h3 h4 3)
theorem vm_msr_1 (I : Nat → Nat → Int32) (C b x : Nat) : ¬ 0 < vm_msr I C b x 1 b 4 := by
  unfold vm_msr
  rw [vm_mu_k _ C b x 4 (by decide) (by decide) 1]
  exact vm_ms_1 I C b x 3
theorem vm_opn_o (I : Nat → Nat → Int32) (C n x y a : Nat) (h0 : a ≠ C) (h1 : a ≠ C + 4 + n) (k : Nat) : vm_opn I C n x y a k = I a k := (vm_up_o2 _ _ _ _ _ _ h0).trans ((vm_msr_o _ _ _ _ _ _ h1 k).trans ((vm_up_o2 _ _ _ _ _ _ h1).trans (vm_up_o2 _ _ _ _ _ _ h1)))
theorem vm_opn_ib {H : Nat → Nat → Int32} {C n x y : Nat} (h : ∀ t, t < n → ∃ x y, H (C + 4 + t) 0 = nI x ∧ H (C + 4 + t) 1 = nI y ∧ x < y ∧ y ≤ 144 ∧ (y = x + 1 → ¬ 0 < H (C + 4 + t) 4)) (hxy : x < y) (hy : y ≤ 144) : vm_ib (vm_opn H C n x y) C (n + 1) := by
  refine ⟨vm_up_h _ _ _ _, fun t ht => ?_⟩
  by_cases e : t = n
  · subst e
    have hk : ∀ k, vm_opn H C t x y (C + 4 + t) k = vm_msr (vm_up (vm_up H (C + 4 + t) 0 (nI x)) (C + 4 + t) 1 (nI y)) C (C + 4 + t) x (y - x) (C + 4 + t) k := fun k => vm_up_o2 _ _ _ _ _ _ (by omega)
    refine ⟨x, y, ?_, ?_, hxy, hy, fun q => ?_⟩
    · rw [hk, vm_msr_k _ _ _ _ _ _ (by decide) (by decide) (by decide) (by decide), vm_up_k2 _ _ _ _ _ (by decide), vm_up_h]
    · rw [hk, vm_msr_k _ _ _ _ _ _ (by decide) (by decide) (by decide) (by decide), vm_up_h]
    · rw [hk, show y - x = 1 by omega]
      exact vm_msr_1 _ _ _ _
  · obtain ⟨a, b, h1, h2, h3, h4, h5⟩ := h t (by omega)
    have hk : ∀ k, vm_opn H C n x y (C + 4 + t) k = H (C + 4 + t) k := fun k => vm_opn_o _ _ _ _ _ _ (by omega) (by omega) k
    exact ⟨a, b, by rw [hk]; exact h1, by rw [hk]; exact h2, h3, h4, fun q => by rw [hk]; exact h5 q⟩
/-- where a box is cut -/
def sp_md (f : Nat → Int32) (p : Int32) (x y : Nat) : Nat := if sp_fi (fun t => p ≤ 2 * sp_sum (fun i => f (x + i)) (t + 1)) (y - 1 - x) < y - 1 - x then x + sp_fi (fun t => p ≤ 2 * sp_sum (fun i => f (x + i)) (t + 1)) (y - 1 - x) + 1 else y - 1
theorem sp_md_b (f : Nat → Int32) (p : Int32) (x y : Nat) (h : x + 1 < y) : x < sp_md f p x y ∧ sp_md f p x y < y := by
  unfold sp_md
  split <;> omega
theorem m_Cu_middle_n {l : Launch} {X : vm_Cx} {G : List vm_Sh} {I : Nat → Nat → Int32} {F : Nat → Nat → UInt32} {C b x y : Nat} (hC : vm_isC G C) (hb : G[b]? = some (2, 6, [.int 0, .int 0, .int 0, .int 0, .int 0, .int 0])) (hx : I b 0 = nI x) (hy : I b 1 = nI y) (hy2 : y ≤ 144) (hxy : x < y) : vm_K l X vm_M15 [.ref C, .ref b] (G, I, F) (some (.int (nI (sp_md (I (C + 2)) (I b 2) x y)))) (G, I, F) := by
  have q := m_Cu_middle (l := l) (X := X) (F := F) hC hb hx hy hy2 hxy
  rw [show (if sp_fi (fun t => I b 2 ≤ 2 * sp_sum (fun i => I (C + 2) (x + i)) (t + 1)) (y - 1 - x) < y - 1 - x then nI (x + sp_fi (fun t => I b 2 ≤ 2 * sp_sum (fun i => I (C + 2) (x + i)) (t + 1)) (y - 1 - x) + 1) else nI (y - 1)) = nI (sp_md (I (C + 2)) (I b 2) x y) from by unfold sp_md; split <;> rfl] at q
  exact q
def vm_ct1 (H : Nat → Nat → Int32) (C n t x y : Nat) : Nat → Nat → Int32 :=
  vm_opn (vm_msr (vm_up (vm_srt H (C + 1) (C + 2) (H (C + 4 + t) 3) x (y - 1 - x)) (C + 4 + t) 1 (nI (sp_md (vm_srt H (C + 1) (C + 2) (H (C + 4 + t) 3) x (y - 1 - x) (C + 2)) (vm_srt H (C + 1) (C + 2) (H (C + 4 + t) 3) x (y - 1 - x) (C + 4 + t) 2) x y))) C (C + 4 + t) x (sp_md (vm_srt H (C + 1) (C + 2) (H (C + 4 + t) 3) x (y - 1 - x) (C + 2)) (vm_srt H (C + 1) (C + 2) (H (C + 4 + t) 3) x (y - 1 - x) (C + 4 + t) 2) x y - x)) C n (sp_md (vm_srt H (C + 1) (C + 2) (H (C + 4 + t) 3) x (y - 1 - x) (C + 2)) (vm_srt H (C + 1) (C + 2) (H (C + 4 + t) 3) x (y - 1 - x) (C + 4 + t) 2) x y) y
theorem vm_ct1_o (H : Nat → Nat → Int32) (C n t x y a : Nat) (h0 : a ≠ C) (h1 : a ≠ C + 1) (h2 : a ≠ C + 2) (h3 : a ≠ C + 4 + t) (h4 : a ≠ C + 4 + n) (k : Nat) : vm_ct1 H C n t x y a k = H a k :=
  (vm_opn_o _ _ _ _ _ _ h0 h4 k).trans ((vm_msr_o _ _ _ _ _ _ h3 k).trans ((vm_up_o2 _ _ _ _ _ _ h3).trans (congrFun (vm_srt_o _ _ _ _ _ _ h1 h2 _) k)))
theorem vm_ct1_ib {H : Nat → Nat → Int32} {C n t x y : Nat} (h : vm_ib H C n) (ht : t < n) (hx : H (C + 4 + t) 0 = nI x) (hy : H (C + 4 + t) 1 = nI y) (hxy : x + 1 < y) (hy2 : y ≤ 144) : vm_ib (vm_ct1 H C n t x y) C (n + 1) := by
  have hm := sp_md_b (vm_srt H (C + 1) (C + 2) (H (C + 4 + t) 3) x (y - 1 - x) (C + 2)) (vm_srt H (C + 1) (C + 2) (H (C + 4 + t) 3) x (y - 1 - x) (C + 4 + t) 2) x y hxy
  unfold vm_ct1
  refine vm_opn_ib (fun u hu => ?_) hm.2 hy2
  revert hm
  generalize sp_md (vm_srt H (C + 1) (C + 2) (H (C + 4 + t) 3) x (y - 1 - x) (C + 2)) (vm_srt H (C + 1) (C + 2) (H (C + 4 + t) 3) x (y - 1 - x) (C + 4 + t) 2) x y = m
  intro hm
  have hs : ∀ u k, vm_srt H (C + 1) (C + 2) (H (C + 4 + t) 3) x (y - 1 - x) (C + 4 + u) k = H (C + 4 + u) k := fun u k => congrFun (vm_srt_o _ _ _ _ _ _ (by omega) (by omega) _) k
  by_cases e : u = t
  · subst e
    refine ⟨x, m, ?_, ?_, hm.1, by omega, fun q => ?_⟩
    · rw [vm_msr_k _ _ _ _ _ _ (by decide) (by decide) (by decide) (by decide), vm_up_k2 _ _ _ _ _ (by decide), hs]
      exact hx
    · rw [vm_msr_k _ _ _ _ _ _ (by decide) (by decide) (by decide) (by decide), vm_up_h]
    · rw [show m - x = 1 by omega]
      exact vm_msr_1 _ _ _ _
  · obtain ⟨a, b, h1, h2, h3, h4, h5⟩ := h.2 u hu
    have hk : ∀ k, vm_msr (vm_up (vm_srt H (C + 1) (C + 2) (H (C + 4 + t) 3) x (y - 1 - x)) (C + 4 + t) 1 (nI m)) C (C + 4 + t) x (m - x) (C + 4 + u) k = H (C + 4 + u) k := fun k => (vm_msr_o _ _ _ _ _ _ (by omega) k).trans ((vm_up_o2 _ _ _ _ _ _ (by omega)).trans (hs u k))
    exact ⟨a, b, by rw [hk]; exact h1, by rw [hk]; exact h2, h3, h4, fun q => by rw [hk]; exact h5 q⟩
/-- boxes are cut, step by step -/
def vm_ci (H : Nat → Nat → Int32) (C : Nat) : Nat → (Nat → Nat → Int32) × Nat
  | 0 => (H, 1)
  | j + 1 => match vm_wb (vm_ci H C j).1 C (vm_ci H C j).2 with
    | none => vm_ci H C j
    | some t => (vm_ct1 (vm_ci H C j).1 C (vm_ci H C j).2 t ((vm_ci H C j).1 (C + 4 + t) 0).toNatClampNeg ((vm_ci H C j).1 (C + 4 + t) 1).toNatClampNeg, (vm_ci H C j).2 + 1)
theorem vm_ci_0 {H : Nat → Nat → Int32} {C j : Nat} (h : vm_wb (vm_ci H C j).1 C (vm_ci H C j).2 = none) : ∀ d, vm_ci H C (j + d) = vm_ci H C j
  | 0 => rfl
  | d + 1 => by
    have ih := vm_ci_0 h d
    show (match vm_wb (vm_ci H C (j + d)).1 C (vm_ci H C (j + d)).2 with | none => vm_ci H C (j + d) | some t => _) = _
    rw [ih, h]
theorem vm_ci_e {H : Nat → Nat → Int32} {C j n : Nat} (h : vm_wb (vm_ci H C j).1 C (vm_ci H C j).2 = none) (hj : j ≤ n) : vm_ci H C n = vm_ci H C j := by
  have := vm_ci_0 h (n - j)
  rwa [Nat.add_sub_cancel' hj] at this
theorem vm_ci_s {H : Nat → Nat → Int32} {C j t x y : Nat} (h : vm_wb (vm_ci H C j).1 C (vm_ci H C j).2 = some t) (hx : (vm_ci H C j).1 (C + 4 + t) 0 = nI x) (hy : (vm_ci H C j).1 (C + 4 + t) 1 = nI y) (x2 : x < 2147483648) (y2 : y < 2147483648) : vm_ci H C (j + 1) = (vm_ct1 (vm_ci H C j).1 C (vm_ci H C j).2 t x y, (vm_ci H C j).2 + 1) := by
  show (match vm_wb (vm_ci H C j).1 C (vm_ci H C j).2 with | none => vm_ci H C j | some t => _) = _
  rw [h]
  dsimp only
  rw [hx, hy, vm_toM x x2, vm_toM y y2]
theorem vm_wb_0 {I : Nat → Nat → Int32} {C t : Nat} : ∀ {j : Nat}, vm_wb I C j = some t → 0 < I (C + 4 + t) 4
  | 0, h => nomatch h
  | j + 1, h => by
    unfold vm_wb at h
    split at h
    · rename_i q
      cases h
      exact q.1
    · exact vm_wb_0 h
theorem vm_ci_p {H : Nat → Nat → Int32} {C : Nat} (h : vm_ib H C 1) : ∀ j, vm_ib (vm_ci H C j).1 C (vm_ci H C j).2 ∧ (vm_ci H C j).2 ≤ j + 1 ∧ 0 < (vm_ci H C j).2
  | 0 => ⟨h, Nat.le_refl 1, Nat.one_pos⟩
  | j + 1 => by
    have ih := vm_ci_p h j
    cases hw : vm_wb (vm_ci H C j).1 C (vm_ci H C j).2 with
    | none =>
      rw [vm_ci_0 hw 1]
      exact ⟨ih.1, by omega, ih.2.2⟩
    | some t =>
      obtain ⟨x, y, h1, h2, h3, h4, h5⟩ := ih.1.2 t (vm_wb_l hw)
      have hp := vm_wb_0 hw
      rw [vm_ci_s hw h1 h2 (by omega) (by omega)]
      have h6 : x + 1 < y := by
        by_cases e : y = x + 1
        · exact absurd hp (h5 e)
        · omega
      exact ⟨vm_ct1_ib ih.1 (vm_wb_l hw) h1 h2 h6 h4, by dsimp only; omega, by dsimp only; omega⟩
theorem vm_ci_o {H : Nat → Nat → Int32} {C : Nat} (h : vm_ib H C 1) (a : Nat) (ha : a < C ∨ C + 20 ≤ a ∨ a = C + 3) : ∀ j, j ≤ 15 → (vm_ci H C j).1 a = H a
  | 0, _ => rfl
  | j + 1, hj => by
    have ih := vm_ci_o h a ha j (by omega)
    have hp := vm_ci_p h j
    cases hw : vm_wb (vm_ci H C j).1 C (vm_ci H C j).2 with
    | none =>
      rw [vm_ci_0 hw 1]
      exact ih
    | some t =>
      obtain ⟨x, y, h1, h2, h3, h4, h5⟩ := hp.1.2 t (vm_wb_l hw)
      have := vm_wb_l hw
      rw [vm_ci_s hw h1 h2 (by omega) (by omega)]
      refine (funext fun k => vm_ct1_o _ _ _ _ _ _ _ (by omega) (by omega) (by omega) (by omega) (by omega) k).trans ih
