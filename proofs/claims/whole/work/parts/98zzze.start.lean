/-- THE START: both objects as their constructors leave them -/
def st_h0 : vm_H := ([(12, (vm_df 10).length, vm_df 10)], vm_zr (fun _ => 0) (fun _ _ => 0) 0, fun _ _ => 0)
def st_a0 : vm_F := (0, (0, 0), vm_e0 [.ref 0] 2, [])
def st_r1 : Option vm_H := ev 4000 vm_M98 st_a0 st_h0
def st_n (h : vm_H) : vm_H := (h.1 ++ [(13, (vm_df 11).length, vm_df 11)], vm_zr (fun _ => 0) h.2.1 h.1.length, h.2.2)
def st_a1 : vm_F := (0, (0, 0), vm_e0 [.ref 152] 2, [])
def st_r2 (h : vm_H) : Option vm_H := ev 4000 vm_M167 st_a1 (st_n h)
def st_P (I : Nat → Nat → Int32) (F : Nat → Nat → UInt32) : Prop :=
  (∀ p, p < 4 → (I (1 + 17 + 2 * p) 0 = 0 ∧ I (1 + 17 + 2 * p) 1 = 0 ∧ I 153 p = 0 ∧ I 154 p = 0) ∧ ∀ k, k < 144 → I (1 + 18 + 2 * p) k = 0 ∧ I 155 (144 * p + k) = 0) ∧
  (∀ p, p < 4 → I (1 + 25 + 3 * p) 0 = 0 ∧ I 156 p = 0) ∧
  (I (1 + 3) 0 = 0 ∧ I (1 + 3) 1 = 0 ∧ I (1 + 3) 2 = 0 ∧ I (1 + 3) 3 = 16 ∧ I 152 6 = 0 ∧ I 152 7 = 0 ∧ I 152 8 = 0 ∧ I 152 9 = 16) ∧
  (I (1 + 4) 0 = -1 ∧ I 173 0 = 0) ∧
  (I (1 + 11) 2 = 0 ∧ I 152 49 = 0 ∧ I (1 + 13) 2 = 0 ∧ I 152 50 = 0 ∧ I (1 + 15) 2 = 0 ∧ I 152 51 = 0) ∧
  (I (1 + 11) 0 = 6 ∧ I (1 + 13) 0 = 8 ∧ I (1 + 15) 0 = 8) ∧
  (I 0 8 = 0 ∧ I 152 10 = 0 ∧ I 135 1 = 0 ∧ I 152 25 = 0 ∧ I 0 7 = 0 ∧ I 152 54 = 0) ∧
  (∀ t, t < 6 → (I (139 + 1 + 2 * t) 1 = 0 ∧ I 192 t = 0 ∧ I (139 + 1 + 2 * t) 0 = -1 ∧ I 191 t = -1) ∧ ∀ k, k < 150 → I (139 + 2 + 2 * t) k = 0 ∧ I 193 (150 * t + k) = 0) ∧
  ∀ i, i < 6 → F 179 i = 0
def st_dW (G : List vm_Sh) (B : Nat) : Decidable (vm_isW G B) := by
  unfold vm_isW
  repeat' refine @instDecidableAnd _ _ ?_ ?_
  all_goals infer_instance
def st_dC (G : List vm_Sh) (B : Nat) : Decidable (vm_isC G B) := by
  unfold vm_isC
  repeat' refine @instDecidableAnd _ _ ?_ ?_
  all_goals infer_instance
def st_dT (G : List vm_Sh) (B : Nat) : Decidable (vm_isT G B) := by
  unfold vm_isT
  repeat' refine @instDecidableAnd _ _ ?_ ?_
  all_goals infer_instance
def st_dD (G : List vm_Sh) : Decidable (vm_isD G) := by
  unfold vm_isD
  repeat' refine @instDecidableAnd _ _ ?_ ?_
  all_goals first | exact st_dW _ _ | exact st_dC _ _ | exact st_dT _ _ | infer_instance
def st_dR (G : List vm_Sh) : Decidable (vm_isR G) := by
  unfold vm_isR
  repeat' refine @instDecidableAnd _ _ ?_ ?_
  all_goals infer_instance
def st_dP (I : Nat → Nat → Int32) (F : Nat → Nat → UInt32) : Decidable (st_P I F) := by
  unfold st_P
  infer_instance
def st_c : Bool := match st_r1 with
  | some h => (match st_r2 h with
    | some h2 => decide (h.1.length = 152) && (@decide (vm_isD h2.1) (st_dD _) && (@decide (vm_isR h2.1) (st_dR _) && @decide (st_P h2.2.1 h2.2.2) (st_dP _ _)))
    | none => false)
  | none => false
theorem st_ck : st_c = true := by decide +kernel
theorem st_ex : ∃ h1 h2, st_r1 = some h1 ∧ h1.1.length = 152 ∧ st_r2 h1 = some h2 ∧ vm_isD h2.1 ∧ vm_isR h2.1 ∧ st_P h2.2.1 h2.2.2 := by
  have h := st_ck
  unfold st_c at h
  split at h
  · next h1 e1 =>
    split at h
    · next h2 e2 =>
      rw [Bool.and_eq_true, Bool.and_eq_true, Bool.and_eq_true] at h
      exact ⟨h1, h2, e1, of_decide_eq_true h.1, e2, @of_decide_eq_true _ (st_dD _) h.2.1, @of_decide_eq_true _ (st_dR _) h.2.2.1, @of_decide_eq_true _ (st_dP _ _) h.2.2.2⟩
    · cases h
  · cases h
theorem st_Rel {I : vm_IH} {F : vm_FH} (h : st_P I F) : Rel I F := by
  obtain ⟨h1, h2, h3, h4, h5, h6, h7, h8, h9⟩ := h
  refine ⟨fun p hp => ?_, fun p hp => ?_, ⟨0, 0, 0, 16, by decide, ⟨h3.1, h3.2.1, h3.2.2.1, h3.2.2.2.1⟩, h3.2.2.2.2.1, h3.2.2.2.2.2.1, h3.2.2.2.2.2.2.1, h3.2.2.2.2.2.2.2⟩, Or.inl h4, ⟨0, by decide, h5.1, h5.2.1, fun k hk => absurd hk (Nat.not_lt_zero k)⟩, ⟨0, by decide, h5.2.2.1, h5.2.2.2.1, fun k hk => absurd hk (Nat.not_lt_zero k)⟩, ⟨0, by decide, h5.2.2.2.2.1, h5.2.2.2.2.2, fun k hk => absurd hk (Nat.not_lt_zero k)⟩, h6, ⟨0, by decide, h7.1, h7.2.1⟩, ⟨0, by decide, h7.2.2.1, h7.2.2.2.1, fun k hk => absurd hk (Nat.not_lt_zero k)⟩, fun t ht => ?_, Or.inl ⟨h7.2.2.2.2.1, h7.2.2.2.2.2⟩, fun i hi => ?_⟩
  · obtain ⟨⟨a, b, c, d⟩, e⟩ := h1 p hp
    refine ⟨0, 0, by decide, by decide, fun _ => rfl, fun z => absurd z (by decide), ⟨a, b⟩, ⟨c, d⟩, fun k hk => ?_⟩
    obtain ⟨f, g⟩ := e k hk
    show I (1 + 18 + 2 * p) k = I 155 (144 * p + k) ∧ sp_col (I 155 (144 * p + k))
    rw [f, g]
    exact ⟨rfl, sp_col0⟩
  · obtain ⟨a, b⟩ := h2 p hp
    exact ⟨0, by decide, a, b, fun e he => absurd he (Nat.not_lt_zero e)⟩
  · obtain ⟨⟨a, b, c, d⟩, e⟩ := h8 t ht
    refine ⟨0, by decide, ⟨a, b⟩, c.trans d.symm, Or.inl ⟨d, rfl⟩, fun k hk => ?_⟩
    rw [(e k hk).1, (e k hk).2]
  · rw [h9 i hi]
    exact vf_fn_ok vf_c0
