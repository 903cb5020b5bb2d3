theorem vf_oka {x y : UInt32} {C : Int} (hx : vf_ok x) (hy : vf_fn y C) (h0 : 0 ≤ C) : vf_ok (FP.fadd x y) := by
  obtain ⟨t, d, r, e2, h2⟩ := hy
  unfold vf_ok at hx ⊢
  have e : vf_d (FP.fadd x y) = vf_d (.ofNat (FP.Core.encode FP.Core.b32 (FP.Core.round FP.Core.b32 (FP.Core.exactSum (vf_d x) (.fin t d r))))) := by
    rw [← e2]
    rfl
  rw [e]
  cases hd : vf_d x with
  | nan => exact absurd hd hx
  | inf s =>
    show vf_d (.ofNat (FP.Core.encode FP.Core.b32 (.inf s))) ≠ _
    rw [vf_ed (.inf s) (by cases s <;> simp)]
    exact fun z => nomatch z
  | fin s c q =>
    have f : vf_ft (FP.Core.round FP.Core.b32 (FP.Core.exactSum (.fin s c q) (.fin t d r))) := vf_rf _ _ _ _ (by decide)
    rw [vf_e2 f]
    rcases f with f | f | ⟨_, _, _, f, _⟩ <;> rw [f] <;> exact fun z => nomatch z
theorem vf_i2f {i : Int32} {k : Nat} (h : i.toInt.natAbs < 2 ^ (k + 1)) (hk : k ≤ 90) : vf_fn (FP.i2f i) (k + 1) := by
  have hl := vf_ll i.toInt.natAbs 1
  have h1l : Nat.log2 1 = 0 := by decide +kernel
  rw [h1l] at hl
  have := vf_l2 h
  obtain ⟨f, a, b, h2, h3⟩ := vf_rb (decide (i.toInt < 0)) i.toInt.natAbs 1 0 k (by decide) (by omega) (by omega) (Or.inr (by omega))
  refine ⟨decide (i.toInt < 0), a, b, ?_, h3⟩
  show vf_d (.ofNat (FP.Core.encode FP.Core.b32 (FP.Core.round FP.Core.b32 (FP.Core.ofInt i.toInt)))) = _
  exact (vf_e2 f).trans h2
theorem vf_i63 {i : Int32} (h : 0 ≤ i.toInt ∧ i.toInt ≤ 63) : vf_fn (FP.i2f i) 6 := by
  refine vf_i2f (k := 5) ?_ (by decide)
  have : (2 : Nat) ^ (5 + 1) = 64 := by decide
  omega
def vf_g1b (y : UInt32) : Bool := match vf_d y with
  | .fin _ d r => decide (d ≠ 0 ∧ 0 ≤ (d.log2 : Int) + r)
  | _ => false
theorem vf_g1i {y : UInt32} (h : vf_g1b y = true) : vf_g1 y := by
  unfold vf_g1b at h
  split at h
  · rename_i t d r e
    have := of_decide_eq_true h
    exact ⟨t, d, r, e, this.1, this.2⟩
  · exact absurd h (by decide)
theorem vf_g1n : ∀ n, n < 129 → 0 < n → vf_g1 (FP.i2f (nI n)) := fun n h h0 => vf_g1i ((by decide +kernel : ∀ n, n < 129 → 0 < n → vf_g1b (FP.i2f (nI n)) = true) n h h0)
theorem vf_c0 : vf_fn 0 6 := ⟨false, 0, -149, by decide +kernel, Or.inl rfl⟩
theorem vf_c63 : vf_fn 1115422720 6 := ⟨false, 16515072, -18, by decide +kernel, Or.inr (by decide +kernel)⟩
theorem vf_ch : vf_fn 1056964608 0 := ⟨false, 8388608, -24, by decide +kernel, Or.inr (by decide +kernel)⟩
/-- held between 0 and 63 -/
def sp_hl (x : UInt32) : UInt32 := if Op.cmpValue (FP.fcmp x 0) .g < 0 then 0 else if 0 < Op.cmpValue (FP.fcmp x 1115422720) .l then 1115422720 else x
