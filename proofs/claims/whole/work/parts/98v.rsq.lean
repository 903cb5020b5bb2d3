theorem vm_le_lt {x : Int32} {w : Nat} (h0 : 0 ≤ x) (h : x ≤ nI (w - 1)) (hw : 0 < w) (hw2 : w ≤ 12) : x.toNatClampNeg < w := by
  rw [Int32.le_iff_toInt_le, nI_toInt (by omega)] at h
  rw [Int32.le_iff_toInt_le, show (0 : Int32).toInt = 0 from rfl] at h0
  show x.toInt.toNat < w
  omega
theorem sp_pt_o (F : Nat → Nat → UInt32) (rc rl o w h : Nat) (tx : Int32) (b c : Nat) (m : UInt32) (a : Nat) (h1 : a ≠ rc) (h2 : a ≠ rl) : sp_pt F rc rl o w h tx b c m a = F a := by
  unfold sp_pt
  split
  · exact vm_up_f _ _ _ _ _ h1
  · exact vm_up_f _ _ _ _ _ h2
/-- no NaN in two rows -/
def vf_2r (F : Nat → Nat → UInt32) (rc rl a b : Nat) : Prop := (∀ i, i < a → vf_ok (F rc i)) ∧ (∀ i, i < b → vf_ok (F rl i))
theorem vf_up_ok {F : Nat → Nat → UInt32} {r k : Nat} {x : UInt32} {q a : Nat} (h : ∀ i, i < a → vf_ok (F q i)) (hx : vf_ok x) : ∀ i, i < a → vf_ok (vm_up F r k x q i) := by
  intro i hi
  unfold vm_up
  split
  · split
    · exact hx
    · exact h i hi
  · exact h i hi
theorem sp_pt_ok {F : Nat → Nat → UInt32} {rc rl o w h : Nat} {tx : Int32} {b c : Nat} {m : UInt32} {A B : Nat} {C : Int} (hk : vf_2r F rc rl A B) (hm : vf_fn m C) (hC : 0 ≤ C) (hw : 0 < w) (hw2 : w ≤ 12) (hin : w * h * 3 ≤ A) (hc : c < 3) (ho : o + 3 ≤ B) : vf_2r (sp_pt F rc rl o w h tx b c m) rc rl A B := by
  unfold sp_pt
  split
  · rename_i q
    have h1 := vm_lin2 (vm_le_lt q.1.1 q.1.2 hw hw2) q.2
    have h2 : vf_ok (FP.fadd (F rc (3 * (w * b + tx.toNatClampNeg) + c)) m) := vf_oka (hk.1 _ (by omega)) hm hC
    exact ⟨vf_up_ok hk.1 h2, vf_up_ok hk.2 h2⟩
  · have h2 : vf_ok (FP.fadd (F rl (o + c)) m) := vf_oka (hk.2 _ (by omega)) hm hC
    exact ⟨vf_up_ok hk.1 h2, vf_up_ok hk.2 h2⟩
theorem sp_shr_f {f : UInt32} {k kn : Nat} (hf : vf_fn f 8) (hk : k < 14) (hkn : kn < 5) : vf_fn (sp_shr f k kn) 17 := vf_div (A := 16) (vf_mul (A := 8) (B := 6) hf (vf_i63 (vf_pn k hk)) (by decide) (by decide) (by decide)) (vf_g1w kn hkn) (by decide) (by decide)
theorem vf_oka2 {x y : UInt32} {C : Int} (hx : vf_fn x C) (hy : vf_ok y) (h0 : 0 ≤ C) : vf_ok (FP.fadd x y) := by
  obtain ⟨t, d, r, e2, h2⟩ := hx
  unfold vf_ok at hy ⊢
  have e : vf_d (FP.fadd x y) = vf_d (.ofNat (FP.Core.encode FP.Core.b32 (FP.Core.round FP.Core.b32 (FP.Core.exactSum (.fin t d r) (vf_d y))))) := by
    rw [← e2]
    rfl
  rw [e]
  cases hd : vf_d y with
  | nan => exact absurd hd hy
  | inf s =>
    show vf_d (.ofNat (FP.Core.encode FP.Core.b32 (.inf s))) ≠ _
    rw [vf_ed (.inf s) (by cases s <;> simp)]
    exact fun z => nomatch z
  | fin s c q =>
    have f : vf_ft (FP.Core.round FP.Core.b32 (FP.Core.exactSum (.fin t d r) (.fin s c q))) := vf_rf _ _ _ _ (by decide)
    rw [vf_e2 f]
    rcases f with f | f | ⟨_, _, _, f, _⟩ <;> rw [f] <;> exact fun z => nomatch z
theorem r_spart {l : Launch} {X : vm_Cx} {G : List vm_Sh} {I : Nat → Nat → Int32} {F : Nat → Nat → UInt32} {s w h x y k c kn : Nat} {t : Int32} {f : UInt32} (hR : vm_isR G) (hs : I 152 40 = nI s) (hw : I 173 s = nI w) (hh : I 174 s = nI h) (hs2 : s < 2) (hw2 : w ≤ 12) (hh2 : h ≤ 12) (hx : x < w) (hy : y < h) (hk : k < 14) (hc : c < 3) (hkn : I 152 7 = nI kn) (hkn2 : kn < 5) (hf : vf_fn f 8) (hca : ∀ i_, i_ < 432 → vf_ok (F 180 i_)) (hlo : ∀ i_, i_ < 6 → vf_ok (F 179 i_)) : vm_K l X vm_M244 [.ref 152, .int (nI k), .int (nI x), .int (nI y), .int t, .int (nI c), .float f] (G, I, F) none (G, I, (sp_pt F 180 179 (3 * s) w h (nI x + t * vm_sV 11 k) (y + sp_dy k) c (sp_shr f k kn))) := by
  unfold sp_pt
  split
  · rename_i q
    have e : nI x + t * vm_sV 11 k = nI (nI x + t * vm_sV 11 k).toNatClampNeg := vm_cl_i (vm_nle_lt q.1.1)
    exact r_sp_in hR hs hw hh hs2 hw2 hh2 hx hy hk hc hkn hkn2 hf hca hlo e (vm_le_lt q.1.1 q.1.2 (by omega) hw2) q.2
  · rename_i q
    by_cases q1 : 0 ≤ nI x + t * vm_sV 11 k ∧ nI x + t * vm_sV 11 k ≤ nI (w - 1)
    · exact r_sp_h hR hs hw hh hs2 hw2 hh2 hx hy hk hc hkn hkn2 hf hca hlo q1 (Nat.le_of_not_lt fun z => q ⟨q1, z⟩)
    · exact r_sp_x hR hs hw hh hs2 hw2 hh2 hx hy hk hc hkn hkn2 hf hca hlo q1
