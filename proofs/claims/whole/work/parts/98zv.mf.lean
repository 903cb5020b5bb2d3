/-- the numbers of halvings and doublings, and what comes of them -/
def vf_go (r : UInt32) (n1 n2 C : Nat) : Prop := n1 ≤ 127 ∧ n2 ≤ 149 ∧ (∀ j, j < n1 → ¬ Op.cmpValue (FP.fcmp (sp_hv r j) 1073741824) .l < 0) ∧ Op.cmpValue (FP.fcmp (sp_hv r n1) 1073741824) .l < 0 ∧ (∀ j, j < n2 → Op.cmpValue (FP.fcmp (sp_db (sp_hv r n1) j) 1065353216) .g < 0) ∧ ¬ Op.cmpValue (FP.fcmp (sp_db (sp_hv r n1) n2) 1065353216) .g < 0 ∧ (∀ j, j ≤ n1 → vm_n3 (sp_hv r j) = true) ∧ (∀ j, j ≤ n2 → vm_n3 (sp_db (sp_hv r n1) j) = true) ∧ vm_n3 (FP.fmul (sp_db (sp_hv r n1) n2) 1258291200) = true ∧ FP.f2i (FP.fmul (sp_db (sp_hv r n1) n2) 1258291200) = nI C
/-- a normal number -/
theorem vf_go1 {r : UInt32} {c : Nat} {q : Int} (h : vf_fd r c q) (hc : 8388608 ≤ c) : ∃ n1 n2 : Nat, vf_go r n1 n2 c ∧ ((127 + n1 : Nat) : Int) - (n2 : Int) = q + 150 := by
  by_cases hq : -23 ≤ q
  · refine ⟨(q + 23).toNat, 0, ?_, by omega⟩
    have hn : q - ((q + 23).toNat : Int) = -23 := by omega
    have hq2 := h.2.2.2.2.1
    have hf : ∀ j : Nat, j ≤ (q + 23).toNat → vf_fd (sp_hv r j) c (q - (j : Int)) := fun j hj => sp_hv_f h hc j (by omega)
    have he := hf (q + 23).toNat (Nat.le_refl _)
    rw [hn] at he
    refine ⟨by omega, by decide, fun j hj => vf_ge (hf j (by omega)) vf_two hc (by omega), vf_lt he vf_two (by decide), fun j hj => absurd hj (Nat.not_lt_zero j), vf_ge he vf_one hc (by decide), fun j hj => vf_fdn (hf j hj), fun j hj => ?_, vf_fdn (vf_digits he), vf_f2i (vf_digits he)⟩
    have j0 : j = 0 := by omega
    subst j0
    exact vf_fdn he
  · refine ⟨0, (-23 - q).toNat, ?_, by have := h.2.2.2.1; omega⟩
    have h1 := h.2.2.2.1
    have hf : ∀ j : Nat, j ≤ (-23 - q).toNat → vf_fd (sp_db r j) c (q + (j : Int)) := fun j hj => sp_db_f h hc j (by omega)
    have he := hf (-23 - q).toNat (Nat.le_refl _)
    rw [show q + ((-23 - q).toNat : Int) = -23 by omega] at he
    refine ⟨by decide, by omega, fun j hj => absurd hj (Nat.not_lt_zero j), vf_lt h vf_two (by omega), fun j hj => vf_lt (hf j (by omega)) vf_one (by omega), vf_ge he vf_one hc (by decide), fun j hj => ?_, fun j hj => vf_fdn (hf j hj), vf_fdn (vf_digits he), vf_f2i (vf_digits he)⟩
    have j0 : j = 0 := by omega
    subst j0
    exact vf_fdn h
/-- one below -/
theorem vf_go0 {r : UInt32} {c : Nat} (h : vf_fd r c (-149)) (hc : c < 8388608) : ∃ d n2 : Nat, vf_go r 0 n2 (c * 2 ^ d) ∧ (127 : Int) - (n2 : Int) = 1 - (d : Int) ∧ 0 < d ∧ d ≤ 23 ∧ c * 2 ^ d < 16777216 := by
  have hc0 := h.2.1
  have a := Nat.log2_self_le hc0
  have b := @Nat.lt_log2_self c
  have hk : c.log2 ≤ 22 := vf_l2 (c := c) (k := 22) (by have : (2 : Nat) ^ (22 + 1) = 8388608 := by decide
                                                        omega)
  generalize c.log2 = k at a b hk
  have hlo : 8388608 ≤ c * 2 ^ (23 - k) := by
    refine Nat.le_trans (Nat.le_of_eq ?_) (Nat.mul_le_mul_right _ a)
    rw [← Nat.pow_add, show k + (23 - k) = 23 by omega]
  have hup : c * 2 ^ (23 - k) < 16777216 := by
    refine Nat.lt_of_lt_of_le ((Nat.mul_lt_mul_right (Nat.two_pow_pos _)).mpr b) (Nat.le_of_eq ?_)
    rw [← Nat.pow_add, show k + 1 + (23 - k) = 24 by omega]
  have hj : ∀ i, i < 23 - k → c * 2 ^ i < 8388608 := by
    intro i hi
    refine Nat.lt_of_lt_of_le ((Nat.mul_lt_mul_right (Nat.two_pow_pos _)).mpr b) ?_
    rw [← Nat.pow_add, show (8388608 : Nat) = 2 ^ 23 by decide]
    exact Nat.pow_le_pow_right (by decide) (by omega)
  have hs : ∀ j, j ≤ 23 - k → vf_fd (sp_db r j) (c * 2 ^ j) (-149) := fun j hh => sp_db_s h j (fun i hi => hj i (by omega))
  have hm := hs (23 - k) (Nat.le_refl _)
  have hf : ∀ j : Nat, j ≤ 126 → vf_fd (sp_db r (23 - k + j)) (c * 2 ^ (23 - k)) (-149 + (j : Int)) := by
    intro j hh
    rw [← sp_db_a]
    exact sp_db_f hm hlo j (by omega)
  have he := hf 126 (Nat.le_refl _)
  rw [show (-149 : Int) + ((126 : Nat) : Int) = -23 by decide] at he
  have hany : ∀ j, j ≤ 23 - k + 126 → ∃ C q, vf_fd (sp_db r j) C q ∧ (j < 23 - k + 126 → q < -23) := by
    intro j hh
    by_cases z : j ≤ 23 - k
    · exact ⟨_, _, hs j z, fun _ => by decide⟩
    · have := hf (j - (23 - k)) (by omega)
      rw [show 23 - k + (j - (23 - k)) = j by omega] at this
      exact ⟨_, _, this, fun _ => by omega⟩
  refine ⟨23 - k, 23 - k + 126, ?_, by omega, by omega, by omega, hup⟩
  refine ⟨by decide, by omega, fun j hj => absurd hj (Nat.not_lt_zero j), vf_lt h vf_two (by decide), fun j hj => ?_, vf_ge he vf_one hlo (by decide), fun j hj => ?_, fun j hj => ?_, vf_fdn (vf_digits he), vf_f2i (vf_digits he)⟩
  · obtain ⟨C, q, z, y⟩ := hany j (by omega)
    exact vf_lt z vf_one (y hj)
  · have j0 : j = 0 := by omega
    subst j0
    exact vf_fdn h
  · obtain ⟨C, q, z, y⟩ := hany j hj
    exact vf_fdn z
theorem vm_nd {a b : Nat} (h : b < a) (ha : a < 2147483648) : 0 < nI a - nI b := by
  rw [show nI a - nI b = nI (a - b) from vm_ps rfl rfl (by omega), Int32.lt_iff_toInt_lt, nI_toInt (by omega), show (0 : Int32).toInt = 0 from rfl]
  omega
theorem vm_nn {a b : Nat} (h : a ≤ b) (hb : b < 2147483648) : ¬ 0 < nI a - nI b := by
  have e : nI a - nI b = -nI (b - a) := by rw [show nI (b - a) = nI b - nI a from (vm_ps rfl rfl h).symm, Int32.neg_sub]
  have e2 : (-nI (b - a)).toInt = -((b - a : Nat) : Int) := by
    rw [Int32.toInt_neg, nI_toInt (by omega)]
    exact Int.bmod_eq_of_le (by omega) (by omega)
  rw [e, Int32.lt_iff_toInt_lt, e2, show (0 : Int32).toInt = 0 from rfl]
  omega
theorem vm_n1 {a b d : Nat} (h : b = a + d - 1) (hd : 0 < d) : 1 - (nI a - nI b) = nI d := by
  have e : nI a - nI b = -nI (d - 1) := by
    rw [show nI (d - 1) = nI b - nI a from by rw [show d - 1 = b - a by omega]; exact (vm_ps rfl rfl (by omega)).symm, Int32.neg_sub]
  rw [e, Int32.sub_neg, show (1 : Int32) + nI (d - 1) = nI (1 + (d - 1)) from (vm_na 1 (d - 1)).symm, show 1 + (d - 1) = d by omega]
theorem m_floatBits {l : Launch} {X : vm_Cx} {G : List vm_Sh} {I : Nat → Nat → Int32} {F : Nat → Nat → UInt32} {v : UInt32} (hf : ∃ s c q, vf_d v = .fin s c q) (hz : v ≠ 2147483648) : vm_K l X vm_M162 [.float v] (G, I, F) (some (.int v.toInt32)) (G, I, F) := by
  obtain ⟨s, c, q, h⟩ := hf
  obtain ⟨h1, h2, h3, h4⟩ := vf_dec h
  have hv := v.toNat_lt
  by_cases hc : c = 0
  · have hE : v.toNat / 8388608 % 256 = 0 := by
      refine Decidable.byContradiction fun z => ?_
      have := (h4 (by omega)).1
      omega
    have hT := (h3 hE).1
    have v0 : v = 0 := by
      refine UInt32.toNat_inj.mp ?_
      rw [show (0 : UInt32).toNat = 0 from rfl]
      have nz : v.toNat ≠ 2147483648 := fun z => hz (UInt32.toNat_inj.mp z)
      omega
    subst v0
    exact m_fb_z
  · have hr := vf_abs h hc
    have hsS : s = decide (v.toNat / 2147483648 = 1) := by
      rw [h2]
      by_cases z : v.toNat / 2147483648 = 1
      · rw [show v.toNat / 8388608 / 256 % 2 = 1 by omega]
        simp [z]
      · rw [show v.toNat / 8388608 / 256 % 2 = 0 by omega]
        simp [z]
    have hS : v.toNat / 2147483648 ≤ 1 := by omega
    have h0 : ¬ Op.cmpValue (FP.fcmp v 0) .l = 0 := by
      rw [vf_vs0 h hc]
      cases s <;> decide
    have hg := vf_vs0 (o := .g) h hc
    rw [vm_u32]
    by_cases hE : v.toNat / 8388608 % 256 = 0
    · obtain ⟨eT, eq⟩ := h3 hE
      subst eq
      have hc8 : c < 8388608 := by omega
      obtain ⟨d, n2, hgo, hp, hd0, hd, hC⟩ := vf_go0 hr hc8
      obtain ⟨a1, a2, a3, a4, a5, a6, a7, a8, a9, a10⟩ := hgo
      have hn : ¬ 0 < nI (127 + 0) - nI n2 := vm_nn (by omega) (by omega)
      have hsh : nI (c * 2 ^ d) >>> ((1 - (nI (127 + 0) - nI n2)) &&& 31) = nI c := by
        rw [vm_n1 (a := 127 + 0) (b := n2) (d := d) (by omega) hd0, vm_shr (by omega) (by omega), Nat.mul_div_cancel _ (Nat.two_pow_pos _)]
      have hb := vm_bits0 hS hc8
      rw [show 2147483648 * (v.toNat / 2147483648) + c = v.toNat by omega] at hb
      cases s
      · have z := m_fb_00 (l := l) (X := X) (G := G) (I := I) (F := F) h0 (by rw [hg]; decide) a1 a2 a3 a4 a5 a6 a7 a8 a9 a10 hn
        have s0 : v.toNat / 2147483648 = 0 := by
          have := of_decide_eq_false hsS.symm
          omega
        rw [hsh] at z
        rw [s0] at hb
        rw [← hb]
        exact z
      · have z := m_fb_10 (l := l) (X := X) (G := G) (I := I) (F := F) h0 (by rw [hg]; decide) a1 a2 a3 a4 a5 a6 a7 a8 a9 a10 hn
        have s1 : v.toNat / 2147483648 = 1 := of_decide_eq_true hsS.symm
        rw [hsh] at z
        rw [s1] at hb
        rw [← hb]
        exact z
    · obtain ⟨eT, eq⟩ := h4 (by omega)
      obtain ⟨n1, n2, hgo, hp⟩ := vf_go1 hr (by omega)
      obtain ⟨a1, a2, a3, a4, a5, a6, a7, a8, a9, a10⟩ := hgo
      have hT : v.toNat % 8388608 < 8388608 := Nat.mod_lt _ (by decide)
      have hpw : nI (127 + n1) - nI n2 = nI (v.toNat / 8388608 % 256) := by
        rw [show nI (127 + n1) - nI n2 = nI (127 + n1 - n2) from vm_ps rfl rfl (by omega), show 127 + n1 - n2 = v.toNat / 8388608 % 256 by omega]
      have hn : 0 < nI (127 + n1) - nI n2 := vm_nd (by omega) (by omega)
      have hb := vm_bits1 (S := v.toNat / 2147483648) (E := v.toNat / 8388608 % 256) (T := v.toNat % 8388608) hS (by omega) hT
      rw [show 2147483648 * (v.toNat / 2147483648) + 8388608 * (v.toNat / 8388608 % 256) + v.toNat % 8388608 = v.toNat by omega, ← eT, ← hpw] at hb
      cases s
      · have z := m_fb_01 (l := l) (X := X) (G := G) (I := I) (F := F) h0 (by rw [hg]; decide) a1 a2 a3 a4 a5 a6 a7 a8 a9 a10 hn
        have s0 : v.toNat / 2147483648 = 0 := by
          have := of_decide_eq_false hsS.symm
          omega
        rw [s0] at hb
        rw [← hb]
        exact z
      · have z := m_fb_11 (l := l) (X := X) (G := G) (I := I) (F := F) h0 (by rw [hg]; decide) a1 a2 a3 a4 a5 a6 a7 a8 a9 a10 hn
        have s1 : v.toNat / 2147483648 = 1 := of_decide_eq_true hsS.symm
        rw [s1] at hb
        rw [← hb]
        exact z
