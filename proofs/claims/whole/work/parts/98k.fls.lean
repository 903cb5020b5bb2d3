theorem vf_cv {r : Option Ordering} {o : CmpOp} (h : r ≠ none) : Op.cmpValue r o = match r with | some .lt => -1 | some .eq => 0 | some .gt => 1 | none => 0 := by
  cases r with
  | none => exact absurd rfl h
  | some r => cases r <;> rfl
theorem vf_hl_f {x : UInt32} (hx : vf_ok x) : vf_fn (sp_hl x) 6 := by
  unfold sp_hl
  split
  · exact vf_c0
  · rename_i h0
    split
    · exact vf_c63
    · rename_i h1
      have e0 : FP.fcmp x 0 = FP.Core.order (vf_d x) (.fin false 0 (-149)) := by
        rw [show FP.Core.Datum.fin false 0 (-149) = vf_d 0 by decide +kernel]
        rfl
      have e1 : FP.fcmp x 1115422720 = FP.Core.order (vf_d x) (.fin false 16515072 (-18)) := by
        rw [show FP.Core.Datum.fin false 16515072 (-18) = vf_d 1115422720 by decide +kernel]
        rfl
      rw [e0] at h0
      rw [e1] at h1
      cases hd : vf_d x with
      | nan => exact absurd hd hx
      | inf s =>
        rw [hd] at h0 h1
        cases s
        · exact absurd (by decide) h1
        · exact absurd (by decide) h0
      | fin s c q =>
        rw [hd] at h0 h1
        refine ⟨s, c, q, hd, ?_⟩
        by_cases hc : c = 0
        · exact Or.inl hc
        · refine Or.inr ?_
          cases s
          · have h2 : ¬ compare (FP.Core.signed false (FP.Core.inUnits c q (min q (-18)))) (FP.Core.signed false (FP.Core.inUnits 16515072 (-18) (min q (-18)))) = .gt := by
              intro z
              refine h1 ?_
              show 0 < Op.cmpValue (some (compare (FP.Core.signed false (FP.Core.inUnits c q (min q (-18)))) (FP.Core.signed false (FP.Core.inUnits 16515072 (-18) (min q (-18)))))) _
              rw [z]
              decide
            have h3 : (FP.Core.inUnits c q (min q (-18)) : Int) ≤ (FP.Core.inUnits 16515072 (-18) (min q (-18)) : Int) := by
              refine Int.not_lt.mp fun z => h2 ?_
              exact Int.compare_eq_gt.mpr z
            have h4 : c * 2 ^ (q - min q (-18)).toNat ≤ 16515072 * 2 ^ (-18 - min q (-18)).toNat := by
              unfold FP.Core.inUnits at h3
              exact Int.ofNat_le.mp h3
            have h5 : 16515072 * 2 ^ (-18 - min q (-18)).toNat < 2 ^ 24 * 2 ^ (-18 - min q (-18)).toNat := (Nat.mul_lt_mul_right (Nat.two_pow_pos _)).mpr (by decide)
            have h6 : 2 ^ c.log2 * 2 ^ (q - min q (-18)).toNat ≤ c * 2 ^ (q - min q (-18)).toNat := Nat.mul_le_mul_right _ (Nat.log2_self_le hc)
            have h7 := Nat.lt_of_le_of_lt (Nat.le_trans h6 h4) h5
            rw [← Nat.pow_add, ← Nat.pow_add] at h7
            have h8 := (Nat.pow_lt_pow_iff_right (by decide : 1 < 2)).mp h7
            omega
          · refine absurd ?_ h0
            have h2 : compare (FP.Core.signed true (FP.Core.inUnits c q (min q (-149)))) (FP.Core.signed false (FP.Core.inUnits 0 (-149) (min q (-149)))) = .lt := by
              refine Int.compare_eq_lt.mpr ?_
              have h3 : 0 < FP.Core.inUnits c q (min q (-149)) := Nat.mul_pos (Nat.pos_of_ne_zero hc) (Nat.two_pow_pos _)
              unfold FP.Core.signed
              rw [if_pos rfl, if_neg (by decide)]
              unfold FP.Core.inUnits at h3 ⊢
              rw [Nat.zero_mul]
              omega
            show Op.cmpValue (some (compare (FP.Core.signed true (FP.Core.inUnits c q (min q (-149)))) (FP.Core.signed false (FP.Core.inUnits 0 (-149) (min q (-149)))))) _ < 0
            rw [h2]
            decide
set_option maxHeartbeats 4000000 in
set_option maxRecDepth 20000 in
/-- DitherDeskModel.heldOf -/
theorem r_heldOf {l : Launch} {X : vm_Cx} {G : List vm_Sh} {I : Nat → Nat → Int32} {F : Nat → Nat → UInt32} {x : UInt32}  : vm_K l X vm_M243 [.float x] (G, I, F) (some (.float (sp_hl x))) (G, I, F) := by
  refine vm_K.mk (by decide) (Nat.le_of_ble_eq_true rfl) ?_
  show vm_J _ _ _ (0, (0, 0), [.float x], []) _ _ _
  refine vm_J.go vm_q243 (k := 4) (hs := []) (f' := (bif vm_ic .ge (Op.cmpValue (FP.fcmp x 0x00000000) .g) 0 then 10 else 6, (0, 0), [.float x], [])) (h' := (G, I, F)) (hs' := []) rfl rfl ?_
  refine vm_J.br (fun c1 => ?_) (fun c1 => ?_)
  · have c1 : 0 ≤ (Op.cmpValue (FP.fcmp x 0x00000000) .g) := of_decide_eq_true c1
    refine vm_J.go vm_q243 (k := 4) (hs := []) (f' := (bif vm_ic .le (Op.cmpValue (FP.fcmp x 1115422720) .l) 0 then 24 else 18, (0, 0), [.float x], [])) (h' := (G, I, F)) (hs' := []) rfl rfl ?_
    refine vm_J.br (fun c2 => ?_) (fun c2 => ?_)
    · have c2 : (Op.cmpValue (FP.fcmp x 1115422720) .l) ≤ 0 := of_decide_eq_true c2
      refine vm_J.go vm_q243 (k := 1) (hs := []) (f' := (25, (0, 0), [.float x], [.float x])) (h' := (G, I, F)) (hs' := []) rfl rfl ?_
      rw [show sp_hl x = x from (if_neg (vm_nle_lt c1)).trans (if_neg (vm_nle_lt c2))]
      exact vm_J.end vm_q243 (en := (25, .freturn, 1, [], .null)) rfl rfl vm_rF (Nat.zero_le _) (Nat.zero_le _) rfl
    · have c2 : ¬ ((Op.cmpValue (FP.fcmp x 1115422720) .l) ≤ 0) := of_decide_eq_false c2
      refine vm_J.go vm_q243 (k := 2) (hs := []) (f' := (25, (0, 0), [.float x], [.float 1115422720])) (h' := (G, I, F)) (hs' := []) rfl rfl ?_
      rw [show sp_hl x = 1115422720 from (if_neg (vm_nle_lt c1)).trans (if_pos (vm_nle_g c2))]
      exact vm_J.end vm_q243 (en := (25, .freturn, 1, [], .null)) rfl rfl vm_rF (Nat.zero_le _) (Nat.zero_le _) rfl
  · have c1 : ¬ (0 ≤ (Op.cmpValue (FP.fcmp x 0x00000000) .g)) := of_decide_eq_false c1
    refine vm_J.go vm_q243 (k := 2) (hs := []) (f' := (25, (0, 0), [.float x], [.float 0x00000000])) (h' := (G, I, F)) (hs' := []) rfl rfl ?_
    rw [show sp_hl x = 0 from if_pos (vm_nge_lt c1)]
    exact vm_J.end vm_q243 (en := (25, .freturn, 1, [], .null)) rfl rfl vm_rF (Nat.zero_le _) (Nat.zero_le _) rfl
