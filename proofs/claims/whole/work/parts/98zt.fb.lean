theorem vm_pw {a j : Nat} (h1 : 127 ≤ a) (h2 : a ≤ 254) (hj : j ≤ 148) : ¬ nI a - nI j ≤ -22 := by
  intro z
  by_cases q : j ≤ a
  · rw [show nI a - nI j = nI (a - j) from vm_ps rfl rfl q, Int32.le_iff_toInt_le, nI_toInt (by omega), show (-22 : Int32).toInt = -22 from by decide] at z
    omega
  · have e : nI a - nI j = -nI (j - a) := by
      rw [show nI (j - a) = nI j - nI a from (vm_ps rfl rfl (by omega)).symm, Int32.neg_sub]
    have e2 : (-nI (j - a)).toInt = -((j - a : Nat) : Int) := by
      have h0 := nI_toInt (n := j - a) (by omega)
      rw [Int32.toInt_neg, h0]
      exact Int.bmod_eq_of_le (by omega) (by omega)
    rw [e, Int32.le_iff_toInt_le, e2, show (-22 : Int32).toInt = -22 from by decide] at z
    omega
theorem vm_pm1 (a j : Nat) : nI a - nI j + (-1) = nI a - nI (j + 1) := by
  rw [vm_na, ← Int32.sub_sub, Int32.sub_eq_add_neg (nI a - nI j)]
  rfl
set_option maxHeartbeats 4000000 in
set_option maxRecDepth 20000 in
/-- DitherDesk.floatBits -/
theorem m_fb_00 {l : Launch} {X : vm_Cx} {G : List vm_Sh} {I : Nat → Nat → Int32} {F : Nat → Nat → UInt32} {v : UInt32} {n1 : Nat} {n2 : Nat} {C : Nat}  (h0 : ¬ Op.cmpValue (FP.fcmp v 0) .l = 0) (hs_ : ¬ Op.cmpValue (FP.fcmp v 0) .g < 0) (hn1 : n1 ≤ 127) (hn2 : n2 ≤ 149) (hH : ∀ j_, j_ < n1 → ¬ Op.cmpValue (FP.fcmp (sp_hv v j_) 1073741824) .l < 0) (hHe : Op.cmpValue (FP.fcmp (sp_hv v n1) 1073741824) .l < 0) (hE : ∀ j_, j_ < n2 → Op.cmpValue (FP.fcmp (sp_db (sp_hv v n1) j_) 1065353216) .g < 0) (hEe : ¬ Op.cmpValue (FP.fcmp (sp_db (sp_hv v n1) n2) 1065353216) .g < 0) (hok1 : ∀ j_, j_ ≤ n1 → vm_n3 (sp_hv v j_) = true) (hok2 : ∀ j_, j_ ≤ n2 → vm_n3 (sp_db (sp_hv v n1) j_) = true) (hok3 : vm_n3 (FP.fmul (sp_db (sp_hv v n1) n2) 1258291200) = true) (hdg : FP.f2i (FP.fmul (sp_db (sp_hv v n1) n2) 1258291200) = nI C) (hpw : ¬ 0 < nI (127 + n1) - nI n2) : vm_K l X vm_M162 [.float v] (G, I, F) (some (.int (0 ||| (nI C >>> ((1 - (nI (127 + n1) - nI n2)) &&& 31))))) (G, I, F) := by
  refine vm_K.mk (by decide) (Nat.le_of_ble_eq_true rfl) ?_
  show vm_J _ _ _ (0, (0, 0), [.float v, .retAddr 0, .retAddr 0, .retAddr 0, .retAddr 0], []) _ _ _
  refine vm_J.go vm_q162 (k := 4) (hs := []) (f' := (bif vm_ic .ne (Op.cmpValue (FP.fcmp v 0x00000000) .l) 0 then 8 else 6, (0, 0), [.float v, .retAddr 0, .retAddr 0, .retAddr 0, .retAddr 0], [])) (h' := (G, I, F)) (hs' := []) rfl rfl ?_
  refine vm_J.br (fun c1 => ?_) (fun c1 => ?_)
  · have c1 : ¬ (Op.cmpValue (FP.fcmp v 0x00000000) .l) = 0 := of_decide_eq_true c1
    refine vm_J.go vm_q162 (k := 4) (hs := []) (f' := (bif vm_ic .ge (Op.cmpValue (FP.fcmp v 0x00000000) .g) 0 then 20 else 14, (0, 0), [.float v, .retAddr 0, .retAddr 0, .retAddr 0, .retAddr 0], [])) (h' := (G, I, F)) (hs' := []) rfl rfl ?_
    refine vm_J.br (fun c2 => ?_) (fun c2 => ?_)
    · have c2 : 0 ≤ (Op.cmpValue (FP.fcmp v 0x00000000) .g) := of_decide_eq_true c2
      refine vm_J.go vm_q162 (k := 6) (hs := []) (f' := (bif vm_ic .ge (Op.cmpValue (FP.fcmp v 0x00000000) .g) 0 then 33 else 28, (0, 0), [.float v, .int 0, .retAddr 0, .retAddr 0, .retAddr 0], [])) (h' := (G, I, F)) (hs' := []) rfl rfl ?_
      refine vm_J.br (fun c3 => ?_) (fun c3 => ?_)
      · have c3 : 0 ≤ (Op.cmpValue (FP.fcmp v 0x00000000) .g) := of_decide_eq_true c3
        refine vm_J.go vm_q162 (k := 4) (hs := []) (f' := (38, (0, 0), [.float v, .int 0, .float v, .int 127, .retAddr 0], [])) (h' := (G, I, F)) (hs' := []) rfl rfl ?_
        refine vm_J.cnt n1 (fun j => (38, (0, 0), [.float v, .int 0, .float (sp_hv v j), .int (nI (127 + j)), .retAddr 0], [])) (fun j => (G, I, F)) (fun _ => True) rfl rfl trivial (fun j hj pj ij => ?_) (fun pj => ?_)
        · show vm_J _ _ _ (38, (0, 0), [.float v, .int 0, .float (sp_hv v j), .int (nI (127 + j)), .retAddr 0], []) (G, I, F) _ _
          refine vm_J.go vm_q162 (k := 4) (hs := []) (f' := (bif vm_ic .lt (Op.cmpValue (FP.fcmp (sp_hv v j) 0x40000000) .l) 0 then 61 else 44, (0, 0), [.float v, .int 0, .float (sp_hv v j), .int (nI (127 + j)), .retAddr 0], [])) (h' := (G, I, F)) (hs' := []) rfl rfl ?_
          refine vm_J.br (fun c4 => ?_) (fun c4 => ?_)
          · have c4 : (Op.cmpValue (FP.fcmp (sp_hv v j) 0x40000000) .l) < 0 := of_decide_eq_true c4
            exact absurd c4 (hH j hj)
          · have c4 : ¬ ((Op.cmpValue (FP.fcmp (sp_hv v j) 0x40000000) .l) < 0) := of_decide_eq_false c4
            refine vm_J.go vm_q162 (k := 3) (hs := []) (f' := (bif vm_ic .ge (nI (127 + j)) 254 then 61 else 51, (0, 0), [.float v, .int 0, .float (sp_hv v j), .int (nI (127 + j)), .retAddr 0], [])) (h' := (G, I, F)) (hs' := []) rfl rfl ?_
            refine vm_J.br (fun c5 => ?_) (fun c5 => ?_)
            · have c5 := vm_ge_t (a := 127 + j) (b := 254) (by omega) (by omega) c5
              exact (show False by omega).elim
            · have c5 := vm_ge_f (a := 127 + j) (b := 254) (by omega) (by omega) c5
              refine vm_J.go vm_q162 (k := 6) (hs := []) (f' := (38, (0, 0), [.float v, .int 0, .float (FP.fdiv (sp_hv v j) 0x40000000), .int ((nI (127 + j)) + 1), .retAddr 0], [])) (h' := (G, I, F)) (hs' := []) rfl (vm_b2 rfl (vm_b2 rfl (vm_b2 (hok1 (j + 1) (by omega)) (vm_b2 rfl (vm_b2 rfl (vm_b2 rfl rfl)))))) ?_
              rw [((vm_pa (rfl : nI (127 + j) = nI (127 + j)) (rfl : (1 : Int32) = nI 1)) : (nI (127 + j)) + 1 = nI (127 + j + 1))]
              exact ij trivial
        · show vm_J _ _ _ (38, (0, 0), [.float v, .int 0, .float (sp_hv v n1), .int (nI (127 + n1)), .retAddr 0], []) (G, I, F) _ _
          refine vm_J.go vm_q162 (k := 4) (hs := []) (f' := (bif vm_ic .lt (Op.cmpValue (FP.fcmp (sp_hv v n1) 0x40000000) .l) 0 then 61 else 44, (0, 0), [.float v, .int 0, .float (sp_hv v n1), .int (nI (127 + n1)), .retAddr 0], [])) (h' := (G, I, F)) (hs' := []) rfl rfl ?_
          refine vm_J.br (fun c6 => ?_) (fun c6 => ?_)
          · have c6 : (Op.cmpValue (FP.fcmp (sp_hv v n1) 0x40000000) .l) < 0 := of_decide_eq_true c6
            refine vm_J.cnt n2 (fun j => (61, (0, 0), [.float v, .int 0, .float (sp_db (sp_hv v n1) j), .int (nI (127 + n1) - nI j), .retAddr 0], [])) (fun j => (G, I, F)) (fun _ => True) (by show _ = ((61, (0, 0), [.float v, .int 0, .float (sp_db (sp_hv v n1) 0), .int (nI (127 + n1) - nI 0), .retAddr 0], []) : vm_F); rw [show nI (127 + n1) - nI 0 = nI (127 + n1) from Int32.sub_zero _]; rfl) rfl trivial (fun j hj pj ij => ?_) (fun pj => ?_)
            · show vm_J _ _ _ (61, (0, 0), [.float v, .int 0, .float (sp_db (sp_hv v n1) j), .int (nI (127 + n1) - nI j), .retAddr 0], []) (G, I, F) _ _
              refine vm_J.go vm_q162 (k := 4) (hs := []) (f' := (bif vm_ic .ge (Op.cmpValue (FP.fcmp (sp_db (sp_hv v n1) j) 0x3f800000) .g) 0 then 83 else 67, (0, 0), [.float v, .int 0, .float (sp_db (sp_hv v n1) j), .int (nI (127 + n1) - nI j), .retAddr 0], [])) (h' := (G, I, F)) (hs' := []) rfl rfl ?_
              refine vm_J.br (fun c7 => ?_) (fun c7 => ?_)
              · have c7 : 0 ≤ (Op.cmpValue (FP.fcmp (sp_db (sp_hv v n1) j) 0x3f800000) .g) := of_decide_eq_true c7
                exact absurd (hE j hj) (vm_nle_lt c7)
              · have c7 : ¬ (0 ≤ (Op.cmpValue (FP.fcmp (sp_db (sp_hv v n1) j) 0x3f800000) .g)) := of_decide_eq_false c7
                refine vm_J.go vm_q162 (k := 3) (hs := []) (f' := (bif vm_ic .le (nI (127 + n1) - nI j) (-22) then 83 else 73, (0, 0), [.float v, .int 0, .float (sp_db (sp_hv v n1) j), .int (nI (127 + n1) - nI j), .retAddr 0], [])) (h' := (G, I, F)) (hs' := []) rfl rfl ?_
                refine vm_J.br (fun c8 => ?_) (fun c8 => ?_)
                · have c8 : (nI (127 + n1) - nI j) ≤ (-22) := of_decide_eq_true c8
                  exact absurd c8 (vm_pw (by omega) (by omega) (by omega))
                · have c8 : ¬ ((nI (127 + n1) - nI j) ≤ (-22)) := of_decide_eq_false c8
                  refine vm_J.go vm_q162 (k := 6) (hs := []) (f' := (61, (0, 0), [.float v, .int 0, .float (FP.fmul (sp_db (sp_hv v n1) j) 0x40000000), .int ((nI (127 + n1) - nI j) + (-1)), .retAddr 0], [])) (h' := (G, I, F)) (hs' := []) rfl (vm_b2 rfl (vm_b2 rfl (vm_b2 (hok2 (j + 1) (by omega)) (vm_b2 rfl (vm_b2 rfl (vm_b2 rfl rfl)))))) ?_
                  rw [vm_pm1]
                  exact ij trivial
            · show vm_J _ _ _ (61, (0, 0), [.float v, .int 0, .float (sp_db (sp_hv v n1) n2), .int (nI (127 + n1) - nI n2), .retAddr 0], []) (G, I, F) _ _
              refine vm_J.go vm_q162 (k := 4) (hs := []) (f' := (bif vm_ic .ge (Op.cmpValue (FP.fcmp (sp_db (sp_hv v n1) n2) 0x3f800000) .g) 0 then 83 else 67, (0, 0), [.float v, .int 0, .float (sp_db (sp_hv v n1) n2), .int (nI (127 + n1) - nI n2), .retAddr 0], [])) (h' := (G, I, F)) (hs' := []) rfl rfl ?_
              refine vm_J.br (fun c9 => ?_) (fun c9 => ?_)
              · have c9 : 0 ≤ (Op.cmpValue (FP.fcmp (sp_db (sp_hv v n1) n2) 0x3f800000) .g) := of_decide_eq_true c9
                refine vm_J.go vm_q162 (k := 5) (hs := []) (f' := (91, (0, 0), [.float v, .int 0, .float (sp_db (sp_hv v n1) n2), .int (nI (127 + n1) - nI n2), .int (FP.f2i (FP.fmul (sp_db (sp_hv v n1) n2) 1258291200))], [])) (h' := (G, I, F)) (hs' := []) rfl (vm_b2 rfl (vm_b2 rfl (vm_b2 hok3 (vm_b2 rfl (vm_b2 rfl rfl))))) ?_
                rw [hdg]
                refine vm_J.go vm_q162 (k := 2) (hs := []) (f' := (bif vm_ic .gt (nI (127 + n1) - nI n2) 0 then 104 else 95, (0, 0), [.float v, .int 0, .float (sp_db (sp_hv v n1) n2), .int (nI (127 + n1) - nI n2), .int (nI C)], [])) (h' := (G, I, F)) (hs' := []) rfl rfl ?_
                refine vm_J.br (fun c10 => ?_) (fun c10 => ?_)
                · have c10 : 0 < (nI (127 + n1) - nI n2) := of_decide_eq_true c10
                  exact absurd c10 hpw
                · have c10 : ¬ (0 < (nI (127 + n1) - nI n2)) := of_decide_eq_false c10
                  refine vm_J.go vm_q162 (k := 7) (hs := []) (f' := (103, (0, 0), [.float v, .int 0, .float (sp_db (sp_hv v n1) n2), .int (nI (127 + n1) - nI n2), .int (nI C)], [.int (0 ||| ((nI C) >>> ((1 - (nI (127 + n1) - nI n2)) &&& 31)))])) (h' := (G, I, F)) (hs' := []) rfl rfl ?_
                  exact vm_J.end vm_q162 (en := (103, .ireturn, 1, [], .null)) rfl rfl vm_rI (Nat.zero_le _) (Nat.zero_le _) rfl
              · have c9 : ¬ (0 ≤ (Op.cmpValue (FP.fcmp (sp_db (sp_hv v n1) n2) 0x3f800000) .g)) := of_decide_eq_false c9
                exact absurd (vm_nge_lt c9) hEe
          · have c6 : ¬ ((Op.cmpValue (FP.fcmp (sp_hv v n1) 0x40000000) .l) < 0) := of_decide_eq_false c6
            exact absurd hHe c6
      · have c3 : ¬ (0 ≤ (Op.cmpValue (FP.fcmp v 0x00000000) .g)) := of_decide_eq_false c3
        exact absurd (vm_nge_lt c3) hs_
    · have c2 : ¬ (0 ≤ (Op.cmpValue (FP.fcmp v 0x00000000) .g)) := of_decide_eq_false c2
      exact absurd (vm_nge_lt c2) hs_
  · have c1 : (Op.cmpValue (FP.fcmp v 0x00000000) .l) = 0 := Decidable.of_not_not (of_decide_eq_false c1)
    exact absurd c1 h0
set_option maxHeartbeats 4000000 in
set_option maxRecDepth 20000 in
/-- DitherDesk.floatBits -/
theorem m_fb_01 {l : Launch} {X : vm_Cx} {G : List vm_Sh} {I : Nat → Nat → Int32} {F : Nat → Nat → UInt32} {v : UInt32} {n1 : Nat} {n2 : Nat} {C : Nat}  (h0 : ¬ Op.cmpValue (FP.fcmp v 0) .l = 0) (hs_ : ¬ Op.cmpValue (FP.fcmp v 0) .g < 0) (hn1 : n1 ≤ 127) (hn2 : n2 ≤ 149) (hH : ∀ j_, j_ < n1 → ¬ Op.cmpValue (FP.fcmp (sp_hv v j_) 1073741824) .l < 0) (hHe : Op.cmpValue (FP.fcmp (sp_hv v n1) 1073741824) .l < 0) (hE : ∀ j_, j_ < n2 → Op.cmpValue (FP.fcmp (sp_db (sp_hv v n1) j_) 1065353216) .g < 0) (hEe : ¬ Op.cmpValue (FP.fcmp (sp_db (sp_hv v n1) n2) 1065353216) .g < 0) (hok1 : ∀ j_, j_ ≤ n1 → vm_n3 (sp_hv v j_) = true) (hok2 : ∀ j_, j_ ≤ n2 → vm_n3 (sp_db (sp_hv v n1) j_) = true) (hok3 : vm_n3 (FP.fmul (sp_db (sp_hv v n1) n2) 1258291200) = true) (hdg : FP.f2i (FP.fmul (sp_db (sp_hv v n1) n2) 1258291200) = nI C) (hpw : 0 < nI (127 + n1) - nI n2) : vm_K l X vm_M162 [.float v] (G, I, F) (some (.int ((0 ||| ((nI (127 + n1) - nI n2) <<< ((23 : Int32) &&& 31))) ||| (nI C &&& 8388607)))) (G, I, F) := by
  refine vm_K.mk (by decide) (Nat.le_of_ble_eq_true rfl) ?_
  show vm_J _ _ _ (0, (0, 0), [.float v, .retAddr 0, .retAddr 0, .retAddr 0, .retAddr 0], []) _ _ _
  refine vm_J.go vm_q162 (k := 4) (hs := []) (f' := (bif vm_ic .ne (Op.cmpValue (FP.fcmp v 0x00000000) .l) 0 then 8 else 6, (0, 0), [.float v, .retAddr 0, .retAddr 0, .retAddr 0, .retAddr 0], [])) (h' := (G, I, F)) (hs' := []) rfl rfl ?_
  refine vm_J.br (fun c1 => ?_) (fun c1 => ?_)
  · have c1 : ¬ (Op.cmpValue (FP.fcmp v 0x00000000) .l) = 0 := of_decide_eq_true c1
    refine vm_J.go vm_q162 (k := 4) (hs := []) (f' := (bif vm_ic .ge (Op.cmpValue (FP.fcmp v 0x00000000) .g) 0 then 20 else 14, (0, 0), [.float v, .retAddr 0, .retAddr 0, .retAddr 0, .retAddr 0], [])) (h' := (G, I, F)) (hs' := []) rfl rfl ?_
    refine vm_J.br (fun c2 => ?_) (fun c2 => ?_)
    · have c2 : 0 ≤ (Op.cmpValue (FP.fcmp v 0x00000000) .g) := of_decide_eq_true c2
      refine vm_J.go vm_q162 (k := 6) (hs := []) (f' := (bif vm_ic .ge (Op.cmpValue (FP.fcmp v 0x00000000) .g) 0 then 33 else 28, (0, 0), [.float v, .int 0, .retAddr 0, .retAddr 0, .retAddr 0], [])) (h' := (G, I, F)) (hs' := []) rfl rfl ?_
      refine vm_J.br (fun c3 => ?_) (fun c3 => ?_)
      · have c3 : 0 ≤ (Op.cmpValue (FP.fcmp v 0x00000000) .g) := of_decide_eq_true c3
        refine vm_J.go vm_q162 (k := 4) (hs := []) (f' := (38, (0, 0), [.float v, .int 0, .float v, .int 127, .retAddr 0], [])) (h' := (G, I, F)) (hs' := []) rfl rfl ?_
        refine vm_J.cnt n1 (fun j => (38, (0, 0), [.float v, .int 0, .float (sp_hv v j), .int (nI (127 + j)), .retAddr 0], [])) (fun j => (G, I, F)) (fun _ => True) rfl rfl trivial (fun j hj pj ij => ?_) (fun pj => ?_)
        · show vm_J _ _ _ (38, (0, 0), [.float v, .int 0, .float (sp_hv v j), .int (nI (127 + j)), .retAddr 0], []) (G, I, F) _ _
          refine vm_J.go vm_q162 (k := 4) (hs := []) (f' := (bif vm_ic .lt (Op.cmpValue (FP.fcmp (sp_hv v j) 0x40000000) .l) 0 then 61 else 44, (0, 0), [.float v, .int 0, .float (sp_hv v j), .int (nI (127 + j)), .retAddr 0], [])) (h' := (G, I, F)) (hs' := []) rfl rfl ?_
          refine vm_J.br (fun c4 => ?_) (fun c4 => ?_)
          · have c4 : (Op.cmpValue (FP.fcmp (sp_hv v j) 0x40000000) .l) < 0 := of_decide_eq_true c4
            exact absurd c4 (hH j hj)
          · have c4 : ¬ ((Op.cmpValue (FP.fcmp (sp_hv v j) 0x40000000) .l) < 0) := of_decide_eq_false c4
            refine vm_J.go vm_q162 (k := 3) (hs := []) (f' := (bif vm_ic .ge (nI (127 + j)) 254 then 61 else 51, (0, 0), [.float v, .int 0, .float (sp_hv v j), .int (nI (127 + j)), .retAddr 0], [])) (h' := (G, I, F)) (hs' := []) rfl rfl ?_
            refine vm_J.br (fun c5 => ?_) (fun c5 => ?_)
            · have c5 := vm_ge_t (a := 127 + j) (b := 254) (by omega) (by omega) c5
              exact (show False by omega).elim
            · have c5 := vm_ge_f (a := 127 + j) (b := 254) (by omega) (by omega) c5
              refine vm_J.go vm_q162 (k := 6) (hs := []) (f' := (38, (0, 0), [.float v, .int 0, .float (FP.fdiv (sp_hv v j) 0x40000000), .int ((nI (127 + j)) + 1), .retAddr 0], [])) (h' := (G, I, F)) (hs' := []) rfl (vm_b2 rfl (vm_b2 rfl (vm_b2 (hok1 (j + 1) (by omega)) (vm_b2 rfl (vm_b2 rfl (vm_b2 rfl rfl)))))) ?_
              rw [((vm_pa (rfl : nI (127 + j) = nI (127 + j)) (rfl : (1 : Int32) = nI 1)) : (nI (127 + j)) + 1 = nI (127 + j + 1))]
              exact ij trivial
        · show vm_J _ _ _ (38, (0, 0), [.float v, .int 0, .float (sp_hv v n1), .int (nI (127 + n1)), .retAddr 0], []) (G, I, F) _ _
          refine vm_J.go vm_q162 (k := 4) (hs := []) (f' := (bif vm_ic .lt (Op.cmpValue (FP.fcmp (sp_hv v n1) 0x40000000) .l) 0 then 61 else 44, (0, 0), [.float v, .int 0, .float (sp_hv v n1), .int (nI (127 + n1)), .retAddr 0], [])) (h' := (G, I, F)) (hs' := []) rfl rfl ?_
          refine vm_J.br (fun c6 => ?_) (fun c6 => ?_)
          · have c6 : (Op.cmpValue (FP.fcmp (sp_hv v n1) 0x40000000) .l) < 0 := of_decide_eq_true c6
            refine vm_J.cnt n2 (fun j => (61, (0, 0), [.float v, .int 0, .float (sp_db (sp_hv v n1) j), .int (nI (127 + n1) - nI j), .retAddr 0], [])) (fun j => (G, I, F)) (fun _ => True) (by show _ = ((61, (0, 0), [.float v, .int 0, .float (sp_db (sp_hv v n1) 0), .int (nI (127 + n1) - nI 0), .retAddr 0], []) : vm_F); rw [show nI (127 + n1) - nI 0 = nI (127 + n1) from Int32.sub_zero _]; rfl) rfl trivial (fun j hj pj ij => ?_) (fun pj => ?_)
            · show vm_J _ _ _ (61, (0, 0), [.float v, .int 0, .float (sp_db (sp_hv v n1) j), .int (nI (127 + n1) - nI j), .retAddr 0], []) (G, I, F) _ _
              refine vm_J.go vm_q162 (k := 4) (hs := []) (f' := (bif vm_ic .ge (Op.cmpValue (FP.fcmp (sp_db (sp_hv v n1) j) 0x3f800000) .g) 0 then 83 else 67, (0, 0), [.float v, .int 0, .float (sp_db (sp_hv v n1) j), .int (nI (127 + n1) - nI j), .retAddr 0], [])) (h' := (G, I, F)) (hs' := []) rfl rfl ?_
              refine vm_J.br (fun c7 => ?_) (fun c7 => ?_)
              · have c7 : 0 ≤ (Op.cmpValue (FP.fcmp (sp_db (sp_hv v n1) j) 0x3f800000) .g) := of_decide_eq_true c7
                exact absurd (hE j hj) (vm_nle_lt c7)
              · have c7 : ¬ (0 ≤ (Op.cmpValue (FP.fcmp (sp_db (sp_hv v n1) j) 0x3f800000) .g)) := of_decide_eq_false c7
                refine vm_J.go vm_q162 (k := 3) (hs := []) (f' := (bif vm_ic .le (nI (127 + n1) - nI j) (-22) then 83 else 73, (0, 0), [.float v, .int 0, .float (sp_db (sp_hv v n1) j), .int (nI (127 + n1) - nI j), .retAddr 0], [])) (h' := (G, I, F)) (hs' := []) rfl rfl ?_
                refine vm_J.br (fun c8 => ?_) (fun c8 => ?_)
                · have c8 : (nI (127 + n1) - nI j) ≤ (-22) := of_decide_eq_true c8
                  exact absurd c8 (vm_pw (by omega) (by omega) (by omega))
                · have c8 : ¬ ((nI (127 + n1) - nI j) ≤ (-22)) := of_decide_eq_false c8
                  refine vm_J.go vm_q162 (k := 6) (hs := []) (f' := (61, (0, 0), [.float v, .int 0, .float (FP.fmul (sp_db (sp_hv v n1) j) 0x40000000), .int ((nI (127 + n1) - nI j) + (-1)), .retAddr 0], [])) (h' := (G, I, F)) (hs' := []) rfl (vm_b2 rfl (vm_b2 rfl (vm_b2 (hok2 (j + 1) (by omega)) (vm_b2 rfl (vm_b2 rfl (vm_b2 rfl rfl)))))) ?_
                  rw [vm_pm1]
                  exact ij trivial
            · show vm_J _ _ _ (61, (0, 0), [.float v, .int 0, .float (sp_db (sp_hv v n1) n2), .int (nI (127 + n1) - nI n2), .retAddr 0], []) (G, I, F) _ _
              refine vm_J.go vm_q162 (k := 4) (hs := []) (f' := (bif vm_ic .ge (Op.cmpValue (FP.fcmp (sp_db (sp_hv v n1) n2) 0x3f800000) .g) 0 then 83 else 67, (0, 0), [.float v, .int 0, .float (sp_db (sp_hv v n1) n2), .int (nI (127 + n1) - nI n2), .retAddr 0], [])) (h' := (G, I, F)) (hs' := []) rfl rfl ?_
              refine vm_J.br (fun c9 => ?_) (fun c9 => ?_)
              · have c9 : 0 ≤ (Op.cmpValue (FP.fcmp (sp_db (sp_hv v n1) n2) 0x3f800000) .g) := of_decide_eq_true c9
                refine vm_J.go vm_q162 (k := 5) (hs := []) (f' := (91, (0, 0), [.float v, .int 0, .float (sp_db (sp_hv v n1) n2), .int (nI (127 + n1) - nI n2), .int (FP.f2i (FP.fmul (sp_db (sp_hv v n1) n2) 1258291200))], [])) (h' := (G, I, F)) (hs' := []) rfl (vm_b2 rfl (vm_b2 rfl (vm_b2 hok3 (vm_b2 rfl (vm_b2 rfl rfl))))) ?_
                rw [hdg]
                refine vm_J.go vm_q162 (k := 2) (hs := []) (f' := (bif vm_ic .gt (nI (127 + n1) - nI n2) 0 then 104 else 95, (0, 0), [.float v, .int 0, .float (sp_db (sp_hv v n1) n2), .int (nI (127 + n1) - nI n2), .int (nI C)], [])) (h' := (G, I, F)) (hs' := []) rfl rfl ?_
                refine vm_J.br (fun c10 => ?_) (fun c10 => ?_)
                · have c10 : 0 < (nI (127 + n1) - nI n2) := of_decide_eq_true c10
                  refine vm_J.go vm_q162 (k := 9) (hs := []) (f' := (117, (0, 0), [.float v, .int 0, .float (sp_db (sp_hv v n1) n2), .int (nI (127 + n1) - nI n2), .int (nI C)], [.int ((0 ||| ((nI (127 + n1) - nI n2) <<< ((23 : Int32) &&& 31))) ||| ((nI C) &&& 8388607))])) (h' := (G, I, F)) (hs' := []) rfl rfl ?_
                  exact vm_J.end vm_q162 (en := (117, .ireturn, 1, [], .null)) rfl rfl vm_rI (Nat.zero_le _) (Nat.zero_le _) rfl
                · have c10 : ¬ (0 < (nI (127 + n1) - nI n2)) := of_decide_eq_false c10
                  exact absurd hpw c10
              · have c9 : ¬ (0 ≤ (Op.cmpValue (FP.fcmp (sp_db (sp_hv v n1) n2) 0x3f800000) .g)) := of_decide_eq_false c9
                exact absurd (vm_nge_lt c9) hEe
          · have c6 : ¬ ((Op.cmpValue (FP.fcmp (sp_hv v n1) 0x40000000) .l) < 0) := of_decide_eq_false c6
            exact absurd hHe c6
      · have c3 : ¬ (0 ≤ (Op.cmpValue (FP.fcmp v 0x00000000) .g)) := of_decide_eq_false c3
        exact absurd (vm_nge_lt c3) hs_
    · have c2 : ¬ (0 ≤ (Op.cmpValue (FP.fcmp v 0x00000000) .g)) := of_decide_eq_false c2
      exact absurd (vm_nge_lt c2) hs_
  · have c1 : (Op.cmpValue (FP.fcmp v 0x00000000) .l) = 0 := Decidable.of_not_not (of_decide_eq_false c1)
    exact absurd c1 h0
set_option maxHeartbeats 4000000 in
set_option maxRecDepth 20000 in
/-- DitherDesk.floatBits -/
theorem m_fb_10 {l : Launch} {X : vm_Cx} {G : List vm_Sh} {I : Nat → Nat → Int32} {F : Nat → Nat → UInt32} {v : UInt32} {n1 : Nat} {n2 : Nat} {C : Nat}  (h0 : ¬ Op.cmpValue (FP.fcmp v 0) .l = 0) (hs_ : Op.cmpValue (FP.fcmp v 0) .g < 0) (hn1 : n1 ≤ 127) (hn2 : n2 ≤ 149) (hH : ∀ j_, j_ < n1 → ¬ Op.cmpValue (FP.fcmp (sp_hv (FP.fneg v) j_) 1073741824) .l < 0) (hHe : Op.cmpValue (FP.fcmp (sp_hv (FP.fneg v) n1) 1073741824) .l < 0) (hE : ∀ j_, j_ < n2 → Op.cmpValue (FP.fcmp (sp_db (sp_hv (FP.fneg v) n1) j_) 1065353216) .g < 0) (hEe : ¬ Op.cmpValue (FP.fcmp (sp_db (sp_hv (FP.fneg v) n1) n2) 1065353216) .g < 0) (hok1 : ∀ j_, j_ ≤ n1 → vm_n3 (sp_hv (FP.fneg v) j_) = true) (hok2 : ∀ j_, j_ ≤ n2 → vm_n3 (sp_db (sp_hv (FP.fneg v) n1) j_) = true) (hok3 : vm_n3 (FP.fmul (sp_db (sp_hv (FP.fneg v) n1) n2) 1258291200) = true) (hdg : FP.f2i (FP.fmul (sp_db (sp_hv (FP.fneg v) n1) n2) 1258291200) = nI C) (hpw : ¬ 0 < nI (127 + n1) - nI n2) : vm_K l X vm_M162 [.float v] (G, I, F) (some (.int ((-2147483648 : Int32) ||| (nI C >>> ((1 - (nI (127 + n1) - nI n2)) &&& 31))))) (G, I, F) := by
  refine vm_K.mk (by decide) (Nat.le_of_ble_eq_true rfl) ?_
  show vm_J _ _ _ (0, (0, 0), [.float v, .retAddr 0, .retAddr 0, .retAddr 0, .retAddr 0], []) _ _ _
  refine vm_J.go vm_q162 (k := 4) (hs := []) (f' := (bif vm_ic .ne (Op.cmpValue (FP.fcmp v 0x00000000) .l) 0 then 8 else 6, (0, 0), [.float v, .retAddr 0, .retAddr 0, .retAddr 0, .retAddr 0], [])) (h' := (G, I, F)) (hs' := []) rfl rfl ?_
  refine vm_J.br (fun c1 => ?_) (fun c1 => ?_)
  · have c1 : ¬ (Op.cmpValue (FP.fcmp v 0x00000000) .l) = 0 := of_decide_eq_true c1
    refine vm_J.go vm_q162 (k := 4) (hs := []) (f' := (bif vm_ic .ge (Op.cmpValue (FP.fcmp v 0x00000000) .g) 0 then 20 else 14, (0, 0), [.float v, .retAddr 0, .retAddr 0, .retAddr 0, .retAddr 0], [])) (h' := (G, I, F)) (hs' := []) rfl rfl ?_
    refine vm_J.br (fun c2 => ?_) (fun c2 => ?_)
    · have c2 : 0 ≤ (Op.cmpValue (FP.fcmp v 0x00000000) .g) := of_decide_eq_true c2
      exact absurd hs_ (vm_nle_lt c2)
    · have c2 : ¬ (0 ≤ (Op.cmpValue (FP.fcmp v 0x00000000) .g)) := of_decide_eq_false c2
      refine vm_J.go vm_q162 (k := 7) (hs := []) (f' := (bif vm_ic .ge (Op.cmpValue (FP.fcmp v 0x00000000) .g) 0 then 33 else 28, (0, 0), [.float v, .int (-2147483648), .retAddr 0, .retAddr 0, .retAddr 0], [])) (h' := (G, I, F)) (hs' := []) rfl rfl ?_
      refine vm_J.br (fun c3 => ?_) (fun c3 => ?_)
      · have c3 : 0 ≤ (Op.cmpValue (FP.fcmp v 0x00000000) .g) := of_decide_eq_true c3
        exact absurd hs_ (vm_nle_lt c3)
      · have c3 : ¬ (0 ≤ (Op.cmpValue (FP.fcmp v 0x00000000) .g)) := of_decide_eq_false c3
        refine vm_J.go vm_q162 (k := 6) (hs := []) (f' := (38, (0, 0), [.float v, .int (-2147483648), .float (FP.fneg v), .int 127, .retAddr 0], [])) (h' := (G, I, F)) (hs' := []) rfl rfl ?_
        refine vm_J.cnt n1 (fun j => (38, (0, 0), [.float v, .int (-2147483648), .float (sp_hv (FP.fneg v) j), .int (nI (127 + j)), .retAddr 0], [])) (fun j => (G, I, F)) (fun _ => True) rfl rfl trivial (fun j hj pj ij => ?_) (fun pj => ?_)
        · show vm_J _ _ _ (38, (0, 0), [.float v, .int (-2147483648), .float (sp_hv (FP.fneg v) j), .int (nI (127 + j)), .retAddr 0], []) (G, I, F) _ _
          refine vm_J.go vm_q162 (k := 4) (hs := []) (f' := (bif vm_ic .lt (Op.cmpValue (FP.fcmp (sp_hv (FP.fneg v) j) 0x40000000) .l) 0 then 61 else 44, (0, 0), [.float v, .int (-2147483648), .float (sp_hv (FP.fneg v) j), .int (nI (127 + j)), .retAddr 0], [])) (h' := (G, I, F)) (hs' := []) rfl rfl ?_
          refine vm_J.br (fun c4 => ?_) (fun c4 => ?_)
          · have c4 : (Op.cmpValue (FP.fcmp (sp_hv (FP.fneg v) j) 0x40000000) .l) < 0 := of_decide_eq_true c4
            exact absurd c4 (hH j hj)
          · have c4 : ¬ ((Op.cmpValue (FP.fcmp (sp_hv (FP.fneg v) j) 0x40000000) .l) < 0) := of_decide_eq_false c4
            refine vm_J.go vm_q162 (k := 3) (hs := []) (f' := (bif vm_ic .ge (nI (127 + j)) 254 then 61 else 51, (0, 0), [.float v, .int (-2147483648), .float (sp_hv (FP.fneg v) j), .int (nI (127 + j)), .retAddr 0], [])) (h' := (G, I, F)) (hs' := []) rfl rfl ?_
            refine vm_J.br (fun c5 => ?_) (fun c5 => ?_)
            · have c5 := vm_ge_t (a := 127 + j) (b := 254) (by omega) (by omega) c5
              exact (show False by omega).elim
            · have c5 := vm_ge_f (a := 127 + j) (b := 254) (by omega) (by omega) c5
              refine vm_J.go vm_q162 (k := 6) (hs := []) (f' := (38, (0, 0), [.float v, .int (-2147483648), .float (FP.fdiv (sp_hv (FP.fneg v) j) 0x40000000), .int ((nI (127 + j)) + 1), .retAddr 0], [])) (h' := (G, I, F)) (hs' := []) rfl (vm_b2 rfl (vm_b2 rfl (vm_b2 (hok1 (j + 1) (by omega)) (vm_b2 rfl (vm_b2 rfl (vm_b2 rfl rfl)))))) ?_
              rw [((vm_pa (rfl : nI (127 + j) = nI (127 + j)) (rfl : (1 : Int32) = nI 1)) : (nI (127 + j)) + 1 = nI (127 + j + 1))]
              exact ij trivial
        · show vm_J _ _ _ (38, (0, 0), [.float v, .int (-2147483648), .float (sp_hv (FP.fneg v) n1), .int (nI (127 + n1)), .retAddr 0], []) (G, I, F) _ _
          refine vm_J.go vm_q162 (k := 4) (hs := []) (f' := (bif vm_ic .lt (Op.cmpValue (FP.fcmp (sp_hv (FP.fneg v) n1) 0x40000000) .l) 0 then 61 else 44, (0, 0), [.float v, .int (-2147483648), .float (sp_hv (FP.fneg v) n1), .int (nI (127 + n1)), .retAddr 0], [])) (h' := (G, I, F)) (hs' := []) rfl rfl ?_
          refine vm_J.br (fun c6 => ?_) (fun c6 => ?_)
          · have c6 : (Op.cmpValue (FP.fcmp (sp_hv (FP.fneg v) n1) 0x40000000) .l) < 0 := of_decide_eq_true c6
            refine vm_J.cnt n2 (fun j => (61, (0, 0), [.float v, .int (-2147483648), .float (sp_db (sp_hv (FP.fneg v) n1) j), .int (nI (127 + n1) - nI j), .retAddr 0], [])) (fun j => (G, I, F)) (fun _ => True) (by show _ = ((61, (0, 0), [.float v, .int (-2147483648), .float (sp_db (sp_hv (FP.fneg v) n1) 0), .int (nI (127 + n1) - nI 0), .retAddr 0], []) : vm_F); rw [show nI (127 + n1) - nI 0 = nI (127 + n1) from Int32.sub_zero _]; rfl) rfl trivial (fun j hj pj ij => ?_) (fun pj => ?_)
            · show vm_J _ _ _ (61, (0, 0), [.float v, .int (-2147483648), .float (sp_db (sp_hv (FP.fneg v) n1) j), .int (nI (127 + n1) - nI j), .retAddr 0], []) (G, I, F) _ _
              refine vm_J.go vm_q162 (k := 4) (hs := []) (f' := (bif vm_ic .ge (Op.cmpValue (FP.fcmp (sp_db (sp_hv (FP.fneg v) n1) j) 0x3f800000) .g) 0 then 83 else 67, (0, 0), [.float v, .int (-2147483648), .float (sp_db (sp_hv (FP.fneg v) n1) j), .int (nI (127 + n1) - nI j), .retAddr 0], [])) (h' := (G, I, F)) (hs' := []) rfl rfl ?_
              refine vm_J.br (fun c7 => ?_) (fun c7 => ?_)
              · have c7 : 0 ≤ (Op.cmpValue (FP.fcmp (sp_db (sp_hv (FP.fneg v) n1) j) 0x3f800000) .g) := of_decide_eq_true c7
                exact absurd (hE j hj) (vm_nle_lt c7)
              · have c7 : ¬ (0 ≤ (Op.cmpValue (FP.fcmp (sp_db (sp_hv (FP.fneg v) n1) j) 0x3f800000) .g)) := of_decide_eq_false c7
                refine vm_J.go vm_q162 (k := 3) (hs := []) (f' := (bif vm_ic .le (nI (127 + n1) - nI j) (-22) then 83 else 73, (0, 0), [.float v, .int (-2147483648), .float (sp_db (sp_hv (FP.fneg v) n1) j), .int (nI (127 + n1) - nI j), .retAddr 0], [])) (h' := (G, I, F)) (hs' := []) rfl rfl ?_
                refine vm_J.br (fun c8 => ?_) (fun c8 => ?_)
                · have c8 : (nI (127 + n1) - nI j) ≤ (-22) := of_decide_eq_true c8
                  exact absurd c8 (vm_pw (by omega) (by omega) (by omega))
                · have c8 : ¬ ((nI (127 + n1) - nI j) ≤ (-22)) := of_decide_eq_false c8
                  refine vm_J.go vm_q162 (k := 6) (hs := []) (f' := (61, (0, 0), [.float v, .int (-2147483648), .float (FP.fmul (sp_db (sp_hv (FP.fneg v) n1) j) 0x40000000), .int ((nI (127 + n1) - nI j) + (-1)), .retAddr 0], [])) (h' := (G, I, F)) (hs' := []) rfl (vm_b2 rfl (vm_b2 rfl (vm_b2 (hok2 (j + 1) (by omega)) (vm_b2 rfl (vm_b2 rfl (vm_b2 rfl rfl)))))) ?_
                  rw [vm_pm1]
                  exact ij trivial
            · show vm_J _ _ _ (61, (0, 0), [.float v, .int (-2147483648), .float (sp_db (sp_hv (FP.fneg v) n1) n2), .int (nI (127 + n1) - nI n2), .retAddr 0], []) (G, I, F) _ _
              refine vm_J.go vm_q162 (k := 4) (hs := []) (f' := (bif vm_ic .ge (Op.cmpValue (FP.fcmp (sp_db (sp_hv (FP.fneg v) n1) n2) 0x3f800000) .g) 0 then 83 else 67, (0, 0), [.float v, .int (-2147483648), .float (sp_db (sp_hv (FP.fneg v) n1) n2), .int (nI (127 + n1) - nI n2), .retAddr 0], [])) (h' := (G, I, F)) (hs' := []) rfl rfl ?_
              refine vm_J.br (fun c9 => ?_) (fun c9 => ?_)
              · have c9 : 0 ≤ (Op.cmpValue (FP.fcmp (sp_db (sp_hv (FP.fneg v) n1) n2) 0x3f800000) .g) := of_decide_eq_true c9
                refine vm_J.go vm_q162 (k := 5) (hs := []) (f' := (91, (0, 0), [.float v, .int (-2147483648), .float (sp_db (sp_hv (FP.fneg v) n1) n2), .int (nI (127 + n1) - nI n2), .int (FP.f2i (FP.fmul (sp_db (sp_hv (FP.fneg v) n1) n2) 1258291200))], [])) (h' := (G, I, F)) (hs' := []) rfl (vm_b2 rfl (vm_b2 rfl (vm_b2 hok3 (vm_b2 rfl (vm_b2 rfl rfl))))) ?_
                rw [hdg]
                refine vm_J.go vm_q162 (k := 2) (hs := []) (f' := (bif vm_ic .gt (nI (127 + n1) - nI n2) 0 then 104 else 95, (0, 0), [.float v, .int (-2147483648), .float (sp_db (sp_hv (FP.fneg v) n1) n2), .int (nI (127 + n1) - nI n2), .int (nI C)], [])) (h' := (G, I, F)) (hs' := []) rfl rfl ?_
                refine vm_J.br (fun c10 => ?_) (fun c10 => ?_)
                · have c10 : 0 < (nI (127 + n1) - nI n2) := of_decide_eq_true c10
                  exact absurd c10 hpw
                · have c10 : ¬ (0 < (nI (127 + n1) - nI n2)) := of_decide_eq_false c10
                  refine vm_J.go vm_q162 (k := 7) (hs := []) (f' := (103, (0, 0), [.float v, .int (-2147483648), .float (sp_db (sp_hv (FP.fneg v) n1) n2), .int (nI (127 + n1) - nI n2), .int (nI C)], [.int ((-2147483648) ||| ((nI C) >>> ((1 - (nI (127 + n1) - nI n2)) &&& 31)))])) (h' := (G, I, F)) (hs' := []) rfl rfl ?_
                  exact vm_J.end vm_q162 (en := (103, .ireturn, 1, [], .null)) rfl rfl vm_rI (Nat.zero_le _) (Nat.zero_le _) rfl
              · have c9 : ¬ (0 ≤ (Op.cmpValue (FP.fcmp (sp_db (sp_hv (FP.fneg v) n1) n2) 0x3f800000) .g)) := of_decide_eq_false c9
                exact absurd (vm_nge_lt c9) hEe
          · have c6 : ¬ ((Op.cmpValue (FP.fcmp (sp_hv (FP.fneg v) n1) 0x40000000) .l) < 0) := of_decide_eq_false c6
            exact absurd hHe c6
  · have c1 : (Op.cmpValue (FP.fcmp v 0x00000000) .l) = 0 := Decidable.of_not_not (of_decide_eq_false c1)
    exact absurd c1 h0
set_option maxHeartbeats 4000000 in
set_option maxRecDepth 20000 in
/-- DitherDesk.floatBits -/
theorem m_fb_11 {l : Launch} {X : vm_Cx} {G : List vm_Sh} {I : Nat → Nat → Int32} {F : Nat → Nat → UInt32} {v : UInt32} {n1 : Nat} {n2 : Nat} {C : Nat}  (h0 : ¬ Op.cmpValue (FP.fcmp v 0) .l = 0) (hs_ : Op.cmpValue (FP.fcmp v 0) .g < 0) (hn1 : n1 ≤ 127) (hn2 : n2 ≤ 149) (hH : ∀ j_, j_ < n1 → ¬ Op.cmpValue (FP.fcmp (sp_hv (FP.fneg v) j_) 1073741824) .l < 0) (hHe : Op.cmpValue (FP.fcmp (sp_hv (FP.fneg v) n1) 1073741824) .l < 0) (hE : ∀ j_, j_ < n2 → Op.cmpValue (FP.fcmp (sp_db (sp_hv (FP.fneg v) n1) j_) 1065353216) .g < 0) (hEe : ¬ Op.cmpValue (FP.fcmp (sp_db (sp_hv (FP.fneg v) n1) n2) 1065353216) .g < 0) (hok1 : ∀ j_, j_ ≤ n1 → vm_n3 (sp_hv (FP.fneg v) j_) = true) (hok2 : ∀ j_, j_ ≤ n2 → vm_n3 (sp_db (sp_hv (FP.fneg v) n1) j_) = true) (hok3 : vm_n3 (FP.fmul (sp_db (sp_hv (FP.fneg v) n1) n2) 1258291200) = true) (hdg : FP.f2i (FP.fmul (sp_db (sp_hv (FP.fneg v) n1) n2) 1258291200) = nI C) (hpw : 0 < nI (127 + n1) - nI n2) : vm_K l X vm_M162 [.float v] (G, I, F) (some (.int (((-2147483648 : Int32) ||| ((nI (127 + n1) - nI n2) <<< ((23 : Int32) &&& 31))) ||| (nI C &&& 8388607)))) (G, I, F) := by
  refine vm_K.mk (by decide) (Nat.le_of_ble_eq_true rfl) ?_
  show vm_J _ _ _ (0, (0, 0), [.float v, .retAddr 0, .retAddr 0, .retAddr 0, .retAddr 0], []) _ _ _
  refine vm_J.go vm_q162 (k := 4) (hs := []) (f' := (bif vm_ic .ne (Op.cmpValue (FP.fcmp v 0x00000000) .l) 0 then 8 else 6, (0, 0), [.float v, .retAddr 0, .retAddr 0, .retAddr 0, .retAddr 0], [])) (h' := (G, I, F)) (hs' := []) rfl rfl ?_
  refine vm_J.br (fun c1 => ?_) (fun c1 => ?_)
  · have c1 : ¬ (Op.cmpValue (FP.fcmp v 0x00000000) .l) = 0 := of_decide_eq_true c1
    refine vm_J.go vm_q162 (k := 4) (hs := []) (f' := (bif vm_ic .ge (Op.cmpValue (FP.fcmp v 0x00000000) .g) 0 then 20 else 14, (0, 0), [.float v, .retAddr 0, .retAddr 0, .retAddr 0, .retAddr 0], [])) (h' := (G, I, F)) (hs' := []) rfl rfl ?_
    refine vm_J.br (fun c2 => ?_) (fun c2 => ?_)
    · have c2 : 0 ≤ (Op.cmpValue (FP.fcmp v 0x00000000) .g) := of_decide_eq_true c2
      exact absurd hs_ (vm_nle_lt c2)
    · have c2 : ¬ (0 ≤ (Op.cmpValue (FP.fcmp v 0x00000000) .g)) := of_decide_eq_false c2
      refine vm_J.go vm_q162 (k := 7) (hs := []) (f' := (bif vm_ic .ge (Op.cmpValue (FP.fcmp v 0x00000000) .g) 0 then 33 else 28, (0, 0), [.float v, .int (-2147483648), .retAddr 0, .retAddr 0, .retAddr 0], [])) (h' := (G, I, F)) (hs' := []) rfl rfl ?_
      refine vm_J.br (fun c3 => ?_) (fun c3 => ?_)
      · have c3 : 0 ≤ (Op.cmpValue (FP.fcmp v 0x00000000) .g) := of_decide_eq_true c3
        exact absurd hs_ (vm_nle_lt c3)
      · have c3 : ¬ (0 ≤ (Op.cmpValue (FP.fcmp v 0x00000000) .g)) := of_decide_eq_false c3
        refine vm_J.go vm_q162 (k := 6) (hs := []) (f' := (38, (0, 0), [.float v, .int (-2147483648), .float (FP.fneg v), .int 127, .retAddr 0], [])) (h' := (G, I, F)) (hs' := []) rfl rfl ?_
        refine vm_J.cnt n1 (fun j => (38, (0, 0), [.float v, .int (-2147483648), .float (sp_hv (FP.fneg v) j), .int (nI (127 + j)), .retAddr 0], [])) (fun j => (G, I, F)) (fun _ => True) rfl rfl trivial (fun j hj pj ij => ?_) (fun pj => ?_)
        · show vm_J _ _ _ (38, (0, 0), [.float v, .int (-2147483648), .float (sp_hv (FP.fneg v) j), .int (nI (127 + j)), .retAddr 0], []) (G, I, F) _ _
          refine vm_J.go vm_q162 (k := 4) (hs := []) (f' := (bif vm_ic .lt (Op.cmpValue (FP.fcmp (sp_hv (FP.fneg v) j) 0x40000000) .l) 0 then 61 else 44, (0, 0), [.float v, .int (-2147483648), .float (sp_hv (FP.fneg v) j), .int (nI (127 + j)), .retAddr 0], [])) (h' := (G, I, F)) (hs' := []) rfl rfl ?_
          refine vm_J.br (fun c4 => ?_) (fun c4 => ?_)
          · have c4 : (Op.cmpValue (FP.fcmp (sp_hv (FP.fneg v) j) 0x40000000) .l) < 0 := of_decide_eq_true c4
            exact absurd c4 (hH j hj)
          · have c4 : ¬ ((Op.cmpValue (FP.fcmp (sp_hv (FP.fneg v) j) 0x40000000) .l) < 0) := of_decide_eq_false c4
            refine vm_J.go vm_q162 (k := 3) (hs := []) (f' := (bif vm_ic .ge (nI (127 + j)) 254 then 61 else 51, (0, 0), [.float v, .int (-2147483648), .float (sp_hv (FP.fneg v) j), .int (nI (127 + j)), .retAddr 0], [])) (h' := (G, I, F)) (hs' := []) rfl rfl ?_
            refine vm_J.br (fun c5 => ?_) (fun c5 => ?_)
            · have c5 := vm_ge_t (a := 127 + j) (b := 254) (by omega) (by omega) c5
              exact (show False by omega).elim
            · have c5 := vm_ge_f (a := 127 + j) (b := 254) (by omega) (by omega) c5
              refine vm_J.go vm_q162 (k := 6) (hs := []) (f' := (38, (0, 0), [.float v, .int (-2147483648), .float (FP.fdiv (sp_hv (FP.fneg v) j) 0x40000000), .int ((nI (127 + j)) + 1), .retAddr 0], [])) (h' := (G, I, F)) (hs' := []) rfl (vm_b2 rfl (vm_b2 rfl (vm_b2 (hok1 (j + 1) (by omega)) (vm_b2 rfl (vm_b2 rfl (vm_b2 rfl rfl)))))) ?_
              rw [((vm_pa (rfl : nI (127 + j) = nI (127 + j)) (rfl : (1 : Int32) = nI 1)) : (nI (127 + j)) + 1 = nI (127 + j + 1))]
              exact ij trivial
        · show vm_J _ _ _ (38, (0, 0), [.float v, .int (-2147483648), .float (sp_hv (FP.fneg v) n1), .int (nI (127 + n1)), .retAddr 0], []) (G, I, F) _ _
          refine vm_J.go vm_q162 (k := 4) (hs := []) (f' := (bif vm_ic .lt (Op.cmpValue (FP.fcmp (sp_hv (FP.fneg v) n1) 0x40000000) .l) 0 then 61 else 44, (0, 0), [.float v, .int (-2147483648), .float (sp_hv (FP.fneg v) n1), .int (nI (127 + n1)), .retAddr 0], [])) (h' := (G, I, F)) (hs' := []) rfl rfl ?_
          refine vm_J.br (fun c6 => ?_) (fun c6 => ?_)
          · have c6 : (Op.cmpValue (FP.fcmp (sp_hv (FP.fneg v) n1) 0x40000000) .l) < 0 := of_decide_eq_true c6
            refine vm_J.cnt n2 (fun j => (61, (0, 0), [.float v, .int (-2147483648), .float (sp_db (sp_hv (FP.fneg v) n1) j), .int (nI (127 + n1) - nI j), .retAddr 0], [])) (fun j => (G, I, F)) (fun _ => True) (by show _ = ((61, (0, 0), [.float v, .int (-2147483648), .float (sp_db (sp_hv (FP.fneg v) n1) 0), .int (nI (127 + n1) - nI 0), .retAddr 0], []) : vm_F); rw [show nI (127 + n1) - nI 0 = nI (127 + n1) from Int32.sub_zero _]; rfl) rfl trivial (fun j hj pj ij => ?_) (fun pj => ?_)
            · show vm_J _ _ _ (61, (0, 0), [.float v, .int (-2147483648), .float (sp_db (sp_hv (FP.fneg v) n1) j), .int (nI (127 + n1) - nI j), .retAddr 0], []) (G, I, F) _ _
              refine vm_J.go vm_q162 (k := 4) (hs := []) (f' := (bif vm_ic .ge (Op.cmpValue (FP.fcmp (sp_db (sp_hv (FP.fneg v) n1) j) 0x3f800000) .g) 0 then 83 else 67, (0, 0), [.float v, .int (-2147483648), .float (sp_db (sp_hv (FP.fneg v) n1) j), .int (nI (127 + n1) - nI j), .retAddr 0], [])) (h' := (G, I, F)) (hs' := []) rfl rfl ?_
              refine vm_J.br (fun c7 => ?_) (fun c7 => ?_)
              · have c7 : 0 ≤ (Op.cmpValue (FP.fcmp (sp_db (sp_hv (FP.fneg v) n1) j) 0x3f800000) .g) := of_decide_eq_true c7
                exact absurd (hE j hj) (vm_nle_lt c7)
              · have c7 : ¬ (0 ≤ (Op.cmpValue (FP.fcmp (sp_db (sp_hv (FP.fneg v) n1) j) 0x3f800000) .g)) := of_decide_eq_false c7
                refine vm_J.go vm_q162 (k := 3) (hs := []) (f' := (bif vm_ic .le (nI (127 + n1) - nI j) (-22) then 83 else 73, (0, 0), [.float v, .int (-2147483648), .float (sp_db (sp_hv (FP.fneg v) n1) j), .int (nI (127 + n1) - nI j), .retAddr 0], [])) (h' := (G, I, F)) (hs' := []) rfl rfl ?_
                refine vm_J.br (fun c8 => ?_) (fun c8 => ?_)
                · have c8 : (nI (127 + n1) - nI j) ≤ (-22) := of_decide_eq_true c8
                  exact absurd c8 (vm_pw (by omega) (by omega) (by omega))
                · have c8 : ¬ ((nI (127 + n1) - nI j) ≤ (-22)) := of_decide_eq_false c8
                  refine vm_J.go vm_q162 (k := 6) (hs := []) (f' := (61, (0, 0), [.float v, .int (-2147483648), .float (FP.fmul (sp_db (sp_hv (FP.fneg v) n1) j) 0x40000000), .int ((nI (127 + n1) - nI j) + (-1)), .retAddr 0], [])) (h' := (G, I, F)) (hs' := []) rfl (vm_b2 rfl (vm_b2 rfl (vm_b2 (hok2 (j + 1) (by omega)) (vm_b2 rfl (vm_b2 rfl (vm_b2 rfl rfl)))))) ?_
                  rw [vm_pm1]
                  exact ij trivial
            · show vm_J _ _ _ (61, (0, 0), [.float v, .int (-2147483648), .float (sp_db (sp_hv (FP.fneg v) n1) n2), .int (nI (127 + n1) - nI n2), .retAddr 0], []) (G, I, F) _ _
              refine vm_J.go vm_q162 (k := 4) (hs := []) (f' := (bif vm_ic .ge (Op.cmpValue (FP.fcmp (sp_db (sp_hv (FP.fneg v) n1) n2) 0x3f800000) .g) 0 then 83 else 67, (0, 0), [.float v, .int (-2147483648), .float (sp_db (sp_hv (FP.fneg v) n1) n2), .int (nI (127 + n1) - nI n2), .retAddr 0], [])) (h' := (G, I, F)) (hs' := []) rfl rfl ?_
              refine vm_J.br (fun c9 => ?_) (fun c9 => ?_)
              · have c9 : 0 ≤ (Op.cmpValue (FP.fcmp (sp_db (sp_hv (FP.fneg v) n1) n2) 0x3f800000) .g) := of_decide_eq_true c9
                refine vm_J.go vm_q162 (k := 5) (hs := []) (f' := (91, (0, 0), [.float v, .int (-2147483648), .float (sp_db (sp_hv (FP.fneg v) n1) n2), .int (nI (127 + n1) - nI n2), .int (FP.f2i (FP.fmul (sp_db (sp_hv (FP.fneg v) n1) n2) 1258291200))], [])) (h' := (G, I, F)) (hs' := []) rfl (vm_b2 rfl (vm_b2 rfl (vm_b2 hok3 (vm_b2 rfl (vm_b2 rfl rfl))))) ?_
                rw [hdg]
                refine vm_J.go vm_q162 (k := 2) (hs := []) (f' := (bif vm_ic .gt (nI (127 + n1) - nI n2) 0 then 104 else 95, (0, 0), [.float v, .int (-2147483648), .float (sp_db (sp_hv (FP.fneg v) n1) n2), .int (nI (127 + n1) - nI n2), .int (nI C)], [])) (h' := (G, I, F)) (hs' := []) rfl rfl ?_
                refine vm_J.br (fun c10 => ?_) (fun c10 => ?_)
                · have c10 : 0 < (nI (127 + n1) - nI n2) := of_decide_eq_true c10
                  refine vm_J.go vm_q162 (k := 9) (hs := []) (f' := (117, (0, 0), [.float v, .int (-2147483648), .float (sp_db (sp_hv (FP.fneg v) n1) n2), .int (nI (127 + n1) - nI n2), .int (nI C)], [.int (((-2147483648) ||| ((nI (127 + n1) - nI n2) <<< ((23 : Int32) &&& 31))) ||| ((nI C) &&& 8388607))])) (h' := (G, I, F)) (hs' := []) rfl rfl ?_
                  exact vm_J.end vm_q162 (en := (117, .ireturn, 1, [], .null)) rfl rfl vm_rI (Nat.zero_le _) (Nat.zero_le _) rfl
                · have c10 : ¬ (0 < (nI (127 + n1) - nI n2)) := of_decide_eq_false c10
                  exact absurd hpw c10
              · have c9 : ¬ (0 ≤ (Op.cmpValue (FP.fcmp (sp_db (sp_hv (FP.fneg v) n1) n2) 0x3f800000) .g)) := of_decide_eq_false c9
                exact absurd (vm_nge_lt c9) hEe
          · have c6 : ¬ ((Op.cmpValue (FP.fcmp (sp_hv (FP.fneg v) n1) 0x40000000) .l) < 0) := of_decide_eq_false c6
            exact absurd hHe c6
  · have c1 : (Op.cmpValue (FP.fcmp v 0x00000000) .l) = 0 := Decidable.of_not_not (of_decide_eq_false c1)
    exact absurd c1 h0
set_option maxHeartbeats 4000000 in
set_option maxRecDepth 20000 in
/-- DitherDesk.floatBits -/
theorem m_fb_z {l : Launch} {X : vm_Cx} {G : List vm_Sh} {I : Nat → Nat → Int32} {F : Nat → Nat → UInt32}   : vm_K l X vm_M162 [.float 0] (G, I, F) (some (.int 0)) (G, I, F) := by
  refine vm_K.mk (by decide) (Nat.le_of_ble_eq_true rfl) ?_
  show vm_J _ _ _ (0, (0, 0), [.float 0, .retAddr 0, .retAddr 0, .retAddr 0, .retAddr 0], []) _ _ _
  refine vm_J.go vm_q162 (k := 4) (hs := []) (f' := (bif vm_ic .ne (Op.cmpValue (FP.fcmp 0 0x00000000) .l) 0 then 8 else 6, (0, 0), [.float 0, .retAddr 0, .retAddr 0, .retAddr 0, .retAddr 0], [])) (h' := (G, I, F)) (hs' := []) rfl rfl ?_
  refine vm_J.br (fun c1 => ?_) (fun c1 => ?_)
  · have c1 : ¬ (Op.cmpValue (FP.fcmp 0 0x00000000) .l) = 0 := of_decide_eq_true c1
    exact absurd (show Op.cmpValue (FP.fcmp 0 0) .l = 0 from by decide +kernel) c1
  · have c1 : (Op.cmpValue (FP.fcmp 0 0x00000000) .l) = 0 := Decidable.of_not_not (of_decide_eq_false c1)
    refine vm_J.go vm_q162 (k := 1) (hs := []) (f' := (7, (0, 0), [.float 0, .retAddr 0, .retAddr 0, .retAddr 0, .retAddr 0], [.int 0])) (h' := (G, I, F)) (hs' := []) rfl rfl ?_
    exact vm_J.end vm_q162 (en := (7, .ireturn, 1, [], .null)) rfl rfl vm_rI (Nat.zero_le _) (Nat.zero_le _) rfl
