theorem sp_mx_i (a b : Int32) : (sp_mx a b).toInt = if a.toInt < b.toInt then b.toInt else a.toInt := by
  unfold sp_mx
  by_cases h : a < b
  · rw [if_pos h, if_pos (Int32.lt_iff_toInt_lt.mp h)]
  · rw [if_neg h, if_neg (fun z => h (Int32.lt_iff_toInt_lt.mpr z))]
theorem vm_mx_0 {r g b : Int32} (h1 : ¬ r ≤ g) (h2 : ¬ r ≤ b) : sp_mx r (sp_mx g b) = r := by
  rw [Int32.le_iff_toInt_le] at h1 h2
  apply Int32.toInt_inj.mp
  rw [sp_mx_i, sp_mx_i]
  split <;> split <;> omega
theorem vm_mx_1 {r g b : Int32} (h1 : ¬ r ≤ g) (h2 : r ≤ b) : sp_mx r (sp_mx g b) = b := by
  rw [Int32.le_iff_toInt_le] at h1 h2
  apply Int32.toInt_inj.mp
  rw [sp_mx_i, sp_mx_i]
  split <;> split <;> omega
theorem vm_mx_2 {r g b : Int32} (h1 : r ≤ g) (h2 : ¬ g ≤ b) : sp_mx r (sp_mx g b) = g := by
  rw [Int32.le_iff_toInt_le] at h1 h2
  apply Int32.toInt_inj.mp
  rw [sp_mx_i, sp_mx_i]
  split <;> split <;> omega
theorem vm_mx_3 {r g b : Int32} (h1 : r ≤ g) (h2 : g ≤ b) : sp_mx r (sp_mx g b) = b := by
  rw [Int32.le_iff_toInt_le] at h1 h2
  apply Int32.toInt_inj.mp
  rw [sp_mx_i, sp_mx_i]
  split <;> split <;> omega
set_option maxHeartbeats 4000000 in
set_option maxRecDepth 20000 in
/-- DitherDeskModel.farFrom  -/
theorem r_farFrom {l : Launch} {X : vm_Cx} {G : List vm_Sh} {I : Nat → Nat → Int32} {F : Nat → Nat → UInt32} {x y : Int32} (hR : vm_isR G) (hm : I 152 6 = 0 ∨ I 152 6 = 1 ∨ I 152 6 = 2 ∨ I 152 6 = 3) : vm_K l X vm_M231 [.ref 152, .int x, .int y] (G, I, F) (some (.int (sp_far (I 152 6) x y))) (G, I, F) := by
  refine vm_K.mk (by decide) (Nat.le_of_ble_eq_true rfl) ?_
  show vm_J _ _ _ (0, (0, 0), [.ref 152, .int x, .int y, .retAddr 0, .retAddr 0, .retAddr 0], []) _ _ _
  refine vm_J.go vm_q231 (k := 2) (hs := []) (f' := (2, (0, 0), [.ref 152, .int x, .int y, .retAddr 0, .retAddr 0, .retAddr 0], [.int 0, .int x])) (h' := (G, I, F)) (hs' := []) rfl rfl ?_
  refine vm_J.call vm_q231 (Z := vm_M170) (n := 2) (k := 1) (mi := 170) (pc := 2) (en := (2, .invokestatic 180, 3, [170, 1348, 0], .null)) rfl trivial rfl rfl vm_z170 (av := [.int x, .int 0]) (rest := []) (r_channelOf (c := x) (k := 0)) rfl (Nat.le_of_ble_eq_true rfl) ⟨Nat.le_of_ble_eq_true rfl, Nat.le_of_ble_eq_true rfl⟩ ⟨Nat.le_of_ble_eq_true rfl, Nat.le_of_ble_eq_true rfl⟩ ?_
  show vm_J _ _ _ (5, (0, 0), [.ref 152, .int x, .int y, .retAddr 0, .retAddr 0, .retAddr 0], [.int (sp_ch x 0)]) (G, I, F) _ _
  refine vm_J.go vm_q231 (k := 2) (hs := []) (f' := (7, (0, 0), [.ref 152, .int x, .int y, .retAddr 0, .retAddr 0, .retAddr 0], [.int 0, .int y, .int (sp_ch x 0)])) (h' := (G, I, F)) (hs' := []) rfl rfl ?_
  refine vm_J.call vm_q231 (Z := vm_M170) (n := 2) (k := 1) (mi := 170) (pc := 7) (en := (7, .invokestatic 180, 3, [170, 1348, 0], .null)) rfl trivial rfl rfl vm_z170 (av := [.int y, .int 0]) (rest := [.int (sp_ch x 0)]) (r_channelOf (c := y) (k := 0)) rfl (Nat.le_of_ble_eq_true rfl) ⟨Nat.le_of_ble_eq_true rfl, Nat.le_of_ble_eq_true rfl⟩ ⟨Nat.le_of_ble_eq_true rfl, Nat.le_of_ble_eq_true rfl⟩ ?_
  show vm_J _ _ _ (10, (0, 0), [.ref 152, .int x, .int y, .retAddr 0, .retAddr 0, .retAddr 0], [.int (sp_ch y 0), .int (sp_ch x 0)]) (G, I, F) _ _
  refine vm_J.call vm_q231 (Z := vm_M230) (n := 2) (k := 1) (mi := 230) (pc := 10) (en := (10, .invokestatic 310, 3, [230, 1548, 0], .null)) rfl trivial rfl rfl vm_z230 (av := [.int (sp_ch x 0), .int (sp_ch y 0)]) (rest := []) (r_apart_c (c := x) (d := y) (k := 0)) rfl (Nat.le_of_ble_eq_true rfl) ⟨Nat.le_of_ble_eq_true rfl, Nat.le_of_ble_eq_true rfl⟩ ⟨Nat.le_of_ble_eq_true rfl, Nat.le_of_ble_eq_true rfl⟩ ?_
  show vm_J _ _ _ (13, (0, 0), [.ref 152, .int x, .int y, .retAddr 0, .retAddr 0, .retAddr 0], [.int (sp_ab (sp_ch x 0 - sp_ch y 0))]) (G, I, F) _ _
  refine vm_J.go vm_q231 (k := 3) (hs := []) (f' := (16, (0, 0), [.ref 152, .int x, .int y, .int (sp_ab (sp_ch x 0 - sp_ch y 0)), .retAddr 0, .retAddr 0], [.int 1, .int x])) (h' := (G, I, F)) (hs' := []) rfl rfl ?_
  refine vm_J.call vm_q231 (Z := vm_M170) (n := 2) (k := 1) (mi := 170) (pc := 16) (en := (16, .invokestatic 180, 3, [170, 1348, 0], .null)) rfl trivial rfl rfl vm_z170 (av := [.int x, .int 1]) (rest := []) (r_channelOf (c := x) (k := 1)) rfl (Nat.le_of_ble_eq_true rfl) ⟨Nat.le_of_ble_eq_true rfl, Nat.le_of_ble_eq_true rfl⟩ ⟨Nat.le_of_ble_eq_true rfl, Nat.le_of_ble_eq_true rfl⟩ ?_
  show vm_J _ _ _ (19, (0, 0), [.ref 152, .int x, .int y, .int (sp_ab (sp_ch x 0 - sp_ch y 0)), .retAddr 0, .retAddr 0], [.int (sp_ch x 1)]) (G, I, F) _ _
  refine vm_J.go vm_q231 (k := 2) (hs := []) (f' := (21, (0, 0), [.ref 152, .int x, .int y, .int (sp_ab (sp_ch x 0 - sp_ch y 0)), .retAddr 0, .retAddr 0], [.int 1, .int y, .int (sp_ch x 1)])) (h' := (G, I, F)) (hs' := []) rfl rfl ?_
  refine vm_J.call vm_q231 (Z := vm_M170) (n := 2) (k := 1) (mi := 170) (pc := 21) (en := (21, .invokestatic 180, 3, [170, 1348, 0], .null)) rfl trivial rfl rfl vm_z170 (av := [.int y, .int 1]) (rest := [.int (sp_ch x 1)]) (r_channelOf (c := y) (k := 1)) rfl (Nat.le_of_ble_eq_true rfl) ⟨Nat.le_of_ble_eq_true rfl, Nat.le_of_ble_eq_true rfl⟩ ⟨Nat.le_of_ble_eq_true rfl, Nat.le_of_ble_eq_true rfl⟩ ?_
  show vm_J _ _ _ (24, (0, 0), [.ref 152, .int x, .int y, .int (sp_ab (sp_ch x 0 - sp_ch y 0)), .retAddr 0, .retAddr 0], [.int (sp_ch y 1), .int (sp_ch x 1)]) (G, I, F) _ _
  refine vm_J.call vm_q231 (Z := vm_M230) (n := 2) (k := 1) (mi := 230) (pc := 24) (en := (24, .invokestatic 310, 3, [230, 1548, 0], .null)) rfl trivial rfl rfl vm_z230 (av := [.int (sp_ch x 1), .int (sp_ch y 1)]) (rest := []) (r_apart_c (c := x) (d := y) (k := 1)) rfl (Nat.le_of_ble_eq_true rfl) ⟨Nat.le_of_ble_eq_true rfl, Nat.le_of_ble_eq_true rfl⟩ ⟨Nat.le_of_ble_eq_true rfl, Nat.le_of_ble_eq_true rfl⟩ ?_
  show vm_J _ _ _ (27, (0, 0), [.ref 152, .int x, .int y, .int (sp_ab (sp_ch x 0 - sp_ch y 0)), .retAddr 0, .retAddr 0], [.int (sp_ab (sp_ch x 1 - sp_ch y 1))]) (G, I, F) _ _
  refine vm_J.go vm_q231 (k := 3) (hs := []) (f' := (31, (0, 0), [.ref 152, .int x, .int y, .int (sp_ab (sp_ch x 0 - sp_ch y 0)), .int (sp_ab (sp_ch x 1 - sp_ch y 1)), .retAddr 0], [.int 2, .int x])) (h' := (G, I, F)) (hs' := []) rfl rfl ?_
  refine vm_J.call vm_q231 (Z := vm_M170) (n := 2) (k := 1) (mi := 170) (pc := 31) (en := (31, .invokestatic 180, 3, [170, 1348, 0], .null)) rfl trivial rfl rfl vm_z170 (av := [.int x, .int 2]) (rest := []) (r_channelOf (c := x) (k := 2)) rfl (Nat.le_of_ble_eq_true rfl) ⟨Nat.le_of_ble_eq_true rfl, Nat.le_of_ble_eq_true rfl⟩ ⟨Nat.le_of_ble_eq_true rfl, Nat.le_of_ble_eq_true rfl⟩ ?_
  show vm_J _ _ _ (34, (0, 0), [.ref 152, .int x, .int y, .int (sp_ab (sp_ch x 0 - sp_ch y 0)), .int (sp_ab (sp_ch x 1 - sp_ch y 1)), .retAddr 0], [.int (sp_ch x 2)]) (G, I, F) _ _
  refine vm_J.go vm_q231 (k := 2) (hs := []) (f' := (36, (0, 0), [.ref 152, .int x, .int y, .int (sp_ab (sp_ch x 0 - sp_ch y 0)), .int (sp_ab (sp_ch x 1 - sp_ch y 1)), .retAddr 0], [.int 2, .int y, .int (sp_ch x 2)])) (h' := (G, I, F)) (hs' := []) rfl rfl ?_
  refine vm_J.call vm_q231 (Z := vm_M170) (n := 2) (k := 1) (mi := 170) (pc := 36) (en := (36, .invokestatic 180, 3, [170, 1348, 0], .null)) rfl trivial rfl rfl vm_z170 (av := [.int y, .int 2]) (rest := [.int (sp_ch x 2)]) (r_channelOf (c := y) (k := 2)) rfl (Nat.le_of_ble_eq_true rfl) ⟨Nat.le_of_ble_eq_true rfl, Nat.le_of_ble_eq_true rfl⟩ ⟨Nat.le_of_ble_eq_true rfl, Nat.le_of_ble_eq_true rfl⟩ ?_
  show vm_J _ _ _ (39, (0, 0), [.ref 152, .int x, .int y, .int (sp_ab (sp_ch x 0 - sp_ch y 0)), .int (sp_ab (sp_ch x 1 - sp_ch y 1)), .retAddr 0], [.int (sp_ch y 2), .int (sp_ch x 2)]) (G, I, F) _ _
  refine vm_J.call vm_q231 (Z := vm_M230) (n := 2) (k := 1) (mi := 230) (pc := 39) (en := (39, .invokestatic 310, 3, [230, 1548, 0], .null)) rfl trivial rfl rfl vm_z230 (av := [.int (sp_ch x 2), .int (sp_ch y 2)]) (rest := []) (r_apart_c (c := x) (d := y) (k := 2)) rfl (Nat.le_of_ble_eq_true rfl) ⟨Nat.le_of_ble_eq_true rfl, Nat.le_of_ble_eq_true rfl⟩ ⟨Nat.le_of_ble_eq_true rfl, Nat.le_of_ble_eq_true rfl⟩ ?_
  show vm_J _ _ _ (42, (0, 0), [.ref 152, .int x, .int y, .int (sp_ab (sp_ch x 0 - sp_ch y 0)), .int (sp_ab (sp_ch x 1 - sp_ch y 1)), .retAddr 0], [.int (sp_ab (sp_ch x 2 - sp_ch y 2))]) (G, I, F) _ _
  refine vm_J.go vm_q231 (k := 4) (hs := [vm_shR]) (f' := (vm_tw 0 [76, 92, 114] 150 (I 152 6), (0, 0), [.ref 152, .int x, .int y, .int (sp_ab (sp_ch x 0 - sp_ch y 0)), .int (sp_ab (sp_ch x 1 - sp_ch y 1)), .int (sp_ab (sp_ch x 2 - sp_ch y 2))], [])) (h' := (G, I, F)) (hs' := []) rfl (vm_b2 rfl (vm_b2 rfl (vm_b2 (vm_b2 (vm_hG hR.c152) rfl) (vm_b2 rfl rfl)))) ?_
  by_cases c1 : (I 152 6) = 0
  · rw [show vm_tw 0 [76, 92, 114] 150 (I 152 6) = 76 from by rw [c1]; rfl]
    refine vm_J.go vm_q231 (k := 11) (hs := []) (f' := (91, (0, 0), [.ref 152, .int x, .int y, .int (sp_ab (sp_ch x 0 - sp_ch y 0)), .int (sp_ab (sp_ch x 1 - sp_ch y 1)), .int (sp_ab (sp_ch x 2 - sp_ch y 2))], [.int ((((sp_ab (sp_ch x 0 - sp_ch y 0)) * (sp_ab (sp_ch x 0 - sp_ch y 0))) + ((sp_ab (sp_ch x 1 - sp_ch y 1)) * (sp_ab (sp_ch x 1 - sp_ch y 1)))) + ((sp_ab (sp_ch x 2 - sp_ch y 2)) * (sp_ab (sp_ch x 2 - sp_ch y 2))))])) (h' := (G, I, F)) (hs' := []) rfl rfl ?_
    exact vm_J.end vm_q231 (en := (91, .ireturn, 1, [], .null)) rfl (by unfold sp_far sp_fr; rw [if_neg (vm_m0 c1).1, if_neg (vm_m0 c1).2.1, if_neg (vm_m0 c1).2.2]; rfl) vm_rI (Nat.zero_le _) (Nat.zero_le _) rfl
  by_cases c2 : (I 152 6) = 1
  · rw [show vm_tw 0 [76, 92, 114] 150 (I 152 6) = 92 from by rw [c2]; rfl]
    refine vm_J.go vm_q231 (k := 17) (hs := []) (f' := (113, (0, 0), [.ref 152, .int x, .int y, .int (sp_ab (sp_ch x 0 - sp_ch y 0)), .int (sp_ab (sp_ch x 1 - sp_ch y 1)), .int (sp_ab (sp_ch x 2 - sp_ch y 2))], [.int ((((2 * (sp_ab (sp_ch x 0 - sp_ch y 0))) * (sp_ab (sp_ch x 0 - sp_ch y 0))) + ((4 * (sp_ab (sp_ch x 1 - sp_ch y 1))) * (sp_ab (sp_ch x 1 - sp_ch y 1)))) + ((3 * (sp_ab (sp_ch x 2 - sp_ch y 2))) * (sp_ab (sp_ch x 2 - sp_ch y 2))))])) (h' := (G, I, F)) (hs' := []) rfl rfl ?_
    exact vm_J.end vm_q231 (en := (113, .ireturn, 1, [], .null)) rfl (by unfold sp_far sp_fr; rw [if_pos c2]; rfl) vm_rI (Nat.zero_le _) (Nat.zero_le _) rfl
  by_cases c3 : (I 152 6) = 2
  · rw [show vm_tw 0 [76, 92, 114] 150 (I 152 6) = 114 from by rw [c3]; rfl]
    refine vm_J.go vm_q231 (k := 3) (hs := []) (f' := (bif vm_ic .le (sp_ab (sp_ch x 0 - sp_ch y 0)) (sp_ab (sp_ch x 1 - sp_ch y 1)) then 135 else 120, (0, 0), [.ref 152, .int x, .int y, .int (sp_ab (sp_ch x 0 - sp_ch y 0)), .int (sp_ab (sp_ch x 1 - sp_ch y 1)), .int (sp_ab (sp_ch x 2 - sp_ch y 2))], [])) (h' := (G, I, F)) (hs' := []) rfl rfl ?_
    refine vm_J.br (fun c4 => ?_) (fun c4 => ?_)
    · have c4 : (sp_ab (sp_ch x 0 - sp_ch y 0)) ≤ (sp_ab (sp_ch x 1 - sp_ch y 1)) := of_decide_eq_true c4
      refine vm_J.go vm_q231 (k := 3) (hs := []) (f' := (bif vm_ic .le (sp_ab (sp_ch x 1 - sp_ch y 1)) (sp_ab (sp_ch x 2 - sp_ch y 2)) then 147 else 142, (0, 0), [.ref 152, .int x, .int y, .int (sp_ab (sp_ch x 0 - sp_ch y 0)), .int (sp_ab (sp_ch x 1 - sp_ch y 1)), .int (sp_ab (sp_ch x 2 - sp_ch y 2))], [])) (h' := (G, I, F)) (hs' := []) rfl rfl ?_
      refine vm_J.br (fun c5 => ?_) (fun c5 => ?_)
      · have c5 : (sp_ab (sp_ch x 1 - sp_ch y 1)) ≤ (sp_ab (sp_ch x 2 - sp_ch y 2)) := of_decide_eq_true c5
        refine vm_J.go vm_q231 (k := 1) (hs := []) (f' := (149, (0, 0), [.ref 152, .int x, .int y, .int (sp_ab (sp_ch x 0 - sp_ch y 0)), .int (sp_ab (sp_ch x 1 - sp_ch y 1)), .int (sp_ab (sp_ch x 2 - sp_ch y 2))], [.int (sp_ab (sp_ch x 2 - sp_ch y 2))])) (h' := (G, I, F)) (hs' := []) rfl rfl ?_
        exact vm_J.end vm_q231 (en := (149, .ireturn, 1, [], .null)) rfl (by unfold sp_far sp_fr; rw [if_neg c2, if_pos c3, vm_mx_3 c4 c5] <;> rfl) vm_rI (Nat.zero_le _) (Nat.zero_le _) rfl
      · have c5 : ¬ ((sp_ab (sp_ch x 1 - sp_ch y 1)) ≤ (sp_ab (sp_ch x 2 - sp_ch y 2))) := of_decide_eq_false c5
        refine vm_J.go vm_q231 (k := 2) (hs := []) (f' := (149, (0, 0), [.ref 152, .int x, .int y, .int (sp_ab (sp_ch x 0 - sp_ch y 0)), .int (sp_ab (sp_ch x 1 - sp_ch y 1)), .int (sp_ab (sp_ch x 2 - sp_ch y 2))], [.int (sp_ab (sp_ch x 1 - sp_ch y 1))])) (h' := (G, I, F)) (hs' := []) rfl rfl ?_
        exact vm_J.end vm_q231 (en := (149, .ireturn, 1, [], .null)) rfl (by unfold sp_far sp_fr; rw [if_neg c2, if_pos c3, vm_mx_2 c4 c5] <;> rfl) vm_rI (Nat.zero_le _) (Nat.zero_le _) rfl
    · have c4 : ¬ ((sp_ab (sp_ch x 0 - sp_ch y 0)) ≤ (sp_ab (sp_ch x 1 - sp_ch y 1))) := of_decide_eq_false c4
      refine vm_J.go vm_q231 (k := 3) (hs := []) (f' := (bif vm_ic .le (sp_ab (sp_ch x 0 - sp_ch y 0)) (sp_ab (sp_ch x 2 - sp_ch y 2)) then 130 else 126, (0, 0), [.ref 152, .int x, .int y, .int (sp_ab (sp_ch x 0 - sp_ch y 0)), .int (sp_ab (sp_ch x 1 - sp_ch y 1)), .int (sp_ab (sp_ch x 2 - sp_ch y 2))], [])) (h' := (G, I, F)) (hs' := []) rfl rfl ?_
      refine vm_J.br (fun c6 => ?_) (fun c6 => ?_)
      · have c6 : (sp_ab (sp_ch x 0 - sp_ch y 0)) ≤ (sp_ab (sp_ch x 2 - sp_ch y 2)) := of_decide_eq_true c6
        refine vm_J.go vm_q231 (k := 2) (hs := []) (f' := (149, (0, 0), [.ref 152, .int x, .int y, .int (sp_ab (sp_ch x 0 - sp_ch y 0)), .int (sp_ab (sp_ch x 1 - sp_ch y 1)), .int (sp_ab (sp_ch x 2 - sp_ch y 2))], [.int (sp_ab (sp_ch x 2 - sp_ch y 2))])) (h' := (G, I, F)) (hs' := []) rfl rfl ?_
        exact vm_J.end vm_q231 (en := (149, .ireturn, 1, [], .null)) rfl (by unfold sp_far sp_fr; rw [if_neg c2, if_pos c3, vm_mx_1 c4 c6] <;> rfl) vm_rI (Nat.zero_le _) (Nat.zero_le _) rfl
      · have c6 : ¬ ((sp_ab (sp_ch x 0 - sp_ch y 0)) ≤ (sp_ab (sp_ch x 2 - sp_ch y 2))) := of_decide_eq_false c6
        refine vm_J.go vm_q231 (k := 2) (hs := []) (f' := (149, (0, 0), [.ref 152, .int x, .int y, .int (sp_ab (sp_ch x 0 - sp_ch y 0)), .int (sp_ab (sp_ch x 1 - sp_ch y 1)), .int (sp_ab (sp_ch x 2 - sp_ch y 2))], [.int (sp_ab (sp_ch x 0 - sp_ch y 0))])) (h' := (G, I, F)) (hs' := []) rfl rfl ?_
        exact vm_J.end vm_q231 (en := (149, .ireturn, 1, [], .null)) rfl (by unfold sp_far sp_fr; rw [if_neg c2, if_pos c3, vm_mx_0 c4 c6] <;> rfl) vm_rI (Nat.zero_le _) (Nat.zero_le _) rfl
  rw [show vm_tw 0 [76, 92, 114] 150 (I 152 6) = 150 from vm_tw_d (fun k hk => by
    have hk : k < 3 := hk
    have : (I 152 6).toInt ≠ 0 := vm_tne c1
    have : (I 152 6).toInt ≠ 1 := vm_tne c2
    have : (I 152 6).toInt ≠ 2 := vm_tne c3
    omega)]
  refine vm_J.go vm_q231 (k := 5) (hs := []) (f' := (157, (0, 0), [.ref 152, .int x, .int y, .int (sp_ab (sp_ch x 0 - sp_ch y 0)), .int (sp_ab (sp_ch x 1 - sp_ch y 1)), .int (sp_ab (sp_ch x 2 - sp_ch y 2))], [.int (((sp_ab (sp_ch x 0 - sp_ch y 0)) + (sp_ab (sp_ch x 1 - sp_ch y 1))) + (sp_ab (sp_ch x 2 - sp_ch y 2)))])) (h' := (G, I, F)) (hs' := []) rfl rfl ?_
  exact vm_J.end vm_q231 (en := (157, .ireturn, 1, [], .null)) rfl (by unfold sp_far sp_fr; rw [if_neg c2, if_neg c3, if_pos (hm.elim (fun z => absurd z c1) (fun z => z.elim (fun z => absurd z c2) (fun z => z.elim (fun z => absurd z c3) id)))]; rfl) vm_rI (Nat.zero_le _) (Nat.zero_le _) rfl
