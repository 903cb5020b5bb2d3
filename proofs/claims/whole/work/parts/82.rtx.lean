set_option maxHeartbeats 4000000 in
set_option maxRecDepth 20000 in
/-- DitherDeskModel.sign -/
theorem r_sign {l : Launch} {X : vm_Cx} {G : List vm_Sh} {I : Nat → Nat → Int32} {F : Nat → Nat → UInt32} {n : Nat} {p : Nat} (hR : vm_isR G) (hn : I 152 25 = nI n) (hp : I 152 26 = nI p) (hn2 : n ≤ 100) (hp2 : p ≤ n) : vm_K l X vm_M220 [.ref 152] (G, I, F) (some (.int (sp_sg (I 165) n p))) (G, I, F) := by
  refine vm_K.mk (by decide) (Nat.le_of_ble_eq_true rfl) ?_
  show vm_J _ _ _ (0, (0, 0), [.ref 152], []) _ _ _
  refine vm_J.go vm_q220 (k := 2) (hs := [vm_shR]) (f' := (4, (0, 0), [.ref 152], [.int (I 152 26)])) (h' := (G, I, F)) (hs' := []) rfl (vm_b2 rfl (vm_b2 (vm_b2 (vm_hG hR.c152) rfl) rfl)) ?_
  rw [(hp : I 152 26 = nI p)]
  refine vm_J.go vm_q220 (k := 2) (hs := [vm_shR]) (f' := (8, (0, 0), [.ref 152], [.int (I 152 25), .int (nI p)])) (h' := (G, I, F)) (hs' := []) rfl (vm_b2 rfl (vm_b2 (vm_b2 (vm_hG hR.c152) rfl) rfl)) ?_
  rw [(hn : I 152 25 = nI n)]
  refine vm_J.go vm_q220 (k := 1) (hs := []) (f' := (bif vm_ic .ge (nI p) (nI n) then 23 else 11, (0, 0), [.ref 152], [])) (h' := (G, I, F)) (hs' := []) rfl rfl ?_
  refine vm_J.br (fun c1 => ?_) (fun c1 => ?_)
  · have c1 := vm_ge_t (a := p) (b := n) (by omega) (by omega) c1
    refine vm_J.go vm_q220 (k := 1) (hs := []) (f' := (24, (0, 0), [.ref 152], [.int (-1)])) (h' := (G, I, F)) (hs' := []) rfl rfl ?_
    exact vm_J.end vm_q220 (en := (24, .ireturn, 1, [], .null)) rfl (by unfold sp_sg; first | (rw [if_pos (by omega)]; rfl) | (rw [if_neg (by omega)]; rfl)) vm_rI (Nat.zero_le _) (Nat.zero_le _) rfl
  · have c1 := vm_ge_f (a := p) (b := n) (by omega) (by omega) c1
    refine vm_J.go vm_q220 (k := 4) (hs := [vm_shR, vm_shR]) (f' := (19, (0, 0), [.ref 152], [.int (I 152 26), .ref 165])) (h' := (G, I, F)) (hs' := []) rfl (vm_b2 rfl (vm_b2 (vm_b2 (vm_hG hR.c152) rfl) (vm_b2 rfl (vm_b2 (vm_b2 (vm_hG hR.c152) rfl) rfl)))) ?_
    rw [(hp : I 152 26 = nI p)]
    refine vm_J.go vm_q220 (k := 2) (hs := [(0, 100, [])]) (f' := (24, (0, 0), [.ref 152], [.int (I 165 (nI p).toNatClampNeg)])) (h' := (G, I, F)) (hs' := []) rfl (vm_b2 (vm_b2 (vm_hG hR.c165) (vm_in_e (j := p) (n := 100) rfl (by omega) (by omega))) (vm_b2 rfl rfl)) ?_
    rw [vm_ix_e (j := p) rfl (by omega)]
    exact vm_J.end vm_q220 (en := (24, .ireturn, 1, [], .null)) rfl (by unfold sp_sg; first | (rw [if_pos (by omega)]; rfl) | (rw [if_neg (by omega)]; rfl)) vm_rI (Nat.zero_le _) (Nat.zero_le _) rfl
set_option maxHeartbeats 4000000 in
set_option maxRecDepth 20000 in
/-- DitherDeskModel.reads -/
theorem r_reads {l : Launch} {X : vm_Cx} {G : List vm_Sh} {I : Nat → Nat → Int32} {F : Nat → Nat → UInt32} {n : Nat} {p : Nat} {c : Int32} (hR : vm_isR G) (hn : I 152 25 = nI n) (hp : I 152 26 = nI p) (hn2 : n ≤ 100) (hp2 : p ≤ n) : vm_K l X vm_M221 [.ref 152, .int c] (G, I, F) (some (.int (vm_bi (sp_sg (I 165) n p = c)))) (G, (vm_up I 152 26 (nI (sp_ps (I 165) n c p))), F) := by
  refine vm_K.mk (by decide) (Nat.le_of_ble_eq_true rfl) ?_
  show vm_J _ _ _ (0, (0, 0), [.ref 152, .int c], []) _ _ _
  refine vm_J.go vm_q221 (k := 1) (hs := []) (f' := (1, (0, 0), [.ref 152, .int c], [.ref 152])) (h' := (G, I, F)) (hs' := []) rfl rfl ?_
  refine vm_J.call vm_q221 (Z := vm_M220) (n := 0) (k := 0) (mi := 220) (pc := 1) (en := (1, .invokevirtual 276, 3, [220, 1512, 0], .null)) rfl trivial rfl rfl vm_z220 (av := [.ref 152]) (rest := []) (r_sign (n := n) (p := p) hR hn hp (by omega) (by omega)) ⟨_, _, rfl, rfl, _, 11, _, hR.c152, rfl, rfl, rfl⟩ (Nat.le_of_ble_eq_true rfl) ⟨Nat.le_of_ble_eq_true rfl, Nat.le_of_ble_eq_true rfl⟩ ⟨Nat.le_of_ble_eq_true rfl, Nat.le_of_ble_eq_true rfl⟩ ?_
  show vm_J _ _ _ (4, (0, 0), [.ref 152, .int c], [.int (sp_sg (I 165) n p)]) (G, I, F) _ _
  refine vm_J.go vm_q221 (k := 2) (hs := []) (f' := (bif vm_ic .eq (sp_sg (I 165) n p) c then 10 else 8, (0, 0), [.ref 152, .int c], [])) (h' := (G, I, F)) (hs' := []) rfl rfl ?_
  refine vm_J.br (fun c1 => ?_) (fun c1 => ?_)
  · have c1 : (sp_sg (I 165) n p) = c := of_decide_eq_true c1
    refine vm_J.go vm_q221 (k := 3) (hs := [vm_shR]) (f' := (15, (0, 0), [.ref 152, .int c], [.int (I 152 26), .ref 152])) (h' := (G, I, F)) (hs' := []) rfl (vm_b2 rfl (vm_b2 rfl (vm_b2 (vm_b2 (vm_hG hR.c152) rfl) rfl))) ?_
    rw [(hp : I 152 26 = nI p)]
    refine vm_J.go vm_q221 (k := 2) (hs := []) (f' := (17, (0, 0), [.ref 152, .int c], [.int ((nI p) + 1), .ref 152])) (h' := (G, I, F)) (hs' := []) rfl rfl ?_
    rw [((vm_pa (rfl : (nI p : Int32) = nI p) (rfl : (1 : Int32) = nI 1)) : (nI p) + 1 = nI (p + 1))]
    refine vm_J.go vm_q221 (k := 2) (hs := [vm_shR]) (f' := (21, (0, 0), [.ref 152, .int c], [.int 1])) (h' := (G, (vm_up I 152 26 (nI (p + 1))), F)) (hs' := []) rfl (vm_b2 (vm_b2 (vm_b2 (vm_hG hR.c152) rfl) rfl) (vm_b2 rfl rfl)) ?_
    exact vm_J.end vm_q221 (en := (21, .ireturn, 1, [], .null)) rfl (by rw [vm_bi_t c1]; rfl) (vm_rZ vm_bi_01) (Nat.zero_le _) (Nat.zero_le _) (by rw [sp_ps_y c1])
  · have c1 : ¬ ((sp_sg (I 165) n p) = c) := of_decide_eq_false c1
    refine vm_J.go vm_q221 (k := 1) (hs := []) (f' := (9, (0, 0), [.ref 152, .int c], [.int 0])) (h' := (G, I, F)) (hs' := []) rfl rfl ?_
    exact vm_J.end vm_q221 (en := (9, .ireturn, 1, [], .null)) rfl (by rw [vm_bi_f c1]; rfl) (vm_rZ vm_bi_01) (Nat.zero_le _) (Nat.zero_le _) (by rw [sp_ps_n c1, vm_up_self _ _ _ hp])
set_option maxHeartbeats 4000000 in
set_option maxRecDepth 20000 in
/-- DitherDeskModel.readsNumber -/
theorem r_number {l : Launch} {X : vm_Cx} {G : List vm_Sh} {I : Nat → Nat → Int32} {F : Nat → Nat → UInt32} {n : Nat} {p : Nat} (hR : vm_isR G) (hn : I 152 25 = nI n) (hp : I 152 26 = nI p) (hn2 : n ≤ 100) (hp2 : p ≤ n) : vm_K l X vm_M222 [.ref 152] (G, I, F) (some (.int (sp_nm (I 165) n p).1)) (G, (vm_up I 152 26 (nI (sp_nm (I 165) n p).2)), F) := by
  refine vm_K.mk (by decide) (Nat.le_of_ble_eq_true rfl) ?_
  show vm_J _ _ _ (0, (0, 0), [.ref 152, .retAddr 0], []) _ _ _
  refine vm_J.go vm_q222 (k := 1) (hs := []) (f' := (1, (0, 0), [.ref 152, .retAddr 0], [.ref 152])) (h' := (G, I, F)) (hs' := []) rfl rfl ?_
  refine vm_J.call vm_q222 (Z := vm_M220) (n := 0) (k := 0) (mi := 220) (pc := 1) (en := (1, .invokevirtual 276, 3, [220, 1512, 0], .null)) rfl trivial rfl rfl vm_z220 (av := [.ref 152]) (rest := []) (r_sign (n := n) (p := p) hR hn hp (by omega) (by omega)) ⟨_, _, rfl, rfl, _, 11, _, hR.c152, rfl, rfl, rfl⟩ (Nat.le_of_ble_eq_true rfl) ⟨Nat.le_of_ble_eq_true rfl, Nat.le_of_ble_eq_true rfl⟩ ⟨Nat.le_of_ble_eq_true rfl, Nat.le_of_ble_eq_true rfl⟩ ?_
  show vm_J _ _ _ (4, (0, 0), [.ref 152, .retAddr 0], [.int (sp_sg (I 165) n p)]) (G, I, F) _ _
  refine vm_J.go vm_q222 (k := 2) (hs := []) (f' := (8, (0, 0), [.ref 152, .retAddr 0], [.int 57, .int 48, .int (sp_sg (I 165) n p)])) (h' := (G, I, F)) (hs' := []) rfl rfl ?_
  refine vm_J.call vm_q222 (Z := vm_M168) (n := 3) (k := 1) (mi := 168) (pc := 8) (en := (8, .invokestatic 141, 3, [168, 1302, 0], .null)) rfl trivial rfl rfl vm_z168 (av := [.int (sp_sg (I 165) n p), .int 48, .int 57]) (rest := []) (r_isIn (v := sp_sg (I 165) n p) (a := 48) (b := 57)) rfl (Nat.le_of_ble_eq_true rfl) ⟨Nat.le_of_ble_eq_true rfl, Nat.le_of_ble_eq_true rfl⟩ ⟨Nat.le_of_ble_eq_true rfl, Nat.le_of_ble_eq_true rfl⟩ ?_
  show vm_J _ _ _ (11, (0, 0), [.ref 152, .retAddr 0], [.int (vm_bi (48 ≤ (sp_sg (I 165) n p) ∧ (sp_sg (I 165) n p) ≤ 57))]) (G, I, F) _ _
  refine vm_J.go vm_q222 (k := 1) (hs := []) (f' := (bif vm_ic .ne (vm_bi (48 ≤ (sp_sg (I 165) n p) ∧ (sp_sg (I 165) n p) ≤ 57)) 0 then 16 else 14, (0, 0), [.ref 152, .retAddr 0], [])) (h' := (G, I, F)) (hs' := []) rfl rfl ?_
  refine vm_J.br (fun c1 => ?_) (fun c1 => ?_)
  · have c1 := vm_bi_ne_t c1
    have hlt := sp_dg_lt (t := I 165) (n := n) c1
    refine vm_J.go vm_q222 (k := 1) (hs := []) (f' := (17, (0, 0), [.ref 152, .retAddr 0], [.ref 152])) (h' := (G, I, F)) (hs' := []) rfl rfl ?_
    refine vm_J.call vm_q222 (Z := vm_M220) (n := 0) (k := 0) (mi := 220) (pc := 17) (en := (17, .invokevirtual 276, 3, [220, 1512, 0], .null)) rfl trivial rfl rfl vm_z220 (av := [.ref 152]) (rest := []) (r_sign (n := n) (p := p) hR hn hp (by omega) (by omega)) ⟨_, _, rfl, rfl, _, 11, _, hR.c152, rfl, rfl, rfl⟩ (Nat.le_of_ble_eq_true rfl) ⟨Nat.le_of_ble_eq_true rfl, Nat.le_of_ble_eq_true rfl⟩ ⟨Nat.le_of_ble_eq_true rfl, Nat.le_of_ble_eq_true rfl⟩ ?_
    show vm_J _ _ _ (20, (0, 0), [.ref 152, .retAddr 0], [.int (sp_sg (I 165) n p)]) (G, I, F) _ _
    refine vm_J.go vm_q222 (k := 6) (hs := [vm_shR]) (f' := (29, (0, 0), [.ref 152, .int ((sp_sg (I 165) n p) - 48)], [.int (I 152 26), .ref 152])) (h' := (G, I, F)) (hs' := []) rfl (vm_b2 rfl (vm_b2 rfl (vm_b2 rfl (vm_b2 rfl (vm_b2 rfl (vm_b2 (vm_b2 (vm_hG hR.c152) rfl) rfl)))))) ?_
    rw [(hp : I 152 26 = nI p)]
    refine vm_J.go vm_q222 (k := 2) (hs := []) (f' := (31, (0, 0), [.ref 152, .int ((sp_sg (I 165) n p) - 48)], [.int ((nI p) + 1), .ref 152])) (h' := (G, I, F)) (hs' := []) rfl rfl ?_
    rw [((vm_pa (rfl : (nI p : Int32) = nI p) (rfl : (1 : Int32) = nI 1)) : (nI p) + 1 = nI (p + 1))]
    refine vm_J.go vm_q222 (k := 2) (hs := [vm_shR]) (f' := (35, (0, 0), [.ref 152, .int ((sp_sg (I 165) n p) - 48)], [.ref 152])) (h' := (G, (vm_up I 152 26 (nI (p + 1))), F)) (hs' := []) rfl (vm_b2 (vm_b2 (vm_b2 (vm_hG hR.c152) rfl) rfl) (vm_b2 rfl rfl)) ?_
    refine vm_J.call vm_q222 (Z := vm_M220) (n := 0) (k := 0) (mi := 220) (pc := 35) (en := (35, .invokevirtual 276, 3, [220, 1512, 0], .null)) rfl trivial rfl rfl vm_z220 (av := [.ref 152]) (rest := []) (r_sign (n := n) (p := p + 1) hR (Eq.trans (vm_up_k2 _ 152 26 _ 25 (by decide)) hn) (vm_up_h _ 152 26 _) (by omega) (by omega)) ⟨_, _, rfl, rfl, _, 11, _, hR.c152, rfl, rfl, rfl⟩ (Nat.le_of_ble_eq_true rfl) ⟨Nat.le_of_ble_eq_true rfl, Nat.le_of_ble_eq_true rfl⟩ ⟨Nat.le_of_ble_eq_true rfl, Nat.le_of_ble_eq_true rfl⟩ ?_
    rw [((vm_up_f _ 152 _ _ 165 (by decide)) : (vm_up I 152 26 (nI (p + 1))) 165 = I 165)]
    show vm_J _ _ _ (38, (0, 0), [.ref 152, .int ((sp_sg (I 165) n p) - 48)], [.int (sp_sg (I 165) n (p + 1))]) (G, (vm_up I 152 26 (nI (p + 1))), F) _ _
    refine vm_J.go vm_q222 (k := 2) (hs := []) (f' := (42, (0, 0), [.ref 152, .int ((sp_sg (I 165) n p) - 48)], [.int 57, .int 48, .int (sp_sg (I 165) n (p + 1))])) (h' := (G, (vm_up I 152 26 (nI (p + 1))), F)) (hs' := []) rfl rfl ?_
    refine vm_J.call vm_q222 (Z := vm_M168) (n := 3) (k := 1) (mi := 168) (pc := 42) (en := (42, .invokestatic 141, 3, [168, 1302, 0], .null)) rfl trivial rfl rfl vm_z168 (av := [.int (sp_sg (I 165) n (p + 1)), .int 48, .int 57]) (rest := []) (r_isIn (v := sp_sg (I 165) n (p + 1)) (a := 48) (b := 57)) rfl (Nat.le_of_ble_eq_true rfl) ⟨Nat.le_of_ble_eq_true rfl, Nat.le_of_ble_eq_true rfl⟩ ⟨Nat.le_of_ble_eq_true rfl, Nat.le_of_ble_eq_true rfl⟩ ?_
    show vm_J _ _ _ (45, (0, 0), [.ref 152, .int ((sp_sg (I 165) n p) - 48)], [.int (vm_bi (48 ≤ (sp_sg (I 165) n (p + 1)) ∧ (sp_sg (I 165) n (p + 1)) ≤ 57))]) (G, (vm_up I 152 26 (nI (p + 1))), F) _ _
    refine vm_J.go vm_q222 (k := 1) (hs := []) (f' := (bif vm_ic .ne (vm_bi (48 ≤ (sp_sg (I 165) n (p + 1)) ∧ (sp_sg (I 165) n (p + 1)) ≤ 57)) 0 then 50 else 48, (0, 0), [.ref 152, .int ((sp_sg (I 165) n p) - 48)], [])) (h' := (G, (vm_up I 152 26 (nI (p + 1))), F)) (hs' := []) rfl rfl ?_
    refine vm_J.br (fun c2 => ?_) (fun c2 => ?_)
    · have c2 := vm_bi_ne_t c2
      refine vm_J.go vm_q222 (k := 4) (hs := []) (f' := (55, (0, 0), [.ref 152, .int ((sp_sg (I 165) n p) - 48)], [.ref 152, .int (10 * ((sp_sg (I 165) n p) - 48))])) (h' := (G, (vm_up I 152 26 (nI (p + 1))), F)) (hs' := []) rfl rfl ?_
      refine vm_J.call vm_q222 (Z := vm_M220) (n := 0) (k := 0) (mi := 220) (pc := 55) (en := (55, .invokevirtual 276, 3, [220, 1512, 0], .null)) rfl trivial rfl rfl vm_z220 (av := [.ref 152]) (rest := [.int (10 * ((sp_sg (I 165) n p) - 48))]) (r_sign (n := n) (p := p + 1) hR (Eq.trans (vm_up_k2 _ 152 26 _ 25 (by decide)) hn) (vm_up_h _ 152 26 _) (by omega) (by omega)) ⟨_, _, rfl, rfl, _, 11, _, hR.c152, rfl, rfl, rfl⟩ (Nat.le_of_ble_eq_true rfl) ⟨Nat.le_of_ble_eq_true rfl, Nat.le_of_ble_eq_true rfl⟩ ⟨Nat.le_of_ble_eq_true rfl, Nat.le_of_ble_eq_true rfl⟩ ?_
      rw [((vm_up_f _ 152 _ _ 165 (by decide)) : (vm_up I 152 26 (nI (p + 1))) 165 = I 165)]
      show vm_J _ _ _ (58, (0, 0), [.ref 152, .int ((sp_sg (I 165) n p) - 48)], [.int (sp_sg (I 165) n (p + 1)), .int (10 * ((sp_sg (I 165) n p) - 48))]) (G, (vm_up I 152 26 (nI (p + 1))), F) _ _
      refine vm_J.go vm_q222 (k := 7) (hs := []) (f' := (bif vm_ic .le (((10 * ((sp_sg (I 165) n p) - 48)) + (sp_sg (I 165) n (p + 1))) - 48) 63 then 71 else 69, (0, 0), [.ref 152, .int (((10 * ((sp_sg (I 165) n p) - 48)) + (sp_sg (I 165) n (p + 1))) - 48)], [])) (h' := (G, (vm_up I 152 26 (nI (p + 1))), F)) (hs' := []) rfl rfl ?_
      refine vm_J.br (fun c3 => ?_) (fun c3 => ?_)
      · have c3 : (((10 * ((sp_sg (I 165) n p) - 48)) + (sp_sg (I 165) n (p + 1))) - 48) ≤ 63 := of_decide_eq_true c3
        refine vm_J.go vm_q222 (k := 3) (hs := [vm_shR]) (f' := (76, (0, 0), [.ref 152, .int (((10 * ((sp_sg (I 165) n p) - 48)) + (sp_sg (I 165) n (p + 1))) - 48)], [.int ((vm_up I 152 26 (nI (p + 1))) 152 26), .ref 152])) (h' := (G, (vm_up I 152 26 (nI (p + 1))), F)) (hs' := []) rfl (vm_b2 rfl (vm_b2 rfl (vm_b2 (vm_b2 (vm_hG hR.c152) rfl) rfl))) ?_
        rw [((vm_up_h _ 152 26 _) : (vm_up I 152 26 (nI (p + 1))) 152 26 = nI (p + 1))]
        refine vm_J.go vm_q222 (k := 2) (hs := []) (f' := (78, (0, 0), [.ref 152, .int (((10 * ((sp_sg (I 165) n p) - 48)) + (sp_sg (I 165) n (p + 1))) - 48)], [.int ((nI (p + 1)) + 1), .ref 152])) (h' := (G, (vm_up I 152 26 (nI (p + 1))), F)) (hs' := []) rfl rfl ?_
        rw [((vm_pa (rfl : (nI (p + 1) : Int32) = nI (p + 1)) (rfl : (1 : Int32) = nI 1)) : (nI (p + 1)) + 1 = nI ((p + 1) + 1))]
        refine vm_J.go vm_q222 (k := 2) (hs := [vm_shR]) (f' := (82, (0, 0), [.ref 152, .int (((10 * ((sp_sg (I 165) n p) - 48)) + (sp_sg (I 165) n (p + 1))) - 48)], [.int (((10 * ((sp_sg (I 165) n p) - 48)) + (sp_sg (I 165) n (p + 1))) - 48)])) (h' := (G, (vm_up (vm_up I 152 26 (nI (p + 1))) 152 26 (nI ((p + 1) + 1))), F)) (hs' := []) rfl (vm_b2 (vm_b2 (vm_b2 (vm_hG hR.c152) rfl) rfl) (vm_b2 rfl rfl)) ?_
        exact vm_J.end vm_q222 (en := (82, .ireturn, 1, [], .null)) rfl (by rw [show sp_nm (I 165) n p = (10 * (sp_sg (I 165) n p - 48) + sp_sg (I 165) n (p + 1) - 48, p + 1 + 1) from (if_pos c1).trans ((if_pos c2).trans (if_pos c3))]; rfl) vm_rI (Nat.zero_le _) (Nat.zero_le _) (by rw [show sp_nm (I 165) n p = (10 * (sp_sg (I 165) n p - 48) + sp_sg (I 165) n (p + 1) - 48, p + 1 + 1) from (if_pos c1).trans ((if_pos c2).trans (if_pos c3)), vm_up_up])
      · have c3 : ¬ ((((10 * ((sp_sg (I 165) n p) - 48)) + (sp_sg (I 165) n (p + 1))) - 48) ≤ 63) := of_decide_eq_false c3
        refine vm_J.go vm_q222 (k := 1) (hs := []) (f' := (70, (0, 0), [.ref 152, .int (((10 * ((sp_sg (I 165) n p) - 48)) + (sp_sg (I 165) n (p + 1))) - 48)], [.int (-1)])) (h' := (G, (vm_up I 152 26 (nI (p + 1))), F)) (hs' := []) rfl rfl ?_
        exact vm_J.end vm_q222 (en := (70, .ireturn, 1, [], .null)) rfl (by rw [show sp_nm (I 165) n p = (-1, p + 1) from (if_pos c1).trans ((if_pos c2).trans (if_neg c3))]; rfl) vm_rI (Nat.zero_le _) (Nat.zero_le _) (by rw [show sp_nm (I 165) n p = (-1, p + 1) from (if_pos c1).trans ((if_pos c2).trans (if_neg c3))])
    · have c2 := vm_bi_ne_f c2
      refine vm_J.go vm_q222 (k := 1) (hs := []) (f' := (49, (0, 0), [.ref 152, .int ((sp_sg (I 165) n p) - 48)], [.int ((sp_sg (I 165) n p) - 48)])) (h' := (G, (vm_up I 152 26 (nI (p + 1))), F)) (hs' := []) rfl rfl ?_
      exact vm_J.end vm_q222 (en := (49, .ireturn, 1, [], .null)) rfl (by rw [show sp_nm (I 165) n p = (sp_sg (I 165) n p - 48, p + 1) from (if_pos c1).trans (if_neg c2)]; rfl) vm_rI (Nat.zero_le _) (Nat.zero_le _) (by rw [show sp_nm (I 165) n p = (sp_sg (I 165) n p - 48, p + 1) from (if_pos c1).trans (if_neg c2)])
  · have c1 := vm_bi_ne_f c1
    refine vm_J.go vm_q222 (k := 1) (hs := []) (f' := (15, (0, 0), [.ref 152, .retAddr 0], [.int (-1)])) (h' := (G, I, F)) (hs' := []) rfl rfl ?_
    exact vm_J.end vm_q222 (en := (15, .ireturn, 1, [], .null)) rfl (by rw [show sp_nm (I 165) n p = (-1, p) from if_neg c1]; rfl) vm_rI (Nat.zero_le _) (Nat.zero_le _) (by rw [show sp_nm (I 165) n p = (-1, p) from if_neg c1, vm_up_self _ _ _ hp])
/-- a colour is read, by the reference: whether, what has been read of it, where the reading stands then -/
def vr_pl (t : Nat → Int32) (n : Nat) (v : Int32) (p : Nat) : (Int32 × Int32) × Nat :=
  if sp_sg t n p = 44 then
    if 0 ≤ (sp_nm t n (sp_ps t n 44 p)).1 then ((1, 64 * v + (sp_nm t n (sp_ps t n 44 p)).1), (sp_nm t n (sp_ps t n 44 p)).2) else ((0, v), (sp_nm t n (sp_ps t n 44 p)).2)
  else ((0, v), sp_ps t n 44 p)
def vr_pm (t : Nat → Int32) (n : Nat) (v : Int32) (p : Nat) : (Int32 × Int32) × Nat :=
  if sp_sg t n p = 44 then
    if 0 ≤ (sp_nm t n (sp_ps t n 44 p)).1 then vr_pl t n (64 * v + (sp_nm t n (sp_ps t n 44 p)).1) (sp_nm t n (sp_ps t n 44 p)).2 else ((0, v), (sp_nm t n (sp_ps t n 44 p)).2)
  else ((0, v), sp_ps t n 44 p)
def vr_pc (t : Nat → Int32) (n p : Nat) : (Int32 × Int32) × Nat :=
  if 0 ≤ (sp_nm t n p).1 then vr_pm t n (64 * 0 + (sp_nm t n p).1) (sp_nm t n p).2 else ((0, 0), (sp_nm t n p).2)
theorem vr_pl_c {t : Nat → Int32} {n p : Nat} {v : Int32} (hp : p ≤ n) : (vr_pl t n v p).2 ≤ n ∧ ((vr_pl t n v p).1.1 = 0 ∨ (vr_pl t n v p).1.1 = 1) := by
  have h1 := sp_ps_le (t := t) (s := 44) (by decide) hp
  have h2 := sp_nm_le (t := t) h1
  unfold vr_pl
  split
  · split
    · exact ⟨h2, Or.inr rfl⟩
    · exact ⟨h2, Or.inl rfl⟩
  · exact ⟨h1, Or.inl rfl⟩
theorem vr_pm_c {t : Nat → Int32} {n p : Nat} {v : Int32} (hp : p ≤ n) : (vr_pm t n v p).2 ≤ n ∧ ((vr_pm t n v p).1.1 = 0 ∨ (vr_pm t n v p).1.1 = 1) := by
  have h1 := sp_ps_le (t := t) (s := 44) (by decide) hp
  have h2 := sp_nm_le (t := t) h1
  unfold vr_pm
  split
  · split
    · exact vr_pl_c h2
    · exact ⟨h2, Or.inl rfl⟩
  · exact ⟨h1, Or.inl rfl⟩
theorem vr_pc_c {t : Nat → Int32} {n p : Nat} (hp : p ≤ n) : (vr_pc t n p).2 ≤ n ∧ ((vr_pc t n p).1.1 = 0 ∨ (vr_pc t n p).1.1 = 1) := by
  have h2 := sp_nm_le (t := t) hp
  unfold vr_pc
  split
  · exact vr_pm_c h2
  · exact ⟨h2, Or.inl rfl⟩
set_option maxHeartbeats 4000000 in
set_option maxRecDepth 20000 in
/-- DitherDeskModel.readsColour -/
theorem r_colour {l : Launch} {X : vm_Cx} {G : List vm_Sh} {I : Nat → Nat → Int32} {F : Nat → Nat → UInt32} {n : Nat} {p : Nat} (hR : vm_isR G) (hn : I 152 25 = nI n) (hp : I 152 26 = nI p) (hn2 : n ≤ 100) (hp2 : p ≤ n) : vm_K l X vm_M223 [.ref 152] (G, I, F) (some (.int (vr_pc (I 165) n p).1.1)) (G, (vm_up (vm_up I 152 28 (vr_pc (I 165) n p).1.2) 152 26 (nI (vr_pc (I 165) n p).2)), F) := by
  refine vm_K.mk (by decide) (Nat.le_of_ble_eq_true rfl) ?_
  show vm_J _ _ _ (0, (0, 0), [.ref 152, .retAddr 0, .retAddr 0], []) _ _ _
  refine vm_J.go vm_q223 (k := 5) (hs := [vm_shR]) (f' := (7, (0, 0), [.ref 152, .int 0, .retAddr 0], [])) (h' := (G, (vm_up I 152 28 0), F)) (hs' := []) rfl (vm_b2 rfl (vm_b2 rfl (vm_b2 (vm_b2 (vm_b2 (vm_hG hR.c152) rfl) rfl) (vm_b2 rfl (vm_b2 rfl rfl))))) ?_
  refine vm_J.go vm_q223 (k := 3) (hs := []) (f' := (bif vm_ic .ge 0 3 then 57 else 12, (0, 0), [.ref 152, .int 0, .retAddr 0], [])) (h' := (G, (vm_up I 152 28 0), F)) (hs' := []) rfl rfl ?_
  refine vm_J.bF (by decide) ?_
  refine vm_J.go vm_q223 (k := 2) (hs := []) (f' := (bif vm_ic .le 0 0 then 27 else 16, (0, 0), [.ref 152, .int 0, .retAddr 0], [])) (h' := (G, (vm_up I 152 28 0), F)) (hs' := []) rfl rfl ?_
  refine vm_J.bT (by decide) ?_
  refine vm_J.go vm_q223 (k := 1) (hs := []) (f' := (28, (0, 0), [.ref 152, .int 0, .retAddr 0], [.ref 152])) (h' := (G, (vm_up I 152 28 0), F)) (hs' := []) rfl rfl ?_
  refine vm_J.call vm_q223 (Z := vm_M222) (n := 0) (k := 0) (mi := 222) (pc := 28) (en := (28, .invokevirtual 285, 3, [222, 1516, 0], .null)) rfl trivial rfl rfl vm_z222 (av := [.ref 152]) (rest := []) (r_number (n := n) (p := p) hR (Eq.trans (vm_up_k2 _ 152 28 _ 25 (by decide)) hn) (Eq.trans (vm_up_k2 _ 152 28 _ 26 (by decide)) hp) (by omega) (by omega)) ⟨_, _, rfl, rfl, _, 11, _, hR.c152, rfl, rfl, rfl⟩ (Nat.le_of_ble_eq_true rfl) ⟨Nat.le_of_ble_eq_true rfl, Nat.le_of_ble_eq_true rfl⟩ ⟨Nat.le_of_ble_eq_true rfl, Nat.le_of_ble_eq_true rfl⟩ ?_
  rw [((vm_up_f _ 152 _ _ 165 (by decide)) : (vm_up I 152 28 0) 165 = I 165)]
  have c1 := sp_nm_le (t := I 165) (n := n) (p := p) (by omega)
  show vm_J _ _ _ (31, (0, 0), [.ref 152, .int 0, .retAddr 0], [.int ((sp_nm (I 165) n p).1)]) (G, (vm_up (vm_up I 152 28 0) 152 26 (nI (sp_nm (I 165) n p).2)), F) _ _
  refine vm_J.go vm_q223 (k := 3) (hs := []) (f' := (bif vm_ic .ge ((sp_nm (I 165) n p).1) 0 then 38 else 36, (0, 0), [.ref 152, .int 0, .int ((sp_nm (I 165) n p).1)], [])) (h' := (G, (vm_up (vm_up I 152 28 0) 152 26 (nI (sp_nm (I 165) n p).2)), F)) (hs' := []) rfl rfl ?_
  refine vm_J.br (fun c2 => ?_) (fun c2 => ?_)
  · have c2 : 0 ≤ ((sp_nm (I 165) n p).1) := of_decide_eq_true c2
    refine vm_J.go vm_q223 (k := 4) (hs := [vm_shR]) (f' := (45, (0, 0), [.ref 152, .int 0, .int ((sp_nm (I 165) n p).1)], [.int ((vm_up (vm_up I 152 28 0) 152 26 (nI (sp_nm (I 165) n p).2)) 152 28), .int 64, .ref 152])) (h' := (G, (vm_up (vm_up I 152 28 0) 152 26 (nI (sp_nm (I 165) n p).2)), F)) (hs' := []) rfl (vm_b2 rfl (vm_b2 rfl (vm_b2 rfl (vm_b2 (vm_b2 (vm_hG hR.c152) rfl) rfl)))) ?_
    rw [((Eq.trans (vm_up_k2 _ 152 26 _ 28 (by decide)) (vm_up_h _ 152 28 _)) : (vm_up (vm_up I 152 28 0) 152 26 (nI (sp_nm (I 165) n p).2)) 152 28 = 0)]
    refine vm_J.go vm_q223 (k := 6) (hs := [vm_shR]) (f' := (7, (0, 0), [.ref 152, .int (0 + 1), .int ((sp_nm (I 165) n p).1)], [])) (h' := (G, (vm_up (vm_up (vm_up I 152 28 0) 152 26 (nI (sp_nm (I 165) n p).2)) 152 28 ((64 * 0) + ((sp_nm (I 165) n p).1))), F)) (hs' := []) rfl (vm_b2 rfl (vm_b2 rfl (vm_b2 rfl (vm_b2 (vm_b2 (vm_b2 (vm_hG hR.c152) rfl) rfl) (vm_b2 rfl (vm_b2 rfl rfl)))))) ?_
    rw [(show (0 + 1 : Int32) = 1 from by decide)]
    rw [vm_up_c _ 152 26 152 28 _ _ (Or.inr (by decide)), vm_up_up]
    show vm_J _ _ _ (7, (0, 0), [.ref 152, .int 1, .int ((sp_nm (I 165) n p).1)], []) (G, (vm_up (vm_up I 152 28 ((64 * 0) + ((sp_nm (I 165) n p).1))) 152 26 (nI (sp_nm (I 165) n p).2)), F) _ _
    refine vm_J.go vm_q223 (k := 3) (hs := []) (f' := (bif vm_ic .ge 1 3 then 57 else 12, (0, 0), [.ref 152, .int 1, .int ((sp_nm (I 165) n p).1)], [])) (h' := (G, (vm_up (vm_up I 152 28 ((64 * 0) + ((sp_nm (I 165) n p).1))) 152 26 (nI (sp_nm (I 165) n p).2)), F)) (hs' := []) rfl rfl ?_
    refine vm_J.bF (by decide) ?_
    refine vm_J.go vm_q223 (k := 2) (hs := []) (f' := (bif vm_ic .le 1 0 then 27 else 16, (0, 0), [.ref 152, .int 1, .int ((sp_nm (I 165) n p).1)], [])) (h' := (G, (vm_up (vm_up I 152 28 ((64 * 0) + ((sp_nm (I 165) n p).1))) 152 26 (nI (sp_nm (I 165) n p).2)), F)) (hs' := []) rfl rfl ?_
    refine vm_J.bF (by decide) ?_
    refine vm_J.go vm_q223 (k := 2) (hs := []) (f' := (19, (0, 0), [.ref 152, .int 1, .int ((sp_nm (I 165) n p).1)], [.int 44, .ref 152])) (h' := (G, (vm_up (vm_up I 152 28 ((64 * 0) + ((sp_nm (I 165) n p).1))) 152 26 (nI (sp_nm (I 165) n p).2)), F)) (hs' := []) rfl rfl ?_
    refine vm_J.call vm_q223 (Z := vm_M221) (n := 1) (k := 0) (mi := 221) (pc := 19) (en := (19, .invokevirtual 282, 3, [221, 1508, 0], .null)) rfl trivial rfl rfl vm_z221 (av := [.ref 152, .int 44]) (rest := []) (r_reads (n := n) (p := (sp_nm (I 165) n p).2) (c := 44) hR (Eq.trans (vm_up_k2 _ 152 26 _ 25 (by decide)) (Eq.trans (vm_up_k2 _ 152 28 _ 25 (by decide)) hn)) (vm_up_h _ 152 26 _) (by omega) (by omega)) ⟨_, _, rfl, rfl, _, 11, _, hR.c152, rfl, rfl, rfl⟩ (Nat.le_of_ble_eq_true rfl) ⟨Nat.le_of_ble_eq_true rfl, Nat.le_of_ble_eq_true rfl⟩ ⟨Nat.le_of_ble_eq_true rfl, Nat.le_of_ble_eq_true rfl⟩ ?_
    rw [((Eq.trans (vm_up_f _ 152 _ _ 165 (by decide)) (vm_up_f _ 152 _ _ 165 (by decide))) : (vm_up (vm_up I 152 28 ((64 * 0) + ((sp_nm (I 165) n p).1))) 152 26 (nI (sp_nm (I 165) n p).2)) 165 = I 165)]
    rw [vm_up_up]
    have c3 := sp_ps_le (t := I 165) (n := n) (s := 44) (p := (sp_nm (I 165) n p).2) (by decide) (by omega)
    show vm_J _ _ _ (22, (0, 0), [.ref 152, .int 1, .int ((sp_nm (I 165) n p).1)], [.int (vm_bi (sp_sg (I 165) n ((sp_nm (I 165) n p).2) = 44))]) (G, (vm_up (vm_up I 152 28 ((64 * 0) + ((sp_nm (I 165) n p).1))) 152 26 (nI (sp_ps (I 165) n 44 ((sp_nm (I 165) n p).2)))), F) _ _
    refine vm_J.go vm_q223 (k := 1) (hs := []) (f' := (bif vm_ic .ne (vm_bi (sp_sg (I 165) n ((sp_nm (I 165) n p).2) = 44)) 0 then 27 else 25, (0, 0), [.ref 152, .int 1, .int ((sp_nm (I 165) n p).1)], [])) (h' := (G, (vm_up (vm_up I 152 28 ((64 * 0) + ((sp_nm (I 165) n p).1))) 152 26 (nI (sp_ps (I 165) n 44 ((sp_nm (I 165) n p).2)))), F)) (hs' := []) rfl rfl ?_
    refine vm_J.br (fun c4 => ?_) (fun c4 => ?_)
    · have c4 := vm_bi_ne_t c4
      refine vm_J.go vm_q223 (k := 1) (hs := []) (f' := (28, (0, 0), [.ref 152, .int 1, .int ((sp_nm (I 165) n p).1)], [.ref 152])) (h' := (G, (vm_up (vm_up I 152 28 ((64 * 0) + ((sp_nm (I 165) n p).1))) 152 26 (nI (sp_ps (I 165) n 44 ((sp_nm (I 165) n p).2)))), F)) (hs' := []) rfl rfl ?_
      refine vm_J.call vm_q223 (Z := vm_M222) (n := 0) (k := 0) (mi := 222) (pc := 28) (en := (28, .invokevirtual 285, 3, [222, 1516, 0], .null)) rfl trivial rfl rfl vm_z222 (av := [.ref 152]) (rest := []) (r_number (n := n) (p := sp_ps (I 165) n 44 ((sp_nm (I 165) n p).2)) hR (Eq.trans (vm_up_k2 _ 152 26 _ 25 (by decide)) (Eq.trans (vm_up_k2 _ 152 28 _ 25 (by decide)) hn)) (vm_up_h _ 152 26 _) (by omega) (by omega)) ⟨_, _, rfl, rfl, _, 11, _, hR.c152, rfl, rfl, rfl⟩ (Nat.le_of_ble_eq_true rfl) ⟨Nat.le_of_ble_eq_true rfl, Nat.le_of_ble_eq_true rfl⟩ ⟨Nat.le_of_ble_eq_true rfl, Nat.le_of_ble_eq_true rfl⟩ ?_
      rw [((Eq.trans (vm_up_f _ 152 _ _ 165 (by decide)) (vm_up_f _ 152 _ _ 165 (by decide))) : (vm_up (vm_up I 152 28 ((64 * 0) + ((sp_nm (I 165) n p).1))) 152 26 (nI (sp_ps (I 165) n 44 ((sp_nm (I 165) n p).2)))) 165 = I 165)]
      rw [vm_up_up]
      have c5 := sp_nm_le (t := I 165) (n := n) (p := sp_ps (I 165) n 44 ((sp_nm (I 165) n p).2)) (by omega)
      show vm_J _ _ _ (31, (0, 0), [.ref 152, .int 1, .int ((sp_nm (I 165) n p).1)], [.int ((sp_nm (I 165) n (sp_ps (I 165) n 44 ((sp_nm (I 165) n p).2))).1)]) (G, (vm_up (vm_up I 152 28 ((64 * 0) + ((sp_nm (I 165) n p).1))) 152 26 (nI (sp_nm (I 165) n (sp_ps (I 165) n 44 ((sp_nm (I 165) n p).2))).2)), F) _ _
      refine vm_J.go vm_q223 (k := 3) (hs := []) (f' := (bif vm_ic .ge ((sp_nm (I 165) n (sp_ps (I 165) n 44 ((sp_nm (I 165) n p).2))).1) 0 then 38 else 36, (0, 0), [.ref 152, .int 1, .int ((sp_nm (I 165) n (sp_ps (I 165) n 44 ((sp_nm (I 165) n p).2))).1)], [])) (h' := (G, (vm_up (vm_up I 152 28 ((64 * 0) + ((sp_nm (I 165) n p).1))) 152 26 (nI (sp_nm (I 165) n (sp_ps (I 165) n 44 ((sp_nm (I 165) n p).2))).2)), F)) (hs' := []) rfl rfl ?_
      refine vm_J.br (fun c6 => ?_) (fun c6 => ?_)
      · have c6 : 0 ≤ ((sp_nm (I 165) n (sp_ps (I 165) n 44 ((sp_nm (I 165) n p).2))).1) := of_decide_eq_true c6
        refine vm_J.go vm_q223 (k := 4) (hs := [vm_shR]) (f' := (45, (0, 0), [.ref 152, .int 1, .int ((sp_nm (I 165) n (sp_ps (I 165) n 44 ((sp_nm (I 165) n p).2))).1)], [.int ((vm_up (vm_up I 152 28 ((64 * 0) + ((sp_nm (I 165) n p).1))) 152 26 (nI (sp_nm (I 165) n (sp_ps (I 165) n 44 ((sp_nm (I 165) n p).2))).2)) 152 28), .int 64, .ref 152])) (h' := (G, (vm_up (vm_up I 152 28 ((64 * 0) + ((sp_nm (I 165) n p).1))) 152 26 (nI (sp_nm (I 165) n (sp_ps (I 165) n 44 ((sp_nm (I 165) n p).2))).2)), F)) (hs' := []) rfl (vm_b2 rfl (vm_b2 rfl (vm_b2 rfl (vm_b2 (vm_b2 (vm_hG hR.c152) rfl) rfl)))) ?_
        rw [((Eq.trans (vm_up_k2 _ 152 26 _ 28 (by decide)) (vm_up_h _ 152 28 _)) : (vm_up (vm_up I 152 28 ((64 * 0) + ((sp_nm (I 165) n p).1))) 152 26 (nI (sp_nm (I 165) n (sp_ps (I 165) n 44 ((sp_nm (I 165) n p).2))).2)) 152 28 = (64 * 0) + ((sp_nm (I 165) n p).1))]
        refine vm_J.go vm_q223 (k := 6) (hs := [vm_shR]) (f' := (7, (0, 0), [.ref 152, .int (1 + 1), .int ((sp_nm (I 165) n (sp_ps (I 165) n 44 ((sp_nm (I 165) n p).2))).1)], [])) (h' := (G, (vm_up (vm_up (vm_up I 152 28 ((64 * 0) + ((sp_nm (I 165) n p).1))) 152 26 (nI (sp_nm (I 165) n (sp_ps (I 165) n 44 ((sp_nm (I 165) n p).2))).2)) 152 28 ((64 * ((64 * 0) + ((sp_nm (I 165) n p).1))) + ((sp_nm (I 165) n (sp_ps (I 165) n 44 ((sp_nm (I 165) n p).2))).1))), F)) (hs' := []) rfl (vm_b2 rfl (vm_b2 rfl (vm_b2 rfl (vm_b2 (vm_b2 (vm_b2 (vm_hG hR.c152) rfl) rfl) (vm_b2 rfl (vm_b2 rfl rfl)))))) ?_
        rw [(show (1 + 1 : Int32) = 2 from by decide)]
        rw [vm_up_c _ 152 26 152 28 _ _ (Or.inr (by decide)), vm_up_up]
        show vm_J _ _ _ (7, (0, 0), [.ref 152, .int 2, .int ((sp_nm (I 165) n (sp_ps (I 165) n 44 ((sp_nm (I 165) n p).2))).1)], []) (G, (vm_up (vm_up I 152 28 ((64 * ((64 * 0) + ((sp_nm (I 165) n p).1))) + ((sp_nm (I 165) n (sp_ps (I 165) n 44 ((sp_nm (I 165) n p).2))).1))) 152 26 (nI (sp_nm (I 165) n (sp_ps (I 165) n 44 ((sp_nm (I 165) n p).2))).2)), F) _ _
        refine vm_J.go vm_q223 (k := 3) (hs := []) (f' := (bif vm_ic .ge 2 3 then 57 else 12, (0, 0), [.ref 152, .int 2, .int ((sp_nm (I 165) n (sp_ps (I 165) n 44 ((sp_nm (I 165) n p).2))).1)], [])) (h' := (G, (vm_up (vm_up I 152 28 ((64 * ((64 * 0) + ((sp_nm (I 165) n p).1))) + ((sp_nm (I 165) n (sp_ps (I 165) n 44 ((sp_nm (I 165) n p).2))).1))) 152 26 (nI (sp_nm (I 165) n (sp_ps (I 165) n 44 ((sp_nm (I 165) n p).2))).2)), F)) (hs' := []) rfl rfl ?_
        refine vm_J.bF (by decide) ?_
        refine vm_J.go vm_q223 (k := 2) (hs := []) (f' := (bif vm_ic .le 2 0 then 27 else 16, (0, 0), [.ref 152, .int 2, .int ((sp_nm (I 165) n (sp_ps (I 165) n 44 ((sp_nm (I 165) n p).2))).1)], [])) (h' := (G, (vm_up (vm_up I 152 28 ((64 * ((64 * 0) + ((sp_nm (I 165) n p).1))) + ((sp_nm (I 165) n (sp_ps (I 165) n 44 ((sp_nm (I 165) n p).2))).1))) 152 26 (nI (sp_nm (I 165) n (sp_ps (I 165) n 44 ((sp_nm (I 165) n p).2))).2)), F)) (hs' := []) rfl rfl ?_
        refine vm_J.bF (by decide) ?_
        refine vm_J.go vm_q223 (k := 2) (hs := []) (f' := (19, (0, 0), [.ref 152, .int 2, .int ((sp_nm (I 165) n (sp_ps (I 165) n 44 ((sp_nm (I 165) n p).2))).1)], [.int 44, .ref 152])) (h' := (G, (vm_up (vm_up I 152 28 ((64 * ((64 * 0) + ((sp_nm (I 165) n p).1))) + ((sp_nm (I 165) n (sp_ps (I 165) n 44 ((sp_nm (I 165) n p).2))).1))) 152 26 (nI (sp_nm (I 165) n (sp_ps (I 165) n 44 ((sp_nm (I 165) n p).2))).2)), F)) (hs' := []) rfl rfl ?_
        refine vm_J.call vm_q223 (Z := vm_M221) (n := 1) (k := 0) (mi := 221) (pc := 19) (en := (19, .invokevirtual 282, 3, [221, 1508, 0], .null)) rfl trivial rfl rfl vm_z221 (av := [.ref 152, .int 44]) (rest := []) (r_reads (n := n) (p := (sp_nm (I 165) n (sp_ps (I 165) n 44 ((sp_nm (I 165) n p).2))).2) (c := 44) hR (Eq.trans (vm_up_k2 _ 152 26 _ 25 (by decide)) (Eq.trans (vm_up_k2 _ 152 28 _ 25 (by decide)) hn)) (vm_up_h _ 152 26 _) (by omega) (by omega)) ⟨_, _, rfl, rfl, _, 11, _, hR.c152, rfl, rfl, rfl⟩ (Nat.le_of_ble_eq_true rfl) ⟨Nat.le_of_ble_eq_true rfl, Nat.le_of_ble_eq_true rfl⟩ ⟨Nat.le_of_ble_eq_true rfl, Nat.le_of_ble_eq_true rfl⟩ ?_
        rw [((Eq.trans (vm_up_f _ 152 _ _ 165 (by decide)) (vm_up_f _ 152 _ _ 165 (by decide))) : (vm_up (vm_up I 152 28 ((64 * ((64 * 0) + ((sp_nm (I 165) n p).1))) + ((sp_nm (I 165) n (sp_ps (I 165) n 44 ((sp_nm (I 165) n p).2))).1))) 152 26 (nI (sp_nm (I 165) n (sp_ps (I 165) n 44 ((sp_nm (I 165) n p).2))).2)) 165 = I 165)]
        rw [vm_up_up]
        have c7 := sp_ps_le (t := I 165) (n := n) (s := 44) (p := (sp_nm (I 165) n (sp_ps (I 165) n 44 ((sp_nm (I 165) n p).2))).2) (by decide) (by omega)
        show vm_J _ _ _ (22, (0, 0), [.ref 152, .int 2, .int ((sp_nm (I 165) n (sp_ps (I 165) n 44 ((sp_nm (I 165) n p).2))).1)], [.int (vm_bi (sp_sg (I 165) n ((sp_nm (I 165) n (sp_ps (I 165) n 44 ((sp_nm (I 165) n p).2))).2) = 44))]) (G, (vm_up (vm_up I 152 28 ((64 * ((64 * 0) + ((sp_nm (I 165) n p).1))) + ((sp_nm (I 165) n (sp_ps (I 165) n 44 ((sp_nm (I 165) n p).2))).1))) 152 26 (nI (sp_ps (I 165) n 44 ((sp_nm (I 165) n (sp_ps (I 165) n 44 ((sp_nm (I 165) n p).2))).2)))), F) _ _
        refine vm_J.go vm_q223 (k := 1) (hs := []) (f' := (bif vm_ic .ne (vm_bi (sp_sg (I 165) n ((sp_nm (I 165) n (sp_ps (I 165) n 44 ((sp_nm (I 165) n p).2))).2) = 44)) 0 then 27 else 25, (0, 0), [.ref 152, .int 2, .int ((sp_nm (I 165) n (sp_ps (I 165) n 44 ((sp_nm (I 165) n p).2))).1)], [])) (h' := (G, (vm_up (vm_up I 152 28 ((64 * ((64 * 0) + ((sp_nm (I 165) n p).1))) + ((sp_nm (I 165) n (sp_ps (I 165) n 44 ((sp_nm (I 165) n p).2))).1))) 152 26 (nI (sp_ps (I 165) n 44 ((sp_nm (I 165) n (sp_ps (I 165) n 44 ((sp_nm (I 165) n p).2))).2)))), F)) (hs' := []) rfl rfl ?_
        refine vm_J.br (fun c8 => ?_) (fun c8 => ?_)
        · have c8 := vm_bi_ne_t c8
          refine vm_J.go vm_q223 (k := 1) (hs := []) (f' := (28, (0, 0), [.ref 152, .int 2, .int ((sp_nm (I 165) n (sp_ps (I 165) n 44 ((sp_nm (I 165) n p).2))).1)], [.ref 152])) (h' := (G, (vm_up (vm_up I 152 28 ((64 * ((64 * 0) + ((sp_nm (I 165) n p).1))) + ((sp_nm (I 165) n (sp_ps (I 165) n 44 ((sp_nm (I 165) n p).2))).1))) 152 26 (nI (sp_ps (I 165) n 44 ((sp_nm (I 165) n (sp_ps (I 165) n 44 ((sp_nm (I 165) n p).2))).2)))), F)) (hs' := []) rfl rfl ?_
          refine vm_J.call vm_q223 (Z := vm_M222) (n := 0) (k := 0) (mi := 222) (pc := 28) (en := (28, .invokevirtual 285, 3, [222, 1516, 0], .null)) rfl trivial rfl rfl vm_z222 (av := [.ref 152]) (rest := []) (r_number (n := n) (p := sp_ps (I 165) n 44 ((sp_nm (I 165) n (sp_ps (I 165) n 44 ((sp_nm (I 165) n p).2))).2)) hR (Eq.trans (vm_up_k2 _ 152 26 _ 25 (by decide)) (Eq.trans (vm_up_k2 _ 152 28 _ 25 (by decide)) hn)) (vm_up_h _ 152 26 _) (by omega) (by omega)) ⟨_, _, rfl, rfl, _, 11, _, hR.c152, rfl, rfl, rfl⟩ (Nat.le_of_ble_eq_true rfl) ⟨Nat.le_of_ble_eq_true rfl, Nat.le_of_ble_eq_true rfl⟩ ⟨Nat.le_of_ble_eq_true rfl, Nat.le_of_ble_eq_true rfl⟩ ?_
          rw [((Eq.trans (vm_up_f _ 152 _ _ 165 (by decide)) (vm_up_f _ 152 _ _ 165 (by decide))) : (vm_up (vm_up I 152 28 ((64 * ((64 * 0) + ((sp_nm (I 165) n p).1))) + ((sp_nm (I 165) n (sp_ps (I 165) n 44 ((sp_nm (I 165) n p).2))).1))) 152 26 (nI (sp_ps (I 165) n 44 ((sp_nm (I 165) n (sp_ps (I 165) n 44 ((sp_nm (I 165) n p).2))).2)))) 165 = I 165)]
          rw [vm_up_up]
          have c9 := sp_nm_le (t := I 165) (n := n) (p := sp_ps (I 165) n 44 ((sp_nm (I 165) n (sp_ps (I 165) n 44 ((sp_nm (I 165) n p).2))).2)) (by omega)
          show vm_J _ _ _ (31, (0, 0), [.ref 152, .int 2, .int ((sp_nm (I 165) n (sp_ps (I 165) n 44 ((sp_nm (I 165) n p).2))).1)], [.int ((sp_nm (I 165) n (sp_ps (I 165) n 44 ((sp_nm (I 165) n (sp_ps (I 165) n 44 ((sp_nm (I 165) n p).2))).2))).1)]) (G, (vm_up (vm_up I 152 28 ((64 * ((64 * 0) + ((sp_nm (I 165) n p).1))) + ((sp_nm (I 165) n (sp_ps (I 165) n 44 ((sp_nm (I 165) n p).2))).1))) 152 26 (nI (sp_nm (I 165) n (sp_ps (I 165) n 44 ((sp_nm (I 165) n (sp_ps (I 165) n 44 ((sp_nm (I 165) n p).2))).2))).2)), F) _ _
          refine vm_J.go vm_q223 (k := 3) (hs := []) (f' := (bif vm_ic .ge ((sp_nm (I 165) n (sp_ps (I 165) n 44 ((sp_nm (I 165) n (sp_ps (I 165) n 44 ((sp_nm (I 165) n p).2))).2))).1) 0 then 38 else 36, (0, 0), [.ref 152, .int 2, .int ((sp_nm (I 165) n (sp_ps (I 165) n 44 ((sp_nm (I 165) n (sp_ps (I 165) n 44 ((sp_nm (I 165) n p).2))).2))).1)], [])) (h' := (G, (vm_up (vm_up I 152 28 ((64 * ((64 * 0) + ((sp_nm (I 165) n p).1))) + ((sp_nm (I 165) n (sp_ps (I 165) n 44 ((sp_nm (I 165) n p).2))).1))) 152 26 (nI (sp_nm (I 165) n (sp_ps (I 165) n 44 ((sp_nm (I 165) n (sp_ps (I 165) n 44 ((sp_nm (I 165) n p).2))).2))).2)), F)) (hs' := []) rfl rfl ?_
          refine vm_J.br (fun c10 => ?_) (fun c10 => ?_)
          · have c10 : 0 ≤ ((sp_nm (I 165) n (sp_ps (I 165) n 44 ((sp_nm (I 165) n (sp_ps (I 165) n 44 ((sp_nm (I 165) n p).2))).2))).1) := of_decide_eq_true c10
            refine vm_J.go vm_q223 (k := 4) (hs := [vm_shR]) (f' := (45, (0, 0), [.ref 152, .int 2, .int ((sp_nm (I 165) n (sp_ps (I 165) n 44 ((sp_nm (I 165) n (sp_ps (I 165) n 44 ((sp_nm (I 165) n p).2))).2))).1)], [.int ((vm_up (vm_up I 152 28 ((64 * ((64 * 0) + ((sp_nm (I 165) n p).1))) + ((sp_nm (I 165) n (sp_ps (I 165) n 44 ((sp_nm (I 165) n p).2))).1))) 152 26 (nI (sp_nm (I 165) n (sp_ps (I 165) n 44 ((sp_nm (I 165) n (sp_ps (I 165) n 44 ((sp_nm (I 165) n p).2))).2))).2)) 152 28), .int 64, .ref 152])) (h' := (G, (vm_up (vm_up I 152 28 ((64 * ((64 * 0) + ((sp_nm (I 165) n p).1))) + ((sp_nm (I 165) n (sp_ps (I 165) n 44 ((sp_nm (I 165) n p).2))).1))) 152 26 (nI (sp_nm (I 165) n (sp_ps (I 165) n 44 ((sp_nm (I 165) n (sp_ps (I 165) n 44 ((sp_nm (I 165) n p).2))).2))).2)), F)) (hs' := []) rfl (vm_b2 rfl (vm_b2 rfl (vm_b2 rfl (vm_b2 (vm_b2 (vm_hG hR.c152) rfl) rfl)))) ?_
            rw [((Eq.trans (vm_up_k2 _ 152 26 _ 28 (by decide)) (vm_up_h _ 152 28 _)) : (vm_up (vm_up I 152 28 ((64 * ((64 * 0) + ((sp_nm (I 165) n p).1))) + ((sp_nm (I 165) n (sp_ps (I 165) n 44 ((sp_nm (I 165) n p).2))).1))) 152 26 (nI (sp_nm (I 165) n (sp_ps (I 165) n 44 ((sp_nm (I 165) n (sp_ps (I 165) n 44 ((sp_nm (I 165) n p).2))).2))).2)) 152 28 = (64 * ((64 * 0) + ((sp_nm (I 165) n p).1))) + ((sp_nm (I 165) n (sp_ps (I 165) n 44 ((sp_nm (I 165) n p).2))).1))]
            refine vm_J.go vm_q223 (k := 6) (hs := [vm_shR]) (f' := (7, (0, 0), [.ref 152, .int (2 + 1), .int ((sp_nm (I 165) n (sp_ps (I 165) n 44 ((sp_nm (I 165) n (sp_ps (I 165) n 44 ((sp_nm (I 165) n p).2))).2))).1)], [])) (h' := (G, (vm_up (vm_up (vm_up I 152 28 ((64 * ((64 * 0) + ((sp_nm (I 165) n p).1))) + ((sp_nm (I 165) n (sp_ps (I 165) n 44 ((sp_nm (I 165) n p).2))).1))) 152 26 (nI (sp_nm (I 165) n (sp_ps (I 165) n 44 ((sp_nm (I 165) n (sp_ps (I 165) n 44 ((sp_nm (I 165) n p).2))).2))).2)) 152 28 ((64 * ((64 * ((64 * 0) + ((sp_nm (I 165) n p).1))) + ((sp_nm (I 165) n (sp_ps (I 165) n 44 ((sp_nm (I 165) n p).2))).1))) + ((sp_nm (I 165) n (sp_ps (I 165) n 44 ((sp_nm (I 165) n (sp_ps (I 165) n 44 ((sp_nm (I 165) n p).2))).2))).1))), F)) (hs' := []) rfl (vm_b2 rfl (vm_b2 rfl (vm_b2 rfl (vm_b2 (vm_b2 (vm_b2 (vm_hG hR.c152) rfl) rfl) (vm_b2 rfl (vm_b2 rfl rfl)))))) ?_
            rw [(show (2 + 1 : Int32) = 3 from by decide)]
            rw [vm_up_c _ 152 26 152 28 _ _ (Or.inr (by decide)), vm_up_up]
            show vm_J _ _ _ (7, (0, 0), [.ref 152, .int 3, .int ((sp_nm (I 165) n (sp_ps (I 165) n 44 ((sp_nm (I 165) n (sp_ps (I 165) n 44 ((sp_nm (I 165) n p).2))).2))).1)], []) (G, (vm_up (vm_up I 152 28 ((64 * ((64 * ((64 * 0) + ((sp_nm (I 165) n p).1))) + ((sp_nm (I 165) n (sp_ps (I 165) n 44 ((sp_nm (I 165) n p).2))).1))) + ((sp_nm (I 165) n (sp_ps (I 165) n 44 ((sp_nm (I 165) n (sp_ps (I 165) n 44 ((sp_nm (I 165) n p).2))).2))).1))) 152 26 (nI (sp_nm (I 165) n (sp_ps (I 165) n 44 ((sp_nm (I 165) n (sp_ps (I 165) n 44 ((sp_nm (I 165) n p).2))).2))).2)), F) _ _
            refine vm_J.go vm_q223 (k := 3) (hs := []) (f' := (bif vm_ic .ge 3 3 then 57 else 12, (0, 0), [.ref 152, .int 3, .int ((sp_nm (I 165) n (sp_ps (I 165) n 44 ((sp_nm (I 165) n (sp_ps (I 165) n 44 ((sp_nm (I 165) n p).2))).2))).1)], [])) (h' := (G, (vm_up (vm_up I 152 28 ((64 * ((64 * ((64 * 0) + ((sp_nm (I 165) n p).1))) + ((sp_nm (I 165) n (sp_ps (I 165) n 44 ((sp_nm (I 165) n p).2))).1))) + ((sp_nm (I 165) n (sp_ps (I 165) n 44 ((sp_nm (I 165) n (sp_ps (I 165) n 44 ((sp_nm (I 165) n p).2))).2))).1))) 152 26 (nI (sp_nm (I 165) n (sp_ps (I 165) n 44 ((sp_nm (I 165) n (sp_ps (I 165) n 44 ((sp_nm (I 165) n p).2))).2))).2)), F)) (hs' := []) rfl rfl ?_
            refine vm_J.bT (by decide) ?_
            refine vm_J.go vm_q223 (k := 1) (hs := []) (f' := (58, (0, 0), [.ref 152, .int 3, .int ((sp_nm (I 165) n (sp_ps (I 165) n 44 ((sp_nm (I 165) n (sp_ps (I 165) n 44 ((sp_nm (I 165) n p).2))).2))).1)], [.int 1])) (h' := (G, (vm_up (vm_up I 152 28 ((64 * ((64 * ((64 * 0) + ((sp_nm (I 165) n p).1))) + ((sp_nm (I 165) n (sp_ps (I 165) n 44 ((sp_nm (I 165) n p).2))).1))) + ((sp_nm (I 165) n (sp_ps (I 165) n 44 ((sp_nm (I 165) n (sp_ps (I 165) n 44 ((sp_nm (I 165) n p).2))).2))).1))) 152 26 (nI (sp_nm (I 165) n (sp_ps (I 165) n 44 ((sp_nm (I 165) n (sp_ps (I 165) n 44 ((sp_nm (I 165) n p).2))).2))).2)), F)) (hs' := []) rfl rfl ?_
            exact vm_J.end vm_q223 (en := (58, .ireturn, 1, [], .null)) rfl (by rw [show vr_pc (I 165) n p = ((1, ((64 * ((64 * ((64 * 0) + ((sp_nm (I 165) n p).1))) + ((sp_nm (I 165) n (sp_ps (I 165) n 44 ((sp_nm (I 165) n p).2))).1))) + ((sp_nm (I 165) n (sp_ps (I 165) n 44 ((sp_nm (I 165) n (sp_ps (I 165) n 44 ((sp_nm (I 165) n p).2))).2))).1))), (sp_nm (I 165) n (sp_ps (I 165) n 44 ((sp_nm (I 165) n (sp_ps (I 165) n 44 ((sp_nm (I 165) n p).2))).2))).2) from ((if_pos c2).trans ((if_pos c4).trans ((if_pos c6).trans ((if_pos c8).trans (if_pos c10)))))]; rfl) (vm_rZ (vr_pc_c hp2).2) (Nat.zero_le _) (Nat.zero_le _) (by rw [show vr_pc (I 165) n p = ((1, ((64 * ((64 * ((64 * 0) + ((sp_nm (I 165) n p).1))) + ((sp_nm (I 165) n (sp_ps (I 165) n 44 ((sp_nm (I 165) n p).2))).1))) + ((sp_nm (I 165) n (sp_ps (I 165) n 44 ((sp_nm (I 165) n (sp_ps (I 165) n 44 ((sp_nm (I 165) n p).2))).2))).1))), (sp_nm (I 165) n (sp_ps (I 165) n 44 ((sp_nm (I 165) n (sp_ps (I 165) n 44 ((sp_nm (I 165) n p).2))).2))).2) from ((if_pos c2).trans ((if_pos c4).trans ((if_pos c6).trans ((if_pos c8).trans (if_pos c10)))))])
          · have c10 : ¬ (0 ≤ ((sp_nm (I 165) n (sp_ps (I 165) n 44 ((sp_nm (I 165) n (sp_ps (I 165) n 44 ((sp_nm (I 165) n p).2))).2))).1)) := of_decide_eq_false c10
            refine vm_J.go vm_q223 (k := 1) (hs := []) (f' := (37, (0, 0), [.ref 152, .int 2, .int ((sp_nm (I 165) n (sp_ps (I 165) n 44 ((sp_nm (I 165) n (sp_ps (I 165) n 44 ((sp_nm (I 165) n p).2))).2))).1)], [.int 0])) (h' := (G, (vm_up (vm_up I 152 28 ((64 * ((64 * 0) + ((sp_nm (I 165) n p).1))) + ((sp_nm (I 165) n (sp_ps (I 165) n 44 ((sp_nm (I 165) n p).2))).1))) 152 26 (nI (sp_nm (I 165) n (sp_ps (I 165) n 44 ((sp_nm (I 165) n (sp_ps (I 165) n 44 ((sp_nm (I 165) n p).2))).2))).2)), F)) (hs' := []) rfl rfl ?_
            exact vm_J.end vm_q223 (en := (37, .ireturn, 1, [], .null)) rfl (by rw [show vr_pc (I 165) n p = ((0, ((64 * ((64 * 0) + ((sp_nm (I 165) n p).1))) + ((sp_nm (I 165) n (sp_ps (I 165) n 44 ((sp_nm (I 165) n p).2))).1))), (sp_nm (I 165) n (sp_ps (I 165) n 44 ((sp_nm (I 165) n (sp_ps (I 165) n 44 ((sp_nm (I 165) n p).2))).2))).2) from ((if_pos c2).trans ((if_pos c4).trans ((if_pos c6).trans ((if_pos c8).trans (if_neg c10)))))]; rfl) (vm_rZ (vr_pc_c hp2).2) (Nat.zero_le _) (Nat.zero_le _) (by rw [show vr_pc (I 165) n p = ((0, ((64 * ((64 * 0) + ((sp_nm (I 165) n p).1))) + ((sp_nm (I 165) n (sp_ps (I 165) n 44 ((sp_nm (I 165) n p).2))).1))), (sp_nm (I 165) n (sp_ps (I 165) n 44 ((sp_nm (I 165) n (sp_ps (I 165) n 44 ((sp_nm (I 165) n p).2))).2))).2) from ((if_pos c2).trans ((if_pos c4).trans ((if_pos c6).trans ((if_pos c8).trans (if_neg c10)))))])
        · have c8 := vm_bi_ne_f c8
          refine vm_J.go vm_q223 (k := 1) (hs := []) (f' := (26, (0, 0), [.ref 152, .int 2, .int ((sp_nm (I 165) n (sp_ps (I 165) n 44 ((sp_nm (I 165) n p).2))).1)], [.int 0])) (h' := (G, (vm_up (vm_up I 152 28 ((64 * ((64 * 0) + ((sp_nm (I 165) n p).1))) + ((sp_nm (I 165) n (sp_ps (I 165) n 44 ((sp_nm (I 165) n p).2))).1))) 152 26 (nI (sp_ps (I 165) n 44 ((sp_nm (I 165) n (sp_ps (I 165) n 44 ((sp_nm (I 165) n p).2))).2)))), F)) (hs' := []) rfl rfl ?_
          exact vm_J.end vm_q223 (en := (26, .ireturn, 1, [], .null)) rfl (by rw [show vr_pc (I 165) n p = ((0, ((64 * ((64 * 0) + ((sp_nm (I 165) n p).1))) + ((sp_nm (I 165) n (sp_ps (I 165) n 44 ((sp_nm (I 165) n p).2))).1))), (sp_ps (I 165) n 44 ((sp_nm (I 165) n (sp_ps (I 165) n 44 ((sp_nm (I 165) n p).2))).2))) from ((if_pos c2).trans ((if_pos c4).trans ((if_pos c6).trans (if_neg c8))))]; rfl) (vm_rZ (vr_pc_c hp2).2) (Nat.zero_le _) (Nat.zero_le _) (by rw [show vr_pc (I 165) n p = ((0, ((64 * ((64 * 0) + ((sp_nm (I 165) n p).1))) + ((sp_nm (I 165) n (sp_ps (I 165) n 44 ((sp_nm (I 165) n p).2))).1))), (sp_ps (I 165) n 44 ((sp_nm (I 165) n (sp_ps (I 165) n 44 ((sp_nm (I 165) n p).2))).2))) from ((if_pos c2).trans ((if_pos c4).trans ((if_pos c6).trans (if_neg c8))))])
      · have c6 : ¬ (0 ≤ ((sp_nm (I 165) n (sp_ps (I 165) n 44 ((sp_nm (I 165) n p).2))).1)) := of_decide_eq_false c6
        refine vm_J.go vm_q223 (k := 1) (hs := []) (f' := (37, (0, 0), [.ref 152, .int 1, .int ((sp_nm (I 165) n (sp_ps (I 165) n 44 ((sp_nm (I 165) n p).2))).1)], [.int 0])) (h' := (G, (vm_up (vm_up I 152 28 ((64 * 0) + ((sp_nm (I 165) n p).1))) 152 26 (nI (sp_nm (I 165) n (sp_ps (I 165) n 44 ((sp_nm (I 165) n p).2))).2)), F)) (hs' := []) rfl rfl ?_
        exact vm_J.end vm_q223 (en := (37, .ireturn, 1, [], .null)) rfl (by rw [show vr_pc (I 165) n p = ((0, ((64 * 0) + ((sp_nm (I 165) n p).1))), (sp_nm (I 165) n (sp_ps (I 165) n 44 ((sp_nm (I 165) n p).2))).2) from ((if_pos c2).trans ((if_pos c4).trans (if_neg c6)))]; rfl) (vm_rZ (vr_pc_c hp2).2) (Nat.zero_le _) (Nat.zero_le _) (by rw [show vr_pc (I 165) n p = ((0, ((64 * 0) + ((sp_nm (I 165) n p).1))), (sp_nm (I 165) n (sp_ps (I 165) n 44 ((sp_nm (I 165) n p).2))).2) from ((if_pos c2).trans ((if_pos c4).trans (if_neg c6)))])
    · have c4 := vm_bi_ne_f c4
      refine vm_J.go vm_q223 (k := 1) (hs := []) (f' := (26, (0, 0), [.ref 152, .int 1, .int ((sp_nm (I 165) n p).1)], [.int 0])) (h' := (G, (vm_up (vm_up I 152 28 ((64 * 0) + ((sp_nm (I 165) n p).1))) 152 26 (nI (sp_ps (I 165) n 44 ((sp_nm (I 165) n p).2)))), F)) (hs' := []) rfl rfl ?_
      exact vm_J.end vm_q223 (en := (26, .ireturn, 1, [], .null)) rfl (by rw [show vr_pc (I 165) n p = ((0, ((64 * 0) + ((sp_nm (I 165) n p).1))), (sp_ps (I 165) n 44 ((sp_nm (I 165) n p).2))) from ((if_pos c2).trans (if_neg c4))]; rfl) (vm_rZ (vr_pc_c hp2).2) (Nat.zero_le _) (Nat.zero_le _) (by rw [show vr_pc (I 165) n p = ((0, ((64 * 0) + ((sp_nm (I 165) n p).1))), (sp_ps (I 165) n 44 ((sp_nm (I 165) n p).2))) from ((if_pos c2).trans (if_neg c4))])
  · have c2 : ¬ (0 ≤ ((sp_nm (I 165) n p).1)) := of_decide_eq_false c2
    refine vm_J.go vm_q223 (k := 1) (hs := []) (f' := (37, (0, 0), [.ref 152, .int 0, .int ((sp_nm (I 165) n p).1)], [.int 0])) (h' := (G, (vm_up (vm_up I 152 28 0) 152 26 (nI (sp_nm (I 165) n p).2)), F)) (hs' := []) rfl rfl ?_
    exact vm_J.end vm_q223 (en := (37, .ireturn, 1, [], .null)) rfl (by rw [show vr_pc (I 165) n p = ((0, 0), (sp_nm (I 165) n p).2) from (if_neg c2)]; rfl) (vm_rZ (vr_pc_c hp2).2) (Nat.zero_le _) (Nat.zero_le _) (by rw [show vr_pc (I 165) n p = ((0, 0), (sp_nm (I 165) n p).2) from (if_neg c2)])
