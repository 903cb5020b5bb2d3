set_option maxHeartbeats 4000000 in
set_option maxRecDepth 20000 in
/-- DitherDesk$Cutter.middleOf  -/
theorem m_Cu_middle {l : Launch} {X : vm_Cx} {G : List vm_Sh} {I : Nat → Nat → Int32} {F : Nat → Nat → UInt32} {C b x y : Nat} (hC : vm_isC G C) (hb : G[b]? = some (2, 6, [.int 0, .int 0, .int 0, .int 0, .int 0, .int 0])) (hx : I b 0 = nI x) (hy : I b 1 = nI y) (hy2 : y ≤ 144) (hxy : x < y) : vm_K l X vm_M15 [.ref C, .ref b] (G, I, F) (some (.int (if sp_fi (fun t => I b 2 ≤ 2 * sp_sum (fun i => I (C + 2) (x + i)) (t + 1)) (y - 1 - x) < y - 1 - x then nI (x + sp_fi (fun t => I b 2 ≤ 2 * sp_sum (fun i => I (C + 2) (x + i)) (t + 1)) (y - 1 - x) + 1) else nI (y - 1)))) (G, I, F) := by
  refine vm_K.mk (by decide) (Nat.le_of_ble_eq_true rfl) ?_
  show vm_J _ _ _ (0, (0, 0), [.ref C, .ref b, .retAddr 0, .retAddr 0], []) _ _ _
  refine vm_J.go vm_q15 (k := 5) (hs := [(2, 6, [.int 0, .int 0, .int 0, .int 0, .int 0, .int 0])]) (f' := (7, (0, 0), [.ref C, .ref b, .int 0, .int (I b 0)], [])) (h' := (G, I, F)) (hs' := []) rfl (vm_b2 rfl (vm_b2 rfl (vm_b2 rfl (vm_b2 (vm_b2 (vm_hG hb) rfl) (vm_b2 rfl rfl))))) ?_
  rw [(hx : I b 0 = nI x)]
  refine vm_J.cnt (y - 1 - x) (fun j => (7, (0, 0), [.ref C, .ref b, .int (sp_sum (fun i => I (C + 2) (x + i)) j), .int (nI (x + j))], [])) (fun j => (G, I, F)) (fun j => ∀ t, t < j → ¬ I b 2 ≤ 2 * sp_sum (fun i => I (C + 2) (x + i)) (t + 1)) rfl rfl vm_all0 (fun j hj pj ij => ?_) (fun pj => ?_)
  · show vm_J _ _ _ (7, (0, 0), [.ref C, .ref b, .int (sp_sum (fun i => I (C + 2) (x + i)) j), .int (nI (x + j))], []) (G, I, F) _ _
    refine vm_J.go vm_q15 (k := 6) (hs := [(2, 6, [.int 0, .int 0, .int 0, .int 0, .int 0, .int 0])]) (f' := (bif vm_ic .ge (nI (x + j)) ((I b 1) - 1) then 48 else 17, (0, 0), [.ref C, .ref b, .int (sp_sum (fun i => I (C + 2) (x + i)) j), .int (nI (x + j))], [])) (h' := (G, I, F)) (hs' := []) rfl (vm_b2 rfl (vm_b2 rfl (vm_b2 (vm_b2 (vm_hG hb) rfl) (vm_b2 rfl (vm_b2 rfl (vm_b2 rfl rfl)))))) ?_
    refine vm_J.br (fun c1 => ?_) (fun c1 => ?_)
    · rw [((vm_ps hy (rfl : (1 : Int32) = nI 1) (by omega)) : (I b 1) - 1 = nI (y - 1))] at c1
      have c1 := vm_ge_t (a := x + j) (b := y - 1) (by omega) (by omega) c1
      exact (show False by omega).elim
    · rw [((vm_ps hy (rfl : (1 : Int32) = nI 1) (by omega)) : (I b 1) - 1 = nI (y - 1))] at c1
      have c1 := vm_ge_f (a := x + j) (b := y - 1) (by omega) (by omega) c1
      refine vm_J.go vm_q15 (k := 4) (hs := [(3, 5, [.ref (C + 1), .ref (C + 2), .int 0, .ref (C + 3), .int 0])]) (f' := (23, (0, 0), [.ref C, .ref b, .int (sp_sum (fun i => I (C + 2) (x + i)) j), .int (nI (x + j))], [.int (nI (x + j)), .ref (C + 2), .int (sp_sum (fun i => I (C + 2) (x + i)) j)])) (h' := (G, I, F)) (hs' := []) rfl (vm_b2 rfl (vm_b2 rfl (vm_b2 (vm_b2 (vm_hG hC.1) rfl) (vm_b2 rfl rfl)))) ?_
      refine vm_J.call vm_q15 (Z := vm_M152) (n := 2) (k := 1) (mi := 152) (pc := 23) (en := (23, .invokestatic 35, 3, [152, 505, 1], .null)) rfl trivial rfl rfl vm_z152 (av := [.ref (C + 2), .int (nI (x + j))]) (rest := [.int (sp_sum (fun i => I (C + 2) (x + i)) j)]) (m_at_n (j := x + j) hC.2.2.1 (by omega) (by omega)) rfl (Nat.le_of_ble_eq_true rfl) ⟨Nat.le_of_ble_eq_true rfl, Nat.le_of_ble_eq_true rfl⟩ ⟨Nat.le_of_ble_eq_true rfl, Nat.le_of_ble_eq_true rfl⟩ ?_
      show vm_J _ _ _ (26, (0, 0), [.ref C, .ref b, .int (sp_sum (fun i => I (C + 2) (x + i)) j), .int (nI (x + j))], [.int (I (C + 2) (x + j)), .int (sp_sum (fun i => I (C + 2) (x + i)) j)]) (G, I, F) _ _
      refine vm_J.go vm_q15 (k := 8) (hs := [(2, 6, [.int 0, .int 0, .int 0, .int 0, .int 0, .int 0])]) (f' := (bif vm_ic .lt (2 * ((sp_sum (fun i => I (C + 2) (x + i)) j) + (I (C + 2) (x + j)))) (I b 2) then 42 else 38, (0, 0), [.ref C, .ref b, .int ((sp_sum (fun i => I (C + 2) (x + i)) j) + (I (C + 2) (x + j))), .int (nI (x + j))], [])) (h' := (G, I, F)) (hs' := []) rfl (vm_b2 rfl (vm_b2 rfl (vm_b2 rfl (vm_b2 rfl (vm_b2 rfl (vm_b2 rfl (vm_b2 (vm_b2 (vm_hG hb) rfl) (vm_b2 rfl rfl)))))))) ?_
      refine vm_J.br (fun c2 => ?_) (fun c2 => ?_)
      · have c2 : (2 * ((sp_sum (fun i => I (C + 2) (x + i)) j) + (I (C + 2) (x + j)))) < (I b 2) := of_decide_eq_true c2
        refine vm_J.go vm_q15 (k := 2) (hs := []) (f' := (7, (0, 0), [.ref C, .ref b, .int ((sp_sum (fun i => I (C + 2) (x + i)) j) + (I (C + 2) (x + j))), .int ((nI (x + j)) + 1)], [])) (h' := (G, I, F)) (hs' := []) rfl rfl ?_
        rw [((vm_pa (rfl : nI (x + j) = nI (x + j)) (rfl : (1 : Int32) = nI 1)) : (nI (x + j)) + 1 = nI (x + j + 1))]
        exact ij (vm_alls (p := fun t => ¬ I b 2 ≤ 2 * sp_sum (fun i => I (C + 2) (x + i)) (t + 1)) pj (fun z => vm_le_ng z c2))
      · have c2 : ¬ ((2 * ((sp_sum (fun i => I (C + 2) (x + i)) j) + (I (C + 2) (x + j)))) < (I b 2)) := of_decide_eq_false c2
        refine vm_J.go vm_q15 (k := 3) (hs := []) (f' := (41, (0, 0), [.ref C, .ref b, .int ((sp_sum (fun i => I (C + 2) (x + i)) j) + (I (C + 2) (x + j))), .int (nI (x + j))], [.int ((nI (x + j)) + 1)])) (h' := (G, I, F)) (hs' := []) rfl rfl ?_
        rw [((vm_pa (rfl : (nI (x + j) : Int32) = nI (x + j)) (rfl : (1 : Int32) = nI 1)) : (nI (x + j)) + 1 = nI ((x + j) + 1))]
        exact vm_J.end vm_q15 (en := (41, .ireturn, 1, [], .null)) rfl (by rw [sp_fi_hit (p := (fun t => I b 2 ≤ 2 * sp_sum (fun i => I (C + 2) (x + i)) (t + 1))) hj pj (vm_nlt_le c2), if_pos hj]; rfl) vm_rI (Nat.zero_le _) (Nat.zero_le _) rfl
  · show vm_J _ _ _ (7, (0, 0), [.ref C, .ref b, .int (sp_sum (fun i => I (C + 2) (x + i)) (y - 1 - x)), .int (nI (x + (y - 1 - x)))], []) (G, I, F) _ _
    refine vm_J.go vm_q15 (k := 6) (hs := [(2, 6, [.int 0, .int 0, .int 0, .int 0, .int 0, .int 0])]) (f' := (bif vm_ic .ge (nI (x + (y - 1 - x))) ((I b 1) - 1) then 48 else 17, (0, 0), [.ref C, .ref b, .int (sp_sum (fun i => I (C + 2) (x + i)) (y - 1 - x)), .int (nI (x + (y - 1 - x)))], [])) (h' := (G, I, F)) (hs' := []) rfl (vm_b2 rfl (vm_b2 rfl (vm_b2 (vm_b2 (vm_hG hb) rfl) (vm_b2 rfl (vm_b2 rfl (vm_b2 rfl rfl)))))) ?_
    refine vm_J.br (fun c3 => ?_) (fun c3 => ?_)
    · rw [((vm_ps hy (rfl : (1 : Int32) = nI 1) (by omega)) : (I b 1) - 1 = nI (y - 1))] at c3
      have c3 := vm_ge_t (a := x + (y - 1 - x)) (b := y - 1) (by omega) (by omega) c3
      refine vm_J.go vm_q15 (k := 4) (hs := [(2, 6, [.int 0, .int 0, .int 0, .int 0, .int 0, .int 0])]) (f' := (54, (0, 0), [.ref C, .ref b, .int (sp_sum (fun i => I (C + 2) (x + i)) (y - 1 - x)), .int (nI (x + (y - 1 - x)))], [.int ((I b 1) - 1)])) (h' := (G, I, F)) (hs' := []) rfl (vm_b2 rfl (vm_b2 (vm_b2 (vm_hG hb) rfl) (vm_b2 rfl (vm_b2 rfl rfl)))) ?_
      rw [((vm_ps hy (rfl : (1 : Int32) = nI 1) (by omega)) : (I b 1) - 1 = nI (y - 1))]
      exact vm_J.end vm_q15 (en := (54, .ireturn, 1, [], .null)) rfl (by rw [sp_fi_none (p := (fun t => I b 2 ≤ 2 * sp_sum (fun i => I (C + 2) (x + i)) (t + 1))) pj, if_neg (Nat.lt_irrefl _)]; rfl) vm_rI (Nat.zero_le _) (Nat.zero_le _) rfl
    · rw [((vm_ps hy (rfl : (1 : Int32) = nI 1) (by omega)) : (I b 1) - 1 = nI (y - 1))] at c3
      have c3 := vm_ge_f (a := x + (y - 1 - x)) (b := y - 1) (by omega) (by omega) c3
      exact (show False by omega).elim
def sp_cs (I : Nat → Nat → Int32) (C x n : Nat) (k : Int32) : Int32 := sp_sum (fun t => sp_ch (I (C + 1) (x + t)) k * I (C + 2) (x + t)) n
def sp_cm (I : Nat → Nat → Int32) (C x n : Nat) (p : Int32) : Nat → Int32
  | 0 => 0
  | c + 1 => sp_cm I C x n p c * 64 + sp_rd (sp_cs I C x n (nI c)) p
set_option maxHeartbeats 4000000 in
set_option maxRecDepth 20000 in
/-- DitherDesk$Cutter.meanOf  -/
theorem m_Cu_mean {l : Launch} {X : vm_Cx} {G : List vm_Sh} {I : Nat → Nat → Int32} {F : Nat → Nat → UInt32} {C b x y : Nat} (hC : vm_isC G C) (hb : G[b]? = some (2, 6, [.int 0, .int 0, .int 0, .int 0, .int 0, .int 0])) (hx : I b 0 = nI x) (hy : I b 1 = nI y) (hy2 : y ≤ 144) (hxy : x ≤ y) : vm_K l X vm_M18 [.ref C, .ref b] (G, I, F) (some (.int (sp_cm I C x (y - x) (I b 2) 3))) (G, I, F) := by
  refine vm_K.mk (by decide) (Nat.le_of_ble_eq_true rfl) ?_
  show vm_J _ _ _ (0, (0, 0), [.ref C, .ref b, .retAddr 0, .retAddr 0, .retAddr 0, .retAddr 0], []) _ _ _
  refine vm_J.go vm_q18 (k := 4) (hs := []) (f' := (4, (0, 0), [.ref C, .ref b, .int 0, .int 0, .retAddr 0, .retAddr 0], [])) (h' := (G, I, F)) (hs' := []) rfl rfl ?_
  refine vm_J.cnt 3 (fun c => (4, (0, 0), [.ref C, .ref b, .int (sp_cm I C x (y - x) (I b 2) c), .int (nI c), .retAddr 0, .retAddr 0], [])) (fun c => (G, I, F)) (fun _ => True) rfl rfl trivial (fun c hc pc ic => ?_) (fun pc => ?_)
  · show vm_J _ _ _ (4, (0, 0), [.ref C, .ref b, .int (sp_cm I C x (y - x) (I b 2) c), .int (nI c), .retAddr 0, .retAddr 0], []) (G, I, F) _ _
    refine vm_J.go vm_q18 (k := 3) (hs := []) (f' := (bif vm_ic .ge (nI c) 3 then 82 else 9, (0, 0), [.ref C, .ref b, .int (sp_cm I C x (y - x) (I b 2) c), .int (nI c), .retAddr 0, .retAddr 0], [])) (h' := (G, I, F)) (hs' := []) rfl rfl ?_
    refine vm_J.br (fun c1 => ?_) (fun c1 => ?_)
    · have c1 := vm_ge_t (a := c) (b := 3) (by omega) (by omega) c1
      exact (show False by omega).elim
    · have c1 := vm_ge_f (a := c) (b := 3) (by omega) (by omega) c1
      refine vm_J.go vm_q18 (k := 5) (hs := [(2, 6, [.int 0, .int 0, .int 0, .int 0, .int 0, .int 0])]) (f' := (18, (0, 0), [.ref C, .ref b, .int (sp_cm I C x (y - x) (I b 2) c), .int (nI c), .int 0, .int (I b 0)], [])) (h' := (G, I, F)) (hs' := []) rfl (vm_b2 rfl (vm_b2 rfl (vm_b2 rfl (vm_b2 (vm_b2 (vm_hG hb) rfl) (vm_b2 rfl rfl))))) ?_
      rw [(hx : I b 0 = nI x)]
      refine vm_J.cnt (y - x) (fun t => (18, (0, 0), [.ref C, .ref b, .int (sp_cm I C x (y - x) (I b 2) c), .int (nI c), .int (sp_cs I C x t (nI c)), .int (nI (x + t))], [])) (fun t => (G, I, F)) (fun _ => True) rfl rfl trivial (fun t ht pt it => ?_) (fun pt => ?_)
      · show vm_J _ _ _ (18, (0, 0), [.ref C, .ref b, .int (sp_cm I C x (y - x) (I b 2) c), .int (nI c), .int (sp_cs I C x t (nI c)), .int (nI (x + t))], []) (G, I, F) _ _
        refine vm_J.go vm_q18 (k := 4) (hs := [(2, 6, [.int 0, .int 0, .int 0, .int 0, .int 0, .int 0])]) (f' := (bif vm_ic .ge (nI (x + t)) (I b 1) then 61 else 27, (0, 0), [.ref C, .ref b, .int (sp_cm I C x (y - x) (I b 2) c), .int (nI c), .int (sp_cs I C x t (nI c)), .int (nI (x + t))], [])) (h' := (G, I, F)) (hs' := []) rfl (vm_b2 rfl (vm_b2 rfl (vm_b2 (vm_b2 (vm_hG hb) rfl) (vm_b2 rfl rfl)))) ?_
        refine vm_J.br (fun c2 => ?_) (fun c2 => ?_)
        · rw [(hy : I b 1 = nI y)] at c2
          have c2 := vm_ge_t (a := x + t) (b := y) (by omega) (by omega) c2
          exact (show False by omega).elim
        · rw [(hy : I b 1 = nI y)] at c2
          have c2 := vm_ge_f (a := x + t) (b := y) (by omega) (by omega) c2
          refine vm_J.go vm_q18 (k := 4) (hs := [(3, 5, [.ref (C + 1), .ref (C + 2), .int 0, .ref (C + 3), .int 0])]) (f' := (35, (0, 0), [.ref C, .ref b, .int (sp_cm I C x (y - x) (I b 2) c), .int (nI c), .int (sp_cs I C x t (nI c)), .int (nI (x + t))], [.int (nI (x + t)), .ref (C + 1), .int (sp_cs I C x t (nI c))])) (h' := (G, I, F)) (hs' := []) rfl (vm_b2 rfl (vm_b2 rfl (vm_b2 (vm_b2 (vm_hG hC.1) rfl) (vm_b2 rfl rfl)))) ?_
          refine vm_J.call vm_q18 (Z := vm_M152) (n := 2) (k := 1) (mi := 152) (pc := 35) (en := (35, .invokestatic 35, 3, [152, 505, 1], .null)) rfl trivial rfl rfl vm_z152 (av := [.ref (C + 1), .int (nI (x + t))]) (rest := [.int (sp_cs I C x t (nI c))]) (m_at_n (j := x + t) hC.2.1 (by omega) (by omega)) rfl (Nat.le_of_ble_eq_true rfl) ⟨Nat.le_of_ble_eq_true rfl, Nat.le_of_ble_eq_true rfl⟩ ⟨Nat.le_of_ble_eq_true rfl, Nat.le_of_ble_eq_true rfl⟩ ?_
          show vm_J _ _ _ (38, (0, 0), [.ref C, .ref b, .int (sp_cm I C x (y - x) (I b 2) c), .int (nI c), .int (sp_cs I C x t (nI c)), .int (nI (x + t))], [.int (I (C + 1) (x + t)), .int (sp_cs I C x t (nI c))]) (G, I, F) _ _
          refine vm_J.go vm_q18 (k := 1) (hs := []) (f' := (39, (0, 0), [.ref C, .ref b, .int (sp_cm I C x (y - x) (I b 2) c), .int (nI c), .int (sp_cs I C x t (nI c)), .int (nI (x + t))], [.int (nI c), .int (I (C + 1) (x + t)), .int (sp_cs I C x t (nI c))])) (h' := (G, I, F)) (hs' := []) rfl rfl ?_
          refine vm_J.call vm_q18 (Z := vm_M164) (n := 2) (k := 1) (mi := 164) (pc := 39) (en := (39, .invokestatic 109, 3, [164, 574, 1], .null)) rfl trivial rfl rfl vm_z164 (av := [.int (I (C + 1) (x + t)), .int (nI c)]) (rest := [.int (sp_cs I C x t (nI c))]) (m_channelOf (c := I (C + 1) (x + t)) (k := nI c)) rfl (Nat.le_of_ble_eq_true rfl) ⟨Nat.le_of_ble_eq_true rfl, Nat.le_of_ble_eq_true rfl⟩ ⟨Nat.le_of_ble_eq_true rfl, Nat.le_of_ble_eq_true rfl⟩ ?_
          show vm_J _ _ _ (42, (0, 0), [.ref C, .ref b, .int (sp_cm I C x (y - x) (I b 2) c), .int (nI c), .int (sp_cs I C x t (nI c)), .int (nI (x + t))], [.int (sp_ch (I (C + 1) (x + t)) (nI c)), .int (sp_cs I C x t (nI c))]) (G, I, F) _ _
          refine vm_J.go vm_q18 (k := 3) (hs := [(3, 5, [.ref (C + 1), .ref (C + 2), .int 0, .ref (C + 3), .int 0])]) (f' := (48, (0, 0), [.ref C, .ref b, .int (sp_cm I C x (y - x) (I b 2) c), .int (nI c), .int (sp_cs I C x t (nI c)), .int (nI (x + t))], [.int (nI (x + t)), .ref (C + 2), .int (sp_ch (I (C + 1) (x + t)) (nI c)), .int (sp_cs I C x t (nI c))])) (h' := (G, I, F)) (hs' := []) rfl (vm_b2 rfl (vm_b2 (vm_b2 (vm_hG hC.1) rfl) (vm_b2 rfl rfl))) ?_
          refine vm_J.call vm_q18 (Z := vm_M152) (n := 2) (k := 1) (mi := 152) (pc := 48) (en := (48, .invokestatic 35, 3, [152, 505, 1], .null)) rfl trivial rfl rfl vm_z152 (av := [.ref (C + 2), .int (nI (x + t))]) (rest := [.int (sp_ch (I (C + 1) (x + t)) (nI c)), .int (sp_cs I C x t (nI c))]) (m_at_n (j := x + t) hC.2.2.1 (by omega) (by omega)) rfl (Nat.le_of_ble_eq_true rfl) ⟨Nat.le_of_ble_eq_true rfl, Nat.le_of_ble_eq_true rfl⟩ ⟨Nat.le_of_ble_eq_true rfl, Nat.le_of_ble_eq_true rfl⟩ ?_
          show vm_J _ _ _ (51, (0, 0), [.ref C, .ref b, .int (sp_cm I C x (y - x) (I b 2) c), .int (nI c), .int (sp_cs I C x t (nI c)), .int (nI (x + t))], [.int (I (C + 2) (x + t)), .int (sp_ch (I (C + 1) (x + t)) (nI c)), .int (sp_cs I C x t (nI c))]) (G, I, F) _ _
          refine vm_J.go vm_q18 (k := 5) (hs := []) (f' := (18, (0, 0), [.ref C, .ref b, .int (sp_cm I C x (y - x) (I b 2) c), .int (nI c), .int ((sp_cs I C x t (nI c)) + ((sp_ch (I (C + 1) (x + t)) (nI c)) * (I (C + 2) (x + t)))), .int ((nI (x + t)) + 1)], [])) (h' := (G, I, F)) (hs' := []) rfl rfl ?_
          rw [((vm_pa (rfl : nI (x + t) = nI (x + t)) (rfl : (1 : Int32) = nI 1)) : (nI (x + t)) + 1 = nI (x + t + 1))]
          rw [show ((sp_cs I C x t (nI c)) + ((sp_ch (I (C + 1) (x + t)) (nI c)) * (I (C + 2) (x + t))) : Int32) = sp_cs I C x (t + 1) (nI c) from by rfl]
          exact it trivial
      · show vm_J _ _ _ (18, (0, 0), [.ref C, .ref b, .int (sp_cm I C x (y - x) (I b 2) c), .int (nI c), .int (sp_cs I C x (y - x) (nI c)), .int (nI (x + (y - x)))], []) (G, I, F) _ _
        refine vm_J.go vm_q18 (k := 4) (hs := [(2, 6, [.int 0, .int 0, .int 0, .int 0, .int 0, .int 0])]) (f' := (bif vm_ic .ge (nI (x + (y - x))) (I b 1) then 61 else 27, (0, 0), [.ref C, .ref b, .int (sp_cm I C x (y - x) (I b 2) c), .int (nI c), .int (sp_cs I C x (y - x) (nI c)), .int (nI (x + (y - x)))], [])) (h' := (G, I, F)) (hs' := []) rfl (vm_b2 rfl (vm_b2 rfl (vm_b2 (vm_b2 (vm_hG hb) rfl) (vm_b2 rfl rfl)))) ?_
        refine vm_J.br (fun c3 => ?_) (fun c3 => ?_)
        · rw [(hy : I b 1 = nI y)] at c3
          have c3 := vm_ge_t (a := x + (y - x)) (b := y) (by omega) (by omega) c3
          refine vm_J.go vm_q18 (k := 6) (hs := [(2, 6, [.int 0, .int 0, .int 0, .int 0, .int 0, .int 0])]) (f' := (71, (0, 0), [.ref C, .ref b, .int (sp_cm I C x (y - x) (I b 2) c), .int (nI c), .int (sp_cs I C x (y - x) (nI c)), .int (nI (x + (y - x)))], [.int (I b 2), .int (sp_cs I C x (y - x) (nI c)), .int ((sp_cm I C x (y - x) (I b 2) c) * 64)])) (h' := (G, I, F)) (hs' := []) rfl (vm_b2 rfl (vm_b2 rfl (vm_b2 rfl (vm_b2 rfl (vm_b2 rfl (vm_b2 (vm_b2 (vm_hG hb) rfl) rfl)))))) ?_
          refine vm_J.call vm_q18 (Z := vm_M161) (n := 2) (k := 1) (mi := 161) (pc := 71) (en := (71, .invokestatic 126, 3, [161, 612, 1], .null)) rfl trivial rfl rfl vm_z161 (av := [.int (sp_cs I C x (y - x) (nI c)), .int (I b 2)]) (rest := [.int ((sp_cm I C x (y - x) (I b 2) c) * 64)]) (m_roundedMean (s := sp_cs I C x (y - x) (nI c)) (n := I b 2) vm_2n) rfl (Nat.le_of_ble_eq_true rfl) ⟨Nat.le_of_ble_eq_true rfl, Nat.le_of_ble_eq_true rfl⟩ ⟨Nat.le_of_ble_eq_true rfl, Nat.le_of_ble_eq_true rfl⟩ ?_
          show vm_J _ _ _ (74, (0, 0), [.ref C, .ref b, .int (sp_cm I C x (y - x) (I b 2) c), .int (nI c), .int (sp_cs I C x (y - x) (nI c)), .int (nI (x + (y - x)))], [.int (sp_rd (sp_cs I C x (y - x) (nI c)) (I b 2)), .int ((sp_cm I C x (y - x) (I b 2) c) * 64)]) (G, I, F) _ _
          refine vm_J.go vm_q18 (k := 4) (hs := []) (f' := (4, (0, 0), [.ref C, .ref b, .int (((sp_cm I C x (y - x) (I b 2) c) * 64) + (sp_rd (sp_cs I C x (y - x) (nI c)) (I b 2))), .int ((nI c) + 1), .int (sp_cs I C x (y - x) (nI c)), .int (nI (x + (y - x)))], [])) (h' := (G, I, F)) (hs' := []) rfl rfl ?_
          rw [((vm_pa (rfl : nI c = nI c) (rfl : (1 : Int32) = nI 1)) : (nI c) + 1 = nI (c + 1))]
          refine vm_J.mask [true, true, true, true, false, false] ?_
          show vm_J _ _ _ (4, (0, 0), [.ref C, .ref b, .int (((sp_cm I C x (y - x) (I b 2) c) * 64) + (sp_rd (sp_cs I C x (y - x) (nI c)) (I b 2))), .int (nI (c + 1)), .retAddr 0, .retAddr 0], []) (G, I, F) _ _
          rw [show (((sp_cm I C x (y - x) (I b 2) c) * 64) + (sp_rd (sp_cs I C x (y - x) (nI c)) (I b 2)) : Int32) = sp_cm I C x (y - x) (I b 2) (c + 1) from by rfl]
          exact ic trivial
        · rw [(hy : I b 1 = nI y)] at c3
          have c3 := vm_ge_f (a := x + (y - x)) (b := y) (by omega) (by omega) c3
          exact (show False by omega).elim
  · show vm_J _ _ _ (4, (0, 0), [.ref C, .ref b, .int (sp_cm I C x (y - x) (I b 2) 3), .int (nI 3), .retAddr 0, .retAddr 0], []) (G, I, F) _ _
    refine vm_J.go vm_q18 (k := 3) (hs := []) (f' := (bif vm_ic .ge (nI 3) 3 then 82 else 9, (0, 0), [.ref C, .ref b, .int (sp_cm I C x (y - x) (I b 2) 3), .int (nI 3), .retAddr 0, .retAddr 0], [])) (h' := (G, I, F)) (hs' := []) rfl rfl ?_
    refine vm_J.br (fun c4 => ?_) (fun c4 => ?_)
    · have c4 := vm_ge_t (a := 3) (b := 3) (by omega) (by omega) c4
      refine vm_J.go vm_q18 (k := 1) (hs := []) (f' := (83, (0, 0), [.ref C, .ref b, .int (sp_cm I C x (y - x) (I b 2) 3), .int (nI 3), .retAddr 0, .retAddr 0], [.int (sp_cm I C x (y - x) (I b 2) 3)])) (h' := (G, I, F)) (hs' := []) rfl rfl ?_
      exact vm_J.end vm_q18 (en := (83, .ireturn, 1, [], .null)) rfl rfl vm_rI (Nat.zero_le _) (Nat.zero_le _) rfl
    · have c4 := vm_ge_f (a := 3) (b := 3) (by omega) (by omega) c4
      exact (show False by omega).elim
set_option maxHeartbeats 4000000 in
set_option maxRecDepth 20000 in
/-- DitherDesk$Cutter.boxesAhead  -/
theorem m_Cu_boxesAhead {l : Launch} {X : vm_Cx} {G : List vm_Sh} {I : Nat → Nat → Int32} {F : Nat → Nat → UInt32} {C b n : Nat} (hC : vm_isC G C) (hb : G[b]? = some (2, 6, [.int 0, .int 0, .int 0, .int 0, .int 0, .int 0])) (hn : I C 4 = nI n) (hn2 : n ≤ 16) : vm_K l X vm_M17 [.ref C, .ref b] (G, I, F) (some (.int (sp_sum (fun t => if I (C + 4 + t) 5 < I b 5 then 1 else 0) n))) (G, I, F) := by
  refine vm_K.mk (by decide) (Nat.le_of_ble_eq_true rfl) ?_
  show vm_J _ _ _ (0, (0, 0), [.ref C, .ref b, .retAddr 0, .retAddr 0, .retAddr 0], []) _ _ _
  refine vm_J.go vm_q17 (k := 4) (hs := []) (f' := (4, (0, 0), [.ref C, .ref b, .int 0, .int 0, .retAddr 0], [])) (h' := (G, I, F)) (hs' := []) rfl rfl ?_
  refine vm_J.cnt n (fun j => (4, (0, 0), [.ref C, .ref b, .int (sp_sum (fun t => if I (C + 4 + t) 5 < I b 5 then 1 else 0) j), .int (nI j), .retAddr 0], [])) (fun j => (G, I, F)) (fun _ => True) rfl rfl trivial (fun j hj pj ij => ?_) (fun pj => ?_)
  · show vm_J _ _ _ (4, (0, 0), [.ref C, .ref b, .int (sp_sum (fun t => if I (C + 4 + t) 5 < I b 5 then 1 else 0) j), .int (nI j), .retAddr 0], []) (G, I, F) _ _
    refine vm_J.go vm_q17 (k := 4) (hs := [(3, 5, [.ref (C + 1), .ref (C + 2), .int 0, .ref (C + 3), .int 0])]) (f' := (bif vm_ic .ge (nI j) (I C 4) then 45 else 12, (0, 0), [.ref C, .ref b, .int (sp_sum (fun t => if I (C + 4 + t) 5 < I b 5 then 1 else 0) j), .int (nI j), .retAddr 0], [])) (h' := (G, I, F)) (hs' := []) rfl (vm_b2 rfl (vm_b2 rfl (vm_b2 (vm_b2 (vm_hG hC.1) rfl) (vm_b2 rfl rfl)))) ?_
    refine vm_J.br (fun c1 => ?_) (fun c1 => ?_)
    · rw [(hn : I C 4 = nI n)] at c1
      have c1 := vm_ge_t (a := j) (b := n) (by omega) (by omega) c1
      exact (show False by omega).elim
    · rw [(hn : I C 4 = nI n)] at c1
      have c1 := vm_ge_f (a := j) (b := n) (by omega) (by omega) c1
      refine vm_J.go vm_q17 (k := 2) (hs := []) (f' := (14, (0, 0), [.ref C, .ref b, .int (sp_sum (fun t => if I (C + 4 + t) 5 < I b 5 then 1 else 0) j), .int (nI j), .retAddr 0], [.int (nI j), .ref C])) (h' := (G, I, F)) (hs' := []) rfl rfl ?_
      refine vm_J.call vm_q17 (Z := vm_M8) (n := 1) (k := 0) (mi := 8) (pc := 14) (en := (14, .invokevirtual 80, 3, [8, 562, 0], .null)) rfl trivial rfl rfl vm_z8 (av := [.ref C, .int (nI j)]) (rest := []) (m_rawBox_n (p := j) hC (by omega)) ⟨_, _, rfl, rfl, _, 1, _, hC.1, rfl, rfl, rfl⟩ (Nat.le_of_ble_eq_true rfl) ⟨Nat.le_of_ble_eq_true rfl, Nat.le_of_ble_eq_true rfl⟩ ⟨Nat.le_of_ble_eq_true rfl, Nat.le_of_ble_eq_true rfl⟩ ?_
      show vm_J _ _ _ (17, (0, 0), [.ref C, .ref b, .int (sp_sum (fun t => if I (C + 4 + t) 5 < I b 5 then 1 else 0) j), .int (nI j), .retAddr 0], [.ref (C + 4 + j)]) (G, I, F) _ _
      refine vm_J.go vm_q17 (k := 8) (hs := [(2, 6, [.int 0, .int 0, .int 0, .int 0, .int 0, .int 0]), (2, 6, [.int 0, .int 0, .int 0, .int 0, .int 0, .int 0])]) (f' := (bif vm_ic .ge (I (C + 4 + j) 5) (I b 5) then 39 else 36, (0, 0), [.ref C, .ref b, .int (sp_sum (fun t => if I (C + 4 + t) 5 < I b 5 then 1 else 0) j), .int (nI j), .ref (C + 4 + j)], [])) (h' := (G, I, F)) (hs' := []) rfl (vm_b2 rfl (vm_b2 rfl (vm_b2 rfl (vm_b2 rfl (vm_b2 (vm_b2 (vm_hG (hC.2.2.2.2 j (by omega))) rfl) (vm_b2 rfl (vm_b2 (vm_b2 (vm_hG hb) rfl) (vm_b2 rfl rfl)))))))) ?_
      refine vm_J.br (fun c2 => ?_) (fun c2 => ?_)
      · have c2 : (I b 5) ≤ (I (C + 4 + j) 5) := of_decide_eq_true c2
        refine vm_J.go vm_q17 (k := 2) (hs := []) (f' := (4, (0, 0), [.ref C, .ref b, .int (sp_sum (fun t => if I (C + 4 + t) 5 < I b 5 then 1 else 0) j), .int ((nI j) + 1), .ref (C + 4 + j)], [])) (h' := (G, I, F)) (hs' := []) rfl rfl ?_
        rw [((vm_pa (rfl : nI j = nI j) (rfl : (1 : Int32) = nI 1)) : (nI j) + 1 = nI (j + 1))]
        refine vm_J.mask [true, true, true, true, false] ?_
        show vm_J _ _ _ (4, (0, 0), [.ref C, .ref b, .int (sp_sum (fun t => if I (C + 4 + t) 5 < I b 5 then 1 else 0) j), .int (nI (j + 1)), .retAddr 0], []) (G, I, F) _ _
        rw [show (sp_sum (fun t => if I (C + 4 + t) 5 < I b 5 then 1 else 0) j : Int32) = sp_sum (fun t => if I (C + 4 + t) 5 < I b 5 then 1 else 0) (j + 1) from by rw [sp_sum, if_neg (vm_nle_lt c2)]; exact (Int32.add_zero _).symm]
        exact ij trivial
      · have c2 : ¬ ((I b 5) ≤ (I (C + 4 + j) 5)) := of_decide_eq_false c2
        refine vm_J.go vm_q17 (k := 3) (hs := []) (f' := (4, (0, 0), [.ref C, .ref b, .int ((sp_sum (fun t => if I (C + 4 + t) 5 < I b 5 then 1 else 0) j) + 1), .int ((nI j) + 1), .ref (C + 4 + j)], [])) (h' := (G, I, F)) (hs' := []) rfl rfl ?_
        rw [((vm_pa (rfl : nI j = nI j) (rfl : (1 : Int32) = nI 1)) : (nI j) + 1 = nI (j + 1))]
        refine vm_J.mask [true, true, true, true, false] ?_
        show vm_J _ _ _ (4, (0, 0), [.ref C, .ref b, .int ((sp_sum (fun t => if I (C + 4 + t) 5 < I b 5 then 1 else 0) j) + 1), .int (nI (j + 1)), .retAddr 0], []) (G, I, F) _ _
        rw [show ((sp_sum (fun t => if I (C + 4 + t) 5 < I b 5 then 1 else 0) j) + 1 : Int32) = sp_sum (fun t => if I (C + 4 + t) 5 < I b 5 then 1 else 0) (j + 1) from by rw [sp_sum, if_pos (vm_nge_lt c2)]]
        exact ij trivial
  · show vm_J _ _ _ (4, (0, 0), [.ref C, .ref b, .int (sp_sum (fun t => if I (C + 4 + t) 5 < I b 5 then 1 else 0) n), .int (nI n), .retAddr 0], []) (G, I, F) _ _
    refine vm_J.go vm_q17 (k := 4) (hs := [(3, 5, [.ref (C + 1), .ref (C + 2), .int 0, .ref (C + 3), .int 0])]) (f' := (bif vm_ic .ge (nI n) (I C 4) then 45 else 12, (0, 0), [.ref C, .ref b, .int (sp_sum (fun t => if I (C + 4 + t) 5 < I b 5 then 1 else 0) n), .int (nI n), .retAddr 0], [])) (h' := (G, I, F)) (hs' := []) rfl (vm_b2 rfl (vm_b2 rfl (vm_b2 (vm_b2 (vm_hG hC.1) rfl) (vm_b2 rfl rfl)))) ?_
    refine vm_J.br (fun c3 => ?_) (fun c3 => ?_)
    · rw [(hn : I C 4 = nI n)] at c3
      have c3 := vm_ge_t (a := n) (b := n) (by omega) (by omega) c3
      refine vm_J.go vm_q17 (k := 1) (hs := []) (f' := (46, (0, 0), [.ref C, .ref b, .int (sp_sum (fun t => if I (C + 4 + t) 5 < I b 5 then 1 else 0) n), .int (nI n), .retAddr 0], [.int (sp_sum (fun t => if I (C + 4 + t) 5 < I b 5 then 1 else 0) n)])) (h' := (G, I, F)) (hs' := []) rfl rfl ?_
      exact vm_J.end vm_q17 (en := (46, .ireturn, 1, [], .null)) rfl rfl vm_rI (Nat.zero_le _) (Nat.zero_le _) rfl
    · rw [(hn : I C 4 = nI n)] at c3
      have c3 := vm_ge_f (a := n) (b := n) (by omega) (by omega) c3
      exact (show False by omega).elim
