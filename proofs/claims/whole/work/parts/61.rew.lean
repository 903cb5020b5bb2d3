set_option maxHeartbeats 4000000 in
set_option maxRecDepth 20000 in
/-- DitherDeskModel.entryWith  -/
theorem r_entryWith {l : Launch} {X : vm_Cx} {G : List vm_Sh} {I : Nat → Nat → Int32} {F : Nat → Nat → UInt32} {p n : Nat} {c : Int32} (hR : vm_isR G) (hp : p < 4) (hn : I 156 p = nI n) (hn2 : n ≤ 16) : vm_K l X vm_M211 [.ref 152, .int (nI p), .int c] (G, I, F) (some (.int (sp_ew (fun k => I 157 (16 * p + k)) c n))) (G, I, F) := by
  refine vm_K.mk (by decide) (Nat.le_of_ble_eq_true rfl) ?_
  show vm_J _ _ _ (0, (0, 0), [.ref 152, .int (nI p), .int c, .retAddr 0], []) _ _ _
  refine vm_J.go vm_q211 (k := 2) (hs := []) (f' := (2, (0, 0), [.ref 152, .int (nI p), .int c, .int 0], [])) (h' := (G, I, F)) (hs' := []) rfl rfl ?_
  refine vm_J.cnt n (fun j => (2, (0, 0), [.ref 152, .int (nI p), .int c, .int (nI j)], [])) (fun j => (G, I, F)) (fun j => ∀ k, k < j → ¬ I 157 (16 * p + k) = c) rfl rfl vm_all0 (fun j hj pj ij => ?_) (fun pj => ?_)
  · show vm_J _ _ _ (2, (0, 0), [.ref 152, .int (nI p), .int c, .int (nI j)], []) (G, I, F) _ _
    refine vm_J.go vm_q211 (k := 5) (hs := [vm_shR, (0, 4, [])]) (f' := (9, (0, 0), [.ref 152, .int (nI p), .int c, .int (nI j)], [.int (I 156 (nI p).toNatClampNeg), .int (nI j)])) (h' := (G, I, F)) (hs' := []) rfl (vm_b2 rfl (vm_b2 rfl (vm_b2 (vm_b2 (vm_hG hR.c152) rfl) (vm_b2 rfl (vm_b2 (vm_b2 (vm_hG hR.c156) (vm_in_e (j := p) (n := 4) rfl (by omega) (by omega))) rfl))))) ?_
    rw [vm_ix_e (j := p) rfl (by omega)]
    rw [hn]
    show vm_J _ _ _ (9, (0, 0), [.ref 152, .int (nI p), .int c, .int (nI j)], [.int (nI n), .int (nI j)]) (G, I, F) _ _
    refine vm_J.go vm_q211 (k := 1) (hs := []) (f' := (bif vm_ic .ge (nI j) (nI n) then 35 else 12, (0, 0), [.ref 152, .int (nI p), .int c, .int (nI j)], [])) (h' := (G, I, F)) (hs' := []) rfl rfl ?_
    refine vm_J.br (fun c1 => ?_) (fun c1 => ?_)
    · have c1 := vm_ge_t (a := j) (b := n) (by omega) (by omega) c1
      exact (show False by omega).elim
    · have c1 := vm_ge_f (a := j) (b := n) (by omega) (by omega) c1
      refine vm_J.go vm_q211 (k := 9) (hs := [vm_shR, (0, 64, [])]) (f' := (24, (0, 0), [.ref 152, .int (nI p), .int c, .int (nI j)], [.int c, .int (I 157 ((16 * (nI p)) + (nI j)).toNatClampNeg)])) (h' := (G, I, F)) (hs' := []) rfl (vm_b2 rfl (vm_b2 (vm_b2 (vm_hG hR.c152) rfl) (vm_b2 rfl (vm_b2 rfl (vm_b2 rfl (vm_b2 rfl (vm_b2 rfl (vm_b2 (vm_b2 (vm_hG hR.c157) (vm_in_e (j := (16 * p) + j) (n := 64) (vm_pa (vm_pm (rfl : (16 : Int32) = nI 16) (rfl : (nI p : Int32) = nI p)) (rfl : (nI j : Int32) = nI j)) (by omega) (by omega))) (vm_b2 rfl rfl))))))))) ?_
      rw [vm_ix_e (j := (16 * p) + j) (vm_pa (vm_pm (rfl : (16 : Int32) = nI 16) (rfl : (nI p : Int32) = nI p)) (rfl : (nI j : Int32) = nI j)) (by omega)]
      refine vm_J.go vm_q211 (k := 1) (hs := []) (f' := (bif vm_ic .ne (I 157 ((16 * p) + j)) c then 29 else 27, (0, 0), [.ref 152, .int (nI p), .int c, .int (nI j)], [])) (h' := (G, I, F)) (hs' := []) rfl rfl ?_
      refine vm_J.br (fun c2 => ?_) (fun c2 => ?_)
      · have c2 : ¬ (I 157 ((16 * p) + j)) = c := of_decide_eq_true c2
        refine vm_J.go vm_q211 (k := 2) (hs := []) (f' := (2, (0, 0), [.ref 152, .int (nI p), .int c, .int ((nI j) + 1)], [])) (h' := (G, I, F)) (hs' := []) rfl rfl ?_
        rw [((vm_pa (rfl : nI j = nI j) (rfl : (1 : Int32) = nI 1)) : (nI j) + 1 = nI (j + 1))]
        exact ij (vm_alls (p := fun k => ¬ I 157 (16 * p + k) = c) pj c2)
      · have c2 : (I 157 ((16 * p) + j)) = c := Decidable.of_not_not (of_decide_eq_false c2)
        refine vm_J.go vm_q211 (k := 1) (hs := []) (f' := (28, (0, 0), [.ref 152, .int (nI p), .int c, .int (nI j)], [.int (nI j)])) (h' := (G, I, F)) (hs' := []) rfl rfl ?_
        exact vm_J.end vm_q211 (en := (28, .ireturn, 1, [], .null)) rfl (by rw [sp_ew_hit (f := (fun k => I 157 (16 * p + k))) hj pj c2]; rfl) vm_rI (Nat.zero_le _) (Nat.zero_le _) rfl
  · show vm_J _ _ _ (2, (0, 0), [.ref 152, .int (nI p), .int c, .int (nI n)], []) (G, I, F) _ _
    refine vm_J.go vm_q211 (k := 5) (hs := [vm_shR, (0, 4, [])]) (f' := (9, (0, 0), [.ref 152, .int (nI p), .int c, .int (nI n)], [.int (I 156 (nI p).toNatClampNeg), .int (nI n)])) (h' := (G, I, F)) (hs' := []) rfl (vm_b2 rfl (vm_b2 rfl (vm_b2 (vm_b2 (vm_hG hR.c152) rfl) (vm_b2 rfl (vm_b2 (vm_b2 (vm_hG hR.c156) (vm_in_e (j := p) (n := 4) rfl (by omega) (by omega))) rfl))))) ?_
    rw [vm_ix_e (j := p) rfl (by omega)]
    rw [hn]
    show vm_J _ _ _ (9, (0, 0), [.ref 152, .int (nI p), .int c, .int (nI n)], [.int (nI n), .int (nI n)]) (G, I, F) _ _
    refine vm_J.go vm_q211 (k := 1) (hs := []) (f' := (bif vm_ic .ge (nI n) (nI n) then 35 else 12, (0, 0), [.ref 152, .int (nI p), .int c, .int (nI n)], [])) (h' := (G, I, F)) (hs' := []) rfl rfl ?_
    refine vm_J.br (fun c3 => ?_) (fun c3 => ?_)
    · have c3 := vm_ge_t (a := n) (b := n) (by omega) (by omega) c3
      refine vm_J.go vm_q211 (k := 1) (hs := []) (f' := (36, (0, 0), [.ref 152, .int (nI p), .int c, .int (nI n)], [.int (-1)])) (h' := (G, I, F)) (hs' := []) rfl rfl ?_
      exact vm_J.end vm_q211 (en := (36, .ireturn, 1, [], .null)) rfl (by rw [sp_ew_none (f := (fun k => I 157 (16 * p + k))) pj]; rfl) vm_rI (Nat.zero_le _) (Nat.zero_le _) rfl
    · have c3 := vm_ge_f (a := n) (b := n) (by omega) (by omega) c3
      exact (show False by omega).elim
