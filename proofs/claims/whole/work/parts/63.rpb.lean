theorem vm_tw2_t (I : Nat → Nat → Int32) (a b n j : Nat) (hab : a ≠ b) (hj : j < n) : vm_up (vm_up (vm_tw2 I a b n j) a (n - j) (vm_tw2 I a b n j a (n - j - 1))) b (n - j) (vm_tw2 I a b n j b (n - j - 1)) = vm_tw2 I a b n (j + 1) := by
  rw [← vm_tw2_s I a b n j hab hj, vm_up_o2 _ _ _ _ _ _ (Ne.symm hab)]
def sp_pf (f : Nat → Int32) (c : Int32) (n : Nat) : Nat := sp_fi (fun k => ¬ f k < c) n
theorem sp_pf_n (f : Nat → Int32) (c : Int32) (n : Nat) : sp_pf f c n ≤ n := sp_fi_le
theorem sp_pf_h {f : Nat → Int32} {c : Int32} {n j : Nat} (hj : j < n) (h : ∀ k, k < j → f k < c) (hp : ¬ f j < c) : j = sp_pf f c n := (sp_fi_hit (p := fun k => ¬ f k < c) hj (fun k hk z => z (h k hk)) hp).symm
theorem sp_pf_0 {f : Nat → Int32} {c : Int32} {n : Nat} (h : ∀ k, k < n → f k < c) : n = sp_pf f c n := (sp_fi_none (p := fun k => ¬ f k < c) fun k hk z => z (h k hk)).symm
set_option maxHeartbeats 4000000 in
set_option maxRecDepth 20000 in
/-- DitherDeskModel.comesColour -/
theorem r_comes {l : Launch} {X : vm_Cx} {G : List vm_Sh} {I : Nat → Nat → Int32} {F : Nat → Nat → UInt32} {n : Nat} {c : Int32} (hR : vm_isR G) (hn : I 152 14 = nI n) (hn2 : n < 144) : vm_K l X vm_M187 [.ref 152, .int c] (G, I, F) (none) (G, (if (sp_pf (I 159) c n) < n ∧ I 159 (sp_pf (I 159) c n) = c then (vm_up I 160 (sp_pf (I 159) c n) (I 160 (sp_pf (I 159) c n) + 1)) else (vm_up (vm_up (vm_up (vm_tw2 I 159 160 n (n - (sp_pf (I 159) c n))) 159 (sp_pf (I 159) c n) c) 160 (sp_pf (I 159) c n) 1) 152 14 (nI (n + 1)))), F) := by
  refine vm_K.mk (by decide) (Nat.le_of_ble_eq_true rfl) ?_
  show vm_J _ _ _ (0, (0, 0), [.ref 152, .int c, .retAddr 0, .retAddr 0], []) _ _ _
  refine vm_J.go vm_q187 (k := 2) (hs := []) (f' := (2, (0, 0), [.ref 152, .int c, .int 0, .retAddr 0], [])) (h' := (G, I, F)) (hs' := []) rfl rfl ?_
  refine vm_J.cnt n (fun j => (2, (0, 0), [.ref 152, .int c, .int (nI j), .retAddr 0], [])) (fun j => (G, I, F)) (fun j => ∀ k, k < j → I 159 k < c) rfl rfl vm_all0 (fun j hj pj ij => ?_) (fun pj => ?_)
  · show vm_J _ _ _ (2, (0, 0), [.ref 152, .int c, .int (nI j), .retAddr 0], []) (G, I, F) _ _
    refine vm_J.go vm_q187 (k := 3) (hs := [vm_shR]) (f' := (7, (0, 0), [.ref 152, .int c, .int (nI j), .retAddr 0], [.int (I 152 14), .int (nI j)])) (h' := (G, I, F)) (hs' := []) rfl (vm_b2 rfl (vm_b2 rfl (vm_b2 (vm_b2 (vm_hG hR.c152) rfl) rfl))) ?_
    rw [(hn : I 152 14 = nI n)]
    refine vm_J.go vm_q187 (k := 1) (hs := []) (f' := (bif vm_ic .ge (nI j) (nI n) then 26 else 10, (0, 0), [.ref 152, .int c, .int (nI j), .retAddr 0], [])) (h' := (G, I, F)) (hs' := []) rfl rfl ?_
    refine vm_J.br (fun c1 => ?_) (fun c1 => ?_)
    · have c1 := vm_ge_t (a := j) (b := n) (by omega) (by omega) c1
      exact (show False by omega).elim
    · have c1 := vm_ge_f (a := j) (b := n) (by omega) (by omega) c1
      refine vm_J.go vm_q187 (k := 5) (hs := [vm_shR, (0, 144, [])]) (f' := (17, (0, 0), [.ref 152, .int c, .int (nI j), .retAddr 0], [.int c, .int (I 159 (nI j).toNatClampNeg)])) (h' := (G, I, F)) (hs' := []) rfl (vm_b2 rfl (vm_b2 (vm_b2 (vm_hG hR.c152) rfl) (vm_b2 rfl (vm_b2 (vm_b2 (vm_hG hR.c159) (vm_in_e (j := j) (n := 144) rfl (by omega) (by omega))) (vm_b2 rfl rfl))))) ?_
      rw [vm_ix_e (j := j) rfl (by omega)]
      refine vm_J.go vm_q187 (k := 1) (hs := []) (f' := (bif vm_ic .ge (I 159 j) c then 26 else 20, (0, 0), [.ref 152, .int c, .int (nI j), .retAddr 0], [])) (h' := (G, I, F)) (hs' := []) rfl rfl ?_
      refine vm_J.br (fun c2 => ?_) (fun c2 => ?_)
      · have c2 : c ≤ (I 159 j) := of_decide_eq_true c2
        have c2 := vm_nle_lt c2
        have hpl : j = (sp_pf (I 159) c n) := sp_pf_h hj pj c2
        have hpn := sp_pf_n (I 159) c n
        rw [show nI j = nI (sp_pf (I 159) c n) from congrArg nI hpl]
        show vm_J _ _ _ (26, (0, 0), [.ref 152, .int c, .int (nI (sp_pf (I 159) c n)), .retAddr 0], []) (G, I, F) _ _
        clear hpl pj
        refine vm_J.go vm_q187 (k := 3) (hs := [vm_shR]) (f' := (31, (0, 0), [.ref 152, .int c, .int (nI (sp_pf (I 159) c n)), .retAddr 0], [.int (I 152 14), .int (nI (sp_pf (I 159) c n))])) (h' := (G, I, F)) (hs' := []) rfl (vm_b2 rfl (vm_b2 rfl (vm_b2 (vm_b2 (vm_hG hR.c152) rfl) rfl))) ?_
        rw [(hn : I 152 14 = nI n)]
        refine vm_J.go vm_q187 (k := 1) (hs := []) (f' := (bif vm_ic .ge (nI (sp_pf (I 159) c n)) (nI n) then 55 else 34, (0, 0), [.ref 152, .int c, .int (nI (sp_pf (I 159) c n)), .retAddr 0], [])) (h' := (G, I, F)) (hs' := []) rfl rfl ?_
        refine vm_J.br (fun c3 => ?_) (fun c3 => ?_)
        · have c3 := vm_ge_t (a := (sp_pf (I 159) c n)) (b := n) (by omega) (by omega) c3
          refine vm_J.go vm_q187 (k := 2) (hs := [vm_shR]) (f' := (59, (0, 0), [.ref 152, .int c, .int (nI (sp_pf (I 159) c n)), .retAddr 0], [.int (I 152 14)])) (h' := (G, I, F)) (hs' := []) rfl (vm_b2 rfl (vm_b2 (vm_b2 (vm_hG hR.c152) rfl) rfl)) ?_
          rw [(hn : I 152 14 = nI n)]
          refine vm_J.go vm_q187 (k := 1) (hs := []) (f' := (60, (0, 0), [.ref 152, .int c, .int (nI (sp_pf (I 159) c n)), .int (nI n)], [])) (h' := (G, I, F)) (hs' := []) rfl rfl ?_
          rw [if_neg (fun z => absurd z.1 (by omega))]
          refine vm_J.cnt (n - (sp_pf (I 159) c n)) (fun i => (60, (0, 0), [.ref 152, .int c, .int (nI (sp_pf (I 159) c n)), .int (nI (n - i))], [])) (fun i => (G, (vm_tw2 I 159 160 n i), F)) (fun _ => True) rfl (by rw [← vm_tw2_0]) trivial (fun i hi pi ii => ?_) (fun pi => ?_)
          · show vm_J _ _ _ (60, (0, 0), [.ref 152, .int c, .int (nI (sp_pf (I 159) c n)), .int (nI (n - i))], []) (G, (vm_tw2 I 159 160 n i), F) _ _
            refine vm_J.go vm_q187 (k := 3) (hs := []) (f' := (bif vm_ic .le (nI (n - i)) (nI (sp_pf (I 159) c n)) then 99 else 65, (0, 0), [.ref 152, .int c, .int (nI (sp_pf (I 159) c n)), .int (nI (n - i))], [])) (h' := (G, (vm_tw2 I 159 160 n i), F)) (hs' := []) rfl rfl ?_
            refine vm_J.br (fun c4 => ?_) (fun c4 => ?_)
            · have c4 := vm_le_t (a := n - i) (b := (sp_pf (I 159) c n)) (by omega) (by omega) c4
              exact (show False by omega).elim
            · have c4 := vm_le_f (a := n - i) (b := (sp_pf (I 159) c n)) (by omega) (by omega) c4
              refine vm_J.go vm_q187 (k := 19) (hs := [vm_shR, vm_shR, (0, 144, []), (0, 144, []), vm_shR, vm_shR, (0, 144, [])]) (f' := (92, (0, 0), [.ref 152, .int c, .int (nI (sp_pf (I 159) c n)), .int (nI (n - i))], [.int ((vm_up (vm_tw2 I 159 160 n i) 159 ((nI (n - i)).toNatClampNeg) ((vm_tw2 I 159 160 n i) 159 ((nI (n - i)) - 1).toNatClampNeg)) 160 ((nI (n - i)) - 1).toNatClampNeg), .int (nI (n - i)), .ref 160])) (h' := (G, (vm_up (vm_tw2 I 159 160 n i) 159 ((nI (n - i)).toNatClampNeg) ((vm_tw2 I 159 160 n i) 159 ((nI (n - i)) - 1).toNatClampNeg)), F)) (hs' := []) rfl (vm_b2 rfl (vm_b2 (vm_b2 (vm_hG hR.c152) rfl) (vm_b2 rfl (vm_b2 rfl (vm_b2 (vm_b2 (vm_hG hR.c152) rfl) (vm_b2 rfl (vm_b2 rfl (vm_b2 rfl (vm_b2 (vm_b2 (vm_hG hR.c159) (vm_in_e (j := (n - i) - 1) (n := 144) (vm_ps (rfl : (nI (n - i) : Int32) = nI (n - i)) (rfl : (1 : Int32) = nI 1) (by omega)) (by omega) (by omega))) (vm_b2 (vm_b2 (vm_hG hR.c159) (vm_in_e (j := n - i) (n := 144) rfl (by omega) (by omega))) (vm_b2 rfl (vm_b2 (vm_b2 (vm_hG hR.c152) rfl) (vm_b2 rfl (vm_b2 rfl (vm_b2 (vm_b2 (vm_hG hR.c152) rfl) (vm_b2 rfl (vm_b2 rfl (vm_b2 rfl (vm_b2 (vm_b2 (vm_hG hR.c160) (vm_in_e (j := (n - i) - 1) (n := 144) (vm_ps (rfl : (nI (n - i) : Int32) = nI (n - i)) (rfl : (1 : Int32) = nI 1) (by omega)) (by omega) (by omega))) rfl))))))))))))))))))) ?_
              rw [vm_ix_e (j := (n - i) - 1) (vm_ps (rfl : (nI (n - i) : Int32) = nI (n - i)) (rfl : (1 : Int32) = nI 1) (by omega)) (by omega), vm_ix_e (j := n - i) rfl (by omega)]
              rw [((congrFun (vm_up_f _ 159 _ _ 160 (by decide)) ((n - i) - 1)) : (vm_up (vm_tw2 I 159 160 n i) 159 ((n - i)) ((vm_tw2 I 159 160 n i) 159 ((n - i) - 1))) 160 ((n - i) - 1) = (vm_tw2 I 159 160 n i) 160 ((n - i) - 1))]
              refine vm_J.go vm_q187 (k := 3) (hs := [(0, 144, [])]) (f' := (60, (0, 0), [.ref 152, .int c, .int (nI (sp_pf (I 159) c n)), .int ((nI (n - i)) + (-1))], [])) (h' := (G, (vm_up (vm_up (vm_tw2 I 159 160 n i) 159 ((n - i)) ((vm_tw2 I 159 160 n i) 159 ((n - i) - 1))) 160 ((nI (n - i)).toNatClampNeg) ((vm_tw2 I 159 160 n i) 160 ((n - i) - 1))), F)) (hs' := []) rfl (vm_b2 (vm_b2 (vm_hG hR.c160) (vm_in_e (j := n - i) (n := 144) rfl (by omega) (by omega))) (vm_b2 rfl (vm_b2 rfl rfl))) ?_
              rw [vm_ix_e (j := n - i) rfl (by omega), ((vm_dec (rfl : nI (n - i) = nI (n - i)) (by omega)) : (nI (n - i)) + (-1) = nI ((n - i) - 1))]
              rw [vm_tw2_t I 159 160 n i (by decide) (by omega)]
              exact ii trivial
          · show vm_J _ _ _ (60, (0, 0), [.ref 152, .int c, .int (nI (sp_pf (I 159) c n)), .int (nI (n - (n - (sp_pf (I 159) c n))))], []) (G, (vm_tw2 I 159 160 n (n - (sp_pf (I 159) c n))), F) _ _
            refine vm_J.go vm_q187 (k := 3) (hs := []) (f' := (bif vm_ic .le (nI (n - (n - (sp_pf (I 159) c n)))) (nI (sp_pf (I 159) c n)) then 99 else 65, (0, 0), [.ref 152, .int c, .int (nI (sp_pf (I 159) c n)), .int (nI (n - (n - (sp_pf (I 159) c n))))], [])) (h' := (G, (vm_tw2 I 159 160 n (n - (sp_pf (I 159) c n))), F)) (hs' := []) rfl rfl ?_
            refine vm_J.br (fun c5 => ?_) (fun c5 => ?_)
            · have c5 := vm_le_t (a := n - (n - (sp_pf (I 159) c n))) (b := (sp_pf (I 159) c n)) (by omega) (by omega) c5
              refine vm_J.go vm_q187 (k := 13) (hs := [vm_shR, (0, 144, []), vm_shR, (0, 144, []), vm_shR]) (f' := (118, (0, 0), [.ref 152, .int c, .int (nI (sp_pf (I 159) c n)), .int (nI (n - (n - (sp_pf (I 159) c n))))], [.int ((vm_up (vm_up (vm_tw2 I 159 160 n (n - (sp_pf (I 159) c n))) 159 ((nI (sp_pf (I 159) c n)).toNatClampNeg) c) 160 ((nI (sp_pf (I 159) c n)).toNatClampNeg) 1) 152 14), .ref 152])) (h' := (G, (vm_up (vm_up (vm_tw2 I 159 160 n (n - (sp_pf (I 159) c n))) 159 ((nI (sp_pf (I 159) c n)).toNatClampNeg) c) 160 ((nI (sp_pf (I 159) c n)).toNatClampNeg) 1), F)) (hs' := []) rfl (vm_b2 rfl (vm_b2 (vm_b2 (vm_hG hR.c152) rfl) (vm_b2 rfl (vm_b2 rfl (vm_b2 (vm_b2 (vm_hG hR.c159) (vm_in_e (j := (sp_pf (I 159) c n)) (n := 144) rfl (by omega) (by omega))) (vm_b2 rfl (vm_b2 (vm_b2 (vm_hG hR.c152) rfl) (vm_b2 rfl (vm_b2 rfl (vm_b2 (vm_b2 (vm_hG hR.c160) (vm_in_e (j := (sp_pf (I 159) c n)) (n := 144) rfl (by omega) (by omega))) (vm_b2 rfl (vm_b2 rfl (vm_b2 (vm_b2 (vm_hG hR.c152) rfl) rfl))))))))))))) ?_
              rw [vm_ix_e (j := (sp_pf (I 159) c n)) rfl (by omega)]
              rw [((Eq.trans (congrFun (vm_up_f _ 160 _ _ 152 (by decide)) 14) (Eq.trans (congrFun (vm_up_f _ 159 _ _ 152 (by decide)) 14) (Eq.trans (congrFun (funext fun z => vm_tw2_o _ 159 160 n (n - (sp_pf (I 159) c n)) 152 (by decide) (by decide) z) 14) hn))) : (vm_up (vm_up (vm_tw2 I 159 160 n (n - (sp_pf (I 159) c n))) 159 ((sp_pf (I 159) c n)) c) 160 ((sp_pf (I 159) c n)) 1) 152 14 = nI n)]
              refine vm_J.go vm_q187 (k := 2) (hs := []) (f' := (120, (0, 0), [.ref 152, .int c, .int (nI (sp_pf (I 159) c n)), .int (nI (n - (n - (sp_pf (I 159) c n))))], [.int ((nI n) + 1), .ref 152])) (h' := (G, (vm_up (vm_up (vm_tw2 I 159 160 n (n - (sp_pf (I 159) c n))) 159 ((sp_pf (I 159) c n)) c) 160 ((sp_pf (I 159) c n)) 1), F)) (hs' := []) rfl rfl ?_
              rw [((vm_pa (rfl : (nI n : Int32) = nI n) (rfl : (1 : Int32) = nI 1)) : (nI n) + 1 = nI (n + 1))]
              refine vm_J.go vm_q187 (k := 1) (hs := [vm_shR]) (f' := (123, (0, 0), [.ref 152, .int c, .int (nI (sp_pf (I 159) c n)), .int (nI (n - (n - (sp_pf (I 159) c n))))], [])) (h' := (G, (vm_up (vm_up (vm_up (vm_tw2 I 159 160 n (n - (sp_pf (I 159) c n))) 159 ((sp_pf (I 159) c n)) c) 160 ((sp_pf (I 159) c n)) 1) 152 14 (nI (n + 1))), F)) (hs' := []) rfl (vm_b2 (vm_b2 (vm_b2 (vm_hG hR.c152) rfl) rfl) rfl) ?_
              exact vm_J.end vm_q187 (en := (123, .return_, 1, [], .null)) rfl rfl vm_rV (Nat.zero_le _) (Nat.zero_le _) rfl
            · have c5 := vm_le_f (a := n - (n - (sp_pf (I 159) c n))) (b := (sp_pf (I 159) c n)) (by omega) (by omega) c5
              exact (show False by omega).elim
        · have c3 := vm_ge_f (a := (sp_pf (I 159) c n)) (b := n) (by omega) (by omega) c3
          refine vm_J.go vm_q187 (k := 5) (hs := [vm_shR, (0, 144, [])]) (f' := (41, (0, 0), [.ref 152, .int c, .int (nI (sp_pf (I 159) c n)), .retAddr 0], [.int c, .int (I 159 (nI (sp_pf (I 159) c n)).toNatClampNeg)])) (h' := (G, I, F)) (hs' := []) rfl (vm_b2 rfl (vm_b2 (vm_b2 (vm_hG hR.c152) rfl) (vm_b2 rfl (vm_b2 (vm_b2 (vm_hG hR.c159) (vm_in_e (j := (sp_pf (I 159) c n)) (n := 144) rfl (by omega) (by omega))) (vm_b2 rfl rfl))))) ?_
          rw [vm_ix_e (j := (sp_pf (I 159) c n)) rfl (by omega)]
          refine vm_J.go vm_q187 (k := 1) (hs := []) (f' := (bif vm_ic .ne (I 159 (sp_pf (I 159) c n)) c then 55 else 44, (0, 0), [.ref 152, .int c, .int (nI (sp_pf (I 159) c n)), .retAddr 0], [])) (h' := (G, I, F)) (hs' := []) rfl rfl ?_
          refine vm_J.br (fun c6 => ?_) (fun c6 => ?_)
          · have c6 : ¬ (I 159 (sp_pf (I 159) c n)) = c := of_decide_eq_true c6
            refine vm_J.go vm_q187 (k := 2) (hs := [vm_shR]) (f' := (59, (0, 0), [.ref 152, .int c, .int (nI (sp_pf (I 159) c n)), .retAddr 0], [.int (I 152 14)])) (h' := (G, I, F)) (hs' := []) rfl (vm_b2 rfl (vm_b2 (vm_b2 (vm_hG hR.c152) rfl) rfl)) ?_
            rw [(hn : I 152 14 = nI n)]
            refine vm_J.go vm_q187 (k := 1) (hs := []) (f' := (60, (0, 0), [.ref 152, .int c, .int (nI (sp_pf (I 159) c n)), .int (nI n)], [])) (h' := (G, I, F)) (hs' := []) rfl rfl ?_
            rw [if_neg (fun z => c6 z.2)]
            refine vm_J.cnt (n - (sp_pf (I 159) c n)) (fun i => (60, (0, 0), [.ref 152, .int c, .int (nI (sp_pf (I 159) c n)), .int (nI (n - i))], [])) (fun i => (G, (vm_tw2 I 159 160 n i), F)) (fun _ => True) rfl (by rw [← vm_tw2_0]) trivial (fun i hi pi ii => ?_) (fun pi => ?_)
            · show vm_J _ _ _ (60, (0, 0), [.ref 152, .int c, .int (nI (sp_pf (I 159) c n)), .int (nI (n - i))], []) (G, (vm_tw2 I 159 160 n i), F) _ _
              refine vm_J.go vm_q187 (k := 3) (hs := []) (f' := (bif vm_ic .le (nI (n - i)) (nI (sp_pf (I 159) c n)) then 99 else 65, (0, 0), [.ref 152, .int c, .int (nI (sp_pf (I 159) c n)), .int (nI (n - i))], [])) (h' := (G, (vm_tw2 I 159 160 n i), F)) (hs' := []) rfl rfl ?_
              refine vm_J.br (fun c7 => ?_) (fun c7 => ?_)
              · have c7 := vm_le_t (a := n - i) (b := (sp_pf (I 159) c n)) (by omega) (by omega) c7
                exact (show False by omega).elim
              · have c7 := vm_le_f (a := n - i) (b := (sp_pf (I 159) c n)) (by omega) (by omega) c7
                refine vm_J.go vm_q187 (k := 19) (hs := [vm_shR, vm_shR, (0, 144, []), (0, 144, []), vm_shR, vm_shR, (0, 144, [])]) (f' := (92, (0, 0), [.ref 152, .int c, .int (nI (sp_pf (I 159) c n)), .int (nI (n - i))], [.int ((vm_up (vm_tw2 I 159 160 n i) 159 ((nI (n - i)).toNatClampNeg) ((vm_tw2 I 159 160 n i) 159 ((nI (n - i)) - 1).toNatClampNeg)) 160 ((nI (n - i)) - 1).toNatClampNeg), .int (nI (n - i)), .ref 160])) (h' := (G, (vm_up (vm_tw2 I 159 160 n i) 159 ((nI (n - i)).toNatClampNeg) ((vm_tw2 I 159 160 n i) 159 ((nI (n - i)) - 1).toNatClampNeg)), F)) (hs' := []) rfl (vm_b2 rfl (vm_b2 (vm_b2 (vm_hG hR.c152) rfl) (vm_b2 rfl (vm_b2 rfl (vm_b2 (vm_b2 (vm_hG hR.c152) rfl) (vm_b2 rfl (vm_b2 rfl (vm_b2 rfl (vm_b2 (vm_b2 (vm_hG hR.c159) (vm_in_e (j := (n - i) - 1) (n := 144) (vm_ps (rfl : (nI (n - i) : Int32) = nI (n - i)) (rfl : (1 : Int32) = nI 1) (by omega)) (by omega) (by omega))) (vm_b2 (vm_b2 (vm_hG hR.c159) (vm_in_e (j := n - i) (n := 144) rfl (by omega) (by omega))) (vm_b2 rfl (vm_b2 (vm_b2 (vm_hG hR.c152) rfl) (vm_b2 rfl (vm_b2 rfl (vm_b2 (vm_b2 (vm_hG hR.c152) rfl) (vm_b2 rfl (vm_b2 rfl (vm_b2 rfl (vm_b2 (vm_b2 (vm_hG hR.c160) (vm_in_e (j := (n - i) - 1) (n := 144) (vm_ps (rfl : (nI (n - i) : Int32) = nI (n - i)) (rfl : (1 : Int32) = nI 1) (by omega)) (by omega) (by omega))) rfl))))))))))))))))))) ?_
                rw [vm_ix_e (j := (n - i) - 1) (vm_ps (rfl : (nI (n - i) : Int32) = nI (n - i)) (rfl : (1 : Int32) = nI 1) (by omega)) (by omega), vm_ix_e (j := n - i) rfl (by omega)]
                rw [((congrFun (vm_up_f _ 159 _ _ 160 (by decide)) ((n - i) - 1)) : (vm_up (vm_tw2 I 159 160 n i) 159 ((n - i)) ((vm_tw2 I 159 160 n i) 159 ((n - i) - 1))) 160 ((n - i) - 1) = (vm_tw2 I 159 160 n i) 160 ((n - i) - 1))]
                refine vm_J.go vm_q187 (k := 3) (hs := [(0, 144, [])]) (f' := (60, (0, 0), [.ref 152, .int c, .int (nI (sp_pf (I 159) c n)), .int ((nI (n - i)) + (-1))], [])) (h' := (G, (vm_up (vm_up (vm_tw2 I 159 160 n i) 159 ((n - i)) ((vm_tw2 I 159 160 n i) 159 ((n - i) - 1))) 160 ((nI (n - i)).toNatClampNeg) ((vm_tw2 I 159 160 n i) 160 ((n - i) - 1))), F)) (hs' := []) rfl (vm_b2 (vm_b2 (vm_hG hR.c160) (vm_in_e (j := n - i) (n := 144) rfl (by omega) (by omega))) (vm_b2 rfl (vm_b2 rfl rfl))) ?_
                rw [vm_ix_e (j := n - i) rfl (by omega), ((vm_dec (rfl : nI (n - i) = nI (n - i)) (by omega)) : (nI (n - i)) + (-1) = nI ((n - i) - 1))]
                rw [vm_tw2_t I 159 160 n i (by decide) (by omega)]
                exact ii trivial
            · show vm_J _ _ _ (60, (0, 0), [.ref 152, .int c, .int (nI (sp_pf (I 159) c n)), .int (nI (n - (n - (sp_pf (I 159) c n))))], []) (G, (vm_tw2 I 159 160 n (n - (sp_pf (I 159) c n))), F) _ _
              refine vm_J.go vm_q187 (k := 3) (hs := []) (f' := (bif vm_ic .le (nI (n - (n - (sp_pf (I 159) c n)))) (nI (sp_pf (I 159) c n)) then 99 else 65, (0, 0), [.ref 152, .int c, .int (nI (sp_pf (I 159) c n)), .int (nI (n - (n - (sp_pf (I 159) c n))))], [])) (h' := (G, (vm_tw2 I 159 160 n (n - (sp_pf (I 159) c n))), F)) (hs' := []) rfl rfl ?_
              refine vm_J.br (fun c8 => ?_) (fun c8 => ?_)
              · have c8 := vm_le_t (a := n - (n - (sp_pf (I 159) c n))) (b := (sp_pf (I 159) c n)) (by omega) (by omega) c8
                refine vm_J.go vm_q187 (k := 13) (hs := [vm_shR, (0, 144, []), vm_shR, (0, 144, []), vm_shR]) (f' := (118, (0, 0), [.ref 152, .int c, .int (nI (sp_pf (I 159) c n)), .int (nI (n - (n - (sp_pf (I 159) c n))))], [.int ((vm_up (vm_up (vm_tw2 I 159 160 n (n - (sp_pf (I 159) c n))) 159 ((nI (sp_pf (I 159) c n)).toNatClampNeg) c) 160 ((nI (sp_pf (I 159) c n)).toNatClampNeg) 1) 152 14), .ref 152])) (h' := (G, (vm_up (vm_up (vm_tw2 I 159 160 n (n - (sp_pf (I 159) c n))) 159 ((nI (sp_pf (I 159) c n)).toNatClampNeg) c) 160 ((nI (sp_pf (I 159) c n)).toNatClampNeg) 1), F)) (hs' := []) rfl (vm_b2 rfl (vm_b2 (vm_b2 (vm_hG hR.c152) rfl) (vm_b2 rfl (vm_b2 rfl (vm_b2 (vm_b2 (vm_hG hR.c159) (vm_in_e (j := (sp_pf (I 159) c n)) (n := 144) rfl (by omega) (by omega))) (vm_b2 rfl (vm_b2 (vm_b2 (vm_hG hR.c152) rfl) (vm_b2 rfl (vm_b2 rfl (vm_b2 (vm_b2 (vm_hG hR.c160) (vm_in_e (j := (sp_pf (I 159) c n)) (n := 144) rfl (by omega) (by omega))) (vm_b2 rfl (vm_b2 rfl (vm_b2 (vm_b2 (vm_hG hR.c152) rfl) rfl))))))))))))) ?_
                rw [vm_ix_e (j := (sp_pf (I 159) c n)) rfl (by omega)]
                rw [((Eq.trans (congrFun (vm_up_f _ 160 _ _ 152 (by decide)) 14) (Eq.trans (congrFun (vm_up_f _ 159 _ _ 152 (by decide)) 14) (Eq.trans (congrFun (funext fun z => vm_tw2_o _ 159 160 n (n - (sp_pf (I 159) c n)) 152 (by decide) (by decide) z) 14) hn))) : (vm_up (vm_up (vm_tw2 I 159 160 n (n - (sp_pf (I 159) c n))) 159 ((sp_pf (I 159) c n)) c) 160 ((sp_pf (I 159) c n)) 1) 152 14 = nI n)]
                refine vm_J.go vm_q187 (k := 2) (hs := []) (f' := (120, (0, 0), [.ref 152, .int c, .int (nI (sp_pf (I 159) c n)), .int (nI (n - (n - (sp_pf (I 159) c n))))], [.int ((nI n) + 1), .ref 152])) (h' := (G, (vm_up (vm_up (vm_tw2 I 159 160 n (n - (sp_pf (I 159) c n))) 159 ((sp_pf (I 159) c n)) c) 160 ((sp_pf (I 159) c n)) 1), F)) (hs' := []) rfl rfl ?_
                rw [((vm_pa (rfl : (nI n : Int32) = nI n) (rfl : (1 : Int32) = nI 1)) : (nI n) + 1 = nI (n + 1))]
                refine vm_J.go vm_q187 (k := 1) (hs := [vm_shR]) (f' := (123, (0, 0), [.ref 152, .int c, .int (nI (sp_pf (I 159) c n)), .int (nI (n - (n - (sp_pf (I 159) c n))))], [])) (h' := (G, (vm_up (vm_up (vm_up (vm_tw2 I 159 160 n (n - (sp_pf (I 159) c n))) 159 ((sp_pf (I 159) c n)) c) 160 ((sp_pf (I 159) c n)) 1) 152 14 (nI (n + 1))), F)) (hs' := []) rfl (vm_b2 (vm_b2 (vm_b2 (vm_hG hR.c152) rfl) rfl) rfl) ?_
                exact vm_J.end vm_q187 (en := (123, .return_, 1, [], .null)) rfl rfl vm_rV (Nat.zero_le _) (Nat.zero_le _) rfl
              · have c8 := vm_le_f (a := n - (n - (sp_pf (I 159) c n))) (b := (sp_pf (I 159) c n)) (by omega) (by omega) c8
                exact (show False by omega).elim
          · have c6 : (I 159 (sp_pf (I 159) c n)) = c := Decidable.of_not_not (of_decide_eq_false c6)
            refine vm_J.go vm_q187 (k := 8) (hs := [vm_shR, (0, 144, []), (0, 144, [])]) (f' := (54, (0, 0), [.ref 152, .int c, .int (nI (sp_pf (I 159) c n)), .retAddr 0], [])) (h' := (G, (vm_up I 160 ((nI (sp_pf (I 159) c n)).toNatClampNeg) ((I 160 (nI (sp_pf (I 159) c n)).toNatClampNeg) + 1)), F)) (hs' := []) rfl (vm_b2 rfl (vm_b2 (vm_b2 (vm_hG hR.c152) rfl) (vm_b2 rfl (vm_b2 rfl (vm_b2 (vm_b2 (vm_hG hR.c160) (vm_in_e (j := (sp_pf (I 159) c n)) (n := 144) rfl (by omega) (by omega))) (vm_b2 rfl (vm_b2 rfl (vm_b2 (vm_b2 (vm_hG hR.c160) (vm_in_e (j := (sp_pf (I 159) c n)) (n := 144) rfl (by omega) (by omega))) rfl)))))))) ?_
            rw [vm_ix_e (j := (sp_pf (I 159) c n)) rfl (by omega)]
            rw [if_pos ⟨by omega, c6⟩]
            exact vm_J.end vm_q187 (en := (54, .return_, 1, [], .null)) rfl rfl vm_rV (Nat.zero_le _) (Nat.zero_le _) rfl
      · have c2 : ¬ (c ≤ (I 159 j)) := of_decide_eq_false c2
        refine vm_J.go vm_q187 (k := 2) (hs := []) (f' := (2, (0, 0), [.ref 152, .int c, .int ((nI j) + 1), .retAddr 0], [])) (h' := (G, I, F)) (hs' := []) rfl rfl ?_
        rw [((vm_pa (rfl : nI j = nI j) (rfl : (1 : Int32) = nI 1)) : (nI j) + 1 = nI (j + 1))]
        exact ij (vm_alls (p := fun k => I 159 k < c) pj (vm_nge_lt c2))
  · show vm_J _ _ _ (2, (0, 0), [.ref 152, .int c, .int (nI n), .retAddr 0], []) (G, I, F) _ _
    refine vm_J.go vm_q187 (k := 3) (hs := [vm_shR]) (f' := (7, (0, 0), [.ref 152, .int c, .int (nI n), .retAddr 0], [.int (I 152 14), .int (nI n)])) (h' := (G, I, F)) (hs' := []) rfl (vm_b2 rfl (vm_b2 rfl (vm_b2 (vm_b2 (vm_hG hR.c152) rfl) rfl))) ?_
    rw [(hn : I 152 14 = nI n)]
    refine vm_J.go vm_q187 (k := 1) (hs := []) (f' := (bif vm_ic .ge (nI n) (nI n) then 26 else 10, (0, 0), [.ref 152, .int c, .int (nI n), .retAddr 0], [])) (h' := (G, I, F)) (hs' := []) rfl rfl ?_
    refine vm_J.br (fun c9 => ?_) (fun c9 => ?_)
    · have c9 := vm_ge_t (a := n) (b := n) (by omega) (by omega) c9
      have hpl : n = (sp_pf (I 159) c n) := sp_pf_0 pj
      have hpn := sp_pf_n (I 159) c n
      rw [show nI n = nI (sp_pf (I 159) c n) from congrArg nI hpl]
      show vm_J _ _ _ (26, (0, 0), [.ref 152, .int c, .int (nI (sp_pf (I 159) c n)), .retAddr 0], []) (G, I, F) _ _
      clear hpl pj
      refine vm_J.go vm_q187 (k := 3) (hs := [vm_shR]) (f' := (31, (0, 0), [.ref 152, .int c, .int (nI (sp_pf (I 159) c n)), .retAddr 0], [.int (I 152 14), .int (nI (sp_pf (I 159) c n))])) (h' := (G, I, F)) (hs' := []) rfl (vm_b2 rfl (vm_b2 rfl (vm_b2 (vm_b2 (vm_hG hR.c152) rfl) rfl))) ?_
      rw [(hn : I 152 14 = nI n)]
      refine vm_J.go vm_q187 (k := 1) (hs := []) (f' := (bif vm_ic .ge (nI (sp_pf (I 159) c n)) (nI n) then 55 else 34, (0, 0), [.ref 152, .int c, .int (nI (sp_pf (I 159) c n)), .retAddr 0], [])) (h' := (G, I, F)) (hs' := []) rfl rfl ?_
      refine vm_J.br (fun c10 => ?_) (fun c10 => ?_)
      · have c10 := vm_ge_t (a := (sp_pf (I 159) c n)) (b := n) (by omega) (by omega) c10
        refine vm_J.go vm_q187 (k := 2) (hs := [vm_shR]) (f' := (59, (0, 0), [.ref 152, .int c, .int (nI (sp_pf (I 159) c n)), .retAddr 0], [.int (I 152 14)])) (h' := (G, I, F)) (hs' := []) rfl (vm_b2 rfl (vm_b2 (vm_b2 (vm_hG hR.c152) rfl) rfl)) ?_
        rw [(hn : I 152 14 = nI n)]
        refine vm_J.go vm_q187 (k := 1) (hs := []) (f' := (60, (0, 0), [.ref 152, .int c, .int (nI (sp_pf (I 159) c n)), .int (nI n)], [])) (h' := (G, I, F)) (hs' := []) rfl rfl ?_
        rw [if_neg (fun z => absurd z.1 (by omega))]
        refine vm_J.cnt (n - (sp_pf (I 159) c n)) (fun i => (60, (0, 0), [.ref 152, .int c, .int (nI (sp_pf (I 159) c n)), .int (nI (n - i))], [])) (fun i => (G, (vm_tw2 I 159 160 n i), F)) (fun _ => True) rfl (by rw [← vm_tw2_0]) trivial (fun i hi pi ii => ?_) (fun pi => ?_)
        · show vm_J _ _ _ (60, (0, 0), [.ref 152, .int c, .int (nI (sp_pf (I 159) c n)), .int (nI (n - i))], []) (G, (vm_tw2 I 159 160 n i), F) _ _
          refine vm_J.go vm_q187 (k := 3) (hs := []) (f' := (bif vm_ic .le (nI (n - i)) (nI (sp_pf (I 159) c n)) then 99 else 65, (0, 0), [.ref 152, .int c, .int (nI (sp_pf (I 159) c n)), .int (nI (n - i))], [])) (h' := (G, (vm_tw2 I 159 160 n i), F)) (hs' := []) rfl rfl ?_
          refine vm_J.br (fun c11 => ?_) (fun c11 => ?_)
          · have c11 := vm_le_t (a := n - i) (b := (sp_pf (I 159) c n)) (by omega) (by omega) c11
            exact (show False by omega).elim
          · have c11 := vm_le_f (a := n - i) (b := (sp_pf (I 159) c n)) (by omega) (by omega) c11
            refine vm_J.go vm_q187 (k := 19) (hs := [vm_shR, vm_shR, (0, 144, []), (0, 144, []), vm_shR, vm_shR, (0, 144, [])]) (f' := (92, (0, 0), [.ref 152, .int c, .int (nI (sp_pf (I 159) c n)), .int (nI (n - i))], [.int ((vm_up (vm_tw2 I 159 160 n i) 159 ((nI (n - i)).toNatClampNeg) ((vm_tw2 I 159 160 n i) 159 ((nI (n - i)) - 1).toNatClampNeg)) 160 ((nI (n - i)) - 1).toNatClampNeg), .int (nI (n - i)), .ref 160])) (h' := (G, (vm_up (vm_tw2 I 159 160 n i) 159 ((nI (n - i)).toNatClampNeg) ((vm_tw2 I 159 160 n i) 159 ((nI (n - i)) - 1).toNatClampNeg)), F)) (hs' := []) rfl (vm_b2 rfl (vm_b2 (vm_b2 (vm_hG hR.c152) rfl) (vm_b2 rfl (vm_b2 rfl (vm_b2 (vm_b2 (vm_hG hR.c152) rfl) (vm_b2 rfl (vm_b2 rfl (vm_b2 rfl (vm_b2 (vm_b2 (vm_hG hR.c159) (vm_in_e (j := (n - i) - 1) (n := 144) (vm_ps (rfl : (nI (n - i) : Int32) = nI (n - i)) (rfl : (1 : Int32) = nI 1) (by omega)) (by omega) (by omega))) (vm_b2 (vm_b2 (vm_hG hR.c159) (vm_in_e (j := n - i) (n := 144) rfl (by omega) (by omega))) (vm_b2 rfl (vm_b2 (vm_b2 (vm_hG hR.c152) rfl) (vm_b2 rfl (vm_b2 rfl (vm_b2 (vm_b2 (vm_hG hR.c152) rfl) (vm_b2 rfl (vm_b2 rfl (vm_b2 rfl (vm_b2 (vm_b2 (vm_hG hR.c160) (vm_in_e (j := (n - i) - 1) (n := 144) (vm_ps (rfl : (nI (n - i) : Int32) = nI (n - i)) (rfl : (1 : Int32) = nI 1) (by omega)) (by omega) (by omega))) rfl))))))))))))))))))) ?_
            rw [vm_ix_e (j := (n - i) - 1) (vm_ps (rfl : (nI (n - i) : Int32) = nI (n - i)) (rfl : (1 : Int32) = nI 1) (by omega)) (by omega), vm_ix_e (j := n - i) rfl (by omega)]
            rw [((congrFun (vm_up_f _ 159 _ _ 160 (by decide)) ((n - i) - 1)) : (vm_up (vm_tw2 I 159 160 n i) 159 ((n - i)) ((vm_tw2 I 159 160 n i) 159 ((n - i) - 1))) 160 ((n - i) - 1) = (vm_tw2 I 159 160 n i) 160 ((n - i) - 1))]
            refine vm_J.go vm_q187 (k := 3) (hs := [(0, 144, [])]) (f' := (60, (0, 0), [.ref 152, .int c, .int (nI (sp_pf (I 159) c n)), .int ((nI (n - i)) + (-1))], [])) (h' := (G, (vm_up (vm_up (vm_tw2 I 159 160 n i) 159 ((n - i)) ((vm_tw2 I 159 160 n i) 159 ((n - i) - 1))) 160 ((nI (n - i)).toNatClampNeg) ((vm_tw2 I 159 160 n i) 160 ((n - i) - 1))), F)) (hs' := []) rfl (vm_b2 (vm_b2 (vm_hG hR.c160) (vm_in_e (j := n - i) (n := 144) rfl (by omega) (by omega))) (vm_b2 rfl (vm_b2 rfl rfl))) ?_
            rw [vm_ix_e (j := n - i) rfl (by omega), ((vm_dec (rfl : nI (n - i) = nI (n - i)) (by omega)) : (nI (n - i)) + (-1) = nI ((n - i) - 1))]
            rw [vm_tw2_t I 159 160 n i (by decide) (by omega)]
            exact ii trivial
        · show vm_J _ _ _ (60, (0, 0), [.ref 152, .int c, .int (nI (sp_pf (I 159) c n)), .int (nI (n - (n - (sp_pf (I 159) c n))))], []) (G, (vm_tw2 I 159 160 n (n - (sp_pf (I 159) c n))), F) _ _
          refine vm_J.go vm_q187 (k := 3) (hs := []) (f' := (bif vm_ic .le (nI (n - (n - (sp_pf (I 159) c n)))) (nI (sp_pf (I 159) c n)) then 99 else 65, (0, 0), [.ref 152, .int c, .int (nI (sp_pf (I 159) c n)), .int (nI (n - (n - (sp_pf (I 159) c n))))], [])) (h' := (G, (vm_tw2 I 159 160 n (n - (sp_pf (I 159) c n))), F)) (hs' := []) rfl rfl ?_
          refine vm_J.br (fun c12 => ?_) (fun c12 => ?_)
          · have c12 := vm_le_t (a := n - (n - (sp_pf (I 159) c n))) (b := (sp_pf (I 159) c n)) (by omega) (by omega) c12
            refine vm_J.go vm_q187 (k := 13) (hs := [vm_shR, (0, 144, []), vm_shR, (0, 144, []), vm_shR]) (f' := (118, (0, 0), [.ref 152, .int c, .int (nI (sp_pf (I 159) c n)), .int (nI (n - (n - (sp_pf (I 159) c n))))], [.int ((vm_up (vm_up (vm_tw2 I 159 160 n (n - (sp_pf (I 159) c n))) 159 ((nI (sp_pf (I 159) c n)).toNatClampNeg) c) 160 ((nI (sp_pf (I 159) c n)).toNatClampNeg) 1) 152 14), .ref 152])) (h' := (G, (vm_up (vm_up (vm_tw2 I 159 160 n (n - (sp_pf (I 159) c n))) 159 ((nI (sp_pf (I 159) c n)).toNatClampNeg) c) 160 ((nI (sp_pf (I 159) c n)).toNatClampNeg) 1), F)) (hs' := []) rfl (vm_b2 rfl (vm_b2 (vm_b2 (vm_hG hR.c152) rfl) (vm_b2 rfl (vm_b2 rfl (vm_b2 (vm_b2 (vm_hG hR.c159) (vm_in_e (j := (sp_pf (I 159) c n)) (n := 144) rfl (by omega) (by omega))) (vm_b2 rfl (vm_b2 (vm_b2 (vm_hG hR.c152) rfl) (vm_b2 rfl (vm_b2 rfl (vm_b2 (vm_b2 (vm_hG hR.c160) (vm_in_e (j := (sp_pf (I 159) c n)) (n := 144) rfl (by omega) (by omega))) (vm_b2 rfl (vm_b2 rfl (vm_b2 (vm_b2 (vm_hG hR.c152) rfl) rfl))))))))))))) ?_
            rw [vm_ix_e (j := (sp_pf (I 159) c n)) rfl (by omega)]
            rw [((Eq.trans (congrFun (vm_up_f _ 160 _ _ 152 (by decide)) 14) (Eq.trans (congrFun (vm_up_f _ 159 _ _ 152 (by decide)) 14) (Eq.trans (congrFun (funext fun z => vm_tw2_o _ 159 160 n (n - (sp_pf (I 159) c n)) 152 (by decide) (by decide) z) 14) hn))) : (vm_up (vm_up (vm_tw2 I 159 160 n (n - (sp_pf (I 159) c n))) 159 ((sp_pf (I 159) c n)) c) 160 ((sp_pf (I 159) c n)) 1) 152 14 = nI n)]
            refine vm_J.go vm_q187 (k := 2) (hs := []) (f' := (120, (0, 0), [.ref 152, .int c, .int (nI (sp_pf (I 159) c n)), .int (nI (n - (n - (sp_pf (I 159) c n))))], [.int ((nI n) + 1), .ref 152])) (h' := (G, (vm_up (vm_up (vm_tw2 I 159 160 n (n - (sp_pf (I 159) c n))) 159 ((sp_pf (I 159) c n)) c) 160 ((sp_pf (I 159) c n)) 1), F)) (hs' := []) rfl rfl ?_
            rw [((vm_pa (rfl : (nI n : Int32) = nI n) (rfl : (1 : Int32) = nI 1)) : (nI n) + 1 = nI (n + 1))]
            refine vm_J.go vm_q187 (k := 1) (hs := [vm_shR]) (f' := (123, (0, 0), [.ref 152, .int c, .int (nI (sp_pf (I 159) c n)), .int (nI (n - (n - (sp_pf (I 159) c n))))], [])) (h' := (G, (vm_up (vm_up (vm_up (vm_tw2 I 159 160 n (n - (sp_pf (I 159) c n))) 159 ((sp_pf (I 159) c n)) c) 160 ((sp_pf (I 159) c n)) 1) 152 14 (nI (n + 1))), F)) (hs' := []) rfl (vm_b2 (vm_b2 (vm_b2 (vm_hG hR.c152) rfl) rfl) rfl) ?_
            exact vm_J.end vm_q187 (en := (123, .return_, 1, [], .null)) rfl rfl vm_rV (Nat.zero_le _) (Nat.zero_le _) rfl
          · have c12 := vm_le_f (a := n - (n - (sp_pf (I 159) c n))) (b := (sp_pf (I 159) c n)) (by omega) (by omega) c12
            exact (show False by omega).elim
      · have c10 := vm_ge_f (a := (sp_pf (I 159) c n)) (b := n) (by omega) (by omega) c10
        refine vm_J.go vm_q187 (k := 5) (hs := [vm_shR, (0, 144, [])]) (f' := (41, (0, 0), [.ref 152, .int c, .int (nI (sp_pf (I 159) c n)), .retAddr 0], [.int c, .int (I 159 (nI (sp_pf (I 159) c n)).toNatClampNeg)])) (h' := (G, I, F)) (hs' := []) rfl (vm_b2 rfl (vm_b2 (vm_b2 (vm_hG hR.c152) rfl) (vm_b2 rfl (vm_b2 (vm_b2 (vm_hG hR.c159) (vm_in_e (j := (sp_pf (I 159) c n)) (n := 144) rfl (by omega) (by omega))) (vm_b2 rfl rfl))))) ?_
        rw [vm_ix_e (j := (sp_pf (I 159) c n)) rfl (by omega)]
        refine vm_J.go vm_q187 (k := 1) (hs := []) (f' := (bif vm_ic .ne (I 159 (sp_pf (I 159) c n)) c then 55 else 44, (0, 0), [.ref 152, .int c, .int (nI (sp_pf (I 159) c n)), .retAddr 0], [])) (h' := (G, I, F)) (hs' := []) rfl rfl ?_
        refine vm_J.br (fun c13 => ?_) (fun c13 => ?_)
        · have c13 : ¬ (I 159 (sp_pf (I 159) c n)) = c := of_decide_eq_true c13
          refine vm_J.go vm_q187 (k := 2) (hs := [vm_shR]) (f' := (59, (0, 0), [.ref 152, .int c, .int (nI (sp_pf (I 159) c n)), .retAddr 0], [.int (I 152 14)])) (h' := (G, I, F)) (hs' := []) rfl (vm_b2 rfl (vm_b2 (vm_b2 (vm_hG hR.c152) rfl) rfl)) ?_
          rw [(hn : I 152 14 = nI n)]
          refine vm_J.go vm_q187 (k := 1) (hs := []) (f' := (60, (0, 0), [.ref 152, .int c, .int (nI (sp_pf (I 159) c n)), .int (nI n)], [])) (h' := (G, I, F)) (hs' := []) rfl rfl ?_
          rw [if_neg (fun z => c13 z.2)]
          refine vm_J.cnt (n - (sp_pf (I 159) c n)) (fun i => (60, (0, 0), [.ref 152, .int c, .int (nI (sp_pf (I 159) c n)), .int (nI (n - i))], [])) (fun i => (G, (vm_tw2 I 159 160 n i), F)) (fun _ => True) rfl (by rw [← vm_tw2_0]) trivial (fun i hi pi ii => ?_) (fun pi => ?_)
          · show vm_J _ _ _ (60, (0, 0), [.ref 152, .int c, .int (nI (sp_pf (I 159) c n)), .int (nI (n - i))], []) (G, (vm_tw2 I 159 160 n i), F) _ _
            refine vm_J.go vm_q187 (k := 3) (hs := []) (f' := (bif vm_ic .le (nI (n - i)) (nI (sp_pf (I 159) c n)) then 99 else 65, (0, 0), [.ref 152, .int c, .int (nI (sp_pf (I 159) c n)), .int (nI (n - i))], [])) (h' := (G, (vm_tw2 I 159 160 n i), F)) (hs' := []) rfl rfl ?_
            refine vm_J.br (fun c14 => ?_) (fun c14 => ?_)
            · have c14 := vm_le_t (a := n - i) (b := (sp_pf (I 159) c n)) (by omega) (by omega) c14
              exact (show False by omega).elim
            · have c14 := vm_le_f (a := n - i) (b := (sp_pf (I 159) c n)) (by omega) (by omega) c14
              refine vm_J.go vm_q187 (k := 19) (hs := [vm_shR, vm_shR, (0, 144, []), (0, 144, []), vm_shR, vm_shR, (0, 144, [])]) (f' := (92, (0, 0), [.ref 152, .int c, .int (nI (sp_pf (I 159) c n)), .int (nI (n - i))], [.int ((vm_up (vm_tw2 I 159 160 n i) 159 ((nI (n - i)).toNatClampNeg) ((vm_tw2 I 159 160 n i) 159 ((nI (n - i)) - 1).toNatClampNeg)) 160 ((nI (n - i)) - 1).toNatClampNeg), .int (nI (n - i)), .ref 160])) (h' := (G, (vm_up (vm_tw2 I 159 160 n i) 159 ((nI (n - i)).toNatClampNeg) ((vm_tw2 I 159 160 n i) 159 ((nI (n - i)) - 1).toNatClampNeg)), F)) (hs' := []) rfl (vm_b2 rfl (vm_b2 (vm_b2 (vm_hG hR.c152) rfl) (vm_b2 rfl (vm_b2 rfl (vm_b2 (vm_b2 (vm_hG hR.c152) rfl) (vm_b2 rfl (vm_b2 rfl (vm_b2 rfl (vm_b2 (vm_b2 (vm_hG hR.c159) (vm_in_e (j := (n - i) - 1) (n := 144) (vm_ps (rfl : (nI (n - i) : Int32) = nI (n - i)) (rfl : (1 : Int32) = nI 1) (by omega)) (by omega) (by omega))) (vm_b2 (vm_b2 (vm_hG hR.c159) (vm_in_e (j := n - i) (n := 144) rfl (by omega) (by omega))) (vm_b2 rfl (vm_b2 (vm_b2 (vm_hG hR.c152) rfl) (vm_b2 rfl (vm_b2 rfl (vm_b2 (vm_b2 (vm_hG hR.c152) rfl) (vm_b2 rfl (vm_b2 rfl (vm_b2 rfl (vm_b2 (vm_b2 (vm_hG hR.c160) (vm_in_e (j := (n - i) - 1) (n := 144) (vm_ps (rfl : (nI (n - i) : Int32) = nI (n - i)) (rfl : (1 : Int32) = nI 1) (by omega)) (by omega) (by omega))) rfl))))))))))))))))))) ?_
              rw [vm_ix_e (j := (n - i) - 1) (vm_ps (rfl : (nI (n - i) : Int32) = nI (n - i)) (rfl : (1 : Int32) = nI 1) (by omega)) (by omega), vm_ix_e (j := n - i) rfl (by omega)]
              rw [((congrFun (vm_up_f _ 159 _ _ 160 (by decide)) ((n - i) - 1)) : (vm_up (vm_tw2 I 159 160 n i) 159 ((n - i)) ((vm_tw2 I 159 160 n i) 159 ((n - i) - 1))) 160 ((n - i) - 1) = (vm_tw2 I 159 160 n i) 160 ((n - i) - 1))]
              refine vm_J.go vm_q187 (k := 3) (hs := [(0, 144, [])]) (f' := (60, (0, 0), [.ref 152, .int c, .int (nI (sp_pf (I 159) c n)), .int ((nI (n - i)) + (-1))], [])) (h' := (G, (vm_up (vm_up (vm_tw2 I 159 160 n i) 159 ((n - i)) ((vm_tw2 I 159 160 n i) 159 ((n - i) - 1))) 160 ((nI (n - i)).toNatClampNeg) ((vm_tw2 I 159 160 n i) 160 ((n - i) - 1))), F)) (hs' := []) rfl (vm_b2 (vm_b2 (vm_hG hR.c160) (vm_in_e (j := n - i) (n := 144) rfl (by omega) (by omega))) (vm_b2 rfl (vm_b2 rfl rfl))) ?_
              rw [vm_ix_e (j := n - i) rfl (by omega), ((vm_dec (rfl : nI (n - i) = nI (n - i)) (by omega)) : (nI (n - i)) + (-1) = nI ((n - i) - 1))]
              rw [vm_tw2_t I 159 160 n i (by decide) (by omega)]
              exact ii trivial
          · show vm_J _ _ _ (60, (0, 0), [.ref 152, .int c, .int (nI (sp_pf (I 159) c n)), .int (nI (n - (n - (sp_pf (I 159) c n))))], []) (G, (vm_tw2 I 159 160 n (n - (sp_pf (I 159) c n))), F) _ _
            refine vm_J.go vm_q187 (k := 3) (hs := []) (f' := (bif vm_ic .le (nI (n - (n - (sp_pf (I 159) c n)))) (nI (sp_pf (I 159) c n)) then 99 else 65, (0, 0), [.ref 152, .int c, .int (nI (sp_pf (I 159) c n)), .int (nI (n - (n - (sp_pf (I 159) c n))))], [])) (h' := (G, (vm_tw2 I 159 160 n (n - (sp_pf (I 159) c n))), F)) (hs' := []) rfl rfl ?_
            refine vm_J.br (fun c15 => ?_) (fun c15 => ?_)
            · have c15 := vm_le_t (a := n - (n - (sp_pf (I 159) c n))) (b := (sp_pf (I 159) c n)) (by omega) (by omega) c15
              refine vm_J.go vm_q187 (k := 13) (hs := [vm_shR, (0, 144, []), vm_shR, (0, 144, []), vm_shR]) (f' := (118, (0, 0), [.ref 152, .int c, .int (nI (sp_pf (I 159) c n)), .int (nI (n - (n - (sp_pf (I 159) c n))))], [.int ((vm_up (vm_up (vm_tw2 I 159 160 n (n - (sp_pf (I 159) c n))) 159 ((nI (sp_pf (I 159) c n)).toNatClampNeg) c) 160 ((nI (sp_pf (I 159) c n)).toNatClampNeg) 1) 152 14), .ref 152])) (h' := (G, (vm_up (vm_up (vm_tw2 I 159 160 n (n - (sp_pf (I 159) c n))) 159 ((nI (sp_pf (I 159) c n)).toNatClampNeg) c) 160 ((nI (sp_pf (I 159) c n)).toNatClampNeg) 1), F)) (hs' := []) rfl (vm_b2 rfl (vm_b2 (vm_b2 (vm_hG hR.c152) rfl) (vm_b2 rfl (vm_b2 rfl (vm_b2 (vm_b2 (vm_hG hR.c159) (vm_in_e (j := (sp_pf (I 159) c n)) (n := 144) rfl (by omega) (by omega))) (vm_b2 rfl (vm_b2 (vm_b2 (vm_hG hR.c152) rfl) (vm_b2 rfl (vm_b2 rfl (vm_b2 (vm_b2 (vm_hG hR.c160) (vm_in_e (j := (sp_pf (I 159) c n)) (n := 144) rfl (by omega) (by omega))) (vm_b2 rfl (vm_b2 rfl (vm_b2 (vm_b2 (vm_hG hR.c152) rfl) rfl))))))))))))) ?_
              rw [vm_ix_e (j := (sp_pf (I 159) c n)) rfl (by omega)]
              rw [((Eq.trans (congrFun (vm_up_f _ 160 _ _ 152 (by decide)) 14) (Eq.trans (congrFun (vm_up_f _ 159 _ _ 152 (by decide)) 14) (Eq.trans (congrFun (funext fun z => vm_tw2_o _ 159 160 n (n - (sp_pf (I 159) c n)) 152 (by decide) (by decide) z) 14) hn))) : (vm_up (vm_up (vm_tw2 I 159 160 n (n - (sp_pf (I 159) c n))) 159 ((sp_pf (I 159) c n)) c) 160 ((sp_pf (I 159) c n)) 1) 152 14 = nI n)]
              refine vm_J.go vm_q187 (k := 2) (hs := []) (f' := (120, (0, 0), [.ref 152, .int c, .int (nI (sp_pf (I 159) c n)), .int (nI (n - (n - (sp_pf (I 159) c n))))], [.int ((nI n) + 1), .ref 152])) (h' := (G, (vm_up (vm_up (vm_tw2 I 159 160 n (n - (sp_pf (I 159) c n))) 159 ((sp_pf (I 159) c n)) c) 160 ((sp_pf (I 159) c n)) 1), F)) (hs' := []) rfl rfl ?_
              rw [((vm_pa (rfl : (nI n : Int32) = nI n) (rfl : (1 : Int32) = nI 1)) : (nI n) + 1 = nI (n + 1))]
              refine vm_J.go vm_q187 (k := 1) (hs := [vm_shR]) (f' := (123, (0, 0), [.ref 152, .int c, .int (nI (sp_pf (I 159) c n)), .int (nI (n - (n - (sp_pf (I 159) c n))))], [])) (h' := (G, (vm_up (vm_up (vm_up (vm_tw2 I 159 160 n (n - (sp_pf (I 159) c n))) 159 ((sp_pf (I 159) c n)) c) 160 ((sp_pf (I 159) c n)) 1) 152 14 (nI (n + 1))), F)) (hs' := []) rfl (vm_b2 (vm_b2 (vm_b2 (vm_hG hR.c152) rfl) rfl) rfl) ?_
              exact vm_J.end vm_q187 (en := (123, .return_, 1, [], .null)) rfl rfl vm_rV (Nat.zero_le _) (Nat.zero_le _) rfl
            · have c15 := vm_le_f (a := n - (n - (sp_pf (I 159) c n))) (b := (sp_pf (I 159) c n)) (by omega) (by omega) c15
              exact (show False by omega).elim
        · have c13 : (I 159 (sp_pf (I 159) c n)) = c := Decidable.of_not_not (of_decide_eq_false c13)
          refine vm_J.go vm_q187 (k := 8) (hs := [vm_shR, (0, 144, []), (0, 144, [])]) (f' := (54, (0, 0), [.ref 152, .int c, .int (nI (sp_pf (I 159) c n)), .retAddr 0], [])) (h' := (G, (vm_up I 160 ((nI (sp_pf (I 159) c n)).toNatClampNeg) ((I 160 (nI (sp_pf (I 159) c n)).toNatClampNeg) + 1)), F)) (hs' := []) rfl (vm_b2 rfl (vm_b2 (vm_b2 (vm_hG hR.c152) rfl) (vm_b2 rfl (vm_b2 rfl (vm_b2 (vm_b2 (vm_hG hR.c160) (vm_in_e (j := (sp_pf (I 159) c n)) (n := 144) rfl (by omega) (by omega))) (vm_b2 rfl (vm_b2 rfl (vm_b2 (vm_b2 (vm_hG hR.c160) (vm_in_e (j := (sp_pf (I 159) c n)) (n := 144) rfl (by omega) (by omega))) rfl)))))))) ?_
          rw [vm_ix_e (j := (sp_pf (I 159) c n)) rfl (by omega)]
          rw [if_pos ⟨by omega, c13⟩]
          exact vm_J.end vm_q187 (en := (54, .return_, 1, [], .null)) rfl rfl vm_rV (Nat.zero_le _) (Nat.zero_le _) rfl
    · have c9 := vm_ge_f (a := n) (b := n) (by omega) (by omega) c9
      exact (show False by omega).elim
/-- the tally with one colour more -/
def vr_t1 (I : Nat → Nat → Int32) (n : Nat) (c : Int32) : (Nat → Nat → Int32) × Nat := if (sp_pf (I 159) c n) < n ∧ I 159 (sp_pf (I 159) c n) = c then ((vm_up I 160 (sp_pf (I 159) c n) (I 160 (sp_pf (I 159) c n) + 1)), n) else ((vm_up (vm_up (vm_up (vm_tw2 I 159 160 n (n - (sp_pf (I 159) c n))) 159 (sp_pf (I 159) c n) c) 160 (sp_pf (I 159) c n) 1) 152 14 (nI (n + 1))), n + 1)
theorem vr_t1_n (I : Nat → Nat → Int32) (n : Nat) (c : Int32) (hn : I 152 14 = nI n) : (vr_t1 I n c).1 152 14 = nI (vr_t1 I n c).2 ∧ (vr_t1 I n c).2 ≤ n + 1 := by
  unfold vr_t1
  split
  · refine ⟨?_, Nat.le_succ n⟩
    dsimp only
    rw [vm_up_o2 _ 160 _ _ 152 14 (by decide)]
    exact hn
  · refine ⟨?_, Nat.le_refl _⟩
    dsimp only
    exact vm_up_h _ _ _ _
theorem vr_t1_o (I : Nat → Nat → Int32) (n : Nat) (c : Int32) (x : Nat) (h0 : x ≠ 152) (h1 : x ≠ 159) (h2 : x ≠ 160) : (vr_t1 I n c).1 x = I x := by
  funext k
  unfold vr_t1
  split
  · exact vm_up_o2 _ _ _ _ _ _ h2
  · exact (vm_up_o2 _ _ _ _ _ _ h0).trans ((vm_up_o2 _ _ _ _ _ _ h2).trans ((vm_up_o2 _ _ _ _ _ _ h1).trans (vm_tw2_o I 159 160 n _ x h1 h2 k)))
theorem vr_t1_k (I : Nat → Nat → Int32) (n : Nat) (c : Int32) (k : Nat) (h : k ≠ 14) : (vr_t1 I n c).1 152 k = I 152 k := by
  unfold vr_t1
  split
  · dsimp only
    rw [vm_up_o2 _ 160 _ _ 152 k (by decide)]
  · exact (vm_up_k2 _ _ _ _ _ h).trans ((vm_up_o2 _ 160 _ _ 152 k (by decide)).trans ((vm_up_o2 _ 159 _ _ 152 k (by decide)).trans (vm_tw2_o I 159 160 n _ 152 (by decide) (by decide) k)))
/-- a picture's colours tallied -/
def vr_gth (I : Nat → Nat → Int32) (f : Nat → Int32) : Nat → (Nat → Nat → Int32) × Nat
  | 0 => (vm_up I 152 14 0, 0)
  | p + 1 => vr_t1 (vr_gth I f p).1 (vr_gth I f p).2 (f p)
theorem vr_gth_n (I : Nat → Nat → Int32) (f : Nat → Int32) : ∀ p, (vr_gth I f p).1 152 14 = nI (vr_gth I f p).2 ∧ (vr_gth I f p).2 ≤ p
  | 0 => ⟨(show vm_up I 152 14 0 152 14 = 0 from vm_up_h _ _ _ _), Nat.le_refl 0⟩
  | p + 1 => by
    have ih := vr_gth_n I f p
    have h := vr_t1_n (vr_gth I f p).1 (vr_gth I f p).2 (f p) ih.1
    exact ⟨h.1, Nat.le_trans h.2 (Nat.succ_le_succ ih.2)⟩
theorem vr_gth_o (I : Nat → Nat → Int32) (f : Nat → Int32) (x : Nat) (h0 : x ≠ 152) (h1 : x ≠ 159) (h2 : x ≠ 160) : ∀ p, (vr_gth I f p).1 x = I x
  | 0 => vm_up_f _ _ _ _ _ h0
  | p + 1 => (vr_t1_o _ _ _ x h0 h1 h2).trans (vr_gth_o I f x h0 h1 h2 p)
theorem vr_gth_k (I : Nat → Nat → Int32) (f : Nat → Int32) (k : Nat) (h : k ≠ 14) : ∀ p, (vr_gth I f p).1 152 k = I 152 k
  | 0 => (show vm_up I 152 14 0 152 k = I 152 k from vm_up_k2 _ _ _ _ _ h)
  | p + 1 => (vr_t1_k _ _ _ k h).trans (vr_gth_k I f k h p)
theorem r_comes1 {l : Launch} {X : vm_Cx} {G : List vm_Sh} {I : Nat → Nat → Int32} {F : Nat → Nat → UInt32} {n : Nat} {c : Int32} (hR : vm_isR G) (hn : I 152 14 = nI n) (hn2 : n < 144) : vm_K l X vm_M187 [.ref 152, .int c] (G, I, F) none (G, (vr_t1 I n c).1, F) := by
  have q := r_comes (l := l) (X := X) (F := F) (c := c) hR hn hn2
  unfold vr_t1
  by_cases h : (sp_pf (I 159) c n) < n ∧ I 159 (sp_pf (I 159) c n) = c
  · rw [if_pos h] at q ⊢
    exact q
  · rw [if_neg h] at q ⊢
    exact q
set_option maxHeartbeats 4000000 in
set_option maxRecDepth 20000 in
/-- DitherDeskModel.findColours -/
theorem r_find {l : Launch} {X : vm_Cx} {G : List vm_Sh} {I : Nat → Nat → Int32} {F : Nat → Nat → UInt32} {p : Nat} {w : Nat} {h : Nat} (hR : vm_isR G) (hw : I 153 p = nI w) (hh : I 154 p = nI h) (hp : p < 4) (hw2 : w ≤ 12) (hh2 : h ≤ 12) : vm_K l X vm_M188 [.ref 152, .int (nI p)] (G, I, F) (none) (G, ((vr_gth I (fun y => I 155 (144 * p + y)) (w * h)).1), F) := by
  refine vm_K.mk (by decide) (Nat.le_of_ble_eq_true rfl) ?_
  have hwh := vm_mul144 hw2 hh2
  show vm_J _ _ _ (0, (0, 0), [.ref 152, .int (nI p), .retAddr 0], []) _ _ _
  refine vm_J.go vm_q188 (k := 5) (hs := [vm_shR]) (f' := (7, (0, 0), [.ref 152, .int (nI p), .int 0], [])) (h' := (G, (vm_up I 152 14 0), F)) (hs' := []) rfl (vm_b2 rfl (vm_b2 rfl (vm_b2 (vm_b2 (vm_b2 (vm_hG hR.c152) rfl) rfl) (vm_b2 rfl (vm_b2 rfl rfl))))) ?_
  refine vm_J.cnt (w * h) (fun k => (7, (0, 0), [.ref 152, .int (nI p), .int (nI k)], [])) (fun k => (G, ((vr_gth I (fun y => I 155 (144 * p + y)) k).1), F)) (fun _ => True) rfl rfl trivial (fun k hk pk ik => ?_) (fun pk => ?_)
  · show vm_J _ _ _ (7, (0, 0), [.ref 152, .int (nI p), .int (nI k)], []) (G, ((vr_gth I (fun y => I 155 (144 * p + y)) k).1), F) _ _
    refine vm_J.go vm_q188 (k := 3) (hs := []) (f' := (10, (0, 0), [.ref 152, .int (nI p), .int (nI k)], [.int (nI p), .ref 152, .int (nI k)])) (h' := (G, ((vr_gth I (fun y => I 155 (144 * p + y)) k).1), F)) (hs' := []) rfl rfl ?_
    refine vm_J.call vm_q188 (Z := vm_M175) (n := 1) (k := 0) (mi := 175) (pc := 10) (en := (10, .invokevirtual 152, 3, [175, 1305, 0], .null)) rfl trivial rfl rfl vm_z175 (av := [.ref 152, .int (nI p)]) (rest := [.int (nI k)]) (r_pix (p := p) (w := w) (h := h) hR (Eq.trans (congrFun (vr_gth_o _ _ 153 (by decide) (by decide) (by decide) _) p) hw) (Eq.trans (congrFun (vr_gth_o _ _ 154 (by decide) (by decide) (by decide) _) p) hh) (by omega)) ⟨_, _, rfl, rfl, _, 11, _, hR.c152, rfl, rfl, rfl⟩ (Nat.le_of_ble_eq_true rfl) ⟨Nat.le_of_ble_eq_true rfl, Nat.le_of_ble_eq_true rfl⟩ ⟨Nat.le_of_ble_eq_true rfl, Nat.le_of_ble_eq_true rfl⟩ ?_
    show vm_J _ _ _ (13, (0, 0), [.ref 152, .int (nI p), .int (nI k)], [.int (nI (w * h)), .int (nI k)]) (G, ((vr_gth I (fun y => I 155 (144 * p + y)) k).1), F) _ _
    refine vm_J.go vm_q188 (k := 1) (hs := []) (f' := (bif vm_ic .ge (nI k) (nI (w * h)) then 38 else 16, (0, 0), [.ref 152, .int (nI p), .int (nI k)], [])) (h' := (G, ((vr_gth I (fun y => I 155 (144 * p + y)) k).1), F)) (hs' := []) rfl rfl ?_
    refine vm_J.br (fun c1 => ?_) (fun c1 => ?_)
    · have c1 := vm_ge_t (a := k) (b := w * h) (by omega) (by omega) c1
      exact (show False by omega).elim
    · have c1 := vm_ge_f (a := k) (b := w * h) (by omega) (by omega) c1
      refine vm_J.go vm_q188 (k := 9) (hs := [vm_shR, (0, 576, [])]) (f' := (29, (0, 0), [.ref 152, .int (nI p), .int (nI k)], [.int (((vr_gth I (fun y => I 155 (144 * p + y)) k).1) 155 ((144 * (nI p)) + (nI k)).toNatClampNeg), .ref 152])) (h' := (G, ((vr_gth I (fun y => I 155 (144 * p + y)) k).1), F)) (hs' := []) rfl (vm_b2 rfl (vm_b2 rfl (vm_b2 (vm_b2 (vm_hG hR.c152) rfl) (vm_b2 rfl (vm_b2 rfl (vm_b2 rfl (vm_b2 rfl (vm_b2 rfl (vm_b2 (vm_b2 (vm_hG hR.c155) (vm_in_e (j := (144 * p) + k) (n := 576) (vm_pa (vm_pm (rfl : (144 : Int32) = nI 144) (rfl : (nI p : Int32) = nI p)) (rfl : (nI k : Int32) = nI k)) (by omega) (by omega))) rfl))))))))) ?_
      rw [vm_ix_e (j := (144 * p) + k) (vm_pa (vm_pm (rfl : (144 : Int32) = nI 144) (rfl : (nI p : Int32) = nI p)) (rfl : (nI k : Int32) = nI k)) (by omega)]
      rw [((congrFun (vr_gth_o _ _ 155 (by decide) (by decide) (by decide) _) ((144 * p) + k)) : ((vr_gth I (fun y => I 155 (144 * p + y)) k).1) 155 ((144 * p) + k) = I 155 ((144 * p) + k))]
      refine vm_J.call vm_q188 (Z := vm_M187) (n := 1) (k := 0) (mi := 187) (pc := 29) (en := (29, .invokevirtual 191, 3, [187, 1363, 0], .null)) rfl trivial rfl rfl vm_z187 (av := [.ref 152, .int (I 155 ((144 * p) + k))]) (rest := []) (r_comes1 (n := (vr_gth I (fun y => I 155 (144 * p + y)) k).2) (c := I 155 ((144 * p) + k)) hR (vr_gth_n _ _ _).1 (Nat.lt_of_le_of_lt (vr_gth_n _ _ _).2 (by omega))) ⟨_, _, rfl, rfl, _, 11, _, hR.c152, rfl, rfl, rfl⟩ (Nat.le_of_ble_eq_true rfl) ⟨Nat.le_of_ble_eq_true rfl, Nat.le_of_ble_eq_true rfl⟩ ⟨Nat.le_of_ble_eq_true rfl, Nat.le_of_ble_eq_true rfl⟩ ?_
      show vm_J _ _ _ (32, (0, 0), [.ref 152, .int (nI p), .int (nI k)], []) (G, (vr_t1 ((vr_gth I (fun y => I 155 (144 * p + y)) k).1) (vr_gth I (fun y => I 155 (144 * p + y)) k).2 (I 155 ((144 * p) + k))).1, F) _ _
      refine vm_J.go vm_q188 (k := 2) (hs := []) (f' := (7, (0, 0), [.ref 152, .int (nI p), .int ((nI k) + 1)], [])) (h' := (G, (vr_t1 ((vr_gth I (fun y => I 155 (144 * p + y)) k).1) (vr_gth I (fun y => I 155 (144 * p + y)) k).2 (I 155 ((144 * p) + k))).1, F)) (hs' := []) rfl rfl ?_
      rw [((vm_pa (rfl : nI k = nI k) (rfl : (1 : Int32) = nI 1)) : (nI k) + 1 = nI (k + 1))]
      exact ik trivial
  · show vm_J _ _ _ (7, (0, 0), [.ref 152, .int (nI p), .int (nI (w * h))], []) (G, ((vr_gth I (fun y => I 155 (144 * p + y)) (w * h)).1), F) _ _
    refine vm_J.go vm_q188 (k := 3) (hs := []) (f' := (10, (0, 0), [.ref 152, .int (nI p), .int (nI (w * h))], [.int (nI p), .ref 152, .int (nI (w * h))])) (h' := (G, ((vr_gth I (fun y => I 155 (144 * p + y)) (w * h)).1), F)) (hs' := []) rfl rfl ?_
    refine vm_J.call vm_q188 (Z := vm_M175) (n := 1) (k := 0) (mi := 175) (pc := 10) (en := (10, .invokevirtual 152, 3, [175, 1305, 0], .null)) rfl trivial rfl rfl vm_z175 (av := [.ref 152, .int (nI p)]) (rest := [.int (nI (w * h))]) (r_pix (p := p) (w := w) (h := h) hR (Eq.trans (congrFun (vr_gth_o _ _ 153 (by decide) (by decide) (by decide) _) p) hw) (Eq.trans (congrFun (vr_gth_o _ _ 154 (by decide) (by decide) (by decide) _) p) hh) (by omega)) ⟨_, _, rfl, rfl, _, 11, _, hR.c152, rfl, rfl, rfl⟩ (Nat.le_of_ble_eq_true rfl) ⟨Nat.le_of_ble_eq_true rfl, Nat.le_of_ble_eq_true rfl⟩ ⟨Nat.le_of_ble_eq_true rfl, Nat.le_of_ble_eq_true rfl⟩ ?_
    show vm_J _ _ _ (13, (0, 0), [.ref 152, .int (nI p), .int (nI (w * h))], [.int (nI (w * h)), .int (nI (w * h))]) (G, ((vr_gth I (fun y => I 155 (144 * p + y)) (w * h)).1), F) _ _
    refine vm_J.go vm_q188 (k := 1) (hs := []) (f' := (bif vm_ic .ge (nI (w * h)) (nI (w * h)) then 38 else 16, (0, 0), [.ref 152, .int (nI p), .int (nI (w * h))], [])) (h' := (G, ((vr_gth I (fun y => I 155 (144 * p + y)) (w * h)).1), F)) (hs' := []) rfl rfl ?_
    refine vm_J.br (fun c2 => ?_) (fun c2 => ?_)
    · have c2 := vm_ge_t (a := (w * h)) (b := w * h) (by omega) (by omega) c2
      exact vm_J.end vm_q188 (en := (38, .return_, 1, [], .null)) rfl rfl vm_rV (Nat.zero_le _) (Nat.zero_le _) rfl
    · have c2 := vm_ge_f (a := (w * h)) (b := w * h) (by omega) (by omega) c2
      exact (show False by omega).elim
set_option maxHeartbeats 4000000 in
set_option maxRecDepth 20000 in
/-- DitherDeskModel.of -/
theorem r_of_0 {l : Launch} {X : vm_Cx} {G : List vm_Sh} {I : Nat → Nat → Int32} {F : Nat → Nat → UInt32} {p : Nat} {w : Nat} {h : Nat} (hR : vm_isR G) (hw : I 153 p = nI w) (hh : I 154 p = nI h) (hp : p < 4) (hw2 : w ≤ 12) (hh2 : h ≤ 12) (hw0 : 0 < w) : vm_K l X vm_M189 [.ref 152, .int (nI p), .int 0] (G, I, F) (some (.int (nI w))) (G, ((vr_gth I (fun y => I 155 (144 * p + y)) (w * h)).1), F) := by
  refine vm_K.mk (by decide) (Nat.le_of_ble_eq_true rfl) ?_
  have hwh := vm_mul144 hw2 hh2
  show vm_J _ _ _ (0, (0, 0), [.ref 152, .int (nI p), .int 0], []) _ _ _
  refine vm_J.go vm_q189 (k := 2) (hs := []) (f' := (2, (0, 0), [.ref 152, .int (nI p), .int 0], [.int (nI p), .ref 152])) (h' := (G, I, F)) (hs' := []) rfl rfl ?_
  refine vm_J.call vm_q189 (Z := vm_M172) (n := 1) (k := 0) (mi := 172) (pc := 2) (en := (2, .invokevirtual 156, 3, [172, 1313, 0], .null)) rfl trivial rfl rfl vm_z172 (av := [.ref 152, .int (nI p)]) (rest := []) (r_isPic_y (p := p) (w := w) hR (by omega) hw (by omega) (by omega)) ⟨_, _, rfl, rfl, _, 11, _, hR.c152, rfl, rfl, rfl⟩ (Nat.le_of_ble_eq_true rfl) ⟨Nat.le_of_ble_eq_true rfl, Nat.le_of_ble_eq_true rfl⟩ ⟨Nat.le_of_ble_eq_true rfl, Nat.le_of_ble_eq_true rfl⟩ ?_
  show vm_J _ _ _ (5, (0, 0), [.ref 152, .int (nI p), .int 0], [.int 1]) (G, I, F) _ _
  refine vm_J.go vm_q189 (k := 1) (hs := []) (f' := (bif vm_ic .ne 1 0 then 10 else 8, (0, 0), [.ref 152, .int (nI p), .int 0], [])) (h' := (G, I, F)) (hs' := []) rfl rfl ?_
  refine vm_J.bT (by decide) ?_
  refine vm_J.go vm_q189 (k := 2) (hs := []) (f' := (12, (0, 0), [.ref 152, .int (nI p), .int 0], [.int (nI p), .ref 152])) (h' := (G, I, F)) (hs' := []) rfl rfl ?_
  refine vm_J.call vm_q189 (Z := vm_M188) (n := 1) (k := 0) (mi := 188) (pc := 12) (en := (12, .invokevirtual 195, 3, [188, 1359, 0], .null)) rfl trivial rfl rfl vm_z188 (av := [.ref 152, .int (nI p)]) (rest := []) (r_find (p := p) (w := w) (h := h) hR hw hh (by omega) (by omega) (by omega)) ⟨_, _, rfl, rfl, _, 11, _, hR.c152, rfl, rfl, rfl⟩ (Nat.le_of_ble_eq_true rfl) ⟨Nat.le_of_ble_eq_true rfl, Nat.le_of_ble_eq_true rfl⟩ ⟨Nat.le_of_ble_eq_true rfl, Nat.le_of_ble_eq_true rfl⟩ ?_
  show vm_J _ _ _ (15, (0, 0), [.ref 152, .int (nI p), .int 0], []) (G, ((vr_gth I (fun y => I 155 (144 * p + y)) (w * h)).1), F) _ _
  refine vm_J.go vm_q189 (k := 6) (hs := [vm_shR, (0, 4, [])]) (f' := (58, (0, 0), [.ref 152, .int (nI p), .int 0], [.int (((vr_gth I (fun y => I 155 (144 * p + y)) (w * h)).1) 153 (nI p).toNatClampNeg)])) (h' := (G, ((vr_gth I (fun y => I 155 (144 * p + y)) (w * h)).1), F)) (hs' := []) rfl (vm_b2 rfl (vm_b2 rfl (vm_b2 rfl (vm_b2 (vm_b2 (vm_hG hR.c152) rfl) (vm_b2 rfl (vm_b2 (vm_b2 (vm_hG hR.c153) (vm_in_e (j := p) (n := 4) rfl (by omega) (by omega))) rfl)))))) ?_
  rw [vm_ix_e (j := p) rfl (by omega)]
  rw [((Eq.trans (congrFun (vr_gth_o _ _ 153 (by decide) (by decide) (by decide) _) p) hw) : ((vr_gth I (fun y => I 155 (144 * p + y)) (w * h)).1) 153 p = nI w)]
  exact vm_J.end vm_q189 (en := (58, .ireturn, 1, [], .null)) rfl rfl vm_rI (Nat.zero_le _) (Nat.zero_le _) rfl
set_option maxHeartbeats 4000000 in
set_option maxRecDepth 20000 in
/-- DitherDeskModel.of -/
theorem r_of_1 {l : Launch} {X : vm_Cx} {G : List vm_Sh} {I : Nat → Nat → Int32} {F : Nat → Nat → UInt32} {p : Nat} {w : Nat} {h : Nat} (hR : vm_isR G) (hw : I 153 p = nI w) (hh : I 154 p = nI h) (hp : p < 4) (hw2 : w ≤ 12) (hh2 : h ≤ 12) (hw0 : 0 < w) : vm_K l X vm_M189 [.ref 152, .int (nI p), .int 1] (G, I, F) (some (.int (nI h))) (G, ((vr_gth I (fun y => I 155 (144 * p + y)) (w * h)).1), F) := by
  refine vm_K.mk (by decide) (Nat.le_of_ble_eq_true rfl) ?_
  have hwh := vm_mul144 hw2 hh2
  show vm_J _ _ _ (0, (0, 0), [.ref 152, .int (nI p), .int 1], []) _ _ _
  refine vm_J.go vm_q189 (k := 2) (hs := []) (f' := (2, (0, 0), [.ref 152, .int (nI p), .int 1], [.int (nI p), .ref 152])) (h' := (G, I, F)) (hs' := []) rfl rfl ?_
  refine vm_J.call vm_q189 (Z := vm_M172) (n := 1) (k := 0) (mi := 172) (pc := 2) (en := (2, .invokevirtual 156, 3, [172, 1313, 0], .null)) rfl trivial rfl rfl vm_z172 (av := [.ref 152, .int (nI p)]) (rest := []) (r_isPic_y (p := p) (w := w) hR (by omega) hw (by omega) (by omega)) ⟨_, _, rfl, rfl, _, 11, _, hR.c152, rfl, rfl, rfl⟩ (Nat.le_of_ble_eq_true rfl) ⟨Nat.le_of_ble_eq_true rfl, Nat.le_of_ble_eq_true rfl⟩ ⟨Nat.le_of_ble_eq_true rfl, Nat.le_of_ble_eq_true rfl⟩ ?_
  show vm_J _ _ _ (5, (0, 0), [.ref 152, .int (nI p), .int 1], [.int 1]) (G, I, F) _ _
  refine vm_J.go vm_q189 (k := 1) (hs := []) (f' := (bif vm_ic .ne 1 0 then 10 else 8, (0, 0), [.ref 152, .int (nI p), .int 1], [])) (h' := (G, I, F)) (hs' := []) rfl rfl ?_
  refine vm_J.bT (by decide) ?_
  refine vm_J.go vm_q189 (k := 2) (hs := []) (f' := (12, (0, 0), [.ref 152, .int (nI p), .int 1], [.int (nI p), .ref 152])) (h' := (G, I, F)) (hs' := []) rfl rfl ?_
  refine vm_J.call vm_q189 (Z := vm_M188) (n := 1) (k := 0) (mi := 188) (pc := 12) (en := (12, .invokevirtual 195, 3, [188, 1359, 0], .null)) rfl trivial rfl rfl vm_z188 (av := [.ref 152, .int (nI p)]) (rest := []) (r_find (p := p) (w := w) (h := h) hR hw hh (by omega) (by omega) (by omega)) ⟨_, _, rfl, rfl, _, 11, _, hR.c152, rfl, rfl, rfl⟩ (Nat.le_of_ble_eq_true rfl) ⟨Nat.le_of_ble_eq_true rfl, Nat.le_of_ble_eq_true rfl⟩ ⟨Nat.le_of_ble_eq_true rfl, Nat.le_of_ble_eq_true rfl⟩ ?_
  show vm_J _ _ _ (15, (0, 0), [.ref 152, .int (nI p), .int 1], []) (G, ((vr_gth I (fun y => I 155 (144 * p + y)) (w * h)).1), F) _ _
  refine vm_J.go vm_q189 (k := 6) (hs := [vm_shR, (0, 4, [])]) (f' := (65, (0, 0), [.ref 152, .int (nI p), .int 1], [.int (((vr_gth I (fun y => I 155 (144 * p + y)) (w * h)).1) 154 (nI p).toNatClampNeg)])) (h' := (G, ((vr_gth I (fun y => I 155 (144 * p + y)) (w * h)).1), F)) (hs' := []) rfl (vm_b2 rfl (vm_b2 rfl (vm_b2 rfl (vm_b2 (vm_b2 (vm_hG hR.c152) rfl) (vm_b2 rfl (vm_b2 (vm_b2 (vm_hG hR.c154) (vm_in_e (j := p) (n := 4) rfl (by omega) (by omega))) rfl)))))) ?_
  rw [vm_ix_e (j := p) rfl (by omega)]
  rw [((Eq.trans (congrFun (vr_gth_o _ _ 154 (by decide) (by decide) (by decide) _) p) hh) : ((vr_gth I (fun y => I 155 (144 * p + y)) (w * h)).1) 154 p = nI h)]
  exact vm_J.end vm_q189 (en := (65, .ireturn, 1, [], .null)) rfl rfl vm_rI (Nat.zero_le _) (Nat.zero_le _) rfl
set_option maxHeartbeats 4000000 in
set_option maxRecDepth 20000 in
/-- DitherDeskModel.of -/
theorem r_of_2 {l : Launch} {X : vm_Cx} {G : List vm_Sh} {I : Nat → Nat → Int32} {F : Nat → Nat → UInt32} {p : Nat} {w : Nat} {h : Nat} (hR : vm_isR G) (hw : I 153 p = nI w) (hh : I 154 p = nI h) (hp : p < 4) (hw2 : w ≤ 12) (hh2 : h ≤ 12) (hw0 : 0 < w) : vm_K l X vm_M189 [.ref 152, .int (nI p), .int 2] (G, I, F) (some (.int (nI (vr_gth I (fun y => I 155 (144 * p + y)) (w * h)).2))) (G, ((vr_gth I (fun y => I 155 (144 * p + y)) (w * h)).1), F) := by
  refine vm_K.mk (by decide) (Nat.le_of_ble_eq_true rfl) ?_
  have hwh := vm_mul144 hw2 hh2
  show vm_J _ _ _ (0, (0, 0), [.ref 152, .int (nI p), .int 2], []) _ _ _
  refine vm_J.go vm_q189 (k := 2) (hs := []) (f' := (2, (0, 0), [.ref 152, .int (nI p), .int 2], [.int (nI p), .ref 152])) (h' := (G, I, F)) (hs' := []) rfl rfl ?_
  refine vm_J.call vm_q189 (Z := vm_M172) (n := 1) (k := 0) (mi := 172) (pc := 2) (en := (2, .invokevirtual 156, 3, [172, 1313, 0], .null)) rfl trivial rfl rfl vm_z172 (av := [.ref 152, .int (nI p)]) (rest := []) (r_isPic_y (p := p) (w := w) hR (by omega) hw (by omega) (by omega)) ⟨_, _, rfl, rfl, _, 11, _, hR.c152, rfl, rfl, rfl⟩ (Nat.le_of_ble_eq_true rfl) ⟨Nat.le_of_ble_eq_true rfl, Nat.le_of_ble_eq_true rfl⟩ ⟨Nat.le_of_ble_eq_true rfl, Nat.le_of_ble_eq_true rfl⟩ ?_
  show vm_J _ _ _ (5, (0, 0), [.ref 152, .int (nI p), .int 2], [.int 1]) (G, I, F) _ _
  refine vm_J.go vm_q189 (k := 1) (hs := []) (f' := (bif vm_ic .ne 1 0 then 10 else 8, (0, 0), [.ref 152, .int (nI p), .int 2], [])) (h' := (G, I, F)) (hs' := []) rfl rfl ?_
  refine vm_J.bT (by decide) ?_
  refine vm_J.go vm_q189 (k := 2) (hs := []) (f' := (12, (0, 0), [.ref 152, .int (nI p), .int 2], [.int (nI p), .ref 152])) (h' := (G, I, F)) (hs' := []) rfl rfl ?_
  refine vm_J.call vm_q189 (Z := vm_M188) (n := 1) (k := 0) (mi := 188) (pc := 12) (en := (12, .invokevirtual 195, 3, [188, 1359, 0], .null)) rfl trivial rfl rfl vm_z188 (av := [.ref 152, .int (nI p)]) (rest := []) (r_find (p := p) (w := w) (h := h) hR hw hh (by omega) (by omega) (by omega)) ⟨_, _, rfl, rfl, _, 11, _, hR.c152, rfl, rfl, rfl⟩ (Nat.le_of_ble_eq_true rfl) ⟨Nat.le_of_ble_eq_true rfl, Nat.le_of_ble_eq_true rfl⟩ ⟨Nat.le_of_ble_eq_true rfl, Nat.le_of_ble_eq_true rfl⟩ ?_
  show vm_J _ _ _ (15, (0, 0), [.ref 152, .int (nI p), .int 2], []) (G, ((vr_gth I (fun y => I 155 (144 * p + y)) (w * h)).1), F) _ _
  refine vm_J.go vm_q189 (k := 4) (hs := [vm_shR]) (f' := (70, (0, 0), [.ref 152, .int (nI p), .int 2], [.int (((vr_gth I (fun y => I 155 (144 * p + y)) (w * h)).1) 152 14)])) (h' := (G, ((vr_gth I (fun y => I 155 (144 * p + y)) (w * h)).1), F)) (hs' := []) rfl (vm_b2 rfl (vm_b2 rfl (vm_b2 rfl (vm_b2 (vm_b2 (vm_hG hR.c152) rfl) rfl)))) ?_
  rw [((vr_gth_n _ _ _).1 : ((vr_gth I (fun y => I 155 (144 * p + y)) (w * h)).1) 152 14 = nI (vr_gth I (fun y => I 155 (144 * p + y)) (w * h)).2)]
  exact vm_J.end vm_q189 (en := (70, .ireturn, 1, [], .null)) rfl rfl vm_rI (Nat.zero_le _) (Nat.zero_le _) rfl
set_option maxHeartbeats 4000000 in
set_option maxRecDepth 20000 in
/-- DitherDeskModel.of -/
theorem r_of_3 {l : Launch} {X : vm_Cx} {G : List vm_Sh} {I : Nat → Nat → Int32} {F : Nat → Nat → UInt32} {p : Nat} {w : Nat} {h : Nat} (hR : vm_isR G) (hw : I 153 p = nI w) (hh : I 154 p = nI h) (hp : p < 4) (hw2 : w ≤ 12) (hh2 : h ≤ 12) (hw0 : 0 < w) : vm_K l X vm_M189 [.ref 152, .int (nI p), .int 3] (G, I, F) (some (.int (((vr_gth I (fun y => I 155 (144 * p + y)) (w * h)).1) 159 0))) (G, ((vr_gth I (fun y => I 155 (144 * p + y)) (w * h)).1), F) := by
  refine vm_K.mk (by decide) (Nat.le_of_ble_eq_true rfl) ?_
  have hwh := vm_mul144 hw2 hh2
  show vm_J _ _ _ (0, (0, 0), [.ref 152, .int (nI p), .int 3], []) _ _ _
  refine vm_J.go vm_q189 (k := 2) (hs := []) (f' := (2, (0, 0), [.ref 152, .int (nI p), .int 3], [.int (nI p), .ref 152])) (h' := (G, I, F)) (hs' := []) rfl rfl ?_
  refine vm_J.call vm_q189 (Z := vm_M172) (n := 1) (k := 0) (mi := 172) (pc := 2) (en := (2, .invokevirtual 156, 3, [172, 1313, 0], .null)) rfl trivial rfl rfl vm_z172 (av := [.ref 152, .int (nI p)]) (rest := []) (r_isPic_y (p := p) (w := w) hR (by omega) hw (by omega) (by omega)) ⟨_, _, rfl, rfl, _, 11, _, hR.c152, rfl, rfl, rfl⟩ (Nat.le_of_ble_eq_true rfl) ⟨Nat.le_of_ble_eq_true rfl, Nat.le_of_ble_eq_true rfl⟩ ⟨Nat.le_of_ble_eq_true rfl, Nat.le_of_ble_eq_true rfl⟩ ?_
  show vm_J _ _ _ (5, (0, 0), [.ref 152, .int (nI p), .int 3], [.int 1]) (G, I, F) _ _
  refine vm_J.go vm_q189 (k := 1) (hs := []) (f' := (bif vm_ic .ne 1 0 then 10 else 8, (0, 0), [.ref 152, .int (nI p), .int 3], [])) (h' := (G, I, F)) (hs' := []) rfl rfl ?_
  refine vm_J.bT (by decide) ?_
  refine vm_J.go vm_q189 (k := 2) (hs := []) (f' := (12, (0, 0), [.ref 152, .int (nI p), .int 3], [.int (nI p), .ref 152])) (h' := (G, I, F)) (hs' := []) rfl rfl ?_
  refine vm_J.call vm_q189 (Z := vm_M188) (n := 1) (k := 0) (mi := 188) (pc := 12) (en := (12, .invokevirtual 195, 3, [188, 1359, 0], .null)) rfl trivial rfl rfl vm_z188 (av := [.ref 152, .int (nI p)]) (rest := []) (r_find (p := p) (w := w) (h := h) hR hw hh (by omega) (by omega) (by omega)) ⟨_, _, rfl, rfl, _, 11, _, hR.c152, rfl, rfl, rfl⟩ (Nat.le_of_ble_eq_true rfl) ⟨Nat.le_of_ble_eq_true rfl, Nat.le_of_ble_eq_true rfl⟩ ⟨Nat.le_of_ble_eq_true rfl, Nat.le_of_ble_eq_true rfl⟩ ?_
  show vm_J _ _ _ (15, (0, 0), [.ref 152, .int (nI p), .int 3], []) (G, ((vr_gth I (fun y => I 155 (144 * p + y)) (w * h)).1), F) _ _
  refine vm_J.go vm_q189 (k := 6) (hs := [vm_shR, (0, 144, [])]) (f' := (77, (0, 0), [.ref 152, .int (nI p), .int 3], [.int (((vr_gth I (fun y => I 155 (144 * p + y)) (w * h)).1) 159 0)])) (h' := (G, ((vr_gth I (fun y => I 155 (144 * p + y)) (w * h)).1), F)) (hs' := []) rfl (vm_b2 rfl (vm_b2 rfl (vm_b2 rfl (vm_b2 (vm_b2 (vm_hG hR.c152) rfl) (vm_b2 rfl (vm_b2 (vm_b2 (vm_hG hR.c159) rfl) rfl)))))) ?_
  exact vm_J.end vm_q189 (en := (77, .ireturn, 1, [], .null)) rfl rfl vm_rI (Nat.zero_le _) (Nat.zero_le _) rfl
theorem vr_gth_p (I : Nat → Nat → Int32) (f : Nat → Int32) {p : Nat} (h : 0 < p) : 0 < (vr_gth I f p).2 := by
  cases p with
  | zero => exact absurd h (Nat.lt_irrefl 0)
  | succ p =>
    show 0 < (vr_t1 _ _ _).2
    unfold vr_t1
    split
    · rename_i q
      exact Nat.lt_of_le_of_lt (Nat.zero_le _) q.1
    · exact Nat.succ_pos _
set_option maxHeartbeats 4000000 in
set_option maxRecDepth 20000 in
/-- DitherDeskModel.of -/
theorem r_of_4 {l : Launch} {X : vm_Cx} {G : List vm_Sh} {I : Nat → Nat → Int32} {F : Nat → Nat → UInt32} {p : Nat} {w : Nat} {h : Nat} (hR : vm_isR G) (hw : I 153 p = nI w) (hh : I 154 p = nI h) (hp : p < 4) (hw2 : w ≤ 12) (hh2 : h ≤ 12) (hw0 : 0 < w) (hh0 : 0 < h) : vm_K l X vm_M189 [.ref 152, .int (nI p), .int 4] (G, I, F) (some (.int (((vr_gth I (fun y => I 155 (144 * p + y)) (w * h)).1) 159 ((vr_gth I (fun y => I 155 (144 * p + y)) (w * h)).2 - 1)))) (G, ((vr_gth I (fun y => I 155 (144 * p + y)) (w * h)).1), F) := by
  refine vm_K.mk (by decide) (Nat.le_of_ble_eq_true rfl) ?_
  have hwh := vm_mul144 hw2 hh2
  have hgp : 0 < (vr_gth I (fun y => I 155 (144 * p + y)) (w * h)).2 := vr_gth_p _ _ (Nat.mul_pos hw0 hh0)
  have hgn := (vr_gth_n I (fun y => I 155 (144 * p + y)) (w * h)).2
  show vm_J _ _ _ (0, (0, 0), [.ref 152, .int (nI p), .int 4], []) _ _ _
  refine vm_J.go vm_q189 (k := 2) (hs := []) (f' := (2, (0, 0), [.ref 152, .int (nI p), .int 4], [.int (nI p), .ref 152])) (h' := (G, I, F)) (hs' := []) rfl rfl ?_
  refine vm_J.call vm_q189 (Z := vm_M172) (n := 1) (k := 0) (mi := 172) (pc := 2) (en := (2, .invokevirtual 156, 3, [172, 1313, 0], .null)) rfl trivial rfl rfl vm_z172 (av := [.ref 152, .int (nI p)]) (rest := []) (r_isPic_y (p := p) (w := w) hR (by omega) hw (by omega) (by omega)) ⟨_, _, rfl, rfl, _, 11, _, hR.c152, rfl, rfl, rfl⟩ (Nat.le_of_ble_eq_true rfl) ⟨Nat.le_of_ble_eq_true rfl, Nat.le_of_ble_eq_true rfl⟩ ⟨Nat.le_of_ble_eq_true rfl, Nat.le_of_ble_eq_true rfl⟩ ?_
  show vm_J _ _ _ (5, (0, 0), [.ref 152, .int (nI p), .int 4], [.int 1]) (G, I, F) _ _
  refine vm_J.go vm_q189 (k := 1) (hs := []) (f' := (bif vm_ic .ne 1 0 then 10 else 8, (0, 0), [.ref 152, .int (nI p), .int 4], [])) (h' := (G, I, F)) (hs' := []) rfl rfl ?_
  refine vm_J.bT (by decide) ?_
  refine vm_J.go vm_q189 (k := 2) (hs := []) (f' := (12, (0, 0), [.ref 152, .int (nI p), .int 4], [.int (nI p), .ref 152])) (h' := (G, I, F)) (hs' := []) rfl rfl ?_
  refine vm_J.call vm_q189 (Z := vm_M188) (n := 1) (k := 0) (mi := 188) (pc := 12) (en := (12, .invokevirtual 195, 3, [188, 1359, 0], .null)) rfl trivial rfl rfl vm_z188 (av := [.ref 152, .int (nI p)]) (rest := []) (r_find (p := p) (w := w) (h := h) hR hw hh (by omega) (by omega) (by omega)) ⟨_, _, rfl, rfl, _, 11, _, hR.c152, rfl, rfl, rfl⟩ (Nat.le_of_ble_eq_true rfl) ⟨Nat.le_of_ble_eq_true rfl, Nat.le_of_ble_eq_true rfl⟩ ⟨Nat.le_of_ble_eq_true rfl, Nat.le_of_ble_eq_true rfl⟩ ?_
  show vm_J _ _ _ (15, (0, 0), [.ref 152, .int (nI p), .int 4], []) (G, ((vr_gth I (fun y => I 155 (144 * p + y)) (w * h)).1), F) _ _
  refine vm_J.go vm_q189 (k := 6) (hs := [vm_shR, vm_shR]) (f' := (86, (0, 0), [.ref 152, .int (nI p), .int 4], [.int (((vr_gth I (fun y => I 155 (144 * p + y)) (w * h)).1) 152 14), .ref 159])) (h' := (G, ((vr_gth I (fun y => I 155 (144 * p + y)) (w * h)).1), F)) (hs' := []) rfl (vm_b2 rfl (vm_b2 rfl (vm_b2 rfl (vm_b2 (vm_b2 (vm_hG hR.c152) rfl) (vm_b2 rfl (vm_b2 (vm_b2 (vm_hG hR.c152) rfl) rfl)))))) ?_
  rw [((vr_gth_n _ _ _).1 : ((vr_gth I (fun y => I 155 (144 * p + y)) (w * h)).1) 152 14 = nI (vr_gth I (fun y => I 155 (144 * p + y)) (w * h)).2)]
  refine vm_J.go vm_q189 (k := 3) (hs := [(0, 144, [])]) (f' := (89, (0, 0), [.ref 152, .int (nI p), .int 4], [.int (((vr_gth I (fun y => I 155 (144 * p + y)) (w * h)).1) 159 ((nI (vr_gth I (fun y => I 155 (144 * p + y)) (w * h)).2) - 1).toNatClampNeg)])) (h' := (G, ((vr_gth I (fun y => I 155 (144 * p + y)) (w * h)).1), F)) (hs' := []) rfl (vm_b2 rfl (vm_b2 rfl (vm_b2 (vm_b2 (vm_hG hR.c159) (vm_in_e (j := ((vr_gth I (fun y => I 155 (144 * p + y)) (w * h)).2) - 1) (n := 144) (vm_ps (rfl : (nI (vr_gth I (fun y => I 155 (144 * p + y)) (w * h)).2 : Int32) = nI ((vr_gth I (fun y => I 155 (144 * p + y)) (w * h)).2)) (rfl : (1 : Int32) = nI 1) (by omega)) (by omega) (by omega))) rfl))) ?_
  rw [vm_ix_e (j := ((vr_gth I (fun y => I 155 (144 * p + y)) (w * h)).2) - 1) (vm_ps (rfl : (nI (vr_gth I (fun y => I 155 (144 * p + y)) (w * h)).2 : Int32) = nI ((vr_gth I (fun y => I 155 (144 * p + y)) (w * h)).2)) (rfl : (1 : Int32) = nI 1) (by omega)) (by omega)]
  exact vm_J.end vm_q189 (en := (89, .ireturn, 1, [], .null)) rfl rfl vm_rI (Nat.zero_le _) (Nat.zero_le _) rfl
set_option maxHeartbeats 4000000 in
set_option maxRecDepth 20000 in
/-- DitherDeskModel.many -/
theorem r_many_b {l : Launch} {X : vm_Cx} {G : List vm_Sh} {I : Nat → Nat → Int32} {F : Nat → Nat → UInt32} {p : Nat} {w : Nat} {c : Int32} (hR : vm_isR G) (hw : I 153 p = nI w) (hp : p < 4) (hw2 : w ≤ 12) (hw0 : 0 < w) (hc : ¬ (0 ≤ c ∧ c ≤ 262143)) : vm_K l X vm_M190 [.ref 152, .int (nI p), .int c] (G, I, F) (some (.int (-2))) (G, I, F) := by
  refine vm_K.mk (by decide) (Nat.le_of_ble_eq_true rfl) ?_
  show vm_J _ _ _ (0, (0, 0), [.ref 152, .int (nI p), .int c, .retAddr 0, .retAddr 0], []) _ _ _
  refine vm_J.go vm_q190 (k := 2) (hs := []) (f' := (2, (0, 0), [.ref 152, .int (nI p), .int c, .retAddr 0, .retAddr 0], [.int (nI p), .ref 152])) (h' := (G, I, F)) (hs' := []) rfl rfl ?_
  refine vm_J.call vm_q190 (Z := vm_M172) (n := 1) (k := 0) (mi := 172) (pc := 2) (en := (2, .invokevirtual 156, 3, [172, 1313, 0], .null)) rfl trivial rfl rfl vm_z172 (av := [.ref 152, .int (nI p)]) (rest := []) (r_isPic_y (p := p) (w := w) hR (by omega) hw (by omega) (by omega)) ⟨_, _, rfl, rfl, _, 11, _, hR.c152, rfl, rfl, rfl⟩ (Nat.le_of_ble_eq_true rfl) ⟨Nat.le_of_ble_eq_true rfl, Nat.le_of_ble_eq_true rfl⟩ ⟨Nat.le_of_ble_eq_true rfl, Nat.le_of_ble_eq_true rfl⟩ ?_
  show vm_J _ _ _ (5, (0, 0), [.ref 152, .int (nI p), .int c, .retAddr 0, .retAddr 0], [.int 1]) (G, I, F) _ _
  refine vm_J.go vm_q190 (k := 1) (hs := []) (f' := (bif vm_ic .ne 1 0 then 10 else 8, (0, 0), [.ref 152, .int (nI p), .int c, .retAddr 0, .retAddr 0], [])) (h' := (G, I, F)) (hs' := []) rfl rfl ?_
  refine vm_J.bT (by decide) ?_
  refine vm_J.go vm_q190 (k := 1) (hs := []) (f' := (11, (0, 0), [.ref 152, .int (nI p), .int c, .retAddr 0, .retAddr 0], [.int c])) (h' := (G, I, F)) (hs' := []) rfl rfl ?_
  refine vm_J.call vm_q190 (Z := vm_M169) (n := 1) (k := 1) (mi := 169) (pc := 11) (en := (11, .invokestatic 162, 3, [169, 1321, 0], .null)) rfl trivial rfl rfl vm_z169 (av := [.int c]) (rest := []) (r_isColour_n (c := c) hc) rfl (Nat.le_of_ble_eq_true rfl) ⟨Nat.le_of_ble_eq_true rfl, Nat.le_of_ble_eq_true rfl⟩ ⟨Nat.le_of_ble_eq_true rfl, Nat.le_of_ble_eq_true rfl⟩ ?_
  show vm_J _ _ _ (14, (0, 0), [.ref 152, .int (nI p), .int c, .retAddr 0, .retAddr 0], [.int 0]) (G, I, F) _ _
  refine vm_J.go vm_q190 (k := 1) (hs := []) (f' := (bif vm_ic .ne 0 0 then 20 else 17, (0, 0), [.ref 152, .int (nI p), .int c, .retAddr 0, .retAddr 0], [])) (h' := (G, I, F)) (hs' := []) rfl rfl ?_
  refine vm_J.bF (by decide) ?_
  refine vm_J.go vm_q190 (k := 1) (hs := []) (f' := (19, (0, 0), [.ref 152, .int (nI p), .int c, .retAddr 0, .retAddr 0], [.int (-2)])) (h' := (G, I, F)) (hs' := []) rfl rfl ?_
  exact vm_J.end vm_q190 (en := (19, .ireturn, 1, [], .null)) rfl rfl vm_rI (Nat.zero_le _) (Nat.zero_le _) rfl
set_option maxHeartbeats 4000000 in
set_option maxRecDepth 20000 in
/-- DitherDeskModel.many -/
theorem r_many_y {l : Launch} {X : vm_Cx} {G : List vm_Sh} {I : Nat → Nat → Int32} {F : Nat → Nat → UInt32} {p : Nat} {w : Nat} {h : Nat} {c : Int32} (hR : vm_isR G) (hw : I 153 p = nI w) (hh : I 154 p = nI h) (hp : p < 4) (hw2 : w ≤ 12) (hh2 : h ≤ 12) (hw0 : 0 < w) (hc : 0 ≤ c ∧ c ≤ 262143) : vm_K l X vm_M190 [.ref 152, .int (nI p), .int c] (G, I, F) (some (.int (sp_sum (fun z => if I 155 (144 * p + z) = c then 1 else 0) (w * h)))) (G, I, F) := by
  refine vm_K.mk (by decide) (Nat.le_of_ble_eq_true rfl) ?_
  have hwh := vm_mul144 hw2 hh2
  show vm_J _ _ _ (0, (0, 0), [.ref 152, .int (nI p), .int c, .retAddr 0, .retAddr 0], []) _ _ _
  refine vm_J.go vm_q190 (k := 2) (hs := []) (f' := (2, (0, 0), [.ref 152, .int (nI p), .int c, .retAddr 0, .retAddr 0], [.int (nI p), .ref 152])) (h' := (G, I, F)) (hs' := []) rfl rfl ?_
  refine vm_J.call vm_q190 (Z := vm_M172) (n := 1) (k := 0) (mi := 172) (pc := 2) (en := (2, .invokevirtual 156, 3, [172, 1313, 0], .null)) rfl trivial rfl rfl vm_z172 (av := [.ref 152, .int (nI p)]) (rest := []) (r_isPic_y (p := p) (w := w) hR (by omega) hw (by omega) (by omega)) ⟨_, _, rfl, rfl, _, 11, _, hR.c152, rfl, rfl, rfl⟩ (Nat.le_of_ble_eq_true rfl) ⟨Nat.le_of_ble_eq_true rfl, Nat.le_of_ble_eq_true rfl⟩ ⟨Nat.le_of_ble_eq_true rfl, Nat.le_of_ble_eq_true rfl⟩ ?_
  show vm_J _ _ _ (5, (0, 0), [.ref 152, .int (nI p), .int c, .retAddr 0, .retAddr 0], [.int 1]) (G, I, F) _ _
  refine vm_J.go vm_q190 (k := 1) (hs := []) (f' := (bif vm_ic .ne 1 0 then 10 else 8, (0, 0), [.ref 152, .int (nI p), .int c, .retAddr 0, .retAddr 0], [])) (h' := (G, I, F)) (hs' := []) rfl rfl ?_
  refine vm_J.bT (by decide) ?_
  refine vm_J.go vm_q190 (k := 1) (hs := []) (f' := (11, (0, 0), [.ref 152, .int (nI p), .int c, .retAddr 0, .retAddr 0], [.int c])) (h' := (G, I, F)) (hs' := []) rfl rfl ?_
  refine vm_J.call vm_q190 (Z := vm_M169) (n := 1) (k := 1) (mi := 169) (pc := 11) (en := (11, .invokestatic 162, 3, [169, 1321, 0], .null)) rfl trivial rfl rfl vm_z169 (av := [.int c]) (rest := []) (r_isColour_y (c := c) hc) rfl (Nat.le_of_ble_eq_true rfl) ⟨Nat.le_of_ble_eq_true rfl, Nat.le_of_ble_eq_true rfl⟩ ⟨Nat.le_of_ble_eq_true rfl, Nat.le_of_ble_eq_true rfl⟩ ?_
  show vm_J _ _ _ (14, (0, 0), [.ref 152, .int (nI p), .int c, .retAddr 0, .retAddr 0], [.int 1]) (G, I, F) _ _
  refine vm_J.go vm_q190 (k := 1) (hs := []) (f' := (bif vm_ic .ne 1 0 then 20 else 17, (0, 0), [.ref 152, .int (nI p), .int c, .retAddr 0, .retAddr 0], [])) (h' := (G, I, F)) (hs' := []) rfl rfl ?_
  refine vm_J.bT (by decide) ?_
  refine vm_J.go vm_q190 (k := 4) (hs := []) (f' := (25, (0, 0), [.ref 152, .int (nI p), .int c, .int 0, .int 0], [])) (h' := (G, I, F)) (hs' := []) rfl rfl ?_
  refine vm_J.cnt (w * h) (fun k => (25, (0, 0), [.ref 152, .int (nI p), .int c, .int (sp_sum (fun z => if I 155 (144 * p + z) = c then 1 else 0) k), .int (nI k)], [])) (fun k => (G, I, F)) (fun _ => True) rfl rfl trivial (fun k hk pk ik => ?_) (fun pk => ?_)
  · show vm_J _ _ _ (25, (0, 0), [.ref 152, .int (nI p), .int c, .int (sp_sum (fun z => if I 155 (144 * p + z) = c then 1 else 0) k), .int (nI k)], []) (G, I, F) _ _
    refine vm_J.go vm_q190 (k := 3) (hs := []) (f' := (29, (0, 0), [.ref 152, .int (nI p), .int c, .int (sp_sum (fun z => if I 155 (144 * p + z) = c then 1 else 0) k), .int (nI k)], [.int (nI p), .ref 152, .int (nI k)])) (h' := (G, I, F)) (hs' := []) rfl rfl ?_
    refine vm_J.call vm_q190 (Z := vm_M175) (n := 1) (k := 0) (mi := 175) (pc := 29) (en := (29, .invokevirtual 152, 3, [175, 1305, 0], .null)) rfl trivial rfl rfl vm_z175 (av := [.ref 152, .int (nI p)]) (rest := [.int (nI k)]) (r_pix (p := p) (w := w) (h := h) hR hw hh (by omega)) ⟨_, _, rfl, rfl, _, 11, _, hR.c152, rfl, rfl, rfl⟩ (Nat.le_of_ble_eq_true rfl) ⟨Nat.le_of_ble_eq_true rfl, Nat.le_of_ble_eq_true rfl⟩ ⟨Nat.le_of_ble_eq_true rfl, Nat.le_of_ble_eq_true rfl⟩ ?_
    show vm_J _ _ _ (32, (0, 0), [.ref 152, .int (nI p), .int c, .int (sp_sum (fun z => if I 155 (144 * p + z) = c then 1 else 0) k), .int (nI k)], [.int (nI (w * h)), .int (nI k)]) (G, I, F) _ _
    refine vm_J.go vm_q190 (k := 1) (hs := []) (f' := (bif vm_ic .ge (nI k) (nI (w * h)) then 66 else 35, (0, 0), [.ref 152, .int (nI p), .int c, .int (sp_sum (fun z => if I 155 (144 * p + z) = c then 1 else 0) k), .int (nI k)], [])) (h' := (G, I, F)) (hs' := []) rfl rfl ?_
    refine vm_J.br (fun c1 => ?_) (fun c1 => ?_)
    · have c1 := vm_ge_t (a := k) (b := w * h) (by omega) (by omega) c1
      exact (show False by omega).elim
    · have c1 := vm_ge_f (a := k) (b := w * h) (by omega) (by omega) c1
      refine vm_J.go vm_q190 (k := 10) (hs := [vm_shR, (0, 576, [])]) (f' := (50, (0, 0), [.ref 152, .int (nI p), .int c, .int (sp_sum (fun z => if I 155 (144 * p + z) = c then 1 else 0) k), .int (nI k)], [.int c, .int (I 155 ((144 * (nI p)) + (nI k)).toNatClampNeg), .int (sp_sum (fun z => if I 155 (144 * p + z) = c then 1 else 0) k)])) (h' := (G, I, F)) (hs' := []) rfl (vm_b2 rfl (vm_b2 rfl (vm_b2 (vm_b2 (vm_hG hR.c152) rfl) (vm_b2 rfl (vm_b2 rfl (vm_b2 rfl (vm_b2 rfl (vm_b2 rfl (vm_b2 (vm_b2 (vm_hG hR.c155) (vm_in_e (j := (144 * p) + k) (n := 576) (vm_pa (vm_pm (rfl : (144 : Int32) = nI 144) (rfl : (nI p : Int32) = nI p)) (rfl : (nI k : Int32) = nI k)) (by omega) (by omega))) (vm_b2 rfl rfl)))))))))) ?_
      rw [vm_ix_e (j := (144 * p) + k) (vm_pa (vm_pm (rfl : (144 : Int32) = nI 144) (rfl : (nI p : Int32) = nI p)) (rfl : (nI k : Int32) = nI k)) (by omega)]
      refine vm_J.go vm_q190 (k := 1) (hs := []) (f' := (bif vm_ic .ne (I 155 ((144 * p) + k)) c then 57 else 53, (0, 0), [.ref 152, .int (nI p), .int c, .int (sp_sum (fun z => if I 155 (144 * p + z) = c then 1 else 0) k), .int (nI k)], [.int (sp_sum (fun z => if I 155 (144 * p + z) = c then 1 else 0) k)])) (h' := (G, I, F)) (hs' := []) rfl rfl ?_
      refine vm_J.br (fun c2 => ?_) (fun c2 => ?_)
      · have c2 : ¬ (I 155 ((144 * p) + k)) = c := of_decide_eq_true c2
        refine vm_J.go vm_q190 (k := 5) (hs := []) (f' := (25, (0, 0), [.ref 152, .int (nI p), .int c, .int ((sp_sum (fun z => if I 155 (144 * p + z) = c then 1 else 0) k) + 0), .int ((nI k) + 1)], [])) (h' := (G, I, F)) (hs' := []) rfl rfl ?_
        rw [((vm_pa (rfl : nI k = nI k) (rfl : (1 : Int32) = nI 1)) : (nI k) + 1 = nI (k + 1))]
        rw [show ((sp_sum (fun z => if I 155 (144 * p + z) = c then 1 else 0) k) + 0 : Int32) = sp_sum (fun z => if I 155 (144 * p + z) = c then 1 else 0) (k + 1) from by first | rw [sp_sum, if_pos c2] | (rw [sp_sum, if_neg c2])]
        exact ik trivial
      · have c2 : (I 155 ((144 * p) + k)) = c := Decidable.of_not_not (of_decide_eq_false c2)
        refine vm_J.go vm_q190 (k := 6) (hs := []) (f' := (25, (0, 0), [.ref 152, .int (nI p), .int c, .int ((sp_sum (fun z => if I 155 (144 * p + z) = c then 1 else 0) k) + 1), .int ((nI k) + 1)], [])) (h' := (G, I, F)) (hs' := []) rfl rfl ?_
        rw [((vm_pa (rfl : nI k = nI k) (rfl : (1 : Int32) = nI 1)) : (nI k) + 1 = nI (k + 1))]
        rw [show ((sp_sum (fun z => if I 155 (144 * p + z) = c then 1 else 0) k) + 1 : Int32) = sp_sum (fun z => if I 155 (144 * p + z) = c then 1 else 0) (k + 1) from by first | rw [sp_sum, if_pos c2] | (rw [sp_sum, if_neg c2])]
        exact ik trivial
  · show vm_J _ _ _ (25, (0, 0), [.ref 152, .int (nI p), .int c, .int (sp_sum (fun z => if I 155 (144 * p + z) = c then 1 else 0) (w * h)), .int (nI (w * h))], []) (G, I, F) _ _
    refine vm_J.go vm_q190 (k := 3) (hs := []) (f' := (29, (0, 0), [.ref 152, .int (nI p), .int c, .int (sp_sum (fun z => if I 155 (144 * p + z) = c then 1 else 0) (w * h)), .int (nI (w * h))], [.int (nI p), .ref 152, .int (nI (w * h))])) (h' := (G, I, F)) (hs' := []) rfl rfl ?_
    refine vm_J.call vm_q190 (Z := vm_M175) (n := 1) (k := 0) (mi := 175) (pc := 29) (en := (29, .invokevirtual 152, 3, [175, 1305, 0], .null)) rfl trivial rfl rfl vm_z175 (av := [.ref 152, .int (nI p)]) (rest := [.int (nI (w * h))]) (r_pix (p := p) (w := w) (h := h) hR hw hh (by omega)) ⟨_, _, rfl, rfl, _, 11, _, hR.c152, rfl, rfl, rfl⟩ (Nat.le_of_ble_eq_true rfl) ⟨Nat.le_of_ble_eq_true rfl, Nat.le_of_ble_eq_true rfl⟩ ⟨Nat.le_of_ble_eq_true rfl, Nat.le_of_ble_eq_true rfl⟩ ?_
    show vm_J _ _ _ (32, (0, 0), [.ref 152, .int (nI p), .int c, .int (sp_sum (fun z => if I 155 (144 * p + z) = c then 1 else 0) (w * h)), .int (nI (w * h))], [.int (nI (w * h)), .int (nI (w * h))]) (G, I, F) _ _
    refine vm_J.go vm_q190 (k := 1) (hs := []) (f' := (bif vm_ic .ge (nI (w * h)) (nI (w * h)) then 66 else 35, (0, 0), [.ref 152, .int (nI p), .int c, .int (sp_sum (fun z => if I 155 (144 * p + z) = c then 1 else 0) (w * h)), .int (nI (w * h))], [])) (h' := (G, I, F)) (hs' := []) rfl rfl ?_
    refine vm_J.br (fun c3 => ?_) (fun c3 => ?_)
    · have c3 := vm_ge_t (a := (w * h)) (b := w * h) (by omega) (by omega) c3
      refine vm_J.go vm_q190 (k := 1) (hs := []) (f' := (67, (0, 0), [.ref 152, .int (nI p), .int c, .int (sp_sum (fun z => if I 155 (144 * p + z) = c then 1 else 0) (w * h)), .int (nI (w * h))], [.int (sp_sum (fun z => if I 155 (144 * p + z) = c then 1 else 0) (w * h))])) (h' := (G, I, F)) (hs' := []) rfl rfl ?_
      exact vm_J.end vm_q190 (en := (67, .ireturn, 1, [], .null)) rfl rfl vm_rI (Nat.zero_le _) (Nat.zero_le _) rfl
    · have c3 := vm_ge_f (a := (w * h)) (b := w * h) (by omega) (by omega) c3
      exact (show False by omega).elim
set_option maxHeartbeats 4000000 in
set_option maxRecDepth 20000 in
/-- DitherDeskModel.aheadOf -/
theorem r_ahead {l : Launch} {X : vm_Cx} {G : List vm_Sh} {I : Nat → Nat → Int32} {F : Nat → Nat → UInt32} {n : Nat} {e : Nat} (hR : vm_isR G) (hn : I 152 14 = nI n) (hn2 : n ≤ 144) (he : e < n) : vm_K l X vm_M191 [.ref 152, .int (nI e)] (G, I, F) (some (.int (sp_ca (I 160) n e))) (G, I, F) := by
  refine vm_K.mk (by decide) (Nat.le_of_ble_eq_true rfl) ?_
  show vm_J _ _ _ (0, (0, 0), [.ref 152, .int (nI e), .retAddr 0, .retAddr 0], []) _ _ _
  refine vm_J.go vm_q191 (k := 4) (hs := []) (f' := (4, (0, 0), [.ref 152, .int (nI e), .int 0, .int 0], [])) (h' := (G, I, F)) (hs' := []) rfl rfl ?_
  refine vm_J.cnt n (fun k => (4, (0, 0), [.ref 152, .int (nI e), .int (sp_sum (fun z => if I 160 e < I 160 z ∨ I 160 z = I 160 e ∧ z < e then 1 else 0) k), .int (nI k)], [])) (fun k => (G, I, F)) (fun _ => True) rfl rfl trivial (fun k hk pk ik => ?_) (fun pk => ?_)
  · show vm_J _ _ _ (4, (0, 0), [.ref 152, .int (nI e), .int (sp_sum (fun z => if I 160 e < I 160 z ∨ I 160 z = I 160 e ∧ z < e then 1 else 0) k), .int (nI k)], []) (G, I, F) _ _
    refine vm_J.go vm_q191 (k := 3) (hs := [vm_shR]) (f' := (9, (0, 0), [.ref 152, .int (nI e), .int (sp_sum (fun z => if I 160 e < I 160 z ∨ I 160 z = I 160 e ∧ z < e then 1 else 0) k), .int (nI k)], [.int (I 152 14), .int (nI k)])) (h' := (G, I, F)) (hs' := []) rfl (vm_b2 rfl (vm_b2 rfl (vm_b2 (vm_b2 (vm_hG hR.c152) rfl) rfl))) ?_
    rw [(hn : I 152 14 = nI n)]
    refine vm_J.go vm_q191 (k := 1) (hs := []) (f' := (bif vm_ic .ge (nI k) (nI n) then 61 else 12, (0, 0), [.ref 152, .int (nI e), .int (sp_sum (fun z => if I 160 e < I 160 z ∨ I 160 z = I 160 e ∧ z < e then 1 else 0) k), .int (nI k)], [])) (h' := (G, I, F)) (hs' := []) rfl rfl ?_
    refine vm_J.br (fun c1 => ?_) (fun c1 => ?_)
    · have c1 := vm_ge_t (a := k) (b := n) (by omega) (by omega) c1
      exact (show False by omega).elim
    · have c1 := vm_ge_f (a := k) (b := n) (by omega) (by omega) c1
      refine vm_J.go vm_q191 (k := 9) (hs := [vm_shR, (0, 144, []), vm_shR, (0, 144, [])]) (f' := (25, (0, 0), [.ref 152, .int (nI e), .int (sp_sum (fun z => if I 160 e < I 160 z ∨ I 160 z = I 160 e ∧ z < e then 1 else 0) k), .int (nI k)], [.int (I 160 (nI e).toNatClampNeg), .int (I 160 (nI k).toNatClampNeg), .int (sp_sum (fun z => if I 160 e < I 160 z ∨ I 160 z = I 160 e ∧ z < e then 1 else 0) k)])) (h' := (G, I, F)) (hs' := []) rfl (vm_b2 rfl (vm_b2 rfl (vm_b2 (vm_b2 (vm_hG hR.c152) rfl) (vm_b2 rfl (vm_b2 (vm_b2 (vm_hG hR.c160) (vm_in_e (j := k) (n := 144) rfl (by omega) (by omega))) (vm_b2 rfl (vm_b2 (vm_b2 (vm_hG hR.c152) rfl) (vm_b2 rfl (vm_b2 (vm_b2 (vm_hG hR.c160) (vm_in_e (j := e) (n := 144) rfl (by omega) (by omega))) rfl))))))))) ?_
      rw [vm_ix_e (j := k) rfl (by omega), vm_ix_e (j := e) rfl (by omega)]
      refine vm_J.go vm_q191 (k := 1) (hs := []) (f' := (bif vm_ic .gt (I 160 k) (I 160 e) then 48 else 28, (0, 0), [.ref 152, .int (nI e), .int (sp_sum (fun z => if I 160 e < I 160 z ∨ I 160 z = I 160 e ∧ z < e then 1 else 0) k), .int (nI k)], [.int (sp_sum (fun z => if I 160 e < I 160 z ∨ I 160 z = I 160 e ∧ z < e then 1 else 0) k)])) (h' := (G, I, F)) (hs' := []) rfl rfl ?_
      refine vm_J.br (fun c2 => ?_) (fun c2 => ?_)
      · have c2 : (I 160 e) < (I 160 k) := of_decide_eq_true c2
        refine vm_J.go vm_q191 (k := 6) (hs := []) (f' := (4, (0, 0), [.ref 152, .int (nI e), .int ((sp_sum (fun z => if I 160 e < I 160 z ∨ I 160 z = I 160 e ∧ z < e then 1 else 0) k) + 1), .int ((nI k) + 1)], [])) (h' := (G, I, F)) (hs' := []) rfl rfl ?_
        rw [((vm_pa (rfl : nI k = nI k) (rfl : (1 : Int32) = nI 1)) : (nI k) + 1 = nI (k + 1))]
        rw [show ((sp_sum (fun z => if I 160 e < I 160 z ∨ I 160 z = I 160 e ∧ z < e then 1 else 0) k) + 1 : Int32) = sp_sum (fun z => if I 160 e < I 160 z ∨ I 160 z = I 160 e ∧ z < e then 1 else 0) (k + 1) from by rw [sp_sum, if_pos (Or.inl c2)]]
        exact ik trivial
      · have c2 : ¬ ((I 160 e) < (I 160 k)) := of_decide_eq_false c2
        refine vm_J.go vm_q191 (k := 8) (hs := [vm_shR, (0, 144, []), vm_shR, (0, 144, [])]) (f' := (40, (0, 0), [.ref 152, .int (nI e), .int (sp_sum (fun z => if I 160 e < I 160 z ∨ I 160 z = I 160 e ∧ z < e then 1 else 0) k), .int (nI k)], [.int (I 160 (nI e).toNatClampNeg), .int (I 160 (nI k).toNatClampNeg), .int (sp_sum (fun z => if I 160 e < I 160 z ∨ I 160 z = I 160 e ∧ z < e then 1 else 0) k)])) (h' := (G, I, F)) (hs' := []) rfl (vm_b2 rfl (vm_b2 (vm_b2 (vm_hG hR.c152) rfl) (vm_b2 rfl (vm_b2 (vm_b2 (vm_hG hR.c160) (vm_in_e (j := k) (n := 144) rfl (by omega) (by omega))) (vm_b2 rfl (vm_b2 (vm_b2 (vm_hG hR.c152) rfl) (vm_b2 rfl (vm_b2 (vm_b2 (vm_hG hR.c160) (vm_in_e (j := e) (n := 144) rfl (by omega) (by omega))) rfl)))))))) ?_
        rw [vm_ix_e (j := k) rfl (by omega), vm_ix_e (j := e) rfl (by omega)]
        refine vm_J.go vm_q191 (k := 1) (hs := []) (f' := (bif vm_ic .ne (I 160 k) (I 160 e) then 52 else 43, (0, 0), [.ref 152, .int (nI e), .int (sp_sum (fun z => if I 160 e < I 160 z ∨ I 160 z = I 160 e ∧ z < e then 1 else 0) k), .int (nI k)], [.int (sp_sum (fun z => if I 160 e < I 160 z ∨ I 160 z = I 160 e ∧ z < e then 1 else 0) k)])) (h' := (G, I, F)) (hs' := []) rfl rfl ?_
        refine vm_J.br (fun c3 => ?_) (fun c3 => ?_)
        · have c3 : ¬ (I 160 k) = (I 160 e) := of_decide_eq_true c3
          refine vm_J.go vm_q191 (k := 5) (hs := []) (f' := (4, (0, 0), [.ref 152, .int (nI e), .int ((sp_sum (fun z => if I 160 e < I 160 z ∨ I 160 z = I 160 e ∧ z < e then 1 else 0) k) + 0), .int ((nI k) + 1)], [])) (h' := (G, I, F)) (hs' := []) rfl rfl ?_
          rw [((vm_pa (rfl : nI k = nI k) (rfl : (1 : Int32) = nI 1)) : (nI k) + 1 = nI (k + 1))]
          rw [show ((sp_sum (fun z => if I 160 e < I 160 z ∨ I 160 z = I 160 e ∧ z < e then 1 else 0) k) + 0 : Int32) = sp_sum (fun z => if I 160 e < I 160 z ∨ I 160 z = I 160 e ∧ z < e then 1 else 0) (k + 1) from by rw [sp_sum, if_neg (fun z => z.elim c2 (fun y => c3 y.1))]]
          exact ik trivial
        · have c3 : (I 160 k) = (I 160 e) := Decidable.of_not_not (of_decide_eq_false c3)
          refine vm_J.go vm_q191 (k := 3) (hs := []) (f' := (bif vm_ic .ge (nI k) (nI e) then 52 else 48, (0, 0), [.ref 152, .int (nI e), .int (sp_sum (fun z => if I 160 e < I 160 z ∨ I 160 z = I 160 e ∧ z < e then 1 else 0) k), .int (nI k)], [.int (sp_sum (fun z => if I 160 e < I 160 z ∨ I 160 z = I 160 e ∧ z < e then 1 else 0) k)])) (h' := (G, I, F)) (hs' := []) rfl rfl ?_
          refine vm_J.br (fun c4 => ?_) (fun c4 => ?_)
          · have c4 := vm_ge_t (a := k) (b := e) (by omega) (by omega) c4
            refine vm_J.go vm_q191 (k := 5) (hs := []) (f' := (4, (0, 0), [.ref 152, .int (nI e), .int ((sp_sum (fun z => if I 160 e < I 160 z ∨ I 160 z = I 160 e ∧ z < e then 1 else 0) k) + 0), .int ((nI k) + 1)], [])) (h' := (G, I, F)) (hs' := []) rfl rfl ?_
            rw [((vm_pa (rfl : nI k = nI k) (rfl : (1 : Int32) = nI 1)) : (nI k) + 1 = nI (k + 1))]
            rw [show ((sp_sum (fun z => if I 160 e < I 160 z ∨ I 160 z = I 160 e ∧ z < e then 1 else 0) k) + 0 : Int32) = sp_sum (fun z => if I 160 e < I 160 z ∨ I 160 z = I 160 e ∧ z < e then 1 else 0) (k + 1) from by rw [sp_sum, if_neg (fun z => z.elim c2 (fun y => absurd y.2 (by omega)))]]
            exact ik trivial
          · have c4 := vm_ge_f (a := k) (b := e) (by omega) (by omega) c4
            refine vm_J.go vm_q191 (k := 6) (hs := []) (f' := (4, (0, 0), [.ref 152, .int (nI e), .int ((sp_sum (fun z => if I 160 e < I 160 z ∨ I 160 z = I 160 e ∧ z < e then 1 else 0) k) + 1), .int ((nI k) + 1)], [])) (h' := (G, I, F)) (hs' := []) rfl rfl ?_
            rw [((vm_pa (rfl : nI k = nI k) (rfl : (1 : Int32) = nI 1)) : (nI k) + 1 = nI (k + 1))]
            rw [show ((sp_sum (fun z => if I 160 e < I 160 z ∨ I 160 z = I 160 e ∧ z < e then 1 else 0) k) + 1 : Int32) = sp_sum (fun z => if I 160 e < I 160 z ∨ I 160 z = I 160 e ∧ z < e then 1 else 0) (k + 1) from by rw [sp_sum, if_pos (Or.inr ⟨c3, c4⟩)]]
            exact ik trivial
  · show vm_J _ _ _ (4, (0, 0), [.ref 152, .int (nI e), .int (sp_sum (fun z => if I 160 e < I 160 z ∨ I 160 z = I 160 e ∧ z < e then 1 else 0) n), .int (nI n)], []) (G, I, F) _ _
    refine vm_J.go vm_q191 (k := 3) (hs := [vm_shR]) (f' := (9, (0, 0), [.ref 152, .int (nI e), .int (sp_sum (fun z => if I 160 e < I 160 z ∨ I 160 z = I 160 e ∧ z < e then 1 else 0) n), .int (nI n)], [.int (I 152 14), .int (nI n)])) (h' := (G, I, F)) (hs' := []) rfl (vm_b2 rfl (vm_b2 rfl (vm_b2 (vm_b2 (vm_hG hR.c152) rfl) rfl))) ?_
    rw [(hn : I 152 14 = nI n)]
    refine vm_J.go vm_q191 (k := 1) (hs := []) (f' := (bif vm_ic .ge (nI n) (nI n) then 61 else 12, (0, 0), [.ref 152, .int (nI e), .int (sp_sum (fun z => if I 160 e < I 160 z ∨ I 160 z = I 160 e ∧ z < e then 1 else 0) n), .int (nI n)], [])) (h' := (G, I, F)) (hs' := []) rfl rfl ?_
    refine vm_J.br (fun c5 => ?_) (fun c5 => ?_)
    · have c5 := vm_ge_t (a := n) (b := n) (by omega) (by omega) c5
      refine vm_J.go vm_q191 (k := 1) (hs := []) (f' := (62, (0, 0), [.ref 152, .int (nI e), .int (sp_sum (fun z => if I 160 e < I 160 z ∨ I 160 z = I 160 e ∧ z < e then 1 else 0) n), .int (nI n)], [.int (sp_sum (fun z => if I 160 e < I 160 z ∨ I 160 z = I 160 e ∧ z < e then 1 else 0) n)])) (h' := (G, I, F)) (hs' := []) rfl rfl ?_
      exact vm_J.end vm_q191 (en := (62, .ireturn, 1, [], .null)) rfl rfl vm_rI (Nat.zero_le _) (Nat.zero_le _) rfl
    · have c5 := vm_ge_f (a := n) (b := n) (by omega) (by omega) c5
      exact (show False by omega).elim
set_option maxHeartbeats 4000000 in
set_option maxRecDepth 20000 in
/-- DitherDeskModel.common -/
theorem r_common_y {l : Launch} {X : vm_Cx} {G : List vm_Sh} {I : Nat → Nat → Int32} {F : Nat → Nat → UInt32} {p : Nat} {w : Nat} {h : Nat} {x : Int32} (hR : vm_isR G) (hw : I 153 p = nI w) (hh : I 154 p = nI h) (hp : p < 4) (hw2 : w ≤ 12) (hh2 : h ≤ 12) (hw0 : 0 < w) : vm_K l X vm_M192 [.ref 152, .int (nI p), .int x] (G, I, F) (some (.int (if sp_fi (fun z => sp_ca (((vr_gth I (fun y => I 155 (144 * p + y)) (w * h)).1) 160) (vr_gth I (fun y => I 155 (144 * p + y)) (w * h)).2 z = x) (vr_gth I (fun y => I 155 (144 * p + y)) (w * h)).2 < (vr_gth I (fun y => I 155 (144 * p + y)) (w * h)).2 then ((vr_gth I (fun y => I 155 (144 * p + y)) (w * h)).1) 159 (sp_fi (fun z => sp_ca (((vr_gth I (fun y => I 155 (144 * p + y)) (w * h)).1) 160) (vr_gth I (fun y => I 155 (144 * p + y)) (w * h)).2 z = x) (vr_gth I (fun y => I 155 (144 * p + y)) (w * h)).2) else -2))) (G, ((vr_gth I (fun y => I 155 (144 * p + y)) (w * h)).1), F) := by
  refine vm_K.mk (by decide) (Nat.le_of_ble_eq_true rfl) ?_
  have hwh := vm_mul144 hw2 hh2
  have hgn := (vr_gth_n I (fun y => I 155 (144 * p + y)) (w * h)).2
  show vm_J _ _ _ (0, (0, 0), [.ref 152, .int (nI p), .int x, .retAddr 0], []) _ _ _
  refine vm_J.go vm_q192 (k := 2) (hs := []) (f' := (2, (0, 0), [.ref 152, .int (nI p), .int x, .retAddr 0], [.int (nI p), .ref 152])) (h' := (G, I, F)) (hs' := []) rfl rfl ?_
  refine vm_J.call vm_q192 (Z := vm_M172) (n := 1) (k := 0) (mi := 172) (pc := 2) (en := (2, .invokevirtual 156, 3, [172, 1313, 0], .null)) rfl trivial rfl rfl vm_z172 (av := [.ref 152, .int (nI p)]) (rest := []) (r_isPic_y (p := p) (w := w) hR (by omega) hw (by omega) (by omega)) ⟨_, _, rfl, rfl, _, 11, _, hR.c152, rfl, rfl, rfl⟩ (Nat.le_of_ble_eq_true rfl) ⟨Nat.le_of_ble_eq_true rfl, Nat.le_of_ble_eq_true rfl⟩ ⟨Nat.le_of_ble_eq_true rfl, Nat.le_of_ble_eq_true rfl⟩ ?_
  show vm_J _ _ _ (5, (0, 0), [.ref 152, .int (nI p), .int x, .retAddr 0], [.int 1]) (G, I, F) _ _
  refine vm_J.go vm_q192 (k := 1) (hs := []) (f' := (bif vm_ic .ne 1 0 then 10 else 8, (0, 0), [.ref 152, .int (nI p), .int x, .retAddr 0], [])) (h' := (G, I, F)) (hs' := []) rfl rfl ?_
  refine vm_J.bT (by decide) ?_
  refine vm_J.go vm_q192 (k := 2) (hs := []) (f' := (12, (0, 0), [.ref 152, .int (nI p), .int x, .retAddr 0], [.int (nI p), .ref 152])) (h' := (G, I, F)) (hs' := []) rfl rfl ?_
  refine vm_J.call vm_q192 (Z := vm_M188) (n := 1) (k := 0) (mi := 188) (pc := 12) (en := (12, .invokevirtual 195, 3, [188, 1359, 0], .null)) rfl trivial rfl rfl vm_z188 (av := [.ref 152, .int (nI p)]) (rest := []) (r_find (p := p) (w := w) (h := h) hR hw hh (by omega) (by omega) (by omega)) ⟨_, _, rfl, rfl, _, 11, _, hR.c152, rfl, rfl, rfl⟩ (Nat.le_of_ble_eq_true rfl) ⟨Nat.le_of_ble_eq_true rfl, Nat.le_of_ble_eq_true rfl⟩ ⟨Nat.le_of_ble_eq_true rfl, Nat.le_of_ble_eq_true rfl⟩ ?_
  show vm_J _ _ _ (15, (0, 0), [.ref 152, .int (nI p), .int x, .retAddr 0], []) (G, ((vr_gth I (fun y => I 155 (144 * p + y)) (w * h)).1), F) _ _
  refine vm_J.go vm_q192 (k := 2) (hs := []) (f' := (17, (0, 0), [.ref 152, .int (nI p), .int x, .int 0], [])) (h' := (G, ((vr_gth I (fun y => I 155 (144 * p + y)) (w * h)).1), F)) (hs' := []) rfl rfl ?_
  refine vm_J.cnt ((vr_gth I (fun y => I 155 (144 * p + y)) (w * h)).2) (fun k => (17, (0, 0), [.ref 152, .int (nI p), .int x, .int (nI k)], [])) (fun k => (G, ((vr_gth I (fun y => I 155 (144 * p + y)) (w * h)).1), F)) (fun k => ∀ i, i < k → ¬ sp_ca (((vr_gth I (fun y => I 155 (144 * p + y)) (w * h)).1) 160) (vr_gth I (fun y => I 155 (144 * p + y)) (w * h)).2 i = x) rfl rfl vm_all0 (fun k hk pk ik => ?_) (fun pk => ?_)
  · show vm_J _ _ _ (17, (0, 0), [.ref 152, .int (nI p), .int x, .int (nI k)], []) (G, ((vr_gth I (fun y => I 155 (144 * p + y)) (w * h)).1), F) _ _
    refine vm_J.go vm_q192 (k := 3) (hs := [vm_shR]) (f' := (22, (0, 0), [.ref 152, .int (nI p), .int x, .int (nI k)], [.int (((vr_gth I (fun y => I 155 (144 * p + y)) (w * h)).1) 152 14), .int (nI k)])) (h' := (G, ((vr_gth I (fun y => I 155 (144 * p + y)) (w * h)).1), F)) (hs' := []) rfl (vm_b2 rfl (vm_b2 rfl (vm_b2 (vm_b2 (vm_hG hR.c152) rfl) rfl))) ?_
    rw [((vr_gth_n _ _ _).1 : ((vr_gth I (fun y => I 155 (144 * p + y)) (w * h)).1) 152 14 = nI (vr_gth I (fun y => I 155 (144 * p + y)) (w * h)).2)]
    refine vm_J.go vm_q192 (k := 1) (hs := []) (f' := (bif vm_ic .ge (nI k) (nI (vr_gth I (fun y => I 155 (144 * p + y)) (w * h)).2) then 47 else 25, (0, 0), [.ref 152, .int (nI p), .int x, .int (nI k)], [])) (h' := (G, ((vr_gth I (fun y => I 155 (144 * p + y)) (w * h)).1), F)) (hs' := []) rfl rfl ?_
    refine vm_J.br (fun c1 => ?_) (fun c1 => ?_)
    · rw [(rfl : nI (vr_gth I (fun y => I 155 (144 * p + y)) (w * h)).2 = nI ((vr_gth I (fun y => I 155 (144 * p + y)) (w * h)).2))] at c1
      have c1 := vm_ge_t (a := k) (b := (vr_gth I (fun y => I 155 (144 * p + y)) (w * h)).2) (by omega) (by omega) c1
      exact (show False by omega).elim
    · rw [(rfl : nI (vr_gth I (fun y => I 155 (144 * p + y)) (w * h)).2 = nI ((vr_gth I (fun y => I 155 (144 * p + y)) (w * h)).2))] at c1
      have c1 := vm_ge_f (a := k) (b := (vr_gth I (fun y => I 155 (144 * p + y)) (w * h)).2) (by omega) (by omega) c1
      refine vm_J.go vm_q192 (k := 2) (hs := []) (f' := (27, (0, 0), [.ref 152, .int (nI p), .int x, .int (nI k)], [.int (nI k), .ref 152])) (h' := (G, ((vr_gth I (fun y => I 155 (144 * p + y)) (w * h)).1), F)) (hs' := []) rfl rfl ?_
      refine vm_J.call vm_q192 (Z := vm_M191) (n := 1) (k := 0) (mi := 191) (pc := 27) (en := (27, .invokevirtual 198, 3, [191, 1375, 0], .null)) rfl trivial rfl rfl vm_z191 (av := [.ref 152, .int (nI k)]) (rest := []) (r_ahead (n := (vr_gth I (fun y => I 155 (144 * p + y)) (w * h)).2) (e := k) hR (vr_gth_n _ _ _).1 (by omega) (by omega)) ⟨_, _, rfl, rfl, _, 11, _, hR.c152, rfl, rfl, rfl⟩ (Nat.le_of_ble_eq_true rfl) ⟨Nat.le_of_ble_eq_true rfl, Nat.le_of_ble_eq_true rfl⟩ ⟨Nat.le_of_ble_eq_true rfl, Nat.le_of_ble_eq_true rfl⟩ ?_
      show vm_J _ _ _ (30, (0, 0), [.ref 152, .int (nI p), .int x, .int (nI k)], [.int (sp_ca (((vr_gth I (fun y => I 155 (144 * p + y)) (w * h)).1) 160) ((vr_gth I (fun y => I 155 (144 * p + y)) (w * h)).2) k)]) (G, ((vr_gth I (fun y => I 155 (144 * p + y)) (w * h)).1), F) _ _
      refine vm_J.go vm_q192 (k := 2) (hs := []) (f' := (bif vm_ic .ne (sp_ca (((vr_gth I (fun y => I 155 (144 * p + y)) (w * h)).1) 160) ((vr_gth I (fun y => I 155 (144 * p + y)) (w * h)).2) k) x then 41 else 34, (0, 0), [.ref 152, .int (nI p), .int x, .int (nI k)], [])) (h' := (G, ((vr_gth I (fun y => I 155 (144 * p + y)) (w * h)).1), F)) (hs' := []) rfl rfl ?_
      refine vm_J.br (fun c2 => ?_) (fun c2 => ?_)
      · have c2 : ¬ (sp_ca (((vr_gth I (fun y => I 155 (144 * p + y)) (w * h)).1) 160) ((vr_gth I (fun y => I 155 (144 * p + y)) (w * h)).2) k) = x := of_decide_eq_true c2
        refine vm_J.go vm_q192 (k := 2) (hs := []) (f' := (17, (0, 0), [.ref 152, .int (nI p), .int x, .int ((nI k) + 1)], [])) (h' := (G, ((vr_gth I (fun y => I 155 (144 * p + y)) (w * h)).1), F)) (hs' := []) rfl rfl ?_
        rw [((vm_pa (rfl : nI k = nI k) (rfl : (1 : Int32) = nI 1)) : (nI k) + 1 = nI (k + 1))]
        exact ik (vm_alls (p := fun i => ¬ sp_ca (((vr_gth I (fun y => I 155 (144 * p + y)) (w * h)).1) 160) (vr_gth I (fun y => I 155 (144 * p + y)) (w * h)).2 i = x) pk c2)
      · have c2 : (sp_ca (((vr_gth I (fun y => I 155 (144 * p + y)) (w * h)).1) 160) ((vr_gth I (fun y => I 155 (144 * p + y)) (w * h)).2) k) = x := Decidable.of_not_not (of_decide_eq_false c2)
        refine vm_J.go vm_q192 (k := 4) (hs := [vm_shR, (0, 144, [])]) (f' := (40, (0, 0), [.ref 152, .int (nI p), .int x, .int (nI k)], [.int (((vr_gth I (fun y => I 155 (144 * p + y)) (w * h)).1) 159 (nI k).toNatClampNeg)])) (h' := (G, ((vr_gth I (fun y => I 155 (144 * p + y)) (w * h)).1), F)) (hs' := []) rfl (vm_b2 rfl (vm_b2 (vm_b2 (vm_hG hR.c152) rfl) (vm_b2 rfl (vm_b2 (vm_b2 (vm_hG hR.c159) (vm_in_e (j := k) (n := 144) rfl (by omega) (by omega))) rfl)))) ?_
        rw [vm_ix_e (j := k) rfl (by omega)]
        exact vm_J.end vm_q192 (en := (40, .ireturn, 1, [], .null)) rfl (by rw [sp_fi_hit (p := (fun z => sp_ca (((vr_gth I (fun y => I 155 (144 * p + y)) (w * h)).1) 160) (vr_gth I (fun y => I 155 (144 * p + y)) (w * h)).2 z = x)) hk pk c2, if_pos hk]; rfl) vm_rI (Nat.zero_le _) (Nat.zero_le _) rfl
  · show vm_J _ _ _ (17, (0, 0), [.ref 152, .int (nI p), .int x, .int (nI ((vr_gth I (fun y => I 155 (144 * p + y)) (w * h)).2))], []) (G, ((vr_gth I (fun y => I 155 (144 * p + y)) (w * h)).1), F) _ _
    refine vm_J.go vm_q192 (k := 3) (hs := [vm_shR]) (f' := (22, (0, 0), [.ref 152, .int (nI p), .int x, .int (nI ((vr_gth I (fun y => I 155 (144 * p + y)) (w * h)).2))], [.int (((vr_gth I (fun y => I 155 (144 * p + y)) (w * h)).1) 152 14), .int (nI ((vr_gth I (fun y => I 155 (144 * p + y)) (w * h)).2))])) (h' := (G, ((vr_gth I (fun y => I 155 (144 * p + y)) (w * h)).1), F)) (hs' := []) rfl (vm_b2 rfl (vm_b2 rfl (vm_b2 (vm_b2 (vm_hG hR.c152) rfl) rfl))) ?_
    rw [((vr_gth_n _ _ _).1 : ((vr_gth I (fun y => I 155 (144 * p + y)) (w * h)).1) 152 14 = nI (vr_gth I (fun y => I 155 (144 * p + y)) (w * h)).2)]
    refine vm_J.go vm_q192 (k := 1) (hs := []) (f' := (bif vm_ic .ge (nI ((vr_gth I (fun y => I 155 (144 * p + y)) (w * h)).2)) (nI (vr_gth I (fun y => I 155 (144 * p + y)) (w * h)).2) then 47 else 25, (0, 0), [.ref 152, .int (nI p), .int x, .int (nI ((vr_gth I (fun y => I 155 (144 * p + y)) (w * h)).2))], [])) (h' := (G, ((vr_gth I (fun y => I 155 (144 * p + y)) (w * h)).1), F)) (hs' := []) rfl rfl ?_
    refine vm_J.br (fun c3 => ?_) (fun c3 => ?_)
    · rw [(rfl : nI (vr_gth I (fun y => I 155 (144 * p + y)) (w * h)).2 = nI ((vr_gth I (fun y => I 155 (144 * p + y)) (w * h)).2))] at c3
      have c3 := vm_ge_t (a := ((vr_gth I (fun y => I 155 (144 * p + y)) (w * h)).2)) (b := (vr_gth I (fun y => I 155 (144 * p + y)) (w * h)).2) (by omega) (by omega) c3
      refine vm_J.go vm_q192 (k := 1) (hs := []) (f' := (49, (0, 0), [.ref 152, .int (nI p), .int x, .int (nI ((vr_gth I (fun y => I 155 (144 * p + y)) (w * h)).2))], [.int (-2)])) (h' := (G, ((vr_gth I (fun y => I 155 (144 * p + y)) (w * h)).1), F)) (hs' := []) rfl rfl ?_
      exact vm_J.end vm_q192 (en := (49, .ireturn, 1, [], .null)) rfl (by rw [sp_fi_none (p := (fun z => sp_ca (((vr_gth I (fun y => I 155 (144 * p + y)) (w * h)).1) 160) (vr_gth I (fun y => I 155 (144 * p + y)) (w * h)).2 z = x)) pk, if_neg (Nat.lt_irrefl _)]; rfl) vm_rI (Nat.zero_le _) (Nat.zero_le _) rfl
    · rw [(rfl : nI (vr_gth I (fun y => I 155 (144 * p + y)) (w * h)).2 = nI ((vr_gth I (fun y => I 155 (144 * p + y)) (w * h)).2))] at c3
      have c3 := vm_ge_f (a := ((vr_gth I (fun y => I 155 (144 * p + y)) (w * h)).2)) (b := (vr_gth I (fun y => I 155 (144 * p + y)) (w * h)).2) (by omega) (by omega) c3
      exact (show False by omega).elim
