/-- the reference's span of a box on a channel -/
def vr_lo (f g : Nat → Int32) (x k : Int32) : Nat → Int32
  | 0 => 64
  | j + 1 => if g j = x then sp_mn (vr_lo f g x k j) (sp_ch (f j) k) else vr_lo f g x k j
def vr_hi (f g : Nat → Int32) (x k : Int32) : Nat → Int32
  | 0 => -1
  | j + 1 => if g j = x then sp_mx (vr_hi f g x k j) (sp_ch (f j) k) else vr_hi f g x k j
def vr_sp (f g : Nat → Int32) (n : Nat) (x k : Int32) : Int32 := vr_hi f g x k n - vr_lo f g x k n
/-- its widest channel -/
def vr_wd (f g : Nat → Int32) (n : Nat) (x : Int32) : Nat → Nat
  | 0 => 0
  | j + 1 => if vr_sp f g n x (nI (vr_wd f g n x j)) < vr_sp f g n x (nI (1 + j)) then 1 + j else vr_wd f g n x j
theorem vr_wd_l (f g : Nat → Int32) (n : Nat) (x : Int32) : ∀ j, vr_wd f g n x j ≤ j
  | 0 => Nat.le_refl 0
  | j + 1 => by
    have := vr_wd_l f g n x j
    unfold vr_wd
    split <;> omega
def vr_so (f g : Nat → Int32) (n : Nat) (x : Int32) : Int32 := vr_sp f g n x (nI (vr_wd f g n x 2))
def vr_px (g h : Nat → Int32) (n : Nat) (x : Int32) : Int32 := sp_sum (fun i => if g i = x then h i else 0) n
def vr_co (g : Nat → Int32) (n : Nat) (x : Int32) : Int32 := sp_sum (fun i => if g i = x then 1 else 0) n
def vr_fi (g : Nat → Int32) (n : Nat) (x : Int32) : Nat := sp_fi (fun i => g i = x) n
/-- one of the reference's boxes ahead of another -/
abbrev vr_ia (f g h : Nat → Int32) (n : Nat) (x y : Int32) : Prop := sp_ia (vr_so f g n x) (vr_px g h n x) (nI (vr_fi g n x)) (vr_so f g n y) (vr_px g h n y) (nI (vr_fi g n y))
def vr_bc (f g h : Nat → Int32) (n : Nat) : Nat → Nat
  | 0 => 0
  | j + 1 => if vr_ia f g h n (nI (1 + j)) (nI (vr_bc f g h n j)) then 1 + j else vr_bc f g h n j
theorem vr_bc_l (f g h : Nat → Int32) (n : Nat) : ∀ j, vr_bc f g h n j ≤ j
  | 0 => Nat.le_refl 0
  | j + 1 => by
    have := vr_bc_l f g h n j
    unfold vr_bc
    split <;> omega
set_option maxHeartbeats 4000000 in
set_option maxRecDepth 20000 in
/-- DitherDeskModel.spanOn -/
theorem r_spanOn {l : Launch} {X : vm_Cx} {G : List vm_Sh} {I : Nat → Nat → Int32} {F : Nat → Nat → UInt32} {n : Nat} {x : Int32} {k : Int32} (hR : vm_isR G) (hn : I 152 14 = nI n) (hn2 : n ≤ 144) : vm_K l X vm_M196 [.ref 152, .int x, .int k] (G, I, F) (some (.int (vr_sp (I 159) (I 161) n x k))) (G, I, F) := by
  refine vm_K.mk (by decide) (Nat.le_of_ble_eq_true rfl) ?_
  show vm_J _ _ _ (0, (0, 0), [.ref 152, .int x, .int k, .retAddr 0, .retAddr 0, .retAddr 0, .retAddr 0], []) _ _ _
  refine vm_J.go vm_q196 (k := 6) (hs := []) (f' := (9, (0, 0), [.ref 152, .int x, .int k, .int 64, .int (-1), .int 0, .retAddr 0], [])) (h' := (G, I, F)) (hs' := []) rfl rfl ?_
  refine vm_J.cnt n (fun j => (9, (0, 0), [.ref 152, .int x, .int k, .int (vr_lo (I 159) (I 161) x k j), .int (vr_hi (I 159) (I 161) x k j), .int (nI j), .retAddr 0], [])) (fun j => (G, I, F)) (fun _ => True) rfl rfl trivial (fun j hj pj ij => ?_) (fun pj => ?_)
  · show vm_J _ _ _ (9, (0, 0), [.ref 152, .int x, .int k, .int (vr_lo (I 159) (I 161) x k j), .int (vr_hi (I 159) (I 161) x k j), .int (nI j), .retAddr 0], []) (G, I, F) _ _
    refine vm_J.go vm_q196 (k := 3) (hs := [vm_shR]) (f' := (15, (0, 0), [.ref 152, .int x, .int k, .int (vr_lo (I 159) (I 161) x k j), .int (vr_hi (I 159) (I 161) x k j), .int (nI j), .retAddr 0], [.int (I 152 14), .int (nI j)])) (h' := (G, I, F)) (hs' := []) rfl (vm_b2 rfl (vm_b2 rfl (vm_b2 (vm_b2 (vm_hG hR.c152) rfl) rfl))) ?_
    rw [(hn : I 152 14 = nI n)]
    refine vm_J.go vm_q196 (k := 1) (hs := []) (f' := (bif vm_ic .ge (nI j) (nI n) then 80 else 18, (0, 0), [.ref 152, .int x, .int k, .int (vr_lo (I 159) (I 161) x k j), .int (vr_hi (I 159) (I 161) x k j), .int (nI j), .retAddr 0], [])) (h' := (G, I, F)) (hs' := []) rfl rfl ?_
    refine vm_J.br (fun c1 => ?_) (fun c1 => ?_)
    · have c1 := vm_ge_t (a := j) (b := n) (by omega) (by omega) c1
      exact (show False by omega).elim
    · have c1 := vm_ge_f (a := j) (b := n) (by omega) (by omega) c1
      refine vm_J.go vm_q196 (k := 5) (hs := [vm_shR, (0, 144, [])]) (f' := (26, (0, 0), [.ref 152, .int x, .int k, .int (vr_lo (I 159) (I 161) x k j), .int (vr_hi (I 159) (I 161) x k j), .int (nI j), .retAddr 0], [.int x, .int (I 161 (nI j).toNatClampNeg)])) (h' := (G, I, F)) (hs' := []) rfl (vm_b2 rfl (vm_b2 (vm_b2 (vm_hG hR.c152) rfl) (vm_b2 rfl (vm_b2 (vm_b2 (vm_hG hR.c161) (vm_in_e (j := j) (n := 144) rfl (by omega) (by omega))) (vm_b2 rfl rfl))))) ?_
      rw [vm_ix_e (j := j) rfl (by omega)]
      refine vm_J.go vm_q196 (k := 1) (hs := []) (f' := (bif vm_ic .eq (I 161 j) x then 32 else 29, (0, 0), [.ref 152, .int x, .int k, .int (vr_lo (I 159) (I 161) x k j), .int (vr_hi (I 159) (I 161) x k j), .int (nI j), .retAddr 0], [])) (h' := (G, I, F)) (hs' := []) rfl rfl ?_
      refine vm_J.br (fun c2 => ?_) (fun c2 => ?_)
      · have c2 : (I 161 j) = x := of_decide_eq_true c2
        refine vm_J.go vm_q196 (k := 5) (hs := [vm_shR, (0, 144, [])]) (f' := (40, (0, 0), [.ref 152, .int x, .int k, .int (vr_lo (I 159) (I 161) x k j), .int (vr_hi (I 159) (I 161) x k j), .int (nI j), .retAddr 0], [.int k, .int (I 159 (nI j).toNatClampNeg)])) (h' := (G, I, F)) (hs' := []) rfl (vm_b2 rfl (vm_b2 (vm_b2 (vm_hG hR.c152) rfl) (vm_b2 rfl (vm_b2 (vm_b2 (vm_hG hR.c159) (vm_in_e (j := j) (n := 144) rfl (by omega) (by omega))) (vm_b2 rfl rfl))))) ?_
        rw [vm_ix_e (j := j) rfl (by omega)]
        refine vm_J.call vm_q196 (Z := vm_M170) (n := 2) (k := 1) (mi := 170) (pc := 40) (en := (40, .invokestatic 180, 3, [170, 1348, 0], .null)) rfl trivial rfl rfl vm_z170 (av := [.int (I 159 j), .int k]) (rest := []) (r_channelOf (c := I 159 j) (k := k)) rfl (Nat.le_of_ble_eq_true rfl) ⟨Nat.le_of_ble_eq_true rfl, Nat.le_of_ble_eq_true rfl⟩ ⟨Nat.le_of_ble_eq_true rfl, Nat.le_of_ble_eq_true rfl⟩ ?_
        show vm_J _ _ _ (43, (0, 0), [.ref 152, .int x, .int k, .int (vr_lo (I 159) (I 161) x k j), .int (vr_hi (I 159) (I 161) x k j), .int (nI j), .retAddr 0], [.int (sp_ch (I 159 j) k)]) (G, I, F) _ _
        refine vm_J.go vm_q196 (k := 4) (hs := []) (f' := (bif vm_ic .ge (sp_ch (I 159 j) k) (vr_lo (I 159) (I 161) x k j) then 56 else 51, (0, 0), [.ref 152, .int x, .int k, .int (vr_lo (I 159) (I 161) x k j), .int (vr_hi (I 159) (I 161) x k j), .int (nI j), .int (sp_ch (I 159 j) k)], [])) (h' := (G, I, F)) (hs' := []) rfl rfl ?_
        refine vm_J.br (fun c3 => ?_) (fun c3 => ?_)
        · have c3 : (vr_lo (I 159) (I 161) x k j) ≤ (sp_ch (I 159 j) k) := of_decide_eq_true c3
          refine vm_J.go vm_q196 (k := 5) (hs := []) (f' := (bif vm_ic .le (sp_ch (I 159 j) k) (vr_hi (I 159) (I 161) x k j) then 70 else 65, (0, 0), [.ref 152, .int x, .int k, .int (vr_lo (I 159) (I 161) x k j), .int (vr_hi (I 159) (I 161) x k j), .int (nI j), .int (sp_ch (I 159 j) k)], [])) (h' := (G, I, F)) (hs' := []) rfl rfl ?_
          refine vm_J.br (fun c4 => ?_) (fun c4 => ?_)
          · have c4 : (sp_ch (I 159 j) k) ≤ (vr_hi (I 159) (I 161) x k j) := of_decide_eq_true c4
            refine vm_J.go vm_q196 (k := 4) (hs := []) (f' := (9, (0, 0), [.ref 152, .int x, .int k, .int (vr_lo (I 159) (I 161) x k j), .int (vr_hi (I 159) (I 161) x k j), .int ((nI j) + 1), .int (sp_ch (I 159 j) k)], [])) (h' := (G, I, F)) (hs' := []) rfl rfl ?_
            rw [((vm_pa (rfl : nI j = nI j) (rfl : (1 : Int32) = nI 1)) : (nI j) + 1 = nI (j + 1))]
            refine vm_J.mask [true, true, true, true, true, true, false] ?_
            show vm_J _ _ _ (9, (0, 0), [.ref 152, .int x, .int k, .int (vr_lo (I 159) (I 161) x k j), .int (vr_hi (I 159) (I 161) x k j), .int (nI (j + 1)), .retAddr 0], []) (G, I, F) _ _
            have z := ij trivial
            rw [show vr_lo (I 159) (I 161) x k (j + 1) = vr_lo (I 159) (I 161) x k j from by rw [vr_lo, if_pos c2, sp_mn, if_neg (vm_nle_lt c3)]] at z
            rw [show vr_hi (I 159) (I 161) x k (j + 1) = vr_hi (I 159) (I 161) x k j from by rw [vr_hi, if_pos c2, sp_mx, if_neg (vm_nle_lt c4)]] at z
            exact z
          · have c4 : ¬ ((sp_ch (I 159 j) k) ≤ (vr_hi (I 159) (I 161) x k j)) := of_decide_eq_false c4
            refine vm_J.go vm_q196 (k := 5) (hs := []) (f' := (9, (0, 0), [.ref 152, .int x, .int k, .int (vr_lo (I 159) (I 161) x k j), .int (sp_ch (I 159 j) k), .int ((nI j) + 1), .int (sp_ch (I 159 j) k)], [])) (h' := (G, I, F)) (hs' := []) rfl rfl ?_
            rw [((vm_pa (rfl : nI j = nI j) (rfl : (1 : Int32) = nI 1)) : (nI j) + 1 = nI (j + 1))]
            refine vm_J.mask [true, true, true, true, true, true, false] ?_
            show vm_J _ _ _ (9, (0, 0), [.ref 152, .int x, .int k, .int (vr_lo (I 159) (I 161) x k j), .int (sp_ch (I 159 j) k), .int (nI (j + 1)), .retAddr 0], []) (G, I, F) _ _
            have z := ij trivial
            rw [show vr_lo (I 159) (I 161) x k (j + 1) = vr_lo (I 159) (I 161) x k j from by rw [vr_lo, if_pos c2, sp_mn, if_neg (vm_nle_lt c3)]] at z
            rw [show vr_hi (I 159) (I 161) x k (j + 1) = sp_ch (I 159 j) k from by rw [vr_hi, if_pos c2, sp_mx, if_pos (vm_nge_lt c4)]] at z
            exact z
        · have c3 : ¬ ((vr_lo (I 159) (I 161) x k j) ≤ (sp_ch (I 159 j) k)) := of_decide_eq_false c3
          refine vm_J.go vm_q196 (k := 6) (hs := []) (f' := (bif vm_ic .le (sp_ch (I 159 j) k) (vr_hi (I 159) (I 161) x k j) then 70 else 65, (0, 0), [.ref 152, .int x, .int k, .int (sp_ch (I 159 j) k), .int (vr_hi (I 159) (I 161) x k j), .int (nI j), .int (sp_ch (I 159 j) k)], [])) (h' := (G, I, F)) (hs' := []) rfl rfl ?_
          refine vm_J.br (fun c5 => ?_) (fun c5 => ?_)
          · have c5 : (sp_ch (I 159 j) k) ≤ (vr_hi (I 159) (I 161) x k j) := of_decide_eq_true c5
            refine vm_J.go vm_q196 (k := 4) (hs := []) (f' := (9, (0, 0), [.ref 152, .int x, .int k, .int (sp_ch (I 159 j) k), .int (vr_hi (I 159) (I 161) x k j), .int ((nI j) + 1), .int (sp_ch (I 159 j) k)], [])) (h' := (G, I, F)) (hs' := []) rfl rfl ?_
            rw [((vm_pa (rfl : nI j = nI j) (rfl : (1 : Int32) = nI 1)) : (nI j) + 1 = nI (j + 1))]
            refine vm_J.mask [true, true, true, true, true, true, false] ?_
            show vm_J _ _ _ (9, (0, 0), [.ref 152, .int x, .int k, .int (sp_ch (I 159 j) k), .int (vr_hi (I 159) (I 161) x k j), .int (nI (j + 1)), .retAddr 0], []) (G, I, F) _ _
            have z := ij trivial
            rw [show vr_lo (I 159) (I 161) x k (j + 1) = sp_ch (I 159 j) k from by rw [vr_lo, if_pos c2, sp_mn, if_pos (vm_nge_lt c3)]] at z
            rw [show vr_hi (I 159) (I 161) x k (j + 1) = vr_hi (I 159) (I 161) x k j from by rw [vr_hi, if_pos c2, sp_mx, if_neg (vm_nle_lt c5)]] at z
            exact z
          · have c5 : ¬ ((sp_ch (I 159 j) k) ≤ (vr_hi (I 159) (I 161) x k j)) := of_decide_eq_false c5
            refine vm_J.go vm_q196 (k := 5) (hs := []) (f' := (9, (0, 0), [.ref 152, .int x, .int k, .int (sp_ch (I 159 j) k), .int (sp_ch (I 159 j) k), .int ((nI j) + 1), .int (sp_ch (I 159 j) k)], [])) (h' := (G, I, F)) (hs' := []) rfl rfl ?_
            rw [((vm_pa (rfl : nI j = nI j) (rfl : (1 : Int32) = nI 1)) : (nI j) + 1 = nI (j + 1))]
            refine vm_J.mask [true, true, true, true, true, true, false] ?_
            show vm_J _ _ _ (9, (0, 0), [.ref 152, .int x, .int k, .int (sp_ch (I 159 j) k), .int (sp_ch (I 159 j) k), .int (nI (j + 1)), .retAddr 0], []) (G, I, F) _ _
            have z := ij trivial
            rw [show vr_lo (I 159) (I 161) x k (j + 1) = sp_ch (I 159 j) k from by rw [vr_lo, if_pos c2, sp_mn, if_pos (vm_nge_lt c3)]] at z
            rw [show vr_hi (I 159) (I 161) x k (j + 1) = sp_ch (I 159 j) k from by rw [vr_hi, if_pos c2, sp_mx, if_pos (vm_nge_lt c5)]] at z
            exact z
      · have c2 : ¬ ((I 161 j) = x) := of_decide_eq_false c2
        refine vm_J.go vm_q196 (k := 3) (hs := []) (f' := (9, (0, 0), [.ref 152, .int x, .int k, .int (vr_lo (I 159) (I 161) x k j), .int (vr_hi (I 159) (I 161) x k j), .int ((nI j) + 1), .retAddr 0], [])) (h' := (G, I, F)) (hs' := []) rfl rfl ?_
        rw [((vm_pa (rfl : nI j = nI j) (rfl : (1 : Int32) = nI 1)) : (nI j) + 1 = nI (j + 1))]
        have z := ij trivial
        rw [show vr_lo (I 159) (I 161) x k (j + 1) = vr_lo (I 159) (I 161) x k j from by rw [vr_lo, if_neg c2]] at z
        rw [show vr_hi (I 159) (I 161) x k (j + 1) = vr_hi (I 159) (I 161) x k j from by rw [vr_hi, if_neg c2]] at z
        exact z
  · show vm_J _ _ _ (9, (0, 0), [.ref 152, .int x, .int k, .int (vr_lo (I 159) (I 161) x k n), .int (vr_hi (I 159) (I 161) x k n), .int (nI n), .retAddr 0], []) (G, I, F) _ _
    refine vm_J.go vm_q196 (k := 3) (hs := [vm_shR]) (f' := (15, (0, 0), [.ref 152, .int x, .int k, .int (vr_lo (I 159) (I 161) x k n), .int (vr_hi (I 159) (I 161) x k n), .int (nI n), .retAddr 0], [.int (I 152 14), .int (nI n)])) (h' := (G, I, F)) (hs' := []) rfl (vm_b2 rfl (vm_b2 rfl (vm_b2 (vm_b2 (vm_hG hR.c152) rfl) rfl))) ?_
    rw [(hn : I 152 14 = nI n)]
    refine vm_J.go vm_q196 (k := 1) (hs := []) (f' := (bif vm_ic .ge (nI n) (nI n) then 80 else 18, (0, 0), [.ref 152, .int x, .int k, .int (vr_lo (I 159) (I 161) x k n), .int (vr_hi (I 159) (I 161) x k n), .int (nI n), .retAddr 0], [])) (h' := (G, I, F)) (hs' := []) rfl rfl ?_
    refine vm_J.br (fun c6 => ?_) (fun c6 => ?_)
    · have c6 := vm_ge_t (a := n) (b := n) (by omega) (by omega) c6
      refine vm_J.go vm_q196 (k := 3) (hs := []) (f' := (84, (0, 0), [.ref 152, .int x, .int k, .int (vr_lo (I 159) (I 161) x k n), .int (vr_hi (I 159) (I 161) x k n), .int (nI n), .retAddr 0], [.int ((vr_hi (I 159) (I 161) x k n) - (vr_lo (I 159) (I 161) x k n))])) (h' := (G, I, F)) (hs' := []) rfl rfl ?_
      exact vm_J.end vm_q196 (en := (84, .ireturn, 1, [], .null)) rfl rfl vm_rI (Nat.zero_le _) (Nat.zero_le _) rfl
    · have c6 := vm_ge_f (a := n) (b := n) (by omega) (by omega) c6
      exact (show False by omega).elim
set_option maxHeartbeats 4000000 in
set_option maxRecDepth 20000 in
/-- DitherDeskModel.widestOf -/
theorem r_widestOf {l : Launch} {X : vm_Cx} {G : List vm_Sh} {I : Nat → Nat → Int32} {F : Nat → Nat → UInt32} {n : Nat} {x : Int32} (hR : vm_isR G) (hn : I 152 14 = nI n) (hn2 : n ≤ 144) : vm_K l X vm_M197 [.ref 152, .int x] (G, I, F) (some (.int (nI (vr_wd (I 159) (I 161) n x 2)))) (G, I, F) := by
  refine vm_K.mk (by decide) (Nat.le_of_ble_eq_true rfl) ?_
  show vm_J _ _ _ (0, (0, 0), [.ref 152, .int x, .retAddr 0, .retAddr 0], []) _ _ _
  refine vm_J.go vm_q197 (k := 4) (hs := []) (f' := (4, (0, 0), [.ref 152, .int x, .int 0, .int 1], [])) (h' := (G, I, F)) (hs' := []) rfl rfl ?_
  refine vm_J.cnt 2 (fun j => (4, (0, 0), [.ref 152, .int x, .int (nI (vr_wd (I 159) (I 161) n x j)), .int (nI (1 + j))], [])) (fun j => (G, I, F)) (fun _ => True) rfl rfl trivial (fun j hj pj ij => ?_) (fun pj => ?_)
  · show vm_J _ _ _ (4, (0, 0), [.ref 152, .int x, .int (nI (vr_wd (I 159) (I 161) n x j)), .int (nI (1 + j))], []) (G, I, F) _ _
    refine vm_J.go vm_q197 (k := 3) (hs := []) (f' := (bif vm_ic .ge (nI (1 + j)) 3 then 36 else 9, (0, 0), [.ref 152, .int x, .int (nI (vr_wd (I 159) (I 161) n x j)), .int (nI (1 + j))], [])) (h' := (G, I, F)) (hs' := []) rfl rfl ?_
    refine vm_J.br (fun c1 => ?_) (fun c1 => ?_)
    · have c1 := vm_ge_t (a := 1 + j) (b := 3) (by omega) (by omega) c1
      exact (show False by omega).elim
    · have c1 := vm_ge_f (a := 1 + j) (b := 3) (by omega) (by omega) c1
      refine vm_J.go vm_q197 (k := 3) (hs := []) (f' := (12, (0, 0), [.ref 152, .int x, .int (nI (vr_wd (I 159) (I 161) n x j)), .int (nI (1 + j))], [.int (nI (1 + j)), .int x, .ref 152])) (h' := (G, I, F)) (hs' := []) rfl rfl ?_
      refine vm_J.call vm_q197 (Z := vm_M196) (n := 2) (k := 0) (mi := 196) (pc := 12) (en := (12, .invokevirtual 211, 3, [196, 1414, 0], .null)) rfl trivial rfl rfl vm_z196 (av := [.ref 152, .int x, .int (nI (1 + j))]) (rest := []) (r_spanOn (n := n) (x := x) (k := nI (1 + j)) hR hn (by omega)) ⟨_, _, rfl, rfl, _, 11, _, hR.c152, rfl, rfl, rfl⟩ (Nat.le_of_ble_eq_true rfl) ⟨Nat.le_of_ble_eq_true rfl, Nat.le_of_ble_eq_true rfl⟩ ⟨Nat.le_of_ble_eq_true rfl, Nat.le_of_ble_eq_true rfl⟩ ?_
      show vm_J _ _ _ (15, (0, 0), [.ref 152, .int x, .int (nI (vr_wd (I 159) (I 161) n x j)), .int (nI (1 + j))], [.int (vr_sp (I 159) (I 161) n x (nI (1 + j)))]) (G, I, F) _ _
      refine vm_J.go vm_q197 (k := 3) (hs := []) (f' := (18, (0, 0), [.ref 152, .int x, .int (nI (vr_wd (I 159) (I 161) n x j)), .int (nI (1 + j))], [.int (nI (vr_wd (I 159) (I 161) n x j)), .int x, .ref 152, .int (vr_sp (I 159) (I 161) n x (nI (1 + j)))])) (h' := (G, I, F)) (hs' := []) rfl rfl ?_
      refine vm_J.call vm_q197 (Z := vm_M196) (n := 2) (k := 0) (mi := 196) (pc := 18) (en := (18, .invokevirtual 211, 3, [196, 1414, 0], .null)) rfl trivial rfl rfl vm_z196 (av := [.ref 152, .int x, .int (nI (vr_wd (I 159) (I 161) n x j))]) (rest := [.int (vr_sp (I 159) (I 161) n x (nI (1 + j)))]) (r_spanOn (n := n) (x := x) (k := nI (vr_wd (I 159) (I 161) n x j)) hR hn (by omega)) ⟨_, _, rfl, rfl, _, 11, _, hR.c152, rfl, rfl, rfl⟩ (Nat.le_of_ble_eq_true rfl) ⟨Nat.le_of_ble_eq_true rfl, Nat.le_of_ble_eq_true rfl⟩ ⟨Nat.le_of_ble_eq_true rfl, Nat.le_of_ble_eq_true rfl⟩ ?_
      show vm_J _ _ _ (21, (0, 0), [.ref 152, .int x, .int (nI (vr_wd (I 159) (I 161) n x j)), .int (nI (1 + j))], [.int (vr_sp (I 159) (I 161) n x (nI (vr_wd (I 159) (I 161) n x j))), .int (vr_sp (I 159) (I 161) n x (nI (1 + j)))]) (G, I, F) _ _
      refine vm_J.go vm_q197 (k := 1) (hs := []) (f' := (bif vm_ic .le (vr_sp (I 159) (I 161) n x (nI (1 + j))) (vr_sp (I 159) (I 161) n x (nI (vr_wd (I 159) (I 161) n x j))) then 28 else 24, (0, 0), [.ref 152, .int x, .int (nI (vr_wd (I 159) (I 161) n x j)), .int (nI (1 + j))], [])) (h' := (G, I, F)) (hs' := []) rfl rfl ?_
      refine vm_J.br (fun c2 => ?_) (fun c2 => ?_)
      · have c2 : (vr_sp (I 159) (I 161) n x (nI (1 + j))) ≤ (vr_sp (I 159) (I 161) n x (nI (vr_wd (I 159) (I 161) n x j))) := of_decide_eq_true c2
        refine vm_J.go vm_q197 (k := 4) (hs := []) (f' := (4, (0, 0), [.ref 152, .int x, .int (nI (vr_wd (I 159) (I 161) n x j)), .int ((nI (1 + j)) + 1)], [])) (h' := (G, I, F)) (hs' := []) rfl rfl ?_
        rw [((vm_pa (rfl : nI (1 + j) = nI (1 + j)) (rfl : (1 : Int32) = nI 1)) : (nI (1 + j)) + 1 = nI (1 + j + 1))]
        have z := ij trivial
        rw [show vr_wd (I 159) (I 161) n x (j + 1) = _ from if_neg (vm_nle_lt c2)] at z
        exact z
      · have c2 : ¬ ((vr_sp (I 159) (I 161) n x (nI (1 + j))) ≤ (vr_sp (I 159) (I 161) n x (nI (vr_wd (I 159) (I 161) n x j)))) := of_decide_eq_false c2
        refine vm_J.go vm_q197 (k := 5) (hs := []) (f' := (4, (0, 0), [.ref 152, .int x, .int (nI (1 + j)), .int ((nI (1 + j)) + 1)], [])) (h' := (G, I, F)) (hs' := []) rfl rfl ?_
        rw [((vm_pa (rfl : nI (1 + j) = nI (1 + j)) (rfl : (1 : Int32) = nI 1)) : (nI (1 + j)) + 1 = nI (1 + j + 1))]
        have z := ij trivial
        rw [show vr_wd (I 159) (I 161) n x (j + 1) = _ from if_pos (vm_nge_lt c2)] at z
        exact z
  · show vm_J _ _ _ (4, (0, 0), [.ref 152, .int x, .int (nI (vr_wd (I 159) (I 161) n x 2)), .int (nI (1 + 2))], []) (G, I, F) _ _
    refine vm_J.go vm_q197 (k := 3) (hs := []) (f' := (bif vm_ic .ge (nI (1 + 2)) 3 then 36 else 9, (0, 0), [.ref 152, .int x, .int (nI (vr_wd (I 159) (I 161) n x 2)), .int (nI (1 + 2))], [])) (h' := (G, I, F)) (hs' := []) rfl rfl ?_
    refine vm_J.br (fun c3 => ?_) (fun c3 => ?_)
    · have c3 := vm_ge_t (a := 1 + 2) (b := 3) (by omega) (by omega) c3
      refine vm_J.go vm_q197 (k := 1) (hs := []) (f' := (37, (0, 0), [.ref 152, .int x, .int (nI (vr_wd (I 159) (I 161) n x 2)), .int (nI (1 + 2))], [.int (nI (vr_wd (I 159) (I 161) n x 2))])) (h' := (G, I, F)) (hs' := []) rfl rfl ?_
      exact vm_J.end vm_q197 (en := (37, .ireturn, 1, [], .null)) rfl rfl vm_rI (Nat.zero_le _) (Nat.zero_le _) rfl
    · have c3 := vm_ge_f (a := 1 + 2) (b := 3) (by omega) (by omega) c3
      exact (show False by omega).elim
set_option maxHeartbeats 4000000 in
set_option maxRecDepth 20000 in
/-- DitherDeskModel.spanOf -/
theorem r_spanOf {l : Launch} {X : vm_Cx} {G : List vm_Sh} {I : Nat → Nat → Int32} {F : Nat → Nat → UInt32} {n : Nat} {x : Int32} (hR : vm_isR G) (hn : I 152 14 = nI n) (hn2 : n ≤ 144) : vm_K l X vm_M198 [.ref 152, .int x] (G, I, F) (some (.int (vr_so (I 159) (I 161) n x))) (G, I, F) := by
  refine vm_K.mk (by decide) (Nat.le_of_ble_eq_true rfl) ?_
  show vm_J _ _ _ (0, (0, 0), [.ref 152, .int x], []) _ _ _
  refine vm_J.go vm_q198 (k := 4) (hs := []) (f' := (4, (0, 0), [.ref 152, .int x], [.int x, .ref 152, .int x, .ref 152])) (h' := (G, I, F)) (hs' := []) rfl rfl ?_
  refine vm_J.call vm_q198 (Z := vm_M197) (n := 1) (k := 0) (mi := 197) (pc := 4) (en := (4, .invokevirtual 214, 3, [197, 1410, 0], .null)) rfl trivial rfl rfl vm_z197 (av := [.ref 152, .int x]) (rest := [.int x, .ref 152]) (r_widestOf (n := n) (x := x) hR hn (by omega)) ⟨_, _, rfl, rfl, _, 11, _, hR.c152, rfl, rfl, rfl⟩ (Nat.le_of_ble_eq_true rfl) ⟨Nat.le_of_ble_eq_true rfl, Nat.le_of_ble_eq_true rfl⟩ ⟨Nat.le_of_ble_eq_true rfl, Nat.le_of_ble_eq_true rfl⟩ ?_
  show vm_J _ _ _ (7, (0, 0), [.ref 152, .int x], [.int (nI (vr_wd (I 159) (I 161) n x 2)), .int x, .ref 152]) (G, I, F) _ _
  refine vm_J.call vm_q198 (Z := vm_M196) (n := 2) (k := 0) (mi := 196) (pc := 7) (en := (7, .invokevirtual 211, 3, [196, 1414, 0], .null)) rfl trivial rfl rfl vm_z196 (av := [.ref 152, .int x, .int (nI (vr_wd (I 159) (I 161) n x 2))]) (rest := []) (r_spanOn (n := n) (x := x) (k := nI (vr_wd (I 159) (I 161) n x 2)) hR hn (by omega)) ⟨_, _, rfl, rfl, _, 11, _, hR.c152, rfl, rfl, rfl⟩ (Nat.le_of_ble_eq_true rfl) ⟨Nat.le_of_ble_eq_true rfl, Nat.le_of_ble_eq_true rfl⟩ ⟨Nat.le_of_ble_eq_true rfl, Nat.le_of_ble_eq_true rfl⟩ ?_
  show vm_J _ _ _ (10, (0, 0), [.ref 152, .int x], [.int (vr_sp (I 159) (I 161) n x (nI (vr_wd (I 159) (I 161) n x 2)))]) (G, I, F) _ _
  exact vm_J.end vm_q198 (en := (10, .ireturn, 1, [], .null)) rfl rfl vm_rI (Nat.zero_le _) (Nat.zero_le _) rfl
set_option maxHeartbeats 4000000 in
set_option maxRecDepth 20000 in
/-- DitherDeskModel.pixelsOf -/
theorem r_pixelsOf {l : Launch} {X : vm_Cx} {G : List vm_Sh} {I : Nat → Nat → Int32} {F : Nat → Nat → UInt32} {n : Nat} {x : Int32} (hR : vm_isR G) (hn : I 152 14 = nI n) (hn2 : n ≤ 144) : vm_K l X vm_M199 [.ref 152, .int x] (G, I, F) (some (.int (vr_px (I 161) (I 160) n x))) (G, I, F) := by
  refine vm_K.mk (by decide) (Nat.le_of_ble_eq_true rfl) ?_
  show vm_J _ _ _ (0, (0, 0), [.ref 152, .int x, .retAddr 0, .retAddr 0], []) _ _ _
  refine vm_J.go vm_q199 (k := 4) (hs := []) (f' := (4, (0, 0), [.ref 152, .int x, .int 0, .int 0], [])) (h' := (G, I, F)) (hs' := []) rfl rfl ?_
  refine vm_J.cnt n (fun j => (4, (0, 0), [.ref 152, .int x, .int (sp_sum (fun i => if I 161 i = x then I 160 i else 0) j), .int (nI j)], [])) (fun j => (G, I, F)) (fun _ => True) rfl rfl trivial (fun j hj pj ij => ?_) (fun pj => ?_)
  · show vm_J _ _ _ (4, (0, 0), [.ref 152, .int x, .int (sp_sum (fun i => if I 161 i = x then I 160 i else 0) j), .int (nI j)], []) (G, I, F) _ _
    refine vm_J.go vm_q199 (k := 3) (hs := [vm_shR]) (f' := (9, (0, 0), [.ref 152, .int x, .int (sp_sum (fun i => if I 161 i = x then I 160 i else 0) j), .int (nI j)], [.int (I 152 14), .int (nI j)])) (h' := (G, I, F)) (hs' := []) rfl (vm_b2 rfl (vm_b2 rfl (vm_b2 (vm_b2 (vm_hG hR.c152) rfl) rfl))) ?_
    rw [(hn : I 152 14 = nI n)]
    refine vm_J.go vm_q199 (k := 1) (hs := []) (f' := (bif vm_ic .ge (nI j) (nI n) then 41 else 12, (0, 0), [.ref 152, .int x, .int (sp_sum (fun i => if I 161 i = x then I 160 i else 0) j), .int (nI j)], [])) (h' := (G, I, F)) (hs' := []) rfl rfl ?_
    refine vm_J.br (fun c1 => ?_) (fun c1 => ?_)
    · have c1 := vm_ge_t (a := j) (b := n) (by omega) (by omega) c1
      exact (show False by omega).elim
    · have c1 := vm_ge_f (a := j) (b := n) (by omega) (by omega) c1
      refine vm_J.go vm_q199 (k := 6) (hs := [vm_shR, (0, 144, [])]) (f' := (20, (0, 0), [.ref 152, .int x, .int (sp_sum (fun i => if I 161 i = x then I 160 i else 0) j), .int (nI j)], [.int x, .int (I 161 (nI j).toNatClampNeg), .int (sp_sum (fun i => if I 161 i = x then I 160 i else 0) j)])) (h' := (G, I, F)) (hs' := []) rfl (vm_b2 rfl (vm_b2 rfl (vm_b2 (vm_b2 (vm_hG hR.c152) rfl) (vm_b2 rfl (vm_b2 (vm_b2 (vm_hG hR.c161) (vm_in_e (j := j) (n := 144) rfl (by omega) (by omega))) (vm_b2 rfl rfl)))))) ?_
      rw [vm_ix_e (j := j) rfl (by omega)]
      refine vm_J.go vm_q199 (k := 1) (hs := []) (f' := (bif vm_ic .ne (I 161 j) x then 32 else 23, (0, 0), [.ref 152, .int x, .int (sp_sum (fun i => if I 161 i = x then I 160 i else 0) j), .int (nI j)], [.int (sp_sum (fun i => if I 161 i = x then I 160 i else 0) j)])) (h' := (G, I, F)) (hs' := []) rfl rfl ?_
      refine vm_J.br (fun c2 => ?_) (fun c2 => ?_)
      · have c2 : ¬ (I 161 j) = x := of_decide_eq_true c2
        refine vm_J.go vm_q199 (k := 5) (hs := []) (f' := (4, (0, 0), [.ref 152, .int x, .int ((sp_sum (fun i => if I 161 i = x then I 160 i else 0) j) + 0), .int ((nI j) + 1)], [])) (h' := (G, I, F)) (hs' := []) rfl rfl ?_
        rw [((vm_pa (rfl : nI j = nI j) (rfl : (1 : Int32) = nI 1)) : (nI j) + 1 = nI (j + 1))]
        rw [show ((sp_sum (fun i => if I 161 i = x then I 160 i else 0) j) + 0 : Int32) = sp_sum (fun i => if I 161 i = x then I 160 i else 0) (j + 1) from by rw [sp_sum, if_neg c2]]
        exact ij trivial
      · have c2 : (I 161 j) = x := Decidable.of_not_not (of_decide_eq_false c2)
        refine vm_J.go vm_q199 (k := 9) (hs := [vm_shR, (0, 144, [])]) (f' := (4, (0, 0), [.ref 152, .int x, .int ((sp_sum (fun i => if I 161 i = x then I 160 i else 0) j) + (I 160 (nI j).toNatClampNeg)), .int ((nI j) + 1)], [])) (h' := (G, I, F)) (hs' := []) rfl (vm_b2 rfl (vm_b2 (vm_b2 (vm_hG hR.c152) rfl) (vm_b2 rfl (vm_b2 (vm_b2 (vm_hG hR.c160) (vm_in_e (j := j) (n := 144) rfl (by omega) (by omega))) (vm_b2 rfl (vm_b2 rfl (vm_b2 rfl (vm_b2 rfl (vm_b2 rfl rfl))))))))) ?_
        rw [vm_ix_e (j := j) rfl (by omega), ((vm_pa (rfl : nI j = nI j) (rfl : (1 : Int32) = nI 1)) : (nI j) + 1 = nI (j + 1))]
        rw [show ((sp_sum (fun i => if I 161 i = x then I 160 i else 0) j) + (I 160 j) : Int32) = sp_sum (fun i => if I 161 i = x then I 160 i else 0) (j + 1) from by rw [sp_sum, if_pos c2]]
        exact ij trivial
  · show vm_J _ _ _ (4, (0, 0), [.ref 152, .int x, .int (sp_sum (fun i => if I 161 i = x then I 160 i else 0) n), .int (nI n)], []) (G, I, F) _ _
    refine vm_J.go vm_q199 (k := 3) (hs := [vm_shR]) (f' := (9, (0, 0), [.ref 152, .int x, .int (sp_sum (fun i => if I 161 i = x then I 160 i else 0) n), .int (nI n)], [.int (I 152 14), .int (nI n)])) (h' := (G, I, F)) (hs' := []) rfl (vm_b2 rfl (vm_b2 rfl (vm_b2 (vm_b2 (vm_hG hR.c152) rfl) rfl))) ?_
    rw [(hn : I 152 14 = nI n)]
    refine vm_J.go vm_q199 (k := 1) (hs := []) (f' := (bif vm_ic .ge (nI n) (nI n) then 41 else 12, (0, 0), [.ref 152, .int x, .int (sp_sum (fun i => if I 161 i = x then I 160 i else 0) n), .int (nI n)], [])) (h' := (G, I, F)) (hs' := []) rfl rfl ?_
    refine vm_J.br (fun c3 => ?_) (fun c3 => ?_)
    · have c3 := vm_ge_t (a := n) (b := n) (by omega) (by omega) c3
      refine vm_J.go vm_q199 (k := 1) (hs := []) (f' := (42, (0, 0), [.ref 152, .int x, .int (sp_sum (fun i => if I 161 i = x then I 160 i else 0) n), .int (nI n)], [.int (sp_sum (fun i => if I 161 i = x then I 160 i else 0) n)])) (h' := (G, I, F)) (hs' := []) rfl rfl ?_
      exact vm_J.end vm_q199 (en := (42, .ireturn, 1, [], .null)) rfl rfl vm_rI (Nat.zero_le _) (Nat.zero_le _) rfl
    · have c3 := vm_ge_f (a := n) (b := n) (by omega) (by omega) c3
      exact (show False by omega).elim
set_option maxHeartbeats 4000000 in
set_option maxRecDepth 20000 in
/-- DitherDeskModel.coloursOf -/
theorem r_coloursOf {l : Launch} {X : vm_Cx} {G : List vm_Sh} {I : Nat → Nat → Int32} {F : Nat → Nat → UInt32} {n : Nat} {x : Int32} (hR : vm_isR G) (hn : I 152 14 = nI n) (hn2 : n ≤ 144) : vm_K l X vm_M209 [.ref 152, .int x] (G, I, F) (some (.int (vr_co (I 161) n x))) (G, I, F) := by
  refine vm_K.mk (by decide) (Nat.le_of_ble_eq_true rfl) ?_
  show vm_J _ _ _ (0, (0, 0), [.ref 152, .int x, .retAddr 0, .retAddr 0], []) _ _ _
  refine vm_J.go vm_q209 (k := 4) (hs := []) (f' := (4, (0, 0), [.ref 152, .int x, .int 0, .int 0], [])) (h' := (G, I, F)) (hs' := []) rfl rfl ?_
  refine vm_J.cnt n (fun j => (4, (0, 0), [.ref 152, .int x, .int (sp_sum (fun i => if I 161 i = x then 1 else 0) j), .int (nI j)], [])) (fun j => (G, I, F)) (fun _ => True) rfl rfl trivial (fun j hj pj ij => ?_) (fun pj => ?_)
  · show vm_J _ _ _ (4, (0, 0), [.ref 152, .int x, .int (sp_sum (fun i => if I 161 i = x then 1 else 0) j), .int (nI j)], []) (G, I, F) _ _
    refine vm_J.go vm_q209 (k := 3) (hs := [vm_shR]) (f' := (9, (0, 0), [.ref 152, .int x, .int (sp_sum (fun i => if I 161 i = x then 1 else 0) j), .int (nI j)], [.int (I 152 14), .int (nI j)])) (h' := (G, I, F)) (hs' := []) rfl (vm_b2 rfl (vm_b2 rfl (vm_b2 (vm_b2 (vm_hG hR.c152) rfl) rfl))) ?_
    rw [(hn : I 152 14 = nI n)]
    refine vm_J.go vm_q209 (k := 1) (hs := []) (f' := (bif vm_ic .ge (nI j) (nI n) then 36 else 12, (0, 0), [.ref 152, .int x, .int (sp_sum (fun i => if I 161 i = x then 1 else 0) j), .int (nI j)], [])) (h' := (G, I, F)) (hs' := []) rfl rfl ?_
    refine vm_J.br (fun c1 => ?_) (fun c1 => ?_)
    · have c1 := vm_ge_t (a := j) (b := n) (by omega) (by omega) c1
      exact (show False by omega).elim
    · have c1 := vm_ge_f (a := j) (b := n) (by omega) (by omega) c1
      refine vm_J.go vm_q209 (k := 6) (hs := [vm_shR, (0, 144, [])]) (f' := (20, (0, 0), [.ref 152, .int x, .int (sp_sum (fun i => if I 161 i = x then 1 else 0) j), .int (nI j)], [.int x, .int (I 161 (nI j).toNatClampNeg), .int (sp_sum (fun i => if I 161 i = x then 1 else 0) j)])) (h' := (G, I, F)) (hs' := []) rfl (vm_b2 rfl (vm_b2 rfl (vm_b2 (vm_b2 (vm_hG hR.c152) rfl) (vm_b2 rfl (vm_b2 (vm_b2 (vm_hG hR.c161) (vm_in_e (j := j) (n := 144) rfl (by omega) (by omega))) (vm_b2 rfl rfl)))))) ?_
      rw [vm_ix_e (j := j) rfl (by omega)]
      refine vm_J.go vm_q209 (k := 1) (hs := []) (f' := (bif vm_ic .ne (I 161 j) x then 27 else 23, (0, 0), [.ref 152, .int x, .int (sp_sum (fun i => if I 161 i = x then 1 else 0) j), .int (nI j)], [.int (sp_sum (fun i => if I 161 i = x then 1 else 0) j)])) (h' := (G, I, F)) (hs' := []) rfl rfl ?_
      refine vm_J.br (fun c2 => ?_) (fun c2 => ?_)
      · have c2 : ¬ (I 161 j) = x := of_decide_eq_true c2
        refine vm_J.go vm_q209 (k := 5) (hs := []) (f' := (4, (0, 0), [.ref 152, .int x, .int ((sp_sum (fun i => if I 161 i = x then 1 else 0) j) + 0), .int ((nI j) + 1)], [])) (h' := (G, I, F)) (hs' := []) rfl rfl ?_
        rw [((vm_pa (rfl : nI j = nI j) (rfl : (1 : Int32) = nI 1)) : (nI j) + 1 = nI (j + 1))]
        rw [show ((sp_sum (fun i => if I 161 i = x then 1 else 0) j) + 0 : Int32) = sp_sum (fun i => if I 161 i = x then 1 else 0) (j + 1) from by rw [sp_sum, if_neg c2]]
        exact ij trivial
      · have c2 : (I 161 j) = x := Decidable.of_not_not (of_decide_eq_false c2)
        refine vm_J.go vm_q209 (k := 6) (hs := []) (f' := (4, (0, 0), [.ref 152, .int x, .int ((sp_sum (fun i => if I 161 i = x then 1 else 0) j) + 1), .int ((nI j) + 1)], [])) (h' := (G, I, F)) (hs' := []) rfl rfl ?_
        rw [((vm_pa (rfl : nI j = nI j) (rfl : (1 : Int32) = nI 1)) : (nI j) + 1 = nI (j + 1))]
        rw [show ((sp_sum (fun i => if I 161 i = x then 1 else 0) j) + 1 : Int32) = sp_sum (fun i => if I 161 i = x then 1 else 0) (j + 1) from by rw [sp_sum, if_pos c2]]
        exact ij trivial
  · show vm_J _ _ _ (4, (0, 0), [.ref 152, .int x, .int (sp_sum (fun i => if I 161 i = x then 1 else 0) n), .int (nI n)], []) (G, I, F) _ _
    refine vm_J.go vm_q209 (k := 3) (hs := [vm_shR]) (f' := (9, (0, 0), [.ref 152, .int x, .int (sp_sum (fun i => if I 161 i = x then 1 else 0) n), .int (nI n)], [.int (I 152 14), .int (nI n)])) (h' := (G, I, F)) (hs' := []) rfl (vm_b2 rfl (vm_b2 rfl (vm_b2 (vm_b2 (vm_hG hR.c152) rfl) rfl))) ?_
    rw [(hn : I 152 14 = nI n)]
    refine vm_J.go vm_q209 (k := 1) (hs := []) (f' := (bif vm_ic .ge (nI n) (nI n) then 36 else 12, (0, 0), [.ref 152, .int x, .int (sp_sum (fun i => if I 161 i = x then 1 else 0) n), .int (nI n)], [])) (h' := (G, I, F)) (hs' := []) rfl rfl ?_
    refine vm_J.br (fun c3 => ?_) (fun c3 => ?_)
    · have c3 := vm_ge_t (a := n) (b := n) (by omega) (by omega) c3
      refine vm_J.go vm_q209 (k := 1) (hs := []) (f' := (37, (0, 0), [.ref 152, .int x, .int (sp_sum (fun i => if I 161 i = x then 1 else 0) n), .int (nI n)], [.int (sp_sum (fun i => if I 161 i = x then 1 else 0) n)])) (h' := (G, I, F)) (hs' := []) rfl rfl ?_
      exact vm_J.end vm_q209 (en := (37, .ireturn, 1, [], .null)) rfl rfl vm_rI (Nat.zero_le _) (Nat.zero_le _) rfl
    · have c3 := vm_ge_f (a := n) (b := n) (by omega) (by omega) c3
      exact (show False by omega).elim
set_option maxHeartbeats 4000000 in
set_option maxRecDepth 20000 in
/-- DitherDeskModel.firstOf -/
theorem r_firstOf {l : Launch} {X : vm_Cx} {G : List vm_Sh} {I : Nat → Nat → Int32} {F : Nat → Nat → UInt32} {n : Nat} {x : Int32} (hR : vm_isR G) (hn2 : n ≤ 144) (hx : (vr_fi (I 161) n x) < n) : vm_K l X vm_M200 [.ref 152, .int x] (G, I, F) (some (.int (nI (vr_fi (I 161) n x)))) (G, I, F) := by
  refine vm_K.mk (by decide) (Nat.le_of_ble_eq_true rfl) ?_
  have hok := sp_fi_ok (p := fun i => I 161 i = x) hx
  show vm_J _ _ _ (0, (0, 0), [.ref 152, .int x, .retAddr 0], []) _ _ _
  refine vm_J.go vm_q200 (k := 2) (hs := []) (f' := (2, (0, 0), [.ref 152, .int x, .int 0], [])) (h' := (G, I, F)) (hs' := []) rfl rfl ?_
  refine vm_J.cnt (vr_fi (I 161) n x) (fun j => (2, (0, 0), [.ref 152, .int x, .int (nI j)], [])) (fun j => (G, I, F)) (fun _ => True) rfl rfl trivial (fun j hj pj ij => ?_) (fun pj => ?_)
  · show vm_J _ _ _ (2, (0, 0), [.ref 152, .int x, .int (nI j)], []) (G, I, F) _ _
    refine vm_J.go vm_q200 (k := 5) (hs := [vm_shR, (0, 144, [])]) (f' := (9, (0, 0), [.ref 152, .int x, .int (nI j)], [.int x, .int (I 161 (nI j).toNatClampNeg)])) (h' := (G, I, F)) (hs' := []) rfl (vm_b2 rfl (vm_b2 (vm_b2 (vm_hG hR.c152) rfl) (vm_b2 rfl (vm_b2 (vm_b2 (vm_hG hR.c161) (vm_in_e (j := j) (n := 144) rfl (by omega) (by omega))) (vm_b2 rfl rfl))))) ?_
    rw [vm_ix_e (j := j) rfl (by omega)]
    refine vm_J.go vm_q200 (k := 1) (hs := []) (f' := (bif vm_ic .eq (I 161 j) x then 18 else 12, (0, 0), [.ref 152, .int x, .int (nI j)], [])) (h' := (G, I, F)) (hs' := []) rfl rfl ?_
    refine vm_J.br (fun c1 => ?_) (fun c1 => ?_)
    · have c1 : (I 161 j) = x := of_decide_eq_true c1
      exact absurd c1 (hok.2 j hj)
    · have c1 : ¬ ((I 161 j) = x) := of_decide_eq_false c1
      refine vm_J.go vm_q200 (k := 2) (hs := []) (f' := (2, (0, 0), [.ref 152, .int x, .int ((nI j) + 1)], [])) (h' := (G, I, F)) (hs' := []) rfl rfl ?_
      rw [((vm_pa (rfl : nI j = nI j) (rfl : (1 : Int32) = nI 1)) : (nI j) + 1 = nI (j + 1))]
      exact ij trivial
  · show vm_J _ _ _ (2, (0, 0), [.ref 152, .int x, .int (nI (vr_fi (I 161) n x))], []) (G, I, F) _ _
    refine vm_J.go vm_q200 (k := 5) (hs := [vm_shR, (0, 144, [])]) (f' := (9, (0, 0), [.ref 152, .int x, .int (nI (vr_fi (I 161) n x))], [.int x, .int (I 161 (nI (vr_fi (I 161) n x)).toNatClampNeg)])) (h' := (G, I, F)) (hs' := []) rfl (vm_b2 rfl (vm_b2 (vm_b2 (vm_hG hR.c152) rfl) (vm_b2 rfl (vm_b2 (vm_b2 (vm_hG hR.c161) (vm_in_e (j := (vr_fi (I 161) n x)) (n := 144) rfl (by omega) (by omega))) (vm_b2 rfl rfl))))) ?_
    rw [vm_ix_e (j := (vr_fi (I 161) n x)) rfl (by omega)]
    refine vm_J.go vm_q200 (k := 1) (hs := []) (f' := (bif vm_ic .eq (I 161 (vr_fi (I 161) n x)) x then 18 else 12, (0, 0), [.ref 152, .int x, .int (nI (vr_fi (I 161) n x))], [])) (h' := (G, I, F)) (hs' := []) rfl rfl ?_
    refine vm_J.br (fun c2 => ?_) (fun c2 => ?_)
    · have c2 : (I 161 (vr_fi (I 161) n x)) = x := of_decide_eq_true c2
      refine vm_J.go vm_q200 (k := 1) (hs := []) (f' := (19, (0, 0), [.ref 152, .int x, .int (nI (vr_fi (I 161) n x))], [.int (nI (vr_fi (I 161) n x))])) (h' := (G, I, F)) (hs' := []) rfl rfl ?_
      exact vm_J.end vm_q200 (en := (19, .ireturn, 1, [], .null)) rfl rfl vm_rI (Nat.zero_le _) (Nat.zero_le _) rfl
    · have c2 : ¬ ((I 161 (vr_fi (I 161) n x)) = x) := of_decide_eq_false c2
      exact absurd hok.1 c2
