set_option maxHeartbeats 4000000 in
set_option maxRecDepth 20000 in
/-- DitherDeskModel.meanOf -/
theorem r_bmean {l : Launch} {X : vm_Cx} {G : List vm_Sh} {I : Nat → Nat → Int32} {F : Nat → Nat → UInt32} {n : Nat} {x : Int32} (hR : vm_isR G) (hn : I 152 14 = nI n) (hn2 : n ≤ 144) (hpx : 0 < vr_px (I 161) (I 160) n x) : vm_K l X vm_M208 [.ref 152, .int x] (G, I, F) (some (.int (vr_cm (I 159) (I 161) (I 160) n x 3))) (G, I, F) := by
  refine vm_K.mk (by decide) (Nat.le_of_ble_eq_true rfl) ?_
  show vm_J _ _ _ (0, (0, 0), [.ref 152, .int x, .retAddr 0, .retAddr 0, .retAddr 0, .retAddr 0], []) _ _ _
  refine vm_J.go vm_q208 (k := 4) (hs := []) (f' := (4, (0, 0), [.ref 152, .int x, .int 0, .int 0, .retAddr 0, .retAddr 0], [])) (h' := (G, I, F)) (hs' := []) rfl rfl ?_
  refine vm_J.cnt 3 (fun c => (4, (0, 0), [.ref 152, .int x, .int (vr_cm (I 159) (I 161) (I 160) n x c), .int (nI c), .retAddr 0, .retAddr 0], [])) (fun c => (G, I, F)) (fun _ => True) rfl rfl trivial (fun c hc pc ic => ?_) (fun pc => ?_)
  · show vm_J _ _ _ (4, (0, 0), [.ref 152, .int x, .int (vr_cm (I 159) (I 161) (I 160) n x c), .int (nI c), .retAddr 0, .retAddr 0], []) (G, I, F) _ _
    refine vm_J.go vm_q208 (k := 3) (hs := []) (f' := (bif vm_ic .ge (nI c) 3 then 91 else 9, (0, 0), [.ref 152, .int x, .int (vr_cm (I 159) (I 161) (I 160) n x c), .int (nI c), .retAddr 0, .retAddr 0], [])) (h' := (G, I, F)) (hs' := []) rfl rfl ?_
    refine vm_J.br (fun c1 => ?_) (fun c1 => ?_)
    · have c1 := vm_ge_t (a := c) (b := 3) (by omega) (by omega) c1
      exact (show False by omega).elim
    · have c1 := vm_ge_f (a := c) (b := 3) (by omega) (by omega) c1
      refine vm_J.go vm_q208 (k := 4) (hs := []) (f' := (15, (0, 0), [.ref 152, .int x, .int (vr_cm (I 159) (I 161) (I 160) n x c), .int (nI c), .int 0, .int 0], [])) (h' := (G, I, F)) (hs' := []) rfl rfl ?_
      refine vm_J.cnt n (fun t => (15, (0, 0), [.ref 152, .int x, .int (vr_cm (I 159) (I 161) (I 160) n x c), .int (nI c), .int (sp_sum (fun i => if I 161 i = x then I 160 i * sp_ch (I 159 i) (nI c) else 0) t), .int (nI t)], [])) (fun t => (G, I, F)) (fun _ => True) rfl rfl trivial (fun t ht pt it => ?_) (fun pt => ?_)
      · show vm_J _ _ _ (15, (0, 0), [.ref 152, .int x, .int (vr_cm (I 159) (I 161) (I 160) n x c), .int (nI c), .int (sp_sum (fun i => if I 161 i = x then I 160 i * sp_ch (I 159 i) (nI c) else 0) t), .int (nI t)], []) (G, I, F) _ _
        refine vm_J.go vm_q208 (k := 3) (hs := [vm_shR]) (f' := (21, (0, 0), [.ref 152, .int x, .int (vr_cm (I 159) (I 161) (I 160) n x c), .int (nI c), .int (sp_sum (fun i => if I 161 i = x then I 160 i * sp_ch (I 159 i) (nI c) else 0) t), .int (nI t)], [.int (I 152 14), .int (nI t)])) (h' := (G, I, F)) (hs' := []) rfl (vm_b2 rfl (vm_b2 rfl (vm_b2 (vm_b2 (vm_hG hR.c152) rfl) rfl))) ?_
        rw [(hn : I 152 14 = nI n)]
        refine vm_J.go vm_q208 (k := 1) (hs := []) (f' := (bif vm_ic .ge (nI t) (nI n) then 69 else 24, (0, 0), [.ref 152, .int x, .int (vr_cm (I 159) (I 161) (I 160) n x c), .int (nI c), .int (sp_sum (fun i => if I 161 i = x then I 160 i * sp_ch (I 159 i) (nI c) else 0) t), .int (nI t)], [])) (h' := (G, I, F)) (hs' := []) rfl rfl ?_
        refine vm_J.br (fun c2 => ?_) (fun c2 => ?_)
        · have c2 := vm_ge_t (a := t) (b := n) (by omega) (by omega) c2
          exact (show False by omega).elim
        · have c2 := vm_ge_f (a := t) (b := n) (by omega) (by omega) c2
          refine vm_J.go vm_q208 (k := 6) (hs := [vm_shR, (0, 144, [])]) (f' := (34, (0, 0), [.ref 152, .int x, .int (vr_cm (I 159) (I 161) (I 160) n x c), .int (nI c), .int (sp_sum (fun i => if I 161 i = x then I 160 i * sp_ch (I 159 i) (nI c) else 0) t), .int (nI t)], [.int x, .int (I 161 (nI t).toNatClampNeg), .int (sp_sum (fun i => if I 161 i = x then I 160 i * sp_ch (I 159 i) (nI c) else 0) t)])) (h' := (G, I, F)) (hs' := []) rfl (vm_b2 rfl (vm_b2 rfl (vm_b2 (vm_b2 (vm_hG hR.c152) rfl) (vm_b2 rfl (vm_b2 (vm_b2 (vm_hG hR.c161) (vm_in_e (j := t) (n := 144) rfl (by omega) (by omega))) (vm_b2 rfl rfl)))))) ?_
          rw [vm_ix_e (j := t) rfl (by omega)]
          refine vm_J.go vm_q208 (k := 1) (hs := []) (f' := (bif vm_ic .ne (I 161 t) x then 59 else 37, (0, 0), [.ref 152, .int x, .int (vr_cm (I 159) (I 161) (I 160) n x c), .int (nI c), .int (sp_sum (fun i => if I 161 i = x then I 160 i * sp_ch (I 159 i) (nI c) else 0) t), .int (nI t)], [.int (sp_sum (fun i => if I 161 i = x then I 160 i * sp_ch (I 159 i) (nI c) else 0) t)])) (h' := (G, I, F)) (hs' := []) rfl rfl ?_
          refine vm_J.br (fun c3 => ?_) (fun c3 => ?_)
          · have c3 : ¬ (I 161 t) = x := of_decide_eq_true c3
            refine vm_J.go vm_q208 (k := 5) (hs := []) (f' := (15, (0, 0), [.ref 152, .int x, .int (vr_cm (I 159) (I 161) (I 160) n x c), .int (nI c), .int ((sp_sum (fun i => if I 161 i = x then I 160 i * sp_ch (I 159 i) (nI c) else 0) t) + 0), .int ((nI t) + 1)], [])) (h' := (G, I, F)) (hs' := []) rfl rfl ?_
            rw [((vm_pa (rfl : nI t = nI t) (rfl : (1 : Int32) = nI 1)) : (nI t) + 1 = nI (t + 1))]
            rw [show ((sp_sum (fun i => if I 161 i = x then I 160 i * sp_ch (I 159 i) (nI c) else 0) t) + 0 : Int32) = sp_sum (fun i => if I 161 i = x then I 160 i * sp_ch (I 159 i) (nI c) else 0) (t + 1) from by rw [sp_sum, if_neg c3]]
            exact it trivial
          · have c3 : (I 161 t) = x := Decidable.of_not_not (of_decide_eq_false c3)
            refine vm_J.go vm_q208 (k := 9) (hs := [vm_shR, (0, 144, []), vm_shR, (0, 144, [])]) (f' := (52, (0, 0), [.ref 152, .int x, .int (vr_cm (I 159) (I 161) (I 160) n x c), .int (nI c), .int (sp_sum (fun i => if I 161 i = x then I 160 i * sp_ch (I 159 i) (nI c) else 0) t), .int (nI t)], [.int (nI c), .int (I 159 (nI t).toNatClampNeg), .int (I 160 (nI t).toNatClampNeg), .int (sp_sum (fun i => if I 161 i = x then I 160 i * sp_ch (I 159 i) (nI c) else 0) t)])) (h' := (G, I, F)) (hs' := []) rfl (vm_b2 rfl (vm_b2 (vm_b2 (vm_hG hR.c152) rfl) (vm_b2 rfl (vm_b2 (vm_b2 (vm_hG hR.c160) (vm_in_e (j := t) (n := 144) rfl (by omega) (by omega))) (vm_b2 rfl (vm_b2 (vm_b2 (vm_hG hR.c152) rfl) (vm_b2 rfl (vm_b2 (vm_b2 (vm_hG hR.c159) (vm_in_e (j := t) (n := 144) rfl (by omega) (by omega))) (vm_b2 rfl rfl))))))))) ?_
            rw [vm_ix_e (j := t) rfl (by omega)]
            refine vm_J.call vm_q208 (Z := vm_M170) (n := 2) (k := 1) (mi := 170) (pc := 52) (en := (52, .invokestatic 180, 3, [170, 1348, 0], .null)) rfl trivial rfl rfl vm_z170 (av := [.int (I 159 t), .int (nI c)]) (rest := [.int (I 160 t), .int (sp_sum (fun i => if I 161 i = x then I 160 i * sp_ch (I 159 i) (nI c) else 0) t)]) (r_channelOf (c := I 159 t) (k := nI c)) rfl (Nat.le_of_ble_eq_true rfl) ⟨Nat.le_of_ble_eq_true rfl, Nat.le_of_ble_eq_true rfl⟩ ⟨Nat.le_of_ble_eq_true rfl, Nat.le_of_ble_eq_true rfl⟩ ?_
            show vm_J _ _ _ (55, (0, 0), [.ref 152, .int x, .int (vr_cm (I 159) (I 161) (I 160) n x c), .int (nI c), .int (sp_sum (fun i => if I 161 i = x then I 160 i * sp_ch (I 159 i) (nI c) else 0) t), .int (nI t)], [.int (sp_ch (I 159 t) (nI c)), .int (I 160 t), .int (sp_sum (fun i => if I 161 i = x then I 160 i * sp_ch (I 159 i) (nI c) else 0) t)]) (G, I, F) _ _
            refine vm_J.go vm_q208 (k := 6) (hs := []) (f' := (15, (0, 0), [.ref 152, .int x, .int (vr_cm (I 159) (I 161) (I 160) n x c), .int (nI c), .int ((sp_sum (fun i => if I 161 i = x then I 160 i * sp_ch (I 159 i) (nI c) else 0) t) + ((I 160 t) * (sp_ch (I 159 t) (nI c)))), .int ((nI t) + 1)], [])) (h' := (G, I, F)) (hs' := []) rfl rfl ?_
            rw [((vm_pa (rfl : nI t = nI t) (rfl : (1 : Int32) = nI 1)) : (nI t) + 1 = nI (t + 1))]
            rw [show ((sp_sum (fun i => if I 161 i = x then I 160 i * sp_ch (I 159 i) (nI c) else 0) t) + ((I 160 t) * (sp_ch (I 159 t) (nI c))) : Int32) = sp_sum (fun i => if I 161 i = x then I 160 i * sp_ch (I 159 i) (nI c) else 0) (t + 1) from by rw [sp_sum, if_pos c3]]
            exact it trivial
      · show vm_J _ _ _ (15, (0, 0), [.ref 152, .int x, .int (vr_cm (I 159) (I 161) (I 160) n x c), .int (nI c), .int (sp_sum (fun i => if I 161 i = x then I 160 i * sp_ch (I 159 i) (nI c) else 0) n), .int (nI n)], []) (G, I, F) _ _
        refine vm_J.go vm_q208 (k := 3) (hs := [vm_shR]) (f' := (21, (0, 0), [.ref 152, .int x, .int (vr_cm (I 159) (I 161) (I 160) n x c), .int (nI c), .int (sp_sum (fun i => if I 161 i = x then I 160 i * sp_ch (I 159 i) (nI c) else 0) n), .int (nI n)], [.int (I 152 14), .int (nI n)])) (h' := (G, I, F)) (hs' := []) rfl (vm_b2 rfl (vm_b2 rfl (vm_b2 (vm_b2 (vm_hG hR.c152) rfl) rfl))) ?_
        rw [(hn : I 152 14 = nI n)]
        refine vm_J.go vm_q208 (k := 1) (hs := []) (f' := (bif vm_ic .ge (nI n) (nI n) then 69 else 24, (0, 0), [.ref 152, .int x, .int (vr_cm (I 159) (I 161) (I 160) n x c), .int (nI c), .int (sp_sum (fun i => if I 161 i = x then I 160 i * sp_ch (I 159 i) (nI c) else 0) n), .int (nI n)], [])) (h' := (G, I, F)) (hs' := []) rfl rfl ?_
        refine vm_J.br (fun c4 => ?_) (fun c4 => ?_)
        · have c4 := vm_ge_t (a := n) (b := n) (by omega) (by omega) c4
          refine vm_J.go vm_q208 (k := 6) (hs := []) (f' := (77, (0, 0), [.ref 152, .int x, .int (vr_cm (I 159) (I 161) (I 160) n x c), .int (nI c), .int (sp_sum (fun i => if I 161 i = x then I 160 i * sp_ch (I 159 i) (nI c) else 0) n), .int (nI n)], [.int x, .ref 152, .int (sp_sum (fun i => if I 161 i = x then I 160 i * sp_ch (I 159 i) (nI c) else 0) n), .int (64 * (vr_cm (I 159) (I 161) (I 160) n x c))])) (h' := (G, I, F)) (hs' := []) rfl rfl ?_
          refine vm_J.call vm_q208 (Z := vm_M199) (n := 1) (k := 0) (mi := 199) (pc := 77) (en := (77, .invokevirtual 220, 3, [199, 1418, 0], .null)) rfl trivial rfl rfl vm_z199 (av := [.ref 152, .int x]) (rest := [.int (sp_sum (fun i => if I 161 i = x then I 160 i * sp_ch (I 159 i) (nI c) else 0) n), .int (64 * (vr_cm (I 159) (I 161) (I 160) n x c))]) (r_pixelsOf (n := n) (x := x) hR hn (by omega)) ⟨_, _, rfl, rfl, _, 11, _, hR.c152, rfl, rfl, rfl⟩ (Nat.le_of_ble_eq_true rfl) ⟨Nat.le_of_ble_eq_true rfl, Nat.le_of_ble_eq_true rfl⟩ ⟨Nat.le_of_ble_eq_true rfl, Nat.le_of_ble_eq_true rfl⟩ ?_
          show vm_J _ _ _ (80, (0, 0), [.ref 152, .int x, .int (vr_cm (I 159) (I 161) (I 160) n x c), .int (nI c), .int (sp_sum (fun i => if I 161 i = x then I 160 i * sp_ch (I 159 i) (nI c) else 0) n), .int (nI n)], [.int (vr_px (I 161) (I 160) n x), .int (sp_sum (fun i => if I 161 i = x then I 160 i * sp_ch (I 159 i) (nI c) else 0) n), .int (64 * (vr_cm (I 159) (I 161) (I 160) n x c))]) (G, I, F) _ _
          refine vm_J.call vm_q208 (Z := vm_M207) (n := 2) (k := 1) (mi := 207) (pc := 80) (en := (80, .invokestatic 242, 3, [207, 1446, 0], .null)) rfl trivial rfl rfl vm_z207 (av := [.int (sp_sum (fun i => if I 161 i = x then I 160 i * sp_ch (I 159 i) (nI c) else 0) n), .int (vr_px (I 161) (I 160) n x)]) (rest := [.int (64 * (vr_cm (I 159) (I 161) (I 160) n x c))]) (r_nearestWhole (s := sp_sum (fun i => if I 161 i = x then I 160 i * sp_ch (I 159 i) (nI c) else 0) n) (n := vr_px (I 161) (I 160) n x) hpx) rfl (Nat.le_of_ble_eq_true rfl) ⟨Nat.le_of_ble_eq_true rfl, Nat.le_of_ble_eq_true rfl⟩ ⟨Nat.le_of_ble_eq_true rfl, Nat.le_of_ble_eq_true rfl⟩ ?_
          show vm_J _ _ _ (83, (0, 0), [.ref 152, .int x, .int (vr_cm (I 159) (I 161) (I 160) n x c), .int (nI c), .int (sp_sum (fun i => if I 161 i = x then I 160 i * sp_ch (I 159 i) (nI c) else 0) n), .int (nI n)], [.int (sp_rd (sp_sum (fun i => if I 161 i = x then I 160 i * sp_ch (I 159 i) (nI c) else 0) n) (vr_px (I 161) (I 160) n x)), .int (64 * (vr_cm (I 159) (I 161) (I 160) n x c))]) (G, I, F) _ _
          refine vm_J.go vm_q208 (k := 4) (hs := []) (f' := (4, (0, 0), [.ref 152, .int x, .int ((64 * (vr_cm (I 159) (I 161) (I 160) n x c)) + (sp_rd (sp_sum (fun i => if I 161 i = x then I 160 i * sp_ch (I 159 i) (nI c) else 0) n) (vr_px (I 161) (I 160) n x))), .int ((nI c) + 1), .int (sp_sum (fun i => if I 161 i = x then I 160 i * sp_ch (I 159 i) (nI c) else 0) n), .int (nI n)], [])) (h' := (G, I, F)) (hs' := []) rfl rfl ?_
          rw [((vm_pa (rfl : nI c = nI c) (rfl : (1 : Int32) = nI 1)) : (nI c) + 1 = nI (c + 1))]
          refine vm_J.mask [true, true, true, true, false, false] ?_
          show vm_J _ _ _ (4, (0, 0), [.ref 152, .int x, .int ((64 * (vr_cm (I 159) (I 161) (I 160) n x c)) + (sp_rd (sp_sum (fun i => if I 161 i = x then I 160 i * sp_ch (I 159 i) (nI c) else 0) n) (vr_px (I 161) (I 160) n x))), .int (nI (c + 1)), .retAddr 0, .retAddr 0], []) (G, I, F) _ _
          rw [show ((64 * (vr_cm (I 159) (I 161) (I 160) n x c)) + (sp_rd (sp_sum (fun i => if I 161 i = x then I 160 i * sp_ch (I 159 i) (nI c) else 0) n) (vr_px (I 161) (I 160) n x)) : Int32) = (vr_cm (I 159) (I 161) (I 160) n x (c + 1)) from by rfl]
          exact ic trivial
        · have c4 := vm_ge_f (a := n) (b := n) (by omega) (by omega) c4
          exact (show False by omega).elim
  · show vm_J _ _ _ (4, (0, 0), [.ref 152, .int x, .int (vr_cm (I 159) (I 161) (I 160) n x 3), .int (nI 3), .retAddr 0, .retAddr 0], []) (G, I, F) _ _
    refine vm_J.go vm_q208 (k := 3) (hs := []) (f' := (bif vm_ic .ge (nI 3) 3 then 91 else 9, (0, 0), [.ref 152, .int x, .int (vr_cm (I 159) (I 161) (I 160) n x 3), .int (nI 3), .retAddr 0, .retAddr 0], [])) (h' := (G, I, F)) (hs' := []) rfl rfl ?_
    refine vm_J.br (fun c5 => ?_) (fun c5 => ?_)
    · have c5 := vm_ge_t (a := 3) (b := 3) (by omega) (by omega) c5
      refine vm_J.go vm_q208 (k := 1) (hs := []) (f' := (92, (0, 0), [.ref 152, .int x, .int (vr_cm (I 159) (I 161) (I 160) n x 3), .int (nI 3), .retAddr 0, .retAddr 0], [.int (vr_cm (I 159) (I 161) (I 160) n x 3)])) (h' := (G, I, F)) (hs' := []) rfl rfl ?_
      exact vm_J.end vm_q208 (en := (92, .ireturn, 1, [], .null)) rfl rfl vm_rI (Nat.zero_le _) (Nat.zero_le _) rfl
    · have c5 := vm_ge_f (a := 3) (b := 3) (by omega) (by omega) c5
      exact (show False by omega).elim
/-- a box's colours in the order of a channel: an insertion, how far it goes, the list and its length -/
def vr_oi (o : Nat → Nat) (m s j : Nat) : Nat → Nat := fun p => if p < m - s then o p else if p = m - s then j else o (p - 1)
def vr_os (f : Nat → Int32) (k : Int32) (o : Nat → Nat) (m j : Nat) : Nat := sp_fi (fun t => ¬ sp_ch (f j) k < sp_ch (f (o (m - t - 1))) k) m
def vr_or (f g : Nat → Int32) (x k : Int32) : Nat → (Nat → Nat) × Nat
  | 0 => (fun _ => 0, 0)
  | j + 1 => if g j = x then (vr_oi (vr_or f g x k j).1 (vr_or f g x k j).2 (vr_os f k (vr_or f g x k j).1 (vr_or f g x k j).2 j) j, (vr_or f g x k j).2 + 1) else vr_or f g x k j
theorem vr_os_l (f : Nat → Int32) (k : Int32) (o : Nat → Nat) (m j : Nat) : vr_os f k o m j ≤ m := sp_fi_le
theorem vr_or_b (f g : Nat → Int32) (x k : Int32) : ∀ j, (vr_or f g x k j).2 ≤ j ∧ ∀ p, p < (vr_or f g x k j).2 → (vr_or f g x k j).1 p < j ∧ g ((vr_or f g x k j).1 p) = x
  | 0 => ⟨Nat.le_refl 0, fun p hp => absurd hp (Nat.not_lt_zero p)⟩
  | j + 1 => by
    have ih := vr_or_b f g x k j
    have hs := vr_os_l f k (vr_or f g x k j).1 (vr_or f g x k j).2 j
    unfold vr_or
    split
    · rename_i q
      refine ⟨Nat.succ_le_succ ih.1, fun p hp => ?_⟩
      show vr_oi _ _ _ _ p < j + 1 ∧ g (vr_oi _ _ _ _ p) = x
      unfold vr_oi
      split
      · have := ih.2 p (by omega)
        exact ⟨Nat.lt_succ_of_lt this.1, this.2⟩
      · split
        · exact ⟨Nat.lt_succ_self _, q⟩
        · have hp2 : p < (vr_or f g x k j).2 + 1 := hp
          have := ih.2 (p - 1) (by omega)
          exact ⟨Nat.lt_succ_of_lt this.1, this.2⟩
    · exact ⟨Nat.le_succ_of_le ih.1, fun p hp => ⟨Nat.lt_succ_of_lt (ih.2 p hp).1, (ih.2 p hp).2⟩⟩
theorem vm_ors (J : Nat → Nat → Int32) (f : Nat → Int32) (m t : Nat) (ht : t < m) : vm_up (vm_wq J 162 f (m - t + 1) t) 162 (m - t) (f (m - t)) = vm_wq J 162 f (m - (t + 1) + 1) (t + 1) := by
  rw [vm_wq_p, show m - (t + 1) + 1 = m - t by omega]
theorem vm_orr (I : Nat → Nat → Int32) (o : Nat → Nat) (m t : Nat) (ht : t < m) : vm_wq (vm_wr I 162 (fun p => nI (o p)) m) 162 (fun p => nI (o (p - 1))) (m - t + 1) t 162 (m - t - 1) = nI (o (m - t - 1)) := by
  rw [vm_wq_l _ _ _ _ _ _ (by omega), vm_wr_h _ _ _ _ _ (by omega)]
theorem vm_ori (I : Nat → Nat → Int32) (o : Nat → Nat) (m t j : Nat) (ht : t ≤ m) : vm_up (vm_wq (vm_wr I 162 (fun p => nI (o p)) m) 162 (fun p => nI (o (p - 1))) (m - t + 1) t) 162 (m - t) (nI j) = vm_wr I 162 (fun p => nI (vr_oi o m t j p)) (m + 1) := by
  funext a b
  by_cases ha : a = 162
  · subst ha
    by_cases hb : b = m - t
    · subst hb
      rw [vm_up_h, vm_wr_h _ _ _ _ _ (by omega)]
      unfold vr_oi
      rw [if_neg (Nat.lt_irrefl _), if_pos rfl]
    · rw [vm_up_k2 _ _ _ _ _ hb]
      unfold vm_wq vm_wr vr_oi
      rw [if_pos rfl, if_pos rfl, if_pos rfl]
      by_cases h1 : b < m - t
      · rw [if_neg (by omega), if_pos (by omega), if_pos (by omega)]
        dsimp only
        rw [if_pos h1]
      · by_cases h2 : b < m + 1
        · rw [if_pos (by omega), if_pos h2]
          dsimp only
          rw [if_neg h1, if_neg hb]
        · rw [if_neg (by omega), if_neg (by omega), if_neg h2]
  · rw [vm_up_o2 _ _ _ _ _ _ ha, vm_wq_o _ _ _ _ _ _ ha, vm_wr_o _ _ _ _ _ ha, vm_wr_o _ _ _ _ _ ha]
def vr_oH (I : Nat → Nat → Int32) (x k : Int32) (j : Nat) : Nat → Nat → Int32 := vm_wr I 162 (fun p => nI ((vr_or (I 159) (I 161) x k j).1 p)) (vr_or (I 159) (I 161) x k j).2
theorem vr_oH_o (I : Nat → Nat → Int32) (x k : Int32) (j a : Nat) (h : a ≠ 162) : vr_oH I x k j a = I a := vm_wr_o _ _ _ _ _ h
theorem vr_oH_y {I : Nat → Nat → Int32} {x k : Int32} {j t : Nat} (hg : I 161 j = x) (hs : vr_os (I 159) k (vr_or (I 159) (I 161) x k j).1 (vr_or (I 159) (I 161) x k j).2 j = t) (ht : t ≤ (vr_or (I 159) (I 161) x k j).2) : vr_oH I x k (j + 1) = vm_up (vm_wq (vm_wr I 162 (fun p => nI ((vr_or (I 159) (I 161) x k j).1 p)) (vr_or (I 159) (I 161) x k j).2) 162 (fun p => nI ((vr_or (I 159) (I 161) x k j).1 (p - 1))) ((vr_or (I 159) (I 161) x k j).2 - t + 1) t) 162 ((vr_or (I 159) (I 161) x k j).2 - t) (nI j) ∧ (vr_or (I 159) (I 161) x k (j + 1)).2 = (vr_or (I 159) (I 161) x k j).2 + 1 := by
  have e : vr_or (I 159) (I 161) x k (j + 1) = _ := if_pos hg
  subst hs
  constructor
  · rw [vm_ori _ _ _ _ _ ht]
    unfold vr_oH
    rw [e]
  · rw [e]
theorem vr_or_n {f g : Nat → Int32} {x k : Int32} {j : Nat} (hg : ¬ g j = x) : vr_or f g x k (j + 1) = vr_or f g x k j := if_neg hg
theorem vr_oH_n {I : Nat → Nat → Int32} {x k : Int32} {j : Nat} (hg : ¬ I 161 j = x) : vr_oH I x k (j + 1) = vr_oH I x k j := by
  unfold vr_oH
  rw [vr_or_n hg]
theorem vr_os_h {f : Nat → Int32} {k : Int32} {o : Nat → Nat} {m j t : Nat} (ht : t < m) (h : ∀ u, u < t → sp_ch (f j) k < sp_ch (f (o (m - u - 1))) k) (hn : ¬ sp_ch (f j) k < sp_ch (f (o (m - t - 1))) k) : vr_os f k o m j = t := sp_fi_hit (p := fun t => ¬ sp_ch (f j) k < sp_ch (f (o (m - t - 1))) k) ht (fun u hu z => z (h u hu)) hn
theorem vr_os_0 {f : Nat → Int32} {k : Int32} {o : Nat → Nat} {m j : Nat} (h : ∀ u, u < m → sp_ch (f j) k < sp_ch (f (o (m - u - 1))) k) : vr_os f k o m j = m := sp_fi_none (p := fun t => ¬ sp_ch (f j) k < sp_ch (f (o (m - t - 1))) k) fun u hu z => z (h u hu)
set_option maxHeartbeats 4000000 in
set_option maxRecDepth 20000 in
/-- DitherDeskModel.ordersBy -/
theorem r_ordersBy {l : Launch} {X : vm_Cx} {G : List vm_Sh} {I : Nat → Nat → Int32} {F : Nat → Nat → UInt32} {n : Nat} {x : Int32} {k : Int32} (hR : vm_isR G) (hn : I 152 14 = nI n) (hn2 : n ≤ 144) : vm_K l X vm_M203 [.ref 152, .int x, .int k] (G, I, F) (some (.int (nI ((vr_or (I 159) (I 161) x k n).2)))) (G, (vr_oH I x k n), F) := by
  refine vm_K.mk (by decide) (Nat.le_of_ble_eq_true rfl) ?_
  show vm_J _ _ _ (0, (0, 0), [.ref 152, .int x, .int k, .retAddr 0, .retAddr 0, .retAddr 0], []) _ _ _
  refine vm_J.go vm_q203 (k := 4) (hs := []) (f' := (5, (0, 0), [.ref 152, .int x, .int k, .int 0, .int 0, .retAddr 0], [])) (h' := (G, I, F)) (hs' := []) rfl rfl ?_
  refine vm_J.cnt n (fun j => (5, (0, 0), [.ref 152, .int x, .int k, .int (nI ((vr_or (I 159) (I 161) x k j).2)), .int (nI j), .retAddr 0], [])) (fun j => (G, (vr_oH I x k j), F)) (fun _ => True) rfl (by unfold vr_oH; rw [show (vr_or (I 159) (I 161) x k 0).2 = 0 from rfl, ← vm_wr_0]) trivial (fun j hj pj ij => ?_) (fun pj => ?_)
  · have hjm := (vr_or_b (I 159) (I 161) x k j).1
    show vm_J _ _ _ (5, (0, 0), [.ref 152, .int x, .int k, .int (nI ((vr_or (I 159) (I 161) x k j).2)), .int (nI j), .retAddr 0], []) (G, (vr_oH I x k j), F) _ _
    refine vm_J.go vm_q203 (k := 3) (hs := [vm_shR]) (f' := (11, (0, 0), [.ref 152, .int x, .int k, .int (nI ((vr_or (I 159) (I 161) x k j).2)), .int (nI j), .retAddr 0], [.int ((vr_oH I x k j) 152 14), .int (nI j)])) (h' := (G, (vr_oH I x k j), F)) (hs' := []) rfl (vm_b2 rfl (vm_b2 rfl (vm_b2 (vm_b2 (vm_hG hR.c152) rfl) rfl))) ?_
    rw [((Eq.trans (congrFun (vr_oH_o _ _ _ _ 152 (by decide)) 14) hn) : (vr_oH I x k j) 152 14 = nI n)]
    refine vm_J.go vm_q203 (k := 1) (hs := []) (f' := (bif vm_ic .ge (nI j) (nI n) then 108 else 14, (0, 0), [.ref 152, .int x, .int k, .int (nI ((vr_or (I 159) (I 161) x k j).2)), .int (nI j), .retAddr 0], [])) (h' := (G, (vr_oH I x k j), F)) (hs' := []) rfl rfl ?_
    refine vm_J.br (fun c1 => ?_) (fun c1 => ?_)
    · have c1 := vm_ge_t (a := j) (b := n) (by omega) (by omega) c1
      exact (show False by omega).elim
    · have c1 := vm_ge_f (a := j) (b := n) (by omega) (by omega) c1
      refine vm_J.go vm_q203 (k := 4) (hs := [vm_shR, (0, 144, [])]) (f' := (21, (0, 0), [.ref 152, .int x, .int k, .int (nI ((vr_or (I 159) (I 161) x k j).2)), .int (nI j), .retAddr 0], [.int ((vr_oH I x k j) 161 (nI j).toNatClampNeg)])) (h' := (G, (vr_oH I x k j), F)) (hs' := []) rfl (vm_b2 rfl (vm_b2 (vm_b2 (vm_hG hR.c152) rfl) (vm_b2 rfl (vm_b2 (vm_b2 (vm_hG hR.c161) (vm_in_e (j := j) (n := 144) rfl (by omega) (by omega))) rfl)))) ?_
      rw [vm_ix_e (j := j) rfl (by omega)]
      rw [((congrFun (vr_oH_o _ _ _ _ 161 (by decide)) j) : (vr_oH I x k j) 161 j = I 161 j)]
      refine vm_J.go vm_q203 (k := 2) (hs := []) (f' := (bif vm_ic .eq (I 161 j) x then 28 else 25, (0, 0), [.ref 152, .int x, .int k, .int (nI ((vr_or (I 159) (I 161) x k j).2)), .int (nI j), .retAddr 0], [])) (h' := (G, (vr_oH I x k j), F)) (hs' := []) rfl rfl ?_
      refine vm_J.br (fun c2 => ?_) (fun c2 => ?_)
      · have c2 : (I 161 j) = x := of_decide_eq_true c2
        refine vm_J.go vm_q203 (k := 2) (hs := []) (f' := (31, (0, 0), [.ref 152, .int x, .int k, .int (nI ((vr_or (I 159) (I 161) x k j).2)), .int (nI j), .int (nI ((vr_or (I 159) (I 161) x k j).2))], [])) (h' := (G, (vr_oH I x k j), F)) (hs' := []) rfl rfl ?_
        refine vm_J.cnt ((vr_or (I 159) (I 161) x k j).2) (fun t => (31, (0, 0), [.ref 152, .int x, .int k, .int (nI ((vr_or (I 159) (I 161) x k j).2)), .int (nI j), .int (nI (((vr_or (I 159) (I 161) x k j).2) - t))], [])) (fun t => (G, (vm_wq (vm_wr I 162 (fun p_ => nI ((vr_or (I 159) (I 161) x k j).1 p_)) ((vr_or (I 159) (I 161) x k j).2)) 162 (fun p_ => nI ((vr_or (I 159) (I 161) x k j).1 (p_ - 1))) (((vr_or (I 159) (I 161) x k j).2) - t + 1) t), F)) (fun t => ∀ u_, u_ < t → (fun u_ => sp_ch (I 159 j) k < sp_ch (I 159 ((vr_or (I 159) (I 161) x k j).1 (((vr_or (I 159) (I 161) x k j).2) - u_ - 1))) k) u_) rfl (by rw [← vm_wq_0]; rfl) vm_all0 (fun t ht pt it => ?_) (fun pt => ?_)
        · have hob := (vr_or_b (I 159) (I 161) x k j).2 (((vr_or (I 159) (I 161) x k j).2) - t - 1) (by omega)
          show vm_J _ _ _ (31, (0, 0), [.ref 152, .int x, .int k, .int (nI ((vr_or (I 159) (I 161) x k j).2)), .int (nI j), .int (nI (((vr_or (I 159) (I 161) x k j).2) - t))], []) (G, (vm_wq (vm_wr I 162 (fun p_ => nI ((vr_or (I 159) (I 161) x k j).1 p_)) ((vr_or (I 159) (I 161) x k j).2)) 162 (fun p_ => nI ((vr_or (I 159) (I 161) x k j).1 (p_ - 1))) (((vr_or (I 159) (I 161) x k j).2) - t + 1) t), F) _ _
          refine vm_J.go vm_q203 (k := 2) (hs := []) (f' := (bif vm_ic .le (nI (((vr_or (I 159) (I 161) x k j).2) - t)) 0 then 90 else 36, (0, 0), [.ref 152, .int x, .int k, .int (nI ((vr_or (I 159) (I 161) x k j).2)), .int (nI j), .int (nI (((vr_or (I 159) (I 161) x k j).2) - t))], [])) (h' := (G, (vm_wq (vm_wr I 162 (fun p_ => nI ((vr_or (I 159) (I 161) x k j).1 p_)) ((vr_or (I 159) (I 161) x k j).2)) 162 (fun p_ => nI ((vr_or (I 159) (I 161) x k j).1 (p_ - 1))) (((vr_or (I 159) (I 161) x k j).2) - t + 1) t), F)) (hs' := []) rfl rfl ?_
          refine vm_J.br (fun c3 => ?_) (fun c3 => ?_)
          · have c3 := vm_le_t (a := ((vr_or (I 159) (I 161) x k j).2) - t) (b := 0) (by omega) (by omega) c3
            exact (show False by omega).elim
          · have c3 := vm_le_f (a := ((vr_or (I 159) (I 161) x k j).2) - t) (b := 0) (by omega) (by omega) c3
            refine vm_J.go vm_q203 (k := 8) (hs := [vm_shR, vm_shR, (0, 144, [])]) (f' := (49, (0, 0), [.ref 152, .int x, .int k, .int (nI ((vr_or (I 159) (I 161) x k j).2)), .int (nI j), .int (nI (((vr_or (I 159) (I 161) x k j).2) - t))], [.int ((vm_wq (vm_wr I 162 (fun p_ => nI ((vr_or (I 159) (I 161) x k j).1 p_)) ((vr_or (I 159) (I 161) x k j).2)) 162 (fun p_ => nI ((vr_or (I 159) (I 161) x k j).1 (p_ - 1))) (((vr_or (I 159) (I 161) x k j).2) - t + 1) t) 162 ((nI (((vr_or (I 159) (I 161) x k j).2) - t)) - 1).toNatClampNeg), .ref 159])) (h' := (G, (vm_wq (vm_wr I 162 (fun p_ => nI ((vr_or (I 159) (I 161) x k j).1 p_)) ((vr_or (I 159) (I 161) x k j).2)) 162 (fun p_ => nI ((vr_or (I 159) (I 161) x k j).1 (p_ - 1))) (((vr_or (I 159) (I 161) x k j).2) - t + 1) t), F)) (hs' := []) rfl (vm_b2 rfl (vm_b2 (vm_b2 (vm_hG hR.c152) rfl) (vm_b2 rfl (vm_b2 (vm_b2 (vm_hG hR.c152) rfl) (vm_b2 rfl (vm_b2 rfl (vm_b2 rfl (vm_b2 (vm_b2 (vm_hG hR.c162) (vm_in_e (j := (((vr_or (I 159) (I 161) x k j).2) - t) - 1) (n := 144) (vm_ps (rfl : (nI (((vr_or (I 159) (I 161) x k j).2) - t) : Int32) = nI (((vr_or (I 159) (I 161) x k j).2) - t)) (rfl : (1 : Int32) = nI 1) (by omega)) (by omega) (by omega))) rfl)))))))) ?_
            rw [vm_ix_e (j := (((vr_or (I 159) (I 161) x k j).2) - t) - 1) (vm_ps (rfl : (nI (((vr_or (I 159) (I 161) x k j).2) - t) : Int32) = nI (((vr_or (I 159) (I 161) x k j).2) - t)) (rfl : (1 : Int32) = nI 1) (by omega)) (by omega)]
            rw [((vm_orr I (vr_or (I 159) (I 161) x k j).1 _ t ht) : (vm_wq (vm_wr I 162 (fun p_ => nI ((vr_or (I 159) (I 161) x k j).1 p_)) ((vr_or (I 159) (I 161) x k j).2)) 162 (fun p_ => nI ((vr_or (I 159) (I 161) x k j).1 (p_ - 1))) (((vr_or (I 159) (I 161) x k j).2) - t + 1) t) 162 ((((vr_or (I 159) (I 161) x k j).2) - t) - 1) = nI ((vr_or (I 159) (I 161) x k j).1 (((vr_or (I 159) (I 161) x k j).2) - t - 1)))]
            refine vm_J.go vm_q203 (k := 1) (hs := [(0, 144, [])]) (f' := (50, (0, 0), [.ref 152, .int x, .int k, .int (nI ((vr_or (I 159) (I 161) x k j).2)), .int (nI j), .int (nI (((vr_or (I 159) (I 161) x k j).2) - t))], [.int ((vm_wq (vm_wr I 162 (fun p_ => nI ((vr_or (I 159) (I 161) x k j).1 p_)) ((vr_or (I 159) (I 161) x k j).2)) 162 (fun p_ => nI ((vr_or (I 159) (I 161) x k j).1 (p_ - 1))) (((vr_or (I 159) (I 161) x k j).2) - t + 1) t) 159 (nI ((vr_or (I 159) (I 161) x k j).1 (((vr_or (I 159) (I 161) x k j).2) - t - 1))).toNatClampNeg)])) (h' := (G, (vm_wq (vm_wr I 162 (fun p_ => nI ((vr_or (I 159) (I 161) x k j).1 p_)) ((vr_or (I 159) (I 161) x k j).2)) 162 (fun p_ => nI ((vr_or (I 159) (I 161) x k j).1 (p_ - 1))) (((vr_or (I 159) (I 161) x k j).2) - t + 1) t), F)) (hs' := []) rfl (vm_b2 (vm_b2 (vm_hG hR.c159) (vm_in_e (j := (vr_or (I 159) (I 161) x k j).1 (((vr_or (I 159) (I 161) x k j).2) - t - 1)) (n := 144) rfl (by omega) (by omega))) rfl) ?_
            rw [vm_ix_e (j := (vr_or (I 159) (I 161) x k j).1 (((vr_or (I 159) (I 161) x k j).2) - t - 1)) rfl (by omega)]
            rw [((Eq.trans (congrFun (vm_wq_o _ 162 (((vr_or (I 159) (I 161) x k j).2) - t + 1) t 159 _ (by decide)) ((vr_or (I 159) (I 161) x k j).1 (((vr_or (I 159) (I 161) x k j).2) - t - 1))) (congrFun (vm_wr_o _ 162 ((vr_or (I 159) (I 161) x k j).2) 159 _ (by decide)) ((vr_or (I 159) (I 161) x k j).1 (((vr_or (I 159) (I 161) x k j).2) - t - 1)))) : (vm_wq (vm_wr I 162 (fun p_ => nI ((vr_or (I 159) (I 161) x k j).1 p_)) ((vr_or (I 159) (I 161) x k j).2)) 162 (fun p_ => nI ((vr_or (I 159) (I 161) x k j).1 (p_ - 1))) (((vr_or (I 159) (I 161) x k j).2) - t + 1) t) 159 ((vr_or (I 159) (I 161) x k j).1 (((vr_or (I 159) (I 161) x k j).2) - t - 1)) = I 159 ((vr_or (I 159) (I 161) x k j).1 (((vr_or (I 159) (I 161) x k j).2) - t - 1)))]
            refine vm_J.go vm_q203 (k := 1) (hs := []) (f' := (51, (0, 0), [.ref 152, .int x, .int k, .int (nI ((vr_or (I 159) (I 161) x k j).2)), .int (nI j), .int (nI (((vr_or (I 159) (I 161) x k j).2) - t))], [.int k, .int (I 159 ((vr_or (I 159) (I 161) x k j).1 (((vr_or (I 159) (I 161) x k j).2) - t - 1)))])) (h' := (G, (vm_wq (vm_wr I 162 (fun p_ => nI ((vr_or (I 159) (I 161) x k j).1 p_)) ((vr_or (I 159) (I 161) x k j).2)) 162 (fun p_ => nI ((vr_or (I 159) (I 161) x k j).1 (p_ - 1))) (((vr_or (I 159) (I 161) x k j).2) - t + 1) t), F)) (hs' := []) rfl rfl ?_
            refine vm_J.call vm_q203 (Z := vm_M170) (n := 2) (k := 1) (mi := 170) (pc := 51) (en := (51, .invokestatic 180, 3, [170, 1348, 0], .null)) rfl trivial rfl rfl vm_z170 (av := [.int (I 159 ((vr_or (I 159) (I 161) x k j).1 (((vr_or (I 159) (I 161) x k j).2) - t - 1))), .int k]) (rest := []) (r_channelOf (c := I 159 ((vr_or (I 159) (I 161) x k j).1 (((vr_or (I 159) (I 161) x k j).2) - t - 1))) (k := k)) rfl (Nat.le_of_ble_eq_true rfl) ⟨Nat.le_of_ble_eq_true rfl, Nat.le_of_ble_eq_true rfl⟩ ⟨Nat.le_of_ble_eq_true rfl, Nat.le_of_ble_eq_true rfl⟩ ?_
            show vm_J _ _ _ (54, (0, 0), [.ref 152, .int x, .int k, .int (nI ((vr_or (I 159) (I 161) x k j).2)), .int (nI j), .int (nI (((vr_or (I 159) (I 161) x k j).2) - t))], [.int (sp_ch (I 159 ((vr_or (I 159) (I 161) x k j).1 (((vr_or (I 159) (I 161) x k j).2) - t - 1))) k)]) (G, (vm_wq (vm_wr I 162 (fun p_ => nI ((vr_or (I 159) (I 161) x k j).1 p_)) ((vr_or (I 159) (I 161) x k j).2)) 162 (fun p_ => nI ((vr_or (I 159) (I 161) x k j).1 (p_ - 1))) (((vr_or (I 159) (I 161) x k j).2) - t + 1) t), F) _ _
            refine vm_J.go vm_q203 (k := 4) (hs := [vm_shR, (0, 144, [])]) (f' := (61, (0, 0), [.ref 152, .int x, .int k, .int (nI ((vr_or (I 159) (I 161) x k j).2)), .int (nI j), .int (nI (((vr_or (I 159) (I 161) x k j).2) - t))], [.int ((vm_wq (vm_wr I 162 (fun p_ => nI ((vr_or (I 159) (I 161) x k j).1 p_)) ((vr_or (I 159) (I 161) x k j).2)) 162 (fun p_ => nI ((vr_or (I 159) (I 161) x k j).1 (p_ - 1))) (((vr_or (I 159) (I 161) x k j).2) - t + 1) t) 159 (nI j).toNatClampNeg), .int (sp_ch (I 159 ((vr_or (I 159) (I 161) x k j).1 (((vr_or (I 159) (I 161) x k j).2) - t - 1))) k)])) (h' := (G, (vm_wq (vm_wr I 162 (fun p_ => nI ((vr_or (I 159) (I 161) x k j).1 p_)) ((vr_or (I 159) (I 161) x k j).2)) 162 (fun p_ => nI ((vr_or (I 159) (I 161) x k j).1 (p_ - 1))) (((vr_or (I 159) (I 161) x k j).2) - t + 1) t), F)) (hs' := []) rfl (vm_b2 rfl (vm_b2 (vm_b2 (vm_hG hR.c152) rfl) (vm_b2 rfl (vm_b2 (vm_b2 (vm_hG hR.c159) (vm_in_e (j := j) (n := 144) rfl (by omega) (by omega))) rfl)))) ?_
            rw [vm_ix_e (j := j) rfl (by omega)]
            rw [((Eq.trans (congrFun (vm_wq_o _ 162 (((vr_or (I 159) (I 161) x k j).2) - t + 1) t 159 _ (by decide)) j) (congrFun (vm_wr_o _ 162 ((vr_or (I 159) (I 161) x k j).2) 159 _ (by decide)) j)) : (vm_wq (vm_wr I 162 (fun p_ => nI ((vr_or (I 159) (I 161) x k j).1 p_)) ((vr_or (I 159) (I 161) x k j).2)) 162 (fun p_ => nI ((vr_or (I 159) (I 161) x k j).1 (p_ - 1))) (((vr_or (I 159) (I 161) x k j).2) - t + 1) t) 159 j = I 159 j)]
            refine vm_J.go vm_q203 (k := 1) (hs := []) (f' := (62, (0, 0), [.ref 152, .int x, .int k, .int (nI ((vr_or (I 159) (I 161) x k j).2)), .int (nI j), .int (nI (((vr_or (I 159) (I 161) x k j).2) - t))], [.int k, .int (I 159 j), .int (sp_ch (I 159 ((vr_or (I 159) (I 161) x k j).1 (((vr_or (I 159) (I 161) x k j).2) - t - 1))) k)])) (h' := (G, (vm_wq (vm_wr I 162 (fun p_ => nI ((vr_or (I 159) (I 161) x k j).1 p_)) ((vr_or (I 159) (I 161) x k j).2)) 162 (fun p_ => nI ((vr_or (I 159) (I 161) x k j).1 (p_ - 1))) (((vr_or (I 159) (I 161) x k j).2) - t + 1) t), F)) (hs' := []) rfl rfl ?_
            refine vm_J.call vm_q203 (Z := vm_M170) (n := 2) (k := 1) (mi := 170) (pc := 62) (en := (62, .invokestatic 180, 3, [170, 1348, 0], .null)) rfl trivial rfl rfl vm_z170 (av := [.int (I 159 j), .int k]) (rest := [.int (sp_ch (I 159 ((vr_or (I 159) (I 161) x k j).1 (((vr_or (I 159) (I 161) x k j).2) - t - 1))) k)]) (r_channelOf (c := I 159 j) (k := k)) rfl (Nat.le_of_ble_eq_true rfl) ⟨Nat.le_of_ble_eq_true rfl, Nat.le_of_ble_eq_true rfl⟩ ⟨Nat.le_of_ble_eq_true rfl, Nat.le_of_ble_eq_true rfl⟩ ?_
            show vm_J _ _ _ (65, (0, 0), [.ref 152, .int x, .int k, .int (nI ((vr_or (I 159) (I 161) x k j).2)), .int (nI j), .int (nI (((vr_or (I 159) (I 161) x k j).2) - t))], [.int (sp_ch (I 159 j) k), .int (sp_ch (I 159 ((vr_or (I 159) (I 161) x k j).1 (((vr_or (I 159) (I 161) x k j).2) - t - 1))) k)]) (G, (vm_wq (vm_wr I 162 (fun p_ => nI ((vr_or (I 159) (I 161) x k j).1 p_)) ((vr_or (I 159) (I 161) x k j).2)) 162 (fun p_ => nI ((vr_or (I 159) (I 161) x k j).1 (p_ - 1))) (((vr_or (I 159) (I 161) x k j).2) - t + 1) t), F) _ _
            refine vm_J.go vm_q203 (k := 1) (hs := []) (f' := (bif vm_ic .le (sp_ch (I 159 ((vr_or (I 159) (I 161) x k j).1 (((vr_or (I 159) (I 161) x k j).2) - t - 1))) k) (sp_ch (I 159 j) k) then 90 else 68, (0, 0), [.ref 152, .int x, .int k, .int (nI ((vr_or (I 159) (I 161) x k j).2)), .int (nI j), .int (nI (((vr_or (I 159) (I 161) x k j).2) - t))], [])) (h' := (G, (vm_wq (vm_wr I 162 (fun p_ => nI ((vr_or (I 159) (I 161) x k j).1 p_)) ((vr_or (I 159) (I 161) x k j).2)) 162 (fun p_ => nI ((vr_or (I 159) (I 161) x k j).1 (p_ - 1))) (((vr_or (I 159) (I 161) x k j).2) - t + 1) t), F)) (hs' := []) rfl rfl ?_
            refine vm_J.br (fun c4 => ?_) (fun c4 => ?_)
            · have c4 : (sp_ch (I 159 ((vr_or (I 159) (I 161) x k j).1 (((vr_or (I 159) (I 161) x k j).2) - t - 1))) k) ≤ (sp_ch (I 159 j) k) := of_decide_eq_true c4
              refine vm_J.go vm_q203 (k := 8) (hs := [vm_shR, (0, 144, [])]) (f' := (5, (0, 0), [.ref 152, .int x, .int k, .int ((nI ((vr_or (I 159) (I 161) x k j).2)) + 1), .int ((nI j) + 1), .int (nI (((vr_or (I 159) (I 161) x k j).2) - t))], [])) (h' := (G, (vm_up (vm_wq (vm_wr I 162 (fun p_ => nI ((vr_or (I 159) (I 161) x k j).1 p_)) ((vr_or (I 159) (I 161) x k j).2)) 162 (fun p_ => nI ((vr_or (I 159) (I 161) x k j).1 (p_ - 1))) (((vr_or (I 159) (I 161) x k j).2) - t + 1) t) 162 ((nI (((vr_or (I 159) (I 161) x k j).2) - t)).toNatClampNeg) (nI j)), F)) (hs' := []) rfl (vm_b2 rfl (vm_b2 (vm_b2 (vm_hG hR.c152) rfl) (vm_b2 rfl (vm_b2 rfl (vm_b2 (vm_b2 (vm_hG hR.c162) (vm_in_e (j := ((vr_or (I 159) (I 161) x k j).2) - t) (n := 144) rfl (by omega) (by omega))) (vm_b2 rfl (vm_b2 rfl (vm_b2 rfl rfl)))))))) ?_
              rw [vm_ix_e (j := ((vr_or (I 159) (I 161) x k j).2) - t) rfl (by omega), ((vm_pa (rfl : nI ((vr_or (I 159) (I 161) x k j).2) = nI ((vr_or (I 159) (I 161) x k j).2)) (rfl : (1 : Int32) = nI 1)) : (nI ((vr_or (I 159) (I 161) x k j).2)) + 1 = nI (((vr_or (I 159) (I 161) x k j).2) + 1)), ((vm_pa (rfl : nI j = nI j) (rfl : (1 : Int32) = nI 1)) : (nI j) + 1 = nI (j + 1))]
              refine vm_J.mask [true, true, true, true, true, false] ?_
              show vm_J _ _ _ (5, (0, 0), [.ref 152, .int x, .int k, .int (nI (((vr_or (I 159) (I 161) x k j).2) + 1)), .int (nI (j + 1)), .retAddr 0], []) (G, (vm_up (vm_wq (vm_wr I 162 (fun p_ => nI ((vr_or (I 159) (I 161) x k j).1 p_)) ((vr_or (I 159) (I 161) x k j).2)) 162 (fun p_ => nI ((vr_or (I 159) (I 161) x k j).1 (p_ - 1))) (((vr_or (I 159) (I 161) x k j).2) - t + 1) t) 162 ((((vr_or (I 159) (I 161) x k j).2) - t)) (nI j)), F) _ _
              have z := ij trivial
              obtain ⟨y1, y2⟩ := vr_oH_y c2 (vr_os_h ht pt (vm_nle_lt c4)) (Nat.le_of_lt ht)
              rw [y1, y2] at z
              exact z
            · have c4 : ¬ ((sp_ch (I 159 ((vr_or (I 159) (I 161) x k j).1 (((vr_or (I 159) (I 161) x k j).2) - t - 1))) k) ≤ (sp_ch (I 159 j) k)) := of_decide_eq_false c4
              refine vm_J.go vm_q203 (k := 9) (hs := [vm_shR, vm_shR, (0, 144, [])]) (f' := (83, (0, 0), [.ref 152, .int x, .int k, .int (nI ((vr_or (I 159) (I 161) x k j).2)), .int (nI j), .int (nI (((vr_or (I 159) (I 161) x k j).2) - t))], [.int ((vm_wq (vm_wr I 162 (fun p_ => nI ((vr_or (I 159) (I 161) x k j).1 p_)) ((vr_or (I 159) (I 161) x k j).2)) 162 (fun p_ => nI ((vr_or (I 159) (I 161) x k j).1 (p_ - 1))) (((vr_or (I 159) (I 161) x k j).2) - t + 1) t) 162 ((nI (((vr_or (I 159) (I 161) x k j).2) - t)) - 1).toNatClampNeg), .int (nI (((vr_or (I 159) (I 161) x k j).2) - t)), .ref 162])) (h' := (G, (vm_wq (vm_wr I 162 (fun p_ => nI ((vr_or (I 159) (I 161) x k j).1 p_)) ((vr_or (I 159) (I 161) x k j).2)) 162 (fun p_ => nI ((vr_or (I 159) (I 161) x k j).1 (p_ - 1))) (((vr_or (I 159) (I 161) x k j).2) - t + 1) t), F)) (hs' := []) rfl (vm_b2 rfl (vm_b2 (vm_b2 (vm_hG hR.c152) rfl) (vm_b2 rfl (vm_b2 rfl (vm_b2 (vm_b2 (vm_hG hR.c152) rfl) (vm_b2 rfl (vm_b2 rfl (vm_b2 rfl (vm_b2 (vm_b2 (vm_hG hR.c162) (vm_in_e (j := (((vr_or (I 159) (I 161) x k j).2) - t) - 1) (n := 144) (vm_ps (rfl : (nI (((vr_or (I 159) (I 161) x k j).2) - t) : Int32) = nI (((vr_or (I 159) (I 161) x k j).2) - t)) (rfl : (1 : Int32) = nI 1) (by omega)) (by omega) (by omega))) rfl))))))))) ?_
              rw [vm_ix_e (j := (((vr_or (I 159) (I 161) x k j).2) - t) - 1) (vm_ps (rfl : (nI (((vr_or (I 159) (I 161) x k j).2) - t) : Int32) = nI (((vr_or (I 159) (I 161) x k j).2) - t)) (rfl : (1 : Int32) = nI 1) (by omega)) (by omega)]
              rw [((vm_orr I (vr_or (I 159) (I 161) x k j).1 _ t ht) : (vm_wq (vm_wr I 162 (fun p_ => nI ((vr_or (I 159) (I 161) x k j).1 p_)) ((vr_or (I 159) (I 161) x k j).2)) 162 (fun p_ => nI ((vr_or (I 159) (I 161) x k j).1 (p_ - 1))) (((vr_or (I 159) (I 161) x k j).2) - t + 1) t) 162 ((((vr_or (I 159) (I 161) x k j).2) - t) - 1) = nI ((vr_or (I 159) (I 161) x k j).1 (((vr_or (I 159) (I 161) x k j).2) - t - 1)))]
              refine vm_J.go vm_q203 (k := 3) (hs := [(0, 144, [])]) (f' := (31, (0, 0), [.ref 152, .int x, .int k, .int (nI ((vr_or (I 159) (I 161) x k j).2)), .int (nI j), .int ((nI (((vr_or (I 159) (I 161) x k j).2) - t)) + (-1))], [])) (h' := (G, (vm_up (vm_wq (vm_wr I 162 (fun p_ => nI ((vr_or (I 159) (I 161) x k j).1 p_)) ((vr_or (I 159) (I 161) x k j).2)) 162 (fun p_ => nI ((vr_or (I 159) (I 161) x k j).1 (p_ - 1))) (((vr_or (I 159) (I 161) x k j).2) - t + 1) t) 162 ((nI (((vr_or (I 159) (I 161) x k j).2) - t)).toNatClampNeg) (nI ((vr_or (I 159) (I 161) x k j).1 (((vr_or (I 159) (I 161) x k j).2) - t - 1)))), F)) (hs' := []) rfl (vm_b2 (vm_b2 (vm_hG hR.c162) (vm_in_e (j := ((vr_or (I 159) (I 161) x k j).2) - t) (n := 144) rfl (by omega) (by omega))) (vm_b2 rfl (vm_b2 rfl rfl))) ?_
              rw [vm_ix_e (j := ((vr_or (I 159) (I 161) x k j).2) - t) rfl (by omega), ((vm_dec (rfl : nI (((vr_or (I 159) (I 161) x k j).2) - t) = nI (((vr_or (I 159) (I 161) x k j).2) - t)) (by omega)) : (nI (((vr_or (I 159) (I 161) x k j).2) - t)) + (-1) = nI ((((vr_or (I 159) (I 161) x k j).2) - t) - 1))]
              rw [show (vm_up (vm_wq (vm_wr I 162 (fun p_ => nI ((vr_or (I 159) (I 161) x k j).1 p_)) ((vr_or (I 159) (I 161) x k j).2)) 162 (fun p_ => nI ((vr_or (I 159) (I 161) x k j).1 (p_ - 1))) (((vr_or (I 159) (I 161) x k j).2) - t + 1) t) 162 ((((vr_or (I 159) (I 161) x k j).2) - t)) (nI ((vr_or (I 159) (I 161) x k j).1 (((vr_or (I 159) (I 161) x k j).2) - t - 1)))) = (vm_wq (vm_wr I 162 (fun p_ => nI ((vr_or (I 159) (I 161) x k j).1 p_)) ((vr_or (I 159) (I 161) x k j).2)) 162 (fun p_ => nI ((vr_or (I 159) (I 161) x k j).1 (p_ - 1))) (((vr_or (I 159) (I 161) x k j).2) - (t + 1) + 1) (t + 1)) from vm_ors _ (fun p_ => nI ((vr_or (I 159) (I 161) x k j).1 (p_ - 1))) _ _ ht]
              exact it (vm_alls (p := fun u_ => sp_ch (I 159 j) k < sp_ch (I 159 ((vr_or (I 159) (I 161) x k j).1 (((vr_or (I 159) (I 161) x k j).2) - u_ - 1))) k) pt (vm_nle_g c4))
        · show vm_J _ _ _ (31, (0, 0), [.ref 152, .int x, .int k, .int (nI ((vr_or (I 159) (I 161) x k j).2)), .int (nI j), .int (nI (((vr_or (I 159) (I 161) x k j).2) - ((vr_or (I 159) (I 161) x k j).2)))], []) (G, (vm_wq (vm_wr I 162 (fun p_ => nI ((vr_or (I 159) (I 161) x k j).1 p_)) ((vr_or (I 159) (I 161) x k j).2)) 162 (fun p_ => nI ((vr_or (I 159) (I 161) x k j).1 (p_ - 1))) (((vr_or (I 159) (I 161) x k j).2) - ((vr_or (I 159) (I 161) x k j).2) + 1) ((vr_or (I 159) (I 161) x k j).2)), F) _ _
          refine vm_J.go vm_q203 (k := 2) (hs := []) (f' := (bif vm_ic .le (nI (((vr_or (I 159) (I 161) x k j).2) - ((vr_or (I 159) (I 161) x k j).2))) 0 then 90 else 36, (0, 0), [.ref 152, .int x, .int k, .int (nI ((vr_or (I 159) (I 161) x k j).2)), .int (nI j), .int (nI (((vr_or (I 159) (I 161) x k j).2) - ((vr_or (I 159) (I 161) x k j).2)))], [])) (h' := (G, (vm_wq (vm_wr I 162 (fun p_ => nI ((vr_or (I 159) (I 161) x k j).1 p_)) ((vr_or (I 159) (I 161) x k j).2)) 162 (fun p_ => nI ((vr_or (I 159) (I 161) x k j).1 (p_ - 1))) (((vr_or (I 159) (I 161) x k j).2) - ((vr_or (I 159) (I 161) x k j).2) + 1) ((vr_or (I 159) (I 161) x k j).2)), F)) (hs' := []) rfl rfl ?_
          refine vm_J.br (fun c5 => ?_) (fun c5 => ?_)
          · have c5 := vm_le_t (a := ((vr_or (I 159) (I 161) x k j).2) - ((vr_or (I 159) (I 161) x k j).2)) (b := 0) (by omega) (by omega) c5
            refine vm_J.go vm_q203 (k := 8) (hs := [vm_shR, (0, 144, [])]) (f' := (5, (0, 0), [.ref 152, .int x, .int k, .int ((nI ((vr_or (I 159) (I 161) x k j).2)) + 1), .int ((nI j) + 1), .int (nI (((vr_or (I 159) (I 161) x k j).2) - ((vr_or (I 159) (I 161) x k j).2)))], [])) (h' := (G, (vm_up (vm_wq (vm_wr I 162 (fun p_ => nI ((vr_or (I 159) (I 161) x k j).1 p_)) ((vr_or (I 159) (I 161) x k j).2)) 162 (fun p_ => nI ((vr_or (I 159) (I 161) x k j).1 (p_ - 1))) (((vr_or (I 159) (I 161) x k j).2) - ((vr_or (I 159) (I 161) x k j).2) + 1) ((vr_or (I 159) (I 161) x k j).2)) 162 ((nI (((vr_or (I 159) (I 161) x k j).2) - ((vr_or (I 159) (I 161) x k j).2))).toNatClampNeg) (nI j)), F)) (hs' := []) rfl (vm_b2 rfl (vm_b2 (vm_b2 (vm_hG hR.c152) rfl) (vm_b2 rfl (vm_b2 rfl (vm_b2 (vm_b2 (vm_hG hR.c162) (vm_in_e (j := ((vr_or (I 159) (I 161) x k j).2) - ((vr_or (I 159) (I 161) x k j).2)) (n := 144) rfl (by omega) (by omega))) (vm_b2 rfl (vm_b2 rfl (vm_b2 rfl rfl)))))))) ?_
            rw [vm_ix_e (j := ((vr_or (I 159) (I 161) x k j).2) - ((vr_or (I 159) (I 161) x k j).2)) rfl (by omega), ((vm_pa (rfl : nI ((vr_or (I 159) (I 161) x k j).2) = nI ((vr_or (I 159) (I 161) x k j).2)) (rfl : (1 : Int32) = nI 1)) : (nI ((vr_or (I 159) (I 161) x k j).2)) + 1 = nI (((vr_or (I 159) (I 161) x k j).2) + 1)), ((vm_pa (rfl : nI j = nI j) (rfl : (1 : Int32) = nI 1)) : (nI j) + 1 = nI (j + 1))]
            refine vm_J.mask [true, true, true, true, true, false] ?_
            show vm_J _ _ _ (5, (0, 0), [.ref 152, .int x, .int k, .int (nI (((vr_or (I 159) (I 161) x k j).2) + 1)), .int (nI (j + 1)), .retAddr 0], []) (G, (vm_up (vm_wq (vm_wr I 162 (fun p_ => nI ((vr_or (I 159) (I 161) x k j).1 p_)) ((vr_or (I 159) (I 161) x k j).2)) 162 (fun p_ => nI ((vr_or (I 159) (I 161) x k j).1 (p_ - 1))) (((vr_or (I 159) (I 161) x k j).2) - ((vr_or (I 159) (I 161) x k j).2) + 1) ((vr_or (I 159) (I 161) x k j).2)) 162 ((((vr_or (I 159) (I 161) x k j).2) - ((vr_or (I 159) (I 161) x k j).2))) (nI j)), F) _ _
            have z := ij trivial
            obtain ⟨y1, y2⟩ := vr_oH_y c2 (vr_os_0 pt) (Nat.le_refl _)
            rw [y1, y2] at z
            exact z
          · have c5 := vm_le_f (a := ((vr_or (I 159) (I 161) x k j).2) - ((vr_or (I 159) (I 161) x k j).2)) (b := 0) (by omega) (by omega) c5
            exact (show False by omega).elim
      · have c2 : ¬ ((I 161 j) = x) := of_decide_eq_false c2
        refine vm_J.go vm_q203 (k := 3) (hs := []) (f' := (5, (0, 0), [.ref 152, .int x, .int k, .int (nI ((vr_or (I 159) (I 161) x k j).2)), .int ((nI j) + 1), .retAddr 0], [])) (h' := (G, (vr_oH I x k j), F)) (hs' := []) rfl rfl ?_
        rw [((vm_pa (rfl : nI j = nI j) (rfl : (1 : Int32) = nI 1)) : (nI j) + 1 = nI (j + 1))]
        have z := ij trivial
        rw [vr_oH_n c2, vr_or_n c2] at z
        exact z
  · show vm_J _ _ _ (5, (0, 0), [.ref 152, .int x, .int k, .int (nI ((vr_or (I 159) (I 161) x k n).2)), .int (nI n), .retAddr 0], []) (G, (vr_oH I x k n), F) _ _
    refine vm_J.go vm_q203 (k := 3) (hs := [vm_shR]) (f' := (11, (0, 0), [.ref 152, .int x, .int k, .int (nI ((vr_or (I 159) (I 161) x k n).2)), .int (nI n), .retAddr 0], [.int ((vr_oH I x k n) 152 14), .int (nI n)])) (h' := (G, (vr_oH I x k n), F)) (hs' := []) rfl (vm_b2 rfl (vm_b2 rfl (vm_b2 (vm_b2 (vm_hG hR.c152) rfl) rfl))) ?_
    rw [((Eq.trans (congrFun (vr_oH_o _ _ _ _ 152 (by decide)) 14) hn) : (vr_oH I x k n) 152 14 = nI n)]
    refine vm_J.go vm_q203 (k := 1) (hs := []) (f' := (bif vm_ic .ge (nI n) (nI n) then 108 else 14, (0, 0), [.ref 152, .int x, .int k, .int (nI ((vr_or (I 159) (I 161) x k n).2)), .int (nI n), .retAddr 0], [])) (h' := (G, (vr_oH I x k n), F)) (hs' := []) rfl rfl ?_
    refine vm_J.br (fun c6 => ?_) (fun c6 => ?_)
    · have c6 := vm_ge_t (a := n) (b := n) (by omega) (by omega) c6
      refine vm_J.go vm_q203 (k := 1) (hs := []) (f' := (109, (0, 0), [.ref 152, .int x, .int k, .int (nI ((vr_or (I 159) (I 161) x k n).2)), .int (nI n), .retAddr 0], [.int (nI ((vr_or (I 159) (I 161) x k n).2))])) (h' := (G, (vr_oH I x k n), F)) (hs' := []) rfl rfl ?_
      exact vm_J.end vm_q203 (en := (109, .ireturn, 1, [], .null)) rfl rfl vm_rI (Nat.zero_le _) (Nat.zero_le _) rfl
    · have c6 := vm_ge_f (a := n) (b := n) (by omega) (by omega) c6
      exact (show False by omega).elim
