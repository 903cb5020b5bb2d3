/-- one box ahead of another: by its span, its pixels, its least colour -/
abbrev sp_ia (s p l s2 p2 l2 : Int32) : Prop := (¬ s = s2 ∧ s2 < s) ∨ (s = s2 ∧ ((¬ p = p2 ∧ p2 < p) ∨ (p = p2 ∧ l < l2)))
set_option maxHeartbeats 4000000 in
set_option maxRecDepth 20000 in
/-- DitherDesk$Cutter.isAhead  -/
theorem m_isAhead {l : Launch} {X : vm_Cx} {G : List vm_Sh} {I : Nat → Nat → Int32} {F : Nat → Nat → UInt32} {b d : Nat} (hb : G[b]? = some (2, 6, [.int 0, .int 0, .int 0, .int 0, .int 0, .int 0])) (hd : G[d]? = some (2, 6, [.int 0, .int 0, .int 0, .int 0, .int 0, .int 0])) : vm_K l X vm_M12 [.ref b, .ref d] (G, I, F) (some (.int (vm_bi (sp_ia (I b 4) (I b 2) (I b 5) (I d 4) (I d 2) (I d 5))))) (G, I, F) := by
  refine vm_K.mk (by decide) (Nat.le_of_ble_eq_true rfl) ?_
  show vm_J _ _ _ (0, (0, 0), [.ref b, .ref d], []) _ _ _
  refine vm_J.go vm_q12 (k := 5) (hs := [(2, 6, [.int 0, .int 0, .int 0, .int 0, .int 0, .int 0]), (2, 6, [.int 0, .int 0, .int 0, .int 0, .int 0, .int 0])]) (f' := (bif vm_ic .eq (I b 4) (I d 4) then 28 else 11, (0, 0), [.ref b, .ref d], [])) (h' := (G, I, F)) (hs' := []) rfl (vm_b2 rfl (vm_b2 (vm_b2 (vm_hG hb) rfl) (vm_b2 rfl (vm_b2 (vm_b2 (vm_hG hd) rfl) (vm_b2 rfl rfl))))) ?_
  refine vm_J.br (fun c1 => ?_) (fun c1 => ?_)
  · have c1 : (I b 4) = (I d 4) := of_decide_eq_true c1
    refine vm_J.go vm_q12 (k := 5) (hs := [(2, 6, [.int 0, .int 0, .int 0, .int 0, .int 0, .int 0]), (2, 6, [.int 0, .int 0, .int 0, .int 0, .int 0, .int 0])]) (f' := (bif vm_ic .eq (I b 2) (I d 2) then 58 else 39, (0, 0), [.ref b, .ref d], [])) (h' := (G, I, F)) (hs' := []) rfl (vm_b2 rfl (vm_b2 (vm_b2 (vm_hG hb) rfl) (vm_b2 rfl (vm_b2 (vm_b2 (vm_hG hd) rfl) (vm_b2 rfl rfl))))) ?_
    refine vm_J.br (fun c2 => ?_) (fun c2 => ?_)
    · have c2 : (I b 2) = (I d 2) := of_decide_eq_true c2
      refine vm_J.go vm_q12 (k := 5) (hs := [(2, 6, [.int 0, .int 0, .int 0, .int 0, .int 0, .int 0]), (2, 6, [.int 0, .int 0, .int 0, .int 0, .int 0, .int 0])]) (f' := (bif vm_ic .ge (I b 5) (I d 5) then 73 else 69, (0, 0), [.ref b, .ref d], [])) (h' := (G, I, F)) (hs' := []) rfl (vm_b2 rfl (vm_b2 (vm_b2 (vm_hG hb) rfl) (vm_b2 rfl (vm_b2 (vm_b2 (vm_hG hd) rfl) (vm_b2 rfl rfl))))) ?_
      refine vm_J.br (fun c3 => ?_) (fun c3 => ?_)
      · have c3 : (I d 5) ≤ (I b 5) := of_decide_eq_true c3
        refine vm_J.go vm_q12 (k := 1) (hs := []) (f' := (74, (0, 0), [.ref b, .ref d], [.int 0])) (h' := (G, I, F)) (hs' := []) rfl rfl ?_
        exact vm_J.end vm_q12 (en := (74, .ireturn, 1, [], .null)) rfl (by rw [vm_bi_f (fun z => z.elim (fun z => z.1 c1) (fun z => z.2.elim (fun z => z.1 c2) (fun z => vm_le_ng c3 z.2)))]; rfl) (vm_rZ vm_bi_01) (Nat.zero_le _) (Nat.zero_le _) rfl
      · have c3 : ¬ ((I d 5) ≤ (I b 5)) := of_decide_eq_false c3
        refine vm_J.go vm_q12 (k := 2) (hs := []) (f' := (74, (0, 0), [.ref b, .ref d], [.int 1])) (h' := (G, I, F)) (hs' := []) rfl rfl ?_
        exact vm_J.end vm_q12 (en := (74, .ireturn, 1, [], .null)) rfl (by rw [vm_bi_t (Or.inr ⟨c1, Or.inr ⟨c2, vm_nle_g c3⟩⟩)]; rfl) (vm_rZ vm_bi_01) (Nat.zero_le _) (Nat.zero_le _) rfl
    · have c2 : ¬ ((I b 2) = (I d 2)) := of_decide_eq_false c2
      refine vm_J.go vm_q12 (k := 5) (hs := [(2, 6, [.int 0, .int 0, .int 0, .int 0, .int 0, .int 0]), (2, 6, [.int 0, .int 0, .int 0, .int 0, .int 0, .int 0])]) (f' := (bif vm_ic .le (I b 2) (I d 2) then 54 else 50, (0, 0), [.ref b, .ref d], [])) (h' := (G, I, F)) (hs' := []) rfl (vm_b2 rfl (vm_b2 (vm_b2 (vm_hG hb) rfl) (vm_b2 rfl (vm_b2 (vm_b2 (vm_hG hd) rfl) (vm_b2 rfl rfl))))) ?_
      refine vm_J.br (fun c4 => ?_) (fun c4 => ?_)
      · have c4 : (I b 2) ≤ (I d 2) := of_decide_eq_true c4
        refine vm_J.go vm_q12 (k := 2) (hs := []) (f' := (74, (0, 0), [.ref b, .ref d], [.int 0])) (h' := (G, I, F)) (hs' := []) rfl rfl ?_
        exact vm_J.end vm_q12 (en := (74, .ireturn, 1, [], .null)) rfl (by rw [vm_bi_f (fun z => z.elim (fun z => z.1 c1) (fun z => z.2.elim (fun z => vm_le_ng c4 z.2) (fun z => c2 z.1)))]; rfl) (vm_rZ vm_bi_01) (Nat.zero_le _) (Nat.zero_le _) rfl
      · have c4 : ¬ ((I b 2) ≤ (I d 2)) := of_decide_eq_false c4
        refine vm_J.go vm_q12 (k := 2) (hs := []) (f' := (74, (0, 0), [.ref b, .ref d], [.int 1])) (h' := (G, I, F)) (hs' := []) rfl rfl ?_
        exact vm_J.end vm_q12 (en := (74, .ireturn, 1, [], .null)) rfl (by rw [vm_bi_t (Or.inr ⟨c1, Or.inl ⟨c2, vm_nle_g c4⟩⟩)]; rfl) (vm_rZ vm_bi_01) (Nat.zero_le _) (Nat.zero_le _) rfl
  · have c1 : ¬ ((I b 4) = (I d 4)) := of_decide_eq_false c1
    refine vm_J.go vm_q12 (k := 5) (hs := [(2, 6, [.int 0, .int 0, .int 0, .int 0, .int 0, .int 0]), (2, 6, [.int 0, .int 0, .int 0, .int 0, .int 0, .int 0])]) (f' := (bif vm_ic .le (I b 4) (I d 4) then 26 else 22, (0, 0), [.ref b, .ref d], [])) (h' := (G, I, F)) (hs' := []) rfl (vm_b2 rfl (vm_b2 (vm_b2 (vm_hG hb) rfl) (vm_b2 rfl (vm_b2 (vm_b2 (vm_hG hd) rfl) (vm_b2 rfl rfl))))) ?_
    refine vm_J.br (fun c5 => ?_) (fun c5 => ?_)
    · have c5 : (I b 4) ≤ (I d 4) := of_decide_eq_true c5
      refine vm_J.go vm_q12 (k := 1) (hs := []) (f' := (27, (0, 0), [.ref b, .ref d], [.int 0])) (h' := (G, I, F)) (hs' := []) rfl rfl ?_
      exact vm_J.end vm_q12 (en := (27, .ireturn, 1, [], .null)) rfl (by rw [vm_bi_f (fun z => z.elim (fun z => vm_le_ng c5 z.2) (fun z => c1 z.1))]; rfl) (vm_rZ vm_bi_01) (Nat.zero_le _) (Nat.zero_le _) rfl
    · have c5 : ¬ ((I b 4) ≤ (I d 4)) := of_decide_eq_false c5
      refine vm_J.go vm_q12 (k := 2) (hs := []) (f' := (27, (0, 0), [.ref b, .ref d], [.int 1])) (h' := (G, I, F)) (hs' := []) rfl rfl ?_
      exact vm_J.end vm_q12 (en := (27, .ireturn, 1, [], .null)) rfl (by rw [vm_bi_t (Or.inl ⟨c1, vm_nle_g c5⟩)]; rfl) (vm_rZ vm_bi_01) (Nat.zero_le _) (Nat.zero_le _) rfl
/-- a box is measured -/
def sp_spn (I : Nat → Nat → Int32) (C x n : Nat) (k : Int32) : Int32 := sp_hi (fun i => sp_ch (I (C + 1) i) k) x n - sp_lo (fun i => sp_ch (I (C + 1) i) k) x n
def vm_ms (I : Nat → Nat → Int32) (C b x n : Nat) : Nat → Nat → Nat → Int32
  | 0 => vm_up I b 4 (-1)
  | c + 1 => if vm_ms I C b x n c b 4 < sp_spn I C x n (nI c) then vm_up (vm_up (vm_ms I C b x n c) b 4 (sp_spn I C x n (nI c))) b 3 (nI c) else vm_ms I C b x n c
theorem vm_ms_o (I : Nat → Nat → Int32) (C b x n a : Nat) (h : a ≠ b) (k : Nat) : ∀ c, vm_ms I C b x n c a k = I a k
  | 0 => vm_up_o2 _ _ _ _ _ _ h
  | c + 1 => by
    unfold vm_ms
    split
    · rw [vm_up_o2 _ _ _ _ _ _ h, vm_up_o2 _ _ _ _ _ _ h]
      exact vm_ms_o I C b x n a h k c
    · exact vm_ms_o I C b x n a h k c
theorem vm_ms_k (I : Nat → Nat → Int32) (C b x n k : Nat) (h1 : k ≠ 4) (h2 : k ≠ 3) : ∀ c, vm_ms I C b x n c b k = I b k
  | 0 => vm_up_k2 _ _ _ _ _ h1
  | c + 1 => by
    unfold vm_ms
    split
    · rw [vm_up_k2 _ _ _ _ _ h2, vm_up_k2 _ _ _ _ _ h1]
      exact vm_ms_k I C b x n k h1 h2 c
    · exact vm_ms_k I C b x n k h1 h2 c
def vm_mu1 (K : Nat → Nat → Int32) (b : Nat) (p l : Int32) : Nat → Nat → Int32 := vm_up (vm_up K b 2 (K b 2 + p)) b 5 (sp_mn (vm_up K b 2 (K b 2 + p) b 5) l)
def vm_mu (J : Nat → Nat → Int32) (C b x : Nat) : Nat → Nat → Nat → Int32
  | 0 => vm_up (vm_up J b 2 0) b 5 262143
  | j + 1 => vm_mu1 (vm_mu J C b x j) b (J (C + 2) (x + j)) (J (C + 1) (x + j))
theorem vm_mu_o (J : Nat → Nat → Int32) (C b x a : Nat) (h : a ≠ b) (k : Nat) : ∀ j, vm_mu J C b x j a k = J a k
  | 0 => (vm_up_o2 _ _ _ _ _ _ h).trans (vm_up_o2 _ _ _ _ _ _ h)
  | j + 1 => (vm_up_o2 _ _ _ _ _ _ h).trans ((vm_up_o2 _ _ _ _ _ _ h).trans (vm_mu_o J C b x a h k j))
theorem vm_mu_k (J : Nat → Nat → Int32) (C b x k : Nat) (h1 : k ≠ 2) (h2 : k ≠ 5) : ∀ j, vm_mu J C b x j b k = J b k
  | 0 => (vm_up_k2 _ _ _ _ _ h2).trans (vm_up_k2 _ _ _ _ _ h1)
  | j + 1 => (vm_up_k2 _ _ _ _ _ h2).trans ((vm_up_k2 _ _ _ _ _ h1).trans (vm_mu_k J C b x k h1 h2 j))
theorem m_Cu_spanOn_f {l : Launch} {X : vm_Cx} {G : List vm_Sh} {I : Nat → Nat → Int32} {F : Nat → Nat → UInt32} {C b x y : Nat} {k : Int32} {f : Nat → Int32} (hC : vm_isC G C) (hb : G[b]? = some (2, 6, [.int 0, .int 0, .int 0, .int 0, .int 0, .int 0])) (hx : I b 0 = nI x) (hy : I b 1 = nI y) (hxy : x ≤ y) (hy2 : y ≤ 144) (hf : I (C + 1) = f) : vm_K l X vm_M10 [.ref C, .ref b, .int k] (G, I, F) (some (.int (sp_hi (fun i => sp_ch (f i) k) x (y - x) - sp_lo (fun i => sp_ch (f i) k) x (y - x)))) (G, I, F) := by
  rw [← hf]
  exact m_Cu_spanOn hC hb hx hy hxy hy2
set_option maxHeartbeats 4000000 in
set_option maxRecDepth 20000 in
/-- DitherDesk$Cutter.measure  -/
theorem m_Cu_measure {l : Launch} {X : vm_Cx} {G : List vm_Sh} {I : Nat → Nat → Int32} {F : Nat → Nat → UInt32} {C b x y : Nat} (hC : vm_isC G C) (hb : G[b]? = some (2, 6, [.int 0, .int 0, .int 0, .int 0, .int 0, .int 0])) (hx : I b 0 = nI x) (hy : I b 1 = nI y) (hxy : x ≤ y) (hy2 : y ≤ 144) (hb1 : b ≠ C + 1) (hb2 : b ≠ C + 2) : vm_K l X vm_M9 [.ref C, .ref b] (G, I, F) (none) (G, (vm_mu (vm_ms I C b x (y - x) 3) C b x (y - x)), F) := by
  refine vm_K.mk (by decide) (Nat.le_of_ble_eq_true rfl) ?_
  show vm_J _ _ _ (0, (0, 0), [.ref C, .ref b, .retAddr 0, .retAddr 0], []) _ _ _
  refine vm_J.go vm_q9 (k := 5) (hs := [(2, 6, [.int 0, .int 0, .int 0, .int 0, .int 0, .int 0])]) (f' := (7, (0, 0), [.ref C, .ref b, .int 0, .retAddr 0], [])) (h' := (G, (vm_up I b 4 (-1)), F)) (hs' := []) rfl (vm_b2 rfl (vm_b2 rfl (vm_b2 (vm_b2 (vm_b2 (vm_hG hb) rfl) rfl) (vm_b2 rfl (vm_b2 rfl rfl))))) ?_
  refine vm_J.cnt 3 (fun c => (7, (0, 0), [.ref C, .ref b, .int (nI c), .retAddr 0], [])) (fun c => (G, (vm_ms I C b x (y - x) c), F)) (fun _ => True) rfl rfl trivial (fun c hc pc ic => ?_) (fun pc => ?_)
  · show vm_J _ _ _ (7, (0, 0), [.ref C, .ref b, .int (nI c), .retAddr 0], []) (G, (vm_ms I C b x (y - x) c), F) _ _
    refine vm_J.go vm_q9 (k := 3) (hs := []) (f' := (bif vm_ic .ge (nI c) 3 then 43 else 12, (0, 0), [.ref C, .ref b, .int (nI c), .retAddr 0], [])) (h' := (G, (vm_ms I C b x (y - x) c), F)) (hs' := []) rfl rfl ?_
    refine vm_J.br (fun c1 => ?_) (fun c1 => ?_)
    · have c1 := vm_ge_t (a := c) (b := 3) (by omega) (by omega) c1
      exact (show False by omega).elim
    · have c1 := vm_ge_f (a := c) (b := 3) (by omega) (by omega) c1
      refine vm_J.go vm_q9 (k := 3) (hs := []) (f' := (15, (0, 0), [.ref C, .ref b, .int (nI c), .retAddr 0], [.int (nI c), .ref b, .ref C])) (h' := (G, (vm_ms I C b x (y - x) c), F)) (hs' := []) rfl rfl ?_
      refine vm_J.call vm_q9 (Z := vm_M10) (n := 2) (k := 0) (mi := 10) (pc := 15) (en := (15, .invokevirtual 90, 3, [10, 570, 0], .null)) rfl trivial rfl rfl vm_z10 (av := [.ref C, .ref b, .int (nI c)]) (rest := []) (m_Cu_spanOn_f (k := nI c) (f := I (C + 1)) hC hb ((vm_ms_k I C b x _ 0 (by decide) (by decide) c).trans hx) ((vm_ms_k I C b x _ 1 (by decide) (by decide) c).trans hy) hxy hy2 (funext fun q => vm_ms_o I C b x _ (C + 1) (Ne.symm hb1) q c)) ⟨_, _, rfl, rfl, _, 1, _, hC.1, rfl, rfl, rfl⟩ (Nat.le_of_ble_eq_true rfl) ⟨Nat.le_of_ble_eq_true rfl, Nat.le_of_ble_eq_true rfl⟩ ⟨Nat.le_of_ble_eq_true rfl, Nat.le_of_ble_eq_true rfl⟩ ?_
      show vm_J _ _ _ (18, (0, 0), [.ref C, .ref b, .int (nI c), .retAddr 0], [.int (sp_spn I C x (y - x) (nI c))]) (G, (vm_ms I C b x (y - x) c), F) _ _
      refine vm_J.go vm_q9 (k := 5) (hs := [(2, 6, [.int 0, .int 0, .int 0, .int 0, .int 0, .int 0])]) (f' := (bif vm_ic .le (sp_spn I C x (y - x) (nI c)) ((vm_ms I C b x (y - x) c) b 4) then 37 else 27, (0, 0), [.ref C, .ref b, .int (nI c), .int (sp_spn I C x (y - x) (nI c))], [])) (h' := (G, (vm_ms I C b x (y - x) c), F)) (hs' := []) rfl (vm_b2 rfl (vm_b2 rfl (vm_b2 rfl (vm_b2 (vm_b2 (vm_hG hb) rfl) (vm_b2 rfl rfl))))) ?_
      refine vm_J.br (fun c2 => ?_) (fun c2 => ?_)
      · have c2 : (sp_spn I C x (y - x) (nI c)) ≤ ((vm_ms I C b x (y - x) c) b 4) := of_decide_eq_true c2
        refine vm_J.go vm_q9 (k := 2) (hs := []) (f' := (7, (0, 0), [.ref C, .ref b, .int ((nI c) + 1), .int (sp_spn I C x (y - x) (nI c))], [])) (h' := (G, (vm_ms I C b x (y - x) c), F)) (hs' := []) rfl rfl ?_
        rw [((vm_pa (rfl : nI c = nI c) (rfl : (1 : Int32) = nI 1)) : (nI c) + 1 = nI (c + 1))]
        refine vm_J.mask [true, true, true, false] ?_
        show vm_J _ _ _ (7, (0, 0), [.ref C, .ref b, .int (nI (c + 1)), .retAddr 0], []) (G, (vm_ms I C b x (y - x) c), F) _ _
        have z := ic trivial
        rw [show (vm_ms I C b x (y - x) (c + 1)) = _ from if_neg (vm_le_ng c2)] at z
        exact z
      · have c2 : ¬ ((sp_spn I C x (y - x) (nI c)) ≤ ((vm_ms I C b x (y - x) c) b 4)) := of_decide_eq_false c2
        refine vm_J.go vm_q9 (k := 8) (hs := [(2, 6, [.int 0, .int 0, .int 0, .int 0, .int 0, .int 0]), (2, 6, [.int 0, .int 0, .int 0, .int 0, .int 0, .int 0])]) (f' := (7, (0, 0), [.ref C, .ref b, .int ((nI c) + 1), .int (sp_spn I C x (y - x) (nI c))], [])) (h' := (G, (vm_up (vm_up (vm_ms I C b x (y - x) c) b 4 (sp_spn I C x (y - x) (nI c))) b 3 (nI c)), F)) (hs' := []) rfl (vm_b2 rfl (vm_b2 rfl (vm_b2 (vm_b2 (vm_b2 (vm_hG hb) rfl) rfl) (vm_b2 rfl (vm_b2 rfl (vm_b2 (vm_b2 (vm_b2 (vm_hG hb) rfl) rfl) (vm_b2 rfl (vm_b2 rfl rfl)))))))) ?_
        rw [((vm_pa (rfl : nI c = nI c) (rfl : (1 : Int32) = nI 1)) : (nI c) + 1 = nI (c + 1))]
        refine vm_J.mask [true, true, true, false] ?_
        show vm_J _ _ _ (7, (0, 0), [.ref C, .ref b, .int (nI (c + 1)), .retAddr 0], []) (G, (vm_up (vm_up (vm_ms I C b x (y - x) c) b 4 (sp_spn I C x (y - x) (nI c))) b 3 (nI c)), F) _ _
        have z := ic trivial
        rw [show (vm_ms I C b x (y - x) (c + 1)) = _ from if_pos (vm_nle_g c2)] at z
        exact z
  · show vm_J _ _ _ (7, (0, 0), [.ref C, .ref b, .int (nI 3), .retAddr 0], []) (G, (vm_ms I C b x (y - x) 3), F) _ _
    refine vm_J.go vm_q9 (k := 3) (hs := []) (f' := (bif vm_ic .ge (nI 3) 3 then 43 else 12, (0, 0), [.ref C, .ref b, .int (nI 3), .retAddr 0], [])) (h' := (G, (vm_ms I C b x (y - x) 3), F)) (hs' := []) rfl rfl ?_
    refine vm_J.br (fun c3 => ?_) (fun c3 => ?_)
    · have c3 := vm_ge_t (a := 3) (b := 3) (by omega) (by omega) c3
      refine vm_J.go vm_q9 (k := 9) (hs := [(2, 6, [.int 0, .int 0, .int 0, .int 0, .int 0, .int 0]), (2, 6, [.int 0, .int 0, .int 0, .int 0, .int 0, .int 0]), (2, 6, [.int 0, .int 0, .int 0, .int 0, .int 0, .int 0])]) (f' := (59, (0, 0), [.ref C, .ref b, .int ((vm_up (vm_up (vm_ms I C b x (y - x) 3) b 2 0) b 5 262143) b 0), .retAddr 0], [])) (h' := (G, (vm_up (vm_up (vm_ms I C b x (y - x) 3) b 2 0) b 5 262143), F)) (hs' := []) rfl (vm_b2 rfl (vm_b2 rfl (vm_b2 (vm_b2 (vm_b2 (vm_hG hb) rfl) rfl) (vm_b2 rfl (vm_b2 rfl (vm_b2 (vm_b2 (vm_b2 (vm_hG hb) rfl) rfl) (vm_b2 rfl (vm_b2 (vm_b2 (vm_hG hb) rfl) (vm_b2 rfl rfl))))))))) ?_
      rw [(((vm_up_k2 _ b 5 _ 0 (by decide)).trans ((vm_up_k2 _ b 2 _ 0 (by decide)).trans ((vm_ms_k I C b x _ 0 (by decide) (by decide) 3).trans hx))) : (vm_up (vm_up (vm_ms I C b x (y - x) 3) b 2 0) b 5 262143) b 0 = nI x)]
      refine vm_J.cnt (y - x) (fun j => (59, (0, 0), [.ref C, .ref b, .int (nI (x + j)), .retAddr 0], [])) (fun j => (G, (vm_mu (vm_ms I C b x (y - x) 3) C b x j), F)) (fun _ => True) rfl rfl trivial (fun j hj pj ij => ?_) (fun pj => ?_)
      · show vm_J _ _ _ (59, (0, 0), [.ref C, .ref b, .int (nI (x + j)), .retAddr 0], []) (G, (vm_mu (vm_ms I C b x (y - x) 3) C b x j), F) _ _
        refine vm_J.go vm_q9 (k := 4) (hs := [(2, 6, [.int 0, .int 0, .int 0, .int 0, .int 0, .int 0])]) (f' := (bif vm_ic .ge (nI (x + j)) ((vm_mu (vm_ms I C b x (y - x) 3) C b x j) b 1) then 109 else 67, (0, 0), [.ref C, .ref b, .int (nI (x + j)), .retAddr 0], [])) (h' := (G, (vm_mu (vm_ms I C b x (y - x) 3) C b x j), F)) (hs' := []) rfl (vm_b2 rfl (vm_b2 rfl (vm_b2 (vm_b2 (vm_hG hb) rfl) (vm_b2 rfl rfl)))) ?_
        refine vm_J.br (fun c4 => ?_) (fun c4 => ?_)
        · rw [(((vm_mu_k _ C b x 1 (by decide) (by decide) j).trans ((vm_ms_k I C b x _ 1 (by decide) (by decide) 3).trans hy)) : (vm_mu (vm_ms I C b x (y - x) 3) C b x j) b 1 = nI y)] at c4
          have c4 := vm_ge_t (a := x + j) (b := y) (by omega) (by omega) c4
          exact (show False by omega).elim
        · rw [(((vm_mu_k _ C b x 1 (by decide) (by decide) j).trans ((vm_ms_k I C b x _ 1 (by decide) (by decide) 3).trans hy)) : (vm_mu (vm_ms I C b x (y - x) 3) C b x j) b 1 = nI y)] at c4
          have c4 := vm_ge_f (a := x + j) (b := y) (by omega) (by omega) c4
          refine vm_J.go vm_q9 (k := 6) (hs := [(2, 6, [.int 0, .int 0, .int 0, .int 0, .int 0, .int 0]), (3, 5, [.ref (C + 1), .ref (C + 2), .int 0, .ref (C + 3), .int 0])]) (f' := (77, (0, 0), [.ref C, .ref b, .int (nI (x + j)), .retAddr 0], [.int (nI (x + j)), .ref (C + 2), .int ((vm_mu (vm_ms I C b x (y - x) 3) C b x j) b 2), .ref b])) (h' := (G, (vm_mu (vm_ms I C b x (y - x) 3) C b x j), F)) (hs' := []) rfl (vm_b2 rfl (vm_b2 rfl (vm_b2 (vm_b2 (vm_hG hb) rfl) (vm_b2 rfl (vm_b2 (vm_b2 (vm_hG hC.1) rfl) (vm_b2 rfl rfl)))))) ?_
          refine vm_J.call vm_q9 (Z := vm_M152) (n := 2) (k := 1) (mi := 152) (pc := 77) (en := (77, .invokestatic 35, 3, [152, 505, 1], .null)) rfl trivial rfl rfl vm_z152 (av := [.ref (C + 2), .int (nI (x + j))]) (rest := [.int ((vm_mu (vm_ms I C b x (y - x) 3) C b x j) b 2), .ref b]) (m_at_v (j := x + j) (v := ((vm_ms I C b x (y - x) 3) (C + 2)) (x + j)) hC.2.2.1 (by omega) (by omega) ((fun k => vm_mu_o _ C b x (C + 2) (Ne.symm hb2) k j) (x + j))) rfl (Nat.le_of_ble_eq_true rfl) ⟨Nat.le_of_ble_eq_true rfl, Nat.le_of_ble_eq_true rfl⟩ ⟨Nat.le_of_ble_eq_true rfl, Nat.le_of_ble_eq_true rfl⟩ ?_
          show vm_J _ _ _ (80, (0, 0), [.ref C, .ref b, .int (nI (x + j)), .retAddr 0], [.int (((vm_ms I C b x (y - x) 3) (C + 2)) (x + j)), .int ((vm_mu (vm_ms I C b x (y - x) 3) C b x j) b 2), .ref b]) (G, (vm_mu (vm_ms I C b x (y - x) 3) C b x j), F) _ _
          refine vm_J.go vm_q9 (k := 8) (hs := [(2, 6, [.int 0, .int 0, .int 0, .int 0, .int 0, .int 0]), (2, 6, [.int 0, .int 0, .int 0, .int 0, .int 0, .int 0]), (3, 5, [.ref (C + 1), .ref (C + 2), .int 0, .ref (C + 3), .int 0])]) (f' := (94, (0, 0), [.ref C, .ref b, .int (nI (x + j)), .retAddr 0], [.int (nI (x + j)), .ref (C + 1), .int ((vm_up (vm_mu (vm_ms I C b x (y - x) 3) C b x j) b 2 (((vm_mu (vm_ms I C b x (y - x) 3) C b x j) b 2) + (((vm_ms I C b x (y - x) 3) (C + 2)) (x + j)))) b 5), .ref b])) (h' := (G, (vm_up (vm_mu (vm_ms I C b x (y - x) 3) C b x j) b 2 (((vm_mu (vm_ms I C b x (y - x) 3) C b x j) b 2) + (((vm_ms I C b x (y - x) 3) (C + 2)) (x + j)))), F)) (hs' := []) rfl (vm_b2 rfl (vm_b2 (vm_b2 (vm_b2 (vm_hG hb) rfl) rfl) (vm_b2 rfl (vm_b2 rfl (vm_b2 (vm_b2 (vm_hG hb) rfl) (vm_b2 rfl (vm_b2 (vm_b2 (vm_hG hC.1) rfl) (vm_b2 rfl rfl)))))))) ?_
          refine vm_J.call vm_q9 (Z := vm_M152) (n := 2) (k := 1) (mi := 152) (pc := 94) (en := (94, .invokestatic 35, 3, [152, 505, 1], .null)) rfl trivial rfl rfl vm_z152 (av := [.ref (C + 1), .int (nI (x + j))]) (rest := [.int ((vm_up (vm_mu (vm_ms I C b x (y - x) 3) C b x j) b 2 (((vm_mu (vm_ms I C b x (y - x) 3) C b x j) b 2) + (((vm_ms I C b x (y - x) 3) (C + 2)) (x + j)))) b 5), .ref b]) (m_at_v (j := x + j) (v := ((vm_ms I C b x (y - x) 3) (C + 1)) (x + j)) hC.2.1 (by omega) (by omega) ((fun q => (vm_up_o2 _ b _ _ (C + 1) q (Ne.symm hb1)).trans ((fun k => vm_mu_o _ C b x (C + 1) (Ne.symm hb1) k j) q)) (x + j))) rfl (Nat.le_of_ble_eq_true rfl) ⟨Nat.le_of_ble_eq_true rfl, Nat.le_of_ble_eq_true rfl⟩ ⟨Nat.le_of_ble_eq_true rfl, Nat.le_of_ble_eq_true rfl⟩ ?_
          show vm_J _ _ _ (97, (0, 0), [.ref C, .ref b, .int (nI (x + j)), .retAddr 0], [.int (((vm_ms I C b x (y - x) 3) (C + 1)) (x + j)), .int ((vm_up (vm_mu (vm_ms I C b x (y - x) 3) C b x j) b 2 (((vm_mu (vm_ms I C b x (y - x) 3) C b x j) b 2) + (((vm_ms I C b x (y - x) 3) (C + 2)) (x + j)))) b 5), .ref b]) (G, (vm_up (vm_mu (vm_ms I C b x (y - x) 3) C b x j) b 2 (((vm_mu (vm_ms I C b x (y - x) 3) C b x j) b 2) + (((vm_ms I C b x (y - x) 3) (C + 2)) (x + j)))), F) _ _
          refine vm_J.call vm_q9 (Z := vm_M300) (n := 2) (k := 1) (mi := 300) (pc := 97) (en := (97, .invokestatic 103, 3, [300, 575, 0], .null)) rfl trivial rfl rfl vm_z300 (av := [.int ((vm_up (vm_mu (vm_ms I C b x (y - x) 3) C b x j) b 2 (((vm_mu (vm_ms I C b x (y - x) 3) C b x j) b 2) + (((vm_ms I C b x (y - x) 3) (C + 2)) (x + j)))) b 5), .int (((vm_ms I C b x (y - x) 3) (C + 1)) (x + j))]) (rest := [.ref b]) (j_min (a := (vm_up (vm_mu (vm_ms I C b x (y - x) 3) C b x j) b 2 (((vm_mu (vm_ms I C b x (y - x) 3) C b x j) b 2) + (((vm_ms I C b x (y - x) 3) (C + 2)) (x + j)))) b 5) (b := ((vm_ms I C b x (y - x) 3) (C + 1)) (x + j))) rfl (Nat.le_of_ble_eq_true rfl) ⟨Nat.le_of_ble_eq_true rfl, Nat.le_of_ble_eq_true rfl⟩ ⟨Nat.le_of_ble_eq_true rfl, Nat.le_of_ble_eq_true rfl⟩ ?_
          show vm_J _ _ _ (100, (0, 0), [.ref C, .ref b, .int (nI (x + j)), .retAddr 0], [.int (sp_mn ((vm_up (vm_mu (vm_ms I C b x (y - x) 3) C b x j) b 2 (((vm_mu (vm_ms I C b x (y - x) 3) C b x j) b 2) + (((vm_ms I C b x (y - x) 3) (C + 2)) (x + j)))) b 5) (((vm_ms I C b x (y - x) 3) (C + 1)) (x + j))), .ref b]) (G, (vm_up (vm_mu (vm_ms I C b x (y - x) 3) C b x j) b 2 (((vm_mu (vm_ms I C b x (y - x) 3) C b x j) b 2) + (((vm_ms I C b x (y - x) 3) (C + 2)) (x + j)))), F) _ _
          refine vm_J.go vm_q9 (k := 3) (hs := [(2, 6, [.int 0, .int 0, .int 0, .int 0, .int 0, .int 0])]) (f' := (59, (0, 0), [.ref C, .ref b, .int ((nI (x + j)) + 1), .retAddr 0], [])) (h' := (G, (vm_up (vm_up (vm_mu (vm_ms I C b x (y - x) 3) C b x j) b 2 (((vm_mu (vm_ms I C b x (y - x) 3) C b x j) b 2) + (((vm_ms I C b x (y - x) 3) (C + 2)) (x + j)))) b 5 (sp_mn ((vm_up (vm_mu (vm_ms I C b x (y - x) 3) C b x j) b 2 (((vm_mu (vm_ms I C b x (y - x) 3) C b x j) b 2) + (((vm_ms I C b x (y - x) 3) (C + 2)) (x + j)))) b 5) (((vm_ms I C b x (y - x) 3) (C + 1)) (x + j)))), F)) (hs' := []) rfl (vm_b2 (vm_b2 (vm_b2 (vm_hG hb) rfl) rfl) (vm_b2 rfl (vm_b2 rfl rfl))) ?_
          rw [((vm_pa (rfl : nI (x + j) = nI (x + j)) (rfl : (1 : Int32) = nI 1)) : (nI (x + j)) + 1 = nI (x + j + 1))]
          rw [show (vm_up (vm_up (vm_mu (vm_ms I C b x (y - x) 3) C b x j) b 2 (((vm_mu (vm_ms I C b x (y - x) 3) C b x j) b 2) + (((vm_ms I C b x (y - x) 3) (C + 2)) (x + j)))) b 5 (sp_mn ((vm_up (vm_mu (vm_ms I C b x (y - x) 3) C b x j) b 2 (((vm_mu (vm_ms I C b x (y - x) 3) C b x j) b 2) + (((vm_ms I C b x (y - x) 3) (C + 2)) (x + j)))) b 5) (((vm_ms I C b x (y - x) 3) (C + 1)) (x + j)))) = (vm_mu (vm_ms I C b x (y - x) 3) C b x (j + 1)) from by rfl]
          exact ij trivial
      · show vm_J _ _ _ (59, (0, 0), [.ref C, .ref b, .int (nI (x + (y - x))), .retAddr 0], []) (G, (vm_mu (vm_ms I C b x (y - x) 3) C b x (y - x)), F) _ _
        refine vm_J.go vm_q9 (k := 4) (hs := [(2, 6, [.int 0, .int 0, .int 0, .int 0, .int 0, .int 0])]) (f' := (bif vm_ic .ge (nI (x + (y - x))) ((vm_mu (vm_ms I C b x (y - x) 3) C b x (y - x)) b 1) then 109 else 67, (0, 0), [.ref C, .ref b, .int (nI (x + (y - x))), .retAddr 0], [])) (h' := (G, (vm_mu (vm_ms I C b x (y - x) 3) C b x (y - x)), F)) (hs' := []) rfl (vm_b2 rfl (vm_b2 rfl (vm_b2 (vm_b2 (vm_hG hb) rfl) (vm_b2 rfl rfl)))) ?_
        refine vm_J.br (fun c5 => ?_) (fun c5 => ?_)
        · rw [(((vm_mu_k _ C b x 1 (by decide) (by decide) (y - x)).trans ((vm_ms_k I C b x _ 1 (by decide) (by decide) 3).trans hy)) : (vm_mu (vm_ms I C b x (y - x) 3) C b x (y - x)) b 1 = nI y)] at c5
          have c5 := vm_ge_t (a := x + (y - x)) (b := y) (by omega) (by omega) c5
          exact vm_J.end vm_q9 (en := (109, .return_, 1, [], .null)) rfl rfl vm_rV (Nat.zero_le _) (Nat.zero_le _) rfl
        · rw [(((vm_mu_k _ C b x 1 (by decide) (by decide) (y - x)).trans ((vm_ms_k I C b x _ 1 (by decide) (by decide) 3).trans hy)) : (vm_mu (vm_ms I C b x (y - x) 3) C b x (y - x)) b 1 = nI y)] at c5
          have c5 := vm_ge_f (a := x + (y - x)) (b := y) (by omega) (by omega) c5
          exact (show False by omega).elim
    · have c3 := vm_ge_f (a := 3) (b := 3) (by omega) (by omega) c3
      exact (show False by omega).elim
