theorem vm_div_n {a b : Nat} (ha : a < 2147483648) (hb : b < 2147483648) : nI a / nI b = nI (a / b) := by
  apply Int32.toInt_inj.mp
  have h : a / b < 2147483648 := Nat.lt_of_le_of_lt (Nat.div_le_self _ _) ha
  rw [Int32.toInt_div, nI_toInt ha, nI_toInt hb, nI_toInt h, Int.tdiv_eq_ediv_of_nonneg (Int.natCast_nonneg a), ← Int.natCast_ediv]
  generalize a / b = q at *
  exact Int.bmod_eq_of_le (by omega) (by omega)
theorem vm_ne0 {n : Nat} (h : 0 < n) (h2 : n < 2147483648) : ¬ nI n = 0 := fun e => by
  have e1 := nI_toInt h2
  rw [e] at e1
  have e3 : (0 : Int32).toInt = 0 := rfl
  omega
theorem vm_rem_n {a b : Nat} (ha : a < 2147483648) (hb : b < 2147483648) : nI a - nI a / nI b * nI b = nI (a % b) := by
  rw [vm_div_n ha hb, ← vm_nm]
  have e : nI a = nI (a / b * b) + nI (a % b) := by rw [← vm_na, Nat.div_add_mod']
  rw [e, Int32.add_comm, Int32.add_sub_cancel]
/-- the steps of a division by turns -/
def sp_eu (b a : Nat) : Nat → Nat × Nat
  | 0 => (b, a)
  | j + 1 => ((sp_eu b a j).2, (sp_eu b a j).1 % (sp_eu b a j).2)
def vm_eu (b a j : Nat) : Prop := 0 < (sp_eu b a j).1 ∧ (sp_eu b a j).1 < 2147483648 ∧ (sp_eu b a j).2 < 2147483648 ∧ Nat.gcd (sp_eu b a j).1 (sp_eu b a j).2 = Nat.gcd b a ∧ (sp_eu b a j).1 * (sp_eu b a j).2 * 2 ^ (j - 1) ≤ b * a ∧ (1 ≤ j → (sp_eu b a j).2 < (sp_eu b a j).1)
theorem vm_eu_0 {b a : Nat} (hb : 0 < b) (hb2 : b < 2147483648) (ha : a < 2147483648) : vm_eu b a 0 := ⟨hb, hb2, ha, rfl, Nat.le_of_eq (Nat.mul_one _), fun h => absurd h (by decide)⟩
theorem vm_eu_p {D R : Nat} (hz : ¬ R = 0) (h : R < D) : 2 * (D % R) ≤ D := by
  have h1 : D % R < R := Nat.mod_lt _ (Nat.pos_of_ne_zero hz)
  have h2 := Nat.div_add_mod D R
  have h3 : R * 1 ≤ R * (D / R) := Nat.mul_le_mul_left R (Nat.div_pos (Nat.le_of_lt h) (Nat.pos_of_ne_zero hz))
  omega
theorem vm_eu_s {b a j : Nat} (h : vm_eu b a j) (hr : 0 < (sp_eu b a j).2) : vm_eu b a (j + 1) := by
  obtain ⟨e1, e2, e3, e4, e5, e6⟩ := h
  refine ⟨hr, e3, Nat.lt_of_le_of_lt (Nat.mod_le _ _) e2, ?_, ?_, fun _ => Nat.mod_lt _ hr⟩
  · show Nat.gcd (sp_eu b a j).2 ((sp_eu b a j).1 % (sp_eu b a j).2) = _
    rw [Nat.gcd_comm, ← Nat.gcd_rec, Nat.gcd_comm]
    exact e4
  · show (sp_eu b a j).2 * ((sp_eu b a j).1 % (sp_eu b a j).2) * 2 ^ j ≤ b * a
    generalize hD : (sp_eu b a j).1 = D at *
    generalize hR : (sp_eu b a j).2 = R at *
    cases j with
    | zero =>
      refine Nat.le_trans ?_ e5
      rw [Nat.mul_comm D R]
      exact Nat.mul_le_mul_right _ (Nat.mul_le_mul_left R (Nat.mod_le D R))
    | succ j =>
      have h2 := vm_eu_p (Nat.pos_iff_ne_zero.mp hr) (e6 (by omega))
      refine Nat.le_trans ?_ e5
      rw [Nat.add_sub_cancel, Nat.pow_succ, Nat.mul_comm (2 ^ j) 2, ← Nat.mul_assoc]
      refine Nat.mul_le_mul_right _ ?_
      rw [Nat.mul_assoc, Nat.mul_comm D R, Nat.mul_comm (D % R) 2]
      exact Nat.mul_le_mul_left R h2
theorem vm_eu_e {b a : Nat} (h : vm_eu b a 100) (hb2 : b < 2147483648) (ha : a < 2147483648) : (sp_eu b a 100).2 = 0 := by
  obtain ⟨e1, -, -, -, e5, -⟩ := h
  generalize (sp_eu b a 100).1 = D at *
  generalize (sp_eu b a 100).2 = R at *
  have h1 : b * a ≤ 2147483648 * 2147483648 := Nat.mul_le_mul (Nat.le_of_lt hb2) (Nat.le_of_lt ha)
  by_cases hz : R = 0
  · exact hz
  · have h3 : 1 * 1 ≤ D * R := Nat.mul_le_mul e1 (Nat.pos_of_ne_zero hz)
    have h4 : 1 * 2 ^ (100 - 1) ≤ D * R * 2 ^ (100 - 1) := Nat.mul_le_mul_right _ h3
    have h5 : (2147483648 * 2147483648 : Nat) < 1 * 2 ^ (100 - 1) := by decide
    omega
theorem vm_eu_g {b a j : Nat} (h : vm_eu b a j) (hr : (sp_eu b a j).2 ≤ 0) : (sp_eu b a j).1 = Nat.gcd b a := by
  have e4 := h.2.2.2.1
  rw [Nat.le_zero.mp hr, Nat.gcd_zero_right] at e4
  exact e4
set_option maxHeartbeats 4000000 in
set_option maxRecDepth 20000 in
/-- DitherDesk.lowestPart  -/
theorem m_lowestPart {l : Launch} {X : vm_Cx} {G : List vm_Sh} {I : Nat → Nat → Int32} {F : Nat → Nat → UInt32} {a b : Nat} {k : Int32} (ha : a < 2147483648) (hb : 0 < b) (hb2 : b < 2147483648) : vm_K l X vm_M160 [.int (nI a), .int (nI b), .int k] (G, I, F) (some (.int (if k = 0 then nI (a / Nat.gcd b a) else nI (b / Nat.gcd b a)))) (G, I, F) := by
  refine vm_K.mk (by decide) (Nat.le_of_ble_eq_true rfl) ?_
  show vm_J _ _ _ (0, (0, 0), [.int (nI a), .int (nI b), .int k, .retAddr 0, .retAddr 0, .retAddr 0, .retAddr 0], []) _ _ _
  refine vm_J.go vm_q160 (k := 6) (hs := []) (f' := (8, (0, 0), [.int (nI a), .int (nI b), .int k, .int (nI b), .int (nI a), .int 0, .retAddr 0], [])) (h' := (G, I, F)) (hs' := []) rfl rfl ?_
  refine vm_J.cnt 100 (fun j => (8, (0, 0), [.int (nI a), .int (nI b), .int k, .int (nI ((sp_eu b a j).1)), .int (nI ((sp_eu b a j).2)), .int (nI j), .retAddr 0], [])) (fun j => (G, I, F)) (fun j => vm_eu b a j) rfl rfl (vm_eu_0 hb hb2 ha) (fun j hj pj ij => ?_) (fun pj => ?_)
  · have e2 := pj.2.1
    have e3 := pj.2.2.1
    have e1 := pj.1
    show vm_J _ _ _ (8, (0, 0), [.int (nI a), .int (nI b), .int k, .int (nI ((sp_eu b a j).1)), .int (nI ((sp_eu b a j).2)), .int (nI j), .retAddr 0], []) (G, I, F) _ _
    refine vm_J.go vm_q160 (k := 3) (hs := []) (f' := (bif vm_ic .ge (nI j) 100 then 39 else 15, (0, 0), [.int (nI a), .int (nI b), .int k, .int (nI ((sp_eu b a j).1)), .int (nI ((sp_eu b a j).2)), .int (nI j), .retAddr 0], [])) (h' := (G, I, F)) (hs' := []) rfl rfl ?_
    refine vm_J.br (fun c1 => ?_) (fun c1 => ?_)
    · have c1 := vm_ge_t (a := j) (b := 100) (by omega) (by omega) c1
      exact (show False by omega).elim
    · have c1 := vm_ge_f (a := j) (b := 100) (by omega) (by omega) c1
      refine vm_J.go vm_q160 (k := 2) (hs := []) (f' := (bif vm_ic .le (nI ((sp_eu b a j).2)) 0 then 39 else 20, (0, 0), [.int (nI a), .int (nI b), .int k, .int (nI ((sp_eu b a j).1)), .int (nI ((sp_eu b a j).2)), .int (nI j), .retAddr 0], [])) (h' := (G, I, F)) (hs' := []) rfl rfl ?_
      refine vm_J.br (fun c2 => ?_) (fun c2 => ?_)
      · have c2 := vm_le_t (a := (sp_eu b a j).2) (b := 0) (by omega) (by omega) c2
        have hg := vm_eu_g pj c2
        refine vm_J.go vm_q160 (k := 2) (hs := []) (f' := (bif vm_ic .gt (nI ((sp_eu b a j).1)) 0 then 45 else 43, (0, 0), [.int (nI a), .int (nI b), .int k, .int (nI ((sp_eu b a j).1)), .int (nI ((sp_eu b a j).2)), .int (nI j), .retAddr 0], [])) (h' := (G, I, F)) (hs' := []) rfl rfl ?_
        refine vm_J.br (fun c3 => ?_) (fun c3 => ?_)
        · have c3 := vm_gt_t (a := (sp_eu b a j).1) (b := 0) (by omega) (by omega) c3
          have hnz := vm_ne0 c3 e2
          refine vm_J.go vm_q160 (k := 2) (hs := []) (f' := (bif vm_ic .ne k 0 then 55 else 49, (0, 0), [.int (nI a), .int (nI b), .int k, .int (nI ((sp_eu b a j).1)), .int (nI ((sp_eu b a j).2)), .int (nI j), .retAddr 0], [])) (h' := (G, I, F)) (hs' := []) rfl rfl ?_
          refine vm_J.br (fun c4 => ?_) (fun c4 => ?_)
          · have c4 : ¬ k = 0 := of_decide_eq_true c4
            refine vm_J.go vm_q160 (k := 3) (hs := []) (f' := (58, (0, 0), [.int (nI a), .int (nI b), .int k, .int (nI ((sp_eu b a j).1)), .int (nI ((sp_eu b a j).2)), .int (nI j), .retAddr 0], [.int ((nI b) / (nI ((sp_eu b a j).1)))])) (h' := (G, I, F)) (hs' := []) rfl (vm_b2 rfl (vm_b2 rfl (vm_b2 (decide_eq_true (by assumption)) rfl))) ?_
            exact vm_J.end vm_q160 (en := (58, .ireturn, 1, [], .null)) rfl (by rw [if_neg c4, vm_div_n (by omega) (by omega), hg]; rfl) vm_rI (Nat.zero_le _) (Nat.zero_le _) rfl
          · have c4 : k = 0 := Decidable.of_not_not (of_decide_eq_false c4)
            refine vm_J.go vm_q160 (k := 4) (hs := []) (f' := (58, (0, 0), [.int (nI a), .int (nI b), .int k, .int (nI ((sp_eu b a j).1)), .int (nI ((sp_eu b a j).2)), .int (nI j), .retAddr 0], [.int ((nI a) / (nI ((sp_eu b a j).1)))])) (h' := (G, I, F)) (hs' := []) rfl (vm_b2 rfl (vm_b2 rfl (vm_b2 (decide_eq_true (by assumption)) (vm_b2 rfl rfl)))) ?_
            exact vm_J.end vm_q160 (en := (58, .ireturn, 1, [], .null)) rfl (by rw [if_pos c4, vm_div_n (by omega) (by omega), hg]; rfl) vm_rI (Nat.zero_le _) (Nat.zero_le _) rfl
        · have c3 := vm_gt_f (a := (sp_eu b a j).1) (b := 0) (by omega) (by omega) c3
          exact (show False by omega).elim
      · have c2 := vm_le_f (a := (sp_eu b a j).2) (b := 0) (by omega) (by omega) c2
        have hnz := vm_ne0 c2 e3
        refine vm_J.go vm_q160 (k := 10) (hs := []) (f' := (8, (0, 0), [.int (nI a), .int (nI b), .int k, .int (nI ((sp_eu b a j).2)), .int ((nI ((sp_eu b a j).1)) - (nI ((sp_eu b a j).1)) / (nI ((sp_eu b a j).2)) * (nI ((sp_eu b a j).2))), .int ((nI j) + 1), .int ((nI ((sp_eu b a j).1)) - (nI ((sp_eu b a j).1)) / (nI ((sp_eu b a j).2)) * (nI ((sp_eu b a j).2)))], [])) (h' := (G, I, F)) (hs' := []) rfl (vm_b2 rfl (vm_b2 rfl (vm_b2 (decide_eq_true (by assumption)) (vm_b2 rfl (vm_b2 rfl (vm_b2 rfl (vm_b2 rfl (vm_b2 rfl (vm_b2 rfl (vm_b2 rfl rfl)))))))))) ?_
        rw [((vm_pa (rfl : nI j = nI j) (rfl : (1 : Int32) = nI 1)) : (nI j) + 1 = nI (j + 1))]
        refine vm_J.mask [true, true, true, true, true, true, false] ?_
        show vm_J _ _ _ (8, (0, 0), [.int (nI a), .int (nI b), .int k, .int (nI ((sp_eu b a j).2)), .int ((nI ((sp_eu b a j).1)) - (nI ((sp_eu b a j).1)) / (nI ((sp_eu b a j).2)) * (nI ((sp_eu b a j).2))), .int (nI (j + 1)), .retAddr 0], []) (G, I, F) _ _
        rw [vm_rem_n e2 e3]
        exact ij (vm_eu_s pj c2)
  · have hg := vm_eu_g (b := b) (a := a) (j := 100) pj (Nat.le_of_eq (vm_eu_e pj hb2 ha))
    have e2 := pj.2.1
    have e3 := pj.2.2.1
    have e1 := pj.1
    show vm_J _ _ _ (8, (0, 0), [.int (nI a), .int (nI b), .int k, .int (nI ((sp_eu b a 100).1)), .int (nI ((sp_eu b a 100).2)), .int (nI 100), .retAddr 0], []) (G, I, F) _ _
    refine vm_J.go vm_q160 (k := 3) (hs := []) (f' := (bif vm_ic .ge (nI 100) 100 then 39 else 15, (0, 0), [.int (nI a), .int (nI b), .int k, .int (nI ((sp_eu b a 100).1)), .int (nI ((sp_eu b a 100).2)), .int (nI 100), .retAddr 0], [])) (h' := (G, I, F)) (hs' := []) rfl rfl ?_
    refine vm_J.br (fun c5 => ?_) (fun c5 => ?_)
    · have c5 := vm_ge_t (a := 100) (b := 100) (by omega) (by omega) c5
      refine vm_J.go vm_q160 (k := 2) (hs := []) (f' := (bif vm_ic .gt (nI ((sp_eu b a 100).1)) 0 then 45 else 43, (0, 0), [.int (nI a), .int (nI b), .int k, .int (nI ((sp_eu b a 100).1)), .int (nI ((sp_eu b a 100).2)), .int (nI 100), .retAddr 0], [])) (h' := (G, I, F)) (hs' := []) rfl rfl ?_
      refine vm_J.br (fun c6 => ?_) (fun c6 => ?_)
      · have c6 := vm_gt_t (a := (sp_eu b a 100).1) (b := 0) (by omega) (by omega) c6
        have hnz := vm_ne0 c6 e2
        refine vm_J.go vm_q160 (k := 2) (hs := []) (f' := (bif vm_ic .ne k 0 then 55 else 49, (0, 0), [.int (nI a), .int (nI b), .int k, .int (nI ((sp_eu b a 100).1)), .int (nI ((sp_eu b a 100).2)), .int (nI 100), .retAddr 0], [])) (h' := (G, I, F)) (hs' := []) rfl rfl ?_
        refine vm_J.br (fun c7 => ?_) (fun c7 => ?_)
        · have c7 : ¬ k = 0 := of_decide_eq_true c7
          refine vm_J.go vm_q160 (k := 3) (hs := []) (f' := (58, (0, 0), [.int (nI a), .int (nI b), .int k, .int (nI ((sp_eu b a 100).1)), .int (nI ((sp_eu b a 100).2)), .int (nI 100), .retAddr 0], [.int ((nI b) / (nI ((sp_eu b a 100).1)))])) (h' := (G, I, F)) (hs' := []) rfl (vm_b2 rfl (vm_b2 rfl (vm_b2 (decide_eq_true (by assumption)) rfl))) ?_
          exact vm_J.end vm_q160 (en := (58, .ireturn, 1, [], .null)) rfl (by rw [if_neg c7, vm_div_n (by omega) (by omega), hg]; rfl) vm_rI (Nat.zero_le _) (Nat.zero_le _) rfl
        · have c7 : k = 0 := Decidable.of_not_not (of_decide_eq_false c7)
          refine vm_J.go vm_q160 (k := 4) (hs := []) (f' := (58, (0, 0), [.int (nI a), .int (nI b), .int k, .int (nI ((sp_eu b a 100).1)), .int (nI ((sp_eu b a 100).2)), .int (nI 100), .retAddr 0], [.int ((nI a) / (nI ((sp_eu b a 100).1)))])) (h' := (G, I, F)) (hs' := []) rfl (vm_b2 rfl (vm_b2 rfl (vm_b2 (decide_eq_true (by assumption)) (vm_b2 rfl rfl)))) ?_
          exact vm_J.end vm_q160 (en := (58, .ireturn, 1, [], .null)) rfl (by rw [if_pos c7, vm_div_n (by omega) (by omega), hg]; rfl) vm_rI (Nat.zero_le _) (Nat.zero_le _) rfl
      · have c6 := vm_gt_f (a := (sp_eu b a 100).1) (b := 0) (by omega) (by omega) c6
        exact (show False by omega).elim
    · have c5 := vm_ge_f (a := 100) (b := 100) (by omega) (by omega) c5
      exact (show False by omega).elim
