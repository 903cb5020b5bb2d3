theorem sp_ab_s (a b : Int32) (h : (a - b).toInt = a.toInt - b.toInt) : (if b < a then a - b else b - a) = sp_ab (a - b) := by
  unfold sp_ab
  have e1 : b < a ↔ b.toInt < a.toInt := Int32.lt_iff_toInt_lt
  have e2 : 0 ≤ a - b ↔ 0 ≤ a.toInt - b.toInt := by rw [Int32.le_iff_toInt_le, h, show (0 : Int32).toInt = 0 from rfl]
  by_cases h1 : b.toInt < a.toInt
  · rw [if_pos (e1.mpr h1), if_pos (e2.mpr (by omega))]
  · rw [if_neg (fun z => h1 (e1.mp z))]
    by_cases h2 : a.toInt = b.toInt
    · have e : a = b := Int32.toInt_inj.mp h2
      subst e
      rw [Int32.sub_self]
      rfl
    · rw [if_neg (fun z => absurd (e2.mp z) (by omega))]
      rw [Int32.zero_sub, Int32.neg_sub]
set_option maxHeartbeats 4000000 in
set_option maxRecDepth 20000 in
/-- DitherDeskModel.apart  -/
theorem r_apart {l : Launch} {X : vm_Cx} {G : List vm_Sh} {I : Nat → Nat → Int32} {F : Nat → Nat → UInt32} {a b : Int32} : vm_K l X vm_M230 [.int a, .int b] (G, I, F) (some (.int (if b < a then a - b else b - a))) (G, I, F) := by
  refine vm_K.mk (by decide) (Nat.le_of_ble_eq_true rfl) ?_
  show vm_J _ _ _ (0, (0, 0), [.int a, .int b], []) _ _ _
  refine vm_J.go vm_q230 (k := 3) (hs := []) (f' := (bif vm_ic .le a b then 11 else 5, (0, 0), [.int a, .int b], [])) (h' := (G, I, F)) (hs' := []) rfl rfl ?_
  refine vm_J.br (fun c1 => ?_) (fun c1 => ?_)
  · have c1 : a ≤ b := of_decide_eq_true c1
    refine vm_J.go vm_q230 (k := 3) (hs := []) (f' := (14, (0, 0), [.int a, .int b], [.int (b - a)])) (h' := (G, I, F)) (hs' := []) rfl rfl ?_
    exact vm_J.end vm_q230 (en := (14, .ireturn, 1, [], .null)) rfl (by first | rw [if_pos (vm_nle_g c1)]; rfl | rw [if_neg (vm_le_ng c1)]; rfl) vm_rI (Nat.zero_le _) (Nat.zero_le _) rfl
  · have c1 : ¬ (a ≤ b) := of_decide_eq_false c1
    refine vm_J.go vm_q230 (k := 4) (hs := []) (f' := (14, (0, 0), [.int a, .int b], [.int (a - b)])) (h' := (G, I, F)) (hs' := []) rfl rfl ?_
    exact vm_J.end vm_q230 (en := (14, .ireturn, 1, [], .null)) rfl (by first | rw [if_pos (vm_nle_g c1)]; rfl | rw [if_neg (vm_le_ng c1)]; rfl) vm_rI (Nat.zero_le _) (Nat.zero_le _) rfl
set_option maxHeartbeats 4000000 in
set_option maxRecDepth 20000 in
/-- DitherDeskModel.nearestWhole  -/
theorem r_nearestWhole {l : Launch} {X : vm_Cx} {G : List vm_Sh} {I : Nat → Nat → Int32} {F : Nat → Nat → UInt32} {s n : Int32} (hn : 0 < n) : vm_K l X vm_M207 [.int s, .int n] (G, I, F) (some (.int (sp_rd s n))) (G, I, F) := by
  refine vm_K.mk (by decide) (Nat.le_of_ble_eq_true rfl) ?_
  have hz := vm_2n hn
  show vm_J _ _ _ (0, (0, 0), [.int s, .int n], []) _ _ _
  refine vm_J.go vm_q207 (k := 9) (hs := []) (f' := (9, (0, 0), [.int s, .int n], [.int (((2 * s) + n) / (2 * n))])) (h' := (G, I, F)) (hs' := []) rfl (vm_b2 rfl (vm_b2 rfl (vm_b2 rfl (vm_b2 rfl (vm_b2 rfl (vm_b2 rfl (vm_b2 rfl (vm_b2 rfl (vm_b2 (decide_eq_true (by assumption)) rfl))))))))) ?_
  exact vm_J.end vm_q207 (en := (9, .ireturn, 1, [], .null)) rfl (by rw [sp_rd, if_pos hn]; rfl) vm_rI (Nat.zero_le _) (Nat.zero_le _) rfl
