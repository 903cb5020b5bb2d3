theorem vf_self {v : UInt32} {s : Bool} {c : Nat} {q : Int} (h : vf_d v = .fin s c q) : Op.cmpValue (FP.fcmp v v) .l = 0 := by
  have e : FP.fcmp v v = some (compare (FP.Core.signed s (FP.Core.inUnits c q (min q q))) (FP.Core.signed s (FP.Core.inUnits c q (min q q)))) := by
    show FP.Core.order (vf_d v) (vf_d v) = _
    rw [h]
    rfl
  rw [e, Int.compare_eq_eq.mpr rfl]
  rfl
theorem vf_rq {s t : Bool} {num den c : Nat} {e q : Int} (hn : num ≠ 0) (hl : 0 ≤ FP.Core.leading num den + e) (h : FP.Core.roundRatio FP.Core.b32 s num den e = .fin t c q) : -23 ≤ q := by
  have hm : FP.Core.Fmt.qmin FP.Core.b32 = -149 := by decide
  unfold FP.Core.roundRatio at h
  rw [if_neg hn] at h
  have hq : -23 ≤ FP.Core.quantum FP.Core.b32 num den e := by
    unfold FP.Core.quantum
    rw [hm, show ((FP.Core.Fmt.p FP.Core.b32 : Nat) : Int) = 24 from by decide]
    omega
  generalize FP.Core.quantum FP.Core.b32 num den e = Q at h hq
  unfold FP.Core.roundAt FP.Core.settle FP.Core.bound at h
  split at h
  · split at h
    · cases h
      exact hq
    · cases h
  · split at h
    · cases h
      omega
    · cases h
theorem vf_l2f (x : Int64) : (∃ s c q, vf_d (FP.l2f x) = .fin s c q) ∧ FP.l2f x ≠ 2147483648 := by
  have hb : x.toInt.natAbs < 2 ^ (63 + 1) := by
    have h1 := Int64.toInt_le x
    have h2 := Int64.le_toInt x
    have e1 : Int64.maxValue.toInt = 9223372036854775807 := by decide
    have e2 : Int64.minValue.toInt = -9223372036854775808 := by decide
    omega
  have hl := vf_ll x.toInt.natAbs 1
  have h1l : Nat.log2 1 = 0 := by decide +kernel
  rw [h1l] at hl
  have hk := vf_l2 hb
  obtain ⟨f, a, b, h2, h3⟩ := vf_rb (decide (x.toInt < 0)) x.toInt.natAbs 1 0 63 (by decide) (by decide) (by decide) (Or.inr (by omega))
  have e : vf_d (FP.l2f x) = FP.Core.roundRatio FP.Core.b32 (decide (x.toInt < 0)) x.toInt.natAbs 1 0 := by
    show vf_d (.ofNat (FP.Core.encode FP.Core.b32 (FP.Core.round FP.Core.b32 (FP.Core.ofInt x.toInt)))) = _
    exact vf_e2 f
  refine ⟨⟨_, a, b, e.trans h2⟩, fun z => ?_⟩
  rw [z, show vf_d 2147483648 = .fin true 0 (-149) from by decide +kernel] at e
  by_cases h0 : x.toInt.natAbs = 0
  · have : decide (x.toInt < 0) = false := decide_eq_false (by omega)
    rw [this] at e
    unfold FP.Core.roundRatio at e
    rw [if_pos h0] at e
    cases e
  · have hl0 : 0 ≤ FP.Core.leading x.toInt.natAbs 1 := by
      have y := vf_lt1 (num := x.toInt.natAbs) (den := 1) (by decide)
      refine Int.not_lt.mp fun w => ?_
      rw [show (FP.Core.leading x.toInt.natAbs 1 + 1).toNat = 0 by omega, Nat.pow_zero, Nat.mul_one] at y
      have : 0 < x.toInt.natAbs * 2 ^ (-(FP.Core.leading x.toInt.natAbs 1 + 1)).toNat := Nat.mul_pos (by omega) (Nat.two_pow_pos _)
      omega
    have := vf_rq h0 (by omega) e.symm
    omega
set_option maxHeartbeats 4000000 in
set_option maxRecDepth 20000 in
/-- DitherDesk.itemOf  -/
theorem m_itemOf_3a {l : Launch} {X : vm_Cx} {G : List vm_Sh} {I : Nat → Nat → Int32} {F : Nat → Nat → UInt32} {v : Int64} (hfb : @vm_K l X vm_M162 [.float (FP.l2f v)] (G, I, F) (some (.int (FP.l2f v).toInt32)) (G, I, F)) : vm_K l X vm_M149 [.int 3, .long v] (G, I, F) (some (.int (FP.l2f v).toInt32)) (G, I, F) := by
  refine vm_K.mk (by decide) (Nat.le_of_ble_eq_true rfl) ?_
  show vm_J _ _ _ (0, (0, 0), [.int 3, .long v, .retAddr 0], []) _ _ _
  refine vm_J.go vm_q149 (k := 4) (hs := []) (f' := (42, (0, 0), [.int 3, .long v, .retAddr 0], [.float (FP.l2f v)])) (h' := (G, I, F)) (hs' := []) rfl rfl ?_
  refine vm_J.call vm_q149 (Z := vm_M162) (n := 1) (k := 1) (mi := 162) (pc := 42) (en := (42, .invokestatic 300, 3, [162, 924, 0], .null)) rfl trivial rfl rfl vm_z162 (av := [.float (FP.l2f v)]) (rest := []) hfb rfl (Nat.le_of_ble_eq_true rfl) ⟨Nat.le_of_ble_eq_true rfl, Nat.le_of_ble_eq_true rfl⟩ ⟨Nat.le_of_ble_eq_true rfl, Nat.le_of_ble_eq_true rfl⟩ ?_
  show vm_J _ _ _ (45, (0, 0), [.int 3, .long v, .retAddr 0], [.int ((FP.l2f v).toInt32)]) (G, I, F) _ _
  exact vm_J.end vm_q149 (en := (45, .ireturn, 1, [], .null)) rfl rfl vm_rI (Nat.zero_le _) (Nat.zero_le _) rfl
theorem m_itemOf_3 {l : Launch} {X : vm_Cx} {G : List vm_Sh} {I : Nat → Nat → Int32} {F : Nat → Nat → UInt32} {v : Int64} : vm_K l X vm_M149 [.int 3, .long v] (G, I, F) (some (.int (FP.l2f v).toInt32)) (G, I, F) := by
  have hfb := m_floatBits (l := l) (X := X) (G := G) (I := I) (F := F) (v := FP.l2f v) (vf_l2f v).1 (vf_l2f v).2
  have z := m_itemOf_3a (l := l) (X := X) (G := G) (I := I) (F := F) (v := v) hfb
  exact z
set_option maxHeartbeats 4000000 in
set_option maxRecDepth 20000 in
/-- java/lang/Float.isNaN  -/
theorem r_isNaN_n {l : Launch} {X : vm_Cx} {G : List vm_Sh} {I : Nat → Nat → Int32} {F : Nat → Nat → UInt32} {v : UInt32} (hv : Op.cmpValue (FP.fcmp v v) .l = 0) : vm_K l X vm_M296 [.float v] (G, I, F) (some (.int 0)) (G, I, F) := by
  refine vm_K.mkF (by decide +kernel) (Nat.le_of_ble_eq_true rfl) ?_
  show vm_J _ _ _ (0, (0, 0), [.float v], []) _ _ _
  refine vm_J.go vm_q296 (k := 4) (hs := []) (f' := (bif vm_ic .eq (Op.cmpValue (FP.fcmp v v) .l) 0 then 10 else 6, (0, 0), [.float v], [])) (h' := (G, I, F)) (hs' := []) rfl rfl ?_
  refine vm_J.br (fun c1 => ?_) (fun c1 => ?_)
  · have c1 : (Op.cmpValue (FP.fcmp v v) .l) = 0 := of_decide_eq_true c1
    refine vm_J.go vm_q296 (k := 1) (hs := []) (f' := (11, (0, 0), [.float v], [.int 0])) (h' := (G, I, F)) (hs' := []) rfl rfl ?_
    exact vm_J.end vm_q296 (en := (11, .ireturn, 1, [], .null)) rfl rfl vm_rZ0 (Nat.zero_le _) (Nat.zero_le _) rfl
  · have c1 : ¬ ((Op.cmpValue (FP.fcmp v v) .l) = 0) := of_decide_eq_false c1
    exact absurd hv c1
set_option maxHeartbeats 4000000 in
set_option maxRecDepth 20000 in
/-- java/lang/Float.floatToIntBits  -/
theorem r_f2b {l : Launch} {X : vm_Cx} {G : List vm_Sh} {I : Nat → Nat → Int32} {F : Nat → Nat → UInt32} {v : UInt32} (hv : Op.cmpValue (FP.fcmp v v) .l = 0) : vm_K l X vm_M297 [.float v] (G, I, F) (some (.int v.toInt32)) (G, I, F) := by
  refine vm_K.mkF (by decide +kernel) (Nat.le_of_ble_eq_true rfl) ?_
  show vm_J _ _ _ (0, (0, 0), [.float v], []) _ _ _
  refine vm_J.go vm_q297 (k := 1) (hs := []) (f' := (1, (0, 0), [.float v], [.float v])) (h' := (G, I, F)) (hs' := []) rfl rfl ?_
  refine vm_J.call vm_q297 (Z := vm_M296) (n := 1) (k := 1) (mi := 296) (pc := 1) (en := (1, .invokestatic 59, 3, [296, 1683, 0], .null)) rfl trivial rfl rfl vm_z296 (av := [.float v]) (rest := []) (r_isNaN_n hv) rfl (Nat.le_of_ble_eq_true rfl) ⟨Nat.le_of_ble_eq_true rfl, Nat.le_of_ble_eq_true rfl⟩ ⟨Nat.le_of_ble_eq_true rfl, Nat.le_of_ble_eq_true rfl⟩ ?_
  show vm_J _ _ _ (4, (0, 0), [.float v], [.int 0]) (G, I, F) _ _
  refine vm_J.go vm_q297 (k := 1) (hs := []) (f' := (bif vm_ic .ne 0 0 then 12 else 7, (0, 0), [.float v], [])) (h' := (G, I, F)) (hs' := []) rfl rfl ?_
  refine vm_J.bF (by decide) ?_
  refine vm_J.go vm_q297 (k := 1) (hs := []) (f' := (8, (0, 0), [.float v], [.float v])) (h' := (G, I, F)) (hs' := []) rfl rfl ?_
  refine vm_J.raw vm_q297 (pc := 8) (en := (8, .invokestatic 74, 3, [1001, 1686, 0], .null)) rfl rfl rfl ⟨Nat.le_of_ble_eq_true rfl, Nat.le_of_ble_eq_true rfl⟩ (Nat.le_of_ble_eq_true rfl) ?_
  exact vm_J.end vm_q297 (en := (11, .ireturn, 1, [], .null)) rfl rfl vm_rI (Nat.zero_le _) (Nat.zero_le _) rfl
set_option maxHeartbeats 4000000 in
set_option maxRecDepth 20000 in
/-- DitherDeskModel.lowest  -/
theorem r_lowest_3 {l : Launch} {X : vm_Cx} {G : List vm_Sh} {I : Nat → Nat → Int32} {F : Nat → Nat → UInt32} {v : Int64} : vm_K l X vm_M291 [.int 3, .long v] (G, I, F) (some (.int (FP.l2f v).toInt32)) (G, I, F) := by
  refine vm_K.mk (by decide) (Nat.le_of_ble_eq_true rfl) ?_
  have hv := (vf_l2f v).1
  obtain ⟨s_, c_, q_, hv⟩ := hv
  have hv := vf_self hv
  show vm_J _ _ _ (0, (0, 0), [.int 3, .long v, .retAddr 0], []) _ _ _
  refine vm_J.go vm_q291 (k := 4) (hs := []) (f' := (41, (0, 0), [.int 3, .long v, .retAddr 0], [.float (FP.l2f v)])) (h' := (G, I, F)) (hs' := []) rfl rfl ?_
  refine vm_J.call vm_q291 (Z := vm_M297) (n := 1) (k := 1) (mi := 297) (pc := 41) (en := (41, .invokestatic 430, 3, [297, 1680, 0], .null)) rfl trivial rfl rfl vm_z297 (av := [.float (FP.l2f v)]) (rest := []) (r_f2b (v := FP.l2f v) hv) rfl (Nat.le_of_ble_eq_true rfl) ⟨Nat.le_of_ble_eq_true rfl, Nat.le_of_ble_eq_true rfl⟩ ⟨Nat.le_of_ble_eq_true rfl, Nat.le_of_ble_eq_true rfl⟩ ?_
  show vm_J _ _ _ (44, (0, 0), [.int 3, .long v, .retAddr 0], [.int ((FP.l2f v).toInt32)]) (G, I, F) _ _
  exact vm_J.end vm_q291 (en := (44, .ireturn, 1, [], .null)) rfl rfl vm_rI (Nat.zero_le _) (Nat.zero_le _) rfl
set_option maxHeartbeats 4000000 in
set_option maxRecDepth 20000 in
/-- DitherDeskModel.item -/
theorem r_item_3 {l : Launch} {X : vm_Cx} {G : List vm_Sh} {I : Nat → Nat → Int32} {F : Nat → Nat → UInt32} {t : Nat} {m : Nat} {i : Nat} {v : Int64} (hR : vm_isR G) (ht : t < 6) (hm : I 192 t = nI m) (hm2 : m ≤ 150) (hso : I 191 t = 3) (hi : i < m) : vm_K l X vm_M292 [.ref 152, .int (nI t), .int (nI i), .long v] (G, I, F) (some (.int 1)) (G, (vm_up I 193 (150 * t + i) (FP.l2f v).toInt32), F) := by
  refine vm_K.mk (by decide) (Nat.le_of_ble_eq_true rfl) ?_
  show vm_J _ _ _ (0, (0, 0), [.ref 152, .int (nI t), .int (nI i), .long v, .retAddr 0], []) _ _ _
  refine vm_J.go vm_q292 (k := 1) (hs := []) (f' := (1, (0, 0), [.ref 152, .int (nI t), .int (nI i), .long v, .retAddr 0], [.int (nI t)])) (h' := (G, I, F)) (hs' := []) rfl rfl ?_
  refine vm_J.call vm_q292 (Z := vm_M287) (n := 1) (k := 1) (mi := 287) (pc := 1) (en := (1, .invokestatic 495, 3, [287, 1799, 0], .null)) rfl trivial rfl rfl vm_z287 (av := [.int (nI t)]) (rest := []) (r_isTape_y (c := nI t) (vm_bp6 ht)) rfl (Nat.le_of_ble_eq_true rfl) ⟨Nat.le_of_ble_eq_true rfl, Nat.le_of_ble_eq_true rfl⟩ ⟨Nat.le_of_ble_eq_true rfl, Nat.le_of_ble_eq_true rfl⟩ ?_
  show vm_J _ _ _ (4, (0, 0), [.ref 152, .int (nI t), .int (nI i), .long v, .retAddr 0], [.int 1]) (G, I, F) _ _
  refine vm_J.go vm_q292 (k := 1) (hs := []) (f' := (bif vm_ic .ne 1 0 then 9 else 7, (0, 0), [.ref 152, .int (nI t), .int (nI i), .long v, .retAddr 0], [])) (h' := (G, I, F)) (hs' := []) rfl rfl ?_
  refine vm_J.bT (by decide) ?_
  refine vm_J.go vm_q292 (k := 4) (hs := [vm_shR, (0, 6, [])]) (f' := (15, (0, 0), [.ref 152, .int (nI t), .int (nI i), .long v, .retAddr 0], [.int (I 191 (nI t).toNatClampNeg)])) (h' := (G, I, F)) (hs' := []) rfl (vm_b2 rfl (vm_b2 (vm_b2 (vm_hG hR.c152) rfl) (vm_b2 rfl (vm_b2 (vm_b2 (vm_hG hR.c191) (vm_in_e (j := t) (n := 6) rfl (by omega) (by omega))) rfl)))) ?_
  rw [vm_ix_e (j := t) rfl (by omega)]
  rw [(hso : I 191 t = 3)]
  refine vm_J.go vm_q292 (k := 1) (hs := []) (f' := (bif vm_ic .ge 3 0 then 21 else 18, (0, 0), [.ref 152, .int (nI t), .int (nI i), .long v, .retAddr 0], [])) (h' := (G, I, F)) (hs' := []) rfl rfl ?_
  refine vm_J.bT (by decide) ?_
  refine vm_J.go vm_q292 (k := 6) (hs := [vm_shR, (0, 6, [])]) (f' := (29, (0, 0), [.ref 152, .int (nI t), .int (nI i), .long v, .retAddr 0], [.int (I 192 (nI t).toNatClampNeg), .int 0, .int (nI i)])) (h' := (G, I, F)) (hs' := []) rfl (vm_b2 rfl (vm_b2 rfl (vm_b2 rfl (vm_b2 (vm_b2 (vm_hG hR.c152) rfl) (vm_b2 rfl (vm_b2 (vm_b2 (vm_hG hR.c192) (vm_in_e (j := t) (n := 6) rfl (by omega) (by omega))) rfl)))))) ?_
  rw [vm_ix_e (j := t) rfl (by omega)]
  rw [(hm : I 192 t = nI m)]
  refine vm_J.go vm_q292 (k := 2) (hs := []) (f' := (31, (0, 0), [.ref 152, .int (nI t), .int (nI i), .long v, .retAddr 0], [.int ((nI m) - 1), .int 0, .int (nI i)])) (h' := (G, I, F)) (hs' := []) rfl rfl ?_
  refine vm_J.call vm_q292 (Z := vm_M168) (n := 3) (k := 1) (mi := 168) (pc := 31) (en := (31, .invokestatic 141, 3, [168, 1302, 0], .null)) rfl trivial rfl rfl vm_z168 (av := [.int (nI i), .int 0, .int ((nI m) - 1)]) (rest := []) (r_isIn_y (v := nI i) (a := 0) (b := (nI m) - 1) (vm_pl_n hi hm2)) rfl (Nat.le_of_ble_eq_true rfl) ⟨Nat.le_of_ble_eq_true rfl, Nat.le_of_ble_eq_true rfl⟩ ⟨Nat.le_of_ble_eq_true rfl, Nat.le_of_ble_eq_true rfl⟩ ?_
  show vm_J _ _ _ (34, (0, 0), [.ref 152, .int (nI t), .int (nI i), .long v, .retAddr 0], [.int 1]) (G, I, F) _ _
  refine vm_J.go vm_q292 (k := 1) (hs := []) (f' := (bif vm_ic .ne 1 0 then 40 else 37, (0, 0), [.ref 152, .int (nI t), .int (nI i), .long v, .retAddr 0], [])) (h' := (G, I, F)) (hs' := []) rfl rfl ?_
  refine vm_J.bT (by decide) ?_
  refine vm_J.go vm_q292 (k := 11) (hs := [vm_shR, vm_shR, (0, 6, [])]) (f' := (57, (0, 0), [.ref 152, .int (nI t), .int (nI i), .long v, .retAddr 0], [.int (I 191 (nI t).toNatClampNeg), .int ((150 * (nI t)) + (nI i)), .ref 193])) (h' := (G, I, F)) (hs' := []) rfl (vm_b2 rfl (vm_b2 (vm_b2 (vm_hG hR.c152) rfl) (vm_b2 rfl (vm_b2 rfl (vm_b2 rfl (vm_b2 rfl (vm_b2 rfl (vm_b2 rfl (vm_b2 (vm_b2 (vm_hG hR.c152) rfl) (vm_b2 rfl (vm_b2 (vm_b2 (vm_hG hR.c191) (vm_in_e (j := t) (n := 6) rfl (by omega) (by omega))) rfl))))))))))) ?_
  rw [vm_ix_e (j := t) rfl (by omega), ((vm_pa (vm_pm (rfl : (150 : Int32) = nI 150) (rfl : (nI t : Int32) = nI t)) (rfl : (nI i : Int32) = nI i)) : (150 * (nI t)) + (nI i) = nI ((150 * t) + i))]
  rw [(hso : I 191 t = 3)]
  refine vm_J.go vm_q292 (k := 1) (hs := []) (f' := (58, (0, 0), [.ref 152, .int (nI t), .int (nI i), .long v, .retAddr 0], [.long v, .int 3, .int (nI ((150 * t) + i)), .ref 193])) (h' := (G, I, F)) (hs' := []) rfl rfl ?_
  refine vm_J.call vm_q292 (Z := vm_M291) (n := 2) (k := 1) (mi := 291) (pc := 58) (en := (58, .invokestatic 498, 3, [291, 1814, 0], .null)) rfl trivial rfl rfl vm_z291 (av := [.int 3, .long v]) (rest := [.int (nI ((150 * t) + i)), .ref 193]) (r_lowest_3 (v := v)) rfl (Nat.le_of_ble_eq_true rfl) ⟨Nat.le_of_ble_eq_true rfl, Nat.le_of_ble_eq_true rfl⟩ ⟨Nat.le_of_ble_eq_true rfl, Nat.le_of_ble_eq_true rfl⟩ ?_
  show vm_J _ _ _ (61, (0, 0), [.ref 152, .int (nI t), .int (nI i), .long v, .retAddr 0], [.int ((FP.l2f v).toInt32), .int (nI ((150 * t) + i)), .ref 193]) (G, I, F) _ _
  refine vm_J.go vm_q292 (k := 2) (hs := [(0, 900, [])]) (f' := (63, (0, 0), [.ref 152, .int (nI t), .int (nI i), .long v, .retAddr 0], [.int 1])) (h' := (G, (vm_up I 193 ((nI ((150 * t) + i)).toNatClampNeg) ((FP.l2f v).toInt32)), F)) (hs' := []) rfl (vm_b2 (vm_b2 (vm_hG hR.c193) (vm_in_e (j := (150 * t) + i) (n := 900) rfl (by omega) (by omega))) (vm_b2 rfl rfl)) ?_
  rw [vm_ix_e (j := (150 * t) + i) rfl (by omega)]
  exact vm_J.end vm_q292 (en := (63, .ireturn, 1, [], .null)) rfl rfl vm_rI (Nat.zero_le _) (Nat.zero_le _) rfl
set_option maxHeartbeats 4000000 in
set_option maxRecDepth 20000 in
/-- DitherDesk.item -/
theorem c_item_3 {l : Launch} {X : vm_Cx} {G : List vm_Sh} {I : Nat → Nat → Int32} {F : Nat → Nat → UInt32} {t : Nat} {m : Nat} {i : Nat} {v : Int64} (hD : vm_isD G) (ht : t < 6) (hm : I (139 + 1 + 2 * t) 1 = nI m) (hm2 : m ≤ 150) (hso : I (139 + 1 + 2 * t) 0 = 3) (hi : i < m) : vm_K l X vm_M141 [.ref 0, .int (nI t), .int (nI i), .long v] (G, I, F) (some (.int 1)) (G, (vm_up I (139 + 2 + 2 * t) i (FP.l2f v).toInt32), F) := by
  refine vm_K.mk (by decide) (Nat.le_of_ble_eq_true rfl) ?_
  show vm_J _ _ _ (0, (0, 0), [.ref 0, .int (nI t), .int (nI i), .long v, .retAddr 0, .retAddr 0], []) _ _ _
  refine vm_J.go vm_q141 (k := 2) (hs := []) (f' := (2, (0, 0), [.ref 0, .int (nI t), .int (nI i), .long v, .retAddr 0, .retAddr 0], [.int (nI t), .ref 0])) (h' := (G, I, F)) (hs' := []) rfl rfl ?_
  refine vm_J.call vm_q141 (Z := vm_M145) (n := 1) (k := 0) (mi := 145) (pc := 2) (en := (2, .invokevirtual 365, 3, [145, 1049, 0], .null)) rfl trivial rfl rfl vm_z145 (av := [.ref 0, .int (nI t)]) (rest := []) (m_tapeAt_n (o := 0) (n := 1) (v := 38) (t := 75) (cu := 112) (rf := 132) (rd := 135) (T := 139) (p := t) hD.d hD.t (by omega)) ⟨_, _, rfl, rfl, _, 10, _, hD.d, rfl, rfl, rfl⟩ (Nat.le_of_ble_eq_true rfl) ⟨Nat.le_of_ble_eq_true rfl, Nat.le_of_ble_eq_true rfl⟩ ⟨Nat.le_of_ble_eq_true rfl, Nat.le_of_ble_eq_true rfl⟩ ?_
  show vm_J _ _ _ (5, (0, 0), [.ref 0, .int (nI t), .int (nI i), .long v, .retAddr 0, .retAddr 0], [.ref (139 + 1 + 2 * t)]) (G, I, F) _ _
  refine vm_J.go vm_q141 (k := 5) (hs := [(10, 3, [.int 0, .int 0, .ref (139 + 2 + 2 * t)])]) (f' := (19, (0, 0), [.ref 0, .int (nI t), .int (nI i), .long v, .retAddr 0, .ref (139 + 1 + 2 * t)], [.int (I (139 + 1 + 2 * t) 0)])) (h' := (G, I, F)) (hs' := []) rfl (vm_b2 rfl (vm_b2 rfl (vm_b2 rfl (vm_b2 rfl (vm_b2 (vm_b2 (vm_hG (hD.t.2.1 t ht)) rfl) rfl))))) ?_
  rw [(hso : I (139 + 1 + 2 * t) 0 = 3)]
  refine vm_J.go vm_q141 (k := 2) (hs := []) (f' := (bif vm_ic .ne 3 (-1) then 26 else 23, (0, 0), [.ref 0, .int (nI t), .int (nI i), .long v, .retAddr 0, .ref (139 + 1 + 2 * t)], [])) (h' := (G, I, F)) (hs' := []) rfl rfl ?_
  refine vm_J.bT (by decide) ?_
  refine vm_J.go vm_q141 (k := 4) (hs := [(10, 3, [.int 0, .int 0, .ref (139 + 2 + 2 * t)])]) (f' := (33, (0, 0), [.ref 0, .int (nI t), .int (nI i), .long v, .retAddr 0, .ref (139 + 1 + 2 * t)], [.int (I (139 + 1 + 2 * t) 1), .int 0, .int (nI i)])) (h' := (G, I, F)) (hs' := []) rfl (vm_b2 rfl (vm_b2 rfl (vm_b2 rfl (vm_b2 (vm_b2 (vm_hG (hD.t.2.1 t ht)) rfl) rfl)))) ?_
  rw [(hm : I (139 + 1 + 2 * t) 1 = nI m)]
  refine vm_J.go vm_q141 (k := 2) (hs := []) (f' := (35, (0, 0), [.ref 0, .int (nI t), .int (nI i), .long v, .retAddr 0, .ref (139 + 1 + 2 * t)], [.int ((nI m) - 1), .int 0, .int (nI i)])) (h' := (G, I, F)) (hs' := []) rfl rfl ?_
  refine vm_J.call vm_q141 (Z := vm_M151) (n := 3) (k := 1) (mi := 151) (pc := 35) (en := (35, .invokestatic 56, 3, [151, 420, 0], .null)) rfl trivial rfl rfl vm_z151 (av := [.int (nI i), .int 0, .int ((nI m) - 1)]) (rest := []) (m_isWithin_y (v := nI i) (a := 0) (b := (nI m) - 1) (vm_pl_n hi hm2)) rfl (Nat.le_of_ble_eq_true rfl) ⟨Nat.le_of_ble_eq_true rfl, Nat.le_of_ble_eq_true rfl⟩ ⟨Nat.le_of_ble_eq_true rfl, Nat.le_of_ble_eq_true rfl⟩ ?_
  show vm_J _ _ _ (38, (0, 0), [.ref 0, .int (nI t), .int (nI i), .long v, .retAddr 0, .ref (139 + 1 + 2 * t)], [.int 1]) (G, I, F) _ _
  refine vm_J.go vm_q141 (k := 1) (hs := []) (f' := (bif vm_ic .ne 1 0 then 44 else 41, (0, 0), [.ref 0, .int (nI t), .int (nI i), .long v, .retAddr 0, .ref (139 + 1 + 2 * t)], [])) (h' := (G, I, F)) (hs' := []) rfl rfl ?_
  refine vm_J.bT (by decide) ?_
  refine vm_J.go vm_q141 (k := 5) (hs := [(10, 3, [.int 0, .int 0, .ref (139 + 2 + 2 * t)]), (10, 3, [.int 0, .int 0, .ref (139 + 2 + 2 * t)])]) (f' := (55, (0, 0), [.ref 0, .int (nI t), .int (nI i), .long v, .retAddr 0, .ref (139 + 1 + 2 * t)], [.int (I (139 + 1 + 2 * t) 0), .int (nI i), .ref (139 + 2 + 2 * t)])) (h' := (G, I, F)) (hs' := []) rfl (vm_b2 rfl (vm_b2 (vm_b2 (vm_hG (hD.t.2.1 t ht)) rfl) (vm_b2 rfl (vm_b2 rfl (vm_b2 (vm_b2 (vm_hG (hD.t.2.1 t ht)) rfl) rfl))))) ?_
  rw [(hso : I (139 + 1 + 2 * t) 0 = 3)]
  refine vm_J.go vm_q141 (k := 1) (hs := []) (f' := (56, (0, 0), [.ref 0, .int (nI t), .int (nI i), .long v, .retAddr 0, .ref (139 + 1 + 2 * t)], [.long v, .int 3, .int (nI i), .ref (139 + 2 + 2 * t)])) (h' := (G, I, F)) (hs' := []) rfl rfl ?_
  refine vm_J.call vm_q141 (Z := vm_M149) (n := 2) (k := 1) (mi := 149) (pc := 56) (en := (56, .invokestatic 390, 3, [149, 1088, 0], .null)) rfl trivial rfl rfl vm_z149 (av := [.int 3, .long v]) (rest := [.int (nI i), .ref (139 + 2 + 2 * t)]) (m_itemOf_3 (v := v)) rfl (Nat.le_of_ble_eq_true rfl) ⟨Nat.le_of_ble_eq_true rfl, Nat.le_of_ble_eq_true rfl⟩ ⟨Nat.le_of_ble_eq_true rfl, Nat.le_of_ble_eq_true rfl⟩ ?_
  show vm_J _ _ _ (59, (0, 0), [.ref 0, .int (nI t), .int (nI i), .long v, .retAddr 0, .ref (139 + 1 + 2 * t)], [.int ((FP.l2f v).toInt32), .int (nI i), .ref (139 + 2 + 2 * t)]) (G, I, F) _ _
  refine vm_J.call vm_q141 (Z := vm_M153) (n := 3) (k := 1) (mi := 153) (pc := 59) (en := (59, .invokestatic 92, 3, [153, 464, 0], .null)) rfl trivial rfl rfl vm_z153 (av := [.ref (139 + 2 + 2 * t), .int (nI i), .int ((FP.l2f v).toInt32)]) (rest := []) (m_put_n (a := 139 + 2 + 2 * t) (j := i) (v := (FP.l2f v).toInt32) (hD.t.2.2 t ht) (by decide) (by omega)) rfl (Nat.le_of_ble_eq_true rfl) ⟨Nat.le_of_ble_eq_true rfl, Nat.le_of_ble_eq_true rfl⟩ ⟨Nat.le_of_ble_eq_true rfl, Nat.le_of_ble_eq_true rfl⟩ ?_
  show vm_J _ _ _ (62, (0, 0), [.ref 0, .int (nI t), .int (nI i), .long v, .retAddr 0, .ref (139 + 1 + 2 * t)], []) (G, (vm_up I (139 + 2 + 2 * t) i ((FP.l2f v).toInt32)), F) _ _
  refine vm_J.go vm_q141 (k := 1) (hs := []) (f' := (63, (0, 0), [.ref 0, .int (nI t), .int (nI i), .long v, .retAddr 0, .ref (139 + 1 + 2 * t)], [.int 1])) (h' := (G, (vm_up I (139 + 2 + 2 * t) i ((FP.l2f v).toInt32)), F)) (hs' := []) rfl rfl ?_
  exact vm_J.end vm_q141 (en := (63, .ireturn, 1, [], .null)) rfl rfl vm_rI (Nat.zero_le _) (Nat.zero_le _) rfl
set_option maxHeartbeats 4000000 in
set_option maxRecDepth 20000 in
/-- DitherDesk.sum -/
theorem c_sum_10 {l : Launch} {X : vm_Cx} {G : List vm_Sh} {I : Nat → Nat → Int32} {F : Nat → Nat → UInt32} {w : Nat} {h : Nat} (hD : vm_isD G) (hw : I (1 + 4) 1 = nI w) (hh : I (1 + 4) 2 = nI h) (hw2 : w ≤ 12) (hh2 : h ≤ 12) (hw0 : 0 < w) (hmd : ¬ I (1 + 4) 0 = -1) (hf : ∃ s_ c_ q_, vf_d (F (1 + 8) 0) = .fin s_ c_ q_) (hnz : (F (1 + 8) 0) ≠ 2147483648) : vm_K l X vm_M124 [.ref 0, .int 10] (G, I, F) (some (.long ((F (1 + 8) 0).toInt32.toInt64))) (G, I, F) := by
  refine vm_K.mk (by decide) (Nat.le_of_ble_eq_true rfl) ?_
  show vm_J _ _ _ (0, (0, 0), [.ref 0, .int 10, .retAddr 0], []) _ _ _
  refine vm_J.go vm_q124 (k := 7) (hs := [(12, 9, [.ref 1, .ref 38, .ref 75, .ref 112, .ref 132, .ref 135, .ref 139, .int 0, .int 0]), (11, 7, [.ref (1 + 1), .ref (1 + 2), .ref (1 + 3), .ref (1 + 4), .ref (1 + 11), .ref (1 + 13), .ref (1 + 15)])]) (f' := (12, (0, 0), [.ref 0, .int 10, .ref (1 + 4)], [.int 15, .int 0, .int 10])) (h' := (G, I, F)) (hs' := []) rfl (vm_b2 rfl (vm_b2 (vm_b2 (vm_hG hD.d) rfl) (vm_b2 (vm_b2 (vm_hG hD.w1.w) rfl) (vm_b2 rfl (vm_b2 rfl (vm_b2 rfl (vm_b2 rfl rfl))))))) ?_
  refine vm_J.call vm_q124 (Z := vm_M151) (n := 3) (k := 1) (mi := 151) (pc := 12) (en := (12, .invokestatic 56, 3, [151, 420, 0], .null)) rfl trivial rfl rfl vm_z151 (av := [.int 10, .int 0, .int 15]) (rest := []) (m_isWithin_y (v := 10) (a := 0) (b := 15) (by decide)) rfl (Nat.le_of_ble_eq_true rfl) ⟨Nat.le_of_ble_eq_true rfl, Nat.le_of_ble_eq_true rfl⟩ ⟨Nat.le_of_ble_eq_true rfl, Nat.le_of_ble_eq_true rfl⟩ ?_
  show vm_J _ _ _ (15, (0, 0), [.ref 0, .int 10, .ref (1 + 4)], [.int 1]) (G, I, F) _ _
  refine vm_J.go vm_q124 (k := 1) (hs := []) (f' := (bif vm_ic .eq 1 0 then 25 else 18, (0, 0), [.ref 0, .int 10, .ref (1 + 4)], [])) (h' := (G, I, F)) (hs' := []) rfl rfl ?_
  refine vm_J.bF (by decide) ?_
  refine vm_J.go vm_q124 (k := 1) (hs := []) (f' := (19, (0, 0), [.ref 0, .int 10, .ref (1 + 4)], [.ref (1 + 4)])) (h' := (G, I, F)) (hs' := []) rfl rfl ?_
  refine vm_J.call vm_q124 (Z := vm_M61) (n := 0) (k := 0) (mi := 61) (pc := 19) (en := (19, .invokevirtual 268, 3, [61, 887, 0], .null)) rfl trivial rfl rfl vm_z61 (av := [.ref (1 + 4)]) (rest := []) (m_isMade_y (o := 1 + 4) (a := 1 + 5) (b := 1 + 6) (c := 1 + 7) (d := 1 + 8) (e := 1 + 9) (f := 1 + 10) hD.w1.sh hmd) ⟨_, _, rfl, rfl, _, 6, _, hD.w1.sh, rfl, rfl, rfl⟩ (Nat.le_of_ble_eq_true rfl) ⟨Nat.le_of_ble_eq_true rfl, Nat.le_of_ble_eq_true rfl⟩ ⟨Nat.le_of_ble_eq_true rfl, Nat.le_of_ble_eq_true rfl⟩ ?_
  show vm_J _ _ _ (22, (0, 0), [.ref 0, .int 10, .ref (1 + 4)], [.int 1]) (G, I, F) _ _
  refine vm_J.go vm_q124 (k := 1) (hs := []) (f' := (bif vm_ic .ne 1 0 then 29 else 25, (0, 0), [.ref 0, .int 10, .ref (1 + 4)], [])) (h' := (G, I, F)) (hs' := []) rfl rfl ?_
  refine vm_J.bT (by decide) ?_
  refine vm_J.go vm_q124 (k := 7) (hs := [(8, 9, [.int 0, .int 0, .int 0, .ref (1 + 5), .ref (1 + 6), .ref (1 + 7), .ref (1 + 8), .ref (1 + 9), .ref (1 + 10)])]) (f' := (137, (0, 0), [.ref 0, .int 10, .ref (1 + 4)], [.int (10 - 10), .ref (1 + 8)])) (h' := (G, I, F)) (hs' := []) rfl (vm_b2 rfl (vm_b2 rfl (vm_b2 rfl (vm_b2 (vm_b2 (vm_hG hD.w1.sh) rfl) (vm_b2 rfl (vm_b2 rfl (vm_b2 rfl rfl))))))) ?_
  rw [(show (10 - 10 : Int32) = 0 from by decide)]
  refine vm_J.call vm_q124 (Z := vm_M154) (n := 2) (k := 1) (mi := 154) (pc := 137) (en := (137, .invokestatic 296, 3, [154, 923, 0], .null)) rfl trivial rfl rfl vm_z154 (av := [.ref (1 + 8), .int 0]) (rest := []) (m_floatAt_n (a := 1 + 8) (j := 0) hD.w1.s4 (by decide) (by omega)) rfl (Nat.le_of_ble_eq_true rfl) ⟨Nat.le_of_ble_eq_true rfl, Nat.le_of_ble_eq_true rfl⟩ ⟨Nat.le_of_ble_eq_true rfl, Nat.le_of_ble_eq_true rfl⟩ ?_
  show vm_J _ _ _ (140, (0, 0), [.ref 0, .int 10, .ref (1 + 4)], [.float (F (1 + 8) 0)]) (G, I, F) _ _
  refine vm_J.call vm_q124 (Z := vm_M162) (n := 1) (k := 1) (mi := 162) (pc := 140) (en := (140, .invokestatic 300, 3, [162, 924, 0], .null)) rfl trivial rfl rfl vm_z162 (av := [.float (F (1 + 8) 0)]) (rest := []) (m_floatBits (v := (F (1 + 8) 0)) hf hnz) rfl (Nat.le_of_ble_eq_true rfl) ⟨Nat.le_of_ble_eq_true rfl, Nat.le_of_ble_eq_true rfl⟩ ⟨Nat.le_of_ble_eq_true rfl, Nat.le_of_ble_eq_true rfl⟩ ?_
  show vm_J _ _ _ (143, (0, 0), [.ref 0, .int 10, .ref (1 + 4)], [.int ((F (1 + 8) 0).toInt32)]) (G, I, F) _ _
  refine vm_J.go vm_q124 (k := 1) (hs := []) (f' := (144, (0, 0), [.ref 0, .int 10, .ref (1 + 4)], [.long (((F (1 + 8) 0).toInt32).toInt64)])) (h' := (G, I, F)) (hs' := []) rfl rfl ?_
  exact vm_J.end vm_q124 (en := (144, .lreturn, 1, [], .null)) rfl rfl vm_rL (Nat.zero_le _) (Nat.zero_le _) rfl
set_option maxHeartbeats 4000000 in
set_option maxRecDepth 20000 in
/-- DitherDeskModel.sum -/
theorem r_sum_10 {l : Launch} {X : vm_Cx} {G : List vm_Sh} {I : Nat → Nat → Int32} {F : Nat → Nat → UInt32} {w : Nat} {h : Nat} (hR : vm_isR G) (hw : I 173 0 = nI w) (hh : I 174 0 = nI h) (hw2 : w ≤ 12) (hh2 : h ≤ 12) (hw0 : 0 < w) (hf : ∃ s_ c_ q_, vf_d (F 179 0) = .fin s_ c_ q_) : vm_K l X vm_M265 [.ref 152, .int 10] (G, I, F) (some (.long ((F 179 0).toInt32.toInt64))) (G, (vm_up I 152 40 0), F) := by
  refine vm_K.mk (by decide) (Nat.le_of_ble_eq_true rfl) ?_
  obtain ⟨s_, c_, q_, hf⟩ := hf
  have hf := vf_self hf
  show vm_J _ _ _ (0, (0, 0), [.ref 152, .int 10], []) _ _ _
  refine vm_J.go vm_q265 (k := 1) (hs := []) (f' := (1, (0, 0), [.ref 152, .int 10], [.ref 152])) (h' := (G, I, F)) (hs' := []) rfl rfl ?_
  refine vm_J.call vm_q265 (Z := vm_M262) (n := 0) (k := 0) (mi := 262) (pc := 1) (en := (1, .invokevirtual 424, 3, [262, 1660, 0], .null)) rfl trivial rfl rfl vm_z262 (av := [.ref 152]) (rest := []) (r_isMade_y hR hw hw2 hw0) ⟨_, _, rfl, rfl, _, 11, _, hR.c152, rfl, rfl, rfl⟩ (Nat.le_of_ble_eq_true rfl) ⟨Nat.le_of_ble_eq_true rfl, Nat.le_of_ble_eq_true rfl⟩ ⟨Nat.le_of_ble_eq_true rfl, Nat.le_of_ble_eq_true rfl⟩ ?_
  show vm_J _ _ _ (4, (0, 0), [.ref 152, .int 10], [.int 1]) (G, (vm_up I 152 40 0), F) _ _
  refine vm_J.go vm_q265 (k := 1) (hs := []) (f' := (bif vm_ic .ne 1 0 then 11 else 7, (0, 0), [.ref 152, .int 10], [])) (h' := (G, (vm_up I 152 40 0), F)) (hs' := []) rfl rfl ?_
  refine vm_J.bT (by decide) ?_
  refine vm_J.go vm_q265 (k := 3) (hs := []) (f' := (14, (0, 0), [.ref 152, .int 10], [.int 2, .int 0, .int 10])) (h' := (G, (vm_up I 152 40 0), F)) (hs' := []) rfl rfl ?_
  refine vm_J.call vm_q265 (Z := vm_M168) (n := 3) (k := 1) (mi := 168) (pc := 14) (en := (14, .invokestatic 141, 3, [168, 1302, 0], .null)) rfl trivial rfl rfl vm_z168 (av := [.int 10, .int 0, .int 2]) (rest := []) (r_isIn_n (v := 10) (a := 0) (b := 2) (by decide)) rfl (Nat.le_of_ble_eq_true rfl) ⟨Nat.le_of_ble_eq_true rfl, Nat.le_of_ble_eq_true rfl⟩ ⟨Nat.le_of_ble_eq_true rfl, Nat.le_of_ble_eq_true rfl⟩ ?_
  show vm_J _ _ _ (17, (0, 0), [.ref 152, .int 10], [.int 0]) (G, (vm_up I 152 40 0), F) _ _
  refine vm_J.go vm_q265 (k := 1) (hs := []) (f' := (bif vm_ic .eq 0 0 then 27 else 20, (0, 0), [.ref 152, .int 10], [])) (h' := (G, (vm_up I 152 40 0), F)) (hs' := []) rfl rfl ?_
  refine vm_J.bT (by decide) ?_
  refine vm_J.go vm_q265 (k := 3) (hs := []) (f' := (31, (0, 0), [.ref 152, .int 10], [.int 6, .int 4, .int 10])) (h' := (G, (vm_up I 152 40 0), F)) (hs' := []) rfl rfl ?_
  refine vm_J.call vm_q265 (Z := vm_M168) (n := 3) (k := 1) (mi := 168) (pc := 31) (en := (31, .invokestatic 141, 3, [168, 1302, 0], .null)) rfl trivial rfl rfl vm_z168 (av := [.int 10, .int 4, .int 6]) (rest := []) (r_isIn_n (v := 10) (a := 4) (b := 6) (by decide)) rfl (Nat.le_of_ble_eq_true rfl) ⟨Nat.le_of_ble_eq_true rfl, Nat.le_of_ble_eq_true rfl⟩ ⟨Nat.le_of_ble_eq_true rfl, Nat.le_of_ble_eq_true rfl⟩ ?_
  show vm_J _ _ _ (34, (0, 0), [.ref 152, .int 10], [.int 0]) (G, (vm_up I 152 40 0), F) _ _
  refine vm_J.go vm_q265 (k := 1) (hs := []) (f' := (bif vm_ic .eq 0 0 then 46 else 37, (0, 0), [.ref 152, .int 10], [])) (h' := (G, (vm_up I 152 40 0), F)) (hs' := []) rfl rfl ?_
  refine vm_J.bT (by decide) ?_
  refine vm_J.go vm_q265 (k := 3) (hs := []) (f' := (51, (0, 0), [.ref 152, .int 10], [.int 12, .int 10, .int 10])) (h' := (G, (vm_up I 152 40 0), F)) (hs' := []) rfl rfl ?_
  refine vm_J.call vm_q265 (Z := vm_M168) (n := 3) (k := 1) (mi := 168) (pc := 51) (en := (51, .invokestatic 141, 3, [168, 1302, 0], .null)) rfl trivial rfl rfl vm_z168 (av := [.int 10, .int 10, .int 12]) (rest := []) (r_isIn_y (v := 10) (a := 10) (b := 12) (by decide)) rfl (Nat.le_of_ble_eq_true rfl) ⟨Nat.le_of_ble_eq_true rfl, Nat.le_of_ble_eq_true rfl⟩ ⟨Nat.le_of_ble_eq_true rfl, Nat.le_of_ble_eq_true rfl⟩ ?_
  show vm_J _ _ _ (54, (0, 0), [.ref 152, .int 10], [.int 1]) (G, (vm_up I 152 40 0), F) _ _
  refine vm_J.go vm_q265 (k := 1) (hs := []) (f' := (bif vm_ic .eq 1 0 then 71 else 57, (0, 0), [.ref 152, .int 10], [])) (h' := (G, (vm_up I 152 40 0), F)) (hs' := []) rfl rfl ?_
  refine vm_J.bF (by decide) ?_
  refine vm_J.go vm_q265 (k := 5) (hs := [vm_shR]) (f' := (65, (0, 0), [.ref 152, .int 10], [.int (10 - 10), .ref 179])) (h' := (G, (vm_up I 152 40 0), F)) (hs' := []) rfl (vm_b2 rfl (vm_b2 (vm_b2 (vm_hG hR.c152) rfl) (vm_b2 rfl (vm_b2 rfl (vm_b2 rfl rfl))))) ?_
  rw [(show (10 - 10 : Int32) = 0 from by decide)]
  refine vm_J.go vm_q265 (k := 1) (hs := [(1, 6, [])]) (f' := (66, (0, 0), [.ref 152, .int 10], [.float (F 179 0)])) (h' := (G, (vm_up I 152 40 0), F)) (hs' := []) rfl (vm_b2 (vm_b2 (vm_hG hR.c179) rfl) rfl) ?_
  refine vm_J.call vm_q265 (Z := vm_M297) (n := 1) (k := 1) (mi := 297) (pc := 66) (en := (66, .invokestatic 430, 3, [297, 1680, 0], .null)) rfl trivial rfl rfl vm_z297 (av := [.float (F 179 0)]) (rest := []) (r_f2b (v := (F 179 0)) hf) rfl (Nat.le_of_ble_eq_true rfl) ⟨Nat.le_of_ble_eq_true rfl, Nat.le_of_ble_eq_true rfl⟩ ⟨Nat.le_of_ble_eq_true rfl, Nat.le_of_ble_eq_true rfl⟩ ?_
  show vm_J _ _ _ (69, (0, 0), [.ref 152, .int 10], [.int ((F 179 0).toInt32)]) (G, (vm_up I 152 40 0), F) _ _
  refine vm_J.go vm_q265 (k := 1) (hs := []) (f' := (70, (0, 0), [.ref 152, .int 10], [.long (((F 179 0).toInt32).toInt64)])) (h' := (G, (vm_up I 152 40 0), F)) (hs' := []) rfl rfl ?_
  exact vm_J.end vm_q265 (en := (70, .lreturn, 1, [], .null)) rfl rfl vm_rL (Nat.zero_le _) (Nat.zero_le _) rfl
set_option maxHeartbeats 4000000 in
set_option maxRecDepth 20000 in
/-- DitherDesk.sum -/
theorem c_sum_11 {l : Launch} {X : vm_Cx} {G : List vm_Sh} {I : Nat → Nat → Int32} {F : Nat → Nat → UInt32} {w : Nat} {h : Nat} (hD : vm_isD G) (hw : I (1 + 4) 1 = nI w) (hh : I (1 + 4) 2 = nI h) (hw2 : w ≤ 12) (hh2 : h ≤ 12) (hw0 : 0 < w) (hmd : ¬ I (1 + 4) 0 = -1) (hf : ∃ s_ c_ q_, vf_d (F (1 + 8) 1) = .fin s_ c_ q_) (hnz : (F (1 + 8) 1) ≠ 2147483648) : vm_K l X vm_M124 [.ref 0, .int 11] (G, I, F) (some (.long ((F (1 + 8) 1).toInt32.toInt64))) (G, I, F) := by
  refine vm_K.mk (by decide) (Nat.le_of_ble_eq_true rfl) ?_
  show vm_J _ _ _ (0, (0, 0), [.ref 0, .int 11, .retAddr 0], []) _ _ _
  refine vm_J.go vm_q124 (k := 7) (hs := [(12, 9, [.ref 1, .ref 38, .ref 75, .ref 112, .ref 132, .ref 135, .ref 139, .int 0, .int 0]), (11, 7, [.ref (1 + 1), .ref (1 + 2), .ref (1 + 3), .ref (1 + 4), .ref (1 + 11), .ref (1 + 13), .ref (1 + 15)])]) (f' := (12, (0, 0), [.ref 0, .int 11, .ref (1 + 4)], [.int 15, .int 0, .int 11])) (h' := (G, I, F)) (hs' := []) rfl (vm_b2 rfl (vm_b2 (vm_b2 (vm_hG hD.d) rfl) (vm_b2 (vm_b2 (vm_hG hD.w1.w) rfl) (vm_b2 rfl (vm_b2 rfl (vm_b2 rfl (vm_b2 rfl rfl))))))) ?_
  refine vm_J.call vm_q124 (Z := vm_M151) (n := 3) (k := 1) (mi := 151) (pc := 12) (en := (12, .invokestatic 56, 3, [151, 420, 0], .null)) rfl trivial rfl rfl vm_z151 (av := [.int 11, .int 0, .int 15]) (rest := []) (m_isWithin_y (v := 11) (a := 0) (b := 15) (by decide)) rfl (Nat.le_of_ble_eq_true rfl) ⟨Nat.le_of_ble_eq_true rfl, Nat.le_of_ble_eq_true rfl⟩ ⟨Nat.le_of_ble_eq_true rfl, Nat.le_of_ble_eq_true rfl⟩ ?_
  show vm_J _ _ _ (15, (0, 0), [.ref 0, .int 11, .ref (1 + 4)], [.int 1]) (G, I, F) _ _
  refine vm_J.go vm_q124 (k := 1) (hs := []) (f' := (bif vm_ic .eq 1 0 then 25 else 18, (0, 0), [.ref 0, .int 11, .ref (1 + 4)], [])) (h' := (G, I, F)) (hs' := []) rfl rfl ?_
  refine vm_J.bF (by decide) ?_
  refine vm_J.go vm_q124 (k := 1) (hs := []) (f' := (19, (0, 0), [.ref 0, .int 11, .ref (1 + 4)], [.ref (1 + 4)])) (h' := (G, I, F)) (hs' := []) rfl rfl ?_
  refine vm_J.call vm_q124 (Z := vm_M61) (n := 0) (k := 0) (mi := 61) (pc := 19) (en := (19, .invokevirtual 268, 3, [61, 887, 0], .null)) rfl trivial rfl rfl vm_z61 (av := [.ref (1 + 4)]) (rest := []) (m_isMade_y (o := 1 + 4) (a := 1 + 5) (b := 1 + 6) (c := 1 + 7) (d := 1 + 8) (e := 1 + 9) (f := 1 + 10) hD.w1.sh hmd) ⟨_, _, rfl, rfl, _, 6, _, hD.w1.sh, rfl, rfl, rfl⟩ (Nat.le_of_ble_eq_true rfl) ⟨Nat.le_of_ble_eq_true rfl, Nat.le_of_ble_eq_true rfl⟩ ⟨Nat.le_of_ble_eq_true rfl, Nat.le_of_ble_eq_true rfl⟩ ?_
  show vm_J _ _ _ (22, (0, 0), [.ref 0, .int 11, .ref (1 + 4)], [.int 1]) (G, I, F) _ _
  refine vm_J.go vm_q124 (k := 1) (hs := []) (f' := (bif vm_ic .ne 1 0 then 29 else 25, (0, 0), [.ref 0, .int 11, .ref (1 + 4)], [])) (h' := (G, I, F)) (hs' := []) rfl rfl ?_
  refine vm_J.bT (by decide) ?_
  refine vm_J.go vm_q124 (k := 7) (hs := [(8, 9, [.int 0, .int 0, .int 0, .ref (1 + 5), .ref (1 + 6), .ref (1 + 7), .ref (1 + 8), .ref (1 + 9), .ref (1 + 10)])]) (f' := (137, (0, 0), [.ref 0, .int 11, .ref (1 + 4)], [.int (11 - 10), .ref (1 + 8)])) (h' := (G, I, F)) (hs' := []) rfl (vm_b2 rfl (vm_b2 rfl (vm_b2 rfl (vm_b2 (vm_b2 (vm_hG hD.w1.sh) rfl) (vm_b2 rfl (vm_b2 rfl (vm_b2 rfl rfl))))))) ?_
  rw [(show (11 - 10 : Int32) = 1 from by decide)]
  refine vm_J.call vm_q124 (Z := vm_M154) (n := 2) (k := 1) (mi := 154) (pc := 137) (en := (137, .invokestatic 296, 3, [154, 923, 0], .null)) rfl trivial rfl rfl vm_z154 (av := [.ref (1 + 8), .int 1]) (rest := []) (m_floatAt_n (a := 1 + 8) (j := 1) hD.w1.s4 (by decide) (by omega)) rfl (Nat.le_of_ble_eq_true rfl) ⟨Nat.le_of_ble_eq_true rfl, Nat.le_of_ble_eq_true rfl⟩ ⟨Nat.le_of_ble_eq_true rfl, Nat.le_of_ble_eq_true rfl⟩ ?_
  show vm_J _ _ _ (140, (0, 0), [.ref 0, .int 11, .ref (1 + 4)], [.float (F (1 + 8) 1)]) (G, I, F) _ _
  refine vm_J.call vm_q124 (Z := vm_M162) (n := 1) (k := 1) (mi := 162) (pc := 140) (en := (140, .invokestatic 300, 3, [162, 924, 0], .null)) rfl trivial rfl rfl vm_z162 (av := [.float (F (1 + 8) 1)]) (rest := []) (m_floatBits (v := (F (1 + 8) 1)) hf hnz) rfl (Nat.le_of_ble_eq_true rfl) ⟨Nat.le_of_ble_eq_true rfl, Nat.le_of_ble_eq_true rfl⟩ ⟨Nat.le_of_ble_eq_true rfl, Nat.le_of_ble_eq_true rfl⟩ ?_
  show vm_J _ _ _ (143, (0, 0), [.ref 0, .int 11, .ref (1 + 4)], [.int ((F (1 + 8) 1).toInt32)]) (G, I, F) _ _
  refine vm_J.go vm_q124 (k := 1) (hs := []) (f' := (144, (0, 0), [.ref 0, .int 11, .ref (1 + 4)], [.long (((F (1 + 8) 1).toInt32).toInt64)])) (h' := (G, I, F)) (hs' := []) rfl rfl ?_
  exact vm_J.end vm_q124 (en := (144, .lreturn, 1, [], .null)) rfl rfl vm_rL (Nat.zero_le _) (Nat.zero_le _) rfl
set_option maxHeartbeats 4000000 in
set_option maxRecDepth 20000 in
/-- DitherDeskModel.sum -/
theorem r_sum_11 {l : Launch} {X : vm_Cx} {G : List vm_Sh} {I : Nat → Nat → Int32} {F : Nat → Nat → UInt32} {w : Nat} {h : Nat} (hR : vm_isR G) (hw : I 173 0 = nI w) (hh : I 174 0 = nI h) (hw2 : w ≤ 12) (hh2 : h ≤ 12) (hw0 : 0 < w) (hf : ∃ s_ c_ q_, vf_d (F 179 1) = .fin s_ c_ q_) : vm_K l X vm_M265 [.ref 152, .int 11] (G, I, F) (some (.long ((F 179 1).toInt32.toInt64))) (G, (vm_up I 152 40 0), F) := by
  refine vm_K.mk (by decide) (Nat.le_of_ble_eq_true rfl) ?_
  obtain ⟨s_, c_, q_, hf⟩ := hf
  have hf := vf_self hf
  show vm_J _ _ _ (0, (0, 0), [.ref 152, .int 11], []) _ _ _
  refine vm_J.go vm_q265 (k := 1) (hs := []) (f' := (1, (0, 0), [.ref 152, .int 11], [.ref 152])) (h' := (G, I, F)) (hs' := []) rfl rfl ?_
  refine vm_J.call vm_q265 (Z := vm_M262) (n := 0) (k := 0) (mi := 262) (pc := 1) (en := (1, .invokevirtual 424, 3, [262, 1660, 0], .null)) rfl trivial rfl rfl vm_z262 (av := [.ref 152]) (rest := []) (r_isMade_y hR hw hw2 hw0) ⟨_, _, rfl, rfl, _, 11, _, hR.c152, rfl, rfl, rfl⟩ (Nat.le_of_ble_eq_true rfl) ⟨Nat.le_of_ble_eq_true rfl, Nat.le_of_ble_eq_true rfl⟩ ⟨Nat.le_of_ble_eq_true rfl, Nat.le_of_ble_eq_true rfl⟩ ?_
  show vm_J _ _ _ (4, (0, 0), [.ref 152, .int 11], [.int 1]) (G, (vm_up I 152 40 0), F) _ _
  refine vm_J.go vm_q265 (k := 1) (hs := []) (f' := (bif vm_ic .ne 1 0 then 11 else 7, (0, 0), [.ref 152, .int 11], [])) (h' := (G, (vm_up I 152 40 0), F)) (hs' := []) rfl rfl ?_
  refine vm_J.bT (by decide) ?_
  refine vm_J.go vm_q265 (k := 3) (hs := []) (f' := (14, (0, 0), [.ref 152, .int 11], [.int 2, .int 0, .int 11])) (h' := (G, (vm_up I 152 40 0), F)) (hs' := []) rfl rfl ?_
  refine vm_J.call vm_q265 (Z := vm_M168) (n := 3) (k := 1) (mi := 168) (pc := 14) (en := (14, .invokestatic 141, 3, [168, 1302, 0], .null)) rfl trivial rfl rfl vm_z168 (av := [.int 11, .int 0, .int 2]) (rest := []) (r_isIn_n (v := 11) (a := 0) (b := 2) (by decide)) rfl (Nat.le_of_ble_eq_true rfl) ⟨Nat.le_of_ble_eq_true rfl, Nat.le_of_ble_eq_true rfl⟩ ⟨Nat.le_of_ble_eq_true rfl, Nat.le_of_ble_eq_true rfl⟩ ?_
  show vm_J _ _ _ (17, (0, 0), [.ref 152, .int 11], [.int 0]) (G, (vm_up I 152 40 0), F) _ _
  refine vm_J.go vm_q265 (k := 1) (hs := []) (f' := (bif vm_ic .eq 0 0 then 27 else 20, (0, 0), [.ref 152, .int 11], [])) (h' := (G, (vm_up I 152 40 0), F)) (hs' := []) rfl rfl ?_
  refine vm_J.bT (by decide) ?_
  refine vm_J.go vm_q265 (k := 3) (hs := []) (f' := (31, (0, 0), [.ref 152, .int 11], [.int 6, .int 4, .int 11])) (h' := (G, (vm_up I 152 40 0), F)) (hs' := []) rfl rfl ?_
  refine vm_J.call vm_q265 (Z := vm_M168) (n := 3) (k := 1) (mi := 168) (pc := 31) (en := (31, .invokestatic 141, 3, [168, 1302, 0], .null)) rfl trivial rfl rfl vm_z168 (av := [.int 11, .int 4, .int 6]) (rest := []) (r_isIn_n (v := 11) (a := 4) (b := 6) (by decide)) rfl (Nat.le_of_ble_eq_true rfl) ⟨Nat.le_of_ble_eq_true rfl, Nat.le_of_ble_eq_true rfl⟩ ⟨Nat.le_of_ble_eq_true rfl, Nat.le_of_ble_eq_true rfl⟩ ?_
  show vm_J _ _ _ (34, (0, 0), [.ref 152, .int 11], [.int 0]) (G, (vm_up I 152 40 0), F) _ _
  refine vm_J.go vm_q265 (k := 1) (hs := []) (f' := (bif vm_ic .eq 0 0 then 46 else 37, (0, 0), [.ref 152, .int 11], [])) (h' := (G, (vm_up I 152 40 0), F)) (hs' := []) rfl rfl ?_
  refine vm_J.bT (by decide) ?_
  refine vm_J.go vm_q265 (k := 3) (hs := []) (f' := (51, (0, 0), [.ref 152, .int 11], [.int 12, .int 10, .int 11])) (h' := (G, (vm_up I 152 40 0), F)) (hs' := []) rfl rfl ?_
  refine vm_J.call vm_q265 (Z := vm_M168) (n := 3) (k := 1) (mi := 168) (pc := 51) (en := (51, .invokestatic 141, 3, [168, 1302, 0], .null)) rfl trivial rfl rfl vm_z168 (av := [.int 11, .int 10, .int 12]) (rest := []) (r_isIn_y (v := 11) (a := 10) (b := 12) (by decide)) rfl (Nat.le_of_ble_eq_true rfl) ⟨Nat.le_of_ble_eq_true rfl, Nat.le_of_ble_eq_true rfl⟩ ⟨Nat.le_of_ble_eq_true rfl, Nat.le_of_ble_eq_true rfl⟩ ?_
  show vm_J _ _ _ (54, (0, 0), [.ref 152, .int 11], [.int 1]) (G, (vm_up I 152 40 0), F) _ _
  refine vm_J.go vm_q265 (k := 1) (hs := []) (f' := (bif vm_ic .eq 1 0 then 71 else 57, (0, 0), [.ref 152, .int 11], [])) (h' := (G, (vm_up I 152 40 0), F)) (hs' := []) rfl rfl ?_
  refine vm_J.bF (by decide) ?_
  refine vm_J.go vm_q265 (k := 5) (hs := [vm_shR]) (f' := (65, (0, 0), [.ref 152, .int 11], [.int (11 - 10), .ref 179])) (h' := (G, (vm_up I 152 40 0), F)) (hs' := []) rfl (vm_b2 rfl (vm_b2 (vm_b2 (vm_hG hR.c152) rfl) (vm_b2 rfl (vm_b2 rfl (vm_b2 rfl rfl))))) ?_
  rw [(show (11 - 10 : Int32) = 1 from by decide)]
  refine vm_J.go vm_q265 (k := 1) (hs := [(1, 6, [])]) (f' := (66, (0, 0), [.ref 152, .int 11], [.float (F 179 1)])) (h' := (G, (vm_up I 152 40 0), F)) (hs' := []) rfl (vm_b2 (vm_b2 (vm_hG hR.c179) rfl) rfl) ?_
  refine vm_J.call vm_q265 (Z := vm_M297) (n := 1) (k := 1) (mi := 297) (pc := 66) (en := (66, .invokestatic 430, 3, [297, 1680, 0], .null)) rfl trivial rfl rfl vm_z297 (av := [.float (F 179 1)]) (rest := []) (r_f2b (v := (F 179 1)) hf) rfl (Nat.le_of_ble_eq_true rfl) ⟨Nat.le_of_ble_eq_true rfl, Nat.le_of_ble_eq_true rfl⟩ ⟨Nat.le_of_ble_eq_true rfl, Nat.le_of_ble_eq_true rfl⟩ ?_
  show vm_J _ _ _ (69, (0, 0), [.ref 152, .int 11], [.int ((F 179 1).toInt32)]) (G, (vm_up I 152 40 0), F) _ _
  refine vm_J.go vm_q265 (k := 1) (hs := []) (f' := (70, (0, 0), [.ref 152, .int 11], [.long (((F 179 1).toInt32).toInt64)])) (h' := (G, (vm_up I 152 40 0), F)) (hs' := []) rfl rfl ?_
  exact vm_J.end vm_q265 (en := (70, .lreturn, 1, [], .null)) rfl rfl vm_rL (Nat.zero_le _) (Nat.zero_le _) rfl
set_option maxHeartbeats 4000000 in
set_option maxRecDepth 20000 in
/-- DitherDesk.sum -/
theorem c_sum_12 {l : Launch} {X : vm_Cx} {G : List vm_Sh} {I : Nat → Nat → Int32} {F : Nat → Nat → UInt32} {w : Nat} {h : Nat} (hD : vm_isD G) (hw : I (1 + 4) 1 = nI w) (hh : I (1 + 4) 2 = nI h) (hw2 : w ≤ 12) (hh2 : h ≤ 12) (hw0 : 0 < w) (hmd : ¬ I (1 + 4) 0 = -1) (hf : ∃ s_ c_ q_, vf_d (F (1 + 8) 2) = .fin s_ c_ q_) (hnz : (F (1 + 8) 2) ≠ 2147483648) : vm_K l X vm_M124 [.ref 0, .int 12] (G, I, F) (some (.long ((F (1 + 8) 2).toInt32.toInt64))) (G, I, F) := by
  refine vm_K.mk (by decide) (Nat.le_of_ble_eq_true rfl) ?_
  show vm_J _ _ _ (0, (0, 0), [.ref 0, .int 12, .retAddr 0], []) _ _ _
  refine vm_J.go vm_q124 (k := 7) (hs := [(12, 9, [.ref 1, .ref 38, .ref 75, .ref 112, .ref 132, .ref 135, .ref 139, .int 0, .int 0]), (11, 7, [.ref (1 + 1), .ref (1 + 2), .ref (1 + 3), .ref (1 + 4), .ref (1 + 11), .ref (1 + 13), .ref (1 + 15)])]) (f' := (12, (0, 0), [.ref 0, .int 12, .ref (1 + 4)], [.int 15, .int 0, .int 12])) (h' := (G, I, F)) (hs' := []) rfl (vm_b2 rfl (vm_b2 (vm_b2 (vm_hG hD.d) rfl) (vm_b2 (vm_b2 (vm_hG hD.w1.w) rfl) (vm_b2 rfl (vm_b2 rfl (vm_b2 rfl (vm_b2 rfl rfl))))))) ?_
  refine vm_J.call vm_q124 (Z := vm_M151) (n := 3) (k := 1) (mi := 151) (pc := 12) (en := (12, .invokestatic 56, 3, [151, 420, 0], .null)) rfl trivial rfl rfl vm_z151 (av := [.int 12, .int 0, .int 15]) (rest := []) (m_isWithin_y (v := 12) (a := 0) (b := 15) (by decide)) rfl (Nat.le_of_ble_eq_true rfl) ⟨Nat.le_of_ble_eq_true rfl, Nat.le_of_ble_eq_true rfl⟩ ⟨Nat.le_of_ble_eq_true rfl, Nat.le_of_ble_eq_true rfl⟩ ?_
  show vm_J _ _ _ (15, (0, 0), [.ref 0, .int 12, .ref (1 + 4)], [.int 1]) (G, I, F) _ _
  refine vm_J.go vm_q124 (k := 1) (hs := []) (f' := (bif vm_ic .eq 1 0 then 25 else 18, (0, 0), [.ref 0, .int 12, .ref (1 + 4)], [])) (h' := (G, I, F)) (hs' := []) rfl rfl ?_
  refine vm_J.bF (by decide) ?_
  refine vm_J.go vm_q124 (k := 1) (hs := []) (f' := (19, (0, 0), [.ref 0, .int 12, .ref (1 + 4)], [.ref (1 + 4)])) (h' := (G, I, F)) (hs' := []) rfl rfl ?_
  refine vm_J.call vm_q124 (Z := vm_M61) (n := 0) (k := 0) (mi := 61) (pc := 19) (en := (19, .invokevirtual 268, 3, [61, 887, 0], .null)) rfl trivial rfl rfl vm_z61 (av := [.ref (1 + 4)]) (rest := []) (m_isMade_y (o := 1 + 4) (a := 1 + 5) (b := 1 + 6) (c := 1 + 7) (d := 1 + 8) (e := 1 + 9) (f := 1 + 10) hD.w1.sh hmd) ⟨_, _, rfl, rfl, _, 6, _, hD.w1.sh, rfl, rfl, rfl⟩ (Nat.le_of_ble_eq_true rfl) ⟨Nat.le_of_ble_eq_true rfl, Nat.le_of_ble_eq_true rfl⟩ ⟨Nat.le_of_ble_eq_true rfl, Nat.le_of_ble_eq_true rfl⟩ ?_
  show vm_J _ _ _ (22, (0, 0), [.ref 0, .int 12, .ref (1 + 4)], [.int 1]) (G, I, F) _ _
  refine vm_J.go vm_q124 (k := 1) (hs := []) (f' := (bif vm_ic .ne 1 0 then 29 else 25, (0, 0), [.ref 0, .int 12, .ref (1 + 4)], [])) (h' := (G, I, F)) (hs' := []) rfl rfl ?_
  refine vm_J.bT (by decide) ?_
  refine vm_J.go vm_q124 (k := 7) (hs := [(8, 9, [.int 0, .int 0, .int 0, .ref (1 + 5), .ref (1 + 6), .ref (1 + 7), .ref (1 + 8), .ref (1 + 9), .ref (1 + 10)])]) (f' := (137, (0, 0), [.ref 0, .int 12, .ref (1 + 4)], [.int (12 - 10), .ref (1 + 8)])) (h' := (G, I, F)) (hs' := []) rfl (vm_b2 rfl (vm_b2 rfl (vm_b2 rfl (vm_b2 (vm_b2 (vm_hG hD.w1.sh) rfl) (vm_b2 rfl (vm_b2 rfl (vm_b2 rfl rfl))))))) ?_
  rw [(show (12 - 10 : Int32) = 2 from by decide)]
  refine vm_J.call vm_q124 (Z := vm_M154) (n := 2) (k := 1) (mi := 154) (pc := 137) (en := (137, .invokestatic 296, 3, [154, 923, 0], .null)) rfl trivial rfl rfl vm_z154 (av := [.ref (1 + 8), .int 2]) (rest := []) (m_floatAt_n (a := 1 + 8) (j := 2) hD.w1.s4 (by decide) (by omega)) rfl (Nat.le_of_ble_eq_true rfl) ⟨Nat.le_of_ble_eq_true rfl, Nat.le_of_ble_eq_true rfl⟩ ⟨Nat.le_of_ble_eq_true rfl, Nat.le_of_ble_eq_true rfl⟩ ?_
  show vm_J _ _ _ (140, (0, 0), [.ref 0, .int 12, .ref (1 + 4)], [.float (F (1 + 8) 2)]) (G, I, F) _ _
  refine vm_J.call vm_q124 (Z := vm_M162) (n := 1) (k := 1) (mi := 162) (pc := 140) (en := (140, .invokestatic 300, 3, [162, 924, 0], .null)) rfl trivial rfl rfl vm_z162 (av := [.float (F (1 + 8) 2)]) (rest := []) (m_floatBits (v := (F (1 + 8) 2)) hf hnz) rfl (Nat.le_of_ble_eq_true rfl) ⟨Nat.le_of_ble_eq_true rfl, Nat.le_of_ble_eq_true rfl⟩ ⟨Nat.le_of_ble_eq_true rfl, Nat.le_of_ble_eq_true rfl⟩ ?_
  show vm_J _ _ _ (143, (0, 0), [.ref 0, .int 12, .ref (1 + 4)], [.int ((F (1 + 8) 2).toInt32)]) (G, I, F) _ _
  refine vm_J.go vm_q124 (k := 1) (hs := []) (f' := (144, (0, 0), [.ref 0, .int 12, .ref (1 + 4)], [.long (((F (1 + 8) 2).toInt32).toInt64)])) (h' := (G, I, F)) (hs' := []) rfl rfl ?_
  exact vm_J.end vm_q124 (en := (144, .lreturn, 1, [], .null)) rfl rfl vm_rL (Nat.zero_le _) (Nat.zero_le _) rfl
set_option maxHeartbeats 4000000 in
set_option maxRecDepth 20000 in
/-- DitherDeskModel.sum -/
theorem r_sum_12 {l : Launch} {X : vm_Cx} {G : List vm_Sh} {I : Nat → Nat → Int32} {F : Nat → Nat → UInt32} {w : Nat} {h : Nat} (hR : vm_isR G) (hw : I 173 0 = nI w) (hh : I 174 0 = nI h) (hw2 : w ≤ 12) (hh2 : h ≤ 12) (hw0 : 0 < w) (hf : ∃ s_ c_ q_, vf_d (F 179 2) = .fin s_ c_ q_) : vm_K l X vm_M265 [.ref 152, .int 12] (G, I, F) (some (.long ((F 179 2).toInt32.toInt64))) (G, (vm_up I 152 40 0), F) := by
  refine vm_K.mk (by decide) (Nat.le_of_ble_eq_true rfl) ?_
  obtain ⟨s_, c_, q_, hf⟩ := hf
  have hf := vf_self hf
  show vm_J _ _ _ (0, (0, 0), [.ref 152, .int 12], []) _ _ _
  refine vm_J.go vm_q265 (k := 1) (hs := []) (f' := (1, (0, 0), [.ref 152, .int 12], [.ref 152])) (h' := (G, I, F)) (hs' := []) rfl rfl ?_
  refine vm_J.call vm_q265 (Z := vm_M262) (n := 0) (k := 0) (mi := 262) (pc := 1) (en := (1, .invokevirtual 424, 3, [262, 1660, 0], .null)) rfl trivial rfl rfl vm_z262 (av := [.ref 152]) (rest := []) (r_isMade_y hR hw hw2 hw0) ⟨_, _, rfl, rfl, _, 11, _, hR.c152, rfl, rfl, rfl⟩ (Nat.le_of_ble_eq_true rfl) ⟨Nat.le_of_ble_eq_true rfl, Nat.le_of_ble_eq_true rfl⟩ ⟨Nat.le_of_ble_eq_true rfl, Nat.le_of_ble_eq_true rfl⟩ ?_
  show vm_J _ _ _ (4, (0, 0), [.ref 152, .int 12], [.int 1]) (G, (vm_up I 152 40 0), F) _ _
  refine vm_J.go vm_q265 (k := 1) (hs := []) (f' := (bif vm_ic .ne 1 0 then 11 else 7, (0, 0), [.ref 152, .int 12], [])) (h' := (G, (vm_up I 152 40 0), F)) (hs' := []) rfl rfl ?_
  refine vm_J.bT (by decide) ?_
  refine vm_J.go vm_q265 (k := 3) (hs := []) (f' := (14, (0, 0), [.ref 152, .int 12], [.int 2, .int 0, .int 12])) (h' := (G, (vm_up I 152 40 0), F)) (hs' := []) rfl rfl ?_
  refine vm_J.call vm_q265 (Z := vm_M168) (n := 3) (k := 1) (mi := 168) (pc := 14) (en := (14, .invokestatic 141, 3, [168, 1302, 0], .null)) rfl trivial rfl rfl vm_z168 (av := [.int 12, .int 0, .int 2]) (rest := []) (r_isIn_n (v := 12) (a := 0) (b := 2) (by decide)) rfl (Nat.le_of_ble_eq_true rfl) ⟨Nat.le_of_ble_eq_true rfl, Nat.le_of_ble_eq_true rfl⟩ ⟨Nat.le_of_ble_eq_true rfl, Nat.le_of_ble_eq_true rfl⟩ ?_
  show vm_J _ _ _ (17, (0, 0), [.ref 152, .int 12], [.int 0]) (G, (vm_up I 152 40 0), F) _ _
  refine vm_J.go vm_q265 (k := 1) (hs := []) (f' := (bif vm_ic .eq 0 0 then 27 else 20, (0, 0), [.ref 152, .int 12], [])) (h' := (G, (vm_up I 152 40 0), F)) (hs' := []) rfl rfl ?_
  refine vm_J.bT (by decide) ?_
  refine vm_J.go vm_q265 (k := 3) (hs := []) (f' := (31, (0, 0), [.ref 152, .int 12], [.int 6, .int 4, .int 12])) (h' := (G, (vm_up I 152 40 0), F)) (hs' := []) rfl rfl ?_
  refine vm_J.call vm_q265 (Z := vm_M168) (n := 3) (k := 1) (mi := 168) (pc := 31) (en := (31, .invokestatic 141, 3, [168, 1302, 0], .null)) rfl trivial rfl rfl vm_z168 (av := [.int 12, .int 4, .int 6]) (rest := []) (r_isIn_n (v := 12) (a := 4) (b := 6) (by decide)) rfl (Nat.le_of_ble_eq_true rfl) ⟨Nat.le_of_ble_eq_true rfl, Nat.le_of_ble_eq_true rfl⟩ ⟨Nat.le_of_ble_eq_true rfl, Nat.le_of_ble_eq_true rfl⟩ ?_
  show vm_J _ _ _ (34, (0, 0), [.ref 152, .int 12], [.int 0]) (G, (vm_up I 152 40 0), F) _ _
  refine vm_J.go vm_q265 (k := 1) (hs := []) (f' := (bif vm_ic .eq 0 0 then 46 else 37, (0, 0), [.ref 152, .int 12], [])) (h' := (G, (vm_up I 152 40 0), F)) (hs' := []) rfl rfl ?_
  refine vm_J.bT (by decide) ?_
  refine vm_J.go vm_q265 (k := 3) (hs := []) (f' := (51, (0, 0), [.ref 152, .int 12], [.int 12, .int 10, .int 12])) (h' := (G, (vm_up I 152 40 0), F)) (hs' := []) rfl rfl ?_
  refine vm_J.call vm_q265 (Z := vm_M168) (n := 3) (k := 1) (mi := 168) (pc := 51) (en := (51, .invokestatic 141, 3, [168, 1302, 0], .null)) rfl trivial rfl rfl vm_z168 (av := [.int 12, .int 10, .int 12]) (rest := []) (r_isIn_y (v := 12) (a := 10) (b := 12) (by decide)) rfl (Nat.le_of_ble_eq_true rfl) ⟨Nat.le_of_ble_eq_true rfl, Nat.le_of_ble_eq_true rfl⟩ ⟨Nat.le_of_ble_eq_true rfl, Nat.le_of_ble_eq_true rfl⟩ ?_
  show vm_J _ _ _ (54, (0, 0), [.ref 152, .int 12], [.int 1]) (G, (vm_up I 152 40 0), F) _ _
  refine vm_J.go vm_q265 (k := 1) (hs := []) (f' := (bif vm_ic .eq 1 0 then 71 else 57, (0, 0), [.ref 152, .int 12], [])) (h' := (G, (vm_up I 152 40 0), F)) (hs' := []) rfl rfl ?_
  refine vm_J.bF (by decide) ?_
  refine vm_J.go vm_q265 (k := 5) (hs := [vm_shR]) (f' := (65, (0, 0), [.ref 152, .int 12], [.int (12 - 10), .ref 179])) (h' := (G, (vm_up I 152 40 0), F)) (hs' := []) rfl (vm_b2 rfl (vm_b2 (vm_b2 (vm_hG hR.c152) rfl) (vm_b2 rfl (vm_b2 rfl (vm_b2 rfl rfl))))) ?_
  rw [(show (12 - 10 : Int32) = 2 from by decide)]
  refine vm_J.go vm_q265 (k := 1) (hs := [(1, 6, [])]) (f' := (66, (0, 0), [.ref 152, .int 12], [.float (F 179 2)])) (h' := (G, (vm_up I 152 40 0), F)) (hs' := []) rfl (vm_b2 (vm_b2 (vm_hG hR.c179) rfl) rfl) ?_
  refine vm_J.call vm_q265 (Z := vm_M297) (n := 1) (k := 1) (mi := 297) (pc := 66) (en := (66, .invokestatic 430, 3, [297, 1680, 0], .null)) rfl trivial rfl rfl vm_z297 (av := [.float (F 179 2)]) (rest := []) (r_f2b (v := (F 179 2)) hf) rfl (Nat.le_of_ble_eq_true rfl) ⟨Nat.le_of_ble_eq_true rfl, Nat.le_of_ble_eq_true rfl⟩ ⟨Nat.le_of_ble_eq_true rfl, Nat.le_of_ble_eq_true rfl⟩ ?_
  show vm_J _ _ _ (69, (0, 0), [.ref 152, .int 12], [.int ((F 179 2).toInt32)]) (G, (vm_up I 152 40 0), F) _ _
  refine vm_J.go vm_q265 (k := 1) (hs := []) (f' := (70, (0, 0), [.ref 152, .int 12], [.long (((F 179 2).toInt32).toInt64)])) (h' := (G, (vm_up I 152 40 0), F)) (hs' := []) rfl rfl ?_
  exact vm_J.end vm_q265 (en := (70, .lreturn, 1, [], .null)) rfl rfl vm_rL (Nat.zero_le _) (Nat.zero_le _) rfl
