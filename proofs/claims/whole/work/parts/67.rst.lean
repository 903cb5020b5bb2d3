set_option maxHeartbeats 4000000 in
set_option maxRecDepth 20000 in
/-- DitherDeskModel.channelAt -/
theorem r_chAt {l : Launch} {X : vm_Cx} {G : List vm_Sh} {I : Nat → Nat → Int32} {F : Nat → Nat → UInt32} {s : Nat} {i : Nat} {c : Int32} (hR : vm_isR G) (hs : I 152 40 = nI s) (hs2 : s < 2) (hi : i < 144) : vm_K l X vm_M241 [.ref 152, .int (nI i), .int c] (G, I, F) (some (.int (sp_ch (I 176 (144 * s + i)) c))) (G, I, F) := by
  refine vm_K.mk (by decide) (Nat.le_of_ble_eq_true rfl) ?_
  show vm_J _ _ _ (0, (0, 0), [.ref 152, .int (nI i), .int c], []) _ _ _
  refine vm_J.go vm_q241 (k := 5) (hs := [vm_shR, vm_shR]) (f' := (11, (0, 0), [.ref 152, .int (nI i), .int c], [.int (I 152 40), .int 144, .ref 176])) (h' := (G, I, F)) (hs' := []) rfl (vm_b2 rfl (vm_b2 (vm_b2 (vm_hG hR.c152) rfl) (vm_b2 rfl (vm_b2 rfl (vm_b2 (vm_b2 (vm_hG hR.c152) rfl) rfl))))) ?_
  rw [(hs : I 152 40 = nI s)]
  refine vm_J.go vm_q241 (k := 5) (hs := [(0, 288, [])]) (f' := (16, (0, 0), [.ref 152, .int (nI i), .int c], [.int c, .int (I 176 ((144 * (nI s)) + (nI i)).toNatClampNeg)])) (h' := (G, I, F)) (hs' := []) rfl (vm_b2 rfl (vm_b2 rfl (vm_b2 rfl (vm_b2 (vm_b2 (vm_hG hR.c176) (vm_in_e (j := (144 * s) + i) (n := 288) (vm_pa (vm_pm (rfl : (144 : Int32) = nI 144) (rfl : (nI s : Int32) = nI s)) (rfl : (nI i : Int32) = nI i)) (by omega) (by omega))) (vm_b2 rfl rfl))))) ?_
  rw [vm_ix_e (j := (144 * s) + i) (vm_pa (vm_pm (rfl : (144 : Int32) = nI 144) (rfl : (nI s : Int32) = nI s)) (rfl : (nI i : Int32) = nI i)) (by omega)]
  refine vm_J.call vm_q241 (Z := vm_M170) (n := 2) (k := 1) (mi := 170) (pc := 16) (en := (16, .invokestatic 180, 3, [170, 1348, 0], .null)) rfl trivial rfl rfl vm_z170 (av := [.int (I 176 ((144 * s) + i)), .int c]) (rest := []) (r_channelOf (c := I 176 ((144 * s) + i)) (k := c)) rfl (Nat.le_of_ble_eq_true rfl) ⟨Nat.le_of_ble_eq_true rfl, Nat.le_of_ble_eq_true rfl⟩ ⟨Nat.le_of_ble_eq_true rfl, Nat.le_of_ble_eq_true rfl⟩ ?_
  show vm_J _ _ _ (19, (0, 0), [.ref 152, .int (nI i), .int c], [.int (sp_ch (I 176 ((144 * s) + i)) c)]) (G, I, F) _ _
  exact vm_J.end vm_q241 (en := (19, .ireturn, 1, [], .null)) rfl rfl vm_rI (Nat.zero_le _) (Nat.zero_le _) rfl
set_option maxHeartbeats 4000000 in
set_option maxRecDepth 20000 in
/-- DitherDeskModel.shiftAt -/
theorem r_shAt {l : Launch} {X : vm_Cx} {G : List vm_Sh} {I : Nat → Nat → Int32} {F : Nat → Nat → UInt32} {s : Nat} {i : Nat} {c : Int32} (hR : vm_isR G) (hs : I 152 40 = nI s) (hs2 : s < 2) (hi : i < 144) : vm_K l X vm_M253 [.ref 152, .int (nI i), .int c] (G, I, F) (some (.int (sp_sh (fun z => I 178 (144 * s + z)) (fun z => I 176 (144 * s + z)) c i))) (G, I, F) := by
  refine vm_K.mk (by decide) (Nat.le_of_ble_eq_true rfl) ?_
  show vm_J _ _ _ (0, (0, 0), [.ref 152, .int (nI i), .int c], []) _ _ _
  refine vm_J.go vm_q253 (k := 5) (hs := [vm_shR, vm_shR]) (f' := (11, (0, 0), [.ref 152, .int (nI i), .int c], [.int (I 152 40), .int 144, .ref 178])) (h' := (G, I, F)) (hs' := []) rfl (vm_b2 rfl (vm_b2 (vm_b2 (vm_hG hR.c152) rfl) (vm_b2 rfl (vm_b2 rfl (vm_b2 (vm_b2 (vm_hG hR.c152) rfl) rfl))))) ?_
  rw [(hs : I 152 40 = nI s)]
  refine vm_J.go vm_q253 (k := 5) (hs := [(0, 288, [])]) (f' := (16, (0, 0), [.ref 152, .int (nI i), .int c], [.int c, .int (I 178 ((144 * (nI s)) + (nI i)).toNatClampNeg)])) (h' := (G, I, F)) (hs' := []) rfl (vm_b2 rfl (vm_b2 rfl (vm_b2 rfl (vm_b2 (vm_b2 (vm_hG hR.c178) (vm_in_e (j := (144 * s) + i) (n := 288) (vm_pa (vm_pm (rfl : (144 : Int32) = nI 144) (rfl : (nI s : Int32) = nI s)) (rfl : (nI i : Int32) = nI i)) (by omega) (by omega))) (vm_b2 rfl rfl))))) ?_
  rw [vm_ix_e (j := (144 * s) + i) (vm_pa (vm_pm (rfl : (144 : Int32) = nI 144) (rfl : (nI s : Int32) = nI s)) (rfl : (nI i : Int32) = nI i)) (by omega)]
  refine vm_J.call vm_q253 (Z := vm_M170) (n := 2) (k := 1) (mi := 170) (pc := 16) (en := (16, .invokestatic 180, 3, [170, 1348, 0], .null)) rfl trivial rfl rfl vm_z170 (av := [.int (I 178 ((144 * s) + i)), .int c]) (rest := []) (r_channelOf (c := I 178 ((144 * s) + i)) (k := c)) rfl (Nat.le_of_ble_eq_true rfl) ⟨Nat.le_of_ble_eq_true rfl, Nat.le_of_ble_eq_true rfl⟩ ⟨Nat.le_of_ble_eq_true rfl, Nat.le_of_ble_eq_true rfl⟩ ?_
  show vm_J _ _ _ (19, (0, 0), [.ref 152, .int (nI i), .int c], [.int (sp_ch (I 178 ((144 * s) + i)) c)]) (G, I, F) _ _
  refine vm_J.go vm_q253 (k := 3) (hs := []) (f' := (22, (0, 0), [.ref 152, .int (nI i), .int c], [.int c, .int (nI i), .ref 152, .int (sp_ch (I 178 ((144 * s) + i)) c)])) (h' := (G, I, F)) (hs' := []) rfl rfl ?_
  refine vm_J.call vm_q253 (Z := vm_M241) (n := 2) (k := 0) (mi := 241) (pc := 22) (en := (22, .invokevirtual 353, 3, [241, 1603, 0], .null)) rfl trivial rfl rfl vm_z241 (av := [.ref 152, .int (nI i), .int c]) (rest := [.int (sp_ch (I 178 ((144 * s) + i)) c)]) (r_chAt (s := s) (i := i) (c := c) hR hs (by omega) (by omega)) ⟨_, _, rfl, rfl, _, 11, _, hR.c152, rfl, rfl, rfl⟩ (Nat.le_of_ble_eq_true rfl) ⟨Nat.le_of_ble_eq_true rfl, Nat.le_of_ble_eq_true rfl⟩ ⟨Nat.le_of_ble_eq_true rfl, Nat.le_of_ble_eq_true rfl⟩ ?_
  show vm_J _ _ _ (25, (0, 0), [.ref 152, .int (nI i), .int c], [.int (sp_ch (I 176 (144 * s + i)) c), .int (sp_ch (I 178 ((144 * s) + i)) c)]) (G, I, F) _ _
  refine vm_J.go vm_q253 (k := 1) (hs := []) (f' := (26, (0, 0), [.ref 152, .int (nI i), .int c], [.int ((sp_ch (I 178 ((144 * s) + i)) c) - (sp_ch (I 176 (144 * s + i)) c))])) (h' := (G, I, F)) (hs' := []) rfl rfl ?_
  exact vm_J.end vm_q253 (en := (26, .ireturn, 1, [], .null)) rfl rfl vm_rI (Nat.zero_le _) (Nat.zero_le _) rfl
set_option maxHeartbeats 4000000 in
set_option maxRecDepth 20000 in
/-- DitherDeskModel.sheetPixels -/
theorem r_shPix {l : Launch} {X : vm_Cx} {G : List vm_Sh} {I : Nat → Nat → Int32} {F : Nat → Nat → UInt32} {s : Nat} {w : Nat} {h : Nat} (hR : vm_isR G) (hs : I 152 40 = nI s) (hw : I 173 s = nI w) (hh : I 174 s = nI h) (hs2 : s < 2) (hw2 : w ≤ 12) (hh2 : h ≤ 12) : vm_K l X vm_M251 [.ref 152] (G, I, F) (some (.int (nI (w * h)))) (G, I, F) := by
  refine vm_K.mk (by decide) (Nat.le_of_ble_eq_true rfl) ?_
  show vm_J _ _ _ (0, (0, 0), [.ref 152], []) _ _ _
  refine vm_J.go vm_q251 (k := 4) (hs := [vm_shR, vm_shR]) (f' := (8, (0, 0), [.ref 152], [.int (I 152 40), .ref 173])) (h' := (G, I, F)) (hs' := []) rfl (vm_b2 rfl (vm_b2 (vm_b2 (vm_hG hR.c152) rfl) (vm_b2 rfl (vm_b2 (vm_b2 (vm_hG hR.c152) rfl) rfl)))) ?_
  rw [(hs : I 152 40 = nI s)]
  refine vm_J.go vm_q251 (k := 1) (hs := [(0, 2, [])]) (f' := (9, (0, 0), [.ref 152], [.int (I 173 (nI s).toNatClampNeg)])) (h' := (G, I, F)) (hs' := []) rfl (vm_b2 (vm_b2 (vm_hG hR.c173) (vm_in_e (j := s) (n := 2) rfl (by omega) (by omega))) rfl) ?_
  rw [vm_ix_e (j := s) rfl (by omega)]
  rw [(hw : I 173 s = nI w)]
  refine vm_J.go vm_q251 (k := 4) (hs := [vm_shR, vm_shR]) (f' := (17, (0, 0), [.ref 152], [.int (I 152 40), .ref 174, .int (nI w)])) (h' := (G, I, F)) (hs' := []) rfl (vm_b2 rfl (vm_b2 (vm_b2 (vm_hG hR.c152) rfl) (vm_b2 rfl (vm_b2 (vm_b2 (vm_hG hR.c152) rfl) rfl)))) ?_
  rw [(hs : I 152 40 = nI s)]
  refine vm_J.go vm_q251 (k := 1) (hs := [(0, 2, [])]) (f' := (18, (0, 0), [.ref 152], [.int (I 174 (nI s).toNatClampNeg), .int (nI w)])) (h' := (G, I, F)) (hs' := []) rfl (vm_b2 (vm_b2 (vm_hG hR.c174) (vm_in_e (j := s) (n := 2) rfl (by omega) (by omega))) rfl) ?_
  rw [vm_ix_e (j := s) rfl (by omega)]
  rw [(hh : I 174 s = nI h)]
  refine vm_J.go vm_q251 (k := 1) (hs := []) (f' := (19, (0, 0), [.ref 152], [.int ((nI w) * (nI h))])) (h' := (G, I, F)) (hs' := []) rfl rfl ?_
  rw [((vm_pm (rfl : (nI w : Int32) = nI w) (rfl : (nI h : Int32) = nI h)) : (nI w) * (nI h) = nI (w * h))]
  exact vm_J.end vm_q251 (en := (19, .ireturn, 1, [], .null)) rfl rfl vm_rI (Nat.zero_le _) (Nat.zero_le _) rfl
set_option maxHeartbeats 4000000 in
set_option maxRecDepth 20000 in
/-- DitherDeskModel.errorOn -/
theorem r_errOn {l : Launch} {X : vm_Cx} {G : List vm_Sh} {I : Nat → Nat → Int32} {F : Nat → Nat → UInt32} {s : Nat} {w : Nat} {h : Nat} {c : Int32} (hR : vm_isR G) (hs : I 152 40 = nI s) (hw : I 173 s = nI w) (hh : I 174 s = nI h) (hs2 : s < 2) (hw2 : w ≤ 12) (hh2 : h ≤ 12) : vm_K l X vm_M254 [.ref 152, .int c] (G, I, F) (some (.int (sp_sum (fun y => sp_sh (fun z => I 178 (144 * s + z)) (fun z => I 176 (144 * s + z)) c y * sp_sh (fun z => I 178 (144 * s + z)) (fun z => I 176 (144 * s + z)) c y) (w * h)))) (G, I, F) := by
  refine vm_K.mk (by decide) (Nat.le_of_ble_eq_true rfl) ?_
  have hwh := vm_mul144 hw2 hh2
  show vm_J _ _ _ (0, (0, 0), [.ref 152, .int c, .retAddr 0, .retAddr 0], []) _ _ _
  refine vm_J.go vm_q254 (k := 4) (hs := []) (f' := (4, (0, 0), [.ref 152, .int c, .int 0, .int 0], [])) (h' := (G, I, F)) (hs' := []) rfl rfl ?_
  refine vm_J.cnt (w * h) (fun j => (4, (0, 0), [.ref 152, .int c, .int (sp_sum (fun y => sp_sh (fun z => I 178 (144 * s + z)) (fun z => I 176 (144 * s + z)) c y * sp_sh (fun z => I 178 (144 * s + z)) (fun z => I 176 (144 * s + z)) c y) j), .int (nI j)], [])) (fun j => (G, I, F)) (fun _ => True) rfl rfl trivial (fun j hj pj ij => ?_) (fun pj => ?_)
  · show vm_J _ _ _ (4, (0, 0), [.ref 152, .int c, .int (sp_sum (fun y => sp_sh (fun z => I 178 (144 * s + z)) (fun z => I 176 (144 * s + z)) c y * sp_sh (fun z => I 178 (144 * s + z)) (fun z => I 176 (144 * s + z)) c y) j), .int (nI j)], []) (G, I, F) _ _
    refine vm_J.go vm_q254 (k := 2) (hs := []) (f' := (6, (0, 0), [.ref 152, .int c, .int (sp_sum (fun y => sp_sh (fun z => I 178 (144 * s + z)) (fun z => I 176 (144 * s + z)) c y * sp_sh (fun z => I 178 (144 * s + z)) (fun z => I 176 (144 * s + z)) c y) j), .int (nI j)], [.ref 152, .int (nI j)])) (h' := (G, I, F)) (hs' := []) rfl rfl ?_
    refine vm_J.call vm_q254 (Z := vm_M251) (n := 0) (k := 0) (mi := 251) (pc := 6) (en := (6, .invokevirtual 396, 3, [251, 1587, 0], .null)) rfl trivial rfl rfl vm_z251 (av := [.ref 152]) (rest := [.int (nI j)]) (r_shPix (s := s) (w := w) (h := h) hR hs hw hh (by omega) (by omega) (by omega)) ⟨_, _, rfl, rfl, _, 11, _, hR.c152, rfl, rfl, rfl⟩ (Nat.le_of_ble_eq_true rfl) ⟨Nat.le_of_ble_eq_true rfl, Nat.le_of_ble_eq_true rfl⟩ ⟨Nat.le_of_ble_eq_true rfl, Nat.le_of_ble_eq_true rfl⟩ ?_
    show vm_J _ _ _ (9, (0, 0), [.ref 152, .int c, .int (sp_sum (fun y => sp_sh (fun z => I 178 (144 * s + z)) (fun z => I 176 (144 * s + z)) c y * sp_sh (fun z => I 178 (144 * s + z)) (fun z => I 176 (144 * s + z)) c y) j), .int (nI j)], [.int (nI (w * h)), .int (nI j)]) (G, I, F) _ _
    refine vm_J.go vm_q254 (k := 1) (hs := []) (f' := (bif vm_ic .ge (nI j) (nI (w * h)) then 34 else 12, (0, 0), [.ref 152, .int c, .int (sp_sum (fun y => sp_sh (fun z => I 178 (144 * s + z)) (fun z => I 176 (144 * s + z)) c y * sp_sh (fun z => I 178 (144 * s + z)) (fun z => I 176 (144 * s + z)) c y) j), .int (nI j)], [])) (h' := (G, I, F)) (hs' := []) rfl rfl ?_
    refine vm_J.br (fun c1 => ?_) (fun c1 => ?_)
    · have c1 := vm_ge_t (a := j) (b := w * h) (by omega) (by omega) c1
      exact (show False by omega).elim
    · have c1 := vm_ge_f (a := j) (b := w * h) (by omega) (by omega) c1
      refine vm_J.go vm_q254 (k := 4) (hs := []) (f' := (16, (0, 0), [.ref 152, .int c, .int (sp_sum (fun y => sp_sh (fun z => I 178 (144 * s + z)) (fun z => I 176 (144 * s + z)) c y * sp_sh (fun z => I 178 (144 * s + z)) (fun z => I 176 (144 * s + z)) c y) j), .int (nI j)], [.int c, .int (nI j), .ref 152, .int (sp_sum (fun y => sp_sh (fun z => I 178 (144 * s + z)) (fun z => I 176 (144 * s + z)) c y * sp_sh (fun z => I 178 (144 * s + z)) (fun z => I 176 (144 * s + z)) c y) j)])) (h' := (G, I, F)) (hs' := []) rfl rfl ?_
      refine vm_J.call vm_q254 (Z := vm_M253) (n := 2) (k := 0) (mi := 253) (pc := 16) (en := (16, .invokevirtual 406, 3, [253, 1672, 0], .null)) rfl trivial rfl rfl vm_z253 (av := [.ref 152, .int (nI j), .int c]) (rest := [.int (sp_sum (fun y => sp_sh (fun z => I 178 (144 * s + z)) (fun z => I 176 (144 * s + z)) c y * sp_sh (fun z => I 178 (144 * s + z)) (fun z => I 176 (144 * s + z)) c y) j)]) (r_shAt (s := s) (i := j) (c := c) hR hs (by omega) (by omega)) ⟨_, _, rfl, rfl, _, 11, _, hR.c152, rfl, rfl, rfl⟩ (Nat.le_of_ble_eq_true rfl) ⟨Nat.le_of_ble_eq_true rfl, Nat.le_of_ble_eq_true rfl⟩ ⟨Nat.le_of_ble_eq_true rfl, Nat.le_of_ble_eq_true rfl⟩ ?_
      show vm_J _ _ _ (19, (0, 0), [.ref 152, .int c, .int (sp_sum (fun y => sp_sh (fun z => I 178 (144 * s + z)) (fun z => I 176 (144 * s + z)) c y * sp_sh (fun z => I 178 (144 * s + z)) (fun z => I 176 (144 * s + z)) c y) j), .int (nI j)], [.int (sp_sh (fun z => I 178 (144 * s + z)) (fun z => I 176 (144 * s + z)) c j), .int (sp_sum (fun y => sp_sh (fun z => I 178 (144 * s + z)) (fun z => I 176 (144 * s + z)) c y * sp_sh (fun z => I 178 (144 * s + z)) (fun z => I 176 (144 * s + z)) c y) j)]) (G, I, F) _ _
      refine vm_J.go vm_q254 (k := 3) (hs := []) (f' := (22, (0, 0), [.ref 152, .int c, .int (sp_sum (fun y => sp_sh (fun z => I 178 (144 * s + z)) (fun z => I 176 (144 * s + z)) c y * sp_sh (fun z => I 178 (144 * s + z)) (fun z => I 176 (144 * s + z)) c y) j), .int (nI j)], [.int c, .int (nI j), .ref 152, .int (sp_sh (fun z => I 178 (144 * s + z)) (fun z => I 176 (144 * s + z)) c j), .int (sp_sum (fun y => sp_sh (fun z => I 178 (144 * s + z)) (fun z => I 176 (144 * s + z)) c y * sp_sh (fun z => I 178 (144 * s + z)) (fun z => I 176 (144 * s + z)) c y) j)])) (h' := (G, I, F)) (hs' := []) rfl rfl ?_
      refine vm_J.call vm_q254 (Z := vm_M253) (n := 2) (k := 0) (mi := 253) (pc := 22) (en := (22, .invokevirtual 406, 3, [253, 1672, 0], .null)) rfl trivial rfl rfl vm_z253 (av := [.ref 152, .int (nI j), .int c]) (rest := [.int (sp_sh (fun z => I 178 (144 * s + z)) (fun z => I 176 (144 * s + z)) c j), .int (sp_sum (fun y => sp_sh (fun z => I 178 (144 * s + z)) (fun z => I 176 (144 * s + z)) c y * sp_sh (fun z => I 178 (144 * s + z)) (fun z => I 176 (144 * s + z)) c y) j)]) (r_shAt (s := s) (i := j) (c := c) hR hs (by omega) (by omega)) ⟨_, _, rfl, rfl, _, 11, _, hR.c152, rfl, rfl, rfl⟩ (Nat.le_of_ble_eq_true rfl) ⟨Nat.le_of_ble_eq_true rfl, Nat.le_of_ble_eq_true rfl⟩ ⟨Nat.le_of_ble_eq_true rfl, Nat.le_of_ble_eq_true rfl⟩ ?_
      show vm_J _ _ _ (25, (0, 0), [.ref 152, .int c, .int (sp_sum (fun y => sp_sh (fun z => I 178 (144 * s + z)) (fun z => I 176 (144 * s + z)) c y * sp_sh (fun z => I 178 (144 * s + z)) (fun z => I 176 (144 * s + z)) c y) j), .int (nI j)], [.int (sp_sh (fun z => I 178 (144 * s + z)) (fun z => I 176 (144 * s + z)) c j), .int (sp_sh (fun z => I 178 (144 * s + z)) (fun z => I 176 (144 * s + z)) c j), .int (sp_sum (fun y => sp_sh (fun z => I 178 (144 * s + z)) (fun z => I 176 (144 * s + z)) c y * sp_sh (fun z => I 178 (144 * s + z)) (fun z => I 176 (144 * s + z)) c y) j)]) (G, I, F) _ _
      refine vm_J.go vm_q254 (k := 5) (hs := []) (f' := (4, (0, 0), [.ref 152, .int c, .int ((sp_sum (fun y => sp_sh (fun z => I 178 (144 * s + z)) (fun z => I 176 (144 * s + z)) c y * sp_sh (fun z => I 178 (144 * s + z)) (fun z => I 176 (144 * s + z)) c y) j) + ((sp_sh (fun z => I 178 (144 * s + z)) (fun z => I 176 (144 * s + z)) c j) * (sp_sh (fun z => I 178 (144 * s + z)) (fun z => I 176 (144 * s + z)) c j))), .int ((nI j) + 1)], [])) (h' := (G, I, F)) (hs' := []) rfl rfl ?_
      rw [((vm_pa (rfl : nI j = nI j) (rfl : (1 : Int32) = nI 1)) : (nI j) + 1 = nI (j + 1))]
      rw [show ((sp_sum (fun y => sp_sh (fun z => I 178 (144 * s + z)) (fun z => I 176 (144 * s + z)) c y * sp_sh (fun z => I 178 (144 * s + z)) (fun z => I 176 (144 * s + z)) c y) j) + ((sp_sh (fun z => I 178 (144 * s + z)) (fun z => I 176 (144 * s + z)) c j) * (sp_sh (fun z => I 178 (144 * s + z)) (fun z => I 176 (144 * s + z)) c j)) : Int32) = sp_sum (fun y => sp_sh (fun z => I 178 (144 * s + z)) (fun z => I 176 (144 * s + z)) c y * sp_sh (fun z => I 178 (144 * s + z)) (fun z => I 176 (144 * s + z)) c y) (j + 1) from by rfl]
      exact ij trivial
  · show vm_J _ _ _ (4, (0, 0), [.ref 152, .int c, .int (sp_sum (fun y => sp_sh (fun z => I 178 (144 * s + z)) (fun z => I 176 (144 * s + z)) c y * sp_sh (fun z => I 178 (144 * s + z)) (fun z => I 176 (144 * s + z)) c y) (w * h)), .int (nI (w * h))], []) (G, I, F) _ _
    refine vm_J.go vm_q254 (k := 2) (hs := []) (f' := (6, (0, 0), [.ref 152, .int c, .int (sp_sum (fun y => sp_sh (fun z => I 178 (144 * s + z)) (fun z => I 176 (144 * s + z)) c y * sp_sh (fun z => I 178 (144 * s + z)) (fun z => I 176 (144 * s + z)) c y) (w * h)), .int (nI (w * h))], [.ref 152, .int (nI (w * h))])) (h' := (G, I, F)) (hs' := []) rfl rfl ?_
    refine vm_J.call vm_q254 (Z := vm_M251) (n := 0) (k := 0) (mi := 251) (pc := 6) (en := (6, .invokevirtual 396, 3, [251, 1587, 0], .null)) rfl trivial rfl rfl vm_z251 (av := [.ref 152]) (rest := [.int (nI (w * h))]) (r_shPix (s := s) (w := w) (h := h) hR hs hw hh (by omega) (by omega) (by omega)) ⟨_, _, rfl, rfl, _, 11, _, hR.c152, rfl, rfl, rfl⟩ (Nat.le_of_ble_eq_true rfl) ⟨Nat.le_of_ble_eq_true rfl, Nat.le_of_ble_eq_true rfl⟩ ⟨Nat.le_of_ble_eq_true rfl, Nat.le_of_ble_eq_true rfl⟩ ?_
    show vm_J _ _ _ (9, (0, 0), [.ref 152, .int c, .int (sp_sum (fun y => sp_sh (fun z => I 178 (144 * s + z)) (fun z => I 176 (144 * s + z)) c y * sp_sh (fun z => I 178 (144 * s + z)) (fun z => I 176 (144 * s + z)) c y) (w * h)), .int (nI (w * h))], [.int (nI (w * h)), .int (nI (w * h))]) (G, I, F) _ _
    refine vm_J.go vm_q254 (k := 1) (hs := []) (f' := (bif vm_ic .ge (nI (w * h)) (nI (w * h)) then 34 else 12, (0, 0), [.ref 152, .int c, .int (sp_sum (fun y => sp_sh (fun z => I 178 (144 * s + z)) (fun z => I 176 (144 * s + z)) c y * sp_sh (fun z => I 178 (144 * s + z)) (fun z => I 176 (144 * s + z)) c y) (w * h)), .int (nI (w * h))], [])) (h' := (G, I, F)) (hs' := []) rfl rfl ?_
    refine vm_J.br (fun c2 => ?_) (fun c2 => ?_)
    · have c2 := vm_ge_t (a := (w * h)) (b := w * h) (by omega) (by omega) c2
      refine vm_J.go vm_q254 (k := 1) (hs := []) (f' := (35, (0, 0), [.ref 152, .int c, .int (sp_sum (fun y => sp_sh (fun z => I 178 (144 * s + z)) (fun z => I 176 (144 * s + z)) c y * sp_sh (fun z => I 178 (144 * s + z)) (fun z => I 176 (144 * s + z)) c y) (w * h)), .int (nI (w * h))], [.int (sp_sum (fun y => sp_sh (fun z => I 178 (144 * s + z)) (fun z => I 176 (144 * s + z)) c y * sp_sh (fun z => I 178 (144 * s + z)) (fun z => I 176 (144 * s + z)) c y) (w * h))])) (h' := (G, I, F)) (hs' := []) rfl rfl ?_
      exact vm_J.end vm_q254 (en := (35, .ireturn, 1, [], .null)) rfl rfl vm_rI (Nat.zero_le _) (Nat.zero_le _) rfl
    · have c2 := vm_ge_f (a := (w * h)) (b := w * h) (by omega) (by omega) c2
      exact (show False by omega).elim
set_option maxHeartbeats 4000000 in
set_option maxRecDepth 20000 in
/-- DitherDeskModel.shiftOn -/
theorem r_shOn {l : Launch} {X : vm_Cx} {G : List vm_Sh} {I : Nat → Nat → Int32} {F : Nat → Nat → UInt32} {s : Nat} {w : Nat} {h : Nat} {c : Int32} (hR : vm_isR G) (hs : I 152 40 = nI s) (hw : I 173 s = nI w) (hh : I 174 s = nI h) (hs2 : s < 2) (hw2 : w ≤ 12) (hh2 : h ≤ 12) : vm_K l X vm_M256 [.ref 152, .int c] (G, I, F) (some (.int (sp_sum (fun y => sp_sh (fun z => I 178 (144 * s + z)) (fun z => I 176 (144 * s + z)) c y) (w * h)))) (G, I, F) := by
  refine vm_K.mk (by decide) (Nat.le_of_ble_eq_true rfl) ?_
  have hwh := vm_mul144 hw2 hh2
  show vm_J _ _ _ (0, (0, 0), [.ref 152, .int c, .retAddr 0, .retAddr 0], []) _ _ _
  refine vm_J.go vm_q256 (k := 4) (hs := []) (f' := (4, (0, 0), [.ref 152, .int c, .int 0, .int 0], [])) (h' := (G, I, F)) (hs' := []) rfl rfl ?_
  refine vm_J.cnt (w * h) (fun j => (4, (0, 0), [.ref 152, .int c, .int (sp_sum (fun y => sp_sh (fun z => I 178 (144 * s + z)) (fun z => I 176 (144 * s + z)) c y) j), .int (nI j)], [])) (fun j => (G, I, F)) (fun _ => True) rfl rfl trivial (fun j hj pj ij => ?_) (fun pj => ?_)
  · show vm_J _ _ _ (4, (0, 0), [.ref 152, .int c, .int (sp_sum (fun y => sp_sh (fun z => I 178 (144 * s + z)) (fun z => I 176 (144 * s + z)) c y) j), .int (nI j)], []) (G, I, F) _ _
    refine vm_J.go vm_q256 (k := 2) (hs := []) (f' := (6, (0, 0), [.ref 152, .int c, .int (sp_sum (fun y => sp_sh (fun z => I 178 (144 * s + z)) (fun z => I 176 (144 * s + z)) c y) j), .int (nI j)], [.ref 152, .int (nI j)])) (h' := (G, I, F)) (hs' := []) rfl rfl ?_
    refine vm_J.call vm_q256 (Z := vm_M251) (n := 0) (k := 0) (mi := 251) (pc := 6) (en := (6, .invokevirtual 396, 3, [251, 1587, 0], .null)) rfl trivial rfl rfl vm_z251 (av := [.ref 152]) (rest := [.int (nI j)]) (r_shPix (s := s) (w := w) (h := h) hR hs hw hh (by omega) (by omega) (by omega)) ⟨_, _, rfl, rfl, _, 11, _, hR.c152, rfl, rfl, rfl⟩ (Nat.le_of_ble_eq_true rfl) ⟨Nat.le_of_ble_eq_true rfl, Nat.le_of_ble_eq_true rfl⟩ ⟨Nat.le_of_ble_eq_true rfl, Nat.le_of_ble_eq_true rfl⟩ ?_
    show vm_J _ _ _ (9, (0, 0), [.ref 152, .int c, .int (sp_sum (fun y => sp_sh (fun z => I 178 (144 * s + z)) (fun z => I 176 (144 * s + z)) c y) j), .int (nI j)], [.int (nI (w * h)), .int (nI j)]) (G, I, F) _ _
    refine vm_J.go vm_q256 (k := 1) (hs := []) (f' := (bif vm_ic .ge (nI j) (nI (w * h)) then 27 else 12, (0, 0), [.ref 152, .int c, .int (sp_sum (fun y => sp_sh (fun z => I 178 (144 * s + z)) (fun z => I 176 (144 * s + z)) c y) j), .int (nI j)], [])) (h' := (G, I, F)) (hs' := []) rfl rfl ?_
    refine vm_J.br (fun c1 => ?_) (fun c1 => ?_)
    · have c1 := vm_ge_t (a := j) (b := w * h) (by omega) (by omega) c1
      exact (show False by omega).elim
    · have c1 := vm_ge_f (a := j) (b := w * h) (by omega) (by omega) c1
      refine vm_J.go vm_q256 (k := 4) (hs := []) (f' := (16, (0, 0), [.ref 152, .int c, .int (sp_sum (fun y => sp_sh (fun z => I 178 (144 * s + z)) (fun z => I 176 (144 * s + z)) c y) j), .int (nI j)], [.int c, .int (nI j), .ref 152, .int (sp_sum (fun y => sp_sh (fun z => I 178 (144 * s + z)) (fun z => I 176 (144 * s + z)) c y) j)])) (h' := (G, I, F)) (hs' := []) rfl rfl ?_
      refine vm_J.call vm_q256 (Z := vm_M253) (n := 2) (k := 0) (mi := 253) (pc := 16) (en := (16, .invokevirtual 406, 3, [253, 1672, 0], .null)) rfl trivial rfl rfl vm_z253 (av := [.ref 152, .int (nI j), .int c]) (rest := [.int (sp_sum (fun y => sp_sh (fun z => I 178 (144 * s + z)) (fun z => I 176 (144 * s + z)) c y) j)]) (r_shAt (s := s) (i := j) (c := c) hR hs (by omega) (by omega)) ⟨_, _, rfl, rfl, _, 11, _, hR.c152, rfl, rfl, rfl⟩ (Nat.le_of_ble_eq_true rfl) ⟨Nat.le_of_ble_eq_true rfl, Nat.le_of_ble_eq_true rfl⟩ ⟨Nat.le_of_ble_eq_true rfl, Nat.le_of_ble_eq_true rfl⟩ ?_
      show vm_J _ _ _ (19, (0, 0), [.ref 152, .int c, .int (sp_sum (fun y => sp_sh (fun z => I 178 (144 * s + z)) (fun z => I 176 (144 * s + z)) c y) j), .int (nI j)], [.int (sp_sh (fun z => I 178 (144 * s + z)) (fun z => I 176 (144 * s + z)) c j), .int (sp_sum (fun y => sp_sh (fun z => I 178 (144 * s + z)) (fun z => I 176 (144 * s + z)) c y) j)]) (G, I, F) _ _
      refine vm_J.go vm_q256 (k := 4) (hs := []) (f' := (4, (0, 0), [.ref 152, .int c, .int ((sp_sum (fun y => sp_sh (fun z => I 178 (144 * s + z)) (fun z => I 176 (144 * s + z)) c y) j) + (sp_sh (fun z => I 178 (144 * s + z)) (fun z => I 176 (144 * s + z)) c j)), .int ((nI j) + 1)], [])) (h' := (G, I, F)) (hs' := []) rfl rfl ?_
      rw [((vm_pa (rfl : nI j = nI j) (rfl : (1 : Int32) = nI 1)) : (nI j) + 1 = nI (j + 1))]
      rw [show ((sp_sum (fun y => sp_sh (fun z => I 178 (144 * s + z)) (fun z => I 176 (144 * s + z)) c y) j) + (sp_sh (fun z => I 178 (144 * s + z)) (fun z => I 176 (144 * s + z)) c j) : Int32) = sp_sum (fun y => sp_sh (fun z => I 178 (144 * s + z)) (fun z => I 176 (144 * s + z)) c y) (j + 1) from by rfl]
      exact ij trivial
  · show vm_J _ _ _ (4, (0, 0), [.ref 152, .int c, .int (sp_sum (fun y => sp_sh (fun z => I 178 (144 * s + z)) (fun z => I 176 (144 * s + z)) c y) (w * h)), .int (nI (w * h))], []) (G, I, F) _ _
    refine vm_J.go vm_q256 (k := 2) (hs := []) (f' := (6, (0, 0), [.ref 152, .int c, .int (sp_sum (fun y => sp_sh (fun z => I 178 (144 * s + z)) (fun z => I 176 (144 * s + z)) c y) (w * h)), .int (nI (w * h))], [.ref 152, .int (nI (w * h))])) (h' := (G, I, F)) (hs' := []) rfl rfl ?_
    refine vm_J.call vm_q256 (Z := vm_M251) (n := 0) (k := 0) (mi := 251) (pc := 6) (en := (6, .invokevirtual 396, 3, [251, 1587, 0], .null)) rfl trivial rfl rfl vm_z251 (av := [.ref 152]) (rest := [.int (nI (w * h))]) (r_shPix (s := s) (w := w) (h := h) hR hs hw hh (by omega) (by omega) (by omega)) ⟨_, _, rfl, rfl, _, 11, _, hR.c152, rfl, rfl, rfl⟩ (Nat.le_of_ble_eq_true rfl) ⟨Nat.le_of_ble_eq_true rfl, Nat.le_of_ble_eq_true rfl⟩ ⟨Nat.le_of_ble_eq_true rfl, Nat.le_of_ble_eq_true rfl⟩ ?_
    show vm_J _ _ _ (9, (0, 0), [.ref 152, .int c, .int (sp_sum (fun y => sp_sh (fun z => I 178 (144 * s + z)) (fun z => I 176 (144 * s + z)) c y) (w * h)), .int (nI (w * h))], [.int (nI (w * h)), .int (nI (w * h))]) (G, I, F) _ _
    refine vm_J.go vm_q256 (k := 1) (hs := []) (f' := (bif vm_ic .ge (nI (w * h)) (nI (w * h)) then 27 else 12, (0, 0), [.ref 152, .int c, .int (sp_sum (fun y => sp_sh (fun z => I 178 (144 * s + z)) (fun z => I 176 (144 * s + z)) c y) (w * h)), .int (nI (w * h))], [])) (h' := (G, I, F)) (hs' := []) rfl rfl ?_
    refine vm_J.br (fun c2 => ?_) (fun c2 => ?_)
    · have c2 := vm_ge_t (a := (w * h)) (b := w * h) (by omega) (by omega) c2
      refine vm_J.go vm_q256 (k := 1) (hs := []) (f' := (28, (0, 0), [.ref 152, .int c, .int (sp_sum (fun y => sp_sh (fun z => I 178 (144 * s + z)) (fun z => I 176 (144 * s + z)) c y) (w * h)), .int (nI (w * h))], [.int (sp_sum (fun y => sp_sh (fun z => I 178 (144 * s + z)) (fun z => I 176 (144 * s + z)) c y) (w * h))])) (h' := (G, I, F)) (hs' := []) rfl rfl ?_
      exact vm_J.end vm_q256 (en := (28, .ireturn, 1, [], .null)) rfl rfl vm_rI (Nat.zero_le _) (Nat.zero_le _) rfl
    · have c2 := vm_ge_f (a := (w * h)) (b := w * h) (by omega) (by omega) c2
      exact (show False by omega).elim
/-- the error on all channels -/
def sp_e3 (f g : Nat → Int32) (n : Nat) : Int32 := sp_sum (fun y => sp_sh f g 0 y * sp_sh f g 0 y) n + sp_sum (fun y => sp_sh f g 1 y * sp_sh f g 1 y) n + sp_sum (fun y => sp_sh f g 2 y * sp_sh f g 2 y) n
set_option maxHeartbeats 4000000 in
set_option maxRecDepth 20000 in
/-- DitherDeskModel.errorNow -/
theorem r_errNow {l : Launch} {X : vm_Cx} {G : List vm_Sh} {I : Nat → Nat → Int32} {F : Nat → Nat → UInt32} {s : Nat} {w : Nat} {h : Nat} (hR : vm_isR G) (hs : I 152 40 = nI s) (hw : I 173 s = nI w) (hh : I 174 s = nI h) (hs2 : s < 2) (hw2 : w ≤ 12) (hh2 : h ≤ 12) : vm_K l X vm_M255 [.ref 152] (G, I, F) (some (.int (sp_e3 (fun z => I 178 (144 * s + z)) (fun z => I 176 (144 * s + z)) (w * h)))) (G, I, F) := by
  refine vm_K.mk (by decide) (Nat.le_of_ble_eq_true rfl) ?_
  show vm_J _ _ _ (0, (0, 0), [.ref 152], []) _ _ _
  refine vm_J.go vm_q255 (k := 2) (hs := []) (f' := (2, (0, 0), [.ref 152], [.int 0, .ref 152])) (h' := (G, I, F)) (hs' := []) rfl rfl ?_
  refine vm_J.call vm_q255 (Z := vm_M254) (n := 1) (k := 0) (mi := 254) (pc := 2) (en := (2, .invokevirtual 409, 3, [254, 1668, 0], .null)) rfl trivial rfl rfl vm_z254 (av := [.ref 152, .int 0]) (rest := []) (r_errOn (s := s) (w := w) (h := h) (c := 0) hR hs hw hh (by omega) (by omega) (by omega)) ⟨_, _, rfl, rfl, _, 11, _, hR.c152, rfl, rfl, rfl⟩ (Nat.le_of_ble_eq_true rfl) ⟨Nat.le_of_ble_eq_true rfl, Nat.le_of_ble_eq_true rfl⟩ ⟨Nat.le_of_ble_eq_true rfl, Nat.le_of_ble_eq_true rfl⟩ ?_
  show vm_J _ _ _ (5, (0, 0), [.ref 152], [.int (sp_sum (fun y => sp_sh (fun z => I 178 (144 * s + z)) (fun z => I 176 (144 * s + z)) 0 y * sp_sh (fun z => I 178 (144 * s + z)) (fun z => I 176 (144 * s + z)) 0 y) (w * h))]) (G, I, F) _ _
  refine vm_J.go vm_q255 (k := 2) (hs := []) (f' := (7, (0, 0), [.ref 152], [.int 1, .ref 152, .int (sp_sum (fun y => sp_sh (fun z => I 178 (144 * s + z)) (fun z => I 176 (144 * s + z)) 0 y * sp_sh (fun z => I 178 (144 * s + z)) (fun z => I 176 (144 * s + z)) 0 y) (w * h))])) (h' := (G, I, F)) (hs' := []) rfl rfl ?_
  refine vm_J.call vm_q255 (Z := vm_M254) (n := 1) (k := 0) (mi := 254) (pc := 7) (en := (7, .invokevirtual 409, 3, [254, 1668, 0], .null)) rfl trivial rfl rfl vm_z254 (av := [.ref 152, .int 1]) (rest := [.int (sp_sum (fun y => sp_sh (fun z => I 178 (144 * s + z)) (fun z => I 176 (144 * s + z)) 0 y * sp_sh (fun z => I 178 (144 * s + z)) (fun z => I 176 (144 * s + z)) 0 y) (w * h))]) (r_errOn (s := s) (w := w) (h := h) (c := 1) hR hs hw hh (by omega) (by omega) (by omega)) ⟨_, _, rfl, rfl, _, 11, _, hR.c152, rfl, rfl, rfl⟩ (Nat.le_of_ble_eq_true rfl) ⟨Nat.le_of_ble_eq_true rfl, Nat.le_of_ble_eq_true rfl⟩ ⟨Nat.le_of_ble_eq_true rfl, Nat.le_of_ble_eq_true rfl⟩ ?_
  show vm_J _ _ _ (10, (0, 0), [.ref 152], [.int (sp_sum (fun y => sp_sh (fun z => I 178 (144 * s + z)) (fun z => I 176 (144 * s + z)) 1 y * sp_sh (fun z => I 178 (144 * s + z)) (fun z => I 176 (144 * s + z)) 1 y) (w * h)), .int (sp_sum (fun y => sp_sh (fun z => I 178 (144 * s + z)) (fun z => I 176 (144 * s + z)) 0 y * sp_sh (fun z => I 178 (144 * s + z)) (fun z => I 176 (144 * s + z)) 0 y) (w * h))]) (G, I, F) _ _
  refine vm_J.go vm_q255 (k := 3) (hs := []) (f' := (13, (0, 0), [.ref 152], [.int 2, .ref 152, .int ((sp_sum (fun y => sp_sh (fun z => I 178 (144 * s + z)) (fun z => I 176 (144 * s + z)) 0 y * sp_sh (fun z => I 178 (144 * s + z)) (fun z => I 176 (144 * s + z)) 0 y) (w * h)) + (sp_sum (fun y => sp_sh (fun z => I 178 (144 * s + z)) (fun z => I 176 (144 * s + z)) 1 y * sp_sh (fun z => I 178 (144 * s + z)) (fun z => I 176 (144 * s + z)) 1 y) (w * h)))])) (h' := (G, I, F)) (hs' := []) rfl rfl ?_
  refine vm_J.call vm_q255 (Z := vm_M254) (n := 1) (k := 0) (mi := 254) (pc := 13) (en := (13, .invokevirtual 409, 3, [254, 1668, 0], .null)) rfl trivial rfl rfl vm_z254 (av := [.ref 152, .int 2]) (rest := [.int ((sp_sum (fun y => sp_sh (fun z => I 178 (144 * s + z)) (fun z => I 176 (144 * s + z)) 0 y * sp_sh (fun z => I 178 (144 * s + z)) (fun z => I 176 (144 * s + z)) 0 y) (w * h)) + (sp_sum (fun y => sp_sh (fun z => I 178 (144 * s + z)) (fun z => I 176 (144 * s + z)) 1 y * sp_sh (fun z => I 178 (144 * s + z)) (fun z => I 176 (144 * s + z)) 1 y) (w * h)))]) (r_errOn (s := s) (w := w) (h := h) (c := 2) hR hs hw hh (by omega) (by omega) (by omega)) ⟨_, _, rfl, rfl, _, 11, _, hR.c152, rfl, rfl, rfl⟩ (Nat.le_of_ble_eq_true rfl) ⟨Nat.le_of_ble_eq_true rfl, Nat.le_of_ble_eq_true rfl⟩ ⟨Nat.le_of_ble_eq_true rfl, Nat.le_of_ble_eq_true rfl⟩ ?_
  show vm_J _ _ _ (16, (0, 0), [.ref 152], [.int (sp_sum (fun y => sp_sh (fun z => I 178 (144 * s + z)) (fun z => I 176 (144 * s + z)) 2 y * sp_sh (fun z => I 178 (144 * s + z)) (fun z => I 176 (144 * s + z)) 2 y) (w * h)), .int ((sp_sum (fun y => sp_sh (fun z => I 178 (144 * s + z)) (fun z => I 176 (144 * s + z)) 0 y * sp_sh (fun z => I 178 (144 * s + z)) (fun z => I 176 (144 * s + z)) 0 y) (w * h)) + (sp_sum (fun y => sp_sh (fun z => I 178 (144 * s + z)) (fun z => I 176 (144 * s + z)) 1 y * sp_sh (fun z => I 178 (144 * s + z)) (fun z => I 176 (144 * s + z)) 1 y) (w * h)))]) (G, I, F) _ _
  refine vm_J.go vm_q255 (k := 1) (hs := []) (f' := (17, (0, 0), [.ref 152], [.int (((sp_sum (fun y => sp_sh (fun z => I 178 (144 * s + z)) (fun z => I 176 (144 * s + z)) 0 y * sp_sh (fun z => I 178 (144 * s + z)) (fun z => I 176 (144 * s + z)) 0 y) (w * h)) + (sp_sum (fun y => sp_sh (fun z => I 178 (144 * s + z)) (fun z => I 176 (144 * s + z)) 1 y * sp_sh (fun z => I 178 (144 * s + z)) (fun z => I 176 (144 * s + z)) 1 y) (w * h))) + (sp_sum (fun y => sp_sh (fun z => I 178 (144 * s + z)) (fun z => I 176 (144 * s + z)) 2 y * sp_sh (fun z => I 178 (144 * s + z)) (fun z => I 176 (144 * s + z)) 2 y) (w * h)))])) (h' := (G, I, F)) (hs' := []) rfl rfl ?_
  exact vm_J.end vm_q255 (en := (17, .ireturn, 1, [], .null)) rfl rfl vm_rI (Nat.zero_le _) (Nat.zero_le _) rfl
set_option maxHeartbeats 4000000 in
set_option maxRecDepth 20000 in
/-- DitherDeskModel.usedOf -/
theorem r_used {l : Launch} {X : vm_Cx} {G : List vm_Sh} {I : Nat → Nat → Int32} {F : Nat → Nat → UInt32} {s : Nat} {w : Nat} {h : Nat} {c : Int32} (hR : vm_isR G) (hs : I 152 40 = nI s) (hw : I 173 s = nI w) (hh : I 174 s = nI h) (hs2 : s < 2) (hw2 : w ≤ 12) (hh2 : h ≤ 12) : vm_K l X vm_M260 [.ref 152, .int c] (G, I, F) (some (.int (sp_sum (fun y => if I 177 (144 * s + y) = c then 1 else 0) (w * h)))) (G, I, F) := by
  refine vm_K.mk (by decide) (Nat.le_of_ble_eq_true rfl) ?_
  have hwh := vm_mul144 hw2 hh2
  show vm_J _ _ _ (0, (0, 0), [.ref 152, .int c, .retAddr 0, .retAddr 0], []) _ _ _
  refine vm_J.go vm_q260 (k := 4) (hs := []) (f' := (4, (0, 0), [.ref 152, .int c, .int 0, .int 0], [])) (h' := (G, I, F)) (hs' := []) rfl rfl ?_
  refine vm_J.cnt (w * h) (fun j => (4, (0, 0), [.ref 152, .int c, .int (sp_sum (fun y => if I 177 (144 * s + y) = c then 1 else 0) j), .int (nI j)], [])) (fun j => (G, I, F)) (fun _ => True) rfl rfl trivial (fun j hj pj ij => ?_) (fun pj => ?_)
  · show vm_J _ _ _ (4, (0, 0), [.ref 152, .int c, .int (sp_sum (fun y => if I 177 (144 * s + y) = c then 1 else 0) j), .int (nI j)], []) (G, I, F) _ _
    refine vm_J.go vm_q260 (k := 2) (hs := []) (f' := (6, (0, 0), [.ref 152, .int c, .int (sp_sum (fun y => if I 177 (144 * s + y) = c then 1 else 0) j), .int (nI j)], [.ref 152, .int (nI j)])) (h' := (G, I, F)) (hs' := []) rfl rfl ?_
    refine vm_J.call vm_q260 (Z := vm_M251) (n := 0) (k := 0) (mi := 251) (pc := 6) (en := (6, .invokevirtual 396, 3, [251, 1587, 0], .null)) rfl trivial rfl rfl vm_z251 (av := [.ref 152]) (rest := [.int (nI j)]) (r_shPix (s := s) (w := w) (h := h) hR hs hw hh (by omega) (by omega) (by omega)) ⟨_, _, rfl, rfl, _, 11, _, hR.c152, rfl, rfl, rfl⟩ (Nat.le_of_ble_eq_true rfl) ⟨Nat.le_of_ble_eq_true rfl, Nat.le_of_ble_eq_true rfl⟩ ⟨Nat.le_of_ble_eq_true rfl, Nat.le_of_ble_eq_true rfl⟩ ?_
    show vm_J _ _ _ (9, (0, 0), [.ref 152, .int c, .int (sp_sum (fun y => if I 177 (144 * s + y) = c then 1 else 0) j), .int (nI j)], [.int (nI (w * h)), .int (nI j)]) (G, I, F) _ _
    refine vm_J.go vm_q260 (k := 1) (hs := []) (f' := (bif vm_ic .ge (nI j) (nI (w * h)) then 45 else 12, (0, 0), [.ref 152, .int c, .int (sp_sum (fun y => if I 177 (144 * s + y) = c then 1 else 0) j), .int (nI j)], [])) (h' := (G, I, F)) (hs' := []) rfl rfl ?_
    refine vm_J.br (fun c1 => ?_) (fun c1 => ?_)
    · have c1 := vm_ge_t (a := j) (b := w * h) (by omega) (by omega) c1
      exact (show False by omega).elim
    · have c1 := vm_ge_f (a := j) (b := w * h) (by omega) (by omega) c1
      refine vm_J.go vm_q260 (k := 6) (hs := [vm_shR, vm_shR]) (f' := (24, (0, 0), [.ref 152, .int c, .int (sp_sum (fun y => if I 177 (144 * s + y) = c then 1 else 0) j), .int (nI j)], [.int (I 152 40), .int 144, .ref 177, .int (sp_sum (fun y => if I 177 (144 * s + y) = c then 1 else 0) j)])) (h' := (G, I, F)) (hs' := []) rfl (vm_b2 rfl (vm_b2 rfl (vm_b2 (vm_b2 (vm_hG hR.c152) rfl) (vm_b2 rfl (vm_b2 rfl (vm_b2 (vm_b2 (vm_hG hR.c152) rfl) rfl)))))) ?_
      rw [(hs : I 152 40 = nI s)]
      refine vm_J.go vm_q260 (k := 5) (hs := [(0, 288, [])]) (f' := (29, (0, 0), [.ref 152, .int c, .int (sp_sum (fun y => if I 177 (144 * s + y) = c then 1 else 0) j), .int (nI j)], [.int c, .int (I 177 ((144 * (nI s)) + (nI j)).toNatClampNeg), .int (sp_sum (fun y => if I 177 (144 * s + y) = c then 1 else 0) j)])) (h' := (G, I, F)) (hs' := []) rfl (vm_b2 rfl (vm_b2 rfl (vm_b2 rfl (vm_b2 (vm_b2 (vm_hG hR.c177) (vm_in_e (j := (144 * s) + j) (n := 288) (vm_pa (vm_pm (rfl : (144 : Int32) = nI 144) (rfl : (nI s : Int32) = nI s)) (rfl : (nI j : Int32) = nI j)) (by omega) (by omega))) (vm_b2 rfl rfl))))) ?_
      rw [vm_ix_e (j := (144 * s) + j) (vm_pa (vm_pm (rfl : (144 : Int32) = nI 144) (rfl : (nI s : Int32) = nI s)) (rfl : (nI j : Int32) = nI j)) (by omega)]
      refine vm_J.go vm_q260 (k := 1) (hs := []) (f' := (bif vm_ic .ne (I 177 ((144 * s) + j)) c then 36 else 32, (0, 0), [.ref 152, .int c, .int (sp_sum (fun y => if I 177 (144 * s + y) = c then 1 else 0) j), .int (nI j)], [.int (sp_sum (fun y => if I 177 (144 * s + y) = c then 1 else 0) j)])) (h' := (G, I, F)) (hs' := []) rfl rfl ?_
      refine vm_J.br (fun c2 => ?_) (fun c2 => ?_)
      · have c2 : ¬ (I 177 ((144 * s) + j)) = c := of_decide_eq_true c2
        refine vm_J.go vm_q260 (k := 5) (hs := []) (f' := (4, (0, 0), [.ref 152, .int c, .int ((sp_sum (fun y => if I 177 (144 * s + y) = c then 1 else 0) j) + 0), .int ((nI j) + 1)], [])) (h' := (G, I, F)) (hs' := []) rfl rfl ?_
        rw [((vm_pa (rfl : nI j = nI j) (rfl : (1 : Int32) = nI 1)) : (nI j) + 1 = nI (j + 1))]
        rw [show ((sp_sum (fun y => if I 177 (144 * s + y) = c then 1 else 0) j) + 0 : Int32) = sp_sum (fun y => if I 177 (144 * s + y) = c then 1 else 0) (j + 1) from by first | rw [sp_sum, if_pos c2] | (rw [sp_sum, if_neg c2])]
        exact ij trivial
      · have c2 : (I 177 ((144 * s) + j)) = c := Decidable.of_not_not (of_decide_eq_false c2)
        refine vm_J.go vm_q260 (k := 6) (hs := []) (f' := (4, (0, 0), [.ref 152, .int c, .int ((sp_sum (fun y => if I 177 (144 * s + y) = c then 1 else 0) j) + 1), .int ((nI j) + 1)], [])) (h' := (G, I, F)) (hs' := []) rfl rfl ?_
        rw [((vm_pa (rfl : nI j = nI j) (rfl : (1 : Int32) = nI 1)) : (nI j) + 1 = nI (j + 1))]
        rw [show ((sp_sum (fun y => if I 177 (144 * s + y) = c then 1 else 0) j) + 1 : Int32) = sp_sum (fun y => if I 177 (144 * s + y) = c then 1 else 0) (j + 1) from by first | rw [sp_sum, if_pos c2] | (rw [sp_sum, if_neg c2])]
        exact ij trivial
  · show vm_J _ _ _ (4, (0, 0), [.ref 152, .int c, .int (sp_sum (fun y => if I 177 (144 * s + y) = c then 1 else 0) (w * h)), .int (nI (w * h))], []) (G, I, F) _ _
    refine vm_J.go vm_q260 (k := 2) (hs := []) (f' := (6, (0, 0), [.ref 152, .int c, .int (sp_sum (fun y => if I 177 (144 * s + y) = c then 1 else 0) (w * h)), .int (nI (w * h))], [.ref 152, .int (nI (w * h))])) (h' := (G, I, F)) (hs' := []) rfl rfl ?_
    refine vm_J.call vm_q260 (Z := vm_M251) (n := 0) (k := 0) (mi := 251) (pc := 6) (en := (6, .invokevirtual 396, 3, [251, 1587, 0], .null)) rfl trivial rfl rfl vm_z251 (av := [.ref 152]) (rest := [.int (nI (w * h))]) (r_shPix (s := s) (w := w) (h := h) hR hs hw hh (by omega) (by omega) (by omega)) ⟨_, _, rfl, rfl, _, 11, _, hR.c152, rfl, rfl, rfl⟩ (Nat.le_of_ble_eq_true rfl) ⟨Nat.le_of_ble_eq_true rfl, Nat.le_of_ble_eq_true rfl⟩ ⟨Nat.le_of_ble_eq_true rfl, Nat.le_of_ble_eq_true rfl⟩ ?_
    show vm_J _ _ _ (9, (0, 0), [.ref 152, .int c, .int (sp_sum (fun y => if I 177 (144 * s + y) = c then 1 else 0) (w * h)), .int (nI (w * h))], [.int (nI (w * h)), .int (nI (w * h))]) (G, I, F) _ _
    refine vm_J.go vm_q260 (k := 1) (hs := []) (f' := (bif vm_ic .ge (nI (w * h)) (nI (w * h)) then 45 else 12, (0, 0), [.ref 152, .int c, .int (sp_sum (fun y => if I 177 (144 * s + y) = c then 1 else 0) (w * h)), .int (nI (w * h))], [])) (h' := (G, I, F)) (hs' := []) rfl rfl ?_
    refine vm_J.br (fun c3 => ?_) (fun c3 => ?_)
    · have c3 := vm_ge_t (a := (w * h)) (b := w * h) (by omega) (by omega) c3
      refine vm_J.go vm_q260 (k := 1) (hs := []) (f' := (46, (0, 0), [.ref 152, .int c, .int (sp_sum (fun y => if I 177 (144 * s + y) = c then 1 else 0) (w * h)), .int (nI (w * h))], [.int (sp_sum (fun y => if I 177 (144 * s + y) = c then 1 else 0) (w * h))])) (h' := (G, I, F)) (hs' := []) rfl rfl ?_
      exact vm_J.end vm_q260 (en := (46, .ireturn, 1, [], .null)) rfl rfl vm_rI (Nat.zero_le _) (Nat.zero_le _) rfl
    · have c3 := vm_ge_f (a := (w * h)) (b := w * h) (by omega) (by omega) c3
      exact (show False by omega).elim
set_option maxHeartbeats 4000000 in
set_option maxRecDepth 20000 in
/-- DitherDeskModel.unlikeNow -/
theorem r_unlike {l : Launch} {X : vm_Cx} {G : List vm_Sh} {I : Nat → Nat → Int32} {F : Nat → Nat → UInt32} {s : Nat} {w : Nat} {h : Nat} (hR : vm_isR G) (hs : I 152 40 = nI s) (hw : I 173 s = nI w) (hh : I 174 s = nI h) (hs2 : s < 2) (hw2 : w ≤ 12) (hh2 : h ≤ 12) : vm_K l X vm_M261 [.ref 152] (G, I, F) (some (.int (sp_sum (fun e => if 0 < sp_sum (fun y => if I 177 (144 * s + y) = nI e then 1 else 0) (w * h) then 1 else 0) 16))) (G, I, F) := by
  refine vm_K.mk (by decide) (Nat.le_of_ble_eq_true rfl) ?_
  show vm_J _ _ _ (0, (0, 0), [.ref 152, .retAddr 0, .retAddr 0], []) _ _ _
  refine vm_J.go vm_q261 (k := 4) (hs := []) (f' := (4, (0, 0), [.ref 152, .int 0, .int 0], [])) (h' := (G, I, F)) (hs' := []) rfl rfl ?_
  refine vm_J.cnt 16 (fun j => (4, (0, 0), [.ref 152, .int (sp_sum (fun e => if 0 < sp_sum (fun y => if I 177 (144 * s + y) = nI e then 1 else 0) (w * h) then 1 else 0) j), .int (nI j)], [])) (fun j => (G, I, F)) (fun _ => True) rfl rfl trivial (fun j hj pj ij => ?_) (fun pj => ?_)
  · show vm_J _ _ _ (4, (0, 0), [.ref 152, .int (sp_sum (fun e => if 0 < sp_sum (fun y => if I 177 (144 * s + y) = nI e then 1 else 0) (w * h) then 1 else 0) j), .int (nI j)], []) (G, I, F) _ _
    refine vm_J.go vm_q261 (k := 3) (hs := []) (f' := (bif vm_ic .ge (nI j) 16 then 32 else 10, (0, 0), [.ref 152, .int (sp_sum (fun e => if 0 < sp_sum (fun y => if I 177 (144 * s + y) = nI e then 1 else 0) (w * h) then 1 else 0) j), .int (nI j)], [])) (h' := (G, I, F)) (hs' := []) rfl rfl ?_
    refine vm_J.br (fun c1 => ?_) (fun c1 => ?_)
    · have c1 := vm_ge_t (a := j) (b := 16) (by omega) (by omega) c1
      exact (show False by omega).elim
    · have c1 := vm_ge_f (a := j) (b := 16) (by omega) (by omega) c1
      refine vm_J.go vm_q261 (k := 3) (hs := []) (f' := (13, (0, 0), [.ref 152, .int (sp_sum (fun e => if 0 < sp_sum (fun y => if I 177 (144 * s + y) = nI e then 1 else 0) (w * h) then 1 else 0) j), .int (nI j)], [.int (nI j), .ref 152, .int (sp_sum (fun e => if 0 < sp_sum (fun y => if I 177 (144 * s + y) = nI e then 1 else 0) (w * h) then 1 else 0) j)])) (h' := (G, I, F)) (hs' := []) rfl rfl ?_
      refine vm_J.call vm_q261 (Z := vm_M260) (n := 1) (k := 0) (mi := 260) (pc := 13) (en := (13, .invokevirtual 415, 3, [260, 1652, 0], .null)) rfl trivial rfl rfl vm_z260 (av := [.ref 152, .int (nI j)]) (rest := [.int (sp_sum (fun e => if 0 < sp_sum (fun y => if I 177 (144 * s + y) = nI e then 1 else 0) (w * h) then 1 else 0) j)]) (r_used (s := s) (w := w) (h := h) (c := nI j) hR hs hw hh (by omega) (by omega) (by omega)) ⟨_, _, rfl, rfl, _, 11, _, hR.c152, rfl, rfl, rfl⟩ (Nat.le_of_ble_eq_true rfl) ⟨Nat.le_of_ble_eq_true rfl, Nat.le_of_ble_eq_true rfl⟩ ⟨Nat.le_of_ble_eq_true rfl, Nat.le_of_ble_eq_true rfl⟩ ?_
      show vm_J _ _ _ (16, (0, 0), [.ref 152, .int (sp_sum (fun e => if 0 < sp_sum (fun y => if I 177 (144 * s + y) = nI e then 1 else 0) (w * h) then 1 else 0) j), .int (nI j)], [.int (sp_sum (fun y => if I 177 (144 * s + y) = (nI j) then 1 else 0) (w * h)), .int (sp_sum (fun e => if 0 < sp_sum (fun y => if I 177 (144 * s + y) = nI e then 1 else 0) (w * h) then 1 else 0) j)]) (G, I, F) _ _
      refine vm_J.go vm_q261 (k := 1) (hs := []) (f' := (bif vm_ic .le (sp_sum (fun y => if I 177 (144 * s + y) = (nI j) then 1 else 0) (w * h)) 0 then 23 else 19, (0, 0), [.ref 152, .int (sp_sum (fun e => if 0 < sp_sum (fun y => if I 177 (144 * s + y) = nI e then 1 else 0) (w * h) then 1 else 0) j), .int (nI j)], [.int (sp_sum (fun e => if 0 < sp_sum (fun y => if I 177 (144 * s + y) = nI e then 1 else 0) (w * h) then 1 else 0) j)])) (h' := (G, I, F)) (hs' := []) rfl rfl ?_
      refine vm_J.br (fun c2 => ?_) (fun c2 => ?_)
      · have c2 : (sp_sum (fun y => if I 177 (144 * s + y) = (nI j) then 1 else 0) (w * h)) ≤ 0 := of_decide_eq_true c2
        refine vm_J.go vm_q261 (k := 5) (hs := []) (f' := (4, (0, 0), [.ref 152, .int ((sp_sum (fun e => if 0 < sp_sum (fun y => if I 177 (144 * s + y) = nI e then 1 else 0) (w * h) then 1 else 0) j) + 0), .int ((nI j) + 1)], [])) (h' := (G, I, F)) (hs' := []) rfl rfl ?_
        rw [((vm_pa (rfl : nI j = nI j) (rfl : (1 : Int32) = nI 1)) : (nI j) + 1 = nI (j + 1))]
        rw [show ((sp_sum (fun e => if 0 < sp_sum (fun y => if I 177 (144 * s + y) = nI e then 1 else 0) (w * h) then 1 else 0) j) + 0 : Int32) = sp_sum (fun e => if 0 < sp_sum (fun y => if I 177 (144 * s + y) = nI e then 1 else 0) (w * h) then 1 else 0) (j + 1) from by first | rw [sp_sum, if_pos (vm_nle_g c2)] | rw [sp_sum, if_neg (vm_le_ng c2)]]
        exact ij trivial
      · have c2 : ¬ ((sp_sum (fun y => if I 177 (144 * s + y) = (nI j) then 1 else 0) (w * h)) ≤ 0) := of_decide_eq_false c2
        refine vm_J.go vm_q261 (k := 6) (hs := []) (f' := (4, (0, 0), [.ref 152, .int ((sp_sum (fun e => if 0 < sp_sum (fun y => if I 177 (144 * s + y) = nI e then 1 else 0) (w * h) then 1 else 0) j) + 1), .int ((nI j) + 1)], [])) (h' := (G, I, F)) (hs' := []) rfl rfl ?_
        rw [((vm_pa (rfl : nI j = nI j) (rfl : (1 : Int32) = nI 1)) : (nI j) + 1 = nI (j + 1))]
        rw [show ((sp_sum (fun e => if 0 < sp_sum (fun y => if I 177 (144 * s + y) = nI e then 1 else 0) (w * h) then 1 else 0) j) + 1 : Int32) = sp_sum (fun e => if 0 < sp_sum (fun y => if I 177 (144 * s + y) = nI e then 1 else 0) (w * h) then 1 else 0) (j + 1) from by first | rw [sp_sum, if_pos (vm_nle_g c2)] | rw [sp_sum, if_neg (vm_le_ng c2)]]
        exact ij trivial
  · show vm_J _ _ _ (4, (0, 0), [.ref 152, .int (sp_sum (fun e => if 0 < sp_sum (fun y => if I 177 (144 * s + y) = nI e then 1 else 0) (w * h) then 1 else 0) 16), .int (nI 16)], []) (G, I, F) _ _
    refine vm_J.go vm_q261 (k := 3) (hs := []) (f' := (bif vm_ic .ge (nI 16) 16 then 32 else 10, (0, 0), [.ref 152, .int (sp_sum (fun e => if 0 < sp_sum (fun y => if I 177 (144 * s + y) = nI e then 1 else 0) (w * h) then 1 else 0) 16), .int (nI 16)], [])) (h' := (G, I, F)) (hs' := []) rfl rfl ?_
    refine vm_J.br (fun c3 => ?_) (fun c3 => ?_)
    · have c3 := vm_ge_t (a := 16) (b := 16) (by omega) (by omega) c3
      refine vm_J.go vm_q261 (k := 1) (hs := []) (f' := (33, (0, 0), [.ref 152, .int (sp_sum (fun e => if 0 < sp_sum (fun y => if I 177 (144 * s + y) = nI e then 1 else 0) (w * h) then 1 else 0) 16), .int (nI 16)], [.int (sp_sum (fun e => if 0 < sp_sum (fun y => if I 177 (144 * s + y) = nI e then 1 else 0) (w * h) then 1 else 0) 16)])) (h' := (G, I, F)) (hs' := []) rfl rfl ?_
      exact vm_J.end vm_q261 (en := (33, .ireturn, 1, [], .null)) rfl rfl vm_rI (Nat.zero_le _) (Nat.zero_le _) rfl
    · have c3 := vm_ge_f (a := 16) (b := 16) (by omega) (by omega) c3
      exact (show False by omega).elim
set_option maxHeartbeats 4000000 in
set_option maxRecDepth 20000 in
/-- DitherDeskModel.shiftOfBlock -/
theorem r_bsh {l : Launch} {X : vm_Cx} {G : List vm_Sh} {I : Nat → Nat → Int32} {F : Nat → Nat → UInt32} {s : Nat} {w : Nat} {h : Nat} {x : Nat} {y : Nat} {c : Int32} (hR : vm_isR G) (hs : I 152 40 = nI s) (hw : I 173 s = nI w) (hh : I 174 s = nI h) (hs2 : s < 2) (hw2 : w ≤ 12) (hh2 : h ≤ 12) (hx : x < w) (hy : y < h) : vm_K l X vm_M257 [.ref 152, .int (nI x), .int (nI y), .int c] (G, I, F) (some (.int (sp_bs (fun z => I 178 (144 * s + z)) (fun z => I 176 (144 * s + z)) c w h x y))) (G, I, F) := by
  refine vm_K.mk (by decide) (Nat.le_of_ble_eq_true rfl) ?_
  have hwh := vm_mul144 hw2 hh2
  show vm_J _ _ _ (0, (0, 0), [.ref 152, .int (nI x), .int (nI y), .int c, .retAddr 0, .retAddr 0, .retAddr 0], []) _ _ _
  refine vm_J.go vm_q257 (k := 4) (hs := []) (f' := (6, (0, 0), [.ref 152, .int (nI x), .int (nI y), .int c, .int 0, .int (nI y), .retAddr 0], [])) (h' := (G, I, F)) (hs' := []) rfl rfl ?_
  refine vm_J.cnt (min 2 (h - y)) (fun i => (6, (0, 0), [.ref 152, .int (nI x), .int (nI y), .int c, .int (sp_sum (fun i => sp_sum (fun t => sp_sh (fun z => I 178 (144 * s + z)) (fun z => I 176 (144 * s + z)) c ((y + i) * w + (x + t))) (min 2 (w - x))) i), .int (nI (y + i)), .retAddr 0], [])) (fun i => (G, I, F)) (fun _ => True) rfl rfl trivial (fun i hi pi ii => ?_) (fun pi => ?_)
  · show vm_J _ _ _ (6, (0, 0), [.ref 152, .int (nI x), .int (nI y), .int c, .int (sp_sum (fun i => sp_sum (fun t => sp_sh (fun z => I 178 (144 * s + z)) (fun z => I 176 (144 * s + z)) c ((y + i) * w + (x + t))) (min 2 (w - x))) i), .int (nI (y + i)), .retAddr 0], []) (G, I, F) _ _
    refine vm_J.go vm_q257 (k := 5) (hs := []) (f' := (bif vm_ic .ge (nI (y + i)) ((nI y) + 2) then 90 else 14, (0, 0), [.ref 152, .int (nI x), .int (nI y), .int c, .int (sp_sum (fun i => sp_sum (fun t => sp_sh (fun z => I 178 (144 * s + z)) (fun z => I 176 (144 * s + z)) c ((y + i) * w + (x + t))) (min 2 (w - x))) i), .int (nI (y + i)), .retAddr 0], [])) (h' := (G, I, F)) (hs' := []) rfl rfl ?_
    refine vm_J.br (fun c1 => ?_) (fun c1 => ?_)
    · rw [((vm_pa (rfl : (nI y : Int32) = nI y) (rfl : (2 : Int32) = nI 2)) : (nI y) + 2 = nI (y + 2))] at c1
      have c1 := vm_ge_t (a := y + i) (b := y + 2) (by omega) (by omega) c1
      exact (show False by omega).elim
    · rw [((vm_pa (rfl : (nI y : Int32) = nI y) (rfl : (2 : Int32) = nI 2)) : (nI y) + 2 = nI (y + 2))] at c1
      have c1 := vm_ge_f (a := y + i) (b := y + 2) (by omega) (by omega) c1
      refine vm_J.go vm_q257 (k := 5) (hs := [vm_shR, vm_shR]) (f' := (24, (0, 0), [.ref 152, .int (nI x), .int (nI y), .int c, .int (sp_sum (fun i => sp_sum (fun t => sp_sh (fun z => I 178 (144 * s + z)) (fun z => I 176 (144 * s + z)) c ((y + i) * w + (x + t))) (min 2 (w - x))) i), .int (nI (y + i)), .retAddr 0], [.int (I 152 40), .ref 174, .int (nI (y + i))])) (h' := (G, I, F)) (hs' := []) rfl (vm_b2 rfl (vm_b2 rfl (vm_b2 (vm_b2 (vm_hG hR.c152) rfl) (vm_b2 rfl (vm_b2 (vm_b2 (vm_hG hR.c152) rfl) rfl))))) ?_
      rw [(hs : I 152 40 = nI s)]
      refine vm_J.go vm_q257 (k := 1) (hs := [(0, 2, [])]) (f' := (25, (0, 0), [.ref 152, .int (nI x), .int (nI y), .int c, .int (sp_sum (fun i => sp_sum (fun t => sp_sh (fun z => I 178 (144 * s + z)) (fun z => I 176 (144 * s + z)) c ((y + i) * w + (x + t))) (min 2 (w - x))) i), .int (nI (y + i)), .retAddr 0], [.int (I 174 (nI s).toNatClampNeg), .int (nI (y + i))])) (h' := (G, I, F)) (hs' := []) rfl (vm_b2 (vm_b2 (vm_hG hR.c174) (vm_in_e (j := s) (n := 2) rfl (by omega) (by omega))) rfl) ?_
      rw [vm_ix_e (j := s) rfl (by omega)]
      rw [(hh : I 174 s = nI h)]
      refine vm_J.go vm_q257 (k := 1) (hs := []) (f' := (bif vm_ic .ge (nI (y + i)) (nI h) then 90 else 28, (0, 0), [.ref 152, .int (nI x), .int (nI y), .int c, .int (sp_sum (fun i => sp_sum (fun t => sp_sh (fun z => I 178 (144 * s + z)) (fun z => I 176 (144 * s + z)) c ((y + i) * w + (x + t))) (min 2 (w - x))) i), .int (nI (y + i)), .retAddr 0], [])) (h' := (G, I, F)) (hs' := []) rfl rfl ?_
      refine vm_J.br (fun c2 => ?_) (fun c2 => ?_)
      · have c2 := vm_ge_t (a := y + i) (b := h) (by omega) (by omega) c2
        exact (show False by omega).elim
      · have c2 := vm_ge_f (a := y + i) (b := h) (by omega) (by omega) c2
        refine vm_J.go vm_q257 (k := 2) (hs := []) (f' := (31, (0, 0), [.ref 152, .int (nI x), .int (nI y), .int c, .int (sp_sum (fun i => sp_sum (fun t => sp_sh (fun z => I 178 (144 * s + z)) (fun z => I 176 (144 * s + z)) c ((y + i) * w + (x + t))) (min 2 (w - x))) i), .int (nI (y + i)), .int (nI x)], [])) (h' := (G, I, F)) (hs' := []) rfl rfl ?_
        refine vm_J.cnt (min 2 (w - x)) (fun t => (31, (0, 0), [.ref 152, .int (nI x), .int (nI y), .int c, .int (sp_sum (fun i => sp_sum (fun t => sp_sh (fun z => I 178 (144 * s + z)) (fun z => I 176 (144 * s + z)) c ((y + i) * w + (x + t))) (min 2 (w - x))) i + sp_sum (fun t => sp_sh (fun z => I 178 (144 * s + z)) (fun z => I 176 (144 * s + z)) c ((y + i) * w + (x + t))) t), .int (nI (y + i)), .int (nI (x + t))], [])) (fun t => (G, I, F)) (fun _ => True) (by rw [show sp_sum (fun t => sp_sh (fun z => I 178 (144 * s + z)) (fun z => I 176 (144 * s + z)) c ((y + i) * w + (x + t))) 0 = 0 from rfl, Int32.add_zero]; rfl) rfl trivial (fun t ht pt it => ?_) (fun pt => ?_)
        · have hlin := vm_lin2 (x := x + t) (y := y + i) (w := w) (h := h) (by omega) (by omega)
          show vm_J _ _ _ (31, (0, 0), [.ref 152, .int (nI x), .int (nI y), .int c, .int (sp_sum (fun i => sp_sum (fun t => sp_sh (fun z => I 178 (144 * s + z)) (fun z => I 176 (144 * s + z)) c ((y + i) * w + (x + t))) (min 2 (w - x))) i + sp_sum (fun t => sp_sh (fun z => I 178 (144 * s + z)) (fun z => I 176 (144 * s + z)) c ((y + i) * w + (x + t))) t), .int (nI (y + i)), .int (nI (x + t))], []) (G, I, F) _ _
          refine vm_J.go vm_q257 (k := 5) (hs := []) (f' := (bif vm_ic .ge (nI (x + t)) ((nI x) + 2) then 84 else 39, (0, 0), [.ref 152, .int (nI x), .int (nI y), .int c, .int (sp_sum (fun i => sp_sum (fun t => sp_sh (fun z => I 178 (144 * s + z)) (fun z => I 176 (144 * s + z)) c ((y + i) * w + (x + t))) (min 2 (w - x))) i + sp_sum (fun t => sp_sh (fun z => I 178 (144 * s + z)) (fun z => I 176 (144 * s + z)) c ((y + i) * w + (x + t))) t), .int (nI (y + i)), .int (nI (x + t))], [])) (h' := (G, I, F)) (hs' := []) rfl rfl ?_
          refine vm_J.br (fun c3 => ?_) (fun c3 => ?_)
          · rw [((vm_pa (rfl : (nI x : Int32) = nI x) (rfl : (2 : Int32) = nI 2)) : (nI x) + 2 = nI (x + 2))] at c3
            have c3 := vm_ge_t (a := x + t) (b := x + 2) (by omega) (by omega) c3
            exact (show False by omega).elim
          · rw [((vm_pa (rfl : (nI x : Int32) = nI x) (rfl : (2 : Int32) = nI 2)) : (nI x) + 2 = nI (x + 2))] at c3
            have c3 := vm_ge_f (a := x + t) (b := x + 2) (by omega) (by omega) c3
            refine vm_J.go vm_q257 (k := 5) (hs := [vm_shR, vm_shR]) (f' := (49, (0, 0), [.ref 152, .int (nI x), .int (nI y), .int c, .int (sp_sum (fun i => sp_sum (fun t => sp_sh (fun z => I 178 (144 * s + z)) (fun z => I 176 (144 * s + z)) c ((y + i) * w + (x + t))) (min 2 (w - x))) i + sp_sum (fun t => sp_sh (fun z => I 178 (144 * s + z)) (fun z => I 176 (144 * s + z)) c ((y + i) * w + (x + t))) t), .int (nI (y + i)), .int (nI (x + t))], [.int (I 152 40), .ref 173, .int (nI (x + t))])) (h' := (G, I, F)) (hs' := []) rfl (vm_b2 rfl (vm_b2 rfl (vm_b2 (vm_b2 (vm_hG hR.c152) rfl) (vm_b2 rfl (vm_b2 (vm_b2 (vm_hG hR.c152) rfl) rfl))))) ?_
            rw [(hs : I 152 40 = nI s)]
            refine vm_J.go vm_q257 (k := 1) (hs := [(0, 2, [])]) (f' := (50, (0, 0), [.ref 152, .int (nI x), .int (nI y), .int c, .int (sp_sum (fun i => sp_sum (fun t => sp_sh (fun z => I 178 (144 * s + z)) (fun z => I 176 (144 * s + z)) c ((y + i) * w + (x + t))) (min 2 (w - x))) i + sp_sum (fun t => sp_sh (fun z => I 178 (144 * s + z)) (fun z => I 176 (144 * s + z)) c ((y + i) * w + (x + t))) t), .int (nI (y + i)), .int (nI (x + t))], [.int (I 173 (nI s).toNatClampNeg), .int (nI (x + t))])) (h' := (G, I, F)) (hs' := []) rfl (vm_b2 (vm_b2 (vm_hG hR.c173) (vm_in_e (j := s) (n := 2) rfl (by omega) (by omega))) rfl) ?_
            rw [vm_ix_e (j := s) rfl (by omega)]
            rw [(hw : I 173 s = nI w)]
            refine vm_J.go vm_q257 (k := 1) (hs := []) (f' := (bif vm_ic .ge (nI (x + t)) (nI w) then 84 else 53, (0, 0), [.ref 152, .int (nI x), .int (nI y), .int c, .int (sp_sum (fun i => sp_sum (fun t => sp_sh (fun z => I 178 (144 * s + z)) (fun z => I 176 (144 * s + z)) c ((y + i) * w + (x + t))) (min 2 (w - x))) i + sp_sum (fun t => sp_sh (fun z => I 178 (144 * s + z)) (fun z => I 176 (144 * s + z)) c ((y + i) * w + (x + t))) t), .int (nI (y + i)), .int (nI (x + t))], [])) (h' := (G, I, F)) (hs' := []) rfl rfl ?_
            refine vm_J.br (fun c4 => ?_) (fun c4 => ?_)
            · have c4 := vm_ge_t (a := x + t) (b := w) (by omega) (by omega) c4
              exact (show False by omega).elim
            · have c4 := vm_ge_f (a := x + t) (b := w) (by omega) (by omega) c4
              refine vm_J.go vm_q257 (k := 6) (hs := [vm_shR, vm_shR]) (f' := (64, (0, 0), [.ref 152, .int (nI x), .int (nI y), .int c, .int (sp_sum (fun i => sp_sum (fun t => sp_sh (fun z => I 178 (144 * s + z)) (fun z => I 176 (144 * s + z)) c ((y + i) * w + (x + t))) (min 2 (w - x))) i + sp_sum (fun t => sp_sh (fun z => I 178 (144 * s + z)) (fun z => I 176 (144 * s + z)) c ((y + i) * w + (x + t))) t), .int (nI (y + i)), .int (nI (x + t))], [.int (I 152 40), .ref 173, .ref 152, .int (sp_sum (fun i => sp_sum (fun t => sp_sh (fun z => I 178 (144 * s + z)) (fun z => I 176 (144 * s + z)) c ((y + i) * w + (x + t))) (min 2 (w - x))) i + sp_sum (fun t => sp_sh (fun z => I 178 (144 * s + z)) (fun z => I 176 (144 * s + z)) c ((y + i) * w + (x + t))) t)])) (h' := (G, I, F)) (hs' := []) rfl (vm_b2 rfl (vm_b2 rfl (vm_b2 rfl (vm_b2 (vm_b2 (vm_hG hR.c152) rfl) (vm_b2 rfl (vm_b2 (vm_b2 (vm_hG hR.c152) rfl) rfl)))))) ?_
              rw [(hs : I 152 40 = nI s)]
              refine vm_J.go vm_q257 (k := 1) (hs := [(0, 2, [])]) (f' := (65, (0, 0), [.ref 152, .int (nI x), .int (nI y), .int c, .int (sp_sum (fun i => sp_sum (fun t => sp_sh (fun z => I 178 (144 * s + z)) (fun z => I 176 (144 * s + z)) c ((y + i) * w + (x + t))) (min 2 (w - x))) i + sp_sum (fun t => sp_sh (fun z => I 178 (144 * s + z)) (fun z => I 176 (144 * s + z)) c ((y + i) * w + (x + t))) t), .int (nI (y + i)), .int (nI (x + t))], [.int (I 173 (nI s).toNatClampNeg), .ref 152, .int (sp_sum (fun i => sp_sum (fun t => sp_sh (fun z => I 178 (144 * s + z)) (fun z => I 176 (144 * s + z)) c ((y + i) * w + (x + t))) (min 2 (w - x))) i + sp_sum (fun t => sp_sh (fun z => I 178 (144 * s + z)) (fun z => I 176 (144 * s + z)) c ((y + i) * w + (x + t))) t)])) (h' := (G, I, F)) (hs' := []) rfl (vm_b2 (vm_b2 (vm_hG hR.c173) (vm_in_e (j := s) (n := 2) rfl (by omega) (by omega))) rfl) ?_
              rw [vm_ix_e (j := s) rfl (by omega)]
              rw [(hw : I 173 s = nI w)]
              refine vm_J.go vm_q257 (k := 5) (hs := []) (f' := (72, (0, 0), [.ref 152, .int (nI x), .int (nI y), .int c, .int (sp_sum (fun i => sp_sum (fun t => sp_sh (fun z => I 178 (144 * s + z)) (fun z => I 176 (144 * s + z)) c ((y + i) * w + (x + t))) (min 2 (w - x))) i + sp_sum (fun t => sp_sh (fun z => I 178 (144 * s + z)) (fun z => I 176 (144 * s + z)) c ((y + i) * w + (x + t))) t), .int (nI (y + i)), .int (nI (x + t))], [.int c, .int (((nI w) * (nI (y + i))) + (nI (x + t))), .ref 152, .int (sp_sum (fun i => sp_sum (fun t => sp_sh (fun z => I 178 (144 * s + z)) (fun z => I 176 (144 * s + z)) c ((y + i) * w + (x + t))) (min 2 (w - x))) i + sp_sum (fun t => sp_sh (fun z => I 178 (144 * s + z)) (fun z => I 176 (144 * s + z)) c ((y + i) * w + (x + t))) t)])) (h' := (G, I, F)) (hs' := []) rfl rfl ?_
              rw [((vm_pa (vm_pm (rfl : (nI w : Int32) = nI w) (rfl : (nI (y + i) : Int32) = nI (y + i))) (rfl : (nI (x + t) : Int32) = nI (x + t))) : ((nI w) * (nI (y + i))) + (nI (x + t)) = nI ((w * (y + i)) + (x + t)))]
              refine vm_J.call vm_q257 (Z := vm_M253) (n := 2) (k := 0) (mi := 253) (pc := 72) (en := (72, .invokevirtual 406, 3, [253, 1672, 0], .null)) rfl trivial rfl rfl vm_z253 (av := [.ref 152, .int (nI ((w * (y + i)) + (x + t))), .int c]) (rest := [.int (sp_sum (fun i => sp_sum (fun t => sp_sh (fun z => I 178 (144 * s + z)) (fun z => I 176 (144 * s + z)) c ((y + i) * w + (x + t))) (min 2 (w - x))) i + sp_sum (fun t => sp_sh (fun z => I 178 (144 * s + z)) (fun z => I 176 (144 * s + z)) c ((y + i) * w + (x + t))) t)]) (r_shAt (s := s) (i := (w * (y + i)) + (x + t)) (c := c) hR hs (by omega) (by omega)) ⟨_, _, rfl, rfl, _, 11, _, hR.c152, rfl, rfl, rfl⟩ (Nat.le_of_ble_eq_true rfl) ⟨Nat.le_of_ble_eq_true rfl, Nat.le_of_ble_eq_true rfl⟩ ⟨Nat.le_of_ble_eq_true rfl, Nat.le_of_ble_eq_true rfl⟩ ?_
              show vm_J _ _ _ (75, (0, 0), [.ref 152, .int (nI x), .int (nI y), .int c, .int (sp_sum (fun i => sp_sum (fun t => sp_sh (fun z => I 178 (144 * s + z)) (fun z => I 176 (144 * s + z)) c ((y + i) * w + (x + t))) (min 2 (w - x))) i + sp_sum (fun t => sp_sh (fun z => I 178 (144 * s + z)) (fun z => I 176 (144 * s + z)) c ((y + i) * w + (x + t))) t), .int (nI (y + i)), .int (nI (x + t))], [.int (sp_sh (fun z => I 178 (144 * s + z)) (fun z => I 176 (144 * s + z)) c ((w * (y + i)) + (x + t))), .int (sp_sum (fun i => sp_sum (fun t => sp_sh (fun z => I 178 (144 * s + z)) (fun z => I 176 (144 * s + z)) c ((y + i) * w + (x + t))) (min 2 (w - x))) i + sp_sum (fun t => sp_sh (fun z => I 178 (144 * s + z)) (fun z => I 176 (144 * s + z)) c ((y + i) * w + (x + t))) t)]) (G, I, F) _ _
              refine vm_J.go vm_q257 (k := 4) (hs := []) (f' := (31, (0, 0), [.ref 152, .int (nI x), .int (nI y), .int c, .int ((sp_sum (fun i => sp_sum (fun t => sp_sh (fun z => I 178 (144 * s + z)) (fun z => I 176 (144 * s + z)) c ((y + i) * w + (x + t))) (min 2 (w - x))) i + sp_sum (fun t => sp_sh (fun z => I 178 (144 * s + z)) (fun z => I 176 (144 * s + z)) c ((y + i) * w + (x + t))) t) + (sp_sh (fun z => I 178 (144 * s + z)) (fun z => I 176 (144 * s + z)) c ((w * (y + i)) + (x + t)))), .int (nI (y + i)), .int ((nI (x + t)) + 1)], [])) (h' := (G, I, F)) (hs' := []) rfl rfl ?_
              rw [((vm_pa (rfl : nI (x + t) = nI (x + t)) (rfl : (1 : Int32) = nI 1)) : (nI (x + t)) + 1 = nI (x + t + 1))]
              rw [show ((sp_sum (fun i => sp_sum (fun t => sp_sh (fun z => I 178 (144 * s + z)) (fun z => I 176 (144 * s + z)) c ((y + i) * w + (x + t))) (min 2 (w - x))) i + sp_sum (fun t => sp_sh (fun z => I 178 (144 * s + z)) (fun z => I 176 (144 * s + z)) c ((y + i) * w + (x + t))) t) + (sp_sh (fun z => I 178 (144 * s + z)) (fun z => I 176 (144 * s + z)) c ((w * (y + i)) + (x + t))) : Int32) = sp_sum (fun i => sp_sum (fun t => sp_sh (fun z => I 178 (144 * s + z)) (fun z => I 176 (144 * s + z)) c ((y + i) * w + (x + t))) (min 2 (w - x))) i + sp_sum (fun t => sp_sh (fun z => I 178 (144 * s + z)) (fun z => I 176 (144 * s + z)) c ((y + i) * w + (x + t))) (t + 1) from by rw [Nat.mul_comm w]; exact Int32.add_assoc _ _ _]
              exact it trivial
        · show vm_J _ _ _ (31, (0, 0), [.ref 152, .int (nI x), .int (nI y), .int c, .int (sp_sum (fun i => sp_sum (fun t => sp_sh (fun z => I 178 (144 * s + z)) (fun z => I 176 (144 * s + z)) c ((y + i) * w + (x + t))) (min 2 (w - x))) i + sp_sum (fun t => sp_sh (fun z => I 178 (144 * s + z)) (fun z => I 176 (144 * s + z)) c ((y + i) * w + (x + t))) (min 2 (w - x))), .int (nI (y + i)), .int (nI (x + (min 2 (w - x))))], []) (G, I, F) _ _
          refine vm_J.go vm_q257 (k := 5) (hs := []) (f' := (bif vm_ic .ge (nI (x + (min 2 (w - x)))) ((nI x) + 2) then 84 else 39, (0, 0), [.ref 152, .int (nI x), .int (nI y), .int c, .int (sp_sum (fun i => sp_sum (fun t => sp_sh (fun z => I 178 (144 * s + z)) (fun z => I 176 (144 * s + z)) c ((y + i) * w + (x + t))) (min 2 (w - x))) i + sp_sum (fun t => sp_sh (fun z => I 178 (144 * s + z)) (fun z => I 176 (144 * s + z)) c ((y + i) * w + (x + t))) (min 2 (w - x))), .int (nI (y + i)), .int (nI (x + (min 2 (w - x))))], [])) (h' := (G, I, F)) (hs' := []) rfl rfl ?_
          refine vm_J.br (fun c5 => ?_) (fun c5 => ?_)
          · rw [((vm_pa (rfl : (nI x : Int32) = nI x) (rfl : (2 : Int32) = nI 2)) : (nI x) + 2 = nI (x + 2))] at c5
            have c5 := vm_ge_t (a := x + (min 2 (w - x))) (b := x + 2) (by omega) (by omega) c5
            refine vm_J.go vm_q257 (k := 2) (hs := []) (f' := (6, (0, 0), [.ref 152, .int (nI x), .int (nI y), .int c, .int (sp_sum (fun i => sp_sum (fun t => sp_sh (fun z => I 178 (144 * s + z)) (fun z => I 176 (144 * s + z)) c ((y + i) * w + (x + t))) (min 2 (w - x))) i + sp_sum (fun t => sp_sh (fun z => I 178 (144 * s + z)) (fun z => I 176 (144 * s + z)) c ((y + i) * w + (x + t))) (min 2 (w - x))), .int ((nI (y + i)) + 1), .int (nI (x + (min 2 (w - x))))], [])) (h' := (G, I, F)) (hs' := []) rfl rfl ?_
            rw [((vm_pa (rfl : nI (y + i) = nI (y + i)) (rfl : (1 : Int32) = nI 1)) : (nI (y + i)) + 1 = nI (y + i + 1))]
            refine vm_J.mask [true, true, true, true, true, true, false] ?_
            show vm_J _ _ _ (6, (0, 0), [.ref 152, .int (nI x), .int (nI y), .int c, .int (sp_sum (fun i => sp_sum (fun t => sp_sh (fun z => I 178 (144 * s + z)) (fun z => I 176 (144 * s + z)) c ((y + i) * w + (x + t))) (min 2 (w - x))) i + sp_sum (fun t => sp_sh (fun z => I 178 (144 * s + z)) (fun z => I 176 (144 * s + z)) c ((y + i) * w + (x + t))) (min 2 (w - x))), .int (nI (y + i + 1)), .retAddr 0], []) (G, I, F) _ _
            rw [show (sp_sum (fun i => sp_sum (fun t => sp_sh (fun z => I 178 (144 * s + z)) (fun z => I 176 (144 * s + z)) c ((y + i) * w + (x + t))) (min 2 (w - x))) i + sp_sum (fun t => sp_sh (fun z => I 178 (144 * s + z)) (fun z => I 176 (144 * s + z)) c ((y + i) * w + (x + t))) (min 2 (w - x)) : Int32) = sp_sum (fun i => sp_sum (fun t => sp_sh (fun z => I 178 (144 * s + z)) (fun z => I 176 (144 * s + z)) c ((y + i) * w + (x + t))) (min 2 (w - x))) (i + 1) from by rfl]
            exact ii trivial
          · rw [((vm_pa (rfl : (nI x : Int32) = nI x) (rfl : (2 : Int32) = nI 2)) : (nI x) + 2 = nI (x + 2))] at c5
            have c5 := vm_ge_f (a := x + (min 2 (w - x))) (b := x + 2) (by omega) (by omega) c5
            refine vm_J.go vm_q257 (k := 5) (hs := [vm_shR, vm_shR]) (f' := (49, (0, 0), [.ref 152, .int (nI x), .int (nI y), .int c, .int (sp_sum (fun i => sp_sum (fun t => sp_sh (fun z => I 178 (144 * s + z)) (fun z => I 176 (144 * s + z)) c ((y + i) * w + (x + t))) (min 2 (w - x))) i + sp_sum (fun t => sp_sh (fun z => I 178 (144 * s + z)) (fun z => I 176 (144 * s + z)) c ((y + i) * w + (x + t))) (min 2 (w - x))), .int (nI (y + i)), .int (nI (x + (min 2 (w - x))))], [.int (I 152 40), .ref 173, .int (nI (x + (min 2 (w - x))))])) (h' := (G, I, F)) (hs' := []) rfl (vm_b2 rfl (vm_b2 rfl (vm_b2 (vm_b2 (vm_hG hR.c152) rfl) (vm_b2 rfl (vm_b2 (vm_b2 (vm_hG hR.c152) rfl) rfl))))) ?_
            rw [(hs : I 152 40 = nI s)]
            refine vm_J.go vm_q257 (k := 1) (hs := [(0, 2, [])]) (f' := (50, (0, 0), [.ref 152, .int (nI x), .int (nI y), .int c, .int (sp_sum (fun i => sp_sum (fun t => sp_sh (fun z => I 178 (144 * s + z)) (fun z => I 176 (144 * s + z)) c ((y + i) * w + (x + t))) (min 2 (w - x))) i + sp_sum (fun t => sp_sh (fun z => I 178 (144 * s + z)) (fun z => I 176 (144 * s + z)) c ((y + i) * w + (x + t))) (min 2 (w - x))), .int (nI (y + i)), .int (nI (x + (min 2 (w - x))))], [.int (I 173 (nI s).toNatClampNeg), .int (nI (x + (min 2 (w - x))))])) (h' := (G, I, F)) (hs' := []) rfl (vm_b2 (vm_b2 (vm_hG hR.c173) (vm_in_e (j := s) (n := 2) rfl (by omega) (by omega))) rfl) ?_
            rw [vm_ix_e (j := s) rfl (by omega)]
            rw [(hw : I 173 s = nI w)]
            refine vm_J.go vm_q257 (k := 1) (hs := []) (f' := (bif vm_ic .ge (nI (x + (min 2 (w - x)))) (nI w) then 84 else 53, (0, 0), [.ref 152, .int (nI x), .int (nI y), .int c, .int (sp_sum (fun i => sp_sum (fun t => sp_sh (fun z => I 178 (144 * s + z)) (fun z => I 176 (144 * s + z)) c ((y + i) * w + (x + t))) (min 2 (w - x))) i + sp_sum (fun t => sp_sh (fun z => I 178 (144 * s + z)) (fun z => I 176 (144 * s + z)) c ((y + i) * w + (x + t))) (min 2 (w - x))), .int (nI (y + i)), .int (nI (x + (min 2 (w - x))))], [])) (h' := (G, I, F)) (hs' := []) rfl rfl ?_
            refine vm_J.br (fun c6 => ?_) (fun c6 => ?_)
            · have c6 := vm_ge_t (a := x + (min 2 (w - x))) (b := w) (by omega) (by omega) c6
              refine vm_J.go vm_q257 (k := 2) (hs := []) (f' := (6, (0, 0), [.ref 152, .int (nI x), .int (nI y), .int c, .int (sp_sum (fun i => sp_sum (fun t => sp_sh (fun z => I 178 (144 * s + z)) (fun z => I 176 (144 * s + z)) c ((y + i) * w + (x + t))) (min 2 (w - x))) i + sp_sum (fun t => sp_sh (fun z => I 178 (144 * s + z)) (fun z => I 176 (144 * s + z)) c ((y + i) * w + (x + t))) (min 2 (w - x))), .int ((nI (y + i)) + 1), .int (nI (x + (min 2 (w - x))))], [])) (h' := (G, I, F)) (hs' := []) rfl rfl ?_
              rw [((vm_pa (rfl : nI (y + i) = nI (y + i)) (rfl : (1 : Int32) = nI 1)) : (nI (y + i)) + 1 = nI (y + i + 1))]
              refine vm_J.mask [true, true, true, true, true, true, false] ?_
              show vm_J _ _ _ (6, (0, 0), [.ref 152, .int (nI x), .int (nI y), .int c, .int (sp_sum (fun i => sp_sum (fun t => sp_sh (fun z => I 178 (144 * s + z)) (fun z => I 176 (144 * s + z)) c ((y + i) * w + (x + t))) (min 2 (w - x))) i + sp_sum (fun t => sp_sh (fun z => I 178 (144 * s + z)) (fun z => I 176 (144 * s + z)) c ((y + i) * w + (x + t))) (min 2 (w - x))), .int (nI (y + i + 1)), .retAddr 0], []) (G, I, F) _ _
              rw [show (sp_sum (fun i => sp_sum (fun t => sp_sh (fun z => I 178 (144 * s + z)) (fun z => I 176 (144 * s + z)) c ((y + i) * w + (x + t))) (min 2 (w - x))) i + sp_sum (fun t => sp_sh (fun z => I 178 (144 * s + z)) (fun z => I 176 (144 * s + z)) c ((y + i) * w + (x + t))) (min 2 (w - x)) : Int32) = sp_sum (fun i => sp_sum (fun t => sp_sh (fun z => I 178 (144 * s + z)) (fun z => I 176 (144 * s + z)) c ((y + i) * w + (x + t))) (min 2 (w - x))) (i + 1) from by rfl]
              exact ii trivial
            · have c6 := vm_ge_f (a := x + (min 2 (w - x))) (b := w) (by omega) (by omega) c6
              exact (show False by omega).elim
  · show vm_J _ _ _ (6, (0, 0), [.ref 152, .int (nI x), .int (nI y), .int c, .int (sp_sum (fun i => sp_sum (fun t => sp_sh (fun z => I 178 (144 * s + z)) (fun z => I 176 (144 * s + z)) c ((y + i) * w + (x + t))) (min 2 (w - x))) (min 2 (h - y))), .int (nI (y + (min 2 (h - y)))), .retAddr 0], []) (G, I, F) _ _
    refine vm_J.go vm_q257 (k := 5) (hs := []) (f' := (bif vm_ic .ge (nI (y + (min 2 (h - y)))) ((nI y) + 2) then 90 else 14, (0, 0), [.ref 152, .int (nI x), .int (nI y), .int c, .int (sp_sum (fun i => sp_sum (fun t => sp_sh (fun z => I 178 (144 * s + z)) (fun z => I 176 (144 * s + z)) c ((y + i) * w + (x + t))) (min 2 (w - x))) (min 2 (h - y))), .int (nI (y + (min 2 (h - y)))), .retAddr 0], [])) (h' := (G, I, F)) (hs' := []) rfl rfl ?_
    refine vm_J.br (fun c7 => ?_) (fun c7 => ?_)
    · rw [((vm_pa (rfl : (nI y : Int32) = nI y) (rfl : (2 : Int32) = nI 2)) : (nI y) + 2 = nI (y + 2))] at c7
      have c7 := vm_ge_t (a := y + (min 2 (h - y))) (b := y + 2) (by omega) (by omega) c7
      refine vm_J.go vm_q257 (k := 1) (hs := []) (f' := (92, (0, 0), [.ref 152, .int (nI x), .int (nI y), .int c, .int (sp_sum (fun i => sp_sum (fun t => sp_sh (fun z => I 178 (144 * s + z)) (fun z => I 176 (144 * s + z)) c ((y + i) * w + (x + t))) (min 2 (w - x))) (min 2 (h - y))), .int (nI (y + (min 2 (h - y)))), .retAddr 0], [.int (sp_sum (fun i => sp_sum (fun t => sp_sh (fun z => I 178 (144 * s + z)) (fun z => I 176 (144 * s + z)) c ((y + i) * w + (x + t))) (min 2 (w - x))) (min 2 (h - y)))])) (h' := (G, I, F)) (hs' := []) rfl rfl ?_
      exact vm_J.end vm_q257 (en := (92, .ireturn, 1, [], .null)) rfl rfl vm_rI (Nat.zero_le _) (Nat.zero_le _) rfl
    · rw [((vm_pa (rfl : (nI y : Int32) = nI y) (rfl : (2 : Int32) = nI 2)) : (nI y) + 2 = nI (y + 2))] at c7
      have c7 := vm_ge_f (a := y + (min 2 (h - y))) (b := y + 2) (by omega) (by omega) c7
      refine vm_J.go vm_q257 (k := 5) (hs := [vm_shR, vm_shR]) (f' := (24, (0, 0), [.ref 152, .int (nI x), .int (nI y), .int c, .int (sp_sum (fun i => sp_sum (fun t => sp_sh (fun z => I 178 (144 * s + z)) (fun z => I 176 (144 * s + z)) c ((y + i) * w + (x + t))) (min 2 (w - x))) (min 2 (h - y))), .int (nI (y + (min 2 (h - y)))), .retAddr 0], [.int (I 152 40), .ref 174, .int (nI (y + (min 2 (h - y))))])) (h' := (G, I, F)) (hs' := []) rfl (vm_b2 rfl (vm_b2 rfl (vm_b2 (vm_b2 (vm_hG hR.c152) rfl) (vm_b2 rfl (vm_b2 (vm_b2 (vm_hG hR.c152) rfl) rfl))))) ?_
      rw [(hs : I 152 40 = nI s)]
      refine vm_J.go vm_q257 (k := 1) (hs := [(0, 2, [])]) (f' := (25, (0, 0), [.ref 152, .int (nI x), .int (nI y), .int c, .int (sp_sum (fun i => sp_sum (fun t => sp_sh (fun z => I 178 (144 * s + z)) (fun z => I 176 (144 * s + z)) c ((y + i) * w + (x + t))) (min 2 (w - x))) (min 2 (h - y))), .int (nI (y + (min 2 (h - y)))), .retAddr 0], [.int (I 174 (nI s).toNatClampNeg), .int (nI (y + (min 2 (h - y))))])) (h' := (G, I, F)) (hs' := []) rfl (vm_b2 (vm_b2 (vm_hG hR.c174) (vm_in_e (j := s) (n := 2) rfl (by omega) (by omega))) rfl) ?_
      rw [vm_ix_e (j := s) rfl (by omega)]
      rw [(hh : I 174 s = nI h)]
      refine vm_J.go vm_q257 (k := 1) (hs := []) (f' := (bif vm_ic .ge (nI (y + (min 2 (h - y)))) (nI h) then 90 else 28, (0, 0), [.ref 152, .int (nI x), .int (nI y), .int c, .int (sp_sum (fun i => sp_sum (fun t => sp_sh (fun z => I 178 (144 * s + z)) (fun z => I 176 (144 * s + z)) c ((y + i) * w + (x + t))) (min 2 (w - x))) (min 2 (h - y))), .int (nI (y + (min 2 (h - y)))), .retAddr 0], [])) (h' := (G, I, F)) (hs' := []) rfl rfl ?_
      refine vm_J.br (fun c8 => ?_) (fun c8 => ?_)
      · have c8 := vm_ge_t (a := y + (min 2 (h - y))) (b := h) (by omega) (by omega) c8
        refine vm_J.go vm_q257 (k := 1) (hs := []) (f' := (92, (0, 0), [.ref 152, .int (nI x), .int (nI y), .int c, .int (sp_sum (fun i => sp_sum (fun t => sp_sh (fun z => I 178 (144 * s + z)) (fun z => I 176 (144 * s + z)) c ((y + i) * w + (x + t))) (min 2 (w - x))) (min 2 (h - y))), .int (nI (y + (min 2 (h - y)))), .retAddr 0], [.int (sp_sum (fun i => sp_sum (fun t => sp_sh (fun z => I 178 (144 * s + z)) (fun z => I 176 (144 * s + z)) c ((y + i) * w + (x + t))) (min 2 (w - x))) (min 2 (h - y)))])) (h' := (G, I, F)) (hs' := []) rfl rfl ?_
        exact vm_J.end vm_q257 (en := (92, .ireturn, 1, [], .null)) rfl rfl vm_rI (Nat.zero_le _) (Nat.zero_le _) rfl
      · have c8 := vm_ge_f (a := y + (min 2 (h - y))) (b := h) (by omega) (by omega) c8
        exact (show False by omega).elim
set_option maxHeartbeats 4000000 in
set_option maxRecDepth 20000 in
/-- DitherDeskModel.blocksNow -/
theorem r_blocks {l : Launch} {X : vm_Cx} {G : List vm_Sh} {I : Nat → Nat → Int32} {F : Nat → Nat → UInt32} {s : Nat} {w : Nat} {h : Nat} (hR : vm_isR G) (hs : I 152 40 = nI s) (hw : I 173 s = nI w) (hh : I 174 s = nI h) (hs2 : s < 2) (hw2 : w ≤ 12) (hh2 : h ≤ 12) : vm_K l X vm_M258 [.ref 152] (G, I, F) (some (.int (sp_ba (fun z => I 178 (144 * s + z)) (fun z => I 176 (144 * s + z)) w h))) (G, I, F) := by
  refine vm_K.mk (by decide) (Nat.le_of_ble_eq_true rfl) ?_
  have hwh := vm_mul144 hw2 hh2
  show vm_J _ _ _ (0, (0, 0), [.ref 152, .retAddr 0, .retAddr 0, .retAddr 0, .retAddr 0], []) _ _ _
  refine vm_J.go vm_q258 (k := 4) (hs := []) (f' := (4, (0, 0), [.ref 152, .int 0, .int 0, .retAddr 0, .retAddr 0], [])) (h' := (G, I, F)) (hs' := []) rfl rfl ?_
  refine vm_J.cnt ((h + 1) / 2) (fun i => (4, (0, 0), [.ref 152, .int (sp_sum (fun i => sp_sum (fun t => sp_sum (sp_b3 (fun z => I 178 (144 * s + z)) (fun z => I 176 (144 * s + z)) w h i t) 3) ((w + 1) / 2)) i), .int (nI (2 * i)), .retAddr 0, .retAddr 0], [])) (fun i => (G, I, F)) (fun _ => True) rfl rfl trivial (fun i hi pi ii => ?_) (fun pi => ?_)
  · show vm_J _ _ _ (4, (0, 0), [.ref 152, .int (sp_sum (fun i => sp_sum (fun t => sp_sum (sp_b3 (fun z => I 178 (144 * s + z)) (fun z => I 176 (144 * s + z)) w h i t) 3) ((w + 1) / 2)) i), .int (nI (2 * i)), .retAddr 0, .retAddr 0], []) (G, I, F) _ _
    refine vm_J.go vm_q258 (k := 5) (hs := [vm_shR, vm_shR]) (f' := (13, (0, 0), [.ref 152, .int (sp_sum (fun i => sp_sum (fun t => sp_sum (sp_b3 (fun z => I 178 (144 * s + z)) (fun z => I 176 (144 * s + z)) w h i t) 3) ((w + 1) / 2)) i), .int (nI (2 * i)), .retAddr 0, .retAddr 0], [.int (I 152 40), .ref 174, .int (nI (2 * i))])) (h' := (G, I, F)) (hs' := []) rfl (vm_b2 rfl (vm_b2 rfl (vm_b2 (vm_b2 (vm_hG hR.c152) rfl) (vm_b2 rfl (vm_b2 (vm_b2 (vm_hG hR.c152) rfl) rfl))))) ?_
    rw [(hs : I 152 40 = nI s)]
    refine vm_J.go vm_q258 (k := 1) (hs := [(0, 2, [])]) (f' := (14, (0, 0), [.ref 152, .int (sp_sum (fun i => sp_sum (fun t => sp_sum (sp_b3 (fun z => I 178 (144 * s + z)) (fun z => I 176 (144 * s + z)) w h i t) 3) ((w + 1) / 2)) i), .int (nI (2 * i)), .retAddr 0, .retAddr 0], [.int (I 174 (nI s).toNatClampNeg), .int (nI (2 * i))])) (h' := (G, I, F)) (hs' := []) rfl (vm_b2 (vm_b2 (vm_hG hR.c174) (vm_in_e (j := s) (n := 2) rfl (by omega) (by omega))) rfl) ?_
    rw [vm_ix_e (j := s) rfl (by omega)]
    rw [(hh : I 174 s = nI h)]
    refine vm_J.go vm_q258 (k := 1) (hs := []) (f' := (bif vm_ic .ge (nI (2 * i)) (nI h) then 79 else 17, (0, 0), [.ref 152, .int (sp_sum (fun i => sp_sum (fun t => sp_sum (sp_b3 (fun z => I 178 (144 * s + z)) (fun z => I 176 (144 * s + z)) w h i t) 3) ((w + 1) / 2)) i), .int (nI (2 * i)), .retAddr 0, .retAddr 0], [])) (h' := (G, I, F)) (hs' := []) rfl rfl ?_
    refine vm_J.br (fun c1 => ?_) (fun c1 => ?_)
    · have c1 := vm_ge_t (a := 2 * i) (b := h) (by omega) (by omega) c1
      exact (show False by omega).elim
    · have c1 := vm_ge_f (a := 2 * i) (b := h) (by omega) (by omega) c1
      refine vm_J.go vm_q258 (k := 2) (hs := []) (f' := (19, (0, 0), [.ref 152, .int (sp_sum (fun i => sp_sum (fun t => sp_sum (sp_b3 (fun z => I 178 (144 * s + z)) (fun z => I 176 (144 * s + z)) w h i t) 3) ((w + 1) / 2)) i), .int (nI (2 * i)), .int 0, .retAddr 0], [])) (h' := (G, I, F)) (hs' := []) rfl rfl ?_
      refine vm_J.cnt ((w + 1) / 2) (fun t => (19, (0, 0), [.ref 152, .int (sp_sum (fun i => sp_sum (fun t => sp_sum (sp_b3 (fun z => I 178 (144 * s + z)) (fun z => I 176 (144 * s + z)) w h i t) 3) ((w + 1) / 2)) i + sp_sum (fun t => sp_sum (sp_b3 (fun z => I 178 (144 * s + z)) (fun z => I 176 (144 * s + z)) w h i t) 3) t), .int (nI (2 * i)), .int (nI (2 * t)), .retAddr 0], [])) (fun t => (G, I, F)) (fun _ => True) (by rw [show sp_sum (fun t => sp_sum (sp_b3 (fun z => I 178 (144 * s + z)) (fun z => I 176 (144 * s + z)) w h i t) 3) 0 = 0 from rfl, Int32.add_zero]; rfl) rfl trivial (fun t ht pt it => ?_) (fun pt => ?_)
      · show vm_J _ _ _ (19, (0, 0), [.ref 152, .int (sp_sum (fun i => sp_sum (fun t => sp_sum (sp_b3 (fun z => I 178 (144 * s + z)) (fun z => I 176 (144 * s + z)) w h i t) 3) ((w + 1) / 2)) i + sp_sum (fun t => sp_sum (sp_b3 (fun z => I 178 (144 * s + z)) (fun z => I 176 (144 * s + z)) w h i t) 3) t), .int (nI (2 * i)), .int (nI (2 * t)), .retAddr 0], []) (G, I, F) _ _
        refine vm_J.go vm_q258 (k := 5) (hs := [vm_shR, vm_shR]) (f' := (28, (0, 0), [.ref 152, .int (sp_sum (fun i => sp_sum (fun t => sp_sum (sp_b3 (fun z => I 178 (144 * s + z)) (fun z => I 176 (144 * s + z)) w h i t) 3) ((w + 1) / 2)) i + sp_sum (fun t => sp_sum (sp_b3 (fun z => I 178 (144 * s + z)) (fun z => I 176 (144 * s + z)) w h i t) 3) t), .int (nI (2 * i)), .int (nI (2 * t)), .retAddr 0], [.int (I 152 40), .ref 173, .int (nI (2 * t))])) (h' := (G, I, F)) (hs' := []) rfl (vm_b2 rfl (vm_b2 rfl (vm_b2 (vm_b2 (vm_hG hR.c152) rfl) (vm_b2 rfl (vm_b2 (vm_b2 (vm_hG hR.c152) rfl) rfl))))) ?_
        rw [(hs : I 152 40 = nI s)]
        refine vm_J.go vm_q258 (k := 1) (hs := [(0, 2, [])]) (f' := (29, (0, 0), [.ref 152, .int (sp_sum (fun i => sp_sum (fun t => sp_sum (sp_b3 (fun z => I 178 (144 * s + z)) (fun z => I 176 (144 * s + z)) w h i t) 3) ((w + 1) / 2)) i + sp_sum (fun t => sp_sum (sp_b3 (fun z => I 178 (144 * s + z)) (fun z => I 176 (144 * s + z)) w h i t) 3) t), .int (nI (2 * i)), .int (nI (2 * t)), .retAddr 0], [.int (I 173 (nI s).toNatClampNeg), .int (nI (2 * t))])) (h' := (G, I, F)) (hs' := []) rfl (vm_b2 (vm_b2 (vm_hG hR.c173) (vm_in_e (j := s) (n := 2) rfl (by omega) (by omega))) rfl) ?_
        rw [vm_ix_e (j := s) rfl (by omega)]
        rw [(hw : I 173 s = nI w)]
        refine vm_J.go vm_q258 (k := 1) (hs := []) (f' := (bif vm_ic .ge (nI (2 * t)) (nI w) then 73 else 32, (0, 0), [.ref 152, .int (sp_sum (fun i => sp_sum (fun t => sp_sum (sp_b3 (fun z => I 178 (144 * s + z)) (fun z => I 176 (144 * s + z)) w h i t) 3) ((w + 1) / 2)) i + sp_sum (fun t => sp_sum (sp_b3 (fun z => I 178 (144 * s + z)) (fun z => I 176 (144 * s + z)) w h i t) 3) t), .int (nI (2 * i)), .int (nI (2 * t)), .retAddr 0], [])) (h' := (G, I, F)) (hs' := []) rfl rfl ?_
        refine vm_J.br (fun c2 => ?_) (fun c2 => ?_)
        · have c2 := vm_ge_t (a := 2 * t) (b := w) (by omega) (by omega) c2
          exact (show False by omega).elim
        · have c2 := vm_ge_f (a := 2 * t) (b := w) (by omega) (by omega) c2
          refine vm_J.go vm_q258 (k := 2) (hs := []) (f' := (35, (0, 0), [.ref 152, .int (sp_sum (fun i => sp_sum (fun t => sp_sum (sp_b3 (fun z => I 178 (144 * s + z)) (fun z => I 176 (144 * s + z)) w h i t) 3) ((w + 1) / 2)) i + sp_sum (fun t => sp_sum (sp_b3 (fun z => I 178 (144 * s + z)) (fun z => I 176 (144 * s + z)) w h i t) 3) t), .int (nI (2 * i)), .int (nI (2 * t)), .int 0], [])) (h' := (G, I, F)) (hs' := []) rfl rfl ?_
          refine vm_J.cnt 3 (fun k => (35, (0, 0), [.ref 152, .int (sp_sum (fun i => sp_sum (fun t => sp_sum (sp_b3 (fun z => I 178 (144 * s + z)) (fun z => I 176 (144 * s + z)) w h i t) 3) ((w + 1) / 2)) i + sp_sum (fun t => sp_sum (sp_b3 (fun z => I 178 (144 * s + z)) (fun z => I 176 (144 * s + z)) w h i t) 3) t + sp_sum (sp_b3 (fun z => I 178 (144 * s + z)) (fun z => I 176 (144 * s + z)) w h i t) k), .int (nI (2 * i)), .int (nI (2 * t)), .int (nI k)], [])) (fun k => (G, I, F)) (fun _ => True) (by rw [show sp_sum (sp_b3 (fun z => I 178 (144 * s + z)) (fun z => I 176 (144 * s + z)) w h i t) 0 = 0 from rfl, Int32.add_zero]; rfl) rfl trivial (fun k hk pk ik => ?_) (fun pk => ?_)
          · show vm_J _ _ _ (35, (0, 0), [.ref 152, .int (sp_sum (fun i => sp_sum (fun t => sp_sum (sp_b3 (fun z => I 178 (144 * s + z)) (fun z => I 176 (144 * s + z)) w h i t) 3) ((w + 1) / 2)) i + sp_sum (fun t => sp_sum (sp_b3 (fun z => I 178 (144 * s + z)) (fun z => I 176 (144 * s + z)) w h i t) 3) t + sp_sum (sp_b3 (fun z => I 178 (144 * s + z)) (fun z => I 176 (144 * s + z)) w h i t) k), .int (nI (2 * i)), .int (nI (2 * t)), .int (nI k)], []) (G, I, F) _ _
            refine vm_J.go vm_q258 (k := 3) (hs := []) (f' := (bif vm_ic .ge (nI k) 3 then 67 else 41, (0, 0), [.ref 152, .int (sp_sum (fun i => sp_sum (fun t => sp_sum (sp_b3 (fun z => I 178 (144 * s + z)) (fun z => I 176 (144 * s + z)) w h i t) 3) ((w + 1) / 2)) i + sp_sum (fun t => sp_sum (sp_b3 (fun z => I 178 (144 * s + z)) (fun z => I 176 (144 * s + z)) w h i t) 3) t + sp_sum (sp_b3 (fun z => I 178 (144 * s + z)) (fun z => I 176 (144 * s + z)) w h i t) k), .int (nI (2 * i)), .int (nI (2 * t)), .int (nI k)], [])) (h' := (G, I, F)) (hs' := []) rfl rfl ?_
            refine vm_J.br (fun c3 => ?_) (fun c3 => ?_)
            · have c3 := vm_ge_t (a := k) (b := 3) (by omega) (by omega) c3
              exact (show False by omega).elim
            · have c3 := vm_ge_f (a := k) (b := 3) (by omega) (by omega) c3
              refine vm_J.go vm_q258 (k := 5) (hs := []) (f' := (47, (0, 0), [.ref 152, .int (sp_sum (fun i => sp_sum (fun t => sp_sum (sp_b3 (fun z => I 178 (144 * s + z)) (fun z => I 176 (144 * s + z)) w h i t) 3) ((w + 1) / 2)) i + sp_sum (fun t => sp_sum (sp_b3 (fun z => I 178 (144 * s + z)) (fun z => I 176 (144 * s + z)) w h i t) 3) t + sp_sum (sp_b3 (fun z => I 178 (144 * s + z)) (fun z => I 176 (144 * s + z)) w h i t) k), .int (nI (2 * i)), .int (nI (2 * t)), .int (nI k)], [.int (nI k), .int (nI (2 * i)), .int (nI (2 * t)), .ref 152, .int (sp_sum (fun i => sp_sum (fun t => sp_sum (sp_b3 (fun z => I 178 (144 * s + z)) (fun z => I 176 (144 * s + z)) w h i t) 3) ((w + 1) / 2)) i + sp_sum (fun t => sp_sum (sp_b3 (fun z => I 178 (144 * s + z)) (fun z => I 176 (144 * s + z)) w h i t) 3) t + sp_sum (sp_b3 (fun z => I 178 (144 * s + z)) (fun z => I 176 (144 * s + z)) w h i t) k)])) (h' := (G, I, F)) (hs' := []) rfl rfl ?_
              refine vm_J.call vm_q258 (Z := vm_M257) (n := 3) (k := 0) (mi := 257) (pc := 47) (en := (47, .invokevirtual 412, 3, [257, 1698, 0], .null)) rfl trivial rfl rfl vm_z257 (av := [.ref 152, .int (nI (2 * t)), .int (nI (2 * i)), .int (nI k)]) (rest := [.int (sp_sum (fun i => sp_sum (fun t => sp_sum (sp_b3 (fun z => I 178 (144 * s + z)) (fun z => I 176 (144 * s + z)) w h i t) 3) ((w + 1) / 2)) i + sp_sum (fun t => sp_sum (sp_b3 (fun z => I 178 (144 * s + z)) (fun z => I 176 (144 * s + z)) w h i t) 3) t + sp_sum (sp_b3 (fun z => I 178 (144 * s + z)) (fun z => I 176 (144 * s + z)) w h i t) k)]) (r_bsh (s := s) (w := w) (h := h) (x := 2 * t) (y := 2 * i) (c := nI k) hR hs hw hh (by omega) (by omega) (by omega) (by omega) (by omega)) ⟨_, _, rfl, rfl, _, 11, _, hR.c152, rfl, rfl, rfl⟩ (Nat.le_of_ble_eq_true rfl) ⟨Nat.le_of_ble_eq_true rfl, Nat.le_of_ble_eq_true rfl⟩ ⟨Nat.le_of_ble_eq_true rfl, Nat.le_of_ble_eq_true rfl⟩ ?_
              show vm_J _ _ _ (50, (0, 0), [.ref 152, .int (sp_sum (fun i => sp_sum (fun t => sp_sum (sp_b3 (fun z => I 178 (144 * s + z)) (fun z => I 176 (144 * s + z)) w h i t) 3) ((w + 1) / 2)) i + sp_sum (fun t => sp_sum (sp_b3 (fun z => I 178 (144 * s + z)) (fun z => I 176 (144 * s + z)) w h i t) 3) t + sp_sum (sp_b3 (fun z => I 178 (144 * s + z)) (fun z => I 176 (144 * s + z)) w h i t) k), .int (nI (2 * i)), .int (nI (2 * t)), .int (nI k)], [.int (sp_bs (fun z => I 178 (144 * s + z)) (fun z => I 176 (144 * s + z)) (nI k) w h (2 * t) (2 * i)), .int (sp_sum (fun i => sp_sum (fun t => sp_sum (sp_b3 (fun z => I 178 (144 * s + z)) (fun z => I 176 (144 * s + z)) w h i t) 3) ((w + 1) / 2)) i + sp_sum (fun t => sp_sum (sp_b3 (fun z => I 178 (144 * s + z)) (fun z => I 176 (144 * s + z)) w h i t) 3) t + sp_sum (sp_b3 (fun z => I 178 (144 * s + z)) (fun z => I 176 (144 * s + z)) w h i t) k)]) (G, I, F) _ _
              refine vm_J.go vm_q258 (k := 4) (hs := []) (f' := (55, (0, 0), [.ref 152, .int (sp_sum (fun i => sp_sum (fun t => sp_sum (sp_b3 (fun z => I 178 (144 * s + z)) (fun z => I 176 (144 * s + z)) w h i t) 3) ((w + 1) / 2)) i + sp_sum (fun t => sp_sum (sp_b3 (fun z => I 178 (144 * s + z)) (fun z => I 176 (144 * s + z)) w h i t) 3) t + sp_sum (sp_b3 (fun z => I 178 (144 * s + z)) (fun z => I 176 (144 * s + z)) w h i t) k), .int (nI (2 * i)), .int (nI (2 * t)), .int (nI k)], [.int (nI k), .int (nI (2 * i)), .int (nI (2 * t)), .ref 152, .int (sp_bs (fun z => I 178 (144 * s + z)) (fun z => I 176 (144 * s + z)) (nI k) w h (2 * t) (2 * i)), .int (sp_sum (fun i => sp_sum (fun t => sp_sum (sp_b3 (fun z => I 178 (144 * s + z)) (fun z => I 176 (144 * s + z)) w h i t) 3) ((w + 1) / 2)) i + sp_sum (fun t => sp_sum (sp_b3 (fun z => I 178 (144 * s + z)) (fun z => I 176 (144 * s + z)) w h i t) 3) t + sp_sum (sp_b3 (fun z => I 178 (144 * s + z)) (fun z => I 176 (144 * s + z)) w h i t) k)])) (h' := (G, I, F)) (hs' := []) rfl rfl ?_
              refine vm_J.call vm_q258 (Z := vm_M257) (n := 3) (k := 0) (mi := 257) (pc := 55) (en := (55, .invokevirtual 412, 3, [257, 1698, 0], .null)) rfl trivial rfl rfl vm_z257 (av := [.ref 152, .int (nI (2 * t)), .int (nI (2 * i)), .int (nI k)]) (rest := [.int (sp_bs (fun z => I 178 (144 * s + z)) (fun z => I 176 (144 * s + z)) (nI k) w h (2 * t) (2 * i)), .int (sp_sum (fun i => sp_sum (fun t => sp_sum (sp_b3 (fun z => I 178 (144 * s + z)) (fun z => I 176 (144 * s + z)) w h i t) 3) ((w + 1) / 2)) i + sp_sum (fun t => sp_sum (sp_b3 (fun z => I 178 (144 * s + z)) (fun z => I 176 (144 * s + z)) w h i t) 3) t + sp_sum (sp_b3 (fun z => I 178 (144 * s + z)) (fun z => I 176 (144 * s + z)) w h i t) k)]) (r_bsh (s := s) (w := w) (h := h) (x := 2 * t) (y := 2 * i) (c := nI k) hR hs hw hh (by omega) (by omega) (by omega) (by omega) (by omega)) ⟨_, _, rfl, rfl, _, 11, _, hR.c152, rfl, rfl, rfl⟩ (Nat.le_of_ble_eq_true rfl) ⟨Nat.le_of_ble_eq_true rfl, Nat.le_of_ble_eq_true rfl⟩ ⟨Nat.le_of_ble_eq_true rfl, Nat.le_of_ble_eq_true rfl⟩ ?_
              show vm_J _ _ _ (58, (0, 0), [.ref 152, .int (sp_sum (fun i => sp_sum (fun t => sp_sum (sp_b3 (fun z => I 178 (144 * s + z)) (fun z => I 176 (144 * s + z)) w h i t) 3) ((w + 1) / 2)) i + sp_sum (fun t => sp_sum (sp_b3 (fun z => I 178 (144 * s + z)) (fun z => I 176 (144 * s + z)) w h i t) 3) t + sp_sum (sp_b3 (fun z => I 178 (144 * s + z)) (fun z => I 176 (144 * s + z)) w h i t) k), .int (nI (2 * i)), .int (nI (2 * t)), .int (nI k)], [.int (sp_bs (fun z => I 178 (144 * s + z)) (fun z => I 176 (144 * s + z)) (nI k) w h (2 * t) (2 * i)), .int (sp_bs (fun z => I 178 (144 * s + z)) (fun z => I 176 (144 * s + z)) (nI k) w h (2 * t) (2 * i)), .int (sp_sum (fun i => sp_sum (fun t => sp_sum (sp_b3 (fun z => I 178 (144 * s + z)) (fun z => I 176 (144 * s + z)) w h i t) 3) ((w + 1) / 2)) i + sp_sum (fun t => sp_sum (sp_b3 (fun z => I 178 (144 * s + z)) (fun z => I 176 (144 * s + z)) w h i t) 3) t + sp_sum (sp_b3 (fun z => I 178 (144 * s + z)) (fun z => I 176 (144 * s + z)) w h i t) k)]) (G, I, F) _ _
              refine vm_J.go vm_q258 (k := 5) (hs := []) (f' := (35, (0, 0), [.ref 152, .int ((sp_sum (fun i => sp_sum (fun t => sp_sum (sp_b3 (fun z => I 178 (144 * s + z)) (fun z => I 176 (144 * s + z)) w h i t) 3) ((w + 1) / 2)) i + sp_sum (fun t => sp_sum (sp_b3 (fun z => I 178 (144 * s + z)) (fun z => I 176 (144 * s + z)) w h i t) 3) t + sp_sum (sp_b3 (fun z => I 178 (144 * s + z)) (fun z => I 176 (144 * s + z)) w h i t) k) + ((sp_bs (fun z => I 178 (144 * s + z)) (fun z => I 176 (144 * s + z)) (nI k) w h (2 * t) (2 * i)) * (sp_bs (fun z => I 178 (144 * s + z)) (fun z => I 176 (144 * s + z)) (nI k) w h (2 * t) (2 * i)))), .int (nI (2 * i)), .int (nI (2 * t)), .int ((nI k) + 1)], [])) (h' := (G, I, F)) (hs' := []) rfl rfl ?_
              rw [((vm_pa (rfl : nI k = nI k) (rfl : (1 : Int32) = nI 1)) : (nI k) + 1 = nI (k + 1))]
              rw [show ((sp_sum (fun i => sp_sum (fun t => sp_sum (sp_b3 (fun z => I 178 (144 * s + z)) (fun z => I 176 (144 * s + z)) w h i t) 3) ((w + 1) / 2)) i + sp_sum (fun t => sp_sum (sp_b3 (fun z => I 178 (144 * s + z)) (fun z => I 176 (144 * s + z)) w h i t) 3) t + sp_sum (sp_b3 (fun z => I 178 (144 * s + z)) (fun z => I 176 (144 * s + z)) w h i t) k) + ((sp_bs (fun z => I 178 (144 * s + z)) (fun z => I 176 (144 * s + z)) (nI k) w h (2 * t) (2 * i)) * (sp_bs (fun z => I 178 (144 * s + z)) (fun z => I 176 (144 * s + z)) (nI k) w h (2 * t) (2 * i))) : Int32) = sp_sum (fun i => sp_sum (fun t => sp_sum (sp_b3 (fun z => I 178 (144 * s + z)) (fun z => I 176 (144 * s + z)) w h i t) 3) ((w + 1) / 2)) i + sp_sum (fun t => sp_sum (sp_b3 (fun z => I 178 (144 * s + z)) (fun z => I 176 (144 * s + z)) w h i t) 3) t + sp_sum (sp_b3 (fun z => I 178 (144 * s + z)) (fun z => I 176 (144 * s + z)) w h i t) (k + 1) from by exact Int32.add_assoc _ _ _]
              exact ik trivial
          · show vm_J _ _ _ (35, (0, 0), [.ref 152, .int (sp_sum (fun i => sp_sum (fun t => sp_sum (sp_b3 (fun z => I 178 (144 * s + z)) (fun z => I 176 (144 * s + z)) w h i t) 3) ((w + 1) / 2)) i + sp_sum (fun t => sp_sum (sp_b3 (fun z => I 178 (144 * s + z)) (fun z => I 176 (144 * s + z)) w h i t) 3) t + sp_sum (sp_b3 (fun z => I 178 (144 * s + z)) (fun z => I 176 (144 * s + z)) w h i t) 3), .int (nI (2 * i)), .int (nI (2 * t)), .int (nI 3)], []) (G, I, F) _ _
            refine vm_J.go vm_q258 (k := 3) (hs := []) (f' := (bif vm_ic .ge (nI 3) 3 then 67 else 41, (0, 0), [.ref 152, .int (sp_sum (fun i => sp_sum (fun t => sp_sum (sp_b3 (fun z => I 178 (144 * s + z)) (fun z => I 176 (144 * s + z)) w h i t) 3) ((w + 1) / 2)) i + sp_sum (fun t => sp_sum (sp_b3 (fun z => I 178 (144 * s + z)) (fun z => I 176 (144 * s + z)) w h i t) 3) t + sp_sum (sp_b3 (fun z => I 178 (144 * s + z)) (fun z => I 176 (144 * s + z)) w h i t) 3), .int (nI (2 * i)), .int (nI (2 * t)), .int (nI 3)], [])) (h' := (G, I, F)) (hs' := []) rfl rfl ?_
            refine vm_J.br (fun c4 => ?_) (fun c4 => ?_)
            · have c4 := vm_ge_t (a := 3) (b := 3) (by omega) (by omega) c4
              refine vm_J.go vm_q258 (k := 2) (hs := []) (f' := (19, (0, 0), [.ref 152, .int (sp_sum (fun i => sp_sum (fun t => sp_sum (sp_b3 (fun z => I 178 (144 * s + z)) (fun z => I 176 (144 * s + z)) w h i t) 3) ((w + 1) / 2)) i + sp_sum (fun t => sp_sum (sp_b3 (fun z => I 178 (144 * s + z)) (fun z => I 176 (144 * s + z)) w h i t) 3) t + sp_sum (sp_b3 (fun z => I 178 (144 * s + z)) (fun z => I 176 (144 * s + z)) w h i t) 3), .int (nI (2 * i)), .int ((nI (2 * t)) + 2), .int (nI 3)], [])) (h' := (G, I, F)) (hs' := []) rfl rfl ?_
              rw [((vm_pa (rfl : nI (2 * t) = nI (2 * t)) (rfl : (2 : Int32) = nI 2)) : (nI (2 * t)) + 2 = nI (2 * t + 2))]
              refine vm_J.mask [true, true, true, true, false] ?_
              show vm_J _ _ _ (19, (0, 0), [.ref 152, .int (sp_sum (fun i => sp_sum (fun t => sp_sum (sp_b3 (fun z => I 178 (144 * s + z)) (fun z => I 176 (144 * s + z)) w h i t) 3) ((w + 1) / 2)) i + sp_sum (fun t => sp_sum (sp_b3 (fun z => I 178 (144 * s + z)) (fun z => I 176 (144 * s + z)) w h i t) 3) t + sp_sum (sp_b3 (fun z => I 178 (144 * s + z)) (fun z => I 176 (144 * s + z)) w h i t) 3), .int (nI (2 * i)), .int (nI (2 * t + 2)), .retAddr 0], []) (G, I, F) _ _
              rw [show (sp_sum (fun i => sp_sum (fun t => sp_sum (sp_b3 (fun z => I 178 (144 * s + z)) (fun z => I 176 (144 * s + z)) w h i t) 3) ((w + 1) / 2)) i + sp_sum (fun t => sp_sum (sp_b3 (fun z => I 178 (144 * s + z)) (fun z => I 176 (144 * s + z)) w h i t) 3) t + sp_sum (sp_b3 (fun z => I 178 (144 * s + z)) (fun z => I 176 (144 * s + z)) w h i t) 3 : Int32) = sp_sum (fun i => sp_sum (fun t => sp_sum (sp_b3 (fun z => I 178 (144 * s + z)) (fun z => I 176 (144 * s + z)) w h i t) 3) ((w + 1) / 2)) i + sp_sum (fun t => sp_sum (sp_b3 (fun z => I 178 (144 * s + z)) (fun z => I 176 (144 * s + z)) w h i t) 3) (t + 1) from by first | exact Int32.add_assoc _ _ _ | rfl]
              rw [show (nI (2 * t + 2) : Int32) = nI (2 * (t + 1)) from by first | exact Int32.add_assoc _ _ _ | rfl]
              exact it trivial
            · have c4 := vm_ge_f (a := 3) (b := 3) (by omega) (by omega) c4
              exact (show False by omega).elim
      · show vm_J _ _ _ (19, (0, 0), [.ref 152, .int (sp_sum (fun i => sp_sum (fun t => sp_sum (sp_b3 (fun z => I 178 (144 * s + z)) (fun z => I 176 (144 * s + z)) w h i t) 3) ((w + 1) / 2)) i + sp_sum (fun t => sp_sum (sp_b3 (fun z => I 178 (144 * s + z)) (fun z => I 176 (144 * s + z)) w h i t) 3) ((w + 1) / 2)), .int (nI (2 * i)), .int (nI (2 * ((w + 1) / 2))), .retAddr 0], []) (G, I, F) _ _
        refine vm_J.go vm_q258 (k := 5) (hs := [vm_shR, vm_shR]) (f' := (28, (0, 0), [.ref 152, .int (sp_sum (fun i => sp_sum (fun t => sp_sum (sp_b3 (fun z => I 178 (144 * s + z)) (fun z => I 176 (144 * s + z)) w h i t) 3) ((w + 1) / 2)) i + sp_sum (fun t => sp_sum (sp_b3 (fun z => I 178 (144 * s + z)) (fun z => I 176 (144 * s + z)) w h i t) 3) ((w + 1) / 2)), .int (nI (2 * i)), .int (nI (2 * ((w + 1) / 2))), .retAddr 0], [.int (I 152 40), .ref 173, .int (nI (2 * ((w + 1) / 2)))])) (h' := (G, I, F)) (hs' := []) rfl (vm_b2 rfl (vm_b2 rfl (vm_b2 (vm_b2 (vm_hG hR.c152) rfl) (vm_b2 rfl (vm_b2 (vm_b2 (vm_hG hR.c152) rfl) rfl))))) ?_
        rw [(hs : I 152 40 = nI s)]
        refine vm_J.go vm_q258 (k := 1) (hs := [(0, 2, [])]) (f' := (29, (0, 0), [.ref 152, .int (sp_sum (fun i => sp_sum (fun t => sp_sum (sp_b3 (fun z => I 178 (144 * s + z)) (fun z => I 176 (144 * s + z)) w h i t) 3) ((w + 1) / 2)) i + sp_sum (fun t => sp_sum (sp_b3 (fun z => I 178 (144 * s + z)) (fun z => I 176 (144 * s + z)) w h i t) 3) ((w + 1) / 2)), .int (nI (2 * i)), .int (nI (2 * ((w + 1) / 2))), .retAddr 0], [.int (I 173 (nI s).toNatClampNeg), .int (nI (2 * ((w + 1) / 2)))])) (h' := (G, I, F)) (hs' := []) rfl (vm_b2 (vm_b2 (vm_hG hR.c173) (vm_in_e (j := s) (n := 2) rfl (by omega) (by omega))) rfl) ?_
        rw [vm_ix_e (j := s) rfl (by omega)]
        rw [(hw : I 173 s = nI w)]
        refine vm_J.go vm_q258 (k := 1) (hs := []) (f' := (bif vm_ic .ge (nI (2 * ((w + 1) / 2))) (nI w) then 73 else 32, (0, 0), [.ref 152, .int (sp_sum (fun i => sp_sum (fun t => sp_sum (sp_b3 (fun z => I 178 (144 * s + z)) (fun z => I 176 (144 * s + z)) w h i t) 3) ((w + 1) / 2)) i + sp_sum (fun t => sp_sum (sp_b3 (fun z => I 178 (144 * s + z)) (fun z => I 176 (144 * s + z)) w h i t) 3) ((w + 1) / 2)), .int (nI (2 * i)), .int (nI (2 * ((w + 1) / 2))), .retAddr 0], [])) (h' := (G, I, F)) (hs' := []) rfl rfl ?_
        refine vm_J.br (fun c5 => ?_) (fun c5 => ?_)
        · have c5 := vm_ge_t (a := 2 * ((w + 1) / 2)) (b := w) (by omega) (by omega) c5
          refine vm_J.go vm_q258 (k := 2) (hs := []) (f' := (4, (0, 0), [.ref 152, .int (sp_sum (fun i => sp_sum (fun t => sp_sum (sp_b3 (fun z => I 178 (144 * s + z)) (fun z => I 176 (144 * s + z)) w h i t) 3) ((w + 1) / 2)) i + sp_sum (fun t => sp_sum (sp_b3 (fun z => I 178 (144 * s + z)) (fun z => I 176 (144 * s + z)) w h i t) 3) ((w + 1) / 2)), .int ((nI (2 * i)) + 2), .int (nI (2 * ((w + 1) / 2))), .retAddr 0], [])) (h' := (G, I, F)) (hs' := []) rfl rfl ?_
          rw [((vm_pa (rfl : nI (2 * i) = nI (2 * i)) (rfl : (2 : Int32) = nI 2)) : (nI (2 * i)) + 2 = nI (2 * i + 2))]
          refine vm_J.mask [true, true, true, false, true] ?_
          show vm_J _ _ _ (4, (0, 0), [.ref 152, .int (sp_sum (fun i => sp_sum (fun t => sp_sum (sp_b3 (fun z => I 178 (144 * s + z)) (fun z => I 176 (144 * s + z)) w h i t) 3) ((w + 1) / 2)) i + sp_sum (fun t => sp_sum (sp_b3 (fun z => I 178 (144 * s + z)) (fun z => I 176 (144 * s + z)) w h i t) 3) ((w + 1) / 2)), .int (nI (2 * i + 2)), .retAddr 0, .retAddr 0], []) (G, I, F) _ _
          rw [show (sp_sum (fun i => sp_sum (fun t => sp_sum (sp_b3 (fun z => I 178 (144 * s + z)) (fun z => I 176 (144 * s + z)) w h i t) 3) ((w + 1) / 2)) i + sp_sum (fun t => sp_sum (sp_b3 (fun z => I 178 (144 * s + z)) (fun z => I 176 (144 * s + z)) w h i t) 3) ((w + 1) / 2) : Int32) = sp_sum (fun i => sp_sum (fun t => sp_sum (sp_b3 (fun z => I 178 (144 * s + z)) (fun z => I 176 (144 * s + z)) w h i t) 3) ((w + 1) / 2)) (i + 1) from by rfl]
          rw [show (nI (2 * i + 2) : Int32) = nI (2 * (i + 1)) from by rfl]
          exact ii trivial
        · have c5 := vm_ge_f (a := 2 * ((w + 1) / 2)) (b := w) (by omega) (by omega) c5
          exact (show False by omega).elim
  · show vm_J _ _ _ (4, (0, 0), [.ref 152, .int (sp_sum (fun i => sp_sum (fun t => sp_sum (sp_b3 (fun z => I 178 (144 * s + z)) (fun z => I 176 (144 * s + z)) w h i t) 3) ((w + 1) / 2)) ((h + 1) / 2)), .int (nI (2 * ((h + 1) / 2))), .retAddr 0, .retAddr 0], []) (G, I, F) _ _
    refine vm_J.go vm_q258 (k := 5) (hs := [vm_shR, vm_shR]) (f' := (13, (0, 0), [.ref 152, .int (sp_sum (fun i => sp_sum (fun t => sp_sum (sp_b3 (fun z => I 178 (144 * s + z)) (fun z => I 176 (144 * s + z)) w h i t) 3) ((w + 1) / 2)) ((h + 1) / 2)), .int (nI (2 * ((h + 1) / 2))), .retAddr 0, .retAddr 0], [.int (I 152 40), .ref 174, .int (nI (2 * ((h + 1) / 2)))])) (h' := (G, I, F)) (hs' := []) rfl (vm_b2 rfl (vm_b2 rfl (vm_b2 (vm_b2 (vm_hG hR.c152) rfl) (vm_b2 rfl (vm_b2 (vm_b2 (vm_hG hR.c152) rfl) rfl))))) ?_
    rw [(hs : I 152 40 = nI s)]
    refine vm_J.go vm_q258 (k := 1) (hs := [(0, 2, [])]) (f' := (14, (0, 0), [.ref 152, .int (sp_sum (fun i => sp_sum (fun t => sp_sum (sp_b3 (fun z => I 178 (144 * s + z)) (fun z => I 176 (144 * s + z)) w h i t) 3) ((w + 1) / 2)) ((h + 1) / 2)), .int (nI (2 * ((h + 1) / 2))), .retAddr 0, .retAddr 0], [.int (I 174 (nI s).toNatClampNeg), .int (nI (2 * ((h + 1) / 2)))])) (h' := (G, I, F)) (hs' := []) rfl (vm_b2 (vm_b2 (vm_hG hR.c174) (vm_in_e (j := s) (n := 2) rfl (by omega) (by omega))) rfl) ?_
    rw [vm_ix_e (j := s) rfl (by omega)]
    rw [(hh : I 174 s = nI h)]
    refine vm_J.go vm_q258 (k := 1) (hs := []) (f' := (bif vm_ic .ge (nI (2 * ((h + 1) / 2))) (nI h) then 79 else 17, (0, 0), [.ref 152, .int (sp_sum (fun i => sp_sum (fun t => sp_sum (sp_b3 (fun z => I 178 (144 * s + z)) (fun z => I 176 (144 * s + z)) w h i t) 3) ((w + 1) / 2)) ((h + 1) / 2)), .int (nI (2 * ((h + 1) / 2))), .retAddr 0, .retAddr 0], [])) (h' := (G, I, F)) (hs' := []) rfl rfl ?_
    refine vm_J.br (fun c6 => ?_) (fun c6 => ?_)
    · have c6 := vm_ge_t (a := 2 * ((h + 1) / 2)) (b := h) (by omega) (by omega) c6
      refine vm_J.go vm_q258 (k := 1) (hs := []) (f' := (80, (0, 0), [.ref 152, .int (sp_sum (fun i => sp_sum (fun t => sp_sum (sp_b3 (fun z => I 178 (144 * s + z)) (fun z => I 176 (144 * s + z)) w h i t) 3) ((w + 1) / 2)) ((h + 1) / 2)), .int (nI (2 * ((h + 1) / 2))), .retAddr 0, .retAddr 0], [.int (sp_sum (fun i => sp_sum (fun t => sp_sum (sp_b3 (fun z => I 178 (144 * s + z)) (fun z => I 176 (144 * s + z)) w h i t) 3) ((w + 1) / 2)) ((h + 1) / 2))])) (h' := (G, I, F)) (hs' := []) rfl rfl ?_
      exact vm_J.end vm_q258 (en := (80, .ireturn, 1, [], .null)) rfl rfl vm_rI (Nat.zero_le _) (Nat.zero_le _) rfl
    · have c6 := vm_ge_f (a := 2 * ((h + 1) / 2)) (b := h) (by omega) (by omega) c6
      exact (show False by omega).elim
/-- a run's beginning, at pixel k -/
def sp_rk (f : Nat → Int32) (w k : Nat) : Int32 := if k % w = 0 ∨ ¬ f k = f (k - 1) then 1 else 0
set_option maxHeartbeats 4000000 in
set_option maxRecDepth 20000 in
/-- DitherDeskModel.runsNow -/
theorem r_runs {l : Launch} {X : vm_Cx} {G : List vm_Sh} {I : Nat → Nat → Int32} {F : Nat → Nat → UInt32} {s : Nat} {w : Nat} {h : Nat} (hR : vm_isR G) (hs : I 152 40 = nI s) (hw : I 173 s = nI w) (hh : I 174 s = nI h) (hs2 : s < 2) (hw2 : w ≤ 12) (hh2 : h ≤ 12) (hw0 : 0 < w) : vm_K l X vm_M259 [.ref 152] (G, I, F) (some (.int (sp_sum (sp_rk (fun z => I 177 (144 * s + z)) w) (w * h)))) (G, I, F) := by
  refine vm_K.mk (by decide) (Nat.le_of_ble_eq_true rfl) ?_
  have hwh := vm_mul144 hw2 hh2
  show vm_J _ _ _ (0, (0, 0), [.ref 152, .retAddr 0, .retAddr 0, .retAddr 0], []) _ _ _
  refine vm_J.go vm_q259 (k := 4) (hs := []) (f' := (4, (0, 0), [.ref 152, .int 0, .int 0, .retAddr 0], [])) (h' := (G, I, F)) (hs' := []) rfl rfl ?_
  refine vm_J.cnt (w * h) (fun k => (4, (0, 0), [.ref 152, .int (sp_sum (sp_rk (fun z => I 177 (144 * s + z)) w) k), .int (nI k), .retAddr 0], [])) (fun k => (G, I, F)) (fun _ => True) rfl rfl trivial (fun k hk pk ik => ?_) (fun pk => ?_)
  · have hkm := Nat.mod_lt k hw0
    show vm_J _ _ _ (4, (0, 0), [.ref 152, .int (sp_sum (sp_rk (fun z => I 177 (144 * s + z)) w) k), .int (nI k), .retAddr 0], []) (G, I, F) _ _
    refine vm_J.go vm_q259 (k := 2) (hs := []) (f' := (6, (0, 0), [.ref 152, .int (sp_sum (sp_rk (fun z => I 177 (144 * s + z)) w) k), .int (nI k), .retAddr 0], [.ref 152, .int (nI k)])) (h' := (G, I, F)) (hs' := []) rfl rfl ?_
    refine vm_J.call vm_q259 (Z := vm_M251) (n := 0) (k := 0) (mi := 251) (pc := 6) (en := (6, .invokevirtual 396, 3, [251, 1587, 0], .null)) rfl trivial rfl rfl vm_z251 (av := [.ref 152]) (rest := [.int (nI k)]) (r_shPix (s := s) (w := w) (h := h) hR hs hw hh (by omega) (by omega) (by omega)) ⟨_, _, rfl, rfl, _, 11, _, hR.c152, rfl, rfl, rfl⟩ (Nat.le_of_ble_eq_true rfl) ⟨Nat.le_of_ble_eq_true rfl, Nat.le_of_ble_eq_true rfl⟩ ⟨Nat.le_of_ble_eq_true rfl, Nat.le_of_ble_eq_true rfl⟩ ?_
    show vm_J _ _ _ (9, (0, 0), [.ref 152, .int (sp_sum (sp_rk (fun z => I 177 (144 * s + z)) w) k), .int (nI k), .retAddr 0], [.int (nI (w * h)), .int (nI k)]) (G, I, F) _ _
    refine vm_J.go vm_q259 (k := 1) (hs := []) (f' := (bif vm_ic .ge (nI k) (nI (w * h)) then 85 else 12, (0, 0), [.ref 152, .int (sp_sum (sp_rk (fun z => I 177 (144 * s + z)) w) k), .int (nI k), .retAddr 0], [])) (h' := (G, I, F)) (hs' := []) rfl rfl ?_
    refine vm_J.br (fun c1 => ?_) (fun c1 => ?_)
    · have c1 := vm_ge_t (a := k) (b := w * h) (by omega) (by omega) c1
      exact (show False by omega).elim
    · have c1 := vm_ge_f (a := k) (b := w * h) (by omega) (by omega) c1
      refine vm_J.go vm_q259 (k := 5) (hs := [vm_shR, vm_shR]) (f' := (21, (0, 0), [.ref 152, .int (sp_sum (sp_rk (fun z => I 177 (144 * s + z)) w) k), .int (nI k), .retAddr 0], [.int (I 152 40), .ref 173, .int (nI k)])) (h' := (G, I, F)) (hs' := []) rfl (vm_b2 rfl (vm_b2 rfl (vm_b2 (vm_b2 (vm_hG hR.c152) rfl) (vm_b2 rfl (vm_b2 (vm_b2 (vm_hG hR.c152) rfl) rfl))))) ?_
      rw [(hs : I 152 40 = nI s)]
      refine vm_J.go vm_q259 (k := 1) (hs := [(0, 2, [])]) (f' := (22, (0, 0), [.ref 152, .int (sp_sum (sp_rk (fun z => I 177 (144 * s + z)) w) k), .int (nI k), .retAddr 0], [.int (I 173 (nI s).toNatClampNeg), .int (nI k)])) (h' := (G, I, F)) (hs' := []) rfl (vm_b2 (vm_b2 (vm_hG hR.c173) (vm_in_e (j := s) (n := 2) rfl (by omega) (by omega))) rfl) ?_
      rw [vm_ix_e (j := s) rfl (by omega)]
      rw [(hw : I 173 s = nI w)]
      refine vm_J.go vm_q259 (k := 2) (hs := []) (f' := (bif vm_ic .ne ((nI k) - (nI k) / (nI w) * (nI w)) 0 then 30 else 26, (0, 0), [.ref 152, .int (sp_sum (sp_rk (fun z => I 177 (144 * s + z)) w) k), .int (nI k), .retAddr 0], [])) (h' := (G, I, F)) (hs' := []) rfl (vm_b2 (decide_eq_true (vm_nz (rfl : nI w = nI w) (by omega) (by omega))) (vm_b2 rfl rfl)) ?_
      refine vm_J.br (fun c2 => ?_) (fun c2 => ?_)
      · rw [((vm_pr (rfl : (nI k : Int32) = nI k) (rfl : (nI w : Int32) = nI w) (by omega) (by omega) (by omega)) : (nI k) - (nI k) / (nI w) * (nI w) = nI (k % w))] at c2
        have c2 := vm_ne_t (a := k % w) (b := 0) (by omega) (by omega) c2
        have hk0 : 1 ≤ k := Nat.pos_of_ne_zero fun e => c2 (by rw [e, Nat.zero_mod])
        refine vm_J.go vm_q259 (k := 5) (hs := []) (f' := (bif vm_ic .ne 0 0 then 72 else 37, (0, 0), [.ref 152, .int (sp_sum (sp_rk (fun z => I 177 (144 * s + z)) w) k), .int (nI k), .int 0], [.int (sp_sum (sp_rk (fun z => I 177 (144 * s + z)) w) k)])) (h' := (G, I, F)) (hs' := []) rfl rfl ?_
        refine vm_J.bF (by decide) ?_
        refine vm_J.go vm_q259 (k := 5) (hs := [vm_shR, vm_shR]) (f' := (48, (0, 0), [.ref 152, .int (sp_sum (sp_rk (fun z => I 177 (144 * s + z)) w) k), .int (nI k), .int 0], [.int (I 152 40), .int 144, .ref 177, .int (sp_sum (sp_rk (fun z => I 177 (144 * s + z)) w) k)])) (h' := (G, I, F)) (hs' := []) rfl (vm_b2 rfl (vm_b2 (vm_b2 (vm_hG hR.c152) rfl) (vm_b2 rfl (vm_b2 rfl (vm_b2 (vm_b2 (vm_hG hR.c152) rfl) rfl))))) ?_
        rw [(hs : I 152 40 = nI s)]
        refine vm_J.go vm_q259 (k := 9) (hs := [(0, 288, []), vm_shR, vm_shR]) (f' := (63, (0, 0), [.ref 152, .int (sp_sum (sp_rk (fun z => I 177 (144 * s + z)) w) k), .int (nI k), .int 0], [.int (I 152 40), .int 144, .ref 177, .int (I 177 ((144 * (nI s)) + (nI k)).toNatClampNeg), .int (sp_sum (sp_rk (fun z => I 177 (144 * s + z)) w) k)])) (h' := (G, I, F)) (hs' := []) rfl (vm_b2 rfl (vm_b2 rfl (vm_b2 rfl (vm_b2 (vm_b2 (vm_hG hR.c177) (vm_in_e (j := (144 * s) + k) (n := 288) (vm_pa (vm_pm (rfl : (144 : Int32) = nI 144) (rfl : (nI s : Int32) = nI s)) (rfl : (nI k : Int32) = nI k)) (by omega) (by omega))) (vm_b2 rfl (vm_b2 (vm_b2 (vm_hG hR.c152) rfl) (vm_b2 rfl (vm_b2 rfl (vm_b2 (vm_b2 (vm_hG hR.c152) rfl) rfl))))))))) ?_
        rw [vm_ix_e (j := (144 * s) + k) (vm_pa (vm_pm (rfl : (144 : Int32) = nI 144) (rfl : (nI s : Int32) = nI s)) (rfl : (nI k : Int32) = nI k)) (by omega)]
        rw [(hs : I 152 40 = nI s)]
        refine vm_J.go vm_q259 (k := 6) (hs := [(0, 288, [])]) (f' := (69, (0, 0), [.ref 152, .int (sp_sum (sp_rk (fun z => I 177 (144 * s + z)) w) k), .int (nI k), .int 0], [.int (I 177 (((144 * (nI s)) + (nI k)) - 1).toNatClampNeg), .int (I 177 ((144 * s) + k)), .int (sp_sum (sp_rk (fun z => I 177 (144 * s + z)) w) k)])) (h' := (G, I, F)) (hs' := []) rfl (vm_b2 rfl (vm_b2 rfl (vm_b2 rfl (vm_b2 rfl (vm_b2 rfl (vm_b2 (vm_b2 (vm_hG hR.c177) (vm_in_e (j := ((144 * s) + k) - 1) (n := 288) (vm_ps (vm_pa (vm_pm (rfl : (144 : Int32) = nI 144) (rfl : (nI s : Int32) = nI s)) (rfl : (nI k : Int32) = nI k)) (rfl : (1 : Int32) = nI 1) (by omega)) (by omega) (by omega))) rfl)))))) ?_
        rw [vm_ix_e (j := ((144 * s) + k) - 1) (vm_ps (vm_pa (vm_pm (rfl : (144 : Int32) = nI 144) (rfl : (nI s : Int32) = nI s)) (rfl : (nI k : Int32) = nI k)) (rfl : (1 : Int32) = nI 1) (by omega)) (by omega)]
        refine vm_J.go vm_q259 (k := 1) (hs := []) (f' := (bif vm_ic .eq (I 177 ((144 * s) + k)) (I 177 (((144 * s) + k) - 1)) then 76 else 72, (0, 0), [.ref 152, .int (sp_sum (sp_rk (fun z => I 177 (144 * s + z)) w) k), .int (nI k), .int 0], [.int (sp_sum (sp_rk (fun z => I 177 (144 * s + z)) w) k)])) (h' := (G, I, F)) (hs' := []) rfl rfl ?_
        refine vm_J.br (fun c3 => ?_) (fun c3 => ?_)
        · have c3 : (I 177 ((144 * s) + k)) = (I 177 (((144 * s) + k) - 1)) := of_decide_eq_true c3
          refine vm_J.go vm_q259 (k := 5) (hs := []) (f' := (4, (0, 0), [.ref 152, .int ((sp_sum (sp_rk (fun z => I 177 (144 * s + z)) w) k) + 0), .int ((nI k) + 1), .int 0], [])) (h' := (G, I, F)) (hs' := []) rfl rfl ?_
          rw [((vm_pa (rfl : nI k = nI k) (rfl : (1 : Int32) = nI 1)) : (nI k) + 1 = nI (k + 1))]
          refine vm_J.mask [true, true, true, false] ?_
          show vm_J _ _ _ (4, (0, 0), [.ref 152, .int ((sp_sum (sp_rk (fun z => I 177 (144 * s + z)) w) k) + 0), .int (nI (k + 1)), .retAddr 0], []) (G, I, F) _ _
          rw [show ((sp_sum (sp_rk (fun z => I 177 (144 * s + z)) w) k) + 0 : Int32) = sp_sum (sp_rk (fun z => I 177 (144 * s + z)) w) (k + 1) from by rw [sp_sum, sp_rk, if_neg (fun z => z.elim c2 (fun y => y (by rw [← Nat.add_sub_assoc hk0]; exact c3)))]]
          exact ik trivial
        · have c3 : ¬ ((I 177 ((144 * s) + k)) = (I 177 (((144 * s) + k) - 1))) := of_decide_eq_false c3
          refine vm_J.go vm_q259 (k := 6) (hs := []) (f' := (4, (0, 0), [.ref 152, .int ((sp_sum (sp_rk (fun z => I 177 (144 * s + z)) w) k) + 1), .int ((nI k) + 1), .int 0], [])) (h' := (G, I, F)) (hs' := []) rfl rfl ?_
          rw [((vm_pa (rfl : nI k = nI k) (rfl : (1 : Int32) = nI 1)) : (nI k) + 1 = nI (k + 1))]
          refine vm_J.mask [true, true, true, false] ?_
          show vm_J _ _ _ (4, (0, 0), [.ref 152, .int ((sp_sum (sp_rk (fun z => I 177 (144 * s + z)) w) k) + 1), .int (nI (k + 1)), .retAddr 0], []) (G, I, F) _ _
          rw [show ((sp_sum (sp_rk (fun z => I 177 (144 * s + z)) w) k) + 1 : Int32) = sp_sum (sp_rk (fun z => I 177 (144 * s + z)) w) (k + 1) from by rw [sp_sum, sp_rk, if_pos (Or.inr (by rw [← Nat.add_sub_assoc hk0]; exact c3))]]
          exact ik trivial
      · rw [((vm_pr (rfl : (nI k : Int32) = nI k) (rfl : (nI w : Int32) = nI w) (by omega) (by omega) (by omega)) : (nI k) - (nI k) / (nI w) * (nI w) = nI (k % w))] at c2
        have c2 := vm_ne_f (a := k % w) (b := 0) (by omega) (by omega) c2
        refine vm_J.go vm_q259 (k := 6) (hs := []) (f' := (bif vm_ic .ne 1 0 then 72 else 37, (0, 0), [.ref 152, .int (sp_sum (sp_rk (fun z => I 177 (144 * s + z)) w) k), .int (nI k), .int 1], [.int (sp_sum (sp_rk (fun z => I 177 (144 * s + z)) w) k)])) (h' := (G, I, F)) (hs' := []) rfl rfl ?_
        refine vm_J.bT (by decide) ?_
        refine vm_J.go vm_q259 (k := 6) (hs := []) (f' := (4, (0, 0), [.ref 152, .int ((sp_sum (sp_rk (fun z => I 177 (144 * s + z)) w) k) + 1), .int ((nI k) + 1), .int 1], [])) (h' := (G, I, F)) (hs' := []) rfl rfl ?_
        rw [((vm_pa (rfl : nI k = nI k) (rfl : (1 : Int32) = nI 1)) : (nI k) + 1 = nI (k + 1))]
        refine vm_J.mask [true, true, true, false] ?_
        show vm_J _ _ _ (4, (0, 0), [.ref 152, .int ((sp_sum (sp_rk (fun z => I 177 (144 * s + z)) w) k) + 1), .int (nI (k + 1)), .retAddr 0], []) (G, I, F) _ _
        rw [show ((sp_sum (sp_rk (fun z => I 177 (144 * s + z)) w) k) + 1 : Int32) = sp_sum (sp_rk (fun z => I 177 (144 * s + z)) w) (k + 1) from by rw [sp_sum, sp_rk, if_pos (Or.inl c2)]]
        exact ik trivial
  · show vm_J _ _ _ (4, (0, 0), [.ref 152, .int (sp_sum (sp_rk (fun z => I 177 (144 * s + z)) w) (w * h)), .int (nI (w * h)), .retAddr 0], []) (G, I, F) _ _
    refine vm_J.go vm_q259 (k := 2) (hs := []) (f' := (6, (0, 0), [.ref 152, .int (sp_sum (sp_rk (fun z => I 177 (144 * s + z)) w) (w * h)), .int (nI (w * h)), .retAddr 0], [.ref 152, .int (nI (w * h))])) (h' := (G, I, F)) (hs' := []) rfl rfl ?_
    refine vm_J.call vm_q259 (Z := vm_M251) (n := 0) (k := 0) (mi := 251) (pc := 6) (en := (6, .invokevirtual 396, 3, [251, 1587, 0], .null)) rfl trivial rfl rfl vm_z251 (av := [.ref 152]) (rest := [.int (nI (w * h))]) (r_shPix (s := s) (w := w) (h := h) hR hs hw hh (by omega) (by omega) (by omega)) ⟨_, _, rfl, rfl, _, 11, _, hR.c152, rfl, rfl, rfl⟩ (Nat.le_of_ble_eq_true rfl) ⟨Nat.le_of_ble_eq_true rfl, Nat.le_of_ble_eq_true rfl⟩ ⟨Nat.le_of_ble_eq_true rfl, Nat.le_of_ble_eq_true rfl⟩ ?_
    show vm_J _ _ _ (9, (0, 0), [.ref 152, .int (sp_sum (sp_rk (fun z => I 177 (144 * s + z)) w) (w * h)), .int (nI (w * h)), .retAddr 0], [.int (nI (w * h)), .int (nI (w * h))]) (G, I, F) _ _
    refine vm_J.go vm_q259 (k := 1) (hs := []) (f' := (bif vm_ic .ge (nI (w * h)) (nI (w * h)) then 85 else 12, (0, 0), [.ref 152, .int (sp_sum (sp_rk (fun z => I 177 (144 * s + z)) w) (w * h)), .int (nI (w * h)), .retAddr 0], [])) (h' := (G, I, F)) (hs' := []) rfl rfl ?_
    refine vm_J.br (fun c4 => ?_) (fun c4 => ?_)
    · have c4 := vm_ge_t (a := (w * h)) (b := w * h) (by omega) (by omega) c4
      refine vm_J.go vm_q259 (k := 1) (hs := []) (f' := (86, (0, 0), [.ref 152, .int (sp_sum (sp_rk (fun z => I 177 (144 * s + z)) w) (w * h)), .int (nI (w * h)), .retAddr 0], [.int (sp_sum (sp_rk (fun z => I 177 (144 * s + z)) w) (w * h))])) (h' := (G, I, F)) (hs' := []) rfl rfl ?_
      exact vm_J.end vm_q259 (en := (86, .ireturn, 1, [], .null)) rfl rfl vm_rI (Nat.zero_le _) (Nat.zero_le _) rfl
    · have c4 := vm_ge_f (a := (w * h)) (b := w * h) (by omega) (by omega) c4
      exact (show False by omega).elim
set_option maxHeartbeats 4000000 in
set_option maxRecDepth 20000 in
/-- DitherDeskModel.isMade -/
theorem r_isMade_y {l : Launch} {X : vm_Cx} {G : List vm_Sh} {I : Nat → Nat → Int32} {F : Nat → Nat → UInt32} {w : Nat} (hR : vm_isR G) (hw : I 173 0 = nI w) (hw2 : w ≤ 12) (hw0 : 0 < w) : vm_K l X vm_M262 [.ref 152] (G, I, F) (some (.int 1)) (G, (vm_up I 152 40 0), F) := by
  refine vm_K.mk (by decide) (Nat.le_of_ble_eq_true rfl) ?_
  show vm_J _ _ _ (0, (0, 0), [.ref 152], []) _ _ _
  refine vm_J.go vm_q262 (k := 7) (hs := [vm_shR, vm_shR, (0, 2, [])]) (f' := (11, (0, 0), [.ref 152], [.int ((vm_up I 152 40 0) 173 0)])) (h' := (G, (vm_up I 152 40 0), F)) (hs' := []) rfl (vm_b2 rfl (vm_b2 rfl (vm_b2 (vm_b2 (vm_b2 (vm_hG hR.c152) rfl) rfl) (vm_b2 rfl (vm_b2 (vm_b2 (vm_hG hR.c152) rfl) (vm_b2 rfl (vm_b2 (vm_b2 (vm_hG hR.c173) rfl) rfl))))))) ?_
  rw [((Eq.trans (congrFun (vm_up_f _ 152 _ _ 173 (by decide)) 0) hw) : (vm_up I 152 40 0) 173 0 = nI w)]
  refine vm_J.go vm_q262 (k := 1) (hs := []) (f' := (bif vm_ic .le (nI w) 0 then 18 else 14, (0, 0), [.ref 152], [])) (h' := (G, (vm_up I 152 40 0), F)) (hs' := []) rfl rfl ?_
  refine vm_J.br (fun c1 => ?_) (fun c1 => ?_)
  · have c1 := vm_le_t (a := w) (b := 0) (by omega) (by omega) c1
    exact (show False by omega).elim
  · have c1 := vm_le_f (a := w) (b := 0) (by omega) (by omega) c1
    refine vm_J.go vm_q262 (k := 2) (hs := []) (f' := (19, (0, 0), [.ref 152], [.int 1])) (h' := (G, (vm_up I 152 40 0), F)) (hs' := []) rfl rfl ?_
    exact vm_J.end vm_q262 (en := (19, .ireturn, 1, [], .null)) rfl rfl vm_rZ1 (Nat.zero_le _) (Nat.zero_le _) rfl
set_option maxHeartbeats 4000000 in
set_option maxRecDepth 20000 in
/-- DitherDeskModel.isMade -/
theorem r_isMade_n {l : Launch} {X : vm_Cx} {G : List vm_Sh} {I : Nat → Nat → Int32} {F : Nat → Nat → UInt32} {w : Nat} (hR : vm_isR G) (hw : I 173 0 = nI w) (hw2 : w = 0) : vm_K l X vm_M262 [.ref 152] (G, I, F) (some (.int 0)) (G, (vm_up I 152 40 0), F) := by
  refine vm_K.mk (by decide) (Nat.le_of_ble_eq_true rfl) ?_
  show vm_J _ _ _ (0, (0, 0), [.ref 152], []) _ _ _
  refine vm_J.go vm_q262 (k := 7) (hs := [vm_shR, vm_shR, (0, 2, [])]) (f' := (11, (0, 0), [.ref 152], [.int ((vm_up I 152 40 0) 173 0)])) (h' := (G, (vm_up I 152 40 0), F)) (hs' := []) rfl (vm_b2 rfl (vm_b2 rfl (vm_b2 (vm_b2 (vm_b2 (vm_hG hR.c152) rfl) rfl) (vm_b2 rfl (vm_b2 (vm_b2 (vm_hG hR.c152) rfl) (vm_b2 rfl (vm_b2 (vm_b2 (vm_hG hR.c173) rfl) rfl))))))) ?_
  rw [((Eq.trans (congrFun (vm_up_f _ 152 _ _ 173 (by decide)) 0) hw) : (vm_up I 152 40 0) 173 0 = nI w)]
  refine vm_J.go vm_q262 (k := 1) (hs := []) (f' := (bif vm_ic .le (nI w) 0 then 18 else 14, (0, 0), [.ref 152], [])) (h' := (G, (vm_up I 152 40 0), F)) (hs' := []) rfl rfl ?_
  refine vm_J.br (fun c1 => ?_) (fun c1 => ?_)
  · have c1 := vm_le_t (a := w) (b := 0) (by omega) (by omega) c1
    refine vm_J.go vm_q262 (k := 1) (hs := []) (f' := (19, (0, 0), [.ref 152], [.int 0])) (h' := (G, (vm_up I 152 40 0), F)) (hs' := []) rfl rfl ?_
    exact vm_J.end vm_q262 (en := (19, .ireturn, 1, [], .null)) rfl rfl vm_rZ0 (Nat.zero_le _) (Nat.zero_le _) rfl
  · have c1 := vm_le_f (a := w) (b := 0) (by omega) (by omega) c1
    exact (show False by omega).elim
set_option maxHeartbeats 4000000 in
set_option maxRecDepth 20000 in
/-- DitherDeskModel.sheet -/
theorem r_sheet_b {l : Launch} {X : vm_Cx} {G : List vm_Sh} {I : Nat → Nat → Int32} {F : Nat → Nat → UInt32} {x : Int32} {y : Int32} {k : Int32} (hR : vm_isR G) (hk : ¬ (0 ≤ k ∧ k ≤ 2)) : vm_K l X vm_M264 [.ref 152, .int x, .int y, .int k] (G, I, F) (some (.int (-1))) (G, I, F) := by
  refine vm_K.mk (by decide) (Nat.le_of_ble_eq_true rfl) ?_
  show vm_J _ _ _ (0, (0, 0), [.ref 152, .int x, .int y, .int k, .retAddr 0], []) _ _ _
  refine vm_J.go vm_q264 (k := 3) (hs := []) (f' := (3, (0, 0), [.ref 152, .int x, .int y, .int k, .retAddr 0], [.int 2, .int 0, .int k])) (h' := (G, I, F)) (hs' := []) rfl rfl ?_
  refine vm_J.call vm_q264 (Z := vm_M168) (n := 3) (k := 1) (mi := 168) (pc := 3) (en := (3, .invokestatic 141, 3, [168, 1302, 0], .null)) rfl trivial rfl rfl vm_z168 (av := [.int k, .int 0, .int 2]) (rest := []) (r_isIn_n (v := k) (a := 0) (b := 2) hk) rfl (Nat.le_of_ble_eq_true rfl) ⟨Nat.le_of_ble_eq_true rfl, Nat.le_of_ble_eq_true rfl⟩ ⟨Nat.le_of_ble_eq_true rfl, Nat.le_of_ble_eq_true rfl⟩ ?_
  show vm_J _ _ _ (6, (0, 0), [.ref 152, .int x, .int y, .int k, .retAddr 0], [.int 0]) (G, I, F) _ _
  refine vm_J.go vm_q264 (k := 1) (hs := []) (f' := (bif vm_ic .ne 0 0 then 11 else 9, (0, 0), [.ref 152, .int x, .int y, .int k, .retAddr 0], [])) (h' := (G, I, F)) (hs' := []) rfl rfl ?_
  refine vm_J.bF (by decide) ?_
  refine vm_J.go vm_q264 (k := 1) (hs := []) (f' := (10, (0, 0), [.ref 152, .int x, .int y, .int k, .retAddr 0], [.int (-1)])) (h' := (G, I, F)) (hs' := []) rfl rfl ?_
  exact vm_J.end vm_q264 (en := (10, .ireturn, 1, [], .null)) rfl rfl vm_rI (Nat.zero_le _) (Nat.zero_le _) rfl
set_option maxHeartbeats 4000000 in
set_option maxRecDepth 20000 in
/-- DitherDeskModel.sheet -/
theorem r_sheet_n {l : Launch} {X : vm_Cx} {G : List vm_Sh} {I : Nat → Nat → Int32} {F : Nat → Nat → UInt32} {w : Nat} {x : Int32} {y : Int32} {k : Int32} (hR : vm_isR G) (hw : I 173 0 = nI w) (hw2 : w = 0) (hk : 0 ≤ k ∧ k ≤ 2) : vm_K l X vm_M264 [.ref 152, .int x, .int y, .int k] (G, I, F) (some (.int (-3))) (G, (vm_up I 152 40 0), F) := by
  refine vm_K.mk (by decide) (Nat.le_of_ble_eq_true rfl) ?_
  show vm_J _ _ _ (0, (0, 0), [.ref 152, .int x, .int y, .int k, .retAddr 0], []) _ _ _
  refine vm_J.go vm_q264 (k := 3) (hs := []) (f' := (3, (0, 0), [.ref 152, .int x, .int y, .int k, .retAddr 0], [.int 2, .int 0, .int k])) (h' := (G, I, F)) (hs' := []) rfl rfl ?_
  refine vm_J.call vm_q264 (Z := vm_M168) (n := 3) (k := 1) (mi := 168) (pc := 3) (en := (3, .invokestatic 141, 3, [168, 1302, 0], .null)) rfl trivial rfl rfl vm_z168 (av := [.int k, .int 0, .int 2]) (rest := []) (r_isIn_y (v := k) (a := 0) (b := 2) hk) rfl (Nat.le_of_ble_eq_true rfl) ⟨Nat.le_of_ble_eq_true rfl, Nat.le_of_ble_eq_true rfl⟩ ⟨Nat.le_of_ble_eq_true rfl, Nat.le_of_ble_eq_true rfl⟩ ?_
  show vm_J _ _ _ (6, (0, 0), [.ref 152, .int x, .int y, .int k, .retAddr 0], [.int 1]) (G, I, F) _ _
  refine vm_J.go vm_q264 (k := 1) (hs := []) (f' := (bif vm_ic .ne 1 0 then 11 else 9, (0, 0), [.ref 152, .int x, .int y, .int k, .retAddr 0], [])) (h' := (G, I, F)) (hs' := []) rfl rfl ?_
  refine vm_J.bT (by decide) ?_
  refine vm_J.go vm_q264 (k := 1) (hs := []) (f' := (12, (0, 0), [.ref 152, .int x, .int y, .int k, .retAddr 0], [.ref 152])) (h' := (G, I, F)) (hs' := []) rfl rfl ?_
  refine vm_J.call vm_q264 (Z := vm_M262) (n := 0) (k := 0) (mi := 262) (pc := 12) (en := (12, .invokevirtual 424, 3, [262, 1660, 0], .null)) rfl trivial rfl rfl vm_z262 (av := [.ref 152]) (rest := []) (r_isMade_n hR hw hw2) ⟨_, _, rfl, rfl, _, 11, _, hR.c152, rfl, rfl, rfl⟩ (Nat.le_of_ble_eq_true rfl) ⟨Nat.le_of_ble_eq_true rfl, Nat.le_of_ble_eq_true rfl⟩ ⟨Nat.le_of_ble_eq_true rfl, Nat.le_of_ble_eq_true rfl⟩ ?_
  show vm_J _ _ _ (15, (0, 0), [.ref 152, .int x, .int y, .int k, .retAddr 0], [.int 0]) (G, (vm_up I 152 40 0), F) _ _
  refine vm_J.go vm_q264 (k := 1) (hs := []) (f' := (bif vm_ic .ne 0 0 then 21 else 18, (0, 0), [.ref 152, .int x, .int y, .int k, .retAddr 0], [])) (h' := (G, (vm_up I 152 40 0), F)) (hs' := []) rfl rfl ?_
  refine vm_J.bF (by decide) ?_
  refine vm_J.go vm_q264 (k := 1) (hs := []) (f' := (20, (0, 0), [.ref 152, .int x, .int y, .int k, .retAddr 0], [.int (-3)])) (h' := (G, (vm_up I 152 40 0), F)) (hs' := []) rfl rfl ?_
  exact vm_J.end vm_q264 (en := (20, .ireturn, 1, [], .null)) rfl rfl vm_rI (Nat.zero_le _) (Nat.zero_le _) rfl
set_option maxHeartbeats 4000000 in
set_option maxRecDepth 20000 in
/-- DitherDeskModel.sheet -/
theorem r_sheet_c {l : Launch} {X : vm_Cx} {G : List vm_Sh} {I : Nat → Nat → Int32} {F : Nat → Nat → UInt32} {w : Nat} {h : Nat} {x : Int32} {y : Int32} {k : Int32} (hR : vm_isR G) (hw : I 173 0 = nI w) (hh : I 174 0 = nI h) (hw2 : w ≤ 12) (hh2 : h ≤ 12) (hw0 : 0 < w) (hh0 : 0 < h) (hk : 0 ≤ k ∧ k ≤ 2) (ho : ¬ ((0 ≤ x ∧ x ≤ nI (w - 1)) ∧ 0 ≤ y ∧ y ≤ nI (h - 1))) : vm_K l X vm_M264 [.ref 152, .int x, .int y, .int k] (G, I, F) (some (.int (-2))) (G, (vm_up I 152 40 0), F) := by
  refine vm_K.mk (by decide) (Nat.le_of_ble_eq_true rfl) ?_
  show vm_J _ _ _ (0, (0, 0), [.ref 152, .int x, .int y, .int k, .retAddr 0], []) _ _ _
  refine vm_J.go vm_q264 (k := 3) (hs := []) (f' := (3, (0, 0), [.ref 152, .int x, .int y, .int k, .retAddr 0], [.int 2, .int 0, .int k])) (h' := (G, I, F)) (hs' := []) rfl rfl ?_
  refine vm_J.call vm_q264 (Z := vm_M168) (n := 3) (k := 1) (mi := 168) (pc := 3) (en := (3, .invokestatic 141, 3, [168, 1302, 0], .null)) rfl trivial rfl rfl vm_z168 (av := [.int k, .int 0, .int 2]) (rest := []) (r_isIn_y (v := k) (a := 0) (b := 2) hk) rfl (Nat.le_of_ble_eq_true rfl) ⟨Nat.le_of_ble_eq_true rfl, Nat.le_of_ble_eq_true rfl⟩ ⟨Nat.le_of_ble_eq_true rfl, Nat.le_of_ble_eq_true rfl⟩ ?_
  show vm_J _ _ _ (6, (0, 0), [.ref 152, .int x, .int y, .int k, .retAddr 0], [.int 1]) (G, I, F) _ _
  refine vm_J.go vm_q264 (k := 1) (hs := []) (f' := (bif vm_ic .ne 1 0 then 11 else 9, (0, 0), [.ref 152, .int x, .int y, .int k, .retAddr 0], [])) (h' := (G, I, F)) (hs' := []) rfl rfl ?_
  refine vm_J.bT (by decide) ?_
  refine vm_J.go vm_q264 (k := 1) (hs := []) (f' := (12, (0, 0), [.ref 152, .int x, .int y, .int k, .retAddr 0], [.ref 152])) (h' := (G, I, F)) (hs' := []) rfl rfl ?_
  refine vm_J.call vm_q264 (Z := vm_M262) (n := 0) (k := 0) (mi := 262) (pc := 12) (en := (12, .invokevirtual 424, 3, [262, 1660, 0], .null)) rfl trivial rfl rfl vm_z262 (av := [.ref 152]) (rest := []) (r_isMade_y hR hw hw2 hw0) ⟨_, _, rfl, rfl, _, 11, _, hR.c152, rfl, rfl, rfl⟩ (Nat.le_of_ble_eq_true rfl) ⟨Nat.le_of_ble_eq_true rfl, Nat.le_of_ble_eq_true rfl⟩ ⟨Nat.le_of_ble_eq_true rfl, Nat.le_of_ble_eq_true rfl⟩ ?_
  show vm_J _ _ _ (15, (0, 0), [.ref 152, .int x, .int y, .int k, .retAddr 0], [.int 1]) (G, (vm_up I 152 40 0), F) _ _
  refine vm_J.go vm_q264 (k := 1) (hs := []) (f' := (bif vm_ic .ne 1 0 then 21 else 18, (0, 0), [.ref 152, .int x, .int y, .int k, .retAddr 0], [])) (h' := (G, (vm_up I 152 40 0), F)) (hs' := []) rfl rfl ?_
  refine vm_J.bT (by decide) ?_
  refine vm_J.go vm_q264 (k := 6) (hs := [vm_shR, (0, 2, [])]) (f' := (29, (0, 0), [.ref 152, .int x, .int y, .int k, .retAddr 0], [.int ((vm_up I 152 40 0) 173 0), .int 0, .int x])) (h' := (G, (vm_up I 152 40 0), F)) (hs' := []) rfl (vm_b2 rfl (vm_b2 rfl (vm_b2 rfl (vm_b2 (vm_b2 (vm_hG hR.c152) rfl) (vm_b2 rfl (vm_b2 (vm_b2 (vm_hG hR.c173) rfl) rfl)))))) ?_
  rw [((Eq.trans (congrFun (vm_up_f _ 152 _ _ 173 (by decide)) 0) hw) : (vm_up I 152 40 0) 173 0 = nI w)]
  refine vm_J.go vm_q264 (k := 2) (hs := []) (f' := (31, (0, 0), [.ref 152, .int x, .int y, .int k, .retAddr 0], [.int ((nI w) - 1), .int 0, .int x])) (h' := (G, (vm_up I 152 40 0), F)) (hs' := []) rfl rfl ?_
  rw [((vm_ps (rfl : (nI w : Int32) = nI w) (rfl : (1 : Int32) = nI 1) (by omega)) : (nI w) - 1 = nI (w - 1))]
  refine vm_J.call vm_q264 (Z := vm_M168) (n := 3) (k := 1) (mi := 168) (pc := 31) (en := (31, .invokestatic 141, 3, [168, 1302, 0], .null)) rfl trivial rfl rfl vm_z168 (av := [.int x, .int 0, .int (nI (w - 1))]) (rest := []) (r_isIn (v := x) (a := 0) (b := nI (w - 1))) rfl (Nat.le_of_ble_eq_true rfl) ⟨Nat.le_of_ble_eq_true rfl, Nat.le_of_ble_eq_true rfl⟩ ⟨Nat.le_of_ble_eq_true rfl, Nat.le_of_ble_eq_true rfl⟩ ?_
  show vm_J _ _ _ (34, (0, 0), [.ref 152, .int x, .int y, .int k, .retAddr 0], [.int (vm_bi (0 ≤ x ∧ x ≤ (nI (w - 1))))]) (G, (vm_up I 152 40 0), F) _ _
  refine vm_J.go vm_q264 (k := 1) (hs := []) (f' := (bif vm_ic .eq (vm_bi (0 ≤ x ∧ x ≤ (nI (w - 1)))) 0 then 53 else 37, (0, 0), [.ref 152, .int x, .int y, .int k, .retAddr 0], [])) (h' := (G, (vm_up I 152 40 0), F)) (hs' := []) rfl rfl ?_
  refine vm_J.br (fun c1 => ?_) (fun c1 => ?_)
  · have c1 := vm_bi_eq_t c1
    refine vm_J.go vm_q264 (k := 1) (hs := []) (f' := (55, (0, 0), [.ref 152, .int x, .int y, .int k, .retAddr 0], [.int (-2)])) (h' := (G, (vm_up I 152 40 0), F)) (hs' := []) rfl rfl ?_
    exact vm_J.end vm_q264 (en := (55, .ireturn, 1, [], .null)) rfl rfl vm_rI (Nat.zero_le _) (Nat.zero_le _) rfl
  · have c1 := vm_bi_eq_f c1
    refine vm_J.go vm_q264 (k := 6) (hs := [vm_shR, (0, 2, [])]) (f' := (45, (0, 0), [.ref 152, .int x, .int y, .int k, .retAddr 0], [.int ((vm_up I 152 40 0) 174 0), .int 0, .int y])) (h' := (G, (vm_up I 152 40 0), F)) (hs' := []) rfl (vm_b2 rfl (vm_b2 rfl (vm_b2 rfl (vm_b2 (vm_b2 (vm_hG hR.c152) rfl) (vm_b2 rfl (vm_b2 (vm_b2 (vm_hG hR.c174) rfl) rfl)))))) ?_
    rw [((Eq.trans (congrFun (vm_up_f _ 152 _ _ 174 (by decide)) 0) hh) : (vm_up I 152 40 0) 174 0 = nI h)]
    refine vm_J.go vm_q264 (k := 2) (hs := []) (f' := (47, (0, 0), [.ref 152, .int x, .int y, .int k, .retAddr 0], [.int ((nI h) - 1), .int 0, .int y])) (h' := (G, (vm_up I 152 40 0), F)) (hs' := []) rfl rfl ?_
    rw [((vm_ps (rfl : (nI h : Int32) = nI h) (rfl : (1 : Int32) = nI 1) (by omega)) : (nI h) - 1 = nI (h - 1))]
    refine vm_J.call vm_q264 (Z := vm_M168) (n := 3) (k := 1) (mi := 168) (pc := 47) (en := (47, .invokestatic 141, 3, [168, 1302, 0], .null)) rfl trivial rfl rfl vm_z168 (av := [.int y, .int 0, .int (nI (h - 1))]) (rest := []) (r_isIn (v := y) (a := 0) (b := nI (h - 1))) rfl (Nat.le_of_ble_eq_true rfl) ⟨Nat.le_of_ble_eq_true rfl, Nat.le_of_ble_eq_true rfl⟩ ⟨Nat.le_of_ble_eq_true rfl, Nat.le_of_ble_eq_true rfl⟩ ?_
    show vm_J _ _ _ (50, (0, 0), [.ref 152, .int x, .int y, .int k, .retAddr 0], [.int (vm_bi (0 ≤ y ∧ y ≤ (nI (h - 1))))]) (G, (vm_up I 152 40 0), F) _ _
    refine vm_J.go vm_q264 (k := 1) (hs := []) (f' := (bif vm_ic .ne (vm_bi (0 ≤ y ∧ y ≤ (nI (h - 1)))) 0 then 56 else 53, (0, 0), [.ref 152, .int x, .int y, .int k, .retAddr 0], [])) (h' := (G, (vm_up I 152 40 0), F)) (hs' := []) rfl rfl ?_
    refine vm_J.br (fun c2 => ?_) (fun c2 => ?_)
    · have c2 := vm_bi_ne_t c2
      exact absurd ⟨c1, c2⟩ ho
    · have c2 := vm_bi_ne_f c2
      refine vm_J.go vm_q264 (k := 1) (hs := []) (f' := (55, (0, 0), [.ref 152, .int x, .int y, .int k, .retAddr 0], [.int (-2)])) (h' := (G, (vm_up I 152 40 0), F)) (hs' := []) rfl rfl ?_
      exact vm_J.end vm_q264 (en := (55, .ireturn, 1, [], .null)) rfl rfl vm_rI (Nat.zero_le _) (Nat.zero_le _) rfl
set_option maxHeartbeats 4000000 in
set_option maxRecDepth 20000 in
/-- DitherDeskModel.sheet -/
theorem r_sheet_0 {l : Launch} {X : vm_Cx} {G : List vm_Sh} {I : Nat → Nat → Int32} {F : Nat → Nat → UInt32} {w : Nat} {h : Nat} {i : Nat} {j : Nat} (hR : vm_isR G) (hw : I 173 0 = nI w) (hh : I 174 0 = nI h) (hw2 : w ≤ 12) (hh2 : h ≤ 12) (hw0 : 0 < w) (hi : i < w) (hj : j < h) : vm_K l X vm_M264 [.ref 152, .int (nI i), .int (nI j), .int 0] (G, I, F) (some (.int (I 177 (w * j + i)))) (G, (vm_up I 152 40 0), F) := by
  refine vm_K.mk (by decide) (Nat.le_of_ble_eq_true rfl) ?_
  have hwh := vm_mul144 hw2 hh2
  have hlin := vm_lin2 hi hj
  show vm_J _ _ _ (0, (0, 0), [.ref 152, .int (nI i), .int (nI j), .int 0, .retAddr 0], []) _ _ _
  refine vm_J.go vm_q264 (k := 3) (hs := []) (f' := (3, (0, 0), [.ref 152, .int (nI i), .int (nI j), .int 0, .retAddr 0], [.int 2, .int 0, .int 0])) (h' := (G, I, F)) (hs' := []) rfl rfl ?_
  refine vm_J.call vm_q264 (Z := vm_M168) (n := 3) (k := 1) (mi := 168) (pc := 3) (en := (3, .invokestatic 141, 3, [168, 1302, 0], .null)) rfl trivial rfl rfl vm_z168 (av := [.int 0, .int 0, .int 2]) (rest := []) (r_isIn_y (v := 0) (a := 0) (b := 2) (by decide)) rfl (Nat.le_of_ble_eq_true rfl) ⟨Nat.le_of_ble_eq_true rfl, Nat.le_of_ble_eq_true rfl⟩ ⟨Nat.le_of_ble_eq_true rfl, Nat.le_of_ble_eq_true rfl⟩ ?_
  show vm_J _ _ _ (6, (0, 0), [.ref 152, .int (nI i), .int (nI j), .int 0, .retAddr 0], [.int 1]) (G, I, F) _ _
  refine vm_J.go vm_q264 (k := 1) (hs := []) (f' := (bif vm_ic .ne 1 0 then 11 else 9, (0, 0), [.ref 152, .int (nI i), .int (nI j), .int 0, .retAddr 0], [])) (h' := (G, I, F)) (hs' := []) rfl rfl ?_
  refine vm_J.bT (by decide) ?_
  refine vm_J.go vm_q264 (k := 1) (hs := []) (f' := (12, (0, 0), [.ref 152, .int (nI i), .int (nI j), .int 0, .retAddr 0], [.ref 152])) (h' := (G, I, F)) (hs' := []) rfl rfl ?_
  refine vm_J.call vm_q264 (Z := vm_M262) (n := 0) (k := 0) (mi := 262) (pc := 12) (en := (12, .invokevirtual 424, 3, [262, 1660, 0], .null)) rfl trivial rfl rfl vm_z262 (av := [.ref 152]) (rest := []) (r_isMade_y hR hw hw2 hw0) ⟨_, _, rfl, rfl, _, 11, _, hR.c152, rfl, rfl, rfl⟩ (Nat.le_of_ble_eq_true rfl) ⟨Nat.le_of_ble_eq_true rfl, Nat.le_of_ble_eq_true rfl⟩ ⟨Nat.le_of_ble_eq_true rfl, Nat.le_of_ble_eq_true rfl⟩ ?_
  show vm_J _ _ _ (15, (0, 0), [.ref 152, .int (nI i), .int (nI j), .int 0, .retAddr 0], [.int 1]) (G, (vm_up I 152 40 0), F) _ _
  refine vm_J.go vm_q264 (k := 1) (hs := []) (f' := (bif vm_ic .ne 1 0 then 21 else 18, (0, 0), [.ref 152, .int (nI i), .int (nI j), .int 0, .retAddr 0], [])) (h' := (G, (vm_up I 152 40 0), F)) (hs' := []) rfl rfl ?_
  refine vm_J.bT (by decide) ?_
  refine vm_J.go vm_q264 (k := 6) (hs := [vm_shR, (0, 2, [])]) (f' := (29, (0, 0), [.ref 152, .int (nI i), .int (nI j), .int 0, .retAddr 0], [.int ((vm_up I 152 40 0) 173 0), .int 0, .int (nI i)])) (h' := (G, (vm_up I 152 40 0), F)) (hs' := []) rfl (vm_b2 rfl (vm_b2 rfl (vm_b2 rfl (vm_b2 (vm_b2 (vm_hG hR.c152) rfl) (vm_b2 rfl (vm_b2 (vm_b2 (vm_hG hR.c173) rfl) rfl)))))) ?_
  rw [((Eq.trans (congrFun (vm_up_f _ 152 _ _ 173 (by decide)) 0) hw) : (vm_up I 152 40 0) 173 0 = nI w)]
  refine vm_J.go vm_q264 (k := 2) (hs := []) (f' := (31, (0, 0), [.ref 152, .int (nI i), .int (nI j), .int 0, .retAddr 0], [.int ((nI w) - 1), .int 0, .int (nI i)])) (h' := (G, (vm_up I 152 40 0), F)) (hs' := []) rfl rfl ?_
  rw [((vm_ps (rfl : (nI w : Int32) = nI w) (rfl : (1 : Int32) = nI 1) (by omega)) : (nI w) - 1 = nI (w - 1))]
  refine vm_J.call vm_q264 (Z := vm_M168) (n := 3) (k := 1) (mi := 168) (pc := 31) (en := (31, .invokestatic 141, 3, [168, 1302, 0], .null)) rfl trivial rfl rfl vm_z168 (av := [.int (nI i), .int 0, .int (nI (w - 1))]) (rest := []) (r_isIn_y (v := nI i) (a := 0) (b := nI (w - 1)) (vm_bpn (by omega) rfl (by omega))) rfl (Nat.le_of_ble_eq_true rfl) ⟨Nat.le_of_ble_eq_true rfl, Nat.le_of_ble_eq_true rfl⟩ ⟨Nat.le_of_ble_eq_true rfl, Nat.le_of_ble_eq_true rfl⟩ ?_
  show vm_J _ _ _ (34, (0, 0), [.ref 152, .int (nI i), .int (nI j), .int 0, .retAddr 0], [.int 1]) (G, (vm_up I 152 40 0), F) _ _
  refine vm_J.go vm_q264 (k := 1) (hs := []) (f' := (bif vm_ic .eq 1 0 then 53 else 37, (0, 0), [.ref 152, .int (nI i), .int (nI j), .int 0, .retAddr 0], [])) (h' := (G, (vm_up I 152 40 0), F)) (hs' := []) rfl rfl ?_
  refine vm_J.bF (by decide) ?_
  refine vm_J.go vm_q264 (k := 6) (hs := [vm_shR, (0, 2, [])]) (f' := (45, (0, 0), [.ref 152, .int (nI i), .int (nI j), .int 0, .retAddr 0], [.int ((vm_up I 152 40 0) 174 0), .int 0, .int (nI j)])) (h' := (G, (vm_up I 152 40 0), F)) (hs' := []) rfl (vm_b2 rfl (vm_b2 rfl (vm_b2 rfl (vm_b2 (vm_b2 (vm_hG hR.c152) rfl) (vm_b2 rfl (vm_b2 (vm_b2 (vm_hG hR.c174) rfl) rfl)))))) ?_
  rw [((Eq.trans (congrFun (vm_up_f _ 152 _ _ 174 (by decide)) 0) hh) : (vm_up I 152 40 0) 174 0 = nI h)]
  refine vm_J.go vm_q264 (k := 2) (hs := []) (f' := (47, (0, 0), [.ref 152, .int (nI i), .int (nI j), .int 0, .retAddr 0], [.int ((nI h) - 1), .int 0, .int (nI j)])) (h' := (G, (vm_up I 152 40 0), F)) (hs' := []) rfl rfl ?_
  rw [((vm_ps (rfl : (nI h : Int32) = nI h) (rfl : (1 : Int32) = nI 1) (by omega)) : (nI h) - 1 = nI (h - 1))]
  refine vm_J.call vm_q264 (Z := vm_M168) (n := 3) (k := 1) (mi := 168) (pc := 47) (en := (47, .invokestatic 141, 3, [168, 1302, 0], .null)) rfl trivial rfl rfl vm_z168 (av := [.int (nI j), .int 0, .int (nI (h - 1))]) (rest := []) (r_isIn_y (v := nI j) (a := 0) (b := nI (h - 1)) (vm_bpn (by omega) rfl (by omega))) rfl (Nat.le_of_ble_eq_true rfl) ⟨Nat.le_of_ble_eq_true rfl, Nat.le_of_ble_eq_true rfl⟩ ⟨Nat.le_of_ble_eq_true rfl, Nat.le_of_ble_eq_true rfl⟩ ?_
  show vm_J _ _ _ (50, (0, 0), [.ref 152, .int (nI i), .int (nI j), .int 0, .retAddr 0], [.int 1]) (G, (vm_up I 152 40 0), F) _ _
  refine vm_J.go vm_q264 (k := 1) (hs := []) (f' := (bif vm_ic .ne 1 0 then 56 else 53, (0, 0), [.ref 152, .int (nI i), .int (nI j), .int 0, .retAddr 0], [])) (h' := (G, (vm_up I 152 40 0), F)) (hs' := []) rfl rfl ?_
  refine vm_J.bT (by decide) ?_
  refine vm_J.go vm_q264 (k := 4) (hs := [vm_shR, (0, 2, [])]) (f' := (62, (0, 0), [.ref 152, .int (nI i), .int (nI j), .int 0, .retAddr 0], [.int ((vm_up I 152 40 0) 173 0)])) (h' := (G, (vm_up I 152 40 0), F)) (hs' := []) rfl (vm_b2 rfl (vm_b2 (vm_b2 (vm_hG hR.c152) rfl) (vm_b2 rfl (vm_b2 (vm_b2 (vm_hG hR.c173) rfl) rfl)))) ?_
  rw [((Eq.trans (congrFun (vm_up_f _ 152 _ _ 173 (by decide)) 0) hw) : (vm_up I 152 40 0) 173 0 = nI w)]
  refine vm_J.go vm_q264 (k := 7) (hs := []) (f' := (bif vm_ic .ne 0 0 then 82 else 72, (0, 0), [.ref 152, .int (nI i), .int (nI j), .int 0, .int (((nI w) * (nI j)) + (nI i))], [])) (h' := (G, (vm_up I 152 40 0), F)) (hs' := []) rfl rfl ?_
  rw [((vm_pa (vm_pm (rfl : (nI w : Int32) = nI w) (rfl : (nI j : Int32) = nI j)) (rfl : (nI i : Int32) = nI i)) : ((nI w) * (nI j)) + (nI i) = nI ((w * j) + i))]
  refine vm_J.bF (by decide) ?_
  refine vm_J.go vm_q264 (k := 4) (hs := [vm_shR, (0, 288, [])]) (f' := (79, (0, 0), [.ref 152, .int (nI i), .int (nI j), .int 0, .int (nI ((w * j) + i))], [.int ((vm_up I 152 40 0) 177 (nI ((w * j) + i)).toNatClampNeg)])) (h' := (G, (vm_up I 152 40 0), F)) (hs' := []) rfl (vm_b2 rfl (vm_b2 (vm_b2 (vm_hG hR.c152) rfl) (vm_b2 rfl (vm_b2 (vm_b2 (vm_hG hR.c177) (vm_in_e (j := (w * j) + i) (n := 288) rfl (by omega) (by omega))) rfl)))) ?_
  rw [vm_ix_e (j := (w * j) + i) rfl (by omega)]
  rw [((congrFun (vm_up_f _ 152 _ _ 177 (by decide)) ((w * j) + i)) : (vm_up I 152 40 0) 177 ((w * j) + i) = I 177 ((w * j) + i))]
  refine vm_J.go vm_q264 (k := 1) (hs := []) (f' := (104, (0, 0), [.ref 152, .int (nI i), .int (nI j), .int 0, .int (nI ((w * j) + i))], [.int (I 177 ((w * j) + i))])) (h' := (G, (vm_up I 152 40 0), F)) (hs' := []) rfl rfl ?_
  exact vm_J.end vm_q264 (en := (104, .ireturn, 1, [], .null)) rfl rfl vm_rI (Nat.zero_le _) (Nat.zero_le _) rfl
set_option maxHeartbeats 4000000 in
set_option maxRecDepth 20000 in
/-- DitherDeskModel.sheet -/
theorem r_sheet_1 {l : Launch} {X : vm_Cx} {G : List vm_Sh} {I : Nat → Nat → Int32} {F : Nat → Nat → UInt32} {w : Nat} {h : Nat} {i : Nat} {j : Nat} (hR : vm_isR G) (hw : I 173 0 = nI w) (hh : I 174 0 = nI h) (hw2 : w ≤ 12) (hh2 : h ≤ 12) (hw0 : 0 < w) (hi : i < w) (hj : j < h) : vm_K l X vm_M264 [.ref 152, .int (nI i), .int (nI j), .int 1] (G, I, F) (some (.int (I 178 (w * j + i)))) (G, (vm_up I 152 40 0), F) := by
  refine vm_K.mk (by decide) (Nat.le_of_ble_eq_true rfl) ?_
  have hwh := vm_mul144 hw2 hh2
  have hlin := vm_lin2 hi hj
  show vm_J _ _ _ (0, (0, 0), [.ref 152, .int (nI i), .int (nI j), .int 1, .retAddr 0], []) _ _ _
  refine vm_J.go vm_q264 (k := 3) (hs := []) (f' := (3, (0, 0), [.ref 152, .int (nI i), .int (nI j), .int 1, .retAddr 0], [.int 2, .int 0, .int 1])) (h' := (G, I, F)) (hs' := []) rfl rfl ?_
  refine vm_J.call vm_q264 (Z := vm_M168) (n := 3) (k := 1) (mi := 168) (pc := 3) (en := (3, .invokestatic 141, 3, [168, 1302, 0], .null)) rfl trivial rfl rfl vm_z168 (av := [.int 1, .int 0, .int 2]) (rest := []) (r_isIn_y (v := 1) (a := 0) (b := 2) (by decide)) rfl (Nat.le_of_ble_eq_true rfl) ⟨Nat.le_of_ble_eq_true rfl, Nat.le_of_ble_eq_true rfl⟩ ⟨Nat.le_of_ble_eq_true rfl, Nat.le_of_ble_eq_true rfl⟩ ?_
  show vm_J _ _ _ (6, (0, 0), [.ref 152, .int (nI i), .int (nI j), .int 1, .retAddr 0], [.int 1]) (G, I, F) _ _
  refine vm_J.go vm_q264 (k := 1) (hs := []) (f' := (bif vm_ic .ne 1 0 then 11 else 9, (0, 0), [.ref 152, .int (nI i), .int (nI j), .int 1, .retAddr 0], [])) (h' := (G, I, F)) (hs' := []) rfl rfl ?_
  refine vm_J.bT (by decide) ?_
  refine vm_J.go vm_q264 (k := 1) (hs := []) (f' := (12, (0, 0), [.ref 152, .int (nI i), .int (nI j), .int 1, .retAddr 0], [.ref 152])) (h' := (G, I, F)) (hs' := []) rfl rfl ?_
  refine vm_J.call vm_q264 (Z := vm_M262) (n := 0) (k := 0) (mi := 262) (pc := 12) (en := (12, .invokevirtual 424, 3, [262, 1660, 0], .null)) rfl trivial rfl rfl vm_z262 (av := [.ref 152]) (rest := []) (r_isMade_y hR hw hw2 hw0) ⟨_, _, rfl, rfl, _, 11, _, hR.c152, rfl, rfl, rfl⟩ (Nat.le_of_ble_eq_true rfl) ⟨Nat.le_of_ble_eq_true rfl, Nat.le_of_ble_eq_true rfl⟩ ⟨Nat.le_of_ble_eq_true rfl, Nat.le_of_ble_eq_true rfl⟩ ?_
  show vm_J _ _ _ (15, (0, 0), [.ref 152, .int (nI i), .int (nI j), .int 1, .retAddr 0], [.int 1]) (G, (vm_up I 152 40 0), F) _ _
  refine vm_J.go vm_q264 (k := 1) (hs := []) (f' := (bif vm_ic .ne 1 0 then 21 else 18, (0, 0), [.ref 152, .int (nI i), .int (nI j), .int 1, .retAddr 0], [])) (h' := (G, (vm_up I 152 40 0), F)) (hs' := []) rfl rfl ?_
  refine vm_J.bT (by decide) ?_
  refine vm_J.go vm_q264 (k := 6) (hs := [vm_shR, (0, 2, [])]) (f' := (29, (0, 0), [.ref 152, .int (nI i), .int (nI j), .int 1, .retAddr 0], [.int ((vm_up I 152 40 0) 173 0), .int 0, .int (nI i)])) (h' := (G, (vm_up I 152 40 0), F)) (hs' := []) rfl (vm_b2 rfl (vm_b2 rfl (vm_b2 rfl (vm_b2 (vm_b2 (vm_hG hR.c152) rfl) (vm_b2 rfl (vm_b2 (vm_b2 (vm_hG hR.c173) rfl) rfl)))))) ?_
  rw [((Eq.trans (congrFun (vm_up_f _ 152 _ _ 173 (by decide)) 0) hw) : (vm_up I 152 40 0) 173 0 = nI w)]
  refine vm_J.go vm_q264 (k := 2) (hs := []) (f' := (31, (0, 0), [.ref 152, .int (nI i), .int (nI j), .int 1, .retAddr 0], [.int ((nI w) - 1), .int 0, .int (nI i)])) (h' := (G, (vm_up I 152 40 0), F)) (hs' := []) rfl rfl ?_
  rw [((vm_ps (rfl : (nI w : Int32) = nI w) (rfl : (1 : Int32) = nI 1) (by omega)) : (nI w) - 1 = nI (w - 1))]
  refine vm_J.call vm_q264 (Z := vm_M168) (n := 3) (k := 1) (mi := 168) (pc := 31) (en := (31, .invokestatic 141, 3, [168, 1302, 0], .null)) rfl trivial rfl rfl vm_z168 (av := [.int (nI i), .int 0, .int (nI (w - 1))]) (rest := []) (r_isIn_y (v := nI i) (a := 0) (b := nI (w - 1)) (vm_bpn (by omega) rfl (by omega))) rfl (Nat.le_of_ble_eq_true rfl) ⟨Nat.le_of_ble_eq_true rfl, Nat.le_of_ble_eq_true rfl⟩ ⟨Nat.le_of_ble_eq_true rfl, Nat.le_of_ble_eq_true rfl⟩ ?_
  show vm_J _ _ _ (34, (0, 0), [.ref 152, .int (nI i), .int (nI j), .int 1, .retAddr 0], [.int 1]) (G, (vm_up I 152 40 0), F) _ _
  refine vm_J.go vm_q264 (k := 1) (hs := []) (f' := (bif vm_ic .eq 1 0 then 53 else 37, (0, 0), [.ref 152, .int (nI i), .int (nI j), .int 1, .retAddr 0], [])) (h' := (G, (vm_up I 152 40 0), F)) (hs' := []) rfl rfl ?_
  refine vm_J.bF (by decide) ?_
  refine vm_J.go vm_q264 (k := 6) (hs := [vm_shR, (0, 2, [])]) (f' := (45, (0, 0), [.ref 152, .int (nI i), .int (nI j), .int 1, .retAddr 0], [.int ((vm_up I 152 40 0) 174 0), .int 0, .int (nI j)])) (h' := (G, (vm_up I 152 40 0), F)) (hs' := []) rfl (vm_b2 rfl (vm_b2 rfl (vm_b2 rfl (vm_b2 (vm_b2 (vm_hG hR.c152) rfl) (vm_b2 rfl (vm_b2 (vm_b2 (vm_hG hR.c174) rfl) rfl)))))) ?_
  rw [((Eq.trans (congrFun (vm_up_f _ 152 _ _ 174 (by decide)) 0) hh) : (vm_up I 152 40 0) 174 0 = nI h)]
  refine vm_J.go vm_q264 (k := 2) (hs := []) (f' := (47, (0, 0), [.ref 152, .int (nI i), .int (nI j), .int 1, .retAddr 0], [.int ((nI h) - 1), .int 0, .int (nI j)])) (h' := (G, (vm_up I 152 40 0), F)) (hs' := []) rfl rfl ?_
  rw [((vm_ps (rfl : (nI h : Int32) = nI h) (rfl : (1 : Int32) = nI 1) (by omega)) : (nI h) - 1 = nI (h - 1))]
  refine vm_J.call vm_q264 (Z := vm_M168) (n := 3) (k := 1) (mi := 168) (pc := 47) (en := (47, .invokestatic 141, 3, [168, 1302, 0], .null)) rfl trivial rfl rfl vm_z168 (av := [.int (nI j), .int 0, .int (nI (h - 1))]) (rest := []) (r_isIn_y (v := nI j) (a := 0) (b := nI (h - 1)) (vm_bpn (by omega) rfl (by omega))) rfl (Nat.le_of_ble_eq_true rfl) ⟨Nat.le_of_ble_eq_true rfl, Nat.le_of_ble_eq_true rfl⟩ ⟨Nat.le_of_ble_eq_true rfl, Nat.le_of_ble_eq_true rfl⟩ ?_
  show vm_J _ _ _ (50, (0, 0), [.ref 152, .int (nI i), .int (nI j), .int 1, .retAddr 0], [.int 1]) (G, (vm_up I 152 40 0), F) _ _
  refine vm_J.go vm_q264 (k := 1) (hs := []) (f' := (bif vm_ic .ne 1 0 then 56 else 53, (0, 0), [.ref 152, .int (nI i), .int (nI j), .int 1, .retAddr 0], [])) (h' := (G, (vm_up I 152 40 0), F)) (hs' := []) rfl rfl ?_
  refine vm_J.bT (by decide) ?_
  refine vm_J.go vm_q264 (k := 4) (hs := [vm_shR, (0, 2, [])]) (f' := (62, (0, 0), [.ref 152, .int (nI i), .int (nI j), .int 1, .retAddr 0], [.int ((vm_up I 152 40 0) 173 0)])) (h' := (G, (vm_up I 152 40 0), F)) (hs' := []) rfl (vm_b2 rfl (vm_b2 (vm_b2 (vm_hG hR.c152) rfl) (vm_b2 rfl (vm_b2 (vm_b2 (vm_hG hR.c173) rfl) rfl)))) ?_
  rw [((Eq.trans (congrFun (vm_up_f _ 152 _ _ 173 (by decide)) 0) hw) : (vm_up I 152 40 0) 173 0 = nI w)]
  refine vm_J.go vm_q264 (k := 7) (hs := []) (f' := (bif vm_ic .ne 1 0 then 82 else 72, (0, 0), [.ref 152, .int (nI i), .int (nI j), .int 1, .int (((nI w) * (nI j)) + (nI i))], [])) (h' := (G, (vm_up I 152 40 0), F)) (hs' := []) rfl rfl ?_
  rw [((vm_pa (vm_pm (rfl : (nI w : Int32) = nI w) (rfl : (nI j : Int32) = nI j)) (rfl : (nI i : Int32) = nI i)) : ((nI w) * (nI j)) + (nI i) = nI ((w * j) + i))]
  refine vm_J.bT (by decide) ?_
  refine vm_J.go vm_q264 (k := 3) (hs := []) (f' := (bif vm_ic .ne 1 1 then 97 else 87, (0, 0), [.ref 152, .int (nI i), .int (nI j), .int 1, .int (nI ((w * j) + i))], [])) (h' := (G, (vm_up I 152 40 0), F)) (hs' := []) rfl rfl ?_
  refine vm_J.bF (by decide) ?_
  refine vm_J.go vm_q264 (k := 4) (hs := [vm_shR, (0, 288, [])]) (f' := (94, (0, 0), [.ref 152, .int (nI i), .int (nI j), .int 1, .int (nI ((w * j) + i))], [.int ((vm_up I 152 40 0) 178 (nI ((w * j) + i)).toNatClampNeg)])) (h' := (G, (vm_up I 152 40 0), F)) (hs' := []) rfl (vm_b2 rfl (vm_b2 (vm_b2 (vm_hG hR.c152) rfl) (vm_b2 rfl (vm_b2 (vm_b2 (vm_hG hR.c178) (vm_in_e (j := (w * j) + i) (n := 288) rfl (by omega) (by omega))) rfl)))) ?_
  rw [vm_ix_e (j := (w * j) + i) rfl (by omega)]
  rw [((congrFun (vm_up_f _ 152 _ _ 178 (by decide)) ((w * j) + i)) : (vm_up I 152 40 0) 178 ((w * j) + i) = I 178 ((w * j) + i))]
  refine vm_J.go vm_q264 (k := 1) (hs := []) (f' := (104, (0, 0), [.ref 152, .int (nI i), .int (nI j), .int 1, .int (nI ((w * j) + i))], [.int (I 178 ((w * j) + i))])) (h' := (G, (vm_up I 152 40 0), F)) (hs' := []) rfl rfl ?_
  exact vm_J.end vm_q264 (en := (104, .ireturn, 1, [], .null)) rfl rfl vm_rI (Nat.zero_le _) (Nat.zero_le _) rfl
set_option maxHeartbeats 4000000 in
set_option maxRecDepth 20000 in
/-- DitherDeskModel.sheet -/
theorem r_sheet_2 {l : Launch} {X : vm_Cx} {G : List vm_Sh} {I : Nat → Nat → Int32} {F : Nat → Nat → UInt32} {w : Nat} {h : Nat} {i : Nat} {j : Nat} (hR : vm_isR G) (hw : I 173 0 = nI w) (hh : I 174 0 = nI h) (hw2 : w ≤ 12) (hh2 : h ≤ 12) (hw0 : 0 < w) (hi : i < w) (hj : j < h) : vm_K l X vm_M264 [.ref 152, .int (nI i), .int (nI j), .int 2] (G, I, F) (some (.int (I 176 (w * j + i)))) (G, (vm_up I 152 40 0), F) := by
  refine vm_K.mk (by decide) (Nat.le_of_ble_eq_true rfl) ?_
  have hwh := vm_mul144 hw2 hh2
  have hlin := vm_lin2 hi hj
  show vm_J _ _ _ (0, (0, 0), [.ref 152, .int (nI i), .int (nI j), .int 2, .retAddr 0], []) _ _ _
  refine vm_J.go vm_q264 (k := 3) (hs := []) (f' := (3, (0, 0), [.ref 152, .int (nI i), .int (nI j), .int 2, .retAddr 0], [.int 2, .int 0, .int 2])) (h' := (G, I, F)) (hs' := []) rfl rfl ?_
  refine vm_J.call vm_q264 (Z := vm_M168) (n := 3) (k := 1) (mi := 168) (pc := 3) (en := (3, .invokestatic 141, 3, [168, 1302, 0], .null)) rfl trivial rfl rfl vm_z168 (av := [.int 2, .int 0, .int 2]) (rest := []) (r_isIn_y (v := 2) (a := 0) (b := 2) (by decide)) rfl (Nat.le_of_ble_eq_true rfl) ⟨Nat.le_of_ble_eq_true rfl, Nat.le_of_ble_eq_true rfl⟩ ⟨Nat.le_of_ble_eq_true rfl, Nat.le_of_ble_eq_true rfl⟩ ?_
  show vm_J _ _ _ (6, (0, 0), [.ref 152, .int (nI i), .int (nI j), .int 2, .retAddr 0], [.int 1]) (G, I, F) _ _
  refine vm_J.go vm_q264 (k := 1) (hs := []) (f' := (bif vm_ic .ne 1 0 then 11 else 9, (0, 0), [.ref 152, .int (nI i), .int (nI j), .int 2, .retAddr 0], [])) (h' := (G, I, F)) (hs' := []) rfl rfl ?_
  refine vm_J.bT (by decide) ?_
  refine vm_J.go vm_q264 (k := 1) (hs := []) (f' := (12, (0, 0), [.ref 152, .int (nI i), .int (nI j), .int 2, .retAddr 0], [.ref 152])) (h' := (G, I, F)) (hs' := []) rfl rfl ?_
  refine vm_J.call vm_q264 (Z := vm_M262) (n := 0) (k := 0) (mi := 262) (pc := 12) (en := (12, .invokevirtual 424, 3, [262, 1660, 0], .null)) rfl trivial rfl rfl vm_z262 (av := [.ref 152]) (rest := []) (r_isMade_y hR hw hw2 hw0) ⟨_, _, rfl, rfl, _, 11, _, hR.c152, rfl, rfl, rfl⟩ (Nat.le_of_ble_eq_true rfl) ⟨Nat.le_of_ble_eq_true rfl, Nat.le_of_ble_eq_true rfl⟩ ⟨Nat.le_of_ble_eq_true rfl, Nat.le_of_ble_eq_true rfl⟩ ?_
  show vm_J _ _ _ (15, (0, 0), [.ref 152, .int (nI i), .int (nI j), .int 2, .retAddr 0], [.int 1]) (G, (vm_up I 152 40 0), F) _ _
  refine vm_J.go vm_q264 (k := 1) (hs := []) (f' := (bif vm_ic .ne 1 0 then 21 else 18, (0, 0), [.ref 152, .int (nI i), .int (nI j), .int 2, .retAddr 0], [])) (h' := (G, (vm_up I 152 40 0), F)) (hs' := []) rfl rfl ?_
  refine vm_J.bT (by decide) ?_
  refine vm_J.go vm_q264 (k := 6) (hs := [vm_shR, (0, 2, [])]) (f' := (29, (0, 0), [.ref 152, .int (nI i), .int (nI j), .int 2, .retAddr 0], [.int ((vm_up I 152 40 0) 173 0), .int 0, .int (nI i)])) (h' := (G, (vm_up I 152 40 0), F)) (hs' := []) rfl (vm_b2 rfl (vm_b2 rfl (vm_b2 rfl (vm_b2 (vm_b2 (vm_hG hR.c152) rfl) (vm_b2 rfl (vm_b2 (vm_b2 (vm_hG hR.c173) rfl) rfl)))))) ?_
  rw [((Eq.trans (congrFun (vm_up_f _ 152 _ _ 173 (by decide)) 0) hw) : (vm_up I 152 40 0) 173 0 = nI w)]
  refine vm_J.go vm_q264 (k := 2) (hs := []) (f' := (31, (0, 0), [.ref 152, .int (nI i), .int (nI j), .int 2, .retAddr 0], [.int ((nI w) - 1), .int 0, .int (nI i)])) (h' := (G, (vm_up I 152 40 0), F)) (hs' := []) rfl rfl ?_
  rw [((vm_ps (rfl : (nI w : Int32) = nI w) (rfl : (1 : Int32) = nI 1) (by omega)) : (nI w) - 1 = nI (w - 1))]
  refine vm_J.call vm_q264 (Z := vm_M168) (n := 3) (k := 1) (mi := 168) (pc := 31) (en := (31, .invokestatic 141, 3, [168, 1302, 0], .null)) rfl trivial rfl rfl vm_z168 (av := [.int (nI i), .int 0, .int (nI (w - 1))]) (rest := []) (r_isIn_y (v := nI i) (a := 0) (b := nI (w - 1)) (vm_bpn (by omega) rfl (by omega))) rfl (Nat.le_of_ble_eq_true rfl) ⟨Nat.le_of_ble_eq_true rfl, Nat.le_of_ble_eq_true rfl⟩ ⟨Nat.le_of_ble_eq_true rfl, Nat.le_of_ble_eq_true rfl⟩ ?_
  show vm_J _ _ _ (34, (0, 0), [.ref 152, .int (nI i), .int (nI j), .int 2, .retAddr 0], [.int 1]) (G, (vm_up I 152 40 0), F) _ _
  refine vm_J.go vm_q264 (k := 1) (hs := []) (f' := (bif vm_ic .eq 1 0 then 53 else 37, (0, 0), [.ref 152, .int (nI i), .int (nI j), .int 2, .retAddr 0], [])) (h' := (G, (vm_up I 152 40 0), F)) (hs' := []) rfl rfl ?_
  refine vm_J.bF (by decide) ?_
  refine vm_J.go vm_q264 (k := 6) (hs := [vm_shR, (0, 2, [])]) (f' := (45, (0, 0), [.ref 152, .int (nI i), .int (nI j), .int 2, .retAddr 0], [.int ((vm_up I 152 40 0) 174 0), .int 0, .int (nI j)])) (h' := (G, (vm_up I 152 40 0), F)) (hs' := []) rfl (vm_b2 rfl (vm_b2 rfl (vm_b2 rfl (vm_b2 (vm_b2 (vm_hG hR.c152) rfl) (vm_b2 rfl (vm_b2 (vm_b2 (vm_hG hR.c174) rfl) rfl)))))) ?_
  rw [((Eq.trans (congrFun (vm_up_f _ 152 _ _ 174 (by decide)) 0) hh) : (vm_up I 152 40 0) 174 0 = nI h)]
  refine vm_J.go vm_q264 (k := 2) (hs := []) (f' := (47, (0, 0), [.ref 152, .int (nI i), .int (nI j), .int 2, .retAddr 0], [.int ((nI h) - 1), .int 0, .int (nI j)])) (h' := (G, (vm_up I 152 40 0), F)) (hs' := []) rfl rfl ?_
  rw [((vm_ps (rfl : (nI h : Int32) = nI h) (rfl : (1 : Int32) = nI 1) (by omega)) : (nI h) - 1 = nI (h - 1))]
  refine vm_J.call vm_q264 (Z := vm_M168) (n := 3) (k := 1) (mi := 168) (pc := 47) (en := (47, .invokestatic 141, 3, [168, 1302, 0], .null)) rfl trivial rfl rfl vm_z168 (av := [.int (nI j), .int 0, .int (nI (h - 1))]) (rest := []) (r_isIn_y (v := nI j) (a := 0) (b := nI (h - 1)) (vm_bpn (by omega) rfl (by omega))) rfl (Nat.le_of_ble_eq_true rfl) ⟨Nat.le_of_ble_eq_true rfl, Nat.le_of_ble_eq_true rfl⟩ ⟨Nat.le_of_ble_eq_true rfl, Nat.le_of_ble_eq_true rfl⟩ ?_
  show vm_J _ _ _ (50, (0, 0), [.ref 152, .int (nI i), .int (nI j), .int 2, .retAddr 0], [.int 1]) (G, (vm_up I 152 40 0), F) _ _
  refine vm_J.go vm_q264 (k := 1) (hs := []) (f' := (bif vm_ic .ne 1 0 then 56 else 53, (0, 0), [.ref 152, .int (nI i), .int (nI j), .int 2, .retAddr 0], [])) (h' := (G, (vm_up I 152 40 0), F)) (hs' := []) rfl rfl ?_
  refine vm_J.bT (by decide) ?_
  refine vm_J.go vm_q264 (k := 4) (hs := [vm_shR, (0, 2, [])]) (f' := (62, (0, 0), [.ref 152, .int (nI i), .int (nI j), .int 2, .retAddr 0], [.int ((vm_up I 152 40 0) 173 0)])) (h' := (G, (vm_up I 152 40 0), F)) (hs' := []) rfl (vm_b2 rfl (vm_b2 (vm_b2 (vm_hG hR.c152) rfl) (vm_b2 rfl (vm_b2 (vm_b2 (vm_hG hR.c173) rfl) rfl)))) ?_
  rw [((Eq.trans (congrFun (vm_up_f _ 152 _ _ 173 (by decide)) 0) hw) : (vm_up I 152 40 0) 173 0 = nI w)]
  refine vm_J.go vm_q264 (k := 7) (hs := []) (f' := (bif vm_ic .ne 2 0 then 82 else 72, (0, 0), [.ref 152, .int (nI i), .int (nI j), .int 2, .int (((nI w) * (nI j)) + (nI i))], [])) (h' := (G, (vm_up I 152 40 0), F)) (hs' := []) rfl rfl ?_
  rw [((vm_pa (vm_pm (rfl : (nI w : Int32) = nI w) (rfl : (nI j : Int32) = nI j)) (rfl : (nI i : Int32) = nI i)) : ((nI w) * (nI j)) + (nI i) = nI ((w * j) + i))]
  refine vm_J.bT (by decide) ?_
  refine vm_J.go vm_q264 (k := 3) (hs := []) (f' := (bif vm_ic .ne 2 1 then 97 else 87, (0, 0), [.ref 152, .int (nI i), .int (nI j), .int 2, .int (nI ((w * j) + i))], [])) (h' := (G, (vm_up I 152 40 0), F)) (hs' := []) rfl rfl ?_
  refine vm_J.bT (by decide) ?_
  refine vm_J.go vm_q264 (k := 4) (hs := [vm_shR, (0, 288, [])]) (f' := (104, (0, 0), [.ref 152, .int (nI i), .int (nI j), .int 2, .int (nI ((w * j) + i))], [.int ((vm_up I 152 40 0) 176 (nI ((w * j) + i)).toNatClampNeg)])) (h' := (G, (vm_up I 152 40 0), F)) (hs' := []) rfl (vm_b2 rfl (vm_b2 (vm_b2 (vm_hG hR.c152) rfl) (vm_b2 rfl (vm_b2 (vm_b2 (vm_hG hR.c176) (vm_in_e (j := (w * j) + i) (n := 288) rfl (by omega) (by omega))) rfl)))) ?_
  rw [vm_ix_e (j := (w * j) + i) rfl (by omega)]
  rw [((congrFun (vm_up_f _ 152 _ _ 176 (by decide)) ((w * j) + i)) : (vm_up I 152 40 0) 176 ((w * j) + i) = I 176 ((w * j) + i))]
  exact vm_J.end vm_q264 (en := (104, .ireturn, 1, [], .null)) rfl rfl vm_rI (Nat.zero_le _) (Nat.zero_le _) rfl
set_option maxHeartbeats 4000000 in
set_option maxRecDepth 20000 in
/-- DitherDeskModel.sum -/
theorem r_sum_n {l : Launch} {X : vm_Cx} {G : List vm_Sh} {I : Nat → Nat → Int32} {F : Nat → Nat → UInt32} {w : Nat} {k : Int32} (hR : vm_isR G) (hw : I 173 0 = nI w) (hw2 : w = 0) : vm_K l X vm_M265 [.ref 152, .int k] (G, I, F) (some (.long (-9223372036854775808))) (G, (vm_up I 152 40 0), F) := by
  refine vm_K.mk (by decide) (Nat.le_of_ble_eq_true rfl) ?_
  show vm_J _ _ _ (0, (0, 0), [.ref 152, .int k], []) _ _ _
  refine vm_J.go vm_q265 (k := 1) (hs := []) (f' := (1, (0, 0), [.ref 152, .int k], [.ref 152])) (h' := (G, I, F)) (hs' := []) rfl rfl ?_
  refine vm_J.call vm_q265 (Z := vm_M262) (n := 0) (k := 0) (mi := 262) (pc := 1) (en := (1, .invokevirtual 424, 3, [262, 1660, 0], .null)) rfl trivial rfl rfl vm_z262 (av := [.ref 152]) (rest := []) (r_isMade_n hR hw hw2) ⟨_, _, rfl, rfl, _, 11, _, hR.c152, rfl, rfl, rfl⟩ (Nat.le_of_ble_eq_true rfl) ⟨Nat.le_of_ble_eq_true rfl, Nat.le_of_ble_eq_true rfl⟩ ⟨Nat.le_of_ble_eq_true rfl, Nat.le_of_ble_eq_true rfl⟩ ?_
  show vm_J _ _ _ (4, (0, 0), [.ref 152, .int k], [.int 0]) (G, (vm_up I 152 40 0), F) _ _
  refine vm_J.go vm_q265 (k := 1) (hs := []) (f' := (bif vm_ic .ne 0 0 then 11 else 7, (0, 0), [.ref 152, .int k], [])) (h' := (G, (vm_up I 152 40 0), F)) (hs' := []) rfl rfl ?_
  refine vm_J.bF (by decide) ?_
  refine vm_J.go vm_q265 (k := 1) (hs := []) (f' := (10, (0, 0), [.ref 152, .int k], [.long (-9223372036854775808)])) (h' := (G, (vm_up I 152 40 0), F)) (hs' := []) rfl rfl ?_
  exact vm_J.end vm_q265 (en := (10, .lreturn, 1, [], .null)) rfl rfl vm_rL (Nat.zero_le _) (Nat.zero_le _) rfl
set_option maxHeartbeats 4000000 in
set_option maxRecDepth 20000 in
/-- DitherDeskModel.sum -/
theorem r_sum_0 {l : Launch} {X : vm_Cx} {G : List vm_Sh} {I : Nat → Nat → Int32} {F : Nat → Nat → UInt32} {w : Nat} {h : Nat} (hR : vm_isR G) (hw : I 173 0 = nI w) (hh : I 174 0 = nI h) (hw2 : w ≤ 12) (hh2 : h ≤ 12) (hw0 : 0 < w) : vm_K l X vm_M265 [.ref 152, .int 0] (G, I, F) (some (.long ((sp_sum (fun y => sp_sh (fun z => I 178 (144 * 0 + z)) (fun z => I 176 (144 * 0 + z)) 0 y * sp_sh (fun z => I 178 (144 * 0 + z)) (fun z => I 176 (144 * 0 + z)) 0 y) (w * h)).toInt64))) (G, (vm_up I 152 40 0), F) := by
  refine vm_K.mk (by decide) (Nat.le_of_ble_eq_true rfl) ?_
  show vm_J _ _ _ (0, (0, 0), [.ref 152, .int 0], []) _ _ _
  refine vm_J.go vm_q265 (k := 1) (hs := []) (f' := (1, (0, 0), [.ref 152, .int 0], [.ref 152])) (h' := (G, I, F)) (hs' := []) rfl rfl ?_
  refine vm_J.call vm_q265 (Z := vm_M262) (n := 0) (k := 0) (mi := 262) (pc := 1) (en := (1, .invokevirtual 424, 3, [262, 1660, 0], .null)) rfl trivial rfl rfl vm_z262 (av := [.ref 152]) (rest := []) (r_isMade_y hR hw hw2 hw0) ⟨_, _, rfl, rfl, _, 11, _, hR.c152, rfl, rfl, rfl⟩ (Nat.le_of_ble_eq_true rfl) ⟨Nat.le_of_ble_eq_true rfl, Nat.le_of_ble_eq_true rfl⟩ ⟨Nat.le_of_ble_eq_true rfl, Nat.le_of_ble_eq_true rfl⟩ ?_
  show vm_J _ _ _ (4, (0, 0), [.ref 152, .int 0], [.int 1]) (G, (vm_up I 152 40 0), F) _ _
  refine vm_J.go vm_q265 (k := 1) (hs := []) (f' := (bif vm_ic .ne 1 0 then 11 else 7, (0, 0), [.ref 152, .int 0], [])) (h' := (G, (vm_up I 152 40 0), F)) (hs' := []) rfl rfl ?_
  refine vm_J.bT (by decide) ?_
  refine vm_J.go vm_q265 (k := 3) (hs := []) (f' := (14, (0, 0), [.ref 152, .int 0], [.int 2, .int 0, .int 0])) (h' := (G, (vm_up I 152 40 0), F)) (hs' := []) rfl rfl ?_
  refine vm_J.call vm_q265 (Z := vm_M168) (n := 3) (k := 1) (mi := 168) (pc := 14) (en := (14, .invokestatic 141, 3, [168, 1302, 0], .null)) rfl trivial rfl rfl vm_z168 (av := [.int 0, .int 0, .int 2]) (rest := []) (r_isIn_y (v := 0) (a := 0) (b := 2) (by decide)) rfl (Nat.le_of_ble_eq_true rfl) ⟨Nat.le_of_ble_eq_true rfl, Nat.le_of_ble_eq_true rfl⟩ ⟨Nat.le_of_ble_eq_true rfl, Nat.le_of_ble_eq_true rfl⟩ ?_
  show vm_J _ _ _ (17, (0, 0), [.ref 152, .int 0], [.int 1]) (G, (vm_up I 152 40 0), F) _ _
  refine vm_J.go vm_q265 (k := 1) (hs := []) (f' := (bif vm_ic .eq 1 0 then 27 else 20, (0, 0), [.ref 152, .int 0], [])) (h' := (G, (vm_up I 152 40 0), F)) (hs' := []) rfl rfl ?_
  refine vm_J.bF (by decide) ?_
  refine vm_J.go vm_q265 (k := 2) (hs := []) (f' := (22, (0, 0), [.ref 152, .int 0], [.int 0, .ref 152])) (h' := (G, (vm_up I 152 40 0), F)) (hs' := []) rfl rfl ?_
  refine vm_J.call vm_q265 (Z := vm_M254) (n := 1) (k := 0) (mi := 254) (pc := 22) (en := (22, .invokevirtual 409, 3, [254, 1668, 0], .null)) rfl trivial rfl rfl vm_z254 (av := [.ref 152, .int 0]) (rest := []) (r_errOn (s := 0) (w := w) (h := h) (c := 0) hR (vm_up_h _ 152 40 _) (Eq.trans (congrFun (vm_up_f _ 152 _ _ 173 (by decide)) 0) hw) (Eq.trans (congrFun (vm_up_f _ 152 _ _ 174 (by decide)) 0) hh) (by omega) (by omega) (by omega)) ⟨_, _, rfl, rfl, _, 11, _, hR.c152, rfl, rfl, rfl⟩ (Nat.le_of_ble_eq_true rfl) ⟨Nat.le_of_ble_eq_true rfl, Nat.le_of_ble_eq_true rfl⟩ ⟨Nat.le_of_ble_eq_true rfl, Nat.le_of_ble_eq_true rfl⟩ ?_
  show vm_J _ _ _ (25, (0, 0), [.ref 152, .int 0], [.int (sp_sum (fun y => sp_sh (fun z => (vm_up I 152 40 0) 178 (144 * 0 + z)) (fun z => (vm_up I 152 40 0) 176 (144 * 0 + z)) 0 y * sp_sh (fun z => (vm_up I 152 40 0) 178 (144 * 0 + z)) (fun z => (vm_up I 152 40 0) 176 (144 * 0 + z)) 0 y) (w * h))]) (G, (vm_up I 152 40 0), F) _ _
  refine vm_J.go vm_q265 (k := 1) (hs := []) (f' := (26, (0, 0), [.ref 152, .int 0], [.long ((sp_sum (fun y => sp_sh (fun z => (vm_up I 152 40 0) 178 (144 * 0 + z)) (fun z => (vm_up I 152 40 0) 176 (144 * 0 + z)) 0 y * sp_sh (fun z => (vm_up I 152 40 0) 178 (144 * 0 + z)) (fun z => (vm_up I 152 40 0) 176 (144 * 0 + z)) 0 y) (w * h)).toInt64)])) (h' := (G, (vm_up I 152 40 0), F)) (hs' := []) rfl rfl ?_
  exact vm_J.end vm_q265 (en := (26, .lreturn, 1, [], .null)) rfl rfl vm_rL (Nat.zero_le _) (Nat.zero_le _) rfl
set_option maxHeartbeats 4000000 in
set_option maxRecDepth 20000 in
/-- DitherDeskModel.sum -/
theorem r_sum_1 {l : Launch} {X : vm_Cx} {G : List vm_Sh} {I : Nat → Nat → Int32} {F : Nat → Nat → UInt32} {w : Nat} {h : Nat} (hR : vm_isR G) (hw : I 173 0 = nI w) (hh : I 174 0 = nI h) (hw2 : w ≤ 12) (hh2 : h ≤ 12) (hw0 : 0 < w) : vm_K l X vm_M265 [.ref 152, .int 1] (G, I, F) (some (.long ((sp_sum (fun y => sp_sh (fun z => I 178 (144 * 0 + z)) (fun z => I 176 (144 * 0 + z)) 1 y * sp_sh (fun z => I 178 (144 * 0 + z)) (fun z => I 176 (144 * 0 + z)) 1 y) (w * h)).toInt64))) (G, (vm_up I 152 40 0), F) := by
  refine vm_K.mk (by decide) (Nat.le_of_ble_eq_true rfl) ?_
  show vm_J _ _ _ (0, (0, 0), [.ref 152, .int 1], []) _ _ _
  refine vm_J.go vm_q265 (k := 1) (hs := []) (f' := (1, (0, 0), [.ref 152, .int 1], [.ref 152])) (h' := (G, I, F)) (hs' := []) rfl rfl ?_
  refine vm_J.call vm_q265 (Z := vm_M262) (n := 0) (k := 0) (mi := 262) (pc := 1) (en := (1, .invokevirtual 424, 3, [262, 1660, 0], .null)) rfl trivial rfl rfl vm_z262 (av := [.ref 152]) (rest := []) (r_isMade_y hR hw hw2 hw0) ⟨_, _, rfl, rfl, _, 11, _, hR.c152, rfl, rfl, rfl⟩ (Nat.le_of_ble_eq_true rfl) ⟨Nat.le_of_ble_eq_true rfl, Nat.le_of_ble_eq_true rfl⟩ ⟨Nat.le_of_ble_eq_true rfl, Nat.le_of_ble_eq_true rfl⟩ ?_
  show vm_J _ _ _ (4, (0, 0), [.ref 152, .int 1], [.int 1]) (G, (vm_up I 152 40 0), F) _ _
  refine vm_J.go vm_q265 (k := 1) (hs := []) (f' := (bif vm_ic .ne 1 0 then 11 else 7, (0, 0), [.ref 152, .int 1], [])) (h' := (G, (vm_up I 152 40 0), F)) (hs' := []) rfl rfl ?_
  refine vm_J.bT (by decide) ?_
  refine vm_J.go vm_q265 (k := 3) (hs := []) (f' := (14, (0, 0), [.ref 152, .int 1], [.int 2, .int 0, .int 1])) (h' := (G, (vm_up I 152 40 0), F)) (hs' := []) rfl rfl ?_
  refine vm_J.call vm_q265 (Z := vm_M168) (n := 3) (k := 1) (mi := 168) (pc := 14) (en := (14, .invokestatic 141, 3, [168, 1302, 0], .null)) rfl trivial rfl rfl vm_z168 (av := [.int 1, .int 0, .int 2]) (rest := []) (r_isIn_y (v := 1) (a := 0) (b := 2) (by decide)) rfl (Nat.le_of_ble_eq_true rfl) ⟨Nat.le_of_ble_eq_true rfl, Nat.le_of_ble_eq_true rfl⟩ ⟨Nat.le_of_ble_eq_true rfl, Nat.le_of_ble_eq_true rfl⟩ ?_
  show vm_J _ _ _ (17, (0, 0), [.ref 152, .int 1], [.int 1]) (G, (vm_up I 152 40 0), F) _ _
  refine vm_J.go vm_q265 (k := 1) (hs := []) (f' := (bif vm_ic .eq 1 0 then 27 else 20, (0, 0), [.ref 152, .int 1], [])) (h' := (G, (vm_up I 152 40 0), F)) (hs' := []) rfl rfl ?_
  refine vm_J.bF (by decide) ?_
  refine vm_J.go vm_q265 (k := 2) (hs := []) (f' := (22, (0, 0), [.ref 152, .int 1], [.int 1, .ref 152])) (h' := (G, (vm_up I 152 40 0), F)) (hs' := []) rfl rfl ?_
  refine vm_J.call vm_q265 (Z := vm_M254) (n := 1) (k := 0) (mi := 254) (pc := 22) (en := (22, .invokevirtual 409, 3, [254, 1668, 0], .null)) rfl trivial rfl rfl vm_z254 (av := [.ref 152, .int 1]) (rest := []) (r_errOn (s := 0) (w := w) (h := h) (c := 1) hR (vm_up_h _ 152 40 _) (Eq.trans (congrFun (vm_up_f _ 152 _ _ 173 (by decide)) 0) hw) (Eq.trans (congrFun (vm_up_f _ 152 _ _ 174 (by decide)) 0) hh) (by omega) (by omega) (by omega)) ⟨_, _, rfl, rfl, _, 11, _, hR.c152, rfl, rfl, rfl⟩ (Nat.le_of_ble_eq_true rfl) ⟨Nat.le_of_ble_eq_true rfl, Nat.le_of_ble_eq_true rfl⟩ ⟨Nat.le_of_ble_eq_true rfl, Nat.le_of_ble_eq_true rfl⟩ ?_
  show vm_J _ _ _ (25, (0, 0), [.ref 152, .int 1], [.int (sp_sum (fun y => sp_sh (fun z => (vm_up I 152 40 0) 178 (144 * 0 + z)) (fun z => (vm_up I 152 40 0) 176 (144 * 0 + z)) 1 y * sp_sh (fun z => (vm_up I 152 40 0) 178 (144 * 0 + z)) (fun z => (vm_up I 152 40 0) 176 (144 * 0 + z)) 1 y) (w * h))]) (G, (vm_up I 152 40 0), F) _ _
  refine vm_J.go vm_q265 (k := 1) (hs := []) (f' := (26, (0, 0), [.ref 152, .int 1], [.long ((sp_sum (fun y => sp_sh (fun z => (vm_up I 152 40 0) 178 (144 * 0 + z)) (fun z => (vm_up I 152 40 0) 176 (144 * 0 + z)) 1 y * sp_sh (fun z => (vm_up I 152 40 0) 178 (144 * 0 + z)) (fun z => (vm_up I 152 40 0) 176 (144 * 0 + z)) 1 y) (w * h)).toInt64)])) (h' := (G, (vm_up I 152 40 0), F)) (hs' := []) rfl rfl ?_
  exact vm_J.end vm_q265 (en := (26, .lreturn, 1, [], .null)) rfl rfl vm_rL (Nat.zero_le _) (Nat.zero_le _) rfl
set_option maxHeartbeats 4000000 in
set_option maxRecDepth 20000 in
/-- DitherDeskModel.sum -/
theorem r_sum_2 {l : Launch} {X : vm_Cx} {G : List vm_Sh} {I : Nat → Nat → Int32} {F : Nat → Nat → UInt32} {w : Nat} {h : Nat} (hR : vm_isR G) (hw : I 173 0 = nI w) (hh : I 174 0 = nI h) (hw2 : w ≤ 12) (hh2 : h ≤ 12) (hw0 : 0 < w) : vm_K l X vm_M265 [.ref 152, .int 2] (G, I, F) (some (.long ((sp_sum (fun y => sp_sh (fun z => I 178 (144 * 0 + z)) (fun z => I 176 (144 * 0 + z)) 2 y * sp_sh (fun z => I 178 (144 * 0 + z)) (fun z => I 176 (144 * 0 + z)) 2 y) (w * h)).toInt64))) (G, (vm_up I 152 40 0), F) := by
  refine vm_K.mk (by decide) (Nat.le_of_ble_eq_true rfl) ?_
  show vm_J _ _ _ (0, (0, 0), [.ref 152, .int 2], []) _ _ _
  refine vm_J.go vm_q265 (k := 1) (hs := []) (f' := (1, (0, 0), [.ref 152, .int 2], [.ref 152])) (h' := (G, I, F)) (hs' := []) rfl rfl ?_
  refine vm_J.call vm_q265 (Z := vm_M262) (n := 0) (k := 0) (mi := 262) (pc := 1) (en := (1, .invokevirtual 424, 3, [262, 1660, 0], .null)) rfl trivial rfl rfl vm_z262 (av := [.ref 152]) (rest := []) (r_isMade_y hR hw hw2 hw0) ⟨_, _, rfl, rfl, _, 11, _, hR.c152, rfl, rfl, rfl⟩ (Nat.le_of_ble_eq_true rfl) ⟨Nat.le_of_ble_eq_true rfl, Nat.le_of_ble_eq_true rfl⟩ ⟨Nat.le_of_ble_eq_true rfl, Nat.le_of_ble_eq_true rfl⟩ ?_
  show vm_J _ _ _ (4, (0, 0), [.ref 152, .int 2], [.int 1]) (G, (vm_up I 152 40 0), F) _ _
  refine vm_J.go vm_q265 (k := 1) (hs := []) (f' := (bif vm_ic .ne 1 0 then 11 else 7, (0, 0), [.ref 152, .int 2], [])) (h' := (G, (vm_up I 152 40 0), F)) (hs' := []) rfl rfl ?_
  refine vm_J.bT (by decide) ?_
  refine vm_J.go vm_q265 (k := 3) (hs := []) (f' := (14, (0, 0), [.ref 152, .int 2], [.int 2, .int 0, .int 2])) (h' := (G, (vm_up I 152 40 0), F)) (hs' := []) rfl rfl ?_
  refine vm_J.call vm_q265 (Z := vm_M168) (n := 3) (k := 1) (mi := 168) (pc := 14) (en := (14, .invokestatic 141, 3, [168, 1302, 0], .null)) rfl trivial rfl rfl vm_z168 (av := [.int 2, .int 0, .int 2]) (rest := []) (r_isIn_y (v := 2) (a := 0) (b := 2) (by decide)) rfl (Nat.le_of_ble_eq_true rfl) ⟨Nat.le_of_ble_eq_true rfl, Nat.le_of_ble_eq_true rfl⟩ ⟨Nat.le_of_ble_eq_true rfl, Nat.le_of_ble_eq_true rfl⟩ ?_
  show vm_J _ _ _ (17, (0, 0), [.ref 152, .int 2], [.int 1]) (G, (vm_up I 152 40 0), F) _ _
  refine vm_J.go vm_q265 (k := 1) (hs := []) (f' := (bif vm_ic .eq 1 0 then 27 else 20, (0, 0), [.ref 152, .int 2], [])) (h' := (G, (vm_up I 152 40 0), F)) (hs' := []) rfl rfl ?_
  refine vm_J.bF (by decide) ?_
  refine vm_J.go vm_q265 (k := 2) (hs := []) (f' := (22, (0, 0), [.ref 152, .int 2], [.int 2, .ref 152])) (h' := (G, (vm_up I 152 40 0), F)) (hs' := []) rfl rfl ?_
  refine vm_J.call vm_q265 (Z := vm_M254) (n := 1) (k := 0) (mi := 254) (pc := 22) (en := (22, .invokevirtual 409, 3, [254, 1668, 0], .null)) rfl trivial rfl rfl vm_z254 (av := [.ref 152, .int 2]) (rest := []) (r_errOn (s := 0) (w := w) (h := h) (c := 2) hR (vm_up_h _ 152 40 _) (Eq.trans (congrFun (vm_up_f _ 152 _ _ 173 (by decide)) 0) hw) (Eq.trans (congrFun (vm_up_f _ 152 _ _ 174 (by decide)) 0) hh) (by omega) (by omega) (by omega)) ⟨_, _, rfl, rfl, _, 11, _, hR.c152, rfl, rfl, rfl⟩ (Nat.le_of_ble_eq_true rfl) ⟨Nat.le_of_ble_eq_true rfl, Nat.le_of_ble_eq_true rfl⟩ ⟨Nat.le_of_ble_eq_true rfl, Nat.le_of_ble_eq_true rfl⟩ ?_
  show vm_J _ _ _ (25, (0, 0), [.ref 152, .int 2], [.int (sp_sum (fun y => sp_sh (fun z => (vm_up I 152 40 0) 178 (144 * 0 + z)) (fun z => (vm_up I 152 40 0) 176 (144 * 0 + z)) 2 y * sp_sh (fun z => (vm_up I 152 40 0) 178 (144 * 0 + z)) (fun z => (vm_up I 152 40 0) 176 (144 * 0 + z)) 2 y) (w * h))]) (G, (vm_up I 152 40 0), F) _ _
  refine vm_J.go vm_q265 (k := 1) (hs := []) (f' := (26, (0, 0), [.ref 152, .int 2], [.long ((sp_sum (fun y => sp_sh (fun z => (vm_up I 152 40 0) 178 (144 * 0 + z)) (fun z => (vm_up I 152 40 0) 176 (144 * 0 + z)) 2 y * sp_sh (fun z => (vm_up I 152 40 0) 178 (144 * 0 + z)) (fun z => (vm_up I 152 40 0) 176 (144 * 0 + z)) 2 y) (w * h)).toInt64)])) (h' := (G, (vm_up I 152 40 0), F)) (hs' := []) rfl rfl ?_
  exact vm_J.end vm_q265 (en := (26, .lreturn, 1, [], .null)) rfl rfl vm_rL (Nat.zero_le _) (Nat.zero_le _) rfl
set_option maxHeartbeats 4000000 in
set_option maxRecDepth 20000 in
/-- DitherDeskModel.sum -/
theorem r_sum_3 {l : Launch} {X : vm_Cx} {G : List vm_Sh} {I : Nat → Nat → Int32} {F : Nat → Nat → UInt32} {w : Nat} {h : Nat} (hR : vm_isR G) (hw : I 173 0 = nI w) (hh : I 174 0 = nI h) (hw2 : w ≤ 12) (hh2 : h ≤ 12) (hw0 : 0 < w) : vm_K l X vm_M265 [.ref 152, .int 3] (G, I, F) (some (.long ((sp_e3 (fun z => I 178 (144 * 0 + z)) (fun z => I 176 (144 * 0 + z)) (w * h)).toInt64))) (G, (vm_up I 152 40 0), F) := by
  refine vm_K.mk (by decide) (Nat.le_of_ble_eq_true rfl) ?_
  show vm_J _ _ _ (0, (0, 0), [.ref 152, .int 3], []) _ _ _
  refine vm_J.go vm_q265 (k := 1) (hs := []) (f' := (1, (0, 0), [.ref 152, .int 3], [.ref 152])) (h' := (G, I, F)) (hs' := []) rfl rfl ?_
  refine vm_J.call vm_q265 (Z := vm_M262) (n := 0) (k := 0) (mi := 262) (pc := 1) (en := (1, .invokevirtual 424, 3, [262, 1660, 0], .null)) rfl trivial rfl rfl vm_z262 (av := [.ref 152]) (rest := []) (r_isMade_y hR hw hw2 hw0) ⟨_, _, rfl, rfl, _, 11, _, hR.c152, rfl, rfl, rfl⟩ (Nat.le_of_ble_eq_true rfl) ⟨Nat.le_of_ble_eq_true rfl, Nat.le_of_ble_eq_true rfl⟩ ⟨Nat.le_of_ble_eq_true rfl, Nat.le_of_ble_eq_true rfl⟩ ?_
  show vm_J _ _ _ (4, (0, 0), [.ref 152, .int 3], [.int 1]) (G, (vm_up I 152 40 0), F) _ _
  refine vm_J.go vm_q265 (k := 1) (hs := []) (f' := (bif vm_ic .ne 1 0 then 11 else 7, (0, 0), [.ref 152, .int 3], [])) (h' := (G, (vm_up I 152 40 0), F)) (hs' := []) rfl rfl ?_
  refine vm_J.bT (by decide) ?_
  refine vm_J.go vm_q265 (k := 3) (hs := []) (f' := (14, (0, 0), [.ref 152, .int 3], [.int 2, .int 0, .int 3])) (h' := (G, (vm_up I 152 40 0), F)) (hs' := []) rfl rfl ?_
  refine vm_J.call vm_q265 (Z := vm_M168) (n := 3) (k := 1) (mi := 168) (pc := 14) (en := (14, .invokestatic 141, 3, [168, 1302, 0], .null)) rfl trivial rfl rfl vm_z168 (av := [.int 3, .int 0, .int 2]) (rest := []) (r_isIn_n (v := 3) (a := 0) (b := 2) (by decide)) rfl (Nat.le_of_ble_eq_true rfl) ⟨Nat.le_of_ble_eq_true rfl, Nat.le_of_ble_eq_true rfl⟩ ⟨Nat.le_of_ble_eq_true rfl, Nat.le_of_ble_eq_true rfl⟩ ?_
  show vm_J _ _ _ (17, (0, 0), [.ref 152, .int 3], [.int 0]) (G, (vm_up I 152 40 0), F) _ _
  refine vm_J.go vm_q265 (k := 1) (hs := []) (f' := (bif vm_ic .eq 0 0 then 27 else 20, (0, 0), [.ref 152, .int 3], [])) (h' := (G, (vm_up I 152 40 0), F)) (hs' := []) rfl rfl ?_
  refine vm_J.bT (by decide) ?_
  refine vm_J.go vm_q265 (k := 3) (hs := []) (f' := (31, (0, 0), [.ref 152, .int 3], [.int 6, .int 4, .int 3])) (h' := (G, (vm_up I 152 40 0), F)) (hs' := []) rfl rfl ?_
  refine vm_J.call vm_q265 (Z := vm_M168) (n := 3) (k := 1) (mi := 168) (pc := 31) (en := (31, .invokestatic 141, 3, [168, 1302, 0], .null)) rfl trivial rfl rfl vm_z168 (av := [.int 3, .int 4, .int 6]) (rest := []) (r_isIn_n (v := 3) (a := 4) (b := 6) (by decide)) rfl (Nat.le_of_ble_eq_true rfl) ⟨Nat.le_of_ble_eq_true rfl, Nat.le_of_ble_eq_true rfl⟩ ⟨Nat.le_of_ble_eq_true rfl, Nat.le_of_ble_eq_true rfl⟩ ?_
  show vm_J _ _ _ (34, (0, 0), [.ref 152, .int 3], [.int 0]) (G, (vm_up I 152 40 0), F) _ _
  refine vm_J.go vm_q265 (k := 1) (hs := []) (f' := (bif vm_ic .eq 0 0 then 46 else 37, (0, 0), [.ref 152, .int 3], [])) (h' := (G, (vm_up I 152 40 0), F)) (hs' := []) rfl rfl ?_
  refine vm_J.bT (by decide) ?_
  refine vm_J.go vm_q265 (k := 3) (hs := []) (f' := (51, (0, 0), [.ref 152, .int 3], [.int 12, .int 10, .int 3])) (h' := (G, (vm_up I 152 40 0), F)) (hs' := []) rfl rfl ?_
  refine vm_J.call vm_q265 (Z := vm_M168) (n := 3) (k := 1) (mi := 168) (pc := 51) (en := (51, .invokestatic 141, 3, [168, 1302, 0], .null)) rfl trivial rfl rfl vm_z168 (av := [.int 3, .int 10, .int 12]) (rest := []) (r_isIn_n (v := 3) (a := 10) (b := 12) (by decide)) rfl (Nat.le_of_ble_eq_true rfl) ⟨Nat.le_of_ble_eq_true rfl, Nat.le_of_ble_eq_true rfl⟩ ⟨Nat.le_of_ble_eq_true rfl, Nat.le_of_ble_eq_true rfl⟩ ?_
  show vm_J _ _ _ (54, (0, 0), [.ref 152, .int 3], [.int 0]) (G, (vm_up I 152 40 0), F) _ _
  refine vm_J.go vm_q265 (k := 1) (hs := []) (f' := (bif vm_ic .eq 0 0 then 71 else 57, (0, 0), [.ref 152, .int 3], [])) (h' := (G, (vm_up I 152 40 0), F)) (hs' := []) rfl rfl ?_
  refine vm_J.bT (by decide) ?_
  refine vm_J.go vm_q265 (k := 3) (hs := []) (f' := (141, (0, 0), [.ref 152, .int 3], [.ref 152])) (h' := (G, (vm_up I 152 40 0), F)) (hs' := []) rfl rfl ?_
  refine vm_J.call vm_q265 (Z := vm_M255) (n := 0) (k := 0) (mi := 255) (pc := 141) (en := (141, .invokevirtual 436, 3, [255, 1690, 0], .null)) rfl trivial rfl rfl vm_z255 (av := [.ref 152]) (rest := []) (r_errNow (s := 0) (w := w) (h := h) hR (vm_up_h _ 152 40 _) (Eq.trans (congrFun (vm_up_f _ 152 _ _ 173 (by decide)) 0) hw) (Eq.trans (congrFun (vm_up_f _ 152 _ _ 174 (by decide)) 0) hh) (by omega) (by omega) (by omega)) ⟨_, _, rfl, rfl, _, 11, _, hR.c152, rfl, rfl, rfl⟩ (Nat.le_of_ble_eq_true rfl) ⟨Nat.le_of_ble_eq_true rfl, Nat.le_of_ble_eq_true rfl⟩ ⟨Nat.le_of_ble_eq_true rfl, Nat.le_of_ble_eq_true rfl⟩ ?_
  show vm_J _ _ _ (144, (0, 0), [.ref 152, .int 3], [.int (sp_e3 (fun z => (vm_up I 152 40 0) 178 (144 * 0 + z)) (fun z => (vm_up I 152 40 0) 176 (144 * 0 + z)) (w * h))]) (G, (vm_up I 152 40 0), F) _ _
  refine vm_J.go vm_q265 (k := 1) (hs := []) (f' := (145, (0, 0), [.ref 152, .int 3], [.long ((sp_e3 (fun z => (vm_up I 152 40 0) 178 (144 * 0 + z)) (fun z => (vm_up I 152 40 0) 176 (144 * 0 + z)) (w * h)).toInt64)])) (h' := (G, (vm_up I 152 40 0), F)) (hs' := []) rfl rfl ?_
  exact vm_J.end vm_q265 (en := (145, .lreturn, 1, [], .null)) rfl rfl vm_rL (Nat.zero_le _) (Nat.zero_le _) rfl
set_option maxHeartbeats 4000000 in
set_option maxRecDepth 20000 in
/-- DitherDeskModel.sum -/
theorem r_sum_4 {l : Launch} {X : vm_Cx} {G : List vm_Sh} {I : Nat → Nat → Int32} {F : Nat → Nat → UInt32} {w : Nat} {h : Nat} (hR : vm_isR G) (hw : I 173 0 = nI w) (hh : I 174 0 = nI h) (hw2 : w ≤ 12) (hh2 : h ≤ 12) (hw0 : 0 < w) : vm_K l X vm_M265 [.ref 152, .int 4] (G, I, F) (some (.long ((sp_sum (fun y => sp_sh (fun z => I 178 (144 * 0 + z)) (fun z => I 176 (144 * 0 + z)) 0 y) (w * h)).toInt64))) (G, (vm_up I 152 40 0), F) := by
  refine vm_K.mk (by decide) (Nat.le_of_ble_eq_true rfl) ?_
  show vm_J _ _ _ (0, (0, 0), [.ref 152, .int 4], []) _ _ _
  refine vm_J.go vm_q265 (k := 1) (hs := []) (f' := (1, (0, 0), [.ref 152, .int 4], [.ref 152])) (h' := (G, I, F)) (hs' := []) rfl rfl ?_
  refine vm_J.call vm_q265 (Z := vm_M262) (n := 0) (k := 0) (mi := 262) (pc := 1) (en := (1, .invokevirtual 424, 3, [262, 1660, 0], .null)) rfl trivial rfl rfl vm_z262 (av := [.ref 152]) (rest := []) (r_isMade_y hR hw hw2 hw0) ⟨_, _, rfl, rfl, _, 11, _, hR.c152, rfl, rfl, rfl⟩ (Nat.le_of_ble_eq_true rfl) ⟨Nat.le_of_ble_eq_true rfl, Nat.le_of_ble_eq_true rfl⟩ ⟨Nat.le_of_ble_eq_true rfl, Nat.le_of_ble_eq_true rfl⟩ ?_
  show vm_J _ _ _ (4, (0, 0), [.ref 152, .int 4], [.int 1]) (G, (vm_up I 152 40 0), F) _ _
  refine vm_J.go vm_q265 (k := 1) (hs := []) (f' := (bif vm_ic .ne 1 0 then 11 else 7, (0, 0), [.ref 152, .int 4], [])) (h' := (G, (vm_up I 152 40 0), F)) (hs' := []) rfl rfl ?_
  refine vm_J.bT (by decide) ?_
  refine vm_J.go vm_q265 (k := 3) (hs := []) (f' := (14, (0, 0), [.ref 152, .int 4], [.int 2, .int 0, .int 4])) (h' := (G, (vm_up I 152 40 0), F)) (hs' := []) rfl rfl ?_
  refine vm_J.call vm_q265 (Z := vm_M168) (n := 3) (k := 1) (mi := 168) (pc := 14) (en := (14, .invokestatic 141, 3, [168, 1302, 0], .null)) rfl trivial rfl rfl vm_z168 (av := [.int 4, .int 0, .int 2]) (rest := []) (r_isIn_n (v := 4) (a := 0) (b := 2) (by decide)) rfl (Nat.le_of_ble_eq_true rfl) ⟨Nat.le_of_ble_eq_true rfl, Nat.le_of_ble_eq_true rfl⟩ ⟨Nat.le_of_ble_eq_true rfl, Nat.le_of_ble_eq_true rfl⟩ ?_
  show vm_J _ _ _ (17, (0, 0), [.ref 152, .int 4], [.int 0]) (G, (vm_up I 152 40 0), F) _ _
  refine vm_J.go vm_q265 (k := 1) (hs := []) (f' := (bif vm_ic .eq 0 0 then 27 else 20, (0, 0), [.ref 152, .int 4], [])) (h' := (G, (vm_up I 152 40 0), F)) (hs' := []) rfl rfl ?_
  refine vm_J.bT (by decide) ?_
  refine vm_J.go vm_q265 (k := 3) (hs := []) (f' := (31, (0, 0), [.ref 152, .int 4], [.int 6, .int 4, .int 4])) (h' := (G, (vm_up I 152 40 0), F)) (hs' := []) rfl rfl ?_
  refine vm_J.call vm_q265 (Z := vm_M168) (n := 3) (k := 1) (mi := 168) (pc := 31) (en := (31, .invokestatic 141, 3, [168, 1302, 0], .null)) rfl trivial rfl rfl vm_z168 (av := [.int 4, .int 4, .int 6]) (rest := []) (r_isIn_y (v := 4) (a := 4) (b := 6) (by decide)) rfl (Nat.le_of_ble_eq_true rfl) ⟨Nat.le_of_ble_eq_true rfl, Nat.le_of_ble_eq_true rfl⟩ ⟨Nat.le_of_ble_eq_true rfl, Nat.le_of_ble_eq_true rfl⟩ ?_
  show vm_J _ _ _ (34, (0, 0), [.ref 152, .int 4], [.int 1]) (G, (vm_up I 152 40 0), F) _ _
  refine vm_J.go vm_q265 (k := 1) (hs := []) (f' := (bif vm_ic .eq 1 0 then 46 else 37, (0, 0), [.ref 152, .int 4], [])) (h' := (G, (vm_up I 152 40 0), F)) (hs' := []) rfl rfl ?_
  refine vm_J.bF (by decide) ?_
  refine vm_J.go vm_q265 (k := 4) (hs := []) (f' := (41, (0, 0), [.ref 152, .int 4], [.int (4 - 4), .ref 152])) (h' := (G, (vm_up I 152 40 0), F)) (hs' := []) rfl rfl ?_
  rw [(show (4 - 4 : Int32) = 0 from by decide)]
  refine vm_J.call vm_q265 (Z := vm_M256) (n := 1) (k := 0) (mi := 256) (pc := 41) (en := (41, .invokevirtual 427, 3, [256, 1676, 0], .null)) rfl trivial rfl rfl vm_z256 (av := [.ref 152, .int 0]) (rest := []) (r_shOn (s := 0) (w := w) (h := h) (c := 0) hR (vm_up_h _ 152 40 _) (Eq.trans (congrFun (vm_up_f _ 152 _ _ 173 (by decide)) 0) hw) (Eq.trans (congrFun (vm_up_f _ 152 _ _ 174 (by decide)) 0) hh) (by omega) (by omega) (by omega)) ⟨_, _, rfl, rfl, _, 11, _, hR.c152, rfl, rfl, rfl⟩ (Nat.le_of_ble_eq_true rfl) ⟨Nat.le_of_ble_eq_true rfl, Nat.le_of_ble_eq_true rfl⟩ ⟨Nat.le_of_ble_eq_true rfl, Nat.le_of_ble_eq_true rfl⟩ ?_
  show vm_J _ _ _ (44, (0, 0), [.ref 152, .int 4], [.int (sp_sum (fun y => sp_sh (fun z => (vm_up I 152 40 0) 178 (144 * 0 + z)) (fun z => (vm_up I 152 40 0) 176 (144 * 0 + z)) 0 y) (w * h))]) (G, (vm_up I 152 40 0), F) _ _
  refine vm_J.go vm_q265 (k := 1) (hs := []) (f' := (45, (0, 0), [.ref 152, .int 4], [.long ((sp_sum (fun y => sp_sh (fun z => (vm_up I 152 40 0) 178 (144 * 0 + z)) (fun z => (vm_up I 152 40 0) 176 (144 * 0 + z)) 0 y) (w * h)).toInt64)])) (h' := (G, (vm_up I 152 40 0), F)) (hs' := []) rfl rfl ?_
  exact vm_J.end vm_q265 (en := (45, .lreturn, 1, [], .null)) rfl rfl vm_rL (Nat.zero_le _) (Nat.zero_le _) rfl
set_option maxHeartbeats 4000000 in
set_option maxRecDepth 20000 in
/-- DitherDeskModel.sum -/
theorem r_sum_5 {l : Launch} {X : vm_Cx} {G : List vm_Sh} {I : Nat → Nat → Int32} {F : Nat → Nat → UInt32} {w : Nat} {h : Nat} (hR : vm_isR G) (hw : I 173 0 = nI w) (hh : I 174 0 = nI h) (hw2 : w ≤ 12) (hh2 : h ≤ 12) (hw0 : 0 < w) : vm_K l X vm_M265 [.ref 152, .int 5] (G, I, F) (some (.long ((sp_sum (fun y => sp_sh (fun z => I 178 (144 * 0 + z)) (fun z => I 176 (144 * 0 + z)) 1 y) (w * h)).toInt64))) (G, (vm_up I 152 40 0), F) := by
  refine vm_K.mk (by decide) (Nat.le_of_ble_eq_true rfl) ?_
  show vm_J _ _ _ (0, (0, 0), [.ref 152, .int 5], []) _ _ _
  refine vm_J.go vm_q265 (k := 1) (hs := []) (f' := (1, (0, 0), [.ref 152, .int 5], [.ref 152])) (h' := (G, I, F)) (hs' := []) rfl rfl ?_
  refine vm_J.call vm_q265 (Z := vm_M262) (n := 0) (k := 0) (mi := 262) (pc := 1) (en := (1, .invokevirtual 424, 3, [262, 1660, 0], .null)) rfl trivial rfl rfl vm_z262 (av := [.ref 152]) (rest := []) (r_isMade_y hR hw hw2 hw0) ⟨_, _, rfl, rfl, _, 11, _, hR.c152, rfl, rfl, rfl⟩ (Nat.le_of_ble_eq_true rfl) ⟨Nat.le_of_ble_eq_true rfl, Nat.le_of_ble_eq_true rfl⟩ ⟨Nat.le_of_ble_eq_true rfl, Nat.le_of_ble_eq_true rfl⟩ ?_
  show vm_J _ _ _ (4, (0, 0), [.ref 152, .int 5], [.int 1]) (G, (vm_up I 152 40 0), F) _ _
  refine vm_J.go vm_q265 (k := 1) (hs := []) (f' := (bif vm_ic .ne 1 0 then 11 else 7, (0, 0), [.ref 152, .int 5], [])) (h' := (G, (vm_up I 152 40 0), F)) (hs' := []) rfl rfl ?_
  refine vm_J.bT (by decide) ?_
  refine vm_J.go vm_q265 (k := 3) (hs := []) (f' := (14, (0, 0), [.ref 152, .int 5], [.int 2, .int 0, .int 5])) (h' := (G, (vm_up I 152 40 0), F)) (hs' := []) rfl rfl ?_
  refine vm_J.call vm_q265 (Z := vm_M168) (n := 3) (k := 1) (mi := 168) (pc := 14) (en := (14, .invokestatic 141, 3, [168, 1302, 0], .null)) rfl trivial rfl rfl vm_z168 (av := [.int 5, .int 0, .int 2]) (rest := []) (r_isIn_n (v := 5) (a := 0) (b := 2) (by decide)) rfl (Nat.le_of_ble_eq_true rfl) ⟨Nat.le_of_ble_eq_true rfl, Nat.le_of_ble_eq_true rfl⟩ ⟨Nat.le_of_ble_eq_true rfl, Nat.le_of_ble_eq_true rfl⟩ ?_
  show vm_J _ _ _ (17, (0, 0), [.ref 152, .int 5], [.int 0]) (G, (vm_up I 152 40 0), F) _ _
  refine vm_J.go vm_q265 (k := 1) (hs := []) (f' := (bif vm_ic .eq 0 0 then 27 else 20, (0, 0), [.ref 152, .int 5], [])) (h' := (G, (vm_up I 152 40 0), F)) (hs' := []) rfl rfl ?_
  refine vm_J.bT (by decide) ?_
  refine vm_J.go vm_q265 (k := 3) (hs := []) (f' := (31, (0, 0), [.ref 152, .int 5], [.int 6, .int 4, .int 5])) (h' := (G, (vm_up I 152 40 0), F)) (hs' := []) rfl rfl ?_
  refine vm_J.call vm_q265 (Z := vm_M168) (n := 3) (k := 1) (mi := 168) (pc := 31) (en := (31, .invokestatic 141, 3, [168, 1302, 0], .null)) rfl trivial rfl rfl vm_z168 (av := [.int 5, .int 4, .int 6]) (rest := []) (r_isIn_y (v := 5) (a := 4) (b := 6) (by decide)) rfl (Nat.le_of_ble_eq_true rfl) ⟨Nat.le_of_ble_eq_true rfl, Nat.le_of_ble_eq_true rfl⟩ ⟨Nat.le_of_ble_eq_true rfl, Nat.le_of_ble_eq_true rfl⟩ ?_
  show vm_J _ _ _ (34, (0, 0), [.ref 152, .int 5], [.int 1]) (G, (vm_up I 152 40 0), F) _ _
  refine vm_J.go vm_q265 (k := 1) (hs := []) (f' := (bif vm_ic .eq 1 0 then 46 else 37, (0, 0), [.ref 152, .int 5], [])) (h' := (G, (vm_up I 152 40 0), F)) (hs' := []) rfl rfl ?_
  refine vm_J.bF (by decide) ?_
  refine vm_J.go vm_q265 (k := 4) (hs := []) (f' := (41, (0, 0), [.ref 152, .int 5], [.int (5 - 4), .ref 152])) (h' := (G, (vm_up I 152 40 0), F)) (hs' := []) rfl rfl ?_
  rw [(show (5 - 4 : Int32) = 1 from by decide)]
  refine vm_J.call vm_q265 (Z := vm_M256) (n := 1) (k := 0) (mi := 256) (pc := 41) (en := (41, .invokevirtual 427, 3, [256, 1676, 0], .null)) rfl trivial rfl rfl vm_z256 (av := [.ref 152, .int 1]) (rest := []) (r_shOn (s := 0) (w := w) (h := h) (c := 1) hR (vm_up_h _ 152 40 _) (Eq.trans (congrFun (vm_up_f _ 152 _ _ 173 (by decide)) 0) hw) (Eq.trans (congrFun (vm_up_f _ 152 _ _ 174 (by decide)) 0) hh) (by omega) (by omega) (by omega)) ⟨_, _, rfl, rfl, _, 11, _, hR.c152, rfl, rfl, rfl⟩ (Nat.le_of_ble_eq_true rfl) ⟨Nat.le_of_ble_eq_true rfl, Nat.le_of_ble_eq_true rfl⟩ ⟨Nat.le_of_ble_eq_true rfl, Nat.le_of_ble_eq_true rfl⟩ ?_
  show vm_J _ _ _ (44, (0, 0), [.ref 152, .int 5], [.int (sp_sum (fun y => sp_sh (fun z => (vm_up I 152 40 0) 178 (144 * 0 + z)) (fun z => (vm_up I 152 40 0) 176 (144 * 0 + z)) 1 y) (w * h))]) (G, (vm_up I 152 40 0), F) _ _
  refine vm_J.go vm_q265 (k := 1) (hs := []) (f' := (45, (0, 0), [.ref 152, .int 5], [.long ((sp_sum (fun y => sp_sh (fun z => (vm_up I 152 40 0) 178 (144 * 0 + z)) (fun z => (vm_up I 152 40 0) 176 (144 * 0 + z)) 1 y) (w * h)).toInt64)])) (h' := (G, (vm_up I 152 40 0), F)) (hs' := []) rfl rfl ?_
  exact vm_J.end vm_q265 (en := (45, .lreturn, 1, [], .null)) rfl rfl vm_rL (Nat.zero_le _) (Nat.zero_le _) rfl
set_option maxHeartbeats 4000000 in
set_option maxRecDepth 20000 in
/-- DitherDeskModel.sum -/
theorem r_sum_6 {l : Launch} {X : vm_Cx} {G : List vm_Sh} {I : Nat → Nat → Int32} {F : Nat → Nat → UInt32} {w : Nat} {h : Nat} (hR : vm_isR G) (hw : I 173 0 = nI w) (hh : I 174 0 = nI h) (hw2 : w ≤ 12) (hh2 : h ≤ 12) (hw0 : 0 < w) : vm_K l X vm_M265 [.ref 152, .int 6] (G, I, F) (some (.long ((sp_sum (fun y => sp_sh (fun z => I 178 (144 * 0 + z)) (fun z => I 176 (144 * 0 + z)) 2 y) (w * h)).toInt64))) (G, (vm_up I 152 40 0), F) := by
  refine vm_K.mk (by decide) (Nat.le_of_ble_eq_true rfl) ?_
  show vm_J _ _ _ (0, (0, 0), [.ref 152, .int 6], []) _ _ _
  refine vm_J.go vm_q265 (k := 1) (hs := []) (f' := (1, (0, 0), [.ref 152, .int 6], [.ref 152])) (h' := (G, I, F)) (hs' := []) rfl rfl ?_
  refine vm_J.call vm_q265 (Z := vm_M262) (n := 0) (k := 0) (mi := 262) (pc := 1) (en := (1, .invokevirtual 424, 3, [262, 1660, 0], .null)) rfl trivial rfl rfl vm_z262 (av := [.ref 152]) (rest := []) (r_isMade_y hR hw hw2 hw0) ⟨_, _, rfl, rfl, _, 11, _, hR.c152, rfl, rfl, rfl⟩ (Nat.le_of_ble_eq_true rfl) ⟨Nat.le_of_ble_eq_true rfl, Nat.le_of_ble_eq_true rfl⟩ ⟨Nat.le_of_ble_eq_true rfl, Nat.le_of_ble_eq_true rfl⟩ ?_
  show vm_J _ _ _ (4, (0, 0), [.ref 152, .int 6], [.int 1]) (G, (vm_up I 152 40 0), F) _ _
  refine vm_J.go vm_q265 (k := 1) (hs := []) (f' := (bif vm_ic .ne 1 0 then 11 else 7, (0, 0), [.ref 152, .int 6], [])) (h' := (G, (vm_up I 152 40 0), F)) (hs' := []) rfl rfl ?_
  refine vm_J.bT (by decide) ?_
  refine vm_J.go vm_q265 (k := 3) (hs := []) (f' := (14, (0, 0), [.ref 152, .int 6], [.int 2, .int 0, .int 6])) (h' := (G, (vm_up I 152 40 0), F)) (hs' := []) rfl rfl ?_
  refine vm_J.call vm_q265 (Z := vm_M168) (n := 3) (k := 1) (mi := 168) (pc := 14) (en := (14, .invokestatic 141, 3, [168, 1302, 0], .null)) rfl trivial rfl rfl vm_z168 (av := [.int 6, .int 0, .int 2]) (rest := []) (r_isIn_n (v := 6) (a := 0) (b := 2) (by decide)) rfl (Nat.le_of_ble_eq_true rfl) ⟨Nat.le_of_ble_eq_true rfl, Nat.le_of_ble_eq_true rfl⟩ ⟨Nat.le_of_ble_eq_true rfl, Nat.le_of_ble_eq_true rfl⟩ ?_
  show vm_J _ _ _ (17, (0, 0), [.ref 152, .int 6], [.int 0]) (G, (vm_up I 152 40 0), F) _ _
  refine vm_J.go vm_q265 (k := 1) (hs := []) (f' := (bif vm_ic .eq 0 0 then 27 else 20, (0, 0), [.ref 152, .int 6], [])) (h' := (G, (vm_up I 152 40 0), F)) (hs' := []) rfl rfl ?_
  refine vm_J.bT (by decide) ?_
  refine vm_J.go vm_q265 (k := 3) (hs := []) (f' := (31, (0, 0), [.ref 152, .int 6], [.int 6, .int 4, .int 6])) (h' := (G, (vm_up I 152 40 0), F)) (hs' := []) rfl rfl ?_
  refine vm_J.call vm_q265 (Z := vm_M168) (n := 3) (k := 1) (mi := 168) (pc := 31) (en := (31, .invokestatic 141, 3, [168, 1302, 0], .null)) rfl trivial rfl rfl vm_z168 (av := [.int 6, .int 4, .int 6]) (rest := []) (r_isIn_y (v := 6) (a := 4) (b := 6) (by decide)) rfl (Nat.le_of_ble_eq_true rfl) ⟨Nat.le_of_ble_eq_true rfl, Nat.le_of_ble_eq_true rfl⟩ ⟨Nat.le_of_ble_eq_true rfl, Nat.le_of_ble_eq_true rfl⟩ ?_
  show vm_J _ _ _ (34, (0, 0), [.ref 152, .int 6], [.int 1]) (G, (vm_up I 152 40 0), F) _ _
  refine vm_J.go vm_q265 (k := 1) (hs := []) (f' := (bif vm_ic .eq 1 0 then 46 else 37, (0, 0), [.ref 152, .int 6], [])) (h' := (G, (vm_up I 152 40 0), F)) (hs' := []) rfl rfl ?_
  refine vm_J.bF (by decide) ?_
  refine vm_J.go vm_q265 (k := 4) (hs := []) (f' := (41, (0, 0), [.ref 152, .int 6], [.int (6 - 4), .ref 152])) (h' := (G, (vm_up I 152 40 0), F)) (hs' := []) rfl rfl ?_
  rw [(show (6 - 4 : Int32) = 2 from by decide)]
  refine vm_J.call vm_q265 (Z := vm_M256) (n := 1) (k := 0) (mi := 256) (pc := 41) (en := (41, .invokevirtual 427, 3, [256, 1676, 0], .null)) rfl trivial rfl rfl vm_z256 (av := [.ref 152, .int 2]) (rest := []) (r_shOn (s := 0) (w := w) (h := h) (c := 2) hR (vm_up_h _ 152 40 _) (Eq.trans (congrFun (vm_up_f _ 152 _ _ 173 (by decide)) 0) hw) (Eq.trans (congrFun (vm_up_f _ 152 _ _ 174 (by decide)) 0) hh) (by omega) (by omega) (by omega)) ⟨_, _, rfl, rfl, _, 11, _, hR.c152, rfl, rfl, rfl⟩ (Nat.le_of_ble_eq_true rfl) ⟨Nat.le_of_ble_eq_true rfl, Nat.le_of_ble_eq_true rfl⟩ ⟨Nat.le_of_ble_eq_true rfl, Nat.le_of_ble_eq_true rfl⟩ ?_
  show vm_J _ _ _ (44, (0, 0), [.ref 152, .int 6], [.int (sp_sum (fun y => sp_sh (fun z => (vm_up I 152 40 0) 178 (144 * 0 + z)) (fun z => (vm_up I 152 40 0) 176 (144 * 0 + z)) 2 y) (w * h))]) (G, (vm_up I 152 40 0), F) _ _
  refine vm_J.go vm_q265 (k := 1) (hs := []) (f' := (45, (0, 0), [.ref 152, .int 6], [.long ((sp_sum (fun y => sp_sh (fun z => (vm_up I 152 40 0) 178 (144 * 0 + z)) (fun z => (vm_up I 152 40 0) 176 (144 * 0 + z)) 2 y) (w * h)).toInt64)])) (h' := (G, (vm_up I 152 40 0), F)) (hs' := []) rfl rfl ?_
  exact vm_J.end vm_q265 (en := (45, .lreturn, 1, [], .null)) rfl rfl vm_rL (Nat.zero_le _) (Nat.zero_le _) rfl
set_option maxHeartbeats 4000000 in
set_option maxRecDepth 20000 in
/-- DitherDeskModel.sum -/
theorem r_sum_7 {l : Launch} {X : vm_Cx} {G : List vm_Sh} {I : Nat → Nat → Int32} {F : Nat → Nat → UInt32} {w : Nat} {h : Nat} (hR : vm_isR G) (hw : I 173 0 = nI w) (hh : I 174 0 = nI h) (hw2 : w ≤ 12) (hh2 : h ≤ 12) (hw0 : 0 < w) : vm_K l X vm_M265 [.ref 152, .int 7] (G, I, F) (some (.long ((sp_ba (fun z => I 178 (144 * 0 + z)) (fun z => I 176 (144 * 0 + z)) w h).toInt64))) (G, (vm_up I 152 40 0), F) := by
  refine vm_K.mk (by decide) (Nat.le_of_ble_eq_true rfl) ?_
  show vm_J _ _ _ (0, (0, 0), [.ref 152, .int 7], []) _ _ _
  refine vm_J.go vm_q265 (k := 1) (hs := []) (f' := (1, (0, 0), [.ref 152, .int 7], [.ref 152])) (h' := (G, I, F)) (hs' := []) rfl rfl ?_
  refine vm_J.call vm_q265 (Z := vm_M262) (n := 0) (k := 0) (mi := 262) (pc := 1) (en := (1, .invokevirtual 424, 3, [262, 1660, 0], .null)) rfl trivial rfl rfl vm_z262 (av := [.ref 152]) (rest := []) (r_isMade_y hR hw hw2 hw0) ⟨_, _, rfl, rfl, _, 11, _, hR.c152, rfl, rfl, rfl⟩ (Nat.le_of_ble_eq_true rfl) ⟨Nat.le_of_ble_eq_true rfl, Nat.le_of_ble_eq_true rfl⟩ ⟨Nat.le_of_ble_eq_true rfl, Nat.le_of_ble_eq_true rfl⟩ ?_
  show vm_J _ _ _ (4, (0, 0), [.ref 152, .int 7], [.int 1]) (G, (vm_up I 152 40 0), F) _ _
  refine vm_J.go vm_q265 (k := 1) (hs := []) (f' := (bif vm_ic .ne 1 0 then 11 else 7, (0, 0), [.ref 152, .int 7], [])) (h' := (G, (vm_up I 152 40 0), F)) (hs' := []) rfl rfl ?_
  refine vm_J.bT (by decide) ?_
  refine vm_J.go vm_q265 (k := 3) (hs := []) (f' := (14, (0, 0), [.ref 152, .int 7], [.int 2, .int 0, .int 7])) (h' := (G, (vm_up I 152 40 0), F)) (hs' := []) rfl rfl ?_
  refine vm_J.call vm_q265 (Z := vm_M168) (n := 3) (k := 1) (mi := 168) (pc := 14) (en := (14, .invokestatic 141, 3, [168, 1302, 0], .null)) rfl trivial rfl rfl vm_z168 (av := [.int 7, .int 0, .int 2]) (rest := []) (r_isIn_n (v := 7) (a := 0) (b := 2) (by decide)) rfl (Nat.le_of_ble_eq_true rfl) ⟨Nat.le_of_ble_eq_true rfl, Nat.le_of_ble_eq_true rfl⟩ ⟨Nat.le_of_ble_eq_true rfl, Nat.le_of_ble_eq_true rfl⟩ ?_
  show vm_J _ _ _ (17, (0, 0), [.ref 152, .int 7], [.int 0]) (G, (vm_up I 152 40 0), F) _ _
  refine vm_J.go vm_q265 (k := 1) (hs := []) (f' := (bif vm_ic .eq 0 0 then 27 else 20, (0, 0), [.ref 152, .int 7], [])) (h' := (G, (vm_up I 152 40 0), F)) (hs' := []) rfl rfl ?_
  refine vm_J.bT (by decide) ?_
  refine vm_J.go vm_q265 (k := 3) (hs := []) (f' := (31, (0, 0), [.ref 152, .int 7], [.int 6, .int 4, .int 7])) (h' := (G, (vm_up I 152 40 0), F)) (hs' := []) rfl rfl ?_
  refine vm_J.call vm_q265 (Z := vm_M168) (n := 3) (k := 1) (mi := 168) (pc := 31) (en := (31, .invokestatic 141, 3, [168, 1302, 0], .null)) rfl trivial rfl rfl vm_z168 (av := [.int 7, .int 4, .int 6]) (rest := []) (r_isIn_n (v := 7) (a := 4) (b := 6) (by decide)) rfl (Nat.le_of_ble_eq_true rfl) ⟨Nat.le_of_ble_eq_true rfl, Nat.le_of_ble_eq_true rfl⟩ ⟨Nat.le_of_ble_eq_true rfl, Nat.le_of_ble_eq_true rfl⟩ ?_
  show vm_J _ _ _ (34, (0, 0), [.ref 152, .int 7], [.int 0]) (G, (vm_up I 152 40 0), F) _ _
  refine vm_J.go vm_q265 (k := 1) (hs := []) (f' := (bif vm_ic .eq 0 0 then 46 else 37, (0, 0), [.ref 152, .int 7], [])) (h' := (G, (vm_up I 152 40 0), F)) (hs' := []) rfl rfl ?_
  refine vm_J.bT (by decide) ?_
  refine vm_J.go vm_q265 (k := 3) (hs := []) (f' := (51, (0, 0), [.ref 152, .int 7], [.int 12, .int 10, .int 7])) (h' := (G, (vm_up I 152 40 0), F)) (hs' := []) rfl rfl ?_
  refine vm_J.call vm_q265 (Z := vm_M168) (n := 3) (k := 1) (mi := 168) (pc := 51) (en := (51, .invokestatic 141, 3, [168, 1302, 0], .null)) rfl trivial rfl rfl vm_z168 (av := [.int 7, .int 10, .int 12]) (rest := []) (r_isIn_n (v := 7) (a := 10) (b := 12) (by decide)) rfl (Nat.le_of_ble_eq_true rfl) ⟨Nat.le_of_ble_eq_true rfl, Nat.le_of_ble_eq_true rfl⟩ ⟨Nat.le_of_ble_eq_true rfl, Nat.le_of_ble_eq_true rfl⟩ ?_
  show vm_J _ _ _ (54, (0, 0), [.ref 152, .int 7], [.int 0]) (G, (vm_up I 152 40 0), F) _ _
  refine vm_J.go vm_q265 (k := 1) (hs := []) (f' := (bif vm_ic .eq 0 0 then 71 else 57, (0, 0), [.ref 152, .int 7], [])) (h' := (G, (vm_up I 152 40 0), F)) (hs' := []) rfl rfl ?_
  refine vm_J.bT (by decide) ?_
  refine vm_J.go vm_q265 (k := 3) (hs := []) (f' := (147, (0, 0), [.ref 152, .int 7], [.ref 152])) (h' := (G, (vm_up I 152 40 0), F)) (hs' := []) rfl rfl ?_
  refine vm_J.call vm_q265 (Z := vm_M258) (n := 0) (k := 0) (mi := 258) (pc := 147) (en := (147, .invokevirtual 439, 3, [258, 1694, 0], .null)) rfl trivial rfl rfl vm_z258 (av := [.ref 152]) (rest := []) (r_blocks (s := 0) (w := w) (h := h) hR (vm_up_h _ 152 40 _) (Eq.trans (congrFun (vm_up_f _ 152 _ _ 173 (by decide)) 0) hw) (Eq.trans (congrFun (vm_up_f _ 152 _ _ 174 (by decide)) 0) hh) (by omega) (by omega) (by omega)) ⟨_, _, rfl, rfl, _, 11, _, hR.c152, rfl, rfl, rfl⟩ (Nat.le_of_ble_eq_true rfl) ⟨Nat.le_of_ble_eq_true rfl, Nat.le_of_ble_eq_true rfl⟩ ⟨Nat.le_of_ble_eq_true rfl, Nat.le_of_ble_eq_true rfl⟩ ?_
  show vm_J _ _ _ (150, (0, 0), [.ref 152, .int 7], [.int (sp_ba (fun z => (vm_up I 152 40 0) 178 (144 * 0 + z)) (fun z => (vm_up I 152 40 0) 176 (144 * 0 + z)) w h)]) (G, (vm_up I 152 40 0), F) _ _
  refine vm_J.go vm_q265 (k := 1) (hs := []) (f' := (151, (0, 0), [.ref 152, .int 7], [.long ((sp_ba (fun z => (vm_up I 152 40 0) 178 (144 * 0 + z)) (fun z => (vm_up I 152 40 0) 176 (144 * 0 + z)) w h).toInt64)])) (h' := (G, (vm_up I 152 40 0), F)) (hs' := []) rfl rfl ?_
  exact vm_J.end vm_q265 (en := (151, .lreturn, 1, [], .null)) rfl rfl vm_rL (Nat.zero_le _) (Nat.zero_le _) rfl
set_option maxHeartbeats 4000000 in
set_option maxRecDepth 20000 in
/-- DitherDeskModel.sum -/
theorem r_sum_8 {l : Launch} {X : vm_Cx} {G : List vm_Sh} {I : Nat → Nat → Int32} {F : Nat → Nat → UInt32} {w : Nat} {h : Nat} (hR : vm_isR G) (hw : I 173 0 = nI w) (hh : I 174 0 = nI h) (hw2 : w ≤ 12) (hh2 : h ≤ 12) (hw0 : 0 < w) : vm_K l X vm_M265 [.ref 152, .int 8] (G, I, F) (some (.long ((sp_sum (sp_rk (fun z => I 177 (144 * 0 + z)) w) (w * h)).toInt64))) (G, (vm_up I 152 40 0), F) := by
  refine vm_K.mk (by decide) (Nat.le_of_ble_eq_true rfl) ?_
  show vm_J _ _ _ (0, (0, 0), [.ref 152, .int 8], []) _ _ _
  refine vm_J.go vm_q265 (k := 1) (hs := []) (f' := (1, (0, 0), [.ref 152, .int 8], [.ref 152])) (h' := (G, I, F)) (hs' := []) rfl rfl ?_
  refine vm_J.call vm_q265 (Z := vm_M262) (n := 0) (k := 0) (mi := 262) (pc := 1) (en := (1, .invokevirtual 424, 3, [262, 1660, 0], .null)) rfl trivial rfl rfl vm_z262 (av := [.ref 152]) (rest := []) (r_isMade_y hR hw hw2 hw0) ⟨_, _, rfl, rfl, _, 11, _, hR.c152, rfl, rfl, rfl⟩ (Nat.le_of_ble_eq_true rfl) ⟨Nat.le_of_ble_eq_true rfl, Nat.le_of_ble_eq_true rfl⟩ ⟨Nat.le_of_ble_eq_true rfl, Nat.le_of_ble_eq_true rfl⟩ ?_
  show vm_J _ _ _ (4, (0, 0), [.ref 152, .int 8], [.int 1]) (G, (vm_up I 152 40 0), F) _ _
  refine vm_J.go vm_q265 (k := 1) (hs := []) (f' := (bif vm_ic .ne 1 0 then 11 else 7, (0, 0), [.ref 152, .int 8], [])) (h' := (G, (vm_up I 152 40 0), F)) (hs' := []) rfl rfl ?_
  refine vm_J.bT (by decide) ?_
  refine vm_J.go vm_q265 (k := 3) (hs := []) (f' := (14, (0, 0), [.ref 152, .int 8], [.int 2, .int 0, .int 8])) (h' := (G, (vm_up I 152 40 0), F)) (hs' := []) rfl rfl ?_
  refine vm_J.call vm_q265 (Z := vm_M168) (n := 3) (k := 1) (mi := 168) (pc := 14) (en := (14, .invokestatic 141, 3, [168, 1302, 0], .null)) rfl trivial rfl rfl vm_z168 (av := [.int 8, .int 0, .int 2]) (rest := []) (r_isIn_n (v := 8) (a := 0) (b := 2) (by decide)) rfl (Nat.le_of_ble_eq_true rfl) ⟨Nat.le_of_ble_eq_true rfl, Nat.le_of_ble_eq_true rfl⟩ ⟨Nat.le_of_ble_eq_true rfl, Nat.le_of_ble_eq_true rfl⟩ ?_
  show vm_J _ _ _ (17, (0, 0), [.ref 152, .int 8], [.int 0]) (G, (vm_up I 152 40 0), F) _ _
  refine vm_J.go vm_q265 (k := 1) (hs := []) (f' := (bif vm_ic .eq 0 0 then 27 else 20, (0, 0), [.ref 152, .int 8], [])) (h' := (G, (vm_up I 152 40 0), F)) (hs' := []) rfl rfl ?_
  refine vm_J.bT (by decide) ?_
  refine vm_J.go vm_q265 (k := 3) (hs := []) (f' := (31, (0, 0), [.ref 152, .int 8], [.int 6, .int 4, .int 8])) (h' := (G, (vm_up I 152 40 0), F)) (hs' := []) rfl rfl ?_
  refine vm_J.call vm_q265 (Z := vm_M168) (n := 3) (k := 1) (mi := 168) (pc := 31) (en := (31, .invokestatic 141, 3, [168, 1302, 0], .null)) rfl trivial rfl rfl vm_z168 (av := [.int 8, .int 4, .int 6]) (rest := []) (r_isIn_n (v := 8) (a := 4) (b := 6) (by decide)) rfl (Nat.le_of_ble_eq_true rfl) ⟨Nat.le_of_ble_eq_true rfl, Nat.le_of_ble_eq_true rfl⟩ ⟨Nat.le_of_ble_eq_true rfl, Nat.le_of_ble_eq_true rfl⟩ ?_
  show vm_J _ _ _ (34, (0, 0), [.ref 152, .int 8], [.int 0]) (G, (vm_up I 152 40 0), F) _ _
  refine vm_J.go vm_q265 (k := 1) (hs := []) (f' := (bif vm_ic .eq 0 0 then 46 else 37, (0, 0), [.ref 152, .int 8], [])) (h' := (G, (vm_up I 152 40 0), F)) (hs' := []) rfl rfl ?_
  refine vm_J.bT (by decide) ?_
  refine vm_J.go vm_q265 (k := 3) (hs := []) (f' := (51, (0, 0), [.ref 152, .int 8], [.int 12, .int 10, .int 8])) (h' := (G, (vm_up I 152 40 0), F)) (hs' := []) rfl rfl ?_
  refine vm_J.call vm_q265 (Z := vm_M168) (n := 3) (k := 1) (mi := 168) (pc := 51) (en := (51, .invokestatic 141, 3, [168, 1302, 0], .null)) rfl trivial rfl rfl vm_z168 (av := [.int 8, .int 10, .int 12]) (rest := []) (r_isIn_n (v := 8) (a := 10) (b := 12) (by decide)) rfl (Nat.le_of_ble_eq_true rfl) ⟨Nat.le_of_ble_eq_true rfl, Nat.le_of_ble_eq_true rfl⟩ ⟨Nat.le_of_ble_eq_true rfl, Nat.le_of_ble_eq_true rfl⟩ ?_
  show vm_J _ _ _ (54, (0, 0), [.ref 152, .int 8], [.int 0]) (G, (vm_up I 152 40 0), F) _ _
  refine vm_J.go vm_q265 (k := 1) (hs := []) (f' := (bif vm_ic .eq 0 0 then 71 else 57, (0, 0), [.ref 152, .int 8], [])) (h' := (G, (vm_up I 152 40 0), F)) (hs' := []) rfl rfl ?_
  refine vm_J.bT (by decide) ?_
  refine vm_J.go vm_q265 (k := 3) (hs := []) (f' := (153, (0, 0), [.ref 152, .int 8], [.ref 152])) (h' := (G, (vm_up I 152 40 0), F)) (hs' := []) rfl rfl ?_
  refine vm_J.call vm_q265 (Z := vm_M259) (n := 0) (k := 0) (mi := 259) (pc := 153) (en := (153, .invokevirtual 442, 3, [259, 1702, 0], .null)) rfl trivial rfl rfl vm_z259 (av := [.ref 152]) (rest := []) (r_runs (s := 0) (w := w) (h := h) hR (vm_up_h _ 152 40 _) (Eq.trans (congrFun (vm_up_f _ 152 _ _ 173 (by decide)) 0) hw) (Eq.trans (congrFun (vm_up_f _ 152 _ _ 174 (by decide)) 0) hh) (by omega) (by omega) (by omega) (by omega)) ⟨_, _, rfl, rfl, _, 11, _, hR.c152, rfl, rfl, rfl⟩ (Nat.le_of_ble_eq_true rfl) ⟨Nat.le_of_ble_eq_true rfl, Nat.le_of_ble_eq_true rfl⟩ ⟨Nat.le_of_ble_eq_true rfl, Nat.le_of_ble_eq_true rfl⟩ ?_
  show vm_J _ _ _ (156, (0, 0), [.ref 152, .int 8], [.int (sp_sum (sp_rk (fun z => (vm_up I 152 40 0) 177 (144 * 0 + z)) w) (w * h))]) (G, (vm_up I 152 40 0), F) _ _
  refine vm_J.go vm_q265 (k := 1) (hs := []) (f' := (157, (0, 0), [.ref 152, .int 8], [.long ((sp_sum (sp_rk (fun z => (vm_up I 152 40 0) 177 (144 * 0 + z)) w) (w * h)).toInt64)])) (h' := (G, (vm_up I 152 40 0), F)) (hs' := []) rfl rfl ?_
  exact vm_J.end vm_q265 (en := (157, .lreturn, 1, [], .null)) rfl rfl vm_rL (Nat.zero_le _) (Nat.zero_le _) rfl
set_option maxHeartbeats 4000000 in
set_option maxRecDepth 20000 in
/-- DitherDeskModel.sum -/
theorem r_sum_9 {l : Launch} {X : vm_Cx} {G : List vm_Sh} {I : Nat → Nat → Int32} {F : Nat → Nat → UInt32} {w : Nat} {h : Nat} (hR : vm_isR G) (hw : I 173 0 = nI w) (hh : I 174 0 = nI h) (hw2 : w ≤ 12) (hh2 : h ≤ 12) (hw0 : 0 < w) : vm_K l X vm_M265 [.ref 152, .int 9] (G, I, F) (some (.long ((sp_sum (fun e => if 0 < sp_sum (fun y => if I 177 (144 * 0 + y) = nI e then 1 else 0) (w * h) then 1 else 0) 16).toInt64))) (G, (vm_up I 152 40 0), F) := by
  refine vm_K.mk (by decide) (Nat.le_of_ble_eq_true rfl) ?_
  show vm_J _ _ _ (0, (0, 0), [.ref 152, .int 9], []) _ _ _
  refine vm_J.go vm_q265 (k := 1) (hs := []) (f' := (1, (0, 0), [.ref 152, .int 9], [.ref 152])) (h' := (G, I, F)) (hs' := []) rfl rfl ?_
  refine vm_J.call vm_q265 (Z := vm_M262) (n := 0) (k := 0) (mi := 262) (pc := 1) (en := (1, .invokevirtual 424, 3, [262, 1660, 0], .null)) rfl trivial rfl rfl vm_z262 (av := [.ref 152]) (rest := []) (r_isMade_y hR hw hw2 hw0) ⟨_, _, rfl, rfl, _, 11, _, hR.c152, rfl, rfl, rfl⟩ (Nat.le_of_ble_eq_true rfl) ⟨Nat.le_of_ble_eq_true rfl, Nat.le_of_ble_eq_true rfl⟩ ⟨Nat.le_of_ble_eq_true rfl, Nat.le_of_ble_eq_true rfl⟩ ?_
  show vm_J _ _ _ (4, (0, 0), [.ref 152, .int 9], [.int 1]) (G, (vm_up I 152 40 0), F) _ _
  refine vm_J.go vm_q265 (k := 1) (hs := []) (f' := (bif vm_ic .ne 1 0 then 11 else 7, (0, 0), [.ref 152, .int 9], [])) (h' := (G, (vm_up I 152 40 0), F)) (hs' := []) rfl rfl ?_
  refine vm_J.bT (by decide) ?_
  refine vm_J.go vm_q265 (k := 3) (hs := []) (f' := (14, (0, 0), [.ref 152, .int 9], [.int 2, .int 0, .int 9])) (h' := (G, (vm_up I 152 40 0), F)) (hs' := []) rfl rfl ?_
  refine vm_J.call vm_q265 (Z := vm_M168) (n := 3) (k := 1) (mi := 168) (pc := 14) (en := (14, .invokestatic 141, 3, [168, 1302, 0], .null)) rfl trivial rfl rfl vm_z168 (av := [.int 9, .int 0, .int 2]) (rest := []) (r_isIn_n (v := 9) (a := 0) (b := 2) (by decide)) rfl (Nat.le_of_ble_eq_true rfl) ⟨Nat.le_of_ble_eq_true rfl, Nat.le_of_ble_eq_true rfl⟩ ⟨Nat.le_of_ble_eq_true rfl, Nat.le_of_ble_eq_true rfl⟩ ?_
  show vm_J _ _ _ (17, (0, 0), [.ref 152, .int 9], [.int 0]) (G, (vm_up I 152 40 0), F) _ _
  refine vm_J.go vm_q265 (k := 1) (hs := []) (f' := (bif vm_ic .eq 0 0 then 27 else 20, (0, 0), [.ref 152, .int 9], [])) (h' := (G, (vm_up I 152 40 0), F)) (hs' := []) rfl rfl ?_
  refine vm_J.bT (by decide) ?_
  refine vm_J.go vm_q265 (k := 3) (hs := []) (f' := (31, (0, 0), [.ref 152, .int 9], [.int 6, .int 4, .int 9])) (h' := (G, (vm_up I 152 40 0), F)) (hs' := []) rfl rfl ?_
  refine vm_J.call vm_q265 (Z := vm_M168) (n := 3) (k := 1) (mi := 168) (pc := 31) (en := (31, .invokestatic 141, 3, [168, 1302, 0], .null)) rfl trivial rfl rfl vm_z168 (av := [.int 9, .int 4, .int 6]) (rest := []) (r_isIn_n (v := 9) (a := 4) (b := 6) (by decide)) rfl (Nat.le_of_ble_eq_true rfl) ⟨Nat.le_of_ble_eq_true rfl, Nat.le_of_ble_eq_true rfl⟩ ⟨Nat.le_of_ble_eq_true rfl, Nat.le_of_ble_eq_true rfl⟩ ?_
  show vm_J _ _ _ (34, (0, 0), [.ref 152, .int 9], [.int 0]) (G, (vm_up I 152 40 0), F) _ _
  refine vm_J.go vm_q265 (k := 1) (hs := []) (f' := (bif vm_ic .eq 0 0 then 46 else 37, (0, 0), [.ref 152, .int 9], [])) (h' := (G, (vm_up I 152 40 0), F)) (hs' := []) rfl rfl ?_
  refine vm_J.bT (by decide) ?_
  refine vm_J.go vm_q265 (k := 3) (hs := []) (f' := (51, (0, 0), [.ref 152, .int 9], [.int 12, .int 10, .int 9])) (h' := (G, (vm_up I 152 40 0), F)) (hs' := []) rfl rfl ?_
  refine vm_J.call vm_q265 (Z := vm_M168) (n := 3) (k := 1) (mi := 168) (pc := 51) (en := (51, .invokestatic 141, 3, [168, 1302, 0], .null)) rfl trivial rfl rfl vm_z168 (av := [.int 9, .int 10, .int 12]) (rest := []) (r_isIn_n (v := 9) (a := 10) (b := 12) (by decide)) rfl (Nat.le_of_ble_eq_true rfl) ⟨Nat.le_of_ble_eq_true rfl, Nat.le_of_ble_eq_true rfl⟩ ⟨Nat.le_of_ble_eq_true rfl, Nat.le_of_ble_eq_true rfl⟩ ?_
  show vm_J _ _ _ (54, (0, 0), [.ref 152, .int 9], [.int 0]) (G, (vm_up I 152 40 0), F) _ _
  refine vm_J.go vm_q265 (k := 1) (hs := []) (f' := (bif vm_ic .eq 0 0 then 71 else 57, (0, 0), [.ref 152, .int 9], [])) (h' := (G, (vm_up I 152 40 0), F)) (hs' := []) rfl rfl ?_
  refine vm_J.bT (by decide) ?_
  refine vm_J.go vm_q265 (k := 3) (hs := []) (f' := (159, (0, 0), [.ref 152, .int 9], [.ref 152])) (h' := (G, (vm_up I 152 40 0), F)) (hs' := []) rfl rfl ?_
  refine vm_J.call vm_q265 (Z := vm_M261) (n := 0) (k := 0) (mi := 261) (pc := 159) (en := (159, .invokevirtual 421, 3, [261, 1648, 0], .null)) rfl trivial rfl rfl vm_z261 (av := [.ref 152]) (rest := []) (r_unlike (s := 0) (w := w) (h := h) hR (vm_up_h _ 152 40 _) (Eq.trans (congrFun (vm_up_f _ 152 _ _ 173 (by decide)) 0) hw) (Eq.trans (congrFun (vm_up_f _ 152 _ _ 174 (by decide)) 0) hh) (by omega) (by omega) (by omega)) ⟨_, _, rfl, rfl, _, 11, _, hR.c152, rfl, rfl, rfl⟩ (Nat.le_of_ble_eq_true rfl) ⟨Nat.le_of_ble_eq_true rfl, Nat.le_of_ble_eq_true rfl⟩ ⟨Nat.le_of_ble_eq_true rfl, Nat.le_of_ble_eq_true rfl⟩ ?_
  show vm_J _ _ _ (162, (0, 0), [.ref 152, .int 9], [.int (sp_sum (fun e => if 0 < sp_sum (fun y => if (vm_up I 152 40 0) 177 (144 * 0 + y) = nI e then 1 else 0) (w * h) then 1 else 0) 16)]) (G, (vm_up I 152 40 0), F) _ _
  refine vm_J.go vm_q265 (k := 1) (hs := []) (f' := (163, (0, 0), [.ref 152, .int 9], [.long ((sp_sum (fun e => if 0 < sp_sum (fun y => if (vm_up I 152 40 0) 177 (144 * 0 + y) = nI e then 1 else 0) (w * h) then 1 else 0) 16).toInt64)])) (h' := (G, (vm_up I 152 40 0), F)) (hs' := []) rfl rfl ?_
  exact vm_J.end vm_q265 (en := (163, .lreturn, 1, [], .null)) rfl rfl vm_rL (Nat.zero_le _) (Nat.zero_le _) rfl
set_option maxHeartbeats 4000000 in
set_option maxRecDepth 20000 in
/-- DitherDeskModel.sum -/
theorem r_sum_13 {l : Launch} {X : vm_Cx} {G : List vm_Sh} {I : Nat → Nat → Int32} {F : Nat → Nat → UInt32} {w : Nat} {h : Nat} (hR : vm_isR G) (hw : I 173 0 = nI w) (hh : I 174 0 = nI h) (hw2 : w ≤ 12) (hh2 : h ≤ 12) (hw0 : 0 < w) : vm_K l X vm_M265 [.ref 152, .int 13] (G, I, F) (some (.long ((I 175 0).toInt64))) (G, (vm_up I 152 40 0), F) := by
  refine vm_K.mk (by decide) (Nat.le_of_ble_eq_true rfl) ?_
  show vm_J _ _ _ (0, (0, 0), [.ref 152, .int 13], []) _ _ _
  refine vm_J.go vm_q265 (k := 1) (hs := []) (f' := (1, (0, 0), [.ref 152, .int 13], [.ref 152])) (h' := (G, I, F)) (hs' := []) rfl rfl ?_
  refine vm_J.call vm_q265 (Z := vm_M262) (n := 0) (k := 0) (mi := 262) (pc := 1) (en := (1, .invokevirtual 424, 3, [262, 1660, 0], .null)) rfl trivial rfl rfl vm_z262 (av := [.ref 152]) (rest := []) (r_isMade_y hR hw hw2 hw0) ⟨_, _, rfl, rfl, _, 11, _, hR.c152, rfl, rfl, rfl⟩ (Nat.le_of_ble_eq_true rfl) ⟨Nat.le_of_ble_eq_true rfl, Nat.le_of_ble_eq_true rfl⟩ ⟨Nat.le_of_ble_eq_true rfl, Nat.le_of_ble_eq_true rfl⟩ ?_
  show vm_J _ _ _ (4, (0, 0), [.ref 152, .int 13], [.int 1]) (G, (vm_up I 152 40 0), F) _ _
  refine vm_J.go vm_q265 (k := 1) (hs := []) (f' := (bif vm_ic .ne 1 0 then 11 else 7, (0, 0), [.ref 152, .int 13], [])) (h' := (G, (vm_up I 152 40 0), F)) (hs' := []) rfl rfl ?_
  refine vm_J.bT (by decide) ?_
  refine vm_J.go vm_q265 (k := 3) (hs := []) (f' := (14, (0, 0), [.ref 152, .int 13], [.int 2, .int 0, .int 13])) (h' := (G, (vm_up I 152 40 0), F)) (hs' := []) rfl rfl ?_
  refine vm_J.call vm_q265 (Z := vm_M168) (n := 3) (k := 1) (mi := 168) (pc := 14) (en := (14, .invokestatic 141, 3, [168, 1302, 0], .null)) rfl trivial rfl rfl vm_z168 (av := [.int 13, .int 0, .int 2]) (rest := []) (r_isIn_n (v := 13) (a := 0) (b := 2) (by decide)) rfl (Nat.le_of_ble_eq_true rfl) ⟨Nat.le_of_ble_eq_true rfl, Nat.le_of_ble_eq_true rfl⟩ ⟨Nat.le_of_ble_eq_true rfl, Nat.le_of_ble_eq_true rfl⟩ ?_
  show vm_J _ _ _ (17, (0, 0), [.ref 152, .int 13], [.int 0]) (G, (vm_up I 152 40 0), F) _ _
  refine vm_J.go vm_q265 (k := 1) (hs := []) (f' := (bif vm_ic .eq 0 0 then 27 else 20, (0, 0), [.ref 152, .int 13], [])) (h' := (G, (vm_up I 152 40 0), F)) (hs' := []) rfl rfl ?_
  refine vm_J.bT (by decide) ?_
  refine vm_J.go vm_q265 (k := 3) (hs := []) (f' := (31, (0, 0), [.ref 152, .int 13], [.int 6, .int 4, .int 13])) (h' := (G, (vm_up I 152 40 0), F)) (hs' := []) rfl rfl ?_
  refine vm_J.call vm_q265 (Z := vm_M168) (n := 3) (k := 1) (mi := 168) (pc := 31) (en := (31, .invokestatic 141, 3, [168, 1302, 0], .null)) rfl trivial rfl rfl vm_z168 (av := [.int 13, .int 4, .int 6]) (rest := []) (r_isIn_n (v := 13) (a := 4) (b := 6) (by decide)) rfl (Nat.le_of_ble_eq_true rfl) ⟨Nat.le_of_ble_eq_true rfl, Nat.le_of_ble_eq_true rfl⟩ ⟨Nat.le_of_ble_eq_true rfl, Nat.le_of_ble_eq_true rfl⟩ ?_
  show vm_J _ _ _ (34, (0, 0), [.ref 152, .int 13], [.int 0]) (G, (vm_up I 152 40 0), F) _ _
  refine vm_J.go vm_q265 (k := 1) (hs := []) (f' := (bif vm_ic .eq 0 0 then 46 else 37, (0, 0), [.ref 152, .int 13], [])) (h' := (G, (vm_up I 152 40 0), F)) (hs' := []) rfl rfl ?_
  refine vm_J.bT (by decide) ?_
  refine vm_J.go vm_q265 (k := 3) (hs := []) (f' := (51, (0, 0), [.ref 152, .int 13], [.int 12, .int 10, .int 13])) (h' := (G, (vm_up I 152 40 0), F)) (hs' := []) rfl rfl ?_
  refine vm_J.call vm_q265 (Z := vm_M168) (n := 3) (k := 1) (mi := 168) (pc := 51) (en := (51, .invokestatic 141, 3, [168, 1302, 0], .null)) rfl trivial rfl rfl vm_z168 (av := [.int 13, .int 10, .int 12]) (rest := []) (r_isIn_n (v := 13) (a := 10) (b := 12) (by decide)) rfl (Nat.le_of_ble_eq_true rfl) ⟨Nat.le_of_ble_eq_true rfl, Nat.le_of_ble_eq_true rfl⟩ ⟨Nat.le_of_ble_eq_true rfl, Nat.le_of_ble_eq_true rfl⟩ ?_
  show vm_J _ _ _ (54, (0, 0), [.ref 152, .int 13], [.int 0]) (G, (vm_up I 152 40 0), F) _ _
  refine vm_J.go vm_q265 (k := 1) (hs := []) (f' := (bif vm_ic .eq 0 0 then 71 else 57, (0, 0), [.ref 152, .int 13], [])) (h' := (G, (vm_up I 152 40 0), F)) (hs' := []) rfl rfl ?_
  refine vm_J.bT (by decide) ?_
  refine vm_J.go vm_q265 (k := 6) (hs := [vm_shR, (0, 2, [])]) (f' := (170, (0, 0), [.ref 152, .int 13], [.int ((vm_up I 152 40 0) 175 0)])) (h' := (G, (vm_up I 152 40 0), F)) (hs' := []) rfl (vm_b2 rfl (vm_b2 rfl (vm_b2 rfl (vm_b2 (vm_b2 (vm_hG hR.c152) rfl) (vm_b2 rfl (vm_b2 (vm_b2 (vm_hG hR.c175) rfl) rfl)))))) ?_
  rw [((congrFun (vm_up_f _ 152 _ _ 175 (by decide)) 0) : (vm_up I 152 40 0) 175 0 = I 175 0)]
  refine vm_J.go vm_q265 (k := 1) (hs := []) (f' := (171, (0, 0), [.ref 152, .int 13], [.long ((I 175 0).toInt64)])) (h' := (G, (vm_up I 152 40 0), F)) (hs' := []) rfl rfl ?_
  exact vm_J.end vm_q265 (en := (171, .lreturn, 1, [], .null)) rfl rfl vm_rL (Nat.zero_le _) (Nat.zero_le _) rfl
set_option maxHeartbeats 4000000 in
set_option maxRecDepth 20000 in
/-- DitherDeskModel.sum -/
theorem r_sum_14 {l : Launch} {X : vm_Cx} {G : List vm_Sh} {I : Nat → Nat → Int32} {F : Nat → Nat → UInt32} {w : Nat} {h : Nat} (hR : vm_isR G) (hw : I 173 0 = nI w) (hh : I 174 0 = nI h) (hw2 : w ≤ 12) (hh2 : h ≤ 12) (hw0 : 0 < w) : vm_K l X vm_M265 [.ref 152, .int 14] (G, I, F) (some (.long ((nI w).toInt64))) (G, (vm_up I 152 40 0), F) := by
  refine vm_K.mk (by decide) (Nat.le_of_ble_eq_true rfl) ?_
  show vm_J _ _ _ (0, (0, 0), [.ref 152, .int 14], []) _ _ _
  refine vm_J.go vm_q265 (k := 1) (hs := []) (f' := (1, (0, 0), [.ref 152, .int 14], [.ref 152])) (h' := (G, I, F)) (hs' := []) rfl rfl ?_
  refine vm_J.call vm_q265 (Z := vm_M262) (n := 0) (k := 0) (mi := 262) (pc := 1) (en := (1, .invokevirtual 424, 3, [262, 1660, 0], .null)) rfl trivial rfl rfl vm_z262 (av := [.ref 152]) (rest := []) (r_isMade_y hR hw hw2 hw0) ⟨_, _, rfl, rfl, _, 11, _, hR.c152, rfl, rfl, rfl⟩ (Nat.le_of_ble_eq_true rfl) ⟨Nat.le_of_ble_eq_true rfl, Nat.le_of_ble_eq_true rfl⟩ ⟨Nat.le_of_ble_eq_true rfl, Nat.le_of_ble_eq_true rfl⟩ ?_
  show vm_J _ _ _ (4, (0, 0), [.ref 152, .int 14], [.int 1]) (G, (vm_up I 152 40 0), F) _ _
  refine vm_J.go vm_q265 (k := 1) (hs := []) (f' := (bif vm_ic .ne 1 0 then 11 else 7, (0, 0), [.ref 152, .int 14], [])) (h' := (G, (vm_up I 152 40 0), F)) (hs' := []) rfl rfl ?_
  refine vm_J.bT (by decide) ?_
  refine vm_J.go vm_q265 (k := 3) (hs := []) (f' := (14, (0, 0), [.ref 152, .int 14], [.int 2, .int 0, .int 14])) (h' := (G, (vm_up I 152 40 0), F)) (hs' := []) rfl rfl ?_
  refine vm_J.call vm_q265 (Z := vm_M168) (n := 3) (k := 1) (mi := 168) (pc := 14) (en := (14, .invokestatic 141, 3, [168, 1302, 0], .null)) rfl trivial rfl rfl vm_z168 (av := [.int 14, .int 0, .int 2]) (rest := []) (r_isIn_n (v := 14) (a := 0) (b := 2) (by decide)) rfl (Nat.le_of_ble_eq_true rfl) ⟨Nat.le_of_ble_eq_true rfl, Nat.le_of_ble_eq_true rfl⟩ ⟨Nat.le_of_ble_eq_true rfl, Nat.le_of_ble_eq_true rfl⟩ ?_
  show vm_J _ _ _ (17, (0, 0), [.ref 152, .int 14], [.int 0]) (G, (vm_up I 152 40 0), F) _ _
  refine vm_J.go vm_q265 (k := 1) (hs := []) (f' := (bif vm_ic .eq 0 0 then 27 else 20, (0, 0), [.ref 152, .int 14], [])) (h' := (G, (vm_up I 152 40 0), F)) (hs' := []) rfl rfl ?_
  refine vm_J.bT (by decide) ?_
  refine vm_J.go vm_q265 (k := 3) (hs := []) (f' := (31, (0, 0), [.ref 152, .int 14], [.int 6, .int 4, .int 14])) (h' := (G, (vm_up I 152 40 0), F)) (hs' := []) rfl rfl ?_
  refine vm_J.call vm_q265 (Z := vm_M168) (n := 3) (k := 1) (mi := 168) (pc := 31) (en := (31, .invokestatic 141, 3, [168, 1302, 0], .null)) rfl trivial rfl rfl vm_z168 (av := [.int 14, .int 4, .int 6]) (rest := []) (r_isIn_n (v := 14) (a := 4) (b := 6) (by decide)) rfl (Nat.le_of_ble_eq_true rfl) ⟨Nat.le_of_ble_eq_true rfl, Nat.le_of_ble_eq_true rfl⟩ ⟨Nat.le_of_ble_eq_true rfl, Nat.le_of_ble_eq_true rfl⟩ ?_
  show vm_J _ _ _ (34, (0, 0), [.ref 152, .int 14], [.int 0]) (G, (vm_up I 152 40 0), F) _ _
  refine vm_J.go vm_q265 (k := 1) (hs := []) (f' := (bif vm_ic .eq 0 0 then 46 else 37, (0, 0), [.ref 152, .int 14], [])) (h' := (G, (vm_up I 152 40 0), F)) (hs' := []) rfl rfl ?_
  refine vm_J.bT (by decide) ?_
  refine vm_J.go vm_q265 (k := 3) (hs := []) (f' := (51, (0, 0), [.ref 152, .int 14], [.int 12, .int 10, .int 14])) (h' := (G, (vm_up I 152 40 0), F)) (hs' := []) rfl rfl ?_
  refine vm_J.call vm_q265 (Z := vm_M168) (n := 3) (k := 1) (mi := 168) (pc := 51) (en := (51, .invokestatic 141, 3, [168, 1302, 0], .null)) rfl trivial rfl rfl vm_z168 (av := [.int 14, .int 10, .int 12]) (rest := []) (r_isIn_n (v := 14) (a := 10) (b := 12) (by decide)) rfl (Nat.le_of_ble_eq_true rfl) ⟨Nat.le_of_ble_eq_true rfl, Nat.le_of_ble_eq_true rfl⟩ ⟨Nat.le_of_ble_eq_true rfl, Nat.le_of_ble_eq_true rfl⟩ ?_
  show vm_J _ _ _ (54, (0, 0), [.ref 152, .int 14], [.int 0]) (G, (vm_up I 152 40 0), F) _ _
  refine vm_J.go vm_q265 (k := 1) (hs := []) (f' := (bif vm_ic .eq 0 0 then 71 else 57, (0, 0), [.ref 152, .int 14], [])) (h' := (G, (vm_up I 152 40 0), F)) (hs' := []) rfl rfl ?_
  refine vm_J.bT (by decide) ?_
  refine vm_J.go vm_q265 (k := 6) (hs := [vm_shR, (0, 2, [])]) (f' := (178, (0, 0), [.ref 152, .int 14], [.int ((vm_up I 152 40 0) 173 0)])) (h' := (G, (vm_up I 152 40 0), F)) (hs' := []) rfl (vm_b2 rfl (vm_b2 rfl (vm_b2 rfl (vm_b2 (vm_b2 (vm_hG hR.c152) rfl) (vm_b2 rfl (vm_b2 (vm_b2 (vm_hG hR.c173) rfl) rfl)))))) ?_
  rw [((Eq.trans (congrFun (vm_up_f _ 152 _ _ 173 (by decide)) 0) hw) : (vm_up I 152 40 0) 173 0 = nI w)]
  refine vm_J.go vm_q265 (k := 1) (hs := []) (f' := (179, (0, 0), [.ref 152, .int 14], [.long ((nI w).toInt64)])) (h' := (G, (vm_up I 152 40 0), F)) (hs' := []) rfl rfl ?_
  exact vm_J.end vm_q265 (en := (179, .lreturn, 1, [], .null)) rfl rfl vm_rL (Nat.zero_le _) (Nat.zero_le _) rfl
set_option maxHeartbeats 4000000 in
set_option maxRecDepth 20000 in
/-- DitherDeskModel.sum -/
theorem r_sum_15 {l : Launch} {X : vm_Cx} {G : List vm_Sh} {I : Nat → Nat → Int32} {F : Nat → Nat → UInt32} {w : Nat} {h : Nat} (hR : vm_isR G) (hw : I 173 0 = nI w) (hh : I 174 0 = nI h) (hw2 : w ≤ 12) (hh2 : h ≤ 12) (hw0 : 0 < w) : vm_K l X vm_M265 [.ref 152, .int 15] (G, I, F) (some (.long ((nI h).toInt64))) (G, (vm_up I 152 40 0), F) := by
  refine vm_K.mk (by decide) (Nat.le_of_ble_eq_true rfl) ?_
  show vm_J _ _ _ (0, (0, 0), [.ref 152, .int 15], []) _ _ _
  refine vm_J.go vm_q265 (k := 1) (hs := []) (f' := (1, (0, 0), [.ref 152, .int 15], [.ref 152])) (h' := (G, I, F)) (hs' := []) rfl rfl ?_
  refine vm_J.call vm_q265 (Z := vm_M262) (n := 0) (k := 0) (mi := 262) (pc := 1) (en := (1, .invokevirtual 424, 3, [262, 1660, 0], .null)) rfl trivial rfl rfl vm_z262 (av := [.ref 152]) (rest := []) (r_isMade_y hR hw hw2 hw0) ⟨_, _, rfl, rfl, _, 11, _, hR.c152, rfl, rfl, rfl⟩ (Nat.le_of_ble_eq_true rfl) ⟨Nat.le_of_ble_eq_true rfl, Nat.le_of_ble_eq_true rfl⟩ ⟨Nat.le_of_ble_eq_true rfl, Nat.le_of_ble_eq_true rfl⟩ ?_
  show vm_J _ _ _ (4, (0, 0), [.ref 152, .int 15], [.int 1]) (G, (vm_up I 152 40 0), F) _ _
  refine vm_J.go vm_q265 (k := 1) (hs := []) (f' := (bif vm_ic .ne 1 0 then 11 else 7, (0, 0), [.ref 152, .int 15], [])) (h' := (G, (vm_up I 152 40 0), F)) (hs' := []) rfl rfl ?_
  refine vm_J.bT (by decide) ?_
  refine vm_J.go vm_q265 (k := 3) (hs := []) (f' := (14, (0, 0), [.ref 152, .int 15], [.int 2, .int 0, .int 15])) (h' := (G, (vm_up I 152 40 0), F)) (hs' := []) rfl rfl ?_
  refine vm_J.call vm_q265 (Z := vm_M168) (n := 3) (k := 1) (mi := 168) (pc := 14) (en := (14, .invokestatic 141, 3, [168, 1302, 0], .null)) rfl trivial rfl rfl vm_z168 (av := [.int 15, .int 0, .int 2]) (rest := []) (r_isIn_n (v := 15) (a := 0) (b := 2) (by decide)) rfl (Nat.le_of_ble_eq_true rfl) ⟨Nat.le_of_ble_eq_true rfl, Nat.le_of_ble_eq_true rfl⟩ ⟨Nat.le_of_ble_eq_true rfl, Nat.le_of_ble_eq_true rfl⟩ ?_
  show vm_J _ _ _ (17, (0, 0), [.ref 152, .int 15], [.int 0]) (G, (vm_up I 152 40 0), F) _ _
  refine vm_J.go vm_q265 (k := 1) (hs := []) (f' := (bif vm_ic .eq 0 0 then 27 else 20, (0, 0), [.ref 152, .int 15], [])) (h' := (G, (vm_up I 152 40 0), F)) (hs' := []) rfl rfl ?_
  refine vm_J.bT (by decide) ?_
  refine vm_J.go vm_q265 (k := 3) (hs := []) (f' := (31, (0, 0), [.ref 152, .int 15], [.int 6, .int 4, .int 15])) (h' := (G, (vm_up I 152 40 0), F)) (hs' := []) rfl rfl ?_
  refine vm_J.call vm_q265 (Z := vm_M168) (n := 3) (k := 1) (mi := 168) (pc := 31) (en := (31, .invokestatic 141, 3, [168, 1302, 0], .null)) rfl trivial rfl rfl vm_z168 (av := [.int 15, .int 4, .int 6]) (rest := []) (r_isIn_n (v := 15) (a := 4) (b := 6) (by decide)) rfl (Nat.le_of_ble_eq_true rfl) ⟨Nat.le_of_ble_eq_true rfl, Nat.le_of_ble_eq_true rfl⟩ ⟨Nat.le_of_ble_eq_true rfl, Nat.le_of_ble_eq_true rfl⟩ ?_
  show vm_J _ _ _ (34, (0, 0), [.ref 152, .int 15], [.int 0]) (G, (vm_up I 152 40 0), F) _ _
  refine vm_J.go vm_q265 (k := 1) (hs := []) (f' := (bif vm_ic .eq 0 0 then 46 else 37, (0, 0), [.ref 152, .int 15], [])) (h' := (G, (vm_up I 152 40 0), F)) (hs' := []) rfl rfl ?_
  refine vm_J.bT (by decide) ?_
  refine vm_J.go vm_q265 (k := 3) (hs := []) (f' := (51, (0, 0), [.ref 152, .int 15], [.int 12, .int 10, .int 15])) (h' := (G, (vm_up I 152 40 0), F)) (hs' := []) rfl rfl ?_
  refine vm_J.call vm_q265 (Z := vm_M168) (n := 3) (k := 1) (mi := 168) (pc := 51) (en := (51, .invokestatic 141, 3, [168, 1302, 0], .null)) rfl trivial rfl rfl vm_z168 (av := [.int 15, .int 10, .int 12]) (rest := []) (r_isIn_n (v := 15) (a := 10) (b := 12) (by decide)) rfl (Nat.le_of_ble_eq_true rfl) ⟨Nat.le_of_ble_eq_true rfl, Nat.le_of_ble_eq_true rfl⟩ ⟨Nat.le_of_ble_eq_true rfl, Nat.le_of_ble_eq_true rfl⟩ ?_
  show vm_J _ _ _ (54, (0, 0), [.ref 152, .int 15], [.int 0]) (G, (vm_up I 152 40 0), F) _ _
  refine vm_J.go vm_q265 (k := 1) (hs := []) (f' := (bif vm_ic .eq 0 0 then 71 else 57, (0, 0), [.ref 152, .int 15], [])) (h' := (G, (vm_up I 152 40 0), F)) (hs' := []) rfl rfl ?_
  refine vm_J.bT (by decide) ?_
  refine vm_J.go vm_q265 (k := 6) (hs := [vm_shR, (0, 2, [])]) (f' := (186, (0, 0), [.ref 152, .int 15], [.int ((vm_up I 152 40 0) 174 0)])) (h' := (G, (vm_up I 152 40 0), F)) (hs' := []) rfl (vm_b2 rfl (vm_b2 rfl (vm_b2 rfl (vm_b2 (vm_b2 (vm_hG hR.c152) rfl) (vm_b2 rfl (vm_b2 (vm_b2 (vm_hG hR.c174) rfl) rfl)))))) ?_
  rw [((Eq.trans (congrFun (vm_up_f _ 152 _ _ 174 (by decide)) 0) hh) : (vm_up I 152 40 0) 174 0 = nI h)]
  refine vm_J.go vm_q265 (k := 1) (hs := []) (f' := (187, (0, 0), [.ref 152, .int 15], [.long ((nI h).toInt64)])) (h' := (G, (vm_up I 152 40 0), F)) (hs' := []) rfl rfl ?_
  exact vm_J.end vm_q265 (en := (187, .lreturn, 1, [], .null)) rfl rfl vm_rL (Nat.zero_le _) (Nat.zero_le _) rfl
set_option maxHeartbeats 4000000 in
set_option maxRecDepth 20000 in
/-- DitherDeskModel.used -/
theorem r_used_b {l : Launch} {X : vm_Cx} {G : List vm_Sh} {I : Nat → Nat → Int32} {F : Nat → Nat → UInt32} {e : Int32} (hR : vm_isR G) (he : ¬ (0 ≤ e ∧ e ≤ 15)) : vm_K l X vm_M266 [.ref 152, .int e] (G, I, F) (some (.int (-2))) (G, I, F) := by
  refine vm_K.mk (by decide) (Nat.le_of_ble_eq_true rfl) ?_
  show vm_J _ _ _ (0, (0, 0), [.ref 152, .int e], []) _ _ _
  refine vm_J.go vm_q266 (k := 3) (hs := []) (f' := (4, (0, 0), [.ref 152, .int e], [.int 15, .int 0, .int e])) (h' := (G, I, F)) (hs' := []) rfl rfl ?_
  refine vm_J.call vm_q266 (Z := vm_M168) (n := 3) (k := 1) (mi := 168) (pc := 4) (en := (4, .invokestatic 141, 3, [168, 1302, 0], .null)) rfl trivial rfl rfl vm_z168 (av := [.int e, .int 0, .int 15]) (rest := []) (r_isIn_n (v := e) (a := 0) (b := 15) he) rfl (Nat.le_of_ble_eq_true rfl) ⟨Nat.le_of_ble_eq_true rfl, Nat.le_of_ble_eq_true rfl⟩ ⟨Nat.le_of_ble_eq_true rfl, Nat.le_of_ble_eq_true rfl⟩ ?_
  show vm_J _ _ _ (7, (0, 0), [.ref 152, .int e], [.int 0]) (G, I, F) _ _
  refine vm_J.go vm_q266 (k := 1) (hs := []) (f' := (bif vm_ic .ne 0 0 then 13 else 10, (0, 0), [.ref 152, .int e], [])) (h' := (G, I, F)) (hs' := []) rfl rfl ?_
  refine vm_J.bF (by decide) ?_
  refine vm_J.go vm_q266 (k := 1) (hs := []) (f' := (12, (0, 0), [.ref 152, .int e], [.int (-2)])) (h' := (G, I, F)) (hs' := []) rfl rfl ?_
  exact vm_J.end vm_q266 (en := (12, .ireturn, 1, [], .null)) rfl rfl vm_rI (Nat.zero_le _) (Nat.zero_le _) rfl
set_option maxHeartbeats 4000000 in
set_option maxRecDepth 20000 in
/-- DitherDeskModel.used -/
theorem r_used_n {l : Launch} {X : vm_Cx} {G : List vm_Sh} {I : Nat → Nat → Int32} {F : Nat → Nat → UInt32} {w : Nat} {e : Int32} (hR : vm_isR G) (hw : I 173 0 = nI w) (hw2 : w = 0) (he : 0 ≤ e ∧ e ≤ 15) : vm_K l X vm_M266 [.ref 152, .int e] (G, I, F) (some (.int (-3))) (G, (vm_up I 152 40 0), F) := by
  refine vm_K.mk (by decide) (Nat.le_of_ble_eq_true rfl) ?_
  show vm_J _ _ _ (0, (0, 0), [.ref 152, .int e], []) _ _ _
  refine vm_J.go vm_q266 (k := 3) (hs := []) (f' := (4, (0, 0), [.ref 152, .int e], [.int 15, .int 0, .int e])) (h' := (G, I, F)) (hs' := []) rfl rfl ?_
  refine vm_J.call vm_q266 (Z := vm_M168) (n := 3) (k := 1) (mi := 168) (pc := 4) (en := (4, .invokestatic 141, 3, [168, 1302, 0], .null)) rfl trivial rfl rfl vm_z168 (av := [.int e, .int 0, .int 15]) (rest := []) (r_isIn_y (v := e) (a := 0) (b := 15) he) rfl (Nat.le_of_ble_eq_true rfl) ⟨Nat.le_of_ble_eq_true rfl, Nat.le_of_ble_eq_true rfl⟩ ⟨Nat.le_of_ble_eq_true rfl, Nat.le_of_ble_eq_true rfl⟩ ?_
  show vm_J _ _ _ (7, (0, 0), [.ref 152, .int e], [.int 1]) (G, I, F) _ _
  refine vm_J.go vm_q266 (k := 1) (hs := []) (f' := (bif vm_ic .ne 1 0 then 13 else 10, (0, 0), [.ref 152, .int e], [])) (h' := (G, I, F)) (hs' := []) rfl rfl ?_
  refine vm_J.bT (by decide) ?_
  refine vm_J.go vm_q266 (k := 1) (hs := []) (f' := (14, (0, 0), [.ref 152, .int e], [.ref 152])) (h' := (G, I, F)) (hs' := []) rfl rfl ?_
  refine vm_J.call vm_q266 (Z := vm_M262) (n := 0) (k := 0) (mi := 262) (pc := 14) (en := (14, .invokevirtual 424, 3, [262, 1660, 0], .null)) rfl trivial rfl rfl vm_z262 (av := [.ref 152]) (rest := []) (r_isMade_n hR hw hw2) ⟨_, _, rfl, rfl, _, 11, _, hR.c152, rfl, rfl, rfl⟩ (Nat.le_of_ble_eq_true rfl) ⟨Nat.le_of_ble_eq_true rfl, Nat.le_of_ble_eq_true rfl⟩ ⟨Nat.le_of_ble_eq_true rfl, Nat.le_of_ble_eq_true rfl⟩ ?_
  show vm_J _ _ _ (17, (0, 0), [.ref 152, .int e], [.int 0]) (G, (vm_up I 152 40 0), F) _ _
  refine vm_J.go vm_q266 (k := 1) (hs := []) (f' := (bif vm_ic .eq 0 0 then 28 else 20, (0, 0), [.ref 152, .int e], [])) (h' := (G, (vm_up I 152 40 0), F)) (hs' := []) rfl rfl ?_
  refine vm_J.bT (by decide) ?_
  refine vm_J.go vm_q266 (k := 1) (hs := []) (f' := (30, (0, 0), [.ref 152, .int e], [.int (-3)])) (h' := (G, (vm_up I 152 40 0), F)) (hs' := []) rfl rfl ?_
  exact vm_J.end vm_q266 (en := (30, .ireturn, 1, [], .null)) rfl rfl vm_rI (Nat.zero_le _) (Nat.zero_le _) rfl
set_option maxHeartbeats 4000000 in
set_option maxRecDepth 20000 in
/-- DitherDeskModel.used -/
theorem r_used_y {l : Launch} {X : vm_Cx} {G : List vm_Sh} {I : Nat → Nat → Int32} {F : Nat → Nat → UInt32} {w : Nat} {h : Nat} {e : Int32} (hR : vm_isR G) (hw : I 173 0 = nI w) (hh : I 174 0 = nI h) (hw2 : w ≤ 12) (hh2 : h ≤ 12) (hw0 : 0 < w) (he : 0 ≤ e ∧ e ≤ 15) : vm_K l X vm_M266 [.ref 152, .int e] (G, I, F) (some (.int (sp_sum (fun y => if I 177 (144 * 0 + y) = e then 1 else 0) (w * h)))) (G, (vm_up I 152 40 0), F) := by
  refine vm_K.mk (by decide) (Nat.le_of_ble_eq_true rfl) ?_
  show vm_J _ _ _ (0, (0, 0), [.ref 152, .int e], []) _ _ _
  refine vm_J.go vm_q266 (k := 3) (hs := []) (f' := (4, (0, 0), [.ref 152, .int e], [.int 15, .int 0, .int e])) (h' := (G, I, F)) (hs' := []) rfl rfl ?_
  refine vm_J.call vm_q266 (Z := vm_M168) (n := 3) (k := 1) (mi := 168) (pc := 4) (en := (4, .invokestatic 141, 3, [168, 1302, 0], .null)) rfl trivial rfl rfl vm_z168 (av := [.int e, .int 0, .int 15]) (rest := []) (r_isIn_y (v := e) (a := 0) (b := 15) he) rfl (Nat.le_of_ble_eq_true rfl) ⟨Nat.le_of_ble_eq_true rfl, Nat.le_of_ble_eq_true rfl⟩ ⟨Nat.le_of_ble_eq_true rfl, Nat.le_of_ble_eq_true rfl⟩ ?_
  show vm_J _ _ _ (7, (0, 0), [.ref 152, .int e], [.int 1]) (G, I, F) _ _
  refine vm_J.go vm_q266 (k := 1) (hs := []) (f' := (bif vm_ic .ne 1 0 then 13 else 10, (0, 0), [.ref 152, .int e], [])) (h' := (G, I, F)) (hs' := []) rfl rfl ?_
  refine vm_J.bT (by decide) ?_
  refine vm_J.go vm_q266 (k := 1) (hs := []) (f' := (14, (0, 0), [.ref 152, .int e], [.ref 152])) (h' := (G, I, F)) (hs' := []) rfl rfl ?_
  refine vm_J.call vm_q266 (Z := vm_M262) (n := 0) (k := 0) (mi := 262) (pc := 14) (en := (14, .invokevirtual 424, 3, [262, 1660, 0], .null)) rfl trivial rfl rfl vm_z262 (av := [.ref 152]) (rest := []) (r_isMade_y hR hw hw2 hw0) ⟨_, _, rfl, rfl, _, 11, _, hR.c152, rfl, rfl, rfl⟩ (Nat.le_of_ble_eq_true rfl) ⟨Nat.le_of_ble_eq_true rfl, Nat.le_of_ble_eq_true rfl⟩ ⟨Nat.le_of_ble_eq_true rfl, Nat.le_of_ble_eq_true rfl⟩ ?_
  show vm_J _ _ _ (17, (0, 0), [.ref 152, .int e], [.int 1]) (G, (vm_up I 152 40 0), F) _ _
  refine vm_J.go vm_q266 (k := 1) (hs := []) (f' := (bif vm_ic .eq 1 0 then 28 else 20, (0, 0), [.ref 152, .int e], [])) (h' := (G, (vm_up I 152 40 0), F)) (hs' := []) rfl rfl ?_
  refine vm_J.bF (by decide) ?_
  refine vm_J.go vm_q266 (k := 2) (hs := []) (f' := (22, (0, 0), [.ref 152, .int e], [.int e, .ref 152])) (h' := (G, (vm_up I 152 40 0), F)) (hs' := []) rfl rfl ?_
  refine vm_J.call vm_q266 (Z := vm_M260) (n := 1) (k := 0) (mi := 260) (pc := 22) (en := (22, .invokevirtual 415, 3, [260, 1652, 0], .null)) rfl trivial rfl rfl vm_z260 (av := [.ref 152, .int e]) (rest := []) (r_used (s := 0) (w := w) (h := h) (c := e) hR (vm_up_h _ 152 40 _) (Eq.trans (congrFun (vm_up_f _ 152 _ _ 173 (by decide)) 0) hw) (Eq.trans (congrFun (vm_up_f _ 152 _ _ 174 (by decide)) 0) hh) (by omega) (by omega) (by omega)) ⟨_, _, rfl, rfl, _, 11, _, hR.c152, rfl, rfl, rfl⟩ (Nat.le_of_ble_eq_true rfl) ⟨Nat.le_of_ble_eq_true rfl, Nat.le_of_ble_eq_true rfl⟩ ⟨Nat.le_of_ble_eq_true rfl, Nat.le_of_ble_eq_true rfl⟩ ?_
  show vm_J _ _ _ (25, (0, 0), [.ref 152, .int e], [.int (sp_sum (fun y => if (vm_up I 152 40 0) 177 (144 * 0 + y) = e then 1 else 0) (w * h))]) (G, (vm_up I 152 40 0), F) _ _
  refine vm_J.go vm_q266 (k := 1) (hs := []) (f' := (30, (0, 0), [.ref 152, .int e], [.int (sp_sum (fun y => if (vm_up I 152 40 0) 177 (144 * 0 + y) = e then 1 else 0) (w * h))])) (h' := (G, (vm_up I 152 40 0), F)) (hs' := []) rfl rfl ?_
  exact vm_J.end vm_q266 (en := (30, .ireturn, 1, [], .null)) rfl rfl vm_rI (Nat.zero_le _) (Nat.zero_le _) rfl
set_option maxHeartbeats 4000000 in
set_option maxRecDepth 20000 in
/-- DitherDeskModel.taken -/
theorem r_taken_b {l : Launch} {X : vm_Cx} {G : List vm_Sh} {I : Nat → Nat → Int32} {F : Nat → Nat → UInt32} {k : Int32} (hR : vm_isR G) (he : ¬ (0 ≤ k ∧ k ≤ 4)) : vm_K l X vm_M267 [.ref 152, .int k] (G, I, F) (some (.int (-2))) (G, I, F) := by
  refine vm_K.mk (by decide) (Nat.le_of_ble_eq_true rfl) ?_
  show vm_J _ _ _ (0, (0, 0), [.ref 152, .int k, .retAddr 0, .retAddr 0], []) _ _ _
  refine vm_J.go vm_q267 (k := 3) (hs := []) (f' := (3, (0, 0), [.ref 152, .int k, .retAddr 0, .retAddr 0], [.int 4, .int 0, .int k])) (h' := (G, I, F)) (hs' := []) rfl rfl ?_
  refine vm_J.call vm_q267 (Z := vm_M168) (n := 3) (k := 1) (mi := 168) (pc := 3) (en := (3, .invokestatic 141, 3, [168, 1302, 0], .null)) rfl trivial rfl rfl vm_z168 (av := [.int k, .int 0, .int 4]) (rest := []) (r_isIn_n (v := k) (a := 0) (b := 4) he) rfl (Nat.le_of_ble_eq_true rfl) ⟨Nat.le_of_ble_eq_true rfl, Nat.le_of_ble_eq_true rfl⟩ ⟨Nat.le_of_ble_eq_true rfl, Nat.le_of_ble_eq_true rfl⟩ ?_
  show vm_J _ _ _ (6, (0, 0), [.ref 152, .int k, .retAddr 0, .retAddr 0], [.int 0]) (G, I, F) _ _
  refine vm_J.go vm_q267 (k := 1) (hs := []) (f' := (bif vm_ic .ne 0 0 then 12 else 9, (0, 0), [.ref 152, .int k, .retAddr 0, .retAddr 0], [])) (h' := (G, I, F)) (hs' := []) rfl rfl ?_
  refine vm_J.bF (by decide) ?_
  refine vm_J.go vm_q267 (k := 1) (hs := []) (f' := (11, (0, 0), [.ref 152, .int k, .retAddr 0, .retAddr 0], [.int (-2)])) (h' := (G, I, F)) (hs' := []) rfl rfl ?_
  exact vm_J.end vm_q267 (en := (11, .ireturn, 1, [], .null)) rfl rfl vm_rI (Nat.zero_le _) (Nat.zero_le _) rfl
set_option maxHeartbeats 4000000 in
set_option maxRecDepth 20000 in
/-- DitherDeskModel.taken -/
theorem r_taken_n {l : Launch} {X : vm_Cx} {G : List vm_Sh} {I : Nat → Nat → Int32} {F : Nat → Nat → UInt32} {w : Nat} {k : Int32} (hR : vm_isR G) (hw : I 173 0 = nI w) (hw2 : w = 0) (he : 0 ≤ k ∧ k ≤ 4) : vm_K l X vm_M267 [.ref 152, .int k] (G, I, F) (some (.int (-11))) (G, (vm_up I 152 40 0), F) := by
  refine vm_K.mk (by decide) (Nat.le_of_ble_eq_true rfl) ?_
  show vm_J _ _ _ (0, (0, 0), [.ref 152, .int k, .retAddr 0, .retAddr 0], []) _ _ _
  refine vm_J.go vm_q267 (k := 3) (hs := []) (f' := (3, (0, 0), [.ref 152, .int k, .retAddr 0, .retAddr 0], [.int 4, .int 0, .int k])) (h' := (G, I, F)) (hs' := []) rfl rfl ?_
  refine vm_J.call vm_q267 (Z := vm_M168) (n := 3) (k := 1) (mi := 168) (pc := 3) (en := (3, .invokestatic 141, 3, [168, 1302, 0], .null)) rfl trivial rfl rfl vm_z168 (av := [.int k, .int 0, .int 4]) (rest := []) (r_isIn_y (v := k) (a := 0) (b := 4) he) rfl (Nat.le_of_ble_eq_true rfl) ⟨Nat.le_of_ble_eq_true rfl, Nat.le_of_ble_eq_true rfl⟩ ⟨Nat.le_of_ble_eq_true rfl, Nat.le_of_ble_eq_true rfl⟩ ?_
  show vm_J _ _ _ (6, (0, 0), [.ref 152, .int k, .retAddr 0, .retAddr 0], [.int 1]) (G, I, F) _ _
  refine vm_J.go vm_q267 (k := 1) (hs := []) (f' := (bif vm_ic .ne 1 0 then 12 else 9, (0, 0), [.ref 152, .int k, .retAddr 0, .retAddr 0], [])) (h' := (G, I, F)) (hs' := []) rfl rfl ?_
  refine vm_J.bT (by decide) ?_
  refine vm_J.go vm_q267 (k := 1) (hs := []) (f' := (13, (0, 0), [.ref 152, .int k, .retAddr 0, .retAddr 0], [.ref 152])) (h' := (G, I, F)) (hs' := []) rfl rfl ?_
  refine vm_J.call vm_q267 (Z := vm_M262) (n := 0) (k := 0) (mi := 262) (pc := 13) (en := (13, .invokevirtual 424, 3, [262, 1660, 0], .null)) rfl trivial rfl rfl vm_z262 (av := [.ref 152]) (rest := []) (r_isMade_n hR hw hw2) ⟨_, _, rfl, rfl, _, 11, _, hR.c152, rfl, rfl, rfl⟩ (Nat.le_of_ble_eq_true rfl) ⟨Nat.le_of_ble_eq_true rfl, Nat.le_of_ble_eq_true rfl⟩ ⟨Nat.le_of_ble_eq_true rfl, Nat.le_of_ble_eq_true rfl⟩ ?_
  show vm_J _ _ _ (16, (0, 0), [.ref 152, .int k, .retAddr 0, .retAddr 0], [.int 0]) (G, (vm_up I 152 40 0), F) _ _
  refine vm_J.go vm_q267 (k := 1) (hs := []) (f' := (bif vm_ic .ne 0 0 then 22 else 19, (0, 0), [.ref 152, .int k, .retAddr 0, .retAddr 0], [])) (h' := (G, (vm_up I 152 40 0), F)) (hs' := []) rfl rfl ?_
  refine vm_J.bF (by decide) ?_
  refine vm_J.go vm_q267 (k := 1) (hs := []) (f' := (21, (0, 0), [.ref 152, .int k, .retAddr 0, .retAddr 0], [.int (-11)])) (h' := (G, (vm_up I 152 40 0), F)) (hs' := []) rfl rfl ?_
  exact vm_J.end vm_q267 (en := (21, .ireturn, 1, [], .null)) rfl rfl vm_rI (Nat.zero_le _) (Nat.zero_le _) rfl
set_option maxHeartbeats 4000000 in
set_option maxRecDepth 20000 in
/-- DitherDeskModel.taken -/
theorem r_taken_0_0 {l : Launch} {X : vm_Cx} {G : List vm_Sh} {I : Nat → Nat → Int32} {F : Nat → Nat → UInt32} {w : Nat} (hR : vm_isR G) (hw : I 173 0 = nI w) (hw2 : w ≤ 12) (hw0 : 0 < w) (hy : I 175 0 = 0) : vm_K l X vm_M267 [.ref 152, .int 0] (G, I, F) (some (.int (0))) (G, (vm_up I 152 40 0), F) := by
  refine vm_K.mk (by decide) (Nat.le_of_ble_eq_true rfl) ?_
  show vm_J _ _ _ (0, (0, 0), [.ref 152, .int 0, .retAddr 0, .retAddr 0], []) _ _ _
  refine vm_J.go vm_q267 (k := 3) (hs := []) (f' := (3, (0, 0), [.ref 152, .int 0, .retAddr 0, .retAddr 0], [.int 4, .int 0, .int 0])) (h' := (G, I, F)) (hs' := []) rfl rfl ?_
  refine vm_J.call vm_q267 (Z := vm_M168) (n := 3) (k := 1) (mi := 168) (pc := 3) (en := (3, .invokestatic 141, 3, [168, 1302, 0], .null)) rfl trivial rfl rfl vm_z168 (av := [.int 0, .int 0, .int 4]) (rest := []) (r_isIn_y (v := 0) (a := 0) (b := 4) (by decide)) rfl (Nat.le_of_ble_eq_true rfl) ⟨Nat.le_of_ble_eq_true rfl, Nat.le_of_ble_eq_true rfl⟩ ⟨Nat.le_of_ble_eq_true rfl, Nat.le_of_ble_eq_true rfl⟩ ?_
  show vm_J _ _ _ (6, (0, 0), [.ref 152, .int 0, .retAddr 0, .retAddr 0], [.int 1]) (G, I, F) _ _
  refine vm_J.go vm_q267 (k := 1) (hs := []) (f' := (bif vm_ic .ne 1 0 then 12 else 9, (0, 0), [.ref 152, .int 0, .retAddr 0, .retAddr 0], [])) (h' := (G, I, F)) (hs' := []) rfl rfl ?_
  refine vm_J.bT (by decide) ?_
  refine vm_J.go vm_q267 (k := 1) (hs := []) (f' := (13, (0, 0), [.ref 152, .int 0, .retAddr 0, .retAddr 0], [.ref 152])) (h' := (G, I, F)) (hs' := []) rfl rfl ?_
  refine vm_J.call vm_q267 (Z := vm_M262) (n := 0) (k := 0) (mi := 262) (pc := 13) (en := (13, .invokevirtual 424, 3, [262, 1660, 0], .null)) rfl trivial rfl rfl vm_z262 (av := [.ref 152]) (rest := []) (r_isMade_y hR hw hw2 hw0) ⟨_, _, rfl, rfl, _, 11, _, hR.c152, rfl, rfl, rfl⟩ (Nat.le_of_ble_eq_true rfl) ⟨Nat.le_of_ble_eq_true rfl, Nat.le_of_ble_eq_true rfl⟩ ⟨Nat.le_of_ble_eq_true rfl, Nat.le_of_ble_eq_true rfl⟩ ?_
  show vm_J _ _ _ (16, (0, 0), [.ref 152, .int 0, .retAddr 0, .retAddr 0], [.int 1]) (G, (vm_up I 152 40 0), F) _ _
  refine vm_J.go vm_q267 (k := 1) (hs := []) (f' := (bif vm_ic .ne 1 0 then 22 else 19, (0, 0), [.ref 152, .int 0, .retAddr 0, .retAddr 0], [])) (h' := (G, (vm_up I 152 40 0), F)) (hs' := []) rfl rfl ?_
  refine vm_J.bT (by decide) ?_
  refine vm_J.go vm_q267 (k := 4) (hs := [vm_shR, (0, 2, [])]) (f' := (28, (0, 0), [.ref 152, .int 0, .retAddr 0, .retAddr 0], [.int ((vm_up I 152 40 0) 175 0)])) (h' := (G, (vm_up I 152 40 0), F)) (hs' := []) rfl (vm_b2 rfl (vm_b2 (vm_b2 (vm_hG hR.c152) rfl) (vm_b2 rfl (vm_b2 (vm_b2 (vm_hG hR.c175) rfl) rfl)))) ?_
  rw [((Eq.trans (congrFun (vm_up_f _ 152 _ _ 175 (by decide)) 0) hy) : (vm_up I 152 40 0) 175 0 = 0)]
  refine vm_J.go vm_q267 (k := 3) (hs := []) (f' := (bif vm_ic .eq 0 0 then 58 else 33, (0, 0), [.ref 152, .int 0, .int 0, .retAddr 0], [])) (h' := (G, (vm_up I 152 40 0), F)) (hs' := []) rfl rfl ?_
  refine vm_J.bT (by decide) ?_
  refine vm_J.go vm_q267 (k := 5) (hs := []) (f' := (bif vm_ic .eq 1 0 then 72 else 68, (0, 0), [.ref 152, .int 0, .int 0, .int 1], [])) (h' := (G, (vm_up I 152 40 0), F)) (hs' := []) rfl rfl ?_
  refine vm_J.bF (by decide) ?_
  refine vm_J.go vm_q267 (k := 2) (hs := []) (f' := (74, (0, 0), [.ref 152, .int 0, .int 0, .int 1], [.int 0])) (h' := (G, (vm_up I 152 40 0), F)) (hs' := []) rfl rfl ?_
  exact vm_J.end vm_q267 (en := (74, .ireturn, 1, [], .null)) rfl rfl vm_rI (Nat.zero_le _) (Nat.zero_le _) rfl
set_option maxHeartbeats 4000000 in
set_option maxRecDepth 20000 in
/-- DitherDeskModel.taken -/
theorem r_taken_0_1 {l : Launch} {X : vm_Cx} {G : List vm_Sh} {I : Nat → Nat → Int32} {F : Nat → Nat → UInt32} {w : Nat} (hR : vm_isR G) (hw : I 173 0 = nI w) (hw2 : w ≤ 12) (hw0 : 0 < w) (hy : I 175 0 = 0) : vm_K l X vm_M267 [.ref 152, .int 1] (G, I, F) (some (.int (-12))) (G, (vm_up I 152 40 0), F) := by
  refine vm_K.mk (by decide) (Nat.le_of_ble_eq_true rfl) ?_
  show vm_J _ _ _ (0, (0, 0), [.ref 152, .int 1, .retAddr 0, .retAddr 0], []) _ _ _
  refine vm_J.go vm_q267 (k := 3) (hs := []) (f' := (3, (0, 0), [.ref 152, .int 1, .retAddr 0, .retAddr 0], [.int 4, .int 0, .int 1])) (h' := (G, I, F)) (hs' := []) rfl rfl ?_
  refine vm_J.call vm_q267 (Z := vm_M168) (n := 3) (k := 1) (mi := 168) (pc := 3) (en := (3, .invokestatic 141, 3, [168, 1302, 0], .null)) rfl trivial rfl rfl vm_z168 (av := [.int 1, .int 0, .int 4]) (rest := []) (r_isIn_y (v := 1) (a := 0) (b := 4) (by decide)) rfl (Nat.le_of_ble_eq_true rfl) ⟨Nat.le_of_ble_eq_true rfl, Nat.le_of_ble_eq_true rfl⟩ ⟨Nat.le_of_ble_eq_true rfl, Nat.le_of_ble_eq_true rfl⟩ ?_
  show vm_J _ _ _ (6, (0, 0), [.ref 152, .int 1, .retAddr 0, .retAddr 0], [.int 1]) (G, I, F) _ _
  refine vm_J.go vm_q267 (k := 1) (hs := []) (f' := (bif vm_ic .ne 1 0 then 12 else 9, (0, 0), [.ref 152, .int 1, .retAddr 0, .retAddr 0], [])) (h' := (G, I, F)) (hs' := []) rfl rfl ?_
  refine vm_J.bT (by decide) ?_
  refine vm_J.go vm_q267 (k := 1) (hs := []) (f' := (13, (0, 0), [.ref 152, .int 1, .retAddr 0, .retAddr 0], [.ref 152])) (h' := (G, I, F)) (hs' := []) rfl rfl ?_
  refine vm_J.call vm_q267 (Z := vm_M262) (n := 0) (k := 0) (mi := 262) (pc := 13) (en := (13, .invokevirtual 424, 3, [262, 1660, 0], .null)) rfl trivial rfl rfl vm_z262 (av := [.ref 152]) (rest := []) (r_isMade_y hR hw hw2 hw0) ⟨_, _, rfl, rfl, _, 11, _, hR.c152, rfl, rfl, rfl⟩ (Nat.le_of_ble_eq_true rfl) ⟨Nat.le_of_ble_eq_true rfl, Nat.le_of_ble_eq_true rfl⟩ ⟨Nat.le_of_ble_eq_true rfl, Nat.le_of_ble_eq_true rfl⟩ ?_
  show vm_J _ _ _ (16, (0, 0), [.ref 152, .int 1, .retAddr 0, .retAddr 0], [.int 1]) (G, (vm_up I 152 40 0), F) _ _
  refine vm_J.go vm_q267 (k := 1) (hs := []) (f' := (bif vm_ic .ne 1 0 then 22 else 19, (0, 0), [.ref 152, .int 1, .retAddr 0, .retAddr 0], [])) (h' := (G, (vm_up I 152 40 0), F)) (hs' := []) rfl rfl ?_
  refine vm_J.bT (by decide) ?_
  refine vm_J.go vm_q267 (k := 4) (hs := [vm_shR, (0, 2, [])]) (f' := (28, (0, 0), [.ref 152, .int 1, .retAddr 0, .retAddr 0], [.int ((vm_up I 152 40 0) 175 0)])) (h' := (G, (vm_up I 152 40 0), F)) (hs' := []) rfl (vm_b2 rfl (vm_b2 (vm_b2 (vm_hG hR.c152) rfl) (vm_b2 rfl (vm_b2 (vm_b2 (vm_hG hR.c175) rfl) rfl)))) ?_
  rw [((Eq.trans (congrFun (vm_up_f _ 152 _ _ 175 (by decide)) 0) hy) : (vm_up I 152 40 0) 175 0 = 0)]
  refine vm_J.go vm_q267 (k := 3) (hs := []) (f' := (bif vm_ic .eq 1 0 then 58 else 33, (0, 0), [.ref 152, .int 1, .int 0, .retAddr 0], [])) (h' := (G, (vm_up I 152 40 0), F)) (hs' := []) rfl rfl ?_
  refine vm_J.bF (by decide) ?_
  refine vm_J.go vm_q267 (k := 3) (hs := []) (f' := (bif vm_ic .eq 0 1 then 58 else 38, (0, 0), [.ref 152, .int 1, .int 0, .retAddr 0], [])) (h' := (G, (vm_up I 152 40 0), F)) (hs' := []) rfl rfl ?_
  refine vm_J.bF (by decide) ?_
  refine vm_J.go vm_q267 (k := 3) (hs := []) (f' := (bif vm_ic .ne 1 1 then 48 else 43, (0, 0), [.ref 152, .int 1, .int 0, .retAddr 0], [])) (h' := (G, (vm_up I 152 40 0), F)) (hs' := []) rfl rfl ?_
  refine vm_J.bF (by decide) ?_
  refine vm_J.go vm_q267 (k := 3) (hs := []) (f' := (bif vm_ic .eq 0 2 then 58 else 48, (0, 0), [.ref 152, .int 1, .int 0, .retAddr 0], [])) (h' := (G, (vm_up I 152 40 0), F)) (hs' := []) rfl rfl ?_
  refine vm_J.bF (by decide) ?_
  refine vm_J.go vm_q267 (k := 3) (hs := []) (f' := (bif vm_ic .ne 1 3 then 62 else 53, (0, 0), [.ref 152, .int 1, .int 0, .retAddr 0], [])) (h' := (G, (vm_up I 152 40 0), F)) (hs' := []) rfl rfl ?_
  refine vm_J.bT (by decide) ?_
  refine vm_J.go vm_q267 (k := 4) (hs := []) (f' := (bif vm_ic .eq 0 0 then 72 else 68, (0, 0), [.ref 152, .int 1, .int 0, .int 0], [])) (h' := (G, (vm_up I 152 40 0), F)) (hs' := []) rfl rfl ?_
  refine vm_J.bT (by decide) ?_
  refine vm_J.go vm_q267 (k := 1) (hs := []) (f' := (74, (0, 0), [.ref 152, .int 1, .int 0, .int 0], [.int (-12)])) (h' := (G, (vm_up I 152 40 0), F)) (hs' := []) rfl rfl ?_
  exact vm_J.end vm_q267 (en := (74, .ireturn, 1, [], .null)) rfl rfl vm_rI (Nat.zero_le _) (Nat.zero_le _) rfl
set_option maxHeartbeats 4000000 in
set_option maxRecDepth 20000 in
/-- DitherDeskModel.taken -/
theorem r_taken_0_2 {l : Launch} {X : vm_Cx} {G : List vm_Sh} {I : Nat → Nat → Int32} {F : Nat → Nat → UInt32} {w : Nat} (hR : vm_isR G) (hw : I 173 0 = nI w) (hw2 : w ≤ 12) (hw0 : 0 < w) (hy : I 175 0 = 0) : vm_K l X vm_M267 [.ref 152, .int 2] (G, I, F) (some (.int (-12))) (G, (vm_up I 152 40 0), F) := by
  refine vm_K.mk (by decide) (Nat.le_of_ble_eq_true rfl) ?_
  show vm_J _ _ _ (0, (0, 0), [.ref 152, .int 2, .retAddr 0, .retAddr 0], []) _ _ _
  refine vm_J.go vm_q267 (k := 3) (hs := []) (f' := (3, (0, 0), [.ref 152, .int 2, .retAddr 0, .retAddr 0], [.int 4, .int 0, .int 2])) (h' := (G, I, F)) (hs' := []) rfl rfl ?_
  refine vm_J.call vm_q267 (Z := vm_M168) (n := 3) (k := 1) (mi := 168) (pc := 3) (en := (3, .invokestatic 141, 3, [168, 1302, 0], .null)) rfl trivial rfl rfl vm_z168 (av := [.int 2, .int 0, .int 4]) (rest := []) (r_isIn_y (v := 2) (a := 0) (b := 4) (by decide)) rfl (Nat.le_of_ble_eq_true rfl) ⟨Nat.le_of_ble_eq_true rfl, Nat.le_of_ble_eq_true rfl⟩ ⟨Nat.le_of_ble_eq_true rfl, Nat.le_of_ble_eq_true rfl⟩ ?_
  show vm_J _ _ _ (6, (0, 0), [.ref 152, .int 2, .retAddr 0, .retAddr 0], [.int 1]) (G, I, F) _ _
  refine vm_J.go vm_q267 (k := 1) (hs := []) (f' := (bif vm_ic .ne 1 0 then 12 else 9, (0, 0), [.ref 152, .int 2, .retAddr 0, .retAddr 0], [])) (h' := (G, I, F)) (hs' := []) rfl rfl ?_
  refine vm_J.bT (by decide) ?_
  refine vm_J.go vm_q267 (k := 1) (hs := []) (f' := (13, (0, 0), [.ref 152, .int 2, .retAddr 0, .retAddr 0], [.ref 152])) (h' := (G, I, F)) (hs' := []) rfl rfl ?_
  refine vm_J.call vm_q267 (Z := vm_M262) (n := 0) (k := 0) (mi := 262) (pc := 13) (en := (13, .invokevirtual 424, 3, [262, 1660, 0], .null)) rfl trivial rfl rfl vm_z262 (av := [.ref 152]) (rest := []) (r_isMade_y hR hw hw2 hw0) ⟨_, _, rfl, rfl, _, 11, _, hR.c152, rfl, rfl, rfl⟩ (Nat.le_of_ble_eq_true rfl) ⟨Nat.le_of_ble_eq_true rfl, Nat.le_of_ble_eq_true rfl⟩ ⟨Nat.le_of_ble_eq_true rfl, Nat.le_of_ble_eq_true rfl⟩ ?_
  show vm_J _ _ _ (16, (0, 0), [.ref 152, .int 2, .retAddr 0, .retAddr 0], [.int 1]) (G, (vm_up I 152 40 0), F) _ _
  refine vm_J.go vm_q267 (k := 1) (hs := []) (f' := (bif vm_ic .ne 1 0 then 22 else 19, (0, 0), [.ref 152, .int 2, .retAddr 0, .retAddr 0], [])) (h' := (G, (vm_up I 152 40 0), F)) (hs' := []) rfl rfl ?_
  refine vm_J.bT (by decide) ?_
  refine vm_J.go vm_q267 (k := 4) (hs := [vm_shR, (0, 2, [])]) (f' := (28, (0, 0), [.ref 152, .int 2, .retAddr 0, .retAddr 0], [.int ((vm_up I 152 40 0) 175 0)])) (h' := (G, (vm_up I 152 40 0), F)) (hs' := []) rfl (vm_b2 rfl (vm_b2 (vm_b2 (vm_hG hR.c152) rfl) (vm_b2 rfl (vm_b2 (vm_b2 (vm_hG hR.c175) rfl) rfl)))) ?_
  rw [((Eq.trans (congrFun (vm_up_f _ 152 _ _ 175 (by decide)) 0) hy) : (vm_up I 152 40 0) 175 0 = 0)]
  refine vm_J.go vm_q267 (k := 3) (hs := []) (f' := (bif vm_ic .eq 2 0 then 58 else 33, (0, 0), [.ref 152, .int 2, .int 0, .retAddr 0], [])) (h' := (G, (vm_up I 152 40 0), F)) (hs' := []) rfl rfl ?_
  refine vm_J.bF (by decide) ?_
  refine vm_J.go vm_q267 (k := 3) (hs := []) (f' := (bif vm_ic .eq 0 2 then 58 else 38, (0, 0), [.ref 152, .int 2, .int 0, .retAddr 0], [])) (h' := (G, (vm_up I 152 40 0), F)) (hs' := []) rfl rfl ?_
  refine vm_J.bF (by decide) ?_
  refine vm_J.go vm_q267 (k := 3) (hs := []) (f' := (bif vm_ic .ne 2 1 then 48 else 43, (0, 0), [.ref 152, .int 2, .int 0, .retAddr 0], [])) (h' := (G, (vm_up I 152 40 0), F)) (hs' := []) rfl rfl ?_
  refine vm_J.bT (by decide) ?_
  refine vm_J.go vm_q267 (k := 3) (hs := []) (f' := (bif vm_ic .ne 2 3 then 62 else 53, (0, 0), [.ref 152, .int 2, .int 0, .retAddr 0], [])) (h' := (G, (vm_up I 152 40 0), F)) (hs' := []) rfl rfl ?_
  refine vm_J.bT (by decide) ?_
  refine vm_J.go vm_q267 (k := 4) (hs := []) (f' := (bif vm_ic .eq 0 0 then 72 else 68, (0, 0), [.ref 152, .int 2, .int 0, .int 0], [])) (h' := (G, (vm_up I 152 40 0), F)) (hs' := []) rfl rfl ?_
  refine vm_J.bT (by decide) ?_
  refine vm_J.go vm_q267 (k := 1) (hs := []) (f' := (74, (0, 0), [.ref 152, .int 2, .int 0, .int 0], [.int (-12)])) (h' := (G, (vm_up I 152 40 0), F)) (hs' := []) rfl rfl ?_
  exact vm_J.end vm_q267 (en := (74, .ireturn, 1, [], .null)) rfl rfl vm_rI (Nat.zero_le _) (Nat.zero_le _) rfl
set_option maxHeartbeats 4000000 in
set_option maxRecDepth 20000 in
/-- DitherDeskModel.taken -/
theorem r_taken_0_3 {l : Launch} {X : vm_Cx} {G : List vm_Sh} {I : Nat → Nat → Int32} {F : Nat → Nat → UInt32} {w : Nat} (hR : vm_isR G) (hw : I 173 0 = nI w) (hw2 : w ≤ 12) (hw0 : 0 < w) (hy : I 175 0 = 0) : vm_K l X vm_M267 [.ref 152, .int 3] (G, I, F) (some (.int (-12))) (G, (vm_up I 152 40 0), F) := by
  refine vm_K.mk (by decide) (Nat.le_of_ble_eq_true rfl) ?_
  show vm_J _ _ _ (0, (0, 0), [.ref 152, .int 3, .retAddr 0, .retAddr 0], []) _ _ _
  refine vm_J.go vm_q267 (k := 3) (hs := []) (f' := (3, (0, 0), [.ref 152, .int 3, .retAddr 0, .retAddr 0], [.int 4, .int 0, .int 3])) (h' := (G, I, F)) (hs' := []) rfl rfl ?_
  refine vm_J.call vm_q267 (Z := vm_M168) (n := 3) (k := 1) (mi := 168) (pc := 3) (en := (3, .invokestatic 141, 3, [168, 1302, 0], .null)) rfl trivial rfl rfl vm_z168 (av := [.int 3, .int 0, .int 4]) (rest := []) (r_isIn_y (v := 3) (a := 0) (b := 4) (by decide)) rfl (Nat.le_of_ble_eq_true rfl) ⟨Nat.le_of_ble_eq_true rfl, Nat.le_of_ble_eq_true rfl⟩ ⟨Nat.le_of_ble_eq_true rfl, Nat.le_of_ble_eq_true rfl⟩ ?_
  show vm_J _ _ _ (6, (0, 0), [.ref 152, .int 3, .retAddr 0, .retAddr 0], [.int 1]) (G, I, F) _ _
  refine vm_J.go vm_q267 (k := 1) (hs := []) (f' := (bif vm_ic .ne 1 0 then 12 else 9, (0, 0), [.ref 152, .int 3, .retAddr 0, .retAddr 0], [])) (h' := (G, I, F)) (hs' := []) rfl rfl ?_
  refine vm_J.bT (by decide) ?_
  refine vm_J.go vm_q267 (k := 1) (hs := []) (f' := (13, (0, 0), [.ref 152, .int 3, .retAddr 0, .retAddr 0], [.ref 152])) (h' := (G, I, F)) (hs' := []) rfl rfl ?_
  refine vm_J.call vm_q267 (Z := vm_M262) (n := 0) (k := 0) (mi := 262) (pc := 13) (en := (13, .invokevirtual 424, 3, [262, 1660, 0], .null)) rfl trivial rfl rfl vm_z262 (av := [.ref 152]) (rest := []) (r_isMade_y hR hw hw2 hw0) ⟨_, _, rfl, rfl, _, 11, _, hR.c152, rfl, rfl, rfl⟩ (Nat.le_of_ble_eq_true rfl) ⟨Nat.le_of_ble_eq_true rfl, Nat.le_of_ble_eq_true rfl⟩ ⟨Nat.le_of_ble_eq_true rfl, Nat.le_of_ble_eq_true rfl⟩ ?_
  show vm_J _ _ _ (16, (0, 0), [.ref 152, .int 3, .retAddr 0, .retAddr 0], [.int 1]) (G, (vm_up I 152 40 0), F) _ _
  refine vm_J.go vm_q267 (k := 1) (hs := []) (f' := (bif vm_ic .ne 1 0 then 22 else 19, (0, 0), [.ref 152, .int 3, .retAddr 0, .retAddr 0], [])) (h' := (G, (vm_up I 152 40 0), F)) (hs' := []) rfl rfl ?_
  refine vm_J.bT (by decide) ?_
  refine vm_J.go vm_q267 (k := 4) (hs := [vm_shR, (0, 2, [])]) (f' := (28, (0, 0), [.ref 152, .int 3, .retAddr 0, .retAddr 0], [.int ((vm_up I 152 40 0) 175 0)])) (h' := (G, (vm_up I 152 40 0), F)) (hs' := []) rfl (vm_b2 rfl (vm_b2 (vm_b2 (vm_hG hR.c152) rfl) (vm_b2 rfl (vm_b2 (vm_b2 (vm_hG hR.c175) rfl) rfl)))) ?_
  rw [((Eq.trans (congrFun (vm_up_f _ 152 _ _ 175 (by decide)) 0) hy) : (vm_up I 152 40 0) 175 0 = 0)]
  refine vm_J.go vm_q267 (k := 3) (hs := []) (f' := (bif vm_ic .eq 3 0 then 58 else 33, (0, 0), [.ref 152, .int 3, .int 0, .retAddr 0], [])) (h' := (G, (vm_up I 152 40 0), F)) (hs' := []) rfl rfl ?_
  refine vm_J.bF (by decide) ?_
  refine vm_J.go vm_q267 (k := 3) (hs := []) (f' := (bif vm_ic .eq 0 3 then 58 else 38, (0, 0), [.ref 152, .int 3, .int 0, .retAddr 0], [])) (h' := (G, (vm_up I 152 40 0), F)) (hs' := []) rfl rfl ?_
  refine vm_J.bF (by decide) ?_
  refine vm_J.go vm_q267 (k := 3) (hs := []) (f' := (bif vm_ic .ne 3 1 then 48 else 43, (0, 0), [.ref 152, .int 3, .int 0, .retAddr 0], [])) (h' := (G, (vm_up I 152 40 0), F)) (hs' := []) rfl rfl ?_
  refine vm_J.bT (by decide) ?_
  refine vm_J.go vm_q267 (k := 3) (hs := []) (f' := (bif vm_ic .ne 3 3 then 62 else 53, (0, 0), [.ref 152, .int 3, .int 0, .retAddr 0], [])) (h' := (G, (vm_up I 152 40 0), F)) (hs' := []) rfl rfl ?_
  refine vm_J.bF (by decide) ?_
  refine vm_J.go vm_q267 (k := 3) (hs := []) (f' := (bif vm_ic .ne 0 4 then 62 else 58, (0, 0), [.ref 152, .int 3, .int 0, .retAddr 0], [])) (h' := (G, (vm_up I 152 40 0), F)) (hs' := []) rfl rfl ?_
  refine vm_J.bT (by decide) ?_
  refine vm_J.go vm_q267 (k := 4) (hs := []) (f' := (bif vm_ic .eq 0 0 then 72 else 68, (0, 0), [.ref 152, .int 3, .int 0, .int 0], [])) (h' := (G, (vm_up I 152 40 0), F)) (hs' := []) rfl rfl ?_
  refine vm_J.bT (by decide) ?_
  refine vm_J.go vm_q267 (k := 1) (hs := []) (f' := (74, (0, 0), [.ref 152, .int 3, .int 0, .int 0], [.int (-12)])) (h' := (G, (vm_up I 152 40 0), F)) (hs' := []) rfl rfl ?_
  exact vm_J.end vm_q267 (en := (74, .ireturn, 1, [], .null)) rfl rfl vm_rI (Nat.zero_le _) (Nat.zero_le _) rfl
set_option maxHeartbeats 4000000 in
set_option maxRecDepth 20000 in
/-- DitherDeskModel.taken -/
theorem r_taken_0_4 {l : Launch} {X : vm_Cx} {G : List vm_Sh} {I : Nat → Nat → Int32} {F : Nat → Nat → UInt32} {w : Nat} (hR : vm_isR G) (hw : I 173 0 = nI w) (hw2 : w ≤ 12) (hw0 : 0 < w) (hy : I 175 0 = 0) : vm_K l X vm_M267 [.ref 152, .int 4] (G, I, F) (some (.int (-12))) (G, (vm_up I 152 40 0), F) := by
  refine vm_K.mk (by decide) (Nat.le_of_ble_eq_true rfl) ?_
  show vm_J _ _ _ (0, (0, 0), [.ref 152, .int 4, .retAddr 0, .retAddr 0], []) _ _ _
  refine vm_J.go vm_q267 (k := 3) (hs := []) (f' := (3, (0, 0), [.ref 152, .int 4, .retAddr 0, .retAddr 0], [.int 4, .int 0, .int 4])) (h' := (G, I, F)) (hs' := []) rfl rfl ?_
  refine vm_J.call vm_q267 (Z := vm_M168) (n := 3) (k := 1) (mi := 168) (pc := 3) (en := (3, .invokestatic 141, 3, [168, 1302, 0], .null)) rfl trivial rfl rfl vm_z168 (av := [.int 4, .int 0, .int 4]) (rest := []) (r_isIn_y (v := 4) (a := 0) (b := 4) (by decide)) rfl (Nat.le_of_ble_eq_true rfl) ⟨Nat.le_of_ble_eq_true rfl, Nat.le_of_ble_eq_true rfl⟩ ⟨Nat.le_of_ble_eq_true rfl, Nat.le_of_ble_eq_true rfl⟩ ?_
  show vm_J _ _ _ (6, (0, 0), [.ref 152, .int 4, .retAddr 0, .retAddr 0], [.int 1]) (G, I, F) _ _
  refine vm_J.go vm_q267 (k := 1) (hs := []) (f' := (bif vm_ic .ne 1 0 then 12 else 9, (0, 0), [.ref 152, .int 4, .retAddr 0, .retAddr 0], [])) (h' := (G, I, F)) (hs' := []) rfl rfl ?_
  refine vm_J.bT (by decide) ?_
  refine vm_J.go vm_q267 (k := 1) (hs := []) (f' := (13, (0, 0), [.ref 152, .int 4, .retAddr 0, .retAddr 0], [.ref 152])) (h' := (G, I, F)) (hs' := []) rfl rfl ?_
  refine vm_J.call vm_q267 (Z := vm_M262) (n := 0) (k := 0) (mi := 262) (pc := 13) (en := (13, .invokevirtual 424, 3, [262, 1660, 0], .null)) rfl trivial rfl rfl vm_z262 (av := [.ref 152]) (rest := []) (r_isMade_y hR hw hw2 hw0) ⟨_, _, rfl, rfl, _, 11, _, hR.c152, rfl, rfl, rfl⟩ (Nat.le_of_ble_eq_true rfl) ⟨Nat.le_of_ble_eq_true rfl, Nat.le_of_ble_eq_true rfl⟩ ⟨Nat.le_of_ble_eq_true rfl, Nat.le_of_ble_eq_true rfl⟩ ?_
  show vm_J _ _ _ (16, (0, 0), [.ref 152, .int 4, .retAddr 0, .retAddr 0], [.int 1]) (G, (vm_up I 152 40 0), F) _ _
  refine vm_J.go vm_q267 (k := 1) (hs := []) (f' := (bif vm_ic .ne 1 0 then 22 else 19, (0, 0), [.ref 152, .int 4, .retAddr 0, .retAddr 0], [])) (h' := (G, (vm_up I 152 40 0), F)) (hs' := []) rfl rfl ?_
  refine vm_J.bT (by decide) ?_
  refine vm_J.go vm_q267 (k := 4) (hs := [vm_shR, (0, 2, [])]) (f' := (28, (0, 0), [.ref 152, .int 4, .retAddr 0, .retAddr 0], [.int ((vm_up I 152 40 0) 175 0)])) (h' := (G, (vm_up I 152 40 0), F)) (hs' := []) rfl (vm_b2 rfl (vm_b2 (vm_b2 (vm_hG hR.c152) rfl) (vm_b2 rfl (vm_b2 (vm_b2 (vm_hG hR.c175) rfl) rfl)))) ?_
  rw [((Eq.trans (congrFun (vm_up_f _ 152 _ _ 175 (by decide)) 0) hy) : (vm_up I 152 40 0) 175 0 = 0)]
  refine vm_J.go vm_q267 (k := 3) (hs := []) (f' := (bif vm_ic .eq 4 0 then 58 else 33, (0, 0), [.ref 152, .int 4, .int 0, .retAddr 0], [])) (h' := (G, (vm_up I 152 40 0), F)) (hs' := []) rfl rfl ?_
  refine vm_J.bF (by decide) ?_
  refine vm_J.go vm_q267 (k := 3) (hs := []) (f' := (bif vm_ic .eq 0 4 then 58 else 38, (0, 0), [.ref 152, .int 4, .int 0, .retAddr 0], [])) (h' := (G, (vm_up I 152 40 0), F)) (hs' := []) rfl rfl ?_
  refine vm_J.bF (by decide) ?_
  refine vm_J.go vm_q267 (k := 3) (hs := []) (f' := (bif vm_ic .ne 4 1 then 48 else 43, (0, 0), [.ref 152, .int 4, .int 0, .retAddr 0], [])) (h' := (G, (vm_up I 152 40 0), F)) (hs' := []) rfl rfl ?_
  refine vm_J.bT (by decide) ?_
  refine vm_J.go vm_q267 (k := 3) (hs := []) (f' := (bif vm_ic .ne 4 3 then 62 else 53, (0, 0), [.ref 152, .int 4, .int 0, .retAddr 0], [])) (h' := (G, (vm_up I 152 40 0), F)) (hs' := []) rfl rfl ?_
  refine vm_J.bT (by decide) ?_
  refine vm_J.go vm_q267 (k := 4) (hs := []) (f' := (bif vm_ic .eq 0 0 then 72 else 68, (0, 0), [.ref 152, .int 4, .int 0, .int 0], [])) (h' := (G, (vm_up I 152 40 0), F)) (hs' := []) rfl rfl ?_
  refine vm_J.bT (by decide) ?_
  refine vm_J.go vm_q267 (k := 1) (hs := []) (f' := (74, (0, 0), [.ref 152, .int 4, .int 0, .int 0], [.int (-12)])) (h' := (G, (vm_up I 152 40 0), F)) (hs' := []) rfl rfl ?_
  exact vm_J.end vm_q267 (en := (74, .ireturn, 1, [], .null)) rfl rfl vm_rI (Nat.zero_le _) (Nat.zero_le _) rfl
set_option maxHeartbeats 4000000 in
set_option maxRecDepth 20000 in
/-- DitherDeskModel.taken -/
theorem r_taken_1_0 {l : Launch} {X : vm_Cx} {G : List vm_Sh} {I : Nat → Nat → Int32} {F : Nat → Nat → UInt32} {w : Nat} (hR : vm_isR G) (hw : I 173 0 = nI w) (hw2 : w ≤ 12) (hw0 : 0 < w) (hy : I 175 0 = 1) : vm_K l X vm_M267 [.ref 152, .int 0] (G, I, F) (some (.int (1))) (G, (vm_up I 152 40 0), F) := by
  refine vm_K.mk (by decide) (Nat.le_of_ble_eq_true rfl) ?_
  show vm_J _ _ _ (0, (0, 0), [.ref 152, .int 0, .retAddr 0, .retAddr 0], []) _ _ _
  refine vm_J.go vm_q267 (k := 3) (hs := []) (f' := (3, (0, 0), [.ref 152, .int 0, .retAddr 0, .retAddr 0], [.int 4, .int 0, .int 0])) (h' := (G, I, F)) (hs' := []) rfl rfl ?_
  refine vm_J.call vm_q267 (Z := vm_M168) (n := 3) (k := 1) (mi := 168) (pc := 3) (en := (3, .invokestatic 141, 3, [168, 1302, 0], .null)) rfl trivial rfl rfl vm_z168 (av := [.int 0, .int 0, .int 4]) (rest := []) (r_isIn_y (v := 0) (a := 0) (b := 4) (by decide)) rfl (Nat.le_of_ble_eq_true rfl) ⟨Nat.le_of_ble_eq_true rfl, Nat.le_of_ble_eq_true rfl⟩ ⟨Nat.le_of_ble_eq_true rfl, Nat.le_of_ble_eq_true rfl⟩ ?_
  show vm_J _ _ _ (6, (0, 0), [.ref 152, .int 0, .retAddr 0, .retAddr 0], [.int 1]) (G, I, F) _ _
  refine vm_J.go vm_q267 (k := 1) (hs := []) (f' := (bif vm_ic .ne 1 0 then 12 else 9, (0, 0), [.ref 152, .int 0, .retAddr 0, .retAddr 0], [])) (h' := (G, I, F)) (hs' := []) rfl rfl ?_
  refine vm_J.bT (by decide) ?_
  refine vm_J.go vm_q267 (k := 1) (hs := []) (f' := (13, (0, 0), [.ref 152, .int 0, .retAddr 0, .retAddr 0], [.ref 152])) (h' := (G, I, F)) (hs' := []) rfl rfl ?_
  refine vm_J.call vm_q267 (Z := vm_M262) (n := 0) (k := 0) (mi := 262) (pc := 13) (en := (13, .invokevirtual 424, 3, [262, 1660, 0], .null)) rfl trivial rfl rfl vm_z262 (av := [.ref 152]) (rest := []) (r_isMade_y hR hw hw2 hw0) ⟨_, _, rfl, rfl, _, 11, _, hR.c152, rfl, rfl, rfl⟩ (Nat.le_of_ble_eq_true rfl) ⟨Nat.le_of_ble_eq_true rfl, Nat.le_of_ble_eq_true rfl⟩ ⟨Nat.le_of_ble_eq_true rfl, Nat.le_of_ble_eq_true rfl⟩ ?_
  show vm_J _ _ _ (16, (0, 0), [.ref 152, .int 0, .retAddr 0, .retAddr 0], [.int 1]) (G, (vm_up I 152 40 0), F) _ _
  refine vm_J.go vm_q267 (k := 1) (hs := []) (f' := (bif vm_ic .ne 1 0 then 22 else 19, (0, 0), [.ref 152, .int 0, .retAddr 0, .retAddr 0], [])) (h' := (G, (vm_up I 152 40 0), F)) (hs' := []) rfl rfl ?_
  refine vm_J.bT (by decide) ?_
  refine vm_J.go vm_q267 (k := 4) (hs := [vm_shR, (0, 2, [])]) (f' := (28, (0, 0), [.ref 152, .int 0, .retAddr 0, .retAddr 0], [.int ((vm_up I 152 40 0) 175 0)])) (h' := (G, (vm_up I 152 40 0), F)) (hs' := []) rfl (vm_b2 rfl (vm_b2 (vm_b2 (vm_hG hR.c152) rfl) (vm_b2 rfl (vm_b2 (vm_b2 (vm_hG hR.c175) rfl) rfl)))) ?_
  rw [((Eq.trans (congrFun (vm_up_f _ 152 _ _ 175 (by decide)) 0) hy) : (vm_up I 152 40 0) 175 0 = 1)]
  refine vm_J.go vm_q267 (k := 3) (hs := []) (f' := (bif vm_ic .eq 0 0 then 58 else 33, (0, 0), [.ref 152, .int 0, .int 1, .retAddr 0], [])) (h' := (G, (vm_up I 152 40 0), F)) (hs' := []) rfl rfl ?_
  refine vm_J.bT (by decide) ?_
  refine vm_J.go vm_q267 (k := 5) (hs := []) (f' := (bif vm_ic .eq 1 0 then 72 else 68, (0, 0), [.ref 152, .int 0, .int 1, .int 1], [])) (h' := (G, (vm_up I 152 40 0), F)) (hs' := []) rfl rfl ?_
  refine vm_J.bF (by decide) ?_
  refine vm_J.go vm_q267 (k := 2) (hs := []) (f' := (74, (0, 0), [.ref 152, .int 0, .int 1, .int 1], [.int 1])) (h' := (G, (vm_up I 152 40 0), F)) (hs' := []) rfl rfl ?_
  exact vm_J.end vm_q267 (en := (74, .ireturn, 1, [], .null)) rfl rfl vm_rI (Nat.zero_le _) (Nat.zero_le _) rfl
set_option maxHeartbeats 4000000 in
set_option maxRecDepth 20000 in
/-- DitherDeskModel.taken -/
theorem r_taken_1_1 {l : Launch} {X : vm_Cx} {G : List vm_Sh} {I : Nat → Nat → Int32} {F : Nat → Nat → UInt32} {w : Nat} (hR : vm_isR G) (hw : I 173 0 = nI w) (hw2 : w ≤ 12) (hw0 : 0 < w) (hy : I 175 0 = 1) : vm_K l X vm_M267 [.ref 152, .int 1] (G, I, F) (some (.int (1))) (G, (vm_up I 152 40 0), F) := by
  refine vm_K.mk (by decide) (Nat.le_of_ble_eq_true rfl) ?_
  show vm_J _ _ _ (0, (0, 0), [.ref 152, .int 1, .retAddr 0, .retAddr 0], []) _ _ _
  refine vm_J.go vm_q267 (k := 3) (hs := []) (f' := (3, (0, 0), [.ref 152, .int 1, .retAddr 0, .retAddr 0], [.int 4, .int 0, .int 1])) (h' := (G, I, F)) (hs' := []) rfl rfl ?_
  refine vm_J.call vm_q267 (Z := vm_M168) (n := 3) (k := 1) (mi := 168) (pc := 3) (en := (3, .invokestatic 141, 3, [168, 1302, 0], .null)) rfl trivial rfl rfl vm_z168 (av := [.int 1, .int 0, .int 4]) (rest := []) (r_isIn_y (v := 1) (a := 0) (b := 4) (by decide)) rfl (Nat.le_of_ble_eq_true rfl) ⟨Nat.le_of_ble_eq_true rfl, Nat.le_of_ble_eq_true rfl⟩ ⟨Nat.le_of_ble_eq_true rfl, Nat.le_of_ble_eq_true rfl⟩ ?_
  show vm_J _ _ _ (6, (0, 0), [.ref 152, .int 1, .retAddr 0, .retAddr 0], [.int 1]) (G, I, F) _ _
  refine vm_J.go vm_q267 (k := 1) (hs := []) (f' := (bif vm_ic .ne 1 0 then 12 else 9, (0, 0), [.ref 152, .int 1, .retAddr 0, .retAddr 0], [])) (h' := (G, I, F)) (hs' := []) rfl rfl ?_
  refine vm_J.bT (by decide) ?_
  refine vm_J.go vm_q267 (k := 1) (hs := []) (f' := (13, (0, 0), [.ref 152, .int 1, .retAddr 0, .retAddr 0], [.ref 152])) (h' := (G, I, F)) (hs' := []) rfl rfl ?_
  refine vm_J.call vm_q267 (Z := vm_M262) (n := 0) (k := 0) (mi := 262) (pc := 13) (en := (13, .invokevirtual 424, 3, [262, 1660, 0], .null)) rfl trivial rfl rfl vm_z262 (av := [.ref 152]) (rest := []) (r_isMade_y hR hw hw2 hw0) ⟨_, _, rfl, rfl, _, 11, _, hR.c152, rfl, rfl, rfl⟩ (Nat.le_of_ble_eq_true rfl) ⟨Nat.le_of_ble_eq_true rfl, Nat.le_of_ble_eq_true rfl⟩ ⟨Nat.le_of_ble_eq_true rfl, Nat.le_of_ble_eq_true rfl⟩ ?_
  show vm_J _ _ _ (16, (0, 0), [.ref 152, .int 1, .retAddr 0, .retAddr 0], [.int 1]) (G, (vm_up I 152 40 0), F) _ _
  refine vm_J.go vm_q267 (k := 1) (hs := []) (f' := (bif vm_ic .ne 1 0 then 22 else 19, (0, 0), [.ref 152, .int 1, .retAddr 0, .retAddr 0], [])) (h' := (G, (vm_up I 152 40 0), F)) (hs' := []) rfl rfl ?_
  refine vm_J.bT (by decide) ?_
  refine vm_J.go vm_q267 (k := 4) (hs := [vm_shR, (0, 2, [])]) (f' := (28, (0, 0), [.ref 152, .int 1, .retAddr 0, .retAddr 0], [.int ((vm_up I 152 40 0) 175 0)])) (h' := (G, (vm_up I 152 40 0), F)) (hs' := []) rfl (vm_b2 rfl (vm_b2 (vm_b2 (vm_hG hR.c152) rfl) (vm_b2 rfl (vm_b2 (vm_b2 (vm_hG hR.c175) rfl) rfl)))) ?_
  rw [((Eq.trans (congrFun (vm_up_f _ 152 _ _ 175 (by decide)) 0) hy) : (vm_up I 152 40 0) 175 0 = 1)]
  refine vm_J.go vm_q267 (k := 3) (hs := []) (f' := (bif vm_ic .eq 1 0 then 58 else 33, (0, 0), [.ref 152, .int 1, .int 1, .retAddr 0], [])) (h' := (G, (vm_up I 152 40 0), F)) (hs' := []) rfl rfl ?_
  refine vm_J.bF (by decide) ?_
  refine vm_J.go vm_q267 (k := 3) (hs := []) (f' := (bif vm_ic .eq 1 1 then 58 else 38, (0, 0), [.ref 152, .int 1, .int 1, .retAddr 0], [])) (h' := (G, (vm_up I 152 40 0), F)) (hs' := []) rfl rfl ?_
  refine vm_J.bT (by decide) ?_
  refine vm_J.go vm_q267 (k := 5) (hs := []) (f' := (bif vm_ic .eq 1 0 then 72 else 68, (0, 0), [.ref 152, .int 1, .int 1, .int 1], [])) (h' := (G, (vm_up I 152 40 0), F)) (hs' := []) rfl rfl ?_
  refine vm_J.bF (by decide) ?_
  refine vm_J.go vm_q267 (k := 2) (hs := []) (f' := (74, (0, 0), [.ref 152, .int 1, .int 1, .int 1], [.int 1])) (h' := (G, (vm_up I 152 40 0), F)) (hs' := []) rfl rfl ?_
  exact vm_J.end vm_q267 (en := (74, .ireturn, 1, [], .null)) rfl rfl vm_rI (Nat.zero_le _) (Nat.zero_le _) rfl
set_option maxHeartbeats 4000000 in
set_option maxRecDepth 20000 in
/-- DitherDeskModel.taken -/
theorem r_taken_1_2 {l : Launch} {X : vm_Cx} {G : List vm_Sh} {I : Nat → Nat → Int32} {F : Nat → Nat → UInt32} {w : Nat} (hR : vm_isR G) (hw : I 173 0 = nI w) (hw2 : w ≤ 12) (hw0 : 0 < w) (hy : I 175 0 = 1) : vm_K l X vm_M267 [.ref 152, .int 2] (G, I, F) (some (.int (-12))) (G, (vm_up I 152 40 0), F) := by
  refine vm_K.mk (by decide) (Nat.le_of_ble_eq_true rfl) ?_
  show vm_J _ _ _ (0, (0, 0), [.ref 152, .int 2, .retAddr 0, .retAddr 0], []) _ _ _
  refine vm_J.go vm_q267 (k := 3) (hs := []) (f' := (3, (0, 0), [.ref 152, .int 2, .retAddr 0, .retAddr 0], [.int 4, .int 0, .int 2])) (h' := (G, I, F)) (hs' := []) rfl rfl ?_
  refine vm_J.call vm_q267 (Z := vm_M168) (n := 3) (k := 1) (mi := 168) (pc := 3) (en := (3, .invokestatic 141, 3, [168, 1302, 0], .null)) rfl trivial rfl rfl vm_z168 (av := [.int 2, .int 0, .int 4]) (rest := []) (r_isIn_y (v := 2) (a := 0) (b := 4) (by decide)) rfl (Nat.le_of_ble_eq_true rfl) ⟨Nat.le_of_ble_eq_true rfl, Nat.le_of_ble_eq_true rfl⟩ ⟨Nat.le_of_ble_eq_true rfl, Nat.le_of_ble_eq_true rfl⟩ ?_
  show vm_J _ _ _ (6, (0, 0), [.ref 152, .int 2, .retAddr 0, .retAddr 0], [.int 1]) (G, I, F) _ _
  refine vm_J.go vm_q267 (k := 1) (hs := []) (f' := (bif vm_ic .ne 1 0 then 12 else 9, (0, 0), [.ref 152, .int 2, .retAddr 0, .retAddr 0], [])) (h' := (G, I, F)) (hs' := []) rfl rfl ?_
  refine vm_J.bT (by decide) ?_
  refine vm_J.go vm_q267 (k := 1) (hs := []) (f' := (13, (0, 0), [.ref 152, .int 2, .retAddr 0, .retAddr 0], [.ref 152])) (h' := (G, I, F)) (hs' := []) rfl rfl ?_
  refine vm_J.call vm_q267 (Z := vm_M262) (n := 0) (k := 0) (mi := 262) (pc := 13) (en := (13, .invokevirtual 424, 3, [262, 1660, 0], .null)) rfl trivial rfl rfl vm_z262 (av := [.ref 152]) (rest := []) (r_isMade_y hR hw hw2 hw0) ⟨_, _, rfl, rfl, _, 11, _, hR.c152, rfl, rfl, rfl⟩ (Nat.le_of_ble_eq_true rfl) ⟨Nat.le_of_ble_eq_true rfl, Nat.le_of_ble_eq_true rfl⟩ ⟨Nat.le_of_ble_eq_true rfl, Nat.le_of_ble_eq_true rfl⟩ ?_
  show vm_J _ _ _ (16, (0, 0), [.ref 152, .int 2, .retAddr 0, .retAddr 0], [.int 1]) (G, (vm_up I 152 40 0), F) _ _
  refine vm_J.go vm_q267 (k := 1) (hs := []) (f' := (bif vm_ic .ne 1 0 then 22 else 19, (0, 0), [.ref 152, .int 2, .retAddr 0, .retAddr 0], [])) (h' := (G, (vm_up I 152 40 0), F)) (hs' := []) rfl rfl ?_
  refine vm_J.bT (by decide) ?_
  refine vm_J.go vm_q267 (k := 4) (hs := [vm_shR, (0, 2, [])]) (f' := (28, (0, 0), [.ref 152, .int 2, .retAddr 0, .retAddr 0], [.int ((vm_up I 152 40 0) 175 0)])) (h' := (G, (vm_up I 152 40 0), F)) (hs' := []) rfl (vm_b2 rfl (vm_b2 (vm_b2 (vm_hG hR.c152) rfl) (vm_b2 rfl (vm_b2 (vm_b2 (vm_hG hR.c175) rfl) rfl)))) ?_
  rw [((Eq.trans (congrFun (vm_up_f _ 152 _ _ 175 (by decide)) 0) hy) : (vm_up I 152 40 0) 175 0 = 1)]
  refine vm_J.go vm_q267 (k := 3) (hs := []) (f' := (bif vm_ic .eq 2 0 then 58 else 33, (0, 0), [.ref 152, .int 2, .int 1, .retAddr 0], [])) (h' := (G, (vm_up I 152 40 0), F)) (hs' := []) rfl rfl ?_
  refine vm_J.bF (by decide) ?_
  refine vm_J.go vm_q267 (k := 3) (hs := []) (f' := (bif vm_ic .eq 1 2 then 58 else 38, (0, 0), [.ref 152, .int 2, .int 1, .retAddr 0], [])) (h' := (G, (vm_up I 152 40 0), F)) (hs' := []) rfl rfl ?_
  refine vm_J.bF (by decide) ?_
  refine vm_J.go vm_q267 (k := 3) (hs := []) (f' := (bif vm_ic .ne 2 1 then 48 else 43, (0, 0), [.ref 152, .int 2, .int 1, .retAddr 0], [])) (h' := (G, (vm_up I 152 40 0), F)) (hs' := []) rfl rfl ?_
  refine vm_J.bT (by decide) ?_
  refine vm_J.go vm_q267 (k := 3) (hs := []) (f' := (bif vm_ic .ne 2 3 then 62 else 53, (0, 0), [.ref 152, .int 2, .int 1, .retAddr 0], [])) (h' := (G, (vm_up I 152 40 0), F)) (hs' := []) rfl rfl ?_
  refine vm_J.bT (by decide) ?_
  refine vm_J.go vm_q267 (k := 4) (hs := []) (f' := (bif vm_ic .eq 0 0 then 72 else 68, (0, 0), [.ref 152, .int 2, .int 1, .int 0], [])) (h' := (G, (vm_up I 152 40 0), F)) (hs' := []) rfl rfl ?_
  refine vm_J.bT (by decide) ?_
  refine vm_J.go vm_q267 (k := 1) (hs := []) (f' := (74, (0, 0), [.ref 152, .int 2, .int 1, .int 0], [.int (-12)])) (h' := (G, (vm_up I 152 40 0), F)) (hs' := []) rfl rfl ?_
  exact vm_J.end vm_q267 (en := (74, .ireturn, 1, [], .null)) rfl rfl vm_rI (Nat.zero_le _) (Nat.zero_le _) rfl
set_option maxHeartbeats 4000000 in
set_option maxRecDepth 20000 in
/-- DitherDeskModel.taken -/
theorem r_taken_1_3 {l : Launch} {X : vm_Cx} {G : List vm_Sh} {I : Nat → Nat → Int32} {F : Nat → Nat → UInt32} {w : Nat} (hR : vm_isR G) (hw : I 173 0 = nI w) (hw2 : w ≤ 12) (hw0 : 0 < w) (hy : I 175 0 = 1) : vm_K l X vm_M267 [.ref 152, .int 3] (G, I, F) (some (.int (-12))) (G, (vm_up I 152 40 0), F) := by
  refine vm_K.mk (by decide) (Nat.le_of_ble_eq_true rfl) ?_
  show vm_J _ _ _ (0, (0, 0), [.ref 152, .int 3, .retAddr 0, .retAddr 0], []) _ _ _
  refine vm_J.go vm_q267 (k := 3) (hs := []) (f' := (3, (0, 0), [.ref 152, .int 3, .retAddr 0, .retAddr 0], [.int 4, .int 0, .int 3])) (h' := (G, I, F)) (hs' := []) rfl rfl ?_
  refine vm_J.call vm_q267 (Z := vm_M168) (n := 3) (k := 1) (mi := 168) (pc := 3) (en := (3, .invokestatic 141, 3, [168, 1302, 0], .null)) rfl trivial rfl rfl vm_z168 (av := [.int 3, .int 0, .int 4]) (rest := []) (r_isIn_y (v := 3) (a := 0) (b := 4) (by decide)) rfl (Nat.le_of_ble_eq_true rfl) ⟨Nat.le_of_ble_eq_true rfl, Nat.le_of_ble_eq_true rfl⟩ ⟨Nat.le_of_ble_eq_true rfl, Nat.le_of_ble_eq_true rfl⟩ ?_
  show vm_J _ _ _ (6, (0, 0), [.ref 152, .int 3, .retAddr 0, .retAddr 0], [.int 1]) (G, I, F) _ _
  refine vm_J.go vm_q267 (k := 1) (hs := []) (f' := (bif vm_ic .ne 1 0 then 12 else 9, (0, 0), [.ref 152, .int 3, .retAddr 0, .retAddr 0], [])) (h' := (G, I, F)) (hs' := []) rfl rfl ?_
  refine vm_J.bT (by decide) ?_
  refine vm_J.go vm_q267 (k := 1) (hs := []) (f' := (13, (0, 0), [.ref 152, .int 3, .retAddr 0, .retAddr 0], [.ref 152])) (h' := (G, I, F)) (hs' := []) rfl rfl ?_
  refine vm_J.call vm_q267 (Z := vm_M262) (n := 0) (k := 0) (mi := 262) (pc := 13) (en := (13, .invokevirtual 424, 3, [262, 1660, 0], .null)) rfl trivial rfl rfl vm_z262 (av := [.ref 152]) (rest := []) (r_isMade_y hR hw hw2 hw0) ⟨_, _, rfl, rfl, _, 11, _, hR.c152, rfl, rfl, rfl⟩ (Nat.le_of_ble_eq_true rfl) ⟨Nat.le_of_ble_eq_true rfl, Nat.le_of_ble_eq_true rfl⟩ ⟨Nat.le_of_ble_eq_true rfl, Nat.le_of_ble_eq_true rfl⟩ ?_
  show vm_J _ _ _ (16, (0, 0), [.ref 152, .int 3, .retAddr 0, .retAddr 0], [.int 1]) (G, (vm_up I 152 40 0), F) _ _
  refine vm_J.go vm_q267 (k := 1) (hs := []) (f' := (bif vm_ic .ne 1 0 then 22 else 19, (0, 0), [.ref 152, .int 3, .retAddr 0, .retAddr 0], [])) (h' := (G, (vm_up I 152 40 0), F)) (hs' := []) rfl rfl ?_
  refine vm_J.bT (by decide) ?_
  refine vm_J.go vm_q267 (k := 4) (hs := [vm_shR, (0, 2, [])]) (f' := (28, (0, 0), [.ref 152, .int 3, .retAddr 0, .retAddr 0], [.int ((vm_up I 152 40 0) 175 0)])) (h' := (G, (vm_up I 152 40 0), F)) (hs' := []) rfl (vm_b2 rfl (vm_b2 (vm_b2 (vm_hG hR.c152) rfl) (vm_b2 rfl (vm_b2 (vm_b2 (vm_hG hR.c175) rfl) rfl)))) ?_
  rw [((Eq.trans (congrFun (vm_up_f _ 152 _ _ 175 (by decide)) 0) hy) : (vm_up I 152 40 0) 175 0 = 1)]
  refine vm_J.go vm_q267 (k := 3) (hs := []) (f' := (bif vm_ic .eq 3 0 then 58 else 33, (0, 0), [.ref 152, .int 3, .int 1, .retAddr 0], [])) (h' := (G, (vm_up I 152 40 0), F)) (hs' := []) rfl rfl ?_
  refine vm_J.bF (by decide) ?_
  refine vm_J.go vm_q267 (k := 3) (hs := []) (f' := (bif vm_ic .eq 1 3 then 58 else 38, (0, 0), [.ref 152, .int 3, .int 1, .retAddr 0], [])) (h' := (G, (vm_up I 152 40 0), F)) (hs' := []) rfl rfl ?_
  refine vm_J.bF (by decide) ?_
  refine vm_J.go vm_q267 (k := 3) (hs := []) (f' := (bif vm_ic .ne 3 1 then 48 else 43, (0, 0), [.ref 152, .int 3, .int 1, .retAddr 0], [])) (h' := (G, (vm_up I 152 40 0), F)) (hs' := []) rfl rfl ?_
  refine vm_J.bT (by decide) ?_
  refine vm_J.go vm_q267 (k := 3) (hs := []) (f' := (bif vm_ic .ne 3 3 then 62 else 53, (0, 0), [.ref 152, .int 3, .int 1, .retAddr 0], [])) (h' := (G, (vm_up I 152 40 0), F)) (hs' := []) rfl rfl ?_
  refine vm_J.bF (by decide) ?_
  refine vm_J.go vm_q267 (k := 3) (hs := []) (f' := (bif vm_ic .ne 1 4 then 62 else 58, (0, 0), [.ref 152, .int 3, .int 1, .retAddr 0], [])) (h' := (G, (vm_up I 152 40 0), F)) (hs' := []) rfl rfl ?_
  refine vm_J.bT (by decide) ?_
  refine vm_J.go vm_q267 (k := 4) (hs := []) (f' := (bif vm_ic .eq 0 0 then 72 else 68, (0, 0), [.ref 152, .int 3, .int 1, .int 0], [])) (h' := (G, (vm_up I 152 40 0), F)) (hs' := []) rfl rfl ?_
  refine vm_J.bT (by decide) ?_
  refine vm_J.go vm_q267 (k := 1) (hs := []) (f' := (74, (0, 0), [.ref 152, .int 3, .int 1, .int 0], [.int (-12)])) (h' := (G, (vm_up I 152 40 0), F)) (hs' := []) rfl rfl ?_
  exact vm_J.end vm_q267 (en := (74, .ireturn, 1, [], .null)) rfl rfl vm_rI (Nat.zero_le _) (Nat.zero_le _) rfl
set_option maxHeartbeats 4000000 in
set_option maxRecDepth 20000 in
/-- DitherDeskModel.taken -/
theorem r_taken_1_4 {l : Launch} {X : vm_Cx} {G : List vm_Sh} {I : Nat → Nat → Int32} {F : Nat → Nat → UInt32} {w : Nat} (hR : vm_isR G) (hw : I 173 0 = nI w) (hw2 : w ≤ 12) (hw0 : 0 < w) (hy : I 175 0 = 1) : vm_K l X vm_M267 [.ref 152, .int 4] (G, I, F) (some (.int (-12))) (G, (vm_up I 152 40 0), F) := by
  refine vm_K.mk (by decide) (Nat.le_of_ble_eq_true rfl) ?_
  show vm_J _ _ _ (0, (0, 0), [.ref 152, .int 4, .retAddr 0, .retAddr 0], []) _ _ _
  refine vm_J.go vm_q267 (k := 3) (hs := []) (f' := (3, (0, 0), [.ref 152, .int 4, .retAddr 0, .retAddr 0], [.int 4, .int 0, .int 4])) (h' := (G, I, F)) (hs' := []) rfl rfl ?_
  refine vm_J.call vm_q267 (Z := vm_M168) (n := 3) (k := 1) (mi := 168) (pc := 3) (en := (3, .invokestatic 141, 3, [168, 1302, 0], .null)) rfl trivial rfl rfl vm_z168 (av := [.int 4, .int 0, .int 4]) (rest := []) (r_isIn_y (v := 4) (a := 0) (b := 4) (by decide)) rfl (Nat.le_of_ble_eq_true rfl) ⟨Nat.le_of_ble_eq_true rfl, Nat.le_of_ble_eq_true rfl⟩ ⟨Nat.le_of_ble_eq_true rfl, Nat.le_of_ble_eq_true rfl⟩ ?_
  show vm_J _ _ _ (6, (0, 0), [.ref 152, .int 4, .retAddr 0, .retAddr 0], [.int 1]) (G, I, F) _ _
  refine vm_J.go vm_q267 (k := 1) (hs := []) (f' := (bif vm_ic .ne 1 0 then 12 else 9, (0, 0), [.ref 152, .int 4, .retAddr 0, .retAddr 0], [])) (h' := (G, I, F)) (hs' := []) rfl rfl ?_
  refine vm_J.bT (by decide) ?_
  refine vm_J.go vm_q267 (k := 1) (hs := []) (f' := (13, (0, 0), [.ref 152, .int 4, .retAddr 0, .retAddr 0], [.ref 152])) (h' := (G, I, F)) (hs' := []) rfl rfl ?_
  refine vm_J.call vm_q267 (Z := vm_M262) (n := 0) (k := 0) (mi := 262) (pc := 13) (en := (13, .invokevirtual 424, 3, [262, 1660, 0], .null)) rfl trivial rfl rfl vm_z262 (av := [.ref 152]) (rest := []) (r_isMade_y hR hw hw2 hw0) ⟨_, _, rfl, rfl, _, 11, _, hR.c152, rfl, rfl, rfl⟩ (Nat.le_of_ble_eq_true rfl) ⟨Nat.le_of_ble_eq_true rfl, Nat.le_of_ble_eq_true rfl⟩ ⟨Nat.le_of_ble_eq_true rfl, Nat.le_of_ble_eq_true rfl⟩ ?_
  show vm_J _ _ _ (16, (0, 0), [.ref 152, .int 4, .retAddr 0, .retAddr 0], [.int 1]) (G, (vm_up I 152 40 0), F) _ _
  refine vm_J.go vm_q267 (k := 1) (hs := []) (f' := (bif vm_ic .ne 1 0 then 22 else 19, (0, 0), [.ref 152, .int 4, .retAddr 0, .retAddr 0], [])) (h' := (G, (vm_up I 152 40 0), F)) (hs' := []) rfl rfl ?_
  refine vm_J.bT (by decide) ?_
  refine vm_J.go vm_q267 (k := 4) (hs := [vm_shR, (0, 2, [])]) (f' := (28, (0, 0), [.ref 152, .int 4, .retAddr 0, .retAddr 0], [.int ((vm_up I 152 40 0) 175 0)])) (h' := (G, (vm_up I 152 40 0), F)) (hs' := []) rfl (vm_b2 rfl (vm_b2 (vm_b2 (vm_hG hR.c152) rfl) (vm_b2 rfl (vm_b2 (vm_b2 (vm_hG hR.c175) rfl) rfl)))) ?_
  rw [((Eq.trans (congrFun (vm_up_f _ 152 _ _ 175 (by decide)) 0) hy) : (vm_up I 152 40 0) 175 0 = 1)]
  refine vm_J.go vm_q267 (k := 3) (hs := []) (f' := (bif vm_ic .eq 4 0 then 58 else 33, (0, 0), [.ref 152, .int 4, .int 1, .retAddr 0], [])) (h' := (G, (vm_up I 152 40 0), F)) (hs' := []) rfl rfl ?_
  refine vm_J.bF (by decide) ?_
  refine vm_J.go vm_q267 (k := 3) (hs := []) (f' := (bif vm_ic .eq 1 4 then 58 else 38, (0, 0), [.ref 152, .int 4, .int 1, .retAddr 0], [])) (h' := (G, (vm_up I 152 40 0), F)) (hs' := []) rfl rfl ?_
  refine vm_J.bF (by decide) ?_
  refine vm_J.go vm_q267 (k := 3) (hs := []) (f' := (bif vm_ic .ne 4 1 then 48 else 43, (0, 0), [.ref 152, .int 4, .int 1, .retAddr 0], [])) (h' := (G, (vm_up I 152 40 0), F)) (hs' := []) rfl rfl ?_
  refine vm_J.bT (by decide) ?_
  refine vm_J.go vm_q267 (k := 3) (hs := []) (f' := (bif vm_ic .ne 4 3 then 62 else 53, (0, 0), [.ref 152, .int 4, .int 1, .retAddr 0], [])) (h' := (G, (vm_up I 152 40 0), F)) (hs' := []) rfl rfl ?_
  refine vm_J.bT (by decide) ?_
  refine vm_J.go vm_q267 (k := 4) (hs := []) (f' := (bif vm_ic .eq 0 0 then 72 else 68, (0, 0), [.ref 152, .int 4, .int 1, .int 0], [])) (h' := (G, (vm_up I 152 40 0), F)) (hs' := []) rfl rfl ?_
  refine vm_J.bT (by decide) ?_
  refine vm_J.go vm_q267 (k := 1) (hs := []) (f' := (74, (0, 0), [.ref 152, .int 4, .int 1, .int 0], [.int (-12)])) (h' := (G, (vm_up I 152 40 0), F)) (hs' := []) rfl rfl ?_
  exact vm_J.end vm_q267 (en := (74, .ireturn, 1, [], .null)) rfl rfl vm_rI (Nat.zero_le _) (Nat.zero_le _) rfl
set_option maxHeartbeats 4000000 in
set_option maxRecDepth 20000 in
/-- DitherDeskModel.taken -/
theorem r_taken_2_0 {l : Launch} {X : vm_Cx} {G : List vm_Sh} {I : Nat → Nat → Int32} {F : Nat → Nat → UInt32} {w : Nat} (hR : vm_isR G) (hw : I 173 0 = nI w) (hw2 : w ≤ 12) (hw0 : 0 < w) (hy : I 175 0 = 2) : vm_K l X vm_M267 [.ref 152, .int 0] (G, I, F) (some (.int (2))) (G, (vm_up I 152 40 0), F) := by
  refine vm_K.mk (by decide) (Nat.le_of_ble_eq_true rfl) ?_
  show vm_J _ _ _ (0, (0, 0), [.ref 152, .int 0, .retAddr 0, .retAddr 0], []) _ _ _
  refine vm_J.go vm_q267 (k := 3) (hs := []) (f' := (3, (0, 0), [.ref 152, .int 0, .retAddr 0, .retAddr 0], [.int 4, .int 0, .int 0])) (h' := (G, I, F)) (hs' := []) rfl rfl ?_
  refine vm_J.call vm_q267 (Z := vm_M168) (n := 3) (k := 1) (mi := 168) (pc := 3) (en := (3, .invokestatic 141, 3, [168, 1302, 0], .null)) rfl trivial rfl rfl vm_z168 (av := [.int 0, .int 0, .int 4]) (rest := []) (r_isIn_y (v := 0) (a := 0) (b := 4) (by decide)) rfl (Nat.le_of_ble_eq_true rfl) ⟨Nat.le_of_ble_eq_true rfl, Nat.le_of_ble_eq_true rfl⟩ ⟨Nat.le_of_ble_eq_true rfl, Nat.le_of_ble_eq_true rfl⟩ ?_
  show vm_J _ _ _ (6, (0, 0), [.ref 152, .int 0, .retAddr 0, .retAddr 0], [.int 1]) (G, I, F) _ _
  refine vm_J.go vm_q267 (k := 1) (hs := []) (f' := (bif vm_ic .ne 1 0 then 12 else 9, (0, 0), [.ref 152, .int 0, .retAddr 0, .retAddr 0], [])) (h' := (G, I, F)) (hs' := []) rfl rfl ?_
  refine vm_J.bT (by decide) ?_
  refine vm_J.go vm_q267 (k := 1) (hs := []) (f' := (13, (0, 0), [.ref 152, .int 0, .retAddr 0, .retAddr 0], [.ref 152])) (h' := (G, I, F)) (hs' := []) rfl rfl ?_
  refine vm_J.call vm_q267 (Z := vm_M262) (n := 0) (k := 0) (mi := 262) (pc := 13) (en := (13, .invokevirtual 424, 3, [262, 1660, 0], .null)) rfl trivial rfl rfl vm_z262 (av := [.ref 152]) (rest := []) (r_isMade_y hR hw hw2 hw0) ⟨_, _, rfl, rfl, _, 11, _, hR.c152, rfl, rfl, rfl⟩ (Nat.le_of_ble_eq_true rfl) ⟨Nat.le_of_ble_eq_true rfl, Nat.le_of_ble_eq_true rfl⟩ ⟨Nat.le_of_ble_eq_true rfl, Nat.le_of_ble_eq_true rfl⟩ ?_
  show vm_J _ _ _ (16, (0, 0), [.ref 152, .int 0, .retAddr 0, .retAddr 0], [.int 1]) (G, (vm_up I 152 40 0), F) _ _
  refine vm_J.go vm_q267 (k := 1) (hs := []) (f' := (bif vm_ic .ne 1 0 then 22 else 19, (0, 0), [.ref 152, .int 0, .retAddr 0, .retAddr 0], [])) (h' := (G, (vm_up I 152 40 0), F)) (hs' := []) rfl rfl ?_
  refine vm_J.bT (by decide) ?_
  refine vm_J.go vm_q267 (k := 4) (hs := [vm_shR, (0, 2, [])]) (f' := (28, (0, 0), [.ref 152, .int 0, .retAddr 0, .retAddr 0], [.int ((vm_up I 152 40 0) 175 0)])) (h' := (G, (vm_up I 152 40 0), F)) (hs' := []) rfl (vm_b2 rfl (vm_b2 (vm_b2 (vm_hG hR.c152) rfl) (vm_b2 rfl (vm_b2 (vm_b2 (vm_hG hR.c175) rfl) rfl)))) ?_
  rw [((Eq.trans (congrFun (vm_up_f _ 152 _ _ 175 (by decide)) 0) hy) : (vm_up I 152 40 0) 175 0 = 2)]
  refine vm_J.go vm_q267 (k := 3) (hs := []) (f' := (bif vm_ic .eq 0 0 then 58 else 33, (0, 0), [.ref 152, .int 0, .int 2, .retAddr 0], [])) (h' := (G, (vm_up I 152 40 0), F)) (hs' := []) rfl rfl ?_
  refine vm_J.bT (by decide) ?_
  refine vm_J.go vm_q267 (k := 5) (hs := []) (f' := (bif vm_ic .eq 1 0 then 72 else 68, (0, 0), [.ref 152, .int 0, .int 2, .int 1], [])) (h' := (G, (vm_up I 152 40 0), F)) (hs' := []) rfl rfl ?_
  refine vm_J.bF (by decide) ?_
  refine vm_J.go vm_q267 (k := 2) (hs := []) (f' := (74, (0, 0), [.ref 152, .int 0, .int 2, .int 1], [.int 2])) (h' := (G, (vm_up I 152 40 0), F)) (hs' := []) rfl rfl ?_
  exact vm_J.end vm_q267 (en := (74, .ireturn, 1, [], .null)) rfl rfl vm_rI (Nat.zero_le _) (Nat.zero_le _) rfl
set_option maxHeartbeats 4000000 in
set_option maxRecDepth 20000 in
/-- DitherDeskModel.taken -/
theorem r_taken_2_1 {l : Launch} {X : vm_Cx} {G : List vm_Sh} {I : Nat → Nat → Int32} {F : Nat → Nat → UInt32} {w : Nat} (hR : vm_isR G) (hw : I 173 0 = nI w) (hw2 : w ≤ 12) (hw0 : 0 < w) (hy : I 175 0 = 2) : vm_K l X vm_M267 [.ref 152, .int 1] (G, I, F) (some (.int (2))) (G, (vm_up I 152 40 0), F) := by
  refine vm_K.mk (by decide) (Nat.le_of_ble_eq_true rfl) ?_
  show vm_J _ _ _ (0, (0, 0), [.ref 152, .int 1, .retAddr 0, .retAddr 0], []) _ _ _
  refine vm_J.go vm_q267 (k := 3) (hs := []) (f' := (3, (0, 0), [.ref 152, .int 1, .retAddr 0, .retAddr 0], [.int 4, .int 0, .int 1])) (h' := (G, I, F)) (hs' := []) rfl rfl ?_
  refine vm_J.call vm_q267 (Z := vm_M168) (n := 3) (k := 1) (mi := 168) (pc := 3) (en := (3, .invokestatic 141, 3, [168, 1302, 0], .null)) rfl trivial rfl rfl vm_z168 (av := [.int 1, .int 0, .int 4]) (rest := []) (r_isIn_y (v := 1) (a := 0) (b := 4) (by decide)) rfl (Nat.le_of_ble_eq_true rfl) ⟨Nat.le_of_ble_eq_true rfl, Nat.le_of_ble_eq_true rfl⟩ ⟨Nat.le_of_ble_eq_true rfl, Nat.le_of_ble_eq_true rfl⟩ ?_
  show vm_J _ _ _ (6, (0, 0), [.ref 152, .int 1, .retAddr 0, .retAddr 0], [.int 1]) (G, I, F) _ _
  refine vm_J.go vm_q267 (k := 1) (hs := []) (f' := (bif vm_ic .ne 1 0 then 12 else 9, (0, 0), [.ref 152, .int 1, .retAddr 0, .retAddr 0], [])) (h' := (G, I, F)) (hs' := []) rfl rfl ?_
  refine vm_J.bT (by decide) ?_
  refine vm_J.go vm_q267 (k := 1) (hs := []) (f' := (13, (0, 0), [.ref 152, .int 1, .retAddr 0, .retAddr 0], [.ref 152])) (h' := (G, I, F)) (hs' := []) rfl rfl ?_
  refine vm_J.call vm_q267 (Z := vm_M262) (n := 0) (k := 0) (mi := 262) (pc := 13) (en := (13, .invokevirtual 424, 3, [262, 1660, 0], .null)) rfl trivial rfl rfl vm_z262 (av := [.ref 152]) (rest := []) (r_isMade_y hR hw hw2 hw0) ⟨_, _, rfl, rfl, _, 11, _, hR.c152, rfl, rfl, rfl⟩ (Nat.le_of_ble_eq_true rfl) ⟨Nat.le_of_ble_eq_true rfl, Nat.le_of_ble_eq_true rfl⟩ ⟨Nat.le_of_ble_eq_true rfl, Nat.le_of_ble_eq_true rfl⟩ ?_
  show vm_J _ _ _ (16, (0, 0), [.ref 152, .int 1, .retAddr 0, .retAddr 0], [.int 1]) (G, (vm_up I 152 40 0), F) _ _
  refine vm_J.go vm_q267 (k := 1) (hs := []) (f' := (bif vm_ic .ne 1 0 then 22 else 19, (0, 0), [.ref 152, .int 1, .retAddr 0, .retAddr 0], [])) (h' := (G, (vm_up I 152 40 0), F)) (hs' := []) rfl rfl ?_
  refine vm_J.bT (by decide) ?_
  refine vm_J.go vm_q267 (k := 4) (hs := [vm_shR, (0, 2, [])]) (f' := (28, (0, 0), [.ref 152, .int 1, .retAddr 0, .retAddr 0], [.int ((vm_up I 152 40 0) 175 0)])) (h' := (G, (vm_up I 152 40 0), F)) (hs' := []) rfl (vm_b2 rfl (vm_b2 (vm_b2 (vm_hG hR.c152) rfl) (vm_b2 rfl (vm_b2 (vm_b2 (vm_hG hR.c175) rfl) rfl)))) ?_
  rw [((Eq.trans (congrFun (vm_up_f _ 152 _ _ 175 (by decide)) 0) hy) : (vm_up I 152 40 0) 175 0 = 2)]
  refine vm_J.go vm_q267 (k := 3) (hs := []) (f' := (bif vm_ic .eq 1 0 then 58 else 33, (0, 0), [.ref 152, .int 1, .int 2, .retAddr 0], [])) (h' := (G, (vm_up I 152 40 0), F)) (hs' := []) rfl rfl ?_
  refine vm_J.bF (by decide) ?_
  refine vm_J.go vm_q267 (k := 3) (hs := []) (f' := (bif vm_ic .eq 2 1 then 58 else 38, (0, 0), [.ref 152, .int 1, .int 2, .retAddr 0], [])) (h' := (G, (vm_up I 152 40 0), F)) (hs' := []) rfl rfl ?_
  refine vm_J.bF (by decide) ?_
  refine vm_J.go vm_q267 (k := 3) (hs := []) (f' := (bif vm_ic .ne 1 1 then 48 else 43, (0, 0), [.ref 152, .int 1, .int 2, .retAddr 0], [])) (h' := (G, (vm_up I 152 40 0), F)) (hs' := []) rfl rfl ?_
  refine vm_J.bF (by decide) ?_
  refine vm_J.go vm_q267 (k := 3) (hs := []) (f' := (bif vm_ic .eq 2 2 then 58 else 48, (0, 0), [.ref 152, .int 1, .int 2, .retAddr 0], [])) (h' := (G, (vm_up I 152 40 0), F)) (hs' := []) rfl rfl ?_
  refine vm_J.bT (by decide) ?_
  refine vm_J.go vm_q267 (k := 5) (hs := []) (f' := (bif vm_ic .eq 1 0 then 72 else 68, (0, 0), [.ref 152, .int 1, .int 2, .int 1], [])) (h' := (G, (vm_up I 152 40 0), F)) (hs' := []) rfl rfl ?_
  refine vm_J.bF (by decide) ?_
  refine vm_J.go vm_q267 (k := 2) (hs := []) (f' := (74, (0, 0), [.ref 152, .int 1, .int 2, .int 1], [.int 2])) (h' := (G, (vm_up I 152 40 0), F)) (hs' := []) rfl rfl ?_
  exact vm_J.end vm_q267 (en := (74, .ireturn, 1, [], .null)) rfl rfl vm_rI (Nat.zero_le _) (Nat.zero_le _) rfl
set_option maxHeartbeats 4000000 in
set_option maxRecDepth 20000 in
/-- DitherDeskModel.taken -/
theorem r_taken_2_2 {l : Launch} {X : vm_Cx} {G : List vm_Sh} {I : Nat → Nat → Int32} {F : Nat → Nat → UInt32} {w : Nat} (hR : vm_isR G) (hw : I 173 0 = nI w) (hw2 : w ≤ 12) (hw0 : 0 < w) (hy : I 175 0 = 2) : vm_K l X vm_M267 [.ref 152, .int 2] (G, I, F) (some (.int (2))) (G, (vm_up I 152 40 0), F) := by
  refine vm_K.mk (by decide) (Nat.le_of_ble_eq_true rfl) ?_
  show vm_J _ _ _ (0, (0, 0), [.ref 152, .int 2, .retAddr 0, .retAddr 0], []) _ _ _
  refine vm_J.go vm_q267 (k := 3) (hs := []) (f' := (3, (0, 0), [.ref 152, .int 2, .retAddr 0, .retAddr 0], [.int 4, .int 0, .int 2])) (h' := (G, I, F)) (hs' := []) rfl rfl ?_
  refine vm_J.call vm_q267 (Z := vm_M168) (n := 3) (k := 1) (mi := 168) (pc := 3) (en := (3, .invokestatic 141, 3, [168, 1302, 0], .null)) rfl trivial rfl rfl vm_z168 (av := [.int 2, .int 0, .int 4]) (rest := []) (r_isIn_y (v := 2) (a := 0) (b := 4) (by decide)) rfl (Nat.le_of_ble_eq_true rfl) ⟨Nat.le_of_ble_eq_true rfl, Nat.le_of_ble_eq_true rfl⟩ ⟨Nat.le_of_ble_eq_true rfl, Nat.le_of_ble_eq_true rfl⟩ ?_
  show vm_J _ _ _ (6, (0, 0), [.ref 152, .int 2, .retAddr 0, .retAddr 0], [.int 1]) (G, I, F) _ _
  refine vm_J.go vm_q267 (k := 1) (hs := []) (f' := (bif vm_ic .ne 1 0 then 12 else 9, (0, 0), [.ref 152, .int 2, .retAddr 0, .retAddr 0], [])) (h' := (G, I, F)) (hs' := []) rfl rfl ?_
  refine vm_J.bT (by decide) ?_
  refine vm_J.go vm_q267 (k := 1) (hs := []) (f' := (13, (0, 0), [.ref 152, .int 2, .retAddr 0, .retAddr 0], [.ref 152])) (h' := (G, I, F)) (hs' := []) rfl rfl ?_
  refine vm_J.call vm_q267 (Z := vm_M262) (n := 0) (k := 0) (mi := 262) (pc := 13) (en := (13, .invokevirtual 424, 3, [262, 1660, 0], .null)) rfl trivial rfl rfl vm_z262 (av := [.ref 152]) (rest := []) (r_isMade_y hR hw hw2 hw0) ⟨_, _, rfl, rfl, _, 11, _, hR.c152, rfl, rfl, rfl⟩ (Nat.le_of_ble_eq_true rfl) ⟨Nat.le_of_ble_eq_true rfl, Nat.le_of_ble_eq_true rfl⟩ ⟨Nat.le_of_ble_eq_true rfl, Nat.le_of_ble_eq_true rfl⟩ ?_
  show vm_J _ _ _ (16, (0, 0), [.ref 152, .int 2, .retAddr 0, .retAddr 0], [.int 1]) (G, (vm_up I 152 40 0), F) _ _
  refine vm_J.go vm_q267 (k := 1) (hs := []) (f' := (bif vm_ic .ne 1 0 then 22 else 19, (0, 0), [.ref 152, .int 2, .retAddr 0, .retAddr 0], [])) (h' := (G, (vm_up I 152 40 0), F)) (hs' := []) rfl rfl ?_
  refine vm_J.bT (by decide) ?_
  refine vm_J.go vm_q267 (k := 4) (hs := [vm_shR, (0, 2, [])]) (f' := (28, (0, 0), [.ref 152, .int 2, .retAddr 0, .retAddr 0], [.int ((vm_up I 152 40 0) 175 0)])) (h' := (G, (vm_up I 152 40 0), F)) (hs' := []) rfl (vm_b2 rfl (vm_b2 (vm_b2 (vm_hG hR.c152) rfl) (vm_b2 rfl (vm_b2 (vm_b2 (vm_hG hR.c175) rfl) rfl)))) ?_
  rw [((Eq.trans (congrFun (vm_up_f _ 152 _ _ 175 (by decide)) 0) hy) : (vm_up I 152 40 0) 175 0 = 2)]
  refine vm_J.go vm_q267 (k := 3) (hs := []) (f' := (bif vm_ic .eq 2 0 then 58 else 33, (0, 0), [.ref 152, .int 2, .int 2, .retAddr 0], [])) (h' := (G, (vm_up I 152 40 0), F)) (hs' := []) rfl rfl ?_
  refine vm_J.bF (by decide) ?_
  refine vm_J.go vm_q267 (k := 3) (hs := []) (f' := (bif vm_ic .eq 2 2 then 58 else 38, (0, 0), [.ref 152, .int 2, .int 2, .retAddr 0], [])) (h' := (G, (vm_up I 152 40 0), F)) (hs' := []) rfl rfl ?_
  refine vm_J.bT (by decide) ?_
  refine vm_J.go vm_q267 (k := 5) (hs := []) (f' := (bif vm_ic .eq 1 0 then 72 else 68, (0, 0), [.ref 152, .int 2, .int 2, .int 1], [])) (h' := (G, (vm_up I 152 40 0), F)) (hs' := []) rfl rfl ?_
  refine vm_J.bF (by decide) ?_
  refine vm_J.go vm_q267 (k := 2) (hs := []) (f' := (74, (0, 0), [.ref 152, .int 2, .int 2, .int 1], [.int 2])) (h' := (G, (vm_up I 152 40 0), F)) (hs' := []) rfl rfl ?_
  exact vm_J.end vm_q267 (en := (74, .ireturn, 1, [], .null)) rfl rfl vm_rI (Nat.zero_le _) (Nat.zero_le _) rfl
set_option maxHeartbeats 4000000 in
set_option maxRecDepth 20000 in
/-- DitherDeskModel.taken -/
theorem r_taken_2_3 {l : Launch} {X : vm_Cx} {G : List vm_Sh} {I : Nat → Nat → Int32} {F : Nat → Nat → UInt32} {w : Nat} (hR : vm_isR G) (hw : I 173 0 = nI w) (hw2 : w ≤ 12) (hw0 : 0 < w) (hy : I 175 0 = 2) : vm_K l X vm_M267 [.ref 152, .int 3] (G, I, F) (some (.int (-12))) (G, (vm_up I 152 40 0), F) := by
  refine vm_K.mk (by decide) (Nat.le_of_ble_eq_true rfl) ?_
  show vm_J _ _ _ (0, (0, 0), [.ref 152, .int 3, .retAddr 0, .retAddr 0], []) _ _ _
  refine vm_J.go vm_q267 (k := 3) (hs := []) (f' := (3, (0, 0), [.ref 152, .int 3, .retAddr 0, .retAddr 0], [.int 4, .int 0, .int 3])) (h' := (G, I, F)) (hs' := []) rfl rfl ?_
  refine vm_J.call vm_q267 (Z := vm_M168) (n := 3) (k := 1) (mi := 168) (pc := 3) (en := (3, .invokestatic 141, 3, [168, 1302, 0], .null)) rfl trivial rfl rfl vm_z168 (av := [.int 3, .int 0, .int 4]) (rest := []) (r_isIn_y (v := 3) (a := 0) (b := 4) (by decide)) rfl (Nat.le_of_ble_eq_true rfl) ⟨Nat.le_of_ble_eq_true rfl, Nat.le_of_ble_eq_true rfl⟩ ⟨Nat.le_of_ble_eq_true rfl, Nat.le_of_ble_eq_true rfl⟩ ?_
  show vm_J _ _ _ (6, (0, 0), [.ref 152, .int 3, .retAddr 0, .retAddr 0], [.int 1]) (G, I, F) _ _
  refine vm_J.go vm_q267 (k := 1) (hs := []) (f' := (bif vm_ic .ne 1 0 then 12 else 9, (0, 0), [.ref 152, .int 3, .retAddr 0, .retAddr 0], [])) (h' := (G, I, F)) (hs' := []) rfl rfl ?_
  refine vm_J.bT (by decide) ?_
  refine vm_J.go vm_q267 (k := 1) (hs := []) (f' := (13, (0, 0), [.ref 152, .int 3, .retAddr 0, .retAddr 0], [.ref 152])) (h' := (G, I, F)) (hs' := []) rfl rfl ?_
  refine vm_J.call vm_q267 (Z := vm_M262) (n := 0) (k := 0) (mi := 262) (pc := 13) (en := (13, .invokevirtual 424, 3, [262, 1660, 0], .null)) rfl trivial rfl rfl vm_z262 (av := [.ref 152]) (rest := []) (r_isMade_y hR hw hw2 hw0) ⟨_, _, rfl, rfl, _, 11, _, hR.c152, rfl, rfl, rfl⟩ (Nat.le_of_ble_eq_true rfl) ⟨Nat.le_of_ble_eq_true rfl, Nat.le_of_ble_eq_true rfl⟩ ⟨Nat.le_of_ble_eq_true rfl, Nat.le_of_ble_eq_true rfl⟩ ?_
  show vm_J _ _ _ (16, (0, 0), [.ref 152, .int 3, .retAddr 0, .retAddr 0], [.int 1]) (G, (vm_up I 152 40 0), F) _ _
  refine vm_J.go vm_q267 (k := 1) (hs := []) (f' := (bif vm_ic .ne 1 0 then 22 else 19, (0, 0), [.ref 152, .int 3, .retAddr 0, .retAddr 0], [])) (h' := (G, (vm_up I 152 40 0), F)) (hs' := []) rfl rfl ?_
  refine vm_J.bT (by decide) ?_
  refine vm_J.go vm_q267 (k := 4) (hs := [vm_shR, (0, 2, [])]) (f' := (28, (0, 0), [.ref 152, .int 3, .retAddr 0, .retAddr 0], [.int ((vm_up I 152 40 0) 175 0)])) (h' := (G, (vm_up I 152 40 0), F)) (hs' := []) rfl (vm_b2 rfl (vm_b2 (vm_b2 (vm_hG hR.c152) rfl) (vm_b2 rfl (vm_b2 (vm_b2 (vm_hG hR.c175) rfl) rfl)))) ?_
  rw [((Eq.trans (congrFun (vm_up_f _ 152 _ _ 175 (by decide)) 0) hy) : (vm_up I 152 40 0) 175 0 = 2)]
  refine vm_J.go vm_q267 (k := 3) (hs := []) (f' := (bif vm_ic .eq 3 0 then 58 else 33, (0, 0), [.ref 152, .int 3, .int 2, .retAddr 0], [])) (h' := (G, (vm_up I 152 40 0), F)) (hs' := []) rfl rfl ?_
  refine vm_J.bF (by decide) ?_
  refine vm_J.go vm_q267 (k := 3) (hs := []) (f' := (bif vm_ic .eq 2 3 then 58 else 38, (0, 0), [.ref 152, .int 3, .int 2, .retAddr 0], [])) (h' := (G, (vm_up I 152 40 0), F)) (hs' := []) rfl rfl ?_
  refine vm_J.bF (by decide) ?_
  refine vm_J.go vm_q267 (k := 3) (hs := []) (f' := (bif vm_ic .ne 3 1 then 48 else 43, (0, 0), [.ref 152, .int 3, .int 2, .retAddr 0], [])) (h' := (G, (vm_up I 152 40 0), F)) (hs' := []) rfl rfl ?_
  refine vm_J.bT (by decide) ?_
  refine vm_J.go vm_q267 (k := 3) (hs := []) (f' := (bif vm_ic .ne 3 3 then 62 else 53, (0, 0), [.ref 152, .int 3, .int 2, .retAddr 0], [])) (h' := (G, (vm_up I 152 40 0), F)) (hs' := []) rfl rfl ?_
  refine vm_J.bF (by decide) ?_
  refine vm_J.go vm_q267 (k := 3) (hs := []) (f' := (bif vm_ic .ne 2 4 then 62 else 58, (0, 0), [.ref 152, .int 3, .int 2, .retAddr 0], [])) (h' := (G, (vm_up I 152 40 0), F)) (hs' := []) rfl rfl ?_
  refine vm_J.bT (by decide) ?_
  refine vm_J.go vm_q267 (k := 4) (hs := []) (f' := (bif vm_ic .eq 0 0 then 72 else 68, (0, 0), [.ref 152, .int 3, .int 2, .int 0], [])) (h' := (G, (vm_up I 152 40 0), F)) (hs' := []) rfl rfl ?_
  refine vm_J.bT (by decide) ?_
  refine vm_J.go vm_q267 (k := 1) (hs := []) (f' := (74, (0, 0), [.ref 152, .int 3, .int 2, .int 0], [.int (-12)])) (h' := (G, (vm_up I 152 40 0), F)) (hs' := []) rfl rfl ?_
  exact vm_J.end vm_q267 (en := (74, .ireturn, 1, [], .null)) rfl rfl vm_rI (Nat.zero_le _) (Nat.zero_le _) rfl
set_option maxHeartbeats 4000000 in
set_option maxRecDepth 20000 in
/-- DitherDeskModel.taken -/
theorem r_taken_2_4 {l : Launch} {X : vm_Cx} {G : List vm_Sh} {I : Nat → Nat → Int32} {F : Nat → Nat → UInt32} {w : Nat} (hR : vm_isR G) (hw : I 173 0 = nI w) (hw2 : w ≤ 12) (hw0 : 0 < w) (hy : I 175 0 = 2) : vm_K l X vm_M267 [.ref 152, .int 4] (G, I, F) (some (.int (-12))) (G, (vm_up I 152 40 0), F) := by
  refine vm_K.mk (by decide) (Nat.le_of_ble_eq_true rfl) ?_
  show vm_J _ _ _ (0, (0, 0), [.ref 152, .int 4, .retAddr 0, .retAddr 0], []) _ _ _
  refine vm_J.go vm_q267 (k := 3) (hs := []) (f' := (3, (0, 0), [.ref 152, .int 4, .retAddr 0, .retAddr 0], [.int 4, .int 0, .int 4])) (h' := (G, I, F)) (hs' := []) rfl rfl ?_
  refine vm_J.call vm_q267 (Z := vm_M168) (n := 3) (k := 1) (mi := 168) (pc := 3) (en := (3, .invokestatic 141, 3, [168, 1302, 0], .null)) rfl trivial rfl rfl vm_z168 (av := [.int 4, .int 0, .int 4]) (rest := []) (r_isIn_y (v := 4) (a := 0) (b := 4) (by decide)) rfl (Nat.le_of_ble_eq_true rfl) ⟨Nat.le_of_ble_eq_true rfl, Nat.le_of_ble_eq_true rfl⟩ ⟨Nat.le_of_ble_eq_true rfl, Nat.le_of_ble_eq_true rfl⟩ ?_
  show vm_J _ _ _ (6, (0, 0), [.ref 152, .int 4, .retAddr 0, .retAddr 0], [.int 1]) (G, I, F) _ _
  refine vm_J.go vm_q267 (k := 1) (hs := []) (f' := (bif vm_ic .ne 1 0 then 12 else 9, (0, 0), [.ref 152, .int 4, .retAddr 0, .retAddr 0], [])) (h' := (G, I, F)) (hs' := []) rfl rfl ?_
  refine vm_J.bT (by decide) ?_
  refine vm_J.go vm_q267 (k := 1) (hs := []) (f' := (13, (0, 0), [.ref 152, .int 4, .retAddr 0, .retAddr 0], [.ref 152])) (h' := (G, I, F)) (hs' := []) rfl rfl ?_
  refine vm_J.call vm_q267 (Z := vm_M262) (n := 0) (k := 0) (mi := 262) (pc := 13) (en := (13, .invokevirtual 424, 3, [262, 1660, 0], .null)) rfl trivial rfl rfl vm_z262 (av := [.ref 152]) (rest := []) (r_isMade_y hR hw hw2 hw0) ⟨_, _, rfl, rfl, _, 11, _, hR.c152, rfl, rfl, rfl⟩ (Nat.le_of_ble_eq_true rfl) ⟨Nat.le_of_ble_eq_true rfl, Nat.le_of_ble_eq_true rfl⟩ ⟨Nat.le_of_ble_eq_true rfl, Nat.le_of_ble_eq_true rfl⟩ ?_
  show vm_J _ _ _ (16, (0, 0), [.ref 152, .int 4, .retAddr 0, .retAddr 0], [.int 1]) (G, (vm_up I 152 40 0), F) _ _
  refine vm_J.go vm_q267 (k := 1) (hs := []) (f' := (bif vm_ic .ne 1 0 then 22 else 19, (0, 0), [.ref 152, .int 4, .retAddr 0, .retAddr 0], [])) (h' := (G, (vm_up I 152 40 0), F)) (hs' := []) rfl rfl ?_
  refine vm_J.bT (by decide) ?_
  refine vm_J.go vm_q267 (k := 4) (hs := [vm_shR, (0, 2, [])]) (f' := (28, (0, 0), [.ref 152, .int 4, .retAddr 0, .retAddr 0], [.int ((vm_up I 152 40 0) 175 0)])) (h' := (G, (vm_up I 152 40 0), F)) (hs' := []) rfl (vm_b2 rfl (vm_b2 (vm_b2 (vm_hG hR.c152) rfl) (vm_b2 rfl (vm_b2 (vm_b2 (vm_hG hR.c175) rfl) rfl)))) ?_
  rw [((Eq.trans (congrFun (vm_up_f _ 152 _ _ 175 (by decide)) 0) hy) : (vm_up I 152 40 0) 175 0 = 2)]
  refine vm_J.go vm_q267 (k := 3) (hs := []) (f' := (bif vm_ic .eq 4 0 then 58 else 33, (0, 0), [.ref 152, .int 4, .int 2, .retAddr 0], [])) (h' := (G, (vm_up I 152 40 0), F)) (hs' := []) rfl rfl ?_
  refine vm_J.bF (by decide) ?_
  refine vm_J.go vm_q267 (k := 3) (hs := []) (f' := (bif vm_ic .eq 2 4 then 58 else 38, (0, 0), [.ref 152, .int 4, .int 2, .retAddr 0], [])) (h' := (G, (vm_up I 152 40 0), F)) (hs' := []) rfl rfl ?_
  refine vm_J.bF (by decide) ?_
  refine vm_J.go vm_q267 (k := 3) (hs := []) (f' := (bif vm_ic .ne 4 1 then 48 else 43, (0, 0), [.ref 152, .int 4, .int 2, .retAddr 0], [])) (h' := (G, (vm_up I 152 40 0), F)) (hs' := []) rfl rfl ?_
  refine vm_J.bT (by decide) ?_
  refine vm_J.go vm_q267 (k := 3) (hs := []) (f' := (bif vm_ic .ne 4 3 then 62 else 53, (0, 0), [.ref 152, .int 4, .int 2, .retAddr 0], [])) (h' := (G, (vm_up I 152 40 0), F)) (hs' := []) rfl rfl ?_
  refine vm_J.bT (by decide) ?_
  refine vm_J.go vm_q267 (k := 4) (hs := []) (f' := (bif vm_ic .eq 0 0 then 72 else 68, (0, 0), [.ref 152, .int 4, .int 2, .int 0], [])) (h' := (G, (vm_up I 152 40 0), F)) (hs' := []) rfl rfl ?_
  refine vm_J.bT (by decide) ?_
  refine vm_J.go vm_q267 (k := 1) (hs := []) (f' := (74, (0, 0), [.ref 152, .int 4, .int 2, .int 0], [.int (-12)])) (h' := (G, (vm_up I 152 40 0), F)) (hs' := []) rfl rfl ?_
  exact vm_J.end vm_q267 (en := (74, .ireturn, 1, [], .null)) rfl rfl vm_rI (Nat.zero_le _) (Nat.zero_le _) rfl
set_option maxHeartbeats 4000000 in
set_option maxRecDepth 20000 in
/-- DitherDeskModel.taken -/
theorem r_taken_3_0 {l : Launch} {X : vm_Cx} {G : List vm_Sh} {I : Nat → Nat → Int32} {F : Nat → Nat → UInt32} {w : Nat} (hR : vm_isR G) (hw : I 173 0 = nI w) (hw2 : w ≤ 12) (hw0 : 0 < w) (hy : I 175 0 = 3) : vm_K l X vm_M267 [.ref 152, .int 0] (G, I, F) (some (.int (3))) (G, (vm_up I 152 40 0), F) := by
  refine vm_K.mk (by decide) (Nat.le_of_ble_eq_true rfl) ?_
  show vm_J _ _ _ (0, (0, 0), [.ref 152, .int 0, .retAddr 0, .retAddr 0], []) _ _ _
  refine vm_J.go vm_q267 (k := 3) (hs := []) (f' := (3, (0, 0), [.ref 152, .int 0, .retAddr 0, .retAddr 0], [.int 4, .int 0, .int 0])) (h' := (G, I, F)) (hs' := []) rfl rfl ?_
  refine vm_J.call vm_q267 (Z := vm_M168) (n := 3) (k := 1) (mi := 168) (pc := 3) (en := (3, .invokestatic 141, 3, [168, 1302, 0], .null)) rfl trivial rfl rfl vm_z168 (av := [.int 0, .int 0, .int 4]) (rest := []) (r_isIn_y (v := 0) (a := 0) (b := 4) (by decide)) rfl (Nat.le_of_ble_eq_true rfl) ⟨Nat.le_of_ble_eq_true rfl, Nat.le_of_ble_eq_true rfl⟩ ⟨Nat.le_of_ble_eq_true rfl, Nat.le_of_ble_eq_true rfl⟩ ?_
  show vm_J _ _ _ (6, (0, 0), [.ref 152, .int 0, .retAddr 0, .retAddr 0], [.int 1]) (G, I, F) _ _
  refine vm_J.go vm_q267 (k := 1) (hs := []) (f' := (bif vm_ic .ne 1 0 then 12 else 9, (0, 0), [.ref 152, .int 0, .retAddr 0, .retAddr 0], [])) (h' := (G, I, F)) (hs' := []) rfl rfl ?_
  refine vm_J.bT (by decide) ?_
  refine vm_J.go vm_q267 (k := 1) (hs := []) (f' := (13, (0, 0), [.ref 152, .int 0, .retAddr 0, .retAddr 0], [.ref 152])) (h' := (G, I, F)) (hs' := []) rfl rfl ?_
  refine vm_J.call vm_q267 (Z := vm_M262) (n := 0) (k := 0) (mi := 262) (pc := 13) (en := (13, .invokevirtual 424, 3, [262, 1660, 0], .null)) rfl trivial rfl rfl vm_z262 (av := [.ref 152]) (rest := []) (r_isMade_y hR hw hw2 hw0) ⟨_, _, rfl, rfl, _, 11, _, hR.c152, rfl, rfl, rfl⟩ (Nat.le_of_ble_eq_true rfl) ⟨Nat.le_of_ble_eq_true rfl, Nat.le_of_ble_eq_true rfl⟩ ⟨Nat.le_of_ble_eq_true rfl, Nat.le_of_ble_eq_true rfl⟩ ?_
  show vm_J _ _ _ (16, (0, 0), [.ref 152, .int 0, .retAddr 0, .retAddr 0], [.int 1]) (G, (vm_up I 152 40 0), F) _ _
  refine vm_J.go vm_q267 (k := 1) (hs := []) (f' := (bif vm_ic .ne 1 0 then 22 else 19, (0, 0), [.ref 152, .int 0, .retAddr 0, .retAddr 0], [])) (h' := (G, (vm_up I 152 40 0), F)) (hs' := []) rfl rfl ?_
  refine vm_J.bT (by decide) ?_
  refine vm_J.go vm_q267 (k := 4) (hs := [vm_shR, (0, 2, [])]) (f' := (28, (0, 0), [.ref 152, .int 0, .retAddr 0, .retAddr 0], [.int ((vm_up I 152 40 0) 175 0)])) (h' := (G, (vm_up I 152 40 0), F)) (hs' := []) rfl (vm_b2 rfl (vm_b2 (vm_b2 (vm_hG hR.c152) rfl) (vm_b2 rfl (vm_b2 (vm_b2 (vm_hG hR.c175) rfl) rfl)))) ?_
  rw [((Eq.trans (congrFun (vm_up_f _ 152 _ _ 175 (by decide)) 0) hy) : (vm_up I 152 40 0) 175 0 = 3)]
  refine vm_J.go vm_q267 (k := 3) (hs := []) (f' := (bif vm_ic .eq 0 0 then 58 else 33, (0, 0), [.ref 152, .int 0, .int 3, .retAddr 0], [])) (h' := (G, (vm_up I 152 40 0), F)) (hs' := []) rfl rfl ?_
  refine vm_J.bT (by decide) ?_
  refine vm_J.go vm_q267 (k := 5) (hs := []) (f' := (bif vm_ic .eq 1 0 then 72 else 68, (0, 0), [.ref 152, .int 0, .int 3, .int 1], [])) (h' := (G, (vm_up I 152 40 0), F)) (hs' := []) rfl rfl ?_
  refine vm_J.bF (by decide) ?_
  refine vm_J.go vm_q267 (k := 2) (hs := []) (f' := (74, (0, 0), [.ref 152, .int 0, .int 3, .int 1], [.int 3])) (h' := (G, (vm_up I 152 40 0), F)) (hs' := []) rfl rfl ?_
  exact vm_J.end vm_q267 (en := (74, .ireturn, 1, [], .null)) rfl rfl vm_rI (Nat.zero_le _) (Nat.zero_le _) rfl
set_option maxHeartbeats 4000000 in
set_option maxRecDepth 20000 in
/-- DitherDeskModel.taken -/
theorem r_taken_3_1 {l : Launch} {X : vm_Cx} {G : List vm_Sh} {I : Nat → Nat → Int32} {F : Nat → Nat → UInt32} {w : Nat} (hR : vm_isR G) (hw : I 173 0 = nI w) (hw2 : w ≤ 12) (hw0 : 0 < w) (hy : I 175 0 = 3) : vm_K l X vm_M267 [.ref 152, .int 1] (G, I, F) (some (.int (-12))) (G, (vm_up I 152 40 0), F) := by
  refine vm_K.mk (by decide) (Nat.le_of_ble_eq_true rfl) ?_
  show vm_J _ _ _ (0, (0, 0), [.ref 152, .int 1, .retAddr 0, .retAddr 0], []) _ _ _
  refine vm_J.go vm_q267 (k := 3) (hs := []) (f' := (3, (0, 0), [.ref 152, .int 1, .retAddr 0, .retAddr 0], [.int 4, .int 0, .int 1])) (h' := (G, I, F)) (hs' := []) rfl rfl ?_
  refine vm_J.call vm_q267 (Z := vm_M168) (n := 3) (k := 1) (mi := 168) (pc := 3) (en := (3, .invokestatic 141, 3, [168, 1302, 0], .null)) rfl trivial rfl rfl vm_z168 (av := [.int 1, .int 0, .int 4]) (rest := []) (r_isIn_y (v := 1) (a := 0) (b := 4) (by decide)) rfl (Nat.le_of_ble_eq_true rfl) ⟨Nat.le_of_ble_eq_true rfl, Nat.le_of_ble_eq_true rfl⟩ ⟨Nat.le_of_ble_eq_true rfl, Nat.le_of_ble_eq_true rfl⟩ ?_
  show vm_J _ _ _ (6, (0, 0), [.ref 152, .int 1, .retAddr 0, .retAddr 0], [.int 1]) (G, I, F) _ _
  refine vm_J.go vm_q267 (k := 1) (hs := []) (f' := (bif vm_ic .ne 1 0 then 12 else 9, (0, 0), [.ref 152, .int 1, .retAddr 0, .retAddr 0], [])) (h' := (G, I, F)) (hs' := []) rfl rfl ?_
  refine vm_J.bT (by decide) ?_
  refine vm_J.go vm_q267 (k := 1) (hs := []) (f' := (13, (0, 0), [.ref 152, .int 1, .retAddr 0, .retAddr 0], [.ref 152])) (h' := (G, I, F)) (hs' := []) rfl rfl ?_
  refine vm_J.call vm_q267 (Z := vm_M262) (n := 0) (k := 0) (mi := 262) (pc := 13) (en := (13, .invokevirtual 424, 3, [262, 1660, 0], .null)) rfl trivial rfl rfl vm_z262 (av := [.ref 152]) (rest := []) (r_isMade_y hR hw hw2 hw0) ⟨_, _, rfl, rfl, _, 11, _, hR.c152, rfl, rfl, rfl⟩ (Nat.le_of_ble_eq_true rfl) ⟨Nat.le_of_ble_eq_true rfl, Nat.le_of_ble_eq_true rfl⟩ ⟨Nat.le_of_ble_eq_true rfl, Nat.le_of_ble_eq_true rfl⟩ ?_
  show vm_J _ _ _ (16, (0, 0), [.ref 152, .int 1, .retAddr 0, .retAddr 0], [.int 1]) (G, (vm_up I 152 40 0), F) _ _
  refine vm_J.go vm_q267 (k := 1) (hs := []) (f' := (bif vm_ic .ne 1 0 then 22 else 19, (0, 0), [.ref 152, .int 1, .retAddr 0, .retAddr 0], [])) (h' := (G, (vm_up I 152 40 0), F)) (hs' := []) rfl rfl ?_
  refine vm_J.bT (by decide) ?_
  refine vm_J.go vm_q267 (k := 4) (hs := [vm_shR, (0, 2, [])]) (f' := (28, (0, 0), [.ref 152, .int 1, .retAddr 0, .retAddr 0], [.int ((vm_up I 152 40 0) 175 0)])) (h' := (G, (vm_up I 152 40 0), F)) (hs' := []) rfl (vm_b2 rfl (vm_b2 (vm_b2 (vm_hG hR.c152) rfl) (vm_b2 rfl (vm_b2 (vm_b2 (vm_hG hR.c175) rfl) rfl)))) ?_
  rw [((Eq.trans (congrFun (vm_up_f _ 152 _ _ 175 (by decide)) 0) hy) : (vm_up I 152 40 0) 175 0 = 3)]
  refine vm_J.go vm_q267 (k := 3) (hs := []) (f' := (bif vm_ic .eq 1 0 then 58 else 33, (0, 0), [.ref 152, .int 1, .int 3, .retAddr 0], [])) (h' := (G, (vm_up I 152 40 0), F)) (hs' := []) rfl rfl ?_
  refine vm_J.bF (by decide) ?_
  refine vm_J.go vm_q267 (k := 3) (hs := []) (f' := (bif vm_ic .eq 3 1 then 58 else 38, (0, 0), [.ref 152, .int 1, .int 3, .retAddr 0], [])) (h' := (G, (vm_up I 152 40 0), F)) (hs' := []) rfl rfl ?_
  refine vm_J.bF (by decide) ?_
  refine vm_J.go vm_q267 (k := 3) (hs := []) (f' := (bif vm_ic .ne 1 1 then 48 else 43, (0, 0), [.ref 152, .int 1, .int 3, .retAddr 0], [])) (h' := (G, (vm_up I 152 40 0), F)) (hs' := []) rfl rfl ?_
  refine vm_J.bF (by decide) ?_
  refine vm_J.go vm_q267 (k := 3) (hs := []) (f' := (bif vm_ic .eq 3 2 then 58 else 48, (0, 0), [.ref 152, .int 1, .int 3, .retAddr 0], [])) (h' := (G, (vm_up I 152 40 0), F)) (hs' := []) rfl rfl ?_
  refine vm_J.bF (by decide) ?_
  refine vm_J.go vm_q267 (k := 3) (hs := []) (f' := (bif vm_ic .ne 1 3 then 62 else 53, (0, 0), [.ref 152, .int 1, .int 3, .retAddr 0], [])) (h' := (G, (vm_up I 152 40 0), F)) (hs' := []) rfl rfl ?_
  refine vm_J.bT (by decide) ?_
  refine vm_J.go vm_q267 (k := 4) (hs := []) (f' := (bif vm_ic .eq 0 0 then 72 else 68, (0, 0), [.ref 152, .int 1, .int 3, .int 0], [])) (h' := (G, (vm_up I 152 40 0), F)) (hs' := []) rfl rfl ?_
  refine vm_J.bT (by decide) ?_
  refine vm_J.go vm_q267 (k := 1) (hs := []) (f' := (74, (0, 0), [.ref 152, .int 1, .int 3, .int 0], [.int (-12)])) (h' := (G, (vm_up I 152 40 0), F)) (hs' := []) rfl rfl ?_
  exact vm_J.end vm_q267 (en := (74, .ireturn, 1, [], .null)) rfl rfl vm_rI (Nat.zero_le _) (Nat.zero_le _) rfl
set_option maxHeartbeats 4000000 in
set_option maxRecDepth 20000 in
/-- DitherDeskModel.taken -/
theorem r_taken_3_2 {l : Launch} {X : vm_Cx} {G : List vm_Sh} {I : Nat → Nat → Int32} {F : Nat → Nat → UInt32} {w : Nat} (hR : vm_isR G) (hw : I 173 0 = nI w) (hw2 : w ≤ 12) (hw0 : 0 < w) (hy : I 175 0 = 3) : vm_K l X vm_M267 [.ref 152, .int 2] (G, I, F) (some (.int (-12))) (G, (vm_up I 152 40 0), F) := by
  refine vm_K.mk (by decide) (Nat.le_of_ble_eq_true rfl) ?_
  show vm_J _ _ _ (0, (0, 0), [.ref 152, .int 2, .retAddr 0, .retAddr 0], []) _ _ _
  refine vm_J.go vm_q267 (k := 3) (hs := []) (f' := (3, (0, 0), [.ref 152, .int 2, .retAddr 0, .retAddr 0], [.int 4, .int 0, .int 2])) (h' := (G, I, F)) (hs' := []) rfl rfl ?_
  refine vm_J.call vm_q267 (Z := vm_M168) (n := 3) (k := 1) (mi := 168) (pc := 3) (en := (3, .invokestatic 141, 3, [168, 1302, 0], .null)) rfl trivial rfl rfl vm_z168 (av := [.int 2, .int 0, .int 4]) (rest := []) (r_isIn_y (v := 2) (a := 0) (b := 4) (by decide)) rfl (Nat.le_of_ble_eq_true rfl) ⟨Nat.le_of_ble_eq_true rfl, Nat.le_of_ble_eq_true rfl⟩ ⟨Nat.le_of_ble_eq_true rfl, Nat.le_of_ble_eq_true rfl⟩ ?_
  show vm_J _ _ _ (6, (0, 0), [.ref 152, .int 2, .retAddr 0, .retAddr 0], [.int 1]) (G, I, F) _ _
  refine vm_J.go vm_q267 (k := 1) (hs := []) (f' := (bif vm_ic .ne 1 0 then 12 else 9, (0, 0), [.ref 152, .int 2, .retAddr 0, .retAddr 0], [])) (h' := (G, I, F)) (hs' := []) rfl rfl ?_
  refine vm_J.bT (by decide) ?_
  refine vm_J.go vm_q267 (k := 1) (hs := []) (f' := (13, (0, 0), [.ref 152, .int 2, .retAddr 0, .retAddr 0], [.ref 152])) (h' := (G, I, F)) (hs' := []) rfl rfl ?_
  refine vm_J.call vm_q267 (Z := vm_M262) (n := 0) (k := 0) (mi := 262) (pc := 13) (en := (13, .invokevirtual 424, 3, [262, 1660, 0], .null)) rfl trivial rfl rfl vm_z262 (av := [.ref 152]) (rest := []) (r_isMade_y hR hw hw2 hw0) ⟨_, _, rfl, rfl, _, 11, _, hR.c152, rfl, rfl, rfl⟩ (Nat.le_of_ble_eq_true rfl) ⟨Nat.le_of_ble_eq_true rfl, Nat.le_of_ble_eq_true rfl⟩ ⟨Nat.le_of_ble_eq_true rfl, Nat.le_of_ble_eq_true rfl⟩ ?_
  show vm_J _ _ _ (16, (0, 0), [.ref 152, .int 2, .retAddr 0, .retAddr 0], [.int 1]) (G, (vm_up I 152 40 0), F) _ _
  refine vm_J.go vm_q267 (k := 1) (hs := []) (f' := (bif vm_ic .ne 1 0 then 22 else 19, (0, 0), [.ref 152, .int 2, .retAddr 0, .retAddr 0], [])) (h' := (G, (vm_up I 152 40 0), F)) (hs' := []) rfl rfl ?_
  refine vm_J.bT (by decide) ?_
  refine vm_J.go vm_q267 (k := 4) (hs := [vm_shR, (0, 2, [])]) (f' := (28, (0, 0), [.ref 152, .int 2, .retAddr 0, .retAddr 0], [.int ((vm_up I 152 40 0) 175 0)])) (h' := (G, (vm_up I 152 40 0), F)) (hs' := []) rfl (vm_b2 rfl (vm_b2 (vm_b2 (vm_hG hR.c152) rfl) (vm_b2 rfl (vm_b2 (vm_b2 (vm_hG hR.c175) rfl) rfl)))) ?_
  rw [((Eq.trans (congrFun (vm_up_f _ 152 _ _ 175 (by decide)) 0) hy) : (vm_up I 152 40 0) 175 0 = 3)]
  refine vm_J.go vm_q267 (k := 3) (hs := []) (f' := (bif vm_ic .eq 2 0 then 58 else 33, (0, 0), [.ref 152, .int 2, .int 3, .retAddr 0], [])) (h' := (G, (vm_up I 152 40 0), F)) (hs' := []) rfl rfl ?_
  refine vm_J.bF (by decide) ?_
  refine vm_J.go vm_q267 (k := 3) (hs := []) (f' := (bif vm_ic .eq 3 2 then 58 else 38, (0, 0), [.ref 152, .int 2, .int 3, .retAddr 0], [])) (h' := (G, (vm_up I 152 40 0), F)) (hs' := []) rfl rfl ?_
  refine vm_J.bF (by decide) ?_
  refine vm_J.go vm_q267 (k := 3) (hs := []) (f' := (bif vm_ic .ne 2 1 then 48 else 43, (0, 0), [.ref 152, .int 2, .int 3, .retAddr 0], [])) (h' := (G, (vm_up I 152 40 0), F)) (hs' := []) rfl rfl ?_
  refine vm_J.bT (by decide) ?_
  refine vm_J.go vm_q267 (k := 3) (hs := []) (f' := (bif vm_ic .ne 2 3 then 62 else 53, (0, 0), [.ref 152, .int 2, .int 3, .retAddr 0], [])) (h' := (G, (vm_up I 152 40 0), F)) (hs' := []) rfl rfl ?_
  refine vm_J.bT (by decide) ?_
  refine vm_J.go vm_q267 (k := 4) (hs := []) (f' := (bif vm_ic .eq 0 0 then 72 else 68, (0, 0), [.ref 152, .int 2, .int 3, .int 0], [])) (h' := (G, (vm_up I 152 40 0), F)) (hs' := []) rfl rfl ?_
  refine vm_J.bT (by decide) ?_
  refine vm_J.go vm_q267 (k := 1) (hs := []) (f' := (74, (0, 0), [.ref 152, .int 2, .int 3, .int 0], [.int (-12)])) (h' := (G, (vm_up I 152 40 0), F)) (hs' := []) rfl rfl ?_
  exact vm_J.end vm_q267 (en := (74, .ireturn, 1, [], .null)) rfl rfl vm_rI (Nat.zero_le _) (Nat.zero_le _) rfl
set_option maxHeartbeats 4000000 in
set_option maxRecDepth 20000 in
/-- DitherDeskModel.taken -/
theorem r_taken_3_3 {l : Launch} {X : vm_Cx} {G : List vm_Sh} {I : Nat → Nat → Int32} {F : Nat → Nat → UInt32} {w : Nat} (hR : vm_isR G) (hw : I 173 0 = nI w) (hw2 : w ≤ 12) (hw0 : 0 < w) (hy : I 175 0 = 3) : vm_K l X vm_M267 [.ref 152, .int 3] (G, I, F) (some (.int (3))) (G, (vm_up I 152 40 0), F) := by
  refine vm_K.mk (by decide) (Nat.le_of_ble_eq_true rfl) ?_
  show vm_J _ _ _ (0, (0, 0), [.ref 152, .int 3, .retAddr 0, .retAddr 0], []) _ _ _
  refine vm_J.go vm_q267 (k := 3) (hs := []) (f' := (3, (0, 0), [.ref 152, .int 3, .retAddr 0, .retAddr 0], [.int 4, .int 0, .int 3])) (h' := (G, I, F)) (hs' := []) rfl rfl ?_
  refine vm_J.call vm_q267 (Z := vm_M168) (n := 3) (k := 1) (mi := 168) (pc := 3) (en := (3, .invokestatic 141, 3, [168, 1302, 0], .null)) rfl trivial rfl rfl vm_z168 (av := [.int 3, .int 0, .int 4]) (rest := []) (r_isIn_y (v := 3) (a := 0) (b := 4) (by decide)) rfl (Nat.le_of_ble_eq_true rfl) ⟨Nat.le_of_ble_eq_true rfl, Nat.le_of_ble_eq_true rfl⟩ ⟨Nat.le_of_ble_eq_true rfl, Nat.le_of_ble_eq_true rfl⟩ ?_
  show vm_J _ _ _ (6, (0, 0), [.ref 152, .int 3, .retAddr 0, .retAddr 0], [.int 1]) (G, I, F) _ _
  refine vm_J.go vm_q267 (k := 1) (hs := []) (f' := (bif vm_ic .ne 1 0 then 12 else 9, (0, 0), [.ref 152, .int 3, .retAddr 0, .retAddr 0], [])) (h' := (G, I, F)) (hs' := []) rfl rfl ?_
  refine vm_J.bT (by decide) ?_
  refine vm_J.go vm_q267 (k := 1) (hs := []) (f' := (13, (0, 0), [.ref 152, .int 3, .retAddr 0, .retAddr 0], [.ref 152])) (h' := (G, I, F)) (hs' := []) rfl rfl ?_
  refine vm_J.call vm_q267 (Z := vm_M262) (n := 0) (k := 0) (mi := 262) (pc := 13) (en := (13, .invokevirtual 424, 3, [262, 1660, 0], .null)) rfl trivial rfl rfl vm_z262 (av := [.ref 152]) (rest := []) (r_isMade_y hR hw hw2 hw0) ⟨_, _, rfl, rfl, _, 11, _, hR.c152, rfl, rfl, rfl⟩ (Nat.le_of_ble_eq_true rfl) ⟨Nat.le_of_ble_eq_true rfl, Nat.le_of_ble_eq_true rfl⟩ ⟨Nat.le_of_ble_eq_true rfl, Nat.le_of_ble_eq_true rfl⟩ ?_
  show vm_J _ _ _ (16, (0, 0), [.ref 152, .int 3, .retAddr 0, .retAddr 0], [.int 1]) (G, (vm_up I 152 40 0), F) _ _
  refine vm_J.go vm_q267 (k := 1) (hs := []) (f' := (bif vm_ic .ne 1 0 then 22 else 19, (0, 0), [.ref 152, .int 3, .retAddr 0, .retAddr 0], [])) (h' := (G, (vm_up I 152 40 0), F)) (hs' := []) rfl rfl ?_
  refine vm_J.bT (by decide) ?_
  refine vm_J.go vm_q267 (k := 4) (hs := [vm_shR, (0, 2, [])]) (f' := (28, (0, 0), [.ref 152, .int 3, .retAddr 0, .retAddr 0], [.int ((vm_up I 152 40 0) 175 0)])) (h' := (G, (vm_up I 152 40 0), F)) (hs' := []) rfl (vm_b2 rfl (vm_b2 (vm_b2 (vm_hG hR.c152) rfl) (vm_b2 rfl (vm_b2 (vm_b2 (vm_hG hR.c175) rfl) rfl)))) ?_
  rw [((Eq.trans (congrFun (vm_up_f _ 152 _ _ 175 (by decide)) 0) hy) : (vm_up I 152 40 0) 175 0 = 3)]
  refine vm_J.go vm_q267 (k := 3) (hs := []) (f' := (bif vm_ic .eq 3 0 then 58 else 33, (0, 0), [.ref 152, .int 3, .int 3, .retAddr 0], [])) (h' := (G, (vm_up I 152 40 0), F)) (hs' := []) rfl rfl ?_
  refine vm_J.bF (by decide) ?_
  refine vm_J.go vm_q267 (k := 3) (hs := []) (f' := (bif vm_ic .eq 3 3 then 58 else 38, (0, 0), [.ref 152, .int 3, .int 3, .retAddr 0], [])) (h' := (G, (vm_up I 152 40 0), F)) (hs' := []) rfl rfl ?_
  refine vm_J.bT (by decide) ?_
  refine vm_J.go vm_q267 (k := 5) (hs := []) (f' := (bif vm_ic .eq 1 0 then 72 else 68, (0, 0), [.ref 152, .int 3, .int 3, .int 1], [])) (h' := (G, (vm_up I 152 40 0), F)) (hs' := []) rfl rfl ?_
  refine vm_J.bF (by decide) ?_
  refine vm_J.go vm_q267 (k := 2) (hs := []) (f' := (74, (0, 0), [.ref 152, .int 3, .int 3, .int 1], [.int 3])) (h' := (G, (vm_up I 152 40 0), F)) (hs' := []) rfl rfl ?_
  exact vm_J.end vm_q267 (en := (74, .ireturn, 1, [], .null)) rfl rfl vm_rI (Nat.zero_le _) (Nat.zero_le _) rfl
set_option maxHeartbeats 4000000 in
set_option maxRecDepth 20000 in
/-- DitherDeskModel.taken -/
theorem r_taken_3_4 {l : Launch} {X : vm_Cx} {G : List vm_Sh} {I : Nat → Nat → Int32} {F : Nat → Nat → UInt32} {w : Nat} (hR : vm_isR G) (hw : I 173 0 = nI w) (hw2 : w ≤ 12) (hw0 : 0 < w) (hy : I 175 0 = 3) : vm_K l X vm_M267 [.ref 152, .int 4] (G, I, F) (some (.int (-12))) (G, (vm_up I 152 40 0), F) := by
  refine vm_K.mk (by decide) (Nat.le_of_ble_eq_true rfl) ?_
  show vm_J _ _ _ (0, (0, 0), [.ref 152, .int 4, .retAddr 0, .retAddr 0], []) _ _ _
  refine vm_J.go vm_q267 (k := 3) (hs := []) (f' := (3, (0, 0), [.ref 152, .int 4, .retAddr 0, .retAddr 0], [.int 4, .int 0, .int 4])) (h' := (G, I, F)) (hs' := []) rfl rfl ?_
  refine vm_J.call vm_q267 (Z := vm_M168) (n := 3) (k := 1) (mi := 168) (pc := 3) (en := (3, .invokestatic 141, 3, [168, 1302, 0], .null)) rfl trivial rfl rfl vm_z168 (av := [.int 4, .int 0, .int 4]) (rest := []) (r_isIn_y (v := 4) (a := 0) (b := 4) (by decide)) rfl (Nat.le_of_ble_eq_true rfl) ⟨Nat.le_of_ble_eq_true rfl, Nat.le_of_ble_eq_true rfl⟩ ⟨Nat.le_of_ble_eq_true rfl, Nat.le_of_ble_eq_true rfl⟩ ?_
  show vm_J _ _ _ (6, (0, 0), [.ref 152, .int 4, .retAddr 0, .retAddr 0], [.int 1]) (G, I, F) _ _
  refine vm_J.go vm_q267 (k := 1) (hs := []) (f' := (bif vm_ic .ne 1 0 then 12 else 9, (0, 0), [.ref 152, .int 4, .retAddr 0, .retAddr 0], [])) (h' := (G, I, F)) (hs' := []) rfl rfl ?_
  refine vm_J.bT (by decide) ?_
  refine vm_J.go vm_q267 (k := 1) (hs := []) (f' := (13, (0, 0), [.ref 152, .int 4, .retAddr 0, .retAddr 0], [.ref 152])) (h' := (G, I, F)) (hs' := []) rfl rfl ?_
  refine vm_J.call vm_q267 (Z := vm_M262) (n := 0) (k := 0) (mi := 262) (pc := 13) (en := (13, .invokevirtual 424, 3, [262, 1660, 0], .null)) rfl trivial rfl rfl vm_z262 (av := [.ref 152]) (rest := []) (r_isMade_y hR hw hw2 hw0) ⟨_, _, rfl, rfl, _, 11, _, hR.c152, rfl, rfl, rfl⟩ (Nat.le_of_ble_eq_true rfl) ⟨Nat.le_of_ble_eq_true rfl, Nat.le_of_ble_eq_true rfl⟩ ⟨Nat.le_of_ble_eq_true rfl, Nat.le_of_ble_eq_true rfl⟩ ?_
  show vm_J _ _ _ (16, (0, 0), [.ref 152, .int 4, .retAddr 0, .retAddr 0], [.int 1]) (G, (vm_up I 152 40 0), F) _ _
  refine vm_J.go vm_q267 (k := 1) (hs := []) (f' := (bif vm_ic .ne 1 0 then 22 else 19, (0, 0), [.ref 152, .int 4, .retAddr 0, .retAddr 0], [])) (h' := (G, (vm_up I 152 40 0), F)) (hs' := []) rfl rfl ?_
  refine vm_J.bT (by decide) ?_
  refine vm_J.go vm_q267 (k := 4) (hs := [vm_shR, (0, 2, [])]) (f' := (28, (0, 0), [.ref 152, .int 4, .retAddr 0, .retAddr 0], [.int ((vm_up I 152 40 0) 175 0)])) (h' := (G, (vm_up I 152 40 0), F)) (hs' := []) rfl (vm_b2 rfl (vm_b2 (vm_b2 (vm_hG hR.c152) rfl) (vm_b2 rfl (vm_b2 (vm_b2 (vm_hG hR.c175) rfl) rfl)))) ?_
  rw [((Eq.trans (congrFun (vm_up_f _ 152 _ _ 175 (by decide)) 0) hy) : (vm_up I 152 40 0) 175 0 = 3)]
  refine vm_J.go vm_q267 (k := 3) (hs := []) (f' := (bif vm_ic .eq 4 0 then 58 else 33, (0, 0), [.ref 152, .int 4, .int 3, .retAddr 0], [])) (h' := (G, (vm_up I 152 40 0), F)) (hs' := []) rfl rfl ?_
  refine vm_J.bF (by decide) ?_
  refine vm_J.go vm_q267 (k := 3) (hs := []) (f' := (bif vm_ic .eq 3 4 then 58 else 38, (0, 0), [.ref 152, .int 4, .int 3, .retAddr 0], [])) (h' := (G, (vm_up I 152 40 0), F)) (hs' := []) rfl rfl ?_
  refine vm_J.bF (by decide) ?_
  refine vm_J.go vm_q267 (k := 3) (hs := []) (f' := (bif vm_ic .ne 4 1 then 48 else 43, (0, 0), [.ref 152, .int 4, .int 3, .retAddr 0], [])) (h' := (G, (vm_up I 152 40 0), F)) (hs' := []) rfl rfl ?_
  refine vm_J.bT (by decide) ?_
  refine vm_J.go vm_q267 (k := 3) (hs := []) (f' := (bif vm_ic .ne 4 3 then 62 else 53, (0, 0), [.ref 152, .int 4, .int 3, .retAddr 0], [])) (h' := (G, (vm_up I 152 40 0), F)) (hs' := []) rfl rfl ?_
  refine vm_J.bT (by decide) ?_
  refine vm_J.go vm_q267 (k := 4) (hs := []) (f' := (bif vm_ic .eq 0 0 then 72 else 68, (0, 0), [.ref 152, .int 4, .int 3, .int 0], [])) (h' := (G, (vm_up I 152 40 0), F)) (hs' := []) rfl rfl ?_
  refine vm_J.bT (by decide) ?_
  refine vm_J.go vm_q267 (k := 1) (hs := []) (f' := (74, (0, 0), [.ref 152, .int 4, .int 3, .int 0], [.int (-12)])) (h' := (G, (vm_up I 152 40 0), F)) (hs' := []) rfl rfl ?_
  exact vm_J.end vm_q267 (en := (74, .ireturn, 1, [], .null)) rfl rfl vm_rI (Nat.zero_le _) (Nat.zero_le _) rfl
set_option maxHeartbeats 4000000 in
set_option maxRecDepth 20000 in
/-- DitherDeskModel.taken -/
theorem r_taken_4_0 {l : Launch} {X : vm_Cx} {G : List vm_Sh} {I : Nat → Nat → Int32} {F : Nat → Nat → UInt32} {w : Nat} (hR : vm_isR G) (hw : I 173 0 = nI w) (hw2 : w ≤ 12) (hw0 : 0 < w) (hy : I 175 0 = 4) : vm_K l X vm_M267 [.ref 152, .int 0] (G, I, F) (some (.int (4))) (G, (vm_up I 152 40 0), F) := by
  refine vm_K.mk (by decide) (Nat.le_of_ble_eq_true rfl) ?_
  show vm_J _ _ _ (0, (0, 0), [.ref 152, .int 0, .retAddr 0, .retAddr 0], []) _ _ _
  refine vm_J.go vm_q267 (k := 3) (hs := []) (f' := (3, (0, 0), [.ref 152, .int 0, .retAddr 0, .retAddr 0], [.int 4, .int 0, .int 0])) (h' := (G, I, F)) (hs' := []) rfl rfl ?_
  refine vm_J.call vm_q267 (Z := vm_M168) (n := 3) (k := 1) (mi := 168) (pc := 3) (en := (3, .invokestatic 141, 3, [168, 1302, 0], .null)) rfl trivial rfl rfl vm_z168 (av := [.int 0, .int 0, .int 4]) (rest := []) (r_isIn_y (v := 0) (a := 0) (b := 4) (by decide)) rfl (Nat.le_of_ble_eq_true rfl) ⟨Nat.le_of_ble_eq_true rfl, Nat.le_of_ble_eq_true rfl⟩ ⟨Nat.le_of_ble_eq_true rfl, Nat.le_of_ble_eq_true rfl⟩ ?_
  show vm_J _ _ _ (6, (0, 0), [.ref 152, .int 0, .retAddr 0, .retAddr 0], [.int 1]) (G, I, F) _ _
  refine vm_J.go vm_q267 (k := 1) (hs := []) (f' := (bif vm_ic .ne 1 0 then 12 else 9, (0, 0), [.ref 152, .int 0, .retAddr 0, .retAddr 0], [])) (h' := (G, I, F)) (hs' := []) rfl rfl ?_
  refine vm_J.bT (by decide) ?_
  refine vm_J.go vm_q267 (k := 1) (hs := []) (f' := (13, (0, 0), [.ref 152, .int 0, .retAddr 0, .retAddr 0], [.ref 152])) (h' := (G, I, F)) (hs' := []) rfl rfl ?_
  refine vm_J.call vm_q267 (Z := vm_M262) (n := 0) (k := 0) (mi := 262) (pc := 13) (en := (13, .invokevirtual 424, 3, [262, 1660, 0], .null)) rfl trivial rfl rfl vm_z262 (av := [.ref 152]) (rest := []) (r_isMade_y hR hw hw2 hw0) ⟨_, _, rfl, rfl, _, 11, _, hR.c152, rfl, rfl, rfl⟩ (Nat.le_of_ble_eq_true rfl) ⟨Nat.le_of_ble_eq_true rfl, Nat.le_of_ble_eq_true rfl⟩ ⟨Nat.le_of_ble_eq_true rfl, Nat.le_of_ble_eq_true rfl⟩ ?_
  show vm_J _ _ _ (16, (0, 0), [.ref 152, .int 0, .retAddr 0, .retAddr 0], [.int 1]) (G, (vm_up I 152 40 0), F) _ _
  refine vm_J.go vm_q267 (k := 1) (hs := []) (f' := (bif vm_ic .ne 1 0 then 22 else 19, (0, 0), [.ref 152, .int 0, .retAddr 0, .retAddr 0], [])) (h' := (G, (vm_up I 152 40 0), F)) (hs' := []) rfl rfl ?_
  refine vm_J.bT (by decide) ?_
  refine vm_J.go vm_q267 (k := 4) (hs := [vm_shR, (0, 2, [])]) (f' := (28, (0, 0), [.ref 152, .int 0, .retAddr 0, .retAddr 0], [.int ((vm_up I 152 40 0) 175 0)])) (h' := (G, (vm_up I 152 40 0), F)) (hs' := []) rfl (vm_b2 rfl (vm_b2 (vm_b2 (vm_hG hR.c152) rfl) (vm_b2 rfl (vm_b2 (vm_b2 (vm_hG hR.c175) rfl) rfl)))) ?_
  rw [((Eq.trans (congrFun (vm_up_f _ 152 _ _ 175 (by decide)) 0) hy) : (vm_up I 152 40 0) 175 0 = 4)]
  refine vm_J.go vm_q267 (k := 3) (hs := []) (f' := (bif vm_ic .eq 0 0 then 58 else 33, (0, 0), [.ref 152, .int 0, .int 4, .retAddr 0], [])) (h' := (G, (vm_up I 152 40 0), F)) (hs' := []) rfl rfl ?_
  refine vm_J.bT (by decide) ?_
  refine vm_J.go vm_q267 (k := 5) (hs := []) (f' := (bif vm_ic .eq 1 0 then 72 else 68, (0, 0), [.ref 152, .int 0, .int 4, .int 1], [])) (h' := (G, (vm_up I 152 40 0), F)) (hs' := []) rfl rfl ?_
  refine vm_J.bF (by decide) ?_
  refine vm_J.go vm_q267 (k := 2) (hs := []) (f' := (74, (0, 0), [.ref 152, .int 0, .int 4, .int 1], [.int 4])) (h' := (G, (vm_up I 152 40 0), F)) (hs' := []) rfl rfl ?_
  exact vm_J.end vm_q267 (en := (74, .ireturn, 1, [], .null)) rfl rfl vm_rI (Nat.zero_le _) (Nat.zero_le _) rfl
set_option maxHeartbeats 4000000 in
set_option maxRecDepth 20000 in
/-- DitherDeskModel.taken -/
theorem r_taken_4_1 {l : Launch} {X : vm_Cx} {G : List vm_Sh} {I : Nat → Nat → Int32} {F : Nat → Nat → UInt32} {w : Nat} (hR : vm_isR G) (hw : I 173 0 = nI w) (hw2 : w ≤ 12) (hw0 : 0 < w) (hy : I 175 0 = 4) : vm_K l X vm_M267 [.ref 152, .int 1] (G, I, F) (some (.int (-12))) (G, (vm_up I 152 40 0), F) := by
  refine vm_K.mk (by decide) (Nat.le_of_ble_eq_true rfl) ?_
  show vm_J _ _ _ (0, (0, 0), [.ref 152, .int 1, .retAddr 0, .retAddr 0], []) _ _ _
  refine vm_J.go vm_q267 (k := 3) (hs := []) (f' := (3, (0, 0), [.ref 152, .int 1, .retAddr 0, .retAddr 0], [.int 4, .int 0, .int 1])) (h' := (G, I, F)) (hs' := []) rfl rfl ?_
  refine vm_J.call vm_q267 (Z := vm_M168) (n := 3) (k := 1) (mi := 168) (pc := 3) (en := (3, .invokestatic 141, 3, [168, 1302, 0], .null)) rfl trivial rfl rfl vm_z168 (av := [.int 1, .int 0, .int 4]) (rest := []) (r_isIn_y (v := 1) (a := 0) (b := 4) (by decide)) rfl (Nat.le_of_ble_eq_true rfl) ⟨Nat.le_of_ble_eq_true rfl, Nat.le_of_ble_eq_true rfl⟩ ⟨Nat.le_of_ble_eq_true rfl, Nat.le_of_ble_eq_true rfl⟩ ?_
  show vm_J _ _ _ (6, (0, 0), [.ref 152, .int 1, .retAddr 0, .retAddr 0], [.int 1]) (G, I, F) _ _
  refine vm_J.go vm_q267 (k := 1) (hs := []) (f' := (bif vm_ic .ne 1 0 then 12 else 9, (0, 0), [.ref 152, .int 1, .retAddr 0, .retAddr 0], [])) (h' := (G, I, F)) (hs' := []) rfl rfl ?_
  refine vm_J.bT (by decide) ?_
  refine vm_J.go vm_q267 (k := 1) (hs := []) (f' := (13, (0, 0), [.ref 152, .int 1, .retAddr 0, .retAddr 0], [.ref 152])) (h' := (G, I, F)) (hs' := []) rfl rfl ?_
  refine vm_J.call vm_q267 (Z := vm_M262) (n := 0) (k := 0) (mi := 262) (pc := 13) (en := (13, .invokevirtual 424, 3, [262, 1660, 0], .null)) rfl trivial rfl rfl vm_z262 (av := [.ref 152]) (rest := []) (r_isMade_y hR hw hw2 hw0) ⟨_, _, rfl, rfl, _, 11, _, hR.c152, rfl, rfl, rfl⟩ (Nat.le_of_ble_eq_true rfl) ⟨Nat.le_of_ble_eq_true rfl, Nat.le_of_ble_eq_true rfl⟩ ⟨Nat.le_of_ble_eq_true rfl, Nat.le_of_ble_eq_true rfl⟩ ?_
  show vm_J _ _ _ (16, (0, 0), [.ref 152, .int 1, .retAddr 0, .retAddr 0], [.int 1]) (G, (vm_up I 152 40 0), F) _ _
  refine vm_J.go vm_q267 (k := 1) (hs := []) (f' := (bif vm_ic .ne 1 0 then 22 else 19, (0, 0), [.ref 152, .int 1, .retAddr 0, .retAddr 0], [])) (h' := (G, (vm_up I 152 40 0), F)) (hs' := []) rfl rfl ?_
  refine vm_J.bT (by decide) ?_
  refine vm_J.go vm_q267 (k := 4) (hs := [vm_shR, (0, 2, [])]) (f' := (28, (0, 0), [.ref 152, .int 1, .retAddr 0, .retAddr 0], [.int ((vm_up I 152 40 0) 175 0)])) (h' := (G, (vm_up I 152 40 0), F)) (hs' := []) rfl (vm_b2 rfl (vm_b2 (vm_b2 (vm_hG hR.c152) rfl) (vm_b2 rfl (vm_b2 (vm_b2 (vm_hG hR.c175) rfl) rfl)))) ?_
  rw [((Eq.trans (congrFun (vm_up_f _ 152 _ _ 175 (by decide)) 0) hy) : (vm_up I 152 40 0) 175 0 = 4)]
  refine vm_J.go vm_q267 (k := 3) (hs := []) (f' := (bif vm_ic .eq 1 0 then 58 else 33, (0, 0), [.ref 152, .int 1, .int 4, .retAddr 0], [])) (h' := (G, (vm_up I 152 40 0), F)) (hs' := []) rfl rfl ?_
  refine vm_J.bF (by decide) ?_
  refine vm_J.go vm_q267 (k := 3) (hs := []) (f' := (bif vm_ic .eq 4 1 then 58 else 38, (0, 0), [.ref 152, .int 1, .int 4, .retAddr 0], [])) (h' := (G, (vm_up I 152 40 0), F)) (hs' := []) rfl rfl ?_
  refine vm_J.bF (by decide) ?_
  refine vm_J.go vm_q267 (k := 3) (hs := []) (f' := (bif vm_ic .ne 1 1 then 48 else 43, (0, 0), [.ref 152, .int 1, .int 4, .retAddr 0], [])) (h' := (G, (vm_up I 152 40 0), F)) (hs' := []) rfl rfl ?_
  refine vm_J.bF (by decide) ?_
  refine vm_J.go vm_q267 (k := 3) (hs := []) (f' := (bif vm_ic .eq 4 2 then 58 else 48, (0, 0), [.ref 152, .int 1, .int 4, .retAddr 0], [])) (h' := (G, (vm_up I 152 40 0), F)) (hs' := []) rfl rfl ?_
  refine vm_J.bF (by decide) ?_
  refine vm_J.go vm_q267 (k := 3) (hs := []) (f' := (bif vm_ic .ne 1 3 then 62 else 53, (0, 0), [.ref 152, .int 1, .int 4, .retAddr 0], [])) (h' := (G, (vm_up I 152 40 0), F)) (hs' := []) rfl rfl ?_
  refine vm_J.bT (by decide) ?_
  refine vm_J.go vm_q267 (k := 4) (hs := []) (f' := (bif vm_ic .eq 0 0 then 72 else 68, (0, 0), [.ref 152, .int 1, .int 4, .int 0], [])) (h' := (G, (vm_up I 152 40 0), F)) (hs' := []) rfl rfl ?_
  refine vm_J.bT (by decide) ?_
  refine vm_J.go vm_q267 (k := 1) (hs := []) (f' := (74, (0, 0), [.ref 152, .int 1, .int 4, .int 0], [.int (-12)])) (h' := (G, (vm_up I 152 40 0), F)) (hs' := []) rfl rfl ?_
  exact vm_J.end vm_q267 (en := (74, .ireturn, 1, [], .null)) rfl rfl vm_rI (Nat.zero_le _) (Nat.zero_le _) rfl
set_option maxHeartbeats 4000000 in
set_option maxRecDepth 20000 in
/-- DitherDeskModel.taken -/
theorem r_taken_4_2 {l : Launch} {X : vm_Cx} {G : List vm_Sh} {I : Nat → Nat → Int32} {F : Nat → Nat → UInt32} {w : Nat} (hR : vm_isR G) (hw : I 173 0 = nI w) (hw2 : w ≤ 12) (hw0 : 0 < w) (hy : I 175 0 = 4) : vm_K l X vm_M267 [.ref 152, .int 2] (G, I, F) (some (.int (-12))) (G, (vm_up I 152 40 0), F) := by
  refine vm_K.mk (by decide) (Nat.le_of_ble_eq_true rfl) ?_
  show vm_J _ _ _ (0, (0, 0), [.ref 152, .int 2, .retAddr 0, .retAddr 0], []) _ _ _
  refine vm_J.go vm_q267 (k := 3) (hs := []) (f' := (3, (0, 0), [.ref 152, .int 2, .retAddr 0, .retAddr 0], [.int 4, .int 0, .int 2])) (h' := (G, I, F)) (hs' := []) rfl rfl ?_
  refine vm_J.call vm_q267 (Z := vm_M168) (n := 3) (k := 1) (mi := 168) (pc := 3) (en := (3, .invokestatic 141, 3, [168, 1302, 0], .null)) rfl trivial rfl rfl vm_z168 (av := [.int 2, .int 0, .int 4]) (rest := []) (r_isIn_y (v := 2) (a := 0) (b := 4) (by decide)) rfl (Nat.le_of_ble_eq_true rfl) ⟨Nat.le_of_ble_eq_true rfl, Nat.le_of_ble_eq_true rfl⟩ ⟨Nat.le_of_ble_eq_true rfl, Nat.le_of_ble_eq_true rfl⟩ ?_
  show vm_J _ _ _ (6, (0, 0), [.ref 152, .int 2, .retAddr 0, .retAddr 0], [.int 1]) (G, I, F) _ _
  refine vm_J.go vm_q267 (k := 1) (hs := []) (f' := (bif vm_ic .ne 1 0 then 12 else 9, (0, 0), [.ref 152, .int 2, .retAddr 0, .retAddr 0], [])) (h' := (G, I, F)) (hs' := []) rfl rfl ?_
  refine vm_J.bT (by decide) ?_
  refine vm_J.go vm_q267 (k := 1) (hs := []) (f' := (13, (0, 0), [.ref 152, .int 2, .retAddr 0, .retAddr 0], [.ref 152])) (h' := (G, I, F)) (hs' := []) rfl rfl ?_
  refine vm_J.call vm_q267 (Z := vm_M262) (n := 0) (k := 0) (mi := 262) (pc := 13) (en := (13, .invokevirtual 424, 3, [262, 1660, 0], .null)) rfl trivial rfl rfl vm_z262 (av := [.ref 152]) (rest := []) (r_isMade_y hR hw hw2 hw0) ⟨_, _, rfl, rfl, _, 11, _, hR.c152, rfl, rfl, rfl⟩ (Nat.le_of_ble_eq_true rfl) ⟨Nat.le_of_ble_eq_true rfl, Nat.le_of_ble_eq_true rfl⟩ ⟨Nat.le_of_ble_eq_true rfl, Nat.le_of_ble_eq_true rfl⟩ ?_
  show vm_J _ _ _ (16, (0, 0), [.ref 152, .int 2, .retAddr 0, .retAddr 0], [.int 1]) (G, (vm_up I 152 40 0), F) _ _
  refine vm_J.go vm_q267 (k := 1) (hs := []) (f' := (bif vm_ic .ne 1 0 then 22 else 19, (0, 0), [.ref 152, .int 2, .retAddr 0, .retAddr 0], [])) (h' := (G, (vm_up I 152 40 0), F)) (hs' := []) rfl rfl ?_
  refine vm_J.bT (by decide) ?_
  refine vm_J.go vm_q267 (k := 4) (hs := [vm_shR, (0, 2, [])]) (f' := (28, (0, 0), [.ref 152, .int 2, .retAddr 0, .retAddr 0], [.int ((vm_up I 152 40 0) 175 0)])) (h' := (G, (vm_up I 152 40 0), F)) (hs' := []) rfl (vm_b2 rfl (vm_b2 (vm_b2 (vm_hG hR.c152) rfl) (vm_b2 rfl (vm_b2 (vm_b2 (vm_hG hR.c175) rfl) rfl)))) ?_
  rw [((Eq.trans (congrFun (vm_up_f _ 152 _ _ 175 (by decide)) 0) hy) : (vm_up I 152 40 0) 175 0 = 4)]
  refine vm_J.go vm_q267 (k := 3) (hs := []) (f' := (bif vm_ic .eq 2 0 then 58 else 33, (0, 0), [.ref 152, .int 2, .int 4, .retAddr 0], [])) (h' := (G, (vm_up I 152 40 0), F)) (hs' := []) rfl rfl ?_
  refine vm_J.bF (by decide) ?_
  refine vm_J.go vm_q267 (k := 3) (hs := []) (f' := (bif vm_ic .eq 4 2 then 58 else 38, (0, 0), [.ref 152, .int 2, .int 4, .retAddr 0], [])) (h' := (G, (vm_up I 152 40 0), F)) (hs' := []) rfl rfl ?_
  refine vm_J.bF (by decide) ?_
  refine vm_J.go vm_q267 (k := 3) (hs := []) (f' := (bif vm_ic .ne 2 1 then 48 else 43, (0, 0), [.ref 152, .int 2, .int 4, .retAddr 0], [])) (h' := (G, (vm_up I 152 40 0), F)) (hs' := []) rfl rfl ?_
  refine vm_J.bT (by decide) ?_
  refine vm_J.go vm_q267 (k := 3) (hs := []) (f' := (bif vm_ic .ne 2 3 then 62 else 53, (0, 0), [.ref 152, .int 2, .int 4, .retAddr 0], [])) (h' := (G, (vm_up I 152 40 0), F)) (hs' := []) rfl rfl ?_
  refine vm_J.bT (by decide) ?_
  refine vm_J.go vm_q267 (k := 4) (hs := []) (f' := (bif vm_ic .eq 0 0 then 72 else 68, (0, 0), [.ref 152, .int 2, .int 4, .int 0], [])) (h' := (G, (vm_up I 152 40 0), F)) (hs' := []) rfl rfl ?_
  refine vm_J.bT (by decide) ?_
  refine vm_J.go vm_q267 (k := 1) (hs := []) (f' := (74, (0, 0), [.ref 152, .int 2, .int 4, .int 0], [.int (-12)])) (h' := (G, (vm_up I 152 40 0), F)) (hs' := []) rfl rfl ?_
  exact vm_J.end vm_q267 (en := (74, .ireturn, 1, [], .null)) rfl rfl vm_rI (Nat.zero_le _) (Nat.zero_le _) rfl
set_option maxHeartbeats 4000000 in
set_option maxRecDepth 20000 in
/-- DitherDeskModel.taken -/
theorem r_taken_4_3 {l : Launch} {X : vm_Cx} {G : List vm_Sh} {I : Nat → Nat → Int32} {F : Nat → Nat → UInt32} {w : Nat} (hR : vm_isR G) (hw : I 173 0 = nI w) (hw2 : w ≤ 12) (hw0 : 0 < w) (hy : I 175 0 = 4) : vm_K l X vm_M267 [.ref 152, .int 3] (G, I, F) (some (.int (4))) (G, (vm_up I 152 40 0), F) := by
  refine vm_K.mk (by decide) (Nat.le_of_ble_eq_true rfl) ?_
  show vm_J _ _ _ (0, (0, 0), [.ref 152, .int 3, .retAddr 0, .retAddr 0], []) _ _ _
  refine vm_J.go vm_q267 (k := 3) (hs := []) (f' := (3, (0, 0), [.ref 152, .int 3, .retAddr 0, .retAddr 0], [.int 4, .int 0, .int 3])) (h' := (G, I, F)) (hs' := []) rfl rfl ?_
  refine vm_J.call vm_q267 (Z := vm_M168) (n := 3) (k := 1) (mi := 168) (pc := 3) (en := (3, .invokestatic 141, 3, [168, 1302, 0], .null)) rfl trivial rfl rfl vm_z168 (av := [.int 3, .int 0, .int 4]) (rest := []) (r_isIn_y (v := 3) (a := 0) (b := 4) (by decide)) rfl (Nat.le_of_ble_eq_true rfl) ⟨Nat.le_of_ble_eq_true rfl, Nat.le_of_ble_eq_true rfl⟩ ⟨Nat.le_of_ble_eq_true rfl, Nat.le_of_ble_eq_true rfl⟩ ?_
  show vm_J _ _ _ (6, (0, 0), [.ref 152, .int 3, .retAddr 0, .retAddr 0], [.int 1]) (G, I, F) _ _
  refine vm_J.go vm_q267 (k := 1) (hs := []) (f' := (bif vm_ic .ne 1 0 then 12 else 9, (0, 0), [.ref 152, .int 3, .retAddr 0, .retAddr 0], [])) (h' := (G, I, F)) (hs' := []) rfl rfl ?_
  refine vm_J.bT (by decide) ?_
  refine vm_J.go vm_q267 (k := 1) (hs := []) (f' := (13, (0, 0), [.ref 152, .int 3, .retAddr 0, .retAddr 0], [.ref 152])) (h' := (G, I, F)) (hs' := []) rfl rfl ?_
  refine vm_J.call vm_q267 (Z := vm_M262) (n := 0) (k := 0) (mi := 262) (pc := 13) (en := (13, .invokevirtual 424, 3, [262, 1660, 0], .null)) rfl trivial rfl rfl vm_z262 (av := [.ref 152]) (rest := []) (r_isMade_y hR hw hw2 hw0) ⟨_, _, rfl, rfl, _, 11, _, hR.c152, rfl, rfl, rfl⟩ (Nat.le_of_ble_eq_true rfl) ⟨Nat.le_of_ble_eq_true rfl, Nat.le_of_ble_eq_true rfl⟩ ⟨Nat.le_of_ble_eq_true rfl, Nat.le_of_ble_eq_true rfl⟩ ?_
  show vm_J _ _ _ (16, (0, 0), [.ref 152, .int 3, .retAddr 0, .retAddr 0], [.int 1]) (G, (vm_up I 152 40 0), F) _ _
  refine vm_J.go vm_q267 (k := 1) (hs := []) (f' := (bif vm_ic .ne 1 0 then 22 else 19, (0, 0), [.ref 152, .int 3, .retAddr 0, .retAddr 0], [])) (h' := (G, (vm_up I 152 40 0), F)) (hs' := []) rfl rfl ?_
  refine vm_J.bT (by decide) ?_
  refine vm_J.go vm_q267 (k := 4) (hs := [vm_shR, (0, 2, [])]) (f' := (28, (0, 0), [.ref 152, .int 3, .retAddr 0, .retAddr 0], [.int ((vm_up I 152 40 0) 175 0)])) (h' := (G, (vm_up I 152 40 0), F)) (hs' := []) rfl (vm_b2 rfl (vm_b2 (vm_b2 (vm_hG hR.c152) rfl) (vm_b2 rfl (vm_b2 (vm_b2 (vm_hG hR.c175) rfl) rfl)))) ?_
  rw [((Eq.trans (congrFun (vm_up_f _ 152 _ _ 175 (by decide)) 0) hy) : (vm_up I 152 40 0) 175 0 = 4)]
  refine vm_J.go vm_q267 (k := 3) (hs := []) (f' := (bif vm_ic .eq 3 0 then 58 else 33, (0, 0), [.ref 152, .int 3, .int 4, .retAddr 0], [])) (h' := (G, (vm_up I 152 40 0), F)) (hs' := []) rfl rfl ?_
  refine vm_J.bF (by decide) ?_
  refine vm_J.go vm_q267 (k := 3) (hs := []) (f' := (bif vm_ic .eq 4 3 then 58 else 38, (0, 0), [.ref 152, .int 3, .int 4, .retAddr 0], [])) (h' := (G, (vm_up I 152 40 0), F)) (hs' := []) rfl rfl ?_
  refine vm_J.bF (by decide) ?_
  refine vm_J.go vm_q267 (k := 3) (hs := []) (f' := (bif vm_ic .ne 3 1 then 48 else 43, (0, 0), [.ref 152, .int 3, .int 4, .retAddr 0], [])) (h' := (G, (vm_up I 152 40 0), F)) (hs' := []) rfl rfl ?_
  refine vm_J.bT (by decide) ?_
  refine vm_J.go vm_q267 (k := 3) (hs := []) (f' := (bif vm_ic .ne 3 3 then 62 else 53, (0, 0), [.ref 152, .int 3, .int 4, .retAddr 0], [])) (h' := (G, (vm_up I 152 40 0), F)) (hs' := []) rfl rfl ?_
  refine vm_J.bF (by decide) ?_
  refine vm_J.go vm_q267 (k := 3) (hs := []) (f' := (bif vm_ic .ne 4 4 then 62 else 58, (0, 0), [.ref 152, .int 3, .int 4, .retAddr 0], [])) (h' := (G, (vm_up I 152 40 0), F)) (hs' := []) rfl rfl ?_
  refine vm_J.bF (by decide) ?_
  refine vm_J.go vm_q267 (k := 5) (hs := []) (f' := (bif vm_ic .eq 1 0 then 72 else 68, (0, 0), [.ref 152, .int 3, .int 4, .int 1], [])) (h' := (G, (vm_up I 152 40 0), F)) (hs' := []) rfl rfl ?_
  refine vm_J.bF (by decide) ?_
  refine vm_J.go vm_q267 (k := 2) (hs := []) (f' := (74, (0, 0), [.ref 152, .int 3, .int 4, .int 1], [.int 4])) (h' := (G, (vm_up I 152 40 0), F)) (hs' := []) rfl rfl ?_
  exact vm_J.end vm_q267 (en := (74, .ireturn, 1, [], .null)) rfl rfl vm_rI (Nat.zero_le _) (Nat.zero_le _) rfl
set_option maxHeartbeats 4000000 in
set_option maxRecDepth 20000 in
/-- DitherDeskModel.taken -/
theorem r_taken_4_4 {l : Launch} {X : vm_Cx} {G : List vm_Sh} {I : Nat → Nat → Int32} {F : Nat → Nat → UInt32} {w : Nat} (hR : vm_isR G) (hw : I 173 0 = nI w) (hw2 : w ≤ 12) (hw0 : 0 < w) (hy : I 175 0 = 4) : vm_K l X vm_M267 [.ref 152, .int 4] (G, I, F) (some (.int (4))) (G, (vm_up I 152 40 0), F) := by
  refine vm_K.mk (by decide) (Nat.le_of_ble_eq_true rfl) ?_
  show vm_J _ _ _ (0, (0, 0), [.ref 152, .int 4, .retAddr 0, .retAddr 0], []) _ _ _
  refine vm_J.go vm_q267 (k := 3) (hs := []) (f' := (3, (0, 0), [.ref 152, .int 4, .retAddr 0, .retAddr 0], [.int 4, .int 0, .int 4])) (h' := (G, I, F)) (hs' := []) rfl rfl ?_
  refine vm_J.call vm_q267 (Z := vm_M168) (n := 3) (k := 1) (mi := 168) (pc := 3) (en := (3, .invokestatic 141, 3, [168, 1302, 0], .null)) rfl trivial rfl rfl vm_z168 (av := [.int 4, .int 0, .int 4]) (rest := []) (r_isIn_y (v := 4) (a := 0) (b := 4) (by decide)) rfl (Nat.le_of_ble_eq_true rfl) ⟨Nat.le_of_ble_eq_true rfl, Nat.le_of_ble_eq_true rfl⟩ ⟨Nat.le_of_ble_eq_true rfl, Nat.le_of_ble_eq_true rfl⟩ ?_
  show vm_J _ _ _ (6, (0, 0), [.ref 152, .int 4, .retAddr 0, .retAddr 0], [.int 1]) (G, I, F) _ _
  refine vm_J.go vm_q267 (k := 1) (hs := []) (f' := (bif vm_ic .ne 1 0 then 12 else 9, (0, 0), [.ref 152, .int 4, .retAddr 0, .retAddr 0], [])) (h' := (G, I, F)) (hs' := []) rfl rfl ?_
  refine vm_J.bT (by decide) ?_
  refine vm_J.go vm_q267 (k := 1) (hs := []) (f' := (13, (0, 0), [.ref 152, .int 4, .retAddr 0, .retAddr 0], [.ref 152])) (h' := (G, I, F)) (hs' := []) rfl rfl ?_
  refine vm_J.call vm_q267 (Z := vm_M262) (n := 0) (k := 0) (mi := 262) (pc := 13) (en := (13, .invokevirtual 424, 3, [262, 1660, 0], .null)) rfl trivial rfl rfl vm_z262 (av := [.ref 152]) (rest := []) (r_isMade_y hR hw hw2 hw0) ⟨_, _, rfl, rfl, _, 11, _, hR.c152, rfl, rfl, rfl⟩ (Nat.le_of_ble_eq_true rfl) ⟨Nat.le_of_ble_eq_true rfl, Nat.le_of_ble_eq_true rfl⟩ ⟨Nat.le_of_ble_eq_true rfl, Nat.le_of_ble_eq_true rfl⟩ ?_
  show vm_J _ _ _ (16, (0, 0), [.ref 152, .int 4, .retAddr 0, .retAddr 0], [.int 1]) (G, (vm_up I 152 40 0), F) _ _
  refine vm_J.go vm_q267 (k := 1) (hs := []) (f' := (bif vm_ic .ne 1 0 then 22 else 19, (0, 0), [.ref 152, .int 4, .retAddr 0, .retAddr 0], [])) (h' := (G, (vm_up I 152 40 0), F)) (hs' := []) rfl rfl ?_
  refine vm_J.bT (by decide) ?_
  refine vm_J.go vm_q267 (k := 4) (hs := [vm_shR, (0, 2, [])]) (f' := (28, (0, 0), [.ref 152, .int 4, .retAddr 0, .retAddr 0], [.int ((vm_up I 152 40 0) 175 0)])) (h' := (G, (vm_up I 152 40 0), F)) (hs' := []) rfl (vm_b2 rfl (vm_b2 (vm_b2 (vm_hG hR.c152) rfl) (vm_b2 rfl (vm_b2 (vm_b2 (vm_hG hR.c175) rfl) rfl)))) ?_
  rw [((Eq.trans (congrFun (vm_up_f _ 152 _ _ 175 (by decide)) 0) hy) : (vm_up I 152 40 0) 175 0 = 4)]
  refine vm_J.go vm_q267 (k := 3) (hs := []) (f' := (bif vm_ic .eq 4 0 then 58 else 33, (0, 0), [.ref 152, .int 4, .int 4, .retAddr 0], [])) (h' := (G, (vm_up I 152 40 0), F)) (hs' := []) rfl rfl ?_
  refine vm_J.bF (by decide) ?_
  refine vm_J.go vm_q267 (k := 3) (hs := []) (f' := (bif vm_ic .eq 4 4 then 58 else 38, (0, 0), [.ref 152, .int 4, .int 4, .retAddr 0], [])) (h' := (G, (vm_up I 152 40 0), F)) (hs' := []) rfl rfl ?_
  refine vm_J.bT (by decide) ?_
  refine vm_J.go vm_q267 (k := 5) (hs := []) (f' := (bif vm_ic .eq 1 0 then 72 else 68, (0, 0), [.ref 152, .int 4, .int 4, .int 1], [])) (h' := (G, (vm_up I 152 40 0), F)) (hs' := []) rfl rfl ?_
  refine vm_J.bF (by decide) ?_
  refine vm_J.go vm_q267 (k := 2) (hs := []) (f' := (74, (0, 0), [.ref 152, .int 4, .int 4, .int 1], [.int 4])) (h' := (G, (vm_up I 152 40 0), F)) (hs' := []) rfl rfl ?_
  exact vm_J.end vm_q267 (en := (74, .ireturn, 1, [], .null)) rfl rfl vm_rI (Nat.zero_le _) (Nat.zero_le _) rfl
