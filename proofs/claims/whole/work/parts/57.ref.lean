/-- the reference's own cell -/
def vm_shR : vm_Sh := (13, 60, [.ref 153, .ref 154, .ref 155, .ref 156, .ref 157, .ref 158, .int 0, .int 0, .int 0, .int 0, .int 0, .int 0, .ref 159, .ref 160, .int 0, .ref 161, .ref 162, .ref 163, .ref 164, .int 0, .ref 165, .ref 166, .ref 167, .ref 168, .ref 169, .int 0, .int 0, .int 0, .int 0, .ref 170, .ref 171, .ref 172, .ref 173, .ref 174, .ref 175, .ref 176, .ref 177, .ref 178, .ref 179, .ref 180, .int 0, .ref 181, .ref 182, .ref 183, .ref 184, .ref 185, .ref 186, .ref 187, .ref 188, .int 0, .int 0, .int 0, .ref 189, .ref 190, .int 0, .int 0, .int 0, .ref 191, .ref 192, .ref 193])
/-- the reference's cells -/
def vm_isR (G : List vm_Sh) : Prop := (G[152]? = some vm_shR) ∧ (G[153]? = some (0, 4, [])) ∧ (G[154]? = some (0, 4, [])) ∧ (G[155]? = some (0, 576, [])) ∧ (G[156]? = some (0, 4, [])) ∧ (G[157]? = some (0, 64, [])) ∧ (G[158]? = some (0, 64, [])) ∧ (G[159]? = some (0, 144, [])) ∧ (G[160]? = some (0, 144, [])) ∧ (G[161]? = some (0, 144, [])) ∧ (G[162]? = some (0, 144, [])) ∧ (G[163]? = some (0, 16, [])) ∧ (G[164]? = some (0, 16, [])) ∧ (G[165]? = some (0, 100, [])) ∧ (G[166]? = some (0, 12, [])) ∧ (G[167]? = some (0, 12, [])) ∧ (G[168]? = some (0, 12, [])) ∧ (G[169]? = some (0, 12, [])) ∧ (G[170]? = some (0, 16, [])) ∧ (G[171]? = some (0, 48, [])) ∧ (G[172]? = some (0, 16, [])) ∧ (G[173]? = some (0, 2, [])) ∧ (G[174]? = some (0, 2, [])) ∧ (G[175]? = some (0, 2, [])) ∧ (G[176]? = some (0, 288, [])) ∧ (G[177]? = some (0, 288, [])) ∧ (G[178]? = some (0, 288, [])) ∧ (G[179]? = some (1, 6, [])) ∧ (G[180]? = some (1, 432, [])) ∧ (G[181]? = some (1, 3, [])) ∧ (G[182]? = some (0, 6, [])) ∧ (G[183]? = some (0, 6, [])) ∧ (G[184]? = some (0, 6, [])) ∧ (G[185]? = some (0, 8, [])) ∧ (G[186]? = some (0, 8, [])) ∧ (G[187]? = some (0, 8, [])) ∧ (G[188]? = some (0, 8, [])) ∧ (G[189]? = some (0, 2560, [])) ∧ (G[190]? = some (1, 3, [])) ∧ (G[191]? = some (0, 6, [])) ∧ (G[192]? = some (0, 6, [])) ∧ (G[193]? = some (0, 900, []))
theorem vm_isR.c152 {G : List vm_Sh} (h : vm_isR G) : G[152]? = some vm_shR := h.1
theorem vm_isR.c153 {G : List vm_Sh} (h : vm_isR G) : G[153]? = some (0, 4, []) := h.2.1
theorem vm_isR.c154 {G : List vm_Sh} (h : vm_isR G) : G[154]? = some (0, 4, []) := h.2.2.1
theorem vm_isR.c155 {G : List vm_Sh} (h : vm_isR G) : G[155]? = some (0, 576, []) := h.2.2.2.1
theorem vm_isR.c156 {G : List vm_Sh} (h : vm_isR G) : G[156]? = some (0, 4, []) := h.2.2.2.2.1
theorem vm_isR.c157 {G : List vm_Sh} (h : vm_isR G) : G[157]? = some (0, 64, []) := h.2.2.2.2.2.1
theorem vm_isR.c158 {G : List vm_Sh} (h : vm_isR G) : G[158]? = some (0, 64, []) := h.2.2.2.2.2.2.1
theorem vm_isR.c159 {G : List vm_Sh} (h : vm_isR G) : G[159]? = some (0, 144, []) := h.2.2.2.2.2.2.2.1
theorem vm_isR.c160 {G : List vm_Sh} (h : vm_isR G) : G[160]? = some (0, 144, []) := h.2.2.2.2.2.2.2.2.1
theorem vm_isR.c161 {G : List vm_Sh} (h : vm_isR G) : G[161]? = some (0, 144, []) := h.2.2.2.2.2.2.2.2.2.1
theorem vm_isR.c162 {G : List vm_Sh} (h : vm_isR G) : G[162]? = some (0, 144, []) := h.2.2.2.2.2.2.2.2.2.2.1
theorem vm_isR.c163 {G : List vm_Sh} (h : vm_isR G) : G[163]? = some (0, 16, []) := h.2.2.2.2.2.2.2.2.2.2.2.1
theorem vm_isR.c164 {G : List vm_Sh} (h : vm_isR G) : G[164]? = some (0, 16, []) := h.2.2.2.2.2.2.2.2.2.2.2.2.1
theorem vm_isR.c165 {G : List vm_Sh} (h : vm_isR G) : G[165]? = some (0, 100, []) := h.2.2.2.2.2.2.2.2.2.2.2.2.2.1
theorem vm_isR.c166 {G : List vm_Sh} (h : vm_isR G) : G[166]? = some (0, 12, []) := h.2.2.2.2.2.2.2.2.2.2.2.2.2.2.1
theorem vm_isR.c167 {G : List vm_Sh} (h : vm_isR G) : G[167]? = some (0, 12, []) := h.2.2.2.2.2.2.2.2.2.2.2.2.2.2.2.1
theorem vm_isR.c168 {G : List vm_Sh} (h : vm_isR G) : G[168]? = some (0, 12, []) := h.2.2.2.2.2.2.2.2.2.2.2.2.2.2.2.2.1
theorem vm_isR.c169 {G : List vm_Sh} (h : vm_isR G) : G[169]? = some (0, 12, []) := h.2.2.2.2.2.2.2.2.2.2.2.2.2.2.2.2.2.1
theorem vm_isR.c170 {G : List vm_Sh} (h : vm_isR G) : G[170]? = some (0, 16, []) := h.2.2.2.2.2.2.2.2.2.2.2.2.2.2.2.2.2.2.1
theorem vm_isR.c171 {G : List vm_Sh} (h : vm_isR G) : G[171]? = some (0, 48, []) := h.2.2.2.2.2.2.2.2.2.2.2.2.2.2.2.2.2.2.2.1
theorem vm_isR.c172 {G : List vm_Sh} (h : vm_isR G) : G[172]? = some (0, 16, []) := h.2.2.2.2.2.2.2.2.2.2.2.2.2.2.2.2.2.2.2.2.1
theorem vm_isR.c173 {G : List vm_Sh} (h : vm_isR G) : G[173]? = some (0, 2, []) := h.2.2.2.2.2.2.2.2.2.2.2.2.2.2.2.2.2.2.2.2.2.1
theorem vm_isR.c174 {G : List vm_Sh} (h : vm_isR G) : G[174]? = some (0, 2, []) := h.2.2.2.2.2.2.2.2.2.2.2.2.2.2.2.2.2.2.2.2.2.2.1
theorem vm_isR.c175 {G : List vm_Sh} (h : vm_isR G) : G[175]? = some (0, 2, []) := h.2.2.2.2.2.2.2.2.2.2.2.2.2.2.2.2.2.2.2.2.2.2.2.1
theorem vm_isR.c176 {G : List vm_Sh} (h : vm_isR G) : G[176]? = some (0, 288, []) := h.2.2.2.2.2.2.2.2.2.2.2.2.2.2.2.2.2.2.2.2.2.2.2.2.1
theorem vm_isR.c177 {G : List vm_Sh} (h : vm_isR G) : G[177]? = some (0, 288, []) := h.2.2.2.2.2.2.2.2.2.2.2.2.2.2.2.2.2.2.2.2.2.2.2.2.2.1
theorem vm_isR.c178 {G : List vm_Sh} (h : vm_isR G) : G[178]? = some (0, 288, []) := h.2.2.2.2.2.2.2.2.2.2.2.2.2.2.2.2.2.2.2.2.2.2.2.2.2.2.1
theorem vm_isR.c179 {G : List vm_Sh} (h : vm_isR G) : G[179]? = some (1, 6, []) := h.2.2.2.2.2.2.2.2.2.2.2.2.2.2.2.2.2.2.2.2.2.2.2.2.2.2.2.1
theorem vm_isR.c180 {G : List vm_Sh} (h : vm_isR G) : G[180]? = some (1, 432, []) := h.2.2.2.2.2.2.2.2.2.2.2.2.2.2.2.2.2.2.2.2.2.2.2.2.2.2.2.2.1
theorem vm_isR.c181 {G : List vm_Sh} (h : vm_isR G) : G[181]? = some (1, 3, []) := h.2.2.2.2.2.2.2.2.2.2.2.2.2.2.2.2.2.2.2.2.2.2.2.2.2.2.2.2.2.1
theorem vm_isR.c182 {G : List vm_Sh} (h : vm_isR G) : G[182]? = some (0, 6, []) := h.2.2.2.2.2.2.2.2.2.2.2.2.2.2.2.2.2.2.2.2.2.2.2.2.2.2.2.2.2.2.1
theorem vm_isR.c183 {G : List vm_Sh} (h : vm_isR G) : G[183]? = some (0, 6, []) := h.2.2.2.2.2.2.2.2.2.2.2.2.2.2.2.2.2.2.2.2.2.2.2.2.2.2.2.2.2.2.2.1
theorem vm_isR.c184 {G : List vm_Sh} (h : vm_isR G) : G[184]? = some (0, 6, []) := h.2.2.2.2.2.2.2.2.2.2.2.2.2.2.2.2.2.2.2.2.2.2.2.2.2.2.2.2.2.2.2.2.1
theorem vm_isR.c185 {G : List vm_Sh} (h : vm_isR G) : G[185]? = some (0, 8, []) := h.2.2.2.2.2.2.2.2.2.2.2.2.2.2.2.2.2.2.2.2.2.2.2.2.2.2.2.2.2.2.2.2.2.1
theorem vm_isR.c186 {G : List vm_Sh} (h : vm_isR G) : G[186]? = some (0, 8, []) := h.2.2.2.2.2.2.2.2.2.2.2.2.2.2.2.2.2.2.2.2.2.2.2.2.2.2.2.2.2.2.2.2.2.2.1
theorem vm_isR.c187 {G : List vm_Sh} (h : vm_isR G) : G[187]? = some (0, 8, []) := h.2.2.2.2.2.2.2.2.2.2.2.2.2.2.2.2.2.2.2.2.2.2.2.2.2.2.2.2.2.2.2.2.2.2.2.1
theorem vm_isR.c188 {G : List vm_Sh} (h : vm_isR G) : G[188]? = some (0, 8, []) := h.2.2.2.2.2.2.2.2.2.2.2.2.2.2.2.2.2.2.2.2.2.2.2.2.2.2.2.2.2.2.2.2.2.2.2.2.1
theorem vm_isR.c189 {G : List vm_Sh} (h : vm_isR G) : G[189]? = some (0, 2560, []) := h.2.2.2.2.2.2.2.2.2.2.2.2.2.2.2.2.2.2.2.2.2.2.2.2.2.2.2.2.2.2.2.2.2.2.2.2.2.1
theorem vm_isR.c190 {G : List vm_Sh} (h : vm_isR G) : G[190]? = some (1, 3, []) := h.2.2.2.2.2.2.2.2.2.2.2.2.2.2.2.2.2.2.2.2.2.2.2.2.2.2.2.2.2.2.2.2.2.2.2.2.2.2.1
theorem vm_isR.c191 {G : List vm_Sh} (h : vm_isR G) : G[191]? = some (0, 6, []) := h.2.2.2.2.2.2.2.2.2.2.2.2.2.2.2.2.2.2.2.2.2.2.2.2.2.2.2.2.2.2.2.2.2.2.2.2.2.2.2.1
theorem vm_isR.c192 {G : List vm_Sh} (h : vm_isR G) : G[192]? = some (0, 6, []) := h.2.2.2.2.2.2.2.2.2.2.2.2.2.2.2.2.2.2.2.2.2.2.2.2.2.2.2.2.2.2.2.2.2.2.2.2.2.2.2.2.1
theorem vm_isR.c193 {G : List vm_Sh} (h : vm_isR G) : G[193]? = some (0, 900, []) := h.2.2.2.2.2.2.2.2.2.2.2.2.2.2.2.2.2.2.2.2.2.2.2.2.2.2.2.2.2.2.2.2.2.2.2.2.2.2.2.2.2
set_option maxHeartbeats 4000000 in
set_option maxRecDepth 20000 in
/-- DitherDeskModel.works  -/
theorem r_works {l : Launch} {X : vm_Cx} {G : List vm_Sh} {I : Nat → Nat → Int32} {F : Nat → Nat → UInt32} {k : Int32} (hR : vm_isR G) (h : I 152 10 + k ≤ 6000) : vm_K l X vm_M178 [.ref 152, .int k] (G, I, F) (some (.int 1)) (G, (vm_up I 152 10 (I 152 10 + k)), F) := by
  refine vm_K.mk (by decide) (Nat.le_of_ble_eq_true rfl) ?_
  show vm_J _ _ _ (0, (0, 0), [.ref 152, .int k], []) _ _ _
  refine vm_J.go vm_q178 (k := 6) (hs := [vm_shR]) (f' := (bif vm_ic .le ((I 152 10) + k) 6000 then 14 else 12, (0, 0), [.ref 152, .int k], [])) (h' := (G, I, F)) (hs' := []) rfl (vm_b2 rfl (vm_b2 (vm_b2 (vm_hG hR.c152) rfl) (vm_b2 rfl (vm_b2 rfl (vm_b2 rfl (vm_b2 rfl rfl)))))) ?_
  refine vm_J.br (fun c1 => ?_) (fun c1 => ?_)
  · have c1 : ((I 152 10) + k) ≤ 6000 := of_decide_eq_true c1
    refine vm_J.go vm_q178 (k := 7) (hs := [vm_shR, vm_shR]) (f' := (25, (0, 0), [.ref 152, .int k], [.int 1])) (h' := (G, (vm_up I 152 10 ((I 152 10) + k)), F)) (hs' := []) rfl (vm_b2 rfl (vm_b2 rfl (vm_b2 (vm_b2 (vm_hG hR.c152) rfl) (vm_b2 rfl (vm_b2 rfl (vm_b2 (vm_b2 (vm_b2 (vm_hG hR.c152) rfl) rfl) (vm_b2 rfl rfl))))))) ?_
    exact vm_J.end vm_q178 (en := (25, .ireturn, 1, [], .null)) rfl rfl vm_rZ1 (Nat.zero_le _) (Nat.zero_le _) rfl
  · have c1 : ¬ (((I 152 10) + k) ≤ 6000) := of_decide_eq_false c1
    exact absurd h c1
set_option maxHeartbeats 4000000 in
set_option maxRecDepth 20000 in
/-- DitherDeskModel.manyPixels  -/
theorem r_manyPixels {l : Launch} {X : vm_Cx} {G : List vm_Sh} {I : Nat → Nat → Int32} {F : Nat → Nat → UInt32} {p : Nat} (hR : vm_isR G) (hp : p < 4) : vm_K l X vm_M175 [.ref 152, .int (nI p)] (G, I, F) (some (.int (I 153 p * I 154 p))) (G, I, F) := by
  refine vm_K.mk (by decide) (Nat.le_of_ble_eq_true rfl) ?_
  show vm_J _ _ _ (0, (0, 0), [.ref 152, .int (nI p)], []) _ _ _
  refine vm_J.go vm_q175 (k := 9) (hs := [vm_shR, (0, 4, []), vm_shR, (0, 4, [])]) (f' := (13, (0, 0), [.ref 152, .int (nI p)], [.int ((I 153 (nI p).toNatClampNeg) * (I 154 (nI p).toNatClampNeg))])) (h' := (G, I, F)) (hs' := []) rfl (vm_b2 rfl (vm_b2 (vm_b2 (vm_hG hR.c152) rfl) (vm_b2 rfl (vm_b2 (vm_b2 (vm_hG hR.c153) (vm_in_e (j := p) (n := 4) rfl (by omega) (by omega))) (vm_b2 rfl (vm_b2 (vm_b2 (vm_hG hR.c152) rfl) (vm_b2 rfl (vm_b2 (vm_b2 (vm_hG hR.c154) (vm_in_e (j := p) (n := 4) rfl (by omega) (by omega))) (vm_b2 rfl rfl))))))))) ?_
  rw [vm_ix_e (j := p) rfl (by omega)]
  exact vm_J.end vm_q175 (en := (13, .ireturn, 1, [], .null)) rfl rfl vm_rI (Nat.zero_le _) (Nat.zero_le _) rfl
