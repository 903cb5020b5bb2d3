theorem vm_up_f {α : Type} (I : Nat → Nat → α) (o k : Nat) (x : α) (a : Nat) (h : a ≠ o) : vm_up I o k x a = I a := by
  funext b
  unfold vm_up
  rw [if_neg h]
theorem vm_zc_f {α : Type} (z : α) (I : Nat → Nat → α) (d n a : Nat) (h : a ≠ d) : vm_zc z I d n a = I a := by
  funext b
  unfold vm_zc
  rw [if_neg h]
theorem vm_cp_f {α : Type} (I : Nat → Nat → α) (s d n a : Nat) (h : a ≠ d) : vm_cp I s d n a = I a := by
  funext b
  unfold vm_cp
  rw [if_neg h]
theorem vm_up_sw {α : Type} (I : Nat → Nat → α) (o k : Nat) (x : α) (a j : Nat) (y : α) (h : a ≠ o) : vm_up (vm_up I o k x) a j y = vm_up (vm_up I a j y) o k x := by
  funext p q
  unfold vm_up
  by_cases h1 : p = a
  · subst h1
    rw [if_pos rfl, if_neg h, if_neg h, if_pos rfl]
  · rw [if_neg h1, if_neg h1]
theorem vm_nz {x : Int32} {n : Nat} (h : x = nI n) (h1 : 0 < n) (h2 : n < 2147483648) : ¬ x = 0 := by
  rw [h]
  intro e
  exact absurd (vm_ne_i (a := n) (b := 0) h2 (by decide) e) (by omega)
theorem vm_toN {a : Nat} (h : a < 2147483648) : (nI a).toInt = (a : Int) := nI_toInt h
theorem vm_pd {x y : Int32} {a b : Nat} (h1 : x = nI a) (h2 : y = nI b) (ha : a < 2147483648) (hb : b < 2147483648) : x / y = nI (a / b) := by
  apply Int32.toInt_inj.mp
  have hd : a / b ≤ a := Nat.div_le_self a b
  rw [h1, h2, Int32.toInt_div, vm_toN ha, vm_toN hb, vm_toN (Nat.lt_of_le_of_lt hd ha), Int.tdiv_eq_ediv_of_nonneg (Int.natCast_nonneg a), ← Int.natCast_ediv]
  generalize a / b = q at *
  exact Int.bmod_eq_of_le (by omega) (by omega)
theorem vm_pr {x y : Int32} {a b : Nat} (h1 : x = nI a) (h2 : y = nI b) (ha : a < 2147483648) (hb : b < 2147483648) (_h0 : 0 < b) : x - x / y * y = nI (a % b) := by
  have e : a / b * b ≤ a := Nat.div_mul_le_self a b
  have e2 : a - a / b * b = a % b := by
    have := Nat.div_add_mod a b
    rw [Nat.mul_comm] at this
    omega
  rw [vm_ps h1 (vm_pm (vm_pd h1 h2 ha hb) h2) e, e2]
theorem vm_k3 (r g b : Int32) : 4096 * r + 64 * g + b = ((0 * 64 + r) * 64 + g) * 64 + b := by
  rw [Int32.zero_mul, Int32.zero_add, Int32.add_mul, Int32.mul_assoc, show (64 : Int32) * 64 = 4096 from rfl, Int32.mul_comm r, Int32.mul_comm g]
theorem vm_k4 (r g b : Int32) : 64 * (64 * (64 * 0 + r) + g) + b = ((0 * 64 + r) * 64 + g) * 64 + b := by
  rw [Int32.mul_comm 64 0, Int32.mul_comm 64 (0 * 64 + r), Int32.mul_comm 64 ((0 * 64 + r) * 64 + g)]
theorem r_isIn_y {l : Launch} {X : vm_Cx} {G : List vm_Sh} {I : Nat → Nat → Int32} {F : Nat → Nat → UInt32} {v a b : Int32} (h : a ≤ v ∧ v ≤ b) : vm_K l X vm_M168 [.int v, .int a, .int b] (G, I, F) (some (.int 1)) (G, I, F) := by
  have q := r_isIn (l := l) (X := X) (G := G) (I := I) (F := F) (v := v) (a := a) (b := b)
  rw [vm_bi_t h] at q
  exact q
theorem r_isIn_n {l : Launch} {X : vm_Cx} {G : List vm_Sh} {I : Nat → Nat → Int32} {F : Nat → Nat → UInt32} {v a b : Int32} (h : ¬ (a ≤ v ∧ v ≤ b)) : vm_K l X vm_M168 [.int v, .int a, .int b] (G, I, F) (some (.int 0)) (G, I, F) := by
  have q := r_isIn (l := l) (X := X) (G := G) (I := I) (F := F) (v := v) (a := a) (b := b)
  rw [vm_bi_f h] at q
  exact q
theorem r_isColour_y {l : Launch} {X : vm_Cx} {G : List vm_Sh} {I : Nat → Nat → Int32} {F : Nat → Nat → UInt32} {c : Int32} (h : (0 ≤ c ∧ c ≤ 262143)) : vm_K l X vm_M169 [.int c] (G, I, F) (some (.int 1)) (G, I, F) := by
  have q := r_isColour (l := l) (X := X) (G := G) (I := I) (F := F) (c := c)
  rw [vm_bi_t h] at q
  exact q
theorem r_isColour_n {l : Launch} {X : vm_Cx} {G : List vm_Sh} {I : Nat → Nat → Int32} {F : Nat → Nat → UInt32} {c : Int32} (h : ¬ (0 ≤ c ∧ c ≤ 262143)) : vm_K l X vm_M169 [.int c] (G, I, F) (some (.int 0)) (G, I, F) := by
  have q := r_isColour (l := l) (X := X) (G := G) (I := I) (F := F) (c := c)
  rw [vm_bi_f h] at q
  exact q
theorem r_isPalette_y {l : Launch} {X : vm_Cx} {G : List vm_Sh} {I : Nat → Nat → Int32} {F : Nat → Nat → UInt32} {c : Int32} (h : (0 ≤ c ∧ c ≤ 3)) : vm_K l X vm_M173 [.int c] (G, I, F) (some (.int 1)) (G, I, F) := by
  have q := r_isPalette (l := l) (X := X) (G := G) (I := I) (F := F) (c := c)
  rw [vm_bi_t h] at q
  exact q
theorem r_isPalette_n {l : Launch} {X : vm_Cx} {G : List vm_Sh} {I : Nat → Nat → Int32} {F : Nat → Nat → UInt32} {c : Int32} (h : ¬ (0 ≤ c ∧ c ≤ 3)) : vm_K l X vm_M173 [.int c] (G, I, F) (some (.int 0)) (G, I, F) := by
  have q := r_isPalette (l := l) (X := X) (G := G) (I := I) (F := F) (c := c)
  rw [vm_bi_f h] at q
  exact q
theorem r_isTape_y {l : Launch} {X : vm_Cx} {G : List vm_Sh} {I : Nat → Nat → Int32} {F : Nat → Nat → UInt32} {c : Int32} (h : (0 ≤ c ∧ c ≤ 5)) : vm_K l X vm_M287 [.int c] (G, I, F) (some (.int 1)) (G, I, F) := by
  have q := r_isTape (l := l) (X := X) (G := G) (I := I) (F := F) (c := c)
  rw [vm_bi_t h] at q
  exact q
theorem r_isTape_n {l : Launch} {X : vm_Cx} {G : List vm_Sh} {I : Nat → Nat → Int32} {F : Nat → Nat → UInt32} {c : Int32} (h : ¬ (0 ≤ c ∧ c ≤ 5)) : vm_K l X vm_M287 [.int c] (G, I, F) (some (.int 0)) (G, I, F) := by
  have q := r_isTape (l := l) (X := X) (G := G) (I := I) (F := F) (c := c)
  rw [vm_bi_f h] at q
  exact q
set_option maxHeartbeats 4000000 in
set_option maxRecDepth 20000 in
/-- DitherDeskModel.isPicture -/
theorem r_isPic_x {l : Launch} {X : vm_Cx} {G : List vm_Sh} {I : Nat → Nat → Int32} {F : Nat → Nat → UInt32} {q : Int32} (hR : vm_isR G) (hx : ¬ (0 ≤ q ∧ q ≤ 3)) : vm_K l X vm_M172 [.ref 152, .int q] (G, I, F) (some (.int 0)) (G, I, F) := by
  refine vm_K.mk (by decide) (Nat.le_of_ble_eq_true rfl) ?_
  show vm_J _ _ _ (0, (0, 0), [.ref 152, .int q], []) _ _ _
  refine vm_J.go vm_q172 (k := 3) (hs := []) (f' := (3, (0, 0), [.ref 152, .int q], [.int 3, .int 0, .int q])) (h' := (G, I, F)) (hs' := []) rfl rfl ?_
  refine vm_J.call vm_q172 (Z := vm_M168) (n := 3) (k := 1) (mi := 168) (pc := 3) (en := (3, .invokestatic 141, 3, [168, 1302, 0], .null)) rfl trivial rfl rfl vm_z168 (av := [.int q, .int 0, .int 3]) (rest := []) (r_isIn_n (v := q) (a := 0) (b := 3) hx) rfl (Nat.le_of_ble_eq_true rfl) ⟨Nat.le_of_ble_eq_true rfl, Nat.le_of_ble_eq_true rfl⟩ ⟨Nat.le_of_ble_eq_true rfl, Nat.le_of_ble_eq_true rfl⟩ ?_
  show vm_J _ _ _ (6, (0, 0), [.ref 152, .int q], [.int 0]) (G, I, F) _ _
  refine vm_J.go vm_q172 (k := 1) (hs := []) (f' := (bif vm_ic .eq 0 0 then 22 else 9, (0, 0), [.ref 152, .int q], [])) (h' := (G, I, F)) (hs' := []) rfl rfl ?_
  refine vm_J.bT (by decide) ?_
  refine vm_J.go vm_q172 (k := 1) (hs := []) (f' := (23, (0, 0), [.ref 152, .int q], [.int 0])) (h' := (G, I, F)) (hs' := []) rfl rfl ?_
  exact vm_J.end vm_q172 (en := (23, .ireturn, 1, [], .null)) rfl rfl vm_rZ0 (Nat.zero_le _) (Nat.zero_le _) rfl
theorem r_isPic_y {l : Launch} {X : vm_Cx} {G : List vm_Sh} {I : Nat → Nat → Int32} {F : Nat → Nat → UInt32} {p w : Nat} (hR : vm_isR G) (hp : p < 4) (hw : I 153 p = nI w) (hw2 : w ≤ 12) (h : 0 < w) : vm_K l X vm_M172 [.ref 152, .int (nI p)] (G, I, F) (some (.int 1)) (G, I, F) := by
  have q := r_isPicture (l := l) (X := X) (I := I) (F := F) hR hp
  rw [hw, vm_bi_t] at q
  · exact q
  · exact (vm_lt_i (a := 0) (b := w) (by decide) (by omega)).mpr h
theorem r_isPic_n {l : Launch} {X : vm_Cx} {G : List vm_Sh} {I : Nat → Nat → Int32} {F : Nat → Nat → UInt32} {p w : Nat} (hR : vm_isR G) (hp : p < 4) (hw : I 153 p = nI w) (hw2 : w ≤ 12) (h : w = 0) : vm_K l X vm_M172 [.ref 152, .int (nI p)] (G, I, F) (some (.int 0)) (G, I, F) := by
  have q := r_isPicture (l := l) (X := X) (I := I) (F := F) hR hp
  rw [hw, vm_bi_f] at q
  · exact q
  · rw [h]; decide
set_option maxHeartbeats 4000000 in
set_option maxRecDepth 20000 in
/-- DitherDeskModel.manyPixels -/
theorem r_pix {l : Launch} {X : vm_Cx} {G : List vm_Sh} {I : Nat → Nat → Int32} {F : Nat → Nat → UInt32} {p : Nat} {w : Nat} {h : Nat} (hR : vm_isR G) (hw : I 153 p = nI w) (hh : I 154 p = nI h) (hp : p < 4) : vm_K l X vm_M175 [.ref 152, .int (nI p)] (G, I, F) (some (.int (nI (w * h)))) (G, I, F) := by
  refine vm_K.mk (by decide) (Nat.le_of_ble_eq_true rfl) ?_
  show vm_J _ _ _ (0, (0, 0), [.ref 152, .int (nI p)], []) _ _ _
  refine vm_J.go vm_q175 (k := 4) (hs := [vm_shR, (0, 4, [])]) (f' := (6, (0, 0), [.ref 152, .int (nI p)], [.int (I 153 (nI p).toNatClampNeg)])) (h' := (G, I, F)) (hs' := []) rfl (vm_b2 rfl (vm_b2 (vm_b2 (vm_hG hR.c152) rfl) (vm_b2 rfl (vm_b2 (vm_b2 (vm_hG hR.c153) (vm_in_e (j := p) (n := 4) rfl (by omega) (by omega))) rfl)))) ?_
  rw [vm_ix_e (j := p) rfl (by omega)]
  rw [(hw : I 153 p = nI w)]
  refine vm_J.go vm_q175 (k := 4) (hs := [vm_shR, (0, 4, [])]) (f' := (12, (0, 0), [.ref 152, .int (nI p)], [.int (I 154 (nI p).toNatClampNeg), .int (nI w)])) (h' := (G, I, F)) (hs' := []) rfl (vm_b2 rfl (vm_b2 (vm_b2 (vm_hG hR.c152) rfl) (vm_b2 rfl (vm_b2 (vm_b2 (vm_hG hR.c154) (vm_in_e (j := p) (n := 4) rfl (by omega) (by omega))) rfl)))) ?_
  rw [vm_ix_e (j := p) rfl (by omega)]
  rw [(hh : I 154 p = nI h)]
  refine vm_J.go vm_q175 (k := 1) (hs := []) (f' := (13, (0, 0), [.ref 152, .int (nI p)], [.int ((nI w) * (nI h))])) (h' := (G, I, F)) (hs' := []) rfl rfl ?_
  rw [((vm_pm (rfl : (nI w : Int32) = nI w) (rfl : (nI h : Int32) = nI h)) : (nI w) * (nI h) = nI (w * h))]
  exact vm_J.end vm_q175 (en := (13, .ireturn, 1, [], .null)) rfl rfl vm_rI (Nat.zero_le _) (Nat.zero_le _) rfl
set_option maxHeartbeats 4000000 in
set_option maxRecDepth 20000 in
/-- DitherDeskModel.at -/
theorem r_at_n {l : Launch} {X : vm_Cx} {G : List vm_Sh} {I : Nat → Nat → Int32} {F : Nat → Nat → UInt32} {p : Nat} {w : Nat} {i : Nat} {j : Nat} (hR : vm_isR G) (hw : I 153 p = nI w) (hp : p < 4) : vm_K l X vm_M180 [.ref 152, .int (nI p), .int (nI i), .int (nI j)] (G, I, F) (some (.int (nI (144 * p + w * j + i)))) (G, I, F) := by
  refine vm_K.mk (by decide) (Nat.le_of_ble_eq_true rfl) ?_
  show vm_J _ _ _ (0, (0, 0), [.ref 152, .int (nI p), .int (nI i), .int (nI j)], []) _ _ _
  refine vm_J.go vm_q180 (k := 7) (hs := [vm_shR, (0, 4, [])]) (f' := (11, (0, 0), [.ref 152, .int (nI p), .int (nI i), .int (nI j)], [.int (I 153 (nI p).toNatClampNeg), .int (144 * (nI p))])) (h' := (G, I, F)) (hs' := []) rfl (vm_b2 rfl (vm_b2 rfl (vm_b2 rfl (vm_b2 rfl (vm_b2 (vm_b2 (vm_hG hR.c152) rfl) (vm_b2 rfl (vm_b2 (vm_b2 (vm_hG hR.c153) (vm_in_e (j := p) (n := 4) rfl (by omega) (by omega))) rfl))))))) ?_
  rw [vm_ix_e (j := p) rfl (by omega), ((vm_pm (rfl : (144 : Int32) = nI 144) (rfl : (nI p : Int32) = nI p)) : 144 * (nI p) = nI (144 * p))]
  rw [(hw : I 153 p = nI w)]
  refine vm_J.go vm_q180 (k := 5) (hs := []) (f' := (16, (0, 0), [.ref 152, .int (nI p), .int (nI i), .int (nI j)], [.int (((nI (144 * p)) + ((nI w) * (nI j))) + (nI i))])) (h' := (G, I, F)) (hs' := []) rfl rfl ?_
  rw [((vm_pa (vm_pa (rfl : (nI (144 * p) : Int32) = nI (144 * p)) (vm_pm (rfl : (nI w : Int32) = nI w) (rfl : (nI j : Int32) = nI j))) (rfl : (nI i : Int32) = nI i)) : ((nI (144 * p)) + ((nI w) * (nI j))) + (nI i) = nI (((144 * p) + (w * j)) + i))]
  exact vm_J.end vm_q180 (en := (16, .ireturn, 1, [], .null)) rfl rfl vm_rI (Nat.zero_le _) (Nat.zero_le _) rfl
/-- a draw's step -/
def sp_lc (z : Int32) : Int32 := z * 1103515245 + 12345
theorem sp_lc_e (z : Int32) : z * 1103515245 + 12345 = sp_lc z := rfl
/-- three channels as a colour -/
def sp_co (r g b : Int32) : Int32 := 4096 * r + 64 * g + b
theorem sp_co_e (r g b : Int32) : sp_co r g b = ((0 * 64 + r) * 64 + g) * 64 + b := vm_k3 r g b
set_option maxHeartbeats 4000000 in
set_option maxRecDepth 20000 in
/-- DitherDeskModel.colourOf -/
theorem r_colour_o {l : Launch} {X : vm_Cx} {G : List vm_Sh} {I : Nat → Nat → Int32} {F : Nat → Nat → UInt32} {a : Int32} {b : Int32} {c : Int32} (hR : vm_isR G) : vm_K l X vm_M171 [.int a, .int b, .int c] (G, I, F) (some (.int (sp_co a b c))) (G, I, F) := by
  refine vm_K.mk (by decide) (Nat.le_of_ble_eq_true rfl) ?_
  show vm_J _ _ _ (0, (0, 0), [.int a, .int b, .int c], []) _ _ _
  refine vm_J.go vm_q171 (k := 9) (hs := []) (f' := (12, (0, 0), [.int a, .int b, .int c], [.int (((4096 * a) + (64 * b)) + c)])) (h' := (G, I, F)) (hs' := []) rfl rfl ?_
  exact vm_J.end vm_q171 (en := (12, .ireturn, 1, [], .null)) rfl rfl vm_rI (Nat.zero_le _) (Nat.zero_le _) rfl
set_option maxHeartbeats 4000000 in
set_option maxRecDepth 20000 in
/-- DitherDeskModel.draw -/
theorem r_draw_n {l : Launch} {X : vm_Cx} {G : List vm_Sh} {I : Nat → Nat → Int32} {F : Nat → Nat → UInt32} {z0 : Int32} (hR : vm_isR G) (hz : I 152 11 = z0) : vm_K l X vm_M182 [.ref 152] (G, I, F) (some (.int (sp_d (sp_lc z0)))) (G, (vm_up I 152 11 (sp_lc z0)), F) := by
  refine vm_K.mk (by decide) (Nat.le_of_ble_eq_true rfl) ?_
  subst hz
  show vm_J _ _ _ (0, (0, 0), [.ref 152], []) _ _ _
  refine vm_J.go vm_q182 (k := 10) (hs := [vm_shR, vm_shR, vm_shR]) (f' := (19, (0, 0), [.ref 152], [.int ((vm_up I 152 11 (((I 152 11) * 1103515245) + 12345)) 152 11)])) (h' := (G, (vm_up I 152 11 (((I 152 11) * 1103515245) + 12345)), F)) (hs' := []) rfl (vm_b2 rfl (vm_b2 rfl (vm_b2 (vm_b2 (vm_hG hR.c152) rfl) (vm_b2 rfl (vm_b2 rfl (vm_b2 rfl (vm_b2 rfl (vm_b2 (vm_b2 (vm_b2 (vm_hG hR.c152) rfl) rfl) (vm_b2 rfl (vm_b2 (vm_b2 (vm_hG hR.c152) rfl) rfl)))))))))) ?_
  rw [((vm_up_h _ 152 11 _) : (vm_up I 152 11 (((I 152 11) * 1103515245) + 12345)) 152 11 = ((I 152 11) * 1103515245) + 12345)]
  refine vm_J.go vm_q182 (k := 4) (hs := []) (f' := (25, (0, 0), [.ref 152], [.int ((((((I 152 11) * 1103515245) + 12345).toUInt32 >>> ((9 : Int32).toUInt32 &&& Int32.toUInt32 31)).toInt32) - (((((I 152 11) * 1103515245) + 12345).toUInt32 >>> ((9 : Int32).toUInt32 &&& Int32.toUInt32 31)).toInt32) / 64 * 64)])) (h' := (G, (vm_up I 152 11 (((I 152 11) * 1103515245) + 12345)), F)) (hs' := []) rfl rfl ?_
  exact vm_J.end vm_q182 (en := (25, .ireturn, 1, [], .null)) rfl rfl vm_rI (Nat.zero_le _) (Nat.zero_le _) rfl
set_option maxHeartbeats 4000000 in
set_option maxRecDepth 20000 in
/-- DitherDeskModel.picture -/
theorem r_picture_x {l : Launch} {X : vm_Cx} {G : List vm_Sh} {I : Nat → Nat → Int32} {F : Nat → Nat → UInt32} {q : Int32} {a : Int32} {b : Int32} (hR : vm_isR G) (hx : ¬ (0 ≤ q ∧ q ≤ 3)) : vm_K l X vm_M179 [.ref 152, .int q, .int a, .int b] (G, I, F) (some (.int (-1))) (G, I, F) := by
  refine vm_K.mk (by decide) (Nat.le_of_ble_eq_true rfl) ?_
  show vm_J _ _ _ (0, (0, 0), [.ref 152, .int q, .int a, .int b, .retAddr 0], []) _ _ _
  refine vm_J.go vm_q179 (k := 3) (hs := []) (f' := (3, (0, 0), [.ref 152, .int q, .int a, .int b, .retAddr 0], [.int 3, .int 0, .int q])) (h' := (G, I, F)) (hs' := []) rfl rfl ?_
  refine vm_J.call vm_q179 (Z := vm_M168) (n := 3) (k := 1) (mi := 168) (pc := 3) (en := (3, .invokestatic 141, 3, [168, 1302, 0], .null)) rfl trivial rfl rfl vm_z168 (av := [.int q, .int 0, .int 3]) (rest := []) (r_isIn_n (v := q) (a := 0) (b := 3) hx) rfl (Nat.le_of_ble_eq_true rfl) ⟨Nat.le_of_ble_eq_true rfl, Nat.le_of_ble_eq_true rfl⟩ ⟨Nat.le_of_ble_eq_true rfl, Nat.le_of_ble_eq_true rfl⟩ ?_
  show vm_J _ _ _ (6, (0, 0), [.ref 152, .int q, .int a, .int b, .retAddr 0], [.int 0]) (G, I, F) _ _
  refine vm_J.go vm_q179 (k := 1) (hs := []) (f' := (bif vm_ic .ne 0 0 then 11 else 9, (0, 0), [.ref 152, .int q, .int a, .int b, .retAddr 0], [])) (h' := (G, I, F)) (hs' := []) rfl rfl ?_
  refine vm_J.bF (by decide) ?_
  refine vm_J.go vm_q179 (k := 1) (hs := []) (f' := (10, (0, 0), [.ref 152, .int q, .int a, .int b, .retAddr 0], [.int (-1)])) (h' := (G, I, F)) (hs' := []) rfl rfl ?_
  exact vm_J.end vm_q179 (en := (10, .ireturn, 1, [], .null)) rfl rfl vm_rI (Nat.zero_le _) (Nat.zero_le _) rfl
set_option maxHeartbeats 4000000 in
set_option maxRecDepth 20000 in
/-- DitherDeskModel.picture -/
theorem r_picture_b1 {l : Launch} {X : vm_Cx} {G : List vm_Sh} {I : Nat → Nat → Int32} {F : Nat → Nat → UInt32} {p : Nat} {a : Int32} {b : Int32} (hR : vm_isR G) (hp : p < 4) (h1 : ¬ (0 ≤ a ∧ a ≤ 12)) : vm_K l X vm_M179 [.ref 152, .int (nI p), .int a, .int b] (G, I, F) (some (.int (-2))) (G, I, F) := by
  refine vm_K.mk (by decide) (Nat.le_of_ble_eq_true rfl) ?_
  show vm_J _ _ _ (0, (0, 0), [.ref 152, .int (nI p), .int a, .int b, .retAddr 0], []) _ _ _
  refine vm_J.go vm_q179 (k := 3) (hs := []) (f' := (3, (0, 0), [.ref 152, .int (nI p), .int a, .int b, .retAddr 0], [.int 3, .int 0, .int (nI p)])) (h' := (G, I, F)) (hs' := []) rfl rfl ?_
  refine vm_J.call vm_q179 (Z := vm_M168) (n := 3) (k := 1) (mi := 168) (pc := 3) (en := (3, .invokestatic 141, 3, [168, 1302, 0], .null)) rfl trivial rfl rfl vm_z168 (av := [.int (nI p), .int 0, .int 3]) (rest := []) (r_isIn_y (v := nI p) (a := 0) (b := 3) (vm_bp4 hp)) rfl (Nat.le_of_ble_eq_true rfl) ⟨Nat.le_of_ble_eq_true rfl, Nat.le_of_ble_eq_true rfl⟩ ⟨Nat.le_of_ble_eq_true rfl, Nat.le_of_ble_eq_true rfl⟩ ?_
  show vm_J _ _ _ (6, (0, 0), [.ref 152, .int (nI p), .int a, .int b, .retAddr 0], [.int 1]) (G, I, F) _ _
  refine vm_J.go vm_q179 (k := 1) (hs := []) (f' := (bif vm_ic .ne 1 0 then 11 else 9, (0, 0), [.ref 152, .int (nI p), .int a, .int b, .retAddr 0], [])) (h' := (G, I, F)) (hs' := []) rfl rfl ?_
  refine vm_J.bT (by decide) ?_
  refine vm_J.go vm_q179 (k := 3) (hs := []) (f' := (15, (0, 0), [.ref 152, .int (nI p), .int a, .int b, .retAddr 0], [.int 12, .int 0, .int a])) (h' := (G, I, F)) (hs' := []) rfl rfl ?_
  refine vm_J.call vm_q179 (Z := vm_M168) (n := 3) (k := 1) (mi := 168) (pc := 15) (en := (15, .invokestatic 141, 3, [168, 1302, 0], .null)) rfl trivial rfl rfl vm_z168 (av := [.int a, .int 0, .int 12]) (rest := []) (r_isIn_n (v := a) (a := 0) (b := 12) h1) rfl (Nat.le_of_ble_eq_true rfl) ⟨Nat.le_of_ble_eq_true rfl, Nat.le_of_ble_eq_true rfl⟩ ⟨Nat.le_of_ble_eq_true rfl, Nat.le_of_ble_eq_true rfl⟩ ?_
  show vm_J _ _ _ (18, (0, 0), [.ref 152, .int (nI p), .int a, .int b, .retAddr 0], [.int 0]) (G, I, F) _ _
  refine vm_J.go vm_q179 (k := 1) (hs := []) (f' := (bif vm_ic .eq 0 0 then 35 else 21, (0, 0), [.ref 152, .int (nI p), .int a, .int b, .retAddr 0], [])) (h' := (G, I, F)) (hs' := []) rfl rfl ?_
  refine vm_J.bT (by decide) ?_
  refine vm_J.go vm_q179 (k := 1) (hs := []) (f' := (37, (0, 0), [.ref 152, .int (nI p), .int a, .int b, .retAddr 0], [.int (-2)])) (h' := (G, I, F)) (hs' := []) rfl rfl ?_
  exact vm_J.end vm_q179 (en := (37, .ireturn, 1, [], .null)) rfl rfl vm_rI (Nat.zero_le _) (Nat.zero_le _) rfl
theorem vm_bpn {n m : Nat} {c : Int32} (h : n ≤ m) (hc : c = nI m) (hm : m < 2147483648) : 0 ≤ nI n ∧ nI n ≤ c := by
  rw [hc]
  exact ⟨(vm_le_i (a := 0) (b := n) (by decide) (by omega)).mpr (by omega), (vm_le_i (by omega) hm).mpr h⟩
theorem vm_bp1 {n m : Nat} {c : Int32} (h0 : 0 < n) (h : n ≤ m) (hc : c = nI m) (hm : m < 2147483648) : 1 ≤ nI n ∧ nI n ≤ c := by
  rw [hc]
  exact ⟨(vm_le_i (a := 1) (b := n) (by decide) (by omega)).mpr (by omega), (vm_le_i (by omega) hm).mpr h⟩
set_option maxHeartbeats 4000000 in
set_option maxRecDepth 20000 in
/-- DitherDeskModel.picture -/
theorem r_picture_b2 {l : Launch} {X : vm_Cx} {G : List vm_Sh} {I : Nat → Nat → Int32} {F : Nat → Nat → UInt32} {p : Nat} {w : Nat} {b : Int32} (hR : vm_isR G) (hp : p < 4) (hw0 : 0 < w) (hw2 : w ≤ 12) (h1 : ¬ (1 ≤ b ∧ b ≤ 12)) : vm_K l X vm_M179 [.ref 152, .int (nI p), .int (nI w), .int b] (G, I, F) (some (.int (-2))) (G, I, F) := by
  refine vm_K.mk (by decide) (Nat.le_of_ble_eq_true rfl) ?_
  show vm_J _ _ _ (0, (0, 0), [.ref 152, .int (nI p), .int (nI w), .int b, .retAddr 0], []) _ _ _
  refine vm_J.go vm_q179 (k := 3) (hs := []) (f' := (3, (0, 0), [.ref 152, .int (nI p), .int (nI w), .int b, .retAddr 0], [.int 3, .int 0, .int (nI p)])) (h' := (G, I, F)) (hs' := []) rfl rfl ?_
  refine vm_J.call vm_q179 (Z := vm_M168) (n := 3) (k := 1) (mi := 168) (pc := 3) (en := (3, .invokestatic 141, 3, [168, 1302, 0], .null)) rfl trivial rfl rfl vm_z168 (av := [.int (nI p), .int 0, .int 3]) (rest := []) (r_isIn_y (v := nI p) (a := 0) (b := 3) (vm_bp4 hp)) rfl (Nat.le_of_ble_eq_true rfl) ⟨Nat.le_of_ble_eq_true rfl, Nat.le_of_ble_eq_true rfl⟩ ⟨Nat.le_of_ble_eq_true rfl, Nat.le_of_ble_eq_true rfl⟩ ?_
  show vm_J _ _ _ (6, (0, 0), [.ref 152, .int (nI p), .int (nI w), .int b, .retAddr 0], [.int 1]) (G, I, F) _ _
  refine vm_J.go vm_q179 (k := 1) (hs := []) (f' := (bif vm_ic .ne 1 0 then 11 else 9, (0, 0), [.ref 152, .int (nI p), .int (nI w), .int b, .retAddr 0], [])) (h' := (G, I, F)) (hs' := []) rfl rfl ?_
  refine vm_J.bT (by decide) ?_
  refine vm_J.go vm_q179 (k := 3) (hs := []) (f' := (15, (0, 0), [.ref 152, .int (nI p), .int (nI w), .int b, .retAddr 0], [.int 12, .int 0, .int (nI w)])) (h' := (G, I, F)) (hs' := []) rfl rfl ?_
  refine vm_J.call vm_q179 (Z := vm_M168) (n := 3) (k := 1) (mi := 168) (pc := 15) (en := (15, .invokestatic 141, 3, [168, 1302, 0], .null)) rfl trivial rfl rfl vm_z168 (av := [.int (nI w), .int 0, .int 12]) (rest := []) (r_isIn_y (v := nI w) (a := 0) (b := 12) (vm_bpn hw2 (by decide) (by decide))) rfl (Nat.le_of_ble_eq_true rfl) ⟨Nat.le_of_ble_eq_true rfl, Nat.le_of_ble_eq_true rfl⟩ ⟨Nat.le_of_ble_eq_true rfl, Nat.le_of_ble_eq_true rfl⟩ ?_
  show vm_J _ _ _ (18, (0, 0), [.ref 152, .int (nI p), .int (nI w), .int b, .retAddr 0], [.int 1]) (G, I, F) _ _
  refine vm_J.go vm_q179 (k := 1) (hs := []) (f' := (bif vm_ic .eq 1 0 then 35 else 21, (0, 0), [.ref 152, .int (nI p), .int (nI w), .int b, .retAddr 0], [])) (h' := (G, I, F)) (hs' := []) rfl rfl ?_
  refine vm_J.bF (by decide) ?_
  refine vm_J.go vm_q179 (k := 2) (hs := []) (f' := (bif vm_ic .le (nI w) 0 then 38 else 25, (0, 0), [.ref 152, .int (nI p), .int (nI w), .int b, .retAddr 0], [])) (h' := (G, I, F)) (hs' := []) rfl rfl ?_
  refine vm_J.br (fun c1 => ?_) (fun c1 => ?_)
  · have c1 := vm_le_t (a := w) (b := 0) (by omega) (by omega) c1
    exact (show False by omega).elim
  · have c1 := vm_le_f (a := w) (b := 0) (by omega) (by omega) c1
    refine vm_J.go vm_q179 (k := 3) (hs := []) (f' := (29, (0, 0), [.ref 152, .int (nI p), .int (nI w), .int b, .retAddr 0], [.int 12, .int 1, .int b])) (h' := (G, I, F)) (hs' := []) rfl rfl ?_
    refine vm_J.call vm_q179 (Z := vm_M168) (n := 3) (k := 1) (mi := 168) (pc := 29) (en := (29, .invokestatic 141, 3, [168, 1302, 0], .null)) rfl trivial rfl rfl vm_z168 (av := [.int b, .int 1, .int 12]) (rest := []) (r_isIn_n (v := b) (a := 1) (b := 12) h1) rfl (Nat.le_of_ble_eq_true rfl) ⟨Nat.le_of_ble_eq_true rfl, Nat.le_of_ble_eq_true rfl⟩ ⟨Nat.le_of_ble_eq_true rfl, Nat.le_of_ble_eq_true rfl⟩ ?_
    show vm_J _ _ _ (32, (0, 0), [.ref 152, .int (nI p), .int (nI w), .int b, .retAddr 0], [.int 0]) (G, I, F) _ _
    refine vm_J.go vm_q179 (k := 1) (hs := []) (f' := (bif vm_ic .ne 0 0 then 38 else 35, (0, 0), [.ref 152, .int (nI p), .int (nI w), .int b, .retAddr 0], [])) (h' := (G, I, F)) (hs' := []) rfl rfl ?_
    refine vm_J.bF (by decide) ?_
    refine vm_J.go vm_q179 (k := 1) (hs := []) (f' := (37, (0, 0), [.ref 152, .int (nI p), .int (nI w), .int b, .retAddr 0], [.int (-2)])) (h' := (G, I, F)) (hs' := []) rfl rfl ?_
    exact vm_J.end vm_q179 (en := (37, .ireturn, 1, [], .null)) rfl rfl vm_rI (Nat.zero_le _) (Nat.zero_le _) rfl
set_option maxHeartbeats 4000000 in
set_option maxRecDepth 20000 in
/-- DitherDeskModel.picture -/
theorem r_picture_y {l : Launch} {X : vm_Cx} {G : List vm_Sh} {I : Nat → Nat → Int32} {F : Nat → Nat → UInt32} {p : Nat} {w : Nat} {h : Nat} (hR : vm_isR G) (hp : p < 4) (hw0 : 0 < w) (hw2 : w ≤ 12) (hh0 : 0 < h) (hh2 : h ≤ 12) : vm_K l X vm_M179 [.ref 152, .int (nI p), .int (nI w), .int (nI h)] (G, I, F) (some (.int (nI (w * h)))) (G, (vm_wq (vm_up (vm_up I 153 p (nI w)) 154 p (nI h)) 155 (fun _ => 0) (144 * p) 144), F) := by
  refine vm_K.mk (by decide) (Nat.le_of_ble_eq_true rfl) ?_
  show vm_J _ _ _ (0, (0, 0), [.ref 152, .int (nI p), .int (nI w), .int (nI h), .retAddr 0], []) _ _ _
  refine vm_J.go vm_q179 (k := 3) (hs := []) (f' := (3, (0, 0), [.ref 152, .int (nI p), .int (nI w), .int (nI h), .retAddr 0], [.int 3, .int 0, .int (nI p)])) (h' := (G, I, F)) (hs' := []) rfl rfl ?_
  refine vm_J.call vm_q179 (Z := vm_M168) (n := 3) (k := 1) (mi := 168) (pc := 3) (en := (3, .invokestatic 141, 3, [168, 1302, 0], .null)) rfl trivial rfl rfl vm_z168 (av := [.int (nI p), .int 0, .int 3]) (rest := []) (r_isIn_y (v := nI p) (a := 0) (b := 3) (vm_bp4 hp)) rfl (Nat.le_of_ble_eq_true rfl) ⟨Nat.le_of_ble_eq_true rfl, Nat.le_of_ble_eq_true rfl⟩ ⟨Nat.le_of_ble_eq_true rfl, Nat.le_of_ble_eq_true rfl⟩ ?_
  show vm_J _ _ _ (6, (0, 0), [.ref 152, .int (nI p), .int (nI w), .int (nI h), .retAddr 0], [.int 1]) (G, I, F) _ _
  refine vm_J.go vm_q179 (k := 1) (hs := []) (f' := (bif vm_ic .ne 1 0 then 11 else 9, (0, 0), [.ref 152, .int (nI p), .int (nI w), .int (nI h), .retAddr 0], [])) (h' := (G, I, F)) (hs' := []) rfl rfl ?_
  refine vm_J.bT (by decide) ?_
  refine vm_J.go vm_q179 (k := 3) (hs := []) (f' := (15, (0, 0), [.ref 152, .int (nI p), .int (nI w), .int (nI h), .retAddr 0], [.int 12, .int 0, .int (nI w)])) (h' := (G, I, F)) (hs' := []) rfl rfl ?_
  refine vm_J.call vm_q179 (Z := vm_M168) (n := 3) (k := 1) (mi := 168) (pc := 15) (en := (15, .invokestatic 141, 3, [168, 1302, 0], .null)) rfl trivial rfl rfl vm_z168 (av := [.int (nI w), .int 0, .int 12]) (rest := []) (r_isIn_y (v := nI w) (a := 0) (b := 12) (vm_bpn (m := 12) (by omega) rfl (by decide))) rfl (Nat.le_of_ble_eq_true rfl) ⟨Nat.le_of_ble_eq_true rfl, Nat.le_of_ble_eq_true rfl⟩ ⟨Nat.le_of_ble_eq_true rfl, Nat.le_of_ble_eq_true rfl⟩ ?_
  show vm_J _ _ _ (18, (0, 0), [.ref 152, .int (nI p), .int (nI w), .int (nI h), .retAddr 0], [.int 1]) (G, I, F) _ _
  refine vm_J.go vm_q179 (k := 1) (hs := []) (f' := (bif vm_ic .eq 1 0 then 35 else 21, (0, 0), [.ref 152, .int (nI p), .int (nI w), .int (nI h), .retAddr 0], [])) (h' := (G, I, F)) (hs' := []) rfl rfl ?_
  refine vm_J.bF (by decide) ?_
  refine vm_J.go vm_q179 (k := 2) (hs := []) (f' := (bif vm_ic .le (nI w) 0 then 38 else 25, (0, 0), [.ref 152, .int (nI p), .int (nI w), .int (nI h), .retAddr 0], [])) (h' := (G, I, F)) (hs' := []) rfl rfl ?_
  refine vm_J.br (fun c1 => ?_) (fun c1 => ?_)
  · have c1 := vm_le_t (a := w) (b := 0) (by omega) (by omega) c1
    exact (show False by omega).elim
  · have c1 := vm_le_f (a := w) (b := 0) (by omega) (by omega) c1
    refine vm_J.go vm_q179 (k := 3) (hs := []) (f' := (29, (0, 0), [.ref 152, .int (nI p), .int (nI w), .int (nI h), .retAddr 0], [.int 12, .int 1, .int (nI h)])) (h' := (G, I, F)) (hs' := []) rfl rfl ?_
    refine vm_J.call vm_q179 (Z := vm_M168) (n := 3) (k := 1) (mi := 168) (pc := 29) (en := (29, .invokestatic 141, 3, [168, 1302, 0], .null)) rfl trivial rfl rfl vm_z168 (av := [.int (nI h), .int 1, .int 12]) (rest := []) (r_isIn_y (v := nI h) (a := 1) (b := 12) (vm_bp1 (m := 12) hh0 hh2 rfl (by decide))) rfl (Nat.le_of_ble_eq_true rfl) ⟨Nat.le_of_ble_eq_true rfl, Nat.le_of_ble_eq_true rfl⟩ ⟨Nat.le_of_ble_eq_true rfl, Nat.le_of_ble_eq_true rfl⟩ ?_
    show vm_J _ _ _ (32, (0, 0), [.ref 152, .int (nI p), .int (nI w), .int (nI h), .retAddr 0], [.int 1]) (G, I, F) _ _
    refine vm_J.go vm_q179 (k := 1) (hs := []) (f' := (bif vm_ic .ne 1 0 then 38 else 35, (0, 0), [.ref 152, .int (nI p), .int (nI w), .int (nI h), .retAddr 0], [])) (h' := (G, I, F)) (hs' := []) rfl rfl ?_
    refine vm_J.bT (by decide) ?_
    refine vm_J.go vm_q179 (k := 10) (hs := [vm_shR, (0, 4, []), vm_shR]) (f' := (bif vm_ic .le (nI w) 0 then 58 else 54, (0, 0), [.ref 152, .int (nI p), .int (nI w), .int (nI h), .retAddr 0], [.int (nI p), .ref 154])) (h' := (G, (vm_up I 153 ((nI p).toNatClampNeg) (nI w)), F)) (hs' := []) rfl (vm_b2 rfl (vm_b2 (vm_b2 (vm_hG hR.c152) rfl) (vm_b2 rfl (vm_b2 rfl (vm_b2 (vm_b2 (vm_hG hR.c153) (vm_in_e (j := p) (n := 4) rfl (by omega) (by omega))) (vm_b2 rfl (vm_b2 (vm_b2 (vm_hG hR.c152) rfl) (vm_b2 rfl (vm_b2 rfl (vm_b2 rfl rfl)))))))))) ?_
    rw [vm_ix_e (j := p) rfl (by omega)]
    refine vm_J.br (fun c2 => ?_) (fun c2 => ?_)
    · have c2 := vm_le_t (a := w) (b := 0) (by omega) (by omega) c2
      exact (show False by omega).elim
    · have c2 := vm_le_f (a := w) (b := 0) (by omega) (by omega) c2
      refine vm_J.go vm_q179 (k := 5) (hs := [(0, 4, [])]) (f' := (63, (0, 0), [.ref 152, .int (nI p), .int (nI w), .int (nI h), .int 0], [])) (h' := (G, (vm_up (vm_up I 153 (p) (nI w)) 154 ((nI p).toNatClampNeg) (nI h)), F)) (hs' := []) rfl (vm_b2 rfl (vm_b2 rfl (vm_b2 (vm_b2 (vm_hG hR.c154) (vm_in_e (j := p) (n := 4) rfl (by omega) (by omega))) (vm_b2 rfl (vm_b2 rfl rfl))))) ?_
      rw [vm_ix_e (j := p) rfl (by omega)]
      refine vm_J.cnt 144 (fun k => (63, (0, 0), [.ref 152, .int (nI p), .int (nI w), .int (nI h), .int (nI k)], [])) (fun k => (G, (vm_wq (vm_up (vm_up I 153 p (nI w)) 154 p (nI h)) 155 (fun _ => 0) (144 * p) k), F)) (fun _ => True) rfl (by rw [← vm_wq_0]) trivial (fun k hk pk ik => ?_) (fun pk => ?_)
      · show vm_J _ _ _ (63, (0, 0), [.ref 152, .int (nI p), .int (nI w), .int (nI h), .int (nI k)], []) (G, (vm_wq (vm_up (vm_up I 153 p (nI w)) 154 p (nI h)) 155 (fun _ => 0) (144 * p) k), F) _ _
        refine vm_J.go vm_q179 (k := 3) (hs := []) (f' := (bif vm_ic .ge (nI k) 144 then 91 else 71, (0, 0), [.ref 152, .int (nI p), .int (nI w), .int (nI h), .int (nI k)], [])) (h' := (G, (vm_wq (vm_up (vm_up I 153 p (nI w)) 154 p (nI h)) 155 (fun _ => 0) (144 * p) k), F)) (hs' := []) rfl rfl ?_
        refine vm_J.br (fun c3 => ?_) (fun c3 => ?_)
        · have c3 := vm_ge_t (a := k) (b := 144) (by omega) (by omega) c3
          exact (show False by omega).elim
        · have c3 := vm_ge_f (a := k) (b := 144) (by omega) (by omega) c3
          refine vm_J.go vm_q179 (k := 11) (hs := [vm_shR, (0, 576, [])]) (f' := (63, (0, 0), [.ref 152, .int (nI p), .int (nI w), .int (nI h), .int ((nI k) + 1)], [])) (h' := (G, (vm_up (vm_wq (vm_up (vm_up I 153 p (nI w)) 154 p (nI h)) 155 (fun _ => 0) (144 * p) k) 155 (((144 * (nI p)) + (nI k)).toNatClampNeg) 0), F)) (hs' := []) rfl (vm_b2 rfl (vm_b2 (vm_b2 (vm_hG hR.c152) rfl) (vm_b2 rfl (vm_b2 rfl (vm_b2 rfl (vm_b2 rfl (vm_b2 rfl (vm_b2 rfl (vm_b2 (vm_b2 (vm_hG hR.c155) (vm_in_e (j := (144 * p) + k) (n := 576) (vm_pa (vm_pm (rfl : (144 : Int32) = nI 144) (rfl : (nI p : Int32) = nI p)) (rfl : (nI k : Int32) = nI k)) (by omega) (by omega))) (vm_b2 rfl (vm_b2 rfl rfl))))))))))) ?_
          rw [vm_ix_e (j := (144 * p) + k) (vm_pa (vm_pm (rfl : (144 : Int32) = nI 144) (rfl : (nI p : Int32) = nI p)) (rfl : (nI k : Int32) = nI k)) (by omega), ((vm_pa (rfl : nI k = nI k) (rfl : (1 : Int32) = nI 1)) : (nI k) + 1 = nI (k + 1))]
          rw [show (vm_up (vm_wq (vm_up (vm_up I 153 p (nI w)) 154 p (nI h)) 155 (fun _ => 0) (144 * p) k) 155 (((144 * p) + k)) 0) = (vm_wq (vm_up (vm_up I 153 p (nI w)) 154 p (nI h)) 155 (fun _ => 0) (144 * p) (k + 1)) from by exact vm_wq_s _ 155 (144 * p) k (fun _ => 0)]
          exact ik trivial
      · show vm_J _ _ _ (63, (0, 0), [.ref 152, .int (nI p), .int (nI w), .int (nI h), .int (nI 144)], []) (G, (vm_wq (vm_up (vm_up I 153 p (nI w)) 154 p (nI h)) 155 (fun _ => 0) (144 * p) 144), F) _ _
        refine vm_J.go vm_q179 (k := 3) (hs := []) (f' := (bif vm_ic .ge (nI 144) 144 then 91 else 71, (0, 0), [.ref 152, .int (nI p), .int (nI w), .int (nI h), .int (nI 144)], [])) (h' := (G, (vm_wq (vm_up (vm_up I 153 p (nI w)) 154 p (nI h)) 155 (fun _ => 0) (144 * p) 144), F)) (hs' := []) rfl rfl ?_
        refine vm_J.br (fun c4 => ?_) (fun c4 => ?_)
        · have c4 := vm_ge_t (a := 144) (b := 144) (by omega) (by omega) c4
          refine vm_J.go vm_q179 (k := 2) (hs := []) (f' := (93, (0, 0), [.ref 152, .int (nI p), .int (nI w), .int (nI h), .int (nI 144)], [.int (nI p), .ref 152])) (h' := (G, (vm_wq (vm_up (vm_up I 153 p (nI w)) 154 p (nI h)) 155 (fun _ => 0) (144 * p) 144), F)) (hs' := []) rfl rfl ?_
          refine vm_J.call vm_q179 (Z := vm_M175) (n := 1) (k := 0) (mi := 175) (pc := 93) (en := (93, .invokevirtual 152, 3, [175, 1305, 0], .null)) rfl trivial rfl rfl vm_z175 (av := [.ref 152, .int (nI p)]) (rest := []) (r_pix (p := p) (w := w) (h := h) hR (Eq.trans (congrFun (vm_wq_o _ 155 (144 * p) 144 153 _ (by decide)) p) (Eq.trans (congrFun (vm_up_f _ 154 _ _ 153 (by decide)) p) (vm_up_h _ 153 p _))) (Eq.trans (congrFun (vm_wq_o _ 155 (144 * p) 144 154 _ (by decide)) p) (vm_up_h _ 154 p _)) (by omega)) ⟨_, _, rfl, rfl, _, 11, _, hR.c152, rfl, rfl, rfl⟩ (Nat.le_of_ble_eq_true rfl) ⟨Nat.le_of_ble_eq_true rfl, Nat.le_of_ble_eq_true rfl⟩ ⟨Nat.le_of_ble_eq_true rfl, Nat.le_of_ble_eq_true rfl⟩ ?_
          show vm_J _ _ _ (96, (0, 0), [.ref 152, .int (nI p), .int (nI w), .int (nI h), .int (nI 144)], [.int (nI (w * h))]) (G, (vm_wq (vm_up (vm_up I 153 p (nI w)) 154 p (nI h)) 155 (fun _ => 0) (144 * p) 144), F) _ _
          exact vm_J.end vm_q179 (en := (96, .ireturn, 1, [], .null)) rfl rfl vm_rI (Nat.zero_le _) (Nat.zero_le _) rfl
        · have c4 := vm_ge_f (a := 144) (b := 144) (by omega) (by omega) c4
          exact (show False by omega).elim
set_option maxHeartbeats 4000000 in
set_option maxRecDepth 20000 in
/-- DitherDeskModel.picture -/
theorem r_picture_0 {l : Launch} {X : vm_Cx} {G : List vm_Sh} {I : Nat → Nat → Int32} {F : Nat → Nat → UInt32} {p : Nat} {b : Int32} (hR : vm_isR G) (hp : p < 4) : vm_K l X vm_M179 [.ref 152, .int (nI p), .int 0, .int b] (G, I, F) (some (.int (nI (0 * 0)))) (G, (vm_wq (vm_up (vm_up I 153 p 0) 154 p 0) 155 (fun _ => 0) (144 * p) 144), F) := by
  refine vm_K.mk (by decide) (Nat.le_of_ble_eq_true rfl) ?_
  show vm_J _ _ _ (0, (0, 0), [.ref 152, .int (nI p), .int 0, .int b, .retAddr 0], []) _ _ _
  refine vm_J.go vm_q179 (k := 3) (hs := []) (f' := (3, (0, 0), [.ref 152, .int (nI p), .int 0, .int b, .retAddr 0], [.int 3, .int 0, .int (nI p)])) (h' := (G, I, F)) (hs' := []) rfl rfl ?_
  refine vm_J.call vm_q179 (Z := vm_M168) (n := 3) (k := 1) (mi := 168) (pc := 3) (en := (3, .invokestatic 141, 3, [168, 1302, 0], .null)) rfl trivial rfl rfl vm_z168 (av := [.int (nI p), .int 0, .int 3]) (rest := []) (r_isIn_y (v := nI p) (a := 0) (b := 3) (vm_bp4 hp)) rfl (Nat.le_of_ble_eq_true rfl) ⟨Nat.le_of_ble_eq_true rfl, Nat.le_of_ble_eq_true rfl⟩ ⟨Nat.le_of_ble_eq_true rfl, Nat.le_of_ble_eq_true rfl⟩ ?_
  show vm_J _ _ _ (6, (0, 0), [.ref 152, .int (nI p), .int 0, .int b, .retAddr 0], [.int 1]) (G, I, F) _ _
  refine vm_J.go vm_q179 (k := 1) (hs := []) (f' := (bif vm_ic .ne 1 0 then 11 else 9, (0, 0), [.ref 152, .int (nI p), .int 0, .int b, .retAddr 0], [])) (h' := (G, I, F)) (hs' := []) rfl rfl ?_
  refine vm_J.bT (by decide) ?_
  refine vm_J.go vm_q179 (k := 3) (hs := []) (f' := (15, (0, 0), [.ref 152, .int (nI p), .int 0, .int b, .retAddr 0], [.int 12, .int 0, .int 0])) (h' := (G, I, F)) (hs' := []) rfl rfl ?_
  refine vm_J.call vm_q179 (Z := vm_M168) (n := 3) (k := 1) (mi := 168) (pc := 15) (en := (15, .invokestatic 141, 3, [168, 1302, 0], .null)) rfl trivial rfl rfl vm_z168 (av := [.int 0, .int 0, .int 12]) (rest := []) (r_isIn_y (v := 0) (a := 0) (b := 12) (by decide)) rfl (Nat.le_of_ble_eq_true rfl) ⟨Nat.le_of_ble_eq_true rfl, Nat.le_of_ble_eq_true rfl⟩ ⟨Nat.le_of_ble_eq_true rfl, Nat.le_of_ble_eq_true rfl⟩ ?_
  show vm_J _ _ _ (18, (0, 0), [.ref 152, .int (nI p), .int 0, .int b, .retAddr 0], [.int 1]) (G, I, F) _ _
  refine vm_J.go vm_q179 (k := 1) (hs := []) (f' := (bif vm_ic .eq 1 0 then 35 else 21, (0, 0), [.ref 152, .int (nI p), .int 0, .int b, .retAddr 0], [])) (h' := (G, I, F)) (hs' := []) rfl rfl ?_
  refine vm_J.bF (by decide) ?_
  refine vm_J.go vm_q179 (k := 2) (hs := []) (f' := (bif vm_ic .le 0 0 then 38 else 25, (0, 0), [.ref 152, .int (nI p), .int 0, .int b, .retAddr 0], [])) (h' := (G, I, F)) (hs' := []) rfl rfl ?_
  refine vm_J.bT (by decide) ?_
  refine vm_J.go vm_q179 (k := 10) (hs := [vm_shR, (0, 4, []), vm_shR]) (f' := (bif vm_ic .le 0 0 then 58 else 54, (0, 0), [.ref 152, .int (nI p), .int 0, .int b, .retAddr 0], [.int (nI p), .ref 154])) (h' := (G, (vm_up I 153 ((nI p).toNatClampNeg) 0), F)) (hs' := []) rfl (vm_b2 rfl (vm_b2 (vm_b2 (vm_hG hR.c152) rfl) (vm_b2 rfl (vm_b2 rfl (vm_b2 (vm_b2 (vm_hG hR.c153) (vm_in_e (j := p) (n := 4) rfl (by omega) (by omega))) (vm_b2 rfl (vm_b2 (vm_b2 (vm_hG hR.c152) rfl) (vm_b2 rfl (vm_b2 rfl (vm_b2 rfl rfl)))))))))) ?_
  rw [vm_ix_e (j := p) rfl (by omega)]
  refine vm_J.bT (by decide) ?_
  refine vm_J.go vm_q179 (k := 4) (hs := [(0, 4, [])]) (f' := (63, (0, 0), [.ref 152, .int (nI p), .int 0, .int b, .int 0], [])) (h' := (G, (vm_up (vm_up I 153 (p) 0) 154 ((nI p).toNatClampNeg) 0), F)) (hs' := []) rfl (vm_b2 rfl (vm_b2 (vm_b2 (vm_hG hR.c154) (vm_in_e (j := p) (n := 4) rfl (by omega) (by omega))) (vm_b2 rfl (vm_b2 rfl rfl)))) ?_
  rw [vm_ix_e (j := p) rfl (by omega)]
  refine vm_J.cnt 144 (fun k => (63, (0, 0), [.ref 152, .int (nI p), .int 0, .int b, .int (nI k)], [])) (fun k => (G, (vm_wq (vm_up (vm_up I 153 p 0) 154 p 0) 155 (fun _ => 0) (144 * p) k), F)) (fun _ => True) rfl (by rw [← vm_wq_0]) trivial (fun k hk pk ik => ?_) (fun pk => ?_)
  · show vm_J _ _ _ (63, (0, 0), [.ref 152, .int (nI p), .int 0, .int b, .int (nI k)], []) (G, (vm_wq (vm_up (vm_up I 153 p 0) 154 p 0) 155 (fun _ => 0) (144 * p) k), F) _ _
    refine vm_J.go vm_q179 (k := 3) (hs := []) (f' := (bif vm_ic .ge (nI k) 144 then 91 else 71, (0, 0), [.ref 152, .int (nI p), .int 0, .int b, .int (nI k)], [])) (h' := (G, (vm_wq (vm_up (vm_up I 153 p 0) 154 p 0) 155 (fun _ => 0) (144 * p) k), F)) (hs' := []) rfl rfl ?_
    refine vm_J.br (fun c1 => ?_) (fun c1 => ?_)
    · have c1 := vm_ge_t (a := k) (b := 144) (by omega) (by omega) c1
      exact (show False by omega).elim
    · have c1 := vm_ge_f (a := k) (b := 144) (by omega) (by omega) c1
      refine vm_J.go vm_q179 (k := 11) (hs := [vm_shR, (0, 576, [])]) (f' := (63, (0, 0), [.ref 152, .int (nI p), .int 0, .int b, .int ((nI k) + 1)], [])) (h' := (G, (vm_up (vm_wq (vm_up (vm_up I 153 p 0) 154 p 0) 155 (fun _ => 0) (144 * p) k) 155 (((144 * (nI p)) + (nI k)).toNatClampNeg) 0), F)) (hs' := []) rfl (vm_b2 rfl (vm_b2 (vm_b2 (vm_hG hR.c152) rfl) (vm_b2 rfl (vm_b2 rfl (vm_b2 rfl (vm_b2 rfl (vm_b2 rfl (vm_b2 rfl (vm_b2 (vm_b2 (vm_hG hR.c155) (vm_in_e (j := (144 * p) + k) (n := 576) (vm_pa (vm_pm (rfl : (144 : Int32) = nI 144) (rfl : (nI p : Int32) = nI p)) (rfl : (nI k : Int32) = nI k)) (by omega) (by omega))) (vm_b2 rfl (vm_b2 rfl rfl))))))))))) ?_
      rw [vm_ix_e (j := (144 * p) + k) (vm_pa (vm_pm (rfl : (144 : Int32) = nI 144) (rfl : (nI p : Int32) = nI p)) (rfl : (nI k : Int32) = nI k)) (by omega), ((vm_pa (rfl : nI k = nI k) (rfl : (1 : Int32) = nI 1)) : (nI k) + 1 = nI (k + 1))]
      rw [show (vm_up (vm_wq (vm_up (vm_up I 153 p 0) 154 p 0) 155 (fun _ => 0) (144 * p) k) 155 (((144 * p) + k)) 0) = (vm_wq (vm_up (vm_up I 153 p 0) 154 p 0) 155 (fun _ => 0) (144 * p) (k + 1)) from by exact vm_wq_s _ 155 (144 * p) k (fun _ => 0)]
      exact ik trivial
  · show vm_J _ _ _ (63, (0, 0), [.ref 152, .int (nI p), .int 0, .int b, .int (nI 144)], []) (G, (vm_wq (vm_up (vm_up I 153 p 0) 154 p 0) 155 (fun _ => 0) (144 * p) 144), F) _ _
    refine vm_J.go vm_q179 (k := 3) (hs := []) (f' := (bif vm_ic .ge (nI 144) 144 then 91 else 71, (0, 0), [.ref 152, .int (nI p), .int 0, .int b, .int (nI 144)], [])) (h' := (G, (vm_wq (vm_up (vm_up I 153 p 0) 154 p 0) 155 (fun _ => 0) (144 * p) 144), F)) (hs' := []) rfl rfl ?_
    refine vm_J.br (fun c2 => ?_) (fun c2 => ?_)
    · have c2 := vm_ge_t (a := 144) (b := 144) (by omega) (by omega) c2
      refine vm_J.go vm_q179 (k := 2) (hs := []) (f' := (93, (0, 0), [.ref 152, .int (nI p), .int 0, .int b, .int (nI 144)], [.int (nI p), .ref 152])) (h' := (G, (vm_wq (vm_up (vm_up I 153 p 0) 154 p 0) 155 (fun _ => 0) (144 * p) 144), F)) (hs' := []) rfl rfl ?_
      refine vm_J.call vm_q179 (Z := vm_M175) (n := 1) (k := 0) (mi := 175) (pc := 93) (en := (93, .invokevirtual 152, 3, [175, 1305, 0], .null)) rfl trivial rfl rfl vm_z175 (av := [.ref 152, .int (nI p)]) (rest := []) (r_pix (p := p) (w := 0) (h := 0) hR (Eq.trans (congrFun (vm_wq_o _ 155 (144 * p) 144 153 _ (by decide)) p) (Eq.trans (congrFun (vm_up_f _ 154 _ _ 153 (by decide)) p) (vm_up_h _ 153 p _))) (Eq.trans (congrFun (vm_wq_o _ 155 (144 * p) 144 154 _ (by decide)) p) (vm_up_h _ 154 p _)) (by omega)) ⟨_, _, rfl, rfl, _, 11, _, hR.c152, rfl, rfl, rfl⟩ (Nat.le_of_ble_eq_true rfl) ⟨Nat.le_of_ble_eq_true rfl, Nat.le_of_ble_eq_true rfl⟩ ⟨Nat.le_of_ble_eq_true rfl, Nat.le_of_ble_eq_true rfl⟩ ?_
      show vm_J _ _ _ (96, (0, 0), [.ref 152, .int (nI p), .int 0, .int b, .int (nI 144)], [.int (nI (0 * 0))]) (G, (vm_wq (vm_up (vm_up I 153 p 0) 154 p 0) 155 (fun _ => 0) (144 * p) 144), F) _ _
      exact vm_J.end vm_q179 (en := (96, .ireturn, 1, [], .null)) rfl rfl vm_rI (Nat.zero_le _) (Nat.zero_le _) rfl
    · have c2 := vm_ge_f (a := 144) (b := 144) (by omega) (by omega) c2
      exact (show False by omega).elim
set_option maxHeartbeats 4000000 in
set_option maxRecDepth 20000 in
/-- DitherDeskModel.paint -/
theorem r_paint_x {l : Launch} {X : vm_Cx} {G : List vm_Sh} {I : Nat → Nat → Int32} {F : Nat → Nat → UInt32} {q : Int32} {x : Int32} {y : Int32} {c : Int32} (hR : vm_isR G) (hx : ¬ (0 ≤ q ∧ q ≤ 3)) : vm_K l X vm_M181 [.ref 152, .int q, .int x, .int y, .int c] (G, I, F) (some (.int (-1))) (G, I, F) := by
  refine vm_K.mk (by decide) (Nat.le_of_ble_eq_true rfl) ?_
  show vm_J _ _ _ (0, (0, 0), [.ref 152, .int q, .int x, .int y, .int c, .retAddr 0], []) _ _ _
  refine vm_J.go vm_q181 (k := 2) (hs := []) (f' := (2, (0, 0), [.ref 152, .int q, .int x, .int y, .int c, .retAddr 0], [.int q, .ref 152])) (h' := (G, I, F)) (hs' := []) rfl rfl ?_
  refine vm_J.call vm_q181 (Z := vm_M172) (n := 1) (k := 0) (mi := 172) (pc := 2) (en := (2, .invokevirtual 156, 3, [172, 1313, 0], .null)) rfl trivial rfl rfl vm_z172 (av := [.ref 152, .int q]) (rest := []) (r_isPic_x (q := q) hR hx) ⟨_, _, rfl, rfl, _, 11, _, hR.c152, rfl, rfl, rfl⟩ (Nat.le_of_ble_eq_true rfl) ⟨Nat.le_of_ble_eq_true rfl, Nat.le_of_ble_eq_true rfl⟩ ⟨Nat.le_of_ble_eq_true rfl, Nat.le_of_ble_eq_true rfl⟩ ?_
  show vm_J _ _ _ (5, (0, 0), [.ref 152, .int q, .int x, .int y, .int c, .retAddr 0], [.int 0]) (G, I, F) _ _
  refine vm_J.go vm_q181 (k := 1) (hs := []) (f' := (bif vm_ic .ne 0 0 then 10 else 8, (0, 0), [.ref 152, .int q, .int x, .int y, .int c, .retAddr 0], [])) (h' := (G, I, F)) (hs' := []) rfl rfl ?_
  refine vm_J.bF (by decide) ?_
  refine vm_J.go vm_q181 (k := 1) (hs := []) (f' := (9, (0, 0), [.ref 152, .int q, .int x, .int y, .int c, .retAddr 0], [.int (-1)])) (h' := (G, I, F)) (hs' := []) rfl rfl ?_
  exact vm_J.end vm_q181 (en := (9, .ireturn, 1, [], .null)) rfl rfl vm_rI (Nat.zero_le _) (Nat.zero_le _) rfl
set_option maxHeartbeats 4000000 in
set_option maxRecDepth 20000 in
/-- DitherDeskModel.paint -/
theorem r_paint_m {l : Launch} {X : vm_Cx} {G : List vm_Sh} {I : Nat → Nat → Int32} {F : Nat → Nat → UInt32} {p : Nat} {w : Nat} {x : Int32} {y : Int32} {c : Int32} (hR : vm_isR G) (hw : I 153 p = nI w) (hp : p < 4) (hw2 : w ≤ 12) (hw0 : w = 0) : vm_K l X vm_M181 [.ref 152, .int (nI p), .int x, .int y, .int c] (G, I, F) (some (.int (-1))) (G, I, F) := by
  refine vm_K.mk (by decide) (Nat.le_of_ble_eq_true rfl) ?_
  show vm_J _ _ _ (0, (0, 0), [.ref 152, .int (nI p), .int x, .int y, .int c, .retAddr 0], []) _ _ _
  refine vm_J.go vm_q181 (k := 2) (hs := []) (f' := (2, (0, 0), [.ref 152, .int (nI p), .int x, .int y, .int c, .retAddr 0], [.int (nI p), .ref 152])) (h' := (G, I, F)) (hs' := []) rfl rfl ?_
  refine vm_J.call vm_q181 (Z := vm_M172) (n := 1) (k := 0) (mi := 172) (pc := 2) (en := (2, .invokevirtual 156, 3, [172, 1313, 0], .null)) rfl trivial rfl rfl vm_z172 (av := [.ref 152, .int (nI p)]) (rest := []) (r_isPic_n (p := p) (w := w) hR (by omega) hw (by omega) (by omega)) ⟨_, _, rfl, rfl, _, 11, _, hR.c152, rfl, rfl, rfl⟩ (Nat.le_of_ble_eq_true rfl) ⟨Nat.le_of_ble_eq_true rfl, Nat.le_of_ble_eq_true rfl⟩ ⟨Nat.le_of_ble_eq_true rfl, Nat.le_of_ble_eq_true rfl⟩ ?_
  show vm_J _ _ _ (5, (0, 0), [.ref 152, .int (nI p), .int x, .int y, .int c, .retAddr 0], [.int 0]) (G, I, F) _ _
  refine vm_J.go vm_q181 (k := 1) (hs := []) (f' := (bif vm_ic .ne 0 0 then 10 else 8, (0, 0), [.ref 152, .int (nI p), .int x, .int y, .int c, .retAddr 0], [])) (h' := (G, I, F)) (hs' := []) rfl rfl ?_
  refine vm_J.bF (by decide) ?_
  refine vm_J.go vm_q181 (k := 1) (hs := []) (f' := (9, (0, 0), [.ref 152, .int (nI p), .int x, .int y, .int c, .retAddr 0], [.int (-1)])) (h' := (G, I, F)) (hs' := []) rfl rfl ?_
  exact vm_J.end vm_q181 (en := (9, .ireturn, 1, [], .null)) rfl rfl vm_rI (Nat.zero_le _) (Nat.zero_le _) rfl
set_option maxHeartbeats 4000000 in
set_option maxRecDepth 20000 in
/-- DitherDeskModel.pixel -/
theorem r_pixel_x {l : Launch} {X : vm_Cx} {G : List vm_Sh} {I : Nat → Nat → Int32} {F : Nat → Nat → UInt32} {q : Int32} {x : Int32} {y : Int32} (hR : vm_isR G) (hx : ¬ (0 ≤ q ∧ q ≤ 3)) : vm_K l X vm_M186 [.ref 152, .int q, .int x, .int y] (G, I, F) (some (.int (-1))) (G, I, F) := by
  refine vm_K.mk (by decide) (Nat.le_of_ble_eq_true rfl) ?_
  show vm_J _ _ _ (0, (0, 0), [.ref 152, .int q, .int x, .int y], []) _ _ _
  refine vm_J.go vm_q186 (k := 2) (hs := []) (f' := (2, (0, 0), [.ref 152, .int q, .int x, .int y], [.int q, .ref 152])) (h' := (G, I, F)) (hs' := []) rfl rfl ?_
  refine vm_J.call vm_q186 (Z := vm_M172) (n := 1) (k := 0) (mi := 172) (pc := 2) (en := (2, .invokevirtual 156, 3, [172, 1313, 0], .null)) rfl trivial rfl rfl vm_z172 (av := [.ref 152, .int q]) (rest := []) (r_isPic_x (q := q) hR hx) ⟨_, _, rfl, rfl, _, 11, _, hR.c152, rfl, rfl, rfl⟩ (Nat.le_of_ble_eq_true rfl) ⟨Nat.le_of_ble_eq_true rfl, Nat.le_of_ble_eq_true rfl⟩ ⟨Nat.le_of_ble_eq_true rfl, Nat.le_of_ble_eq_true rfl⟩ ?_
  show vm_J _ _ _ (5, (0, 0), [.ref 152, .int q, .int x, .int y], [.int 0]) (G, I, F) _ _
  refine vm_J.go vm_q186 (k := 1) (hs := []) (f' := (bif vm_ic .ne 0 0 then 10 else 8, (0, 0), [.ref 152, .int q, .int x, .int y], [])) (h' := (G, I, F)) (hs' := []) rfl rfl ?_
  refine vm_J.bF (by decide) ?_
  refine vm_J.go vm_q186 (k := 1) (hs := []) (f' := (9, (0, 0), [.ref 152, .int q, .int x, .int y], [.int (-1)])) (h' := (G, I, F)) (hs' := []) rfl rfl ?_
  exact vm_J.end vm_q186 (en := (9, .ireturn, 1, [], .null)) rfl rfl vm_rI (Nat.zero_le _) (Nat.zero_le _) rfl
set_option maxHeartbeats 4000000 in
set_option maxRecDepth 20000 in
/-- DitherDeskModel.pixel -/
theorem r_pixel_m {l : Launch} {X : vm_Cx} {G : List vm_Sh} {I : Nat → Nat → Int32} {F : Nat → Nat → UInt32} {p : Nat} {w : Nat} {x : Int32} {y : Int32} (hR : vm_isR G) (hw : I 153 p = nI w) (hp : p < 4) (hw2 : w ≤ 12) (hw0 : w = 0) : vm_K l X vm_M186 [.ref 152, .int (nI p), .int x, .int y] (G, I, F) (some (.int (-1))) (G, I, F) := by
  refine vm_K.mk (by decide) (Nat.le_of_ble_eq_true rfl) ?_
  show vm_J _ _ _ (0, (0, 0), [.ref 152, .int (nI p), .int x, .int y], []) _ _ _
  refine vm_J.go vm_q186 (k := 2) (hs := []) (f' := (2, (0, 0), [.ref 152, .int (nI p), .int x, .int y], [.int (nI p), .ref 152])) (h' := (G, I, F)) (hs' := []) rfl rfl ?_
  refine vm_J.call vm_q186 (Z := vm_M172) (n := 1) (k := 0) (mi := 172) (pc := 2) (en := (2, .invokevirtual 156, 3, [172, 1313, 0], .null)) rfl trivial rfl rfl vm_z172 (av := [.ref 152, .int (nI p)]) (rest := []) (r_isPic_n (p := p) (w := w) hR (by omega) hw (by omega) (by omega)) ⟨_, _, rfl, rfl, _, 11, _, hR.c152, rfl, rfl, rfl⟩ (Nat.le_of_ble_eq_true rfl) ⟨Nat.le_of_ble_eq_true rfl, Nat.le_of_ble_eq_true rfl⟩ ⟨Nat.le_of_ble_eq_true rfl, Nat.le_of_ble_eq_true rfl⟩ ?_
  show vm_J _ _ _ (5, (0, 0), [.ref 152, .int (nI p), .int x, .int y], [.int 0]) (G, I, F) _ _
  refine vm_J.go vm_q186 (k := 1) (hs := []) (f' := (bif vm_ic .ne 0 0 then 10 else 8, (0, 0), [.ref 152, .int (nI p), .int x, .int y], [])) (h' := (G, I, F)) (hs' := []) rfl rfl ?_
  refine vm_J.bF (by decide) ?_
  refine vm_J.go vm_q186 (k := 1) (hs := []) (f' := (9, (0, 0), [.ref 152, .int (nI p), .int x, .int y], [.int (-1)])) (h' := (G, I, F)) (hs' := []) rfl rfl ?_
  exact vm_J.end vm_q186 (en := (9, .ireturn, 1, [], .null)) rfl rfl vm_rI (Nat.zero_le _) (Nat.zero_le _) rfl
set_option maxHeartbeats 4000000 in
set_option maxRecDepth 20000 in
/-- DitherDeskModel.noise -/
theorem r_noise_x {l : Launch} {X : vm_Cx} {G : List vm_Sh} {I : Nat → Nat → Int32} {F : Nat → Nat → UInt32} {q : Int32} {c : Int32} (hR : vm_isR G) (hx : ¬ (0 ≤ q ∧ q ≤ 3)) : vm_K l X vm_M183 [.ref 152, .int q, .int c] (G, I, F) (some (.int (-1))) (G, I, F) := by
  refine vm_K.mk (by decide) (Nat.le_of_ble_eq_true rfl) ?_
  show vm_J _ _ _ (0, (0, 0), [.ref 152, .int q, .int c, .retAddr 0, .retAddr 0, .retAddr 0, .retAddr 0], []) _ _ _
  refine vm_J.go vm_q183 (k := 2) (hs := []) (f' := (2, (0, 0), [.ref 152, .int q, .int c, .retAddr 0, .retAddr 0, .retAddr 0, .retAddr 0], [.int q, .ref 152])) (h' := (G, I, F)) (hs' := []) rfl rfl ?_
  refine vm_J.call vm_q183 (Z := vm_M172) (n := 1) (k := 0) (mi := 172) (pc := 2) (en := (2, .invokevirtual 156, 3, [172, 1313, 0], .null)) rfl trivial rfl rfl vm_z172 (av := [.ref 152, .int q]) (rest := []) (r_isPic_x (q := q) hR hx) ⟨_, _, rfl, rfl, _, 11, _, hR.c152, rfl, rfl, rfl⟩ (Nat.le_of_ble_eq_true rfl) ⟨Nat.le_of_ble_eq_true rfl, Nat.le_of_ble_eq_true rfl⟩ ⟨Nat.le_of_ble_eq_true rfl, Nat.le_of_ble_eq_true rfl⟩ ?_
  show vm_J _ _ _ (5, (0, 0), [.ref 152, .int q, .int c, .retAddr 0, .retAddr 0, .retAddr 0, .retAddr 0], [.int 0]) (G, I, F) _ _
  refine vm_J.go vm_q183 (k := 1) (hs := []) (f' := (bif vm_ic .ne 0 0 then 10 else 8, (0, 0), [.ref 152, .int q, .int c, .retAddr 0, .retAddr 0, .retAddr 0, .retAddr 0], [])) (h' := (G, I, F)) (hs' := []) rfl rfl ?_
  refine vm_J.bF (by decide) ?_
  refine vm_J.go vm_q183 (k := 1) (hs := []) (f' := (9, (0, 0), [.ref 152, .int q, .int c, .retAddr 0, .retAddr 0, .retAddr 0, .retAddr 0], [.int (-1)])) (h' := (G, I, F)) (hs' := []) rfl rfl ?_
  exact vm_J.end vm_q183 (en := (9, .ireturn, 1, [], .null)) rfl rfl vm_rI (Nat.zero_le _) (Nat.zero_le _) rfl
set_option maxHeartbeats 4000000 in
set_option maxRecDepth 20000 in
/-- DitherDeskModel.noise -/
theorem r_noise_m {l : Launch} {X : vm_Cx} {G : List vm_Sh} {I : Nat → Nat → Int32} {F : Nat → Nat → UInt32} {p : Nat} {w : Nat} {c : Int32} (hR : vm_isR G) (hw : I 153 p = nI w) (hp : p < 4) (hw2 : w ≤ 12) (hw0 : w = 0) : vm_K l X vm_M183 [.ref 152, .int (nI p), .int c] (G, I, F) (some (.int (-1))) (G, I, F) := by
  refine vm_K.mk (by decide) (Nat.le_of_ble_eq_true rfl) ?_
  show vm_J _ _ _ (0, (0, 0), [.ref 152, .int (nI p), .int c, .retAddr 0, .retAddr 0, .retAddr 0, .retAddr 0], []) _ _ _
  refine vm_J.go vm_q183 (k := 2) (hs := []) (f' := (2, (0, 0), [.ref 152, .int (nI p), .int c, .retAddr 0, .retAddr 0, .retAddr 0, .retAddr 0], [.int (nI p), .ref 152])) (h' := (G, I, F)) (hs' := []) rfl rfl ?_
  refine vm_J.call vm_q183 (Z := vm_M172) (n := 1) (k := 0) (mi := 172) (pc := 2) (en := (2, .invokevirtual 156, 3, [172, 1313, 0], .null)) rfl trivial rfl rfl vm_z172 (av := [.ref 152, .int (nI p)]) (rest := []) (r_isPic_n (p := p) (w := w) hR (by omega) hw (by omega) (by omega)) ⟨_, _, rfl, rfl, _, 11, _, hR.c152, rfl, rfl, rfl⟩ (Nat.le_of_ble_eq_true rfl) ⟨Nat.le_of_ble_eq_true rfl, Nat.le_of_ble_eq_true rfl⟩ ⟨Nat.le_of_ble_eq_true rfl, Nat.le_of_ble_eq_true rfl⟩ ?_
  show vm_J _ _ _ (5, (0, 0), [.ref 152, .int (nI p), .int c, .retAddr 0, .retAddr 0, .retAddr 0, .retAddr 0], [.int 0]) (G, I, F) _ _
  refine vm_J.go vm_q183 (k := 1) (hs := []) (f' := (bif vm_ic .ne 0 0 then 10 else 8, (0, 0), [.ref 152, .int (nI p), .int c, .retAddr 0, .retAddr 0, .retAddr 0, .retAddr 0], [])) (h' := (G, I, F)) (hs' := []) rfl rfl ?_
  refine vm_J.bF (by decide) ?_
  refine vm_J.go vm_q183 (k := 1) (hs := []) (f' := (9, (0, 0), [.ref 152, .int (nI p), .int c, .retAddr 0, .retAddr 0, .retAddr 0, .retAddr 0], [.int (-1)])) (h' := (G, I, F)) (hs' := []) rfl rfl ?_
  exact vm_J.end vm_q183 (en := (9, .ireturn, 1, [], .null)) rfl rfl vm_rI (Nat.zero_le _) (Nat.zero_le _) rfl
set_option maxHeartbeats 4000000 in
set_option maxRecDepth 20000 in
/-- DitherDeskModel.shade -/
theorem r_shade_x {l : Launch} {X : vm_Cx} {G : List vm_Sh} {I : Nat → Nat → Int32} {F : Nat → Nat → UInt32} {q : Int32} {a : Int32} {b : Int32} (hR : vm_isR G) (hx : ¬ (0 ≤ q ∧ q ≤ 3)) : vm_K l X vm_M185 [.ref 152, .int q, .int a, .int b] (G, I, F) (some (.int (-1))) (G, I, F) := by
  refine vm_K.mk (by decide) (Nat.le_of_ble_eq_true rfl) ?_
  show vm_J _ _ _ (0, (0, 0), [.ref 152, .int q, .int a, .int b, .retAddr 0, .retAddr 0], []) _ _ _
  refine vm_J.go vm_q185 (k := 2) (hs := []) (f' := (2, (0, 0), [.ref 152, .int q, .int a, .int b, .retAddr 0, .retAddr 0], [.int q, .ref 152])) (h' := (G, I, F)) (hs' := []) rfl rfl ?_
  refine vm_J.call vm_q185 (Z := vm_M172) (n := 1) (k := 0) (mi := 172) (pc := 2) (en := (2, .invokevirtual 156, 3, [172, 1313, 0], .null)) rfl trivial rfl rfl vm_z172 (av := [.ref 152, .int q]) (rest := []) (r_isPic_x (q := q) hR hx) ⟨_, _, rfl, rfl, _, 11, _, hR.c152, rfl, rfl, rfl⟩ (Nat.le_of_ble_eq_true rfl) ⟨Nat.le_of_ble_eq_true rfl, Nat.le_of_ble_eq_true rfl⟩ ⟨Nat.le_of_ble_eq_true rfl, Nat.le_of_ble_eq_true rfl⟩ ?_
  show vm_J _ _ _ (5, (0, 0), [.ref 152, .int q, .int a, .int b, .retAddr 0, .retAddr 0], [.int 0]) (G, I, F) _ _
  refine vm_J.go vm_q185 (k := 1) (hs := []) (f' := (bif vm_ic .ne 0 0 then 10 else 8, (0, 0), [.ref 152, .int q, .int a, .int b, .retAddr 0, .retAddr 0], [])) (h' := (G, I, F)) (hs' := []) rfl rfl ?_
  refine vm_J.bF (by decide) ?_
  refine vm_J.go vm_q185 (k := 1) (hs := []) (f' := (9, (0, 0), [.ref 152, .int q, .int a, .int b, .retAddr 0, .retAddr 0], [.int (-1)])) (h' := (G, I, F)) (hs' := []) rfl rfl ?_
  exact vm_J.end vm_q185 (en := (9, .ireturn, 1, [], .null)) rfl rfl vm_rI (Nat.zero_le _) (Nat.zero_le _) rfl
set_option maxHeartbeats 4000000 in
set_option maxRecDepth 20000 in
/-- DitherDeskModel.shade -/
theorem r_shade_m {l : Launch} {X : vm_Cx} {G : List vm_Sh} {I : Nat → Nat → Int32} {F : Nat → Nat → UInt32} {p : Nat} {w : Nat} {a : Int32} {b : Int32} (hR : vm_isR G) (hw : I 153 p = nI w) (hp : p < 4) (hw2 : w ≤ 12) (hw0 : w = 0) : vm_K l X vm_M185 [.ref 152, .int (nI p), .int a, .int b] (G, I, F) (some (.int (-1))) (G, I, F) := by
  refine vm_K.mk (by decide) (Nat.le_of_ble_eq_true rfl) ?_
  show vm_J _ _ _ (0, (0, 0), [.ref 152, .int (nI p), .int a, .int b, .retAddr 0, .retAddr 0], []) _ _ _
  refine vm_J.go vm_q185 (k := 2) (hs := []) (f' := (2, (0, 0), [.ref 152, .int (nI p), .int a, .int b, .retAddr 0, .retAddr 0], [.int (nI p), .ref 152])) (h' := (G, I, F)) (hs' := []) rfl rfl ?_
  refine vm_J.call vm_q185 (Z := vm_M172) (n := 1) (k := 0) (mi := 172) (pc := 2) (en := (2, .invokevirtual 156, 3, [172, 1313, 0], .null)) rfl trivial rfl rfl vm_z172 (av := [.ref 152, .int (nI p)]) (rest := []) (r_isPic_n (p := p) (w := w) hR (by omega) hw (by omega) (by omega)) ⟨_, _, rfl, rfl, _, 11, _, hR.c152, rfl, rfl, rfl⟩ (Nat.le_of_ble_eq_true rfl) ⟨Nat.le_of_ble_eq_true rfl, Nat.le_of_ble_eq_true rfl⟩ ⟨Nat.le_of_ble_eq_true rfl, Nat.le_of_ble_eq_true rfl⟩ ?_
  show vm_J _ _ _ (5, (0, 0), [.ref 152, .int (nI p), .int a, .int b, .retAddr 0, .retAddr 0], [.int 0]) (G, I, F) _ _
  refine vm_J.go vm_q185 (k := 1) (hs := []) (f' := (bif vm_ic .ne 0 0 then 10 else 8, (0, 0), [.ref 152, .int (nI p), .int a, .int b, .retAddr 0, .retAddr 0], [])) (h' := (G, I, F)) (hs' := []) rfl rfl ?_
  refine vm_J.bF (by decide) ?_
  refine vm_J.go vm_q185 (k := 1) (hs := []) (f' := (9, (0, 0), [.ref 152, .int (nI p), .int a, .int b, .retAddr 0, .retAddr 0], [.int (-1)])) (h' := (G, I, F)) (hs' := []) rfl rfl ?_
  exact vm_J.end vm_q185 (en := (9, .ireturn, 1, [], .null)) rfl rfl vm_rI (Nat.zero_le _) (Nat.zero_le _) rfl
set_option maxHeartbeats 4000000 in
set_option maxRecDepth 20000 in
/-- DitherDeskModel.of -/
theorem r_of_x {l : Launch} {X : vm_Cx} {G : List vm_Sh} {I : Nat → Nat → Int32} {F : Nat → Nat → UInt32} {q : Int32} {x : Int32} (hR : vm_isR G) (hx : ¬ (0 ≤ q ∧ q ≤ 3)) : vm_K l X vm_M189 [.ref 152, .int q, .int x] (G, I, F) (some (.int (-1))) (G, I, F) := by
  refine vm_K.mk (by decide) (Nat.le_of_ble_eq_true rfl) ?_
  show vm_J _ _ _ (0, (0, 0), [.ref 152, .int q, .int x], []) _ _ _
  refine vm_J.go vm_q189 (k := 2) (hs := []) (f' := (2, (0, 0), [.ref 152, .int q, .int x], [.int q, .ref 152])) (h' := (G, I, F)) (hs' := []) rfl rfl ?_
  refine vm_J.call vm_q189 (Z := vm_M172) (n := 1) (k := 0) (mi := 172) (pc := 2) (en := (2, .invokevirtual 156, 3, [172, 1313, 0], .null)) rfl trivial rfl rfl vm_z172 (av := [.ref 152, .int q]) (rest := []) (r_isPic_x (q := q) hR hx) ⟨_, _, rfl, rfl, _, 11, _, hR.c152, rfl, rfl, rfl⟩ (Nat.le_of_ble_eq_true rfl) ⟨Nat.le_of_ble_eq_true rfl, Nat.le_of_ble_eq_true rfl⟩ ⟨Nat.le_of_ble_eq_true rfl, Nat.le_of_ble_eq_true rfl⟩ ?_
  show vm_J _ _ _ (5, (0, 0), [.ref 152, .int q, .int x], [.int 0]) (G, I, F) _ _
  refine vm_J.go vm_q189 (k := 1) (hs := []) (f' := (bif vm_ic .ne 0 0 then 10 else 8, (0, 0), [.ref 152, .int q, .int x], [])) (h' := (G, I, F)) (hs' := []) rfl rfl ?_
  refine vm_J.bF (by decide) ?_
  refine vm_J.go vm_q189 (k := 1) (hs := []) (f' := (9, (0, 0), [.ref 152, .int q, .int x], [.int (-1)])) (h' := (G, I, F)) (hs' := []) rfl rfl ?_
  exact vm_J.end vm_q189 (en := (9, .ireturn, 1, [], .null)) rfl rfl vm_rI (Nat.zero_le _) (Nat.zero_le _) rfl
set_option maxHeartbeats 4000000 in
set_option maxRecDepth 20000 in
/-- DitherDeskModel.of -/
theorem r_of_m {l : Launch} {X : vm_Cx} {G : List vm_Sh} {I : Nat → Nat → Int32} {F : Nat → Nat → UInt32} {p : Nat} {w : Nat} {x : Int32} (hR : vm_isR G) (hw : I 153 p = nI w) (hp : p < 4) (hw2 : w ≤ 12) (hw0 : w = 0) : vm_K l X vm_M189 [.ref 152, .int (nI p), .int x] (G, I, F) (some (.int (-1))) (G, I, F) := by
  refine vm_K.mk (by decide) (Nat.le_of_ble_eq_true rfl) ?_
  show vm_J _ _ _ (0, (0, 0), [.ref 152, .int (nI p), .int x], []) _ _ _
  refine vm_J.go vm_q189 (k := 2) (hs := []) (f' := (2, (0, 0), [.ref 152, .int (nI p), .int x], [.int (nI p), .ref 152])) (h' := (G, I, F)) (hs' := []) rfl rfl ?_
  refine vm_J.call vm_q189 (Z := vm_M172) (n := 1) (k := 0) (mi := 172) (pc := 2) (en := (2, .invokevirtual 156, 3, [172, 1313, 0], .null)) rfl trivial rfl rfl vm_z172 (av := [.ref 152, .int (nI p)]) (rest := []) (r_isPic_n (p := p) (w := w) hR (by omega) hw (by omega) (by omega)) ⟨_, _, rfl, rfl, _, 11, _, hR.c152, rfl, rfl, rfl⟩ (Nat.le_of_ble_eq_true rfl) ⟨Nat.le_of_ble_eq_true rfl, Nat.le_of_ble_eq_true rfl⟩ ⟨Nat.le_of_ble_eq_true rfl, Nat.le_of_ble_eq_true rfl⟩ ?_
  show vm_J _ _ _ (5, (0, 0), [.ref 152, .int (nI p), .int x], [.int 0]) (G, I, F) _ _
  refine vm_J.go vm_q189 (k := 1) (hs := []) (f' := (bif vm_ic .ne 0 0 then 10 else 8, (0, 0), [.ref 152, .int (nI p), .int x], [])) (h' := (G, I, F)) (hs' := []) rfl rfl ?_
  refine vm_J.bF (by decide) ?_
  refine vm_J.go vm_q189 (k := 1) (hs := []) (f' := (9, (0, 0), [.ref 152, .int (nI p), .int x], [.int (-1)])) (h' := (G, I, F)) (hs' := []) rfl rfl ?_
  exact vm_J.end vm_q189 (en := (9, .ireturn, 1, [], .null)) rfl rfl vm_rI (Nat.zero_le _) (Nat.zero_le _) rfl
set_option maxHeartbeats 4000000 in
set_option maxRecDepth 20000 in
/-- DitherDeskModel.many -/
theorem r_many_x {l : Launch} {X : vm_Cx} {G : List vm_Sh} {I : Nat → Nat → Int32} {F : Nat → Nat → UInt32} {q : Int32} {c : Int32} (hR : vm_isR G) (hx : ¬ (0 ≤ q ∧ q ≤ 3)) : vm_K l X vm_M190 [.ref 152, .int q, .int c] (G, I, F) (some (.int (-1))) (G, I, F) := by
  refine vm_K.mk (by decide) (Nat.le_of_ble_eq_true rfl) ?_
  show vm_J _ _ _ (0, (0, 0), [.ref 152, .int q, .int c, .retAddr 0, .retAddr 0], []) _ _ _
  refine vm_J.go vm_q190 (k := 2) (hs := []) (f' := (2, (0, 0), [.ref 152, .int q, .int c, .retAddr 0, .retAddr 0], [.int q, .ref 152])) (h' := (G, I, F)) (hs' := []) rfl rfl ?_
  refine vm_J.call vm_q190 (Z := vm_M172) (n := 1) (k := 0) (mi := 172) (pc := 2) (en := (2, .invokevirtual 156, 3, [172, 1313, 0], .null)) rfl trivial rfl rfl vm_z172 (av := [.ref 152, .int q]) (rest := []) (r_isPic_x (q := q) hR hx) ⟨_, _, rfl, rfl, _, 11, _, hR.c152, rfl, rfl, rfl⟩ (Nat.le_of_ble_eq_true rfl) ⟨Nat.le_of_ble_eq_true rfl, Nat.le_of_ble_eq_true rfl⟩ ⟨Nat.le_of_ble_eq_true rfl, Nat.le_of_ble_eq_true rfl⟩ ?_
  show vm_J _ _ _ (5, (0, 0), [.ref 152, .int q, .int c, .retAddr 0, .retAddr 0], [.int 0]) (G, I, F) _ _
  refine vm_J.go vm_q190 (k := 1) (hs := []) (f' := (bif vm_ic .ne 0 0 then 10 else 8, (0, 0), [.ref 152, .int q, .int c, .retAddr 0, .retAddr 0], [])) (h' := (G, I, F)) (hs' := []) rfl rfl ?_
  refine vm_J.bF (by decide) ?_
  refine vm_J.go vm_q190 (k := 1) (hs := []) (f' := (9, (0, 0), [.ref 152, .int q, .int c, .retAddr 0, .retAddr 0], [.int (-1)])) (h' := (G, I, F)) (hs' := []) rfl rfl ?_
  exact vm_J.end vm_q190 (en := (9, .ireturn, 1, [], .null)) rfl rfl vm_rI (Nat.zero_le _) (Nat.zero_le _) rfl
set_option maxHeartbeats 4000000 in
set_option maxRecDepth 20000 in
/-- DitherDeskModel.many -/
theorem r_many_m {l : Launch} {X : vm_Cx} {G : List vm_Sh} {I : Nat → Nat → Int32} {F : Nat → Nat → UInt32} {p : Nat} {w : Nat} {c : Int32} (hR : vm_isR G) (hw : I 153 p = nI w) (hp : p < 4) (hw2 : w ≤ 12) (hw0 : w = 0) : vm_K l X vm_M190 [.ref 152, .int (nI p), .int c] (G, I, F) (some (.int (-1))) (G, I, F) := by
  refine vm_K.mk (by decide) (Nat.le_of_ble_eq_true rfl) ?_
  show vm_J _ _ _ (0, (0, 0), [.ref 152, .int (nI p), .int c, .retAddr 0, .retAddr 0], []) _ _ _
  refine vm_J.go vm_q190 (k := 2) (hs := []) (f' := (2, (0, 0), [.ref 152, .int (nI p), .int c, .retAddr 0, .retAddr 0], [.int (nI p), .ref 152])) (h' := (G, I, F)) (hs' := []) rfl rfl ?_
  refine vm_J.call vm_q190 (Z := vm_M172) (n := 1) (k := 0) (mi := 172) (pc := 2) (en := (2, .invokevirtual 156, 3, [172, 1313, 0], .null)) rfl trivial rfl rfl vm_z172 (av := [.ref 152, .int (nI p)]) (rest := []) (r_isPic_n (p := p) (w := w) hR (by omega) hw (by omega) (by omega)) ⟨_, _, rfl, rfl, _, 11, _, hR.c152, rfl, rfl, rfl⟩ (Nat.le_of_ble_eq_true rfl) ⟨Nat.le_of_ble_eq_true rfl, Nat.le_of_ble_eq_true rfl⟩ ⟨Nat.le_of_ble_eq_true rfl, Nat.le_of_ble_eq_true rfl⟩ ?_
  show vm_J _ _ _ (5, (0, 0), [.ref 152, .int (nI p), .int c, .retAddr 0, .retAddr 0], [.int 0]) (G, I, F) _ _
  refine vm_J.go vm_q190 (k := 1) (hs := []) (f' := (bif vm_ic .ne 0 0 then 10 else 8, (0, 0), [.ref 152, .int (nI p), .int c, .retAddr 0, .retAddr 0], [])) (h' := (G, I, F)) (hs' := []) rfl rfl ?_
  refine vm_J.bF (by decide) ?_
  refine vm_J.go vm_q190 (k := 1) (hs := []) (f' := (9, (0, 0), [.ref 152, .int (nI p), .int c, .retAddr 0, .retAddr 0], [.int (-1)])) (h' := (G, I, F)) (hs' := []) rfl rfl ?_
  exact vm_J.end vm_q190 (en := (9, .ireturn, 1, [], .null)) rfl rfl vm_rI (Nat.zero_le _) (Nat.zero_le _) rfl
set_option maxHeartbeats 4000000 in
set_option maxRecDepth 20000 in
/-- DitherDeskModel.common -/
theorem r_common_x {l : Launch} {X : vm_Cx} {G : List vm_Sh} {I : Nat → Nat → Int32} {F : Nat → Nat → UInt32} {q : Int32} {x : Int32} (hR : vm_isR G) (hx : ¬ (0 ≤ q ∧ q ≤ 3)) : vm_K l X vm_M192 [.ref 152, .int q, .int x] (G, I, F) (some (.int (-1))) (G, I, F) := by
  refine vm_K.mk (by decide) (Nat.le_of_ble_eq_true rfl) ?_
  show vm_J _ _ _ (0, (0, 0), [.ref 152, .int q, .int x, .retAddr 0], []) _ _ _
  refine vm_J.go vm_q192 (k := 2) (hs := []) (f' := (2, (0, 0), [.ref 152, .int q, .int x, .retAddr 0], [.int q, .ref 152])) (h' := (G, I, F)) (hs' := []) rfl rfl ?_
  refine vm_J.call vm_q192 (Z := vm_M172) (n := 1) (k := 0) (mi := 172) (pc := 2) (en := (2, .invokevirtual 156, 3, [172, 1313, 0], .null)) rfl trivial rfl rfl vm_z172 (av := [.ref 152, .int q]) (rest := []) (r_isPic_x (q := q) hR hx) ⟨_, _, rfl, rfl, _, 11, _, hR.c152, rfl, rfl, rfl⟩ (Nat.le_of_ble_eq_true rfl) ⟨Nat.le_of_ble_eq_true rfl, Nat.le_of_ble_eq_true rfl⟩ ⟨Nat.le_of_ble_eq_true rfl, Nat.le_of_ble_eq_true rfl⟩ ?_
  show vm_J _ _ _ (5, (0, 0), [.ref 152, .int q, .int x, .retAddr 0], [.int 0]) (G, I, F) _ _
  refine vm_J.go vm_q192 (k := 1) (hs := []) (f' := (bif vm_ic .ne 0 0 then 10 else 8, (0, 0), [.ref 152, .int q, .int x, .retAddr 0], [])) (h' := (G, I, F)) (hs' := []) rfl rfl ?_
  refine vm_J.bF (by decide) ?_
  refine vm_J.go vm_q192 (k := 1) (hs := []) (f' := (9, (0, 0), [.ref 152, .int q, .int x, .retAddr 0], [.int (-1)])) (h' := (G, I, F)) (hs' := []) rfl rfl ?_
  exact vm_J.end vm_q192 (en := (9, .ireturn, 1, [], .null)) rfl rfl vm_rI (Nat.zero_le _) (Nat.zero_le _) rfl
set_option maxHeartbeats 4000000 in
set_option maxRecDepth 20000 in
/-- DitherDeskModel.common -/
theorem r_common_m {l : Launch} {X : vm_Cx} {G : List vm_Sh} {I : Nat → Nat → Int32} {F : Nat → Nat → UInt32} {p : Nat} {w : Nat} {x : Int32} (hR : vm_isR G) (hw : I 153 p = nI w) (hp : p < 4) (hw2 : w ≤ 12) (hw0 : w = 0) : vm_K l X vm_M192 [.ref 152, .int (nI p), .int x] (G, I, F) (some (.int (-1))) (G, I, F) := by
  refine vm_K.mk (by decide) (Nat.le_of_ble_eq_true rfl) ?_
  show vm_J _ _ _ (0, (0, 0), [.ref 152, .int (nI p), .int x, .retAddr 0], []) _ _ _
  refine vm_J.go vm_q192 (k := 2) (hs := []) (f' := (2, (0, 0), [.ref 152, .int (nI p), .int x, .retAddr 0], [.int (nI p), .ref 152])) (h' := (G, I, F)) (hs' := []) rfl rfl ?_
  refine vm_J.call vm_q192 (Z := vm_M172) (n := 1) (k := 0) (mi := 172) (pc := 2) (en := (2, .invokevirtual 156, 3, [172, 1313, 0], .null)) rfl trivial rfl rfl vm_z172 (av := [.ref 152, .int (nI p)]) (rest := []) (r_isPic_n (p := p) (w := w) hR (by omega) hw (by omega) (by omega)) ⟨_, _, rfl, rfl, _, 11, _, hR.c152, rfl, rfl, rfl⟩ (Nat.le_of_ble_eq_true rfl) ⟨Nat.le_of_ble_eq_true rfl, Nat.le_of_ble_eq_true rfl⟩ ⟨Nat.le_of_ble_eq_true rfl, Nat.le_of_ble_eq_true rfl⟩ ?_
  show vm_J _ _ _ (5, (0, 0), [.ref 152, .int (nI p), .int x, .retAddr 0], [.int 0]) (G, I, F) _ _
  refine vm_J.go vm_q192 (k := 1) (hs := []) (f' := (bif vm_ic .ne 0 0 then 10 else 8, (0, 0), [.ref 152, .int (nI p), .int x, .retAddr 0], [])) (h' := (G, I, F)) (hs' := []) rfl rfl ?_
  refine vm_J.bF (by decide) ?_
  refine vm_J.go vm_q192 (k := 1) (hs := []) (f' := (9, (0, 0), [.ref 152, .int (nI p), .int x, .retAddr 0], [.int (-1)])) (h' := (G, I, F)) (hs' := []) rfl rfl ?_
  exact vm_J.end vm_q192 (en := (9, .ireturn, 1, [], .null)) rfl rfl vm_rI (Nat.zero_le _) (Nat.zero_le _) rfl
theorem r_isOn_y {l : Launch} {X : vm_Cx} {G : List vm_Sh} {I : Nat → Nat → Int32} {F : Nat → Nat → UInt32} {p w h : Nat} {x y : Int32} (hR : vm_isR G) (hp : p < 4) (hw : I 153 p = nI w) (hh : I 154 p = nI h) (ho : ((0 ≤ x ∧ x ≤ nI w - 1) ∧ 0 ≤ y ∧ y ≤ nI h - 1)) : vm_K l X vm_M176 [.ref 152, .int (nI p), .int x, .int y] (G, I, F) (some (.int 1)) (G, I, F) := by
  have q := r_isOn (l := l) (X := X) (I := I) (F := F) (x := x) (y := y) hR hp
  rw [hw, hh, vm_bi_t ho] at q
  exact q
theorem r_isOn_n {l : Launch} {X : vm_Cx} {G : List vm_Sh} {I : Nat → Nat → Int32} {F : Nat → Nat → UInt32} {p w h : Nat} {x y : Int32} (hR : vm_isR G) (hp : p < 4) (hw : I 153 p = nI w) (hh : I 154 p = nI h) (ho : ¬ ((0 ≤ x ∧ x ≤ nI w - 1) ∧ 0 ≤ y ∧ y ≤ nI h - 1)) : vm_K l X vm_M176 [.ref 152, .int (nI p), .int x, .int y] (G, I, F) (some (.int 0)) (G, I, F) := by
  have q := r_isOn (l := l) (X := X) (I := I) (F := F) (x := x) (y := y) hR hp
  rw [hw, hh, vm_bi_f ho] at q
  exact q
theorem vm_on_n {w h i j : Nat} (hi : i < w) (hj : j < h) (hw : w ≤ 12) (hh : h ≤ 12) : (0 ≤ nI i ∧ nI i ≤ nI w - 1) ∧ 0 ≤ nI j ∧ nI j ≤ nI h - 1 := by
  have e1 : nI w - 1 = nI (w - 1) := vm_ps (x := nI w) (y := 1) rfl rfl (by omega)
  have e2 : nI h - 1 = nI (h - 1) := vm_ps (x := nI h) (y := 1) rfl rfl (by omega)
  rw [e1, e2]
  exact ⟨⟨(vm_le_i (a := 0) (b := i) (by decide) (by omega)).mpr (by omega), (vm_le_i (by omega) (by omega)).mpr (by omega)⟩, (vm_le_i (a := 0) (b := j) (by decide) (by omega)).mpr (by omega), (vm_le_i (by omega) (by omega)).mpr (by omega)⟩
theorem vm_lin2 {x y w h : Nat} (hx : x < w) (hy : y < h) : w * y + x < w * h := by
  rw [Nat.mul_comm w y]
  exact vm_lin hx hy
set_option maxHeartbeats 4000000 in
set_option maxRecDepth 20000 in
/-- DitherDeskModel.paint -/
theorem r_paint_b1 {l : Launch} {X : vm_Cx} {G : List vm_Sh} {I : Nat → Nat → Int32} {F : Nat → Nat → UInt32} {p : Nat} {w : Nat} {h : Nat} {x : Int32} {y : Int32} {c : Int32} (hR : vm_isR G) (hw : I 153 p = nI w) (hh : I 154 p = nI h) (hp : p < 4) (hw2 : w ≤ 12) (hh2 : h ≤ 12) (hw0 : 0 < w) (ho : ¬ ((0 ≤ x ∧ x ≤ nI w - 1) ∧ 0 ≤ y ∧ y ≤ nI h - 1)) : vm_K l X vm_M181 [.ref 152, .int (nI p), .int x, .int y, .int c] (G, I, F) (some (.int (-2))) (G, I, F) := by
  refine vm_K.mk (by decide) (Nat.le_of_ble_eq_true rfl) ?_
  show vm_J _ _ _ (0, (0, 0), [.ref 152, .int (nI p), .int x, .int y, .int c, .retAddr 0], []) _ _ _
  refine vm_J.go vm_q181 (k := 2) (hs := []) (f' := (2, (0, 0), [.ref 152, .int (nI p), .int x, .int y, .int c, .retAddr 0], [.int (nI p), .ref 152])) (h' := (G, I, F)) (hs' := []) rfl rfl ?_
  refine vm_J.call vm_q181 (Z := vm_M172) (n := 1) (k := 0) (mi := 172) (pc := 2) (en := (2, .invokevirtual 156, 3, [172, 1313, 0], .null)) rfl trivial rfl rfl vm_z172 (av := [.ref 152, .int (nI p)]) (rest := []) (r_isPic_y (p := p) (w := w) hR (by omega) hw (by omega) (by omega)) ⟨_, _, rfl, rfl, _, 11, _, hR.c152, rfl, rfl, rfl⟩ (Nat.le_of_ble_eq_true rfl) ⟨Nat.le_of_ble_eq_true rfl, Nat.le_of_ble_eq_true rfl⟩ ⟨Nat.le_of_ble_eq_true rfl, Nat.le_of_ble_eq_true rfl⟩ ?_
  show vm_J _ _ _ (5, (0, 0), [.ref 152, .int (nI p), .int x, .int y, .int c, .retAddr 0], [.int 1]) (G, I, F) _ _
  refine vm_J.go vm_q181 (k := 1) (hs := []) (f' := (bif vm_ic .ne 1 0 then 10 else 8, (0, 0), [.ref 152, .int (nI p), .int x, .int y, .int c, .retAddr 0], [])) (h' := (G, I, F)) (hs' := []) rfl rfl ?_
  refine vm_J.bT (by decide) ?_
  refine vm_J.go vm_q181 (k := 4) (hs := []) (f' := (14, (0, 0), [.ref 152, .int (nI p), .int x, .int y, .int c, .retAddr 0], [.int y, .int x, .int (nI p), .ref 152])) (h' := (G, I, F)) (hs' := []) rfl rfl ?_
  refine vm_J.call vm_q181 (Z := vm_M176) (n := 3) (k := 0) (mi := 176) (pc := 14) (en := (14, .invokevirtual 159, 3, [176, 1317, 0], .null)) rfl trivial rfl rfl vm_z176 (av := [.ref 152, .int (nI p), .int x, .int y]) (rest := []) (r_isOn_n (p := p) (x := x) (y := y) hR (by omega) hw hh ho) ⟨_, _, rfl, rfl, _, 11, _, hR.c152, rfl, rfl, rfl⟩ (Nat.le_of_ble_eq_true rfl) ⟨Nat.le_of_ble_eq_true rfl, Nat.le_of_ble_eq_true rfl⟩ ⟨Nat.le_of_ble_eq_true rfl, Nat.le_of_ble_eq_true rfl⟩ ?_
  show vm_J _ _ _ (17, (0, 0), [.ref 152, .int (nI p), .int x, .int y, .int c, .retAddr 0], [.int 0]) (G, I, F) _ _
  refine vm_J.go vm_q181 (k := 1) (hs := []) (f' := (bif vm_ic .eq 0 0 then 28 else 20, (0, 0), [.ref 152, .int (nI p), .int x, .int y, .int c, .retAddr 0], [])) (h' := (G, I, F)) (hs' := []) rfl rfl ?_
  refine vm_J.bT (by decide) ?_
  refine vm_J.go vm_q181 (k := 1) (hs := []) (f' := (30, (0, 0), [.ref 152, .int (nI p), .int x, .int y, .int c, .retAddr 0], [.int (-2)])) (h' := (G, I, F)) (hs' := []) rfl rfl ?_
  exact vm_J.end vm_q181 (en := (30, .ireturn, 1, [], .null)) rfl rfl vm_rI (Nat.zero_le _) (Nat.zero_le _) rfl
set_option maxHeartbeats 4000000 in
set_option maxRecDepth 20000 in
/-- DitherDeskModel.paint -/
theorem r_paint_b2 {l : Launch} {X : vm_Cx} {G : List vm_Sh} {I : Nat → Nat → Int32} {F : Nat → Nat → UInt32} {p : Nat} {w : Nat} {h : Nat} {i : Nat} {j : Nat} {c : Int32} (hR : vm_isR G) (hw : I 153 p = nI w) (hh : I 154 p = nI h) (hp : p < 4) (hw2 : w ≤ 12) (hh2 : h ≤ 12) (hw0 : 0 < w) (hi : i < w) (hj : j < h) (hc : ¬ (0 ≤ c ∧ c ≤ 262143)) : vm_K l X vm_M181 [.ref 152, .int (nI p), .int (nI i), .int (nI j), .int c] (G, I, F) (some (.int (-2))) (G, I, F) := by
  refine vm_K.mk (by decide) (Nat.le_of_ble_eq_true rfl) ?_
  show vm_J _ _ _ (0, (0, 0), [.ref 152, .int (nI p), .int (nI i), .int (nI j), .int c, .retAddr 0], []) _ _ _
  refine vm_J.go vm_q181 (k := 2) (hs := []) (f' := (2, (0, 0), [.ref 152, .int (nI p), .int (nI i), .int (nI j), .int c, .retAddr 0], [.int (nI p), .ref 152])) (h' := (G, I, F)) (hs' := []) rfl rfl ?_
  refine vm_J.call vm_q181 (Z := vm_M172) (n := 1) (k := 0) (mi := 172) (pc := 2) (en := (2, .invokevirtual 156, 3, [172, 1313, 0], .null)) rfl trivial rfl rfl vm_z172 (av := [.ref 152, .int (nI p)]) (rest := []) (r_isPic_y (p := p) (w := w) hR (by omega) hw (by omega) (by omega)) ⟨_, _, rfl, rfl, _, 11, _, hR.c152, rfl, rfl, rfl⟩ (Nat.le_of_ble_eq_true rfl) ⟨Nat.le_of_ble_eq_true rfl, Nat.le_of_ble_eq_true rfl⟩ ⟨Nat.le_of_ble_eq_true rfl, Nat.le_of_ble_eq_true rfl⟩ ?_
  show vm_J _ _ _ (5, (0, 0), [.ref 152, .int (nI p), .int (nI i), .int (nI j), .int c, .retAddr 0], [.int 1]) (G, I, F) _ _
  refine vm_J.go vm_q181 (k := 1) (hs := []) (f' := (bif vm_ic .ne 1 0 then 10 else 8, (0, 0), [.ref 152, .int (nI p), .int (nI i), .int (nI j), .int c, .retAddr 0], [])) (h' := (G, I, F)) (hs' := []) rfl rfl ?_
  refine vm_J.bT (by decide) ?_
  refine vm_J.go vm_q181 (k := 4) (hs := []) (f' := (14, (0, 0), [.ref 152, .int (nI p), .int (nI i), .int (nI j), .int c, .retAddr 0], [.int (nI j), .int (nI i), .int (nI p), .ref 152])) (h' := (G, I, F)) (hs' := []) rfl rfl ?_
  refine vm_J.call vm_q181 (Z := vm_M176) (n := 3) (k := 0) (mi := 176) (pc := 14) (en := (14, .invokevirtual 159, 3, [176, 1317, 0], .null)) rfl trivial rfl rfl vm_z176 (av := [.ref 152, .int (nI p), .int (nI i), .int (nI j)]) (rest := []) (r_isOn_y (p := p) (x := nI i) (y := nI j) hR (by omega) hw hh (vm_on_n hi hj hw2 hh2)) ⟨_, _, rfl, rfl, _, 11, _, hR.c152, rfl, rfl, rfl⟩ (Nat.le_of_ble_eq_true rfl) ⟨Nat.le_of_ble_eq_true rfl, Nat.le_of_ble_eq_true rfl⟩ ⟨Nat.le_of_ble_eq_true rfl, Nat.le_of_ble_eq_true rfl⟩ ?_
  show vm_J _ _ _ (17, (0, 0), [.ref 152, .int (nI p), .int (nI i), .int (nI j), .int c, .retAddr 0], [.int 1]) (G, I, F) _ _
  refine vm_J.go vm_q181 (k := 1) (hs := []) (f' := (bif vm_ic .eq 1 0 then 28 else 20, (0, 0), [.ref 152, .int (nI p), .int (nI i), .int (nI j), .int c, .retAddr 0], [])) (h' := (G, I, F)) (hs' := []) rfl rfl ?_
  refine vm_J.bF (by decide) ?_
  refine vm_J.go vm_q181 (k := 1) (hs := []) (f' := (22, (0, 0), [.ref 152, .int (nI p), .int (nI i), .int (nI j), .int c, .retAddr 0], [.int c])) (h' := (G, I, F)) (hs' := []) rfl rfl ?_
  refine vm_J.call vm_q181 (Z := vm_M169) (n := 1) (k := 1) (mi := 169) (pc := 22) (en := (22, .invokestatic 162, 3, [169, 1321, 0], .null)) rfl trivial rfl rfl vm_z169 (av := [.int c]) (rest := []) (r_isColour_n (c := c) hc) rfl (Nat.le_of_ble_eq_true rfl) ⟨Nat.le_of_ble_eq_true rfl, Nat.le_of_ble_eq_true rfl⟩ ⟨Nat.le_of_ble_eq_true rfl, Nat.le_of_ble_eq_true rfl⟩ ?_
  show vm_J _ _ _ (25, (0, 0), [.ref 152, .int (nI p), .int (nI i), .int (nI j), .int c, .retAddr 0], [.int 0]) (G, I, F) _ _
  refine vm_J.go vm_q181 (k := 1) (hs := []) (f' := (bif vm_ic .ne 0 0 then 31 else 28, (0, 0), [.ref 152, .int (nI p), .int (nI i), .int (nI j), .int c, .retAddr 0], [])) (h' := (G, I, F)) (hs' := []) rfl rfl ?_
  refine vm_J.bF (by decide) ?_
  refine vm_J.go vm_q181 (k := 1) (hs := []) (f' := (30, (0, 0), [.ref 152, .int (nI p), .int (nI i), .int (nI j), .int c, .retAddr 0], [.int (-2)])) (h' := (G, I, F)) (hs' := []) rfl rfl ?_
  exact vm_J.end vm_q181 (en := (30, .ireturn, 1, [], .null)) rfl rfl vm_rI (Nat.zero_le _) (Nat.zero_le _) rfl
set_option maxHeartbeats 4000000 in
set_option maxRecDepth 20000 in
/-- DitherDeskModel.paint -/
theorem r_paint_y {l : Launch} {X : vm_Cx} {G : List vm_Sh} {I : Nat → Nat → Int32} {F : Nat → Nat → UInt32} {p : Nat} {w : Nat} {h : Nat} {i : Nat} {j : Nat} {c : Int32} (hR : vm_isR G) (hw : I 153 p = nI w) (hh : I 154 p = nI h) (hp : p < 4) (hw2 : w ≤ 12) (hh2 : h ≤ 12) (hw0 : 0 < w) (hi : i < w) (hj : j < h) (hc : 0 ≤ c ∧ c ≤ 262143) : vm_K l X vm_M181 [.ref 152, .int (nI p), .int (nI i), .int (nI j), .int c] (G, I, F) (some (.int (I 155 (144 * p + w * j + i)))) (G, (vm_up I 155 (144 * p + w * j + i) c), F) := by
  refine vm_K.mk (by decide) (Nat.le_of_ble_eq_true rfl) ?_
  have hwh := vm_mul144 hw2 hh2
  have hlin := vm_lin2 hi hj
  show vm_J _ _ _ (0, (0, 0), [.ref 152, .int (nI p), .int (nI i), .int (nI j), .int c, .retAddr 0], []) _ _ _
  refine vm_J.go vm_q181 (k := 2) (hs := []) (f' := (2, (0, 0), [.ref 152, .int (nI p), .int (nI i), .int (nI j), .int c, .retAddr 0], [.int (nI p), .ref 152])) (h' := (G, I, F)) (hs' := []) rfl rfl ?_
  refine vm_J.call vm_q181 (Z := vm_M172) (n := 1) (k := 0) (mi := 172) (pc := 2) (en := (2, .invokevirtual 156, 3, [172, 1313, 0], .null)) rfl trivial rfl rfl vm_z172 (av := [.ref 152, .int (nI p)]) (rest := []) (r_isPic_y (p := p) (w := w) hR (by omega) hw (by omega) (by omega)) ⟨_, _, rfl, rfl, _, 11, _, hR.c152, rfl, rfl, rfl⟩ (Nat.le_of_ble_eq_true rfl) ⟨Nat.le_of_ble_eq_true rfl, Nat.le_of_ble_eq_true rfl⟩ ⟨Nat.le_of_ble_eq_true rfl, Nat.le_of_ble_eq_true rfl⟩ ?_
  show vm_J _ _ _ (5, (0, 0), [.ref 152, .int (nI p), .int (nI i), .int (nI j), .int c, .retAddr 0], [.int 1]) (G, I, F) _ _
  refine vm_J.go vm_q181 (k := 1) (hs := []) (f' := (bif vm_ic .ne 1 0 then 10 else 8, (0, 0), [.ref 152, .int (nI p), .int (nI i), .int (nI j), .int c, .retAddr 0], [])) (h' := (G, I, F)) (hs' := []) rfl rfl ?_
  refine vm_J.bT (by decide) ?_
  refine vm_J.go vm_q181 (k := 4) (hs := []) (f' := (14, (0, 0), [.ref 152, .int (nI p), .int (nI i), .int (nI j), .int c, .retAddr 0], [.int (nI j), .int (nI i), .int (nI p), .ref 152])) (h' := (G, I, F)) (hs' := []) rfl rfl ?_
  refine vm_J.call vm_q181 (Z := vm_M176) (n := 3) (k := 0) (mi := 176) (pc := 14) (en := (14, .invokevirtual 159, 3, [176, 1317, 0], .null)) rfl trivial rfl rfl vm_z176 (av := [.ref 152, .int (nI p), .int (nI i), .int (nI j)]) (rest := []) (r_isOn_y (p := p) (x := nI i) (y := nI j) hR (by omega) hw hh (vm_on_n hi hj hw2 hh2)) ⟨_, _, rfl, rfl, _, 11, _, hR.c152, rfl, rfl, rfl⟩ (Nat.le_of_ble_eq_true rfl) ⟨Nat.le_of_ble_eq_true rfl, Nat.le_of_ble_eq_true rfl⟩ ⟨Nat.le_of_ble_eq_true rfl, Nat.le_of_ble_eq_true rfl⟩ ?_
  show vm_J _ _ _ (17, (0, 0), [.ref 152, .int (nI p), .int (nI i), .int (nI j), .int c, .retAddr 0], [.int 1]) (G, I, F) _ _
  refine vm_J.go vm_q181 (k := 1) (hs := []) (f' := (bif vm_ic .eq 1 0 then 28 else 20, (0, 0), [.ref 152, .int (nI p), .int (nI i), .int (nI j), .int c, .retAddr 0], [])) (h' := (G, I, F)) (hs' := []) rfl rfl ?_
  refine vm_J.bF (by decide) ?_
  refine vm_J.go vm_q181 (k := 1) (hs := []) (f' := (22, (0, 0), [.ref 152, .int (nI p), .int (nI i), .int (nI j), .int c, .retAddr 0], [.int c])) (h' := (G, I, F)) (hs' := []) rfl rfl ?_
  refine vm_J.call vm_q181 (Z := vm_M169) (n := 1) (k := 1) (mi := 169) (pc := 22) (en := (22, .invokestatic 162, 3, [169, 1321, 0], .null)) rfl trivial rfl rfl vm_z169 (av := [.int c]) (rest := []) (r_isColour_y (c := c) hc) rfl (Nat.le_of_ble_eq_true rfl) ⟨Nat.le_of_ble_eq_true rfl, Nat.le_of_ble_eq_true rfl⟩ ⟨Nat.le_of_ble_eq_true rfl, Nat.le_of_ble_eq_true rfl⟩ ?_
  show vm_J _ _ _ (25, (0, 0), [.ref 152, .int (nI p), .int (nI i), .int (nI j), .int c, .retAddr 0], [.int 1]) (G, I, F) _ _
  refine vm_J.go vm_q181 (k := 1) (hs := []) (f' := (bif vm_ic .ne 1 0 then 31 else 28, (0, 0), [.ref 152, .int (nI p), .int (nI i), .int (nI j), .int c, .retAddr 0], [])) (h' := (G, I, F)) (hs' := []) rfl rfl ?_
  refine vm_J.bT (by decide) ?_
  refine vm_J.go vm_q181 (k := 6) (hs := [vm_shR]) (f' := (39, (0, 0), [.ref 152, .int (nI p), .int (nI i), .int (nI j), .int c, .retAddr 0], [.int (nI j), .int (nI i), .int (nI p), .ref 152, .ref 155])) (h' := (G, I, F)) (hs' := []) rfl (vm_b2 rfl (vm_b2 (vm_b2 (vm_hG hR.c152) rfl) (vm_b2 rfl (vm_b2 rfl (vm_b2 rfl (vm_b2 rfl rfl)))))) ?_
  refine vm_J.call vm_q181 (Z := vm_M180) (n := 3) (k := 0) (mi := 180) (pc := 39) (en := (39, .invokevirtual 165, 3, [180, 1325, 0], .null)) rfl trivial rfl rfl vm_z180 (av := [.ref 152, .int (nI p), .int (nI i), .int (nI j)]) (rest := [.ref 155]) (r_at_n (p := p) (w := w) (i := i) (j := j) hR hw (by omega)) ⟨_, _, rfl, rfl, _, 11, _, hR.c152, rfl, rfl, rfl⟩ (Nat.le_of_ble_eq_true rfl) ⟨Nat.le_of_ble_eq_true rfl, Nat.le_of_ble_eq_true rfl⟩ ⟨Nat.le_of_ble_eq_true rfl, Nat.le_of_ble_eq_true rfl⟩ ?_
  show vm_J _ _ _ (42, (0, 0), [.ref 152, .int (nI p), .int (nI i), .int (nI j), .int c, .retAddr 0], [.int (nI (144 * p + w * j + i)), .ref 155]) (G, I, F) _ _
  refine vm_J.go vm_q181 (k := 8) (hs := [(0, 576, []), vm_shR]) (f' := (53, (0, 0), [.ref 152, .int (nI p), .int (nI i), .int (nI j), .int c, .int (I 155 (nI (144 * p + w * j + i)).toNatClampNeg)], [.int (nI j), .int (nI i), .int (nI p), .ref 152, .ref 155])) (h' := (G, I, F)) (hs' := []) rfl (vm_b2 (vm_b2 (vm_hG hR.c155) (vm_in_e (j := 144 * p + w * j + i) (n := 576) rfl (by omega) (by omega))) (vm_b2 rfl (vm_b2 rfl (vm_b2 (vm_b2 (vm_hG hR.c152) rfl) (vm_b2 rfl (vm_b2 rfl (vm_b2 rfl (vm_b2 rfl rfl)))))))) ?_
  rw [vm_ix_e (j := 144 * p + w * j + i) rfl (by omega)]
  refine vm_J.call vm_q181 (Z := vm_M180) (n := 3) (k := 0) (mi := 180) (pc := 53) (en := (53, .invokevirtual 165, 3, [180, 1325, 0], .null)) rfl trivial rfl rfl vm_z180 (av := [.ref 152, .int (nI p), .int (nI i), .int (nI j)]) (rest := [.ref 155]) (r_at_n (p := p) (w := w) (i := i) (j := j) hR hw (by omega)) ⟨_, _, rfl, rfl, _, 11, _, hR.c152, rfl, rfl, rfl⟩ (Nat.le_of_ble_eq_true rfl) ⟨Nat.le_of_ble_eq_true rfl, Nat.le_of_ble_eq_true rfl⟩ ⟨Nat.le_of_ble_eq_true rfl, Nat.le_of_ble_eq_true rfl⟩ ?_
  show vm_J _ _ _ (56, (0, 0), [.ref 152, .int (nI p), .int (nI i), .int (nI j), .int c, .int (I 155 (144 * p + w * j + i))], [.int (nI (144 * p + w * j + i)), .ref 155]) (G, I, F) _ _
  refine vm_J.go vm_q181 (k := 3) (hs := [(0, 576, [])]) (f' := (61, (0, 0), [.ref 152, .int (nI p), .int (nI i), .int (nI j), .int c, .int (I 155 (144 * p + w * j + i))], [.int (I 155 (144 * p + w * j + i))])) (h' := (G, (vm_up I 155 ((nI (144 * p + w * j + i)).toNatClampNeg) c), F)) (hs' := []) rfl (vm_b2 rfl (vm_b2 (vm_b2 (vm_hG hR.c155) (vm_in_e (j := 144 * p + w * j + i) (n := 576) rfl (by omega) (by omega))) (vm_b2 rfl rfl))) ?_
  rw [vm_ix_e (j := 144 * p + w * j + i) rfl (by omega)]
  exact vm_J.end vm_q181 (en := (61, .ireturn, 1, [], .null)) rfl rfl vm_rI (Nat.zero_le _) (Nat.zero_le _) rfl
set_option maxHeartbeats 4000000 in
set_option maxRecDepth 20000 in
/-- DitherDeskModel.pixel -/
theorem r_pixel_b {l : Launch} {X : vm_Cx} {G : List vm_Sh} {I : Nat → Nat → Int32} {F : Nat → Nat → UInt32} {p : Nat} {w : Nat} {h : Nat} {x : Int32} {y : Int32} (hR : vm_isR G) (hw : I 153 p = nI w) (hh : I 154 p = nI h) (hp : p < 4) (hw2 : w ≤ 12) (hh2 : h ≤ 12) (hw0 : 0 < w) (ho : ¬ ((0 ≤ x ∧ x ≤ nI w - 1) ∧ 0 ≤ y ∧ y ≤ nI h - 1)) : vm_K l X vm_M186 [.ref 152, .int (nI p), .int x, .int y] (G, I, F) (some (.int (-2))) (G, I, F) := by
  refine vm_K.mk (by decide) (Nat.le_of_ble_eq_true rfl) ?_
  show vm_J _ _ _ (0, (0, 0), [.ref 152, .int (nI p), .int x, .int y], []) _ _ _
  refine vm_J.go vm_q186 (k := 2) (hs := []) (f' := (2, (0, 0), [.ref 152, .int (nI p), .int x, .int y], [.int (nI p), .ref 152])) (h' := (G, I, F)) (hs' := []) rfl rfl ?_
  refine vm_J.call vm_q186 (Z := vm_M172) (n := 1) (k := 0) (mi := 172) (pc := 2) (en := (2, .invokevirtual 156, 3, [172, 1313, 0], .null)) rfl trivial rfl rfl vm_z172 (av := [.ref 152, .int (nI p)]) (rest := []) (r_isPic_y (p := p) (w := w) hR (by omega) hw (by omega) (by omega)) ⟨_, _, rfl, rfl, _, 11, _, hR.c152, rfl, rfl, rfl⟩ (Nat.le_of_ble_eq_true rfl) ⟨Nat.le_of_ble_eq_true rfl, Nat.le_of_ble_eq_true rfl⟩ ⟨Nat.le_of_ble_eq_true rfl, Nat.le_of_ble_eq_true rfl⟩ ?_
  show vm_J _ _ _ (5, (0, 0), [.ref 152, .int (nI p), .int x, .int y], [.int 1]) (G, I, F) _ _
  refine vm_J.go vm_q186 (k := 1) (hs := []) (f' := (bif vm_ic .ne 1 0 then 10 else 8, (0, 0), [.ref 152, .int (nI p), .int x, .int y], [])) (h' := (G, I, F)) (hs' := []) rfl rfl ?_
  refine vm_J.bT (by decide) ?_
  refine vm_J.go vm_q186 (k := 4) (hs := []) (f' := (14, (0, 0), [.ref 152, .int (nI p), .int x, .int y], [.int y, .int x, .int (nI p), .ref 152])) (h' := (G, I, F)) (hs' := []) rfl rfl ?_
  refine vm_J.call vm_q186 (Z := vm_M176) (n := 3) (k := 0) (mi := 176) (pc := 14) (en := (14, .invokevirtual 159, 3, [176, 1317, 0], .null)) rfl trivial rfl rfl vm_z176 (av := [.ref 152, .int (nI p), .int x, .int y]) (rest := []) (r_isOn_n (p := p) (x := x) (y := y) hR (by omega) hw hh ho) ⟨_, _, rfl, rfl, _, 11, _, hR.c152, rfl, rfl, rfl⟩ (Nat.le_of_ble_eq_true rfl) ⟨Nat.le_of_ble_eq_true rfl, Nat.le_of_ble_eq_true rfl⟩ ⟨Nat.le_of_ble_eq_true rfl, Nat.le_of_ble_eq_true rfl⟩ ?_
  show vm_J _ _ _ (17, (0, 0), [.ref 152, .int (nI p), .int x, .int y], [.int 0]) (G, I, F) _ _
  refine vm_J.go vm_q186 (k := 1) (hs := []) (f' := (bif vm_ic .eq 0 0 then 35 else 20, (0, 0), [.ref 152, .int (nI p), .int x, .int y], [])) (h' := (G, I, F)) (hs' := []) rfl rfl ?_
  refine vm_J.bT (by decide) ?_
  refine vm_J.go vm_q186 (k := 1) (hs := []) (f' := (37, (0, 0), [.ref 152, .int (nI p), .int x, .int y], [.int (-2)])) (h' := (G, I, F)) (hs' := []) rfl rfl ?_
  exact vm_J.end vm_q186 (en := (37, .ireturn, 1, [], .null)) rfl rfl vm_rI (Nat.zero_le _) (Nat.zero_le _) rfl
set_option maxHeartbeats 4000000 in
set_option maxRecDepth 20000 in
/-- DitherDeskModel.pixel -/
theorem r_pixel_y {l : Launch} {X : vm_Cx} {G : List vm_Sh} {I : Nat → Nat → Int32} {F : Nat → Nat → UInt32} {p : Nat} {w : Nat} {h : Nat} {i : Nat} {j : Nat} (hR : vm_isR G) (hw : I 153 p = nI w) (hh : I 154 p = nI h) (hp : p < 4) (hw2 : w ≤ 12) (hh2 : h ≤ 12) (hw0 : 0 < w) (hi : i < w) (hj : j < h) : vm_K l X vm_M186 [.ref 152, .int (nI p), .int (nI i), .int (nI j)] (G, I, F) (some (.int (I 155 (144 * p + w * j + i)))) (G, I, F) := by
  refine vm_K.mk (by decide) (Nat.le_of_ble_eq_true rfl) ?_
  have hwh := vm_mul144 hw2 hh2
  have hlin := vm_lin2 hi hj
  show vm_J _ _ _ (0, (0, 0), [.ref 152, .int (nI p), .int (nI i), .int (nI j)], []) _ _ _
  refine vm_J.go vm_q186 (k := 2) (hs := []) (f' := (2, (0, 0), [.ref 152, .int (nI p), .int (nI i), .int (nI j)], [.int (nI p), .ref 152])) (h' := (G, I, F)) (hs' := []) rfl rfl ?_
  refine vm_J.call vm_q186 (Z := vm_M172) (n := 1) (k := 0) (mi := 172) (pc := 2) (en := (2, .invokevirtual 156, 3, [172, 1313, 0], .null)) rfl trivial rfl rfl vm_z172 (av := [.ref 152, .int (nI p)]) (rest := []) (r_isPic_y (p := p) (w := w) hR (by omega) hw (by omega) (by omega)) ⟨_, _, rfl, rfl, _, 11, _, hR.c152, rfl, rfl, rfl⟩ (Nat.le_of_ble_eq_true rfl) ⟨Nat.le_of_ble_eq_true rfl, Nat.le_of_ble_eq_true rfl⟩ ⟨Nat.le_of_ble_eq_true rfl, Nat.le_of_ble_eq_true rfl⟩ ?_
  show vm_J _ _ _ (5, (0, 0), [.ref 152, .int (nI p), .int (nI i), .int (nI j)], [.int 1]) (G, I, F) _ _
  refine vm_J.go vm_q186 (k := 1) (hs := []) (f' := (bif vm_ic .ne 1 0 then 10 else 8, (0, 0), [.ref 152, .int (nI p), .int (nI i), .int (nI j)], [])) (h' := (G, I, F)) (hs' := []) rfl rfl ?_
  refine vm_J.bT (by decide) ?_
  refine vm_J.go vm_q186 (k := 4) (hs := []) (f' := (14, (0, 0), [.ref 152, .int (nI p), .int (nI i), .int (nI j)], [.int (nI j), .int (nI i), .int (nI p), .ref 152])) (h' := (G, I, F)) (hs' := []) rfl rfl ?_
  refine vm_J.call vm_q186 (Z := vm_M176) (n := 3) (k := 0) (mi := 176) (pc := 14) (en := (14, .invokevirtual 159, 3, [176, 1317, 0], .null)) rfl trivial rfl rfl vm_z176 (av := [.ref 152, .int (nI p), .int (nI i), .int (nI j)]) (rest := []) (r_isOn_y (p := p) (x := nI i) (y := nI j) hR (by omega) hw hh (vm_on_n hi hj hw2 hh2)) ⟨_, _, rfl, rfl, _, 11, _, hR.c152, rfl, rfl, rfl⟩ (Nat.le_of_ble_eq_true rfl) ⟨Nat.le_of_ble_eq_true rfl, Nat.le_of_ble_eq_true rfl⟩ ⟨Nat.le_of_ble_eq_true rfl, Nat.le_of_ble_eq_true rfl⟩ ?_
  show vm_J _ _ _ (17, (0, 0), [.ref 152, .int (nI p), .int (nI i), .int (nI j)], [.int 1]) (G, I, F) _ _
  refine vm_J.go vm_q186 (k := 1) (hs := []) (f' := (bif vm_ic .eq 1 0 then 35 else 20, (0, 0), [.ref 152, .int (nI p), .int (nI i), .int (nI j)], [])) (h' := (G, I, F)) (hs' := []) rfl rfl ?_
  refine vm_J.bF (by decide) ?_
  refine vm_J.go vm_q186 (k := 6) (hs := [vm_shR]) (f' := (28, (0, 0), [.ref 152, .int (nI p), .int (nI i), .int (nI j)], [.int (nI j), .int (nI i), .int (nI p), .ref 152, .ref 155])) (h' := (G, I, F)) (hs' := []) rfl (vm_b2 rfl (vm_b2 (vm_b2 (vm_hG hR.c152) rfl) (vm_b2 rfl (vm_b2 rfl (vm_b2 rfl (vm_b2 rfl rfl)))))) ?_
  refine vm_J.call vm_q186 (Z := vm_M180) (n := 3) (k := 0) (mi := 180) (pc := 28) (en := (28, .invokevirtual 165, 3, [180, 1325, 0], .null)) rfl trivial rfl rfl vm_z180 (av := [.ref 152, .int (nI p), .int (nI i), .int (nI j)]) (rest := [.ref 155]) (r_at_n (p := p) (w := w) (i := i) (j := j) hR hw (by omega)) ⟨_, _, rfl, rfl, _, 11, _, hR.c152, rfl, rfl, rfl⟩ (Nat.le_of_ble_eq_true rfl) ⟨Nat.le_of_ble_eq_true rfl, Nat.le_of_ble_eq_true rfl⟩ ⟨Nat.le_of_ble_eq_true rfl, Nat.le_of_ble_eq_true rfl⟩ ?_
  show vm_J _ _ _ (31, (0, 0), [.ref 152, .int (nI p), .int (nI i), .int (nI j)], [.int (nI (144 * p + w * j + i)), .ref 155]) (G, I, F) _ _
  refine vm_J.go vm_q186 (k := 2) (hs := [(0, 576, [])]) (f' := (37, (0, 0), [.ref 152, .int (nI p), .int (nI i), .int (nI j)], [.int (I 155 (nI (144 * p + w * j + i)).toNatClampNeg)])) (h' := (G, I, F)) (hs' := []) rfl (vm_b2 (vm_b2 (vm_hG hR.c155) (vm_in_e (j := 144 * p + w * j + i) (n := 576) rfl (by omega) (by omega))) (vm_b2 rfl rfl)) ?_
  rw [vm_ix_e (j := 144 * p + w * j + i) rfl (by omega)]
  exact vm_J.end vm_q186 (en := (37, .ireturn, 1, [], .null)) rfl rfl vm_rI (Nat.zero_le _) (Nat.zero_le _) rfl
theorem sp_z1 (c : Int32) (n : Nat) : sp_z c (n + 1) = sp_lc (sp_z c n) := rfl
theorem sp_z3 (c : Int32) (k : Nat) : sp_z c (3 * (k + 1)) = sp_lc (sp_lc (sp_lc (sp_z c (3 * k)))) := by
  rw [Nat.mul_succ, show 3 * k + 3 = 3 * k + 1 + 1 + 1 from rfl, sp_z1, sp_z1, sp_z1]
theorem sp_nc3 (c : Int32) (k : Nat) : sp_nc c k = ((0 * 64 + sp_d (sp_lc (sp_z c (3 * k)))) * 64 + sp_d (sp_lc (sp_lc (sp_z c (3 * k))))) * 64 + sp_d (sp_lc (sp_lc (sp_lc (sp_z c (3 * k))))) := by
  unfold sp_nc
  rw [show sp_z c (3 * k + 3) = sp_lc (sp_z c (3 * k + 2)) from sp_z1 c (3 * k + 2), show sp_z c (3 * k + 2) = sp_lc (sp_z c (3 * k + 1)) from sp_z1 c (3 * k + 1), sp_z1 c (3 * k)]
set_option maxHeartbeats 4000000 in
set_option maxRecDepth 20000 in
/-- DitherDeskModel.noise -/
theorem r_noise_y {l : Launch} {X : vm_Cx} {G : List vm_Sh} {I : Nat → Nat → Int32} {F : Nat → Nat → UInt32} {p : Nat} {w : Nat} {h : Nat} {c : Int32} (hR : vm_isR G) (hw : I 153 p = nI w) (hh : I 154 p = nI h) (hp : p < 4) (hw2 : w ≤ 12) (hh2 : h ≤ 12) (hw0 : 0 < w) : vm_K l X vm_M183 [.ref 152, .int (nI p), .int c] (G, I, F) (some (.int (nI (w * h)))) (G, (vm_up (vm_wq I 155 (fun y => sp_nc c (y - 144 * p)) (144 * p) (w * h)) 152 11 (sp_z c (3 * (w * h)))), F) := by
  refine vm_K.mk (by decide) (Nat.le_of_ble_eq_true rfl) ?_
  have hwh := vm_mul144 hw2 hh2
  show vm_J _ _ _ (0, (0, 0), [.ref 152, .int (nI p), .int c, .retAddr 0, .retAddr 0, .retAddr 0, .retAddr 0], []) _ _ _
  refine vm_J.go vm_q183 (k := 2) (hs := []) (f' := (2, (0, 0), [.ref 152, .int (nI p), .int c, .retAddr 0, .retAddr 0, .retAddr 0, .retAddr 0], [.int (nI p), .ref 152])) (h' := (G, I, F)) (hs' := []) rfl rfl ?_
  refine vm_J.call vm_q183 (Z := vm_M172) (n := 1) (k := 0) (mi := 172) (pc := 2) (en := (2, .invokevirtual 156, 3, [172, 1313, 0], .null)) rfl trivial rfl rfl vm_z172 (av := [.ref 152, .int (nI p)]) (rest := []) (r_isPic_y (p := p) (w := w) hR (by omega) hw (by omega) (by omega)) ⟨_, _, rfl, rfl, _, 11, _, hR.c152, rfl, rfl, rfl⟩ (Nat.le_of_ble_eq_true rfl) ⟨Nat.le_of_ble_eq_true rfl, Nat.le_of_ble_eq_true rfl⟩ ⟨Nat.le_of_ble_eq_true rfl, Nat.le_of_ble_eq_true rfl⟩ ?_
  show vm_J _ _ _ (5, (0, 0), [.ref 152, .int (nI p), .int c, .retAddr 0, .retAddr 0, .retAddr 0, .retAddr 0], [.int 1]) (G, I, F) _ _
  refine vm_J.go vm_q183 (k := 1) (hs := []) (f' := (bif vm_ic .ne 1 0 then 10 else 8, (0, 0), [.ref 152, .int (nI p), .int c, .retAddr 0, .retAddr 0, .retAddr 0, .retAddr 0], [])) (h' := (G, I, F)) (hs' := []) rfl rfl ?_
  refine vm_J.bT (by decide) ?_
  refine vm_J.go vm_q183 (k := 5) (hs := [vm_shR]) (f' := (17, (0, 0), [.ref 152, .int (nI p), .int c, .retAddr 0, .retAddr 0, .retAddr 0, .retAddr 0], [.int (nI p), .ref 152])) (h' := (G, (vm_up I 152 11 c), F)) (hs' := []) rfl (vm_b2 rfl (vm_b2 rfl (vm_b2 (vm_b2 (vm_b2 (vm_hG hR.c152) rfl) rfl) (vm_b2 rfl (vm_b2 rfl rfl))))) ?_
  refine vm_J.call vm_q183 (Z := vm_M175) (n := 1) (k := 0) (mi := 175) (pc := 17) (en := (17, .invokevirtual 152, 3, [175, 1305, 0], .null)) rfl trivial rfl rfl vm_z175 (av := [.ref 152, .int (nI p)]) (rest := []) (r_pix (p := p) (w := w) (h := h) hR (Eq.trans (congrFun (vm_up_f _ 152 _ _ 153 (by decide)) p) hw) (Eq.trans (congrFun (vm_up_f _ 152 _ _ 154 (by decide)) p) hh) (by omega)) ⟨_, _, rfl, rfl, _, 11, _, hR.c152, rfl, rfl, rfl⟩ (Nat.le_of_ble_eq_true rfl) ⟨Nat.le_of_ble_eq_true rfl, Nat.le_of_ble_eq_true rfl⟩ ⟨Nat.le_of_ble_eq_true rfl, Nat.le_of_ble_eq_true rfl⟩ ?_
  show vm_J _ _ _ (20, (0, 0), [.ref 152, .int (nI p), .int c, .retAddr 0, .retAddr 0, .retAddr 0, .retAddr 0], [.int (nI (w * h))]) (G, (vm_up I 152 11 c), F) _ _
  refine vm_J.go vm_q183 (k := 3) (hs := []) (f' := (24, (0, 0), [.ref 152, .int (nI p), .int c, .int (nI (w * h)), .int 0, .retAddr 0, .retAddr 0], [])) (h' := (G, (vm_up I 152 11 c), F)) (hs' := []) rfl rfl ?_
  refine vm_J.cnt (w * h) (fun k => (24, (0, 0), [.ref 152, .int (nI p), .int c, .int (nI (w * h)), .int (nI k), .retAddr 0, .retAddr 0], [])) (fun k => (G, (vm_up (vm_wq I 155 (fun y => sp_nc c (y - 144 * p)) (144 * p) k) 152 11 (sp_z c (3 * k))), F)) (fun _ => True) rfl (by rw [← vm_wq_0]; rfl) trivial (fun k hk pk ik => ?_) (fun pk => ?_)
  · show vm_J _ _ _ (24, (0, 0), [.ref 152, .int (nI p), .int c, .int (nI (w * h)), .int (nI k), .retAddr 0, .retAddr 0], []) (G, (vm_up (vm_wq I 155 (fun y => sp_nc c (y - 144 * p)) (144 * p) k) 152 11 (sp_z c (3 * k))), F) _ _
    refine vm_J.go vm_q183 (k := 3) (hs := []) (f' := (bif vm_ic .ge (nI k) (nI (w * h)) then 72 else 30, (0, 0), [.ref 152, .int (nI p), .int c, .int (nI (w * h)), .int (nI k), .retAddr 0, .retAddr 0], [])) (h' := (G, (vm_up (vm_wq I 155 (fun y => sp_nc c (y - 144 * p)) (144 * p) k) 152 11 (sp_z c (3 * k))), F)) (hs' := []) rfl rfl ?_
    refine vm_J.br (fun c1 => ?_) (fun c1 => ?_)
    · have c1 := vm_ge_t (a := k) (b := w * h) (by omega) (by omega) c1
      exact (show False by omega).elim
    · have c1 := vm_ge_f (a := k) (b := w * h) (by omega) (by omega) c1
      refine vm_J.go vm_q183 (k := 1) (hs := []) (f' := (31, (0, 0), [.ref 152, .int (nI p), .int c, .int (nI (w * h)), .int (nI k), .retAddr 0, .retAddr 0], [.ref 152])) (h' := (G, (vm_up (vm_wq I 155 (fun y => sp_nc c (y - 144 * p)) (144 * p) k) 152 11 (sp_z c (3 * k))), F)) (hs' := []) rfl rfl ?_
      refine vm_J.call vm_q183 (Z := vm_M182) (n := 0) (k := 0) (mi := 182) (pc := 31) (en := (31, .invokevirtual 173, 3, [182, 1333, 0], .null)) rfl trivial rfl rfl vm_z182 (av := [.ref 152]) (rest := []) (r_draw_n (z0 := sp_z c (3 * k)) hR (vm_up_h _ 152 11 _)) ⟨_, _, rfl, rfl, _, 11, _, hR.c152, rfl, rfl, rfl⟩ (Nat.le_of_ble_eq_true rfl) ⟨Nat.le_of_ble_eq_true rfl, Nat.le_of_ble_eq_true rfl⟩ ⟨Nat.le_of_ble_eq_true rfl, Nat.le_of_ble_eq_true rfl⟩ ?_
      show vm_J _ _ _ (34, (0, 0), [.ref 152, .int (nI p), .int c, .int (nI (w * h)), .int (nI k), .retAddr 0, .retAddr 0], [.int (sp_d (sp_lc (sp_z c (3 * k))))]) (G, (vm_up (vm_up (vm_wq I 155 (fun y => sp_nc c (y - 144 * p)) (144 * p) k) 152 11 (sp_z c (3 * k))) 152 11 (sp_lc (sp_z c (3 * k)))), F) _ _
      generalize hd1 : sp_d (sp_lc (sp_z c (3 * k))) = d1
      show vm_J _ _ _ (34, (0, 0), [.ref 152, .int (nI p), .int c, .int (nI (w * h)), .int (nI k), .retAddr 0, .retAddr 0], [.int d1]) (G, (vm_up (vm_up (vm_wq I 155 (fun y => sp_nc c (y - 144 * p)) (144 * p) k) 152 11 (sp_z c (3 * k))) 152 11 (sp_lc (sp_z c (3 * k)))), F) _ _
      refine vm_J.go vm_q183 (k := 2) (hs := []) (f' := (37, (0, 0), [.ref 152, .int (nI p), .int c, .int (nI (w * h)), .int (nI k), .int d1, .retAddr 0], [.ref 152])) (h' := (G, (vm_up (vm_up (vm_wq I 155 (fun y => sp_nc c (y - 144 * p)) (144 * p) k) 152 11 (sp_z c (3 * k))) 152 11 (sp_lc (sp_z c (3 * k)))), F)) (hs' := []) rfl rfl ?_
      refine vm_J.call vm_q183 (Z := vm_M182) (n := 0) (k := 0) (mi := 182) (pc := 37) (en := (37, .invokevirtual 173, 3, [182, 1333, 0], .null)) rfl trivial rfl rfl vm_z182 (av := [.ref 152]) (rest := []) (r_draw_n (z0 := sp_lc (sp_z c (3 * k))) hR (vm_up_h _ 152 11 _)) ⟨_, _, rfl, rfl, _, 11, _, hR.c152, rfl, rfl, rfl⟩ (Nat.le_of_ble_eq_true rfl) ⟨Nat.le_of_ble_eq_true rfl, Nat.le_of_ble_eq_true rfl⟩ ⟨Nat.le_of_ble_eq_true rfl, Nat.le_of_ble_eq_true rfl⟩ ?_
      show vm_J _ _ _ (40, (0, 0), [.ref 152, .int (nI p), .int c, .int (nI (w * h)), .int (nI k), .int d1, .retAddr 0], [.int (sp_d (sp_lc (sp_lc (sp_z c (3 * k)))))]) (G, (vm_up (vm_up (vm_up (vm_wq I 155 (fun y => sp_nc c (y - 144 * p)) (144 * p) k) 152 11 (sp_z c (3 * k))) 152 11 (sp_lc (sp_z c (3 * k)))) 152 11 (sp_lc (sp_lc (sp_z c (3 * k))))), F) _ _
      generalize hd2 : sp_d (sp_lc (sp_lc (sp_z c (3 * k)))) = d2
      show vm_J _ _ _ (40, (0, 0), [.ref 152, .int (nI p), .int c, .int (nI (w * h)), .int (nI k), .int d1, .retAddr 0], [.int d2]) (G, (vm_up (vm_up (vm_up (vm_wq I 155 (fun y => sp_nc c (y - 144 * p)) (144 * p) k) 152 11 (sp_z c (3 * k))) 152 11 (sp_lc (sp_z c (3 * k)))) 152 11 (sp_lc (sp_lc (sp_z c (3 * k))))), F) _ _
      refine vm_J.go vm_q183 (k := 11) (hs := [vm_shR]) (f' := (59, (0, 0), [.ref 152, .int (nI p), .int c, .int (nI (w * h)), .int (nI k), .int d1, .int d2], [.ref 152, .int d2, .int d1, .int ((144 * (nI p)) + (nI k)), .ref 155])) (h' := (G, (vm_up (vm_up (vm_up (vm_wq I 155 (fun y => sp_nc c (y - 144 * p)) (144 * p) k) 152 11 (sp_z c (3 * k))) 152 11 (sp_lc (sp_z c (3 * k)))) 152 11 (sp_lc (sp_lc (sp_z c (3 * k))))), F)) (hs' := []) rfl (vm_b2 rfl (vm_b2 rfl (vm_b2 (vm_b2 (vm_hG hR.c152) rfl) (vm_b2 rfl (vm_b2 rfl (vm_b2 rfl (vm_b2 rfl (vm_b2 rfl (vm_b2 rfl (vm_b2 rfl (vm_b2 rfl rfl))))))))))) ?_
      rw [((vm_pa (vm_pm (rfl : (144 : Int32) = nI 144) (rfl : (nI p : Int32) = nI p)) (rfl : (nI k : Int32) = nI k)) : (144 * (nI p)) + (nI k) = nI ((144 * p) + k))]
      refine vm_J.call vm_q183 (Z := vm_M182) (n := 0) (k := 0) (mi := 182) (pc := 59) (en := (59, .invokevirtual 173, 3, [182, 1333, 0], .null)) rfl trivial rfl rfl vm_z182 (av := [.ref 152]) (rest := [.int d2, .int d1, .int (nI ((144 * p) + k)), .ref 155]) (r_draw_n (z0 := sp_lc (sp_lc (sp_z c (3 * k)))) hR (vm_up_h _ 152 11 _)) ⟨_, _, rfl, rfl, _, 11, _, hR.c152, rfl, rfl, rfl⟩ (Nat.le_of_ble_eq_true rfl) ⟨Nat.le_of_ble_eq_true rfl, Nat.le_of_ble_eq_true rfl⟩ ⟨Nat.le_of_ble_eq_true rfl, Nat.le_of_ble_eq_true rfl⟩ ?_
      show vm_J _ _ _ (62, (0, 0), [.ref 152, .int (nI p), .int c, .int (nI (w * h)), .int (nI k), .int d1, .int d2], [.int (sp_d (sp_lc (sp_lc (sp_lc (sp_z c (3 * k)))))), .int d2, .int d1, .int (nI ((144 * p) + k)), .ref 155]) (G, (vm_up (vm_up (vm_up (vm_up (vm_wq I 155 (fun y => sp_nc c (y - 144 * p)) (144 * p) k) 152 11 (sp_z c (3 * k))) 152 11 (sp_lc (sp_z c (3 * k)))) 152 11 (sp_lc (sp_lc (sp_z c (3 * k))))) 152 11 (sp_lc (sp_lc (sp_lc (sp_z c (3 * k)))))), F) _ _
      generalize hd3 : sp_d (sp_lc (sp_lc (sp_lc (sp_z c (3 * k))))) = d3
      show vm_J _ _ _ (62, (0, 0), [.ref 152, .int (nI p), .int c, .int (nI (w * h)), .int (nI k), .int d1, .int d2], [.int d3, .int d2, .int d1, .int (nI ((144 * p) + k)), .ref 155]) (G, (vm_up (vm_up (vm_up (vm_up (vm_wq I 155 (fun y => sp_nc c (y - 144 * p)) (144 * p) k) 152 11 (sp_z c (3 * k))) 152 11 (sp_lc (sp_z c (3 * k)))) 152 11 (sp_lc (sp_lc (sp_z c (3 * k))))) 152 11 (sp_lc (sp_lc (sp_lc (sp_z c (3 * k)))))), F) _ _
      obtain ⟨d4, hd4⟩ : ∃ d4, sp_co d1 d2 d3 = d4 := ⟨_, rfl⟩
      have zz : ∀ H, vm_K l X vm_M171 [.int d1, .int d2, .int d3] (G, H, F) (some (.int d4)) (G, H, F) := fun H => by rw [← hd4]; exact r_colour_o hR
      refine vm_J.call vm_q183 (Z := vm_M171) (n := 3) (k := 1) (mi := 171) (pc := 62) (en := (62, .invokestatic 177, 3, [171, 1338, 0], .null)) rfl trivial rfl rfl vm_z171 (av := [.int d1, .int d2, .int d3]) (rest := [.int (nI ((144 * p) + k)), .ref 155]) (zz _) rfl (Nat.le_of_ble_eq_true rfl) ⟨Nat.le_of_ble_eq_true rfl, Nat.le_of_ble_eq_true rfl⟩ ⟨Nat.le_of_ble_eq_true rfl, Nat.le_of_ble_eq_true rfl⟩ ?_
      show vm_J _ _ _ (65, (0, 0), [.ref 152, .int (nI p), .int c, .int (nI (w * h)), .int (nI k), .int d1, .int d2], [.int d4, .int (nI ((144 * p) + k)), .ref 155]) (G, (vm_up (vm_up (vm_up (vm_up (vm_wq I 155 (fun y => sp_nc c (y - 144 * p)) (144 * p) k) 152 11 (sp_z c (3 * k))) 152 11 (sp_lc (sp_z c (3 * k)))) 152 11 (sp_lc (sp_lc (sp_z c (3 * k))))) 152 11 (sp_lc (sp_lc (sp_lc (sp_z c (3 * k)))))), F) _ _
      refine vm_J.go vm_q183 (k := 3) (hs := [(0, 576, [])]) (f' := (24, (0, 0), [.ref 152, .int (nI p), .int c, .int (nI (w * h)), .int ((nI k) + 1), .int d1, .int d2], [])) (h' := (G, (vm_up (vm_up (vm_up (vm_up (vm_up (vm_wq I 155 (fun y => sp_nc c (y - 144 * p)) (144 * p) k) 152 11 (sp_z c (3 * k))) 152 11 (sp_lc (sp_z c (3 * k)))) 152 11 (sp_lc (sp_lc (sp_z c (3 * k))))) 152 11 (sp_lc (sp_lc (sp_lc (sp_z c (3 * k)))))) 155 ((nI ((144 * p) + k)).toNatClampNeg) d4), F)) (hs' := []) rfl (vm_b2 (vm_b2 (vm_hG hR.c155) (vm_in_e (j := (144 * p) + k) (n := 576) rfl (by omega) (by omega))) (vm_b2 rfl (vm_b2 rfl rfl))) ?_
      rw [vm_ix_e (j := (144 * p) + k) rfl (by omega), ((vm_pa (rfl : nI k = nI k) (rfl : (1 : Int32) = nI 1)) : (nI k) + 1 = nI (k + 1))]
      refine vm_J.mask [true, true, true, true, true, false, false] ?_
      show vm_J _ _ _ (24, (0, 0), [.ref 152, .int (nI p), .int c, .int (nI (w * h)), .int (nI (k + 1)), .retAddr 0, .retAddr 0], []) (G, (vm_up (vm_up (vm_up (vm_up (vm_up (vm_wq I 155 (fun y => sp_nc c (y - 144 * p)) (144 * p) k) 152 11 (sp_z c (3 * k))) 152 11 (sp_lc (sp_z c (3 * k)))) 152 11 (sp_lc (sp_lc (sp_z c (3 * k))))) 152 11 (sp_lc (sp_lc (sp_lc (sp_z c (3 * k)))))) 155 (((144 * p) + k)) d4), F) _ _
      rw [vm_up_up, vm_up_up, vm_up_up, vm_up_sw _ 152 11 _ 155 _ _ (by decide)]
      have z := ik trivial
      rw [← vm_wq_s, Nat.add_sub_cancel_left, sp_z3, sp_nc3, hd1, hd2, hd3, ← sp_co_e, hd4] at z
      exact z
  · show vm_J _ _ _ (24, (0, 0), [.ref 152, .int (nI p), .int c, .int (nI (w * h)), .int (nI (w * h)), .retAddr 0, .retAddr 0], []) (G, (vm_up (vm_wq I 155 (fun y => sp_nc c (y - 144 * p)) (144 * p) (w * h)) 152 11 (sp_z c (3 * (w * h)))), F) _ _
    refine vm_J.go vm_q183 (k := 3) (hs := []) (f' := (bif vm_ic .ge (nI (w * h)) (nI (w * h)) then 72 else 30, (0, 0), [.ref 152, .int (nI p), .int c, .int (nI (w * h)), .int (nI (w * h)), .retAddr 0, .retAddr 0], [])) (h' := (G, (vm_up (vm_wq I 155 (fun y => sp_nc c (y - 144 * p)) (144 * p) (w * h)) 152 11 (sp_z c (3 * (w * h)))), F)) (hs' := []) rfl rfl ?_
    refine vm_J.br (fun c2 => ?_) (fun c2 => ?_)
    · have c2 := vm_ge_t (a := (w * h)) (b := w * h) (by omega) (by omega) c2
      refine vm_J.go vm_q183 (k := 1) (hs := []) (f' := (73, (0, 0), [.ref 152, .int (nI p), .int c, .int (nI (w * h)), .int (nI (w * h)), .retAddr 0, .retAddr 0], [.int (nI (w * h))])) (h' := (G, (vm_up (vm_wq I 155 (fun y => sp_nc c (y - 144 * p)) (144 * p) (w * h)) 152 11 (sp_z c (3 * (w * h)))), F)) (hs' := []) rfl rfl ?_
      exact vm_J.end vm_q183 (en := (73, .ireturn, 1, [], .null)) rfl rfl vm_rI (Nat.zero_le _) (Nat.zero_le _) rfl
    · have c2 := vm_ge_f (a := (w * h)) (b := w * h) (by omega) (by omega) c2
      exact (show False by omega).elim
/-- three channels together -/
def sp_c3 (c : Int32) : Int32 := ((0 * 64 + sp_ch c 0) * 64 + sp_ch c 1) * 64 + sp_ch c 2
def sp_bt (f t i n : Int32) : Int32 := ((0 * 64 + sp_b1 f t i n 0) * 64 + sp_b1 f t i n 1) * 64 + sp_b1 f t i n 2
set_option maxHeartbeats 4000000 in
set_option maxRecDepth 20000 in
/-- DitherDeskModel.between -/
theorem r_between_0 {l : Launch} {X : vm_Cx} {G : List vm_Sh} {I : Nat → Nat → Int32} {F : Nat → Nat → UInt32} {f : Int32} {t : Int32} {i : Int32} (hR : vm_isR G) : vm_K l X vm_M184 [.int f, .int t, .int i, .int 0] (G, I, F) (some (.int (sp_c3 f))) (G, I, F) := by
  refine vm_K.mk (by decide) (Nat.le_of_ble_eq_true rfl) ?_
  show vm_J _ _ _ (0, (0, 0), [.int f, .int t, .int i, .int 0, .retAddr 0, .retAddr 0, .retAddr 0], []) _ _ _
  refine vm_J.go vm_q184 (k := 7) (hs := []) (f' := (bif vm_ic .ge 0 3 then 64 else 12, (0, 0), [.int f, .int t, .int i, .int 0, .int 0, .int 0, .retAddr 0], [])) (h' := (G, I, F)) (hs' := []) rfl rfl ?_
  refine vm_J.bF (by decide) ?_
  refine vm_J.go vm_q184 (k := 2) (hs := []) (f' := (bif vm_ic .ne 0 0 then 25 else 16, (0, 0), [.int f, .int t, .int i, .int 0, .int 0, .int 0, .retAddr 0], [])) (h' := (G, I, F)) (hs' := []) rfl rfl ?_
  refine vm_J.bF (by decide) ?_
  refine vm_J.go vm_q184 (k := 2) (hs := []) (f' := (19, (0, 0), [.int f, .int t, .int i, .int 0, .int 0, .int 0, .retAddr 0], [.int 0, .int f])) (h' := (G, I, F)) (hs' := []) rfl rfl ?_
  refine vm_J.call vm_q184 (Z := vm_M170) (n := 2) (k := 1) (mi := 170) (pc := 19) (en := (19, .invokestatic 180, 3, [170, 1348, 0], .null)) rfl trivial rfl rfl vm_z170 (av := [.int f, .int 0]) (rest := []) (r_channelOf (c := f) (k := 0)) rfl (Nat.le_of_ble_eq_true rfl) ⟨Nat.le_of_ble_eq_true rfl, Nat.le_of_ble_eq_true rfl⟩ ⟨Nat.le_of_ble_eq_true rfl, Nat.le_of_ble_eq_true rfl⟩ ?_
  show vm_J _ _ _ (22, (0, 0), [.int f, .int t, .int i, .int 0, .int 0, .int 0, .retAddr 0], [.int (sp_ch f 0)]) (G, I, F) _ _
  refine vm_J.go vm_q184 (k := 13) (hs := []) (f' := (bif vm_ic .ge (0 + 1) 3 then 64 else 12, (0, 0), [.int f, .int t, .int i, .int 0, .int ((64 * 0) + (sp_ch f 0)), .int (0 + 1), .int (sp_ch f 0)], [])) (h' := (G, I, F)) (hs' := []) rfl rfl ?_
  rw [(show (0 + 1 : Int32) = 1 from by decide)]
  refine vm_J.bF (by decide) ?_
  refine vm_J.go vm_q184 (k := 2) (hs := []) (f' := (bif vm_ic .ne 0 0 then 25 else 16, (0, 0), [.int f, .int t, .int i, .int 0, .int ((64 * 0) + (sp_ch f 0)), .int 1, .int (sp_ch f 0)], [])) (h' := (G, I, F)) (hs' := []) rfl rfl ?_
  refine vm_J.bF (by decide) ?_
  refine vm_J.go vm_q184 (k := 2) (hs := []) (f' := (19, (0, 0), [.int f, .int t, .int i, .int 0, .int ((64 * 0) + (sp_ch f 0)), .int 1, .int (sp_ch f 0)], [.int 1, .int f])) (h' := (G, I, F)) (hs' := []) rfl rfl ?_
  refine vm_J.call vm_q184 (Z := vm_M170) (n := 2) (k := 1) (mi := 170) (pc := 19) (en := (19, .invokestatic 180, 3, [170, 1348, 0], .null)) rfl trivial rfl rfl vm_z170 (av := [.int f, .int 1]) (rest := []) (r_channelOf (c := f) (k := 1)) rfl (Nat.le_of_ble_eq_true rfl) ⟨Nat.le_of_ble_eq_true rfl, Nat.le_of_ble_eq_true rfl⟩ ⟨Nat.le_of_ble_eq_true rfl, Nat.le_of_ble_eq_true rfl⟩ ?_
  show vm_J _ _ _ (22, (0, 0), [.int f, .int t, .int i, .int 0, .int ((64 * 0) + (sp_ch f 0)), .int 1, .int (sp_ch f 0)], [.int (sp_ch f 1)]) (G, I, F) _ _
  refine vm_J.go vm_q184 (k := 13) (hs := []) (f' := (bif vm_ic .ge (1 + 1) 3 then 64 else 12, (0, 0), [.int f, .int t, .int i, .int 0, .int ((64 * ((64 * 0) + (sp_ch f 0))) + (sp_ch f 1)), .int (1 + 1), .int (sp_ch f 1)], [])) (h' := (G, I, F)) (hs' := []) rfl rfl ?_
  rw [(show (1 + 1 : Int32) = 2 from by decide)]
  refine vm_J.bF (by decide) ?_
  refine vm_J.go vm_q184 (k := 2) (hs := []) (f' := (bif vm_ic .ne 0 0 then 25 else 16, (0, 0), [.int f, .int t, .int i, .int 0, .int ((64 * ((64 * 0) + (sp_ch f 0))) + (sp_ch f 1)), .int 2, .int (sp_ch f 1)], [])) (h' := (G, I, F)) (hs' := []) rfl rfl ?_
  refine vm_J.bF (by decide) ?_
  refine vm_J.go vm_q184 (k := 2) (hs := []) (f' := (19, (0, 0), [.int f, .int t, .int i, .int 0, .int ((64 * ((64 * 0) + (sp_ch f 0))) + (sp_ch f 1)), .int 2, .int (sp_ch f 1)], [.int 2, .int f])) (h' := (G, I, F)) (hs' := []) rfl rfl ?_
  refine vm_J.call vm_q184 (Z := vm_M170) (n := 2) (k := 1) (mi := 170) (pc := 19) (en := (19, .invokestatic 180, 3, [170, 1348, 0], .null)) rfl trivial rfl rfl vm_z170 (av := [.int f, .int 2]) (rest := []) (r_channelOf (c := f) (k := 2)) rfl (Nat.le_of_ble_eq_true rfl) ⟨Nat.le_of_ble_eq_true rfl, Nat.le_of_ble_eq_true rfl⟩ ⟨Nat.le_of_ble_eq_true rfl, Nat.le_of_ble_eq_true rfl⟩ ?_
  show vm_J _ _ _ (22, (0, 0), [.int f, .int t, .int i, .int 0, .int ((64 * ((64 * 0) + (sp_ch f 0))) + (sp_ch f 1)), .int 2, .int (sp_ch f 1)], [.int (sp_ch f 2)]) (G, I, F) _ _
  refine vm_J.go vm_q184 (k := 13) (hs := []) (f' := (bif vm_ic .ge (2 + 1) 3 then 64 else 12, (0, 0), [.int f, .int t, .int i, .int 0, .int ((64 * ((64 * ((64 * 0) + (sp_ch f 0))) + (sp_ch f 1))) + (sp_ch f 2)), .int (2 + 1), .int (sp_ch f 2)], [])) (h' := (G, I, F)) (hs' := []) rfl rfl ?_
  rw [(show (2 + 1 : Int32) = 3 from by decide)]
  refine vm_J.bT (by decide) ?_
  refine vm_J.go vm_q184 (k := 1) (hs := []) (f' := (66, (0, 0), [.int f, .int t, .int i, .int 0, .int ((64 * ((64 * ((64 * 0) + (sp_ch f 0))) + (sp_ch f 1))) + (sp_ch f 2)), .int 3, .int (sp_ch f 2)], [.int ((64 * ((64 * ((64 * 0) + (sp_ch f 0))) + (sp_ch f 1))) + (sp_ch f 2))])) (h' := (G, I, F)) (hs' := []) rfl rfl ?_
  exact vm_J.end vm_q184 (en := (66, .ireturn, 1, [], .null)) rfl (by rw [vm_k4]; rfl) vm_rI (Nat.zero_le _) (Nat.zero_le _) rfl
set_option maxHeartbeats 4000000 in
set_option maxRecDepth 20000 in
/-- DitherDeskModel.between -/
theorem r_between_n {l : Launch} {X : vm_Cx} {G : List vm_Sh} {I : Nat → Nat → Int32} {F : Nat → Nat → UInt32} {f : Int32} {t : Int32} {i : Int32} {n : Int32} (hR : vm_isR G) (hn : ¬ n = 0) : vm_K l X vm_M184 [.int f, .int t, .int i, .int n] (G, I, F) (some (.int (sp_bt f t i n))) (G, I, F) := by
  refine vm_K.mk (by decide) (Nat.le_of_ble_eq_true rfl) ?_
  show vm_J _ _ _ (0, (0, 0), [.int f, .int t, .int i, .int n, .retAddr 0, .retAddr 0, .retAddr 0], []) _ _ _
  refine vm_J.go vm_q184 (k := 7) (hs := []) (f' := (bif vm_ic .ge 0 3 then 64 else 12, (0, 0), [.int f, .int t, .int i, .int n, .int 0, .int 0, .retAddr 0], [])) (h' := (G, I, F)) (hs' := []) rfl rfl ?_
  refine vm_J.bF (by decide) ?_
  refine vm_J.go vm_q184 (k := 2) (hs := []) (f' := (bif vm_ic .ne n 0 then 25 else 16, (0, 0), [.int f, .int t, .int i, .int n, .int 0, .int 0, .retAddr 0], [])) (h' := (G, I, F)) (hs' := []) rfl rfl ?_
  refine vm_J.bT (decide_eq_true hn) ?_
  refine vm_J.go vm_q184 (k := 2) (hs := []) (f' := (28, (0, 0), [.int f, .int t, .int i, .int n, .int 0, .int 0, .retAddr 0], [.int 0, .int f])) (h' := (G, I, F)) (hs' := []) rfl rfl ?_
  refine vm_J.call vm_q184 (Z := vm_M170) (n := 2) (k := 1) (mi := 170) (pc := 28) (en := (28, .invokestatic 180, 3, [170, 1348, 0], .null)) rfl trivial rfl rfl vm_z170 (av := [.int f, .int 0]) (rest := []) (r_channelOf (c := f) (k := 0)) rfl (Nat.le_of_ble_eq_true rfl) ⟨Nat.le_of_ble_eq_true rfl, Nat.le_of_ble_eq_true rfl⟩ ⟨Nat.le_of_ble_eq_true rfl, Nat.le_of_ble_eq_true rfl⟩ ?_
  show vm_J _ _ _ (31, (0, 0), [.int f, .int t, .int i, .int n, .int 0, .int 0, .retAddr 0], [.int (sp_ch f 0)]) (G, I, F) _ _
  refine vm_J.go vm_q184 (k := 6) (hs := []) (f' := (38, (0, 0), [.int f, .int t, .int i, .int n, .int 0, .int 0, .retAddr 0], [.int 0, .int t, .int ((sp_ch f 0) * (n - i))])) (h' := (G, I, F)) (hs' := []) rfl rfl ?_
  refine vm_J.call vm_q184 (Z := vm_M170) (n := 2) (k := 1) (mi := 170) (pc := 38) (en := (38, .invokestatic 180, 3, [170, 1348, 0], .null)) rfl trivial rfl rfl vm_z170 (av := [.int t, .int 0]) (rest := [.int ((sp_ch f 0) * (n - i))]) (r_channelOf (c := t) (k := 0)) rfl (Nat.le_of_ble_eq_true rfl) ⟨Nat.le_of_ble_eq_true rfl, Nat.le_of_ble_eq_true rfl⟩ ⟨Nat.le_of_ble_eq_true rfl, Nat.le_of_ble_eq_true rfl⟩ ?_
  show vm_J _ _ _ (41, (0, 0), [.int f, .int t, .int i, .int n, .int 0, .int 0, .retAddr 0], [.int (sp_ch t 0), .int ((sp_ch f 0) * (n - i))]) (G, I, F) _ _
  refine vm_J.go vm_q184 (k := 17) (hs := []) (f' := (bif vm_ic .ge (0 + 1) 3 then 64 else 12, (0, 0), [.int f, .int t, .int i, .int n, .int ((64 * 0) + ((((sp_ch f 0) * (n - i)) + ((sp_ch t 0) * i)) / n)), .int (0 + 1), .int ((((sp_ch f 0) * (n - i)) + ((sp_ch t 0) * i)) / n)], [])) (h' := (G, I, F)) (hs' := []) rfl (vm_b2 rfl (vm_b2 rfl (vm_b2 rfl (vm_b2 rfl (vm_b2 (decide_eq_true (by assumption)) (vm_b2 rfl (vm_b2 rfl (vm_b2 rfl (vm_b2 rfl (vm_b2 rfl (vm_b2 rfl (vm_b2 rfl (vm_b2 rfl (vm_b2 rfl (vm_b2 rfl (vm_b2 rfl (vm_b2 rfl rfl))))))))))))))))) ?_
  rw [(show (0 + 1 : Int32) = 1 from by decide)]
  refine vm_J.bF (by decide) ?_
  refine vm_J.go vm_q184 (k := 2) (hs := []) (f' := (bif vm_ic .ne n 0 then 25 else 16, (0, 0), [.int f, .int t, .int i, .int n, .int ((64 * 0) + ((((sp_ch f 0) * (n - i)) + ((sp_ch t 0) * i)) / n)), .int 1, .int ((((sp_ch f 0) * (n - i)) + ((sp_ch t 0) * i)) / n)], [])) (h' := (G, I, F)) (hs' := []) rfl rfl ?_
  refine vm_J.bT (decide_eq_true hn) ?_
  refine vm_J.go vm_q184 (k := 2) (hs := []) (f' := (28, (0, 0), [.int f, .int t, .int i, .int n, .int ((64 * 0) + ((((sp_ch f 0) * (n - i)) + ((sp_ch t 0) * i)) / n)), .int 1, .int ((((sp_ch f 0) * (n - i)) + ((sp_ch t 0) * i)) / n)], [.int 1, .int f])) (h' := (G, I, F)) (hs' := []) rfl rfl ?_
  refine vm_J.call vm_q184 (Z := vm_M170) (n := 2) (k := 1) (mi := 170) (pc := 28) (en := (28, .invokestatic 180, 3, [170, 1348, 0], .null)) rfl trivial rfl rfl vm_z170 (av := [.int f, .int 1]) (rest := []) (r_channelOf (c := f) (k := 1)) rfl (Nat.le_of_ble_eq_true rfl) ⟨Nat.le_of_ble_eq_true rfl, Nat.le_of_ble_eq_true rfl⟩ ⟨Nat.le_of_ble_eq_true rfl, Nat.le_of_ble_eq_true rfl⟩ ?_
  show vm_J _ _ _ (31, (0, 0), [.int f, .int t, .int i, .int n, .int ((64 * 0) + ((((sp_ch f 0) * (n - i)) + ((sp_ch t 0) * i)) / n)), .int 1, .int ((((sp_ch f 0) * (n - i)) + ((sp_ch t 0) * i)) / n)], [.int (sp_ch f 1)]) (G, I, F) _ _
  refine vm_J.go vm_q184 (k := 6) (hs := []) (f' := (38, (0, 0), [.int f, .int t, .int i, .int n, .int ((64 * 0) + ((((sp_ch f 0) * (n - i)) + ((sp_ch t 0) * i)) / n)), .int 1, .int ((((sp_ch f 0) * (n - i)) + ((sp_ch t 0) * i)) / n)], [.int 1, .int t, .int ((sp_ch f 1) * (n - i))])) (h' := (G, I, F)) (hs' := []) rfl rfl ?_
  refine vm_J.call vm_q184 (Z := vm_M170) (n := 2) (k := 1) (mi := 170) (pc := 38) (en := (38, .invokestatic 180, 3, [170, 1348, 0], .null)) rfl trivial rfl rfl vm_z170 (av := [.int t, .int 1]) (rest := [.int ((sp_ch f 1) * (n - i))]) (r_channelOf (c := t) (k := 1)) rfl (Nat.le_of_ble_eq_true rfl) ⟨Nat.le_of_ble_eq_true rfl, Nat.le_of_ble_eq_true rfl⟩ ⟨Nat.le_of_ble_eq_true rfl, Nat.le_of_ble_eq_true rfl⟩ ?_
  show vm_J _ _ _ (41, (0, 0), [.int f, .int t, .int i, .int n, .int ((64 * 0) + ((((sp_ch f 0) * (n - i)) + ((sp_ch t 0) * i)) / n)), .int 1, .int ((((sp_ch f 0) * (n - i)) + ((sp_ch t 0) * i)) / n)], [.int (sp_ch t 1), .int ((sp_ch f 1) * (n - i))]) (G, I, F) _ _
  refine vm_J.go vm_q184 (k := 17) (hs := []) (f' := (bif vm_ic .ge (1 + 1) 3 then 64 else 12, (0, 0), [.int f, .int t, .int i, .int n, .int ((64 * ((64 * 0) + ((((sp_ch f 0) * (n - i)) + ((sp_ch t 0) * i)) / n))) + ((((sp_ch f 1) * (n - i)) + ((sp_ch t 1) * i)) / n)), .int (1 + 1), .int ((((sp_ch f 1) * (n - i)) + ((sp_ch t 1) * i)) / n)], [])) (h' := (G, I, F)) (hs' := []) rfl (vm_b2 rfl (vm_b2 rfl (vm_b2 rfl (vm_b2 rfl (vm_b2 (decide_eq_true (by assumption)) (vm_b2 rfl (vm_b2 rfl (vm_b2 rfl (vm_b2 rfl (vm_b2 rfl (vm_b2 rfl (vm_b2 rfl (vm_b2 rfl (vm_b2 rfl (vm_b2 rfl (vm_b2 rfl (vm_b2 rfl rfl))))))))))))))))) ?_
  rw [(show (1 + 1 : Int32) = 2 from by decide)]
  refine vm_J.bF (by decide) ?_
  refine vm_J.go vm_q184 (k := 2) (hs := []) (f' := (bif vm_ic .ne n 0 then 25 else 16, (0, 0), [.int f, .int t, .int i, .int n, .int ((64 * ((64 * 0) + ((((sp_ch f 0) * (n - i)) + ((sp_ch t 0) * i)) / n))) + ((((sp_ch f 1) * (n - i)) + ((sp_ch t 1) * i)) / n)), .int 2, .int ((((sp_ch f 1) * (n - i)) + ((sp_ch t 1) * i)) / n)], [])) (h' := (G, I, F)) (hs' := []) rfl rfl ?_
  refine vm_J.bT (decide_eq_true hn) ?_
  refine vm_J.go vm_q184 (k := 2) (hs := []) (f' := (28, (0, 0), [.int f, .int t, .int i, .int n, .int ((64 * ((64 * 0) + ((((sp_ch f 0) * (n - i)) + ((sp_ch t 0) * i)) / n))) + ((((sp_ch f 1) * (n - i)) + ((sp_ch t 1) * i)) / n)), .int 2, .int ((((sp_ch f 1) * (n - i)) + ((sp_ch t 1) * i)) / n)], [.int 2, .int f])) (h' := (G, I, F)) (hs' := []) rfl rfl ?_
  refine vm_J.call vm_q184 (Z := vm_M170) (n := 2) (k := 1) (mi := 170) (pc := 28) (en := (28, .invokestatic 180, 3, [170, 1348, 0], .null)) rfl trivial rfl rfl vm_z170 (av := [.int f, .int 2]) (rest := []) (r_channelOf (c := f) (k := 2)) rfl (Nat.le_of_ble_eq_true rfl) ⟨Nat.le_of_ble_eq_true rfl, Nat.le_of_ble_eq_true rfl⟩ ⟨Nat.le_of_ble_eq_true rfl, Nat.le_of_ble_eq_true rfl⟩ ?_
  show vm_J _ _ _ (31, (0, 0), [.int f, .int t, .int i, .int n, .int ((64 * ((64 * 0) + ((((sp_ch f 0) * (n - i)) + ((sp_ch t 0) * i)) / n))) + ((((sp_ch f 1) * (n - i)) + ((sp_ch t 1) * i)) / n)), .int 2, .int ((((sp_ch f 1) * (n - i)) + ((sp_ch t 1) * i)) / n)], [.int (sp_ch f 2)]) (G, I, F) _ _
  refine vm_J.go vm_q184 (k := 6) (hs := []) (f' := (38, (0, 0), [.int f, .int t, .int i, .int n, .int ((64 * ((64 * 0) + ((((sp_ch f 0) * (n - i)) + ((sp_ch t 0) * i)) / n))) + ((((sp_ch f 1) * (n - i)) + ((sp_ch t 1) * i)) / n)), .int 2, .int ((((sp_ch f 1) * (n - i)) + ((sp_ch t 1) * i)) / n)], [.int 2, .int t, .int ((sp_ch f 2) * (n - i))])) (h' := (G, I, F)) (hs' := []) rfl rfl ?_
  refine vm_J.call vm_q184 (Z := vm_M170) (n := 2) (k := 1) (mi := 170) (pc := 38) (en := (38, .invokestatic 180, 3, [170, 1348, 0], .null)) rfl trivial rfl rfl vm_z170 (av := [.int t, .int 2]) (rest := [.int ((sp_ch f 2) * (n - i))]) (r_channelOf (c := t) (k := 2)) rfl (Nat.le_of_ble_eq_true rfl) ⟨Nat.le_of_ble_eq_true rfl, Nat.le_of_ble_eq_true rfl⟩ ⟨Nat.le_of_ble_eq_true rfl, Nat.le_of_ble_eq_true rfl⟩ ?_
  show vm_J _ _ _ (41, (0, 0), [.int f, .int t, .int i, .int n, .int ((64 * ((64 * 0) + ((((sp_ch f 0) * (n - i)) + ((sp_ch t 0) * i)) / n))) + ((((sp_ch f 1) * (n - i)) + ((sp_ch t 1) * i)) / n)), .int 2, .int ((((sp_ch f 1) * (n - i)) + ((sp_ch t 1) * i)) / n)], [.int (sp_ch t 2), .int ((sp_ch f 2) * (n - i))]) (G, I, F) _ _
  refine vm_J.go vm_q184 (k := 17) (hs := []) (f' := (bif vm_ic .ge (2 + 1) 3 then 64 else 12, (0, 0), [.int f, .int t, .int i, .int n, .int ((64 * ((64 * ((64 * 0) + ((((sp_ch f 0) * (n - i)) + ((sp_ch t 0) * i)) / n))) + ((((sp_ch f 1) * (n - i)) + ((sp_ch t 1) * i)) / n))) + ((((sp_ch f 2) * (n - i)) + ((sp_ch t 2) * i)) / n)), .int (2 + 1), .int ((((sp_ch f 2) * (n - i)) + ((sp_ch t 2) * i)) / n)], [])) (h' := (G, I, F)) (hs' := []) rfl (vm_b2 rfl (vm_b2 rfl (vm_b2 rfl (vm_b2 rfl (vm_b2 (decide_eq_true (by assumption)) (vm_b2 rfl (vm_b2 rfl (vm_b2 rfl (vm_b2 rfl (vm_b2 rfl (vm_b2 rfl (vm_b2 rfl (vm_b2 rfl (vm_b2 rfl (vm_b2 rfl (vm_b2 rfl (vm_b2 rfl rfl))))))))))))))))) ?_
  rw [(show (2 + 1 : Int32) = 3 from by decide)]
  refine vm_J.bT (by decide) ?_
  refine vm_J.go vm_q184 (k := 1) (hs := []) (f' := (66, (0, 0), [.int f, .int t, .int i, .int n, .int ((64 * ((64 * ((64 * 0) + ((((sp_ch f 0) * (n - i)) + ((sp_ch t 0) * i)) / n))) + ((((sp_ch f 1) * (n - i)) + ((sp_ch t 1) * i)) / n))) + ((((sp_ch f 2) * (n - i)) + ((sp_ch t 2) * i)) / n)), .int 3, .int ((((sp_ch f 2) * (n - i)) + ((sp_ch t 2) * i)) / n)], [.int ((64 * ((64 * ((64 * 0) + ((((sp_ch f 0) * (n - i)) + ((sp_ch t 0) * i)) / n))) + ((((sp_ch f 1) * (n - i)) + ((sp_ch t 1) * i)) / n))) + ((((sp_ch f 2) * (n - i)) + ((sp_ch t 2) * i)) / n))])) (h' := (G, I, F)) (hs' := []) rfl rfl ?_
  exact vm_J.end vm_q184 (en := (66, .ireturn, 1, [], .null)) rfl (by rw [vm_k4]; rfl) vm_rI (Nat.zero_le _) (Nat.zero_le _) rfl
/-- what pixel y of a shade is -/
def sp_se (f t : Int32) (w k : Nat) : Int32 := if w - 1 = 0 then sp_c3 f else sp_bt f t (nI (k % w)) (nI (w - 1))
theorem r_between_w {l : Launch} {X : vm_Cx} {G : List vm_Sh} {I : Nat → Nat → Int32} {F : Nat → Nat → UInt32} {f t : Int32} {w k : Nat} (hw0 : 0 < w) (hw2 : w ≤ 12) (hR : vm_isR G) : vm_K l X vm_M184 [.int f, .int t, .int (nI (k % w)), .int (nI (w - 1))] (G, I, F) (some (.int (sp_se f t w k))) (G, I, F) := by
  unfold sp_se
  by_cases h : w - 1 = 0
  · rw [if_pos h, h]
    exact r_between_0 hR
  · rw [if_neg h]
    exact r_between_n hR (vm_nz rfl (by omega) (by omega))
set_option maxHeartbeats 4000000 in
set_option maxRecDepth 20000 in
/-- DitherDeskModel.shade -/
theorem r_shade_b {l : Launch} {X : vm_Cx} {G : List vm_Sh} {I : Nat → Nat → Int32} {F : Nat → Nat → UInt32} {p : Nat} {w : Nat} {a : Int32} {b : Int32} (hR : vm_isR G) (hw : I 153 p = nI w) (hp : p < 4) (hw2 : w ≤ 12) (hw0 : 0 < w) (hc : ¬ ((0 ≤ a ∧ a ≤ 262143) ∧ 0 ≤ b ∧ b ≤ 262143)) : vm_K l X vm_M185 [.ref 152, .int (nI p), .int a, .int b] (G, I, F) (some (.int (-2))) (G, I, F) := by
  refine vm_K.mk (by decide) (Nat.le_of_ble_eq_true rfl) ?_
  show vm_J _ _ _ (0, (0, 0), [.ref 152, .int (nI p), .int a, .int b, .retAddr 0, .retAddr 0], []) _ _ _
  refine vm_J.go vm_q185 (k := 2) (hs := []) (f' := (2, (0, 0), [.ref 152, .int (nI p), .int a, .int b, .retAddr 0, .retAddr 0], [.int (nI p), .ref 152])) (h' := (G, I, F)) (hs' := []) rfl rfl ?_
  refine vm_J.call vm_q185 (Z := vm_M172) (n := 1) (k := 0) (mi := 172) (pc := 2) (en := (2, .invokevirtual 156, 3, [172, 1313, 0], .null)) rfl trivial rfl rfl vm_z172 (av := [.ref 152, .int (nI p)]) (rest := []) (r_isPic_y (p := p) (w := w) hR (by omega) hw (by omega) (by omega)) ⟨_, _, rfl, rfl, _, 11, _, hR.c152, rfl, rfl, rfl⟩ (Nat.le_of_ble_eq_true rfl) ⟨Nat.le_of_ble_eq_true rfl, Nat.le_of_ble_eq_true rfl⟩ ⟨Nat.le_of_ble_eq_true rfl, Nat.le_of_ble_eq_true rfl⟩ ?_
  show vm_J _ _ _ (5, (0, 0), [.ref 152, .int (nI p), .int a, .int b, .retAddr 0, .retAddr 0], [.int 1]) (G, I, F) _ _
  refine vm_J.go vm_q185 (k := 1) (hs := []) (f' := (bif vm_ic .ne 1 0 then 10 else 8, (0, 0), [.ref 152, .int (nI p), .int a, .int b, .retAddr 0, .retAddr 0], [])) (h' := (G, I, F)) (hs' := []) rfl rfl ?_
  refine vm_J.bT (by decide) ?_
  refine vm_J.go vm_q185 (k := 1) (hs := []) (f' := (11, (0, 0), [.ref 152, .int (nI p), .int a, .int b, .retAddr 0, .retAddr 0], [.int a])) (h' := (G, I, F)) (hs' := []) rfl rfl ?_
  refine vm_J.call vm_q185 (Z := vm_M169) (n := 1) (k := 1) (mi := 169) (pc := 11) (en := (11, .invokestatic 162, 3, [169, 1321, 0], .null)) rfl trivial rfl rfl vm_z169 (av := [.int a]) (rest := []) (r_isColour (c := a)) rfl (Nat.le_of_ble_eq_true rfl) ⟨Nat.le_of_ble_eq_true rfl, Nat.le_of_ble_eq_true rfl⟩ ⟨Nat.le_of_ble_eq_true rfl, Nat.le_of_ble_eq_true rfl⟩ ?_
  show vm_J _ _ _ (14, (0, 0), [.ref 152, .int (nI p), .int a, .int b, .retAddr 0, .retAddr 0], [.int (vm_bi (0 ≤ a ∧ a ≤ 262143))]) (G, I, F) _ _
  refine vm_J.go vm_q185 (k := 1) (hs := []) (f' := (bif vm_ic .eq (vm_bi (0 ≤ a ∧ a ≤ 262143)) 0 then 24 else 17, (0, 0), [.ref 152, .int (nI p), .int a, .int b, .retAddr 0, .retAddr 0], [])) (h' := (G, I, F)) (hs' := []) rfl rfl ?_
  refine vm_J.br (fun c1 => ?_) (fun c1 => ?_)
  · have c1 := vm_bi_eq_t c1
    refine vm_J.go vm_q185 (k := 1) (hs := []) (f' := (26, (0, 0), [.ref 152, .int (nI p), .int a, .int b, .retAddr 0, .retAddr 0], [.int (-2)])) (h' := (G, I, F)) (hs' := []) rfl rfl ?_
    exact vm_J.end vm_q185 (en := (26, .ireturn, 1, [], .null)) rfl rfl vm_rI (Nat.zero_le _) (Nat.zero_le _) rfl
  · have c1 := vm_bi_eq_f c1
    refine vm_J.go vm_q185 (k := 1) (hs := []) (f' := (18, (0, 0), [.ref 152, .int (nI p), .int a, .int b, .retAddr 0, .retAddr 0], [.int b])) (h' := (G, I, F)) (hs' := []) rfl rfl ?_
    refine vm_J.call vm_q185 (Z := vm_M169) (n := 1) (k := 1) (mi := 169) (pc := 18) (en := (18, .invokestatic 162, 3, [169, 1321, 0], .null)) rfl trivial rfl rfl vm_z169 (av := [.int b]) (rest := []) (r_isColour (c := b)) rfl (Nat.le_of_ble_eq_true rfl) ⟨Nat.le_of_ble_eq_true rfl, Nat.le_of_ble_eq_true rfl⟩ ⟨Nat.le_of_ble_eq_true rfl, Nat.le_of_ble_eq_true rfl⟩ ?_
    show vm_J _ _ _ (21, (0, 0), [.ref 152, .int (nI p), .int a, .int b, .retAddr 0, .retAddr 0], [.int (vm_bi (0 ≤ b ∧ b ≤ 262143))]) (G, I, F) _ _
    refine vm_J.go vm_q185 (k := 1) (hs := []) (f' := (bif vm_ic .ne (vm_bi (0 ≤ b ∧ b ≤ 262143)) 0 then 27 else 24, (0, 0), [.ref 152, .int (nI p), .int a, .int b, .retAddr 0, .retAddr 0], [])) (h' := (G, I, F)) (hs' := []) rfl rfl ?_
    refine vm_J.br (fun c2 => ?_) (fun c2 => ?_)
    · have c2 := vm_bi_ne_t c2
      exact absurd ⟨c1, c2⟩ hc
    · have c2 := vm_bi_ne_f c2
      refine vm_J.go vm_q185 (k := 1) (hs := []) (f' := (26, (0, 0), [.ref 152, .int (nI p), .int a, .int b, .retAddr 0, .retAddr 0], [.int (-2)])) (h' := (G, I, F)) (hs' := []) rfl rfl ?_
      exact vm_J.end vm_q185 (en := (26, .ireturn, 1, [], .null)) rfl rfl vm_rI (Nat.zero_le _) (Nat.zero_le _) rfl
set_option maxHeartbeats 4000000 in
set_option maxRecDepth 20000 in
/-- DitherDeskModel.shade -/
theorem r_shade_y {l : Launch} {X : vm_Cx} {G : List vm_Sh} {I : Nat → Nat → Int32} {F : Nat → Nat → UInt32} {p : Nat} {w : Nat} {h : Nat} {a : Int32} {b : Int32} (hR : vm_isR G) (hw : I 153 p = nI w) (hh : I 154 p = nI h) (hp : p < 4) (hw2 : w ≤ 12) (hh2 : h ≤ 12) (hw0 : 0 < w) (ha : 0 ≤ a ∧ a ≤ 262143) (hb : 0 ≤ b ∧ b ≤ 262143) : vm_K l X vm_M185 [.ref 152, .int (nI p), .int a, .int b] (G, I, F) (some (.int (nI (w * h)))) (G, (vm_wq I 155 (fun y => sp_se a b w (y - 144 * p)) (144 * p) (w * h)), F) := by
  refine vm_K.mk (by decide) (Nat.le_of_ble_eq_true rfl) ?_
  have hwh := vm_mul144 hw2 hh2
  show vm_J _ _ _ (0, (0, 0), [.ref 152, .int (nI p), .int a, .int b, .retAddr 0, .retAddr 0], []) _ _ _
  refine vm_J.go vm_q185 (k := 2) (hs := []) (f' := (2, (0, 0), [.ref 152, .int (nI p), .int a, .int b, .retAddr 0, .retAddr 0], [.int (nI p), .ref 152])) (h' := (G, I, F)) (hs' := []) rfl rfl ?_
  refine vm_J.call vm_q185 (Z := vm_M172) (n := 1) (k := 0) (mi := 172) (pc := 2) (en := (2, .invokevirtual 156, 3, [172, 1313, 0], .null)) rfl trivial rfl rfl vm_z172 (av := [.ref 152, .int (nI p)]) (rest := []) (r_isPic_y (p := p) (w := w) hR (by omega) hw (by omega) (by omega)) ⟨_, _, rfl, rfl, _, 11, _, hR.c152, rfl, rfl, rfl⟩ (Nat.le_of_ble_eq_true rfl) ⟨Nat.le_of_ble_eq_true rfl, Nat.le_of_ble_eq_true rfl⟩ ⟨Nat.le_of_ble_eq_true rfl, Nat.le_of_ble_eq_true rfl⟩ ?_
  show vm_J _ _ _ (5, (0, 0), [.ref 152, .int (nI p), .int a, .int b, .retAddr 0, .retAddr 0], [.int 1]) (G, I, F) _ _
  refine vm_J.go vm_q185 (k := 1) (hs := []) (f' := (bif vm_ic .ne 1 0 then 10 else 8, (0, 0), [.ref 152, .int (nI p), .int a, .int b, .retAddr 0, .retAddr 0], [])) (h' := (G, I, F)) (hs' := []) rfl rfl ?_
  refine vm_J.bT (by decide) ?_
  refine vm_J.go vm_q185 (k := 1) (hs := []) (f' := (11, (0, 0), [.ref 152, .int (nI p), .int a, .int b, .retAddr 0, .retAddr 0], [.int a])) (h' := (G, I, F)) (hs' := []) rfl rfl ?_
  refine vm_J.call vm_q185 (Z := vm_M169) (n := 1) (k := 1) (mi := 169) (pc := 11) (en := (11, .invokestatic 162, 3, [169, 1321, 0], .null)) rfl trivial rfl rfl vm_z169 (av := [.int a]) (rest := []) (r_isColour_y (c := a) ha) rfl (Nat.le_of_ble_eq_true rfl) ⟨Nat.le_of_ble_eq_true rfl, Nat.le_of_ble_eq_true rfl⟩ ⟨Nat.le_of_ble_eq_true rfl, Nat.le_of_ble_eq_true rfl⟩ ?_
  show vm_J _ _ _ (14, (0, 0), [.ref 152, .int (nI p), .int a, .int b, .retAddr 0, .retAddr 0], [.int 1]) (G, I, F) _ _
  refine vm_J.go vm_q185 (k := 1) (hs := []) (f' := (bif vm_ic .eq 1 0 then 24 else 17, (0, 0), [.ref 152, .int (nI p), .int a, .int b, .retAddr 0, .retAddr 0], [])) (h' := (G, I, F)) (hs' := []) rfl rfl ?_
  refine vm_J.bF (by decide) ?_
  refine vm_J.go vm_q185 (k := 1) (hs := []) (f' := (18, (0, 0), [.ref 152, .int (nI p), .int a, .int b, .retAddr 0, .retAddr 0], [.int b])) (h' := (G, I, F)) (hs' := []) rfl rfl ?_
  refine vm_J.call vm_q185 (Z := vm_M169) (n := 1) (k := 1) (mi := 169) (pc := 18) (en := (18, .invokestatic 162, 3, [169, 1321, 0], .null)) rfl trivial rfl rfl vm_z169 (av := [.int b]) (rest := []) (r_isColour_y (c := b) hb) rfl (Nat.le_of_ble_eq_true rfl) ⟨Nat.le_of_ble_eq_true rfl, Nat.le_of_ble_eq_true rfl⟩ ⟨Nat.le_of_ble_eq_true rfl, Nat.le_of_ble_eq_true rfl⟩ ?_
  show vm_J _ _ _ (21, (0, 0), [.ref 152, .int (nI p), .int a, .int b, .retAddr 0, .retAddr 0], [.int 1]) (G, I, F) _ _
  refine vm_J.go vm_q185 (k := 1) (hs := []) (f' := (bif vm_ic .ne 1 0 then 27 else 24, (0, 0), [.ref 152, .int (nI p), .int a, .int b, .retAddr 0, .retAddr 0], [])) (h' := (G, I, F)) (hs' := []) rfl rfl ?_
  refine vm_J.bT (by decide) ?_
  refine vm_J.go vm_q185 (k := 2) (hs := []) (f' := (29, (0, 0), [.ref 152, .int (nI p), .int a, .int b, .retAddr 0, .retAddr 0], [.int (nI p), .ref 152])) (h' := (G, I, F)) (hs' := []) rfl rfl ?_
  refine vm_J.call vm_q185 (Z := vm_M175) (n := 1) (k := 0) (mi := 175) (pc := 29) (en := (29, .invokevirtual 152, 3, [175, 1305, 0], .null)) rfl trivial rfl rfl vm_z175 (av := [.ref 152, .int (nI p)]) (rest := []) (r_pix (p := p) (w := w) (h := h) hR hw hh (by omega)) ⟨_, _, rfl, rfl, _, 11, _, hR.c152, rfl, rfl, rfl⟩ (Nat.le_of_ble_eq_true rfl) ⟨Nat.le_of_ble_eq_true rfl, Nat.le_of_ble_eq_true rfl⟩ ⟨Nat.le_of_ble_eq_true rfl, Nat.le_of_ble_eq_true rfl⟩ ?_
  show vm_J _ _ _ (32, (0, 0), [.ref 152, .int (nI p), .int a, .int b, .retAddr 0, .retAddr 0], [.int (nI (w * h))]) (G, I, F) _ _
  refine vm_J.go vm_q185 (k := 3) (hs := []) (f' := (37, (0, 0), [.ref 152, .int (nI p), .int a, .int b, .int (nI (w * h)), .int 0], [])) (h' := (G, I, F)) (hs' := []) rfl rfl ?_
  refine vm_J.cnt (w * h) (fun k => (37, (0, 0), [.ref 152, .int (nI p), .int a, .int b, .int (nI (w * h)), .int (nI k)], [])) (fun k => (G, (vm_wq I 155 (fun y => sp_se a b w (y - 144 * p)) (144 * p) k), F)) (fun _ => True) rfl (by rw [← vm_wq_0]) trivial (fun k hk pk ik => ?_) (fun pk => ?_)
  · show vm_J _ _ _ (37, (0, 0), [.ref 152, .int (nI p), .int a, .int b, .int (nI (w * h)), .int (nI k)], []) (G, (vm_wq I 155 (fun y => sp_se a b w (y - 144 * p)) (144 * p) k), F) _ _
    refine vm_J.go vm_q185 (k := 3) (hs := []) (f' := (bif vm_ic .ge (nI k) (nI (w * h)) then 85 else 44, (0, 0), [.ref 152, .int (nI p), .int a, .int b, .int (nI (w * h)), .int (nI k)], [])) (h' := (G, (vm_wq I 155 (fun y => sp_se a b w (y - 144 * p)) (144 * p) k), F)) (hs' := []) rfl rfl ?_
    refine vm_J.br (fun c1 => ?_) (fun c1 => ?_)
    · have c1 := vm_ge_t (a := k) (b := w * h) (by omega) (by omega) c1
      exact (show False by omega).elim
    · have c1 := vm_ge_f (a := k) (b := w * h) (by omega) (by omega) c1
      refine vm_J.go vm_q185 (k := 14) (hs := [vm_shR, vm_shR, (0, 4, [])]) (f' := (66, (0, 0), [.ref 152, .int (nI p), .int a, .int b, .int (nI (w * h)), .int (nI k)], [.int ((vm_wq I 155 (fun y => sp_se a b w (y - 144 * p)) (144 * p) k) 153 (nI p).toNatClampNeg), .int (nI k), .int b, .int a, .int ((144 * (nI p)) + (nI k)), .ref 155])) (h' := (G, (vm_wq I 155 (fun y => sp_se a b w (y - 144 * p)) (144 * p) k), F)) (hs' := []) rfl (vm_b2 rfl (vm_b2 (vm_b2 (vm_hG hR.c152) rfl) (vm_b2 rfl (vm_b2 rfl (vm_b2 rfl (vm_b2 rfl (vm_b2 rfl (vm_b2 rfl (vm_b2 rfl (vm_b2 rfl (vm_b2 rfl (vm_b2 (vm_b2 (vm_hG hR.c152) rfl) (vm_b2 rfl (vm_b2 (vm_b2 (vm_hG hR.c153) (vm_in_e (j := p) (n := 4) rfl (by omega) (by omega))) rfl)))))))))))))) ?_
      rw [vm_ix_e (j := p) rfl (by omega), ((vm_pa (vm_pm (rfl : (144 : Int32) = nI 144) (rfl : (nI p : Int32) = nI p)) (rfl : (nI k : Int32) = nI k)) : (144 * (nI p)) + (nI k) = nI ((144 * p) + k))]
      rw [((Eq.trans (congrFun (vm_wq_o _ 155 (144 * p) k 153 _ (by decide)) p) hw) : (vm_wq I 155 (fun y => sp_se a b w (y - 144 * p)) (144 * p) k) 153 p = nI w)]
      refine vm_J.go vm_q185 (k := 5) (hs := [vm_shR, (0, 4, [])]) (f' := (73, (0, 0), [.ref 152, .int (nI p), .int a, .int b, .int (nI (w * h)), .int (nI k)], [.int ((vm_wq I 155 (fun y => sp_se a b w (y - 144 * p)) (144 * p) k) 153 (nI p).toNatClampNeg), .int ((nI k) - (nI k) / (nI w) * (nI w)), .int b, .int a, .int (nI ((144 * p) + k)), .ref 155])) (h' := (G, (vm_wq I 155 (fun y => sp_se a b w (y - 144 * p)) (144 * p) k), F)) (hs' := []) rfl (vm_b2 (decide_eq_true (vm_nz (rfl : nI w = nI w) (by omega) (by omega))) (vm_b2 rfl (vm_b2 (vm_b2 (vm_hG hR.c152) rfl) (vm_b2 rfl (vm_b2 (vm_b2 (vm_hG hR.c153) (vm_in_e (j := p) (n := 4) rfl (by omega) (by omega))) rfl))))) ?_
      rw [vm_ix_e (j := p) rfl (by omega), ((vm_pr (rfl : (nI k : Int32) = nI k) (rfl : (nI w : Int32) = nI w) (by omega) (by omega) (by omega)) : (nI k) - (nI k) / (nI w) * (nI w) = nI (k % w))]
      rw [((Eq.trans (congrFun (vm_wq_o _ 155 (144 * p) k 153 _ (by decide)) p) hw) : (vm_wq I 155 (fun y => sp_se a b w (y - 144 * p)) (144 * p) k) 153 p = nI w)]
      refine vm_J.go vm_q185 (k := 2) (hs := []) (f' := (75, (0, 0), [.ref 152, .int (nI p), .int a, .int b, .int (nI (w * h)), .int (nI k)], [.int ((nI w) - 1), .int (nI (k % w)), .int b, .int a, .int (nI ((144 * p) + k)), .ref 155])) (h' := (G, (vm_wq I 155 (fun y => sp_se a b w (y - 144 * p)) (144 * p) k), F)) (hs' := []) rfl rfl ?_
      rw [((vm_ps (rfl : (nI w : Int32) = nI w) (rfl : (1 : Int32) = nI 1) (by omega)) : (nI w) - 1 = nI (w - 1))]
      refine vm_J.call vm_q185 (Z := vm_M184) (n := 4) (k := 1) (mi := 184) (pc := 75) (en := (75, .invokestatic 184, 3, [184, 1345, 0], .null)) rfl trivial rfl rfl vm_z184 (av := [.int a, .int b, .int (nI (k % w)), .int (nI (w - 1))]) (rest := [.int (nI ((144 * p) + k)), .ref 155]) (r_between_w (f := a) (t := b) (w := w) (k := k) hw0 hw2 hR) rfl (Nat.le_of_ble_eq_true rfl) ⟨Nat.le_of_ble_eq_true rfl, Nat.le_of_ble_eq_true rfl⟩ ⟨Nat.le_of_ble_eq_true rfl, Nat.le_of_ble_eq_true rfl⟩ ?_
      show vm_J _ _ _ (78, (0, 0), [.ref 152, .int (nI p), .int a, .int b, .int (nI (w * h)), .int (nI k)], [.int (sp_se a b w k), .int (nI ((144 * p) + k)), .ref 155]) (G, (vm_wq I 155 (fun y => sp_se a b w (y - 144 * p)) (144 * p) k), F) _ _
      refine vm_J.go vm_q185 (k := 3) (hs := [(0, 576, [])]) (f' := (37, (0, 0), [.ref 152, .int (nI p), .int a, .int b, .int (nI (w * h)), .int ((nI k) + 1)], [])) (h' := (G, (vm_up (vm_wq I 155 (fun y => sp_se a b w (y - 144 * p)) (144 * p) k) 155 ((nI ((144 * p) + k)).toNatClampNeg) (sp_se a b w k)), F)) (hs' := []) rfl (vm_b2 (vm_b2 (vm_hG hR.c155) (vm_in_e (j := (144 * p) + k) (n := 576) rfl (by omega) (by omega))) (vm_b2 rfl (vm_b2 rfl rfl))) ?_
      rw [vm_ix_e (j := (144 * p) + k) rfl (by omega), ((vm_pa (rfl : nI k = nI k) (rfl : (1 : Int32) = nI 1)) : (nI k) + 1 = nI (k + 1))]
      have z := ik trivial
      rw [← vm_wq_s] at z
      rw [Nat.add_sub_cancel_left] at z
      exact z
  · show vm_J _ _ _ (37, (0, 0), [.ref 152, .int (nI p), .int a, .int b, .int (nI (w * h)), .int (nI (w * h))], []) (G, (vm_wq I 155 (fun y => sp_se a b w (y - 144 * p)) (144 * p) (w * h)), F) _ _
    refine vm_J.go vm_q185 (k := 3) (hs := []) (f' := (bif vm_ic .ge (nI (w * h)) (nI (w * h)) then 85 else 44, (0, 0), [.ref 152, .int (nI p), .int a, .int b, .int (nI (w * h)), .int (nI (w * h))], [])) (h' := (G, (vm_wq I 155 (fun y => sp_se a b w (y - 144 * p)) (144 * p) (w * h)), F)) (hs' := []) rfl rfl ?_
    refine vm_J.br (fun c2 => ?_) (fun c2 => ?_)
    · have c2 := vm_ge_t (a := (w * h)) (b := w * h) (by omega) (by omega) c2
      refine vm_J.go vm_q185 (k := 1) (hs := []) (f' := (87, (0, 0), [.ref 152, .int (nI p), .int a, .int b, .int (nI (w * h)), .int (nI (w * h))], [.int (nI (w * h))])) (h' := (G, (vm_wq I 155 (fun y => sp_se a b w (y - 144 * p)) (144 * p) (w * h)), F)) (hs' := []) rfl rfl ?_
      exact vm_J.end vm_q185 (en := (87, .ireturn, 1, [], .null)) rfl rfl vm_rI (Nat.zero_le _) (Nat.zero_le _) rfl
    · have c2 := vm_ge_f (a := (w * h)) (b := w * h) (by omega) (by omega) c2
      exact (show False by omega).elim
