/-- the class's cells -/
def vm_isD (G : List vm_Sh) : Prop := (G[0]? = some (12, 9, [.ref 1, .ref 38, .ref 75, .ref 112, .ref 132, .ref 135, .ref 139, .int 0, .int 0])) ∧ (vm_isW G 1) ∧ (vm_isW G 38) ∧ (vm_isW G 75) ∧ (vm_isC G 112) ∧ (G[132]? = some (7, 2, [.ref 133, .ref 134])) ∧ (G[133]? = some (0, 48, [])) ∧ (G[134]? = some (0, 16, [])) ∧ (G[135]? = some (6, 6, [.ref 136, .int 0, .int 0, .ref 137, .ref 138, .int 0])) ∧ (G[136]? = some (0, 100, [])) ∧ (G[137]? = some (0, 96, [])) ∧ (G[138]? = some (0, 96, [])) ∧ (vm_isT G 139)
theorem vm_isD.d {G : List vm_Sh} (h : vm_isD G) : G[0]? = some (12, 9, [.ref 1, .ref 38, .ref 75, .ref 112, .ref 132, .ref 135, .ref 139, .int 0, .int 0]) := h.1
theorem vm_isD.w1 {G : List vm_Sh} (h : vm_isD G) : vm_isW G 1 := h.2.1
theorem vm_isD.w2 {G : List vm_Sh} (h : vm_isD G) : vm_isW G 38 := h.2.2.1
theorem vm_isD.w3 {G : List vm_Sh} (h : vm_isD G) : vm_isW G 75 := h.2.2.2.1
theorem vm_isD.c {G : List vm_Sh} (h : vm_isD G) : vm_isC G 112 := h.2.2.2.2.1
theorem vm_isD.rf {G : List vm_Sh} (h : vm_isD G) : G[132]? = some (7, 2, [.ref 133, .ref 134]) := h.2.2.2.2.2.1
theorem vm_isD.rs {G : List vm_Sh} (h : vm_isD G) : G[133]? = some (0, 48, []) := h.2.2.2.2.2.2.1
theorem vm_isD.rp {G : List vm_Sh} (h : vm_isD G) : G[134]? = some (0, 16, []) := h.2.2.2.2.2.2.2.1
theorem vm_isD.rd {G : List vm_Sh} (h : vm_isD G) : G[135]? = some (6, 6, [.ref 136, .int 0, .int 0, .ref 137, .ref 138, .int 0]) := h.2.2.2.2.2.2.2.2.1
theorem vm_isD.ra {G : List vm_Sh} (h : vm_isD G) : G[136]? = some (0, 100, []) := h.2.2.2.2.2.2.2.2.2.1
theorem vm_isD.rb {G : List vm_Sh} (h : vm_isD G) : G[137]? = some (0, 96, []) := h.2.2.2.2.2.2.2.2.2.2.1
theorem vm_isD.rc {G : List vm_Sh} (h : vm_isD G) : G[138]? = some (0, 96, []) := h.2.2.2.2.2.2.2.2.2.2.2.1
theorem vm_isD.t {G : List vm_Sh} (h : vm_isD G) : vm_isT G 139 := h.2.2.2.2.2.2.2.2.2.2.2.2
theorem vm_nx {q a b : Int32} (h : ¬ (a ≤ q ∧ q ≤ b)) : q < a ∨ b < q := by
  rw [Int32.lt_iff_toInt_lt, Int32.lt_iff_toInt_lt]
  rw [Int32.le_iff_toInt_le, Int32.le_iff_toInt_le] at h
  omega
theorem m_isWithin_y {l : Launch} {X : vm_Cx} {G : List vm_Sh} {I : Nat → Nat → Int32} {F : Nat → Nat → UInt32} {v a b : Int32} (h : (a ≤ v ∧ v ≤ b)) : vm_K l X vm_M151 [.int v, .int a, .int b] (G, I, F) (some (.int 1)) (G, I, F) := by
  have q := m_isWithin (l := l) (X := X) (G := G) (I := I) (F := F) (v := v) (a := a) (b := b)
  rw [vm_bi_t h] at q
  exact q
theorem m_isWithin_n {l : Launch} {X : vm_Cx} {G : List vm_Sh} {I : Nat → Nat → Int32} {F : Nat → Nat → UInt32} {v a b : Int32} (h : ¬ (a ≤ v ∧ v ≤ b)) : vm_K l X vm_M151 [.int v, .int a, .int b] (G, I, F) (some (.int 0)) (G, I, F) := by
  have q := m_isWithin (l := l) (X := X) (G := G) (I := I) (F := F) (v := v) (a := a) (b := b)
  rw [vm_bi_f h] at q
  exact q
theorem m_isColour_y {l : Launch} {X : vm_Cx} {G : List vm_Sh} {I : Nat → Nat → Int32} {F : Nat → Nat → UInt32} {c : Int32} (h : (0 ≤ c ∧ c ≤ 262143)) : vm_K l X vm_M163 [.int c] (G, I, F) (some (.int 1)) (G, I, F) := by
  have q := m_isColour (l := l) (X := X) (G := G) (I := I) (F := F) (c := c)
  rw [vm_bi_t h] at q
  exact q
theorem m_isColour_n {l : Launch} {X : vm_Cx} {G : List vm_Sh} {I : Nat → Nat → Int32} {F : Nat → Nat → UInt32} {c : Int32} (h : ¬ (0 ≤ c ∧ c ≤ 262143)) : vm_K l X vm_M163 [.int c] (G, I, F) (some (.int 0)) (G, I, F) := by
  have q := m_isColour (l := l) (X := X) (G := G) (I := I) (F := F) (c := c)
  rw [vm_bi_f h] at q
  exact q
set_option maxHeartbeats 4000000 in
set_option maxRecDepth 20000 in
/-- DitherDesk.picture -/
theorem c_picture_x {l : Launch} {X : vm_Cx} {G : List vm_Sh} {I : Nat → Nat → Int32} {F : Nat → Nat → UInt32} {q : Int32} {a : Int32} {b : Int32} (hD : vm_isD G) (hx : ¬ (0 ≤ q ∧ q ≤ 3)) : vm_K l X vm_M99 [.ref 0, .int q, .int a, .int b] (G, I, F) (some (.int (-1))) (G, I, F) := by
  refine vm_K.mk (by decide) (Nat.le_of_ble_eq_true rfl) ?_
  show vm_J _ _ _ (0, (0, 0), [.ref 0, .int q, .int a, .int b, .retAddr 0], []) _ _ _
  refine vm_J.go vm_q99 (k := 3) (hs := [(12, 9, [.ref 1, .ref 38, .ref 75, .ref 112, .ref 132, .ref 135, .ref 139, .int 0, .int 0])]) (f' := (5, (0, 0), [.ref 0, .int q, .int a, .int b, .retAddr 0], [.int q, .ref 1])) (h' := (G, I, F)) (hs' := []) rfl (vm_b2 rfl (vm_b2 (vm_b2 (vm_hG hD.d) rfl) (vm_b2 rfl rfl))) ?_
  refine vm_J.call vm_q99 (Z := vm_M91) (n := 1) (k := 0) (mi := 91) (pc := 5) (en := (5, .invokevirtual 52, 3, [91, 416, 0], .null)) rfl trivial rfl rfl vm_z91 (av := [.ref 1, .int q]) (rest := []) (m_frame_x (B := 1) (p := q) hD.w1 (vm_nx hx)) ⟨_, _, rfl, rfl, _, 9, _, hD.w1.w, rfl, rfl, rfl⟩ (Nat.le_of_ble_eq_true rfl) ⟨Nat.le_of_ble_eq_true rfl, Nat.le_of_ble_eq_true rfl⟩ ⟨Nat.le_of_ble_eq_true rfl, Nat.le_of_ble_eq_true rfl⟩ ?_
  show vm_J _ _ _ (8, (0, 0), [.ref 0, .int q, .int a, .int b, .retAddr 0], [.null]) (G, I, F) _ _
  refine vm_J.go vm_q99 (k := 4) (hs := []) (f' := (16, (0, 0), [.ref 0, .int q, .int a, .int b, .null], [.int (-1)])) (h' := (G, I, F)) (hs' := []) rfl rfl ?_
  exact vm_J.end vm_q99 (en := (16, .ireturn, 1, [], .null)) rfl rfl vm_rI (Nat.zero_le _) (Nat.zero_le _) rfl
set_option maxHeartbeats 4000000 in
set_option maxRecDepth 20000 in
/-- DitherDesk.picture -/
theorem c_picture_b1 {l : Launch} {X : vm_Cx} {G : List vm_Sh} {I : Nat → Nat → Int32} {F : Nat → Nat → UInt32} {p : Nat} {a : Int32} {b : Int32} (hD : vm_isD G) (hp : p < 4) (h1 : ¬ (0 ≤ a ∧ a ≤ 12)) : vm_K l X vm_M99 [.ref 0, .int (nI p), .int a, .int b] (G, I, F) (some (.int (-2))) (G, I, F) := by
  refine vm_K.mk (by decide) (Nat.le_of_ble_eq_true rfl) ?_
  show vm_J _ _ _ (0, (0, 0), [.ref 0, .int (nI p), .int a, .int b, .retAddr 0], []) _ _ _
  refine vm_J.go vm_q99 (k := 3) (hs := [(12, 9, [.ref 1, .ref 38, .ref 75, .ref 112, .ref 132, .ref 135, .ref 139, .int 0, .int 0])]) (f' := (5, (0, 0), [.ref 0, .int (nI p), .int a, .int b, .retAddr 0], [.int (nI p), .ref 1])) (h' := (G, I, F)) (hs' := []) rfl (vm_b2 rfl (vm_b2 (vm_b2 (vm_hG hD.d) rfl) (vm_b2 rfl rfl))) ?_
  refine vm_J.call vm_q99 (Z := vm_M91) (n := 1) (k := 0) (mi := 91) (pc := 5) (en := (5, .invokevirtual 52, 3, [91, 416, 0], .null)) rfl trivial rfl rfl vm_z91 (av := [.ref 1, .int (nI p)]) (rest := []) (m_frame_n (B := 1) (p := p) hD.w1 (by omega)) ⟨_, _, rfl, rfl, _, 9, _, hD.w1.w, rfl, rfl, rfl⟩ (Nat.le_of_ble_eq_true rfl) ⟨Nat.le_of_ble_eq_true rfl, Nat.le_of_ble_eq_true rfl⟩ ⟨Nat.le_of_ble_eq_true rfl, Nat.le_of_ble_eq_true rfl⟩ ?_
  show vm_J _ _ _ (8, (0, 0), [.ref 0, .int (nI p), .int a, .int b, .retAddr 0], [.ref (1 + 17 + 2 * p)]) (G, I, F) _ _
  refine vm_J.go vm_q99 (k := 6) (hs := []) (f' := (21, (0, 0), [.ref 0, .int (nI p), .int a, .int b, .ref (1 + 17 + 2 * p)], [.int 12, .int 0, .int a])) (h' := (G, I, F)) (hs' := []) rfl rfl ?_
  refine vm_J.call vm_q99 (Z := vm_M151) (n := 3) (k := 1) (mi := 151) (pc := 21) (en := (21, .invokestatic 56, 3, [151, 420, 0], .null)) rfl trivial rfl rfl vm_z151 (av := [.int a, .int 0, .int 12]) (rest := []) (m_isWithin_n (v := a) (a := 0) (b := 12) h1) rfl (Nat.le_of_ble_eq_true rfl) ⟨Nat.le_of_ble_eq_true rfl, Nat.le_of_ble_eq_true rfl⟩ ⟨Nat.le_of_ble_eq_true rfl, Nat.le_of_ble_eq_true rfl⟩ ?_
  show vm_J _ _ _ (24, (0, 0), [.ref 0, .int (nI p), .int a, .int b, .ref (1 + 17 + 2 * p)], [.int 0]) (G, I, F) _ _
  refine vm_J.go vm_q99 (k := 1) (hs := []) (f' := (bif vm_ic .eq 0 0 then 41 else 27, (0, 0), [.ref 0, .int (nI p), .int a, .int b, .ref (1 + 17 + 2 * p)], [])) (h' := (G, I, F)) (hs' := []) rfl rfl ?_
  refine vm_J.bT (by decide) ?_
  refine vm_J.go vm_q99 (k := 1) (hs := []) (f' := (43, (0, 0), [.ref 0, .int (nI p), .int a, .int b, .ref (1 + 17 + 2 * p)], [.int (-2)])) (h' := (G, I, F)) (hs' := []) rfl rfl ?_
  exact vm_J.end vm_q99 (en := (43, .ireturn, 1, [], .null)) rfl rfl vm_rI (Nat.zero_le _) (Nat.zero_le _) rfl
