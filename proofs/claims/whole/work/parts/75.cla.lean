theorem m_Pic_holds_y {l : Launch} {X : vm_Cx} {G : List vm_Sh} {I : Nat → Nat → Int32} {F : Nat → Nat → UInt32} {o a : Nat} {x y : Int32} (ho : G[o]? = some (5, 3, [.int 0, .int 0, .ref a])) (hP : ((0 ≤ x ∧ x ≤ I o 0 - 1) ∧ 0 ≤ y ∧ y ≤ I o 1 - 1)) : vm_K l X vm_M37 [.ref o, .int x, .int y] (G, I, F) (some (.int 1)) (G, I, F) := by
  have q := m_Pic_holds (l := l) (X := X) (G := G) (I := I) (F := F) (o := o) (a := a) (x := x) (y := y) ho
  rw [vm_bi_t hP] at q
  exact q
theorem m_Pic_holds_n {l : Launch} {X : vm_Cx} {G : List vm_Sh} {I : Nat → Nat → Int32} {F : Nat → Nat → UInt32} {o a : Nat} {x y : Int32} (ho : G[o]? = some (5, 3, [.int 0, .int 0, .ref a])) (hP : ¬ ((0 ≤ x ∧ x ≤ I o 0 - 1) ∧ 0 ≤ y ∧ y ≤ I o 1 - 1)) : vm_K l X vm_M37 [.ref o, .int x, .int y] (G, I, F) (some (.int 0)) (G, I, F) := by
  have q := m_Pic_holds (l := l) (X := X) (G := G) (I := I) (F := F) (o := o) (a := a) (x := x) (y := y) ho
  rw [vm_bi_f hP] at q
  exact q
theorem m_Pal_has_y {l : Launch} {X : vm_Cx} {G : List vm_Sh} {I : Nat → Nat → Int32} {F : Nat → Nat → UInt32} {o a b : Nat} {e : Int32} (ho : G[o]? = some (4, 3, [.int 0, .ref a, .ref b])) (hP : (0 ≤ e ∧ e ≤ I o 0 - 1)) : vm_K l X vm_M21 [.ref o, .int e] (G, I, F) (some (.int 1)) (G, I, F) := by
  have q := m_Pal_has (l := l) (X := X) (G := G) (I := I) (F := F) (o := o) (a := a) (b := b) (e := e) ho
  rw [vm_bi_t hP] at q
  exact q
theorem m_Pal_has_n {l : Launch} {X : vm_Cx} {G : List vm_Sh} {I : Nat → Nat → Int32} {F : Nat → Nat → UInt32} {o a b : Nat} {e : Int32} (ho : G[o]? = some (4, 3, [.int 0, .ref a, .ref b])) (hP : ¬ (0 ≤ e ∧ e ≤ I o 0 - 1)) : vm_K l X vm_M21 [.ref o, .int e] (G, I, F) (some (.int 0)) (G, I, F) := by
  have q := m_Pal_has (l := l) (X := X) (G := G) (I := I) (F := F) (o := o) (a := a) (b := b) (e := e) ho
  rw [vm_bi_f hP] at q
  exact q
theorem m_Pal_isFull_y {l : Launch} {X : vm_Cx} {G : List vm_Sh} {I : Nat → Nat → Int32} {F : Nat → Nat → UInt32} {o a b : Nat} (ho : G[o]? = some (4, 3, [.int 0, .ref a, .ref b])) (hP : (16 ≤ I o 0)) : vm_K l X vm_M22 [.ref o] (G, I, F) (some (.int 1)) (G, I, F) := by
  have q := m_Pal_isFull (l := l) (X := X) (G := G) (I := I) (F := F) (o := o) (a := a) (b := b) ho
  rw [vm_bi_t hP] at q
  exact q
theorem m_Pal_isFull_n {l : Launch} {X : vm_Cx} {G : List vm_Sh} {I : Nat → Nat → Int32} {F : Nat → Nat → UInt32} {o a b : Nat} (ho : G[o]? = some (4, 3, [.int 0, .ref a, .ref b])) (hP : ¬ (16 ≤ I o 0)) : vm_K l X vm_M22 [.ref o] (G, I, F) (some (.int 0)) (G, I, F) := by
  have q := m_Pal_isFull (l := l) (X := X) (G := G) (I := I) (F := F) (o := o) (a := a) (b := b) ho
  rw [vm_bi_f hP] at q
  exact q
theorem m_Pal_isLocked_y {l : Launch} {X : vm_Cx} {G : List vm_Sh} {I : Nat → Nat → Int32} {F : Nat → Nat → UInt32} {o a b j : Nat} (ho : G[o]? = some (4, 3, [.int 0, .ref a, .ref b])) (hb : G[b]? = some (0, 16, [])) (hj : j < 16) (hP : (I b j = 1)) : vm_K l X vm_M24 [.ref o, .int (nI j)] (G, I, F) (some (.int 1)) (G, I, F) := by
  have q := m_Pal_isLocked (l := l) (X := X) (G := G) (I := I) (F := F) (o := o) (a := a) (b := b) (j := j) ho hb hj
  rw [vm_bi_t hP] at q
  exact q
theorem m_Pal_isLocked_n {l : Launch} {X : vm_Cx} {G : List vm_Sh} {I : Nat → Nat → Int32} {F : Nat → Nat → UInt32} {o a b j : Nat} (ho : G[o]? = some (4, 3, [.int 0, .ref a, .ref b])) (hb : G[b]? = some (0, 16, [])) (hj : j < 16) (hP : ¬ (I b j = 1)) : vm_K l X vm_M24 [.ref o, .int (nI j)] (G, I, F) (some (.int 0)) (G, I, F) := by
  have q := m_Pal_isLocked (l := l) (X := X) (G := G) (I := I) (F := F) (o := o) (a := a) (b := b) (j := j) ho hb hj
  rw [vm_bi_f hP] at q
  exact q
theorem m_isMade_y {l : Launch} {X : vm_Cx} {G : List vm_Sh} {I : Nat → Nat → Int32} {F : Nat → Nat → UInt32} {o a b c d e f : Nat} (ho : G[o]? = some (8, 9, [.int 0, .int 0, .int 0, .ref a, .ref b, .ref c, .ref d, .ref e, .ref f])) (hP : (¬ I o 0 = -1)) : vm_K l X vm_M61 [.ref o] (G, I, F) (some (.int 1)) (G, I, F) := by
  have q := m_isMade (l := l) (X := X) (G := G) (I := I) (F := F) (o := o) (a := a) (b := b) (c := c) (d := d) (e := e) (f := f) ho
  rw [vm_bi_t hP] at q
  exact q
theorem m_isMade_n {l : Launch} {X : vm_Cx} {G : List vm_Sh} {I : Nat → Nat → Int32} {F : Nat → Nat → UInt32} {o a b c d e f : Nat} (ho : G[o]? = some (8, 9, [.int 0, .int 0, .int 0, .ref a, .ref b, .ref c, .ref d, .ref e, .ref f])) (hP : ¬ (¬ I o 0 = -1)) : vm_K l X vm_M61 [.ref o] (G, I, F) (some (.int 0)) (G, I, F) := by
  have q := m_isMade (l := l) (X := X) (G := G) (I := I) (F := F) (o := o) (a := a) (b := b) (c := c) (d := d) (e := e) (f := f) ho
  rw [vm_bi_f hP] at q
  exact q
theorem m_lacksWork_y {l : Launch} {X : vm_Cx} {G : List vm_Sh} {I : Nat → Nat → Int32} {F : Nat → Nat → UInt32} {o n v t cu rf rd tp : Nat} {k : Int32} (ho : G[o]? = some (12, 9, [.ref n, .ref v, .ref t, .ref cu, .ref rf, .ref rd, .ref tp, .int 0, .int 0])) (hP : (6000 < I o 8 + k)) : vm_K l X vm_M146 [.ref o, .int k] (G, I, F) (some (.int 1)) (G, I, F) := by
  have q := m_lacksWork (l := l) (X := X) (G := G) (I := I) (F := F) (o := o) (n := n) (v := v) (t := t) (cu := cu) (rf := rf) (rd := rd) (tp := tp) (k := k) ho
  rw [vm_bi_t hP] at q
  exact q
theorem m_lacksWork_n {l : Launch} {X : vm_Cx} {G : List vm_Sh} {I : Nat → Nat → Int32} {F : Nat → Nat → UInt32} {o n v t cu rf rd tp : Nat} {k : Int32} (ho : G[o]? = some (12, 9, [.ref n, .ref v, .ref t, .ref cu, .ref rf, .ref rd, .ref tp, .int 0, .int 0])) (hP : ¬ (6000 < I o 8 + k)) : vm_K l X vm_M146 [.ref o, .int k] (G, I, F) (some (.int 0)) (G, I, F) := by
  have q := m_lacksWork (l := l) (X := X) (G := G) (I := I) (F := F) (o := o) (n := n) (v := v) (t := t) (cu := cu) (rf := rf) (rd := rd) (tp := tp) (k := k) ho
  rw [vm_bi_f hP] at q
  exact q
theorem m_Tab_isFull_y {l : Launch} {X : vm_Cx} {G : List vm_Sh} {I : Nat → Nat → Int32} {F : Nat → Nat → UInt32} {o a : Nat} (ho : G[o]? = some (9, 3, [.int 0, .ref a, .int 0])) (hP : (I o 0 ≤ I o 2)) : vm_K l X vm_M82 [.ref o] (G, I, F) (some (.int 1)) (G, I, F) := by
  have q := m_Tab_isFull (l := l) (X := X) (G := G) (I := I) (F := F) (o := o) (a := a) ho
  rw [vm_bi_t hP] at q
  exact q
theorem m_Tab_isFull_n {l : Launch} {X : vm_Cx} {G : List vm_Sh} {I : Nat → Nat → Int32} {F : Nat → Nat → UInt32} {o a : Nat} (ho : G[o]? = some (9, 3, [.int 0, .ref a, .int 0])) (hP : ¬ (I o 0 ≤ I o 2)) : vm_K l X vm_M82 [.ref o] (G, I, F) (some (.int 0)) (G, I, F) := by
  have q := m_Tab_isFull (l := l) (X := X) (G := G) (I := I) (F := F) (o := o) (a := a) ho
  rw [vm_bi_f hP] at q
  exact q
theorem vm_pv {x : Int32} {w : Nat} (h : x = nI w) (h0 : 0 < w) (h2 : w ≤ 12) : 0 < x := by
  rw [h]
  exact (vm_lt_i (a := 0) (b := w) (by decide) (by omega)).mpr h0
theorem vm_pz {x : Int32} {w : Nat} (h : x = nI w) (h0 : w = 0) : ¬ 0 < x := by
  rw [h, h0]
  decide
theorem m_ew_n {l : Launch} {X : vm_Cx} {G : List vm_Sh} {I : Nat → Nat → Int32} {F : Nat → Nat → UInt32} {o a b n : Nat} {c : Int32} (ho : G[o]? = some (4, 3, [.int 0, .ref a, .ref b])) (ha : G[a]? = some (0, 16, [])) (hn : I o 0 = nI n) (hn2 : n ≤ 16) (hb : ∀ k, k < n → ¬ I a k = c) : vm_K l X vm_M25 [.ref o, .int c] (G, I, F) (some (.int (-1))) (G, I, F) := by
  have q := m_Pal_entryWith (l := l) (X := X) (F := F) (c := c) ho ha hn hn2
  rw [sp_ew_none hb] at q
  exact q
theorem m_ew_y {l : Launch} {X : vm_Cx} {G : List vm_Sh} {I : Nat → Nat → Int32} {F : Nat → Nat → UInt32} {o a b n j : Nat} {c : Int32} (ho : G[o]? = some (4, 3, [.int 0, .ref a, .ref b])) (ha : G[a]? = some (0, 16, [])) (hn : I o 0 = nI n) (hn2 : n ≤ 16) (hj : j < n) (hb : ∀ k, k < j → ¬ I a k = c) (hc : I a j = c) : vm_K l X vm_M25 [.ref o, .int c] (G, I, F) (some (.int (nI j))) (G, I, F) := by
  have q := m_Pal_entryWith (l := l) (X := X) (F := F) (c := c) ho ha hn hn2
  rw [sp_ew_hit hj hb hc] at q
  exact q
theorem m_lowest_0 {l : Launch} {X : vm_Cx} {G : List vm_Sh} {I : Nat → Nat → Int32} {F : Nat → Nat → UInt32} {a b : Nat} (ha : a < 2147483648) (hb : 0 < b) (hb2 : b < 2147483648) : vm_K l X vm_M160 [.int (nI a), .int (nI b), .int 0] (G, I, F) (some (.int (nI (a / Nat.gcd b a)))) (G, I, F) := m_lowestPart ha hb hb2
theorem m_lowest_1 {l : Launch} {X : vm_Cx} {G : List vm_Sh} {I : Nat → Nat → Int32} {F : Nat → Nat → UInt32} {a b : Nat} (ha : a < 2147483648) (hb : 0 < b) (hb2 : b < 2147483648) : vm_K l X vm_M160 [.int (nI a), .int (nI b), .int 1] (G, I, F) (some (.int (nI (b / Nat.gcd b a)))) (G, I, F) := m_lowestPart ha hb hb2
set_option maxHeartbeats 4000000 in
set_option maxRecDepth 20000 in
/-- DitherDesk.paint -/
theorem c_paint_x {l : Launch} {X : vm_Cx} {G : List vm_Sh} {I : Nat → Nat → Int32} {F : Nat → Nat → UInt32} {q : Int32} {x : Int32} {y : Int32} {c : Int32} (hD : vm_isD G) (hx : ¬ (0 ≤ q ∧ q ≤ 3)) : vm_K l X vm_M100 [.ref 0, .int q, .int x, .int y, .int c] (G, I, F) (some (.int (-1))) (G, I, F) := by
  refine vm_K.mk (by decide) (Nat.le_of_ble_eq_true rfl) ?_
  show vm_J _ _ _ (0, (0, 0), [.ref 0, .int q, .int x, .int y, .int c, .retAddr 0, .retAddr 0], []) _ _ _
  refine vm_J.go vm_q100 (k := 3) (hs := [(12, 9, [.ref 1, .ref 38, .ref 75, .ref 112, .ref 132, .ref 135, .ref 139, .int 0, .int 0])]) (f' := (5, (0, 0), [.ref 0, .int q, .int x, .int y, .int c, .retAddr 0, .retAddr 0], [.int q, .ref 1])) (h' := (G, I, F)) (hs' := []) rfl (vm_b2 rfl (vm_b2 (vm_b2 (vm_hG hD.d) rfl) (vm_b2 rfl rfl))) ?_
  refine vm_J.call vm_q100 (Z := vm_M92) (n := 1) (k := 0) (mi := 92) (pc := 5) (en := (5, .invokevirtual 70, 3, [92, 438, 0], .null)) rfl trivial rfl rfl vm_z92 (av := [.ref 1, .int q]) (rest := []) (m_picAt_x (B := 1) (p := q) hD.w1 (vm_nx hx)) ⟨_, _, rfl, rfl, _, 9, _, hD.w1.w, rfl, rfl, rfl⟩ (Nat.le_of_ble_eq_true rfl) ⟨Nat.le_of_ble_eq_true rfl, Nat.le_of_ble_eq_true rfl⟩ ⟨Nat.le_of_ble_eq_true rfl, Nat.le_of_ble_eq_true rfl⟩ ?_
  show vm_J _ _ _ (8, (0, 0), [.ref 0, .int q, .int x, .int y, .int c, .retAddr 0, .retAddr 0], [.null]) (G, I, F) _ _
  refine vm_J.go vm_q100 (k := 4) (hs := []) (f' := (16, (0, 0), [.ref 0, .int q, .int x, .int y, .int c, .null, .retAddr 0], [.int (-1)])) (h' := (G, I, F)) (hs' := []) rfl rfl ?_
  exact vm_J.end vm_q100 (en := (16, .ireturn, 1, [], .null)) rfl rfl vm_rI (Nat.zero_le _) (Nat.zero_le _) rfl
set_option maxHeartbeats 4000000 in
set_option maxRecDepth 20000 in
/-- DitherDesk.paint -/
theorem c_paint_m {l : Launch} {X : vm_Cx} {G : List vm_Sh} {I : Nat → Nat → Int32} {F : Nat → Nat → UInt32} {p : Nat} {w : Nat} {x : Int32} {y : Int32} {c : Int32} (hD : vm_isD G) (hw : I (1 + 17 + 2 * p) 0 = nI w) (hp : p < 4) (hw2 : w ≤ 12) (hw0 : w = 0) : vm_K l X vm_M100 [.ref 0, .int (nI p), .int x, .int y, .int c] (G, I, F) (some (.int (-1))) (G, I, F) := by
  refine vm_K.mk (by decide) (Nat.le_of_ble_eq_true rfl) ?_
  show vm_J _ _ _ (0, (0, 0), [.ref 0, .int (nI p), .int x, .int y, .int c, .retAddr 0, .retAddr 0], []) _ _ _
  refine vm_J.go vm_q100 (k := 3) (hs := [(12, 9, [.ref 1, .ref 38, .ref 75, .ref 112, .ref 132, .ref 135, .ref 139, .int 0, .int 0])]) (f' := (5, (0, 0), [.ref 0, .int (nI p), .int x, .int y, .int c, .retAddr 0, .retAddr 0], [.int (nI p), .ref 1])) (h' := (G, I, F)) (hs' := []) rfl (vm_b2 rfl (vm_b2 (vm_b2 (vm_hG hD.d) rfl) (vm_b2 rfl rfl))) ?_
  refine vm_J.call vm_q100 (Z := vm_M92) (n := 1) (k := 0) (mi := 92) (pc := 5) (en := (5, .invokevirtual 70, 3, [92, 438, 0], .null)) rfl trivial rfl rfl vm_z92 (av := [.ref 1, .int (nI p)]) (rest := []) (m_picAt_n (B := 1) (p := p) hD.w1 (by omega) (vm_pz hw hw0)) ⟨_, _, rfl, rfl, _, 9, _, hD.w1.w, rfl, rfl, rfl⟩ (Nat.le_of_ble_eq_true rfl) ⟨Nat.le_of_ble_eq_true rfl, Nat.le_of_ble_eq_true rfl⟩ ⟨Nat.le_of_ble_eq_true rfl, Nat.le_of_ble_eq_true rfl⟩ ?_
  show vm_J _ _ _ (8, (0, 0), [.ref 0, .int (nI p), .int x, .int y, .int c, .retAddr 0, .retAddr 0], [.null]) (G, I, F) _ _
  refine vm_J.go vm_q100 (k := 4) (hs := []) (f' := (16, (0, 0), [.ref 0, .int (nI p), .int x, .int y, .int c, .null, .retAddr 0], [.int (-1)])) (h' := (G, I, F)) (hs' := []) rfl rfl ?_
  exact vm_J.end vm_q100 (en := (16, .ireturn, 1, [], .null)) rfl rfl vm_rI (Nat.zero_le _) (Nat.zero_le _) rfl
set_option maxHeartbeats 4000000 in
set_option maxRecDepth 20000 in
/-- DitherDesk.pixel -/
theorem c_pixel_x {l : Launch} {X : vm_Cx} {G : List vm_Sh} {I : Nat → Nat → Int32} {F : Nat → Nat → UInt32} {q : Int32} {x : Int32} {y : Int32} (hD : vm_isD G) (hx : ¬ (0 ≤ q ∧ q ≤ 3)) : vm_K l X vm_M103 [.ref 0, .int q, .int x, .int y] (G, I, F) (some (.int (-1))) (G, I, F) := by
  refine vm_K.mk (by decide) (Nat.le_of_ble_eq_true rfl) ?_
  show vm_J _ _ _ (0, (0, 0), [.ref 0, .int q, .int x, .int y, .retAddr 0], []) _ _ _
  refine vm_J.go vm_q103 (k := 3) (hs := [(12, 9, [.ref 1, .ref 38, .ref 75, .ref 112, .ref 132, .ref 135, .ref 139, .int 0, .int 0])]) (f' := (5, (0, 0), [.ref 0, .int q, .int x, .int y, .retAddr 0], [.int q, .ref 1])) (h' := (G, I, F)) (hs' := []) rfl (vm_b2 rfl (vm_b2 (vm_b2 (vm_hG hD.d) rfl) (vm_b2 rfl rfl))) ?_
  refine vm_J.call vm_q103 (Z := vm_M92) (n := 1) (k := 0) (mi := 92) (pc := 5) (en := (5, .invokevirtual 70, 3, [92, 438, 0], .null)) rfl trivial rfl rfl vm_z92 (av := [.ref 1, .int q]) (rest := []) (m_picAt_x (B := 1) (p := q) hD.w1 (vm_nx hx)) ⟨_, _, rfl, rfl, _, 9, _, hD.w1.w, rfl, rfl, rfl⟩ (Nat.le_of_ble_eq_true rfl) ⟨Nat.le_of_ble_eq_true rfl, Nat.le_of_ble_eq_true rfl⟩ ⟨Nat.le_of_ble_eq_true rfl, Nat.le_of_ble_eq_true rfl⟩ ?_
  show vm_J _ _ _ (8, (0, 0), [.ref 0, .int q, .int x, .int y, .retAddr 0], [.null]) (G, I, F) _ _
  refine vm_J.go vm_q103 (k := 4) (hs := []) (f' := (16, (0, 0), [.ref 0, .int q, .int x, .int y, .null], [.int (-1)])) (h' := (G, I, F)) (hs' := []) rfl rfl ?_
  exact vm_J.end vm_q103 (en := (16, .ireturn, 1, [], .null)) rfl rfl vm_rI (Nat.zero_le _) (Nat.zero_le _) rfl
set_option maxHeartbeats 4000000 in
set_option maxRecDepth 20000 in
/-- DitherDesk.pixel -/
theorem c_pixel_m {l : Launch} {X : vm_Cx} {G : List vm_Sh} {I : Nat → Nat → Int32} {F : Nat → Nat → UInt32} {p : Nat} {w : Nat} {x : Int32} {y : Int32} (hD : vm_isD G) (hw : I (1 + 17 + 2 * p) 0 = nI w) (hp : p < 4) (hw2 : w ≤ 12) (hw0 : w = 0) : vm_K l X vm_M103 [.ref 0, .int (nI p), .int x, .int y] (G, I, F) (some (.int (-1))) (G, I, F) := by
  refine vm_K.mk (by decide) (Nat.le_of_ble_eq_true rfl) ?_
  show vm_J _ _ _ (0, (0, 0), [.ref 0, .int (nI p), .int x, .int y, .retAddr 0], []) _ _ _
  refine vm_J.go vm_q103 (k := 3) (hs := [(12, 9, [.ref 1, .ref 38, .ref 75, .ref 112, .ref 132, .ref 135, .ref 139, .int 0, .int 0])]) (f' := (5, (0, 0), [.ref 0, .int (nI p), .int x, .int y, .retAddr 0], [.int (nI p), .ref 1])) (h' := (G, I, F)) (hs' := []) rfl (vm_b2 rfl (vm_b2 (vm_b2 (vm_hG hD.d) rfl) (vm_b2 rfl rfl))) ?_
  refine vm_J.call vm_q103 (Z := vm_M92) (n := 1) (k := 0) (mi := 92) (pc := 5) (en := (5, .invokevirtual 70, 3, [92, 438, 0], .null)) rfl trivial rfl rfl vm_z92 (av := [.ref 1, .int (nI p)]) (rest := []) (m_picAt_n (B := 1) (p := p) hD.w1 (by omega) (vm_pz hw hw0)) ⟨_, _, rfl, rfl, _, 9, _, hD.w1.w, rfl, rfl, rfl⟩ (Nat.le_of_ble_eq_true rfl) ⟨Nat.le_of_ble_eq_true rfl, Nat.le_of_ble_eq_true rfl⟩ ⟨Nat.le_of_ble_eq_true rfl, Nat.le_of_ble_eq_true rfl⟩ ?_
  show vm_J _ _ _ (8, (0, 0), [.ref 0, .int (nI p), .int x, .int y, .retAddr 0], [.null]) (G, I, F) _ _
  refine vm_J.go vm_q103 (k := 4) (hs := []) (f' := (16, (0, 0), [.ref 0, .int (nI p), .int x, .int y, .null], [.int (-1)])) (h' := (G, I, F)) (hs' := []) rfl rfl ?_
  exact vm_J.end vm_q103 (en := (16, .ireturn, 1, [], .null)) rfl rfl vm_rI (Nat.zero_le _) (Nat.zero_le _) rfl
set_option maxHeartbeats 4000000 in
set_option maxRecDepth 20000 in
/-- DitherDesk.noise -/
theorem c_noise_x {l : Launch} {X : vm_Cx} {G : List vm_Sh} {I : Nat → Nat → Int32} {F : Nat → Nat → UInt32} {q : Int32} {c : Int32} (hD : vm_isD G) (hx : ¬ (0 ≤ q ∧ q ≤ 3)) : vm_K l X vm_M101 [.ref 0, .int q, .int c] (G, I, F) (some (.int (-1))) (G, I, F) := by
  refine vm_K.mk (by decide) (Nat.le_of_ble_eq_true rfl) ?_
  show vm_J _ _ _ (0, (0, 0), [.ref 0, .int q, .int c, .retAddr 0], []) _ _ _
  refine vm_J.go vm_q101 (k := 3) (hs := [(12, 9, [.ref 1, .ref 38, .ref 75, .ref 112, .ref 132, .ref 135, .ref 139, .int 0, .int 0])]) (f' := (5, (0, 0), [.ref 0, .int q, .int c, .retAddr 0], [.int q, .ref 1])) (h' := (G, I, F)) (hs' := []) rfl (vm_b2 rfl (vm_b2 (vm_b2 (vm_hG hD.d) rfl) (vm_b2 rfl rfl))) ?_
  refine vm_J.call vm_q101 (Z := vm_M92) (n := 1) (k := 0) (mi := 92) (pc := 5) (en := (5, .invokevirtual 70, 3, [92, 438, 0], .null)) rfl trivial rfl rfl vm_z92 (av := [.ref 1, .int q]) (rest := []) (m_picAt_x (B := 1) (p := q) hD.w1 (vm_nx hx)) ⟨_, _, rfl, rfl, _, 9, _, hD.w1.w, rfl, rfl, rfl⟩ (Nat.le_of_ble_eq_true rfl) ⟨Nat.le_of_ble_eq_true rfl, Nat.le_of_ble_eq_true rfl⟩ ⟨Nat.le_of_ble_eq_true rfl, Nat.le_of_ble_eq_true rfl⟩ ?_
  show vm_J _ _ _ (8, (0, 0), [.ref 0, .int q, .int c, .retAddr 0], [.null]) (G, I, F) _ _
  refine vm_J.go vm_q101 (k := 4) (hs := []) (f' := (14, (0, 0), [.ref 0, .int q, .int c, .null], [.int (-1)])) (h' := (G, I, F)) (hs' := []) rfl rfl ?_
  exact vm_J.end vm_q101 (en := (14, .ireturn, 1, [], .null)) rfl rfl vm_rI (Nat.zero_le _) (Nat.zero_le _) rfl
set_option maxHeartbeats 4000000 in
set_option maxRecDepth 20000 in
/-- DitherDesk.noise -/
theorem c_noise_m {l : Launch} {X : vm_Cx} {G : List vm_Sh} {I : Nat → Nat → Int32} {F : Nat → Nat → UInt32} {p : Nat} {w : Nat} {c : Int32} (hD : vm_isD G) (hw : I (1 + 17 + 2 * p) 0 = nI w) (hp : p < 4) (hw2 : w ≤ 12) (hw0 : w = 0) : vm_K l X vm_M101 [.ref 0, .int (nI p), .int c] (G, I, F) (some (.int (-1))) (G, I, F) := by
  refine vm_K.mk (by decide) (Nat.le_of_ble_eq_true rfl) ?_
  show vm_J _ _ _ (0, (0, 0), [.ref 0, .int (nI p), .int c, .retAddr 0], []) _ _ _
  refine vm_J.go vm_q101 (k := 3) (hs := [(12, 9, [.ref 1, .ref 38, .ref 75, .ref 112, .ref 132, .ref 135, .ref 139, .int 0, .int 0])]) (f' := (5, (0, 0), [.ref 0, .int (nI p), .int c, .retAddr 0], [.int (nI p), .ref 1])) (h' := (G, I, F)) (hs' := []) rfl (vm_b2 rfl (vm_b2 (vm_b2 (vm_hG hD.d) rfl) (vm_b2 rfl rfl))) ?_
  refine vm_J.call vm_q101 (Z := vm_M92) (n := 1) (k := 0) (mi := 92) (pc := 5) (en := (5, .invokevirtual 70, 3, [92, 438, 0], .null)) rfl trivial rfl rfl vm_z92 (av := [.ref 1, .int (nI p)]) (rest := []) (m_picAt_n (B := 1) (p := p) hD.w1 (by omega) (vm_pz hw hw0)) ⟨_, _, rfl, rfl, _, 9, _, hD.w1.w, rfl, rfl, rfl⟩ (Nat.le_of_ble_eq_true rfl) ⟨Nat.le_of_ble_eq_true rfl, Nat.le_of_ble_eq_true rfl⟩ ⟨Nat.le_of_ble_eq_true rfl, Nat.le_of_ble_eq_true rfl⟩ ?_
  show vm_J _ _ _ (8, (0, 0), [.ref 0, .int (nI p), .int c, .retAddr 0], [.null]) (G, I, F) _ _
  refine vm_J.go vm_q101 (k := 4) (hs := []) (f' := (14, (0, 0), [.ref 0, .int (nI p), .int c, .null], [.int (-1)])) (h' := (G, I, F)) (hs' := []) rfl rfl ?_
  exact vm_J.end vm_q101 (en := (14, .ireturn, 1, [], .null)) rfl rfl vm_rI (Nat.zero_le _) (Nat.zero_le _) rfl
set_option maxHeartbeats 4000000 in
set_option maxRecDepth 20000 in
/-- DitherDesk.shade -/
theorem c_shade_x {l : Launch} {X : vm_Cx} {G : List vm_Sh} {I : Nat → Nat → Int32} {F : Nat → Nat → UInt32} {q : Int32} {a : Int32} {b : Int32} (hD : vm_isD G) (hx : ¬ (0 ≤ q ∧ q ≤ 3)) : vm_K l X vm_M102 [.ref 0, .int q, .int a, .int b] (G, I, F) (some (.int (-1))) (G, I, F) := by
  refine vm_K.mk (by decide) (Nat.le_of_ble_eq_true rfl) ?_
  show vm_J _ _ _ (0, (0, 0), [.ref 0, .int q, .int a, .int b, .retAddr 0], []) _ _ _
  refine vm_J.go vm_q102 (k := 3) (hs := [(12, 9, [.ref 1, .ref 38, .ref 75, .ref 112, .ref 132, .ref 135, .ref 139, .int 0, .int 0])]) (f' := (5, (0, 0), [.ref 0, .int q, .int a, .int b, .retAddr 0], [.int q, .ref 1])) (h' := (G, I, F)) (hs' := []) rfl (vm_b2 rfl (vm_b2 (vm_b2 (vm_hG hD.d) rfl) (vm_b2 rfl rfl))) ?_
  refine vm_J.call vm_q102 (Z := vm_M92) (n := 1) (k := 0) (mi := 92) (pc := 5) (en := (5, .invokevirtual 70, 3, [92, 438, 0], .null)) rfl trivial rfl rfl vm_z92 (av := [.ref 1, .int q]) (rest := []) (m_picAt_x (B := 1) (p := q) hD.w1 (vm_nx hx)) ⟨_, _, rfl, rfl, _, 9, _, hD.w1.w, rfl, rfl, rfl⟩ (Nat.le_of_ble_eq_true rfl) ⟨Nat.le_of_ble_eq_true rfl, Nat.le_of_ble_eq_true rfl⟩ ⟨Nat.le_of_ble_eq_true rfl, Nat.le_of_ble_eq_true rfl⟩ ?_
  show vm_J _ _ _ (8, (0, 0), [.ref 0, .int q, .int a, .int b, .retAddr 0], [.null]) (G, I, F) _ _
  refine vm_J.go vm_q102 (k := 4) (hs := []) (f' := (16, (0, 0), [.ref 0, .int q, .int a, .int b, .null], [.int (-1)])) (h' := (G, I, F)) (hs' := []) rfl rfl ?_
  exact vm_J.end vm_q102 (en := (16, .ireturn, 1, [], .null)) rfl rfl vm_rI (Nat.zero_le _) (Nat.zero_le _) rfl
set_option maxHeartbeats 4000000 in
set_option maxRecDepth 20000 in
/-- DitherDesk.shade -/
theorem c_shade_m {l : Launch} {X : vm_Cx} {G : List vm_Sh} {I : Nat → Nat → Int32} {F : Nat → Nat → UInt32} {p : Nat} {w : Nat} {a : Int32} {b : Int32} (hD : vm_isD G) (hw : I (1 + 17 + 2 * p) 0 = nI w) (hp : p < 4) (hw2 : w ≤ 12) (hw0 : w = 0) : vm_K l X vm_M102 [.ref 0, .int (nI p), .int a, .int b] (G, I, F) (some (.int (-1))) (G, I, F) := by
  refine vm_K.mk (by decide) (Nat.le_of_ble_eq_true rfl) ?_
  show vm_J _ _ _ (0, (0, 0), [.ref 0, .int (nI p), .int a, .int b, .retAddr 0], []) _ _ _
  refine vm_J.go vm_q102 (k := 3) (hs := [(12, 9, [.ref 1, .ref 38, .ref 75, .ref 112, .ref 132, .ref 135, .ref 139, .int 0, .int 0])]) (f' := (5, (0, 0), [.ref 0, .int (nI p), .int a, .int b, .retAddr 0], [.int (nI p), .ref 1])) (h' := (G, I, F)) (hs' := []) rfl (vm_b2 rfl (vm_b2 (vm_b2 (vm_hG hD.d) rfl) (vm_b2 rfl rfl))) ?_
  refine vm_J.call vm_q102 (Z := vm_M92) (n := 1) (k := 0) (mi := 92) (pc := 5) (en := (5, .invokevirtual 70, 3, [92, 438, 0], .null)) rfl trivial rfl rfl vm_z92 (av := [.ref 1, .int (nI p)]) (rest := []) (m_picAt_n (B := 1) (p := p) hD.w1 (by omega) (vm_pz hw hw0)) ⟨_, _, rfl, rfl, _, 9, _, hD.w1.w, rfl, rfl, rfl⟩ (Nat.le_of_ble_eq_true rfl) ⟨Nat.le_of_ble_eq_true rfl, Nat.le_of_ble_eq_true rfl⟩ ⟨Nat.le_of_ble_eq_true rfl, Nat.le_of_ble_eq_true rfl⟩ ?_
  show vm_J _ _ _ (8, (0, 0), [.ref 0, .int (nI p), .int a, .int b, .retAddr 0], [.null]) (G, I, F) _ _
  refine vm_J.go vm_q102 (k := 4) (hs := []) (f' := (16, (0, 0), [.ref 0, .int (nI p), .int a, .int b, .null], [.int (-1)])) (h' := (G, I, F)) (hs' := []) rfl rfl ?_
  exact vm_J.end vm_q102 (en := (16, .ireturn, 1, [], .null)) rfl rfl vm_rI (Nat.zero_le _) (Nat.zero_le _) rfl
set_option maxHeartbeats 4000000 in
set_option maxRecDepth 20000 in
/-- DitherDesk.of -/
theorem c_of_x {l : Launch} {X : vm_Cx} {G : List vm_Sh} {I : Nat → Nat → Int32} {F : Nat → Nat → UInt32} {q : Int32} {x : Int32} (hD : vm_isD G) (hx : ¬ (0 ≤ q ∧ q ≤ 3)) : vm_K l X vm_M104 [.ref 0, .int q, .int x] (G, I, F) (some (.int (-1))) (G, I, F) := by
  refine vm_K.mk (by decide) (Nat.le_of_ble_eq_true rfl) ?_
  show vm_J _ _ _ (0, (0, 0), [.ref 0, .int q, .int x, .retAddr 0], []) _ _ _
  refine vm_J.go vm_q104 (k := 3) (hs := [(12, 9, [.ref 1, .ref 38, .ref 75, .ref 112, .ref 132, .ref 135, .ref 139, .int 0, .int 0])]) (f' := (5, (0, 0), [.ref 0, .int q, .int x, .retAddr 0], [.int q, .ref 1])) (h' := (G, I, F)) (hs' := []) rfl (vm_b2 rfl (vm_b2 (vm_b2 (vm_hG hD.d) rfl) (vm_b2 rfl rfl))) ?_
  refine vm_J.call vm_q104 (Z := vm_M92) (n := 1) (k := 0) (mi := 92) (pc := 5) (en := (5, .invokevirtual 70, 3, [92, 438, 0], .null)) rfl trivial rfl rfl vm_z92 (av := [.ref 1, .int q]) (rest := []) (m_picAt_x (B := 1) (p := q) hD.w1 (vm_nx hx)) ⟨_, _, rfl, rfl, _, 9, _, hD.w1.w, rfl, rfl, rfl⟩ (Nat.le_of_ble_eq_true rfl) ⟨Nat.le_of_ble_eq_true rfl, Nat.le_of_ble_eq_true rfl⟩ ⟨Nat.le_of_ble_eq_true rfl, Nat.le_of_ble_eq_true rfl⟩ ?_
  show vm_J _ _ _ (8, (0, 0), [.ref 0, .int q, .int x, .retAddr 0], [.null]) (G, I, F) _ _
  refine vm_J.go vm_q104 (k := 4) (hs := []) (f' := (23, (0, 0), [.ref 0, .int q, .int x, .null], [.int (-1)])) (h' := (G, I, F)) (hs' := []) rfl rfl ?_
  exact vm_J.end vm_q104 (en := (23, .ireturn, 1, [], .null)) rfl rfl vm_rI (Nat.zero_le _) (Nat.zero_le _) rfl
set_option maxHeartbeats 4000000 in
set_option maxRecDepth 20000 in
/-- DitherDesk.of -/
theorem c_of_m {l : Launch} {X : vm_Cx} {G : List vm_Sh} {I : Nat → Nat → Int32} {F : Nat → Nat → UInt32} {p : Nat} {w : Nat} {x : Int32} (hD : vm_isD G) (hw : I (1 + 17 + 2 * p) 0 = nI w) (hp : p < 4) (hw2 : w ≤ 12) (hw0 : w = 0) : vm_K l X vm_M104 [.ref 0, .int (nI p), .int x] (G, I, F) (some (.int (-1))) (G, I, F) := by
  refine vm_K.mk (by decide) (Nat.le_of_ble_eq_true rfl) ?_
  show vm_J _ _ _ (0, (0, 0), [.ref 0, .int (nI p), .int x, .retAddr 0], []) _ _ _
  refine vm_J.go vm_q104 (k := 3) (hs := [(12, 9, [.ref 1, .ref 38, .ref 75, .ref 112, .ref 132, .ref 135, .ref 139, .int 0, .int 0])]) (f' := (5, (0, 0), [.ref 0, .int (nI p), .int x, .retAddr 0], [.int (nI p), .ref 1])) (h' := (G, I, F)) (hs' := []) rfl (vm_b2 rfl (vm_b2 (vm_b2 (vm_hG hD.d) rfl) (vm_b2 rfl rfl))) ?_
  refine vm_J.call vm_q104 (Z := vm_M92) (n := 1) (k := 0) (mi := 92) (pc := 5) (en := (5, .invokevirtual 70, 3, [92, 438, 0], .null)) rfl trivial rfl rfl vm_z92 (av := [.ref 1, .int (nI p)]) (rest := []) (m_picAt_n (B := 1) (p := p) hD.w1 (by omega) (vm_pz hw hw0)) ⟨_, _, rfl, rfl, _, 9, _, hD.w1.w, rfl, rfl, rfl⟩ (Nat.le_of_ble_eq_true rfl) ⟨Nat.le_of_ble_eq_true rfl, Nat.le_of_ble_eq_true rfl⟩ ⟨Nat.le_of_ble_eq_true rfl, Nat.le_of_ble_eq_true rfl⟩ ?_
  show vm_J _ _ _ (8, (0, 0), [.ref 0, .int (nI p), .int x, .retAddr 0], [.null]) (G, I, F) _ _
  refine vm_J.go vm_q104 (k := 4) (hs := []) (f' := (23, (0, 0), [.ref 0, .int (nI p), .int x, .null], [.int (-1)])) (h' := (G, I, F)) (hs' := []) rfl rfl ?_
  exact vm_J.end vm_q104 (en := (23, .ireturn, 1, [], .null)) rfl rfl vm_rI (Nat.zero_le _) (Nat.zero_le _) rfl
set_option maxHeartbeats 4000000 in
set_option maxRecDepth 20000 in
/-- DitherDesk.many -/
theorem c_many_x {l : Launch} {X : vm_Cx} {G : List vm_Sh} {I : Nat → Nat → Int32} {F : Nat → Nat → UInt32} {q : Int32} {c : Int32} (hD : vm_isD G) (hx : ¬ (0 ≤ q ∧ q ≤ 3)) : vm_K l X vm_M105 [.ref 0, .int q, .int c] (G, I, F) (some (.int (-1))) (G, I, F) := by
  refine vm_K.mk (by decide) (Nat.le_of_ble_eq_true rfl) ?_
  show vm_J _ _ _ (0, (0, 0), [.ref 0, .int q, .int c, .retAddr 0], []) _ _ _
  refine vm_J.go vm_q105 (k := 3) (hs := [(12, 9, [.ref 1, .ref 38, .ref 75, .ref 112, .ref 132, .ref 135, .ref 139, .int 0, .int 0])]) (f' := (5, (0, 0), [.ref 0, .int q, .int c, .retAddr 0], [.int q, .ref 1])) (h' := (G, I, F)) (hs' := []) rfl (vm_b2 rfl (vm_b2 (vm_b2 (vm_hG hD.d) rfl) (vm_b2 rfl rfl))) ?_
  refine vm_J.call vm_q105 (Z := vm_M92) (n := 1) (k := 0) (mi := 92) (pc := 5) (en := (5, .invokevirtual 70, 3, [92, 438, 0], .null)) rfl trivial rfl rfl vm_z92 (av := [.ref 1, .int q]) (rest := []) (m_picAt_x (B := 1) (p := q) hD.w1 (vm_nx hx)) ⟨_, _, rfl, rfl, _, 9, _, hD.w1.w, rfl, rfl, rfl⟩ (Nat.le_of_ble_eq_true rfl) ⟨Nat.le_of_ble_eq_true rfl, Nat.le_of_ble_eq_true rfl⟩ ⟨Nat.le_of_ble_eq_true rfl, Nat.le_of_ble_eq_true rfl⟩ ?_
  show vm_J _ _ _ (8, (0, 0), [.ref 0, .int q, .int c, .retAddr 0], [.null]) (G, I, F) _ _
  refine vm_J.go vm_q105 (k := 4) (hs := []) (f' := (14, (0, 0), [.ref 0, .int q, .int c, .null], [.int (-1)])) (h' := (G, I, F)) (hs' := []) rfl rfl ?_
  exact vm_J.end vm_q105 (en := (14, .ireturn, 1, [], .null)) rfl rfl vm_rI (Nat.zero_le _) (Nat.zero_le _) rfl
set_option maxHeartbeats 4000000 in
set_option maxRecDepth 20000 in
/-- DitherDesk.many -/
theorem c_many_m {l : Launch} {X : vm_Cx} {G : List vm_Sh} {I : Nat → Nat → Int32} {F : Nat → Nat → UInt32} {p : Nat} {w : Nat} {c : Int32} (hD : vm_isD G) (hw : I (1 + 17 + 2 * p) 0 = nI w) (hp : p < 4) (hw2 : w ≤ 12) (hw0 : w = 0) : vm_K l X vm_M105 [.ref 0, .int (nI p), .int c] (G, I, F) (some (.int (-1))) (G, I, F) := by
  refine vm_K.mk (by decide) (Nat.le_of_ble_eq_true rfl) ?_
  show vm_J _ _ _ (0, (0, 0), [.ref 0, .int (nI p), .int c, .retAddr 0], []) _ _ _
  refine vm_J.go vm_q105 (k := 3) (hs := [(12, 9, [.ref 1, .ref 38, .ref 75, .ref 112, .ref 132, .ref 135, .ref 139, .int 0, .int 0])]) (f' := (5, (0, 0), [.ref 0, .int (nI p), .int c, .retAddr 0], [.int (nI p), .ref 1])) (h' := (G, I, F)) (hs' := []) rfl (vm_b2 rfl (vm_b2 (vm_b2 (vm_hG hD.d) rfl) (vm_b2 rfl rfl))) ?_
  refine vm_J.call vm_q105 (Z := vm_M92) (n := 1) (k := 0) (mi := 92) (pc := 5) (en := (5, .invokevirtual 70, 3, [92, 438, 0], .null)) rfl trivial rfl rfl vm_z92 (av := [.ref 1, .int (nI p)]) (rest := []) (m_picAt_n (B := 1) (p := p) hD.w1 (by omega) (vm_pz hw hw0)) ⟨_, _, rfl, rfl, _, 9, _, hD.w1.w, rfl, rfl, rfl⟩ (Nat.le_of_ble_eq_true rfl) ⟨Nat.le_of_ble_eq_true rfl, Nat.le_of_ble_eq_true rfl⟩ ⟨Nat.le_of_ble_eq_true rfl, Nat.le_of_ble_eq_true rfl⟩ ?_
  show vm_J _ _ _ (8, (0, 0), [.ref 0, .int (nI p), .int c, .retAddr 0], [.null]) (G, I, F) _ _
  refine vm_J.go vm_q105 (k := 4) (hs := []) (f' := (14, (0, 0), [.ref 0, .int (nI p), .int c, .null], [.int (-1)])) (h' := (G, I, F)) (hs' := []) rfl rfl ?_
  exact vm_J.end vm_q105 (en := (14, .ireturn, 1, [], .null)) rfl rfl vm_rI (Nat.zero_le _) (Nat.zero_le _) rfl
set_option maxHeartbeats 4000000 in
set_option maxRecDepth 20000 in
/-- DitherDesk.common -/
theorem c_common_x {l : Launch} {X : vm_Cx} {G : List vm_Sh} {I : Nat → Nat → Int32} {F : Nat → Nat → UInt32} {q : Int32} {x : Int32} (hD : vm_isD G) (hx : ¬ (0 ≤ q ∧ q ≤ 3)) : vm_K l X vm_M106 [.ref 0, .int q, .int x] (G, I, F) (some (.int (-1))) (G, I, F) := by
  refine vm_K.mk (by decide) (Nat.le_of_ble_eq_true rfl) ?_
  show vm_J _ _ _ (0, (0, 0), [.ref 0, .int q, .int x, .retAddr 0], []) _ _ _
  refine vm_J.go vm_q106 (k := 3) (hs := [(12, 9, [.ref 1, .ref 38, .ref 75, .ref 112, .ref 132, .ref 135, .ref 139, .int 0, .int 0])]) (f' := (5, (0, 0), [.ref 0, .int q, .int x, .retAddr 0], [.int q, .ref 1])) (h' := (G, I, F)) (hs' := []) rfl (vm_b2 rfl (vm_b2 (vm_b2 (vm_hG hD.d) rfl) (vm_b2 rfl rfl))) ?_
  refine vm_J.call vm_q106 (Z := vm_M92) (n := 1) (k := 0) (mi := 92) (pc := 5) (en := (5, .invokevirtual 70, 3, [92, 438, 0], .null)) rfl trivial rfl rfl vm_z92 (av := [.ref 1, .int q]) (rest := []) (m_picAt_x (B := 1) (p := q) hD.w1 (vm_nx hx)) ⟨_, _, rfl, rfl, _, 9, _, hD.w1.w, rfl, rfl, rfl⟩ (Nat.le_of_ble_eq_true rfl) ⟨Nat.le_of_ble_eq_true rfl, Nat.le_of_ble_eq_true rfl⟩ ⟨Nat.le_of_ble_eq_true rfl, Nat.le_of_ble_eq_true rfl⟩ ?_
  show vm_J _ _ _ (8, (0, 0), [.ref 0, .int q, .int x, .retAddr 0], [.null]) (G, I, F) _ _
  refine vm_J.go vm_q106 (k := 4) (hs := []) (f' := (14, (0, 0), [.ref 0, .int q, .int x, .null], [.int (-1)])) (h' := (G, I, F)) (hs' := []) rfl rfl ?_
  exact vm_J.end vm_q106 (en := (14, .ireturn, 1, [], .null)) rfl rfl vm_rI (Nat.zero_le _) (Nat.zero_le _) rfl
set_option maxHeartbeats 4000000 in
set_option maxRecDepth 20000 in
/-- DitherDesk.common -/
theorem c_common_m {l : Launch} {X : vm_Cx} {G : List vm_Sh} {I : Nat → Nat → Int32} {F : Nat → Nat → UInt32} {p : Nat} {w : Nat} {x : Int32} (hD : vm_isD G) (hw : I (1 + 17 + 2 * p) 0 = nI w) (hp : p < 4) (hw2 : w ≤ 12) (hw0 : w = 0) : vm_K l X vm_M106 [.ref 0, .int (nI p), .int x] (G, I, F) (some (.int (-1))) (G, I, F) := by
  refine vm_K.mk (by decide) (Nat.le_of_ble_eq_true rfl) ?_
  show vm_J _ _ _ (0, (0, 0), [.ref 0, .int (nI p), .int x, .retAddr 0], []) _ _ _
  refine vm_J.go vm_q106 (k := 3) (hs := [(12, 9, [.ref 1, .ref 38, .ref 75, .ref 112, .ref 132, .ref 135, .ref 139, .int 0, .int 0])]) (f' := (5, (0, 0), [.ref 0, .int (nI p), .int x, .retAddr 0], [.int (nI p), .ref 1])) (h' := (G, I, F)) (hs' := []) rfl (vm_b2 rfl (vm_b2 (vm_b2 (vm_hG hD.d) rfl) (vm_b2 rfl rfl))) ?_
  refine vm_J.call vm_q106 (Z := vm_M92) (n := 1) (k := 0) (mi := 92) (pc := 5) (en := (5, .invokevirtual 70, 3, [92, 438, 0], .null)) rfl trivial rfl rfl vm_z92 (av := [.ref 1, .int (nI p)]) (rest := []) (m_picAt_n (B := 1) (p := p) hD.w1 (by omega) (vm_pz hw hw0)) ⟨_, _, rfl, rfl, _, 9, _, hD.w1.w, rfl, rfl, rfl⟩ (Nat.le_of_ble_eq_true rfl) ⟨Nat.le_of_ble_eq_true rfl, Nat.le_of_ble_eq_true rfl⟩ ⟨Nat.le_of_ble_eq_true rfl, Nat.le_of_ble_eq_true rfl⟩ ?_
  show vm_J _ _ _ (8, (0, 0), [.ref 0, .int (nI p), .int x, .retAddr 0], [.null]) (G, I, F) _ _
  refine vm_J.go vm_q106 (k := 4) (hs := []) (f' := (14, (0, 0), [.ref 0, .int (nI p), .int x, .null], [.int (-1)])) (h' := (G, I, F)) (hs' := []) rfl rfl ?_
  exact vm_J.end vm_q106 (en := (14, .ireturn, 1, [], .null)) rfl rfl vm_rI (Nat.zero_le _) (Nat.zero_le _) rfl
set_option maxHeartbeats 4000000 in
set_option maxRecDepth 20000 in
/-- DitherDesk.mean -/
theorem c_mean_x {l : Launch} {X : vm_Cx} {G : List vm_Sh} {I : Nat → Nat → Int32} {F : Nat → Nat → UInt32} {q : Int32} {k : Int32} {t : Int32} (hD : vm_isD G) (hx : ¬ (0 ≤ q ∧ q ≤ 3)) : vm_K l X vm_M107 [.ref 0, .int q, .int k, .int t] (G, I, F) (some (.long (-9223372036854775808))) (G, I, F) := by
  refine vm_K.mk (by decide) (Nat.le_of_ble_eq_true rfl) ?_
  show vm_J _ _ _ (0, (0, 0), [.ref 0, .int q, .int k, .int t, .retAddr 0], []) _ _ _
  refine vm_J.go vm_q107 (k := 3) (hs := [(12, 9, [.ref 1, .ref 38, .ref 75, .ref 112, .ref 132, .ref 135, .ref 139, .int 0, .int 0])]) (f' := (5, (0, 0), [.ref 0, .int q, .int k, .int t, .retAddr 0], [.int q, .ref 1])) (h' := (G, I, F)) (hs' := []) rfl (vm_b2 rfl (vm_b2 (vm_b2 (vm_hG hD.d) rfl) (vm_b2 rfl rfl))) ?_
  refine vm_J.call vm_q107 (Z := vm_M92) (n := 1) (k := 0) (mi := 92) (pc := 5) (en := (5, .invokevirtual 70, 3, [92, 438, 0], .null)) rfl trivial rfl rfl vm_z92 (av := [.ref 1, .int q]) (rest := []) (m_picAt_x (B := 1) (p := q) hD.w1 (vm_nx hx)) ⟨_, _, rfl, rfl, _, 9, _, hD.w1.w, rfl, rfl, rfl⟩ (Nat.le_of_ble_eq_true rfl) ⟨Nat.le_of_ble_eq_true rfl, Nat.le_of_ble_eq_true rfl⟩ ⟨Nat.le_of_ble_eq_true rfl, Nat.le_of_ble_eq_true rfl⟩ ?_
  show vm_J _ _ _ (8, (0, 0), [.ref 0, .int q, .int k, .int t, .retAddr 0], [.null]) (G, I, F) _ _
  refine vm_J.go vm_q107 (k := 4) (hs := []) (f' := (36, (0, 0), [.ref 0, .int q, .int k, .int t, .null], [.long (-9223372036854775808)])) (h' := (G, I, F)) (hs' := []) rfl rfl ?_
  exact vm_J.end vm_q107 (en := (36, .lreturn, 1, [], .null)) rfl rfl vm_rL (Nat.zero_le _) (Nat.zero_le _) rfl
set_option maxHeartbeats 4000000 in
set_option maxRecDepth 20000 in
/-- DitherDesk.mean -/
theorem c_mean_m {l : Launch} {X : vm_Cx} {G : List vm_Sh} {I : Nat → Nat → Int32} {F : Nat → Nat → UInt32} {p : Nat} {w : Nat} {k : Int32} {t : Int32} (hD : vm_isD G) (hw : I (1 + 17 + 2 * p) 0 = nI w) (hp : p < 4) (hw2 : w ≤ 12) (hw0 : w = 0) : vm_K l X vm_M107 [.ref 0, .int (nI p), .int k, .int t] (G, I, F) (some (.long (-9223372036854775808))) (G, I, F) := by
  refine vm_K.mk (by decide) (Nat.le_of_ble_eq_true rfl) ?_
  show vm_J _ _ _ (0, (0, 0), [.ref 0, .int (nI p), .int k, .int t, .retAddr 0], []) _ _ _
  refine vm_J.go vm_q107 (k := 3) (hs := [(12, 9, [.ref 1, .ref 38, .ref 75, .ref 112, .ref 132, .ref 135, .ref 139, .int 0, .int 0])]) (f' := (5, (0, 0), [.ref 0, .int (nI p), .int k, .int t, .retAddr 0], [.int (nI p), .ref 1])) (h' := (G, I, F)) (hs' := []) rfl (vm_b2 rfl (vm_b2 (vm_b2 (vm_hG hD.d) rfl) (vm_b2 rfl rfl))) ?_
  refine vm_J.call vm_q107 (Z := vm_M92) (n := 1) (k := 0) (mi := 92) (pc := 5) (en := (5, .invokevirtual 70, 3, [92, 438, 0], .null)) rfl trivial rfl rfl vm_z92 (av := [.ref 1, .int (nI p)]) (rest := []) (m_picAt_n (B := 1) (p := p) hD.w1 (by omega) (vm_pz hw hw0)) ⟨_, _, rfl, rfl, _, 9, _, hD.w1.w, rfl, rfl, rfl⟩ (Nat.le_of_ble_eq_true rfl) ⟨Nat.le_of_ble_eq_true rfl, Nat.le_of_ble_eq_true rfl⟩ ⟨Nat.le_of_ble_eq_true rfl, Nat.le_of_ble_eq_true rfl⟩ ?_
  show vm_J _ _ _ (8, (0, 0), [.ref 0, .int (nI p), .int k, .int t, .retAddr 0], [.null]) (G, I, F) _ _
  refine vm_J.go vm_q107 (k := 4) (hs := []) (f' := (36, (0, 0), [.ref 0, .int (nI p), .int k, .int t, .null], [.long (-9223372036854775808)])) (h' := (G, I, F)) (hs' := []) rfl rfl ?_
  exact vm_J.end vm_q107 (en := (36, .lreturn, 1, [], .null)) rfl rfl vm_rL (Nat.zero_le _) (Nat.zero_le _) rfl
set_option maxHeartbeats 4000000 in
set_option maxRecDepth 20000 in
/-- DitherDesk.picture -/
theorem c_picture_b2 {l : Launch} {X : vm_Cx} {G : List vm_Sh} {I : Nat → Nat → Int32} {F : Nat → Nat → UInt32} {p : Nat} {w : Nat} {b : Int32} (hD : vm_isD G) (hp : p < 4) (hw0 : 0 < w) (hw2 : w ≤ 12) (h1 : ¬ (1 ≤ b ∧ b ≤ 12)) : vm_K l X vm_M99 [.ref 0, .int (nI p), .int (nI w), .int b] (G, I, F) (some (.int (-2))) (G, I, F) := by
  refine vm_K.mk (by decide) (Nat.le_of_ble_eq_true rfl) ?_
  show vm_J _ _ _ (0, (0, 0), [.ref 0, .int (nI p), .int (nI w), .int b, .retAddr 0], []) _ _ _
  refine vm_J.go vm_q99 (k := 3) (hs := [(12, 9, [.ref 1, .ref 38, .ref 75, .ref 112, .ref 132, .ref 135, .ref 139, .int 0, .int 0])]) (f' := (5, (0, 0), [.ref 0, .int (nI p), .int (nI w), .int b, .retAddr 0], [.int (nI p), .ref 1])) (h' := (G, I, F)) (hs' := []) rfl (vm_b2 rfl (vm_b2 (vm_b2 (vm_hG hD.d) rfl) (vm_b2 rfl rfl))) ?_
  refine vm_J.call vm_q99 (Z := vm_M91) (n := 1) (k := 0) (mi := 91) (pc := 5) (en := (5, .invokevirtual 52, 3, [91, 416, 0], .null)) rfl trivial rfl rfl vm_z91 (av := [.ref 1, .int (nI p)]) (rest := []) (m_frame_n (B := 1) (p := p) hD.w1 (by omega)) ⟨_, _, rfl, rfl, _, 9, _, hD.w1.w, rfl, rfl, rfl⟩ (Nat.le_of_ble_eq_true rfl) ⟨Nat.le_of_ble_eq_true rfl, Nat.le_of_ble_eq_true rfl⟩ ⟨Nat.le_of_ble_eq_true rfl, Nat.le_of_ble_eq_true rfl⟩ ?_
  show vm_J _ _ _ (8, (0, 0), [.ref 0, .int (nI p), .int (nI w), .int b, .retAddr 0], [.ref (1 + 17 + 2 * p)]) (G, I, F) _ _
  refine vm_J.go vm_q99 (k := 6) (hs := []) (f' := (21, (0, 0), [.ref 0, .int (nI p), .int (nI w), .int b, .ref (1 + 17 + 2 * p)], [.int 12, .int 0, .int (nI w)])) (h' := (G, I, F)) (hs' := []) rfl rfl ?_
  refine vm_J.call vm_q99 (Z := vm_M151) (n := 3) (k := 1) (mi := 151) (pc := 21) (en := (21, .invokestatic 56, 3, [151, 420, 0], .null)) rfl trivial rfl rfl vm_z151 (av := [.int (nI w), .int 0, .int 12]) (rest := []) (m_isWithin_y (v := nI w) (a := 0) (b := 12) (vm_bpn (m := 12) (by omega) rfl (by decide))) rfl (Nat.le_of_ble_eq_true rfl) ⟨Nat.le_of_ble_eq_true rfl, Nat.le_of_ble_eq_true rfl⟩ ⟨Nat.le_of_ble_eq_true rfl, Nat.le_of_ble_eq_true rfl⟩ ?_
  show vm_J _ _ _ (24, (0, 0), [.ref 0, .int (nI p), .int (nI w), .int b, .ref (1 + 17 + 2 * p)], [.int 1]) (G, I, F) _ _
  refine vm_J.go vm_q99 (k := 1) (hs := []) (f' := (bif vm_ic .eq 1 0 then 41 else 27, (0, 0), [.ref 0, .int (nI p), .int (nI w), .int b, .ref (1 + 17 + 2 * p)], [])) (h' := (G, I, F)) (hs' := []) rfl rfl ?_
  refine vm_J.bF (by decide) ?_
  refine vm_J.go vm_q99 (k := 2) (hs := []) (f' := (bif vm_ic .le (nI w) 0 then 44 else 31, (0, 0), [.ref 0, .int (nI p), .int (nI w), .int b, .ref (1 + 17 + 2 * p)], [])) (h' := (G, I, F)) (hs' := []) rfl rfl ?_
  refine vm_J.br (fun c1 => ?_) (fun c1 => ?_)
  · have c1 := vm_le_t (a := w) (b := 0) (by omega) (by omega) c1
    exact (show False by omega).elim
  · have c1 := vm_le_f (a := w) (b := 0) (by omega) (by omega) c1
    refine vm_J.go vm_q99 (k := 3) (hs := []) (f' := (35, (0, 0), [.ref 0, .int (nI p), .int (nI w), .int b, .ref (1 + 17 + 2 * p)], [.int 12, .int 1, .int b])) (h' := (G, I, F)) (hs' := []) rfl rfl ?_
    refine vm_J.call vm_q99 (Z := vm_M151) (n := 3) (k := 1) (mi := 151) (pc := 35) (en := (35, .invokestatic 56, 3, [151, 420, 0], .null)) rfl trivial rfl rfl vm_z151 (av := [.int b, .int 1, .int 12]) (rest := []) (m_isWithin_n (v := b) (a := 1) (b := 12) h1) rfl (Nat.le_of_ble_eq_true rfl) ⟨Nat.le_of_ble_eq_true rfl, Nat.le_of_ble_eq_true rfl⟩ ⟨Nat.le_of_ble_eq_true rfl, Nat.le_of_ble_eq_true rfl⟩ ?_
    show vm_J _ _ _ (38, (0, 0), [.ref 0, .int (nI p), .int (nI w), .int b, .ref (1 + 17 + 2 * p)], [.int 0]) (G, I, F) _ _
    refine vm_J.go vm_q99 (k := 1) (hs := []) (f' := (bif vm_ic .ne 0 0 then 44 else 41, (0, 0), [.ref 0, .int (nI p), .int (nI w), .int b, .ref (1 + 17 + 2 * p)], [])) (h' := (G, I, F)) (hs' := []) rfl rfl ?_
    refine vm_J.bF (by decide) ?_
    refine vm_J.go vm_q99 (k := 1) (hs := []) (f' := (43, (0, 0), [.ref 0, .int (nI p), .int (nI w), .int b, .ref (1 + 17 + 2 * p)], [.int (-2)])) (h' := (G, I, F)) (hs' := []) rfl rfl ?_
    exact vm_J.end vm_q99 (en := (43, .ireturn, 1, [], .null)) rfl rfl vm_rI (Nat.zero_le _) (Nat.zero_le _) rfl
set_option maxHeartbeats 4000000 in
set_option maxRecDepth 20000 in
/-- DitherDesk.picture -/
theorem c_picture_y {l : Launch} {X : vm_Cx} {G : List vm_Sh} {I : Nat → Nat → Int32} {F : Nat → Nat → UInt32} {p : Nat} {w : Nat} {h : Nat} (hD : vm_isD G) (hp : p < 4) (hw0 : 0 < w) (hw2 : w ≤ 12) (hh0 : 0 < h) (hh2 : h ≤ 12) : vm_K l X vm_M99 [.ref 0, .int (nI p), .int (nI w), .int (nI h)] (G, I, F) (some (.int (nI (w * h)))) (G, (vm_zc 0 (vm_up (vm_up I (1 + 17 + 2 * p) 0 (nI w)) (1 + 17 + 2 * p) 1 (nI h)) (1 + 18 + 2 * p) 144), F) := by
  refine vm_K.mk (by decide) (Nat.le_of_ble_eq_true rfl) ?_
  show vm_J _ _ _ (0, (0, 0), [.ref 0, .int (nI p), .int (nI w), .int (nI h), .retAddr 0], []) _ _ _
  refine vm_J.go vm_q99 (k := 3) (hs := [(12, 9, [.ref 1, .ref 38, .ref 75, .ref 112, .ref 132, .ref 135, .ref 139, .int 0, .int 0])]) (f' := (5, (0, 0), [.ref 0, .int (nI p), .int (nI w), .int (nI h), .retAddr 0], [.int (nI p), .ref 1])) (h' := (G, I, F)) (hs' := []) rfl (vm_b2 rfl (vm_b2 (vm_b2 (vm_hG hD.d) rfl) (vm_b2 rfl rfl))) ?_
  refine vm_J.call vm_q99 (Z := vm_M91) (n := 1) (k := 0) (mi := 91) (pc := 5) (en := (5, .invokevirtual 52, 3, [91, 416, 0], .null)) rfl trivial rfl rfl vm_z91 (av := [.ref 1, .int (nI p)]) (rest := []) (m_frame_n (B := 1) (p := p) hD.w1 (by omega)) ⟨_, _, rfl, rfl, _, 9, _, hD.w1.w, rfl, rfl, rfl⟩ (Nat.le_of_ble_eq_true rfl) ⟨Nat.le_of_ble_eq_true rfl, Nat.le_of_ble_eq_true rfl⟩ ⟨Nat.le_of_ble_eq_true rfl, Nat.le_of_ble_eq_true rfl⟩ ?_
  show vm_J _ _ _ (8, (0, 0), [.ref 0, .int (nI p), .int (nI w), .int (nI h), .retAddr 0], [.ref (1 + 17 + 2 * p)]) (G, I, F) _ _
  refine vm_J.go vm_q99 (k := 6) (hs := []) (f' := (21, (0, 0), [.ref 0, .int (nI p), .int (nI w), .int (nI h), .ref (1 + 17 + 2 * p)], [.int 12, .int 0, .int (nI w)])) (h' := (G, I, F)) (hs' := []) rfl rfl ?_
  refine vm_J.call vm_q99 (Z := vm_M151) (n := 3) (k := 1) (mi := 151) (pc := 21) (en := (21, .invokestatic 56, 3, [151, 420, 0], .null)) rfl trivial rfl rfl vm_z151 (av := [.int (nI w), .int 0, .int 12]) (rest := []) (m_isWithin_y (v := nI w) (a := 0) (b := 12) (vm_bpn (m := 12) (by omega) rfl (by decide))) rfl (Nat.le_of_ble_eq_true rfl) ⟨Nat.le_of_ble_eq_true rfl, Nat.le_of_ble_eq_true rfl⟩ ⟨Nat.le_of_ble_eq_true rfl, Nat.le_of_ble_eq_true rfl⟩ ?_
  show vm_J _ _ _ (24, (0, 0), [.ref 0, .int (nI p), .int (nI w), .int (nI h), .ref (1 + 17 + 2 * p)], [.int 1]) (G, I, F) _ _
  refine vm_J.go vm_q99 (k := 1) (hs := []) (f' := (bif vm_ic .eq 1 0 then 41 else 27, (0, 0), [.ref 0, .int (nI p), .int (nI w), .int (nI h), .ref (1 + 17 + 2 * p)], [])) (h' := (G, I, F)) (hs' := []) rfl rfl ?_
  refine vm_J.bF (by decide) ?_
  refine vm_J.go vm_q99 (k := 2) (hs := []) (f' := (bif vm_ic .le (nI w) 0 then 44 else 31, (0, 0), [.ref 0, .int (nI p), .int (nI w), .int (nI h), .ref (1 + 17 + 2 * p)], [])) (h' := (G, I, F)) (hs' := []) rfl rfl ?_
  refine vm_J.br (fun c1 => ?_) (fun c1 => ?_)
  · have c1 := vm_le_t (a := w) (b := 0) (by omega) (by omega) c1
    exact (show False by omega).elim
  · have c1 := vm_le_f (a := w) (b := 0) (by omega) (by omega) c1
    refine vm_J.go vm_q99 (k := 3) (hs := []) (f' := (35, (0, 0), [.ref 0, .int (nI p), .int (nI w), .int (nI h), .ref (1 + 17 + 2 * p)], [.int 12, .int 1, .int (nI h)])) (h' := (G, I, F)) (hs' := []) rfl rfl ?_
    refine vm_J.call vm_q99 (Z := vm_M151) (n := 3) (k := 1) (mi := 151) (pc := 35) (en := (35, .invokestatic 56, 3, [151, 420, 0], .null)) rfl trivial rfl rfl vm_z151 (av := [.int (nI h), .int 1, .int 12]) (rest := []) (m_isWithin_y (v := nI h) (a := 1) (b := 12) (vm_bp1 (m := 12) hh0 hh2 rfl (by decide))) rfl (Nat.le_of_ble_eq_true rfl) ⟨Nat.le_of_ble_eq_true rfl, Nat.le_of_ble_eq_true rfl⟩ ⟨Nat.le_of_ble_eq_true rfl, Nat.le_of_ble_eq_true rfl⟩ ?_
    show vm_J _ _ _ (38, (0, 0), [.ref 0, .int (nI p), .int (nI w), .int (nI h), .ref (1 + 17 + 2 * p)], [.int 1]) (G, I, F) _ _
    refine vm_J.go vm_q99 (k := 1) (hs := []) (f' := (bif vm_ic .ne 1 0 then 44 else 41, (0, 0), [.ref 0, .int (nI p), .int (nI w), .int (nI h), .ref (1 + 17 + 2 * p)], [])) (h' := (G, I, F)) (hs' := []) rfl rfl ?_
    refine vm_J.bT (by decide) ?_
    refine vm_J.go vm_q99 (k := 4) (hs := []) (f' := (bif vm_ic .ne (nI w) 0 then 55 else 51, (0, 0), [.ref 0, .int (nI p), .int (nI w), .int (nI h), .ref (1 + 17 + 2 * p)], [.int (nI w), .ref (1 + 17 + 2 * p)])) (h' := (G, I, F)) (hs' := []) rfl rfl ?_
    refine vm_J.br (fun c2 => ?_) (fun c2 => ?_)
    · have c2 := vm_ne_t (a := w) (b := 0) (by omega) (by omega) c2
      refine vm_J.go vm_q99 (k := 1) (hs := []) (f' := (56, (0, 0), [.ref 0, .int (nI p), .int (nI w), .int (nI h), .ref (1 + 17 + 2 * p)], [.int (nI h), .int (nI w), .ref (1 + 17 + 2 * p)])) (h' := (G, I, F)) (hs' := []) rfl rfl ?_
      refine vm_J.call vm_q99 (Z := vm_M40) (n := 2) (k := 0) (mi := 40) (pc := 56) (en := (56, .invokevirtual 60, 3, [40, 423, 0], .null)) rfl trivial rfl rfl vm_z40 (av := [.ref (1 + 17 + 2 * p), .int (nI w), .int (nI h)]) (rest := []) (m_Pic_blacken (o := 1 + 17 + 2 * p) (a := 1 + 18 + 2 * p) (x := nI w) (y := nI h) (hD.w1.p p hp) (hD.w1.q p hp)) ⟨_, _, rfl, rfl, _, 3, _, (hD.w1.p p hp), rfl, rfl, rfl⟩ (Nat.le_of_ble_eq_true rfl) ⟨Nat.le_of_ble_eq_true rfl, Nat.le_of_ble_eq_true rfl⟩ ⟨Nat.le_of_ble_eq_true rfl, Nat.le_of_ble_eq_true rfl⟩ ?_
      show vm_J _ _ _ (59, (0, 0), [.ref 0, .int (nI p), .int (nI w), .int (nI h), .ref (1 + 17 + 2 * p)], []) (G, (vm_zc 0 (vm_up (vm_up I (1 + 17 + 2 * p) 0 (nI w)) (1 + 17 + 2 * p) 1 (nI h)) (1 + 18 + 2 * p) 144), F) _ _
      refine vm_J.go vm_q99 (k := 1) (hs := []) (f' := (61, (0, 0), [.ref 0, .int (nI p), .int (nI w), .int (nI h), .ref (1 + 17 + 2 * p)], [.ref (1 + 17 + 2 * p)])) (h' := (G, (vm_zc 0 (vm_up (vm_up I (1 + 17 + 2 * p) 0 (nI w)) (1 + 17 + 2 * p) 1 (nI h)) (1 + 18 + 2 * p) 144), F)) (hs' := []) rfl rfl ?_
      refine vm_J.call vm_q99 (Z := vm_M36) (n := 0) (k := 0) (mi := 36) (pc := 61) (en := (61, .invokevirtual 66, 3, [36, 430, 0], .null)) rfl trivial rfl rfl vm_z36 (av := [.ref (1 + 17 + 2 * p)]) (rest := []) (m_Pic_pixels_n (o := 1 + 17 + 2 * p) (a := 1 + 18 + 2 * p) (w := w) (h := h) (hD.w1.p p hp) (Eq.trans (congrFun (vm_zc_f _ _ (1 + 18 + 2 * p) 144 (1 + 17 + 2 * p) (by omega)) 0) (Eq.trans (vm_up_k2 _ (1 + 17 + 2 * p) 1 _ 0 (by decide)) (vm_up_h _ (1 + 17 + 2 * p) 0 _))) (Eq.trans (congrFun (vm_zc_f _ _ (1 + 18 + 2 * p) 144 (1 + 17 + 2 * p) (by omega)) 1) (vm_up_h _ (1 + 17 + 2 * p) 1 _))) ⟨_, _, rfl, rfl, _, 3, _, (hD.w1.p p hp), rfl, rfl, rfl⟩ (Nat.le_of_ble_eq_true rfl) ⟨Nat.le_of_ble_eq_true rfl, Nat.le_of_ble_eq_true rfl⟩ ⟨Nat.le_of_ble_eq_true rfl, Nat.le_of_ble_eq_true rfl⟩ ?_
      show vm_J _ _ _ (64, (0, 0), [.ref 0, .int (nI p), .int (nI w), .int (nI h), .ref (1 + 17 + 2 * p)], [.int (nI (w * h))]) (G, (vm_zc 0 (vm_up (vm_up I (1 + 17 + 2 * p) 0 (nI w)) (1 + 17 + 2 * p) 1 (nI h)) (1 + 18 + 2 * p) 144), F) _ _
      exact vm_J.end vm_q99 (en := (64, .ireturn, 1, [], .null)) rfl rfl vm_rI (Nat.zero_le _) (Nat.zero_le _) rfl
    · have c2 := vm_ne_f (a := w) (b := 0) (by omega) (by omega) c2
      exact (show False by omega).elim
set_option maxHeartbeats 4000000 in
set_option maxRecDepth 20000 in
/-- DitherDesk.picture -/
theorem c_picture_0 {l : Launch} {X : vm_Cx} {G : List vm_Sh} {I : Nat → Nat → Int32} {F : Nat → Nat → UInt32} {p : Nat} {b : Int32} (hD : vm_isD G) (hp : p < 4) : vm_K l X vm_M99 [.ref 0, .int (nI p), .int 0, .int b] (G, I, F) (some (.int (nI (0 * 0)))) (G, (vm_zc 0 (vm_up (vm_up I (1 + 17 + 2 * p) 0 0) (1 + 17 + 2 * p) 1 0) (1 + 18 + 2 * p) 144), F) := by
  refine vm_K.mk (by decide) (Nat.le_of_ble_eq_true rfl) ?_
  show vm_J _ _ _ (0, (0, 0), [.ref 0, .int (nI p), .int 0, .int b, .retAddr 0], []) _ _ _
  refine vm_J.go vm_q99 (k := 3) (hs := [(12, 9, [.ref 1, .ref 38, .ref 75, .ref 112, .ref 132, .ref 135, .ref 139, .int 0, .int 0])]) (f' := (5, (0, 0), [.ref 0, .int (nI p), .int 0, .int b, .retAddr 0], [.int (nI p), .ref 1])) (h' := (G, I, F)) (hs' := []) rfl (vm_b2 rfl (vm_b2 (vm_b2 (vm_hG hD.d) rfl) (vm_b2 rfl rfl))) ?_
  refine vm_J.call vm_q99 (Z := vm_M91) (n := 1) (k := 0) (mi := 91) (pc := 5) (en := (5, .invokevirtual 52, 3, [91, 416, 0], .null)) rfl trivial rfl rfl vm_z91 (av := [.ref 1, .int (nI p)]) (rest := []) (m_frame_n (B := 1) (p := p) hD.w1 (by omega)) ⟨_, _, rfl, rfl, _, 9, _, hD.w1.w, rfl, rfl, rfl⟩ (Nat.le_of_ble_eq_true rfl) ⟨Nat.le_of_ble_eq_true rfl, Nat.le_of_ble_eq_true rfl⟩ ⟨Nat.le_of_ble_eq_true rfl, Nat.le_of_ble_eq_true rfl⟩ ?_
  show vm_J _ _ _ (8, (0, 0), [.ref 0, .int (nI p), .int 0, .int b, .retAddr 0], [.ref (1 + 17 + 2 * p)]) (G, I, F) _ _
  refine vm_J.go vm_q99 (k := 6) (hs := []) (f' := (21, (0, 0), [.ref 0, .int (nI p), .int 0, .int b, .ref (1 + 17 + 2 * p)], [.int 12, .int 0, .int 0])) (h' := (G, I, F)) (hs' := []) rfl rfl ?_
  refine vm_J.call vm_q99 (Z := vm_M151) (n := 3) (k := 1) (mi := 151) (pc := 21) (en := (21, .invokestatic 56, 3, [151, 420, 0], .null)) rfl trivial rfl rfl vm_z151 (av := [.int 0, .int 0, .int 12]) (rest := []) (m_isWithin_y (v := 0) (a := 0) (b := 12) (by decide)) rfl (Nat.le_of_ble_eq_true rfl) ⟨Nat.le_of_ble_eq_true rfl, Nat.le_of_ble_eq_true rfl⟩ ⟨Nat.le_of_ble_eq_true rfl, Nat.le_of_ble_eq_true rfl⟩ ?_
  show vm_J _ _ _ (24, (0, 0), [.ref 0, .int (nI p), .int 0, .int b, .ref (1 + 17 + 2 * p)], [.int 1]) (G, I, F) _ _
  refine vm_J.go vm_q99 (k := 1) (hs := []) (f' := (bif vm_ic .eq 1 0 then 41 else 27, (0, 0), [.ref 0, .int (nI p), .int 0, .int b, .ref (1 + 17 + 2 * p)], [])) (h' := (G, I, F)) (hs' := []) rfl rfl ?_
  refine vm_J.bF (by decide) ?_
  refine vm_J.go vm_q99 (k := 2) (hs := []) (f' := (bif vm_ic .le 0 0 then 44 else 31, (0, 0), [.ref 0, .int (nI p), .int 0, .int b, .ref (1 + 17 + 2 * p)], [])) (h' := (G, I, F)) (hs' := []) rfl rfl ?_
  refine vm_J.bT (by decide) ?_
  refine vm_J.go vm_q99 (k := 4) (hs := []) (f' := (bif vm_ic .ne 0 0 then 55 else 51, (0, 0), [.ref 0, .int (nI p), .int 0, .int b, .ref (1 + 17 + 2 * p)], [.int 0, .ref (1 + 17 + 2 * p)])) (h' := (G, I, F)) (hs' := []) rfl rfl ?_
  refine vm_J.bF (by decide) ?_
  refine vm_J.go vm_q99 (k := 2) (hs := []) (f' := (56, (0, 0), [.ref 0, .int (nI p), .int 0, .int b, .ref (1 + 17 + 2 * p)], [.int 0, .int 0, .ref (1 + 17 + 2 * p)])) (h' := (G, I, F)) (hs' := []) rfl rfl ?_
  refine vm_J.call vm_q99 (Z := vm_M40) (n := 2) (k := 0) (mi := 40) (pc := 56) (en := (56, .invokevirtual 60, 3, [40, 423, 0], .null)) rfl trivial rfl rfl vm_z40 (av := [.ref (1 + 17 + 2 * p), .int 0, .int 0]) (rest := []) (m_Pic_blacken (o := 1 + 17 + 2 * p) (a := 1 + 18 + 2 * p) (x := 0) (y := 0) (hD.w1.p p hp) (hD.w1.q p hp)) ⟨_, _, rfl, rfl, _, 3, _, (hD.w1.p p hp), rfl, rfl, rfl⟩ (Nat.le_of_ble_eq_true rfl) ⟨Nat.le_of_ble_eq_true rfl, Nat.le_of_ble_eq_true rfl⟩ ⟨Nat.le_of_ble_eq_true rfl, Nat.le_of_ble_eq_true rfl⟩ ?_
  show vm_J _ _ _ (59, (0, 0), [.ref 0, .int (nI p), .int 0, .int b, .ref (1 + 17 + 2 * p)], []) (G, (vm_zc 0 (vm_up (vm_up I (1 + 17 + 2 * p) 0 0) (1 + 17 + 2 * p) 1 0) (1 + 18 + 2 * p) 144), F) _ _
  refine vm_J.go vm_q99 (k := 1) (hs := []) (f' := (61, (0, 0), [.ref 0, .int (nI p), .int 0, .int b, .ref (1 + 17 + 2 * p)], [.ref (1 + 17 + 2 * p)])) (h' := (G, (vm_zc 0 (vm_up (vm_up I (1 + 17 + 2 * p) 0 0) (1 + 17 + 2 * p) 1 0) (1 + 18 + 2 * p) 144), F)) (hs' := []) rfl rfl ?_
  refine vm_J.call vm_q99 (Z := vm_M36) (n := 0) (k := 0) (mi := 36) (pc := 61) (en := (61, .invokevirtual 66, 3, [36, 430, 0], .null)) rfl trivial rfl rfl vm_z36 (av := [.ref (1 + 17 + 2 * p)]) (rest := []) (m_Pic_pixels_n (o := 1 + 17 + 2 * p) (a := 1 + 18 + 2 * p) (w := 0) (h := 0) (hD.w1.p p hp) (Eq.trans (congrFun (vm_zc_f _ _ (1 + 18 + 2 * p) 144 (1 + 17 + 2 * p) (by omega)) 0) (Eq.trans (vm_up_k2 _ (1 + 17 + 2 * p) 1 _ 0 (by decide)) (vm_up_h _ (1 + 17 + 2 * p) 0 _))) (Eq.trans (congrFun (vm_zc_f _ _ (1 + 18 + 2 * p) 144 (1 + 17 + 2 * p) (by omega)) 1) (vm_up_h _ (1 + 17 + 2 * p) 1 _))) ⟨_, _, rfl, rfl, _, 3, _, (hD.w1.p p hp), rfl, rfl, rfl⟩ (Nat.le_of_ble_eq_true rfl) ⟨Nat.le_of_ble_eq_true rfl, Nat.le_of_ble_eq_true rfl⟩ ⟨Nat.le_of_ble_eq_true rfl, Nat.le_of_ble_eq_true rfl⟩ ?_
  show vm_J _ _ _ (64, (0, 0), [.ref 0, .int (nI p), .int 0, .int b, .ref (1 + 17 + 2 * p)], [.int (nI (0 * 0))]) (G, (vm_zc 0 (vm_up (vm_up I (1 + 17 + 2 * p) 0 0) (1 + 17 + 2 * p) 1 0) (1 + 18 + 2 * p) 144), F) _ _
  exact vm_J.end vm_q99 (en := (64, .ireturn, 1, [], .null)) rfl rfl vm_rI (Nat.zero_le _) (Nat.zero_le _) rfl
set_option maxHeartbeats 4000000 in
set_option maxRecDepth 20000 in
/-- DitherDesk.paint -/
theorem c_paint_b1 {l : Launch} {X : vm_Cx} {G : List vm_Sh} {I : Nat → Nat → Int32} {F : Nat → Nat → UInt32} {p : Nat} {w : Nat} {h : Nat} {x : Int32} {y : Int32} {c : Int32} (hD : vm_isD G) (hw : I (1 + 17 + 2 * p) 0 = nI w) (hh : I (1 + 17 + 2 * p) 1 = nI h) (hp : p < 4) (hw2 : w ≤ 12) (hh2 : h ≤ 12) (hw0 : 0 < w) (ho : ¬ ((0 ≤ x ∧ x ≤ nI w - 1) ∧ 0 ≤ y ∧ y ≤ nI h - 1)) : vm_K l X vm_M100 [.ref 0, .int (nI p), .int x, .int y, .int c] (G, I, F) (some (.int (-2))) (G, I, F) := by
  refine vm_K.mk (by decide) (Nat.le_of_ble_eq_true rfl) ?_
  show vm_J _ _ _ (0, (0, 0), [.ref 0, .int (nI p), .int x, .int y, .int c, .retAddr 0, .retAddr 0], []) _ _ _
  refine vm_J.go vm_q100 (k := 3) (hs := [(12, 9, [.ref 1, .ref 38, .ref 75, .ref 112, .ref 132, .ref 135, .ref 139, .int 0, .int 0])]) (f' := (5, (0, 0), [.ref 0, .int (nI p), .int x, .int y, .int c, .retAddr 0, .retAddr 0], [.int (nI p), .ref 1])) (h' := (G, I, F)) (hs' := []) rfl (vm_b2 rfl (vm_b2 (vm_b2 (vm_hG hD.d) rfl) (vm_b2 rfl rfl))) ?_
  refine vm_J.call vm_q100 (Z := vm_M92) (n := 1) (k := 0) (mi := 92) (pc := 5) (en := (5, .invokevirtual 70, 3, [92, 438, 0], .null)) rfl trivial rfl rfl vm_z92 (av := [.ref 1, .int (nI p)]) (rest := []) (m_picAt_y (B := 1) (p := p) hD.w1 (by omega) (vm_pv hw hw0 hw2)) ⟨_, _, rfl, rfl, _, 9, _, hD.w1.w, rfl, rfl, rfl⟩ (Nat.le_of_ble_eq_true rfl) ⟨Nat.le_of_ble_eq_true rfl, Nat.le_of_ble_eq_true rfl⟩ ⟨Nat.le_of_ble_eq_true rfl, Nat.le_of_ble_eq_true rfl⟩ ?_
  show vm_J _ _ _ (8, (0, 0), [.ref 0, .int (nI p), .int x, .int y, .int c, .retAddr 0, .retAddr 0], [.ref (1 + 17 + 2 * p)]) (G, I, F) _ _
  refine vm_J.go vm_q100 (k := 6) (hs := []) (f' := (21, (0, 0), [.ref 0, .int (nI p), .int x, .int y, .int c, .ref (1 + 17 + 2 * p), .retAddr 0], [.int y, .int x, .ref (1 + 17 + 2 * p)])) (h' := (G, I, F)) (hs' := []) rfl rfl ?_
  refine vm_J.call vm_q100 (Z := vm_M37) (n := 2) (k := 0) (mi := 37) (pc := 21) (en := (21, .invokevirtual 73, 3, [37, 443, 0], .null)) rfl trivial rfl rfl vm_z37 (av := [.ref (1 + 17 + 2 * p), .int x, .int y]) (rest := []) (m_Pic_holds_n (o := 1 + 17 + 2 * p) (a := 1 + 18 + 2 * p) (x := x) (y := y) (hD.w1.p p hp) (by rw [hw, hh]; exact ho)) ⟨_, _, rfl, rfl, _, 3, _, (hD.w1.p p hp), rfl, rfl, rfl⟩ (Nat.le_of_ble_eq_true rfl) ⟨Nat.le_of_ble_eq_true rfl, Nat.le_of_ble_eq_true rfl⟩ ⟨Nat.le_of_ble_eq_true rfl, Nat.le_of_ble_eq_true rfl⟩ ?_
  show vm_J _ _ _ (24, (0, 0), [.ref 0, .int (nI p), .int x, .int y, .int c, .ref (1 + 17 + 2 * p), .retAddr 0], [.int 0]) (G, I, F) _ _
  refine vm_J.go vm_q100 (k := 1) (hs := []) (f' := (bif vm_ic .eq 0 0 then 35 else 27, (0, 0), [.ref 0, .int (nI p), .int x, .int y, .int c, .ref (1 + 17 + 2 * p), .retAddr 0], [])) (h' := (G, I, F)) (hs' := []) rfl rfl ?_
  refine vm_J.bT (by decide) ?_
  refine vm_J.go vm_q100 (k := 1) (hs := []) (f' := (37, (0, 0), [.ref 0, .int (nI p), .int x, .int y, .int c, .ref (1 + 17 + 2 * p), .retAddr 0], [.int (-2)])) (h' := (G, I, F)) (hs' := []) rfl rfl ?_
  exact vm_J.end vm_q100 (en := (37, .ireturn, 1, [], .null)) rfl rfl vm_rI (Nat.zero_le _) (Nat.zero_le _) rfl
set_option maxHeartbeats 4000000 in
set_option maxRecDepth 20000 in
/-- DitherDesk.paint -/
theorem c_paint_b2 {l : Launch} {X : vm_Cx} {G : List vm_Sh} {I : Nat → Nat → Int32} {F : Nat → Nat → UInt32} {p : Nat} {w : Nat} {h : Nat} {i : Nat} {j : Nat} {c : Int32} (hD : vm_isD G) (hw : I (1 + 17 + 2 * p) 0 = nI w) (hh : I (1 + 17 + 2 * p) 1 = nI h) (hp : p < 4) (hw2 : w ≤ 12) (hh2 : h ≤ 12) (hw0 : 0 < w) (hi : i < w) (hj : j < h) (hc : ¬ (0 ≤ c ∧ c ≤ 262143)) : vm_K l X vm_M100 [.ref 0, .int (nI p), .int (nI i), .int (nI j), .int c] (G, I, F) (some (.int (-2))) (G, I, F) := by
  refine vm_K.mk (by decide) (Nat.le_of_ble_eq_true rfl) ?_
  show vm_J _ _ _ (0, (0, 0), [.ref 0, .int (nI p), .int (nI i), .int (nI j), .int c, .retAddr 0, .retAddr 0], []) _ _ _
  refine vm_J.go vm_q100 (k := 3) (hs := [(12, 9, [.ref 1, .ref 38, .ref 75, .ref 112, .ref 132, .ref 135, .ref 139, .int 0, .int 0])]) (f' := (5, (0, 0), [.ref 0, .int (nI p), .int (nI i), .int (nI j), .int c, .retAddr 0, .retAddr 0], [.int (nI p), .ref 1])) (h' := (G, I, F)) (hs' := []) rfl (vm_b2 rfl (vm_b2 (vm_b2 (vm_hG hD.d) rfl) (vm_b2 rfl rfl))) ?_
  refine vm_J.call vm_q100 (Z := vm_M92) (n := 1) (k := 0) (mi := 92) (pc := 5) (en := (5, .invokevirtual 70, 3, [92, 438, 0], .null)) rfl trivial rfl rfl vm_z92 (av := [.ref 1, .int (nI p)]) (rest := []) (m_picAt_y (B := 1) (p := p) hD.w1 (by omega) (vm_pv hw hw0 hw2)) ⟨_, _, rfl, rfl, _, 9, _, hD.w1.w, rfl, rfl, rfl⟩ (Nat.le_of_ble_eq_true rfl) ⟨Nat.le_of_ble_eq_true rfl, Nat.le_of_ble_eq_true rfl⟩ ⟨Nat.le_of_ble_eq_true rfl, Nat.le_of_ble_eq_true rfl⟩ ?_
  show vm_J _ _ _ (8, (0, 0), [.ref 0, .int (nI p), .int (nI i), .int (nI j), .int c, .retAddr 0, .retAddr 0], [.ref (1 + 17 + 2 * p)]) (G, I, F) _ _
  refine vm_J.go vm_q100 (k := 6) (hs := []) (f' := (21, (0, 0), [.ref 0, .int (nI p), .int (nI i), .int (nI j), .int c, .ref (1 + 17 + 2 * p), .retAddr 0], [.int (nI j), .int (nI i), .ref (1 + 17 + 2 * p)])) (h' := (G, I, F)) (hs' := []) rfl rfl ?_
  refine vm_J.call vm_q100 (Z := vm_M37) (n := 2) (k := 0) (mi := 37) (pc := 21) (en := (21, .invokevirtual 73, 3, [37, 443, 0], .null)) rfl trivial rfl rfl vm_z37 (av := [.ref (1 + 17 + 2 * p), .int (nI i), .int (nI j)]) (rest := []) (m_Pic_holds_y (o := 1 + 17 + 2 * p) (a := 1 + 18 + 2 * p) (x := nI i) (y := nI j) (hD.w1.p p hp) (by rw [hw, hh]; exact vm_on_n hi hj hw2 hh2)) ⟨_, _, rfl, rfl, _, 3, _, (hD.w1.p p hp), rfl, rfl, rfl⟩ (Nat.le_of_ble_eq_true rfl) ⟨Nat.le_of_ble_eq_true rfl, Nat.le_of_ble_eq_true rfl⟩ ⟨Nat.le_of_ble_eq_true rfl, Nat.le_of_ble_eq_true rfl⟩ ?_
  show vm_J _ _ _ (24, (0, 0), [.ref 0, .int (nI p), .int (nI i), .int (nI j), .int c, .ref (1 + 17 + 2 * p), .retAddr 0], [.int 1]) (G, I, F) _ _
  refine vm_J.go vm_q100 (k := 1) (hs := []) (f' := (bif vm_ic .eq 1 0 then 35 else 27, (0, 0), [.ref 0, .int (nI p), .int (nI i), .int (nI j), .int c, .ref (1 + 17 + 2 * p), .retAddr 0], [])) (h' := (G, I, F)) (hs' := []) rfl rfl ?_
  refine vm_J.bF (by decide) ?_
  refine vm_J.go vm_q100 (k := 1) (hs := []) (f' := (29, (0, 0), [.ref 0, .int (nI p), .int (nI i), .int (nI j), .int c, .ref (1 + 17 + 2 * p), .retAddr 0], [.int c])) (h' := (G, I, F)) (hs' := []) rfl rfl ?_
  refine vm_J.call vm_q100 (Z := vm_M163) (n := 1) (k := 1) (mi := 163) (pc := 29) (en := (29, .invokestatic 77, 3, [163, 448, 0], .null)) rfl trivial rfl rfl vm_z163 (av := [.int c]) (rest := []) (m_isColour_n (c := c) hc) rfl (Nat.le_of_ble_eq_true rfl) ⟨Nat.le_of_ble_eq_true rfl, Nat.le_of_ble_eq_true rfl⟩ ⟨Nat.le_of_ble_eq_true rfl, Nat.le_of_ble_eq_true rfl⟩ ?_
  show vm_J _ _ _ (32, (0, 0), [.ref 0, .int (nI p), .int (nI i), .int (nI j), .int c, .ref (1 + 17 + 2 * p), .retAddr 0], [.int 0]) (G, I, F) _ _
  refine vm_J.go vm_q100 (k := 1) (hs := []) (f' := (bif vm_ic .ne 0 0 then 38 else 35, (0, 0), [.ref 0, .int (nI p), .int (nI i), .int (nI j), .int c, .ref (1 + 17 + 2 * p), .retAddr 0], [])) (h' := (G, I, F)) (hs' := []) rfl rfl ?_
  refine vm_J.bF (by decide) ?_
  refine vm_J.go vm_q100 (k := 1) (hs := []) (f' := (37, (0, 0), [.ref 0, .int (nI p), .int (nI i), .int (nI j), .int c, .ref (1 + 17 + 2 * p), .retAddr 0], [.int (-2)])) (h' := (G, I, F)) (hs' := []) rfl rfl ?_
  exact vm_J.end vm_q100 (en := (37, .ireturn, 1, [], .null)) rfl rfl vm_rI (Nat.zero_le _) (Nat.zero_le _) rfl
set_option maxHeartbeats 4000000 in
set_option maxRecDepth 20000 in
/-- DitherDesk.paint -/
theorem c_paint_y {l : Launch} {X : vm_Cx} {G : List vm_Sh} {I : Nat → Nat → Int32} {F : Nat → Nat → UInt32} {p : Nat} {w : Nat} {h : Nat} {i : Nat} {j : Nat} {c : Int32} (hD : vm_isD G) (hw : I (1 + 17 + 2 * p) 0 = nI w) (hh : I (1 + 17 + 2 * p) 1 = nI h) (hp : p < 4) (hw2 : w ≤ 12) (hh2 : h ≤ 12) (hw0 : 0 < w) (hi : i < w) (hj : j < h) (hc : 0 ≤ c ∧ c ≤ 262143) : vm_K l X vm_M100 [.ref 0, .int (nI p), .int (nI i), .int (nI j), .int c] (G, I, F) (some (.int (I (1 + 18 + 2 * p) (j * w + i)))) (G, (vm_up I (1 + 18 + 2 * p) (j * w + i) c), F) := by
  refine vm_K.mk (by decide) (Nat.le_of_ble_eq_true rfl) ?_
  have hwh := vm_mul144 hw2 hh2
  have hlin := vm_lin hi hj
  show vm_J _ _ _ (0, (0, 0), [.ref 0, .int (nI p), .int (nI i), .int (nI j), .int c, .retAddr 0, .retAddr 0], []) _ _ _
  refine vm_J.go vm_q100 (k := 3) (hs := [(12, 9, [.ref 1, .ref 38, .ref 75, .ref 112, .ref 132, .ref 135, .ref 139, .int 0, .int 0])]) (f' := (5, (0, 0), [.ref 0, .int (nI p), .int (nI i), .int (nI j), .int c, .retAddr 0, .retAddr 0], [.int (nI p), .ref 1])) (h' := (G, I, F)) (hs' := []) rfl (vm_b2 rfl (vm_b2 (vm_b2 (vm_hG hD.d) rfl) (vm_b2 rfl rfl))) ?_
  refine vm_J.call vm_q100 (Z := vm_M92) (n := 1) (k := 0) (mi := 92) (pc := 5) (en := (5, .invokevirtual 70, 3, [92, 438, 0], .null)) rfl trivial rfl rfl vm_z92 (av := [.ref 1, .int (nI p)]) (rest := []) (m_picAt_y (B := 1) (p := p) hD.w1 (by omega) (vm_pv hw hw0 hw2)) ⟨_, _, rfl, rfl, _, 9, _, hD.w1.w, rfl, rfl, rfl⟩ (Nat.le_of_ble_eq_true rfl) ⟨Nat.le_of_ble_eq_true rfl, Nat.le_of_ble_eq_true rfl⟩ ⟨Nat.le_of_ble_eq_true rfl, Nat.le_of_ble_eq_true rfl⟩ ?_
  show vm_J _ _ _ (8, (0, 0), [.ref 0, .int (nI p), .int (nI i), .int (nI j), .int c, .retAddr 0, .retAddr 0], [.ref (1 + 17 + 2 * p)]) (G, I, F) _ _
  refine vm_J.go vm_q100 (k := 6) (hs := []) (f' := (21, (0, 0), [.ref 0, .int (nI p), .int (nI i), .int (nI j), .int c, .ref (1 + 17 + 2 * p), .retAddr 0], [.int (nI j), .int (nI i), .ref (1 + 17 + 2 * p)])) (h' := (G, I, F)) (hs' := []) rfl rfl ?_
  refine vm_J.call vm_q100 (Z := vm_M37) (n := 2) (k := 0) (mi := 37) (pc := 21) (en := (21, .invokevirtual 73, 3, [37, 443, 0], .null)) rfl trivial rfl rfl vm_z37 (av := [.ref (1 + 17 + 2 * p), .int (nI i), .int (nI j)]) (rest := []) (m_Pic_holds_y (o := 1 + 17 + 2 * p) (a := 1 + 18 + 2 * p) (x := nI i) (y := nI j) (hD.w1.p p hp) (by rw [hw, hh]; exact vm_on_n hi hj hw2 hh2)) ⟨_, _, rfl, rfl, _, 3, _, (hD.w1.p p hp), rfl, rfl, rfl⟩ (Nat.le_of_ble_eq_true rfl) ⟨Nat.le_of_ble_eq_true rfl, Nat.le_of_ble_eq_true rfl⟩ ⟨Nat.le_of_ble_eq_true rfl, Nat.le_of_ble_eq_true rfl⟩ ?_
  show vm_J _ _ _ (24, (0, 0), [.ref 0, .int (nI p), .int (nI i), .int (nI j), .int c, .ref (1 + 17 + 2 * p), .retAddr 0], [.int 1]) (G, I, F) _ _
  refine vm_J.go vm_q100 (k := 1) (hs := []) (f' := (bif vm_ic .eq 1 0 then 35 else 27, (0, 0), [.ref 0, .int (nI p), .int (nI i), .int (nI j), .int c, .ref (1 + 17 + 2 * p), .retAddr 0], [])) (h' := (G, I, F)) (hs' := []) rfl rfl ?_
  refine vm_J.bF (by decide) ?_
  refine vm_J.go vm_q100 (k := 1) (hs := []) (f' := (29, (0, 0), [.ref 0, .int (nI p), .int (nI i), .int (nI j), .int c, .ref (1 + 17 + 2 * p), .retAddr 0], [.int c])) (h' := (G, I, F)) (hs' := []) rfl rfl ?_
  refine vm_J.call vm_q100 (Z := vm_M163) (n := 1) (k := 1) (mi := 163) (pc := 29) (en := (29, .invokestatic 77, 3, [163, 448, 0], .null)) rfl trivial rfl rfl vm_z163 (av := [.int c]) (rest := []) (m_isColour_y (c := c) hc) rfl (Nat.le_of_ble_eq_true rfl) ⟨Nat.le_of_ble_eq_true rfl, Nat.le_of_ble_eq_true rfl⟩ ⟨Nat.le_of_ble_eq_true rfl, Nat.le_of_ble_eq_true rfl⟩ ?_
  show vm_J _ _ _ (32, (0, 0), [.ref 0, .int (nI p), .int (nI i), .int (nI j), .int c, .ref (1 + 17 + 2 * p), .retAddr 0], [.int 1]) (G, I, F) _ _
  refine vm_J.go vm_q100 (k := 1) (hs := []) (f' := (bif vm_ic .ne 1 0 then 38 else 35, (0, 0), [.ref 0, .int (nI p), .int (nI i), .int (nI j), .int c, .ref (1 + 17 + 2 * p), .retAddr 0], [])) (h' := (G, I, F)) (hs' := []) rfl rfl ?_
  refine vm_J.bT (by decide) ?_
  refine vm_J.go vm_q100 (k := 3) (hs := []) (f' := (42, (0, 0), [.ref 0, .int (nI p), .int (nI i), .int (nI j), .int c, .ref (1 + 17 + 2 * p), .retAddr 0], [.int (nI j), .int (nI i), .ref (1 + 17 + 2 * p)])) (h' := (G, I, F)) (hs' := []) rfl rfl ?_
  refine vm_J.call vm_q100 (Z := vm_M39) (n := 2) (k := 0) (mi := 39) (pc := 42) (en := (42, .invokevirtual 81, 3, [39, 452, 0], .null)) rfl trivial rfl rfl vm_z39 (av := [.ref (1 + 17 + 2 * p), .int (nI i), .int (nI j)]) (rest := []) (m_Pic_colourAt (o := 1 + 17 + 2 * p) (a := 1 + 18 + 2 * p) (w := w) (i := i) (j := j) (hD.w1.p p hp) (hD.w1.q p hp) hw (by omega)) ⟨_, _, rfl, rfl, _, 3, _, (hD.w1.p p hp), rfl, rfl, rfl⟩ (Nat.le_of_ble_eq_true rfl) ⟨Nat.le_of_ble_eq_true rfl, Nat.le_of_ble_eq_true rfl⟩ ⟨Nat.le_of_ble_eq_true rfl, Nat.le_of_ble_eq_true rfl⟩ ?_
  show vm_J _ _ _ (45, (0, 0), [.ref 0, .int (nI p), .int (nI i), .int (nI j), .int c, .ref (1 + 17 + 2 * p), .retAddr 0], [.int (I (1 + 18 + 2 * p) (j * w + i))]) (G, I, F) _ _
  refine vm_J.go vm_q100 (k := 6) (hs := [(5, 3, [.int 0, .int 0, .ref (1 + 18 + 2 * p)])]) (f' := (56, (0, 0), [.ref 0, .int (nI p), .int (nI i), .int (nI j), .int c, .ref (1 + 17 + 2 * p), .int (I (1 + 18 + 2 * p) (j * w + i))], [.int (nI j), .int (nI i), .ref (1 + 17 + 2 * p), .ref (1 + 18 + 2 * p)])) (h' := (G, I, F)) (hs' := []) rfl (vm_b2 rfl (vm_b2 rfl (vm_b2 (vm_b2 (vm_hG (hD.w1.p p hp)) rfl) (vm_b2 rfl (vm_b2 rfl (vm_b2 rfl rfl)))))) ?_
  refine vm_J.call vm_q100 (Z := vm_M38) (n := 2) (k := 0) (mi := 38) (pc := 56) (en := (56, .invokevirtual 89, 3, [38, 463, 0], .null)) rfl trivial rfl rfl vm_z38 (av := [.ref (1 + 17 + 2 * p), .int (nI i), .int (nI j)]) (rest := [.ref (1 + 18 + 2 * p)]) (m_Pic_placeOf_n (o := 1 + 17 + 2 * p) (a := 1 + 18 + 2 * p) (w := w) (i := i) (j := j) (hD.w1.p p hp) hw) ⟨_, _, rfl, rfl, _, 3, _, (hD.w1.p p hp), rfl, rfl, rfl⟩ (Nat.le_of_ble_eq_true rfl) ⟨Nat.le_of_ble_eq_true rfl, Nat.le_of_ble_eq_true rfl⟩ ⟨Nat.le_of_ble_eq_true rfl, Nat.le_of_ble_eq_true rfl⟩ ?_
  show vm_J _ _ _ (59, (0, 0), [.ref 0, .int (nI p), .int (nI i), .int (nI j), .int c, .ref (1 + 17 + 2 * p), .int (I (1 + 18 + 2 * p) (j * w + i))], [.int (nI (j * w + i)), .ref (1 + 18 + 2 * p)]) (G, I, F) _ _
  refine vm_J.go vm_q100 (k := 1) (hs := []) (f' := (61, (0, 0), [.ref 0, .int (nI p), .int (nI i), .int (nI j), .int c, .ref (1 + 17 + 2 * p), .int (I (1 + 18 + 2 * p) (j * w + i))], [.int c, .int (nI (j * w + i)), .ref (1 + 18 + 2 * p)])) (h' := (G, I, F)) (hs' := []) rfl rfl ?_
  refine vm_J.call vm_q100 (Z := vm_M153) (n := 3) (k := 1) (mi := 153) (pc := 61) (en := (61, .invokestatic 92, 3, [153, 464, 0], .null)) rfl trivial rfl rfl vm_z153 (av := [.ref (1 + 18 + 2 * p), .int (nI (j * w + i)), .int c]) (rest := []) (m_put_n (j := j * w + i) (v := c) (hD.w1.q p hp) (by omega) (by omega)) rfl (Nat.le_of_ble_eq_true rfl) ⟨Nat.le_of_ble_eq_true rfl, Nat.le_of_ble_eq_true rfl⟩ ⟨Nat.le_of_ble_eq_true rfl, Nat.le_of_ble_eq_true rfl⟩ ?_
  show vm_J _ _ _ (64, (0, 0), [.ref 0, .int (nI p), .int (nI i), .int (nI j), .int c, .ref (1 + 17 + 2 * p), .int (I (1 + 18 + 2 * p) (j * w + i))], []) (G, (vm_up I (1 + 18 + 2 * p) (j * w + i) c), F) _ _
  refine vm_J.go vm_q100 (k := 1) (hs := []) (f' := (66, (0, 0), [.ref 0, .int (nI p), .int (nI i), .int (nI j), .int c, .ref (1 + 17 + 2 * p), .int (I (1 + 18 + 2 * p) (j * w + i))], [.int (I (1 + 18 + 2 * p) (j * w + i))])) (h' := (G, (vm_up I (1 + 18 + 2 * p) (j * w + i) c), F)) (hs' := []) rfl rfl ?_
  exact vm_J.end vm_q100 (en := (66, .ireturn, 1, [], .null)) rfl rfl vm_rI (Nat.zero_le _) (Nat.zero_le _) rfl
set_option maxHeartbeats 4000000 in
set_option maxRecDepth 20000 in
/-- DitherDesk.pixel -/
theorem c_pixel_b {l : Launch} {X : vm_Cx} {G : List vm_Sh} {I : Nat → Nat → Int32} {F : Nat → Nat → UInt32} {p : Nat} {w : Nat} {h : Nat} {x : Int32} {y : Int32} (hD : vm_isD G) (hw : I (1 + 17 + 2 * p) 0 = nI w) (hh : I (1 + 17 + 2 * p) 1 = nI h) (hp : p < 4) (hw2 : w ≤ 12) (hh2 : h ≤ 12) (hw0 : 0 < w) (ho : ¬ ((0 ≤ x ∧ x ≤ nI w - 1) ∧ 0 ≤ y ∧ y ≤ nI h - 1)) : vm_K l X vm_M103 [.ref 0, .int (nI p), .int x, .int y] (G, I, F) (some (.int (-2))) (G, I, F) := by
  refine vm_K.mk (by decide) (Nat.le_of_ble_eq_true rfl) ?_
  show vm_J _ _ _ (0, (0, 0), [.ref 0, .int (nI p), .int x, .int y, .retAddr 0], []) _ _ _
  refine vm_J.go vm_q103 (k := 3) (hs := [(12, 9, [.ref 1, .ref 38, .ref 75, .ref 112, .ref 132, .ref 135, .ref 139, .int 0, .int 0])]) (f' := (5, (0, 0), [.ref 0, .int (nI p), .int x, .int y, .retAddr 0], [.int (nI p), .ref 1])) (h' := (G, I, F)) (hs' := []) rfl (vm_b2 rfl (vm_b2 (vm_b2 (vm_hG hD.d) rfl) (vm_b2 rfl rfl))) ?_
  refine vm_J.call vm_q103 (Z := vm_M92) (n := 1) (k := 0) (mi := 92) (pc := 5) (en := (5, .invokevirtual 70, 3, [92, 438, 0], .null)) rfl trivial rfl rfl vm_z92 (av := [.ref 1, .int (nI p)]) (rest := []) (m_picAt_y (B := 1) (p := p) hD.w1 (by omega) (vm_pv hw hw0 hw2)) ⟨_, _, rfl, rfl, _, 9, _, hD.w1.w, rfl, rfl, rfl⟩ (Nat.le_of_ble_eq_true rfl) ⟨Nat.le_of_ble_eq_true rfl, Nat.le_of_ble_eq_true rfl⟩ ⟨Nat.le_of_ble_eq_true rfl, Nat.le_of_ble_eq_true rfl⟩ ?_
  show vm_J _ _ _ (8, (0, 0), [.ref 0, .int (nI p), .int x, .int y, .retAddr 0], [.ref (1 + 17 + 2 * p)]) (G, I, F) _ _
  refine vm_J.go vm_q103 (k := 6) (hs := []) (f' := (21, (0, 0), [.ref 0, .int (nI p), .int x, .int y, .ref (1 + 17 + 2 * p)], [.int y, .int x, .ref (1 + 17 + 2 * p)])) (h' := (G, I, F)) (hs' := []) rfl rfl ?_
  refine vm_J.call vm_q103 (Z := vm_M37) (n := 2) (k := 0) (mi := 37) (pc := 21) (en := (21, .invokevirtual 73, 3, [37, 443, 0], .null)) rfl trivial rfl rfl vm_z37 (av := [.ref (1 + 17 + 2 * p), .int x, .int y]) (rest := []) (m_Pic_holds_n (o := 1 + 17 + 2 * p) (a := 1 + 18 + 2 * p) (x := x) (y := y) (hD.w1.p p hp) (by rw [hw, hh]; exact ho)) ⟨_, _, rfl, rfl, _, 3, _, (hD.w1.p p hp), rfl, rfl, rfl⟩ (Nat.le_of_ble_eq_true rfl) ⟨Nat.le_of_ble_eq_true rfl, Nat.le_of_ble_eq_true rfl⟩ ⟨Nat.le_of_ble_eq_true rfl, Nat.le_of_ble_eq_true rfl⟩ ?_
  show vm_J _ _ _ (24, (0, 0), [.ref 0, .int (nI p), .int x, .int y, .ref (1 + 17 + 2 * p)], [.int 0]) (G, I, F) _ _
  refine vm_J.go vm_q103 (k := 1) (hs := []) (f' := (bif vm_ic .eq 0 0 then 37 else 27, (0, 0), [.ref 0, .int (nI p), .int x, .int y, .ref (1 + 17 + 2 * p)], [])) (h' := (G, I, F)) (hs' := []) rfl rfl ?_
  refine vm_J.bT (by decide) ?_
  refine vm_J.go vm_q103 (k := 1) (hs := []) (f' := (39, (0, 0), [.ref 0, .int (nI p), .int x, .int y, .ref (1 + 17 + 2 * p)], [.int (-2)])) (h' := (G, I, F)) (hs' := []) rfl rfl ?_
  exact vm_J.end vm_q103 (en := (39, .ireturn, 1, [], .null)) rfl rfl vm_rI (Nat.zero_le _) (Nat.zero_le _) rfl
set_option maxHeartbeats 4000000 in
set_option maxRecDepth 20000 in
/-- DitherDesk.pixel -/
theorem c_pixel_y {l : Launch} {X : vm_Cx} {G : List vm_Sh} {I : Nat → Nat → Int32} {F : Nat → Nat → UInt32} {p : Nat} {w : Nat} {h : Nat} {i : Nat} {j : Nat} (hD : vm_isD G) (hw : I (1 + 17 + 2 * p) 0 = nI w) (hh : I (1 + 17 + 2 * p) 1 = nI h) (hp : p < 4) (hw2 : w ≤ 12) (hh2 : h ≤ 12) (hw0 : 0 < w) (hi : i < w) (hj : j < h) : vm_K l X vm_M103 [.ref 0, .int (nI p), .int (nI i), .int (nI j)] (G, I, F) (some (.int (I (1 + 18 + 2 * p) (j * w + i)))) (G, I, F) := by
  refine vm_K.mk (by decide) (Nat.le_of_ble_eq_true rfl) ?_
  have hwh := vm_mul144 hw2 hh2
  have hlin := vm_lin hi hj
  show vm_J _ _ _ (0, (0, 0), [.ref 0, .int (nI p), .int (nI i), .int (nI j), .retAddr 0], []) _ _ _
  refine vm_J.go vm_q103 (k := 3) (hs := [(12, 9, [.ref 1, .ref 38, .ref 75, .ref 112, .ref 132, .ref 135, .ref 139, .int 0, .int 0])]) (f' := (5, (0, 0), [.ref 0, .int (nI p), .int (nI i), .int (nI j), .retAddr 0], [.int (nI p), .ref 1])) (h' := (G, I, F)) (hs' := []) rfl (vm_b2 rfl (vm_b2 (vm_b2 (vm_hG hD.d) rfl) (vm_b2 rfl rfl))) ?_
  refine vm_J.call vm_q103 (Z := vm_M92) (n := 1) (k := 0) (mi := 92) (pc := 5) (en := (5, .invokevirtual 70, 3, [92, 438, 0], .null)) rfl trivial rfl rfl vm_z92 (av := [.ref 1, .int (nI p)]) (rest := []) (m_picAt_y (B := 1) (p := p) hD.w1 (by omega) (vm_pv hw hw0 hw2)) ⟨_, _, rfl, rfl, _, 9, _, hD.w1.w, rfl, rfl, rfl⟩ (Nat.le_of_ble_eq_true rfl) ⟨Nat.le_of_ble_eq_true rfl, Nat.le_of_ble_eq_true rfl⟩ ⟨Nat.le_of_ble_eq_true rfl, Nat.le_of_ble_eq_true rfl⟩ ?_
  show vm_J _ _ _ (8, (0, 0), [.ref 0, .int (nI p), .int (nI i), .int (nI j), .retAddr 0], [.ref (1 + 17 + 2 * p)]) (G, I, F) _ _
  refine vm_J.go vm_q103 (k := 6) (hs := []) (f' := (21, (0, 0), [.ref 0, .int (nI p), .int (nI i), .int (nI j), .ref (1 + 17 + 2 * p)], [.int (nI j), .int (nI i), .ref (1 + 17 + 2 * p)])) (h' := (G, I, F)) (hs' := []) rfl rfl ?_
  refine vm_J.call vm_q103 (Z := vm_M37) (n := 2) (k := 0) (mi := 37) (pc := 21) (en := (21, .invokevirtual 73, 3, [37, 443, 0], .null)) rfl trivial rfl rfl vm_z37 (av := [.ref (1 + 17 + 2 * p), .int (nI i), .int (nI j)]) (rest := []) (m_Pic_holds_y (o := 1 + 17 + 2 * p) (a := 1 + 18 + 2 * p) (x := nI i) (y := nI j) (hD.w1.p p hp) (by rw [hw, hh]; exact vm_on_n hi hj hw2 hh2)) ⟨_, _, rfl, rfl, _, 3, _, (hD.w1.p p hp), rfl, rfl, rfl⟩ (Nat.le_of_ble_eq_true rfl) ⟨Nat.le_of_ble_eq_true rfl, Nat.le_of_ble_eq_true rfl⟩ ⟨Nat.le_of_ble_eq_true rfl, Nat.le_of_ble_eq_true rfl⟩ ?_
  show vm_J _ _ _ (24, (0, 0), [.ref 0, .int (nI p), .int (nI i), .int (nI j), .ref (1 + 17 + 2 * p)], [.int 1]) (G, I, F) _ _
  refine vm_J.go vm_q103 (k := 1) (hs := []) (f' := (bif vm_ic .eq 1 0 then 37 else 27, (0, 0), [.ref 0, .int (nI p), .int (nI i), .int (nI j), .ref (1 + 17 + 2 * p)], [])) (h' := (G, I, F)) (hs' := []) rfl rfl ?_
  refine vm_J.bF (by decide) ?_
  refine vm_J.go vm_q103 (k := 3) (hs := []) (f' := (31, (0, 0), [.ref 0, .int (nI p), .int (nI i), .int (nI j), .ref (1 + 17 + 2 * p)], [.int (nI j), .int (nI i), .ref (1 + 17 + 2 * p)])) (h' := (G, I, F)) (hs' := []) rfl rfl ?_
  refine vm_J.call vm_q103 (Z := vm_M39) (n := 2) (k := 0) (mi := 39) (pc := 31) (en := (31, .invokevirtual 81, 3, [39, 452, 0], .null)) rfl trivial rfl rfl vm_z39 (av := [.ref (1 + 17 + 2 * p), .int (nI i), .int (nI j)]) (rest := []) (m_Pic_colourAt (o := 1 + 17 + 2 * p) (a := 1 + 18 + 2 * p) (w := w) (i := i) (j := j) (hD.w1.p p hp) (hD.w1.q p hp) hw (by omega)) ⟨_, _, rfl, rfl, _, 3, _, (hD.w1.p p hp), rfl, rfl, rfl⟩ (Nat.le_of_ble_eq_true rfl) ⟨Nat.le_of_ble_eq_true rfl, Nat.le_of_ble_eq_true rfl⟩ ⟨Nat.le_of_ble_eq_true rfl, Nat.le_of_ble_eq_true rfl⟩ ?_
  show vm_J _ _ _ (34, (0, 0), [.ref 0, .int (nI p), .int (nI i), .int (nI j), .ref (1 + 17 + 2 * p)], [.int (I (1 + 18 + 2 * p) (j * w + i))]) (G, I, F) _ _
  refine vm_J.go vm_q103 (k := 1) (hs := []) (f' := (39, (0, 0), [.ref 0, .int (nI p), .int (nI i), .int (nI j), .ref (1 + 17 + 2 * p)], [.int (I (1 + 18 + 2 * p) (j * w + i))])) (h' := (G, I, F)) (hs' := []) rfl rfl ?_
  exact vm_J.end vm_q103 (en := (39, .ireturn, 1, [], .null)) rfl rfl vm_rI (Nat.zero_le _) (Nat.zero_le _) rfl
set_option maxHeartbeats 4000000 in
set_option maxRecDepth 20000 in
/-- DitherDesk.noise -/
theorem c_noise_y {l : Launch} {X : vm_Cx} {G : List vm_Sh} {I : Nat → Nat → Int32} {F : Nat → Nat → UInt32} {p : Nat} {w : Nat} {h : Nat} {c : Int32} (hD : vm_isD G) (hw : I (1 + 17 + 2 * p) 0 = nI w) (hh : I (1 + 17 + 2 * p) 1 = nI h) (hp : p < 4) (hw2 : w ≤ 12) (hh2 : h ≤ 12) (hw0 : 0 < w) : vm_K l X vm_M101 [.ref 0, .int (nI p), .int c] (G, I, F) (some (.int (nI (w * h)))) (G, (vm_wr I (1 + 18 + 2 * p) (sp_nc c) (w * h)), F) := by
  refine vm_K.mk (by decide) (Nat.le_of_ble_eq_true rfl) ?_
  show vm_J _ _ _ (0, (0, 0), [.ref 0, .int (nI p), .int c, .retAddr 0], []) _ _ _
  refine vm_J.go vm_q101 (k := 3) (hs := [(12, 9, [.ref 1, .ref 38, .ref 75, .ref 112, .ref 132, .ref 135, .ref 139, .int 0, .int 0])]) (f' := (5, (0, 0), [.ref 0, .int (nI p), .int c, .retAddr 0], [.int (nI p), .ref 1])) (h' := (G, I, F)) (hs' := []) rfl (vm_b2 rfl (vm_b2 (vm_b2 (vm_hG hD.d) rfl) (vm_b2 rfl rfl))) ?_
  refine vm_J.call vm_q101 (Z := vm_M92) (n := 1) (k := 0) (mi := 92) (pc := 5) (en := (5, .invokevirtual 70, 3, [92, 438, 0], .null)) rfl trivial rfl rfl vm_z92 (av := [.ref 1, .int (nI p)]) (rest := []) (m_picAt_y (B := 1) (p := p) hD.w1 (by omega) (vm_pv hw hw0 hw2)) ⟨_, _, rfl, rfl, _, 9, _, hD.w1.w, rfl, rfl, rfl⟩ (Nat.le_of_ble_eq_true rfl) ⟨Nat.le_of_ble_eq_true rfl, Nat.le_of_ble_eq_true rfl⟩ ⟨Nat.le_of_ble_eq_true rfl, Nat.le_of_ble_eq_true rfl⟩ ?_
  show vm_J _ _ _ (8, (0, 0), [.ref 0, .int (nI p), .int c, .retAddr 0], [.ref (1 + 17 + 2 * p)]) (G, I, F) _ _
  refine vm_J.go vm_q101 (k := 5) (hs := []) (f' := (17, (0, 0), [.ref 0, .int (nI p), .int c, .ref (1 + 17 + 2 * p)], [.int c, .ref (1 + 17 + 2 * p)])) (h' := (G, I, F)) (hs' := []) rfl rfl ?_
  refine vm_J.call vm_q101 (Z := vm_M41) (n := 1) (k := 0) (mi := 41) (pc := 17) (en := (17, .invokevirtual 96, 3, [41, 471, 0], .null)) rfl trivial rfl rfl vm_z41 (av := [.ref (1 + 17 + 2 * p), .int c]) (rest := []) (m_Pic_drawNoise (o := 1 + 17 + 2 * p) (a := 1 + 18 + 2 * p) (w := w) (h := h) (s := c) (hD.w1.p p hp) (hD.w1.q p hp) hw hh (by omega) (by omega) (by omega)) ⟨_, _, rfl, rfl, _, 3, _, (hD.w1.p p hp), rfl, rfl, rfl⟩ (Nat.le_of_ble_eq_true rfl) ⟨Nat.le_of_ble_eq_true rfl, Nat.le_of_ble_eq_true rfl⟩ ⟨Nat.le_of_ble_eq_true rfl, Nat.le_of_ble_eq_true rfl⟩ ?_
  show vm_J _ _ _ (20, (0, 0), [.ref 0, .int (nI p), .int c, .ref (1 + 17 + 2 * p)], []) (G, (vm_wr I (1 + 18 + 2 * p) (sp_nc c) (w * h)), F) _ _
  refine vm_J.go vm_q101 (k := 1) (hs := []) (f' := (21, (0, 0), [.ref 0, .int (nI p), .int c, .ref (1 + 17 + 2 * p)], [.ref (1 + 17 + 2 * p)])) (h' := (G, (vm_wr I (1 + 18 + 2 * p) (sp_nc c) (w * h)), F)) (hs' := []) rfl rfl ?_
  refine vm_J.call vm_q101 (Z := vm_M36) (n := 0) (k := 0) (mi := 36) (pc := 21) (en := (21, .invokevirtual 66, 3, [36, 430, 0], .null)) rfl trivial rfl rfl vm_z36 (av := [.ref (1 + 17 + 2 * p)]) (rest := []) (m_Pic_pixels_n (o := 1 + 17 + 2 * p) (a := 1 + 18 + 2 * p) (w := w) (h := h) (hD.w1.p p hp) (Eq.trans (congrFun (vm_wr_o _ (1 + 18 + 2 * p) (w * h) (1 + 17 + 2 * p) _ (by omega)) 0) hw) (Eq.trans (congrFun (vm_wr_o _ (1 + 18 + 2 * p) (w * h) (1 + 17 + 2 * p) _ (by omega)) 1) hh)) ⟨_, _, rfl, rfl, _, 3, _, (hD.w1.p p hp), rfl, rfl, rfl⟩ (Nat.le_of_ble_eq_true rfl) ⟨Nat.le_of_ble_eq_true rfl, Nat.le_of_ble_eq_true rfl⟩ ⟨Nat.le_of_ble_eq_true rfl, Nat.le_of_ble_eq_true rfl⟩ ?_
  show vm_J _ _ _ (24, (0, 0), [.ref 0, .int (nI p), .int c, .ref (1 + 17 + 2 * p)], [.int (nI (w * h))]) (G, (vm_wr I (1 + 18 + 2 * p) (sp_nc c) (w * h)), F) _ _
  exact vm_J.end vm_q101 (en := (24, .ireturn, 1, [], .null)) rfl rfl vm_rI (Nat.zero_le _) (Nat.zero_le _) rfl
set_option maxHeartbeats 4000000 in
set_option maxRecDepth 20000 in
/-- DitherDesk.shade -/
theorem c_shade_b {l : Launch} {X : vm_Cx} {G : List vm_Sh} {I : Nat → Nat → Int32} {F : Nat → Nat → UInt32} {p : Nat} {w : Nat} {a : Int32} {b : Int32} (hD : vm_isD G) (hw : I (1 + 17 + 2 * p) 0 = nI w) (hp : p < 4) (hw2 : w ≤ 12) (hw0 : 0 < w) (hc : ¬ ((0 ≤ a ∧ a ≤ 262143) ∧ 0 ≤ b ∧ b ≤ 262143)) : vm_K l X vm_M102 [.ref 0, .int (nI p), .int a, .int b] (G, I, F) (some (.int (-2))) (G, I, F) := by
  refine vm_K.mk (by decide) (Nat.le_of_ble_eq_true rfl) ?_
  show vm_J _ _ _ (0, (0, 0), [.ref 0, .int (nI p), .int a, .int b, .retAddr 0], []) _ _ _
  refine vm_J.go vm_q102 (k := 3) (hs := [(12, 9, [.ref 1, .ref 38, .ref 75, .ref 112, .ref 132, .ref 135, .ref 139, .int 0, .int 0])]) (f' := (5, (0, 0), [.ref 0, .int (nI p), .int a, .int b, .retAddr 0], [.int (nI p), .ref 1])) (h' := (G, I, F)) (hs' := []) rfl (vm_b2 rfl (vm_b2 (vm_b2 (vm_hG hD.d) rfl) (vm_b2 rfl rfl))) ?_
  refine vm_J.call vm_q102 (Z := vm_M92) (n := 1) (k := 0) (mi := 92) (pc := 5) (en := (5, .invokevirtual 70, 3, [92, 438, 0], .null)) rfl trivial rfl rfl vm_z92 (av := [.ref 1, .int (nI p)]) (rest := []) (m_picAt_y (B := 1) (p := p) hD.w1 (by omega) (vm_pv hw hw0 hw2)) ⟨_, _, rfl, rfl, _, 9, _, hD.w1.w, rfl, rfl, rfl⟩ (Nat.le_of_ble_eq_true rfl) ⟨Nat.le_of_ble_eq_true rfl, Nat.le_of_ble_eq_true rfl⟩ ⟨Nat.le_of_ble_eq_true rfl, Nat.le_of_ble_eq_true rfl⟩ ?_
  show vm_J _ _ _ (8, (0, 0), [.ref 0, .int (nI p), .int a, .int b, .retAddr 0], [.ref (1 + 17 + 2 * p)]) (G, I, F) _ _
  refine vm_J.go vm_q102 (k := 4) (hs := []) (f' := (18, (0, 0), [.ref 0, .int (nI p), .int a, .int b, .ref (1 + 17 + 2 * p)], [.int a])) (h' := (G, I, F)) (hs' := []) rfl rfl ?_
  refine vm_J.call vm_q102 (Z := vm_M163) (n := 1) (k := 1) (mi := 163) (pc := 18) (en := (18, .invokestatic 77, 3, [163, 448, 0], .null)) rfl trivial rfl rfl vm_z163 (av := [.int a]) (rest := []) (m_isColour (c := a)) rfl (Nat.le_of_ble_eq_true rfl) ⟨Nat.le_of_ble_eq_true rfl, Nat.le_of_ble_eq_true rfl⟩ ⟨Nat.le_of_ble_eq_true rfl, Nat.le_of_ble_eq_true rfl⟩ ?_
  show vm_J _ _ _ (21, (0, 0), [.ref 0, .int (nI p), .int a, .int b, .ref (1 + 17 + 2 * p)], [.int (vm_bi (0 ≤ a ∧ a ≤ 262143))]) (G, I, F) _ _
  refine vm_J.go vm_q102 (k := 1) (hs := []) (f' := (bif vm_ic .eq (vm_bi (0 ≤ a ∧ a ≤ 262143)) 0 then 31 else 24, (0, 0), [.ref 0, .int (nI p), .int a, .int b, .ref (1 + 17 + 2 * p)], [])) (h' := (G, I, F)) (hs' := []) rfl rfl ?_
  refine vm_J.br (fun c1 => ?_) (fun c1 => ?_)
  · have c1 := vm_bi_eq_t c1
    refine vm_J.go vm_q102 (k := 1) (hs := []) (f' := (33, (0, 0), [.ref 0, .int (nI p), .int a, .int b, .ref (1 + 17 + 2 * p)], [.int (-2)])) (h' := (G, I, F)) (hs' := []) rfl rfl ?_
    exact vm_J.end vm_q102 (en := (33, .ireturn, 1, [], .null)) rfl rfl vm_rI (Nat.zero_le _) (Nat.zero_le _) rfl
  · have c1 := vm_bi_eq_f c1
    refine vm_J.go vm_q102 (k := 1) (hs := []) (f' := (25, (0, 0), [.ref 0, .int (nI p), .int a, .int b, .ref (1 + 17 + 2 * p)], [.int b])) (h' := (G, I, F)) (hs' := []) rfl rfl ?_
    refine vm_J.call vm_q102 (Z := vm_M163) (n := 1) (k := 1) (mi := 163) (pc := 25) (en := (25, .invokestatic 77, 3, [163, 448, 0], .null)) rfl trivial rfl rfl vm_z163 (av := [.int b]) (rest := []) (m_isColour (c := b)) rfl (Nat.le_of_ble_eq_true rfl) ⟨Nat.le_of_ble_eq_true rfl, Nat.le_of_ble_eq_true rfl⟩ ⟨Nat.le_of_ble_eq_true rfl, Nat.le_of_ble_eq_true rfl⟩ ?_
    show vm_J _ _ _ (28, (0, 0), [.ref 0, .int (nI p), .int a, .int b, .ref (1 + 17 + 2 * p)], [.int (vm_bi (0 ≤ b ∧ b ≤ 262143))]) (G, I, F) _ _
    refine vm_J.go vm_q102 (k := 1) (hs := []) (f' := (bif vm_ic .ne (vm_bi (0 ≤ b ∧ b ≤ 262143)) 0 then 34 else 31, (0, 0), [.ref 0, .int (nI p), .int a, .int b, .ref (1 + 17 + 2 * p)], [])) (h' := (G, I, F)) (hs' := []) rfl rfl ?_
    refine vm_J.br (fun c2 => ?_) (fun c2 => ?_)
    · have c2 := vm_bi_ne_t c2
      exact absurd ⟨c1, c2⟩ hc
    · have c2 := vm_bi_ne_f c2
      refine vm_J.go vm_q102 (k := 1) (hs := []) (f' := (33, (0, 0), [.ref 0, .int (nI p), .int a, .int b, .ref (1 + 17 + 2 * p)], [.int (-2)])) (h' := (G, I, F)) (hs' := []) rfl rfl ?_
      exact vm_J.end vm_q102 (en := (33, .ireturn, 1, [], .null)) rfl rfl vm_rI (Nat.zero_le _) (Nat.zero_le _) rfl
set_option maxHeartbeats 4000000 in
set_option maxRecDepth 20000 in
/-- DitherDesk.shade -/
theorem c_shade_y {l : Launch} {X : vm_Cx} {G : List vm_Sh} {I : Nat → Nat → Int32} {F : Nat → Nat → UInt32} {p : Nat} {w : Nat} {h : Nat} {a : Int32} {b : Int32} (hD : vm_isD G) (hw : I (1 + 17 + 2 * p) 0 = nI w) (hh : I (1 + 17 + 2 * p) 1 = nI h) (hp : p < 4) (hw2 : w ≤ 12) (hh2 : h ≤ 12) (hw0 : 0 < w) (ha : 0 ≤ a ∧ a ≤ 262143) (hb : 0 ≤ b ∧ b ≤ 262143) : vm_K l X vm_M102 [.ref 0, .int (nI p), .int a, .int b] (G, I, F) (some (.int (nI (w * h)))) (G, (vm_wr I (1 + 18 + 2 * p) (sp_sd a b w) (w * h)), F) := by
  refine vm_K.mk (by decide) (Nat.le_of_ble_eq_true rfl) ?_
  show vm_J _ _ _ (0, (0, 0), [.ref 0, .int (nI p), .int a, .int b, .retAddr 0], []) _ _ _
  refine vm_J.go vm_q102 (k := 3) (hs := [(12, 9, [.ref 1, .ref 38, .ref 75, .ref 112, .ref 132, .ref 135, .ref 139, .int 0, .int 0])]) (f' := (5, (0, 0), [.ref 0, .int (nI p), .int a, .int b, .retAddr 0], [.int (nI p), .ref 1])) (h' := (G, I, F)) (hs' := []) rfl (vm_b2 rfl (vm_b2 (vm_b2 (vm_hG hD.d) rfl) (vm_b2 rfl rfl))) ?_
  refine vm_J.call vm_q102 (Z := vm_M92) (n := 1) (k := 0) (mi := 92) (pc := 5) (en := (5, .invokevirtual 70, 3, [92, 438, 0], .null)) rfl trivial rfl rfl vm_z92 (av := [.ref 1, .int (nI p)]) (rest := []) (m_picAt_y (B := 1) (p := p) hD.w1 (by omega) (vm_pv hw hw0 hw2)) ⟨_, _, rfl, rfl, _, 9, _, hD.w1.w, rfl, rfl, rfl⟩ (Nat.le_of_ble_eq_true rfl) ⟨Nat.le_of_ble_eq_true rfl, Nat.le_of_ble_eq_true rfl⟩ ⟨Nat.le_of_ble_eq_true rfl, Nat.le_of_ble_eq_true rfl⟩ ?_
  show vm_J _ _ _ (8, (0, 0), [.ref 0, .int (nI p), .int a, .int b, .retAddr 0], [.ref (1 + 17 + 2 * p)]) (G, I, F) _ _
  refine vm_J.go vm_q102 (k := 4) (hs := []) (f' := (18, (0, 0), [.ref 0, .int (nI p), .int a, .int b, .ref (1 + 17 + 2 * p)], [.int a])) (h' := (G, I, F)) (hs' := []) rfl rfl ?_
  refine vm_J.call vm_q102 (Z := vm_M163) (n := 1) (k := 1) (mi := 163) (pc := 18) (en := (18, .invokestatic 77, 3, [163, 448, 0], .null)) rfl trivial rfl rfl vm_z163 (av := [.int a]) (rest := []) (m_isColour_y (c := a) ha) rfl (Nat.le_of_ble_eq_true rfl) ⟨Nat.le_of_ble_eq_true rfl, Nat.le_of_ble_eq_true rfl⟩ ⟨Nat.le_of_ble_eq_true rfl, Nat.le_of_ble_eq_true rfl⟩ ?_
  show vm_J _ _ _ (21, (0, 0), [.ref 0, .int (nI p), .int a, .int b, .ref (1 + 17 + 2 * p)], [.int 1]) (G, I, F) _ _
  refine vm_J.go vm_q102 (k := 1) (hs := []) (f' := (bif vm_ic .eq 1 0 then 31 else 24, (0, 0), [.ref 0, .int (nI p), .int a, .int b, .ref (1 + 17 + 2 * p)], [])) (h' := (G, I, F)) (hs' := []) rfl rfl ?_
  refine vm_J.bF (by decide) ?_
  refine vm_J.go vm_q102 (k := 1) (hs := []) (f' := (25, (0, 0), [.ref 0, .int (nI p), .int a, .int b, .ref (1 + 17 + 2 * p)], [.int b])) (h' := (G, I, F)) (hs' := []) rfl rfl ?_
  refine vm_J.call vm_q102 (Z := vm_M163) (n := 1) (k := 1) (mi := 163) (pc := 25) (en := (25, .invokestatic 77, 3, [163, 448, 0], .null)) rfl trivial rfl rfl vm_z163 (av := [.int b]) (rest := []) (m_isColour_y (c := b) hb) rfl (Nat.le_of_ble_eq_true rfl) ⟨Nat.le_of_ble_eq_true rfl, Nat.le_of_ble_eq_true rfl⟩ ⟨Nat.le_of_ble_eq_true rfl, Nat.le_of_ble_eq_true rfl⟩ ?_
  show vm_J _ _ _ (28, (0, 0), [.ref 0, .int (nI p), .int a, .int b, .ref (1 + 17 + 2 * p)], [.int 1]) (G, I, F) _ _
  refine vm_J.go vm_q102 (k := 1) (hs := []) (f' := (bif vm_ic .ne 1 0 then 34 else 31, (0, 0), [.ref 0, .int (nI p), .int a, .int b, .ref (1 + 17 + 2 * p)], [])) (h' := (G, I, F)) (hs' := []) rfl rfl ?_
  refine vm_J.bT (by decide) ?_
  refine vm_J.go vm_q102 (k := 3) (hs := []) (f' := (38, (0, 0), [.ref 0, .int (nI p), .int a, .int b, .ref (1 + 17 + 2 * p)], [.int b, .int a, .ref (1 + 17 + 2 * p)])) (h' := (G, I, F)) (hs' := []) rfl rfl ?_
  refine vm_J.call vm_q102 (Z := vm_M42) (n := 2) (k := 0) (mi := 42) (pc := 38) (en := (38, .invokevirtual 100, 3, [42, 482, 0], .null)) rfl trivial rfl rfl vm_z42 (av := [.ref (1 + 17 + 2 * p), .int a, .int b]) (rest := []) (m_Pic_drawShade (o := 1 + 17 + 2 * p) (a := 1 + 18 + 2 * p) (w := w) (h := h) (f := a) (t := b) (hD.w1.p p hp) (hD.w1.q p hp) hw hh (by omega) (by omega) (by omega)) ⟨_, _, rfl, rfl, _, 3, _, (hD.w1.p p hp), rfl, rfl, rfl⟩ (Nat.le_of_ble_eq_true rfl) ⟨Nat.le_of_ble_eq_true rfl, Nat.le_of_ble_eq_true rfl⟩ ⟨Nat.le_of_ble_eq_true rfl, Nat.le_of_ble_eq_true rfl⟩ ?_
  show vm_J _ _ _ (41, (0, 0), [.ref 0, .int (nI p), .int a, .int b, .ref (1 + 17 + 2 * p)], []) (G, (vm_wr I (1 + 18 + 2 * p) (sp_sd a b w) (w * h)), F) _ _
  refine vm_J.go vm_q102 (k := 1) (hs := []) (f' := (43, (0, 0), [.ref 0, .int (nI p), .int a, .int b, .ref (1 + 17 + 2 * p)], [.ref (1 + 17 + 2 * p)])) (h' := (G, (vm_wr I (1 + 18 + 2 * p) (sp_sd a b w) (w * h)), F)) (hs' := []) rfl rfl ?_
  refine vm_J.call vm_q102 (Z := vm_M36) (n := 0) (k := 0) (mi := 36) (pc := 43) (en := (43, .invokevirtual 66, 3, [36, 430, 0], .null)) rfl trivial rfl rfl vm_z36 (av := [.ref (1 + 17 + 2 * p)]) (rest := []) (m_Pic_pixels_n (o := 1 + 17 + 2 * p) (a := 1 + 18 + 2 * p) (w := w) (h := h) (hD.w1.p p hp) (Eq.trans (congrFun (vm_wr_o _ (1 + 18 + 2 * p) (w * h) (1 + 17 + 2 * p) _ (by omega)) 0) hw) (Eq.trans (congrFun (vm_wr_o _ (1 + 18 + 2 * p) (w * h) (1 + 17 + 2 * p) _ (by omega)) 1) hh)) ⟨_, _, rfl, rfl, _, 3, _, (hD.w1.p p hp), rfl, rfl, rfl⟩ (Nat.le_of_ble_eq_true rfl) ⟨Nat.le_of_ble_eq_true rfl, Nat.le_of_ble_eq_true rfl⟩ ⟨Nat.le_of_ble_eq_true rfl, Nat.le_of_ble_eq_true rfl⟩ ?_
  show vm_J _ _ _ (46, (0, 0), [.ref 0, .int (nI p), .int a, .int b, .ref (1 + 17 + 2 * p)], [.int (nI (w * h))]) (G, (vm_wr I (1 + 18 + 2 * p) (sp_sd a b w) (w * h)), F) _ _
  exact vm_J.end vm_q102 (en := (46, .ireturn, 1, [], .null)) rfl rfl vm_rI (Nat.zero_le _) (Nat.zero_le _) rfl
set_option maxHeartbeats 4000000 in
set_option maxRecDepth 20000 in
/-- DitherDesk.many -/
theorem c_many_b {l : Launch} {X : vm_Cx} {G : List vm_Sh} {I : Nat → Nat → Int32} {F : Nat → Nat → UInt32} {p : Nat} {w : Nat} {c : Int32} (hD : vm_isD G) (hw : I (1 + 17 + 2 * p) 0 = nI w) (hp : p < 4) (hw2 : w ≤ 12) (hw0 : 0 < w) (hc : ¬ (0 ≤ c ∧ c ≤ 262143)) : vm_K l X vm_M105 [.ref 0, .int (nI p), .int c] (G, I, F) (some (.int (-2))) (G, I, F) := by
  refine vm_K.mk (by decide) (Nat.le_of_ble_eq_true rfl) ?_
  show vm_J _ _ _ (0, (0, 0), [.ref 0, .int (nI p), .int c, .retAddr 0], []) _ _ _
  refine vm_J.go vm_q105 (k := 3) (hs := [(12, 9, [.ref 1, .ref 38, .ref 75, .ref 112, .ref 132, .ref 135, .ref 139, .int 0, .int 0])]) (f' := (5, (0, 0), [.ref 0, .int (nI p), .int c, .retAddr 0], [.int (nI p), .ref 1])) (h' := (G, I, F)) (hs' := []) rfl (vm_b2 rfl (vm_b2 (vm_b2 (vm_hG hD.d) rfl) (vm_b2 rfl rfl))) ?_
  refine vm_J.call vm_q105 (Z := vm_M92) (n := 1) (k := 0) (mi := 92) (pc := 5) (en := (5, .invokevirtual 70, 3, [92, 438, 0], .null)) rfl trivial rfl rfl vm_z92 (av := [.ref 1, .int (nI p)]) (rest := []) (m_picAt_y (B := 1) (p := p) hD.w1 (by omega) (vm_pv hw hw0 hw2)) ⟨_, _, rfl, rfl, _, 9, _, hD.w1.w, rfl, rfl, rfl⟩ (Nat.le_of_ble_eq_true rfl) ⟨Nat.le_of_ble_eq_true rfl, Nat.le_of_ble_eq_true rfl⟩ ⟨Nat.le_of_ble_eq_true rfl, Nat.le_of_ble_eq_true rfl⟩ ?_
  show vm_J _ _ _ (8, (0, 0), [.ref 0, .int (nI p), .int c, .retAddr 0], [.ref (1 + 17 + 2 * p)]) (G, I, F) _ _
  refine vm_J.go vm_q105 (k := 4) (hs := []) (f' := (16, (0, 0), [.ref 0, .int (nI p), .int c, .ref (1 + 17 + 2 * p)], [.int c])) (h' := (G, I, F)) (hs' := []) rfl rfl ?_
  refine vm_J.call vm_q105 (Z := vm_M163) (n := 1) (k := 1) (mi := 163) (pc := 16) (en := (16, .invokestatic 77, 3, [163, 448, 0], .null)) rfl trivial rfl rfl vm_z163 (av := [.int c]) (rest := []) (m_isColour_n (c := c) hc) rfl (Nat.le_of_ble_eq_true rfl) ⟨Nat.le_of_ble_eq_true rfl, Nat.le_of_ble_eq_true rfl⟩ ⟨Nat.le_of_ble_eq_true rfl, Nat.le_of_ble_eq_true rfl⟩ ?_
  show vm_J _ _ _ (19, (0, 0), [.ref 0, .int (nI p), .int c, .ref (1 + 17 + 2 * p)], [.int 0]) (G, I, F) _ _
  refine vm_J.go vm_q105 (k := 1) (hs := []) (f' := (bif vm_ic .eq 0 0 then 30 else 22, (0, 0), [.ref 0, .int (nI p), .int c, .ref (1 + 17 + 2 * p)], [])) (h' := (G, I, F)) (hs' := []) rfl rfl ?_
  refine vm_J.bT (by decide) ?_
  refine vm_J.go vm_q105 (k := 1) (hs := []) (f' := (32, (0, 0), [.ref 0, .int (nI p), .int c, .ref (1 + 17 + 2 * p)], [.int (-2)])) (h' := (G, I, F)) (hs' := []) rfl rfl ?_
  exact vm_J.end vm_q105 (en := (32, .ireturn, 1, [], .null)) rfl rfl vm_rI (Nat.zero_le _) (Nat.zero_le _) rfl
set_option maxHeartbeats 4000000 in
set_option maxRecDepth 20000 in
/-- DitherDesk.many -/
theorem c_many_y {l : Launch} {X : vm_Cx} {G : List vm_Sh} {I : Nat → Nat → Int32} {F : Nat → Nat → UInt32} {p : Nat} {w : Nat} {h : Nat} {c : Int32} (hD : vm_isD G) (hw : I (1 + 17 + 2 * p) 0 = nI w) (hh : I (1 + 17 + 2 * p) 1 = nI h) (hp : p < 4) (hw2 : w ≤ 12) (hh2 : h ≤ 12) (hw0 : 0 < w) (hc : 0 ≤ c ∧ c ≤ 262143) : vm_K l X vm_M105 [.ref 0, .int (nI p), .int c] (G, I, F) (some (.int (sp_sum (fun z => if I (1 + 18 + 2 * p) z = c then 1 else 0) (w * h)))) (G, I, F) := by
  refine vm_K.mk (by decide) (Nat.le_of_ble_eq_true rfl) ?_
  show vm_J _ _ _ (0, (0, 0), [.ref 0, .int (nI p), .int c, .retAddr 0], []) _ _ _
  refine vm_J.go vm_q105 (k := 3) (hs := [(12, 9, [.ref 1, .ref 38, .ref 75, .ref 112, .ref 132, .ref 135, .ref 139, .int 0, .int 0])]) (f' := (5, (0, 0), [.ref 0, .int (nI p), .int c, .retAddr 0], [.int (nI p), .ref 1])) (h' := (G, I, F)) (hs' := []) rfl (vm_b2 rfl (vm_b2 (vm_b2 (vm_hG hD.d) rfl) (vm_b2 rfl rfl))) ?_
  refine vm_J.call vm_q105 (Z := vm_M92) (n := 1) (k := 0) (mi := 92) (pc := 5) (en := (5, .invokevirtual 70, 3, [92, 438, 0], .null)) rfl trivial rfl rfl vm_z92 (av := [.ref 1, .int (nI p)]) (rest := []) (m_picAt_y (B := 1) (p := p) hD.w1 (by omega) (vm_pv hw hw0 hw2)) ⟨_, _, rfl, rfl, _, 9, _, hD.w1.w, rfl, rfl, rfl⟩ (Nat.le_of_ble_eq_true rfl) ⟨Nat.le_of_ble_eq_true rfl, Nat.le_of_ble_eq_true rfl⟩ ⟨Nat.le_of_ble_eq_true rfl, Nat.le_of_ble_eq_true rfl⟩ ?_
  show vm_J _ _ _ (8, (0, 0), [.ref 0, .int (nI p), .int c, .retAddr 0], [.ref (1 + 17 + 2 * p)]) (G, I, F) _ _
  refine vm_J.go vm_q105 (k := 4) (hs := []) (f' := (16, (0, 0), [.ref 0, .int (nI p), .int c, .ref (1 + 17 + 2 * p)], [.int c])) (h' := (G, I, F)) (hs' := []) rfl rfl ?_
  refine vm_J.call vm_q105 (Z := vm_M163) (n := 1) (k := 1) (mi := 163) (pc := 16) (en := (16, .invokestatic 77, 3, [163, 448, 0], .null)) rfl trivial rfl rfl vm_z163 (av := [.int c]) (rest := []) (m_isColour_y (c := c) hc) rfl (Nat.le_of_ble_eq_true rfl) ⟨Nat.le_of_ble_eq_true rfl, Nat.le_of_ble_eq_true rfl⟩ ⟨Nat.le_of_ble_eq_true rfl, Nat.le_of_ble_eq_true rfl⟩ ?_
  show vm_J _ _ _ (19, (0, 0), [.ref 0, .int (nI p), .int c, .ref (1 + 17 + 2 * p)], [.int 1]) (G, I, F) _ _
  refine vm_J.go vm_q105 (k := 1) (hs := []) (f' := (bif vm_ic .eq 1 0 then 30 else 22, (0, 0), [.ref 0, .int (nI p), .int c, .ref (1 + 17 + 2 * p)], [])) (h' := (G, I, F)) (hs' := []) rfl rfl ?_
  refine vm_J.bF (by decide) ?_
  refine vm_J.go vm_q105 (k := 2) (hs := []) (f' := (24, (0, 0), [.ref 0, .int (nI p), .int c, .ref (1 + 17 + 2 * p)], [.int c, .ref (1 + 17 + 2 * p)])) (h' := (G, I, F)) (hs' := []) rfl rfl ?_
  refine vm_J.call vm_q105 (Z := vm_M43) (n := 1) (k := 0) (mi := 43) (pc := 24) (en := (24, .invokevirtual 122, 3, [43, 516, 0], .null)) rfl trivial rfl rfl vm_z43 (av := [.ref (1 + 17 + 2 * p), .int c]) (rest := []) (m_Pic_pixelsOf (o := 1 + 17 + 2 * p) (a := 1 + 18 + 2 * p) (w := w) (h := h) (c := c) (hD.w1.p p hp) (hD.w1.q p hp) hw hh (by omega) (by omega)) ⟨_, _, rfl, rfl, _, 3, _, (hD.w1.p p hp), rfl, rfl, rfl⟩ (Nat.le_of_ble_eq_true rfl) ⟨Nat.le_of_ble_eq_true rfl, Nat.le_of_ble_eq_true rfl⟩ ⟨Nat.le_of_ble_eq_true rfl, Nat.le_of_ble_eq_true rfl⟩ ?_
  show vm_J _ _ _ (27, (0, 0), [.ref 0, .int (nI p), .int c, .ref (1 + 17 + 2 * p)], [.int (sp_sum (fun k => if I (1 + 18 + 2 * p) k = c then 1 else 0) (w * h))]) (G, I, F) _ _
  refine vm_J.go vm_q105 (k := 1) (hs := []) (f' := (32, (0, 0), [.ref 0, .int (nI p), .int c, .ref (1 + 17 + 2 * p)], [.int (sp_sum (fun k => if I (1 + 18 + 2 * p) k = c then 1 else 0) (w * h))])) (h' := (G, I, F)) (hs' := []) rfl rfl ?_
  exact vm_J.end vm_q105 (en := (32, .ireturn, 1, [], .null)) rfl rfl vm_rI (Nat.zero_le _) (Nat.zero_le _) rfl
set_option maxHeartbeats 4000000 in
set_option maxRecDepth 20000 in
/-- DitherDesk.mean -/
theorem c_mean_b1 {l : Launch} {X : vm_Cx} {G : List vm_Sh} {I : Nat → Nat → Int32} {F : Nat → Nat → UInt32} {p : Nat} {w : Nat} {k : Int32} {t : Int32} (hD : vm_isD G) (hw : I (1 + 17 + 2 * p) 0 = nI w) (hp : p < 4) (hw2 : w ≤ 12) (hw0 : 0 < w) (hk : ¬ (0 ≤ k ∧ k ≤ 2)) : vm_K l X vm_M107 [.ref 0, .int (nI p), .int k, .int t] (G, I, F) (some (.long (-9223372036854775808))) (G, I, F) := by
  refine vm_K.mk (by decide) (Nat.le_of_ble_eq_true rfl) ?_
  show vm_J _ _ _ (0, (0, 0), [.ref 0, .int (nI p), .int k, .int t, .retAddr 0], []) _ _ _
  refine vm_J.go vm_q107 (k := 3) (hs := [(12, 9, [.ref 1, .ref 38, .ref 75, .ref 112, .ref 132, .ref 135, .ref 139, .int 0, .int 0])]) (f' := (5, (0, 0), [.ref 0, .int (nI p), .int k, .int t, .retAddr 0], [.int (nI p), .ref 1])) (h' := (G, I, F)) (hs' := []) rfl (vm_b2 rfl (vm_b2 (vm_b2 (vm_hG hD.d) rfl) (vm_b2 rfl rfl))) ?_
  refine vm_J.call vm_q107 (Z := vm_M92) (n := 1) (k := 0) (mi := 92) (pc := 5) (en := (5, .invokevirtual 70, 3, [92, 438, 0], .null)) rfl trivial rfl rfl vm_z92 (av := [.ref 1, .int (nI p)]) (rest := []) (m_picAt_y (B := 1) (p := p) hD.w1 (by omega) (vm_pv hw hw0 hw2)) ⟨_, _, rfl, rfl, _, 9, _, hD.w1.w, rfl, rfl, rfl⟩ (Nat.le_of_ble_eq_true rfl) ⟨Nat.le_of_ble_eq_true rfl, Nat.le_of_ble_eq_true rfl⟩ ⟨Nat.le_of_ble_eq_true rfl, Nat.le_of_ble_eq_true rfl⟩ ?_
  show vm_J _ _ _ (8, (0, 0), [.ref 0, .int (nI p), .int k, .int t, .retAddr 0], [.ref (1 + 17 + 2 * p)]) (G, I, F) _ _
  refine vm_J.go vm_q107 (k := 6) (hs := []) (f' := (18, (0, 0), [.ref 0, .int (nI p), .int k, .int t, .ref (1 + 17 + 2 * p)], [.int 2, .int 0, .int k])) (h' := (G, I, F)) (hs' := []) rfl rfl ?_
  refine vm_J.call vm_q107 (Z := vm_M151) (n := 3) (k := 1) (mi := 151) (pc := 18) (en := (18, .invokestatic 56, 3, [151, 420, 0], .null)) rfl trivial rfl rfl vm_z151 (av := [.int k, .int 0, .int 2]) (rest := []) (m_isWithin_n (v := k) (a := 0) (b := 2) hk) rfl (Nat.le_of_ble_eq_true rfl) ⟨Nat.le_of_ble_eq_true rfl, Nat.le_of_ble_eq_true rfl⟩ ⟨Nat.le_of_ble_eq_true rfl, Nat.le_of_ble_eq_true rfl⟩ ?_
  show vm_J _ _ _ (21, (0, 0), [.ref 0, .int (nI p), .int k, .int t, .ref (1 + 17 + 2 * p)], [.int 0]) (G, I, F) _ _
  refine vm_J.go vm_q107 (k := 1) (hs := []) (f' := (bif vm_ic .eq 0 0 then 33 else 24, (0, 0), [.ref 0, .int (nI p), .int k, .int t, .ref (1 + 17 + 2 * p)], [])) (h' := (G, I, F)) (hs' := []) rfl rfl ?_
  refine vm_J.bT (by decide) ?_
  refine vm_J.go vm_q107 (k := 1) (hs := []) (f' := (36, (0, 0), [.ref 0, .int (nI p), .int k, .int t, .ref (1 + 17 + 2 * p)], [.long (-9223372036854775808)])) (h' := (G, I, F)) (hs' := []) rfl rfl ?_
  exact vm_J.end vm_q107 (en := (36, .lreturn, 1, [], .null)) rfl rfl vm_rL (Nat.zero_le _) (Nat.zero_le _) rfl
set_option maxHeartbeats 4000000 in
set_option maxRecDepth 20000 in
/-- DitherDesk.mean -/
theorem c_mean_b2 {l : Launch} {X : vm_Cx} {G : List vm_Sh} {I : Nat → Nat → Int32} {F : Nat → Nat → UInt32} {p : Nat} {w : Nat} {k : Int32} {t : Int32} (hD : vm_isD G) (hw : I (1 + 17 + 2 * p) 0 = nI w) (hp : p < 4) (hw2 : w ≤ 12) (hw0 : 0 < w) (hk : 0 ≤ k ∧ k ≤ 2) (ht : ¬ (0 ≤ t ∧ t ≤ 1)) : vm_K l X vm_M107 [.ref 0, .int (nI p), .int k, .int t] (G, I, F) (some (.long (-9223372036854775808))) (G, I, F) := by
  refine vm_K.mk (by decide) (Nat.le_of_ble_eq_true rfl) ?_
  show vm_J _ _ _ (0, (0, 0), [.ref 0, .int (nI p), .int k, .int t, .retAddr 0], []) _ _ _
  refine vm_J.go vm_q107 (k := 3) (hs := [(12, 9, [.ref 1, .ref 38, .ref 75, .ref 112, .ref 132, .ref 135, .ref 139, .int 0, .int 0])]) (f' := (5, (0, 0), [.ref 0, .int (nI p), .int k, .int t, .retAddr 0], [.int (nI p), .ref 1])) (h' := (G, I, F)) (hs' := []) rfl (vm_b2 rfl (vm_b2 (vm_b2 (vm_hG hD.d) rfl) (vm_b2 rfl rfl))) ?_
  refine vm_J.call vm_q107 (Z := vm_M92) (n := 1) (k := 0) (mi := 92) (pc := 5) (en := (5, .invokevirtual 70, 3, [92, 438, 0], .null)) rfl trivial rfl rfl vm_z92 (av := [.ref 1, .int (nI p)]) (rest := []) (m_picAt_y (B := 1) (p := p) hD.w1 (by omega) (vm_pv hw hw0 hw2)) ⟨_, _, rfl, rfl, _, 9, _, hD.w1.w, rfl, rfl, rfl⟩ (Nat.le_of_ble_eq_true rfl) ⟨Nat.le_of_ble_eq_true rfl, Nat.le_of_ble_eq_true rfl⟩ ⟨Nat.le_of_ble_eq_true rfl, Nat.le_of_ble_eq_true rfl⟩ ?_
  show vm_J _ _ _ (8, (0, 0), [.ref 0, .int (nI p), .int k, .int t, .retAddr 0], [.ref (1 + 17 + 2 * p)]) (G, I, F) _ _
  refine vm_J.go vm_q107 (k := 6) (hs := []) (f' := (18, (0, 0), [.ref 0, .int (nI p), .int k, .int t, .ref (1 + 17 + 2 * p)], [.int 2, .int 0, .int k])) (h' := (G, I, F)) (hs' := []) rfl rfl ?_
  refine vm_J.call vm_q107 (Z := vm_M151) (n := 3) (k := 1) (mi := 151) (pc := 18) (en := (18, .invokestatic 56, 3, [151, 420, 0], .null)) rfl trivial rfl rfl vm_z151 (av := [.int k, .int 0, .int 2]) (rest := []) (m_isWithin_y (v := k) (a := 0) (b := 2) hk) rfl (Nat.le_of_ble_eq_true rfl) ⟨Nat.le_of_ble_eq_true rfl, Nat.le_of_ble_eq_true rfl⟩ ⟨Nat.le_of_ble_eq_true rfl, Nat.le_of_ble_eq_true rfl⟩ ?_
  show vm_J _ _ _ (21, (0, 0), [.ref 0, .int (nI p), .int k, .int t, .ref (1 + 17 + 2 * p)], [.int 1]) (G, I, F) _ _
  refine vm_J.go vm_q107 (k := 1) (hs := []) (f' := (bif vm_ic .eq 1 0 then 33 else 24, (0, 0), [.ref 0, .int (nI p), .int k, .int t, .ref (1 + 17 + 2 * p)], [])) (h' := (G, I, F)) (hs' := []) rfl rfl ?_
  refine vm_J.bF (by decide) ?_
  refine vm_J.go vm_q107 (k := 3) (hs := []) (f' := (27, (0, 0), [.ref 0, .int (nI p), .int k, .int t, .ref (1 + 17 + 2 * p)], [.int 1, .int 0, .int t])) (h' := (G, I, F)) (hs' := []) rfl rfl ?_
  refine vm_J.call vm_q107 (Z := vm_M151) (n := 3) (k := 1) (mi := 151) (pc := 27) (en := (27, .invokestatic 56, 3, [151, 420, 0], .null)) rfl trivial rfl rfl vm_z151 (av := [.int t, .int 0, .int 1]) (rest := []) (m_isWithin_n (v := t) (a := 0) (b := 1) ht) rfl (Nat.le_of_ble_eq_true rfl) ⟨Nat.le_of_ble_eq_true rfl, Nat.le_of_ble_eq_true rfl⟩ ⟨Nat.le_of_ble_eq_true rfl, Nat.le_of_ble_eq_true rfl⟩ ?_
  show vm_J _ _ _ (30, (0, 0), [.ref 0, .int (nI p), .int k, .int t, .ref (1 + 17 + 2 * p)], [.int 0]) (G, I, F) _ _
  refine vm_J.go vm_q107 (k := 1) (hs := []) (f' := (bif vm_ic .ne 0 0 then 37 else 33, (0, 0), [.ref 0, .int (nI p), .int k, .int t, .ref (1 + 17 + 2 * p)], [])) (h' := (G, I, F)) (hs' := []) rfl rfl ?_
  refine vm_J.bF (by decide) ?_
  refine vm_J.go vm_q107 (k := 1) (hs := []) (f' := (36, (0, 0), [.ref 0, .int (nI p), .int k, .int t, .ref (1 + 17 + 2 * p)], [.long (-9223372036854775808)])) (h' := (G, I, F)) (hs' := []) rfl rfl ?_
  exact vm_J.end vm_q107 (en := (36, .lreturn, 1, [], .null)) rfl rfl vm_rL (Nat.zero_le _) (Nat.zero_le _) rfl
set_option maxHeartbeats 4000000 in
set_option maxRecDepth 20000 in
/-- DitherDesk.mean -/
theorem c_mean_0 {l : Launch} {X : vm_Cx} {G : List vm_Sh} {I : Nat → Nat → Int32} {F : Nat → Nat → UInt32} {p : Nat} {w : Nat} {h : Nat} {kk : Int32} (hD : vm_isD G) (hw : I (1 + 17 + 2 * p) 0 = nI w) (hh : I (1 + 17 + 2 * p) 1 = nI h) (hp : p < 4) (hw2 : w ≤ 12) (hh2 : h ≤ 12) (hw0 : 0 < w) (hh0 : 0 < h) (hk : 0 ≤ kk ∧ kk ≤ 2) : vm_K l X vm_M107 [.ref 0, .int (nI p), .int kk, .int 0] (G, I, F) (some (.long ((nI ((sp_sN (fun z => sp_ch (I (1 + 18 + 2 * p) z) kk) (w * h)) / Nat.gcd (w * h) (sp_sN (fun z => sp_ch (I (1 + 18 + 2 * p) z) kk) (w * h)))).toInt64))) (G, I, F) := by
  refine vm_K.mk (by decide) (Nat.le_of_ble_eq_true rfl) ?_
  have hwh := vm_mul144 hw2 hh2
  have hpo := Nat.mul_pos hw0 hh0
  have hsn := sp_sum_N (g := fun z => sp_ch (I (1 + 18 + 2 * p) z) kk) (n := w * h) fun z _ => sp_ch_0 _ _
  have hsb := sp_sN_le (g := fun z => sp_ch (I (1 + 18 + 2 * p) z) kk) (n := w * h) fun z _ => sp_ch_63 _ _
  show vm_J _ _ _ (0, (0, 0), [.ref 0, .int (nI p), .int kk, .int 0, .retAddr 0], []) _ _ _
  refine vm_J.go vm_q107 (k := 3) (hs := [(12, 9, [.ref 1, .ref 38, .ref 75, .ref 112, .ref 132, .ref 135, .ref 139, .int 0, .int 0])]) (f' := (5, (0, 0), [.ref 0, .int (nI p), .int kk, .int 0, .retAddr 0], [.int (nI p), .ref 1])) (h' := (G, I, F)) (hs' := []) rfl (vm_b2 rfl (vm_b2 (vm_b2 (vm_hG hD.d) rfl) (vm_b2 rfl rfl))) ?_
  refine vm_J.call vm_q107 (Z := vm_M92) (n := 1) (k := 0) (mi := 92) (pc := 5) (en := (5, .invokevirtual 70, 3, [92, 438, 0], .null)) rfl trivial rfl rfl vm_z92 (av := [.ref 1, .int (nI p)]) (rest := []) (m_picAt_y (B := 1) (p := p) hD.w1 (by omega) (vm_pv hw hw0 hw2)) ⟨_, _, rfl, rfl, _, 9, _, hD.w1.w, rfl, rfl, rfl⟩ (Nat.le_of_ble_eq_true rfl) ⟨Nat.le_of_ble_eq_true rfl, Nat.le_of_ble_eq_true rfl⟩ ⟨Nat.le_of_ble_eq_true rfl, Nat.le_of_ble_eq_true rfl⟩ ?_
  show vm_J _ _ _ (8, (0, 0), [.ref 0, .int (nI p), .int kk, .int 0, .retAddr 0], [.ref (1 + 17 + 2 * p)]) (G, I, F) _ _
  refine vm_J.go vm_q107 (k := 6) (hs := []) (f' := (18, (0, 0), [.ref 0, .int (nI p), .int kk, .int 0, .ref (1 + 17 + 2 * p)], [.int 2, .int 0, .int kk])) (h' := (G, I, F)) (hs' := []) rfl rfl ?_
  refine vm_J.call vm_q107 (Z := vm_M151) (n := 3) (k := 1) (mi := 151) (pc := 18) (en := (18, .invokestatic 56, 3, [151, 420, 0], .null)) rfl trivial rfl rfl vm_z151 (av := [.int kk, .int 0, .int 2]) (rest := []) (m_isWithin_y (v := kk) (a := 0) (b := 2) hk) rfl (Nat.le_of_ble_eq_true rfl) ⟨Nat.le_of_ble_eq_true rfl, Nat.le_of_ble_eq_true rfl⟩ ⟨Nat.le_of_ble_eq_true rfl, Nat.le_of_ble_eq_true rfl⟩ ?_
  show vm_J _ _ _ (21, (0, 0), [.ref 0, .int (nI p), .int kk, .int 0, .ref (1 + 17 + 2 * p)], [.int 1]) (G, I, F) _ _
  refine vm_J.go vm_q107 (k := 1) (hs := []) (f' := (bif vm_ic .eq 1 0 then 33 else 24, (0, 0), [.ref 0, .int (nI p), .int kk, .int 0, .ref (1 + 17 + 2 * p)], [])) (h' := (G, I, F)) (hs' := []) rfl rfl ?_
  refine vm_J.bF (by decide) ?_
  refine vm_J.go vm_q107 (k := 3) (hs := []) (f' := (27, (0, 0), [.ref 0, .int (nI p), .int kk, .int 0, .ref (1 + 17 + 2 * p)], [.int 1, .int 0, .int 0])) (h' := (G, I, F)) (hs' := []) rfl rfl ?_
  refine vm_J.call vm_q107 (Z := vm_M151) (n := 3) (k := 1) (mi := 151) (pc := 27) (en := (27, .invokestatic 56, 3, [151, 420, 0], .null)) rfl trivial rfl rfl vm_z151 (av := [.int 0, .int 0, .int 1]) (rest := []) (m_isWithin_y (v := 0) (a := 0) (b := 1) (by decide)) rfl (Nat.le_of_ble_eq_true rfl) ⟨Nat.le_of_ble_eq_true rfl, Nat.le_of_ble_eq_true rfl⟩ ⟨Nat.le_of_ble_eq_true rfl, Nat.le_of_ble_eq_true rfl⟩ ?_
  show vm_J _ _ _ (30, (0, 0), [.ref 0, .int (nI p), .int kk, .int 0, .ref (1 + 17 + 2 * p)], [.int 1]) (G, I, F) _ _
  refine vm_J.go vm_q107 (k := 1) (hs := []) (f' := (bif vm_ic .ne 1 0 then 37 else 33, (0, 0), [.ref 0, .int (nI p), .int kk, .int 0, .ref (1 + 17 + 2 * p)], [])) (h' := (G, I, F)) (hs' := []) rfl rfl ?_
  refine vm_J.bT (by decide) ?_
  refine vm_J.go vm_q107 (k := 2) (hs := []) (f' := (40, (0, 0), [.ref 0, .int (nI p), .int kk, .int 0, .ref (1 + 17 + 2 * p)], [.int kk, .ref (1 + 17 + 2 * p)])) (h' := (G, I, F)) (hs' := []) rfl rfl ?_
  refine vm_J.call vm_q107 (Z := vm_M44) (n := 1) (k := 0) (mi := 44) (pc := 40) (en := (40, .invokevirtual 131, 3, [44, 537, 0], .null)) rfl trivial rfl rfl vm_z44 (av := [.ref (1 + 17 + 2 * p), .int kk]) (rest := []) (m_Pic_sumOn (o := 1 + 17 + 2 * p) (a := 1 + 18 + 2 * p) (w := w) (h := h) (c := kk) (hD.w1.p p hp) (hD.w1.q p hp) hw hh (by omega) (by omega)) ⟨_, _, rfl, rfl, _, 3, _, (hD.w1.p p hp), rfl, rfl, rfl⟩ (Nat.le_of_ble_eq_true rfl) ⟨Nat.le_of_ble_eq_true rfl, Nat.le_of_ble_eq_true rfl⟩ ⟨Nat.le_of_ble_eq_true rfl, Nat.le_of_ble_eq_true rfl⟩ ?_
  show vm_J _ _ _ (43, (0, 0), [.ref 0, .int (nI p), .int kk, .int 0, .ref (1 + 17 + 2 * p)], [.int (sp_sum (fun k => sp_ch (I (1 + 18 + 2 * p) k) kk) (w * h))]) (G, I, F) _ _
  rw [hsn]
  show vm_J _ _ _ (43, (0, 0), [.ref 0, .int (nI p), .int kk, .int 0, .ref (1 + 17 + 2 * p)], [.int (nI (sp_sN (fun z => sp_ch (I (1 + 18 + 2 * p) z) kk) (w * h)))]) (G, I, F) _ _
  refine vm_J.go vm_q107 (k := 1) (hs := []) (f' := (45, (0, 0), [.ref 0, .int (nI p), .int kk, .int 0, .ref (1 + 17 + 2 * p)], [.ref (1 + 17 + 2 * p), .int (nI (sp_sN (fun z => sp_ch (I (1 + 18 + 2 * p) z) kk) (w * h)))])) (h' := (G, I, F)) (hs' := []) rfl rfl ?_
  refine vm_J.call vm_q107 (Z := vm_M36) (n := 0) (k := 0) (mi := 36) (pc := 45) (en := (45, .invokevirtual 66, 3, [36, 430, 0], .null)) rfl trivial rfl rfl vm_z36 (av := [.ref (1 + 17 + 2 * p)]) (rest := [.int (nI (sp_sN (fun z => sp_ch (I (1 + 18 + 2 * p) z) kk) (w * h)))]) (m_Pic_pixels_n (o := 1 + 17 + 2 * p) (a := 1 + 18 + 2 * p) (w := w) (h := h) (hD.w1.p p hp) hw hh) ⟨_, _, rfl, rfl, _, 3, _, (hD.w1.p p hp), rfl, rfl, rfl⟩ (Nat.le_of_ble_eq_true rfl) ⟨Nat.le_of_ble_eq_true rfl, Nat.le_of_ble_eq_true rfl⟩ ⟨Nat.le_of_ble_eq_true rfl, Nat.le_of_ble_eq_true rfl⟩ ?_
  show vm_J _ _ _ (48, (0, 0), [.ref 0, .int (nI p), .int kk, .int 0, .ref (1 + 17 + 2 * p)], [.int (nI (w * h)), .int (nI (sp_sN (fun z => sp_ch (I (1 + 18 + 2 * p) z) kk) (w * h)))]) (G, I, F) _ _
  refine vm_J.go vm_q107 (k := 1) (hs := []) (f' := (49, (0, 0), [.ref 0, .int (nI p), .int kk, .int 0, .ref (1 + 17 + 2 * p)], [.int 0, .int (nI (w * h)), .int (nI (sp_sN (fun z => sp_ch (I (1 + 18 + 2 * p) z) kk) (w * h)))])) (h' := (G, I, F)) (hs' := []) rfl rfl ?_
  refine vm_J.call vm_q107 (Z := vm_M160) (n := 3) (k := 1) (mi := 160) (pc := 49) (en := (49, .invokestatic 134, 3, [160, 542, 0], .null)) rfl trivial rfl rfl vm_z160 (av := [.int (nI (sp_sN (fun z => sp_ch (I (1 + 18 + 2 * p) z) kk) (w * h))), .int (nI (w * h)), .int 0]) (rest := []) (m_lowest_0 (a := sp_sN (fun z => sp_ch (I (1 + 18 + 2 * p) z) kk) (w * h)) (b := w * h) (by omega) (by omega) (by omega)) rfl (Nat.le_of_ble_eq_true rfl) ⟨Nat.le_of_ble_eq_true rfl, Nat.le_of_ble_eq_true rfl⟩ ⟨Nat.le_of_ble_eq_true rfl, Nat.le_of_ble_eq_true rfl⟩ ?_
  show vm_J _ _ _ (52, (0, 0), [.ref 0, .int (nI p), .int kk, .int 0, .ref (1 + 17 + 2 * p)], [.int (nI ((sp_sN (fun z => sp_ch (I (1 + 18 + 2 * p) z) kk) (w * h)) / Nat.gcd (w * h) (sp_sN (fun z => sp_ch (I (1 + 18 + 2 * p) z) kk) (w * h))))]) (G, I, F) _ _
  refine vm_J.go vm_q107 (k := 1) (hs := []) (f' := (53, (0, 0), [.ref 0, .int (nI p), .int kk, .int 0, .ref (1 + 17 + 2 * p)], [.long ((nI ((sp_sN (fun z => sp_ch (I (1 + 18 + 2 * p) z) kk) (w * h)) / Nat.gcd (w * h) (sp_sN (fun z => sp_ch (I (1 + 18 + 2 * p) z) kk) (w * h)))).toInt64)])) (h' := (G, I, F)) (hs' := []) rfl rfl ?_
  exact vm_J.end vm_q107 (en := (53, .lreturn, 1, [], .null)) rfl rfl vm_rL (Nat.zero_le _) (Nat.zero_le _) rfl
set_option maxHeartbeats 4000000 in
set_option maxRecDepth 20000 in
/-- DitherDesk.mean -/
theorem c_mean_1 {l : Launch} {X : vm_Cx} {G : List vm_Sh} {I : Nat → Nat → Int32} {F : Nat → Nat → UInt32} {p : Nat} {w : Nat} {h : Nat} {kk : Int32} (hD : vm_isD G) (hw : I (1 + 17 + 2 * p) 0 = nI w) (hh : I (1 + 17 + 2 * p) 1 = nI h) (hp : p < 4) (hw2 : w ≤ 12) (hh2 : h ≤ 12) (hw0 : 0 < w) (hh0 : 0 < h) (hk : 0 ≤ kk ∧ kk ≤ 2) : vm_K l X vm_M107 [.ref 0, .int (nI p), .int kk, .int 1] (G, I, F) (some (.long ((nI ((w * h) / Nat.gcd (w * h) (sp_sN (fun z => sp_ch (I (1 + 18 + 2 * p) z) kk) (w * h)))).toInt64))) (G, I, F) := by
  refine vm_K.mk (by decide) (Nat.le_of_ble_eq_true rfl) ?_
  have hwh := vm_mul144 hw2 hh2
  have hpo := Nat.mul_pos hw0 hh0
  have hsn := sp_sum_N (g := fun z => sp_ch (I (1 + 18 + 2 * p) z) kk) (n := w * h) fun z _ => sp_ch_0 _ _
  have hsb := sp_sN_le (g := fun z => sp_ch (I (1 + 18 + 2 * p) z) kk) (n := w * h) fun z _ => sp_ch_63 _ _
  show vm_J _ _ _ (0, (0, 0), [.ref 0, .int (nI p), .int kk, .int 1, .retAddr 0], []) _ _ _
  refine vm_J.go vm_q107 (k := 3) (hs := [(12, 9, [.ref 1, .ref 38, .ref 75, .ref 112, .ref 132, .ref 135, .ref 139, .int 0, .int 0])]) (f' := (5, (0, 0), [.ref 0, .int (nI p), .int kk, .int 1, .retAddr 0], [.int (nI p), .ref 1])) (h' := (G, I, F)) (hs' := []) rfl (vm_b2 rfl (vm_b2 (vm_b2 (vm_hG hD.d) rfl) (vm_b2 rfl rfl))) ?_
  refine vm_J.call vm_q107 (Z := vm_M92) (n := 1) (k := 0) (mi := 92) (pc := 5) (en := (5, .invokevirtual 70, 3, [92, 438, 0], .null)) rfl trivial rfl rfl vm_z92 (av := [.ref 1, .int (nI p)]) (rest := []) (m_picAt_y (B := 1) (p := p) hD.w1 (by omega) (vm_pv hw hw0 hw2)) ⟨_, _, rfl, rfl, _, 9, _, hD.w1.w, rfl, rfl, rfl⟩ (Nat.le_of_ble_eq_true rfl) ⟨Nat.le_of_ble_eq_true rfl, Nat.le_of_ble_eq_true rfl⟩ ⟨Nat.le_of_ble_eq_true rfl, Nat.le_of_ble_eq_true rfl⟩ ?_
  show vm_J _ _ _ (8, (0, 0), [.ref 0, .int (nI p), .int kk, .int 1, .retAddr 0], [.ref (1 + 17 + 2 * p)]) (G, I, F) _ _
  refine vm_J.go vm_q107 (k := 6) (hs := []) (f' := (18, (0, 0), [.ref 0, .int (nI p), .int kk, .int 1, .ref (1 + 17 + 2 * p)], [.int 2, .int 0, .int kk])) (h' := (G, I, F)) (hs' := []) rfl rfl ?_
  refine vm_J.call vm_q107 (Z := vm_M151) (n := 3) (k := 1) (mi := 151) (pc := 18) (en := (18, .invokestatic 56, 3, [151, 420, 0], .null)) rfl trivial rfl rfl vm_z151 (av := [.int kk, .int 0, .int 2]) (rest := []) (m_isWithin_y (v := kk) (a := 0) (b := 2) hk) rfl (Nat.le_of_ble_eq_true rfl) ⟨Nat.le_of_ble_eq_true rfl, Nat.le_of_ble_eq_true rfl⟩ ⟨Nat.le_of_ble_eq_true rfl, Nat.le_of_ble_eq_true rfl⟩ ?_
  show vm_J _ _ _ (21, (0, 0), [.ref 0, .int (nI p), .int kk, .int 1, .ref (1 + 17 + 2 * p)], [.int 1]) (G, I, F) _ _
  refine vm_J.go vm_q107 (k := 1) (hs := []) (f' := (bif vm_ic .eq 1 0 then 33 else 24, (0, 0), [.ref 0, .int (nI p), .int kk, .int 1, .ref (1 + 17 + 2 * p)], [])) (h' := (G, I, F)) (hs' := []) rfl rfl ?_
  refine vm_J.bF (by decide) ?_
  refine vm_J.go vm_q107 (k := 3) (hs := []) (f' := (27, (0, 0), [.ref 0, .int (nI p), .int kk, .int 1, .ref (1 + 17 + 2 * p)], [.int 1, .int 0, .int 1])) (h' := (G, I, F)) (hs' := []) rfl rfl ?_
  refine vm_J.call vm_q107 (Z := vm_M151) (n := 3) (k := 1) (mi := 151) (pc := 27) (en := (27, .invokestatic 56, 3, [151, 420, 0], .null)) rfl trivial rfl rfl vm_z151 (av := [.int 1, .int 0, .int 1]) (rest := []) (m_isWithin_y (v := 1) (a := 0) (b := 1) (by decide)) rfl (Nat.le_of_ble_eq_true rfl) ⟨Nat.le_of_ble_eq_true rfl, Nat.le_of_ble_eq_true rfl⟩ ⟨Nat.le_of_ble_eq_true rfl, Nat.le_of_ble_eq_true rfl⟩ ?_
  show vm_J _ _ _ (30, (0, 0), [.ref 0, .int (nI p), .int kk, .int 1, .ref (1 + 17 + 2 * p)], [.int 1]) (G, I, F) _ _
  refine vm_J.go vm_q107 (k := 1) (hs := []) (f' := (bif vm_ic .ne 1 0 then 37 else 33, (0, 0), [.ref 0, .int (nI p), .int kk, .int 1, .ref (1 + 17 + 2 * p)], [])) (h' := (G, I, F)) (hs' := []) rfl rfl ?_
  refine vm_J.bT (by decide) ?_
  refine vm_J.go vm_q107 (k := 2) (hs := []) (f' := (40, (0, 0), [.ref 0, .int (nI p), .int kk, .int 1, .ref (1 + 17 + 2 * p)], [.int kk, .ref (1 + 17 + 2 * p)])) (h' := (G, I, F)) (hs' := []) rfl rfl ?_
  refine vm_J.call vm_q107 (Z := vm_M44) (n := 1) (k := 0) (mi := 44) (pc := 40) (en := (40, .invokevirtual 131, 3, [44, 537, 0], .null)) rfl trivial rfl rfl vm_z44 (av := [.ref (1 + 17 + 2 * p), .int kk]) (rest := []) (m_Pic_sumOn (o := 1 + 17 + 2 * p) (a := 1 + 18 + 2 * p) (w := w) (h := h) (c := kk) (hD.w1.p p hp) (hD.w1.q p hp) hw hh (by omega) (by omega)) ⟨_, _, rfl, rfl, _, 3, _, (hD.w1.p p hp), rfl, rfl, rfl⟩ (Nat.le_of_ble_eq_true rfl) ⟨Nat.le_of_ble_eq_true rfl, Nat.le_of_ble_eq_true rfl⟩ ⟨Nat.le_of_ble_eq_true rfl, Nat.le_of_ble_eq_true rfl⟩ ?_
  show vm_J _ _ _ (43, (0, 0), [.ref 0, .int (nI p), .int kk, .int 1, .ref (1 + 17 + 2 * p)], [.int (sp_sum (fun k => sp_ch (I (1 + 18 + 2 * p) k) kk) (w * h))]) (G, I, F) _ _
  rw [hsn]
  show vm_J _ _ _ (43, (0, 0), [.ref 0, .int (nI p), .int kk, .int 1, .ref (1 + 17 + 2 * p)], [.int (nI (sp_sN (fun z => sp_ch (I (1 + 18 + 2 * p) z) kk) (w * h)))]) (G, I, F) _ _
  refine vm_J.go vm_q107 (k := 1) (hs := []) (f' := (45, (0, 0), [.ref 0, .int (nI p), .int kk, .int 1, .ref (1 + 17 + 2 * p)], [.ref (1 + 17 + 2 * p), .int (nI (sp_sN (fun z => sp_ch (I (1 + 18 + 2 * p) z) kk) (w * h)))])) (h' := (G, I, F)) (hs' := []) rfl rfl ?_
  refine vm_J.call vm_q107 (Z := vm_M36) (n := 0) (k := 0) (mi := 36) (pc := 45) (en := (45, .invokevirtual 66, 3, [36, 430, 0], .null)) rfl trivial rfl rfl vm_z36 (av := [.ref (1 + 17 + 2 * p)]) (rest := [.int (nI (sp_sN (fun z => sp_ch (I (1 + 18 + 2 * p) z) kk) (w * h)))]) (m_Pic_pixels_n (o := 1 + 17 + 2 * p) (a := 1 + 18 + 2 * p) (w := w) (h := h) (hD.w1.p p hp) hw hh) ⟨_, _, rfl, rfl, _, 3, _, (hD.w1.p p hp), rfl, rfl, rfl⟩ (Nat.le_of_ble_eq_true rfl) ⟨Nat.le_of_ble_eq_true rfl, Nat.le_of_ble_eq_true rfl⟩ ⟨Nat.le_of_ble_eq_true rfl, Nat.le_of_ble_eq_true rfl⟩ ?_
  show vm_J _ _ _ (48, (0, 0), [.ref 0, .int (nI p), .int kk, .int 1, .ref (1 + 17 + 2 * p)], [.int (nI (w * h)), .int (nI (sp_sN (fun z => sp_ch (I (1 + 18 + 2 * p) z) kk) (w * h)))]) (G, I, F) _ _
  refine vm_J.go vm_q107 (k := 1) (hs := []) (f' := (49, (0, 0), [.ref 0, .int (nI p), .int kk, .int 1, .ref (1 + 17 + 2 * p)], [.int 1, .int (nI (w * h)), .int (nI (sp_sN (fun z => sp_ch (I (1 + 18 + 2 * p) z) kk) (w * h)))])) (h' := (G, I, F)) (hs' := []) rfl rfl ?_
  refine vm_J.call vm_q107 (Z := vm_M160) (n := 3) (k := 1) (mi := 160) (pc := 49) (en := (49, .invokestatic 134, 3, [160, 542, 0], .null)) rfl trivial rfl rfl vm_z160 (av := [.int (nI (sp_sN (fun z => sp_ch (I (1 + 18 + 2 * p) z) kk) (w * h))), .int (nI (w * h)), .int 1]) (rest := []) (m_lowest_1 (a := sp_sN (fun z => sp_ch (I (1 + 18 + 2 * p) z) kk) (w * h)) (b := w * h) (by omega) (by omega) (by omega)) rfl (Nat.le_of_ble_eq_true rfl) ⟨Nat.le_of_ble_eq_true rfl, Nat.le_of_ble_eq_true rfl⟩ ⟨Nat.le_of_ble_eq_true rfl, Nat.le_of_ble_eq_true rfl⟩ ?_
  show vm_J _ _ _ (52, (0, 0), [.ref 0, .int (nI p), .int kk, .int 1, .ref (1 + 17 + 2 * p)], [.int (nI ((w * h) / Nat.gcd (w * h) (sp_sN (fun z => sp_ch (I (1 + 18 + 2 * p) z) kk) (w * h))))]) (G, I, F) _ _
  refine vm_J.go vm_q107 (k := 1) (hs := []) (f' := (53, (0, 0), [.ref 0, .int (nI p), .int kk, .int 1, .ref (1 + 17 + 2 * p)], [.long ((nI ((w * h) / Nat.gcd (w * h) (sp_sN (fun z => sp_ch (I (1 + 18 + 2 * p) z) kk) (w * h)))).toInt64)])) (h' := (G, I, F)) (hs' := []) rfl rfl ?_
  exact vm_J.end vm_q107 (en := (53, .lreturn, 1, [], .null)) rfl rfl vm_rL (Nat.zero_le _) (Nat.zero_le _) rfl
