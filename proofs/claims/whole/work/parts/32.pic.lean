/-- a sum -/
def sp_sum (g : Nat → Int32) : Nat → Int32
  | 0 => 0
  | n + 1 => sp_sum g n + g n
theorem sp_sum_ext {g g' : Nat → Int32} : ∀ {n : Nat}, (∀ k, k < n → g k = g' k) → sp_sum g n = sp_sum g' n
  | 0, _ => rfl
  | n + 1, h => by
    unfold sp_sum
    rw [sp_sum_ext fun k hk => h k (Nat.lt_succ_of_lt hk), h n (Nat.lt_succ_self n)]
theorem vm_mul144 {w h : Nat} (hw : w ≤ 12) (hh : h ≤ 12) : w * h ≤ 144 := Nat.mul_le_mul hw hh
set_option maxHeartbeats 4000000 in
set_option maxRecDepth 20000 in
/-- DitherDesk$Picture.pixels  -/
theorem m_Pic_pixels {l : Launch} {X : vm_Cx} {G : List vm_Sh} {I : Nat → Nat → Int32} {F : Nat → Nat → UInt32} {o a : Nat} (ho : G[o]? = some (5, 3, [.int 0, .int 0, .ref a])) : vm_K l X vm_M36 [.ref o] (G, I, F) (some (.int (I o 0 * I o 1))) (G, I, F) := by
  refine vm_K.mk (by decide) (Nat.le_of_ble_eq_true rfl) ?_
  show vm_J _ _ _ (0, (0, 0), [.ref o], []) _ _ _
  refine vm_J.go vm_q36 (k := 5) (hs := [(5, 3, [.int 0, .int 0, .ref a]), (5, 3, [.int 0, .int 0, .ref a])]) (f' := (9, (0, 0), [.ref o], [.int ((I o 0) * (I o 1))])) (h' := (G, I, F)) (hs' := []) rfl (vm_b2 rfl (vm_b2 (vm_b2 (vm_hG ho) rfl) (vm_b2 rfl (vm_b2 (vm_b2 (vm_hG ho) rfl) (vm_b2 rfl rfl))))) ?_
  exact vm_J.end vm_q36 (en := (9, .ireturn, 1, [], .null)) rfl rfl vm_rI (Nat.zero_le _) (Nat.zero_le _) rfl
theorem m_Pic_pixels_n {l : Launch} {X : vm_Cx} {G : List vm_Sh} {I : Nat → Nat → Int32} {F : Nat → Nat → UInt32} {o a w h : Nat} (ho : G[o]? = some (5, 3, [.int 0, .int 0, .ref a])) (hw : I o 0 = nI w) (hh : I o 1 = nI h) : vm_K l X vm_M36 [.ref o] (G, I, F) (some (.int (nI (w * h)))) (G, I, F) := by
  have q := m_Pic_pixels (l := l) (X := X) (I := I) (F := F) ho
  rw [hw, hh, ← vm_nm] at q
  exact q
set_option maxHeartbeats 4000000 in
set_option maxRecDepth 20000 in
/-- DitherDesk$Picture.holds  -/
theorem m_Pic_holds {l : Launch} {X : vm_Cx} {G : List vm_Sh} {I : Nat → Nat → Int32} {F : Nat → Nat → UInt32} {o a : Nat} {x y : Int32} (ho : G[o]? = some (5, 3, [.int 0, .int 0, .ref a])) : vm_K l X vm_M37 [.ref o, .int x, .int y] (G, I, F) (some (.int (vm_bi ((0 ≤ x ∧ x ≤ I o 0 - 1) ∧ 0 ≤ y ∧ y ≤ I o 1 - 1)))) (G, I, F) := by
  refine vm_K.mk (by decide) (Nat.le_of_ble_eq_true rfl) ?_
  show vm_J _ _ _ (0, (0, 0), [.ref o, .int x, .int y], []) _ _ _
  refine vm_J.go vm_q37 (k := 6) (hs := [(5, 3, [.int 0, .int 0, .ref a])]) (f' := (8, (0, 0), [.ref o, .int x, .int y], [.int ((I o 0) - 1), .int 0, .int x])) (h' := (G, I, F)) (hs' := []) rfl (vm_b2 rfl (vm_b2 rfl (vm_b2 rfl (vm_b2 (vm_b2 (vm_hG ho) rfl) (vm_b2 rfl (vm_b2 rfl rfl)))))) ?_
  refine vm_J.call vm_q37 (Z := vm_M151) (n := 3) (k := 1) (mi := 151) (pc := 8) (en := (8, .invokestatic 22, 3, [151, 447, 1], .null)) rfl trivial rfl rfl vm_z151 (av := [.int x, .int 0, .int ((I o 0) - 1)]) (rest := []) (m_isWithin (v := x) (a := 0) (b := (I o 0) - 1)) rfl (Nat.le_of_ble_eq_true rfl) ⟨Nat.le_of_ble_eq_true rfl, Nat.le_of_ble_eq_true rfl⟩ ⟨Nat.le_of_ble_eq_true rfl, Nat.le_of_ble_eq_true rfl⟩ ?_
  show vm_J _ _ _ (11, (0, 0), [.ref o, .int x, .int y], [.int (vm_bi (0 ≤ x ∧ x ≤ ((I o 0) - 1)))]) (G, I, F) _ _
  refine vm_J.go vm_q37 (k := 1) (hs := []) (f' := (bif vm_ic .eq (vm_bi (0 ≤ x ∧ x ≤ ((I o 0) - 1))) 0 then 32 else 14, (0, 0), [.ref o, .int x, .int y], [])) (h' := (G, I, F)) (hs' := []) rfl rfl ?_
  refine vm_J.br (fun c1 => ?_) (fun c1 => ?_)
  · have c1 := vm_bi_eq_t c1
    refine vm_J.go vm_q37 (k := 1) (hs := []) (f' := (33, (0, 0), [.ref o, .int x, .int y], [.int 0])) (h' := (G, I, F)) (hs' := []) rfl rfl ?_
    exact vm_J.end vm_q37 (en := (33, .ireturn, 1, [], .null)) rfl (by first | rw [vm_bi_t ⟨c1, c2⟩]; rfl | rw [vm_bi_f fun q => c1 q.1]; rfl | rw [vm_bi_f fun q => c2 q.2]; rfl) (vm_rZ vm_bi_01) (Nat.zero_le _) (Nat.zero_le _) rfl
  · have c1 := vm_bi_eq_f c1
    refine vm_J.go vm_q37 (k := 6) (hs := [(5, 3, [.int 0, .int 0, .ref a])]) (f' := (22, (0, 0), [.ref o, .int x, .int y], [.int ((I o 1) - 1), .int 0, .int y])) (h' := (G, I, F)) (hs' := []) rfl (vm_b2 rfl (vm_b2 rfl (vm_b2 rfl (vm_b2 (vm_b2 (vm_hG ho) rfl) (vm_b2 rfl (vm_b2 rfl rfl)))))) ?_
    refine vm_J.call vm_q37 (Z := vm_M151) (n := 3) (k := 1) (mi := 151) (pc := 22) (en := (22, .invokestatic 22, 3, [151, 447, 1], .null)) rfl trivial rfl rfl vm_z151 (av := [.int y, .int 0, .int ((I o 1) - 1)]) (rest := []) (m_isWithin (v := y) (a := 0) (b := (I o 1) - 1)) rfl (Nat.le_of_ble_eq_true rfl) ⟨Nat.le_of_ble_eq_true rfl, Nat.le_of_ble_eq_true rfl⟩ ⟨Nat.le_of_ble_eq_true rfl, Nat.le_of_ble_eq_true rfl⟩ ?_
    show vm_J _ _ _ (25, (0, 0), [.ref o, .int x, .int y], [.int (vm_bi (0 ≤ y ∧ y ≤ ((I o 1) - 1)))]) (G, I, F) _ _
    refine vm_J.go vm_q37 (k := 1) (hs := []) (f' := (bif vm_ic .eq (vm_bi (0 ≤ y ∧ y ≤ ((I o 1) - 1))) 0 then 32 else 28, (0, 0), [.ref o, .int x, .int y], [])) (h' := (G, I, F)) (hs' := []) rfl rfl ?_
    refine vm_J.br (fun c2 => ?_) (fun c2 => ?_)
    · have c2 := vm_bi_eq_t c2
      refine vm_J.go vm_q37 (k := 1) (hs := []) (f' := (33, (0, 0), [.ref o, .int x, .int y], [.int 0])) (h' := (G, I, F)) (hs' := []) rfl rfl ?_
      exact vm_J.end vm_q37 (en := (33, .ireturn, 1, [], .null)) rfl (by first | rw [vm_bi_t ⟨c1, c2⟩]; rfl | rw [vm_bi_f fun q => c1 q.1]; rfl | rw [vm_bi_f fun q => c2 q.2]; rfl) (vm_rZ vm_bi_01) (Nat.zero_le _) (Nat.zero_le _) rfl
    · have c2 := vm_bi_eq_f c2
      refine vm_J.go vm_q37 (k := 2) (hs := []) (f' := (33, (0, 0), [.ref o, .int x, .int y], [.int 1])) (h' := (G, I, F)) (hs' := []) rfl rfl ?_
      exact vm_J.end vm_q37 (en := (33, .ireturn, 1, [], .null)) rfl (by first | rw [vm_bi_t ⟨c1, c2⟩]; rfl | rw [vm_bi_f fun q => c1 q.1]; rfl | rw [vm_bi_f fun q => c2 q.2]; rfl) (vm_rZ vm_bi_01) (Nat.zero_le _) (Nat.zero_le _) rfl
set_option maxHeartbeats 4000000 in
set_option maxRecDepth 20000 in
/-- DitherDesk$Picture.placeOf  -/
theorem m_Pic_placeOf {l : Launch} {X : vm_Cx} {G : List vm_Sh} {I : Nat → Nat → Int32} {F : Nat → Nat → UInt32} {o a : Nat} {x y : Int32} (ho : G[o]? = some (5, 3, [.int 0, .int 0, .ref a])) : vm_K l X vm_M38 [.ref o, .int x, .int y] (G, I, F) (some (.int (y * I o 0 + x))) (G, I, F) := by
  refine vm_K.mk (by decide) (Nat.le_of_ble_eq_true rfl) ?_
  show vm_J _ _ _ (0, (0, 0), [.ref o, .int x, .int y], []) _ _ _
  refine vm_J.go vm_q38 (k := 6) (hs := [(5, 3, [.int 0, .int 0, .ref a])]) (f' := (8, (0, 0), [.ref o, .int x, .int y], [.int ((y * (I o 0)) + x)])) (h' := (G, I, F)) (hs' := []) rfl (vm_b2 rfl (vm_b2 rfl (vm_b2 (vm_b2 (vm_hG ho) rfl) (vm_b2 rfl (vm_b2 rfl (vm_b2 rfl rfl)))))) ?_
  exact vm_J.end vm_q38 (en := (8, .ireturn, 1, [], .null)) rfl rfl vm_rI (Nat.zero_le _) (Nat.zero_le _) rfl
theorem m_Pic_placeOf_n {l : Launch} {X : vm_Cx} {G : List vm_Sh} {I : Nat → Nat → Int32} {F : Nat → Nat → UInt32} {o a w i j : Nat} (ho : G[o]? = some (5, 3, [.int 0, .int 0, .ref a])) (hw : I o 0 = nI w) : vm_K l X vm_M38 [.ref o, .int (nI i), .int (nI j)] (G, I, F) (some (.int (nI (j * w + i)))) (G, I, F) := by
  have q := m_Pic_placeOf (l := l) (X := X) (I := I) (F := F) (x := nI i) (y := nI j) ho
  rw [hw, ← vm_nm, ← vm_na] at q
  exact q
set_option maxHeartbeats 4000000 in
set_option maxRecDepth 20000 in
/-- DitherDesk$Picture.colourAt  -/
theorem m_Pic_colourAt {l : Launch} {X : vm_Cx} {G : List vm_Sh} {I : Nat → Nat → Int32} {F : Nat → Nat → UInt32} {o a w i j : Nat} (ho : G[o]? = some (5, 3, [.int 0, .int 0, .ref a])) (ha : G[a]? = some (0, 144, [])) (hw : I o 0 = nI w) (hp : j * w + i < 144) : vm_K l X vm_M39 [.ref o, .int (nI i), .int (nI j)] (G, I, F) (some (.int (I a (j * w + i)))) (G, I, F) := by
  refine vm_K.mk (by decide) (Nat.le_of_ble_eq_true rfl) ?_
  show vm_J _ _ _ (0, (0, 0), [.ref o, .int (nI i), .int (nI j)], []) _ _ _
  refine vm_J.go vm_q39 (k := 5) (hs := [(5, 3, [.int 0, .int 0, .ref a])]) (f' := (7, (0, 0), [.ref o, .int (nI i), .int (nI j)], [.int (nI j), .int (nI i), .ref o, .ref a])) (h' := (G, I, F)) (hs' := []) rfl (vm_b2 rfl (vm_b2 (vm_b2 (vm_hG ho) rfl) (vm_b2 rfl (vm_b2 rfl (vm_b2 rfl rfl))))) ?_
  refine vm_J.call vm_q39 (Z := vm_M38) (n := 2) (k := 0) (mi := 38) (pc := 7) (en := (7, .invokevirtual 26, 3, [38, 456, 0], .null)) rfl trivial rfl rfl vm_z38 (av := [.ref o, .int (nI i), .int (nI j)]) (rest := [.ref a]) (m_Pic_placeOf_n (i := i) (j := j) ho hw) ⟨_, _, rfl, rfl, _, 3, _, ho, rfl, rfl, rfl⟩ (Nat.le_of_ble_eq_true rfl) ⟨Nat.le_of_ble_eq_true rfl, Nat.le_of_ble_eq_true rfl⟩ ⟨Nat.le_of_ble_eq_true rfl, Nat.le_of_ble_eq_true rfl⟩ ?_
  show vm_J _ _ _ (10, (0, 0), [.ref o, .int (nI i), .int (nI j)], [.int (nI (j * w + i)), .ref a]) (G, I, F) _ _
  refine vm_J.call vm_q39 (Z := vm_M152) (n := 2) (k := 1) (mi := 152) (pc := 10) (en := (10, .invokestatic 30, 3, [152, 460, 1], .null)) rfl trivial rfl rfl vm_z152 (av := [.ref a, .int (nI (j * w + i))]) (rest := []) (m_at_n (j := j * w + i) ha (by omega) (by omega)) rfl (Nat.le_of_ble_eq_true rfl) ⟨Nat.le_of_ble_eq_true rfl, Nat.le_of_ble_eq_true rfl⟩ ⟨Nat.le_of_ble_eq_true rfl, Nat.le_of_ble_eq_true rfl⟩ ?_
  show vm_J _ _ _ (13, (0, 0), [.ref o, .int (nI i), .int (nI j)], [.int (I a (j * w + i))]) (G, I, F) _ _
  exact vm_J.end vm_q39 (en := (13, .ireturn, 1, [], .null)) rfl rfl vm_rI (Nat.zero_le _) (Nat.zero_le _) rfl
set_option maxHeartbeats 4000000 in
set_option maxRecDepth 20000 in
/-- DitherDesk$Picture.blacken  -/
theorem m_Pic_blacken {l : Launch} {X : vm_Cx} {G : List vm_Sh} {I : Nat → Nat → Int32} {F : Nat → Nat → UInt32} {o a : Nat} {x y : Int32} (ho : G[o]? = some (5, 3, [.int 0, .int 0, .ref a])) (ha : G[a]? = some (0, 144, [])) : vm_K l X vm_M40 [.ref o, .int x, .int y] (G, I, F) (none) (G, (vm_zc 0 (vm_up (vm_up I o 0 x) o 1 y) a 144), F) := by
  refine vm_K.mk (by decide) (Nat.le_of_ble_eq_true rfl) ?_
  show vm_J _ _ _ (0, (0, 0), [.ref o, .int x, .int y], []) _ _ _
  refine vm_J.go vm_q40 (k := 8) (hs := [(5, 3, [.int 0, .int 0, .ref a]), (5, 3, [.int 0, .int 0, .ref a]), (5, 3, [.int 0, .int 0, .ref a])]) (f' := (14, (0, 0), [.ref o, .int x, .int y], [.ref a])) (h' := (G, (vm_up (vm_up I o 0 x) o 1 y), F)) (hs' := []) rfl (vm_b2 rfl (vm_b2 rfl (vm_b2 (vm_b2 (vm_b2 (vm_hG ho) rfl) rfl) (vm_b2 rfl (vm_b2 rfl (vm_b2 (vm_b2 (vm_b2 (vm_hG ho) rfl) rfl) (vm_b2 rfl (vm_b2 (vm_b2 (vm_hG ho) rfl) rfl)))))))) ?_
  refine vm_J.call vm_q40 (Z := vm_M157) (n := 1) (k := 1) (mi := 157) (pc := 14) (en := (14, .invokestatic 34, 3, [157, 427, 1], .null)) rfl trivial rfl rfl vm_z157 (av := [.ref a]) (rest := []) (m_zeroInts ha (by omega)) rfl (Nat.le_of_ble_eq_true rfl) ⟨Nat.le_of_ble_eq_true rfl, Nat.le_of_ble_eq_true rfl⟩ ⟨Nat.le_of_ble_eq_true rfl, Nat.le_of_ble_eq_true rfl⟩ ?_
  show vm_J _ _ _ (17, (0, 0), [.ref o, .int x, .int y], []) (G, (vm_zc 0 (vm_up (vm_up I o 0 x) o 1 y) a 144), F) _ _
  exact vm_J.end vm_q40 (en := (17, .return_, 1, [], .null)) rfl rfl vm_rV (Nat.zero_le _) (Nat.zero_le _) rfl
set_option maxHeartbeats 4000000 in
set_option maxRecDepth 20000 in
/-- DitherDesk$Picture.pixelsOf  -/
theorem m_Pic_pixelsOf {l : Launch} {X : vm_Cx} {G : List vm_Sh} {I : Nat → Nat → Int32} {F : Nat → Nat → UInt32} {o a w h : Nat} {c : Int32} (ho : G[o]? = some (5, 3, [.int 0, .int 0, .ref a])) (ha : G[a]? = some (0, 144, [])) (hw : I o 0 = nI w) (hh : I o 1 = nI h) (hw2 : w ≤ 12) (hh2 : h ≤ 12) : vm_K l X vm_M43 [.ref o, .int c] (G, I, F) (some (.int (sp_sum (fun k => if I a k = c then 1 else 0) (w * h)))) (G, I, F) := by
  refine vm_K.mk (by decide) (Nat.le_of_ble_eq_true rfl) ?_
  have hwh := vm_mul144 hw2 hh2
  show vm_J _ _ _ (0, (0, 0), [.ref o, .int c, .retAddr 0, .retAddr 0], []) _ _ _
  refine vm_J.go vm_q43 (k := 4) (hs := []) (f' := (4, (0, 0), [.ref o, .int c, .int 0, .int 0], [])) (h' := (G, I, F)) (hs' := []) rfl rfl ?_
  refine vm_J.cnt (w * h) (fun j => (4, (0, 0), [.ref o, .int c, .int (sp_sum (fun k => if I a k = c then 1 else 0) j), .int (nI j)], [])) (fun j => (G, I, F)) (fun _ => True) rfl rfl trivial (fun j hj pj ij => ?_) (fun pj => ?_)
  · show vm_J _ _ _ (4, (0, 0), [.ref o, .int c, .int (sp_sum (fun k => if I a k = c then 1 else 0) j), .int (nI j)], []) (G, I, F) _ _
    refine vm_J.go vm_q43 (k := 2) (hs := []) (f' := (6, (0, 0), [.ref o, .int c, .int (sp_sum (fun k => if I a k = c then 1 else 0) j), .int (nI j)], [.ref o, .int (nI j)])) (h' := (G, I, F)) (hs' := []) rfl rfl ?_
    refine vm_J.call vm_q43 (Z := vm_M36) (n := 0) (k := 0) (mi := 36) (pc := 6) (en := (6, .invokevirtual 38, 3, [36, 475, 0], .null)) rfl trivial rfl rfl vm_z36 (av := [.ref o]) (rest := [.int (nI j)]) (m_Pic_pixels_n ho hw hh) ⟨_, _, rfl, rfl, _, 3, _, ho, rfl, rfl, rfl⟩ (Nat.le_of_ble_eq_true rfl) ⟨Nat.le_of_ble_eq_true rfl, Nat.le_of_ble_eq_true rfl⟩ ⟨Nat.le_of_ble_eq_true rfl, Nat.le_of_ble_eq_true rfl⟩ ?_
    show vm_J _ _ _ (9, (0, 0), [.ref o, .int c, .int (sp_sum (fun k => if I a k = c then 1 else 0) j), .int (nI j)], [.int (nI (w * h)), .int (nI j)]) (G, I, F) _ _
    refine vm_J.go vm_q43 (k := 1) (hs := []) (f' := (bif vm_ic .ge (nI j) (nI (w * h)) then 33 else 12, (0, 0), [.ref o, .int c, .int (sp_sum (fun k => if I a k = c then 1 else 0) j), .int (nI j)], [])) (h' := (G, I, F)) (hs' := []) rfl rfl ?_
    refine vm_J.br (fun c1 => ?_) (fun c1 => ?_)
    · have c1 := vm_ge_t (a := j) (b := w * h) (by omega) (by omega) c1
      exact (show False by omega).elim
    · have c1 := vm_ge_f (a := j) (b := w * h) (by omega) (by omega) c1
      refine vm_J.go vm_q43 (k := 3) (hs := [(5, 3, [.int 0, .int 0, .ref a])]) (f' := (17, (0, 0), [.ref o, .int c, .int (sp_sum (fun k => if I a k = c then 1 else 0) j), .int (nI j)], [.int (nI j), .ref a])) (h' := (G, I, F)) (hs' := []) rfl (vm_b2 rfl (vm_b2 (vm_b2 (vm_hG ho) rfl) (vm_b2 rfl rfl))) ?_
      refine vm_J.call vm_q43 (Z := vm_M152) (n := 2) (k := 1) (mi := 152) (pc := 17) (en := (17, .invokestatic 30, 3, [152, 460, 1], .null)) rfl trivial rfl rfl vm_z152 (av := [.ref a, .int (nI j)]) (rest := []) (m_at_n (j := j) ha (by omega) (by omega)) rfl (Nat.le_of_ble_eq_true rfl) ⟨Nat.le_of_ble_eq_true rfl, Nat.le_of_ble_eq_true rfl⟩ ⟨Nat.le_of_ble_eq_true rfl, Nat.le_of_ble_eq_true rfl⟩ ?_
      show vm_J _ _ _ (20, (0, 0), [.ref o, .int c, .int (sp_sum (fun k => if I a k = c then 1 else 0) j), .int (nI j)], [.int (I a j)]) (G, I, F) _ _
      refine vm_J.go vm_q43 (k := 2) (hs := []) (f' := (bif vm_ic .ne (I a j) c then 27 else 24, (0, 0), [.ref o, .int c, .int (sp_sum (fun k => if I a k = c then 1 else 0) j), .int (nI j)], [])) (h' := (G, I, F)) (hs' := []) rfl rfl ?_
      refine vm_J.br (fun c2 => ?_) (fun c2 => ?_)
      · have c2 : ¬ (I a j) = c := of_decide_eq_true c2
        refine vm_J.go vm_q43 (k := 2) (hs := []) (f' := (4, (0, 0), [.ref o, .int c, .int (sp_sum (fun k => if I a k = c then 1 else 0) j), .int ((nI j) + 1)], [])) (h' := (G, I, F)) (hs' := []) rfl rfl ?_
        rw [((vm_pa (rfl : nI j = nI j) (rfl : (1 : Int32) = nI 1)) : (nI j) + 1 = nI (j + 1))]
        rw [show (sp_sum (fun k => if I a k = c then 1 else 0) j : Int32) = sp_sum (fun k => if I a k = c then 1 else 0) (j + 1) from by simp [sp_sum, c1, c2]]
        exact ij trivial
      · have c2 : (I a j) = c := Decidable.of_not_not (of_decide_eq_false c2)
        refine vm_J.go vm_q43 (k := 3) (hs := []) (f' := (4, (0, 0), [.ref o, .int c, .int ((sp_sum (fun k => if I a k = c then 1 else 0) j) + 1), .int ((nI j) + 1)], [])) (h' := (G, I, F)) (hs' := []) rfl rfl ?_
        rw [((vm_pa (rfl : nI j = nI j) (rfl : (1 : Int32) = nI 1)) : (nI j) + 1 = nI (j + 1))]
        rw [show ((sp_sum (fun k => if I a k = c then 1 else 0) j) + 1 : Int32) = sp_sum (fun k => if I a k = c then 1 else 0) (j + 1) from by simp [sp_sum, c1, c2]]
        exact ij trivial
  · show vm_J _ _ _ (4, (0, 0), [.ref o, .int c, .int (sp_sum (fun k => if I a k = c then 1 else 0) (w * h)), .int (nI (w * h))], []) (G, I, F) _ _
    refine vm_J.go vm_q43 (k := 2) (hs := []) (f' := (6, (0, 0), [.ref o, .int c, .int (sp_sum (fun k => if I a k = c then 1 else 0) (w * h)), .int (nI (w * h))], [.ref o, .int (nI (w * h))])) (h' := (G, I, F)) (hs' := []) rfl rfl ?_
    refine vm_J.call vm_q43 (Z := vm_M36) (n := 0) (k := 0) (mi := 36) (pc := 6) (en := (6, .invokevirtual 38, 3, [36, 475, 0], .null)) rfl trivial rfl rfl vm_z36 (av := [.ref o]) (rest := [.int (nI (w * h))]) (m_Pic_pixels_n ho hw hh) ⟨_, _, rfl, rfl, _, 3, _, ho, rfl, rfl, rfl⟩ (Nat.le_of_ble_eq_true rfl) ⟨Nat.le_of_ble_eq_true rfl, Nat.le_of_ble_eq_true rfl⟩ ⟨Nat.le_of_ble_eq_true rfl, Nat.le_of_ble_eq_true rfl⟩ ?_
    show vm_J _ _ _ (9, (0, 0), [.ref o, .int c, .int (sp_sum (fun k => if I a k = c then 1 else 0) (w * h)), .int (nI (w * h))], [.int (nI (w * h)), .int (nI (w * h))]) (G, I, F) _ _
    refine vm_J.go vm_q43 (k := 1) (hs := []) (f' := (bif vm_ic .ge (nI (w * h)) (nI (w * h)) then 33 else 12, (0, 0), [.ref o, .int c, .int (sp_sum (fun k => if I a k = c then 1 else 0) (w * h)), .int (nI (w * h))], [])) (h' := (G, I, F)) (hs' := []) rfl rfl ?_
    refine vm_J.br (fun c3 => ?_) (fun c3 => ?_)
    · have c3 := vm_ge_t (a := (w * h)) (b := w * h) (by omega) (by omega) c3
      refine vm_J.go vm_q43 (k := 1) (hs := []) (f' := (34, (0, 0), [.ref o, .int c, .int (sp_sum (fun k => if I a k = c then 1 else 0) (w * h)), .int (nI (w * h))], [.int (sp_sum (fun k => if I a k = c then 1 else 0) (w * h))])) (h' := (G, I, F)) (hs' := []) rfl rfl ?_
      exact vm_J.end vm_q43 (en := (34, .ireturn, 1, [], .null)) rfl rfl vm_rI (Nat.zero_le _) (Nat.zero_le _) rfl
    · have c3 := vm_ge_f (a := (w * h)) (b := w * h) (by omega) (by omega) c3
      exact (show False by omega).elim
set_option maxHeartbeats 4000000 in
set_option maxRecDepth 20000 in
/-- DitherDesk$Picture.sumOn  -/
theorem m_Pic_sumOn {l : Launch} {X : vm_Cx} {G : List vm_Sh} {I : Nat → Nat → Int32} {F : Nat → Nat → UInt32} {o a w h : Nat} {c : Int32} (ho : G[o]? = some (5, 3, [.int 0, .int 0, .ref a])) (ha : G[a]? = some (0, 144, [])) (hw : I o 0 = nI w) (hh : I o 1 = nI h) (hw2 : w ≤ 12) (hh2 : h ≤ 12) : vm_K l X vm_M44 [.ref o, .int c] (G, I, F) (some (.int (sp_sum (fun k => sp_ch (I a k) c) (w * h)))) (G, I, F) := by
  refine vm_K.mk (by decide) (Nat.le_of_ble_eq_true rfl) ?_
  have hwh := vm_mul144 hw2 hh2
  show vm_J _ _ _ (0, (0, 0), [.ref o, .int c, .retAddr 0, .retAddr 0], []) _ _ _
  refine vm_J.go vm_q44 (k := 4) (hs := []) (f' := (4, (0, 0), [.ref o, .int c, .int 0, .int 0], [])) (h' := (G, I, F)) (hs' := []) rfl rfl ?_
  refine vm_J.cnt (w * h) (fun j => (4, (0, 0), [.ref o, .int c, .int (sp_sum (fun k => sp_ch (I a k) c) j), .int (nI j)], [])) (fun j => (G, I, F)) (fun _ => True) rfl rfl trivial (fun j hj pj ij => ?_) (fun pj => ?_)
  · show vm_J _ _ _ (4, (0, 0), [.ref o, .int c, .int (sp_sum (fun k => sp_ch (I a k) c) j), .int (nI j)], []) (G, I, F) _ _
    refine vm_J.go vm_q44 (k := 2) (hs := []) (f' := (6, (0, 0), [.ref o, .int c, .int (sp_sum (fun k => sp_ch (I a k) c) j), .int (nI j)], [.ref o, .int (nI j)])) (h' := (G, I, F)) (hs' := []) rfl rfl ?_
    refine vm_J.call vm_q44 (Z := vm_M36) (n := 0) (k := 0) (mi := 36) (pc := 6) (en := (6, .invokevirtual 38, 3, [36, 475, 0], .null)) rfl trivial rfl rfl vm_z36 (av := [.ref o]) (rest := [.int (nI j)]) (m_Pic_pixels_n ho hw hh) ⟨_, _, rfl, rfl, _, 3, _, ho, rfl, rfl, rfl⟩ (Nat.le_of_ble_eq_true rfl) ⟨Nat.le_of_ble_eq_true rfl, Nat.le_of_ble_eq_true rfl⟩ ⟨Nat.le_of_ble_eq_true rfl, Nat.le_of_ble_eq_true rfl⟩ ?_
    show vm_J _ _ _ (9, (0, 0), [.ref o, .int c, .int (sp_sum (fun k => sp_ch (I a k) c) j), .int (nI j)], [.int (nI (w * h)), .int (nI j)]) (G, I, F) _ _
    refine vm_J.go vm_q44 (k := 1) (hs := []) (f' := (bif vm_ic .ge (nI j) (nI (w * h)) then 33 else 12, (0, 0), [.ref o, .int c, .int (sp_sum (fun k => sp_ch (I a k) c) j), .int (nI j)], [])) (h' := (G, I, F)) (hs' := []) rfl rfl ?_
    refine vm_J.br (fun c1 => ?_) (fun c1 => ?_)
    · have c1 := vm_ge_t (a := j) (b := w * h) (by omega) (by omega) c1
      exact (show False by omega).elim
    · have c1 := vm_ge_f (a := j) (b := w * h) (by omega) (by omega) c1
      refine vm_J.go vm_q44 (k := 4) (hs := [(5, 3, [.int 0, .int 0, .ref a])]) (f' := (18, (0, 0), [.ref o, .int c, .int (sp_sum (fun k => sp_ch (I a k) c) j), .int (nI j)], [.int (nI j), .ref a, .int (sp_sum (fun k => sp_ch (I a k) c) j)])) (h' := (G, I, F)) (hs' := []) rfl (vm_b2 rfl (vm_b2 rfl (vm_b2 (vm_b2 (vm_hG ho) rfl) (vm_b2 rfl rfl)))) ?_
      refine vm_J.call vm_q44 (Z := vm_M152) (n := 2) (k := 1) (mi := 152) (pc := 18) (en := (18, .invokestatic 30, 3, [152, 460, 1], .null)) rfl trivial rfl rfl vm_z152 (av := [.ref a, .int (nI j)]) (rest := [.int (sp_sum (fun k => sp_ch (I a k) c) j)]) (m_at_n (j := j) ha (by omega) (by omega)) rfl (Nat.le_of_ble_eq_true rfl) ⟨Nat.le_of_ble_eq_true rfl, Nat.le_of_ble_eq_true rfl⟩ ⟨Nat.le_of_ble_eq_true rfl, Nat.le_of_ble_eq_true rfl⟩ ?_
      show vm_J _ _ _ (21, (0, 0), [.ref o, .int c, .int (sp_sum (fun k => sp_ch (I a k) c) j), .int (nI j)], [.int (I a j), .int (sp_sum (fun k => sp_ch (I a k) c) j)]) (G, I, F) _ _
      refine vm_J.go vm_q44 (k := 1) (hs := []) (f' := (22, (0, 0), [.ref o, .int c, .int (sp_sum (fun k => sp_ch (I a k) c) j), .int (nI j)], [.int c, .int (I a j), .int (sp_sum (fun k => sp_ch (I a k) c) j)])) (h' := (G, I, F)) (hs' := []) rfl rfl ?_
      refine vm_J.call vm_q44 (Z := vm_M164) (n := 2) (k := 1) (mi := 164) (pc := 22) (en := (22, .invokestatic 51, 3, [164, 541, 1], .null)) rfl trivial rfl rfl vm_z164 (av := [.int (I a j), .int c]) (rest := [.int (sp_sum (fun k => sp_ch (I a k) c) j)]) (m_channelOf (c := I a j) (k := c)) rfl (Nat.le_of_ble_eq_true rfl) ⟨Nat.le_of_ble_eq_true rfl, Nat.le_of_ble_eq_true rfl⟩ ⟨Nat.le_of_ble_eq_true rfl, Nat.le_of_ble_eq_true rfl⟩ ?_
      show vm_J _ _ _ (25, (0, 0), [.ref o, .int c, .int (sp_sum (fun k => sp_ch (I a k) c) j), .int (nI j)], [.int (sp_ch (I a j) c), .int (sp_sum (fun k => sp_ch (I a k) c) j)]) (G, I, F) _ _
      refine vm_J.go vm_q44 (k := 4) (hs := []) (f' := (4, (0, 0), [.ref o, .int c, .int ((sp_sum (fun k => sp_ch (I a k) c) j) + (sp_ch (I a j) c)), .int ((nI j) + 1)], [])) (h' := (G, I, F)) (hs' := []) rfl rfl ?_
      rw [((vm_pa (rfl : nI j = nI j) (rfl : (1 : Int32) = nI 1)) : (nI j) + 1 = nI (j + 1))]
      rw [show ((sp_sum (fun k => sp_ch (I a k) c) j) + (sp_ch (I a j) c) : Int32) = sp_sum (fun k => sp_ch (I a k) c) (j + 1) from by rfl]
      exact ij trivial
  · show vm_J _ _ _ (4, (0, 0), [.ref o, .int c, .int (sp_sum (fun k => sp_ch (I a k) c) (w * h)), .int (nI (w * h))], []) (G, I, F) _ _
    refine vm_J.go vm_q44 (k := 2) (hs := []) (f' := (6, (0, 0), [.ref o, .int c, .int (sp_sum (fun k => sp_ch (I a k) c) (w * h)), .int (nI (w * h))], [.ref o, .int (nI (w * h))])) (h' := (G, I, F)) (hs' := []) rfl rfl ?_
    refine vm_J.call vm_q44 (Z := vm_M36) (n := 0) (k := 0) (mi := 36) (pc := 6) (en := (6, .invokevirtual 38, 3, [36, 475, 0], .null)) rfl trivial rfl rfl vm_z36 (av := [.ref o]) (rest := [.int (nI (w * h))]) (m_Pic_pixels_n ho hw hh) ⟨_, _, rfl, rfl, _, 3, _, ho, rfl, rfl, rfl⟩ (Nat.le_of_ble_eq_true rfl) ⟨Nat.le_of_ble_eq_true rfl, Nat.le_of_ble_eq_true rfl⟩ ⟨Nat.le_of_ble_eq_true rfl, Nat.le_of_ble_eq_true rfl⟩ ?_
    show vm_J _ _ _ (9, (0, 0), [.ref o, .int c, .int (sp_sum (fun k => sp_ch (I a k) c) (w * h)), .int (nI (w * h))], [.int (nI (w * h)), .int (nI (w * h))]) (G, I, F) _ _
    refine vm_J.go vm_q44 (k := 1) (hs := []) (f' := (bif vm_ic .ge (nI (w * h)) (nI (w * h)) then 33 else 12, (0, 0), [.ref o, .int c, .int (sp_sum (fun k => sp_ch (I a k) c) (w * h)), .int (nI (w * h))], [])) (h' := (G, I, F)) (hs' := []) rfl rfl ?_
    refine vm_J.br (fun c2 => ?_) (fun c2 => ?_)
    · have c2 := vm_ge_t (a := (w * h)) (b := w * h) (by omega) (by omega) c2
      refine vm_J.go vm_q44 (k := 1) (hs := []) (f' := (34, (0, 0), [.ref o, .int c, .int (sp_sum (fun k => sp_ch (I a k) c) (w * h)), .int (nI (w * h))], [.int (sp_sum (fun k => sp_ch (I a k) c) (w * h))])) (h' := (G, I, F)) (hs' := []) rfl rfl ?_
      exact vm_J.end vm_q44 (en := (34, .ireturn, 1, [], .null)) rfl rfl vm_rI (Nat.zero_le _) (Nat.zero_le _) rfl
    · have c2 := vm_ge_f (a := (w * h)) (b := w * h) (by omega) (by omega) c2
      exact (show False by omega).elim
/-- a row written up to n -/
def vm_wr {α : Type} (I : Nat → Nat → α) (d : Nat) (f : Nat → α) (n : Nat) : Nat → Nat → α := fun a b => if a = d then (if b < n then f b else I d b) else I a b
theorem vm_wr_0 {α : Type} (I : Nat → Nat → α) (d : Nat) (f : Nat → α) : I = vm_wr I d f 0 := by
  funext a b
  unfold vm_wr
  by_cases h : a = d
  · simp [h]
  · simp [h]
theorem vm_wr_s {α : Type} (I : Nat → Nat → α) (d j : Nat) (f : Nat → α) : vm_up (vm_wr I d f j) d j (f j) = vm_wr I d f (j + 1) := by
  funext a b
  unfold vm_wr vm_up
  by_cases h : a = d
  · subst h
    simp only [if_true]
    by_cases h1 : b = j
    · simp [h1]
    · by_cases h2 : b < j
      · simp [h1, h2, Nat.lt_succ_of_lt h2]
      · simp [h1, h2, show ¬ b < j + 1 by omega]
  · simp [h]
theorem vm_wr_o {α : Type} (I : Nat → Nat → α) (d n a : Nat) (f : Nat → α) (h : a ≠ d) : vm_wr I d f n a = I a := by
  funext b
  unfold vm_wr
  rw [if_neg h]
/-- the draws, and the colour out of three of them -/
def sp_z (s : Int32) : Nat → Int32
  | 0 => s
  | n + 1 => sp_z s n * 1103515245 + 12345
def sp_d (z : Int32) : Int32 := (z.toUInt32 >>> ((9 : Int32).toUInt32 &&& Int32.toUInt32 31)).toInt32 - (z.toUInt32 >>> ((9 : Int32).toUInt32 &&& Int32.toUInt32 31)).toInt32 / 64 * 64
def sp_nc (s : Int32) (b : Nat) : Int32 := ((0 * 64 + sp_d (sp_z s (3 * b + 1))) * 64 + sp_d (sp_z s (3 * b + 2))) * 64 + sp_d (sp_z s (3 * b + 3))
/-- a colour on the way from one to another -/
def sp_b1 (f t i n k : Int32) : Int32 := (sp_ch f k * (n - i) + sp_ch t k * i) / n
def sp_bl (f t i n : Int32) : Int32 := if 0 < n then ((0 * 64 + sp_b1 f t i n 0) * 64 + sp_b1 f t i n 1) * 64 + sp_b1 f t i n 2 else f
theorem vm_gt_ne {n : Int32} (h : 0 < n) : ¬ n = 0 := fun e => by
  rw [e] at h
  exact absurd h (by decide)
set_option maxHeartbeats 4000000 in
set_option maxRecDepth 20000 in
/-- DitherDesk$Picture.drawNoise  -/
theorem m_Pic_drawNoise {l : Launch} {X : vm_Cx} {G : List vm_Sh} {I : Nat → Nat → Int32} {F : Nat → Nat → UInt32} {o a w h : Nat} {s : Int32} (ho : G[o]? = some (5, 3, [.int 0, .int 0, .ref a])) (ha : G[a]? = some (0, 144, [])) (hw : I o 0 = nI w) (hh : I o 1 = nI h) (hw2 : w ≤ 12) (hh2 : h ≤ 12) (hap : a ≠ o) : vm_K l X vm_M41 [.ref o, .int s] (G, I, F) (none) (G, (vm_wr I a (sp_nc s) (w * h)), F) := by
  refine vm_K.mk (by decide) (Nat.le_of_ble_eq_true rfl) ?_
  have hwh := vm_mul144 hw2 hh2
  show vm_J _ _ _ (0, (0, 0), [.ref o, .int s, .retAddr 0, .retAddr 0, .retAddr 0, .retAddr 0], []) _ _ _
  refine vm_J.go vm_q41 (k := 4) (hs := []) (f' := (4, (0, 0), [.ref o, .int s, .int s, .int 0, .retAddr 0, .retAddr 0], [])) (h' := (G, I, F)) (hs' := []) rfl rfl ?_
  refine vm_J.cnt (w * h) (fun j => (4, (0, 0), [.ref o, .int s, .int (sp_z s (3 * j)), .int (nI j), .retAddr 0, .retAddr 0], [])) (fun j => (G, (vm_wr I a (sp_nc s) j), F)) (fun _ => True) rfl (by rw [← vm_wr_0]) trivial (fun j hj pj ij => ?_) (fun pj => ?_)
  · show vm_J _ _ _ (4, (0, 0), [.ref o, .int s, .int (sp_z s (3 * j)), .int (nI j), .retAddr 0, .retAddr 0], []) (G, (vm_wr I a (sp_nc s) j), F) _ _
    refine vm_J.go vm_q41 (k := 2) (hs := []) (f' := (6, (0, 0), [.ref o, .int s, .int (sp_z s (3 * j)), .int (nI j), .retAddr 0, .retAddr 0], [.ref o, .int (nI j)])) (h' := (G, (vm_wr I a (sp_nc s) j), F)) (hs' := []) rfl rfl ?_
    refine vm_J.call vm_q41 (Z := vm_M36) (n := 0) (k := 0) (mi := 36) (pc := 6) (en := (6, .invokevirtual 38, 3, [36, 475, 0], .null)) rfl trivial rfl rfl vm_z36 (av := [.ref o]) (rest := [.int (nI j)]) (m_Pic_pixels_n ho (show (vm_wr I a (sp_nc s) j) o 0 = nI w from by rw [vm_wr_o _ _ _ _ _ (Ne.symm hap)]; exact hw) (show (vm_wr I a (sp_nc s) j) o 1 = nI h from by rw [vm_wr_o _ _ _ _ _ (Ne.symm hap)]; exact hh)) ⟨_, _, rfl, rfl, _, 3, _, ho, rfl, rfl, rfl⟩ (Nat.le_of_ble_eq_true rfl) ⟨Nat.le_of_ble_eq_true rfl, Nat.le_of_ble_eq_true rfl⟩ ⟨Nat.le_of_ble_eq_true rfl, Nat.le_of_ble_eq_true rfl⟩ ?_
    show vm_J _ _ _ (9, (0, 0), [.ref o, .int s, .int (sp_z s (3 * j)), .int (nI j), .retAddr 0, .retAddr 0], [.int (nI (w * h)), .int (nI j)]) (G, (vm_wr I a (sp_nc s) j), F) _ _
    refine vm_J.go vm_q41 (k := 1) (hs := []) (f' := (bif vm_ic .ge (nI j) (nI (w * h)) then 70 else 12, (0, 0), [.ref o, .int s, .int (sp_z s (3 * j)), .int (nI j), .retAddr 0, .retAddr 0], [])) (h' := (G, (vm_wr I a (sp_nc s) j), F)) (hs' := []) rfl rfl ?_
    refine vm_J.br (fun c1 => ?_) (fun c1 => ?_)
    · have c1 := vm_ge_t (a := j) (b := w * h) (by omega) (by omega) c1
      exact (show False by omega).elim
    · have c1 := vm_ge_f (a := j) (b := w * h) (by omega) (by omega) c1
      refine vm_J.go vm_q41 (k := 7) (hs := []) (f' := (bif vm_ic .ge 0 3 then 54 else 24, (0, 0), [.ref o, .int s, .int (sp_z s (3 * j)), .int (nI j), .int 0, .int 0], [])) (h' := (G, (vm_wr I a (sp_nc s) j), F)) (hs' := []) rfl rfl ?_
      refine vm_J.bF (by decide) ?_
      refine vm_J.go vm_q41 (k := 21) (hs := []) (f' := (bif vm_ic .ge (0 + 1) 3 then 54 else 24, (0, 0), [.ref o, .int s, .int (((sp_z s (3 * j)) * 1103515245) + 12345), .int (nI j), .int ((0 * 64) + ((((((sp_z s (3 * j)) * 1103515245) + 12345).toUInt32 >>> ((9 : Int32).toUInt32 &&& Int32.toUInt32 31)).toInt32) - (((((sp_z s (3 * j)) * 1103515245) + 12345).toUInt32 >>> ((9 : Int32).toUInt32 &&& Int32.toUInt32 31)).toInt32) / 64 * 64)), .int (0 + 1)], [])) (h' := (G, (vm_wr I a (sp_nc s) j), F)) (hs' := []) rfl rfl ?_
      rw [(show (0 + 1 : Int32) = 1 from by decide)]
      refine vm_J.bF (by decide) ?_
      refine vm_J.go vm_q41 (k := 21) (hs := []) (f' := (bif vm_ic .ge (1 + 1) 3 then 54 else 24, (0, 0), [.ref o, .int s, .int (((((sp_z s (3 * j)) * 1103515245) + 12345) * 1103515245) + 12345), .int (nI j), .int ((((0 * 64) + ((((((sp_z s (3 * j)) * 1103515245) + 12345).toUInt32 >>> ((9 : Int32).toUInt32 &&& Int32.toUInt32 31)).toInt32) - (((((sp_z s (3 * j)) * 1103515245) + 12345).toUInt32 >>> ((9 : Int32).toUInt32 &&& Int32.toUInt32 31)).toInt32) / 64 * 64)) * 64) + ((((((((sp_z s (3 * j)) * 1103515245) + 12345) * 1103515245) + 12345).toUInt32 >>> ((9 : Int32).toUInt32 &&& Int32.toUInt32 31)).toInt32) - (((((((sp_z s (3 * j)) * 1103515245) + 12345) * 1103515245) + 12345).toUInt32 >>> ((9 : Int32).toUInt32 &&& Int32.toUInt32 31)).toInt32) / 64 * 64)), .int (1 + 1)], [])) (h' := (G, (vm_wr I a (sp_nc s) j), F)) (hs' := []) rfl rfl ?_
      rw [(show (1 + 1 : Int32) = 2 from by decide)]
      refine vm_J.bF (by decide) ?_
      refine vm_J.go vm_q41 (k := 21) (hs := []) (f' := (bif vm_ic .ge (2 + 1) 3 then 54 else 24, (0, 0), [.ref o, .int s, .int (((((((sp_z s (3 * j)) * 1103515245) + 12345) * 1103515245) + 12345) * 1103515245) + 12345), .int (nI j), .int ((((((0 * 64) + ((((((sp_z s (3 * j)) * 1103515245) + 12345).toUInt32 >>> ((9 : Int32).toUInt32 &&& Int32.toUInt32 31)).toInt32) - (((((sp_z s (3 * j)) * 1103515245) + 12345).toUInt32 >>> ((9 : Int32).toUInt32 &&& Int32.toUInt32 31)).toInt32) / 64 * 64)) * 64) + ((((((((sp_z s (3 * j)) * 1103515245) + 12345) * 1103515245) + 12345).toUInt32 >>> ((9 : Int32).toUInt32 &&& Int32.toUInt32 31)).toInt32) - (((((((sp_z s (3 * j)) * 1103515245) + 12345) * 1103515245) + 12345).toUInt32 >>> ((9 : Int32).toUInt32 &&& Int32.toUInt32 31)).toInt32) / 64 * 64)) * 64) + ((((((((((sp_z s (3 * j)) * 1103515245) + 12345) * 1103515245) + 12345) * 1103515245) + 12345).toUInt32 >>> ((9 : Int32).toUInt32 &&& Int32.toUInt32 31)).toInt32) - (((((((((sp_z s (3 * j)) * 1103515245) + 12345) * 1103515245) + 12345) * 1103515245) + 12345).toUInt32 >>> ((9 : Int32).toUInt32 &&& Int32.toUInt32 31)).toInt32) / 64 * 64)), .int (2 + 1)], [])) (h' := (G, (vm_wr I a (sp_nc s) j), F)) (hs' := []) rfl rfl ?_
      rw [(show (2 + 1 : Int32) = 3 from by decide)]
      refine vm_J.bT (by decide) ?_
      refine vm_J.go vm_q41 (k := 4) (hs := [(5, 3, [.int 0, .int 0, .ref a])]) (f' := (61, (0, 0), [.ref o, .int s, .int (((((((sp_z s (3 * j)) * 1103515245) + 12345) * 1103515245) + 12345) * 1103515245) + 12345), .int (nI j), .int ((((((0 * 64) + ((((((sp_z s (3 * j)) * 1103515245) + 12345).toUInt32 >>> ((9 : Int32).toUInt32 &&& Int32.toUInt32 31)).toInt32) - (((((sp_z s (3 * j)) * 1103515245) + 12345).toUInt32 >>> ((9 : Int32).toUInt32 &&& Int32.toUInt32 31)).toInt32) / 64 * 64)) * 64) + ((((((((sp_z s (3 * j)) * 1103515245) + 12345) * 1103515245) + 12345).toUInt32 >>> ((9 : Int32).toUInt32 &&& Int32.toUInt32 31)).toInt32) - (((((((sp_z s (3 * j)) * 1103515245) + 12345) * 1103515245) + 12345).toUInt32 >>> ((9 : Int32).toUInt32 &&& Int32.toUInt32 31)).toInt32) / 64 * 64)) * 64) + ((((((((((sp_z s (3 * j)) * 1103515245) + 12345) * 1103515245) + 12345) * 1103515245) + 12345).toUInt32 >>> ((9 : Int32).toUInt32 &&& Int32.toUInt32 31)).toInt32) - (((((((((sp_z s (3 * j)) * 1103515245) + 12345) * 1103515245) + 12345) * 1103515245) + 12345).toUInt32 >>> ((9 : Int32).toUInt32 &&& Int32.toUInt32 31)).toInt32) / 64 * 64)), .int 3], [.int ((((((0 * 64) + ((((((sp_z s (3 * j)) * 1103515245) + 12345).toUInt32 >>> ((9 : Int32).toUInt32 &&& Int32.toUInt32 31)).toInt32) - (((((sp_z s (3 * j)) * 1103515245) + 12345).toUInt32 >>> ((9 : Int32).toUInt32 &&& Int32.toUInt32 31)).toInt32) / 64 * 64)) * 64) + ((((((((sp_z s (3 * j)) * 1103515245) + 12345) * 1103515245) + 12345).toUInt32 >>> ((9 : Int32).toUInt32 &&& Int32.toUInt32 31)).toInt32) - (((((((sp_z s (3 * j)) * 1103515245) + 12345) * 1103515245) + 12345).toUInt32 >>> ((9 : Int32).toUInt32 &&& Int32.toUInt32 31)).toInt32) / 64 * 64)) * 64) + ((((((((((sp_z s (3 * j)) * 1103515245) + 12345) * 1103515245) + 12345) * 1103515245) + 12345).toUInt32 >>> ((9 : Int32).toUInt32 &&& Int32.toUInt32 31)).toInt32) - (((((((((sp_z s (3 * j)) * 1103515245) + 12345) * 1103515245) + 12345) * 1103515245) + 12345).toUInt32 >>> ((9 : Int32).toUInt32 &&& Int32.toUInt32 31)).toInt32) / 64 * 64)), .int (nI j), .ref a])) (h' := (G, (vm_wr I a (sp_nc s) j), F)) (hs' := []) rfl (vm_b2 rfl (vm_b2 (vm_b2 (vm_hG ho) rfl) (vm_b2 rfl (vm_b2 rfl rfl)))) ?_
      refine vm_J.call vm_q41 (Z := vm_M153) (n := 3) (k := 1) (mi := 153) (pc := 61) (en := (61, .invokestatic 43, 3, [153, 477, 1], .null)) rfl trivial rfl rfl vm_z153 (av := [.ref a, .int (nI j), .int ((((((0 * 64) + ((((((sp_z s (3 * j)) * 1103515245) + 12345).toUInt32 >>> ((9 : Int32).toUInt32 &&& Int32.toUInt32 31)).toInt32) - (((((sp_z s (3 * j)) * 1103515245) + 12345).toUInt32 >>> ((9 : Int32).toUInt32 &&& Int32.toUInt32 31)).toInt32) / 64 * 64)) * 64) + ((((((((sp_z s (3 * j)) * 1103515245) + 12345) * 1103515245) + 12345).toUInt32 >>> ((9 : Int32).toUInt32 &&& Int32.toUInt32 31)).toInt32) - (((((((sp_z s (3 * j)) * 1103515245) + 12345) * 1103515245) + 12345).toUInt32 >>> ((9 : Int32).toUInt32 &&& Int32.toUInt32 31)).toInt32) / 64 * 64)) * 64) + ((((((((((sp_z s (3 * j)) * 1103515245) + 12345) * 1103515245) + 12345) * 1103515245) + 12345).toUInt32 >>> ((9 : Int32).toUInt32 &&& Int32.toUInt32 31)).toInt32) - (((((((((sp_z s (3 * j)) * 1103515245) + 12345) * 1103515245) + 12345) * 1103515245) + 12345).toUInt32 >>> ((9 : Int32).toUInt32 &&& Int32.toUInt32 31)).toInt32) / 64 * 64))]) (rest := []) (m_put_n (j := j) (v := (((((0 * 64) + ((((((sp_z s (3 * j)) * 1103515245) + 12345).toUInt32 >>> ((9 : Int32).toUInt32 &&& Int32.toUInt32 31)).toInt32) - (((((sp_z s (3 * j)) * 1103515245) + 12345).toUInt32 >>> ((9 : Int32).toUInt32 &&& Int32.toUInt32 31)).toInt32) / 64 * 64)) * 64) + ((((((((sp_z s (3 * j)) * 1103515245) + 12345) * 1103515245) + 12345).toUInt32 >>> ((9 : Int32).toUInt32 &&& Int32.toUInt32 31)).toInt32) - (((((((sp_z s (3 * j)) * 1103515245) + 12345) * 1103515245) + 12345).toUInt32 >>> ((9 : Int32).toUInt32 &&& Int32.toUInt32 31)).toInt32) / 64 * 64)) * 64) + ((((((((((sp_z s (3 * j)) * 1103515245) + 12345) * 1103515245) + 12345) * 1103515245) + 12345).toUInt32 >>> ((9 : Int32).toUInt32 &&& Int32.toUInt32 31)).toInt32) - (((((((((sp_z s (3 * j)) * 1103515245) + 12345) * 1103515245) + 12345) * 1103515245) + 12345).toUInt32 >>> ((9 : Int32).toUInt32 &&& Int32.toUInt32 31)).toInt32) / 64 * 64)) ha (by omega) (by omega)) rfl (Nat.le_of_ble_eq_true rfl) ⟨Nat.le_of_ble_eq_true rfl, Nat.le_of_ble_eq_true rfl⟩ ⟨Nat.le_of_ble_eq_true rfl, Nat.le_of_ble_eq_true rfl⟩ ?_
      show vm_J _ _ _ (64, (0, 0), [.ref o, .int s, .int (((((((sp_z s (3 * j)) * 1103515245) + 12345) * 1103515245) + 12345) * 1103515245) + 12345), .int (nI j), .int ((((((0 * 64) + ((((((sp_z s (3 * j)) * 1103515245) + 12345).toUInt32 >>> ((9 : Int32).toUInt32 &&& Int32.toUInt32 31)).toInt32) - (((((sp_z s (3 * j)) * 1103515245) + 12345).toUInt32 >>> ((9 : Int32).toUInt32 &&& Int32.toUInt32 31)).toInt32) / 64 * 64)) * 64) + ((((((((sp_z s (3 * j)) * 1103515245) + 12345) * 1103515245) + 12345).toUInt32 >>> ((9 : Int32).toUInt32 &&& Int32.toUInt32 31)).toInt32) - (((((((sp_z s (3 * j)) * 1103515245) + 12345) * 1103515245) + 12345).toUInt32 >>> ((9 : Int32).toUInt32 &&& Int32.toUInt32 31)).toInt32) / 64 * 64)) * 64) + ((((((((((sp_z s (3 * j)) * 1103515245) + 12345) * 1103515245) + 12345) * 1103515245) + 12345).toUInt32 >>> ((9 : Int32).toUInt32 &&& Int32.toUInt32 31)).toInt32) - (((((((((sp_z s (3 * j)) * 1103515245) + 12345) * 1103515245) + 12345) * 1103515245) + 12345).toUInt32 >>> ((9 : Int32).toUInt32 &&& Int32.toUInt32 31)).toInt32) / 64 * 64)), .int 3], []) (G, (vm_up (vm_wr I a (sp_nc s) j) a j ((((((0 * 64) + ((((((sp_z s (3 * j)) * 1103515245) + 12345).toUInt32 >>> ((9 : Int32).toUInt32 &&& Int32.toUInt32 31)).toInt32) - (((((sp_z s (3 * j)) * 1103515245) + 12345).toUInt32 >>> ((9 : Int32).toUInt32 &&& Int32.toUInt32 31)).toInt32) / 64 * 64)) * 64) + ((((((((sp_z s (3 * j)) * 1103515245) + 12345) * 1103515245) + 12345).toUInt32 >>> ((9 : Int32).toUInt32 &&& Int32.toUInt32 31)).toInt32) - (((((((sp_z s (3 * j)) * 1103515245) + 12345) * 1103515245) + 12345).toUInt32 >>> ((9 : Int32).toUInt32 &&& Int32.toUInt32 31)).toInt32) / 64 * 64)) * 64) + ((((((((((sp_z s (3 * j)) * 1103515245) + 12345) * 1103515245) + 12345) * 1103515245) + 12345).toUInt32 >>> ((9 : Int32).toUInt32 &&& Int32.toUInt32 31)).toInt32) - (((((((((sp_z s (3 * j)) * 1103515245) + 12345) * 1103515245) + 12345) * 1103515245) + 12345).toUInt32 >>> ((9 : Int32).toUInt32 &&& Int32.toUInt32 31)).toInt32) / 64 * 64))), F) _ _
      refine vm_J.go vm_q41 (k := 2) (hs := []) (f' := (4, (0, 0), [.ref o, .int s, .int (((((((sp_z s (3 * j)) * 1103515245) + 12345) * 1103515245) + 12345) * 1103515245) + 12345), .int ((nI j) + 1), .int ((((((0 * 64) + ((((((sp_z s (3 * j)) * 1103515245) + 12345).toUInt32 >>> ((9 : Int32).toUInt32 &&& Int32.toUInt32 31)).toInt32) - (((((sp_z s (3 * j)) * 1103515245) + 12345).toUInt32 >>> ((9 : Int32).toUInt32 &&& Int32.toUInt32 31)).toInt32) / 64 * 64)) * 64) + ((((((((sp_z s (3 * j)) * 1103515245) + 12345) * 1103515245) + 12345).toUInt32 >>> ((9 : Int32).toUInt32 &&& Int32.toUInt32 31)).toInt32) - (((((((sp_z s (3 * j)) * 1103515245) + 12345) * 1103515245) + 12345).toUInt32 >>> ((9 : Int32).toUInt32 &&& Int32.toUInt32 31)).toInt32) / 64 * 64)) * 64) + ((((((((((sp_z s (3 * j)) * 1103515245) + 12345) * 1103515245) + 12345) * 1103515245) + 12345).toUInt32 >>> ((9 : Int32).toUInt32 &&& Int32.toUInt32 31)).toInt32) - (((((((((sp_z s (3 * j)) * 1103515245) + 12345) * 1103515245) + 12345) * 1103515245) + 12345).toUInt32 >>> ((9 : Int32).toUInt32 &&& Int32.toUInt32 31)).toInt32) / 64 * 64)), .int 3], [])) (h' := (G, (vm_up (vm_wr I a (sp_nc s) j) a j ((((((0 * 64) + ((((((sp_z s (3 * j)) * 1103515245) + 12345).toUInt32 >>> ((9 : Int32).toUInt32 &&& Int32.toUInt32 31)).toInt32) - (((((sp_z s (3 * j)) * 1103515245) + 12345).toUInt32 >>> ((9 : Int32).toUInt32 &&& Int32.toUInt32 31)).toInt32) / 64 * 64)) * 64) + ((((((((sp_z s (3 * j)) * 1103515245) + 12345) * 1103515245) + 12345).toUInt32 >>> ((9 : Int32).toUInt32 &&& Int32.toUInt32 31)).toInt32) - (((((((sp_z s (3 * j)) * 1103515245) + 12345) * 1103515245) + 12345).toUInt32 >>> ((9 : Int32).toUInt32 &&& Int32.toUInt32 31)).toInt32) / 64 * 64)) * 64) + ((((((((((sp_z s (3 * j)) * 1103515245) + 12345) * 1103515245) + 12345) * 1103515245) + 12345).toUInt32 >>> ((9 : Int32).toUInt32 &&& Int32.toUInt32 31)).toInt32) - (((((((((sp_z s (3 * j)) * 1103515245) + 12345) * 1103515245) + 12345) * 1103515245) + 12345).toUInt32 >>> ((9 : Int32).toUInt32 &&& Int32.toUInt32 31)).toInt32) / 64 * 64))), F)) (hs' := []) rfl rfl ?_
      rw [((vm_pa (rfl : nI j = nI j) (rfl : (1 : Int32) = nI 1)) : (nI j) + 1 = nI (j + 1))]
      refine vm_J.mask [true, true, true, true, false, false] ?_
      show vm_J _ _ _ (4, (0, 0), [.ref o, .int s, .int (((((((sp_z s (3 * j)) * 1103515245) + 12345) * 1103515245) + 12345) * 1103515245) + 12345), .int (nI (j + 1)), .retAddr 0, .retAddr 0], []) (G, (vm_up (vm_wr I a (sp_nc s) j) a j ((((((0 * 64) + ((((((sp_z s (3 * j)) * 1103515245) + 12345).toUInt32 >>> ((9 : Int32).toUInt32 &&& Int32.toUInt32 31)).toInt32) - (((((sp_z s (3 * j)) * 1103515245) + 12345).toUInt32 >>> ((9 : Int32).toUInt32 &&& Int32.toUInt32 31)).toInt32) / 64 * 64)) * 64) + ((((((((sp_z s (3 * j)) * 1103515245) + 12345) * 1103515245) + 12345).toUInt32 >>> ((9 : Int32).toUInt32 &&& Int32.toUInt32 31)).toInt32) - (((((((sp_z s (3 * j)) * 1103515245) + 12345) * 1103515245) + 12345).toUInt32 >>> ((9 : Int32).toUInt32 &&& Int32.toUInt32 31)).toInt32) / 64 * 64)) * 64) + ((((((((((sp_z s (3 * j)) * 1103515245) + 12345) * 1103515245) + 12345) * 1103515245) + 12345).toUInt32 >>> ((9 : Int32).toUInt32 &&& Int32.toUInt32 31)).toInt32) - (((((((((sp_z s (3 * j)) * 1103515245) + 12345) * 1103515245) + 12345) * 1103515245) + 12345).toUInt32 >>> ((9 : Int32).toUInt32 &&& Int32.toUInt32 31)).toInt32) / 64 * 64))), F) _ _
      rw [show (vm_up (vm_wr I a (sp_nc s) j) a j ((((((0 * 64) + ((((((sp_z s (3 * j)) * 1103515245) + 12345).toUInt32 >>> ((9 : Int32).toUInt32 &&& Int32.toUInt32 31)).toInt32) - (((((sp_z s (3 * j)) * 1103515245) + 12345).toUInt32 >>> ((9 : Int32).toUInt32 &&& Int32.toUInt32 31)).toInt32) / 64 * 64)) * 64) + ((((((((sp_z s (3 * j)) * 1103515245) + 12345) * 1103515245) + 12345).toUInt32 >>> ((9 : Int32).toUInt32 &&& Int32.toUInt32 31)).toInt32) - (((((((sp_z s (3 * j)) * 1103515245) + 12345) * 1103515245) + 12345).toUInt32 >>> ((9 : Int32).toUInt32 &&& Int32.toUInt32 31)).toInt32) / 64 * 64)) * 64) + ((((((((((sp_z s (3 * j)) * 1103515245) + 12345) * 1103515245) + 12345) * 1103515245) + 12345).toUInt32 >>> ((9 : Int32).toUInt32 &&& Int32.toUInt32 31)).toInt32) - (((((((((sp_z s (3 * j)) * 1103515245) + 12345) * 1103515245) + 12345) * 1103515245) + 12345).toUInt32 >>> ((9 : Int32).toUInt32 &&& Int32.toUInt32 31)).toInt32) / 64 * 64))) = (vm_wr I a (sp_nc s) (j + 1)) from by exact vm_wr_s I a j (sp_nc s)]
      rw [show (((((((sp_z s (3 * j)) * 1103515245) + 12345) * 1103515245) + 12345) * 1103515245) + 12345 : Int32) = sp_z s (3 * (j + 1)) from by rfl]
      exact ij trivial
  · show vm_J _ _ _ (4, (0, 0), [.ref o, .int s, .int (sp_z s (3 * (w * h))), .int (nI (w * h)), .retAddr 0, .retAddr 0], []) (G, (vm_wr I a (sp_nc s) (w * h)), F) _ _
    refine vm_J.go vm_q41 (k := 2) (hs := []) (f' := (6, (0, 0), [.ref o, .int s, .int (sp_z s (3 * (w * h))), .int (nI (w * h)), .retAddr 0, .retAddr 0], [.ref o, .int (nI (w * h))])) (h' := (G, (vm_wr I a (sp_nc s) (w * h)), F)) (hs' := []) rfl rfl ?_
    refine vm_J.call vm_q41 (Z := vm_M36) (n := 0) (k := 0) (mi := 36) (pc := 6) (en := (6, .invokevirtual 38, 3, [36, 475, 0], .null)) rfl trivial rfl rfl vm_z36 (av := [.ref o]) (rest := [.int (nI (w * h))]) (m_Pic_pixels_n ho (show (vm_wr I a (sp_nc s) (w * h)) o 0 = nI w from by rw [vm_wr_o _ _ _ _ _ (Ne.symm hap)]; exact hw) (show (vm_wr I a (sp_nc s) (w * h)) o 1 = nI h from by rw [vm_wr_o _ _ _ _ _ (Ne.symm hap)]; exact hh)) ⟨_, _, rfl, rfl, _, 3, _, ho, rfl, rfl, rfl⟩ (Nat.le_of_ble_eq_true rfl) ⟨Nat.le_of_ble_eq_true rfl, Nat.le_of_ble_eq_true rfl⟩ ⟨Nat.le_of_ble_eq_true rfl, Nat.le_of_ble_eq_true rfl⟩ ?_
    show vm_J _ _ _ (9, (0, 0), [.ref o, .int s, .int (sp_z s (3 * (w * h))), .int (nI (w * h)), .retAddr 0, .retAddr 0], [.int (nI (w * h)), .int (nI (w * h))]) (G, (vm_wr I a (sp_nc s) (w * h)), F) _ _
    refine vm_J.go vm_q41 (k := 1) (hs := []) (f' := (bif vm_ic .ge (nI (w * h)) (nI (w * h)) then 70 else 12, (0, 0), [.ref o, .int s, .int (sp_z s (3 * (w * h))), .int (nI (w * h)), .retAddr 0, .retAddr 0], [])) (h' := (G, (vm_wr I a (sp_nc s) (w * h)), F)) (hs' := []) rfl rfl ?_
    refine vm_J.br (fun c2 => ?_) (fun c2 => ?_)
    · have c2 := vm_ge_t (a := (w * h)) (b := w * h) (by omega) (by omega) c2
      exact vm_J.end vm_q41 (en := (70, .return_, 1, [], .null)) rfl rfl vm_rV (Nat.zero_le _) (Nat.zero_le _) rfl
    · have c2 := vm_ge_f (a := (w * h)) (b := w * h) (by omega) (by omega) c2
      exact (show False by omega).elim
set_option maxHeartbeats 4000000 in
set_option maxRecDepth 20000 in
/-- DitherDesk.blend  -/
theorem m_blend {l : Launch} {X : vm_Cx} {G : List vm_Sh} {I : Nat → Nat → Int32} {F : Nat → Nat → UInt32} {f t i n : Int32} : vm_K l X vm_M166 [.int f, .int t, .int i, .int n] (G, I, F) (some (.int (sp_bl f t i n))) (G, I, F) := by
  refine vm_K.mk (by decide) (Nat.le_of_ble_eq_true rfl) ?_
  show vm_J _ _ _ (0, (0, 0), [.int f, .int t, .int i, .int n, .retAddr 0, .retAddr 0, .retAddr 0], []) _ _ _
  refine vm_J.go vm_q166 (k := 2) (hs := []) (f' := (bif vm_ic .gt n 0 then 6 else 4, (0, 0), [.int f, .int t, .int i, .int n, .retAddr 0, .retAddr 0, .retAddr 0], [])) (h' := (G, I, F)) (hs' := []) rfl rfl ?_
  refine vm_J.br (fun c1 => ?_) (fun c1 => ?_)
  · have c1 : 0 < n := of_decide_eq_true c1
    have hz := vm_gt_ne c1
    refine vm_J.go vm_q166 (k := 7) (hs := []) (f' := (bif vm_ic .ge 0 3 then 57 else 18, (0, 0), [.int f, .int t, .int i, .int n, .int 0, .int 0, .retAddr 0], [])) (h' := (G, I, F)) (hs' := []) rfl rfl ?_
    refine vm_J.bF (by decide) ?_
    refine vm_J.go vm_q166 (k := 2) (hs := []) (f' := (21, (0, 0), [.int f, .int t, .int i, .int n, .int 0, .int 0, .retAddr 0], [.int 0, .int f])) (h' := (G, I, F)) (hs' := []) rfl rfl ?_
    refine vm_J.call vm_q166 (Z := vm_M164) (n := 2) (k := 1) (mi := 164) (pc := 21) (en := (21, .invokestatic 208, 3, [164, 489, 0], .null)) rfl trivial rfl rfl vm_z164 (av := [.int f, .int 0]) (rest := []) (m_channelOf (c := f) (k := 0)) rfl (Nat.le_of_ble_eq_true rfl) ⟨Nat.le_of_ble_eq_true rfl, Nat.le_of_ble_eq_true rfl⟩ ⟨Nat.le_of_ble_eq_true rfl, Nat.le_of_ble_eq_true rfl⟩ ?_
    show vm_J _ _ _ (24, (0, 0), [.int f, .int t, .int i, .int n, .int 0, .int 0, .retAddr 0], [.int (sp_ch f 0)]) (G, I, F) _ _
    refine vm_J.go vm_q166 (k := 6) (hs := []) (f' := (31, (0, 0), [.int f, .int t, .int i, .int n, .int 0, .int 0, .retAddr 0], [.int 0, .int t, .int ((sp_ch f 0) * (n - i))])) (h' := (G, I, F)) (hs' := []) rfl rfl ?_
    refine vm_J.call vm_q166 (Z := vm_M164) (n := 2) (k := 1) (mi := 164) (pc := 31) (en := (31, .invokestatic 208, 3, [164, 489, 0], .null)) rfl trivial rfl rfl vm_z164 (av := [.int t, .int 0]) (rest := [.int ((sp_ch f 0) * (n - i))]) (m_channelOf (c := t) (k := 0)) rfl (Nat.le_of_ble_eq_true rfl) ⟨Nat.le_of_ble_eq_true rfl, Nat.le_of_ble_eq_true rfl⟩ ⟨Nat.le_of_ble_eq_true rfl, Nat.le_of_ble_eq_true rfl⟩ ?_
    show vm_J _ _ _ (34, (0, 0), [.int f, .int t, .int i, .int n, .int 0, .int 0, .retAddr 0], [.int (sp_ch t 0), .int ((sp_ch f 0) * (n - i))]) (G, I, F) _ _
    refine vm_J.go vm_q166 (k := 17) (hs := []) (f' := (bif vm_ic .ge (0 + 1) 3 then 57 else 18, (0, 0), [.int f, .int t, .int i, .int n, .int ((0 * 64) + ((((sp_ch f 0) * (n - i)) + ((sp_ch t 0) * i)) / n)), .int (0 + 1), .int (((sp_ch f 0) * (n - i)) + ((sp_ch t 0) * i))], [])) (h' := (G, I, F)) (hs' := []) rfl (vm_b2 rfl (vm_b2 rfl (vm_b2 rfl (vm_b2 rfl (vm_b2 rfl (vm_b2 rfl (vm_b2 rfl (vm_b2 rfl (vm_b2 rfl (vm_b2 (decide_eq_true (by assumption)) (vm_b2 rfl (vm_b2 rfl (vm_b2 rfl (vm_b2 rfl (vm_b2 rfl (vm_b2 rfl (vm_b2 rfl rfl))))))))))))))))) ?_
    rw [(show (0 + 1 : Int32) = 1 from by decide)]
    refine vm_J.bF (by decide) ?_
    refine vm_J.go vm_q166 (k := 2) (hs := []) (f' := (21, (0, 0), [.int f, .int t, .int i, .int n, .int ((0 * 64) + ((((sp_ch f 0) * (n - i)) + ((sp_ch t 0) * i)) / n)), .int 1, .int (((sp_ch f 0) * (n - i)) + ((sp_ch t 0) * i))], [.int 1, .int f])) (h' := (G, I, F)) (hs' := []) rfl rfl ?_
    refine vm_J.call vm_q166 (Z := vm_M164) (n := 2) (k := 1) (mi := 164) (pc := 21) (en := (21, .invokestatic 208, 3, [164, 489, 0], .null)) rfl trivial rfl rfl vm_z164 (av := [.int f, .int 1]) (rest := []) (m_channelOf (c := f) (k := 1)) rfl (Nat.le_of_ble_eq_true rfl) ⟨Nat.le_of_ble_eq_true rfl, Nat.le_of_ble_eq_true rfl⟩ ⟨Nat.le_of_ble_eq_true rfl, Nat.le_of_ble_eq_true rfl⟩ ?_
    show vm_J _ _ _ (24, (0, 0), [.int f, .int t, .int i, .int n, .int ((0 * 64) + ((((sp_ch f 0) * (n - i)) + ((sp_ch t 0) * i)) / n)), .int 1, .int (((sp_ch f 0) * (n - i)) + ((sp_ch t 0) * i))], [.int (sp_ch f 1)]) (G, I, F) _ _
    refine vm_J.go vm_q166 (k := 6) (hs := []) (f' := (31, (0, 0), [.int f, .int t, .int i, .int n, .int ((0 * 64) + ((((sp_ch f 0) * (n - i)) + ((sp_ch t 0) * i)) / n)), .int 1, .int (((sp_ch f 0) * (n - i)) + ((sp_ch t 0) * i))], [.int 1, .int t, .int ((sp_ch f 1) * (n - i))])) (h' := (G, I, F)) (hs' := []) rfl rfl ?_
    refine vm_J.call vm_q166 (Z := vm_M164) (n := 2) (k := 1) (mi := 164) (pc := 31) (en := (31, .invokestatic 208, 3, [164, 489, 0], .null)) rfl trivial rfl rfl vm_z164 (av := [.int t, .int 1]) (rest := [.int ((sp_ch f 1) * (n - i))]) (m_channelOf (c := t) (k := 1)) rfl (Nat.le_of_ble_eq_true rfl) ⟨Nat.le_of_ble_eq_true rfl, Nat.le_of_ble_eq_true rfl⟩ ⟨Nat.le_of_ble_eq_true rfl, Nat.le_of_ble_eq_true rfl⟩ ?_
    show vm_J _ _ _ (34, (0, 0), [.int f, .int t, .int i, .int n, .int ((0 * 64) + ((((sp_ch f 0) * (n - i)) + ((sp_ch t 0) * i)) / n)), .int 1, .int (((sp_ch f 0) * (n - i)) + ((sp_ch t 0) * i))], [.int (sp_ch t 1), .int ((sp_ch f 1) * (n - i))]) (G, I, F) _ _
    refine vm_J.go vm_q166 (k := 17) (hs := []) (f' := (bif vm_ic .ge (1 + 1) 3 then 57 else 18, (0, 0), [.int f, .int t, .int i, .int n, .int ((((0 * 64) + ((((sp_ch f 0) * (n - i)) + ((sp_ch t 0) * i)) / n)) * 64) + ((((sp_ch f 1) * (n - i)) + ((sp_ch t 1) * i)) / n)), .int (1 + 1), .int (((sp_ch f 1) * (n - i)) + ((sp_ch t 1) * i))], [])) (h' := (G, I, F)) (hs' := []) rfl (vm_b2 rfl (vm_b2 rfl (vm_b2 rfl (vm_b2 rfl (vm_b2 rfl (vm_b2 rfl (vm_b2 rfl (vm_b2 rfl (vm_b2 rfl (vm_b2 (decide_eq_true (by assumption)) (vm_b2 rfl (vm_b2 rfl (vm_b2 rfl (vm_b2 rfl (vm_b2 rfl (vm_b2 rfl (vm_b2 rfl rfl))))))))))))))))) ?_
    rw [(show (1 + 1 : Int32) = 2 from by decide)]
    refine vm_J.bF (by decide) ?_
    refine vm_J.go vm_q166 (k := 2) (hs := []) (f' := (21, (0, 0), [.int f, .int t, .int i, .int n, .int ((((0 * 64) + ((((sp_ch f 0) * (n - i)) + ((sp_ch t 0) * i)) / n)) * 64) + ((((sp_ch f 1) * (n - i)) + ((sp_ch t 1) * i)) / n)), .int 2, .int (((sp_ch f 1) * (n - i)) + ((sp_ch t 1) * i))], [.int 2, .int f])) (h' := (G, I, F)) (hs' := []) rfl rfl ?_
    refine vm_J.call vm_q166 (Z := vm_M164) (n := 2) (k := 1) (mi := 164) (pc := 21) (en := (21, .invokestatic 208, 3, [164, 489, 0], .null)) rfl trivial rfl rfl vm_z164 (av := [.int f, .int 2]) (rest := []) (m_channelOf (c := f) (k := 2)) rfl (Nat.le_of_ble_eq_true rfl) ⟨Nat.le_of_ble_eq_true rfl, Nat.le_of_ble_eq_true rfl⟩ ⟨Nat.le_of_ble_eq_true rfl, Nat.le_of_ble_eq_true rfl⟩ ?_
    show vm_J _ _ _ (24, (0, 0), [.int f, .int t, .int i, .int n, .int ((((0 * 64) + ((((sp_ch f 0) * (n - i)) + ((sp_ch t 0) * i)) / n)) * 64) + ((((sp_ch f 1) * (n - i)) + ((sp_ch t 1) * i)) / n)), .int 2, .int (((sp_ch f 1) * (n - i)) + ((sp_ch t 1) * i))], [.int (sp_ch f 2)]) (G, I, F) _ _
    refine vm_J.go vm_q166 (k := 6) (hs := []) (f' := (31, (0, 0), [.int f, .int t, .int i, .int n, .int ((((0 * 64) + ((((sp_ch f 0) * (n - i)) + ((sp_ch t 0) * i)) / n)) * 64) + ((((sp_ch f 1) * (n - i)) + ((sp_ch t 1) * i)) / n)), .int 2, .int (((sp_ch f 1) * (n - i)) + ((sp_ch t 1) * i))], [.int 2, .int t, .int ((sp_ch f 2) * (n - i))])) (h' := (G, I, F)) (hs' := []) rfl rfl ?_
    refine vm_J.call vm_q166 (Z := vm_M164) (n := 2) (k := 1) (mi := 164) (pc := 31) (en := (31, .invokestatic 208, 3, [164, 489, 0], .null)) rfl trivial rfl rfl vm_z164 (av := [.int t, .int 2]) (rest := [.int ((sp_ch f 2) * (n - i))]) (m_channelOf (c := t) (k := 2)) rfl (Nat.le_of_ble_eq_true rfl) ⟨Nat.le_of_ble_eq_true rfl, Nat.le_of_ble_eq_true rfl⟩ ⟨Nat.le_of_ble_eq_true rfl, Nat.le_of_ble_eq_true rfl⟩ ?_
    show vm_J _ _ _ (34, (0, 0), [.int f, .int t, .int i, .int n, .int ((((0 * 64) + ((((sp_ch f 0) * (n - i)) + ((sp_ch t 0) * i)) / n)) * 64) + ((((sp_ch f 1) * (n - i)) + ((sp_ch t 1) * i)) / n)), .int 2, .int (((sp_ch f 1) * (n - i)) + ((sp_ch t 1) * i))], [.int (sp_ch t 2), .int ((sp_ch f 2) * (n - i))]) (G, I, F) _ _
    refine vm_J.go vm_q166 (k := 17) (hs := []) (f' := (bif vm_ic .ge (2 + 1) 3 then 57 else 18, (0, 0), [.int f, .int t, .int i, .int n, .int ((((((0 * 64) + ((((sp_ch f 0) * (n - i)) + ((sp_ch t 0) * i)) / n)) * 64) + ((((sp_ch f 1) * (n - i)) + ((sp_ch t 1) * i)) / n)) * 64) + ((((sp_ch f 2) * (n - i)) + ((sp_ch t 2) * i)) / n)), .int (2 + 1), .int (((sp_ch f 2) * (n - i)) + ((sp_ch t 2) * i))], [])) (h' := (G, I, F)) (hs' := []) rfl (vm_b2 rfl (vm_b2 rfl (vm_b2 rfl (vm_b2 rfl (vm_b2 rfl (vm_b2 rfl (vm_b2 rfl (vm_b2 rfl (vm_b2 rfl (vm_b2 (decide_eq_true (by assumption)) (vm_b2 rfl (vm_b2 rfl (vm_b2 rfl (vm_b2 rfl (vm_b2 rfl (vm_b2 rfl (vm_b2 rfl rfl))))))))))))))))) ?_
    rw [(show (2 + 1 : Int32) = 3 from by decide)]
    refine vm_J.bT (by decide) ?_
    refine vm_J.go vm_q166 (k := 1) (hs := []) (f' := (59, (0, 0), [.int f, .int t, .int i, .int n, .int ((((((0 * 64) + ((((sp_ch f 0) * (n - i)) + ((sp_ch t 0) * i)) / n)) * 64) + ((((sp_ch f 1) * (n - i)) + ((sp_ch t 1) * i)) / n)) * 64) + ((((sp_ch f 2) * (n - i)) + ((sp_ch t 2) * i)) / n)), .int 3, .int (((sp_ch f 2) * (n - i)) + ((sp_ch t 2) * i))], [.int ((((((0 * 64) + ((((sp_ch f 0) * (n - i)) + ((sp_ch t 0) * i)) / n)) * 64) + ((((sp_ch f 1) * (n - i)) + ((sp_ch t 1) * i)) / n)) * 64) + ((((sp_ch f 2) * (n - i)) + ((sp_ch t 2) * i)) / n))])) (h' := (G, I, F)) (hs' := []) rfl rfl ?_
    exact vm_J.end vm_q166 (en := (59, .ireturn, 1, [], .null)) rfl (by unfold sp_bl; first | rw [if_pos c1]; rfl | rw [if_neg c1]; rfl) vm_rI (Nat.zero_le _) (Nat.zero_le _) rfl
  · have c1 : ¬ (0 < n) := of_decide_eq_false c1
    refine vm_J.go vm_q166 (k := 1) (hs := []) (f' := (5, (0, 0), [.int f, .int t, .int i, .int n, .retAddr 0, .retAddr 0, .retAddr 0], [.int f])) (h' := (G, I, F)) (hs' := []) rfl rfl ?_
    exact vm_J.end vm_q166 (en := (5, .ireturn, 1, [], .null)) rfl (by unfold sp_bl; first | rw [if_pos c1]; rfl | rw [if_neg c1]; rfl) vm_rI (Nat.zero_le _) (Nat.zero_le _) rfl
/-- what pixel k of a shade is -/
def sp_sd (f t : Int32) (w k : Nat) : Int32 := sp_bl f t (nI (k % w)) (nI w - 1)
theorem vm_mod1 {y w x : Nat} (h : x < w) : (y * w + x) % w = x := by rw [Nat.mul_comm, Nat.mul_add_mod]; exact Nat.mod_eq_of_lt h
theorem vm_lin {x y w h : Nat} (hx : x < w) (hy : y < h) : y * w + x < w * h := by
  have h1 : (y + 1) * w ≤ h * w := Nat.mul_le_mul_right w hy
  rw [Nat.add_mul, Nat.one_mul] at h1
  rw [Nat.mul_comm w h]
  omega
set_option maxHeartbeats 4000000 in
set_option maxRecDepth 20000 in
/-- DitherDesk$Picture.drawShade  -/
theorem m_Pic_drawShade {l : Launch} {X : vm_Cx} {G : List vm_Sh} {I : Nat → Nat → Int32} {F : Nat → Nat → UInt32} {o a w h : Nat} {f t : Int32} (ho : G[o]? = some (5, 3, [.int 0, .int 0, .ref a])) (ha : G[a]? = some (0, 144, [])) (hw : I o 0 = nI w) (hh : I o 1 = nI h) (hw2 : w ≤ 12) (hh2 : h ≤ 12) (hap : a ≠ o) : vm_K l X vm_M42 [.ref o, .int f, .int t] (G, I, F) (none) (G, (vm_wr I a (sp_sd f t w) (w * h)), F) := by
  refine vm_K.mk (by decide) (Nat.le_of_ble_eq_true rfl) ?_
  have hwh := vm_mul144 hw2 hh2
  show vm_J _ _ _ (0, (0, 0), [.ref o, .int f, .int t, .retAddr 0, .retAddr 0], []) _ _ _
  refine vm_J.go vm_q42 (k := 2) (hs := []) (f' := (2, (0, 0), [.ref o, .int f, .int t, .int 0, .retAddr 0], [])) (h' := (G, I, F)) (hs' := []) rfl rfl ?_
  refine vm_J.cnt h (fun y => (2, (0, 0), [.ref o, .int f, .int t, .int (nI y), .retAddr 0], [])) (fun y => (G, (vm_wr I a (sp_sd f t w) (y * w)), F)) (fun _ => True) rfl (by rw [Nat.zero_mul, ← vm_wr_0]) trivial (fun y hy py iy => ?_) (fun py => ?_)
  · show vm_J _ _ _ (2, (0, 0), [.ref o, .int f, .int t, .int (nI y), .retAddr 0], []) (G, (vm_wr I a (sp_sd f t w) (y * w)), F) _ _
    refine vm_J.go vm_q42 (k := 4) (hs := [(5, 3, [.int 0, .int 0, .ref a])]) (f' := (bif vm_ic .ge (nI y) ((vm_wr I a (sp_sd f t w) (y * w)) o 1) then 61 else 10, (0, 0), [.ref o, .int f, .int t, .int (nI y), .retAddr 0], [])) (h' := (G, (vm_wr I a (sp_sd f t w) (y * w)), F)) (hs' := []) rfl (vm_b2 rfl (vm_b2 rfl (vm_b2 (vm_b2 (vm_hG ho) rfl) (vm_b2 rfl rfl)))) ?_
    refine vm_J.br (fun c1 => ?_) (fun c1 => ?_)
    · rw [((show (vm_wr I a (sp_sd f t w) (y * w)) o 1 = nI h from by rw [vm_wr_o _ _ _ _ _ (Ne.symm hap)]; exact hh) : (vm_wr I a (sp_sd f t w) (y * w)) o 1 = nI h)] at c1
      have c1 := vm_ge_t (a := y) (b := h) (by omega) (by omega) c1
      exact (show False by omega).elim
    · rw [((show (vm_wr I a (sp_sd f t w) (y * w)) o 1 = nI h from by rw [vm_wr_o _ _ _ _ _ (Ne.symm hap)]; exact hh) : (vm_wr I a (sp_sd f t w) (y * w)) o 1 = nI h)] at c1
      have c1 := vm_ge_f (a := y) (b := h) (by omega) (by omega) c1
      refine vm_J.go vm_q42 (k := 2) (hs := []) (f' := (13, (0, 0), [.ref o, .int f, .int t, .int (nI y), .int 0], [])) (h' := (G, (vm_wr I a (sp_sd f t w) (y * w)), F)) (hs' := []) rfl rfl ?_
      refine vm_J.cnt w (fun x => (13, (0, 0), [.ref o, .int f, .int t, .int (nI y), .int (nI x)], [])) (fun x => (G, (vm_wr I a (sp_sd f t w) (y * w + x)), F)) (fun _ => True) rfl rfl trivial (fun x hx px ix => ?_) (fun px => ?_)
      · have hlin := vm_lin hx hy
        show vm_J _ _ _ (13, (0, 0), [.ref o, .int f, .int t, .int (nI y), .int (nI x)], []) (G, (vm_wr I a (sp_sd f t w) (y * w + x)), F) _ _
        refine vm_J.go vm_q42 (k := 4) (hs := [(5, 3, [.int 0, .int 0, .ref a])]) (f' := (bif vm_ic .ge (nI x) ((vm_wr I a (sp_sd f t w) (y * w + x)) o 0) then 55 else 22, (0, 0), [.ref o, .int f, .int t, .int (nI y), .int (nI x)], [])) (h' := (G, (vm_wr I a (sp_sd f t w) (y * w + x)), F)) (hs' := []) rfl (vm_b2 rfl (vm_b2 rfl (vm_b2 (vm_b2 (vm_hG ho) rfl) (vm_b2 rfl rfl)))) ?_
        refine vm_J.br (fun c2 => ?_) (fun c2 => ?_)
        · rw [((show (vm_wr I a (sp_sd f t w) (y * w + x)) o 0 = nI w from by rw [vm_wr_o _ _ _ _ _ (Ne.symm hap)]; exact hw) : (vm_wr I a (sp_sd f t w) (y * w + x)) o 0 = nI w)] at c2
          have c2 := vm_ge_t (a := x) (b := w) (by omega) (by omega) c2
          exact (show False by omega).elim
        · rw [((show (vm_wr I a (sp_sd f t w) (y * w + x)) o 0 = nI w from by rw [vm_wr_o _ _ _ _ _ (Ne.symm hap)]; exact hw) : (vm_wr I a (sp_sd f t w) (y * w + x)) o 0 = nI w)] at c2
          have c2 := vm_ge_f (a := x) (b := w) (by omega) (by omega) c2
          refine vm_J.go vm_q42 (k := 5) (hs := [(5, 3, [.int 0, .int 0, .ref a])]) (f' := (30, (0, 0), [.ref o, .int f, .int t, .int (nI y), .int (nI x)], [.int (nI y), .int (nI x), .ref o, .ref a])) (h' := (G, (vm_wr I a (sp_sd f t w) (y * w + x)), F)) (hs' := []) rfl (vm_b2 rfl (vm_b2 (vm_b2 (vm_hG ho) rfl) (vm_b2 rfl (vm_b2 rfl (vm_b2 rfl rfl))))) ?_
          refine vm_J.call vm_q42 (Z := vm_M38) (n := 2) (k := 0) (mi := 38) (pc := 30) (en := (30, .invokevirtual 26, 3, [38, 456, 0], .null)) rfl trivial rfl rfl vm_z38 (av := [.ref o, .int (nI x), .int (nI y)]) (rest := [.ref a]) (m_Pic_placeOf_n (i := x) (j := y) ho (show (vm_wr I a (sp_sd f t w) (y * w + x)) o 0 = nI w from by rw [vm_wr_o _ _ _ _ _ (Ne.symm hap)]; exact hw)) ⟨_, _, rfl, rfl, _, 3, _, ho, rfl, rfl, rfl⟩ (Nat.le_of_ble_eq_true rfl) ⟨Nat.le_of_ble_eq_true rfl, Nat.le_of_ble_eq_true rfl⟩ ⟨Nat.le_of_ble_eq_true rfl, Nat.le_of_ble_eq_true rfl⟩ ?_
          show vm_J _ _ _ (33, (0, 0), [.ref o, .int f, .int t, .int (nI y), .int (nI x)], [.int (nI (y * w + x)), .ref a]) (G, (vm_wr I a (sp_sd f t w) (y * w + x)), F) _ _
          refine vm_J.go vm_q42 (k := 7) (hs := [(5, 3, [.int 0, .int 0, .ref a])]) (f' := (43, (0, 0), [.ref o, .int f, .int t, .int (nI y), .int (nI x)], [.int (((vm_wr I a (sp_sd f t w) (y * w + x)) o 0) - 1), .int (nI x), .int t, .int f, .int (nI (y * w + x)), .ref a])) (h' := (G, (vm_wr I a (sp_sd f t w) (y * w + x)), F)) (hs' := []) rfl (vm_b2 rfl (vm_b2 rfl (vm_b2 rfl (vm_b2 rfl (vm_b2 (vm_b2 (vm_hG ho) rfl) (vm_b2 rfl (vm_b2 rfl rfl))))))) ?_
          rw [((show (vm_wr I a (sp_sd f t w) (y * w + x)) o 0 = nI w from by rw [vm_wr_o _ _ _ _ _ (Ne.symm hap)]; exact hw) : (vm_wr I a (sp_sd f t w) (y * w + x)) o 0 = nI w)]
          refine vm_J.call vm_q42 (Z := vm_M166) (n := 4) (k := 1) (mi := 166) (pc := 43) (en := (43, .invokestatic 47, 3, [166, 486, 1], .null)) rfl trivial rfl rfl vm_z166 (av := [.int f, .int t, .int (nI x), .int ((nI w) - 1)]) (rest := [.int (nI (y * w + x)), .ref a]) (m_blend (f := f) (t := t) (i := nI x) (n := (nI w) - 1)) rfl (Nat.le_of_ble_eq_true rfl) ⟨Nat.le_of_ble_eq_true rfl, Nat.le_of_ble_eq_true rfl⟩ ⟨Nat.le_of_ble_eq_true rfl, Nat.le_of_ble_eq_true rfl⟩ ?_
          show vm_J _ _ _ (46, (0, 0), [.ref o, .int f, .int t, .int (nI y), .int (nI x)], [.int (sp_bl f t (nI x) ((nI w) - 1)), .int (nI (y * w + x)), .ref a]) (G, (vm_wr I a (sp_sd f t w) (y * w + x)), F) _ _
          refine vm_J.call vm_q42 (Z := vm_M153) (n := 3) (k := 1) (mi := 153) (pc := 46) (en := (46, .invokestatic 43, 3, [153, 477, 1], .null)) rfl trivial rfl rfl vm_z153 (av := [.ref a, .int (nI (y * w + x)), .int (sp_bl f t (nI x) ((nI w) - 1))]) (rest := []) (m_put_n (j := y * w + x) (v := sp_bl f t (nI x) ((nI w) - 1)) ha (by omega) (by omega)) rfl (Nat.le_of_ble_eq_true rfl) ⟨Nat.le_of_ble_eq_true rfl, Nat.le_of_ble_eq_true rfl⟩ ⟨Nat.le_of_ble_eq_true rfl, Nat.le_of_ble_eq_true rfl⟩ ?_
          show vm_J _ _ _ (49, (0, 0), [.ref o, .int f, .int t, .int (nI y), .int (nI x)], []) (G, (vm_up (vm_wr I a (sp_sd f t w) (y * w + x)) a (y * w + x) (sp_bl f t (nI x) ((nI w) - 1))), F) _ _
          refine vm_J.go vm_q42 (k := 2) (hs := []) (f' := (13, (0, 0), [.ref o, .int f, .int t, .int (nI y), .int ((nI x) + 1)], [])) (h' := (G, (vm_up (vm_wr I a (sp_sd f t w) (y * w + x)) a (y * w + x) (sp_bl f t (nI x) ((nI w) - 1))), F)) (hs' := []) rfl rfl ?_
          rw [((vm_pa (rfl : nI x = nI x) (rfl : (1 : Int32) = nI 1)) : (nI x) + 1 = nI (x + 1))]
          rw [show (vm_up (vm_wr I a (sp_sd f t w) (y * w + x)) a (y * w + x) (sp_bl f t (nI x) ((nI w) - 1))) = (vm_wr I a (sp_sd f t w) (y * w + (x + 1))) from by rw [show sp_bl f t (nI x) (nI w - 1) = sp_sd f t w (y * w + x) from by unfold sp_sd; rw [vm_mod1 hx]]; exact vm_wr_s I a (y * w + x) (sp_sd f t w)]
          exact ix trivial
      · show vm_J _ _ _ (13, (0, 0), [.ref o, .int f, .int t, .int (nI y), .int (nI w)], []) (G, (vm_wr I a (sp_sd f t w) (y * w + w)), F) _ _
        refine vm_J.go vm_q42 (k := 4) (hs := [(5, 3, [.int 0, .int 0, .ref a])]) (f' := (bif vm_ic .ge (nI w) ((vm_wr I a (sp_sd f t w) (y * w + w)) o 0) then 55 else 22, (0, 0), [.ref o, .int f, .int t, .int (nI y), .int (nI w)], [])) (h' := (G, (vm_wr I a (sp_sd f t w) (y * w + w)), F)) (hs' := []) rfl (vm_b2 rfl (vm_b2 rfl (vm_b2 (vm_b2 (vm_hG ho) rfl) (vm_b2 rfl rfl)))) ?_
        refine vm_J.br (fun c3 => ?_) (fun c3 => ?_)
        · rw [((show (vm_wr I a (sp_sd f t w) (y * w + w)) o 0 = nI w from by rw [vm_wr_o _ _ _ _ _ (Ne.symm hap)]; exact hw) : (vm_wr I a (sp_sd f t w) (y * w + w)) o 0 = nI w)] at c3
          have c3 := vm_ge_t (a := w) (b := w) (by omega) (by omega) c3
          refine vm_J.go vm_q42 (k := 2) (hs := []) (f' := (2, (0, 0), [.ref o, .int f, .int t, .int ((nI y) + 1), .int (nI w)], [])) (h' := (G, (vm_wr I a (sp_sd f t w) (y * w + w)), F)) (hs' := []) rfl rfl ?_
          rw [((vm_pa (rfl : nI y = nI y) (rfl : (1 : Int32) = nI 1)) : (nI y) + 1 = nI (y + 1))]
          refine vm_J.mask [true, true, true, true, false] ?_
          show vm_J _ _ _ (2, (0, 0), [.ref o, .int f, .int t, .int (nI (y + 1)), .retAddr 0], []) (G, (vm_wr I a (sp_sd f t w) (y * w + w)), F) _ _
          rw [show (vm_wr I a (sp_sd f t w) (y * w + w)) = (vm_wr I a (sp_sd f t w) ((y + 1) * w)) from by rw [Nat.add_mul, Nat.one_mul]]
          exact iy trivial
        · rw [((show (vm_wr I a (sp_sd f t w) (y * w + w)) o 0 = nI w from by rw [vm_wr_o _ _ _ _ _ (Ne.symm hap)]; exact hw) : (vm_wr I a (sp_sd f t w) (y * w + w)) o 0 = nI w)] at c3
          have c3 := vm_ge_f (a := w) (b := w) (by omega) (by omega) c3
          exact (show False by omega).elim
  · show vm_J _ _ _ (2, (0, 0), [.ref o, .int f, .int t, .int (nI h), .retAddr 0], []) (G, (vm_wr I a (sp_sd f t w) (h * w)), F) _ _
    refine vm_J.go vm_q42 (k := 4) (hs := [(5, 3, [.int 0, .int 0, .ref a])]) (f' := (bif vm_ic .ge (nI h) ((vm_wr I a (sp_sd f t w) (h * w)) o 1) then 61 else 10, (0, 0), [.ref o, .int f, .int t, .int (nI h), .retAddr 0], [])) (h' := (G, (vm_wr I a (sp_sd f t w) (h * w)), F)) (hs' := []) rfl (vm_b2 rfl (vm_b2 rfl (vm_b2 (vm_b2 (vm_hG ho) rfl) (vm_b2 rfl rfl)))) ?_
    refine vm_J.br (fun c4 => ?_) (fun c4 => ?_)
    · rw [((show (vm_wr I a (sp_sd f t w) (h * w)) o 1 = nI h from by rw [vm_wr_o _ _ _ _ _ (Ne.symm hap)]; exact hh) : (vm_wr I a (sp_sd f t w) (h * w)) o 1 = nI h)] at c4
      have c4 := vm_ge_t (a := h) (b := h) (by omega) (by omega) c4
      exact vm_J.end vm_q42 (en := (61, .return_, 1, [], .null)) rfl rfl vm_rV (Nat.zero_le _) (Nat.zero_le _) (by rw [Nat.mul_comm])
    · rw [((show (vm_wr I a (sp_sd f t w) (h * w)) o 1 = nI h from by rw [vm_wr_o _ _ _ _ _ (Ne.symm hap)]; exact hh) : (vm_wr I a (sp_sd f t w) (h * w)) o 1 = nI h)] at c4
      have c4 := vm_ge_f (a := h) (b := h) (by omega) (by omega) c4
      exact (show False by omega).elim
