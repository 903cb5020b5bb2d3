/-- a sum -/
def sp_sum (g : Nat → Int32) : Nat → Int32
  | 0 => 0
  | n + 1 => sp_sum g n + g n
theorem sp_sum_ext {g g' : Nat → Int32} : ∀ {n : Nat}, (∀ k, k < n → g k = g' k) → sp_sum g n = sp_sum g' n
  | 0, _ => rfl
  | n + 1, h => by
    unfold sp_sum
    rw [sp_sum_ext fun k hk => h k (Nat.lt_succ_of_lt hk), h n (Nat.lt_succ_self n)]
theorem vm_mul144 {w h : Nat} (hw : w ≤ 12) (hh : h ≤ 12) : w * h ≤ 144 := Nat.mul_le_mul hw hh
set_option maxHeartbeats 4000000 in
set_option maxRecDepth 20000 in
/-- DitherDesk$Picture.pixels  -/
theorem m_Pic_pixels {l : Launch} {X : vm_Cx} {G : List vm_Sh} {I : Nat → Nat → Int32} {F : Nat → Nat → UInt32} {o a : Nat} (ho : G[o]? = some (5, 3, [.int 0, .int 0, .ref a])) : vm_K l X vm_M36 [.ref o] (G, I, F) (some (.int (I o 0 * I o 1))) (G, I, F) := by
  refine vm_K.mk (by decide) (Nat.le_of_ble_eq_true rfl) ?_
  show vm_J _ _ _ (0, (0, 0), [.ref o], []) _ _ _
  refine vm_J.go vm_q36 (k := 5) (hs := [(5, 3, [.int 0, .int 0, .ref a]), (5, 3, [.int 0, .int 0, .ref a])]) (f' := (9, (0, 0), [.ref o], [.int ((I o 0) * (I o 1))])) (h' := (G, I, F)) (hs' := []) rfl (vm_b2 rfl (vm_b2 (vm_b2 (vm_hG ho) rfl) (vm_b2 rfl (vm_b2 (vm_b2 (vm_hG ho) rfl) (vm_b2 rfl rfl))))) ?_
  exact vm_J.end vm_q36 (en := (9, .ireturn, 1, [], .null)) rfl rfl vm_rI (Nat.zero_le _) (Nat.zero_le _) rfl
theorem m_Pic_pixels_n {l : Launch} {X : vm_Cx} {G : List vm_Sh} {I : Nat → Nat → Int32} {F : Nat → Nat → UInt32} {o a w h : Nat} (ho : G[o]? = some (5, 3, [.int 0, .int 0, .ref a])) (hw : I o 0 = nI w) (hh : I o 1 = nI h) : vm_K l X vm_M36 [.ref o] (G, I, F) (some (.int (nI (w * h)))) (G, I, F) := by
  have q := m_Pic_pixels (l := l) (X := X) (I := I) (F := F) ho
  rw [hw, hh, ← vm_nm] at q
  exact q
set_option maxHeartbeats 4000000 in
set_option maxRecDepth 20000 in
/-- DitherDesk$Picture.holds  -/
theorem m_Pic_holds {l : Launch} {X : vm_Cx} {G : List vm_Sh} {I : Nat → Nat → Int32} {F : Nat → Nat → UInt32} {o a : Nat} {x y : Int32} (ho : G[o]? = some (5, 3, [.int 0, .int 0, .ref a])) : vm_K l X vm_M37 [.ref o, .int x, .int y] (G, I, F) (some (.int (vm_bi ((0 ≤ x ∧ x ≤ I o 0 - 1) ∧ 0 ≤ y ∧ y ≤ I o 1 - 1)))) (G, I, F) := by
  refine vm_K.mk (by decide) (Nat.le_of_ble_eq_true rfl) ?_
  show vm_J _ _ _ (0, (0, 0), [.ref o, .int x, .int y], []) _ _ _
  refine vm_J.go vm_q37 (k := 6) (hs := [(5, 3, [.int 0, .int 0, .ref a])]) (f' := (8, (0, 0), [.ref o, .int x, .int y], [.int ((I o 0) - 1), .int 0, .int x])) (h' := (G, I, F)) (hs' := []) rfl (vm_b2 rfl (vm_b2 rfl (vm_b2 rfl (vm_b2 (vm_b2 (vm_hG ho) rfl) (vm_b2 rfl (vm_b2 rfl rfl)))))) ?_
  refine vm_J.call vm_q37 (Z := vm_M151) (n := 3) (k := 1) (mi := 151) (pc := 8) (en := (8, .invokestatic 22, 3, [151, 447, 1], .null)) rfl trivial rfl rfl vm_z151 (av := [.int x, .int 0, .int ((I o 0) - 1)]) (rest := []) (m_isWithin (v := x) (a := 0) (b := (I o 0) - 1)) rfl (Nat.le_of_ble_eq_true rfl) ⟨Nat.le_of_ble_eq_true rfl, Nat.le_of_ble_eq_true rfl⟩ ⟨Nat.le_of_ble_eq_true rfl, Nat.le_of_ble_eq_true rfl⟩ ?_
  show vm_J _ _ _ (11, (0, 0), [.ref o, .int x, .int y], [.int (vm_bi (0 ≤ x ∧ x ≤ ((I o 0) - 1)))]) (G, I, F) _ _
  refine vm_J.go vm_q37 (k := 1) (hs := []) (f' := (bif vm_ic .eq (vm_bi (0 ≤ x ∧ x ≤ ((I o 0) - 1))) 0 then 32 else 14, (0, 0), [.ref o, .int x, .int y], [])) (h' := (G, I, F)) (hs' := []) rfl rfl ?_
  refine vm_J.br (fun c1 => ?_) (fun c1 => ?_)
  · have c1 := vm_bi_eq_t c1
    refine vm_J.go vm_q37 (k := 1) (hs := []) (f' := (33, (0, 0), [.ref o, .int x, .int y], [.int 0])) (h' := (G, I, F)) (hs' := []) rfl rfl ?_
    exact vm_J.end vm_q37 (en := (33, .ireturn, 1, [], .null)) rfl (by first | rw [vm_bi_t ⟨c1, c2⟩]; rfl | rw [vm_bi_f fun q => c1 q.1]; rfl | rw [vm_bi_f fun q => c2 q.2]; rfl) (vm_rZ vm_bi_01) (Nat.zero_le _) (Nat.zero_le _) rfl
  · have c1 := vm_bi_eq_f c1
    refine vm_J.go vm_q37 (k := 6) (hs := [(5, 3, [.int 0, .int 0, .ref a])]) (f' := (22, (0, 0), [.ref o, .int x, .int y], [.int ((I o 1) - 1), .int 0, .int y])) (h' := (G, I, F)) (hs' := []) rfl (vm_b2 rfl (vm_b2 rfl (vm_b2 rfl (vm_b2 (vm_b2 (vm_hG ho) rfl) (vm_b2 rfl (vm_b2 rfl rfl)))))) ?_
    refine vm_J.call vm_q37 (Z := vm_M151) (n := 3) (k := 1) (mi := 151) (pc := 22) (en := (22, .invokestatic 22, 3, [151, 447, 1], .null)) rfl trivial rfl rfl vm_z151 (av := [.int y, .int 0, .int ((I o 1) - 1)]) (rest := []) (m_isWithin (v := y) (a := 0) (b := (I o 1) - 1)) rfl (Nat.le_of_ble_eq_true rfl) ⟨Nat.le_of_ble_eq_true rfl, Nat.le_of_ble_eq_true rfl⟩ ⟨Nat.le_of_ble_eq_true rfl, Nat.le_of_ble_eq_true rfl⟩ ?_
    show vm_J _ _ _ (25, (0, 0), [.ref o, .int x, .int y], [.int (vm_bi (0 ≤ y ∧ y ≤ ((I o 1) - 1)))]) (G, I, F) _ _
    refine vm_J.go vm_q37 (k := 1) (hs := []) (f' := (bif vm_ic .eq (vm_bi (0 ≤ y ∧ y ≤ ((I o 1) - 1))) 0 then 32 else 28, (0, 0), [.ref o, .int x, .int y], [])) (h' := (G, I, F)) (hs' := []) rfl rfl ?_
    refine vm_J.br (fun c2 => ?_) (fun c2 => ?_)
    · have c2 := vm_bi_eq_t c2
      refine vm_J.go vm_q37 (k := 1) (hs := []) (f' := (33, (0, 0), [.ref o, .int x, .int y], [.int 0])) (h' := (G, I, F)) (hs' := []) rfl rfl ?_
      exact vm_J.end vm_q37 (en := (33, .ireturn, 1, [], .null)) rfl (by first | rw [vm_bi_t ⟨c1, c2⟩]; rfl | rw [vm_bi_f fun q => c1 q.1]; rfl | rw [vm_bi_f fun q => c2 q.2]; rfl) (vm_rZ vm_bi_01) (Nat.zero_le _) (Nat.zero_le _) rfl
    · have c2 := vm_bi_eq_f c2
      refine vm_J.go vm_q37 (k := 2) (hs := []) (f' := (33, (0, 0), [.ref o, .int x, .int y], [.int 1])) (h' := (G, I, F)) (hs' := []) rfl rfl ?_
      exact vm_J.end vm_q37 (en := (33, .ireturn, 1, [], .null)) rfl (by first | rw [vm_bi_t ⟨c1, c2⟩]; rfl | rw [vm_bi_f fun q => c1 q.1]; rfl | rw [vm_bi_f fun q => c2 q.2]; rfl) (vm_rZ vm_bi_01) (Nat.zero_le _) (Nat.zero_le _) rfl
set_option maxHeartbeats 4000000 in
set_option maxRecDepth 20000 in
/-- DitherDesk$Picture.placeOf  -/
theorem m_Pic_placeOf {l : Launch} {X : vm_Cx} {G : List vm_Sh} {I : Nat → Nat → Int32} {F : Nat → Nat → UInt32} {o a : Nat} {x y : Int32} (ho : G[o]? = some (5, 3, [.int 0, .int 0, .ref a])) : vm_K l X vm_M38 [.ref o, .int x, .int y] (G, I, F) (some (.int (y * I o 0 + x))) (G, I, F) := by
  refine vm_K.mk (by decide) (Nat.le_of_ble_eq_true rfl) ?_
  show vm_J _ _ _ (0, (0, 0), [.ref o, .int x, .int y], []) _ _ _
  refine vm_J.go vm_q38 (k := 6) (hs := [(5, 3, [.int 0, .int 0, .ref a])]) (f' := (8, (0, 0), [.ref o, .int x, .int y], [.int ((y * (I o 0)) + x)])) (h' := (G, I, F)) (hs' := []) rfl (vm_b2 rfl (vm_b2 rfl (vm_b2 (vm_b2 (vm_hG ho) rfl) (vm_b2 rfl (vm_b2 rfl (vm_b2 rfl rfl)))))) ?_
  exact vm_J.end vm_q38 (en := (8, .ireturn, 1, [], .null)) rfl rfl vm_rI (Nat.zero_le _) (Nat.zero_le _) rfl
theorem m_Pic_placeOf_n {l : Launch} {X : vm_Cx} {G : List vm_Sh} {I : Nat → Nat → Int32} {F : Nat → Nat → UInt32} {o a w i j : Nat} (ho : G[o]? = some (5, 3, [.int 0, .int 0, .ref a])) (hw : I o 0 = nI w) : vm_K l X vm_M38 [.ref o, .int (nI i), .int (nI j)] (G, I, F) (some (.int (nI (j * w + i)))) (G, I, F) := by
  have q := m_Pic_placeOf (l := l) (X := X) (I := I) (F := F) (x := nI i) (y := nI j) ho
  rw [hw, ← vm_nm, ← vm_na] at q
  exact q
set_option maxHeartbeats 4000000 in
set_option maxRecDepth 20000 in
/-- DitherDesk$Picture.colourAt  -/
theorem m_Pic_colourAt {l : Launch} {X : vm_Cx} {G : List vm_Sh} {I : Nat → Nat → Int32} {F : Nat → Nat → UInt32} {o a w i j : Nat} (ho : G[o]? = some (5, 3, [.int 0, .int 0, .ref a])) (ha : G[a]? = some (0, 144, [])) (hw : I o 0 = nI w) (hp : j * w + i < 144) : vm_K l X vm_M39 [.ref o, .int (nI i), .int (nI j)] (G, I, F) (some (.int (I a (j * w + i)))) (G, I, F) := by
  refine vm_K.mk (by decide) (Nat.le_of_ble_eq_true rfl) ?_
  show vm_J _ _ _ (0, (0, 0), [.ref o, .int (nI i), .int (nI j)], []) _ _ _
  refine vm_J.go vm_q39 (k := 5) (hs := [(5, 3, [.int 0, .int 0, .ref a])]) (f' := (7, (0, 0), [.ref o, .int (nI i), .int (nI j)], [.int (nI j), .int (nI i), .ref o, .ref a])) (h' := (G, I, F)) (hs' := []) rfl (vm_b2 rfl (vm_b2 (vm_b2 (vm_hG ho) rfl) (vm_b2 rfl (vm_b2 rfl (vm_b2 rfl rfl))))) ?_
  refine vm_J.call vm_q39 (Z := vm_M38) (n := 2) (k := 0) (mi := 38) (pc := 7) (en := (7, .invokevirtual 26, 3, [38, 456, 0], .null)) rfl trivial rfl rfl vm_z38 (av := [.ref o, .int (nI i), .int (nI j)]) (rest := [.ref a]) (m_Pic_placeOf_n (i := i) (j := j) ho hw) ⟨_, _, rfl, rfl, _, 3, _, ho, rfl, rfl, rfl⟩ (Nat.le_of_ble_eq_true rfl) ⟨Nat.le_of_ble_eq_true rfl, Nat.le_of_ble_eq_true rfl⟩ ⟨Nat.le_of_ble_eq_true rfl, Nat.le_of_ble_eq_true rfl⟩ ?_
  show vm_J _ _ _ (10, (0, 0), [.ref o, .int (nI i), .int (nI j)], [.int (nI (j * w + i)), .ref a]) (G, I, F) _ _
  refine vm_J.call vm_q39 (Z := vm_M152) (n := 2) (k := 1) (mi := 152) (pc := 10) (en := (10, .invokestatic 30, 3, [152, 460, 1], .null)) rfl trivial rfl rfl vm_z152 (av := [.ref a, .int (nI (j * w + i))]) (rest := []) (m_at_n (j := j * w + i) ha (by omega) (by omega)) rfl (Nat.le_of_ble_eq_true rfl) ⟨Nat.le_of_ble_eq_true rfl, Nat.le_of_ble_eq_true rfl⟩ ⟨Nat.le_of_ble_eq_true rfl, Nat.le_of_ble_eq_true rfl⟩ ?_
  show vm_J _ _ _ (13, (0, 0), [.ref o, .int (nI i), .int (nI j)], [.int (I a (j * w + i))]) (G, I, F) _ _
  exact vm_J.end vm_q39 (en := (13, .ireturn, 1, [], .null)) rfl rfl vm_rI (Nat.zero_le _) (Nat.zero_le _) rfl
set_option maxHeartbeats 4000000 in
set_option maxRecDepth 20000 in
/-- DitherDesk$Picture.blacken  -/
theorem m_Pic_blacken {l : Launch} {X : vm_Cx} {G : List vm_Sh} {I : Nat → Nat → Int32} {F : Nat → Nat → UInt32} {o a : Nat} {x y : Int32} (ho : G[o]? = some (5, 3, [.int 0, .int 0, .ref a])) (ha : G[a]? = some (0, 144, [])) : vm_K l X vm_M40 [.ref o, .int x, .int y] (G, I, F) (none) (G, (vm_zc 0 (vm_up (vm_up I o 0 x) o 1 y) a 144), F) := by
  refine vm_K.mk (by decide) (Nat.le_of_ble_eq_true rfl) ?_
  show vm_J _ _ _ (0, (0, 0), [.ref o, .int x, .int y], []) _ _ _
  refine vm_J.go vm_q40 (k := 8) (hs := [(5, 3, [.int 0, .int 0, .ref a]), (5, 3, [.int 0, .int 0, .ref a]), (5, 3, [.int 0, .int 0, .ref a])]) (f' := (14, (0, 0), [.ref o, .int x, .int y], [.ref a])) (h' := (G, (vm_up (vm_up I o 0 x) o 1 y), F)) (hs' := []) rfl (vm_b2 rfl (vm_b2 rfl (vm_b2 (vm_b2 (vm_b2 (vm_hG ho) rfl) rfl) (vm_b2 rfl (vm_b2 rfl (vm_b2 (vm_b2 (vm_b2 (vm_hG ho) rfl) rfl) (vm_b2 rfl (vm_b2 (vm_b2 (vm_hG ho) rfl) rfl)))))))) ?_
  refine vm_J.call vm_q40 (Z := vm_M157) (n := 1) (k := 1) (mi := 157) (pc := 14) (en := (14, .invokestatic 34, 3, [157, 427, 1], .null)) rfl trivial rfl rfl vm_z157 (av := [.ref a]) (rest := []) (m_zeroInts ha (by omega)) rfl (Nat.le_of_ble_eq_true rfl) ⟨Nat.le_of_ble_eq_true rfl, Nat.le_of_ble_eq_true rfl⟩ ⟨Nat.le_of_ble_eq_true rfl, Nat.le_of_ble_eq_true rfl⟩ ?_
  show vm_J _ _ _ (17, (0, 0), [.ref o, .int x, .int y], []) (G, (vm_zc 0 (vm_up (vm_up I o 0 x) o 1 y) a 144), F) _ _
  exact vm_J.end vm_q40 (en := (17, .return_, 1, [], .null)) rfl rfl vm_rV (Nat.zero_le _) (Nat.zero_le _) rfl
set_option maxHeartbeats 4000000 in
set_option maxRecDepth 20000 in
/-- DitherDesk$Picture.pixelsOf  -/
theorem m_Pic_pixelsOf {l : Launch} {X : vm_Cx} {G : List vm_Sh} {I : Nat → Nat → Int32} {F : Nat → Nat → UInt32} {o a w h : Nat} {c : Int32} (ho : G[o]? = some (5, 3, [.int 0, .int 0, .ref a])) (ha : G[a]? = some (0, 144, [])) (hw : I o 0 = nI w) (hh : I o 1 = nI h) (hw2 : w ≤ 12) (hh2 : h ≤ 12) : vm_K l X vm_M43 [.ref o, .int c] (G, I, F) (some (.int (sp_sum (fun k => if I a k = c then 1 else 0) (w * h)))) (G, I, F) := by
  refine vm_K.mk (by decide) (Nat.le_of_ble_eq_true rfl) ?_
  have hwh := vm_mul144 hw2 hh2
  show vm_J _ _ _ (0, (0, 0), [.ref o, .int c, .retAddr 0, .retAddr 0], []) _ _ _
  refine vm_J.go vm_q43 (k := 4) (hs := []) (f' := (4, (0, 0), [.ref o, .int c, .int 0, .int 0], [])) (h' := (G, I, F)) (hs' := []) rfl rfl ?_
  refine vm_J.cnt (w * h) (fun j => (4, (0, 0), [.ref o, .int c, .int (sp_sum (fun k => if I a k = c then 1 else 0) j), .int (nI j)], [])) (fun j => (G, I, F)) (fun _ => True) rfl rfl trivial (fun j hj pj ij => ?_) (fun pj => ?_)
  · show vm_J _ _ _ (4, (0, 0), [.ref o, .int c, .int (sp_sum (fun k => if I a k = c then 1 else 0) j), .int (nI j)], []) (G, I, F) _ _
    refine vm_J.go vm_q43 (k := 2) (hs := []) (f' := (6, (0, 0), [.ref o, .int c, .int (sp_sum (fun k => if I a k = c then 1 else 0) j), .int (nI j)], [.ref o, .int (nI j)])) (h' := (G, I, F)) (hs' := []) rfl rfl ?_
    refine vm_J.call vm_q43 (Z := vm_M36) (n := 0) (k := 0) (mi := 36) (pc := 6) (en := (6, .invokevirtual 38, 3, [36, 475, 0], .null)) rfl trivial rfl rfl vm_z36 (av := [.ref o]) (rest := [.int (nI j)]) (m_Pic_pixels_n ho hw hh) ⟨_, _, rfl, rfl, _, 3, _, ho, rfl, rfl, rfl⟩ (Nat.le_of_ble_eq_true rfl) ⟨Nat.le_of_ble_eq_true rfl, Nat.le_of_ble_eq_true rfl⟩ ⟨Nat.le_of_ble_eq_true rfl, Nat.le_of_ble_eq_true rfl⟩ ?_
    show vm_J _ _ _ (9, (0, 0), [.ref o, .int c, .int (sp_sum (fun k => if I a k = c then 1 else 0) j), .int (nI j)], [.int (nI (w * h)), .int (nI j)]) (G, I, F) _ _
    refine vm_J.go vm_q43 (k := 1) (hs := []) (f' := (bif vm_ic .ge (nI j) (nI (w * h)) then 33 else 12, (0, 0), [.ref o, .int c, .int (sp_sum (fun k => if I a k = c then 1 else 0) j), .int (nI j)], [])) (h' := (G, I, F)) (hs' := []) rfl rfl ?_
    refine vm_J.br (fun c1 => ?_) (fun c1 => ?_)
    · have c1 := vm_ge_t (a := j) (b := w * h) (by omega) (by omega) c1
      exact (show False by omega).elim
    · have c1 := vm_ge_f (a := j) (b := w * h) (by omega) (by omega) c1
      refine vm_J.go vm_q43 (k := 3) (hs := [(5, 3, [.int 0, .int 0, .ref a])]) (f' := (17, (0, 0), [.ref o, .int c, .int (sp_sum (fun k => if I a k = c then 1 else 0) j), .int (nI j)], [.int (nI j), .ref a])) (h' := (G, I, F)) (hs' := []) rfl (vm_b2 rfl (vm_b2 (vm_b2 (vm_hG ho) rfl) (vm_b2 rfl rfl))) ?_
      refine vm_J.call vm_q43 (Z := vm_M152) (n := 2) (k := 1) (mi := 152) (pc := 17) (en := (17, .invokestatic 30, 3, [152, 460, 1], .null)) rfl trivial rfl rfl vm_z152 (av := [.ref a, .int (nI j)]) (rest := []) (m_at_n (j := j) ha (by omega) (by omega)) rfl (Nat.le_of_ble_eq_true rfl) ⟨Nat.le_of_ble_eq_true rfl, Nat.le_of_ble_eq_true rfl⟩ ⟨Nat.le_of_ble_eq_true rfl, Nat.le_of_ble_eq_true rfl⟩ ?_
      show vm_J _ _ _ (20, (0, 0), [.ref o, .int c, .int (sp_sum (fun k => if I a k = c then 1 else 0) j), .int (nI j)], [.int (I a j)]) (G, I, F) _ _
      refine vm_J.go vm_q43 (k := 2) (hs := []) (f' := (bif vm_ic .ne (I a j) c then 27 else 24, (0, 0), [.ref o, .int c, .int (sp_sum (fun k => if I a k = c then 1 else 0) j), .int (nI j)], [])) (h' := (G, I, F)) (hs' := []) rfl rfl ?_
      refine vm_J.br (fun c2 => ?_) (fun c2 => ?_)
      · have c2 : ¬ (I a j) = c := of_decide_eq_true c2
        refine vm_J.go vm_q43 (k := 2) (hs := []) (f' := (4, (0, 0), [.ref o, .int c, .int (sp_sum (fun k => if I a k = c then 1 else 0) j), .int ((nI j) + 1)], [])) (h' := (G, I, F)) (hs' := []) rfl rfl ?_
        rw [((vm_pa (rfl : nI j = nI j) (rfl : (1 : Int32) = nI 1)) : (nI j) + 1 = nI (j + 1))]
        rw [show (sp_sum (fun k => if I a k = c then 1 else 0) j : Int32) = sp_sum (fun k => if I a k = c then 1 else 0) (j + 1) from by simp [sp_sum, c1, c2]]
        exact ij trivial
      · have c2 : ¬ (¬ (I a j) = c) := of_decide_eq_false c2
        refine vm_J.go vm_q43 (k := 3) (hs := []) (f' := (4, (0, 0), [.ref o, .int c, .int ((sp_sum (fun k => if I a k = c then 1 else 0) j) + 1), .int ((nI j) + 1)], [])) (h' := (G, I, F)) (hs' := []) rfl rfl ?_
        rw [((vm_pa (rfl : nI j = nI j) (rfl : (1 : Int32) = nI 1)) : (nI j) + 1 = nI (j + 1))]
        rw [show ((sp_sum (fun k => if I a k = c then 1 else 0) j) + 1 : Int32) = sp_sum (fun k => if I a k = c then 1 else 0) (j + 1) from by simp [sp_sum, c1, c2]]
        exact ij trivial
  · show vm_J _ _ _ (4, (0, 0), [.ref o, .int c, .int (sp_sum (fun k => if I a k = c then 1 else 0) (w * h)), .int (nI (w * h))], []) (G, I, F) _ _
    refine vm_J.go vm_q43 (k := 2) (hs := []) (f' := (6, (0, 0), [.ref o, .int c, .int (sp_sum (fun k => if I a k = c then 1 else 0) (w * h)), .int (nI (w * h))], [.ref o, .int (nI (w * h))])) (h' := (G, I, F)) (hs' := []) rfl rfl ?_
    refine vm_J.call vm_q43 (Z := vm_M36) (n := 0) (k := 0) (mi := 36) (pc := 6) (en := (6, .invokevirtual 38, 3, [36, 475, 0], .null)) rfl trivial rfl rfl vm_z36 (av := [.ref o]) (rest := [.int (nI (w * h))]) (m_Pic_pixels_n ho hw hh) ⟨_, _, rfl, rfl, _, 3, _, ho, rfl, rfl, rfl⟩ (Nat.le_of_ble_eq_true rfl) ⟨Nat.le_of_ble_eq_true rfl, Nat.le_of_ble_eq_true rfl⟩ ⟨Nat.le_of_ble_eq_true rfl, Nat.le_of_ble_eq_true rfl⟩ ?_
    show vm_J _ _ _ (9, (0, 0), [.ref o, .int c, .int (sp_sum (fun k => if I a k = c then 1 else 0) (w * h)), .int (nI (w * h))], [.int (nI (w * h)), .int (nI (w * h))]) (G, I, F) _ _
    refine vm_J.go vm_q43 (k := 1) (hs := []) (f' := (bif vm_ic .ge (nI (w * h)) (nI (w * h)) then 33 else 12, (0, 0), [.ref o, .int c, .int (sp_sum (fun k => if I a k = c then 1 else 0) (w * h)), .int (nI (w * h))], [])) (h' := (G, I, F)) (hs' := []) rfl rfl ?_
    refine vm_J.br (fun c3 => ?_) (fun c3 => ?_)
    · have c3 := vm_ge_t (a := (w * h)) (b := w * h) (by omega) (by omega) c3
      refine vm_J.go vm_q43 (k := 1) (hs := []) (f' := (34, (0, 0), [.ref o, .int c, .int (sp_sum (fun k => if I a k = c then 1 else 0) (w * h)), .int (nI (w * h))], [.int (sp_sum (fun k => if I a k = c then 1 else 0) (w * h))])) (h' := (G, I, F)) (hs' := []) rfl rfl ?_
      exact vm_J.end vm_q43 (en := (34, .ireturn, 1, [], .null)) rfl rfl vm_rI (Nat.zero_le _) (Nat.zero_le _) rfl
    · have c3 := vm_ge_f (a := (w * h)) (b := w * h) (by omega) (by omega) c3
      exact (show False by omega).elim
set_option maxHeartbeats 4000000 in
set_option maxRecDepth 20000 in
/-- DitherDesk$Picture.sumOn  -/
theorem m_Pic_sumOn {l : Launch} {X : vm_Cx} {G : List vm_Sh} {I : Nat → Nat → Int32} {F : Nat → Nat → UInt32} {o a w h : Nat} {c : Int32} (ho : G[o]? = some (5, 3, [.int 0, .int 0, .ref a])) (ha : G[a]? = some (0, 144, [])) (hw : I o 0 = nI w) (hh : I o 1 = nI h) (hw2 : w ≤ 12) (hh2 : h ≤ 12) : vm_K l X vm_M44 [.ref o, .int c] (G, I, F) (some (.int (sp_sum (fun k => sp_ch (I a k) c) (w * h)))) (G, I, F) := by
  refine vm_K.mk (by decide) (Nat.le_of_ble_eq_true rfl) ?_
  have hwh := vm_mul144 hw2 hh2
  show vm_J _ _ _ (0, (0, 0), [.ref o, .int c, .retAddr 0, .retAddr 0], []) _ _ _
  refine vm_J.go vm_q44 (k := 4) (hs := []) (f' := (4, (0, 0), [.ref o, .int c, .int 0, .int 0], [])) (h' := (G, I, F)) (hs' := []) rfl rfl ?_
  refine vm_J.cnt (w * h) (fun j => (4, (0, 0), [.ref o, .int c, .int (sp_sum (fun k => sp_ch (I a k) c) j), .int (nI j)], [])) (fun j => (G, I, F)) (fun _ => True) rfl rfl trivial (fun j hj pj ij => ?_) (fun pj => ?_)
  · show vm_J _ _ _ (4, (0, 0), [.ref o, .int c, .int (sp_sum (fun k => sp_ch (I a k) c) j), .int (nI j)], []) (G, I, F) _ _
    refine vm_J.go vm_q44 (k := 2) (hs := []) (f' := (6, (0, 0), [.ref o, .int c, .int (sp_sum (fun k => sp_ch (I a k) c) j), .int (nI j)], [.ref o, .int (nI j)])) (h' := (G, I, F)) (hs' := []) rfl rfl ?_
    refine vm_J.call vm_q44 (Z := vm_M36) (n := 0) (k := 0) (mi := 36) (pc := 6) (en := (6, .invokevirtual 38, 3, [36, 475, 0], .null)) rfl trivial rfl rfl vm_z36 (av := [.ref o]) (rest := [.int (nI j)]) (m_Pic_pixels_n ho hw hh) ⟨_, _, rfl, rfl, _, 3, _, ho, rfl, rfl, rfl⟩ (Nat.le_of_ble_eq_true rfl) ⟨Nat.le_of_ble_eq_true rfl, Nat.le_of_ble_eq_true rfl⟩ ⟨Nat.le_of_ble_eq_true rfl, Nat.le_of_ble_eq_true rfl⟩ ?_
    show vm_J _ _ _ (9, (0, 0), [.ref o, .int c, .int (sp_sum (fun k => sp_ch (I a k) c) j), .int (nI j)], [.int (nI (w * h)), .int (nI j)]) (G, I, F) _ _
    refine vm_J.go vm_q44 (k := 1) (hs := []) (f' := (bif vm_ic .ge (nI j) (nI (w * h)) then 33 else 12, (0, 0), [.ref o, .int c, .int (sp_sum (fun k => sp_ch (I a k) c) j), .int (nI j)], [])) (h' := (G, I, F)) (hs' := []) rfl rfl ?_
    refine vm_J.br (fun c1 => ?_) (fun c1 => ?_)
    · have c1 := vm_ge_t (a := j) (b := w * h) (by omega) (by omega) c1
      exact (show False by omega).elim
    · have c1 := vm_ge_f (a := j) (b := w * h) (by omega) (by omega) c1
      refine vm_J.go vm_q44 (k := 4) (hs := [(5, 3, [.int 0, .int 0, .ref a])]) (f' := (18, (0, 0), [.ref o, .int c, .int (sp_sum (fun k => sp_ch (I a k) c) j), .int (nI j)], [.int (nI j), .ref a, .int (sp_sum (fun k => sp_ch (I a k) c) j)])) (h' := (G, I, F)) (hs' := []) rfl (vm_b2 rfl (vm_b2 rfl (vm_b2 (vm_b2 (vm_hG ho) rfl) (vm_b2 rfl rfl)))) ?_
      refine vm_J.call vm_q44 (Z := vm_M152) (n := 2) (k := 1) (mi := 152) (pc := 18) (en := (18, .invokestatic 30, 3, [152, 460, 1], .null)) rfl trivial rfl rfl vm_z152 (av := [.ref a, .int (nI j)]) (rest := [.int (sp_sum (fun k => sp_ch (I a k) c) j)]) (m_at_n (j := j) ha (by omega) (by omega)) rfl (Nat.le_of_ble_eq_true rfl) ⟨Nat.le_of_ble_eq_true rfl, Nat.le_of_ble_eq_true rfl⟩ ⟨Nat.le_of_ble_eq_true rfl, Nat.le_of_ble_eq_true rfl⟩ ?_
      show vm_J _ _ _ (21, (0, 0), [.ref o, .int c, .int (sp_sum (fun k => sp_ch (I a k) c) j), .int (nI j)], [.int (I a j), .int (sp_sum (fun k => sp_ch (I a k) c) j)]) (G, I, F) _ _
      refine vm_J.go vm_q44 (k := 1) (hs := []) (f' := (22, (0, 0), [.ref o, .int c, .int (sp_sum (fun k => sp_ch (I a k) c) j), .int (nI j)], [.int c, .int (I a j), .int (sp_sum (fun k => sp_ch (I a k) c) j)])) (h' := (G, I, F)) (hs' := []) rfl rfl ?_
      refine vm_J.call vm_q44 (Z := vm_M164) (n := 2) (k := 1) (mi := 164) (pc := 22) (en := (22, .invokestatic 51, 3, [164, 541, 1], .null)) rfl trivial rfl rfl vm_z164 (av := [.int (I a j), .int c]) (rest := [.int (sp_sum (fun k => sp_ch (I a k) c) j)]) (m_channelOf (c := I a j) (k := c)) rfl (Nat.le_of_ble_eq_true rfl) ⟨Nat.le_of_ble_eq_true rfl, Nat.le_of_ble_eq_true rfl⟩ ⟨Nat.le_of_ble_eq_true rfl, Nat.le_of_ble_eq_true rfl⟩ ?_
      show vm_J _ _ _ (25, (0, 0), [.ref o, .int c, .int (sp_sum (fun k => sp_ch (I a k) c) j), .int (nI j)], [.int (sp_ch (I a j) c), .int (sp_sum (fun k => sp_ch (I a k) c) j)]) (G, I, F) _ _
      refine vm_J.go vm_q44 (k := 4) (hs := []) (f' := (4, (0, 0), [.ref o, .int c, .int ((sp_sum (fun k => sp_ch (I a k) c) j) + (sp_ch (I a j) c)), .int ((nI j) + 1)], [])) (h' := (G, I, F)) (hs' := []) rfl rfl ?_
      rw [((vm_pa (rfl : nI j = nI j) (rfl : (1 : Int32) = nI 1)) : (nI j) + 1 = nI (j + 1))]
      rw [show ((sp_sum (fun k => sp_ch (I a k) c) j) + (sp_ch (I a j) c) : Int32) = sp_sum (fun k => sp_ch (I a k) c) (j + 1) from by rfl]
      exact ij trivial
  · show vm_J _ _ _ (4, (0, 0), [.ref o, .int c, .int (sp_sum (fun k => sp_ch (I a k) c) (w * h)), .int (nI (w * h))], []) (G, I, F) _ _
    refine vm_J.go vm_q44 (k := 2) (hs := []) (f' := (6, (0, 0), [.ref o, .int c, .int (sp_sum (fun k => sp_ch (I a k) c) (w * h)), .int (nI (w * h))], [.ref o, .int (nI (w * h))])) (h' := (G, I, F)) (hs' := []) rfl rfl ?_
    refine vm_J.call vm_q44 (Z := vm_M36) (n := 0) (k := 0) (mi := 36) (pc := 6) (en := (6, .invokevirtual 38, 3, [36, 475, 0], .null)) rfl trivial rfl rfl vm_z36 (av := [.ref o]) (rest := [.int (nI (w * h))]) (m_Pic_pixels_n ho hw hh) ⟨_, _, rfl, rfl, _, 3, _, ho, rfl, rfl, rfl⟩ (Nat.le_of_ble_eq_true rfl) ⟨Nat.le_of_ble_eq_true rfl, Nat.le_of_ble_eq_true rfl⟩ ⟨Nat.le_of_ble_eq_true rfl, Nat.le_of_ble_eq_true rfl⟩ ?_
    show vm_J _ _ _ (9, (0, 0), [.ref o, .int c, .int (sp_sum (fun k => sp_ch (I a k) c) (w * h)), .int (nI (w * h))], [.int (nI (w * h)), .int (nI (w * h))]) (G, I, F) _ _
    refine vm_J.go vm_q44 (k := 1) (hs := []) (f' := (bif vm_ic .ge (nI (w * h)) (nI (w * h)) then 33 else 12, (0, 0), [.ref o, .int c, .int (sp_sum (fun k => sp_ch (I a k) c) (w * h)), .int (nI (w * h))], [])) (h' := (G, I, F)) (hs' := []) rfl rfl ?_
    refine vm_J.br (fun c2 => ?_) (fun c2 => ?_)
    · have c2 := vm_ge_t (a := (w * h)) (b := w * h) (by omega) (by omega) c2
      refine vm_J.go vm_q44 (k := 1) (hs := []) (f' := (34, (0, 0), [.ref o, .int c, .int (sp_sum (fun k => sp_ch (I a k) c) (w * h)), .int (nI (w * h))], [.int (sp_sum (fun k => sp_ch (I a k) c) (w * h))])) (h' := (G, I, F)) (hs' := []) rfl rfl ?_
      exact vm_J.end vm_q44 (en := (34, .ireturn, 1, [], .null)) rfl rfl vm_rI (Nat.zero_le _) (Nat.zero_le _) rfl
    · have c2 := vm_ge_f (a := (w * h)) (b := w * h) (by omega) (by omega) c2
      exact (show False by omega).elim
