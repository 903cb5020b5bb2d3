theorem vm_lt_nle {a b : Int32} (h : a < b) : ¬ b ≤ a := by
  rw [Int32.lt_iff_toInt_lt] at h
  rw [Int32.le_iff_toInt_le]
  omega
theorem vm_nle_g {a b : Int32} (h : ¬ a ≤ b) : b < a := by
  rw [Int32.le_iff_toInt_le] at h
  rw [Int32.lt_iff_toInt_lt]
  omega
theorem vm_le_ng {a b : Int32} (h : a ≤ b) : ¬ b < a := by
  rw [Int32.le_iff_toInt_le] at h
  rw [Int32.lt_iff_toInt_lt]
  omega
set_option maxHeartbeats 4000000 in
set_option maxRecDepth 20000 in
/-- DitherDesk$Table.isFull  -/
theorem m_Tab_isFull {l : Launch} {X : vm_Cx} {G : List vm_Sh} {I : Nat → Nat → Int32} {F : Nat → Nat → UInt32} {o a : Nat} (ho : G[o]? = some (9, 3, [.int 0, .ref a, .int 0])) : vm_K l X vm_M82 [.ref o] (G, I, F) (some (.int (vm_bi (I o 0 ≤ I o 2)))) (G, I, F) := by
  refine vm_K.mk (by decide) (Nat.le_of_ble_eq_true rfl) ?_
  show vm_J _ _ _ (0, (0, 0), [.ref o], []) _ _ _
  refine vm_J.go vm_q82 (k := 5) (hs := [(9, 3, [.int 0, .ref a, .int 0]), (9, 3, [.int 0, .ref a, .int 0])]) (f' := (bif vm_ic .lt (I o 2) (I o 0) then 15 else 11, (0, 0), [.ref o], [])) (h' := (G, I, F)) (hs' := []) rfl (vm_b2 rfl (vm_b2 (vm_b2 (vm_hG ho) rfl) (vm_b2 rfl (vm_b2 (vm_b2 (vm_hG ho) rfl) (vm_b2 rfl rfl))))) ?_
  refine vm_J.br (fun c1 => ?_) (fun c1 => ?_)
  · have c1 : (I o 2) < (I o 0) := of_decide_eq_true c1
    refine vm_J.go vm_q82 (k := 1) (hs := []) (f' := (16, (0, 0), [.ref o], [.int 0])) (h' := (G, I, F)) (hs' := []) rfl rfl ?_
    exact vm_J.end vm_q82 (en := (16, .ireturn, 1, [], .null)) rfl (by first | rw [vm_bi_f (vm_lt_nle c1)]; rfl | rw [vm_bi_t (vm_nlt_le c1)]; rfl) (vm_rZ vm_bi_01) (Nat.zero_le _) (Nat.zero_le _) rfl
  · have c1 : ¬ ((I o 2) < (I o 0)) := of_decide_eq_false c1
    refine vm_J.go vm_q82 (k := 2) (hs := []) (f' := (16, (0, 0), [.ref o], [.int 1])) (h' := (G, I, F)) (hs' := []) rfl rfl ?_
    exact vm_J.end vm_q82 (en := (16, .ireturn, 1, [], .null)) rfl (by first | rw [vm_bi_f (vm_lt_nle c1)]; rfl | rw [vm_bi_t (vm_nlt_le c1)]; rfl) (vm_rZ vm_bi_01) (Nat.zero_le _) (Nat.zero_le _) rfl
set_option maxHeartbeats 4000000 in
set_option maxRecDepth 20000 in
/-- DitherDesk$Table.clear  -/
theorem m_Tab_clear {l : Launch} {X : vm_Cx} {G : List vm_Sh} {I : Nat → Nat → Int32} {F : Nat → Nat → UInt32} {o a : Nat} (ho : G[o]? = some (9, 3, [.int 0, .ref a, .int 0])) : vm_K l X vm_M83 [.ref o] (G, I, F) (none) (G, (vm_up I o 2 0), F) := by
  refine vm_K.mk (by decide) (Nat.le_of_ble_eq_true rfl) ?_
  show vm_J _ _ _ (0, (0, 0), [.ref o], []) _ _ _
  refine vm_J.go vm_q83 (k := 3) (hs := [(9, 3, [.int 0, .ref a, .int 0])]) (f' := (5, (0, 0), [.ref o], [])) (h' := (G, (vm_up I o 2 0), F)) (hs' := []) rfl (vm_b2 rfl (vm_b2 rfl (vm_b2 (vm_b2 (vm_b2 (vm_hG ho) rfl) rfl) rfl))) ?_
  exact vm_J.end vm_q83 (en := (5, .return_, 1, [], .null)) rfl rfl vm_rV (Nat.zero_le _) (Nat.zero_le _) rfl
set_option maxHeartbeats 4000000 in
set_option maxRecDepth 20000 in
/-- DitherDesk$Table.append  -/
theorem m_Tab_append {l : Launch} {X : vm_Cx} {G : List vm_Sh} {I : Nat → Nat → Int32} {F : Nat → Nat → UInt32} {o a n : Nat} {x y z : Int32} (ho : G[o]? = some (9, 3, [.int 0, .ref a, .int 0])) (ha : G[a]? = some (0, 24, [])) (hn : I o 2 = nI n) (hn2 : n < 8) (hoa : o ≠ a) : vm_K l X vm_M84 [.ref o, .int x, .int y, .int z] (G, I, F) (some (.int (nI (n + 1)))) (G, (vm_up (vm_up (vm_up (vm_up I a (3 * n) x) a (3 * n + 1) y) a (3 * n + 2) z) o 2 (nI (n + 1))), F) := by
  refine vm_K.mk (by decide) (Nat.le_of_ble_eq_true rfl) ?_
  show vm_J _ _ _ (0, (0, 0), [.ref o, .int x, .int y, .int z], []) _ _ _
  refine vm_J.go vm_q84 (k := 7) (hs := [(9, 3, [.int 0, .ref a, .int 0]), (9, 3, [.int 0, .ref a, .int 0])]) (f' := (11, (0, 0), [.ref o, .int x, .int y, .int z], [.int x, .int (3 * (I o 2)), .ref a])) (h' := (G, I, F)) (hs' := []) rfl (vm_b2 rfl (vm_b2 (vm_b2 (vm_hG ho) rfl) (vm_b2 rfl (vm_b2 rfl (vm_b2 (vm_b2 (vm_hG ho) rfl) (vm_b2 rfl (vm_b2 rfl rfl))))))) ?_
  rw [((vm_pm (rfl : (3 : Int32) = nI 3) hn) : 3 * (I o 2) = nI (3 * n))]
  refine vm_J.call vm_q84 (Z := vm_M153) (n := 3) (k := 1) (mi := 153) (pc := 11) (en := (11, .invokestatic 22, 3, [153, 965, 1], .null)) rfl trivial rfl rfl vm_z153 (av := [.ref a, .int (nI (3 * n)), .int x]) (rest := []) (m_put_n (j := 3 * n) (v := x) ha (by omega) (by omega)) rfl (Nat.le_of_ble_eq_true rfl) ⟨Nat.le_of_ble_eq_true rfl, Nat.le_of_ble_eq_true rfl⟩ ⟨Nat.le_of_ble_eq_true rfl, Nat.le_of_ble_eq_true rfl⟩ ?_
  show vm_J _ _ _ (14, (0, 0), [.ref o, .int x, .int y, .int z], []) (G, (vm_up I a (3 * n) x), F) _ _
  refine vm_J.go vm_q84 (k := 9) (hs := [(9, 3, [.int 0, .ref a, .int 0]), (9, 3, [.int 0, .ref a, .int 0])]) (f' := (27, (0, 0), [.ref o, .int x, .int y, .int z], [.int y, .int ((3 * ((vm_up I a (3 * n) x) o 2)) + 1), .ref a])) (h' := (G, (vm_up I a (3 * n) x), F)) (hs' := []) rfl (vm_b2 rfl (vm_b2 (vm_b2 (vm_hG ho) rfl) (vm_b2 rfl (vm_b2 rfl (vm_b2 (vm_b2 (vm_hG ho) rfl) (vm_b2 rfl (vm_b2 rfl (vm_b2 rfl (vm_b2 rfl rfl))))))))) ?_
  rw [((vm_pa (vm_pm (rfl : (3 : Int32) = nI 3) ((vm_up_o2 I a (3 * n) x o 2 hoa).trans hn)) (rfl : (1 : Int32) = nI 1)) : (3 * ((vm_up I a (3 * n) x) o 2)) + 1 = nI ((3 * n) + 1))]
  refine vm_J.call vm_q84 (Z := vm_M153) (n := 3) (k := 1) (mi := 153) (pc := 27) (en := (27, .invokestatic 22, 3, [153, 965, 1], .null)) rfl trivial rfl rfl vm_z153 (av := [.ref a, .int (nI ((3 * n) + 1)), .int y]) (rest := []) (m_put_n (j := (3 * n) + 1) (v := y) ha (by omega) (by omega)) rfl (Nat.le_of_ble_eq_true rfl) ⟨Nat.le_of_ble_eq_true rfl, Nat.le_of_ble_eq_true rfl⟩ ⟨Nat.le_of_ble_eq_true rfl, Nat.le_of_ble_eq_true rfl⟩ ?_
  show vm_J _ _ _ (30, (0, 0), [.ref o, .int x, .int y, .int z], []) (G, (vm_up (vm_up I a (3 * n) x) a ((3 * n) + 1) y), F) _ _
  refine vm_J.go vm_q84 (k := 9) (hs := [(9, 3, [.int 0, .ref a, .int 0]), (9, 3, [.int 0, .ref a, .int 0])]) (f' := (43, (0, 0), [.ref o, .int x, .int y, .int z], [.int z, .int ((3 * ((vm_up (vm_up I a (3 * n) x) a ((3 * n) + 1) y) o 2)) + 2), .ref a])) (h' := (G, (vm_up (vm_up I a (3 * n) x) a ((3 * n) + 1) y), F)) (hs' := []) rfl (vm_b2 rfl (vm_b2 (vm_b2 (vm_hG ho) rfl) (vm_b2 rfl (vm_b2 rfl (vm_b2 (vm_b2 (vm_hG ho) rfl) (vm_b2 rfl (vm_b2 rfl (vm_b2 rfl (vm_b2 rfl rfl))))))))) ?_
  rw [((vm_pa (vm_pm (rfl : (3 : Int32) = nI 3) ((vm_up_o2 (vm_up I a (3 * n) x) a ((3 * n) + 1) y o 2 hoa).trans ((vm_up_o2 I a (3 * n) x o 2 hoa).trans hn))) (rfl : (2 : Int32) = nI 2)) : (3 * ((vm_up (vm_up I a (3 * n) x) a ((3 * n) + 1) y) o 2)) + 2 = nI ((3 * n) + 2))]
  refine vm_J.call vm_q84 (Z := vm_M153) (n := 3) (k := 1) (mi := 153) (pc := 43) (en := (43, .invokestatic 22, 3, [153, 965, 1], .null)) rfl trivial rfl rfl vm_z153 (av := [.ref a, .int (nI ((3 * n) + 2)), .int z]) (rest := []) (m_put_n (j := (3 * n) + 2) (v := z) ha (by omega) (by omega)) rfl (Nat.le_of_ble_eq_true rfl) ⟨Nat.le_of_ble_eq_true rfl, Nat.le_of_ble_eq_true rfl⟩ ⟨Nat.le_of_ble_eq_true rfl, Nat.le_of_ble_eq_true rfl⟩ ?_
  show vm_J _ _ _ (46, (0, 0), [.ref o, .int x, .int y, .int z], []) (G, (vm_up (vm_up (vm_up I a (3 * n) x) a ((3 * n) + 1) y) a ((3 * n) + 2) z), F) _ _
  refine vm_J.go vm_q84 (k := 5) (hs := [(9, 3, [.int 0, .ref a, .int 0])]) (f' := (53, (0, 0), [.ref o, .int x, .int y, .int z], [.int (((vm_up (vm_up (vm_up I a (3 * n) x) a ((3 * n) + 1) y) a ((3 * n) + 2) z) o 2) + 1), .ref o])) (h' := (G, (vm_up (vm_up (vm_up I a (3 * n) x) a ((3 * n) + 1) y) a ((3 * n) + 2) z), F)) (hs' := []) rfl (vm_b2 rfl (vm_b2 rfl (vm_b2 (vm_b2 (vm_hG ho) rfl) (vm_b2 rfl (vm_b2 rfl rfl))))) ?_
  rw [((vm_pa ((vm_up_o2 (vm_up (vm_up I a (3 * n) x) a ((3 * n) + 1) y) a ((3 * n) + 2) z o 2 hoa).trans ((vm_up_o2 (vm_up I a (3 * n) x) a ((3 * n) + 1) y o 2 hoa).trans ((vm_up_o2 I a (3 * n) x o 2 hoa).trans hn))) (rfl : (1 : Int32) = nI 1)) : ((vm_up (vm_up (vm_up I a (3 * n) x) a ((3 * n) + 1) y) a ((3 * n) + 2) z) o 2) + 1 = nI (n + 1))]
  refine vm_J.go vm_q84 (k := 3) (hs := [(9, 3, [.int 0, .ref a, .int 0]), (9, 3, [.int 0, .ref a, .int 0])]) (f' := (60, (0, 0), [.ref o, .int x, .int y, .int z], [.int ((vm_up (vm_up (vm_up (vm_up I a (3 * n) x) a ((3 * n) + 1) y) a ((3 * n) + 2) z) o 2 (nI (n + 1))) o 2)])) (h' := (G, (vm_up (vm_up (vm_up (vm_up I a (3 * n) x) a ((3 * n) + 1) y) a ((3 * n) + 2) z) o 2 (nI (n + 1))), F)) (hs' := []) rfl (vm_b2 (vm_b2 (vm_b2 (vm_hG ho) rfl) rfl) (vm_b2 rfl (vm_b2 (vm_b2 (vm_hG ho) rfl) rfl))) ?_
  exact vm_J.end vm_q84 (en := (60, .ireturn, 1, [], .null)) rfl (by rw [vm_up_h]; rfl) vm_rI (Nat.zero_le _) (Nat.zero_le _) rfl
set_option maxHeartbeats 4000000 in
set_option maxRecDepth 20000 in
/-- DitherDesk$Table.cell  -/
theorem m_Tab_cell {l : Launch} {X : vm_Cx} {G : List vm_Sh} {I : Nat → Nat → Int32} {F : Nat → Nat → UInt32} {o a i j : Nat} (ho : G[o]? = some (9, 3, [.int 0, .ref a, .int 0])) (ha : G[a]? = some (0, 24, [])) (hi : 3 * i + j < 24) : vm_K l X vm_M85 [.ref o, .int (nI i), .int (nI j)] (G, I, F) (some (.int (I a (3 * i + j)))) (G, I, F) := by
  refine vm_K.mk (by decide) (Nat.le_of_ble_eq_true rfl) ?_
  show vm_J _ _ _ (0, (0, 0), [.ref o, .int (nI i), .int (nI j)], []) _ _ _
  refine vm_J.go vm_q85 (k := 7) (hs := [(9, 3, [.int 0, .ref a, .int 0])]) (f' := (9, (0, 0), [.ref o, .int (nI i), .int (nI j)], [.int ((3 * (nI i)) + (nI j)), .ref a])) (h' := (G, I, F)) (hs' := []) rfl (vm_b2 rfl (vm_b2 (vm_b2 (vm_hG ho) rfl) (vm_b2 rfl (vm_b2 rfl (vm_b2 rfl (vm_b2 rfl (vm_b2 rfl rfl))))))) ?_
  rw [((vm_pa (vm_pm (rfl : (3 : Int32) = nI 3) (rfl : (nI i : Int32) = nI i)) (rfl : (nI j : Int32) = nI j)) : (3 * (nI i)) + (nI j) = nI ((3 * i) + j))]
  refine vm_J.call vm_q85 (Z := vm_M152) (n := 2) (k := 1) (mi := 152) (pc := 9) (en := (9, .invokestatic 26, 3, [152, 980, 1], .null)) rfl trivial rfl rfl vm_z152 (av := [.ref a, .int (nI ((3 * i) + j))]) (rest := []) (m_at_n (j := (3 * i) + j) ha (by omega) (by omega)) rfl (Nat.le_of_ble_eq_true rfl) ⟨Nat.le_of_ble_eq_true rfl, Nat.le_of_ble_eq_true rfl⟩ ⟨Nat.le_of_ble_eq_true rfl, Nat.le_of_ble_eq_true rfl⟩ ?_
  show vm_J _ _ _ (12, (0, 0), [.ref o, .int (nI i), .int (nI j)], [.int (I a ((3 * i) + j))]) (G, I, F) _ _
  exact vm_J.end vm_q85 (en := (12, .ireturn, 1, [], .null)) rfl rfl vm_rI (Nat.zero_le _) (Nat.zero_le _) rfl
/-- what the becoming ones leave -/
def vm_bT (I : Nat → Nat → Int32) (o a o2 a2 : Nat) : Nat → Nat → Int32 := vm_cp (vm_up I o 2 (I o2 2)) a2 a 24
def vm_bA (I : Nat → Nat → Int32) (o a o2 a2 : Nat) : Nat → Nat → Int32 := vm_cp (vm_up (vm_up I o 0 (I o2 0)) o 1 (vm_up I o 0 (I o2 0) o2 1)) a2 a 150
def vm_bP (I : Nat → Nat → Int32) (o a o2 a2 : Nat) : Nat → Nat → Int32 := vm_cp (vm_up (vm_up I o 0 (I o2 0)) o 1 (vm_up I o 0 (I o2 0) o2 1)) a2 a 144
def vm_bL (I : Nat → Nat → Int32) (o a b o2 a2 b2 : Nat) : Nat → Nat → Int32 := vm_cp (vm_cp (vm_up I o 0 (I o2 0)) a2 a 16) b2 b 16
def vm_bS (I : Nat → Nat → Int32) (o a b c o2 a2 b2 c2 : Nat) : Nat → Nat → Int32 := vm_cp (vm_cp (vm_cp (vm_up (vm_up (vm_up I o 0 (I o2 0)) o 1 (vm_up I o 0 (I o2 0) o2 1)) o 2 (vm_up (vm_up I o 0 (I o2 0)) o 1 (vm_up I o 0 (I o2 0) o2 1) o2 2)) a2 a 144) b2 b 144) c2 c 144
set_option maxHeartbeats 4000000 in
set_option maxRecDepth 20000 in
/-- DitherDesk$Picture.become  -/
theorem m_Pic_bec {l : Launch} {X : vm_Cx} {G : List vm_Sh} {I : Nat → Nat → Int32} {F : Nat → Nat → UInt32} {o o2 a a2 : Nat} (ho : G[o]? = some (5, 3, [.int 0, .int 0, .ref a])) (ho2 : G[o2]? = some (5, 3, [.int 0, .int 0, .ref a2])) (ha : G[a]? = some (0, 144, [])) (ha2 : G[a2]? = some (0, 144, [])) (na : a2 ≠ a)  : vm_K l X vm_M45 [.ref o, .ref o2] (G, I, F) (none) (G, (vm_bP I o a o2 a2), F) := by
  refine vm_K.mk (by decide) (Nat.le_of_ble_eq_true rfl) ?_
  show vm_J _ _ _ (0, (0, 0), [.ref o, .ref o2], []) _ _ _
  refine vm_J.go vm_q45 (k := 12) (hs := [(5, 3, [.int 0, .int 0, .ref a2]), (5, 3, [.int 0, .int 0, .ref a]), (5, 3, [.int 0, .int 0, .ref a2]), (5, 3, [.int 0, .int 0, .ref a]), (5, 3, [.int 0, .int 0, .ref a2]), (5, 3, [.int 0, .int 0, .ref a])]) (f' := (24, (0, 0), [.ref o, .ref o2], [.ref a, .ref a2])) (h' := (G, (vm_up (vm_up I o 0 (I o2 0)) o 1 ((vm_up I o 0 (I o2 0)) o2 1)), F)) (hs' := []) rfl (vm_b2 rfl (vm_b2 rfl (vm_b2 (vm_b2 (vm_hG ho2) rfl) (vm_b2 (vm_b2 (vm_b2 (vm_hG ho) rfl) rfl) (vm_b2 rfl (vm_b2 rfl (vm_b2 (vm_b2 (vm_hG ho2) rfl) (vm_b2 (vm_b2 (vm_b2 (vm_hG ho) rfl) rfl) (vm_b2 rfl (vm_b2 (vm_b2 (vm_hG ho2) rfl) (vm_b2 rfl (vm_b2 (vm_b2 (vm_hG ho) rfl) rfl)))))))))))) ?_
  refine vm_J.call vm_q45 (Z := vm_M156) (n := 2) (k := 1) (mi := 156) (pc := 24) (en := (24, .invokestatic 54, 3, [156, 1013, 1], .null)) rfl trivial rfl rfl vm_z156 (av := [.ref a2, .ref a]) (rest := []) (m_copyInts ha2 ha na (by omega)) rfl (Nat.le_of_ble_eq_true rfl) ⟨Nat.le_of_ble_eq_true rfl, Nat.le_of_ble_eq_true rfl⟩ ⟨Nat.le_of_ble_eq_true rfl, Nat.le_of_ble_eq_true rfl⟩ ?_
  show vm_J _ _ _ (27, (0, 0), [.ref o, .ref o2], []) (G, (vm_cp (vm_up (vm_up I o 0 (I o2 0)) o 1 ((vm_up I o 0 (I o2 0)) o2 1)) a2 a 144), F) _ _
  exact vm_J.end vm_q45 (en := (27, .return_, 1, [], .null)) rfl rfl vm_rV (Nat.zero_le _) (Nat.zero_le _) rfl
set_option maxHeartbeats 4000000 in
set_option maxRecDepth 20000 in
/-- DitherDesk$Palette.become  -/
theorem m_Pal_bec {l : Launch} {X : vm_Cx} {G : List vm_Sh} {I : Nat → Nat → Int32} {F : Nat → Nat → UInt32} {o o2 a b a2 b2 : Nat} (ho : G[o]? = some (4, 3, [.int 0, .ref a, .ref b])) (ho2 : G[o2]? = some (4, 3, [.int 0, .ref a2, .ref b2])) (ha : G[a]? = some (0, 16, [])) (ha2 : G[a2]? = some (0, 16, [])) (na : a2 ≠ a) (hb : G[b]? = some (0, 16, [])) (hb2 : G[b2]? = some (0, 16, [])) (nb : b2 ≠ b)  : vm_K l X vm_M34 [.ref o, .ref o2] (G, I, F) (none) (G, (vm_bL I o a b o2 a2 b2), F) := by
  refine vm_K.mk (by decide) (Nat.le_of_ble_eq_true rfl) ?_
  show vm_J _ _ _ (0, (0, 0), [.ref o, .ref o2], []) _ _ _
  refine vm_J.go vm_q34 (k := 8) (hs := [(4, 3, [.int 0, .ref a2, .ref b2]), (4, 3, [.int 0, .ref a, .ref b]), (4, 3, [.int 0, .ref a2, .ref b2]), (4, 3, [.int 0, .ref a, .ref b])]) (f' := (16, (0, 0), [.ref o, .ref o2], [.ref a, .ref a2])) (h' := (G, (vm_up I o 0 (I o2 0)), F)) (hs' := []) rfl (vm_b2 rfl (vm_b2 rfl (vm_b2 (vm_b2 (vm_hG ho2) rfl) (vm_b2 (vm_b2 (vm_b2 (vm_hG ho) rfl) rfl) (vm_b2 rfl (vm_b2 (vm_b2 (vm_hG ho2) rfl) (vm_b2 rfl (vm_b2 (vm_b2 (vm_hG ho) rfl) rfl)))))))) ?_
  refine vm_J.call vm_q34 (Z := vm_M156) (n := 2) (k := 1) (mi := 156) (pc := 16) (en := (16, .invokestatic 70, 3, [156, 1019, 1], .null)) rfl trivial rfl rfl vm_z156 (av := [.ref a2, .ref a]) (rest := []) (m_copyInts ha2 ha na (by omega)) rfl (Nat.le_of_ble_eq_true rfl) ⟨Nat.le_of_ble_eq_true rfl, Nat.le_of_ble_eq_true rfl⟩ ⟨Nat.le_of_ble_eq_true rfl, Nat.le_of_ble_eq_true rfl⟩ ?_
  show vm_J _ _ _ (19, (0, 0), [.ref o, .ref o2], []) (G, (vm_cp (vm_up I o 0 (I o2 0)) a2 a 16), F) _ _
  refine vm_J.go vm_q34 (k := 4) (hs := [(4, 3, [.int 0, .ref a2, .ref b2]), (4, 3, [.int 0, .ref a, .ref b])]) (f' := (27, (0, 0), [.ref o, .ref o2], [.ref b, .ref b2])) (h' := (G, (vm_cp (vm_up I o 0 (I o2 0)) a2 a 16), F)) (hs' := []) rfl (vm_b2 rfl (vm_b2 (vm_b2 (vm_hG ho2) rfl) (vm_b2 rfl (vm_b2 (vm_b2 (vm_hG ho) rfl) rfl)))) ?_
  refine vm_J.call vm_q34 (Z := vm_M156) (n := 2) (k := 1) (mi := 156) (pc := 27) (en := (27, .invokestatic 70, 3, [156, 1019, 1], .null)) rfl trivial rfl rfl vm_z156 (av := [.ref b2, .ref b]) (rest := []) (m_copyInts hb2 hb nb (by omega)) rfl (Nat.le_of_ble_eq_true rfl) ⟨Nat.le_of_ble_eq_true rfl, Nat.le_of_ble_eq_true rfl⟩ ⟨Nat.le_of_ble_eq_true rfl, Nat.le_of_ble_eq_true rfl⟩ ?_
  show vm_J _ _ _ (30, (0, 0), [.ref o, .ref o2], []) (G, (vm_cp (vm_cp (vm_up I o 0 (I o2 0)) a2 a 16) b2 b 16), F) _ _
  exact vm_J.end vm_q34 (en := (30, .return_, 1, [], .null)) rfl rfl vm_rV (Nat.zero_le _) (Nat.zero_le _) rfl
set_option maxHeartbeats 4000000 in
set_option maxRecDepth 20000 in
/-- DitherDesk$Table.become  -/
theorem m_Tab_become {l : Launch} {X : vm_Cx} {G : List vm_Sh} {I : Nat → Nat → Int32} {F : Nat → Nat → UInt32} {o o2 a a2 : Nat} (ho : G[o]? = some (9, 3, [.int 0, .ref a, .int 0])) (ho2 : G[o2]? = some (9, 3, [.int 0, .ref a2, .int 0])) (ha : G[a]? = some (0, 24, [])) (ha2 : G[a2]? = some (0, 24, [])) (na : a2 ≠ a)  : vm_K l X vm_M86 [.ref o, .ref o2] (G, I, F) (none) (G, (vm_bT I o a o2 a2), F) := by
  refine vm_K.mk (by decide) (Nat.le_of_ble_eq_true rfl) ?_
  show vm_J _ _ _ (0, (0, 0), [.ref o, .ref o2], []) _ _ _
  refine vm_J.go vm_q86 (k := 8) (hs := [(9, 3, [.int 0, .ref a2, .int 0]), (9, 3, [.int 0, .ref a, .int 0]), (9, 3, [.int 0, .ref a2, .int 0]), (9, 3, [.int 0, .ref a, .int 0])]) (f' := (16, (0, 0), [.ref o, .ref o2], [.ref a, .ref a2])) (h' := (G, (vm_up I o 2 (I o2 2)), F)) (hs' := []) rfl (vm_b2 rfl (vm_b2 rfl (vm_b2 (vm_b2 (vm_hG ho2) rfl) (vm_b2 (vm_b2 (vm_b2 (vm_hG ho) rfl) rfl) (vm_b2 rfl (vm_b2 (vm_b2 (vm_hG ho2) rfl) (vm_b2 rfl (vm_b2 (vm_b2 (vm_hG ho) rfl) rfl)))))))) ?_
  refine vm_J.call vm_q86 (Z := vm_M156) (n := 2) (k := 1) (mi := 156) (pc := 16) (en := (16, .invokestatic 30, 3, [156, 1031, 1], .null)) rfl trivial rfl rfl vm_z156 (av := [.ref a2, .ref a]) (rest := []) (m_copyInts ha2 ha na (by omega)) rfl (Nat.le_of_ble_eq_true rfl) ⟨Nat.le_of_ble_eq_true rfl, Nat.le_of_ble_eq_true rfl⟩ ⟨Nat.le_of_ble_eq_true rfl, Nat.le_of_ble_eq_true rfl⟩ ?_
  show vm_J _ _ _ (19, (0, 0), [.ref o, .ref o2], []) (G, (vm_cp (vm_up I o 2 (I o2 2)) a2 a 24), F) _ _
  exact vm_J.end vm_q86 (en := (19, .return_, 1, [], .null)) rfl rfl vm_rV (Nat.zero_le _) (Nat.zero_le _) rfl
set_option maxHeartbeats 4000000 in
set_option maxRecDepth 20000 in
/-- DitherDesk$Tape.become  -/
theorem m_Tape_become {l : Launch} {X : vm_Cx} {G : List vm_Sh} {I : Nat → Nat → Int32} {F : Nat → Nat → UInt32} {o o2 a a2 : Nat} (ho : G[o]? = some (10, 3, [.int 0, .int 0, .ref a])) (ho2 : G[o2]? = some (10, 3, [.int 0, .int 0, .ref a2])) (ha : G[a]? = some (0, 150, [])) (ha2 : G[a2]? = some (0, 150, [])) (na : a2 ≠ a)  : vm_K l X vm_M89 [.ref o, .ref o2] (G, I, F) (none) (G, (vm_bA I o a o2 a2), F) := by
  refine vm_K.mk (by decide) (Nat.le_of_ble_eq_true rfl) ?_
  show vm_J _ _ _ (0, (0, 0), [.ref o, .ref o2], []) _ _ _
  refine vm_J.go vm_q89 (k := 12) (hs := [(10, 3, [.int 0, .int 0, .ref a2]), (10, 3, [.int 0, .int 0, .ref a]), (10, 3, [.int 0, .int 0, .ref a2]), (10, 3, [.int 0, .int 0, .ref a]), (10, 3, [.int 0, .int 0, .ref a2]), (10, 3, [.int 0, .int 0, .ref a])]) (f' := (24, (0, 0), [.ref o, .ref o2], [.ref a, .ref a2])) (h' := (G, (vm_up (vm_up I o 0 (I o2 0)) o 1 ((vm_up I o 0 (I o2 0)) o2 1)), F)) (hs' := []) rfl (vm_b2 rfl (vm_b2 rfl (vm_b2 (vm_b2 (vm_hG ho2) rfl) (vm_b2 (vm_b2 (vm_b2 (vm_hG ho) rfl) rfl) (vm_b2 rfl (vm_b2 rfl (vm_b2 (vm_b2 (vm_hG ho2) rfl) (vm_b2 (vm_b2 (vm_b2 (vm_hG ho) rfl) rfl) (vm_b2 rfl (vm_b2 (vm_b2 (vm_hG ho2) rfl) (vm_b2 rfl (vm_b2 (vm_b2 (vm_hG ho) rfl) rfl)))))))))))) ?_
  refine vm_J.call vm_q89 (Z := vm_M156) (n := 2) (k := 1) (mi := 156) (pc := 24) (en := (24, .invokestatic 26, 3, [156, 1103, 1], .null)) rfl trivial rfl rfl vm_z156 (av := [.ref a2, .ref a]) (rest := []) (m_copyInts ha2 ha na (by omega)) rfl (Nat.le_of_ble_eq_true rfl) ⟨Nat.le_of_ble_eq_true rfl, Nat.le_of_ble_eq_true rfl⟩ ⟨Nat.le_of_ble_eq_true rfl, Nat.le_of_ble_eq_true rfl⟩ ?_
  show vm_J _ _ _ (27, (0, 0), [.ref o, .ref o2], []) (G, (vm_cp (vm_up (vm_up I o 0 (I o2 0)) o 1 ((vm_up I o 0 (I o2 0)) o2 1)) a2 a 150), F) _ _
  exact vm_J.end vm_q89 (en := (27, .return_, 1, [], .null)) rfl rfl vm_rV (Nat.zero_le _) (Nat.zero_le _) rfl
set_option maxHeartbeats 4000000 in
set_option maxRecDepth 20000 in
/-- DitherDesk$Sheet.become  -/
theorem m_Sh_become {l : Launch} {X : vm_Cx} {G : List vm_Sh} {I : Nat → Nat → Int32} {F : Nat → Nat → UInt32} {o o2 a b c d e f a2 b2 c2 d2 e2 f2 : Nat} (ho : G[o]? = some (8, 9, [.int 0, .int 0, .int 0, .ref a, .ref b, .ref c, .ref d, .ref e, .ref f])) (ho2 : G[o2]? = some (8, 9, [.int 0, .int 0, .int 0, .ref a2, .ref b2, .ref c2, .ref d2, .ref e2, .ref f2])) (ha : G[a]? = some (0, 144, [])) (ha2 : G[a2]? = some (0, 144, [])) (na : a2 ≠ a) (hb : G[b]? = some (0, 144, [])) (hb2 : G[b2]? = some (0, 144, [])) (nb : b2 ≠ b) (hc : G[c]? = some (0, 144, [])) (hc2 : G[c2]? = some (0, 144, [])) (nc : c2 ≠ c) (hd : G[d]? = some (1, 3, [])) (hd2 : G[d2]? = some (1, 3, [])) (nd : d2 ≠ d)  : vm_K l X vm_M80 [.ref o, .ref o2] (G, I, F) (none) (G, (vm_bS I o a b c o2 a2 b2 c2), (vm_cp F d2 d 3)) := by
  refine vm_K.mk (by decide) (Nat.le_of_ble_eq_true rfl) ?_
  show vm_J _ _ _ (0, (0, 0), [.ref o, .ref o2], []) _ _ _
  refine vm_J.go vm_q80 (k := 16) (hs := [(8, 9, [.int 0, .int 0, .int 0, .ref a2, .ref b2, .ref c2, .ref d2, .ref e2, .ref f2]), (8, 9, [.int 0, .int 0, .int 0, .ref a, .ref b, .ref c, .ref d, .ref e, .ref f]), (8, 9, [.int 0, .int 0, .int 0, .ref a2, .ref b2, .ref c2, .ref d2, .ref e2, .ref f2]), (8, 9, [.int 0, .int 0, .int 0, .ref a, .ref b, .ref c, .ref d, .ref e, .ref f]), (8, 9, [.int 0, .int 0, .int 0, .ref a2, .ref b2, .ref c2, .ref d2, .ref e2, .ref f2]), (8, 9, [.int 0, .int 0, .int 0, .ref a, .ref b, .ref c, .ref d, .ref e, .ref f]), (8, 9, [.int 0, .int 0, .int 0, .ref a2, .ref b2, .ref c2, .ref d2, .ref e2, .ref f2]), (8, 9, [.int 0, .int 0, .int 0, .ref a, .ref b, .ref c, .ref d, .ref e, .ref f])]) (f' := (32, (0, 0), [.ref o, .ref o2], [.ref a, .ref a2])) (h' := (G, (vm_up (vm_up (vm_up I o 0 (I o2 0)) o 1 ((vm_up I o 0 (I o2 0)) o2 1)) o 2 ((vm_up (vm_up I o 0 (I o2 0)) o 1 ((vm_up I o 0 (I o2 0)) o2 1)) o2 2)), F)) (hs' := []) rfl (vm_b2 rfl (vm_b2 rfl (vm_b2 (vm_b2 (vm_hG ho2) rfl) (vm_b2 (vm_b2 (vm_b2 (vm_hG ho) rfl) rfl) (vm_b2 rfl (vm_b2 rfl (vm_b2 (vm_b2 (vm_hG ho2) rfl) (vm_b2 (vm_b2 (vm_b2 (vm_hG ho) rfl) rfl) (vm_b2 rfl (vm_b2 rfl (vm_b2 (vm_b2 (vm_hG ho2) rfl) (vm_b2 (vm_b2 (vm_b2 (vm_hG ho) rfl) rfl) (vm_b2 rfl (vm_b2 (vm_b2 (vm_hG ho2) rfl) (vm_b2 rfl (vm_b2 (vm_b2 (vm_hG ho) rfl) rfl)))))))))))))))) ?_
  refine vm_J.call vm_q80 (Z := vm_M156) (n := 2) (k := 1) (mi := 156) (pc := 32) (en := (32, .invokestatic 62, 3, [156, 821, 1], .null)) rfl trivial rfl rfl vm_z156 (av := [.ref a2, .ref a]) (rest := []) (m_copyInts ha2 ha na (by omega)) rfl (Nat.le_of_ble_eq_true rfl) ⟨Nat.le_of_ble_eq_true rfl, Nat.le_of_ble_eq_true rfl⟩ ⟨Nat.le_of_ble_eq_true rfl, Nat.le_of_ble_eq_true rfl⟩ ?_
  show vm_J _ _ _ (35, (0, 0), [.ref o, .ref o2], []) (G, (vm_cp (vm_up (vm_up (vm_up I o 0 (I o2 0)) o 1 ((vm_up I o 0 (I o2 0)) o2 1)) o 2 ((vm_up (vm_up I o 0 (I o2 0)) o 1 ((vm_up I o 0 (I o2 0)) o2 1)) o2 2)) a2 a 144), F) _ _
  refine vm_J.go vm_q80 (k := 4) (hs := [(8, 9, [.int 0, .int 0, .int 0, .ref a2, .ref b2, .ref c2, .ref d2, .ref e2, .ref f2]), (8, 9, [.int 0, .int 0, .int 0, .ref a, .ref b, .ref c, .ref d, .ref e, .ref f])]) (f' := (43, (0, 0), [.ref o, .ref o2], [.ref b, .ref b2])) (h' := (G, (vm_cp (vm_up (vm_up (vm_up I o 0 (I o2 0)) o 1 ((vm_up I o 0 (I o2 0)) o2 1)) o 2 ((vm_up (vm_up I o 0 (I o2 0)) o 1 ((vm_up I o 0 (I o2 0)) o2 1)) o2 2)) a2 a 144), F)) (hs' := []) rfl (vm_b2 rfl (vm_b2 (vm_b2 (vm_hG ho2) rfl) (vm_b2 rfl (vm_b2 (vm_b2 (vm_hG ho) rfl) rfl)))) ?_
  refine vm_J.call vm_q80 (Z := vm_M156) (n := 2) (k := 1) (mi := 156) (pc := 43) (en := (43, .invokestatic 62, 3, [156, 821, 1], .null)) rfl trivial rfl rfl vm_z156 (av := [.ref b2, .ref b]) (rest := []) (m_copyInts hb2 hb nb (by omega)) rfl (Nat.le_of_ble_eq_true rfl) ⟨Nat.le_of_ble_eq_true rfl, Nat.le_of_ble_eq_true rfl⟩ ⟨Nat.le_of_ble_eq_true rfl, Nat.le_of_ble_eq_true rfl⟩ ?_
  show vm_J _ _ _ (46, (0, 0), [.ref o, .ref o2], []) (G, (vm_cp (vm_cp (vm_up (vm_up (vm_up I o 0 (I o2 0)) o 1 ((vm_up I o 0 (I o2 0)) o2 1)) o 2 ((vm_up (vm_up I o 0 (I o2 0)) o 1 ((vm_up I o 0 (I o2 0)) o2 1)) o2 2)) a2 a 144) b2 b 144), F) _ _
  refine vm_J.go vm_q80 (k := 4) (hs := [(8, 9, [.int 0, .int 0, .int 0, .ref a2, .ref b2, .ref c2, .ref d2, .ref e2, .ref f2]), (8, 9, [.int 0, .int 0, .int 0, .ref a, .ref b, .ref c, .ref d, .ref e, .ref f])]) (f' := (54, (0, 0), [.ref o, .ref o2], [.ref c, .ref c2])) (h' := (G, (vm_cp (vm_cp (vm_up (vm_up (vm_up I o 0 (I o2 0)) o 1 ((vm_up I o 0 (I o2 0)) o2 1)) o 2 ((vm_up (vm_up I o 0 (I o2 0)) o 1 ((vm_up I o 0 (I o2 0)) o2 1)) o2 2)) a2 a 144) b2 b 144), F)) (hs' := []) rfl (vm_b2 rfl (vm_b2 (vm_b2 (vm_hG ho2) rfl) (vm_b2 rfl (vm_b2 (vm_b2 (vm_hG ho) rfl) rfl)))) ?_
  refine vm_J.call vm_q80 (Z := vm_M156) (n := 2) (k := 1) (mi := 156) (pc := 54) (en := (54, .invokestatic 62, 3, [156, 821, 1], .null)) rfl trivial rfl rfl vm_z156 (av := [.ref c2, .ref c]) (rest := []) (m_copyInts hc2 hc nc (by omega)) rfl (Nat.le_of_ble_eq_true rfl) ⟨Nat.le_of_ble_eq_true rfl, Nat.le_of_ble_eq_true rfl⟩ ⟨Nat.le_of_ble_eq_true rfl, Nat.le_of_ble_eq_true rfl⟩ ?_
  show vm_J _ _ _ (57, (0, 0), [.ref o, .ref o2], []) (G, (vm_cp (vm_cp (vm_cp (vm_up (vm_up (vm_up I o 0 (I o2 0)) o 1 ((vm_up I o 0 (I o2 0)) o2 1)) o 2 ((vm_up (vm_up I o 0 (I o2 0)) o 1 ((vm_up I o 0 (I o2 0)) o2 1)) o2 2)) a2 a 144) b2 b 144) c2 c 144), F) _ _
  refine vm_J.go vm_q80 (k := 4) (hs := [(8, 9, [.int 0, .int 0, .int 0, .ref a2, .ref b2, .ref c2, .ref d2, .ref e2, .ref f2]), (8, 9, [.int 0, .int 0, .int 0, .ref a, .ref b, .ref c, .ref d, .ref e, .ref f])]) (f' := (65, (0, 0), [.ref o, .ref o2], [.ref d, .ref d2])) (h' := (G, (vm_cp (vm_cp (vm_cp (vm_up (vm_up (vm_up I o 0 (I o2 0)) o 1 ((vm_up I o 0 (I o2 0)) o2 1)) o 2 ((vm_up (vm_up I o 0 (I o2 0)) o 1 ((vm_up I o 0 (I o2 0)) o2 1)) o2 2)) a2 a 144) b2 b 144) c2 c 144), F)) (hs' := []) rfl (vm_b2 rfl (vm_b2 (vm_b2 (vm_hG ho2) rfl) (vm_b2 rfl (vm_b2 (vm_b2 (vm_hG ho) rfl) rfl)))) ?_
  refine vm_J.call vm_q80 (Z := vm_M158) (n := 2) (k := 1) (mi := 158) (pc := 65) (en := (65, .invokestatic 156, 3, [158, 1024, 1], .null)) rfl trivial rfl rfl vm_z158 (av := [.ref d2, .ref d]) (rest := []) (m_copyFloats hd2 hd nd (by omega)) rfl (Nat.le_of_ble_eq_true rfl) ⟨Nat.le_of_ble_eq_true rfl, Nat.le_of_ble_eq_true rfl⟩ ⟨Nat.le_of_ble_eq_true rfl, Nat.le_of_ble_eq_true rfl⟩ ?_
  show vm_J _ _ _ (68, (0, 0), [.ref o, .ref o2], []) (G, (vm_cp (vm_cp (vm_cp (vm_up (vm_up (vm_up I o 0 (I o2 0)) o 1 ((vm_up I o 0 (I o2 0)) o2 1)) o 2 ((vm_up (vm_up I o 0 (I o2 0)) o 1 ((vm_up I o 0 (I o2 0)) o2 1)) o2 2)) a2 a 144) b2 b 144) c2 c 144), (vm_cp F d2 d 3)) _ _
  exact vm_J.end vm_q80 (en := (68, .return_, 1, [], .null)) rfl rfl vm_rV (Nat.zero_le _) (Nat.zero_le _) rfl
set_option maxHeartbeats 4000000 in
set_option maxRecDepth 20000 in
/-- DitherDesk$Tape.zero  -/
theorem m_Tape_zero {l : Launch} {X : vm_Cx} {G : List vm_Sh} {I : Nat → Nat → Int32} {F : Nat → Nat → UInt32} {o a : Nat} {x y : Int32} (ho : G[o]? = some (10, 3, [.int 0, .int 0, .ref a])) (ha : G[a]? = some (0, 150, [])) : vm_K l X vm_M88 [.ref o, .int x, .int y] (G, I, F) (none) (G, (vm_zc 0 (vm_up (vm_up I o 0 x) o 1 y) a 150), F) := by
  refine vm_K.mk (by decide) (Nat.le_of_ble_eq_true rfl) ?_
  show vm_J _ _ _ (0, (0, 0), [.ref o, .int x, .int y], []) _ _ _
  refine vm_J.go vm_q88 (k := 8) (hs := [(10, 3, [.int 0, .int 0, .ref a]), (10, 3, [.int 0, .int 0, .ref a]), (10, 3, [.int 0, .int 0, .ref a])]) (f' := (14, (0, 0), [.ref o, .int x, .int y], [.ref a])) (h' := (G, (vm_up (vm_up I o 0 x) o 1 y), F)) (hs' := []) rfl (vm_b2 rfl (vm_b2 rfl (vm_b2 (vm_b2 (vm_b2 (vm_hG ho) rfl) rfl) (vm_b2 rfl (vm_b2 rfl (vm_b2 (vm_b2 (vm_b2 (vm_hG ho) rfl) rfl) (vm_b2 rfl (vm_b2 (vm_b2 (vm_hG ho) rfl) rfl)))))))) ?_
  refine vm_J.call vm_q88 (Z := vm_M157) (n := 1) (k := 1) (mi := 157) (pc := 14) (en := (14, .invokestatic 22, 3, [157, 1083, 1], .null)) rfl trivial rfl rfl vm_z157 (av := [.ref a]) (rest := []) (m_zeroInts ha (by omega)) rfl (Nat.le_of_ble_eq_true rfl) ⟨Nat.le_of_ble_eq_true rfl, Nat.le_of_ble_eq_true rfl⟩ ⟨Nat.le_of_ble_eq_true rfl, Nat.le_of_ble_eq_true rfl⟩ ?_
  show vm_J _ _ _ (17, (0, 0), [.ref o, .int x, .int y], []) (G, (vm_zc 0 (vm_up (vm_up I o 0 x) o 1 y) a 150), F) _ _
  exact vm_J.end vm_q88 (en := (17, .return_, 1, [], .null)) rfl rfl vm_rV (Nat.zero_le _) (Nat.zero_le _) rfl
set_option maxHeartbeats 4000000 in
set_option maxRecDepth 20000 in
/-- DitherDesk.roundedMean  -/
theorem m_roundedMean {l : Launch} {X : vm_Cx} {G : List vm_Sh} {I : Nat → Nat → Int32} {F : Nat → Nat → UInt32} {s n : Int32}  (hz : 0 < n → ¬ 2 * n = 0) : vm_K l X vm_M161 [.int s, .int n] (G, I, F) (some (.int (if 0 < n then (2 * s + n) / (2 * n) else 0))) (G, I, F) := by
  refine vm_K.mk (by decide) (Nat.le_of_ble_eq_true rfl) ?_
  show vm_J _ _ _ (0, (0, 0), [.int s, .int n], []) _ _ _
  refine vm_J.go vm_q161 (k := 2) (hs := []) (f' := (bif vm_ic .le n 0 then 16 else 4, (0, 0), [.int s, .int n], [])) (h' := (G, I, F)) (hs' := []) rfl rfl ?_
  refine vm_J.br (fun c1 => ?_) (fun c1 => ?_)
  · have c1 : n ≤ 0 := of_decide_eq_true c1
    refine vm_J.go vm_q161 (k := 1) (hs := []) (f' := (17, (0, 0), [.int s, .int n], [.int 0])) (h' := (G, I, F)) (hs' := []) rfl rfl ?_
    exact vm_J.end vm_q161 (en := (17, .ireturn, 1, [], .null)) rfl (by first | rw [if_pos hz2]; rfl | rw [if_neg (vm_le_ng c1)]; rfl) vm_rI (Nat.zero_le _) (Nat.zero_le _) rfl
  · have c1 : ¬ (n ≤ 0) := of_decide_eq_false c1
    have hz2 : 0 < n := vm_nle_g c1; have hz3 := hz hz2
    refine vm_J.go vm_q161 (k := 10) (hs := []) (f' := (17, (0, 0), [.int s, .int n], [.int (((2 * s) + n) / (2 * n))])) (h' := (G, I, F)) (hs' := []) rfl (vm_b2 rfl (vm_b2 rfl (vm_b2 rfl (vm_b2 rfl (vm_b2 rfl (vm_b2 rfl (vm_b2 rfl (vm_b2 rfl (vm_b2 (decide_eq_true (by assumption)) (vm_b2 rfl rfl)))))))))) ?_
    exact vm_J.end vm_q161 (en := (17, .ireturn, 1, [], .null)) rfl (by first | rw [if_pos hz2]; rfl | rw [if_neg (vm_le_ng c1)]; rfl) vm_rI (Nat.zero_le _) (Nat.zero_le _) rfl
set_option maxHeartbeats 4000000 in
set_option maxRecDepth 20000 in
/-- DitherDesk$Sheet.isMade  -/
theorem m_isMade {l : Launch} {X : vm_Cx} {G : List vm_Sh} {I : Nat → Nat → Int32} {F : Nat → Nat → UInt32} {o a b c d e f : Nat} (ho : G[o]? = some (8, 9, [.int 0, .int 0, .int 0, .ref a, .ref b, .ref c, .ref d, .ref e, .ref f])) : vm_K l X vm_M61 [.ref o] (G, I, F) (some (.int (vm_bi (¬ I o 0 = -1)))) (G, I, F) := by
  refine vm_K.mk (by decide) (Nat.le_of_ble_eq_true rfl) ?_
  show vm_J _ _ _ (0, (0, 0), [.ref o], []) _ _ _
  refine vm_J.go vm_q61 (k := 4) (hs := [(8, 9, [.int 0, .int 0, .int 0, .ref a, .ref b, .ref c, .ref d, .ref e, .ref f])]) (f' := (bif vm_ic .eq (I o 0) (-1) then 12 else 8, (0, 0), [.ref o], [])) (h' := (G, I, F)) (hs' := []) rfl (vm_b2 rfl (vm_b2 (vm_b2 (vm_hG ho) rfl) (vm_b2 rfl (vm_b2 rfl rfl)))) ?_
  refine vm_J.br (fun c1 => ?_) (fun c1 => ?_)
  · have c1 : (I o 0) = (-1) := of_decide_eq_true c1
    refine vm_J.go vm_q61 (k := 1) (hs := []) (f' := (13, (0, 0), [.ref o], [.int 0])) (h' := (G, I, F)) (hs' := []) rfl rfl ?_
    exact vm_J.end vm_q61 (en := (13, .ireturn, 1, [], .null)) rfl (by first | rw [vm_bi_t c1]; rfl | rw [vm_bi_f (fun q => q c1)]; rfl) (vm_rZ vm_bi_01) (Nat.zero_le _) (Nat.zero_le _) rfl
  · have c1 : ¬ ((I o 0) = (-1)) := of_decide_eq_false c1
    refine vm_J.go vm_q61 (k := 2) (hs := []) (f' := (13, (0, 0), [.ref o], [.int 1])) (h' := (G, I, F)) (hs' := []) rfl rfl ?_
    exact vm_J.end vm_q61 (en := (13, .ireturn, 1, [], .null)) rfl (by first | rw [vm_bi_t c1]; rfl | rw [vm_bi_f (fun q => q c1)]; rfl) (vm_rZ vm_bi_01) (Nat.zero_le _) (Nat.zero_le _) rfl
set_option maxHeartbeats 4000000 in
set_option maxRecDepth 20000 in
/-- DitherDesk.lacksWork  -/
theorem m_lacksWork {l : Launch} {X : vm_Cx} {G : List vm_Sh} {I : Nat → Nat → Int32} {F : Nat → Nat → UInt32} {o n v t cu rf rd tp : Nat} {k : Int32} (ho : G[o]? = some (12, 9, [.ref n, .ref v, .ref t, .ref cu, .ref rf, .ref rd, .ref tp, .int 0, .int 0])) : vm_K l X vm_M146 [.ref o, .int k] (G, I, F) (some (.int (vm_bi (6000 < I o 8 + k)))) (G, I, F) := by
  refine vm_K.mk (by decide) (Nat.le_of_ble_eq_true rfl) ?_
  show vm_J _ _ _ (0, (0, 0), [.ref o, .int k], []) _ _ _
  refine vm_J.go vm_q146 (k := 6) (hs := [(12, 9, [.ref n, .ref v, .ref t, .ref cu, .ref rf, .ref rd, .ref tp, .int 0, .int 0])]) (f' := (bif vm_ic .le ((I o 8) + k) 6000 then 16 else 12, (0, 0), [.ref o, .int k], [])) (h' := (G, I, F)) (hs' := []) rfl (vm_b2 rfl (vm_b2 (vm_b2 (vm_hG ho) rfl) (vm_b2 rfl (vm_b2 rfl (vm_b2 rfl (vm_b2 rfl rfl)))))) ?_
  refine vm_J.br (fun c1 => ?_) (fun c1 => ?_)
  · have c1 : ((I o 8) + k) ≤ 6000 := of_decide_eq_true c1
    refine vm_J.go vm_q146 (k := 1) (hs := []) (f' := (17, (0, 0), [.ref o, .int k], [.int 0])) (h' := (G, I, F)) (hs' := []) rfl rfl ?_
    exact vm_J.end vm_q146 (en := (17, .ireturn, 1, [], .null)) rfl (by first | rw [vm_bi_t (vm_nle_g c1)]; rfl | rw [vm_bi_f (vm_le_ng c1)]; rfl) (vm_rZ vm_bi_01) (Nat.zero_le _) (Nat.zero_le _) rfl
  · have c1 : ¬ (((I o 8) + k) ≤ 6000) := of_decide_eq_false c1
    refine vm_J.go vm_q146 (k := 2) (hs := []) (f' := (17, (0, 0), [.ref o, .int k], [.int 1])) (h' := (G, I, F)) (hs' := []) rfl rfl ?_
    exact vm_J.end vm_q146 (en := (17, .ireturn, 1, [], .null)) rfl (by first | rw [vm_bi_t (vm_nle_g c1)]; rfl | rw [vm_bi_f (vm_le_ng c1)]; rfl) (vm_rZ vm_bi_01) (Nat.zero_le _) (Nat.zero_le _) rfl
