set_option maxHeartbeats 4000000 in
set_option maxRecDepth 20000 in
/-- DitherDesk$Reader.parse  -/
theorem m_Rd_parse {l : Launch} {X : vm_Cx} {G : List vm_Sh} {I : Nat → Nat → Int32} {F : Nat → Nat → UInt32} {o a b c n : Nat} (ho : G[o]? = some (6, 6, [.ref a, .int 0, .int 0, .ref b, .ref c, .int 0])) (ha : G[a]? = some (0, 100, [])) (hb : G[b]? = some (0, 96, [])) (hc : G[c]? = some (0, 96, [])) (hao : a ≠ o) (hob : o ≠ b) (hoc : o ≠ c) (hab : a ≠ b) (hac : a ≠ c) (hn : I o 1 = nI n) (hn2 : n ≤ 100) : vm_K l X vm_M48 [.ref o] (G, I, F) (some (.int (vm_prr (I a) n o b c 12 (vm_up I o 5 0) 0 0).1)) (G, (vm_prr (I a) n o b c 12 (vm_up I o 5 0) 0 0).2, F) := by
  refine vm_K.mk (by decide) (Nat.le_of_ble_eq_true rfl) ?_
  show vm_J _ _ _ (0, (0, 0), [.ref o, .retAddr 0], []) _ _ _
  refine vm_J.go vm_q48 (k := 8) (hs := [(6, 6, [.ref a, .int 0, .int 0, .ref b, .ref c, .int 0]), (6, 6, [.ref a, .int 0, .int 0, .ref b, .ref c, .int 0])]) (f' := (12, (0, 0), [.ref o, .int 1], [])) (h' := (G, (vm_up (vm_up I o 2 0) o 5 0), F)) (hs' := []) rfl (vm_b2 rfl (vm_b2 rfl (vm_b2 (vm_b2 (vm_b2 (vm_hG ho) rfl) rfl) (vm_b2 rfl (vm_b2 rfl (vm_b2 (vm_b2 (vm_b2 (vm_hG ho) rfl) rfl) (vm_b2 rfl (vm_b2 rfl rfl)))))))) ?_
  rw [vm_up_c I o 2 o 5 _ _ (Or.inr (by decide))]
  exact m_Rd_parseL ho ha hb hc hao hob hoc hab hac hn2 12 (vm_up I o 5 0) 0 0 (by omega) (by omega) (by omega) ((vm_up_k2 I o 5 _ 1 (by decide)).trans hn) (vm_up_h I o 5 _) (funext fun k => vm_up_o2 I o 5 _ a k hao)
set_option maxHeartbeats 4000000 in
set_option maxRecDepth 20000 in
/-- DitherDesk$Reader.append  -/
theorem m_Rd_append {l : Launch} {X : vm_Cx} {G : List vm_Sh} {I : Nat → Nat → Int32} {F : Nat → Nat → UInt32} {o a b c n : Nat} {s : Int32} (ho : G[o]? = some (6, 6, [.ref a, .int 0, .int 0, .ref b, .ref c, .int 0])) (ha : G[a]? = some (0, 100, [])) (hao : a ≠ o) (hn : I o 1 = nI n) (hn2 : n < 100) : vm_K l X vm_M47 [.ref o, .int s] (G, I, F) (none) (G, (vm_up (vm_up I a n s) o 1 (nI (n + 1))), F) := by
  refine vm_K.mk (by decide) (Nat.le_of_ble_eq_true rfl) ?_
  show vm_J _ _ _ (0, (0, 0), [.ref o, .int s], []) _ _ _
  refine vm_J.go vm_q47 (k := 5) (hs := [(6, 6, [.ref a, .int 0, .int 0, .ref b, .ref c, .int 0]), (6, 6, [.ref a, .int 0, .int 0, .ref b, .ref c, .int 0])]) (f' := (9, (0, 0), [.ref o, .int s], [.int s, .int (I o 1), .ref a])) (h' := (G, I, F)) (hs' := []) rfl (vm_b2 rfl (vm_b2 (vm_b2 (vm_hG ho) rfl) (vm_b2 rfl (vm_b2 (vm_b2 (vm_hG ho) rfl) (vm_b2 rfl rfl))))) ?_
  rw [(hn : I o 1 = nI n)]
  refine vm_J.call vm_q47 (Z := vm_M153) (n := 3) (k := 1) (mi := 153) (pc := 9) (en := (9, .invokestatic 25, 3, [153, 679, 1], .null)) rfl trivial rfl rfl vm_z153 (av := [.ref a, .int (nI n), .int s]) (rest := []) (m_put_n (j := n) (v := s) ha (by omega) (by omega)) rfl (Nat.le_of_ble_eq_true rfl) ⟨Nat.le_of_ble_eq_true rfl, Nat.le_of_ble_eq_true rfl⟩ ⟨Nat.le_of_ble_eq_true rfl, Nat.le_of_ble_eq_true rfl⟩ ?_
  show vm_J _ _ _ (12, (0, 0), [.ref o, .int s], []) (G, (vm_up I a n s), F) _ _
  refine vm_J.go vm_q47 (k := 5) (hs := [(6, 6, [.ref a, .int 0, .int 0, .ref b, .ref c, .int 0])]) (f' := (19, (0, 0), [.ref o, .int s], [.int (((vm_up I a n s) o 1) + 1), .ref o])) (h' := (G, (vm_up I a n s), F)) (hs' := []) rfl (vm_b2 rfl (vm_b2 rfl (vm_b2 (vm_b2 (vm_hG ho) rfl) (vm_b2 rfl (vm_b2 rfl rfl))))) ?_
  rw [((vm_pa ((vm_up_o2 I a n s o 1 (Ne.symm hao)).trans hn) (rfl : (1 : Int32) = nI 1)) : ((vm_up I a n s) o 1) + 1 = nI (n + 1))]
  refine vm_J.go vm_q47 (k := 1) (hs := [(6, 6, [.ref a, .int 0, .int 0, .ref b, .ref c, .int 0])]) (f' := (22, (0, 0), [.ref o, .int s], [])) (h' := (G, (vm_up (vm_up I a n s) o 1 (nI (n + 1))), F)) (hs' := []) rfl (vm_b2 (vm_b2 (vm_b2 (vm_hG ho) rfl) rfl) rfl) ?_
  exact vm_J.end vm_q47 (en := (22, .return_, 1, [], .null)) rfl rfl vm_rV (Nat.zero_le _) (Nat.zero_le _) rfl
/-- the tapes' cells stand from T on -/
def vm_isT (G : List vm_Sh) (T : Nat) : Prop := (G[T]? = some (55, 6, [.ref (T + 1), .ref (T + 3), .ref (T + 5), .ref (T + 7), .ref (T + 9), .ref (T + 11)])) ∧ (∀ t, t < 6 → G[T + 1 + 2 * t]? = some (10, 3, [.int 0, .int 0, .ref (T + 2 + 2 * t)])) ∧ (∀ t, t < 6 → G[T + 2 + 2 * t]? = some (0, 150, []))
theorem vm_lt6 {p : Int32} (h : 5 < p) : 6 ≤ p := by
  rw [Int32.lt_iff_toInt_lt] at h
  rw [Int32.le_iff_toInt_le]
  have : (5 : Int32).toInt = 5 := rfl
  have : (6 : Int32).toInt = 6 := rfl
  omega
set_option maxHeartbeats 4000000 in
set_option maxRecDepth 20000 in
/-- DitherDesk.tapeAt  -/
theorem m_tapeAt_0 {l : Launch} {X : vm_Cx} {G : List vm_Sh} {I : Nat → Nat → Int32} {F : Nat → Nat → UInt32} {o n v t cu rf rd T : Nat} (ho : G[o]? = some (12, 9, [.ref n, .ref v, .ref t, .ref cu, .ref rf, .ref rd, .ref T, .int 0, .int 0])) (hT : vm_isT G T) : vm_K l X vm_M145 [.ref o, .int 0] (G, I, F) (some (.ref (T + 1))) (G, I, F) := by
  refine vm_K.mk (by decide) (Nat.le_of_ble_eq_true rfl) ?_
  show vm_J _ _ _ (0, (0, 0), [.ref o, .int 0], []) _ _ _
  refine vm_J.go vm_q145 (k := 2) (hs := []) (f' := (bif vm_ic .lt 0 0 then 22 else 4, (0, 0), [.ref o, .int 0], [])) (h' := (G, I, F)) (hs' := []) rfl rfl ?_
  refine vm_J.bF (by decide) ?_
  refine vm_J.go vm_q145 (k := 5) (hs := [(12, 9, [.ref n, .ref v, .ref t, .ref cu, .ref rf, .ref rd, .ref T, .int 0, .int 0]), (55, 6, [.ref (T + 1), .ref (T + 3), .ref (T + 5), .ref (T + 7), .ref (T + 9), .ref (T + 11)])]) (f' := (bif vm_ic .ge 0 6 then 22 else 13, (0, 0), [.ref o, .int 0], [])) (h' := (G, I, F)) (hs' := []) rfl (vm_b2 rfl (vm_b2 rfl (vm_b2 (vm_b2 (vm_hG ho) rfl) (vm_b2 (vm_b2 (vm_hG hT.1) rfl) (vm_b2 rfl rfl))))) ?_
  refine vm_J.bF (by decide) ?_
  refine vm_J.go vm_q145 (k := 5) (hs := [(12, 9, [.ref n, .ref v, .ref t, .ref cu, .ref rf, .ref rd, .ref T, .int 0, .int 0]), (55, 6, [.ref (T + 1), .ref (T + 3), .ref (T + 5), .ref (T + 7), .ref (T + 9), .ref (T + 11)])]) (f' := (23, (0, 0), [.ref o, .int 0], [.ref (T + 1)])) (h' := (G, I, F)) (hs' := []) rfl (vm_b2 rfl (vm_b2 (vm_b2 (vm_hG ho) rfl) (vm_b2 rfl (vm_b2 (vm_b2 (vm_b2 (vm_hG hT.1) rfl) rfl) (vm_b2 rfl rfl))))) ?_
  exact vm_J.end vm_q145 (en := (23, .areturn, 1, [], .null)) rfl rfl vm_rA (Nat.zero_le _) (Nat.zero_le _) rfl
set_option maxHeartbeats 4000000 in
set_option maxRecDepth 20000 in
/-- DitherDesk.tapeAt  -/
theorem m_tapeAt_1 {l : Launch} {X : vm_Cx} {G : List vm_Sh} {I : Nat → Nat → Int32} {F : Nat → Nat → UInt32} {o n v t cu rf rd T : Nat} (ho : G[o]? = some (12, 9, [.ref n, .ref v, .ref t, .ref cu, .ref rf, .ref rd, .ref T, .int 0, .int 0])) (hT : vm_isT G T) : vm_K l X vm_M145 [.ref o, .int 1] (G, I, F) (some (.ref (T + 3))) (G, I, F) := by
  refine vm_K.mk (by decide) (Nat.le_of_ble_eq_true rfl) ?_
  show vm_J _ _ _ (0, (0, 0), [.ref o, .int 1], []) _ _ _
  refine vm_J.go vm_q145 (k := 2) (hs := []) (f' := (bif vm_ic .lt 1 0 then 22 else 4, (0, 0), [.ref o, .int 1], [])) (h' := (G, I, F)) (hs' := []) rfl rfl ?_
  refine vm_J.bF (by decide) ?_
  refine vm_J.go vm_q145 (k := 5) (hs := [(12, 9, [.ref n, .ref v, .ref t, .ref cu, .ref rf, .ref rd, .ref T, .int 0, .int 0]), (55, 6, [.ref (T + 1), .ref (T + 3), .ref (T + 5), .ref (T + 7), .ref (T + 9), .ref (T + 11)])]) (f' := (bif vm_ic .ge 1 6 then 22 else 13, (0, 0), [.ref o, .int 1], [])) (h' := (G, I, F)) (hs' := []) rfl (vm_b2 rfl (vm_b2 rfl (vm_b2 (vm_b2 (vm_hG ho) rfl) (vm_b2 (vm_b2 (vm_hG hT.1) rfl) (vm_b2 rfl rfl))))) ?_
  refine vm_J.bF (by decide) ?_
  refine vm_J.go vm_q145 (k := 5) (hs := [(12, 9, [.ref n, .ref v, .ref t, .ref cu, .ref rf, .ref rd, .ref T, .int 0, .int 0]), (55, 6, [.ref (T + 1), .ref (T + 3), .ref (T + 5), .ref (T + 7), .ref (T + 9), .ref (T + 11)])]) (f' := (23, (0, 0), [.ref o, .int 1], [.ref (T + 3)])) (h' := (G, I, F)) (hs' := []) rfl (vm_b2 rfl (vm_b2 (vm_b2 (vm_hG ho) rfl) (vm_b2 rfl (vm_b2 (vm_b2 (vm_b2 (vm_hG hT.1) rfl) rfl) (vm_b2 rfl rfl))))) ?_
  exact vm_J.end vm_q145 (en := (23, .areturn, 1, [], .null)) rfl rfl vm_rA (Nat.zero_le _) (Nat.zero_le _) rfl
set_option maxHeartbeats 4000000 in
set_option maxRecDepth 20000 in
/-- DitherDesk.tapeAt  -/
theorem m_tapeAt_2 {l : Launch} {X : vm_Cx} {G : List vm_Sh} {I : Nat → Nat → Int32} {F : Nat → Nat → UInt32} {o n v t cu rf rd T : Nat} (ho : G[o]? = some (12, 9, [.ref n, .ref v, .ref t, .ref cu, .ref rf, .ref rd, .ref T, .int 0, .int 0])) (hT : vm_isT G T) : vm_K l X vm_M145 [.ref o, .int 2] (G, I, F) (some (.ref (T + 5))) (G, I, F) := by
  refine vm_K.mk (by decide) (Nat.le_of_ble_eq_true rfl) ?_
  show vm_J _ _ _ (0, (0, 0), [.ref o, .int 2], []) _ _ _
  refine vm_J.go vm_q145 (k := 2) (hs := []) (f' := (bif vm_ic .lt 2 0 then 22 else 4, (0, 0), [.ref o, .int 2], [])) (h' := (G, I, F)) (hs' := []) rfl rfl ?_
  refine vm_J.bF (by decide) ?_
  refine vm_J.go vm_q145 (k := 5) (hs := [(12, 9, [.ref n, .ref v, .ref t, .ref cu, .ref rf, .ref rd, .ref T, .int 0, .int 0]), (55, 6, [.ref (T + 1), .ref (T + 3), .ref (T + 5), .ref (T + 7), .ref (T + 9), .ref (T + 11)])]) (f' := (bif vm_ic .ge 2 6 then 22 else 13, (0, 0), [.ref o, .int 2], [])) (h' := (G, I, F)) (hs' := []) rfl (vm_b2 rfl (vm_b2 rfl (vm_b2 (vm_b2 (vm_hG ho) rfl) (vm_b2 (vm_b2 (vm_hG hT.1) rfl) (vm_b2 rfl rfl))))) ?_
  refine vm_J.bF (by decide) ?_
  refine vm_J.go vm_q145 (k := 5) (hs := [(12, 9, [.ref n, .ref v, .ref t, .ref cu, .ref rf, .ref rd, .ref T, .int 0, .int 0]), (55, 6, [.ref (T + 1), .ref (T + 3), .ref (T + 5), .ref (T + 7), .ref (T + 9), .ref (T + 11)])]) (f' := (23, (0, 0), [.ref o, .int 2], [.ref (T + 5)])) (h' := (G, I, F)) (hs' := []) rfl (vm_b2 rfl (vm_b2 (vm_b2 (vm_hG ho) rfl) (vm_b2 rfl (vm_b2 (vm_b2 (vm_b2 (vm_hG hT.1) rfl) rfl) (vm_b2 rfl rfl))))) ?_
  exact vm_J.end vm_q145 (en := (23, .areturn, 1, [], .null)) rfl rfl vm_rA (Nat.zero_le _) (Nat.zero_le _) rfl
set_option maxHeartbeats 4000000 in
set_option maxRecDepth 20000 in
/-- DitherDesk.tapeAt  -/
theorem m_tapeAt_3 {l : Launch} {X : vm_Cx} {G : List vm_Sh} {I : Nat → Nat → Int32} {F : Nat → Nat → UInt32} {o n v t cu rf rd T : Nat} (ho : G[o]? = some (12, 9, [.ref n, .ref v, .ref t, .ref cu, .ref rf, .ref rd, .ref T, .int 0, .int 0])) (hT : vm_isT G T) : vm_K l X vm_M145 [.ref o, .int 3] (G, I, F) (some (.ref (T + 7))) (G, I, F) := by
  refine vm_K.mk (by decide) (Nat.le_of_ble_eq_true rfl) ?_
  show vm_J _ _ _ (0, (0, 0), [.ref o, .int 3], []) _ _ _
  refine vm_J.go vm_q145 (k := 2) (hs := []) (f' := (bif vm_ic .lt 3 0 then 22 else 4, (0, 0), [.ref o, .int 3], [])) (h' := (G, I, F)) (hs' := []) rfl rfl ?_
  refine vm_J.bF (by decide) ?_
  refine vm_J.go vm_q145 (k := 5) (hs := [(12, 9, [.ref n, .ref v, .ref t, .ref cu, .ref rf, .ref rd, .ref T, .int 0, .int 0]), (55, 6, [.ref (T + 1), .ref (T + 3), .ref (T + 5), .ref (T + 7), .ref (T + 9), .ref (T + 11)])]) (f' := (bif vm_ic .ge 3 6 then 22 else 13, (0, 0), [.ref o, .int 3], [])) (h' := (G, I, F)) (hs' := []) rfl (vm_b2 rfl (vm_b2 rfl (vm_b2 (vm_b2 (vm_hG ho) rfl) (vm_b2 (vm_b2 (vm_hG hT.1) rfl) (vm_b2 rfl rfl))))) ?_
  refine vm_J.bF (by decide) ?_
  refine vm_J.go vm_q145 (k := 5) (hs := [(12, 9, [.ref n, .ref v, .ref t, .ref cu, .ref rf, .ref rd, .ref T, .int 0, .int 0]), (55, 6, [.ref (T + 1), .ref (T + 3), .ref (T + 5), .ref (T + 7), .ref (T + 9), .ref (T + 11)])]) (f' := (23, (0, 0), [.ref o, .int 3], [.ref (T + 7)])) (h' := (G, I, F)) (hs' := []) rfl (vm_b2 rfl (vm_b2 (vm_b2 (vm_hG ho) rfl) (vm_b2 rfl (vm_b2 (vm_b2 (vm_b2 (vm_hG hT.1) rfl) rfl) (vm_b2 rfl rfl))))) ?_
  exact vm_J.end vm_q145 (en := (23, .areturn, 1, [], .null)) rfl rfl vm_rA (Nat.zero_le _) (Nat.zero_le _) rfl
set_option maxHeartbeats 4000000 in
set_option maxRecDepth 20000 in
/-- DitherDesk.tapeAt  -/
theorem m_tapeAt_4 {l : Launch} {X : vm_Cx} {G : List vm_Sh} {I : Nat → Nat → Int32} {F : Nat → Nat → UInt32} {o n v t cu rf rd T : Nat} (ho : G[o]? = some (12, 9, [.ref n, .ref v, .ref t, .ref cu, .ref rf, .ref rd, .ref T, .int 0, .int 0])) (hT : vm_isT G T) : vm_K l X vm_M145 [.ref o, .int 4] (G, I, F) (some (.ref (T + 9))) (G, I, F) := by
  refine vm_K.mk (by decide) (Nat.le_of_ble_eq_true rfl) ?_
  show vm_J _ _ _ (0, (0, 0), [.ref o, .int 4], []) _ _ _
  refine vm_J.go vm_q145 (k := 2) (hs := []) (f' := (bif vm_ic .lt 4 0 then 22 else 4, (0, 0), [.ref o, .int 4], [])) (h' := (G, I, F)) (hs' := []) rfl rfl ?_
  refine vm_J.bF (by decide) ?_
  refine vm_J.go vm_q145 (k := 5) (hs := [(12, 9, [.ref n, .ref v, .ref t, .ref cu, .ref rf, .ref rd, .ref T, .int 0, .int 0]), (55, 6, [.ref (T + 1), .ref (T + 3), .ref (T + 5), .ref (T + 7), .ref (T + 9), .ref (T + 11)])]) (f' := (bif vm_ic .ge 4 6 then 22 else 13, (0, 0), [.ref o, .int 4], [])) (h' := (G, I, F)) (hs' := []) rfl (vm_b2 rfl (vm_b2 rfl (vm_b2 (vm_b2 (vm_hG ho) rfl) (vm_b2 (vm_b2 (vm_hG hT.1) rfl) (vm_b2 rfl rfl))))) ?_
  refine vm_J.bF (by decide) ?_
  refine vm_J.go vm_q145 (k := 5) (hs := [(12, 9, [.ref n, .ref v, .ref t, .ref cu, .ref rf, .ref rd, .ref T, .int 0, .int 0]), (55, 6, [.ref (T + 1), .ref (T + 3), .ref (T + 5), .ref (T + 7), .ref (T + 9), .ref (T + 11)])]) (f' := (23, (0, 0), [.ref o, .int 4], [.ref (T + 9)])) (h' := (G, I, F)) (hs' := []) rfl (vm_b2 rfl (vm_b2 (vm_b2 (vm_hG ho) rfl) (vm_b2 rfl (vm_b2 (vm_b2 (vm_b2 (vm_hG hT.1) rfl) rfl) (vm_b2 rfl rfl))))) ?_
  exact vm_J.end vm_q145 (en := (23, .areturn, 1, [], .null)) rfl rfl vm_rA (Nat.zero_le _) (Nat.zero_le _) rfl
set_option maxHeartbeats 4000000 in
set_option maxRecDepth 20000 in
/-- DitherDesk.tapeAt  -/
theorem m_tapeAt_5 {l : Launch} {X : vm_Cx} {G : List vm_Sh} {I : Nat → Nat → Int32} {F : Nat → Nat → UInt32} {o n v t cu rf rd T : Nat} (ho : G[o]? = some (12, 9, [.ref n, .ref v, .ref t, .ref cu, .ref rf, .ref rd, .ref T, .int 0, .int 0])) (hT : vm_isT G T) : vm_K l X vm_M145 [.ref o, .int 5] (G, I, F) (some (.ref (T + 11))) (G, I, F) := by
  refine vm_K.mk (by decide) (Nat.le_of_ble_eq_true rfl) ?_
  show vm_J _ _ _ (0, (0, 0), [.ref o, .int 5], []) _ _ _
  refine vm_J.go vm_q145 (k := 2) (hs := []) (f' := (bif vm_ic .lt 5 0 then 22 else 4, (0, 0), [.ref o, .int 5], [])) (h' := (G, I, F)) (hs' := []) rfl rfl ?_
  refine vm_J.bF (by decide) ?_
  refine vm_J.go vm_q145 (k := 5) (hs := [(12, 9, [.ref n, .ref v, .ref t, .ref cu, .ref rf, .ref rd, .ref T, .int 0, .int 0]), (55, 6, [.ref (T + 1), .ref (T + 3), .ref (T + 5), .ref (T + 7), .ref (T + 9), .ref (T + 11)])]) (f' := (bif vm_ic .ge 5 6 then 22 else 13, (0, 0), [.ref o, .int 5], [])) (h' := (G, I, F)) (hs' := []) rfl (vm_b2 rfl (vm_b2 rfl (vm_b2 (vm_b2 (vm_hG ho) rfl) (vm_b2 (vm_b2 (vm_hG hT.1) rfl) (vm_b2 rfl rfl))))) ?_
  refine vm_J.bF (by decide) ?_
  refine vm_J.go vm_q145 (k := 5) (hs := [(12, 9, [.ref n, .ref v, .ref t, .ref cu, .ref rf, .ref rd, .ref T, .int 0, .int 0]), (55, 6, [.ref (T + 1), .ref (T + 3), .ref (T + 5), .ref (T + 7), .ref (T + 9), .ref (T + 11)])]) (f' := (23, (0, 0), [.ref o, .int 5], [.ref (T + 11)])) (h' := (G, I, F)) (hs' := []) rfl (vm_b2 rfl (vm_b2 (vm_b2 (vm_hG ho) rfl) (vm_b2 rfl (vm_b2 (vm_b2 (vm_b2 (vm_hG hT.1) rfl) rfl) (vm_b2 rfl rfl))))) ?_
  exact vm_J.end vm_q145 (en := (23, .areturn, 1, [], .null)) rfl rfl vm_rA (Nat.zero_le _) (Nat.zero_le _) rfl
theorem m_tapeAt_n {l : Launch} {X : vm_Cx} {G : List vm_Sh} {I : Nat → Nat → Int32} {F : Nat → Nat → UInt32} {o n v t cu rf rd T p : Nat} (ho : G[o]? = some (12, 9, [.ref n, .ref v, .ref t, .ref cu, .ref rf, .ref rd, .ref T, .int 0, .int 0])) (hT : vm_isT G T) (hp : p < 6) : vm_K l X vm_M145 [.ref o, .int (nI p)] (G, I, F) (some (.ref (T + 1 + 2 * p))) (G, I, F) := by
  match p, hp with
  | 0, _ => exact m_tapeAt_0 ho hT
  | 1, _ => exact m_tapeAt_1 ho hT
  | 2, _ => exact m_tapeAt_2 ho hT
  | 3, _ => exact m_tapeAt_3 ho hT
  | 4, _ => exact m_tapeAt_4 ho hT
  | 5, _ => exact m_tapeAt_5 ho hT
  | p + 6, hp => exact absurd hp (by omega)
set_option maxHeartbeats 4000000 in
set_option maxRecDepth 20000 in
/-- DitherDesk.tapeAt  -/
theorem m_tapeAt_x {l : Launch} {X : vm_Cx} {G : List vm_Sh} {I : Nat → Nat → Int32} {F : Nat → Nat → UInt32} {o n v t cu rf rd T : Nat} {p : Int32} (ho : G[o]? = some (12, 9, [.ref n, .ref v, .ref t, .ref cu, .ref rf, .ref rd, .ref T, .int 0, .int 0])) (hT : vm_isT G T) (hx : p < 0 ∨ 5 < p) : vm_K l X vm_M145 [.ref o, .int p] (G, I, F) (some (.null)) (G, I, F) := by
  refine vm_K.mk (by decide) (Nat.le_of_ble_eq_true rfl) ?_
  show vm_J _ _ _ (0, (0, 0), [.ref o, .int p], []) _ _ _
  refine vm_J.go vm_q145 (k := 2) (hs := []) (f' := (bif vm_ic .lt p 0 then 22 else 4, (0, 0), [.ref o, .int p], [])) (h' := (G, I, F)) (hs' := []) rfl rfl ?_
  refine vm_J.br (fun c1 => ?_) (fun c1 => ?_)
  · have c1 : p < 0 := of_decide_eq_true c1
    refine vm_J.go vm_q145 (k := 1) (hs := []) (f' := (23, (0, 0), [.ref o, .int p], [.null])) (h' := (G, I, F)) (hs' := []) rfl rfl ?_
    exact vm_J.end vm_q145 (en := (23, .areturn, 1, [], .null)) rfl rfl vm_rN (Nat.zero_le _) (Nat.zero_le _) rfl
  · have c1 : ¬ (p < 0) := of_decide_eq_false c1
    refine vm_J.go vm_q145 (k := 5) (hs := [(12, 9, [.ref n, .ref v, .ref t, .ref cu, .ref rf, .ref rd, .ref T, .int 0, .int 0]), (55, 6, [.ref (T + 1), .ref (T + 3), .ref (T + 5), .ref (T + 7), .ref (T + 9), .ref (T + 11)])]) (f' := (bif vm_ic .ge p 6 then 22 else 13, (0, 0), [.ref o, .int p], [])) (h' := (G, I, F)) (hs' := []) rfl (vm_b2 rfl (vm_b2 rfl (vm_b2 (vm_b2 (vm_hG ho) rfl) (vm_b2 (vm_b2 (vm_hG hT.1) rfl) (vm_b2 rfl rfl))))) ?_
    refine vm_J.br (fun c2 => ?_) (fun c2 => ?_)
    · have c2 : 6 ≤ p := of_decide_eq_true c2
      refine vm_J.go vm_q145 (k := 1) (hs := []) (f' := (23, (0, 0), [.ref o, .int p], [.null])) (h' := (G, I, F)) (hs' := []) rfl rfl ?_
      exact vm_J.end vm_q145 (en := (23, .areturn, 1, [], .null)) rfl rfl vm_rN (Nat.zero_le _) (Nat.zero_le _) rfl
    · have c2 : ¬ (6 ≤ p) := of_decide_eq_false c2
      exact (hx.elim c1 (fun q => c2 (vm_lt6 q))).elim
set_option maxHeartbeats 4000000 in
set_option maxRecDepth 20000 in
/-- DitherDesk$Sheet.begin  -/
theorem m_Sh_begin {l : Launch} {X : vm_Cx} {G : List vm_Sh} {I : Nat → Nat → Int32} {F : Nat → Nat → UInt32} {o a b c d e f q pa : Nat} {z : Int32} (ho : G[o]? = some (8, 9, [.int 0, .int 0, .int 0, .ref a, .ref b, .ref c, .ref d, .ref e, .ref f])) (ha : G[a]? = some (0, 144, [])) (hd : G[d]? = some (1, 3, [])) (he : G[e]? = some (1, 432, [])) (hq : G[q]? = some (5, 3, [.int 0, .int 0, .ref pa])) (hpa : G[pa]? = some (0, 144, [])) (hpaa : pa ≠ a) (hqo : q ≠ o) : vm_K l X vm_M64 [.ref o, .ref q, .int z] (G, I, F) (none) (G, (vm_cp (vm_up (vm_up (vm_up I o 0 z) o 1 (vm_up I o 0 z q 0)) o 2 (vm_up (vm_up I o 0 z) o 1 (vm_up I o 0 z q 0) q 1)) pa a 144), (vm_zc 0x00000000 (vm_zc 0x00000000 F d 3) e 432)) := by
  refine vm_K.mk (by decide) (Nat.le_of_ble_eq_true rfl) ?_
  show vm_J _ _ _ (0, (0, 0), [.ref o, .ref q, .int z], []) _ _ _
  refine vm_J.go vm_q64 (k := 15) (hs := [(8, 9, [.int 0, .int 0, .int 0, .ref a, .ref b, .ref c, .ref d, .ref e, .ref f]), (5, 3, [.int 0, .int 0, .ref pa]), (8, 9, [.int 0, .int 0, .int 0, .ref a, .ref b, .ref c, .ref d, .ref e, .ref f]), (5, 3, [.int 0, .int 0, .ref pa]), (8, 9, [.int 0, .int 0, .int 0, .ref a, .ref b, .ref c, .ref d, .ref e, .ref f]), (5, 3, [.int 0, .int 0, .ref pa]), (8, 9, [.int 0, .int 0, .int 0, .ref a, .ref b, .ref c, .ref d, .ref e, .ref f])]) (f' := (29, (0, 0), [.ref o, .ref q, .int z], [.ref a, .ref pa])) (h' := (G, (vm_up (vm_up (vm_up I o 0 z) o 1 ((vm_up I o 0 z) q 0)) o 2 ((vm_up (vm_up I o 0 z) o 1 ((vm_up I o 0 z) q 0)) q 1)), F)) (hs' := []) rfl (vm_b2 rfl (vm_b2 rfl (vm_b2 (vm_b2 (vm_b2 (vm_hG ho) rfl) rfl) (vm_b2 rfl (vm_b2 rfl (vm_b2 (vm_b2 (vm_hG hq) rfl) (vm_b2 (vm_b2 (vm_b2 (vm_hG ho) rfl) rfl) (vm_b2 rfl (vm_b2 rfl (vm_b2 (vm_b2 (vm_hG hq) rfl) (vm_b2 (vm_b2 (vm_b2 (vm_hG ho) rfl) rfl) (vm_b2 rfl (vm_b2 (vm_b2 (vm_hG hq) rfl) (vm_b2 rfl (vm_b2 (vm_b2 (vm_hG ho) rfl) rfl))))))))))))))) ?_
  refine vm_J.call vm_q64 (Z := vm_M156) (n := 2) (k := 1) (mi := 156) (pc := 29) (en := (29, .invokestatic 62, 3, [156, 821, 1], .null)) rfl trivial rfl rfl vm_z156 (av := [.ref pa, .ref a]) (rest := []) (m_copyInts hpa ha hpaa (by omega)) rfl (Nat.le_of_ble_eq_true rfl) ⟨Nat.le_of_ble_eq_true rfl, Nat.le_of_ble_eq_true rfl⟩ ⟨Nat.le_of_ble_eq_true rfl, Nat.le_of_ble_eq_true rfl⟩ ?_
  show vm_J _ _ _ (32, (0, 0), [.ref o, .ref q, .int z], []) (G, (vm_cp (vm_up (vm_up (vm_up I o 0 z) o 1 ((vm_up I o 0 z) q 0)) o 2 ((vm_up (vm_up I o 0 z) o 1 ((vm_up I o 0 z) q 0)) q 1)) pa a 144), F) _ _
  refine vm_J.go vm_q64 (k := 2) (hs := [(8, 9, [.int 0, .int 0, .int 0, .ref a, .ref b, .ref c, .ref d, .ref e, .ref f])]) (f' := (36, (0, 0), [.ref o, .ref q, .int z], [.ref d])) (h' := (G, (vm_cp (vm_up (vm_up (vm_up I o 0 z) o 1 ((vm_up I o 0 z) q 0)) o 2 ((vm_up (vm_up I o 0 z) o 1 ((vm_up I o 0 z) q 0)) q 1)) pa a 144), F)) (hs' := []) rfl (vm_b2 rfl (vm_b2 (vm_b2 (vm_hG ho) rfl) rfl)) ?_
  refine vm_J.call vm_q64 (Z := vm_M159) (n := 1) (k := 1) (mi := 159) (pc := 36) (en := (36, .invokestatic 66, 3, [159, 822, 1], .null)) rfl trivial rfl rfl vm_z159 (av := [.ref d]) (rest := []) (m_zeroFloats hd (by omega)) rfl (Nat.le_of_ble_eq_true rfl) ⟨Nat.le_of_ble_eq_true rfl, Nat.le_of_ble_eq_true rfl⟩ ⟨Nat.le_of_ble_eq_true rfl, Nat.le_of_ble_eq_true rfl⟩ ?_
  show vm_J _ _ _ (39, (0, 0), [.ref o, .ref q, .int z], []) (G, (vm_cp (vm_up (vm_up (vm_up I o 0 z) o 1 ((vm_up I o 0 z) q 0)) o 2 ((vm_up (vm_up I o 0 z) o 1 ((vm_up I o 0 z) q 0)) q 1)) pa a 144), (vm_zc 0x00000000 F d 3)) _ _
  refine vm_J.go vm_q64 (k := 2) (hs := [(8, 9, [.int 0, .int 0, .int 0, .ref a, .ref b, .ref c, .ref d, .ref e, .ref f])]) (f' := (43, (0, 0), [.ref o, .ref q, .int z], [.ref e])) (h' := (G, (vm_cp (vm_up (vm_up (vm_up I o 0 z) o 1 ((vm_up I o 0 z) q 0)) o 2 ((vm_up (vm_up I o 0 z) o 1 ((vm_up I o 0 z) q 0)) q 1)) pa a 144), (vm_zc 0x00000000 F d 3))) (hs' := []) rfl (vm_b2 rfl (vm_b2 (vm_b2 (vm_hG ho) rfl) rfl)) ?_
  refine vm_J.call vm_q64 (Z := vm_M159) (n := 1) (k := 1) (mi := 159) (pc := 43) (en := (43, .invokestatic 66, 3, [159, 822, 1], .null)) rfl trivial rfl rfl vm_z159 (av := [.ref e]) (rest := []) (m_zeroFloats he (by omega)) rfl (Nat.le_of_ble_eq_true rfl) ⟨Nat.le_of_ble_eq_true rfl, Nat.le_of_ble_eq_true rfl⟩ ⟨Nat.le_of_ble_eq_true rfl, Nat.le_of_ble_eq_true rfl⟩ ?_
  show vm_J _ _ _ (46, (0, 0), [.ref o, .ref q, .int z], []) (G, (vm_cp (vm_up (vm_up (vm_up I o 0 z) o 1 ((vm_up I o 0 z) q 0)) o 2 ((vm_up (vm_up I o 0 z) o 1 ((vm_up I o 0 z) q 0)) q 1)) pa a 144), (vm_zc 0x00000000 (vm_zc 0x00000000 F d 3) e 432)) _ _
  exact vm_J.end vm_q64 (en := (46, .return_, 1, [], .null)) rfl rfl vm_rV (Nat.zero_le _) (Nat.zero_le _) rfl
