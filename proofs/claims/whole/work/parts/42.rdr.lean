theorem vm_up_up {α : Type} (I : Nat → Nat → α) (o k : Nat) (x y : α) : vm_up (vm_up I o k x) o k y = vm_up I o k y := by
  funext a b
  unfold vm_up
  by_cases h : a = o
  · by_cases h2 : b = k
    · simp [h, h2]
    · simp [h, h2]
  · simp [h]
theorem vm_up_self {α : Type} (I : Nat → Nat → α) (o k : Nat) {x : α} (h : I o k = x) : vm_up I o k x = I := by
  funext a b
  unfold vm_up
  by_cases h1 : a = o
  · by_cases h2 : b = k
    · subst h1; subst h2; simp [h]
    · simp [h1, h2]
  · simp [h1]
/-- a text's sign, -1 at its end -/
def sp_sg (t : Nat → Int32) (n i : Nat) : Int32 := if i < n then t i else -1
/-- a sign is passed, or not -/
def sp_ps (t : Nat → Int32) (n : Nat) (s : Int32) (p : Nat) : Nat := if sp_sg t n p = s then p + 1 else p
theorem sp_ps_y {t : Nat → Int32} {n : Nat} {s : Int32} {p : Nat} (h : sp_sg t n p = s) : sp_ps t n s p = p + 1 := if_pos h
theorem sp_ps_n {t : Nat → Int32} {n : Nat} {s : Int32} {p : Nat} (h : ¬ sp_sg t n p = s) : sp_ps t n s p = p := if_neg h
theorem sp_sg_lt {t : Nat → Int32} {n p : Nat} {s : Int32} (hs : 0 ≤ s) (h : sp_sg t n p = s) : p < n := by
  unfold sp_sg at h
  split at h
  · assumption
  · rw [← h] at hs
    exact absurd hs (by decide)
theorem sp_ps_le {t : Nat → Int32} {n : Nat} {s : Int32} {p : Nat} (hs : 0 ≤ s) (hp : p ≤ n) : sp_ps t n s p ≤ n := by
  by_cases h : sp_sg t n p = s
  · rw [sp_ps_y h]
    exact sp_sg_lt hs h
  · rw [sp_ps_n h]
    exact hp
abbrev sp_dg (s : Int32) : Prop := 48 ≤ s ∧ s ≤ 57
theorem sp_dg_lt {t : Nat → Int32} {n p : Nat} (h : sp_dg (sp_sg t n p)) : p < n := sp_sg_lt (s := sp_sg t n p) (Int32.le_trans (by decide) h.1) rfl
/-- a number is read: its value or -1, and where the reading stands then -/
def sp_nm (t : Nat → Int32) (n p : Nat) : Int32 × Nat :=
  if sp_dg (sp_sg t n p) then
    if sp_dg (sp_sg t n (p + 1)) then
      if 10 * (sp_sg t n p - 48) + sp_sg t n (p + 1) - 48 ≤ 63 then (10 * (sp_sg t n p - 48) + sp_sg t n (p + 1) - 48, p + 1 + 1) else (-1, p + 1)
    else (sp_sg t n p - 48, p + 1)
  else (-1, p)
theorem sp_nm_le {t : Nat → Int32} {n p : Nat} (hp : p ≤ n) : (sp_nm t n p).2 ≤ n := by
  unfold sp_nm
  split
  · rename_i h1
    have e1 := sp_dg_lt h1
    split
    · rename_i h2
      have e2 := sp_dg_lt h2
      split
      · exact e2
      · exact e1
    · exact e1
  · exact hp
set_option maxHeartbeats 4000000 in
set_option maxRecDepth 20000 in
/-- DitherDesk$Reader.signAt  -/
theorem m_Rd_signAt {l : Launch} {X : vm_Cx} {G : List vm_Sh} {I : Nat → Nat → Int32} {F : Nat → Nat → UInt32} {o a b c n i : Nat} (ho : G[o]? = some (6, 6, [.ref a, .int 0, .int 0, .ref b, .ref c, .int 0])) (ha : G[a]? = some (0, 100, [])) (hn : I o 1 = nI n) (hn2 : n ≤ 100) (hi : i ≤ 200) : vm_K l X vm_M55 [.ref o, .int (nI i)] (G, I, F) (some (.int (sp_sg (I a) n i))) (G, I, F) := by
  refine vm_K.mk (by decide) (Nat.le_of_ble_eq_true rfl) ?_
  show vm_J _ _ _ (0, (0, 0), [.ref o, .int (nI i)], []) _ _ _
  refine vm_J.go vm_q55 (k := 4) (hs := [(6, 6, [.ref a, .int 0, .int 0, .ref b, .ref c, .int 0])]) (f' := (bif vm_ic .ge (nI i) (I o 1) then 19 else 8, (0, 0), [.ref o, .int (nI i)], [])) (h' := (G, I, F)) (hs' := []) rfl (vm_b2 rfl (vm_b2 rfl (vm_b2 (vm_b2 (vm_hG ho) rfl) (vm_b2 rfl rfl)))) ?_
  refine vm_J.br (fun c1 => ?_) (fun c1 => ?_)
  · rw [(hn : I o 1 = nI n)] at c1
    have c1 := vm_ge_t (a := i) (b := n) (by omega) (by omega) c1
    refine vm_J.go vm_q55 (k := 1) (hs := []) (f' := (20, (0, 0), [.ref o, .int (nI i)], [.int (-1)])) (h' := (G, I, F)) (hs' := []) rfl rfl ?_
    exact vm_J.end vm_q55 (en := (20, .ireturn, 1, [], .null)) rfl (by unfold sp_sg; first | (rw [if_pos (by omega)]; rfl) | (rw [if_neg (by omega)]; rfl)) vm_rI (Nat.zero_le _) (Nat.zero_le _) rfl
  · rw [(hn : I o 1 = nI n)] at c1
    have c1 := vm_ge_f (a := i) (b := n) (by omega) (by omega) c1
    refine vm_J.go vm_q55 (k := 3) (hs := [(6, 6, [.ref a, .int 0, .int 0, .ref b, .ref c, .int 0])]) (f' := (13, (0, 0), [.ref o, .int (nI i)], [.int (nI i), .ref a])) (h' := (G, I, F)) (hs' := []) rfl (vm_b2 rfl (vm_b2 (vm_b2 (vm_hG ho) rfl) (vm_b2 rfl rfl))) ?_
    refine vm_J.call vm_q55 (Z := vm_M152) (n := 2) (k := 1) (mi := 152) (pc := 13) (en := (13, .invokestatic 43, 3, [152, 704, 1], .null)) rfl trivial rfl rfl vm_z152 (av := [.ref a, .int (nI i)]) (rest := []) (m_at_n (j := i) ha (by omega) (by omega)) rfl (Nat.le_of_ble_eq_true rfl) ⟨Nat.le_of_ble_eq_true rfl, Nat.le_of_ble_eq_true rfl⟩ ⟨Nat.le_of_ble_eq_true rfl, Nat.le_of_ble_eq_true rfl⟩ ?_
    show vm_J _ _ _ (16, (0, 0), [.ref o, .int (nI i)], [.int (I a i)]) (G, I, F) _ _
    refine vm_J.go vm_q55 (k := 1) (hs := []) (f' := (20, (0, 0), [.ref o, .int (nI i)], [.int (I a i)])) (h' := (G, I, F)) (hs' := []) rfl rfl ?_
    exact vm_J.end vm_q55 (en := (20, .ireturn, 1, [], .null)) rfl (by unfold sp_sg; first | (rw [if_pos (by omega)]; rfl) | (rw [if_neg (by omega)]; rfl)) vm_rI (Nat.zero_le _) (Nat.zero_le _) rfl
theorem m_Rd_signAt_f {l : Launch} {X : vm_Cx} {G : List vm_Sh} {I : Nat → Nat → Int32} {F : Nat → Nat → UInt32} {o a b c n i : Nat} {f : Nat → Int32} (ho : G[o]? = some (6, 6, [.ref a, .int 0, .int 0, .ref b, .ref c, .int 0])) (ha : G[a]? = some (0, 100, [])) (hn : I o 1 = nI n) (hn2 : n ≤ 100) (hi : i ≤ 200) (hf : I a = f) : vm_K l X vm_M55 [.ref o, .int (nI i)] (G, I, F) (some (.int (sp_sg f n i))) (G, I, F) := by
  rw [← hf]
  exact m_Rd_signAt ho ha hn hn2 hi
set_option maxHeartbeats 4000000 in
set_option maxRecDepth 20000 in
/-- DitherDesk$Reader.isDigit  -/
theorem m_Rd_isDigit {l : Launch} {X : vm_Cx} {G : List vm_Sh} {I : Nat → Nat → Int32} {F : Nat → Nat → UInt32} {s : Int32} : vm_K l X vm_M54 [.int s] (G, I, F) (some (.int (vm_bi (sp_dg s)))) (G, I, F) := by
  refine vm_K.mk (by decide) (Nat.le_of_ble_eq_true rfl) ?_
  show vm_J _ _ _ (0, (0, 0), [.int s], []) _ _ _
  refine vm_J.go vm_q54 (k := 3) (hs := []) (f' := (5, (0, 0), [.int s], [.int 57, .int 48, .int s])) (h' := (G, I, F)) (hs' := []) rfl rfl ?_
  refine vm_J.call vm_q54 (Z := vm_M151) (n := 3) (k := 1) (mi := 151) (pc := 5) (en := (5, .invokestatic 61, 3, [151, 712, 1], .null)) rfl trivial rfl rfl vm_z151 (av := [.int s, .int 48, .int 57]) (rest := []) (m_isWithin (v := s) (a := 48) (b := 57)) rfl (Nat.le_of_ble_eq_true rfl) ⟨Nat.le_of_ble_eq_true rfl, Nat.le_of_ble_eq_true rfl⟩ ⟨Nat.le_of_ble_eq_true rfl, Nat.le_of_ble_eq_true rfl⟩ ?_
  show vm_J _ _ _ (8, (0, 0), [.int s], [.int (vm_bi (48 ≤ s ∧ s ≤ 57))]) (G, I, F) _ _
  exact vm_J.end vm_q54 (en := (8, .ireturn, 1, [], .null)) rfl rfl (vm_rZ vm_bi_01) (Nat.zero_le _) (Nat.zero_le _) rfl
set_option maxHeartbeats 4000000 in
set_option maxRecDepth 20000 in
/-- DitherDesk$Reader.passes  -/
theorem m_Rd_passes {l : Launch} {X : vm_Cx} {G : List vm_Sh} {I : Nat → Nat → Int32} {F : Nat → Nat → UInt32} {o a b c n p : Nat} {s : Int32} (ho : G[o]? = some (6, 6, [.ref a, .int 0, .int 0, .ref b, .ref c, .int 0])) (ha : G[a]? = some (0, 100, [])) (hn : I o 1 = nI n) (hn2 : n ≤ 100) (hp : I o 2 = nI p) (hp2 : p ≤ n) : vm_K l X vm_M53 [.ref o, .int s] (G, I, F) (some (.int (vm_bi (sp_sg (I a) n p = s)))) (G, (vm_up I o 2 (nI (sp_ps (I a) n s p))), F) := by
  refine vm_K.mk (by decide) (Nat.le_of_ble_eq_true rfl) ?_
  show vm_J _ _ _ (0, (0, 0), [.ref o, .int s], []) _ _ _
  refine vm_J.go vm_q53 (k := 3) (hs := [(6, 6, [.ref a, .int 0, .int 0, .ref b, .ref c, .int 0])]) (f' := (5, (0, 0), [.ref o, .int s], [.int (I o 2), .ref o])) (h' := (G, I, F)) (hs' := []) rfl (vm_b2 rfl (vm_b2 rfl (vm_b2 (vm_b2 (vm_hG ho) rfl) rfl))) ?_
  rw [(hp : I o 2 = nI p)]
  refine vm_J.call vm_q53 (Z := vm_M55) (n := 1) (k := 0) (mi := 55) (pc := 5) (en := (5, .invokevirtual 57, 3, [55, 700, 0], .null)) rfl trivial rfl rfl vm_z55 (av := [.ref o, .int (nI p)]) (rest := []) (m_Rd_signAt (i := p) ho ha hn (by omega) (by omega)) ⟨_, _, rfl, rfl, _, 4, _, ho, rfl, rfl, rfl⟩ (Nat.le_of_ble_eq_true rfl) ⟨Nat.le_of_ble_eq_true rfl, Nat.le_of_ble_eq_true rfl⟩ ⟨Nat.le_of_ble_eq_true rfl, Nat.le_of_ble_eq_true rfl⟩ ?_
  show vm_J _ _ _ (8, (0, 0), [.ref o, .int s], [.int (sp_sg (I a) n p)]) (G, I, F) _ _
  refine vm_J.go vm_q53 (k := 2) (hs := []) (f' := (bif vm_ic .eq (sp_sg (I a) n p) s then 14 else 12, (0, 0), [.ref o, .int s], [])) (h' := (G, I, F)) (hs' := []) rfl rfl ?_
  refine vm_J.br (fun c1 => ?_) (fun c1 => ?_)
  · have c1 : (sp_sg (I a) n p) = s := of_decide_eq_true c1
    refine vm_J.go vm_q53 (k := 5) (hs := [(6, 6, [.ref a, .int 0, .int 0, .ref b, .ref c, .int 0])]) (f' := (21, (0, 0), [.ref o, .int s], [.int ((I o 2) + 1), .ref o])) (h' := (G, I, F)) (hs' := []) rfl (vm_b2 rfl (vm_b2 rfl (vm_b2 (vm_b2 (vm_hG ho) rfl) (vm_b2 rfl (vm_b2 rfl rfl))))) ?_
    rw [((vm_pa hp (rfl : (1 : Int32) = nI 1)) : (I o 2) + 1 = nI (p + 1))]
    refine vm_J.go vm_q53 (k := 2) (hs := [(6, 6, [.ref a, .int 0, .int 0, .ref b, .ref c, .int 0])]) (f' := (25, (0, 0), [.ref o, .int s], [.int 1])) (h' := (G, (vm_up I o 2 (nI (p + 1))), F)) (hs' := []) rfl (vm_b2 (vm_b2 (vm_b2 (vm_hG ho) rfl) rfl) (vm_b2 rfl rfl)) ?_
    exact vm_J.end vm_q53 (en := (25, .ireturn, 1, [], .null)) rfl (by rw [vm_bi_t c1]; rfl) (vm_rZ vm_bi_01) (Nat.zero_le _) (Nat.zero_le _) (by rw [sp_ps_y c1])
  · have c1 : ¬ ((sp_sg (I a) n p) = s) := of_decide_eq_false c1
    refine vm_J.go vm_q53 (k := 1) (hs := []) (f' := (13, (0, 0), [.ref o, .int s], [.int 0])) (h' := (G, I, F)) (hs' := []) rfl rfl ?_
    exact vm_J.end vm_q53 (en := (13, .ireturn, 1, [], .null)) rfl (by rw [vm_bi_f c1]; rfl) (vm_rZ vm_bi_01) (Nat.zero_le _) (Nat.zero_le _) (by rw [sp_ps_n c1, vm_up_self _ _ _ hp])
set_option maxHeartbeats 4000000 in
set_option maxRecDepth 20000 in
/-- DitherDesk$Reader.parseNumber  -/
theorem m_Rd_number {l : Launch} {X : vm_Cx} {G : List vm_Sh} {I : Nat → Nat → Int32} {F : Nat → Nat → UInt32} {o a b c n p : Nat} (ho : G[o]? = some (6, 6, [.ref a, .int 0, .int 0, .ref b, .ref c, .int 0])) (ha : G[a]? = some (0, 100, [])) (hn : I o 1 = nI n) (hn2 : n ≤ 100) (hp : I o 2 = nI p) (hp2 : p ≤ n) (hao : a ≠ o) : vm_K l X vm_M52 [.ref o] (G, I, F) (some (.int (sp_nm (I a) n p).1)) (G, (vm_up I o 2 (nI (sp_nm (I a) n p).2)), F) := by
  refine vm_K.mk (by decide) (Nat.le_of_ble_eq_true rfl) ?_
  show vm_J _ _ _ (0, (0, 0), [.ref o, .retAddr 0], []) _ _ _
  refine vm_J.go vm_q52 (k := 3) (hs := [(6, 6, [.ref a, .int 0, .int 0, .ref b, .ref c, .int 0])]) (f' := (5, (0, 0), [.ref o, .retAddr 0], [.int (I o 2), .ref o])) (h' := (G, I, F)) (hs' := []) rfl (vm_b2 rfl (vm_b2 rfl (vm_b2 (vm_b2 (vm_hG ho) rfl) rfl))) ?_
  rw [(hp : I o 2 = nI p)]
  refine vm_J.call vm_q52 (Z := vm_M55) (n := 1) (k := 0) (mi := 55) (pc := 5) (en := (5, .invokevirtual 57, 3, [55, 700, 0], .null)) rfl trivial rfl rfl vm_z55 (av := [.ref o, .int (nI p)]) (rest := []) (m_Rd_signAt (i := p) ho ha hn (by omega) (by omega)) ⟨_, _, rfl, rfl, _, 4, _, ho, rfl, rfl, rfl⟩ (Nat.le_of_ble_eq_true rfl) ⟨Nat.le_of_ble_eq_true rfl, Nat.le_of_ble_eq_true rfl⟩ ⟨Nat.le_of_ble_eq_true rfl, Nat.le_of_ble_eq_true rfl⟩ ?_
  show vm_J _ _ _ (8, (0, 0), [.ref o, .retAddr 0], [.int (sp_sg (I a) n p)]) (G, I, F) _ _
  refine vm_J.call vm_q52 (Z := vm_M54) (n := 1) (k := 1) (mi := 54) (pc := 8) (en := (8, .invokestatic 72, 3, [54, 709, 0], .null)) rfl trivial rfl rfl vm_z54 (av := [.int (sp_sg (I a) n p)]) (rest := []) (m_Rd_isDigit (s := sp_sg (I a) n p)) rfl (Nat.le_of_ble_eq_true rfl) ⟨Nat.le_of_ble_eq_true rfl, Nat.le_of_ble_eq_true rfl⟩ ⟨Nat.le_of_ble_eq_true rfl, Nat.le_of_ble_eq_true rfl⟩ ?_
  show vm_J _ _ _ (11, (0, 0), [.ref o, .retAddr 0], [.int (vm_bi (sp_dg (sp_sg (I a) n p)))]) (G, I, F) _ _
  refine vm_J.go vm_q52 (k := 1) (hs := []) (f' := (bif vm_ic .ne (vm_bi (sp_dg (sp_sg (I a) n p))) 0 then 16 else 14, (0, 0), [.ref o, .retAddr 0], [])) (h' := (G, I, F)) (hs' := []) rfl rfl ?_
  refine vm_J.br (fun c1 => ?_) (fun c1 => ?_)
  · have c1 := vm_bi_ne_t c1
    refine vm_J.go vm_q52 (k := 3) (hs := [(6, 6, [.ref a, .int 0, .int 0, .ref b, .ref c, .int 0])]) (f' := (21, (0, 0), [.ref o, .retAddr 0], [.int (I o 2), .ref o])) (h' := (G, I, F)) (hs' := []) rfl (vm_b2 rfl (vm_b2 rfl (vm_b2 (vm_b2 (vm_hG ho) rfl) rfl))) ?_
    rw [(hp : I o 2 = nI p)]
    refine vm_J.call vm_q52 (Z := vm_M55) (n := 1) (k := 0) (mi := 55) (pc := 21) (en := (21, .invokevirtual 57, 3, [55, 700, 0], .null)) rfl trivial rfl rfl vm_z55 (av := [.ref o, .int (nI p)]) (rest := []) (m_Rd_signAt (i := p) ho ha hn (by omega) (by omega)) ⟨_, _, rfl, rfl, _, 4, _, ho, rfl, rfl, rfl⟩ (Nat.le_of_ble_eq_true rfl) ⟨Nat.le_of_ble_eq_true rfl, Nat.le_of_ble_eq_true rfl⟩ ⟨Nat.le_of_ble_eq_true rfl, Nat.le_of_ble_eq_true rfl⟩ ?_
    show vm_J _ _ _ (24, (0, 0), [.ref o, .retAddr 0], [.int (sp_sg (I a) n p)]) (G, I, F) _ _
    refine vm_J.go vm_q52 (k := 8) (hs := [(6, 6, [.ref a, .int 0, .int 0, .ref b, .ref c, .int 0])]) (f' := (35, (0, 0), [.ref o, .int ((sp_sg (I a) n p) - 48)], [.int ((I o 2) + 1), .ref o])) (h' := (G, I, F)) (hs' := []) rfl (vm_b2 rfl (vm_b2 rfl (vm_b2 rfl (vm_b2 rfl (vm_b2 rfl (vm_b2 (vm_b2 (vm_hG ho) rfl) (vm_b2 rfl (vm_b2 rfl rfl)))))))) ?_
    rw [((vm_pa hp (rfl : (1 : Int32) = nI 1)) : (I o 2) + 1 = nI (p + 1))]
    refine vm_J.go vm_q52 (k := 4) (hs := [(6, 6, [.ref a, .int 0, .int 0, .ref b, .ref c, .int 0]), (6, 6, [.ref a, .int 0, .int 0, .ref b, .ref c, .int 0])]) (f' := (43, (0, 0), [.ref o, .int ((sp_sg (I a) n p) - 48)], [.int ((vm_up I o 2 (nI (p + 1))) o 2), .ref o])) (h' := (G, (vm_up I o 2 (nI (p + 1))), F)) (hs' := []) rfl (vm_b2 (vm_b2 (vm_b2 (vm_hG ho) rfl) rfl) (vm_b2 rfl (vm_b2 rfl (vm_b2 (vm_b2 (vm_hG ho) rfl) rfl)))) ?_
    rw [((vm_up_h I o 2 _) : (vm_up I o 2 (nI (p + 1))) o 2 = nI (p + 1))]
    refine vm_J.call vm_q52 (Z := vm_M55) (n := 1) (k := 0) (mi := 55) (pc := 43) (en := (43, .invokevirtual 57, 3, [55, 700, 0], .null)) rfl trivial rfl rfl vm_z55 (av := [.ref o, .int (nI (p + 1))]) (rest := []) (m_Rd_signAt_f (i := p + 1) (f := I a) ho ha ((vm_up_k2 I o 2 _ 1 (by decide)).trans hn) (by omega) (by omega) (funext fun k => vm_up_o2 I o 2 _ a k hao)) ⟨_, _, rfl, rfl, _, 4, _, ho, rfl, rfl, rfl⟩ (Nat.le_of_ble_eq_true rfl) ⟨Nat.le_of_ble_eq_true rfl, Nat.le_of_ble_eq_true rfl⟩ ⟨Nat.le_of_ble_eq_true rfl, Nat.le_of_ble_eq_true rfl⟩ ?_
    show vm_J _ _ _ (46, (0, 0), [.ref o, .int ((sp_sg (I a) n p) - 48)], [.int (sp_sg (I a) n (p + 1))]) (G, (vm_up I o 2 (nI (p + 1))), F) _ _
    refine vm_J.call vm_q52 (Z := vm_M54) (n := 1) (k := 1) (mi := 54) (pc := 46) (en := (46, .invokestatic 72, 3, [54, 709, 0], .null)) rfl trivial rfl rfl vm_z54 (av := [.int (sp_sg (I a) n (p + 1))]) (rest := []) (m_Rd_isDigit (s := sp_sg (I a) n (p + 1))) rfl (Nat.le_of_ble_eq_true rfl) ⟨Nat.le_of_ble_eq_true rfl, Nat.le_of_ble_eq_true rfl⟩ ⟨Nat.le_of_ble_eq_true rfl, Nat.le_of_ble_eq_true rfl⟩ ?_
    show vm_J _ _ _ (49, (0, 0), [.ref o, .int ((sp_sg (I a) n p) - 48)], [.int (vm_bi (sp_dg (sp_sg (I a) n (p + 1))))]) (G, (vm_up I o 2 (nI (p + 1))), F) _ _
    refine vm_J.go vm_q52 (k := 1) (hs := []) (f' := (bif vm_ic .eq (vm_bi (sp_dg (sp_sg (I a) n (p + 1)))) 0 then 87 else 52, (0, 0), [.ref o, .int ((sp_sg (I a) n p) - 48)], [])) (h' := (G, (vm_up I o 2 (nI (p + 1))), F)) (hs' := []) rfl rfl ?_
    refine vm_J.br (fun c2 => ?_) (fun c2 => ?_)
    · have c2 := vm_bi_eq_t c2
      refine vm_J.go vm_q52 (k := 1) (hs := []) (f' := (88, (0, 0), [.ref o, .int ((sp_sg (I a) n p) - 48)], [.int ((sp_sg (I a) n p) - 48)])) (h' := (G, (vm_up I o 2 (nI (p + 1))), F)) (hs' := []) rfl rfl ?_
      exact vm_J.end vm_q52 (en := (88, .ireturn, 1, [], .null)) rfl (by rw [show sp_nm (I a) n p = (sp_sg (I a) n p - 48, p + 1) from (if_pos c1).trans (if_neg c2)]; rfl) vm_rI (Nat.zero_le _) (Nat.zero_le _) (by rw [show sp_nm (I a) n p = (sp_sg (I a) n p - 48, p + 1) from (if_pos c1).trans (if_neg c2)])
    · have c2 := vm_bi_eq_f c2
      refine vm_J.go vm_q52 (k := 6) (hs := [(6, 6, [.ref a, .int 0, .int 0, .ref b, .ref c, .int 0])]) (f' := (61, (0, 0), [.ref o, .int ((sp_sg (I a) n p) - 48)], [.int ((vm_up I o 2 (nI (p + 1))) o 2), .ref o, .int (10 * ((sp_sg (I a) n p) - 48))])) (h' := (G, (vm_up I o 2 (nI (p + 1))), F)) (hs' := []) rfl (vm_b2 rfl (vm_b2 rfl (vm_b2 rfl (vm_b2 rfl (vm_b2 rfl (vm_b2 (vm_b2 (vm_hG ho) rfl) rfl)))))) ?_
      rw [((vm_up_h I o 2 _) : (vm_up I o 2 (nI (p + 1))) o 2 = nI (p + 1))]
      refine vm_J.call vm_q52 (Z := vm_M55) (n := 1) (k := 0) (mi := 55) (pc := 61) (en := (61, .invokevirtual 57, 3, [55, 700, 0], .null)) rfl trivial rfl rfl vm_z55 (av := [.ref o, .int (nI (p + 1))]) (rest := [.int (10 * ((sp_sg (I a) n p) - 48))]) (m_Rd_signAt_f (i := p + 1) (f := I a) ho ha ((vm_up_k2 I o 2 _ 1 (by decide)).trans hn) (by omega) (by omega) (funext fun k => vm_up_o2 I o 2 _ a k hao)) ⟨_, _, rfl, rfl, _, 4, _, ho, rfl, rfl, rfl⟩ (Nat.le_of_ble_eq_true rfl) ⟨Nat.le_of_ble_eq_true rfl, Nat.le_of_ble_eq_true rfl⟩ ⟨Nat.le_of_ble_eq_true rfl, Nat.le_of_ble_eq_true rfl⟩ ?_
      show vm_J _ _ _ (64, (0, 0), [.ref o, .int ((sp_sg (I a) n p) - 48)], [.int (sp_sg (I a) n (p + 1)), .int (10 * ((sp_sg (I a) n p) - 48))]) (G, (vm_up I o 2 (nI (p + 1))), F) _ _
      refine vm_J.go vm_q52 (k := 7) (hs := []) (f' := (bif vm_ic .le (((10 * ((sp_sg (I a) n p) - 48)) + (sp_sg (I a) n (p + 1))) - 48) 63 then 77 else 75, (0, 0), [.ref o, .int (((10 * ((sp_sg (I a) n p) - 48)) + (sp_sg (I a) n (p + 1))) - 48)], [])) (h' := (G, (vm_up I o 2 (nI (p + 1))), F)) (hs' := []) rfl rfl ?_
      refine vm_J.br (fun c3 => ?_) (fun c3 => ?_)
      · have c3 : (((10 * ((sp_sg (I a) n p) - 48)) + (sp_sg (I a) n (p + 1))) - 48) ≤ 63 := of_decide_eq_true c3
        refine vm_J.go vm_q52 (k := 5) (hs := [(6, 6, [.ref a, .int 0, .int 0, .ref b, .ref c, .int 0])]) (f' := (84, (0, 0), [.ref o, .int (((10 * ((sp_sg (I a) n p) - 48)) + (sp_sg (I a) n (p + 1))) - 48)], [.int (((vm_up I o 2 (nI (p + 1))) o 2) + 1), .ref o])) (h' := (G, (vm_up I o 2 (nI (p + 1))), F)) (hs' := []) rfl (vm_b2 rfl (vm_b2 rfl (vm_b2 (vm_b2 (vm_hG ho) rfl) (vm_b2 rfl (vm_b2 rfl rfl))))) ?_
        rw [((vm_pa (vm_up_h I o 2 _) (rfl : (1 : Int32) = nI 1)) : ((vm_up I o 2 (nI (p + 1))) o 2) + 1 = nI ((p + 1) + 1))]
        refine vm_J.go vm_q52 (k := 2) (hs := [(6, 6, [.ref a, .int 0, .int 0, .ref b, .ref c, .int 0])]) (f' := (88, (0, 0), [.ref o, .int (((10 * ((sp_sg (I a) n p) - 48)) + (sp_sg (I a) n (p + 1))) - 48)], [.int (((10 * ((sp_sg (I a) n p) - 48)) + (sp_sg (I a) n (p + 1))) - 48)])) (h' := (G, (vm_up (vm_up I o 2 (nI (p + 1))) o 2 (nI ((p + 1) + 1))), F)) (hs' := []) rfl (vm_b2 (vm_b2 (vm_b2 (vm_hG ho) rfl) rfl) (vm_b2 rfl rfl)) ?_
        exact vm_J.end vm_q52 (en := (88, .ireturn, 1, [], .null)) rfl (by rw [show sp_nm (I a) n p = (10 * (sp_sg (I a) n p - 48) + sp_sg (I a) n (p + 1) - 48, p + 1 + 1) from (if_pos c1).trans ((if_pos c2).trans (if_pos c3))]; rfl) vm_rI (Nat.zero_le _) (Nat.zero_le _) (by rw [show sp_nm (I a) n p = (10 * (sp_sg (I a) n p - 48) + sp_sg (I a) n (p + 1) - 48, p + 1 + 1) from (if_pos c1).trans ((if_pos c2).trans (if_pos c3)), vm_up_up])
      · have c3 : ¬ ((((10 * ((sp_sg (I a) n p) - 48)) + (sp_sg (I a) n (p + 1))) - 48) ≤ 63) := of_decide_eq_false c3
        refine vm_J.go vm_q52 (k := 1) (hs := []) (f' := (76, (0, 0), [.ref o, .int (((10 * ((sp_sg (I a) n p) - 48)) + (sp_sg (I a) n (p + 1))) - 48)], [.int (-1)])) (h' := (G, (vm_up I o 2 (nI (p + 1))), F)) (hs' := []) rfl rfl ?_
        exact vm_J.end vm_q52 (en := (76, .ireturn, 1, [], .null)) rfl (by rw [show sp_nm (I a) n p = (-1, p + 1) from (if_pos c1).trans ((if_pos c2).trans (if_neg c3))]; rfl) vm_rI (Nat.zero_le _) (Nat.zero_le _) (by rw [show sp_nm (I a) n p = (-1, p + 1) from (if_pos c1).trans ((if_pos c2).trans (if_neg c3))])
  · have c1 := vm_bi_ne_f c1
    refine vm_J.go vm_q52 (k := 1) (hs := []) (f' := (15, (0, 0), [.ref o, .retAddr 0], [.int (-1)])) (h' := (G, I, F)) (hs' := []) rfl rfl ?_
    exact vm_J.end vm_q52 (en := (15, .ireturn, 1, [], .null)) rfl (by rw [show sp_nm (I a) n p = (-1, p) from if_neg c1]; rfl) vm_rI (Nat.zero_le _) (Nat.zero_le _) (by rw [show sp_nm (I a) n p = (-1, p) from if_neg c1, vm_up_self _ _ _ hp])
theorem m_Rd_passes_u {l : Launch} {X : vm_Cx} {G : List vm_Sh} {I : Nat → Nat → Int32} {F : Nat → Nat → UInt32} {o a b c n p : Nat} {s : Int32} (ho : G[o]? = some (6, 6, [.ref a, .int 0, .int 0, .ref b, .ref c, .int 0])) (ha : G[a]? = some (0, 100, [])) (hn : I o 1 = nI n) (hn2 : n ≤ 100) (hp2 : p ≤ n) (hao : a ≠ o) : vm_K l X vm_M53 [.ref o, .int s] (G, (vm_up I o 2 (nI p)), F) (some (.int (vm_bi (sp_sg (I a) n p = s)))) (G, vm_up I o 2 (nI (sp_ps (I a) n s p)), F) := by
  have q := m_Rd_passes (l := l) (X := X) (F := F) (I := vm_up I o 2 (nI p)) (p := p) (s := s) ho ha ((vm_up_k2 I o 2 _ 1 (by decide)).trans hn) hn2 (vm_up_h I o 2 _) hp2
  rw [vm_up_up, (show vm_up I o 2 (nI p) a = I a from funext fun k => vm_up_o2 I o 2 _ a k hao)] at q
  exact q
theorem m_Rd_number_u {l : Launch} {X : vm_Cx} {G : List vm_Sh} {I : Nat → Nat → Int32} {F : Nat → Nat → UInt32} {o a b c n p : Nat} (ho : G[o]? = some (6, 6, [.ref a, .int 0, .int 0, .ref b, .ref c, .int 0])) (ha : G[a]? = some (0, 100, [])) (hn : I o 1 = nI n) (hn2 : n ≤ 100) (hp2 : p ≤ n) (hao : a ≠ o) : vm_K l X vm_M52 [.ref o] (G, (vm_up I o 2 (nI p)), F) (some (.int (sp_nm (I a) n p).1)) (G, vm_up I o 2 (nI (sp_nm (I a) n p).2), F) := by
  have q := m_Rd_number (l := l) (X := X) (F := F) (I := vm_up I o 2 (nI p)) (p := p) ho ha ((vm_up_k2 I o 2 _ 1 (by decide)).trans hn) hn2 (vm_up_h I o 2 _) hp2 hao
  rw [vm_up_up, (show vm_up I o 2 (nI p) a = I a from funext fun k => vm_up_o2 I o 2 _ a k hao)] at q
  exact q
theorem m_Rd_signAt_u {l : Launch} {X : vm_Cx} {G : List vm_Sh} {I : Nat → Nat → Int32} {F : Nat → Nat → UInt32} {o a b c n p i : Nat} (ho : G[o]? = some (6, 6, [.ref a, .int 0, .int 0, .ref b, .ref c, .int 0])) (ha : G[a]? = some (0, 100, [])) (hn : I o 1 = nI n) (hn2 : n ≤ 100) (hp2 : p ≤ n) (hao : a ≠ o) (hi : i ≤ 200) : vm_K l X vm_M55 [.ref o, .int (nI i)] (G, (vm_up I o 2 (nI p)), F) (some (.int (sp_sg (I a) n i))) (G, (vm_up I o 2 (nI p)), F) := by
  have q := m_Rd_signAt (l := l) (X := X) (F := F) (I := vm_up I o 2 (nI p)) (i := i) ho ha ((vm_up_k2 I o 2 _ 1 (by decide)).trans hn) hn2 hi
  rw [(show vm_up I o 2 (nI p) a = I a from funext fun k => vm_up_o2 I o 2 _ a k hao)] at q
  exact q
/-- a colour is read -/
def sp_pl (t : Nat → Int32) (n : Nat) (v : Int32) (p : Nat) : Int32 × Nat :=
  if sp_sg t n p = 44 then
    if 0 ≤ (sp_nm t n (sp_ps t n 44 p)).1 then (v * 64 + (sp_nm t n (sp_ps t n 44 p)).1, (sp_nm t n (sp_ps t n 44 p)).2) else (-1, (sp_nm t n (sp_ps t n 44 p)).2)
  else (-1, sp_ps t n 44 p)
def sp_pm (t : Nat → Int32) (n : Nat) (v : Int32) (p : Nat) : Int32 × Nat :=
  if sp_sg t n p = 44 then
    if 0 ≤ (sp_nm t n (sp_ps t n 44 p)).1 then sp_pl t n (v * 64 + (sp_nm t n (sp_ps t n 44 p)).1) (sp_nm t n (sp_ps t n 44 p)).2 else (-1, (sp_nm t n (sp_ps t n 44 p)).2)
  else (-1, sp_ps t n 44 p)
def sp_pc (t : Nat → Int32) (n p : Nat) : Int32 × Nat :=
  if 0 ≤ (sp_nm t n p).1 then sp_pm t n (0 * 64 + (sp_nm t n p).1) (sp_nm t n p).2 else (-1, (sp_nm t n p).2)
theorem sp_pl_le {t : Nat → Int32} {n p : Nat} {v : Int32} (hp : p ≤ n) : (sp_pl t n v p).2 ≤ n := by
  have h1 := sp_ps_le (t := t) (s := 44) (by decide) hp
  have h2 := sp_nm_le (t := t) h1
  unfold sp_pl
  split
  · split
    · exact h2
    · exact h2
  · exact h1
theorem sp_pm_le {t : Nat → Int32} {n p : Nat} {v : Int32} (hp : p ≤ n) : (sp_pm t n v p).2 ≤ n := by
  have h1 := sp_ps_le (t := t) (s := 44) (by decide) hp
  have h2 := sp_nm_le (t := t) h1
  unfold sp_pm
  split
  · split
    · exact sp_pl_le h2
    · exact h2
  · exact h1
theorem sp_pc_le {t : Nat → Int32} {n p : Nat} (hp : p ≤ n) : (sp_pc t n p).2 ≤ n := by
  have h2 := sp_nm_le (t := t) hp
  unfold sp_pc
  split
  · exact sp_pm_le h2
  · exact h2
set_option maxHeartbeats 4000000 in
set_option maxRecDepth 20000 in
/-- DitherDesk$Reader.parseColour  -/
theorem m_Rd_colour {l : Launch} {X : vm_Cx} {G : List vm_Sh} {I : Nat → Nat → Int32} {F : Nat → Nat → UInt32} {o a b c n p : Nat} (ho : G[o]? = some (6, 6, [.ref a, .int 0, .int 0, .ref b, .ref c, .int 0])) (ha : G[a]? = some (0, 100, [])) (hn : I o 1 = nI n) (hn2 : n ≤ 100) (hp2 : p ≤ n) (hao : a ≠ o) : vm_K l X vm_M51 [.ref o] (G, (vm_up I o 2 (nI p)), F) (some (.int (sp_pc (I a) n p).1)) (G, (vm_up I o 2 (nI (sp_pc (I a) n p).2)), F) := by
  refine vm_K.mk (by decide) (Nat.le_of_ble_eq_true rfl) ?_
  show vm_J _ _ _ (0, (0, 0), [.ref o, .retAddr 0, .retAddr 0, .retAddr 0], []) _ _ _
  refine vm_J.go vm_q51 (k := 7) (hs := []) (f' := (bif vm_ic .ge 0 3 then 48 else 9, (0, 0), [.ref o, .int 0, .int 0, .retAddr 0], [])) (h' := (G, (vm_up I o 2 (nI p)), F)) (hs' := []) rfl rfl ?_
  refine vm_J.bF (by decide) ?_
  refine vm_J.go vm_q51 (k := 2) (hs := []) (f' := (bif vm_ic .le 0 0 then 24 else 13, (0, 0), [.ref o, .int 0, .int 0, .retAddr 0], [])) (h' := (G, (vm_up I o 2 (nI p)), F)) (hs' := []) rfl rfl ?_
  refine vm_J.bT (by decide) ?_
  refine vm_J.go vm_q51 (k := 1) (hs := []) (f' := (25, (0, 0), [.ref o, .int 0, .int 0, .retAddr 0], [.ref o])) (h' := (G, (vm_up I o 2 (nI p)), F)) (hs' := []) rfl rfl ?_
  have c1 := sp_nm_le (t := (I a)) (n := n) (p := p) (by omega)
  refine vm_J.call vm_q51 (Z := vm_M52) (n := 0) (k := 0) (mi := 52) (pc := 25) (en := (25, .invokevirtual 69, 3, [52, 705, 0], .null)) rfl trivial rfl rfl vm_z52 (av := [.ref o]) (rest := []) (m_Rd_number_u (I := I) (p := p) ho ha hn (by omega) (by omega) hao) ⟨_, _, rfl, rfl, _, 4, _, ho, rfl, rfl, rfl⟩ (Nat.le_of_ble_eq_true rfl) ⟨Nat.le_of_ble_eq_true rfl, Nat.le_of_ble_eq_true rfl⟩ ⟨Nat.le_of_ble_eq_true rfl, Nat.le_of_ble_eq_true rfl⟩ ?_
  show vm_J _ _ _ (28, (0, 0), [.ref o, .int 0, .int 0, .retAddr 0], [.int ((sp_nm (I a) n p).1)]) (G, (vm_up I o 2 (nI (sp_nm (I a) n p).2)), F) _ _
  refine vm_J.go vm_q51 (k := 3) (hs := []) (f' := (bif vm_ic .ge ((sp_nm (I a) n p).1) 0 then 35 else 33, (0, 0), [.ref o, .int 0, .int 0, .int ((sp_nm (I a) n p).1)], [])) (h' := (G, (vm_up I o 2 (nI (sp_nm (I a) n p).2)), F)) (hs' := []) rfl rfl ?_
  refine vm_J.br (fun c2 => ?_) (fun c2 => ?_)
  · have c2 : 0 ≤ ((sp_nm (I a) n p).1) := of_decide_eq_true c2
    refine vm_J.go vm_q51 (k := 11) (hs := []) (f' := (bif vm_ic .ge (0 + 1) 3 then 48 else 9, (0, 0), [.ref o, .int ((0 * 64) + ((sp_nm (I a) n p).1)), .int (0 + 1), .int ((sp_nm (I a) n p).1)], [])) (h' := (G, (vm_up I o 2 (nI (sp_nm (I a) n p).2)), F)) (hs' := []) rfl rfl ?_
    rw [(show (0 + 1 : Int32) = 1 from by decide)]
    refine vm_J.bF (by decide) ?_
    refine vm_J.go vm_q51 (k := 2) (hs := []) (f' := (bif vm_ic .le 1 0 then 24 else 13, (0, 0), [.ref o, .int ((0 * 64) + ((sp_nm (I a) n p).1)), .int 1, .int ((sp_nm (I a) n p).1)], [])) (h' := (G, (vm_up I o 2 (nI (sp_nm (I a) n p).2)), F)) (hs' := []) rfl rfl ?_
    refine vm_J.bF (by decide) ?_
    refine vm_J.go vm_q51 (k := 2) (hs := []) (f' := (16, (0, 0), [.ref o, .int ((0 * 64) + ((sp_nm (I a) n p).1)), .int 1, .int ((sp_nm (I a) n p).1)], [.int 44, .ref o])) (h' := (G, (vm_up I o 2 (nI (sp_nm (I a) n p).2)), F)) (hs' := []) rfl rfl ?_
    have c3 := sp_ps_le (t := (I a)) (n := n) (s := 44) (p := (sp_nm (I a) n p).2) (by decide) (by omega)
    refine vm_J.call vm_q51 (Z := vm_M53) (n := 1) (k := 0) (mi := 53) (pc := 16) (en := (16, .invokevirtual 39, 3, [53, 696, 0], .null)) rfl trivial rfl rfl vm_z53 (av := [.ref o, .int 44]) (rest := []) (m_Rd_passes_u (I := I) (p := (sp_nm (I a) n p).2) (s := 44) ho ha hn (by omega) (by omega) hao) ⟨_, _, rfl, rfl, _, 4, _, ho, rfl, rfl, rfl⟩ (Nat.le_of_ble_eq_true rfl) ⟨Nat.le_of_ble_eq_true rfl, Nat.le_of_ble_eq_true rfl⟩ ⟨Nat.le_of_ble_eq_true rfl, Nat.le_of_ble_eq_true rfl⟩ ?_
    show vm_J _ _ _ (19, (0, 0), [.ref o, .int ((0 * 64) + ((sp_nm (I a) n p).1)), .int 1, .int ((sp_nm (I a) n p).1)], [.int (vm_bi (sp_sg (I a) n ((sp_nm (I a) n p).2) = 44))]) (G, (vm_up I o 2 (nI (sp_ps (I a) n 44 ((sp_nm (I a) n p).2)))), F) _ _
    refine vm_J.go vm_q51 (k := 1) (hs := []) (f' := (bif vm_ic .ne (vm_bi (sp_sg (I a) n ((sp_nm (I a) n p).2) = 44)) 0 then 24 else 22, (0, 0), [.ref o, .int ((0 * 64) + ((sp_nm (I a) n p).1)), .int 1, .int ((sp_nm (I a) n p).1)], [])) (h' := (G, (vm_up I o 2 (nI (sp_ps (I a) n 44 ((sp_nm (I a) n p).2)))), F)) (hs' := []) rfl rfl ?_
    refine vm_J.br (fun c4 => ?_) (fun c4 => ?_)
    · have c4 := vm_bi_ne_t c4
      refine vm_J.go vm_q51 (k := 1) (hs := []) (f' := (25, (0, 0), [.ref o, .int ((0 * 64) + ((sp_nm (I a) n p).1)), .int 1, .int ((sp_nm (I a) n p).1)], [.ref o])) (h' := (G, (vm_up I o 2 (nI (sp_ps (I a) n 44 ((sp_nm (I a) n p).2)))), F)) (hs' := []) rfl rfl ?_
      have c5 := sp_nm_le (t := (I a)) (n := n) (p := (sp_ps (I a) n 44 ((sp_nm (I a) n p).2))) (by omega)
      refine vm_J.call vm_q51 (Z := vm_M52) (n := 0) (k := 0) (mi := 52) (pc := 25) (en := (25, .invokevirtual 69, 3, [52, 705, 0], .null)) rfl trivial rfl rfl vm_z52 (av := [.ref o]) (rest := []) (m_Rd_number_u (I := I) (p := (sp_ps (I a) n 44 ((sp_nm (I a) n p).2))) ho ha hn (by omega) (by omega) hao) ⟨_, _, rfl, rfl, _, 4, _, ho, rfl, rfl, rfl⟩ (Nat.le_of_ble_eq_true rfl) ⟨Nat.le_of_ble_eq_true rfl, Nat.le_of_ble_eq_true rfl⟩ ⟨Nat.le_of_ble_eq_true rfl, Nat.le_of_ble_eq_true rfl⟩ ?_
      show vm_J _ _ _ (28, (0, 0), [.ref o, .int ((0 * 64) + ((sp_nm (I a) n p).1)), .int 1, .int ((sp_nm (I a) n p).1)], [.int ((sp_nm (I a) n (sp_ps (I a) n 44 ((sp_nm (I a) n p).2))).1)]) (G, (vm_up I o 2 (nI (sp_nm (I a) n (sp_ps (I a) n 44 ((sp_nm (I a) n p).2))).2)), F) _ _
      refine vm_J.go vm_q51 (k := 3) (hs := []) (f' := (bif vm_ic .ge ((sp_nm (I a) n (sp_ps (I a) n 44 ((sp_nm (I a) n p).2))).1) 0 then 35 else 33, (0, 0), [.ref o, .int ((0 * 64) + ((sp_nm (I a) n p).1)), .int 1, .int ((sp_nm (I a) n (sp_ps (I a) n 44 ((sp_nm (I a) n p).2))).1)], [])) (h' := (G, (vm_up I o 2 (nI (sp_nm (I a) n (sp_ps (I a) n 44 ((sp_nm (I a) n p).2))).2)), F)) (hs' := []) rfl rfl ?_
      refine vm_J.br (fun c6 => ?_) (fun c6 => ?_)
      · have c6 : 0 ≤ ((sp_nm (I a) n (sp_ps (I a) n 44 ((sp_nm (I a) n p).2))).1) := of_decide_eq_true c6
        refine vm_J.go vm_q51 (k := 11) (hs := []) (f' := (bif vm_ic .ge (1 + 1) 3 then 48 else 9, (0, 0), [.ref o, .int ((((0 * 64) + ((sp_nm (I a) n p).1)) * 64) + ((sp_nm (I a) n (sp_ps (I a) n 44 ((sp_nm (I a) n p).2))).1)), .int (1 + 1), .int ((sp_nm (I a) n (sp_ps (I a) n 44 ((sp_nm (I a) n p).2))).1)], [])) (h' := (G, (vm_up I o 2 (nI (sp_nm (I a) n (sp_ps (I a) n 44 ((sp_nm (I a) n p).2))).2)), F)) (hs' := []) rfl rfl ?_
        rw [(show (1 + 1 : Int32) = 2 from by decide)]
        refine vm_J.bF (by decide) ?_
        refine vm_J.go vm_q51 (k := 2) (hs := []) (f' := (bif vm_ic .le 2 0 then 24 else 13, (0, 0), [.ref o, .int ((((0 * 64) + ((sp_nm (I a) n p).1)) * 64) + ((sp_nm (I a) n (sp_ps (I a) n 44 ((sp_nm (I a) n p).2))).1)), .int 2, .int ((sp_nm (I a) n (sp_ps (I a) n 44 ((sp_nm (I a) n p).2))).1)], [])) (h' := (G, (vm_up I o 2 (nI (sp_nm (I a) n (sp_ps (I a) n 44 ((sp_nm (I a) n p).2))).2)), F)) (hs' := []) rfl rfl ?_
        refine vm_J.bF (by decide) ?_
        refine vm_J.go vm_q51 (k := 2) (hs := []) (f' := (16, (0, 0), [.ref o, .int ((((0 * 64) + ((sp_nm (I a) n p).1)) * 64) + ((sp_nm (I a) n (sp_ps (I a) n 44 ((sp_nm (I a) n p).2))).1)), .int 2, .int ((sp_nm (I a) n (sp_ps (I a) n 44 ((sp_nm (I a) n p).2))).1)], [.int 44, .ref o])) (h' := (G, (vm_up I o 2 (nI (sp_nm (I a) n (sp_ps (I a) n 44 ((sp_nm (I a) n p).2))).2)), F)) (hs' := []) rfl rfl ?_
        have c7 := sp_ps_le (t := (I a)) (n := n) (s := 44) (p := (sp_nm (I a) n (sp_ps (I a) n 44 ((sp_nm (I a) n p).2))).2) (by decide) (by omega)
        refine vm_J.call vm_q51 (Z := vm_M53) (n := 1) (k := 0) (mi := 53) (pc := 16) (en := (16, .invokevirtual 39, 3, [53, 696, 0], .null)) rfl trivial rfl rfl vm_z53 (av := [.ref o, .int 44]) (rest := []) (m_Rd_passes_u (I := I) (p := (sp_nm (I a) n (sp_ps (I a) n 44 ((sp_nm (I a) n p).2))).2) (s := 44) ho ha hn (by omega) (by omega) hao) ⟨_, _, rfl, rfl, _, 4, _, ho, rfl, rfl, rfl⟩ (Nat.le_of_ble_eq_true rfl) ⟨Nat.le_of_ble_eq_true rfl, Nat.le_of_ble_eq_true rfl⟩ ⟨Nat.le_of_ble_eq_true rfl, Nat.le_of_ble_eq_true rfl⟩ ?_
        show vm_J _ _ _ (19, (0, 0), [.ref o, .int ((((0 * 64) + ((sp_nm (I a) n p).1)) * 64) + ((sp_nm (I a) n (sp_ps (I a) n 44 ((sp_nm (I a) n p).2))).1)), .int 2, .int ((sp_nm (I a) n (sp_ps (I a) n 44 ((sp_nm (I a) n p).2))).1)], [.int (vm_bi (sp_sg (I a) n ((sp_nm (I a) n (sp_ps (I a) n 44 ((sp_nm (I a) n p).2))).2) = 44))]) (G, (vm_up I o 2 (nI (sp_ps (I a) n 44 ((sp_nm (I a) n (sp_ps (I a) n 44 ((sp_nm (I a) n p).2))).2)))), F) _ _
        refine vm_J.go vm_q51 (k := 1) (hs := []) (f' := (bif vm_ic .ne (vm_bi (sp_sg (I a) n ((sp_nm (I a) n (sp_ps (I a) n 44 ((sp_nm (I a) n p).2))).2) = 44)) 0 then 24 else 22, (0, 0), [.ref o, .int ((((0 * 64) + ((sp_nm (I a) n p).1)) * 64) + ((sp_nm (I a) n (sp_ps (I a) n 44 ((sp_nm (I a) n p).2))).1)), .int 2, .int ((sp_nm (I a) n (sp_ps (I a) n 44 ((sp_nm (I a) n p).2))).1)], [])) (h' := (G, (vm_up I o 2 (nI (sp_ps (I a) n 44 ((sp_nm (I a) n (sp_ps (I a) n 44 ((sp_nm (I a) n p).2))).2)))), F)) (hs' := []) rfl rfl ?_
        refine vm_J.br (fun c8 => ?_) (fun c8 => ?_)
        · have c8 := vm_bi_ne_t c8
          refine vm_J.go vm_q51 (k := 1) (hs := []) (f' := (25, (0, 0), [.ref o, .int ((((0 * 64) + ((sp_nm (I a) n p).1)) * 64) + ((sp_nm (I a) n (sp_ps (I a) n 44 ((sp_nm (I a) n p).2))).1)), .int 2, .int ((sp_nm (I a) n (sp_ps (I a) n 44 ((sp_nm (I a) n p).2))).1)], [.ref o])) (h' := (G, (vm_up I o 2 (nI (sp_ps (I a) n 44 ((sp_nm (I a) n (sp_ps (I a) n 44 ((sp_nm (I a) n p).2))).2)))), F)) (hs' := []) rfl rfl ?_
          have c9 := sp_nm_le (t := (I a)) (n := n) (p := (sp_ps (I a) n 44 ((sp_nm (I a) n (sp_ps (I a) n 44 ((sp_nm (I a) n p).2))).2))) (by omega)
          refine vm_J.call vm_q51 (Z := vm_M52) (n := 0) (k := 0) (mi := 52) (pc := 25) (en := (25, .invokevirtual 69, 3, [52, 705, 0], .null)) rfl trivial rfl rfl vm_z52 (av := [.ref o]) (rest := []) (m_Rd_number_u (I := I) (p := (sp_ps (I a) n 44 ((sp_nm (I a) n (sp_ps (I a) n 44 ((sp_nm (I a) n p).2))).2))) ho ha hn (by omega) (by omega) hao) ⟨_, _, rfl, rfl, _, 4, _, ho, rfl, rfl, rfl⟩ (Nat.le_of_ble_eq_true rfl) ⟨Nat.le_of_ble_eq_true rfl, Nat.le_of_ble_eq_true rfl⟩ ⟨Nat.le_of_ble_eq_true rfl, Nat.le_of_ble_eq_true rfl⟩ ?_
          show vm_J _ _ _ (28, (0, 0), [.ref o, .int ((((0 * 64) + ((sp_nm (I a) n p).1)) * 64) + ((sp_nm (I a) n (sp_ps (I a) n 44 ((sp_nm (I a) n p).2))).1)), .int 2, .int ((sp_nm (I a) n (sp_ps (I a) n 44 ((sp_nm (I a) n p).2))).1)], [.int ((sp_nm (I a) n (sp_ps (I a) n 44 ((sp_nm (I a) n (sp_ps (I a) n 44 ((sp_nm (I a) n p).2))).2))).1)]) (G, (vm_up I o 2 (nI (sp_nm (I a) n (sp_ps (I a) n 44 ((sp_nm (I a) n (sp_ps (I a) n 44 ((sp_nm (I a) n p).2))).2))).2)), F) _ _
          refine vm_J.go vm_q51 (k := 3) (hs := []) (f' := (bif vm_ic .ge ((sp_nm (I a) n (sp_ps (I a) n 44 ((sp_nm (I a) n (sp_ps (I a) n 44 ((sp_nm (I a) n p).2))).2))).1) 0 then 35 else 33, (0, 0), [.ref o, .int ((((0 * 64) + ((sp_nm (I a) n p).1)) * 64) + ((sp_nm (I a) n (sp_ps (I a) n 44 ((sp_nm (I a) n p).2))).1)), .int 2, .int ((sp_nm (I a) n (sp_ps (I a) n 44 ((sp_nm (I a) n (sp_ps (I a) n 44 ((sp_nm (I a) n p).2))).2))).1)], [])) (h' := (G, (vm_up I o 2 (nI (sp_nm (I a) n (sp_ps (I a) n 44 ((sp_nm (I a) n (sp_ps (I a) n 44 ((sp_nm (I a) n p).2))).2))).2)), F)) (hs' := []) rfl rfl ?_
          refine vm_J.br (fun c10 => ?_) (fun c10 => ?_)
          · have c10 : 0 ≤ ((sp_nm (I a) n (sp_ps (I a) n 44 ((sp_nm (I a) n (sp_ps (I a) n 44 ((sp_nm (I a) n p).2))).2))).1) := of_decide_eq_true c10
            refine vm_J.go vm_q51 (k := 11) (hs := []) (f' := (bif vm_ic .ge (2 + 1) 3 then 48 else 9, (0, 0), [.ref o, .int ((((((0 * 64) + ((sp_nm (I a) n p).1)) * 64) + ((sp_nm (I a) n (sp_ps (I a) n 44 ((sp_nm (I a) n p).2))).1)) * 64) + ((sp_nm (I a) n (sp_ps (I a) n 44 ((sp_nm (I a) n (sp_ps (I a) n 44 ((sp_nm (I a) n p).2))).2))).1)), .int (2 + 1), .int ((sp_nm (I a) n (sp_ps (I a) n 44 ((sp_nm (I a) n (sp_ps (I a) n 44 ((sp_nm (I a) n p).2))).2))).1)], [])) (h' := (G, (vm_up I o 2 (nI (sp_nm (I a) n (sp_ps (I a) n 44 ((sp_nm (I a) n (sp_ps (I a) n 44 ((sp_nm (I a) n p).2))).2))).2)), F)) (hs' := []) rfl rfl ?_
            rw [(show (2 + 1 : Int32) = 3 from by decide)]
            refine vm_J.bT (by decide) ?_
            refine vm_J.go vm_q51 (k := 1) (hs := []) (f' := (49, (0, 0), [.ref o, .int ((((((0 * 64) + ((sp_nm (I a) n p).1)) * 64) + ((sp_nm (I a) n (sp_ps (I a) n 44 ((sp_nm (I a) n p).2))).1)) * 64) + ((sp_nm (I a) n (sp_ps (I a) n 44 ((sp_nm (I a) n (sp_ps (I a) n 44 ((sp_nm (I a) n p).2))).2))).1)), .int 3, .int ((sp_nm (I a) n (sp_ps (I a) n 44 ((sp_nm (I a) n (sp_ps (I a) n 44 ((sp_nm (I a) n p).2))).2))).1)], [.int ((((((0 * 64) + ((sp_nm (I a) n p).1)) * 64) + ((sp_nm (I a) n (sp_ps (I a) n 44 ((sp_nm (I a) n p).2))).1)) * 64) + ((sp_nm (I a) n (sp_ps (I a) n 44 ((sp_nm (I a) n (sp_ps (I a) n 44 ((sp_nm (I a) n p).2))).2))).1))])) (h' := (G, (vm_up I o 2 (nI (sp_nm (I a) n (sp_ps (I a) n 44 ((sp_nm (I a) n (sp_ps (I a) n 44 ((sp_nm (I a) n p).2))).2))).2)), F)) (hs' := []) rfl rfl ?_
            exact vm_J.end vm_q51 (en := (49, .ireturn, 1, [], .null)) rfl (by rw [show sp_pc (I a) n p = ((((((0 * 64) + ((sp_nm (I a) n p).1)) * 64) + ((sp_nm (I a) n (sp_ps (I a) n 44 ((sp_nm (I a) n p).2))).1)) * 64) + ((sp_nm (I a) n (sp_ps (I a) n 44 ((sp_nm (I a) n (sp_ps (I a) n 44 ((sp_nm (I a) n p).2))).2))).1), (sp_nm (I a) n (sp_ps (I a) n 44 ((sp_nm (I a) n (sp_ps (I a) n 44 ((sp_nm (I a) n p).2))).2))).2) from ((if_pos c2).trans ((if_pos c4).trans ((if_pos c6).trans ((if_pos c8).trans (if_pos c10)))))]; rfl) vm_rI (Nat.zero_le _) (Nat.zero_le _) (by rw [show sp_pc (I a) n p = ((((((0 * 64) + ((sp_nm (I a) n p).1)) * 64) + ((sp_nm (I a) n (sp_ps (I a) n 44 ((sp_nm (I a) n p).2))).1)) * 64) + ((sp_nm (I a) n (sp_ps (I a) n 44 ((sp_nm (I a) n (sp_ps (I a) n 44 ((sp_nm (I a) n p).2))).2))).1), (sp_nm (I a) n (sp_ps (I a) n 44 ((sp_nm (I a) n (sp_ps (I a) n 44 ((sp_nm (I a) n p).2))).2))).2) from ((if_pos c2).trans ((if_pos c4).trans ((if_pos c6).trans ((if_pos c8).trans (if_pos c10)))))])
          · have c10 : ¬ (0 ≤ ((sp_nm (I a) n (sp_ps (I a) n 44 ((sp_nm (I a) n (sp_ps (I a) n 44 ((sp_nm (I a) n p).2))).2))).1)) := of_decide_eq_false c10
            refine vm_J.go vm_q51 (k := 1) (hs := []) (f' := (34, (0, 0), [.ref o, .int ((((0 * 64) + ((sp_nm (I a) n p).1)) * 64) + ((sp_nm (I a) n (sp_ps (I a) n 44 ((sp_nm (I a) n p).2))).1)), .int 2, .int ((sp_nm (I a) n (sp_ps (I a) n 44 ((sp_nm (I a) n (sp_ps (I a) n 44 ((sp_nm (I a) n p).2))).2))).1)], [.int (-1)])) (h' := (G, (vm_up I o 2 (nI (sp_nm (I a) n (sp_ps (I a) n 44 ((sp_nm (I a) n (sp_ps (I a) n 44 ((sp_nm (I a) n p).2))).2))).2)), F)) (hs' := []) rfl rfl ?_
            exact vm_J.end vm_q51 (en := (34, .ireturn, 1, [], .null)) rfl (by rw [show sp_pc (I a) n p = ((-1), (sp_nm (I a) n (sp_ps (I a) n 44 ((sp_nm (I a) n (sp_ps (I a) n 44 ((sp_nm (I a) n p).2))).2))).2) from ((if_pos c2).trans ((if_pos c4).trans ((if_pos c6).trans ((if_pos c8).trans (if_neg c10)))))]; rfl) vm_rI (Nat.zero_le _) (Nat.zero_le _) (by rw [show sp_pc (I a) n p = ((-1), (sp_nm (I a) n (sp_ps (I a) n 44 ((sp_nm (I a) n (sp_ps (I a) n 44 ((sp_nm (I a) n p).2))).2))).2) from ((if_pos c2).trans ((if_pos c4).trans ((if_pos c6).trans ((if_pos c8).trans (if_neg c10)))))])
        · have c8 := vm_bi_ne_f c8
          refine vm_J.go vm_q51 (k := 1) (hs := []) (f' := (23, (0, 0), [.ref o, .int ((((0 * 64) + ((sp_nm (I a) n p).1)) * 64) + ((sp_nm (I a) n (sp_ps (I a) n 44 ((sp_nm (I a) n p).2))).1)), .int 2, .int ((sp_nm (I a) n (sp_ps (I a) n 44 ((sp_nm (I a) n p).2))).1)], [.int (-1)])) (h' := (G, (vm_up I o 2 (nI (sp_ps (I a) n 44 ((sp_nm (I a) n (sp_ps (I a) n 44 ((sp_nm (I a) n p).2))).2)))), F)) (hs' := []) rfl rfl ?_
          exact vm_J.end vm_q51 (en := (23, .ireturn, 1, [], .null)) rfl (by rw [show sp_pc (I a) n p = ((-1), (sp_ps (I a) n 44 ((sp_nm (I a) n (sp_ps (I a) n 44 ((sp_nm (I a) n p).2))).2))) from ((if_pos c2).trans ((if_pos c4).trans ((if_pos c6).trans (if_neg c8))))]; rfl) vm_rI (Nat.zero_le _) (Nat.zero_le _) (by rw [show sp_pc (I a) n p = ((-1), (sp_ps (I a) n 44 ((sp_nm (I a) n (sp_ps (I a) n 44 ((sp_nm (I a) n p).2))).2))) from ((if_pos c2).trans ((if_pos c4).trans ((if_pos c6).trans (if_neg c8))))])
      · have c6 : ¬ (0 ≤ ((sp_nm (I a) n (sp_ps (I a) n 44 ((sp_nm (I a) n p).2))).1)) := of_decide_eq_false c6
        refine vm_J.go vm_q51 (k := 1) (hs := []) (f' := (34, (0, 0), [.ref o, .int ((0 * 64) + ((sp_nm (I a) n p).1)), .int 1, .int ((sp_nm (I a) n (sp_ps (I a) n 44 ((sp_nm (I a) n p).2))).1)], [.int (-1)])) (h' := (G, (vm_up I o 2 (nI (sp_nm (I a) n (sp_ps (I a) n 44 ((sp_nm (I a) n p).2))).2)), F)) (hs' := []) rfl rfl ?_
        exact vm_J.end vm_q51 (en := (34, .ireturn, 1, [], .null)) rfl (by rw [show sp_pc (I a) n p = ((-1), (sp_nm (I a) n (sp_ps (I a) n 44 ((sp_nm (I a) n p).2))).2) from ((if_pos c2).trans ((if_pos c4).trans (if_neg c6)))]; rfl) vm_rI (Nat.zero_le _) (Nat.zero_le _) (by rw [show sp_pc (I a) n p = ((-1), (sp_nm (I a) n (sp_ps (I a) n 44 ((sp_nm (I a) n p).2))).2) from ((if_pos c2).trans ((if_pos c4).trans (if_neg c6)))])
    · have c4 := vm_bi_ne_f c4
      refine vm_J.go vm_q51 (k := 1) (hs := []) (f' := (23, (0, 0), [.ref o, .int ((0 * 64) + ((sp_nm (I a) n p).1)), .int 1, .int ((sp_nm (I a) n p).1)], [.int (-1)])) (h' := (G, (vm_up I o 2 (nI (sp_ps (I a) n 44 ((sp_nm (I a) n p).2)))), F)) (hs' := []) rfl rfl ?_
      exact vm_J.end vm_q51 (en := (23, .ireturn, 1, [], .null)) rfl (by rw [show sp_pc (I a) n p = ((-1), (sp_ps (I a) n 44 ((sp_nm (I a) n p).2))) from ((if_pos c2).trans (if_neg c4))]; rfl) vm_rI (Nat.zero_le _) (Nat.zero_le _) (by rw [show sp_pc (I a) n p = ((-1), (sp_ps (I a) n 44 ((sp_nm (I a) n p).2))) from ((if_pos c2).trans (if_neg c4))])
  · have c2 : ¬ (0 ≤ ((sp_nm (I a) n p).1)) := of_decide_eq_false c2
    refine vm_J.go vm_q51 (k := 1) (hs := []) (f' := (34, (0, 0), [.ref o, .int 0, .int 0, .int ((sp_nm (I a) n p).1)], [.int (-1)])) (h' := (G, (vm_up I o 2 (nI (sp_nm (I a) n p).2)), F)) (hs' := []) rfl rfl ?_
    exact vm_J.end vm_q51 (en := (34, .ireturn, 1, [], .null)) rfl (by rw [show sp_pc (I a) n p = ((-1), (sp_nm (I a) n p).2) from (if_neg c2)]; rfl) vm_rI (Nat.zero_le _) (Nat.zero_le _) (by rw [show sp_pc (I a) n p = ((-1), (sp_nm (I a) n p).2) from (if_neg c2)])
