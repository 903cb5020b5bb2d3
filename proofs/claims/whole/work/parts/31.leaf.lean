theorem vm_rI {v : Int32} : vm_rt .ireturn (some .int) (some (.int v)) := Or.inl rfl
theorem vm_rZ0 : vm_rt .ireturn (some .boolean) (some (.int 0)) := Or.inr ⟨rfl, Or.inl rfl⟩
theorem vm_rZ1 : vm_rt .ireturn (some .boolean) (some (.int 1)) := Or.inr ⟨rfl, Or.inr rfl⟩
theorem vm_rZ {v : Int32} (h : v = 0 ∨ v = 1) : vm_rt .ireturn (some .boolean) (some (.int v)) := Or.inr ⟨rfl, h⟩
theorem vm_rL {v : Int64} : vm_rt .lreturn (some .long) (some (.long v)) := rfl
theorem vm_rF {v : UInt32} : vm_rt .freturn (some .float) (some (.float v)) := rfl
theorem vm_rV : vm_rt .return_ none none := rfl
theorem vm_rA {n : String} {a : Nat} : vm_rt .areturn (some (.object n)) (some (.ref a)) := Or.inl ⟨n, rfl⟩
theorem vm_rN {n : String} : vm_rt .areturn (some (.object n)) (some .null) := Or.inl ⟨n, rfl⟩
theorem vm_in_0 {i : Int32} {n : Nat} (h : vm_in i n = true) : ¬ i < 0 := fun q => of_decide_eq_true h (Or.inl q)
theorem vm_in_lt {i : Int32} {n : Nat} (h : vm_in i n = true) : i.toNatClampNeg < n := Nat.not_le.mp fun q => of_decide_eq_true h (Or.inr q)
theorem vm_cl_i {i : Int32} (h : ¬ i < 0) : i = nI i.toNatClampNeg := by
  have h1 : 0 ≤ i.toInt := by
    rw [Int32.lt_iff_toInt_lt, Int32.toInt_zero] at h
    omega
  have h2 : i.toNatClampNeg < 2147483648 := by
    have := i.toInt_lt
    unfold Int32.toNatClampNeg
    omega
  apply Int32.toInt_inj.mp
  rw [nI_toInt h2]
  unfold Int32.toNatClampNeg
  omega
theorem vm_in_ge {i : Int32} {n : Nat} (h : vm_in i n = true) (hn : n < 2147483648) : ¬ nI n ≤ i := by
  rw [vm_cl_i (vm_in_0 h)]
  have h2 := vm_in_lt h
  exact nI_ge h2 hn
theorem vm_in_of {i : Int32} {n : Nat} (h0 : ¬ i < 0) (h1 : ¬ nI n ≤ i) (hn : n < 2147483648) : vm_in i n = true := by
  refine decide_eq_true fun q => ?_
  rcases q with q | q
  · exact h0 q
  · refine h1 ?_
    rw [vm_cl_i h0]
    have h2 : i.toNatClampNeg < 2147483648 := by
      have := i.toInt_lt
      unfold Int32.toNatClampNeg
      omega
    exact nI_le q h2
/-- whether a number is within -/
def sp_wi (v a b : Int32) : Int32 := if a ≤ v ∧ v ≤ b then 1 else 0
theorem sp_wi_t {v a b : Int32} (h1 : a ≤ v) (h2 : v ≤ b) : sp_wi v a b = 1 := if_pos ⟨h1, h2⟩
theorem sp_wi_f1 {v a b : Int32} (h1 : ¬ a ≤ v) : sp_wi v a b = 0 := if_neg fun q => h1 q.1
theorem sp_wi_f2 {v a b : Int32} (h1 : ¬ v ≤ b) : sp_wi v a b = 0 := if_neg fun q => h1 q.2
theorem vm_lt_le {a b : Int32} (h : a < b) : ¬ b ≤ a := by
  rw [Int32.lt_iff_toInt_lt] at h
  rw [Int32.le_iff_toInt_le]
  omega
theorem vm_nlt_le {a b : Int32} (h : ¬ a < b) : b ≤ a := by
  rw [Int32.lt_iff_toInt_lt] at h
  rw [Int32.le_iff_toInt_le]
  omega
theorem sp_wi_01 {v a b : Int32} : sp_wi v a b = 0 ∨ sp_wi v a b = 1 := by
  unfold sp_wi
  split
  · exact Or.inr rfl
  · exact Or.inl rfl
set_option maxHeartbeats 4000000 in
set_option maxRecDepth 20000 in
/-- DitherDesk.isWithin  -/
theorem m_isWithin {l : Launch} {X : vm_Cx} {G : List vm_Sh} {I : Nat → Nat → Int32} {F : Nat → Nat → UInt32} {v a b : Int32} : vm_K l X vm_M151 [.int v, .int a, .int b] (G, I, F) (some (.int (sp_wi v a b))) (G, I, F) := by
  refine vm_K.mk rfl (Nat.le_of_ble_eq_true rfl) ?_
  show vm_J _ _ _ (0, (0, 0), [.int v, .int a, .int b], []) _ _ _
  refine vm_J.go vm_q151 (k := 3) (hs := []) (f' := (bif vm_ic .lt v a then 14 else 5, (0, 0), [.int v, .int a, .int b], [])) (h' := (G, I, F)) (hs' := []) rfl rfl ?_
  refine vm_J.br (fun c1 => ?_) (fun c1 => ?_)
  · have c1 : v < a := of_decide_eq_true c1
    refine vm_J.go vm_q151 (k := 1) (hs := []) (f' := (15, (0, 0), [.int v, .int a, .int b], [.int 0])) (h' := (G, I, F)) (hs' := []) rfl rfl ?_
    exact vm_J.end vm_q151 (en := _) rfl (by first | rw [sp_wi_t (vm_nlt_le c1) (vm_nlt_le c2)]; rfl | rw [sp_wi_f1 (vm_lt_le c1)]; rfl | rw [sp_wi_f2 (vm_lt_le c2)]; rfl) (vm_rZ sp_wi_01) (Nat.zero_le _) (Nat.zero_le _) rfl
  · have c1 : ¬ (v < a) := of_decide_eq_false c1
    refine vm_J.go vm_q151 (k := 3) (hs := []) (f' := (bif vm_ic .gt v b then 14 else 10, (0, 0), [.int v, .int a, .int b], [])) (h' := (G, I, F)) (hs' := []) rfl rfl ?_
    refine vm_J.br (fun c2 => ?_) (fun c2 => ?_)
    · have c2 : b < v := of_decide_eq_true c2
      refine vm_J.go vm_q151 (k := 1) (hs := []) (f' := (15, (0, 0), [.int v, .int a, .int b], [.int 0])) (h' := (G, I, F)) (hs' := []) rfl rfl ?_
      exact vm_J.end vm_q151 (en := _) rfl (by first | rw [sp_wi_t (vm_nlt_le c1) (vm_nlt_le c2)]; rfl | rw [sp_wi_f1 (vm_lt_le c1)]; rfl | rw [sp_wi_f2 (vm_lt_le c2)]; rfl) (vm_rZ sp_wi_01) (Nat.zero_le _) (Nat.zero_le _) rfl
    · have c2 : ¬ (b < v) := of_decide_eq_false c2
      refine vm_J.go vm_q151 (k := 2) (hs := []) (f' := (15, (0, 0), [.int v, .int a, .int b], [.int 1])) (h' := (G, I, F)) (hs' := []) rfl rfl ?_
      exact vm_J.end vm_q151 (en := _) rfl (by first | rw [sp_wi_t (vm_nlt_le c1) (vm_nlt_le c2)]; rfl | rw [sp_wi_f1 (vm_lt_le c1)]; rfl | rw [sp_wi_f2 (vm_lt_le c2)]; rfl) (vm_rZ sp_wi_01) (Nat.zero_le _) (Nat.zero_le _) rfl
set_option maxHeartbeats 4000000 in
set_option maxRecDepth 20000 in
/-- DitherDesk.at  -/
theorem m_at {l : Launch} {X : vm_Cx} {G : List vm_Sh} {I : Nat → Nat → Int32} {F : Nat → Nat → UInt32} {a n : Nat} {i : Int32} (ha : G[a]? = some (0, n, [])) (hn : n < 2147483648) (hi : vm_in i n = true) : vm_K l X vm_M152 [.ref a, .int i] (G, I, F) (some (.int (I a i.toNatClampNeg))) (G, I, F) := by
  refine vm_K.mk rfl (Nat.le_of_ble_eq_true rfl) ?_
  show vm_J _ _ _ (0, (0, 0), [.ref a, .int i], []) _ _ _
  refine vm_J.go vm_q152 (k := 2) (hs := []) (f' := (bif vm_ic .lt i 0 then 16 else 4, (0, 0), [.ref a, .int i], [])) (h' := (G, I, F)) (hs' := []) rfl rfl ?_
  refine vm_J.br (fun c1 => ?_) (fun c1 => ?_)
  · have c1 : i < 0 := of_decide_eq_true c1
    exact absurd c1 (vm_in_0 hi)
  · have c1 : ¬ (i < 0) := of_decide_eq_false c1
    refine vm_J.go vm_q152 (k := 4) (hs := [(0, n, [])]) (f' := (bif vm_ic .ge i (nI n) then 16 else 10, (0, 0), [.ref a, .int i], [])) (h' := (G, I, F)) (hs' := []) rfl (vm_b2 rfl (vm_b2 rfl (vm_b2 (vm_hG ha) (vm_b2 rfl rfl)))) ?_
    refine vm_J.br (fun c2 => ?_) (fun c2 => ?_)
    · have c2 : (nI n) ≤ i := of_decide_eq_true c2
      exact absurd c2 (vm_in_ge hi hn)
    · have c2 : ¬ ((nI n) ≤ i) := of_decide_eq_false c2
      refine vm_J.go vm_q152 (k := 4) (hs := [(0, n, [])]) (f' := (17, (0, 0), [.ref a, .int i], [.int (I a i.toNatClampNeg)])) (h' := (G, I, F)) (hs' := []) rfl (vm_b2 rfl (vm_b2 rfl (vm_b2 (vm_b2 (vm_hG ha) hi) (vm_b2 rfl rfl)))) ?_
      exact vm_J.end vm_q152 (en := _) rfl rfl vm_rI (Nat.zero_le _) (Nat.zero_le _) rfl
set_option maxHeartbeats 4000000 in
set_option maxRecDepth 20000 in
/-- DitherDesk.put  -/
theorem m_put {l : Launch} {X : vm_Cx} {G : List vm_Sh} {I : Nat → Nat → Int32} {F : Nat → Nat → UInt32} {a n : Nat} {i v : Int32} (ha : G[a]? = some (0, n, [])) (hn : n < 2147483648) (hi : vm_in i n = true) : vm_K l X vm_M153 [.ref a, .int i, .int v] (G, I, F) (none) (G, (vm_up I a i.toNatClampNeg v), F) := by
  refine vm_K.mk rfl (Nat.le_of_ble_eq_true rfl) ?_
  show vm_J _ _ _ (0, (0, 0), [.ref a, .int i, .int v], []) _ _ _
  refine vm_J.go vm_q153 (k := 2) (hs := []) (f' := (bif vm_ic .lt i 0 then 14 else 4, (0, 0), [.ref a, .int i, .int v], [])) (h' := (G, I, F)) (hs' := []) rfl rfl ?_
  refine vm_J.br (fun c1 => ?_) (fun c1 => ?_)
  · have c1 : i < 0 := of_decide_eq_true c1
    exact absurd c1 (vm_in_0 hi)
  · have c1 : ¬ (i < 0) := of_decide_eq_false c1
    refine vm_J.go vm_q153 (k := 4) (hs := [(0, n, [])]) (f' := (bif vm_ic .ge i (nI n) then 14 else 10, (0, 0), [.ref a, .int i, .int v], [])) (h' := (G, I, F)) (hs' := []) rfl (vm_b2 rfl (vm_b2 rfl (vm_b2 (vm_hG ha) (vm_b2 rfl rfl)))) ?_
    refine vm_J.br (fun c2 => ?_) (fun c2 => ?_)
    · have c2 : (nI n) ≤ i := of_decide_eq_true c2
      exact absurd c2 (vm_in_ge hi hn)
    · have c2 : ¬ ((nI n) ≤ i) := of_decide_eq_false c2
      refine vm_J.go vm_q153 (k := 4) (hs := [(0, n, [])]) (f' := (14, (0, 0), [.ref a, .int i, .int v], [])) (h' := (G, (vm_up I a i.toNatClampNeg v), F)) (hs' := []) rfl (vm_b2 rfl (vm_b2 rfl (vm_b2 rfl (vm_b2 (vm_b2 (vm_hG ha) hi) rfl)))) ?_
      exact vm_J.end vm_q153 (en := _) rfl rfl vm_rV (Nat.zero_le _) (Nat.zero_le _) rfl
set_option maxHeartbeats 4000000 in
set_option maxRecDepth 20000 in
/-- DitherDesk.floatAt  -/
theorem m_floatAt {l : Launch} {X : vm_Cx} {G : List vm_Sh} {I : Nat → Nat → Int32} {F : Nat → Nat → UInt32} {a n : Nat} {i : Int32} (ha : G[a]? = some (1, n, [])) (hn : n < 2147483648) (hi : vm_in i n = true) : vm_K l X vm_M154 [.ref a, .int i] (G, I, F) (some (.float (F a i.toNatClampNeg))) (G, I, F) := by
  refine vm_K.mk rfl (Nat.le_of_ble_eq_true rfl) ?_
  show vm_J _ _ _ (0, (0, 0), [.ref a, .int i], []) _ _ _
  refine vm_J.go vm_q154 (k := 2) (hs := []) (f' := (bif vm_ic .lt i 0 then 16 else 4, (0, 0), [.ref a, .int i], [])) (h' := (G, I, F)) (hs' := []) rfl rfl ?_
  refine vm_J.br (fun c1 => ?_) (fun c1 => ?_)
  · have c1 : i < 0 := of_decide_eq_true c1
    exact absurd c1 (vm_in_0 hi)
  · have c1 : ¬ (i < 0) := of_decide_eq_false c1
    refine vm_J.go vm_q154 (k := 4) (hs := [(1, n, [])]) (f' := (bif vm_ic .ge i (nI n) then 16 else 10, (0, 0), [.ref a, .int i], [])) (h' := (G, I, F)) (hs' := []) rfl (vm_b2 rfl (vm_b2 rfl (vm_b2 (vm_hG ha) (vm_b2 rfl rfl)))) ?_
    refine vm_J.br (fun c2 => ?_) (fun c2 => ?_)
    · have c2 : (nI n) ≤ i := of_decide_eq_true c2
      exact absurd c2 (vm_in_ge hi hn)
    · have c2 : ¬ ((nI n) ≤ i) := of_decide_eq_false c2
      refine vm_J.go vm_q154 (k := 4) (hs := [(1, n, [])]) (f' := (17, (0, 0), [.ref a, .int i], [.float (F a i.toNatClampNeg)])) (h' := (G, I, F)) (hs' := []) rfl (vm_b2 rfl (vm_b2 rfl (vm_b2 (vm_b2 (vm_hG ha) hi) (vm_b2 rfl rfl)))) ?_
      exact vm_J.end vm_q154 (en := _) rfl rfl vm_rF (Nat.zero_le _) (Nat.zero_le _) rfl
set_option maxHeartbeats 4000000 in
set_option maxRecDepth 20000 in
/-- DitherDesk.putFloat  -/
theorem m_putFloat {l : Launch} {X : vm_Cx} {G : List vm_Sh} {I : Nat → Nat → Int32} {F : Nat → Nat → UInt32} {a n : Nat} {i : Int32} {v : UInt32} (ha : G[a]? = some (1, n, [])) (hn : n < 2147483648) (hi : vm_in i n = true) : vm_K l X vm_M155 [.ref a, .int i, .float v] (G, I, F) (none) (G, I, (vm_up F a i.toNatClampNeg v)) := by
  refine vm_K.mk rfl (Nat.le_of_ble_eq_true rfl) ?_
  show vm_J _ _ _ (0, (0, 0), [.ref a, .int i, .float v], []) _ _ _
  refine vm_J.go vm_q155 (k := 2) (hs := []) (f' := (bif vm_ic .lt i 0 then 14 else 4, (0, 0), [.ref a, .int i, .float v], [])) (h' := (G, I, F)) (hs' := []) rfl rfl ?_
  refine vm_J.br (fun c1 => ?_) (fun c1 => ?_)
  · have c1 : i < 0 := of_decide_eq_true c1
    exact absurd c1 (vm_in_0 hi)
  · have c1 : ¬ (i < 0) := of_decide_eq_false c1
    refine vm_J.go vm_q155 (k := 4) (hs := [(1, n, [])]) (f' := (bif vm_ic .ge i (nI n) then 14 else 10, (0, 0), [.ref a, .int i, .float v], [])) (h' := (G, I, F)) (hs' := []) rfl (vm_b2 rfl (vm_b2 rfl (vm_b2 (vm_hG ha) (vm_b2 rfl rfl)))) ?_
    refine vm_J.br (fun c2 => ?_) (fun c2 => ?_)
    · have c2 : (nI n) ≤ i := of_decide_eq_true c2
      exact absurd c2 (vm_in_ge hi hn)
    · have c2 : ¬ ((nI n) ≤ i) := of_decide_eq_false c2
      refine vm_J.go vm_q155 (k := 4) (hs := [(1, n, [])]) (f' := (14, (0, 0), [.ref a, .int i, .float v], [])) (h' := (G, I, (vm_up F a i.toNatClampNeg v))) (hs' := []) rfl (vm_b2 rfl (vm_b2 rfl (vm_b2 rfl (vm_b2 (vm_b2 (vm_hG ha) hi) rfl)))) ?_
      exact vm_J.end vm_q155 (en := _) rfl rfl vm_rV (Nat.zero_le _) (Nat.zero_le _) rfl
/-- a row's first n from another row -/
def vm_cp {α : Type} (I : Nat → Nat → α) (s d n : Nat) : Nat → Nat → α := fun a b => if a = d then (if b < n then I s b else I d b) else I a b
/-- a row's first n all one -/
def vm_zc {α : Type} (z : α) (I : Nat → Nat → α) (d n : Nat) : Nat → Nat → α := fun a b => if a = d then (if b < n then z else I d b) else I a b
theorem vm_cp_0 {α : Type} (I : Nat → Nat → α) (s d : Nat) : I = vm_cp I s d 0 := by
  funext a b
  unfold vm_cp
  by_cases h : a = d
  · simp [h]
  · simp [h]
theorem vm_zc_0 {α : Type} (z : α) (I : Nat → Nat → α) (d : Nat) : I = vm_zc z I d 0 := by
  funext a b
  unfold vm_zc
  by_cases h : a = d
  · simp [h]
  · simp [h]
theorem vm_zc_s {α : Type} (z : α) (I : Nat → Nat → α) (d j : Nat) : vm_up (vm_zc z I d j) d j z = vm_zc z I d (j + 1) := by
  funext a b
  unfold vm_zc vm_up
  by_cases h : a = d
  · subst h
    simp only [if_true]
    by_cases h1 : b = j
    · simp [h1]
    · by_cases h2 : b < j
      · simp [h1, h2, Nat.lt_succ_of_lt h2]
      · simp [h1, h2, show ¬ b < j + 1 by omega]
  · simp [h]
theorem vm_cp_r {α : Type} (I : Nat → Nat → α) (s d j k : Nat) (h : s ≠ d) : vm_cp I s d j s k = I s k := by
  unfold vm_cp
  rw [if_neg h]
theorem vm_cp_s {α : Type} (I : Nat → Nat → α) (s d j : Nat) (_ : s ≠ d) : vm_up (vm_cp I s d j) d j (I s j) = vm_cp I s d (j + 1) := by
  funext a b
  unfold vm_cp vm_up
  by_cases h : a = d
  · subst h
    simp only [if_true]
    by_cases h1 : b = j
    · simp [h1]
    · by_cases h2 : b < j
      · simp [h1, h2, Nat.lt_succ_of_lt h2]
      · simp [h1, h2, show ¬ b < j + 1 by omega]
  · simp [h]
set_option maxHeartbeats 4000000 in
set_option maxRecDepth 20000 in
/-- DitherDesk.zeroInts  -/
theorem m_zeroInts {l : Launch} {X : vm_Cx} {G : List vm_Sh} {I : Nat → Nat → Int32} {F : Nat → Nat → UInt32} {a n : Nat} (ha : G[a]? = some (0, n, [])) (hn : n < 2147483648) : vm_K l X vm_M157 [.ref a] (G, I, F) (none) (G, (vm_zc 0 I a n), F) := by
  refine vm_K.mk rfl (Nat.le_of_ble_eq_true rfl) ?_
  show vm_J _ _ _ (0, (0, 0), [.ref a, .retAddr 0], []) _ _ _
  refine vm_J.go vm_q157 (k := 2) (hs := []) (f' := (2, (0, 0), [.ref a, .int 0], [])) (h' := (G, I, F)) (hs' := []) rfl rfl ?_
  refine vm_J.cnt n (fun j => (2, (0, 0), [.ref a, .int (nI j)], [])) (fun j => (G, (vm_zc 0 I a j), F)) (fun _ => True) rfl (by rw [← vm_zc_0]) trivial (fun j hj pj ij => ?_) (fun pj => ?_)
  · show vm_J _ _ _ (2, (0, 0), [.ref a, .int (nI j)], []) (G, (vm_zc 0 I a j), F) _ _
    refine vm_J.go vm_q157 (k := 4) (hs := [(0, n, [])]) (f' := (bif vm_ic .ge (nI j) (nI n) then 18 else 8, (0, 0), [.ref a, .int (nI j)], [])) (h' := (G, (vm_zc 0 I a j), F)) (hs' := []) rfl (vm_b2 rfl (vm_b2 rfl (vm_b2 (vm_hG ha) (vm_b2 rfl rfl)))) ?_
    refine vm_J.br (fun c1 => ?_) (fun c1 => ?_)
    · have c1 := vm_ge_t (a := j) (b := n) (by omega) (by omega) c1
      exact (show False by omega).elim
    · have c1 := vm_ge_f (a := j) (b := n) (by omega) (by omega) c1
      refine vm_J.go vm_q157 (k := 6) (hs := [(0, n, [])]) (f' := (2, (0, 0), [.ref a, .int ((nI j) + 1)], [])) (h' := (G, (vm_up (vm_zc 0 I a j) a ((nI j).toNatClampNeg) 0), F)) (hs' := []) rfl (vm_b2 rfl (vm_b2 rfl (vm_b2 rfl (vm_b2 (vm_b2 (vm_hG ha) (vm_in_e (j := j) (n := n) rfl (by omega) (by omega))) (vm_b2 rfl (vm_b2 rfl rfl)))))) ?_
      rw [vm_ix_e (j := j) rfl (by omega), ((vm_pa (rfl : nI j = nI j) (rfl : (1 : Int32) = nI 1)) : (nI j) + 1 = nI (j + 1))]
      rw [vm_zc_s]
      exact ij trivial
  · show vm_J _ _ _ (2, (0, 0), [.ref a, .int (nI n)], []) (G, (vm_zc 0 I a n), F) _ _
    refine vm_J.go vm_q157 (k := 4) (hs := [(0, n, [])]) (f' := (bif vm_ic .ge (nI n) (nI n) then 18 else 8, (0, 0), [.ref a, .int (nI n)], [])) (h' := (G, (vm_zc 0 I a n), F)) (hs' := []) rfl (vm_b2 rfl (vm_b2 rfl (vm_b2 (vm_hG ha) (vm_b2 rfl rfl)))) ?_
    refine vm_J.br (fun c2 => ?_) (fun c2 => ?_)
    · have c2 := vm_ge_t (a := n) (b := n) (by omega) (by omega) c2
      exact vm_J.end vm_q157 (en := _) rfl rfl vm_rV (Nat.zero_le _) (Nat.zero_le _) rfl
    · have c2 := vm_ge_f (a := n) (b := n) (by omega) (by omega) c2
      exact (show False by omega).elim
set_option maxHeartbeats 4000000 in
set_option maxRecDepth 20000 in
/-- DitherDesk.zeroFloats  -/
theorem m_zeroFloats {l : Launch} {X : vm_Cx} {G : List vm_Sh} {I : Nat → Nat → Int32} {F : Nat → Nat → UInt32} {a n : Nat} (ha : G[a]? = some (1, n, [])) (hn : n < 2147483648) : vm_K l X vm_M159 [.ref a] (G, I, F) (none) (G, I, (vm_zc 0x00000000 F a n)) := by
  refine vm_K.mk rfl (Nat.le_of_ble_eq_true rfl) ?_
  show vm_J _ _ _ (0, (0, 0), [.ref a, .retAddr 0], []) _ _ _
  refine vm_J.go vm_q159 (k := 2) (hs := []) (f' := (2, (0, 0), [.ref a, .int 0], [])) (h' := (G, I, F)) (hs' := []) rfl rfl ?_
  refine vm_J.cnt n (fun j => (2, (0, 0), [.ref a, .int (nI j)], [])) (fun j => (G, I, (vm_zc 0x00000000 F a j))) (fun _ => True) rfl (by rw [← vm_zc_0]) trivial (fun j hj pj ij => ?_) (fun pj => ?_)
  · show vm_J _ _ _ (2, (0, 0), [.ref a, .int (nI j)], []) (G, I, (vm_zc 0x00000000 F a j)) _ _
    refine vm_J.go vm_q159 (k := 4) (hs := [(1, n, [])]) (f' := (bif vm_ic .ge (nI j) (nI n) then 18 else 8, (0, 0), [.ref a, .int (nI j)], [])) (h' := (G, I, (vm_zc 0x00000000 F a j))) (hs' := []) rfl (vm_b2 rfl (vm_b2 rfl (vm_b2 (vm_hG ha) (vm_b2 rfl rfl)))) ?_
    refine vm_J.br (fun c1 => ?_) (fun c1 => ?_)
    · have c1 := vm_ge_t (a := j) (b := n) (by omega) (by omega) c1
      exact (show False by omega).elim
    · have c1 := vm_ge_f (a := j) (b := n) (by omega) (by omega) c1
      refine vm_J.go vm_q159 (k := 6) (hs := [(1, n, [])]) (f' := (2, (0, 0), [.ref a, .int ((nI j) + 1)], [])) (h' := (G, I, (vm_up (vm_zc 0x00000000 F a j) a ((nI j).toNatClampNeg) 0x00000000))) (hs' := []) rfl (vm_b2 rfl (vm_b2 rfl (vm_b2 rfl (vm_b2 (vm_b2 (vm_hG ha) (vm_in_e (j := j) (n := n) rfl (by omega) (by omega))) (vm_b2 rfl (vm_b2 rfl rfl)))))) ?_
      rw [vm_ix_e (j := j) rfl (by omega), ((vm_pa (rfl : nI j = nI j) (rfl : (1 : Int32) = nI 1)) : (nI j) + 1 = nI (j + 1))]
      rw [vm_zc_s]
      exact ij trivial
  · show vm_J _ _ _ (2, (0, 0), [.ref a, .int (nI n)], []) (G, I, (vm_zc 0x00000000 F a n)) _ _
    refine vm_J.go vm_q159 (k := 4) (hs := [(1, n, [])]) (f' := (bif vm_ic .ge (nI n) (nI n) then 18 else 8, (0, 0), [.ref a, .int (nI n)], [])) (h' := (G, I, (vm_zc 0x00000000 F a n))) (hs' := []) rfl (vm_b2 rfl (vm_b2 rfl (vm_b2 (vm_hG ha) (vm_b2 rfl rfl)))) ?_
    refine vm_J.br (fun c2 => ?_) (fun c2 => ?_)
    · have c2 := vm_ge_t (a := n) (b := n) (by omega) (by omega) c2
      exact vm_J.end vm_q159 (en := _) rfl rfl vm_rV (Nat.zero_le _) (Nat.zero_le _) rfl
    · have c2 := vm_ge_f (a := n) (b := n) (by omega) (by omega) c2
      exact (show False by omega).elim
set_option maxHeartbeats 4000000 in
set_option maxRecDepth 20000 in
/-- DitherDesk.copyInts  -/
theorem m_copyInts {l : Launch} {X : vm_Cx} {G : List vm_Sh} {I : Nat → Nat → Int32} {F : Nat → Nat → UInt32} {a b n : Nat} (ha : G[a]? = some (0, n, [])) (hb : G[b]? = some (0, n, [])) (hab : a ≠ b) (hn : n < 2147483648) : vm_K l X vm_M156 [.ref a, .ref b] (G, I, F) (none) (G, (vm_cp I a b n), F) := by
  refine vm_K.mk rfl (Nat.le_of_ble_eq_true rfl) ?_
  show vm_J _ _ _ (0, (0, 0), [.ref a, .ref b, .retAddr 0], []) _ _ _
  refine vm_J.go vm_q156 (k := 2) (hs := []) (f' := (2, (0, 0), [.ref a, .ref b, .int 0], [])) (h' := (G, I, F)) (hs' := []) rfl rfl ?_
  refine vm_J.cnt n (fun j => (2, (0, 0), [.ref a, .ref b, .int (nI j)], [])) (fun j => (G, (vm_cp I a b j), F)) (fun _ => True) rfl (by rw [← vm_cp_0]) trivial (fun j hj pj ij => ?_) (fun pj => ?_)
  · show vm_J _ _ _ (2, (0, 0), [.ref a, .ref b, .int (nI j)], []) (G, (vm_cp I a b j), F) _ _
    refine vm_J.go vm_q156 (k := 4) (hs := [(0, n, [])]) (f' := (bif vm_ic .ge (nI j) (nI n) then 26 else 8, (0, 0), [.ref a, .ref b, .int (nI j)], [])) (h' := (G, (vm_cp I a b j), F)) (hs' := []) rfl (vm_b2 rfl (vm_b2 rfl (vm_b2 (vm_hG ha) (vm_b2 rfl rfl)))) ?_
    refine vm_J.br (fun c1 => ?_) (fun c1 => ?_)
    · have c1 := vm_ge_t (a := j) (b := n) (by omega) (by omega) c1
      exact (show False by omega).elim
    · have c1 := vm_ge_f (a := j) (b := n) (by omega) (by omega) c1
      refine vm_J.go vm_q156 (k := 4) (hs := [(0, n, [])]) (f' := (bif vm_ic .ge (nI j) (nI n) then 26 else 14, (0, 0), [.ref a, .ref b, .int (nI j)], [])) (h' := (G, (vm_cp I a b j), F)) (hs' := []) rfl (vm_b2 rfl (vm_b2 rfl (vm_b2 (vm_hG hb) (vm_b2 rfl rfl)))) ?_
      refine vm_J.br (fun c2 => ?_) (fun c2 => ?_)
      · have c2 := vm_ge_t (a := j) (b := n) (by omega) (by omega) c2
        exact (show False by omega).elim
      · have c2 := vm_ge_f (a := j) (b := n) (by omega) (by omega) c2
        refine vm_J.go vm_q156 (k := 8) (hs := [(0, n, []), (0, n, [])]) (f' := (2, (0, 0), [.ref a, .ref b, .int ((nI j) + 1)], [])) (h' := (G, (vm_up (vm_cp I a b j) b ((nI j).toNatClampNeg) ((vm_cp I a b j) a (nI j).toNatClampNeg)), F)) (hs' := []) rfl (vm_b2 rfl (vm_b2 rfl (vm_b2 rfl (vm_b2 rfl (vm_b2 (vm_b2 (vm_hG ha) (vm_in_e (j := j) (n := n) rfl (by omega) (by omega))) (vm_b2 (vm_b2 (vm_hG hb) (vm_in_e (j := j) (n := n) rfl (by omega) (by omega))) (vm_b2 rfl (vm_b2 rfl rfl)))))))) ?_
        rw [vm_ix_e (j := j) rfl (by omega), ((vm_pa (rfl : nI j = nI j) (rfl : (1 : Int32) = nI 1)) : (nI j) + 1 = nI (j + 1))]
        rw [vm_cp_r _ _ _ _ _ hab, vm_cp_s _ _ _ _ hab]
        exact ij trivial
  · show vm_J _ _ _ (2, (0, 0), [.ref a, .ref b, .int (nI n)], []) (G, (vm_cp I a b n), F) _ _
    refine vm_J.go vm_q156 (k := 4) (hs := [(0, n, [])]) (f' := (bif vm_ic .ge (nI n) (nI n) then 26 else 8, (0, 0), [.ref a, .ref b, .int (nI n)], [])) (h' := (G, (vm_cp I a b n), F)) (hs' := []) rfl (vm_b2 rfl (vm_b2 rfl (vm_b2 (vm_hG ha) (vm_b2 rfl rfl)))) ?_
    refine vm_J.br (fun c3 => ?_) (fun c3 => ?_)
    · have c3 := vm_ge_t (a := n) (b := n) (by omega) (by omega) c3
      exact vm_J.end vm_q156 (en := _) rfl rfl vm_rV (Nat.zero_le _) (Nat.zero_le _) rfl
    · have c3 := vm_ge_f (a := n) (b := n) (by omega) (by omega) c3
      exact (show False by omega).elim
set_option maxHeartbeats 4000000 in
set_option maxRecDepth 20000 in
/-- DitherDesk.copyFloats  -/
theorem m_copyFloats {l : Launch} {X : vm_Cx} {G : List vm_Sh} {I : Nat → Nat → Int32} {F : Nat → Nat → UInt32} {a b n : Nat} (ha : G[a]? = some (1, n, [])) (hb : G[b]? = some (1, n, [])) (hab : a ≠ b) (hn : n < 2147483648) : vm_K l X vm_M158 [.ref a, .ref b] (G, I, F) (none) (G, I, (vm_cp F a b n)) := by
  refine vm_K.mk rfl (Nat.le_of_ble_eq_true rfl) ?_
  show vm_J _ _ _ (0, (0, 0), [.ref a, .ref b, .retAddr 0], []) _ _ _
  refine vm_J.go vm_q158 (k := 2) (hs := []) (f' := (2, (0, 0), [.ref a, .ref b, .int 0], [])) (h' := (G, I, F)) (hs' := []) rfl rfl ?_
  refine vm_J.cnt n (fun j => (2, (0, 0), [.ref a, .ref b, .int (nI j)], [])) (fun j => (G, I, (vm_cp F a b j))) (fun _ => True) rfl (by rw [← vm_cp_0]) trivial (fun j hj pj ij => ?_) (fun pj => ?_)
  · show vm_J _ _ _ (2, (0, 0), [.ref a, .ref b, .int (nI j)], []) (G, I, (vm_cp F a b j)) _ _
    refine vm_J.go vm_q158 (k := 4) (hs := [(1, n, [])]) (f' := (bif vm_ic .ge (nI j) (nI n) then 26 else 8, (0, 0), [.ref a, .ref b, .int (nI j)], [])) (h' := (G, I, (vm_cp F a b j))) (hs' := []) rfl (vm_b2 rfl (vm_b2 rfl (vm_b2 (vm_hG ha) (vm_b2 rfl rfl)))) ?_
    refine vm_J.br (fun c1 => ?_) (fun c1 => ?_)
    · have c1 := vm_ge_t (a := j) (b := n) (by omega) (by omega) c1
      exact (show False by omega).elim
    · have c1 := vm_ge_f (a := j) (b := n) (by omega) (by omega) c1
      refine vm_J.go vm_q158 (k := 4) (hs := [(1, n, [])]) (f' := (bif vm_ic .ge (nI j) (nI n) then 26 else 14, (0, 0), [.ref a, .ref b, .int (nI j)], [])) (h' := (G, I, (vm_cp F a b j))) (hs' := []) rfl (vm_b2 rfl (vm_b2 rfl (vm_b2 (vm_hG hb) (vm_b2 rfl rfl)))) ?_
      refine vm_J.br (fun c2 => ?_) (fun c2 => ?_)
      · have c2 := vm_ge_t (a := j) (b := n) (by omega) (by omega) c2
        exact (show False by omega).elim
      · have c2 := vm_ge_f (a := j) (b := n) (by omega) (by omega) c2
        refine vm_J.go vm_q158 (k := 8) (hs := [(1, n, []), (1, n, [])]) (f' := (2, (0, 0), [.ref a, .ref b, .int ((nI j) + 1)], [])) (h' := (G, I, (vm_up (vm_cp F a b j) b ((nI j).toNatClampNeg) ((vm_cp F a b j) a (nI j).toNatClampNeg)))) (hs' := []) rfl (vm_b2 rfl (vm_b2 rfl (vm_b2 rfl (vm_b2 rfl (vm_b2 (vm_b2 (vm_hG ha) (vm_in_e (j := j) (n := n) rfl (by omega) (by omega))) (vm_b2 (vm_b2 (vm_hG hb) (vm_in_e (j := j) (n := n) rfl (by omega) (by omega))) (vm_b2 rfl (vm_b2 rfl rfl)))))))) ?_
        rw [vm_ix_e (j := j) rfl (by omega), ((vm_pa (rfl : nI j = nI j) (rfl : (1 : Int32) = nI 1)) : (nI j) + 1 = nI (j + 1))]
        rw [vm_cp_r _ _ _ _ _ hab, vm_cp_s _ _ _ _ hab]
        exact ij trivial
  · show vm_J _ _ _ (2, (0, 0), [.ref a, .ref b, .int (nI n)], []) (G, I, (vm_cp F a b n)) _ _
    refine vm_J.go vm_q158 (k := 4) (hs := [(1, n, [])]) (f' := (bif vm_ic .ge (nI n) (nI n) then 26 else 8, (0, 0), [.ref a, .ref b, .int (nI n)], [])) (h' := (G, I, (vm_cp F a b n))) (hs' := []) rfl (vm_b2 rfl (vm_b2 rfl (vm_b2 (vm_hG ha) (vm_b2 rfl rfl)))) ?_
    refine vm_J.br (fun c3 => ?_) (fun c3 => ?_)
    · have c3 := vm_ge_t (a := n) (b := n) (by omega) (by omega) c3
      exact vm_J.end vm_q158 (en := _) rfl rfl vm_rV (Nat.zero_le _) (Nat.zero_le _) rfl
    · have c3 := vm_ge_f (a := n) (b := n) (by omega) (by omega) c3
      exact (show False by omega).elim
