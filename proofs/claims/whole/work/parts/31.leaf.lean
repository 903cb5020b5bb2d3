theorem vm_rI {v : Int32} : vm_rt .ireturn (some .int) (some (.int v)) := Or.inl rfl
theorem vm_rZ0 : vm_rt .ireturn (some .boolean) (some (.int 0)) := Or.inr ⟨rfl, Or.inl rfl⟩
theorem vm_rZ1 : vm_rt .ireturn (some .boolean) (some (.int 1)) := Or.inr ⟨rfl, Or.inr rfl⟩
theorem vm_rZ {v : Int32} (h : v = 0 ∨ v = 1) : vm_rt .ireturn (some .boolean) (some (.int v)) := Or.inr ⟨rfl, h⟩
theorem vm_rL {v : Int64} : vm_rt .lreturn (some .long) (some (.long v)) := rfl
theorem vm_rF {v : UInt32} : vm_rt .freturn (some .float) (some (.float v)) := rfl
theorem vm_rV : vm_rt .return_ none none := rfl
theorem vm_rA {n : String} {a : Nat} : vm_rt .areturn (some (.object n)) (some (.ref a)) := Or.inl ⟨n, rfl⟩
theorem vm_rN {n : String} : vm_rt .areturn (some (.object n)) (some .null) := Or.inl ⟨n, rfl⟩
theorem vm_in_0 {i : Int32} {n : Nat} (h : vm_in i n = true) : ¬ i < 0 := fun q => of_decide_eq_true h (Or.inl q)
theorem vm_in_lt {i : Int32} {n : Nat} (h : vm_in i n = true) : i.toNatClampNeg < n := Nat.not_le.mp fun q => of_decide_eq_true h (Or.inr q)
theorem vm_cl_i {i : Int32} (h : ¬ i < 0) : i = nI i.toNatClampNeg := by
  have h1 : 0 ≤ i.toInt := by
    rw [Int32.lt_iff_toInt_lt, Int32.toInt_zero] at h
    omega
  have h2 : i.toNatClampNeg < 2147483648 := by
    have := i.toInt_lt
    unfold Int32.toNatClampNeg
    omega
  apply Int32.toInt_inj.mp
  rw [nI_toInt h2]
  unfold Int32.toNatClampNeg
  omega
theorem vm_in_ge {i : Int32} {n : Nat} (h : vm_in i n = true) (hn : n < 2147483648) : ¬ nI n ≤ i := by
  rw [vm_cl_i (vm_in_0 h)]
  have h2 := vm_in_lt h
  exact nI_ge h2 hn
theorem vm_in_of {i : Int32} {n : Nat} (h0 : ¬ i < 0) (h1 : ¬ nI n ≤ i) (hn : n < 2147483648) : vm_in i n = true := by
  refine decide_eq_true fun q => ?_
  rcases q with q | q
  · exact h0 q
  · refine h1 ?_
    rw [vm_cl_i h0]
    have h2 : i.toNatClampNeg < 2147483648 := by
      have := i.toInt_lt
      unfold Int32.toNatClampNeg
      omega
    exact nI_le q h2
/-- a truth as an int -/
def vm_bi (p : Prop) [Decidable p] : Int32 := if p then 1 else 0
theorem vm_bi_t {p : Prop} [Decidable p] (h : p) : vm_bi p = 1 := if_pos h
theorem vm_bi_f {p : Prop} [Decidable p] (h : ¬ p) : vm_bi p = 0 := if_neg h
theorem vm_bi_01 {p : Prop} [Decidable p] : vm_bi p = 0 ∨ vm_bi p = 1 := by
  by_cases h : p
  · exact Or.inr (vm_bi_t h)
  · exact Or.inl (vm_bi_f h)
theorem vm_bi_ne_t {p : Prop} [Decidable p] (h : vm_ic .ne (vm_bi p) 0 = true) : p := Decidable.byContradiction fun q => (of_decide_eq_true h) (vm_bi_f q)
theorem vm_bi_eq_f {p : Prop} [Decidable p] (h : vm_ic .eq (vm_bi p) 0 = false) : p := Decidable.byContradiction fun q => (of_decide_eq_false h) (vm_bi_f q)
theorem vm_bi_ne_f {p : Prop} [Decidable p] (h : vm_ic .ne (vm_bi p) 0 = false) : ¬ p := fun q => (of_decide_eq_false h) (fun e => by rw [vm_bi_t q] at e; exact absurd e (by decide))
theorem vm_bi_eq_t {p : Prop} [Decidable p] (h : vm_ic .eq (vm_bi p) 0 = true) : ¬ p := fun q => by
  have e : vm_bi p = 0 := of_decide_eq_true h
  rw [vm_bi_t q] at e
  exact absurd e (by decide)
theorem vm_lt_le {a b : Int32} (h : a < b) : ¬ b ≤ a := by
  rw [Int32.lt_iff_toInt_lt] at h
  rw [Int32.le_iff_toInt_le]
  omega
theorem vm_nlt_le {a b : Int32} (h : ¬ a < b) : b ≤ a := by
  rw [Int32.lt_iff_toInt_lt] at h
  rw [Int32.le_iff_toInt_le]
  omega
set_option maxHeartbeats 4000000 in
set_option maxRecDepth 20000 in
/-- DitherDesk.isWithin  -/
theorem m_isWithin {l : Launch} {X : vm_Cx} {G : List vm_Sh} {I : Nat → Nat → Int32} {F : Nat → Nat → UInt32} {v a b : Int32} : vm_K l X vm_M151 [.int v, .int a, .int b] (G, I, F) (some (.int (vm_bi (a ≤ v ∧ v ≤ b)))) (G, I, F) := by
  refine vm_K.mk (by decide) (Nat.le_of_ble_eq_true rfl) ?_
  show vm_J _ _ _ (0, (0, 0), [.int v, .int a, .int b], []) _ _ _
  refine vm_J.go vm_q151 (k := 3) (hs := []) (f' := (bif vm_ic .lt v a then 14 else 5, (0, 0), [.int v, .int a, .int b], [])) (h' := (G, I, F)) (hs' := []) rfl rfl ?_
  refine vm_J.br (fun c1 => ?_) (fun c1 => ?_)
  · have c1 : v < a := of_decide_eq_true c1
    refine vm_J.go vm_q151 (k := 1) (hs := []) (f' := (15, (0, 0), [.int v, .int a, .int b], [.int 0])) (h' := (G, I, F)) (hs' := []) rfl rfl ?_
    exact vm_J.end vm_q151 (en := (15, .ireturn, 1, [], .null)) rfl (by first | rw [vm_bi_t ⟨vm_nlt_le c1, vm_nlt_le c2⟩]; rfl | rw [vm_bi_f fun q => vm_lt_le c1 q.1]; rfl | rw [vm_bi_f fun q => vm_lt_le c2 q.2]; rfl) (vm_rZ vm_bi_01) (Nat.zero_le _) (Nat.zero_le _) rfl
  · have c1 : ¬ (v < a) := of_decide_eq_false c1
    refine vm_J.go vm_q151 (k := 3) (hs := []) (f' := (bif vm_ic .gt v b then 14 else 10, (0, 0), [.int v, .int a, .int b], [])) (h' := (G, I, F)) (hs' := []) rfl rfl ?_
    refine vm_J.br (fun c2 => ?_) (fun c2 => ?_)
    · have c2 : b < v := of_decide_eq_true c2
      refine vm_J.go vm_q151 (k := 1) (hs := []) (f' := (15, (0, 0), [.int v, .int a, .int b], [.int 0])) (h' := (G, I, F)) (hs' := []) rfl rfl ?_
      exact vm_J.end vm_q151 (en := (15, .ireturn, 1, [], .null)) rfl (by first | rw [vm_bi_t ⟨vm_nlt_le c1, vm_nlt_le c2⟩]; rfl | rw [vm_bi_f fun q => vm_lt_le c1 q.1]; rfl | rw [vm_bi_f fun q => vm_lt_le c2 q.2]; rfl) (vm_rZ vm_bi_01) (Nat.zero_le _) (Nat.zero_le _) rfl
    · have c2 : ¬ (b < v) := of_decide_eq_false c2
      refine vm_J.go vm_q151 (k := 2) (hs := []) (f' := (15, (0, 0), [.int v, .int a, .int b], [.int 1])) (h' := (G, I, F)) (hs' := []) rfl rfl ?_
      exact vm_J.end vm_q151 (en := (15, .ireturn, 1, [], .null)) rfl (by first | rw [vm_bi_t ⟨vm_nlt_le c1, vm_nlt_le c2⟩]; rfl | rw [vm_bi_f fun q => vm_lt_le c1 q.1]; rfl | rw [vm_bi_f fun q => vm_lt_le c2 q.2]; rfl) (vm_rZ vm_bi_01) (Nat.zero_le _) (Nat.zero_le _) rfl
set_option maxHeartbeats 4000000 in
set_option maxRecDepth 20000 in
/-- DitherDeskModel.isIn  -/
theorem r_isIn {l : Launch} {X : vm_Cx} {G : List vm_Sh} {I : Nat → Nat → Int32} {F : Nat → Nat → UInt32} {v a b : Int32} : vm_K l X vm_M168 [.int v, .int a, .int b] (G, I, F) (some (.int (vm_bi (a ≤ v ∧ v ≤ b)))) (G, I, F) := by
  refine vm_K.mk (by decide) (Nat.le_of_ble_eq_true rfl) ?_
  show vm_J _ _ _ (0, (0, 0), [.int v, .int a, .int b], []) _ _ _
  refine vm_J.go vm_q168 (k := 3) (hs := []) (f' := (bif vm_ic .lt v a then 14 else 5, (0, 0), [.int v, .int a, .int b], [])) (h' := (G, I, F)) (hs' := []) rfl rfl ?_
  refine vm_J.br (fun c1 => ?_) (fun c1 => ?_)
  · have c1 : v < a := of_decide_eq_true c1
    refine vm_J.go vm_q168 (k := 1) (hs := []) (f' := (15, (0, 0), [.int v, .int a, .int b], [.int 0])) (h' := (G, I, F)) (hs' := []) rfl rfl ?_
    exact vm_J.end vm_q168 (en := (15, .ireturn, 1, [], .null)) rfl (by first | rw [vm_bi_t ⟨vm_nlt_le c1, vm_nlt_le c2⟩]; rfl | rw [vm_bi_f fun q => vm_lt_le c1 q.1]; rfl | rw [vm_bi_f fun q => vm_lt_le c2 q.2]; rfl) (vm_rZ vm_bi_01) (Nat.zero_le _) (Nat.zero_le _) rfl
  · have c1 : ¬ (v < a) := of_decide_eq_false c1
    refine vm_J.go vm_q168 (k := 3) (hs := []) (f' := (bif vm_ic .gt v b then 14 else 10, (0, 0), [.int v, .int a, .int b], [])) (h' := (G, I, F)) (hs' := []) rfl rfl ?_
    refine vm_J.br (fun c2 => ?_) (fun c2 => ?_)
    · have c2 : b < v := of_decide_eq_true c2
      refine vm_J.go vm_q168 (k := 1) (hs := []) (f' := (15, (0, 0), [.int v, .int a, .int b], [.int 0])) (h' := (G, I, F)) (hs' := []) rfl rfl ?_
      exact vm_J.end vm_q168 (en := (15, .ireturn, 1, [], .null)) rfl (by first | rw [vm_bi_t ⟨vm_nlt_le c1, vm_nlt_le c2⟩]; rfl | rw [vm_bi_f fun q => vm_lt_le c1 q.1]; rfl | rw [vm_bi_f fun q => vm_lt_le c2 q.2]; rfl) (vm_rZ vm_bi_01) (Nat.zero_le _) (Nat.zero_le _) rfl
    · have c2 : ¬ (b < v) := of_decide_eq_false c2
      refine vm_J.go vm_q168 (k := 2) (hs := []) (f' := (15, (0, 0), [.int v, .int a, .int b], [.int 1])) (h' := (G, I, F)) (hs' := []) rfl rfl ?_
      exact vm_J.end vm_q168 (en := (15, .ireturn, 1, [], .null)) rfl (by first | rw [vm_bi_t ⟨vm_nlt_le c1, vm_nlt_le c2⟩]; rfl | rw [vm_bi_f fun q => vm_lt_le c1 q.1]; rfl | rw [vm_bi_f fun q => vm_lt_le c2 q.2]; rfl) (vm_rZ vm_bi_01) (Nat.zero_le _) (Nat.zero_le _) rfl
set_option maxHeartbeats 4000000 in
set_option maxRecDepth 20000 in
/-- DitherDesk.at  -/
theorem m_at {l : Launch} {X : vm_Cx} {G : List vm_Sh} {I : Nat → Nat → Int32} {F : Nat → Nat → UInt32} {a n : Nat} {i : Int32} (ha : G[a]? = some (0, n, [])) (hn : n < 2147483648) (hi : vm_in i n = true) : vm_K l X vm_M152 [.ref a, .int i] (G, I, F) (some (.int (I a i.toNatClampNeg))) (G, I, F) := by
  refine vm_K.mk (by decide) (Nat.le_of_ble_eq_true rfl) ?_
  show vm_J _ _ _ (0, (0, 0), [.ref a, .int i], []) _ _ _
  refine vm_J.go vm_q152 (k := 2) (hs := []) (f' := (bif vm_ic .lt i 0 then 16 else 4, (0, 0), [.ref a, .int i], [])) (h' := (G, I, F)) (hs' := []) rfl rfl ?_
  refine vm_J.br (fun c1 => ?_) (fun c1 => ?_)
  · have c1 : i < 0 := of_decide_eq_true c1
    exact absurd c1 (vm_in_0 hi)
  · have c1 : ¬ (i < 0) := of_decide_eq_false c1
    refine vm_J.go vm_q152 (k := 4) (hs := [(0, n, [])]) (f' := (bif vm_ic .ge i (nI n) then 16 else 10, (0, 0), [.ref a, .int i], [])) (h' := (G, I, F)) (hs' := []) rfl (vm_b2 rfl (vm_b2 rfl (vm_b2 (vm_hG ha) (vm_b2 rfl rfl)))) ?_
    refine vm_J.br (fun c2 => ?_) (fun c2 => ?_)
    · have c2 : (nI n) ≤ i := of_decide_eq_true c2
      exact absurd c2 (vm_in_ge hi hn)
    · have c2 : ¬ ((nI n) ≤ i) := of_decide_eq_false c2
      refine vm_J.go vm_q152 (k := 4) (hs := [(0, n, [])]) (f' := (17, (0, 0), [.ref a, .int i], [.int (I a i.toNatClampNeg)])) (h' := (G, I, F)) (hs' := []) rfl (vm_b2 rfl (vm_b2 rfl (vm_b2 (vm_b2 (vm_hG ha) hi) (vm_b2 rfl rfl)))) ?_
      exact vm_J.end vm_q152 (en := (17, .ireturn, 1, [], .null)) rfl rfl vm_rI (Nat.zero_le _) (Nat.zero_le _) rfl
set_option maxHeartbeats 4000000 in
set_option maxRecDepth 20000 in
/-- DitherDesk.put  -/
theorem m_put {l : Launch} {X : vm_Cx} {G : List vm_Sh} {I : Nat → Nat → Int32} {F : Nat → Nat → UInt32} {a n : Nat} {i v : Int32} (ha : G[a]? = some (0, n, [])) (hn : n < 2147483648) (hi : vm_in i n = true) : vm_K l X vm_M153 [.ref a, .int i, .int v] (G, I, F) (none) (G, (vm_up I a i.toNatClampNeg v), F) := by
  refine vm_K.mk (by decide) (Nat.le_of_ble_eq_true rfl) ?_
  show vm_J _ _ _ (0, (0, 0), [.ref a, .int i, .int v], []) _ _ _
  refine vm_J.go vm_q153 (k := 2) (hs := []) (f' := (bif vm_ic .lt i 0 then 14 else 4, (0, 0), [.ref a, .int i, .int v], [])) (h' := (G, I, F)) (hs' := []) rfl rfl ?_
  refine vm_J.br (fun c1 => ?_) (fun c1 => ?_)
  · have c1 : i < 0 := of_decide_eq_true c1
    exact absurd c1 (vm_in_0 hi)
  · have c1 : ¬ (i < 0) := of_decide_eq_false c1
    refine vm_J.go vm_q153 (k := 4) (hs := [(0, n, [])]) (f' := (bif vm_ic .ge i (nI n) then 14 else 10, (0, 0), [.ref a, .int i, .int v], [])) (h' := (G, I, F)) (hs' := []) rfl (vm_b2 rfl (vm_b2 rfl (vm_b2 (vm_hG ha) (vm_b2 rfl rfl)))) ?_
    refine vm_J.br (fun c2 => ?_) (fun c2 => ?_)
    · have c2 : (nI n) ≤ i := of_decide_eq_true c2
      exact absurd c2 (vm_in_ge hi hn)
    · have c2 : ¬ ((nI n) ≤ i) := of_decide_eq_false c2
      refine vm_J.go vm_q153 (k := 4) (hs := [(0, n, [])]) (f' := (14, (0, 0), [.ref a, .int i, .int v], [])) (h' := (G, (vm_up I a i.toNatClampNeg v), F)) (hs' := []) rfl (vm_b2 rfl (vm_b2 rfl (vm_b2 rfl (vm_b2 (vm_b2 (vm_hG ha) hi) rfl)))) ?_
      exact vm_J.end vm_q153 (en := (14, .return_, 1, [], .null)) rfl rfl vm_rV (Nat.zero_le _) (Nat.zero_le _) rfl
set_option maxHeartbeats 4000000 in
set_option maxRecDepth 20000 in
/-- DitherDesk.floatAt  -/
theorem m_floatAt {l : Launch} {X : vm_Cx} {G : List vm_Sh} {I : Nat → Nat → Int32} {F : Nat → Nat → UInt32} {a n : Nat} {i : Int32} (ha : G[a]? = some (1, n, [])) (hn : n < 2147483648) (hi : vm_in i n = true) : vm_K l X vm_M154 [.ref a, .int i] (G, I, F) (some (.float (F a i.toNatClampNeg))) (G, I, F) := by
  refine vm_K.mk (by decide) (Nat.le_of_ble_eq_true rfl) ?_
  show vm_J _ _ _ (0, (0, 0), [.ref a, .int i], []) _ _ _
  refine vm_J.go vm_q154 (k := 2) (hs := []) (f' := (bif vm_ic .lt i 0 then 16 else 4, (0, 0), [.ref a, .int i], [])) (h' := (G, I, F)) (hs' := []) rfl rfl ?_
  refine vm_J.br (fun c1 => ?_) (fun c1 => ?_)
  · have c1 : i < 0 := of_decide_eq_true c1
    exact absurd c1 (vm_in_0 hi)
  · have c1 : ¬ (i < 0) := of_decide_eq_false c1
    refine vm_J.go vm_q154 (k := 4) (hs := [(1, n, [])]) (f' := (bif vm_ic .ge i (nI n) then 16 else 10, (0, 0), [.ref a, .int i], [])) (h' := (G, I, F)) (hs' := []) rfl (vm_b2 rfl (vm_b2 rfl (vm_b2 (vm_hG ha) (vm_b2 rfl rfl)))) ?_
    refine vm_J.br (fun c2 => ?_) (fun c2 => ?_)
    · have c2 : (nI n) ≤ i := of_decide_eq_true c2
      exact absurd c2 (vm_in_ge hi hn)
    · have c2 : ¬ ((nI n) ≤ i) := of_decide_eq_false c2
      refine vm_J.go vm_q154 (k := 4) (hs := [(1, n, [])]) (f' := (17, (0, 0), [.ref a, .int i], [.float (F a i.toNatClampNeg)])) (h' := (G, I, F)) (hs' := []) rfl (vm_b2 rfl (vm_b2 rfl (vm_b2 (vm_b2 (vm_hG ha) hi) (vm_b2 rfl rfl)))) ?_
      exact vm_J.end vm_q154 (en := (17, .freturn, 1, [], .null)) rfl rfl vm_rF (Nat.zero_le _) (Nat.zero_le _) rfl
set_option maxHeartbeats 4000000 in
set_option maxRecDepth 20000 in
/-- DitherDesk.putFloat  -/
theorem m_putFloat {l : Launch} {X : vm_Cx} {G : List vm_Sh} {I : Nat → Nat → Int32} {F : Nat → Nat → UInt32} {a n : Nat} {i : Int32} {v : UInt32} (ha : G[a]? = some (1, n, [])) (hn : n < 2147483648) (hi : vm_in i n = true) : vm_K l X vm_M155 [.ref a, .int i, .float v] (G, I, F) (none) (G, I, (vm_up F a i.toNatClampNeg v)) := by
  refine vm_K.mk (by decide) (Nat.le_of_ble_eq_true rfl) ?_
  show vm_J _ _ _ (0, (0, 0), [.ref a, .int i, .float v], []) _ _ _
  refine vm_J.go vm_q155 (k := 2) (hs := []) (f' := (bif vm_ic .lt i 0 then 14 else 4, (0, 0), [.ref a, .int i, .float v], [])) (h' := (G, I, F)) (hs' := []) rfl rfl ?_
  refine vm_J.br (fun c1 => ?_) (fun c1 => ?_)
  · have c1 : i < 0 := of_decide_eq_true c1
    exact absurd c1 (vm_in_0 hi)
  · have c1 : ¬ (i < 0) := of_decide_eq_false c1
    refine vm_J.go vm_q155 (k := 4) (hs := [(1, n, [])]) (f' := (bif vm_ic .ge i (nI n) then 14 else 10, (0, 0), [.ref a, .int i, .float v], [])) (h' := (G, I, F)) (hs' := []) rfl (vm_b2 rfl (vm_b2 rfl (vm_b2 (vm_hG ha) (vm_b2 rfl rfl)))) ?_
    refine vm_J.br (fun c2 => ?_) (fun c2 => ?_)
    · have c2 : (nI n) ≤ i := of_decide_eq_true c2
      exact absurd c2 (vm_in_ge hi hn)
    · have c2 : ¬ ((nI n) ≤ i) := of_decide_eq_false c2
      refine vm_J.go vm_q155 (k := 4) (hs := [(1, n, [])]) (f' := (14, (0, 0), [.ref a, .int i, .float v], [])) (h' := (G, I, (vm_up F a i.toNatClampNeg v))) (hs' := []) rfl (vm_b2 rfl (vm_b2 rfl (vm_b2 rfl (vm_b2 (vm_b2 (vm_hG ha) hi) rfl)))) ?_
      exact vm_J.end vm_q155 (en := (14, .return_, 1, [], .null)) rfl rfl vm_rV (Nat.zero_le _) (Nat.zero_le _) rfl
/-- a row's first n from another row -/
def vm_cp {α : Type} (I : Nat → Nat → α) (s d n : Nat) : Nat → Nat → α := fun a b => if a = d then (if b < n then I s b else I d b) else I a b
/-- a row's first n all one -/
def vm_zc {α : Type} (z : α) (I : Nat → Nat → α) (d n : Nat) : Nat → Nat → α := fun a b => if a = d then (if b < n then z else I d b) else I a b
theorem vm_cp_0 {α : Type} (I : Nat → Nat → α) (s d : Nat) : I = vm_cp I s d 0 := by
  funext a b
  unfold vm_cp
  by_cases h : a = d
  · simp [h]
  · simp [h]
theorem vm_zc_0 {α : Type} (z : α) (I : Nat → Nat → α) (d : Nat) : I = vm_zc z I d 0 := by
  funext a b
  unfold vm_zc
  by_cases h : a = d
  · simp [h]
  · simp [h]
theorem vm_zc_s {α : Type} (z : α) (I : Nat → Nat → α) (d j : Nat) : vm_up (vm_zc z I d j) d j z = vm_zc z I d (j + 1) := by
  funext a b
  unfold vm_zc vm_up
  by_cases h : a = d
  · subst h
    simp only [if_true]
    by_cases h1 : b = j
    · simp [h1]
    · by_cases h2 : b < j
      · simp [h1, h2, Nat.lt_succ_of_lt h2]
      · simp [h1, h2, show ¬ b < j + 1 by omega]
  · simp [h]
theorem vm_cp_r {α : Type} (I : Nat → Nat → α) (s d j k : Nat) (h : s ≠ d) : vm_cp I s d j s k = I s k := by
  unfold vm_cp
  rw [if_neg h]
theorem vm_cp_s {α : Type} (I : Nat → Nat → α) (s d j : Nat) (_ : s ≠ d) : vm_up (vm_cp I s d j) d j (I s j) = vm_cp I s d (j + 1) := by
  funext a b
  unfold vm_cp vm_up
  by_cases h : a = d
  · subst h
    simp only [if_true]
    by_cases h1 : b = j
    · simp [h1]
    · by_cases h2 : b < j
      · simp [h1, h2, Nat.lt_succ_of_lt h2]
      · simp [h1, h2, show ¬ b < j + 1 by omega]
  · simp [h]
set_option maxHeartbeats 4000000 in
set_option maxRecDepth 20000 in
/-- DitherDesk.zeroInts  -/
theorem m_zeroInts {l : Launch} {X : vm_Cx} {G : List vm_Sh} {I : Nat → Nat → Int32} {F : Nat → Nat → UInt32} {a n : Nat} (ha : G[a]? = some (0, n, [])) (hn : n < 2147483648) : vm_K l X vm_M157 [.ref a] (G, I, F) (none) (G, (vm_zc 0 I a n), F) := by
  refine vm_K.mk (by decide) (Nat.le_of_ble_eq_true rfl) ?_
  show vm_J _ _ _ (0, (0, 0), [.ref a, .retAddr 0], []) _ _ _
  refine vm_J.go vm_q157 (k := 2) (hs := []) (f' := (2, (0, 0), [.ref a, .int 0], [])) (h' := (G, I, F)) (hs' := []) rfl rfl ?_
  refine vm_J.cnt n (fun j => (2, (0, 0), [.ref a, .int (nI j)], [])) (fun j => (G, (vm_zc 0 I a j), F)) (fun _ => True) rfl (by rw [← vm_zc_0]) trivial (fun j hj pj ij => ?_) (fun pj => ?_)
  · show vm_J _ _ _ (2, (0, 0), [.ref a, .int (nI j)], []) (G, (vm_zc 0 I a j), F) _ _
    refine vm_J.go vm_q157 (k := 4) (hs := [(0, n, [])]) (f' := (bif vm_ic .ge (nI j) (nI n) then 18 else 8, (0, 0), [.ref a, .int (nI j)], [])) (h' := (G, (vm_zc 0 I a j), F)) (hs' := []) rfl (vm_b2 rfl (vm_b2 rfl (vm_b2 (vm_hG ha) (vm_b2 rfl rfl)))) ?_
    refine vm_J.br (fun c1 => ?_) (fun c1 => ?_)
    · have c1 := vm_ge_t (a := j) (b := n) (by omega) (by omega) c1
      exact (show False by omega).elim
    · have c1 := vm_ge_f (a := j) (b := n) (by omega) (by omega) c1
      refine vm_J.go vm_q157 (k := 6) (hs := [(0, n, [])]) (f' := (2, (0, 0), [.ref a, .int ((nI j) + 1)], [])) (h' := (G, (vm_up (vm_zc 0 I a j) a ((nI j).toNatClampNeg) 0), F)) (hs' := []) rfl (vm_b2 rfl (vm_b2 rfl (vm_b2 rfl (vm_b2 (vm_b2 (vm_hG ha) (vm_in_e (j := j) (n := n) rfl (by omega) (by omega))) (vm_b2 rfl (vm_b2 rfl rfl)))))) ?_
      rw [vm_ix_e (j := j) rfl (by omega), ((vm_pa (rfl : nI j = nI j) (rfl : (1 : Int32) = nI 1)) : (nI j) + 1 = nI (j + 1))]
      rw [vm_zc_s]
      exact ij trivial
  · show vm_J _ _ _ (2, (0, 0), [.ref a, .int (nI n)], []) (G, (vm_zc 0 I a n), F) _ _
    refine vm_J.go vm_q157 (k := 4) (hs := [(0, n, [])]) (f' := (bif vm_ic .ge (nI n) (nI n) then 18 else 8, (0, 0), [.ref a, .int (nI n)], [])) (h' := (G, (vm_zc 0 I a n), F)) (hs' := []) rfl (vm_b2 rfl (vm_b2 rfl (vm_b2 (vm_hG ha) (vm_b2 rfl rfl)))) ?_
    refine vm_J.br (fun c2 => ?_) (fun c2 => ?_)
    · have c2 := vm_ge_t (a := n) (b := n) (by omega) (by omega) c2
      exact vm_J.end vm_q157 (en := (18, .return_, 1, [], .null)) rfl rfl vm_rV (Nat.zero_le _) (Nat.zero_le _) rfl
    · have c2 := vm_ge_f (a := n) (b := n) (by omega) (by omega) c2
      exact (show False by omega).elim
set_option maxHeartbeats 4000000 in
set_option maxRecDepth 20000 in
/-- DitherDesk.zeroFloats  -/
theorem m_zeroFloats {l : Launch} {X : vm_Cx} {G : List vm_Sh} {I : Nat → Nat → Int32} {F : Nat → Nat → UInt32} {a n : Nat} (ha : G[a]? = some (1, n, [])) (hn : n < 2147483648) : vm_K l X vm_M159 [.ref a] (G, I, F) (none) (G, I, (vm_zc 0x00000000 F a n)) := by
  refine vm_K.mk (by decide) (Nat.le_of_ble_eq_true rfl) ?_
  show vm_J _ _ _ (0, (0, 0), [.ref a, .retAddr 0], []) _ _ _
  refine vm_J.go vm_q159 (k := 2) (hs := []) (f' := (2, (0, 0), [.ref a, .int 0], [])) (h' := (G, I, F)) (hs' := []) rfl rfl ?_
  refine vm_J.cnt n (fun j => (2, (0, 0), [.ref a, .int (nI j)], [])) (fun j => (G, I, (vm_zc 0x00000000 F a j))) (fun _ => True) rfl (by rw [← vm_zc_0]) trivial (fun j hj pj ij => ?_) (fun pj => ?_)
  · show vm_J _ _ _ (2, (0, 0), [.ref a, .int (nI j)], []) (G, I, (vm_zc 0x00000000 F a j)) _ _
    refine vm_J.go vm_q159 (k := 4) (hs := [(1, n, [])]) (f' := (bif vm_ic .ge (nI j) (nI n) then 18 else 8, (0, 0), [.ref a, .int (nI j)], [])) (h' := (G, I, (vm_zc 0x00000000 F a j))) (hs' := []) rfl (vm_b2 rfl (vm_b2 rfl (vm_b2 (vm_hG ha) (vm_b2 rfl rfl)))) ?_
    refine vm_J.br (fun c1 => ?_) (fun c1 => ?_)
    · have c1 := vm_ge_t (a := j) (b := n) (by omega) (by omega) c1
      exact (show False by omega).elim
    · have c1 := vm_ge_f (a := j) (b := n) (by omega) (by omega) c1
      refine vm_J.go vm_q159 (k := 6) (hs := [(1, n, [])]) (f' := (2, (0, 0), [.ref a, .int ((nI j) + 1)], [])) (h' := (G, I, (vm_up (vm_zc 0x00000000 F a j) a ((nI j).toNatClampNeg) 0x00000000))) (hs' := []) rfl (vm_b2 rfl (vm_b2 rfl (vm_b2 rfl (vm_b2 (vm_b2 (vm_hG ha) (vm_in_e (j := j) (n := n) rfl (by omega) (by omega))) (vm_b2 rfl (vm_b2 rfl rfl)))))) ?_
      rw [vm_ix_e (j := j) rfl (by omega), ((vm_pa (rfl : nI j = nI j) (rfl : (1 : Int32) = nI 1)) : (nI j) + 1 = nI (j + 1))]
      rw [vm_zc_s]
      exact ij trivial
  · show vm_J _ _ _ (2, (0, 0), [.ref a, .int (nI n)], []) (G, I, (vm_zc 0x00000000 F a n)) _ _
    refine vm_J.go vm_q159 (k := 4) (hs := [(1, n, [])]) (f' := (bif vm_ic .ge (nI n) (nI n) then 18 else 8, (0, 0), [.ref a, .int (nI n)], [])) (h' := (G, I, (vm_zc 0x00000000 F a n))) (hs' := []) rfl (vm_b2 rfl (vm_b2 rfl (vm_b2 (vm_hG ha) (vm_b2 rfl rfl)))) ?_
    refine vm_J.br (fun c2 => ?_) (fun c2 => ?_)
    · have c2 := vm_ge_t (a := n) (b := n) (by omega) (by omega) c2
      exact vm_J.end vm_q159 (en := (18, .return_, 1, [], .null)) rfl rfl vm_rV (Nat.zero_le _) (Nat.zero_le _) rfl
    · have c2 := vm_ge_f (a := n) (b := n) (by omega) (by omega) c2
      exact (show False by omega).elim
set_option maxHeartbeats 4000000 in
set_option maxRecDepth 20000 in
/-- DitherDesk.copyInts  -/
theorem m_copyInts {l : Launch} {X : vm_Cx} {G : List vm_Sh} {I : Nat → Nat → Int32} {F : Nat → Nat → UInt32} {a b n : Nat} (ha : G[a]? = some (0, n, [])) (hb : G[b]? = some (0, n, [])) (hab : a ≠ b) (hn : n < 2147483648) : vm_K l X vm_M156 [.ref a, .ref b] (G, I, F) (none) (G, (vm_cp I a b n), F) := by
  refine vm_K.mk (by decide) (Nat.le_of_ble_eq_true rfl) ?_
  show vm_J _ _ _ (0, (0, 0), [.ref a, .ref b, .retAddr 0], []) _ _ _
  refine vm_J.go vm_q156 (k := 2) (hs := []) (f' := (2, (0, 0), [.ref a, .ref b, .int 0], [])) (h' := (G, I, F)) (hs' := []) rfl rfl ?_
  refine vm_J.cnt n (fun j => (2, (0, 0), [.ref a, .ref b, .int (nI j)], [])) (fun j => (G, (vm_cp I a b j), F)) (fun _ => True) rfl (by rw [← vm_cp_0]) trivial (fun j hj pj ij => ?_) (fun pj => ?_)
  · show vm_J _ _ _ (2, (0, 0), [.ref a, .ref b, .int (nI j)], []) (G, (vm_cp I a b j), F) _ _
    refine vm_J.go vm_q156 (k := 4) (hs := [(0, n, [])]) (f' := (bif vm_ic .ge (nI j) (nI n) then 26 else 8, (0, 0), [.ref a, .ref b, .int (nI j)], [])) (h' := (G, (vm_cp I a b j), F)) (hs' := []) rfl (vm_b2 rfl (vm_b2 rfl (vm_b2 (vm_hG ha) (vm_b2 rfl rfl)))) ?_
    refine vm_J.br (fun c1 => ?_) (fun c1 => ?_)
    · have c1 := vm_ge_t (a := j) (b := n) (by omega) (by omega) c1
      exact (show False by omega).elim
    · have c1 := vm_ge_f (a := j) (b := n) (by omega) (by omega) c1
      refine vm_J.go vm_q156 (k := 4) (hs := [(0, n, [])]) (f' := (bif vm_ic .ge (nI j) (nI n) then 26 else 14, (0, 0), [.ref a, .ref b, .int (nI j)], [])) (h' := (G, (vm_cp I a b j), F)) (hs' := []) rfl (vm_b2 rfl (vm_b2 rfl (vm_b2 (vm_hG hb) (vm_b2 rfl rfl)))) ?_
      refine vm_J.br (fun c2 => ?_) (fun c2 => ?_)
      · have c2 := vm_ge_t (a := j) (b := n) (by omega) (by omega) c2
        exact (show False by omega).elim
      · have c2 := vm_ge_f (a := j) (b := n) (by omega) (by omega) c2
        refine vm_J.go vm_q156 (k := 8) (hs := [(0, n, []), (0, n, [])]) (f' := (2, (0, 0), [.ref a, .ref b, .int ((nI j) + 1)], [])) (h' := (G, (vm_up (vm_cp I a b j) b ((nI j).toNatClampNeg) ((vm_cp I a b j) a (nI j).toNatClampNeg)), F)) (hs' := []) rfl (vm_b2 rfl (vm_b2 rfl (vm_b2 rfl (vm_b2 rfl (vm_b2 (vm_b2 (vm_hG ha) (vm_in_e (j := j) (n := n) rfl (by omega) (by omega))) (vm_b2 (vm_b2 (vm_hG hb) (vm_in_e (j := j) (n := n) rfl (by omega) (by omega))) (vm_b2 rfl (vm_b2 rfl rfl)))))))) ?_
        rw [vm_ix_e (j := j) rfl (by omega), ((vm_pa (rfl : nI j = nI j) (rfl : (1 : Int32) = nI 1)) : (nI j) + 1 = nI (j + 1))]
        rw [vm_cp_r _ _ _ _ _ hab, vm_cp_s _ _ _ _ hab]
        exact ij trivial
  · show vm_J _ _ _ (2, (0, 0), [.ref a, .ref b, .int (nI n)], []) (G, (vm_cp I a b n), F) _ _
    refine vm_J.go vm_q156 (k := 4) (hs := [(0, n, [])]) (f' := (bif vm_ic .ge (nI n) (nI n) then 26 else 8, (0, 0), [.ref a, .ref b, .int (nI n)], [])) (h' := (G, (vm_cp I a b n), F)) (hs' := []) rfl (vm_b2 rfl (vm_b2 rfl (vm_b2 (vm_hG ha) (vm_b2 rfl rfl)))) ?_
    refine vm_J.br (fun c3 => ?_) (fun c3 => ?_)
    · have c3 := vm_ge_t (a := n) (b := n) (by omega) (by omega) c3
      exact vm_J.end vm_q156 (en := (26, .return_, 1, [], .null)) rfl rfl vm_rV (Nat.zero_le _) (Nat.zero_le _) rfl
    · have c3 := vm_ge_f (a := n) (b := n) (by omega) (by omega) c3
      exact (show False by omega).elim
set_option maxHeartbeats 4000000 in
set_option maxRecDepth 20000 in
/-- DitherDesk.copyFloats  -/
theorem m_copyFloats {l : Launch} {X : vm_Cx} {G : List vm_Sh} {I : Nat → Nat → Int32} {F : Nat → Nat → UInt32} {a b n : Nat} (ha : G[a]? = some (1, n, [])) (hb : G[b]? = some (1, n, [])) (hab : a ≠ b) (hn : n < 2147483648) : vm_K l X vm_M158 [.ref a, .ref b] (G, I, F) (none) (G, I, (vm_cp F a b n)) := by
  refine vm_K.mk (by decide) (Nat.le_of_ble_eq_true rfl) ?_
  show vm_J _ _ _ (0, (0, 0), [.ref a, .ref b, .retAddr 0], []) _ _ _
  refine vm_J.go vm_q158 (k := 2) (hs := []) (f' := (2, (0, 0), [.ref a, .ref b, .int 0], [])) (h' := (G, I, F)) (hs' := []) rfl rfl ?_
  refine vm_J.cnt n (fun j => (2, (0, 0), [.ref a, .ref b, .int (nI j)], [])) (fun j => (G, I, (vm_cp F a b j))) (fun _ => True) rfl (by rw [← vm_cp_0]) trivial (fun j hj pj ij => ?_) (fun pj => ?_)
  · show vm_J _ _ _ (2, (0, 0), [.ref a, .ref b, .int (nI j)], []) (G, I, (vm_cp F a b j)) _ _
    refine vm_J.go vm_q158 (k := 4) (hs := [(1, n, [])]) (f' := (bif vm_ic .ge (nI j) (nI n) then 26 else 8, (0, 0), [.ref a, .ref b, .int (nI j)], [])) (h' := (G, I, (vm_cp F a b j))) (hs' := []) rfl (vm_b2 rfl (vm_b2 rfl (vm_b2 (vm_hG ha) (vm_b2 rfl rfl)))) ?_
    refine vm_J.br (fun c1 => ?_) (fun c1 => ?_)
    · have c1 := vm_ge_t (a := j) (b := n) (by omega) (by omega) c1
      exact (show False by omega).elim
    · have c1 := vm_ge_f (a := j) (b := n) (by omega) (by omega) c1
      refine vm_J.go vm_q158 (k := 4) (hs := [(1, n, [])]) (f' := (bif vm_ic .ge (nI j) (nI n) then 26 else 14, (0, 0), [.ref a, .ref b, .int (nI j)], [])) (h' := (G, I, (vm_cp F a b j))) (hs' := []) rfl (vm_b2 rfl (vm_b2 rfl (vm_b2 (vm_hG hb) (vm_b2 rfl rfl)))) ?_
      refine vm_J.br (fun c2 => ?_) (fun c2 => ?_)
      · have c2 := vm_ge_t (a := j) (b := n) (by omega) (by omega) c2
        exact (show False by omega).elim
      · have c2 := vm_ge_f (a := j) (b := n) (by omega) (by omega) c2
        refine vm_J.go vm_q158 (k := 8) (hs := [(1, n, []), (1, n, [])]) (f' := (2, (0, 0), [.ref a, .ref b, .int ((nI j) + 1)], [])) (h' := (G, I, (vm_up (vm_cp F a b j) b ((nI j).toNatClampNeg) ((vm_cp F a b j) a (nI j).toNatClampNeg)))) (hs' := []) rfl (vm_b2 rfl (vm_b2 rfl (vm_b2 rfl (vm_b2 rfl (vm_b2 (vm_b2 (vm_hG ha) (vm_in_e (j := j) (n := n) rfl (by omega) (by omega))) (vm_b2 (vm_b2 (vm_hG hb) (vm_in_e (j := j) (n := n) rfl (by omega) (by omega))) (vm_b2 rfl (vm_b2 rfl rfl)))))))) ?_
        rw [vm_ix_e (j := j) rfl (by omega), ((vm_pa (rfl : nI j = nI j) (rfl : (1 : Int32) = nI 1)) : (nI j) + 1 = nI (j + 1))]
        rw [vm_cp_r _ _ _ _ _ hab, vm_cp_s _ _ _ _ hab]
        exact ij trivial
  · show vm_J _ _ _ (2, (0, 0), [.ref a, .ref b, .int (nI n)], []) (G, I, (vm_cp F a b n)) _ _
    refine vm_J.go vm_q158 (k := 4) (hs := [(1, n, [])]) (f' := (bif vm_ic .ge (nI n) (nI n) then 26 else 8, (0, 0), [.ref a, .ref b, .int (nI n)], [])) (h' := (G, I, (vm_cp F a b n))) (hs' := []) rfl (vm_b2 rfl (vm_b2 rfl (vm_b2 (vm_hG ha) (vm_b2 rfl rfl)))) ?_
    refine vm_J.br (fun c3 => ?_) (fun c3 => ?_)
    · have c3 := vm_ge_t (a := n) (b := n) (by omega) (by omega) c3
      exact vm_J.end vm_q158 (en := (26, .return_, 1, [], .null)) rfl rfl vm_rV (Nat.zero_le _) (Nat.zero_le _) rfl
    · have c3 := vm_ge_f (a := n) (b := n) (by omega) (by omega) c3
      exact (show False by omega).elim
theorem m_at_n {l : Launch} {X : vm_Cx} {G : List vm_Sh} {I : Nat → Nat → Int32} {F : Nat → Nat → UInt32} {a n j : Nat} (ha : G[a]? = some (0, n, [])) (hn : n < 2147483648) (hj : j < n) : vm_K l X vm_M152 [.ref a, .int (nI j)] (G, I, F) (some (.int (I a j))) (G, I, F) := by
  have h := m_at (l := l) (X := X) (I := I) (F := F) ha hn (vm_in_n hj hn)
  rw [vm_ix_n (by omega)] at h
  exact h
theorem m_floatAt_n {l : Launch} {X : vm_Cx} {G : List vm_Sh} {I : Nat → Nat → Int32} {F : Nat → Nat → UInt32} {a n j : Nat} (ha : G[a]? = some (1, n, [])) (hn : n < 2147483648) (hj : j < n) : vm_K l X vm_M154 [.ref a, .int (nI j)] (G, I, F) (some (.float (F a j))) (G, I, F) := by
  have h := m_floatAt (l := l) (X := X) (I := I) (F := F) ha hn (vm_in_n hj hn)
  rw [vm_ix_n (by omega)] at h
  exact h
theorem m_put_n {l : Launch} {X : vm_Cx} {G : List vm_Sh} {I : Nat → Nat → Int32} {F : Nat → Nat → UInt32} {a n j : Nat} {v : Int32} (ha : G[a]? = some (0, n, [])) (hn : n < 2147483648) (hj : j < n) : vm_K l X vm_M153 [.ref a, .int (nI j), .int v] (G, I, F) none (G, vm_up I a j v, F) := by
  have h := m_put (l := l) (X := X) (I := I) (F := F) (v := v) ha hn (vm_in_n hj hn)
  rw [vm_ix_n (by omega)] at h
  exact h
theorem m_putFloat_n {l : Launch} {X : vm_Cx} {G : List vm_Sh} {I : Nat → Nat → Int32} {F : Nat → Nat → UInt32} {a n j : Nat} {v : UInt32} (ha : G[a]? = some (1, n, [])) (hn : n < 2147483648) (hj : j < n) : vm_K l X vm_M155 [.ref a, .int (nI j), .float v] (G, I, F) none (G, I, vm_up F a j v) := by
  have h := m_putFloat (l := l) (X := X) (I := I) (F := F) (v := v) ha hn (vm_in_n hj hn)
  rw [vm_ix_n (by omega)] at h
  exact h
set_option maxHeartbeats 4000000 in
set_option maxRecDepth 20000 in
/-- DitherDesk.isColour  -/
theorem m_isColour {l : Launch} {X : vm_Cx} {G : List vm_Sh} {I : Nat → Nat → Int32} {F : Nat → Nat → UInt32} {c : Int32} : vm_K l X vm_M163 [.int c] (G, I, F) (some (.int (vm_bi (0 ≤ c ∧ c ≤ 262143)))) (G, I, F) := by
  refine vm_K.mk (by decide) (Nat.le_of_ble_eq_true rfl) ?_
  show vm_J _ _ _ (0, (0, 0), [.int c], []) _ _ _
  refine vm_J.go vm_q163 (k := 3) (hs := []) (f' := (5, (0, 0), [.int c], [.int 262143, .int 0, .int c])) (h' := (G, I, F)) (hs' := []) rfl rfl ?_
  refine vm_J.call vm_q163 (Z := vm_M151) (n := 3) (k := 1) (mi := 151) (pc := 5) (en := (5, .invokestatic 56, 3, [151, 420, 0], .null)) rfl trivial rfl rfl vm_z151 (av := [.int c, .int 0, .int 262143]) (rest := []) (m_isWithin (v := c) (a := 0) (b := 262143)) rfl (Nat.le_of_ble_eq_true rfl) ⟨Nat.le_of_ble_eq_true rfl, Nat.le_of_ble_eq_true rfl⟩ ⟨Nat.le_of_ble_eq_true rfl, Nat.le_of_ble_eq_true rfl⟩ ?_
  show vm_J _ _ _ (8, (0, 0), [.int c], [.int (vm_bi (0 ≤ c ∧ c ≤ 262143))]) (G, I, F) _ _
  exact vm_J.end vm_q163 (en := (8, .ireturn, 1, [], .null)) rfl rfl (vm_rZ vm_bi_01) (Nat.zero_le _) (Nat.zero_le _) rfl
set_option maxHeartbeats 4000000 in
set_option maxRecDepth 20000 in
/-- DitherDeskModel.isColour  -/
theorem r_isColour {l : Launch} {X : vm_Cx} {G : List vm_Sh} {I : Nat → Nat → Int32} {F : Nat → Nat → UInt32} {c : Int32} : vm_K l X vm_M169 [.int c] (G, I, F) (some (.int (vm_bi (0 ≤ c ∧ c ≤ 262143)))) (G, I, F) := by
  refine vm_K.mk (by decide) (Nat.le_of_ble_eq_true rfl) ?_
  show vm_J _ _ _ (0, (0, 0), [.int c], []) _ _ _
  refine vm_J.go vm_q169 (k := 3) (hs := []) (f' := (4, (0, 0), [.int c], [.int 262143, .int 0, .int c])) (h' := (G, I, F)) (hs' := []) rfl rfl ?_
  refine vm_J.call vm_q169 (Z := vm_M168) (n := 3) (k := 1) (mi := 168) (pc := 4) (en := (4, .invokestatic 141, 3, [168, 1302, 0], .null)) rfl trivial rfl rfl vm_z168 (av := [.int c, .int 0, .int 262143]) (rest := []) (r_isIn (v := c) (a := 0) (b := 262143)) rfl (Nat.le_of_ble_eq_true rfl) ⟨Nat.le_of_ble_eq_true rfl, Nat.le_of_ble_eq_true rfl⟩ ⟨Nat.le_of_ble_eq_true rfl, Nat.le_of_ble_eq_true rfl⟩ ?_
  show vm_J _ _ _ (7, (0, 0), [.int c], [.int (vm_bi (0 ≤ c ∧ c ≤ 262143))]) (G, I, F) _ _
  exact vm_J.end vm_q169 (en := (7, .ireturn, 1, [], .null)) rfl rfl (vm_rZ vm_bi_01) (Nat.zero_le _) (Nat.zero_le _) rfl
set_option maxHeartbeats 4000000 in
set_option maxRecDepth 20000 in
/-- DitherDeskModel.isPalette  -/
theorem r_isPalette {l : Launch} {X : vm_Cx} {G : List vm_Sh} {I : Nat → Nat → Int32} {F : Nat → Nat → UInt32} {c : Int32} : vm_K l X vm_M173 [.int c] (G, I, F) (some (.int (vm_bi (0 ≤ c ∧ c ≤ 3)))) (G, I, F) := by
  refine vm_K.mk (by decide) (Nat.le_of_ble_eq_true rfl) ?_
  show vm_J _ _ _ (0, (0, 0), [.int c], []) _ _ _
  refine vm_J.go vm_q173 (k := 3) (hs := []) (f' := (3, (0, 0), [.int c], [.int 3, .int 0, .int c])) (h' := (G, I, F)) (hs' := []) rfl rfl ?_
  refine vm_J.call vm_q173 (Z := vm_M168) (n := 3) (k := 1) (mi := 168) (pc := 3) (en := (3, .invokestatic 141, 3, [168, 1302, 0], .null)) rfl trivial rfl rfl vm_z168 (av := [.int c, .int 0, .int 3]) (rest := []) (r_isIn (v := c) (a := 0) (b := 3)) rfl (Nat.le_of_ble_eq_true rfl) ⟨Nat.le_of_ble_eq_true rfl, Nat.le_of_ble_eq_true rfl⟩ ⟨Nat.le_of_ble_eq_true rfl, Nat.le_of_ble_eq_true rfl⟩ ?_
  show vm_J _ _ _ (6, (0, 0), [.int c], [.int (vm_bi (0 ≤ c ∧ c ≤ 3))]) (G, I, F) _ _
  exact vm_J.end vm_q173 (en := (6, .ireturn, 1, [], .null)) rfl rfl (vm_rZ vm_bi_01) (Nat.zero_le _) (Nat.zero_le _) rfl
set_option maxHeartbeats 4000000 in
set_option maxRecDepth 20000 in
/-- DitherDeskModel.isTape  -/
theorem r_isTape {l : Launch} {X : vm_Cx} {G : List vm_Sh} {I : Nat → Nat → Int32} {F : Nat → Nat → UInt32} {c : Int32} : vm_K l X vm_M287 [.int c] (G, I, F) (some (.int (vm_bi (0 ≤ c ∧ c ≤ 5)))) (G, I, F) := by
  refine vm_K.mk (by decide) (Nat.le_of_ble_eq_true rfl) ?_
  show vm_J _ _ _ (0, (0, 0), [.int c], []) _ _ _
  refine vm_J.go vm_q287 (k := 3) (hs := []) (f' := (3, (0, 0), [.int c], [.int 5, .int 0, .int c])) (h' := (G, I, F)) (hs' := []) rfl rfl ?_
  refine vm_J.call vm_q287 (Z := vm_M168) (n := 3) (k := 1) (mi := 168) (pc := 3) (en := (3, .invokestatic 141, 3, [168, 1302, 0], .null)) rfl trivial rfl rfl vm_z168 (av := [.int c, .int 0, .int 5]) (rest := []) (r_isIn (v := c) (a := 0) (b := 5)) rfl (Nat.le_of_ble_eq_true rfl) ⟨Nat.le_of_ble_eq_true rfl, Nat.le_of_ble_eq_true rfl⟩ ⟨Nat.le_of_ble_eq_true rfl, Nat.le_of_ble_eq_true rfl⟩ ?_
  show vm_J _ _ _ (6, (0, 0), [.int c], [.int (vm_bi (0 ≤ c ∧ c ≤ 5))]) (G, I, F) _ _
  exact vm_J.end vm_q287 (en := (6, .ireturn, 1, [], .null)) rfl rfl (vm_rZ vm_bi_01) (Nat.zero_le _) (Nat.zero_le _) rfl
/-- a colour's channel -/
def sp_ch (c k : Int32) : Int32 := (c >>> ((12 - 6 * k) &&& 31)) &&& 63
theorem sp_ch_r (c k : Int32) : (c >>> ((6 * (2 - k)) &&& 31)) &&& 63 = sp_ch c k := by
  unfold sp_ch
  rw [show 6 * (2 - k) = 12 - 6 * k from by rw [Int32.mul_sub]; rfl]
set_option maxHeartbeats 4000000 in
set_option maxRecDepth 20000 in
/-- DitherDesk.channelOf  -/
theorem m_channelOf {l : Launch} {X : vm_Cx} {G : List vm_Sh} {I : Nat → Nat → Int32} {F : Nat → Nat → UInt32} {c k : Int32} : vm_K l X vm_M164 [.int c, .int k] (G, I, F) (some (.int (sp_ch c k))) (G, I, F) := by
  refine vm_K.mk (by decide) (Nat.le_of_ble_eq_true rfl) ?_
  show vm_J _ _ _ (0, (0, 0), [.int c, .int k], []) _ _ _
  refine vm_J.go vm_q164 (k := 9) (hs := []) (f' := (12, (0, 0), [.int c, .int k], [.int ((c >>> ((12 - (6 * k)) &&& 31)) &&& 63)])) (h' := (G, I, F)) (hs' := []) rfl rfl ?_
  exact vm_J.end vm_q164 (en := (12, .ireturn, 1, [], .null)) rfl rfl vm_rI (Nat.zero_le _) (Nat.zero_le _) rfl
set_option maxHeartbeats 4000000 in
set_option maxRecDepth 20000 in
/-- DitherDeskModel.channelOf  -/
theorem r_channelOf {l : Launch} {X : vm_Cx} {G : List vm_Sh} {I : Nat → Nat → Int32} {F : Nat → Nat → UInt32} {c k : Int32} : vm_K l X vm_M170 [.int c, .int k] (G, I, F) (some (.int (sp_ch c k))) (G, I, F) := by
  refine vm_K.mk (by decide) (Nat.le_of_ble_eq_true rfl) ?_
  show vm_J _ _ _ (0, (0, 0), [.int c, .int k], []) _ _ _
  refine vm_J.go vm_q170 (k := 9) (hs := []) (f' := (11, (0, 0), [.int c, .int k], [.int ((c >>> ((6 * (2 - k)) &&& 31)) &&& 63)])) (h' := (G, I, F)) (hs' := []) rfl rfl ?_
  exact vm_J.end vm_q170 (en := (11, .ireturn, 1, [], .null)) rfl (by rw [sp_ch_r]; rfl) vm_rI (Nat.zero_le _) (Nat.zero_le _) rfl
set_option maxHeartbeats 4000000 in
set_option maxRecDepth 20000 in
/-- DitherDeskModel.colourOf  -/
theorem r_colourOf {l : Launch} {X : vm_Cx} {G : List vm_Sh} {I : Nat → Nat → Int32} {F : Nat → Nat → UInt32} {a b c : Int32} : vm_K l X vm_M171 [.int a, .int b, .int c] (G, I, F) (some (.int (4096 * a + 64 * b + c))) (G, I, F) := by
  refine vm_K.mk (by decide) (Nat.le_of_ble_eq_true rfl) ?_
  show vm_J _ _ _ (0, (0, 0), [.int a, .int b, .int c], []) _ _ _
  refine vm_J.go vm_q171 (k := 9) (hs := []) (f' := (12, (0, 0), [.int a, .int b, .int c], [.int (((4096 * a) + (64 * b)) + c)])) (h' := (G, I, F)) (hs' := []) rfl rfl ?_
  exact vm_J.end vm_q171 (en := (12, .ireturn, 1, [], .null)) rfl rfl vm_rI (Nat.zero_le _) (Nat.zero_le _) rfl
/-- the greater, the lesser, how far apart -/
def sp_mx (a b : Int32) : Int32 := if a < b then b else a
def sp_mn (a b : Int32) : Int32 := if b < a then b else a
def sp_ab (a : Int32) : Int32 := if 0 ≤ a then a else 0 - a
set_option maxHeartbeats 4000000 in
set_option maxRecDepth 20000 in
/-- java/lang/Math.max  -/
theorem j_max {l : Launch} {X : vm_Cx} {G : List vm_Sh} {I : Nat → Nat → Int32} {F : Nat → Nat → UInt32} {a b : Int32} : vm_K l X vm_M299 [.int a, .int b] (G, I, F) (some (.int (sp_mx a b))) (G, I, F) := by
  refine vm_K.mkF (by decide +kernel) (Nat.le_of_ble_eq_true rfl) ?_
  show vm_J _ _ _ (0, (0, 0), [.int a, .int b], []) _ _ _
  refine vm_J.go vm_q299 (k := 3) (hs := []) (f' := (bif vm_ic .lt a b then 9 else 5, (0, 0), [.int a, .int b], [])) (h' := (G, I, F)) (hs' := []) rfl rfl ?_
  refine vm_J.br (fun c1 => ?_) (fun c1 => ?_)
  · have c1 : a < b := of_decide_eq_true c1
    refine vm_J.go vm_q299 (k := 1) (hs := []) (f' := (10, (0, 0), [.int a, .int b], [.int b])) (h' := (G, I, F)) (hs' := []) rfl rfl ?_
    exact vm_J.end vm_q299 (en := (10, .ireturn, 1, [], .null)) rfl (by unfold sp_mx; first | rw [if_pos c1]; rfl | rw [if_neg c1]; rfl) vm_rI (Nat.zero_le _) (Nat.zero_le _) rfl
  · have c1 : ¬ (a < b) := of_decide_eq_false c1
    refine vm_J.go vm_q299 (k := 2) (hs := []) (f' := (10, (0, 0), [.int a, .int b], [.int a])) (h' := (G, I, F)) (hs' := []) rfl rfl ?_
    exact vm_J.end vm_q299 (en := (10, .ireturn, 1, [], .null)) rfl (by unfold sp_mx; first | rw [if_pos c1]; rfl | rw [if_neg c1]; rfl) vm_rI (Nat.zero_le _) (Nat.zero_le _) rfl
set_option maxHeartbeats 4000000 in
set_option maxRecDepth 20000 in
/-- java/lang/Math.min  -/
theorem j_min {l : Launch} {X : vm_Cx} {G : List vm_Sh} {I : Nat → Nat → Int32} {F : Nat → Nat → UInt32} {a b : Int32} : vm_K l X vm_M300 [.int a, .int b] (G, I, F) (some (.int (sp_mn a b))) (G, I, F) := by
  refine vm_K.mkF (by decide +kernel) (Nat.le_of_ble_eq_true rfl) ?_
  show vm_J _ _ _ (0, (0, 0), [.int a, .int b], []) _ _ _
  refine vm_J.go vm_q300 (k := 3) (hs := []) (f' := (bif vm_ic .gt a b then 9 else 5, (0, 0), [.int a, .int b], [])) (h' := (G, I, F)) (hs' := []) rfl rfl ?_
  refine vm_J.br (fun c1 => ?_) (fun c1 => ?_)
  · have c1 : b < a := of_decide_eq_true c1
    refine vm_J.go vm_q300 (k := 1) (hs := []) (f' := (10, (0, 0), [.int a, .int b], [.int b])) (h' := (G, I, F)) (hs' := []) rfl rfl ?_
    exact vm_J.end vm_q300 (en := (10, .ireturn, 1, [], .null)) rfl (by unfold sp_mn; first | rw [if_pos c1]; rfl | rw [if_neg c1]; rfl) vm_rI (Nat.zero_le _) (Nat.zero_le _) rfl
  · have c1 : ¬ (b < a) := of_decide_eq_false c1
    refine vm_J.go vm_q300 (k := 2) (hs := []) (f' := (10, (0, 0), [.int a, .int b], [.int a])) (h' := (G, I, F)) (hs' := []) rfl rfl ?_
    exact vm_J.end vm_q300 (en := (10, .ireturn, 1, [], .null)) rfl (by unfold sp_mn; first | rw [if_pos c1]; rfl | rw [if_neg c1]; rfl) vm_rI (Nat.zero_le _) (Nat.zero_le _) rfl
theorem vm_tne {x k : Int32} (h : ¬ x = k) : x.toInt ≠ k.toInt := fun e => h (Int32.toInt_inj.mp e)
theorem vm_tw_d {lo : Int} {ts : List Nat} {d : Nat} {x : Int32} (h : ∀ k : Nat, k < ts.length → x.toInt ≠ lo + (k : Int)) : vm_tw lo ts d x = d := by
  unfold vm_tw
  split
  · rfl
  · rename_i h1
    rw [List.getElem?_eq_none]
    refine Nat.le_of_not_lt fun q => h _ q ?_
    omega
/-- how far two colours are -/
def sp_fr (m r g b : Int32) : Int32 := if m = 1 then 2 * r * r + 4 * g * g + 3 * b * b else if m = 2 then sp_mx r (sp_mx g b) else if m = 3 then r + g + b else r * r + g * g + b * b
def sp_far (m x y : Int32) : Int32 := sp_fr m (sp_ab (sp_ch x 0 - sp_ch y 0)) (sp_ab (sp_ch x 1 - sp_ch y 1)) (sp_ab (sp_ch x 2 - sp_ch y 2))

set_option maxHeartbeats 4000000 in
set_option maxRecDepth 20000 in
/-- DitherDesk.farBetween  -/
theorem m_farBetween {l : Launch} {X : vm_Cx} {G : List vm_Sh} {I : Nat → Nat → Int32} {F : Nat → Nat → UInt32} {m x y : Int32} : vm_K l X vm_M165 [.int m, .int x, .int y] (G, I, F) (some (.int (sp_far m x y))) (G, I, F) := by
  refine vm_K.mk (by decide) (Nat.le_of_ble_eq_true rfl) ?_
  show vm_J _ _ _ (0, (0, 0), [.int m, .int x, .int y, .retAddr 0, .retAddr 0, .retAddr 0], []) _ _ _
  refine vm_J.go vm_q165 (k := 2) (hs := []) (f' := (2, (0, 0), [.int m, .int x, .int y, .retAddr 0, .retAddr 0, .retAddr 0], [.int 0, .int x])) (h' := (G, I, F)) (hs' := []) rfl rfl ?_
  refine vm_J.call vm_q165 (Z := vm_M164) (n := 2) (k := 1) (mi := 164) (pc := 2) (en := (2, .invokestatic 208, 3, [164, 489, 0], .null)) rfl trivial rfl rfl vm_z164 (av := [.int x, .int 0]) (rest := []) (m_channelOf (c := x) (k := 0)) rfl (Nat.le_of_ble_eq_true rfl) ⟨Nat.le_of_ble_eq_true rfl, Nat.le_of_ble_eq_true rfl⟩ ⟨Nat.le_of_ble_eq_true rfl, Nat.le_of_ble_eq_true rfl⟩ ?_
  show vm_J _ _ _ (5, (0, 0), [.int m, .int x, .int y, .retAddr 0, .retAddr 0, .retAddr 0], [.int (sp_ch x 0)]) (G, I, F) _ _
  refine vm_J.go vm_q165 (k := 2) (hs := []) (f' := (7, (0, 0), [.int m, .int x, .int y, .retAddr 0, .retAddr 0, .retAddr 0], [.int 0, .int y, .int (sp_ch x 0)])) (h' := (G, I, F)) (hs' := []) rfl rfl ?_
  refine vm_J.call vm_q165 (Z := vm_M164) (n := 2) (k := 1) (mi := 164) (pc := 7) (en := (7, .invokestatic 208, 3, [164, 489, 0], .null)) rfl trivial rfl rfl vm_z164 (av := [.int y, .int 0]) (rest := [.int (sp_ch x 0)]) (m_channelOf (c := y) (k := 0)) rfl (Nat.le_of_ble_eq_true rfl) ⟨Nat.le_of_ble_eq_true rfl, Nat.le_of_ble_eq_true rfl⟩ ⟨Nat.le_of_ble_eq_true rfl, Nat.le_of_ble_eq_true rfl⟩ ?_
  show vm_J _ _ _ (10, (0, 0), [.int m, .int x, .int y, .retAddr 0, .retAddr 0, .retAddr 0], [.int (sp_ch y 0), .int (sp_ch x 0)]) (G, I, F) _ _
  refine vm_J.go vm_q165 (k := 1) (hs := []) (f' := (11, (0, 0), [.int m, .int x, .int y, .retAddr 0, .retAddr 0, .retAddr 0], [.int ((sp_ch x 0) - (sp_ch y 0))])) (h' := (G, I, F)) (hs' := []) rfl rfl ?_
  refine vm_J.abs vm_q165 (pc := 11) (en := (11, .invokestatic 408, 3, [298, 768, 0], .null)) rfl rfl rfl ⟨Nat.le_of_ble_eq_true rfl, Nat.le_of_ble_eq_true rfl⟩ (Nat.le_of_ble_eq_true rfl) ⟨Nat.le_of_ble_eq_true rfl, Nat.le_of_ble_eq_true rfl⟩ ?_
  show vm_J _ _ _ (14, (0, 0), [.int m, .int x, .int y, .retAddr 0, .retAddr 0, .retAddr 0], [.int (sp_ab ((sp_ch x 0) - (sp_ch y 0)))]) (G, I, F) _ _
  refine vm_J.go vm_q165 (k := 3) (hs := []) (f' := (17, (0, 0), [.int m, .int x, .int y, .int (sp_ab ((sp_ch x 0) - (sp_ch y 0))), .retAddr 0, .retAddr 0], [.int 1, .int x])) (h' := (G, I, F)) (hs' := []) rfl rfl ?_
  refine vm_J.call vm_q165 (Z := vm_M164) (n := 2) (k := 1) (mi := 164) (pc := 17) (en := (17, .invokestatic 208, 3, [164, 489, 0], .null)) rfl trivial rfl rfl vm_z164 (av := [.int x, .int 1]) (rest := []) (m_channelOf (c := x) (k := 1)) rfl (Nat.le_of_ble_eq_true rfl) ⟨Nat.le_of_ble_eq_true rfl, Nat.le_of_ble_eq_true rfl⟩ ⟨Nat.le_of_ble_eq_true rfl, Nat.le_of_ble_eq_true rfl⟩ ?_
  show vm_J _ _ _ (20, (0, 0), [.int m, .int x, .int y, .int (sp_ab ((sp_ch x 0) - (sp_ch y 0))), .retAddr 0, .retAddr 0], [.int (sp_ch x 1)]) (G, I, F) _ _
  refine vm_J.go vm_q165 (k := 2) (hs := []) (f' := (22, (0, 0), [.int m, .int x, .int y, .int (sp_ab ((sp_ch x 0) - (sp_ch y 0))), .retAddr 0, .retAddr 0], [.int 1, .int y, .int (sp_ch x 1)])) (h' := (G, I, F)) (hs' := []) rfl rfl ?_
  refine vm_J.call vm_q165 (Z := vm_M164) (n := 2) (k := 1) (mi := 164) (pc := 22) (en := (22, .invokestatic 208, 3, [164, 489, 0], .null)) rfl trivial rfl rfl vm_z164 (av := [.int y, .int 1]) (rest := [.int (sp_ch x 1)]) (m_channelOf (c := y) (k := 1)) rfl (Nat.le_of_ble_eq_true rfl) ⟨Nat.le_of_ble_eq_true rfl, Nat.le_of_ble_eq_true rfl⟩ ⟨Nat.le_of_ble_eq_true rfl, Nat.le_of_ble_eq_true rfl⟩ ?_
  show vm_J _ _ _ (25, (0, 0), [.int m, .int x, .int y, .int (sp_ab ((sp_ch x 0) - (sp_ch y 0))), .retAddr 0, .retAddr 0], [.int (sp_ch y 1), .int (sp_ch x 1)]) (G, I, F) _ _
  refine vm_J.go vm_q165 (k := 1) (hs := []) (f' := (26, (0, 0), [.int m, .int x, .int y, .int (sp_ab ((sp_ch x 0) - (sp_ch y 0))), .retAddr 0, .retAddr 0], [.int ((sp_ch x 1) - (sp_ch y 1))])) (h' := (G, I, F)) (hs' := []) rfl rfl ?_
  refine vm_J.abs vm_q165 (pc := 26) (en := (26, .invokestatic 408, 3, [298, 768, 0], .null)) rfl rfl rfl ⟨Nat.le_of_ble_eq_true rfl, Nat.le_of_ble_eq_true rfl⟩ (Nat.le_of_ble_eq_true rfl) ⟨Nat.le_of_ble_eq_true rfl, Nat.le_of_ble_eq_true rfl⟩ ?_
  show vm_J _ _ _ (29, (0, 0), [.int m, .int x, .int y, .int (sp_ab ((sp_ch x 0) - (sp_ch y 0))), .retAddr 0, .retAddr 0], [.int (sp_ab ((sp_ch x 1) - (sp_ch y 1)))]) (G, I, F) _ _
  refine vm_J.go vm_q165 (k := 3) (hs := []) (f' := (33, (0, 0), [.int m, .int x, .int y, .int (sp_ab ((sp_ch x 0) - (sp_ch y 0))), .int (sp_ab ((sp_ch x 1) - (sp_ch y 1))), .retAddr 0], [.int 2, .int x])) (h' := (G, I, F)) (hs' := []) rfl rfl ?_
  refine vm_J.call vm_q165 (Z := vm_M164) (n := 2) (k := 1) (mi := 164) (pc := 33) (en := (33, .invokestatic 208, 3, [164, 489, 0], .null)) rfl trivial rfl rfl vm_z164 (av := [.int x, .int 2]) (rest := []) (m_channelOf (c := x) (k := 2)) rfl (Nat.le_of_ble_eq_true rfl) ⟨Nat.le_of_ble_eq_true rfl, Nat.le_of_ble_eq_true rfl⟩ ⟨Nat.le_of_ble_eq_true rfl, Nat.le_of_ble_eq_true rfl⟩ ?_
  show vm_J _ _ _ (36, (0, 0), [.int m, .int x, .int y, .int (sp_ab ((sp_ch x 0) - (sp_ch y 0))), .int (sp_ab ((sp_ch x 1) - (sp_ch y 1))), .retAddr 0], [.int (sp_ch x 2)]) (G, I, F) _ _
  refine vm_J.go vm_q165 (k := 2) (hs := []) (f' := (38, (0, 0), [.int m, .int x, .int y, .int (sp_ab ((sp_ch x 0) - (sp_ch y 0))), .int (sp_ab ((sp_ch x 1) - (sp_ch y 1))), .retAddr 0], [.int 2, .int y, .int (sp_ch x 2)])) (h' := (G, I, F)) (hs' := []) rfl rfl ?_
  refine vm_J.call vm_q165 (Z := vm_M164) (n := 2) (k := 1) (mi := 164) (pc := 38) (en := (38, .invokestatic 208, 3, [164, 489, 0], .null)) rfl trivial rfl rfl vm_z164 (av := [.int y, .int 2]) (rest := [.int (sp_ch x 2)]) (m_channelOf (c := y) (k := 2)) rfl (Nat.le_of_ble_eq_true rfl) ⟨Nat.le_of_ble_eq_true rfl, Nat.le_of_ble_eq_true rfl⟩ ⟨Nat.le_of_ble_eq_true rfl, Nat.le_of_ble_eq_true rfl⟩ ?_
  show vm_J _ _ _ (41, (0, 0), [.int m, .int x, .int y, .int (sp_ab ((sp_ch x 0) - (sp_ch y 0))), .int (sp_ab ((sp_ch x 1) - (sp_ch y 1))), .retAddr 0], [.int (sp_ch y 2), .int (sp_ch x 2)]) (G, I, F) _ _
  refine vm_J.go vm_q165 (k := 1) (hs := []) (f' := (42, (0, 0), [.int m, .int x, .int y, .int (sp_ab ((sp_ch x 0) - (sp_ch y 0))), .int (sp_ab ((sp_ch x 1) - (sp_ch y 1))), .retAddr 0], [.int ((sp_ch x 2) - (sp_ch y 2))])) (h' := (G, I, F)) (hs' := []) rfl rfl ?_
  refine vm_J.abs vm_q165 (pc := 42) (en := (42, .invokestatic 408, 3, [298, 768, 0], .null)) rfl rfl rfl ⟨Nat.le_of_ble_eq_true rfl, Nat.le_of_ble_eq_true rfl⟩ (Nat.le_of_ble_eq_true rfl) ⟨Nat.le_of_ble_eq_true rfl, Nat.le_of_ble_eq_true rfl⟩ ?_
  show vm_J _ _ _ (45, (0, 0), [.int m, .int x, .int y, .int (sp_ab ((sp_ch x 0) - (sp_ch y 0))), .int (sp_ab ((sp_ch x 1) - (sp_ch y 1))), .retAddr 0], [.int (sp_ab ((sp_ch x 2) - (sp_ch y 2)))]) (G, I, F) _ _
  refine vm_J.go vm_q165 (k := 3) (hs := []) (f' := (vm_tw 1 [76, 98, 110] 118 m, (0, 0), [.int m, .int x, .int y, .int (sp_ab ((sp_ch x 0) - (sp_ch y 0))), .int (sp_ab ((sp_ch x 1) - (sp_ch y 1))), .int (sp_ab ((sp_ch x 2) - (sp_ch y 2)))], [])) (h' := (G, I, F)) (hs' := []) rfl rfl ?_
  by_cases c1 : m = 1
  · rw [show vm_tw 1 [76, 98, 110] 118 m = 76 from by rw [c1]; rfl]
    refine vm_J.go vm_q165 (k := 17) (hs := []) (f' := (97, (0, 0), [.int m, .int x, .int y, .int (sp_ab ((sp_ch x 0) - (sp_ch y 0))), .int (sp_ab ((sp_ch x 1) - (sp_ch y 1))), .int (sp_ab ((sp_ch x 2) - (sp_ch y 2)))], [.int ((((2 * (sp_ab ((sp_ch x 0) - (sp_ch y 0)))) * (sp_ab ((sp_ch x 0) - (sp_ch y 0)))) + ((4 * (sp_ab ((sp_ch x 1) - (sp_ch y 1)))) * (sp_ab ((sp_ch x 1) - (sp_ch y 1))))) + ((3 * (sp_ab ((sp_ch x 2) - (sp_ch y 2)))) * (sp_ab ((sp_ch x 2) - (sp_ch y 2)))))])) (h' := (G, I, F)) (hs' := []) rfl rfl ?_
    exact vm_J.end vm_q165 (en := (97, .ireturn, 1, [], .null)) rfl (by unfold sp_far sp_fr; first | rw [if_pos c1]; rfl | rw [if_neg c1, if_pos c2]; rfl | rw [if_neg c1, if_neg c2, if_pos c3]; rfl | rw [if_neg c1, if_neg c2, if_neg c3]; rfl) vm_rI (Nat.zero_le _) (Nat.zero_le _) rfl
  by_cases c2 : m = 2
  · rw [show vm_tw 1 [76, 98, 110] 118 m = 98 from by rw [c2]; rfl]
    refine vm_J.go vm_q165 (k := 3) (hs := []) (f' := (103, (0, 0), [.int m, .int x, .int y, .int (sp_ab ((sp_ch x 0) - (sp_ch y 0))), .int (sp_ab ((sp_ch x 1) - (sp_ch y 1))), .int (sp_ab ((sp_ch x 2) - (sp_ch y 2)))], [.int (sp_ab ((sp_ch x 2) - (sp_ch y 2))), .int (sp_ab ((sp_ch x 1) - (sp_ch y 1))), .int (sp_ab ((sp_ch x 0) - (sp_ch y 0)))])) (h' := (G, I, F)) (hs' := []) rfl rfl ?_
    refine vm_J.call vm_q165 (Z := vm_M299) (n := 2) (k := 1) (mi := 299) (pc := 103) (en := (103, .invokestatic 413, 3, [299, 771, 0], .null)) rfl trivial rfl rfl vm_z299 (av := [.int (sp_ab ((sp_ch x 1) - (sp_ch y 1))), .int (sp_ab ((sp_ch x 2) - (sp_ch y 2)))]) (rest := [.int (sp_ab ((sp_ch x 0) - (sp_ch y 0)))]) (j_max (a := sp_ab ((sp_ch x 1) - (sp_ch y 1))) (b := sp_ab ((sp_ch x 2) - (sp_ch y 2)))) rfl (Nat.le_of_ble_eq_true rfl) ⟨Nat.le_of_ble_eq_true rfl, Nat.le_of_ble_eq_true rfl⟩ ⟨Nat.le_of_ble_eq_true rfl, Nat.le_of_ble_eq_true rfl⟩ ?_
    show vm_J _ _ _ (106, (0, 0), [.int m, .int x, .int y, .int (sp_ab ((sp_ch x 0) - (sp_ch y 0))), .int (sp_ab ((sp_ch x 1) - (sp_ch y 1))), .int (sp_ab ((sp_ch x 2) - (sp_ch y 2)))], [.int (sp_mx (sp_ab ((sp_ch x 1) - (sp_ch y 1))) (sp_ab ((sp_ch x 2) - (sp_ch y 2)))), .int (sp_ab ((sp_ch x 0) - (sp_ch y 0)))]) (G, I, F) _ _
    refine vm_J.call vm_q165 (Z := vm_M299) (n := 2) (k := 1) (mi := 299) (pc := 106) (en := (106, .invokestatic 413, 3, [299, 771, 0], .null)) rfl trivial rfl rfl vm_z299 (av := [.int (sp_ab ((sp_ch x 0) - (sp_ch y 0))), .int (sp_mx (sp_ab ((sp_ch x 1) - (sp_ch y 1))) (sp_ab ((sp_ch x 2) - (sp_ch y 2))))]) (rest := []) (j_max (a := sp_ab ((sp_ch x 0) - (sp_ch y 0))) (b := sp_mx (sp_ab ((sp_ch x 1) - (sp_ch y 1))) (sp_ab ((sp_ch x 2) - (sp_ch y 2))))) rfl (Nat.le_of_ble_eq_true rfl) ⟨Nat.le_of_ble_eq_true rfl, Nat.le_of_ble_eq_true rfl⟩ ⟨Nat.le_of_ble_eq_true rfl, Nat.le_of_ble_eq_true rfl⟩ ?_
    show vm_J _ _ _ (109, (0, 0), [.int m, .int x, .int y, .int (sp_ab ((sp_ch x 0) - (sp_ch y 0))), .int (sp_ab ((sp_ch x 1) - (sp_ch y 1))), .int (sp_ab ((sp_ch x 2) - (sp_ch y 2)))], [.int (sp_mx (sp_ab ((sp_ch x 0) - (sp_ch y 0))) (sp_mx (sp_ab ((sp_ch x 1) - (sp_ch y 1))) (sp_ab ((sp_ch x 2) - (sp_ch y 2)))))]) (G, I, F) _ _
    exact vm_J.end vm_q165 (en := (109, .ireturn, 1, [], .null)) rfl (by unfold sp_far sp_fr; first | rw [if_pos c1]; rfl | rw [if_neg c1, if_pos c2]; rfl | rw [if_neg c1, if_neg c2, if_pos c3]; rfl | rw [if_neg c1, if_neg c2, if_neg c3]; rfl) vm_rI (Nat.zero_le _) (Nat.zero_le _) rfl
  by_cases c3 : m = 3
  · rw [show vm_tw 1 [76, 98, 110] 118 m = 110 from by rw [c3]; rfl]
    refine vm_J.go vm_q165 (k := 5) (hs := []) (f' := (117, (0, 0), [.int m, .int x, .int y, .int (sp_ab ((sp_ch x 0) - (sp_ch y 0))), .int (sp_ab ((sp_ch x 1) - (sp_ch y 1))), .int (sp_ab ((sp_ch x 2) - (sp_ch y 2)))], [.int (((sp_ab ((sp_ch x 0) - (sp_ch y 0))) + (sp_ab ((sp_ch x 1) - (sp_ch y 1)))) + (sp_ab ((sp_ch x 2) - (sp_ch y 2))))])) (h' := (G, I, F)) (hs' := []) rfl rfl ?_
    exact vm_J.end vm_q165 (en := (117, .ireturn, 1, [], .null)) rfl (by unfold sp_far sp_fr; first | rw [if_pos c1]; rfl | rw [if_neg c1, if_pos c2]; rfl | rw [if_neg c1, if_neg c2, if_pos c3]; rfl | rw [if_neg c1, if_neg c2, if_neg c3]; rfl) vm_rI (Nat.zero_le _) (Nat.zero_le _) rfl
  rw [show vm_tw 1 [76, 98, 110] 118 m = 118 from vm_tw_d (fun k hk => by
    have hk : k < 3 := hk
    have : m.toInt ≠ 1 := vm_tne c1
    have : m.toInt ≠ 2 := vm_tne c2
    have : m.toInt ≠ 3 := vm_tne c3
    omega)]
  refine vm_J.go vm_q165 (k := 11) (hs := []) (f' := (133, (0, 0), [.int m, .int x, .int y, .int (sp_ab ((sp_ch x 0) - (sp_ch y 0))), .int (sp_ab ((sp_ch x 1) - (sp_ch y 1))), .int (sp_ab ((sp_ch x 2) - (sp_ch y 2)))], [.int ((((sp_ab ((sp_ch x 0) - (sp_ch y 0))) * (sp_ab ((sp_ch x 0) - (sp_ch y 0)))) + ((sp_ab ((sp_ch x 1) - (sp_ch y 1))) * (sp_ab ((sp_ch x 1) - (sp_ch y 1))))) + ((sp_ab ((sp_ch x 2) - (sp_ch y 2))) * (sp_ab ((sp_ch x 2) - (sp_ch y 2)))))])) (h' := (G, I, F)) (hs' := []) rfl rfl ?_
  exact vm_J.end vm_q165 (en := (133, .ireturn, 1, [], .null)) rfl (by unfold sp_far sp_fr; first | rw [if_pos c1]; rfl | rw [if_neg c1, if_pos c2]; rfl | rw [if_neg c1, if_neg c2, if_pos c3]; rfl | rw [if_neg c1, if_neg c2, if_neg c3]; rfl) vm_rI (Nat.zero_le _) (Nat.zero_le _) rfl
