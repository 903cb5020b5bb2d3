theorem vm_bT_o (I : Nat → Nat → Int32) (o a o2 a2 x : Nat) (h1 : x ≠ o) (h2 : x ≠ a) : vm_bT I o a o2 a2 x = I x := (vm_cp_f _ _ _ _ _ h2).trans (vm_up_f _ _ _ _ _ h1)
theorem vm_bT_2 (I : Nat → Nat → Int32) (o a o2 a2 : Nat) (h : o ≠ a) : vm_bT I o a o2 a2 o 2 = I o2 2 := (congrFun (vm_cp_f _ _ _ _ _ h) 2).trans (vm_up_h _ _ _ _)
theorem vm_bT_a (I : Nat → Nat → Int32) (o a o2 a2 k : Nat) (h : a2 ≠ o) (hk : k < 24) : vm_bT I o a o2 a2 a k = I a2 k := (vm_cp_h _ _ _ _ _ hk).trans (congrFun (vm_up_f _ _ _ _ _ h) k)
theorem vm_bP_o (I : Nat → Nat → Int32) (o a o2 a2 x : Nat) (h1 : x ≠ o) (h2 : x ≠ a) : vm_bP I o a o2 a2 x = I x := (vm_cp_f _ _ _ _ _ h2).trans ((vm_up_f _ _ _ _ _ h1).trans (vm_up_f _ _ _ _ _ h1))
theorem vm_bP_0 (I : Nat → Nat → Int32) (o a o2 a2 : Nat) (h : o ≠ a) : vm_bP I o a o2 a2 o 0 = I o2 0 := (congrFun (vm_cp_f _ _ _ _ _ h) 0).trans ((vm_up_k2 _ _ _ _ _ (by decide)).trans (vm_up_h _ _ _ _))
theorem vm_bP_1 (I : Nat → Nat → Int32) (o a o2 a2 : Nat) (h : o ≠ a) (h2 : o2 ≠ o) : vm_bP I o a o2 a2 o 1 = I o2 1 := (congrFun (vm_cp_f _ _ _ _ _ h) 1).trans ((vm_up_h _ _ _ _).trans (congrFun (vm_up_f _ _ _ _ _ h2) 1))
theorem vm_bP_a (I : Nat → Nat → Int32) (o a o2 a2 k : Nat) (h : a2 ≠ o) (hk : k < 144) : vm_bP I o a o2 a2 a k = I a2 k := (vm_cp_h _ _ _ _ _ hk).trans ((congrFun (vm_up_f _ _ _ _ _ h) k).trans (congrFun (vm_up_f _ _ _ _ _ h) k))
theorem vm_bL_o (I : Nat → Nat → Int32) (o a b o2 a2 b2 x : Nat) (h1 : x ≠ o) (h2 : x ≠ a) (h3 : x ≠ b) : vm_bL I o a b o2 a2 b2 x = I x := (vm_cp_f _ _ _ _ _ h3).trans ((vm_cp_f _ _ _ _ _ h2).trans (vm_up_f _ _ _ _ _ h1))
theorem vm_bL_0 (I : Nat → Nat → Int32) (o a b o2 a2 b2 : Nat) (h : o ≠ a) (h2 : o ≠ b) : vm_bL I o a b o2 a2 b2 o 0 = I o2 0 := (congrFun (vm_cp_f _ _ _ _ _ h2) 0).trans ((congrFun (vm_cp_f _ _ _ _ _ h) 0).trans (vm_up_h _ _ _ _))
theorem vm_bL_a (I : Nat → Nat → Int32) (o a b o2 a2 b2 k : Nat) (h : a ≠ b) (h2 : a2 ≠ o) (hk : k < 16) : vm_bL I o a b o2 a2 b2 a k = I a2 k := (congrFun (vm_cp_f _ _ _ _ _ h) k).trans ((vm_cp_h _ _ _ _ _ hk).trans (congrFun (vm_up_f _ _ _ _ _ h2) k))
theorem vm_bL_b (I : Nat → Nat → Int32) (o a b o2 a2 b2 k : Nat) (h : b2 ≠ a) (h2 : b2 ≠ o) (hk : k < 16) : vm_bL I o a b o2 a2 b2 b k = I b2 k := (vm_cp_h _ _ _ _ _ hk).trans ((congrFun (vm_cp_f _ _ _ _ _ h) k).trans (congrFun (vm_up_f _ _ _ _ _ h2) k))
theorem vm_bS_o (I : Nat → Nat → Int32) (o a b c o2 a2 b2 c2 x : Nat) (h1 : x ≠ o) (h2 : x ≠ a) (h3 : x ≠ b) (h4 : x ≠ c) : vm_bS I o a b c o2 a2 b2 c2 x = I x := (vm_cp_f _ _ _ _ _ h4).trans ((vm_cp_f _ _ _ _ _ h3).trans ((vm_cp_f _ _ _ _ _ h2).trans ((vm_up_f _ _ _ _ _ h1).trans ((vm_up_f _ _ _ _ _ h1).trans (vm_up_f _ _ _ _ _ h1)))))
theorem vm_bS_f (I : Nat → Nat → Int32) (o a b c o2 a2 b2 c2 : Nat) (h1 : o ≠ a) (h2 : o ≠ b) (h3 : o ≠ c) (h : o2 ≠ o) : vm_bS I o a b c o2 a2 b2 c2 o 0 = I o2 0 ∧ vm_bS I o a b c o2 a2 b2 c2 o 1 = I o2 1 ∧ vm_bS I o a b c o2 a2 b2 c2 o 2 = I o2 2 := by
  unfold vm_bS
  rw [vm_cp_f _ _ _ _ _ h3, vm_cp_f _ _ _ _ _ h2, vm_cp_f _ _ _ _ _ h1]
  refine ⟨?_, ?_, ?_⟩
  · rw [vm_up_k2 _ _ _ _ _ (by decide), vm_up_k2 _ _ _ _ _ (by decide), vm_up_h]
  · rw [vm_up_k2 _ _ _ _ _ (by decide), vm_up_h, vm_up_f _ _ _ _ _ h]
  · rw [vm_up_h, vm_up_f _ _ _ _ _ h, vm_up_f _ _ _ _ _ h]
theorem vm_bS_a (I : Nat → Nat → Int32) (o a b c o2 a2 b2 c2 k : Nat) (h1 : a ≠ b) (h2 : a ≠ c) (h : a2 ≠ o) (hk : k < 144) : vm_bS I o a b c o2 a2 b2 c2 a k = I a2 k := by
  unfold vm_bS
  rw [vm_cp_f _ _ _ _ _ h2, vm_cp_f _ _ _ _ _ h1, vm_cp_h _ _ _ _ _ hk, vm_up_f _ _ _ _ _ h, vm_up_f _ _ _ _ _ h, vm_up_f _ _ _ _ _ h]
theorem vm_bS_b (I : Nat → Nat → Int32) (o a b c o2 a2 b2 c2 k : Nat) (h2 : b ≠ c) (h : b2 ≠ o) (h1 : b2 ≠ a) (hk : k < 144) : vm_bS I o a b c o2 a2 b2 c2 b k = I b2 k := by
  unfold vm_bS
  rw [vm_cp_f _ _ _ _ _ h2, vm_cp_h _ _ _ _ _ hk, vm_cp_f _ _ _ _ _ h1, vm_up_f _ _ _ _ _ h, vm_up_f _ _ _ _ _ h, vm_up_f _ _ _ _ _ h]
theorem vm_bS_c (I : Nat → Nat → Int32) (o a b c o2 a2 b2 c2 k : Nat) (h : c2 ≠ o) (h1 : c2 ≠ a) (h2 : c2 ≠ b) (hk : k < 144) : vm_bS I o a b c o2 a2 b2 c2 c k = I c2 k := by
  unfold vm_bS
  rw [vm_cp_h _ _ _ _ _ hk, vm_cp_f _ _ _ _ _ h2, vm_cp_f _ _ _ _ _ h1, vm_up_f _ _ _ _ _ h, vm_up_f _ _ _ _ _ h, vm_up_f _ _ _ _ _ h]
theorem vm_bps_o (I : Nat → Nat → Int32) (B E x : Nat) : ∀ j, x < B + 17 ∨ B + 17 + 2 * j ≤ x → vm_bps I B E j x = I x
  | 0, _ => rfl
  | j + 1, h => (vm_bP_o _ _ _ _ _ x (by omega) (by omega)).trans (vm_bps_o I B E x j (by omega))
theorem vm_bps_h (I : Nat → Nat → Int32) (B E p : Nat) (hBE : B + 37 ≤ E ∨ E + 37 ≤ B) : ∀ j, p < j → j ≤ 4 → vm_bps I B E j (B + 17 + 2 * p) 0 = I (E + 17 + 2 * p) 0 ∧ vm_bps I B E j (B + 17 + 2 * p) 1 = I (E + 17 + 2 * p) 1 ∧ ∀ k, k < 144 → vm_bps I B E j (B + 18 + 2 * p) k = I (E + 18 + 2 * p) k
  | 0, h, _ => absurd h (Nat.not_lt_zero p)
  | j + 1, h, h4 => by
    show vm_bP (vm_bps I B E j) (B + 17 + 2 * j) (B + 18 + 2 * j) (E + 17 + 2 * j) (E + 18 + 2 * j) _ 0 = _ ∧ vm_bP (vm_bps I B E j) (B + 17 + 2 * j) (B + 18 + 2 * j) (E + 17 + 2 * j) (E + 18 + 2 * j) _ 1 = _ ∧ ∀ k, k < 144 → vm_bP (vm_bps I B E j) (B + 17 + 2 * j) (B + 18 + 2 * j) (E + 17 + 2 * j) (E + 18 + 2 * j) _ k = _
    have e1 : vm_bps I B E j (E + 17 + 2 * j) = I (E + 17 + 2 * j) := vm_bps_o _ _ _ _ _ (by omega)
    have e2 : vm_bps I B E j (E + 18 + 2 * j) = I (E + 18 + 2 * j) := vm_bps_o _ _ _ _ _ (by omega)
    by_cases z : p = j
    · subst z
      refine ⟨?_, ?_, fun k hk => ?_⟩
      · rw [vm_bP_0 _ _ _ _ _ (by omega), e1]
      · rw [vm_bP_1 _ _ _ _ _ (by omega) (by omega), e1]
      · rw [vm_bP_a _ _ _ _ _ _ (by omega) hk, e2]
    · have ih := vm_bps_h I B E p hBE j (by omega) (by omega)
      rw [vm_bP_o _ _ _ _ _ (B + 17 + 2 * p) (by omega) (by omega), vm_bP_o _ _ _ _ _ (B + 18 + 2 * p) (by omega) (by omega)]
      exact ih
theorem vm_bls_o (I : Nat → Nat → Int32) (B E x : Nat) : ∀ j, x < B + 25 ∨ B + 25 + 3 * j ≤ x → vm_bls I B E j x = I x
  | 0, _ => rfl
  | j + 1, h => (vm_bL_o _ _ _ _ _ _ _ x (by omega) (by omega) (by omega)).trans (vm_bls_o I B E x j (by omega))
theorem vm_bls_h (I : Nat → Nat → Int32) (B E p : Nat) (hBE : B + 37 ≤ E ∨ E + 37 ≤ B) : ∀ j, p < j → j ≤ 4 → vm_bls I B E j (B + 25 + 3 * p) 0 = I (E + 25 + 3 * p) 0 ∧ (∀ k, k < 16 → vm_bls I B E j (B + 26 + 3 * p) k = I (E + 26 + 3 * p) k) ∧ ∀ k, k < 16 → vm_bls I B E j (B + 27 + 3 * p) k = I (E + 27 + 3 * p) k
  | 0, h, _ => absurd h (Nat.not_lt_zero p)
  | j + 1, h, h4 => by
    show vm_bL (vm_bls I B E j) (B + 25 + 3 * j) (B + 26 + 3 * j) (B + 27 + 3 * j) (E + 25 + 3 * j) (E + 26 + 3 * j) (E + 27 + 3 * j) _ 0 = _ ∧ (∀ k, k < 16 → vm_bL (vm_bls I B E j) (B + 25 + 3 * j) (B + 26 + 3 * j) (B + 27 + 3 * j) (E + 25 + 3 * j) (E + 26 + 3 * j) (E + 27 + 3 * j) _ k = _) ∧ ∀ k, k < 16 → vm_bL (vm_bls I B E j) (B + 25 + 3 * j) (B + 26 + 3 * j) (B + 27 + 3 * j) (E + 25 + 3 * j) (E + 26 + 3 * j) (E + 27 + 3 * j) _ k = _
    have e1 : vm_bls I B E j (E + 25 + 3 * j) = I (E + 25 + 3 * j) := vm_bls_o _ _ _ _ _ (by omega)
    have e2 : vm_bls I B E j (E + 26 + 3 * j) = I (E + 26 + 3 * j) := vm_bls_o _ _ _ _ _ (by omega)
    have e3 : vm_bls I B E j (E + 27 + 3 * j) = I (E + 27 + 3 * j) := vm_bls_o _ _ _ _ _ (by omega)
    by_cases z : p = j
    · subst z
      refine ⟨?_, fun k hk => ?_, fun k hk => ?_⟩
      · rw [vm_bL_0 _ _ _ _ _ _ _ (by omega) (by omega), e1]
      · rw [vm_bL_a _ _ _ _ _ _ _ _ (by omega) (by omega) hk, e2]
      · rw [vm_bL_b _ _ _ _ _ _ _ _ (by omega) (by omega) hk, e3]
    · have ih := vm_bls_h I B E p hBE j (by omega) (by omega)
      rw [vm_bL_o _ _ _ _ _ _ _ (B + 25 + 3 * p) (by omega) (by omega) (by omega), vm_bL_o _ _ _ _ _ _ _ (B + 26 + 3 * p) (by omega) (by omega) (by omega), vm_bL_o _ _ _ _ _ _ _ (B + 27 + 3 * p) (by omega) (by omega) (by omega)]
      exact ih
/-- a world is the other's: its ints -/
def wb_eq (I J : Nat → Nat → Int32) (B E : Nat) : Prop :=
  (∀ p, p < 4 → J (B + 17 + 2 * p) 0 = I (E + 17 + 2 * p) 0 ∧ J (B + 17 + 2 * p) 1 = I (E + 17 + 2 * p) 1 ∧ ∀ k, k < 144 → J (B + 18 + 2 * p) k = I (E + 18 + 2 * p) k) ∧
  (∀ p, p < 4 → J (B + 25 + 3 * p) 0 = I (E + 25 + 3 * p) 0 ∧ (∀ k, k < 16 → J (B + 26 + 3 * p) k = I (E + 26 + 3 * p) k) ∧ ∀ k, k < 16 → J (B + 27 + 3 * p) k = I (E + 27 + 3 * p) k) ∧
  (∀ k, k < 4 → J (B + 3) k = I (E + 3) k) ∧
  (J (B + 4) 0 = I (E + 4) 0 ∧ J (B + 4) 1 = I (E + 4) 1 ∧ J (B + 4) 2 = I (E + 4) 2) ∧
  (∀ k, k < 144 → J (B + 5) k = I (E + 5) k) ∧ (∀ k, k < 144 → J (B + 6) k = I (E + 6) k) ∧ (∀ k, k < 144 → J (B + 7) k = I (E + 7) k) ∧
  (J (B + 11) 2 = I (E + 11) 2 ∧ ∀ k, k < 24 → J (B + 12) k = I (E + 12) k) ∧ (J (B + 13) 2 = I (E + 13) 2 ∧ ∀ k, k < 24 → J (B + 14) k = I (E + 14) k) ∧ (J (B + 15) 2 = I (E + 15) 2 ∧ ∀ k, k < 24 → J (B + 16) k = I (E + 16) k)
def wb_L (I : Nat → Nat → Int32) (B E : Nat) : Nat → Nat → Int32 := vm_bls (vm_bps I B E 4) B E 4
theorem wb_L_o (I : Nat → Nat → Int32) (B E x : Nat) (h : x < B + 17 ∨ B + 37 ≤ x) : wb_L I B E x = I x := (vm_bls_o _ _ _ _ _ (by omega)).trans (vm_bps_o _ _ _ _ _ (by omega))
def wb_R (I : Nat → Nat → Int32) (B E : Nat) : Nat → Nat → Int32 := vm_cp (wb_L I B E) (E + 3) (B + 3) 4
def wb_S (I : Nat → Nat → Int32) (B E : Nat) : Nat → Nat → Int32 := vm_bS (wb_R I B E) (B + 4) (B + 5) (B + 6) (B + 7) (E + 4) (E + 5) (E + 6) (E + 7)
theorem wb_S_o (I : Nat → Nat → Int32) (B E x : Nat) (h : x < B + 4 ∨ B + 7 < x) (h3 : x ≠ B + 3) : wb_S I B E x = wb_L I B E x := (vm_bS_o _ _ _ _ _ _ _ _ _ x (by omega) (by omega) (by omega) (by omega)).trans (vm_cp_f _ _ _ _ _ h3)
theorem vm_bW_e (I : Nat → Nat → Int32) (B E : Nat) : vm_bW I B E = vm_bT (vm_bT (vm_bT (wb_S I B E) (B + 11) (B + 12) (E + 11) (E + 12)) (B + 13) (B + 14) (E + 13) (E + 14)) (B + 15) (B + 16) (E + 15) (E + 16) := rfl
theorem vm_bW_S (I : Nat → Nat → Int32) (B E x : Nat) (h : x < B + 11 ∨ B + 16 < x) : vm_bW I B E x = wb_S I B E x := by
  rw [vm_bW_e, vm_bT_o _ _ _ _ _ x (by omega) (by omega), vm_bT_o _ _ _ _ _ x (by omega) (by omega), vm_bT_o _ _ _ _ _ x (by omega) (by omega)]
theorem vm_bW_o (I : Nat → Nat → Int32) (B E x : Nat) (h : x < B + 3 ∨ B + 37 ≤ x ∨ x = B + 8 ∨ x = B + 9 ∨ x = B + 10) : vm_bW I B E x = I x := by
  rw [vm_bW_S _ _ _ _ (by omega), wb_S_o _ _ _ _ (by omega) (by omega)]
  exact wb_L_o _ _ _ _ (by omega)
theorem vm_bW_q (I : Nat → Nat → Int32) (B E : Nat) (hBE : B + 37 ≤ E ∨ E + 37 ≤ B) : wb_eq I (vm_bW I B E) B E := by
  have far : ∀ x, E ≤ x → x < E + 37 → wb_S I B E x = I x := fun x h1 h2 => (wb_S_o _ _ _ _ (by omega) (by omega)).trans (wb_L_o _ _ _ _ (by omega))
  have farR : ∀ x, E ≤ x → x < E + 37 → wb_R I B E x = I x := fun x h1 h2 => (vm_cp_f _ _ _ _ _ (by omega)).trans (wb_L_o _ _ _ _ (by omega))
  refine ⟨fun p hp => ?_, fun p hp => ?_, fun k hk => ?_, ?_, fun k hk => ?_, fun k hk => ?_, fun k hk => ?_, ?_, ?_, ?_⟩
  · rw [vm_bW_S _ _ _ _ (by omega), vm_bW_S _ _ _ _ (by omega), wb_S_o _ _ _ _ (by omega) (by omega), wb_S_o _ _ _ _ (by omega) (by omega)]
    unfold wb_L
    rw [vm_bls_o _ _ _ (B + 17 + 2 * p) _ (by omega), vm_bls_o _ _ _ (B + 18 + 2 * p) _ (by omega)]
    exact vm_bps_h I B E p hBE 4 hp (Nat.le_refl 4)
  · rw [vm_bW_S _ _ _ _ (by omega), vm_bW_S _ _ _ _ (by omega), vm_bW_S _ _ _ _ (by omega), wb_S_o _ _ _ _ (by omega) (by omega), wb_S_o _ _ _ _ (by omega) (by omega), wb_S_o _ _ _ _ (by omega) (by omega)]
    have z := vm_bls_h (vm_bps I B E 4) B E p hBE 4 hp (Nat.le_refl 4)
    rw [vm_bps_o _ _ _ (E + 25 + 3 * p) _ (by omega), vm_bps_o _ _ _ (E + 26 + 3 * p) _ (by omega), vm_bps_o _ _ _ (E + 27 + 3 * p) _ (by omega)] at z
    exact z
  · rw [vm_bW_S _ _ _ _ (by omega)]
    unfold wb_S
    rw [vm_bS_o _ _ _ _ _ _ _ _ _ _ (by omega) (by omega) (by omega) (by omega)]
    exact (vm_cp_h _ _ _ _ _ hk).trans (congrFun (wb_L_o _ _ _ _ (by omega)) k)
  · rw [vm_bW_S _ _ _ _ (by omega)]
    have z := vm_bS_f (wb_R I B E) (B + 4) (B + 5) (B + 6) (B + 7) (E + 4) (E + 5) (E + 6) (E + 7) (by omega) (by omega) (by omega) (by omega)
    rw [farR _ (by omega) (by omega)] at z
    exact z
  · rw [vm_bW_S _ _ _ _ (by omega)]
    exact (vm_bS_a _ _ _ _ _ _ _ _ _ _ (by omega) (by omega) (by omega) hk).trans (congrFun (farR _ (by omega) (by omega)) k)
  · rw [vm_bW_S _ _ _ _ (by omega)]
    exact (vm_bS_b _ _ _ _ _ _ _ _ _ _ (by omega) (by omega) (by omega) hk).trans (congrFun (farR _ (by omega) (by omega)) k)
  · rw [vm_bW_S _ _ _ _ (by omega)]
    exact (vm_bS_c _ _ _ _ _ _ _ _ _ _ (by omega) (by omega) (by omega) hk).trans (congrFun (farR _ (by omega) (by omega)) k)
  · rw [vm_bW_e, vm_bT_o _ _ _ _ _ (B + 11) (by omega) (by omega), vm_bT_o _ _ _ _ _ (B + 12) (by omega) (by omega), vm_bT_o _ _ _ _ _ (B + 11) (by omega) (by omega), vm_bT_o _ _ _ _ _ (B + 12) (by omega) (by omega)]
    exact ⟨(vm_bT_2 _ _ _ _ _ (by omega)).trans (congrFun (far _ (by omega) (by omega)) 2), fun k hk => (vm_bT_a _ _ _ _ _ _ (by omega) hk).trans (congrFun (far _ (by omega) (by omega)) k)⟩
  · rw [vm_bW_e, vm_bT_o _ _ _ _ _ (B + 13) (by omega) (by omega), vm_bT_o _ _ _ _ _ (B + 14) (by omega) (by omega)]
    refine ⟨(vm_bT_2 _ _ _ _ _ (by omega)).trans ?_, fun k hk => (vm_bT_a _ _ _ _ _ _ (by omega) hk).trans ?_⟩
    · rw [vm_bT_o _ _ _ _ _ _ (by omega) (by omega)]
      exact congrFun (far _ (by omega) (by omega)) 2
    · rw [vm_bT_o _ _ _ _ _ _ (by omega) (by omega)]
      exact congrFun (far _ (by omega) (by omega)) k
  · rw [vm_bW_e]
    refine ⟨(vm_bT_2 _ _ _ _ _ (by omega)).trans ?_, fun k hk => (vm_bT_a _ _ _ _ _ _ (by omega) hk).trans ?_⟩
    · rw [vm_bT_o _ _ _ _ _ _ (by omega) (by omega), vm_bT_o _ _ _ _ _ _ (by omega) (by omega)]
      exact congrFun (far _ (by omega) (by omega)) 2
    · rw [vm_bT_o _ _ _ _ _ _ (by omega) (by omega), vm_bT_o _ _ _ _ _ _ (by omega) (by omega)]
      exact congrFun (far _ (by omega) (by omega)) k
