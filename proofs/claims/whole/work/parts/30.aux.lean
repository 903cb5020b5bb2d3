theorem vm_b2 {a b : Bool} (h1 : a = true) (h2 : b = true) : (a && b) = true := by rw [h1, h2]; rfl
theorem vm_hG {G : List vm_Sh} {o : Nat} {sh : vm_Sh} (h : G[o]? = some sh) : vm_isG G o sh = true := decide_eq_true h
theorem vm_in_n {j n : Nat} (h1 : j < n) (h2 : n < 2147483648) : vm_in (nI j) n = true := decide_eq_true (nI_in h1 h2)
theorem vm_in_e {x : Int32} {j n : Nat} (h : x = nI j) (h1 : j < n) (h2 : n < 2147483648) : vm_in x n = true := by rw [h]; exact vm_in_n h1 h2
theorem vm_ix_n {j : Nat} (h1 : j < 2147483648) : (nI j).toNatClampNeg = j := nI_clamp h1
theorem vm_ix_e {x : Int32} {j : Nat} (h : x = nI j) (h1 : j < 2147483648) : x.toNatClampNeg = j := by rw [h]; exact nI_clamp h1
theorem vm_na (a b : Nat) : nI (a + b) = nI a + nI b := by simp [nI, Int32.ofNat_add]
theorem vm_nm (a b : Nat) : nI (a * b) = nI a * nI b := by simp [nI, Int32.ofNat_mul]
theorem vm_pa {x y : Int32} {a b : Nat} (h1 : x = nI a) (h2 : y = nI b) : x + y = nI (a + b) := by rw [h1, h2, vm_na]
theorem vm_pm {x y : Int32} {a b : Nat} (h1 : x = nI a) (h2 : y = nI b) : x * y = nI (a * b) := by rw [h1, h2, vm_nm]
theorem vm_ps {x y : Int32} {a b : Nat} (h1 : x = nI a) (h2 : y = nI b) (h : b ≤ a) : x - y = nI (a - b) := by
  have e : nI a = nI (a - b) + nI b := by rw [← vm_na, Nat.sub_add_cancel h]
  rw [h1, h2, e]
  exact Int32.add_sub_cancel _ _
theorem vm_ne_i {a b : Nat} (ha : a < 2147483648) (hb : b < 2147483648) (h : nI a = nI b) : a = b := by
  have h1 := nI_toInt (n := a) ha
  have h2 := nI_toInt (n := b) hb
  rw [h, h2] at h1
  omega
theorem vm_lt_i {a b : Nat} (ha : a < 2147483648) (hb : b < 2147483648) : nI a < nI b ↔ a < b := by
  rw [Int32.lt_iff_toInt_lt, nI_toInt ha, nI_toInt hb]
  omega
theorem vm_le_i {a b : Nat} (ha : a < 2147483648) (hb : b < 2147483648) : nI a ≤ nI b ↔ a ≤ b := by
  rw [Int32.le_iff_toInt_le, nI_toInt ha, nI_toInt hb]
  omega
theorem vm_eq_t {a b : Nat} (ha : a < 2147483648) (hb : b < 2147483648) (h : vm_ic .eq (nI a) (nI b) = true) : a = b := by
  have h1 : nI a = nI b := of_decide_eq_true h
  exact vm_ne_i ha hb h1
theorem vm_eq_f {a b : Nat} (ha : a < 2147483648) (hb : b < 2147483648) (h : vm_ic .eq (nI a) (nI b) = false) : a ≠ b := by
  have h1 : ¬ (nI a = nI b) := of_decide_eq_false h
  exact fun e => h1 (by rw [e])
theorem vm_ne_t {a b : Nat} (ha : a < 2147483648) (hb : b < 2147483648) (h : vm_ic .ne (nI a) (nI b) = true) : a ≠ b := by
  have h1 : ¬ nI a = nI b := of_decide_eq_true h
  exact fun e => h1 (by rw [e])
theorem vm_ne_f {a b : Nat} (ha : a < 2147483648) (hb : b < 2147483648) (h : vm_ic .ne (nI a) (nI b) = false) : a = b := by
  have h1 : ¬ (¬ nI a = nI b) := of_decide_eq_false h
  exact vm_ne_i ha hb (Decidable.byContradiction h1)
theorem vm_lt_t {a b : Nat} (ha : a < 2147483648) (hb : b < 2147483648) (h : vm_ic .lt (nI a) (nI b) = true) : a < b := by
  have h1 : nI a < nI b := of_decide_eq_true h
  exact (vm_lt_i ha hb).mp h1
theorem vm_lt_f {a b : Nat} (ha : a < 2147483648) (hb : b < 2147483648) (h : vm_ic .lt (nI a) (nI b) = false) : b ≤ a := by
  have h1 : ¬ (nI a < nI b) := of_decide_eq_false h
  exact Nat.le_of_not_lt fun q => h1 ((vm_lt_i ha hb).mpr q)
theorem vm_ge_t {a b : Nat} (ha : a < 2147483648) (hb : b < 2147483648) (h : vm_ic .ge (nI a) (nI b) = true) : b ≤ a := by
  have h1 : nI b ≤ nI a := of_decide_eq_true h
  exact (vm_le_i hb ha).mp h1
theorem vm_ge_f {a b : Nat} (ha : a < 2147483648) (hb : b < 2147483648) (h : vm_ic .ge (nI a) (nI b) = false) : a < b := by
  have h1 : ¬ (nI b ≤ nI a) := of_decide_eq_false h
  exact Nat.lt_of_not_le fun q => h1 ((vm_le_i hb ha).mpr q)
theorem vm_gt_t {a b : Nat} (ha : a < 2147483648) (hb : b < 2147483648) (h : vm_ic .gt (nI a) (nI b) = true) : b < a := by
  have h1 : nI b < nI a := of_decide_eq_true h
  exact (vm_lt_i hb ha).mp h1
theorem vm_gt_f {a b : Nat} (ha : a < 2147483648) (hb : b < 2147483648) (h : vm_ic .gt (nI a) (nI b) = false) : a ≤ b := by
  have h1 : ¬ (nI b < nI a) := of_decide_eq_false h
  exact Nat.le_of_not_lt fun q => h1 ((vm_lt_i hb ha).mpr q)
theorem vm_le_t {a b : Nat} (ha : a < 2147483648) (hb : b < 2147483648) (h : vm_ic .le (nI a) (nI b) = true) : a ≤ b := by
  have h1 : nI a ≤ nI b := of_decide_eq_true h
  exact (vm_le_i ha hb).mp h1
theorem vm_le_f {a b : Nat} (ha : a < 2147483648) (hb : b < 2147483648) (h : vm_ic .le (nI a) (nI b) = false) : b < a := by
  have h1 : ¬ (nI a ≤ nI b) := of_decide_eq_false h
  exact Nat.lt_of_not_le fun q => h1 ((vm_le_i ha hb).mpr q)
/-- a loop by a measure: any state at its head -/
theorem vm_J.iter {l : Launch} {X : vm_Cx} {M : vm_M} {h' : vm_H} {r : Option Value} {σ : Type} (f : σ → vm_F) (h : σ → vm_H) (P : σ → Prop) (m : σ → Nat) (step : ∀ s, P s → (∀ s', P s' → m s' < m s → vm_J l X M (f s') (h s') r h') → vm_J l X M (f s) (h s) r h') : ∀ s, P s → vm_J l X M (f s) (h s) r h' := by
  have key : ∀ n s, m s < n → P s → vm_J l X M (f s) (h s) r h' := by
    intro n
    induction n with
    | zero => intro s h; omega
    | succ n ih =>
      intro s hm hp
      exact step s hp fun s' hp' hlt => ih s' (by omega) hp'
  exact fun s hp => key _ s (Nat.lt_succ_self _) hp
/-- a loop that is counted up to n, with what holds at each head -/
theorem vm_J.count {l : Launch} {X : vm_Cx} {M : vm_M} {h' : vm_H} {r : Option Value} (n : Nat) (f : Nat → vm_F) (h : Nat → vm_H) (P : Nat → Prop) (step : ∀ j, j < n → P j → (P (j + 1) → vm_J l X M (f (j + 1)) (h (j + 1)) r h') → vm_J l X M (f j) (h j) r h') (out : P n → vm_J l X M (f n) (h n) r h') (h0 : P 0) : vm_J l X M (f 0) (h 0) r h' := by
  have key : ∀ k, k ≤ n → P (n - k) → vm_J l X M (f (n - k)) (h (n - k)) r h' := by
    intro k
    induction k with
    | zero => intro _ hp; exact out hp
    | succ k ih =>
      intro hk hp
      refine step (n - (k + 1)) (by omega) hp ?_
      rw [show n - (k + 1) + 1 = n - k by omega]
      exact ih (by omega)
  have := key n (Nat.le_refl n)
  rw [Nat.sub_self] at this
  exact this h0
theorem vm_J.end {l : Launch} {X : vm_Cx} {M : vm_M} (hM : vm_OK M) {f : vm_F} {h h' : vm_H} {r : Option Value} {en : vm_E} (hen : vm_get (vm_mc M) f.1 = some en) (hst : f.2.2.2 = r.toList) (hrt : vm_rt en.2.1 (vm_mt M) r) (h1 : f.2.1.1 ≤ (vm_mr M).cells) (h2 : f.2.1.2 ≤ (vm_mr M).slots) (hh : h = h') : vm_J l X M f h r h' := by
  subst hh
  exact vm_J.ret hM hen hrt hst h1 h2
/-- the same, from a state that is the first one's by equalities -/
theorem vm_J.cnt {l : Launch} {X : vm_Cx} {M : vm_M} {h' : vm_H} {r : Option Value} {fr : vm_F} {hp : vm_H} (n : Nat) (f : Nat → vm_F) (h : Nat → vm_H) (P : Nat → Prop) (e1 : fr = f 0) (e2 : hp = h 0) (h0 : P 0) (step : ∀ j, j < n → P j → (P (j + 1) → vm_J l X M (f (j + 1)) (h (j + 1)) r h') → vm_J l X M (f j) (h j) r h') (out : P n → vm_J l X M (f n) (h n) r h') : vm_J l X M fr hp r h' := by
  rw [e1, e2]
  exact vm_J.count n f h P step out h0
