/-- BOXES. Counting; an element put in adds itself to every sum -/
theorem cl_ck_seg {p : Nat → Prop} [DecidablePred p] {j : Nat} : ∀ {m : Nat}, (∀ k, k < j → p k) → (∀ k, j ≤ k → k < m → ¬ p k) → j ≤ m → cl_ck p m = j
  | 0, _, _, h => by
    have : j = 0 := by omega
    subst this
    rfl
  | m + 1, h1, h2, h => by
    show cl_ck p m + (if p m then 1 else 0) = j
    by_cases e : j = m + 1
    · have a : ∀ q, q ≤ m → cl_ck p q = q := by
        intro q
        induction q with
        | zero => exact fun _ => rfl
        | succ q ih =>
          intro hq
          show cl_ck p q + (if p q then 1 else 0) = q + 1
          rw [ih (by omega), if_pos (h1 q (by omega))]
      rw [a m (Nat.le_refl _), if_pos (h1 m (by omega)), e]
    · rw [cl_ck_seg h1 (fun k a b => h2 k a (by omega)) (by omega), if_neg (h2 m (by omega) (by omega)), Nat.add_zero]
theorem cl_ck_pos {p : Nat → Prop} [DecidablePred p] : ∀ {n : Nat}, 0 < cl_ck p n ↔ ∃ k, k < n ∧ p k
  | 0 => ⟨fun h => absurd h (Nat.lt_irrefl 0), fun ⟨k, hk, _⟩ => absurd hk (Nat.not_lt_zero k)⟩
  | n + 1 => by
    show 0 < cl_ck p n + (if p n then 1 else 0) ↔ _
    by_cases c : p n
    · rw [if_pos c]
      exact ⟨fun _ => ⟨n, Nat.lt_succ_self n, c⟩, fun _ => Nat.succ_pos _⟩
    · rw [if_neg c, Nat.add_zero, cl_ck_pos]
      constructor
      · intro ⟨k, hk, hp⟩
        exact ⟨k, by omega, hp⟩
      · intro ⟨k, hk, hp⟩
        by_cases e : k = n
        · exact absurd (e ▸ hp) c
        · exact ⟨k, by omega, hp⟩
/-- a weakly sorted stretch: what lies below stands first -/
theorem cl_ck_dn {p : Nat → Prop} [DecidablePred p] {m i : Nat} (hd : ∀ a b, a < b → b < m → p b → p a) (hi : i < m) : p i ↔ i < cl_ck p m := by
  rcases cl_fst (fun k => ¬ p k) m with a | ⟨j, hj, a, b⟩
  · have e := cl_ck_seg (p := p) (j := m) (m := m) (fun k hk => Decidable.not_not.mp (a k hk)) (fun k h1 h2 => by omega) (Nat.le_refl m)
    rw [e]
    exact ⟨fun _ => hi, fun _ => Decidable.not_not.mp (a i hi)⟩
  · have e := cl_ck_seg (p := p) (j := j) (m := m) (fun k hk => Decidable.not_not.mp (b k hk)) (fun k h1 h2 z => by
      by_cases c : j = k
      · exact a (c ▸ z)
      · exact a (hd j k (by omega) h2 z)) (by omega)
    rw [e]
    constructor
    · intro z
      by_cases c : i < j
      · exact c
      · by_cases c2 : i = j
        · exact absurd (c2 ▸ z) a
        · exact absurd (hd j i (by omega) hi z) a
    · exact fun z => Decidable.not_not.mp (b i z)
theorem bx_in (a : Nat → Int32) {p : Nat} {c : Int32} : ∀ {n : Nat}, p ≤ n → sp_sum (tl_in a p c) (n + 1) = sp_sum a n + c
  | n, hp => by
    by_cases e : p = n
    · subst e
      show sp_sum (tl_in a p c) p + tl_in a p c p = _
      rw [show tl_in a p c p = c from if_pos rfl]
      congr 1
      refine sp_sum_ext fun k hk => ?_
      unfold tl_in
      rw [if_neg (by omega), if_pos hk]
    · obtain ⟨m, rfl⟩ : ∃ m, n = m + 1 := ⟨n - 1, by omega⟩
      show sp_sum (tl_in a p c) (m + 1) + tl_in a p c (m + 1) = sp_sum a m + a m + c
      rw [bx_in a (n := m) (by omega), show tl_in a p c (m + 1) = a m by unfold tl_in; rw [if_neg (by omega), if_neg (by omega)]; rfl, Int32.add_assoc, Int32.add_assoc, Int32.add_comm c]
theorem sp_sum_tl {a b : Nat → Int32} {n : Nat} (h : sp_sum a n = sp_sum b n) : ∀ {m : Nat}, n ≤ m → (∀ k, n ≤ k → k < m → a k = b k) → sp_sum a m = sp_sum b m
  | 0, hm, _ => by
    have : n = 0 := by omega
    subst this
    exact h
  | m + 1, hm, hk => by
    by_cases e : n = m + 1
    · rw [← e]
      exact h
    · show sp_sum a m + a m = sp_sum b m + b m
      rw [sp_sum_tl h (by omega) fun k h1 h2 => hk k h1 (by omega), hk m (by omega) (by omega)]
/-- a colour's place by a channel -/
def bx_ky (k c : Int32) : Int := (sp_ch c k).toInt * 4294967296 + c.toInt
theorem bx_bh {c o k : Int32} : sp_bh c o k ↔ bx_ky k o < bx_ky k c := by
  unfold sp_bh bx_ky
  have h1 := Int32.toInt_lt c
  have h2 := Int32.toInt_lt o
  have h3 := Int32.le_toInt c
  have h4 := Int32.le_toInt o
  rw [Int32.lt_iff_toInt_lt, Int32.lt_iff_toInt_lt, ← Int32.toInt_inj]
  omega
theorem bx_kyi {k c o : Int32} (h : bx_ky k c = bx_ky k o) : c = o := by
  unfold bx_ky at h
  have h1 := Int32.toInt_lt c
  have h2 := Int32.toInt_lt o
  have h3 := Int32.le_toInt c
  have h4 := Int32.le_toInt o
  rw [← Int32.toInt_inj]
  omega
theorem bx_ins {κ : Int32 → Int} {a : Nat → Int32} {p n : Nat} {c : Int32} (hs : ∀ i j, i < j → j < n → κ (a i) ≤ κ (a j)) (h1 : ∀ u, u < p → κ (a u) ≤ κ c) (h2 : ∀ u, p ≤ u → u < n → κ c ≤ κ (a u)) (hp : p ≤ n) : ∀ i j, i < j → j < n + 1 → κ (tl_in a p c i) ≤ κ (tl_in a p c j) := by
  intro i j hij hj
  unfold tl_in
  by_cases a1 : i = p
  · rw [if_pos a1, if_neg (by omega), if_neg (by omega)]
    exact h2 (j - 1) (by omega) (by omega)
  · rw [if_neg a1]
    by_cases b : j = p
    · rw [if_pos b, if_pos (by omega)]
      exact h1 i (by omega)
    · rw [if_neg b]
      by_cases b2 : j < p
      · rw [if_pos b2, if_pos (by omega)]
        exact hs i j hij (by omega)
      · rw [if_neg b2]
        by_cases a2 : i < p
        · rw [if_pos a2]
          exact Int.le_trans (h1 i a2) (h2 (j - 1) (by omega) (by omega))
        · rw [if_neg a2]
          exact hs (i - 1) (j - 1) (by omega) (by omega)
/-- one element of the class's stretch put in its place -/
theorem bx_is1 (I : Nat → Nat → Int32) {a b i s : Nat} (k : Int32) (x : Nat) (hab : a ≠ b) (hs : s ≤ i) (z : Nat) : (z ≤ i → vm_is1 I a b k x i s a z = tl_in (I a) (i - s) (I a i) z ∧ vm_is1 I a b k x i s b z = tl_in (I b) (i - s) (I b i) z) ∧ (i < z → vm_is1 I a b k x i s a z = I a z ∧ vm_is1 I a b k x i s b z = I b z) := by
  have e : vm_is1 I a b k x i s = vm_up (vm_up (vm_tw2 I a b i (i - (i - s))) a (i - s) (I a i)) b (i - s) (I b i) := by
    rw [show i - (i - s) = s by omega]
    rfl
  rw [e]
  refine ⟨fun hz => tl_row I (p := i - s) (I a i) (I b i) hab (by omega) z (by omega), fun hz => ?_⟩
  unfold vm_tw2 vm_up vm_wq
  simp [hab, Ne.symm hab, show ¬ z = i - s by omega, show ¬ (i - (i - (i - s)) + 1 ≤ z ∧ z < i - (i - (i - s)) + 1 + (i - (i - s))) by omega]
theorem bx_off (a : Nat → Int32) {p x u : Nat} {c : Int32} (hx : x ≤ p) : tl_in a p c (x + u) = tl_in (fun u => a (x + u)) (p - x) c u := by
  have a1 : x + u = p ↔ u = p - x := by omega
  have a2 : x + u < p ↔ u < p - x := by omega
  have a3 : ¬ x + u = p → ¬ x + u < p → x + u - 1 = x + (u - 1) := by omega
  unfold tl_in
  by_cases e : x + u = p
  · rw [if_pos e, if_pos (a1.mp e)]
  · rw [if_neg e, if_neg fun z => e (a1.mpr z)]
    by_cases e2 : x + u < p
    · rw [if_pos e2, if_pos (a2.mp e2)]
    · rw [if_neg e2, if_neg fun z => e2 (a2.mpr z)]
      show a (x + u - 1) = a (x + (u - 1))
      rw [a3 e e2]
/-- the class's sort: outside nothing, inside the same elements, sorted -/
theorem bx_srt (I : Nat → Nat → Int32) {a b x : Nat} (k : Int32) (hab : a ≠ b) : ∀ j, (∀ z, (z < x ∨ x + j < z) → vm_srt I a b k x j a z = I a z ∧ vm_srt I a b k x j b z = I b z) ∧ (∀ (φ : Int32 → Int32 → Int32) m, j + 1 ≤ m → sp_sum (fun u => φ (vm_srt I a b k x j a (x + u)) (vm_srt I a b k x j b (x + u))) m = sp_sum (fun u => φ (I a (x + u)) (I b (x + u))) m) ∧ ∀ u v, u < v → v < j + 1 → bx_ky k (vm_srt I a b k x j a (x + u)) ≤ bx_ky k (vm_srt I a b k x j a (x + v))
  | 0 => ⟨fun _ _ => ⟨rfl, rfl⟩, fun _ _ _ => rfl, fun u v h1 h2 => by omega⟩
  | j + 1 => by
    obtain ⟨i1, i2, i3⟩ := bx_srt I (x := x) k hab j
    have hs : sp_ip (vm_srt I a b k x j a) k x (x + 1 + j) ≤ x + 1 + j - x := sp_fi_le
    have e : vm_srt I a b k x (j + 1) = vm_is1 (vm_srt I a b k x j) a b k x (x + 1 + j) (sp_ip (vm_srt I a b k x j a) k x (x + 1 + j)) := rfl
    rw [e]
    have T := fun z => bx_is1 (vm_srt I a b k x j) (i := x + 1 + j) (s := sp_ip (vm_srt I a b k x j a) k x (x + 1 + j)) k x hab (by omega) z
    refine ⟨fun z hz => ?_, fun φ m hm => ?_, ?_⟩
    · rcases hz with hz | hz
      · obtain ⟨t1, t2⟩ := (T z).1 (by omega)
        rw [t1, t2]
        have q : ∀ f : Nat → Int32, ∀ c, tl_in f (x + 1 + j - sp_ip (vm_srt I a b k x j a) k x (x + 1 + j)) c z = f z := fun f c => by
          unfold tl_in
          rw [if_neg (by omega), if_pos (by omega)]
        rw [q, q]
        exact i1 z (Or.inl hz)
      · obtain ⟨t1, t2⟩ := (T z).2 (by omega)
        rw [t1, t2]
        exact i1 z (Or.inr (by omega))
    · refine Eq.trans ?_ (i2 φ m (by omega))
      have h2 : sp_sum (fun u => φ (vm_is1 (vm_srt I a b k x j) a b k x (x + 1 + j) (sp_ip (vm_srt I a b k x j a) k x (x + 1 + j)) a (x + u)) (vm_is1 (vm_srt I a b k x j) a b k x (x + 1 + j) (sp_ip (vm_srt I a b k x j a) k x (x + 1 + j)) b (x + u))) (1 + j + 1) = sp_sum (fun u => φ (vm_srt I a b k x j a (x + u)) (vm_srt I a b k x j b (x + u))) (1 + j + 1) := by
        have q := bx_in (fun u => φ (vm_srt I a b k x j a (x + u)) (vm_srt I a b k x j b (x + u))) (p := x + 1 + j - sp_ip (vm_srt I a b k x j a) k x (x + 1 + j) - x) (c := φ (vm_srt I a b k x j a (x + (1 + j))) (vm_srt I a b k x j b (x + (1 + j)))) (n := 1 + j) (by omega)
        refine Eq.trans (sp_sum_ext fun u hu => ?_) q
        obtain ⟨t1, t2⟩ := (T (x + u)).1 (by omega)
        rw [t1, t2, bx_off _ (by omega), bx_off _ (by omega)]
        unfold tl_in
        rw [show x + 1 + j = x + (1 + j) by omega]
        split
        · rfl
        · split <;> rfl
      refine sp_sum_tl h2 (by omega) fun u h3 h4 => ?_
      obtain ⟨t1, t2⟩ := (T (x + u)).2 (by omega)
      rw [t1, t2]
    · have q := bx_ins (κ := bx_ky k) (a := fun u => vm_srt I a b k x j a (x + u)) (p := x + 1 + j - sp_ip (vm_srt I a b k x j a) k x (x + 1 + j) - x) (n := j + 1) (c := vm_srt I a b k x j a (x + 1 + j)) i3
      have hb : ∀ t, t < sp_ip (vm_srt I a b k x j a) k x (x + 1 + j) → bx_ky k (vm_srt I a b k x j a (x + 1 + j)) < bx_ky k (vm_srt I a b k x j a (x + 1 + j - t - 1)) := by
        intro t ht
        rcases cl_fst (fun t => ¬ sp_bh (vm_srt I a b k x j a (x + 1 + j - t - 1)) (vm_srt I a b k x j a (x + 1 + j)) k) (x + 1 + j - x) with c | ⟨r, hr, c1, c2⟩
        · exact bx_bh.mp (Decidable.not_not.mp (c t (by omega)))
        · have e2 : sp_ip (vm_srt I a b k x j a) k x (x + 1 + j) = r := sp_fi_hit (p := fun t => ¬ sp_bh (vm_srt I a b k x j a (x + 1 + j - t - 1)) (vm_srt I a b k x j a (x + 1 + j)) k) hr c2 c1
          exact bx_bh.mp (Decidable.not_not.mp (c2 t (by omega)))
      have hn : sp_ip (vm_srt I a b k x j a) k x (x + 1 + j) < x + 1 + j - x → bx_ky k (vm_srt I a b k x j a (x + 1 + j - sp_ip (vm_srt I a b k x j a) k x (x + 1 + j) - 1)) ≤ bx_ky k (vm_srt I a b k x j a (x + 1 + j)) := by
        intro z
        have c : ¬ sp_bh (vm_srt I a b k x j a (x + 1 + j - sp_ip (vm_srt I a b k x j a) k x (x + 1 + j) - 1)) (vm_srt I a b k x j a (x + 1 + j)) k := (sp_fi_ok (p := fun t => ¬ sp_bh (vm_srt I a b k x j a (x + 1 + j - t - 1)) (vm_srt I a b k x j a (x + 1 + j)) k) z).1
        exact Int.not_lt.mp fun y => c (bx_bh.mpr y)
      have q2 := q (fun u hu => by
        show bx_ky k (vm_srt I a b k x j a (x + u)) ≤ _
        have c := hn (by omega)
        by_cases d : x + u = x + 1 + j - sp_ip (vm_srt I a b k x j a) k x (x + 1 + j) - 1
        · rw [d]
          exact c
        · refine Int.le_trans ?_ c
          have y := i3 u (x + 1 + j - sp_ip (vm_srt I a b k x j a) k x (x + 1 + j) - 1 - x) (by omega) (by omega)
          rw [show x + (x + 1 + j - sp_ip (vm_srt I a b k x j a) k x (x + 1 + j) - 1 - x) = x + 1 + j - sp_ip (vm_srt I a b k x j a) k x (x + 1 + j) - 1 by omega] at y
          exact y) (fun u h1 h2 => by
        show _ ≤ bx_ky k (vm_srt I a b k x j a (x + u))
        have c := hb (x + 1 + j - (x + u) - 1) (by omega)
        rw [show x + 1 + j - (x + 1 + j - (x + u) - 1) - 1 = x + u by omega] at c
        omega) (by omega)
      intro u v huv hv
      have y := q2 u v huv (by omega)
      rw [((T (x + u)).1 (by omega)).1, ((T (x + v)).1 (by omega)).1, bx_off _ (by omega), bx_off _ (by omega)]
      exact y
