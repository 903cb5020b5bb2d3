/-- BOXES: sums over a stretch and over marks are the same for every measure -/
def bx_S (A B : Nat → Int32) (x m : Nat) (f h g : Nat → Int32) (v : Int32) (n : Nat) : Prop := ∀ φ : Int32 → Int32 → Int32, sp_sum (fun u => φ (A (x + u)) (B (x + u))) m = sp_sum (fun j => if g j = v then φ (f j) (h j) else 0) n
theorem bx_ckm {g : Nat → Int32} {v : Int32} {p : Nat → Prop} [DecidablePred p] : ∀ {n : Nat}, sp_sum (fun j => if g j = v then (if p j then 1 else 0) else 0) n = nI (cl_ck (fun j => g j = v ∧ p j) n)
  | 0 => rfl
  | n + 1 => by
    show sp_sum _ n + (if g n = v then (if p n then 1 else 0) else 0) = nI (cl_ck (fun j => g j = v ∧ p j) n + if g n = v ∧ p n then 1 else 0)
    rw [bx_ckm]
    by_cases a : g n = v
    · by_cases b : p n
      · rw [if_pos a, if_pos b, if_pos ⟨a, b⟩]
        exact vm_pa rfl (y := 1) (b := 1) rfl
      · rw [if_pos a, if_neg b, if_neg fun z => b z.2]
        exact vm_pa rfl (y := 0) (b := 0) rfl
    · rw [if_neg a, if_neg fun z => a z.1]
      exact vm_pa rfl (y := 0) (b := 0) rfl
theorem bx_ck {A B f h g : Nat → Int32} {v : Int32} {x m n : Nat} (S : bx_S A B x m f h g v n) (hm : m ≤ 144) (hn : n ≤ 144) (P : Int32 → Int32 → Prop) [∀ a b, Decidable (P a b)] : cl_ck (fun u => P (A (x + u)) (B (x + u))) m = cl_ck (fun j => g j = v ∧ P (f j) (h j)) n := by
  have e := S fun a b => if P a b then 1 else 0
  rw [sp_sum_cl, bx_ckm] at e
  have h1 := cl_ck_n (fun u => P (A (x + u)) (B (x + u))) m
  have h2 := cl_ck_n (fun j => g j = v ∧ P (f j) (h j)) n
  exact cl_nI e (by omega) (by omega)
theorem bx_ex {A B f h g : Nat → Int32} {v : Int32} {x m n : Nat} (S : bx_S A B x m f h g v n) (hm : m ≤ 144) (hn : n ≤ 144) (P : Int32 → Int32 → Prop) [∀ a b, Decidable (P a b)] : (∃ u, u < m ∧ P (A (x + u)) (B (x + u))) ↔ ∃ j, j < n ∧ g j = v ∧ P (f j) (h j) := by
  have e := bx_ck S hm hn P
  have a := cl_ck_pos (p := fun u => P (A (x + u)) (B (x + u))) (n := m)
  have b := cl_ck_pos (p := fun j => g j = v ∧ P (f j) (h j)) (n := n)
  rw [e] at a
  exact a.symm.trans b
/-- the reference's order of a box holds the same elements -/
theorem bx_or (f g : Nat → Int32) (x k : Int32) (a : Nat → Int32) : ∀ j, sp_sum (fun p => a ((vr_or f g x k j).1 p)) (vr_or f g x k j).2 = sp_sum (fun i => if g i = x then a i else 0) j
  | 0 => rfl
  | j + 1 => by
    have ih := bx_or f g x k a j
    have hs := vr_os_l f k (vr_or f g x k j).1 (vr_or f g x k j).2 j
    show sp_sum (fun p => a ((if g j = x then (vr_oi (vr_or f g x k j).1 (vr_or f g x k j).2 (vr_os f k (vr_or f g x k j).1 (vr_or f g x k j).2 j) j, (vr_or f g x k j).2 + 1) else vr_or f g x k j).1 p)) (if g j = x then (vr_oi (vr_or f g x k j).1 (vr_or f g x k j).2 (vr_os f k (vr_or f g x k j).1 (vr_or f g x k j).2 j) j, (vr_or f g x k j).2 + 1) else vr_or f g x k j).2 = sp_sum (fun i => if g i = x then a i else 0) j + (if g j = x then a j else 0)
    by_cases c : g j = x
    · rw [if_pos c, if_pos c, ← ih]
      have q := bx_in (fun p => a ((vr_or f g x k j).1 p)) (p := (vr_or f g x k j).2 - vr_os f k (vr_or f g x k j).1 (vr_or f g x k j).2 j) (c := a j) (n := (vr_or f g x k j).2) (by omega)
      refine Eq.trans (sp_sum_ext fun p hp => ?_) q
      show a (vr_oi _ _ _ _ p) = _
      unfold vr_oi tl_in
      by_cases d : p = (vr_or f g x k j).2 - vr_os f k (vr_or f g x k j).1 (vr_or f g x k j).2 j
      · rw [if_pos d, if_neg (by omega), if_pos d]
      · rw [if_neg d, if_neg d]
        split <;> rfl
    · rw [if_neg c, if_neg c, ih]
      exact (Int32.add_zero _).symm
/-- and is sorted -/
theorem bx_ors {f g : Nat → Int32} {x : Int32} (k : Int32) {n : Nat} (hf : sp_so f n) : ∀ j, j ≤ n → ∀ p q, p < q → q < (vr_or f g x k j).2 → bx_ky k (f ((vr_or f g x k j).1 p)) ≤ bx_ky k (f ((vr_or f g x k j).1 q))
  | 0, _, p, q, _, hq => absurd hq (Nat.not_lt_zero q)
  | j + 1, hj, p, q, hpq, hq => by
    have ih := bx_ors (g := g) (x := x) k hf j (by omega)
    have hb := vr_or_b f g x k j
    have hs := vr_os_l f k (vr_or f g x k j).1 (vr_or f g x k j).2 j
    by_cases c : g j = x
    · have e : vr_or f g x k (j + 1) = (vr_oi (vr_or f g x k j).1 (vr_or f g x k j).2 (vr_os f k (vr_or f g x k j).1 (vr_or f g x k j).2 j) j, (vr_or f g x k j).2 + 1) := if_pos c
      rw [e] at hq ⊢
      have T : ∀ p, f (vr_oi (vr_or f g x k j).1 (vr_or f g x k j).2 (vr_os f k (vr_or f g x k j).1 (vr_or f g x k j).2 j) j p) = tl_in (fun p => f ((vr_or f g x k j).1 p)) ((vr_or f g x k j).2 - vr_os f k (vr_or f g x k j).1 (vr_or f g x k j).2 j) (f j) p := fun p => by
        unfold vr_oi tl_in
        by_cases d : p = (vr_or f g x k j).2 - vr_os f k (vr_or f g x k j).1 (vr_or f g x k j).2 j
        · rw [if_pos d, if_neg (by omega), if_pos d]
        · rw [if_neg d, if_neg d]
          split <;> rfl
      show bx_ky k (f (vr_oi _ _ _ _ p)) ≤ bx_ky k (f (vr_oi _ _ _ _ q))
      rw [T, T]
      have lt1 : ∀ t, t < (vr_or f g x k j).2 → (f ((vr_or f g x k j).1 t)).toInt < (f j).toInt := fun t ht => Int32.lt_iff_toInt_lt.mp (hf _ _ (hb.2 t ht).1 (by omega))
      have Y : ∀ t, t < vr_os f k (vr_or f g x k j).1 (vr_or f g x k j).2 j → sp_ch (f j) k < sp_ch (f ((vr_or f g x k j).1 ((vr_or f g x k j).2 - t - 1))) k := by
        intro t ht
        rcases cl_fst (fun t => ¬ sp_ch (f j) k < sp_ch (f ((vr_or f g x k j).1 ((vr_or f g x k j).2 - t - 1))) k) (vr_or f g x k j).2 with c1 | ⟨r, hr, c1, c2⟩
        · exact Decidable.not_not.mp (c1 t (by omega))
        · have e2 := vr_os_h (f := f) (k := k) (o := (vr_or f g x k j).1) hr (fun u hu => Decidable.not_not.mp (c2 u hu)) c1
          exact Decidable.not_not.mp (c2 t (by omega))
      have N : vr_os f k (vr_or f g x k j).1 (vr_or f g x k j).2 j < (vr_or f g x k j).2 → ¬ sp_ch (f j) k < sp_ch (f ((vr_or f g x k j).1 ((vr_or f g x k j).2 - vr_os f k (vr_or f g x k j).1 (vr_or f g x k j).2 j - 1))) k := fun z => (sp_fi_ok (p := fun t => ¬ sp_ch (f j) k < sp_ch (f ((vr_or f g x k j).1 ((vr_or f g x k j).2 - t - 1))) k) z).1
      refine bx_ins (κ := bx_ky k) (a := fun p => f ((vr_or f g x k j).1 p)) (n := (vr_or f g x k j).2) ih (fun u hu => ?_) (fun u h1 h2 => ?_) (by omega) p q hpq hq
      · have y := N (by omega)
        have z := lt1 ((vr_or f g x k j).2 - vr_os f k (vr_or f g x k j).1 (vr_or f g x k j).2 j - 1) (by omega)
        have w : bx_ky k (f ((vr_or f g x k j).1 ((vr_or f g x k j).2 - vr_os f k (vr_or f g x k j).1 (vr_or f g x k j).2 j - 1))) ≤ bx_ky k (f j) := by
          rw [Int32.lt_iff_toInt_lt] at y
          unfold bx_ky
          omega
        by_cases d : u = (vr_or f g x k j).2 - vr_os f k (vr_or f g x k j).1 (vr_or f g x k j).2 j - 1
        · rw [← d] at w
          exact w
        · exact Int.le_trans (ih u _ (by omega) (by omega)) w
      · have y := Y ((vr_or f g x k j).2 - u - 1) (by omega)
        rw [show (vr_or f g x k j).2 - ((vr_or f g x k j).2 - u - 1) - 1 = u by omega, Int32.lt_iff_toInt_lt] at y
        have z1 := Int32.toInt_lt (f j)
        have z2 := Int32.le_toInt (f ((vr_or f g x k j).1 u))
        show bx_ky k (f j) ≤ bx_ky k (f ((vr_or f g x k j).1 u))
        unfold bx_ky
        omega
    · rw [vr_or_n c] at hq ⊢
      exact ih p q hpq hq
/-- two sorted orders of the same elements are the same -/
theorem bx_sq {A B f h g : Nat → Int32} {v k : Int32} {x m n : Nat} {o : Nat → Nat} (S : bx_S A B x m f h g v n) (So : ∀ a : Nat → Int32, sp_sum (fun p => a (o p)) m = sp_sum (fun i => if g i = v then a i else 0) n) (hm : m ≤ 144) (hn : n ≤ 144) (hA : ∀ i j, i < j → j < m → bx_ky k (A (x + i)) ≤ bx_ky k (A (x + j))) (hB : ∀ i j, i < j → j < m → bx_ky k (f (o i)) ≤ bx_ky k (f (o j))) (hf : sp_so f n) (ho : ∀ p, p < m → o p < n ∧ g (o p) = v) (hi : ∀ p q, p < m → q < m → o p = o q → p = q) {u : Nat} (hu : u < m) : A (x + u) = f (o u) ∧ B (x + u) = h (o u) := by
  have inj : ∀ i j, i < n → j < n → f i = f j → i = j := fun i j h1 h2 e => by
    by_cases c : i < j
    · exact absurd (hf i j c h2) (by rw [e]; exact cl_lti _)
    · by_cases c2 : j < i
      · exact absurd (hf j i c2 h1) (by rw [e]; exact cl_lti _)
      · omega
  have hBs : ∀ i j, i < j → j < m → bx_ky k (f (o i)) < bx_ky k (f (o j)) := fun i j h1 h2 => by
    have a := hB i j h1 h2
    by_cases c : bx_ky k (f (o i)) = bx_ky k (f (o j))
    · have := hi i j (by omega) h2 (inj _ _ (ho i (by omega)).1 (ho j h2).1 (bx_kyi c))
      omega
    · omega
  have cnt : ∀ (P : Int32 → Prop) [DecidablePred P], cl_ck (fun u => P (A (x + u))) m = cl_ck (fun p => P (f (o p))) m := fun P _ => by
    have e := S fun a _ => if P a then 1 else 0
    have e2 := So fun j => if P (f j) then 1 else 0
    rw [← e2, sp_sum_cl, sp_sum_cl] at e
    have h1 := cl_ck_n (fun u => P (A (x + u))) m
    have h2 := cl_ck_n (fun p => P (f (o p))) m
    exact cl_nI e (by omega) (by omega)
  have c1 : cl_ck (fun p => bx_ky k (A (x + p)) < bx_ky k (f (o u))) m = u := (cnt fun a => bx_ky k a < bx_ky k (f (o u))).trans (cl_ck_seg (fun p hp => hBs p u hp hu) (fun p h1 h2 => by
    by_cases c : p = u
    · rw [c]
      omega
    · have := hBs u p (by omega) h2
      omega) (by omega))
  have c2 : cl_ck (fun p => bx_ky k (A (x + p)) ≤ bx_ky k (f (o u))) m = u + 1 := (cnt fun a => bx_ky k a ≤ bx_ky k (f (o u))).trans (cl_ck_seg (fun p hp => by
    by_cases c : p = u
    · rw [c]
      omega
    · have := hBs p u (by omega) hu
      omega) (fun p h1 h2 => by
    have := hBs u p (by omega) h2
    omega) (by omega))
  have d1 := cl_ck_dn (p := fun p => bx_ky k (A (x + p)) < bx_ky k (f (o u))) (fun a b h1 h2 h3 => Int.lt_of_le_of_lt (hA a b h1 h2) h3) hu
  have d2 := cl_ck_dn (p := fun p => bx_ky k (A (x + p)) ≤ bx_ky k (f (o u))) (fun a b h1 h2 h3 => Int.le_trans (hA a b h1 h2) h3) hu
  rw [c1] at d1
  rw [c2] at d2
  have d3 : ¬ bx_ky k (A (x + u)) < bx_ky k (f (o u)) := fun z => absurd (d1.mp z) (Nat.lt_irrefl u)
  have d4 : bx_ky k (A (x + u)) ≤ bx_ky k (f (o u)) := d2.mpr (Nat.lt_succ_self u)
  have e : A (x + u) = f (o u) := bx_kyi (Int.le_antisymm d4 (Int.not_lt.mp d3))
  refine ⟨e, ?_⟩
  obtain ⟨j, hj, -, hj2, hj3⟩ := (bx_ex S hm hn fun a b => a = A (x + u) ∧ b = B (x + u)).mp ⟨u, hu, rfl, rfl⟩
  rw [← hj3, inj j (o u) hj (ho u hu).1 (hj2.trans e)]
/-- marks: a part of a box becomes another -/
theorem bx_mk {J : Nat → Nat → Int32} {o : Nat → Nat} {v w : Int32} {m n s : Nat} (hw : ∀ i, i < n → J 161 i ≠ w) (ho : ∀ p, p < m → o p < n ∧ J 161 (o p) = v) (hi : ∀ p q, p < m → q < m → o p = o q → p = q) (hvw : v ≠ w) (a : Nat → Int32) : ∀ {u : Nat}, s + u ≤ m → sp_sum (fun i => if vr_mk J o w s u 161 i = v then a i else 0) n + sp_sum (fun t => a (o (s + t))) u = sp_sum (fun i => if J 161 i = v then a i else 0) n ∧ sp_sum (fun i => if vr_mk J o w s u 161 i = w then a i else 0) n = sp_sum (fun t => a (o (s + t))) u
  | 0, _ => by
    refine ⟨Int32.add_zero _, ?_⟩
    have : ∀ q, q ≤ n → sp_sum (fun i => if J 161 i = w then a i else 0) q = 0 := by
      intro q
      induction q with
      | zero => exact fun _ => rfl
      | succ q ih =>
        intro hq
        show sp_sum (fun i => if J 161 i = w then a i else 0) q + (if J 161 q = w then a q else 0) = 0
        rw [ih (by omega), if_neg (hw q (by omega))]
        rfl
    exact this n (Nat.le_refl n)
  | u + 1, hu => by
    obtain ⟨i1, i2⟩ := bx_mk (s := s) hw ho hi hvw a (u := u) (by omega)
    have hp := ho (s + u) (by omega)
    have hk : vr_mk J o w s u 161 (o (s + u)) = v := by
      rw [vr_mk_n fun t ht z => ?_]
      · exact hp.2
      · have := hi _ _ (by omega) (by omega) z
        omega
    have U : ∀ (x : Int32) i, vr_mk J o w s (u + 1) 161 i = if i = o (s + u) then w else vr_mk J o w s u 161 i := fun x i => by
      show vm_up _ 161 (o (s + u)) w 161 i = _
      unfold vm_up
      rw [if_pos rfl]
    have G : ∀ (q : Nat) (P : Nat → Int32) (c : Int32), q ≤ n → sp_sum (fun i => if i = o (s + u) then c else P i) q + (if o (s + u) < q then P (o (s + u)) else 0) = sp_sum P q + (if o (s + u) < q then c else 0) := by
      intro q P c
      induction q with
      | zero => exact fun _ => rfl
      | succ q ih =>
        intro hq
        have ih := ih (by omega)
        show sp_sum (fun i => if i = o (s + u) then c else P i) q + (if q = o (s + u) then c else P q) + _ = sp_sum P q + P q + _
        by_cases e : q = o (s + u)
        · rw [if_neg (by omega), if_neg (by omega)] at ih
          rw [if_pos e, if_pos (by omega), if_pos (by omega), show P (o (s + u)) = P q from congrArg P e.symm]
          have ih2 := (Int32.add_zero _).symm.trans (ih.trans (Int32.add_zero _))
          rw [ih2, Int32.add_assoc, Int32.add_assoc, Int32.add_comm c]
        · rw [if_neg e]
          by_cases d : o (s + u) < q
          · rw [if_pos d, if_pos d] at ih
            rw [if_pos (by omega), if_pos (by omega), Int32.add_assoc, Int32.add_comm (P q), ← Int32.add_assoc, ih, Int32.add_assoc, Int32.add_comm c, ← Int32.add_assoc]
          · rw [if_neg d, if_neg d] at ih
            rw [if_neg (by omega), if_neg (by omega), Int32.add_zero, Int32.add_zero]
            have ih2 := (Int32.add_zero _).symm.trans (ih.trans (Int32.add_zero _))
            rw [ih2]
    have g1 := G n (fun i => if vr_mk J o w s u 161 i = v then a i else 0) 0 (Nat.le_refl n)
    have g2 := G n (fun i => if vr_mk J o w s u 161 i = w then a i else 0) (a (o (s + u))) (Nat.le_refl n)
    rw [if_pos hp.1, if_pos hp.1] at g1 g2
    have e1 : sp_sum (fun i => if vr_mk J o w s (u + 1) 161 i = v then a i else 0) n = sp_sum (fun i => if i = o (s + u) then 0 else if vr_mk J o w s u 161 i = v then a i else 0) n := sp_sum_ext fun i _ => by
      rw [U v i]
      by_cases c : i = o (s + u)
      · rw [if_pos c, if_pos c, if_neg fun z => hvw z.symm]
      · rw [if_neg c, if_neg c]
    have e2 : sp_sum (fun i => if vr_mk J o w s (u + 1) 161 i = w then a i else 0) n = sp_sum (fun i => if i = o (s + u) then a (o (s + u)) else if vr_mk J o w s u 161 i = w then a i else 0) n := sp_sum_ext fun i _ => by
      rw [U v i]
      by_cases c : i = o (s + u)
      · rw [if_pos c, if_pos c, if_pos rfl, c]
      · rw [if_neg c, if_neg c]
    rw [e1, e2]
    refine ⟨?_, ?_⟩
    · show _ + (sp_sum (fun t => a (o (s + t))) u + a (o (s + u))) = _
      have g3 : sp_sum (fun i => if i = o (s + u) then 0 else if vr_mk J o w s u 161 i = v then a i else 0) n + a (o (s + u)) = sp_sum (fun i => if vr_mk J o w s u 161 i = v then a i else 0) n := by
        rw [if_pos hk] at g1
        exact g1.trans (Int32.add_zero _)
      rw [Int32.add_comm _ (a (o (s + u))), ← Int32.add_assoc, g3]
      exact i1
    · show _ = sp_sum (fun t => a (o (s + t))) u + a (o (s + u))
      rw [if_neg fun z => hvw (hk.symm.trans z)] at g2
      rw [← i2]
      exact (Int32.add_zero _).symm.trans g2
