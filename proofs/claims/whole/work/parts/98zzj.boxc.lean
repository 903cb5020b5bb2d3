/-- BOXES measured: what the class keeps of a stretch is what the reference finds by marks -/
theorem bx_mx (a b : Int32) : a.toInt ≤ (sp_mx a b).toInt ∧ b.toInt ≤ (sp_mx a b).toInt ∧ (sp_mx a b = a ∨ sp_mx a b = b) := by
  unfold sp_mx
  split
  · next c =>
    rw [Int32.lt_iff_toInt_lt] at c
    exact ⟨by omega, Int.le_refl _, Or.inr rfl⟩
  · next c =>
    rw [Int32.lt_iff_toInt_lt] at c
    exact ⟨Int.le_refl _, by omega, Or.inl rfl⟩
theorem bx_mi (a b : Int32) : (sp_mn a b).toInt ≤ a.toInt ∧ (sp_mn a b).toInt ≤ b.toInt ∧ (sp_mn a b = a ∨ sp_mn a b = b) := by
  unfold sp_mn
  split
  · next c =>
    rw [Int32.lt_iff_toInt_lt] at c
    exact ⟨by omega, Int.le_refl _, Or.inr rfl⟩
  · next c =>
    rw [Int32.lt_iff_toInt_lt] at c
    exact ⟨Int.le_refl _, by omega, Or.inl rfl⟩
theorem bx_hic (f : Nat → Int32) (x : Nat) : ∀ m, (∀ u, u < m → (f (x + u)).toInt ≤ (sp_hi f x m).toInt) ∧ (sp_hi f x m = 0 ∨ ∃ u, u < m ∧ sp_hi f x m = f (x + u))
  | 0 => ⟨fun u hu => absurd hu (Nat.not_lt_zero u), Or.inl rfl⟩
  | m + 1 => by
    obtain ⟨a, b⟩ := bx_hic f x m
    obtain ⟨c1, c2, c3⟩ := bx_mx (sp_hi f x m) (f (x + m))
    refine ⟨fun u hu => ?_, ?_⟩
    · show _ ≤ (sp_mx (sp_hi f x m) (f (x + m))).toInt
      by_cases e : u = m
      · rw [e]
        exact c2
      · exact Int.le_trans (a u (by omega)) c1
    · show sp_mx (sp_hi f x m) (f (x + m)) = 0 ∨ ∃ u, u < m + 1 ∧ sp_mx (sp_hi f x m) (f (x + m)) = f (x + u)
      rcases c3 with c | c
      · rw [c]
        exact b.imp id fun ⟨u, hu, e⟩ => ⟨u, by omega, e⟩
      · rw [c]
        exact Or.inr ⟨m, by omega, rfl⟩
theorem bx_loc (f : Nat → Int32) (x : Nat) : ∀ m, (∀ u, u < m → (sp_lo f x m).toInt ≤ (f (x + u)).toInt) ∧ (sp_lo f x m = 63 ∨ ∃ u, u < m ∧ sp_lo f x m = f (x + u))
  | 0 => ⟨fun u hu => absurd hu (Nat.not_lt_zero u), Or.inl rfl⟩
  | m + 1 => by
    obtain ⟨a, b⟩ := bx_loc f x m
    obtain ⟨c1, c2, c3⟩ := bx_mi (sp_lo f x m) (f (x + m))
    refine ⟨fun u hu => ?_, ?_⟩
    · show (sp_mn (sp_lo f x m) (f (x + m))).toInt ≤ _
      by_cases e : u = m
      · rw [e]
        exact c2
      · exact Int.le_trans c1 (a u (by omega))
    · show sp_mn (sp_lo f x m) (f (x + m)) = 63 ∨ ∃ u, u < m + 1 ∧ sp_mn (sp_lo f x m) (f (x + m)) = f (x + u)
      rcases c3 with c | c
      · rw [c]
        exact b.imp id fun ⟨u, hu, e⟩ => ⟨u, by omega, e⟩
      · rw [c]
        exact Or.inr ⟨m, by omega, rfl⟩
theorem bx_hir (f g : Nat → Int32) (x k : Int32) : ∀ n, (∀ j, j < n → g j = x → (sp_ch (f j) k).toInt ≤ (vr_hi f g x k n).toInt) ∧ (vr_hi f g x k n = -1 ∨ ∃ j, j < n ∧ g j = x ∧ vr_hi f g x k n = sp_ch (f j) k)
  | 0 => ⟨fun u hu => absurd hu (Nat.not_lt_zero u), Or.inl rfl⟩
  | n + 1 => by
    obtain ⟨a, b⟩ := bx_hir f g x k n
    by_cases d : g n = x
    · have e : vr_hi f g x k (n + 1) = sp_mx (vr_hi f g x k n) (sp_ch (f n) k) := if_pos d
      rw [e]
      obtain ⟨c1, c2, c3⟩ := bx_mx (vr_hi f g x k n) (sp_ch (f n) k)
      refine ⟨fun j hj hg => ?_, ?_⟩
      · by_cases e : j = n
        · rw [e]
          exact c2
        · exact Int.le_trans (a j (by omega) hg) c1
      · rcases c3 with c | c
        · rw [c]
          exact b.imp id fun ⟨u, hu, e⟩ => ⟨u, by omega, e⟩
        · rw [c]
          exact Or.inr ⟨n, by omega, d, rfl⟩
    · have e : vr_hi f g x k (n + 1) = vr_hi f g x k n := if_neg d
      rw [e]
      refine ⟨fun j hj hg => ?_, b.imp id fun ⟨u, hu, e⟩ => ⟨u, by omega, e⟩⟩
      by_cases e : j = n
      · exact absurd (e ▸ hg) d
      · exact a j (by omega) hg
theorem bx_lor (f g : Nat → Int32) (x k : Int32) : ∀ n, (∀ j, j < n → g j = x → (vr_lo f g x k n).toInt ≤ (sp_ch (f j) k).toInt) ∧ (vr_lo f g x k n = 64 ∨ ∃ j, j < n ∧ g j = x ∧ vr_lo f g x k n = sp_ch (f j) k)
  | 0 => ⟨fun u hu => absurd hu (Nat.not_lt_zero u), Or.inl rfl⟩
  | n + 1 => by
    obtain ⟨a, b⟩ := bx_lor f g x k n
    by_cases d : g n = x
    · have e : vr_lo f g x k (n + 1) = sp_mn (vr_lo f g x k n) (sp_ch (f n) k) := if_pos d
      rw [e]
      obtain ⟨c1, c2, c3⟩ := bx_mi (vr_lo f g x k n) (sp_ch (f n) k)
      refine ⟨fun j hj hg => ?_, ?_⟩
      · by_cases e : j = n
        · rw [e]
          exact c2
        · exact Int.le_trans c1 (a j (by omega) hg)
      · rcases c3 with c | c
        · rw [c]
          exact b.imp id fun ⟨u, hu, e⟩ => ⟨u, by omega, e⟩
        · rw [c]
          exact Or.inr ⟨n, by omega, d, rfl⟩
    · have e : vr_lo f g x k (n + 1) = vr_lo f g x k n := if_neg d
      rw [e]
      refine ⟨fun j hj hg => ?_, b.imp id fun ⟨u, hu, e⟩ => ⟨u, by omega, e⟩⟩
      by_cases e : j = n
      · exact absurd (e ▸ hg) d
      · exact a j (by omega) hg
theorem bx_chb (c k : Int32) : 0 ≤ (sp_ch c k).toInt ∧ (sp_ch c k).toInt ≤ 63 := by
  obtain ⟨u, hu, e⟩ := sp_ch_n c k
  rw [e, nI_toInt (by omega)]
  omega
theorem bx_sp {A B f h g : Nat → Int32} {v : Int32} {x m n : Nat} (S : bx_S A B x m f h g v n) (h0 : 0 < m) (hm : m ≤ 144) (hn : n ≤ 144) (k : Int32) : sp_hi (fun i => sp_ch (A i) k) x m = vr_hi f g v k n ∧ sp_lo (fun i => sp_ch (A i) k) x m = vr_lo f g v k n := by
  have T : ∀ w : Int32, (∃ u, u < m ∧ w = sp_ch (A (x + u)) k) ↔ ∃ j, j < n ∧ g j = v ∧ w = sp_ch (f j) k := fun w => bx_ex S hm hn fun a _ => w = sp_ch a k
  obtain ⟨j0, hj0, hg0, e0⟩ := (T _).mp ⟨0, h0, rfl⟩
  obtain ⟨a1, a2⟩ := bx_hic (fun i => sp_ch (A i) k) x m
  obtain ⟨b1, b2⟩ := bx_hir f g v k n
  obtain ⟨c1, c2⟩ := bx_loc (fun i => sp_ch (A i) k) x m
  obtain ⟨d1, d2⟩ := bx_lor f g v k n
  have z1 := bx_chb (f j0) k
  have z2 := b1 j0 hj0 hg0
  have z3 := d1 j0 hj0 hg0
  constructor
  · rw [← Int32.toInt_inj]
    refine Int.le_antisymm ?_ ?_
    · rcases a2 with a | a
      · rw [a, show (0 : Int32).toInt = 0 from rfl]
        omega
      · obtain ⟨j, hj, hg, e⟩ := (T _).mp a
        rw [e]
        exact b1 j hj hg
    · rcases b2 with b | b
      · rw [b, show (-1 : Int32).toInt = -1 from rfl] at z2
        omega
      · obtain ⟨u, hu, e⟩ := (T _).mpr b
        rw [e]
        exact a1 u hu
  · rw [← Int32.toInt_inj]
    refine Int.le_antisymm ?_ ?_
    · rcases d2 with b | b
      · rw [b, show (64 : Int32).toInt = 64 from rfl] at z3
        omega
      · obtain ⟨u, hu, e⟩ := (T _).mpr b
        rw [e]
        exact c1 u hu
    · rcases c2 with a | a
      · rw [a, show (63 : Int32).toInt = 63 from rfl]
        omega
      · obtain ⟨j, hj, hg, e⟩ := (T _).mp a
        rw [e]
        exact d1 j hj hg
/-- the least colour of a stretch -/
def bx_mn (A : Nat → Int32) (x : Nat) : Nat → Int32
  | 0 => 262143
  | j + 1 => sp_mn (bx_mn A x j) (A (x + j))
theorem bx_mnc (f : Nat → Int32) (x : Nat) : ∀ m, (∀ u, u < m → (bx_mn f x m).toInt ≤ (f (x + u)).toInt) ∧ (bx_mn f x m = 262143 ∨ ∃ u, u < m ∧ bx_mn f x m = f (x + u))
  | 0 => ⟨fun u hu => absurd hu (Nat.not_lt_zero u), Or.inl rfl⟩
  | m + 1 => by
    obtain ⟨a, b⟩ := bx_mnc f x m
    obtain ⟨c1, c2, c3⟩ := bx_mi (bx_mn f x m) (f (x + m))
    refine ⟨fun u hu => ?_, ?_⟩
    · show (sp_mn (bx_mn f x m) (f (x + m))).toInt ≤ _
      by_cases e : u = m
      · rw [e]
        exact c2
      · exact Int.le_trans c1 (a u (by omega))
    · show sp_mn (bx_mn f x m) (f (x + m)) = 262143 ∨ ∃ u, u < m + 1 ∧ sp_mn (bx_mn f x m) (f (x + m)) = f (x + u)
      rcases c3 with c | c
      · rw [c]
        exact b.imp id fun ⟨u, hu, e⟩ => ⟨u, by omega, e⟩
      · rw [c]
        exact Or.inr ⟨m, by omega, rfl⟩
theorem bx_mu (J : Nat → Nat → Int32) (C b x : Nat) : ∀ j, vm_mu J C b x j b 2 = sp_sum (fun u => J (C + 2) (x + u)) j ∧ vm_mu J C b x j b 5 = bx_mn (J (C + 1)) x j
  | 0 => by
    show vm_up (vm_up J b 2 0) b 5 262143 b 2 = 0 ∧ vm_up (vm_up J b 2 0) b 5 262143 b 5 = 262143
    exact ⟨(vm_up_k2 _ _ _ _ _ (by decide)).trans (vm_up_h _ _ _ _), vm_up_h _ _ _ _⟩
  | j + 1 => by
    obtain ⟨a, c⟩ := bx_mu J C b x j
    show vm_mu1 (vm_mu J C b x j) b (J (C + 2) (x + j)) (J (C + 1) (x + j)) b 2 = sp_sum (fun u => J (C + 2) (x + u)) j + J (C + 2) (x + j) ∧ vm_mu1 (vm_mu J C b x j) b (J (C + 2) (x + j)) (J (C + 1) (x + j)) b 5 = sp_mn (bx_mn (J (C + 1)) x j) (J (C + 1) (x + j))
    unfold vm_mu1
    rw [← a, ← c]
    exact ⟨(vm_up_k2 _ _ _ _ _ (by decide)).trans (vm_up_h _ _ _ _), (vm_up_h _ _ _ _).trans (congrArg (fun z => sp_mn z (J (C + 1) (x + j))) (vm_up_k2 _ _ _ _ _ (by decide)))⟩
theorem bx_fi {A B f h g : Nat → Int32} {v : Int32} {x m n : Nat} (S : bx_S A B x m f h g v n) (h0 : 0 < m) (hm : m ≤ 144) (hn : n ≤ 144) : vr_fi g n v < n ∧ g (vr_fi g n v) = v ∧ ∀ j, j < vr_fi g n v → ¬ g j = v := by
  obtain ⟨j0, hj0, hg0, -⟩ := (bx_ex S hm hn fun _ _ => True).mp ⟨0, h0, trivial⟩
  have lt : vr_fi g n v < n := sp_fi_lt (p := fun i => g i = v) hj0 hg0
  have := sp_fi_ok (p := fun i => g i = v) lt
  exact ⟨lt, this.1, this.2⟩
theorem bx_min {A B f h g : Nat → Int32} {v : Int32} {x m n : Nat} (S : bx_S A B x m f h g v n) (h0 : 0 < m) (hm : m ≤ 144) (hn : n ≤ 144) (hf : sp_so f n) (hc : ∀ i, i < n → sp_col (f i)) : bx_mn A x m = f (vr_fi g n v) := by
  obtain ⟨l1, l2, l3⟩ := bx_fi S h0 hm hn
  obtain ⟨a1, a2⟩ := bx_mnc A x m
  have T : ∀ w : Int32, (∃ u, u < m ∧ w = A (x + u)) ↔ ∃ j, j < n ∧ g j = v ∧ w = f j := fun w => bx_ex S hm hn fun a _ => w = a
  rw [← Int32.toInt_inj]
  refine Int.le_antisymm ?_ ?_
  · obtain ⟨u, hu, e⟩ := (T _).mpr ⟨_, l1, l2, rfl⟩
    rw [e]
    exact a1 u hu
  · rcases a2 with a | a
    · have := (hc _ l1).2
      rw [Int32.le_iff_toInt_le] at this
      rw [a]
      exact this
    · obtain ⟨j, hj, hg, e⟩ := (T _).mp a
      rw [e]
      by_cases c : j < vr_fi g n v
      · exact absurd hg (l3 j c)
      · by_cases c2 : vr_fi g n v = j
        · rw [← c2]
          exact Int.le_refl _
        · have := hf (vr_fi g n v) j (by omega) hj
          rw [Int32.lt_iff_toInt_lt] at this
          omega
theorem bx_ms {I : Nat → Nat → Int32} {b x m n : Nat} {f g : Nat → Int32} {v : Int32} (hs : ∀ k, sp_spn I 112 x m k = vr_sp f g n v k) (h1 : ∀ k, -1 < vr_sp f g n v k) : ∀ c, vm_ms I 112 b x m (c + 1) b 3 = nI (vr_wd f g n v c) ∧ vm_ms I 112 b x m (c + 1) b 4 = vr_sp f g n v (nI (vr_wd f g n v c))
  | 0 => by
    have e : vm_ms I 112 b x m 1 = vm_up (vm_up (vm_ms I 112 b x m 0) b 4 (sp_spn I 112 x m (nI 0))) b 3 (nI 0) := if_pos (by
      show vm_up I b 4 (-1) b 4 < _
      rw [vm_up_h, hs]
      exact h1 _)
    rw [e, hs]
    exact ⟨vm_up_h _ _ _ _, (vm_up_k2 _ _ _ _ _ (by decide)).trans (vm_up_h _ _ _ _)⟩
  | c + 1 => by
    obtain ⟨i3, i4⟩ := bx_ms (b := b) hs h1 c
    by_cases q : vr_sp f g n v (nI (vr_wd f g n v c)) < vr_sp f g n v (nI (1 + c))
    · have e : vm_ms I 112 b x m (c + 1 + 1) = vm_up (vm_up (vm_ms I 112 b x m (c + 1)) b 4 (sp_spn I 112 x m (nI (c + 1)))) b 3 (nI (c + 1)) := if_pos (by
        rw [i4, hs, Nat.add_comm c 1]
        exact q)
      have e2 : vr_wd f g n v (c + 1) = 1 + c := if_pos q
      rw [e, e2, hs, Nat.add_comm c 1]
      exact ⟨vm_up_h _ _ _ _, (vm_up_k2 _ _ _ _ _ (by decide)).trans (vm_up_h _ _ _ _)⟩
    · have e : vm_ms I 112 b x m (c + 1 + 1) = vm_ms I 112 b x m (c + 1) := if_neg (by
        rw [i4, hs, Nat.add_comm c 1]
        exact q)
      have e2 : vr_wd f g n v (c + 1) = vr_wd f g n v c := if_neg q
      rw [e, e2]
      exact ⟨i3, i4⟩
theorem bx_meas {I : Nat → Nat → Int32} {b x m n : Nat} {f h g : Nat → Int32} {v : Int32} (hb1 : b ≠ 113) (hb2 : b ≠ 114) (S : bx_S (I 113) (I 114) x m f h g v n) (h0 : 0 < m) (hm : m ≤ 144) (hn : n ≤ 144) (hf : sp_so f n) (hc : ∀ i, i < n → sp_col (f i)) : vm_msr I 112 b x m b 2 = vr_px g h n v ∧ vm_msr I 112 b x m b 3 = nI (vr_wd f g n v 2) ∧ vm_msr I 112 b x m b 4 = vr_so f g n v ∧ vm_msr I 112 b x m b 5 = f (vr_fi g n v) := by
  have hs : ∀ k, sp_spn I 112 x m k = vr_sp f g n v k := fun k => by
    obtain ⟨a, b⟩ := bx_sp S h0 hm hn k
    unfold sp_spn vr_sp
    rw [← a, ← b]
  have h1 : ∀ k, -1 < vr_sp f g n v k := fun k => by
    obtain ⟨j0, hj0, hg0, -⟩ := (bx_ex S hm hn fun _ _ => True).mp ⟨0, h0, trivial⟩
    have z1 := (bx_hir f g v k n).1 j0 hj0 hg0
    have z2 := (bx_lor f g v k n).1 j0 hj0 hg0
    have z3 := bx_chb (f j0) k
    have z4 : (vr_hi f g v k n).toInt ≤ 63 := by
      rcases (bx_hir f g v k n).2 with c | ⟨j, -, -, c⟩
      · rw [c]
        decide
      · rw [c]
        exact (bx_chb _ _).2
    have z5 : 0 ≤ (vr_lo f g v k n).toInt := by
      rcases (bx_lor f g v k n).2 with c | ⟨j, -, -, c⟩
      · rw [c]
        decide
      · rw [c]
        exact (bx_chb _ _).1
    have e : (vr_sp f g n v k).toInt = (vr_hi f g v k n).toInt - (vr_lo f g v k n).toInt := by
      unfold vr_sp
      rw [Int32.toInt_sub]
      refine Int.bmod_eq_of_le ?_ ?_ <;> omega
    rw [Int32.lt_iff_toInt_lt, e]
    show (-1 : Int) < _
    omega
  obtain ⟨m3, m4⟩ := bx_ms (b := b) hs h1 2
  obtain ⟨u2, u5⟩ := bx_mu (vm_ms I 112 b x m 3) 112 b x m
  have r1 : vm_ms I 112 b x m 3 (112 + 1) = I 113 := funext fun k => vm_ms_o _ _ _ _ _ _ (Ne.symm hb1) k 3
  have r2 : vm_ms I 112 b x m 3 (112 + 2) = I 114 := funext fun k => vm_ms_o _ _ _ _ _ _ (Ne.symm hb2) k 3
  rw [r2] at u2
  rw [r1] at u5
  refine ⟨u2.trans (S fun _ c => c), ?_, ?_, u5.trans (bx_min S h0 hm hn hf hc)⟩
  · exact (vm_mu_k _ _ _ _ _ (by decide) (by decide) m).trans m3
  · exact (vm_mu_k _ _ _ _ _ (by decide) (by decide) m).trans m4
theorem bx_hig {f g g' : Nat → Int32} {v k : Int32} : ∀ {n : Nat}, (∀ i, i < n → (g' i = v ↔ g i = v)) → vr_hi f g' v k n = vr_hi f g v k n ∧ vr_lo f g' v k n = vr_lo f g v k n
  | 0, _ => ⟨rfl, rfl⟩
  | n + 1, h => by
    obtain ⟨a, b⟩ := bx_hig (f := f) (k := k) fun i hi => h i (Nat.lt_succ_of_lt hi)
    have c := h n (Nat.lt_succ_self n)
    unfold vr_hi vr_lo
    rw [a, b]
    by_cases d : g n = v
    · rw [if_pos d, if_pos (c.mpr d), if_pos d, if_pos (c.mpr d)]
      exact ⟨rfl, rfl⟩
    · rw [if_neg d, if_neg fun z => d (c.mp z), if_neg d, if_neg fun z => d (c.mp z)]
      exact ⟨rfl, rfl⟩
theorem bx_wdg {f g g' : Nat → Int32} {v : Int32} {n : Nat} (h : ∀ k, vr_sp f g' n v k = vr_sp f g n v k) : ∀ j, vr_wd f g' n v j = vr_wd f g n v j
  | 0 => rfl
  | j + 1 => by
    unfold vr_wd
    rw [bx_wdg h j, h, h]
theorem bx_gc {f h g g' : Nat → Int32} {v : Int32} {n : Nat} (c : ∀ i, i < n → (g' i = v ↔ g i = v)) : vr_px g' h n v = vr_px g h n v ∧ vr_wd f g' n v 2 = vr_wd f g n v 2 ∧ vr_so f g' n v = vr_so f g n v ∧ vr_fi g' n v = vr_fi g n v := by
  have s : ∀ k, vr_sp f g' n v k = vr_sp f g n v k := fun k => by
    obtain ⟨a, b⟩ := bx_hig (f := f) (k := k) c
    unfold vr_sp
    rw [a, b]
  have w := bx_wdg s 2
  refine ⟨sp_sum_ext fun i hi => ?_, w, ?_, sp_fi_c c⟩
  · by_cases d : g i = v
    · rw [if_pos d, if_pos ((c i hi).mpr d)]
    · rw [if_neg d, if_neg fun z => d ((c i hi).mp z)]
  · unfold vr_so
    rw [w, s]
