/-- MAKING: the floats of both sides -/
theorem vf_bdl {x : UInt32} {N M : Nat} (h : vf_bd x N) (hm : N ≤ M) : vf_bd x M := by
  obtain ⟨s, c, q, e, z, q1, b⟩ := h
  exact ⟨s, c, q, e, z, q1, Nat.le_trans b (Nat.mul_le_mul_right _ hm)⟩
def mk_F (F K : Nat → Nat → UInt32) (B s N : Nat) : Prop := (∀ k, k < 432 → F (B + 9) k = K 180 k) ∧ ∀ c, c < 3 → F (B + 8) c = K 179 (3 * s + c) ∧ vf_bd (K 179 (3 * s + c)) N
theorem mk_Fl {F K : Nat → Nat → UInt32} {B s N M : Nat} (h : mk_F F K B s N) (hm : N ≤ M) : mk_F F K B s M := ⟨h.1, fun c hc => ⟨(h.2 c hc).1, vf_bdl (h.2 c hc).2 hm⟩⟩
/-- one share: equal stays equal; only one channel of what is lost grows -/
theorem mk_pt {F K : Nat → Nat → UInt32} {B s w h : Nat} {tx : Int32} {b c : Nat} {m : UInt32} (E9 : ∀ k, k < 432 → F (B + 9) k = K 180 k) (E8 : ∀ c, c < 3 → F (B + 8) c = K 179 (3 * s + c)) (hc : c < 3) (hw : 0 < w) (hw2 : w ≤ 12) (hh2 : h ≤ 12) : (∀ k, k < 432 → sp_pt F (B + 9) (B + 8) 0 w h tx b c m (B + 9) k = sp_pt K 180 179 (3 * s) w h tx b c m 180 k) ∧ (∀ d, d < 3 → sp_pt F (B + 9) (B + 8) 0 w h tx b c m (B + 8) d = sp_pt K 180 179 (3 * s) w h tx b c m 179 (3 * s + d)) ∧ ∀ d, d < 3 → sp_pt K 180 179 (3 * s) w h tx b c m 179 (3 * s + d) = K 179 (3 * s + d) ∨ (d = c ∧ sp_pt K 180 179 (3 * s) w h tx b c m 179 (3 * s + d) = FP.fadd (K 179 (3 * s + d)) m) := by
  have hwh := vm_mul144 hw2 hh2
  unfold sp_pt
  by_cases q : (0 ≤ tx ∧ tx ≤ nI (w - 1)) ∧ b < h
  · rw [if_pos q, if_pos q]
    have h1 := vm_lin2 (vm_le_lt q.1.1 q.1.2 hw hw2) q.2
    refine ⟨fun k hk => ?_, fun d hd => ?_, fun d hd => Or.inl ?_⟩
    · by_cases e : k = 3 * (w * b + tx.toNatClampNeg) + c
      · rw [e, vm_up_h, vm_up_h, E9 _ (by omega)]
      · rw [vm_up_k2 _ _ _ _ _ e, vm_up_k2 _ _ _ _ _ e]
        exact E9 k hk
    · rw [vm_up_f _ _ _ _ _ (by omega), vm_up_f _ _ _ _ _ (by decide)]
      exact E8 d hd
    · rw [vm_up_f _ _ _ _ _ (by decide)]
  · rw [if_neg q, if_neg q]
    refine ⟨fun k hk => ?_, fun d hd => ?_, fun d hd => ?_⟩
    · rw [vm_up_f _ _ _ _ _ (by omega), vm_up_f _ _ _ _ _ (by decide)]
      exact E9 k hk
    · by_cases e : d = c
      · subst e
        rw [Nat.zero_add, vm_up_h, vm_up_h, E8 d hd]
      · rw [vm_up_k2 _ _ _ _ _ (by omega), vm_up_k2 _ _ _ _ _ (by omega)]
        exact E8 d hd
    · by_cases e : d = c
      · subst e
        exact Or.inr ⟨rfl, vm_up_h _ _ _ _⟩
      · exact Or.inl (vm_up_k2 _ _ _ _ _ (by omega))
theorem mk_p3 {F K : Nat → Nat → UInt32} {B s w h : Nat} {tx : Int32} {b : Nat} {hd : Nat → UInt32} {to : Int32} {k kn N : Nat} (E : mk_F F K B s N) (hh : ∀ i, i < 3 → vf_fn (hd i) 6) (hk : k < 14) (hkn : kn < 5) (hN : N + 1 < 16777216) (hw : 0 < w) (hw2 : w ≤ 12) (hh2 : h ≤ 12) : mk_F (sp_p3 F (B + 9) (B + 8) 0 w h tx b hd to k kn) (sp_p3 K 180 179 (3 * s) w h tx b hd to k kn) B s (N + 1) := by
  have hs : ∀ i j, i < 3 → vf_fn (sp_shr (FP.fsub (hd i) (FP.i2f (sp_ch to j))) k kn) 17 := fun i j hi => sp_shr_f (sp_of_f (hh i hi)) hk hkn
  obtain ⟨a1, a2, a3⟩ := mk_pt (m := sp_shr (FP.fsub (hd 0) (FP.i2f (sp_ch to 0))) k kn) (c := 0) (tx := tx) (b := b) E.1 (fun c hc => (E.2 c hc).1) (by decide) hw hw2 hh2
  obtain ⟨b1, b2, b3⟩ := mk_pt (m := sp_shr (FP.fsub (hd 1) (FP.i2f (sp_ch to 1))) k kn) (c := 1) (tx := tx) (b := b) a1 a2 (by decide) hw hw2 hh2
  obtain ⟨c1, c2, c3⟩ := mk_pt (m := sp_shr (FP.fsub (hd 2) (FP.i2f (sp_ch to 2))) k kn) (c := 2) (tx := tx) (b := b) b1 b2 (by decide) hw hw2 hh2
  refine ⟨c1, fun d hd => ⟨c2 d hd, ?_⟩⟩
  have e0 := (E.2 d hd).2
  unfold sp_p3
  rcases c3 d hd with z | ⟨z1, z⟩
  · rw [z]
    rcases b3 d hd with y | ⟨y1, y⟩
    · rw [y]
      rcases a3 d hd with x | ⟨x1, x⟩
      · rw [x]
        exact vf_bdl e0 (Nat.le_succ N)
      · rw [x]
        exact vf_bda e0 (vf_bd1 (hs 0 0 (by decide))) hN
    · rw [y]
      rcases a3 d hd with x | ⟨x1, x⟩
      · rw [x]
        exact vf_bda e0 (vf_bd1 (hs 1 1 (by decide))) hN
      · omega
  · rw [z]
    rcases b3 d hd with y | ⟨y1, y⟩
    · rw [y]
      rcases a3 d hd with x | ⟨x1, x⟩
      · rw [x]
        exact vf_bda e0 (vf_bd1 (hs 2 2 (by decide))) hN
      · omega
    · omega
theorem mk_qs {F K : Nat → Nat → UInt32} {B s w h x y : Nat} {t : Int32} {hd : Nat → UInt32} {to : Int32} {kn N : Nat} (E : mk_F F K B s N) (hh : ∀ i, i < 3 → vf_fn (hd i) 6) (hkn : kn < 5) (hw : 0 < w) (hw2 : w ≤ 12) (hh2 : h ≤ 12) (hN : N + 14 < 16777216) : ∀ j, j ≤ sp_kf (kn + 1) - sp_kf kn → mk_F (sp_qs F (B + 9) (B + 8) 0 w h x y t hd to kn j) (sp_qs K 180 179 (3 * s) w h x y t hd to kn j) B s (N + j)
  | 0, _ => E
  | j + 1, hj => by
    have hle := sp_kf_le kn hkn
    exact mk_p3 (N := N + j) (mk_qs E hh hkn hw hw2 hh2 hN j (by omega)) hh (by omega) hkn (by omega) hw hw2 hh2
/-- both sides, what is done so far being D -/
def mk_Q (A R : vm_P2) (B a p n s w h N : Nat) (D : Nat → Prop) : Prop := mk_F A.2 R.2 B s N ∧ vf_2r R.2 180 179 432 6 ∧ (∀ e, e < n → A.1 a e = R.1 157 (16 * p + e)) ∧ (∀ z, z < w * h → A.1 (B + 5) z = R.1 176 (144 * s + z) ∧ sp_col (R.1 176 (144 * s + z))) ∧ ∀ z, D z → A.1 (B + 6) z = R.1 177 (144 * s + z) ∧ A.1 (B + 7) z = R.1 178 (144 * s + z)
theorem mk_fe {A : Nat → Int32} {R : Nat → Int32} {n : Nat} (hn : 0 < n) (h : ∀ e, e < n → A e = R e) (m c : Int32) : sp_fe A n m c = sp_fe R n m c ∧ sp_fe R n m c < n := by
  have hle := sp_nn_le (fun z => sp_far m (R z) c) (n - 1)
  refine ⟨sp_nn_c fun k hk => by rw [h k (by omega)], ?_⟩
  unfold sp_fe
  omega
theorem mk_fd {I J : Nat → Nat → Int32} {B a p n s q w h : Nat} {m c : Int32} {D : Nat → Prop} (hn : 0 < n) (hp : ∀ e, e < n → I a e = J 157 (16 * p + e)) (hx : ∀ z, z < w * h → I (B + 5) z = J 176 (144 * s + z) ∧ sp_col (J 176 (144 * s + z))) (hd : ∀ z, D z → I (B + 6) z = J 177 (144 * s + z) ∧ I (B + 7) z = J 178 (144 * s + z)) (h6 : a ≠ B + 6) (h7 : a ≠ B + 7) : (∀ e, e < n → cv_fd I B a n q m c a e = rv_fd J p n s q m c 157 (16 * p + e)) ∧ (∀ z, z < w * h → cv_fd I B a n q m c (B + 5) z = rv_fd J p n s q m c 176 (144 * s + z) ∧ sp_col (rv_fd J p n s q m c 176 (144 * s + z))) ∧ ∀ z, (D z ∨ z = q) → cv_fd I B a n q m c (B + 6) z = rv_fd J p n s q m c 177 (144 * s + z) ∧ cv_fd I B a n q m c (B + 7) z = rv_fd J p n s q m c 178 (144 * s + z) := by
  obtain ⟨e1, e2⟩ := mk_fe hn hp m c
  refine ⟨fun e he => ?_, fun z hz => ?_, fun z hz => ?_⟩
  · rw [cv_fd_o _ _ _ _ _ _ _ _ h6 h7, rv_fd_o _ _ _ _ _ _ _ _ (by decide) (by decide)]
    exact hp e he
  · rw [cv_fd_o _ _ _ _ _ _ _ _ (by omega) (by omega), rv_fd_o _ _ _ _ _ _ _ _ (by decide) (by decide)]
    exact hx z hz
  · unfold cv_fd rv_fd
    rw [vm_up_f _ (B + 7) _ _ (B + 6) (by omega), vm_up_f _ 178 _ _ 177 (by decide)]
    by_cases c : z = q
    · subst c
      rw [vm_up_h, vm_up_h, vm_up_h, vm_up_h, e1]
      exact ⟨rfl, hp _ e2⟩
    · rw [vm_up_k2 _ _ _ _ _ c, vm_up_k2 _ _ _ _ _ (by omega), vm_up_k2 _ _ _ _ _ c, vm_up_k2 _ _ _ _ _ (by omega), vm_up_f _ (B + 6) _ _ (B + 7) (by omega), vm_up_f _ 177 _ _ 178 (by decide)]
      exact hd z (hz.resolve_right c)
theorem sp_lk_c {hd hd' : Nat → UInt32} (h : ∀ z, z < 3 → hd z = hd' z) : sp_lk hd = sp_lk hd' := by
  unfold sp_lk
  rw [h 0 (by decide), h 1 (by decide), h 2 (by decide)]
/-- a pixel of a spreading way -/
theorem mk_px {A R : vm_P2} {B a p n s w h N kn k g wy x y : Nat} {t m : Int32} {D : Nat → Prop} (Q : mk_Q A R B a p n s w h N D) (hn : 0 < n) (h6 : a ≠ B + 6) (h7 : a ≠ B + 7) (hx : x < w) (hy : y < h) (hw2 : w ≤ 12) (hh2 : h ≤ 12) (hkn : kn < 5) (hs : s < 2) (hwy : wy = 1 ∨ wy = 2) (hN : N + 14 < 16777216) : mk_Q (cv_px A B a n w h kn k g wy x y t m) (rv_px R p n s w h kn x y t m) B a p n s w h (N + 14) (fun z => D z ∨ z = w * y + x) := by
  obtain ⟨E, ok, hp, hc, hD⟩ := Q
  have ix := vm_lin2 hx hy
  have hwh := vm_mul144 hw2 hh2
  have ok2 := rv_px_ok (p := p) (n := n) (s := s) (t := t) (m := m) (kn := kn) ok hx hy hw2 hh2 hs hkn
  have qc := (hc (w * y + x) (by omega)).1
  have hH : ∀ z, z < 3 → sp_hd wy (A.1 (B + 5) (w * y + x)) (A.2 (B + 9)) (w * y + x) k x y g z = sp_h0 (R.1 176 (144 * s + (w * y + x))) (R.2 180) (w * y + x) z := fun z hz => by
    have e9 := E.1 (3 * (w * y + x) + z) (by omega)
    rcases hwy with rfl | rfl
    · show sp_hl (FP.fadd (FP.i2f (sp_ch (A.1 (B + 5) (w * y + x)) (nI z))) (A.2 (B + 9) (3 * (w * y + x) + z))) = sp_hl (FP.fadd (FP.i2f (sp_ch (R.1 176 (144 * s + (w * y + x))) (nI z))) (R.2 180 (3 * (w * y + x) + z)))
      rw [e9, qc]
    · show sp_hl (FP.fadd (FP.i2f (sp_ch (A.1 (B + 5) (w * y + x)) (nI z))) (A.2 (B + 9) (3 * (w * y + x) + z))) = sp_hl (FP.fadd (FP.i2f (sp_ch (R.1 176 (144 * s + (w * y + x))) (nI z))) (R.2 180 (3 * (w * y + x) + z)))
      rw [e9, qc]
  have hlk := sp_lk_c hH
  have hf : ∀ i, i < 3 → vf_fn (sp_h0 (R.1 176 (144 * s + (w * y + x))) (R.2 180) (w * y + x) i) 6 := fun i hi => sp_h0_f (ok.1 _ (by omega))
  obtain ⟨f1, f2⟩ := mk_fe hn hp m (sp_lk (sp_h0 (R.1 176 (144 * s + (w * y + x))) (R.2 180) (w * y + x)))
  have G := mk_fd (B := B) (a := a) (p := p) (s := s) (q := w * y + x) (m := m) (c := sp_lk (sp_h0 (R.1 176 (144 * s + (w * y + x))) (R.2 180) (w * y + x))) (D := D) hn hp hc hD h6 h7
  have e1 : (cv_px A B a n w h kn k g wy x y t m).1 = cv_fd A.1 B a n (w * y + x) m (sp_lk (sp_h0 (R.1 176 (144 * s + (w * y + x))) (R.2 180) (w * y + x))) := by
    rw [← hlk]
    rfl
  have e2 : (cv_px A B a n w h kn k g wy x y t m).2 = sp_qs (sp_h3 A.2 (B + 10) (sp_hd wy (A.1 (B + 5) (w * y + x)) (A.2 (B + 9)) (w * y + x) k x y g)) (B + 9) (B + 8) 0 w h x y t (sp_h0 (R.1 176 (144 * s + (w * y + x))) (R.2 180) (w * y + x)) (R.1 157 (16 * p + sp_fe (fun z => R.1 157 (16 * p + z)) n m (sp_lk (sp_h0 (R.1 176 (144 * s + (w * y + x))) (R.2 180) (w * y + x))))) kn (sp_kf (kn + 1) - sp_kf kn) := by
    rw [← sp_qs_c _ _ _ _ _ _ _ _ _ _ _ hH, ← hp _ f2, ← f1, ← hlk]
    rcases hwy with rfl | rfl
    · rfl
    · rfl
  have EF := mk_qs (x := x) (y := y) (t := t) (to := R.1 157 (16 * p + sp_fe (fun z => R.1 157 (16 * p + z)) n m (sp_lk (sp_h0 (R.1 176 (144 * s + (w * y + x))) (R.2 180) (w * y + x))))) (F := sp_h3 A.2 (B + 10) (sp_hd wy (A.1 (B + 5) (w * y + x)) (A.2 (B + 9)) (w * y + x) k x y g)) (K := sp_h3 R.2 181 (sp_h0 (R.1 176 (144 * s + (w * y + x))) (R.2 180) (w * y + x))) (B := B) (s := s) (N := N) ⟨fun z hz => by rw [sp_h3_o _ _ _ _ (by omega), sp_h3_o _ _ _ _ (by decide)]; exact E.1 z hz, fun z hz => by rw [sp_h3_o _ _ _ _ (by omega), sp_h3_o _ _ _ _ (by decide)]; exact E.2 z hz⟩ hf hkn (show 0 < w by omega) hw2 hh2 hN (sp_kf (kn + 1) - sp_kf kn) (Nat.le_refl _)
  have hle := sp_kf_le kn hkn
  refine ⟨?_, ok2, ?_, ?_, ?_⟩
  · rw [e2]
    exact mk_Fl EF (by omega)
  · rw [e1]
    exact G.1
  · rw [e1]
    exact G.2.1
  · rw [e1]
    exact G.2.2
theorem mk_rw {A R : vm_P2} {B a p n s w h N kn k g wy y fl : Nat} {m : Int32} {D : Nat → Prop} (Q : mk_Q A R B a p n s w h N D) (hn : 0 < n) (h6 : a ≠ B + 6) (h7 : a ≠ B + 7) (hy : y < h) (hw2 : w ≤ 12) (hh2 : h ≤ 12) (hkn : kn < 5) (hs : s < 2) (hwy : wy = 1 ∨ wy = 2) (hfl : cv_fl wy = fl) (hN : N + 14 * w < 16777216) : ∀ i, i ≤ w → mk_Q (cv_rw A B a n w h kn k g wy y m i) (rv_rw R p n s w h kn y m fl i) B a p n s w h (N + 14 * i) (fun z => D z ∨ ∃ i', i' < i ∧ z = w * y + sp_zx fl w y i')
  | 0, _ => by
    obtain ⟨a1, a2, a3, a4, a5⟩ := Q
    exact ⟨a1, a2, a3, a4, fun z hz => a5 z (hz.resolve_right fun ⟨i', h, _⟩ => absurd h (Nat.not_lt_zero i'))⟩
  | i + 1, hi => by
    have ih := mk_rw (k := k) (g := g) (m := m) Q hn h6 h7 hy hw2 hh2 hkn hs hwy hfl hN i (by omega)
    have st := mk_px (x := sp_zx fl w y i) (t := sp_zt fl y) (k := k) (g := g) (wy := wy) (m := m) (kn := kn) ih hn h6 h7 (sp_zx_l (by omega)) hy hw2 hh2 hkn hs hwy (by
      have : 14 * (i + 1) ≤ 14 * w := Nat.mul_le_mul_left _ hi
      omega)
    have e : cv_rw A B a n w h kn k g wy y m (i + 1) = cv_px (cv_rw A B a n w h kn k g wy y m i) B a n w h kn k g wy (sp_zx fl w y i) y (sp_zt fl y) m := by
      rw [← hfl]
      rfl
    rw [e]
    obtain ⟨a1, a2, a3, a4, a5⟩ := st
    refine ⟨mk_Fl a1 (by omega), a2, a3, a4, fun z hz => a5 z ?_⟩
    rcases hz with hz | ⟨i', h1, h2⟩
    · exact Or.inl (Or.inl hz)
    · by_cases c : i' = i
      · subst c
        exact Or.inr h2
      · exact Or.inl (Or.inr ⟨i', by omega, h2⟩)
theorem mk_sd {A R : vm_P2} {B a p n s w h kn k g wy fl : Nat} {m : Int32} (Q : mk_Q A R B a p n s w h 0 (fun _ => False)) (hn : 0 < n) (h6 : a ≠ B + 6) (h7 : a ≠ B + 7) (hw2 : w ≤ 12) (hh2 : h ≤ 12) (hkn : kn < 5) (hs : s < 2) (hwy : wy = 1 ∨ wy = 2) (hfl : cv_fl wy = fl) : ∀ y, y ≤ h → mk_Q (cv_sd A B a n w h kn k g wy m y) (rv_sd R p n s w h kn m fl y) B a p n s w h (168 * y) (fun z => ∃ y' i', y' < y ∧ i' < w ∧ z = w * y' + sp_zx fl w y' i')
  | 0, _ => by
    obtain ⟨a1, a2, a3, a4, a5⟩ := Q
    exact ⟨a1, a2, a3, a4, fun z ⟨y', i', h, _⟩ => absurd h (Nat.not_lt_zero y')⟩
  | y + 1, hy => by
    have ih := mk_sd (k := k) (g := g) (m := m) Q hn h6 h7 hw2 hh2 hkn hs hwy hfl y (by omega)
    obtain ⟨a1, a2, a3, a4, a5⟩ := mk_rw (k := k) (g := g) (m := m) (y := y) ih hn h6 h7 (by omega) hw2 hh2 hkn hs hwy hfl (by omega) w (Nat.le_refl w)
    refine ⟨mk_Fl a1 (by omega), a2, a3, a4, fun z ⟨y', i', h1, h2, h3⟩ => a5 z ?_⟩
    by_cases c : y' = y
    · subst c
      exact Or.inr ⟨i', h2, h3⟩
    · exact Or.inl ⟨y', i', by omega, h2, h3⟩
