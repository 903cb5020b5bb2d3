/-- MAKING without spreading -/
theorem mk_l0 : ∀ u, u < 64 → FP.f2i (FP.fadd (sp_hl (FP.i2f (nI u))) 1056964608) = nI u := by decide +kernel
theorem mk_lk {c : Int32} (h : sp_col c) : sp_lk (fun z => sp_hl (FP.i2f (sp_ch c (nI z)))) = c := by
  obtain ⟨n, hn, rfl⟩ := sp_col_n h
  obtain ⟨h0, h1, h2⟩ := sp_chn hn
  unfold sp_lk
  dsimp only
  have e0 : sp_ch (nI n) 0 = nI (n / 4096 % 64) := h0
  have e1 : sp_ch (nI n) 1 = nI (n / 64 % 64) := h1
  have e2 : sp_ch (nI n) 2 = nI (n % 64) := h2
  rw [show sp_ch (nI n) (nI 0) = nI (n / 4096 % 64) from e0, show sp_ch (nI n) (nI 1) = nI (n / 64 % 64) from e1, show sp_ch (nI n) (nI 2) = nI (n % 64) from e2, mk_l0 _ (Nat.mod_lt _ (by decide)), mk_l0 _ (Nat.mod_lt _ (by decide)), mk_l0 _ (Nat.mod_lt _ (by decide))]
  rw [show (0 : Int32) + nI (n / 4096 % 64) = nI (n / 4096 % 64) from Int32.zero_add _, show (64 : Int32) * nI (n / 4096 % 64) = nI (64 * (n / 4096 % 64)) from vm_pm (x := 64) (a := 64) rfl rfl, vm_pa (x := nI (64 * (n / 4096 % 64))) (y := nI (n / 64 % 64)) rfl rfl, show (64 : Int32) * nI (64 * (n / 4096 % 64) + n / 64 % 64) = nI (64 * (64 * (n / 4096 % 64) + n / 64 % 64)) from vm_pm (x := 64) (a := 64) rfl rfl, vm_pa (x := nI (64 * (64 * (n / 4096 % 64) + n / 64 % 64))) (y := nI (n % 64)) rfl rfl]
  congr 1
  omega
theorem mk_p0 {A R : vm_P2} {B a p n s w h kn k g wy x y : Nat} {t m c : Int32} {D : Nat → Prop} (Q : mk_Q A R B a p n s w h 0 D) (hn : 0 < n) (h6 : a ≠ B + 6) (h7 : a ≠ B + 7) (hwy : wy ≠ 1) (hwy2 : wy ≠ 2) (hc : sp_lk (sp_hd wy (A.1 (B + 5) (w * y + x)) (A.2 (B + 9)) (w * y + x) k x y g) = c) : mk_Q (cv_px A B a n w h kn k g wy x y t m) (rv_fd R.1 p n s (w * y + x) m c, R.2) B a p n s w h 0 (fun z => D z ∨ z = w * y + x) := by
  obtain ⟨E, ok, hp, hx, hD⟩ := Q
  have G := mk_fd (B := B) (a := a) (p := p) (s := s) (q := w * y + x) (m := m) (c := c) (D := D) hn hp hx hD h6 h7
  have e1 : (cv_px A B a n w h kn k g wy x y t m).1 = cv_fd A.1 B a n (w * y + x) m c := by
    rw [← hc]
    rfl
  have e2 : (cv_px A B a n w h kn k g wy x y t m).2 = sp_h3 A.2 (B + 10) (sp_hd wy (A.1 (B + 5) (w * y + x)) (A.2 (B + 9)) (w * y + x) k x y g) := by
    unfold cv_px
    split
    · exact absurd rfl hwy
    · exact absurd rfl hwy2
    · rfl
  refine ⟨?_, ok, ?_, ?_, ?_⟩
  · rw [e2]
    exact ⟨fun z hz => by rw [sp_h3_o _ _ _ _ (by omega)]; exact E.1 z hz, fun z hz => by rw [sp_h3_o _ _ _ _ (by omega)]; exact E.2 z hz⟩
  · rw [e1]
    exact G.1
  · rw [e1]
    exact G.2.1
  · rw [e1]
    exact G.2.2
theorem mk_zx0 (w y i : Nat) : sp_zx 0 w y i = i := if_neg fun z => absurd z.1 (by decide)
theorem mk_zt0 (y : Nat) : sp_zt 0 y = 1 := if_neg fun z => absurd z.1 (by decide)
theorem mk_Qd {A R : vm_P2} {B a p n s w h N : Nat} {D E : Nat → Prop} (Q : mk_Q A R B a p n s w h N D) (he : ∀ z, E z → D z) : mk_Q A R B a p n s w h N E := ⟨Q.1, Q.2.1, Q.2.2.1, Q.2.2.2.1, fun z hz => Q.2.2.2.2 z (he z hz)⟩
/-- plainly -/
theorem cv_rw_0 {A : vm_P2} {B a n w h kn k g wy y i : Nat} {m : Int32} (hwy : wy = 0 ∨ wy = 3 ∨ wy = 4) : cv_rw A B a n w h kn k g wy y m (i + 1) = cv_px (cv_rw A B a n w h kn k g wy y m i) B a n w h kn k g wy i y 1 m := by
  have e : cv_rw A B a n w h kn k g wy y m (i + 1) = cv_px (cv_rw A B a n w h kn k g wy y m i) B a n w h kn k g wy (sp_zx (cv_fl wy) w y i) y (sp_zt (cv_fl wy) y) m := rfl
  have hf : cv_fl wy = 0 := by rcases hwy with rfl | rfl | rfl <;> rfl
  rw [e, hf, mk_zx0, mk_zt0]
theorem mk_pl1 (J : Nat → Nat → Int32) (p n s : Nat) (m : Int32) (k : Nat) : rv_pl J p n s m (k + 1) = rv_fd (rv_pl J p n s m k) p n s k m (J 176 (144 * s + k)) := rfl
theorem mk_h0 (cl : Int32) (cm : Nat → UInt32) (q k i j g : Nat) : sp_hd 0 cl cm q k i j g = fun z => sp_hl (FP.i2f (sp_ch cl (nI z))) := rfl
theorem mk_pl2 {A : vm_P2} {J : Nat → Nat → Int32} {K : Nat → Nat → UInt32} {B a p n s w h kn k g y i : Nat} {m : Int32} (Q : mk_Q A (rv_pl J p n s m (w * y + i), K) B a p n s w h 0 (fun z => z < w * y + i)) (hn : 0 < n) (h6 : a ≠ B + 6) (h7 : a ≠ B + 7) (hy : y < h) (hi : i < w) : mk_Q (cv_px A B a n w h kn k g 0 i y 1 m) (rv_fd (rv_pl J p n s m (w * y + i)) p n s (w * y + i) m (J 176 (144 * s + (w * y + i))), K) B a p n s w h 0 (fun z => z < w * y + (i + 1)) := by
  have ix := vm_lin2 hi hy
  have qc := Q.2.2.2.1 (w * y + i) (by omega)
  have e3 : rv_pl J p n s m (w * y + i) 176 = J 176 := rv_pl_o _ _ _ _ _ _ (by decide) (by decide) _
  have q0 : A.1 (B + 5) (w * y + i) = rv_pl J p n s m (w * y + i) 176 (144 * s + (w * y + i)) := qc.1
  have q2 : sp_col (rv_pl J p n s m (w * y + i) 176 (144 * s + (w * y + i))) := qc.2
  rw [e3] at q0 q2
  have hc : sp_lk (sp_hd 0 (A.1 (B + 5) (w * y + i)) (A.2 (B + 9)) (w * y + i) k i y g) = J 176 (144 * s + (w * y + i)) := by
    rw [mk_h0, q0]
    exact mk_lk q2
  have T := mk_p0 (t := 1) (m := m) (kn := kn) (wy := 0) Q hn h6 h7 (by decide) (by decide) hc
  exact mk_Qd T fun z hz => by
    show z < w * y + i ∨ z = w * y + i
    omega
theorem mk_plr {A : vm_P2} {J : Nat → Nat → Int32} {K : Nat → Nat → UInt32} {B a p n s w h kn k g y : Nat} {m : Int32} (Q : mk_Q A (rv_pl J p n s m (w * y), K) B a p n s w h 0 (fun z => z < w * y)) (hn : 0 < n) (h6 : a ≠ B + 6) (h7 : a ≠ B + 7) (hy : y < h) : ∀ i, i ≤ w → mk_Q (cv_rw A B a n w h kn k g 0 y m i) (rv_pl J p n s m (w * y + i), K) B a p n s w h 0 (fun z => z < w * y + i) := by
  intro i
  induction i with
  | zero => exact fun _ => Q
  | succ i ih =>
    intro hi
    have e : cv_rw A B a n w h kn k g 0 y m (i + 1) = cv_px (cv_rw A B a n w h kn k g 0 y m i) B a n w h kn k g 0 i y 1 m := cv_rw_0 (Or.inl rfl)
    rw [e, show w * y + (i + 1) = w * y + i + 1 from rfl, mk_pl1]
    exact mk_pl2 (ih (by omega)) hn h6 h7 hy hi
theorem mk_pls {A : vm_P2} {J : Nat → Nat → Int32} {K : Nat → Nat → UInt32} {B a p n s w h kn k g : Nat} {m : Int32} (Q : mk_Q A (J, K) B a p n s w h 0 (fun _ => False)) (hn : 0 < n) (h6 : a ≠ B + 6) (h7 : a ≠ B + 7) : ∀ y, y ≤ h → mk_Q (cv_sd A B a n w h kn k g 0 m y) (rv_pl J p n s m (w * y), K) B a p n s w h 0 (fun z => z < w * y)
  | 0, _ => mk_Qd Q fun z hz => absurd hz (Nat.not_lt_zero z)
  | y + 1, hy => mk_plr (kn := kn) (k := k) (g := g) (mk_pls Q hn h6 h7 y (by omega)) hn h6 h7 (by omega) w (Nat.le_refl w)
/-- by a screen -/
theorem mk_h3 (cl : Int32) (cm : Nat → UInt32) (q k i j g : Nat) : sp_hd 3 cl cm q k i j g = sp_sw cl k 0 i j g := funext fun z => by
  unfold sp_hd sp_wt sp_sw sp_sb
  rfl
theorem mk_h4 (cl : Int32) (cm : Nat → UInt32) (q k i j g : Nat) : sp_hd 4 cl cm q k i j g = sp_sw cl k 1 i j g := funext fun z => by
  unfold sp_hd sp_wt sp_sw sp_sb
  rfl
theorem mk_sr1 (J : Nat → Nat → Int32) (p n s w y g k fl : Nat) (m : Int32) (i : Nat) : rv_sr J p n s w y g k fl m (i + 1) = rv_fd (rv_sr J p n s w y g k fl m i) p n s (w * y + i) m (sp_lk (sp_sw (J 176 (144 * s + (w * y + i))) k fl i y g)) := rfl
theorem mk_sr2 {A : vm_P2} {J : Nat → Nat → Int32} {K : Nat → Nat → UInt32} {B a p n s w h kn k g y wy fl i : Nat} {m : Int32} (hwy : wy = 3 ∧ fl = 0 ∨ wy = 4 ∧ fl = 1) (Q : mk_Q A (rv_sr J p n s w y g k fl m i, K) B a p n s w h 0 (fun z => z < w * y + i)) (hn : 0 < n) (h6 : a ≠ B + 6) (h7 : a ≠ B + 7) (hy : y < h) (hi : i < w) : mk_Q (cv_px A B a n w h kn k g wy i y 1 m) (rv_fd (rv_sr J p n s w y g k fl m i) p n s (w * y + i) m (sp_lk (sp_sw (J 176 (144 * s + (w * y + i))) k fl i y g)), K) B a p n s w h 0 (fun z => z < w * y + (i + 1)) := by
  have ix := vm_lin2 hi hy
  have qc := Q.2.2.2.1 (w * y + i) (by omega)
  have e3 : rv_sr J p n s w y g k fl m i 176 = J 176 := rv_sr_o _ _ _ _ _ _ _ _ _ _ _ (by decide) (by decide) _
  have q0 : A.1 (B + 5) (w * y + i) = rv_sr J p n s w y g k fl m i 176 (144 * s + (w * y + i)) := qc.1
  rw [e3] at q0
  have hc : sp_lk (sp_hd wy (A.1 (B + 5) (w * y + i)) (A.2 (B + 9)) (w * y + i) k i y g) = sp_lk (sp_sw (J 176 (144 * s + (w * y + i))) k fl i y g) := by
    rw [q0]
    rcases hwy with ⟨e1, e2⟩ | ⟨e1, e2⟩
    · rw [e1, e2, mk_h3]
    · rw [e1, e2, mk_h4]
  have T := mk_p0 (t := 1) (m := m) (kn := kn) (wy := wy) Q hn h6 h7 (by omega) (by omega) hc
  exact mk_Qd T fun z hz => by
    show z < w * y + i ∨ z = w * y + i
    omega
theorem mk_srr {A : vm_P2} {J : Nat → Nat → Int32} {K : Nat → Nat → UInt32} {B a p n s w h kn k g y wy fl : Nat} {m : Int32} (hwy : wy = 3 ∧ fl = 0 ∨ wy = 4 ∧ fl = 1) (Q : mk_Q A (J, K) B a p n s w h 0 (fun z => z < w * y)) (hn : 0 < n) (h6 : a ≠ B + 6) (h7 : a ≠ B + 7) (hy : y < h) : ∀ i, i ≤ w → mk_Q (cv_rw A B a n w h kn k g wy y m i) (rv_sr J p n s w y g k fl m i, K) B a p n s w h 0 (fun z => z < w * y + i) := by
  intro i
  induction i with
  | zero => exact fun _ => Q
  | succ i ih =>
    intro hi
    have e : cv_rw A B a n w h kn k g wy y m (i + 1) = cv_px (cv_rw A B a n w h kn k g wy y m i) B a n w h kn k g wy i y 1 m := cv_rw_0 (by omega)
    rw [e, mk_sr1]
    exact mk_sr2 hwy (ih (by omega)) hn h6 h7 hy hi
theorem mk_srs {A : vm_P2} {J : Nat → Nat → Int32} {K : Nat → Nat → UInt32} {B a p n s w h kn k g wy fl : Nat} {m : Int32} (hwy : wy = 3 ∧ fl = 0 ∨ wy = 4 ∧ fl = 1) (Q : mk_Q A (J, K) B a p n s w h 0 (fun _ => False)) (hn : 0 < n) (h6 : a ≠ B + 6) (h7 : a ≠ B + 7) : ∀ y, y ≤ h → mk_Q (cv_sd A B a n w h kn k g wy m y) (rv_ss J p n s w g k fl m y, K) B a p n s w h 0 (fun z => z < w * y)
  | 0, _ => mk_Qd Q fun z hz => absurd hz (Nat.not_lt_zero z)
  | y + 1, hy => mk_srr (kn := kn) (k := k) (g := g) hwy (mk_srs hwy Q hn h6 h7 y (by omega)) hn h6 h7 (by omega) w (Nat.le_refl w)
/-- MAKING: what both sides hold afterwards -/
def mk_E (A R : vm_P2) (B s w h : Nat) : Prop := (∀ z, z < w * h → A.1 (B + 5) z = R.1 176 (144 * s + z) ∧ A.1 (B + 6) z = R.1 177 (144 * s + z) ∧ A.1 (B + 7) z = R.1 178 (144 * s + z)) ∧ ∀ c, c < 3 → A.2 (B + 8) c = R.2 179 (3 * s + c) ∧ (∃ s_ c' q, vf_d (R.2 179 (3 * s + c)) = .fin s_ c' q) ∧ R.2 179 (3 * s + c) ≠ 2147483648
theorem mk_EQ {A R : vm_P2} {B a p n s w h N : Nat} {D : Nat → Prop} (Q : mk_Q A R B a p n s w h N D) (he : ∀ z, z < w * h → D z) : mk_E A R B s w h := ⟨fun z hz => ⟨(Q.2.2.2.1 z hz).1, Q.2.2.2.2 z (he z hz)⟩, fun c hc => ⟨(Q.1.2 c hc).1, vf_bdn (Q.1.2 c hc).2⟩⟩
theorem mk_cov {fl w h z : Nat} (hz : z < w * h) : ∃ y' i', y' < h ∧ i' < w ∧ z = w * y' + sp_zx fl w y' i' := by
  have hw : 0 < w := by
    rcases Nat.eq_zero_or_pos w with c | c
    · rw [c, Nat.zero_mul] at hz
      exact absurd hz (Nat.not_lt_zero z)
    · exact c
  have e := Nat.div_add_mod z w
  have l := Nat.mod_lt z hw
  have d : z / w < h := Nat.div_lt_of_lt_mul hz
  by_cases c : fl = 1 ∧ (z / w) % 2 = 1
  · refine ⟨z / w, w - 1 - z % w, d, by omega, ?_⟩
    have : sp_zx fl w (z / w) (w - 1 - z % w) = w - 1 - (w - 1 - z % w) := if_pos c
    rw [this]
    omega
  · refine ⟨z / w, z % w, d, l, ?_⟩
    have : sp_zx fl w (z / w) (z % w) = z % w := if_neg c
    rw [this]
    omega
theorem mk_all {I J : Nat → Nat → Int32} {F K : Nat → Nat → UInt32} {B a pa p q n s w h kn k g wy : Nat} {m : Int32} (hn : 0 < n) (ha4 : a ≠ B + 4) (ha5 : a ≠ B + 5) (h6 : a ≠ B + 6) (h7 : a ≠ B + 7) (hpa : pa ≠ B + 4) (hw2 : w ≤ 12) (hh2 : h ≤ 12) (hkn : kn < 5) (hs : s < 2) (hwy : wy < 5) (hp : ∀ e, e < n → I a e = J 157 (16 * p + e)) (hx : ∀ z, z < w * h → I pa z = J 155 (144 * q + z) ∧ sp_col (J 155 (144 * q + z))) (hlo : ∀ i, i < 6 → vf_ok (K 179 i)) : mk_E (cv_mk (I, F) B a pa n w h kn k g wy m) (rv_mk (J, K) q p n s w h kn g k wy m) B s w h := by
  have hwh := vm_mul144 hw2 hh2
  have mc : ∀ z, z < w * h → cv_mb I B pa w h wy (B + 5) z = I pa z := fun z hz => by
    unfold cv_mb vm_cp
    rw [if_pos rfl, if_pos (by omega), vm_up_f _ _ _ _ _ hpa, vm_up_f _ _ _ _ _ hpa, vm_up_f _ _ _ _ _ hpa]
  have mr : ∀ wy z, z < w * h → rv_mb J q s w h wy 176 (144 * s + z) = J 155 (144 * q + z) := fun wy z hz => by
    unfold rv_mb
    rw [vm_wq_i _ _ _ _ _ _ (by omega)]
    show J 155 (144 * q + (144 * s + z - 144 * s)) = _
    rw [Nat.add_sub_cancel_left]
  have f8 : ∀ c, c < 3 → cv_mf F B (B + 8) c = 0 := fun c hc => by
    unfold cv_mf
    rw [vm_zc_f _ _ _ _ _ (by omega), vm_zc_h _ _ _ _ _ hc]
  have f9 : ∀ k, k < 432 → cv_mf F B (B + 9) k = 0 := fun k hk => vm_zc_h _ _ _ _ _ hk
  have g9 : ∀ c, c < 3 → rv_mf K s 179 (3 * s + c) = 0 := fun c hc => by
    unfold rv_mf
    rcases (show c = 0 ∨ c = 1 ∨ c = 2 by omega) with rfl | rfl | rfl
    · rw [vm_up_k2 _ _ _ _ _ (by omega), vm_up_k2 _ _ _ _ _ (by omega), vm_up_h]
    · rw [vm_up_k2 _ _ _ _ _ (by omega), vm_up_h]
    · rw [vm_up_h]
  have T : ∀ (wz : Int32) (L : Nat → Nat → UInt32), (∀ c, c < 3 → L 179 (3 * s + c) = 0) → (∀ k, k < 432 → L 180 k = 0) → (∀ i, i < 6 → vf_ok (L 179 i)) → mk_Q (cv_mb I B pa w h wy, cv_mf F B) (rv_mb J q s w h wz, L) B a p n s w h 0 (fun _ => False) := by
    intro wz L l1 l2 l3
    refine ⟨⟨fun z hz => (f9 z hz).trans (l2 z hz).symm, fun c hc => ⟨(f8 c hc).trans (l1 c hc).symm, ?_⟩⟩, ⟨fun z hz => ?_, l3⟩, fun e he => ?_, fun z hz => ?_, fun z hz => hz.elim⟩
    · show vf_bd (L 179 (3 * s + c)) 0
      rw [l1 c hc]
      exact vf_bd0
    · show vf_ok (L 180 z)
      rw [l2 z hz]
      exact vf_fn_ok vf_c0
    · show cv_mb I B pa w h wy a e = rv_mb J q s w h wz 157 (16 * p + e)
      rw [cv_mb_o _ _ _ _ _ _ _ ha4 ha5, rv_mb_o _ _ _ _ _ _ _ (by decide) (by decide) (by decide) (by decide)]
      exact hp e he
    · show cv_mb I B pa w h wy (B + 5) z = rv_mb J q s w h wz 176 (144 * s + z) ∧ sp_col (rv_mb J q s w h wz 176 (144 * s + z))
      rw [mc z hz, mr wz z hz]
      exact hx z hz
  have lz : ∀ c, c < 3 → vm_zc 0 (rv_mf K s) 180 432 179 (3 * s + c) = 0 := fun c hc => by
    rw [vm_zc_f _ _ _ _ _ (by decide)]
    exact g9 c hc
  have lok := rv_mf_ok (s := s) hlo
  have lok2 : ∀ i, i < 6 → vf_ok (vm_zc 0 (rv_mf K s) 180 432 179 i) := fun i hi => by
    rw [vm_zc_f _ _ _ _ _ (by decide)]
    exact lok i hi
  rcases (show wy = 0 ∨ wy = 1 ∨ wy = 2 ∨ wy = 3 ∨ wy = 4 by omega) with rfl | rfl | rfl | rfl | rfl
  · -- the floats that a plain way does not look at
    have Q := mk_pls (kn := kn) (k := k) (g := g) (m := m) (T 0 (vm_zc 0 (rv_mf K s) 180 432) lz (fun k hk => vm_zc_h _ _ _ _ _ hk) lok2) hn h6 h7 h (Nat.le_refl h)
    have E := mk_EQ Q fun z hz => hz
    exact ⟨E.1, fun c hc => by
      have := E.2 c hc
      rw [show (rv_pl (rv_mb J q s w h 0) p n s m (w * h), vm_zc 0 (rv_mf K s) 180 432).2 179 (3 * s + c) = rv_mf K s 179 (3 * s + c) from congrFun (vm_zc_f 0 (rv_mf K s) 180 432 179 (by decide)) _] at this
      exact this⟩
  · exact mk_EQ (mk_sd (k := k) (g := g) (wy := 1) (fl := 0) (m := m) (T 1 (vm_zc 0 (rv_mf K s) 180 432) lz (fun k hk => vm_zc_h _ _ _ _ _ hk) lok2) hn h6 h7 hw2 hh2 hkn hs (Or.inl rfl) rfl h (Nat.le_refl h)) fun z hz => mk_cov hz
  · exact mk_EQ (mk_sd (k := k) (g := g) (wy := 2) (fl := 1) (m := m) (T 2 (vm_zc 0 (rv_mf K s) 180 432) lz (fun k hk => vm_zc_h _ _ _ _ _ hk) lok2) hn h6 h7 hw2 hh2 hkn hs (Or.inr rfl) rfl h (Nat.le_refl h)) fun z hz => mk_cov hz
  · have Q := mk_srs (kn := kn) (k := k) (g := g) (m := m) (Or.inl ⟨rfl, rfl⟩) (T 3 (vm_zc 0 (rv_mf K s) 180 432) lz (fun k hk => vm_zc_h _ _ _ _ _ hk) lok2) hn h6 h7 h (Nat.le_refl h)
    have E := mk_EQ Q fun z hz => hz
    exact ⟨E.1, fun c hc => by
      have := E.2 c hc
      rw [show (rv_ss (rv_mb J q s w h 3) p n s w g k 0 m h, vm_zc 0 (rv_mf K s) 180 432).2 179 (3 * s + c) = rv_mf K s 179 (3 * s + c) from congrFun (vm_zc_f 0 (rv_mf K s) 180 432 179 (by decide)) _] at this
      exact this⟩
  · have Q := mk_srs (kn := kn) (k := k) (g := g) (m := m) (Or.inr ⟨rfl, rfl⟩) (T 4 (vm_zc 0 (rv_mf K s) 180 432) lz (fun k hk => vm_zc_h _ _ _ _ _ hk) lok2) hn h6 h7 h (Nat.le_refl h)
    have E := mk_EQ Q fun z hz => hz
    exact ⟨E.1, fun c hc => by
      have := E.2 c hc
      rw [show (rv_ss (rv_mb J q s w h 4) p n s w g k 1 m h, vm_zc 0 (rv_mf K s) 180 432).2 179 (3 * s + c) = rv_mf K s 179 (3 * s + c) from congrFun (vm_zc_f 0 (rv_mf K s) 180 432 179 (by decide)) _] at this
      exact this⟩
