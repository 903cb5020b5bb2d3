/-- KEEPING the locked and giving the means -/
theorem kl_lt {l : Nat → Int32} : ∀ {j i : Nat}, i < j → l i = 1 → sp_kn l i < sp_kn l j
  | j + 1, i, h, hl => by
    show sp_kn l i < (if l j = 1 then sp_kn l j + 1 else sp_kn l j)
    by_cases e : i = j
    · subst e
      rw [if_pos hl]
      omega
    · have := kl_lt (j := j) (by omega) hl
      split <;> omega
theorem kl_mo {l : Nat → Int32} : ∀ {j i : Nat}, i ≤ j → sp_kn l i ≤ sp_kn l j
  | 0, i, h => by
    have : i = 0 := by omega
    rw [this]
    exact Nat.le_refl _
  | j + 1, i, h => by
    by_cases e : i = j + 1
    · rw [e]
      exact Nat.le_refl _
    · have := kl_mo (l := l) (j := j) (i := i) (by omega)
      show sp_kn l i ≤ (if l j = 1 then sp_kn l j + 1 else sp_kn l j)
      split <;> omega
theorem kl_s {l : Nat → Int32} : ∀ {n e : Nat}, e < sp_kn l n → ∃ i, i < n ∧ l i = 1 ∧ sp_kn l i = e
  | 0, e, h => absurd h (Nat.not_lt_zero e)
  | n + 1, e, h => by
    by_cases c : l n = 1
    · have h2 : e < sp_kn l n + 1 := by
        have : sp_kn l (n + 1) = sp_kn l n + 1 := if_pos c
        omega
      by_cases d : e = sp_kn l n
      · exact ⟨n, by omega, c, d.symm⟩
      · obtain ⟨i, a, b⟩ := kl_s (l := l) (n := n) (e := e) (by omega)
        exact ⟨i, by omega, b⟩
    · have h2 : sp_kn l (n + 1) = sp_kn l n := if_neg c
      obtain ⟨i, a, b⟩ := kl_s (l := l) (n := n) (e := e) (by omega)
      exact ⟨i, by omega, b⟩
theorem kl_c {I : Nat → Nat → Int32} {a b : Nat} (hab : a ≠ b) : ∀ {n i : Nat}, i < n → I b i = 1 → vm_klk I a b n a (sp_kn (I b) i) = I a i ∧ vm_klk I a b n b (sp_kn (I b) i) = 1
  | n + 1, i, h, hl => by
    by_cases c : I b n = 1
    · have e : vm_klk I a b (n + 1) = vm_up (vm_up (vm_klk I a b n) a (sp_kn (I b) n) (I a n)) b (sp_kn (I b) n) 1 := if_pos c
      rw [e]
      by_cases d : i = n
      · subst d
        rw [vm_up_f _ _ _ _ _ hab, vm_up_h, vm_up_h]
        exact ⟨rfl, rfl⟩
      · have lt := kl_lt (l := I b) (j := n) (i := i) (by omega) hl
        obtain ⟨q1, q2⟩ := kl_c hab (n := n) (i := i) (by omega) hl
        rw [vm_up_f _ _ _ _ _ hab, vm_up_k2 _ _ _ _ _ (by omega), vm_up_k2 _ _ _ _ _ (by omega), vm_up_f _ _ _ _ _ (Ne.symm hab)]
        exact ⟨q1, q2⟩
    · have e : vm_klk I a b (n + 1) = vm_klk I a b n := if_neg c
      rw [e]
      by_cases d : i = n
      · exact absurd (d ▸ hl) c
      · exact kl_c hab (n := n) (i := i) (by omega) hl
theorem kl_rm (I : Nat → Nat → Int32) (e m x : Nat) (hx : x = 157 ∨ x = 158) (k : Nat) : vm_rm I 157 158 e m x k = if e ≤ k ∧ k < e + m then I x (k + 1) else I x k := by
  unfold vm_rm vm_wq
  rcases hx with rfl | rfl <;> simp
theorem kl_r {I : Nat → Nat → Int32} {p n : Nat} (hb : ∀ e, e < n → I 158 (16 * p + e) = 0 ∨ I 158 (16 * p + e) = 1) : ∀ j, j ≤ n → (vr_kl I p n j).2 = (n - j) + (sp_kn (fun e => I 158 (16 * p + e)) n - sp_kn (fun e => I 158 (16 * p + e)) (n - j)) ∧ (∀ k, k < 16 * p + (n - j) → (vr_kl I p n j).1 157 k = I 157 k ∧ (vr_kl I p n j).1 158 k = I 158 k) ∧ (∀ k, 16 * p + n ≤ k → (vr_kl I p n j).1 157 k = I 157 k ∧ (vr_kl I p n j).1 158 k = I 158 k) ∧ ∀ i, n - j ≤ i → i < n → I 158 (16 * p + i) = 1 → (vr_kl I p n j).1 157 (16 * p + (n - j + (sp_kn (fun e => I 158 (16 * p + e)) i - sp_kn (fun e => I 158 (16 * p + e)) (n - j)))) = I 157 (16 * p + i) ∧ (vr_kl I p n j).1 158 (16 * p + (n - j + (sp_kn (fun e => I 158 (16 * p + e)) i - sp_kn (fun e => I 158 (16 * p + e)) (n - j)))) = 1
  | 0, _ => ⟨by show n = n - 0 + (_ - sp_kn _ (n - 0)); rw [Nat.sub_zero, Nat.sub_self]; rfl, fun k _ => ⟨rfl, rfl⟩, fun k _ => ⟨rfl, rfl⟩, fun i h1 h2 => by omega⟩
  | j + 1, hj => by
    obtain ⟨i1, i2, i3, i4⟩ := kl_r hb j (by omega)
    have ht : n - j = n - 1 - j + 1 := by omega
    have ht2 : n - (j + 1) = n - 1 - j := by omega
    rw [ht2]
    rw [ht] at i1 i2 i4
    generalize hz : n - 1 - j = t at *
    have hk1 : sp_kn (fun e => I 158 (16 * p + e)) (t + 1) = if I 158 (16 * p + t) = 1 then sp_kn (fun e => I 158 (16 * p + e)) t + 1 else sp_kn (fun e => I 158 (16 * p + e)) t := rfl
    have hmo := kl_mo (l := fun e => I 158 (16 * p + e)) (j := n) (i := t + 1) (by omega)
    by_cases c : I 158 (16 * p + t) = 0
    · have c1 : ¬ I 158 (16 * p + t) = 1 := by rw [c]; decide
      rw [if_neg c1] at hk1
      rw [hk1] at i1 i4 hmo
      have e : vr_kl I p n (j + 1) = (vm_rm (vm_up (vr_kl I p n j).1 156 p (nI ((vr_kl I p n j).2 - 1))) 157 158 (16 * p + t) ((vr_kl I p n j).2 - 1 - t), (vr_kl I p n j).2 - 1) := by
        rw [← hz] at c ⊢
        exact if_pos c
      have T : ∀ x, x = 157 ∨ x = 158 → ∀ k, (vr_kl I p n (j + 1)).1 x k = if 16 * p + t ≤ k ∧ k < 16 * p + t + ((vr_kl I p n j).2 - 1 - t) then (vr_kl I p n j).1 x (k + 1) else (vr_kl I p n j).1 x k := fun x hx k => by
        rw [e]
        show vm_rm _ 157 158 _ _ x k = _
        rw [kl_rm _ _ _ _ hx, vm_up_f _ _ _ _ _ (by omega)]
      refine ⟨?_, fun k hk => ?_, fun k hk => ?_, fun i h1 h2 h3 => ?_⟩
      · rw [e]
        show (vr_kl I p n j).2 - 1 = _
        omega
      · rw [T 157 (Or.inl rfl), T 158 (Or.inr rfl), if_neg (by omega), if_neg (by omega)]
        exact i2 k (by omega)
      · have hkn := sp_kn_le (fun e => I 158 (16 * p + e)) n
        have hb2 := (vr_kl_b I p n j (by omega)).2
        rw [T 157 (Or.inl rfl), T 158 (Or.inr rfl), if_neg (by omega), if_neg (by omega)]
        exact i3 k hk
      · have hi : t + 1 ≤ i := by
          by_cases d : i = t
          · rw [d, c] at h3
            exact absurd h3 (by decide)
          · omega
        have q := i4 i hi h2 h3
        have l1 := kl_lt (l := fun e => I 158 (16 * p + e)) (j := n) (i := i) h2 h3
        have l2 := kl_mo (l := fun e => I 158 (16 * p + e)) (j := i) (i := t) (by omega)
        rw [T 157 (Or.inl rfl), T 158 (Or.inr rfl), if_pos (by omega), if_pos (by omega)]
        rw [show 16 * p + (t + (sp_kn (fun e => I 158 (16 * p + e)) i - sp_kn (fun e => I 158 (16 * p + e)) t)) + 1 = 16 * p + (t + 1 + (sp_kn (fun e => I 158 (16 * p + e)) i - sp_kn (fun e => I 158 (16 * p + e)) t)) by omega]
        exact q
    · have c1 : I 158 (16 * p + t) = 1 := (hb t (by omega)).resolve_left c
      rw [if_pos c1] at hk1
      rw [hk1] at i1 i4 hmo
      have e : vr_kl I p n (j + 1) = vr_kl I p n j := by
        rw [← hz] at c
        exact if_neg c
      rw [e]
      refine ⟨by omega, fun k hk => i2 k (by omega), i3, fun i h1 h2 h3 => ?_⟩
      by_cases d : i = t
      · subst d
        rw [Nat.sub_self, Nat.add_zero]
        have := i2 (16 * p + i) (by omega)
        rw [this.1, this.2]
        exact ⟨rfl, c1⟩
      · have q := i4 i (by omega) h2 h3
        have l2 := kl_lt (l := fun e => I 158 (16 * p + e)) (j := i) (i := t) (by omega) c1
        rw [show t + (sp_kn (fun e => I 158 (16 * p + e)) i - sp_kn (fun e => I 158 (16 * p + e)) t) = t + 1 + (sp_kn (fun e => I 158 (16 * p + e)) i - (sp_kn (fun e => I 158 (16 * p + e)) t + 1)) by omega]
        exact q
theorem kl_6 (I : Nat → Nat → Int32) (p n q : Nat) (hq : q ≠ p) : ∀ j, (vr_kl I p n j).1 156 q = I 156 q
  | 0 => rfl
  | j + 1 => by
    unfold vr_kl
    split
    · exact (congrFun (vm_rm_o (vm_up (vr_kl I p n j).1 156 p (nI ((vr_kl I p n j).2 - 1))) 157 158 (16 * p + (n - 1 - j)) ((vr_kl I p n j).2 - 1 - (n - 1 - j)) 156 (by decide) (by decide)) q).trans ((vm_up_k2 _ _ _ _ _ hq).trans (kl_6 I p n q hq j))
    · exact kl_6 I p n q hq j
theorem gm_6 (H : Nat → Nat → Int32) (c : Nat → Int32) (p m q : Nat) (hq : q ≠ p) : ∀ i, (vr_gm H c p m i).1 156 q = H 156 q
  | 0 => rfl
  | i + 1 => by
    unfold vr_gm
    split
    · exact (vm_up_k2 _ _ _ _ _ hq).trans ((congrFun (vm_up_f _ 158 _ _ 156 (by decide)) q).trans ((congrFun (vm_up_f _ 157 _ _ 156 (by decide)) q).trans (gm_6 H c p m q hq i)))
    · exact gm_6 H c p m q hq i
theorem gm_7 (H : Nat → Nat → Int32) (c : Nat → Int32) (p m k : Nat) (hk : ∀ e, e < 16 → k ≠ 16 * p + e) : ∀ i, (vr_gm H c p m i).1 157 k = H 157 k ∧ (vr_gm H c p m i).1 158 k = H 158 k
  | 0 => ⟨rfl, rfl⟩
  | i + 1 => by
    unfold vr_gm
    split
    · next h =>
      dsimp only
      rw [vm_up_f _ 156 _ _ 157 (by decide), vm_up_f _ 158 _ _ 157 (by decide), vm_up_k2 _ _ _ _ _ (hk _ h.1), vm_up_f _ 156 _ _ 158 (by decide), vm_up_k2 _ _ _ _ _ (hk _ h.1), vm_up_f _ 157 _ _ 158 (by decide)]
      exact gm_7 H c p m k hk i
    · exact gm_7 H c p m k hk i
/-- the means are colours -/
theorem bx_sums {f g h : Nat → Int32} {v k : Int32} {c : Nat → Nat} : ∀ {n : Nat}, (∀ i, i < n → h i = nI (c i)) → ∃ P S, vr_px g h n v = nI P ∧ vr_cs f g h n v k = nI S ∧ S ≤ 63 * P ∧ P ≤ vf_ns c n
  | 0, _ => ⟨0, 0, rfl, rfl, Nat.le_refl 0, Nat.le_refl 0⟩
  | n + 1, hc => by
    obtain ⟨P, S, a, b, d, e⟩ := bx_sums (f := f) (g := g) (v := v) (k := k) fun i hi => hc i (Nat.lt_succ_of_lt hi)
    have ea : vr_px g h (n + 1) v = vr_px g h n v + if g n = v then h n else 0 := rfl
    have eb : vr_cs f g h (n + 1) v k = vr_cs f g h n v k + if g n = v then h n * sp_ch (f n) k else 0 := rfl
    have ec : vf_ns c (n + 1) = vf_ns c n + c n := rfl
    obtain ⟨u, hu, eu⟩ := sp_ch_n (f n) k
    rw [ea, eb, ec, a, b]
    by_cases q : g n = v
    · rw [if_pos q, if_pos q, hc n (Nat.lt_succ_self n), eu]
      refine ⟨P + c n, S + c n * u, vm_pa rfl rfl, vm_pa rfl (vm_pm rfl rfl), ?_, by omega⟩
      have : c n * u ≤ c n * 63 := Nat.mul_le_mul_left _ (by omega)
      omega
    · rw [if_neg q, if_neg q]
      exact ⟨P, S, vm_pa (y := 0) (b := 0) rfl rfl, vm_pa (y := 0) (b := 0) rfl rfl, d, by omega⟩
theorem bx_rd {S P : Nat} (h : S ≤ 63 * P) (hP : P ≤ 144) : ∃ u, u < 64 ∧ sp_rd (nI S) (nI P) = nI u := by
  unfold sp_rd
  by_cases c : 0 < nI P
  · rw [if_pos c]
    have c2 : 0 < P := (vm_lt_i (a := 0) (by decide) (by omega)).mp c
    refine ⟨(2 * S + P) / (2 * P), ?_, ?_⟩
    · rw [Nat.div_lt_iff_lt_mul (by omega)]
      omega
    · rw [show 2 * nI S + nI P = nI (2 * S + P) from vm_pa (vm_pm (x := 2) (a := 2) rfl rfl) rfl, show 2 * nI P = nI (2 * P) from vm_pm (x := 2) (a := 2) rfl rfl]
      exact vm_div_n (by omega) (by omega)
  · rw [if_neg c]
    exact ⟨0, by decide, rfl⟩
theorem bx_mcol {f g h : Nat → Int32} {v : Int32} {c : Nat → Nat} {n : Nat} (hc : ∀ i, i < n → h i = nI (c i)) (hN : vf_ns c n ≤ 144) : sp_col (vr_cm f g h n v 3) := by
  have T : ∀ k, ∃ u, u < 64 ∧ sp_rd (vr_cs f g h n v k) (vr_px g h n v) = nI u := fun k => by
    obtain ⟨P, S, a, b, d, e⟩ := bx_sums (f := f) (g := g) (v := v) (k := k) hc
    rw [a, b]
    exact bx_rd d (by omega)
  have e : vr_cm f g h n v 3 = ((0 * 64 + sp_rd (vr_cs f g h n v (nI 0)) (vr_px g h n v)) * 64 + sp_rd (vr_cs f g h n v (nI 1)) (vr_px g h n v)) * 64 + sp_rd (vr_cs f g h n v (nI 2)) (vr_px g h n v) := by
    show 64 * (64 * (64 * 0 + _) + _) + _ = _
    rw [Int32.mul_comm 64 (64 * (64 * 0 + _) + _), Int32.mul_comm 64 (64 * 0 + _), Int32.mul_comm 64 0]
  rw [e]
  exact sp_col3 (T _) (T _) (T _)
theorem vm_bxa_c {H H' : Nat → Nat → Int32} {nb : Nat} {i : Int32} (h : ∀ u, u < nb → H' (112 + 4 + u) 5 = H (112 + 4 + u) 5) : vm_bxa H' 112 nb i = vm_bxa H 112 nb i := sp_fi_c fun t ht => by
  have e : sp_sum (fun u => if H' (112 + 4 + u) 5 < H' (112 + 4 + t) 5 then (1 : Int32) else 0) nb = sp_sum (fun u => if H (112 + 4 + u) 5 < H (112 + 4 + t) 5 then (1 : Int32) else 0) nb := sp_sum_ext fun u hu => by rw [h u hu, h t ht]
  rw [e]
theorem gm_sim {H J : Nat → Nat → Int32} {n nb po pa pb p m : Nat} (R : bx_R H J n nb) (hnb : nb ≤ 16) (hcol : ∀ t, t < nb → sp_col (vr_cm (J 159) (J 161) (J 160) n (nI t) 3)) (hba : ∀ i, i < nb → vr_ba (J 161) n nb (nI i) < nb) (h1 : po < 112) (h2 : pa < 112) (h3 : pb < 112) (h12 : po ≠ pa) (h13 : po ≠ pb) (h23 : pa ≠ pb) (hP : ∀ e, e < m → (H pa e = J 157 (16 * p + e) ∧ sp_col (J 157 (16 * p + e))) ∧ H pb e = J 158 (16 * p + e) ∧ (J 158 (16 * p + e) = 0 ∨ J 158 (16 * p + e) = 1)) : ∀ i, i ≤ nb → (vm_gm H 112 nb po pa pb m i).2 = (vr_gm J (vr_mn J n nb) p m i).2 ∧ ∀ e, e < (vm_gm H 112 nb po pa pb m i).2 → ((vm_gm H 112 nb po pa pb m i).1 pa e = (vr_gm J (vr_mn J n nb) p m i).1 157 (16 * p + e) ∧ sp_col ((vr_gm J (vr_mn J n nb) p m i).1 157 (16 * p + e))) ∧ (vm_gm H 112 nb po pa pb m i).1 pb e = (vr_gm J (vr_mn J n nb) p m i).1 158 (16 * p + e) ∧ ((vr_gm J (vr_mn J n nb) p m i).1 158 (16 * p + e) = 0 ∨ (vr_gm J (vr_mn J n nb) p m i).1 158 (16 * p + e) = 1)
  | 0, _ => ⟨rfl, hP⟩
  | i + 1, hi => by
    obtain ⟨i1, i2⟩ := gm_sim R hnb hcol hba h1 h2 h3 h12 h13 h23 hP i (by omega)
    have o : ∀ a, 112 ≤ a → (vm_gm H 112 nb po pa pb m i).1 a = H a := fun a ha => funext fun k => vm_gm_o _ _ _ _ _ _ _ _ (by omega) (by omega) (by omega) k i
    have ea : vm_bxa (vm_gm H 112 nb po pa pb m i).1 112 nb (nI i) = vr_ba (J 161) n nb (nI i) := (vm_bxa_c fun u hu => by rw [o _ (by omega)]).trans (bx_at R hnb _)
    have hb := hba i (by omega)
    have em : vm_bm (vm_gm H 112 nb po pa pb m i).1 112 (vr_ba (J 161) n nb (nI i)) = vr_mn J n nb i := (vm_bm_c (fun a ha _ => o a ha) (by omega)).trans (bx_mean R hb)
    have hcl : sp_col (vr_mn J n nb i) := hcol _ hb
    have ew : sp_wcA ((vm_gm H 112 nb po pa pb m i).1 pa) (vr_mn J n nb i) (vm_gm H 112 nb po pa pb m i).2 ↔ sp_wcA (fun e => (vr_gm J (vr_mn J n nb) p m i).1 157 (16 * p + e)) (vr_mn J n nb i) (vr_gm J (vr_mn J n nb) p m i).2 := by
      unfold sp_wcA
      rw [← i1]
      constructor
      · exact fun z => ⟨z.1, fun k hk y => z.2 k hk ((i2 k hk).1.1.trans y)⟩
      · exact fun z => ⟨z.1, fun k hk y => z.2 k hk ((i2 k hk).1.1.symm.trans y)⟩
    by_cases c : sp_wcA ((vm_gm H 112 nb po pa pb m i).1 pa) (vr_mn J n nb i) (vm_gm H 112 nb po pa pb m i).2
    · have e1 := vm_gm_y ea hb (by rw [em]; exact c)
      have e2 : vr_gm J (vr_mn J n nb) p m (i + 1) = (vm_up (vm_up (vm_up (vr_gm J (vr_mn J n nb) p m i).1 157 (16 * p + (vr_gm J (vr_mn J n nb) p m i).2) (vr_mn J n nb i)) 158 (16 * p + (vr_gm J (vr_mn J n nb) p m i).2) 0) 156 p (nI ((vr_gm J (vr_mn J n nb) p m i).2 + 1)), (vr_gm J (vr_mn J n nb) p m i).2 + 1) := if_pos (ew.mp c)
      rw [em] at e1
      rw [e1, e2, ← i1]
      refine ⟨rfl, fun e he => ?_⟩
      have he : e < (vm_gm H 112 nb po pa pb m i).2 + 1 := he
      show (vm_app (vm_gm H 112 nb po pa pb m i).1 po pa pb (vm_gm H 112 nb po pa pb m i).2 (vr_mn J n nb i) 0 pa e = vm_up (vm_up (vm_up (vr_gm J (vr_mn J n nb) p m i).1 157 (16 * p + (vm_gm H 112 nb po pa pb m i).2) (vr_mn J n nb i)) 158 (16 * p + (vm_gm H 112 nb po pa pb m i).2) 0) 156 p (nI ((vm_gm H 112 nb po pa pb m i).2 + 1)) 157 (16 * p + e) ∧ sp_col (vm_up (vm_up (vm_up (vr_gm J (vr_mn J n nb) p m i).1 157 (16 * p + (vm_gm H 112 nb po pa pb m i).2) (vr_mn J n nb i)) 158 (16 * p + (vm_gm H 112 nb po pa pb m i).2) 0) 156 p (nI ((vm_gm H 112 nb po pa pb m i).2 + 1)) 157 (16 * p + e))) ∧ vm_app (vm_gm H 112 nb po pa pb m i).1 po pa pb (vm_gm H 112 nb po pa pb m i).2 (vr_mn J n nb i) 0 pb e = vm_up (vm_up (vm_up (vr_gm J (vr_mn J n nb) p m i).1 157 (16 * p + (vm_gm H 112 nb po pa pb m i).2) (vr_mn J n nb i)) 158 (16 * p + (vm_gm H 112 nb po pa pb m i).2) 0) 156 p (nI ((vm_gm H 112 nb po pa pb m i).2 + 1)) 158 (16 * p + e) ∧ (vm_up (vm_up (vm_up (vr_gm J (vr_mn J n nb) p m i).1 157 (16 * p + (vm_gm H 112 nb po pa pb m i).2) (vr_mn J n nb i)) 158 (16 * p + (vm_gm H 112 nb po pa pb m i).2) 0) 156 p (nI ((vm_gm H 112 nb po pa pb m i).2 + 1)) 158 (16 * p + e) = 0 ∨ vm_up (vm_up (vm_up (vr_gm J (vr_mn J n nb) p m i).1 157 (16 * p + (vm_gm H 112 nb po pa pb m i).2) (vr_mn J n nb i)) 158 (16 * p + (vm_gm H 112 nb po pa pb m i).2) 0) 156 p (nI ((vm_gm H 112 nb po pa pb m i).2 + 1)) 158 (16 * p + e) = 1)
      unfold vm_app
      rw [vm_up_f _ po _ _ pa (Ne.symm h12), vm_up_f _ po _ _ pb (Ne.symm h13), vm_up_f _ pb _ _ pa h23, vm_up_f _ 156 _ _ 157 (by decide), vm_up_f _ 156 _ _ 158 (by decide), vm_up_f _ 158 _ _ 157 (by decide)]
      by_cases d : e = (vm_gm H 112 nb po pa pb m i).2
      · subst d
        rw [vm_up_h, vm_up_h, vm_up_h, vm_up_h]
        exact ⟨⟨rfl, hcl⟩, rfl, Or.inl rfl⟩
      · rw [vm_up_k2 _ _ _ _ _ d, vm_up_k2 _ _ _ _ _ (by omega), vm_up_k2 _ _ _ _ _ d, vm_up_f _ pa _ _ pb (Ne.symm h23), vm_up_k2 _ _ _ _ _ (by omega), vm_up_f _ 157 _ _ 158 (by decide)]
        exact i2 e (by omega)
    · have e1 := vm_gm_n ea fun z => c (by rw [em] at z; exact z.2)
      have e2 : vr_gm J (vr_mn J n nb) p m (i + 1) = vr_gm J (vr_mn J n nb) p m i := if_neg fun z => c (ew.mpr z)
      rw [e1, e2]
      exact ⟨i1, i2⟩
