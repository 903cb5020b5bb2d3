/-- ENDS: the trial world and the reference under a plan -/
def en_S (A J : Nat → Nat → Int32) : Prop := R_pal 75 A (J 156) (fun p e => J 157 (16 * p + e)) (fun p e => J 158 (16 * p + e)) ∧ (∃ m kn, (m < 4 ∧ kn < 5) ∧ (A (75 + 3) 0 = nI m ∧ A (75 + 3) 1 = nI kn) ∧ J 152 6 = nI m ∧ J 152 7 = nI kn) ∧ ∀ z, z < 144 → A (75 + 18) z = J 155 z ∧ sp_col (J 155 z)
theorem en_R7 (J : Nat → Nat → Int32) (p q n N : Nat) (m : Int32) (k : Nat) (hn : n ≤ 16) (hk : ∀ e, e < 16 → k ≠ 16 * p + e) : vr_R J p q n N m 157 k = J 157 k := (rf_7 _ p n _ k hn hk n (Nat.le_refl n)).trans (congrFun (vr_K_o _ p q n N m 157 (by decide) (by decide) (by decide)) k)
theorem en_N {A J : Nat → Nat → Int32} (h : en_S A J) {p : Nat} (hp : p < 4) : ∃ n, n ≤ 16 ∧ cv_N A p = n ∧ rv_N J p = n ∧ A (75 + 25 + 3 * p) 0 = nI n ∧ J 156 p = nI n ∧ ∀ e, e < n → (A (75 + 26 + 3 * p) e = J 157 (16 * p + e) ∧ sp_col (J 157 (16 * p + e))) ∧ A (75 + 27 + 3 * p) e = J 158 (16 * p + e) ∧ (J 158 (16 * p + e) = 0 ∨ J 158 (16 * p + e) = 1) := by
  obtain ⟨n, hn, h1, h2, h3⟩ := h.1 p hp
  refine ⟨n, hn, ?_, ?_, h1, h2, h3⟩
  · unfold cv_N
    rw [h1, vm_toM n (by omega)]
  · unfold rv_N
    rw [h2, vm_toM n (by omega)]
theorem en_st {A J : Nat → Nat → Int32} {w h c n : Nat} (S : en_S A J) (hb : sp_pb c n) (hw : w ≤ 12) (hh : h ≤ 12) : en_S (cv_gr A w h c n) (rv_gr J w h c n) := by
  have hwh := vm_mul144 hw hh
  obtain ⟨hb1, hb2, hb3, hb4, hb5⟩ := hb
  have S0 := S
  obtain ⟨S1, ⟨m, kn, ⟨hm, hkn⟩, ⟨s1, s2⟩, s3, s4⟩, S3⟩ := S
  rcases (show c = 0 ∨ c = 1 ∨ c = 2 ∨ c = 3 by omega) with rfl | rfl | rfl | rfl
  · have hn4 := hb3 rfl
    obtain ⟨N, hN, a1, a2, a3, a4, a5⟩ := en_N S0 hn4
    show en_S (if 0 < w then (if 0 < cv_N A n then vc_R A (75 + 26 + 3 * n) (75 + 27 + 3 * n) (75 + 18 + 2 * 0) (cv_N A n) (w * h) (A (75 + 3) 0) else vm_gz A 133 134) else A) (if 0 < w ∧ 0 < rv_N J n then vr_R J n 0 (rv_N J n) (w * h) (J 152 6) else J)
    by_cases cw : 0 < w
    · rw [if_pos cw]
      by_cases cN : 0 < N
      · rw [a1, a2, if_pos cN, if_pos ⟨cw, cN⟩, s1, s3]
        have RF := rf_st (H := A) (J := J) (a := 75 + 26 + 3 * n) (b := 75 + 27 + 3 * n) (pa := 75 + 18 + 2 * 0) (p := n) (q := 0) (n := N) (N := w * h) (m := nI m) ⟨a5, fun y hy => by rw [Nat.mul_zero, Nat.zero_add]; exact (S3 y (by omega)).1⟩ cN hN hwh (by omega) (by omega) (by omega) (by omega) (by omega)
        have co := fun x b1 b2 b3 => vc_R_o A (75 + 26 + 3 * n) (75 + 27 + 3 * n) (75 + 18 + 2 * 0) N (w * h) (nI m) x b1 b2 b3
        have ro := fun x b1 b2 b3 b4 => vr_R_o J n 0 N (w * h) (nI m) x b1 b2 b3 b4
        have r7 := fun k hk => en_R7 J n 0 N (w * h) (nI m) k hN hk
        have R1 := RF.1.1
        generalize vc_R A (75 + 26 + 3 * n) (75 + 27 + 3 * n) (75 + 18 + 2 * 0) N (w * h) (nI m) = A' at *
        generalize vr_R J n 0 N (w * h) (nI m) = J' at *
        refine ⟨fun p hp => ?_, ⟨m, kn, ⟨hm, hkn⟩, ⟨?_, ?_⟩, ?_, ?_⟩, fun z hz => ?_⟩
        · by_cases e : p = n
          · subst e
            refine ⟨N, hN, ?_, ?_, R1⟩
            · rw [co _ (by omega) (by omega) (by omega)]
              exact a3
            · rw [ro 156 (by decide) (by decide) (by decide) (by decide)]
              exact a4
          · obtain ⟨M, hM, b1, b2, b3⟩ := S1 p hp
            refine ⟨M, hM, ?_, ?_, fun e he => ?_⟩
            · rw [co _ (by omega) (by omega) (by omega)]
              exact b1
            · rw [ro 156 (by decide) (by decide) (by decide) (by decide)]
              exact b2
            · show (A' (75 + 26 + 3 * p) e = J' 157 (16 * p + e) ∧ sp_col (J' 157 (16 * p + e))) ∧ A' (75 + 27 + 3 * p) e = J' 158 (16 * p + e) ∧ (J' 158 (16 * p + e) = 0 ∨ J' 158 (16 * p + e) = 1)
              rw [co (75 + 26 + 3 * p) (by omega) (by omega) (by omega), co (75 + 27 + 3 * p) (by omega) (by omega) (by omega), r7 _ fun e2 he2 => by omega, ro 158 (by decide) (by decide) (by decide) (by decide)]
              exact b3 e he
        · rw [co _ (by omega) (by omega) (by omega)]
          exact s1
        · rw [co _ (by omega) (by omega) (by omega)]
          exact s2
        · rw [ro 152 (by decide) (by decide) (by decide) (by decide)]
          exact s3
        · rw [ro 152 (by decide) (by decide) (by decide) (by decide)]
          exact s4
        · rw [co _ (by omega) (by omega) (by omega), ro 155 (by decide) (by decide) (by decide) (by decide)]
          exact S3 z hz
      · rw [a1, a2, if_neg cN, if_neg fun z => cN z.2]
        have g : ∀ x, x < 133 → vm_gz A 133 134 x = A x := fun x hx => funext fun z => vm_gz_o _ _ _ _ (by omega) (by omega) z
        refine ⟨fun p hp => ?_, ?_, ?_⟩
        · rw [g _ (by omega), g _ (by omega), g _ (by omega)]
          exact S1 p hp
        · rw [g _ (by decide)]
          exact S0.2.1
        · rw [g _ (by decide)]
          exact S3
    · rw [if_neg cw, if_neg fun z => cw z.1]
      exact S0
  · have hn4 := hb4 rfl
    show en_S (vm_up A (75 + 3) 0 (nI n)) (vm_up J 152 6 (nI n))
    refine ⟨?_, ⟨n, kn, ⟨hn4, hkn⟩, ⟨vm_up_h _ _ _ _, (vm_up_k2 _ _ _ _ _ (by decide)).trans s2⟩, vm_up_h _ _ _ _, (vm_up_k2 _ _ _ _ _ (by decide)).trans s4⟩, ?_⟩
    · intro p hp
      rw [vm_up_f A _ _ _ _ (by omega), vm_up_f A _ _ _ _ (by omega), vm_up_f A _ _ _ _ (by omega), vm_up_f J _ _ _ 156 (by decide), vm_up_f J _ _ _ 157 (by decide), vm_up_f J _ _ _ 158 (by decide)]
      exact S1 p hp
    · rw [vm_up_f _ _ _ _ _ (by decide), vm_up_f _ _ _ _ _ (by decide)]
      exact S3
  · have hn5 := hb5 rfl
    show en_S (vm_up A (75 + 3) 1 (nI n)) (vm_up J 152 7 (nI n))
    refine ⟨?_, ⟨m, n, ⟨hm, hn5⟩, ⟨(vm_up_k2 _ _ _ _ _ (by decide)).trans s1, vm_up_h _ _ _ _⟩, (vm_up_k2 _ _ _ _ _ (by decide)).trans s3, vm_up_h _ _ _ _⟩, ?_⟩
    · intro p hp
      rw [vm_up_f A _ _ _ _ (by omega), vm_up_f A _ _ _ _ (by omega), vm_up_f A _ _ _ _ (by omega), vm_up_f J _ _ _ 156 (by decide), vm_up_f J _ _ _ 157 (by decide), vm_up_f J _ _ _ 158 (by decide)]
      exact S1 p hp
    · rw [vm_up_f _ _ _ _ _ (by decide), vm_up_f _ _ _ _ _ (by decide)]
      exact S3
  · obtain ⟨N, hN, a1, a2, a3, a4, a5⟩ := en_N S0 (show 0 < 4 by decide)
    show en_S (if n < cv_N A 0 ∧ ¬ A (75 + 27 + 3 * 0) n = 1 then vm_up (vm_rm A (75 + 26 + 3 * 0) (75 + 27 + 3 * 0) n (cv_N A 0 - 1 - n)) (75 + 25 + 3 * 0) 0 (nI (cv_N A 0 - 1)) else A) (if n < rv_N J 0 ∧ J 158 n = 0 then vm_rm (vm_up J 156 0 (nI (rv_N J 0 - 1))) 157 158 (16 * 0 + n) (rv_N J 0 - 1 - n) else J)
    rw [a1, a2]
    have iff : (n < N ∧ ¬ A (75 + 27 + 3 * 0) n = 1) ↔ n < N ∧ J 158 n = 0 := by
      refine and_congr_right fun hlt => ?_
      have := (a5 n hlt).2
      rw [Nat.mul_zero, Nat.zero_add] at this
      rw [Nat.mul_zero, this.1]
      rcases this.2 with z | z
      · rw [z]
        exact ⟨fun _ => rfl, fun _ => by decide⟩
      · rw [z]
        exact ⟨fun y => absurd rfl y, fun y => absurd y (by decide)⟩
    by_cases c : n < N ∧ J 158 n = 0
    · rw [if_pos c, if_pos (iff.mpr c)]
      have cr : ∀ x, x = 101 ∨ x = 102 → ∀ k, vm_rm A 101 102 n (N - 1 - n) x k = if n ≤ k ∧ k < n + (N - 1 - n) then A x (k + 1) else A x k := fun x hx k => by
        unfold vm_rm vm_wq
        rcases hx with rfl | rfl <;> simp
      refine ⟨fun p hp => ?_, ⟨m, kn, ⟨hm, hkn⟩, ⟨?_, ?_⟩, ?_, ?_⟩, fun z hz => ?_⟩
      · by_cases e : p = 0
        · subst e
          refine ⟨N - 1, by omega, vm_up_h _ _ _ _, ?_, fun e he => ?_⟩
          · rw [vm_rm_o _ _ _ _ _ _ (by decide) (by decide)]
            exact vm_up_h _ _ _ _
          · show (vm_up (vm_rm A 101 102 n (N - 1 - n)) 100 0 (nI (N - 1)) 101 e = vm_rm (vm_up J 156 0 (nI (N - 1))) 157 158 (16 * 0 + n) (N - 1 - n) 157 (16 * 0 + e) ∧ sp_col (vm_rm (vm_up J 156 0 (nI (N - 1))) 157 158 (16 * 0 + n) (N - 1 - n) 157 (16 * 0 + e))) ∧ vm_up (vm_rm A 101 102 n (N - 1 - n)) 100 0 (nI (N - 1)) 102 e = vm_rm (vm_up J 156 0 (nI (N - 1))) 157 158 (16 * 0 + n) (N - 1 - n) 158 (16 * 0 + e) ∧ (vm_rm (vm_up J 156 0 (nI (N - 1))) 157 158 (16 * 0 + n) (N - 1 - n) 158 (16 * 0 + e) = 0 ∨ vm_rm (vm_up J 156 0 (nI (N - 1))) 157 158 (16 * 0 + n) (N - 1 - n) 158 (16 * 0 + e) = 1)
            rw [vm_up_f _ 100 _ _ 101 (by decide), vm_up_f _ 100 _ _ 102 (by decide), kl_rm _ _ _ _ (Or.inl rfl), kl_rm _ _ _ _ (Or.inr rfl), vm_up_f J 156 _ _ 157 (by decide), vm_up_f J 156 _ _ 158 (by decide), cr 101 (Or.inl rfl), cr 102 (Or.inr rfl)]
            by_cases d : n ≤ e ∧ e < n + (N - 1 - n)
            · rw [if_pos d, if_pos d, if_pos (by omega), if_pos (by omega)]
              exact a5 (e + 1) (by omega)
            · rw [if_neg d, if_neg d, if_neg (by omega), if_neg (by omega)]
              exact a5 e (by omega)
        · obtain ⟨M, hM, b1, b2, b3⟩ := S1 p hp
          refine ⟨M, hM, ?_, ?_, fun e he => ?_⟩
          · rw [vm_up_f _ _ _ _ _ (by omega), vm_rm_o _ _ _ _ _ _ (by omega) (by omega)]
            exact b1
          · rw [vm_rm_o _ _ _ _ _ _ (by decide) (by decide), vm_up_k2 _ _ _ _ _ e]
            exact b2
          · show (vm_up (vm_rm A (75 + 26 + 3 * 0) (75 + 27 + 3 * 0) n (N - 1 - n)) (75 + 25 + 3 * 0) 0 (nI (N - 1)) (75 + 26 + 3 * p) e = vm_rm (vm_up J 156 0 (nI (N - 1))) 157 158 (16 * 0 + n) (N - 1 - n) 157 (16 * p + e) ∧ sp_col (vm_rm (vm_up J 156 0 (nI (N - 1))) 157 158 (16 * 0 + n) (N - 1 - n) 157 (16 * p + e))) ∧ vm_up (vm_rm A (75 + 26 + 3 * 0) (75 + 27 + 3 * 0) n (N - 1 - n)) (75 + 25 + 3 * 0) 0 (nI (N - 1)) (75 + 27 + 3 * p) e = vm_rm (vm_up J 156 0 (nI (N - 1))) 157 158 (16 * 0 + n) (N - 1 - n) 158 (16 * p + e) ∧ (vm_rm (vm_up J 156 0 (nI (N - 1))) 157 158 (16 * 0 + n) (N - 1 - n) 158 (16 * p + e) = 0 ∨ vm_rm (vm_up J 156 0 (nI (N - 1))) 157 158 (16 * 0 + n) (N - 1 - n) 158 (16 * p + e) = 1)
            rw [vm_up_f _ (75 + 25 + 3 * 0) _ _ (75 + 26 + 3 * p) (by omega), vm_up_f _ (75 + 25 + 3 * 0) _ _ (75 + 27 + 3 * p) (by omega), vm_rm_o _ _ _ _ _ (75 + 26 + 3 * p) (by omega) (by omega), vm_rm_o _ _ _ _ _ (75 + 27 + 3 * p) (by omega) (by omega), kl_rm _ _ _ _ (Or.inl rfl), kl_rm _ _ _ _ (Or.inr rfl), vm_up_f J 156 _ _ 157 (by decide), vm_up_f J 156 _ _ 158 (by decide), if_neg (by omega), if_neg (by omega)]
            exact b3 e he
      · rw [vm_up_f _ _ _ _ _ (by decide), vm_rm_o _ _ _ _ _ _ (by decide) (by decide)]
        exact s1
      · rw [vm_up_f _ _ _ _ _ (by decide), vm_rm_o _ _ _ _ _ _ (by decide) (by decide)]
        exact s2
      · rw [vm_rm_o _ _ _ _ _ _ (by decide) (by decide), vm_up_f _ _ _ _ _ (by decide)]
        exact s3
      · rw [vm_rm_o _ _ _ _ _ _ (by decide) (by decide), vm_up_f _ _ _ _ _ (by decide)]
        exact s4
      · rw [vm_up_f _ _ _ _ _ (by decide), vm_rm_o _ _ _ _ _ _ (by decide) (by decide), vm_rm_o _ _ _ _ _ _ (by decide) (by decide), vm_up_f _ _ _ _ _ (by decide)]
        exact S3 z hz
    · rw [if_neg c, if_neg fun z => c (iff.mp z)]
      exact S0
theorem en_gs {A J : Nat → Nat → Int32} {w h v : Nat} {pw pn : Nat → Nat} (S : en_S A J) (hb : ∀ j, j < v → sp_pb (pw j) (pn j)) (hw : w ≤ 12) (hh : h ≤ 12) : ∀ j, j ≤ v → en_S (cv_gs A w h pw pn j) (rv_gs J w h pw pn j)
  | 0, _ => S
  | j + 1, hj => en_st (en_gs S hb hw hh j (by omega)) (hb j (by omega)) hw hh
