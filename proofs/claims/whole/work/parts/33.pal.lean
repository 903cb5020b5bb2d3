theorem vm_alls {p : Nat → Prop} {j : Nat} (h : ∀ k, k < j → p k) (hj : p j) : ∀ k, k < j + 1 → p k := fun k hk => by
  rcases Nat.lt_or_eq_of_le (Nat.le_of_lt_succ hk) with q | q
  · exact h k q
  · rw [q]; exact hj
theorem vm_all0 {p : Nat → Prop} : ∀ k, k < 0 → p k := fun k hk => absurd hk (Nat.not_lt_zero k)
/-- the first number below n that is so, else n -/
def sp_fi (p : Nat → Prop) [DecidablePred p] : Nat → Nat
  | 0 => 0
  | n + 1 => if sp_fi p n < n then sp_fi p n else if p n then n else n + 1
theorem sp_fi_none {p : Nat → Prop} [DecidablePred p] : ∀ {n : Nat}, (∀ k, k < n → ¬ p k) → sp_fi p n = n
  | 0, _ => rfl
  | n + 1, h => by
    have ih := sp_fi_none (p := p) (n := n) fun k hk => h k (Nat.lt_succ_of_lt hk)
    unfold sp_fi
    rw [ih, if_neg (Nat.lt_irrefl n), if_neg (h n (Nat.lt_succ_self n))]
theorem sp_fi_hit {p : Nat → Prop} [DecidablePred p] : ∀ {n j : Nat}, j < n → (∀ k, k < j → ¬ p k) → p j → sp_fi p n = j
  | n + 1, j, hj, h, hp => by
    unfold sp_fi
    rcases Nat.lt_or_eq_of_le (Nat.le_of_lt_succ hj) with q | q
    · rw [sp_fi_hit q h hp, if_pos q]
    · subst q
      rw [sp_fi_none h, if_neg (Nat.lt_irrefl j), if_pos hp]
theorem sp_fi_le {p : Nat → Prop} [DecidablePred p] : ∀ {n : Nat}, sp_fi p n ≤ n
  | 0 => Nat.le_refl 0
  | n + 1 => by
    have ih := sp_fi_le (p := p) (n := n)
    unfold sp_fi
    split
    · omega
    · split <;> omega
theorem sp_fi_ok {p : Nat → Prop} [DecidablePred p] : ∀ {n : Nat}, sp_fi p n < n → p (sp_fi p n) ∧ ∀ k, k < sp_fi p n → ¬ p k
  | 0, h => absurd h (Nat.not_lt_zero _)
  | n + 1, h => by
    by_cases q : sp_fi p n < n
    · have e : sp_fi p (n + 1) = sp_fi p n := by rw [sp_fi, if_pos q]
      rw [e]
      exact sp_fi_ok q
    · have q2 : sp_fi p n = n := Nat.le_antisymm sp_fi_le (Nat.le_of_not_lt q)
      have none : ∀ k, k < n → ¬ p k := by
        intro k hk hp
        have key : ∀ m, m ≤ n → (∃ k, k < m ∧ p k) → ∃ j, j < n ∧ p j ∧ ∀ k, k < j → ¬ p k := by
          intro m
          induction m with
          | zero => rintro _ ⟨k, hk, _⟩; exact absurd hk (Nat.not_lt_zero k)
          | succ m ih =>
            intro hm ⟨k, hk, hpk⟩
            by_cases z : ∃ k, k < m ∧ p k
            · exact ih (by omega) z
            · have : k = m := by
                rcases Nat.lt_or_eq_of_le (Nat.le_of_lt_succ hk) with w | w
                · exact absurd ⟨k, w, hpk⟩ z
                · exact w
              subst this
              exact ⟨k, by omega, hpk, fun k' hk' hp' => z ⟨k', hk', hp'⟩⟩
        obtain ⟨j, h1, h2, h3⟩ := key n (Nat.le_refl n) ⟨k, hk, hp⟩
        rw [sp_fi_hit h1 h3 h2] at q2
        omega
      have e : sp_fi p (n + 1) = if p n then n else n + 1 := by rw [sp_fi, if_neg q]
      rw [e] at h ⊢
      by_cases hp : p n
      · rw [if_pos hp]
        exact ⟨hp, none⟩
      · rw [if_neg hp] at h
        omega
/-- the first entry of a colour, else -1 -/
def sp_ew (f : Nat → Int32) (c : Int32) (n : Nat) : Int32 := if sp_fi (fun k => f k = c) n < n then nI (sp_fi (fun k => f k = c) n) else -1
theorem sp_ew_hit {f : Nat → Int32} {c : Int32} {n j : Nat} (hj : j < n) (h : ∀ k, k < j → ¬ f k = c) (hp : f j = c) : sp_ew f c n = nI j := by
  unfold sp_ew
  rw [sp_fi_hit (p := fun k => f k = c) hj h hp, if_pos hj]
theorem sp_ew_none {f : Nat → Int32} {c : Int32} {n : Nat} (h : ∀ k, k < n → ¬ f k = c) : sp_ew f c n = -1 := by
  unfold sp_ew
  rw [sp_fi_none (p := fun k => f k = c) h, if_neg (Nat.lt_irrefl n)]
/-- either it's there, or not -/
theorem sp_ew_or (f : Nat → Int32) (c : Int32) (n : Nat) : (∃ j, j < n ∧ f j = c ∧ (∀ k, k < j → ¬ f k = c) ∧ sp_ew f c n = nI j) ∨ ((∀ k, k < n → ¬ f k = c) ∧ sp_ew f c n = -1) := by
  by_cases h : sp_fi (fun k => f k = c) n < n
  · obtain ⟨h1, h2⟩ := sp_fi_ok h
    exact Or.inl ⟨_, h, h1, h2, sp_ew_hit h h2 h1⟩
  · have e : sp_fi (fun k => f k = c) n = n := Nat.le_antisymm sp_fi_le (Nat.le_of_not_lt h)
    have none : ∀ k, k < n → ¬ f k = c := by
      intro k hk hp
      have key : ∀ m, m ≤ n → (∃ k, k < m ∧ f k = c) → ∃ j, j < n ∧ f j = c ∧ ∀ k, k < j → ¬ f k = c := by
        intro m
        induction m with
        | zero => rintro _ ⟨k, hk, _⟩; exact absurd hk (Nat.not_lt_zero k)
        | succ m ih =>
          intro hm ⟨k, hk, hpk⟩
          by_cases z : ∃ k, k < m ∧ f k = c
          · exact ih (by omega) z
          · have : k = m := by
              rcases Nat.lt_or_eq_of_le (Nat.le_of_lt_succ hk) with w | w
              · exact absurd ⟨k, w, hpk⟩ z
              · exact w
            subst this
            exact ⟨k, by omega, hpk, fun k' hk' hp' => z ⟨k', hk', hp'⟩⟩
      obtain ⟨j, h1, h2, h3⟩ := key n (Nat.le_refl n) ⟨k, hk, hp⟩
      rw [sp_fi_hit (p := fun k => f k = c) h1 h3 h2] at e
      omega
    exact Or.inr ⟨none, sp_ew_none none⟩
set_option maxHeartbeats 4000000 in
set_option maxRecDepth 20000 in
/-- DitherDesk$Palette.has  -/
theorem m_Pal_has {l : Launch} {X : vm_Cx} {G : List vm_Sh} {I : Nat → Nat → Int32} {F : Nat → Nat → UInt32} {o a b : Nat} {e : Int32} (ho : G[o]? = some (4, 3, [.int 0, .ref a, .ref b])) : vm_K l X vm_M21 [.ref o, .int e] (G, I, F) (some (.int (vm_bi (0 ≤ e ∧ e ≤ I o 0 - 1)))) (G, I, F) := by
  refine vm_K.mk (by decide) (Nat.le_of_ble_eq_true rfl) ?_
  show vm_J _ _ _ (0, (0, 0), [.ref o, .int e], []) _ _ _
  refine vm_J.go vm_q21 (k := 6) (hs := [(4, 3, [.int 0, .ref a, .ref b])]) (f' := (8, (0, 0), [.ref o, .int e], [.int ((I o 0) - 1), .int 0, .int e])) (h' := (G, I, F)) (hs' := []) rfl (vm_b2 rfl (vm_b2 rfl (vm_b2 rfl (vm_b2 (vm_b2 (vm_hG ho) rfl) (vm_b2 rfl (vm_b2 rfl rfl)))))) ?_
  refine vm_J.call vm_q21 (Z := vm_M151) (n := 3) (k := 1) (mi := 151) (pc := 8) (en := (8, .invokestatic 22, 3, [151, 649, 1], .null)) rfl trivial rfl rfl vm_z151 (av := [.int e, .int 0, .int ((I o 0) - 1)]) (rest := []) (m_isWithin (v := e) (a := 0) (b := (I o 0) - 1)) rfl (Nat.le_of_ble_eq_true rfl) ⟨Nat.le_of_ble_eq_true rfl, Nat.le_of_ble_eq_true rfl⟩ ⟨Nat.le_of_ble_eq_true rfl, Nat.le_of_ble_eq_true rfl⟩ ?_
  show vm_J _ _ _ (11, (0, 0), [.ref o, .int e], [.int (vm_bi (0 ≤ e ∧ e ≤ ((I o 0) - 1)))]) (G, I, F) _ _
  exact vm_J.end vm_q21 (en := (11, .ireturn, 1, [], .null)) rfl rfl (vm_rZ vm_bi_01) (Nat.zero_le _) (Nat.zero_le _) rfl
set_option maxHeartbeats 4000000 in
set_option maxRecDepth 20000 in
/-- DitherDesk$Palette.isFull  -/
theorem m_Pal_isFull {l : Launch} {X : vm_Cx} {G : List vm_Sh} {I : Nat → Nat → Int32} {F : Nat → Nat → UInt32} {o a b : Nat} (ho : G[o]? = some (4, 3, [.int 0, .ref a, .ref b])) : vm_K l X vm_M22 [.ref o] (G, I, F) (some (.int (vm_bi (16 ≤ I o 0)))) (G, I, F) := by
  refine vm_K.mk (by decide) (Nat.le_of_ble_eq_true rfl) ?_
  show vm_J _ _ _ (0, (0, 0), [.ref o], []) _ _ _
  refine vm_J.go vm_q22 (k := 4) (hs := [(4, 3, [.int 0, .ref a, .ref b])]) (f' := (bif vm_ic .lt (I o 0) 16 then 13 else 9, (0, 0), [.ref o], [])) (h' := (G, I, F)) (hs' := []) rfl (vm_b2 rfl (vm_b2 (vm_b2 (vm_hG ho) rfl) (vm_b2 rfl (vm_b2 rfl rfl)))) ?_
  refine vm_J.br (fun c1 => ?_) (fun c1 => ?_)
  · have c1 : (I o 0) < 16 := of_decide_eq_true c1
    refine vm_J.go vm_q22 (k := 1) (hs := []) (f' := (14, (0, 0), [.ref o], [.int 0])) (h' := (G, I, F)) (hs' := []) rfl rfl ?_
    exact vm_J.end vm_q22 (en := (14, .ireturn, 1, [], .null)) rfl (by first | rw [vm_bi_t (vm_nlt_le c1)]; rfl | rw [vm_bi_f (vm_lt_le c1)]; rfl) (vm_rZ vm_bi_01) (Nat.zero_le _) (Nat.zero_le _) rfl
  · have c1 : ¬ ((I o 0) < 16) := of_decide_eq_false c1
    refine vm_J.go vm_q22 (k := 2) (hs := []) (f' := (14, (0, 0), [.ref o], [.int 1])) (h' := (G, I, F)) (hs' := []) rfl rfl ?_
    exact vm_J.end vm_q22 (en := (14, .ireturn, 1, [], .null)) rfl (by first | rw [vm_bi_t (vm_nlt_le c1)]; rfl | rw [vm_bi_f (vm_lt_le c1)]; rfl) (vm_rZ vm_bi_01) (Nat.zero_le _) (Nat.zero_le _) rfl
set_option maxHeartbeats 4000000 in
set_option maxRecDepth 20000 in
/-- DitherDesk$Palette.colourOf  -/
theorem m_Pal_colourOf {l : Launch} {X : vm_Cx} {G : List vm_Sh} {I : Nat → Nat → Int32} {F : Nat → Nat → UInt32} {o a b j : Nat} (ho : G[o]? = some (4, 3, [.int 0, .ref a, .ref b])) (ha : G[a]? = some (0, 16, [])) (hj : j < 16) : vm_K l X vm_M23 [.ref o, .int (nI j)] (G, I, F) (some (.int (I a j))) (G, I, F) := by
  refine vm_K.mk (by decide) (Nat.le_of_ble_eq_true rfl) ?_
  show vm_J _ _ _ (0, (0, 0), [.ref o, .int (nI j)], []) _ _ _
  refine vm_J.go vm_q23 (k := 3) (hs := [(4, 3, [.int 0, .ref a, .ref b])]) (f' := (5, (0, 0), [.ref o, .int (nI j)], [.int (nI j), .ref a])) (h' := (G, I, F)) (hs' := []) rfl (vm_b2 rfl (vm_b2 (vm_b2 (vm_hG ho) rfl) (vm_b2 rfl rfl))) ?_
  refine vm_J.call vm_q23 (Z := vm_M152) (n := 2) (k := 1) (mi := 152) (pc := 5) (en := (5, .invokestatic 26, 3, [152, 631, 1], .null)) rfl trivial rfl rfl vm_z152 (av := [.ref a, .int (nI j)]) (rest := []) (m_at_n (j := j) ha (by omega) (by omega)) rfl (Nat.le_of_ble_eq_true rfl) ⟨Nat.le_of_ble_eq_true rfl, Nat.le_of_ble_eq_true rfl⟩ ⟨Nat.le_of_ble_eq_true rfl, Nat.le_of_ble_eq_true rfl⟩ ?_
  show vm_J _ _ _ (8, (0, 0), [.ref o, .int (nI j)], [.int (I a j)]) (G, I, F) _ _
  exact vm_J.end vm_q23 (en := (8, .ireturn, 1, [], .null)) rfl rfl vm_rI (Nat.zero_le _) (Nat.zero_le _) rfl
set_option maxHeartbeats 4000000 in
set_option maxRecDepth 20000 in
/-- DitherDesk$Palette.isLocked  -/
theorem m_Pal_isLocked {l : Launch} {X : vm_Cx} {G : List vm_Sh} {I : Nat → Nat → Int32} {F : Nat → Nat → UInt32} {o a b j : Nat} (ho : G[o]? = some (4, 3, [.int 0, .ref a, .ref b])) (hb : G[b]? = some (0, 16, [])) (hj : j < 16) : vm_K l X vm_M24 [.ref o, .int (nI j)] (G, I, F) (some (.int (vm_bi (I b j = 1)))) (G, I, F) := by
  refine vm_K.mk (by decide) (Nat.le_of_ble_eq_true rfl) ?_
  show vm_J _ _ _ (0, (0, 0), [.ref o, .int (nI j)], []) _ _ _
  refine vm_J.go vm_q24 (k := 3) (hs := [(4, 3, [.int 0, .ref a, .ref b])]) (f' := (5, (0, 0), [.ref o, .int (nI j)], [.int (nI j), .ref b])) (h' := (G, I, F)) (hs' := []) rfl (vm_b2 rfl (vm_b2 (vm_b2 (vm_hG ho) rfl) (vm_b2 rfl rfl))) ?_
  refine vm_J.call vm_q24 (Z := vm_M152) (n := 2) (k := 1) (mi := 152) (pc := 5) (en := (5, .invokestatic 26, 3, [152, 631, 1], .null)) rfl trivial rfl rfl vm_z152 (av := [.ref b, .int (nI j)]) (rest := []) (m_at_n (j := j) hb (by omega) (by omega)) rfl (Nat.le_of_ble_eq_true rfl) ⟨Nat.le_of_ble_eq_true rfl, Nat.le_of_ble_eq_true rfl⟩ ⟨Nat.le_of_ble_eq_true rfl, Nat.le_of_ble_eq_true rfl⟩ ?_
  show vm_J _ _ _ (8, (0, 0), [.ref o, .int (nI j)], [.int (I b j)]) (G, I, F) _ _
  refine vm_J.go vm_q24 (k := 2) (hs := []) (f' := (bif vm_ic .ne (I b j) 1 then 16 else 12, (0, 0), [.ref o, .int (nI j)], [])) (h' := (G, I, F)) (hs' := []) rfl rfl ?_
  refine vm_J.br (fun c1 => ?_) (fun c1 => ?_)
  · have c1 : ¬ (I b j) = 1 := of_decide_eq_true c1
    refine vm_J.go vm_q24 (k := 1) (hs := []) (f' := (17, (0, 0), [.ref o, .int (nI j)], [.int 0])) (h' := (G, I, F)) (hs' := []) rfl rfl ?_
    exact vm_J.end vm_q24 (en := (17, .ireturn, 1, [], .null)) rfl (by first | rw [vm_bi_t c1]; rfl | rw [vm_bi_f c1]; rfl) (vm_rZ vm_bi_01) (Nat.zero_le _) (Nat.zero_le _) rfl
  · have c1 : (I b j) = 1 := Decidable.of_not_not (of_decide_eq_false c1)
    refine vm_J.go vm_q24 (k := 2) (hs := []) (f' := (17, (0, 0), [.ref o, .int (nI j)], [.int 1])) (h' := (G, I, F)) (hs' := []) rfl rfl ?_
    exact vm_J.end vm_q24 (en := (17, .ireturn, 1, [], .null)) rfl (by first | rw [vm_bi_t c1]; rfl | rw [vm_bi_f c1]; rfl) (vm_rZ vm_bi_01) (Nat.zero_le _) (Nat.zero_le _) rfl
set_option maxHeartbeats 4000000 in
set_option maxRecDepth 20000 in
/-- DitherDesk$Palette.entryWith  -/
theorem m_Pal_entryWith {l : Launch} {X : vm_Cx} {G : List vm_Sh} {I : Nat → Nat → Int32} {F : Nat → Nat → UInt32} {o a b n : Nat} {c : Int32} (ho : G[o]? = some (4, 3, [.int 0, .ref a, .ref b])) (ha : G[a]? = some (0, 16, [])) (hn : I o 0 = nI n) (hn2 : n ≤ 16) : vm_K l X vm_M25 [.ref o, .int c] (G, I, F) (some (.int (sp_ew (I a) c n))) (G, I, F) := by
  refine vm_K.mk (by decide) (Nat.le_of_ble_eq_true rfl) ?_
  show vm_J _ _ _ (0, (0, 0), [.ref o, .int c, .retAddr 0], []) _ _ _
  refine vm_J.go vm_q25 (k := 2) (hs := []) (f' := (2, (0, 0), [.ref o, .int c, .int 0], [])) (h' := (G, I, F)) (hs' := []) rfl rfl ?_
  refine vm_J.cnt n (fun j => (2, (0, 0), [.ref o, .int c, .int (nI j)], [])) (fun j => (G, I, F)) (fun j => ∀ k, k < j → ¬ I a k = c) rfl rfl vm_all0 (fun j hj pj ij => ?_) (fun pj => ?_)
  · show vm_J _ _ _ (2, (0, 0), [.ref o, .int c, .int (nI j)], []) (G, I, F) _ _
    refine vm_J.go vm_q25 (k := 4) (hs := [(4, 3, [.int 0, .ref a, .ref b])]) (f' := (bif vm_ic .ge (nI j) (I o 0) then 27 else 10, (0, 0), [.ref o, .int c, .int (nI j)], [])) (h' := (G, I, F)) (hs' := []) rfl (vm_b2 rfl (vm_b2 rfl (vm_b2 (vm_b2 (vm_hG ho) rfl) (vm_b2 rfl rfl)))) ?_
    refine vm_J.br (fun c1 => ?_) (fun c1 => ?_)
    · rw [(hn : I o 0 = nI n)] at c1
      have c1 := vm_ge_t (a := j) (b := n) (by omega) (by omega) c1
      exact (show False by omega).elim
    · rw [(hn : I o 0 = nI n)] at c1
      have c1 := vm_ge_f (a := j) (b := n) (by omega) (by omega) c1
      refine vm_J.go vm_q25 (k := 2) (hs := []) (f' := (12, (0, 0), [.ref o, .int c, .int (nI j)], [.int (nI j), .ref o])) (h' := (G, I, F)) (hs' := []) rfl rfl ?_
      refine vm_J.call vm_q25 (Z := vm_M23) (n := 1) (k := 0) (mi := 23) (pc := 12) (en := (12, .invokevirtual 30, 3, [23, 627, 0], .null)) rfl trivial rfl rfl vm_z23 (av := [.ref o, .int (nI j)]) (rest := []) (m_Pal_colourOf (j := j) ho ha (by omega)) ⟨_, _, rfl, rfl, _, 2, _, ho, rfl, rfl, rfl⟩ (Nat.le_of_ble_eq_true rfl) ⟨Nat.le_of_ble_eq_true rfl, Nat.le_of_ble_eq_true rfl⟩ ⟨Nat.le_of_ble_eq_true rfl, Nat.le_of_ble_eq_true rfl⟩ ?_
      show vm_J _ _ _ (15, (0, 0), [.ref o, .int c, .int (nI j)], [.int (I a j)]) (G, I, F) _ _
      refine vm_J.go vm_q25 (k := 2) (hs := []) (f' := (bif vm_ic .ne (I a j) c then 21 else 19, (0, 0), [.ref o, .int c, .int (nI j)], [])) (h' := (G, I, F)) (hs' := []) rfl rfl ?_
      refine vm_J.br (fun c2 => ?_) (fun c2 => ?_)
      · have c2 : ¬ (I a j) = c := of_decide_eq_true c2
        refine vm_J.go vm_q25 (k := 2) (hs := []) (f' := (2, (0, 0), [.ref o, .int c, .int ((nI j) + 1)], [])) (h' := (G, I, F)) (hs' := []) rfl rfl ?_
        rw [((vm_pa (rfl : nI j = nI j) (rfl : (1 : Int32) = nI 1)) : (nI j) + 1 = nI (j + 1))]
        exact ij (vm_alls pj c2)
      · have c2 : (I a j) = c := Decidable.of_not_not (of_decide_eq_false c2)
        refine vm_J.go vm_q25 (k := 1) (hs := []) (f' := (20, (0, 0), [.ref o, .int c, .int (nI j)], [.int (nI j)])) (h' := (G, I, F)) (hs' := []) rfl rfl ?_
        exact vm_J.end vm_q25 (en := (20, .ireturn, 1, [], .null)) rfl (by rw [sp_ew_hit hj pj c2]; rfl) vm_rI (Nat.zero_le _) (Nat.zero_le _) rfl
  · show vm_J _ _ _ (2, (0, 0), [.ref o, .int c, .int (nI n)], []) (G, I, F) _ _
    refine vm_J.go vm_q25 (k := 4) (hs := [(4, 3, [.int 0, .ref a, .ref b])]) (f' := (bif vm_ic .ge (nI n) (I o 0) then 27 else 10, (0, 0), [.ref o, .int c, .int (nI n)], [])) (h' := (G, I, F)) (hs' := []) rfl (vm_b2 rfl (vm_b2 rfl (vm_b2 (vm_b2 (vm_hG ho) rfl) (vm_b2 rfl rfl)))) ?_
    refine vm_J.br (fun c3 => ?_) (fun c3 => ?_)
    · rw [(hn : I o 0 = nI n)] at c3
      have c3 := vm_ge_t (a := n) (b := n) (by omega) (by omega) c3
      refine vm_J.go vm_q25 (k := 1) (hs := []) (f' := (28, (0, 0), [.ref o, .int c, .int (nI n)], [.int (-1)])) (h' := (G, I, F)) (hs' := []) rfl rfl ?_
      exact vm_J.end vm_q25 (en := (28, .ireturn, 1, [], .null)) rfl (by rw [sp_ew_none pj]; rfl) vm_rI (Nat.zero_le _) (Nat.zero_le _) rfl
    · rw [(hn : I o 0 = nI n)] at c3
      have c3 := vm_ge_f (a := n) (b := n) (by omega) (by omega) c3
      exact (show False by omega).elim
/-- an entry comes behind -/
def vm_app (I : Nat → Nat → Int32) (o a b n : Nat) (c l : Int32) : Nat → Nat → Int32 := vm_up (vm_up (vm_up I a n c) b n l) o 0 (nI (n + 1))
theorem vm_up_o2 {α : Type} (I : Nat → Nat → α) (o k : Nat) (x : α) (a b : Nat) (h : a ≠ o) : vm_up I o k x a b = I a b := by
  unfold vm_up
  rw [if_neg h]
theorem vm_up_k2 {α : Type} (I : Nat → Nat → α) (o k : Nat) (x : α) (b : Nat) (h : b ≠ k) : vm_up I o k x o b = I o b := by
  unfold vm_up
  rw [if_pos rfl, if_neg h]
theorem vm_up_h {α : Type} (I : Nat → Nat → α) (o k : Nat) (x : α) : vm_up I o k x o k = x := by
  unfold vm_up
  rw [if_pos rfl, if_pos rfl]
set_option maxHeartbeats 4000000 in
set_option maxRecDepth 20000 in
/-- DitherDesk$Palette.append  -/
theorem m_Pal_append_0 {l : Launch} {X : vm_Cx} {G : List vm_Sh} {I : Nat → Nat → Int32} {F : Nat → Nat → UInt32} {o a b n : Nat} {c : Int32} (ho : G[o]? = some (4, 3, [.int 0, .ref a, .ref b])) (ha : G[a]? = some (0, 16, [])) (hb : G[b]? = some (0, 16, [])) (hn : I o 0 = nI n) (hn2 : n < 16) (hoa : o ≠ a) (hob : o ≠ b) (hab : a ≠ b) : vm_K l X vm_M26 [.ref o, .int c, .int 0] (G, I, F) (none) (G, (vm_app I o a b n c 0), F) := by
  refine vm_K.mk (by decide) (Nat.le_of_ble_eq_true rfl) ?_
  show vm_J _ _ _ (0, (0, 0), [.ref o, .int c, .int 0], []) _ _ _
  refine vm_J.go vm_q26 (k := 5) (hs := [(4, 3, [.int 0, .ref a, .ref b]), (4, 3, [.int 0, .ref a, .ref b])]) (f' := (9, (0, 0), [.ref o, .int c, .int 0], [.int c, .int (I o 0), .ref a])) (h' := (G, I, F)) (hs' := []) rfl (vm_b2 rfl (vm_b2 (vm_b2 (vm_hG ho) rfl) (vm_b2 rfl (vm_b2 (vm_b2 (vm_hG ho) rfl) (vm_b2 rfl rfl))))) ?_
  rw [(hn : I o 0 = nI n)]
  refine vm_J.call vm_q26 (Z := vm_M153) (n := 3) (k := 1) (mi := 153) (pc := 9) (en := (9, .invokestatic 34, 3, [153, 640, 1], .null)) rfl trivial rfl rfl vm_z153 (av := [.ref a, .int (nI n), .int c]) (rest := []) (m_put_n (j := n) (v := c) ha (by omega) (by omega)) rfl (Nat.le_of_ble_eq_true rfl) ⟨Nat.le_of_ble_eq_true rfl, Nat.le_of_ble_eq_true rfl⟩ ⟨Nat.le_of_ble_eq_true rfl, Nat.le_of_ble_eq_true rfl⟩ ?_
  show vm_J _ _ _ (12, (0, 0), [.ref o, .int c, .int 0], []) (G, (vm_up I a n c), F) _ _
  refine vm_J.go vm_q26 (k := 6) (hs := [(4, 3, [.int 0, .ref a, .ref b]), (4, 3, [.int 0, .ref a, .ref b])]) (f' := (bif vm_ic .eq 0 0 then 28 else 24, (0, 0), [.ref o, .int c, .int 0], [.int ((vm_up I a n c) o 0), .ref b])) (h' := (G, (vm_up I a n c), F)) (hs' := []) rfl (vm_b2 rfl (vm_b2 (vm_b2 (vm_hG ho) rfl) (vm_b2 rfl (vm_b2 (vm_b2 (vm_hG ho) rfl) (vm_b2 rfl (vm_b2 rfl rfl)))))) ?_
  rw [(((vm_up_o2 I a n c o 0 hoa).trans hn) : (vm_up I a n c) o 0 = nI n)]
  refine vm_J.bT (by decide) ?_
  refine vm_J.go vm_q26 (k := 1) (hs := []) (f' := (29, (0, 0), [.ref o, .int c, .int 0], [.int 0, .int (nI n), .ref b])) (h' := (G, (vm_up I a n c), F)) (hs' := []) rfl rfl ?_
  refine vm_J.call vm_q26 (Z := vm_M153) (n := 3) (k := 1) (mi := 153) (pc := 29) (en := (29, .invokestatic 34, 3, [153, 640, 1], .null)) rfl trivial rfl rfl vm_z153 (av := [.ref b, .int (nI n), .int 0]) (rest := []) (m_put_n (j := n) (v := 0) hb (by omega) (by omega)) rfl (Nat.le_of_ble_eq_true rfl) ⟨Nat.le_of_ble_eq_true rfl, Nat.le_of_ble_eq_true rfl⟩ ⟨Nat.le_of_ble_eq_true rfl, Nat.le_of_ble_eq_true rfl⟩ ?_
  show vm_J _ _ _ (32, (0, 0), [.ref o, .int c, .int 0], []) (G, (vm_up (vm_up I a n c) b n 0), F) _ _
  refine vm_J.go vm_q26 (k := 5) (hs := [(4, 3, [.int 0, .ref a, .ref b])]) (f' := (39, (0, 0), [.ref o, .int c, .int 0], [.int (((vm_up (vm_up I a n c) b n 0) o 0) + 1), .ref o])) (h' := (G, (vm_up (vm_up I a n c) b n 0), F)) (hs' := []) rfl (vm_b2 rfl (vm_b2 rfl (vm_b2 (vm_b2 (vm_hG ho) rfl) (vm_b2 rfl (vm_b2 rfl rfl))))) ?_
  rw [((vm_pa ((vm_up_o2 _ b n 0 o 0 hob).trans ((vm_up_o2 I a n c o 0 hoa).trans hn)) (rfl : (1 : Int32) = nI 1)) : ((vm_up (vm_up I a n c) b n 0) o 0) + 1 = nI (n + 1))]
  refine vm_J.go vm_q26 (k := 1) (hs := [(4, 3, [.int 0, .ref a, .ref b])]) (f' := (42, (0, 0), [.ref o, .int c, .int 0], [])) (h' := (G, (vm_up (vm_up (vm_up I a n c) b n 0) o 0 (nI (n + 1))), F)) (hs' := []) rfl (vm_b2 (vm_b2 (vm_b2 (vm_hG ho) rfl) rfl) rfl) ?_
  exact vm_J.end vm_q26 (en := (42, .return_, 1, [], .null)) rfl rfl vm_rV (Nat.zero_le _) (Nat.zero_le _) rfl
set_option maxHeartbeats 4000000 in
set_option maxRecDepth 20000 in
/-- DitherDesk$Palette.append  -/
theorem m_Pal_append_1 {l : Launch} {X : vm_Cx} {G : List vm_Sh} {I : Nat → Nat → Int32} {F : Nat → Nat → UInt32} {o a b n : Nat} {c : Int32} (ho : G[o]? = some (4, 3, [.int 0, .ref a, .ref b])) (ha : G[a]? = some (0, 16, [])) (hb : G[b]? = some (0, 16, [])) (hn : I o 0 = nI n) (hn2 : n < 16) (hoa : o ≠ a) (hob : o ≠ b) (hab : a ≠ b) : vm_K l X vm_M26 [.ref o, .int c, .int 1] (G, I, F) (none) (G, (vm_app I o a b n c 1), F) := by
  refine vm_K.mk (by decide) (Nat.le_of_ble_eq_true rfl) ?_
  show vm_J _ _ _ (0, (0, 0), [.ref o, .int c, .int 1], []) _ _ _
  refine vm_J.go vm_q26 (k := 5) (hs := [(4, 3, [.int 0, .ref a, .ref b]), (4, 3, [.int 0, .ref a, .ref b])]) (f' := (9, (0, 0), [.ref o, .int c, .int 1], [.int c, .int (I o 0), .ref a])) (h' := (G, I, F)) (hs' := []) rfl (vm_b2 rfl (vm_b2 (vm_b2 (vm_hG ho) rfl) (vm_b2 rfl (vm_b2 (vm_b2 (vm_hG ho) rfl) (vm_b2 rfl rfl))))) ?_
  rw [(hn : I o 0 = nI n)]
  refine vm_J.call vm_q26 (Z := vm_M153) (n := 3) (k := 1) (mi := 153) (pc := 9) (en := (9, .invokestatic 34, 3, [153, 640, 1], .null)) rfl trivial rfl rfl vm_z153 (av := [.ref a, .int (nI n), .int c]) (rest := []) (m_put_n (j := n) (v := c) ha (by omega) (by omega)) rfl (Nat.le_of_ble_eq_true rfl) ⟨Nat.le_of_ble_eq_true rfl, Nat.le_of_ble_eq_true rfl⟩ ⟨Nat.le_of_ble_eq_true rfl, Nat.le_of_ble_eq_true rfl⟩ ?_
  show vm_J _ _ _ (12, (0, 0), [.ref o, .int c, .int 1], []) (G, (vm_up I a n c), F) _ _
  refine vm_J.go vm_q26 (k := 6) (hs := [(4, 3, [.int 0, .ref a, .ref b]), (4, 3, [.int 0, .ref a, .ref b])]) (f' := (bif vm_ic .eq 1 0 then 28 else 24, (0, 0), [.ref o, .int c, .int 1], [.int ((vm_up I a n c) o 0), .ref b])) (h' := (G, (vm_up I a n c), F)) (hs' := []) rfl (vm_b2 rfl (vm_b2 (vm_b2 (vm_hG ho) rfl) (vm_b2 rfl (vm_b2 (vm_b2 (vm_hG ho) rfl) (vm_b2 rfl (vm_b2 rfl rfl)))))) ?_
  rw [(((vm_up_o2 I a n c o 0 hoa).trans hn) : (vm_up I a n c) o 0 = nI n)]
  refine vm_J.bF (by decide) ?_
  refine vm_J.go vm_q26 (k := 2) (hs := []) (f' := (29, (0, 0), [.ref o, .int c, .int 1], [.int 1, .int (nI n), .ref b])) (h' := (G, (vm_up I a n c), F)) (hs' := []) rfl rfl ?_
  refine vm_J.call vm_q26 (Z := vm_M153) (n := 3) (k := 1) (mi := 153) (pc := 29) (en := (29, .invokestatic 34, 3, [153, 640, 1], .null)) rfl trivial rfl rfl vm_z153 (av := [.ref b, .int (nI n), .int 1]) (rest := []) (m_put_n (j := n) (v := 1) hb (by omega) (by omega)) rfl (Nat.le_of_ble_eq_true rfl) ⟨Nat.le_of_ble_eq_true rfl, Nat.le_of_ble_eq_true rfl⟩ ⟨Nat.le_of_ble_eq_true rfl, Nat.le_of_ble_eq_true rfl⟩ ?_
  show vm_J _ _ _ (32, (0, 0), [.ref o, .int c, .int 1], []) (G, (vm_up (vm_up I a n c) b n 1), F) _ _
  refine vm_J.go vm_q26 (k := 5) (hs := [(4, 3, [.int 0, .ref a, .ref b])]) (f' := (39, (0, 0), [.ref o, .int c, .int 1], [.int (((vm_up (vm_up I a n c) b n 1) o 0) + 1), .ref o])) (h' := (G, (vm_up (vm_up I a n c) b n 1), F)) (hs' := []) rfl (vm_b2 rfl (vm_b2 rfl (vm_b2 (vm_b2 (vm_hG ho) rfl) (vm_b2 rfl (vm_b2 rfl rfl))))) ?_
  rw [((vm_pa ((vm_up_o2 _ b n 1 o 0 hob).trans ((vm_up_o2 I a n c o 0 hoa).trans hn)) (rfl : (1 : Int32) = nI 1)) : ((vm_up (vm_up I a n c) b n 1) o 0) + 1 = nI (n + 1))]
  refine vm_J.go vm_q26 (k := 1) (hs := [(4, 3, [.int 0, .ref a, .ref b])]) (f' := (42, (0, 0), [.ref o, .int c, .int 1], [])) (h' := (G, (vm_up (vm_up (vm_up I a n c) b n 1) o 0 (nI (n + 1))), F)) (hs' := []) rfl (vm_b2 (vm_b2 (vm_b2 (vm_hG ho) rfl) rfl) rfl) ?_
  exact vm_J.end vm_q26 (en := (42, .return_, 1, [], .null)) rfl rfl vm_rV (Nat.zero_le _) (Nat.zero_le _) rfl
/-- whether an entry would come -/
def sp_wc (f : Nat → Int32) (c : Int32) (n : Nat) : Prop := n < 16 ∧ ∀ k, k < n → ¬ f k = c
theorem vm_neg1 {j : Nat} (hj : j < 2147483648) : ¬ nI j < 0 := nI_pos hj
noncomputable def vm_bp (p : Prop) : Int32 := by
  classical
  exact if p then 1 else 0
theorem vm_bp_t {p : Prop} (h : p) : vm_bp p = 1 := if_pos h
theorem vm_bp_f {p : Prop} (h : ¬ p) : vm_bp p = 0 := if_neg h
theorem vm_bp_01 {p : Prop} : vm_bp p = 0 ∨ vm_bp p = 1 := by
  by_cases h : p
  · exact Or.inr (vm_bp_t h)
  · exact Or.inl (vm_bp_f h)
set_option maxHeartbeats 4000000 in
set_option maxRecDepth 20000 in
/-- DitherDesk$Palette.welcome  -/
theorem m_Pal_welcome_y0 {l : Launch} {X : vm_Cx} {G : List vm_Sh} {I : Nat → Nat → Int32} {F : Nat → Nat → UInt32} {o a b n : Nat} {c : Int32} (ho : G[o]? = some (4, 3, [.int 0, .ref a, .ref b])) (ha : G[a]? = some (0, 16, [])) (hb : G[b]? = some (0, 16, [])) (hn : I o 0 = nI n) (hn2 : n < 16) (hoa : o ≠ a) (hob : o ≠ b) (hab : a ≠ b) (hw : ∀ k, k < n → ¬ I a k = c) : vm_K l X vm_M27 [.ref o, .int c, .int 0] (G, I, F) (some (.int 1)) (G, (vm_app I o a b n c 0), F) := by
  refine vm_K.mk (by decide) (Nat.le_of_ble_eq_true rfl) ?_
  show vm_J _ _ _ (0, (0, 0), [.ref o, .int c, .int 0], []) _ _ _
  refine vm_J.go vm_q27 (k := 1) (hs := []) (f' := (1, (0, 0), [.ref o, .int c, .int 0], [.ref o])) (h' := (G, I, F)) (hs' := []) rfl rfl ?_
  refine vm_J.call vm_q27 (Z := vm_M22) (n := 0) (k := 0) (mi := 22) (pc := 1) (en := (1, .invokevirtual 38, 3, [22, 722, 0], .null)) rfl trivial rfl rfl vm_z22 (av := [.ref o]) (rest := []) (m_Pal_isFull ho) ⟨_, _, rfl, rfl, _, 2, _, ho, rfl, rfl, rfl⟩ (Nat.le_of_ble_eq_true rfl) ⟨Nat.le_of_ble_eq_true rfl, Nat.le_of_ble_eq_true rfl⟩ ⟨Nat.le_of_ble_eq_true rfl, Nat.le_of_ble_eq_true rfl⟩ ?_
  show vm_J _ _ _ (4, (0, 0), [.ref o, .int c, .int 0], [.int (vm_bi (16 ≤ I o 0))]) (G, I, F) _ _
  refine vm_J.go vm_q27 (k := 1) (hs := []) (f' := (bif vm_ic .ne (vm_bi (16 ≤ I o 0)) 0 then 15 else 7, (0, 0), [.ref o, .int c, .int 0], [])) (h' := (G, I, F)) (hs' := []) rfl rfl ?_
  refine vm_J.br (fun c1 => ?_) (fun c1 => ?_)
  · have c1 := vm_bi_ne_t c1
    exact absurd c1 (by rw [hn]; exact nI_ge hn2 (by decide))
  · have c1 := vm_bi_ne_f c1
    refine vm_J.go vm_q27 (k := 2) (hs := []) (f' := (9, (0, 0), [.ref o, .int c, .int 0], [.int c, .ref o])) (h' := (G, I, F)) (hs' := []) rfl rfl ?_
    refine vm_J.call vm_q27 (Z := vm_M25) (n := 1) (k := 0) (mi := 25) (pc := 9) (en := (9, .invokevirtual 42, 3, [25, 723, 0], .null)) rfl trivial rfl rfl vm_z25 (av := [.ref o, .int c]) (rest := []) (m_Pal_entryWith (c := c) ho ha hn (by omega)) ⟨_, _, rfl, rfl, _, 2, _, ho, rfl, rfl, rfl⟩ (Nat.le_of_ble_eq_true rfl) ⟨Nat.le_of_ble_eq_true rfl, Nat.le_of_ble_eq_true rfl⟩ ⟨Nat.le_of_ble_eq_true rfl, Nat.le_of_ble_eq_true rfl⟩ ?_
    show vm_J _ _ _ (12, (0, 0), [.ref o, .int c, .int 0], [.int (sp_ew (I a) c n)]) (G, I, F) _ _
    refine vm_J.go vm_q27 (k := 1) (hs := []) (f' := (bif vm_ic .lt (sp_ew (I a) c n) 0 then 17 else 15, (0, 0), [.ref o, .int c, .int 0], [])) (h' := (G, I, F)) (hs' := []) rfl rfl ?_
    refine vm_J.br (fun c2 => ?_) (fun c2 => ?_)
    · have c2 : (sp_ew (I a) c n) < 0 := of_decide_eq_true c2
      refine vm_J.go vm_q27 (k := 3) (hs := []) (f' := (20, (0, 0), [.ref o, .int c, .int 0], [.int 0, .int c, .ref o])) (h' := (G, I, F)) (hs' := []) rfl rfl ?_
      refine vm_J.call vm_q27 (Z := vm_M26) (n := 2) (k := 0) (mi := 26) (pc := 20) (en := (20, .invokevirtual 45, 3, [26, 724, 0], .null)) rfl trivial rfl rfl vm_z26 (av := [.ref o, .int c, .int 0]) (rest := []) (m_Pal_append_0 (c := c) ho ha hb hn (by omega) (by omega) (by omega) (by omega)) ⟨_, _, rfl, rfl, _, 2, _, ho, rfl, rfl, rfl⟩ (Nat.le_of_ble_eq_true rfl) ⟨Nat.le_of_ble_eq_true rfl, Nat.le_of_ble_eq_true rfl⟩ ⟨Nat.le_of_ble_eq_true rfl, Nat.le_of_ble_eq_true rfl⟩ ?_
      show vm_J _ _ _ (23, (0, 0), [.ref o, .int c, .int 0], []) (G, (vm_app I o a b n c 0), F) _ _
      refine vm_J.go vm_q27 (k := 1) (hs := []) (f' := (24, (0, 0), [.ref o, .int c, .int 0], [.int 1])) (h' := (G, (vm_app I o a b n c 0), F)) (hs' := []) rfl rfl ?_
      exact vm_J.end vm_q27 (en := (24, .ireturn, 1, [], .null)) rfl rfl vm_rZ1 (Nat.zero_le _) (Nat.zero_le _) rfl
    · have c2 : ¬ ((sp_ew (I a) c n) < 0) := of_decide_eq_false c2
      exact absurd (show (-1 : Int32) < 0 by decide) (by rw [← sp_ew_none hw]; exact c2)
set_option maxHeartbeats 4000000 in
set_option maxRecDepth 20000 in
/-- DitherDesk$Palette.welcome  -/
theorem m_Pal_welcome_f0 {l : Launch} {X : vm_Cx} {G : List vm_Sh} {I : Nat → Nat → Int32} {F : Nat → Nat → UInt32} {o a b n : Nat} {c : Int32} (ho : G[o]? = some (4, 3, [.int 0, .ref a, .ref b])) (ha : G[a]? = some (0, 16, [])) (hb : G[b]? = some (0, 16, [])) (hn : I o 0 = nI n) (hn2 : n = 16) : vm_K l X vm_M27 [.ref o, .int c, .int 0] (G, I, F) (some (.int 0)) (G, I, F) := by
  refine vm_K.mk (by decide) (Nat.le_of_ble_eq_true rfl) ?_
  show vm_J _ _ _ (0, (0, 0), [.ref o, .int c, .int 0], []) _ _ _
  refine vm_J.go vm_q27 (k := 1) (hs := []) (f' := (1, (0, 0), [.ref o, .int c, .int 0], [.ref o])) (h' := (G, I, F)) (hs' := []) rfl rfl ?_
  refine vm_J.call vm_q27 (Z := vm_M22) (n := 0) (k := 0) (mi := 22) (pc := 1) (en := (1, .invokevirtual 38, 3, [22, 722, 0], .null)) rfl trivial rfl rfl vm_z22 (av := [.ref o]) (rest := []) (m_Pal_isFull ho) ⟨_, _, rfl, rfl, _, 2, _, ho, rfl, rfl, rfl⟩ (Nat.le_of_ble_eq_true rfl) ⟨Nat.le_of_ble_eq_true rfl, Nat.le_of_ble_eq_true rfl⟩ ⟨Nat.le_of_ble_eq_true rfl, Nat.le_of_ble_eq_true rfl⟩ ?_
  show vm_J _ _ _ (4, (0, 0), [.ref o, .int c, .int 0], [.int (vm_bi (16 ≤ I o 0))]) (G, I, F) _ _
  refine vm_J.go vm_q27 (k := 1) (hs := []) (f' := (bif vm_ic .ne (vm_bi (16 ≤ I o 0)) 0 then 15 else 7, (0, 0), [.ref o, .int c, .int 0], [])) (h' := (G, I, F)) (hs' := []) rfl rfl ?_
  refine vm_J.br (fun c1 => ?_) (fun c1 => ?_)
  · have c1 := vm_bi_ne_t c1
    refine vm_J.go vm_q27 (k := 1) (hs := []) (f' := (16, (0, 0), [.ref o, .int c, .int 0], [.int 0])) (h' := (G, I, F)) (hs' := []) rfl rfl ?_
    exact vm_J.end vm_q27 (en := (16, .ireturn, 1, [], .null)) rfl rfl vm_rZ0 (Nat.zero_le _) (Nat.zero_le _) rfl
  · have c1 := vm_bi_ne_f c1
    exact absurd (by rw [hn, hn2]; decide) c1
set_option maxHeartbeats 4000000 in
set_option maxRecDepth 20000 in
/-- DitherDesk$Palette.welcome  -/
theorem m_Pal_welcome_t0 {l : Launch} {X : vm_Cx} {G : List vm_Sh} {I : Nat → Nat → Int32} {F : Nat → Nat → UInt32} {o a b n j : Nat} {c : Int32} (ho : G[o]? = some (4, 3, [.int 0, .ref a, .ref b])) (ha : G[a]? = some (0, 16, [])) (hb : G[b]? = some (0, 16, [])) (hn : I o 0 = nI n) (hn2 : n ≤ 16) (hj : j < n) (hw : I a j = c) : vm_K l X vm_M27 [.ref o, .int c, .int 0] (G, I, F) (some (.int 0)) (G, I, F) := by
  refine vm_K.mk (by decide) (Nat.le_of_ble_eq_true rfl) ?_
  show vm_J _ _ _ (0, (0, 0), [.ref o, .int c, .int 0], []) _ _ _
  refine vm_J.go vm_q27 (k := 1) (hs := []) (f' := (1, (0, 0), [.ref o, .int c, .int 0], [.ref o])) (h' := (G, I, F)) (hs' := []) rfl rfl ?_
  refine vm_J.call vm_q27 (Z := vm_M22) (n := 0) (k := 0) (mi := 22) (pc := 1) (en := (1, .invokevirtual 38, 3, [22, 722, 0], .null)) rfl trivial rfl rfl vm_z22 (av := [.ref o]) (rest := []) (m_Pal_isFull ho) ⟨_, _, rfl, rfl, _, 2, _, ho, rfl, rfl, rfl⟩ (Nat.le_of_ble_eq_true rfl) ⟨Nat.le_of_ble_eq_true rfl, Nat.le_of_ble_eq_true rfl⟩ ⟨Nat.le_of_ble_eq_true rfl, Nat.le_of_ble_eq_true rfl⟩ ?_
  show vm_J _ _ _ (4, (0, 0), [.ref o, .int c, .int 0], [.int (vm_bi (16 ≤ I o 0))]) (G, I, F) _ _
  refine vm_J.go vm_q27 (k := 1) (hs := []) (f' := (bif vm_ic .ne (vm_bi (16 ≤ I o 0)) 0 then 15 else 7, (0, 0), [.ref o, .int c, .int 0], [])) (h' := (G, I, F)) (hs' := []) rfl rfl ?_
  refine vm_J.br (fun c1 => ?_) (fun c1 => ?_)
  · have c1 := vm_bi_ne_t c1
    refine vm_J.go vm_q27 (k := 1) (hs := []) (f' := (16, (0, 0), [.ref o, .int c, .int 0], [.int 0])) (h' := (G, I, F)) (hs' := []) rfl rfl ?_
    exact vm_J.end vm_q27 (en := (16, .ireturn, 1, [], .null)) rfl rfl vm_rZ0 (Nat.zero_le _) (Nat.zero_le _) rfl
  · have c1 := vm_bi_ne_f c1
    refine vm_J.go vm_q27 (k := 2) (hs := []) (f' := (9, (0, 0), [.ref o, .int c, .int 0], [.int c, .ref o])) (h' := (G, I, F)) (hs' := []) rfl rfl ?_
    refine vm_J.call vm_q27 (Z := vm_M25) (n := 1) (k := 0) (mi := 25) (pc := 9) (en := (9, .invokevirtual 42, 3, [25, 723, 0], .null)) rfl trivial rfl rfl vm_z25 (av := [.ref o, .int c]) (rest := []) (m_Pal_entryWith (c := c) ho ha hn (by omega)) ⟨_, _, rfl, rfl, _, 2, _, ho, rfl, rfl, rfl⟩ (Nat.le_of_ble_eq_true rfl) ⟨Nat.le_of_ble_eq_true rfl, Nat.le_of_ble_eq_true rfl⟩ ⟨Nat.le_of_ble_eq_true rfl, Nat.le_of_ble_eq_true rfl⟩ ?_
    show vm_J _ _ _ (12, (0, 0), [.ref o, .int c, .int 0], [.int (sp_ew (I a) c n)]) (G, I, F) _ _
    refine vm_J.go vm_q27 (k := 1) (hs := []) (f' := (bif vm_ic .lt (sp_ew (I a) c n) 0 then 17 else 15, (0, 0), [.ref o, .int c, .int 0], [])) (h' := (G, I, F)) (hs' := []) rfl rfl ?_
    refine vm_J.br (fun c2 => ?_) (fun c2 => ?_)
    · have c2 : (sp_ew (I a) c n) < 0 := of_decide_eq_true c2
      have hx : False := by
        rcases sp_ew_or (I a) c n with ⟨i, h1, -, -, h4⟩ | ⟨h1, -⟩
        · rw [h4] at c2
          exact vm_neg1 (by omega) c2
        · exact h1 j hj hw
      exact hx.elim
    · have c2 : ¬ ((sp_ew (I a) c n) < 0) := of_decide_eq_false c2
      refine vm_J.go vm_q27 (k := 1) (hs := []) (f' := (16, (0, 0), [.ref o, .int c, .int 0], [.int 0])) (h' := (G, I, F)) (hs' := []) rfl rfl ?_
      exact vm_J.end vm_q27 (en := (16, .ireturn, 1, [], .null)) rfl rfl vm_rZ0 (Nat.zero_le _) (Nat.zero_le _) rfl
set_option maxHeartbeats 4000000 in
set_option maxRecDepth 20000 in
/-- DitherDesk$Palette.welcome  -/
theorem m_Pal_welcome_y1 {l : Launch} {X : vm_Cx} {G : List vm_Sh} {I : Nat → Nat → Int32} {F : Nat → Nat → UInt32} {o a b n : Nat} {c : Int32} (ho : G[o]? = some (4, 3, [.int 0, .ref a, .ref b])) (ha : G[a]? = some (0, 16, [])) (hb : G[b]? = some (0, 16, [])) (hn : I o 0 = nI n) (hn2 : n < 16) (hoa : o ≠ a) (hob : o ≠ b) (hab : a ≠ b) (hw : ∀ k, k < n → ¬ I a k = c) : vm_K l X vm_M27 [.ref o, .int c, .int 1] (G, I, F) (some (.int 1)) (G, (vm_app I o a b n c 1), F) := by
  refine vm_K.mk (by decide) (Nat.le_of_ble_eq_true rfl) ?_
  show vm_J _ _ _ (0, (0, 0), [.ref o, .int c, .int 1], []) _ _ _
  refine vm_J.go vm_q27 (k := 1) (hs := []) (f' := (1, (0, 0), [.ref o, .int c, .int 1], [.ref o])) (h' := (G, I, F)) (hs' := []) rfl rfl ?_
  refine vm_J.call vm_q27 (Z := vm_M22) (n := 0) (k := 0) (mi := 22) (pc := 1) (en := (1, .invokevirtual 38, 3, [22, 722, 0], .null)) rfl trivial rfl rfl vm_z22 (av := [.ref o]) (rest := []) (m_Pal_isFull ho) ⟨_, _, rfl, rfl, _, 2, _, ho, rfl, rfl, rfl⟩ (Nat.le_of_ble_eq_true rfl) ⟨Nat.le_of_ble_eq_true rfl, Nat.le_of_ble_eq_true rfl⟩ ⟨Nat.le_of_ble_eq_true rfl, Nat.le_of_ble_eq_true rfl⟩ ?_
  show vm_J _ _ _ (4, (0, 0), [.ref o, .int c, .int 1], [.int (vm_bi (16 ≤ I o 0))]) (G, I, F) _ _
  refine vm_J.go vm_q27 (k := 1) (hs := []) (f' := (bif vm_ic .ne (vm_bi (16 ≤ I o 0)) 0 then 15 else 7, (0, 0), [.ref o, .int c, .int 1], [])) (h' := (G, I, F)) (hs' := []) rfl rfl ?_
  refine vm_J.br (fun c1 => ?_) (fun c1 => ?_)
  · have c1 := vm_bi_ne_t c1
    exact absurd c1 (by rw [hn]; exact nI_ge hn2 (by decide))
  · have c1 := vm_bi_ne_f c1
    refine vm_J.go vm_q27 (k := 2) (hs := []) (f' := (9, (0, 0), [.ref o, .int c, .int 1], [.int c, .ref o])) (h' := (G, I, F)) (hs' := []) rfl rfl ?_
    refine vm_J.call vm_q27 (Z := vm_M25) (n := 1) (k := 0) (mi := 25) (pc := 9) (en := (9, .invokevirtual 42, 3, [25, 723, 0], .null)) rfl trivial rfl rfl vm_z25 (av := [.ref o, .int c]) (rest := []) (m_Pal_entryWith (c := c) ho ha hn (by omega)) ⟨_, _, rfl, rfl, _, 2, _, ho, rfl, rfl, rfl⟩ (Nat.le_of_ble_eq_true rfl) ⟨Nat.le_of_ble_eq_true rfl, Nat.le_of_ble_eq_true rfl⟩ ⟨Nat.le_of_ble_eq_true rfl, Nat.le_of_ble_eq_true rfl⟩ ?_
    show vm_J _ _ _ (12, (0, 0), [.ref o, .int c, .int 1], [.int (sp_ew (I a) c n)]) (G, I, F) _ _
    refine vm_J.go vm_q27 (k := 1) (hs := []) (f' := (bif vm_ic .lt (sp_ew (I a) c n) 0 then 17 else 15, (0, 0), [.ref o, .int c, .int 1], [])) (h' := (G, I, F)) (hs' := []) rfl rfl ?_
    refine vm_J.br (fun c2 => ?_) (fun c2 => ?_)
    · have c2 : (sp_ew (I a) c n) < 0 := of_decide_eq_true c2
      refine vm_J.go vm_q27 (k := 3) (hs := []) (f' := (20, (0, 0), [.ref o, .int c, .int 1], [.int 1, .int c, .ref o])) (h' := (G, I, F)) (hs' := []) rfl rfl ?_
      refine vm_J.call vm_q27 (Z := vm_M26) (n := 2) (k := 0) (mi := 26) (pc := 20) (en := (20, .invokevirtual 45, 3, [26, 724, 0], .null)) rfl trivial rfl rfl vm_z26 (av := [.ref o, .int c, .int 1]) (rest := []) (m_Pal_append_1 (c := c) ho ha hb hn (by omega) (by omega) (by omega) (by omega)) ⟨_, _, rfl, rfl, _, 2, _, ho, rfl, rfl, rfl⟩ (Nat.le_of_ble_eq_true rfl) ⟨Nat.le_of_ble_eq_true rfl, Nat.le_of_ble_eq_true rfl⟩ ⟨Nat.le_of_ble_eq_true rfl, Nat.le_of_ble_eq_true rfl⟩ ?_
      show vm_J _ _ _ (23, (0, 0), [.ref o, .int c, .int 1], []) (G, (vm_app I o a b n c 1), F) _ _
      refine vm_J.go vm_q27 (k := 1) (hs := []) (f' := (24, (0, 0), [.ref o, .int c, .int 1], [.int 1])) (h' := (G, (vm_app I o a b n c 1), F)) (hs' := []) rfl rfl ?_
      exact vm_J.end vm_q27 (en := (24, .ireturn, 1, [], .null)) rfl rfl vm_rZ1 (Nat.zero_le _) (Nat.zero_le _) rfl
    · have c2 : ¬ ((sp_ew (I a) c n) < 0) := of_decide_eq_false c2
      exact absurd (show (-1 : Int32) < 0 by decide) (by rw [← sp_ew_none hw]; exact c2)
set_option maxHeartbeats 4000000 in
set_option maxRecDepth 20000 in
/-- DitherDesk$Palette.welcome  -/
theorem m_Pal_welcome_f1 {l : Launch} {X : vm_Cx} {G : List vm_Sh} {I : Nat → Nat → Int32} {F : Nat → Nat → UInt32} {o a b n : Nat} {c : Int32} (ho : G[o]? = some (4, 3, [.int 0, .ref a, .ref b])) (ha : G[a]? = some (0, 16, [])) (hb : G[b]? = some (0, 16, [])) (hn : I o 0 = nI n) (hn2 : n = 16) : vm_K l X vm_M27 [.ref o, .int c, .int 1] (G, I, F) (some (.int 0)) (G, I, F) := by
  refine vm_K.mk (by decide) (Nat.le_of_ble_eq_true rfl) ?_
  show vm_J _ _ _ (0, (0, 0), [.ref o, .int c, .int 1], []) _ _ _
  refine vm_J.go vm_q27 (k := 1) (hs := []) (f' := (1, (0, 0), [.ref o, .int c, .int 1], [.ref o])) (h' := (G, I, F)) (hs' := []) rfl rfl ?_
  refine vm_J.call vm_q27 (Z := vm_M22) (n := 0) (k := 0) (mi := 22) (pc := 1) (en := (1, .invokevirtual 38, 3, [22, 722, 0], .null)) rfl trivial rfl rfl vm_z22 (av := [.ref o]) (rest := []) (m_Pal_isFull ho) ⟨_, _, rfl, rfl, _, 2, _, ho, rfl, rfl, rfl⟩ (Nat.le_of_ble_eq_true rfl) ⟨Nat.le_of_ble_eq_true rfl, Nat.le_of_ble_eq_true rfl⟩ ⟨Nat.le_of_ble_eq_true rfl, Nat.le_of_ble_eq_true rfl⟩ ?_
  show vm_J _ _ _ (4, (0, 0), [.ref o, .int c, .int 1], [.int (vm_bi (16 ≤ I o 0))]) (G, I, F) _ _
  refine vm_J.go vm_q27 (k := 1) (hs := []) (f' := (bif vm_ic .ne (vm_bi (16 ≤ I o 0)) 0 then 15 else 7, (0, 0), [.ref o, .int c, .int 1], [])) (h' := (G, I, F)) (hs' := []) rfl rfl ?_
  refine vm_J.br (fun c1 => ?_) (fun c1 => ?_)
  · have c1 := vm_bi_ne_t c1
    refine vm_J.go vm_q27 (k := 1) (hs := []) (f' := (16, (0, 0), [.ref o, .int c, .int 1], [.int 0])) (h' := (G, I, F)) (hs' := []) rfl rfl ?_
    exact vm_J.end vm_q27 (en := (16, .ireturn, 1, [], .null)) rfl rfl vm_rZ0 (Nat.zero_le _) (Nat.zero_le _) rfl
  · have c1 := vm_bi_ne_f c1
    exact absurd (by rw [hn, hn2]; decide) c1
set_option maxHeartbeats 4000000 in
set_option maxRecDepth 20000 in
/-- DitherDesk$Palette.welcome  -/
theorem m_Pal_welcome_t1 {l : Launch} {X : vm_Cx} {G : List vm_Sh} {I : Nat → Nat → Int32} {F : Nat → Nat → UInt32} {o a b n j : Nat} {c : Int32} (ho : G[o]? = some (4, 3, [.int 0, .ref a, .ref b])) (ha : G[a]? = some (0, 16, [])) (hb : G[b]? = some (0, 16, [])) (hn : I o 0 = nI n) (hn2 : n ≤ 16) (hj : j < n) (hw : I a j = c) : vm_K l X vm_M27 [.ref o, .int c, .int 1] (G, I, F) (some (.int 0)) (G, I, F) := by
  refine vm_K.mk (by decide) (Nat.le_of_ble_eq_true rfl) ?_
  show vm_J _ _ _ (0, (0, 0), [.ref o, .int c, .int 1], []) _ _ _
  refine vm_J.go vm_q27 (k := 1) (hs := []) (f' := (1, (0, 0), [.ref o, .int c, .int 1], [.ref o])) (h' := (G, I, F)) (hs' := []) rfl rfl ?_
  refine vm_J.call vm_q27 (Z := vm_M22) (n := 0) (k := 0) (mi := 22) (pc := 1) (en := (1, .invokevirtual 38, 3, [22, 722, 0], .null)) rfl trivial rfl rfl vm_z22 (av := [.ref o]) (rest := []) (m_Pal_isFull ho) ⟨_, _, rfl, rfl, _, 2, _, ho, rfl, rfl, rfl⟩ (Nat.le_of_ble_eq_true rfl) ⟨Nat.le_of_ble_eq_true rfl, Nat.le_of_ble_eq_true rfl⟩ ⟨Nat.le_of_ble_eq_true rfl, Nat.le_of_ble_eq_true rfl⟩ ?_
  show vm_J _ _ _ (4, (0, 0), [.ref o, .int c, .int 1], [.int (vm_bi (16 ≤ I o 0))]) (G, I, F) _ _
  refine vm_J.go vm_q27 (k := 1) (hs := []) (f' := (bif vm_ic .ne (vm_bi (16 ≤ I o 0)) 0 then 15 else 7, (0, 0), [.ref o, .int c, .int 1], [])) (h' := (G, I, F)) (hs' := []) rfl rfl ?_
  refine vm_J.br (fun c1 => ?_) (fun c1 => ?_)
  · have c1 := vm_bi_ne_t c1
    refine vm_J.go vm_q27 (k := 1) (hs := []) (f' := (16, (0, 0), [.ref o, .int c, .int 1], [.int 0])) (h' := (G, I, F)) (hs' := []) rfl rfl ?_
    exact vm_J.end vm_q27 (en := (16, .ireturn, 1, [], .null)) rfl rfl vm_rZ0 (Nat.zero_le _) (Nat.zero_le _) rfl
  · have c1 := vm_bi_ne_f c1
    refine vm_J.go vm_q27 (k := 2) (hs := []) (f' := (9, (0, 0), [.ref o, .int c, .int 1], [.int c, .ref o])) (h' := (G, I, F)) (hs' := []) rfl rfl ?_
    refine vm_J.call vm_q27 (Z := vm_M25) (n := 1) (k := 0) (mi := 25) (pc := 9) (en := (9, .invokevirtual 42, 3, [25, 723, 0], .null)) rfl trivial rfl rfl vm_z25 (av := [.ref o, .int c]) (rest := []) (m_Pal_entryWith (c := c) ho ha hn (by omega)) ⟨_, _, rfl, rfl, _, 2, _, ho, rfl, rfl, rfl⟩ (Nat.le_of_ble_eq_true rfl) ⟨Nat.le_of_ble_eq_true rfl, Nat.le_of_ble_eq_true rfl⟩ ⟨Nat.le_of_ble_eq_true rfl, Nat.le_of_ble_eq_true rfl⟩ ?_
    show vm_J _ _ _ (12, (0, 0), [.ref o, .int c, .int 1], [.int (sp_ew (I a) c n)]) (G, I, F) _ _
    refine vm_J.go vm_q27 (k := 1) (hs := []) (f' := (bif vm_ic .lt (sp_ew (I a) c n) 0 then 17 else 15, (0, 0), [.ref o, .int c, .int 1], [])) (h' := (G, I, F)) (hs' := []) rfl rfl ?_
    refine vm_J.br (fun c2 => ?_) (fun c2 => ?_)
    · have c2 : (sp_ew (I a) c n) < 0 := of_decide_eq_true c2
      have hx : False := by
        rcases sp_ew_or (I a) c n with ⟨i, h1, -, -, h4⟩ | ⟨h1, -⟩
        · rw [h4] at c2
          exact vm_neg1 (by omega) c2
        · exact h1 j hj hw
      exact hx.elim
    · have c2 : ¬ ((sp_ew (I a) c n) < 0) := of_decide_eq_false c2
      refine vm_J.go vm_q27 (k := 1) (hs := []) (f' := (16, (0, 0), [.ref o, .int c, .int 1], [.int 0])) (h' := (G, I, F)) (hs' := []) rfl rfl ?_
      exact vm_J.end vm_q27 (en := (16, .ireturn, 1, [], .null)) rfl rfl vm_rZ0 (Nat.zero_le _) (Nat.zero_le _) rfl
/-- a row written from lo on, so many -/
def vm_wq {α : Type} (I : Nat → Nat → α) (d : Nat) (f : Nat → α) (lo n : Nat) : Nat → Nat → α := fun a b => if a = d then (if lo ≤ b ∧ b < lo + n then f b else I d b) else I a b
theorem vm_wq_0 {α : Type} (I : Nat → Nat → α) (d lo : Nat) (f : Nat → α) : I = vm_wq I d f lo 0 := by
  funext a b
  unfold vm_wq
  by_cases h : a = d
  · simp [h, show ¬ (lo ≤ b ∧ b < lo) by omega]
  · simp [h]
theorem vm_wq_s {α : Type} (I : Nat → Nat → α) (d lo j : Nat) (f : Nat → α) : vm_up (vm_wq I d f lo j) d (lo + j) (f (lo + j)) = vm_wq I d f lo (j + 1) := by
  funext a b
  unfold vm_wq vm_up
  by_cases h : a = d
  · subst h
    simp only [if_true]
    by_cases h1 : b = lo + j
    · subst h1
      simp
    · by_cases h2 : lo ≤ b ∧ b < lo + j
      · rw [if_neg h1, if_pos h2, if_pos ⟨h2.1, by omega⟩]
      · rw [if_neg h1, if_neg h2, if_neg (by omega)]
  · simp [h]
theorem vm_wq_o {α : Type} (I : Nat → Nat → α) (d lo n a : Nat) (f : Nat → α) (h : a ≠ d) : vm_wq I d f lo n a = I a := by
  funext b
  unfold vm_wq
  rw [if_neg h]
theorem vm_wq_r {α : Type} (I : Nat → Nat → α) (d lo n b : Nat) (f : Nat → α) (h : lo + n ≤ b) : vm_wq I d f lo n d b = I d b := by
  unfold vm_wq
  rw [if_pos rfl, if_neg (by omega)]
theorem vm_up_wq {α : Type} (I : Nat → Nat → α) (d lo n a k : Nat) (f : Nat → α) (x : α) (h : a ≠ d) : vm_up (vm_wq I d f lo n) a k x = vm_wq (vm_up I a k x) d f lo n := by
  funext p q
  unfold vm_up vm_wq
  by_cases h1 : p = a
  · subst h1
    simp [h]
  · by_cases h2 : p = d
    · subst h2
      simp [h1]
    · simp [h1, h2]
/-- an entry goes -/
def vm_rm (I : Nat → Nat → Int32) (a b e m : Nat) : Nat → Nat → Int32 := vm_wq (vm_wq I a (fun k => I a (k + 1)) e m) b (fun k => I b (k + 1)) e m
theorem vm_rm_o (I : Nat → Nat → Int32) (a b e m o : Nat) (h1 : o ≠ a) (h2 : o ≠ b) : vm_rm I a b e m o = I o := by
  unfold vm_rm
  rw [vm_wq_o _ _ _ _ _ _ h2, vm_wq_o _ _ _ _ _ _ h1]
theorem vm_rm_a (I : Nat → Nat → Int32) (a b e m k : Nat) (h1 : a ≠ b) (h : e + m ≤ k) : vm_rm I a b e m a k = I a k := by
  unfold vm_rm
  rw [vm_wq_o _ _ _ _ _ _ h1, vm_wq_r _ _ _ _ _ _ h]
theorem vm_rm_b (I : Nat → Nat → Int32) (a b e m k : Nat) (h1 : a ≠ b) (h : e + m ≤ k) : vm_rm I a b e m b k = I b k := by
  unfold vm_rm
  rw [vm_wq_r _ _ _ _ _ _ h, vm_wq_o _ _ _ _ _ _ (Ne.symm h1)]
theorem vm_rm_s (I : Nat → Nat → Int32) (a b e m : Nat) (h1 : a ≠ b) : vm_up (vm_up (vm_rm I a b e m) a (e + m) (I a (e + m + 1))) b (e + m) (I b (e + m + 1)) = vm_rm I a b e (m + 1) := by
  unfold vm_rm
  rw [vm_up_wq _ _ _ _ _ _ _ _ h1, vm_wq_s I a e m (fun k => I a (k + 1)), vm_wq_s _ b e m (fun k => I b (k + 1))]
set_option maxHeartbeats 4000000 in
set_option maxRecDepth 20000 in
/-- DitherDesk$Palette.remove  -/
theorem m_Pal_remove {l : Launch} {X : vm_Cx} {G : List vm_Sh} {I : Nat → Nat → Int32} {F : Nat → Nat → UInt32} {o a b n e : Nat} (ho : G[o]? = some (4, 3, [.int 0, .ref a, .ref b])) (ha : G[a]? = some (0, 16, [])) (hb : G[b]? = some (0, 16, [])) (hn : I o 0 = nI n) (hn2 : n ≤ 16) (he : e < n) (hoa : o ≠ a) (hob : o ≠ b) (hab : a ≠ b) : vm_K l X vm_M28 [.ref o, .int (nI e)] (G, I, F) (none) (G, (vm_up (vm_rm I a b e (n - 1 - e)) o 0 (nI (n - 1))), F) := by
  refine vm_K.mk (by decide) (Nat.le_of_ble_eq_true rfl) ?_
  show vm_J _ _ _ (0, (0, 0), [.ref o, .int (nI e), .retAddr 0], []) _ _ _
  refine vm_J.go vm_q28 (k := 2) (hs := []) (f' := (2, (0, 0), [.ref o, .int (nI e), .int (nI e)], [])) (h' := (G, I, F)) (hs' := []) rfl rfl ?_
  refine vm_J.cnt (n - 1 - e) (fun j => (2, (0, 0), [.ref o, .int (nI e), .int (nI (e + j))], [])) (fun j => (G, (vm_rm I a b e j), F)) (fun _ => True) rfl (by unfold vm_rm; rw [← vm_wq_0, ← vm_wq_0]) trivial (fun j hj pj ij => ?_) (fun pj => ?_)
  · show vm_J _ _ _ (2, (0, 0), [.ref o, .int (nI e), .int (nI (e + j))], []) (G, (vm_rm I a b e j), F) _ _
    refine vm_J.go vm_q28 (k := 6) (hs := [(4, 3, [.int 0, .ref a, .ref b])]) (f' := (bif vm_ic .ge (nI (e + j)) (((vm_rm I a b e j) o 0) - 1) then 54 else 12, (0, 0), [.ref o, .int (nI e), .int (nI (e + j))], [])) (h' := (G, (vm_rm I a b e j), F)) (hs' := []) rfl (vm_b2 rfl (vm_b2 rfl (vm_b2 (vm_b2 (vm_hG ho) rfl) (vm_b2 rfl (vm_b2 rfl (vm_b2 rfl rfl)))))) ?_
    refine vm_J.br (fun c1 => ?_) (fun c1 => ?_)
    · rw [((vm_ps ((congrFun (vm_rm_o I a b e j o hoa hob) 0).trans hn) (rfl : (1 : Int32) = nI 1) (by omega)) : ((vm_rm I a b e j) o 0) - 1 = nI (n - 1))] at c1
      have c1 := vm_ge_t (a := e + j) (b := n - 1) (by omega) (by omega) c1
      exact (show False by omega).elim
    · rw [((vm_ps ((congrFun (vm_rm_o I a b e j o hoa hob) 0).trans hn) (rfl : (1 : Int32) = nI 1) (by omega)) : ((vm_rm I a b e j) o 0) - 1 = nI (n - 1))] at c1
      have c1 := vm_ge_f (a := e + j) (b := n - 1) (by omega) (by omega) c1
      refine vm_J.go vm_q28 (k := 8) (hs := [(4, 3, [.int 0, .ref a, .ref b]), (4, 3, [.int 0, .ref a, .ref b])]) (f' := (24, (0, 0), [.ref o, .int (nI e), .int (nI (e + j))], [.int ((nI (e + j)) + 1), .ref a, .int (nI (e + j)), .ref a])) (h' := (G, (vm_rm I a b e j), F)) (hs' := []) rfl (vm_b2 rfl (vm_b2 (vm_b2 (vm_hG ho) rfl) (vm_b2 rfl (vm_b2 rfl (vm_b2 (vm_b2 (vm_hG ho) rfl) (vm_b2 rfl (vm_b2 rfl (vm_b2 rfl rfl)))))))) ?_
      rw [((vm_pa (rfl : (nI (e + j) : Int32) = nI (e + j)) (rfl : (1 : Int32) = nI 1)) : (nI (e + j)) + 1 = nI ((e + j) + 1))]
      refine vm_J.call vm_q28 (Z := vm_M152) (n := 2) (k := 1) (mi := 152) (pc := 24) (en := (24, .invokestatic 26, 3, [152, 631, 1], .null)) rfl trivial rfl rfl vm_z152 (av := [.ref a, .int (nI ((e + j) + 1))]) (rest := [.int (nI (e + j)), .ref a]) (m_at_n (j := (e + j) + 1) ha (by omega) (by omega)) rfl (Nat.le_of_ble_eq_true rfl) ⟨Nat.le_of_ble_eq_true rfl, Nat.le_of_ble_eq_true rfl⟩ ⟨Nat.le_of_ble_eq_true rfl, Nat.le_of_ble_eq_true rfl⟩ ?_
      show vm_J _ _ _ (27, (0, 0), [.ref o, .int (nI e), .int (nI (e + j))], [.int ((vm_rm I a b e j) a ((e + j) + 1)), .int (nI (e + j)), .ref a]) (G, (vm_rm I a b e j), F) _ _
      refine vm_J.call vm_q28 (Z := vm_M153) (n := 3) (k := 1) (mi := 153) (pc := 27) (en := (27, .invokestatic 34, 3, [153, 640, 1], .null)) rfl trivial rfl rfl vm_z153 (av := [.ref a, .int (nI (e + j)), .int ((vm_rm I a b e j) a ((e + j) + 1))]) (rest := []) (m_put_n (j := e + j) (v := (vm_rm I a b e j) a ((e + j) + 1)) ha (by omega) (by omega)) rfl (Nat.le_of_ble_eq_true rfl) ⟨Nat.le_of_ble_eq_true rfl, Nat.le_of_ble_eq_true rfl⟩ ⟨Nat.le_of_ble_eq_true rfl, Nat.le_of_ble_eq_true rfl⟩ ?_
      show vm_J _ _ _ (30, (0, 0), [.ref o, .int (nI e), .int (nI (e + j))], []) (G, (vm_up (vm_rm I a b e j) a (e + j) ((vm_rm I a b e j) a ((e + j) + 1))), F) _ _
      refine vm_J.go vm_q28 (k := 8) (hs := [(4, 3, [.int 0, .ref a, .ref b]), (4, 3, [.int 0, .ref a, .ref b])]) (f' := (42, (0, 0), [.ref o, .int (nI e), .int (nI (e + j))], [.int ((nI (e + j)) + 1), .ref b, .int (nI (e + j)), .ref b])) (h' := (G, (vm_up (vm_rm I a b e j) a (e + j) ((vm_rm I a b e j) a ((e + j) + 1))), F)) (hs' := []) rfl (vm_b2 rfl (vm_b2 (vm_b2 (vm_hG ho) rfl) (vm_b2 rfl (vm_b2 rfl (vm_b2 (vm_b2 (vm_hG ho) rfl) (vm_b2 rfl (vm_b2 rfl (vm_b2 rfl rfl)))))))) ?_
      rw [((vm_pa (rfl : (nI (e + j) : Int32) = nI (e + j)) (rfl : (1 : Int32) = nI 1)) : (nI (e + j)) + 1 = nI ((e + j) + 1))]
      refine vm_J.call vm_q28 (Z := vm_M152) (n := 2) (k := 1) (mi := 152) (pc := 42) (en := (42, .invokestatic 26, 3, [152, 631, 1], .null)) rfl trivial rfl rfl vm_z152 (av := [.ref b, .int (nI ((e + j) + 1))]) (rest := [.int (nI (e + j)), .ref b]) (m_at_n (j := (e + j) + 1) hb (by omega) (by omega)) rfl (Nat.le_of_ble_eq_true rfl) ⟨Nat.le_of_ble_eq_true rfl, Nat.le_of_ble_eq_true rfl⟩ ⟨Nat.le_of_ble_eq_true rfl, Nat.le_of_ble_eq_true rfl⟩ ?_
      show vm_J _ _ _ (45, (0, 0), [.ref o, .int (nI e), .int (nI (e + j))], [.int ((vm_up (vm_rm I a b e j) a (e + j) ((vm_rm I a b e j) a ((e + j) + 1))) b ((e + j) + 1)), .int (nI (e + j)), .ref b]) (G, (vm_up (vm_rm I a b e j) a (e + j) ((vm_rm I a b e j) a ((e + j) + 1))), F) _ _
      refine vm_J.call vm_q28 (Z := vm_M153) (n := 3) (k := 1) (mi := 153) (pc := 45) (en := (45, .invokestatic 34, 3, [153, 640, 1], .null)) rfl trivial rfl rfl vm_z153 (av := [.ref b, .int (nI (e + j)), .int ((vm_up (vm_rm I a b e j) a (e + j) ((vm_rm I a b e j) a ((e + j) + 1))) b ((e + j) + 1))]) (rest := []) (m_put_n (j := e + j) (v := (vm_up (vm_rm I a b e j) a (e + j) ((vm_rm I a b e j) a ((e + j) + 1))) b ((e + j) + 1)) hb (by omega) (by omega)) rfl (Nat.le_of_ble_eq_true rfl) ⟨Nat.le_of_ble_eq_true rfl, Nat.le_of_ble_eq_true rfl⟩ ⟨Nat.le_of_ble_eq_true rfl, Nat.le_of_ble_eq_true rfl⟩ ?_
      show vm_J _ _ _ (48, (0, 0), [.ref o, .int (nI e), .int (nI (e + j))], []) (G, (vm_up (vm_up (vm_rm I a b e j) a (e + j) ((vm_rm I a b e j) a ((e + j) + 1))) b (e + j) ((vm_up (vm_rm I a b e j) a (e + j) ((vm_rm I a b e j) a ((e + j) + 1))) b ((e + j) + 1))), F) _ _
      refine vm_J.go vm_q28 (k := 2) (hs := []) (f' := (2, (0, 0), [.ref o, .int (nI e), .int ((nI (e + j)) + 1)], [])) (h' := (G, (vm_up (vm_up (vm_rm I a b e j) a (e + j) ((vm_rm I a b e j) a ((e + j) + 1))) b (e + j) ((vm_up (vm_rm I a b e j) a (e + j) ((vm_rm I a b e j) a ((e + j) + 1))) b ((e + j) + 1))), F)) (hs' := []) rfl rfl ?_
      rw [((vm_pa (rfl : nI (e + j) = nI (e + j)) (rfl : (1 : Int32) = nI 1)) : (nI (e + j)) + 1 = nI (e + j + 1))]
      rw [vm_rm_a I a b e j _ hab (by omega), vm_up_o2 _ a _ _ b _ (Ne.symm hab), vm_rm_b I a b e j _ hab (by omega), vm_rm_s I a b e j hab]
      exact ij trivial
  · show vm_J _ _ _ (2, (0, 0), [.ref o, .int (nI e), .int (nI (e + (n - 1 - e)))], []) (G, (vm_rm I a b e (n - 1 - e)), F) _ _
    refine vm_J.go vm_q28 (k := 6) (hs := [(4, 3, [.int 0, .ref a, .ref b])]) (f' := (bif vm_ic .ge (nI (e + (n - 1 - e))) (((vm_rm I a b e (n - 1 - e)) o 0) - 1) then 54 else 12, (0, 0), [.ref o, .int (nI e), .int (nI (e + (n - 1 - e)))], [])) (h' := (G, (vm_rm I a b e (n - 1 - e)), F)) (hs' := []) rfl (vm_b2 rfl (vm_b2 rfl (vm_b2 (vm_b2 (vm_hG ho) rfl) (vm_b2 rfl (vm_b2 rfl (vm_b2 rfl rfl)))))) ?_
    refine vm_J.br (fun c2 => ?_) (fun c2 => ?_)
    · rw [((vm_ps ((congrFun (vm_rm_o I a b e (n - 1 - e) o hoa hob) 0).trans hn) (rfl : (1 : Int32) = nI 1) (by omega)) : ((vm_rm I a b e (n - 1 - e)) o 0) - 1 = nI (n - 1))] at c2
      have c2 := vm_ge_t (a := e + (n - 1 - e)) (b := n - 1) (by omega) (by omega) c2
      refine vm_J.go vm_q28 (k := 5) (hs := [(4, 3, [.int 0, .ref a, .ref b])]) (f' := (61, (0, 0), [.ref o, .int (nI e), .int (nI (e + (n - 1 - e)))], [.int (((vm_rm I a b e (n - 1 - e)) o 0) - 1), .ref o])) (h' := (G, (vm_rm I a b e (n - 1 - e)), F)) (hs' := []) rfl (vm_b2 rfl (vm_b2 rfl (vm_b2 (vm_b2 (vm_hG ho) rfl) (vm_b2 rfl (vm_b2 rfl rfl))))) ?_
      rw [((vm_ps ((congrFun (vm_rm_o I a b e (n - 1 - e) o hoa hob) 0).trans hn) (rfl : (1 : Int32) = nI 1) (by omega)) : ((vm_rm I a b e (n - 1 - e)) o 0) - 1 = nI (n - 1))]
      refine vm_J.go vm_q28 (k := 1) (hs := [(4, 3, [.int 0, .ref a, .ref b])]) (f' := (64, (0, 0), [.ref o, .int (nI e), .int (nI (e + (n - 1 - e)))], [])) (h' := (G, (vm_up (vm_rm I a b e (n - 1 - e)) o 0 (nI (n - 1))), F)) (hs' := []) rfl (vm_b2 (vm_b2 (vm_b2 (vm_hG ho) rfl) rfl) rfl) ?_
      exact vm_J.end vm_q28 (en := (64, .return_, 1, [], .null)) rfl rfl vm_rV (Nat.zero_le _) (Nat.zero_le _) rfl
    · rw [((vm_ps ((congrFun (vm_rm_o I a b e (n - 1 - e) o hoa hob) 0).trans hn) (rfl : (1 : Int32) = nI 1) (by omega)) : ((vm_rm I a b e (n - 1 - e)) o 0) - 1 = nI (n - 1))] at c2
      have c2 := vm_ge_f (a := e + (n - 1 - e)) (b := n - 1) (by omega) (by omega) c2
      exact (show False by omega).elim
/-- the nearest of the first j, without those that are left out -/
def sp_nr (far : Nat → Int32) (ex : Nat → Prop) [DecidablePred ex] : Nat → Option Nat
  | 0 => none
  | j + 1 => match sp_nr far ex j with
    | none => if ex j then none else some j
    | some q => if ex j then some q else if far j < far q then some j else some q
def sp_ni : Option Nat → Int32
  | none => -5
  | some q => nI q
def sp_nl (far : Nat → Int32) : Option Nat → Int32
  | none => 0
  | some q => far q
theorem sp_nr_n1 {far : Nat → Int32} {ex : Nat → Prop} [DecidablePred ex] {j : Nat} (h : sp_nr far ex j = none) (h1 : ex j) : sp_nr far ex (j + 1) = none := by simp [sp_nr, h, h1]
theorem sp_nr_n2 {far : Nat → Int32} {ex : Nat → Prop} [DecidablePred ex] {j : Nat} (h : sp_nr far ex j = none) (h1 : ¬ ex j) : sp_nr far ex (j + 1) = some j := by simp [sp_nr, h, h1]
theorem sp_nr_s1 {far : Nat → Int32} {ex : Nat → Prop} [DecidablePred ex] {j q : Nat} (h : sp_nr far ex j = some q) (h1 : ex j) : sp_nr far ex (j + 1) = some q := by simp [sp_nr, h, h1]
theorem sp_nr_s2 {far : Nat → Int32} {ex : Nat → Prop} [DecidablePred ex] {j q : Nat} (h : sp_nr far ex j = some q) (h1 : ¬ ex j) (h2 : far j < far q) : sp_nr far ex (j + 1) = some j := by simp [sp_nr, h, h1, h2]
theorem sp_nr_s3 {far : Nat → Int32} {ex : Nat → Prop} [DecidablePred ex] {j q : Nat} (h : sp_nr far ex j = some q) (h1 : ¬ ex j) (h2 : ¬ far j < far q) : sp_nr far ex (j + 1) = some q := by simp [sp_nr, h, h1, h2]
theorem sp_nr_lt {far : Nat → Int32} {ex : Nat → Prop} [DecidablePred ex] : ∀ {j q : Nat}, sp_nr far ex j = some q → q < j
  | 0, q, h => by simp [sp_nr] at h
  | j + 1, q, h => by
    unfold sp_nr at h
    split at h
    · split at h
      · cases h
      · cases h
        exact Nat.lt_succ_self _
    · rename_i p hp
      have ih := sp_nr_lt hp
      split at h
      · cases h
        exact Nat.lt_succ_of_lt ih
      · split at h
        · cases h
          exact Nat.lt_succ_self _
        · cases h
          exact Nat.lt_succ_of_lt ih
theorem vm_ne5 {q : Nat} (h : q < 2147483648) : ¬ nI q = -5 := by
  intro e
  have h1 := nI_toInt (n := q) h
  rw [e] at h1
  have h2 : ((-5 : Int32)).toInt = -5 := by decide
  omega
theorem vm_nle_lt {a b : Int32} (h : b ≤ a) : ¬ a < b := by
  rw [Int32.le_iff_toInt_le] at h
  rw [Int32.lt_iff_toInt_lt]
  omega
theorem vm_nge_lt {a b : Int32} (h : ¬ b ≤ a) : a < b := by
  rw [Int32.le_iff_toInt_le] at h
  rw [Int32.lt_iff_toInt_lt]
  omega
set_option maxHeartbeats 4000000 in
set_option maxRecDepth 20000 in
/-- DitherDesk$Palette.nearestTo  -/
theorem m_Pal_nearestTo {l : Launch} {X : vm_Cx} {G : List vm_Sh} {I : Nat → Nat → Int32} {F : Nat → Nat → UInt32} {o a b n : Nat} {c m x : Int32} (ho : G[o]? = some (4, 3, [.int 0, .ref a, .ref b])) (ha : G[a]? = some (0, 16, [])) (hn : I o 0 = nI n) (hn2 : n ≤ 16) : vm_K l X vm_M30 [.ref o, .int c, .int m, .int x] (G, I, F) (some (.int (sp_ni (sp_nr (fun k => sp_far m c (I a k)) (fun k => nI k = x) n)))) (G, I, F) := by
  refine vm_K.mk (by decide) (Nat.le_of_ble_eq_true rfl) ?_
  show vm_J _ _ _ (0, (0, 0), [.ref o, .int c, .int m, .int x, .retAddr 0, .retAddr 0, .retAddr 0, .retAddr 0], []) _ _ _
  refine vm_J.go vm_q30 (k := 6) (hs := []) (f' := (10, (0, 0), [.ref o, .int c, .int m, .int x, .int (-5), .int 0, .int 0, .retAddr 0], [])) (h' := (G, I, F)) (hs' := []) rfl rfl ?_
  refine vm_J.cnt n (fun j => (10, (0, 0), [.ref o, .int c, .int m, .int x, .int (sp_ni (sp_nr (fun k => sp_far m c (I a k)) (fun k => nI k = x) j)), .int (sp_nl (fun k => sp_far m c (I a k)) (sp_nr (fun k => sp_far m c (I a k)) (fun k => nI k = x) j)), .int (nI j), .retAddr 0], [])) (fun j => (G, I, F)) (fun _ => True) rfl rfl trivial (fun j hj pj ij => ?_) (fun pj => ?_)
  · show vm_J _ _ _ (10, (0, 0), [.ref o, .int c, .int m, .int x, .int (sp_ni (sp_nr (fun k => sp_far m c (I a k)) (fun k => nI k = x) j)), .int (sp_nl (fun k => sp_far m c (I a k)) (sp_nr (fun k => sp_far m c (I a k)) (fun k => nI k = x) j)), .int (nI j), .retAddr 0], []) (G, I, F) _ _
    rcases hb : (sp_nr (fun k => sp_far m c (I a k)) (fun k => nI k = x) j) with _ | q
    · show vm_J _ _ _ (10, (0, 0), [.ref o, .int c, .int m, .int x, .int (-5), .int 0, .int (nI j), .retAddr 0], []) (G, I, F) _ _
      refine vm_J.go vm_q30 (k := 4) (hs := [(4, 3, [.int 0, .ref a, .ref b])]) (f' := (bif vm_ic .ge (nI j) (I o 0) then 69 else 19, (0, 0), [.ref o, .int c, .int m, .int x, .int (-5), .int 0, .int (nI j), .retAddr 0], [])) (h' := (G, I, F)) (hs' := []) rfl (vm_b2 rfl (vm_b2 rfl (vm_b2 (vm_b2 (vm_hG ho) rfl) (vm_b2 rfl rfl)))) ?_
      refine vm_J.br (fun c1 => ?_) (fun c1 => ?_)
      · rw [(hn : I o 0 = nI n)] at c1
        have c1 := vm_ge_t (a := j) (b := n) (by omega) (by omega) c1
        exact (show False by omega).elim
      · rw [(hn : I o 0 = nI n)] at c1
        have c1 := vm_ge_f (a := j) (b := n) (by omega) (by omega) c1
        refine vm_J.go vm_q30 (k := 3) (hs := []) (f' := (bif vm_ic .ne (nI j) x then 28 else 25, (0, 0), [.ref o, .int c, .int m, .int x, .int (-5), .int 0, .int (nI j), .retAddr 0], [])) (h' := (G, I, F)) (hs' := []) rfl rfl ?_
        refine vm_J.br (fun c2 => ?_) (fun c2 => ?_)
        · have c2 : ¬ (nI j) = x := of_decide_eq_true c2
          refine vm_J.go vm_q30 (k := 4) (hs := []) (f' := (33, (0, 0), [.ref o, .int c, .int m, .int x, .int (-5), .int 0, .int (nI j), .retAddr 0], [.int (nI j), .ref o, .int c, .int m])) (h' := (G, I, F)) (hs' := []) rfl rfl ?_
          refine vm_J.call vm_q30 (Z := vm_M23) (n := 1) (k := 0) (mi := 23) (pc := 33) (en := (33, .invokevirtual 30, 3, [23, 627, 0], .null)) rfl trivial rfl rfl vm_z23 (av := [.ref o, .int (nI j)]) (rest := [.int c, .int m]) (m_Pal_colourOf (j := j) ho ha (by omega)) ⟨_, _, rfl, rfl, _, 2, _, ho, rfl, rfl, rfl⟩ (Nat.le_of_ble_eq_true rfl) ⟨Nat.le_of_ble_eq_true rfl, Nat.le_of_ble_eq_true rfl⟩ ⟨Nat.le_of_ble_eq_true rfl, Nat.le_of_ble_eq_true rfl⟩ ?_
          show vm_J _ _ _ (36, (0, 0), [.ref o, .int c, .int m, .int x, .int (-5), .int 0, .int (nI j), .retAddr 0], [.int (I a j), .int c, .int m]) (G, I, F) _ _
          refine vm_J.call vm_q30 (Z := vm_M165) (n := 3) (k := 1) (mi := 165) (pc := 36) (en := (36, .invokestatic 53, 3, [165, 765, 1], .null)) rfl trivial rfl rfl vm_z165 (av := [.int m, .int c, .int (I a j)]) (rest := []) (m_farBetween (m := m) (x := c) (y := I a j)) rfl (Nat.le_of_ble_eq_true rfl) ⟨Nat.le_of_ble_eq_true rfl, Nat.le_of_ble_eq_true rfl⟩ ⟨Nat.le_of_ble_eq_true rfl, Nat.le_of_ble_eq_true rfl⟩ ?_
          show vm_J _ _ _ (39, (0, 0), [.ref o, .int c, .int m, .int x, .int (-5), .int 0, .int (nI j), .retAddr 0], [.int (sp_far m c (I a j))]) (G, I, F) _ _
          refine vm_J.go vm_q30 (k := 4) (hs := []) (f' := (bif vm_ic .eq (-5) (-5) then 55 else 48, (0, 0), [.ref o, .int c, .int m, .int x, .int (-5), .int 0, .int (nI j), .int (sp_far m c (I a j))], [])) (h' := (G, I, F)) (hs' := []) rfl rfl ?_
          refine vm_J.bT (by decide) ?_
          refine vm_J.go vm_q30 (k := 6) (hs := []) (f' := (10, (0, 0), [.ref o, .int c, .int m, .int x, .int (nI j), .int (sp_far m c (I a j)), .int ((nI j) + 1), .int (sp_far m c (I a j))], [])) (h' := (G, I, F)) (hs' := []) rfl rfl ?_
          rw [((vm_pa (rfl : nI j = nI j) (rfl : (1 : Int32) = nI 1)) : (nI j) + 1 = nI (j + 1))]
          refine vm_J.mask [true, true, true, true, true, true, true, false] ?_
          show vm_J _ _ _ (10, (0, 0), [.ref o, .int c, .int m, .int x, .int (nI j), .int (sp_far m c (I a j)), .int (nI (j + 1)), .retAddr 0], []) (G, I, F) _ _
          have z := ij trivial
          rw [show (sp_nr (fun k => sp_far m c (I a k)) (fun k => nI k = x) (j + 1)) = some j from by first | exact sp_nr_n1 hb c1 | exact sp_nr_n2 hb c1 | exact sp_nr_s1 hb c1 | exact sp_nr_s2 hb c1 (vm_nge_lt c1) | exact sp_nr_s3 hb c1 (vm_nle_lt c1) | exact sp_nr_s2 hb c1 (vm_nge_lt c2) | exact sp_nr_s3 hb c1 (vm_nle_lt c2) | exact sp_nr_n1 hb c2 | exact sp_nr_n2 hb c2 | exact sp_nr_s1 hb c2 | exact sp_nr_s2 hb c2 (vm_nge_lt c1) | exact sp_nr_s3 hb c2 (vm_nle_lt c1) | exact sp_nr_s2 hb c2 (vm_nge_lt c2) | exact sp_nr_s3 hb c2 (vm_nle_lt c2)] at z
          exact z
        · have c2 : (nI j) = x := Decidable.of_not_not (of_decide_eq_false c2)
          refine vm_J.go vm_q30 (k := 3) (hs := []) (f' := (10, (0, 0), [.ref o, .int c, .int m, .int x, .int (-5), .int 0, .int ((nI j) + 1), .retAddr 0], [])) (h' := (G, I, F)) (hs' := []) rfl rfl ?_
          rw [((vm_pa (rfl : nI j = nI j) (rfl : (1 : Int32) = nI 1)) : (nI j) + 1 = nI (j + 1))]
          have z := ij trivial
          rw [show (sp_nr (fun k => sp_far m c (I a k)) (fun k => nI k = x) (j + 1)) = none from by first | exact sp_nr_n1 hb c1 | exact sp_nr_n2 hb c1 | exact sp_nr_s1 hb c1 | exact sp_nr_s2 hb c1 (vm_nge_lt c1) | exact sp_nr_s3 hb c1 (vm_nle_lt c1) | exact sp_nr_s2 hb c1 (vm_nge_lt c2) | exact sp_nr_s3 hb c1 (vm_nle_lt c2) | exact sp_nr_n1 hb c2 | exact sp_nr_n2 hb c2 | exact sp_nr_s1 hb c2 | exact sp_nr_s2 hb c2 (vm_nge_lt c1) | exact sp_nr_s3 hb c2 (vm_nle_lt c1) | exact sp_nr_s2 hb c2 (vm_nge_lt c2) | exact sp_nr_s3 hb c2 (vm_nle_lt c2)] at z
          exact z
    · have hq := sp_nr_lt hb
      show vm_J _ _ _ (10, (0, 0), [.ref o, .int c, .int m, .int x, .int (nI q), .int (sp_far m c (I a q)), .int (nI j), .retAddr 0], []) (G, I, F) _ _
      refine vm_J.go vm_q30 (k := 4) (hs := [(4, 3, [.int 0, .ref a, .ref b])]) (f' := (bif vm_ic .ge (nI j) (I o 0) then 69 else 19, (0, 0), [.ref o, .int c, .int m, .int x, .int (nI q), .int (sp_far m c (I a q)), .int (nI j), .retAddr 0], [])) (h' := (G, I, F)) (hs' := []) rfl (vm_b2 rfl (vm_b2 rfl (vm_b2 (vm_b2 (vm_hG ho) rfl) (vm_b2 rfl rfl)))) ?_
      refine vm_J.br (fun c3 => ?_) (fun c3 => ?_)
      · rw [(hn : I o 0 = nI n)] at c3
        have c3 := vm_ge_t (a := j) (b := n) (by omega) (by omega) c3
        exact (show False by omega).elim
      · rw [(hn : I o 0 = nI n)] at c3
        have c3 := vm_ge_f (a := j) (b := n) (by omega) (by omega) c3
        refine vm_J.go vm_q30 (k := 3) (hs := []) (f' := (bif vm_ic .ne (nI j) x then 28 else 25, (0, 0), [.ref o, .int c, .int m, .int x, .int (nI q), .int (sp_far m c (I a q)), .int (nI j), .retAddr 0], [])) (h' := (G, I, F)) (hs' := []) rfl rfl ?_
        refine vm_J.br (fun c4 => ?_) (fun c4 => ?_)
        · have c4 : ¬ (nI j) = x := of_decide_eq_true c4
          refine vm_J.go vm_q30 (k := 4) (hs := []) (f' := (33, (0, 0), [.ref o, .int c, .int m, .int x, .int (nI q), .int (sp_far m c (I a q)), .int (nI j), .retAddr 0], [.int (nI j), .ref o, .int c, .int m])) (h' := (G, I, F)) (hs' := []) rfl rfl ?_
          refine vm_J.call vm_q30 (Z := vm_M23) (n := 1) (k := 0) (mi := 23) (pc := 33) (en := (33, .invokevirtual 30, 3, [23, 627, 0], .null)) rfl trivial rfl rfl vm_z23 (av := [.ref o, .int (nI j)]) (rest := [.int c, .int m]) (m_Pal_colourOf (j := j) ho ha (by omega)) ⟨_, _, rfl, rfl, _, 2, _, ho, rfl, rfl, rfl⟩ (Nat.le_of_ble_eq_true rfl) ⟨Nat.le_of_ble_eq_true rfl, Nat.le_of_ble_eq_true rfl⟩ ⟨Nat.le_of_ble_eq_true rfl, Nat.le_of_ble_eq_true rfl⟩ ?_
          show vm_J _ _ _ (36, (0, 0), [.ref o, .int c, .int m, .int x, .int (nI q), .int (sp_far m c (I a q)), .int (nI j), .retAddr 0], [.int (I a j), .int c, .int m]) (G, I, F) _ _
          refine vm_J.call vm_q30 (Z := vm_M165) (n := 3) (k := 1) (mi := 165) (pc := 36) (en := (36, .invokestatic 53, 3, [165, 765, 1], .null)) rfl trivial rfl rfl vm_z165 (av := [.int m, .int c, .int (I a j)]) (rest := []) (m_farBetween (m := m) (x := c) (y := I a j)) rfl (Nat.le_of_ble_eq_true rfl) ⟨Nat.le_of_ble_eq_true rfl, Nat.le_of_ble_eq_true rfl⟩ ⟨Nat.le_of_ble_eq_true rfl, Nat.le_of_ble_eq_true rfl⟩ ?_
          show vm_J _ _ _ (39, (0, 0), [.ref o, .int c, .int m, .int x, .int (nI q), .int (sp_far m c (I a q)), .int (nI j), .retAddr 0], [.int (sp_far m c (I a j))]) (G, I, F) _ _
          refine vm_J.go vm_q30 (k := 4) (hs := []) (f' := (bif vm_ic .eq (nI q) (-5) then 55 else 48, (0, 0), [.ref o, .int c, .int m, .int x, .int (nI q), .int (sp_far m c (I a q)), .int (nI j), .int (sp_far m c (I a j))], [])) (h' := (G, I, F)) (hs' := []) rfl rfl ?_
          refine vm_J.br (fun c5 => ?_) (fun c5 => ?_)
          · have c5 : (nI q) = (-5) := of_decide_eq_true c5
            exact absurd c5 (vm_ne5 (by omega))
          · have c5 : ¬ ((nI q) = (-5)) := of_decide_eq_false c5
            refine vm_J.go vm_q30 (k := 3) (hs := []) (f' := (bif vm_ic .ge (sp_far m c (I a j)) (sp_far m c (I a q)) then 63 else 55, (0, 0), [.ref o, .int c, .int m, .int x, .int (nI q), .int (sp_far m c (I a q)), .int (nI j), .int (sp_far m c (I a j))], [])) (h' := (G, I, F)) (hs' := []) rfl rfl ?_
            refine vm_J.br (fun c6 => ?_) (fun c6 => ?_)
            · have c6 : (sp_far m c (I a q)) ≤ (sp_far m c (I a j)) := of_decide_eq_true c6
              refine vm_J.go vm_q30 (k := 2) (hs := []) (f' := (10, (0, 0), [.ref o, .int c, .int m, .int x, .int (nI q), .int (sp_far m c (I a q)), .int ((nI j) + 1), .int (sp_far m c (I a j))], [])) (h' := (G, I, F)) (hs' := []) rfl rfl ?_
              rw [((vm_pa (rfl : nI j = nI j) (rfl : (1 : Int32) = nI 1)) : (nI j) + 1 = nI (j + 1))]
              refine vm_J.mask [true, true, true, true, true, true, true, false] ?_
              show vm_J _ _ _ (10, (0, 0), [.ref o, .int c, .int m, .int x, .int (nI q), .int (sp_far m c (I a q)), .int (nI (j + 1)), .retAddr 0], []) (G, I, F) _ _
              have z := ij trivial
              rw [show (sp_nr (fun k => sp_far m c (I a k)) (fun k => nI k = x) (j + 1)) = some q from by first | exact sp_nr_n1 hb c3 | exact sp_nr_n2 hb c3 | exact sp_nr_s1 hb c3 | exact sp_nr_s2 hb c3 (vm_nge_lt c3) | exact sp_nr_s3 hb c3 (vm_nle_lt c3) | exact sp_nr_s2 hb c3 (vm_nge_lt c4) | exact sp_nr_s3 hb c3 (vm_nle_lt c4) | exact sp_nr_s2 hb c3 (vm_nge_lt c5) | exact sp_nr_s3 hb c3 (vm_nle_lt c5) | exact sp_nr_s2 hb c3 (vm_nge_lt c6) | exact sp_nr_s3 hb c3 (vm_nle_lt c6) | exact sp_nr_n1 hb c4 | exact sp_nr_n2 hb c4 | exact sp_nr_s1 hb c4 | exact sp_nr_s2 hb c4 (vm_nge_lt c3) | exact sp_nr_s3 hb c4 (vm_nle_lt c3) | exact sp_nr_s2 hb c4 (vm_nge_lt c4) | exact sp_nr_s3 hb c4 (vm_nle_lt c4) | exact sp_nr_s2 hb c4 (vm_nge_lt c5) | exact sp_nr_s3 hb c4 (vm_nle_lt c5) | exact sp_nr_s2 hb c4 (vm_nge_lt c6) | exact sp_nr_s3 hb c4 (vm_nle_lt c6) | exact sp_nr_n1 hb c5 | exact sp_nr_n2 hb c5 | exact sp_nr_s1 hb c5 | exact sp_nr_s2 hb c5 (vm_nge_lt c3) | exact sp_nr_s3 hb c5 (vm_nle_lt c3) | exact sp_nr_s2 hb c5 (vm_nge_lt c4) | exact sp_nr_s3 hb c5 (vm_nle_lt c4) | exact sp_nr_s2 hb c5 (vm_nge_lt c5) | exact sp_nr_s3 hb c5 (vm_nle_lt c5) | exact sp_nr_s2 hb c5 (vm_nge_lt c6) | exact sp_nr_s3 hb c5 (vm_nle_lt c6) | exact sp_nr_n1 hb c6 | exact sp_nr_n2 hb c6 | exact sp_nr_s1 hb c6 | exact sp_nr_s2 hb c6 (vm_nge_lt c3) | exact sp_nr_s3 hb c6 (vm_nle_lt c3) | exact sp_nr_s2 hb c6 (vm_nge_lt c4) | exact sp_nr_s3 hb c6 (vm_nle_lt c4) | exact sp_nr_s2 hb c6 (vm_nge_lt c5) | exact sp_nr_s3 hb c6 (vm_nle_lt c5) | exact sp_nr_s2 hb c6 (vm_nge_lt c6) | exact sp_nr_s3 hb c6 (vm_nle_lt c6)] at z
              exact z
            · have c6 : ¬ ((sp_far m c (I a q)) ≤ (sp_far m c (I a j))) := of_decide_eq_false c6
              refine vm_J.go vm_q30 (k := 6) (hs := []) (f' := (10, (0, 0), [.ref o, .int c, .int m, .int x, .int (nI j), .int (sp_far m c (I a j)), .int ((nI j) + 1), .int (sp_far m c (I a j))], [])) (h' := (G, I, F)) (hs' := []) rfl rfl ?_
              rw [((vm_pa (rfl : nI j = nI j) (rfl : (1 : Int32) = nI 1)) : (nI j) + 1 = nI (j + 1))]
              refine vm_J.mask [true, true, true, true, true, true, true, false] ?_
              show vm_J _ _ _ (10, (0, 0), [.ref o, .int c, .int m, .int x, .int (nI j), .int (sp_far m c (I a j)), .int (nI (j + 1)), .retAddr 0], []) (G, I, F) _ _
              have z := ij trivial
              rw [show (sp_nr (fun k => sp_far m c (I a k)) (fun k => nI k = x) (j + 1)) = some j from by first | exact sp_nr_n1 hb c3 | exact sp_nr_n2 hb c3 | exact sp_nr_s1 hb c3 | exact sp_nr_s2 hb c3 (vm_nge_lt c3) | exact sp_nr_s3 hb c3 (vm_nle_lt c3) | exact sp_nr_s2 hb c3 (vm_nge_lt c4) | exact sp_nr_s3 hb c3 (vm_nle_lt c4) | exact sp_nr_s2 hb c3 (vm_nge_lt c5) | exact sp_nr_s3 hb c3 (vm_nle_lt c5) | exact sp_nr_s2 hb c3 (vm_nge_lt c6) | exact sp_nr_s3 hb c3 (vm_nle_lt c6) | exact sp_nr_n1 hb c4 | exact sp_nr_n2 hb c4 | exact sp_nr_s1 hb c4 | exact sp_nr_s2 hb c4 (vm_nge_lt c3) | exact sp_nr_s3 hb c4 (vm_nle_lt c3) | exact sp_nr_s2 hb c4 (vm_nge_lt c4) | exact sp_nr_s3 hb c4 (vm_nle_lt c4) | exact sp_nr_s2 hb c4 (vm_nge_lt c5) | exact sp_nr_s3 hb c4 (vm_nle_lt c5) | exact sp_nr_s2 hb c4 (vm_nge_lt c6) | exact sp_nr_s3 hb c4 (vm_nle_lt c6) | exact sp_nr_n1 hb c5 | exact sp_nr_n2 hb c5 | exact sp_nr_s1 hb c5 | exact sp_nr_s2 hb c5 (vm_nge_lt c3) | exact sp_nr_s3 hb c5 (vm_nle_lt c3) | exact sp_nr_s2 hb c5 (vm_nge_lt c4) | exact sp_nr_s3 hb c5 (vm_nle_lt c4) | exact sp_nr_s2 hb c5 (vm_nge_lt c5) | exact sp_nr_s3 hb c5 (vm_nle_lt c5) | exact sp_nr_s2 hb c5 (vm_nge_lt c6) | exact sp_nr_s3 hb c5 (vm_nle_lt c6) | exact sp_nr_n1 hb c6 | exact sp_nr_n2 hb c6 | exact sp_nr_s1 hb c6 | exact sp_nr_s2 hb c6 (vm_nge_lt c3) | exact sp_nr_s3 hb c6 (vm_nle_lt c3) | exact sp_nr_s2 hb c6 (vm_nge_lt c4) | exact sp_nr_s3 hb c6 (vm_nle_lt c4) | exact sp_nr_s2 hb c6 (vm_nge_lt c5) | exact sp_nr_s3 hb c6 (vm_nle_lt c5) | exact sp_nr_s2 hb c6 (vm_nge_lt c6) | exact sp_nr_s3 hb c6 (vm_nle_lt c6)] at z
              exact z
        · have c4 : (nI j) = x := Decidable.of_not_not (of_decide_eq_false c4)
          refine vm_J.go vm_q30 (k := 3) (hs := []) (f' := (10, (0, 0), [.ref o, .int c, .int m, .int x, .int (nI q), .int (sp_far m c (I a q)), .int ((nI j) + 1), .retAddr 0], [])) (h' := (G, I, F)) (hs' := []) rfl rfl ?_
          rw [((vm_pa (rfl : nI j = nI j) (rfl : (1 : Int32) = nI 1)) : (nI j) + 1 = nI (j + 1))]
          have z := ij trivial
          rw [show (sp_nr (fun k => sp_far m c (I a k)) (fun k => nI k = x) (j + 1)) = some q from by first | exact sp_nr_n1 hb c3 | exact sp_nr_n2 hb c3 | exact sp_nr_s1 hb c3 | exact sp_nr_s2 hb c3 (vm_nge_lt c3) | exact sp_nr_s3 hb c3 (vm_nle_lt c3) | exact sp_nr_s2 hb c3 (vm_nge_lt c4) | exact sp_nr_s3 hb c3 (vm_nle_lt c4) | exact sp_nr_n1 hb c4 | exact sp_nr_n2 hb c4 | exact sp_nr_s1 hb c4 | exact sp_nr_s2 hb c4 (vm_nge_lt c3) | exact sp_nr_s3 hb c4 (vm_nle_lt c3) | exact sp_nr_s2 hb c4 (vm_nge_lt c4) | exact sp_nr_s3 hb c4 (vm_nle_lt c4)] at z
          exact z
  · show vm_J _ _ _ (10, (0, 0), [.ref o, .int c, .int m, .int x, .int (sp_ni (sp_nr (fun k => sp_far m c (I a k)) (fun k => nI k = x) n)), .int (sp_nl (fun k => sp_far m c (I a k)) (sp_nr (fun k => sp_far m c (I a k)) (fun k => nI k = x) n)), .int (nI n), .retAddr 0], []) (G, I, F) _ _
    refine vm_J.go vm_q30 (k := 4) (hs := [(4, 3, [.int 0, .ref a, .ref b])]) (f' := (bif vm_ic .ge (nI n) (I o 0) then 69 else 19, (0, 0), [.ref o, .int c, .int m, .int x, .int (sp_ni (sp_nr (fun k => sp_far m c (I a k)) (fun k => nI k = x) n)), .int (sp_nl (fun k => sp_far m c (I a k)) (sp_nr (fun k => sp_far m c (I a k)) (fun k => nI k = x) n)), .int (nI n), .retAddr 0], [])) (h' := (G, I, F)) (hs' := []) rfl (vm_b2 rfl (vm_b2 rfl (vm_b2 (vm_b2 (vm_hG ho) rfl) (vm_b2 rfl rfl)))) ?_
    refine vm_J.br (fun c7 => ?_) (fun c7 => ?_)
    · rw [(hn : I o 0 = nI n)] at c7
      have c7 := vm_ge_t (a := n) (b := n) (by omega) (by omega) c7
      refine vm_J.go vm_q30 (k := 1) (hs := []) (f' := (71, (0, 0), [.ref o, .int c, .int m, .int x, .int (sp_ni (sp_nr (fun k => sp_far m c (I a k)) (fun k => nI k = x) n)), .int (sp_nl (fun k => sp_far m c (I a k)) (sp_nr (fun k => sp_far m c (I a k)) (fun k => nI k = x) n)), .int (nI n), .retAddr 0], [.int (sp_ni (sp_nr (fun k => sp_far m c (I a k)) (fun k => nI k = x) n))])) (h' := (G, I, F)) (hs' := []) rfl rfl ?_
      exact vm_J.end vm_q30 (en := (71, .ireturn, 1, [], .null)) rfl rfl vm_rI (Nat.zero_le _) (Nat.zero_le _) rfl
    · rw [(hn : I o 0 = nI n)] at c7
      have c7 := vm_ge_f (a := n) (b := n) (by omega) (by omega) c7
      exact (show False by omega).elim
set_option maxHeartbeats 4000000 in
set_option maxRecDepth 20000 in
/-- DitherDesk$Palette.entriesAhead  -/
theorem m_Pal_entriesAhead {l : Launch} {X : vm_Cx} {G : List vm_Sh} {I : Nat → Nat → Int32} {F : Nat → Nat → UInt32} {o a b n e : Nat} {c m : Int32} (ho : G[o]? = some (4, 3, [.int 0, .ref a, .ref b])) (ha : G[a]? = some (0, 16, [])) (hn : I o 0 = nI n) (hn2 : n ≤ 16) (he : e < n) : vm_K l X vm_M32 [.ref o, .int (nI e), .int c, .int m] (G, I, F) (some (.int (sp_sum (fun k => if sp_far m c (I a k) < sp_far m c (I a e) ∨ sp_far m c (I a k) = sp_far m c (I a e) ∧ k < e then 1 else 0) n))) (G, I, F) := by
  refine vm_K.mk (by decide) (Nat.le_of_ble_eq_true rfl) ?_
  show vm_J _ _ _ (0, (0, 0), [.ref o, .int (nI e), .int c, .int m, .retAddr 0, .retAddr 0, .retAddr 0, .retAddr 0], []) _ _ _
  refine vm_J.go vm_q32 (k := 4) (hs := []) (f' := (4, (0, 0), [.ref o, .int (nI e), .int c, .int m, .retAddr 0, .retAddr 0, .retAddr 0, .retAddr 0], [.int (nI e), .ref o, .int c, .int m])) (h' := (G, I, F)) (hs' := []) rfl rfl ?_
  refine vm_J.call vm_q32 (Z := vm_M23) (n := 1) (k := 0) (mi := 23) (pc := 4) (en := (4, .invokevirtual 30, 3, [23, 627, 0], .null)) rfl trivial rfl rfl vm_z23 (av := [.ref o, .int (nI e)]) (rest := [.int c, .int m]) (m_Pal_colourOf (j := e) ho ha (by omega)) ⟨_, _, rfl, rfl, _, 2, _, ho, rfl, rfl, rfl⟩ (Nat.le_of_ble_eq_true rfl) ⟨Nat.le_of_ble_eq_true rfl, Nat.le_of_ble_eq_true rfl⟩ ⟨Nat.le_of_ble_eq_true rfl, Nat.le_of_ble_eq_true rfl⟩ ?_
  show vm_J _ _ _ (7, (0, 0), [.ref o, .int (nI e), .int c, .int m, .retAddr 0, .retAddr 0, .retAddr 0, .retAddr 0], [.int (I a e), .int c, .int m]) (G, I, F) _ _
  refine vm_J.call vm_q32 (Z := vm_M165) (n := 3) (k := 1) (mi := 165) (pc := 7) (en := (7, .invokestatic 53, 3, [165, 765, 1], .null)) rfl trivial rfl rfl vm_z165 (av := [.int m, .int c, .int (I a e)]) (rest := []) (m_farBetween (m := m) (x := c) (y := I a e)) rfl (Nat.le_of_ble_eq_true rfl) ⟨Nat.le_of_ble_eq_true rfl, Nat.le_of_ble_eq_true rfl⟩ ⟨Nat.le_of_ble_eq_true rfl, Nat.le_of_ble_eq_true rfl⟩ ?_
  show vm_J _ _ _ (10, (0, 0), [.ref o, .int (nI e), .int c, .int m, .retAddr 0, .retAddr 0, .retAddr 0, .retAddr 0], [.int (sp_far m c (I a e))]) (G, I, F) _ _
  refine vm_J.go vm_q32 (k := 5) (hs := []) (f' := (18, (0, 0), [.ref o, .int (nI e), .int c, .int m, .int (sp_far m c (I a e)), .int 0, .int 0, .retAddr 0], [])) (h' := (G, I, F)) (hs' := []) rfl rfl ?_
  refine vm_J.cnt n (fun j => (18, (0, 0), [.ref o, .int (nI e), .int c, .int m, .int (sp_far m c (I a e)), .int (sp_sum (fun k => if sp_far m c (I a k) < sp_far m c (I a e) ∨ sp_far m c (I a k) = sp_far m c (I a e) ∧ k < e then 1 else 0) j), .int (nI j), .retAddr 0], [])) (fun j => (G, I, F)) (fun _ => True) rfl rfl trivial (fun j hj pj ij => ?_) (fun pj => ?_)
  · show vm_J _ _ _ (18, (0, 0), [.ref o, .int (nI e), .int c, .int m, .int (sp_far m c (I a e)), .int (sp_sum (fun k => if sp_far m c (I a k) < sp_far m c (I a e) ∨ sp_far m c (I a k) = sp_far m c (I a e) ∧ k < e then 1 else 0) j), .int (nI j), .retAddr 0], []) (G, I, F) _ _
    refine vm_J.go vm_q32 (k := 4) (hs := [(4, 3, [.int 0, .ref a, .ref b])]) (f' := (bif vm_ic .ge (nI j) (I o 0) then 69 else 27, (0, 0), [.ref o, .int (nI e), .int c, .int m, .int (sp_far m c (I a e)), .int (sp_sum (fun k => if sp_far m c (I a k) < sp_far m c (I a e) ∨ sp_far m c (I a k) = sp_far m c (I a e) ∧ k < e then 1 else 0) j), .int (nI j), .retAddr 0], [])) (h' := (G, I, F)) (hs' := []) rfl (vm_b2 rfl (vm_b2 rfl (vm_b2 (vm_b2 (vm_hG ho) rfl) (vm_b2 rfl rfl)))) ?_
    refine vm_J.br (fun c1 => ?_) (fun c1 => ?_)
    · rw [(hn : I o 0 = nI n)] at c1
      have c1 := vm_ge_t (a := j) (b := n) (by omega) (by omega) c1
      exact (show False by omega).elim
    · rw [(hn : I o 0 = nI n)] at c1
      have c1 := vm_ge_f (a := j) (b := n) (by omega) (by omega) c1
      refine vm_J.go vm_q32 (k := 4) (hs := []) (f' := (32, (0, 0), [.ref o, .int (nI e), .int c, .int m, .int (sp_far m c (I a e)), .int (sp_sum (fun k => if sp_far m c (I a k) < sp_far m c (I a e) ∨ sp_far m c (I a k) = sp_far m c (I a e) ∧ k < e then 1 else 0) j), .int (nI j), .retAddr 0], [.int (nI j), .ref o, .int c, .int m])) (h' := (G, I, F)) (hs' := []) rfl rfl ?_
      refine vm_J.call vm_q32 (Z := vm_M23) (n := 1) (k := 0) (mi := 23) (pc := 32) (en := (32, .invokevirtual 30, 3, [23, 627, 0], .null)) rfl trivial rfl rfl vm_z23 (av := [.ref o, .int (nI j)]) (rest := [.int c, .int m]) (m_Pal_colourOf (j := j) ho ha (by omega)) ⟨_, _, rfl, rfl, _, 2, _, ho, rfl, rfl, rfl⟩ (Nat.le_of_ble_eq_true rfl) ⟨Nat.le_of_ble_eq_true rfl, Nat.le_of_ble_eq_true rfl⟩ ⟨Nat.le_of_ble_eq_true rfl, Nat.le_of_ble_eq_true rfl⟩ ?_
      show vm_J _ _ _ (35, (0, 0), [.ref o, .int (nI e), .int c, .int m, .int (sp_far m c (I a e)), .int (sp_sum (fun k => if sp_far m c (I a k) < sp_far m c (I a e) ∨ sp_far m c (I a k) = sp_far m c (I a e) ∧ k < e then 1 else 0) j), .int (nI j), .retAddr 0], [.int (I a j), .int c, .int m]) (G, I, F) _ _
      refine vm_J.call vm_q32 (Z := vm_M165) (n := 3) (k := 1) (mi := 165) (pc := 35) (en := (35, .invokestatic 53, 3, [165, 765, 1], .null)) rfl trivial rfl rfl vm_z165 (av := [.int m, .int c, .int (I a j)]) (rest := []) (m_farBetween (m := m) (x := c) (y := I a j)) rfl (Nat.le_of_ble_eq_true rfl) ⟨Nat.le_of_ble_eq_true rfl, Nat.le_of_ble_eq_true rfl⟩ ⟨Nat.le_of_ble_eq_true rfl, Nat.le_of_ble_eq_true rfl⟩ ?_
      show vm_J _ _ _ (38, (0, 0), [.ref o, .int (nI e), .int c, .int m, .int (sp_far m c (I a e)), .int (sp_sum (fun k => if sp_far m c (I a k) < sp_far m c (I a e) ∨ sp_far m c (I a k) = sp_far m c (I a e) ∧ k < e then 1 else 0) j), .int (nI j), .retAddr 0], [.int (sp_far m c (I a j))]) (G, I, F) _ _
      refine vm_J.go vm_q32 (k := 4) (hs := []) (f' := (bif vm_ic .lt (sp_far m c (I a j)) (sp_far m c (I a e)) then 60 else 47, (0, 0), [.ref o, .int (nI e), .int c, .int m, .int (sp_far m c (I a e)), .int (sp_sum (fun k => if sp_far m c (I a k) < sp_far m c (I a e) ∨ sp_far m c (I a k) = sp_far m c (I a e) ∧ k < e then 1 else 0) j), .int (nI j), .int (sp_far m c (I a j))], [])) (h' := (G, I, F)) (hs' := []) rfl rfl ?_
      refine vm_J.br (fun c2 => ?_) (fun c2 => ?_)
      · have c2 : (sp_far m c (I a j)) < (sp_far m c (I a e)) := of_decide_eq_true c2
        refine vm_J.go vm_q32 (k := 3) (hs := []) (f' := (18, (0, 0), [.ref o, .int (nI e), .int c, .int m, .int (sp_far m c (I a e)), .int ((sp_sum (fun k => if sp_far m c (I a k) < sp_far m c (I a e) ∨ sp_far m c (I a k) = sp_far m c (I a e) ∧ k < e then 1 else 0) j) + 1), .int ((nI j) + 1), .int (sp_far m c (I a j))], [])) (h' := (G, I, F)) (hs' := []) rfl rfl ?_
        rw [((vm_pa (rfl : nI j = nI j) (rfl : (1 : Int32) = nI 1)) : (nI j) + 1 = nI (j + 1))]
        refine vm_J.mask [true, true, true, true, true, true, true, false] ?_
        show vm_J _ _ _ (18, (0, 0), [.ref o, .int (nI e), .int c, .int m, .int (sp_far m c (I a e)), .int ((sp_sum (fun k => if sp_far m c (I a k) < sp_far m c (I a e) ∨ sp_far m c (I a k) = sp_far m c (I a e) ∧ k < e then 1 else 0) j) + 1), .int (nI (j + 1)), .retAddr 0], []) (G, I, F) _ _
        rw [show ((sp_sum (fun k => if sp_far m c (I a k) < sp_far m c (I a e) ∨ sp_far m c (I a k) = sp_far m c (I a e) ∧ k < e then 1 else 0) j) + 1 : Int32) = sp_sum (fun k => if sp_far m c (I a k) < sp_far m c (I a e) ∨ sp_far m c (I a k) = sp_far m c (I a e) ∧ k < e then 1 else 0) (j + 1) from by rw [sp_sum, if_pos (Or.inl c2)]]
        exact ij trivial
      · have c2 : ¬ ((sp_far m c (I a j)) < (sp_far m c (I a e))) := of_decide_eq_false c2
        refine vm_J.go vm_q32 (k := 3) (hs := []) (f' := (bif vm_ic .ne (sp_far m c (I a j)) (sp_far m c (I a e)) then 63 else 54, (0, 0), [.ref o, .int (nI e), .int c, .int m, .int (sp_far m c (I a e)), .int (sp_sum (fun k => if sp_far m c (I a k) < sp_far m c (I a e) ∨ sp_far m c (I a k) = sp_far m c (I a e) ∧ k < e then 1 else 0) j), .int (nI j), .int (sp_far m c (I a j))], [])) (h' := (G, I, F)) (hs' := []) rfl rfl ?_
        refine vm_J.br (fun c3 => ?_) (fun c3 => ?_)
        · have c3 : ¬ (sp_far m c (I a j)) = (sp_far m c (I a e)) := of_decide_eq_true c3
          refine vm_J.go vm_q32 (k := 2) (hs := []) (f' := (18, (0, 0), [.ref o, .int (nI e), .int c, .int m, .int (sp_far m c (I a e)), .int (sp_sum (fun k => if sp_far m c (I a k) < sp_far m c (I a e) ∨ sp_far m c (I a k) = sp_far m c (I a e) ∧ k < e then 1 else 0) j), .int ((nI j) + 1), .int (sp_far m c (I a j))], [])) (h' := (G, I, F)) (hs' := []) rfl rfl ?_
          rw [((vm_pa (rfl : nI j = nI j) (rfl : (1 : Int32) = nI 1)) : (nI j) + 1 = nI (j + 1))]
          refine vm_J.mask [true, true, true, true, true, true, true, false] ?_
          show vm_J _ _ _ (18, (0, 0), [.ref o, .int (nI e), .int c, .int m, .int (sp_far m c (I a e)), .int (sp_sum (fun k => if sp_far m c (I a k) < sp_far m c (I a e) ∨ sp_far m c (I a k) = sp_far m c (I a e) ∧ k < e then 1 else 0) j), .int (nI (j + 1)), .retAddr 0], []) (G, I, F) _ _
          rw [show (sp_sum (fun k => if sp_far m c (I a k) < sp_far m c (I a e) ∨ sp_far m c (I a k) = sp_far m c (I a e) ∧ k < e then 1 else 0) j : Int32) = sp_sum (fun k => if sp_far m c (I a k) < sp_far m c (I a e) ∨ sp_far m c (I a k) = sp_far m c (I a e) ∧ k < e then 1 else 0) (j + 1) from by rw [sp_sum, if_neg (fun z => z.elim c2 (fun y => c3 y.1))]; exact (Int32.add_zero _).symm]
          exact ij trivial
        · have c3 : (sp_far m c (I a j)) = (sp_far m c (I a e)) := Decidable.of_not_not (of_decide_eq_false c3)
          refine vm_J.go vm_q32 (k := 3) (hs := []) (f' := (bif vm_ic .ge (nI j) (nI e) then 63 else 60, (0, 0), [.ref o, .int (nI e), .int c, .int m, .int (sp_far m c (I a e)), .int (sp_sum (fun k => if sp_far m c (I a k) < sp_far m c (I a e) ∨ sp_far m c (I a k) = sp_far m c (I a e) ∧ k < e then 1 else 0) j), .int (nI j), .int (sp_far m c (I a j))], [])) (h' := (G, I, F)) (hs' := []) rfl rfl ?_
          refine vm_J.br (fun c4 => ?_) (fun c4 => ?_)
          · have c4 := vm_ge_t (a := j) (b := e) (by omega) (by omega) c4
            refine vm_J.go vm_q32 (k := 2) (hs := []) (f' := (18, (0, 0), [.ref o, .int (nI e), .int c, .int m, .int (sp_far m c (I a e)), .int (sp_sum (fun k => if sp_far m c (I a k) < sp_far m c (I a e) ∨ sp_far m c (I a k) = sp_far m c (I a e) ∧ k < e then 1 else 0) j), .int ((nI j) + 1), .int (sp_far m c (I a j))], [])) (h' := (G, I, F)) (hs' := []) rfl rfl ?_
            rw [((vm_pa (rfl : nI j = nI j) (rfl : (1 : Int32) = nI 1)) : (nI j) + 1 = nI (j + 1))]
            refine vm_J.mask [true, true, true, true, true, true, true, false] ?_
            show vm_J _ _ _ (18, (0, 0), [.ref o, .int (nI e), .int c, .int m, .int (sp_far m c (I a e)), .int (sp_sum (fun k => if sp_far m c (I a k) < sp_far m c (I a e) ∨ sp_far m c (I a k) = sp_far m c (I a e) ∧ k < e then 1 else 0) j), .int (nI (j + 1)), .retAddr 0], []) (G, I, F) _ _
            rw [show (sp_sum (fun k => if sp_far m c (I a k) < sp_far m c (I a e) ∨ sp_far m c (I a k) = sp_far m c (I a e) ∧ k < e then 1 else 0) j : Int32) = sp_sum (fun k => if sp_far m c (I a k) < sp_far m c (I a e) ∨ sp_far m c (I a k) = sp_far m c (I a e) ∧ k < e then 1 else 0) (j + 1) from by rw [sp_sum, if_neg (fun z => z.elim c2 (fun y => absurd y.2 (by omega)))]; exact (Int32.add_zero _).symm]
            exact ij trivial
          · have c4 := vm_ge_f (a := j) (b := e) (by omega) (by omega) c4
            refine vm_J.go vm_q32 (k := 3) (hs := []) (f' := (18, (0, 0), [.ref o, .int (nI e), .int c, .int m, .int (sp_far m c (I a e)), .int ((sp_sum (fun k => if sp_far m c (I a k) < sp_far m c (I a e) ∨ sp_far m c (I a k) = sp_far m c (I a e) ∧ k < e then 1 else 0) j) + 1), .int ((nI j) + 1), .int (sp_far m c (I a j))], [])) (h' := (G, I, F)) (hs' := []) rfl rfl ?_
            rw [((vm_pa (rfl : nI j = nI j) (rfl : (1 : Int32) = nI 1)) : (nI j) + 1 = nI (j + 1))]
            refine vm_J.mask [true, true, true, true, true, true, true, false] ?_
            show vm_J _ _ _ (18, (0, 0), [.ref o, .int (nI e), .int c, .int m, .int (sp_far m c (I a e)), .int ((sp_sum (fun k => if sp_far m c (I a k) < sp_far m c (I a e) ∨ sp_far m c (I a k) = sp_far m c (I a e) ∧ k < e then 1 else 0) j) + 1), .int (nI (j + 1)), .retAddr 0], []) (G, I, F) _ _
            rw [show ((sp_sum (fun k => if sp_far m c (I a k) < sp_far m c (I a e) ∨ sp_far m c (I a k) = sp_far m c (I a e) ∧ k < e then 1 else 0) j) + 1 : Int32) = sp_sum (fun k => if sp_far m c (I a k) < sp_far m c (I a e) ∨ sp_far m c (I a k) = sp_far m c (I a e) ∧ k < e then 1 else 0) (j + 1) from by rw [sp_sum, if_pos (Or.inr ⟨c3, c4⟩)]]
            exact ij trivial
  · show vm_J _ _ _ (18, (0, 0), [.ref o, .int (nI e), .int c, .int m, .int (sp_far m c (I a e)), .int (sp_sum (fun k => if sp_far m c (I a k) < sp_far m c (I a e) ∨ sp_far m c (I a k) = sp_far m c (I a e) ∧ k < e then 1 else 0) n), .int (nI n), .retAddr 0], []) (G, I, F) _ _
    refine vm_J.go vm_q32 (k := 4) (hs := [(4, 3, [.int 0, .ref a, .ref b])]) (f' := (bif vm_ic .ge (nI n) (I o 0) then 69 else 27, (0, 0), [.ref o, .int (nI e), .int c, .int m, .int (sp_far m c (I a e)), .int (sp_sum (fun k => if sp_far m c (I a k) < sp_far m c (I a e) ∨ sp_far m c (I a k) = sp_far m c (I a e) ∧ k < e then 1 else 0) n), .int (nI n), .retAddr 0], [])) (h' := (G, I, F)) (hs' := []) rfl (vm_b2 rfl (vm_b2 rfl (vm_b2 (vm_b2 (vm_hG ho) rfl) (vm_b2 rfl rfl)))) ?_
    refine vm_J.br (fun c5 => ?_) (fun c5 => ?_)
    · rw [(hn : I o 0 = nI n)] at c5
      have c5 := vm_ge_t (a := n) (b := n) (by omega) (by omega) c5
      refine vm_J.go vm_q32 (k := 1) (hs := []) (f' := (71, (0, 0), [.ref o, .int (nI e), .int c, .int m, .int (sp_far m c (I a e)), .int (sp_sum (fun k => if sp_far m c (I a k) < sp_far m c (I a e) ∨ sp_far m c (I a k) = sp_far m c (I a e) ∧ k < e then 1 else 0) n), .int (nI n), .retAddr 0], [.int (sp_sum (fun k => if sp_far m c (I a k) < sp_far m c (I a e) ∨ sp_far m c (I a k) = sp_far m c (I a e) ∧ k < e then 1 else 0) n)])) (h' := (G, I, F)) (hs' := []) rfl rfl ?_
      exact vm_J.end vm_q32 (en := (71, .ireturn, 1, [], .null)) rfl rfl vm_rI (Nat.zero_le _) (Nat.zero_le _) rfl
    · rw [(hn : I o 0 = nI n)] at c5
      have c5 := vm_ge_f (a := n) (b := n) (by omega) (by omega) c5
      exact (show False by omega).elim
/-- how many entries are ahead of one -/
def sp_ah (f : Nat → Int32) (n e : Nat) : Int32 := sp_sum (fun k => if f k < f e ∨ f k = f e ∧ k < e then 1 else 0) n
/-- the first that is so, else another answer -/
def sp_fo (p : Nat → Prop) [DecidablePred p] (n : Nat) (z : Int32) : Int32 := if sp_fi p n < n then nI (sp_fi p n) else z
theorem sp_fo_hit {p : Nat → Prop} [DecidablePred p] {n j : Nat} {z : Int32} (hj : j < n) (h : ∀ k, k < j → ¬ p k) (hp : p j) : sp_fo p n z = nI j := by
  unfold sp_fo
  rw [sp_fi_hit hj h hp, if_pos hj]
theorem sp_fo_none {p : Nat → Prop} [DecidablePred p] {n : Nat} {z : Int32} (h : ∀ k, k < n → ¬ p k) : sp_fo p n z = z := by
  unfold sp_fo
  rw [sp_fi_none h, if_neg (Nat.lt_irrefl n)]
set_option maxHeartbeats 4000000 in
set_option maxRecDepth 20000 in
/-- DitherDesk$Palette.nextNearest  -/
theorem m_Pal_nextNearest {l : Launch} {X : vm_Cx} {G : List vm_Sh} {I : Nat → Nat → Int32} {F : Nat → Nat → UInt32} {o a b n : Nat} {c m v : Int32} (ho : G[o]? = some (4, 3, [.int 0, .ref a, .ref b])) (ha : G[a]? = some (0, 16, [])) (hn : I o 0 = nI n) (hn2 : n ≤ 16) : vm_K l X vm_M31 [.ref o, .int c, .int v, .int m] (G, I, F) (some (.int (sp_fo (fun e => sp_ah (fun k => sp_far m c (I a k)) n e = v) n (-5)))) (G, I, F) := by
  refine vm_K.mk (by decide) (Nat.le_of_ble_eq_true rfl) ?_
  show vm_J _ _ _ (0, (0, 0), [.ref o, .int c, .int v, .int m, .retAddr 0], []) _ _ _
  refine vm_J.go vm_q31 (k := 2) (hs := []) (f' := (3, (0, 0), [.ref o, .int c, .int v, .int m, .int 0], [])) (h' := (G, I, F)) (hs' := []) rfl rfl ?_
  refine vm_J.cnt n (fun j => (3, (0, 0), [.ref o, .int c, .int v, .int m, .int (nI j)], [])) (fun j => (G, I, F)) (fun j => ∀ e, e < j → ¬ sp_ah (fun k => sp_far m c (I a k)) n e = v) rfl rfl vm_all0 (fun j hj pj ij => ?_) (fun pj => ?_)
  · show vm_J _ _ _ (3, (0, 0), [.ref o, .int c, .int v, .int m, .int (nI j)], []) (G, I, F) _ _
    refine vm_J.go vm_q31 (k := 4) (hs := [(4, 3, [.int 0, .ref a, .ref b])]) (f' := (bif vm_ic .ge (nI j) (I o 0) then 33 else 12, (0, 0), [.ref o, .int c, .int v, .int m, .int (nI j)], [])) (h' := (G, I, F)) (hs' := []) rfl (vm_b2 rfl (vm_b2 rfl (vm_b2 (vm_b2 (vm_hG ho) rfl) (vm_b2 rfl rfl)))) ?_
    refine vm_J.br (fun c1 => ?_) (fun c1 => ?_)
    · rw [(hn : I o 0 = nI n)] at c1
      have c1 := vm_ge_t (a := j) (b := n) (by omega) (by omega) c1
      exact (show False by omega).elim
    · rw [(hn : I o 0 = nI n)] at c1
      have c1 := vm_ge_f (a := j) (b := n) (by omega) (by omega) c1
      refine vm_J.go vm_q31 (k := 4) (hs := []) (f' := (17, (0, 0), [.ref o, .int c, .int v, .int m, .int (nI j)], [.int m, .int c, .int (nI j), .ref o])) (h' := (G, I, F)) (hs' := []) rfl rfl ?_
      refine vm_J.call vm_q31 (Z := vm_M32) (n := 3) (k := 0) (mi := 32) (pc := 17) (en := (17, .invokevirtual 57, 3, [32, 805, 0], .null)) rfl trivial rfl rfl vm_z32 (av := [.ref o, .int (nI j), .int c, .int m]) (rest := []) (m_Pal_entriesAhead (e := j) (c := c) (m := m) ho ha hn (by omega) (by omega)) ⟨_, _, rfl, rfl, _, 2, _, ho, rfl, rfl, rfl⟩ (Nat.le_of_ble_eq_true rfl) ⟨Nat.le_of_ble_eq_true rfl, Nat.le_of_ble_eq_true rfl⟩ ⟨Nat.le_of_ble_eq_true rfl, Nat.le_of_ble_eq_true rfl⟩ ?_
      show vm_J _ _ _ (20, (0, 0), [.ref o, .int c, .int v, .int m, .int (nI j)], [.int (sp_ah (fun k => sp_far m c (I a k)) n j)]) (G, I, F) _ _
      refine vm_J.go vm_q31 (k := 2) (hs := []) (f' := (bif vm_ic .ne (sp_ah (fun k => sp_far m c (I a k)) n j) v then 27 else 24, (0, 0), [.ref o, .int c, .int v, .int m, .int (nI j)], [])) (h' := (G, I, F)) (hs' := []) rfl rfl ?_
      refine vm_J.br (fun c2 => ?_) (fun c2 => ?_)
      · have c2 : ¬ (sp_ah (fun k => sp_far m c (I a k)) n j) = v := of_decide_eq_true c2
        refine vm_J.go vm_q31 (k := 2) (hs := []) (f' := (3, (0, 0), [.ref o, .int c, .int v, .int m, .int ((nI j) + 1)], [])) (h' := (G, I, F)) (hs' := []) rfl rfl ?_
        rw [((vm_pa (rfl : nI j = nI j) (rfl : (1 : Int32) = nI 1)) : (nI j) + 1 = nI (j + 1))]
        exact ij (vm_alls (p := fun e => ¬ sp_ah (fun k => sp_far m c (I a k)) n e = v) pj c2)
      · have c2 : (sp_ah (fun k => sp_far m c (I a k)) n j) = v := Decidable.of_not_not (of_decide_eq_false c2)
        refine vm_J.go vm_q31 (k := 1) (hs := []) (f' := (26, (0, 0), [.ref o, .int c, .int v, .int m, .int (nI j)], [.int (nI j)])) (h' := (G, I, F)) (hs' := []) rfl rfl ?_
        exact vm_J.end vm_q31 (en := (26, .ireturn, 1, [], .null)) rfl (by rw [sp_fo_hit (p := fun e => sp_ah (fun k => sp_far m c (I a k)) n e = v) hj pj c2]; rfl) vm_rI (Nat.zero_le _) (Nat.zero_le _) rfl
  · show vm_J _ _ _ (3, (0, 0), [.ref o, .int c, .int v, .int m, .int (nI n)], []) (G, I, F) _ _
    refine vm_J.go vm_q31 (k := 4) (hs := [(4, 3, [.int 0, .ref a, .ref b])]) (f' := (bif vm_ic .ge (nI n) (I o 0) then 33 else 12, (0, 0), [.ref o, .int c, .int v, .int m, .int (nI n)], [])) (h' := (G, I, F)) (hs' := []) rfl (vm_b2 rfl (vm_b2 rfl (vm_b2 (vm_b2 (vm_hG ho) rfl) (vm_b2 rfl rfl)))) ?_
    refine vm_J.br (fun c3 => ?_) (fun c3 => ?_)
    · rw [(hn : I o 0 = nI n)] at c3
      have c3 := vm_ge_t (a := n) (b := n) (by omega) (by omega) c3
      refine vm_J.go vm_q31 (k := 1) (hs := []) (f' := (35, (0, 0), [.ref o, .int c, .int v, .int m, .int (nI n)], [.int (-5)])) (h' := (G, I, F)) (hs' := []) rfl rfl ?_
      exact vm_J.end vm_q31 (en := (35, .ireturn, 1, [], .null)) rfl (by rw [sp_fo_none pj]; rfl) vm_rI (Nat.zero_le _) (Nat.zero_le _) rfl
    · rw [(hn : I o 0 = nI n)] at c3
      have c3 := vm_ge_f (a := n) (b := n) (by omega) (by omega) c3
      exact (show False by omega).elim
theorem sp_nr_some {far : Nat → Int32} {ex : Nat → Prop} [DecidablePred ex] : ∀ {n k : Nat}, k < n → ¬ ex k → ∃ q, sp_nr far ex n = some q
  | n + 1, k, hk, he => by
    unfold sp_nr
    rcases Nat.lt_or_eq_of_le (Nat.le_of_lt_succ hk) with h | h
    · obtain ⟨q, hq⟩ := sp_nr_some (far := far) (n := n) h he
      rw [hq]
      dsimp only
      split
      · exact ⟨_, rfl⟩
      · split <;> exact ⟨_, rfl⟩
    · subst h
      cases sp_nr far ex k with
      | none => exact ⟨k, by simp [he]⟩
      | some q =>
        dsimp only
        split
        · exact ⟨_, rfl⟩
        · split <;> exact ⟨_, rfl⟩
/-- the number itself, where there is one -/
def sp_nq (far : Nat → Int32) (ex : Nat → Prop) [DecidablePred ex] (n : Nat) : Nat := match sp_nr far ex n with
  | none => 0
  | some q => q
theorem sp_nq_i {far : Nat → Int32} {ex : Nat → Prop} [DecidablePred ex] {n k : Nat} (hk : k < n) (he : ¬ ex k) : sp_ni (sp_nr far ex n) = nI (sp_nq far ex n) ∧ sp_nq far ex n < n := by
  obtain ⟨q, hq⟩ := sp_nr_some (far := far) hk he
  unfold sp_nq
  rw [hq]
  exact ⟨rfl, sp_nr_lt hq⟩
/-- the square of the way to the nearest of the entries but one -/
def sp_ew1 (f : Nat → Int32) (n : Nat) (m x c : Int32) : Int32 := sp_far 0 c (f (sp_nq (fun k => sp_far m c (f k)) (fun k => nI k = x) n))
theorem m_Pal_near_n {l : Launch} {X : vm_Cx} {G : List vm_Sh} {I : Nat → Nat → Int32} {F : Nat → Nat → UInt32} {o a b n k0 : Nat} {c m x : Int32} (ho : G[o]? = some (4, 3, [.int 0, .ref a, .ref b])) (ha : G[a]? = some (0, 16, [])) (hn : I o 0 = nI n) (hn2 : n ≤ 16) (hk : k0 < n) (hx : ¬ nI k0 = x) : vm_K l X vm_M30 [.ref o, .int c, .int m, .int x] (G, I, F) (some (.int (nI (sp_nq (fun k => sp_far m c (I a k)) (fun k => nI k = x) n)))) (G, I, F) := by
  have q := m_Pal_nearestTo (l := l) (X := X) (G := G) (I := I) (F := F) (c := c) (m := m) (x := x) ho ha hn hn2
  rw [(sp_nq_i (far := (fun k => sp_far m c (I a k))) (ex := (fun k => nI k = x)) hk hx).1] at q
  exact q
set_option maxHeartbeats 4000000 in
set_option maxRecDepth 20000 in
/-- DitherDesk$Palette.errorWithout  -/
theorem m_Pal_errorWithout {l : Launch} {X : vm_Cx} {G : List vm_Sh} {I : Nat → Nat → Int32} {F : Nat → Nat → UInt32} {o a b n k0 q pa w h : Nat} {m x : Int32} (ho : G[o]? = some (4, 3, [.int 0, .ref a, .ref b])) (ha : G[a]? = some (0, 16, [])) (hn : I o 0 = nI n) (hn2 : n ≤ 16) (hq : G[q]? = some (5, 3, [.int 0, .int 0, .ref pa])) (hpa : G[pa]? = some (0, 144, [])) (hw : I q 0 = nI w) (hh : I q 1 = nI h) (hw2 : w ≤ 12) (hh2 : h ≤ 12) (hk : k0 < n) (hx : ¬ nI k0 = x) : vm_K l X vm_M33 [.ref o, .int x, .ref q, .int m] (G, I, F) (some (.int (sp_sum (fun p => sp_ew1 (I a) n m x (I pa p)) (w * h)))) (G, I, F) := by
  refine vm_K.mk (by decide) (Nat.le_of_ble_eq_true rfl) ?_
  have hwh := vm_mul144 hw2 hh2
  show vm_J _ _ _ (0, (0, 0), [.ref o, .int x, .ref q, .int m, .retAddr 0, .retAddr 0, .retAddr 0, .retAddr 0], []) _ _ _
  refine vm_J.go vm_q33 (k := 4) (hs := []) (f' := (6, (0, 0), [.ref o, .int x, .ref q, .int m, .int 0, .int 0, .retAddr 0, .retAddr 0], [])) (h' := (G, I, F)) (hs' := []) rfl rfl ?_
  refine vm_J.cnt (w * h) (fun j => (6, (0, 0), [.ref o, .int x, .ref q, .int m, .int (sp_sum (fun p => sp_ew1 (I a) n m x (I pa p)) j), .int (nI j), .retAddr 0, .retAddr 0], [])) (fun j => (G, I, F)) (fun _ => True) rfl rfl trivial (fun j hj pj ij => ?_) (fun pj => ?_)
  · show vm_J _ _ _ (6, (0, 0), [.ref o, .int x, .ref q, .int m, .int (sp_sum (fun p => sp_ew1 (I a) n m x (I pa p)) j), .int (nI j), .retAddr 0, .retAddr 0], []) (G, I, F) _ _
    refine vm_J.go vm_q33 (k := 2) (hs := []) (f' := (9, (0, 0), [.ref o, .int x, .ref q, .int m, .int (sp_sum (fun p => sp_ew1 (I a) n m x (I pa p)) j), .int (nI j), .retAddr 0, .retAddr 0], [.ref q, .int (nI j)])) (h' := (G, I, F)) (hs' := []) rfl rfl ?_
    refine vm_J.call vm_q33 (Z := vm_M36) (n := 0) (k := 0) (mi := 36) (pc := 9) (en := (9, .invokevirtual 60, 3, [36, 993, 0], .null)) rfl trivial rfl rfl vm_z36 (av := [.ref q]) (rest := [.int (nI j)]) (m_Pic_pixels_n hq hw hh) ⟨_, _, rfl, rfl, _, 3, _, hq, rfl, rfl, rfl⟩ (Nat.le_of_ble_eq_true rfl) ⟨Nat.le_of_ble_eq_true rfl, Nat.le_of_ble_eq_true rfl⟩ ⟨Nat.le_of_ble_eq_true rfl, Nat.le_of_ble_eq_true rfl⟩ ?_
    show vm_J _ _ _ (12, (0, 0), [.ref o, .int x, .ref q, .int m, .int (sp_sum (fun p => sp_ew1 (I a) n m x (I pa p)) j), .int (nI j), .retAddr 0, .retAddr 0], [.int (nI (w * h)), .int (nI j)]) (G, I, F) _ _
    refine vm_J.go vm_q33 (k := 1) (hs := []) (f' := (bif vm_ic .ge (nI j) (nI (w * h)) then 59 else 15, (0, 0), [.ref o, .int x, .ref q, .int m, .int (sp_sum (fun p => sp_ew1 (I a) n m x (I pa p)) j), .int (nI j), .retAddr 0, .retAddr 0], [])) (h' := (G, I, F)) (hs' := []) rfl rfl ?_
    refine vm_J.br (fun c1 => ?_) (fun c1 => ?_)
    · have c1 := vm_ge_t (a := j) (b := w * h) (by omega) (by omega) c1
      exact (show False by omega).elim
    · have c1 := vm_ge_f (a := j) (b := w * h) (by omega) (by omega) c1
      refine vm_J.go vm_q33 (k := 3) (hs := [(5, 3, [.int 0, .int 0, .ref pa])]) (f' := (21, (0, 0), [.ref o, .int x, .ref q, .int m, .int (sp_sum (fun p => sp_ew1 (I a) n m x (I pa p)) j), .int (nI j), .retAddr 0, .retAddr 0], [.int (nI j), .ref pa])) (h' := (G, I, F)) (hs' := []) rfl (vm_b2 rfl (vm_b2 (vm_b2 (vm_hG hq) rfl) (vm_b2 rfl rfl))) ?_
      refine vm_J.call vm_q33 (Z := vm_M152) (n := 2) (k := 1) (mi := 152) (pc := 21) (en := (21, .invokestatic 26, 3, [152, 631, 1], .null)) rfl trivial rfl rfl vm_z152 (av := [.ref pa, .int (nI j)]) (rest := []) (m_at_n (j := j) hpa (by omega) (by omega)) rfl (Nat.le_of_ble_eq_true rfl) ⟨Nat.le_of_ble_eq_true rfl, Nat.le_of_ble_eq_true rfl⟩ ⟨Nat.le_of_ble_eq_true rfl, Nat.le_of_ble_eq_true rfl⟩ ?_
      show vm_J _ _ _ (24, (0, 0), [.ref o, .int x, .ref q, .int m, .int (sp_sum (fun p => sp_ew1 (I a) n m x (I pa p)) j), .int (nI j), .retAddr 0, .retAddr 0], [.int (I pa j)]) (G, I, F) _ _
      refine vm_J.go vm_q33 (k := 5) (hs := []) (f' := (31, (0, 0), [.ref o, .int x, .ref q, .int m, .int (sp_sum (fun p => sp_ew1 (I a) n m x (I pa p)) j), .int (nI j), .int (I pa j), .retAddr 0], [.int x, .int m, .int (I pa j), .ref o])) (h' := (G, I, F)) (hs' := []) rfl rfl ?_
      have hnq := (sp_nq_i (far := (fun k => sp_far m (I pa j) (I a k))) (ex := (fun k => nI k = x)) (n := n) hk hx).2
      refine vm_J.call vm_q33 (Z := vm_M30) (n := 3) (k := 0) (mi := 30) (pc := 31) (en := (31, .invokevirtual 67, 3, [30, 994, 0], .null)) rfl trivial rfl rfl vm_z30 (av := [.ref o, .int (I pa j), .int m, .int x]) (rest := []) (m_Pal_near_n (k0 := k0) (c := I pa j) (m := m) (x := x) ho ha hn (by omega) hk hx) ⟨_, _, rfl, rfl, _, 2, _, ho, rfl, rfl, rfl⟩ (Nat.le_of_ble_eq_true rfl) ⟨Nat.le_of_ble_eq_true rfl, Nat.le_of_ble_eq_true rfl⟩ ⟨Nat.le_of_ble_eq_true rfl, Nat.le_of_ble_eq_true rfl⟩ ?_
      show vm_J _ _ _ (34, (0, 0), [.ref o, .int x, .ref q, .int m, .int (sp_sum (fun p => sp_ew1 (I a) n m x (I pa p)) j), .int (nI j), .int (I pa j), .retAddr 0], [.int (nI (sp_nq (fun k => sp_far m (I pa j) (I a k)) (fun k => nI k = x) n))]) (G, I, F) _ _
      refine vm_J.go vm_q33 (k := 6) (hs := []) (f' := (44, (0, 0), [.ref o, .int x, .ref q, .int m, .int (sp_sum (fun p => sp_ew1 (I a) n m x (I pa p)) j), .int (nI j), .int (I pa j), .int (nI (sp_nq (fun k => sp_far m (I pa j) (I a k)) (fun k => nI k = x) n))], [.int (nI (sp_nq (fun k => sp_far m (I pa j) (I a k)) (fun k => nI k = x) n)), .ref o, .int (I pa j), .int 0, .int (sp_sum (fun p => sp_ew1 (I a) n m x (I pa p)) j)])) (h' := (G, I, F)) (hs' := []) rfl rfl ?_
      refine vm_J.call vm_q33 (Z := vm_M23) (n := 1) (k := 0) (mi := 23) (pc := 44) (en := (44, .invokevirtual 30, 3, [23, 627, 0], .null)) rfl trivial rfl rfl vm_z23 (av := [.ref o, .int (nI (sp_nq (fun k => sp_far m (I pa j) (I a k)) (fun k => nI k = x) n))]) (rest := [.int (I pa j), .int 0, .int (sp_sum (fun p => sp_ew1 (I a) n m x (I pa p)) j)]) (m_Pal_colourOf (j := sp_nq (fun k => sp_far m (I pa j) (I a k)) (fun k => nI k = x) n) ho ha (by omega)) ⟨_, _, rfl, rfl, _, 2, _, ho, rfl, rfl, rfl⟩ (Nat.le_of_ble_eq_true rfl) ⟨Nat.le_of_ble_eq_true rfl, Nat.le_of_ble_eq_true rfl⟩ ⟨Nat.le_of_ble_eq_true rfl, Nat.le_of_ble_eq_true rfl⟩ ?_
      show vm_J _ _ _ (47, (0, 0), [.ref o, .int x, .ref q, .int m, .int (sp_sum (fun p => sp_ew1 (I a) n m x (I pa p)) j), .int (nI j), .int (I pa j), .int (nI (sp_nq (fun k => sp_far m (I pa j) (I a k)) (fun k => nI k = x) n))], [.int (I a (sp_nq (fun k => sp_far m (I pa j) (I a k)) (fun k => nI k = x) n)), .int (I pa j), .int 0, .int (sp_sum (fun p => sp_ew1 (I a) n m x (I pa p)) j)]) (G, I, F) _ _
      refine vm_J.call vm_q33 (Z := vm_M165) (n := 3) (k := 1) (mi := 165) (pc := 47) (en := (47, .invokestatic 53, 3, [165, 765, 1], .null)) rfl trivial rfl rfl vm_z165 (av := [.int 0, .int (I pa j), .int (I a (sp_nq (fun k => sp_far m (I pa j) (I a k)) (fun k => nI k = x) n))]) (rest := [.int (sp_sum (fun p => sp_ew1 (I a) n m x (I pa p)) j)]) (m_farBetween (m := 0) (x := I pa j) (y := I a (sp_nq (fun k => sp_far m (I pa j) (I a k)) (fun k => nI k = x) n))) rfl (Nat.le_of_ble_eq_true rfl) ⟨Nat.le_of_ble_eq_true rfl, Nat.le_of_ble_eq_true rfl⟩ ⟨Nat.le_of_ble_eq_true rfl, Nat.le_of_ble_eq_true rfl⟩ ?_
      show vm_J _ _ _ (50, (0, 0), [.ref o, .int x, .ref q, .int m, .int (sp_sum (fun p => sp_ew1 (I a) n m x (I pa p)) j), .int (nI j), .int (I pa j), .int (nI (sp_nq (fun k => sp_far m (I pa j) (I a k)) (fun k => nI k = x) n))], [.int (sp_far 0 (I pa j) (I a (sp_nq (fun k => sp_far m (I pa j) (I a k)) (fun k => nI k = x) n))), .int (sp_sum (fun p => sp_ew1 (I a) n m x (I pa p)) j)]) (G, I, F) _ _
      refine vm_J.go vm_q33 (k := 4) (hs := []) (f' := (6, (0, 0), [.ref o, .int x, .ref q, .int m, .int ((sp_sum (fun p => sp_ew1 (I a) n m x (I pa p)) j) + (sp_far 0 (I pa j) (I a (sp_nq (fun k => sp_far m (I pa j) (I a k)) (fun k => nI k = x) n)))), .int ((nI j) + 1), .int (I pa j), .int (nI (sp_nq (fun k => sp_far m (I pa j) (I a k)) (fun k => nI k = x) n))], [])) (h' := (G, I, F)) (hs' := []) rfl rfl ?_
      rw [((vm_pa (rfl : nI j = nI j) (rfl : (1 : Int32) = nI 1)) : (nI j) + 1 = nI (j + 1))]
      refine vm_J.mask [true, true, true, true, true, true, false, false] ?_
      show vm_J _ _ _ (6, (0, 0), [.ref o, .int x, .ref q, .int m, .int ((sp_sum (fun p => sp_ew1 (I a) n m x (I pa p)) j) + (sp_far 0 (I pa j) (I a (sp_nq (fun k => sp_far m (I pa j) (I a k)) (fun k => nI k = x) n)))), .int (nI (j + 1)), .retAddr 0, .retAddr 0], []) (G, I, F) _ _
      rw [show ((sp_sum (fun p => sp_ew1 (I a) n m x (I pa p)) j) + (sp_far 0 (I pa j) (I a (sp_nq (fun k => sp_far m (I pa j) (I a k)) (fun k => nI k = x) n))) : Int32) = sp_sum (fun p => sp_ew1 (I a) n m x (I pa p)) (j + 1) from by rfl]
      exact ij trivial
  · show vm_J _ _ _ (6, (0, 0), [.ref o, .int x, .ref q, .int m, .int (sp_sum (fun p => sp_ew1 (I a) n m x (I pa p)) (w * h)), .int (nI (w * h)), .retAddr 0, .retAddr 0], []) (G, I, F) _ _
    refine vm_J.go vm_q33 (k := 2) (hs := []) (f' := (9, (0, 0), [.ref o, .int x, .ref q, .int m, .int (sp_sum (fun p => sp_ew1 (I a) n m x (I pa p)) (w * h)), .int (nI (w * h)), .retAddr 0, .retAddr 0], [.ref q, .int (nI (w * h))])) (h' := (G, I, F)) (hs' := []) rfl rfl ?_
    refine vm_J.call vm_q33 (Z := vm_M36) (n := 0) (k := 0) (mi := 36) (pc := 9) (en := (9, .invokevirtual 60, 3, [36, 993, 0], .null)) rfl trivial rfl rfl vm_z36 (av := [.ref q]) (rest := [.int (nI (w * h))]) (m_Pic_pixels_n hq hw hh) ⟨_, _, rfl, rfl, _, 3, _, hq, rfl, rfl, rfl⟩ (Nat.le_of_ble_eq_true rfl) ⟨Nat.le_of_ble_eq_true rfl, Nat.le_of_ble_eq_true rfl⟩ ⟨Nat.le_of_ble_eq_true rfl, Nat.le_of_ble_eq_true rfl⟩ ?_
    show vm_J _ _ _ (12, (0, 0), [.ref o, .int x, .ref q, .int m, .int (sp_sum (fun p => sp_ew1 (I a) n m x (I pa p)) (w * h)), .int (nI (w * h)), .retAddr 0, .retAddr 0], [.int (nI (w * h)), .int (nI (w * h))]) (G, I, F) _ _
    refine vm_J.go vm_q33 (k := 1) (hs := []) (f' := (bif vm_ic .ge (nI (w * h)) (nI (w * h)) then 59 else 15, (0, 0), [.ref o, .int x, .ref q, .int m, .int (sp_sum (fun p => sp_ew1 (I a) n m x (I pa p)) (w * h)), .int (nI (w * h)), .retAddr 0, .retAddr 0], [])) (h' := (G, I, F)) (hs' := []) rfl rfl ?_
    refine vm_J.br (fun c2 => ?_) (fun c2 => ?_)
    · have c2 := vm_ge_t (a := (w * h)) (b := w * h) (by omega) (by omega) c2
      refine vm_J.go vm_q33 (k := 1) (hs := []) (f' := (61, (0, 0), [.ref o, .int x, .ref q, .int m, .int (sp_sum (fun p => sp_ew1 (I a) n m x (I pa p)) (w * h)), .int (nI (w * h)), .retAddr 0, .retAddr 0], [.int (sp_sum (fun p => sp_ew1 (I a) n m x (I pa p)) (w * h))])) (h' := (G, I, F)) (hs' := []) rfl rfl ?_
      exact vm_J.end vm_q33 (en := (61, .ireturn, 1, [], .null)) rfl rfl vm_rI (Nat.zero_le _) (Nat.zero_le _) rfl
    · have c2 := vm_ge_f (a := (w * h)) (b := w * h) (by omega) (by omega) c2
      exact (show False by omega).elim
set_option maxHeartbeats 4000000 in
set_option maxRecDepth 20000 in
/-- DitherDesk$Palette.become  -/
theorem m_Pal_become {l : Launch} {X : vm_Cx} {G : List vm_Sh} {I : Nat → Nat → Int32} {F : Nat → Nat → UInt32} {o a b o2 a2 b2 : Nat} (ho : G[o]? = some (4, 3, [.int 0, .ref a, .ref b])) (ha : G[a]? = some (0, 16, [])) (hb : G[b]? = some (0, 16, [])) (ho2 : G[o2]? = some (4, 3, [.int 0, .ref a2, .ref b2])) (ha2 : G[a2]? = some (0, 16, [])) (hb2 : G[b2]? = some (0, 16, [])) (haa : a2 ≠ a) (hbb : b2 ≠ b) : vm_K l X vm_M34 [.ref o, .ref o2] (G, I, F) (none) (G, (vm_cp (vm_cp (vm_up I o 0 (I o2 0)) a2 a 16) b2 b 16), F) := by
  refine vm_K.mk (by decide) (Nat.le_of_ble_eq_true rfl) ?_
  show vm_J _ _ _ (0, (0, 0), [.ref o, .ref o2], []) _ _ _
  refine vm_J.go vm_q34 (k := 8) (hs := [(4, 3, [.int 0, .ref a2, .ref b2]), (4, 3, [.int 0, .ref a, .ref b]), (4, 3, [.int 0, .ref a2, .ref b2]), (4, 3, [.int 0, .ref a, .ref b])]) (f' := (16, (0, 0), [.ref o, .ref o2], [.ref a, .ref a2])) (h' := (G, (vm_up I o 0 (I o2 0)), F)) (hs' := []) rfl (vm_b2 rfl (vm_b2 rfl (vm_b2 (vm_b2 (vm_hG ho2) rfl) (vm_b2 (vm_b2 (vm_b2 (vm_hG ho) rfl) rfl) (vm_b2 rfl (vm_b2 (vm_b2 (vm_hG ho2) rfl) (vm_b2 rfl (vm_b2 (vm_b2 (vm_hG ho) rfl) rfl)))))))) ?_
  refine vm_J.call vm_q34 (Z := vm_M156) (n := 2) (k := 1) (mi := 156) (pc := 16) (en := (16, .invokestatic 70, 3, [156, 1019, 1], .null)) rfl trivial rfl rfl vm_z156 (av := [.ref a2, .ref a]) (rest := []) (m_copyInts ha2 ha haa (by omega)) rfl (Nat.le_of_ble_eq_true rfl) ⟨Nat.le_of_ble_eq_true rfl, Nat.le_of_ble_eq_true rfl⟩ ⟨Nat.le_of_ble_eq_true rfl, Nat.le_of_ble_eq_true rfl⟩ ?_
  show vm_J _ _ _ (19, (0, 0), [.ref o, .ref o2], []) (G, (vm_cp (vm_up I o 0 (I o2 0)) a2 a 16), F) _ _
  refine vm_J.go vm_q34 (k := 4) (hs := [(4, 3, [.int 0, .ref a2, .ref b2]), (4, 3, [.int 0, .ref a, .ref b])]) (f' := (27, (0, 0), [.ref o, .ref o2], [.ref b, .ref b2])) (h' := (G, (vm_cp (vm_up I o 0 (I o2 0)) a2 a 16), F)) (hs' := []) rfl (vm_b2 rfl (vm_b2 (vm_b2 (vm_hG ho2) rfl) (vm_b2 rfl (vm_b2 (vm_b2 (vm_hG ho) rfl) rfl)))) ?_
  refine vm_J.call vm_q34 (Z := vm_M156) (n := 2) (k := 1) (mi := 156) (pc := 27) (en := (27, .invokestatic 70, 3, [156, 1019, 1], .null)) rfl trivial rfl rfl vm_z156 (av := [.ref b2, .ref b]) (rest := []) (m_copyInts hb2 hb hbb (by omega)) rfl (Nat.le_of_ble_eq_true rfl) ⟨Nat.le_of_ble_eq_true rfl, Nat.le_of_ble_eq_true rfl⟩ ⟨Nat.le_of_ble_eq_true rfl, Nat.le_of_ble_eq_true rfl⟩ ?_
  show vm_J _ _ _ (30, (0, 0), [.ref o, .ref o2], []) (G, (vm_cp (vm_cp (vm_up I o 0 (I o2 0)) a2 a 16) b2 b 16), F) _ _
  exact vm_J.end vm_q34 (en := (30, .return_, 1, [], .null)) rfl rfl vm_rV (Nat.zero_le _) (Nat.zero_le _) rfl
set_option maxHeartbeats 4000000 in
set_option maxRecDepth 20000 in
/-- DitherDesk$Picture.become  -/
theorem m_Pic_become {l : Launch} {X : vm_Cx} {G : List vm_Sh} {I : Nat → Nat → Int32} {F : Nat → Nat → UInt32} {o a o2 a2 : Nat} (ho : G[o]? = some (5, 3, [.int 0, .int 0, .ref a])) (ha : G[a]? = some (0, 144, [])) (ho2 : G[o2]? = some (5, 3, [.int 0, .int 0, .ref a2])) (ha2 : G[a2]? = some (0, 144, [])) (haa : a2 ≠ a) : vm_K l X vm_M45 [.ref o, .ref o2] (G, I, F) (none) (G, (vm_cp (vm_up (vm_up I o 0 (I o2 0)) o 1 (vm_up I o 0 (I o2 0) o2 1)) a2 a 144), F) := by
  refine vm_K.mk (by decide) (Nat.le_of_ble_eq_true rfl) ?_
  show vm_J _ _ _ (0, (0, 0), [.ref o, .ref o2], []) _ _ _
  refine vm_J.go vm_q45 (k := 12) (hs := [(5, 3, [.int 0, .int 0, .ref a2]), (5, 3, [.int 0, .int 0, .ref a]), (5, 3, [.int 0, .int 0, .ref a2]), (5, 3, [.int 0, .int 0, .ref a]), (5, 3, [.int 0, .int 0, .ref a2]), (5, 3, [.int 0, .int 0, .ref a])]) (f' := (24, (0, 0), [.ref o, .ref o2], [.ref a, .ref a2])) (h' := (G, (vm_up (vm_up I o 0 (I o2 0)) o 1 ((vm_up I o 0 (I o2 0)) o2 1)), F)) (hs' := []) rfl (vm_b2 rfl (vm_b2 rfl (vm_b2 (vm_b2 (vm_hG ho2) rfl) (vm_b2 (vm_b2 (vm_b2 (vm_hG ho) rfl) rfl) (vm_b2 rfl (vm_b2 rfl (vm_b2 (vm_b2 (vm_hG ho2) rfl) (vm_b2 (vm_b2 (vm_b2 (vm_hG ho) rfl) rfl) (vm_b2 rfl (vm_b2 (vm_b2 (vm_hG ho2) rfl) (vm_b2 rfl (vm_b2 (vm_b2 (vm_hG ho) rfl) rfl)))))))))))) ?_
  refine vm_J.call vm_q45 (Z := vm_M156) (n := 2) (k := 1) (mi := 156) (pc := 24) (en := (24, .invokestatic 54, 3, [156, 1013, 1], .null)) rfl trivial rfl rfl vm_z156 (av := [.ref a2, .ref a]) (rest := []) (m_copyInts ha2 ha haa (by omega)) rfl (Nat.le_of_ble_eq_true rfl) ⟨Nat.le_of_ble_eq_true rfl, Nat.le_of_ble_eq_true rfl⟩ ⟨Nat.le_of_ble_eq_true rfl, Nat.le_of_ble_eq_true rfl⟩ ?_
  show vm_J _ _ _ (27, (0, 0), [.ref o, .ref o2], []) (G, (vm_cp (vm_up (vm_up I o 0 (I o2 0)) o 1 ((vm_up I o 0 (I o2 0)) o2 1)) a2 a 144), F) _ _
  exact vm_J.end vm_q45 (en := (27, .return_, 1, [], .null)) rfl rfl vm_rV (Nat.zero_le _) (Nat.zero_le _) rfl
