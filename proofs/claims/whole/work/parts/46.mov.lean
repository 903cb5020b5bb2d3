theorem vm_wq_p {α : Type} (I : Nat → Nat → α) (d lo j : Nat) (f : Nat → α) : vm_up (vm_wq I d f (lo + 1) j) d lo (f lo) = vm_wq I d f lo (j + 1) := by
  funext a b
  unfold vm_wq vm_up
  by_cases h : a = d
  · subst h
    simp only [if_true]
    by_cases h1 : b = lo
    · subst h1
      simp
    · by_cases h2 : lo + 1 ≤ b ∧ b < lo + 1 + j
      · rw [if_neg h1, if_pos h2, if_pos (by omega)]
      · rw [if_neg h1, if_neg h2, if_neg (by omega)]
  · simp [h]
theorem vm_wq_l {α : Type} (I : Nat → Nat → α) (d lo n b : Nat) (f : Nat → α) (h : b < lo) : vm_wq I d f lo n d b = I d b := by
  unfold vm_wq
  rw [if_pos rfl, if_neg (by omega)]
/-- items moved -/
def vm_mvf (I : Nat → Nat → Int32) (s i j : Nat) : Nat → Int32 := fun y => I s (i + (y - j))
theorem vm_mv_r (I : Nat → Nat → Int32) (s d i j lo k b : Nat) (h : s ≠ d ∨ b < lo ∨ lo + k ≤ b) : vm_wq I d (vm_mvf I s i j) lo k s b = I s b := by
  by_cases h1 : s = d
  · subst h1
    rcases h with h | h | h
    · exact absurd rfl h
    · exact vm_wq_l _ _ _ _ _ _ h
    · exact vm_wq_r _ _ _ _ _ _ h
  · rw [vm_wq_o _ _ _ _ _ _ h1]
theorem vm_mv_u (I : Nat → Nat → Int32) (s d i j n k : Nat) (hk : k < n) (hu : i < j) : vm_up (vm_wq I d (vm_mvf I s i j) (j + (n - k)) k) d (j + (n - 1 - k)) (vm_wq I d (vm_mvf I s i j) (j + (n - k)) k s (i + (n - 1 - k))) = vm_wq I d (vm_mvf I s i j) (j + (n - (k + 1))) (k + 1) := by
  rw [vm_mv_r I s d i j _ _ _ (Or.inr (Or.inl (by omega))), ← vm_wq_p I d _ k _, show j + (n - (k + 1)) + 1 = j + (n - k) by omega, show n - 1 - k = n - (k + 1) by omega]
  congr 1
  unfold vm_mvf
  rw [show j + (n - (k + 1)) - j = n - (k + 1) by omega]
theorem vm_mv_d (I : Nat → Nat → Int32) (s d i j k : Nat) (hu : ¬ i < j) : vm_up (vm_wq I d (vm_mvf I s i j) j k) d (j + k) (vm_wq I d (vm_mvf I s i j) j k s (i + k)) = vm_wq I d (vm_mvf I s i j) j (k + 1) := by
  rw [vm_mv_r I s d i j _ _ _ (Or.inr (Or.inr (by omega))), ← vm_wq_s I d j k]
  congr 1
  unfold vm_mvf
  rw [show j + k - j = k by omega]
set_option maxHeartbeats 4000000 in
set_option maxRecDepth 20000 in
/-- DitherDesk.moveItems  -/
theorem m_moveItems {l : Launch} {X : vm_Cx} {G : List vm_Sh} {I : Nat → Nat → Int32} {F : Nat → Nat → UInt32} {o s q d i j n : Nat} (ho : G[o]? = some (10, 3, [.int 0, .int 0, .ref s])) (hs : G[s]? = some (0, 150, [])) (hq : G[q]? = some (10, 3, [.int 0, .int 0, .ref d])) (hd : G[d]? = some (0, 150, [])) (hi : i + n ≤ 150) (hj : j + n ≤ 150) : vm_K l X vm_M148 [.ref o, .int (nI i), .ref q, .int (nI j), .int (nI n)] (G, I, F) (none) (G, (vm_wq I d (vm_mvf I s i j) j n), F) := by
  refine vm_K.mk (by decide) (Nat.le_of_ble_eq_true rfl) ?_
  show vm_J _ _ _ (0, (0, 0), [.ref o, .int (nI i), .ref q, .int (nI j), .int (nI n), .retAddr 0, .retAddr 0, .retAddr 0], []) _ _ _
  refine vm_J.go vm_q148 (k := 3) (hs := []) (f' := (bif vm_ic .le (nI j) (nI i) then 9 else 5, (0, 0), [.ref o, .int (nI i), .ref q, .int (nI j), .int (nI n), .retAddr 0, .retAddr 0, .retAddr 0], [])) (h' := (G, I, F)) (hs' := []) rfl rfl ?_
  refine vm_J.br (fun c1 => ?_) (fun c1 => ?_)
  · have c1 := vm_le_t (a := j) (b := i) (by omega) (by omega) c1
    refine vm_J.go vm_q148 (k := 4) (hs := []) (f' := (15, (0, 0), [.ref o, .int (nI i), .ref q, .int (nI j), .int (nI n), .int 0, .int 0, .retAddr 0], [])) (h' := (G, I, F)) (hs' := []) rfl rfl ?_
    refine vm_J.cnt n (fun k => (15, (0, 0), [.ref o, .int (nI i), .ref q, .int (nI j), .int (nI n), .int 0, .int (nI k), .retAddr 0], [])) (fun k => (G, (vm_wq I d (vm_mvf I s i j) j k), F)) (fun _ => True) rfl (by rw [← vm_wq_0]) trivial (fun k hk pk ik => ?_) (fun pk => ?_)
    · show vm_J _ _ _ (15, (0, 0), [.ref o, .int (nI i), .ref q, .int (nI j), .int (nI n), .int 0, .int (nI k), .retAddr 0], []) (G, (vm_wq I d (vm_mvf I s i j) j k), F) _ _
      refine vm_J.go vm_q148 (k := 3) (hs := []) (f' := (bif vm_ic .ge (nI k) (nI n) then 69 else 22, (0, 0), [.ref o, .int (nI i), .ref q, .int (nI j), .int (nI n), .int 0, .int (nI k), .retAddr 0], [])) (h' := (G, (vm_wq I d (vm_mvf I s i j) j k), F)) (hs' := []) rfl rfl ?_
      refine vm_J.br (fun c2 => ?_) (fun c2 => ?_)
      · have c2 := vm_ge_t (a := k) (b := n) (by omega) (by omega) c2
        exact (show False by omega).elim
      · have c2 := vm_ge_f (a := k) (b := n) (by omega) (by omega) c2
        refine vm_J.go vm_q148 (k := 2) (hs := []) (f' := (bif vm_ic .eq 0 0 then 37 else 27, (0, 0), [.ref o, .int (nI i), .ref q, .int (nI j), .int (nI n), .int 0, .int (nI k), .retAddr 0], [])) (h' := (G, (vm_wq I d (vm_mvf I s i j) j k), F)) (hs' := []) rfl rfl ?_
        refine vm_J.bT (by decide) ?_
        refine vm_J.go vm_q148 (k := 2) (hs := []) (f' := (41, (0, 0), [.ref o, .int (nI i), .ref q, .int (nI j), .int (nI n), .int 0, .int (nI k), .int (nI k)], [])) (h' := (G, (vm_wq I d (vm_mvf I s i j) j k), F)) (hs' := []) rfl rfl ?_
        refine vm_J.go vm_q148 (k := 10) (hs := [(10, 3, [.int 0, .int 0, .ref d]), (10, 3, [.int 0, .int 0, .ref s])]) (f' := (57, (0, 0), [.ref o, .int (nI i), .ref q, .int (nI j), .int (nI n), .int 0, .int (nI k), .int (nI k)], [.int ((nI i) + (nI k)), .ref s, .int ((nI j) + (nI k)), .ref d])) (h' := (G, (vm_wq I d (vm_mvf I s i j) j k), F)) (hs' := []) rfl (vm_b2 rfl (vm_b2 (vm_b2 (vm_hG hq) rfl) (vm_b2 rfl (vm_b2 rfl (vm_b2 rfl (vm_b2 rfl (vm_b2 (vm_b2 (vm_hG ho) rfl) (vm_b2 rfl (vm_b2 rfl (vm_b2 rfl rfl)))))))))) ?_
        rw [((vm_pa (rfl : (nI i : Int32) = nI i) (rfl : (nI k : Int32) = nI k)) : (nI i) + (nI k) = nI (i + k)), ((vm_pa (rfl : (nI j : Int32) = nI j) (rfl : (nI k : Int32) = nI k)) : (nI j) + (nI k) = nI (j + k))]
        refine vm_J.call vm_q148 (Z := vm_M152) (n := 2) (k := 1) (mi := 152) (pc := 57) (en := (57, .invokestatic 118, 3, [152, 511, 0], .null)) rfl trivial rfl rfl vm_z152 (av := [.ref s, .int (nI (i + k))]) (rest := [.int (nI (j + k)), .ref d]) (m_at_n (j := i + k) hs (by omega) (by omega)) rfl (Nat.le_of_ble_eq_true rfl) ⟨Nat.le_of_ble_eq_true rfl, Nat.le_of_ble_eq_true rfl⟩ ⟨Nat.le_of_ble_eq_true rfl, Nat.le_of_ble_eq_true rfl⟩ ?_
        show vm_J _ _ _ (60, (0, 0), [.ref o, .int (nI i), .ref q, .int (nI j), .int (nI n), .int 0, .int (nI k), .int (nI k)], [.int ((vm_wq I d (vm_mvf I s i j) j k) s (i + k)), .int (nI (j + k)), .ref d]) (G, (vm_wq I d (vm_mvf I s i j) j k), F) _ _
        refine vm_J.call vm_q148 (Z := vm_M153) (n := 3) (k := 1) (mi := 153) (pc := 60) (en := (60, .invokestatic 92, 3, [153, 464, 0], .null)) rfl trivial rfl rfl vm_z153 (av := [.ref d, .int (nI (j + k)), .int ((vm_wq I d (vm_mvf I s i j) j k) s (i + k))]) (rest := []) (m_put_n (j := j + k) (v := (vm_wq I d (vm_mvf I s i j) j k) s (i + k)) hd (by omega) (by omega)) rfl (Nat.le_of_ble_eq_true rfl) ⟨Nat.le_of_ble_eq_true rfl, Nat.le_of_ble_eq_true rfl⟩ ⟨Nat.le_of_ble_eq_true rfl, Nat.le_of_ble_eq_true rfl⟩ ?_
        show vm_J _ _ _ (63, (0, 0), [.ref o, .int (nI i), .ref q, .int (nI j), .int (nI n), .int 0, .int (nI k), .int (nI k)], []) (G, (vm_up (vm_wq I d (vm_mvf I s i j) j k) d (j + k) ((vm_wq I d (vm_mvf I s i j) j k) s (i + k))), F) _ _
        refine vm_J.go vm_q148 (k := 2) (hs := []) (f' := (15, (0, 0), [.ref o, .int (nI i), .ref q, .int (nI j), .int (nI n), .int 0, .int ((nI k) + 1), .int (nI k)], [])) (h' := (G, (vm_up (vm_wq I d (vm_mvf I s i j) j k) d (j + k) ((vm_wq I d (vm_mvf I s i j) j k) s (i + k))), F)) (hs' := []) rfl rfl ?_
        rw [((vm_pa (rfl : nI k = nI k) (rfl : (1 : Int32) = nI 1)) : (nI k) + 1 = nI (k + 1))]
        refine vm_J.mask [true, true, true, true, true, true, true, false] ?_
        show vm_J _ _ _ (15, (0, 0), [.ref o, .int (nI i), .ref q, .int (nI j), .int (nI n), .int 0, .int (nI (k + 1)), .retAddr 0], []) (G, (vm_up (vm_wq I d (vm_mvf I s i j) j k) d (j + k) ((vm_wq I d (vm_mvf I s i j) j k) s (i + k))), F) _ _
        rw [vm_mv_d I s d i j k (by omega)]
        exact ik trivial
    · show vm_J _ _ _ (15, (0, 0), [.ref o, .int (nI i), .ref q, .int (nI j), .int (nI n), .int 0, .int (nI n), .retAddr 0], []) (G, (vm_wq I d (vm_mvf I s i j) j n), F) _ _
      refine vm_J.go vm_q148 (k := 3) (hs := []) (f' := (bif vm_ic .ge (nI n) (nI n) then 69 else 22, (0, 0), [.ref o, .int (nI i), .ref q, .int (nI j), .int (nI n), .int 0, .int (nI n), .retAddr 0], [])) (h' := (G, (vm_wq I d (vm_mvf I s i j) j n), F)) (hs' := []) rfl rfl ?_
      refine vm_J.br (fun c3 => ?_) (fun c3 => ?_)
      · have c3 := vm_ge_t (a := n) (b := n) (by omega) (by omega) c3
        exact vm_J.end vm_q148 (en := (69, .return_, 1, [], .null)) rfl rfl vm_rV (Nat.zero_le _) (Nat.zero_le _) (by first | rfl | rw [Nat.sub_self, Nat.add_zero])
      · have c3 := vm_ge_f (a := n) (b := n) (by omega) (by omega) c3
        exact (show False by omega).elim
  · have c1 := vm_le_f (a := j) (b := i) (by omega) (by omega) c1
    refine vm_J.go vm_q148 (k := 5) (hs := []) (f' := (15, (0, 0), [.ref o, .int (nI i), .ref q, .int (nI j), .int (nI n), .int 1, .int 0, .retAddr 0], [])) (h' := (G, I, F)) (hs' := []) rfl rfl ?_
    refine vm_J.cnt n (fun k => (15, (0, 0), [.ref o, .int (nI i), .ref q, .int (nI j), .int (nI n), .int 1, .int (nI k), .retAddr 0], [])) (fun k => (G, (vm_wq I d (vm_mvf I s i j) (j + (n - k)) k), F)) (fun _ => True) rfl (by rw [← vm_wq_0]) trivial (fun k hk pk ik => ?_) (fun pk => ?_)
    · show vm_J _ _ _ (15, (0, 0), [.ref o, .int (nI i), .ref q, .int (nI j), .int (nI n), .int 1, .int (nI k), .retAddr 0], []) (G, (vm_wq I d (vm_mvf I s i j) (j + (n - k)) k), F) _ _
      refine vm_J.go vm_q148 (k := 3) (hs := []) (f' := (bif vm_ic .ge (nI k) (nI n) then 69 else 22, (0, 0), [.ref o, .int (nI i), .ref q, .int (nI j), .int (nI n), .int 1, .int (nI k), .retAddr 0], [])) (h' := (G, (vm_wq I d (vm_mvf I s i j) (j + (n - k)) k), F)) (hs' := []) rfl rfl ?_
      refine vm_J.br (fun c4 => ?_) (fun c4 => ?_)
      · have c4 := vm_ge_t (a := k) (b := n) (by omega) (by omega) c4
        exact (show False by omega).elim
      · have c4 := vm_ge_f (a := k) (b := n) (by omega) (by omega) c4
        refine vm_J.go vm_q148 (k := 2) (hs := []) (f' := (bif vm_ic .eq 1 0 then 37 else 27, (0, 0), [.ref o, .int (nI i), .ref q, .int (nI j), .int (nI n), .int 1, .int (nI k), .retAddr 0], [])) (h' := (G, (vm_wq I d (vm_mvf I s i j) (j + (n - k)) k), F)) (hs' := []) rfl rfl ?_
        refine vm_J.bF (by decide) ?_
        refine vm_J.go vm_q148 (k := 7) (hs := []) (f' := (41, (0, 0), [.ref o, .int (nI i), .ref q, .int (nI j), .int (nI n), .int 1, .int (nI k), .int (((nI n) - 1) - (nI k))], [])) (h' := (G, (vm_wq I d (vm_mvf I s i j) (j + (n - k)) k), F)) (hs' := []) rfl rfl ?_
        rw [((vm_ps (vm_ps (rfl : (nI n : Int32) = nI n) (rfl : (1 : Int32) = nI 1) (by omega)) (rfl : (nI k : Int32) = nI k) (by omega)) : ((nI n) - 1) - (nI k) = nI ((n - 1) - k))]
        refine vm_J.go vm_q148 (k := 10) (hs := [(10, 3, [.int 0, .int 0, .ref d]), (10, 3, [.int 0, .int 0, .ref s])]) (f' := (57, (0, 0), [.ref o, .int (nI i), .ref q, .int (nI j), .int (nI n), .int 1, .int (nI k), .int (nI ((n - 1) - k))], [.int ((nI i) + (nI ((n - 1) - k))), .ref s, .int ((nI j) + (nI ((n - 1) - k))), .ref d])) (h' := (G, (vm_wq I d (vm_mvf I s i j) (j + (n - k)) k), F)) (hs' := []) rfl (vm_b2 rfl (vm_b2 (vm_b2 (vm_hG hq) rfl) (vm_b2 rfl (vm_b2 rfl (vm_b2 rfl (vm_b2 rfl (vm_b2 (vm_b2 (vm_hG ho) rfl) (vm_b2 rfl (vm_b2 rfl (vm_b2 rfl rfl)))))))))) ?_
        rw [((vm_pa (rfl : (nI i : Int32) = nI i) (rfl : (nI ((n - 1) - k) : Int32) = nI ((n - 1) - k))) : (nI i) + (nI ((n - 1) - k)) = nI (i + ((n - 1) - k))), ((vm_pa (rfl : (nI j : Int32) = nI j) (rfl : (nI ((n - 1) - k) : Int32) = nI ((n - 1) - k))) : (nI j) + (nI ((n - 1) - k)) = nI (j + ((n - 1) - k)))]
        refine vm_J.call vm_q148 (Z := vm_M152) (n := 2) (k := 1) (mi := 152) (pc := 57) (en := (57, .invokestatic 118, 3, [152, 511, 0], .null)) rfl trivial rfl rfl vm_z152 (av := [.ref s, .int (nI (i + ((n - 1) - k)))]) (rest := [.int (nI (j + ((n - 1) - k))), .ref d]) (m_at_n (j := i + ((n - 1) - k)) hs (by omega) (by omega)) rfl (Nat.le_of_ble_eq_true rfl) ⟨Nat.le_of_ble_eq_true rfl, Nat.le_of_ble_eq_true rfl⟩ ⟨Nat.le_of_ble_eq_true rfl, Nat.le_of_ble_eq_true rfl⟩ ?_
        show vm_J _ _ _ (60, (0, 0), [.ref o, .int (nI i), .ref q, .int (nI j), .int (nI n), .int 1, .int (nI k), .int (nI ((n - 1) - k))], [.int ((vm_wq I d (vm_mvf I s i j) (j + (n - k)) k) s (i + ((n - 1) - k))), .int (nI (j + ((n - 1) - k))), .ref d]) (G, (vm_wq I d (vm_mvf I s i j) (j + (n - k)) k), F) _ _
        refine vm_J.call vm_q148 (Z := vm_M153) (n := 3) (k := 1) (mi := 153) (pc := 60) (en := (60, .invokestatic 92, 3, [153, 464, 0], .null)) rfl trivial rfl rfl vm_z153 (av := [.ref d, .int (nI (j + ((n - 1) - k))), .int ((vm_wq I d (vm_mvf I s i j) (j + (n - k)) k) s (i + ((n - 1) - k)))]) (rest := []) (m_put_n (j := j + ((n - 1) - k)) (v := (vm_wq I d (vm_mvf I s i j) (j + (n - k)) k) s (i + ((n - 1) - k))) hd (by omega) (by omega)) rfl (Nat.le_of_ble_eq_true rfl) ⟨Nat.le_of_ble_eq_true rfl, Nat.le_of_ble_eq_true rfl⟩ ⟨Nat.le_of_ble_eq_true rfl, Nat.le_of_ble_eq_true rfl⟩ ?_
        show vm_J _ _ _ (63, (0, 0), [.ref o, .int (nI i), .ref q, .int (nI j), .int (nI n), .int 1, .int (nI k), .int (nI ((n - 1) - k))], []) (G, (vm_up (vm_wq I d (vm_mvf I s i j) (j + (n - k)) k) d (j + ((n - 1) - k)) ((vm_wq I d (vm_mvf I s i j) (j + (n - k)) k) s (i + ((n - 1) - k)))), F) _ _
        refine vm_J.go vm_q148 (k := 2) (hs := []) (f' := (15, (0, 0), [.ref o, .int (nI i), .ref q, .int (nI j), .int (nI n), .int 1, .int ((nI k) + 1), .int (nI ((n - 1) - k))], [])) (h' := (G, (vm_up (vm_wq I d (vm_mvf I s i j) (j + (n - k)) k) d (j + ((n - 1) - k)) ((vm_wq I d (vm_mvf I s i j) (j + (n - k)) k) s (i + ((n - 1) - k)))), F)) (hs' := []) rfl rfl ?_
        rw [((vm_pa (rfl : nI k = nI k) (rfl : (1 : Int32) = nI 1)) : (nI k) + 1 = nI (k + 1))]
        refine vm_J.mask [true, true, true, true, true, true, true, false] ?_
        show vm_J _ _ _ (15, (0, 0), [.ref o, .int (nI i), .ref q, .int (nI j), .int (nI n), .int 1, .int (nI (k + 1)), .retAddr 0], []) (G, (vm_up (vm_wq I d (vm_mvf I s i j) (j + (n - k)) k) d (j + ((n - 1) - k)) ((vm_wq I d (vm_mvf I s i j) (j + (n - k)) k) s (i + ((n - 1) - k)))), F) _ _
        rw [vm_mv_u I s d i j n k hk c1]
        exact ik trivial
    · show vm_J _ _ _ (15, (0, 0), [.ref o, .int (nI i), .ref q, .int (nI j), .int (nI n), .int 1, .int (nI n), .retAddr 0], []) (G, (vm_wq I d (vm_mvf I s i j) (j + (n - n)) n), F) _ _
      refine vm_J.go vm_q148 (k := 3) (hs := []) (f' := (bif vm_ic .ge (nI n) (nI n) then 69 else 22, (0, 0), [.ref o, .int (nI i), .ref q, .int (nI j), .int (nI n), .int 1, .int (nI n), .retAddr 0], [])) (h' := (G, (vm_wq I d (vm_mvf I s i j) (j + (n - n)) n), F)) (hs' := []) rfl rfl ?_
      refine vm_J.br (fun c5 => ?_) (fun c5 => ?_)
      · have c5 := vm_ge_t (a := n) (b := n) (by omega) (by omega) c5
        exact vm_J.end vm_q148 (en := (69, .return_, 1, [], .null)) rfl rfl vm_rV (Nat.zero_le _) (Nat.zero_le _) (by first | rfl | rw [Nat.sub_self, Nat.add_zero])
      · have c5 := vm_ge_f (a := n) (b := n) (by omega) (by omega) c5
        exact (show False by omega).elim
