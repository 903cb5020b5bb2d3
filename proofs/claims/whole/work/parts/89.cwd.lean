/-- the widest box: the one ahead of all -/
def vm_wb (I : Nat → Nat → Int32) (C : Nat) : Nat → Option Nat
  | 0 => none
  | j + 1 => if 0 < I (C + 4 + j) 4 ∧ (∀ t, vm_wb I C j = some t → sp_ia (I (C + 4 + j) 4) (I (C + 4 + j) 2) (I (C + 4 + j) 5) (I (C + 4 + t) 4) (I (C + 4 + t) 2) (I (C + 4 + t) 5)) then some j else vm_wb I C j
def vm_wv (C : Nat) : Option Nat → Value
  | none => .null
  | some t => .ref (C + 4 + t)
theorem vm_wb_y {I : Nat → Nat → Int32} {C j : Nat} (h : 0 < I (C + 4 + j) 4) (h2 : ∀ t, vm_wb I C j = some t → sp_ia (I (C + 4 + j) 4) (I (C + 4 + j) 2) (I (C + 4 + j) 5) (I (C + 4 + t) 4) (I (C + 4 + t) 2) (I (C + 4 + t) 5)) : vm_wb I C (j + 1) = some j := if_pos ⟨h, h2⟩
theorem vm_wb_n {I : Nat → Nat → Int32} {C j : Nat} (h : ¬ 0 < I (C + 4 + j) 4) : vm_wb I C (j + 1) = vm_wb I C j := if_neg fun z => h z.1
theorem vm_wb_m {I : Nat → Nat → Int32} {C j t : Nat} (hw : vm_wb I C j = some t) (h : ¬ sp_ia (I (C + 4 + j) 4) (I (C + 4 + j) 2) (I (C + 4 + j) 5) (I (C + 4 + t) 4) (I (C + 4 + t) 2) (I (C + 4 + t) 5)) : vm_wb I C (j + 1) = vm_wb I C j := if_neg fun z => h (z.2 t hw)
theorem vm_wb_l {I : Nat → Nat → Int32} {C t : Nat} : ∀ {j : Nat}, vm_wb I C j = some t → t < j
  | 0, h => nomatch h
  | j + 1, h => by
    unfold vm_wb at h
    split at h
    · cases h
      exact Nat.lt_succ_self _
    · exact Nat.lt_succ_of_lt (vm_wb_l h)
set_option maxHeartbeats 4000000 in
set_option maxRecDepth 20000 in
/-- DitherDesk$Cutter.widestBox  -/
theorem m_Cu_widest {l : Launch} {X : vm_Cx} {G : List vm_Sh} {I : Nat → Nat → Int32} {F : Nat → Nat → UInt32} {C n : Nat} (hC : vm_isC G C) (hn : I C 4 = nI n) (hn2 : n ≤ 16) : vm_K l X vm_M11 [.ref C] (G, I, F) (some (vm_wv C (vm_wb I C n))) (G, I, F) := by
  refine vm_K.mk (by decide) (Nat.le_of_ble_eq_true rfl) ?_
  show vm_J _ _ _ (0, (0, 0), [.ref C, .retAddr 0, .retAddr 0, .retAddr 0], []) _ _ _
  refine vm_J.go vm_q11 (k := 4) (hs := []) (f' := (4, (0, 0), [.ref C, .null, .int 0, .retAddr 0], [])) (h' := (G, I, F)) (hs' := []) rfl rfl ?_
  refine vm_J.cnt n (fun j => (4, (0, 0), [.ref C, (vm_wv C (vm_wb I C j)), .int (nI j), .retAddr 0], [])) (fun j => (G, I, F)) (fun _ => True) rfl rfl trivial (fun j hj pj ij => ?_) (fun pj => ?_)
  · show vm_J _ _ _ (4, (0, 0), [.ref C, (vm_wv C (vm_wb I C j)), .int (nI j), .retAddr 0], []) (G, I, F) _ _
    cases hw : vm_wb I C j
    · show vm_J _ _ _ (4, (0, 0), [.ref C, .null, .int (nI j), .retAddr 0], []) (G, I, F) _ _
      refine vm_J.go vm_q11 (k := 4) (hs := [(3, 5, [.ref (C + 1), .ref (C + 2), .int 0, .ref (C + 3), .int 0])]) (f' := (bif vm_ic .ge (nI j) (I C 4) then 49 else 12, (0, 0), [.ref C, .null, .int (nI j), .retAddr 0], [])) (h' := (G, I, F)) (hs' := []) rfl (vm_b2 rfl (vm_b2 rfl (vm_b2 (vm_b2 (vm_hG hC.1) rfl) (vm_b2 rfl rfl)))) ?_
      refine vm_J.br (fun c1 => ?_) (fun c1 => ?_)
      · rw [(hn : I C 4 = nI n)] at c1
        have c1 := vm_ge_t (a := j) (b := n) (by omega) (by omega) c1
        exact (show False by omega).elim
      · rw [(hn : I C 4 = nI n)] at c1
        have c1 := vm_ge_f (a := j) (b := n) (by omega) (by omega) c1
        refine vm_J.go vm_q11 (k := 2) (hs := []) (f' := (14, (0, 0), [.ref C, .null, .int (nI j), .retAddr 0], [.int (nI j), .ref C])) (h' := (G, I, F)) (hs' := []) rfl rfl ?_
        refine vm_J.call vm_q11 (Z := vm_M8) (n := 1) (k := 0) (mi := 8) (pc := 14) (en := (14, .invokevirtual 80, 3, [8, 562, 0], .null)) rfl trivial rfl rfl vm_z8 (av := [.ref C, .int (nI j)]) (rest := []) (m_rawBox_n (p := j) hC (by omega)) ⟨_, _, rfl, rfl, _, 1, _, hC.1, rfl, rfl, rfl⟩ (Nat.le_of_ble_eq_true rfl) ⟨Nat.le_of_ble_eq_true rfl, Nat.le_of_ble_eq_true rfl⟩ ⟨Nat.le_of_ble_eq_true rfl, Nat.le_of_ble_eq_true rfl⟩ ?_
        show vm_J _ _ _ (17, (0, 0), [.ref C, .null, .int (nI j), .retAddr 0], [.ref (C + 4 + j)]) (G, I, F) _ _
        refine vm_J.go vm_q11 (k := 6) (hs := [(2, 6, [.int 0, .int 0, .int 0, .int 0, .int 0, .int 0])]) (f' := (bif vm_ic .le (I (C + 4 + j) 4) 0 then 43 else 29, (0, 0), [.ref C, .null, .int (nI j), .ref (C + 4 + j)], [])) (h' := (G, I, F)) (hs' := []) rfl (vm_b2 rfl (vm_b2 rfl (vm_b2 rfl (vm_b2 rfl (vm_b2 (vm_b2 (vm_hG (hC.2.2.2.2 j (by omega))) rfl) (vm_b2 rfl rfl)))))) ?_
        refine vm_J.br (fun c2 => ?_) (fun c2 => ?_)
        · have c2 : (I (C + 4 + j) 4) ≤ 0 := of_decide_eq_true c2
          refine vm_J.go vm_q11 (k := 2) (hs := []) (f' := (4, (0, 0), [.ref C, .null, .int ((nI j) + 1), .ref (C + 4 + j)], [])) (h' := (G, I, F)) (hs' := []) rfl rfl ?_
          rw [((vm_pa (rfl : nI j = nI j) (rfl : (1 : Int32) = nI 1)) : (nI j) + 1 = nI (j + 1))]
          refine vm_J.mask [true, true, true, false] ?_
          show vm_J _ _ _ (4, (0, 0), [.ref C, .null, .int (nI (j + 1)), .retAddr 0], []) (G, I, F) _ _
          have z := ij trivial
          rw [(vm_wb_n (vm_le_ng c2)), hw] at z
          exact z
        · have c2 : ¬ ((I (C + 4 + j) 4) ≤ 0) := of_decide_eq_false c2
          refine vm_J.go vm_q11 (k := 6) (hs := []) (f' := (4, (0, 0), [.ref C, .ref (C + 4 + j), .int ((nI j) + 1), .ref (C + 4 + j)], [])) (h' := (G, I, F)) (hs' := []) rfl rfl ?_
          rw [((vm_pa (rfl : nI j = nI j) (rfl : (1 : Int32) = nI 1)) : (nI j) + 1 = nI (j + 1))]
          refine vm_J.mask [true, true, true, false] ?_
          show vm_J _ _ _ (4, (0, 0), [.ref C, .ref (C + 4 + j), .int (nI (j + 1)), .retAddr 0], []) (G, I, F) _ _
          have z := ij trivial
          rw [(vm_wb_y (vm_nle_g c2) (fun t ht => nomatch hw.symm.trans ht))] at z
          exact z
    · rename_i t
      show vm_J _ _ _ (4, (0, 0), [.ref C, .ref (C + 4 + t), .int (nI j), .retAddr 0], []) (G, I, F) _ _
      refine vm_J.go vm_q11 (k := 4) (hs := [(3, 5, [.ref (C + 1), .ref (C + 2), .int 0, .ref (C + 3), .int 0])]) (f' := (bif vm_ic .ge (nI j) (I C 4) then 49 else 12, (0, 0), [.ref C, .ref (C + 4 + t), .int (nI j), .retAddr 0], [])) (h' := (G, I, F)) (hs' := []) rfl (vm_b2 rfl (vm_b2 rfl (vm_b2 (vm_b2 (vm_hG hC.1) rfl) (vm_b2 rfl rfl)))) ?_
      refine vm_J.br (fun c3 => ?_) (fun c3 => ?_)
      · rw [(hn : I C 4 = nI n)] at c3
        have c3 := vm_ge_t (a := j) (b := n) (by omega) (by omega) c3
        exact (show False by omega).elim
      · rw [(hn : I C 4 = nI n)] at c3
        have c3 := vm_ge_f (a := j) (b := n) (by omega) (by omega) c3
        refine vm_J.go vm_q11 (k := 2) (hs := []) (f' := (14, (0, 0), [.ref C, .ref (C + 4 + t), .int (nI j), .retAddr 0], [.int (nI j), .ref C])) (h' := (G, I, F)) (hs' := []) rfl rfl ?_
        refine vm_J.call vm_q11 (Z := vm_M8) (n := 1) (k := 0) (mi := 8) (pc := 14) (en := (14, .invokevirtual 80, 3, [8, 562, 0], .null)) rfl trivial rfl rfl vm_z8 (av := [.ref C, .int (nI j)]) (rest := []) (m_rawBox_n (p := j) hC (by omega)) ⟨_, _, rfl, rfl, _, 1, _, hC.1, rfl, rfl, rfl⟩ (Nat.le_of_ble_eq_true rfl) ⟨Nat.le_of_ble_eq_true rfl, Nat.le_of_ble_eq_true rfl⟩ ⟨Nat.le_of_ble_eq_true rfl, Nat.le_of_ble_eq_true rfl⟩ ?_
        show vm_J _ _ _ (17, (0, 0), [.ref C, .ref (C + 4 + t), .int (nI j), .retAddr 0], [.ref (C + 4 + j)]) (G, I, F) _ _
        refine vm_J.go vm_q11 (k := 6) (hs := [(2, 6, [.int 0, .int 0, .int 0, .int 0, .int 0, .int 0])]) (f' := (bif vm_ic .le (I (C + 4 + j) 4) 0 then 43 else 29, (0, 0), [.ref C, .ref (C + 4 + t), .int (nI j), .ref (C + 4 + j)], [])) (h' := (G, I, F)) (hs' := []) rfl (vm_b2 rfl (vm_b2 rfl (vm_b2 rfl (vm_b2 rfl (vm_b2 (vm_b2 (vm_hG (hC.2.2.2.2 j (by omega))) rfl) (vm_b2 rfl rfl)))))) ?_
        refine vm_J.br (fun c4 => ?_) (fun c4 => ?_)
        · have c4 : (I (C + 4 + j) 4) ≤ 0 := of_decide_eq_true c4
          refine vm_J.go vm_q11 (k := 2) (hs := []) (f' := (4, (0, 0), [.ref C, .ref (C + 4 + t), .int ((nI j) + 1), .ref (C + 4 + j)], [])) (h' := (G, I, F)) (hs' := []) rfl rfl ?_
          rw [((vm_pa (rfl : nI j = nI j) (rfl : (1 : Int32) = nI 1)) : (nI j) + 1 = nI (j + 1))]
          refine vm_J.mask [true, true, true, false] ?_
          show vm_J _ _ _ (4, (0, 0), [.ref C, .ref (C + 4 + t), .int (nI (j + 1)), .retAddr 0], []) (G, I, F) _ _
          have z := ij trivial
          rw [(vm_wb_n (vm_le_ng c4)), hw] at z
          exact z
        · have c4 : ¬ ((I (C + 4 + j) 4) ≤ 0) := of_decide_eq_false c4
          refine vm_J.go vm_q11 (k := 4) (hs := []) (f' := (35, (0, 0), [.ref C, .ref (C + 4 + t), .int (nI j), .ref (C + 4 + j)], [.ref (C + 4 + t), .ref (C + 4 + j)])) (h' := (G, I, F)) (hs' := []) rfl rfl ?_
          refine vm_J.call vm_q11 (Z := vm_M12) (n := 2) (k := 1) (mi := 12) (pc := 35) (en := (35, .invokestatic 115, 3, [12, 586, 0], .null)) rfl trivial rfl rfl vm_z12 (av := [.ref (C + 4 + j), .ref (C + 4 + t)]) (rest := []) (m_isAhead (b := C + 4 + j) (d := C + 4 + t) (hC.2.2.2.2 j (by omega)) (hC.2.2.2.2 t (by have := vm_wb_l hw; omega))) rfl (Nat.le_of_ble_eq_true rfl) ⟨Nat.le_of_ble_eq_true rfl, Nat.le_of_ble_eq_true rfl⟩ ⟨Nat.le_of_ble_eq_true rfl, Nat.le_of_ble_eq_true rfl⟩ ?_
          show vm_J _ _ _ (38, (0, 0), [.ref C, .ref (C + 4 + t), .int (nI j), .ref (C + 4 + j)], [.int (vm_bi (sp_ia (I (C + 4 + j) 4) (I (C + 4 + j) 2) (I (C + 4 + j) 5) (I (C + 4 + t) 4) (I (C + 4 + t) 2) (I (C + 4 + t) 5)))]) (G, I, F) _ _
          refine vm_J.go vm_q11 (k := 1) (hs := []) (f' := (bif vm_ic .eq (vm_bi (sp_ia (I (C + 4 + j) 4) (I (C + 4 + j) 2) (I (C + 4 + j) 5) (I (C + 4 + t) 4) (I (C + 4 + t) 2) (I (C + 4 + t) 5))) 0 then 43 else 41, (0, 0), [.ref C, .ref (C + 4 + t), .int (nI j), .ref (C + 4 + j)], [])) (h' := (G, I, F)) (hs' := []) rfl rfl ?_
          refine vm_J.br (fun c5 => ?_) (fun c5 => ?_)
          · have c5 := vm_bi_eq_t c5
            refine vm_J.go vm_q11 (k := 2) (hs := []) (f' := (4, (0, 0), [.ref C, .ref (C + 4 + t), .int ((nI j) + 1), .ref (C + 4 + j)], [])) (h' := (G, I, F)) (hs' := []) rfl rfl ?_
            rw [((vm_pa (rfl : nI j = nI j) (rfl : (1 : Int32) = nI 1)) : (nI j) + 1 = nI (j + 1))]
            refine vm_J.mask [true, true, true, false] ?_
            show vm_J _ _ _ (4, (0, 0), [.ref C, .ref (C + 4 + t), .int (nI (j + 1)), .retAddr 0], []) (G, I, F) _ _
            have z := ij trivial
            rw [(vm_wb_m hw c5), hw] at z
            exact z
          · have c5 := vm_bi_eq_f c5
            refine vm_J.go vm_q11 (k := 4) (hs := []) (f' := (4, (0, 0), [.ref C, .ref (C + 4 + j), .int ((nI j) + 1), .ref (C + 4 + j)], [])) (h' := (G, I, F)) (hs' := []) rfl rfl ?_
            rw [((vm_pa (rfl : nI j = nI j) (rfl : (1 : Int32) = nI 1)) : (nI j) + 1 = nI (j + 1))]
            refine vm_J.mask [true, true, true, false] ?_
            show vm_J _ _ _ (4, (0, 0), [.ref C, .ref (C + 4 + j), .int (nI (j + 1)), .retAddr 0], []) (G, I, F) _ _
            have z := ij trivial
            rw [(vm_wb_y (vm_nle_g c4) (fun t ht => (Option.some.inj (hw.symm.trans ht)) ▸ c5))] at z
            exact z
  · show vm_J _ _ _ (4, (0, 0), [.ref C, (vm_wv C (vm_wb I C n)), .int (nI n), .retAddr 0], []) (G, I, F) _ _
    refine vm_J.go vm_q11 (k := 4) (hs := [(3, 5, [.ref (C + 1), .ref (C + 2), .int 0, .ref (C + 3), .int 0])]) (f' := (bif vm_ic .ge (nI n) (I C 4) then 49 else 12, (0, 0), [.ref C, (vm_wv C (vm_wb I C n)), .int (nI n), .retAddr 0], [])) (h' := (G, I, F)) (hs' := []) rfl (vm_b2 rfl (vm_b2 rfl (vm_b2 (vm_b2 (vm_hG hC.1) rfl) (vm_b2 rfl rfl)))) ?_
    refine vm_J.br (fun c6 => ?_) (fun c6 => ?_)
    · rw [(hn : I C 4 = nI n)] at c6
      have c6 := vm_ge_t (a := n) (b := n) (by omega) (by omega) c6
      cases hw : vm_wb I C n
      · show vm_J _ _ _ (49, (0, 0), [.ref C, .null, .int (nI n), .retAddr 0], []) (G, I, F) _ _
        refine vm_J.go vm_q11 (k := 1) (hs := []) (f' := (50, (0, 0), [.ref C, .null, .int (nI n), .retAddr 0], [.null])) (h' := (G, I, F)) (hs' := []) rfl rfl ?_
        exact vm_J.end vm_q11 (en := (50, .areturn, 1, [], .null)) rfl rfl vm_rN (Nat.zero_le _) (Nat.zero_le _) rfl
      · rename_i t
        show vm_J _ _ _ (49, (0, 0), [.ref C, .ref (C + 4 + t), .int (nI n), .retAddr 0], []) (G, I, F) _ _
        refine vm_J.go vm_q11 (k := 1) (hs := []) (f' := (50, (0, 0), [.ref C, .ref (C + 4 + t), .int (nI n), .retAddr 0], [.ref (C + 4 + t)])) (h' := (G, I, F)) (hs' := []) rfl rfl ?_
        exact vm_J.end vm_q11 (en := (50, .areturn, 1, [], .null)) rfl rfl vm_rA (Nat.zero_le _) (Nat.zero_le _) rfl
    · rw [(hn : I C 4 = nI n)] at c6
      have c6 := vm_ge_f (a := n) (b := n) (by omega) (by omega) c6
      exact (show False by omega).elim
/-- how far a colour goes down in its box -/
def sp_ip (f : Nat → Int32) (k : Int32) (x i : Nat) : Nat := sp_fi (fun t => ¬ sp_bh (f (i - t - 1)) (f i) k) (i - x)
def vm_is1 (I : Nat → Nat → Int32) (a b : Nat) (k : Int32) (x i s : Nat) : Nat → Nat → Int32 := vm_up (vm_up (vm_tw2 I a b i s) a (i - s) (I a i)) b (i - s) (I b i)
def vm_srt (I : Nat → Nat → Int32) (a b : Nat) (k : Int32) (x : Nat) : Nat → Nat → Nat → Int32
  | 0 => I
  | j + 1 => vm_is1 (vm_srt I a b k x j) a b k x (x + 1 + j) (sp_ip (vm_srt I a b k x j a) k x (x + 1 + j))
theorem vm_srt_s {I : Nat → Nat → Int32} {a b : Nat} {k : Int32} {x j s : Nat} (h : sp_ip (vm_srt I a b k x j a) k x (x + 1 + j) = s) : vm_srt I a b k x (j + 1) = vm_is1 (vm_srt I a b k x j) a b k x (x + 1 + j) s := by
  rw [← h]
  rfl
theorem vm_srt_o (I : Nat → Nat → Int32) (a b : Nat) (k : Int32) (x q : Nat) (h1 : q ≠ a) (h2 : q ≠ b) : ∀ j, vm_srt I a b k x j q = I q
  | 0 => rfl
  | j + 1 => by
    unfold vm_srt vm_is1
    rw [vm_up_f _ _ _ _ _ h2, vm_up_f _ _ _ _ _ h1]
    exact (funext fun z => vm_tw2_o _ _ _ _ _ _ h1 h2 z).trans (vm_srt_o I a b k x q h1 h2 j)
theorem vm_tw2_l (I : Nat → Nat → Int32) (a b n j : Nat) (hab : a ≠ b) (hj : j < n) : vm_tw2 I a b n j a (n - j - 1) = I a (n - j - 1) := by
  unfold vm_tw2
  rw [vm_wq_o _ _ _ _ _ _ hab, vm_wq_l _ _ _ _ _ _ (by omega)]
theorem sp_ip_h {f : Nat → Int32} {k : Int32} {x i t : Nat} (ht : t < i - x) (h : ∀ u, u < t → sp_bh (f (i - u - 1)) (f i) k) (hn : ¬ sp_bh (f (i - t - 1)) (f i) k) : sp_ip f k x i = t := sp_fi_hit (p := fun t => ¬ sp_bh (f (i - t - 1)) (f i) k) ht (fun u hu z => z (h u hu)) hn
theorem sp_ip_0 {f : Nat → Int32} {k : Int32} {x i : Nat} (h : ∀ u, u < i - x → sp_bh (f (i - u - 1)) (f i) k) : sp_ip f k x i = i - x := sp_fi_none (p := fun t => ¬ sp_bh (f (i - t - 1)) (f i) k) fun u hu z => z (h u hu)
set_option maxHeartbeats 4000000 in
set_option maxRecDepth 20000 in
/-- DitherDesk$Cutter.sortByChannel -/
theorem m_Cu_sort {l : Launch} {X : vm_Cx} {G : List vm_Sh} {I : Nat → Nat → Int32} {F : Nat → Nat → UInt32} {C : Nat} {b : Nat} {x : Nat} {y : Nat} {k : Int32} (hC : vm_isC G C) (hb : G[b]? = some (2, 6, [.int 0, .int 0, .int 0, .int 0, .int 0, .int 0])) (hx : I b 0 = nI x) (hy : I b 1 = nI y) (hxy : x < y) (hy2 : y ≤ 144) (hk : I b 3 = k) (hb1 : b ≠ C + 1) (hb2 : b ≠ C + 2) : vm_K l X vm_M13 [.ref C, .ref b] (G, I, F) (none) (G, (vm_srt I (C + 1) (C + 2) k x (y - 1 - x)), F) := by
  refine vm_K.mk (by decide) (Nat.le_of_ble_eq_true rfl) ?_
  show vm_J _ _ _ (0, (0, 0), [.ref C, .ref b, .retAddr 0, .retAddr 0, .retAddr 0, .retAddr 0], []) _ _ _
  refine vm_J.go vm_q13 (k := 2) (hs := [(2, 6, [.int 0, .int 0, .int 0, .int 0, .int 0, .int 0])]) (f' := (4, (0, 0), [.ref C, .ref b, .retAddr 0, .retAddr 0, .retAddr 0, .retAddr 0], [.int (I b 0)])) (h' := (G, I, F)) (hs' := []) rfl (vm_b2 rfl (vm_b2 (vm_b2 (vm_hG hb) rfl) rfl)) ?_
  rw [(hx : I b 0 = nI x)]
  refine vm_J.go vm_q13 (k := 3) (hs := []) (f' := (7, (0, 0), [.ref C, .ref b, .int ((nI x) + 1), .retAddr 0, .retAddr 0, .retAddr 0], [])) (h' := (G, I, F)) (hs' := []) rfl rfl ?_
  rw [((vm_pa (rfl : (nI x : Int32) = nI x) (rfl : (1 : Int32) = nI 1)) : (nI x) + 1 = nI (x + 1))]
  refine vm_J.cnt (y - 1 - x) (fun j => (7, (0, 0), [.ref C, .ref b, .int (nI (x + 1 + j)), .retAddr 0, .retAddr 0, .retAddr 0], [])) (fun j => (G, (vm_srt I (C + 1) (C + 2) k x j), F)) (fun _ => True) rfl rfl trivial (fun j hj pj ij => ?_) (fun pj => ?_)
  · show vm_J _ _ _ (7, (0, 0), [.ref C, .ref b, .int (nI (x + 1 + j)), .retAddr 0, .retAddr 0, .retAddr 0], []) (G, (vm_srt I (C + 1) (C + 2) k x j), F) _ _
    refine vm_J.go vm_q13 (k := 3) (hs := [(2, 6, [.int 0, .int 0, .int 0, .int 0, .int 0, .int 0])]) (f' := (12, (0, 0), [.ref C, .ref b, .int (nI (x + 1 + j)), .retAddr 0, .retAddr 0, .retAddr 0], [.int ((vm_srt I (C + 1) (C + 2) k x j) b 1), .int (nI (x + 1 + j))])) (h' := (G, (vm_srt I (C + 1) (C + 2) k x j), F)) (hs' := []) rfl (vm_b2 rfl (vm_b2 rfl (vm_b2 (vm_b2 (vm_hG hb) rfl) rfl))) ?_
    rw [((Eq.trans (congrFun (vm_srt_o _ _ _ _ _ b (by omega) (by omega) _) 1) hy) : (vm_srt I (C + 1) (C + 2) k x j) b 1 = nI y)]
    refine vm_J.go vm_q13 (k := 1) (hs := []) (f' := (bif vm_ic .ge (nI (x + 1 + j)) (nI y) then 141 else 15, (0, 0), [.ref C, .ref b, .int (nI (x + 1 + j)), .retAddr 0, .retAddr 0, .retAddr 0], [])) (h' := (G, (vm_srt I (C + 1) (C + 2) k x j), F)) (hs' := []) rfl rfl ?_
    refine vm_J.br (fun c1 => ?_) (fun c1 => ?_)
    · have c1 := vm_ge_t (a := x + 1 + j) (b := y) (by omega) (by omega) c1
      exact (show False by omega).elim
    · have c1 := vm_ge_f (a := x + 1 + j) (b := y) (by omega) (by omega) c1
      refine vm_J.go vm_q13 (k := 3) (hs := [(3, 5, [.ref (C + 1), .ref (C + 2), .int 0, .ref (C + 3), .int 0])]) (f' := (20, (0, 0), [.ref C, .ref b, .int (nI (x + 1 + j)), .retAddr 0, .retAddr 0, .retAddr 0], [.int (nI (x + 1 + j)), .ref (C + 1)])) (h' := (G, (vm_srt I (C + 1) (C + 2) k x j), F)) (hs' := []) rfl (vm_b2 rfl (vm_b2 (vm_b2 (vm_hG hC.1) rfl) (vm_b2 rfl rfl))) ?_
      refine vm_J.call vm_q13 (Z := vm_M152) (n := 2) (k := 1) (mi := 152) (pc := 20) (en := (20, .invokestatic 35, 3, [152, 505, 1], .null)) rfl trivial rfl rfl vm_z152 (av := [.ref (C + 1), .int (nI (x + 1 + j))]) (rest := []) (m_at_n (j := x + 1 + j) hC.2.1 (by omega) (by omega)) rfl (Nat.le_of_ble_eq_true rfl) ⟨Nat.le_of_ble_eq_true rfl, Nat.le_of_ble_eq_true rfl⟩ ⟨Nat.le_of_ble_eq_true rfl, Nat.le_of_ble_eq_true rfl⟩ ?_
      show vm_J _ _ _ (23, (0, 0), [.ref C, .ref b, .int (nI (x + 1 + j)), .retAddr 0, .retAddr 0, .retAddr 0], [.int ((vm_srt I (C + 1) (C + 2) k x j) (C + 1) (x + 1 + j))]) (G, (vm_srt I (C + 1) (C + 2) k x j), F) _ _
      refine vm_J.go vm_q13 (k := 4) (hs := [(3, 5, [.ref (C + 1), .ref (C + 2), .int 0, .ref (C + 3), .int 0])]) (f' := (29, (0, 0), [.ref C, .ref b, .int (nI (x + 1 + j)), .int ((vm_srt I (C + 1) (C + 2) k x j) (C + 1) (x + 1 + j)), .retAddr 0, .retAddr 0], [.int (nI (x + 1 + j)), .ref (C + 2)])) (h' := (G, (vm_srt I (C + 1) (C + 2) k x j), F)) (hs' := []) rfl (vm_b2 rfl (vm_b2 rfl (vm_b2 (vm_b2 (vm_hG hC.1) rfl) (vm_b2 rfl rfl)))) ?_
      refine vm_J.call vm_q13 (Z := vm_M152) (n := 2) (k := 1) (mi := 152) (pc := 29) (en := (29, .invokestatic 35, 3, [152, 505, 1], .null)) rfl trivial rfl rfl vm_z152 (av := [.ref (C + 2), .int (nI (x + 1 + j))]) (rest := []) (m_at_n (j := x + 1 + j) hC.2.2.1 (by omega) (by omega)) rfl (Nat.le_of_ble_eq_true rfl) ⟨Nat.le_of_ble_eq_true rfl, Nat.le_of_ble_eq_true rfl⟩ ⟨Nat.le_of_ble_eq_true rfl, Nat.le_of_ble_eq_true rfl⟩ ?_
      show vm_J _ _ _ (32, (0, 0), [.ref C, .ref b, .int (nI (x + 1 + j)), .int ((vm_srt I (C + 1) (C + 2) k x j) (C + 1) (x + 1 + j)), .retAddr 0, .retAddr 0], [.int ((vm_srt I (C + 1) (C + 2) k x j) (C + 2) (x + 1 + j))]) (G, (vm_srt I (C + 1) (C + 2) k x j), F) _ _
      refine vm_J.go vm_q13 (k := 3) (hs := []) (f' := (37, (0, 0), [.ref C, .ref b, .int (nI (x + 1 + j)), .int ((vm_srt I (C + 1) (C + 2) k x j) (C + 1) (x + 1 + j)), .int ((vm_srt I (C + 1) (C + 2) k x j) (C + 2) (x + 1 + j)), .int (nI (x + 1 + j))], [])) (h' := (G, (vm_srt I (C + 1) (C + 2) k x j), F)) (hs' := []) rfl rfl ?_
      refine vm_J.cnt (1 + j) (fun t => (37, (0, 0), [.ref C, .ref b, .int (nI (x + 1 + j)), .int ((vm_srt I (C + 1) (C + 2) k x j) (C + 1) (x + 1 + j)), .int ((vm_srt I (C + 1) (C + 2) k x j) (C + 2) (x + 1 + j)), .int (nI (x + 1 + j - t))], [])) (fun t => (G, (vm_tw2 (vm_srt I (C + 1) (C + 2) k x j) (C + 1) (C + 2) (x + 1 + j) t), F)) (fun t => ∀ u_, u_ < t → (fun u_ => sp_bh ((vm_srt I (C + 1) (C + 2) k x j) (C + 1) (x + 1 + j - u_ - 1)) ((vm_srt I (C + 1) (C + 2) k x j) (C + 1) (x + 1 + j)) k) u_) rfl (by rw [← vm_tw2_0]) vm_all0 (fun t ht pt it => ?_) (fun pt => ?_)
      · show vm_J _ _ _ (37, (0, 0), [.ref C, .ref b, .int (nI (x + 1 + j)), .int ((vm_srt I (C + 1) (C + 2) k x j) (C + 1) (x + 1 + j)), .int ((vm_srt I (C + 1) (C + 2) k x j) (C + 2) (x + 1 + j)), .int (nI (x + 1 + j - t))], []) (G, (vm_tw2 (vm_srt I (C + 1) (C + 2) k x j) (C + 1) (C + 2) (x + 1 + j) t), F) _ _
        refine vm_J.go vm_q13 (k := 3) (hs := [(2, 6, [.int 0, .int 0, .int 0, .int 0, .int 0, .int 0])]) (f' := (43, (0, 0), [.ref C, .ref b, .int (nI (x + 1 + j)), .int ((vm_srt I (C + 1) (C + 2) k x j) (C + 1) (x + 1 + j)), .int ((vm_srt I (C + 1) (C + 2) k x j) (C + 2) (x + 1 + j)), .int (nI (x + 1 + j - t))], [.int ((vm_tw2 (vm_srt I (C + 1) (C + 2) k x j) (C + 1) (C + 2) (x + 1 + j) t) b 0), .int (nI (x + 1 + j - t))])) (h' := (G, (vm_tw2 (vm_srt I (C + 1) (C + 2) k x j) (C + 1) (C + 2) (x + 1 + j) t), F)) (hs' := []) rfl (vm_b2 rfl (vm_b2 rfl (vm_b2 (vm_b2 (vm_hG hb) rfl) rfl))) ?_
        rw [((Eq.trans (congrFun (funext fun z => vm_tw2_o _ _ _ _ _ b (by omega) (by omega) z) 0) (Eq.trans (congrFun (vm_srt_o _ _ _ _ _ b (by omega) (by omega) _) 0) hx)) : (vm_tw2 (vm_srt I (C + 1) (C + 2) k x j) (C + 1) (C + 2) (x + 1 + j) t) b 0 = nI x)]
        refine vm_J.go vm_q13 (k := 1) (hs := []) (f' := (bif vm_ic .le (nI (x + 1 + j - t)) (nI x) then 114 else 46, (0, 0), [.ref C, .ref b, .int (nI (x + 1 + j)), .int ((vm_srt I (C + 1) (C + 2) k x j) (C + 1) (x + 1 + j)), .int ((vm_srt I (C + 1) (C + 2) k x j) (C + 2) (x + 1 + j)), .int (nI (x + 1 + j - t))], [])) (h' := (G, (vm_tw2 (vm_srt I (C + 1) (C + 2) k x j) (C + 1) (C + 2) (x + 1 + j) t), F)) (hs' := []) rfl rfl ?_
        refine vm_J.br (fun c2 => ?_) (fun c2 => ?_)
        · have c2 := vm_le_t (a := x + 1 + j - t) (b := x) (by omega) (by omega) c2
          exact (show False by omega).elim
        · have c2 := vm_le_f (a := x + 1 + j - t) (b := x) (by omega) (by omega) c2
          refine vm_J.go vm_q13 (k := 5) (hs := [(3, 5, [.ref (C + 1), .ref (C + 2), .int 0, .ref (C + 3), .int 0])]) (f' := (54, (0, 0), [.ref C, .ref b, .int (nI (x + 1 + j)), .int ((vm_srt I (C + 1) (C + 2) k x j) (C + 1) (x + 1 + j)), .int ((vm_srt I (C + 1) (C + 2) k x j) (C + 2) (x + 1 + j)), .int (nI (x + 1 + j - t))], [.int ((nI (x + 1 + j - t)) - 1), .ref (C + 1)])) (h' := (G, (vm_tw2 (vm_srt I (C + 1) (C + 2) k x j) (C + 1) (C + 2) (x + 1 + j) t), F)) (hs' := []) rfl (vm_b2 rfl (vm_b2 (vm_b2 (vm_hG hC.1) rfl) (vm_b2 rfl (vm_b2 rfl (vm_b2 rfl rfl))))) ?_
          rw [((vm_ps (rfl : (nI (x + 1 + j - t) : Int32) = nI (x + 1 + j - t)) (rfl : (1 : Int32) = nI 1) (by omega)) : (nI (x + 1 + j - t)) - 1 = nI ((x + 1 + j - t) - 1))]
          refine vm_J.call vm_q13 (Z := vm_M152) (n := 2) (k := 1) (mi := 152) (pc := 54) (en := (54, .invokestatic 35, 3, [152, 505, 1], .null)) rfl trivial rfl rfl vm_z152 (av := [.ref (C + 1), .int (nI ((x + 1 + j - t) - 1))]) (rest := []) (m_at_n (j := (x + 1 + j - t) - 1) hC.2.1 (by omega) (by omega)) rfl (Nat.le_of_ble_eq_true rfl) ⟨Nat.le_of_ble_eq_true rfl, Nat.le_of_ble_eq_true rfl⟩ ⟨Nat.le_of_ble_eq_true rfl, Nat.le_of_ble_eq_true rfl⟩ ?_
          show vm_J _ _ _ (57, (0, 0), [.ref C, .ref b, .int (nI (x + 1 + j)), .int ((vm_srt I (C + 1) (C + 2) k x j) (C + 1) (x + 1 + j)), .int ((vm_srt I (C + 1) (C + 2) k x j) (C + 2) (x + 1 + j)), .int (nI (x + 1 + j - t))], [.int ((vm_tw2 (vm_srt I (C + 1) (C + 2) k x j) (C + 1) (C + 2) (x + 1 + j) t) (C + 1) ((x + 1 + j - t) - 1))]) (G, (vm_tw2 (vm_srt I (C + 1) (C + 2) k x j) (C + 1) (C + 2) (x + 1 + j) t), F) _ _
          rw [show (vm_tw2 (vm_srt I (C + 1) (C + 2) k x j) (C + 1) (C + 2) (x + 1 + j) t) (C + 1) (x + 1 + j - t - 1) = (vm_srt I (C + 1) (C + 2) k x j) (C + 1) (x + 1 + j - t - 1) from vm_tw2_l _ _ _ _ _ (by omega) (by omega)]
          show vm_J _ _ _ (57, (0, 0), [.ref C, .ref b, .int (nI (x + 1 + j)), .int ((vm_srt I (C + 1) (C + 2) k x j) (C + 1) (x + 1 + j)), .int ((vm_srt I (C + 1) (C + 2) k x j) (C + 2) (x + 1 + j)), .int (nI (x + 1 + j - t))], [.int ((vm_srt I (C + 1) (C + 2) k x j) (C + 1) (x + 1 + j - t - 1))]) (G, (vm_tw2 (vm_srt I (C + 1) (C + 2) k x j) (C + 1) (C + 2) (x + 1 + j) t), F) _ _
          refine vm_J.go vm_q13 (k := 3) (hs := [(2, 6, [.int 0, .int 0, .int 0, .int 0, .int 0, .int 0])]) (f' := (62, (0, 0), [.ref C, .ref b, .int (nI (x + 1 + j)), .int ((vm_srt I (C + 1) (C + 2) k x j) (C + 1) (x + 1 + j)), .int ((vm_srt I (C + 1) (C + 2) k x j) (C + 2) (x + 1 + j)), .int (nI (x + 1 + j - t))], [.int ((vm_tw2 (vm_srt I (C + 1) (C + 2) k x j) (C + 1) (C + 2) (x + 1 + j) t) b 3), .int ((vm_srt I (C + 1) (C + 2) k x j) (C + 1) (x + 1 + j)), .int ((vm_srt I (C + 1) (C + 2) k x j) (C + 1) (x + 1 + j - t - 1))])) (h' := (G, (vm_tw2 (vm_srt I (C + 1) (C + 2) k x j) (C + 1) (C + 2) (x + 1 + j) t), F)) (hs' := []) rfl (vm_b2 rfl (vm_b2 rfl (vm_b2 (vm_b2 (vm_hG hb) rfl) rfl))) ?_
          rw [((Eq.trans (congrFun (funext fun z => vm_tw2_o _ _ _ _ _ b (by omega) (by omega) z) 3) (Eq.trans (congrFun (vm_srt_o _ _ _ _ _ b (by omega) (by omega) _) 3) hk)) : (vm_tw2 (vm_srt I (C + 1) (C + 2) k x j) (C + 1) (C + 2) (x + 1 + j) t) b 3 = k)]
          refine vm_J.call vm_q13 (Z := vm_M14) (n := 3) (k := 1) (mi := 14) (pc := 62) (en := (62, .invokestatic 119, 3, [14, 593, 0], .null)) rfl trivial rfl rfl vm_z14 (av := [.int ((vm_srt I (C + 1) (C + 2) k x j) (C + 1) (x + 1 + j - t - 1)), .int ((vm_srt I (C + 1) (C + 2) k x j) (C + 1) (x + 1 + j)), .int k]) (rest := []) (m_isBehind (c := (vm_srt I (C + 1) (C + 2) k x j) (C + 1) (x + 1 + j - t - 1)) (o := (vm_srt I (C + 1) (C + 2) k x j) (C + 1) (x + 1 + j)) (k := k)) rfl (Nat.le_of_ble_eq_true rfl) ⟨Nat.le_of_ble_eq_true rfl, Nat.le_of_ble_eq_true rfl⟩ ⟨Nat.le_of_ble_eq_true rfl, Nat.le_of_ble_eq_true rfl⟩ ?_
          show vm_J _ _ _ (65, (0, 0), [.ref C, .ref b, .int (nI (x + 1 + j)), .int ((vm_srt I (C + 1) (C + 2) k x j) (C + 1) (x + 1 + j)), .int ((vm_srt I (C + 1) (C + 2) k x j) (C + 2) (x + 1 + j)), .int (nI (x + 1 + j - t))], [.int (vm_bi (sp_bh ((vm_srt I (C + 1) (C + 2) k x j) (C + 1) (x + 1 + j - t - 1)) ((vm_srt I (C + 1) (C + 2) k x j) (C + 1) (x + 1 + j)) k))]) (G, (vm_tw2 (vm_srt I (C + 1) (C + 2) k x j) (C + 1) (C + 2) (x + 1 + j) t), F) _ _
          refine vm_J.go vm_q13 (k := 1) (hs := []) (f' := (bif vm_ic .eq (vm_bi (sp_bh ((vm_srt I (C + 1) (C + 2) k x j) (C + 1) (x + 1 + j - t - 1)) ((vm_srt I (C + 1) (C + 2) k x j) (C + 1) (x + 1 + j)) k)) 0 then 114 else 68, (0, 0), [.ref C, .ref b, .int (nI (x + 1 + j)), .int ((vm_srt I (C + 1) (C + 2) k x j) (C + 1) (x + 1 + j)), .int ((vm_srt I (C + 1) (C + 2) k x j) (C + 2) (x + 1 + j)), .int (nI (x + 1 + j - t))], [])) (h' := (G, (vm_tw2 (vm_srt I (C + 1) (C + 2) k x j) (C + 1) (C + 2) (x + 1 + j) t), F)) (hs' := []) rfl rfl ?_
          refine vm_J.br (fun c3 => ?_) (fun c3 => ?_)
          · have c3 := vm_bi_eq_t c3
            refine vm_J.go vm_q13 (k := 4) (hs := [(3, 5, [.ref (C + 1), .ref (C + 2), .int 0, .ref (C + 3), .int 0])]) (f' := (121, (0, 0), [.ref C, .ref b, .int (nI (x + 1 + j)), .int ((vm_srt I (C + 1) (C + 2) k x j) (C + 1) (x + 1 + j)), .int ((vm_srt I (C + 1) (C + 2) k x j) (C + 2) (x + 1 + j)), .int (nI (x + 1 + j - t))], [.int ((vm_srt I (C + 1) (C + 2) k x j) (C + 1) (x + 1 + j)), .int (nI (x + 1 + j - t)), .ref (C + 1)])) (h' := (G, (vm_tw2 (vm_srt I (C + 1) (C + 2) k x j) (C + 1) (C + 2) (x + 1 + j) t), F)) (hs' := []) rfl (vm_b2 rfl (vm_b2 (vm_b2 (vm_hG hC.1) rfl) (vm_b2 rfl (vm_b2 rfl rfl)))) ?_
            refine vm_J.call vm_q13 (Z := vm_M153) (n := 3) (k := 1) (mi := 153) (pc := 121) (en := (121, .invokestatic 43, 3, [153, 510, 1], .null)) rfl trivial rfl rfl vm_z153 (av := [.ref (C + 1), .int (nI (x + 1 + j - t)), .int ((vm_srt I (C + 1) (C + 2) k x j) (C + 1) (x + 1 + j))]) (rest := []) (m_put_n (j := x + 1 + j - t) (v := (vm_srt I (C + 1) (C + 2) k x j) (C + 1) (x + 1 + j)) hC.2.1 (by omega) (by omega)) rfl (Nat.le_of_ble_eq_true rfl) ⟨Nat.le_of_ble_eq_true rfl, Nat.le_of_ble_eq_true rfl⟩ ⟨Nat.le_of_ble_eq_true rfl, Nat.le_of_ble_eq_true rfl⟩ ?_
            show vm_J _ _ _ (124, (0, 0), [.ref C, .ref b, .int (nI (x + 1 + j)), .int ((vm_srt I (C + 1) (C + 2) k x j) (C + 1) (x + 1 + j)), .int ((vm_srt I (C + 1) (C + 2) k x j) (C + 2) (x + 1 + j)), .int (nI (x + 1 + j - t))], []) (G, (vm_up (vm_tw2 (vm_srt I (C + 1) (C + 2) k x j) (C + 1) (C + 2) (x + 1 + j) t) (C + 1) (x + 1 + j - t) ((vm_srt I (C + 1) (C + 2) k x j) (C + 1) (x + 1 + j))), F) _ _
            refine vm_J.go vm_q13 (k := 4) (hs := [(3, 5, [.ref (C + 1), .ref (C + 2), .int 0, .ref (C + 3), .int 0])]) (f' := (132, (0, 0), [.ref C, .ref b, .int (nI (x + 1 + j)), .int ((vm_srt I (C + 1) (C + 2) k x j) (C + 1) (x + 1 + j)), .int ((vm_srt I (C + 1) (C + 2) k x j) (C + 2) (x + 1 + j)), .int (nI (x + 1 + j - t))], [.int ((vm_srt I (C + 1) (C + 2) k x j) (C + 2) (x + 1 + j)), .int (nI (x + 1 + j - t)), .ref (C + 2)])) (h' := (G, (vm_up (vm_tw2 (vm_srt I (C + 1) (C + 2) k x j) (C + 1) (C + 2) (x + 1 + j) t) (C + 1) (x + 1 + j - t) ((vm_srt I (C + 1) (C + 2) k x j) (C + 1) (x + 1 + j))), F)) (hs' := []) rfl (vm_b2 rfl (vm_b2 (vm_b2 (vm_hG hC.1) rfl) (vm_b2 rfl (vm_b2 rfl rfl)))) ?_
            refine vm_J.call vm_q13 (Z := vm_M153) (n := 3) (k := 1) (mi := 153) (pc := 132) (en := (132, .invokestatic 43, 3, [153, 510, 1], .null)) rfl trivial rfl rfl vm_z153 (av := [.ref (C + 2), .int (nI (x + 1 + j - t)), .int ((vm_srt I (C + 1) (C + 2) k x j) (C + 2) (x + 1 + j))]) (rest := []) (m_put_n (j := x + 1 + j - t) (v := (vm_srt I (C + 1) (C + 2) k x j) (C + 2) (x + 1 + j)) hC.2.2.1 (by omega) (by omega)) rfl (Nat.le_of_ble_eq_true rfl) ⟨Nat.le_of_ble_eq_true rfl, Nat.le_of_ble_eq_true rfl⟩ ⟨Nat.le_of_ble_eq_true rfl, Nat.le_of_ble_eq_true rfl⟩ ?_
            show vm_J _ _ _ (135, (0, 0), [.ref C, .ref b, .int (nI (x + 1 + j)), .int ((vm_srt I (C + 1) (C + 2) k x j) (C + 1) (x + 1 + j)), .int ((vm_srt I (C + 1) (C + 2) k x j) (C + 2) (x + 1 + j)), .int (nI (x + 1 + j - t))], []) (G, (vm_up (vm_up (vm_tw2 (vm_srt I (C + 1) (C + 2) k x j) (C + 1) (C + 2) (x + 1 + j) t) (C + 1) (x + 1 + j - t) ((vm_srt I (C + 1) (C + 2) k x j) (C + 1) (x + 1 + j))) (C + 2) (x + 1 + j - t) ((vm_srt I (C + 1) (C + 2) k x j) (C + 2) (x + 1 + j))), F) _ _
            refine vm_J.go vm_q13 (k := 2) (hs := []) (f' := (7, (0, 0), [.ref C, .ref b, .int ((nI (x + 1 + j)) + 1), .int ((vm_srt I (C + 1) (C + 2) k x j) (C + 1) (x + 1 + j)), .int ((vm_srt I (C + 1) (C + 2) k x j) (C + 2) (x + 1 + j)), .int (nI (x + 1 + j - t))], [])) (h' := (G, (vm_up (vm_up (vm_tw2 (vm_srt I (C + 1) (C + 2) k x j) (C + 1) (C + 2) (x + 1 + j) t) (C + 1) (x + 1 + j - t) ((vm_srt I (C + 1) (C + 2) k x j) (C + 1) (x + 1 + j))) (C + 2) (x + 1 + j - t) ((vm_srt I (C + 1) (C + 2) k x j) (C + 2) (x + 1 + j))), F)) (hs' := []) rfl rfl ?_
            rw [((vm_pa (rfl : nI (x + 1 + j) = nI (x + 1 + j)) (rfl : (1 : Int32) = nI 1)) : (nI (x + 1 + j)) + 1 = nI (x + 1 + j + 1))]
            refine vm_J.mask [true, true, true, false, false, false] ?_
            show vm_J _ _ _ (7, (0, 0), [.ref C, .ref b, .int (nI (x + 1 + j + 1)), .retAddr 0, .retAddr 0, .retAddr 0], []) (G, (vm_up (vm_up (vm_tw2 (vm_srt I (C + 1) (C + 2) k x j) (C + 1) (C + 2) (x + 1 + j) t) (C + 1) (x + 1 + j - t) ((vm_srt I (C + 1) (C + 2) k x j) (C + 1) (x + 1 + j))) (C + 2) (x + 1 + j - t) ((vm_srt I (C + 1) (C + 2) k x j) (C + 2) (x + 1 + j))), F) _ _
            have z := ij trivial
            rw [vm_srt_s (s := t) (sp_ip_h (by omega) pt c3)] at z
            exact z
          · have c3 := vm_bi_eq_f c3
            refine vm_J.go vm_q13 (k := 8) (hs := [(3, 5, [.ref (C + 1), .ref (C + 2), .int 0, .ref (C + 3), .int 0]), (3, 5, [.ref (C + 1), .ref (C + 2), .int 0, .ref (C + 3), .int 0])]) (f' := (82, (0, 0), [.ref C, .ref b, .int (nI (x + 1 + j)), .int ((vm_srt I (C + 1) (C + 2) k x j) (C + 1) (x + 1 + j)), .int ((vm_srt I (C + 1) (C + 2) k x j) (C + 2) (x + 1 + j)), .int (nI (x + 1 + j - t))], [.int ((nI (x + 1 + j - t)) - 1), .ref (C + 1), .int (nI (x + 1 + j - t)), .ref (C + 1)])) (h' := (G, (vm_tw2 (vm_srt I (C + 1) (C + 2) k x j) (C + 1) (C + 2) (x + 1 + j) t), F)) (hs' := []) rfl (vm_b2 rfl (vm_b2 (vm_b2 (vm_hG hC.1) rfl) (vm_b2 rfl (vm_b2 rfl (vm_b2 (vm_b2 (vm_hG hC.1) rfl) (vm_b2 rfl (vm_b2 rfl (vm_b2 rfl rfl)))))))) ?_
            rw [((vm_ps (rfl : (nI (x + 1 + j - t) : Int32) = nI (x + 1 + j - t)) (rfl : (1 : Int32) = nI 1) (by omega)) : (nI (x + 1 + j - t)) - 1 = nI ((x + 1 + j - t) - 1))]
            refine vm_J.call vm_q13 (Z := vm_M152) (n := 2) (k := 1) (mi := 152) (pc := 82) (en := (82, .invokestatic 35, 3, [152, 505, 1], .null)) rfl trivial rfl rfl vm_z152 (av := [.ref (C + 1), .int (nI ((x + 1 + j - t) - 1))]) (rest := [.int (nI (x + 1 + j - t)), .ref (C + 1)]) (m_at_n (j := (x + 1 + j - t) - 1) hC.2.1 (by omega) (by omega)) rfl (Nat.le_of_ble_eq_true rfl) ⟨Nat.le_of_ble_eq_true rfl, Nat.le_of_ble_eq_true rfl⟩ ⟨Nat.le_of_ble_eq_true rfl, Nat.le_of_ble_eq_true rfl⟩ ?_
            show vm_J _ _ _ (85, (0, 0), [.ref C, .ref b, .int (nI (x + 1 + j)), .int ((vm_srt I (C + 1) (C + 2) k x j) (C + 1) (x + 1 + j)), .int ((vm_srt I (C + 1) (C + 2) k x j) (C + 2) (x + 1 + j)), .int (nI (x + 1 + j - t))], [.int ((vm_tw2 (vm_srt I (C + 1) (C + 2) k x j) (C + 1) (C + 2) (x + 1 + j) t) (C + 1) ((x + 1 + j - t) - 1)), .int (nI (x + 1 + j - t)), .ref (C + 1)]) (G, (vm_tw2 (vm_srt I (C + 1) (C + 2) k x j) (C + 1) (C + 2) (x + 1 + j) t), F) _ _
            refine vm_J.call vm_q13 (Z := vm_M153) (n := 3) (k := 1) (mi := 153) (pc := 85) (en := (85, .invokestatic 43, 3, [153, 510, 1], .null)) rfl trivial rfl rfl vm_z153 (av := [.ref (C + 1), .int (nI (x + 1 + j - t)), .int ((vm_tw2 (vm_srt I (C + 1) (C + 2) k x j) (C + 1) (C + 2) (x + 1 + j) t) (C + 1) ((x + 1 + j - t) - 1))]) (rest := []) (m_put_n (j := x + 1 + j - t) (v := (vm_tw2 (vm_srt I (C + 1) (C + 2) k x j) (C + 1) (C + 2) (x + 1 + j) t) (C + 1) ((x + 1 + j - t) - 1)) hC.2.1 (by omega) (by omega)) rfl (Nat.le_of_ble_eq_true rfl) ⟨Nat.le_of_ble_eq_true rfl, Nat.le_of_ble_eq_true rfl⟩ ⟨Nat.le_of_ble_eq_true rfl, Nat.le_of_ble_eq_true rfl⟩ ?_
            show vm_J _ _ _ (88, (0, 0), [.ref C, .ref b, .int (nI (x + 1 + j)), .int ((vm_srt I (C + 1) (C + 2) k x j) (C + 1) (x + 1 + j)), .int ((vm_srt I (C + 1) (C + 2) k x j) (C + 2) (x + 1 + j)), .int (nI (x + 1 + j - t))], []) (G, (vm_up (vm_tw2 (vm_srt I (C + 1) (C + 2) k x j) (C + 1) (C + 2) (x + 1 + j) t) (C + 1) (x + 1 + j - t) ((vm_tw2 (vm_srt I (C + 1) (C + 2) k x j) (C + 1) (C + 2) (x + 1 + j) t) (C + 1) ((x + 1 + j - t) - 1))), F) _ _
            refine vm_J.go vm_q13 (k := 8) (hs := [(3, 5, [.ref (C + 1), .ref (C + 2), .int 0, .ref (C + 3), .int 0]), (3, 5, [.ref (C + 1), .ref (C + 2), .int 0, .ref (C + 3), .int 0])]) (f' := (102, (0, 0), [.ref C, .ref b, .int (nI (x + 1 + j)), .int ((vm_srt I (C + 1) (C + 2) k x j) (C + 1) (x + 1 + j)), .int ((vm_srt I (C + 1) (C + 2) k x j) (C + 2) (x + 1 + j)), .int (nI (x + 1 + j - t))], [.int ((nI (x + 1 + j - t)) - 1), .ref (C + 2), .int (nI (x + 1 + j - t)), .ref (C + 2)])) (h' := (G, (vm_up (vm_tw2 (vm_srt I (C + 1) (C + 2) k x j) (C + 1) (C + 2) (x + 1 + j) t) (C + 1) (x + 1 + j - t) ((vm_tw2 (vm_srt I (C + 1) (C + 2) k x j) (C + 1) (C + 2) (x + 1 + j) t) (C + 1) ((x + 1 + j - t) - 1))), F)) (hs' := []) rfl (vm_b2 rfl (vm_b2 (vm_b2 (vm_hG hC.1) rfl) (vm_b2 rfl (vm_b2 rfl (vm_b2 (vm_b2 (vm_hG hC.1) rfl) (vm_b2 rfl (vm_b2 rfl (vm_b2 rfl rfl)))))))) ?_
            rw [((vm_ps (rfl : (nI (x + 1 + j - t) : Int32) = nI (x + 1 + j - t)) (rfl : (1 : Int32) = nI 1) (by omega)) : (nI (x + 1 + j - t)) - 1 = nI ((x + 1 + j - t) - 1))]
            refine vm_J.call vm_q13 (Z := vm_M152) (n := 2) (k := 1) (mi := 152) (pc := 102) (en := (102, .invokestatic 35, 3, [152, 505, 1], .null)) rfl trivial rfl rfl vm_z152 (av := [.ref (C + 2), .int (nI ((x + 1 + j - t) - 1))]) (rest := [.int (nI (x + 1 + j - t)), .ref (C + 2)]) (m_at_n (j := (x + 1 + j - t) - 1) hC.2.2.1 (by omega) (by omega)) rfl (Nat.le_of_ble_eq_true rfl) ⟨Nat.le_of_ble_eq_true rfl, Nat.le_of_ble_eq_true rfl⟩ ⟨Nat.le_of_ble_eq_true rfl, Nat.le_of_ble_eq_true rfl⟩ ?_
            show vm_J _ _ _ (105, (0, 0), [.ref C, .ref b, .int (nI (x + 1 + j)), .int ((vm_srt I (C + 1) (C + 2) k x j) (C + 1) (x + 1 + j)), .int ((vm_srt I (C + 1) (C + 2) k x j) (C + 2) (x + 1 + j)), .int (nI (x + 1 + j - t))], [.int ((vm_up (vm_tw2 (vm_srt I (C + 1) (C + 2) k x j) (C + 1) (C + 2) (x + 1 + j) t) (C + 1) (x + 1 + j - t) ((vm_tw2 (vm_srt I (C + 1) (C + 2) k x j) (C + 1) (C + 2) (x + 1 + j) t) (C + 1) ((x + 1 + j - t) - 1))) (C + 2) ((x + 1 + j - t) - 1)), .int (nI (x + 1 + j - t)), .ref (C + 2)]) (G, (vm_up (vm_tw2 (vm_srt I (C + 1) (C + 2) k x j) (C + 1) (C + 2) (x + 1 + j) t) (C + 1) (x + 1 + j - t) ((vm_tw2 (vm_srt I (C + 1) (C + 2) k x j) (C + 1) (C + 2) (x + 1 + j) t) (C + 1) ((x + 1 + j - t) - 1))), F) _ _
            refine vm_J.call vm_q13 (Z := vm_M153) (n := 3) (k := 1) (mi := 153) (pc := 105) (en := (105, .invokestatic 43, 3, [153, 510, 1], .null)) rfl trivial rfl rfl vm_z153 (av := [.ref (C + 2), .int (nI (x + 1 + j - t)), .int ((vm_up (vm_tw2 (vm_srt I (C + 1) (C + 2) k x j) (C + 1) (C + 2) (x + 1 + j) t) (C + 1) (x + 1 + j - t) ((vm_tw2 (vm_srt I (C + 1) (C + 2) k x j) (C + 1) (C + 2) (x + 1 + j) t) (C + 1) ((x + 1 + j - t) - 1))) (C + 2) ((x + 1 + j - t) - 1))]) (rest := []) (m_put_n (j := x + 1 + j - t) (v := (vm_up (vm_tw2 (vm_srt I (C + 1) (C + 2) k x j) (C + 1) (C + 2) (x + 1 + j) t) (C + 1) (x + 1 + j - t) ((vm_tw2 (vm_srt I (C + 1) (C + 2) k x j) (C + 1) (C + 2) (x + 1 + j) t) (C + 1) ((x + 1 + j - t) - 1))) (C + 2) ((x + 1 + j - t) - 1)) hC.2.2.1 (by omega) (by omega)) rfl (Nat.le_of_ble_eq_true rfl) ⟨Nat.le_of_ble_eq_true rfl, Nat.le_of_ble_eq_true rfl⟩ ⟨Nat.le_of_ble_eq_true rfl, Nat.le_of_ble_eq_true rfl⟩ ?_
            show vm_J _ _ _ (108, (0, 0), [.ref C, .ref b, .int (nI (x + 1 + j)), .int ((vm_srt I (C + 1) (C + 2) k x j) (C + 1) (x + 1 + j)), .int ((vm_srt I (C + 1) (C + 2) k x j) (C + 2) (x + 1 + j)), .int (nI (x + 1 + j - t))], []) (G, (vm_up (vm_up (vm_tw2 (vm_srt I (C + 1) (C + 2) k x j) (C + 1) (C + 2) (x + 1 + j) t) (C + 1) (x + 1 + j - t) ((vm_tw2 (vm_srt I (C + 1) (C + 2) k x j) (C + 1) (C + 2) (x + 1 + j) t) (C + 1) ((x + 1 + j - t) - 1))) (C + 2) (x + 1 + j - t) ((vm_up (vm_tw2 (vm_srt I (C + 1) (C + 2) k x j) (C + 1) (C + 2) (x + 1 + j) t) (C + 1) (x + 1 + j - t) ((vm_tw2 (vm_srt I (C + 1) (C + 2) k x j) (C + 1) (C + 2) (x + 1 + j) t) (C + 1) ((x + 1 + j - t) - 1))) (C + 2) ((x + 1 + j - t) - 1))), F) _ _
            refine vm_J.go vm_q13 (k := 2) (hs := []) (f' := (37, (0, 0), [.ref C, .ref b, .int (nI (x + 1 + j)), .int ((vm_srt I (C + 1) (C + 2) k x j) (C + 1) (x + 1 + j)), .int ((vm_srt I (C + 1) (C + 2) k x j) (C + 2) (x + 1 + j)), .int ((nI (x + 1 + j - t)) + (-1))], [])) (h' := (G, (vm_up (vm_up (vm_tw2 (vm_srt I (C + 1) (C + 2) k x j) (C + 1) (C + 2) (x + 1 + j) t) (C + 1) (x + 1 + j - t) ((vm_tw2 (vm_srt I (C + 1) (C + 2) k x j) (C + 1) (C + 2) (x + 1 + j) t) (C + 1) ((x + 1 + j - t) - 1))) (C + 2) (x + 1 + j - t) ((vm_up (vm_tw2 (vm_srt I (C + 1) (C + 2) k x j) (C + 1) (C + 2) (x + 1 + j) t) (C + 1) (x + 1 + j - t) ((vm_tw2 (vm_srt I (C + 1) (C + 2) k x j) (C + 1) (C + 2) (x + 1 + j) t) (C + 1) ((x + 1 + j - t) - 1))) (C + 2) ((x + 1 + j - t) - 1))), F)) (hs' := []) rfl rfl ?_
            rw [((vm_dec (rfl : nI (x + 1 + j - t) = nI (x + 1 + j - t)) (by omega)) : (nI (x + 1 + j - t)) + (-1) = nI ((x + 1 + j - t) - 1))]
            rw [vm_tw2_s _ (C + 1) (C + 2) (x + 1 + j) t (by omega) (by omega)]
            exact it (vm_alls (p := fun u_ => sp_bh ((vm_srt I (C + 1) (C + 2) k x j) (C + 1) (x + 1 + j - u_ - 1)) ((vm_srt I (C + 1) (C + 2) k x j) (C + 1) (x + 1 + j)) k) pt c3)
      · show vm_J _ _ _ (37, (0, 0), [.ref C, .ref b, .int (nI (x + 1 + j)), .int ((vm_srt I (C + 1) (C + 2) k x j) (C + 1) (x + 1 + j)), .int ((vm_srt I (C + 1) (C + 2) k x j) (C + 2) (x + 1 + j)), .int (nI (x + 1 + j - (1 + j)))], []) (G, (vm_tw2 (vm_srt I (C + 1) (C + 2) k x j) (C + 1) (C + 2) (x + 1 + j) (1 + j)), F) _ _
        refine vm_J.go vm_q13 (k := 3) (hs := [(2, 6, [.int 0, .int 0, .int 0, .int 0, .int 0, .int 0])]) (f' := (43, (0, 0), [.ref C, .ref b, .int (nI (x + 1 + j)), .int ((vm_srt I (C + 1) (C + 2) k x j) (C + 1) (x + 1 + j)), .int ((vm_srt I (C + 1) (C + 2) k x j) (C + 2) (x + 1 + j)), .int (nI (x + 1 + j - (1 + j)))], [.int ((vm_tw2 (vm_srt I (C + 1) (C + 2) k x j) (C + 1) (C + 2) (x + 1 + j) (1 + j)) b 0), .int (nI (x + 1 + j - (1 + j)))])) (h' := (G, (vm_tw2 (vm_srt I (C + 1) (C + 2) k x j) (C + 1) (C + 2) (x + 1 + j) (1 + j)), F)) (hs' := []) rfl (vm_b2 rfl (vm_b2 rfl (vm_b2 (vm_b2 (vm_hG hb) rfl) rfl))) ?_
        rw [((Eq.trans (congrFun (funext fun z => vm_tw2_o _ _ _ _ _ b (by omega) (by omega) z) 0) (Eq.trans (congrFun (vm_srt_o _ _ _ _ _ b (by omega) (by omega) _) 0) hx)) : (vm_tw2 (vm_srt I (C + 1) (C + 2) k x j) (C + 1) (C + 2) (x + 1 + j) (1 + j)) b 0 = nI x)]
        refine vm_J.go vm_q13 (k := 1) (hs := []) (f' := (bif vm_ic .le (nI (x + 1 + j - (1 + j))) (nI x) then 114 else 46, (0, 0), [.ref C, .ref b, .int (nI (x + 1 + j)), .int ((vm_srt I (C + 1) (C + 2) k x j) (C + 1) (x + 1 + j)), .int ((vm_srt I (C + 1) (C + 2) k x j) (C + 2) (x + 1 + j)), .int (nI (x + 1 + j - (1 + j)))], [])) (h' := (G, (vm_tw2 (vm_srt I (C + 1) (C + 2) k x j) (C + 1) (C + 2) (x + 1 + j) (1 + j)), F)) (hs' := []) rfl rfl ?_
        refine vm_J.br (fun c4 => ?_) (fun c4 => ?_)
        · have c4 := vm_le_t (a := x + 1 + j - (1 + j)) (b := x) (by omega) (by omega) c4
          refine vm_J.go vm_q13 (k := 4) (hs := [(3, 5, [.ref (C + 1), .ref (C + 2), .int 0, .ref (C + 3), .int 0])]) (f' := (121, (0, 0), [.ref C, .ref b, .int (nI (x + 1 + j)), .int ((vm_srt I (C + 1) (C + 2) k x j) (C + 1) (x + 1 + j)), .int ((vm_srt I (C + 1) (C + 2) k x j) (C + 2) (x + 1 + j)), .int (nI (x + 1 + j - (1 + j)))], [.int ((vm_srt I (C + 1) (C + 2) k x j) (C + 1) (x + 1 + j)), .int (nI (x + 1 + j - (1 + j))), .ref (C + 1)])) (h' := (G, (vm_tw2 (vm_srt I (C + 1) (C + 2) k x j) (C + 1) (C + 2) (x + 1 + j) (1 + j)), F)) (hs' := []) rfl (vm_b2 rfl (vm_b2 (vm_b2 (vm_hG hC.1) rfl) (vm_b2 rfl (vm_b2 rfl rfl)))) ?_
          refine vm_J.call vm_q13 (Z := vm_M153) (n := 3) (k := 1) (mi := 153) (pc := 121) (en := (121, .invokestatic 43, 3, [153, 510, 1], .null)) rfl trivial rfl rfl vm_z153 (av := [.ref (C + 1), .int (nI (x + 1 + j - (1 + j))), .int ((vm_srt I (C + 1) (C + 2) k x j) (C + 1) (x + 1 + j))]) (rest := []) (m_put_n (j := x + 1 + j - (1 + j)) (v := (vm_srt I (C + 1) (C + 2) k x j) (C + 1) (x + 1 + j)) hC.2.1 (by omega) (by omega)) rfl (Nat.le_of_ble_eq_true rfl) ⟨Nat.le_of_ble_eq_true rfl, Nat.le_of_ble_eq_true rfl⟩ ⟨Nat.le_of_ble_eq_true rfl, Nat.le_of_ble_eq_true rfl⟩ ?_
          show vm_J _ _ _ (124, (0, 0), [.ref C, .ref b, .int (nI (x + 1 + j)), .int ((vm_srt I (C + 1) (C + 2) k x j) (C + 1) (x + 1 + j)), .int ((vm_srt I (C + 1) (C + 2) k x j) (C + 2) (x + 1 + j)), .int (nI (x + 1 + j - (1 + j)))], []) (G, (vm_up (vm_tw2 (vm_srt I (C + 1) (C + 2) k x j) (C + 1) (C + 2) (x + 1 + j) (1 + j)) (C + 1) (x + 1 + j - (1 + j)) ((vm_srt I (C + 1) (C + 2) k x j) (C + 1) (x + 1 + j))), F) _ _
          refine vm_J.go vm_q13 (k := 4) (hs := [(3, 5, [.ref (C + 1), .ref (C + 2), .int 0, .ref (C + 3), .int 0])]) (f' := (132, (0, 0), [.ref C, .ref b, .int (nI (x + 1 + j)), .int ((vm_srt I (C + 1) (C + 2) k x j) (C + 1) (x + 1 + j)), .int ((vm_srt I (C + 1) (C + 2) k x j) (C + 2) (x + 1 + j)), .int (nI (x + 1 + j - (1 + j)))], [.int ((vm_srt I (C + 1) (C + 2) k x j) (C + 2) (x + 1 + j)), .int (nI (x + 1 + j - (1 + j))), .ref (C + 2)])) (h' := (G, (vm_up (vm_tw2 (vm_srt I (C + 1) (C + 2) k x j) (C + 1) (C + 2) (x + 1 + j) (1 + j)) (C + 1) (x + 1 + j - (1 + j)) ((vm_srt I (C + 1) (C + 2) k x j) (C + 1) (x + 1 + j))), F)) (hs' := []) rfl (vm_b2 rfl (vm_b2 (vm_b2 (vm_hG hC.1) rfl) (vm_b2 rfl (vm_b2 rfl rfl)))) ?_
          refine vm_J.call vm_q13 (Z := vm_M153) (n := 3) (k := 1) (mi := 153) (pc := 132) (en := (132, .invokestatic 43, 3, [153, 510, 1], .null)) rfl trivial rfl rfl vm_z153 (av := [.ref (C + 2), .int (nI (x + 1 + j - (1 + j))), .int ((vm_srt I (C + 1) (C + 2) k x j) (C + 2) (x + 1 + j))]) (rest := []) (m_put_n (j := x + 1 + j - (1 + j)) (v := (vm_srt I (C + 1) (C + 2) k x j) (C + 2) (x + 1 + j)) hC.2.2.1 (by omega) (by omega)) rfl (Nat.le_of_ble_eq_true rfl) ⟨Nat.le_of_ble_eq_true rfl, Nat.le_of_ble_eq_true rfl⟩ ⟨Nat.le_of_ble_eq_true rfl, Nat.le_of_ble_eq_true rfl⟩ ?_
          show vm_J _ _ _ (135, (0, 0), [.ref C, .ref b, .int (nI (x + 1 + j)), .int ((vm_srt I (C + 1) (C + 2) k x j) (C + 1) (x + 1 + j)), .int ((vm_srt I (C + 1) (C + 2) k x j) (C + 2) (x + 1 + j)), .int (nI (x + 1 + j - (1 + j)))], []) (G, (vm_up (vm_up (vm_tw2 (vm_srt I (C + 1) (C + 2) k x j) (C + 1) (C + 2) (x + 1 + j) (1 + j)) (C + 1) (x + 1 + j - (1 + j)) ((vm_srt I (C + 1) (C + 2) k x j) (C + 1) (x + 1 + j))) (C + 2) (x + 1 + j - (1 + j)) ((vm_srt I (C + 1) (C + 2) k x j) (C + 2) (x + 1 + j))), F) _ _
          refine vm_J.go vm_q13 (k := 2) (hs := []) (f' := (7, (0, 0), [.ref C, .ref b, .int ((nI (x + 1 + j)) + 1), .int ((vm_srt I (C + 1) (C + 2) k x j) (C + 1) (x + 1 + j)), .int ((vm_srt I (C + 1) (C + 2) k x j) (C + 2) (x + 1 + j)), .int (nI (x + 1 + j - (1 + j)))], [])) (h' := (G, (vm_up (vm_up (vm_tw2 (vm_srt I (C + 1) (C + 2) k x j) (C + 1) (C + 2) (x + 1 + j) (1 + j)) (C + 1) (x + 1 + j - (1 + j)) ((vm_srt I (C + 1) (C + 2) k x j) (C + 1) (x + 1 + j))) (C + 2) (x + 1 + j - (1 + j)) ((vm_srt I (C + 1) (C + 2) k x j) (C + 2) (x + 1 + j))), F)) (hs' := []) rfl rfl ?_
          rw [((vm_pa (rfl : nI (x + 1 + j) = nI (x + 1 + j)) (rfl : (1 : Int32) = nI 1)) : (nI (x + 1 + j)) + 1 = nI (x + 1 + j + 1))]
          refine vm_J.mask [true, true, true, false, false, false] ?_
          show vm_J _ _ _ (7, (0, 0), [.ref C, .ref b, .int (nI (x + 1 + j + 1)), .retAddr 0, .retAddr 0, .retAddr 0], []) (G, (vm_up (vm_up (vm_tw2 (vm_srt I (C + 1) (C + 2) k x j) (C + 1) (C + 2) (x + 1 + j) (1 + j)) (C + 1) (x + 1 + j - (1 + j)) ((vm_srt I (C + 1) (C + 2) k x j) (C + 1) (x + 1 + j))) (C + 2) (x + 1 + j - (1 + j)) ((vm_srt I (C + 1) (C + 2) k x j) (C + 2) (x + 1 + j))), F) _ _
          have z := ij trivial
          rw [vm_srt_s (s := 1 + j) ((sp_ip_0 fun u hu => pt u (by omega)).trans (by omega))] at z
          exact z
        · have c4 := vm_le_f (a := x + 1 + j - (1 + j)) (b := x) (by omega) (by omega) c4
          exact (show False by omega).elim
  · show vm_J _ _ _ (7, (0, 0), [.ref C, .ref b, .int (nI (x + 1 + (y - 1 - x))), .retAddr 0, .retAddr 0, .retAddr 0], []) (G, (vm_srt I (C + 1) (C + 2) k x (y - 1 - x)), F) _ _
    refine vm_J.go vm_q13 (k := 3) (hs := [(2, 6, [.int 0, .int 0, .int 0, .int 0, .int 0, .int 0])]) (f' := (12, (0, 0), [.ref C, .ref b, .int (nI (x + 1 + (y - 1 - x))), .retAddr 0, .retAddr 0, .retAddr 0], [.int ((vm_srt I (C + 1) (C + 2) k x (y - 1 - x)) b 1), .int (nI (x + 1 + (y - 1 - x)))])) (h' := (G, (vm_srt I (C + 1) (C + 2) k x (y - 1 - x)), F)) (hs' := []) rfl (vm_b2 rfl (vm_b2 rfl (vm_b2 (vm_b2 (vm_hG hb) rfl) rfl))) ?_
    rw [((Eq.trans (congrFun (vm_srt_o _ _ _ _ _ b (by omega) (by omega) _) 1) hy) : (vm_srt I (C + 1) (C + 2) k x (y - 1 - x)) b 1 = nI y)]
    refine vm_J.go vm_q13 (k := 1) (hs := []) (f' := (bif vm_ic .ge (nI (x + 1 + (y - 1 - x))) (nI y) then 141 else 15, (0, 0), [.ref C, .ref b, .int (nI (x + 1 + (y - 1 - x))), .retAddr 0, .retAddr 0, .retAddr 0], [])) (h' := (G, (vm_srt I (C + 1) (C + 2) k x (y - 1 - x)), F)) (hs' := []) rfl rfl ?_
    refine vm_J.br (fun c5 => ?_) (fun c5 => ?_)
    · have c5 := vm_ge_t (a := x + 1 + (y - 1 - x)) (b := y) (by omega) (by omega) c5
      exact vm_J.end vm_q13 (en := (141, .return_, 1, [], .null)) rfl rfl vm_rV (Nat.zero_le _) (Nat.zero_le _) rfl
    · have c5 := vm_ge_f (a := x + 1 + (y - 1 - x)) (b := y) (by omega) (by omega) c5
      exact (show False by omega).elim
