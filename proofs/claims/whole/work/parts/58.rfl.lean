theorem vm_bp4 {p : Nat} (hp : p < 4) : 0 ≤ nI p ∧ nI p ≤ 3 := by
  constructor
  · rw [Int32.le_iff_toInt_le, nI_toInt (by omega), show (0 : Int32).toInt = 0 from rfl]
    omega
  · rw [Int32.le_iff_toInt_le, nI_toInt (by omega), show (3 : Int32).toInt = 3 from rfl]
    omega
set_option maxHeartbeats 4000000 in
set_option maxRecDepth 20000 in
/-- DitherDeskModel.isEntry  -/
theorem r_isEntry {l : Launch} {X : vm_Cx} {G : List vm_Sh} {I : Nat → Nat → Int32} {F : Nat → Nat → UInt32} {p : Nat} {e : Int32} (hR : vm_isR G) (hp : p < 4) : vm_K l X vm_M174 [.ref 152, .int (nI p), .int e] (G, I, F) (some (.int (vm_bi (0 ≤ e ∧ e ≤ I 156 p - 1)))) (G, I, F) := by
  refine vm_K.mk (by decide) (Nat.le_of_ble_eq_true rfl) ?_
  show vm_J _ _ _ (0, (0, 0), [.ref 152, .int (nI p), .int e], []) _ _ _
  refine vm_J.go vm_q174 (k := 1) (hs := []) (f' := (1, (0, 0), [.ref 152, .int (nI p), .int e], [.int (nI p)])) (h' := (G, I, F)) (hs' := []) rfl rfl ?_
  refine vm_J.call vm_q174 (Z := vm_M173) (n := 1) (k := 1) (mi := 173) (pc := 1) (en := (1, .invokestatic 145, 3, [173, 1453, 0], .null)) rfl trivial rfl rfl vm_z173 (av := [.int (nI p)]) (rest := []) (r_isPalette (c := nI p)) rfl (Nat.le_of_ble_eq_true rfl) ⟨Nat.le_of_ble_eq_true rfl, Nat.le_of_ble_eq_true rfl⟩ ⟨Nat.le_of_ble_eq_true rfl, Nat.le_of_ble_eq_true rfl⟩ ?_
  show vm_J _ _ _ (4, (0, 0), [.ref 152, .int (nI p), .int e], [.int (vm_bi (0 ≤ (nI p) ∧ (nI p) ≤ 3))]) (G, I, F) _ _
  refine vm_J.go vm_q174 (k := 1) (hs := []) (f' := (bif vm_ic .eq (vm_bi (0 ≤ (nI p) ∧ (nI p) ≤ 3)) 0 then 27 else 7, (0, 0), [.ref 152, .int (nI p), .int e], [])) (h' := (G, I, F)) (hs' := []) rfl rfl ?_
  refine vm_J.br (fun c1 => ?_) (fun c1 => ?_)
  · have c1 := vm_bi_eq_t c1
    exact absurd (vm_bp4 hp) c1
  · have c1 := vm_bi_eq_f c1
    refine vm_J.go vm_q174 (k := 8) (hs := [vm_shR, (0, 4, [])]) (f' := (17, (0, 0), [.ref 152, .int (nI p), .int e], [.int ((I 156 (nI p).toNatClampNeg) - 1), .int 0, .int e])) (h' := (G, I, F)) (hs' := []) rfl (vm_b2 rfl (vm_b2 rfl (vm_b2 rfl (vm_b2 (vm_b2 (vm_hG hR.c152) rfl) (vm_b2 rfl (vm_b2 (vm_b2 (vm_hG hR.c156) (vm_in_e (j := p) (n := 4) rfl (by omega) (by omega))) (vm_b2 rfl (vm_b2 rfl rfl)))))))) ?_
    rw [vm_ix_e (j := p) rfl (by omega)]
    refine vm_J.call vm_q174 (Z := vm_M168) (n := 3) (k := 1) (mi := 168) (pc := 17) (en := (17, .invokestatic 141, 3, [168, 1302, 0], .null)) rfl trivial rfl rfl vm_z168 (av := [.int e, .int 0, .int ((I 156 p) - 1)]) (rest := []) (r_isIn (v := e) (a := 0) (b := (I 156 p) - 1)) rfl (Nat.le_of_ble_eq_true rfl) ⟨Nat.le_of_ble_eq_true rfl, Nat.le_of_ble_eq_true rfl⟩ ⟨Nat.le_of_ble_eq_true rfl, Nat.le_of_ble_eq_true rfl⟩ ?_
    show vm_J _ _ _ (20, (0, 0), [.ref 152, .int (nI p), .int e], [.int (vm_bi (0 ≤ e ∧ e ≤ ((I 156 p) - 1)))]) (G, I, F) _ _
    refine vm_J.go vm_q174 (k := 1) (hs := []) (f' := (bif vm_ic .eq (vm_bi (0 ≤ e ∧ e ≤ ((I 156 p) - 1))) 0 then 27 else 23, (0, 0), [.ref 152, .int (nI p), .int e], [])) (h' := (G, I, F)) (hs' := []) rfl rfl ?_
    refine vm_J.br (fun c2 => ?_) (fun c2 => ?_)
    · have c2 := vm_bi_eq_t c2
      refine vm_J.go vm_q174 (k := 1) (hs := []) (f' := (28, (0, 0), [.ref 152, .int (nI p), .int e], [.int 0])) (h' := (G, I, F)) (hs' := []) rfl rfl ?_
      exact vm_J.end vm_q174 (en := (28, .ireturn, 1, [], .null)) rfl (by first | rw [vm_bi_t c2]; rfl | rw [vm_bi_f c2]; rfl) (vm_rZ vm_bi_01) (Nat.zero_le _) (Nat.zero_le _) rfl
    · have c2 := vm_bi_eq_f c2
      refine vm_J.go vm_q174 (k := 2) (hs := []) (f' := (28, (0, 0), [.ref 152, .int (nI p), .int e], [.int 1])) (h' := (G, I, F)) (hs' := []) rfl rfl ?_
      exact vm_J.end vm_q174 (en := (28, .ireturn, 1, [], .null)) rfl (by first | rw [vm_bi_t c2]; rfl | rw [vm_bi_f c2]; rfl) (vm_rZ vm_bi_01) (Nat.zero_le _) (Nat.zero_le _) rfl
set_option maxHeartbeats 4000000 in
set_option maxRecDepth 20000 in
/-- DitherDeskModel.isOn  -/
theorem r_isOn {l : Launch} {X : vm_Cx} {G : List vm_Sh} {I : Nat → Nat → Int32} {F : Nat → Nat → UInt32} {p : Nat} {x y : Int32} (hR : vm_isR G) (hp : p < 4) : vm_K l X vm_M176 [.ref 152, .int (nI p), .int x, .int y] (G, I, F) (some (.int (vm_bi ((0 ≤ x ∧ x ≤ I 153 p - 1) ∧ 0 ≤ y ∧ y ≤ I 154 p - 1)))) (G, I, F) := by
  refine vm_K.mk (by decide) (Nat.le_of_ble_eq_true rfl) ?_
  show vm_J _ _ _ (0, (0, 0), [.ref 152, .int (nI p), .int x, .int y], []) _ _ _
  refine vm_J.go vm_q176 (k := 8) (hs := [vm_shR, (0, 4, [])]) (f' := (10, (0, 0), [.ref 152, .int (nI p), .int x, .int y], [.int ((I 153 (nI p).toNatClampNeg) - 1), .int 0, .int x])) (h' := (G, I, F)) (hs' := []) rfl (vm_b2 rfl (vm_b2 rfl (vm_b2 rfl (vm_b2 (vm_b2 (vm_hG hR.c152) rfl) (vm_b2 rfl (vm_b2 (vm_b2 (vm_hG hR.c153) (vm_in_e (j := p) (n := 4) rfl (by omega) (by omega))) (vm_b2 rfl (vm_b2 rfl rfl)))))))) ?_
  rw [vm_ix_e (j := p) rfl (by omega)]
  refine vm_J.call vm_q176 (Z := vm_M168) (n := 3) (k := 1) (mi := 168) (pc := 10) (en := (10, .invokestatic 141, 3, [168, 1302, 0], .null)) rfl trivial rfl rfl vm_z168 (av := [.int x, .int 0, .int ((I 153 p) - 1)]) (rest := []) (r_isIn (v := x) (a := 0) (b := (I 153 p) - 1)) rfl (Nat.le_of_ble_eq_true rfl) ⟨Nat.le_of_ble_eq_true rfl, Nat.le_of_ble_eq_true rfl⟩ ⟨Nat.le_of_ble_eq_true rfl, Nat.le_of_ble_eq_true rfl⟩ ?_
  show vm_J _ _ _ (13, (0, 0), [.ref 152, .int (nI p), .int x, .int y], [.int (vm_bi (0 ≤ x ∧ x ≤ ((I 153 p) - 1)))]) (G, I, F) _ _
  refine vm_J.go vm_q176 (k := 1) (hs := []) (f' := (bif vm_ic .eq (vm_bi (0 ≤ x ∧ x ≤ ((I 153 p) - 1))) 0 then 36 else 16, (0, 0), [.ref 152, .int (nI p), .int x, .int y], [])) (h' := (G, I, F)) (hs' := []) rfl rfl ?_
  refine vm_J.br (fun c1 => ?_) (fun c1 => ?_)
  · have c1 := vm_bi_eq_t c1
    refine vm_J.go vm_q176 (k := 1) (hs := []) (f' := (37, (0, 0), [.ref 152, .int (nI p), .int x, .int y], [.int 0])) (h' := (G, I, F)) (hs' := []) rfl rfl ?_
    exact vm_J.end vm_q176 (en := (37, .ireturn, 1, [], .null)) rfl (by first | rw [vm_bi_t ⟨c1, c2⟩]; rfl | rw [vm_bi_f fun q => c1 q.1]; rfl | rw [vm_bi_f fun q => c2 q.2]; rfl) (vm_rZ vm_bi_01) (Nat.zero_le _) (Nat.zero_le _) rfl
  · have c1 := vm_bi_eq_f c1
    refine vm_J.go vm_q176 (k := 8) (hs := [vm_shR, (0, 4, [])]) (f' := (26, (0, 0), [.ref 152, .int (nI p), .int x, .int y], [.int ((I 154 (nI p).toNatClampNeg) - 1), .int 0, .int y])) (h' := (G, I, F)) (hs' := []) rfl (vm_b2 rfl (vm_b2 rfl (vm_b2 rfl (vm_b2 (vm_b2 (vm_hG hR.c152) rfl) (vm_b2 rfl (vm_b2 (vm_b2 (vm_hG hR.c154) (vm_in_e (j := p) (n := 4) rfl (by omega) (by omega))) (vm_b2 rfl (vm_b2 rfl rfl)))))))) ?_
    rw [vm_ix_e (j := p) rfl (by omega)]
    refine vm_J.call vm_q176 (Z := vm_M168) (n := 3) (k := 1) (mi := 168) (pc := 26) (en := (26, .invokestatic 141, 3, [168, 1302, 0], .null)) rfl trivial rfl rfl vm_z168 (av := [.int y, .int 0, .int ((I 154 p) - 1)]) (rest := []) (r_isIn (v := y) (a := 0) (b := (I 154 p) - 1)) rfl (Nat.le_of_ble_eq_true rfl) ⟨Nat.le_of_ble_eq_true rfl, Nat.le_of_ble_eq_true rfl⟩ ⟨Nat.le_of_ble_eq_true rfl, Nat.le_of_ble_eq_true rfl⟩ ?_
    show vm_J _ _ _ (29, (0, 0), [.ref 152, .int (nI p), .int x, .int y], [.int (vm_bi (0 ≤ y ∧ y ≤ ((I 154 p) - 1)))]) (G, I, F) _ _
    refine vm_J.go vm_q176 (k := 1) (hs := []) (f' := (bif vm_ic .eq (vm_bi (0 ≤ y ∧ y ≤ ((I 154 p) - 1))) 0 then 36 else 32, (0, 0), [.ref 152, .int (nI p), .int x, .int y], [])) (h' := (G, I, F)) (hs' := []) rfl rfl ?_
    refine vm_J.br (fun c2 => ?_) (fun c2 => ?_)
    · have c2 := vm_bi_eq_t c2
      refine vm_J.go vm_q176 (k := 1) (hs := []) (f' := (37, (0, 0), [.ref 152, .int (nI p), .int x, .int y], [.int 0])) (h' := (G, I, F)) (hs' := []) rfl rfl ?_
      exact vm_J.end vm_q176 (en := (37, .ireturn, 1, [], .null)) rfl (by first | rw [vm_bi_t ⟨c1, c2⟩]; rfl | rw [vm_bi_f fun q => c1 q.1]; rfl | rw [vm_bi_f fun q => c2 q.2]; rfl) (vm_rZ vm_bi_01) (Nat.zero_le _) (Nat.zero_le _) rfl
    · have c2 := vm_bi_eq_f c2
      refine vm_J.go vm_q176 (k := 2) (hs := []) (f' := (37, (0, 0), [.ref 152, .int (nI p), .int x, .int y], [.int 1])) (h' := (G, I, F)) (hs' := []) rfl rfl ?_
      exact vm_J.end vm_q176 (en := (37, .ireturn, 1, [], .null)) rfl (by first | rw [vm_bi_t ⟨c1, c2⟩]; rfl | rw [vm_bi_f fun q => c1 q.1]; rfl | rw [vm_bi_f fun q => c2 q.2]; rfl) (vm_rZ vm_bi_01) (Nat.zero_le _) (Nat.zero_le _) rfl
set_option maxHeartbeats 4000000 in
set_option maxRecDepth 20000 in
/-- DitherDeskModel.isPicture  -/
theorem r_isPicture {l : Launch} {X : vm_Cx} {G : List vm_Sh} {I : Nat → Nat → Int32} {F : Nat → Nat → UInt32} {p : Nat} (hR : vm_isR G) (hp : p < 4) : vm_K l X vm_M172 [.ref 152, .int (nI p)] (G, I, F) (some (.int (vm_bi (0 < I 153 p)))) (G, I, F) := by
  refine vm_K.mk (by decide) (Nat.le_of_ble_eq_true rfl) ?_
  show vm_J _ _ _ (0, (0, 0), [.ref 152, .int (nI p)], []) _ _ _
  refine vm_J.go vm_q172 (k := 3) (hs := []) (f' := (3, (0, 0), [.ref 152, .int (nI p)], [.int 3, .int 0, .int (nI p)])) (h' := (G, I, F)) (hs' := []) rfl rfl ?_
  refine vm_J.call vm_q172 (Z := vm_M168) (n := 3) (k := 1) (mi := 168) (pc := 3) (en := (3, .invokestatic 141, 3, [168, 1302, 0], .null)) rfl trivial rfl rfl vm_z168 (av := [.int (nI p), .int 0, .int 3]) (rest := []) (r_isIn (v := nI p) (a := 0) (b := 3)) rfl (Nat.le_of_ble_eq_true rfl) ⟨Nat.le_of_ble_eq_true rfl, Nat.le_of_ble_eq_true rfl⟩ ⟨Nat.le_of_ble_eq_true rfl, Nat.le_of_ble_eq_true rfl⟩ ?_
  show vm_J _ _ _ (6, (0, 0), [.ref 152, .int (nI p)], [.int (vm_bi (0 ≤ (nI p) ∧ (nI p) ≤ 3))]) (G, I, F) _ _
  refine vm_J.go vm_q172 (k := 1) (hs := []) (f' := (bif vm_ic .eq (vm_bi (0 ≤ (nI p) ∧ (nI p) ≤ 3)) 0 then 22 else 9, (0, 0), [.ref 152, .int (nI p)], [])) (h' := (G, I, F)) (hs' := []) rfl rfl ?_
  refine vm_J.br (fun c1 => ?_) (fun c1 => ?_)
  · have c1 := vm_bi_eq_t c1
    exact absurd (vm_bp4 hp) c1
  · have c1 := vm_bi_eq_f c1
    refine vm_J.go vm_q172 (k := 4) (hs := [vm_shR, (0, 4, [])]) (f' := (15, (0, 0), [.ref 152, .int (nI p)], [.int (I 153 (nI p).toNatClampNeg)])) (h' := (G, I, F)) (hs' := []) rfl (vm_b2 rfl (vm_b2 (vm_b2 (vm_hG hR.c152) rfl) (vm_b2 rfl (vm_b2 (vm_b2 (vm_hG hR.c153) (vm_in_e (j := p) (n := 4) rfl (by omega) (by omega))) rfl)))) ?_
    rw [vm_ix_e (j := p) rfl (by omega)]
    refine vm_J.go vm_q172 (k := 1) (hs := []) (f' := (bif vm_ic .le (I 153 p) 0 then 22 else 18, (0, 0), [.ref 152, .int (nI p)], [])) (h' := (G, I, F)) (hs' := []) rfl rfl ?_
    refine vm_J.br (fun c2 => ?_) (fun c2 => ?_)
    · have c2 : (I 153 p) ≤ 0 := of_decide_eq_true c2
      refine vm_J.go vm_q172 (k := 1) (hs := []) (f' := (23, (0, 0), [.ref 152, .int (nI p)], [.int 0])) (h' := (G, I, F)) (hs' := []) rfl rfl ?_
      exact vm_J.end vm_q172 (en := (23, .ireturn, 1, [], .null)) rfl (by first | rw [vm_bi_t (vm_nle_g c2)]; rfl | rw [vm_bi_f (vm_le_ng c2)]; rfl) (vm_rZ vm_bi_01) (Nat.zero_le _) (Nat.zero_le _) rfl
    · have c2 : ¬ ((I 153 p) ≤ 0) := of_decide_eq_false c2
      refine vm_J.go vm_q172 (k := 2) (hs := []) (f' := (23, (0, 0), [.ref 152, .int (nI p)], [.int 1])) (h' := (G, I, F)) (hs' := []) rfl rfl ?_
      exact vm_J.end vm_q172 (en := (23, .ireturn, 1, [], .null)) rfl (by first | rw [vm_bi_t (vm_nle_g c2)]; rfl | rw [vm_bi_f (vm_le_ng c2)]; rfl) (vm_rZ vm_bi_01) (Nat.zero_le _) (Nat.zero_le _) rfl
set_option maxHeartbeats 4000000 in
set_option maxRecDepth 20000 in
/-- DitherDeskModel.manyPictures  -/
theorem r_manyPictures {l : Launch} {X : vm_Cx} {G : List vm_Sh} {I : Nat → Nat → Int32} {F : Nat → Nat → UInt32}  (hR : vm_isR G) : vm_K l X vm_M177 [.ref 152] (G, I, F) (some (.int (sp_sum (fun p => if 0 < I 153 p then 1 else 0) 4))) (G, I, F) := by
  refine vm_K.mk (by decide) (Nat.le_of_ble_eq_true rfl) ?_
  show vm_J _ _ _ (0, (0, 0), [.ref 152, .retAddr 0, .retAddr 0], []) _ _ _
  refine vm_J.go vm_q177 (k := 4) (hs := []) (f' := (4, (0, 0), [.ref 152, .int 0, .int 0], [])) (h' := (G, I, F)) (hs' := []) rfl rfl ?_
  refine vm_J.cnt 4 (fun j => (4, (0, 0), [.ref 152, .int (sp_sum (fun p => if 0 < I 153 p then 1 else 0) j), .int (nI j)], [])) (fun j => (G, I, F)) (fun _ => True) rfl rfl trivial (fun j hj pj ij => ?_) (fun pj => ?_)
  · show vm_J _ _ _ (4, (0, 0), [.ref 152, .int (sp_sum (fun p => if 0 < I 153 p then 1 else 0) j), .int (nI j)], []) (G, I, F) _ _
    refine vm_J.go vm_q177 (k := 3) (hs := []) (f' := (bif vm_ic .ge (nI j) 4 then 32 else 9, (0, 0), [.ref 152, .int (sp_sum (fun p => if 0 < I 153 p then 1 else 0) j), .int (nI j)], [])) (h' := (G, I, F)) (hs' := []) rfl rfl ?_
    refine vm_J.br (fun c1 => ?_) (fun c1 => ?_)
    · have c1 := vm_ge_t (a := j) (b := 4) (by omega) (by omega) c1
      exact (show False by omega).elim
    · have c1 := vm_ge_f (a := j) (b := 4) (by omega) (by omega) c1
      refine vm_J.go vm_q177 (k := 5) (hs := [vm_shR, (0, 4, [])]) (f' := (16, (0, 0), [.ref 152, .int (sp_sum (fun p => if 0 < I 153 p then 1 else 0) j), .int (nI j)], [.int (I 153 (nI j).toNatClampNeg), .int (sp_sum (fun p => if 0 < I 153 p then 1 else 0) j)])) (h' := (G, I, F)) (hs' := []) rfl (vm_b2 rfl (vm_b2 rfl (vm_b2 (vm_b2 (vm_hG hR.c152) rfl) (vm_b2 rfl (vm_b2 (vm_b2 (vm_hG hR.c153) (vm_in_e (j := j) (n := 4) rfl (by omega) (by omega))) rfl))))) ?_
      rw [vm_ix_e (j := j) rfl (by omega)]
      refine vm_J.go vm_q177 (k := 1) (hs := []) (f' := (bif vm_ic .le (I 153 j) 0 then 23 else 19, (0, 0), [.ref 152, .int (sp_sum (fun p => if 0 < I 153 p then 1 else 0) j), .int (nI j)], [.int (sp_sum (fun p => if 0 < I 153 p then 1 else 0) j)])) (h' := (G, I, F)) (hs' := []) rfl rfl ?_
      refine vm_J.br (fun c2 => ?_) (fun c2 => ?_)
      · have c2 : (I 153 j) ≤ 0 := of_decide_eq_true c2
        refine vm_J.go vm_q177 (k := 5) (hs := []) (f' := (4, (0, 0), [.ref 152, .int ((sp_sum (fun p => if 0 < I 153 p then 1 else 0) j) + 0), .int ((nI j) + 1)], [])) (h' := (G, I, F)) (hs' := []) rfl rfl ?_
        rw [((vm_pa (rfl : nI j = nI j) (rfl : (1 : Int32) = nI 1)) : (nI j) + 1 = nI (j + 1))]
        rw [show ((sp_sum (fun p => if 0 < I 153 p then 1 else 0) j) + 0 : Int32) = sp_sum (fun p => if 0 < I 153 p then 1 else 0) (j + 1) from by first | rw [sp_sum, if_pos (vm_nle_g c2)] | rw [sp_sum, if_neg (vm_le_ng c2)]]
        exact ij trivial
      · have c2 : ¬ ((I 153 j) ≤ 0) := of_decide_eq_false c2
        refine vm_J.go vm_q177 (k := 6) (hs := []) (f' := (4, (0, 0), [.ref 152, .int ((sp_sum (fun p => if 0 < I 153 p then 1 else 0) j) + 1), .int ((nI j) + 1)], [])) (h' := (G, I, F)) (hs' := []) rfl rfl ?_
        rw [((vm_pa (rfl : nI j = nI j) (rfl : (1 : Int32) = nI 1)) : (nI j) + 1 = nI (j + 1))]
        rw [show ((sp_sum (fun p => if 0 < I 153 p then 1 else 0) j) + 1 : Int32) = sp_sum (fun p => if 0 < I 153 p then 1 else 0) (j + 1) from by first | rw [sp_sum, if_pos (vm_nle_g c2)] | rw [sp_sum, if_neg (vm_le_ng c2)]]
        exact ij trivial
  · show vm_J _ _ _ (4, (0, 0), [.ref 152, .int (sp_sum (fun p => if 0 < I 153 p then 1 else 0) 4), .int (nI 4)], []) (G, I, F) _ _
    refine vm_J.go vm_q177 (k := 3) (hs := []) (f' := (bif vm_ic .ge (nI 4) 4 then 32 else 9, (0, 0), [.ref 152, .int (sp_sum (fun p => if 0 < I 153 p then 1 else 0) 4), .int (nI 4)], [])) (h' := (G, I, F)) (hs' := []) rfl rfl ?_
    refine vm_J.br (fun c3 => ?_) (fun c3 => ?_)
    · have c3 := vm_ge_t (a := 4) (b := 4) (by omega) (by omega) c3
      refine vm_J.go vm_q177 (k := 1) (hs := []) (f' := (33, (0, 0), [.ref 152, .int (sp_sum (fun p => if 0 < I 153 p then 1 else 0) 4), .int (nI 4)], [.int (sp_sum (fun p => if 0 < I 153 p then 1 else 0) 4)])) (h' := (G, I, F)) (hs' := []) rfl rfl ?_
      exact vm_J.end vm_q177 (en := (33, .ireturn, 1, [], .null)) rfl rfl vm_rI (Nat.zero_le _) (Nat.zero_le _) rfl
    · have c3 := vm_ge_f (a := 4) (b := 4) (by omega) (by omega) c3
      exact (show False by omega).elim
