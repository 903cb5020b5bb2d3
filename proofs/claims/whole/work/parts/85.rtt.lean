abbrev sp_CL : Type := Int32 × Int32 × Nat × Int32
/-- a text from behind a clause on, u more being allowed: its clauses, and where the reading stands then -/
def sp_tl (t : Nat → Int32) (n : Nat) : Nat → Nat → Option (List sp_CL) × Nat
  | 0, p => if p = n then (some [], p) else (none, p)
  | u + 1, p => if p = n then (some [], p) else if sp_sg t n p = 59 then (match sp_cl t n (p + 1) with
    | (none, p1) => (none, p1)
    | (some q, p1) => ((sp_tl t n u p1).1.map (fun r => q :: r), (sp_tl t n u p1).2)) else (none, p)
def sp_txt (t : Nat → Int32) (n : Nat) : Option (List sp_CL) × Nat := match sp_cl t n 0 with
  | (none, p1) => (none, p1)
  | (some q, p1) => ((sp_tl t n 11 p1).1.map (fun r => q :: r), (sp_tl t n 11 p1).2)
def vr_ok (o : Option (List sp_CL)) : Int32 := match o with
  | none => 0
  | some _ => 1
def vr_row (H : Nat → Nat → Int32) (j : Nat) (q : sp_CL) : Prop := H 166 j = q.1 ∧ H 168 j = nI q.2.2.1 ∧ (q.2.2.1 = 1 ∨ H 167 j = q.2.1) ∧ H 169 j = q.2.2.2
def vr_tQ (H : Nat → Nat → Int32) (k : Nat) : Option (List sp_CL) → Prop
  | none => True
  | some ls => H 152 27 = nI (k + ls.length) ∧ k + ls.length ≤ 12 ∧ ∀ i (q : sp_CL), ls[i]? = some q → vr_row H (k + i) q
def vr_tP (I H : Nat → Nat → Int32) (n k : Nat) (r : Option (List sp_CL) × Nat) : Prop := (∀ x, x ≠ 152 → x ≠ 166 → x ≠ 167 → x ≠ 168 → x ≠ 169 → H x = I x) ∧ (∀ b, b ≠ 26 → b ≠ 27 → b ≠ 28 → H 152 b = I 152 b) ∧ (∀ j, j < k → H 166 j = I 166 j ∧ H 167 j = I 167 j ∧ H 168 j = I 168 j ∧ H 169 j = I 169 j) ∧ H 152 26 = nI r.2 ∧ vr_tQ H k r.1
theorem vr_row_e {H J : Nat → Nat → Int32} {j : Nat} {q : sp_CL} (h : vr_row H j q) (e : J 166 j = H 166 j ∧ J 167 j = H 167 j ∧ J 168 j = H 168 j ∧ J 169 j = H 169 j) : vr_row J j q := ⟨e.1.trans h.1, e.2.2.1.trans h.2.1, h.2.2.1.imp_right fun z => e.2.1.trans z, e.2.2.2.trans h.2.2.2⟩
set_option maxHeartbeats 4000000 in
set_option maxRecDepth 20000 in
theorem r_textL {l : Launch} {X : vm_Cx} {G : List vm_Sh} {F : Nat → Nat → UInt32} {n : Nat} (hR : vm_isR G) (hn2 : n ≤ 100) (t : Nat → Int32) : ∀ (u : Nat) (I : Nat → Nat → Int32) (p k : Nat), k + u = 12 → p ≤ n → I 152 25 = nI n → I 152 26 = nI p → I 152 27 = nI k → I 165 = t → ∃ H, vm_J l X vm_M226 (19, (0, 0), [.ref 152], []) (G, I, F) (some (.int (vr_ok (sp_tl t n u p).1))) (G, H, F) ∧ vr_tP I H n k (sp_tl t n u p)
  | 0, I, p, k, hku, hp2, hn, hp, hk, ht => by
    by_cases he : p = n
    · have hE : sp_tl t n 0 p = (some [], p) := if_pos he
      rw [hE]
      refine ⟨I, ?_, ⟨fun x _ _ _ _ _ => rfl, fun b _ _ _ => rfl, fun j _ => ⟨rfl, rfl, rfl, rfl⟩, hp, ⟨hk, by show k + 0 ≤ 12; omega, fun i q h => by cases h⟩⟩⟩
      refine vm_J.go vm_q226 (k := 2) (hs := [vm_shR]) (f' := (23, (0, 0), [.ref 152], [.int (I 152 27)])) (h' := (G, I, F)) (hs' := []) rfl (vm_b2 rfl (vm_b2 (vm_b2 (vm_hG hR.c152) rfl) rfl)) ?_
      rw [(hk : I 152 27 = nI k)]
      refine vm_J.go vm_q226 (k := 2) (hs := []) (f' := (bif vm_ic .ge (nI k) 12 then 46 else 28, (0, 0), [.ref 152], [])) (h' := (G, I, F)) (hs' := []) rfl rfl ?_
      refine vm_J.br (fun c1 => ?_) (fun c1 => ?_)
      · have c1 := vm_ge_t (a := k) (b := 12) (by omega) (by omega) c1
        refine vm_J.go vm_q226 (k := 2) (hs := [vm_shR]) (f' := (50, (0, 0), [.ref 152], [.int (I 152 26)])) (h' := (G, I, F)) (hs' := []) rfl (vm_b2 rfl (vm_b2 (vm_b2 (vm_hG hR.c152) rfl) rfl)) ?_
        rw [(hp : I 152 26 = nI p)]
        refine vm_J.go vm_q226 (k := 2) (hs := [vm_shR]) (f' := (54, (0, 0), [.ref 152], [.int (I 152 25), .int (nI p)])) (h' := (G, I, F)) (hs' := []) rfl (vm_b2 rfl (vm_b2 (vm_b2 (vm_hG hR.c152) rfl) rfl)) ?_
        rw [(hn : I 152 25 = nI n)]
        refine vm_J.go vm_q226 (k := 1) (hs := []) (f' := (bif vm_ic .ne (nI p) (nI n) then 61 else 57, (0, 0), [.ref 152], [])) (h' := (G, I, F)) (hs' := []) rfl rfl ?_
        refine vm_J.br (fun c2 => ?_) (fun c2 => ?_)
        · have c2 := vm_ne_t (a := p) (b := n) (by omega) (by omega) c2
          exact (show False by omega).elim
        · have c2 := vm_ne_f (a := p) (b := n) (by omega) (by omega) c2
          refine vm_J.go vm_q226 (k := 2) (hs := []) (f' := (62, (0, 0), [.ref 152], [.int 1])) (h' := (G, I, F)) (hs' := []) rfl rfl ?_
          exact vm_J.end vm_q226 (en := (62, .ireturn, 1, [], .null)) rfl rfl vm_rZ1 (Nat.zero_le _) (Nat.zero_le _) rfl
      · have c1 := vm_ge_f (a := k) (b := 12) (by omega) (by omega) c1
        exact (show False by omega).elim
    · have hE : sp_tl t n 0 p = (none, p) := if_neg he
      rw [hE]
      refine ⟨I, ?_, ⟨fun x _ _ _ _ _ => rfl, fun b _ _ _ => rfl, fun j _ => ⟨rfl, rfl, rfl, rfl⟩, hp, trivial⟩⟩
      refine vm_J.go vm_q226 (k := 2) (hs := [vm_shR]) (f' := (23, (0, 0), [.ref 152], [.int (I 152 27)])) (h' := (G, I, F)) (hs' := []) rfl (vm_b2 rfl (vm_b2 (vm_b2 (vm_hG hR.c152) rfl) rfl)) ?_
      rw [(hk : I 152 27 = nI k)]
      refine vm_J.go vm_q226 (k := 2) (hs := []) (f' := (bif vm_ic .ge (nI k) 12 then 46 else 28, (0, 0), [.ref 152], [])) (h' := (G, I, F)) (hs' := []) rfl rfl ?_
      refine vm_J.br (fun c1 => ?_) (fun c1 => ?_)
      · have c1 := vm_ge_t (a := k) (b := 12) (by omega) (by omega) c1
        refine vm_J.go vm_q226 (k := 2) (hs := [vm_shR]) (f' := (50, (0, 0), [.ref 152], [.int (I 152 26)])) (h' := (G, I, F)) (hs' := []) rfl (vm_b2 rfl (vm_b2 (vm_b2 (vm_hG hR.c152) rfl) rfl)) ?_
        rw [(hp : I 152 26 = nI p)]
        refine vm_J.go vm_q226 (k := 2) (hs := [vm_shR]) (f' := (54, (0, 0), [.ref 152], [.int (I 152 25), .int (nI p)])) (h' := (G, I, F)) (hs' := []) rfl (vm_b2 rfl (vm_b2 (vm_b2 (vm_hG hR.c152) rfl) rfl)) ?_
        rw [(hn : I 152 25 = nI n)]
        refine vm_J.go vm_q226 (k := 1) (hs := []) (f' := (bif vm_ic .ne (nI p) (nI n) then 61 else 57, (0, 0), [.ref 152], [])) (h' := (G, I, F)) (hs' := []) rfl rfl ?_
        refine vm_J.br (fun c2 => ?_) (fun c2 => ?_)
        · have c2 := vm_ne_t (a := p) (b := n) (by omega) (by omega) c2
          refine vm_J.go vm_q226 (k := 1) (hs := []) (f' := (62, (0, 0), [.ref 152], [.int 0])) (h' := (G, I, F)) (hs' := []) rfl rfl ?_
          exact vm_J.end vm_q226 (en := (62, .ireturn, 1, [], .null)) rfl rfl vm_rZ0 (Nat.zero_le _) (Nat.zero_le _) rfl
        · have c2 := vm_ne_f (a := p) (b := n) (by omega) (by omega) c2
          exact (show False by omega).elim
      · have c1 := vm_ge_f (a := k) (b := 12) (by omega) (by omega) c1
        exact (show False by omega).elim
  | u + 1, I, p, k, hku, hp2, hn, hp, hk, ht => by
    by_cases he : p = n
    · have hE : sp_tl t n (u + 1) p = (some [], p) := if_pos he
      rw [hE]
      have hs : ¬ sp_sg (I 165) n p = 59 := by rw [he]; unfold sp_sg; rw [if_neg (Nat.lt_irrefl n)]; decide
      refine ⟨(vm_up I 152 26 (nI p)), ?_, ⟨fun x x1 _ _ _ _ => vm_up_f _ 152 _ _ x x1, fun b b1 _ _ => vm_up_k2 _ 152 26 _ b b1, fun j _ => ⟨vm_up_o2 _ 152 _ _ 166 j (by decide), vm_up_o2 _ 152 _ _ 167 j (by decide), vm_up_o2 _ 152 _ _ 168 j (by decide), vm_up_o2 _ 152 _ _ 169 j (by decide)⟩, vm_up_h _ _ _ _, ⟨(vm_up_k2 _ 152 26 _ 27 (by decide)).trans hk, by show k + 0 ≤ 12; omega, fun i q h => by cases h⟩⟩⟩
      refine vm_J.go vm_q226 (k := 2) (hs := [vm_shR]) (f' := (23, (0, 0), [.ref 152], [.int (I 152 27)])) (h' := (G, I, F)) (hs' := []) rfl (vm_b2 rfl (vm_b2 (vm_b2 (vm_hG hR.c152) rfl) rfl)) ?_
      rw [(hk : I 152 27 = nI k)]
      refine vm_J.go vm_q226 (k := 2) (hs := []) (f' := (bif vm_ic .ge (nI k) 12 then 46 else 28, (0, 0), [.ref 152], [])) (h' := (G, I, F)) (hs' := []) rfl rfl ?_
      refine vm_J.br (fun c1 => ?_) (fun c1 => ?_)
      · have c1 := vm_ge_t (a := k) (b := 12) (by omega) (by omega) c1
        exact (show False by omega).elim
      · have c1 := vm_ge_f (a := k) (b := 12) (by omega) (by omega) c1
        refine vm_J.go vm_q226 (k := 2) (hs := []) (f' := (31, (0, 0), [.ref 152], [.int 59, .ref 152])) (h' := (G, I, F)) (hs' := []) rfl rfl ?_
        refine vm_J.call vm_q226 (Z := vm_M221) (n := 1) (k := 0) (mi := 221) (pc := 31) (en := (31, .invokevirtual 282, 3, [221, 1508, 0], .null)) rfl trivial rfl rfl vm_z221 (av := [.ref 152, .int 59]) (rest := []) (r_reads_0 (n := n) (p := p) (c := 59) hR hn hp (by omega) (by omega) hs) ⟨_, _, rfl, rfl, _, 11, _, hR.c152, rfl, rfl, rfl⟩ (Nat.le_of_ble_eq_true rfl) ⟨Nat.le_of_ble_eq_true rfl, Nat.le_of_ble_eq_true rfl⟩ ⟨Nat.le_of_ble_eq_true rfl, Nat.le_of_ble_eq_true rfl⟩ ?_
        show vm_J _ _ _ (34, (0, 0), [.ref 152], [.int 0]) (G, (vm_up I 152 26 (nI p)), F) _ _
        refine vm_J.go vm_q226 (k := 1) (hs := []) (f' := (bif vm_ic .eq 0 0 then 46 else 37, (0, 0), [.ref 152], [])) (h' := (G, (vm_up I 152 26 (nI p)), F)) (hs' := []) rfl rfl ?_
        refine vm_J.bT (by decide) ?_
        refine vm_J.go vm_q226 (k := 2) (hs := [vm_shR]) (f' := (50, (0, 0), [.ref 152], [.int ((vm_up I 152 26 (nI p)) 152 26)])) (h' := (G, (vm_up I 152 26 (nI p)), F)) (hs' := []) rfl (vm_b2 rfl (vm_b2 (vm_b2 (vm_hG hR.c152) rfl) rfl)) ?_
        rw [((vm_up_h _ 152 26 _) : (vm_up I 152 26 (nI p)) 152 26 = nI p)]
        refine vm_J.go vm_q226 (k := 2) (hs := [vm_shR]) (f' := (54, (0, 0), [.ref 152], [.int ((vm_up I 152 26 (nI p)) 152 25), .int (nI p)])) (h' := (G, (vm_up I 152 26 (nI p)), F)) (hs' := []) rfl (vm_b2 rfl (vm_b2 (vm_b2 (vm_hG hR.c152) rfl) rfl)) ?_
        rw [((Eq.trans (vm_up_k2 _ 152 26 _ 25 (by decide)) hn) : (vm_up I 152 26 (nI p)) 152 25 = nI n)]
        refine vm_J.go vm_q226 (k := 1) (hs := []) (f' := (bif vm_ic .ne (nI p) (nI n) then 61 else 57, (0, 0), [.ref 152], [])) (h' := (G, (vm_up I 152 26 (nI p)), F)) (hs' := []) rfl rfl ?_
        refine vm_J.br (fun c2 => ?_) (fun c2 => ?_)
        · have c2 := vm_ne_t (a := p) (b := n) (by omega) (by omega) c2
          exact (show False by omega).elim
        · have c2 := vm_ne_f (a := p) (b := n) (by omega) (by omega) c2
          refine vm_J.go vm_q226 (k := 2) (hs := []) (f' := (62, (0, 0), [.ref 152], [.int 1])) (h' := (G, (vm_up I 152 26 (nI p)), F)) (hs' := []) rfl rfl ?_
          exact vm_J.end vm_q226 (en := (62, .ireturn, 1, [], .null)) rfl rfl vm_rZ1 (Nat.zero_le _) (Nat.zero_le _) rfl
    · by_cases hs : sp_sg (I 165) n p = 59
      · have hlt := sp_sg_lt (t := I 165) (n := n) (s := 59) (by decide) hs
        obtain ⟨H1, hK, hP1, hP2, hP3, hP4, hP5⟩ := r_clause (l := l) (X := X) (I := (vm_up I 152 26 (nI (p + 1)))) (F := F) (n := n) (p := p + 1) (k := k) hR ((vm_up_k2 _ 152 26 _ 25 (by decide)).trans hn) (vm_up_h _ _ _ _) hn2 hlt ((vm_up_k2 _ 152 26 _ 27 (by decide)).trans hk) (by omega)
        rw [show (vm_up I 152 26 (nI (p + 1))) 165 = t from (vm_up_f _ 152 _ _ 165 (by decide)).trans ht] at hK hP4 hP5
        have hst : sp_sg t n p = 59 := by rw [← ht]; exact hs
        have hcle : (sp_cl t n (p + 1)).2 ≤ n := sp_cl_le hlt
        rcases hcl : sp_cl t n (p + 1) with ⟨_ | q, p1⟩
        · rw [hcl] at hK hP4 hP5
          have hE : sp_tl t n (u + 1) p = (none, p1) := by
            unfold sp_tl
            rw [if_neg he, if_pos hst, hcl]
          rw [hE]
          refine ⟨H1, ?_, fun x x1 x2 x3 x4 x5 => (hP1 x x1 x2 x3 x4 x5).trans (vm_up_f _ 152 _ _ x x1), fun b b1 b2 b3 => (hP2 b b1 b2 b3).trans (vm_up_k2 _ 152 26 _ b b1), fun j hj => ?_, hP4, trivial⟩
          · refine vm_J.go vm_q226 (k := 2) (hs := [vm_shR]) (f' := (23, (0, 0), [.ref 152], [.int (I 152 27)])) (h' := (G, I, F)) (hs' := []) rfl (vm_b2 rfl (vm_b2 (vm_b2 (vm_hG hR.c152) rfl) rfl)) ?_
            rw [(hk : I 152 27 = nI k)]
            refine vm_J.go vm_q226 (k := 2) (hs := []) (f' := (bif vm_ic .ge (nI k) 12 then 46 else 28, (0, 0), [.ref 152], [])) (h' := (G, I, F)) (hs' := []) rfl rfl ?_
            refine vm_J.br (fun c1 => ?_) (fun c1 => ?_)
            · have c1 := vm_ge_t (a := k) (b := 12) (by omega) (by omega) c1
              exact (show False by omega).elim
            · have c1 := vm_ge_f (a := k) (b := 12) (by omega) (by omega) c1
              refine vm_J.go vm_q226 (k := 2) (hs := []) (f' := (31, (0, 0), [.ref 152], [.int 59, .ref 152])) (h' := (G, I, F)) (hs' := []) rfl rfl ?_
              refine vm_J.call vm_q226 (Z := vm_M221) (n := 1) (k := 0) (mi := 221) (pc := 31) (en := (31, .invokevirtual 282, 3, [221, 1508, 0], .null)) rfl trivial rfl rfl vm_z221 (av := [.ref 152, .int 59]) (rest := []) (r_reads_1 (n := n) (p := p) (c := 59) hR hn hp (by omega) (by omega) hs) ⟨_, _, rfl, rfl, _, 11, _, hR.c152, rfl, rfl, rfl⟩ (Nat.le_of_ble_eq_true rfl) ⟨Nat.le_of_ble_eq_true rfl, Nat.le_of_ble_eq_true rfl⟩ ⟨Nat.le_of_ble_eq_true rfl, Nat.le_of_ble_eq_true rfl⟩ ?_
              show vm_J _ _ _ (34, (0, 0), [.ref 152], [.int 1]) (G, (vm_up I 152 26 (nI (p + 1))), F) _ _
              refine vm_J.go vm_q226 (k := 1) (hs := []) (f' := (bif vm_ic .eq 1 0 then 46 else 37, (0, 0), [.ref 152], [])) (h' := (G, (vm_up I 152 26 (nI (p + 1))), F)) (hs' := []) rfl rfl ?_
              refine vm_J.bF (by decide) ?_
              refine vm_J.go vm_q226 (k := 1) (hs := []) (f' := (38, (0, 0), [.ref 152], [.ref 152])) (h' := (G, (vm_up I 152 26 (nI (p + 1))), F)) (hs' := []) rfl rfl ?_
              refine vm_J.call vm_q226 (Z := vm_M225) (n := 0) (k := 0) (mi := 225) (pc := 38) (en := (38, .invokevirtual 298, 3, [225, 1500, 0], .null)) rfl trivial rfl rfl vm_z225 (av := [.ref 152]) (rest := []) hK ⟨_, _, rfl, rfl, _, 11, _, hR.c152, rfl, rfl, rfl⟩ (Nat.le_of_ble_eq_true rfl) ⟨Nat.le_of_ble_eq_true rfl, Nat.le_of_ble_eq_true rfl⟩ ⟨Nat.le_of_ble_eq_true rfl, Nat.le_of_ble_eq_true rfl⟩ ?_
              show vm_J _ _ _ (41, (0, 0), [.ref 152], [.int 0]) (G, H1, F) _ _
              refine vm_J.go vm_q226 (k := 1) (hs := []) (f' := (bif vm_ic .ne 0 0 then 19 else 44, (0, 0), [.ref 152], [])) (h' := (G, H1, F)) (hs' := []) rfl rfl ?_
              refine vm_J.bF (by decide) ?_
              refine vm_J.go vm_q226 (k := 1) (hs := []) (f' := (45, (0, 0), [.ref 152], [.int 0])) (h' := (G, H1, F)) (hs' := []) rfl rfl ?_
              exact vm_J.end vm_q226 (en := (45, .ireturn, 1, [], .null)) rfl rfl vm_rZ0 (Nat.zero_le _) (Nat.zero_le _) rfl
          · obtain ⟨e1, e2, e3, e4⟩ := hP3 j (by omega)
            exact ⟨e1.trans (vm_up_o2 _ 152 _ _ 166 j (by decide)), e2.trans (vm_up_o2 _ 152 _ _ 167 j (by decide)), e3.trans (vm_up_o2 _ 152 _ _ 168 j (by decide)), e4.trans (vm_up_o2 _ 152 _ _ 169 j (by decide))⟩
        · rw [hcl] at hK hP4 hP5 hcle
          obtain ⟨c27, c66, c68, c67, c69⟩ := hP5
          obtain ⟨H, hJ, hQ1, hQ2, hQ3, hQ4, hQ5⟩ := r_textL hR hn2 t u H1 p1 (k + 1) (by omega) hcle ((hP2 25 (by decide) (by decide) (by decide)).trans ((vm_up_k2 _ 152 26 _ 25 (by decide)).trans hn)) hP4 c27 ((hP1 165 (by decide) (by decide) (by decide) (by decide) (by decide)).trans ((vm_up_f _ 152 _ _ 165 (by decide)).trans ht))
          have hE : sp_tl t n (u + 1) p = ((sp_tl t n u p1).1.map (fun r => q :: r), (sp_tl t n u p1).2) := by
            conv => lhs; unfold sp_tl
            rw [if_neg he, if_pos hst, hcl]
          rw [hE]
          refine ⟨H, ?_, fun x x1 x2 x3 x4 x5 => (hQ1 x x1 x2 x3 x4 x5).trans ((hP1 x x1 x2 x3 x4 x5).trans (vm_up_f _ 152 _ _ x x1)), fun b b1 b2 b3 => (hQ2 b b1 b2 b3).trans ((hP2 b b1 b2 b3).trans (vm_up_k2 _ 152 26 _ b b1)), fun j hj => ?_, hQ4, ?_⟩
          · rw [show vr_ok ((sp_tl t n u p1).1.map (fun r => q :: r)) = vr_ok (sp_tl t n u p1).1 from by cases (sp_tl t n u p1).1 <;> rfl]
            refine vm_J.go vm_q226 (k := 2) (hs := [vm_shR]) (f' := (23, (0, 0), [.ref 152], [.int (I 152 27)])) (h' := (G, I, F)) (hs' := []) rfl (vm_b2 rfl (vm_b2 (vm_b2 (vm_hG hR.c152) rfl) rfl)) ?_
            rw [(hk : I 152 27 = nI k)]
            refine vm_J.go vm_q226 (k := 2) (hs := []) (f' := (bif vm_ic .ge (nI k) 12 then 46 else 28, (0, 0), [.ref 152], [])) (h' := (G, I, F)) (hs' := []) rfl rfl ?_
            refine vm_J.br (fun c1 => ?_) (fun c1 => ?_)
            · have c1 := vm_ge_t (a := k) (b := 12) (by omega) (by omega) c1
              exact (show False by omega).elim
            · have c1 := vm_ge_f (a := k) (b := 12) (by omega) (by omega) c1
              refine vm_J.go vm_q226 (k := 2) (hs := []) (f' := (31, (0, 0), [.ref 152], [.int 59, .ref 152])) (h' := (G, I, F)) (hs' := []) rfl rfl ?_
              refine vm_J.call vm_q226 (Z := vm_M221) (n := 1) (k := 0) (mi := 221) (pc := 31) (en := (31, .invokevirtual 282, 3, [221, 1508, 0], .null)) rfl trivial rfl rfl vm_z221 (av := [.ref 152, .int 59]) (rest := []) (r_reads_1 (n := n) (p := p) (c := 59) hR hn hp (by omega) (by omega) hs) ⟨_, _, rfl, rfl, _, 11, _, hR.c152, rfl, rfl, rfl⟩ (Nat.le_of_ble_eq_true rfl) ⟨Nat.le_of_ble_eq_true rfl, Nat.le_of_ble_eq_true rfl⟩ ⟨Nat.le_of_ble_eq_true rfl, Nat.le_of_ble_eq_true rfl⟩ ?_
              show vm_J _ _ _ (34, (0, 0), [.ref 152], [.int 1]) (G, (vm_up I 152 26 (nI (p + 1))), F) _ _
              refine vm_J.go vm_q226 (k := 1) (hs := []) (f' := (bif vm_ic .eq 1 0 then 46 else 37, (0, 0), [.ref 152], [])) (h' := (G, (vm_up I 152 26 (nI (p + 1))), F)) (hs' := []) rfl rfl ?_
              refine vm_J.bF (by decide) ?_
              refine vm_J.go vm_q226 (k := 1) (hs := []) (f' := (38, (0, 0), [.ref 152], [.ref 152])) (h' := (G, (vm_up I 152 26 (nI (p + 1))), F)) (hs' := []) rfl rfl ?_
              refine vm_J.call vm_q226 (Z := vm_M225) (n := 0) (k := 0) (mi := 225) (pc := 38) (en := (38, .invokevirtual 298, 3, [225, 1500, 0], .null)) rfl trivial rfl rfl vm_z225 (av := [.ref 152]) (rest := []) hK ⟨_, _, rfl, rfl, _, 11, _, hR.c152, rfl, rfl, rfl⟩ (Nat.le_of_ble_eq_true rfl) ⟨Nat.le_of_ble_eq_true rfl, Nat.le_of_ble_eq_true rfl⟩ ⟨Nat.le_of_ble_eq_true rfl, Nat.le_of_ble_eq_true rfl⟩ ?_
              show vm_J _ _ _ (41, (0, 0), [.ref 152], [.int 1]) (G, H1, F) _ _
              refine vm_J.go vm_q226 (k := 1) (hs := []) (f' := (bif vm_ic .ne 1 0 then 19 else 44, (0, 0), [.ref 152], [])) (h' := (G, H1, F)) (hs' := []) rfl rfl ?_
              refine vm_J.bT (by decide) ?_
              exact hJ
          · obtain ⟨e1, e2, e3, e4⟩ := hP3 j (by omega)
            obtain ⟨d1, d2, d3, d4⟩ := hQ3 j (by omega)
            exact ⟨d1.trans (e1.trans (vm_up_o2 _ 152 _ _ 166 j (by decide))), d2.trans (e2.trans (vm_up_o2 _ 152 _ _ 167 j (by decide))), d3.trans (e3.trans (vm_up_o2 _ 152 _ _ 168 j (by decide))), d4.trans (e4.trans (vm_up_o2 _ 152 _ _ 169 j (by decide)))⟩
          · rcases hl : (sp_tl t n u p1).1 with _ | ls
            · trivial
            · rw [hl] at hQ5
              obtain ⟨g1, g2, g3⟩ := hQ5
              refine ⟨by rw [g1, List.length_cons]; congr 1; omega, by rw [List.length_cons]; omega, fun i r hr => ?_⟩
              cases i with
              | zero =>
                cases hr
                exact vr_row_e (H := H1) ⟨c66, c68, c67, c69⟩ (hQ3 k (by omega))
              | succ i =>
                rw [List.getElem?_cons_succ] at hr
                have := g3 i r hr
                rw [show k + (i + 1) = k + 1 + i by omega]
                exact this
      · have hst : ¬ sp_sg t n p = 59 := by rw [← ht]; exact hs
        have hE : sp_tl t n (u + 1) p = (none, p) := by
          unfold sp_tl
          rw [if_neg he, if_neg hst]
        rw [hE]
        refine ⟨(vm_up I 152 26 (nI p)), ?_, ⟨fun x x1 _ _ _ _ => vm_up_f _ 152 _ _ x x1, fun b b1 _ _ => vm_up_k2 _ 152 26 _ b b1, fun j _ => ⟨vm_up_o2 _ 152 _ _ 166 j (by decide), vm_up_o2 _ 152 _ _ 167 j (by decide), vm_up_o2 _ 152 _ _ 168 j (by decide), vm_up_o2 _ 152 _ _ 169 j (by decide)⟩, vm_up_h _ _ _ _, trivial⟩⟩
        refine vm_J.go vm_q226 (k := 2) (hs := [vm_shR]) (f' := (23, (0, 0), [.ref 152], [.int (I 152 27)])) (h' := (G, I, F)) (hs' := []) rfl (vm_b2 rfl (vm_b2 (vm_b2 (vm_hG hR.c152) rfl) rfl)) ?_
        rw [(hk : I 152 27 = nI k)]
        refine vm_J.go vm_q226 (k := 2) (hs := []) (f' := (bif vm_ic .ge (nI k) 12 then 46 else 28, (0, 0), [.ref 152], [])) (h' := (G, I, F)) (hs' := []) rfl rfl ?_
        refine vm_J.br (fun c1 => ?_) (fun c1 => ?_)
        · have c1 := vm_ge_t (a := k) (b := 12) (by omega) (by omega) c1
          exact (show False by omega).elim
        · have c1 := vm_ge_f (a := k) (b := 12) (by omega) (by omega) c1
          refine vm_J.go vm_q226 (k := 2) (hs := []) (f' := (31, (0, 0), [.ref 152], [.int 59, .ref 152])) (h' := (G, I, F)) (hs' := []) rfl rfl ?_
          refine vm_J.call vm_q226 (Z := vm_M221) (n := 1) (k := 0) (mi := 221) (pc := 31) (en := (31, .invokevirtual 282, 3, [221, 1508, 0], .null)) rfl trivial rfl rfl vm_z221 (av := [.ref 152, .int 59]) (rest := []) (r_reads_0 (n := n) (p := p) (c := 59) hR hn hp (by omega) (by omega) hs) ⟨_, _, rfl, rfl, _, 11, _, hR.c152, rfl, rfl, rfl⟩ (Nat.le_of_ble_eq_true rfl) ⟨Nat.le_of_ble_eq_true rfl, Nat.le_of_ble_eq_true rfl⟩ ⟨Nat.le_of_ble_eq_true rfl, Nat.le_of_ble_eq_true rfl⟩ ?_
          show vm_J _ _ _ (34, (0, 0), [.ref 152], [.int 0]) (G, (vm_up I 152 26 (nI p)), F) _ _
          refine vm_J.go vm_q226 (k := 1) (hs := []) (f' := (bif vm_ic .eq 0 0 then 46 else 37, (0, 0), [.ref 152], [])) (h' := (G, (vm_up I 152 26 (nI p)), F)) (hs' := []) rfl rfl ?_
          refine vm_J.bT (by decide) ?_
          refine vm_J.go vm_q226 (k := 2) (hs := [vm_shR]) (f' := (50, (0, 0), [.ref 152], [.int ((vm_up I 152 26 (nI p)) 152 26)])) (h' := (G, (vm_up I 152 26 (nI p)), F)) (hs' := []) rfl (vm_b2 rfl (vm_b2 (vm_b2 (vm_hG hR.c152) rfl) rfl)) ?_
          rw [((vm_up_h _ 152 26 _) : (vm_up I 152 26 (nI p)) 152 26 = nI p)]
          refine vm_J.go vm_q226 (k := 2) (hs := [vm_shR]) (f' := (54, (0, 0), [.ref 152], [.int ((vm_up I 152 26 (nI p)) 152 25), .int (nI p)])) (h' := (G, (vm_up I 152 26 (nI p)), F)) (hs' := []) rfl (vm_b2 rfl (vm_b2 (vm_b2 (vm_hG hR.c152) rfl) rfl)) ?_
          rw [((Eq.trans (vm_up_k2 _ 152 26 _ 25 (by decide)) hn) : (vm_up I 152 26 (nI p)) 152 25 = nI n)]
          refine vm_J.go vm_q226 (k := 1) (hs := []) (f' := (bif vm_ic .ne (nI p) (nI n) then 61 else 57, (0, 0), [.ref 152], [])) (h' := (G, (vm_up I 152 26 (nI p)), F)) (hs' := []) rfl rfl ?_
          refine vm_J.br (fun c2 => ?_) (fun c2 => ?_)
          · have c2 := vm_ne_t (a := p) (b := n) (by omega) (by omega) c2
            refine vm_J.go vm_q226 (k := 1) (hs := []) (f' := (62, (0, 0), [.ref 152], [.int 0])) (h' := (G, (vm_up I 152 26 (nI p)), F)) (hs' := []) rfl rfl ?_
            exact vm_J.end vm_q226 (en := (62, .ireturn, 1, [], .null)) rfl rfl vm_rZ0 (Nat.zero_le _) (Nat.zero_le _) rfl
          · have c2 := vm_ne_f (a := p) (b := n) (by omega) (by omega) c2
            exact (show False by omega).elim
