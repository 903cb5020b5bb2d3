theorem vm_up_c {α : Type} (I : Nat → Nat → α) (a k b j : Nat) (x y : α) (h : a ≠ b ∨ k ≠ j) : vm_up (vm_up I a k x) b j y = vm_up (vm_up I b j y) a k x := by
  funext p q
  unfold vm_up
  by_cases h1 : p = b
  · by_cases h2 : q = j
    · subst h1; subst h2
      by_cases h3 : p = a
      · have h4 : ¬ q = k := by omega
        simp [h3, h4]
      · simp [h3]
    · simp [h1, h2]
  · simp [h1]
theorem vm_fil_c (I : Nat → Nat → Int32) (o b c m : Nat) (f t s lk x : Int32) (h1 : o ≠ b) (h2 : o ≠ c) : ∀ i, vm_fil (vm_up I o 2 x) o b c m f t s lk i = vm_up (vm_fil I o b c m f t s lk i) o 2 x
  | 0 => rfl
  | i + 1 => by
    unfold vm_fil
    rw [vm_fil_c I o b c m f t s lk x h1 h2 i, vm_up_c _ o 2 b _ _ _ (Or.inl h1), vm_up_c _ o 2 c _ _ _ (Or.inl h2), vm_up_c _ o 2 o 5 _ _ (Or.inr (by decide))]
theorem sp_cl_le {t : Nat → Int32} {n p : Nat} (hp : p ≤ n) : (sp_cl t n p).2 ≤ n := by
  have h1 := sp_pc_le (t := t) hp
  have h2 := sp_ps_le (t := t) (s := 62) (by decide) h1
  have h3 := sp_pc_le (t := t) h2
  have h4 := sp_ps_le (t := t) (s := 58) (by decide) h3
  have h5 := sp_ps_le (t := t) (s := 33) (by decide) h2
  unfold sp_cl
  split
  · split
    · split
      · split
        · split
          · rename_i hh
            have h6 := sp_sg_lt (t := t) (n := n) (Int32.le_trans (by decide : (0 : Int32) ≤ 50) hh.1) rfl
            have h7 := sp_ps_le (t := t) (s := 33) (by decide) h6
            split <;> exact h7
          · exact h4
        · exact h4
      · exact h3
    · split <;> exact h5
  · exact h1
def sp_k8 (r : Option (Int32 × Int32 × Nat × Int32) × Nat) : Prop := match r.1 with
  | none => True
  | some q => q.2.2.1 ≤ 8
theorem sp_cl_8 {t : Nat → Int32} {n p : Nat} : sp_k8 (sp_cl t n p) := by
  unfold sp_cl
  split
  · split
    · split
      · split
        · split
          · rename_i hh
            have h6 := (sp_shd_i hh).2.2
            split <;> exact h6
          · exact trivial
        · exact trivial
      · exact trivial
    · split <;> exact (by decide : (1 : Nat) ≤ 8)
  · exact trivial
/-- a text is read: whether it is as it should be, and what stands then -/
def vm_prr (t : Nat → Int32) (n o b c : Nat) : Nat → (Nat → Nat → Int32) → Nat → Nat → Int32 × (Nat → Nat → Int32)
  | 0, B, p, _ => (0, vm_up B o 2 (nI p))
  | u + 1, B, p, m => match sp_cl t n p with
    | (none, p') => (0, vm_up B o 2 (nI p'))
    | (some (f, g, k, lk), p') =>
      if p' = n then (1, vm_up (vm_fil B o b c m f g (nI k - 1) lk k) o 2 (nI p'))
      else if u = 0 ∨ ¬ sp_sg t n p' = 59 then (0, vm_up (vm_fil B o b c m f g (nI k - 1) lk k) o 2 (nI p'))
      else vm_prr t n o b c u (vm_fil B o b c m f g (nI k - 1) lk k) (p' + 1) (m + k)
theorem m_Rd_cl_n {l : Launch} {X : vm_Cx} {G : List vm_Sh} {I : Nat → Nat → Int32} {F : Nat → Nat → UInt32} {o a b c n p m p1 : Nat} {B : Nat → Nat → Int32} {t : Nat → Int32} (ho : G[o]? = some (6, 6, [.ref a, .int 0, .int 0, .ref b, .ref c, .int 0])) (ha : G[a]? = some (0, 100, [])) (hb : G[b]? = some (0, 96, [])) (hc : G[c]? = some (0, 96, [])) (hao : a ≠ o) (hob : o ≠ b) (hoc : o ≠ c) (hab : a ≠ b) (hac : a ≠ c) (hn : B o 1 = nI n) (hn2 : n ≤ 100) (hp2 : p ≤ n) (hm : B o 5 = nI m) (hm2 : m + 8 ≤ 96) (hbt : B a = t) (h : sp_cl t n p = (none, p1)) : vm_K l X vm_M50 [.ref o] (G, vm_up B o 2 (nI p), F) (some (.int 0)) (G, vm_up B o 2 (nI p1), F) := by
  have q := m_Rd_clause (l := l) (X := X) (F := F) (I := B) ho ha hb hc hn hn2 hp2 hao hm hm2 hob hoc
  rw [hbt, h] at q
  exact q
theorem m_Rd_cl_y {l : Launch} {X : vm_Cx} {G : List vm_Sh} {I : Nat → Nat → Int32} {F : Nat → Nat → UInt32} {o a b c n p m p1 k : Nat} {f g lk : Int32} {B : Nat → Nat → Int32} {t : Nat → Int32} (ho : G[o]? = some (6, 6, [.ref a, .int 0, .int 0, .ref b, .ref c, .int 0])) (ha : G[a]? = some (0, 100, [])) (hb : G[b]? = some (0, 96, [])) (hc : G[c]? = some (0, 96, [])) (hao : a ≠ o) (hob : o ≠ b) (hoc : o ≠ c) (hab : a ≠ b) (hac : a ≠ c) (hn : B o 1 = nI n) (hn2 : n ≤ 100) (hp2 : p ≤ n) (hm : B o 5 = nI m) (hm2 : m + 8 ≤ 96) (hbt : B a = t) (h : sp_cl t n p = (some (f, g, k, lk), p1)) : vm_K l X vm_M50 [.ref o] (G, vm_up B o 2 (nI p), F) (some (.int 1)) (G, vm_up (vm_fil B o b c m f g (nI k - 1) lk k) o 2 (nI p1), F) := by
  have q := m_Rd_clause (l := l) (X := X) (F := F) (I := B) ho ha hb hc hn hn2 hp2 hao hm hm2 hob hoc
  rw [hbt, h] at q
  rw [← vm_fil_c _ _ _ _ _ _ _ _ _ _ hob hoc]
  exact q
theorem m_Rd_passes_t {l : Launch} {X : vm_Cx} {G : List vm_Sh} {I : Nat → Nat → Int32} {F : Nat → Nat → UInt32} {o a b c n p : Nat} {s : Int32} {t : Nat → Int32} (ho : G[o]? = some (6, 6, [.ref a, .int 0, .int 0, .ref b, .ref c, .int 0])) (ha : G[a]? = some (0, 100, [])) (hn : I o 1 = nI n) (hn2 : n ≤ 100) (hp2 : p ≤ n) (hao : a ≠ o) (ht : I a = t) : vm_K l X vm_M53 [.ref o, .int s] (G, (vm_up I o 2 (nI p)), F) (some (.int (vm_bi (sp_sg t n p = s)))) (G, vm_up I o 2 (nI (sp_ps t n s p)), F) := by
  rw [← ht]
  exact m_Rd_passes_u ho ha hn hn2 hp2 hao
set_option maxHeartbeats 4000000 in
set_option maxRecDepth 20000 in
theorem m_Rd_parseL {l : Launch} {X : vm_Cx} {G : List vm_Sh} {F : Nat → Nat → UInt32} {o a b c n : Nat} {t : Nat → Int32} (ho : G[o]? = some (6, 6, [.ref a, .int 0, .int 0, .ref b, .ref c, .int 0])) (ha : G[a]? = some (0, 100, [])) (hb : G[b]? = some (0, 96, [])) (hc : G[c]? = some (0, 96, [])) (hao : a ≠ o) (hob : o ≠ b) (hoc : o ≠ c) (hab : a ≠ b) (hac : a ≠ c) (hn2 : n ≤ 100) : ∀ (u : Nat) (B : Nat → Nat → Int32) (p m : Nat), u ≤ 12 → p ≤ n → m + 8 * u ≤ 96 → B o 1 = nI n → B o 5 = nI m → B a = t → vm_J l X vm_M48 (12, (0, 0), [.ref o, .int (nI (13 - u))], []) (G, vm_up B o 2 (nI p), F) (some (.int (vm_prr t n o b c u B p m).1)) (G, (vm_prr t n o b c u B p m).2, F)
  | 0, B, p, m, _, hp2, _, hn, hm, hbt => by
    show vm_J _ _ _ (12, (0, 0), [.ref o, .int 13], []) _ _ _
    refine vm_J.go vm_q48 (k := 3) (hs := []) (f' := (bif vm_ic .gt 13 12 then 63 else 18, (0, 0), [.ref o, .int 13], [])) (h' := (G, (vm_up B o 2 (nI p)), F)) (hs' := []) rfl rfl ?_
    refine vm_J.bT (by decide) ?_
    refine vm_J.go vm_q48 (k := 1) (hs := []) (f' := (64, (0, 0), [.ref o, .int 13], [.int 0])) (h' := (G, (vm_up B o 2 (nI p)), F)) (hs' := []) rfl rfl ?_
    exact vm_J.end vm_q48 (en := (64, .ireturn, 1, [], .null)) rfl rfl vm_rZ0 (Nat.zero_le _) (Nat.zero_le _) rfl
  | u + 1, B, p, m, hu, hp2, hmu, hn, hm, hbt => by
    have hpl := sp_cl_le (t := t) hp2
    have hk8 := sp_cl_8 (t := t) (n := n) (p := p)
    rcases hcl : sp_cl t n p with ⟨_ | ⟨f, g, k, lk⟩, p1⟩
    · rw [hcl] at hpl hk8
      have he : vm_prr t n o b c (u + 1) B p m = (0, vm_up B o 2 (nI p1)) := by unfold vm_prr; rw [hcl]
      show vm_J _ _ _ (12, (0, 0), [.ref o, .int (nI (13 - (u + 1)))], []) _ _ _
      refine vm_J.go vm_q48 (k := 3) (hs := []) (f' := (bif vm_ic .gt (nI (13 - (u + 1))) 12 then 63 else 18, (0, 0), [.ref o, .int (nI (13 - (u + 1)))], [])) (h' := (G, (vm_up B o 2 (nI p)), F)) (hs' := []) rfl rfl ?_
      refine vm_J.br (fun c1 => ?_) (fun c1 => ?_)
      · have c1 := vm_gt_t (a := 13 - (u + 1)) (b := 12) (by omega) (by omega) c1
        exact (show False by omega).elim
      · have c1 := vm_gt_f (a := 13 - (u + 1)) (b := 12) (by omega) (by omega) c1
        refine vm_J.go vm_q48 (k := 1) (hs := []) (f' := (19, (0, 0), [.ref o, .int (nI (13 - (u + 1)))], [.ref o])) (h' := (G, (vm_up B o 2 (nI p)), F)) (hs' := []) rfl rfl ?_
        refine vm_J.call vm_q48 (Z := vm_M50) (n := 0) (k := 0) (mi := 50) (pc := 19) (en := (19, .invokevirtual 35, 3, [50, 688, 0], .null)) rfl trivial rfl rfl vm_z50 (av := [.ref o]) (rest := []) (m_Rd_cl_n (I := B) ho ha hb hc hao hob hoc hab hac hn hn2 hp2 hm (by omega) hbt hcl) ⟨_, _, rfl, rfl, _, 4, _, ho, rfl, rfl, rfl⟩ (Nat.le_of_ble_eq_true rfl) ⟨Nat.le_of_ble_eq_true rfl, Nat.le_of_ble_eq_true rfl⟩ ⟨Nat.le_of_ble_eq_true rfl, Nat.le_of_ble_eq_true rfl⟩ ?_
        show vm_J _ _ _ (22, (0, 0), [.ref o, .int (nI (13 - (u + 1)))], [.int 0]) (G, (vm_up B o 2 (nI p1)), F) _ _
        refine vm_J.go vm_q48 (k := 1) (hs := []) (f' := (bif vm_ic .ne 0 0 then 27 else 25, (0, 0), [.ref o, .int (nI (13 - (u + 1)))], [])) (h' := (G, (vm_up B o 2 (nI p1)), F)) (hs' := []) rfl rfl ?_
        refine vm_J.bF (by decide) ?_
        refine vm_J.go vm_q48 (k := 1) (hs := []) (f' := (26, (0, 0), [.ref o, .int (nI (13 - (u + 1)))], [.int 0])) (h' := (G, (vm_up B o 2 (nI p1)), F)) (hs' := []) rfl rfl ?_
        rw [he]
        exact vm_J.end vm_q48 (en := (26, .ireturn, 1, [], .null)) rfl rfl vm_rZ0 (Nat.zero_le _) (Nat.zero_le _) rfl
    · rw [hcl] at hpl hk8
      have hk9 : k ≤ 8 := hk8
      have hp1 : p1 ≤ n := hpl
      have hft : (vm_fil B o b c m f g (nI k - 1) lk k) a = t := (funext fun x => vm_fil_o B o b c m f g _ lk a hao hab hac x k).trans hbt
      have hE : vm_prr t n o b c (u + 1) B p m = if p1 = n then (1, vm_up (vm_fil B o b c m f g (nI k - 1) lk k) o 2 (nI p1)) else if u = 0 ∨ ¬ sp_sg t n p1 = 59 then (0, vm_up (vm_fil B o b c m f g (nI k - 1) lk k) o 2 (nI p1)) else vm_prr t n o b c u (vm_fil B o b c m f g (nI k - 1) lk k) (p1 + 1) (m + k) := by conv => lhs; unfold vm_prr; rw [hcl]
      show vm_J _ _ _ (12, (0, 0), [.ref o, .int (nI (13 - (u + 1)))], []) _ _ _
      refine vm_J.go vm_q48 (k := 3) (hs := []) (f' := (bif vm_ic .gt (nI (13 - (u + 1))) 12 then 63 else 18, (0, 0), [.ref o, .int (nI (13 - (u + 1)))], [])) (h' := (G, (vm_up B o 2 (nI p)), F)) (hs' := []) rfl rfl ?_
      refine vm_J.br (fun c1 => ?_) (fun c1 => ?_)
      · have c1 := vm_gt_t (a := 13 - (u + 1)) (b := 12) (by omega) (by omega) c1
        exact (show False by omega).elim
      · have c1 := vm_gt_f (a := 13 - (u + 1)) (b := 12) (by omega) (by omega) c1
        refine vm_J.go vm_q48 (k := 1) (hs := []) (f' := (19, (0, 0), [.ref o, .int (nI (13 - (u + 1)))], [.ref o])) (h' := (G, (vm_up B o 2 (nI p)), F)) (hs' := []) rfl rfl ?_
        refine vm_J.call vm_q48 (Z := vm_M50) (n := 0) (k := 0) (mi := 50) (pc := 19) (en := (19, .invokevirtual 35, 3, [50, 688, 0], .null)) rfl trivial rfl rfl vm_z50 (av := [.ref o]) (rest := []) (m_Rd_cl_y (I := B) ho ha hb hc hao hob hoc hab hac hn hn2 hp2 hm (by omega) hbt hcl) ⟨_, _, rfl, rfl, _, 4, _, ho, rfl, rfl, rfl⟩ (Nat.le_of_ble_eq_true rfl) ⟨Nat.le_of_ble_eq_true rfl, Nat.le_of_ble_eq_true rfl⟩ ⟨Nat.le_of_ble_eq_true rfl, Nat.le_of_ble_eq_true rfl⟩ ?_
        show vm_J _ _ _ (22, (0, 0), [.ref o, .int (nI (13 - (u + 1)))], [.int 1]) (G, (vm_up (vm_fil B o b c m f g (nI k - 1) lk k) o 2 (nI p1)), F) _ _
        refine vm_J.go vm_q48 (k := 1) (hs := []) (f' := (bif vm_ic .ne 1 0 then 27 else 25, (0, 0), [.ref o, .int (nI (13 - (u + 1)))], [])) (h' := (G, (vm_up (vm_fil B o b c m f g (nI k - 1) lk k) o 2 (nI p1)), F)) (hs' := []) rfl rfl ?_
        refine vm_J.bT (by decide) ?_
        refine vm_J.go vm_q48 (k := 5) (hs := [(6, 6, [.ref a, .int 0, .int 0, .ref b, .ref c, .int 0]), (6, 6, [.ref a, .int 0, .int 0, .ref b, .ref c, .int 0])]) (f' := (bif vm_ic .ne ((vm_up (vm_fil B o b c m f g (nI k - 1) lk k) o 2 (nI p1)) o 2) ((vm_up (vm_fil B o b c m f g (nI k - 1) lk k) o 2 (nI p1)) o 1) then 40 else 38, (0, 0), [.ref o, .int (nI (13 - (u + 1)))], [])) (h' := (G, (vm_up (vm_fil B o b c m f g (nI k - 1) lk k) o 2 (nI p1)), F)) (hs' := []) rfl (vm_b2 rfl (vm_b2 (vm_b2 (vm_hG ho) rfl) (vm_b2 rfl (vm_b2 (vm_b2 (vm_hG ho) rfl) (vm_b2 rfl rfl))))) ?_
        refine vm_J.br (fun c2 => ?_) (fun c2 => ?_)
        · rw [((vm_up_h (vm_fil B o b c m f g (nI k - 1) lk k) o 2 _) : (vm_up (vm_fil B o b c m f g (nI k - 1) lk k) o 2 (nI p1)) o 2 = nI p1)] at c2
          rw [(((vm_up_k2 _ o 2 _ 1 (by decide)).trans ((vm_fil_k B o b c m f g _ lk hob hoc 1 (by decide) k).trans hn)) : (vm_up (vm_fil B o b c m f g (nI k - 1) lk k) o 2 (nI p1)) o 1 = nI n)] at c2
          have c2 := vm_ne_t (a := p1) (b := n) (by omega) (by omega) c2
          refine vm_J.go vm_q48 (k := 3) (hs := []) (f' := (bif vm_ic .eq (nI (13 - (u + 1))) 12 then 55 else 46, (0, 0), [.ref o, .int (nI (13 - (u + 1)))], [])) (h' := (G, (vm_up (vm_fil B o b c m f g (nI k - 1) lk k) o 2 (nI p1)), F)) (hs' := []) rfl rfl ?_
          refine vm_J.br (fun c3 => ?_) (fun c3 => ?_)
          · have c3 := vm_eq_t (a := 13 - (u + 1)) (b := 12) (by omega) (by omega) c3
            refine vm_J.go vm_q48 (k := 1) (hs := []) (f' := (56, (0, 0), [.ref o, .int (nI (13 - (u + 1)))], [.int 0])) (h' := (G, (vm_up (vm_fil B o b c m f g (nI k - 1) lk k) o 2 (nI p1)), F)) (hs' := []) rfl rfl ?_
            rw [hE, if_neg c2, if_pos (Or.inl (by omega))]
            exact vm_J.end vm_q48 (en := (56, .ireturn, 1, [], .null)) rfl rfl vm_rZ0 (Nat.zero_le _) (Nat.zero_le _) rfl
          · have c3 := vm_eq_f (a := 13 - (u + 1)) (b := 12) (by omega) (by omega) c3
            refine vm_J.go vm_q48 (k := 2) (hs := []) (f' := (49, (0, 0), [.ref o, .int (nI (13 - (u + 1)))], [.int 59, .ref o])) (h' := (G, (vm_up (vm_fil B o b c m f g (nI k - 1) lk k) o 2 (nI p1)), F)) (hs' := []) rfl rfl ?_
            refine vm_J.call vm_q48 (Z := vm_M53) (n := 1) (k := 0) (mi := 53) (pc := 49) (en := (49, .invokevirtual 39, 3, [53, 696, 0], .null)) rfl trivial rfl rfl vm_z53 (av := [.ref o, .int 59]) (rest := []) (m_Rd_passes_t (I := (vm_fil B o b c m f g (nI k - 1) lk k)) (p := p1) (s := 59) ho ha ((vm_fil_k B o b c m f g _ lk hob hoc 1 (by decide) k).trans hn) (by omega) (by omega) hao hft) ⟨_, _, rfl, rfl, _, 4, _, ho, rfl, rfl, rfl⟩ (Nat.le_of_ble_eq_true rfl) ⟨Nat.le_of_ble_eq_true rfl, Nat.le_of_ble_eq_true rfl⟩ ⟨Nat.le_of_ble_eq_true rfl, Nat.le_of_ble_eq_true rfl⟩ ?_
            show vm_J _ _ _ (52, (0, 0), [.ref o, .int (nI (13 - (u + 1)))], [.int (vm_bi (sp_sg t n p1 = 59))]) (G, (vm_up (vm_fil B o b c m f g (nI k - 1) lk k) o 2 (nI (sp_ps t n 59 p1))), F) _ _
            refine vm_J.go vm_q48 (k := 1) (hs := []) (f' := (bif vm_ic .ne (vm_bi (sp_sg t n p1 = 59)) 0 then 57 else 55, (0, 0), [.ref o, .int (nI (13 - (u + 1)))], [])) (h' := (G, (vm_up (vm_fil B o b c m f g (nI k - 1) lk k) o 2 (nI (sp_ps t n 59 p1))), F)) (hs' := []) rfl rfl ?_
            refine vm_J.br (fun c5 => ?_) (fun c5 => ?_)
            · have c5 := vm_bi_ne_t c5
              have hlt := sp_sg_lt (t := t) (n := n) (s := 59) (by decide) c5
              refine vm_J.go vm_q48 (k := 2) (hs := []) (f' := (12, (0, 0), [.ref o, .int ((nI (13 - (u + 1))) + 1)], [])) (h' := (G, (vm_up (vm_fil B o b c m f g (nI k - 1) lk k) o 2 (nI (sp_ps t n 59 p1))), F)) (hs' := []) rfl rfl ?_
              rw [((vm_pa (rfl : nI (13 - (u + 1)) = nI (13 - (u + 1))) (rfl : (1 : Int32) = nI 1)) : (nI (13 - (u + 1))) + 1 = nI (13 - (u + 1) + 1))]
              rw [sp_ps_y c5, hE, if_neg c2, if_neg (fun z => z.elim (fun y => absurd y (by omega)) (fun y => y c5))]
              rw [show 13 - (u + 1) + 1 = 13 - u from by omega]
              exact m_Rd_parseL ho ha hb hc hao hob hoc hab hac hn2 u _ (p1 + 1) (m + k) (by omega) (by omega) (by omega) ((vm_fil_k B o b c m f g _ lk hob hoc 1 (by decide) k).trans hn) (vm_fil_5 B o b c m f g _ lk hm k) hft
            · have c5 := vm_bi_ne_f c5
              refine vm_J.go vm_q48 (k := 1) (hs := []) (f' := (56, (0, 0), [.ref o, .int (nI (13 - (u + 1)))], [.int 0])) (h' := (G, (vm_up (vm_fil B o b c m f g (nI k - 1) lk k) o 2 (nI (sp_ps t n 59 p1))), F)) (hs' := []) rfl rfl ?_
              rw [hE, if_neg c2, if_pos (Or.inr c5)]
              rw [sp_ps_n c5]
              exact vm_J.end vm_q48 (en := (56, .ireturn, 1, [], .null)) rfl rfl vm_rZ0 (Nat.zero_le _) (Nat.zero_le _) rfl
        · rw [((vm_up_h (vm_fil B o b c m f g (nI k - 1) lk k) o 2 _) : (vm_up (vm_fil B o b c m f g (nI k - 1) lk k) o 2 (nI p1)) o 2 = nI p1)] at c2
          rw [(((vm_up_k2 _ o 2 _ 1 (by decide)).trans ((vm_fil_k B o b c m f g _ lk hob hoc 1 (by decide) k).trans hn)) : (vm_up (vm_fil B o b c m f g (nI k - 1) lk k) o 2 (nI p1)) o 1 = nI n)] at c2
          have c2 := vm_ne_f (a := p1) (b := n) (by omega) (by omega) c2
          refine vm_J.go vm_q48 (k := 1) (hs := []) (f' := (39, (0, 0), [.ref o, .int (nI (13 - (u + 1)))], [.int 1])) (h' := (G, (vm_up (vm_fil B o b c m f g (nI k - 1) lk k) o 2 (nI p1)), F)) (hs' := []) rfl rfl ?_
          rw [hE, if_pos c2]
          exact vm_J.end vm_q48 (en := (39, .ireturn, 1, [], .null)) rfl rfl vm_rZ1 (Nat.zero_le _) (Nat.zero_le _) rfl
