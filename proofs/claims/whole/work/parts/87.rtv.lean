def sp_k1 (r : Option sp_CL × Nat) : Prop := match r.1 with
  | none => True
  | some q => 1 ≤ q.2.2.1 ∧ q.2.2.1 ≤ 8
theorem sp_cl_1 (t : Nat → Int32) (n p : Nat) : sp_k1 (sp_cl t n p) := by
  unfold sp_cl
  split
  · split
    · split
      · split
        · split
          · rename_i hh
            have h6 := (sp_shd_i hh).2
            split <;> exact ⟨Nat.le_trans (by decide) h6.1, h6.2⟩
          · exact trivial
        · exact trivial
      · exact trivial
    · split <;> exact (by decide : 1 ≤ 1 ∧ (1 : Nat) ≤ 8)
  · exact trivial
theorem sp_tl_1 (t : Nat → Int32) (n : Nat) : ∀ (u p : Nat) (ls : List sp_CL), (sp_tl t n u p).1 = some ls → ∀ q ∈ ls, 1 ≤ q.2.2.1 ∧ q.2.2.1 ≤ 8
  | 0, p, ls, h, q, hq => by
    unfold sp_tl at h
    split at h
    · cases h
      cases hq
    · cases h
  | u + 1, p, ls, h, q, hq => by
    unfold sp_tl at h
    split at h
    · cases h
      cases hq
    · split at h
      · have h1 := sp_cl_1 t n (p + 1)
        rcases hcl : sp_cl t n (p + 1) with ⟨_ | r, p1⟩
        · rw [hcl] at h
          cases h
        · rw [hcl] at h h1
          dsimp only at h
          rcases hl : (sp_tl t n u p1).1 with _ | l2
          · rw [hl] at h
            cases h
          · rw [hl] at h
            cases h
            rcases List.mem_cons.mp hq with e | e
            · rw [e]
              exact h1
            · exact sp_tl_1 t n u p1 l2 hl q e
      · cases h
theorem sp_txt_1 (t : Nat → Int32) (n : Nat) (ls : List sp_CL) (h : (sp_txt t n).1 = some ls) : ∀ q ∈ ls, 1 ≤ q.2.2.1 ∧ q.2.2.1 ≤ 8 := by
  intro q hq
  unfold sp_txt at h
  have h1 := sp_cl_1 t n 0
  rcases hcl : sp_cl t n 0 with ⟨_ | r, p1⟩
  · rw [hcl] at h
    cases h
  · rw [hcl] at h h1
    dsimp only at h
    rcases hl : (sp_tl t n 11 p1).1 with _ | l2
    · rw [hl] at h
      cases h
    · rw [hl] at h
      cases h
      rcases List.mem_cons.mp hq with e | e
      · rw [e]
        exact h1
      · exact sp_tl_1 t n 11 p1 l2 hl q e
theorem r_btq1 {l : Launch} {X : vm_Cx} {G : List vm_Sh} {I : Nat → Nat → Int32} {F : Nat → Nat → UInt32} {q : sp_CL} {i : Nat} (hR : vm_isR G) (h : q.2.2.1 = 1) : vm_K l X vm_M184 [.int q.1, .int q.1, .int (nI i), .int (nI (q.2.2.1 - 1))] (G, I, F) (some (.int (sp_rc q i))) (G, I, F) := by
  unfold sp_rc
  rw [if_pos h, h]
  exact r_between_0 hR
theorem r_btq2 {l : Launch} {X : vm_Cx} {G : List vm_Sh} {I : Nat → Nat → Int32} {F : Nat → Nat → UInt32} {q : sp_CL} {i : Nat} (hR : vm_isR G) (h : q.2.2.1 ≠ 1) (h1 : 1 ≤ q.2.2.1) (h8 : q.2.2.1 ≤ 8) : vm_K l X vm_M184 [.int q.1, .int q.2.1, .int (nI i), .int (nI (q.2.2.1 - 1))] (G, I, F) (some (.int (sp_rc q i))) (G, I, F) := by
  unfold sp_rc
  rw [if_neg h]
  exact r_between_n hR (vm_nz rfl (by omega) (by omega))
theorem r_comesE {l : Launch} {X : vm_Cx} {G : List vm_Sh} {I : Nat → Nat → Int32} {F : Nat → Nat → UInt32} {p n : Nat} {c lo : Int32} (hR : vm_isR G) (hn : I 156 p = nI n) (hp : p < 4) (hn2 : n ≤ 16) : vm_K l X vm_M212 [.ref 152, .int (nI p), .int c, .int lo] (G, I, F) (some (.int (vm_bi (sp_wcA (fun z => I 157 (16 * p + z)) c n)))) (G, (vr_g1 (I, n) p c lo).1, F) := by
  unfold vr_g1
  by_cases hw : sp_wcA (fun z => I 157 (16 * p + z)) c n
  · rw [if_pos hw, vm_bi_t hw]
    exact r_comesE_y hR hn hp hw.1 hw.2
  · rw [if_neg hw, vm_bi_f hw]
    rcases sp_ew_or (fun z => I 157 (16 * p + z)) c n with ⟨j, h2, h3, h4, -⟩ | ⟨h2, -⟩
    · exact r_comesE_t hR hn hp hn2 h2 h4 h3
    · have h16 : n = 16 := by
        by_cases h1 : n = 16
        · exact h1
        · exact absurd ⟨by omega, h2⟩ hw
      exact r_comesE_f hR hn hp h16 h2
set_option maxHeartbeats 4000000 in
set_option maxRecDepth 20000 in
/-- DitherDeskModel.read -/
theorem r_read_x {l : Launch} {X : vm_Cx} {G : List vm_Sh} {I : Nat → Nat → Int32} {F : Nat → Nat → UInt32} {q : Int32} (hR : vm_isR G) (hx : ¬ (0 ≤ q ∧ q ≤ 3)) : vm_K l X vm_M227 [.ref 152, .int q] (G, I, F) (some (.int (-1))) (G, I, F) := by
  refine vm_K.mk (by decide) (Nat.le_of_ble_eq_true rfl) ?_
  show vm_J _ _ _ (0, (0, 0), [.ref 152, .int q, .retAddr 0, .retAddr 0, .retAddr 0, .retAddr 0, .retAddr 0], []) _ _ _
  refine vm_J.go vm_q227 (k := 1) (hs := []) (f' := (1, (0, 0), [.ref 152, .int q, .retAddr 0, .retAddr 0, .retAddr 0, .retAddr 0, .retAddr 0], [.int q])) (h' := (G, I, F)) (hs' := []) rfl rfl ?_
  refine vm_J.call vm_q227 (Z := vm_M173) (n := 1) (k := 1) (mi := 173) (pc := 1) (en := (1, .invokestatic 145, 3, [173, 1453, 0], .null)) rfl trivial rfl rfl vm_z173 (av := [.int q]) (rest := []) (r_isPalette_n (c := q) hx) rfl (Nat.le_of_ble_eq_true rfl) ⟨Nat.le_of_ble_eq_true rfl, Nat.le_of_ble_eq_true rfl⟩ ⟨Nat.le_of_ble_eq_true rfl, Nat.le_of_ble_eq_true rfl⟩ ?_
  show vm_J _ _ _ (4, (0, 0), [.ref 152, .int q, .retAddr 0, .retAddr 0, .retAddr 0, .retAddr 0, .retAddr 0], [.int 0]) (G, I, F) _ _
  refine vm_J.go vm_q227 (k := 1) (hs := []) (f' := (bif vm_ic .ne 0 0 then 9 else 7, (0, 0), [.ref 152, .int q, .retAddr 0, .retAddr 0, .retAddr 0, .retAddr 0, .retAddr 0], [])) (h' := (G, I, F)) (hs' := []) rfl rfl ?_
  refine vm_J.bF (by decide) ?_
  refine vm_J.go vm_q227 (k := 1) (hs := []) (f' := (8, (0, 0), [.ref 152, .int q, .retAddr 0, .retAddr 0, .retAddr 0, .retAddr 0, .retAddr 0], [.int (-1)])) (h' := (G, I, F)) (hs' := []) rfl rfl ?_
  exact vm_J.end vm_q227 (en := (8, .ireturn, 1, [], .null)) rfl rfl vm_rI (Nat.zero_le _) (Nat.zero_le _) rfl
set_option maxHeartbeats 4000000 in
set_option maxRecDepth 20000 in
theorem r_read_f {l : Launch} {X : vm_Cx} {G : List vm_Sh} {I : Nat → Nat → Int32} {F : Nat → Nat → UInt32} {p n : Nat} (hR : vm_isR G) (hp : p < 4) (ht : I 152 25 = nI n) (ht2 : n ≤ 100) (hx : (sp_txt (I 165) n).1 = none) : ∃ H, vm_K l X vm_M227 [.ref 152, .int (nI p)] (G, I, F) (some (.int ((-10) - nI (sp_txt (I 165) n).2))) (G, (vm_up H 152 25 0), F) ∧ vr_tP I H n 0 (sp_txt (I 165) n) := by
  obtain ⟨H, hK, hP⟩ := r_text (l := l) (X := X) (F := F) hR ht ht2
  rw [hx] at hK
  refine ⟨H, ?_, hP⟩
  refine vm_K.mk (by decide) (Nat.le_of_ble_eq_true rfl) ?_
  show vm_J _ _ _ (0, (0, 0), [.ref 152, .int (nI p), .retAddr 0, .retAddr 0, .retAddr 0, .retAddr 0, .retAddr 0], []) _ _ _
  refine vm_J.go vm_q227 (k := 1) (hs := []) (f' := (1, (0, 0), [.ref 152, .int (nI p), .retAddr 0, .retAddr 0, .retAddr 0, .retAddr 0, .retAddr 0], [.int (nI p)])) (h' := (G, I, F)) (hs' := []) rfl rfl ?_
  refine vm_J.call vm_q227 (Z := vm_M173) (n := 1) (k := 1) (mi := 173) (pc := 1) (en := (1, .invokestatic 145, 3, [173, 1453, 0], .null)) rfl trivial rfl rfl vm_z173 (av := [.int (nI p)]) (rest := []) (r_isPalette_y (c := nI p) (vm_bp4 hp)) rfl (Nat.le_of_ble_eq_true rfl) ⟨Nat.le_of_ble_eq_true rfl, Nat.le_of_ble_eq_true rfl⟩ ⟨Nat.le_of_ble_eq_true rfl, Nat.le_of_ble_eq_true rfl⟩ ?_
  show vm_J _ _ _ (4, (0, 0), [.ref 152, .int (nI p), .retAddr 0, .retAddr 0, .retAddr 0, .retAddr 0, .retAddr 0], [.int 1]) (G, I, F) _ _
  refine vm_J.go vm_q227 (k := 1) (hs := []) (f' := (bif vm_ic .ne 1 0 then 9 else 7, (0, 0), [.ref 152, .int (nI p), .retAddr 0, .retAddr 0, .retAddr 0, .retAddr 0, .retAddr 0], [])) (h' := (G, I, F)) (hs' := []) rfl rfl ?_
  refine vm_J.bT (by decide) ?_
  refine vm_J.go vm_q227 (k := 1) (hs := []) (f' := (10, (0, 0), [.ref 152, .int (nI p), .retAddr 0, .retAddr 0, .retAddr 0, .retAddr 0, .retAddr 0], [.ref 152])) (h' := (G, I, F)) (hs' := []) rfl rfl ?_
  refine vm_J.call vm_q227 (Z := vm_M226) (n := 0) (k := 0) (mi := 226) (pc := 10) (en := (10, .invokevirtual 301, 3, [226, 1496, 0], .null)) rfl trivial rfl rfl vm_z226 (av := [.ref 152]) (rest := []) hK ⟨_, _, rfl, rfl, _, 11, _, hR.c152, rfl, rfl, rfl⟩ (Nat.le_of_ble_eq_true rfl) ⟨Nat.le_of_ble_eq_true rfl, Nat.le_of_ble_eq_true rfl⟩ ⟨Nat.le_of_ble_eq_true rfl, Nat.le_of_ble_eq_true rfl⟩ ?_
  show vm_J _ _ _ (13, (0, 0), [.ref 152, .int (nI p), .retAddr 0, .retAddr 0, .retAddr 0, .retAddr 0, .retAddr 0], [.int 0]) (G, H, F) _ _
  refine vm_J.go vm_q227 (k := 6) (hs := [vm_shR]) (f' := (bif vm_ic .ne 0 0 then 31 else 23, (0, 0), [.ref 152, .int (nI p), .int 0, .retAddr 0, .retAddr 0, .retAddr 0, .retAddr 0], [])) (h' := (G, (vm_up H 152 25 0), F)) (hs' := []) rfl (vm_b2 rfl (vm_b2 rfl (vm_b2 rfl (vm_b2 (vm_b2 (vm_b2 (vm_hG hR.c152) rfl) rfl) (vm_b2 rfl (vm_b2 rfl rfl)))))) ?_
  refine vm_J.bF (by decide) ?_
  refine vm_J.go vm_q227 (k := 3) (hs := [vm_shR]) (f' := (29, (0, 0), [.ref 152, .int (nI p), .int 0, .retAddr 0, .retAddr 0, .retAddr 0, .retAddr 0], [.int ((vm_up H 152 25 0) 152 26), .int (-10)])) (h' := (G, (vm_up H 152 25 0), F)) (hs' := []) rfl (vm_b2 rfl (vm_b2 rfl (vm_b2 (vm_b2 (vm_hG hR.c152) rfl) rfl))) ?_
  rw [((Eq.trans (vm_up_k2 _ 152 25 _ 26 (by decide)) hP.2.2.2.1) : (vm_up H 152 25 0) 152 26 = nI ((sp_txt (I 165) n).2))]
  refine vm_J.go vm_q227 (k := 1) (hs := []) (f' := (30, (0, 0), [.ref 152, .int (nI p), .int 0, .retAddr 0, .retAddr 0, .retAddr 0, .retAddr 0], [.int ((-10) - (nI ((sp_txt (I 165) n).2)))])) (h' := (G, (vm_up H 152 25 0), F)) (hs' := []) rfl rfl ?_
  exact vm_J.end vm_q227 (en := (30, .ireturn, 1, [], .null)) rfl rfl vm_rI (Nat.zero_le _) (Nat.zero_le _) rfl
set_option maxHeartbeats 4000000 in
set_option maxRecDepth 20000 in
theorem r_read_y {l : Launch} {X : vm_Cx} {G : List vm_Sh} {I : Nat → Nat → Int32} {F : Nat → Nat → UInt32} {p n n0 : Nat} {ls : List sp_CL} (hR : vm_isR G) (hp : p < 4) (ht : I 152 25 = nI n) (ht2 : n ≤ 100) (hn : I 156 p = nI n0) (hn2 : n0 ≤ 16) (hx : (sp_txt (I 165) n).1 = some ls) : ∃ H, vm_K l X vm_M227 [.ref 152, .int (nI p)] (G, I, F) (some (.int (nI ((vr_gl ((vm_up H 152 25 0), n0) p ls ls.length).2 - n0)))) (G, (vr_gl ((vm_up H 152 25 0), n0) p ls ls.length).1, F) ∧ vr_tP I H n 0 (sp_txt (I 165) n) := by
  obtain ⟨H, hK, hP⟩ := r_text (l := l) (X := X) (F := F) hR ht ht2
  refine ⟨H, ?_, hP⟩
  have hP1 := hP.1
  have hP5 := hP.2.2.2.2
  rw [hx] at hK hP5
  obtain ⟨c27, hl12, hrow⟩ := hP5
  rw [Nat.zero_add] at c27 hl12
  have hq8 := sp_txt_1 _ _ _ hx
  have hS0 : vr_gP (vm_up H 152 25 0) p n0 ((vm_up H 152 25 0), n0) := by
    refine ⟨fun x _ _ _ => rfl, ?_, Nat.le_refl _, hn2⟩
    dsimp only
    rw [vm_up_o2 _ 152 _ _ 156 p (by decide), hP1 156 (by decide) (by decide) (by decide) (by decide) (by decide)]
    exact hn
  refine vm_K.mk (by decide) (Nat.le_of_ble_eq_true rfl) ?_
  show vm_J _ _ _ (0, (0, 0), [.ref 152, .int (nI p), .retAddr 0, .retAddr 0, .retAddr 0, .retAddr 0, .retAddr 0], []) _ _ _
  refine vm_J.go vm_q227 (k := 1) (hs := []) (f' := (1, (0, 0), [.ref 152, .int (nI p), .retAddr 0, .retAddr 0, .retAddr 0, .retAddr 0, .retAddr 0], [.int (nI p)])) (h' := (G, I, F)) (hs' := []) rfl rfl ?_
  refine vm_J.call vm_q227 (Z := vm_M173) (n := 1) (k := 1) (mi := 173) (pc := 1) (en := (1, .invokestatic 145, 3, [173, 1453, 0], .null)) rfl trivial rfl rfl vm_z173 (av := [.int (nI p)]) (rest := []) (r_isPalette_y (c := nI p) (vm_bp4 hp)) rfl (Nat.le_of_ble_eq_true rfl) ⟨Nat.le_of_ble_eq_true rfl, Nat.le_of_ble_eq_true rfl⟩ ⟨Nat.le_of_ble_eq_true rfl, Nat.le_of_ble_eq_true rfl⟩ ?_
  show vm_J _ _ _ (4, (0, 0), [.ref 152, .int (nI p), .retAddr 0, .retAddr 0, .retAddr 0, .retAddr 0, .retAddr 0], [.int 1]) (G, I, F) _ _
  refine vm_J.go vm_q227 (k := 1) (hs := []) (f' := (bif vm_ic .ne 1 0 then 9 else 7, (0, 0), [.ref 152, .int (nI p), .retAddr 0, .retAddr 0, .retAddr 0, .retAddr 0, .retAddr 0], [])) (h' := (G, I, F)) (hs' := []) rfl rfl ?_
  refine vm_J.bT (by decide) ?_
  refine vm_J.go vm_q227 (k := 1) (hs := []) (f' := (10, (0, 0), [.ref 152, .int (nI p), .retAddr 0, .retAddr 0, .retAddr 0, .retAddr 0, .retAddr 0], [.ref 152])) (h' := (G, I, F)) (hs' := []) rfl rfl ?_
  refine vm_J.call vm_q227 (Z := vm_M226) (n := 0) (k := 0) (mi := 226) (pc := 10) (en := (10, .invokevirtual 301, 3, [226, 1496, 0], .null)) rfl trivial rfl rfl vm_z226 (av := [.ref 152]) (rest := []) hK ⟨_, _, rfl, rfl, _, 11, _, hR.c152, rfl, rfl, rfl⟩ (Nat.le_of_ble_eq_true rfl) ⟨Nat.le_of_ble_eq_true rfl, Nat.le_of_ble_eq_true rfl⟩ ⟨Nat.le_of_ble_eq_true rfl, Nat.le_of_ble_eq_true rfl⟩ ?_
  show vm_J _ _ _ (13, (0, 0), [.ref 152, .int (nI p), .retAddr 0, .retAddr 0, .retAddr 0, .retAddr 0, .retAddr 0], [.int 1]) (G, H, F) _ _
  refine vm_J.go vm_q227 (k := 6) (hs := [vm_shR]) (f' := (bif vm_ic .ne 1 0 then 31 else 23, (0, 0), [.ref 152, .int (nI p), .int 1, .retAddr 0, .retAddr 0, .retAddr 0, .retAddr 0], [])) (h' := (G, (vm_up H 152 25 0), F)) (hs' := []) rfl (vm_b2 rfl (vm_b2 rfl (vm_b2 rfl (vm_b2 (vm_b2 (vm_b2 (vm_hG hR.c152) rfl) rfl) (vm_b2 rfl (vm_b2 rfl rfl)))))) ?_
  refine vm_J.bT (by decide) ?_
  refine vm_J.go vm_q227 (k := 4) (hs := []) (f' := (36, (0, 0), [.ref 152, .int (nI p), .int 1, .int 0, .int 0, .retAddr 0, .retAddr 0], [])) (h' := (G, (vm_up H 152 25 0), F)) (hs' := []) rfl rfl ?_
  refine vm_J.cnt ls.length (fun k => (36, (0, 0), [.ref 152, .int (nI p), .int 1, .int (nI ((vr_gl ((vm_up H 152 25 0), n0) p ls k).2 - n0)), .int (nI k), .retAddr 0, .retAddr 0], [])) (fun k => (G, ((vr_gl ((vm_up H 152 25 0), n0) p ls k).1), F)) (fun _ => True) (by rw [show (vr_gl ((vm_up H 152 25 0), n0) p ls 0).2 = n0 from rfl, Nat.sub_self]; rfl) rfl trivial (fun k hk pk ik => ?_) (fun pk => ?_)
  · have hGk := vr_gl_P hS0 ls k
    have hGk2 := hGk.2.2
    have hq : ls[k]? = some ls[k] := List.getElem?_eq_getElem hk
    have hqm := hq8 _ (List.getElem_mem hk)
    have hrk := hrow k _ hq
    rw [Nat.zero_add] at hrk
    generalize ls[k] = q at hq hqm hrk
    obtain ⟨hr1, hr2, hr3, hr4⟩ := hrk
    obtain ⟨hs1, hs8⟩ := hqm
    show vm_J _ _ _ (36, (0, 0), [.ref 152, .int (nI p), .int 1, .int (nI ((vr_gl ((vm_up H 152 25 0), n0) p ls k).2 - n0)), .int (nI k), .retAddr 0, .retAddr 0], []) (G, ((vr_gl ((vm_up H 152 25 0), n0) p ls k).1), F) _ _
    refine vm_J.go vm_q227 (k := 3) (hs := [vm_shR]) (f' := (42, (0, 0), [.ref 152, .int (nI p), .int 1, .int (nI ((vr_gl ((vm_up H 152 25 0), n0) p ls k).2 - n0)), .int (nI k), .retAddr 0, .retAddr 0], [.int (((vr_gl ((vm_up H 152 25 0), n0) p ls k).1) 152 27), .int (nI k)])) (h' := (G, ((vr_gl ((vm_up H 152 25 0), n0) p ls k).1), F)) (hs' := []) rfl (vm_b2 rfl (vm_b2 rfl (vm_b2 (vm_b2 (vm_hG hR.c152) rfl) rfl))) ?_
    rw [((Eq.trans (congrFun ((vr_gl_P hS0 ls _).1 152 (by decide) (by decide) (by decide)) 27) (Eq.trans (vm_up_k2 _ 152 25 _ 27 (by decide)) c27)) : ((vr_gl ((vm_up H 152 25 0), n0) p ls k).1) 152 27 = nI ls.length)]
    refine vm_J.go vm_q227 (k := 1) (hs := []) (f' := (bif vm_ic .ge (nI k) (nI ls.length) then 148 else 45, (0, 0), [.ref 152, .int (nI p), .int 1, .int (nI ((vr_gl ((vm_up H 152 25 0), n0) p ls k).2 - n0)), .int (nI k), .retAddr 0, .retAddr 0], [])) (h' := (G, ((vr_gl ((vm_up H 152 25 0), n0) p ls k).1), F)) (hs' := []) rfl rfl ?_
    refine vm_J.br (fun c1 => ?_) (fun c1 => ?_)
    · have c1 := vm_ge_t (a := k) (b := ls.length) (by omega) (by omega) c1
      exact (show False by omega).elim
    · have c1 := vm_ge_f (a := k) (b := ls.length) (by omega) (by omega) c1
      refine vm_J.go vm_q227 (k := 2) (hs := []) (f' := (48, (0, 0), [.ref 152, .int (nI p), .int 1, .int (nI ((vr_gl ((vm_up H 152 25 0), n0) p ls k).2 - n0)), .int (nI k), .int 0, .retAddr 0], [])) (h' := (G, ((vr_gl ((vm_up H 152 25 0), n0) p ls k).1), F)) (hs' := []) rfl rfl ?_
      refine vm_J.cnt q.2.2.1 (fun i => (48, (0, 0), [.ref 152, .int (nI p), .int 1, .int (nI ((vr_gi (vr_gl ((vm_up H 152 25 0), n0) p ls k) p q i).2 - n0)), .int (nI k), .int (nI i), .retAddr 0], [])) (fun i => (G, ((vr_gi (vr_gl ((vm_up H 152 25 0), n0) p ls k) p q i).1), F)) (fun _ => True) rfl rfl trivial (fun i hi pi ii => ?_) (fun pi => ?_)
      · have hGi := (vr_gi_P hGk q i).2.2
        show vm_J _ _ _ (48, (0, 0), [.ref 152, .int (nI p), .int 1, .int (nI ((vr_gi (vr_gl ((vm_up H 152 25 0), n0) p ls k) p q i).2 - n0)), .int (nI k), .int (nI i), .retAddr 0], []) (G, ((vr_gi (vr_gl ((vm_up H 152 25 0), n0) p ls k) p q i).1), F) _ _
        refine vm_J.go vm_q227 (k := 5) (hs := [vm_shR, (0, 12, [])]) (f' := (57, (0, 0), [.ref 152, .int (nI p), .int 1, .int (nI ((vr_gi (vr_gl ((vm_up H 152 25 0), n0) p ls k) p q i).2 - n0)), .int (nI k), .int (nI i), .retAddr 0], [.int (((vr_gi (vr_gl ((vm_up H 152 25 0), n0) p ls k) p q i).1) 168 (nI k).toNatClampNeg), .int (nI i)])) (h' := (G, ((vr_gi (vr_gl ((vm_up H 152 25 0), n0) p ls k) p q i).1), F)) (hs' := []) rfl (vm_b2 rfl (vm_b2 rfl (vm_b2 (vm_b2 (vm_hG hR.c152) rfl) (vm_b2 rfl (vm_b2 (vm_b2 (vm_hG hR.c168) (vm_in_e (j := k) (n := 12) rfl (by omega) (by omega))) rfl))))) ?_
        rw [vm_ix_e (j := k) rfl (by omega)]
        rw [((Eq.trans (congrFun ((vr_gi_P (vr_gl_P hS0 ls _) _ _).1 168 (by decide) (by decide) (by decide)) k) (Eq.trans (congrFun (vm_up_f _ 152 _ _ 168 (by decide)) k) hr2)) : ((vr_gi (vr_gl ((vm_up H 152 25 0), n0) p ls k) p q i).1) 168 k = nI q.2.2.1)]
        refine vm_J.go vm_q227 (k := 1) (hs := []) (f' := (bif vm_ic .ge (nI i) (nI q.2.2.1) then 142 else 60, (0, 0), [.ref 152, .int (nI p), .int 1, .int (nI ((vr_gi (vr_gl ((vm_up H 152 25 0), n0) p ls k) p q i).2 - n0)), .int (nI k), .int (nI i), .retAddr 0], [])) (h' := (G, ((vr_gi (vr_gl ((vm_up H 152 25 0), n0) p ls k) p q i).1), F)) (hs' := []) rfl rfl ?_
        refine vm_J.br (fun c2 => ?_) (fun c2 => ?_)
        · have c2 := vm_ge_t (a := i) (b := q.2.2.1) (by omega) (by omega) c2
          exact (show False by omega).elim
        · have c2 := vm_ge_f (a := i) (b := q.2.2.1) (by omega) (by omega) c2
          refine vm_J.go vm_q227 (k := 4) (hs := [vm_shR, (0, 12, [])]) (f' := (67, (0, 0), [.ref 152, .int (nI p), .int 1, .int (nI ((vr_gi (vr_gl ((vm_up H 152 25 0), n0) p ls k) p q i).2 - n0)), .int (nI k), .int (nI i), .retAddr 0], [.int (((vr_gi (vr_gl ((vm_up H 152 25 0), n0) p ls k) p q i).1) 166 (nI k).toNatClampNeg)])) (h' := (G, ((vr_gi (vr_gl ((vm_up H 152 25 0), n0) p ls k) p q i).1), F)) (hs' := []) rfl (vm_b2 rfl (vm_b2 (vm_b2 (vm_hG hR.c152) rfl) (vm_b2 rfl (vm_b2 (vm_b2 (vm_hG hR.c166) (vm_in_e (j := k) (n := 12) rfl (by omega) (by omega))) rfl)))) ?_
          rw [vm_ix_e (j := k) rfl (by omega)]
          rw [((Eq.trans (congrFun ((vr_gi_P (vr_gl_P hS0 ls _) _ _).1 166 (by decide) (by decide) (by decide)) k) (Eq.trans (congrFun (vm_up_f _ 152 _ _ 166 (by decide)) k) hr1)) : ((vr_gi (vr_gl ((vm_up H 152 25 0), n0) p ls k) p q i).1) 166 k = q.1)]
          refine vm_J.go vm_q227 (k := 4) (hs := [vm_shR, (0, 12, [])]) (f' := (74, (0, 0), [.ref 152, .int (nI p), .int 1, .int (nI ((vr_gi (vr_gl ((vm_up H 152 25 0), n0) p ls k) p q i).2 - n0)), .int (nI k), .int (nI i), .retAddr 0], [.int (((vr_gi (vr_gl ((vm_up H 152 25 0), n0) p ls k) p q i).1) 168 (nI k).toNatClampNeg), .int q.1])) (h' := (G, ((vr_gi (vr_gl ((vm_up H 152 25 0), n0) p ls k) p q i).1), F)) (hs' := []) rfl (vm_b2 rfl (vm_b2 (vm_b2 (vm_hG hR.c152) rfl) (vm_b2 rfl (vm_b2 (vm_b2 (vm_hG hR.c168) (vm_in_e (j := k) (n := 12) rfl (by omega) (by omega))) rfl)))) ?_
          rw [vm_ix_e (j := k) rfl (by omega)]
          rw [((Eq.trans (congrFun ((vr_gi_P (vr_gl_P hS0 ls _) _ _).1 168 (by decide) (by decide) (by decide)) k) (Eq.trans (congrFun (vm_up_f _ 152 _ _ 168 (by decide)) k) hr2)) : ((vr_gi (vr_gl ((vm_up H 152 25 0), n0) p ls k) p q i).1) 168 k = nI q.2.2.1)]
          refine vm_J.go vm_q227 (k := 2) (hs := []) (f' := (bif vm_ic .ne (nI q.2.2.1) 1 then 88 else 78, (0, 0), [.ref 152, .int (nI p), .int 1, .int (nI ((vr_gi (vr_gl ((vm_up H 152 25 0), n0) p ls k) p q i).2 - n0)), .int (nI k), .int (nI i), .retAddr 0], [.int q.1])) (h' := (G, ((vr_gi (vr_gl ((vm_up H 152 25 0), n0) p ls k) p q i).1), F)) (hs' := []) rfl rfl ?_
          refine vm_J.br (fun c3 => ?_) (fun c3 => ?_)
          · have c3 := vm_ne_t (a := q.2.2.1) (b := 1) (by omega) (by omega) c3
            refine vm_J.go vm_q227 (k := 4) (hs := [vm_shR, (0, 12, [])]) (f' := (95, (0, 0), [.ref 152, .int (nI p), .int 1, .int (nI ((vr_gi (vr_gl ((vm_up H 152 25 0), n0) p ls k) p q i).2 - n0)), .int (nI k), .int (nI i), .retAddr 0], [.int (((vr_gi (vr_gl ((vm_up H 152 25 0), n0) p ls k) p q i).1) 167 (nI k).toNatClampNeg), .int q.1])) (h' := (G, ((vr_gi (vr_gl ((vm_up H 152 25 0), n0) p ls k) p q i).1), F)) (hs' := []) rfl (vm_b2 rfl (vm_b2 (vm_b2 (vm_hG hR.c152) rfl) (vm_b2 rfl (vm_b2 (vm_b2 (vm_hG hR.c167) (vm_in_e (j := k) (n := 12) rfl (by omega) (by omega))) rfl)))) ?_
            rw [vm_ix_e (j := k) rfl (by omega)]
            rw [((Eq.trans (congrFun ((vr_gi_P (vr_gl_P hS0 ls _) _ _).1 167 (by decide) (by decide) (by decide)) k) (Eq.trans (congrFun (vm_up_f _ 152 _ _ 167 (by decide)) k) (hr3.resolve_left c3))) : ((vr_gi (vr_gl ((vm_up H 152 25 0), n0) p ls k) p q i).1) 167 k = q.2.1)]
            refine vm_J.go vm_q227 (k := 5) (hs := [vm_shR, (0, 12, [])]) (f' := (104, (0, 0), [.ref 152, .int (nI p), .int 1, .int (nI ((vr_gi (vr_gl ((vm_up H 152 25 0), n0) p ls k) p q i).2 - n0)), .int (nI k), .int (nI i), .retAddr 0], [.int (((vr_gi (vr_gl ((vm_up H 152 25 0), n0) p ls k) p q i).1) 168 (nI k).toNatClampNeg), .int (nI i), .int q.2.1, .int q.1])) (h' := (G, ((vr_gi (vr_gl ((vm_up H 152 25 0), n0) p ls k) p q i).1), F)) (hs' := []) rfl (vm_b2 rfl (vm_b2 rfl (vm_b2 (vm_b2 (vm_hG hR.c152) rfl) (vm_b2 rfl (vm_b2 (vm_b2 (vm_hG hR.c168) (vm_in_e (j := k) (n := 12) rfl (by omega) (by omega))) rfl))))) ?_
            rw [vm_ix_e (j := k) rfl (by omega)]
            rw [((Eq.trans (congrFun ((vr_gi_P (vr_gl_P hS0 ls _) _ _).1 168 (by decide) (by decide) (by decide)) k) (Eq.trans (congrFun (vm_up_f _ 152 _ _ 168 (by decide)) k) hr2)) : ((vr_gi (vr_gl ((vm_up H 152 25 0), n0) p ls k) p q i).1) 168 k = nI q.2.2.1)]
            refine vm_J.go vm_q227 (k := 2) (hs := []) (f' := (106, (0, 0), [.ref 152, .int (nI p), .int 1, .int (nI ((vr_gi (vr_gl ((vm_up H 152 25 0), n0) p ls k) p q i).2 - n0)), .int (nI k), .int (nI i), .retAddr 0], [.int ((nI q.2.2.1) - 1), .int (nI i), .int q.2.1, .int q.1])) (h' := (G, ((vr_gi (vr_gl ((vm_up H 152 25 0), n0) p ls k) p q i).1), F)) (hs' := []) rfl rfl ?_
            rw [((vm_ps (rfl : (nI q.2.2.1 : Int32) = nI q.2.2.1) (rfl : (1 : Int32) = nI 1) (by omega)) : (nI q.2.2.1) - 1 = nI (q.2.2.1 - 1))]
            refine vm_J.call vm_q227 (Z := vm_M184) (n := 4) (k := 1) (mi := 184) (pc := 106) (en := (106, .invokestatic 184, 3, [184, 1345, 0], .null)) rfl trivial rfl rfl vm_z184 (av := [.int q.1, .int q.2.1, .int (nI i), .int (nI (q.2.2.1 - 1))]) (rest := []) (r_btq2 (q := q) (i := i) hR c3 hs1 hs8) rfl (Nat.le_of_ble_eq_true rfl) ⟨Nat.le_of_ble_eq_true rfl, Nat.le_of_ble_eq_true rfl⟩ ⟨Nat.le_of_ble_eq_true rfl, Nat.le_of_ble_eq_true rfl⟩ ?_
            show vm_J _ _ _ (109, (0, 0), [.ref 152, .int (nI p), .int 1, .int (nI ((vr_gi (vr_gl ((vm_up H 152 25 0), n0) p ls k) p q i).2 - n0)), .int (nI k), .int (nI i), .retAddr 0], [.int (sp_rc q i)]) (G, ((vr_gi (vr_gl ((vm_up H 152 25 0), n0) p ls k) p q i).1), F) _ _
            refine vm_J.go vm_q227 (k := 9) (hs := [vm_shR, (0, 12, [])]) (f' := (123, (0, 0), [.ref 152, .int (nI p), .int 1, .int (nI ((vr_gi (vr_gl ((vm_up H 152 25 0), n0) p ls k) p q i).2 - n0)), .int (nI k), .int (nI i), .int (sp_rc q i)], [.int (((vr_gi (vr_gl ((vm_up H 152 25 0), n0) p ls k) p q i).1) 169 (nI k).toNatClampNeg), .int (sp_rc q i), .int (nI p), .ref 152, .int (nI ((vr_gi (vr_gl ((vm_up H 152 25 0), n0) p ls k) p q i).2 - n0))])) (h' := (G, ((vr_gi (vr_gl ((vm_up H 152 25 0), n0) p ls k) p q i).1), F)) (hs' := []) rfl (vm_b2 rfl (vm_b2 rfl (vm_b2 rfl (vm_b2 rfl (vm_b2 rfl (vm_b2 rfl (vm_b2 (vm_b2 (vm_hG hR.c152) rfl) (vm_b2 rfl (vm_b2 (vm_b2 (vm_hG hR.c169) (vm_in_e (j := k) (n := 12) rfl (by omega) (by omega))) rfl))))))))) ?_
            rw [vm_ix_e (j := k) rfl (by omega)]
            rw [((Eq.trans (congrFun ((vr_gi_P (vr_gl_P hS0 ls _) _ _).1 169 (by decide) (by decide) (by decide)) k) (Eq.trans (congrFun (vm_up_f _ 152 _ _ 169 (by decide)) k) hr4)) : ((vr_gi (vr_gl ((vm_up H 152 25 0), n0) p ls k) p q i).1) 169 k = q.2.2.2)]
            refine vm_J.call vm_q227 (Z := vm_M212) (n := 3) (k := 0) (mi := 212) (pc := 123) (en := (123, .invokevirtual 261, 3, [212, 1460, 0], .null)) rfl trivial rfl rfl vm_z212 (av := [.ref 152, .int (nI p), .int (sp_rc q i), .int q.2.2.2]) (rest := [.int (nI ((vr_gi (vr_gl ((vm_up H 152 25 0), n0) p ls k) p q i).2 - n0))]) (r_comesE (p := p) (n := (vr_gi (vr_gl ((vm_up H 152 25 0), n0) p ls k) p q i).2) (c := sp_rc q i) (lo := q.2.2.2) hR (vr_gi_P (vr_gl_P hS0 ls _) _ _).2.1 hp (by omega)) ⟨_, _, rfl, rfl, _, 11, _, hR.c152, rfl, rfl, rfl⟩ (Nat.le_of_ble_eq_true rfl) ⟨Nat.le_of_ble_eq_true rfl, Nat.le_of_ble_eq_true rfl⟩ ⟨Nat.le_of_ble_eq_true rfl, Nat.le_of_ble_eq_true rfl⟩ ?_
            show vm_J _ _ _ (126, (0, 0), [.ref 152, .int (nI p), .int 1, .int (nI ((vr_gi (vr_gl ((vm_up H 152 25 0), n0) p ls k) p q i).2 - n0)), .int (nI k), .int (nI i), .int (sp_rc q i)], [.int (vm_bi (sp_wcA (fun z => ((vr_gi (vr_gl ((vm_up H 152 25 0), n0) p ls k) p q i).1) 157 (16 * p + z)) (sp_rc q i) (vr_gi (vr_gl ((vm_up H 152 25 0), n0) p ls k) p q i).2)), .int (nI ((vr_gi (vr_gl ((vm_up H 152 25 0), n0) p ls k) p q i).2 - n0))]) (G, (vr_g1 (((vr_gi (vr_gl ((vm_up H 152 25 0), n0) p ls k) p q i).1), (vr_gi (vr_gl ((vm_up H 152 25 0), n0) p ls k) p q i).2) p (sp_rc q i) q.2.2.2).1, F) _ _
            refine vm_J.go vm_q227 (k := 1) (hs := []) (f' := (bif vm_ic .eq (vm_bi (sp_wcA (fun z => ((vr_gi (vr_gl ((vm_up H 152 25 0), n0) p ls k) p q i).1) 157 (16 * p + z)) (sp_rc q i) (vr_gi (vr_gl ((vm_up H 152 25 0), n0) p ls k) p q i).2)) 0 then 133 else 129, (0, 0), [.ref 152, .int (nI p), .int 1, .int (nI ((vr_gi (vr_gl ((vm_up H 152 25 0), n0) p ls k) p q i).2 - n0)), .int (nI k), .int (nI i), .int (sp_rc q i)], [.int (nI ((vr_gi (vr_gl ((vm_up H 152 25 0), n0) p ls k) p q i).2 - n0))])) (h' := (G, (vr_g1 (((vr_gi (vr_gl ((vm_up H 152 25 0), n0) p ls k) p q i).1), (vr_gi (vr_gl ((vm_up H 152 25 0), n0) p ls k) p q i).2) p (sp_rc q i) q.2.2.2).1, F)) (hs' := []) rfl rfl ?_
            refine vm_J.br (fun c4 => ?_) (fun c4 => ?_)
            · have c4 := vm_bi_eq_t c4
              refine vm_J.go vm_q227 (k := 5) (hs := []) (f' := (48, (0, 0), [.ref 152, .int (nI p), .int 1, .int ((nI ((vr_gi (vr_gl ((vm_up H 152 25 0), n0) p ls k) p q i).2 - n0)) + 0), .int (nI k), .int ((nI i) + 1), .int (sp_rc q i)], [])) (h' := (G, (vr_g1 (((vr_gi (vr_gl ((vm_up H 152 25 0), n0) p ls k) p q i).1), (vr_gi (vr_gl ((vm_up H 152 25 0), n0) p ls k) p q i).2) p (sp_rc q i) q.2.2.2).1, F)) (hs' := []) rfl rfl ?_
              rw [((vm_pa (rfl : (nI ((vr_gi (vr_gl ((vm_up H 152 25 0), n0) p ls k) p q i).2 - n0) : Int32) = nI ((vr_gi (vr_gl ((vm_up H 152 25 0), n0) p ls k) p q i).2 - n0)) (rfl : (0 : Int32) = nI 0)) : (nI ((vr_gi (vr_gl ((vm_up H 152 25 0), n0) p ls k) p q i).2 - n0)) + 0 = nI (((vr_gi (vr_gl ((vm_up H 152 25 0), n0) p ls k) p q i).2 - n0) + 0)), ((vm_pa (rfl : nI i = nI i) (rfl : (1 : Int32) = nI 1)) : (nI i) + 1 = nI (i + 1))]
              refine vm_J.mask [true, true, true, true, true, true, false] ?_
              show vm_J _ _ _ (48, (0, 0), [.ref 152, .int (nI p), .int 1, .int (nI (((vr_gi (vr_gl ((vm_up H 152 25 0), n0) p ls k) p q i).2 - n0) + 0)), .int (nI k), .int (nI (i + 1)), .retAddr 0], []) (G, (vr_g1 (((vr_gi (vr_gl ((vm_up H 152 25 0), n0) p ls k) p q i).1), (vr_gi (vr_gl ((vm_up H 152 25 0), n0) p ls k) p q i).2) p (sp_rc q i) q.2.2.2).1, F) _ _
              have z := ii trivial
              have e2 : (vr_gi (vr_gl ((vm_up H 152 25 0), n0) p ls k) p q (i + 1)).2 = (vr_gi (vr_gl ((vm_up H 152 25 0), n0) p ls k) p q i).2 := by show (vr_g1 _ _ _ _).2 = _; unfold vr_g1; rw [if_neg c4]
              rw [e2] at z
              exact z
            · have c4 := vm_bi_eq_f c4
              refine vm_J.go vm_q227 (k := 6) (hs := []) (f' := (48, (0, 0), [.ref 152, .int (nI p), .int 1, .int ((nI ((vr_gi (vr_gl ((vm_up H 152 25 0), n0) p ls k) p q i).2 - n0)) + 1), .int (nI k), .int ((nI i) + 1), .int (sp_rc q i)], [])) (h' := (G, (vr_g1 (((vr_gi (vr_gl ((vm_up H 152 25 0), n0) p ls k) p q i).1), (vr_gi (vr_gl ((vm_up H 152 25 0), n0) p ls k) p q i).2) p (sp_rc q i) q.2.2.2).1, F)) (hs' := []) rfl rfl ?_
              rw [((vm_pa (rfl : (nI ((vr_gi (vr_gl ((vm_up H 152 25 0), n0) p ls k) p q i).2 - n0) : Int32) = nI ((vr_gi (vr_gl ((vm_up H 152 25 0), n0) p ls k) p q i).2 - n0)) (rfl : (1 : Int32) = nI 1)) : (nI ((vr_gi (vr_gl ((vm_up H 152 25 0), n0) p ls k) p q i).2 - n0)) + 1 = nI (((vr_gi (vr_gl ((vm_up H 152 25 0), n0) p ls k) p q i).2 - n0) + 1)), ((vm_pa (rfl : nI i = nI i) (rfl : (1 : Int32) = nI 1)) : (nI i) + 1 = nI (i + 1))]
              refine vm_J.mask [true, true, true, true, true, true, false] ?_
              show vm_J _ _ _ (48, (0, 0), [.ref 152, .int (nI p), .int 1, .int (nI (((vr_gi (vr_gl ((vm_up H 152 25 0), n0) p ls k) p q i).2 - n0) + 1)), .int (nI k), .int (nI (i + 1)), .retAddr 0], []) (G, (vr_g1 (((vr_gi (vr_gl ((vm_up H 152 25 0), n0) p ls k) p q i).1), (vr_gi (vr_gl ((vm_up H 152 25 0), n0) p ls k) p q i).2) p (sp_rc q i) q.2.2.2).1, F) _ _
              have z := ii trivial
              have e2 : (vr_gi (vr_gl ((vm_up H 152 25 0), n0) p ls k) p q (i + 1)).2 = (vr_gi (vr_gl ((vm_up H 152 25 0), n0) p ls k) p q i).2 + 1 := by show (vr_g1 _ _ _ _).2 = _; unfold vr_g1; rw [if_pos c4]
              rw [e2, show (vr_gi (vr_gl ((vm_up H 152 25 0), n0) p ls k) p q i).2 + 1 - n0 = (vr_gi (vr_gl ((vm_up H 152 25 0), n0) p ls k) p q i).2 - n0 + 1 from by omega] at z
              exact z
          · have c3 := vm_ne_f (a := q.2.2.1) (b := 1) (by omega) (by omega) c3
            refine vm_J.go vm_q227 (k := 4) (hs := [vm_shR, (0, 12, [])]) (f' := (85, (0, 0), [.ref 152, .int (nI p), .int 1, .int (nI ((vr_gi (vr_gl ((vm_up H 152 25 0), n0) p ls k) p q i).2 - n0)), .int (nI k), .int (nI i), .retAddr 0], [.int (((vr_gi (vr_gl ((vm_up H 152 25 0), n0) p ls k) p q i).1) 166 (nI k).toNatClampNeg), .int q.1])) (h' := (G, ((vr_gi (vr_gl ((vm_up H 152 25 0), n0) p ls k) p q i).1), F)) (hs' := []) rfl (vm_b2 rfl (vm_b2 (vm_b2 (vm_hG hR.c152) rfl) (vm_b2 rfl (vm_b2 (vm_b2 (vm_hG hR.c166) (vm_in_e (j := k) (n := 12) rfl (by omega) (by omega))) rfl)))) ?_
            rw [vm_ix_e (j := k) rfl (by omega)]
            rw [((Eq.trans (congrFun ((vr_gi_P (vr_gl_P hS0 ls _) _ _).1 166 (by decide) (by decide) (by decide)) k) (Eq.trans (congrFun (vm_up_f _ 152 _ _ 166 (by decide)) k) hr1)) : ((vr_gi (vr_gl ((vm_up H 152 25 0), n0) p ls k) p q i).1) 166 k = q.1)]
            refine vm_J.go vm_q227 (k := 6) (hs := [vm_shR, (0, 12, [])]) (f' := (104, (0, 0), [.ref 152, .int (nI p), .int 1, .int (nI ((vr_gi (vr_gl ((vm_up H 152 25 0), n0) p ls k) p q i).2 - n0)), .int (nI k), .int (nI i), .retAddr 0], [.int (((vr_gi (vr_gl ((vm_up H 152 25 0), n0) p ls k) p q i).1) 168 (nI k).toNatClampNeg), .int (nI i), .int q.1, .int q.1])) (h' := (G, ((vr_gi (vr_gl ((vm_up H 152 25 0), n0) p ls k) p q i).1), F)) (hs' := []) rfl (vm_b2 rfl (vm_b2 rfl (vm_b2 rfl (vm_b2 (vm_b2 (vm_hG hR.c152) rfl) (vm_b2 rfl (vm_b2 (vm_b2 (vm_hG hR.c168) (vm_in_e (j := k) (n := 12) rfl (by omega) (by omega))) rfl)))))) ?_
            rw [vm_ix_e (j := k) rfl (by omega)]
            rw [((Eq.trans (congrFun ((vr_gi_P (vr_gl_P hS0 ls _) _ _).1 168 (by decide) (by decide) (by decide)) k) (Eq.trans (congrFun (vm_up_f _ 152 _ _ 168 (by decide)) k) hr2)) : ((vr_gi (vr_gl ((vm_up H 152 25 0), n0) p ls k) p q i).1) 168 k = nI q.2.2.1)]
            refine vm_J.go vm_q227 (k := 2) (hs := []) (f' := (106, (0, 0), [.ref 152, .int (nI p), .int 1, .int (nI ((vr_gi (vr_gl ((vm_up H 152 25 0), n0) p ls k) p q i).2 - n0)), .int (nI k), .int (nI i), .retAddr 0], [.int ((nI q.2.2.1) - 1), .int (nI i), .int q.1, .int q.1])) (h' := (G, ((vr_gi (vr_gl ((vm_up H 152 25 0), n0) p ls k) p q i).1), F)) (hs' := []) rfl rfl ?_
            rw [((vm_ps (rfl : (nI q.2.2.1 : Int32) = nI q.2.2.1) (rfl : (1 : Int32) = nI 1) (by omega)) : (nI q.2.2.1) - 1 = nI (q.2.2.1 - 1))]
            refine vm_J.call vm_q227 (Z := vm_M184) (n := 4) (k := 1) (mi := 184) (pc := 106) (en := (106, .invokestatic 184, 3, [184, 1345, 0], .null)) rfl trivial rfl rfl vm_z184 (av := [.int q.1, .int q.1, .int (nI i), .int (nI (q.2.2.1 - 1))]) (rest := []) (r_btq1 (q := q) (i := i) hR c3) rfl (Nat.le_of_ble_eq_true rfl) ⟨Nat.le_of_ble_eq_true rfl, Nat.le_of_ble_eq_true rfl⟩ ⟨Nat.le_of_ble_eq_true rfl, Nat.le_of_ble_eq_true rfl⟩ ?_
            show vm_J _ _ _ (109, (0, 0), [.ref 152, .int (nI p), .int 1, .int (nI ((vr_gi (vr_gl ((vm_up H 152 25 0), n0) p ls k) p q i).2 - n0)), .int (nI k), .int (nI i), .retAddr 0], [.int (sp_rc q i)]) (G, ((vr_gi (vr_gl ((vm_up H 152 25 0), n0) p ls k) p q i).1), F) _ _
            refine vm_J.go vm_q227 (k := 9) (hs := [vm_shR, (0, 12, [])]) (f' := (123, (0, 0), [.ref 152, .int (nI p), .int 1, .int (nI ((vr_gi (vr_gl ((vm_up H 152 25 0), n0) p ls k) p q i).2 - n0)), .int (nI k), .int (nI i), .int (sp_rc q i)], [.int (((vr_gi (vr_gl ((vm_up H 152 25 0), n0) p ls k) p q i).1) 169 (nI k).toNatClampNeg), .int (sp_rc q i), .int (nI p), .ref 152, .int (nI ((vr_gi (vr_gl ((vm_up H 152 25 0), n0) p ls k) p q i).2 - n0))])) (h' := (G, ((vr_gi (vr_gl ((vm_up H 152 25 0), n0) p ls k) p q i).1), F)) (hs' := []) rfl (vm_b2 rfl (vm_b2 rfl (vm_b2 rfl (vm_b2 rfl (vm_b2 rfl (vm_b2 rfl (vm_b2 (vm_b2 (vm_hG hR.c152) rfl) (vm_b2 rfl (vm_b2 (vm_b2 (vm_hG hR.c169) (vm_in_e (j := k) (n := 12) rfl (by omega) (by omega))) rfl))))))))) ?_
            rw [vm_ix_e (j := k) rfl (by omega)]
            rw [((Eq.trans (congrFun ((vr_gi_P (vr_gl_P hS0 ls _) _ _).1 169 (by decide) (by decide) (by decide)) k) (Eq.trans (congrFun (vm_up_f _ 152 _ _ 169 (by decide)) k) hr4)) : ((vr_gi (vr_gl ((vm_up H 152 25 0), n0) p ls k) p q i).1) 169 k = q.2.2.2)]
            refine vm_J.call vm_q227 (Z := vm_M212) (n := 3) (k := 0) (mi := 212) (pc := 123) (en := (123, .invokevirtual 261, 3, [212, 1460, 0], .null)) rfl trivial rfl rfl vm_z212 (av := [.ref 152, .int (nI p), .int (sp_rc q i), .int q.2.2.2]) (rest := [.int (nI ((vr_gi (vr_gl ((vm_up H 152 25 0), n0) p ls k) p q i).2 - n0))]) (r_comesE (p := p) (n := (vr_gi (vr_gl ((vm_up H 152 25 0), n0) p ls k) p q i).2) (c := sp_rc q i) (lo := q.2.2.2) hR (vr_gi_P (vr_gl_P hS0 ls _) _ _).2.1 hp (by omega)) ⟨_, _, rfl, rfl, _, 11, _, hR.c152, rfl, rfl, rfl⟩ (Nat.le_of_ble_eq_true rfl) ⟨Nat.le_of_ble_eq_true rfl, Nat.le_of_ble_eq_true rfl⟩ ⟨Nat.le_of_ble_eq_true rfl, Nat.le_of_ble_eq_true rfl⟩ ?_
            show vm_J _ _ _ (126, (0, 0), [.ref 152, .int (nI p), .int 1, .int (nI ((vr_gi (vr_gl ((vm_up H 152 25 0), n0) p ls k) p q i).2 - n0)), .int (nI k), .int (nI i), .int (sp_rc q i)], [.int (vm_bi (sp_wcA (fun z => ((vr_gi (vr_gl ((vm_up H 152 25 0), n0) p ls k) p q i).1) 157 (16 * p + z)) (sp_rc q i) (vr_gi (vr_gl ((vm_up H 152 25 0), n0) p ls k) p q i).2)), .int (nI ((vr_gi (vr_gl ((vm_up H 152 25 0), n0) p ls k) p q i).2 - n0))]) (G, (vr_g1 (((vr_gi (vr_gl ((vm_up H 152 25 0), n0) p ls k) p q i).1), (vr_gi (vr_gl ((vm_up H 152 25 0), n0) p ls k) p q i).2) p (sp_rc q i) q.2.2.2).1, F) _ _
            refine vm_J.go vm_q227 (k := 1) (hs := []) (f' := (bif vm_ic .eq (vm_bi (sp_wcA (fun z => ((vr_gi (vr_gl ((vm_up H 152 25 0), n0) p ls k) p q i).1) 157 (16 * p + z)) (sp_rc q i) (vr_gi (vr_gl ((vm_up H 152 25 0), n0) p ls k) p q i).2)) 0 then 133 else 129, (0, 0), [.ref 152, .int (nI p), .int 1, .int (nI ((vr_gi (vr_gl ((vm_up H 152 25 0), n0) p ls k) p q i).2 - n0)), .int (nI k), .int (nI i), .int (sp_rc q i)], [.int (nI ((vr_gi (vr_gl ((vm_up H 152 25 0), n0) p ls k) p q i).2 - n0))])) (h' := (G, (vr_g1 (((vr_gi (vr_gl ((vm_up H 152 25 0), n0) p ls k) p q i).1), (vr_gi (vr_gl ((vm_up H 152 25 0), n0) p ls k) p q i).2) p (sp_rc q i) q.2.2.2).1, F)) (hs' := []) rfl rfl ?_
            refine vm_J.br (fun c5 => ?_) (fun c5 => ?_)
            · have c5 := vm_bi_eq_t c5
              refine vm_J.go vm_q227 (k := 5) (hs := []) (f' := (48, (0, 0), [.ref 152, .int (nI p), .int 1, .int ((nI ((vr_gi (vr_gl ((vm_up H 152 25 0), n0) p ls k) p q i).2 - n0)) + 0), .int (nI k), .int ((nI i) + 1), .int (sp_rc q i)], [])) (h' := (G, (vr_g1 (((vr_gi (vr_gl ((vm_up H 152 25 0), n0) p ls k) p q i).1), (vr_gi (vr_gl ((vm_up H 152 25 0), n0) p ls k) p q i).2) p (sp_rc q i) q.2.2.2).1, F)) (hs' := []) rfl rfl ?_
              rw [((vm_pa (rfl : (nI ((vr_gi (vr_gl ((vm_up H 152 25 0), n0) p ls k) p q i).2 - n0) : Int32) = nI ((vr_gi (vr_gl ((vm_up H 152 25 0), n0) p ls k) p q i).2 - n0)) (rfl : (0 : Int32) = nI 0)) : (nI ((vr_gi (vr_gl ((vm_up H 152 25 0), n0) p ls k) p q i).2 - n0)) + 0 = nI (((vr_gi (vr_gl ((vm_up H 152 25 0), n0) p ls k) p q i).2 - n0) + 0)), ((vm_pa (rfl : nI i = nI i) (rfl : (1 : Int32) = nI 1)) : (nI i) + 1 = nI (i + 1))]
              refine vm_J.mask [true, true, true, true, true, true, false] ?_
              show vm_J _ _ _ (48, (0, 0), [.ref 152, .int (nI p), .int 1, .int (nI (((vr_gi (vr_gl ((vm_up H 152 25 0), n0) p ls k) p q i).2 - n0) + 0)), .int (nI k), .int (nI (i + 1)), .retAddr 0], []) (G, (vr_g1 (((vr_gi (vr_gl ((vm_up H 152 25 0), n0) p ls k) p q i).1), (vr_gi (vr_gl ((vm_up H 152 25 0), n0) p ls k) p q i).2) p (sp_rc q i) q.2.2.2).1, F) _ _
              have z := ii trivial
              have e2 : (vr_gi (vr_gl ((vm_up H 152 25 0), n0) p ls k) p q (i + 1)).2 = (vr_gi (vr_gl ((vm_up H 152 25 0), n0) p ls k) p q i).2 := by show (vr_g1 _ _ _ _).2 = _; unfold vr_g1; rw [if_neg c5]
              rw [e2] at z
              exact z
            · have c5 := vm_bi_eq_f c5
              refine vm_J.go vm_q227 (k := 6) (hs := []) (f' := (48, (0, 0), [.ref 152, .int (nI p), .int 1, .int ((nI ((vr_gi (vr_gl ((vm_up H 152 25 0), n0) p ls k) p q i).2 - n0)) + 1), .int (nI k), .int ((nI i) + 1), .int (sp_rc q i)], [])) (h' := (G, (vr_g1 (((vr_gi (vr_gl ((vm_up H 152 25 0), n0) p ls k) p q i).1), (vr_gi (vr_gl ((vm_up H 152 25 0), n0) p ls k) p q i).2) p (sp_rc q i) q.2.2.2).1, F)) (hs' := []) rfl rfl ?_
              rw [((vm_pa (rfl : (nI ((vr_gi (vr_gl ((vm_up H 152 25 0), n0) p ls k) p q i).2 - n0) : Int32) = nI ((vr_gi (vr_gl ((vm_up H 152 25 0), n0) p ls k) p q i).2 - n0)) (rfl : (1 : Int32) = nI 1)) : (nI ((vr_gi (vr_gl ((vm_up H 152 25 0), n0) p ls k) p q i).2 - n0)) + 1 = nI (((vr_gi (vr_gl ((vm_up H 152 25 0), n0) p ls k) p q i).2 - n0) + 1)), ((vm_pa (rfl : nI i = nI i) (rfl : (1 : Int32) = nI 1)) : (nI i) + 1 = nI (i + 1))]
              refine vm_J.mask [true, true, true, true, true, true, false] ?_
              show vm_J _ _ _ (48, (0, 0), [.ref 152, .int (nI p), .int 1, .int (nI (((vr_gi (vr_gl ((vm_up H 152 25 0), n0) p ls k) p q i).2 - n0) + 1)), .int (nI k), .int (nI (i + 1)), .retAddr 0], []) (G, (vr_g1 (((vr_gi (vr_gl ((vm_up H 152 25 0), n0) p ls k) p q i).1), (vr_gi (vr_gl ((vm_up H 152 25 0), n0) p ls k) p q i).2) p (sp_rc q i) q.2.2.2).1, F) _ _
              have z := ii trivial
              have e2 : (vr_gi (vr_gl ((vm_up H 152 25 0), n0) p ls k) p q (i + 1)).2 = (vr_gi (vr_gl ((vm_up H 152 25 0), n0) p ls k) p q i).2 + 1 := by show (vr_g1 _ _ _ _).2 = _; unfold vr_g1; rw [if_pos c5]
              rw [e2, show (vr_gi (vr_gl ((vm_up H 152 25 0), n0) p ls k) p q i).2 + 1 - n0 = (vr_gi (vr_gl ((vm_up H 152 25 0), n0) p ls k) p q i).2 - n0 + 1 from by omega] at z
              exact z
      · show vm_J _ _ _ (48, (0, 0), [.ref 152, .int (nI p), .int 1, .int (nI ((vr_gi (vr_gl ((vm_up H 152 25 0), n0) p ls k) p q q.2.2.1).2 - n0)), .int (nI k), .int (nI q.2.2.1), .retAddr 0], []) (G, ((vr_gi (vr_gl ((vm_up H 152 25 0), n0) p ls k) p q q.2.2.1).1), F) _ _
        refine vm_J.go vm_q227 (k := 5) (hs := [vm_shR, (0, 12, [])]) (f' := (57, (0, 0), [.ref 152, .int (nI p), .int 1, .int (nI ((vr_gi (vr_gl ((vm_up H 152 25 0), n0) p ls k) p q q.2.2.1).2 - n0)), .int (nI k), .int (nI q.2.2.1), .retAddr 0], [.int (((vr_gi (vr_gl ((vm_up H 152 25 0), n0) p ls k) p q q.2.2.1).1) 168 (nI k).toNatClampNeg), .int (nI q.2.2.1)])) (h' := (G, ((vr_gi (vr_gl ((vm_up H 152 25 0), n0) p ls k) p q q.2.2.1).1), F)) (hs' := []) rfl (vm_b2 rfl (vm_b2 rfl (vm_b2 (vm_b2 (vm_hG hR.c152) rfl) (vm_b2 rfl (vm_b2 (vm_b2 (vm_hG hR.c168) (vm_in_e (j := k) (n := 12) rfl (by omega) (by omega))) rfl))))) ?_
        rw [vm_ix_e (j := k) rfl (by omega)]
        rw [((Eq.trans (congrFun ((vr_gi_P (vr_gl_P hS0 ls _) _ _).1 168 (by decide) (by decide) (by decide)) k) (Eq.trans (congrFun (vm_up_f _ 152 _ _ 168 (by decide)) k) hr2)) : ((vr_gi (vr_gl ((vm_up H 152 25 0), n0) p ls k) p q q.2.2.1).1) 168 k = nI q.2.2.1)]
        refine vm_J.go vm_q227 (k := 1) (hs := []) (f' := (bif vm_ic .ge (nI q.2.2.1) (nI q.2.2.1) then 142 else 60, (0, 0), [.ref 152, .int (nI p), .int 1, .int (nI ((vr_gi (vr_gl ((vm_up H 152 25 0), n0) p ls k) p q q.2.2.1).2 - n0)), .int (nI k), .int (nI q.2.2.1), .retAddr 0], [])) (h' := (G, ((vr_gi (vr_gl ((vm_up H 152 25 0), n0) p ls k) p q q.2.2.1).1), F)) (hs' := []) rfl rfl ?_
        refine vm_J.br (fun c6 => ?_) (fun c6 => ?_)
        · have c6 := vm_ge_t (a := q.2.2.1) (b := q.2.2.1) (by omega) (by omega) c6
          refine vm_J.go vm_q227 (k := 2) (hs := []) (f' := (36, (0, 0), [.ref 152, .int (nI p), .int 1, .int (nI ((vr_gi (vr_gl ((vm_up H 152 25 0), n0) p ls k) p q q.2.2.1).2 - n0)), .int ((nI k) + 1), .int (nI q.2.2.1), .retAddr 0], [])) (h' := (G, ((vr_gi (vr_gl ((vm_up H 152 25 0), n0) p ls k) p q q.2.2.1).1), F)) (hs' := []) rfl rfl ?_
          rw [((vm_pa (rfl : nI k = nI k) (rfl : (1 : Int32) = nI 1)) : (nI k) + 1 = nI (k + 1))]
          refine vm_J.mask [true, true, true, true, true, false, true] ?_
          show vm_J _ _ _ (36, (0, 0), [.ref 152, .int (nI p), .int 1, .int (nI ((vr_gi (vr_gl ((vm_up H 152 25 0), n0) p ls k) p q q.2.2.1).2 - n0)), .int (nI (k + 1)), .retAddr 0, .retAddr 0], []) (G, ((vr_gi (vr_gl ((vm_up H 152 25 0), n0) p ls k) p q q.2.2.1).1), F) _ _
          have z := ik trivial
          rw [show (vr_gl ((vm_up H 152 25 0), n0) p ls (k + 1)) = vr_gi (vr_gl ((vm_up H 152 25 0), n0) p ls k) p q q.2.2.1 from by conv => lhs; unfold vr_gl; rw [hq]] at z
          exact z
        · have c6 := vm_ge_f (a := q.2.2.1) (b := q.2.2.1) (by omega) (by omega) c6
          exact (show False by omega).elim
  · show vm_J _ _ _ (36, (0, 0), [.ref 152, .int (nI p), .int 1, .int (nI ((vr_gl ((vm_up H 152 25 0), n0) p ls ls.length).2 - n0)), .int (nI ls.length), .retAddr 0, .retAddr 0], []) (G, ((vr_gl ((vm_up H 152 25 0), n0) p ls ls.length).1), F) _ _
    refine vm_J.go vm_q227 (k := 3) (hs := [vm_shR]) (f' := (42, (0, 0), [.ref 152, .int (nI p), .int 1, .int (nI ((vr_gl ((vm_up H 152 25 0), n0) p ls ls.length).2 - n0)), .int (nI ls.length), .retAddr 0, .retAddr 0], [.int (((vr_gl ((vm_up H 152 25 0), n0) p ls ls.length).1) 152 27), .int (nI ls.length)])) (h' := (G, ((vr_gl ((vm_up H 152 25 0), n0) p ls ls.length).1), F)) (hs' := []) rfl (vm_b2 rfl (vm_b2 rfl (vm_b2 (vm_b2 (vm_hG hR.c152) rfl) rfl))) ?_
    rw [((Eq.trans (congrFun ((vr_gl_P hS0 ls _).1 152 (by decide) (by decide) (by decide)) 27) (Eq.trans (vm_up_k2 _ 152 25 _ 27 (by decide)) c27)) : ((vr_gl ((vm_up H 152 25 0), n0) p ls ls.length).1) 152 27 = nI ls.length)]
    refine vm_J.go vm_q227 (k := 1) (hs := []) (f' := (bif vm_ic .ge (nI ls.length) (nI ls.length) then 148 else 45, (0, 0), [.ref 152, .int (nI p), .int 1, .int (nI ((vr_gl ((vm_up H 152 25 0), n0) p ls ls.length).2 - n0)), .int (nI ls.length), .retAddr 0, .retAddr 0], [])) (h' := (G, ((vr_gl ((vm_up H 152 25 0), n0) p ls ls.length).1), F)) (hs' := []) rfl rfl ?_
    refine vm_J.br (fun c7 => ?_) (fun c7 => ?_)
    · have c7 := vm_ge_t (a := ls.length) (b := ls.length) (by omega) (by omega) c7
      refine vm_J.go vm_q227 (k := 1) (hs := []) (f' := (149, (0, 0), [.ref 152, .int (nI p), .int 1, .int (nI ((vr_gl ((vm_up H 152 25 0), n0) p ls ls.length).2 - n0)), .int (nI ls.length), .retAddr 0, .retAddr 0], [.int (nI ((vr_gl ((vm_up H 152 25 0), n0) p ls ls.length).2 - n0))])) (h' := (G, ((vr_gl ((vm_up H 152 25 0), n0) p ls ls.length).1), F)) (hs' := []) rfl rfl ?_
      exact vm_J.end vm_q227 (en := (149, .ireturn, 1, [], .null)) rfl rfl vm_rI (Nat.zero_le _) (Nat.zero_le _) rfl
    · have c7 := vm_ge_f (a := ls.length) (b := ls.length) (by omega) (by omega) c7
      exact (show False by omega).elim
