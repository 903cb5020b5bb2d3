theorem sp_nm_63 {t : Nat → Int32} {n p : Nat} (h : 0 ≤ (sp_nm t n p).1) : 0 ≤ (sp_nm t n p).1.toInt ∧ (sp_nm t n p).1.toInt ≤ 63 := by
  refine ⟨by rw [Int32.le_iff_toInt_le, show (0 : Int32).toInt = 0 from rfl] at h; exact h, ?_⟩
  unfold sp_nm at h ⊢
  split
  · rename_i h1
    split
    · split
      · rename_i h3
        rw [Int32.le_iff_toInt_le, show (63 : Int32).toInt = 63 from rfl] at h3
        exact h3
      · show (-1 : Int32).toInt ≤ 63
        decide
    · dsimp only
      have h2 := h1.1
      have h3 := h1.2
      rw [Int32.le_iff_toInt_le] at h2 h3
      rw [show (48 : Int32).toInt = 48 from rfl] at h2
      rw [show (57 : Int32).toInt = 57 from rfl] at h3
      rw [Int32.toInt_sub, show (48 : Int32).toInt = 48 from rfl, Int.bmod_eq_of_le (by omega) (by omega)]
      omega
  · show (-1 : Int32).toInt ≤ 63
    decide
theorem vm_k64 {v x : Int32} {m : Int} (hv : 0 ≤ v.toInt ∧ v.toInt ≤ m) (hx : 0 ≤ x.toInt ∧ x.toInt ≤ 63) (hm : m ≤ 4095) : (v * 64 + x).toInt = v.toInt * 64 + x.toInt := by
  rw [Int32.toInt_add, Int32.toInt_mul, show (64 : Int32).toInt = 64 from rfl, Int.bmod_eq_of_le (n := v.toInt * 64) (by omega) (by omega)]
  exact Int.bmod_eq_of_le (by omega) (by omega)
theorem vm_k64n {v x : Int32} {m : Int} (hv : 0 ≤ v.toInt ∧ v.toInt ≤ m) (hx : 0 ≤ x.toInt ∧ x.toInt ≤ 63) (hm : m ≤ 4095) : 0 ≤ v * 64 + x := by
  rw [Int32.le_iff_toInt_le, vm_k64 hv hx hm, show (0 : Int32).toInt = 0 from rfl]
  omega
/-- the two ways of telling a colour read -/
def vr_same (r : (Int32 × Int32) × Nat) (s : Int32 × Nat) : Prop := r.2 = s.2 ∧ ((r.1.1 = 1 ∧ 0 ≤ s.1 ∧ r.1.2 = s.1) ∨ (r.1.1 = 0 ∧ ¬ 0 ≤ s.1))
theorem vr_pl_s {t : Nat → Int32} {n p : Nat} {v : Int32} (hv : 0 ≤ v.toInt ∧ v.toInt ≤ 4095) : vr_same (vr_pl t n v p) (sp_pl t n v p) := by
  unfold vr_pl sp_pl
  split
  · split
    · rename_i h
      exact ⟨rfl, Or.inl ⟨rfl, vm_k64n hv (sp_nm_63 h) (by decide), by rw [Int32.mul_comm]⟩⟩
    · exact ⟨rfl, Or.inr ⟨rfl, (by decide : ¬ (0 : Int32) ≤ -1)⟩⟩
  · exact ⟨rfl, Or.inr ⟨rfl, (by decide : ¬ (0 : Int32) ≤ -1)⟩⟩
theorem vr_pm_s {t : Nat → Int32} {n p : Nat} {v : Int32} (hv : 0 ≤ v.toInt ∧ v.toInt ≤ 63) : vr_same (vr_pm t n v p) (sp_pm t n v p) := by
  unfold vr_pm sp_pm
  split
  · split
    · rename_i h
      have h2 := sp_nm_63 h
      rw [Int32.mul_comm 64 v]
      exact vr_pl_s (by rw [vm_k64 hv h2 (by decide)]; omega)
    · exact ⟨rfl, Or.inr ⟨rfl, (by decide : ¬ (0 : Int32) ≤ -1)⟩⟩
  · exact ⟨rfl, Or.inr ⟨rfl, (by decide : ¬ (0 : Int32) ≤ -1)⟩⟩
theorem vr_pc_s (t : Nat → Int32) (n p : Nat) : vr_same (vr_pc t n p) (sp_pc t n p) := by
  unfold vr_pc sp_pc
  split
  · rename_i h
    have h2 := sp_nm_63 h
    rw [Int32.mul_comm 64 0]
    exact vr_pm_s (by rw [vm_k64 (v := 0) (m := 0) (by decide) h2 (by decide), show (0 : Int32).toInt = 0 from rfl]; omega)
  · exact ⟨rfl, Or.inr ⟨rfl, (by decide : ¬ (0 : Int32) ≤ -1)⟩⟩
theorem r_colour_0 {l : Launch} {X : vm_Cx} {G : List vm_Sh} {I : Nat → Nat → Int32} {F : Nat → Nat → UInt32} {n p : Nat} (hR : vm_isR G) (hn : I 152 25 = nI n) (hp : I 152 26 = nI p) (hn2 : n ≤ 100) (hp2 : p ≤ n) (hc : (vr_pc (I 165) n p).1.1 = 0) : vm_K l X vm_M223 [.ref 152] (G, I, F) (some (.int 0)) (G, (vm_up (vm_up I 152 28 (vr_pc (I 165) n p).1.2) 152 26 (nI (vr_pc (I 165) n p).2)), F) := by
  have q := r_colour (l := l) (X := X) (F := F) hR hn hp hn2 hp2
  rw [hc] at q
  exact q
theorem r_reads_0 {l : Launch} {X : vm_Cx} {G : List vm_Sh} {I : Nat → Nat → Int32} {F : Nat → Nat → UInt32} {n p : Nat} {c : Int32} (hR : vm_isR G) (hn : I 152 25 = nI n) (hp : I 152 26 = nI p) (hn2 : n ≤ 100) (hp2 : p ≤ n) (hc : ¬ sp_sg (I 165) n p = c) : vm_K l X vm_M221 [.ref 152, .int c] (G, I, F) (some (.int 0)) (G, (vm_up I 152 26 (nI p)), F) := by
  have q := r_reads (l := l) (X := X) (F := F) (c := c) hR hn hp hn2 hp2
  rw [vm_bi_f hc, sp_ps_n hc] at q
  exact q
theorem r_colour_1 {l : Launch} {X : vm_Cx} {G : List vm_Sh} {I : Nat → Nat → Int32} {F : Nat → Nat → UInt32} {n p : Nat} (hR : vm_isR G) (hn : I 152 25 = nI n) (hp : I 152 26 = nI p) (hn2 : n ≤ 100) (hp2 : p ≤ n) (hc : (vr_pc (I 165) n p).1.1 = 1) : vm_K l X vm_M223 [.ref 152] (G, I, F) (some (.int 1)) (G, (vm_up (vm_up I 152 28 (vr_pc (I 165) n p).1.2) 152 26 (nI (vr_pc (I 165) n p).2)), F) := by
  have q := r_colour (l := l) (X := X) (F := F) hR hn hp hn2 hp2
  rw [hc] at q
  exact q
theorem r_reads_1 {l : Launch} {X : vm_Cx} {G : List vm_Sh} {I : Nat → Nat → Int32} {F : Nat → Nat → UInt32} {n p : Nat} {c : Int32} (hR : vm_isR G) (hn : I 152 25 = nI n) (hp : I 152 26 = nI p) (hn2 : n ≤ 100) (hp2 : p ≤ n) (hc : sp_sg (I 165) n p = c) : vm_K l X vm_M221 [.ref 152, .int c] (G, I, F) (some (.int 1)) (G, (vm_up I 152 26 (nI (p + 1))), F) := by
  have q := r_reads (l := l) (X := X) (F := F) (c := c) hR hn hp hn2 hp2
  rw [vm_bi_t hc, sp_ps_y hc] at q
  exact q
set_option maxHeartbeats 4000000 in
set_option maxRecDepth 20000 in
/-- DitherDeskModel.readsRamp -/
theorem r_ramp_f1 {l : Launch} {X : vm_Cx} {G : List vm_Sh} {I : Nat → Nat → Int32} {F : Nat → Nat → UInt32} {n : Nat} {p : Nat} {k : Nat} (hR : vm_isR G) (hn : I 152 25 = nI n) (hp : I 152 26 = nI p) (hn2 : n ≤ 100) (hp2 : p ≤ n) (hk : I 152 27 = nI k) (hk2 : k < 12) (h1 : (vr_pc (I 165) n p).1.1 = 0) : vm_K l X vm_M224 [.ref 152] (G, I, F) (some (.int 0)) (G, (vm_up (vm_up I 152 28 (vr_pc (I 165) n p).1.2) 152 26 (nI (vr_pc (I 165) n p).2)), F) := by
  refine vm_K.mk (by decide) (Nat.le_of_ble_eq_true rfl) ?_
  show vm_J _ _ _ (0, (0, 0), [.ref 152], []) _ _ _
  refine vm_J.go vm_q224 (k := 1) (hs := []) (f' := (1, (0, 0), [.ref 152], [.ref 152])) (h' := (G, I, F)) (hs' := []) rfl rfl ?_
  refine vm_J.call vm_q224 (Z := vm_M223) (n := 0) (k := 0) (mi := 223) (pc := 1) (en := (1, .invokevirtual 288, 3, [223, 1504, 0], .null)) rfl trivial rfl rfl vm_z223 (av := [.ref 152]) (rest := []) (r_colour_0 (n := n) (p := p) hR hn hp (by omega) (by omega) h1) ⟨_, _, rfl, rfl, _, 11, _, hR.c152, rfl, rfl, rfl⟩ (Nat.le_of_ble_eq_true rfl) ⟨Nat.le_of_ble_eq_true rfl, Nat.le_of_ble_eq_true rfl⟩ ⟨Nat.le_of_ble_eq_true rfl, Nat.le_of_ble_eq_true rfl⟩ ?_
  have c1 := (vr_pc_c (t := I 165) (n := n) (p := p) (by omega)).1
  show vm_J _ _ _ (4, (0, 0), [.ref 152], [.int 0]) (G, (vm_up (vm_up I 152 28 (vr_pc (I 165) n p).1.2) 152 26 (nI (vr_pc (I 165) n p).2)), F) _ _
  refine vm_J.go vm_q224 (k := 1) (hs := []) (f' := (bif vm_ic .eq 0 0 then 30 else 7, (0, 0), [.ref 152], [])) (h' := (G, (vm_up (vm_up I 152 28 (vr_pc (I 165) n p).1.2) 152 26 (nI (vr_pc (I 165) n p).2)), F)) (hs' := []) rfl rfl ?_
  refine vm_J.bT (by decide) ?_
  refine vm_J.go vm_q224 (k := 1) (hs := []) (f' := (31, (0, 0), [.ref 152], [.int 0])) (h' := (G, (vm_up (vm_up I 152 28 (vr_pc (I 165) n p).1.2) 152 26 (nI (vr_pc (I 165) n p).2)), F)) (hs' := []) rfl rfl ?_
  exact vm_J.end vm_q224 (en := (31, .ireturn, 1, [], .null)) rfl rfl vm_rZ0 (Nat.zero_le _) (Nat.zero_le _) rfl
set_option maxHeartbeats 4000000 in
set_option maxRecDepth 20000 in
/-- DitherDeskModel.readsRamp -/
theorem r_ramp_f2 {l : Launch} {X : vm_Cx} {G : List vm_Sh} {I : Nat → Nat → Int32} {F : Nat → Nat → UInt32} {n : Nat} {p : Nat} {k : Nat} (hR : vm_isR G) (hn : I 152 25 = nI n) (hp : I 152 26 = nI p) (hn2 : n ≤ 100) (hp2 : p ≤ n) (hk : I 152 27 = nI k) (hk2 : k < 12) (h1 : (vr_pc (I 165) n p).1.1 = 1) (h2 : ¬ sp_sg (I 165) n (vr_pc (I 165) n p).2 = 58) : vm_K l X vm_M224 [.ref 152] (G, I, F) (some (.int 0)) (G, (vm_up (vm_up (vm_up I 152 28 (vr_pc (I 165) n p).1.2) 152 26 (nI (vr_pc (I 165) n p).2)) 152 26 (nI ((vr_pc (I 165) n p).2))), F) := by
  refine vm_K.mk (by decide) (Nat.le_of_ble_eq_true rfl) ?_
  show vm_J _ _ _ (0, (0, 0), [.ref 152], []) _ _ _
  refine vm_J.go vm_q224 (k := 1) (hs := []) (f' := (1, (0, 0), [.ref 152], [.ref 152])) (h' := (G, I, F)) (hs' := []) rfl rfl ?_
  refine vm_J.call vm_q224 (Z := vm_M223) (n := 0) (k := 0) (mi := 223) (pc := 1) (en := (1, .invokevirtual 288, 3, [223, 1504, 0], .null)) rfl trivial rfl rfl vm_z223 (av := [.ref 152]) (rest := []) (r_colour_1 (n := n) (p := p) hR hn hp (by omega) (by omega) h1) ⟨_, _, rfl, rfl, _, 11, _, hR.c152, rfl, rfl, rfl⟩ (Nat.le_of_ble_eq_true rfl) ⟨Nat.le_of_ble_eq_true rfl, Nat.le_of_ble_eq_true rfl⟩ ⟨Nat.le_of_ble_eq_true rfl, Nat.le_of_ble_eq_true rfl⟩ ?_
  have c1 := (vr_pc_c (t := I 165) (n := n) (p := p) (by omega)).1
  show vm_J _ _ _ (4, (0, 0), [.ref 152], [.int 1]) (G, (vm_up (vm_up I 152 28 (vr_pc (I 165) n p).1.2) 152 26 (nI (vr_pc (I 165) n p).2)), F) _ _
  refine vm_J.go vm_q224 (k := 1) (hs := []) (f' := (bif vm_ic .eq 1 0 then 30 else 7, (0, 0), [.ref 152], [])) (h' := (G, (vm_up (vm_up I 152 28 (vr_pc (I 165) n p).1.2) 152 26 (nI (vr_pc (I 165) n p).2)), F)) (hs' := []) rfl rfl ?_
  refine vm_J.bF (by decide) ?_
  refine vm_J.go vm_q224 (k := 2) (hs := []) (f' := (10, (0, 0), [.ref 152], [.int 58, .ref 152])) (h' := (G, (vm_up (vm_up I 152 28 (vr_pc (I 165) n p).1.2) 152 26 (nI (vr_pc (I 165) n p).2)), F)) (hs' := []) rfl rfl ?_
  refine vm_J.call vm_q224 (Z := vm_M221) (n := 1) (k := 0) (mi := 221) (pc := 10) (en := (10, .invokevirtual 282, 3, [221, 1508, 0], .null)) rfl trivial rfl rfl vm_z221 (av := [.ref 152, .int 58]) (rest := []) (r_reads_0 (n := n) (p := (vr_pc (I 165) n p).2) (c := 58) hR (Eq.trans (vm_up_k2 _ 152 26 _ 25 (by decide)) (Eq.trans (vm_up_k2 _ 152 28 _ 25 (by decide)) hn)) (vm_up_h _ 152 26 _) (by omega) (by omega) (by rw [show (vm_up (vm_up I 152 28 (vr_pc (I 165) n p).1.2) 152 26 (nI (vr_pc (I 165) n p).2)) 165 = I 165 from (Eq.trans (vm_up_f _ 152 _ _ 165 (by decide)) (vm_up_f _ 152 _ _ 165 (by decide)))]; exact h2)) ⟨_, _, rfl, rfl, _, 11, _, hR.c152, rfl, rfl, rfl⟩ (Nat.le_of_ble_eq_true rfl) ⟨Nat.le_of_ble_eq_true rfl, Nat.le_of_ble_eq_true rfl⟩ ⟨Nat.le_of_ble_eq_true rfl, Nat.le_of_ble_eq_true rfl⟩ ?_
  show vm_J _ _ _ (13, (0, 0), [.ref 152], [.int 0]) (G, (vm_up (vm_up (vm_up I 152 28 (vr_pc (I 165) n p).1.2) 152 26 (nI (vr_pc (I 165) n p).2)) 152 26 (nI ((vr_pc (I 165) n p).2))), F) _ _
  refine vm_J.go vm_q224 (k := 1) (hs := []) (f' := (bif vm_ic .eq 0 0 then 30 else 16, (0, 0), [.ref 152], [])) (h' := (G, (vm_up (vm_up (vm_up I 152 28 (vr_pc (I 165) n p).1.2) 152 26 (nI (vr_pc (I 165) n p).2)) 152 26 (nI ((vr_pc (I 165) n p).2))), F)) (hs' := []) rfl rfl ?_
  refine vm_J.bT (by decide) ?_
  refine vm_J.go vm_q224 (k := 1) (hs := []) (f' := (31, (0, 0), [.ref 152], [.int 0])) (h' := (G, (vm_up (vm_up (vm_up I 152 28 (vr_pc (I 165) n p).1.2) 152 26 (nI (vr_pc (I 165) n p).2)) 152 26 (nI ((vr_pc (I 165) n p).2))), F)) (hs' := []) rfl rfl ?_
  exact vm_J.end vm_q224 (en := (31, .ireturn, 1, [], .null)) rfl rfl vm_rZ0 (Nat.zero_le _) (Nat.zero_le _) rfl
set_option maxHeartbeats 4000000 in
set_option maxRecDepth 20000 in
/-- DitherDeskModel.readsRamp -/
theorem r_ramp_f3 {l : Launch} {X : vm_Cx} {G : List vm_Sh} {I : Nat → Nat → Int32} {F : Nat → Nat → UInt32} {n : Nat} {p : Nat} {k : Nat} (hR : vm_isR G) (hn : I 152 25 = nI n) (hp : I 152 26 = nI p) (hn2 : n ≤ 100) (hp2 : p ≤ n) (hk : I 152 27 = nI k) (hk2 : k < 12) (h1 : (vr_pc (I 165) n p).1.1 = 1) (h2 : sp_sg (I 165) n (vr_pc (I 165) n p).2 = 58) (h3 : ¬ (50 ≤ sp_sg (I 165) n ((vr_pc (I 165) n p).2 + 1) ∧ sp_sg (I 165) n ((vr_pc (I 165) n p).2 + 1) ≤ 56)) : vm_K l X vm_M224 [.ref 152] (G, I, F) (some (.int 0)) (G, (vm_up (vm_up (vm_up I 152 28 (vr_pc (I 165) n p).1.2) 152 26 (nI (vr_pc (I 165) n p).2)) 152 26 (nI ((vr_pc (I 165) n p).2 + 1))), F) := by
  refine vm_K.mk (by decide) (Nat.le_of_ble_eq_true rfl) ?_
  show vm_J _ _ _ (0, (0, 0), [.ref 152], []) _ _ _
  refine vm_J.go vm_q224 (k := 1) (hs := []) (f' := (1, (0, 0), [.ref 152], [.ref 152])) (h' := (G, I, F)) (hs' := []) rfl rfl ?_
  refine vm_J.call vm_q224 (Z := vm_M223) (n := 0) (k := 0) (mi := 223) (pc := 1) (en := (1, .invokevirtual 288, 3, [223, 1504, 0], .null)) rfl trivial rfl rfl vm_z223 (av := [.ref 152]) (rest := []) (r_colour_1 (n := n) (p := p) hR hn hp (by omega) (by omega) h1) ⟨_, _, rfl, rfl, _, 11, _, hR.c152, rfl, rfl, rfl⟩ (Nat.le_of_ble_eq_true rfl) ⟨Nat.le_of_ble_eq_true rfl, Nat.le_of_ble_eq_true rfl⟩ ⟨Nat.le_of_ble_eq_true rfl, Nat.le_of_ble_eq_true rfl⟩ ?_
  have c1 := (vr_pc_c (t := I 165) (n := n) (p := p) (by omega)).1
  show vm_J _ _ _ (4, (0, 0), [.ref 152], [.int 1]) (G, (vm_up (vm_up I 152 28 (vr_pc (I 165) n p).1.2) 152 26 (nI (vr_pc (I 165) n p).2)), F) _ _
  refine vm_J.go vm_q224 (k := 1) (hs := []) (f' := (bif vm_ic .eq 1 0 then 30 else 7, (0, 0), [.ref 152], [])) (h' := (G, (vm_up (vm_up I 152 28 (vr_pc (I 165) n p).1.2) 152 26 (nI (vr_pc (I 165) n p).2)), F)) (hs' := []) rfl rfl ?_
  refine vm_J.bF (by decide) ?_
  refine vm_J.go vm_q224 (k := 2) (hs := []) (f' := (10, (0, 0), [.ref 152], [.int 58, .ref 152])) (h' := (G, (vm_up (vm_up I 152 28 (vr_pc (I 165) n p).1.2) 152 26 (nI (vr_pc (I 165) n p).2)), F)) (hs' := []) rfl rfl ?_
  refine vm_J.call vm_q224 (Z := vm_M221) (n := 1) (k := 0) (mi := 221) (pc := 10) (en := (10, .invokevirtual 282, 3, [221, 1508, 0], .null)) rfl trivial rfl rfl vm_z221 (av := [.ref 152, .int 58]) (rest := []) (r_reads_1 (n := n) (p := (vr_pc (I 165) n p).2) (c := 58) hR (Eq.trans (vm_up_k2 _ 152 26 _ 25 (by decide)) (Eq.trans (vm_up_k2 _ 152 28 _ 25 (by decide)) hn)) (vm_up_h _ 152 26 _) (by omega) (by omega) (by rw [show (vm_up (vm_up I 152 28 (vr_pc (I 165) n p).1.2) 152 26 (nI (vr_pc (I 165) n p).2)) 165 = I 165 from (Eq.trans (vm_up_f _ 152 _ _ 165 (by decide)) (vm_up_f _ 152 _ _ 165 (by decide)))]; exact h2)) ⟨_, _, rfl, rfl, _, 11, _, hR.c152, rfl, rfl, rfl⟩ (Nat.le_of_ble_eq_true rfl) ⟨Nat.le_of_ble_eq_true rfl, Nat.le_of_ble_eq_true rfl⟩ ⟨Nat.le_of_ble_eq_true rfl, Nat.le_of_ble_eq_true rfl⟩ ?_
  have c2 := sp_sg_lt (t := I 165) (n := n) (s := 58) (by decide) h2
  show vm_J _ _ _ (13, (0, 0), [.ref 152], [.int 1]) (G, (vm_up (vm_up (vm_up I 152 28 (vr_pc (I 165) n p).1.2) 152 26 (nI (vr_pc (I 165) n p).2)) 152 26 (nI ((vr_pc (I 165) n p).2 + 1))), F) _ _
  refine vm_J.go vm_q224 (k := 1) (hs := []) (f' := (bif vm_ic .eq 1 0 then 30 else 16, (0, 0), [.ref 152], [])) (h' := (G, (vm_up (vm_up (vm_up I 152 28 (vr_pc (I 165) n p).1.2) 152 26 (nI (vr_pc (I 165) n p).2)) 152 26 (nI ((vr_pc (I 165) n p).2 + 1))), F)) (hs' := []) rfl rfl ?_
  refine vm_J.bF (by decide) ?_
  refine vm_J.go vm_q224 (k := 1) (hs := []) (f' := (17, (0, 0), [.ref 152], [.ref 152])) (h' := (G, (vm_up (vm_up (vm_up I 152 28 (vr_pc (I 165) n p).1.2) 152 26 (nI (vr_pc (I 165) n p).2)) 152 26 (nI ((vr_pc (I 165) n p).2 + 1))), F)) (hs' := []) rfl rfl ?_
  refine vm_J.call vm_q224 (Z := vm_M220) (n := 0) (k := 0) (mi := 220) (pc := 17) (en := (17, .invokevirtual 276, 3, [220, 1512, 0], .null)) rfl trivial rfl rfl vm_z220 (av := [.ref 152]) (rest := []) (r_sign (n := n) (p := (vr_pc (I 165) n p).2 + 1) hR (Eq.trans (vm_up_k2 _ 152 26 _ 25 (by decide)) (Eq.trans (vm_up_k2 _ 152 26 _ 25 (by decide)) (Eq.trans (vm_up_k2 _ 152 28 _ 25 (by decide)) hn))) (vm_up_h _ 152 26 _) (by omega) (by omega)) ⟨_, _, rfl, rfl, _, 11, _, hR.c152, rfl, rfl, rfl⟩ (Nat.le_of_ble_eq_true rfl) ⟨Nat.le_of_ble_eq_true rfl, Nat.le_of_ble_eq_true rfl⟩ ⟨Nat.le_of_ble_eq_true rfl, Nat.le_of_ble_eq_true rfl⟩ ?_
  rw [((Eq.trans (vm_up_f _ 152 _ _ 165 (by decide)) (Eq.trans (vm_up_f _ 152 _ _ 165 (by decide)) (vm_up_f _ 152 _ _ 165 (by decide)))) : (vm_up (vm_up (vm_up I 152 28 (vr_pc (I 165) n p).1.2) 152 26 (nI (vr_pc (I 165) n p).2)) 152 26 (nI ((vr_pc (I 165) n p).2 + 1))) 165 = I 165)]
  show vm_J _ _ _ (20, (0, 0), [.ref 152], [.int (sp_sg (I 165) n ((vr_pc (I 165) n p).2 + 1))]) (G, (vm_up (vm_up (vm_up I 152 28 (vr_pc (I 165) n p).1.2) 152 26 (nI (vr_pc (I 165) n p).2)) 152 26 (nI ((vr_pc (I 165) n p).2 + 1))), F) _ _
  refine vm_J.go vm_q224 (k := 2) (hs := []) (f' := (24, (0, 0), [.ref 152], [.int 56, .int 50, .int (sp_sg (I 165) n ((vr_pc (I 165) n p).2 + 1))])) (h' := (G, (vm_up (vm_up (vm_up I 152 28 (vr_pc (I 165) n p).1.2) 152 26 (nI (vr_pc (I 165) n p).2)) 152 26 (nI ((vr_pc (I 165) n p).2 + 1))), F)) (hs' := []) rfl rfl ?_
  refine vm_J.call vm_q224 (Z := vm_M168) (n := 3) (k := 1) (mi := 168) (pc := 24) (en := (24, .invokestatic 141, 3, [168, 1302, 0], .null)) rfl trivial rfl rfl vm_z168 (av := [.int (sp_sg (I 165) n ((vr_pc (I 165) n p).2 + 1)), .int 50, .int 56]) (rest := []) (r_isIn_n (v := sp_sg (I 165) n ((vr_pc (I 165) n p).2 + 1)) (a := 50) (b := 56) h3) rfl (Nat.le_of_ble_eq_true rfl) ⟨Nat.le_of_ble_eq_true rfl, Nat.le_of_ble_eq_true rfl⟩ ⟨Nat.le_of_ble_eq_true rfl, Nat.le_of_ble_eq_true rfl⟩ ?_
  show vm_J _ _ _ (27, (0, 0), [.ref 152], [.int 0]) (G, (vm_up (vm_up (vm_up I 152 28 (vr_pc (I 165) n p).1.2) 152 26 (nI (vr_pc (I 165) n p).2)) 152 26 (nI ((vr_pc (I 165) n p).2 + 1))), F) _ _
  refine vm_J.go vm_q224 (k := 1) (hs := []) (f' := (bif vm_ic .ne 0 0 then 32 else 30, (0, 0), [.ref 152], [])) (h' := (G, (vm_up (vm_up (vm_up I 152 28 (vr_pc (I 165) n p).1.2) 152 26 (nI (vr_pc (I 165) n p).2)) 152 26 (nI ((vr_pc (I 165) n p).2 + 1))), F)) (hs' := []) rfl rfl ?_
  refine vm_J.bF (by decide) ?_
  refine vm_J.go vm_q224 (k := 1) (hs := []) (f' := (31, (0, 0), [.ref 152], [.int 0])) (h' := (G, (vm_up (vm_up (vm_up I 152 28 (vr_pc (I 165) n p).1.2) 152 26 (nI (vr_pc (I 165) n p).2)) 152 26 (nI ((vr_pc (I 165) n p).2 + 1))), F)) (hs' := []) rfl rfl ?_
  exact vm_J.end vm_q224 (en := (31, .ireturn, 1, [], .null)) rfl rfl vm_rZ0 (Nat.zero_le _) (Nat.zero_le _) rfl
set_option maxHeartbeats 4000000 in
set_option maxRecDepth 20000 in
/-- DitherDeskModel.readsRamp -/
theorem r_ramp_y {l : Launch} {X : vm_Cx} {G : List vm_Sh} {I : Nat → Nat → Int32} {F : Nat → Nat → UInt32} {n : Nat} {p : Nat} {k : Nat} (hR : vm_isR G) (hn : I 152 25 = nI n) (hp : I 152 26 = nI p) (hn2 : n ≤ 100) (hp2 : p ≤ n) (hk : I 152 27 = nI k) (hk2 : k < 12) (h1 : (vr_pc (I 165) n p).1.1 = 1) (h2 : sp_sg (I 165) n (vr_pc (I 165) n p).2 = 58) (h3 : 50 ≤ sp_sg (I 165) n ((vr_pc (I 165) n p).2 + 1) ∧ sp_sg (I 165) n ((vr_pc (I 165) n p).2 + 1) ≤ 56) : vm_K l X vm_M224 [.ref 152] (G, I, F) (some (.int 1)) (G, (vm_up (vm_up (vm_up (vm_up (vm_up (vm_up I 152 28 (vr_pc (I 165) n p).1.2) 152 26 (nI (vr_pc (I 165) n p).2)) 152 26 (nI ((vr_pc (I 165) n p).2 + 1))) 167 (k) ((vr_pc (I 165) n p).1.2)) 168 (k) ((sp_sg (I 165) n ((vr_pc (I 165) n p).2 + 1)) - 48)) 152 26 (nI (((vr_pc (I 165) n p).2 + 1) + 1))), F) := by
  refine vm_K.mk (by decide) (Nat.le_of_ble_eq_true rfl) ?_
  show vm_J _ _ _ (0, (0, 0), [.ref 152], []) _ _ _
  refine vm_J.go vm_q224 (k := 1) (hs := []) (f' := (1, (0, 0), [.ref 152], [.ref 152])) (h' := (G, I, F)) (hs' := []) rfl rfl ?_
  refine vm_J.call vm_q224 (Z := vm_M223) (n := 0) (k := 0) (mi := 223) (pc := 1) (en := (1, .invokevirtual 288, 3, [223, 1504, 0], .null)) rfl trivial rfl rfl vm_z223 (av := [.ref 152]) (rest := []) (r_colour_1 (n := n) (p := p) hR hn hp (by omega) (by omega) h1) ⟨_, _, rfl, rfl, _, 11, _, hR.c152, rfl, rfl, rfl⟩ (Nat.le_of_ble_eq_true rfl) ⟨Nat.le_of_ble_eq_true rfl, Nat.le_of_ble_eq_true rfl⟩ ⟨Nat.le_of_ble_eq_true rfl, Nat.le_of_ble_eq_true rfl⟩ ?_
  have c1 := (vr_pc_c (t := I 165) (n := n) (p := p) (by omega)).1
  show vm_J _ _ _ (4, (0, 0), [.ref 152], [.int 1]) (G, (vm_up (vm_up I 152 28 (vr_pc (I 165) n p).1.2) 152 26 (nI (vr_pc (I 165) n p).2)), F) _ _
  refine vm_J.go vm_q224 (k := 1) (hs := []) (f' := (bif vm_ic .eq 1 0 then 30 else 7, (0, 0), [.ref 152], [])) (h' := (G, (vm_up (vm_up I 152 28 (vr_pc (I 165) n p).1.2) 152 26 (nI (vr_pc (I 165) n p).2)), F)) (hs' := []) rfl rfl ?_
  refine vm_J.bF (by decide) ?_
  refine vm_J.go vm_q224 (k := 2) (hs := []) (f' := (10, (0, 0), [.ref 152], [.int 58, .ref 152])) (h' := (G, (vm_up (vm_up I 152 28 (vr_pc (I 165) n p).1.2) 152 26 (nI (vr_pc (I 165) n p).2)), F)) (hs' := []) rfl rfl ?_
  refine vm_J.call vm_q224 (Z := vm_M221) (n := 1) (k := 0) (mi := 221) (pc := 10) (en := (10, .invokevirtual 282, 3, [221, 1508, 0], .null)) rfl trivial rfl rfl vm_z221 (av := [.ref 152, .int 58]) (rest := []) (r_reads_1 (n := n) (p := (vr_pc (I 165) n p).2) (c := 58) hR (Eq.trans (vm_up_k2 _ 152 26 _ 25 (by decide)) (Eq.trans (vm_up_k2 _ 152 28 _ 25 (by decide)) hn)) (vm_up_h _ 152 26 _) (by omega) (by omega) (by rw [show (vm_up (vm_up I 152 28 (vr_pc (I 165) n p).1.2) 152 26 (nI (vr_pc (I 165) n p).2)) 165 = I 165 from (Eq.trans (vm_up_f _ 152 _ _ 165 (by decide)) (vm_up_f _ 152 _ _ 165 (by decide)))]; exact h2)) ⟨_, _, rfl, rfl, _, 11, _, hR.c152, rfl, rfl, rfl⟩ (Nat.le_of_ble_eq_true rfl) ⟨Nat.le_of_ble_eq_true rfl, Nat.le_of_ble_eq_true rfl⟩ ⟨Nat.le_of_ble_eq_true rfl, Nat.le_of_ble_eq_true rfl⟩ ?_
  have c2 := sp_sg_lt (t := I 165) (n := n) (s := 58) (by decide) h2
  show vm_J _ _ _ (13, (0, 0), [.ref 152], [.int 1]) (G, (vm_up (vm_up (vm_up I 152 28 (vr_pc (I 165) n p).1.2) 152 26 (nI (vr_pc (I 165) n p).2)) 152 26 (nI ((vr_pc (I 165) n p).2 + 1))), F) _ _
  refine vm_J.go vm_q224 (k := 1) (hs := []) (f' := (bif vm_ic .eq 1 0 then 30 else 16, (0, 0), [.ref 152], [])) (h' := (G, (vm_up (vm_up (vm_up I 152 28 (vr_pc (I 165) n p).1.2) 152 26 (nI (vr_pc (I 165) n p).2)) 152 26 (nI ((vr_pc (I 165) n p).2 + 1))), F)) (hs' := []) rfl rfl ?_
  refine vm_J.bF (by decide) ?_
  refine vm_J.go vm_q224 (k := 1) (hs := []) (f' := (17, (0, 0), [.ref 152], [.ref 152])) (h' := (G, (vm_up (vm_up (vm_up I 152 28 (vr_pc (I 165) n p).1.2) 152 26 (nI (vr_pc (I 165) n p).2)) 152 26 (nI ((vr_pc (I 165) n p).2 + 1))), F)) (hs' := []) rfl rfl ?_
  refine vm_J.call vm_q224 (Z := vm_M220) (n := 0) (k := 0) (mi := 220) (pc := 17) (en := (17, .invokevirtual 276, 3, [220, 1512, 0], .null)) rfl trivial rfl rfl vm_z220 (av := [.ref 152]) (rest := []) (r_sign (n := n) (p := (vr_pc (I 165) n p).2 + 1) hR (Eq.trans (vm_up_k2 _ 152 26 _ 25 (by decide)) (Eq.trans (vm_up_k2 _ 152 26 _ 25 (by decide)) (Eq.trans (vm_up_k2 _ 152 28 _ 25 (by decide)) hn))) (vm_up_h _ 152 26 _) (by omega) (by omega)) ⟨_, _, rfl, rfl, _, 11, _, hR.c152, rfl, rfl, rfl⟩ (Nat.le_of_ble_eq_true rfl) ⟨Nat.le_of_ble_eq_true rfl, Nat.le_of_ble_eq_true rfl⟩ ⟨Nat.le_of_ble_eq_true rfl, Nat.le_of_ble_eq_true rfl⟩ ?_
  rw [((Eq.trans (vm_up_f _ 152 _ _ 165 (by decide)) (Eq.trans (vm_up_f _ 152 _ _ 165 (by decide)) (vm_up_f _ 152 _ _ 165 (by decide)))) : (vm_up (vm_up (vm_up I 152 28 (vr_pc (I 165) n p).1.2) 152 26 (nI (vr_pc (I 165) n p).2)) 152 26 (nI ((vr_pc (I 165) n p).2 + 1))) 165 = I 165)]
  show vm_J _ _ _ (20, (0, 0), [.ref 152], [.int (sp_sg (I 165) n ((vr_pc (I 165) n p).2 + 1))]) (G, (vm_up (vm_up (vm_up I 152 28 (vr_pc (I 165) n p).1.2) 152 26 (nI (vr_pc (I 165) n p).2)) 152 26 (nI ((vr_pc (I 165) n p).2 + 1))), F) _ _
  refine vm_J.go vm_q224 (k := 2) (hs := []) (f' := (24, (0, 0), [.ref 152], [.int 56, .int 50, .int (sp_sg (I 165) n ((vr_pc (I 165) n p).2 + 1))])) (h' := (G, (vm_up (vm_up (vm_up I 152 28 (vr_pc (I 165) n p).1.2) 152 26 (nI (vr_pc (I 165) n p).2)) 152 26 (nI ((vr_pc (I 165) n p).2 + 1))), F)) (hs' := []) rfl rfl ?_
  refine vm_J.call vm_q224 (Z := vm_M168) (n := 3) (k := 1) (mi := 168) (pc := 24) (en := (24, .invokestatic 141, 3, [168, 1302, 0], .null)) rfl trivial rfl rfl vm_z168 (av := [.int (sp_sg (I 165) n ((vr_pc (I 165) n p).2 + 1)), .int 50, .int 56]) (rest := []) (r_isIn_y (v := sp_sg (I 165) n ((vr_pc (I 165) n p).2 + 1)) (a := 50) (b := 56) h3) rfl (Nat.le_of_ble_eq_true rfl) ⟨Nat.le_of_ble_eq_true rfl, Nat.le_of_ble_eq_true rfl⟩ ⟨Nat.le_of_ble_eq_true rfl, Nat.le_of_ble_eq_true rfl⟩ ?_
  show vm_J _ _ _ (27, (0, 0), [.ref 152], [.int 1]) (G, (vm_up (vm_up (vm_up I 152 28 (vr_pc (I 165) n p).1.2) 152 26 (nI (vr_pc (I 165) n p).2)) 152 26 (nI ((vr_pc (I 165) n p).2 + 1))), F) _ _
  refine vm_J.go vm_q224 (k := 1) (hs := []) (f' := (bif vm_ic .ne 1 0 then 32 else 30, (0, 0), [.ref 152], [])) (h' := (G, (vm_up (vm_up (vm_up I 152 28 (vr_pc (I 165) n p).1.2) 152 26 (nI (vr_pc (I 165) n p).2)) 152 26 (nI ((vr_pc (I 165) n p).2 + 1))), F)) (hs' := []) rfl rfl ?_
  refine vm_J.bT (by decide) ?_
  refine vm_J.go vm_q224 (k := 4) (hs := [vm_shR, vm_shR]) (f' := (40, (0, 0), [.ref 152], [.int ((vm_up (vm_up (vm_up I 152 28 (vr_pc (I 165) n p).1.2) 152 26 (nI (vr_pc (I 165) n p).2)) 152 26 (nI ((vr_pc (I 165) n p).2 + 1))) 152 27), .ref 167])) (h' := (G, (vm_up (vm_up (vm_up I 152 28 (vr_pc (I 165) n p).1.2) 152 26 (nI (vr_pc (I 165) n p).2)) 152 26 (nI ((vr_pc (I 165) n p).2 + 1))), F)) (hs' := []) rfl (vm_b2 rfl (vm_b2 (vm_b2 (vm_hG hR.c152) rfl) (vm_b2 rfl (vm_b2 (vm_b2 (vm_hG hR.c152) rfl) rfl)))) ?_
  rw [((Eq.trans (vm_up_k2 _ 152 26 _ 27 (by decide)) (Eq.trans (vm_up_k2 _ 152 26 _ 27 (by decide)) (Eq.trans (vm_up_k2 _ 152 28 _ 27 (by decide)) hk))) : (vm_up (vm_up (vm_up I 152 28 (vr_pc (I 165) n p).1.2) 152 26 (nI (vr_pc (I 165) n p).2)) 152 26 (nI ((vr_pc (I 165) n p).2 + 1))) 152 27 = nI k)]
  refine vm_J.go vm_q224 (k := 2) (hs := [vm_shR]) (f' := (44, (0, 0), [.ref 152], [.int ((vm_up (vm_up (vm_up I 152 28 (vr_pc (I 165) n p).1.2) 152 26 (nI (vr_pc (I 165) n p).2)) 152 26 (nI ((vr_pc (I 165) n p).2 + 1))) 152 28), .int (nI k), .ref 167])) (h' := (G, (vm_up (vm_up (vm_up I 152 28 (vr_pc (I 165) n p).1.2) 152 26 (nI (vr_pc (I 165) n p).2)) 152 26 (nI ((vr_pc (I 165) n p).2 + 1))), F)) (hs' := []) rfl (vm_b2 rfl (vm_b2 (vm_b2 (vm_hG hR.c152) rfl) rfl)) ?_
  rw [((Eq.trans (vm_up_k2 _ 152 26 _ 28 (by decide)) (Eq.trans (vm_up_k2 _ 152 26 _ 28 (by decide)) (vm_up_h _ 152 28 _))) : (vm_up (vm_up (vm_up I 152 28 (vr_pc (I 165) n p).1.2) 152 26 (nI (vr_pc (I 165) n p).2)) 152 26 (nI ((vr_pc (I 165) n p).2 + 1))) 152 28 = (vr_pc (I 165) n p).1.2)]
  refine vm_J.go vm_q224 (k := 5) (hs := [(0, 12, []), vm_shR, vm_shR]) (f' := (53, (0, 0), [.ref 152], [.int ((vm_up (vm_up (vm_up (vm_up I 152 28 (vr_pc (I 165) n p).1.2) 152 26 (nI (vr_pc (I 165) n p).2)) 152 26 (nI ((vr_pc (I 165) n p).2 + 1))) 167 ((nI k).toNatClampNeg) ((vr_pc (I 165) n p).1.2)) 152 27), .ref 168])) (h' := (G, (vm_up (vm_up (vm_up (vm_up I 152 28 (vr_pc (I 165) n p).1.2) 152 26 (nI (vr_pc (I 165) n p).2)) 152 26 (nI ((vr_pc (I 165) n p).2 + 1))) 167 ((nI k).toNatClampNeg) ((vr_pc (I 165) n p).1.2)), F)) (hs' := []) rfl (vm_b2 (vm_b2 (vm_hG hR.c167) (vm_in_e (j := k) (n := 12) rfl (by omega) (by omega))) (vm_b2 rfl (vm_b2 (vm_b2 (vm_hG hR.c152) rfl) (vm_b2 rfl (vm_b2 (vm_b2 (vm_hG hR.c152) rfl) rfl))))) ?_
  rw [vm_ix_e (j := k) rfl (by omega)]
  rw [((Eq.trans (congrFun (vm_up_f _ 167 _ _ 152 (by decide)) 27) (Eq.trans (vm_up_k2 _ 152 26 _ 27 (by decide)) (Eq.trans (vm_up_k2 _ 152 26 _ 27 (by decide)) (Eq.trans (vm_up_k2 _ 152 28 _ 27 (by decide)) hk)))) : (vm_up (vm_up (vm_up (vm_up I 152 28 (vr_pc (I 165) n p).1.2) 152 26 (nI (vr_pc (I 165) n p).2)) 152 26 (nI ((vr_pc (I 165) n p).2 + 1))) 167 (k) ((vr_pc (I 165) n p).1.2)) 152 27 = nI k)]
  refine vm_J.go vm_q224 (k := 1) (hs := []) (f' := (54, (0, 0), [.ref 152], [.ref 152, .int (nI k), .ref 168])) (h' := (G, (vm_up (vm_up (vm_up (vm_up I 152 28 (vr_pc (I 165) n p).1.2) 152 26 (nI (vr_pc (I 165) n p).2)) 152 26 (nI ((vr_pc (I 165) n p).2 + 1))) 167 (k) ((vr_pc (I 165) n p).1.2)), F)) (hs' := []) rfl rfl ?_
  refine vm_J.call vm_q224 (Z := vm_M220) (n := 0) (k := 0) (mi := 220) (pc := 54) (en := (54, .invokevirtual 276, 3, [220, 1512, 0], .null)) rfl trivial rfl rfl vm_z220 (av := [.ref 152]) (rest := [.int (nI k), .ref 168]) (r_sign (n := n) (p := (vr_pc (I 165) n p).2 + 1) hR (Eq.trans (congrFun (vm_up_f _ 167 _ _ 152 (by decide)) 25) (Eq.trans (vm_up_k2 _ 152 26 _ 25 (by decide)) (Eq.trans (vm_up_k2 _ 152 26 _ 25 (by decide)) (Eq.trans (vm_up_k2 _ 152 28 _ 25 (by decide)) hn)))) (Eq.trans (congrFun (vm_up_f _ 167 _ _ 152 (by decide)) 26) (vm_up_h _ 152 26 _)) (by omega) (by omega)) ⟨_, _, rfl, rfl, _, 11, _, hR.c152, rfl, rfl, rfl⟩ (Nat.le_of_ble_eq_true rfl) ⟨Nat.le_of_ble_eq_true rfl, Nat.le_of_ble_eq_true rfl⟩ ⟨Nat.le_of_ble_eq_true rfl, Nat.le_of_ble_eq_true rfl⟩ ?_
  rw [((Eq.trans (vm_up_f _ 167 _ _ 165 (by decide)) (Eq.trans (vm_up_f _ 152 _ _ 165 (by decide)) (Eq.trans (vm_up_f _ 152 _ _ 165 (by decide)) (vm_up_f _ 152 _ _ 165 (by decide))))) : (vm_up (vm_up (vm_up (vm_up I 152 28 (vr_pc (I 165) n p).1.2) 152 26 (nI (vr_pc (I 165) n p).2)) 152 26 (nI ((vr_pc (I 165) n p).2 + 1))) 167 (k) ((vr_pc (I 165) n p).1.2)) 165 = I 165)]
  show vm_J _ _ _ (57, (0, 0), [.ref 152], [.int (sp_sg (I 165) n ((vr_pc (I 165) n p).2 + 1)), .int (nI k), .ref 168]) (G, (vm_up (vm_up (vm_up (vm_up I 152 28 (vr_pc (I 165) n p).1.2) 152 26 (nI (vr_pc (I 165) n p).2)) 152 26 (nI ((vr_pc (I 165) n p).2 + 1))) 167 (k) ((vr_pc (I 165) n p).1.2)), F) _ _
  refine vm_J.go vm_q224 (k := 6) (hs := [(0, 12, []), vm_shR]) (f' := (66, (0, 0), [.ref 152], [.int ((vm_up (vm_up (vm_up (vm_up (vm_up I 152 28 (vr_pc (I 165) n p).1.2) 152 26 (nI (vr_pc (I 165) n p).2)) 152 26 (nI ((vr_pc (I 165) n p).2 + 1))) 167 (k) ((vr_pc (I 165) n p).1.2)) 168 ((nI k).toNatClampNeg) ((sp_sg (I 165) n ((vr_pc (I 165) n p).2 + 1)) - 48)) 152 26), .ref 152])) (h' := (G, (vm_up (vm_up (vm_up (vm_up (vm_up I 152 28 (vr_pc (I 165) n p).1.2) 152 26 (nI (vr_pc (I 165) n p).2)) 152 26 (nI ((vr_pc (I 165) n p).2 + 1))) 167 (k) ((vr_pc (I 165) n p).1.2)) 168 ((nI k).toNatClampNeg) ((sp_sg (I 165) n ((vr_pc (I 165) n p).2 + 1)) - 48)), F)) (hs' := []) rfl (vm_b2 rfl (vm_b2 rfl (vm_b2 (vm_b2 (vm_hG hR.c168) (vm_in_e (j := k) (n := 12) rfl (by omega) (by omega))) (vm_b2 rfl (vm_b2 rfl (vm_b2 (vm_b2 (vm_hG hR.c152) rfl) rfl)))))) ?_
  rw [vm_ix_e (j := k) rfl (by omega)]
  rw [((Eq.trans (congrFun (vm_up_f _ 168 _ _ 152 (by decide)) 26) (Eq.trans (congrFun (vm_up_f _ 167 _ _ 152 (by decide)) 26) (vm_up_h _ 152 26 _))) : (vm_up (vm_up (vm_up (vm_up (vm_up I 152 28 (vr_pc (I 165) n p).1.2) 152 26 (nI (vr_pc (I 165) n p).2)) 152 26 (nI ((vr_pc (I 165) n p).2 + 1))) 167 (k) ((vr_pc (I 165) n p).1.2)) 168 (k) ((sp_sg (I 165) n ((vr_pc (I 165) n p).2 + 1)) - 48)) 152 26 = nI ((vr_pc (I 165) n p).2 + 1))]
  refine vm_J.go vm_q224 (k := 2) (hs := []) (f' := (68, (0, 0), [.ref 152], [.int ((nI ((vr_pc (I 165) n p).2 + 1)) + 1), .ref 152])) (h' := (G, (vm_up (vm_up (vm_up (vm_up (vm_up I 152 28 (vr_pc (I 165) n p).1.2) 152 26 (nI (vr_pc (I 165) n p).2)) 152 26 (nI ((vr_pc (I 165) n p).2 + 1))) 167 (k) ((vr_pc (I 165) n p).1.2)) 168 (k) ((sp_sg (I 165) n ((vr_pc (I 165) n p).2 + 1)) - 48)), F)) (hs' := []) rfl rfl ?_
  rw [((vm_pa (rfl : (nI ((vr_pc (I 165) n p).2 + 1) : Int32) = nI ((vr_pc (I 165) n p).2 + 1)) (rfl : (1 : Int32) = nI 1)) : (nI ((vr_pc (I 165) n p).2 + 1)) + 1 = nI (((vr_pc (I 165) n p).2 + 1) + 1))]
  refine vm_J.go vm_q224 (k := 2) (hs := [vm_shR]) (f' := (72, (0, 0), [.ref 152], [.int 1])) (h' := (G, (vm_up (vm_up (vm_up (vm_up (vm_up (vm_up I 152 28 (vr_pc (I 165) n p).1.2) 152 26 (nI (vr_pc (I 165) n p).2)) 152 26 (nI ((vr_pc (I 165) n p).2 + 1))) 167 (k) ((vr_pc (I 165) n p).1.2)) 168 (k) ((sp_sg (I 165) n ((vr_pc (I 165) n p).2 + 1)) - 48)) 152 26 (nI (((vr_pc (I 165) n p).2 + 1) + 1))), F)) (hs' := []) rfl (vm_b2 (vm_b2 (vm_b2 (vm_hG hR.c152) rfl) rfl) (vm_b2 rfl rfl)) ?_
  exact vm_J.end vm_q224 (en := (72, .ireturn, 1, [], .null)) rfl rfl vm_rZ1 (Nat.zero_le _) (Nat.zero_le _) rfl
