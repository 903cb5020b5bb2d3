theorem vm_prr_o (t : Nat → Int32) (n o b c x : Nat) (h0 : x ≠ o) (h1 : x ≠ b) (h2 : x ≠ c) : ∀ (u : Nat) (B : Nat → Nat → Int32) (p m : Nat), (vm_prr t n o b c u B p m).2 x = B x
  | 0, B, p, m => vm_up_f _ _ _ _ _ h0
  | u + 1, B, p, m => by
    have hf : ∀ m f g s lk k, vm_fil B o b c m f g s lk k x = B x := fun m f g s lk k => funext fun z => vm_fil_o B o b c m f g s lk x h0 h1 h2 z k
    unfold vm_prr
    split
    · exact vm_up_f _ _ _ _ _ h0
    · split
      · exact (vm_up_f _ _ _ _ _ h0).trans (hf _ _ _ _ _ _)
      · split
        · exact (vm_up_f _ _ _ _ _ h0).trans (hf _ _ _ _ _ _)
        · exact (vm_prr_o t n o b c x h0 h1 h2 u _ _ _).trans (hf _ _ _ _ _ _)
theorem vm_prr_1 (t : Nat → Int32) (n o b c : Nat) (h1 : o ≠ b) (h2 : o ≠ c) (k : Nat) (hk2 : k ≠ 2) (hk5 : k ≠ 5) : ∀ (u : Nat) (B : Nat → Nat → Int32) (p m : Nat), (vm_prr t n o b c u B p m).2 o k = B o k
  | 0, B, p, m => vm_up_k2 _ _ _ _ _ hk2
  | u + 1, B, p, m => by
    have hf : ∀ m f g s lk j, vm_fil B o b c m f g s lk j o k = B o k := fun m f g s lk j => vm_fil_k B o b c m f g s lk h1 h2 k hk5 j
    unfold vm_prr
    split
    · exact vm_up_k2 _ _ _ _ _ hk2
    · split
      · exact (vm_up_k2 _ _ _ _ _ hk2).trans (hf _ _ _ _ _ _)
      · split
        · exact (vm_up_k2 _ _ _ _ _ hk2).trans (hf _ _ _ _ _ _)
        · exact (vm_prr_1 t n o b c h1 h2 k hk2 hk5 u _ _ _).trans (hf _ _ _ _ _ _)
/-- the class's reading of the text -/
def vc_P (I : Nat → Nat → Int32) (n : Nat) : Int32 × (Nat → Nat → Int32) := vm_prr (I 136) n 135 137 138 12 (vm_up I 135 5 0) 0 0
theorem vc_P_o (I : Nat → Nat → Int32) (n x : Nat) (h0 : x ≠ 135) (h1 : x ≠ 137) (h2 : x ≠ 138) : (vc_P I n).2 x = I x := (vm_prr_o _ _ _ _ _ _ h0 h1 h2 _ _ _ _).trans (vm_up_f _ _ _ _ _ h0)
set_option maxHeartbeats 4000000 in
set_option maxRecDepth 20000 in
/-- DitherDesk.read -/
theorem c_read_x {l : Launch} {X : vm_Cx} {G : List vm_Sh} {I : Nat → Nat → Int32} {F : Nat → Nat → UInt32} {q : Int32} (hD : vm_isD G) (hx : ¬ (0 ≤ q ∧ q ≤ 3)) : vm_K l X vm_M115 [.ref 0, .int q] (G, I, F) (some (.int (-1))) (G, I, F) := by
  refine vm_K.mk (by decide) (Nat.le_of_ble_eq_true rfl) ?_
  show vm_J _ _ _ (0, (0, 0), [.ref 0, .int q, .retAddr 0, .retAddr 0], []) _ _ _
  refine vm_J.go vm_q115 (k := 3) (hs := [(12, 9, [.ref 1, .ref 38, .ref 75, .ref 112, .ref 132, .ref 135, .ref 139, .int 0, .int 0])]) (f' := (5, (0, 0), [.ref 0, .int q, .retAddr 0, .retAddr 0], [.int q, .ref 1])) (h' := (G, I, F)) (hs' := []) rfl (vm_b2 rfl (vm_b2 (vm_b2 (vm_hG hD.d) rfl) (vm_b2 rfl rfl))) ?_
  refine vm_J.call vm_q115 (Z := vm_M93) (n := 1) (k := 0) (mi := 93) (pc := 5) (en := (5, .invokevirtual 172, 3, [93, 619, 0], .null)) rfl trivial rfl rfl vm_z93 (av := [.ref 1, .int q]) (rest := []) (m_pal_x (B := 1) (p := q) hD.w1 (vm_nx hx)) ⟨_, _, rfl, rfl, _, 9, _, hD.w1.w, rfl, rfl, rfl⟩ (Nat.le_of_ble_eq_true rfl) ⟨Nat.le_of_ble_eq_true rfl, Nat.le_of_ble_eq_true rfl⟩ ⟨Nat.le_of_ble_eq_true rfl, Nat.le_of_ble_eq_true rfl⟩ ?_
  show vm_J _ _ _ (8, (0, 0), [.ref 0, .int q, .retAddr 0, .retAddr 0], [.null]) (G, I, F) _ _
  refine vm_J.go vm_q115 (k := 4) (hs := []) (f' := (14, (0, 0), [.ref 0, .int q, .null, .retAddr 0], [.int (-1)])) (h' := (G, I, F)) (hs' := []) rfl rfl ?_
  exact vm_J.end vm_q115 (en := (14, .ireturn, 1, [], .null)) rfl rfl vm_rI (Nat.zero_le _) (Nat.zero_le _) rfl
set_option maxHeartbeats 4000000 in
set_option maxRecDepth 20000 in
/-- DitherDesk.read -/
theorem c_read_f {l : Launch} {X : vm_Cx} {G : List vm_Sh} {I : Nat → Nat → Int32} {F : Nat → Nat → UInt32} {p : Nat} {n : Nat} (hD : vm_isD G) (hp : p < 4) (ht : I 135 1 = nI n) (ht2 : n ≤ 100) (hx : (vc_P I n).1 = 0) : vm_K l X vm_M115 [.ref 0, .int (nI p)] (G, I, F) (some (.int ((-10) - (vc_P I n).2 135 2))) (G, (vm_up ((vc_P I n).2) 135 1 0), F) := by
  refine vm_K.mk (by decide) (Nat.le_of_ble_eq_true rfl) ?_
  show vm_J _ _ _ (0, (0, 0), [.ref 0, .int (nI p), .retAddr 0, .retAddr 0], []) _ _ _
  refine vm_J.go vm_q115 (k := 3) (hs := [(12, 9, [.ref 1, .ref 38, .ref 75, .ref 112, .ref 132, .ref 135, .ref 139, .int 0, .int 0])]) (f' := (5, (0, 0), [.ref 0, .int (nI p), .retAddr 0, .retAddr 0], [.int (nI p), .ref 1])) (h' := (G, I, F)) (hs' := []) rfl (vm_b2 rfl (vm_b2 (vm_b2 (vm_hG hD.d) rfl) (vm_b2 rfl rfl))) ?_
  refine vm_J.call vm_q115 (Z := vm_M93) (n := 1) (k := 0) (mi := 93) (pc := 5) (en := (5, .invokevirtual 172, 3, [93, 619, 0], .null)) rfl trivial rfl rfl vm_z93 (av := [.ref 1, .int (nI p)]) (rest := []) (m_pal_n (B := 1) (p := p) hD.w1 (by omega)) ⟨_, _, rfl, rfl, _, 9, _, hD.w1.w, rfl, rfl, rfl⟩ (Nat.le_of_ble_eq_true rfl) ⟨Nat.le_of_ble_eq_true rfl, Nat.le_of_ble_eq_true rfl⟩ ⟨Nat.le_of_ble_eq_true rfl, Nat.le_of_ble_eq_true rfl⟩ ?_
  show vm_J _ _ _ (8, (0, 0), [.ref 0, .int (nI p), .retAddr 0, .retAddr 0], [.ref (1 + 25 + 3 * p)]) (G, I, F) _ _
  refine vm_J.go vm_q115 (k := 5) (hs := [(12, 9, [.ref 1, .ref 38, .ref 75, .ref 112, .ref 132, .ref 135, .ref 139, .int 0, .int 0])]) (f' := (19, (0, 0), [.ref 0, .int (nI p), .ref (1 + 25 + 3 * p), .retAddr 0], [.ref 135])) (h' := (G, I, F)) (hs' := []) rfl (vm_b2 rfl (vm_b2 rfl (vm_b2 rfl (vm_b2 rfl (vm_b2 (vm_b2 (vm_hG hD.d) rfl) rfl))))) ?_
  refine vm_J.call vm_q115 (Z := vm_M48) (n := 0) (k := 0) (mi := 48) (pc := 19) (en := (19, .invokevirtual 216, 3, [48, 684, 0], .null)) rfl trivial rfl rfl vm_z48 (av := [.ref 135]) (rest := []) (show vm_K l X vm_M48 [.ref 135] (G, I, F) (some (.int 0)) (G, (vc_P I n).2, F) from by have q := (m_Rd_parse (l := l) (X := X) (F := F) (o := 135) (a := 136) (b := 137) (c := 138) (n := n) hD.rd hD.ra hD.rb hD.rc (by decide) (by decide) (by decide) (by decide) (by decide) ht (by omega)); rw [show (vm_prr (I 136) n 135 137 138 12 (vm_up I 135 5 0) 0 0).1 = 0 from hx] at q; exact q) ⟨_, _, rfl, rfl, _, 4, _, hD.rd, rfl, rfl, rfl⟩ (Nat.le_of_ble_eq_true rfl) ⟨Nat.le_of_ble_eq_true rfl, Nat.le_of_ble_eq_true rfl⟩ ⟨Nat.le_of_ble_eq_true rfl, Nat.le_of_ble_eq_true rfl⟩ ?_
  show vm_J _ _ _ (22, (0, 0), [.ref 0, .int (nI p), .ref (1 + 25 + 3 * p), .retAddr 0], [.int 0]) (G, ((vc_P I n).2), F) _ _
  refine vm_J.go vm_q115 (k := 7) (hs := [(12, 9, [.ref 1, .ref 38, .ref 75, .ref 112, .ref 132, .ref 135, .ref 139, .int 0, .int 0]), (6, 6, [.ref 136, .int 0, .int 0, .ref 137, .ref 138, .int 0])]) (f' := (bif vm_ic .eq 0 0 then 46 else 35, (0, 0), [.ref 0, .int (nI p), .ref (1 + 25 + 3 * p), .int 0], [])) (h' := (G, (vm_up ((vc_P I n).2) 135 1 0), F)) (hs' := []) rfl (vm_b2 rfl (vm_b2 rfl (vm_b2 (vm_b2 (vm_hG hD.d) rfl) (vm_b2 rfl (vm_b2 (vm_b2 (vm_b2 (vm_hG hD.rd) rfl) rfl) (vm_b2 rfl (vm_b2 rfl rfl))))))) ?_
  refine vm_J.bT (by decide) ?_
  refine vm_J.go vm_q115 (k := 4) (hs := [(12, 9, [.ref 1, .ref 38, .ref 75, .ref 112, .ref 132, .ref 135, .ref 139, .int 0, .int 0]), (6, 6, [.ref 136, .int 0, .int 0, .ref 137, .ref 138, .int 0])]) (f' := (55, (0, 0), [.ref 0, .int (nI p), .ref (1 + 25 + 3 * p), .int 0], [.int ((vm_up ((vc_P I n).2) 135 1 0) 135 2), .int (-10)])) (h' := (G, (vm_up ((vc_P I n).2) 135 1 0), F)) (hs' := []) rfl (vm_b2 rfl (vm_b2 rfl (vm_b2 (vm_b2 (vm_hG hD.d) rfl) (vm_b2 (vm_b2 (vm_hG hD.rd) rfl) rfl)))) ?_
  rw [((vm_up_k2 _ 135 1 _ 2 (by decide)) : (vm_up ((vc_P I n).2) 135 1 0) 135 2 = ((vc_P I n).2) 135 2)]
  refine vm_J.go vm_q115 (k := 1) (hs := []) (f' := (56, (0, 0), [.ref 0, .int (nI p), .ref (1 + 25 + 3 * p), .int 0], [.int ((-10) - (((vc_P I n).2) 135 2))])) (h' := (G, (vm_up ((vc_P I n).2) 135 1 0), F)) (hs' := []) rfl rfl ?_
  exact vm_J.end vm_q115 (en := (56, .ireturn, 1, [], .null)) rfl rfl vm_rI (Nat.zero_le _) (Nat.zero_le _) rfl
set_option maxHeartbeats 4000000 in
set_option maxRecDepth 20000 in
/-- DitherDesk.read -/
theorem c_read_y {l : Launch} {X : vm_Cx} {G : List vm_Sh} {I : Nat → Nat → Int32} {F : Nat → Nat → UInt32} {p : Nat} {n : Nat} {n0 : Nat} {m : Nat} (hD : vm_isD G) (hp : p < 4) (ht : I 135 1 = nI n) (ht2 : n ≤ 100) (hn : I (1 + 25 + 3 * p) 0 = nI n0) (hn2 : n0 ≤ 16) (hx : (vc_P I n).1 = 1) (hm : (vc_P I n).2 135 5 = nI m) (hm2 : m ≤ 96) : vm_K l X vm_M115 [.ref 0, .int (nI p)] (G, I, F) (some (.int (nI ((vm_gv (vm_up ((vc_P I n).2) 135 1 0) (1 + 25 + 3 * p) (1 + 26 + 3 * p) (1 + 27 + 3 * p) n0 ((vm_up ((vc_P I n).2) 135 1 0) 137) ((vm_up ((vc_P I n).2) 135 1 0) 138) m).2 - n0)))) (G, ((vm_gv (vm_up ((vc_P I n).2) 135 1 0) (1 + 25 + 3 * p) (1 + 26 + 3 * p) (1 + 27 + 3 * p) n0 ((vm_up ((vc_P I n).2) 135 1 0) 137) ((vm_up ((vc_P I n).2) 135 1 0) 138) m).1), F) := by
  refine vm_K.mk (by decide) (Nat.le_of_ble_eq_true rfl) ?_
  show vm_J _ _ _ (0, (0, 0), [.ref 0, .int (nI p), .retAddr 0, .retAddr 0], []) _ _ _
  refine vm_J.go vm_q115 (k := 3) (hs := [(12, 9, [.ref 1, .ref 38, .ref 75, .ref 112, .ref 132, .ref 135, .ref 139, .int 0, .int 0])]) (f' := (5, (0, 0), [.ref 0, .int (nI p), .retAddr 0, .retAddr 0], [.int (nI p), .ref 1])) (h' := (G, I, F)) (hs' := []) rfl (vm_b2 rfl (vm_b2 (vm_b2 (vm_hG hD.d) rfl) (vm_b2 rfl rfl))) ?_
  refine vm_J.call vm_q115 (Z := vm_M93) (n := 1) (k := 0) (mi := 93) (pc := 5) (en := (5, .invokevirtual 172, 3, [93, 619, 0], .null)) rfl trivial rfl rfl vm_z93 (av := [.ref 1, .int (nI p)]) (rest := []) (m_pal_n (B := 1) (p := p) hD.w1 (by omega)) ⟨_, _, rfl, rfl, _, 9, _, hD.w1.w, rfl, rfl, rfl⟩ (Nat.le_of_ble_eq_true rfl) ⟨Nat.le_of_ble_eq_true rfl, Nat.le_of_ble_eq_true rfl⟩ ⟨Nat.le_of_ble_eq_true rfl, Nat.le_of_ble_eq_true rfl⟩ ?_
  show vm_J _ _ _ (8, (0, 0), [.ref 0, .int (nI p), .retAddr 0, .retAddr 0], [.ref (1 + 25 + 3 * p)]) (G, I, F) _ _
  refine vm_J.go vm_q115 (k := 5) (hs := [(12, 9, [.ref 1, .ref 38, .ref 75, .ref 112, .ref 132, .ref 135, .ref 139, .int 0, .int 0])]) (f' := (19, (0, 0), [.ref 0, .int (nI p), .ref (1 + 25 + 3 * p), .retAddr 0], [.ref 135])) (h' := (G, I, F)) (hs' := []) rfl (vm_b2 rfl (vm_b2 rfl (vm_b2 rfl (vm_b2 rfl (vm_b2 (vm_b2 (vm_hG hD.d) rfl) rfl))))) ?_
  refine vm_J.call vm_q115 (Z := vm_M48) (n := 0) (k := 0) (mi := 48) (pc := 19) (en := (19, .invokevirtual 216, 3, [48, 684, 0], .null)) rfl trivial rfl rfl vm_z48 (av := [.ref 135]) (rest := []) (show vm_K l X vm_M48 [.ref 135] (G, I, F) (some (.int 1)) (G, (vc_P I n).2, F) from by have q := (m_Rd_parse (l := l) (X := X) (F := F) (o := 135) (a := 136) (b := 137) (c := 138) (n := n) hD.rd hD.ra hD.rb hD.rc (by decide) (by decide) (by decide) (by decide) (by decide) ht (by omega)); rw [show (vm_prr (I 136) n 135 137 138 12 (vm_up I 135 5 0) 0 0).1 = 1 from hx] at q; exact q) ⟨_, _, rfl, rfl, _, 4, _, hD.rd, rfl, rfl, rfl⟩ (Nat.le_of_ble_eq_true rfl) ⟨Nat.le_of_ble_eq_true rfl, Nat.le_of_ble_eq_true rfl⟩ ⟨Nat.le_of_ble_eq_true rfl, Nat.le_of_ble_eq_true rfl⟩ ?_
  show vm_J _ _ _ (22, (0, 0), [.ref 0, .int (nI p), .ref (1 + 25 + 3 * p), .retAddr 0], [.int 1]) (G, ((vc_P I n).2), F) _ _
  refine vm_J.go vm_q115 (k := 7) (hs := [(12, 9, [.ref 1, .ref 38, .ref 75, .ref 112, .ref 132, .ref 135, .ref 139, .int 0, .int 0]), (6, 6, [.ref 136, .int 0, .int 0, .ref 137, .ref 138, .int 0])]) (f' := (bif vm_ic .eq 1 0 then 46 else 35, (0, 0), [.ref 0, .int (nI p), .ref (1 + 25 + 3 * p), .int 1], [])) (h' := (G, (vm_up ((vc_P I n).2) 135 1 0), F)) (hs' := []) rfl (vm_b2 rfl (vm_b2 rfl (vm_b2 (vm_b2 (vm_hG hD.d) rfl) (vm_b2 rfl (vm_b2 (vm_b2 (vm_b2 (vm_hG hD.rd) rfl) rfl) (vm_b2 rfl (vm_b2 rfl rfl))))))) ?_
  refine vm_J.bF (by decide) ?_
  refine vm_J.go vm_q115 (k := 3) (hs := [(12, 9, [.ref 1, .ref 38, .ref 75, .ref 112, .ref 132, .ref 135, .ref 139, .int 0, .int 0])]) (f' := (40, (0, 0), [.ref 0, .int (nI p), .ref (1 + 25 + 3 * p), .int 1], [.ref (1 + 25 + 3 * p), .ref 135])) (h' := (G, (vm_up ((vc_P I n).2) 135 1 0), F)) (hs' := []) rfl (vm_b2 rfl (vm_b2 (vm_b2 (vm_hG hD.d) rfl) (vm_b2 rfl rfl))) ?_
  refine vm_J.call vm_q115 (Z := vm_M49) (n := 1) (k := 0) (mi := 49) (pc := 40) (en := (40, .invokevirtual 219, 3, [49, 714, 0], .null)) rfl trivial rfl rfl vm_z49 (av := [.ref 135, .ref (1 + 25 + 3 * p)]) (rest := []) (m_Rd_giveTo (o := 135) (a := 136) (b := 137) (c := 138) (po := 1 + 25 + 3 * p) (pa := 1 + 26 + 3 * p) (pb := 1 + 27 + 3 * p) (m := m) (n := n0) hD.rd hD.rb hD.rc (Eq.trans (vm_up_k2 _ 135 1 _ 5 (by decide)) hm) (by omega) (hD.w1.l p hp) (hD.w1.c p hp) (hD.w1.k p hp) (Eq.trans (congrFun (vm_up_f _ 135 _ _ (1 + 25 + 3 * p) (by omega)) 0) (Eq.trans (congrFun (vc_P_o _ _ (1 + 25 + 3 * p) (by omega) (by omega) (by omega)) 0) hn)) (by omega) (by omega) (by omega) (by omega) (by omega) (by omega) (by omega) (by omega) (by omega) (by omega) (by omega) (by omega) (by omega)) ⟨_, _, rfl, rfl, _, 4, _, hD.rd, rfl, rfl, rfl⟩ (Nat.le_of_ble_eq_true rfl) ⟨Nat.le_of_ble_eq_true rfl, Nat.le_of_ble_eq_true rfl⟩ ⟨Nat.le_of_ble_eq_true rfl, Nat.le_of_ble_eq_true rfl⟩ ?_
  show vm_J _ _ _ (43, (0, 0), [.ref 0, .int (nI p), .ref (1 + 25 + 3 * p), .int 1], [.int (nI ((vm_gv (vm_up ((vc_P I n).2) 135 1 0) (1 + 25 + 3 * p) (1 + 26 + 3 * p) (1 + 27 + 3 * p) n0 ((vm_up ((vc_P I n).2) 135 1 0) 137) ((vm_up ((vc_P I n).2) 135 1 0) 138) m).2 - n0))]) (G, ((vm_gv (vm_up ((vc_P I n).2) 135 1 0) (1 + 25 + 3 * p) (1 + 26 + 3 * p) (1 + 27 + 3 * p) n0 ((vm_up ((vc_P I n).2) 135 1 0) 137) ((vm_up ((vc_P I n).2) 135 1 0) 138) m).1), F) _ _
  refine vm_J.go vm_q115 (k := 1) (hs := []) (f' := (56, (0, 0), [.ref 0, .int (nI p), .ref (1 + 25 + 3 * p), .int 1], [.int (nI ((vm_gv (vm_up ((vc_P I n).2) 135 1 0) (1 + 25 + 3 * p) (1 + 26 + 3 * p) (1 + 27 + 3 * p) n0 ((vm_up ((vc_P I n).2) 135 1 0) 137) ((vm_up ((vc_P I n).2) 135 1 0) 138) m).2 - n0))])) (h' := (G, ((vm_gv (vm_up ((vc_P I n).2) 135 1 0) (1 + 25 + 3 * p) (1 + 26 + 3 * p) (1 + 27 + 3 * p) n0 ((vm_up ((vc_P I n).2) 135 1 0) 137) ((vm_up ((vc_P I n).2) 135 1 0) 138) m).1), F)) (hs' := []) rfl rfl ?_
  exact vm_J.end vm_q115 (en := (56, .ireturn, 1, [], .null)) rfl rfl vm_rI (Nat.zero_le _) (Nat.zero_le _) rfl
