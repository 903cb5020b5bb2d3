/-- a screen's number; what a pixel's channel takes of it; what is wanted there, held -/
def sp_zn (k a b : Nat) : Int32 := match k with
  | 0 => vm_sV 16 (0 + 2 * (b % 2) + a % 2)
  | 1 => vm_sV 16 (4 + 4 * (b % 4) + a % 4)
  | _ => vm_sV 16 (20 + 3 * (b % 3) + a % 3)
def sp_sM (k c i j : Nat) : Int32 := match c with
  | 0 => sp_zn k i j
  | 1 => sp_zn k j i
  | _ => match k with
    | 0 => 3 - sp_zn k i j
    | 1 => 15 - sp_zn k i j
    | _ => 8 - sp_zn k i j
def sp_sm (k fl c i j : Nat) : Int32 := match fl with
  | 0 => sp_zn k i j
  | _ => sp_sM k c i j
def sp_sA (k : Nat) : Nat := match k with
  | 0 => 2 * 2
  | 1 => 4 * 4
  | _ => 3 * 3
def sp_sw (cl : Int32) (k fl i j g c : Nat) : UInt32 := sp_hl (FP.fadd (FP.i2f (sp_ch cl (nI c))) (FP.fmul (FP.i2f (nI g)) (FP.fsub (FP.fdiv (FP.fadd (FP.i2f (sp_sm k fl c i j)) 1056964608) (FP.i2f (nI (sp_sA k)))) 1056964608)))
theorem r_scpix {l : Launch} {X : vm_Cx} {G : List vm_Sh} {I : Nat → Nat → Int32} {F : Nat → Nat → UInt32} {p n s w i j g k fl : Nat} {m : Int32} (hR : vm_isR G) (hn : I 156 p = nI n) (hp : p < 4) (hn0 : 0 < n) (hn2 : n ≤ 16) (hs : I 152 40 = nI s) (hs2 : s < 2) (hw : I 173 s = nI w) (hw2 : w ≤ 12) (hix : w * j + i < 144) (ha : i ≤ 12) (hb : j ≤ 12) (hg : I 152 9 = nI g) (hg2 : g ≤ 63) (hk : I 152 8 = nI k) (hk2 : k < 3) (hfl : fl < 2) (hz : I 152 6 = m) (hm : m = 0 ∨ m = 1 ∨ m = 2 ∨ m = 3) : vm_K l X vm_M249 [.ref 152, .int (nI p), .int (nI i), .int (nI j), .int (nI fl)] (G, I, F) none (G, rv_fd I p n s (w * j + i) m (sp_lk (sp_sw (I 176 (144 * s + (w * j + i))) k fl i j g)), F) := by
  have e : (64 * 0 : Int32) = 0 := by decide
  match k, fl, hk2, hfl, hk with
  | 0, 0, _, _, hk =>
    have q := r_screensPixel_0_0 (l := l) (X := X) (G := G) (I := I) (F := F) hR hn hp hn0 hn2 hs hs2 hw hw2 hix ha hb hg hg2 hk hz hm
    rw [e] at q
    exact q
  | 0, 1, _, _, hk =>
    have q := r_screensPixel_0_1 (l := l) (X := X) (G := G) (I := I) (F := F) hR hn hp hn0 hn2 hs hs2 hw hw2 hix ha hb hg hg2 hk hz hm
    rw [e] at q
    exact q
  | 1, 0, _, _, hk =>
    have q := r_screensPixel_1_0 (l := l) (X := X) (G := G) (I := I) (F := F) hR hn hp hn0 hn2 hs hs2 hw hw2 hix ha hb hg hg2 hk hz hm
    rw [e] at q
    exact q
  | 1, 1, _, _, hk =>
    have q := r_screensPixel_1_1 (l := l) (X := X) (G := G) (I := I) (F := F) hR hn hp hn0 hn2 hs hs2 hw hw2 hix ha hb hg hg2 hk hz hm
    rw [e] at q
    exact q
  | 2, 0, _, _, hk =>
    have q := r_screensPixel_2_0 (l := l) (X := X) (G := G) (I := I) (F := F) hR hn hp hn0 hn2 hs hs2 hw hw2 hix ha hb hg hg2 hk hz hm
    rw [e] at q
    exact q
  | 2, 1, _, _, hk =>
    have q := r_screensPixel_2_1 (l := l) (X := X) (G := G) (I := I) (F := F) hR hn hp hn0 hn2 hs hs2 hw hw2 hix ha hb hg hg2 hk hz hm
    rw [e] at q
    exact q
/-- a row of pixels by a screen, some rows -/
def rv_sr (I : Nat → Nat → Int32) (p n s w y g k fl : Nat) (m : Int32) : Nat → Nat → Nat → Int32
  | 0 => I
  | i + 1 => rv_fd (rv_sr I p n s w y g k fl m i) p n s (w * y + i) m (sp_lk (sp_sw (I 176 (144 * s + (w * y + i))) k fl i y g))
def rv_ss (I : Nat → Nat → Int32) (p n s w g k fl : Nat) (m : Int32) : Nat → Nat → Nat → Int32
  | 0 => I
  | y + 1 => rv_sr (rv_ss I p n s w g k fl m y) p n s w y g k fl m w
theorem rv_sr_o (I : Nat → Nat → Int32) (p n s w y g k fl : Nat) (m : Int32) (a : Nat) (h1 : a ≠ 177) (h2 : a ≠ 178) : ∀ i, rv_sr I p n s w y g k fl m i a = I a
  | 0 => rfl
  | i + 1 => (rv_fd_o _ _ _ _ _ _ _ a h1 h2).trans (rv_sr_o I p n s w y g k fl m a h1 h2 i)
theorem rv_ss_o (I : Nat → Nat → Int32) (p n s w g k fl : Nat) (m : Int32) (a : Nat) (h1 : a ≠ 177) (h2 : a ≠ 178) : ∀ y, rv_ss I p n s w g k fl m y a = I a
  | 0 => rfl
  | y + 1 => (rv_sr_o _ _ _ _ _ _ _ _ _ _ a h1 h2 _).trans (rv_ss_o I p n s w g k fl m a h1 h2 y)
set_option maxHeartbeats 4000000 in
set_option maxRecDepth 20000 in
/-- DitherDeskModel.screens -/
theorem r_screens {l : Launch} {X : vm_Cx} {G : List vm_Sh} {I : Nat → Nat → Int32} {F : Nat → Nat → UInt32} {p : Nat} {n : Nat} {s : Nat} {w : Nat} {h : Nat} {g : Nat} {k : Nat} {fl : Nat} {m : Int32} (hR : vm_isR G) (hn : I 156 p = nI n) (hp : p < 4) (hn0 : 0 < n) (hn2 : n ≤ 16) (hs : I 152 40 = nI s) (hs2 : s < 2) (hw : I 173 s = nI w) (hh : I 174 s = nI h) (hw2 : w ≤ 12) (hh2 : h ≤ 12) (hg : I 152 9 = nI g) (hg2 : g ≤ 63) (hk : I 152 8 = nI k) (hk2 : k < 3) (hfl : fl < 2) (hz : I 152 6 = m) (hm : m = 0 ∨ m = 1 ∨ m = 2 ∨ m = 3) : vm_K l X vm_M250 [.ref 152, .int (nI p), .int (nI fl)] (G, I, F) (none) (G, (rv_ss I p n s w g k fl m h), F) := by
  refine vm_K.mk (by decide) (Nat.le_of_ble_eq_true rfl) ?_
  have hwh := vm_mul144 hw2 hh2
  show vm_J _ _ _ (0, (0, 0), [.ref 152, .int (nI p), .int (nI fl), .retAddr 0, .retAddr 0], []) _ _ _
  refine vm_J.go vm_q250 (k := 2) (hs := []) (f' := (2, (0, 0), [.ref 152, .int (nI p), .int (nI fl), .int 0, .retAddr 0], [])) (h' := (G, I, F)) (hs' := []) rfl rfl ?_
  refine vm_J.cnt h (fun j => (2, (0, 0), [.ref 152, .int (nI p), .int (nI fl), .int (nI j), .retAddr 0], [])) (fun j => (G, (rv_ss I p n s w g k fl m j), F)) (fun _ => True) rfl rfl trivial (fun j hj pj ij => ?_) (fun pj => ?_)
  · show vm_J _ _ _ (2, (0, 0), [.ref 152, .int (nI p), .int (nI fl), .int (nI j), .retAddr 0], []) (G, (rv_ss I p n s w g k fl m j), F) _ _
    refine vm_J.go vm_q250 (k := 5) (hs := [vm_shR, vm_shR]) (f' := (11, (0, 0), [.ref 152, .int (nI p), .int (nI fl), .int (nI j), .retAddr 0], [.int ((rv_ss I p n s w g k fl m j) 152 40), .ref 174, .int (nI j)])) (h' := (G, (rv_ss I p n s w g k fl m j), F)) (hs' := []) rfl (vm_b2 rfl (vm_b2 rfl (vm_b2 (vm_b2 (vm_hG hR.c152) rfl) (vm_b2 rfl (vm_b2 (vm_b2 (vm_hG hR.c152) rfl) rfl))))) ?_
    rw [((Eq.trans (congrFun (rv_ss_o _ _ _ _ _ _ _ _ _ 152 (by decide) (by decide) _) 40) hs) : (rv_ss I p n s w g k fl m j) 152 40 = nI s)]
    refine vm_J.go vm_q250 (k := 1) (hs := [(0, 2, [])]) (f' := (12, (0, 0), [.ref 152, .int (nI p), .int (nI fl), .int (nI j), .retAddr 0], [.int ((rv_ss I p n s w g k fl m j) 174 (nI s).toNatClampNeg), .int (nI j)])) (h' := (G, (rv_ss I p n s w g k fl m j), F)) (hs' := []) rfl (vm_b2 (vm_b2 (vm_hG hR.c174) (vm_in_e (j := s) (n := 2) rfl (by omega) (by omega))) rfl) ?_
    rw [vm_ix_e (j := s) rfl (by omega)]
    rw [((Eq.trans (congrFun (rv_ss_o _ _ _ _ _ _ _ _ _ 174 (by decide) (by decide) _) s) hh) : (rv_ss I p n s w g k fl m j) 174 s = nI h)]
    refine vm_J.go vm_q250 (k := 1) (hs := []) (f' := (bif vm_ic .ge (nI j) (nI h) then 53 else 15, (0, 0), [.ref 152, .int (nI p), .int (nI fl), .int (nI j), .retAddr 0], [])) (h' := (G, (rv_ss I p n s w g k fl m j), F)) (hs' := []) rfl rfl ?_
    refine vm_J.br (fun c1 => ?_) (fun c1 => ?_)
    · have c1 := vm_ge_t (a := j) (b := h) (by omega) (by omega) c1
      exact (show False by omega).elim
    · have c1 := vm_ge_f (a := j) (b := h) (by omega) (by omega) c1
      refine vm_J.go vm_q250 (k := 2) (hs := []) (f' := (18, (0, 0), [.ref 152, .int (nI p), .int (nI fl), .int (nI j), .int 0], [])) (h' := (G, (rv_ss I p n s w g k fl m j), F)) (hs' := []) rfl rfl ?_
      refine vm_J.cnt w (fun i => (18, (0, 0), [.ref 152, .int (nI p), .int (nI fl), .int (nI j), .int (nI i)], [])) (fun i => (G, (rv_sr (rv_ss I p n s w g k fl m j) p n s w j g k fl m i), F)) (fun _ => True) rfl rfl trivial (fun i hi pi ii => ?_) (fun pi => ?_)
      · show vm_J _ _ _ (18, (0, 0), [.ref 152, .int (nI p), .int (nI fl), .int (nI j), .int (nI i)], []) (G, (rv_sr (rv_ss I p n s w g k fl m j) p n s w j g k fl m i), F) _ _
        refine vm_J.go vm_q250 (k := 5) (hs := [vm_shR, vm_shR]) (f' := (28, (0, 0), [.ref 152, .int (nI p), .int (nI fl), .int (nI j), .int (nI i)], [.int ((rv_sr (rv_ss I p n s w g k fl m j) p n s w j g k fl m i) 152 40), .ref 173, .int (nI i)])) (h' := (G, (rv_sr (rv_ss I p n s w g k fl m j) p n s w j g k fl m i), F)) (hs' := []) rfl (vm_b2 rfl (vm_b2 rfl (vm_b2 (vm_b2 (vm_hG hR.c152) rfl) (vm_b2 rfl (vm_b2 (vm_b2 (vm_hG hR.c152) rfl) rfl))))) ?_
        rw [((Eq.trans (congrFun (rv_sr_o _ _ _ _ _ _ _ _ _ _ 152 (by decide) (by decide) _) 40) (Eq.trans (congrFun (rv_ss_o _ _ _ _ _ _ _ _ _ 152 (by decide) (by decide) _) 40) hs)) : (rv_sr (rv_ss I p n s w g k fl m j) p n s w j g k fl m i) 152 40 = nI s)]
        refine vm_J.go vm_q250 (k := 1) (hs := [(0, 2, [])]) (f' := (29, (0, 0), [.ref 152, .int (nI p), .int (nI fl), .int (nI j), .int (nI i)], [.int ((rv_sr (rv_ss I p n s w g k fl m j) p n s w j g k fl m i) 173 (nI s).toNatClampNeg), .int (nI i)])) (h' := (G, (rv_sr (rv_ss I p n s w g k fl m j) p n s w j g k fl m i), F)) (hs' := []) rfl (vm_b2 (vm_b2 (vm_hG hR.c173) (vm_in_e (j := s) (n := 2) rfl (by omega) (by omega))) rfl) ?_
        rw [vm_ix_e (j := s) rfl (by omega)]
        rw [((Eq.trans (congrFun (rv_sr_o _ _ _ _ _ _ _ _ _ _ 173 (by decide) (by decide) _) s) (Eq.trans (congrFun (rv_ss_o _ _ _ _ _ _ _ _ _ 173 (by decide) (by decide) _) s) hw)) : (rv_sr (rv_ss I p n s w g k fl m j) p n s w j g k fl m i) 173 s = nI w)]
        refine vm_J.go vm_q250 (k := 1) (hs := []) (f' := (bif vm_ic .ge (nI i) (nI w) then 47 else 32, (0, 0), [.ref 152, .int (nI p), .int (nI fl), .int (nI j), .int (nI i)], [])) (h' := (G, (rv_sr (rv_ss I p n s w g k fl m j) p n s w j g k fl m i), F)) (hs' := []) rfl rfl ?_
        refine vm_J.br (fun c2 => ?_) (fun c2 => ?_)
        · have c2 := vm_ge_t (a := i) (b := w) (by omega) (by omega) c2
          exact (show False by omega).elim
        · have c2 := vm_ge_f (a := i) (b := w) (by omega) (by omega) c2
          refine vm_J.go vm_q250 (k := 5) (hs := []) (f' := (38, (0, 0), [.ref 152, .int (nI p), .int (nI fl), .int (nI j), .int (nI i)], [.int (nI fl), .int (nI j), .int (nI i), .int (nI p), .ref 152])) (h' := (G, (rv_sr (rv_ss I p n s w g k fl m j) p n s w j g k fl m i), F)) (hs' := []) rfl rfl ?_
          refine vm_J.call vm_q250 (Z := vm_M249) (n := 4) (k := 0) (mi := 249) (pc := 38) (en := (38, .invokevirtual 392, 3, [249, 1630, 0], .null)) rfl trivial rfl rfl vm_z249 (av := [.ref 152, .int (nI p), .int (nI i), .int (nI j), .int (nI fl)]) (rest := []) (r_scpix (I := (rv_sr (rv_ss I p n s w g k fl m j) p n s w j g k fl m i)) (F := F) (p := p) (n := n) (s := s) (w := w) (i := i) (j := j) (g := g) (k := k) (fl := fl) (m := m) hR (Eq.trans (congrFun (rv_sr_o _ _ _ _ _ _ _ _ _ _ 156 (by decide) (by decide) _) p) (Eq.trans (congrFun (rv_ss_o _ _ _ _ _ _ _ _ _ 156 (by decide) (by decide) _) p) hn)) hp hn0 hn2 (Eq.trans (congrFun (rv_sr_o _ _ _ _ _ _ _ _ _ _ 152 (by decide) (by decide) _) 40) (Eq.trans (congrFun (rv_ss_o _ _ _ _ _ _ _ _ _ 152 (by decide) (by decide) _) 40) hs)) hs2 (Eq.trans (congrFun (rv_sr_o _ _ _ _ _ _ _ _ _ _ 173 (by decide) (by decide) _) s) (Eq.trans (congrFun (rv_ss_o _ _ _ _ _ _ _ _ _ 173 (by decide) (by decide) _) s) hw)) hw2 (by have := vm_lin2 (x := i) (y := j) (w := w) (h := h) (by omega) (by omega); omega) (by omega) (by omega) (Eq.trans (congrFun (rv_sr_o _ _ _ _ _ _ _ _ _ _ 152 (by decide) (by decide) _) 9) (Eq.trans (congrFun (rv_ss_o _ _ _ _ _ _ _ _ _ 152 (by decide) (by decide) _) 9) hg)) hg2 (Eq.trans (congrFun (rv_sr_o _ _ _ _ _ _ _ _ _ _ 152 (by decide) (by decide) _) 8) (Eq.trans (congrFun (rv_ss_o _ _ _ _ _ _ _ _ _ 152 (by decide) (by decide) _) 8) hk)) hk2 hfl (Eq.trans (congrFun (rv_sr_o _ _ _ _ _ _ _ _ _ _ 152 (by decide) (by decide) _) 6) (Eq.trans (congrFun (rv_ss_o _ _ _ _ _ _ _ _ _ 152 (by decide) (by decide) _) 6) hz)) hm) ⟨_, _, rfl, rfl, _, 11, _, hR.c152, rfl, rfl, rfl⟩ (Nat.le_of_ble_eq_true rfl) ⟨Nat.le_of_ble_eq_true rfl, Nat.le_of_ble_eq_true rfl⟩ ⟨Nat.le_of_ble_eq_true rfl, Nat.le_of_ble_eq_true rfl⟩ ?_
          show vm_J _ _ _ (41, (0, 0), [.ref 152, .int (nI p), .int (nI fl), .int (nI j), .int (nI i)], []) (G, (rv_fd (rv_sr (rv_ss I p n s w g k fl m j) p n s w j g k fl m i) p n s (w * j + i) m (sp_lk (sp_sw ((rv_sr (rv_ss I p n s w g k fl m j) p n s w j g k fl m i) 176 (144 * s + (w * j + i))) k fl i j g))), F) _ _
          refine vm_J.go vm_q250 (k := 2) (hs := []) (f' := (18, (0, 0), [.ref 152, .int (nI p), .int (nI fl), .int (nI j), .int ((nI i) + 1)], [])) (h' := (G, (rv_fd (rv_sr (rv_ss I p n s w g k fl m j) p n s w j g k fl m i) p n s (w * j + i) m (sp_lk (sp_sw ((rv_sr (rv_ss I p n s w g k fl m j) p n s w j g k fl m i) 176 (144 * s + (w * j + i))) k fl i j g))), F)) (hs' := []) rfl rfl ?_
          rw [((vm_pa (rfl : nI i = nI i) (rfl : (1 : Int32) = nI 1)) : (nI i) + 1 = nI (i + 1))]
          rw [show (rv_sr (rv_ss I p n s w g k fl m j) p n s w j g k fl m i) 176 = (rv_ss I p n s w g k fl m j) 176 from rv_sr_o _ _ _ _ _ _ _ _ _ _ _ (by decide) (by decide) _]
          exact ii trivial
      · show vm_J _ _ _ (18, (0, 0), [.ref 152, .int (nI p), .int (nI fl), .int (nI j), .int (nI w)], []) (G, (rv_sr (rv_ss I p n s w g k fl m j) p n s w j g k fl m w), F) _ _
        refine vm_J.go vm_q250 (k := 5) (hs := [vm_shR, vm_shR]) (f' := (28, (0, 0), [.ref 152, .int (nI p), .int (nI fl), .int (nI j), .int (nI w)], [.int ((rv_sr (rv_ss I p n s w g k fl m j) p n s w j g k fl m w) 152 40), .ref 173, .int (nI w)])) (h' := (G, (rv_sr (rv_ss I p n s w g k fl m j) p n s w j g k fl m w), F)) (hs' := []) rfl (vm_b2 rfl (vm_b2 rfl (vm_b2 (vm_b2 (vm_hG hR.c152) rfl) (vm_b2 rfl (vm_b2 (vm_b2 (vm_hG hR.c152) rfl) rfl))))) ?_
        rw [((Eq.trans (congrFun (rv_sr_o _ _ _ _ _ _ _ _ _ _ 152 (by decide) (by decide) _) 40) (Eq.trans (congrFun (rv_ss_o _ _ _ _ _ _ _ _ _ 152 (by decide) (by decide) _) 40) hs)) : (rv_sr (rv_ss I p n s w g k fl m j) p n s w j g k fl m w) 152 40 = nI s)]
        refine vm_J.go vm_q250 (k := 1) (hs := [(0, 2, [])]) (f' := (29, (0, 0), [.ref 152, .int (nI p), .int (nI fl), .int (nI j), .int (nI w)], [.int ((rv_sr (rv_ss I p n s w g k fl m j) p n s w j g k fl m w) 173 (nI s).toNatClampNeg), .int (nI w)])) (h' := (G, (rv_sr (rv_ss I p n s w g k fl m j) p n s w j g k fl m w), F)) (hs' := []) rfl (vm_b2 (vm_b2 (vm_hG hR.c173) (vm_in_e (j := s) (n := 2) rfl (by omega) (by omega))) rfl) ?_
        rw [vm_ix_e (j := s) rfl (by omega)]
        rw [((Eq.trans (congrFun (rv_sr_o _ _ _ _ _ _ _ _ _ _ 173 (by decide) (by decide) _) s) (Eq.trans (congrFun (rv_ss_o _ _ _ _ _ _ _ _ _ 173 (by decide) (by decide) _) s) hw)) : (rv_sr (rv_ss I p n s w g k fl m j) p n s w j g k fl m w) 173 s = nI w)]
        refine vm_J.go vm_q250 (k := 1) (hs := []) (f' := (bif vm_ic .ge (nI w) (nI w) then 47 else 32, (0, 0), [.ref 152, .int (nI p), .int (nI fl), .int (nI j), .int (nI w)], [])) (h' := (G, (rv_sr (rv_ss I p n s w g k fl m j) p n s w j g k fl m w), F)) (hs' := []) rfl rfl ?_
        refine vm_J.br (fun c3 => ?_) (fun c3 => ?_)
        · have c3 := vm_ge_t (a := w) (b := w) (by omega) (by omega) c3
          refine vm_J.go vm_q250 (k := 2) (hs := []) (f' := (2, (0, 0), [.ref 152, .int (nI p), .int (nI fl), .int ((nI j) + 1), .int (nI w)], [])) (h' := (G, (rv_sr (rv_ss I p n s w g k fl m j) p n s w j g k fl m w), F)) (hs' := []) rfl rfl ?_
          rw [((vm_pa (rfl : nI j = nI j) (rfl : (1 : Int32) = nI 1)) : (nI j) + 1 = nI (j + 1))]
          refine vm_J.mask [true, true, true, true, false] ?_
          show vm_J _ _ _ (2, (0, 0), [.ref 152, .int (nI p), .int (nI fl), .int (nI (j + 1)), .retAddr 0], []) (G, (rv_sr (rv_ss I p n s w g k fl m j) p n s w j g k fl m w), F) _ _
          exact ij trivial
        · have c3 := vm_ge_f (a := w) (b := w) (by omega) (by omega) c3
          exact (show False by omega).elim
  · show vm_J _ _ _ (2, (0, 0), [.ref 152, .int (nI p), .int (nI fl), .int (nI h), .retAddr 0], []) (G, (rv_ss I p n s w g k fl m h), F) _ _
    refine vm_J.go vm_q250 (k := 5) (hs := [vm_shR, vm_shR]) (f' := (11, (0, 0), [.ref 152, .int (nI p), .int (nI fl), .int (nI h), .retAddr 0], [.int ((rv_ss I p n s w g k fl m h) 152 40), .ref 174, .int (nI h)])) (h' := (G, (rv_ss I p n s w g k fl m h), F)) (hs' := []) rfl (vm_b2 rfl (vm_b2 rfl (vm_b2 (vm_b2 (vm_hG hR.c152) rfl) (vm_b2 rfl (vm_b2 (vm_b2 (vm_hG hR.c152) rfl) rfl))))) ?_
    rw [((Eq.trans (congrFun (rv_ss_o _ _ _ _ _ _ _ _ _ 152 (by decide) (by decide) _) 40) hs) : (rv_ss I p n s w g k fl m h) 152 40 = nI s)]
    refine vm_J.go vm_q250 (k := 1) (hs := [(0, 2, [])]) (f' := (12, (0, 0), [.ref 152, .int (nI p), .int (nI fl), .int (nI h), .retAddr 0], [.int ((rv_ss I p n s w g k fl m h) 174 (nI s).toNatClampNeg), .int (nI h)])) (h' := (G, (rv_ss I p n s w g k fl m h), F)) (hs' := []) rfl (vm_b2 (vm_b2 (vm_hG hR.c174) (vm_in_e (j := s) (n := 2) rfl (by omega) (by omega))) rfl) ?_
    rw [vm_ix_e (j := s) rfl (by omega)]
    rw [((Eq.trans (congrFun (rv_ss_o _ _ _ _ _ _ _ _ _ 174 (by decide) (by decide) _) s) hh) : (rv_ss I p n s w g k fl m h) 174 s = nI h)]
    refine vm_J.go vm_q250 (k := 1) (hs := []) (f' := (bif vm_ic .ge (nI h) (nI h) then 53 else 15, (0, 0), [.ref 152, .int (nI p), .int (nI fl), .int (nI h), .retAddr 0], [])) (h' := (G, (rv_ss I p n s w g k fl m h), F)) (hs' := []) rfl rfl ?_
    refine vm_J.br (fun c4 => ?_) (fun c4 => ?_)
    · have c4 := vm_ge_t (a := h) (b := h) (by omega) (by omega) c4
      exact vm_J.end vm_q250 (en := (53, .return_, 1, [], .null)) rfl rfl vm_rV (Nat.zero_le _) (Nat.zero_le _) rfl
    · have c4 := vm_ge_f (a := h) (b := h) (by omega) (by omega) c4
      exact (show False by omega).elim
