/-- the ints and the floats behind a pixel, a row of pixels, some rows -/
abbrev vm_P2 : Type := (Nat → Nat → Int32) × (Nat → Nat → UInt32)
def rv_px (H : vm_P2) (p n s w h kn x y : Nat) (t m : Int32) : vm_P2 :=
  (rv_fd H.1 p n s (w * y + x) m (sp_lk (sp_h0 (H.1 176 (144 * s + (w * y + x))) (H.2 180) (w * y + x))),
   sp_qs (sp_h3 H.2 181 (sp_h0 (H.1 176 (144 * s + (w * y + x))) (H.2 180) (w * y + x))) 180 179 (3 * s) w h x y t (sp_h0 (H.1 176 (144 * s + (w * y + x))) (H.2 180) (w * y + x)) (H.1 157 (16 * p + sp_fe (fun z => H.1 157 (16 * p + z)) n m (sp_lk (sp_h0 (H.1 176 (144 * s + (w * y + x))) (H.2 180) (w * y + x))))) kn (sp_kf (kn + 1) - sp_kf kn))
def sp_zx (fl w y i : Nat) : Nat := if fl = 1 ∧ y % 2 = 1 then w - 1 - i else i
def sp_zt (fl y : Nat) : Int32 := if fl = 1 ∧ y % 2 = 1 then -1 else 1
theorem sp_zx_l {fl w y i : Nat} (h : i < w) : sp_zx fl w y i < w := by
  unfold sp_zx
  split <;> omega
def rv_rw (H : vm_P2) (p n s w h kn y : Nat) (m : Int32) (fl : Nat) : Nat → vm_P2
  | 0 => H
  | i + 1 => rv_px (rv_rw H p n s w h kn y m fl i) p n s w h kn (sp_zx fl w y i) y (sp_zt fl y) m
def rv_sd (H : vm_P2) (p n s w h kn : Nat) (m : Int32) (fl : Nat) : Nat → vm_P2
  | 0 => H
  | y + 1 => rv_rw (rv_sd H p n s w h kn m fl y) p n s w h kn y m fl w
theorem rv_px_o (H : vm_P2) (p n s w h kn x y : Nat) (t m : Int32) (a : Nat) (h1 : a ≠ 177) (h2 : a ≠ 178) : (rv_px H p n s w h kn x y t m).1 a = H.1 a := rv_fd_o _ _ _ _ _ _ _ _ h1 h2
theorem rv_rw_o (H : vm_P2) (p n s w h kn y : Nat) (m : Int32) (fl a : Nat) (h1 : a ≠ 177) (h2 : a ≠ 178) : ∀ i, (rv_rw H p n s w h kn y m fl i).1 a = H.1 a
  | 0 => rfl
  | i + 1 => (rv_px_o _ _ _ _ _ _ _ _ _ _ _ a h1 h2).trans (rv_rw_o H p n s w h kn y m fl a h1 h2 i)
theorem rv_sd_o (H : vm_P2) (p n s w h kn : Nat) (m : Int32) (fl a : Nat) (h1 : a ≠ 177) (h2 : a ≠ 178) : ∀ y, (rv_sd H p n s w h kn m fl y).1 a = H.1 a
  | 0 => rfl
  | y + 1 => (rv_rw_o _ _ _ _ _ _ _ _ _ _ a h1 h2 _).trans (rv_sd_o H p n s w h kn m fl a h1 h2 y)
theorem rv_px_p (H : vm_P2) (p n s w h kn x y : Nat) (t m : Int32) (a : Nat) (h1 : a ≠ 179) (h2 : a ≠ 180) (h3 : a ≠ 181) : (rv_px H p n s w h kn x y t m).2 a = H.2 a := (sp_qs_o _ _ _ _ _ _ _ _ _ _ _ _ _ h2 h1 _).trans (sp_h3_o _ _ _ _ h3)
theorem rv_rw_p (H : vm_P2) (p n s w h kn y : Nat) (m : Int32) (fl a : Nat) (h1 : a ≠ 179) (h2 : a ≠ 180) (h3 : a ≠ 181) : ∀ i, (rv_rw H p n s w h kn y m fl i).2 a = H.2 a
  | 0 => rfl
  | i + 1 => (rv_px_p _ _ _ _ _ _ _ _ _ _ _ a h1 h2 h3).trans (rv_rw_p H p n s w h kn y m fl a h1 h2 h3 i)
theorem rv_sd_p (H : vm_P2) (p n s w h kn : Nat) (m : Int32) (fl a : Nat) (h1 : a ≠ 179) (h2 : a ≠ 180) (h3 : a ≠ 181) : ∀ y, (rv_sd H p n s w h kn m fl y).2 a = H.2 a
  | 0 => rfl
  | y + 1 => (rv_rw_p _ _ _ _ _ _ _ _ _ _ a h1 h2 h3 _).trans (rv_sd_p H p n s w h kn m fl a h1 h2 h3 y)
theorem rv_px_ok {H : vm_P2} {p n s w h kn x y : Nat} {t m : Int32} (hk : vf_2r H.2 180 179 432 6) (hx : x < w) (hy : y < h) (hw2 : w ≤ 12) (hh2 : h ≤ 12) (hs2 : s < 2) (hkn : kn < 5) : vf_2r (rv_px H p n s w h kn x y t m).2 180 179 432 6 := by
  have hlin2 := vm_lin2 hx hy
  have hwh := vm_mul144 hw2 hh2
  refine sp_qs_ok ?_ ?_ (by omega) hw2 (by omega) (by omega) hkn _ (Nat.le_refl _)
  · exact ⟨fun i_ hi_ => by rw [sp_h3_o _ _ _ _ (by decide)]; exact hk.1 i_ hi_, fun i_ hi_ => by rw [sp_h3_o _ _ _ _ (by decide)]; exact hk.2 i_ hi_⟩
  · exact fun i_ hi_ => sp_h0_f (hk.1 _ (by omega))
theorem rv_rw_ok {H : vm_P2} {p n s w h kn y : Nat} {m : Int32} {fl : Nat} (hk : vf_2r H.2 180 179 432 6) (hy : y < h) (hw2 : w ≤ 12) (hh2 : h ≤ 12) (hs2 : s < 2) (hkn : kn < 5) : ∀ i, i ≤ w → vf_2r (rv_rw H p n s w h kn y m fl i).2 180 179 432 6
  | 0, _ => hk
  | i + 1, hi => rv_px_ok (rv_rw_ok hk hy hw2 hh2 hs2 hkn i (by omega)) (sp_zx_l (by omega)) hy hw2 hh2 hs2 hkn
theorem rv_sd_ok {H : vm_P2} {p n s w h kn : Nat} {m : Int32} {fl : Nat} (hk : vf_2r H.2 180 179 432 6) (hw2 : w ≤ 12) (hh2 : h ≤ 12) (hs2 : s < 2) (hkn : kn < 5) : ∀ y, y ≤ h → vf_2r (rv_sd H p n s w h kn m fl y).2 180 179 432 6
  | 0, _ => hk
  | y + 1, hy => rv_rw_ok (rv_sd_ok hk hw2 hh2 hs2 hkn y (by omega)) (by omega) hw2 hh2 hs2 hkn w (Nat.le_refl w)
theorem rv_rw_s {H : vm_P2} {p n s w h kn y : Nat} {m : Int32} {fl i x : Nat} {t : Int32} (h1 : sp_zx fl w y i = x) (h2 : sp_zt fl y = t) : rv_px (rv_rw H p n s w h kn y m fl i) p n s w h kn x y t m = rv_rw H p n s w h kn y m fl (i + 1) := by
  rw [← h1, ← h2]
  rfl
theorem vf_zc_ok {F : Nat → Nat → UInt32} {b : Nat} (h : ∀ i, i < b → vf_ok (F 179 i)) : vf_2r (vm_zc 0 F 180 432) 180 179 432 b := by
  refine ⟨fun i hi => ?_, fun i hi => ?_⟩
  · rw [show vm_zc (0 : UInt32) F 180 432 180 i = 0 from by unfold vm_zc; rw [if_pos rfl, if_pos hi]]
    exact vf_fn_ok vf_c0
  · rw [vm_zc_f _ _ _ _ _ (by decide)]
    exact h i hi
set_option maxHeartbeats 4000000 in
set_option maxRecDepth 20000 in
/-- DitherDeskModel.spreads -/
theorem r_spreads_0 {l : Launch} {X : vm_Cx} {G : List vm_Sh} {I : Nat → Nat → Int32} {F : Nat → Nat → UInt32} {p : Nat} {n : Nat} {s : Nat} {w : Nat} {h : Nat} {kn : Nat} {m : Int32} (hR : vm_isR G) (hn : I 156 p = nI n) (hp : p < 4) (hn0 : 0 < n) (hn2 : n ≤ 16) (hs : I 152 40 = nI s) (hs2 : s < 2) (hw : I 173 s = nI w) (hh : I 174 s = nI h) (hw2 : w ≤ 12) (hh2 : h ≤ 12) (hkn : I 152 7 = nI kn) (hkn2 : kn < 5) (hlo : ∀ i_, i_ < 6 → vf_ok (F 179 i_)) (hz : I 152 6 = m) (hm : m = 0 ∨ m = 1 ∨ m = 2 ∨ m = 3) : vm_K l X vm_M246 [.ref 152, .int (nI p), .int 0] (G, I, F) (none) (G, ((rv_sd (I, (vm_zc 0 F 180 432)) p n s w h kn m 0 h).1), ((rv_sd (I, (vm_zc 0 F 180 432)) p n s w h kn m 0 h).2)) := by
  refine vm_K.mk (by decide) (Nat.le_of_ble_eq_true rfl) ?_
  have hwh := vm_mul144 hw2 hh2
  have hsd : ∀ y_, y_ ≤ h → vf_2r (rv_sd (I, (vm_zc 0 F 180 432)) p n s w h kn m 0 y_).2 180 179 432 6 := rv_sd_ok (vf_zc_ok hlo) hw2 hh2 hs2 hkn2
  show vm_J _ _ _ (0, (0, 0), [.ref 152, .int (nI p), .int 0, .retAddr 0, .retAddr 0, .retAddr 0, .retAddr 0], []) _ _ _
  refine vm_J.go vm_q246 (k := 4) (hs := [vm_shR, vm_shR]) (f' := (8, (0, 0), [.ref 152, .int (nI p), .int 0, .retAddr 0, .retAddr 0, .retAddr 0, .retAddr 0], [.int (I 152 40), .ref 173])) (h' := (G, I, F)) (hs' := []) rfl (vm_b2 rfl (vm_b2 (vm_b2 (vm_hG hR.c152) rfl) (vm_b2 rfl (vm_b2 (vm_b2 (vm_hG hR.c152) rfl) rfl)))) ?_
  rw [(hs : I 152 40 = nI s)]
  refine vm_J.go vm_q246 (k := 1) (hs := [(0, 2, [])]) (f' := (9, (0, 0), [.ref 152, .int (nI p), .int 0, .retAddr 0, .retAddr 0, .retAddr 0, .retAddr 0], [.int (I 173 (nI s).toNatClampNeg)])) (h' := (G, I, F)) (hs' := []) rfl (vm_b2 (vm_b2 (vm_hG hR.c173) (vm_in_e (j := s) (n := 2) rfl (by omega) (by omega))) rfl) ?_
  rw [vm_ix_e (j := s) rfl (by omega)]
  rw [(hw : I 173 s = nI w)]
  refine vm_J.go vm_q246 (k := 3) (hs := []) (f' := (13, (0, 0), [.ref 152, .int (nI p), .int 0, .int (nI w), .int 0, .retAddr 0, .retAddr 0], [])) (h' := (G, I, F)) (hs' := []) rfl rfl ?_
  refine vm_J.cnt 432 (fun j => (13, (0, 0), [.ref 152, .int (nI p), .int 0, .int (nI w), .int (nI j), .retAddr 0, .retAddr 0], [])) (fun j => (G, I, (vm_zc 0 F 180 j))) (fun _ => True) rfl (by rw [← vm_zc_0]) trivial (fun j hj pj ij => ?_) (fun pj => ?_)
  · show vm_J _ _ _ (13, (0, 0), [.ref 152, .int (nI p), .int 0, .int (nI w), .int (nI j), .retAddr 0, .retAddr 0], []) (G, I, (vm_zc 0 F 180 j)) _ _
    refine vm_J.go vm_q246 (k := 3) (hs := []) (f' := (bif vm_ic .ge (nI j) 432 then 35 else 21, (0, 0), [.ref 152, .int (nI p), .int 0, .int (nI w), .int (nI j), .retAddr 0, .retAddr 0], [])) (h' := (G, I, (vm_zc 0 F 180 j))) (hs' := []) rfl rfl ?_
    refine vm_J.br (fun c1 => ?_) (fun c1 => ?_)
    · have c1 := vm_ge_t (a := j) (b := 432) (by omega) (by omega) c1
      exact (show False by omega).elim
    · have c1 := vm_ge_f (a := j) (b := 432) (by omega) (by omega) c1
      refine vm_J.go vm_q246 (k := 7) (hs := [vm_shR, (1, 432, [])]) (f' := (13, (0, 0), [.ref 152, .int (nI p), .int 0, .int (nI w), .int ((nI j) + 1), .retAddr 0, .retAddr 0], [])) (h' := (G, I, (vm_up (vm_zc 0 F 180 j) 180 ((nI j).toNatClampNeg) 0x00000000))) (hs' := []) rfl (vm_b2 rfl (vm_b2 (vm_b2 (vm_hG hR.c152) rfl) (vm_b2 rfl (vm_b2 rfl (vm_b2 (vm_b2 (vm_hG hR.c180) (vm_in_e (j := j) (n := 432) rfl (by omega) (by omega))) (vm_b2 rfl (vm_b2 rfl rfl))))))) ?_
      rw [vm_ix_e (j := j) rfl (by omega), ((vm_pa (rfl : nI j = nI j) (rfl : (1 : Int32) = nI 1)) : (nI j) + 1 = nI (j + 1))]
      have z := ij trivial
      rw [← vm_zc_s] at z
      exact z
  · show vm_J _ _ _ (13, (0, 0), [.ref 152, .int (nI p), .int 0, .int (nI w), .int (nI 432), .retAddr 0, .retAddr 0], []) (G, I, (vm_zc 0 F 180 432)) _ _
    refine vm_J.go vm_q246 (k := 3) (hs := []) (f' := (bif vm_ic .ge (nI 432) 432 then 35 else 21, (0, 0), [.ref 152, .int (nI p), .int 0, .int (nI w), .int (nI 432), .retAddr 0, .retAddr 0], [])) (h' := (G, I, (vm_zc 0 F 180 432))) (hs' := []) rfl rfl ?_
    refine vm_J.br (fun c2 => ?_) (fun c2 => ?_)
    · have c2 := vm_ge_t (a := 432) (b := 432) (by omega) (by omega) c2
      refine vm_J.go vm_q246 (k := 2) (hs := []) (f' := (38, (0, 0), [.ref 152, .int (nI p), .int 0, .int (nI w), .int 0, .retAddr 0, .retAddr 0], [])) (h' := (G, I, (vm_zc 0 F 180 432))) (hs' := []) rfl rfl ?_
      refine vm_J.cnt h (fun j => (38, (0, 0), [.ref 152, .int (nI p), .int 0, .int (nI w), .int (nI j), .retAddr 0, .retAddr 0], [])) (fun j => (G, ((rv_sd (I, (vm_zc 0 F 180 432)) p n s w h kn m 0 j).1), ((rv_sd (I, (vm_zc 0 F 180 432)) p n s w h kn m 0 j).2))) (fun _ => True) rfl rfl trivial (fun j hj pj ij => ?_) (fun pj => ?_)
      · show vm_J _ _ _ (38, (0, 0), [.ref 152, .int (nI p), .int 0, .int (nI w), .int (nI j), .retAddr 0, .retAddr 0], []) (G, ((rv_sd (I, (vm_zc 0 F 180 432)) p n s w h kn m 0 j).1), ((rv_sd (I, (vm_zc 0 F 180 432)) p n s w h kn m 0 j).2)) _ _
        refine vm_J.go vm_q246 (k := 5) (hs := [vm_shR, vm_shR]) (f' := (48, (0, 0), [.ref 152, .int (nI p), .int 0, .int (nI w), .int (nI j), .retAddr 0, .retAddr 0], [.int (((rv_sd (I, (vm_zc 0 F 180 432)) p n s w h kn m 0 j).1) 152 40), .ref 174, .int (nI j)])) (h' := (G, ((rv_sd (I, (vm_zc 0 F 180 432)) p n s w h kn m 0 j).1), ((rv_sd (I, (vm_zc 0 F 180 432)) p n s w h kn m 0 j).2))) (hs' := []) rfl (vm_b2 rfl (vm_b2 rfl (vm_b2 (vm_b2 (vm_hG hR.c152) rfl) (vm_b2 rfl (vm_b2 (vm_b2 (vm_hG hR.c152) rfl) rfl))))) ?_
        rw [((Eq.trans (congrFun (rv_sd_o _ _ _ _ _ _ _ _ _  152 (by decide) (by decide) _) 40) hs) : ((rv_sd (I, (vm_zc 0 F 180 432)) p n s w h kn m 0 j).1) 152 40 = nI s)]
        refine vm_J.go vm_q246 (k := 1) (hs := [(0, 2, [])]) (f' := (49, (0, 0), [.ref 152, .int (nI p), .int 0, .int (nI w), .int (nI j), .retAddr 0, .retAddr 0], [.int (((rv_sd (I, (vm_zc 0 F 180 432)) p n s w h kn m 0 j).1) 174 (nI s).toNatClampNeg), .int (nI j)])) (h' := (G, ((rv_sd (I, (vm_zc 0 F 180 432)) p n s w h kn m 0 j).1), ((rv_sd (I, (vm_zc 0 F 180 432)) p n s w h kn m 0 j).2))) (hs' := []) rfl (vm_b2 (vm_b2 (vm_hG hR.c174) (vm_in_e (j := s) (n := 2) rfl (by omega) (by omega))) rfl) ?_
        rw [vm_ix_e (j := s) rfl (by omega)]
        rw [((Eq.trans (congrFun (rv_sd_o _ _ _ _ _ _ _ _ _  174 (by decide) (by decide) _) s) hh) : ((rv_sd (I, (vm_zc 0 F 180 432)) p n s w h kn m 0 j).1) 174 s = nI h)]
        refine vm_J.go vm_q246 (k := 1) (hs := []) (f' := (bif vm_ic .ge (nI j) (nI h) then 125 else 52, (0, 0), [.ref 152, .int (nI p), .int 0, .int (nI w), .int (nI j), .retAddr 0, .retAddr 0], [])) (h' := (G, ((rv_sd (I, (vm_zc 0 F 180 432)) p n s w h kn m 0 j).1), ((rv_sd (I, (vm_zc 0 F 180 432)) p n s w h kn m 0 j).2))) (hs' := []) rfl rfl ?_
        refine vm_J.br (fun c3 => ?_) (fun c3 => ?_)
        · have c3 := vm_ge_t (a := j) (b := h) (by omega) (by omega) c3
          exact (show False by omega).elim
        · have c3 := vm_ge_f (a := j) (b := h) (by omega) (by omega) c3
          refine vm_J.go vm_q246 (k := 2) (hs := []) (f' := (bif vm_ic .eq 0 0 then 68 else 56, (0, 0), [.ref 152, .int (nI p), .int 0, .int (nI w), .int (nI j), .retAddr 0, .retAddr 0], [])) (h' := (G, ((rv_sd (I, (vm_zc 0 F 180 432)) p n s w h kn m 0 j).1), ((rv_sd (I, (vm_zc 0 F 180 432)) p n s w h kn m 0 j).2))) (hs' := []) rfl rfl ?_
          refine vm_J.bT (by decide) ?_
          refine vm_J.go vm_q246 (k := 4) (hs := []) (f' := (74, (0, 0), [.ref 152, .int (nI p), .int 0, .int (nI w), .int (nI j), .int 0, .int 0], [])) (h' := (G, ((rv_sd (I, (vm_zc 0 F 180 432)) p n s w h kn m 0 j).1), ((rv_sd (I, (vm_zc 0 F 180 432)) p n s w h kn m 0 j).2))) (hs' := []) rfl rfl ?_
          refine vm_J.cnt w (fun i => (74, (0, 0), [.ref 152, .int (nI p), .int 0, .int (nI w), .int (nI j), .int 0, .int (nI i)], [])) (fun i => (G, ((rv_rw (rv_sd (I, (vm_zc 0 F 180 432)) p n s w h kn m 0 j) p n s w h kn j m 0 i).1), ((rv_rw (rv_sd (I, (vm_zc 0 F 180 432)) p n s w h kn m 0 j) p n s w h kn j m 0 i).2))) (fun _ => True) rfl rfl trivial (fun i hi pi ii => ?_) (fun pi => ?_)
          · show vm_J _ _ _ (74, (0, 0), [.ref 152, .int (nI p), .int 0, .int (nI w), .int (nI j), .int 0, .int (nI i)], []) (G, ((rv_rw (rv_sd (I, (vm_zc 0 F 180 432)) p n s w h kn m 0 j) p n s w h kn j m 0 i).1), ((rv_rw (rv_sd (I, (vm_zc 0 F 180 432)) p n s w h kn m 0 j) p n s w h kn j m 0 i).2)) _ _
            refine vm_J.go vm_q246 (k := 3) (hs := []) (f' := (bif vm_ic .ge (nI i) (nI w) then 119 else 80, (0, 0), [.ref 152, .int (nI p), .int 0, .int (nI w), .int (nI j), .int 0, .int (nI i)], [])) (h' := (G, ((rv_rw (rv_sd (I, (vm_zc 0 F 180 432)) p n s w h kn m 0 j) p n s w h kn j m 0 i).1), ((rv_rw (rv_sd (I, (vm_zc 0 F 180 432)) p n s w h kn m 0 j) p n s w h kn j m 0 i).2))) (hs' := []) rfl rfl ?_
            refine vm_J.br (fun c4 => ?_) (fun c4 => ?_)
            · have c4 := vm_ge_t (a := i) (b := w) (by omega) (by omega) c4
              exact (show False by omega).elim
            · have c4 := vm_ge_f (a := i) (b := w) (by omega) (by omega) c4
              refine vm_J.go vm_q246 (k := 4) (hs := []) (f' := (bif vm_ic .eq 0 0 then 96 else 87, (0, 0), [.ref 152, .int (nI p), .int 0, .int (nI w), .int (nI j), .int 0, .int (nI i)], [.int (nI p), .ref 152])) (h' := (G, ((rv_rw (rv_sd (I, (vm_zc 0 F 180 432)) p n s w h kn m 0 j) p n s w h kn j m 0 i).1), ((rv_rw (rv_sd (I, (vm_zc 0 F 180 432)) p n s w h kn m 0 j) p n s w h kn j m 0 i).2))) (hs' := []) rfl rfl ?_
              refine vm_J.bT (by decide) ?_
              refine vm_J.go vm_q246 (k := 4) (hs := []) (f' := (bif vm_ic .eq 0 0 then 109 else 105, (0, 0), [.ref 152, .int (nI p), .int 0, .int (nI w), .int (nI j), .int 0, .int (nI i)], [.int (nI j), .int (nI i), .int (nI p), .ref 152])) (h' := (G, ((rv_rw (rv_sd (I, (vm_zc 0 F 180 432)) p n s w h kn m 0 j) p n s w h kn j m 0 i).1), ((rv_rw (rv_sd (I, (vm_zc 0 F 180 432)) p n s w h kn m 0 j) p n s w h kn j m 0 i).2))) (hs' := []) rfl rfl ?_
              refine vm_J.bT (by decide) ?_
              refine vm_J.go vm_q246 (k := 1) (hs := []) (f' := (110, (0, 0), [.ref 152, .int (nI p), .int 0, .int (nI w), .int (nI j), .int 0, .int (nI i)], [.int 1, .int (nI j), .int (nI i), .int (nI p), .ref 152])) (h' := (G, ((rv_rw (rv_sd (I, (vm_zc 0 F 180 432)) p n s w h kn m 0 j) p n s w h kn j m 0 i).1), ((rv_rw (rv_sd (I, (vm_zc 0 F 180 432)) p n s w h kn m 0 j) p n s w h kn j m 0 i).2))) (hs' := []) rfl rfl ?_
              refine vm_J.call vm_q246 (Z := vm_M245) (n := 4) (k := 0) (mi := 245) (pc := 110) (en := (110, .invokevirtual 372, 3, [245, 1599, 0], .null)) rfl trivial rfl rfl vm_z245 (av := [.ref 152, .int (nI p), .int (nI i), .int (nI j), .int 1]) (rest := []) (r_spix (I := ((rv_rw (rv_sd (I, (vm_zc 0 F 180 432)) p n s w h kn m 0 j) p n s w h kn j m 0 i).1)) (F := ((rv_rw (rv_sd (I, (vm_zc 0 F 180 432)) p n s w h kn m 0 j) p n s w h kn j m 0 i).2)) (p := p) (n := n) (s := s) (w := w) (h := h) (x := i) (y := j) (kn := kn) (t := 1) (m := m) hR (Eq.trans (congrFun (rv_rw_o _ _ _ _ _ _ _ _ _ _  156 (by decide) (by decide) _) p) (Eq.trans (congrFun (rv_sd_o _ _ _ _ _ _ _ _ _  156 (by decide) (by decide) _) p) hn)) hp hn0 hn2 (Eq.trans (congrFun (rv_rw_o _ _ _ _ _ _ _ _ _ _  152 (by decide) (by decide) _) 40) (Eq.trans (congrFun (rv_sd_o _ _ _ _ _ _ _ _ _  152 (by decide) (by decide) _) 40) hs)) hs2 (Eq.trans (congrFun (rv_rw_o _ _ _ _ _ _ _ _ _ _  173 (by decide) (by decide) _) s) (Eq.trans (congrFun (rv_sd_o _ _ _ _ _ _ _ _ _  173 (by decide) (by decide) _) s) hw)) (Eq.trans (congrFun (rv_rw_o _ _ _ _ _ _ _ _ _ _  174 (by decide) (by decide) _) s) (Eq.trans (congrFun (rv_sd_o _ _ _ _ _ _ _ _ _  174 (by decide) (by decide) _) s) hh)) hw2 hh2 (by omega) (by omega) (Eq.trans (congrFun (rv_rw_o _ _ _ _ _ _ _ _ _ _  152 (by decide) (by decide) _) 7) (Eq.trans (congrFun (rv_sd_o _ _ _ _ _ _ _ _ _  152 (by decide) (by decide) _) 7) hkn)) hkn2 (rv_rw_ok (hsd _ (by omega)) (by omega) hw2 hh2 hs2 hkn2 _ (by omega)) (Eq.trans (congrFun (rv_rw_o _ _ _ _ _ _ _ _ _ _  152 (by decide) (by decide) _) 6) (Eq.trans (congrFun (rv_sd_o _ _ _ _ _ _ _ _ _  152 (by decide) (by decide) _) 6) hz)) hm) ⟨_, _, rfl, rfl, _, 11, _, hR.c152, rfl, rfl, rfl⟩ (Nat.le_of_ble_eq_true rfl) ⟨Nat.le_of_ble_eq_true rfl, Nat.le_of_ble_eq_true rfl⟩ ⟨Nat.le_of_ble_eq_true rfl, Nat.le_of_ble_eq_true rfl⟩ ?_
              show vm_J _ _ _ (113, (0, 0), [.ref 152, .int (nI p), .int 0, .int (nI w), .int (nI j), .int 0, .int (nI i)], []) (G, ((rv_px (rv_rw (rv_sd (I, (vm_zc 0 F 180 432)) p n s w h kn m 0 j) p n s w h kn j m 0 i) p n s w h kn i j 1 m).1), ((rv_px (rv_rw (rv_sd (I, (vm_zc 0 F 180 432)) p n s w h kn m 0 j) p n s w h kn j m 0 i) p n s w h kn i j 1 m).2)) _ _
              refine vm_J.go vm_q246 (k := 2) (hs := []) (f' := (74, (0, 0), [.ref 152, .int (nI p), .int 0, .int (nI w), .int (nI j), .int 0, .int ((nI i) + 1)], [])) (h' := (G, ((rv_px (rv_rw (rv_sd (I, (vm_zc 0 F 180 432)) p n s w h kn m 0 j) p n s w h kn j m 0 i) p n s w h kn i j 1 m).1), ((rv_px (rv_rw (rv_sd (I, (vm_zc 0 F 180 432)) p n s w h kn m 0 j) p n s w h kn j m 0 i) p n s w h kn i j 1 m).2))) (hs' := []) rfl rfl ?_
              rw [((vm_pa (rfl : nI i = nI i) (rfl : (1 : Int32) = nI 1)) : (nI i) + 1 = nI (i + 1))]
              have z := ii trivial
              rw [← rv_rw_s (by unfold sp_zx; rw [if_neg (fun z => absurd z.1 (by decide))]) (by unfold sp_zt; rw [if_neg (fun z => absurd z.1 (by decide))])] at z
              exact z
          · show vm_J _ _ _ (74, (0, 0), [.ref 152, .int (nI p), .int 0, .int (nI w), .int (nI j), .int 0, .int (nI w)], []) (G, ((rv_rw (rv_sd (I, (vm_zc 0 F 180 432)) p n s w h kn m 0 j) p n s w h kn j m 0 w).1), ((rv_rw (rv_sd (I, (vm_zc 0 F 180 432)) p n s w h kn m 0 j) p n s w h kn j m 0 w).2)) _ _
            refine vm_J.go vm_q246 (k := 3) (hs := []) (f' := (bif vm_ic .ge (nI w) (nI w) then 119 else 80, (0, 0), [.ref 152, .int (nI p), .int 0, .int (nI w), .int (nI j), .int 0, .int (nI w)], [])) (h' := (G, ((rv_rw (rv_sd (I, (vm_zc 0 F 180 432)) p n s w h kn m 0 j) p n s w h kn j m 0 w).1), ((rv_rw (rv_sd (I, (vm_zc 0 F 180 432)) p n s w h kn m 0 j) p n s w h kn j m 0 w).2))) (hs' := []) rfl rfl ?_
            refine vm_J.br (fun c5 => ?_) (fun c5 => ?_)
            · have c5 := vm_ge_t (a := w) (b := w) (by omega) (by omega) c5
              refine vm_J.go vm_q246 (k := 2) (hs := []) (f' := (38, (0, 0), [.ref 152, .int (nI p), .int 0, .int (nI w), .int ((nI j) + 1), .int 0, .int (nI w)], [])) (h' := (G, ((rv_rw (rv_sd (I, (vm_zc 0 F 180 432)) p n s w h kn m 0 j) p n s w h kn j m 0 w).1), ((rv_rw (rv_sd (I, (vm_zc 0 F 180 432)) p n s w h kn m 0 j) p n s w h kn j m 0 w).2))) (hs' := []) rfl rfl ?_
              rw [((vm_pa (rfl : nI j = nI j) (rfl : (1 : Int32) = nI 1)) : (nI j) + 1 = nI (j + 1))]
              refine vm_J.mask [true, true, true, true, true, false, false] ?_
              show vm_J _ _ _ (38, (0, 0), [.ref 152, .int (nI p), .int 0, .int (nI w), .int (nI (j + 1)), .retAddr 0, .retAddr 0], []) (G, ((rv_rw (rv_sd (I, (vm_zc 0 F 180 432)) p n s w h kn m 0 j) p n s w h kn j m 0 w).1), ((rv_rw (rv_sd (I, (vm_zc 0 F 180 432)) p n s w h kn m 0 j) p n s w h kn j m 0 w).2)) _ _
              exact ij trivial
            · have c5 := vm_ge_f (a := w) (b := w) (by omega) (by omega) c5
              exact (show False by omega).elim
      · show vm_J _ _ _ (38, (0, 0), [.ref 152, .int (nI p), .int 0, .int (nI w), .int (nI h), .retAddr 0, .retAddr 0], []) (G, ((rv_sd (I, (vm_zc 0 F 180 432)) p n s w h kn m 0 h).1), ((rv_sd (I, (vm_zc 0 F 180 432)) p n s w h kn m 0 h).2)) _ _
        refine vm_J.go vm_q246 (k := 5) (hs := [vm_shR, vm_shR]) (f' := (48, (0, 0), [.ref 152, .int (nI p), .int 0, .int (nI w), .int (nI h), .retAddr 0, .retAddr 0], [.int (((rv_sd (I, (vm_zc 0 F 180 432)) p n s w h kn m 0 h).1) 152 40), .ref 174, .int (nI h)])) (h' := (G, ((rv_sd (I, (vm_zc 0 F 180 432)) p n s w h kn m 0 h).1), ((rv_sd (I, (vm_zc 0 F 180 432)) p n s w h kn m 0 h).2))) (hs' := []) rfl (vm_b2 rfl (vm_b2 rfl (vm_b2 (vm_b2 (vm_hG hR.c152) rfl) (vm_b2 rfl (vm_b2 (vm_b2 (vm_hG hR.c152) rfl) rfl))))) ?_
        rw [((Eq.trans (congrFun (rv_sd_o _ _ _ _ _ _ _ _ _  152 (by decide) (by decide) _) 40) hs) : ((rv_sd (I, (vm_zc 0 F 180 432)) p n s w h kn m 0 h).1) 152 40 = nI s)]
        refine vm_J.go vm_q246 (k := 1) (hs := [(0, 2, [])]) (f' := (49, (0, 0), [.ref 152, .int (nI p), .int 0, .int (nI w), .int (nI h), .retAddr 0, .retAddr 0], [.int (((rv_sd (I, (vm_zc 0 F 180 432)) p n s w h kn m 0 h).1) 174 (nI s).toNatClampNeg), .int (nI h)])) (h' := (G, ((rv_sd (I, (vm_zc 0 F 180 432)) p n s w h kn m 0 h).1), ((rv_sd (I, (vm_zc 0 F 180 432)) p n s w h kn m 0 h).2))) (hs' := []) rfl (vm_b2 (vm_b2 (vm_hG hR.c174) (vm_in_e (j := s) (n := 2) rfl (by omega) (by omega))) rfl) ?_
        rw [vm_ix_e (j := s) rfl (by omega)]
        rw [((Eq.trans (congrFun (rv_sd_o _ _ _ _ _ _ _ _ _  174 (by decide) (by decide) _) s) hh) : ((rv_sd (I, (vm_zc 0 F 180 432)) p n s w h kn m 0 h).1) 174 s = nI h)]
        refine vm_J.go vm_q246 (k := 1) (hs := []) (f' := (bif vm_ic .ge (nI h) (nI h) then 125 else 52, (0, 0), [.ref 152, .int (nI p), .int 0, .int (nI w), .int (nI h), .retAddr 0, .retAddr 0], [])) (h' := (G, ((rv_sd (I, (vm_zc 0 F 180 432)) p n s w h kn m 0 h).1), ((rv_sd (I, (vm_zc 0 F 180 432)) p n s w h kn m 0 h).2))) (hs' := []) rfl rfl ?_
        refine vm_J.br (fun c6 => ?_) (fun c6 => ?_)
        · have c6 := vm_ge_t (a := h) (b := h) (by omega) (by omega) c6
          exact vm_J.end vm_q246 (en := (125, .return_, 1, [], .null)) rfl rfl vm_rV (Nat.zero_le _) (Nat.zero_le _) rfl
        · have c6 := vm_ge_f (a := h) (b := h) (by omega) (by omega) c6
          exact (show False by omega).elim
    · have c2 := vm_ge_f (a := 432) (b := 432) (by omega) (by omega) c2
      exact (show False by omega).elim
set_option maxHeartbeats 4000000 in
set_option maxRecDepth 20000 in
/-- DitherDeskModel.spreads -/
theorem r_spreads_1 {l : Launch} {X : vm_Cx} {G : List vm_Sh} {I : Nat → Nat → Int32} {F : Nat → Nat → UInt32} {p : Nat} {n : Nat} {s : Nat} {w : Nat} {h : Nat} {kn : Nat} {m : Int32} (hR : vm_isR G) (hn : I 156 p = nI n) (hp : p < 4) (hn0 : 0 < n) (hn2 : n ≤ 16) (hs : I 152 40 = nI s) (hs2 : s < 2) (hw : I 173 s = nI w) (hh : I 174 s = nI h) (hw2 : w ≤ 12) (hh2 : h ≤ 12) (hkn : I 152 7 = nI kn) (hkn2 : kn < 5) (hlo : ∀ i_, i_ < 6 → vf_ok (F 179 i_)) (hz : I 152 6 = m) (hm : m = 0 ∨ m = 1 ∨ m = 2 ∨ m = 3) : vm_K l X vm_M246 [.ref 152, .int (nI p), .int 1] (G, I, F) (none) (G, ((rv_sd (I, (vm_zc 0 F 180 432)) p n s w h kn m 1 h).1), ((rv_sd (I, (vm_zc 0 F 180 432)) p n s w h kn m 1 h).2)) := by
  refine vm_K.mk (by decide) (Nat.le_of_ble_eq_true rfl) ?_
  have hwh := vm_mul144 hw2 hh2
  have hsd : ∀ y_, y_ ≤ h → vf_2r (rv_sd (I, (vm_zc 0 F 180 432)) p n s w h kn m 1 y_).2 180 179 432 6 := rv_sd_ok (vf_zc_ok hlo) hw2 hh2 hs2 hkn2
  show vm_J _ _ _ (0, (0, 0), [.ref 152, .int (nI p), .int 1, .retAddr 0, .retAddr 0, .retAddr 0, .retAddr 0], []) _ _ _
  refine vm_J.go vm_q246 (k := 4) (hs := [vm_shR, vm_shR]) (f' := (8, (0, 0), [.ref 152, .int (nI p), .int 1, .retAddr 0, .retAddr 0, .retAddr 0, .retAddr 0], [.int (I 152 40), .ref 173])) (h' := (G, I, F)) (hs' := []) rfl (vm_b2 rfl (vm_b2 (vm_b2 (vm_hG hR.c152) rfl) (vm_b2 rfl (vm_b2 (vm_b2 (vm_hG hR.c152) rfl) rfl)))) ?_
  rw [(hs : I 152 40 = nI s)]
  refine vm_J.go vm_q246 (k := 1) (hs := [(0, 2, [])]) (f' := (9, (0, 0), [.ref 152, .int (nI p), .int 1, .retAddr 0, .retAddr 0, .retAddr 0, .retAddr 0], [.int (I 173 (nI s).toNatClampNeg)])) (h' := (G, I, F)) (hs' := []) rfl (vm_b2 (vm_b2 (vm_hG hR.c173) (vm_in_e (j := s) (n := 2) rfl (by omega) (by omega))) rfl) ?_
  rw [vm_ix_e (j := s) rfl (by omega)]
  rw [(hw : I 173 s = nI w)]
  refine vm_J.go vm_q246 (k := 3) (hs := []) (f' := (13, (0, 0), [.ref 152, .int (nI p), .int 1, .int (nI w), .int 0, .retAddr 0, .retAddr 0], [])) (h' := (G, I, F)) (hs' := []) rfl rfl ?_
  refine vm_J.cnt 432 (fun j => (13, (0, 0), [.ref 152, .int (nI p), .int 1, .int (nI w), .int (nI j), .retAddr 0, .retAddr 0], [])) (fun j => (G, I, (vm_zc 0 F 180 j))) (fun _ => True) rfl (by rw [← vm_zc_0]) trivial (fun j hj pj ij => ?_) (fun pj => ?_)
  · show vm_J _ _ _ (13, (0, 0), [.ref 152, .int (nI p), .int 1, .int (nI w), .int (nI j), .retAddr 0, .retAddr 0], []) (G, I, (vm_zc 0 F 180 j)) _ _
    refine vm_J.go vm_q246 (k := 3) (hs := []) (f' := (bif vm_ic .ge (nI j) 432 then 35 else 21, (0, 0), [.ref 152, .int (nI p), .int 1, .int (nI w), .int (nI j), .retAddr 0, .retAddr 0], [])) (h' := (G, I, (vm_zc 0 F 180 j))) (hs' := []) rfl rfl ?_
    refine vm_J.br (fun c1 => ?_) (fun c1 => ?_)
    · have c1 := vm_ge_t (a := j) (b := 432) (by omega) (by omega) c1
      exact (show False by omega).elim
    · have c1 := vm_ge_f (a := j) (b := 432) (by omega) (by omega) c1
      refine vm_J.go vm_q246 (k := 7) (hs := [vm_shR, (1, 432, [])]) (f' := (13, (0, 0), [.ref 152, .int (nI p), .int 1, .int (nI w), .int ((nI j) + 1), .retAddr 0, .retAddr 0], [])) (h' := (G, I, (vm_up (vm_zc 0 F 180 j) 180 ((nI j).toNatClampNeg) 0x00000000))) (hs' := []) rfl (vm_b2 rfl (vm_b2 (vm_b2 (vm_hG hR.c152) rfl) (vm_b2 rfl (vm_b2 rfl (vm_b2 (vm_b2 (vm_hG hR.c180) (vm_in_e (j := j) (n := 432) rfl (by omega) (by omega))) (vm_b2 rfl (vm_b2 rfl rfl))))))) ?_
      rw [vm_ix_e (j := j) rfl (by omega), ((vm_pa (rfl : nI j = nI j) (rfl : (1 : Int32) = nI 1)) : (nI j) + 1 = nI (j + 1))]
      have z := ij trivial
      rw [← vm_zc_s] at z
      exact z
  · show vm_J _ _ _ (13, (0, 0), [.ref 152, .int (nI p), .int 1, .int (nI w), .int (nI 432), .retAddr 0, .retAddr 0], []) (G, I, (vm_zc 0 F 180 432)) _ _
    refine vm_J.go vm_q246 (k := 3) (hs := []) (f' := (bif vm_ic .ge (nI 432) 432 then 35 else 21, (0, 0), [.ref 152, .int (nI p), .int 1, .int (nI w), .int (nI 432), .retAddr 0, .retAddr 0], [])) (h' := (G, I, (vm_zc 0 F 180 432))) (hs' := []) rfl rfl ?_
    refine vm_J.br (fun c2 => ?_) (fun c2 => ?_)
    · have c2 := vm_ge_t (a := 432) (b := 432) (by omega) (by omega) c2
      refine vm_J.go vm_q246 (k := 2) (hs := []) (f' := (38, (0, 0), [.ref 152, .int (nI p), .int 1, .int (nI w), .int 0, .retAddr 0, .retAddr 0], [])) (h' := (G, I, (vm_zc 0 F 180 432))) (hs' := []) rfl rfl ?_
      refine vm_J.cnt h (fun j => (38, (0, 0), [.ref 152, .int (nI p), .int 1, .int (nI w), .int (nI j), .retAddr 0, .retAddr 0], [])) (fun j => (G, ((rv_sd (I, (vm_zc 0 F 180 432)) p n s w h kn m 1 j).1), ((rv_sd (I, (vm_zc 0 F 180 432)) p n s w h kn m 1 j).2))) (fun _ => True) rfl rfl trivial (fun j hj pj ij => ?_) (fun pj => ?_)
      · show vm_J _ _ _ (38, (0, 0), [.ref 152, .int (nI p), .int 1, .int (nI w), .int (nI j), .retAddr 0, .retAddr 0], []) (G, ((rv_sd (I, (vm_zc 0 F 180 432)) p n s w h kn m 1 j).1), ((rv_sd (I, (vm_zc 0 F 180 432)) p n s w h kn m 1 j).2)) _ _
        refine vm_J.go vm_q246 (k := 5) (hs := [vm_shR, vm_shR]) (f' := (48, (0, 0), [.ref 152, .int (nI p), .int 1, .int (nI w), .int (nI j), .retAddr 0, .retAddr 0], [.int (((rv_sd (I, (vm_zc 0 F 180 432)) p n s w h kn m 1 j).1) 152 40), .ref 174, .int (nI j)])) (h' := (G, ((rv_sd (I, (vm_zc 0 F 180 432)) p n s w h kn m 1 j).1), ((rv_sd (I, (vm_zc 0 F 180 432)) p n s w h kn m 1 j).2))) (hs' := []) rfl (vm_b2 rfl (vm_b2 rfl (vm_b2 (vm_b2 (vm_hG hR.c152) rfl) (vm_b2 rfl (vm_b2 (vm_b2 (vm_hG hR.c152) rfl) rfl))))) ?_
        rw [((Eq.trans (congrFun (rv_sd_o _ _ _ _ _ _ _ _ _  152 (by decide) (by decide) _) 40) hs) : ((rv_sd (I, (vm_zc 0 F 180 432)) p n s w h kn m 1 j).1) 152 40 = nI s)]
        refine vm_J.go vm_q246 (k := 1) (hs := [(0, 2, [])]) (f' := (49, (0, 0), [.ref 152, .int (nI p), .int 1, .int (nI w), .int (nI j), .retAddr 0, .retAddr 0], [.int (((rv_sd (I, (vm_zc 0 F 180 432)) p n s w h kn m 1 j).1) 174 (nI s).toNatClampNeg), .int (nI j)])) (h' := (G, ((rv_sd (I, (vm_zc 0 F 180 432)) p n s w h kn m 1 j).1), ((rv_sd (I, (vm_zc 0 F 180 432)) p n s w h kn m 1 j).2))) (hs' := []) rfl (vm_b2 (vm_b2 (vm_hG hR.c174) (vm_in_e (j := s) (n := 2) rfl (by omega) (by omega))) rfl) ?_
        rw [vm_ix_e (j := s) rfl (by omega)]
        rw [((Eq.trans (congrFun (rv_sd_o _ _ _ _ _ _ _ _ _  174 (by decide) (by decide) _) s) hh) : ((rv_sd (I, (vm_zc 0 F 180 432)) p n s w h kn m 1 j).1) 174 s = nI h)]
        refine vm_J.go vm_q246 (k := 1) (hs := []) (f' := (bif vm_ic .ge (nI j) (nI h) then 125 else 52, (0, 0), [.ref 152, .int (nI p), .int 1, .int (nI w), .int (nI j), .retAddr 0, .retAddr 0], [])) (h' := (G, ((rv_sd (I, (vm_zc 0 F 180 432)) p n s w h kn m 1 j).1), ((rv_sd (I, (vm_zc 0 F 180 432)) p n s w h kn m 1 j).2))) (hs' := []) rfl rfl ?_
        refine vm_J.br (fun c3 => ?_) (fun c3 => ?_)
        · have c3 := vm_ge_t (a := j) (b := h) (by omega) (by omega) c3
          exact (show False by omega).elim
        · have c3 := vm_ge_f (a := j) (b := h) (by omega) (by omega) c3
          refine vm_J.go vm_q246 (k := 2) (hs := []) (f' := (bif vm_ic .eq 1 0 then 68 else 56, (0, 0), [.ref 152, .int (nI p), .int 1, .int (nI w), .int (nI j), .retAddr 0, .retAddr 0], [])) (h' := (G, ((rv_sd (I, (vm_zc 0 F 180 432)) p n s w h kn m 1 j).1), ((rv_sd (I, (vm_zc 0 F 180 432)) p n s w h kn m 1 j).2))) (hs' := []) rfl rfl ?_
          refine vm_J.bF (by decide) ?_
          refine vm_J.go vm_q246 (k := 5) (hs := []) (f' := (bif vm_ic .ne ((nI j) - (nI j) / 2 * 2) 1 then 68 else 64, (0, 0), [.ref 152, .int (nI p), .int 1, .int (nI w), .int (nI j), .retAddr 0, .retAddr 0], [])) (h' := (G, ((rv_sd (I, (vm_zc 0 F 180 432)) p n s w h kn m 1 j).1), ((rv_sd (I, (vm_zc 0 F 180 432)) p n s w h kn m 1 j).2))) (hs' := []) rfl rfl ?_
          refine vm_J.br (fun c4 => ?_) (fun c4 => ?_)
          · rw [((vm_pr (rfl : (nI j : Int32) = nI j) (rfl : (2 : Int32) = nI 2) (by omega) (by omega) (by omega)) : (nI j) - (nI j) / 2 * 2 = nI (j % 2))] at c4
            have c4 := vm_ne_t (a := j % 2) (b := 1) (by omega) (by omega) c4
            refine vm_J.go vm_q246 (k := 4) (hs := []) (f' := (74, (0, 0), [.ref 152, .int (nI p), .int 1, .int (nI w), .int (nI j), .int 0, .int 0], [])) (h' := (G, ((rv_sd (I, (vm_zc 0 F 180 432)) p n s w h kn m 1 j).1), ((rv_sd (I, (vm_zc 0 F 180 432)) p n s w h kn m 1 j).2))) (hs' := []) rfl rfl ?_
            refine vm_J.cnt w (fun i => (74, (0, 0), [.ref 152, .int (nI p), .int 1, .int (nI w), .int (nI j), .int 0, .int (nI i)], [])) (fun i => (G, ((rv_rw (rv_sd (I, (vm_zc 0 F 180 432)) p n s w h kn m 1 j) p n s w h kn j m 1 i).1), ((rv_rw (rv_sd (I, (vm_zc 0 F 180 432)) p n s w h kn m 1 j) p n s w h kn j m 1 i).2))) (fun _ => True) rfl rfl trivial (fun i hi pi ii => ?_) (fun pi => ?_)
            · show vm_J _ _ _ (74, (0, 0), [.ref 152, .int (nI p), .int 1, .int (nI w), .int (nI j), .int 0, .int (nI i)], []) (G, ((rv_rw (rv_sd (I, (vm_zc 0 F 180 432)) p n s w h kn m 1 j) p n s w h kn j m 1 i).1), ((rv_rw (rv_sd (I, (vm_zc 0 F 180 432)) p n s w h kn m 1 j) p n s w h kn j m 1 i).2)) _ _
              refine vm_J.go vm_q246 (k := 3) (hs := []) (f' := (bif vm_ic .ge (nI i) (nI w) then 119 else 80, (0, 0), [.ref 152, .int (nI p), .int 1, .int (nI w), .int (nI j), .int 0, .int (nI i)], [])) (h' := (G, ((rv_rw (rv_sd (I, (vm_zc 0 F 180 432)) p n s w h kn m 1 j) p n s w h kn j m 1 i).1), ((rv_rw (rv_sd (I, (vm_zc 0 F 180 432)) p n s w h kn m 1 j) p n s w h kn j m 1 i).2))) (hs' := []) rfl rfl ?_
              refine vm_J.br (fun c5 => ?_) (fun c5 => ?_)
              · have c5 := vm_ge_t (a := i) (b := w) (by omega) (by omega) c5
                exact (show False by omega).elim
              · have c5 := vm_ge_f (a := i) (b := w) (by omega) (by omega) c5
                refine vm_J.go vm_q246 (k := 4) (hs := []) (f' := (bif vm_ic .eq 0 0 then 96 else 87, (0, 0), [.ref 152, .int (nI p), .int 1, .int (nI w), .int (nI j), .int 0, .int (nI i)], [.int (nI p), .ref 152])) (h' := (G, ((rv_rw (rv_sd (I, (vm_zc 0 F 180 432)) p n s w h kn m 1 j) p n s w h kn j m 1 i).1), ((rv_rw (rv_sd (I, (vm_zc 0 F 180 432)) p n s w h kn m 1 j) p n s w h kn j m 1 i).2))) (hs' := []) rfl rfl ?_
                refine vm_J.bT (by decide) ?_
                refine vm_J.go vm_q246 (k := 4) (hs := []) (f' := (bif vm_ic .eq 0 0 then 109 else 105, (0, 0), [.ref 152, .int (nI p), .int 1, .int (nI w), .int (nI j), .int 0, .int (nI i)], [.int (nI j), .int (nI i), .int (nI p), .ref 152])) (h' := (G, ((rv_rw (rv_sd (I, (vm_zc 0 F 180 432)) p n s w h kn m 1 j) p n s w h kn j m 1 i).1), ((rv_rw (rv_sd (I, (vm_zc 0 F 180 432)) p n s w h kn m 1 j) p n s w h kn j m 1 i).2))) (hs' := []) rfl rfl ?_
                refine vm_J.bT (by decide) ?_
                refine vm_J.go vm_q246 (k := 1) (hs := []) (f' := (110, (0, 0), [.ref 152, .int (nI p), .int 1, .int (nI w), .int (nI j), .int 0, .int (nI i)], [.int 1, .int (nI j), .int (nI i), .int (nI p), .ref 152])) (h' := (G, ((rv_rw (rv_sd (I, (vm_zc 0 F 180 432)) p n s w h kn m 1 j) p n s w h kn j m 1 i).1), ((rv_rw (rv_sd (I, (vm_zc 0 F 180 432)) p n s w h kn m 1 j) p n s w h kn j m 1 i).2))) (hs' := []) rfl rfl ?_
                refine vm_J.call vm_q246 (Z := vm_M245) (n := 4) (k := 0) (mi := 245) (pc := 110) (en := (110, .invokevirtual 372, 3, [245, 1599, 0], .null)) rfl trivial rfl rfl vm_z245 (av := [.ref 152, .int (nI p), .int (nI i), .int (nI j), .int 1]) (rest := []) (r_spix (I := ((rv_rw (rv_sd (I, (vm_zc 0 F 180 432)) p n s w h kn m 1 j) p n s w h kn j m 1 i).1)) (F := ((rv_rw (rv_sd (I, (vm_zc 0 F 180 432)) p n s w h kn m 1 j) p n s w h kn j m 1 i).2)) (p := p) (n := n) (s := s) (w := w) (h := h) (x := i) (y := j) (kn := kn) (t := 1) (m := m) hR (Eq.trans (congrFun (rv_rw_o _ _ _ _ _ _ _ _ _ _  156 (by decide) (by decide) _) p) (Eq.trans (congrFun (rv_sd_o _ _ _ _ _ _ _ _ _  156 (by decide) (by decide) _) p) hn)) hp hn0 hn2 (Eq.trans (congrFun (rv_rw_o _ _ _ _ _ _ _ _ _ _  152 (by decide) (by decide) _) 40) (Eq.trans (congrFun (rv_sd_o _ _ _ _ _ _ _ _ _  152 (by decide) (by decide) _) 40) hs)) hs2 (Eq.trans (congrFun (rv_rw_o _ _ _ _ _ _ _ _ _ _  173 (by decide) (by decide) _) s) (Eq.trans (congrFun (rv_sd_o _ _ _ _ _ _ _ _ _  173 (by decide) (by decide) _) s) hw)) (Eq.trans (congrFun (rv_rw_o _ _ _ _ _ _ _ _ _ _  174 (by decide) (by decide) _) s) (Eq.trans (congrFun (rv_sd_o _ _ _ _ _ _ _ _ _  174 (by decide) (by decide) _) s) hh)) hw2 hh2 (by omega) (by omega) (Eq.trans (congrFun (rv_rw_o _ _ _ _ _ _ _ _ _ _  152 (by decide) (by decide) _) 7) (Eq.trans (congrFun (rv_sd_o _ _ _ _ _ _ _ _ _  152 (by decide) (by decide) _) 7) hkn)) hkn2 (rv_rw_ok (hsd _ (by omega)) (by omega) hw2 hh2 hs2 hkn2 _ (by omega)) (Eq.trans (congrFun (rv_rw_o _ _ _ _ _ _ _ _ _ _  152 (by decide) (by decide) _) 6) (Eq.trans (congrFun (rv_sd_o _ _ _ _ _ _ _ _ _  152 (by decide) (by decide) _) 6) hz)) hm) ⟨_, _, rfl, rfl, _, 11, _, hR.c152, rfl, rfl, rfl⟩ (Nat.le_of_ble_eq_true rfl) ⟨Nat.le_of_ble_eq_true rfl, Nat.le_of_ble_eq_true rfl⟩ ⟨Nat.le_of_ble_eq_true rfl, Nat.le_of_ble_eq_true rfl⟩ ?_
                show vm_J _ _ _ (113, (0, 0), [.ref 152, .int (nI p), .int 1, .int (nI w), .int (nI j), .int 0, .int (nI i)], []) (G, ((rv_px (rv_rw (rv_sd (I, (vm_zc 0 F 180 432)) p n s w h kn m 1 j) p n s w h kn j m 1 i) p n s w h kn i j 1 m).1), ((rv_px (rv_rw (rv_sd (I, (vm_zc 0 F 180 432)) p n s w h kn m 1 j) p n s w h kn j m 1 i) p n s w h kn i j 1 m).2)) _ _
                refine vm_J.go vm_q246 (k := 2) (hs := []) (f' := (74, (0, 0), [.ref 152, .int (nI p), .int 1, .int (nI w), .int (nI j), .int 0, .int ((nI i) + 1)], [])) (h' := (G, ((rv_px (rv_rw (rv_sd (I, (vm_zc 0 F 180 432)) p n s w h kn m 1 j) p n s w h kn j m 1 i) p n s w h kn i j 1 m).1), ((rv_px (rv_rw (rv_sd (I, (vm_zc 0 F 180 432)) p n s w h kn m 1 j) p n s w h kn j m 1 i) p n s w h kn i j 1 m).2))) (hs' := []) rfl rfl ?_
                rw [((vm_pa (rfl : nI i = nI i) (rfl : (1 : Int32) = nI 1)) : (nI i) + 1 = nI (i + 1))]
                have z := ii trivial
                rw [← rv_rw_s (by unfold sp_zx; rw [if_neg (fun z => c4 z.2)]) (by unfold sp_zt; rw [if_neg (fun z => c4 z.2)])] at z
                exact z
            · show vm_J _ _ _ (74, (0, 0), [.ref 152, .int (nI p), .int 1, .int (nI w), .int (nI j), .int 0, .int (nI w)], []) (G, ((rv_rw (rv_sd (I, (vm_zc 0 F 180 432)) p n s w h kn m 1 j) p n s w h kn j m 1 w).1), ((rv_rw (rv_sd (I, (vm_zc 0 F 180 432)) p n s w h kn m 1 j) p n s w h kn j m 1 w).2)) _ _
              refine vm_J.go vm_q246 (k := 3) (hs := []) (f' := (bif vm_ic .ge (nI w) (nI w) then 119 else 80, (0, 0), [.ref 152, .int (nI p), .int 1, .int (nI w), .int (nI j), .int 0, .int (nI w)], [])) (h' := (G, ((rv_rw (rv_sd (I, (vm_zc 0 F 180 432)) p n s w h kn m 1 j) p n s w h kn j m 1 w).1), ((rv_rw (rv_sd (I, (vm_zc 0 F 180 432)) p n s w h kn m 1 j) p n s w h kn j m 1 w).2))) (hs' := []) rfl rfl ?_
              refine vm_J.br (fun c6 => ?_) (fun c6 => ?_)
              · have c6 := vm_ge_t (a := w) (b := w) (by omega) (by omega) c6
                refine vm_J.go vm_q246 (k := 2) (hs := []) (f' := (38, (0, 0), [.ref 152, .int (nI p), .int 1, .int (nI w), .int ((nI j) + 1), .int 0, .int (nI w)], [])) (h' := (G, ((rv_rw (rv_sd (I, (vm_zc 0 F 180 432)) p n s w h kn m 1 j) p n s w h kn j m 1 w).1), ((rv_rw (rv_sd (I, (vm_zc 0 F 180 432)) p n s w h kn m 1 j) p n s w h kn j m 1 w).2))) (hs' := []) rfl rfl ?_
                rw [((vm_pa (rfl : nI j = nI j) (rfl : (1 : Int32) = nI 1)) : (nI j) + 1 = nI (j + 1))]
                refine vm_J.mask [true, true, true, true, true, false, false] ?_
                show vm_J _ _ _ (38, (0, 0), [.ref 152, .int (nI p), .int 1, .int (nI w), .int (nI (j + 1)), .retAddr 0, .retAddr 0], []) (G, ((rv_rw (rv_sd (I, (vm_zc 0 F 180 432)) p n s w h kn m 1 j) p n s w h kn j m 1 w).1), ((rv_rw (rv_sd (I, (vm_zc 0 F 180 432)) p n s w h kn m 1 j) p n s w h kn j m 1 w).2)) _ _
                exact ij trivial
              · have c6 := vm_ge_f (a := w) (b := w) (by omega) (by omega) c6
                exact (show False by omega).elim
          · rw [((vm_pr (rfl : (nI j : Int32) = nI j) (rfl : (2 : Int32) = nI 2) (by omega) (by omega) (by omega)) : (nI j) - (nI j) / 2 * 2 = nI (j % 2))] at c4
            have c4 := vm_ne_f (a := j % 2) (b := 1) (by omega) (by omega) c4
            refine vm_J.go vm_q246 (k := 5) (hs := []) (f' := (74, (0, 0), [.ref 152, .int (nI p), .int 1, .int (nI w), .int (nI j), .int 1, .int 0], [])) (h' := (G, ((rv_sd (I, (vm_zc 0 F 180 432)) p n s w h kn m 1 j).1), ((rv_sd (I, (vm_zc 0 F 180 432)) p n s w h kn m 1 j).2))) (hs' := []) rfl rfl ?_
            refine vm_J.cnt w (fun i => (74, (0, 0), [.ref 152, .int (nI p), .int 1, .int (nI w), .int (nI j), .int 1, .int (nI i)], [])) (fun i => (G, ((rv_rw (rv_sd (I, (vm_zc 0 F 180 432)) p n s w h kn m 1 j) p n s w h kn j m 1 i).1), ((rv_rw (rv_sd (I, (vm_zc 0 F 180 432)) p n s w h kn m 1 j) p n s w h kn j m 1 i).2))) (fun _ => True) rfl rfl trivial (fun i hi pi ii => ?_) (fun pi => ?_)
            · show vm_J _ _ _ (74, (0, 0), [.ref 152, .int (nI p), .int 1, .int (nI w), .int (nI j), .int 1, .int (nI i)], []) (G, ((rv_rw (rv_sd (I, (vm_zc 0 F 180 432)) p n s w h kn m 1 j) p n s w h kn j m 1 i).1), ((rv_rw (rv_sd (I, (vm_zc 0 F 180 432)) p n s w h kn m 1 j) p n s w h kn j m 1 i).2)) _ _
              refine vm_J.go vm_q246 (k := 3) (hs := []) (f' := (bif vm_ic .ge (nI i) (nI w) then 119 else 80, (0, 0), [.ref 152, .int (nI p), .int 1, .int (nI w), .int (nI j), .int 1, .int (nI i)], [])) (h' := (G, ((rv_rw (rv_sd (I, (vm_zc 0 F 180 432)) p n s w h kn m 1 j) p n s w h kn j m 1 i).1), ((rv_rw (rv_sd (I, (vm_zc 0 F 180 432)) p n s w h kn m 1 j) p n s w h kn j m 1 i).2))) (hs' := []) rfl rfl ?_
              refine vm_J.br (fun c7 => ?_) (fun c7 => ?_)
              · have c7 := vm_ge_t (a := i) (b := w) (by omega) (by omega) c7
                exact (show False by omega).elim
              · have c7 := vm_ge_f (a := i) (b := w) (by omega) (by omega) c7
                refine vm_J.go vm_q246 (k := 4) (hs := []) (f' := (bif vm_ic .eq 1 0 then 96 else 87, (0, 0), [.ref 152, .int (nI p), .int 1, .int (nI w), .int (nI j), .int 1, .int (nI i)], [.int (nI p), .ref 152])) (h' := (G, ((rv_rw (rv_sd (I, (vm_zc 0 F 180 432)) p n s w h kn m 1 j) p n s w h kn j m 1 i).1), ((rv_rw (rv_sd (I, (vm_zc 0 F 180 432)) p n s w h kn m 1 j) p n s w h kn j m 1 i).2))) (hs' := []) rfl rfl ?_
                refine vm_J.bF (by decide) ?_
                refine vm_J.go vm_q246 (k := 9) (hs := []) (f' := (bif vm_ic .eq 1 0 then 109 else 105, (0, 0), [.ref 152, .int (nI p), .int 1, .int (nI w), .int (nI j), .int 1, .int (nI i)], [.int (nI j), .int (((nI w) - 1) - (nI i)), .int (nI p), .ref 152])) (h' := (G, ((rv_rw (rv_sd (I, (vm_zc 0 F 180 432)) p n s w h kn m 1 j) p n s w h kn j m 1 i).1), ((rv_rw (rv_sd (I, (vm_zc 0 F 180 432)) p n s w h kn m 1 j) p n s w h kn j m 1 i).2))) (hs' := []) rfl rfl ?_
                rw [((vm_ps (vm_ps (rfl : (nI w : Int32) = nI w) (rfl : (1 : Int32) = nI 1) (by omega)) (rfl : (nI i : Int32) = nI i) (by omega)) : ((nI w) - 1) - (nI i) = nI ((w - 1) - i))]
                refine vm_J.bF (by decide) ?_
                refine vm_J.go vm_q246 (k := 2) (hs := []) (f' := (110, (0, 0), [.ref 152, .int (nI p), .int 1, .int (nI w), .int (nI j), .int 1, .int (nI i)], [.int (-1), .int (nI j), .int (nI ((w - 1) - i)), .int (nI p), .ref 152])) (h' := (G, ((rv_rw (rv_sd (I, (vm_zc 0 F 180 432)) p n s w h kn m 1 j) p n s w h kn j m 1 i).1), ((rv_rw (rv_sd (I, (vm_zc 0 F 180 432)) p n s w h kn m 1 j) p n s w h kn j m 1 i).2))) (hs' := []) rfl rfl ?_
                refine vm_J.call vm_q246 (Z := vm_M245) (n := 4) (k := 0) (mi := 245) (pc := 110) (en := (110, .invokevirtual 372, 3, [245, 1599, 0], .null)) rfl trivial rfl rfl vm_z245 (av := [.ref 152, .int (nI p), .int (nI ((w - 1) - i)), .int (nI j), .int (-1)]) (rest := []) (r_spix (I := ((rv_rw (rv_sd (I, (vm_zc 0 F 180 432)) p n s w h kn m 1 j) p n s w h kn j m 1 i).1)) (F := ((rv_rw (rv_sd (I, (vm_zc 0 F 180 432)) p n s w h kn m 1 j) p n s w h kn j m 1 i).2)) (p := p) (n := n) (s := s) (w := w) (h := h) (x := (w - 1) - i) (y := j) (kn := kn) (t := (-1)) (m := m) hR (Eq.trans (congrFun (rv_rw_o _ _ _ _ _ _ _ _ _ _  156 (by decide) (by decide) _) p) (Eq.trans (congrFun (rv_sd_o _ _ _ _ _ _ _ _ _  156 (by decide) (by decide) _) p) hn)) hp hn0 hn2 (Eq.trans (congrFun (rv_rw_o _ _ _ _ _ _ _ _ _ _  152 (by decide) (by decide) _) 40) (Eq.trans (congrFun (rv_sd_o _ _ _ _ _ _ _ _ _  152 (by decide) (by decide) _) 40) hs)) hs2 (Eq.trans (congrFun (rv_rw_o _ _ _ _ _ _ _ _ _ _  173 (by decide) (by decide) _) s) (Eq.trans (congrFun (rv_sd_o _ _ _ _ _ _ _ _ _  173 (by decide) (by decide) _) s) hw)) (Eq.trans (congrFun (rv_rw_o _ _ _ _ _ _ _ _ _ _  174 (by decide) (by decide) _) s) (Eq.trans (congrFun (rv_sd_o _ _ _ _ _ _ _ _ _  174 (by decide) (by decide) _) s) hh)) hw2 hh2 (by omega) (by omega) (Eq.trans (congrFun (rv_rw_o _ _ _ _ _ _ _ _ _ _  152 (by decide) (by decide) _) 7) (Eq.trans (congrFun (rv_sd_o _ _ _ _ _ _ _ _ _  152 (by decide) (by decide) _) 7) hkn)) hkn2 (rv_rw_ok (hsd _ (by omega)) (by omega) hw2 hh2 hs2 hkn2 _ (by omega)) (Eq.trans (congrFun (rv_rw_o _ _ _ _ _ _ _ _ _ _  152 (by decide) (by decide) _) 6) (Eq.trans (congrFun (rv_sd_o _ _ _ _ _ _ _ _ _  152 (by decide) (by decide) _) 6) hz)) hm) ⟨_, _, rfl, rfl, _, 11, _, hR.c152, rfl, rfl, rfl⟩ (Nat.le_of_ble_eq_true rfl) ⟨Nat.le_of_ble_eq_true rfl, Nat.le_of_ble_eq_true rfl⟩ ⟨Nat.le_of_ble_eq_true rfl, Nat.le_of_ble_eq_true rfl⟩ ?_
                show vm_J _ _ _ (113, (0, 0), [.ref 152, .int (nI p), .int 1, .int (nI w), .int (nI j), .int 1, .int (nI i)], []) (G, ((rv_px (rv_rw (rv_sd (I, (vm_zc 0 F 180 432)) p n s w h kn m 1 j) p n s w h kn j m 1 i) p n s w h kn ((w - 1) - i) j (-1) m).1), ((rv_px (rv_rw (rv_sd (I, (vm_zc 0 F 180 432)) p n s w h kn m 1 j) p n s w h kn j m 1 i) p n s w h kn ((w - 1) - i) j (-1) m).2)) _ _
                refine vm_J.go vm_q246 (k := 2) (hs := []) (f' := (74, (0, 0), [.ref 152, .int (nI p), .int 1, .int (nI w), .int (nI j), .int 1, .int ((nI i) + 1)], [])) (h' := (G, ((rv_px (rv_rw (rv_sd (I, (vm_zc 0 F 180 432)) p n s w h kn m 1 j) p n s w h kn j m 1 i) p n s w h kn ((w - 1) - i) j (-1) m).1), ((rv_px (rv_rw (rv_sd (I, (vm_zc 0 F 180 432)) p n s w h kn m 1 j) p n s w h kn j m 1 i) p n s w h kn ((w - 1) - i) j (-1) m).2))) (hs' := []) rfl rfl ?_
                rw [((vm_pa (rfl : nI i = nI i) (rfl : (1 : Int32) = nI 1)) : (nI i) + 1 = nI (i + 1))]
                have z := ii trivial
                rw [← rv_rw_s (by unfold sp_zx; rw [if_pos ⟨rfl, c4⟩]) (by unfold sp_zt; rw [if_pos ⟨rfl, c4⟩])] at z
                exact z
            · show vm_J _ _ _ (74, (0, 0), [.ref 152, .int (nI p), .int 1, .int (nI w), .int (nI j), .int 1, .int (nI w)], []) (G, ((rv_rw (rv_sd (I, (vm_zc 0 F 180 432)) p n s w h kn m 1 j) p n s w h kn j m 1 w).1), ((rv_rw (rv_sd (I, (vm_zc 0 F 180 432)) p n s w h kn m 1 j) p n s w h kn j m 1 w).2)) _ _
              refine vm_J.go vm_q246 (k := 3) (hs := []) (f' := (bif vm_ic .ge (nI w) (nI w) then 119 else 80, (0, 0), [.ref 152, .int (nI p), .int 1, .int (nI w), .int (nI j), .int 1, .int (nI w)], [])) (h' := (G, ((rv_rw (rv_sd (I, (vm_zc 0 F 180 432)) p n s w h kn m 1 j) p n s w h kn j m 1 w).1), ((rv_rw (rv_sd (I, (vm_zc 0 F 180 432)) p n s w h kn m 1 j) p n s w h kn j m 1 w).2))) (hs' := []) rfl rfl ?_
              refine vm_J.br (fun c8 => ?_) (fun c8 => ?_)
              · have c8 := vm_ge_t (a := w) (b := w) (by omega) (by omega) c8
                refine vm_J.go vm_q246 (k := 2) (hs := []) (f' := (38, (0, 0), [.ref 152, .int (nI p), .int 1, .int (nI w), .int ((nI j) + 1), .int 1, .int (nI w)], [])) (h' := (G, ((rv_rw (rv_sd (I, (vm_zc 0 F 180 432)) p n s w h kn m 1 j) p n s w h kn j m 1 w).1), ((rv_rw (rv_sd (I, (vm_zc 0 F 180 432)) p n s w h kn m 1 j) p n s w h kn j m 1 w).2))) (hs' := []) rfl rfl ?_
                rw [((vm_pa (rfl : nI j = nI j) (rfl : (1 : Int32) = nI 1)) : (nI j) + 1 = nI (j + 1))]
                refine vm_J.mask [true, true, true, true, true, false, false] ?_
                show vm_J _ _ _ (38, (0, 0), [.ref 152, .int (nI p), .int 1, .int (nI w), .int (nI (j + 1)), .retAddr 0, .retAddr 0], []) (G, ((rv_rw (rv_sd (I, (vm_zc 0 F 180 432)) p n s w h kn m 1 j) p n s w h kn j m 1 w).1), ((rv_rw (rv_sd (I, (vm_zc 0 F 180 432)) p n s w h kn m 1 j) p n s w h kn j m 1 w).2)) _ _
                exact ij trivial
              · have c8 := vm_ge_f (a := w) (b := w) (by omega) (by omega) c8
                exact (show False by omega).elim
      · show vm_J _ _ _ (38, (0, 0), [.ref 152, .int (nI p), .int 1, .int (nI w), .int (nI h), .retAddr 0, .retAddr 0], []) (G, ((rv_sd (I, (vm_zc 0 F 180 432)) p n s w h kn m 1 h).1), ((rv_sd (I, (vm_zc 0 F 180 432)) p n s w h kn m 1 h).2)) _ _
        refine vm_J.go vm_q246 (k := 5) (hs := [vm_shR, vm_shR]) (f' := (48, (0, 0), [.ref 152, .int (nI p), .int 1, .int (nI w), .int (nI h), .retAddr 0, .retAddr 0], [.int (((rv_sd (I, (vm_zc 0 F 180 432)) p n s w h kn m 1 h).1) 152 40), .ref 174, .int (nI h)])) (h' := (G, ((rv_sd (I, (vm_zc 0 F 180 432)) p n s w h kn m 1 h).1), ((rv_sd (I, (vm_zc 0 F 180 432)) p n s w h kn m 1 h).2))) (hs' := []) rfl (vm_b2 rfl (vm_b2 rfl (vm_b2 (vm_b2 (vm_hG hR.c152) rfl) (vm_b2 rfl (vm_b2 (vm_b2 (vm_hG hR.c152) rfl) rfl))))) ?_
        rw [((Eq.trans (congrFun (rv_sd_o _ _ _ _ _ _ _ _ _  152 (by decide) (by decide) _) 40) hs) : ((rv_sd (I, (vm_zc 0 F 180 432)) p n s w h kn m 1 h).1) 152 40 = nI s)]
        refine vm_J.go vm_q246 (k := 1) (hs := [(0, 2, [])]) (f' := (49, (0, 0), [.ref 152, .int (nI p), .int 1, .int (nI w), .int (nI h), .retAddr 0, .retAddr 0], [.int (((rv_sd (I, (vm_zc 0 F 180 432)) p n s w h kn m 1 h).1) 174 (nI s).toNatClampNeg), .int (nI h)])) (h' := (G, ((rv_sd (I, (vm_zc 0 F 180 432)) p n s w h kn m 1 h).1), ((rv_sd (I, (vm_zc 0 F 180 432)) p n s w h kn m 1 h).2))) (hs' := []) rfl (vm_b2 (vm_b2 (vm_hG hR.c174) (vm_in_e (j := s) (n := 2) rfl (by omega) (by omega))) rfl) ?_
        rw [vm_ix_e (j := s) rfl (by omega)]
        rw [((Eq.trans (congrFun (rv_sd_o _ _ _ _ _ _ _ _ _  174 (by decide) (by decide) _) s) hh) : ((rv_sd (I, (vm_zc 0 F 180 432)) p n s w h kn m 1 h).1) 174 s = nI h)]
        refine vm_J.go vm_q246 (k := 1) (hs := []) (f' := (bif vm_ic .ge (nI h) (nI h) then 125 else 52, (0, 0), [.ref 152, .int (nI p), .int 1, .int (nI w), .int (nI h), .retAddr 0, .retAddr 0], [])) (h' := (G, ((rv_sd (I, (vm_zc 0 F 180 432)) p n s w h kn m 1 h).1), ((rv_sd (I, (vm_zc 0 F 180 432)) p n s w h kn m 1 h).2))) (hs' := []) rfl rfl ?_
        refine vm_J.br (fun c9 => ?_) (fun c9 => ?_)
        · have c9 := vm_ge_t (a := h) (b := h) (by omega) (by omega) c9
          exact vm_J.end vm_q246 (en := (125, .return_, 1, [], .null)) rfl rfl vm_rV (Nat.zero_le _) (Nat.zero_le _) rfl
        · have c9 := vm_ge_f (a := h) (b := h) (by omega) (by omega) c9
          exact (show False by omega).elim
    · have c2 := vm_ge_f (a := 432) (b := 432) (by omega) (by omega) c2
      exact (show False by omega).elim
