/-- what a world leaves that becomes another -/
def vm_bps (I : Nat → Nat → Int32) (B E : Nat) : Nat → Nat → Nat → Int32
  | 0 => I
  | j + 1 => vm_bP (vm_bps I B E j) (B + 17 + 2 * j) (B + 18 + 2 * j) (E + 17 + 2 * j) (E + 18 + 2 * j)
def vm_bls (I : Nat → Nat → Int32) (B E : Nat) : Nat → Nat → Nat → Int32
  | 0 => I
  | j + 1 => vm_bL (vm_bls I B E j) (B + 25 + 3 * j) (B + 26 + 3 * j) (B + 27 + 3 * j) (E + 25 + 3 * j) (E + 26 + 3 * j) (E + 27 + 3 * j)
def vm_bW (I : Nat → Nat → Int32) (B E : Nat) : Nat → Nat → Int32 := vm_bT (vm_bT (vm_bT (vm_bS (vm_cp (vm_bls (vm_bps I B E 4) B E 4) (E + 3) (B + 3) 4) (B + 4) (B + 5) (B + 6) (B + 7) (E + 4) (E + 5) (E + 6) (E + 7)) (B + 11) (B + 12) (E + 11) (E + 12)) (B + 13) (B + 14) (E + 13) (E + 14)) (B + 15) (B + 16) (E + 15) (E + 16)
set_option maxHeartbeats 4000000 in
set_option maxRecDepth 20000 in
/-- DitherDesk$World.become  -/
theorem m_W_become {l : Launch} {X : vm_Cx} {G : List vm_Sh} {I : Nat → Nat → Int32} {F : Nat → Nat → UInt32} {B E : Nat} (hW : vm_isW G B) (hV : vm_isW G E) (hBE : B + 37 ≤ E ∨ E + 37 ≤ B) : vm_K l X vm_M97 [.ref B, .ref E] (G, I, F) (none) (G, (vm_bW I B E), (vm_cp F (E + 8) (B + 8) 3)) := by
  refine vm_K.mk (by decide) (Nat.le_of_ble_eq_true rfl) ?_
  show vm_J _ _ _ (0, (0, 0), [.ref B, .ref E, .retAddr 0, .retAddr 0, .retAddr 0], []) _ _ _
  refine vm_J.go vm_q97 (k := 2) (hs := []) (f' := (2, (0, 0), [.ref B, .ref E, .int 0, .retAddr 0, .retAddr 0], [])) (h' := (G, I, F)) (hs' := []) rfl rfl ?_
  refine vm_J.cnt 4 (fun j => (2, (0, 0), [.ref B, .ref E, .int (nI j), .retAddr 0, .retAddr 0], [])) (fun j => (G, (vm_bps I B E j), F)) (fun _ => True) rfl rfl trivial (fun j hj pj ij => ?_) (fun pj => ?_)
  · show vm_J _ _ _ (2, (0, 0), [.ref B, .ref E, .int (nI j), .retAddr 0, .retAddr 0], []) (G, (vm_bps I B E j), F) _ _
    refine vm_J.go vm_q97 (k := 3) (hs := []) (f' := (bif vm_ic .ge (nI j) 4 then 41 else 7, (0, 0), [.ref B, .ref E, .int (nI j), .retAddr 0, .retAddr 0], [])) (h' := (G, (vm_bps I B E j), F)) (hs' := []) rfl rfl ?_
    refine vm_J.br (fun c1 => ?_) (fun c1 => ?_)
    · have c1 := vm_ge_t (a := j) (b := 4) (by omega) (by omega) c1
      exact (show False by omega).elim
    · have c1 := vm_ge_f (a := j) (b := 4) (by omega) (by omega) c1
      refine vm_J.go vm_q97 (k := 2) (hs := []) (f' := (9, (0, 0), [.ref B, .ref E, .int (nI j), .retAddr 0, .retAddr 0], [.int (nI j), .ref B])) (h' := (G, (vm_bps I B E j), F)) (hs' := []) rfl rfl ?_
      refine vm_J.call vm_q97 (Z := vm_M91) (n := 1) (k := 0) (mi := 91) (pc := 9) (en := (9, .invokevirtual 58, 3, [91, 442, 0], .null)) rfl trivial rfl rfl vm_z91 (av := [.ref B, .int (nI j)]) (rest := []) (m_frame_n (p := j) hW (by omega)) ⟨_, _, rfl, rfl, _, 9, _, hW.w, rfl, rfl, rfl⟩ (Nat.le_of_ble_eq_true rfl) ⟨Nat.le_of_ble_eq_true rfl, Nat.le_of_ble_eq_true rfl⟩ ⟨Nat.le_of_ble_eq_true rfl, Nat.le_of_ble_eq_true rfl⟩ ?_
      show vm_J _ _ _ (12, (0, 0), [.ref B, .ref E, .int (nI j), .retAddr 0, .retAddr 0], [.ref (B + 17 + 2 * j)]) (G, (vm_bps I B E j), F) _ _
      refine vm_J.go vm_q97 (k := 3) (hs := []) (f' := (15, (0, 0), [.ref B, .ref E, .int (nI j), .ref (B + 17 + 2 * j), .retAddr 0], [.int (nI j), .ref E])) (h' := (G, (vm_bps I B E j), F)) (hs' := []) rfl rfl ?_
      refine vm_J.call vm_q97 (Z := vm_M91) (n := 1) (k := 0) (mi := 91) (pc := 15) (en := (15, .invokevirtual 58, 3, [91, 442, 0], .null)) rfl trivial rfl rfl vm_z91 (av := [.ref E, .int (nI j)]) (rest := []) (m_frame_n (p := j) hV (by omega)) ⟨_, _, rfl, rfl, _, 9, _, hV.w, rfl, rfl, rfl⟩ (Nat.le_of_ble_eq_true rfl) ⟨Nat.le_of_ble_eq_true rfl, Nat.le_of_ble_eq_true rfl⟩ ⟨Nat.le_of_ble_eq_true rfl, Nat.le_of_ble_eq_true rfl⟩ ?_
      show vm_J _ _ _ (18, (0, 0), [.ref B, .ref E, .int (nI j), .ref (B + 17 + 2 * j), .retAddr 0], [.ref (E + 17 + 2 * j)]) (G, (vm_bps I B E j), F) _ _
      refine vm_J.go vm_q97 (k := 7) (hs := []) (f' := (32, (0, 0), [.ref B, .ref E, .int (nI j), .ref (B + 17 + 2 * j), .ref (E + 17 + 2 * j)], [.ref (E + 17 + 2 * j), .ref (B + 17 + 2 * j)])) (h' := (G, (vm_bps I B E j), F)) (hs' := []) rfl rfl ?_
      refine vm_J.call vm_q97 (Z := vm_M45) (n := 1) (k := 0) (mi := 45) (pc := 32) (en := (32, .invokevirtual 80, 3, [45, 1009, 0], .null)) rfl trivial rfl rfl vm_z45 (av := [.ref (B + 17 + 2 * j), .ref (E + 17 + 2 * j)]) (rest := []) (m_Pic_bec (hW.p j hj) (hV.p j hj) (hW.q j hj) (hV.q j hj) (by omega)) ⟨_, _, rfl, rfl, _, 3, _, (hW.p j hj), rfl, rfl, rfl⟩ (Nat.le_of_ble_eq_true rfl) ⟨Nat.le_of_ble_eq_true rfl, Nat.le_of_ble_eq_true rfl⟩ ⟨Nat.le_of_ble_eq_true rfl, Nat.le_of_ble_eq_true rfl⟩ ?_
      show vm_J _ _ _ (35, (0, 0), [.ref B, .ref E, .int (nI j), .ref (B + 17 + 2 * j), .ref (E + 17 + 2 * j)], []) (G, (vm_bP (vm_bps I B E j) (B + 17 + 2 * j) (B + 18 + 2 * j) (E + 17 + 2 * j) (E + 18 + 2 * j)), F) _ _
      refine vm_J.go vm_q97 (k := 2) (hs := []) (f' := (2, (0, 0), [.ref B, .ref E, .int ((nI j) + 1), .ref (B + 17 + 2 * j), .ref (E + 17 + 2 * j)], [])) (h' := (G, (vm_bP (vm_bps I B E j) (B + 17 + 2 * j) (B + 18 + 2 * j) (E + 17 + 2 * j) (E + 18 + 2 * j)), F)) (hs' := []) rfl rfl ?_
      rw [((vm_pa (rfl : nI j = nI j) (rfl : (1 : Int32) = nI 1)) : (nI j) + 1 = nI (j + 1))]
      refine vm_J.mask [true, true, true, false, false] ?_
      show vm_J _ _ _ (2, (0, 0), [.ref B, .ref E, .int (nI (j + 1)), .retAddr 0, .retAddr 0], []) (G, (vm_bP (vm_bps I B E j) (B + 17 + 2 * j) (B + 18 + 2 * j) (E + 17 + 2 * j) (E + 18 + 2 * j)), F) _ _
      rw [show (vm_bP (vm_bps I B E j) (B + 17 + 2 * j) (B + 18 + 2 * j) (E + 17 + 2 * j) (E + 18 + 2 * j)) = (vm_bps I B E (j + 1)) from by rfl]
      exact ij trivial
  · show vm_J _ _ _ (2, (0, 0), [.ref B, .ref E, .int (nI 4), .retAddr 0, .retAddr 0], []) (G, (vm_bps I B E 4), F) _ _
    refine vm_J.go vm_q97 (k := 3) (hs := []) (f' := (bif vm_ic .ge (nI 4) 4 then 41 else 7, (0, 0), [.ref B, .ref E, .int (nI 4), .retAddr 0, .retAddr 0], [])) (h' := (G, (vm_bps I B E 4), F)) (hs' := []) rfl rfl ?_
    refine vm_J.br (fun c2 => ?_) (fun c2 => ?_)
    · have c2 := vm_ge_t (a := 4) (b := 4) (by omega) (by omega) c2
      refine vm_J.go vm_q97 (k := 2) (hs := []) (f' := (43, (0, 0), [.ref B, .ref E, .int 0, .retAddr 0, .retAddr 0], [])) (h' := (G, (vm_bps I B E 4), F)) (hs' := []) rfl rfl ?_
      refine vm_J.cnt 4 (fun j => (43, (0, 0), [.ref B, .ref E, .int (nI j), .retAddr 0, .retAddr 0], [])) (fun j => (G, (vm_bls (vm_bps I B E 4) B E j), F)) (fun _ => True) rfl rfl trivial (fun j hj pj ij => ?_) (fun pj => ?_)
      · show vm_J _ _ _ (43, (0, 0), [.ref B, .ref E, .int (nI j), .retAddr 0, .retAddr 0], []) (G, (vm_bls (vm_bps I B E 4) B E j), F) _ _
        refine vm_J.go vm_q97 (k := 3) (hs := []) (f' := (bif vm_ic .ge (nI j) 4 then 82 else 48, (0, 0), [.ref B, .ref E, .int (nI j), .retAddr 0, .retAddr 0], [])) (h' := (G, (vm_bls (vm_bps I B E 4) B E j), F)) (hs' := []) rfl rfl ?_
        refine vm_J.br (fun c3 => ?_) (fun c3 => ?_)
        · have c3 := vm_ge_t (a := j) (b := 4) (by omega) (by omega) c3
          exact (show False by omega).elim
        · have c3 := vm_ge_f (a := j) (b := 4) (by omega) (by omega) c3
          refine vm_J.go vm_q97 (k := 2) (hs := []) (f' := (50, (0, 0), [.ref B, .ref E, .int (nI j), .retAddr 0, .retAddr 0], [.int (nI j), .ref B])) (h' := (G, (vm_bls (vm_bps I B E 4) B E j), F)) (hs' := []) rfl rfl ?_
          refine vm_J.call vm_q97 (Z := vm_M93) (n := 1) (k := 0) (mi := 93) (pc := 50) (en := (50, .invokevirtual 73, 3, [93, 1014, 0], .null)) rfl trivial rfl rfl vm_z93 (av := [.ref B, .int (nI j)]) (rest := []) (m_pal_n (p := j) hW (by omega)) ⟨_, _, rfl, rfl, _, 9, _, hW.w, rfl, rfl, rfl⟩ (Nat.le_of_ble_eq_true rfl) ⟨Nat.le_of_ble_eq_true rfl, Nat.le_of_ble_eq_true rfl⟩ ⟨Nat.le_of_ble_eq_true rfl, Nat.le_of_ble_eq_true rfl⟩ ?_
          show vm_J _ _ _ (53, (0, 0), [.ref B, .ref E, .int (nI j), .retAddr 0, .retAddr 0], [.ref (B + 25 + 3 * j)]) (G, (vm_bls (vm_bps I B E 4) B E j), F) _ _
          refine vm_J.go vm_q97 (k := 3) (hs := []) (f' := (56, (0, 0), [.ref B, .ref E, .int (nI j), .ref (B + 25 + 3 * j), .retAddr 0], [.int (nI j), .ref E])) (h' := (G, (vm_bls (vm_bps I B E 4) B E j), F)) (hs' := []) rfl rfl ?_
          refine vm_J.call vm_q97 (Z := vm_M93) (n := 1) (k := 0) (mi := 93) (pc := 56) (en := (56, .invokevirtual 73, 3, [93, 1014, 0], .null)) rfl trivial rfl rfl vm_z93 (av := [.ref E, .int (nI j)]) (rest := []) (m_pal_n (p := j) hV (by omega)) ⟨_, _, rfl, rfl, _, 9, _, hV.w, rfl, rfl, rfl⟩ (Nat.le_of_ble_eq_true rfl) ⟨Nat.le_of_ble_eq_true rfl, Nat.le_of_ble_eq_true rfl⟩ ⟨Nat.le_of_ble_eq_true rfl, Nat.le_of_ble_eq_true rfl⟩ ?_
          show vm_J _ _ _ (59, (0, 0), [.ref B, .ref E, .int (nI j), .ref (B + 25 + 3 * j), .retAddr 0], [.ref (E + 25 + 3 * j)]) (G, (vm_bls (vm_bps I B E 4) B E j), F) _ _
          refine vm_J.go vm_q97 (k := 7) (hs := []) (f' := (73, (0, 0), [.ref B, .ref E, .int (nI j), .ref (B + 25 + 3 * j), .ref (E + 25 + 3 * j)], [.ref (E + 25 + 3 * j), .ref (B + 25 + 3 * j)])) (h' := (G, (vm_bls (vm_bps I B E 4) B E j), F)) (hs' := []) rfl rfl ?_
          refine vm_J.call vm_q97 (Z := vm_M34) (n := 1) (k := 0) (mi := 34) (pc := 73) (en := (73, .invokevirtual 84, 3, [34, 1015, 0], .null)) rfl trivial rfl rfl vm_z34 (av := [.ref (B + 25 + 3 * j), .ref (E + 25 + 3 * j)]) (rest := []) (m_Pal_bec (hW.l j hj) (hV.l j hj) (hW.c j hj) (hV.c j hj) (by omega) (hW.k j hj) (hV.k j hj) (by omega)) ⟨_, _, rfl, rfl, _, 2, _, (hW.l j hj), rfl, rfl, rfl⟩ (Nat.le_of_ble_eq_true rfl) ⟨Nat.le_of_ble_eq_true rfl, Nat.le_of_ble_eq_true rfl⟩ ⟨Nat.le_of_ble_eq_true rfl, Nat.le_of_ble_eq_true rfl⟩ ?_
          show vm_J _ _ _ (76, (0, 0), [.ref B, .ref E, .int (nI j), .ref (B + 25 + 3 * j), .ref (E + 25 + 3 * j)], []) (G, (vm_bL (vm_bls (vm_bps I B E 4) B E j) (B + 25 + 3 * j) (B + 26 + 3 * j) (B + 27 + 3 * j) (E + 25 + 3 * j) (E + 26 + 3 * j) (E + 27 + 3 * j)), F) _ _
          refine vm_J.go vm_q97 (k := 2) (hs := []) (f' := (43, (0, 0), [.ref B, .ref E, .int ((nI j) + 1), .ref (B + 25 + 3 * j), .ref (E + 25 + 3 * j)], [])) (h' := (G, (vm_bL (vm_bls (vm_bps I B E 4) B E j) (B + 25 + 3 * j) (B + 26 + 3 * j) (B + 27 + 3 * j) (E + 25 + 3 * j) (E + 26 + 3 * j) (E + 27 + 3 * j)), F)) (hs' := []) rfl rfl ?_
          rw [((vm_pa (rfl : nI j = nI j) (rfl : (1 : Int32) = nI 1)) : (nI j) + 1 = nI (j + 1))]
          refine vm_J.mask [true, true, true, false, false] ?_
          show vm_J _ _ _ (43, (0, 0), [.ref B, .ref E, .int (nI (j + 1)), .retAddr 0, .retAddr 0], []) (G, (vm_bL (vm_bls (vm_bps I B E 4) B E j) (B + 25 + 3 * j) (B + 26 + 3 * j) (B + 27 + 3 * j) (E + 25 + 3 * j) (E + 26 + 3 * j) (E + 27 + 3 * j)), F) _ _
          rw [show (vm_bL (vm_bls (vm_bps I B E 4) B E j) (B + 25 + 3 * j) (B + 26 + 3 * j) (B + 27 + 3 * j) (E + 25 + 3 * j) (E + 26 + 3 * j) (E + 27 + 3 * j)) = (vm_bls (vm_bps I B E 4) B E (j + 1)) from by rfl]
          exact ij trivial
      · show vm_J _ _ _ (43, (0, 0), [.ref B, .ref E, .int (nI 4), .retAddr 0, .retAddr 0], []) (G, (vm_bls (vm_bps I B E 4) B E 4), F) _ _
        refine vm_J.go vm_q97 (k := 3) (hs := []) (f' := (bif vm_ic .ge (nI 4) 4 then 82 else 48, (0, 0), [.ref B, .ref E, .int (nI 4), .retAddr 0, .retAddr 0], [])) (h' := (G, (vm_bls (vm_bps I B E 4) B E 4), F)) (hs' := []) rfl rfl ?_
        refine vm_J.br (fun c4 => ?_) (fun c4 => ?_)
        · have c4 := vm_ge_t (a := 4) (b := 4) (by omega) (by omega) c4
          refine vm_J.go vm_q97 (k := 4) (hs := [(11, 7, [.ref (E + 1), .ref (E + 2), .ref (E + 3), .ref (E + 4), .ref (E + 11), .ref (E + 13), .ref (E + 15)]), (11, 7, [.ref (B + 1), .ref (B + 2), .ref (B + 3), .ref (B + 4), .ref (B + 11), .ref (B + 13), .ref (B + 15)])]) (f' := (90, (0, 0), [.ref B, .ref E, .int (nI 4), .retAddr 0, .retAddr 0], [.ref (B + 3), .ref (E + 3)])) (h' := (G, (vm_bls (vm_bps I B E 4) B E 4), F)) (hs' := []) rfl (vm_b2 rfl (vm_b2 (vm_b2 (vm_hG hV.w) rfl) (vm_b2 rfl (vm_b2 (vm_b2 (vm_hG hW.w) rfl) rfl)))) ?_
          refine vm_J.call vm_q97 (Z := vm_M156) (n := 2) (k := 1) (mi := 156) (pc := 90) (en := (90, .invokestatic 54, 3, [156, 239, 1], .null)) rfl trivial rfl rfl vm_z156 (av := [.ref (E + 3), .ref (B + 3)]) (rest := []) (m_copyInts hV.rl hW.rl (by omega) (by omega)) rfl (Nat.le_of_ble_eq_true rfl) ⟨Nat.le_of_ble_eq_true rfl, Nat.le_of_ble_eq_true rfl⟩ ⟨Nat.le_of_ble_eq_true rfl, Nat.le_of_ble_eq_true rfl⟩ ?_
          show vm_J _ _ _ (93, (0, 0), [.ref B, .ref E, .int (nI 4), .retAddr 0, .retAddr 0], []) (G, (vm_cp (vm_bls (vm_bps I B E 4) B E 4) (E + 3) (B + 3) 4), F) _ _
          refine vm_J.go vm_q97 (k := 4) (hs := [(11, 7, [.ref (B + 1), .ref (B + 2), .ref (B + 3), .ref (B + 4), .ref (B + 11), .ref (B + 13), .ref (B + 15)]), (11, 7, [.ref (E + 1), .ref (E + 2), .ref (E + 3), .ref (E + 4), .ref (E + 11), .ref (E + 13), .ref (E + 15)])]) (f' := (101, (0, 0), [.ref B, .ref E, .int (nI 4), .retAddr 0, .retAddr 0], [.ref (E + 4), .ref (B + 4)])) (h' := (G, (vm_cp (vm_bls (vm_bps I B E 4) B E 4) (E + 3) (B + 3) 4), F)) (hs' := []) rfl (vm_b2 rfl (vm_b2 (vm_b2 (vm_hG hW.w) rfl) (vm_b2 rfl (vm_b2 (vm_b2 (vm_hG hV.w) rfl) rfl)))) ?_
          refine vm_J.call vm_q97 (Z := vm_M80) (n := 1) (k := 0) (mi := 80) (pc := 101) (en := (101, .invokevirtual 87, 3, [80, 1020, 0], .null)) rfl trivial rfl rfl vm_z80 (av := [.ref (B + 4), .ref (E + 4)]) (rest := []) (m_Sh_become hW.sh hV.sh hW.s1 hV.s1 (by omega) hW.s2 hV.s2 (by omega) hW.s3 hV.s3 (by omega) hW.s4 hV.s4 (by omega)) ⟨_, _, rfl, rfl, _, 6, _, hW.sh, rfl, rfl, rfl⟩ (Nat.le_of_ble_eq_true rfl) ⟨Nat.le_of_ble_eq_true rfl, Nat.le_of_ble_eq_true rfl⟩ ⟨Nat.le_of_ble_eq_true rfl, Nat.le_of_ble_eq_true rfl⟩ ?_
          show vm_J _ _ _ (104, (0, 0), [.ref B, .ref E, .int (nI 4), .retAddr 0, .retAddr 0], []) (G, (vm_bS (vm_cp (vm_bls (vm_bps I B E 4) B E 4) (E + 3) (B + 3) 4) (B + 4) (B + 5) (B + 6) (B + 7) (E + 4) (E + 5) (E + 6) (E + 7)), (vm_cp F (E + 8) (B + 8) 3)) _ _
          refine vm_J.go vm_q97 (k := 4) (hs := [(11, 7, [.ref (B + 1), .ref (B + 2), .ref (B + 3), .ref (B + 4), .ref (B + 11), .ref (B + 13), .ref (B + 15)]), (11, 7, [.ref (E + 1), .ref (E + 2), .ref (E + 3), .ref (E + 4), .ref (E + 11), .ref (E + 13), .ref (E + 15)])]) (f' := (112, (0, 0), [.ref B, .ref E, .int (nI 4), .retAddr 0, .retAddr 0], [.ref (E + 11), .ref (B + 11)])) (h' := (G, (vm_bS (vm_cp (vm_bls (vm_bps I B E 4) B E 4) (E + 3) (B + 3) 4) (B + 4) (B + 5) (B + 6) (B + 7) (E + 4) (E + 5) (E + 6) (E + 7)), (vm_cp F (E + 8) (B + 8) 3))) (hs' := []) rfl (vm_b2 rfl (vm_b2 (vm_b2 (vm_hG hW.w) rfl) (vm_b2 rfl (vm_b2 (vm_b2 (vm_hG hV.w) rfl) rfl)))) ?_
          refine vm_J.call vm_q97 (Z := vm_M86) (n := 1) (k := 0) (mi := 86) (pc := 112) (en := (112, .invokevirtual 90, 3, [86, 1027, 0], .null)) rfl trivial rfl rfl vm_z86 (av := [.ref (B + 11), .ref (E + 11)]) (rest := []) (m_Tab_become hW.t1 hV.t1 hW.u1 hV.u1 (by omega)) ⟨_, _, rfl, rfl, _, 7, _, hW.t1, rfl, rfl, rfl⟩ (Nat.le_of_ble_eq_true rfl) ⟨Nat.le_of_ble_eq_true rfl, Nat.le_of_ble_eq_true rfl⟩ ⟨Nat.le_of_ble_eq_true rfl, Nat.le_of_ble_eq_true rfl⟩ ?_
          show vm_J _ _ _ (115, (0, 0), [.ref B, .ref E, .int (nI 4), .retAddr 0, .retAddr 0], []) (G, (vm_bT (vm_bS (vm_cp (vm_bls (vm_bps I B E 4) B E 4) (E + 3) (B + 3) 4) (B + 4) (B + 5) (B + 6) (B + 7) (E + 4) (E + 5) (E + 6) (E + 7)) (B + 11) (B + 12) (E + 11) (E + 12)), (vm_cp F (E + 8) (B + 8) 3)) _ _
          refine vm_J.go vm_q97 (k := 4) (hs := [(11, 7, [.ref (B + 1), .ref (B + 2), .ref (B + 3), .ref (B + 4), .ref (B + 11), .ref (B + 13), .ref (B + 15)]), (11, 7, [.ref (E + 1), .ref (E + 2), .ref (E + 3), .ref (E + 4), .ref (E + 11), .ref (E + 13), .ref (E + 15)])]) (f' := (123, (0, 0), [.ref B, .ref E, .int (nI 4), .retAddr 0, .retAddr 0], [.ref (E + 13), .ref (B + 13)])) (h' := (G, (vm_bT (vm_bS (vm_cp (vm_bls (vm_bps I B E 4) B E 4) (E + 3) (B + 3) 4) (B + 4) (B + 5) (B + 6) (B + 7) (E + 4) (E + 5) (E + 6) (E + 7)) (B + 11) (B + 12) (E + 11) (E + 12)), (vm_cp F (E + 8) (B + 8) 3))) (hs' := []) rfl (vm_b2 rfl (vm_b2 (vm_b2 (vm_hG hW.w) rfl) (vm_b2 rfl (vm_b2 (vm_b2 (vm_hG hV.w) rfl) rfl)))) ?_
          refine vm_J.call vm_q97 (Z := vm_M86) (n := 1) (k := 0) (mi := 86) (pc := 123) (en := (123, .invokevirtual 90, 3, [86, 1027, 0], .null)) rfl trivial rfl rfl vm_z86 (av := [.ref (B + 13), .ref (E + 13)]) (rest := []) (m_Tab_become hW.t2 hV.t2 hW.u2 hV.u2 (by omega)) ⟨_, _, rfl, rfl, _, 7, _, hW.t2, rfl, rfl, rfl⟩ (Nat.le_of_ble_eq_true rfl) ⟨Nat.le_of_ble_eq_true rfl, Nat.le_of_ble_eq_true rfl⟩ ⟨Nat.le_of_ble_eq_true rfl, Nat.le_of_ble_eq_true rfl⟩ ?_
          show vm_J _ _ _ (126, (0, 0), [.ref B, .ref E, .int (nI 4), .retAddr 0, .retAddr 0], []) (G, (vm_bT (vm_bT (vm_bS (vm_cp (vm_bls (vm_bps I B E 4) B E 4) (E + 3) (B + 3) 4) (B + 4) (B + 5) (B + 6) (B + 7) (E + 4) (E + 5) (E + 6) (E + 7)) (B + 11) (B + 12) (E + 11) (E + 12)) (B + 13) (B + 14) (E + 13) (E + 14)), (vm_cp F (E + 8) (B + 8) 3)) _ _
          refine vm_J.go vm_q97 (k := 4) (hs := [(11, 7, [.ref (B + 1), .ref (B + 2), .ref (B + 3), .ref (B + 4), .ref (B + 11), .ref (B + 13), .ref (B + 15)]), (11, 7, [.ref (E + 1), .ref (E + 2), .ref (E + 3), .ref (E + 4), .ref (E + 11), .ref (E + 13), .ref (E + 15)])]) (f' := (134, (0, 0), [.ref B, .ref E, .int (nI 4), .retAddr 0, .retAddr 0], [.ref (E + 15), .ref (B + 15)])) (h' := (G, (vm_bT (vm_bT (vm_bS (vm_cp (vm_bls (vm_bps I B E 4) B E 4) (E + 3) (B + 3) 4) (B + 4) (B + 5) (B + 6) (B + 7) (E + 4) (E + 5) (E + 6) (E + 7)) (B + 11) (B + 12) (E + 11) (E + 12)) (B + 13) (B + 14) (E + 13) (E + 14)), (vm_cp F (E + 8) (B + 8) 3))) (hs' := []) rfl (vm_b2 rfl (vm_b2 (vm_b2 (vm_hG hW.w) rfl) (vm_b2 rfl (vm_b2 (vm_b2 (vm_hG hV.w) rfl) rfl)))) ?_
          refine vm_J.call vm_q97 (Z := vm_M86) (n := 1) (k := 0) (mi := 86) (pc := 134) (en := (134, .invokevirtual 90, 3, [86, 1027, 0], .null)) rfl trivial rfl rfl vm_z86 (av := [.ref (B + 15), .ref (E + 15)]) (rest := []) (m_Tab_become hW.t3 hV.t3 hW.u3 hV.u3 (by omega)) ⟨_, _, rfl, rfl, _, 7, _, hW.t3, rfl, rfl, rfl⟩ (Nat.le_of_ble_eq_true rfl) ⟨Nat.le_of_ble_eq_true rfl, Nat.le_of_ble_eq_true rfl⟩ ⟨Nat.le_of_ble_eq_true rfl, Nat.le_of_ble_eq_true rfl⟩ ?_
          show vm_J _ _ _ (137, (0, 0), [.ref B, .ref E, .int (nI 4), .retAddr 0, .retAddr 0], []) (G, (vm_bT (vm_bT (vm_bT (vm_bS (vm_cp (vm_bls (vm_bps I B E 4) B E 4) (E + 3) (B + 3) 4) (B + 4) (B + 5) (B + 6) (B + 7) (E + 4) (E + 5) (E + 6) (E + 7)) (B + 11) (B + 12) (E + 11) (E + 12)) (B + 13) (B + 14) (E + 13) (E + 14)) (B + 15) (B + 16) (E + 15) (E + 16)), (vm_cp F (E + 8) (B + 8) 3)) _ _
          exact vm_J.end vm_q97 (en := (137, .return_, 1, [], .null)) rfl rfl vm_rV (Nat.zero_le _) (Nat.zero_le _) rfl
        · have c4 := vm_ge_f (a := 4) (b := 4) (by omega) (by omega) c4
          exact (show False by omega).elim
    · have c2 := vm_ge_f (a := 4) (b := 4) (by omega) (by omega) c2
      exact (show False by omega).elim
/-- the entries that are locked, in their order: how many of the first n, and the rows that are left -/
def sp_kn (l : Nat → Int32) : Nat → Nat
  | 0 => 0
  | n + 1 => if l n = 1 then sp_kn l n + 1 else sp_kn l n
theorem sp_kn_le (l : Nat → Int32) : ∀ n, sp_kn l n ≤ n
  | 0 => Nat.le_refl 0
  | n + 1 => by
    have := sp_kn_le l n
    unfold sp_kn
    split <;> omega
def vm_klk (I : Nat → Nat → Int32) (a b : Nat) : Nat → Nat → Nat → Int32
  | 0 => I
  | n + 1 => if I b n = 1 then vm_up (vm_up (vm_klk I a b n) a (sp_kn (I b) n) (I a n)) b (sp_kn (I b) n) 1 else vm_klk I a b n
theorem vm_klk_o (I : Nat → Nat → Int32) (a b o : Nat) (h1 : o ≠ a) (h2 : o ≠ b) (k : Nat) : ∀ n, vm_klk I a b n o k = I o k
  | 0 => rfl
  | n + 1 => by
    unfold vm_klk
    split
    · rw [vm_up_o2 _ _ _ _ _ _ h2, vm_up_o2 _ _ _ _ _ _ h1]
      exact vm_klk_o I a b o h1 h2 k n
    · exact vm_klk_o I a b o h1 h2 k n
theorem vm_klk_a (I : Nat → Nat → Int32) (a b : Nat) (h : a ≠ b) (k : Nat) : ∀ n, n ≤ k → vm_klk I a b n a k = I a k
  | 0, _ => rfl
  | n + 1, hk => by
    have := sp_kn_le (I b) n
    unfold vm_klk
    split
    · rw [vm_up_o2 _ _ _ _ _ _ h, vm_up_k2 _ _ _ _ _ (by omega)]
      exact vm_klk_a I a b h k n (by omega)
    · exact vm_klk_a I a b h k n (by omega)
theorem vm_klk_b (I : Nat → Nat → Int32) (a b : Nat) (h : a ≠ b) (k : Nat) : ∀ n, n ≤ k → vm_klk I a b n b k = I b k
  | 0, _ => rfl
  | n + 1, hk => by
    have := sp_kn_le (I b) n
    unfold vm_klk
    split
    · rw [vm_up_k2 _ _ _ _ _ (by omega), vm_up_o2 _ _ _ _ _ _ (Ne.symm h)]
      exact vm_klk_b I a b h k n (by omega)
    · exact vm_klk_b I a b h k n (by omega)
set_option maxHeartbeats 4000000 in
set_option maxRecDepth 20000 in
/-- DitherDesk$Palette.keepLocked  -/
theorem m_Pal_keepLocked {l : Launch} {X : vm_Cx} {G : List vm_Sh} {I : Nat → Nat → Int32} {F : Nat → Nat → UInt32} {o a b n : Nat} (ho : G[o]? = some (4, 3, [.int 0, .ref a, .ref b])) (ha : G[a]? = some (0, 16, [])) (hb : G[b]? = some (0, 16, [])) (hn : I o 0 = nI n) (hn2 : n ≤ 16) (hoa : o ≠ a) (hob : o ≠ b) (hab : a ≠ b) : vm_K l X vm_M29 [.ref o] (G, I, F) (none) (G, (vm_up (vm_klk I a b n) o 0 (nI (sp_kn (I b) n))), F) := by
  refine vm_K.mk (by decide) (Nat.le_of_ble_eq_true rfl) ?_
  show vm_J _ _ _ (0, (0, 0), [.ref o, .retAddr 0, .retAddr 0], []) _ _ _
  refine vm_J.go vm_q29 (k := 4) (hs := []) (f' := (4, (0, 0), [.ref o, .int 0, .int 0], [])) (h' := (G, I, F)) (hs' := []) rfl rfl ?_
  refine vm_J.cnt n (fun j => (4, (0, 0), [.ref o, .int (nI (sp_kn (I b) j)), .int (nI j)], [])) (fun j => (G, (vm_klk I a b j), F)) (fun _ => True) rfl rfl trivial (fun j hj pj ij => ?_) (fun pj => ?_)
  · have hkn := sp_kn_le (I b) j
    show vm_J _ _ _ (4, (0, 0), [.ref o, .int (nI (sp_kn (I b) j)), .int (nI j)], []) (G, (vm_klk I a b j), F) _ _
    refine vm_J.go vm_q29 (k := 4) (hs := [(4, 3, [.int 0, .ref a, .ref b])]) (f' := (bif vm_ic .ge (nI j) ((vm_klk I a b j) o 0) then 51 else 12, (0, 0), [.ref o, .int (nI (sp_kn (I b) j)), .int (nI j)], [])) (h' := (G, (vm_klk I a b j), F)) (hs' := []) rfl (vm_b2 rfl (vm_b2 rfl (vm_b2 (vm_b2 (vm_hG ho) rfl) (vm_b2 rfl rfl)))) ?_
    refine vm_J.br (fun c1 => ?_) (fun c1 => ?_)
    · rw [(((vm_klk_o I a b o hoa hob 0 j).trans hn) : (vm_klk I a b j) o 0 = nI n)] at c1
      have c1 := vm_ge_t (a := j) (b := n) (by omega) (by omega) c1
      exact (show False by omega).elim
    · rw [(((vm_klk_o I a b o hoa hob 0 j).trans hn) : (vm_klk I a b j) o 0 = nI n)] at c1
      have c1 := vm_ge_f (a := j) (b := n) (by omega) (by omega) c1
      refine vm_J.go vm_q29 (k := 2) (hs := []) (f' := (14, (0, 0), [.ref o, .int (nI (sp_kn (I b) j)), .int (nI j)], [.int (nI j), .ref o])) (h' := (G, (vm_klk I a b j), F)) (hs' := []) rfl rfl ?_
      refine vm_J.call vm_q29 (Z := vm_M24) (n := 1) (k := 0) (mi := 24) (pc := 14) (en := (14, .invokevirtual 49, 3, [24, 733, 0], .null)) rfl trivial rfl rfl vm_z24 (av := [.ref o, .int (nI j)]) (rest := []) (m_Pal_isLocked (j := j) ho hb (by omega)) ⟨_, _, rfl, rfl, _, 2, _, ho, rfl, rfl, rfl⟩ (Nat.le_of_ble_eq_true rfl) ⟨Nat.le_of_ble_eq_true rfl, Nat.le_of_ble_eq_true rfl⟩ ⟨Nat.le_of_ble_eq_true rfl, Nat.le_of_ble_eq_true rfl⟩ ?_
      show vm_J _ _ _ (17, (0, 0), [.ref o, .int (nI (sp_kn (I b) j)), .int (nI j)], [.int (vm_bi ((vm_klk I a b j) b j = 1))]) (G, (vm_klk I a b j), F) _ _
      refine vm_J.go vm_q29 (k := 1) (hs := []) (f' := (bif vm_ic .eq (vm_bi ((vm_klk I a b j) b j = 1)) 0 then 45 else 20, (0, 0), [.ref o, .int (nI (sp_kn (I b) j)), .int (nI j)], [])) (h' := (G, (vm_klk I a b j), F)) (hs' := []) rfl rfl ?_
      refine vm_J.br (fun c2 => ?_) (fun c2 => ?_)
      · have c2 := vm_bi_eq_t c2
        refine vm_J.go vm_q29 (k := 2) (hs := []) (f' := (4, (0, 0), [.ref o, .int (nI (sp_kn (I b) j)), .int ((nI j) + 1)], [])) (h' := (G, (vm_klk I a b j), F)) (hs' := []) rfl rfl ?_
        rw [((vm_pa (rfl : nI j = nI j) (rfl : (1 : Int32) = nI 1)) : (nI j) + 1 = nI (j + 1))]
        have z := ij trivial
        rw [vm_klk_b I a b hab j j (Nat.le_refl j)] at c2
        simp only [vm_klk, sp_kn, c2, if_true, if_false] at z
        exact z
      · have c2 := vm_bi_eq_f c2
        refine vm_J.go vm_q29 (k := 5) (hs := [(4, 3, [.int 0, .ref a, .ref b])]) (f' := (27, (0, 0), [.ref o, .int (nI (sp_kn (I b) j)), .int (nI j)], [.int (nI j), .ref o, .int (nI (sp_kn (I b) j)), .ref a])) (h' := (G, (vm_klk I a b j), F)) (hs' := []) rfl (vm_b2 rfl (vm_b2 (vm_b2 (vm_hG ho) rfl) (vm_b2 rfl (vm_b2 rfl (vm_b2 rfl rfl))))) ?_
        refine vm_J.call vm_q29 (Z := vm_M23) (n := 1) (k := 0) (mi := 23) (pc := 27) (en := (27, .invokevirtual 30, 3, [23, 627, 0], .null)) rfl trivial rfl rfl vm_z23 (av := [.ref o, .int (nI j)]) (rest := [.int (nI (sp_kn (I b) j)), .ref a]) (m_Pal_colourOf (j := j) ho ha (by omega)) ⟨_, _, rfl, rfl, _, 2, _, ho, rfl, rfl, rfl⟩ (Nat.le_of_ble_eq_true rfl) ⟨Nat.le_of_ble_eq_true rfl, Nat.le_of_ble_eq_true rfl⟩ ⟨Nat.le_of_ble_eq_true rfl, Nat.le_of_ble_eq_true rfl⟩ ?_
        show vm_J _ _ _ (30, (0, 0), [.ref o, .int (nI (sp_kn (I b) j)), .int (nI j)], [.int ((vm_klk I a b j) a j), .int (nI (sp_kn (I b) j)), .ref a]) (G, (vm_klk I a b j), F) _ _
        refine vm_J.call vm_q29 (Z := vm_M153) (n := 3) (k := 1) (mi := 153) (pc := 30) (en := (30, .invokestatic 34, 3, [153, 640, 1], .null)) rfl trivial rfl rfl vm_z153 (av := [.ref a, .int (nI (sp_kn (I b) j)), .int ((vm_klk I a b j) a j)]) (rest := []) (m_put_n (j := sp_kn (I b) j) (v := (vm_klk I a b j) a j) ha (by omega) (by omega)) rfl (Nat.le_of_ble_eq_true rfl) ⟨Nat.le_of_ble_eq_true rfl, Nat.le_of_ble_eq_true rfl⟩ ⟨Nat.le_of_ble_eq_true rfl, Nat.le_of_ble_eq_true rfl⟩ ?_
        show vm_J _ _ _ (33, (0, 0), [.ref o, .int (nI (sp_kn (I b) j)), .int (nI j)], []) (G, (vm_up (vm_klk I a b j) a (sp_kn (I b) j) ((vm_klk I a b j) a j)), F) _ _
        refine vm_J.go vm_q29 (k := 4) (hs := [(4, 3, [.int 0, .ref a, .ref b])]) (f' := (39, (0, 0), [.ref o, .int (nI (sp_kn (I b) j)), .int (nI j)], [.int 1, .int (nI (sp_kn (I b) j)), .ref b])) (h' := (G, (vm_up (vm_klk I a b j) a (sp_kn (I b) j) ((vm_klk I a b j) a j)), F)) (hs' := []) rfl (vm_b2 rfl (vm_b2 (vm_b2 (vm_hG ho) rfl) (vm_b2 rfl (vm_b2 rfl rfl)))) ?_
        refine vm_J.call vm_q29 (Z := vm_M153) (n := 3) (k := 1) (mi := 153) (pc := 39) (en := (39, .invokestatic 34, 3, [153, 640, 1], .null)) rfl trivial rfl rfl vm_z153 (av := [.ref b, .int (nI (sp_kn (I b) j)), .int 1]) (rest := []) (m_put_n (j := sp_kn (I b) j) (v := 1) hb (by omega) (by omega)) rfl (Nat.le_of_ble_eq_true rfl) ⟨Nat.le_of_ble_eq_true rfl, Nat.le_of_ble_eq_true rfl⟩ ⟨Nat.le_of_ble_eq_true rfl, Nat.le_of_ble_eq_true rfl⟩ ?_
        show vm_J _ _ _ (42, (0, 0), [.ref o, .int (nI (sp_kn (I b) j)), .int (nI j)], []) (G, (vm_up (vm_up (vm_klk I a b j) a (sp_kn (I b) j) ((vm_klk I a b j) a j)) b (sp_kn (I b) j) 1), F) _ _
        refine vm_J.go vm_q29 (k := 3) (hs := []) (f' := (4, (0, 0), [.ref o, .int ((nI (sp_kn (I b) j)) + 1), .int ((nI j) + 1)], [])) (h' := (G, (vm_up (vm_up (vm_klk I a b j) a (sp_kn (I b) j) ((vm_klk I a b j) a j)) b (sp_kn (I b) j) 1), F)) (hs' := []) rfl rfl ?_
        rw [((vm_pa (rfl : nI (sp_kn (I b) j) = nI (sp_kn (I b) j)) (rfl : (1 : Int32) = nI 1)) : (nI (sp_kn (I b) j)) + 1 = nI (sp_kn (I b) j + 1)), ((vm_pa (rfl : nI j = nI j) (rfl : (1 : Int32) = nI 1)) : (nI j) + 1 = nI (j + 1))]
        have z := ij trivial
        rw [vm_klk_b I a b hab j j (Nat.le_refl j)] at c2
        simp only [vm_klk, sp_kn, c2, if_true, if_false] at z
        rw [show vm_up (vm_klk I a b j) a (sp_kn (I b) j) (vm_klk I a b j a j) = vm_up (vm_klk I a b j) a (sp_kn (I b) j) (I a j) from by rw [vm_klk_a I a b hab j j (Nat.le_refl j)]]
        exact z
  · show vm_J _ _ _ (4, (0, 0), [.ref o, .int (nI (sp_kn (I b) n)), .int (nI n)], []) (G, (vm_klk I a b n), F) _ _
    refine vm_J.go vm_q29 (k := 4) (hs := [(4, 3, [.int 0, .ref a, .ref b])]) (f' := (bif vm_ic .ge (nI n) ((vm_klk I a b n) o 0) then 51 else 12, (0, 0), [.ref o, .int (nI (sp_kn (I b) n)), .int (nI n)], [])) (h' := (G, (vm_klk I a b n), F)) (hs' := []) rfl (vm_b2 rfl (vm_b2 rfl (vm_b2 (vm_b2 (vm_hG ho) rfl) (vm_b2 rfl rfl)))) ?_
    refine vm_J.br (fun c3 => ?_) (fun c3 => ?_)
    · rw [(((vm_klk_o I a b o hoa hob 0 n).trans hn) : (vm_klk I a b n) o 0 = nI n)] at c3
      have c3 := vm_ge_t (a := n) (b := n) (by omega) (by omega) c3
      refine vm_J.go vm_q29 (k := 3) (hs := [(4, 3, [.int 0, .ref a, .ref b])]) (f' := (56, (0, 0), [.ref o, .int (nI (sp_kn (I b) n)), .int (nI n)], [])) (h' := (G, (vm_up (vm_klk I a b n) o 0 (nI (sp_kn (I b) n))), F)) (hs' := []) rfl (vm_b2 rfl (vm_b2 rfl (vm_b2 (vm_b2 (vm_b2 (vm_hG ho) rfl) rfl) rfl))) ?_
      exact vm_J.end vm_q29 (en := (56, .return_, 1, [], .null)) rfl rfl vm_rV (Nat.zero_le _) (Nat.zero_le _) rfl
    · rw [(((vm_klk_o I a b o hoa hob 0 n).trans hn) : (vm_klk I a b n) o 0 = nI n)] at c3
      have c3 := vm_ge_f (a := n) (b := n) (by omega) (by omega) c3
      exact (show False by omega).elim
