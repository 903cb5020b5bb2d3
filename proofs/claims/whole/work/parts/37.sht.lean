set_option maxHeartbeats 4000000 in
set_option maxRecDepth 20000 in
/-- DitherDesk$Sheet.pixels  -/
theorem m_Sh_pixels {l : Launch} {X : vm_Cx} {G : List vm_Sh} {I : Nat → Nat → Int32} {F : Nat → Nat → UInt32} {o a b c d e f w h : Nat} (ho : G[o]? = some (8, 9, [.int 0, .int 0, .int 0, .ref a, .ref b, .ref c, .ref d, .ref e, .ref f])) (hw : I o 1 = nI w) (hh : I o 2 = nI h) : vm_K l X vm_M62 [.ref o] (G, I, F) (some (.int (nI (w * h)))) (G, I, F) := by
  refine vm_K.mk (by decide) (Nat.le_of_ble_eq_true rfl) ?_
  show vm_J _ _ _ (0, (0, 0), [.ref o], []) _ _ _
  refine vm_J.go vm_q62 (k := 5) (hs := [(8, 9, [.int 0, .int 0, .int 0, .ref a, .ref b, .ref c, .ref d, .ref e, .ref f]), (8, 9, [.int 0, .int 0, .int 0, .ref a, .ref b, .ref c, .ref d, .ref e, .ref f])]) (f' := (9, (0, 0), [.ref o], [.int ((I o 1) * (I o 2))])) (h' := (G, I, F)) (hs' := []) rfl (vm_b2 rfl (vm_b2 (vm_b2 (vm_hG ho) rfl) (vm_b2 rfl (vm_b2 (vm_b2 (vm_hG ho) rfl) (vm_b2 rfl rfl))))) ?_
  rw [((vm_pm hw hh) : (I o 1) * (I o 2) = nI (w * h))]
  exact vm_J.end vm_q62 (en := (9, .ireturn, 1, [], .null)) rfl rfl vm_rI (Nat.zero_le _) (Nat.zero_le _) rfl
/-- how far a channel has shifted at a place -/
def sp_sh (f g : Nat → Int32) (k : Int32) (p : Nat) : Int32 := sp_ch (f p) k - sp_ch (g p) k
set_option maxHeartbeats 4000000 in
set_option maxRecDepth 20000 in
/-- DitherDesk$Sheet.shiftAt  -/
theorem m_Sh_shiftAt {l : Launch} {X : vm_Cx} {G : List vm_Sh} {I : Nat → Nat → Int32} {F : Nat → Nat → UInt32} {o a b c d e f p : Nat} {k : Int32} (ho : G[o]? = some (8, 9, [.int 0, .int 0, .int 0, .ref a, .ref b, .ref c, .ref d, .ref e, .ref f])) (ha : G[a]? = some (0, 144, [])) (hc : G[c]? = some (0, 144, [])) (hp : p < 144) : vm_K l X vm_M71 [.ref o, .int (nI p), .int k] (G, I, F) (some (.int (sp_sh (I c) (I a) k p))) (G, I, F) := by
  refine vm_K.mk (by decide) (Nat.le_of_ble_eq_true rfl) ?_
  show vm_J _ _ _ (0, (0, 0), [.ref o, .int (nI p), .int k], []) _ _ _
  refine vm_J.go vm_q71 (k := 3) (hs := [(8, 9, [.int 0, .int 0, .int 0, .ref a, .ref b, .ref c, .ref d, .ref e, .ref f])]) (f' := (5, (0, 0), [.ref o, .int (nI p), .int k], [.int (nI p), .ref c])) (h' := (G, I, F)) (hs' := []) rfl (vm_b2 rfl (vm_b2 (vm_b2 (vm_hG ho) rfl) (vm_b2 rfl rfl))) ?_
  refine vm_J.call vm_q71 (Z := vm_M152) (n := 2) (k := 1) (mi := 152) (pc := 5) (en := (5, .invokestatic 49, 3, [152, 833, 1], .null)) rfl trivial rfl rfl vm_z152 (av := [.ref c, .int (nI p)]) (rest := []) (m_at_n (j := p) hc (by omega) (by omega)) rfl (Nat.le_of_ble_eq_true rfl) ⟨Nat.le_of_ble_eq_true rfl, Nat.le_of_ble_eq_true rfl⟩ ⟨Nat.le_of_ble_eq_true rfl, Nat.le_of_ble_eq_true rfl⟩ ?_
  show vm_J _ _ _ (8, (0, 0), [.ref o, .int (nI p), .int k], [.int (I c p)]) (G, I, F) _ _
  refine vm_J.go vm_q71 (k := 1) (hs := []) (f' := (9, (0, 0), [.ref o, .int (nI p), .int k], [.int k, .int (I c p)])) (h' := (G, I, F)) (hs' := []) rfl rfl ?_
  refine vm_J.call vm_q71 (Z := vm_M164) (n := 2) (k := 1) (mi := 164) (pc := 9) (en := (9, .invokestatic 94, 3, [164, 834, 1], .null)) rfl trivial rfl rfl vm_z164 (av := [.int (I c p), .int k]) (rest := []) (m_channelOf (c := I c p) (k := k)) rfl (Nat.le_of_ble_eq_true rfl) ⟨Nat.le_of_ble_eq_true rfl, Nat.le_of_ble_eq_true rfl⟩ ⟨Nat.le_of_ble_eq_true rfl, Nat.le_of_ble_eq_true rfl⟩ ?_
  show vm_J _ _ _ (12, (0, 0), [.ref o, .int (nI p), .int k], [.int (sp_ch (I c p) k)]) (G, I, F) _ _
  refine vm_J.go vm_q71 (k := 3) (hs := [(8, 9, [.int 0, .int 0, .int 0, .ref a, .ref b, .ref c, .ref d, .ref e, .ref f])]) (f' := (17, (0, 0), [.ref o, .int (nI p), .int k], [.int (nI p), .ref a, .int (sp_ch (I c p) k)])) (h' := (G, I, F)) (hs' := []) rfl (vm_b2 rfl (vm_b2 (vm_b2 (vm_hG ho) rfl) (vm_b2 rfl rfl))) ?_
  refine vm_J.call vm_q71 (Z := vm_M152) (n := 2) (k := 1) (mi := 152) (pc := 17) (en := (17, .invokestatic 49, 3, [152, 833, 1], .null)) rfl trivial rfl rfl vm_z152 (av := [.ref a, .int (nI p)]) (rest := [.int (sp_ch (I c p) k)]) (m_at_n (j := p) ha (by omega) (by omega)) rfl (Nat.le_of_ble_eq_true rfl) ⟨Nat.le_of_ble_eq_true rfl, Nat.le_of_ble_eq_true rfl⟩ ⟨Nat.le_of_ble_eq_true rfl, Nat.le_of_ble_eq_true rfl⟩ ?_
  show vm_J _ _ _ (20, (0, 0), [.ref o, .int (nI p), .int k], [.int (I a p), .int (sp_ch (I c p) k)]) (G, I, F) _ _
  refine vm_J.go vm_q71 (k := 1) (hs := []) (f' := (21, (0, 0), [.ref o, .int (nI p), .int k], [.int k, .int (I a p), .int (sp_ch (I c p) k)])) (h' := (G, I, F)) (hs' := []) rfl rfl ?_
  refine vm_J.call vm_q71 (Z := vm_M164) (n := 2) (k := 1) (mi := 164) (pc := 21) (en := (21, .invokestatic 94, 3, [164, 834, 1], .null)) rfl trivial rfl rfl vm_z164 (av := [.int (I a p), .int k]) (rest := [.int (sp_ch (I c p) k)]) (m_channelOf (c := I a p) (k := k)) rfl (Nat.le_of_ble_eq_true rfl) ⟨Nat.le_of_ble_eq_true rfl, Nat.le_of_ble_eq_true rfl⟩ ⟨Nat.le_of_ble_eq_true rfl, Nat.le_of_ble_eq_true rfl⟩ ?_
  show vm_J _ _ _ (24, (0, 0), [.ref o, .int (nI p), .int k], [.int (sp_ch (I a p) k), .int (sp_ch (I c p) k)]) (G, I, F) _ _
  refine vm_J.go vm_q71 (k := 1) (hs := []) (f' := (25, (0, 0), [.ref o, .int (nI p), .int k], [.int ((sp_ch (I c p) k) - (sp_ch (I a p) k))])) (h' := (G, I, F)) (hs' := []) rfl rfl ?_
  exact vm_J.end vm_q71 (en := (25, .ireturn, 1, [], .null)) rfl rfl vm_rI (Nat.zero_le _) (Nat.zero_le _) rfl
set_option maxHeartbeats 4000000 in
set_option maxRecDepth 20000 in
/-- DitherDesk$Sheet.errorOn  -/
theorem m_Sh_errorOn {l : Launch} {X : vm_Cx} {G : List vm_Sh} {I : Nat → Nat → Int32} {F : Nat → Nat → UInt32} {o a b c d e f w h : Nat} {k : Int32} (ho : G[o]? = some (8, 9, [.int 0, .int 0, .int 0, .ref a, .ref b, .ref c, .ref d, .ref e, .ref f])) (ha : G[a]? = some (0, 144, [])) (hc : G[c]? = some (0, 144, [])) (hw : I o 1 = nI w) (hh : I o 2 = nI h) (hw2 : w ≤ 12) (hh2 : h ≤ 12) : vm_K l X vm_M72 [.ref o, .int k] (G, I, F) (some (.int (sp_sum (fun p => sp_sh (I c) (I a) k p * sp_sh (I c) (I a) k p) (w * h)))) (G, I, F) := by
  refine vm_K.mk (by decide) (Nat.le_of_ble_eq_true rfl) ?_
  have hwh := vm_mul144 hw2 hh2
  show vm_J _ _ _ (0, (0, 0), [.ref o, .int k, .retAddr 0, .retAddr 0, .retAddr 0], []) _ _ _
  refine vm_J.go vm_q72 (k := 4) (hs := []) (f' := (4, (0, 0), [.ref o, .int k, .int 0, .int 0, .retAddr 0], [])) (h' := (G, I, F)) (hs' := []) rfl rfl ?_
  refine vm_J.cnt (w * h) (fun j => (4, (0, 0), [.ref o, .int k, .int (sp_sum (fun p => sp_sh (I c) (I a) k p * sp_sh (I c) (I a) k p) j), .int (nI j), .retAddr 0], [])) (fun j => (G, I, F)) (fun _ => True) rfl rfl trivial (fun j hj pj ij => ?_) (fun pj => ?_)
  · show vm_J _ _ _ (4, (0, 0), [.ref o, .int k, .int (sp_sum (fun p => sp_sh (I c) (I a) k p * sp_sh (I c) (I a) k p) j), .int (nI j), .retAddr 0], []) (G, I, F) _ _
    refine vm_J.go vm_q72 (k := 2) (hs := []) (f' := (6, (0, 0), [.ref o, .int k, .int (sp_sum (fun p => sp_sh (I c) (I a) k p * sp_sh (I c) (I a) k p) j), .int (nI j), .retAddr 0], [.ref o, .int (nI j)])) (h' := (G, I, F)) (hs' := []) rfl rfl ?_
    refine vm_J.call vm_q72 (Z := vm_M62) (n := 0) (k := 0) (mi := 62) (pc := 6) (en := (6, .invokevirtual 140, 3, [62, 879, 0], .null)) rfl trivial rfl rfl vm_z62 (av := [.ref o]) (rest := [.int (nI j)]) (m_Sh_pixels ho hw hh) ⟨_, _, rfl, rfl, _, 6, _, ho, rfl, rfl, rfl⟩ (Nat.le_of_ble_eq_true rfl) ⟨Nat.le_of_ble_eq_true rfl, Nat.le_of_ble_eq_true rfl⟩ ⟨Nat.le_of_ble_eq_true rfl, Nat.le_of_ble_eq_true rfl⟩ ?_
    show vm_J _ _ _ (9, (0, 0), [.ref o, .int k, .int (sp_sum (fun p => sp_sh (I c) (I a) k p * sp_sh (I c) (I a) k p) j), .int (nI j), .retAddr 0], [.int (nI (w * h)), .int (nI j)]) (G, I, F) _ _
    refine vm_J.go vm_q72 (k := 1) (hs := []) (f' := (bif vm_ic .ge (nI j) (nI (w * h)) then 34 else 12, (0, 0), [.ref o, .int k, .int (sp_sum (fun p => sp_sh (I c) (I a) k p * sp_sh (I c) (I a) k p) j), .int (nI j), .retAddr 0], [])) (h' := (G, I, F)) (hs' := []) rfl rfl ?_
    refine vm_J.br (fun c1 => ?_) (fun c1 => ?_)
    · have c1 := vm_ge_t (a := j) (b := w * h) (by omega) (by omega) c1
      exact (show False by omega).elim
    · have c1 := vm_ge_f (a := j) (b := w * h) (by omega) (by omega) c1
      refine vm_J.go vm_q72 (k := 3) (hs := []) (f' := (15, (0, 0), [.ref o, .int k, .int (sp_sum (fun p => sp_sh (I c) (I a) k p * sp_sh (I c) (I a) k p) j), .int (nI j), .retAddr 0], [.int k, .int (nI j), .ref o])) (h' := (G, I, F)) (hs' := []) rfl rfl ?_
      refine vm_J.call vm_q72 (Z := vm_M71) (n := 2) (k := 0) (mi := 71) (pc := 15) (en := (15, .invokevirtual 144, 3, [71, 903, 0], .null)) rfl trivial rfl rfl vm_z71 (av := [.ref o, .int (nI j), .int k]) (rest := []) (m_Sh_shiftAt (p := j) (k := k) ho ha hc (by omega)) ⟨_, _, rfl, rfl, _, 6, _, ho, rfl, rfl, rfl⟩ (Nat.le_of_ble_eq_true rfl) ⟨Nat.le_of_ble_eq_true rfl, Nat.le_of_ble_eq_true rfl⟩ ⟨Nat.le_of_ble_eq_true rfl, Nat.le_of_ble_eq_true rfl⟩ ?_
      show vm_J _ _ _ (18, (0, 0), [.ref o, .int k, .int (sp_sum (fun p => sp_sh (I c) (I a) k p * sp_sh (I c) (I a) k p) j), .int (nI j), .retAddr 0], [.int (sp_sh (I c) (I a) k j)]) (G, I, F) _ _
      refine vm_J.go vm_q72 (k := 9) (hs := []) (f' := (4, (0, 0), [.ref o, .int k, .int ((sp_sum (fun p => sp_sh (I c) (I a) k p * sp_sh (I c) (I a) k p) j) + ((sp_sh (I c) (I a) k j) * (sp_sh (I c) (I a) k j))), .int ((nI j) + 1), .int (sp_sh (I c) (I a) k j)], [])) (h' := (G, I, F)) (hs' := []) rfl rfl ?_
      rw [((vm_pa (rfl : nI j = nI j) (rfl : (1 : Int32) = nI 1)) : (nI j) + 1 = nI (j + 1))]
      refine vm_J.mask [true, true, true, true, false] ?_
      show vm_J _ _ _ (4, (0, 0), [.ref o, .int k, .int ((sp_sum (fun p => sp_sh (I c) (I a) k p * sp_sh (I c) (I a) k p) j) + ((sp_sh (I c) (I a) k j) * (sp_sh (I c) (I a) k j))), .int (nI (j + 1)), .retAddr 0], []) (G, I, F) _ _
      rw [show ((sp_sum (fun p => sp_sh (I c) (I a) k p * sp_sh (I c) (I a) k p) j) + ((sp_sh (I c) (I a) k j) * (sp_sh (I c) (I a) k j)) : Int32) = sp_sum (fun p => sp_sh (I c) (I a) k p * sp_sh (I c) (I a) k p) (j + 1) from by rfl]
      exact ij trivial
  · show vm_J _ _ _ (4, (0, 0), [.ref o, .int k, .int (sp_sum (fun p => sp_sh (I c) (I a) k p * sp_sh (I c) (I a) k p) (w * h)), .int (nI (w * h)), .retAddr 0], []) (G, I, F) _ _
    refine vm_J.go vm_q72 (k := 2) (hs := []) (f' := (6, (0, 0), [.ref o, .int k, .int (sp_sum (fun p => sp_sh (I c) (I a) k p * sp_sh (I c) (I a) k p) (w * h)), .int (nI (w * h)), .retAddr 0], [.ref o, .int (nI (w * h))])) (h' := (G, I, F)) (hs' := []) rfl rfl ?_
    refine vm_J.call vm_q72 (Z := vm_M62) (n := 0) (k := 0) (mi := 62) (pc := 6) (en := (6, .invokevirtual 140, 3, [62, 879, 0], .null)) rfl trivial rfl rfl vm_z62 (av := [.ref o]) (rest := [.int (nI (w * h))]) (m_Sh_pixels ho hw hh) ⟨_, _, rfl, rfl, _, 6, _, ho, rfl, rfl, rfl⟩ (Nat.le_of_ble_eq_true rfl) ⟨Nat.le_of_ble_eq_true rfl, Nat.le_of_ble_eq_true rfl⟩ ⟨Nat.le_of_ble_eq_true rfl, Nat.le_of_ble_eq_true rfl⟩ ?_
    show vm_J _ _ _ (9, (0, 0), [.ref o, .int k, .int (sp_sum (fun p => sp_sh (I c) (I a) k p * sp_sh (I c) (I a) k p) (w * h)), .int (nI (w * h)), .retAddr 0], [.int (nI (w * h)), .int (nI (w * h))]) (G, I, F) _ _
    refine vm_J.go vm_q72 (k := 1) (hs := []) (f' := (bif vm_ic .ge (nI (w * h)) (nI (w * h)) then 34 else 12, (0, 0), [.ref o, .int k, .int (sp_sum (fun p => sp_sh (I c) (I a) k p * sp_sh (I c) (I a) k p) (w * h)), .int (nI (w * h)), .retAddr 0], [])) (h' := (G, I, F)) (hs' := []) rfl rfl ?_
    refine vm_J.br (fun c2 => ?_) (fun c2 => ?_)
    · have c2 := vm_ge_t (a := (w * h)) (b := w * h) (by omega) (by omega) c2
      refine vm_J.go vm_q72 (k := 1) (hs := []) (f' := (35, (0, 0), [.ref o, .int k, .int (sp_sum (fun p => sp_sh (I c) (I a) k p * sp_sh (I c) (I a) k p) (w * h)), .int (nI (w * h)), .retAddr 0], [.int (sp_sum (fun p => sp_sh (I c) (I a) k p * sp_sh (I c) (I a) k p) (w * h))])) (h' := (G, I, F)) (hs' := []) rfl rfl ?_
      exact vm_J.end vm_q72 (en := (35, .ireturn, 1, [], .null)) rfl rfl vm_rI (Nat.zero_le _) (Nat.zero_le _) rfl
    · have c2 := vm_ge_f (a := (w * h)) (b := w * h) (by omega) (by omega) c2
      exact (show False by omega).elim
set_option maxHeartbeats 4000000 in
set_option maxRecDepth 20000 in
/-- DitherDesk$Sheet.errorOnAll  -/
theorem m_Sh_errorOnAll {l : Launch} {X : vm_Cx} {G : List vm_Sh} {I : Nat → Nat → Int32} {F : Nat → Nat → UInt32} {o a b c d e f w h : Nat} (ho : G[o]? = some (8, 9, [.int 0, .int 0, .int 0, .ref a, .ref b, .ref c, .ref d, .ref e, .ref f])) (ha : G[a]? = some (0, 144, [])) (hc : G[c]? = some (0, 144, [])) (hw : I o 1 = nI w) (hh : I o 2 = nI h) (hw2 : w ≤ 12) (hh2 : h ≤ 12) : vm_K l X vm_M73 [.ref o] (G, I, F) (some (.int (sp_sum (fun p => sp_sh (I c) (I a) 0 p * sp_sh (I c) (I a) 0 p) (w * h) + sp_sum (fun p => sp_sh (I c) (I a) 1 p * sp_sh (I c) (I a) 1 p) (w * h) + sp_sum (fun p => sp_sh (I c) (I a) 2 p * sp_sh (I c) (I a) 2 p) (w * h)))) (G, I, F) := by
  refine vm_K.mk (by decide) (Nat.le_of_ble_eq_true rfl) ?_
  show vm_J _ _ _ (0, (0, 0), [.ref o], []) _ _ _
  refine vm_J.go vm_q73 (k := 2) (hs := []) (f' := (2, (0, 0), [.ref o], [.int 0, .ref o])) (h' := (G, I, F)) (hs' := []) rfl rfl ?_
  refine vm_J.call vm_q73 (Z := vm_M72) (n := 1) (k := 0) (mi := 72) (pc := 2) (en := (2, .invokevirtual 147, 3, [72, 899, 0], .null)) rfl trivial rfl rfl vm_z72 (av := [.ref o, .int 0]) (rest := []) (m_Sh_errorOn (k := 0) ho ha hc hw hh (by omega) (by omega)) ⟨_, _, rfl, rfl, _, 6, _, ho, rfl, rfl, rfl⟩ (Nat.le_of_ble_eq_true rfl) ⟨Nat.le_of_ble_eq_true rfl, Nat.le_of_ble_eq_true rfl⟩ ⟨Nat.le_of_ble_eq_true rfl, Nat.le_of_ble_eq_true rfl⟩ ?_
  show vm_J _ _ _ (5, (0, 0), [.ref o], [.int (sp_sum (fun p => sp_sh (I c) (I a) 0 p * sp_sh (I c) (I a) 0 p) (w * h))]) (G, I, F) _ _
  refine vm_J.go vm_q73 (k := 2) (hs := []) (f' := (7, (0, 0), [.ref o], [.int 1, .ref o, .int (sp_sum (fun p => sp_sh (I c) (I a) 0 p * sp_sh (I c) (I a) 0 p) (w * h))])) (h' := (G, I, F)) (hs' := []) rfl rfl ?_
  refine vm_J.call vm_q73 (Z := vm_M72) (n := 1) (k := 0) (mi := 72) (pc := 7) (en := (7, .invokevirtual 147, 3, [72, 899, 0], .null)) rfl trivial rfl rfl vm_z72 (av := [.ref o, .int 1]) (rest := [.int (sp_sum (fun p => sp_sh (I c) (I a) 0 p * sp_sh (I c) (I a) 0 p) (w * h))]) (m_Sh_errorOn (k := 1) ho ha hc hw hh (by omega) (by omega)) ⟨_, _, rfl, rfl, _, 6, _, ho, rfl, rfl, rfl⟩ (Nat.le_of_ble_eq_true rfl) ⟨Nat.le_of_ble_eq_true rfl, Nat.le_of_ble_eq_true rfl⟩ ⟨Nat.le_of_ble_eq_true rfl, Nat.le_of_ble_eq_true rfl⟩ ?_
  show vm_J _ _ _ (10, (0, 0), [.ref o], [.int (sp_sum (fun p => sp_sh (I c) (I a) 1 p * sp_sh (I c) (I a) 1 p) (w * h)), .int (sp_sum (fun p => sp_sh (I c) (I a) 0 p * sp_sh (I c) (I a) 0 p) (w * h))]) (G, I, F) _ _
  refine vm_J.go vm_q73 (k := 3) (hs := []) (f' := (13, (0, 0), [.ref o], [.int 2, .ref o, .int ((sp_sum (fun p => sp_sh (I c) (I a) 0 p * sp_sh (I c) (I a) 0 p) (w * h)) + (sp_sum (fun p => sp_sh (I c) (I a) 1 p * sp_sh (I c) (I a) 1 p) (w * h)))])) (h' := (G, I, F)) (hs' := []) rfl rfl ?_
  refine vm_J.call vm_q73 (Z := vm_M72) (n := 1) (k := 0) (mi := 72) (pc := 13) (en := (13, .invokevirtual 147, 3, [72, 899, 0], .null)) rfl trivial rfl rfl vm_z72 (av := [.ref o, .int 2]) (rest := [.int ((sp_sum (fun p => sp_sh (I c) (I a) 0 p * sp_sh (I c) (I a) 0 p) (w * h)) + (sp_sum (fun p => sp_sh (I c) (I a) 1 p * sp_sh (I c) (I a) 1 p) (w * h)))]) (m_Sh_errorOn (k := 2) ho ha hc hw hh (by omega) (by omega)) ⟨_, _, rfl, rfl, _, 6, _, ho, rfl, rfl, rfl⟩ (Nat.le_of_ble_eq_true rfl) ⟨Nat.le_of_ble_eq_true rfl, Nat.le_of_ble_eq_true rfl⟩ ⟨Nat.le_of_ble_eq_true rfl, Nat.le_of_ble_eq_true rfl⟩ ?_
  show vm_J _ _ _ (16, (0, 0), [.ref o], [.int (sp_sum (fun p => sp_sh (I c) (I a) 2 p * sp_sh (I c) (I a) 2 p) (w * h)), .int ((sp_sum (fun p => sp_sh (I c) (I a) 0 p * sp_sh (I c) (I a) 0 p) (w * h)) + (sp_sum (fun p => sp_sh (I c) (I a) 1 p * sp_sh (I c) (I a) 1 p) (w * h)))]) (G, I, F) _ _
  refine vm_J.go vm_q73 (k := 1) (hs := []) (f' := (17, (0, 0), [.ref o], [.int (((sp_sum (fun p => sp_sh (I c) (I a) 0 p * sp_sh (I c) (I a) 0 p) (w * h)) + (sp_sum (fun p => sp_sh (I c) (I a) 1 p * sp_sh (I c) (I a) 1 p) (w * h))) + (sp_sum (fun p => sp_sh (I c) (I a) 2 p * sp_sh (I c) (I a) 2 p) (w * h)))])) (h' := (G, I, F)) (hs' := []) rfl rfl ?_
  exact vm_J.end vm_q73 (en := (17, .ireturn, 1, [], .null)) rfl rfl vm_rI (Nat.zero_le _) (Nat.zero_le _) rfl
set_option maxHeartbeats 4000000 in
set_option maxRecDepth 20000 in
/-- DitherDesk$Sheet.shiftOn  -/
theorem m_Sh_shiftOn {l : Launch} {X : vm_Cx} {G : List vm_Sh} {I : Nat → Nat → Int32} {F : Nat → Nat → UInt32} {o a b c d e f w h : Nat} {k : Int32} (ho : G[o]? = some (8, 9, [.int 0, .int 0, .int 0, .ref a, .ref b, .ref c, .ref d, .ref e, .ref f])) (ha : G[a]? = some (0, 144, [])) (hc : G[c]? = some (0, 144, [])) (hw : I o 1 = nI w) (hh : I o 2 = nI h) (hw2 : w ≤ 12) (hh2 : h ≤ 12) : vm_K l X vm_M74 [.ref o, .int k] (G, I, F) (some (.int (sp_sum (fun p => sp_sh (I c) (I a) k p) (w * h)))) (G, I, F) := by
  refine vm_K.mk (by decide) (Nat.le_of_ble_eq_true rfl) ?_
  have hwh := vm_mul144 hw2 hh2
  show vm_J _ _ _ (0, (0, 0), [.ref o, .int k, .retAddr 0, .retAddr 0], []) _ _ _
  refine vm_J.go vm_q74 (k := 4) (hs := []) (f' := (4, (0, 0), [.ref o, .int k, .int 0, .int 0], [])) (h' := (G, I, F)) (hs' := []) rfl rfl ?_
  refine vm_J.cnt (w * h) (fun j => (4, (0, 0), [.ref o, .int k, .int (sp_sum (fun p => sp_sh (I c) (I a) k p) j), .int (nI j)], [])) (fun j => (G, I, F)) (fun _ => True) rfl rfl trivial (fun j hj pj ij => ?_) (fun pj => ?_)
  · show vm_J _ _ _ (4, (0, 0), [.ref o, .int k, .int (sp_sum (fun p => sp_sh (I c) (I a) k p) j), .int (nI j)], []) (G, I, F) _ _
    refine vm_J.go vm_q74 (k := 2) (hs := []) (f' := (6, (0, 0), [.ref o, .int k, .int (sp_sum (fun p => sp_sh (I c) (I a) k p) j), .int (nI j)], [.ref o, .int (nI j)])) (h' := (G, I, F)) (hs' := []) rfl rfl ?_
    refine vm_J.call vm_q74 (Z := vm_M62) (n := 0) (k := 0) (mi := 62) (pc := 6) (en := (6, .invokevirtual 140, 3, [62, 879, 0], .null)) rfl trivial rfl rfl vm_z62 (av := [.ref o]) (rest := [.int (nI j)]) (m_Sh_pixels ho hw hh) ⟨_, _, rfl, rfl, _, 6, _, ho, rfl, rfl, rfl⟩ (Nat.le_of_ble_eq_true rfl) ⟨Nat.le_of_ble_eq_true rfl, Nat.le_of_ble_eq_true rfl⟩ ⟨Nat.le_of_ble_eq_true rfl, Nat.le_of_ble_eq_true rfl⟩ ?_
    show vm_J _ _ _ (9, (0, 0), [.ref o, .int k, .int (sp_sum (fun p => sp_sh (I c) (I a) k p) j), .int (nI j)], [.int (nI (w * h)), .int (nI j)]) (G, I, F) _ _
    refine vm_J.go vm_q74 (k := 1) (hs := []) (f' := (bif vm_ic .ge (nI j) (nI (w * h)) then 27 else 12, (0, 0), [.ref o, .int k, .int (sp_sum (fun p => sp_sh (I c) (I a) k p) j), .int (nI j)], [])) (h' := (G, I, F)) (hs' := []) rfl rfl ?_
    refine vm_J.br (fun c1 => ?_) (fun c1 => ?_)
    · have c1 := vm_ge_t (a := j) (b := w * h) (by omega) (by omega) c1
      exact (show False by omega).elim
    · have c1 := vm_ge_f (a := j) (b := w * h) (by omega) (by omega) c1
      refine vm_J.go vm_q74 (k := 4) (hs := []) (f' := (16, (0, 0), [.ref o, .int k, .int (sp_sum (fun p => sp_sh (I c) (I a) k p) j), .int (nI j)], [.int k, .int (nI j), .ref o, .int (sp_sum (fun p => sp_sh (I c) (I a) k p) j)])) (h' := (G, I, F)) (hs' := []) rfl rfl ?_
      refine vm_J.call vm_q74 (Z := vm_M71) (n := 2) (k := 0) (mi := 71) (pc := 16) (en := (16, .invokevirtual 144, 3, [71, 903, 0], .null)) rfl trivial rfl rfl vm_z71 (av := [.ref o, .int (nI j), .int k]) (rest := [.int (sp_sum (fun p => sp_sh (I c) (I a) k p) j)]) (m_Sh_shiftAt (p := j) (k := k) ho ha hc (by omega)) ⟨_, _, rfl, rfl, _, 6, _, ho, rfl, rfl, rfl⟩ (Nat.le_of_ble_eq_true rfl) ⟨Nat.le_of_ble_eq_true rfl, Nat.le_of_ble_eq_true rfl⟩ ⟨Nat.le_of_ble_eq_true rfl, Nat.le_of_ble_eq_true rfl⟩ ?_
      show vm_J _ _ _ (19, (0, 0), [.ref o, .int k, .int (sp_sum (fun p => sp_sh (I c) (I a) k p) j), .int (nI j)], [.int (sp_sh (I c) (I a) k j), .int (sp_sum (fun p => sp_sh (I c) (I a) k p) j)]) (G, I, F) _ _
      refine vm_J.go vm_q74 (k := 4) (hs := []) (f' := (4, (0, 0), [.ref o, .int k, .int ((sp_sum (fun p => sp_sh (I c) (I a) k p) j) + (sp_sh (I c) (I a) k j)), .int ((nI j) + 1)], [])) (h' := (G, I, F)) (hs' := []) rfl rfl ?_
      rw [((vm_pa (rfl : nI j = nI j) (rfl : (1 : Int32) = nI 1)) : (nI j) + 1 = nI (j + 1))]
      rw [show ((sp_sum (fun p => sp_sh (I c) (I a) k p) j) + (sp_sh (I c) (I a) k j) : Int32) = sp_sum (fun p => sp_sh (I c) (I a) k p) (j + 1) from by rfl]
      exact ij trivial
  · show vm_J _ _ _ (4, (0, 0), [.ref o, .int k, .int (sp_sum (fun p => sp_sh (I c) (I a) k p) (w * h)), .int (nI (w * h))], []) (G, I, F) _ _
    refine vm_J.go vm_q74 (k := 2) (hs := []) (f' := (6, (0, 0), [.ref o, .int k, .int (sp_sum (fun p => sp_sh (I c) (I a) k p) (w * h)), .int (nI (w * h))], [.ref o, .int (nI (w * h))])) (h' := (G, I, F)) (hs' := []) rfl rfl ?_
    refine vm_J.call vm_q74 (Z := vm_M62) (n := 0) (k := 0) (mi := 62) (pc := 6) (en := (6, .invokevirtual 140, 3, [62, 879, 0], .null)) rfl trivial rfl rfl vm_z62 (av := [.ref o]) (rest := [.int (nI (w * h))]) (m_Sh_pixels ho hw hh) ⟨_, _, rfl, rfl, _, 6, _, ho, rfl, rfl, rfl⟩ (Nat.le_of_ble_eq_true rfl) ⟨Nat.le_of_ble_eq_true rfl, Nat.le_of_ble_eq_true rfl⟩ ⟨Nat.le_of_ble_eq_true rfl, Nat.le_of_ble_eq_true rfl⟩ ?_
    show vm_J _ _ _ (9, (0, 0), [.ref o, .int k, .int (sp_sum (fun p => sp_sh (I c) (I a) k p) (w * h)), .int (nI (w * h))], [.int (nI (w * h)), .int (nI (w * h))]) (G, I, F) _ _
    refine vm_J.go vm_q74 (k := 1) (hs := []) (f' := (bif vm_ic .ge (nI (w * h)) (nI (w * h)) then 27 else 12, (0, 0), [.ref o, .int k, .int (sp_sum (fun p => sp_sh (I c) (I a) k p) (w * h)), .int (nI (w * h))], [])) (h' := (G, I, F)) (hs' := []) rfl rfl ?_
    refine vm_J.br (fun c2 => ?_) (fun c2 => ?_)
    · have c2 := vm_ge_t (a := (w * h)) (b := w * h) (by omega) (by omega) c2
      refine vm_J.go vm_q74 (k := 1) (hs := []) (f' := (28, (0, 0), [.ref o, .int k, .int (sp_sum (fun p => sp_sh (I c) (I a) k p) (w * h)), .int (nI (w * h))], [.int (sp_sum (fun p => sp_sh (I c) (I a) k p) (w * h))])) (h' := (G, I, F)) (hs' := []) rfl rfl ?_
      exact vm_J.end vm_q74 (en := (28, .ireturn, 1, [], .null)) rfl rfl vm_rI (Nat.zero_le _) (Nat.zero_le _) rfl
    · have c2 := vm_ge_f (a := (w * h)) (b := w * h) (by omega) (by omega) c2
      exact (show False by omega).elim
set_option maxHeartbeats 4000000 in
set_option maxRecDepth 20000 in
/-- DitherDesk$Sheet.pixelsWith  -/
theorem m_Sh_pixelsWith {l : Launch} {X : vm_Cx} {G : List vm_Sh} {I : Nat → Nat → Int32} {F : Nat → Nat → UInt32} {o a b c d e f w h : Nat} {k : Int32} (ho : G[o]? = some (8, 9, [.int 0, .int 0, .int 0, .ref a, .ref b, .ref c, .ref d, .ref e, .ref f])) (hb : G[b]? = some (0, 144, [])) (hw : I o 1 = nI w) (hh : I o 2 = nI h) (hw2 : w ≤ 12) (hh2 : h ≤ 12) : vm_K l X vm_M78 [.ref o, .int k] (G, I, F) (some (.int (sp_sum (fun p => if I b p = k then 1 else 0) (w * h)))) (G, I, F) := by
  refine vm_K.mk (by decide) (Nat.le_of_ble_eq_true rfl) ?_
  have hwh := vm_mul144 hw2 hh2
  show vm_J _ _ _ (0, (0, 0), [.ref o, .int k, .retAddr 0, .retAddr 0], []) _ _ _
  refine vm_J.go vm_q78 (k := 4) (hs := []) (f' := (4, (0, 0), [.ref o, .int k, .int 0, .int 0], [])) (h' := (G, I, F)) (hs' := []) rfl rfl ?_
  refine vm_J.cnt (w * h) (fun j => (4, (0, 0), [.ref o, .int k, .int (sp_sum (fun p => if I b p = k then 1 else 0) j), .int (nI j)], [])) (fun j => (G, I, F)) (fun _ => True) rfl rfl trivial (fun j hj pj ij => ?_) (fun pj => ?_)
  · show vm_J _ _ _ (4, (0, 0), [.ref o, .int k, .int (sp_sum (fun p => if I b p = k then 1 else 0) j), .int (nI j)], []) (G, I, F) _ _
    refine vm_J.go vm_q78 (k := 2) (hs := []) (f' := (6, (0, 0), [.ref o, .int k, .int (sp_sum (fun p => if I b p = k then 1 else 0) j), .int (nI j)], [.ref o, .int (nI j)])) (h' := (G, I, F)) (hs' := []) rfl rfl ?_
    refine vm_J.call vm_q78 (Z := vm_M62) (n := 0) (k := 0) (mi := 62) (pc := 6) (en := (6, .invokevirtual 140, 3, [62, 879, 0], .null)) rfl trivial rfl rfl vm_z62 (av := [.ref o]) (rest := [.int (nI j)]) (m_Sh_pixels ho hw hh) ⟨_, _, rfl, rfl, _, 6, _, ho, rfl, rfl, rfl⟩ (Nat.le_of_ble_eq_true rfl) ⟨Nat.le_of_ble_eq_true rfl, Nat.le_of_ble_eq_true rfl⟩ ⟨Nat.le_of_ble_eq_true rfl, Nat.le_of_ble_eq_true rfl⟩ ?_
    show vm_J _ _ _ (9, (0, 0), [.ref o, .int k, .int (sp_sum (fun p => if I b p = k then 1 else 0) j), .int (nI j)], [.int (nI (w * h)), .int (nI j)]) (G, I, F) _ _
    refine vm_J.go vm_q78 (k := 1) (hs := []) (f' := (bif vm_ic .ge (nI j) (nI (w * h)) then 33 else 12, (0, 0), [.ref o, .int k, .int (sp_sum (fun p => if I b p = k then 1 else 0) j), .int (nI j)], [])) (h' := (G, I, F)) (hs' := []) rfl rfl ?_
    refine vm_J.br (fun c1 => ?_) (fun c1 => ?_)
    · have c1 := vm_ge_t (a := j) (b := w * h) (by omega) (by omega) c1
      exact (show False by omega).elim
    · have c1 := vm_ge_f (a := j) (b := w * h) (by omega) (by omega) c1
      refine vm_J.go vm_q78 (k := 3) (hs := [(8, 9, [.int 0, .int 0, .int 0, .ref a, .ref b, .ref c, .ref d, .ref e, .ref f])]) (f' := (17, (0, 0), [.ref o, .int k, .int (sp_sum (fun p => if I b p = k then 1 else 0) j), .int (nI j)], [.int (nI j), .ref b])) (h' := (G, I, F)) (hs' := []) rfl (vm_b2 rfl (vm_b2 (vm_b2 (vm_hG ho) rfl) (vm_b2 rfl rfl))) ?_
      refine vm_J.call vm_q78 (Z := vm_M152) (n := 2) (k := 1) (mi := 152) (pc := 17) (en := (17, .invokestatic 49, 3, [152, 833, 1], .null)) rfl trivial rfl rfl vm_z152 (av := [.ref b, .int (nI j)]) (rest := []) (m_at_n (j := j) hb (by omega) (by omega)) rfl (Nat.le_of_ble_eq_true rfl) ⟨Nat.le_of_ble_eq_true rfl, Nat.le_of_ble_eq_true rfl⟩ ⟨Nat.le_of_ble_eq_true rfl, Nat.le_of_ble_eq_true rfl⟩ ?_
      show vm_J _ _ _ (20, (0, 0), [.ref o, .int k, .int (sp_sum (fun p => if I b p = k then 1 else 0) j), .int (nI j)], [.int (I b j)]) (G, I, F) _ _
      refine vm_J.go vm_q78 (k := 2) (hs := []) (f' := (bif vm_ic .ne (I b j) k then 27 else 24, (0, 0), [.ref o, .int k, .int (sp_sum (fun p => if I b p = k then 1 else 0) j), .int (nI j)], [])) (h' := (G, I, F)) (hs' := []) rfl rfl ?_
      refine vm_J.br (fun c2 => ?_) (fun c2 => ?_)
      · have c2 : ¬ (I b j) = k := of_decide_eq_true c2
        refine vm_J.go vm_q78 (k := 2) (hs := []) (f' := (4, (0, 0), [.ref o, .int k, .int (sp_sum (fun p => if I b p = k then 1 else 0) j), .int ((nI j) + 1)], [])) (h' := (G, I, F)) (hs' := []) rfl rfl ?_
        rw [((vm_pa (rfl : nI j = nI j) (rfl : (1 : Int32) = nI 1)) : (nI j) + 1 = nI (j + 1))]
        rw [show (sp_sum (fun p => if I b p = k then 1 else 0) j : Int32) = sp_sum (fun p => if I b p = k then 1 else 0) (j + 1) from by simp [sp_sum, c1, c2]]
        exact ij trivial
      · have c2 : (I b j) = k := Decidable.of_not_not (of_decide_eq_false c2)
        refine vm_J.go vm_q78 (k := 3) (hs := []) (f' := (4, (0, 0), [.ref o, .int k, .int ((sp_sum (fun p => if I b p = k then 1 else 0) j) + 1), .int ((nI j) + 1)], [])) (h' := (G, I, F)) (hs' := []) rfl rfl ?_
        rw [((vm_pa (rfl : nI j = nI j) (rfl : (1 : Int32) = nI 1)) : (nI j) + 1 = nI (j + 1))]
        rw [show ((sp_sum (fun p => if I b p = k then 1 else 0) j) + 1 : Int32) = sp_sum (fun p => if I b p = k then 1 else 0) (j + 1) from by simp [sp_sum, c1, c2]]
        exact ij trivial
  · show vm_J _ _ _ (4, (0, 0), [.ref o, .int k, .int (sp_sum (fun p => if I b p = k then 1 else 0) (w * h)), .int (nI (w * h))], []) (G, I, F) _ _
    refine vm_J.go vm_q78 (k := 2) (hs := []) (f' := (6, (0, 0), [.ref o, .int k, .int (sp_sum (fun p => if I b p = k then 1 else 0) (w * h)), .int (nI (w * h))], [.ref o, .int (nI (w * h))])) (h' := (G, I, F)) (hs' := []) rfl rfl ?_
    refine vm_J.call vm_q78 (Z := vm_M62) (n := 0) (k := 0) (mi := 62) (pc := 6) (en := (6, .invokevirtual 140, 3, [62, 879, 0], .null)) rfl trivial rfl rfl vm_z62 (av := [.ref o]) (rest := [.int (nI (w * h))]) (m_Sh_pixels ho hw hh) ⟨_, _, rfl, rfl, _, 6, _, ho, rfl, rfl, rfl⟩ (Nat.le_of_ble_eq_true rfl) ⟨Nat.le_of_ble_eq_true rfl, Nat.le_of_ble_eq_true rfl⟩ ⟨Nat.le_of_ble_eq_true rfl, Nat.le_of_ble_eq_true rfl⟩ ?_
    show vm_J _ _ _ (9, (0, 0), [.ref o, .int k, .int (sp_sum (fun p => if I b p = k then 1 else 0) (w * h)), .int (nI (w * h))], [.int (nI (w * h)), .int (nI (w * h))]) (G, I, F) _ _
    refine vm_J.go vm_q78 (k := 1) (hs := []) (f' := (bif vm_ic .ge (nI (w * h)) (nI (w * h)) then 33 else 12, (0, 0), [.ref o, .int k, .int (sp_sum (fun p => if I b p = k then 1 else 0) (w * h)), .int (nI (w * h))], [])) (h' := (G, I, F)) (hs' := []) rfl rfl ?_
    refine vm_J.br (fun c3 => ?_) (fun c3 => ?_)
    · have c3 := vm_ge_t (a := (w * h)) (b := w * h) (by omega) (by omega) c3
      refine vm_J.go vm_q78 (k := 1) (hs := []) (f' := (34, (0, 0), [.ref o, .int k, .int (sp_sum (fun p => if I b p = k then 1 else 0) (w * h)), .int (nI (w * h))], [.int (sp_sum (fun p => if I b p = k then 1 else 0) (w * h))])) (h' := (G, I, F)) (hs' := []) rfl rfl ?_
      exact vm_J.end vm_q78 (en := (34, .ireturn, 1, [], .null)) rfl rfl vm_rI (Nat.zero_le _) (Nat.zero_le _) rfl
    · have c3 := vm_ge_f (a := (w * h)) (b := w * h) (by omega) (by omega) c3
      exact (show False by omega).elim
set_option maxHeartbeats 4000000 in
set_option maxRecDepth 20000 in
/-- DitherDesk$Sheet.unlikeEntries  -/
theorem m_Sh_unlike {l : Launch} {X : vm_Cx} {G : List vm_Sh} {I : Nat → Nat → Int32} {F : Nat → Nat → UInt32} {o a b c d e f w h : Nat} (ho : G[o]? = some (8, 9, [.int 0, .int 0, .int 0, .ref a, .ref b, .ref c, .ref d, .ref e, .ref f])) (hb : G[b]? = some (0, 144, [])) (hw : I o 1 = nI w) (hh : I o 2 = nI h) (hw2 : w ≤ 12) (hh2 : h ≤ 12) : vm_K l X vm_M79 [.ref o] (G, I, F) (some (.int (sp_sum (fun e => if 0 < sp_sum (fun p => if I b p = nI e then 1 else 0) (w * h) then 1 else 0) 16))) (G, I, F) := by
  refine vm_K.mk (by decide) (Nat.le_of_ble_eq_true rfl) ?_
  have hwh := vm_mul144 hw2 hh2
  show vm_J _ _ _ (0, (0, 0), [.ref o, .retAddr 0, .retAddr 0], []) _ _ _
  refine vm_J.go vm_q79 (k := 4) (hs := []) (f' := (4, (0, 0), [.ref o, .int 0, .int 0], [])) (h' := (G, I, F)) (hs' := []) rfl rfl ?_
  refine vm_J.cnt 16 (fun j => (4, (0, 0), [.ref o, .int (sp_sum (fun e => if 0 < sp_sum (fun p => if I b p = nI e then 1 else 0) (w * h) then 1 else 0) j), .int (nI j)], [])) (fun j => (G, I, F)) (fun _ => True) rfl rfl trivial (fun j hj pj ij => ?_) (fun pj => ?_)
  · show vm_J _ _ _ (4, (0, 0), [.ref o, .int (sp_sum (fun e => if 0 < sp_sum (fun p => if I b p = nI e then 1 else 0) (w * h) then 1 else 0) j), .int (nI j)], []) (G, I, F) _ _
    refine vm_J.go vm_q79 (k := 3) (hs := []) (f' := (bif vm_ic .ge (nI j) 16 then 27 else 10, (0, 0), [.ref o, .int (sp_sum (fun e => if 0 < sp_sum (fun p => if I b p = nI e then 1 else 0) (w * h) then 1 else 0) j), .int (nI j)], [])) (h' := (G, I, F)) (hs' := []) rfl rfl ?_
    refine vm_J.br (fun c1 => ?_) (fun c1 => ?_)
    · have c1 := vm_ge_t (a := j) (b := 16) (by omega) (by omega) c1
      exact (show False by omega).elim
    · have c1 := vm_ge_f (a := j) (b := 16) (by omega) (by omega) c1
      refine vm_J.go vm_q79 (k := 2) (hs := []) (f' := (12, (0, 0), [.ref o, .int (sp_sum (fun e => if 0 < sp_sum (fun p => if I b p = nI e then 1 else 0) (w * h) then 1 else 0) j), .int (nI j)], [.int (nI j), .ref o])) (h' := (G, I, F)) (hs' := []) rfl rfl ?_
      refine vm_J.call vm_q79 (Z := vm_M78) (n := 1) (k := 0) (mi := 78) (pc := 12) (en := (12, .invokevirtual 153, 3, [78, 875, 0], .null)) rfl trivial rfl rfl vm_z78 (av := [.ref o, .int (nI j)]) (rest := []) (m_Sh_pixelsWith (k := nI j) ho hb hw hh (by omega) (by omega)) ⟨_, _, rfl, rfl, _, 6, _, ho, rfl, rfl, rfl⟩ (Nat.le_of_ble_eq_true rfl) ⟨Nat.le_of_ble_eq_true rfl, Nat.le_of_ble_eq_true rfl⟩ ⟨Nat.le_of_ble_eq_true rfl, Nat.le_of_ble_eq_true rfl⟩ ?_
      show vm_J _ _ _ (15, (0, 0), [.ref o, .int (sp_sum (fun e => if 0 < sp_sum (fun p => if I b p = nI e then 1 else 0) (w * h) then 1 else 0) j), .int (nI j)], [.int (sp_sum (fun p => if I b p = nI j then 1 else 0) (w * h))]) (G, I, F) _ _
      refine vm_J.go vm_q79 (k := 1) (hs := []) (f' := (bif vm_ic .le (sp_sum (fun p => if I b p = nI j then 1 else 0) (w * h)) 0 then 21 else 18, (0, 0), [.ref o, .int (sp_sum (fun e => if 0 < sp_sum (fun p => if I b p = nI e then 1 else 0) (w * h) then 1 else 0) j), .int (nI j)], [])) (h' := (G, I, F)) (hs' := []) rfl rfl ?_
      refine vm_J.br (fun c2 => ?_) (fun c2 => ?_)
      · have c2 : (sp_sum (fun p => if I b p = nI j then 1 else 0) (w * h)) ≤ 0 := of_decide_eq_true c2
        refine vm_J.go vm_q79 (k := 2) (hs := []) (f' := (4, (0, 0), [.ref o, .int (sp_sum (fun e => if 0 < sp_sum (fun p => if I b p = nI e then 1 else 0) (w * h) then 1 else 0) j), .int ((nI j) + 1)], [])) (h' := (G, I, F)) (hs' := []) rfl rfl ?_
        rw [((vm_pa (rfl : nI j = nI j) (rfl : (1 : Int32) = nI 1)) : (nI j) + 1 = nI (j + 1))]
        rw [show (sp_sum (fun e => if 0 < sp_sum (fun p => if I b p = nI e then 1 else 0) (w * h) then 1 else 0) j : Int32) = sp_sum (fun e => if 0 < sp_sum (fun p => if I b p = nI e then 1 else 0) (w * h) then 1 else 0) (j + 1) from by first | rw [sp_sum, if_pos (vm_nle_g c2)] | (rw [sp_sum, if_neg (vm_le_ng c2)]; exact (Int32.add_zero _).symm)]
        exact ij trivial
      · have c2 : ¬ ((sp_sum (fun p => if I b p = nI j then 1 else 0) (w * h)) ≤ 0) := of_decide_eq_false c2
        refine vm_J.go vm_q79 (k := 3) (hs := []) (f' := (4, (0, 0), [.ref o, .int ((sp_sum (fun e => if 0 < sp_sum (fun p => if I b p = nI e then 1 else 0) (w * h) then 1 else 0) j) + 1), .int ((nI j) + 1)], [])) (h' := (G, I, F)) (hs' := []) rfl rfl ?_
        rw [((vm_pa (rfl : nI j = nI j) (rfl : (1 : Int32) = nI 1)) : (nI j) + 1 = nI (j + 1))]
        rw [show ((sp_sum (fun e => if 0 < sp_sum (fun p => if I b p = nI e then 1 else 0) (w * h) then 1 else 0) j) + 1 : Int32) = sp_sum (fun e => if 0 < sp_sum (fun p => if I b p = nI e then 1 else 0) (w * h) then 1 else 0) (j + 1) from by first | rw [sp_sum, if_pos (vm_nle_g c2)] | (rw [sp_sum, if_neg (vm_le_ng c2)]; exact (Int32.add_zero _).symm)]
        exact ij trivial
  · show vm_J _ _ _ (4, (0, 0), [.ref o, .int (sp_sum (fun e => if 0 < sp_sum (fun p => if I b p = nI e then 1 else 0) (w * h) then 1 else 0) 16), .int (nI 16)], []) (G, I, F) _ _
    refine vm_J.go vm_q79 (k := 3) (hs := []) (f' := (bif vm_ic .ge (nI 16) 16 then 27 else 10, (0, 0), [.ref o, .int (sp_sum (fun e => if 0 < sp_sum (fun p => if I b p = nI e then 1 else 0) (w * h) then 1 else 0) 16), .int (nI 16)], [])) (h' := (G, I, F)) (hs' := []) rfl rfl ?_
    refine vm_J.br (fun c3 => ?_) (fun c3 => ?_)
    · have c3 := vm_ge_t (a := 16) (b := 16) (by omega) (by omega) c3
      refine vm_J.go vm_q79 (k := 1) (hs := []) (f' := (28, (0, 0), [.ref o, .int (sp_sum (fun e => if 0 < sp_sum (fun p => if I b p = nI e then 1 else 0) (w * h) then 1 else 0) 16), .int (nI 16)], [.int (sp_sum (fun e => if 0 < sp_sum (fun p => if I b p = nI e then 1 else 0) (w * h) then 1 else 0) 16)])) (h' := (G, I, F)) (hs' := []) rfl rfl ?_
      exact vm_J.end vm_q79 (en := (28, .ireturn, 1, [], .null)) rfl rfl vm_rI (Nat.zero_le _) (Nat.zero_le _) rfl
    · have c3 := vm_ge_f (a := 16) (b := 16) (by omega) (by omega) c3
      exact (show False by omega).elim
/-- a block's shift -/
def sp_bs (f g : Nat → Int32) (k : Int32) (w h x y : Nat) : Int32 := sp_sum (fun i => sp_sum (fun t => sp_sh f g k ((y + i) * w + (x + t))) (min 2 (w - x))) (min 2 (h - y))
set_option maxHeartbeats 4000000 in
set_option maxRecDepth 20000 in
/-- DitherDesk$Sheet.blockShift  -/
theorem m_Sh_blockShift {l : Launch} {X : vm_Cx} {G : List vm_Sh} {I : Nat → Nat → Int32} {F : Nat → Nat → UInt32} {o a b c d e f w h x y : Nat} {k : Int32} (ho : G[o]? = some (8, 9, [.int 0, .int 0, .int 0, .ref a, .ref b, .ref c, .ref d, .ref e, .ref f])) (ha : G[a]? = some (0, 144, [])) (hc : G[c]? = some (0, 144, [])) (hw : I o 1 = nI w) (hh : I o 2 = nI h) (hw2 : w ≤ 12) (hh2 : h ≤ 12) (hx : x < w) (hy : y < h) : vm_K l X vm_M76 [.ref o, .int (nI x), .int (nI y), .int k] (G, I, F) (some (.int (sp_bs (I c) (I a) k w h x y))) (G, I, F) := by
  refine vm_K.mk (by decide) (Nat.le_of_ble_eq_true rfl) ?_
  have hwh := vm_mul144 hw2 hh2
  show vm_J _ _ _ (0, (0, 0), [.ref o, .int (nI x), .int (nI y), .int k, .retAddr 0, .retAddr 0, .retAddr 0], []) _ _ _
  refine vm_J.go vm_q76 (k := 4) (hs := []) (f' := (6, (0, 0), [.ref o, .int (nI x), .int (nI y), .int k, .int 0, .int (nI y), .retAddr 0], [])) (h' := (G, I, F)) (hs' := []) rfl rfl ?_
  refine vm_J.cnt (min 2 (h - y)) (fun i => (6, (0, 0), [.ref o, .int (nI x), .int (nI y), .int k, .int (sp_sum (fun i => sp_sum (fun t => sp_sh (I c) (I a) k ((y + i) * w + (x + t))) (min 2 (w - x))) i), .int (nI (y + i)), .retAddr 0], [])) (fun i => (G, I, F)) (fun _ => True) rfl rfl trivial (fun i hi pi ii => ?_) (fun pi => ?_)
  · show vm_J _ _ _ (6, (0, 0), [.ref o, .int (nI x), .int (nI y), .int k, .int (sp_sum (fun i => sp_sum (fun t => sp_sh (I c) (I a) k ((y + i) * w + (x + t))) (min 2 (w - x))) i), .int (nI (y + i)), .retAddr 0], []) (G, I, F) _ _
    refine vm_J.go vm_q76 (k := 5) (hs := []) (f' := (bif vm_ic .ge (nI (y + i)) ((nI y) + 2) then 75 else 14, (0, 0), [.ref o, .int (nI x), .int (nI y), .int k, .int (sp_sum (fun i => sp_sum (fun t => sp_sh (I c) (I a) k ((y + i) * w + (x + t))) (min 2 (w - x))) i), .int (nI (y + i)), .retAddr 0], [])) (h' := (G, I, F)) (hs' := []) rfl rfl ?_
    refine vm_J.br (fun c1 => ?_) (fun c1 => ?_)
    · rw [((vm_pa (rfl : (nI y : Int32) = nI y) (rfl : (2 : Int32) = nI 2)) : (nI y) + 2 = nI (y + 2))] at c1
      have c1 := vm_ge_t (a := y + i) (b := y + 2) (by omega) (by omega) c1
      exact (show False by omega).elim
    · rw [((vm_pa (rfl : (nI y : Int32) = nI y) (rfl : (2 : Int32) = nI 2)) : (nI y) + 2 = nI (y + 2))] at c1
      have c1 := vm_ge_f (a := y + i) (b := y + 2) (by omega) (by omega) c1
      refine vm_J.go vm_q76 (k := 4) (hs := [(8, 9, [.int 0, .int 0, .int 0, .ref a, .ref b, .ref c, .ref d, .ref e, .ref f])]) (f' := (bif vm_ic .ge (nI (y + i)) (I o 2) then 75 else 23, (0, 0), [.ref o, .int (nI x), .int (nI y), .int k, .int (sp_sum (fun i => sp_sum (fun t => sp_sh (I c) (I a) k ((y + i) * w + (x + t))) (min 2 (w - x))) i), .int (nI (y + i)), .retAddr 0], [])) (h' := (G, I, F)) (hs' := []) rfl (vm_b2 rfl (vm_b2 rfl (vm_b2 (vm_b2 (vm_hG ho) rfl) (vm_b2 rfl rfl)))) ?_
      refine vm_J.br (fun c2 => ?_) (fun c2 => ?_)
      · rw [(hh : I o 2 = nI h)] at c2
        have c2 := vm_ge_t (a := y + i) (b := h) (by omega) (by omega) c2
        exact (show False by omega).elim
      · rw [(hh : I o 2 = nI h)] at c2
        have c2 := vm_ge_f (a := y + i) (b := h) (by omega) (by omega) c2
        refine vm_J.go vm_q76 (k := 2) (hs := []) (f' := (26, (0, 0), [.ref o, .int (nI x), .int (nI y), .int k, .int (sp_sum (fun i => sp_sum (fun t => sp_sh (I c) (I a) k ((y + i) * w + (x + t))) (min 2 (w - x))) i), .int (nI (y + i)), .int (nI x)], [])) (h' := (G, I, F)) (hs' := []) rfl rfl ?_
        refine vm_J.cnt (min 2 (w - x)) (fun t => (26, (0, 0), [.ref o, .int (nI x), .int (nI y), .int k, .int (sp_sum (fun i => sp_sum (fun t => sp_sh (I c) (I a) k ((y + i) * w + (x + t))) (min 2 (w - x))) i + sp_sum (fun t => sp_sh (I c) (I a) k ((y + i) * w + (x + t))) t), .int (nI (y + i)), .int (nI (x + t))], [])) (fun t => (G, I, F)) (fun _ => True) (by rw [show sp_sum (fun t => sp_sh (I c) (I a) k ((y + i) * w + (x + t))) 0 = 0 from rfl, Int32.add_zero]; rfl) rfl trivial (fun t ht pt it => ?_) (fun pt => ?_)
        · have hlin := vm_lin (x := x + t) (y := y + i) (w := w) (h := h) (by omega) (by omega)
          show vm_J _ _ _ (26, (0, 0), [.ref o, .int (nI x), .int (nI y), .int k, .int (sp_sum (fun i => sp_sum (fun t => sp_sh (I c) (I a) k ((y + i) * w + (x + t))) (min 2 (w - x))) i + sp_sum (fun t => sp_sh (I c) (I a) k ((y + i) * w + (x + t))) t), .int (nI (y + i)), .int (nI (x + t))], []) (G, I, F) _ _
          refine vm_J.go vm_q76 (k := 5) (hs := []) (f' := (bif vm_ic .ge (nI (x + t)) ((nI x) + 2) then 69 else 34, (0, 0), [.ref o, .int (nI x), .int (nI y), .int k, .int (sp_sum (fun i => sp_sum (fun t => sp_sh (I c) (I a) k ((y + i) * w + (x + t))) (min 2 (w - x))) i + sp_sum (fun t => sp_sh (I c) (I a) k ((y + i) * w + (x + t))) t), .int (nI (y + i)), .int (nI (x + t))], [])) (h' := (G, I, F)) (hs' := []) rfl rfl ?_
          refine vm_J.br (fun c3 => ?_) (fun c3 => ?_)
          · rw [((vm_pa (rfl : (nI x : Int32) = nI x) (rfl : (2 : Int32) = nI 2)) : (nI x) + 2 = nI (x + 2))] at c3
            have c3 := vm_ge_t (a := x + t) (b := x + 2) (by omega) (by omega) c3
            exact (show False by omega).elim
          · rw [((vm_pa (rfl : (nI x : Int32) = nI x) (rfl : (2 : Int32) = nI 2)) : (nI x) + 2 = nI (x + 2))] at c3
            have c3 := vm_ge_f (a := x + t) (b := x + 2) (by omega) (by omega) c3
            refine vm_J.go vm_q76 (k := 4) (hs := [(8, 9, [.int 0, .int 0, .int 0, .ref a, .ref b, .ref c, .ref d, .ref e, .ref f])]) (f' := (bif vm_ic .ge (nI (x + t)) (I o 1) then 69 else 43, (0, 0), [.ref o, .int (nI x), .int (nI y), .int k, .int (sp_sum (fun i => sp_sum (fun t => sp_sh (I c) (I a) k ((y + i) * w + (x + t))) (min 2 (w - x))) i + sp_sum (fun t => sp_sh (I c) (I a) k ((y + i) * w + (x + t))) t), .int (nI (y + i)), .int (nI (x + t))], [])) (h' := (G, I, F)) (hs' := []) rfl (vm_b2 rfl (vm_b2 rfl (vm_b2 (vm_b2 (vm_hG ho) rfl) (vm_b2 rfl rfl)))) ?_
            refine vm_J.br (fun c4 => ?_) (fun c4 => ?_)
            · rw [(hw : I o 1 = nI w)] at c4
              have c4 := vm_ge_t (a := x + t) (b := w) (by omega) (by omega) c4
              exact (show False by omega).elim
            · rw [(hw : I o 1 = nI w)] at c4
              have c4 := vm_ge_f (a := x + t) (b := w) (by omega) (by omega) c4
              refine vm_J.go vm_q76 (k := 9) (hs := [(8, 9, [.int 0, .int 0, .int 0, .ref a, .ref b, .ref c, .ref d, .ref e, .ref f])]) (f' := (57, (0, 0), [.ref o, .int (nI x), .int (nI y), .int k, .int (sp_sum (fun i => sp_sum (fun t => sp_sh (I c) (I a) k ((y + i) * w + (x + t))) (min 2 (w - x))) i + sp_sum (fun t => sp_sh (I c) (I a) k ((y + i) * w + (x + t))) t), .int (nI (y + i)), .int (nI (x + t))], [.int k, .int (((nI (y + i)) * (I o 1)) + (nI (x + t))), .ref o, .int (sp_sum (fun i => sp_sum (fun t => sp_sh (I c) (I a) k ((y + i) * w + (x + t))) (min 2 (w - x))) i + sp_sum (fun t => sp_sh (I c) (I a) k ((y + i) * w + (x + t))) t)])) (h' := (G, I, F)) (hs' := []) rfl (vm_b2 rfl (vm_b2 rfl (vm_b2 rfl (vm_b2 rfl (vm_b2 (vm_b2 (vm_hG ho) rfl) (vm_b2 rfl (vm_b2 rfl (vm_b2 rfl (vm_b2 rfl rfl))))))))) ?_
              rw [((vm_pa (vm_pm (rfl : (nI (y + i) : Int32) = nI (y + i)) hw) (rfl : (nI (x + t) : Int32) = nI (x + t))) : ((nI (y + i)) * (I o 1)) + (nI (x + t)) = nI (((y + i) * w) + (x + t)))]
              refine vm_J.call vm_q76 (Z := vm_M71) (n := 2) (k := 0) (mi := 71) (pc := 57) (en := (57, .invokevirtual 144, 3, [71, 903, 0], .null)) rfl trivial rfl rfl vm_z71 (av := [.ref o, .int (nI (((y + i) * w) + (x + t))), .int k]) (rest := [.int (sp_sum (fun i => sp_sum (fun t => sp_sh (I c) (I a) k ((y + i) * w + (x + t))) (min 2 (w - x))) i + sp_sum (fun t => sp_sh (I c) (I a) k ((y + i) * w + (x + t))) t)]) (m_Sh_shiftAt (p := ((y + i) * w) + (x + t)) (k := k) ho ha hc (by omega)) ⟨_, _, rfl, rfl, _, 6, _, ho, rfl, rfl, rfl⟩ (Nat.le_of_ble_eq_true rfl) ⟨Nat.le_of_ble_eq_true rfl, Nat.le_of_ble_eq_true rfl⟩ ⟨Nat.le_of_ble_eq_true rfl, Nat.le_of_ble_eq_true rfl⟩ ?_
              show vm_J _ _ _ (60, (0, 0), [.ref o, .int (nI x), .int (nI y), .int k, .int (sp_sum (fun i => sp_sum (fun t => sp_sh (I c) (I a) k ((y + i) * w + (x + t))) (min 2 (w - x))) i + sp_sum (fun t => sp_sh (I c) (I a) k ((y + i) * w + (x + t))) t), .int (nI (y + i)), .int (nI (x + t))], [.int (sp_sh (I c) (I a) k (((y + i) * w) + (x + t))), .int (sp_sum (fun i => sp_sum (fun t => sp_sh (I c) (I a) k ((y + i) * w + (x + t))) (min 2 (w - x))) i + sp_sum (fun t => sp_sh (I c) (I a) k ((y + i) * w + (x + t))) t)]) (G, I, F) _ _
              refine vm_J.go vm_q76 (k := 4) (hs := []) (f' := (26, (0, 0), [.ref o, .int (nI x), .int (nI y), .int k, .int ((sp_sum (fun i => sp_sum (fun t => sp_sh (I c) (I a) k ((y + i) * w + (x + t))) (min 2 (w - x))) i + sp_sum (fun t => sp_sh (I c) (I a) k ((y + i) * w + (x + t))) t) + (sp_sh (I c) (I a) k (((y + i) * w) + (x + t)))), .int (nI (y + i)), .int ((nI (x + t)) + 1)], [])) (h' := (G, I, F)) (hs' := []) rfl rfl ?_
              rw [((vm_pa (rfl : nI (x + t) = nI (x + t)) (rfl : (1 : Int32) = nI 1)) : (nI (x + t)) + 1 = nI (x + t + 1))]
              rw [show ((sp_sum (fun i => sp_sum (fun t => sp_sh (I c) (I a) k ((y + i) * w + (x + t))) (min 2 (w - x))) i + sp_sum (fun t => sp_sh (I c) (I a) k ((y + i) * w + (x + t))) t) + (sp_sh (I c) (I a) k (((y + i) * w) + (x + t))) : Int32) = sp_sum (fun i => sp_sum (fun t => sp_sh (I c) (I a) k ((y + i) * w + (x + t))) (min 2 (w - x))) i + sp_sum (fun t => sp_sh (I c) (I a) k ((y + i) * w + (x + t))) (t + 1) from by exact Int32.add_assoc _ _ _]
              exact it trivial
        · show vm_J _ _ _ (26, (0, 0), [.ref o, .int (nI x), .int (nI y), .int k, .int (sp_sum (fun i => sp_sum (fun t => sp_sh (I c) (I a) k ((y + i) * w + (x + t))) (min 2 (w - x))) i + sp_sum (fun t => sp_sh (I c) (I a) k ((y + i) * w + (x + t))) (min 2 (w - x))), .int (nI (y + i)), .int (nI (x + (min 2 (w - x))))], []) (G, I, F) _ _
          refine vm_J.go vm_q76 (k := 5) (hs := []) (f' := (bif vm_ic .ge (nI (x + (min 2 (w - x)))) ((nI x) + 2) then 69 else 34, (0, 0), [.ref o, .int (nI x), .int (nI y), .int k, .int (sp_sum (fun i => sp_sum (fun t => sp_sh (I c) (I a) k ((y + i) * w + (x + t))) (min 2 (w - x))) i + sp_sum (fun t => sp_sh (I c) (I a) k ((y + i) * w + (x + t))) (min 2 (w - x))), .int (nI (y + i)), .int (nI (x + (min 2 (w - x))))], [])) (h' := (G, I, F)) (hs' := []) rfl rfl ?_
          refine vm_J.br (fun c5 => ?_) (fun c5 => ?_)
          · rw [((vm_pa (rfl : (nI x : Int32) = nI x) (rfl : (2 : Int32) = nI 2)) : (nI x) + 2 = nI (x + 2))] at c5
            have c5 := vm_ge_t (a := x + (min 2 (w - x))) (b := x + 2) (by omega) (by omega) c5
            refine vm_J.go vm_q76 (k := 2) (hs := []) (f' := (6, (0, 0), [.ref o, .int (nI x), .int (nI y), .int k, .int (sp_sum (fun i => sp_sum (fun t => sp_sh (I c) (I a) k ((y + i) * w + (x + t))) (min 2 (w - x))) i + sp_sum (fun t => sp_sh (I c) (I a) k ((y + i) * w + (x + t))) (min 2 (w - x))), .int ((nI (y + i)) + 1), .int (nI (x + (min 2 (w - x))))], [])) (h' := (G, I, F)) (hs' := []) rfl rfl ?_
            rw [((vm_pa (rfl : nI (y + i) = nI (y + i)) (rfl : (1 : Int32) = nI 1)) : (nI (y + i)) + 1 = nI (y + i + 1))]
            refine vm_J.mask [true, true, true, true, true, true, false] ?_
            show vm_J _ _ _ (6, (0, 0), [.ref o, .int (nI x), .int (nI y), .int k, .int (sp_sum (fun i => sp_sum (fun t => sp_sh (I c) (I a) k ((y + i) * w + (x + t))) (min 2 (w - x))) i + sp_sum (fun t => sp_sh (I c) (I a) k ((y + i) * w + (x + t))) (min 2 (w - x))), .int (nI (y + i + 1)), .retAddr 0], []) (G, I, F) _ _
            rw [show (sp_sum (fun i => sp_sum (fun t => sp_sh (I c) (I a) k ((y + i) * w + (x + t))) (min 2 (w - x))) i + sp_sum (fun t => sp_sh (I c) (I a) k ((y + i) * w + (x + t))) (min 2 (w - x)) : Int32) = sp_sum (fun i => sp_sum (fun t => sp_sh (I c) (I a) k ((y + i) * w + (x + t))) (min 2 (w - x))) (i + 1) from by rfl]
            exact ii trivial
          · rw [((vm_pa (rfl : (nI x : Int32) = nI x) (rfl : (2 : Int32) = nI 2)) : (nI x) + 2 = nI (x + 2))] at c5
            have c5 := vm_ge_f (a := x + (min 2 (w - x))) (b := x + 2) (by omega) (by omega) c5
            refine vm_J.go vm_q76 (k := 4) (hs := [(8, 9, [.int 0, .int 0, .int 0, .ref a, .ref b, .ref c, .ref d, .ref e, .ref f])]) (f' := (bif vm_ic .ge (nI (x + (min 2 (w - x)))) (I o 1) then 69 else 43, (0, 0), [.ref o, .int (nI x), .int (nI y), .int k, .int (sp_sum (fun i => sp_sum (fun t => sp_sh (I c) (I a) k ((y + i) * w + (x + t))) (min 2 (w - x))) i + sp_sum (fun t => sp_sh (I c) (I a) k ((y + i) * w + (x + t))) (min 2 (w - x))), .int (nI (y + i)), .int (nI (x + (min 2 (w - x))))], [])) (h' := (G, I, F)) (hs' := []) rfl (vm_b2 rfl (vm_b2 rfl (vm_b2 (vm_b2 (vm_hG ho) rfl) (vm_b2 rfl rfl)))) ?_
            refine vm_J.br (fun c6 => ?_) (fun c6 => ?_)
            · rw [(hw : I o 1 = nI w)] at c6
              have c6 := vm_ge_t (a := x + (min 2 (w - x))) (b := w) (by omega) (by omega) c6
              refine vm_J.go vm_q76 (k := 2) (hs := []) (f' := (6, (0, 0), [.ref o, .int (nI x), .int (nI y), .int k, .int (sp_sum (fun i => sp_sum (fun t => sp_sh (I c) (I a) k ((y + i) * w + (x + t))) (min 2 (w - x))) i + sp_sum (fun t => sp_sh (I c) (I a) k ((y + i) * w + (x + t))) (min 2 (w - x))), .int ((nI (y + i)) + 1), .int (nI (x + (min 2 (w - x))))], [])) (h' := (G, I, F)) (hs' := []) rfl rfl ?_
              rw [((vm_pa (rfl : nI (y + i) = nI (y + i)) (rfl : (1 : Int32) = nI 1)) : (nI (y + i)) + 1 = nI (y + i + 1))]
              refine vm_J.mask [true, true, true, true, true, true, false] ?_
              show vm_J _ _ _ (6, (0, 0), [.ref o, .int (nI x), .int (nI y), .int k, .int (sp_sum (fun i => sp_sum (fun t => sp_sh (I c) (I a) k ((y + i) * w + (x + t))) (min 2 (w - x))) i + sp_sum (fun t => sp_sh (I c) (I a) k ((y + i) * w + (x + t))) (min 2 (w - x))), .int (nI (y + i + 1)), .retAddr 0], []) (G, I, F) _ _
              rw [show (sp_sum (fun i => sp_sum (fun t => sp_sh (I c) (I a) k ((y + i) * w + (x + t))) (min 2 (w - x))) i + sp_sum (fun t => sp_sh (I c) (I a) k ((y + i) * w + (x + t))) (min 2 (w - x)) : Int32) = sp_sum (fun i => sp_sum (fun t => sp_sh (I c) (I a) k ((y + i) * w + (x + t))) (min 2 (w - x))) (i + 1) from by rfl]
              exact ii trivial
            · rw [(hw : I o 1 = nI w)] at c6
              have c6 := vm_ge_f (a := x + (min 2 (w - x))) (b := w) (by omega) (by omega) c6
              exact (show False by omega).elim
  · show vm_J _ _ _ (6, (0, 0), [.ref o, .int (nI x), .int (nI y), .int k, .int (sp_sum (fun i => sp_sum (fun t => sp_sh (I c) (I a) k ((y + i) * w + (x + t))) (min 2 (w - x))) (min 2 (h - y))), .int (nI (y + (min 2 (h - y)))), .retAddr 0], []) (G, I, F) _ _
    refine vm_J.go vm_q76 (k := 5) (hs := []) (f' := (bif vm_ic .ge (nI (y + (min 2 (h - y)))) ((nI y) + 2) then 75 else 14, (0, 0), [.ref o, .int (nI x), .int (nI y), .int k, .int (sp_sum (fun i => sp_sum (fun t => sp_sh (I c) (I a) k ((y + i) * w + (x + t))) (min 2 (w - x))) (min 2 (h - y))), .int (nI (y + (min 2 (h - y)))), .retAddr 0], [])) (h' := (G, I, F)) (hs' := []) rfl rfl ?_
    refine vm_J.br (fun c7 => ?_) (fun c7 => ?_)
    · rw [((vm_pa (rfl : (nI y : Int32) = nI y) (rfl : (2 : Int32) = nI 2)) : (nI y) + 2 = nI (y + 2))] at c7
      have c7 := vm_ge_t (a := y + (min 2 (h - y))) (b := y + 2) (by omega) (by omega) c7
      refine vm_J.go vm_q76 (k := 1) (hs := []) (f' := (77, (0, 0), [.ref o, .int (nI x), .int (nI y), .int k, .int (sp_sum (fun i => sp_sum (fun t => sp_sh (I c) (I a) k ((y + i) * w + (x + t))) (min 2 (w - x))) (min 2 (h - y))), .int (nI (y + (min 2 (h - y)))), .retAddr 0], [.int (sp_sum (fun i => sp_sum (fun t => sp_sh (I c) (I a) k ((y + i) * w + (x + t))) (min 2 (w - x))) (min 2 (h - y)))])) (h' := (G, I, F)) (hs' := []) rfl rfl ?_
      exact vm_J.end vm_q76 (en := (77, .ireturn, 1, [], .null)) rfl rfl vm_rI (Nat.zero_le _) (Nat.zero_le _) rfl
    · rw [((vm_pa (rfl : (nI y : Int32) = nI y) (rfl : (2 : Int32) = nI 2)) : (nI y) + 2 = nI (y + 2))] at c7
      have c7 := vm_ge_f (a := y + (min 2 (h - y))) (b := y + 2) (by omega) (by omega) c7
      refine vm_J.go vm_q76 (k := 4) (hs := [(8, 9, [.int 0, .int 0, .int 0, .ref a, .ref b, .ref c, .ref d, .ref e, .ref f])]) (f' := (bif vm_ic .ge (nI (y + (min 2 (h - y)))) (I o 2) then 75 else 23, (0, 0), [.ref o, .int (nI x), .int (nI y), .int k, .int (sp_sum (fun i => sp_sum (fun t => sp_sh (I c) (I a) k ((y + i) * w + (x + t))) (min 2 (w - x))) (min 2 (h - y))), .int (nI (y + (min 2 (h - y)))), .retAddr 0], [])) (h' := (G, I, F)) (hs' := []) rfl (vm_b2 rfl (vm_b2 rfl (vm_b2 (vm_b2 (vm_hG ho) rfl) (vm_b2 rfl rfl)))) ?_
      refine vm_J.br (fun c8 => ?_) (fun c8 => ?_)
      · rw [(hh : I o 2 = nI h)] at c8
        have c8 := vm_ge_t (a := y + (min 2 (h - y))) (b := h) (by omega) (by omega) c8
        refine vm_J.go vm_q76 (k := 1) (hs := []) (f' := (77, (0, 0), [.ref o, .int (nI x), .int (nI y), .int k, .int (sp_sum (fun i => sp_sum (fun t => sp_sh (I c) (I a) k ((y + i) * w + (x + t))) (min 2 (w - x))) (min 2 (h - y))), .int (nI (y + (min 2 (h - y)))), .retAddr 0], [.int (sp_sum (fun i => sp_sum (fun t => sp_sh (I c) (I a) k ((y + i) * w + (x + t))) (min 2 (w - x))) (min 2 (h - y)))])) (h' := (G, I, F)) (hs' := []) rfl rfl ?_
        exact vm_J.end vm_q76 (en := (77, .ireturn, 1, [], .null)) rfl rfl vm_rI (Nat.zero_le _) (Nat.zero_le _) rfl
      · rw [(hh : I o 2 = nI h)] at c8
        have c8 := vm_ge_f (a := y + (min 2 (h - y))) (b := h) (by omega) (by omega) c8
        exact (show False by omega).elim
/-- the squares of a block's shifts, of the three channels -/
def sp_b3 (f g : Nat → Int32) (w h i t k : Nat) : Int32 := sp_bs f g (nI k) w h (2 * t) (2 * i) * sp_bs f g (nI k) w h (2 * t) (2 * i)
def sp_ba (f g : Nat → Int32) (w h : Nat) : Int32 := sp_sum (fun i => sp_sum (fun t => sp_sum (sp_b3 f g w h i t) 3) ((w + 1) / 2)) ((h + 1) / 2)
def sp_ru (f : Nat → Int32) (w i t : Nat) : Int32 := if t = 0 ∨ ¬ f (i * w + t) = f (i * w + t - 1) then 1 else 0
set_option maxHeartbeats 4000000 in
set_option maxRecDepth 20000 in
/-- DitherDesk$Sheet.blocksOnAll  -/
theorem m_Sh_blocks {l : Launch} {X : vm_Cx} {G : List vm_Sh} {I : Nat → Nat → Int32} {F : Nat → Nat → UInt32} {o a b c d e f w h : Nat} (ho : G[o]? = some (8, 9, [.int 0, .int 0, .int 0, .ref a, .ref b, .ref c, .ref d, .ref e, .ref f])) (ha : G[a]? = some (0, 144, [])) (hc : G[c]? = some (0, 144, [])) (hw : I o 1 = nI w) (hh : I o 2 = nI h) (hw2 : w ≤ 12) (hh2 : h ≤ 12) : vm_K l X vm_M75 [.ref o] (G, I, F) (some (.int (sp_ba (I c) (I a) w h))) (G, I, F) := by
  refine vm_K.mk (by decide) (Nat.le_of_ble_eq_true rfl) ?_
  have hwh := vm_mul144 hw2 hh2
  show vm_J _ _ _ (0, (0, 0), [.ref o, .retAddr 0, .retAddr 0, .retAddr 0, .retAddr 0, .retAddr 0], []) _ _ _
  refine vm_J.go vm_q75 (k := 4) (hs := []) (f' := (4, (0, 0), [.ref o, .int 0, .int 0, .retAddr 0, .retAddr 0, .retAddr 0], [])) (h' := (G, I, F)) (hs' := []) rfl rfl ?_
  refine vm_J.cnt ((h + 1) / 2) (fun i => (4, (0, 0), [.ref o, .int (sp_sum (fun i => sp_sum (fun t => sp_sum (sp_b3 (I c) (I a) w h i t) 3) ((w + 1) / 2)) i), .int (nI (2 * i)), .retAddr 0, .retAddr 0, .retAddr 0], [])) (fun i => (G, I, F)) (fun _ => True) rfl rfl trivial (fun i hi pi ii => ?_) (fun pi => ?_)
  · show vm_J _ _ _ (4, (0, 0), [.ref o, .int (sp_sum (fun i => sp_sum (fun t => sp_sum (sp_b3 (I c) (I a) w h i t) 3) ((w + 1) / 2)) i), .int (nI (2 * i)), .retAddr 0, .retAddr 0, .retAddr 0], []) (G, I, F) _ _
    refine vm_J.go vm_q75 (k := 4) (hs := [(8, 9, [.int 0, .int 0, .int 0, .ref a, .ref b, .ref c, .ref d, .ref e, .ref f])]) (f' := (bif vm_ic .ge (nI (2 * i)) (I o 2) then 67 else 12, (0, 0), [.ref o, .int (sp_sum (fun i => sp_sum (fun t => sp_sum (sp_b3 (I c) (I a) w h i t) 3) ((w + 1) / 2)) i), .int (nI (2 * i)), .retAddr 0, .retAddr 0, .retAddr 0], [])) (h' := (G, I, F)) (hs' := []) rfl (vm_b2 rfl (vm_b2 rfl (vm_b2 (vm_b2 (vm_hG ho) rfl) (vm_b2 rfl rfl)))) ?_
    refine vm_J.br (fun c1 => ?_) (fun c1 => ?_)
    · rw [(hh : I o 2 = nI h)] at c1
      have c1 := vm_ge_t (a := 2 * i) (b := h) (by omega) (by omega) c1
      exact (show False by omega).elim
    · rw [(hh : I o 2 = nI h)] at c1
      have c1 := vm_ge_f (a := 2 * i) (b := h) (by omega) (by omega) c1
      refine vm_J.go vm_q75 (k := 2) (hs := []) (f' := (14, (0, 0), [.ref o, .int (sp_sum (fun i => sp_sum (fun t => sp_sum (sp_b3 (I c) (I a) w h i t) 3) ((w + 1) / 2)) i), .int (nI (2 * i)), .int 0, .retAddr 0, .retAddr 0], [])) (h' := (G, I, F)) (hs' := []) rfl rfl ?_
      refine vm_J.cnt ((w + 1) / 2) (fun t => (14, (0, 0), [.ref o, .int (sp_sum (fun i => sp_sum (fun t => sp_sum (sp_b3 (I c) (I a) w h i t) 3) ((w + 1) / 2)) i + sp_sum (fun t => sp_sum (sp_b3 (I c) (I a) w h i t) 3) t), .int (nI (2 * i)), .int (nI (2 * t)), .retAddr 0, .retAddr 0], [])) (fun t => (G, I, F)) (fun _ => True) (by rw [show sp_sum (fun t => sp_sum (sp_b3 (I c) (I a) w h i t) 3) 0 = 0 from rfl, Int32.add_zero]; rfl) rfl trivial (fun t ht pt it => ?_) (fun pt => ?_)
      · show vm_J _ _ _ (14, (0, 0), [.ref o, .int (sp_sum (fun i => sp_sum (fun t => sp_sum (sp_b3 (I c) (I a) w h i t) 3) ((w + 1) / 2)) i + sp_sum (fun t => sp_sum (sp_b3 (I c) (I a) w h i t) 3) t), .int (nI (2 * i)), .int (nI (2 * t)), .retAddr 0, .retAddr 0], []) (G, I, F) _ _
        refine vm_J.go vm_q75 (k := 4) (hs := [(8, 9, [.int 0, .int 0, .int 0, .ref a, .ref b, .ref c, .ref d, .ref e, .ref f])]) (f' := (bif vm_ic .ge (nI (2 * t)) (I o 1) then 61 else 22, (0, 0), [.ref o, .int (sp_sum (fun i => sp_sum (fun t => sp_sum (sp_b3 (I c) (I a) w h i t) 3) ((w + 1) / 2)) i + sp_sum (fun t => sp_sum (sp_b3 (I c) (I a) w h i t) 3) t), .int (nI (2 * i)), .int (nI (2 * t)), .retAddr 0, .retAddr 0], [])) (h' := (G, I, F)) (hs' := []) rfl (vm_b2 rfl (vm_b2 rfl (vm_b2 (vm_b2 (vm_hG ho) rfl) (vm_b2 rfl rfl)))) ?_
        refine vm_J.br (fun c2 => ?_) (fun c2 => ?_)
        · rw [(hw : I o 1 = nI w)] at c2
          have c2 := vm_ge_t (a := 2 * t) (b := w) (by omega) (by omega) c2
          exact (show False by omega).elim
        · rw [(hw : I o 1 = nI w)] at c2
          have c2 := vm_ge_f (a := 2 * t) (b := w) (by omega) (by omega) c2
          refine vm_J.go vm_q75 (k := 2) (hs := []) (f' := (25, (0, 0), [.ref o, .int (sp_sum (fun i => sp_sum (fun t => sp_sum (sp_b3 (I c) (I a) w h i t) 3) ((w + 1) / 2)) i + sp_sum (fun t => sp_sum (sp_b3 (I c) (I a) w h i t) 3) t), .int (nI (2 * i)), .int (nI (2 * t)), .int 0, .retAddr 0], [])) (h' := (G, I, F)) (hs' := []) rfl rfl ?_
          refine vm_J.cnt 3 (fun k => (25, (0, 0), [.ref o, .int (sp_sum (fun i => sp_sum (fun t => sp_sum (sp_b3 (I c) (I a) w h i t) 3) ((w + 1) / 2)) i + sp_sum (fun t => sp_sum (sp_b3 (I c) (I a) w h i t) 3) t + sp_sum (sp_b3 (I c) (I a) w h i t) k), .int (nI (2 * i)), .int (nI (2 * t)), .int (nI k), .retAddr 0], [])) (fun k => (G, I, F)) (fun _ => True) (by rw [show sp_sum (sp_b3 (I c) (I a) w h i t) 0 = 0 from rfl, Int32.add_zero]; rfl) rfl trivial (fun k hk pk ik => ?_) (fun pk => ?_)
          · show vm_J _ _ _ (25, (0, 0), [.ref o, .int (sp_sum (fun i => sp_sum (fun t => sp_sum (sp_b3 (I c) (I a) w h i t) 3) ((w + 1) / 2)) i + sp_sum (fun t => sp_sum (sp_b3 (I c) (I a) w h i t) 3) t + sp_sum (sp_b3 (I c) (I a) w h i t) k), .int (nI (2 * i)), .int (nI (2 * t)), .int (nI k), .retAddr 0], []) (G, I, F) _ _
            refine vm_J.go vm_q75 (k := 3) (hs := []) (f' := (bif vm_ic .ge (nI k) 3 then 55 else 31, (0, 0), [.ref o, .int (sp_sum (fun i => sp_sum (fun t => sp_sum (sp_b3 (I c) (I a) w h i t) 3) ((w + 1) / 2)) i + sp_sum (fun t => sp_sum (sp_b3 (I c) (I a) w h i t) 3) t + sp_sum (sp_b3 (I c) (I a) w h i t) k), .int (nI (2 * i)), .int (nI (2 * t)), .int (nI k), .retAddr 0], [])) (h' := (G, I, F)) (hs' := []) rfl rfl ?_
            refine vm_J.br (fun c3 => ?_) (fun c3 => ?_)
            · have c3 := vm_ge_t (a := k) (b := 3) (by omega) (by omega) c3
              exact (show False by omega).elim
            · have c3 := vm_ge_f (a := k) (b := 3) (by omega) (by omega) c3
              refine vm_J.go vm_q75 (k := 4) (hs := []) (f' := (36, (0, 0), [.ref o, .int (sp_sum (fun i => sp_sum (fun t => sp_sum (sp_b3 (I c) (I a) w h i t) 3) ((w + 1) / 2)) i + sp_sum (fun t => sp_sum (sp_b3 (I c) (I a) w h i t) 3) t + sp_sum (sp_b3 (I c) (I a) w h i t) k), .int (nI (2 * i)), .int (nI (2 * t)), .int (nI k), .retAddr 0], [.int (nI k), .int (nI (2 * i)), .int (nI (2 * t)), .ref o])) (h' := (G, I, F)) (hs' := []) rfl rfl ?_
              refine vm_J.call vm_q75 (Z := vm_M76) (n := 3) (k := 0) (mi := 76) (pc := 36) (en := (36, .invokevirtual 150, 3, [76, 915, 0], .null)) rfl trivial rfl rfl vm_z76 (av := [.ref o, .int (nI (2 * t)), .int (nI (2 * i)), .int (nI k)]) (rest := []) (m_Sh_blockShift (x := 2 * t) (y := 2 * i) (k := nI k) ho ha hc hw hh (by omega) (by omega) (by omega) (by omega)) ⟨_, _, rfl, rfl, _, 6, _, ho, rfl, rfl, rfl⟩ (Nat.le_of_ble_eq_true rfl) ⟨Nat.le_of_ble_eq_true rfl, Nat.le_of_ble_eq_true rfl⟩ ⟨Nat.le_of_ble_eq_true rfl, Nat.le_of_ble_eq_true rfl⟩ ?_
              show vm_J _ _ _ (39, (0, 0), [.ref o, .int (sp_sum (fun i => sp_sum (fun t => sp_sum (sp_b3 (I c) (I a) w h i t) 3) ((w + 1) / 2)) i + sp_sum (fun t => sp_sum (sp_b3 (I c) (I a) w h i t) 3) t + sp_sum (sp_b3 (I c) (I a) w h i t) k), .int (nI (2 * i)), .int (nI (2 * t)), .int (nI k), .retAddr 0], [.int (sp_bs (I c) (I a) (nI k) w h (2 * t) (2 * i))]) (G, I, F) _ _
              refine vm_J.go vm_q75 (k := 9) (hs := []) (f' := (25, (0, 0), [.ref o, .int ((sp_sum (fun i => sp_sum (fun t => sp_sum (sp_b3 (I c) (I a) w h i t) 3) ((w + 1) / 2)) i + sp_sum (fun t => sp_sum (sp_b3 (I c) (I a) w h i t) 3) t + sp_sum (sp_b3 (I c) (I a) w h i t) k) + ((sp_bs (I c) (I a) (nI k) w h (2 * t) (2 * i)) * (sp_bs (I c) (I a) (nI k) w h (2 * t) (2 * i)))), .int (nI (2 * i)), .int (nI (2 * t)), .int ((nI k) + 1), .int (sp_bs (I c) (I a) (nI k) w h (2 * t) (2 * i))], [])) (h' := (G, I, F)) (hs' := []) rfl rfl ?_
              rw [((vm_pa (rfl : nI k = nI k) (rfl : (1 : Int32) = nI 1)) : (nI k) + 1 = nI (k + 1))]
              refine vm_J.mask [true, true, true, true, true, false] ?_
              show vm_J _ _ _ (25, (0, 0), [.ref o, .int ((sp_sum (fun i => sp_sum (fun t => sp_sum (sp_b3 (I c) (I a) w h i t) 3) ((w + 1) / 2)) i + sp_sum (fun t => sp_sum (sp_b3 (I c) (I a) w h i t) 3) t + sp_sum (sp_b3 (I c) (I a) w h i t) k) + ((sp_bs (I c) (I a) (nI k) w h (2 * t) (2 * i)) * (sp_bs (I c) (I a) (nI k) w h (2 * t) (2 * i)))), .int (nI (2 * i)), .int (nI (2 * t)), .int (nI (k + 1)), .retAddr 0], []) (G, I, F) _ _
              rw [show ((sp_sum (fun i => sp_sum (fun t => sp_sum (sp_b3 (I c) (I a) w h i t) 3) ((w + 1) / 2)) i + sp_sum (fun t => sp_sum (sp_b3 (I c) (I a) w h i t) 3) t + sp_sum (sp_b3 (I c) (I a) w h i t) k) + ((sp_bs (I c) (I a) (nI k) w h (2 * t) (2 * i)) * (sp_bs (I c) (I a) (nI k) w h (2 * t) (2 * i))) : Int32) = sp_sum (fun i => sp_sum (fun t => sp_sum (sp_b3 (I c) (I a) w h i t) 3) ((w + 1) / 2)) i + sp_sum (fun t => sp_sum (sp_b3 (I c) (I a) w h i t) 3) t + sp_sum (sp_b3 (I c) (I a) w h i t) (k + 1) from by exact Int32.add_assoc _ _ _]
              exact ik trivial
          · show vm_J _ _ _ (25, (0, 0), [.ref o, .int (sp_sum (fun i => sp_sum (fun t => sp_sum (sp_b3 (I c) (I a) w h i t) 3) ((w + 1) / 2)) i + sp_sum (fun t => sp_sum (sp_b3 (I c) (I a) w h i t) 3) t + sp_sum (sp_b3 (I c) (I a) w h i t) 3), .int (nI (2 * i)), .int (nI (2 * t)), .int (nI 3), .retAddr 0], []) (G, I, F) _ _
            refine vm_J.go vm_q75 (k := 3) (hs := []) (f' := (bif vm_ic .ge (nI 3) 3 then 55 else 31, (0, 0), [.ref o, .int (sp_sum (fun i => sp_sum (fun t => sp_sum (sp_b3 (I c) (I a) w h i t) 3) ((w + 1) / 2)) i + sp_sum (fun t => sp_sum (sp_b3 (I c) (I a) w h i t) 3) t + sp_sum (sp_b3 (I c) (I a) w h i t) 3), .int (nI (2 * i)), .int (nI (2 * t)), .int (nI 3), .retAddr 0], [])) (h' := (G, I, F)) (hs' := []) rfl rfl ?_
            refine vm_J.br (fun c4 => ?_) (fun c4 => ?_)
            · have c4 := vm_ge_t (a := 3) (b := 3) (by omega) (by omega) c4
              refine vm_J.go vm_q75 (k := 2) (hs := []) (f' := (14, (0, 0), [.ref o, .int (sp_sum (fun i => sp_sum (fun t => sp_sum (sp_b3 (I c) (I a) w h i t) 3) ((w + 1) / 2)) i + sp_sum (fun t => sp_sum (sp_b3 (I c) (I a) w h i t) 3) t + sp_sum (sp_b3 (I c) (I a) w h i t) 3), .int (nI (2 * i)), .int ((nI (2 * t)) + 2), .int (nI 3), .retAddr 0], [])) (h' := (G, I, F)) (hs' := []) rfl rfl ?_
              rw [((vm_pa (rfl : nI (2 * t) = nI (2 * t)) (rfl : (2 : Int32) = nI 2)) : (nI (2 * t)) + 2 = nI (2 * t + 2))]
              refine vm_J.mask [true, true, true, true, false, true] ?_
              show vm_J _ _ _ (14, (0, 0), [.ref o, .int (sp_sum (fun i => sp_sum (fun t => sp_sum (sp_b3 (I c) (I a) w h i t) 3) ((w + 1) / 2)) i + sp_sum (fun t => sp_sum (sp_b3 (I c) (I a) w h i t) 3) t + sp_sum (sp_b3 (I c) (I a) w h i t) 3), .int (nI (2 * i)), .int (nI (2 * t + 2)), .retAddr 0, .retAddr 0], []) (G, I, F) _ _
              rw [show (sp_sum (fun i => sp_sum (fun t => sp_sum (sp_b3 (I c) (I a) w h i t) 3) ((w + 1) / 2)) i + sp_sum (fun t => sp_sum (sp_b3 (I c) (I a) w h i t) 3) t + sp_sum (sp_b3 (I c) (I a) w h i t) 3 : Int32) = sp_sum (fun i => sp_sum (fun t => sp_sum (sp_b3 (I c) (I a) w h i t) 3) ((w + 1) / 2)) i + sp_sum (fun t => sp_sum (sp_b3 (I c) (I a) w h i t) 3) (t + 1) from by first | exact Int32.add_assoc _ _ _ | rfl]
              rw [show (nI (2 * t + 2) : Int32) = nI (2 * (t + 1)) from by first | exact Int32.add_assoc _ _ _ | rfl]
              exact it trivial
            · have c4 := vm_ge_f (a := 3) (b := 3) (by omega) (by omega) c4
              exact (show False by omega).elim
      · show vm_J _ _ _ (14, (0, 0), [.ref o, .int (sp_sum (fun i => sp_sum (fun t => sp_sum (sp_b3 (I c) (I a) w h i t) 3) ((w + 1) / 2)) i + sp_sum (fun t => sp_sum (sp_b3 (I c) (I a) w h i t) 3) ((w + 1) / 2)), .int (nI (2 * i)), .int (nI (2 * ((w + 1) / 2))), .retAddr 0, .retAddr 0], []) (G, I, F) _ _
        refine vm_J.go vm_q75 (k := 4) (hs := [(8, 9, [.int 0, .int 0, .int 0, .ref a, .ref b, .ref c, .ref d, .ref e, .ref f])]) (f' := (bif vm_ic .ge (nI (2 * ((w + 1) / 2))) (I o 1) then 61 else 22, (0, 0), [.ref o, .int (sp_sum (fun i => sp_sum (fun t => sp_sum (sp_b3 (I c) (I a) w h i t) 3) ((w + 1) / 2)) i + sp_sum (fun t => sp_sum (sp_b3 (I c) (I a) w h i t) 3) ((w + 1) / 2)), .int (nI (2 * i)), .int (nI (2 * ((w + 1) / 2))), .retAddr 0, .retAddr 0], [])) (h' := (G, I, F)) (hs' := []) rfl (vm_b2 rfl (vm_b2 rfl (vm_b2 (vm_b2 (vm_hG ho) rfl) (vm_b2 rfl rfl)))) ?_
        refine vm_J.br (fun c5 => ?_) (fun c5 => ?_)
        · rw [(hw : I o 1 = nI w)] at c5
          have c5 := vm_ge_t (a := 2 * ((w + 1) / 2)) (b := w) (by omega) (by omega) c5
          refine vm_J.go vm_q75 (k := 2) (hs := []) (f' := (4, (0, 0), [.ref o, .int (sp_sum (fun i => sp_sum (fun t => sp_sum (sp_b3 (I c) (I a) w h i t) 3) ((w + 1) / 2)) i + sp_sum (fun t => sp_sum (sp_b3 (I c) (I a) w h i t) 3) ((w + 1) / 2)), .int ((nI (2 * i)) + 2), .int (nI (2 * ((w + 1) / 2))), .retAddr 0, .retAddr 0], [])) (h' := (G, I, F)) (hs' := []) rfl rfl ?_
          rw [((vm_pa (rfl : nI (2 * i) = nI (2 * i)) (rfl : (2 : Int32) = nI 2)) : (nI (2 * i)) + 2 = nI (2 * i + 2))]
          refine vm_J.mask [true, true, true, false, true, true] ?_
          show vm_J _ _ _ (4, (0, 0), [.ref o, .int (sp_sum (fun i => sp_sum (fun t => sp_sum (sp_b3 (I c) (I a) w h i t) 3) ((w + 1) / 2)) i + sp_sum (fun t => sp_sum (sp_b3 (I c) (I a) w h i t) 3) ((w + 1) / 2)), .int (nI (2 * i + 2)), .retAddr 0, .retAddr 0, .retAddr 0], []) (G, I, F) _ _
          rw [show (sp_sum (fun i => sp_sum (fun t => sp_sum (sp_b3 (I c) (I a) w h i t) 3) ((w + 1) / 2)) i + sp_sum (fun t => sp_sum (sp_b3 (I c) (I a) w h i t) 3) ((w + 1) / 2) : Int32) = sp_sum (fun i => sp_sum (fun t => sp_sum (sp_b3 (I c) (I a) w h i t) 3) ((w + 1) / 2)) (i + 1) from by rfl]
          rw [show (nI (2 * i + 2) : Int32) = nI (2 * (i + 1)) from by rfl]
          exact ii trivial
        · rw [(hw : I o 1 = nI w)] at c5
          have c5 := vm_ge_f (a := 2 * ((w + 1) / 2)) (b := w) (by omega) (by omega) c5
          exact (show False by omega).elim
  · show vm_J _ _ _ (4, (0, 0), [.ref o, .int (sp_sum (fun i => sp_sum (fun t => sp_sum (sp_b3 (I c) (I a) w h i t) 3) ((w + 1) / 2)) ((h + 1) / 2)), .int (nI (2 * ((h + 1) / 2))), .retAddr 0, .retAddr 0, .retAddr 0], []) (G, I, F) _ _
    refine vm_J.go vm_q75 (k := 4) (hs := [(8, 9, [.int 0, .int 0, .int 0, .ref a, .ref b, .ref c, .ref d, .ref e, .ref f])]) (f' := (bif vm_ic .ge (nI (2 * ((h + 1) / 2))) (I o 2) then 67 else 12, (0, 0), [.ref o, .int (sp_sum (fun i => sp_sum (fun t => sp_sum (sp_b3 (I c) (I a) w h i t) 3) ((w + 1) / 2)) ((h + 1) / 2)), .int (nI (2 * ((h + 1) / 2))), .retAddr 0, .retAddr 0, .retAddr 0], [])) (h' := (G, I, F)) (hs' := []) rfl (vm_b2 rfl (vm_b2 rfl (vm_b2 (vm_b2 (vm_hG ho) rfl) (vm_b2 rfl rfl)))) ?_
    refine vm_J.br (fun c6 => ?_) (fun c6 => ?_)
    · rw [(hh : I o 2 = nI h)] at c6
      have c6 := vm_ge_t (a := 2 * ((h + 1) / 2)) (b := h) (by omega) (by omega) c6
      refine vm_J.go vm_q75 (k := 1) (hs := []) (f' := (68, (0, 0), [.ref o, .int (sp_sum (fun i => sp_sum (fun t => sp_sum (sp_b3 (I c) (I a) w h i t) 3) ((w + 1) / 2)) ((h + 1) / 2)), .int (nI (2 * ((h + 1) / 2))), .retAddr 0, .retAddr 0, .retAddr 0], [.int (sp_sum (fun i => sp_sum (fun t => sp_sum (sp_b3 (I c) (I a) w h i t) 3) ((w + 1) / 2)) ((h + 1) / 2))])) (h' := (G, I, F)) (hs' := []) rfl rfl ?_
      exact vm_J.end vm_q75 (en := (68, .ireturn, 1, [], .null)) rfl rfl vm_rI (Nat.zero_le _) (Nat.zero_le _) rfl
    · rw [(hh : I o 2 = nI h)] at c6
      have c6 := vm_ge_f (a := 2 * ((h + 1) / 2)) (b := h) (by omega) (by omega) c6
      exact (show False by omega).elim
set_option maxHeartbeats 4000000 in
set_option maxRecDepth 20000 in
/-- DitherDesk$Sheet.runs  -/
theorem m_Sh_runs {l : Launch} {X : vm_Cx} {G : List vm_Sh} {I : Nat → Nat → Int32} {F : Nat → Nat → UInt32} {o a b c d e f w h : Nat} (ho : G[o]? = some (8, 9, [.int 0, .int 0, .int 0, .ref a, .ref b, .ref c, .ref d, .ref e, .ref f])) (hb : G[b]? = some (0, 144, [])) (hw : I o 1 = nI w) (hh : I o 2 = nI h) (hw2 : w ≤ 12) (hh2 : h ≤ 12) : vm_K l X vm_M77 [.ref o] (G, I, F) (some (.int (sp_sum (fun i => sp_sum (sp_ru (I b) w i) w) h))) (G, I, F) := by
  refine vm_K.mk (by decide) (Nat.le_of_ble_eq_true rfl) ?_
  have hwh := vm_mul144 hw2 hh2
  show vm_J _ _ _ (0, (0, 0), [.ref o, .retAddr 0, .retAddr 0, .retAddr 0, .retAddr 0], []) _ _ _
  refine vm_J.go vm_q77 (k := 4) (hs := []) (f' := (4, (0, 0), [.ref o, .int 0, .int 0, .retAddr 0, .retAddr 0], [])) (h' := (G, I, F)) (hs' := []) rfl rfl ?_
  refine vm_J.cnt h (fun i => (4, (0, 0), [.ref o, .int (sp_sum (fun i => sp_sum (sp_ru (I b) w i) w) i), .int (nI i), .retAddr 0, .retAddr 0], [])) (fun i => (G, I, F)) (fun _ => True) rfl rfl trivial (fun i hi pi ii => ?_) (fun pi => ?_)
  · show vm_J _ _ _ (4, (0, 0), [.ref o, .int (sp_sum (fun i => sp_sum (sp_ru (I b) w i) w) i), .int (nI i), .retAddr 0, .retAddr 0], []) (G, I, F) _ _
    refine vm_J.go vm_q77 (k := 4) (hs := [(8, 9, [.int 0, .int 0, .int 0, .ref a, .ref b, .ref c, .ref d, .ref e, .ref f])]) (f' := (bif vm_ic .ge (nI i) (I o 2) then 74 else 12, (0, 0), [.ref o, .int (sp_sum (fun i => sp_sum (sp_ru (I b) w i) w) i), .int (nI i), .retAddr 0, .retAddr 0], [])) (h' := (G, I, F)) (hs' := []) rfl (vm_b2 rfl (vm_b2 rfl (vm_b2 (vm_b2 (vm_hG ho) rfl) (vm_b2 rfl rfl)))) ?_
    refine vm_J.br (fun c1 => ?_) (fun c1 => ?_)
    · rw [(hh : I o 2 = nI h)] at c1
      have c1 := vm_ge_t (a := i) (b := h) (by omega) (by omega) c1
      exact (show False by omega).elim
    · rw [(hh : I o 2 = nI h)] at c1
      have c1 := vm_ge_f (a := i) (b := h) (by omega) (by omega) c1
      refine vm_J.go vm_q77 (k := 2) (hs := []) (f' := (14, (0, 0), [.ref o, .int (sp_sum (fun i => sp_sum (sp_ru (I b) w i) w) i), .int (nI i), .int 0, .retAddr 0], [])) (h' := (G, I, F)) (hs' := []) rfl rfl ?_
      refine vm_J.cnt w (fun t => (14, (0, 0), [.ref o, .int (sp_sum (fun i => sp_sum (sp_ru (I b) w i) w) i + sp_sum (sp_ru (I b) w i) t), .int (nI i), .int (nI t), .retAddr 0], [])) (fun t => (G, I, F)) (fun _ => True) (by rw [show sp_sum (sp_ru (I b) w i) 0 = 0 from rfl, Int32.add_zero]; rfl) rfl trivial (fun t ht pt it => ?_) (fun pt => ?_)
      · have hlin := vm_lin (x := t) (y := i) (w := w) (h := h) (by omega) (by omega)
        show vm_J _ _ _ (14, (0, 0), [.ref o, .int (sp_sum (fun i => sp_sum (sp_ru (I b) w i) w) i + sp_sum (sp_ru (I b) w i) t), .int (nI i), .int (nI t), .retAddr 0], []) (G, I, F) _ _
        refine vm_J.go vm_q77 (k := 4) (hs := [(8, 9, [.int 0, .int 0, .int 0, .ref a, .ref b, .ref c, .ref d, .ref e, .ref f])]) (f' := (bif vm_ic .ge (nI t) (I o 1) then 68 else 22, (0, 0), [.ref o, .int (sp_sum (fun i => sp_sum (sp_ru (I b) w i) w) i + sp_sum (sp_ru (I b) w i) t), .int (nI i), .int (nI t), .retAddr 0], [])) (h' := (G, I, F)) (hs' := []) rfl (vm_b2 rfl (vm_b2 rfl (vm_b2 (vm_b2 (vm_hG ho) rfl) (vm_b2 rfl rfl)))) ?_
        refine vm_J.br (fun c2 => ?_) (fun c2 => ?_)
        · rw [(hw : I o 1 = nI w)] at c2
          have c2 := vm_ge_t (a := t) (b := w) (by omega) (by omega) c2
          exact (show False by omega).elim
        · rw [(hw : I o 1 = nI w)] at c2
          have c2 := vm_ge_f (a := t) (b := w) (by omega) (by omega) c2
          refine vm_J.go vm_q77 (k := 9) (hs := [(8, 9, [.int 0, .int 0, .int 0, .ref a, .ref b, .ref c, .ref d, .ref e, .ref f])]) (f' := (bif vm_ic .eq (nI t) 0 then 59 else 36, (0, 0), [.ref o, .int (sp_sum (fun i => sp_sum (sp_ru (I b) w i) w) i + sp_sum (sp_ru (I b) w i) t), .int (nI i), .int (nI t), .int (((nI i) * (I o 1)) + (nI t))], [])) (h' := (G, I, F)) (hs' := []) rfl (vm_b2 rfl (vm_b2 rfl (vm_b2 (vm_b2 (vm_hG ho) rfl) (vm_b2 rfl (vm_b2 rfl (vm_b2 rfl (vm_b2 rfl (vm_b2 rfl (vm_b2 rfl rfl))))))))) ?_
          rw [((vm_pa (vm_pm (rfl : (nI i : Int32) = nI i) hw) (rfl : (nI t : Int32) = nI t)) : ((nI i) * (I o 1)) + (nI t) = nI ((i * w) + t))]
          refine vm_J.br (fun c3 => ?_) (fun c3 => ?_)
          · have c3 := vm_eq_t (a := t) (b := 0) (by omega) (by omega) c3
            refine vm_J.go vm_q77 (k := 3) (hs := []) (f' := (14, (0, 0), [.ref o, .int ((sp_sum (fun i => sp_sum (sp_ru (I b) w i) w) i + sp_sum (sp_ru (I b) w i) t) + 1), .int (nI i), .int ((nI t) + 1), .int (nI ((i * w) + t))], [])) (h' := (G, I, F)) (hs' := []) rfl rfl ?_
            rw [((vm_pa (rfl : nI t = nI t) (rfl : (1 : Int32) = nI 1)) : (nI t) + 1 = nI (t + 1))]
            refine vm_J.mask [true, true, true, true, false] ?_
            show vm_J _ _ _ (14, (0, 0), [.ref o, .int ((sp_sum (fun i => sp_sum (sp_ru (I b) w i) w) i + sp_sum (sp_ru (I b) w i) t) + 1), .int (nI i), .int (nI (t + 1)), .retAddr 0], []) (G, I, F) _ _
            rw [show ((sp_sum (fun i => sp_sum (sp_ru (I b) w i) w) i + sp_sum (sp_ru (I b) w i) t) + 1 : Int32) = sp_sum (fun i => sp_sum (sp_ru (I b) w i) w) i + sp_sum (sp_ru (I b) w i) (t + 1) from by rw [sp_sum, sp_ru, if_pos (Or.inl c3)]; exact Int32.add_assoc _ _ _]
            exact it trivial
          · have c3 := vm_eq_f (a := t) (b := 0) (by omega) (by omega) c3
            refine vm_J.go vm_q77 (k := 3) (hs := [(8, 9, [.int 0, .int 0, .int 0, .ref a, .ref b, .ref c, .ref d, .ref e, .ref f])]) (f' := (42, (0, 0), [.ref o, .int (sp_sum (fun i => sp_sum (sp_ru (I b) w i) w) i + sp_sum (sp_ru (I b) w i) t), .int (nI i), .int (nI t), .int (nI ((i * w) + t))], [.int (nI ((i * w) + t)), .ref b])) (h' := (G, I, F)) (hs' := []) rfl (vm_b2 rfl (vm_b2 (vm_b2 (vm_hG ho) rfl) (vm_b2 rfl rfl))) ?_
            refine vm_J.call vm_q77 (Z := vm_M152) (n := 2) (k := 1) (mi := 152) (pc := 42) (en := (42, .invokestatic 49, 3, [152, 833, 1], .null)) rfl trivial rfl rfl vm_z152 (av := [.ref b, .int (nI ((i * w) + t))]) (rest := []) (m_at_n (j := (i * w) + t) hb (by omega) (by omega)) rfl (Nat.le_of_ble_eq_true rfl) ⟨Nat.le_of_ble_eq_true rfl, Nat.le_of_ble_eq_true rfl⟩ ⟨Nat.le_of_ble_eq_true rfl, Nat.le_of_ble_eq_true rfl⟩ ?_
            show vm_J _ _ _ (45, (0, 0), [.ref o, .int (sp_sum (fun i => sp_sum (sp_ru (I b) w i) w) i + sp_sum (sp_ru (I b) w i) t), .int (nI i), .int (nI t), .int (nI ((i * w) + t))], [.int (I b ((i * w) + t))]) (G, I, F) _ _
            refine vm_J.go vm_q77 (k := 5) (hs := [(8, 9, [.int 0, .int 0, .int 0, .ref a, .ref b, .ref c, .ref d, .ref e, .ref f])]) (f' := (53, (0, 0), [.ref o, .int (sp_sum (fun i => sp_sum (sp_ru (I b) w i) w) i + sp_sum (sp_ru (I b) w i) t), .int (nI i), .int (nI t), .int (nI ((i * w) + t))], [.int ((nI ((i * w) + t)) - 1), .ref b, .int (I b ((i * w) + t))])) (h' := (G, I, F)) (hs' := []) rfl (vm_b2 rfl (vm_b2 (vm_b2 (vm_hG ho) rfl) (vm_b2 rfl (vm_b2 rfl (vm_b2 rfl rfl))))) ?_
            rw [((vm_ps (rfl : (nI ((i * w) + t) : Int32) = nI ((i * w) + t)) (rfl : (1 : Int32) = nI 1) (by omega)) : (nI ((i * w) + t)) - 1 = nI (((i * w) + t) - 1))]
            refine vm_J.call vm_q77 (Z := vm_M152) (n := 2) (k := 1) (mi := 152) (pc := 53) (en := (53, .invokestatic 49, 3, [152, 833, 1], .null)) rfl trivial rfl rfl vm_z152 (av := [.ref b, .int (nI (((i * w) + t) - 1))]) (rest := [.int (I b ((i * w) + t))]) (m_at_n (j := ((i * w) + t) - 1) hb (by omega) (by omega)) rfl (Nat.le_of_ble_eq_true rfl) ⟨Nat.le_of_ble_eq_true rfl, Nat.le_of_ble_eq_true rfl⟩ ⟨Nat.le_of_ble_eq_true rfl, Nat.le_of_ble_eq_true rfl⟩ ?_
            show vm_J _ _ _ (56, (0, 0), [.ref o, .int (sp_sum (fun i => sp_sum (sp_ru (I b) w i) w) i + sp_sum (sp_ru (I b) w i) t), .int (nI i), .int (nI t), .int (nI ((i * w) + t))], [.int (I b (((i * w) + t) - 1)), .int (I b ((i * w) + t))]) (G, I, F) _ _
            refine vm_J.go vm_q77 (k := 1) (hs := []) (f' := (bif vm_ic .eq (I b ((i * w) + t)) (I b (((i * w) + t) - 1)) then 62 else 59, (0, 0), [.ref o, .int (sp_sum (fun i => sp_sum (sp_ru (I b) w i) w) i + sp_sum (sp_ru (I b) w i) t), .int (nI i), .int (nI t), .int (nI ((i * w) + t))], [])) (h' := (G, I, F)) (hs' := []) rfl rfl ?_
            refine vm_J.br (fun c4 => ?_) (fun c4 => ?_)
            · have c4 : (I b ((i * w) + t)) = (I b (((i * w) + t) - 1)) := of_decide_eq_true c4
              refine vm_J.go vm_q77 (k := 2) (hs := []) (f' := (14, (0, 0), [.ref o, .int (sp_sum (fun i => sp_sum (sp_ru (I b) w i) w) i + sp_sum (sp_ru (I b) w i) t), .int (nI i), .int ((nI t) + 1), .int (nI ((i * w) + t))], [])) (h' := (G, I, F)) (hs' := []) rfl rfl ?_
              rw [((vm_pa (rfl : nI t = nI t) (rfl : (1 : Int32) = nI 1)) : (nI t) + 1 = nI (t + 1))]
              refine vm_J.mask [true, true, true, true, false] ?_
              show vm_J _ _ _ (14, (0, 0), [.ref o, .int (sp_sum (fun i => sp_sum (sp_ru (I b) w i) w) i + sp_sum (sp_ru (I b) w i) t), .int (nI i), .int (nI (t + 1)), .retAddr 0], []) (G, I, F) _ _
              rw [show (sp_sum (fun i => sp_sum (sp_ru (I b) w i) w) i + sp_sum (sp_ru (I b) w i) t : Int32) = sp_sum (fun i => sp_sum (sp_ru (I b) w i) w) i + sp_sum (sp_ru (I b) w i) (t + 1) from by rw [sp_sum, sp_ru, if_neg (fun z => z.elim c3 (fun y => y c4)), Int32.add_zero]]
              exact it trivial
            · have c4 : ¬ ((I b ((i * w) + t)) = (I b (((i * w) + t) - 1))) := of_decide_eq_false c4
              refine vm_J.go vm_q77 (k := 3) (hs := []) (f' := (14, (0, 0), [.ref o, .int ((sp_sum (fun i => sp_sum (sp_ru (I b) w i) w) i + sp_sum (sp_ru (I b) w i) t) + 1), .int (nI i), .int ((nI t) + 1), .int (nI ((i * w) + t))], [])) (h' := (G, I, F)) (hs' := []) rfl rfl ?_
              rw [((vm_pa (rfl : nI t = nI t) (rfl : (1 : Int32) = nI 1)) : (nI t) + 1 = nI (t + 1))]
              refine vm_J.mask [true, true, true, true, false] ?_
              show vm_J _ _ _ (14, (0, 0), [.ref o, .int ((sp_sum (fun i => sp_sum (sp_ru (I b) w i) w) i + sp_sum (sp_ru (I b) w i) t) + 1), .int (nI i), .int (nI (t + 1)), .retAddr 0], []) (G, I, F) _ _
              rw [show ((sp_sum (fun i => sp_sum (sp_ru (I b) w i) w) i + sp_sum (sp_ru (I b) w i) t) + 1 : Int32) = sp_sum (fun i => sp_sum (sp_ru (I b) w i) w) i + sp_sum (sp_ru (I b) w i) (t + 1) from by rw [sp_sum, sp_ru, if_pos (Or.inr c4)]; exact Int32.add_assoc _ _ _]
              exact it trivial
      · show vm_J _ _ _ (14, (0, 0), [.ref o, .int (sp_sum (fun i => sp_sum (sp_ru (I b) w i) w) i + sp_sum (sp_ru (I b) w i) w), .int (nI i), .int (nI w), .retAddr 0], []) (G, I, F) _ _
        refine vm_J.go vm_q77 (k := 4) (hs := [(8, 9, [.int 0, .int 0, .int 0, .ref a, .ref b, .ref c, .ref d, .ref e, .ref f])]) (f' := (bif vm_ic .ge (nI w) (I o 1) then 68 else 22, (0, 0), [.ref o, .int (sp_sum (fun i => sp_sum (sp_ru (I b) w i) w) i + sp_sum (sp_ru (I b) w i) w), .int (nI i), .int (nI w), .retAddr 0], [])) (h' := (G, I, F)) (hs' := []) rfl (vm_b2 rfl (vm_b2 rfl (vm_b2 (vm_b2 (vm_hG ho) rfl) (vm_b2 rfl rfl)))) ?_
        refine vm_J.br (fun c5 => ?_) (fun c5 => ?_)
        · rw [(hw : I o 1 = nI w)] at c5
          have c5 := vm_ge_t (a := w) (b := w) (by omega) (by omega) c5
          refine vm_J.go vm_q77 (k := 2) (hs := []) (f' := (4, (0, 0), [.ref o, .int (sp_sum (fun i => sp_sum (sp_ru (I b) w i) w) i + sp_sum (sp_ru (I b) w i) w), .int ((nI i) + 1), .int (nI w), .retAddr 0], [])) (h' := (G, I, F)) (hs' := []) rfl rfl ?_
          rw [((vm_pa (rfl : nI i = nI i) (rfl : (1 : Int32) = nI 1)) : (nI i) + 1 = nI (i + 1))]
          refine vm_J.mask [true, true, true, false, true] ?_
          show vm_J _ _ _ (4, (0, 0), [.ref o, .int (sp_sum (fun i => sp_sum (sp_ru (I b) w i) w) i + sp_sum (sp_ru (I b) w i) w), .int (nI (i + 1)), .retAddr 0, .retAddr 0], []) (G, I, F) _ _
          rw [show (sp_sum (fun i => sp_sum (sp_ru (I b) w i) w) i + sp_sum (sp_ru (I b) w i) w : Int32) = sp_sum (fun i => sp_sum (sp_ru (I b) w i) w) (i + 1) from by rfl]
          exact ii trivial
        · rw [(hw : I o 1 = nI w)] at c5
          have c5 := vm_ge_f (a := w) (b := w) (by omega) (by omega) c5
          exact (show False by omega).elim
  · show vm_J _ _ _ (4, (0, 0), [.ref o, .int (sp_sum (fun i => sp_sum (sp_ru (I b) w i) w) h), .int (nI h), .retAddr 0, .retAddr 0], []) (G, I, F) _ _
    refine vm_J.go vm_q77 (k := 4) (hs := [(8, 9, [.int 0, .int 0, .int 0, .ref a, .ref b, .ref c, .ref d, .ref e, .ref f])]) (f' := (bif vm_ic .ge (nI h) (I o 2) then 74 else 12, (0, 0), [.ref o, .int (sp_sum (fun i => sp_sum (sp_ru (I b) w i) w) h), .int (nI h), .retAddr 0, .retAddr 0], [])) (h' := (G, I, F)) (hs' := []) rfl (vm_b2 rfl (vm_b2 rfl (vm_b2 (vm_b2 (vm_hG ho) rfl) (vm_b2 rfl rfl)))) ?_
    refine vm_J.br (fun c6 => ?_) (fun c6 => ?_)
    · rw [(hh : I o 2 = nI h)] at c6
      have c6 := vm_ge_t (a := h) (b := h) (by omega) (by omega) c6
      refine vm_J.go vm_q77 (k := 1) (hs := []) (f' := (75, (0, 0), [.ref o, .int (sp_sum (fun i => sp_sum (sp_ru (I b) w i) w) h), .int (nI h), .retAddr 0, .retAddr 0], [.int (sp_sum (fun i => sp_sum (sp_ru (I b) w i) w) h)])) (h' := (G, I, F)) (hs' := []) rfl rfl ?_
      exact vm_J.end vm_q77 (en := (75, .ireturn, 1, [], .null)) rfl rfl vm_rI (Nat.zero_le _) (Nat.zero_le _) rfl
    · rw [(hh : I o 2 = nI h)] at c6
      have c6 := vm_ge_f (a := h) (b := h) (by omega) (by omega) c6
      exact (show False by omega).elim
