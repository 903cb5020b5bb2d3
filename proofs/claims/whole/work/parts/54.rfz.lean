set_option maxHeartbeats 4000000 in
set_option maxRecDepth 20000 in
/-- DitherDesk$Refiner.refineOnce  -/
theorem m_Rf_once0 {l : Launch} {X : vm_Cx} {G : List vm_Sh} {I : Nat → Nat → Int32} {F : Nat → Nat → UInt32} {r sa px o a b q pa w h : Nat} {m : Int32} (hr : G[r]? = some (7, 2, [.ref sa, .ref px])) (hsa : G[sa]? = some (0, 48, [])) (hpx : G[px]? = some (0, 16, [])) (ho : G[o]? = some (4, 3, [.int 0, .ref a, .ref b])) (ha : G[a]? = some (0, 16, [])) (hb : G[b]? = some (0, 16, [])) (hn : I o 0 = 0) (hq : G[q]? = some (5, 3, [.int 0, .int 0, .ref pa])) (hpa : G[pa]? = some (0, 144, [])) (hw : I q 0 = nI w) (hh : I q 1 = nI h) (hw2 : w ≤ 12) (hh2 : h ≤ 12) (ho1 : o ≠ sa) (ho2 : o ≠ px) (ha1 : a ≠ sa) (ha2 : a ≠ px) (hb1 : b ≠ sa) (hb2 : b ≠ px) (hq1 : q ≠ sa) (hq2 : q ≠ px) (hpa1 : pa ≠ sa) (hpa2 : pa ≠ px) (hsp : sa ≠ px) : vm_K l X vm_M57 [.ref r, .ref o, .ref q, .int m] (G, I, F) (some (.int 0)) (G, (vm_gz I sa px), F) := by
  refine vm_K.mk (by decide) (Nat.le_of_ble_eq_true rfl) ?_
  show vm_J _ _ _ (0, (0, 0), [.ref r, .ref o, .ref q, .int m, .retAddr 0, .retAddr 0, .retAddr 0], []) _ _ _
  refine vm_J.go vm_q57 (k := 4) (hs := []) (f' := (4, (0, 0), [.ref r, .ref o, .ref q, .int m, .retAddr 0, .retAddr 0, .retAddr 0], [.int m, .ref q, .ref o, .ref r])) (h' := (G, I, F)) (hs' := []) rfl rfl ?_
  refine vm_J.call vm_q57 (Z := vm_M58) (n := 3) (k := 0) (mi := 58) (pc := 4) (en := (4, .invokevirtual 18, 3, [58, 754, 0], .null)) rfl trivial rfl rfl vm_z58 (av := [.ref r, .ref o, .ref q, .int m]) (rest := []) (m_Rf_gather0 hr hsa hpx ho ha hb hn hq hpa hw hh hw2 hh2 ho1 ho2 ha1 ha2 hb1 hb2 hq1 hq2 hpa1 hpa2 hsp) ⟨_, _, rfl, rfl, _, 5, _, hr, rfl, rfl, rfl⟩ (Nat.le_of_ble_eq_true rfl) ⟨Nat.le_of_ble_eq_true rfl, Nat.le_of_ble_eq_true rfl⟩ ⟨Nat.le_of_ble_eq_true rfl, Nat.le_of_ble_eq_true rfl⟩ ?_
  show vm_J _ _ _ (7, (0, 0), [.ref r, .ref o, .ref q, .int m, .retAddr 0, .retAddr 0, .retAddr 0], []) (G, (vm_gz I sa px), F) _ _
  refine vm_J.go vm_q57 (k := 8) (hs := [(4, 3, [.int 0, .ref a, .ref b])]) (f' := (bif vm_ic .ge 0 ((vm_gz I sa px) o 0) then 83 else 22, (0, 0), [.ref r, .ref o, .ref q, .int m, .int 0, .int 0, .retAddr 0], [])) (h' := (G, (vm_gz I sa px), F)) (hs' := []) rfl (vm_b2 rfl (vm_b2 rfl (vm_b2 rfl (vm_b2 rfl (vm_b2 rfl (vm_b2 rfl (vm_b2 (vm_b2 (vm_hG ho) rfl) (vm_b2 rfl rfl)))))))) ?_
  refine vm_J.br (fun c1 => ?_) (fun c1 => ?_)
  · rw [(((vm_gz_o I sa px o ho1 ho2 0).trans hn) : (vm_gz I sa px) o 0 = nI 0)] at c1
    have c1 := vm_ge_t (a := 0) (b := 0) (by omega) (by omega) c1
    refine vm_J.go vm_q57 (k := 1) (hs := []) (f' := (85, (0, 0), [.ref r, .ref o, .ref q, .int m, .int 0, .int 0, .retAddr 0], [.int 0])) (h' := (G, (vm_gz I sa px), F)) (hs' := []) rfl rfl ?_
    exact vm_J.end vm_q57 (en := (85, .ireturn, 1, [], .null)) rfl rfl vm_rZ0 (Nat.zero_le _) (Nat.zero_le _) rfl
  · rw [(((vm_gz_o I sa px o ho1 ho2 0).trans hn) : (vm_gz I sa px) o 0 = nI 0)] at c1
    have c1 := vm_ge_f (a := 0) (b := 0) (by omega) (by omega) c1
    exact absurd c1 (by omega)
/-- a box's place among those in order -/
def sp_bx (I : Nat → Nat → Int32) (C n : Nat) (i : Int32) : Nat := sp_fi (fun t => sp_sum (fun u => if I (C + 4 + u) 5 < I (C + 4 + t) 5 then 1 else 0) n = i) n
theorem m_Cu_boxAt_y {l : Launch} {X : vm_Cx} {G : List vm_Sh} {I : Nat → Nat → Int32} {F : Nat → Nat → UInt32} {C n : Nat} {i : Int32} (hC : vm_isC G C) (hn : I C 4 = nI n) (hn2 : n ≤ 16) (h : sp_bx I C n i < n) : vm_K l X vm_M16 [.ref C, .int i] (G, I, F) (some (.ref (C + 4 + sp_bx I C n i))) (G, I, F) := by
  have q := m_Cu_boxAt (l := l) (X := X) (F := F) (i := i) hC hn hn2
  unfold sp_bx at h ⊢
  rw [if_pos h] at q
  exact q
theorem m_Cu_boxAt_n {l : Launch} {X : vm_Cx} {G : List vm_Sh} {I : Nat → Nat → Int32} {F : Nat → Nat → UInt32} {C n : Nat} {i : Int32} (hC : vm_isC G C) (hn : I C 4 = nI n) (hn2 : n ≤ 16) (h : ¬ sp_bx I C n i < n) : vm_K l X vm_M16 [.ref C, .int i] (G, I, F) (some .null) (G, I, F) := by
  have q := m_Cu_boxAt (l := l) (X := X) (F := F) (i := i) hC hn hn2
  unfold sp_bx at h
  rw [if_neg h] at q
  exact q
