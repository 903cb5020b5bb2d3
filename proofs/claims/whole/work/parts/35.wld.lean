/-- a world's cells stand from B on -/
def vm_isW (G : List vm_Sh) (B : Nat) : Prop :=
  (G[B]? = some (11, 7, [.ref (B + 1), .ref (B + 2), .ref (B + 3), .ref (B + 4), .ref (B + 11), .ref (B + 13), .ref (B + 15)])) ∧
  (G[B + 1]? = some (52, 4, [.ref (B + 17), .ref (B + 19), .ref (B + 21), .ref (B + 23)])) ∧
  (G[B + 2]? = some (53, 4, [.ref (B + 25), .ref (B + 28), .ref (B + 31), .ref (B + 34)])) ∧
  (G[B + 3]? = some (0, 4, [])) ∧
  (G[B + 4]? = some (8, 9, [.int 0, .int 0, .int 0, .ref (B + 5), .ref (B + 6), .ref (B + 7), .ref (B + 8), .ref (B + 9), .ref (B + 10)])) ∧
  (G[B + 5]? = some (0, 144, [])) ∧
  (G[B + 6]? = some (0, 144, [])) ∧
  (G[B + 7]? = some (0, 144, [])) ∧
  (G[B + 8]? = some (1, 3, [])) ∧
  (G[B + 9]? = some (1, 432, [])) ∧
  (G[B + 10]? = some (1, 3, [])) ∧
  (G[B + 11]? = some (9, 3, [.int 0, .ref (B + 12), .int 0])) ∧
  (G[B + 12]? = some (0, 24, [])) ∧
  (G[B + 13]? = some (9, 3, [.int 0, .ref (B + 14), .int 0])) ∧
  (G[B + 14]? = some (0, 24, [])) ∧
  (G[B + 15]? = some (9, 3, [.int 0, .ref (B + 16), .int 0])) ∧
  (G[B + 16]? = some (0, 24, [])) ∧
  (∀ p, p < 4 → G[B + 17 + 2 * p]? = some (5, 3, [.int 0, .int 0, .ref (B + 18 + 2 * p)])) ∧
  (∀ p, p < 4 → G[B + 18 + 2 * p]? = some (0, 144, [])) ∧
  (∀ p, p < 4 → G[B + 25 + 3 * p]? = some (4, 3, [.int 0, .ref (B + 26 + 3 * p), .ref (B + 27 + 3 * p)])) ∧
  (∀ p, p < 4 → G[B + 26 + 3 * p]? = some (0, 16, [])) ∧
  (∀ p, p < 4 → G[B + 27 + 3 * p]? = some (0, 16, []))
theorem vm_lt4 {p : Int32} (h : 3 < p) : 4 ≤ p := by
  rw [Int32.lt_iff_toInt_lt] at h
  rw [Int32.le_iff_toInt_le]
  have : (3 : Int32).toInt = 3 := rfl
  have : (4 : Int32).toInt = 4 := rfl
  omega
theorem vm_isW.w {G : List vm_Sh} {B : Nat} (h : vm_isW G B) : G[B]? = some (11, 7, [.ref (B + 1), .ref (B + 2), .ref (B + 3), .ref (B + 4), .ref (B + 11), .ref (B + 13), .ref (B + 15)]) := h.1
theorem vm_isW.ps {G : List vm_Sh} {B : Nat} (h : vm_isW G B) : G[B + 1]? = some (52, 4, [.ref (B + 17), .ref (B + 19), .ref (B + 21), .ref (B + 23)]) := h.2.1
theorem vm_isW.ls {G : List vm_Sh} {B : Nat} (h : vm_isW G B) : G[B + 2]? = some (53, 4, [.ref (B + 25), .ref (B + 28), .ref (B + 31), .ref (B + 34)]) := h.2.2.1
theorem vm_isW.rl {G : List vm_Sh} {B : Nat} (h : vm_isW G B) : G[B + 3]? = some (0, 4, []) := h.2.2.2.1
theorem vm_isW.sh {G : List vm_Sh} {B : Nat} (h : vm_isW G B) : G[B + 4]? = some (8, 9, [.int 0, .int 0, .int 0, .ref (B + 5), .ref (B + 6), .ref (B + 7), .ref (B + 8), .ref (B + 9), .ref (B + 10)]) := h.2.2.2.2.1
theorem vm_isW.s1 {G : List vm_Sh} {B : Nat} (h : vm_isW G B) : G[B + 5]? = some (0, 144, []) := h.2.2.2.2.2.1
theorem vm_isW.s2 {G : List vm_Sh} {B : Nat} (h : vm_isW G B) : G[B + 6]? = some (0, 144, []) := h.2.2.2.2.2.2.1
theorem vm_isW.s3 {G : List vm_Sh} {B : Nat} (h : vm_isW G B) : G[B + 7]? = some (0, 144, []) := h.2.2.2.2.2.2.2.1
theorem vm_isW.s4 {G : List vm_Sh} {B : Nat} (h : vm_isW G B) : G[B + 8]? = some (1, 3, []) := h.2.2.2.2.2.2.2.2.1
theorem vm_isW.s5 {G : List vm_Sh} {B : Nat} (h : vm_isW G B) : G[B + 9]? = some (1, 432, []) := h.2.2.2.2.2.2.2.2.2.1
theorem vm_isW.s6 {G : List vm_Sh} {B : Nat} (h : vm_isW G B) : G[B + 10]? = some (1, 3, []) := h.2.2.2.2.2.2.2.2.2.2.1
theorem vm_isW.t1 {G : List vm_Sh} {B : Nat} (h : vm_isW G B) : G[B + 11]? = some (9, 3, [.int 0, .ref (B + 12), .int 0]) := h.2.2.2.2.2.2.2.2.2.2.2.1
theorem vm_isW.u1 {G : List vm_Sh} {B : Nat} (h : vm_isW G B) : G[B + 12]? = some (0, 24, []) := h.2.2.2.2.2.2.2.2.2.2.2.2.1
theorem vm_isW.t2 {G : List vm_Sh} {B : Nat} (h : vm_isW G B) : G[B + 13]? = some (9, 3, [.int 0, .ref (B + 14), .int 0]) := h.2.2.2.2.2.2.2.2.2.2.2.2.2.1
theorem vm_isW.u2 {G : List vm_Sh} {B : Nat} (h : vm_isW G B) : G[B + 14]? = some (0, 24, []) := h.2.2.2.2.2.2.2.2.2.2.2.2.2.2.1
theorem vm_isW.t3 {G : List vm_Sh} {B : Nat} (h : vm_isW G B) : G[B + 15]? = some (9, 3, [.int 0, .ref (B + 16), .int 0]) := h.2.2.2.2.2.2.2.2.2.2.2.2.2.2.2.1
theorem vm_isW.u3 {G : List vm_Sh} {B : Nat} (h : vm_isW G B) : G[B + 16]? = some (0, 24, []) := h.2.2.2.2.2.2.2.2.2.2.2.2.2.2.2.2.1
theorem vm_isW.p {G : List vm_Sh} {B : Nat} (h : vm_isW G B) : ∀ p, p < 4 → G[B + 17 + 2 * p]? = some (5, 3, [.int 0, .int 0, .ref (B + 18 + 2 * p)]) := h.2.2.2.2.2.2.2.2.2.2.2.2.2.2.2.2.2.1
theorem vm_isW.q {G : List vm_Sh} {B : Nat} (h : vm_isW G B) : ∀ p, p < 4 → G[B + 18 + 2 * p]? = some (0, 144, []) := h.2.2.2.2.2.2.2.2.2.2.2.2.2.2.2.2.2.2.1
theorem vm_isW.l {G : List vm_Sh} {B : Nat} (h : vm_isW G B) : ∀ p, p < 4 → G[B + 25 + 3 * p]? = some (4, 3, [.int 0, .ref (B + 26 + 3 * p), .ref (B + 27 + 3 * p)]) := h.2.2.2.2.2.2.2.2.2.2.2.2.2.2.2.2.2.2.2.1
theorem vm_isW.c {G : List vm_Sh} {B : Nat} (h : vm_isW G B) : ∀ p, p < 4 → G[B + 26 + 3 * p]? = some (0, 16, []) := h.2.2.2.2.2.2.2.2.2.2.2.2.2.2.2.2.2.2.2.2.1
theorem vm_isW.k {G : List vm_Sh} {B : Nat} (h : vm_isW G B) : ∀ p, p < 4 → G[B + 27 + 3 * p]? = some (0, 16, []) := h.2.2.2.2.2.2.2.2.2.2.2.2.2.2.2.2.2.2.2.2.2
set_option maxHeartbeats 4000000 in
set_option maxRecDepth 20000 in
/-- DitherDesk$World.frameAt  -/
theorem m_frame_0 {l : Launch} {X : vm_Cx} {G : List vm_Sh} {I : Nat → Nat → Int32} {F : Nat → Nat → UInt32} {B : Nat} (hW : vm_isW G B) : vm_K l X vm_M91 [.ref B, .int 0] (G, I, F) (some (.ref (B + 17))) (G, I, F) := by
  refine vm_K.mk (by decide) (Nat.le_of_ble_eq_true rfl) ?_
  show vm_J _ _ _ (0, (0, 0), [.ref B, .int 0], []) _ _ _
  refine vm_J.go vm_q91 (k := 2) (hs := []) (f' := (bif vm_ic .lt 0 0 then 22 else 4, (0, 0), [.ref B, .int 0], [])) (h' := (G, I, F)) (hs' := []) rfl rfl ?_
  refine vm_J.bF (by decide) ?_
  refine vm_J.go vm_q91 (k := 5) (hs := [(11, 7, [.ref (B + 1), .ref (B + 2), .ref (B + 3), .ref (B + 4), .ref (B + 11), .ref (B + 13), .ref (B + 15)]), (52, 4, [.ref (B + 17), .ref (B + 19), .ref (B + 21), .ref (B + 23)])]) (f' := (bif vm_ic .ge 0 4 then 22 else 13, (0, 0), [.ref B, .int 0], [])) (h' := (G, I, F)) (hs' := []) rfl (vm_b2 rfl (vm_b2 rfl (vm_b2 (vm_b2 (vm_hG hW.w) rfl) (vm_b2 (vm_b2 (vm_hG hW.ps) rfl) (vm_b2 rfl rfl))))) ?_
  refine vm_J.bF (by decide) ?_
  refine vm_J.go vm_q91 (k := 5) (hs := [(11, 7, [.ref (B + 1), .ref (B + 2), .ref (B + 3), .ref (B + 4), .ref (B + 11), .ref (B + 13), .ref (B + 15)]), (52, 4, [.ref (B + 17), .ref (B + 19), .ref (B + 21), .ref (B + 23)])]) (f' := (23, (0, 0), [.ref B, .int 0], [.ref (B + 17)])) (h' := (G, I, F)) (hs' := []) rfl (vm_b2 rfl (vm_b2 (vm_b2 (vm_hG hW.w) rfl) (vm_b2 rfl (vm_b2 (vm_b2 (vm_b2 (vm_hG hW.ps) rfl) rfl) (vm_b2 rfl rfl))))) ?_
  exact vm_J.end vm_q91 (en := (23, .areturn, 1, [], .null)) rfl rfl vm_rA (Nat.zero_le _) (Nat.zero_le _) rfl
set_option maxHeartbeats 4000000 in
set_option maxRecDepth 20000 in
/-- DitherDesk$World.frameAt  -/
theorem m_frame_1 {l : Launch} {X : vm_Cx} {G : List vm_Sh} {I : Nat → Nat → Int32} {F : Nat → Nat → UInt32} {B : Nat} (hW : vm_isW G B) : vm_K l X vm_M91 [.ref B, .int 1] (G, I, F) (some (.ref (B + 19))) (G, I, F) := by
  refine vm_K.mk (by decide) (Nat.le_of_ble_eq_true rfl) ?_
  show vm_J _ _ _ (0, (0, 0), [.ref B, .int 1], []) _ _ _
  refine vm_J.go vm_q91 (k := 2) (hs := []) (f' := (bif vm_ic .lt 1 0 then 22 else 4, (0, 0), [.ref B, .int 1], [])) (h' := (G, I, F)) (hs' := []) rfl rfl ?_
  refine vm_J.bF (by decide) ?_
  refine vm_J.go vm_q91 (k := 5) (hs := [(11, 7, [.ref (B + 1), .ref (B + 2), .ref (B + 3), .ref (B + 4), .ref (B + 11), .ref (B + 13), .ref (B + 15)]), (52, 4, [.ref (B + 17), .ref (B + 19), .ref (B + 21), .ref (B + 23)])]) (f' := (bif vm_ic .ge 1 4 then 22 else 13, (0, 0), [.ref B, .int 1], [])) (h' := (G, I, F)) (hs' := []) rfl (vm_b2 rfl (vm_b2 rfl (vm_b2 (vm_b2 (vm_hG hW.w) rfl) (vm_b2 (vm_b2 (vm_hG hW.ps) rfl) (vm_b2 rfl rfl))))) ?_
  refine vm_J.bF (by decide) ?_
  refine vm_J.go vm_q91 (k := 5) (hs := [(11, 7, [.ref (B + 1), .ref (B + 2), .ref (B + 3), .ref (B + 4), .ref (B + 11), .ref (B + 13), .ref (B + 15)]), (52, 4, [.ref (B + 17), .ref (B + 19), .ref (B + 21), .ref (B + 23)])]) (f' := (23, (0, 0), [.ref B, .int 1], [.ref (B + 19)])) (h' := (G, I, F)) (hs' := []) rfl (vm_b2 rfl (vm_b2 (vm_b2 (vm_hG hW.w) rfl) (vm_b2 rfl (vm_b2 (vm_b2 (vm_b2 (vm_hG hW.ps) rfl) rfl) (vm_b2 rfl rfl))))) ?_
  exact vm_J.end vm_q91 (en := (23, .areturn, 1, [], .null)) rfl rfl vm_rA (Nat.zero_le _) (Nat.zero_le _) rfl
set_option maxHeartbeats 4000000 in
set_option maxRecDepth 20000 in
/-- DitherDesk$World.frameAt  -/
theorem m_frame_2 {l : Launch} {X : vm_Cx} {G : List vm_Sh} {I : Nat → Nat → Int32} {F : Nat → Nat → UInt32} {B : Nat} (hW : vm_isW G B) : vm_K l X vm_M91 [.ref B, .int 2] (G, I, F) (some (.ref (B + 21))) (G, I, F) := by
  refine vm_K.mk (by decide) (Nat.le_of_ble_eq_true rfl) ?_
  show vm_J _ _ _ (0, (0, 0), [.ref B, .int 2], []) _ _ _
  refine vm_J.go vm_q91 (k := 2) (hs := []) (f' := (bif vm_ic .lt 2 0 then 22 else 4, (0, 0), [.ref B, .int 2], [])) (h' := (G, I, F)) (hs' := []) rfl rfl ?_
  refine vm_J.bF (by decide) ?_
  refine vm_J.go vm_q91 (k := 5) (hs := [(11, 7, [.ref (B + 1), .ref (B + 2), .ref (B + 3), .ref (B + 4), .ref (B + 11), .ref (B + 13), .ref (B + 15)]), (52, 4, [.ref (B + 17), .ref (B + 19), .ref (B + 21), .ref (B + 23)])]) (f' := (bif vm_ic .ge 2 4 then 22 else 13, (0, 0), [.ref B, .int 2], [])) (h' := (G, I, F)) (hs' := []) rfl (vm_b2 rfl (vm_b2 rfl (vm_b2 (vm_b2 (vm_hG hW.w) rfl) (vm_b2 (vm_b2 (vm_hG hW.ps) rfl) (vm_b2 rfl rfl))))) ?_
  refine vm_J.bF (by decide) ?_
  refine vm_J.go vm_q91 (k := 5) (hs := [(11, 7, [.ref (B + 1), .ref (B + 2), .ref (B + 3), .ref (B + 4), .ref (B + 11), .ref (B + 13), .ref (B + 15)]), (52, 4, [.ref (B + 17), .ref (B + 19), .ref (B + 21), .ref (B + 23)])]) (f' := (23, (0, 0), [.ref B, .int 2], [.ref (B + 21)])) (h' := (G, I, F)) (hs' := []) rfl (vm_b2 rfl (vm_b2 (vm_b2 (vm_hG hW.w) rfl) (vm_b2 rfl (vm_b2 (vm_b2 (vm_b2 (vm_hG hW.ps) rfl) rfl) (vm_b2 rfl rfl))))) ?_
  exact vm_J.end vm_q91 (en := (23, .areturn, 1, [], .null)) rfl rfl vm_rA (Nat.zero_le _) (Nat.zero_le _) rfl
set_option maxHeartbeats 4000000 in
set_option maxRecDepth 20000 in
/-- DitherDesk$World.frameAt  -/
theorem m_frame_3 {l : Launch} {X : vm_Cx} {G : List vm_Sh} {I : Nat → Nat → Int32} {F : Nat → Nat → UInt32} {B : Nat} (hW : vm_isW G B) : vm_K l X vm_M91 [.ref B, .int 3] (G, I, F) (some (.ref (B + 23))) (G, I, F) := by
  refine vm_K.mk (by decide) (Nat.le_of_ble_eq_true rfl) ?_
  show vm_J _ _ _ (0, (0, 0), [.ref B, .int 3], []) _ _ _
  refine vm_J.go vm_q91 (k := 2) (hs := []) (f' := (bif vm_ic .lt 3 0 then 22 else 4, (0, 0), [.ref B, .int 3], [])) (h' := (G, I, F)) (hs' := []) rfl rfl ?_
  refine vm_J.bF (by decide) ?_
  refine vm_J.go vm_q91 (k := 5) (hs := [(11, 7, [.ref (B + 1), .ref (B + 2), .ref (B + 3), .ref (B + 4), .ref (B + 11), .ref (B + 13), .ref (B + 15)]), (52, 4, [.ref (B + 17), .ref (B + 19), .ref (B + 21), .ref (B + 23)])]) (f' := (bif vm_ic .ge 3 4 then 22 else 13, (0, 0), [.ref B, .int 3], [])) (h' := (G, I, F)) (hs' := []) rfl (vm_b2 rfl (vm_b2 rfl (vm_b2 (vm_b2 (vm_hG hW.w) rfl) (vm_b2 (vm_b2 (vm_hG hW.ps) rfl) (vm_b2 rfl rfl))))) ?_
  refine vm_J.bF (by decide) ?_
  refine vm_J.go vm_q91 (k := 5) (hs := [(11, 7, [.ref (B + 1), .ref (B + 2), .ref (B + 3), .ref (B + 4), .ref (B + 11), .ref (B + 13), .ref (B + 15)]), (52, 4, [.ref (B + 17), .ref (B + 19), .ref (B + 21), .ref (B + 23)])]) (f' := (23, (0, 0), [.ref B, .int 3], [.ref (B + 23)])) (h' := (G, I, F)) (hs' := []) rfl (vm_b2 rfl (vm_b2 (vm_b2 (vm_hG hW.w) rfl) (vm_b2 rfl (vm_b2 (vm_b2 (vm_b2 (vm_hG hW.ps) rfl) rfl) (vm_b2 rfl rfl))))) ?_
  exact vm_J.end vm_q91 (en := (23, .areturn, 1, [], .null)) rfl rfl vm_rA (Nat.zero_le _) (Nat.zero_le _) rfl
set_option maxHeartbeats 4000000 in
set_option maxRecDepth 20000 in
/-- DitherDesk$World.frameAt  -/
theorem m_frame_x {l : Launch} {X : vm_Cx} {G : List vm_Sh} {I : Nat → Nat → Int32} {F : Nat → Nat → UInt32} {B : Nat} {p : Int32} (hW : vm_isW G B) (hx : p < 0 ∨ 3 < p) : vm_K l X vm_M91 [.ref B, .int p] (G, I, F) (some (.null)) (G, I, F) := by
  refine vm_K.mk (by decide) (Nat.le_of_ble_eq_true rfl) ?_
  show vm_J _ _ _ (0, (0, 0), [.ref B, .int p], []) _ _ _
  refine vm_J.go vm_q91 (k := 2) (hs := []) (f' := (bif vm_ic .lt p 0 then 22 else 4, (0, 0), [.ref B, .int p], [])) (h' := (G, I, F)) (hs' := []) rfl rfl ?_
  refine vm_J.br (fun c1 => ?_) (fun c1 => ?_)
  · have c1 : p < 0 := of_decide_eq_true c1
    refine vm_J.go vm_q91 (k := 1) (hs := []) (f' := (23, (0, 0), [.ref B, .int p], [.null])) (h' := (G, I, F)) (hs' := []) rfl rfl ?_
    exact vm_J.end vm_q91 (en := (23, .areturn, 1, [], .null)) rfl rfl vm_rN (Nat.zero_le _) (Nat.zero_le _) rfl
  · have c1 : ¬ (p < 0) := of_decide_eq_false c1
    refine vm_J.go vm_q91 (k := 5) (hs := [(11, 7, [.ref (B + 1), .ref (B + 2), .ref (B + 3), .ref (B + 4), .ref (B + 11), .ref (B + 13), .ref (B + 15)]), (52, 4, [.ref (B + 17), .ref (B + 19), .ref (B + 21), .ref (B + 23)])]) (f' := (bif vm_ic .ge p 4 then 22 else 13, (0, 0), [.ref B, .int p], [])) (h' := (G, I, F)) (hs' := []) rfl (vm_b2 rfl (vm_b2 rfl (vm_b2 (vm_b2 (vm_hG hW.w) rfl) (vm_b2 (vm_b2 (vm_hG hW.ps) rfl) (vm_b2 rfl rfl))))) ?_
    refine vm_J.br (fun c2 => ?_) (fun c2 => ?_)
    · have c2 : 4 ≤ p := of_decide_eq_true c2
      refine vm_J.go vm_q91 (k := 1) (hs := []) (f' := (23, (0, 0), [.ref B, .int p], [.null])) (h' := (G, I, F)) (hs' := []) rfl rfl ?_
      exact vm_J.end vm_q91 (en := (23, .areturn, 1, [], .null)) rfl rfl vm_rN (Nat.zero_le _) (Nat.zero_le _) rfl
    · have c2 : ¬ (4 ≤ p) := of_decide_eq_false c2
      exact (hx.elim c1 (fun q => c2 (vm_lt4 q))).elim
theorem m_frame_n {l : Launch} {X : vm_Cx} {G : List vm_Sh} {I : Nat → Nat → Int32} {F : Nat → Nat → UInt32} {B p : Nat} (hW : vm_isW G B) (hp : p < 4) : vm_K l X vm_M91 [.ref B, .int (nI p)] (G, I, F) (some (.ref (B + 17 + 2 * p))) (G, I, F) := by
  match p, hp with
  | 0, _ => exact m_frame_0 hW
  | 1, _ => exact m_frame_1 hW
  | 2, _ => exact m_frame_2 hW
  | 3, _ => exact m_frame_3 hW
  | p + 4, hp => exact absurd hp (by omega)
set_option maxHeartbeats 4000000 in
set_option maxRecDepth 20000 in
/-- DitherDesk$World.paletteAt  -/
theorem m_pal_0 {l : Launch} {X : vm_Cx} {G : List vm_Sh} {I : Nat → Nat → Int32} {F : Nat → Nat → UInt32} {B : Nat} (hW : vm_isW G B) : vm_K l X vm_M93 [.ref B, .int 0] (G, I, F) (some (.ref (B + 25))) (G, I, F) := by
  refine vm_K.mk (by decide) (Nat.le_of_ble_eq_true rfl) ?_
  show vm_J _ _ _ (0, (0, 0), [.ref B, .int 0], []) _ _ _
  refine vm_J.go vm_q93 (k := 2) (hs := []) (f' := (bif vm_ic .lt 0 0 then 22 else 4, (0, 0), [.ref B, .int 0], [])) (h' := (G, I, F)) (hs' := []) rfl rfl ?_
  refine vm_J.bF (by decide) ?_
  refine vm_J.go vm_q93 (k := 5) (hs := [(11, 7, [.ref (B + 1), .ref (B + 2), .ref (B + 3), .ref (B + 4), .ref (B + 11), .ref (B + 13), .ref (B + 15)]), (53, 4, [.ref (B + 25), .ref (B + 28), .ref (B + 31), .ref (B + 34)])]) (f' := (bif vm_ic .ge 0 4 then 22 else 13, (0, 0), [.ref B, .int 0], [])) (h' := (G, I, F)) (hs' := []) rfl (vm_b2 rfl (vm_b2 rfl (vm_b2 (vm_b2 (vm_hG hW.w) rfl) (vm_b2 (vm_b2 (vm_hG hW.ls) rfl) (vm_b2 rfl rfl))))) ?_
  refine vm_J.bF (by decide) ?_
  refine vm_J.go vm_q93 (k := 5) (hs := [(11, 7, [.ref (B + 1), .ref (B + 2), .ref (B + 3), .ref (B + 4), .ref (B + 11), .ref (B + 13), .ref (B + 15)]), (53, 4, [.ref (B + 25), .ref (B + 28), .ref (B + 31), .ref (B + 34)])]) (f' := (23, (0, 0), [.ref B, .int 0], [.ref (B + 25)])) (h' := (G, I, F)) (hs' := []) rfl (vm_b2 rfl (vm_b2 (vm_b2 (vm_hG hW.w) rfl) (vm_b2 rfl (vm_b2 (vm_b2 (vm_b2 (vm_hG hW.ls) rfl) rfl) (vm_b2 rfl rfl))))) ?_
  exact vm_J.end vm_q93 (en := (23, .areturn, 1, [], .null)) rfl rfl vm_rA (Nat.zero_le _) (Nat.zero_le _) rfl
set_option maxHeartbeats 4000000 in
set_option maxRecDepth 20000 in
/-- DitherDesk$World.paletteAt  -/
theorem m_pal_1 {l : Launch} {X : vm_Cx} {G : List vm_Sh} {I : Nat → Nat → Int32} {F : Nat → Nat → UInt32} {B : Nat} (hW : vm_isW G B) : vm_K l X vm_M93 [.ref B, .int 1] (G, I, F) (some (.ref (B + 28))) (G, I, F) := by
  refine vm_K.mk (by decide) (Nat.le_of_ble_eq_true rfl) ?_
  show vm_J _ _ _ (0, (0, 0), [.ref B, .int 1], []) _ _ _
  refine vm_J.go vm_q93 (k := 2) (hs := []) (f' := (bif vm_ic .lt 1 0 then 22 else 4, (0, 0), [.ref B, .int 1], [])) (h' := (G, I, F)) (hs' := []) rfl rfl ?_
  refine vm_J.bF (by decide) ?_
  refine vm_J.go vm_q93 (k := 5) (hs := [(11, 7, [.ref (B + 1), .ref (B + 2), .ref (B + 3), .ref (B + 4), .ref (B + 11), .ref (B + 13), .ref (B + 15)]), (53, 4, [.ref (B + 25), .ref (B + 28), .ref (B + 31), .ref (B + 34)])]) (f' := (bif vm_ic .ge 1 4 then 22 else 13, (0, 0), [.ref B, .int 1], [])) (h' := (G, I, F)) (hs' := []) rfl (vm_b2 rfl (vm_b2 rfl (vm_b2 (vm_b2 (vm_hG hW.w) rfl) (vm_b2 (vm_b2 (vm_hG hW.ls) rfl) (vm_b2 rfl rfl))))) ?_
  refine vm_J.bF (by decide) ?_
  refine vm_J.go vm_q93 (k := 5) (hs := [(11, 7, [.ref (B + 1), .ref (B + 2), .ref (B + 3), .ref (B + 4), .ref (B + 11), .ref (B + 13), .ref (B + 15)]), (53, 4, [.ref (B + 25), .ref (B + 28), .ref (B + 31), .ref (B + 34)])]) (f' := (23, (0, 0), [.ref B, .int 1], [.ref (B + 28)])) (h' := (G, I, F)) (hs' := []) rfl (vm_b2 rfl (vm_b2 (vm_b2 (vm_hG hW.w) rfl) (vm_b2 rfl (vm_b2 (vm_b2 (vm_b2 (vm_hG hW.ls) rfl) rfl) (vm_b2 rfl rfl))))) ?_
  exact vm_J.end vm_q93 (en := (23, .areturn, 1, [], .null)) rfl rfl vm_rA (Nat.zero_le _) (Nat.zero_le _) rfl
set_option maxHeartbeats 4000000 in
set_option maxRecDepth 20000 in
/-- DitherDesk$World.paletteAt  -/
theorem m_pal_2 {l : Launch} {X : vm_Cx} {G : List vm_Sh} {I : Nat → Nat → Int32} {F : Nat → Nat → UInt32} {B : Nat} (hW : vm_isW G B) : vm_K l X vm_M93 [.ref B, .int 2] (G, I, F) (some (.ref (B + 31))) (G, I, F) := by
  refine vm_K.mk (by decide) (Nat.le_of_ble_eq_true rfl) ?_
  show vm_J _ _ _ (0, (0, 0), [.ref B, .int 2], []) _ _ _
  refine vm_J.go vm_q93 (k := 2) (hs := []) (f' := (bif vm_ic .lt 2 0 then 22 else 4, (0, 0), [.ref B, .int 2], [])) (h' := (G, I, F)) (hs' := []) rfl rfl ?_
  refine vm_J.bF (by decide) ?_
  refine vm_J.go vm_q93 (k := 5) (hs := [(11, 7, [.ref (B + 1), .ref (B + 2), .ref (B + 3), .ref (B + 4), .ref (B + 11), .ref (B + 13), .ref (B + 15)]), (53, 4, [.ref (B + 25), .ref (B + 28), .ref (B + 31), .ref (B + 34)])]) (f' := (bif vm_ic .ge 2 4 then 22 else 13, (0, 0), [.ref B, .int 2], [])) (h' := (G, I, F)) (hs' := []) rfl (vm_b2 rfl (vm_b2 rfl (vm_b2 (vm_b2 (vm_hG hW.w) rfl) (vm_b2 (vm_b2 (vm_hG hW.ls) rfl) (vm_b2 rfl rfl))))) ?_
  refine vm_J.bF (by decide) ?_
  refine vm_J.go vm_q93 (k := 5) (hs := [(11, 7, [.ref (B + 1), .ref (B + 2), .ref (B + 3), .ref (B + 4), .ref (B + 11), .ref (B + 13), .ref (B + 15)]), (53, 4, [.ref (B + 25), .ref (B + 28), .ref (B + 31), .ref (B + 34)])]) (f' := (23, (0, 0), [.ref B, .int 2], [.ref (B + 31)])) (h' := (G, I, F)) (hs' := []) rfl (vm_b2 rfl (vm_b2 (vm_b2 (vm_hG hW.w) rfl) (vm_b2 rfl (vm_b2 (vm_b2 (vm_b2 (vm_hG hW.ls) rfl) rfl) (vm_b2 rfl rfl))))) ?_
  exact vm_J.end vm_q93 (en := (23, .areturn, 1, [], .null)) rfl rfl vm_rA (Nat.zero_le _) (Nat.zero_le _) rfl
set_option maxHeartbeats 4000000 in
set_option maxRecDepth 20000 in
/-- DitherDesk$World.paletteAt  -/
theorem m_pal_3 {l : Launch} {X : vm_Cx} {G : List vm_Sh} {I : Nat → Nat → Int32} {F : Nat → Nat → UInt32} {B : Nat} (hW : vm_isW G B) : vm_K l X vm_M93 [.ref B, .int 3] (G, I, F) (some (.ref (B + 34))) (G, I, F) := by
  refine vm_K.mk (by decide) (Nat.le_of_ble_eq_true rfl) ?_
  show vm_J _ _ _ (0, (0, 0), [.ref B, .int 3], []) _ _ _
  refine vm_J.go vm_q93 (k := 2) (hs := []) (f' := (bif vm_ic .lt 3 0 then 22 else 4, (0, 0), [.ref B, .int 3], [])) (h' := (G, I, F)) (hs' := []) rfl rfl ?_
  refine vm_J.bF (by decide) ?_
  refine vm_J.go vm_q93 (k := 5) (hs := [(11, 7, [.ref (B + 1), .ref (B + 2), .ref (B + 3), .ref (B + 4), .ref (B + 11), .ref (B + 13), .ref (B + 15)]), (53, 4, [.ref (B + 25), .ref (B + 28), .ref (B + 31), .ref (B + 34)])]) (f' := (bif vm_ic .ge 3 4 then 22 else 13, (0, 0), [.ref B, .int 3], [])) (h' := (G, I, F)) (hs' := []) rfl (vm_b2 rfl (vm_b2 rfl (vm_b2 (vm_b2 (vm_hG hW.w) rfl) (vm_b2 (vm_b2 (vm_hG hW.ls) rfl) (vm_b2 rfl rfl))))) ?_
  refine vm_J.bF (by decide) ?_
  refine vm_J.go vm_q93 (k := 5) (hs := [(11, 7, [.ref (B + 1), .ref (B + 2), .ref (B + 3), .ref (B + 4), .ref (B + 11), .ref (B + 13), .ref (B + 15)]), (53, 4, [.ref (B + 25), .ref (B + 28), .ref (B + 31), .ref (B + 34)])]) (f' := (23, (0, 0), [.ref B, .int 3], [.ref (B + 34)])) (h' := (G, I, F)) (hs' := []) rfl (vm_b2 rfl (vm_b2 (vm_b2 (vm_hG hW.w) rfl) (vm_b2 rfl (vm_b2 (vm_b2 (vm_b2 (vm_hG hW.ls) rfl) rfl) (vm_b2 rfl rfl))))) ?_
  exact vm_J.end vm_q93 (en := (23, .areturn, 1, [], .null)) rfl rfl vm_rA (Nat.zero_le _) (Nat.zero_le _) rfl
set_option maxHeartbeats 4000000 in
set_option maxRecDepth 20000 in
/-- DitherDesk$World.paletteAt  -/
theorem m_pal_x {l : Launch} {X : vm_Cx} {G : List vm_Sh} {I : Nat → Nat → Int32} {F : Nat → Nat → UInt32} {B : Nat} {p : Int32} (hW : vm_isW G B) (hx : p < 0 ∨ 3 < p) : vm_K l X vm_M93 [.ref B, .int p] (G, I, F) (some (.null)) (G, I, F) := by
  refine vm_K.mk (by decide) (Nat.le_of_ble_eq_true rfl) ?_
  show vm_J _ _ _ (0, (0, 0), [.ref B, .int p], []) _ _ _
  refine vm_J.go vm_q93 (k := 2) (hs := []) (f' := (bif vm_ic .lt p 0 then 22 else 4, (0, 0), [.ref B, .int p], [])) (h' := (G, I, F)) (hs' := []) rfl rfl ?_
  refine vm_J.br (fun c1 => ?_) (fun c1 => ?_)
  · have c1 : p < 0 := of_decide_eq_true c1
    refine vm_J.go vm_q93 (k := 1) (hs := []) (f' := (23, (0, 0), [.ref B, .int p], [.null])) (h' := (G, I, F)) (hs' := []) rfl rfl ?_
    exact vm_J.end vm_q93 (en := (23, .areturn, 1, [], .null)) rfl rfl vm_rN (Nat.zero_le _) (Nat.zero_le _) rfl
  · have c1 : ¬ (p < 0) := of_decide_eq_false c1
    refine vm_J.go vm_q93 (k := 5) (hs := [(11, 7, [.ref (B + 1), .ref (B + 2), .ref (B + 3), .ref (B + 4), .ref (B + 11), .ref (B + 13), .ref (B + 15)]), (53, 4, [.ref (B + 25), .ref (B + 28), .ref (B + 31), .ref (B + 34)])]) (f' := (bif vm_ic .ge p 4 then 22 else 13, (0, 0), [.ref B, .int p], [])) (h' := (G, I, F)) (hs' := []) rfl (vm_b2 rfl (vm_b2 rfl (vm_b2 (vm_b2 (vm_hG hW.w) rfl) (vm_b2 (vm_b2 (vm_hG hW.ls) rfl) (vm_b2 rfl rfl))))) ?_
    refine vm_J.br (fun c2 => ?_) (fun c2 => ?_)
    · have c2 : 4 ≤ p := of_decide_eq_true c2
      refine vm_J.go vm_q93 (k := 1) (hs := []) (f' := (23, (0, 0), [.ref B, .int p], [.null])) (h' := (G, I, F)) (hs' := []) rfl rfl ?_
      exact vm_J.end vm_q93 (en := (23, .areturn, 1, [], .null)) rfl rfl vm_rN (Nat.zero_le _) (Nat.zero_le _) rfl
    · have c2 : ¬ (4 ≤ p) := of_decide_eq_false c2
      exact (hx.elim c1 (fun q => c2 (vm_lt4 q))).elim
theorem m_pal_n {l : Launch} {X : vm_Cx} {G : List vm_Sh} {I : Nat → Nat → Int32} {F : Nat → Nat → UInt32} {B p : Nat} (hW : vm_isW G B) (hp : p < 4) : vm_K l X vm_M93 [.ref B, .int (nI p)] (G, I, F) (some (.ref (B + 25 + 3 * p))) (G, I, F) := by
  match p, hp with
  | 0, _ => exact m_pal_0 hW
  | 1, _ => exact m_pal_1 hW
  | 2, _ => exact m_pal_2 hW
  | 3, _ => exact m_pal_3 hW
  | p + 4, hp => exact absurd hp (by omega)
set_option maxHeartbeats 4000000 in
set_option maxRecDepth 20000 in
/-- DitherDesk$World.pictureAt  -/
theorem m_picAt_y {l : Launch} {X : vm_Cx} {G : List vm_Sh} {I : Nat → Nat → Int32} {F : Nat → Nat → UInt32} {B p : Nat} (hW : vm_isW G B) (hp : p < 4) (hv : 0 < I (B + 17 + 2 * p) 0) : vm_K l X vm_M92 [.ref B, .int (nI p)] (G, I, F) (some (.ref (B + 17 + 2 * p))) (G, I, F) := by
  refine vm_K.mk (by decide) (Nat.le_of_ble_eq_true rfl) ?_
  show vm_J _ _ _ (0, (0, 0), [.ref B, .int (nI p), .retAddr 0], []) _ _ _
  refine vm_J.go vm_q92 (k := 2) (hs := []) (f' := (2, (0, 0), [.ref B, .int (nI p), .retAddr 0], [.int (nI p), .ref B])) (h' := (G, I, F)) (hs' := []) rfl rfl ?_
  refine vm_J.call vm_q92 (Z := vm_M91) (n := 1) (k := 0) (mi := 91) (pc := 2) (en := (2, .invokevirtual 58, 3, [91, 442, 0], .null)) rfl trivial rfl rfl vm_z91 (av := [.ref B, .int (nI p)]) (rest := []) (m_frame_n (p := p) hW (by omega)) ⟨_, _, rfl, rfl, _, 9, _, hW.w, rfl, rfl, rfl⟩ (Nat.le_of_ble_eq_true rfl) ⟨Nat.le_of_ble_eq_true rfl, Nat.le_of_ble_eq_true rfl⟩ ⟨Nat.le_of_ble_eq_true rfl, Nat.le_of_ble_eq_true rfl⟩ ?_
  show vm_J _ _ _ (5, (0, 0), [.ref B, .int (nI p), .retAddr 0], [.ref (B + 17 + 2 * p)]) (G, I, F) _ _
  refine vm_J.go vm_q92 (k := 6) (hs := [(5, 3, [.int 0, .int 0, .ref (B + 18 + 2 * p)])]) (f' := (bif vm_ic .le (I (B + 17 + 2 * p) 0) 0 then 21 else 17, (0, 0), [.ref B, .int (nI p), .ref (B + 17 + 2 * p)], [])) (h' := (G, I, F)) (hs' := []) rfl (vm_b2 rfl (vm_b2 rfl (vm_b2 rfl (vm_b2 rfl (vm_b2 (vm_b2 (vm_hG (hW.p p hp)) rfl) (vm_b2 rfl rfl)))))) ?_
  refine vm_J.br (fun c1 => ?_) (fun c1 => ?_)
  · have c1 : (I (B + 17 + 2 * p) 0) ≤ 0 := of_decide_eq_true c1
    exact absurd hv (vm_le_ng c1)
  · have c1 : ¬ ((I (B + 17 + 2 * p) 0) ≤ 0) := of_decide_eq_false c1
    refine vm_J.go vm_q92 (k := 2) (hs := []) (f' := (22, (0, 0), [.ref B, .int (nI p), .ref (B + 17 + 2 * p)], [.ref (B + 17 + 2 * p)])) (h' := (G, I, F)) (hs' := []) rfl rfl ?_
    exact vm_J.end vm_q92 (en := (22, .areturn, 1, [], .null)) rfl rfl vm_rA (Nat.zero_le _) (Nat.zero_le _) rfl
set_option maxHeartbeats 4000000 in
set_option maxRecDepth 20000 in
/-- DitherDesk$World.pictureAt  -/
theorem m_picAt_n {l : Launch} {X : vm_Cx} {G : List vm_Sh} {I : Nat → Nat → Int32} {F : Nat → Nat → UInt32} {B p : Nat} (hW : vm_isW G B) (hp : p < 4) (hv : ¬ 0 < I (B + 17 + 2 * p) 0) : vm_K l X vm_M92 [.ref B, .int (nI p)] (G, I, F) (some (.null)) (G, I, F) := by
  refine vm_K.mk (by decide) (Nat.le_of_ble_eq_true rfl) ?_
  show vm_J _ _ _ (0, (0, 0), [.ref B, .int (nI p), .retAddr 0], []) _ _ _
  refine vm_J.go vm_q92 (k := 2) (hs := []) (f' := (2, (0, 0), [.ref B, .int (nI p), .retAddr 0], [.int (nI p), .ref B])) (h' := (G, I, F)) (hs' := []) rfl rfl ?_
  refine vm_J.call vm_q92 (Z := vm_M91) (n := 1) (k := 0) (mi := 91) (pc := 2) (en := (2, .invokevirtual 58, 3, [91, 442, 0], .null)) rfl trivial rfl rfl vm_z91 (av := [.ref B, .int (nI p)]) (rest := []) (m_frame_n (p := p) hW (by omega)) ⟨_, _, rfl, rfl, _, 9, _, hW.w, rfl, rfl, rfl⟩ (Nat.le_of_ble_eq_true rfl) ⟨Nat.le_of_ble_eq_true rfl, Nat.le_of_ble_eq_true rfl⟩ ⟨Nat.le_of_ble_eq_true rfl, Nat.le_of_ble_eq_true rfl⟩ ?_
  show vm_J _ _ _ (5, (0, 0), [.ref B, .int (nI p), .retAddr 0], [.ref (B + 17 + 2 * p)]) (G, I, F) _ _
  refine vm_J.go vm_q92 (k := 6) (hs := [(5, 3, [.int 0, .int 0, .ref (B + 18 + 2 * p)])]) (f' := (bif vm_ic .le (I (B + 17 + 2 * p) 0) 0 then 21 else 17, (0, 0), [.ref B, .int (nI p), .ref (B + 17 + 2 * p)], [])) (h' := (G, I, F)) (hs' := []) rfl (vm_b2 rfl (vm_b2 rfl (vm_b2 rfl (vm_b2 rfl (vm_b2 (vm_b2 (vm_hG (hW.p p hp)) rfl) (vm_b2 rfl rfl)))))) ?_
  refine vm_J.br (fun c1 => ?_) (fun c1 => ?_)
  · have c1 : (I (B + 17 + 2 * p) 0) ≤ 0 := of_decide_eq_true c1
    refine vm_J.go vm_q92 (k := 1) (hs := []) (f' := (22, (0, 0), [.ref B, .int (nI p), .ref (B + 17 + 2 * p)], [.null])) (h' := (G, I, F)) (hs' := []) rfl rfl ?_
    exact vm_J.end vm_q92 (en := (22, .areturn, 1, [], .null)) rfl rfl vm_rN (Nat.zero_le _) (Nat.zero_le _) rfl
  · have c1 : ¬ ((I (B + 17 + 2 * p) 0) ≤ 0) := of_decide_eq_false c1
    exact absurd (vm_nle_g c1) hv
set_option maxHeartbeats 4000000 in
set_option maxRecDepth 20000 in
/-- DitherDesk$World.pictureAt  -/
theorem m_picAt_x {l : Launch} {X : vm_Cx} {G : List vm_Sh} {I : Nat → Nat → Int32} {F : Nat → Nat → UInt32} {B : Nat} {p : Int32} (hW : vm_isW G B) (hx : p < 0 ∨ 3 < p) : vm_K l X vm_M92 [.ref B, .int p] (G, I, F) (some (.null)) (G, I, F) := by
  refine vm_K.mk (by decide) (Nat.le_of_ble_eq_true rfl) ?_
  show vm_J _ _ _ (0, (0, 0), [.ref B, .int p, .retAddr 0], []) _ _ _
  refine vm_J.go vm_q92 (k := 2) (hs := []) (f' := (2, (0, 0), [.ref B, .int p, .retAddr 0], [.int p, .ref B])) (h' := (G, I, F)) (hs' := []) rfl rfl ?_
  refine vm_J.call vm_q92 (Z := vm_M91) (n := 1) (k := 0) (mi := 91) (pc := 2) (en := (2, .invokevirtual 58, 3, [91, 442, 0], .null)) rfl trivial rfl rfl vm_z91 (av := [.ref B, .int p]) (rest := []) (m_frame_x (p := p) hW hx) ⟨_, _, rfl, rfl, _, 9, _, hW.w, rfl, rfl, rfl⟩ (Nat.le_of_ble_eq_true rfl) ⟨Nat.le_of_ble_eq_true rfl, Nat.le_of_ble_eq_true rfl⟩ ⟨Nat.le_of_ble_eq_true rfl, Nat.le_of_ble_eq_true rfl⟩ ?_
  show vm_J _ _ _ (5, (0, 0), [.ref B, .int p, .retAddr 0], [.null]) (G, I, F) _ _
  refine vm_J.go vm_q92 (k := 4) (hs := []) (f' := (22, (0, 0), [.ref B, .int p, .null], [.null])) (h' := (G, I, F)) (hs' := []) rfl rfl ?_
  exact vm_J.end vm_q92 (en := (22, .areturn, 1, [], .null)) rfl rfl vm_rN (Nat.zero_le _) (Nat.zero_le _) rfl
set_option maxHeartbeats 4000000 in
set_option maxRecDepth 20000 in
/-- DitherDesk$World.ruleOf  -/
theorem m_ruleOf {l : Launch} {X : vm_Cx} {G : List vm_Sh} {I : Nat → Nat → Int32} {F : Nat → Nat → UInt32} {B j : Nat} (hW : vm_isW G B) (hj : j < 4) : vm_K l X vm_M94 [.ref B, .int (nI j)] (G, I, F) (some (.int (I (B + 3) j))) (G, I, F) := by
  refine vm_K.mk (by decide) (Nat.le_of_ble_eq_true rfl) ?_
  show vm_J _ _ _ (0, (0, 0), [.ref B, .int (nI j)], []) _ _ _
  refine vm_J.go vm_q94 (k := 3) (hs := [(11, 7, [.ref (B + 1), .ref (B + 2), .ref (B + 3), .ref (B + 4), .ref (B + 11), .ref (B + 13), .ref (B + 15)])]) (f' := (5, (0, 0), [.ref B, .int (nI j)], [.int (nI j), .ref (B + 3)])) (h' := (G, I, F)) (hs' := []) rfl (vm_b2 rfl (vm_b2 (vm_b2 (vm_hG hW.w) rfl) (vm_b2 rfl rfl))) ?_
  refine vm_J.call vm_q94 (Z := vm_M152) (n := 2) (k := 1) (mi := 152) (pc := 5) (en := (5, .invokestatic 66, 3, [152, 749, 1], .null)) rfl trivial rfl rfl vm_z152 (av := [.ref (B + 3), .int (nI j)]) (rest := []) (m_at_n (j := j) hW.rl (by omega) (by omega)) rfl (Nat.le_of_ble_eq_true rfl) ⟨Nat.le_of_ble_eq_true rfl, Nat.le_of_ble_eq_true rfl⟩ ⟨Nat.le_of_ble_eq_true rfl, Nat.le_of_ble_eq_true rfl⟩ ?_
  show vm_J _ _ _ (8, (0, 0), [.ref B, .int (nI j)], [.int (I (B + 3) j)]) (G, I, F) _ _
  exact vm_J.end vm_q94 (en := (8, .ireturn, 1, [], .null)) rfl rfl vm_rI (Nat.zero_le _) (Nat.zero_le _) rfl
set_option maxHeartbeats 4000000 in
set_option maxRecDepth 20000 in
/-- DitherDesk$World.standingPictures  -/
theorem m_standing {l : Launch} {X : vm_Cx} {G : List vm_Sh} {I : Nat → Nat → Int32} {F : Nat → Nat → UInt32} {B : Nat} (hW : vm_isW G B) : vm_K l X vm_M95 [.ref B] (G, I, F) (some (.int (sp_sum (fun p => if 0 < I (B + 17 + 2 * p) 0 then 1 else 0) 4))) (G, I, F) := by
  refine vm_K.mk (by decide) (Nat.le_of_ble_eq_true rfl) ?_
  show vm_J _ _ _ (0, (0, 0), [.ref B, .retAddr 0, .retAddr 0], []) _ _ _
  refine vm_J.go vm_q95 (k := 4) (hs := []) (f' := (4, (0, 0), [.ref B, .int 0, .int 0], [])) (h' := (G, I, F)) (hs' := []) rfl rfl ?_
  refine vm_J.cnt 4 (fun j => (4, (0, 0), [.ref B, .int (sp_sum (fun p => if 0 < I (B + 17 + 2 * p) 0 then 1 else 0) j), .int (nI j)], [])) (fun j => (G, I, F)) (fun _ => True) rfl rfl trivial (fun j hj pj ij => ?_) (fun pj => ?_)
  · show vm_J _ _ _ (4, (0, 0), [.ref B, .int (sp_sum (fun p => if 0 < I (B + 17 + 2 * p) 0 then 1 else 0) j), .int (nI j)], []) (G, I, F) _ _
    refine vm_J.go vm_q95 (k := 3) (hs := []) (f' := (bif vm_ic .ge (nI j) 4 then 26 else 9, (0, 0), [.ref B, .int (sp_sum (fun p => if 0 < I (B + 17 + 2 * p) 0 then 1 else 0) j), .int (nI j)], [])) (h' := (G, I, F)) (hs' := []) rfl rfl ?_
    refine vm_J.br (fun c1 => ?_) (fun c1 => ?_)
    · have c1 := vm_ge_t (a := j) (b := 4) (by omega) (by omega) c1
      exact (show False by omega).elim
    · have c1 := vm_ge_f (a := j) (b := 4) (by omega) (by omega) c1
      by_cases hv : 0 < I (B + 17 + 2 * j) 0
      · show vm_J _ _ _ (9, (0, 0), [.ref B, .int (sp_sum (fun p => if 0 < I (B + 17 + 2 * p) 0 then 1 else 0) j), .int (nI j)], []) (G, I, F) _ _
        refine vm_J.go vm_q95 (k := 2) (hs := []) (f' := (11, (0, 0), [.ref B, .int (sp_sum (fun p => if 0 < I (B + 17 + 2 * p) 0 then 1 else 0) j), .int (nI j)], [.int (nI j), .ref B])) (h' := (G, I, F)) (hs' := []) rfl rfl ?_
        refine vm_J.call vm_q95 (Z := vm_M92) (n := 1) (k := 0) (mi := 92) (pc := 11) (en := (11, .invokevirtual 70, 3, [92, 1062, 0], .null)) rfl trivial rfl rfl vm_z92 (av := [.ref B, .int (nI j)]) (rest := []) (m_picAt_y (p := j) hW (by omega) hv) ⟨_, _, rfl, rfl, _, 9, _, hW.w, rfl, rfl, rfl⟩ (Nat.le_of_ble_eq_true rfl) ⟨Nat.le_of_ble_eq_true rfl, Nat.le_of_ble_eq_true rfl⟩ ⟨Nat.le_of_ble_eq_true rfl, Nat.le_of_ble_eq_true rfl⟩ ?_
        show vm_J _ _ _ (14, (0, 0), [.ref B, .int (sp_sum (fun p => if 0 < I (B + 17 + 2 * p) 0 then 1 else 0) j), .int (nI j)], [.ref (B + 17 + 2 * j)]) (G, I, F) _ _
        refine vm_J.go vm_q95 (k := 4) (hs := []) (f' := (4, (0, 0), [.ref B, .int ((sp_sum (fun p => if 0 < I (B + 17 + 2 * p) 0 then 1 else 0) j) + 1), .int ((nI j) + 1)], [])) (h' := (G, I, F)) (hs' := []) rfl rfl ?_
        rw [((vm_pa (rfl : nI j = nI j) (rfl : (1 : Int32) = nI 1)) : (nI j) + 1 = nI (j + 1))]
        rw [show ((sp_sum (fun p => if 0 < I (B + 17 + 2 * p) 0 then 1 else 0) j) + 1 : Int32) = sp_sum (fun p => if 0 < I (B + 17 + 2 * p) 0 then 1 else 0) (j + 1) from by first | rw [sp_sum, if_pos hv] | rw [sp_sum, if_neg hv]; exact (Int32.add_zero _).symm]
        exact ij trivial
      · show vm_J _ _ _ (9, (0, 0), [.ref B, .int (sp_sum (fun p => if 0 < I (B + 17 + 2 * p) 0 then 1 else 0) j), .int (nI j)], []) (G, I, F) _ _
        refine vm_J.go vm_q95 (k := 2) (hs := []) (f' := (11, (0, 0), [.ref B, .int (sp_sum (fun p => if 0 < I (B + 17 + 2 * p) 0 then 1 else 0) j), .int (nI j)], [.int (nI j), .ref B])) (h' := (G, I, F)) (hs' := []) rfl rfl ?_
        refine vm_J.call vm_q95 (Z := vm_M92) (n := 1) (k := 0) (mi := 92) (pc := 11) (en := (11, .invokevirtual 70, 3, [92, 1062, 0], .null)) rfl trivial rfl rfl vm_z92 (av := [.ref B, .int (nI j)]) (rest := []) (m_picAt_n (p := j) hW (by omega) hv) ⟨_, _, rfl, rfl, _, 9, _, hW.w, rfl, rfl, rfl⟩ (Nat.le_of_ble_eq_true rfl) ⟨Nat.le_of_ble_eq_true rfl, Nat.le_of_ble_eq_true rfl⟩ ⟨Nat.le_of_ble_eq_true rfl, Nat.le_of_ble_eq_true rfl⟩ ?_
        show vm_J _ _ _ (14, (0, 0), [.ref B, .int (sp_sum (fun p => if 0 < I (B + 17 + 2 * p) 0 then 1 else 0) j), .int (nI j)], [.null]) (G, I, F) _ _
        refine vm_J.go vm_q95 (k := 3) (hs := []) (f' := (4, (0, 0), [.ref B, .int (sp_sum (fun p => if 0 < I (B + 17 + 2 * p) 0 then 1 else 0) j), .int ((nI j) + 1)], [])) (h' := (G, I, F)) (hs' := []) rfl rfl ?_
        rw [((vm_pa (rfl : nI j = nI j) (rfl : (1 : Int32) = nI 1)) : (nI j) + 1 = nI (j + 1))]
        rw [show (sp_sum (fun p => if 0 < I (B + 17 + 2 * p) 0 then 1 else 0) j : Int32) = sp_sum (fun p => if 0 < I (B + 17 + 2 * p) 0 then 1 else 0) (j + 1) from by first | rw [sp_sum, if_pos hv] | rw [sp_sum, if_neg hv]; exact (Int32.add_zero _).symm]
        exact ij trivial
  · show vm_J _ _ _ (4, (0, 0), [.ref B, .int (sp_sum (fun p => if 0 < I (B + 17 + 2 * p) 0 then 1 else 0) 4), .int (nI 4)], []) (G, I, F) _ _
    refine vm_J.go vm_q95 (k := 3) (hs := []) (f' := (bif vm_ic .ge (nI 4) 4 then 26 else 9, (0, 0), [.ref B, .int (sp_sum (fun p => if 0 < I (B + 17 + 2 * p) 0 then 1 else 0) 4), .int (nI 4)], [])) (h' := (G, I, F)) (hs' := []) rfl rfl ?_
    refine vm_J.br (fun c2 => ?_) (fun c2 => ?_)
    · have c2 := vm_ge_t (a := 4) (b := 4) (by omega) (by omega) c2
      refine vm_J.go vm_q95 (k := 1) (hs := []) (f' := (27, (0, 0), [.ref B, .int (sp_sum (fun p => if 0 < I (B + 17 + 2 * p) 0 then 1 else 0) 4), .int (nI 4)], [.int (sp_sum (fun p => if 0 < I (B + 17 + 2 * p) 0 then 1 else 0) 4)])) (h' := (G, I, F)) (hs' := []) rfl rfl ?_
      exact vm_J.end vm_q95 (en := (27, .ireturn, 1, [], .null)) rfl rfl vm_rI (Nat.zero_le _) (Nat.zero_le _) rfl
    · have c2 := vm_ge_f (a := 4) (b := 4) (by omega) (by omega) c2
      exact (show False by omega).elim
set_option maxHeartbeats 4000000 in
set_option maxRecDepth 20000 in
/-- DitherDesk$World.allEntries  -/
theorem m_allEntries {l : Launch} {X : vm_Cx} {G : List vm_Sh} {I : Nat → Nat → Int32} {F : Nat → Nat → UInt32} {B : Nat} (hW : vm_isW G B) : vm_K l X vm_M96 [.ref B] (G, I, F) (some (.int (sp_sum (fun p => I (B + 25 + 3 * p) 0) 4))) (G, I, F) := by
  refine vm_K.mk (by decide) (Nat.le_of_ble_eq_true rfl) ?_
  show vm_J _ _ _ (0, (0, 0), [.ref B, .retAddr 0, .retAddr 0, .retAddr 0], []) _ _ _
  refine vm_J.go vm_q96 (k := 4) (hs := []) (f' := (4, (0, 0), [.ref B, .int 0, .int 0, .retAddr 0], [])) (h' := (G, I, F)) (hs' := []) rfl rfl ?_
  refine vm_J.cnt 4 (fun j => (4, (0, 0), [.ref B, .int (sp_sum (fun p => I (B + 25 + 3 * p) 0) j), .int (nI j), .retAddr 0], [])) (fun j => (G, I, F)) (fun _ => True) rfl rfl trivial (fun j hj pj ij => ?_) (fun pj => ?_)
  · show vm_J _ _ _ (4, (0, 0), [.ref B, .int (sp_sum (fun p => I (B + 25 + 3 * p) 0) j), .int (nI j), .retAddr 0], []) (G, I, F) _ _
    refine vm_J.go vm_q96 (k := 3) (hs := []) (f' := (bif vm_ic .ge (nI j) 4 then 36 else 9, (0, 0), [.ref B, .int (sp_sum (fun p => I (B + 25 + 3 * p) 0) j), .int (nI j), .retAddr 0], [])) (h' := (G, I, F)) (hs' := []) rfl rfl ?_
    refine vm_J.br (fun c1 => ?_) (fun c1 => ?_)
    · have c1 := vm_ge_t (a := j) (b := 4) (by omega) (by omega) c1
      exact (show False by omega).elim
    · have c1 := vm_ge_f (a := j) (b := 4) (by omega) (by omega) c1
      refine vm_J.go vm_q96 (k := 2) (hs := []) (f' := (11, (0, 0), [.ref B, .int (sp_sum (fun p => I (B + 25 + 3 * p) 0) j), .int (nI j), .retAddr 0], [.int (nI j), .ref B])) (h' := (G, I, F)) (hs' := []) rfl rfl ?_
      refine vm_J.call vm_q96 (Z := vm_M93) (n := 1) (k := 0) (mi := 93) (pc := 11) (en := (11, .invokevirtual 73, 3, [93, 1014, 0], .null)) rfl trivial rfl rfl vm_z93 (av := [.ref B, .int (nI j)]) (rest := []) (m_pal_n (p := j) hW (by omega)) ⟨_, _, rfl, rfl, _, 9, _, hW.w, rfl, rfl, rfl⟩ (Nat.le_of_ble_eq_true rfl) ⟨Nat.le_of_ble_eq_true rfl, Nat.le_of_ble_eq_true rfl⟩ ⟨Nat.le_of_ble_eq_true rfl, Nat.le_of_ble_eq_true rfl⟩ ?_
      show vm_J _ _ _ (14, (0, 0), [.ref B, .int (sp_sum (fun p => I (B + 25 + 3 * p) 0) j), .int (nI j), .retAddr 0], [.ref (B + 25 + 3 * j)]) (G, I, F) _ _
      refine vm_J.go vm_q96 (k := 10) (hs := [(4, 3, [.int 0, .ref (B + 26 + 3 * j), .ref (B + 27 + 3 * j)])]) (f' := (4, (0, 0), [.ref B, .int ((sp_sum (fun p => I (B + 25 + 3 * p) 0) j) + (I (B + 25 + 3 * j) 0)), .int ((nI j) + 1), .ref (B + 25 + 3 * j)], [])) (h' := (G, I, F)) (hs' := []) rfl (vm_b2 rfl (vm_b2 rfl (vm_b2 rfl (vm_b2 rfl (vm_b2 rfl (vm_b2 (vm_b2 (vm_hG (hW.l j hj)) rfl) (vm_b2 rfl (vm_b2 rfl (vm_b2 rfl (vm_b2 rfl rfl)))))))))) ?_
      rw [((vm_pa (rfl : nI j = nI j) (rfl : (1 : Int32) = nI 1)) : (nI j) + 1 = nI (j + 1))]
      refine vm_J.mask [true, true, true, false] ?_
      show vm_J _ _ _ (4, (0, 0), [.ref B, .int ((sp_sum (fun p => I (B + 25 + 3 * p) 0) j) + (I (B + 25 + 3 * j) 0)), .int (nI (j + 1)), .retAddr 0], []) (G, I, F) _ _
      rw [show ((sp_sum (fun p => I (B + 25 + 3 * p) 0) j) + (I (B + 25 + 3 * j) 0) : Int32) = sp_sum (fun p => I (B + 25 + 3 * p) 0) (j + 1) from by rfl]
      exact ij trivial
  · show vm_J _ _ _ (4, (0, 0), [.ref B, .int (sp_sum (fun p => I (B + 25 + 3 * p) 0) 4), .int (nI 4), .retAddr 0], []) (G, I, F) _ _
    refine vm_J.go vm_q96 (k := 3) (hs := []) (f' := (bif vm_ic .ge (nI 4) 4 then 36 else 9, (0, 0), [.ref B, .int (sp_sum (fun p => I (B + 25 + 3 * p) 0) 4), .int (nI 4), .retAddr 0], [])) (h' := (G, I, F)) (hs' := []) rfl rfl ?_
    refine vm_J.br (fun c2 => ?_) (fun c2 => ?_)
    · have c2 := vm_ge_t (a := 4) (b := 4) (by omega) (by omega) c2
      refine vm_J.go vm_q96 (k := 1) (hs := []) (f' := (37, (0, 0), [.ref B, .int (sp_sum (fun p => I (B + 25 + 3 * p) 0) 4), .int (nI 4), .retAddr 0], [.int (sp_sum (fun p => I (B + 25 + 3 * p) 0) 4)])) (h' := (G, I, F)) (hs' := []) rfl rfl ?_
      exact vm_J.end vm_q96 (en := (37, .ireturn, 1, [], .null)) rfl rfl vm_rI (Nat.zero_le _) (Nat.zero_le _) rfl
    · have c2 := vm_ge_f (a := 4) (b := 4) (by omega) (by omega) c2
      exact (show False by omega).elim
