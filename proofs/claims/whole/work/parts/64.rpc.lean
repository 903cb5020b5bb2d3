/-- a natural as a long -/
abbrev nL (n : Nat) : Int64 := Int64.ofNat n
theorem nL_i {n : Nat} (h : n < 2147483648) : (nL n).toInt = (n : Int) := Int64.toInt_ofNat_of_lt (by omega)
theorem nL_0 {n : Nat} (h : n < 2147483648) (e : nL n = 0) : n = 0 := by
  have e1 := nL_i h
  rw [e] at e1
  have e3 : (0 : Int64).toInt = 0 := rfl
  omega
theorem nL_lo {n : Nat} (h : n < 2147483648) : (nI n).toInt64 = nL n := by
  apply Int64.toInt_inj.mp
  rw [Int32.toInt_toInt64, nI_toInt h, nL_i h]
theorem lg_cmp_0 {x y : Int64} (h : lg_cmp x y = 0) : x = y := by
  unfold lg_cmp at h
  split at h
  · exact absurd h (by decide)
  · split at h
    · assumption
    · exact absurd h (by decide)
theorem lg_cmp_e (x : Int64) : lg_cmp x x = 0 := by
  unfold lg_cmp
  have h : ¬ x > x := by
    show ¬ x < x
    rw [Int64.lt_iff_toInt_lt]
    omega
  rw [if_neg h, if_pos rfl]
theorem nL_div {a b : Nat} (ha : a < 2147483648) (hb : b < 2147483648) : nL a / nL b = nL (a / b) := by
  apply Int64.toInt_inj.mp
  have h : a / b < 2147483648 := Nat.lt_of_le_of_lt (Nat.div_le_self _ _) ha
  rw [Int64.toInt_div, nL_i ha, nL_i hb, nL_i h, Int.tdiv_eq_ediv_of_nonneg (Int.natCast_nonneg a), ← Int.natCast_ediv]
  generalize a / b = q at *
  exact Int.bmod_eq_of_le (by omega) (by omega)
theorem nL_add (a b : Nat) : nL (a + b) = nL a + nL b := by simp [nL, Int64.ofNat_add]
theorem nL_mul (a b : Nat) : nL (a * b) = nL a * nL b := by simp [nL, Int64.ofNat_mul]
theorem nL_rem {a b : Nat} (ha : a < 2147483648) (hb : b < 2147483648) : nL a - nL a / nL b * nL b = nL (a % b) := by
  rw [nL_div ha hb, ← nL_mul]
  have e : nL a = nL (a / b * b) + nL (a % b) := by rw [← nL_add, Nat.div_add_mod']
  rw [e, Int64.add_comm, Int64.add_sub_cancel]
theorem nL_nz {n : Nat} (h0 : 0 < n) (h : n < 2147483648) : decide (¬ nL n = 0) = true := decide_eq_true fun e => absurd (nL_0 h e) (by omega)
set_option maxHeartbeats 4000000 in
set_option maxRecDepth 20000 in
/-- DitherDeskModel.divisor -/
theorem r_divisor {l : Launch} {X : vm_Cx} {G : List vm_Sh} {I : Nat → Nat → Int32} {F : Nat → Nat → UInt32} {a : Nat} {b : Nat} (hR : vm_isR G) (ha : a < 2147483648) (hb : b < 2147483648) : vm_K l X vm_M193 [.long (nL a), .long (nL b)] (G, I, F) (some (.long (nL (Nat.gcd a b)))) (G, I, F) := by
  refine vm_K.mk (by decide) (Nat.le_of_ble_eq_true rfl) ?_
  show vm_J _ _ _ (0, (0, 0), [.long (nL a), .retAddr 0, .long (nL b), .retAddr 0, .retAddr 0, .retAddr 0, .retAddr 0, .retAddr 0, .retAddr 0, .retAddr 0], []) _ _ _
  refine vm_J.go vm_q193 (k := 4) (hs := []) (f' := (6, (0, 0), [.long (nL a), .retAddr 0, .long (nL b), .retAddr 0, .long (nL a), .retAddr 0, .long (nL b), .retAddr 0, .retAddr 0, .retAddr 0], [])) (h' := (G, I, F)) (hs' := []) rfl rfl ?_
  refine vm_J.iter (fun v : Nat × Nat => (6, (0, 0), [.long (nL a), .retAddr 0, .long (nL b), .retAddr 0, .long (nL v.1), .retAddr 0, .long (nL v.2), .retAddr 0, .retAddr 0, .retAddr 0], [])) (fun _ => (G, I, F)) (fun v => v.1 < 2147483648 ∧ v.2 < 2147483648 ∧ Nat.gcd v.1 v.2 = Nat.gcd a b) (fun v => v.2) (fun v hv ih => ?_) (a, b) ⟨ha, hb, rfl⟩
  show vm_J _ _ _ (6, (0, 0), [.long (nL a), .retAddr 0, .long (nL b), .retAddr 0, .long (nL v.1), .retAddr 0, .long (nL v.2), .retAddr 0, .retAddr 0, .retAddr 0], []) (G, I, F) _ _
  refine vm_J.go vm_q193 (k := 4) (hs := []) (f' := (bif vm_ic .eq (lg_cmp (nL v.2) 0) 0 then 31 else 13, (0, 0), [.long (nL a), .retAddr 0, .long (nL b), .retAddr 0, .long (nL v.1), .retAddr 0, .long (nL v.2), .retAddr 0, .retAddr 0, .retAddr 0], [])) (h' := (G, I, F)) (hs' := []) rfl rfl ?_
  refine vm_J.br (fun c1 => ?_) (fun c1 => ?_)
  · have c1 : (lg_cmp (nL v.2) 0) = 0 := of_decide_eq_true c1
    have hz0 : v.2 = 0 := nL_0 hv.2.1 (lg_cmp_0 c1)
    have hg : v.1 = Nat.gcd a b := by rw [← hv.2.2, hz0, Nat.gcd_zero_right]
    refine vm_J.go vm_q193 (k := 1) (hs := []) (f' := (33, (0, 0), [.long (nL a), .retAddr 0, .long (nL b), .retAddr 0, .long (nL v.1), .retAddr 0, .long (nL v.2), .retAddr 0, .retAddr 0, .retAddr 0], [.long (nL v.1)])) (h' := (G, I, F)) (hs' := []) rfl rfl ?_
    exact vm_J.end vm_q193 (en := (33, .lreturn, 1, [], .null)) rfl (by rw [hg]; rfl) vm_rL (Nat.zero_le _) (Nat.zero_le _) rfl
  · have c1 : ¬ ((lg_cmp (nL v.2) 0) = 0) := of_decide_eq_false c1
    have hz0 : ¬ v.2 = 0 := fun e => c1 (by rw [e]; exact lg_cmp_e 0)
    have hz1 : 0 < v.2 := Nat.pos_of_ne_zero hz0
    have hz := nL_nz hz1 hv.2.1
    refine vm_J.go vm_q193 (k := 9) (hs := []) (f' := (6, (0, 0), [.long (nL a), .retAddr 0, .long (nL b), .retAddr 0, .long (nL v.2), .retAddr 0, .long ((nL v.1) - (nL v.1) / (nL v.2) * (nL v.2)), .retAddr 0, .long ((nL v.1) - (nL v.1) / (nL v.2) * (nL v.2)), .retAddr 0], [])) (h' := (G, I, F)) (hs' := []) rfl (vm_b2 rfl (vm_b2 rfl (vm_b2 (by assumption) (vm_b2 rfl (vm_b2 rfl (vm_b2 rfl (vm_b2 rfl (vm_b2 rfl (vm_b2 rfl rfl))))))))) ?_
    rw [nL_rem hv.1 hv.2.1]
    refine vm_J.mask [true, true, true, true, true, true, true, true, false, false] ?_
    refine ih (v.2, v.1 % v.2) ⟨hv.2.1, Nat.lt_of_le_of_lt (Nat.mod_le _ _) hv.1, ?_⟩ (Nat.mod_lt _ hz1)
    rw [← hv.2.2]
    show Nat.gcd v.2 (v.1 % v.2) = _
    rw [Nat.gcd_comm, ← Nat.gcd_rec, Nat.gcd_comm]
set_option maxHeartbeats 4000000 in
set_option maxRecDepth 20000 in
/-- DitherDeskModel.partOf -/
theorem r_partOf_0 {l : Launch} {X : vm_Cx} {G : List vm_Sh} {I : Nat → Nat → Int32} {F : Nat → Nat → UInt32} {a : Nat} {b : Nat} (hR : vm_isR G) (ha : a < 2147483648) (hb : b < 2147483648) (hb0 : 0 < b) : vm_K l X vm_M194 [.long (nL a), .long (nL b), .int 0] (G, I, F) (some (.long (nL (a / Nat.gcd a b)))) (G, I, F) := by
  refine vm_K.mk (by decide) (Nat.le_of_ble_eq_true rfl) ?_
  have hg0 : 0 < Nat.gcd a b := Nat.gcd_pos_of_pos_right a hb0
  have hg1 : Nat.gcd a b ≤ b := Nat.gcd_le_right a hb0
  have hz := nL_nz hg0 (Nat.lt_of_le_of_lt hg1 hb)
  show vm_J _ _ _ (0, (0, 0), [.long (nL a), .retAddr 0, .long (nL b), .retAddr 0, .int 0], []) _ _ _
  refine vm_J.go vm_q194 (k := 2) (hs := []) (f' := (bif vm_ic .ne 0 0 then 9 else 5, (0, 0), [.long (nL a), .retAddr 0, .long (nL b), .retAddr 0, .int 0], [])) (h' := (G, I, F)) (hs' := []) rfl rfl ?_
  refine vm_J.bF (by decide) ?_
  refine vm_J.go vm_q194 (k := 4) (hs := []) (f' := (12, (0, 0), [.long (nL a), .retAddr 0, .long (nL b), .retAddr 0, .int 0], [.long (nL b), .long (nL a), .long (nL a)])) (h' := (G, I, F)) (hs' := []) rfl rfl ?_
  refine vm_J.call vm_q194 (Z := vm_M193) (n := 2) (k := 1) (mi := 193) (pc := 12) (en := (12, .invokestatic 201, 3, [193, 1387, 0], .null)) rfl trivial rfl rfl vm_z193 (av := [.long (nL a), .long (nL b)]) (rest := [.long (nL a)]) (r_divisor hR ha hb) rfl (Nat.le_of_ble_eq_true rfl) ⟨Nat.le_of_ble_eq_true rfl, Nat.le_of_ble_eq_true rfl⟩ ⟨Nat.le_of_ble_eq_true rfl, Nat.le_of_ble_eq_true rfl⟩ ?_
  show vm_J _ _ _ (15, (0, 0), [.long (nL a), .retAddr 0, .long (nL b), .retAddr 0, .int 0], [.long (nL (Nat.gcd a b)), .long (nL a)]) (G, I, F) _ _
  refine vm_J.go vm_q194 (k := 1) (hs := []) (f' := (16, (0, 0), [.long (nL a), .retAddr 0, .long (nL b), .retAddr 0, .int 0], [.long ((nL a) / (nL (Nat.gcd a b)))])) (h' := (G, I, F)) (hs' := []) rfl (vm_b2 (by assumption) rfl) ?_
  exact vm_J.end vm_q194 (en := (16, .lreturn, 1, [], .null)) rfl (by rw [← nL_div ha (Nat.lt_of_le_of_lt hg1 hb)]; rfl) vm_rL (Nat.zero_le _) (Nat.zero_le _) rfl
set_option maxHeartbeats 4000000 in
set_option maxRecDepth 20000 in
/-- DitherDeskModel.partOf -/
theorem r_partOf_1 {l : Launch} {X : vm_Cx} {G : List vm_Sh} {I : Nat → Nat → Int32} {F : Nat → Nat → UInt32} {a : Nat} {b : Nat} (hR : vm_isR G) (ha : a < 2147483648) (hb : b < 2147483648) (hb0 : 0 < b) : vm_K l X vm_M194 [.long (nL a), .long (nL b), .int 1] (G, I, F) (some (.long (nL (b / Nat.gcd a b)))) (G, I, F) := by
  refine vm_K.mk (by decide) (Nat.le_of_ble_eq_true rfl) ?_
  have hg0 : 0 < Nat.gcd a b := Nat.gcd_pos_of_pos_right a hb0
  have hg1 : Nat.gcd a b ≤ b := Nat.gcd_le_right a hb0
  have hz := nL_nz hg0 (Nat.lt_of_le_of_lt hg1 hb)
  show vm_J _ _ _ (0, (0, 0), [.long (nL a), .retAddr 0, .long (nL b), .retAddr 0, .int 1], []) _ _ _
  refine vm_J.go vm_q194 (k := 2) (hs := []) (f' := (bif vm_ic .ne 1 0 then 9 else 5, (0, 0), [.long (nL a), .retAddr 0, .long (nL b), .retAddr 0, .int 1], [])) (h' := (G, I, F)) (hs' := []) rfl rfl ?_
  refine vm_J.bT (by decide) ?_
  refine vm_J.go vm_q194 (k := 3) (hs := []) (f' := (12, (0, 0), [.long (nL a), .retAddr 0, .long (nL b), .retAddr 0, .int 1], [.long (nL b), .long (nL a), .long (nL b)])) (h' := (G, I, F)) (hs' := []) rfl rfl ?_
  refine vm_J.call vm_q194 (Z := vm_M193) (n := 2) (k := 1) (mi := 193) (pc := 12) (en := (12, .invokestatic 201, 3, [193, 1387, 0], .null)) rfl trivial rfl rfl vm_z193 (av := [.long (nL a), .long (nL b)]) (rest := [.long (nL b)]) (r_divisor hR ha hb) rfl (Nat.le_of_ble_eq_true rfl) ⟨Nat.le_of_ble_eq_true rfl, Nat.le_of_ble_eq_true rfl⟩ ⟨Nat.le_of_ble_eq_true rfl, Nat.le_of_ble_eq_true rfl⟩ ?_
  show vm_J _ _ _ (15, (0, 0), [.long (nL a), .retAddr 0, .long (nL b), .retAddr 0, .int 1], [.long (nL (Nat.gcd a b)), .long (nL b)]) (G, I, F) _ _
  refine vm_J.go vm_q194 (k := 1) (hs := []) (f' := (16, (0, 0), [.long (nL a), .retAddr 0, .long (nL b), .retAddr 0, .int 1], [.long ((nL b) / (nL (Nat.gcd a b)))])) (h' := (G, I, F)) (hs' := []) rfl (vm_b2 (by assumption) rfl) ?_
  exact vm_J.end vm_q194 (en := (16, .lreturn, 1, [], .null)) rfl (by rw [← nL_div hb (Nat.lt_of_le_of_lt hg1 hb)]; rfl) vm_rL (Nat.zero_le _) (Nat.zero_le _) rfl
/-- a sum of what isn't below 0, as a natural -/
def sp_sN (g : Nat → Int32) : Nat → Nat
  | 0 => 0
  | n + 1 => sp_sN g n + (g n).toNatClampNeg
theorem sp_sum_N {g : Nat → Int32} : ∀ {n : Nat}, (∀ k, k < n → ¬ g k < 0) → sp_sum g n = nI (sp_sN g n)
  | 0, _ => rfl
  | n + 1, h => by
    unfold sp_sum sp_sN
    rw [sp_sum_N fun k hk => h k (Nat.lt_succ_of_lt hk), vm_na, ← vm_cl_i (h n (Nat.lt_succ_self n))]
theorem sp_sN_le {g : Nat → Int32} {B : Nat} : ∀ {n : Nat}, (∀ k, k < n → (g k).toNatClampNeg ≤ B) → sp_sN g n ≤ B * n
  | 0, _ => Nat.zero_le _
  | n + 1, h => by
    have h1 := sp_sN_le (n := n) fun k hk => h k (Nat.lt_succ_of_lt hk)
    have h2 := h n (Nat.lt_succ_self n)
    unfold sp_sN
    rw [Nat.mul_succ]
    omega
theorem sp_ch_0 (c k : Int32) : ¬ sp_ch c k < 0 := by
  have h := sp_ch_b c k
  rw [Int32.lt_iff_toInt_lt, show (0 : Int32).toInt = 0 from rfl]
  omega
theorem sp_ch_63 (c k : Int32) : (sp_ch c k).toNatClampNeg ≤ 63 := by
  have h := sp_ch_b c k
  unfold Int32.toNatClampNeg
  omega
set_option maxHeartbeats 4000000 in
set_option maxRecDepth 20000 in
/-- DitherDeskModel.mean -/
theorem r_mean_x {l : Launch} {X : vm_Cx} {G : List vm_Sh} {I : Nat → Nat → Int32} {F : Nat → Nat → UInt32} {q : Int32} {k : Int32} {t : Int32} (hR : vm_isR G) (hx : ¬ (0 ≤ q ∧ q ≤ 3)) : vm_K l X vm_M195 [.ref 152, .int q, .int k, .int t] (G, I, F) (some (.long (-9223372036854775808))) (G, I, F) := by
  refine vm_K.mk (by decide) (Nat.le_of_ble_eq_true rfl) ?_
  show vm_J _ _ _ (0, (0, 0), [.ref 152, .int q, .int k, .int t, .retAddr 0, .retAddr 0], []) _ _ _
  refine vm_J.go vm_q195 (k := 2) (hs := []) (f' := (2, (0, 0), [.ref 152, .int q, .int k, .int t, .retAddr 0, .retAddr 0], [.int q, .ref 152])) (h' := (G, I, F)) (hs' := []) rfl rfl ?_
  refine vm_J.call vm_q195 (Z := vm_M172) (n := 1) (k := 0) (mi := 172) (pc := 2) (en := (2, .invokevirtual 156, 3, [172, 1313, 0], .null)) rfl trivial rfl rfl vm_z172 (av := [.ref 152, .int q]) (rest := []) (r_isPic_x (q := q) hR hx) ⟨_, _, rfl, rfl, _, 11, _, hR.c152, rfl, rfl, rfl⟩ (Nat.le_of_ble_eq_true rfl) ⟨Nat.le_of_ble_eq_true rfl, Nat.le_of_ble_eq_true rfl⟩ ⟨Nat.le_of_ble_eq_true rfl, Nat.le_of_ble_eq_true rfl⟩ ?_
  show vm_J _ _ _ (5, (0, 0), [.ref 152, .int q, .int k, .int t, .retAddr 0, .retAddr 0], [.int 0]) (G, I, F) _ _
  refine vm_J.go vm_q195 (k := 1) (hs := []) (f' := (bif vm_ic .eq 0 0 then 26 else 8, (0, 0), [.ref 152, .int q, .int k, .int t, .retAddr 0, .retAddr 0], [])) (h' := (G, I, F)) (hs' := []) rfl rfl ?_
  refine vm_J.bT (by decide) ?_
  refine vm_J.go vm_q195 (k := 1) (hs := []) (f' := (29, (0, 0), [.ref 152, .int q, .int k, .int t, .retAddr 0, .retAddr 0], [.long (-9223372036854775808)])) (h' := (G, I, F)) (hs' := []) rfl rfl ?_
  exact vm_J.end vm_q195 (en := (29, .lreturn, 1, [], .null)) rfl rfl vm_rL (Nat.zero_le _) (Nat.zero_le _) rfl
set_option maxHeartbeats 4000000 in
set_option maxRecDepth 20000 in
/-- DitherDeskModel.mean -/
theorem r_mean_m {l : Launch} {X : vm_Cx} {G : List vm_Sh} {I : Nat → Nat → Int32} {F : Nat → Nat → UInt32} {p : Nat} {w : Nat} {k : Int32} {t : Int32} (hR : vm_isR G) (hw : I 153 p = nI w) (hp : p < 4) (hw2 : w ≤ 12) (hw0 : w = 0) : vm_K l X vm_M195 [.ref 152, .int (nI p), .int k, .int t] (G, I, F) (some (.long (-9223372036854775808))) (G, I, F) := by
  refine vm_K.mk (by decide) (Nat.le_of_ble_eq_true rfl) ?_
  show vm_J _ _ _ (0, (0, 0), [.ref 152, .int (nI p), .int k, .int t, .retAddr 0, .retAddr 0], []) _ _ _
  refine vm_J.go vm_q195 (k := 2) (hs := []) (f' := (2, (0, 0), [.ref 152, .int (nI p), .int k, .int t, .retAddr 0, .retAddr 0], [.int (nI p), .ref 152])) (h' := (G, I, F)) (hs' := []) rfl rfl ?_
  refine vm_J.call vm_q195 (Z := vm_M172) (n := 1) (k := 0) (mi := 172) (pc := 2) (en := (2, .invokevirtual 156, 3, [172, 1313, 0], .null)) rfl trivial rfl rfl vm_z172 (av := [.ref 152, .int (nI p)]) (rest := []) (r_isPic_n (p := p) (w := w) hR (by omega) hw (by omega) (by omega)) ⟨_, _, rfl, rfl, _, 11, _, hR.c152, rfl, rfl, rfl⟩ (Nat.le_of_ble_eq_true rfl) ⟨Nat.le_of_ble_eq_true rfl, Nat.le_of_ble_eq_true rfl⟩ ⟨Nat.le_of_ble_eq_true rfl, Nat.le_of_ble_eq_true rfl⟩ ?_
  show vm_J _ _ _ (5, (0, 0), [.ref 152, .int (nI p), .int k, .int t, .retAddr 0, .retAddr 0], [.int 0]) (G, I, F) _ _
  refine vm_J.go vm_q195 (k := 1) (hs := []) (f' := (bif vm_ic .eq 0 0 then 26 else 8, (0, 0), [.ref 152, .int (nI p), .int k, .int t, .retAddr 0, .retAddr 0], [])) (h' := (G, I, F)) (hs' := []) rfl rfl ?_
  refine vm_J.bT (by decide) ?_
  refine vm_J.go vm_q195 (k := 1) (hs := []) (f' := (29, (0, 0), [.ref 152, .int (nI p), .int k, .int t, .retAddr 0, .retAddr 0], [.long (-9223372036854775808)])) (h' := (G, I, F)) (hs' := []) rfl rfl ?_
  exact vm_J.end vm_q195 (en := (29, .lreturn, 1, [], .null)) rfl rfl vm_rL (Nat.zero_le _) (Nat.zero_le _) rfl
set_option maxHeartbeats 4000000 in
set_option maxRecDepth 20000 in
/-- DitherDeskModel.mean -/
theorem r_mean_b1 {l : Launch} {X : vm_Cx} {G : List vm_Sh} {I : Nat → Nat → Int32} {F : Nat → Nat → UInt32} {p : Nat} {w : Nat} {k : Int32} {t : Int32} (hR : vm_isR G) (hw : I 153 p = nI w) (hp : p < 4) (hw2 : w ≤ 12) (hw0 : 0 < w) (hk : ¬ (0 ≤ k ∧ k ≤ 2)) : vm_K l X vm_M195 [.ref 152, .int (nI p), .int k, .int t] (G, I, F) (some (.long (-9223372036854775808))) (G, I, F) := by
  refine vm_K.mk (by decide) (Nat.le_of_ble_eq_true rfl) ?_
  show vm_J _ _ _ (0, (0, 0), [.ref 152, .int (nI p), .int k, .int t, .retAddr 0, .retAddr 0], []) _ _ _
  refine vm_J.go vm_q195 (k := 2) (hs := []) (f' := (2, (0, 0), [.ref 152, .int (nI p), .int k, .int t, .retAddr 0, .retAddr 0], [.int (nI p), .ref 152])) (h' := (G, I, F)) (hs' := []) rfl rfl ?_
  refine vm_J.call vm_q195 (Z := vm_M172) (n := 1) (k := 0) (mi := 172) (pc := 2) (en := (2, .invokevirtual 156, 3, [172, 1313, 0], .null)) rfl trivial rfl rfl vm_z172 (av := [.ref 152, .int (nI p)]) (rest := []) (r_isPic_y (p := p) (w := w) hR (by omega) hw (by omega) (by omega)) ⟨_, _, rfl, rfl, _, 11, _, hR.c152, rfl, rfl, rfl⟩ (Nat.le_of_ble_eq_true rfl) ⟨Nat.le_of_ble_eq_true rfl, Nat.le_of_ble_eq_true rfl⟩ ⟨Nat.le_of_ble_eq_true rfl, Nat.le_of_ble_eq_true rfl⟩ ?_
  show vm_J _ _ _ (5, (0, 0), [.ref 152, .int (nI p), .int k, .int t, .retAddr 0, .retAddr 0], [.int 1]) (G, I, F) _ _
  refine vm_J.go vm_q195 (k := 1) (hs := []) (f' := (bif vm_ic .eq 1 0 then 26 else 8, (0, 0), [.ref 152, .int (nI p), .int k, .int t, .retAddr 0, .retAddr 0], [])) (h' := (G, I, F)) (hs' := []) rfl rfl ?_
  refine vm_J.bF (by decide) ?_
  refine vm_J.go vm_q195 (k := 3) (hs := []) (f' := (11, (0, 0), [.ref 152, .int (nI p), .int k, .int t, .retAddr 0, .retAddr 0], [.int 2, .int 0, .int k])) (h' := (G, I, F)) (hs' := []) rfl rfl ?_
  refine vm_J.call vm_q195 (Z := vm_M168) (n := 3) (k := 1) (mi := 168) (pc := 11) (en := (11, .invokestatic 141, 3, [168, 1302, 0], .null)) rfl trivial rfl rfl vm_z168 (av := [.int k, .int 0, .int 2]) (rest := []) (r_isIn_n (v := k) (a := 0) (b := 2) hk) rfl (Nat.le_of_ble_eq_true rfl) ⟨Nat.le_of_ble_eq_true rfl, Nat.le_of_ble_eq_true rfl⟩ ⟨Nat.le_of_ble_eq_true rfl, Nat.le_of_ble_eq_true rfl⟩ ?_
  show vm_J _ _ _ (14, (0, 0), [.ref 152, .int (nI p), .int k, .int t, .retAddr 0, .retAddr 0], [.int 0]) (G, I, F) _ _
  refine vm_J.go vm_q195 (k := 1) (hs := []) (f' := (bif vm_ic .eq 0 0 then 26 else 17, (0, 0), [.ref 152, .int (nI p), .int k, .int t, .retAddr 0, .retAddr 0], [])) (h' := (G, I, F)) (hs' := []) rfl rfl ?_
  refine vm_J.bT (by decide) ?_
  refine vm_J.go vm_q195 (k := 1) (hs := []) (f' := (29, (0, 0), [.ref 152, .int (nI p), .int k, .int t, .retAddr 0, .retAddr 0], [.long (-9223372036854775808)])) (h' := (G, I, F)) (hs' := []) rfl rfl ?_
  exact vm_J.end vm_q195 (en := (29, .lreturn, 1, [], .null)) rfl rfl vm_rL (Nat.zero_le _) (Nat.zero_le _) rfl
set_option maxHeartbeats 4000000 in
set_option maxRecDepth 20000 in
/-- DitherDeskModel.mean -/
theorem r_mean_b2 {l : Launch} {X : vm_Cx} {G : List vm_Sh} {I : Nat → Nat → Int32} {F : Nat → Nat → UInt32} {p : Nat} {w : Nat} {k : Int32} {t : Int32} (hR : vm_isR G) (hw : I 153 p = nI w) (hp : p < 4) (hw2 : w ≤ 12) (hw0 : 0 < w) (hk : 0 ≤ k ∧ k ≤ 2) (ht : ¬ (0 ≤ t ∧ t ≤ 1)) : vm_K l X vm_M195 [.ref 152, .int (nI p), .int k, .int t] (G, I, F) (some (.long (-9223372036854775808))) (G, I, F) := by
  refine vm_K.mk (by decide) (Nat.le_of_ble_eq_true rfl) ?_
  show vm_J _ _ _ (0, (0, 0), [.ref 152, .int (nI p), .int k, .int t, .retAddr 0, .retAddr 0], []) _ _ _
  refine vm_J.go vm_q195 (k := 2) (hs := []) (f' := (2, (0, 0), [.ref 152, .int (nI p), .int k, .int t, .retAddr 0, .retAddr 0], [.int (nI p), .ref 152])) (h' := (G, I, F)) (hs' := []) rfl rfl ?_
  refine vm_J.call vm_q195 (Z := vm_M172) (n := 1) (k := 0) (mi := 172) (pc := 2) (en := (2, .invokevirtual 156, 3, [172, 1313, 0], .null)) rfl trivial rfl rfl vm_z172 (av := [.ref 152, .int (nI p)]) (rest := []) (r_isPic_y (p := p) (w := w) hR (by omega) hw (by omega) (by omega)) ⟨_, _, rfl, rfl, _, 11, _, hR.c152, rfl, rfl, rfl⟩ (Nat.le_of_ble_eq_true rfl) ⟨Nat.le_of_ble_eq_true rfl, Nat.le_of_ble_eq_true rfl⟩ ⟨Nat.le_of_ble_eq_true rfl, Nat.le_of_ble_eq_true rfl⟩ ?_
  show vm_J _ _ _ (5, (0, 0), [.ref 152, .int (nI p), .int k, .int t, .retAddr 0, .retAddr 0], [.int 1]) (G, I, F) _ _
  refine vm_J.go vm_q195 (k := 1) (hs := []) (f' := (bif vm_ic .eq 1 0 then 26 else 8, (0, 0), [.ref 152, .int (nI p), .int k, .int t, .retAddr 0, .retAddr 0], [])) (h' := (G, I, F)) (hs' := []) rfl rfl ?_
  refine vm_J.bF (by decide) ?_
  refine vm_J.go vm_q195 (k := 3) (hs := []) (f' := (11, (0, 0), [.ref 152, .int (nI p), .int k, .int t, .retAddr 0, .retAddr 0], [.int 2, .int 0, .int k])) (h' := (G, I, F)) (hs' := []) rfl rfl ?_
  refine vm_J.call vm_q195 (Z := vm_M168) (n := 3) (k := 1) (mi := 168) (pc := 11) (en := (11, .invokestatic 141, 3, [168, 1302, 0], .null)) rfl trivial rfl rfl vm_z168 (av := [.int k, .int 0, .int 2]) (rest := []) (r_isIn_y (v := k) (a := 0) (b := 2) hk) rfl (Nat.le_of_ble_eq_true rfl) ⟨Nat.le_of_ble_eq_true rfl, Nat.le_of_ble_eq_true rfl⟩ ⟨Nat.le_of_ble_eq_true rfl, Nat.le_of_ble_eq_true rfl⟩ ?_
  show vm_J _ _ _ (14, (0, 0), [.ref 152, .int (nI p), .int k, .int t, .retAddr 0, .retAddr 0], [.int 1]) (G, I, F) _ _
  refine vm_J.go vm_q195 (k := 1) (hs := []) (f' := (bif vm_ic .eq 1 0 then 26 else 17, (0, 0), [.ref 152, .int (nI p), .int k, .int t, .retAddr 0, .retAddr 0], [])) (h' := (G, I, F)) (hs' := []) rfl rfl ?_
  refine vm_J.bF (by decide) ?_
  refine vm_J.go vm_q195 (k := 3) (hs := []) (f' := (20, (0, 0), [.ref 152, .int (nI p), .int k, .int t, .retAddr 0, .retAddr 0], [.int 1, .int 0, .int t])) (h' := (G, I, F)) (hs' := []) rfl rfl ?_
  refine vm_J.call vm_q195 (Z := vm_M168) (n := 3) (k := 1) (mi := 168) (pc := 20) (en := (20, .invokestatic 141, 3, [168, 1302, 0], .null)) rfl trivial rfl rfl vm_z168 (av := [.int t, .int 0, .int 1]) (rest := []) (r_isIn_n (v := t) (a := 0) (b := 1) ht) rfl (Nat.le_of_ble_eq_true rfl) ⟨Nat.le_of_ble_eq_true rfl, Nat.le_of_ble_eq_true rfl⟩ ⟨Nat.le_of_ble_eq_true rfl, Nat.le_of_ble_eq_true rfl⟩ ?_
  show vm_J _ _ _ (23, (0, 0), [.ref 152, .int (nI p), .int k, .int t, .retAddr 0, .retAddr 0], [.int 0]) (G, I, F) _ _
  refine vm_J.go vm_q195 (k := 1) (hs := []) (f' := (bif vm_ic .ne 0 0 then 30 else 26, (0, 0), [.ref 152, .int (nI p), .int k, .int t, .retAddr 0, .retAddr 0], [])) (h' := (G, I, F)) (hs' := []) rfl rfl ?_
  refine vm_J.bF (by decide) ?_
  refine vm_J.go vm_q195 (k := 1) (hs := []) (f' := (29, (0, 0), [.ref 152, .int (nI p), .int k, .int t, .retAddr 0, .retAddr 0], [.long (-9223372036854775808)])) (h' := (G, I, F)) (hs' := []) rfl rfl ?_
  exact vm_J.end vm_q195 (en := (29, .lreturn, 1, [], .null)) rfl rfl vm_rL (Nat.zero_le _) (Nat.zero_le _) rfl
set_option maxHeartbeats 4000000 in
set_option maxRecDepth 20000 in
/-- DitherDeskModel.mean -/
theorem r_mean_0 {l : Launch} {X : vm_Cx} {G : List vm_Sh} {I : Nat → Nat → Int32} {F : Nat → Nat → UInt32} {p : Nat} {w : Nat} {h : Nat} {k : Int32} (hR : vm_isR G) (hw : I 153 p = nI w) (hh : I 154 p = nI h) (hp : p < 4) (hw2 : w ≤ 12) (hh2 : h ≤ 12) (hw0 : 0 < w) (hh0 : 0 < h) (hk : 0 ≤ k ∧ k ≤ 2) : vm_K l X vm_M195 [.ref 152, .int (nI p), .int k, .int 0] (G, I, F) (some (.long (nL ((sp_sN (fun z => sp_ch (I 155 (144 * p + z)) k) (w * h)) / Nat.gcd (sp_sN (fun z => sp_ch (I 155 (144 * p + z)) k) (w * h)) (w * h))))) (G, I, F) := by
  refine vm_K.mk (by decide) (Nat.le_of_ble_eq_true rfl) ?_
  have hwh := vm_mul144 hw2 hh2
  have hpo := Nat.mul_pos hw0 hh0
  have hsn := sp_sum_N (g := fun z => sp_ch (I 155 (144 * p + z)) k) (n := w * h) fun z _ => sp_ch_0 _ _
  have hsb := sp_sN_le (g := fun z => sp_ch (I 155 (144 * p + z)) k) (n := w * h) fun z _ => sp_ch_63 _ _
  have hsm : sp_sN (fun z => sp_ch (I 155 (144 * p + z)) k) (w * h) < 2147483648 := by omega
  show vm_J _ _ _ (0, (0, 0), [.ref 152, .int (nI p), .int k, .int 0, .retAddr 0, .retAddr 0], []) _ _ _
  refine vm_J.go vm_q195 (k := 2) (hs := []) (f' := (2, (0, 0), [.ref 152, .int (nI p), .int k, .int 0, .retAddr 0, .retAddr 0], [.int (nI p), .ref 152])) (h' := (G, I, F)) (hs' := []) rfl rfl ?_
  refine vm_J.call vm_q195 (Z := vm_M172) (n := 1) (k := 0) (mi := 172) (pc := 2) (en := (2, .invokevirtual 156, 3, [172, 1313, 0], .null)) rfl trivial rfl rfl vm_z172 (av := [.ref 152, .int (nI p)]) (rest := []) (r_isPic_y (p := p) (w := w) hR (by omega) hw (by omega) (by omega)) ⟨_, _, rfl, rfl, _, 11, _, hR.c152, rfl, rfl, rfl⟩ (Nat.le_of_ble_eq_true rfl) ⟨Nat.le_of_ble_eq_true rfl, Nat.le_of_ble_eq_true rfl⟩ ⟨Nat.le_of_ble_eq_true rfl, Nat.le_of_ble_eq_true rfl⟩ ?_
  show vm_J _ _ _ (5, (0, 0), [.ref 152, .int (nI p), .int k, .int 0, .retAddr 0, .retAddr 0], [.int 1]) (G, I, F) _ _
  refine vm_J.go vm_q195 (k := 1) (hs := []) (f' := (bif vm_ic .eq 1 0 then 26 else 8, (0, 0), [.ref 152, .int (nI p), .int k, .int 0, .retAddr 0, .retAddr 0], [])) (h' := (G, I, F)) (hs' := []) rfl rfl ?_
  refine vm_J.bF (by decide) ?_
  refine vm_J.go vm_q195 (k := 3) (hs := []) (f' := (11, (0, 0), [.ref 152, .int (nI p), .int k, .int 0, .retAddr 0, .retAddr 0], [.int 2, .int 0, .int k])) (h' := (G, I, F)) (hs' := []) rfl rfl ?_
  refine vm_J.call vm_q195 (Z := vm_M168) (n := 3) (k := 1) (mi := 168) (pc := 11) (en := (11, .invokestatic 141, 3, [168, 1302, 0], .null)) rfl trivial rfl rfl vm_z168 (av := [.int k, .int 0, .int 2]) (rest := []) (r_isIn_y (v := k) (a := 0) (b := 2) hk) rfl (Nat.le_of_ble_eq_true rfl) ⟨Nat.le_of_ble_eq_true rfl, Nat.le_of_ble_eq_true rfl⟩ ⟨Nat.le_of_ble_eq_true rfl, Nat.le_of_ble_eq_true rfl⟩ ?_
  show vm_J _ _ _ (14, (0, 0), [.ref 152, .int (nI p), .int k, .int 0, .retAddr 0, .retAddr 0], [.int 1]) (G, I, F) _ _
  refine vm_J.go vm_q195 (k := 1) (hs := []) (f' := (bif vm_ic .eq 1 0 then 26 else 17, (0, 0), [.ref 152, .int (nI p), .int k, .int 0, .retAddr 0, .retAddr 0], [])) (h' := (G, I, F)) (hs' := []) rfl rfl ?_
  refine vm_J.bF (by decide) ?_
  refine vm_J.go vm_q195 (k := 3) (hs := []) (f' := (20, (0, 0), [.ref 152, .int (nI p), .int k, .int 0, .retAddr 0, .retAddr 0], [.int 1, .int 0, .int 0])) (h' := (G, I, F)) (hs' := []) rfl rfl ?_
  refine vm_J.call vm_q195 (Z := vm_M168) (n := 3) (k := 1) (mi := 168) (pc := 20) (en := (20, .invokestatic 141, 3, [168, 1302, 0], .null)) rfl trivial rfl rfl vm_z168 (av := [.int 0, .int 0, .int 1]) (rest := []) (r_isIn_y (v := 0) (a := 0) (b := 1) (by decide)) rfl (Nat.le_of_ble_eq_true rfl) ⟨Nat.le_of_ble_eq_true rfl, Nat.le_of_ble_eq_true rfl⟩ ⟨Nat.le_of_ble_eq_true rfl, Nat.le_of_ble_eq_true rfl⟩ ?_
  show vm_J _ _ _ (23, (0, 0), [.ref 152, .int (nI p), .int k, .int 0, .retAddr 0, .retAddr 0], [.int 1]) (G, I, F) _ _
  refine vm_J.go vm_q195 (k := 1) (hs := []) (f' := (bif vm_ic .ne 1 0 then 30 else 26, (0, 0), [.ref 152, .int (nI p), .int k, .int 0, .retAddr 0, .retAddr 0], [])) (h' := (G, I, F)) (hs' := []) rfl rfl ?_
  refine vm_J.bT (by decide) ?_
  refine vm_J.go vm_q195 (k := 4) (hs := []) (f' := (36, (0, 0), [.ref 152, .int (nI p), .int k, .int 0, .int 0, .int 0], [])) (h' := (G, I, F)) (hs' := []) rfl rfl ?_
  refine vm_J.cnt (w * h) (fun j => (36, (0, 0), [.ref 152, .int (nI p), .int k, .int 0, .int (sp_sum (fun z => sp_ch (I 155 (144 * p + z)) k) j), .int (nI j)], [])) (fun j => (G, I, F)) (fun _ => True) rfl rfl trivial (fun j hj pj ij => ?_) (fun pj => ?_)
  · show vm_J _ _ _ (36, (0, 0), [.ref 152, .int (nI p), .int k, .int 0, .int (sp_sum (fun z => sp_ch (I 155 (144 * p + z)) k) j), .int (nI j)], []) (G, I, F) _ _
    refine vm_J.go vm_q195 (k := 3) (hs := []) (f' := (40, (0, 0), [.ref 152, .int (nI p), .int k, .int 0, .int (sp_sum (fun z => sp_ch (I 155 (144 * p + z)) k) j), .int (nI j)], [.int (nI p), .ref 152, .int (nI j)])) (h' := (G, I, F)) (hs' := []) rfl rfl ?_
    refine vm_J.call vm_q195 (Z := vm_M175) (n := 1) (k := 0) (mi := 175) (pc := 40) (en := (40, .invokevirtual 152, 3, [175, 1305, 0], .null)) rfl trivial rfl rfl vm_z175 (av := [.ref 152, .int (nI p)]) (rest := [.int (nI j)]) (r_pix (p := p) (w := w) (h := h) hR hw hh (by omega)) ⟨_, _, rfl, rfl, _, 11, _, hR.c152, rfl, rfl, rfl⟩ (Nat.le_of_ble_eq_true rfl) ⟨Nat.le_of_ble_eq_true rfl, Nat.le_of_ble_eq_true rfl⟩ ⟨Nat.le_of_ble_eq_true rfl, Nat.le_of_ble_eq_true rfl⟩ ?_
    show vm_J _ _ _ (43, (0, 0), [.ref 152, .int (nI p), .int k, .int 0, .int (sp_sum (fun z => sp_ch (I 155 (144 * p + z)) k) j), .int (nI j)], [.int (nI (w * h)), .int (nI j)]) (G, I, F) _ _
    refine vm_J.go vm_q195 (k := 1) (hs := []) (f' := (bif vm_ic .ge (nI j) (nI (w * h)) then 74 else 46, (0, 0), [.ref 152, .int (nI p), .int k, .int 0, .int (sp_sum (fun z => sp_ch (I 155 (144 * p + z)) k) j), .int (nI j)], [])) (h' := (G, I, F)) (hs' := []) rfl rfl ?_
    refine vm_J.br (fun c1 => ?_) (fun c1 => ?_)
    · have c1 := vm_ge_t (a := j) (b := w * h) (by omega) (by omega) c1
      exact (show False by omega).elim
    · have c1 := vm_ge_f (a := j) (b := w * h) (by omega) (by omega) c1
      refine vm_J.go vm_q195 (k := 10) (hs := [vm_shR, (0, 576, [])]) (f' := (62, (0, 0), [.ref 152, .int (nI p), .int k, .int 0, .int (sp_sum (fun z => sp_ch (I 155 (144 * p + z)) k) j), .int (nI j)], [.int k, .int (I 155 ((144 * (nI p)) + (nI j)).toNatClampNeg), .int (sp_sum (fun z => sp_ch (I 155 (144 * p + z)) k) j)])) (h' := (G, I, F)) (hs' := []) rfl (vm_b2 rfl (vm_b2 rfl (vm_b2 (vm_b2 (vm_hG hR.c152) rfl) (vm_b2 rfl (vm_b2 rfl (vm_b2 rfl (vm_b2 rfl (vm_b2 rfl (vm_b2 (vm_b2 (vm_hG hR.c155) (vm_in_e (j := (144 * p) + j) (n := 576) (vm_pa (vm_pm (rfl : (144 : Int32) = nI 144) (rfl : (nI p : Int32) = nI p)) (rfl : (nI j : Int32) = nI j)) (by omega) (by omega))) (vm_b2 rfl rfl)))))))))) ?_
      rw [vm_ix_e (j := (144 * p) + j) (vm_pa (vm_pm (rfl : (144 : Int32) = nI 144) (rfl : (nI p : Int32) = nI p)) (rfl : (nI j : Int32) = nI j)) (by omega)]
      refine vm_J.call vm_q195 (Z := vm_M170) (n := 2) (k := 1) (mi := 170) (pc := 62) (en := (62, .invokestatic 180, 3, [170, 1348, 0], .null)) rfl trivial rfl rfl vm_z170 (av := [.int (I 155 ((144 * p) + j)), .int k]) (rest := [.int (sp_sum (fun z => sp_ch (I 155 (144 * p + z)) k) j)]) (r_channelOf (c := I 155 ((144 * p) + j)) (k := k)) rfl (Nat.le_of_ble_eq_true rfl) ⟨Nat.le_of_ble_eq_true rfl, Nat.le_of_ble_eq_true rfl⟩ ⟨Nat.le_of_ble_eq_true rfl, Nat.le_of_ble_eq_true rfl⟩ ?_
      show vm_J _ _ _ (65, (0, 0), [.ref 152, .int (nI p), .int k, .int 0, .int (sp_sum (fun z => sp_ch (I 155 (144 * p + z)) k) j), .int (nI j)], [.int (sp_ch (I 155 ((144 * p) + j)) k), .int (sp_sum (fun z => sp_ch (I 155 (144 * p + z)) k) j)]) (G, I, F) _ _
      refine vm_J.go vm_q195 (k := 4) (hs := []) (f' := (36, (0, 0), [.ref 152, .int (nI p), .int k, .int 0, .int ((sp_sum (fun z => sp_ch (I 155 (144 * p + z)) k) j) + (sp_ch (I 155 ((144 * p) + j)) k)), .int ((nI j) + 1)], [])) (h' := (G, I, F)) (hs' := []) rfl rfl ?_
      rw [((vm_pa (rfl : nI j = nI j) (rfl : (1 : Int32) = nI 1)) : (nI j) + 1 = nI (j + 1))]
      rw [show ((sp_sum (fun z => sp_ch (I 155 (144 * p + z)) k) j) + (sp_ch (I 155 ((144 * p) + j)) k) : Int32) = sp_sum (fun z => sp_ch (I 155 (144 * p + z)) k) (j + 1) from by rfl]
      exact ij trivial
  · show vm_J _ _ _ (36, (0, 0), [.ref 152, .int (nI p), .int k, .int 0, .int (sp_sum (fun z => sp_ch (I 155 (144 * p + z)) k) (w * h)), .int (nI (w * h))], []) (G, I, F) _ _
    refine vm_J.go vm_q195 (k := 3) (hs := []) (f' := (40, (0, 0), [.ref 152, .int (nI p), .int k, .int 0, .int (sp_sum (fun z => sp_ch (I 155 (144 * p + z)) k) (w * h)), .int (nI (w * h))], [.int (nI p), .ref 152, .int (nI (w * h))])) (h' := (G, I, F)) (hs' := []) rfl rfl ?_
    refine vm_J.call vm_q195 (Z := vm_M175) (n := 1) (k := 0) (mi := 175) (pc := 40) (en := (40, .invokevirtual 152, 3, [175, 1305, 0], .null)) rfl trivial rfl rfl vm_z175 (av := [.ref 152, .int (nI p)]) (rest := [.int (nI (w * h))]) (r_pix (p := p) (w := w) (h := h) hR hw hh (by omega)) ⟨_, _, rfl, rfl, _, 11, _, hR.c152, rfl, rfl, rfl⟩ (Nat.le_of_ble_eq_true rfl) ⟨Nat.le_of_ble_eq_true rfl, Nat.le_of_ble_eq_true rfl⟩ ⟨Nat.le_of_ble_eq_true rfl, Nat.le_of_ble_eq_true rfl⟩ ?_
    show vm_J _ _ _ (43, (0, 0), [.ref 152, .int (nI p), .int k, .int 0, .int (sp_sum (fun z => sp_ch (I 155 (144 * p + z)) k) (w * h)), .int (nI (w * h))], [.int (nI (w * h)), .int (nI (w * h))]) (G, I, F) _ _
    refine vm_J.go vm_q195 (k := 1) (hs := []) (f' := (bif vm_ic .ge (nI (w * h)) (nI (w * h)) then 74 else 46, (0, 0), [.ref 152, .int (nI p), .int k, .int 0, .int (sp_sum (fun z => sp_ch (I 155 (144 * p + z)) k) (w * h)), .int (nI (w * h))], [])) (h' := (G, I, F)) (hs' := []) rfl rfl ?_
    refine vm_J.br (fun c2 => ?_) (fun c2 => ?_)
    · have c2 := vm_ge_t (a := (w * h)) (b := w * h) (by omega) (by omega) c2
      rw [hsn]
      show vm_J _ _ _ (74, (0, 0), [.ref 152, .int (nI p), .int k, .int 0, .int (nI (sp_sN (fun z => sp_ch (I 155 (144 * p + z)) k) (w * h))), .int (nI (w * h))], []) (G, I, F) _ _
      refine vm_J.go vm_q195 (k := 4) (hs := []) (f' := (79, (0, 0), [.ref 152, .int (nI p), .int k, .int 0, .int (nI (sp_sN (fun z => sp_ch (I 155 (144 * p + z)) k) (w * h))), .int (nI (w * h))], [.int (nI p), .ref 152, .long ((nI (sp_sN (fun z => sp_ch (I 155 (144 * p + z)) k) (w * h))).toInt64)])) (h' := (G, I, F)) (hs' := []) rfl rfl ?_
      refine vm_J.call vm_q195 (Z := vm_M175) (n := 1) (k := 0) (mi := 175) (pc := 79) (en := (79, .invokevirtual 152, 3, [175, 1305, 0], .null)) rfl trivial rfl rfl vm_z175 (av := [.ref 152, .int (nI p)]) (rest := [.long ((nI (sp_sN (fun z => sp_ch (I 155 (144 * p + z)) k) (w * h))).toInt64)]) (r_pix (p := p) (w := w) (h := h) hR hw hh (by omega)) ⟨_, _, rfl, rfl, _, 11, _, hR.c152, rfl, rfl, rfl⟩ (Nat.le_of_ble_eq_true rfl) ⟨Nat.le_of_ble_eq_true rfl, Nat.le_of_ble_eq_true rfl⟩ ⟨Nat.le_of_ble_eq_true rfl, Nat.le_of_ble_eq_true rfl⟩ ?_
      show vm_J _ _ _ (82, (0, 0), [.ref 152, .int (nI p), .int k, .int 0, .int (nI (sp_sN (fun z => sp_ch (I 155 (144 * p + z)) k) (w * h))), .int (nI (w * h))], [.int (nI (w * h)), .long ((nI (sp_sN (fun z => sp_ch (I 155 (144 * p + z)) k) (w * h))).toInt64)]) (G, I, F) _ _
      refine vm_J.go vm_q195 (k := 2) (hs := []) (f' := (84, (0, 0), [.ref 152, .int (nI p), .int k, .int 0, .int (nI (sp_sN (fun z => sp_ch (I 155 (144 * p + z)) k) (w * h))), .int (nI (w * h))], [.int 0, .long ((nI (w * h)).toInt64), .long ((nI (sp_sN (fun z => sp_ch (I 155 (144 * p + z)) k) (w * h))).toInt64)])) (h' := (G, I, F)) (hs' := []) rfl rfl ?_
      rw [nL_lo hsm, nL_lo (n := w * h) (by omega)]
      show vm_J _ _ _ (84, (0, 0), [.ref 152, .int (nI p), .int k, .int 0, .int (nI (sp_sN (fun z => sp_ch (I 155 (144 * p + z)) k) (w * h))), .int (nI (w * h))], [.int 0, .long (nL (w * h)), .long (nL (sp_sN (fun z => sp_ch (I 155 (144 * p + z)) k) (w * h)))]) (G, I, F) _ _
      refine vm_J.call vm_q195 (Z := vm_M194) (n := 3) (k := 1) (mi := 194) (pc := 84) (en := (84, .invokestatic 207, 3, [194, 1384, 0], .null)) rfl trivial rfl rfl vm_z194 (av := [.long (nL (sp_sN (fun z => sp_ch (I 155 (144 * p + z)) k) (w * h))), .long (nL (w * h)), .int 0]) (rest := []) (r_partOf_0 hR hsm (by omega) (by omega)) rfl (Nat.le_of_ble_eq_true rfl) ⟨Nat.le_of_ble_eq_true rfl, Nat.le_of_ble_eq_true rfl⟩ ⟨Nat.le_of_ble_eq_true rfl, Nat.le_of_ble_eq_true rfl⟩ ?_
      show vm_J _ _ _ (87, (0, 0), [.ref 152, .int (nI p), .int k, .int 0, .int (nI (sp_sN (fun z => sp_ch (I 155 (144 * p + z)) k) (w * h))), .int (nI (w * h))], [.long (nL ((sp_sN (fun z => sp_ch (I 155 (144 * p + z)) k) (w * h)) / Nat.gcd (sp_sN (fun z => sp_ch (I 155 (144 * p + z)) k) (w * h)) (w * h)))]) (G, I, F) _ _
      exact vm_J.end vm_q195 (en := (87, .lreturn, 1, [], .null)) rfl rfl vm_rL (Nat.zero_le _) (Nat.zero_le _) rfl
    · have c2 := vm_ge_f (a := (w * h)) (b := w * h) (by omega) (by omega) c2
      exact (show False by omega).elim
set_option maxHeartbeats 4000000 in
set_option maxRecDepth 20000 in
/-- DitherDeskModel.mean -/
theorem r_mean_1 {l : Launch} {X : vm_Cx} {G : List vm_Sh} {I : Nat → Nat → Int32} {F : Nat → Nat → UInt32} {p : Nat} {w : Nat} {h : Nat} {k : Int32} (hR : vm_isR G) (hw : I 153 p = nI w) (hh : I 154 p = nI h) (hp : p < 4) (hw2 : w ≤ 12) (hh2 : h ≤ 12) (hw0 : 0 < w) (hh0 : 0 < h) (hk : 0 ≤ k ∧ k ≤ 2) : vm_K l X vm_M195 [.ref 152, .int (nI p), .int k, .int 1] (G, I, F) (some (.long (nL ((w * h) / Nat.gcd (sp_sN (fun z => sp_ch (I 155 (144 * p + z)) k) (w * h)) (w * h))))) (G, I, F) := by
  refine vm_K.mk (by decide) (Nat.le_of_ble_eq_true rfl) ?_
  have hwh := vm_mul144 hw2 hh2
  have hpo := Nat.mul_pos hw0 hh0
  have hsn := sp_sum_N (g := fun z => sp_ch (I 155 (144 * p + z)) k) (n := w * h) fun z _ => sp_ch_0 _ _
  have hsb := sp_sN_le (g := fun z => sp_ch (I 155 (144 * p + z)) k) (n := w * h) fun z _ => sp_ch_63 _ _
  have hsm : sp_sN (fun z => sp_ch (I 155 (144 * p + z)) k) (w * h) < 2147483648 := by omega
  show vm_J _ _ _ (0, (0, 0), [.ref 152, .int (nI p), .int k, .int 1, .retAddr 0, .retAddr 0], []) _ _ _
  refine vm_J.go vm_q195 (k := 2) (hs := []) (f' := (2, (0, 0), [.ref 152, .int (nI p), .int k, .int 1, .retAddr 0, .retAddr 0], [.int (nI p), .ref 152])) (h' := (G, I, F)) (hs' := []) rfl rfl ?_
  refine vm_J.call vm_q195 (Z := vm_M172) (n := 1) (k := 0) (mi := 172) (pc := 2) (en := (2, .invokevirtual 156, 3, [172, 1313, 0], .null)) rfl trivial rfl rfl vm_z172 (av := [.ref 152, .int (nI p)]) (rest := []) (r_isPic_y (p := p) (w := w) hR (by omega) hw (by omega) (by omega)) ⟨_, _, rfl, rfl, _, 11, _, hR.c152, rfl, rfl, rfl⟩ (Nat.le_of_ble_eq_true rfl) ⟨Nat.le_of_ble_eq_true rfl, Nat.le_of_ble_eq_true rfl⟩ ⟨Nat.le_of_ble_eq_true rfl, Nat.le_of_ble_eq_true rfl⟩ ?_
  show vm_J _ _ _ (5, (0, 0), [.ref 152, .int (nI p), .int k, .int 1, .retAddr 0, .retAddr 0], [.int 1]) (G, I, F) _ _
  refine vm_J.go vm_q195 (k := 1) (hs := []) (f' := (bif vm_ic .eq 1 0 then 26 else 8, (0, 0), [.ref 152, .int (nI p), .int k, .int 1, .retAddr 0, .retAddr 0], [])) (h' := (G, I, F)) (hs' := []) rfl rfl ?_
  refine vm_J.bF (by decide) ?_
  refine vm_J.go vm_q195 (k := 3) (hs := []) (f' := (11, (0, 0), [.ref 152, .int (nI p), .int k, .int 1, .retAddr 0, .retAddr 0], [.int 2, .int 0, .int k])) (h' := (G, I, F)) (hs' := []) rfl rfl ?_
  refine vm_J.call vm_q195 (Z := vm_M168) (n := 3) (k := 1) (mi := 168) (pc := 11) (en := (11, .invokestatic 141, 3, [168, 1302, 0], .null)) rfl trivial rfl rfl vm_z168 (av := [.int k, .int 0, .int 2]) (rest := []) (r_isIn_y (v := k) (a := 0) (b := 2) hk) rfl (Nat.le_of_ble_eq_true rfl) ⟨Nat.le_of_ble_eq_true rfl, Nat.le_of_ble_eq_true rfl⟩ ⟨Nat.le_of_ble_eq_true rfl, Nat.le_of_ble_eq_true rfl⟩ ?_
  show vm_J _ _ _ (14, (0, 0), [.ref 152, .int (nI p), .int k, .int 1, .retAddr 0, .retAddr 0], [.int 1]) (G, I, F) _ _
  refine vm_J.go vm_q195 (k := 1) (hs := []) (f' := (bif vm_ic .eq 1 0 then 26 else 17, (0, 0), [.ref 152, .int (nI p), .int k, .int 1, .retAddr 0, .retAddr 0], [])) (h' := (G, I, F)) (hs' := []) rfl rfl ?_
  refine vm_J.bF (by decide) ?_
  refine vm_J.go vm_q195 (k := 3) (hs := []) (f' := (20, (0, 0), [.ref 152, .int (nI p), .int k, .int 1, .retAddr 0, .retAddr 0], [.int 1, .int 0, .int 1])) (h' := (G, I, F)) (hs' := []) rfl rfl ?_
  refine vm_J.call vm_q195 (Z := vm_M168) (n := 3) (k := 1) (mi := 168) (pc := 20) (en := (20, .invokestatic 141, 3, [168, 1302, 0], .null)) rfl trivial rfl rfl vm_z168 (av := [.int 1, .int 0, .int 1]) (rest := []) (r_isIn_y (v := 1) (a := 0) (b := 1) (by decide)) rfl (Nat.le_of_ble_eq_true rfl) ⟨Nat.le_of_ble_eq_true rfl, Nat.le_of_ble_eq_true rfl⟩ ⟨Nat.le_of_ble_eq_true rfl, Nat.le_of_ble_eq_true rfl⟩ ?_
  show vm_J _ _ _ (23, (0, 0), [.ref 152, .int (nI p), .int k, .int 1, .retAddr 0, .retAddr 0], [.int 1]) (G, I, F) _ _
  refine vm_J.go vm_q195 (k := 1) (hs := []) (f' := (bif vm_ic .ne 1 0 then 30 else 26, (0, 0), [.ref 152, .int (nI p), .int k, .int 1, .retAddr 0, .retAddr 0], [])) (h' := (G, I, F)) (hs' := []) rfl rfl ?_
  refine vm_J.bT (by decide) ?_
  refine vm_J.go vm_q195 (k := 4) (hs := []) (f' := (36, (0, 0), [.ref 152, .int (nI p), .int k, .int 1, .int 0, .int 0], [])) (h' := (G, I, F)) (hs' := []) rfl rfl ?_
  refine vm_J.cnt (w * h) (fun j => (36, (0, 0), [.ref 152, .int (nI p), .int k, .int 1, .int (sp_sum (fun z => sp_ch (I 155 (144 * p + z)) k) j), .int (nI j)], [])) (fun j => (G, I, F)) (fun _ => True) rfl rfl trivial (fun j hj pj ij => ?_) (fun pj => ?_)
  · show vm_J _ _ _ (36, (0, 0), [.ref 152, .int (nI p), .int k, .int 1, .int (sp_sum (fun z => sp_ch (I 155 (144 * p + z)) k) j), .int (nI j)], []) (G, I, F) _ _
    refine vm_J.go vm_q195 (k := 3) (hs := []) (f' := (40, (0, 0), [.ref 152, .int (nI p), .int k, .int 1, .int (sp_sum (fun z => sp_ch (I 155 (144 * p + z)) k) j), .int (nI j)], [.int (nI p), .ref 152, .int (nI j)])) (h' := (G, I, F)) (hs' := []) rfl rfl ?_
    refine vm_J.call vm_q195 (Z := vm_M175) (n := 1) (k := 0) (mi := 175) (pc := 40) (en := (40, .invokevirtual 152, 3, [175, 1305, 0], .null)) rfl trivial rfl rfl vm_z175 (av := [.ref 152, .int (nI p)]) (rest := [.int (nI j)]) (r_pix (p := p) (w := w) (h := h) hR hw hh (by omega)) ⟨_, _, rfl, rfl, _, 11, _, hR.c152, rfl, rfl, rfl⟩ (Nat.le_of_ble_eq_true rfl) ⟨Nat.le_of_ble_eq_true rfl, Nat.le_of_ble_eq_true rfl⟩ ⟨Nat.le_of_ble_eq_true rfl, Nat.le_of_ble_eq_true rfl⟩ ?_
    show vm_J _ _ _ (43, (0, 0), [.ref 152, .int (nI p), .int k, .int 1, .int (sp_sum (fun z => sp_ch (I 155 (144 * p + z)) k) j), .int (nI j)], [.int (nI (w * h)), .int (nI j)]) (G, I, F) _ _
    refine vm_J.go vm_q195 (k := 1) (hs := []) (f' := (bif vm_ic .ge (nI j) (nI (w * h)) then 74 else 46, (0, 0), [.ref 152, .int (nI p), .int k, .int 1, .int (sp_sum (fun z => sp_ch (I 155 (144 * p + z)) k) j), .int (nI j)], [])) (h' := (G, I, F)) (hs' := []) rfl rfl ?_
    refine vm_J.br (fun c1 => ?_) (fun c1 => ?_)
    · have c1 := vm_ge_t (a := j) (b := w * h) (by omega) (by omega) c1
      exact (show False by omega).elim
    · have c1 := vm_ge_f (a := j) (b := w * h) (by omega) (by omega) c1
      refine vm_J.go vm_q195 (k := 10) (hs := [vm_shR, (0, 576, [])]) (f' := (62, (0, 0), [.ref 152, .int (nI p), .int k, .int 1, .int (sp_sum (fun z => sp_ch (I 155 (144 * p + z)) k) j), .int (nI j)], [.int k, .int (I 155 ((144 * (nI p)) + (nI j)).toNatClampNeg), .int (sp_sum (fun z => sp_ch (I 155 (144 * p + z)) k) j)])) (h' := (G, I, F)) (hs' := []) rfl (vm_b2 rfl (vm_b2 rfl (vm_b2 (vm_b2 (vm_hG hR.c152) rfl) (vm_b2 rfl (vm_b2 rfl (vm_b2 rfl (vm_b2 rfl (vm_b2 rfl (vm_b2 (vm_b2 (vm_hG hR.c155) (vm_in_e (j := (144 * p) + j) (n := 576) (vm_pa (vm_pm (rfl : (144 : Int32) = nI 144) (rfl : (nI p : Int32) = nI p)) (rfl : (nI j : Int32) = nI j)) (by omega) (by omega))) (vm_b2 rfl rfl)))))))))) ?_
      rw [vm_ix_e (j := (144 * p) + j) (vm_pa (vm_pm (rfl : (144 : Int32) = nI 144) (rfl : (nI p : Int32) = nI p)) (rfl : (nI j : Int32) = nI j)) (by omega)]
      refine vm_J.call vm_q195 (Z := vm_M170) (n := 2) (k := 1) (mi := 170) (pc := 62) (en := (62, .invokestatic 180, 3, [170, 1348, 0], .null)) rfl trivial rfl rfl vm_z170 (av := [.int (I 155 ((144 * p) + j)), .int k]) (rest := [.int (sp_sum (fun z => sp_ch (I 155 (144 * p + z)) k) j)]) (r_channelOf (c := I 155 ((144 * p) + j)) (k := k)) rfl (Nat.le_of_ble_eq_true rfl) ⟨Nat.le_of_ble_eq_true rfl, Nat.le_of_ble_eq_true rfl⟩ ⟨Nat.le_of_ble_eq_true rfl, Nat.le_of_ble_eq_true rfl⟩ ?_
      show vm_J _ _ _ (65, (0, 0), [.ref 152, .int (nI p), .int k, .int 1, .int (sp_sum (fun z => sp_ch (I 155 (144 * p + z)) k) j), .int (nI j)], [.int (sp_ch (I 155 ((144 * p) + j)) k), .int (sp_sum (fun z => sp_ch (I 155 (144 * p + z)) k) j)]) (G, I, F) _ _
      refine vm_J.go vm_q195 (k := 4) (hs := []) (f' := (36, (0, 0), [.ref 152, .int (nI p), .int k, .int 1, .int ((sp_sum (fun z => sp_ch (I 155 (144 * p + z)) k) j) + (sp_ch (I 155 ((144 * p) + j)) k)), .int ((nI j) + 1)], [])) (h' := (G, I, F)) (hs' := []) rfl rfl ?_
      rw [((vm_pa (rfl : nI j = nI j) (rfl : (1 : Int32) = nI 1)) : (nI j) + 1 = nI (j + 1))]
      rw [show ((sp_sum (fun z => sp_ch (I 155 (144 * p + z)) k) j) + (sp_ch (I 155 ((144 * p) + j)) k) : Int32) = sp_sum (fun z => sp_ch (I 155 (144 * p + z)) k) (j + 1) from by rfl]
      exact ij trivial
  · show vm_J _ _ _ (36, (0, 0), [.ref 152, .int (nI p), .int k, .int 1, .int (sp_sum (fun z => sp_ch (I 155 (144 * p + z)) k) (w * h)), .int (nI (w * h))], []) (G, I, F) _ _
    refine vm_J.go vm_q195 (k := 3) (hs := []) (f' := (40, (0, 0), [.ref 152, .int (nI p), .int k, .int 1, .int (sp_sum (fun z => sp_ch (I 155 (144 * p + z)) k) (w * h)), .int (nI (w * h))], [.int (nI p), .ref 152, .int (nI (w * h))])) (h' := (G, I, F)) (hs' := []) rfl rfl ?_
    refine vm_J.call vm_q195 (Z := vm_M175) (n := 1) (k := 0) (mi := 175) (pc := 40) (en := (40, .invokevirtual 152, 3, [175, 1305, 0], .null)) rfl trivial rfl rfl vm_z175 (av := [.ref 152, .int (nI p)]) (rest := [.int (nI (w * h))]) (r_pix (p := p) (w := w) (h := h) hR hw hh (by omega)) ⟨_, _, rfl, rfl, _, 11, _, hR.c152, rfl, rfl, rfl⟩ (Nat.le_of_ble_eq_true rfl) ⟨Nat.le_of_ble_eq_true rfl, Nat.le_of_ble_eq_true rfl⟩ ⟨Nat.le_of_ble_eq_true rfl, Nat.le_of_ble_eq_true rfl⟩ ?_
    show vm_J _ _ _ (43, (0, 0), [.ref 152, .int (nI p), .int k, .int 1, .int (sp_sum (fun z => sp_ch (I 155 (144 * p + z)) k) (w * h)), .int (nI (w * h))], [.int (nI (w * h)), .int (nI (w * h))]) (G, I, F) _ _
    refine vm_J.go vm_q195 (k := 1) (hs := []) (f' := (bif vm_ic .ge (nI (w * h)) (nI (w * h)) then 74 else 46, (0, 0), [.ref 152, .int (nI p), .int k, .int 1, .int (sp_sum (fun z => sp_ch (I 155 (144 * p + z)) k) (w * h)), .int (nI (w * h))], [])) (h' := (G, I, F)) (hs' := []) rfl rfl ?_
    refine vm_J.br (fun c2 => ?_) (fun c2 => ?_)
    · have c2 := vm_ge_t (a := (w * h)) (b := w * h) (by omega) (by omega) c2
      rw [hsn]
      show vm_J _ _ _ (74, (0, 0), [.ref 152, .int (nI p), .int k, .int 1, .int (nI (sp_sN (fun z => sp_ch (I 155 (144 * p + z)) k) (w * h))), .int (nI (w * h))], []) (G, I, F) _ _
      refine vm_J.go vm_q195 (k := 4) (hs := []) (f' := (79, (0, 0), [.ref 152, .int (nI p), .int k, .int 1, .int (nI (sp_sN (fun z => sp_ch (I 155 (144 * p + z)) k) (w * h))), .int (nI (w * h))], [.int (nI p), .ref 152, .long ((nI (sp_sN (fun z => sp_ch (I 155 (144 * p + z)) k) (w * h))).toInt64)])) (h' := (G, I, F)) (hs' := []) rfl rfl ?_
      refine vm_J.call vm_q195 (Z := vm_M175) (n := 1) (k := 0) (mi := 175) (pc := 79) (en := (79, .invokevirtual 152, 3, [175, 1305, 0], .null)) rfl trivial rfl rfl vm_z175 (av := [.ref 152, .int (nI p)]) (rest := [.long ((nI (sp_sN (fun z => sp_ch (I 155 (144 * p + z)) k) (w * h))).toInt64)]) (r_pix (p := p) (w := w) (h := h) hR hw hh (by omega)) ⟨_, _, rfl, rfl, _, 11, _, hR.c152, rfl, rfl, rfl⟩ (Nat.le_of_ble_eq_true rfl) ⟨Nat.le_of_ble_eq_true rfl, Nat.le_of_ble_eq_true rfl⟩ ⟨Nat.le_of_ble_eq_true rfl, Nat.le_of_ble_eq_true rfl⟩ ?_
      show vm_J _ _ _ (82, (0, 0), [.ref 152, .int (nI p), .int k, .int 1, .int (nI (sp_sN (fun z => sp_ch (I 155 (144 * p + z)) k) (w * h))), .int (nI (w * h))], [.int (nI (w * h)), .long ((nI (sp_sN (fun z => sp_ch (I 155 (144 * p + z)) k) (w * h))).toInt64)]) (G, I, F) _ _
      refine vm_J.go vm_q195 (k := 2) (hs := []) (f' := (84, (0, 0), [.ref 152, .int (nI p), .int k, .int 1, .int (nI (sp_sN (fun z => sp_ch (I 155 (144 * p + z)) k) (w * h))), .int (nI (w * h))], [.int 1, .long ((nI (w * h)).toInt64), .long ((nI (sp_sN (fun z => sp_ch (I 155 (144 * p + z)) k) (w * h))).toInt64)])) (h' := (G, I, F)) (hs' := []) rfl rfl ?_
      rw [nL_lo hsm, nL_lo (n := w * h) (by omega)]
      show vm_J _ _ _ (84, (0, 0), [.ref 152, .int (nI p), .int k, .int 1, .int (nI (sp_sN (fun z => sp_ch (I 155 (144 * p + z)) k) (w * h))), .int (nI (w * h))], [.int 1, .long (nL (w * h)), .long (nL (sp_sN (fun z => sp_ch (I 155 (144 * p + z)) k) (w * h)))]) (G, I, F) _ _
      refine vm_J.call vm_q195 (Z := vm_M194) (n := 3) (k := 1) (mi := 194) (pc := 84) (en := (84, .invokestatic 207, 3, [194, 1384, 0], .null)) rfl trivial rfl rfl vm_z194 (av := [.long (nL (sp_sN (fun z => sp_ch (I 155 (144 * p + z)) k) (w * h))), .long (nL (w * h)), .int 1]) (rest := []) (r_partOf_1 hR hsm (by omega) (by omega)) rfl (Nat.le_of_ble_eq_true rfl) ⟨Nat.le_of_ble_eq_true rfl, Nat.le_of_ble_eq_true rfl⟩ ⟨Nat.le_of_ble_eq_true rfl, Nat.le_of_ble_eq_true rfl⟩ ?_
      show vm_J _ _ _ (87, (0, 0), [.ref 152, .int (nI p), .int k, .int 1, .int (nI (sp_sN (fun z => sp_ch (I 155 (144 * p + z)) k) (w * h))), .int (nI (w * h))], [.long (nL ((w * h) / Nat.gcd (sp_sN (fun z => sp_ch (I 155 (144 * p + z)) k) (w * h)) (w * h)))]) (G, I, F) _ _
      exact vm_J.end vm_q195 (en := (87, .lreturn, 1, [], .null)) rfl rfl vm_rL (Nat.zero_le _) (Nat.zero_le _) rfl
    · have c2 := vm_ge_f (a := (w * h)) (b := w * h) (by omega) (by omega) c2
      exact (show False by omega).elim
