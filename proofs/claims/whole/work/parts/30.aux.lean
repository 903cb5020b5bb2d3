theorem vm_b2 {a b : Bool} (h1 : a = true) (h2 : b = true) : (a && b) = true := by rw [h1, h2]; rfl
theorem vm_hG {G : List vm_Sh} {o : Nat} {sh : vm_Sh} (h : G[o]? = some sh) : vm_isG G o sh = true := decide_eq_true h
theorem vm_in_n {j n : Nat} (h1 : j < n) (h2 : n < 2147483648) : vm_in (nI j) n = true := decide_eq_true (nI_in h1 h2)
theorem vm_in_e {x : Int32} {j n : Nat} (h : x = nI j) (h1 : j < n) (h2 : n < 2147483648) : vm_in x n = true := by rw [h]; exact vm_in_n h1 h2
theorem vm_ix_n {j : Nat} (h1 : j < 2147483648) : (nI j).toNatClampNeg = j := nI_clamp h1
theorem vm_ix_e {x : Int32} {j : Nat} (h : x = nI j) (h1 : j < 2147483648) : x.toNatClampNeg = j := by rw [h]; exact nI_clamp h1
theorem vm_na (a b : Nat) : nI (a + b) = nI a + nI b := by simp [nI, Int32.ofNat_add]
theorem vm_nm (a b : Nat) : nI (a * b) = nI a * nI b := by simp [nI, Int32.ofNat_mul]
theorem vm_pa {x y : Int32} {a b : Nat} (h1 : x = nI a) (h2 : y = nI b) : x + y = nI (a + b) := by rw [h1, h2, vm_na]
theorem vm_pm {x y : Int32} {a b : Nat} (h1 : x = nI a) (h2 : y = nI b) : x * y = nI (a * b) := by rw [h1, h2, vm_nm]
theorem vm_ps {x y : Int32} {a b : Nat} (h1 : x = nI a) (h2 : y = nI b) (h : b ≤ a) : x - y = nI (a - b) := by
  have e : nI a = nI (a - b) + nI b := by rw [← vm_na, Nat.sub_add_cancel h]
  rw [h1, h2, e]
  exact Int32.add_sub_cancel _ _
theorem vm_ne_i {a b : Nat} (ha : a < 2147483648) (hb : b < 2147483648) (h : nI a = nI b) : a = b := by
  have h1 := nI_toInt (n := a) ha
  have h2 := nI_toInt (n := b) hb
  rw [h, h2] at h1
  omega
theorem vm_lt_i {a b : Nat} (ha : a < 2147483648) (hb : b < 2147483648) : nI a < nI b ↔ a < b := by
  rw [Int32.lt_iff_toInt_lt, nI_toInt ha, nI_toInt hb]
  omega
theorem vm_le_i {a b : Nat} (ha : a < 2147483648) (hb : b < 2147483648) : nI a ≤ nI b ↔ a ≤ b := by
  rw [Int32.le_iff_toInt_le, nI_toInt ha, nI_toInt hb]
  omega
theorem vm_eq_t {a b : Nat} (ha : a < 2147483648) (hb : b < 2147483648) (h : vm_ic .eq (nI a) (nI b) = true) : a = b := by
  have h1 : nI a = nI b := of_decide_eq_true h
  exact vm_ne_i ha hb h1
theorem vm_eq_f {a b : Nat} (ha : a < 2147483648) (hb : b < 2147483648) (h : vm_ic .eq (nI a) (nI b) = false) : a ≠ b := by
  have h1 : ¬ (nI a = nI b) := of_decide_eq_false h
  exact fun e => h1 (by rw [e])
theorem vm_ne_t {a b : Nat} (ha : a < 2147483648) (hb : b < 2147483648) (h : vm_ic .ne (nI a) (nI b) = true) : a ≠ b := by
  have h1 : ¬ nI a = nI b := of_decide_eq_true h
  exact fun e => h1 (by rw [e])
theorem vm_ne_f {a b : Nat} (ha : a < 2147483648) (hb : b < 2147483648) (h : vm_ic .ne (nI a) (nI b) = false) : a = b := by
  have h1 : ¬ (¬ nI a = nI b) := of_decide_eq_false h
  exact vm_ne_i ha hb (Decidable.byContradiction h1)
theorem vm_lt_t {a b : Nat} (ha : a < 2147483648) (hb : b < 2147483648) (h : vm_ic .lt (nI a) (nI b) = true) : a < b := by
  have h1 : nI a < nI b := of_decide_eq_true h
  exact (vm_lt_i ha hb).mp h1
theorem vm_lt_f {a b : Nat} (ha : a < 2147483648) (hb : b < 2147483648) (h : vm_ic .lt (nI a) (nI b) = false) : b ≤ a := by
  have h1 : ¬ (nI a < nI b) := of_decide_eq_false h
  exact Nat.le_of_not_lt fun q => h1 ((vm_lt_i ha hb).mpr q)
theorem vm_ge_t {a b : Nat} (ha : a < 2147483648) (hb : b < 2147483648) (h : vm_ic .ge (nI a) (nI b) = true) : b ≤ a := by
  have h1 : nI b ≤ nI a := of_decide_eq_true h
  exact (vm_le_i hb ha).mp h1
theorem vm_ge_f {a b : Nat} (ha : a < 2147483648) (hb : b < 2147483648) (h : vm_ic .ge (nI a) (nI b) = false) : a < b := by
  have h1 : ¬ (nI b ≤ nI a) := of_decide_eq_false h
  exact Nat.lt_of_not_le fun q => h1 ((vm_le_i hb ha).mpr q)
theorem vm_gt_t {a b : Nat} (ha : a < 2147483648) (hb : b < 2147483648) (h : vm_ic .gt (nI a) (nI b) = true) : b < a := by
  have h1 : nI b < nI a := of_decide_eq_true h
  exact (vm_lt_i hb ha).mp h1
theorem vm_gt_f {a b : Nat} (ha : a < 2147483648) (hb : b < 2147483648) (h : vm_ic .gt (nI a) (nI b) = false) : a ≤ b := by
  have h1 : ¬ (nI b < nI a) := of_decide_eq_false h
  exact Nat.le_of_not_lt fun q => h1 ((vm_lt_i hb ha).mpr q)
theorem vm_le_t {a b : Nat} (ha : a < 2147483648) (hb : b < 2147483648) (h : vm_ic .le (nI a) (nI b) = true) : a ≤ b := by
  have h1 : nI a ≤ nI b := of_decide_eq_true h
  exact (vm_le_i ha hb).mp h1
theorem vm_le_f {a b : Nat} (ha : a < 2147483648) (hb : b < 2147483648) (h : vm_ic .le (nI a) (nI b) = false) : b < a := by
  have h1 : ¬ (nI a ≤ nI b) := of_decide_eq_false h
  exact Nat.lt_of_not_le fun q => h1 ((vm_le_i ha hb).mpr q)
theorem vm_J.bT {l : Launch} {X : vm_Cx} {M : vm_M} {t f : Nat} {cs : Nat × Nat} {L st : List Value} {h h' : vm_H} {r : Option Value} {b : Bool} (hb : b = true) (hj : vm_J l X M (t, cs, L, st) h r h') : vm_J l X M (bif b then t else f, cs, L, st) h r h' := by
  subst hb
  exact hj
theorem vm_J.bF {l : Launch} {X : vm_Cx} {M : vm_M} {t f : Nat} {cs : Nat × Nat} {L st : List Value} {h h' : vm_H} {r : Option Value} {b : Bool} (hb : b = false) (hj : vm_J l X M (f, cs, L, st) h r h') : vm_J l X M (bif b then t else f, cs, L, st) h r h' := by
  subst hb
  exact hj
/-- a loop by a measure: any state at its head -/
theorem vm_J.iter {l : Launch} {X : vm_Cx} {M : vm_M} {h' : vm_H} {r : Option Value} {σ : Type} (f : σ → vm_F) (h : σ → vm_H) (P : σ → Prop) (m : σ → Nat) (step : ∀ s, P s → (∀ s', P s' → m s' < m s → vm_J l X M (f s') (h s') r h') → vm_J l X M (f s) (h s) r h') : ∀ s, P s → vm_J l X M (f s) (h s) r h' := by
  have key : ∀ n s, m s < n → P s → vm_J l X M (f s) (h s) r h' := by
    intro n
    induction n with
    | zero => intro s h; omega
    | succ n ih =>
      intro s hm hp
      exact step s hp fun s' hp' hlt => ih s' (by omega) hp'
  exact fun s hp => key _ s (Nat.lt_succ_self _) hp
/-- a loop that is counted up to n, with what holds at each head -/
theorem vm_J.count {l : Launch} {X : vm_Cx} {M : vm_M} {h' : vm_H} {r : Option Value} (n : Nat) (f : Nat → vm_F) (h : Nat → vm_H) (P : Nat → Prop) (step : ∀ j, j < n → P j → (P (j + 1) → vm_J l X M (f (j + 1)) (h (j + 1)) r h') → vm_J l X M (f j) (h j) r h') (out : P n → vm_J l X M (f n) (h n) r h') (h0 : P 0) : vm_J l X M (f 0) (h 0) r h' := by
  have key : ∀ k, k ≤ n → P (n - k) → vm_J l X M (f (n - k)) (h (n - k)) r h' := by
    intro k
    induction k with
    | zero => intro _ hp; exact out hp
    | succ k ih =>
      intro hk hp
      refine step (n - (k + 1)) (by omega) hp ?_
      rw [show n - (k + 1) + 1 = n - k by omega]
      exact ih (by omega)
  have := key n (Nat.le_refl n)
  rw [Nat.sub_self] at this
  exact this h0
theorem vm_J.end {l : Launch} {X : vm_Cx} {M : vm_M} (hM : vm_OK M) {f : vm_F} {h h' : vm_H} {r : Option Value} {en : vm_E} (hen : vm_get (vm_mc M) f.1 = some en) (hst : f.2.2.2 = r.toList) (hrt : vm_rt en.2.1 (vm_mt M) r) (h1 : f.2.1.1 ≤ (vm_mr M).cells) (h2 : f.2.1.2 ≤ (vm_mr M).slots) (hh : h = h') : vm_J l X M f h r h' := by
  subst hh
  exact vm_J.ret hM hen hrt hst h1 h2
/-- the same, from a state that is the first one's by equalities -/
theorem vm_J.cnt {l : Launch} {X : vm_Cx} {M : vm_M} {h' : vm_H} {r : Option Value} {fr : vm_F} {hp : vm_H} (n : Nat) (f : Nat → vm_F) (h : Nat → vm_H) (P : Nat → Prop) (e1 : fr = f 0) (e2 : hp = h 0) (h0 : P 0) (step : ∀ j, j < n → P j → (P (j + 1) → vm_J l X M (f (j + 1)) (h (j + 1)) r h') → vm_J l X M (f j) (h j) r h') (out : P n → vm_J l X M (f n) (h n) r h') : vm_J l X M fr hp r h' := by
  rw [e1, e2]
  exact vm_J.count n f h P step out h0
/-- a contract, of a method of a class that the machine partly has itself -/
theorem vm_K.mkF {l : Launch} {X : vm_Cx} {M : vm_M} {av : List Value} {h h' : vm_H} {r : Option Value} (hpl : plainFor (vm_my M) = true) (hn : (vm_ar av).length ≤ vm_ml M) (hj : vm_J l X M (0, (0, 0), vm_e0 av (vm_ml M), []) h r h') : vm_K l X M av h r h' := by
  unfold vm_K Met
  refine MetFree.of_bodySF (code := vm_mb M) (maxLocals := vm_ml M) (ret := vm_mt M) hpl ?_ ?_
  · intro args s m h hn
    obtain ⟨meth, c, h1, h2, h3, h4, h5, h6, -, -⟩ := Cond.code_spec hn (atoms_spec (ws := .code (vm_my M) (vm_mb M) (vm_ml M) (vm_mt M) :: vm_TB) h _ List.mem_cons_self)
    exact ⟨meth, c, h1, h2, h3, h4, h5, h6⟩
  intro p e s m args below meth c s₁ B hml hv _
  have hh0 : s₁.heap = s.heap := by rw [B.state]; rfl
  obtain ⟨rfl, hT, hP, hz, hG⟩ := hv
  have hts := atoms_spec (ws := .code (vm_my M) (vm_mb M) (vm_ml M) (vm_mt M) :: vm_TB) B.pre
  have hr := B.returns
  have hl := lv_entry (av.map (vm_v X)) (n := vm_ml M) (by rw [vm_ar_sl]; exact hn)
  have hlocks := B.notSynchronized
  rw [lg_entry_eq]
  generalize (lg_sl (av.map (vm_v X)) ++ List.replicate (vm_ml M - (lg_sl (av.map (vm_v X))).length) Slot.unset).toArray = ls at hl ⊢
  have walk : W p l e (vm_mr M) s m (av.map (vm_v X)).toArray below meth c s.heap [] 0 0 (MQ below (fun _ st oc t => oc = .returned (r.map (vm_v X)) ∧ va_P X.1 vm_cl (vm_ws X h') t.heap ∧ t.heap.size = vm_N0 X + h'.1.length ∧ h'.1.length ≤ 100000 ∧ va_F (vm_A X) st t) (av.map (vm_v X)).toArray s (vm_mr M).cells (vm_mr M).slots (vm_A X)) (F0 m 0 ls []) := ?_
  · obtain ⟨t, a1, o, b1, b2, b3⟩ := walk s₁ hh0 (Stand.of_body B)
    exact ⟨t, o, a1, b1, b2, b3.1, b3.2⟩
  refine hj p e _ s m _ below meth c _ ⟨B.exec, B.bytes, hml, findClass_of_methodNamed B.named, fun w hw => hts w (List.mem_cons_of_mem _ hw), (name_of_methodNamed B.named B.method).1, hT, fun q hq => by show _ ≤ q; rw [hz] at hq; exact Nat.le_trans (Nat.le_add_right _ _) hq, rfl⟩ s.heap [] ls ⟨hP, hz, hG, va_S.rf, vm_e0_has hn hl⟩ (by show (vm_e0 av (vm_ml M)).length = _; simp [vm_e0]; omega) ?_
  intro H' locs' ls' pc' i hdg hrt hP' hz' hG' hS'
  have fin : ∀ (t : State), t.heap = H' → va_P X.1 vm_cl (vm_ws X h') t.heap ∧ t.heap.size = vm_N0 X + h'.1.length ∧ h'.1.length ≤ 100000 ∧ va_F (vm_A X) s t := fun t ht => ⟨by rw [ht]; exact hP', by rw [ht]; exact hz', hG', hS'.F ht⟩
  unfold vm_rt at hrt
  split at hrt
  · rcases hrt with hrt | ⟨hrt, hv⟩
    · exact W.iret B.exec B.bytes (hr.trans hrt) (fun t ht _ => ⟨rfl, fin t ht⟩) hS'.2.2 hdg
    · exact W.zret B.exec B.bytes (hr.trans hrt) (by rcases hv with rfl | rfl <;> rfl) (fun t ht _ => ⟨rfl, fin t ht⟩) hS'.2.2 hdg
  · exact W.lret B.exec B.bytes (hr.trans hrt) (fun t ht _ => ⟨rfl, fin t ht⟩) hS'.2.2 hdg
  · exact W.fret B.exec B.bytes (hr.trans hrt) (fun t ht _ => ⟨rfl, fin t ht⟩) hS'.2.2 hdg
  · rcases hrt with ⟨n, hrt⟩ | ⟨n, hrt⟩
    · exact W.aret B.exec B.bytes (hr.trans hrt) (Or.inl ⟨n, rfl⟩) (Or.inr ⟨_, rfl⟩) (fun t ht _ => ⟨rfl, fin t ht⟩) hS'.2.2 hdg
    · exact W.aret B.exec B.bytes (hr.trans hrt) (Or.inr ⟨n, rfl⟩) (Or.inr ⟨_, rfl⟩) (fun t ht _ => ⟨rfl, fin t ht⟩) hS'.2.2 hdg
  · rcases hrt with ⟨n, hrt⟩ | ⟨n, hrt⟩
    · exact W.aret B.exec B.bytes (hr.trans hrt) (Or.inl ⟨n, rfl⟩) (Or.inl rfl) (fun t ht _ => ⟨rfl, fin t ht⟩) hS'.2.2 hdg
    · exact W.aret B.exec B.bytes (hr.trans hrt) (Or.inr ⟨n, rfl⟩) (Or.inl rfl) (fun t ht _ => ⟨rfl, fin t ht⟩) hS'.2.2 hdg
  · exact W.vret B.exec B.bytes (hr.trans hrt) (fun t ht _ => ⟨rfl, fin t ht⟩) hS'.2.2 hdg
  · exact hrt.elim
/-- Math.abs -/
theorem vm_absC : Cond.code Lib.Math.abs.name Lib.Math.abs.code 1 (some .int) ∈ vm_TB ∧ Cond.static Lib.Math.abs.name ∈ vm_TB ∧ Cond.initialized "java/lang/Math" ∈ vm_TB ∧ vm_mn[298]? = some Lib.Math.abs.name := ⟨vm_inTB (by decide +kernel), vm_inTB (by decide +kernel), vm_inTB (by decide +kernel), by decide +kernel⟩
theorem vm_J.abs {l : Launch} {X : vm_Cx} {M : vm_M} (hM : vm_OK M) {pc idx pp : Nat} {en : vm_E} (hen : vm_get (vm_mc M) pc = some en) (hi : en.2.1 = .invokestatic idx) (hmi : en.2.2.2.1 = [298, pp, 0]) (hr : 1 ≤ (vm_mr M).frames ∧ 21 ≤ (vm_mr M).locals)
    {cs : Nat × Nat} {L : List Value} {x : Int32} {rest : List Value} {h h' : vm_H} {r' : Option Value} (hrest : (rest.map fun v => v.category).sum ≤ 8) (hc : cs.1 ≤ (vm_mr M).cells ∧ cs.2 ≤ (vm_mr M).slots)
    (hj : vm_J l X M (pc + 3, cs, L, .int (if 0 ≤ x then x else 0 - x) :: rest) h r' h') : vm_J l X M (pc, cs, L, .int x :: rest) h r' h' := by
  obtain ⟨epc, hdg, hck⟩ := hM.at hen
  intro p e R s m args below meth c Q hC H locs ls hS hlen hend
  have hW0 := hj p e R s m args below meth c Q hC H locs ls hS hlen hend
  obtain ⟨hx, hb, hml, hown, hts, hnm, hTT, hA, rfl⟩ := id hC
  obtain ⟨pc0, i, len, xs, v⟩ := en
  dsimp only at epc hdg hck hi hmi hS hlen ⊢
  subst epc
  subst hi
  subst hmi
  unfold vm_ck at hck
  dsimp only at hck
  rw [vm_absC.2.2.2] at hck
  simp only [Bool.and_eq_true, Bool.or_eq_true, beq_iff_eq] at hck
  obtain ⟨rfl, hlk⟩ := hck
  have hlk2 : (Cond.methodLink (vm_my M).cls idx Lib.Math.abs.name).before args s = true := by
    rcases hlk with ⟨-, hlk⟩ | ⟨q, -⟩
    · exact hts _ (vm_wT hlk rfl)
    · exact absurd q (by decide)
  refine va_mabs hx hb (by rw [hml, hS.2.2.2.2.1]; exact hlen.symm) hown hlk2 (hts _ vm_absC.2.1) (hts _ vm_absC.2.2.1) (hts _ vm_absC.1) (rest := rest.map (vm_v X)) hr.1 ?_ hc.1 hc.2 hdg hW0
  rw [List.map_map, show ((fun v : Value => v.category) ∘ vm_v X) = fun v => v.category from funext fun v => vm_cat_v v]
  have := hr.2
  omega
