theorem vm_oi : Cond.instanceMethod Lib.objectInit ∈ vm_TB := vm_inTB (by decide +kernel)
theorem vm_oc : Cond.code Lib.objectInit ⟨#[0xb1]⟩ 1 none ∈ vm_TB := vm_inTB (by decide +kernel)
theorem vm_fn : Cond.native ⟨"java/lang/Float", "floatToRawIntBits", "(F)I"⟩ ∈ vm_TB := vm_inTB (by decide +kernel)
theorem vm_fs : Cond.static ⟨"java/lang/Float", "floatToRawIntBits", "(F)I"⟩ ∈ vm_TB := vm_inTB (by decide +kernel)
theorem vm_fi : Cond.initialized "java/lang/Float" ∈ vm_TB := vm_inTB (by decide +kernel)
/-- every row of a list, whatever its instruction -/
theorem vm_gAll {X : vm_Cx} {y : MethodName} {bs : ByteArray} {nL : Nat} {R0 : Room} {l : Launch} (en : vm_E) : vm_G X y bs nL R0 l en := by
  obtain ⟨pc, i, len, xs, v⟩ := en
  cases i
  case iload => exact vm_g_iload
  case iload_n => exact vm_g_iload_n
  case lload => exact vm_g_lload
  case lload_n => exact vm_g_lload_n
  case fload => exact vm_g_fload
  case fload_n => exact vm_g_fload_n
  case aload => exact vm_g_aload
  case aload_n => exact vm_g_aload_n
  case istore => exact vm_g_istore
  case istore_n => exact vm_g_istore_n
  case fstore => exact vm_g_fstore
  case fstore_n => exact vm_g_fstore_n
  case lstore => exact vm_g_lstore
  case astore => exact vm_g_astore
  case astore_n => exact vm_g_astore_n
  case iinc => exact vm_g_iinc
  case iconst => exact vm_g_iconst
  case bipush => exact vm_g_bipush
  case sipush => exact vm_g_sipush
  case lconst => exact vm_g_lconst
  case fconst => exact vm_g_fconst
  case ldc => exact vm_g_ldc
  case ldc_w => exact vm_g_ldc_w
  case ldc2_w => exact vm_g_ldc2_w
  case aconst_null => exact vm_g_aconst_null
  case iadd => exact vm_g_iadd
  case isub => exact vm_g_isub
  case imul => exact vm_g_imul
  case iand => exact vm_g_iand
  case ior => exact vm_g_ior
  case ishl => exact vm_g_ishl
  case ishr => exact vm_g_ishr
  case iushr => exact vm_g_iushr
  case idiv => exact vm_g_idiv
  case irem => exact vm_g_irem
  case land => exact vm_g_land
  case lor => exact vm_g_lor
  case ldiv => exact vm_g_ldiv
  case lrem => exact vm_g_lrem
  case lshl => exact vm_g_lshl
  case lcmp => exact vm_g_lcmp
  case i2l => exact vm_g_i2l
  case l2i => exact vm_g_l2i
  case i2b => exact vm_g_i2b
  case i2s => exact vm_g_i2s
  case i2f => exact vm_g_i2f
  case l2f => exact vm_g_l2f
  case f2i => exact vm_g_f2i
  case fneg => exact vm_g_fneg
  case fadd => exact vm_g_fadd
  case fsub => exact vm_g_fsub
  case fmul => exact vm_g_fmul
  case fdiv => exact vm_g_fdiv
  case fcmp => exact vm_g_fcmp
  case dup => exact vm_g_dup
  case pop => exact vm_g_pop
  case dup2 => exact vm_g_dup2
  case goto => exact vm_g_goto
  case ifCond => exact vm_g_ifCond
  case if_icmp => exact vm_g_if_icmp
  case ifnull => exact vm_g_ifnull
  case ifnonnull => exact vm_g_ifnonnull
  case tableswitch => exact vm_g_tableswitch
  case lookupswitch => exact vm_g_lookupswitch
  case getfield => exact vm_g_getfield
  case putfield => exact vm_g_putfield
  case getstatic => exact vm_g_getstatic
  case arraylength => exact vm_g_arraylength
  case iaload => exact vm_g_iaload
  case faload => exact vm_g_faload
  case iastore => exact vm_g_iastore
  case fastore => exact vm_g_fastore
  case aaload => exact vm_g_aaload
  case aastore => exact vm_g_aastore
  case new => exact vm_g_new
  case newarray => exact vm_g_newarray
  case anewarray => exact vm_g_anewarray
  all_goals
    intro p e R s m args below meth c Q hC hck hdg cs L st G I F hs pc' cs' L' st' G' I' F' hs' h1
    unfold vm_1 at h1
    cases h1
/-- which instruction gives an answer back -/
def vm_rt (i : ClassFile.Instr) (ret : Option FieldType) (r : Option Value) : Prop := match i, r with
  | .ireturn, some (.int v) => ret = some .int ∨ (ret = some .boolean ∧ (v = 0 ∨ v = 1))
  | .lreturn, some (.long _) => ret = some .long
  | .freturn, some (.float _) => ret = some .float
  | .areturn, some (.ref _) => (∃ n, ret = some (.object n)) ∨ ∃ t, ret = some (.array t)
  | .areturn, some .null => (∃ n, ret = some (.object n)) ∨ ∃ t, ret = some (.array t)
  | .return_, none => ret = none
  | _, _ => False
abbrev vm_my (M : vm_M) : MethodName := M.1
abbrev vm_mb (M : vm_M) : ByteArray := M.2.1
abbrev vm_ml (M : vm_M) : Nat := M.2.2.1
abbrev vm_mt (M : vm_M) : Option FieldType := M.2.2.2.1
abbrev vm_mr (M : vm_M) : Room := M.2.2.2.2.1
abbrev vm_mc (M : vm_M) : List vm_E := M.2.2.2.2.2
/-- a method's list is its bytes' -/
def vm_OK (M : vm_M) : Prop := (vm_mc M).all (fun e => decide (decode (vm_mb M) e.1 = .ok (e.2.1, e.2.2.1)) && vm_ck (vm_my M) e) = true
/-- from this frame and heap the method comes to its end: it answers r and leaves the heap h' -/
def vm_J (l : Launch) (X : vm_Cx) (M : vm_M) (f : vm_F) (h : vm_H) (r : Option Value) (h' : vm_H) : Prop :=
  ∀ (p : Program) (e : Env) (R : Room) (s : State) (m : MethodId) (args : Array Value) (below : List Frame) (meth : Method) (c : Code) (Q : State → Prop), vm_C X (vm_my M) (vm_mb M) (vm_ml M) (vm_mr M) p R s m args meth c →
  ∀ (H : Heap) (locs : List Loc) (ls : Array Slot), vm_S X s H locs f.2.2.1 ls h → f.2.2.1.length = vm_ml M →
  (∀ (H' : Heap) (locs' : List Loc) (ls' : Array Slot) (pc' : Nat) (i : ClassFile.Instr), decode (vm_mb M) pc' = .ok (i, 1) → vm_rt i (vm_mt M) r → va_P X.1 vm_cl (vm_ws X h') H' → H'.size = vm_N0 X + h'.1.length → h'.1.length ≤ 100000 → va_S (vm_A X) s.heap H' locs' → W p l e R s m args below meth c H' locs' (vm_mr M).cells (vm_mr M).slots Q (F0 m pc' ls' ((r.toList).map (vm_v X)))) →
  W p l e R s m args below meth c H locs f.2.1.1 f.2.1.2 Q (F0 m f.1 ls (f.2.2.2.map (vm_v X)))
theorem vm_get_i {es : List vm_E} {pc : Nat} {e : vm_E} (h : vm_get es pc = some e) : e ∈ es ∧ e.1 = pc := by
  induction es with
  | nil => cases h
  | cons a es ih =>
    unfold vm_get at h
    cases hb : Nat.beq a.1 pc with
    | true =>
      rw [hb] at h
      cases h
      exact ⟨List.mem_cons_self, Nat.eq_of_beq_eq_true hb⟩
    | false =>
      rw [hb] at h
      obtain ⟨h1, h2⟩ := ih h
      exact ⟨List.mem_cons_of_mem _ h1, h2⟩
theorem vm_OK.at {M : vm_M} (h : vm_OK M) {pc : Nat} {e : vm_E} (he : vm_get (vm_mc M) pc = some e) : e.1 = pc ∧ decode (vm_mb M) e.1 = .ok (e.2.1, e.2.2.1) ∧ vm_ck (vm_my M) e = true := by
  obtain ⟨h1, h2⟩ := vm_get_i he
  have h3 := List.all_eq_true.mp h e h1
  simp only [Bool.and_eq_true, decide_eq_true_eq] at h3
  exact ⟨h2, h3⟩
theorem vm_1_len {X : vm_Cx} {mc ms : Nat} {e : vm_E} {pc : Nat} {cs : Nat × Nat} {L st : List Value} {G : List vm_Sh} {I : Nat → Nat → Int32} {F : Nat → Nat → UInt32} {hs : List vm_Sh} {f' : vm_F} {h' : vm_H} {hs' : List vm_Sh} {b : Bool} (h : vm_1 X mc ms e pc cs L st G I F hs = some (f', h', hs', b)) : f'.2.2.1.length = L.length := by
  unfold vm_1 at h
  split at h
  all_goals (try simp only [vm_k1, vm_kl, vm_kf, vm_ka, vm_i1, vm_i2, vm_l1, vm_l2, vm_f1, vm_f2, vm_if, vm_hs, vm_no, vm_r1] at h)
  all_goals (repeat' (split at h))
  all_goals first | (cases h; done) | (cases h; rfl) | (cases h; exact vm_s1_len _ _ _) | (cases h; exact vm_s2_len _ _ _)
/-- some steps, then the rest -/
theorem vm_J.go {l : Launch} {X : vm_Cx} {M : vm_M} (hM : vm_OK M) {k : Nat} : ∀ {f f' : vm_F} {h h' : vm_H} {hs hs' : List vm_Sh} {b : Bool} {r : Option Value} {h'' : vm_H}, vm_n X M k f h hs = some (f', h', hs', b) → b = true → vm_J l X M f' h' r h'' → vm_J l X M f h r h'' := by
  induction k with
  | zero =>
    intro f f' h h' hs hs' b r h'' hn _ hj
    cases hn
    exact hj
  | succ k ih =>
    intro f f' h h' hs hs' b r h'' hn hb hj
    unfold vm_n at hn
    split at hn
    · cases hn
    · rename_i en hen
      split at hn
      · cases hn
      · rename_i f1 h1 hs1 b1 h2
        split at hn
        · cases hn
        · rename_i f2 h3 hs2 b2 h4
          cases hn
          rw [Bool.and_eq_true] at hb
          obtain ⟨rfl, rfl⟩ := hb
          have hj1 := ih h4 rfl hj
          obtain ⟨epc, hdg, hck⟩ := hM.at hen
          intro p e R s m args below meth c Q hC H locs ls hS hlen hend
          obtain ⟨pc, cs, L, st⟩ := f
          obtain ⟨pc1, cs1, L1, st1⟩ := f1
          obtain ⟨G, I, F⟩ := h
          obtain ⟨G1, I1, F1⟩ := h1
          dsimp only at h2 epc hlen hS ⊢
          subst epc
          have hl := vm_1_len h2
          refine vm_gAll en p e R s m args below meth c Q hC hck hdg cs L st G I F hs pc1 cs1 L1 st1 G1 I1 F1 hs1 h2 H locs ls hS fun H' locs' ls' hS' => ?_
          exact hj1 p e R s m args below meth c Q hC H' locs' ls' hS' (hl.trans hlen) hend
/-- fewer locals known -/
def vm_le (L' L : List Value) : Prop := L'.length = L.length ∧ ∀ (i : Nat) (v : Value), L'[i]? = some v → L[i]? = some v ∨ ∃ q, v = .retAddr q
theorem vm_le_has {X : vm_Cx} {L' L : List Value} {ls : Array Slot} (h : vm_le L' L) (hl : lv_has ls L.length (vm_la X L)) : lv_has ls L'.length (vm_la X L') := by
  refine ⟨hl.1.trans h.1.symm, hl.2.1, fun q hq => ?_⟩
  obtain ⟨v, h1, h2, h3⟩ := vm_la_of hq
  rcases h.2 _ _ h1 with h4 | ⟨a, rfl⟩
  · rw [h3]
    exact vm_ld (n := L.length) hl h4 h2
  · exact absurd rfl (h2 a)
theorem vm_J.less {l : Launch} {X : vm_Cx} {M : vm_M} {pc : Nat} {cs : Nat × Nat} {L L' st : List Value} {h h' : vm_H} {r : Option Value} (hle : vm_le L' L) (hj : vm_J l X M (pc, cs, L', st) h r h') : vm_J l X M (pc, cs, L, st) h r h' := by
  intro p e R s m args below meth c Q hC H locs ls hS hlen hend
  exact hj p e R s m args below meth c Q hC H locs ls ⟨hS.1, hS.2.1, hS.2.2.1, hS.2.2.2.1, vm_le_has hle hS.2.2.2.2⟩ (hle.1.trans hlen) hend
def vm_mk : List Bool → List Value → List Value
  | b :: bs, v :: L => (bif b then v else .retAddr 0) :: vm_mk bs L
  | _, [] => []
  | [], v :: L => v :: L
theorem vm_mk_le : ∀ (bs : List Bool) (L : List Value), vm_le (vm_mk bs L) L
  | [], [] => ⟨rfl, fun i v h => Or.inl h⟩
  | [], v :: L => ⟨rfl, fun i v h => Or.inl h⟩
  | b :: bs, [] => ⟨rfl, fun i v h => Or.inl h⟩
  | b :: bs, v :: L => by
    obtain ⟨h1, h2⟩ := vm_mk_le bs L
    refine ⟨by simp [vm_mk, h1], fun i w h => ?_⟩
    cases i with
    | zero =>
      cases b
      · simp only [vm_mk, cond_false, List.getElem?_cons_zero, Option.some.injEq] at h
        exact Or.inr ⟨0, h.symm⟩
      · simp only [vm_mk, cond_true, List.getElem?_cons_zero, Option.some.injEq] at h
        exact Or.inl (by rw [← h]; rfl)
    | succ i =>
      simp only [vm_mk, List.getElem?_cons_succ] at h
      exact h2 i w h
/-- some locals forgotten: those at the places of a false -/
theorem vm_J.mask {l : Launch} {X : vm_Cx} {M : vm_M} {pc : Nat} {cs : Nat × Nat} {L st : List Value} {h h' : vm_H} {r : Option Value} (bs : List Bool) (hj : vm_J l X M (pc, cs, vm_mk bs L, st) h r h') : vm_J l X M (pc, cs, L, st) h r h' := hj.less (vm_mk_le bs L)
/-- a test -/
theorem vm_J.br {l : Launch} {X : vm_Cx} {M : vm_M} {t f : Nat} {cs : Nat × Nat} {L st : List Value} {h h' : vm_H} {r : Option Value} {b : Bool} (ht : b = true → vm_J l X M (t, cs, L, st) h r h') (hf : b = false → vm_J l X M (f, cs, L, st) h r h') : vm_J l X M (bif b then t else f, cs, L, st) h r h' := by
  cases b
  · exact hf rfl
  · exact ht rfl
/-- the end -/
theorem vm_J.ret {l : Launch} {X : vm_Cx} {M : vm_M} (hM : vm_OK M) {f : vm_F} {h : vm_H} {r : Option Value} {en : vm_E} (hen : vm_get (vm_mc M) f.1 = some en) (hrt : vm_rt en.2.1 (vm_mt M) r) (hst : f.2.2.2 = r.toList) (h1 : f.2.1.1 ≤ (vm_mr M).cells) (h2 : f.2.1.2 ≤ (vm_mr M).slots) : vm_J l X M f h r h := by
  intro p e R s m args below meth c Q hC H locs ls hS hlen hend
  obtain ⟨epc, hdg, hck⟩ := hM.at hen
  have hl : en.2.2.1 = 1 := by
    obtain ⟨pc, i, len, xs, v⟩ := en
    dsimp only at hrt hck ⊢
    unfold vm_rt at hrt
    split at hrt <;> first | (exact hrt.elim) | (unfold vm_ck at hck; simpa using hck)
  rw [hl, epc] at hdg
  rw [hst]
  exact W.widen h1 h2 (hend H locs ls f.1 en.2.1 hdg hrt hS.1 hS.2.1 hS.2.2.1 hS.2.2.2.1)
/-- a loop that is counted up to n: by the states at its head -/
theorem vm_J.loop {l : Launch} {X : vm_Cx} {M : vm_M} {h' : vm_H} {r : Option Value} (n : Nat) (f : Nat → vm_F) (h : Nat → vm_H) (step : ∀ j, j < n → vm_J l X M (f (j + 1)) (h (j + 1)) r h' → vm_J l X M (f j) (h j) r h') (out : vm_J l X M (f n) (h n) r h') : vm_J l X M (f 0) (h 0) r h' := by
  have key : ∀ k, k ≤ n → vm_J l X M (f (n - k)) (h (n - k)) r h' := by
    intro k
    induction k with
    | zero => intro _; exact out
    | succ k ih =>
      intro hk
      refine step (n - (k + 1)) (by omega) ?_
      rw [show n - (k + 1) + 1 = n - k by omega]
      exact ih (by omega)
  have := key n (Nat.le_refl n)
  rwa [Nat.sub_self] at this
/-- a method's CONTRACT: from these arguments and this heap it answers r and leaves h' -/
def vm_K (l : Launch) (X : vm_Cx) (M : vm_M) (av : List Value) (h : vm_H) (r : Option Value) (h' : vm_H) : Prop :=
  Met l (vm_my M) (.code (vm_my M) (vm_mb M) (vm_ml M) (vm_mt M) :: vm_TB) (vm_mr M)
    (fun a U => a = (av.map (vm_v X)).toArray ∧ vm_T X U U.heap ∧ va_P X.1 vm_cl (vm_ws X h) U.heap ∧ U.heap.size = vm_N0 X + h.1.length ∧ h.1.length ≤ 100000)
    (fun _ st oc t => oc = .returned (r.map (vm_v X)) ∧ va_P X.1 vm_cl (vm_ws X h') t.heap ∧ t.heap.size = vm_N0 X + h'.1.length ∧ h'.1.length ≤ 100000 ∧ va_F (vm_A X) st t)
    (vm_mr M).cells (vm_mr M).slots (vm_A X)
def vm_ar : List Value → List Value
  | [] => []
  | .long x :: r => .long x :: .retAddr 0 :: vm_ar r
  | .double x :: r => .double x :: .retAddr 0 :: vm_ar r
  | v :: r => v :: vm_ar r

def vm_e0 (av : List Value) (n : Nat) : List Value := vm_ar av ++ List.replicate (n - (vm_ar av).length) (.retAddr 0)
theorem vm_ar_sl {X : vm_Cx} : ∀ av : List Value, (lg_sl (av.map (vm_v X))).length = (vm_ar av).length
  | [] => rfl
  | v :: r => by
    have ih : (lg_sl (r.map (vm_v X))).length = (vm_ar r).length := vm_ar_sl (X := X) r
    have e : lg_sl ((v :: r).map (vm_v X)) = (if (vm_v X v).category = 2 then [.val (vm_v X v), .second] else [.val (vm_v X v)]) ++ lg_sl (r.map (vm_v X)) := by simp [lg_sl]
    rw [e, List.length_append, ih]
    cases v <;> simp [vm_ar, vm_v, Value.category] <;> try omega
theorem vm_ar_mem {X : vm_Cx} : ∀ (av : List Value) (i j : Nat) (w : Value), (vm_ar av)[j]? = some w → (∀ a, w ≠ .retAddr a) → (i + j, vm_v X w) ∈ lv_args i (av.map (vm_v X))
  | [], i, j, w, h, _ => by simp [vm_ar] at h
  | v :: r, i, j, w, h, hw => by
    have one : (vm_ar (v :: r) = v :: vm_ar r) → v.category = 1 → (i + j, vm_v X w) ∈ lv_args i ((v :: r).map (vm_v X)) := by
      intro e hc
      rw [e] at h
      rw [List.map_cons]
      unfold lv_args
      rw [vm_cat_v, hc]
      cases j with
      | zero =>
        cases h
        exact List.mem_cons_self
      | succ j =>
        rw [List.getElem?_cons_succ] at h
        have := vm_ar_mem (X := X) r (i + 1) j w h hw
        rw [show i + (j + 1) = i + 1 + j by omega]
        exact List.mem_cons_of_mem _ this
    have two : (vm_ar (v :: r) = v :: .retAddr 0 :: vm_ar r) → v.category = 2 → (i + j, vm_v X w) ∈ lv_args i ((v :: r).map (vm_v X)) := by
      intro e hc
      rw [e] at h
      rw [List.map_cons]
      unfold lv_args
      rw [vm_cat_v, hc]
      cases j with
      | zero =>
        cases h
        exact List.mem_cons_self
      | succ j =>
        rw [List.getElem?_cons_succ] at h
        cases j with
        | zero =>
          cases h
          exact absurd rfl (hw 0)
        | succ j =>
          rw [List.getElem?_cons_succ] at h
          have := vm_ar_mem (X := X) r (i + 2) j w h hw
          rw [show i + (j + 1 + 1) = i + 2 + j by omega]
          exact List.mem_cons_of_mem _ this
    cases v with
    | long x => exact two rfl rfl
    | double x => exact two rfl rfl
    | _ => exact one rfl rfl
theorem vm_e0_has {X : vm_Cx} {av : List Value} {n : Nat} {ls : Array Slot} (hn : (vm_ar av).length ≤ n) (h : lv_has ls n (lv_args 0 (av.map (vm_v X)))) : lv_has ls (vm_e0 av n).length (vm_la X (vm_e0 av n)) := by
  have hl : (vm_e0 av n).length = n := by simp [vm_e0]; omega
  refine ⟨h.1.trans hl.symm, h.2.1, fun q hq => h.2.2 q ?_⟩
  obtain ⟨w, h1, h2, h3⟩ := vm_la_of hq
  obtain ⟨j, z⟩ := q
  dsimp only at h1 h3
  rw [h3]
  unfold vm_e0 at h1
  by_cases hj : j < (vm_ar av).length
  · rw [List.getElem?_append_left hj] at h1
    have := vm_ar_mem (X := X) av 0 j w h1 h2
    rwa [Nat.zero_add] at this
  · rw [List.getElem?_append_right (by omega)] at h1
    have := List.mem_of_getElem? h1
    rw [(List.mem_replicate.mp this).2] at h2
    exact absurd rfl (h2 0)
/-- a contract, out of a walk of the body -/
theorem vm_K.mk {l : Launch} {X : vm_Cx} {M : vm_M} {av : List Value} {h h' : vm_H} {r : Option Value} (hpl : plainName (vm_my M).cls = true) (hn : (vm_ar av).length ≤ vm_ml M) (hj : vm_J l X M (0, (0, 0), vm_e0 av (vm_ml M), []) h r h') : vm_K l X M av h r h' := by
  refine Met.ofW (cc := vm_mb M) (maxL := vm_ml M) (ret := vm_mt M) hpl rfl ?_
  intro p e s m args below meth c s₁ B hml hv
  obtain ⟨rfl, hT, hP, hz, hG⟩ := hv
  have hts := atoms_spec (ws := .code (vm_my M) (vm_mb M) (vm_ml M) (vm_mt M) :: vm_TB) B.pre
  have hr := B.returns
  have hl := lv_entry (av.map (vm_v X)) (n := vm_ml M) (by rw [vm_ar_sl]; exact hn)
  have hlocks := B.notSynchronized
  rw [lg_entry_eq]
  generalize (lg_sl (av.map (vm_v X)) ++ List.replicate (vm_ml M - (lg_sl (av.map (vm_v X))).length) Slot.unset).toArray = ls at hl ⊢
  refine hj p e _ s m _ below meth c _ ⟨B.exec, B.bytes, hml, findClass_of_methodNamed B.named, fun w hw => hts w (List.mem_cons_of_mem _ hw), (name_of_methodNamed B.named B.method).1, hT, fun q hq => by show _ ≤ q; rw [hz] at hq; exact Nat.le_trans (Nat.le_add_right _ _) hq, rfl⟩ s.heap [] ls ⟨hP, hz, hG, va_S.rf, vm_e0_has hn hl⟩ (by show (vm_e0 av (vm_ml M)).length = _; simp [vm_e0]; omega) ?_
  intro H' locs' ls' pc' i hdg hrt hP' hz' hG' hS'
  have fin : ∀ (t : State), t.heap = H' → va_P X.1 vm_cl (vm_ws X h') t.heap ∧ t.heap.size = vm_N0 X + h'.1.length ∧ h'.1.length ≤ 100000 ∧ va_F (vm_A X) s t := fun t ht => ⟨by rw [ht]; exact hP', by rw [ht]; exact hz', hG', hS'.F ht⟩
  unfold vm_rt at hrt
  split at hrt
  · rcases hrt with hrt | ⟨hrt, hv⟩
    · exact W.iret B.exec B.bytes (hr.trans hrt) (fun t ht _ => ⟨rfl, fin t ht⟩) hS'.2.2 hdg
    · exact W.zret B.exec B.bytes (hr.trans hrt) (by rcases hv with rfl | rfl <;> rfl) (fun t ht _ => ⟨rfl, fin t ht⟩) hS'.2.2 hdg
  · exact W.lret B.exec B.bytes (hr.trans hrt) (fun t ht _ => ⟨rfl, fin t ht⟩) hS'.2.2 hdg
  · exact W.fret B.exec B.bytes (hr.trans hrt) (fun t ht _ => ⟨rfl, fin t ht⟩) hS'.2.2 hdg
  · rcases hrt with ⟨n, hrt⟩ | ⟨n, hrt⟩
    · exact W.aret B.exec B.bytes (hr.trans hrt) (Or.inl ⟨n, rfl⟩) (Or.inr ⟨_, rfl⟩) (fun t ht _ => ⟨rfl, fin t ht⟩) hS'.2.2 hdg
    · exact W.aret B.exec B.bytes (hr.trans hrt) (Or.inr ⟨n, rfl⟩) (Or.inr ⟨_, rfl⟩) (fun t ht _ => ⟨rfl, fin t ht⟩) hS'.2.2 hdg
  · rcases hrt with ⟨n, hrt⟩ | ⟨n, hrt⟩
    · exact W.aret B.exec B.bytes (hr.trans hrt) (Or.inl ⟨n, rfl⟩) (Or.inl rfl) (fun t ht _ => ⟨rfl, fin t ht⟩) hS'.2.2 hdg
    · exact W.aret B.exec B.bytes (hr.trans hrt) (Or.inr ⟨n, rfl⟩) (Or.inl rfl) (fun t ht _ => ⟨rfl, fin t ht⟩) hS'.2.2 hdg
  · exact W.vret B.exec B.bytes (hr.trans hrt) (fun t ht _ => ⟨rfl, fin t ht⟩) hS'.2.2 hdg
  · exact hrt.elim
/-- what the tables say of a method that is called: k = 0 by its object, 1 static, 2 a constructor; n parameters -/
def vm_cd (Z : vm_M) (n k : Nat) : Prop :=
  Cond.code (vm_my Z) (vm_mb Z) (vm_ml Z) (vm_mt Z) ∈ vm_TB ∧ Cond.initialized (vm_my Z).cls ∈ vm_TB ∧ ((vm_my Z).cls ≠ "java/lang/invoke/MethodHandle" ∧ (vm_my Z).cls ≠ "java/lang/invoke/VarHandle" ∧ (parseMethodDescriptor (vm_my Z).desc).map (fun d => d.parameters.length) = some n) ∧
  (match k with
    | 0 => Cond.instanceMethod (vm_my Z) ∈ vm_TB ∧ Cond.selects (vm_my Z).cls (vm_my Z) (vm_my Z) ∈ vm_TB
    | 1 => Cond.static (vm_my Z) ∈ vm_TB
    | _ => Cond.instanceMethod (vm_my Z) ∈ vm_TB ∧ (vm_my Z).name = "<init>" ∧ vm_mt Z = none)
theorem vm_TBgood {ws : List Cond} (hc : ∀ w ∈ ws, w ∈ vm_TB) : GoodIn vm_TB ws := fun w hw => ⟨hc w hw, good_of_word (List.mem_filter.mp (hc w hw)).2⟩
theorem vm_blind {X : vm_Cx} {av : List Value} {h : vm_H} : FrameBlind (fun a U => a = (av.map (vm_v X)).toArray ∧ vm_T X U U.heap ∧ va_P X.1 vm_cl (vm_ws X h) U.heap ∧ U.heap.size = vm_N0 X + h.1.length ∧ h.1.length ≤ 100000) := by
  intro a U g mk q
  exact ⟨q.1, vm_T.calling q.2.1, q.2.2⟩
/-- the arguments of a call: as many as the method has, behind an object of its class -/
def vm_av (Z : vm_M) (n k : Nat) (av : List Value) (h : vm_H) : Prop := match k with
  | 1 => av.length = n
  | _ => ∃ (o : Nat) (as : List Value), av = .ref o :: as ∧ as.length = n ∧ ∃ (sh : vm_Sh) (ci : Nat) (q : vw_C), h.1[o]? = some sh ∧ sh.1 = ci + 2 ∧ vm_cl[ci]? = some q ∧ q.1 = (vm_my Z).cls
/-- which call it is -/
def vm_iv (i : ClassFile.Instr) (k : Nat) : Prop := match i, k with
  | .invokevirtual _, 0 => True
  | .invokestatic _, 1 => True
  | .invokespecial _, 2 => True
  | _, _ => False
theorem vm_J.call {l : Launch} {X : vm_Cx} {M Z : vm_M} (hM : vm_OK M) {pc : Nat} {en : vm_E} (hen : vm_get (vm_mc M) pc = some en) {n k mi : Nat} (hiv : vm_iv en.2.1 k) (hmi : en.2.2.2.1.head? = some mi) (hmn : vm_mn[mi]? = some (vm_my Z)) (hZ : vm_cd Z n k)
    {cs : Nat × Nat} {L : List Value} {av rest : List Value} {h h1 h' : vm_H} {r r' : Option Value} (hK : vm_K l X Z av h r h1)
    (hav : vm_av Z n k av h)
    (hrest : (rest.map fun v => v.category).sum ≤ 8) (hroom : (vm_mr Z).frames + 1 ≤ (vm_mr M).frames ∧ 8 + (vm_ml Z + 11) + (vm_mr Z).locals ≤ (vm_mr M).locals) (hcells : cs.1 + (vm_mr Z).cells ≤ (vm_mr M).cells ∧ cs.2 + (vm_mr Z).slots ≤ (vm_mr M).slots)
    (hj : vm_J l X M (pc + 3, (cs.1 + (vm_mr Z).cells, cs.2 + (vm_mr Z).slots), L, r.toList ++ rest) h1 r' h') : vm_J l X M (pc, cs, L, av.reverse ++ rest) h r' h' := by
  obtain ⟨cCode, cIni, cName, cK⟩ := hZ
  obtain ⟨epc, hdg, hck⟩ := hM.at hen
  intro p e R s m args below meth c Q hC H locs ls hS hlen hend
  have hW0 := hj p e R s m args below meth c Q hC
  obtain ⟨hx, hb, hml, hown, hts, hnm, hTT, hA, rfl⟩ := id hC
  dsimp only at hS hlen hW0 ⊢
  obtain ⟨pc0, i, len, xs, v⟩ := en
  dsimp only at epc hdg hck hiv hmi
  subst epc
  have hws : ∀ w ∈ Cond.code (vm_my Z) (vm_mb Z) (vm_ml Z) (vm_mt Z) :: vm_TB, w ∈ vm_TB := fun w hw => by
    rcases List.mem_cons.mp hw with rfl | h
    · exact cCode
    · exact h
  have hTH : ∀ U : State, U.heap = H → s.WarmedH U.vm → vm_T X U U.heap := fun U hU hW => by
    rw [hU]
    exact (hTT.kept hS.2.2.2.1.2.1).moved hW
  have hsize : ls.size = vm_ml M := by rw [hS.2.2.2.2.1]; exact hlen
  have hcat : (((rest.map (vm_v X)).map fun v => v.category).sum) ≤ 8 := by
    rw [List.map_map, show ((fun v : Value => v.category) ∘ vm_v X) = fun v => v.category from funext fun v => vm_cat_v v]
    exact hrest
  have after : ∀ {a0 : Array Value}, va_Run p l e (vm_mr M) s m args below meth c H locs cs.1 cs.2 (vm_mr Z).cells (vm_mr Z).slots (F0 m pc0 ls ((av.reverse ++ rest).map (vm_v X))) (rest.map (vm_v X)) ((fun _ st oc t => oc = .returned (r.map (vm_v X)) ∧ va_P X.1 vm_cl (vm_ws X h1) t.heap ∧ t.heap.size = vm_N0 X + h1.1.length ∧ h1.1.length ≤ 100000 ∧ va_F (vm_A X) st t : Array Value → State → Outcome → State → Prop) a0) (vm_A X) →
      W p l e (vm_mr M) s m args below meth c H locs cs.1 cs.2 Q (F0 m pc0 ls ((av.reverse ++ rest).map (vm_v X))) := by
    intro a0 run T hT Xs
    obtain ⟨w, st₀, t, T', L1, h0, X', hL, e1, e2, ⟨hv, hp1, hz1, hg1, hF⟩, st⟩ := run T hT Xs
    cases hv
    have hS1 : va_S (vm_A X) s.heap T'.heap (locs ++ L1) := by
      obtain ⟨z1, z2⟩ := hF
      rw [h0] at z1 z2
      refine ⟨Nat.le_trans hS.2.2.2.1.1 (by rw [e1]; exact z1), fun q q1 q2 => by rw [e1, z2 q (Nat.lt_of_lt_of_le q1 hS.2.2.2.1.1) q2]; exact hS.2.2.2.1.2.1 q q1 q2, fun q hq => ?_⟩
      rcases List.mem_append.mp hq with h | h
      · exact hS.2.2.2.1.2.2 q h
      · exact hL q h
    have hk := hW0 T'.heap (locs ++ L1) ls ⟨by rw [e1]; exact hp1, by rw [e1]; exact hz1, hg1, hS1, hS.2.2.2.2⟩ hlen hend
    obtain ⟨t2, a1, b1⟩ := hk T' rfl X'
    refine ⟨t2, st t2 ?_, b1⟩
    have es : (r.toList ++ rest).map (vm_v X) = (r.map (vm_v X)).toList ++ rest.map (vm_v X) := by cases r <;> simp
    rw [es] at a1
    exact a1
  have hfix : CallFix p m c (vm_mb M) (vm_ml M) s args vm_TB (vm_my M).cls := ⟨hx, hb, hml, hown, hts⟩
  have mem1 : ∀ {p0 n0 : Nat}, (n0 == 0 && vm_w p0 (.methodLink (vm_my M).cls 0 (vm_my Z))) = true → True := fun _ => trivial
  have hpays : ∀ w ∈ Cond.code (vm_my Z) (vm_mb Z) (vm_ml Z) (vm_mt Z) :: vm_TB, ∀ (a' : Array Value) (U : State), s.WarmedH U.vm → w.before a' U = true := pay_in hts (vm_TBgood hws)
  match xs, hmi with
  | m0 :: xs, hmi =>
  cases hmi
  match i, k, hiv with
  | .invokestatic idx, 1, _ =>
    rcases xs with _ | ⟨pp, _ | ⟨nn, xs⟩⟩ <;> try (simp [vm_ck] at hck; done)
    unfold vm_ck at hck
    dsimp only at hck
    rw [hmn] at hck
    simp only [Bool.and_eq_true, Bool.or_eq_true, beq_iff_eq] at hck
    obtain ⟨rfl, hlk⟩ := hck
    unfold vm_av at hav
    skip
    have hpre : PreS s H (fun a U => a = (av.map (vm_v X)).toArray ∧ vm_T X U U.heap ∧ va_P X.1 vm_cl (vm_ws X h) U.heap ∧ U.heap.size = vm_N0 X + h.1.length ∧ h.1.length ≤ 100000) (av.map (vm_v X)) :=
      ⟨vm_blind, fun U hU hW => ⟨rfl, hTH U hU hW, by rw [hU]; exact hS.1, by rw [hU]; exact hS.2.1, hS.2.2.1⟩⟩
    have hstk : (F0 m pc0 ls ((av.reverse ++ rest).map (vm_v X))).stack = (av.map (vm_v X)).reverse ++ rest.map (vm_v X) := by
      show (av.reverse ++ rest).map (vm_v X) = _
      rw [List.map_append, List.map_reverse]
    rcases hlk with ⟨-, hlk⟩ | ⟨-, hlk⟩
    · exact after (a0 := #[]) (va_runS hfix hK ⟨callB_of n hts (vm_TBgood hws) rfl rfl rfl (hts _ cIni) (hts _ (vm_wT hlk rfl)) cName hroom, hts _ cK⟩ hpre rfl (by simpa using hav) hsize hstk (lv_room hcat) hdg hcells)
    · exact after (a0 := #[]) (va_runSN hfix hK ⟨va_cnB n hts (vm_TBgood hws) rfl rfl rfl (hTT.2.1 _ (vm_wN hlk rfl)) (hts _ cIni) cName hroom, hts _ cK, trivial⟩ hpre rfl (by simpa using hav) hsize hstk (lv_room hcat) hdg hcells)
  | .invokevirtual idx, 0, _ =>
    rcases xs with _ | ⟨pp, _ | ⟨nn, xs⟩⟩ <;> try (simp [vm_ck] at hck; done)
    unfold vm_ck at hck
    dsimp only at hck
    rw [hmn] at hck
    simp only [Bool.and_eq_true, Bool.or_eq_true, beq_iff_eq] at hck
    obtain ⟨rfl, hlk⟩ := hck
    unfold vm_av at hav
    skip
    obtain ⟨o, as, rfl, hn, sh, ci, q, hsh, hk2, hcl, hq⟩ := hav
    have hat := vm_ws_at (X := X) (I := h.2.1) (F := h.2.2) hsh
    obtain ⟨hci50⟩ : ci < 50 ∧ True := ⟨by
      have := (List.getElem?_eq_some_iff.mp hcl).1
      have e12 : vm_cl.length = 12 := rfl
      omega, trivial⟩
    rw [vm_en_o hk2 (by assumption)] at hat
    have hrec := va_recv hTT.1 hS.1 hcl hat
    rw [hq] at hrec
    have had := vm_ad_lt (X := X) hsh hS.2.2.1
    have hpre : PreV s H (vm_my Z).cls (vm_N0 X + o) (fun a U => a = ((Value.ref o :: as).map (vm_v X)).toArray ∧ vm_T X U U.heap ∧ va_P X.1 vm_cl (vm_ws X h) U.heap ∧ U.heap.size = vm_N0 X + h.1.length ∧ h.1.length ≤ 100000) (as.map (vm_v X)) :=
      ⟨vm_blind, hrec, fun U hU hW => ⟨by rw [List.map_cons, ← had]; rfl, hTH U hU hW, by rw [hU]; exact hS.1, by rw [hU]; exact hS.2.1, hS.2.2.1⟩⟩
    have hstk : (F0 m pc0 ls (((Value.ref o :: as).reverse ++ rest).map (vm_v X))).stack = (as.map (vm_v X)).reverse ++ .ref (vm_N0 X + o) :: rest.map (vm_v X) := by
      show ((Value.ref o :: as).reverse ++ rest).map (vm_v X) = _
      rw [List.reverse_cons, List.append_assoc, List.map_append, List.map_reverse, ← had]
      rfl
    rcases hlk with ⟨-, hlk⟩ | ⟨-, hlk⟩
    · exact after (a0 := #[]) (va_runV hfix hK ⟨callB_of n hts (vm_TBgood hws) rfl rfl rfl (hts _ cIni) (hts _ (vm_wT hlk rfl)) cName hroom, hts _ cK.1, hts _ cK.2⟩ hpre rfl (by simpa using hn) hsize hstk (lv_room hcat) hdg hcells)
    · exact after (a0 := #[]) (va_runVN hfix hK ⟨va_cnB n hts (vm_TBgood hws) rfl rfl rfl (hTT.2.1 _ (vm_wN hlk rfl)) (hts _ cIni) cName hroom, hts _ cK.1, hts _ cK.2⟩ hpre rfl (by simpa using hn) hsize hstk (lv_room hcat) hdg hcells)
  | .invokespecial idx, 2, _ =>
    rcases xs with _ | ⟨pp, _ | ⟨nn, xs⟩⟩ <;> try (simp [vm_ck] at hck; done)
    unfold vm_ck at hck
    dsimp only at hck
    rw [hmn] at hck
    simp only [Bool.and_eq_true, Bool.or_eq_true, beq_iff_eq] at hck
    obtain ⟨rfl, -, hlk⟩ := hck
    unfold vm_av at hav
    skip
    obtain ⟨o, as, rfl, hn, sh, ci, q, hsh, hk2, hcl, hq⟩ := hav
    have had := vm_ad_lt (X := X) hsh hS.2.2.1
    obtain ⟨cInst, cInit, cRet⟩ := cK
    have hpre : PreS s H (fun a U => a = ((Value.ref o :: as).map (vm_v X)).toArray ∧ vm_T X U U.heap ∧ va_P X.1 vm_cl (vm_ws X h) U.heap ∧ U.heap.size = vm_N0 X + h.1.length ∧ h.1.length ≤ 100000) (.ref (vm_N0 X + o) :: as.map (vm_v X)) :=
      ⟨vm_blind, fun U hU hW => ⟨by rw [List.map_cons, ← had]; rfl, hTH U hU hW, by rw [hU]; exact hS.1, by rw [hU]; exact hS.2.1, hS.2.2.1⟩⟩
    have hstk : (F0 m pc0 ls (((Value.ref o :: as).reverse ++ rest).map (vm_v X))).stack = (as.map (vm_v X)).reverse ++ .ref (vm_N0 X + o) :: rest.map (vm_v X) := by
      show ((Value.ref o :: as).reverse ++ rest).map (vm_v X) = _
      rw [List.reverse_cons, List.append_assoc, List.map_append, List.map_reverse, ← had]
      rfl
    rw [cRet] at hws cCode
    unfold vm_K at hK
    rw [cRet] at hK
    rcases hlk with ⟨-, hlk⟩ | ⟨-, hlk⟩
    · exact after (a0 := #[]) (va_runI hfix hK ⟨callB_of n hts (vm_TBgood hws) rfl rfl rfl (hts _ cIni) (hts _ (vm_wT hlk rfl)) cName hroom, cInit, hts _ cInst⟩ hpre rfl (by simpa using hn) hsize hstk (lv_room hcat) hdg hcells)
    · exact after (a0 := #[]) (va_runIN hfix hK ⟨va_cnB n hts (vm_TBgood hws) rfl rfl rfl (hTT.2.1 _ (vm_wN hlk rfl)) (hts _ cIni) cName hroom, cInit, hts _ cInst⟩ hpre rfl (by simpa using hn) hsize hstk (lv_room hcat) hdg hcells)
/-- Object's constructor -/
theorem vm_J.obj {l : Launch} {X : vm_Cx} {M : vm_M} (hM : vm_OK M) {pc idx : Nat} {en : vm_E} (hen : vm_get (vm_mc M) pc = some en) (hi : en.2.1 = .invokespecial idx) (hmi : en.2.2.2.1.head? = some 1000) (hr : 1 ≤ (vm_mr M).frames ∧ 20 ≤ (vm_mr M).locals)
    {cs : Nat × Nat} {L : List Value} {o : Nat} {rest : List Value} {h h' : vm_H} {r' : Option Value} (hrest : (rest.map fun v => v.category).sum ≤ 8)
    (hj : vm_J l X M (pc + 3, cs, L, rest) h r' h') : vm_J l X M (pc, cs, L, .ref o :: rest) h r' h' := by
  obtain ⟨epc, hdg, hck⟩ := hM.at hen
  intro p e R s m args below meth c Q hC H locs ls hS hlen hend
  have hW0 := hj p e R s m args below meth c Q hC H locs ls hS hlen hend
  obtain ⟨hx, hb, hml, hown, hts, hnm, hTT, hA, rfl⟩ := id hC
  obtain ⟨pc0, i, len, xs, v⟩ := en
  dsimp only at epc hdg hck hi hmi hS hlen ⊢
  subst epc
  subst hi
  rcases xs with _ | ⟨m0, _ | ⟨pp, _ | ⟨nn, xs⟩⟩⟩ <;> try (simp [vm_ck] at hck; done)
  cases hmi
  unfold vm_ck at hck
  dsimp only at hck
  rw [show vm_mn[1000]? = none from rfl] at hck
  simp only [Bool.and_eq_true, beq_iff_eq] at hck
  obtain ⟨rfl, -, hlk⟩ := hck
  refine W.objInit hx hb hown (hts _ (vm_wT hlk rfl)) (hts _ vm_oi) (hts _ vm_oc) rfl (by show ls.size = _; rw [hml, hS.2.2.2.2.1]; exact hlen) (a := vm_ad X o) (rest := rest.map (vm_v X)) rfl hdg hr.1 ?_ hW0
  have h8 : ((rest.map (vm_v X)).map fun v => v.category).sum ≤ 8 := by
    rw [List.map_map, show ((fun v : Value => v.category) ∘ vm_v X) = fun v => v.category from funext fun v => vm_cat_v v]
    exact hrest
  have := hr.2
  show 2 * 0 + ((rest.map (vm_v X)).map fun v => v.category).sum + 12 ≤ _
  omega
/-- Float.floatToRawIntBits -/
theorem vm_J.raw {l : Launch} {X : vm_Cx} {M : vm_M} (hM : vm_OK M) {pc idx : Nat} {en : vm_E} (hen : vm_get (vm_mc M) pc = some en) (hi : en.2.1 = .invokestatic idx) (hmi : en.2.2.2.1.head? = some 1001) (hr : 1 ≤ (vm_mr M).frames ∧ 23 ≤ (vm_mr M).locals)
    {cs : Nat × Nat} {L : List Value} {x : UInt32} {rest : List Value} {h h' : vm_H} {r' : Option Value} (hrest : (rest.map fun v => v.category).sum ≤ 8)
    (hj : vm_J l X M (pc + 3, cs, L, .int x.toInt32 :: rest) h r' h') : vm_J l X M (pc, cs, L, .float x :: rest) h r' h' := by
  obtain ⟨epc, hdg, hck⟩ := hM.at hen
  intro p e R s m args below meth c Q hC H locs ls hS hlen hend
  have hW0 := hj p e R s m args below meth c Q hC H locs ls hS hlen hend
  obtain ⟨hx, hb, hml, hown, hts, hnm, hTT, hA, rfl⟩ := id hC
  obtain ⟨pc0, i, len, xs, v⟩ := en
  dsimp only at epc hdg hck hi hmi hS hlen ⊢
  subst epc
  subst hi
  rcases xs with _ | ⟨m0, _ | ⟨pp, _ | ⟨nn, xs⟩⟩⟩ <;> try (simp [vm_ck] at hck; done)
  cases hmi
  unfold vm_ck at hck
  dsimp only at hck
  rw [show vm_mn[1001]? = none from rfl] at hck
  simp only [Bool.and_eq_true, beq_iff_eq] at hck
  obtain ⟨rfl, -, hlk⟩ := hck
  refine vn_f2i hx hb (by rw [hml, hS.2.2.2.2.1]; exact hlen.symm) hown (hts _ (vm_wT hlk rfl)) (hts _ vm_fn) (hts _ vm_fs) (hts _ vm_fi) (rest := rest.map (vm_v X)) hr.1 ?_ hdg hW0
  rw [List.map_map, show ((fun v : Value => v.category) ∘ vm_v X) = fun v => v.category from funext fun v => vm_cat_v v]
  have := hr.2
  omega
