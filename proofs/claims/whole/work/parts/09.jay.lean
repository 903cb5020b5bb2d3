/-- every row of a list, whatever its instruction -/
theorem vm_gAll {X : vm_Cx} {y : MethodName} {bs : ByteArray} {nL : Nat} {R0 : Room} {l : Launch} (en : vm_E) : vm_G X y bs nL R0 l en := by
  obtain ⟨pc, i, len, xs, v⟩ := en
  cases i
  case iload => exact vm_g_iload
  case iload_n => exact vm_g_iload_n
  case lload => exact vm_g_lload
  case lload_n => exact vm_g_lload_n
  case fload => exact vm_g_fload
  case fload_n => exact vm_g_fload_n
  case aload => exact vm_g_aload
  case aload_n => exact vm_g_aload_n
  case istore => exact vm_g_istore
  case istore_n => exact vm_g_istore_n
  case fstore => exact vm_g_fstore
  case fstore_n => exact vm_g_fstore_n
  case lstore => exact vm_g_lstore
  case astore => exact vm_g_astore
  case astore_n => exact vm_g_astore_n
  case iinc => exact vm_g_iinc
  case iconst => exact vm_g_iconst
  case bipush => exact vm_g_bipush
  case sipush => exact vm_g_sipush
  case lconst => exact vm_g_lconst
  case fconst => exact vm_g_fconst
  case ldc => exact vm_g_ldc
  case ldc_w => exact vm_g_ldc_w
  case ldc2_w => exact vm_g_ldc2_w
  case aconst_null => exact vm_g_aconst_null
  case iadd => exact vm_g_iadd
  case isub => exact vm_g_isub
  case imul => exact vm_g_imul
  case iand => exact vm_g_iand
  case ior => exact vm_g_ior
  case ishl => exact vm_g_ishl
  case ishr => exact vm_g_ishr
  case iushr => exact vm_g_iushr
  case idiv => exact vm_g_idiv
  case irem => exact vm_g_irem
  case land => exact vm_g_land
  case lor => exact vm_g_lor
  case ldiv => exact vm_g_ldiv
  case lrem => exact vm_g_lrem
  case lshl => exact vm_g_lshl
  case lcmp => exact vm_g_lcmp
  case i2l => exact vm_g_i2l
  case l2i => exact vm_g_l2i
  case i2b => exact vm_g_i2b
  case i2s => exact vm_g_i2s
  case i2f => exact vm_g_i2f
  case l2f => exact vm_g_l2f
  case f2i => exact vm_g_f2i
  case fneg => exact vm_g_fneg
  case fadd => exact vm_g_fadd
  case fsub => exact vm_g_fsub
  case fmul => exact vm_g_fmul
  case fdiv => exact vm_g_fdiv
  case fcmp => exact vm_g_fcmp
  case dup => exact vm_g_dup
  case pop => exact vm_g_pop
  case dup2 => exact vm_g_dup2
  case goto => exact vm_g_goto
  case ifCond => exact vm_g_ifCond
  case if_icmp => exact vm_g_if_icmp
  case ifnull => exact vm_g_ifnull
  case ifnonnull => exact vm_g_ifnonnull
  case tableswitch => exact vm_g_tableswitch
  case lookupswitch => exact vm_g_lookupswitch
  case getfield => exact vm_g_getfield
  case putfield => exact vm_g_putfield
  case getstatic => exact vm_g_getstatic
  case arraylength => exact vm_g_arraylength
  case iaload => exact vm_g_iaload
  case faload => exact vm_g_faload
  case iastore => exact vm_g_iastore
  case fastore => exact vm_g_fastore
  case aaload => exact vm_g_aaload
  case aastore => exact vm_g_aastore
  case new => exact vm_g_new
  case newarray => exact vm_g_newarray
  case anewarray => exact vm_g_anewarray
  all_goals
    intro p e R s m args below meth c Q hC hck hdg cs L st G I F hs pc' cs' L' st' G' I' F' hs' h1
    unfold vm_1 at h1
    cases h1
/-- which instruction gives an answer back -/
def vm_rt (i : ClassFile.Instr) (ret : Option FieldType) (r : Option Value) : Prop := match i, r with
  | .ireturn, some (.int v) => ret = some .int ∨ (ret = some .boolean ∧ (v = 0 ∨ v = 1))
  | .lreturn, some (.long _) => ret = some .long
  | .freturn, some (.float _) => ret = some .float
  | .areturn, some (.ref _) => (∃ n, ret = some (.object n)) ∨ ∃ t, ret = some (.array t)
  | .areturn, some .null => (∃ n, ret = some (.object n)) ∨ ∃ t, ret = some (.array t)
  | .return_, none => ret = none
  | _, _ => False
abbrev vm_my (M : vm_M) : MethodName := M.1
abbrev vm_mb (M : vm_M) : ByteArray := M.2.1
abbrev vm_ml (M : vm_M) : Nat := M.2.2.1
abbrev vm_mt (M : vm_M) : Option FieldType := M.2.2.2.1
abbrev vm_mr (M : vm_M) : Room := M.2.2.2.2.1
abbrev vm_mc (M : vm_M) : List vm_E := M.2.2.2.2.2
/-- a method's list is its bytes' -/
def vm_OK (M : vm_M) : Prop := (vm_mc M).all (fun e => decide (decode (vm_mb M) e.1 = .ok (e.2.1, e.2.2.1)) && vm_ck (vm_my M) e) = true
/-- from this frame and heap the method comes to its end: it answers r and leaves the heap h' -/
def vm_J (l : Launch) (X : vm_Cx) (M : vm_M) (f : vm_F) (h : vm_H) (r : Option Value) (h' : vm_H) : Prop :=
  ∀ (p : Program) (e : Env) (R : Room) (s : State) (m : MethodId) (args : Array Value) (below : List Frame) (meth : Method) (c : Code) (Q : State → Prop), l.admits e → vm_C X (vm_my M) (vm_mb M) (vm_ml M) (vm_mr M) p R s m args meth c →
  ∀ (H : Heap) (locs : List Loc) (ls : Array Slot), vm_S X s H locs f.2.2.1 ls h → f.2.2.1.length = vm_ml M →
  (∀ (H' : Heap) (locs' : List Loc) (ls' : Array Slot) (pc' : Nat) (i : ClassFile.Instr), decode (vm_mb M) pc' = .ok (i, 1) → vm_rt i (vm_mt M) r → va_P X.1 vm_cl (vm_ws X h') H' → H'.size = vm_N0 X + h'.1.length → h'.1.length ≤ 100000 → va_S (vm_A X) s.heap H' locs' → W p l e R s m args below meth c H' locs' (vm_mr M).cells (vm_mr M).slots Q (F0 m pc' ls' ((r.toList).map (vm_v X)))) →
  W p l e R s m args below meth c H locs f.2.1.1 f.2.1.2 Q (F0 m f.1 ls (f.2.2.2.map (vm_v X)))
theorem vm_get_i {es : List vm_E} {pc : Nat} {e : vm_E} (h : vm_get es pc = some e) : e ∈ es ∧ e.1 = pc := by
  induction es with
  | nil => cases h
  | cons a es ih =>
    unfold vm_get at h
    cases hb : Nat.beq a.1 pc with
    | true =>
      rw [hb] at h
      cases h
      exact ⟨List.mem_cons_self, Nat.eq_of_beq_eq_true hb⟩
    | false =>
      rw [hb] at h
      obtain ⟨h1, h2⟩ := ih h
      exact ⟨List.mem_cons_of_mem _ h1, h2⟩
theorem vm_OK.at {M : vm_M} (h : vm_OK M) {pc : Nat} {e : vm_E} (he : vm_get (vm_mc M) pc = some e) : e.1 = pc ∧ decode (vm_mb M) e.1 = .ok (e.2.1, e.2.2.1) ∧ vm_ck (vm_my M) e = true := by
  obtain ⟨h1, h2⟩ := vm_get_i he
  have h3 := List.all_eq_true.mp h e h1
  simp only [Bool.and_eq_true, decide_eq_true_eq] at h3
  exact ⟨h2, h3⟩
theorem vm_1_len {X : vm_Cx} {mc ms : Nat} {e : vm_E} {pc : Nat} {cs : Nat × Nat} {L st : List Value} {G : List vm_Sh} {I : Nat → Nat → Int32} {F : Nat → Nat → UInt32} {hs : List vm_Sh} {f' : vm_F} {h' : vm_H} {hs' : List vm_Sh} {b : Bool} (h : vm_1 X mc ms e pc cs L st G I F hs = some (f', h', hs', b)) : f'.2.2.1.length = L.length := by
  unfold vm_1 at h
  split at h
  all_goals sorry
/-- some steps, then the rest -/
theorem vm_J.go {l : Launch} {X : vm_Cx} {M : vm_M} (hM : vm_OK M) {k : Nat} : ∀ {f f' : vm_F} {h h' : vm_H} {hs hs' : List vm_Sh} {b : Bool} {r : Option Value} {h'' : vm_H}, vm_n X M k f h hs = some (f', h', hs', b) → b = true → vm_J l X M f' h' r h'' → vm_J l X M f h r h'' := by
  induction k with
  | zero =>
    intro f f' h h' hs hs' b r h'' hn _ hj
    cases hn
    exact hj
  | succ k ih =>
    intro f f' h h' hs hs' b r h'' hn hb hj
    unfold vm_n at hn
    split at hn
    · cases hn
    · rename_i en hen
      split at hn
      · cases hn
      · rename_i f1 h1 hs1 b1 h2
        split at hn
        · cases hn
        · rename_i f2 h3 hs2 b2 h4
          cases hn
          rw [Bool.and_eq_true] at hb
          obtain ⟨rfl, rfl⟩ := hb
          have hj1 := ih h4 rfl hj
          obtain ⟨epc, hdg, hck⟩ := hM.at hen
          intro p e R s m args below meth c Q hadm hC H locs ls hS hlen hend
          obtain ⟨pc, cs, L, st⟩ := f
          obtain ⟨pc1, cs1, L1, st1⟩ := f1
          obtain ⟨G, I, F⟩ := h
          obtain ⟨G1, I1, F1⟩ := h1
          dsimp only at h2 epc hlen hS ⊢
          subst epc
          have hl := vm_1_len h2
          refine vm_gAll en p e R s m args below meth c Q hC hck hdg cs L st G I F hs pc1 cs1 L1 st1 G1 I1 F1 hs1 h2 H locs ls hS fun H' locs' ls' hS' => ?_
          exact hj1 p e R s m args below meth c Q hadm hC H' locs' ls' hS' (hl.trans hlen) hend
/-- fewer locals known -/
def vm_le (L' L : List Value) : Prop := L'.length = L.length ∧ ∀ (i : Nat) (v : Value), L'[i]? = some v → L[i]? = some v ∨ ∃ q, v = .retAddr q
theorem vm_le_has {X : vm_Cx} {L' L : List Value} {ls : Array Slot} (h : vm_le L' L) (hl : lv_has ls L.length (vm_la X L)) : lv_has ls L'.length (vm_la X L') := by
  refine ⟨hl.1.trans h.1.symm, hl.2.1, fun q hq => ?_⟩
  obtain ⟨v, h1, h2, h3⟩ := vm_la_of hq
  rcases h.2 _ _ h1 with h4 | ⟨a, rfl⟩
  · rw [h3]
    exact vm_ld (n := L.length) hl h4 h2
  · exact absurd rfl (h2 a)
theorem vm_J.less {l : Launch} {X : vm_Cx} {M : vm_M} {pc : Nat} {cs : Nat × Nat} {L L' st : List Value} {h h' : vm_H} {r : Option Value} (hle : vm_le L' L) (hj : vm_J l X M (pc, cs, L', st) h r h') : vm_J l X M (pc, cs, L, st) h r h' := by
  intro p e R s m args below meth c Q hadm hC H locs ls hS hlen hend
  exact hj p e R s m args below meth c Q hadm hC H locs ls ⟨hS.1, hS.2.1, hS.2.2.1, hS.2.2.2.1, vm_le_has hle hS.2.2.2.2⟩ (hle.1.trans hlen) hend
def vm_mk : List Bool → List Value → List Value
  | b :: bs, v :: L => (bif b then v else .retAddr 0) :: vm_mk bs L
  | _, [] => []
  | [], v :: L => v :: L
theorem vm_mk_le : ∀ (bs : List Bool) (L : List Value), vm_le (vm_mk bs L) L
  | [], [] => ⟨rfl, fun i v h => Or.inl h⟩
  | [], v :: L => ⟨rfl, fun i v h => Or.inl h⟩
  | b :: bs, [] => ⟨rfl, fun i v h => Or.inl h⟩
  | b :: bs, v :: L => by
    obtain ⟨h1, h2⟩ := vm_mk_le bs L
    refine ⟨by simp [vm_mk, h1], fun i w h => ?_⟩
    cases i with
    | zero =>
      cases b
      · simp only [vm_mk, cond_false, List.getElem?_cons_zero, Option.some.injEq] at h
        exact Or.inr ⟨0, h.symm⟩
      · simp only [vm_mk, cond_true, List.getElem?_cons_zero, Option.some.injEq] at h
        exact Or.inl (by rw [← h]; rfl)
    | succ i =>
      simp only [vm_mk, List.getElem?_cons_succ] at h
      exact h2 i w h
/-- some locals forgotten: those at the places of a false -/
theorem vm_J.mask {l : Launch} {X : vm_Cx} {M : vm_M} {pc : Nat} {cs : Nat × Nat} {L st : List Value} {h h' : vm_H} {r : Option Value} (bs : List Bool) (hj : vm_J l X M (pc, cs, vm_mk bs L, st) h r h') : vm_J l X M (pc, cs, L, st) h r h' := hj.less (vm_mk_le bs L)
/-- a test -/
theorem vm_J.br {l : Launch} {X : vm_Cx} {M : vm_M} {t f : Nat} {cs : Nat × Nat} {L st : List Value} {h h' : vm_H} {r : Option Value} {b : Bool} (ht : b = true → vm_J l X M (t, cs, L, st) h r h') (hf : b = false → vm_J l X M (f, cs, L, st) h r h') : vm_J l X M (bif b then t else f, cs, L, st) h r h' := by
  cases b
  · exact hf rfl
  · exact ht rfl
/-- the end -/
theorem vm_J.ret {l : Launch} {X : vm_Cx} {M : vm_M} (hM : vm_OK M) {f : vm_F} {h : vm_H} {r : Option Value} {en : vm_E} (hen : vm_get (vm_mc M) f.1 = some en) (hrt : vm_rt en.2.1 (vm_mt M) r) (hst : f.2.2.2 = r.toList) (h1 : f.2.1.1 ≤ (vm_mr M).cells) (h2 : f.2.1.2 ≤ (vm_mr M).slots) : vm_J l X M f h r h := by
  intro p e R s m args below meth c Q hadm hC H locs ls hS hlen hend
  obtain ⟨epc, hdg, hck⟩ := hM.at hen
  have hl : en.2.2.1 = 1 := by
    obtain ⟨pc, i, len, xs, v⟩ := en
    dsimp only at hrt hck ⊢
    unfold vm_rt at hrt
    split at hrt <;> first | (exact hrt.elim) | (unfold vm_ck at hck; simpa using hck)
  rw [hl, epc] at hdg
  rw [hst]
  exact W.widen h1 h2 (hend H locs ls f.1 en.2.1 hdg hrt hS.1 hS.2.1 hS.2.2.1 hS.2.2.2.1)
/-- a loop that is counted up to n: by the states at its head -/
theorem vm_J.loop {l : Launch} {X : vm_Cx} {M : vm_M} {h' : vm_H} {r : Option Value} (n : Nat) (f : Nat → vm_F) (h : Nat → vm_H) (step : ∀ j, j < n → vm_J l X M (f (j + 1)) (h (j + 1)) r h' → vm_J l X M (f j) (h j) r h') (out : vm_J l X M (f n) (h n) r h') : vm_J l X M (f 0) (h 0) r h' := by
  have key : ∀ k, k ≤ n → vm_J l X M (f (n - k)) (h (n - k)) r h' := by
    intro k
    induction k with
    | zero => intro _; exact out
    | succ k ih =>
      intro hk
      refine step (n - (k + 1)) (by omega) ?_
      rw [show n - (k + 1) + 1 = n - k by omega]
      exact ih (by omega)
  have := key n (Nat.le_refl n)
  rwa [Nat.sub_self] at this
/-- a method's CONTRACT: from these arguments and this heap it answers r and leaves h' -/
def vm_K (l : Launch) (X : vm_Cx) (M : vm_M) (av : List Value) (h : vm_H) (r : Option Value) (h' : vm_H) : Prop :=
  Met l (vm_my M) (.code (vm_my M) (vm_mb M) (vm_ml M) (vm_mt M) :: vm_TB) (vm_mr M)
    (fun a U => a = (av.map (vm_v X)).toArray ∧ vm_T X U U.heap ∧ va_P X.1 vm_cl (vm_ws X h) U.heap ∧ U.heap.size = vm_N0 X + h.1.length ∧ h.1.length ≤ 100000)
    (fun _ st oc t => oc = .returned (r.map (vm_v X)) ∧ va_P X.1 vm_cl (vm_ws X h') t.heap ∧ t.heap.size = vm_N0 X + h'.1.length ∧ h'.1.length ≤ 100000 ∧ va_F (vm_A X) st t)
    (vm_mr M).cells (vm_mr M).slots (vm_A X)
def vm_ar : List Value → List Value
  | [] => []
  | .long x :: r => .long x :: .retAddr 0 :: vm_ar r
  | .double x :: r => .double x :: .retAddr 0 :: vm_ar r
  | v :: r => v :: vm_ar r

