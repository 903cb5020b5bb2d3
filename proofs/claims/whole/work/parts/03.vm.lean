/-! THE SMALL MACHINE: a frame's state and a heap by handles, stepped by a function. A handle below 100000 is a cell of ours (the address: the base and the handle); from 100000 on a static row. -/
abbrev vm_Sh : Type := Nat × Nat × List Value
abbrev vm_H : Type := List vm_Sh × (Nat → Nat → Int32) × (Nat → Nat → UInt32)
abbrev vm_F : Type := Nat × (Nat × Nat) × List Value × List Value
abbrev vm_E : Type := Nat × ClassFile.Instr × Nat × List Nat × Value
abbrev vm_O : Type := Option (vm_F × vm_H × List vm_Sh × Bool)
/-- the tables' numbers of the classes, of the array classes, the base, the statics' addresses, the script's length and ints -/
abbrev vm_Cx : Type := va_G × (Nat → ClassId) × Nat × (Nat → Nat) × Nat × (Nat → Int32)
abbrev vm_cA (X : vm_Cx) : Nat → ClassId := X.2.1
abbrev vm_N0 (X : vm_Cx) : Nat := X.2.2.1
abbrev vm_sa (X : vm_Cx) : Nat → Nat := X.2.2.2.1
abbrev vm_sl (X : vm_Cx) : Nat := X.2.2.2.2.1
abbrev vm_sx (X : vm_Cx) : Nat → Int32 := X.2.2.2.2.2
abbrev vm_A (X : vm_Cx) : Nat → Prop := fun q => vm_N0 X ≤ q
def vm_ad (X : vm_Cx) (k : Nat) : Nat := if k < 100000 then vm_N0 X + k else vm_sa X (k - 100000)
def vm_v (X : vm_Cx) : Value → Value
  | .ref k => .ref (vm_ad X k)
  | v => v
def vm_fv (X : vm_Cx) (f : Nat → Int32) (i : Nat) : Value → Value
  | .int _ => .int (f i)
  | v => vm_v X v
def vm_re (X : vm_Cx) (rs : List Value) (j : Nat) : Option Nat := match rs[j]? with
  | some (.ref k) => some (vm_ad X k)
  | _ => none
def vm_en (X : vm_Cx) (sh : vm_Sh) (f : Nat → Int32) (g : Nat → UInt32) : va_E := match sh.1 with
  | 0 => .inl (vm_cA X 0, sh.2.1, .inl f)
  | 1 => .inl (vm_cA X 1, sh.2.1, .inr (.inr (.inl g)))
  | c + 2 => if c < 50 then .inr (c, sh.2.2.mapIdx (vm_fv X f)) else .inl (vm_cA X (c - 48), sh.2.1, .inr (.inr (.inr (.inr (vm_re X sh.2.2)))))
def vm_ws (X : vm_Cx) (h : vm_H) : va_W := h.1.mapIdx fun k sh => (vm_N0 X + k, vm_en X sh (h.2.1 k) (h.2.2 k))
def vm_tys (X : vm_Cx) : List (ClassId × FieldType) := [(vm_cA X 0, .int), (vm_cA X 1, .float), (vm_cA X 2, .object "DitherDesk$Picture"), (vm_cA X 3, .object "DitherDesk$Palette"), (vm_cA X 4, .object "DitherDesk$Box"), (vm_cA X 5, .object "DitherDesk$Tape")]
/-- locals: .retAddr marks what is not known -/
def vm_la (X : vm_Cx) (L : List Value) : List (Nat × Value) := (List.range L.length).filterMap fun i => match (L[i]? : Option Value) with
  | none => none
  | some (.retAddr _) => none
  | some v => some (i, vm_v X v)
def vm_cr (L : List Value) (i : Nat) : List Value := match i with
  | 0 => L
  | k + 1 => match L[k]? with
    | some (.long _) => L.set k (.retAddr 0)
    | some (.double _) => L.set k (.retAddr 0)
    | _ => L
def vm_s1 (L : List Value) (i : Nat) (v : Value) : List Value := (vm_cr L i).set i v
def vm_s2 (L : List Value) (i : Nat) (v : Value) : List Value := ((vm_cr L i).set i v).set (i + 1) (.retAddr 0)
def vm_up {α : Type} (I : Nat → Nat → α) (o k : Nat) (x : α) : Nat → Nat → α := fun a b => if a = o then (if b = k then x else I a b) else I a b
def vm_zr {α : Type} (z : Nat → α) (I : Nat → Nat → α) (o : Nat) : Nat → Nat → α := fun a b => if a = o then z b else I a b
def vm_in (j : Int32) (n : Nat) : Bool := decide (¬ (j < 0 ∨ n ≤ j.toNatClampNeg))
def vm_ic (c : ClassFile.Cond) (x y : Int32) : Bool := match c with
  | .eq => decide (x = y)
  | .ne => decide (¬ x = y)
  | .lt => decide (x < y)
  | .ge => decide (y ≤ x)
  | .gt => decide (y < x)
  | .le => decide (x ≤ y)
def vm_tw (lo : Int) (ts : List Nat) (d : Nat) (x : Int32) : Nat := if x.toInt < lo then d else match ts[(x.toInt - lo).toNat]? with
  | some t => t
  | none => d
def vm_lw (ks : List (Int × Int)) (ts : List Nat) (d : Nat) (x : Int) : Nat := match ks, ts with
  | k :: ks, t :: ts => if x = k.1 then t else vm_lw ks ts d x
  | _, _ => d
def vm_n3 (r : UInt32) : Bool := decide (r &&& 0x7fffffff ≤ 0x7f800000)
def vm_sN (i : Nat) : Nat := match vm_stat[i]? with
  | some q => q.2.2.length
  | none => 0
def vm_sV (i j : Nat) : Int32 := match vm_stat[i]? with
  | some q => q.2.2.getD j 0
  | none => 0
def vm_k1 {β : Type} (o : Option Value) (k : Int32 → Option β) : Option β := match o with
  | some (.int x) => k x
  | _ => none
def vm_kl {β : Type} (o : Option Value) (k : Int64 → Option β) : Option β := match o with
  | some (.long x) => k x
  | _ => none
def vm_kf {β : Type} (o : Option Value) (k : UInt32 → Option β) : Option β := match o with
  | some (.float x) => k x
  | _ => none
def vm_ka {β : Type} (o : Option Value) (k : Value → Option β) : Option β := match o with
  | some (.ref a) => k (.ref a)
  | some .null => k .null
  | _ => none
def vm_i1 {β : Type} (st : List Value) (k : Int32 → List Value → Option β) : Option β := match st with
  | .int x :: r => k x r
  | _ => none
def vm_i2 {β : Type} (st : List Value) (k : Int32 → Int32 → List Value → Option β) : Option β := match st with
  | .int y :: .int x :: r => k x y r
  | _ => none
def vm_l1 {β : Type} (st : List Value) (k : Int64 → List Value → Option β) : Option β := match st with
  | .long x :: r => k x r
  | _ => none
def vm_l2 {β : Type} (st : List Value) (k : Int64 → Int64 → List Value → Option β) : Option β := match st with
  | .long y :: .long x :: r => k x y r
  | _ => none
def vm_f1 {β : Type} (st : List Value) (k : UInt32 → List Value → Option β) : Option β := match st with
  | .float x :: r => k x r
  | _ => none
def vm_f2 {β : Type} (st : List Value) (k : UInt32 → UInt32 → List Value → Option β) : Option β := match st with
  | .float y :: .float x :: r => k x y r
  | _ => none
def vm_if {β : Type} (b : Bool) (k : Option β) : Option β := match b with
  | true => k
  | false => none
def vm_v1 (v : Value) : Bool := match v with
  | .long _ => false
  | .double _ => false
  | .retAddr _ => false
  | _ => true
def vm_hs {β : Type} (hs : List vm_Sh) (k : vm_Sh → List vm_Sh → Option β) : Option β := match hs with
  | sh :: r => k sh r
  | [] => none
def vm_no {β : Type} (xs : List Nat) (k : Nat → List Nat → Option β) : Option β := match xs with
  | x :: r => k x r
  | [] => none
def vm_r1 {β : Type} (st : List Value) (k : Nat → List Value → Option β) : Option β := match st with
  | .ref a :: r => k a r
  | _ => none
def vm_isG (G : List vm_Sh) (o : Nat) (sh : vm_Sh) : Bool := decide (G[o]? = some sh)
/-- one instruction that is no call and no return -/
def vm_1 (X : vm_Cx) (mc ms : Nat) (e : vm_E) (pc : Nat) (cs : Nat × Nat) (L st : List Value) (G : List vm_Sh) (I : Nat → Nat → Int32) (F : Nat → Nat → UInt32) (hs : List vm_Sh) : vm_O :=
  match e.2.1 with
  | .iload i => vm_k1 L[i]? fun x => some ((pc + 2, cs, L, .int x :: st), (G, I, F), hs, true)
  | .iload_n i => vm_k1 L[i.val]? fun x => some ((pc + 1, cs, L, .int x :: st), (G, I, F), hs, true)
  | .lload i => vm_kl L[i]? fun x => some ((pc + 2, cs, L, .long x :: st), (G, I, F), hs, true)
  | .lload_n i => vm_kl L[i.val]? fun x => some ((pc + 1, cs, L, .long x :: st), (G, I, F), hs, true)
  | .fload i => vm_kf L[i]? fun x => some ((pc + 2, cs, L, .float x :: st), (G, I, F), hs, true)
  | .fload_n i => vm_kf L[i.val]? fun x => some ((pc + 1, cs, L, .float x :: st), (G, I, F), hs, true)
  | .aload i => vm_ka L[i]? fun x => some ((pc + 2, cs, L, x :: st), (G, I, F), hs, true)
  | .aload_n i => vm_ka L[i.val]? fun x => some ((pc + 1, cs, L, x :: st), (G, I, F), hs, true)
  | .istore i => vm_i1 st fun x r => vm_if (Nat.blt i L.length) (some ((pc + 2, cs, vm_s1 L i (.int x), r), (G, I, F), hs, true))
  | .istore_n i => vm_i1 st fun x r => vm_if (Nat.blt i.val L.length) (some ((pc + 1, cs, vm_s1 L i.val (.int x), r), (G, I, F), hs, true))
  | .lstore i => vm_l1 st fun x r => vm_if (Nat.blt (i + 1) L.length) (some ((pc + 2, cs, vm_s2 L i (.long x), r), (G, I, F), hs, true))
  | .fstore i => vm_f1 st fun x r => vm_if (Nat.blt i L.length) (some ((pc + 2, cs, vm_s1 L i (.float x), r), (G, I, F), hs, true))
  | .fstore_n i => vm_f1 st fun x r => vm_if (Nat.blt i.val L.length) (some ((pc + 1, cs, vm_s1 L i.val (.float x), r), (G, I, F), hs, true))
  | .astore i => vm_ka st.head? fun x => vm_if (Nat.blt i L.length) (some ((pc + 2, cs, vm_s1 L i x, st.tail), (G, I, F), hs, true))
  | .astore_n i => vm_ka st.head? fun x => vm_if (Nat.blt i.val L.length) (some ((pc + 1, cs, vm_s1 L i.val x, st.tail), (G, I, F), hs, true))
  | .iinc i _ => vm_k1 L[i]? fun x => vm_k1 (some e.2.2.2.2) fun c => vm_if (Nat.blt i L.length) (some ((pc + 3, cs, vm_s1 L i (.int (x + c)), st), (G, I, F), hs, true))
  | .iconst _ => some ((pc + 1, cs, L, e.2.2.2.2 :: st), (G, I, F), hs, true)
  | .bipush _ => some ((pc + 2, cs, L, e.2.2.2.2 :: st), (G, I, F), hs, true)
  | .sipush _ => some ((pc + 3, cs, L, e.2.2.2.2 :: st), (G, I, F), hs, true)
  | .ldc _ => some ((pc + 2, cs, L, e.2.2.2.2 :: st), (G, I, F), hs, true)
  | .ldc_w _ => some ((pc + 3, cs, L, e.2.2.2.2 :: st), (G, I, F), hs, true)
  | .ldc2_w _ => some ((pc + 3, cs, L, e.2.2.2.2 :: st), (G, I, F), hs, true)
  | .fconst _ => some ((pc + 1, cs, L, e.2.2.2.2 :: st), (G, I, F), hs, true)
  | .lconst _ => some ((pc + 1, cs, L, e.2.2.2.2 :: st), (G, I, F), hs, true)
  | .aconst_null => some ((pc + 1, cs, L, .null :: st), (G, I, F), hs, true)
  | .iadd => vm_i2 st fun x y r => some ((pc + 1, cs, L, .int (x + y) :: r), (G, I, F), hs, true)
  | .isub => vm_i2 st fun x y r => some ((pc + 1, cs, L, .int (x - y) :: r), (G, I, F), hs, true)
  | .imul => vm_i2 st fun x y r => some ((pc + 1, cs, L, .int (x * y) :: r), (G, I, F), hs, true)
  | .iand => vm_i2 st fun x y r => some ((pc + 1, cs, L, .int (x &&& y) :: r), (G, I, F), hs, true)
  | .ior => vm_i2 st fun x y r => some ((pc + 1, cs, L, .int (x ||| y) :: r), (G, I, F), hs, true)
  | .ishl => vm_i2 st fun x y r => some ((pc + 1, cs, L, .int (x <<< (y &&& 31)) :: r), (G, I, F), hs, true)
  | .ishr => vm_i2 st fun x y r => some ((pc + 1, cs, L, .int (x >>> (y &&& 31)) :: r), (G, I, F), hs, true)
  | .iushr => vm_i2 st fun x y r => some ((pc + 1, cs, L, .int (x.toUInt32 >>> (y.toUInt32 &&& Int32.toUInt32 31)).toInt32 :: r), (G, I, F), hs, true)
  | .idiv => vm_i2 st fun x y r => some ((pc + 1, cs, L, .int (x / y) :: r), (G, I, F), hs, decide (¬ y = 0))
  | .irem => vm_i2 st fun x y r => some ((pc + 1, cs, L, .int (x - x / y * y) :: r), (G, I, F), hs, decide (¬ y = 0))
  | .land => vm_l2 st fun x y r => some ((pc + 1, cs, L, .long (x &&& y) :: r), (G, I, F), hs, true)
  | .lor => vm_l2 st fun x y r => some ((pc + 1, cs, L, .long (x ||| y) :: r), (G, I, F), hs, true)
  | .ldiv => vm_l2 st fun x y r => some ((pc + 1, cs, L, .long (x / y) :: r), (G, I, F), hs, decide (¬ y = 0))
  | .lrem => vm_l2 st fun x y r => some ((pc + 1, cs, L, .long (x - x / y * y) :: r), (G, I, F), hs, decide (¬ y = 0))
  | .lshl => vm_i1 st fun y r => vm_l1 r fun x r => some ((pc + 1, cs, L, .long (x <<< (y.toInt64 &&& 63)) :: r), (G, I, F), hs, true)
  | .lcmp => vm_l2 st fun x y r => some ((pc + 1, cs, L, .int (lg_cmp x y) :: r), (G, I, F), hs, true)
  | .i2l => vm_i1 st fun x r => some ((pc + 1, cs, L, .long x.toInt64 :: r), (G, I, F), hs, true)
  | .l2i => vm_l1 st fun x r => some ((pc + 1, cs, L, .int x.toInt32 :: r), (G, I, F), hs, true)
  | .i2b => vm_i1 st fun x r => some ((pc + 1, cs, L, .int x.toInt8.toInt32 :: r), (G, I, F), hs, true)
  | .i2s => vm_i1 st fun x r => some ((pc + 1, cs, L, .int x.toInt16.toInt32 :: r), (G, I, F), hs, true)
  | .i2f => vm_i1 st fun x r => some ((pc + 1, cs, L, .float (FP.i2f x) :: r), (G, I, F), hs, true)
  | .l2f => vm_l1 st fun x r => some ((pc + 1, cs, L, .float (FP.l2f x) :: r), (G, I, F), hs, true)
  | .f2i => vm_f1 st fun x r => some ((pc + 1, cs, L, .int (FP.f2i x) :: r), (G, I, F), hs, true)
  | .fneg => vm_f1 st fun x r => some ((pc + 1, cs, L, .float (FP.fneg x) :: r), (G, I, F), hs, true)
  | .fadd => vm_f2 st fun x y r => some ((pc + 1, cs, L, .float (FP.fadd x y) :: r), (G, I, F), hs, vm_n3 (FP.fadd x y))
  | .fsub => vm_f2 st fun x y r => some ((pc + 1, cs, L, .float (FP.fsub x y) :: r), (G, I, F), hs, vm_n3 (FP.fsub x y))
  | .fmul => vm_f2 st fun x y r => some ((pc + 1, cs, L, .float (FP.fmul x y) :: r), (G, I, F), hs, vm_n3 (FP.fmul x y))
  | .fdiv => vm_f2 st fun x y r => some ((pc + 1, cs, L, .float (FP.fdiv x y) :: r), (G, I, F), hs, vm_n3 (FP.fdiv x y))
  | .fcmp op => vm_f2 st fun x y r => some ((pc + 1, cs, L, .int (Op.cmpValue (FP.fcmp x y) op) :: r), (G, I, F), hs, true)
  | .dup => match st with
    | v :: r => vm_if (vm_v1 v) (some ((pc + 1, cs, L, v :: v :: r), (G, I, F), hs, true))
    | _ => none
  | .dup2 => match st with
    | v :: w :: r => vm_if (vm_v1 v && vm_v1 w) (some ((pc + 1, cs, L, v :: w :: v :: w :: r), (G, I, F), hs, true))
    | _ => none
  | .pop => match st with
    | v :: r => vm_if (vm_v1 v) (some ((pc + 1, cs, L, r), (G, I, F), hs, true))
    | _ => none
  | .goto _ => vm_no e.2.2.2.1 fun t _ => some ((t, cs, L, st), (G, I, F), hs, true)
  | .ifCond c _ => vm_no e.2.2.2.1 fun t _ => vm_i1 st fun x r => some ((bif vm_ic c x 0 then t else pc + 3, cs, L, r), (G, I, F), hs, true)
  | .if_icmp c _ => vm_no e.2.2.2.1 fun t _ => vm_i2 st fun x y r => some ((bif vm_ic c x y then t else pc + 3, cs, L, r), (G, I, F), hs, true)
  | .ifnull _ => vm_no e.2.2.2.1 fun t _ => match st with
    | .null :: r => some ((t, cs, L, r), (G, I, F), hs, true)
    | .ref _ :: r => some ((pc + 3, cs, L, r), (G, I, F), hs, true)
    | _ => none
  | .ifnonnull _ => vm_no e.2.2.2.1 fun t _ => match st with
    | .null :: r => some ((pc + 3, cs, L, r), (G, I, F), hs, true)
    | .ref _ :: r => some ((t, cs, L, r), (G, I, F), hs, true)
    | _ => none
  | .tableswitch _ lo _ _ => vm_no e.2.2.2.1 fun d ts => vm_i1 st fun x r => some ((vm_tw lo ts d x, cs, L, r), (G, I, F), hs, true)
  | .lookupswitch _ ps => vm_no e.2.2.2.1 fun d ts => vm_i1 st fun x r => some ((vm_lw ps.toList ts d x.toInt, cs, L, r), (G, I, F), hs, true)
  | .getfield _ => vm_no e.2.2.2.1 fun ci xs => vm_no xs fun k _ => vm_r1 st fun o r => vm_hs hs fun sh hs => match sh.2.2[k]? with
    | some (.int _) => some ((pc + 3, cs, L, .int (I o k) :: r), (G, I, F), hs, vm_isG G o sh && Nat.beq sh.1 (ci + 2))
    | some (.ref a) => some ((pc + 3, cs, L, .ref a :: r), (G, I, F), hs, vm_isG G o sh && Nat.beq sh.1 (ci + 2))
    | some .null => some ((pc + 3, cs, L, .null :: r), (G, I, F), hs, vm_isG G o sh && Nat.beq sh.1 (ci + 2))
    | _ => none
  | .putfield _ => vm_no e.2.2.2.1 fun ci xs => vm_no xs fun k _ => match st with
    | v :: .ref o :: r => vm_hs hs fun sh hs => match sh.2.2[k]?, v with
      | some (.int _), .int x => some ((pc + 3, cs, L, r), (G, vm_up I o k x, F), hs, vm_isG G o sh && Nat.beq sh.1 (ci + 2) && (match vm_ty ci k with
        | .int => true
        | .boolean => decide (x = 0) || decide (x = 1)
        | _ => false))
      | some .null, .ref a => some ((pc + 3, cs, L, r), (G.set o (sh.1, sh.2.1, sh.2.2.set k (.ref a)), I, F), hs, vm_isG G o sh && Nat.beq sh.1 (ci + 2) && (match vm_ty ci k with
        | .array _ => true
        | .object _ => true
        | _ => false))
      | _, _ => none
    | _ => none
  | .getstatic _ => some ((pc + 3, cs, L, e.2.2.2.2 :: st), (G, I, F), hs, true)
  | .arraylength => vm_r1 st fun a r => vm_hs hs fun sh hs => match sh.1 with
    | 60 => some ((pc + 1, cs, L, .int (Int32.ofNat (vm_sN sh.2.1)) :: r), (G, I, F), hs, Nat.beq a (100000 + sh.2.1) && Nat.blt sh.2.1 18)
    | 61 => some ((pc + 1, cs, L, .int (Int32.ofNat (vm_sl X)) :: r), (G, I, F), hs, Nat.beq a 100018)
    | 0 => some ((pc + 1, cs, L, .int (Int32.ofNat sh.2.1) :: r), (G, I, F), hs, vm_isG G a sh)
    | 1 => some ((pc + 1, cs, L, .int (Int32.ofNat sh.2.1) :: r), (G, I, F), hs, vm_isG G a sh)
    | c + 2 => some ((pc + 1, cs, L, .int (Int32.ofNat sh.2.1) :: r), (G, I, F), hs, vm_isG G a sh && (Nat.ble 50 c && Nat.blt c 54))
  | .iaload => vm_i1 st fun j r => vm_r1 r fun a r => vm_hs hs fun sh hs => match sh.1 with
    | 0 => some ((pc + 1, cs, L, .int (I a j.toNatClampNeg) :: r), (G, I, F), hs, vm_isG G a sh && vm_in j sh.2.1)
    | 60 => some ((pc + 1, cs, L, .int (vm_sV sh.2.1 j.toNatClampNeg) :: r), (G, I, F), hs, Nat.beq a (100000 + sh.2.1) && Nat.blt sh.2.1 18 && vm_in j (vm_sN sh.2.1))
    | 61 => some ((pc + 1, cs, L, .int (vm_sx X j.toNatClampNeg) :: r), (G, I, F), hs, Nat.beq a 100018 && vm_in j (vm_sl X))
    | _ => none
  | .iastore => vm_i2 st fun j x r => vm_r1 r fun a r => vm_hs hs fun sh hs => match sh.1 with
    | 0 => some ((pc + 1, cs, L, r), (G, vm_up I a j.toNatClampNeg x, F), hs, vm_isG G a sh && vm_in j sh.2.1)
    | _ => none
  | .faload => vm_i1 st fun j r => vm_r1 r fun a r => vm_hs hs fun sh hs => match sh.1 with
    | 1 => some ((pc + 1, cs, L, .float (F a j.toNatClampNeg) :: r), (G, I, F), hs, vm_isG G a sh && vm_in j sh.2.1)
    | _ => none
  | .fastore => vm_f1 st fun x r => vm_i1 r fun j r => vm_r1 r fun a r => vm_hs hs fun sh hs => match sh.1 with
    | 1 => some ((pc + 1, cs, L, r), (G, I, vm_up F a j.toNatClampNeg x), hs, vm_isG G a sh && vm_in j sh.2.1)
    | _ => none
  | .aaload => vm_i1 st fun j r => vm_r1 r fun a r => vm_hs hs fun sh hs => vm_ka sh.2.2[j.toNatClampNeg]? fun v => match sh.1 with
    | c + 2 => some ((pc + 1, cs, L, v :: r), (G, I, F), hs, vm_isG G a sh && vm_in j sh.2.1 && (Nat.ble 50 c && Nat.blt c 54))
    | _ => none
  | .aastore => vm_r1 st fun v r => vm_i1 r fun j r => vm_r1 r fun a r => vm_hs hs fun sh hs => vm_hs hs fun sv hs => match sh.1, sv.1 with
    | c + 2, d + 2 => some ((pc + 1, cs, L, r), (G.set a (sh.1, sh.2.1, sh.2.2.set j.toNatClampNeg (.ref v)), I, F), hs, vm_isG G a sh && vm_isG G v sv && vm_in j sh.2.1 && Nat.beq sh.2.1 sh.2.2.length && (match c, d with
      | 50, 3 => true
      | 51, 2 => true
      | 52, 0 => true
      | 53, 8 => true
      | _, _ => false))
    | _, _ => none
  | .new _ => vm_no e.2.2.2.1 fun ci _ => some ((pc + 3, (cs.1 + 1, cs.2 + (vm_df ci).length), L, .ref G.length :: st), (G ++ [(ci + 2, (vm_df ci).length, vm_df ci)], vm_zr (fun _ => 0) I G.length, F), hs, Nat.blt G.length 99999 && Nat.ble (cs.1 + 1) mc && Nat.ble (cs.2 + (vm_df ci).length) ms)
  | .newarray ty => vm_i1 st fun n r => match ty with
    | .int => some ((pc + 2, (cs.1 + 1, cs.2 + n.toNatClampNeg), L, .ref G.length :: r), (G ++ [(0, n.toNatClampNeg, [])], vm_zr (fun _ => 0) I G.length, F), hs, decide (¬ n < 0) && Nat.ble n.toNatClampNeg 10000 && Nat.blt G.length 99999 && Nat.ble (cs.1 + 1) mc && Nat.ble (cs.2 + n.toNatClampNeg) ms)
    | .float => some ((pc + 2, (cs.1 + 1, cs.2 + n.toNatClampNeg), L, .ref G.length :: r), (G ++ [(1, n.toNatClampNeg, [])], I, vm_zr (fun _ => 0) F G.length), hs, decide (¬ n < 0) && Nat.ble n.toNatClampNeg 10000 && Nat.blt G.length 99999 && Nat.ble (cs.1 + 1) mc && Nat.ble (cs.2 + n.toNatClampNeg) ms)
    | _ => none
  | .anewarray _ => vm_no e.2.2.2.1 fun ci _ => vm_i1 st fun n r => match ci with
    | 3 => some ((pc + 3, (cs.1 + 1, cs.2 + n.toNatClampNeg), L, .ref G.length :: r), (G ++ [(52, n.toNatClampNeg, List.replicate n.toNatClampNeg .null)], I, F), hs, decide (¬ n < 0) && Nat.ble n.toNatClampNeg 10000 && Nat.blt G.length 99999 && Nat.ble (cs.1 + 1) mc && Nat.ble (cs.2 + n.toNatClampNeg) ms)
    | 2 => some ((pc + 3, (cs.1 + 1, cs.2 + n.toNatClampNeg), L, .ref G.length :: r), (G ++ [(53, n.toNatClampNeg, List.replicate n.toNatClampNeg .null)], I, F), hs, decide (¬ n < 0) && Nat.ble n.toNatClampNeg 10000 && Nat.blt G.length 99999 && Nat.ble (cs.1 + 1) mc && Nat.ble (cs.2 + n.toNatClampNeg) ms)
    | 0 => some ((pc + 3, (cs.1 + 1, cs.2 + n.toNatClampNeg), L, .ref G.length :: r), (G ++ [(54, n.toNatClampNeg, List.replicate n.toNatClampNeg .null)], I, F), hs, decide (¬ n < 0) && Nat.ble n.toNatClampNeg 10000 && Nat.blt G.length 99999 && Nat.ble (cs.1 + 1) mc && Nat.ble (cs.2 + n.toNatClampNeg) ms)
    | 8 => some ((pc + 3, (cs.1 + 1, cs.2 + n.toNatClampNeg), L, .ref G.length :: r), (G ++ [(55, n.toNatClampNeg, List.replicate n.toNatClampNeg .null)], I, F), hs, decide (¬ n < 0) && Nat.ble n.toNatClampNeg 10000 && Nat.blt G.length 99999 && Nat.ble (cs.1 + 1) mc && Nat.ble (cs.2 + n.toNatClampNeg) ms)
    | _ => none
  | _ => none
/-- the words: those that keep, and those of nest mates -/
def vm_isN : Cond → Bool
  | .fieldLinkNest .. => true
  | .methodLinkNest .. => true
  | .arrayOver (.object _) => true
  | _ => false
def vm_TB : List Cond := lw_tbl.filter goodWord
def vm_NW : List Cond := lw_tbl.filter vm_isN
def vm_w (p : Nat) (w : Cond) : Bool := decide (lw_tbl[p]? = some w)
def vm_cn (ci k : Nat) : String × String × String × Bool := match vm_cl[ci]? with
  | some q => q.2.1 k
  | none => ("", "", "", false)
def vm_cc (ci : Nat) : String := match vm_cl[ci]? with
  | some q => q.1
  | none => ""
def vm_nth (xs : List Nat) (i : Nat) : Nat := xs.getD i 0
/-- what a row of a method's list says is so, by the class file and the tables -/
def vm_ck (y : MethodName) (e : vm_E) : Bool := match e.2.1, e.2.2.2.1, e.2.2.2.2 with
  | .iload _, _, _ => e.2.2.1 == 2
  | .lload _, _, _ => e.2.2.1 == 2
  | .fload _, _, _ => e.2.2.1 == 2
  | .aload _, _, _ => e.2.2.1 == 2
  | .istore _, _, _ => e.2.2.1 == 2
  | .lstore _, _, _ => e.2.2.1 == 2
  | .fstore _, _, _ => e.2.2.1 == 2
  | .astore _, _, _ => e.2.2.1 == 2
  | .iinc _ n, _, v => e.2.2.1 == 3 && decide (v = .int (Int32.ofInt n))
  | .iconst n, _, v => e.2.2.1 == 1 && decide (v = .int (Int32.ofInt n))
  | .bipush n, _, v => e.2.2.1 == 2 && decide (v = .int (Int8.ofInt n).toInt32)
  | .sipush n, _, v => e.2.2.1 == 3 && decide (v = .int (Int16.ofInt n).toInt32)
  | .ldc i, p :: _, .int v => e.2.2.1 == 2 && vm_w p (.constant y.cls i v)
  | .ldc i, p :: _, .float v => e.2.2.1 == 2 && vm_w p (.constantFloat y.cls i v)
  | .ldc_w i, p :: _, .int v => e.2.2.1 == 3 && vm_w p (.constant y.cls i v)
  | .ldc_w i, p :: _, .float v => e.2.2.1 == 3 && vm_w p (.constantFloat y.cls i v)
  | .ldc2_w i, p :: _, .long v => e.2.2.1 == 3 && vm_w p (.constantLong y.cls i v)
  | .ldc _, _, _ => false
  | .ldc_w _, _, _ => false
  | .ldc2_w _, _, _ => false
  | .fconst n, _, v => e.2.2.1 == 1 && decide (v = .float (match n with
    | 0 => FP.fconst0
    | 1 => FP.fconst1
    | 2 => FP.fconst2))
  | .lconst n, _, v => e.2.2.1 == 1 && decide (v = .long (Int64.ofNat n.val))
  | .goto o, t :: _, _ => e.2.2.1 == 3 && decide ((e.1 : Int) + o = (t : Int))
  | .ifCond _ o, t :: _, _ => e.2.2.1 == 3 && decide ((e.1 : Int) + o = (t : Int))
  | .if_icmp _ o, t :: _, _ => e.2.2.1 == 3 && decide ((e.1 : Int) + o = (t : Int))
  | .ifnull o, t :: _, _ => e.2.2.1 == 3 && decide ((e.1 : Int) + o = (t : Int))
  | .ifnonnull o, t :: _, _ => e.2.2.1 == 3 && decide ((e.1 : Int) + o = (t : Int))
  | .tableswitch d lo hi os, t :: ts, _ => decide ((e.1 : Int) + d = (t : Int)) && decide (os.toList.map (fun o => (e.1 : Int) + o) = ts.map (fun t : Nat => (t : Int))) && decide ((os.size : Int) = hi - lo + 1)
  | .lookupswitch d ps, t :: ts, _ => decide ((e.1 : Int) + d = (t : Int)) && decide (ps.toList.map (fun o => (e.1 : Int) + o.2) = ts.map (fun t : Nat => (t : Int))) && (ps.toList.zip (ps.toList.drop 1)).all (fun (a, next) => a.1 < next.1)
  | .getfield i, ci :: k :: p :: _, _ => e.2.2.1 == 3 && Nat.blt ci 12 && Nat.blt k (vm_df ci).length && vm_w p (.fieldLink y.cls i (vm_cc ci) (vm_cn ci k).2.1 (vm_cn ci k).2.2.1)
  | .putfield i, ci :: k :: p :: f :: _, _ => e.2.2.1 == 3 && Nat.blt ci 12 && Nat.blt k (vm_df ci).length && vm_w p (.fieldLink y.cls i (vm_cc ci) (vm_cn ci k).2.1 (vm_cn ci k).2.2.1) && (f == 0 && (vm_cn ci k).2.2.2 == false || f == 1 && (vm_cn ci k).2.2.2 == true && decide (y.name = "<init>") && decide (y.cls = vm_cc ci))
  | .getstatic i, j :: p :: 0 :: _, v => e.2.2.1 == 3 && Nat.blt j 18 && decide (v = .ref (100000 + j)) && (match vm_stat[j]? with
    | some q => vm_w p (.fieldLink y.cls i q.1 q.2.1 "[I")
    | none => false)
  | .getstatic i, j :: p :: _ :: _, v => e.2.2.1 == 3 && Nat.blt j 18 && decide (v = .ref (100000 + j)) && (match vm_stat[j]? with
    | some q => vm_w p (.fieldLinkNest y.cls i q.1 q.2.1 "[I" "DitherDesk")
    | none => false)
  | .new i, ci :: p :: _, _ => e.2.2.1 == 3 && Nat.blt ci 12 && vm_w p (.classLink y.cls i (vm_cc ci))
  | .newarray _, _, _ => e.2.2.1 == 2
  | .anewarray i, ci :: p :: _, _ => e.2.2.1 == 3 && vm_w p (.classLink y.cls i (vm_cc ci))
  | .invokevirtual i, m :: p :: n :: _, _ => e.2.2.1 == 3 && (match vm_mn[m]? with
    | some z => (n == 0 && vm_w p (.methodLink y.cls i z)) || (n == 1 && vm_w p (.methodLinkNest y.cls i z "DitherDesk"))
    | none => false)
  | .invokestatic i, m :: p :: n :: _, _ => e.2.2.1 == 3 && (match vm_mn[m]? with
    | some z => (n == 0 && vm_w p (.methodLink y.cls i z)) || (n == 1 && vm_w p (.methodLinkNest y.cls i z "DitherDesk"))
    | none => m == 1001 && vm_w p (.methodLink y.cls i ⟨"java/lang/Float", "floatToRawIntBits", "(F)I"⟩))
  | .invokespecial i, m :: p :: n :: _, _ => e.2.2.1 == 3 && (match vm_mn[m]? with
    | some z => decide (z.name = "<init>") && ((n == 0 && vm_w p (.methodLink y.cls i z)) || (n == 1 && vm_w p (.methodLinkNest y.cls i z "DitherDesk")))
    | none => m == 1000 && vm_w p (.methodLink y.cls i Lib.objectInit))
  | .getfield _, _, _ => false
  | .putfield _, _, _ => false
  | .getstatic _, _, _ => false
  | .new _, _, _ => false
  | .anewarray _, _, _ => false
  | .invokevirtual _, _, _ => false
  | .invokestatic _, _, _ => false
  | .invokespecial _, _, _ => false
  | .goto _, _, _ => false
  | .ifCond _ _, _, _ => false
  | .if_icmp _ _, _, _ => false
  | .ifnull _, _, _ => false
  | .ifnonnull _, _, _ => false
  | .tableswitch _ _ _ _, _, _ => false
  | .lookupswitch _ _, _, _ => false
  | _, _, _ => e.2.2.1 == 1
/-- a method: its name, its bytes, how many locals, what it answers, its room, its list -/
abbrev vm_M : Type := MethodName × ByteArray × Nat × Option FieldType × Room × List vm_E
def vm_get : List vm_E → Nat → Option vm_E
  | [], _ => none
  | e :: es, pc => bif Nat.beq e.1 pc then some e else vm_get es pc
def vm_n (X : vm_Cx) (M : vm_M) : Nat → vm_F → vm_H → List vm_Sh → vm_O
  | 0, f, h, hs => some (f, h, hs, true)
  | k + 1, f, h, hs => match vm_get M.2.2.2.2.2 f.1 with
    | none => none
    | some e => match vm_1 X M.2.2.2.2.1.cells M.2.2.2.2.1.slots e f.1 f.2.1 f.2.2.1 f.2.2.2 h.1 h.2.1 h.2.2 hs with
      | none => none
      | some (f1, h1, hs1, b) => match vm_n X M k f1 h1 hs1 with
        | none => none
        | some (f2, h2, hs2, b2) => some (f2, h2, hs2, b && b2)
