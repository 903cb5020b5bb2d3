/-- THE CONSTRUCTORS, by an evaluator over the small machine: which are called, and how -/
def ev_T : List (Nat × vm_M × Nat × Nat) := [(98, vm_M98, 0, 2), (90, vm_M90, 0, 2), (60, vm_M60, 0, 2), (81, vm_M81, 1, 2), (35, vm_M35, 0, 2), (20, vm_M20, 0, 2), (156, vm_M156, 2, 1), (1, vm_M1, 0, 2), (0, vm_M0, 0, 2), (56, vm_M56, 0, 2), (46, vm_M46, 0, 2), (87, vm_M87, 0, 2), (167, vm_M167, 0, 2)]
def ev_good (q : Nat × vm_M × Nat × Nat) : Prop := vm_OK q.2.1 ∧ vm_cd q.2.1 q.2.2.1 q.2.2.2 ∧ vm_mn[q.1]? = some (vm_my q.2.1) ∧ plainName (vm_my q.2.1).cls = true ∧ (q.2.2.2 = 1 ∨ q.2.2.2 = 2)
theorem ev_ok : ∀ q ∈ ev_T, ev_good q := by
  intro q hq
  simp only [ev_T, List.mem_cons, List.not_mem_nil, or_false] at hq
  rcases hq with rfl | rfl | rfl | rfl | rfl | rfl | rfl | rfl | rfl | rfl | rfl | rfl | rfl
  · exact ⟨vm_q98, vm_z98, rfl, by decide, Or.inr rfl⟩
  · exact ⟨vm_q90, vm_z90, rfl, by decide, Or.inr rfl⟩
  · exact ⟨vm_q60, vm_z60, rfl, by decide, Or.inr rfl⟩
  · exact ⟨vm_q81, vm_z81, rfl, by decide, Or.inr rfl⟩
  · exact ⟨vm_q35, vm_z35, rfl, by decide, Or.inr rfl⟩
  · exact ⟨vm_q20, vm_z20, rfl, by decide, Or.inr rfl⟩
  · exact ⟨vm_q156, vm_z156, rfl, by decide, Or.inl rfl⟩
  · exact ⟨vm_q1, vm_z1, rfl, by decide, Or.inr rfl⟩
  · exact ⟨vm_q0, vm_z0, rfl, by decide, Or.inr rfl⟩
  · exact ⟨vm_q56, vm_z56, rfl, by decide, Or.inr rfl⟩
  · exact ⟨vm_q46, vm_z46, rfl, by decide, Or.inr rfl⟩
  · exact ⟨vm_q87, vm_z87, rfl, by decide, Or.inr rfl⟩
  · exact ⟨vm_q167, vm_z167, rfl, by decide, Or.inr rfl⟩
/-- a context for evaluating: no constructor looks at the script -/
def ev_X : vm_Cx := ((fun _ => default, fun _ _ => 0), fun _ => default, 0, fun _ => 0, 0, fun _ => 0)
def ev_sh (G : List vm_Sh) (v : Value) : List vm_Sh := match v with
  | .ref a => if a < 100000 then (match G[a]? with
    | some sh => if sh.1 = 61 then [] else [sh]
    | none => []) else if a < 100018 then [(60, a - 100000, [])] else []
  | _ => []
/-- the shapes that an instruction looks at -/
def ev_h (G : List vm_Sh) (i : ClassFile.Instr) (st : List Value) : List vm_Sh := match i, st with
  | .getfield _, a :: _ => ev_sh G a
  | .putfield _, _ :: a :: _ => ev_sh G a
  | .arraylength, a :: _ => ev_sh G a
  | .iaload, _ :: a :: _ => ev_sh G a
  | .iastore, _ :: _ :: a :: _ => ev_sh G a
  | .aastore, v :: _ :: a :: _ => ev_sh G a ++ ev_sh G v
  | _, _ => []
def ev_r2 (Z : vm_M) (n : Nat) (av : List Value) (G : List vm_Sh) : Bool := match av with
  | .ref o :: as => (as.length == n) && (match G[o]? with
    | some sh => Nat.ble 2 sh.1 && (match vm_cl[sh.1 - 2]? with
      | some q => q.1 == (vm_my Z).cls
      | none => false)
    | none => false)
  | _ => false
def ev_recv (Z : vm_M) (n k : Nat) (av : List Value) (G : List vm_Sh) : Bool := match k with
  | 1 => av.length == n
  | _ => ev_r2 Z n av G
def ev_inv (i : ClassFile.Instr) (k : Nat) : Bool := match i, k with
  | .invokestatic _, 1 => true
  | .invokespecial _, 2 => true
  | _, _ => false
def ev_ct (q : Nat × vm_M × Nat × Nat) : Nat := q.2.2.1 + (if q.2.2.2 = 2 then 1 else 0)
def ev : Nat → vm_M → vm_F → vm_H → Option vm_H
  | 0, _, _, _ => none
  | n + 1, M, (pc, cs, L, st), h => match vm_get (vm_mc M) pc with
    | none => none
    | some en => match en.2.1, en.2.2.2.1 with
      | .return_, _ => if vm_mt M = none ∧ st = [] ∧ cs.1 ≤ (vm_mr M).cells ∧ cs.2 ≤ (vm_mr M).slots then some h else none
      | .invokespecial _, 1000 :: _ => match st with
        | .ref _ :: rest => if (1 ≤ (vm_mr M).frames ∧ 20 ≤ (vm_mr M).locals) ∧ (rest.map fun v => v.category).sum ≤ 8 then ev n M (pc + 3, cs, L, rest) h else none
        | _ => none
      | .invokespecial i, mi :: _ => match ev_T.find? (fun q => q.1 == mi) with
        | none => none
        | some q => match ev n q.2.1 (0, (0, 0), vm_e0 (st.take (ev_ct q)).reverse (vm_ml q.2.1), []) h with
          | none => none
          | some h1 => if ((ev_inv (.invokespecial i) q.2.2.2 = true ∧ ev_recv q.2.1 q.2.2.1 q.2.2.2 (st.take (ev_ct q)).reverse h.1 = true) ∧ (vm_ar (st.take (ev_ct q)).reverse).length ≤ vm_ml q.2.1 ∧ ((st.drop (ev_ct q)).map fun v => v.category).sum ≤ 8) ∧ ((vm_mr q.2.1).frames + 1 ≤ (vm_mr M).frames ∧ 8 + (vm_ml q.2.1 + 11) + (vm_mr q.2.1).locals ≤ (vm_mr M).locals) ∧ (cs.1 + (vm_mr q.2.1).cells ≤ (vm_mr M).cells ∧ cs.2 + (vm_mr q.2.1).slots ≤ (vm_mr M).slots) then ev n M (pc + 3, (cs.1 + (vm_mr q.2.1).cells, cs.2 + (vm_mr q.2.1).slots), L, st.drop (ev_ct q)) h1 else none
      | .invokestatic i, mi :: _ => match ev_T.find? (fun q => q.1 == mi) with
        | none => none
        | some q => match ev n q.2.1 (0, (0, 0), vm_e0 (st.take (ev_ct q)).reverse (vm_ml q.2.1), []) h with
          | none => none
          | some h1 => if ((ev_inv (.invokestatic i) q.2.2.2 = true ∧ ev_recv q.2.1 q.2.2.1 q.2.2.2 (st.take (ev_ct q)).reverse h.1 = true) ∧ (vm_ar (st.take (ev_ct q)).reverse).length ≤ vm_ml q.2.1 ∧ ((st.drop (ev_ct q)).map fun v => v.category).sum ≤ 8) ∧ ((vm_mr q.2.1).frames + 1 ≤ (vm_mr M).frames ∧ 8 + (vm_ml q.2.1 + 11) + (vm_mr q.2.1).locals ≤ (vm_mr M).locals) ∧ (cs.1 + (vm_mr q.2.1).cells ≤ (vm_mr M).cells ∧ cs.2 + (vm_mr q.2.1).slots ≤ (vm_mr M).slots) then ev n M (pc + 3, (cs.1 + (vm_mr q.2.1).cells, cs.2 + (vm_mr q.2.1).slots), L, st.drop (ev_ct q)) h1 else none
      | _, _ => match vm_1 ev_X (vm_mr M).cells (vm_mr M).slots en pc cs L st h.1 h.2.1 h.2.2 (ev_h h.1 en.2.1 st) with
        | some (f', h', _, true) => ev n M f' h'
        | _ => none
theorem ev_sh61 (G : List vm_Sh) (v : Value) : ∀ sh ∈ ev_sh G v, sh.1 ≠ 61 := by
  intro sh hs
  unfold ev_sh at hs
  split at hs
  · split at hs
    · split at hs
      · split at hs
        · cases hs
        · next h =>
          rw [List.mem_singleton] at hs
          rw [hs]
          exact h
      · cases hs
    · split at hs
      · rw [List.mem_singleton] at hs
        rw [hs]
        exact fun z => absurd z (by decide : ¬ (60 : Nat) = 61)
      · cases hs
  · cases hs
theorem ev_h61 (G : List vm_Sh) (i : ClassFile.Instr) (st : List Value) : ∀ sh ∈ ev_h G i st, sh.1 ≠ 61 := by
  intro sh hs
  unfold ev_h at hs
  split at hs
  · exact ev_sh61 G _ sh hs
  · exact ev_sh61 G _ sh hs
  · exact ev_sh61 G _ sh hs
  · exact ev_sh61 G _ sh hs
  · exact ev_sh61 G _ sh hs
  · rcases List.mem_append.mp hs with h | h
    · exact ev_sh61 G _ sh h
    · exact ev_sh61 G _ sh h
  · cases hs
theorem ev_1 (X : vm_Cx) {mc ms : Nat} {e : vm_E} {pc : Nat} {cs : Nat × Nat} {L st : List Value} {G : List vm_Sh} {I : Nat → Nat → Int32} {F : Nat → Nat → UInt32} {hs : List vm_Sh} (h : ∀ sh ∈ hs, sh.1 ≠ 61) : vm_1 X mc ms e pc cs L st G I F hs = vm_1 ev_X mc ms e pc cs L st G I F hs := by
  obtain ⟨pc0, i, len, xs, v⟩ := e
  cases i
  case arraylength =>
    unfold vm_1
    refine congrArg (vm_r1 st) (funext fun a => funext fun r => ?_)
    cases hs with
    | nil => rfl
    | cons sh hs =>
      have h1 := h sh List.mem_cons_self
      obtain ⟨c, n, vs⟩ := sh
      unfold vm_hs
      dsimp only at h1 ⊢
      split <;> first | rfl | exact absurd rfl h1
  case iaload =>
    unfold vm_1
    refine congrArg (vm_i1 st) (funext fun j => funext fun r => congrArg (vm_r1 r) (funext fun a => funext fun r => ?_))
    cases hs with
    | nil => rfl
    | cons sh hs =>
      have h1 := h sh List.mem_cons_self
      obtain ⟨c, n, vs⟩ := sh
      unfold vm_hs
      dsimp only at h1 ⊢
      split <;> first | rfl | exact absurd rfl h1
  all_goals rfl
theorem ev_find {mi : Nat} {q : Nat × vm_M × Nat × Nat} (h : ev_T.find? (fun q => q.1 == mi) = some q) : ev_good q ∧ q.1 = mi := ⟨ev_ok q (List.mem_of_find?_eq_some h), by
  have := List.find?_some h
  exact eq_of_beq this⟩
theorem ev_av {Z : vm_M} {n k : Nat} {av : List Value} {h : vm_H} (hr : ev_recv Z n k av h.1 = true) (hk : k = 1 ∨ k = 2) : vm_av Z n k av h := by
  rcases hk with rfl | rfl
  · unfold ev_recv at hr
    exact eq_of_beq hr
  · replace hr : ev_r2 Z n av h.1 = true := hr
    rcases av with _ | ⟨v, as⟩
    · cases hr
    cases v
    case ref o =>
      unfold ev_r2 at hr
      dsimp only at hr
      rw [Bool.and_eq_true] at hr
      obtain ⟨h1, h2⟩ := hr
      split at h2
      · next sh hsh =>
        rw [Bool.and_eq_true] at h2
        obtain ⟨h3, h4⟩ := h2
        split at h4
        · next q hq =>
          refine ⟨o, as, rfl, eq_of_beq h1, sh, sh.1 - 2, q, hsh, ?_, hq, eq_of_beq h4⟩
          have := Nat.le_of_ble_eq_true h3
          omega
        · cases h4
      · cases h2
    all_goals cases hr
theorem ev_J (l : Launch) (X : vm_Cx) : ∀ (n : Nat) (M : vm_M) (f : vm_F) (h h' : vm_H), vm_OK M → ev n M f h = some h' → vm_J l X M f h none h'
  | 0, M, f, h, h', _, he => nomatch he
  | n + 1, M, (pc, cs, L, st), h, h', hM, he => by
    unfold ev at he
    split at he
    · cases he
    · next en hen =>
      split at he
      · next hi =>
        split at he
        · next hc =>
          cases he
          refine vm_J.ret hM (en := en) hen ?_ hc.2.1 hc.2.2.1 hc.2.2.2
          rw [hi]
          exact hc.1
        · cases he
      · next i xs hi hx =>
        split at he
        · next o rest =>
          split at he
          · next hc =>
            exact vm_J.obj hM hen hi (by rw [hx]; rfl) hc.1 hc.2 (ev_J l X n M _ h h' hM he)
          · cases he
        · cases he
      · next i mi xs hn hi hx =>
        split at he
        · cases he
        · next q hq =>
          split at he
          · cases he
          · next h1 hh1 =>
            split at he
            · next hc =>
              obtain ⟨⟨gOK, gcd, gmn, gpl, gk⟩, gmi⟩ := ev_find hq
              obtain ⟨⟨⟨c1, c2⟩, c3, c4⟩, c5, c6⟩ := hc
              have K := vm_K.mk (l := l) (X := X) (M := q.2.1) gpl c3 (ev_J l X n q.2.1 _ h h1 gOK hh1)
              have := vm_J.call hM (M := M) (Z := q.2.1) (en := en) hen (n := q.2.2.1) (k := q.2.2.2) (mi := mi) (by rw [hi]; rcases gk with z | z <;> rw [z] at c1 ⊢ <;> first | exact trivial | cases c1) (by rw [hx]; rfl) (by rw [← gmi]; exact gmn) gcd K (ev_av c2 gk) c4 c5 c6 (ev_J l X n M _ h1 h' hM he)
              rw [List.reverse_reverse, List.take_append_drop] at this
              exact this
            · cases he
      · next i mi xs hi hx =>
        split at he
        · cases he
        · next q hq =>
          split at he
          · cases he
          · next h1 hh1 =>
            split at he
            · next hc =>
              obtain ⟨⟨gOK, gcd, gmn, gpl, gk⟩, gmi⟩ := ev_find hq
              obtain ⟨⟨⟨c1, c2⟩, c3, c4⟩, c5, c6⟩ := hc
              have K := vm_K.mk (l := l) (X := X) (M := q.2.1) gpl c3 (ev_J l X n q.2.1 _ h h1 gOK hh1)
              have := vm_J.call hM (M := M) (Z := q.2.1) (en := en) hen (n := q.2.2.1) (k := q.2.2.2) (mi := mi) (by rw [hi]; rcases gk with z | z <;> rw [z] at c1 ⊢ <;> first | exact trivial | cases c1) (by rw [hx]; rfl) (by rw [← gmi]; exact gmn) gcd K (ev_av c2 gk) c4 c5 c6 (ev_J l X n M _ h1 h' hM he)
              rw [List.reverse_reverse, List.take_append_drop] at this
              exact this
            · cases he
      · split at he
        · next f1 h1 hs1 hv =>
          rw [← ev_1 X (ev_h61 _ _ _)] at hv
          refine vm_J.go hM (k := 1) (hs := ev_h h.1 en.2.1 st) (f' := f1) (h' := h1) (hs' := hs1) (b := true && true) ?_ rfl (ev_J l X n M f1 h1 h' hM he)
          unfold vm_n
          rw [hen]
          dsimp only
          rw [hv]
          rfl
        · cases he
