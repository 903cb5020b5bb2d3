theorem vm_clG {ci : Nat} (h : Nat.blt ci 12 = true) : ∃ q, vm_cl[ci]? = some q := by
  have h : ci < 12 := by simpa using h
  exact ⟨vm_cl[ci]'(by simpa [vm_cl] using h), List.getElem?_eq_getElem _⟩
theorem vm_wT {p : Nat} {w : Cond} (h : vm_w p w = true) (hg : goodWord w = true) : w ∈ vm_TB := List.mem_filter.mpr ⟨List.mem_of_getElem? (of_decide_eq_true h), hg⟩
theorem vm_wN {p : Nat} {w : Cond} (h : vm_w p w = true) (hg : vm_isN w = true) : w ∈ vm_NW := List.mem_filter.mpr ⟨List.mem_of_getElem? (of_decide_eq_true h), hg⟩
/-- what the tables and the statics are -/
def vm_T (X : vm_Cx) (s : State) (H : Heap) : Prop := va_K X.1 vm_cl (vm_tys X) s ∧ (∀ w ∈ vm_NW, va_Nw w s) ∧ (∀ (i : Nat) (q : String × String × List Int32), vm_stat[i]? = some q → va_Z q.1 q.2.1 "[I" (.ref (vm_sa X i)) (vm_A X) s H ∧ va_T .int (vm_sa X i) q.2.2.length (fun j => .int (q.2.2.getD j 0)) (vm_A X) s H) ∧ va_T .int (vm_sa X 18) (vm_sl X) (fun j => .int (vm_sx X j)) (vm_A X) s H
theorem vm_isN_moved {w : Cond} (hn : vm_isN w = true) {s U : State} (hW : s.WarmedH U.vm) (h : va_Nw w s) : va_Nw w U := by
  cases w <;> first | (exact va_Nw.warmF hW h) | (exact va_Nw.warmM hW h) | skip
  case arrayOver t => cases t <;> first | (exact va_AO.moved hW.alike h) | (simp [vm_isN] at hn)
  all_goals simp [vm_isN] at hn
theorem vm_T.moved {X : vm_Cx} {s U : State} {H : Heap} (hW : s.WarmedH U.vm) (h : vm_T X s H) : vm_T X U H :=
  ⟨va_K.moved hW.alike h.1, fun w hw => vm_isN_moved (List.mem_filter.mp hw).2 hW (h.2.1 w hw), fun i q hq => ⟨va_Z.moved hW.alike (h.2.2.1 i q hq).1, va_T.moved hW.alike (h.2.2.1 i q hq).2⟩, va_T.moved hW.alike h.2.2.2⟩
theorem vm_T.kept {X : vm_Cx} {s : State} {H H1 : Heap} (h : vm_T X s H) (hq : ∀ a : Nat, a < H.size → ¬ vm_A X a → H1[a]? = H[a]?) : vm_T X s H1 :=
  ⟨h.1, h.2.1, fun i q hi => ⟨va_Z.kept (h.2.2.1 i q hi).1 hq, va_T.kept (h.2.2.1 i q hi).2 hq⟩, va_T.kept h.2.2.2 hq⟩
theorem vm_T.calling {X : vm_Cx} {s : State} {H : Heap} {g : JFrame} {mk : MethodId} {a : Array Value} (h : vm_T X s H) : vm_T X (s.calling g mk a) H :=
  ⟨va_K.moved (u := s) (U := s.calling g mk a) (Vm.Alike.refl s.vm) h.1, fun w hw => by
    have h1 := h.2.1 w hw
    have hn := (List.mem_filter.mp hw).2
    cases w <;> first | (exact va_Nw.same (u := s) (U := s.calling g mk a) rfl rfl h1) | skip
    case arrayOver t => cases t <;> first | (exact va_AO.moved (u := s) (U := s.calling g mk a) (Vm.Alike.refl s.vm) h1) | (simp [vm_isN] at hn)
    all_goals simp [vm_isN] at hn, fun i q hi => ⟨va_Z.moved (u := s) (U := s.calling g mk a) (Vm.Alike.refl s.vm) (h.2.2.1 i q hi).1, va_T.moved (u := s) (U := s.calling g mk a) (Vm.Alike.refl s.vm) (h.2.2.1 i q hi).2⟩, va_T.moved (u := s) (U := s.calling g mk a) (Vm.Alike.refl s.vm) h.2.2.2⟩
/-- a frame's surroundings -/
def vm_C (X : vm_Cx) (y : MethodName) (bs : ByteArray) (nL : Nat) (R0 : Room) (p : Program) (R : Room) (s : State) (m : MethodId) (args : Array Value) (meth : Method) (c : Code) : Prop :=
  p.tables.exec = Jvm.exec ∧ c.code = bs ∧ c.maxLocals = nL ∧ s.vm.findClass y.cls = some m.cls ∧ (∀ w ∈ vm_TB, w.before args s = true) ∧ meth.name = y.name ∧ vm_T X s s.heap ∧ (∀ q, s.heap.size ≤ q → vm_A X q) ∧ R = R0
def vm_S (X : vm_Cx) (s : State) (H : Heap) (locs : List Loc) (L : List Value) (ls : Array Slot) (h : vm_H) : Prop :=
  va_P X.1 vm_cl (vm_ws X h) H ∧ H.size = vm_N0 X + h.1.length ∧ h.1.length ≤ 100000 ∧ va_S (vm_A X) s.heap H locs ∧ lv_has ls L.length (vm_la X L)
theorem vm_ws_at {X : vm_Cx} {G : List vm_Sh} {I : Nat → Nat → Int32} {F : Nat → Nat → UInt32} {k : Nat} {sh : vm_Sh} (hk : G[k]? = some sh) : (vm_ws X (G, I, F))[k]? = some (vm_N0 X + k, vm_en X sh (I k) (F k)) := by
  simp [vm_ws, List.getElem?_mapIdx, hk]
theorem vm_D {X : vm_Cx} {h : vm_H} : va_D (vm_A X) (vm_ws X h) := by
  have key : ∀ (k : Nat) (q : Nat × va_E), (vm_ws X h)[k]? = some q → q.1 = vm_N0 X + k := by
    intro k q hk
    simp only [vm_ws, List.getElem?_mapIdx, Option.map_eq_some_iff] at hk
    obtain ⟨sh, -, rfl⟩ := hk
    rfl
  refine ⟨fun i j p q hi hj he => ?_, fun k q hk => ?_⟩
  · have h1 := key i p hi
    have h2 := key j q hj
    omega
  · show vm_N0 X ≤ q.1
    rw [key k q hk]
    exact Nat.le_add_right _ _
theorem vm_ws_set {X : vm_Cx} {G G' : List vm_Sh} {I I' : Nat → Nat → Int32} {F F' : Nat → Nat → UInt32} {o : Nat} {sh' : vm_Sh} {e' : va_E} (hlt : o < G.length) (hl : G'.length = G.length) (hne : ∀ j, j ≠ o → G'[j]? = G[j]? ∧ I' j = I j ∧ F' j = F j) (h1 : G'[o]? = some sh') (h2 : vm_en X sh' (I' o) (F' o) = e') :
    (vm_ws X (G, I, F)).set o (vm_N0 X + o, e') = vm_ws X (G', I', F') := by
  apply List.ext_getElem?
  intro j
  by_cases hj : j = o
  · subst hj
    rw [List.getElem?_set_self (by simpa [vm_ws] using hlt), vm_ws_at h1, h2]
  · rw [List.getElem?_set_ne (Ne.symm hj)]
    obtain ⟨a, b, c⟩ := hne j hj
    simp [vm_ws, List.getElem?_mapIdx, a, b, c]
theorem vm_ws_push {X : vm_Cx} {G : List vm_Sh} {I I' : Nat → Nat → Int32} {F F' : Nat → Nat → UInt32} {sh : vm_Sh} (hne : ∀ j, j ≠ G.length → I' j = I j ∧ F' j = F j) :
    vm_ws X (G ++ [sh], I', F') = vm_ws X (G, I, F) ++ [(vm_N0 X + G.length, vm_en X sh (I' G.length) (F' G.length))] := by
  have hl : (vm_ws X (G, I, F)).length = G.length := by simp [vm_ws]
  apply List.ext_getElem?
  intro j
  rcases Nat.lt_trichotomy j G.length with h | h | h
  · rw [List.getElem?_append_left (by omega)]
    obtain ⟨b, c⟩ := hne j (by omega)
    simp only [vm_ws, List.getElem?_mapIdx, List.getElem?_append_left h, b, c]
  · subst h
    rw [List.getElem?_append_right (by omega), hl]
    simp [vm_ws, List.getElem?_mapIdx]
  · rw [List.getElem?_append_right (by omega), hl]
    simp [vm_ws, List.getElem?_mapIdx]
    rw [List.getElem?_eq_none (by simp; omega), List.getElem?_eq_none (by simp; omega)]
theorem vm_isG_i {G : List vm_Sh} {o : Nat} {sh : vm_Sh} (h : vm_isG G o sh = true) : G[o]? = some sh := of_decide_eq_true h
theorem vm_ad_lt {X : vm_Cx} {G : List vm_Sh} {o : Nat} {sh : vm_Sh} (h : G[o]? = some sh) (hG : G.length ≤ 100000) : vm_ad X o = vm_N0 X + o := by
  have := (List.getElem?_eq_some_iff.mp h).1
  unfold vm_ad
  rw [if_pos (by omega)]
theorem vm_ad_st {X : vm_Cx} (j : Nat) : vm_ad X (100000 + j) = vm_sa X j := by
  unfold vm_ad
  rw [if_neg (by omega), Nat.add_sub_cancel_left]
theorem vm_en_o {X : vm_Cx} {sh : vm_Sh} {c : Nat} {f : Nat → Int32} {g : Nat → UInt32} (h : sh.1 = c + 2) (hc : c < 50) : vm_en X sh f g = .inr (c, sh.2.2.mapIdx (vm_fv X f)) := by
  unfold vm_en
  rw [h]
  simp [hc]
theorem vm_en_q {X : vm_Cx} {sh : vm_Sh} {c : Nat} {f : Nat → Int32} {g : Nat → UInt32} (h : sh.1 = c + 2) (hc : 50 ≤ c) : vm_en X sh f g = .inl (vm_cA X (c - 48), sh.2.1, .inr (.inr (.inr (.inr (vm_re X sh.2.2))))) := by
  unfold vm_en
  rw [h]
  simp [Nat.not_lt.mpr hc]
theorem vm_en_0 {X : vm_Cx} {sh : vm_Sh} {f : Nat → Int32} {g : Nat → UInt32} (h : sh.1 = 0) : vm_en X sh f g = .inl (vm_cA X 0, sh.2.1, .inl f) := by
  unfold vm_en
  rw [h]
theorem vm_en_1 {X : vm_Cx} {sh : vm_Sh} {f : Nat → Int32} {g : Nat → UInt32} (h : sh.1 = 1) : vm_en X sh f g = .inl (vm_cA X 1, sh.2.1, .inr (.inr (.inl g))) := by
  unfold vm_en
  rw [h]
theorem vm_up_o {α : Type} (I : Nat → Nat → α) (o k : Nat) (x : α) (j : Nat) (h : j ≠ o) : vm_up I o k x j = I j := by
  funext b
  simp [vm_up, h]
theorem vm_up_s {α : Type} (I : Nat → Nat → α) (o k : Nat) (x : α) : vm_up I o k x o = fun b => if b = k then x else I o b := by
  funext b
  simp [vm_up]
theorem vm_zr_o {α : Type} (z : Nat → α) (I : Nat → Nat → α) (o : Nat) (j : Nat) (h : j ≠ o) : vm_zr z I o j = I j := by
  funext b
  simp [vm_zr, h]
theorem vm_zr_s {α : Type} (z : Nat → α) (I : Nat → Nat → α) (o : Nat) : vm_zr z I o o = z := by
  funext b
  simp [vm_zr]
theorem vm_in_i {j : Int32} {n : Nat} (h : vm_in j n = true) : vp_in j n := by
  have h1 : ¬ (j < 0 ∨ n ≤ j.toNatClampNeg) := of_decide_eq_true h
  exact h1
/-! locals -/
theorem vm_la_mem {X : vm_Cx} {L : List Value} {i : Nat} {v : Value} (h : L[i]? = some v) (hv : ∀ q, v ≠ .retAddr q) : (i, vm_v X v) ∈ vm_la X L := by
  unfold vm_la
  refine List.mem_filterMap.mpr ⟨i, List.mem_range.mpr (List.getElem?_eq_some_iff.mp h).1, ?_⟩
  rw [h]
  cases v <;> first | rfl | (exact absurd rfl (hv _))
theorem vm_la_of {X : vm_Cx} {L : List Value} {q : Nat × Value} (h : q ∈ vm_la X L) : ∃ v, L[q.1]? = some v ∧ (∀ a, v ≠ .retAddr a) ∧ q.2 = vm_v X v := by
  unfold vm_la at h
  obtain ⟨i, -, hi⟩ := List.mem_filterMap.mp h
  split at hi
  · cases hi
  · cases hi
  · rename_i v hn hv
    cases hi
    exact ⟨v, hv, fun a e => hn a (by rw [← e]), rfl⟩
theorem vm_ld {X : vm_Cx} {L : List Value} {ls : Array Slot} {n i : Nat} {v : Value} (h : lv_has ls n (vm_la X L)) (hi : L[i]? = some v) (hv : ∀ q, v ≠ .retAddr q) : ls[i]? = some (.val (vm_v X v)) := h.2.2 _ (vm_la_mem hi hv)
theorem vm_cr_len (L : List Value) (i : Nat) : (vm_cr L i).length = L.length := by
  unfold vm_cr
  split
  · rfl
  · split <;> simp
theorem vm_s1_len (L : List Value) (i : Nat) (v : Value) : (vm_s1 L i v).length = L.length := by simp [vm_s1, vm_cr_len]
theorem vm_s2_len (L : List Value) (i : Nat) (v : Value) : (vm_s2 L i v).length = L.length := by simp [vm_s2, vm_cr_len]
theorem vm_cat_v {X : vm_Cx} (v : Value) : (vm_v X v).category = v.category := by cases v <;> rfl
theorem vm_cr_at {L : List Value} {i j : Nat} {w : Value} (h : (vm_cr L i)[j]? = some w) (hw : ∀ a, w ≠ .retAddr a) (hj : j ≠ i) : L[j]? = some w ∧ ¬ (j + 1 = i ∧ w.category = 2) := by
  unfold vm_cr at h
  split at h
  · exact ⟨h, fun e => by omega⟩
  · rename_i k
    split at h
    · rename_i v hv
      by_cases e : j = k
      · subst e
        rw [List.getElem?_set_self (List.getElem?_eq_some_iff.mp hv).1] at h
        cases h
        exact absurd rfl (hw 0)
      · rw [List.getElem?_set_ne (Ne.symm e)] at h
        exact ⟨h, fun z => by omega⟩
    · rename_i v hv
      by_cases e : j = k
      · subst e
        rw [List.getElem?_set_self (List.getElem?_eq_some_iff.mp hv).1] at h
        cases h
        exact absurd rfl (hw 0)
      · rw [List.getElem?_set_ne (Ne.symm e)] at h
        exact ⟨h, fun z => by omega⟩
    · rename_i h1 h2
      refine ⟨h, fun z => ?_⟩
      have e : j = k := by omega
      subst e
      cases w <;> simp [Value.category] at z
      · exact h1 _ h
      · exact h2 _ h
theorem vm_st1 {X : vm_Cx} {L : List Value} {ls' : Array Slot} {i : Nat} {v : Value} (hi : i < L.length) (h : lv_has ls' L.length ((i, vm_v X v) :: (vm_la X L).filter (fun q => !(q.1 == i) && !(q.1 + 1 == i && q.2.category == 2)))) : lv_has ls' (vm_s1 L i v).length (vm_la X (vm_s1 L i v)) := by
  refine ⟨h.1.trans (vm_s1_len L i v).symm, h.2.1, fun q hq => h.2.2 q ?_⟩
  obtain ⟨w, h1, h2, h3⟩ := vm_la_of hq
  obtain ⟨j, z⟩ := q
  dsimp only at h1 h3
  unfold vm_s1 at h1
  by_cases hj : j = i
  · subst hj
    rw [List.getElem?_set_self (by rw [vm_cr_len]; exact hi)] at h1
    cases h1
    rw [h3]
    exact List.mem_cons_self
  · rw [List.getElem?_set_ne (Ne.symm hj)] at h1
    obtain ⟨h4, h5⟩ := vm_cr_at h1 h2 hj
    refine List.mem_cons_of_mem _ (List.mem_filter.mpr ⟨by rw [h3]; exact vm_la_mem h4 h2, ?_⟩)
    rw [h3, vm_cat_v]
    simp only [Bool.and_eq_true, Bool.not_eq_true', beq_eq_false_iff_ne, ne_eq, Bool.and_eq_false_iff]
    exact ⟨hj, by
      by_cases e : j + 1 = i
      · exact Or.inr (fun z => h5 ⟨e, z⟩)
      · exact Or.inl e⟩
theorem vm_st2 {X : vm_Cx} {L : List Value} {ls' : Array Slot} {i : Nat} {v : Value} (hi : i + 1 < L.length) (h : lv_has ls' L.length ((i, vm_v X v) :: (vm_la X L).filter (fun q => !(q.1 == i) && (!(q.1 == i + 1) && !(q.1 + 1 == i && q.2.category == 2))))) : lv_has ls' (vm_s2 L i v).length (vm_la X (vm_s2 L i v)) := by
  refine ⟨h.1.trans (vm_s2_len L i v).symm, h.2.1, fun q hq => h.2.2 q ?_⟩
  obtain ⟨w, h1, h2, h3⟩ := vm_la_of hq
  obtain ⟨j, z⟩ := q
  dsimp only at h1 h3
  unfold vm_s2 at h1
  by_cases hk : j = i + 1
  · subst hk
    rw [List.getElem?_set_self (by simp [vm_cr_len]; omega)] at h1
    cases h1
    exact absurd rfl (h2 0)
  rw [List.getElem?_set_ne (Ne.symm hk)] at h1
  by_cases hj : j = i
  · subst hj
    rw [List.getElem?_set_self (by rw [vm_cr_len]; omega)] at h1
    cases h1
    rw [h3]
    exact List.mem_cons_self
  · rw [List.getElem?_set_ne (Ne.symm hj)] at h1
    obtain ⟨h4, h5⟩ := vm_cr_at h1 h2 hj
    refine List.mem_cons_of_mem _ (List.mem_filter.mpr ⟨by rw [h3]; exact vm_la_mem h4 h2, ?_⟩)
    rw [h3, vm_cat_v]
    simp only [Bool.and_eq_true, Bool.not_eq_true', beq_eq_false_iff_ne, ne_eq, Bool.and_eq_false_iff]
    exact ⟨hj, hk, by
      by_cases e : j + 1 = i
      · exact Or.inr (fun z => h5 ⟨e, z⟩)
      · exact Or.inl e⟩
/-! what a step's pieces had to be -/
theorem vm_k1_i {β : Type} {o : Option Value} {k : Int32 → Option β} {z : β} (h : vm_k1 o k = some z) : ∃ x, o = some (.int x) ∧ k x = some z := by
  unfold vm_k1 at h
  split at h
  · exact ⟨_, rfl, h⟩
  · cases h
theorem vm_kl_i {β : Type} {o : Option Value} {k : Int64 → Option β} {z : β} (h : vm_kl o k = some z) : ∃ x, o = some (.long x) ∧ k x = some z := by
  unfold vm_kl at h
  split at h
  · exact ⟨_, rfl, h⟩
  · cases h
theorem vm_kf_i {β : Type} {o : Option Value} {k : UInt32 → Option β} {z : β} (h : vm_kf o k = some z) : ∃ x, o = some (.float x) ∧ k x = some z := by
  unfold vm_kf at h
  split at h
  · exact ⟨_, rfl, h⟩
  · cases h
theorem vm_ka_i {β : Type} {o : Option Value} {k : Value → Option β} {z : β} (h : vm_ka o k = some z) : (∃ a, o = some (.ref a) ∧ k (.ref a) = some z) ∨ (o = some .null ∧ k .null = some z) := by
  unfold vm_ka at h
  split at h
  · exact Or.inl ⟨_, rfl, h⟩
  · exact Or.inr ⟨rfl, h⟩
  · cases h
theorem vm_i1_i {β : Type} {st : List Value} {k : Int32 → List Value → Option β} {z : β} (h : vm_i1 st k = some z) : ∃ x r, st = .int x :: r ∧ k x r = some z := by
  unfold vm_i1 at h
  split at h
  · exact ⟨_, _, rfl, h⟩
  · cases h
theorem vm_l1_i {β : Type} {st : List Value} {k : Int64 → List Value → Option β} {z : β} (h : vm_l1 st k = some z) : ∃ x r, st = .long x :: r ∧ k x r = some z := by
  unfold vm_l1 at h
  split at h
  · exact ⟨_, _, rfl, h⟩
  · cases h
theorem vm_f1_i {β : Type} {st : List Value} {k : UInt32 → List Value → Option β} {z : β} (h : vm_f1 st k = some z) : ∃ x r, st = .float x :: r ∧ k x r = some z := by
  unfold vm_f1 at h
  split at h
  · exact ⟨_, _, rfl, h⟩
  · cases h
theorem vm_r1_i {β : Type} {st : List Value} {k : Nat → List Value → Option β} {z : β} (h : vm_r1 st k = some z) : ∃ x r, st = .ref x :: r ∧ k x r = some z := by
  unfold vm_r1 at h
  split at h
  · exact ⟨_, _, rfl, h⟩
  · cases h
theorem vm_i2_i {β : Type} {st : List Value} {k : Int32 → Int32 → List Value → Option β} {z : β} (h : vm_i2 st k = some z) : ∃ x y r, st = .int y :: .int x :: r ∧ k x y r = some z := by
  unfold vm_i2 at h
  split at h
  · exact ⟨_, _, _, rfl, h⟩
  · cases h
theorem vm_l2_i {β : Type} {st : List Value} {k : Int64 → Int64 → List Value → Option β} {z : β} (h : vm_l2 st k = some z) : ∃ x y r, st = .long y :: .long x :: r ∧ k x y r = some z := by
  unfold vm_l2 at h
  split at h
  · exact ⟨_, _, _, rfl, h⟩
  · cases h
theorem vm_f2_i {β : Type} {st : List Value} {k : UInt32 → UInt32 → List Value → Option β} {z : β} (h : vm_f2 st k = some z) : ∃ x y r, st = .float y :: .float x :: r ∧ k x y r = some z := by
  unfold vm_f2 at h
  split at h
  · exact ⟨_, _, _, rfl, h⟩
  · cases h
theorem vm_hs_i {β : Type} {xs : List vm_Sh} {k : vm_Sh → List vm_Sh → Option β} {z : β} (h : vm_hs xs k = some z) : ∃ x r, xs = x :: r ∧ k x r = some z := by
  unfold vm_hs at h
  split at h
  · exact ⟨_, _, rfl, h⟩
  · cases h
theorem vm_no_i {β : Type} {xs : List Nat} {k : Nat → List Nat → Option β} {z : β} (h : vm_no xs k = some z) : ∃ x r, xs = x :: r ∧ k x r = some z := by
  unfold vm_no at h
  split at h
  · exact ⟨_, _, rfl, h⟩
  · cases h
theorem vm_if_i {β : Type} {b : Bool} {k : Option β} {z : β} (h : vm_if b k = some z) : b = true ∧ k = some z := by
  unfold vm_if at h
  split at h
  · exact ⟨rfl, h⟩
  · cases h
theorem vm_blt {a b : Nat} (h : Nat.blt a b = true) : a < b := by simpa using h
theorem vm_v1_i {X : vm_Cx} {v : Value} (h : vm_v1 v = true) : (vm_v X v).category = 1 := by cases v <;> first | rfl | (simp [vm_v1] at h)
theorem vm_n3_i {r : UInt32} (h : vm_n3 r = true) : vf_n32 r := by
  have h1 : r &&& 0x7fffffff ≤ 0x7f800000 := of_decide_eq_true h
  exact h1
/-- the script's and the statics' rows, in the heap as it is -/
theorem vm_T.row {X : vm_Cx} {s : State} {H : Heap} {locs : List Loc} {j : Nat} (h : vm_T X s s.heap) (hS : va_S (vm_A X) s.heap H locs) (hj : Nat.blt j 18 = true) : va_T .int (vm_sa X j) (vm_sN j) (fun k => .int (vm_sV j k)) (vm_A X) s H := by
  have hj : j < vm_stat.length := vm_blt hj
  obtain ⟨q, hq⟩ : ∃ q, vm_stat[j]? = some q := ⟨_, List.getElem?_eq_getElem hj⟩
  have h1 := va_T.kept (h.2.2.1 j q hq).2 hS.2.1
  unfold vm_sN vm_sV
  rw [hq]
  exact h1
theorem vm_T.srow {X : vm_Cx} {s : State} {H : Heap} {locs : List Loc} (h : vm_T X s s.heap) (hS : va_S (vm_A X) s.heap H locs) : va_T .int (vm_sa X 18) (vm_sl X) (fun k => .int (vm_sx X k)) (vm_A X) s H := va_T.kept h.2.2.2 hS.2.1
section VM_S
variable {p : Program} {l : Launch} {e : Env} {R : Room} {s : State} {m : MethodId} {args : Array Value} {below : List Frame} {meth : Method} {c : Code} {H : Heap} {locs : List Loc} {cells slots : Nat} {Q : State → Prop}
variable {cc : ByteArray} {pc : Nat} {ls : Array Slot} {rest : List Value}
theorem vm_Wtald (hexec : p.tables.exec = Jvm.exec) (hb : c.code = cc) {t N : Nat} {f : Nat → Int32} {A : Nat → Prop} (hT : va_T .int t N (fun k => .int (f k)) A s H) {j : Int32} (hin : vp_in j N) (hdg : decode cc pc = .ok (.iaload, 1))
    (kk : W p l e R s m args below meth c H locs cells slots Q (F0 m (pc + 1) ls (.int (f j.toNatClampNeg) :: rest))) : W p l e R s m args below meth c H locs cells slots Q (F0 m pc ls (.int j :: .ref t :: rest)) := by
  obtain ⟨cell, h1, h2, h3, h4, h5, h6, h7⟩ := hT
  have hlt : j.toNatClampNeg < N := Nat.not_le.mp fun q => hin (Or.inr q)
  exact W.iald hexec hb h1 h2 h3 (fun q => hin (q.imp id fun z => Nat.le_trans h4 z)) (h6 _ hlt) rfl rfl hdg kk
theorem vm_Wtlen (hexec : p.tables.exec = Jvm.exec) (hb : c.code = cc) {t N : Nat} {f : Nat → Value} {A : Nat → Prop} (hT : va_T .int t N f A s H) (hdg : decode cc pc = .ok (.arraylength, 1))
    (kk : W p l e R s m args below meth c H locs cells slots Q (F0 m (pc + 1) ls (.int (Int32.ofNat N) :: rest))) : W p l e R s m args below meth c H locs cells slots Q (F0 m pc ls (.ref t :: rest)) := by
  obtain ⟨cell, h1, h2, h3, h4, h5, h6, h7⟩ := hT
  exact W.alen hexec hb h1 h2 h5 rfl rfl hdg kk
theorem vm_Wldcwf (hexec : p.tables.exec = Jvm.exec) (hb : c.code = cc) {own : String} {index : Nat} {v : UInt32} (hown : s.vm.findClass own = some m.cls) (hconst : (Jvm.Cond.constantFloat own index v).before args s = true) (hdg : decode cc pc = .ok (.ldc_w index, 3)) (k : W p l e R s m args below meth c H locs cells slots Q (F0 m (pc + 3) ls (.float v :: rest))) : W p l e R s m args below meth c H locs cells slots Q (F0 m pc ls rest) := by
  intro T hT X
  obtain ⟨t, a, b⟩ := k T hT X
  refine ⟨t, ?_, b⟩
  obtain ⟨kk, cf, hk, hcf, hcp⟩ := Cond.constantFloat_spec hown hconst
  obtain ⟨k', hk', he⟩ := X.warmed.alike.2.2 _ _ hk
  subst hb
  jvm_step X.here [hexec, hdg, ldc_w.wp_float (s := T) (f := F0 m pc ls rest) X.here.top hk' (by rw [he]; exact hcf) hcp]
  exact a
end VM_S
