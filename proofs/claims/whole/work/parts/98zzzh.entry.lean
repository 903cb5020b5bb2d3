/-- THE ENTRY: what the machine gives at the law's first instruction -/
theorem ws_obj {s : State} {args : Array Value} {C : String} (h : (Cond.arrayOver (.object C)).before args s = true) : ∃ cA, ArrOfT s cA (.object C) ∧ va_RA s cA (.object C) := by
  obtain ⟨comp, c, k, h1, h2, h3, h4, h5⟩ := Cond.arrayOver_spec h
  exact ⟨c, fun n z => ⟨(fun k h => by cases h), k, h3, comp, h4⟩, k, comp, h3, h4, h1, h5⟩
theorem ws_int {s : State} {args : Array Value} (h : (Cond.arrayClass .int).before args s = true) : ∃ cA, ArrOfT s cA .int ∧ va_RA s cA .int := by
  obtain ⟨c, k, comp, h1, h2, h3⟩ := Cond.arrayClass_spec h
  exact ⟨c, fun n z => ⟨(fun k h => by cases h), k, h2, comp, h3⟩, h1⟩
theorem ws_flo {s : State} {args : Array Value} (h : (Cond.arrayClass .float).before args s = true) : ∃ cA, ArrOfT s cA .float ∧ va_RA s cA .float := by
  obtain ⟨c, k, comp, h1, h2, h3⟩ := Cond.arrayClass_spec h
  exact ⟨c, fun n z => ⟨(fun k h => by cases h), k, h2, comp, h3⟩, h1⟩
theorem ws_tab {s : State} {args : Array Value} {A : Nat → Prop} {C n : String} {vs : List Int32} (hA : ∀ a : Nat, a < s.heap.size → ¬ A a) (hv : vs.length < 2 ^ 31) (hl : (Cond.laysStatic C n "[I").before args s = true) (hini : (Cond.initialized C).before args s = true) (harr : (Cond.arrayOf (.static C n "[I") .int).before args s = true) (hlen : (Cond.eq (.length (.static C n "[I")) (.int (Int32.ofNat vs.length))).before args s = true) (hel : ∀ j, j < vs.length → (Cond.eq (.elem (.static C n "[I") (.int (Int32.ofNat j))) (.int (vs.getD j 0))).before args s = true) : ∃ t : Nat, va_Z C n "[I" (.ref t) A s s.heap ∧ va_T .int t vs.length (fun j => .int (vs.getD j 0)) A s s.heap := by
  obtain ⟨t, h1, h2⟩ := va_Tof (args := args) (tm := .static C n "[I") (ty := .int) (N := vs.length) (f := fun j => .int (vs.getD j 0)) hv harr (Cond.eq_int hlen rfl) (fun j hj => Cond.eq_int (hel j hj) rfl) hA
  exact ⟨t, va_Zref hl hini h1 hA, h2⟩
def ws_F : List Cond := flatC (Jvm.Cond.and given_1 narrow_1)
def ws_c (q : String × String × List Int32) : List Cond := Cond.isRef (.static q.1 q.2.1 "[I") :: Cond.arrayOf (.static q.1 q.2.1 "[I") .int :: Cond.eq (.length (.static q.1 q.2.1 "[I")) (.int (Int32.ofNat q.2.2.length)) :: (List.range q.2.2.length).map fun j => Cond.eq (.elem (.static q.1 q.2.1 "[I") (.int (Int32.ofNat j))) (.int (q.2.2.getD j 0))
set_option maxRecDepth 1000000 in
theorem ws_eq : ws_F.take 251 = flatC given_1 ++ ([Cond.arrayOf (.arg 0) .int, Cond.le (.length (.arg 0)) (.int 3072)] ++ vm_stat.flatMap ws_c) := by rfl
theorem ws_ok : (vm_stat.all fun q => decide (Cond.laysStatic q.1 q.2.1 "[I" ∈ lw_tbl) && decide (Cond.initialized q.1 ∈ lw_tbl)) = true := by decide +kernel
theorem ws_len : (vm_stat.all fun q => decide (q.2.2.length < 2 ^ 31)) = true := by decide +kernel
theorem ws_all {s : State} {args : Array Value} {A : Nat → Prop} (hA : ∀ a : Nat, a < s.heap.size → ¬ A a) (hts : ∀ w ∈ lw_tbl, w.before args s = true) (hg : (Jvm.Cond.and given_1 narrow_1).before args s = true) (q : String × String × List Int32) (hq : q ∈ vm_stat) : ∃ t : Nat, va_Z q.1 q.2.1 "[I" (.ref t) A s s.heap ∧ va_T .int t q.2.2.length (fun j => .int (q.2.2.getD j 0)) A s s.heap := by
  have hF := flat_of_before _ hg
  have h := List.all_eq_true.mp ws_ok q hq
  simp only [Bool.and_eq_true, decide_eq_true_eq] at h
  have hm : ∀ w ∈ ws_c q, w.before args s = true := fun w hw => hF w (by
    refine List.mem_of_mem_take (i := 251) (l := ws_F) ?_
    rw [ws_eq]
    exact List.mem_append_right _ (List.mem_append_right _ (List.mem_flatMap.mpr ⟨q, hq, hw⟩)))
  refine ws_tab hA (of_decide_eq_true (List.all_eq_true.mp ws_len q hq)) (hts _ h.1) (hts _ h.2) (hm _ (List.mem_cons_of_mem _ List.mem_cons_self)) (hm _ (List.mem_cons_of_mem _ (List.mem_cons_of_mem _ List.mem_cons_self))) fun j hj => hm _ (List.mem_cons_of_mem _ (List.mem_cons_of_mem _ (List.mem_cons_of_mem _ (List.mem_map.mpr ⟨j, List.mem_range.mpr hj, rfl⟩))))
theorem ws_arr : (decide (Cond.arrayClass .int ∈ lw_tbl) && decide (Cond.arrayClass .float ∈ lw_tbl) && decide (Cond.arrayOver (.object "DitherDesk$Picture") ∈ lw_tbl) && decide (Cond.arrayOver (.object "DitherDesk$Palette") ∈ lw_tbl) && decide (Cond.arrayOver (.object "DitherDesk$Box") ∈ lw_tbl) && decide (Cond.arrayOver (.object "DitherDesk$Tape") ∈ lw_tbl)) = true := by decide +kernel
theorem ws_C {p : Program} {s : State} {m : MethodId} {meth : Method} {c : Code} {b L : Nat} {xs : Nat → Int32} (C0 : lw_At p s m meth c b L xs) : ∃ X : vm_Cx, vm_N0 X = s.heap.size ∧ vm_sa X 18 = b ∧ vm_sl X = L ∧ vm_C X ⟨x.cls, meth.name, x.desc⟩ code 4 room_1 p room_1 s m #[Value.ref b] meth c := by
  obtain ⟨hx, hb, hr, hml, hown, hts, hX, hbl, hlocks, hgv⟩ := C0
  have hTB : ∀ w ∈ vm_TB, w.before #[Value.ref b] s = true := fun w hw => hts w (List.mem_filter.mp hw).1
  have hA : ∀ a : Nat, a < s.heap.size → ¬ s.heap.size ≤ a := fun a h => Nat.not_le.mpr h
  -- the classes
  have hc : ∀ k : Nat, ∃ d : ClassId × (Nat → Nat), ∀ q : vw_C, vm_cl[k]? = some q → u_Kn s q.1 q.2.1 q.2.2 d.1 d.2 := fun k => by
    by_cases hk : ∃ q, vm_cl[k]? = some q
    · obtain ⟨q, hq⟩ := hk
      obtain ⟨h1, h2, h3, h4, h5, h6, h7⟩ := vm_clF k q hq
      obtain ⟨cC, iS, hKn⟩ := u_known hTB h1 (hTB _ h5)
      exact ⟨(cC, iS), fun q' hq' => by cases hq.symm.trans hq'; exact hKn⟩
    · exact ⟨(0, fun _ => 0), fun q hq => absurd ⟨q, hq⟩ hk⟩
  obtain ⟨d, hd⟩ := Classical.axiomOfChoice hc
  -- the arrays' classes
  have ha := ws_arr
  simp only [Bool.and_eq_true, decide_eq_true_eq] at ha
  obtain ⟨⟨⟨⟨⟨a0, a1⟩, a2⟩, a3⟩, a4⟩, a5⟩ := ha
  obtain ⟨c0, k0⟩ := ws_int (hts _ a0)
  obtain ⟨c1, k1⟩ := ws_flo (hts _ a1)
  obtain ⟨c2, k2⟩ := ws_obj (hts _ a2)
  obtain ⟨c3, k3⟩ := ws_obj (hts _ a3)
  obtain ⟨c4, k4⟩ := ws_obj (hts _ a4)
  obtain ⟨c5, k5⟩ := ws_obj (hts _ a5)
  -- the statics
  have hst : ∀ i : Nat, ∃ t : Nat, (i = 18 → t = b) ∧ ∀ q : String × String × List Int32, vm_stat[i]? = some q → va_Z q.1 q.2.1 "[I" (.ref t) (fun q : Nat => s.heap.size ≤ q) s s.heap ∧ va_T .int t q.2.2.length (fun j => .int (q.2.2.getD j 0)) (fun q : Nat => s.heap.size ≤ q) s s.heap := fun i => by
    by_cases hi : ∃ q, vm_stat[i]? = some q
    · obtain ⟨q, hq⟩ := hi
      obtain ⟨t, ht⟩ := ws_all hA hts hgv q (List.mem_of_getElem? hq)
      refine ⟨t, fun h => ?_, fun q' hq' => by cases hq.symm.trans hq'; exact ht⟩
      subst h
      cases hq
    · exact ⟨b, fun _ => rfl, fun q hq => absurd ⟨q, hq⟩ hi⟩
  obtain ⟨sa, hsa⟩ := Classical.axiomOfChoice hst
  refine ⟨((fun k => (d k).1, fun k => (d k).2), fun k => match k with | 0 => c0 | 1 => c1 | 2 => c2 | 3 => c3 | 4 => c4 | _ => c5, s.heap.size, sa, L, xs), rfl, (hsa 18).1 rfl, rfl, hx, hb, hml, hown, hTB, rfl, ⟨⟨fun k q hq => hd k q hq, fun k q hq => ?_⟩, fun w hw => ?_, fun i q hq => (hsa i).2 q hq, ?_⟩, fun q h => h, rfl⟩
  · match k, hq with
    | 0, hq => cases hq; exact k0
    | 1, hq => cases hq; exact k1
    | 2, hq => cases hq; exact k2
    | 3, hq => cases hq; exact k3
    | 4, hq => cases hq; exact k4
    | 5, hq => cases hq; exact k5
    | k + 6, hq => cases hq
  · obtain ⟨h1, h2⟩ := List.mem_filter.mp hw
    have h3 := hts w h1
    unfold vm_isN at h2
    split at h2
    · exact va_Nw.of rfl h3
    · exact va_Nw.of rfl h3
    · exact h3
    · cases h2
  · obtain ⟨scr, g1, g2, g3, g4, g5⟩ := hX
    show va_T .int (sa 18) L (fun j => .int (xs j)) (fun q : Nat => s.heap.size ≤ q) s s.heap
    rw [(hsa 18).1 rfl]
    exact ⟨scr, g1, g2, g3, Nat.le_of_eq g4.symm, by rw [g4], g5, Nat.not_le.mpr hbl⟩
/-- the frame at the entry is the small machine's -/
theorem ws_S {s : State} {X : vm_Cx} {b : Nat} {ls : Array Slot} (hN : vm_N0 X = s.heap.size) (hb : vm_sa X 18 = b) (hl : lv_has ls 4 (lv_args 0 [.ref b])) : vm_S X s s.heap [] (vm_e0 [.ref 100018] 4) ls lq_h0 := by
  refine ⟨fun k q h => ?_, hN.symm, Nat.zero_le _, va_S.rf, ?_⟩
  · exact nomatch h
  · refine ⟨hl.1, hl.2.1, fun q hq => ?_⟩
    have hq' : q ∈ [(0, Value.ref (vm_ad X 100018))] := hq
    rw [List.mem_singleton] at hq'
    rw [hq']
    show ls[0]? = some (.val (.ref (vm_ad X 100018)))
    rw [show vm_ad X 100018 = b from hb]
    exact hl.2.2 (0, .ref b) List.mem_cons_self
/-- THE LAW, from its entry -/
theorem whole_start {p : Program} {e : Env} {s : State} {m : MethodId} {below : List Frame} {meth : Method} {c : Code} (l : Launch) (hflags : l.flags = flags0) {b L : Nat} {xs : Nat → Int32} (hL : L ≤ 3072) (C0 : lw_At p s m meth c b L xs) : W p l e room_1 s m #[Value.ref b] below meth c s.heap [] 0 0 (lw_Z below #[Value.ref b] s) (entryFrame m ([Value.ref b] : List Value).toArray 4) := by
  obtain ⟨X, hN, hb18, hsl, hC⟩ := ws_C C0
  obtain ⟨hx, hb, hr, hml, hown, hts, hX, hbl, hlocks, hgv⟩ := id C0
  have hl := lv_entry ([.ref b]) (n := 4) (Nat.le_of_ble_eq_true rfl)
  rw [lg_entry_eq]
  generalize (lg_sl ([.ref b]) ++ List.replicate (4 - (lg_sl ([.ref b])).length) Slot.unset).toArray = ls at hl ⊢
  obtain ⟨h', hJ⟩ := lq_law meth.name l X (by rw [hsl]; exact hL)
  refine hJ p e room_1 s m #[Value.ref b] below meth c _ hC s.heap [] ls (ws_S hN hb18 hl) rfl ?_
  intro H' locs' ls' pc' i hdg hrt hP' hz' hle hS'
  have hi : i = .ireturn := by
    unfold vm_rt at hrt
    split at hrt <;> first | rfl | exact hrt.elim | (rename_i h1 h2; cases h2)
  subst hi
  refine va_forget (fun q hq => ?_) ?_
  · have := hS'.2.2 q hq
    rw [← hN]
    exact this
  have hd0 := Drawn.sameBut.refl s.drawn lw_cs
  refine W.base ?_
  exact lw_ret hd0 hx hb hr hlocks hdg
