theorem vm_asg {s : State} {c : ClassId} {k : Class} (_ : s.vm.classes[c]? = some k) : s.vm.assignable c c = true := va_asg s.vm c
theorem vm_dfs (ci : Nat) : ∀ w ∈ vm_df ci, w = .int 0 ∨ w = .null := by
  match ci with
  | 0 => decide +kernel
  | 1 => decide +kernel
  | 2 => decide +kernel
  | 3 => decide +kernel
  | 4 => decide +kernel
  | 5 => decide +kernel
  | 6 => decide +kernel
  | 7 => decide +kernel
  | 8 => decide +kernel
  | 9 => decide +kernel
  | 10 => decide +kernel
  | n + 11 => show ∀ w ∈ vm_d11, _; decide +kernel
theorem vm_arrI : Cond.arrayClass (newarray.typeOf .int) ∈ vm_TB := vm_inTB (by decide +kernel)
theorem vm_arrF : Cond.arrayClass (newarray.typeOf .float) ∈ vm_TB := vm_inTB (by decide +kernel)
theorem vm_inNW {w : Cond} (h : (decide (w ∈ lw_tbl) && vm_isN w) = true) : w ∈ vm_NW := by
  simp only [Bool.and_eq_true, decide_eq_true_eq] at h
  exact List.mem_filter.mpr h
theorem vm_ov0 : Cond.arrayOver (.object "DitherDesk$Picture") ∈ vm_NW := vm_inNW (by decide +kernel)
theorem vm_ov1 : Cond.arrayOver (.object "DitherDesk$Palette") ∈ vm_NW := vm_inNW (by decide +kernel)
theorem vm_ov2 : Cond.arrayOver (.object "DitherDesk$Box") ∈ vm_NW := vm_inNW (by decide +kernel)
theorem vm_ov3 : Cond.arrayOver (.object "DitherDesk$Tape") ∈ vm_NW := vm_inNW (by decide +kernel)
theorem vm_tq {X : vm_Cx} {c : Nat} (h : (Nat.ble 50 c && Nat.blt c 54) = true) : ∃ C : String, (vm_tys X)[c - 48]? = some (vm_cA X (c - 48), .object C) := by
  have h2 : c = 50 ∨ c = 51 ∨ c = 52 ∨ c = 53 := by
    simp only [Bool.and_eq_true, Nat.ble_eq, Nat.blt_eq] at h
    omega
  rcases h2 with rfl | rfl | rfl | rfl
  · exact ⟨_, rfl⟩
  · exact ⟨_, rfl⟩
  · exact ⟨_, rfl⟩
  · exact ⟨_, rfl⟩
/-- a world with one row's contents changed: what a store leaves -/
theorem vm_S.put {X : vm_Cx} {s : State} {H H1 : Heap} {locs locs1 : List Loc} {L : List Value} {ls : Array Slot} {G G2 : List vm_Sh} {I I2 : Nat → Nat → Int32} {F F2 : Nat → Nat → UInt32} (hS : vm_S X s H locs L ls (G, I, F)) (hP : va_P X.1 vm_cl (vm_ws X (G2, I2, F2)) H1) (hz : H1.size = H.size) (hl : G2.length = G.length) (hS1 : va_S (vm_A X) s.heap H1 locs1) : vm_S X s H1 locs1 L ls (G2, I2, F2) :=
  ⟨hP, by rw [hz, hS.2.1]; show _ = _ + G2.length; rw [hl], by show G2.length ≤ _; rw [hl]; exact hS.2.2.1, hS1, hS.2.2.2.2⟩
/-- a world with one cell more -/
theorem vm_S.push {X : vm_Cx} {s : State} {H H1 : Heap} {locs : List Loc} {L : List Value} {ls : Array Slot} {G : List vm_Sh} {I I2 : Nat → Nat → Int32} {F F2 : Nat → Nat → UInt32} {sh : vm_Sh} (hS : vm_S X s H locs L ls (G, I, F)) (hlt : G.length < 99999) (hne : ∀ j, j ≠ G.length → I2 j = I j ∧ F2 j = F j) (hz : H1.size = H.size + 1) (hq : ∀ q : Nat, q < H.size → H1[q]? = H[q]?) (hat : va_at X.1 vm_cl (vm_N0 X + G.length, vm_en X sh (I2 G.length) (F2 G.length)) H1) : vm_S X s H1 locs L ls (G ++ [sh], I2, F2) := by
  refine ⟨?_, by rw [hz, hS.2.1]; show _ = _ + (G ++ [sh]).length; simp; rfl, by show (G ++ [sh]).length ≤ _; simp; omega, ⟨by rw [hz]; exact Nat.le_succ_of_le hS.2.2.2.1.1, fun q h1 h2 => (hq q (Nat.lt_of_lt_of_le h1 hS.2.2.2.1.1)).trans (hS.2.2.2.1.2.1 q h1 h2), hS.2.2.2.1.2.2⟩, hS.2.2.2.2⟩
  rw [vm_ws_push hne]
  refine (hS.1.kept fun k q hk => hq q.1 (hS.1 k q hk).lt).app fun k q hk => ?_
  have hk1 : k < 1 := (List.getElem?_eq_some_iff.mp hk).1
  have : k = 0 := by omega
  subst this
  cases hk
  exact hat
section VM_G
variable {X : vm_Cx} {y : MethodName} {bs : ByteArray} {nL : Nat} {R0 : Room} {l : Launch} {pc len : Nat} {xs : List Nat} {v : Value}
set_option maxHeartbeats 1000000 in
theorem vm_g_arraylength : vm_G X y bs nL R0 l (pc, .arraylength, len, xs, v) := by
  intro p e R s m args below meth c Q hC hck hdg cs L st G I F hs pc' cs' L' st' G' I' F' hs' h1 H locs ls hS kk
  obtain ⟨hx, hb, hml, hown, hts, hnm, hTT, hA, hR⟩ := id hC
  unfold vm_1 at h1
  unfold vm_ck at hck
  dsimp only at h1 hck hdg ⊢
  have hlen : len = 1 := by simpa using hck
  subst hlen
  obtain ⟨a, r, rfl, h2⟩ := vm_r1_i h1
  clear h1
  obtain ⟨sh, hs2, rfl, h1⟩ := vm_hs_i h2
  clear h2
  split at h1
  · rename_i hk
    obtain ⟨e1, e2, e3, hok⟩ := vm_inj h1
    cases e1
    cases e2
    simp only [Bool.and_eq_true] at hok
    have ha : a = 100000 + sh.2.1 := Nat.eq_of_beq_eq_true hok.1
    subst ha
    show W p l e R s m args below meth c H locs cs.1 cs.2 Q (F0 m pc ls (Value.ref (vm_ad X (100000 + sh.2.1)) :: r.map (vm_v X)))
    rw [vm_ad_st]
    exact vm_Wtlen hx hb (hTT.row hS.2.2.2.1 hok.2) hdg (kk H locs ls hS)
  · rename_i hk
    obtain ⟨e1, e2, e3, hok⟩ := vm_inj h1
    cases e1
    cases e2
    have ha : a = 100000 + 18 := Nat.eq_of_beq_eq_true hok
    subst ha
    show W p l e R s m args below meth c H locs cs.1 cs.2 Q (F0 m pc ls (Value.ref (vm_ad X (100000 + 18)) :: r.map (vm_v X)))
    rw [vm_ad_st]
    exact vm_Wtlen hx hb (hTT.srow hS.2.2.2.1) hdg (kk H locs ls hS)
  · rename_i hk
    obtain ⟨e1, e2, e3, hok⟩ := vm_inj h1
    cases e1
    cases e2
    have hg := vm_isG_i hok
    have hat := vm_ws_at (X := X) (I := I) (F := F) hg
    rw [vm_en_0 hk] at hat
    show W p l e R s m args below meth c H locs cs.1 cs.2 Q (F0 m pc ls (Value.ref (vm_ad X a) :: r.map (vm_v X)))
    rw [vm_ad_lt hg hS.2.2.1]
    exact va_alen hx hb hTT.1 hS.1 a 0 hat rfl rfl hdg (kk H locs ls hS)
  · rename_i hk
    obtain ⟨e1, e2, e3, hok⟩ := vm_inj h1
    cases e1
    cases e2
    have hg := vm_isG_i hok
    have hat := vm_ws_at (X := X) (I := I) (F := F) hg
    rw [vm_en_1 hk] at hat
    show W p l e R s m args below meth c H locs cs.1 cs.2 Q (F0 m pc ls (Value.ref (vm_ad X a) :: r.map (vm_v X)))
    rw [vm_ad_lt hg hS.2.2.1]
    exact va_alen hx hb hTT.1 hS.1 a 1 hat rfl rfl hdg (kk H locs ls hS)
  · rename_i n h60 h61 hk
    obtain ⟨e1, e2, e3, hok⟩ := vm_inj h1
    cases e1
    cases e2
    rw [Bool.and_eq_true] at hok
    have hg := vm_isG_i hok.1
    have hat := vm_ws_at (X := X) (I := I) (F := F) hg
    have h50 : 50 ≤ n := by
      have := hok.2
      simp only [Bool.and_eq_true, Nat.ble_eq, Nat.blt_eq] at this
      exact this.1
    rw [vm_en_q hk h50] at hat
    obtain ⟨C, hC⟩ := vm_tq (X := X) hok.2
    show W p l e R s m args below meth c H locs cs.1 cs.2 Q (F0 m pc ls (Value.ref (vm_ad X a) :: r.map (vm_v X)))
    rw [vm_ad_lt hg hS.2.2.1]
    exact va_alen hx hb hTT.1 hS.1 a (n - 48) hat hC rfl hdg (kk H locs ls hS)
set_option maxHeartbeats 1000000 in
theorem vm_g_iaload : vm_G X y bs nL R0 l (pc, .iaload, len, xs, v) := by
  intro p e R s m args below meth c Q hC hck hdg cs L st G I F hs pc' cs' L' st' G' I' F' hs' h1 H locs ls hS kk
  obtain ⟨hx, hb, hml, hown, hts, hnm, hTT, hA, hR⟩ := id hC
  unfold vm_1 at h1
  unfold vm_ck at hck
  dsimp only at h1 hck hdg ⊢
  have hlen : len = 1 := by simpa using hck
  subst hlen
  obtain ⟨j, r0, rfl, h3⟩ := vm_i1_i h1
  clear h1
  obtain ⟨a, r, rfl, h2⟩ := vm_r1_i h3
  clear h3
  obtain ⟨sh, hs2, rfl, h1⟩ := vm_hs_i h2
  clear h2
  split at h1
  · rename_i hk
    obtain ⟨e1, e2, e3, hok⟩ := vm_inj h1
    cases e1
    cases e2
    simp only [Bool.and_eq_true] at hok
    have hg := vm_isG_i hok.1
    have hat := vm_ws_at (X := X) (I := I) (F := F) hg
    rw [vm_en_0 hk] at hat
    show W p l e R s m args below meth c H locs cs.1 cs.2 Q (F0 m pc ls (Value.int j :: Value.ref (vm_ad X a) :: r.map (vm_v X)))
    rw [vm_ad_lt hg hS.2.2.1]
    exact va_iald hx hb hTT.1 hS.1 a 0 hat rfl (vm_in_i hok.2) hdg (kk H locs ls hS)
  · rename_i hk
    obtain ⟨e1, e2, e3, hok⟩ := vm_inj h1
    cases e1
    cases e2
    simp only [Bool.and_eq_true] at hok
    have ha : a = 100000 + sh.2.1 := Nat.eq_of_beq_eq_true hok.1.1
    subst ha
    show W p l e R s m args below meth c H locs cs.1 cs.2 Q (F0 m pc ls (Value.int j :: Value.ref (vm_ad X (100000 + sh.2.1)) :: r.map (vm_v X)))
    rw [vm_ad_st]
    exact vm_Wtald hx hb (hTT.row hS.2.2.2.1 hok.1.2) (vm_in_i hok.2) hdg (kk H locs ls hS)
  · rename_i hk
    obtain ⟨e1, e2, e3, hok⟩ := vm_inj h1
    cases e1
    cases e2
    simp only [Bool.and_eq_true] at hok
    have ha : a = 100000 + 18 := Nat.eq_of_beq_eq_true hok.1
    subst ha
    show W p l e R s m args below meth c H locs cs.1 cs.2 Q (F0 m pc ls (Value.int j :: Value.ref (vm_ad X (100000 + 18)) :: r.map (vm_v X)))
    rw [vm_ad_st]
    exact vm_Wtald hx hb (hTT.srow hS.2.2.2.1) (vm_in_i hok.2) hdg (kk H locs ls hS)
  · cases h1
set_option maxHeartbeats 1000000 in
theorem vm_g_faload : vm_G X y bs nL R0 l (pc, .faload, len, xs, v) := by
  intro p e R s m args below meth c Q hC hck hdg cs L st G I F hs pc' cs' L' st' G' I' F' hs' h1 H locs ls hS kk
  obtain ⟨hx, hb, hml, hown, hts, hnm, hTT, hA, hR⟩ := id hC
  unfold vm_1 at h1
  unfold vm_ck at hck
  dsimp only at h1 hck hdg ⊢
  have hlen : len = 1 := by simpa using hck
  subst hlen
  obtain ⟨j, r0, rfl, h3⟩ := vm_i1_i h1
  clear h1
  obtain ⟨a, r, rfl, h2⟩ := vm_r1_i h3
  clear h3
  obtain ⟨sh, hs2, rfl, h1⟩ := vm_hs_i h2
  clear h2
  split at h1
  · rename_i hk
    obtain ⟨e1, e2, e3, hok⟩ := vm_inj h1
    cases e1
    cases e2
    simp only [Bool.and_eq_true] at hok
    have hg := vm_isG_i hok.1
    have hat := vm_ws_at (X := X) (I := I) (F := F) hg
    rw [vm_en_1 hk] at hat
    show W p l e R s m args below meth c H locs cs.1 cs.2 Q (F0 m pc ls (Value.int j :: Value.ref (vm_ad X a) :: r.map (vm_v X)))
    rw [vm_ad_lt hg hS.2.2.1]
    exact va_fald hx hb hTT.1 hS.1 a 1 hat rfl (vm_in_i hok.2) hdg (kk H locs ls hS)
  · cases h1
set_option maxHeartbeats 1000000 in
theorem vm_g_iastore : vm_G X y bs nL R0 l (pc, .iastore, len, xs, v) := by
  intro p e R s m args below meth c Q hC hck hdg cs L st G I F hs pc' cs' L' st' G' I' F' hs' h1 H locs ls hS kk
  obtain ⟨hx, hb, hml, hown, hts, hnm, hTT, hA, hR⟩ := id hC
  unfold vm_1 at h1
  unfold vm_ck at hck
  dsimp only at h1 hck hdg ⊢
  have hlen : len = 1 := by simpa using hck
  subst hlen
  obtain ⟨j, x, r0, rfl, h3⟩ := vm_i2_i h1
  clear h1
  obtain ⟨a, r, rfl, h2⟩ := vm_r1_i h3
  clear h3
  obtain ⟨sh, hs2, rfl, h1⟩ := vm_hs_i h2
  clear h2
  split at h1
  · rename_i hk
    obtain ⟨e1, e2, e3, hok⟩ := vm_inj h1
    cases e1
    cases e2
    simp only [Bool.and_eq_true] at hok
    have hg := vm_isG_i hok.1
    have hat := vm_ws_at (X := X) (I := I) (F := F) hg
    rw [vm_en_0 hk] at hat
    have had : va_P X.1 vm_cl (vm_ws X (G, I, F)) H := hS.1
    show W p l e R s m args below meth c H locs cs.1 cs.2 Q (F0 m pc ls (Value.int x :: Value.int j :: Value.ref (vm_ad X a) :: _))
    rw [vm_ad_lt hg hS.2.2.1]
    have hcell := hS.1 a _ hat
    refine W.iast hx hb hcell ((hTT.1.2 0 _ rfl).1 sh.2.1 (fun k => .int (I a k))) (fun q => by cases q) (by show ¬ (j < 0 ∨ (arrV _ _ _).slots.size ≤ _); rw [arrV_size]; exact vm_in_i hok.2) rfl rfl hdg fun H1 e1 z oq => ?_
    refine kk H1 _ ls (hS.put ?_ z rfl (hS.2.2.2.1.put z oq (Nat.le_add_right _ _)))
    rw [← vm_ws_set (X := X) (I := I) (F := F) (sh' := sh) (e' := .inl (vm_cA X 0, sh.2.1, .inl (vm_up I a j.toNatClampNeg x a))) (List.getElem?_eq_some_iff.mp hg).1 rfl (fun k hk2 => ⟨rfl, vm_up_o I a _ x k hk2, rfl⟩) hg (vm_en_0 hk)]
    refine hS.1.set (vm_D (X := X)) hat ?_ oq
    show H1[_]? = some (vp_cell _ _)
    rw [e1, vp_cell_i, vp_cell_i, arrV_store]
    congr 2
    funext k
    by_cases hkj : k = j.toNatClampNeg
    · simp [updV, vm_up, hkj]
    · simp [updV, vm_up, hkj]
  · cases h1
set_option maxHeartbeats 1000000 in
theorem vm_g_fastore : vm_G X y bs nL R0 l (pc, .fastore, len, xs, v) := by
  intro p e R s m args below meth c Q hC hck hdg cs L st G I F hs pc' cs' L' st' G' I' F' hs' h1 H locs ls hS kk
  obtain ⟨hx, hb, hml, hown, hts, hnm, hTT, hA, hR⟩ := id hC
  unfold vm_1 at h1
  unfold vm_ck at hck
  dsimp only at h1 hck hdg ⊢
  have hlen : len = 1 := by simpa using hck
  subst hlen
  obtain ⟨x, r1, rfl, h4⟩ := vm_f1_i h1
  clear h1
  obtain ⟨j, r0, rfl, h3⟩ := vm_i1_i h4
  clear h4
  obtain ⟨a, r, rfl, h2⟩ := vm_r1_i h3
  clear h3
  obtain ⟨sh, hs2, rfl, h1⟩ := vm_hs_i h2
  clear h2
  split at h1
  · rename_i hk
    obtain ⟨e1, e2, e3, hok⟩ := vm_inj h1
    cases e1
    cases e2
    simp only [Bool.and_eq_true] at hok
    have hg := vm_isG_i hok.1
    have hat := vm_ws_at (X := X) (I := I) (F := F) hg
    rw [vm_en_1 hk] at hat
    show W p l e R s m args below meth c H locs cs.1 cs.2 Q (F0 m pc ls (Value.float x :: Value.int j :: Value.ref (vm_ad X a) :: _))
    rw [vm_ad_lt hg hS.2.2.1]
    have hcell := hS.1 a _ hat
    refine W.fast hx hb hcell ((hTT.1.2 1 _ rfl).1 sh.2.1 (fun k => .float (F a k))) (fun q => by cases q) (by show ¬ (j < 0 ∨ (arrV _ _ _).slots.size ≤ _); rw [arrV_size]; exact vm_in_i hok.2) rfl rfl hdg fun H1 e1 z oq => ?_
    refine kk H1 _ ls (hS.put ?_ z rfl (hS.2.2.2.1.put z oq (Nat.le_add_right _ _)))
    rw [← vm_ws_set (X := X) (I := I) (F := F) (sh' := sh) (e' := .inl (vm_cA X 1, sh.2.1, .inr (.inr (.inl (vm_up F a j.toNatClampNeg x a))))) (List.getElem?_eq_some_iff.mp hg).1 rfl (fun k hk2 => ⟨rfl, rfl, vm_up_o F a _ x k hk2⟩) hg (vm_en_1 hk)]
    refine hS.1.set (vm_D (X := X)) hat ?_ oq
    show H1[_]? = some (vp_cell _ _)
    rw [e1, vp_cell_f, vp_cell_f, arrV_store]
    congr 2
    funext k
    by_cases hkj : k = j.toNatClampNeg
    · simp [updV, vm_up, hkj]
    · simp [updV, vm_up, hkj]
  · cases h1
set_option maxHeartbeats 1000000 in
theorem vm_g_aaload : vm_G X y bs nL R0 l (pc, .aaload, len, xs, v) := by
  intro p e R s m args below meth c Q hC hck hdg cs L st G I F hs pc' cs' L' st' G' I' F' hs' h1 H locs ls hS kk
  obtain ⟨hx, hb, hml, hown, hts, hnm, hTT, hA, hR⟩ := id hC
  unfold vm_1 at h1
  unfold vm_ck at hck
  dsimp only at h1 hck hdg ⊢
  have hlen : len = 1 := by simpa using hck
  subst hlen
  obtain ⟨j, r0, rfl, h3⟩ := vm_i1_i h1
  clear h1
  obtain ⟨a, r, rfl, h2⟩ := vm_r1_i h3
  clear h3
  obtain ⟨sh, hs2, rfl, h1⟩ := vm_hs_i h2
  clear h2
  have key : ∀ (w : Value) (n : Nat), sh.2.2[j.toNatClampNeg]? = some w → va_rf (vm_re X sh.2.2 j.toNatClampNeg) = vm_v X w → sh.1 = n + 2 → (vm_isG G a sh && vm_in j sh.2.1 && (Nat.ble 50 n && Nat.blt n 54)) = true →
      W p l e R s m args below meth c H locs cs.1 cs.2 Q (F0 m (pc + 1) ls (vm_v X w :: r.map (vm_v X))) → W p l e R s m args below meth c H locs cs.1 cs.2 Q (F0 m pc ls ((Value.int j :: Value.ref a :: r).map (vm_v X))) := by
    intro w n hw hrf hk hok kw
    rw [Bool.and_eq_true, Bool.and_eq_true] at hok
    have hg := vm_isG_i hok.1.1
    have hat := vm_ws_at (X := X) (I := I) (F := F) hg
    have h50 : 50 ≤ n := by
      have := hok.2
      simp only [Bool.and_eq_true, Nat.ble_eq, Nat.blt_eq] at this
      exact this.1
    rw [vm_en_q hk h50] at hat
    obtain ⟨C, hC⟩ := vm_tq (X := X) hok.2
    show W p l e R s m args below meth c H locs cs.1 cs.2 Q (F0 m pc ls (Value.int j :: Value.ref (vm_ad X a) :: r.map (vm_v X)))
    rw [vm_ad_lt hg hS.2.2.1]
    refine va_aldq hx hb hTT.1 hS.1 a (n - 48) hat hC (vm_in_i hok.1.2) hdg ?_
    rw [hrf]
    exact kw
  rcases vm_ka_i h1 with ⟨b, hl, h2⟩ | ⟨hl, h2⟩
  · clear h1
    split at h2
    · rename_i n hk
      obtain ⟨e1, e2, e3, hok⟩ := vm_inj h2
      cases e1
      cases e2
      exact key (.ref b) n hl (by unfold vm_re; rw [hl]; rfl) hk hok (kk H locs ls hS)
    · cases h2
  · clear h1
    split at h2
    · rename_i n hk
      obtain ⟨e1, e2, e3, hok⟩ := vm_inj h2
      cases e1
      cases e2
      exact key .null n hl (by unfold vm_re; rw [hl]; rfl) hk hok (kk H locs ls hS)
    · cases h2
set_option maxHeartbeats 1000000 in
theorem vm_g_aastore : vm_G X y bs nL R0 l (pc, .aastore, len, xs, v) := by
  intro p e R s m args below meth c Q hC hck hdg cs L st G I F hs pc' cs' L' st' G' I' F' hs' h1 H locs ls hS kk
  obtain ⟨hx, hb, hml, hown, hts, hnm, hTT, hA, hR⟩ := id hC
  unfold vm_1 at h1
  unfold vm_ck at hck
  dsimp only at h1 hck hdg ⊢
  have hlen : len = 1 := by simpa using hck
  subst hlen
  obtain ⟨b, r2, rfl, h5⟩ := vm_r1_i h1
  clear h1
  obtain ⟨j, r0, rfl, h3⟩ := vm_i1_i h5
  clear h5
  obtain ⟨a, r, rfl, h2⟩ := vm_r1_i h3
  clear h3
  obtain ⟨sh, hs2, rfl, h4⟩ := vm_hs_i h2
  clear h2
  obtain ⟨sv, hs3, rfl, h1⟩ := vm_hs_i h4
  clear h4
  split at h1
  · rename_i n d hk hd
    obtain ⟨e1, e2, e3, hok⟩ := vm_inj h1
    cases e1
    cases e2
    simp only [Bool.and_eq_true] at hok
    obtain ⟨⟨⟨⟨hG, hV⟩, hin⟩, hlen⟩, hkind⟩ := hok
    have hg := vm_isG_i hG
    have hv := vm_isG_i hV
    have hat := vm_ws_at (X := X) (I := I) (F := F) hg
    have hvt := vm_ws_at (X := X) (I := I) (F := F) hv
    have hn : sh.2.1 = sh.2.2.length := Nat.eq_of_beq_eq_true hlen
    have h50 : 50 ≤ n ∧ d < 50 ∧ ∃ q, vm_cl[d]? = some q ∧ (vm_tys X)[n - 48]? = some (vm_cA X (n - 48), .object q.1) := by
      split at hkind <;> first | exact ⟨by decide, by decide, _, rfl, rfl⟩ | cases hkind
    obtain ⟨h50, hd50, q, hcl, hC⟩ := h50
    rw [vm_en_q hk h50] at hat
    rw [vm_en_o hd hd50] at hvt
    have hlt := (List.getElem?_eq_some_iff.mp hg).1
    show W p l e R s m args below meth c H locs cs.1 cs.2 Q (F0 m pc ls (Value.ref (vm_ad X b) :: Value.int j :: Value.ref (vm_ad X a) :: _))
    rw [vm_ad_lt hg hS.2.2.1, vm_ad_lt hv hS.2.2.1]
    obtain ⟨kA, comp, f1, f2, f3, f4⟩ := (hTT.1.2 (n - 48) _ hC).2
    obtain ⟨q', hq', cellv, g1, g2, g3, -⟩ := hS.1 b _ hvt
    cases hcl.symm.trans hq'
    obtain ⟨-, hfq, kq, hkq, -⟩ := hTT.1.1 d _ hcl
    obtain ⟨kcomp, hkcomp, -⟩ := Vm.findClass_spec f3
    have hcell := hS.1 a _ hat
    have hvi := vm_in_i hin
    have hcc : comp = cellv.cls := by rw [g2]; exact Option.some.inj (f3.symm.trans hfq)
    refine W.aast hx hb hcell (fun q h => by cases h) (fun h => by cases h) f1 f2 rfl hkcomp ⟨fun z => hvi (Or.inl z), ?_⟩ g1 (fun z h => by rw [g3] at h; cases h) (by rw [g2]; exact hkq) (by rw [hcc]; exact vm_asg (by rw [g2]; exact hkq)) rfl rfl hdg fun H1 e1 z oq => ?_
    · show _ < (arrV _ _ _).slots.size
      rw [arrV_size]
      exact Nat.not_le.mp fun z => hvi (Or.inr z)
    refine kk H1 _ ls (hS.put ?_ z List.length_set (hS.2.2.2.1.put z oq (Nat.le_add_right _ _)))
    rw [← vm_ws_set (X := X) (I := I) (F := F) (G' := G.set a (sh.1, sh.2.1, sh.2.2.set j.toNatClampNeg (.ref b))) hlt List.length_set (fun k hk2 => ⟨by rw [List.getElem?_set_ne (Ne.symm hk2)], rfl, rfl⟩) (List.getElem?_set_self hlt) (vm_en_q (sh := (sh.1, sh.2.1, sh.2.2.set j.toNatClampNeg (.ref b))) hk h50)]
    refine hS.1.set (vm_D (X := X)) hat ?_ oq
    show H1[_]? = some (vp_cell _ _)
    rw [e1, vp_cell_q, vp_cell_q, arrV_store]
    congr 2
    funext k
    have hjl : j.toNatClampNeg < sh.2.2.length := by rw [← hn]; exact Nat.not_le.mp fun z => hvi (Or.inr z)
    by_cases hkj : k = j.toNatClampNeg
    · subst hkj
      simp [updV, vm_re, va_rf, hjl, vm_ad_lt hv hS.2.2.1]
    · simp [updV, vm_re, hkj, List.getElem?_set_ne (Ne.symm hkj)]
  · cases h1
set_option maxHeartbeats 1000000 in
theorem vm_g_new {i : Nat} : vm_G X y bs nL R0 l (pc, .new i, len, xs, v) := by
  intro p e R s m args below meth c Q hC hck hdg cs L st G I F hs pc' cs' L' st' G' I' F' hs' h1 H locs ls hS kk
  obtain ⟨hx, hb, hml, hown, hts, hnm, hTT, hA, hR⟩ := id hC
  unfold vm_1 at h1
  unfold vm_ck at hck
  dsimp only at h1 hck hdg ⊢
  obtain ⟨ci, ys, rfl, h2⟩ := vm_no_i h1
  clear h1
  cases ys with
  | nil => simp at hck
  | cons q ys =>
  dsimp only at hck
  simp only [Bool.and_eq_true, beq_iff_eq] at hck
  obtain ⟨⟨rfl, hci⟩, hw⟩ := hck
  obtain ⟨⟨C, T, N⟩, hcl⟩ := vm_clG hci
  obtain ⟨cIn, cTy, cAp, cOwn, cInst, cIni, cDf, cDv⟩ := vm_clF _ _ hcl
  dsimp only at cIn cTy cAp cOwn cInst cIni cDf cDv
  have hcc : vm_cc ci = C := by unfold vm_cc; rw [hcl]
  rw [hcc] at hw
  obtain ⟨e1, e2, e3, hok⟩ := vm_inj h2
  cases e1
  cases e2
  simp only [Bool.and_eq_true] at hok
  obtain ⟨⟨hlt, hmc⟩, hms⟩ := hok
  have hKn := hTT.1.1 ci _ hcl
  subst hR
  rw [cDf] at hms kk
  refine W.newcK hx hb hown (hts _ (vm_wT hw rfl)) (hts _ cInst) (hts _ cIni) rfl hdg (Nat.le_of_ble_eq_true hmc) (Nat.le_of_ble_eq_true hms) hKn.2.1 rfl fun H1 kC hkC f1 z1 o1 => ?_
  have e : vm_v X (.ref G.length) = .ref H.size := by
    show Value.ref (vm_ad X _) = _
    have := vm_blt hlt
    unfold vm_ad
    rw [if_pos (by omega), hS.2.1]
  have hk := kk H1 locs ls (hS.push (vm_blt hlt) (fun j hj => ⟨vm_zr_o _ I _ j hj, rfl⟩) z1 o1 ?_)
  · rw [List.map_cons, e] at hk
    exact hk
  · rw [vm_en_o (c := ci) rfl (by have := vm_blt hci; omega), vm_zr_s]
    rw [show vm_N0 X + G.length = H.size from hS.2.1.symm]
    refine ⟨_, hcl, (u_born (vm_ty ci) hts cIn hKn hkC f1 cTy).to fun j hj => ?_⟩
    rw [cDv j hj]
    have hj2 : j < (vm_df ci).length := by rw [cDf]; exact hj
    unfold vp_V
    rw [List.getD_eq_getElem?_getD, List.getD_eq_getElem?_getD, List.getElem?_mapIdx, List.getElem?_eq_getElem hj2]
    have hd : (vm_df ci)[j] = .int 0 ∨ (vm_df ci)[j] = .null := by
      have h0 := List.getElem_mem hj2
      have h1 : ∀ w ∈ vm_df ci, w = .int 0 ∨ w = .null := vm_dfs ci
      exact h1 _ h0
    rcases hd with hd | hd <;> rw [hd] <;> rfl
set_option maxHeartbeats 1000000 in
theorem vm_g_newarray {ty : ClassFile.ArrayType} : vm_G X y bs nL R0 l (pc, .newarray ty, len, xs, v) := by
  intro p e R s m args below meth c Q hC hck hdg cs L st G I F hs pc' cs' L' st' G' I' F' hs' h1 H locs ls hS kk
  obtain ⟨hx, hb, hml, hown, hts, hnm, hTT, hA, hR⟩ := id hC
  unfold vm_1 at h1
  unfold vm_ck at hck
  dsimp only at h1 hck hdg ⊢
  have hlen : len = 2 := by simpa using hck
  subst hlen
  obtain ⟨n, r, rfl, h2⟩ := vm_i1_i h1
  clear h1
  subst hR
  have hN : n.toNatClampNeg = n.toNatClampNeg := rfl
  split at h2
  · obtain ⟨e1, e2, e3, hok⟩ := vm_inj h2
    cases e1
    cases e2
    simp only [Bool.and_eq_true, decide_eq_true_eq] at hok
    obtain ⟨⟨⟨⟨hn, hbig⟩, hlt⟩, hmc⟩, hms⟩ := hok
    have hbig := Nat.le_of_ble_eq_true hbig
    refine va_newaK hx hb (hts _ vm_arrI) rfl hdg rfl hn rfl (Nat.le_trans (Nat.mul_le_mul_right _ hbig) (by decide)) (Nat.le_of_ble_eq_true hmc) (Nat.le_of_ble_eq_true hms) rfl fun H1 cA f1 z1 o1 hAr hNm => ?_
    have hcA : vm_cA X 0 = cA := Option.some.inj (((hTT.1.2 0 _ rfl).2 : s.vm.findClass _ = some _).symm.trans hNm)
    have e : vm_v X (.ref G.length) = .ref H.size := by
      show Value.ref (vm_ad X _) = _
      have := vm_blt hlt
      unfold vm_ad
      rw [if_pos (by omega), hS.2.1]
    have hk := kk H1 locs ls (hS.push (vm_blt hlt) (fun j hj => ⟨vm_zr_o _ I _ j hj, rfl⟩) z1 o1 ?_)
    · rw [List.map_cons, e] at hk
      exact hk
    · rw [vm_en_0 rfl, vm_zr_s]
      rw [show vm_N0 X + G.length = H.size from hS.2.1.symm]
      show H1[H.size]? = some (vp_cell _ _)
      rw [f1, hcA]
      rfl
  · obtain ⟨e1, e2, e3, hok⟩ := vm_inj h2
    cases e1
    cases e2
    simp only [Bool.and_eq_true, decide_eq_true_eq] at hok
    obtain ⟨⟨⟨⟨hn, hbig⟩, hlt⟩, hmc⟩, hms⟩ := hok
    have hbig := Nat.le_of_ble_eq_true hbig
    refine va_newaK hx hb (hts _ vm_arrF) rfl hdg rfl hn rfl (Nat.le_trans (Nat.mul_le_mul_right _ hbig) (by decide)) (Nat.le_of_ble_eq_true hmc) (Nat.le_of_ble_eq_true hms) rfl fun H1 cA f1 z1 o1 hAr hNm => ?_
    have hcA : vm_cA X 1 = cA := Option.some.inj (((hTT.1.2 1 _ rfl).2 : s.vm.findClass _ = some _).symm.trans hNm)
    have e : vm_v X (.ref G.length) = .ref H.size := by
      show Value.ref (vm_ad X _) = _
      have := vm_blt hlt
      unfold vm_ad
      rw [if_pos (by omega), hS.2.1]
    have hk := kk H1 locs ls (hS.push (vm_blt hlt) (fun j hj => ⟨rfl, vm_zr_o _ F _ j hj⟩) z1 o1 ?_)
    · rw [List.map_cons, e] at hk
      exact hk
    · rw [vm_en_1 rfl, vm_zr_s]
      rw [show vm_N0 X + G.length = H.size from hS.2.1.symm]
      show H1[H.size]? = some (vp_cell _ _)
      rw [f1, hcA]
      rfl
  · cases h2
set_option maxHeartbeats 1000000 in
theorem vm_g_anewarray {i : Nat} : vm_G X y bs nL R0 l (pc, .anewarray i, len, xs, v) := by
  intro p e R s m args below meth c Q hC hck hdg cs L st G I F hs pc' cs' L' st' G' I' F' hs' h1 H locs ls hS kk
  obtain ⟨hx, hb, hml, hown, hts, hnm, hTT, hA, hR⟩ := id hC
  unfold vm_1 at h1
  unfold vm_ck at hck
  dsimp only at h1 hck hdg ⊢
  obtain ⟨ci, ys, rfl, h2⟩ := vm_no_i h1
  clear h1
  obtain ⟨n, r, rfl, h3⟩ := vm_i1_i h2
  clear h2
  cases ys with
  | nil => simp at hck
  | cons q ys =>
  dsimp only at hck
  simp only [Bool.and_eq_true, beq_iff_eq] at hck
  obtain ⟨rfl, hw⟩ := hck
  subst hR
  have key : ∀ (C : String) (t : Nat), vm_cc ci = C → (vm_tys X)[t + 2]? = some (vm_cA X (t + 2), .object C) → Cond.arrayOver (.object C) ∈ vm_NW → 50 ≤ 50 + t →
      (decide (¬ n < 0) && Nat.ble n.toNatClampNeg 10000 && Nat.blt G.length 99999 && Nat.ble (cs.1 + 1) R.cells && Nat.ble (cs.2 + n.toNatClampNeg) R.slots) = true →
      (∀ (H' : Heap) (locs' : List Loc) (ls' : Array Slot), vm_S X s H' locs' L ls' (G ++ [(52 + t, n.toNatClampNeg, List.replicate n.toNatClampNeg .null)], I, F) → W p l e R s m args below meth c H' locs' (cs.1 + 1) (cs.2 + n.toNatClampNeg) Q (F0 m (pc + 3) ls' ((Value.ref G.length :: r).map (vm_v X)))) →
      W p l e R s m args below meth c H locs cs.1 cs.2 Q (F0 m pc ls ((Value.int n :: r).map (vm_v X))) := by
    intro C t hC ht hover h50 hok kw
    simp only [Bool.and_eq_true, decide_eq_true_eq] at hok
    obtain ⟨⟨⟨⟨hn, hbig⟩, hlt⟩, hmc⟩, hms⟩ := hok
    have hbig := Nat.le_of_ble_eq_true hbig
    rw [hC] at hw
    refine W.anew hx hb hown (hts _ (vm_wT hw rfl)) (va_AO.use (hTT.2.1 _ hover)) rfl hdg rfl hn (by omega) (Nat.le_of_ble_eq_true hmc) (Nat.le_of_ble_eq_true hms) fun cA kA comp f1 f2 f3 f4 => ?_
    obtain ⟨kA', comp', g1, g2, g3, g4⟩ := (hTT.1.2 (t + 2) _ ht).2
    have hcA : vm_cA X (t + 2) = cA := Option.some.inj (g4.symm.trans f1)
    have e : vm_v X (.ref G.length) = .ref H.size := by
      show Value.ref (vm_ad X _) = _
      have := vm_blt hlt
      unfold vm_ad
      rw [if_pos (by omega), hS.2.1]
    have hk := kw (H.push { cls := cA, slots := Array.replicate n.toNatClampNeg .null, vm := .none }) locs ls (hS.push (vm_blt hlt) (fun j hj => ⟨rfl, rfl⟩) (by simp) (fun q hq => by rw [Array.getElem?_push, if_neg (Nat.ne_of_lt hq)]) ?_)
    · rw [List.map_cons, e] at hk
      exact hk
    · rw [vm_en_q (c := 50 + t) (show 52 + t = 50 + t + 2 by omega) h50]
      rw [show vm_N0 X + G.length = H.size from hS.2.1.symm]
      show (H.push _)[H.size]? = some (vp_cell _ _)
      rw [vp_cell_q, show 50 + t - 48 = t + 2 by omega, hcA, Array.getElem?_push_size]
      have hre : (fun j => va_rf (vm_re X (List.replicate n.toNatClampNeg .null) j)) = fun _ => Value.null := by
        funext j
        unfold vm_re
        by_cases hj : j < n.toNatClampNeg
        · simp [List.getElem?_replicate, hj, va_rf]
        · simp [List.getElem?_replicate, hj, va_rf]
      dsimp only
      rw [hre]
      exact congrArg some (arrV_new _ _ _)
  split at h3
  · obtain ⟨e1, e2, e3, hok⟩ := vm_inj h3
    cases e1
    cases e2
    exact key _ 0 rfl rfl vm_ov0 (by decide) hok kk
  · obtain ⟨e1, e2, e3, hok⟩ := vm_inj h3
    cases e1
    cases e2
    exact key _ 1 rfl rfl vm_ov1 (by decide) hok kk
  · obtain ⟨e1, e2, e3, hok⟩ := vm_inj h3
    cases e1
    cases e2
    exact key _ 2 rfl rfl vm_ov2 (by decide) hok kk
  · obtain ⟨e1, e2, e3, hok⟩ := vm_inj h3
    cases e1
    cases e2
    exact key _ 3 rfl rfl vm_ov3 (by decide) hok kk
  · cases h3
end VM_G
