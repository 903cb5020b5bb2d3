section VM_P
variable {p : Program} {l : Launch} {e : Env} {R : Room} {s : State} {m : MethodId} {args : Array Value} {below : List Frame} {meth : Method} {c : Code} {H : Heap} {locs : List Loc} {cells slots : Nat} {Q : State → Prop}
variable {cc : ByteArray} {pc : Nat} {ls : Array Slot} {rest : List Value} {X : vm_Cx} {h : vm_H} {a ci k index : Nat} {y : MethodName} {C : String} {T : u_T} {N : Nat} {fs : List Value}
/-- a field is written: the cell at handle a, of class ci, gets v as its field k; the heap stays as large as it was -/
theorem vm_Wput (hx : p.tables.exec = Jvm.exec) (hb : c.code = cc) (hown : s.vm.findClass y.cls = some m.cls) (hts : ∀ w ∈ vm_TB, w.before args s = true) (hTT : vm_T X s s.heap) (hP : va_P X.1 vm_cl (vm_ws X h) H) (hS : va_S (vm_A X) s.heap H locs)
    (hat : (vm_ws X h)[a]? = some (vm_N0 X + a, .inr (ci, fs))) (hcl : vm_cl[ci]? = some (C, T, N)) (hk : k < N) (hlk : k < fs.length) (hlink : (Cond.fieldLink y.cls index C (T k).2.1 (T k).2.2.1).before args s = true)
    (hfin : (T k).2.2.2 = false ∨ ((T k).2.2.2 = true ∧ meth.name = "<init>" ∧ y.cls = C)) {v : Value} (hn : narrow (vm_ty ci k) v = v) (hf : fits (vm_ty ci k) v = true) (hdg : decode cc pc = .ok (.putfield index, 3))
    (kk : ∀ (H1 : Heap) (locs1 : List Loc), va_P X.1 vm_cl ((vm_ws X h).set a (vm_N0 X + a, .inr (ci, fs.set k v))) H1 → va_S (vm_A X) s.heap H1 locs1 → H1.size = H.size → W p l e R s m args below meth c H1 locs1 cells slots Q (F0 m (pc + 3) ls rest)) :
    W p l e R s m args below meth c H locs cells slots Q (F0 m pc ls (v :: .ref (vm_N0 X + a) :: rest)) := by
  obtain ⟨cIn, cTy, cAp, cOwn, -, -, -, -⟩ := vm_clF _ _ hcl
  dsimp only at cIn cTy cAp cOwn
  have slotsApart := va_apart (own := y.cls) hts cIn (vm_ty ci) cTy cAp hTT.1 hcl
  obtain ⟨r, hr, cell, hcell, hcls, hvm, hsl⟩ := hP a _ hat
  cases hcl.symm.trans hr
  obtain ⟨known, hfc, kC, hkC, hkind⟩ := hTT.1.1 ci _ hcl
  obtain ⟨cf, kf, fi, f, hfound, hfs⟩ := known k hk
  have lay := u_lays hts cIn hk
  have hst := (u_facts hfc hkC lay hfound).1
  obtain ⟨hnar, hfit⟩ := u_fits hfc hkC hkind lay hfound (cTy k hk) hn hf
  have hfound2 : s.fieldFound? C (T k).2.1 (T k).2.2.1 = some (cf, kf, fi, f) := by rw [← cOwn k hk]; exact hfound
  have final : hasFlag f.accessFlags Acc.final = false ∨ (m.cls = cf ∧ meth.name = "<init>") := by
    have hw := hts _ (cIn _ (u_in_lay hk))
    unfold u_lay at hw
    rcases hfin with h0 | ⟨h1, hni, hcy⟩
    · rw [if_neg (by rw [h0]; decide)] at hw
      exact Or.inl (u_store hfc hkC hkind hw hfound (cTy k hk) hn hf).1
    · rw [if_pos h1] at hw
      obtain ⟨_, _, c', _, _, _, -, -, hf', -, -, -, hown2, -⟩ := Cond.laysFinal_spec hw
      have e1 : c' = cf := (Prod.mk.inj (Option.some.inj (hfound.symm.trans hf'))).1.symm
      rw [cOwn k hk, ← hcy] at hown2
      exact Or.inr ⟨(Option.some.inj (hown.symm.trans hown2)).trans e1, hni⟩
  have hlt : vm_N0 X + a < H.size := (Array.getElem?_eq_some_iff.mp hcell).1
  have hbig : f.slot < cell.slots.size := by rw [hfs]; exact k2_hasslot (hsl k hk)
  refine W.putf hx hb hown hlink hfound2 hst final hcell (by rw [hvm]; exact fun q => by cases q) hbig hnar (by rw [hcls, hvm]; exact hfit) rfl rfl hdg ?_
  have same : ∀ q : Nat, q ≠ vm_N0 X + a → (H.setIfInBounds (vm_N0 X + a) (cell.setSlot f.slot v))[q]? = H[q]? := fun q hq => Array.getElem?_setIfInBounds_ne (Ne.symm hq)
  have here : (H.setIfInBounds (vm_N0 X + a) (cell.setSlot f.slot v))[vm_N0 X + a]? = some (cell.setSlot f.slot v) := by simp [Array.getElem?_setIfInBounds, hlt]
  refine kk _ _ (hP.set (vm_D (X := X)) hat ⟨_, hcl, t_OB.to (V := updV (vp_V fs) k v) ⟨_, here, hcls, hvm, ?_⟩ (fun j _ => vp_updV_set hlk v j)⟩ same) (hS.put (by simp) same ?_) (by simp)
  · rw [hfs]
    exact t_set hsl slotsApart hk v
  · exact Nat.le_add_right _ _
end VM_P
theorem vm_tw_in {lo : Int} {ts : List Nat} {d : Nat} {x : Int32} {t : Nat} (h1 : ¬ x.toInt < lo) (h : ts[(x.toInt - lo).toNat]? = some t) : vm_tw lo ts d x = t := by
  unfold vm_tw
  rw [if_neg h1, h]
theorem vm_tw_lo {lo : Int} {ts : List Nat} {d : Nat} {x : Int32} (h1 : x.toInt < lo) : vm_tw lo ts d x = d := by
  unfold vm_tw
  rw [if_pos h1]
theorem vm_tw_hi {lo : Int} {ts : List Nat} {d : Nat} {x : Int32} (h1 : ¬ x.toInt < lo) (h : ts[(x.toInt - lo).toNat]? = none) : vm_tw lo ts d x = d := by
  unfold vm_tw
  rw [if_neg h1, h]
theorem vm_lw_ok {pc : Nat} {d : Int} {dt : Nat} (hd : (pc : Int) + d = (dt : Int)) (x : Int) : ∀ (ks : List (Int × Int)) (ts : List Nat), ks.map (fun o => (pc : Int) + o.2) = ts.map (fun t : Nat => (t : Int)) → (pc : Int) + Op.lookupswitch.offset ks d x = (vm_lw ks ts dt x : Int)
  | [], [], _ => by simpa [vm_lw, Op.lookupswitch.offset] using hd
  | k :: ks, t :: ts, h => by
    simp only [List.map_cons, List.cons.injEq] at h
    have ih := vm_lw_ok hd x ks ts h.2
    by_cases e : x = k.1
    · simp [vm_lw, Op.lookupswitch.offset, e, h.1]
    · have e2 : ¬ k.1 = x := fun z => e z.symm
      simp only [vm_lw, if_neg e]
      rw [← ih]
      simp [Op.lookupswitch.offset, e, e2]
  | [], t :: ts, h => by simp at h
  | k :: ks, [], h => by simp at h
section VM_G
variable {X : vm_Cx} {y : MethodName} {bs : ByteArray} {nL : Nat} {R0 : Room} {l : Launch} {pc len : Nat} {xs : List Nat} {v : Value}
set_option maxHeartbeats 1000000 in
theorem vm_g_tableswitch {d lo hi : Int} {os : Array Int} : vm_G X y bs nL R0 l (pc, .tableswitch d lo hi os, len, xs, v) := by
  intro p e R s m args below meth c Q hC hck hdg cs L st G I F hs pc' cs' L' st' G' I' F' hs' h1 H locs ls hS kk
  obtain ⟨hx, hb, hml, hown, hts, hnm, hTT, hA, hR⟩ := id hC
  unfold vm_1 at h1
  unfold vm_ck at hck
  dsimp only at h1 hck hdg ⊢
  obtain ⟨t, ts, rfl, h1⟩ := vm_no_i h1
  dsimp only at hck
  simp only [Bool.and_eq_true, decide_eq_true_eq] at hck
  obtain ⟨⟨hd, hm⟩, hz⟩ := hck
  obtain ⟨x, r, rfl, h1⟩ := vm_i1_i h1
  obtain ⟨e1, e2, e3, hok⟩ := vm_inj h1
  cases e1
  cases e2
  have hk := kk H locs ls hS
  have hlen : os.size = ts.length := by
    have := congrArg List.length hm
    simpa using this
  by_cases c1 : x.toInt < lo
  · rw [vm_tw_lo c1] at hk
    exact lv_tableOut hx hb hdg (Or.inl c1) hd hk
  · by_cases c2 : hi < x.toInt
    · have hn : ts[(x.toInt - lo).toNat]? = none := List.getElem?_eq_none (by omega)
      rw [vm_tw_hi c1 hn] at hk
      exact lv_tableOut hx hb hdg (Or.inr c2) hd hk
    · have hlt : (x.toInt - lo).toNat < ts.length := by omega
      have hlt2 : (x.toInt - lo).toNat < os.size := by omega
      have e1 : ts[(x.toInt - lo).toNat]? = some ts[(x.toInt - lo).toNat] := List.getElem?_eq_getElem hlt
      have e2 : os[(x.toInt - lo).toNat]? = some os[(x.toInt - lo).toNat] := Array.getElem?_eq_getElem hlt2
      rw [vm_tw_in c1 e1] at hk
      refine lv_tableIn hx hb hdg c1 c2 e2 ?_ hk
      have e3 := congrArg (fun q => q[(x.toInt - lo).toNat]?) hm
      simp only [List.getElem?_map, Array.getElem?_toList, e1, e2, Option.map_some, Option.some.injEq] at e3
      exact e3
set_option maxHeartbeats 1000000 in
theorem vm_g_lookupswitch {d : Int} {ps : Array (Int × Int)} : vm_G X y bs nL R0 l (pc, .lookupswitch d ps, len, xs, v) := by
  intro p e R s m args below meth c Q hC hck hdg cs L st G I F hs pc' cs' L' st' G' I' F' hs' h1 H locs ls hS kk
  obtain ⟨hx, hb, hml, hown, hts, hnm, hTT, hA, hR⟩ := id hC
  unfold vm_1 at h1
  unfold vm_ck at hck
  dsimp only at h1 hck hdg ⊢
  obtain ⟨t, ts, rfl, h1⟩ := vm_no_i h1
  dsimp only at hck
  simp only [Bool.and_eq_true, decide_eq_true_eq] at hck
  obtain ⟨⟨hd, hm⟩, hz⟩ := hck
  obtain ⟨x, r, rfl, h1⟩ := vm_i1_i h1
  obtain ⟨e1, e2, e3, hok⟩ := vm_inj h1
  cases e1
  cases e2
  exact lv_lookup hx hb hdg hz rfl (vm_lw_ok hd x.toInt ps.toList ts hm) (kk H locs ls hS)
set_option maxHeartbeats 1000000 in
theorem vm_g_getfield {i : Nat} : vm_G X y bs nL R0 l (pc, .getfield i, len, xs, v) := by
  intro p e R s m args below meth c Q hC hck hdg cs L st G I F hs pc' cs' L' st' G' I' F' hs' h1 H locs ls hS kk
  obtain ⟨hx, hb, hml, hown, hts, hnm, hTT, hA, hR⟩ := id hC
  unfold vm_1 at h1
  unfold vm_ck at hck
  dsimp only at h1 hck hdg ⊢
  obtain ⟨ci, ys, rfl, h2⟩ := vm_no_i h1
  clear h1
  obtain ⟨k, zs, rfl, h1⟩ := vm_no_i h2
  clear h2
  cases zs with
  | nil => simp at hck
  | cons q zs =>
  dsimp only at hck
  simp only [Bool.and_eq_true, beq_iff_eq] at hck
  obtain ⟨⟨⟨rfl, hci⟩, hk⟩, hw⟩ := hck
  obtain ⟨⟨C, T, N⟩, hcl⟩ := vm_clG hci
  obtain ⟨cIn, cTy, cAp, cOwn, cInst, cIni, cDf, -⟩ := vm_clF _ _ hcl
  have cDf : (vm_df ci).length = N := cDf
  have hkN : k < N := by rw [← cDf]; exact vm_blt hk
  have hcc : vm_cc ci = C := by unfold vm_cc; rw [hcl]
  have hcn : vm_cn ci k = T k := by unfold vm_cn; rw [hcl]
  have hw2 := hts _ (vm_wT hw rfl)
  rw [hcc, hcn] at hw2
  obtain ⟨a, r, rfl, h3⟩ := vm_r1_i h1
  clear h1
  obtain ⟨sh, hs2, rfl, h1⟩ := vm_hs_i h3
  clear h3
  have key : ∀ w : Value, (∀ f : Nat → Int32, vm_isG G a sh = true → Nat.beq sh.1 (ci + 2) = true → sh.2.2[k]? = some w → W p l e R s m args below meth c H locs cs.1 cs.2 Q (F0 m (pc + 3) ls (vm_fv X (I a) k w :: r.map (vm_v X))) → W p l e R s m args below meth c H locs cs.1 cs.2 Q (F0 m pc ls ((Value.ref a :: r).map (vm_v X)))) := by
    intro w _ hG hk2 hv kw
    have hg := vm_isG_i hG
    have hk2 : sh.1 = ci + 2 := Nat.eq_of_beq_eq_true hk2
    have hat := vm_ws_at (X := X) (I := I) (F := F) hg
    rw [vm_en_o hk2 (by have := vm_blt hci; omega)] at hat
    show W p l e R s m args below meth c H locs cs.1 cs.2 Q (F0 m pc ls (Value.ref (vm_ad X a) :: r.map (vm_v X)))
    rw [vm_ad_lt hg hS.2.2.1]
    exact va_get hx hb hts cIn hown hTT.1 hS.1 a hat hcl k hkN hw2 (fun x h => by rw [cOwn k hkN] at h; exact h) (v := vm_fv X (I a) k w) (by rw [List.getElem?_mapIdx, hv]; rfl) hdg kw
  split at h1
  · rename_i z hz
    obtain ⟨e1, e2, e3, hok⟩ := vm_inj h1
    cases e1
    cases e2
    simp only [Bool.and_eq_true] at hok
    exact key _ (fun _ => 0) hok.1 hok.2 hz (kk H locs ls hS)
  · rename_i z hz
    obtain ⟨e1, e2, e3, hok⟩ := vm_inj h1
    cases e1
    cases e2
    simp only [Bool.and_eq_true] at hok
    exact key _ (fun _ => 0) hok.1 hok.2 hz (kk H locs ls hS)
  · rename_i hz
    obtain ⟨e1, e2, e3, hok⟩ := vm_inj h1
    cases e1
    cases e2
    simp only [Bool.and_eq_true] at hok
    exact key _ (fun _ => 0) hok.1 hok.2 hz (kk H locs ls hS)
  · cases h1
set_option maxHeartbeats 1000000 in
theorem vm_g_putfield {i : Nat} : vm_G X y bs nL R0 l (pc, .putfield i, len, xs, v) := by
  intro p e R s m args below meth c Q hC hck hdg cs L st G I F hs pc' cs' L' st' G' I' F' hs' h1 H locs ls hS kk
  obtain ⟨hx, hb, hml, hown, hts, hnm, hTT, hA, hR⟩ := id hC
  unfold vm_1 at h1
  unfold vm_ck at hck
  dsimp only at h1 hck hdg ⊢
  obtain ⟨ci, ys, rfl, h2⟩ := vm_no_i h1
  clear h1
  obtain ⟨k, zs, rfl, h1⟩ := vm_no_i h2
  clear h2
  cases zs with
  | nil => simp at hck
  | cons q zs =>
  cases zs with
  | nil => simp at hck
  | cons fl zs =>
  dsimp only at hck
  simp only [Bool.and_eq_true, beq_iff_eq] at hck
  obtain ⟨⟨⟨⟨rfl, hci⟩, hk⟩, hw⟩, hfin⟩ := hck
  obtain ⟨⟨C, T, N⟩, hcl⟩ := vm_clG hci
  obtain ⟨cIn, cTy, cAp, cOwn, cInst, cIni, cDf, -⟩ := vm_clF _ _ hcl
  have cDf : (vm_df ci).length = N := cDf
  have hkN : k < N := by rw [← cDf]; exact vm_blt hk
  have hcc : vm_cc ci = C := by unfold vm_cc; rw [hcl]
  have hcn : vm_cn ci k = T k := by unfold vm_cn; rw [hcl]
  have hw2 := hts _ (vm_wT hw rfl)
  rw [hcc, hcn] at hw2
  rw [hcc, hcn] at hfin
  have key : ∀ (w : Value) (a : Nat) (r : List Value) (sh : vm_Sh) (G2 : List vm_Sh) (I2 : Nat → Nat → Int32), vm_isG G a sh = true → Nat.beq sh.1 (ci + 2) = true → k < sh.2.2.length → narrow (vm_ty ci k) (vm_v X w) = vm_v X w → fits (vm_ty ci k) (vm_v X w) = true →
      (vm_ws X (G, I, F)).set a (vm_N0 X + a, .inr (ci, (sh.2.2.mapIdx (vm_fv X (I a))).set k (vm_v X w))) = vm_ws X (G2, I2, F) → G2.length = G.length →
      (∀ (H' : Heap) (locs' : List Loc) (ls' : Array Slot), vm_S X s H' locs' L ls' (G2, I2, F) → W p l e R s m args below meth c H' locs' cs.1 cs.2 Q (F0 m (pc + 3) ls' (r.map (vm_v X)))) → W p l e R s m args below meth c H locs cs.1 cs.2 Q (F0 m pc ls ((w :: Value.ref a :: r).map (vm_v X))) := by
    intro w a r sh G2 I2 hG hk2 hkl hn hf hws hGl kw
    have hg := vm_isG_i hG
    have hk2 : sh.1 = ci + 2 := Nat.eq_of_beq_eq_true hk2
    have hat := vm_ws_at (X := X) (I := I) (F := F) hg
    rw [vm_en_o hk2 (by have := vm_blt hci; omega)] at hat
    show W p l e R s m args below meth c H locs cs.1 cs.2 Q (F0 m pc ls (vm_v X w :: Value.ref (vm_ad X a) :: r.map (vm_v X)))
    rw [vm_ad_lt hg hS.2.2.1]
    refine vm_Wput hx hb hown hts hTT hS.1 hS.2.2.2.1 hat hcl hkN (by simpa using hkl) hw2 ?_ hn hf hdg ?_
    · rcases (by simpa using hfin : (fl = 0 ∧ (T k).2.2.2 = false) ∨ (((fl = 1 ∧ (T k).2.2.2 = true) ∧ y.name = "<init>") ∧ y.cls = C)) with ⟨-, hf0⟩ | ⟨⟨⟨-, hf1⟩, hni⟩, hcy⟩
      · exact Or.inl hf0
      · exact Or.inr ⟨hf1, hnm.trans hni, hcy⟩
    · intro H1 locs1 hP1 hS1 hsz
      rw [hws] at hP1
      exact kw H1 locs1 ls ⟨hP1, by rw [hsz, hS.2.1]; show _ = _ + G2.length; rw [hGl], by show G2.length ≤ _; rw [hGl]; exact hS.2.2.1, hS1, hS.2.2.2.2⟩
  split at h1
  · rename_i w a r
    obtain ⟨sh, hs2, rfl, h3⟩ := vm_hs_i h1
    clear h1
    split at h3
    · rename_i z x hz
      obtain ⟨e1, e2, e3, hok⟩ := vm_inj h3
      cases e1
      cases e2
      simp only [Bool.and_eq_true] at hok
      obtain ⟨⟨hG, hk2⟩, hty⟩ := hok
      have hg := vm_isG_i hG
      have hk3 : sh.1 = ci + 2 := Nat.eq_of_beq_eq_true hk2
      refine key (.int x) a _ sh G (vm_up I a k x) hG hk2 (List.getElem?_eq_some_iff.mp hz).1 ?_ ?_ ?_ rfl kk
      · split at hty
        · rename_i ht
          rw [ht]; rfl
        · rename_i ht
          rw [ht]
          simp only [Bool.or_eq_true, decide_eq_true_eq] at hty
          rcases hty with rfl | rfl
          · exact (by decide +kernel : narrow .boolean (.int 0) = .int 0)
          · exact (by decide +kernel : narrow .boolean (.int 1) = .int 1)
        · cases hty
      · split at hty
        · rename_i ht
          rw [ht]; rfl
        · rename_i ht
          rw [ht]
          simp only [Bool.or_eq_true, decide_eq_true_eq] at hty
          rcases hty with rfl | rfl
          · exact (by decide +kernel : fits .boolean (.int 0) = true)
          · exact (by decide +kernel : fits .boolean (.int 1) = true)
        · cases hty
      · refine vm_ws_set (List.getElem?_eq_some_iff.mp hg).1 rfl (fun j hj => ⟨rfl, vm_up_o I a k x j hj, rfl⟩) hg ?_
        rw [vm_en_o hk3 (by have := vm_blt hci; omega), vm_up_s]
        congr 2
        apply List.ext_getElem?
        intro j
        by_cases hj : j = k
        · subst hj
          rw [List.getElem?_set_self (by simpa using (List.getElem?_eq_some_iff.mp hz).1), List.getElem?_mapIdx, hz]
          simp [vm_fv, vm_v]
        · rw [List.getElem?_set_ne (Ne.symm hj), List.getElem?_mapIdx, List.getElem?_mapIdx]
          cases sh.2.2[j]? with
          | none => rfl
          | some z => cases z <;> simp [vm_fv, hj]
    · rename_i z hz
      obtain ⟨e1, e2, e3, hok⟩ := vm_inj h3
      cases e1
      cases e2
      simp only [Bool.and_eq_true] at hok
      obtain ⟨⟨hG, hk2⟩, hty⟩ := hok
      have hg := vm_isG_i hG
      have hk3 : sh.1 = ci + 2 := Nat.eq_of_beq_eq_true hk2
      have hlt := (List.getElem?_eq_some_iff.mp hg).1
      refine key (.ref z) a _ sh _ I hG hk2 (List.getElem?_eq_some_iff.mp hz).1 ?_ ?_ ?_ List.length_set kk
      · split at hty
        · rename_i ht
          rw [ht]; rfl
        · rename_i ht
          rw [ht]; rfl
        · cases hty
      · split at hty
        · rename_i ht
          rw [ht]; rfl
        · rename_i ht
          rw [ht]; rfl
        · cases hty
      · refine vm_ws_set hlt List.length_set (fun j hj => ⟨by rw [List.getElem?_set_ne (Ne.symm hj)], rfl, rfl⟩) (List.getElem?_set_self hlt) ?_
        refine (vm_en_o (c := ci) (sh := (sh.1, sh.2.1, sh.2.2.set k (.ref z))) hk3 (by have := vm_blt hci; omega)).trans ?_
        dsimp only
        congr 2
        apply List.ext_getElem?
        intro j
        by_cases hj : j = k
        · subst hj
          rw [List.getElem?_set_self (by simpa using (List.getElem?_eq_some_iff.mp hz).1), List.getElem?_mapIdx, List.getElem?_set_self (by simpa using (List.getElem?_eq_some_iff.mp hz).1)]
          rfl
        · rw [List.getElem?_set_ne (Ne.symm hj), List.getElem?_mapIdx, List.getElem?_mapIdx, List.getElem?_set_ne (Ne.symm hj)]
    · cases h3
  · cases h1
set_option maxHeartbeats 1000000 in
theorem vm_g_getstatic {i : Nat} : vm_G X y bs nL R0 l (pc, .getstatic i, len, xs, v) := by
  intro p e R s m args below meth c Q hC hck hdg cs L st G I F hs pc' cs' L' st' G' I' F' hs' h1 H locs ls hS kk
  obtain ⟨hx, hb, hml, hown, hts, hnm, hTT, hA, hR⟩ := id hC
  unfold vm_1 at h1
  unfold vm_ck at hck
  dsimp only at h1 hck hdg ⊢
  obtain ⟨e1, e2, e3, hok⟩ := vm_inj h1
  cases e1
  cases e2
  have hk := kk H locs ls hS
  rcases xs with _ | ⟨j, _ | ⟨q, _ | ⟨n, zs⟩⟩⟩ <;> try (simp at hck; done)
  cases n with
  | zero =>
    simp only [Bool.and_eq_true, beq_iff_eq, decide_eq_true_eq] at hck
    obtain ⟨⟨⟨rfl, hj⟩, rfl⟩, hm⟩ := hck
    obtain ⟨q0, hq⟩ : ∃ q0, vm_stat[j]? = some q0 := ⟨_, List.getElem?_eq_getElem (show j < 18 from vm_blt hj)⟩
    rw [hq] at hm
    have e : vm_v X (.ref (100000 + j)) = .ref (vm_sa X j) := by show Value.ref (vm_ad X _) = _; rw [vm_ad_st]
    rw [List.map_cons, e] at hk
    exact va_gets hx hb (hTT.2.2.1 j q0 hq).1 hS.2.2.2.1 hown (hts _ (vm_wT hm rfl)) (fun x h => h) hdg hk
  | succ n =>
    simp only [Bool.and_eq_true, beq_iff_eq, decide_eq_true_eq] at hck
    obtain ⟨⟨⟨rfl, hj⟩, rfl⟩, hm⟩ := hck
    obtain ⟨q0, hq⟩ : ∃ q0, vm_stat[j]? = some q0 := ⟨_, List.getElem?_eq_getElem (show j < 18 from vm_blt hj)⟩
    rw [hq] at hm
    have e : vm_v X (.ref (100000 + j)) = .ref (vm_sa X j) := by show Value.ref (vm_ad X _) = _; rw [vm_ad_st]
    rw [List.map_cons, e] at hk
    exact va_getsN hx hb (hTT.2.2.1 j q0 hq).1 hS.2.2.2.1 hown (va_Nw.use rfl (hTT.2.1 _ (vm_wN hm rfl))) (fun x h => h) hdg hk
end VM_G
