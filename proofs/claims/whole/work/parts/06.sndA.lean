theorem vm_inj {f f' : vm_F} {h h' : vm_H} {hs hs' : List vm_Sh} {b b' : Bool} (q : (some (f, h, hs, b) : vm_O) = some (f', h', hs', b')) : f = f' ∧ h = h' ∧ hs = hs' ∧ b = b' := by
  cases q
  exact ⟨rfl, rfl, rfl, rfl⟩
/-- what is said of one row of a list: its step in the small machine is the machine's -/
def vm_G (X : vm_Cx) (y : MethodName) (bs : ByteArray) (nL : Nat) (R0 : Room) (l : Launch) (en : vm_E) : Prop :=
  ∀ (p : Program) (e : Env) (R : Room) (s : State) (m : MethodId) (args : Array Value) (below : List Frame) (meth : Method) (c : Code) (Q : State → Prop), vm_C X y bs nL R0 p R s m args meth c → vm_ck y en = true → decode bs en.1 = .ok (en.2.1, en.2.2.1) →
  ∀ (cs : Nat × Nat) (L st : List Value) (G : List vm_Sh) (I : Nat → Nat → Int32) (F : Nat → Nat → UInt32) (hs : List vm_Sh) (pc' : Nat) (cs' : Nat × Nat) (L' st' : List Value) (G' : List vm_Sh) (I' : Nat → Nat → Int32) (F' : Nat → Nat → UInt32) (hs' : List vm_Sh),
  vm_1 X R0.cells R0.slots en en.1 cs L st G I F hs = some ((pc', cs', L', st'), (G', I', F'), hs', true) →
  ∀ (H : Heap) (locs : List Loc) (ls : Array Slot), vm_S X s H locs L ls (G, I, F) →
  (∀ (H' : Heap) (locs' : List Loc) (ls' : Array Slot), vm_S X s H' locs' L' ls' (G', I', F') → W p l e R s m args below meth c H' locs' cs'.1 cs'.2 Q (F0 m pc' ls' (st'.map (vm_v X)))) →
  W p l e R s m args below meth c H locs cs.1 cs.2 Q (F0 m en.1 ls (st.map (vm_v X)))
section VM_G
variable {X : vm_Cx} {y : MethodName} {bs : ByteArray} {nL : Nat} {R0 : Room} {l : Launch} {pc len : Nat} {xs : List Nat} {v : Value}
set_option maxHeartbeats 1000000 in
theorem vm_g_iload {i : Nat} : vm_G X y bs nL R0 l (pc, .iload i, len, xs, v) := by
  intro p e R s m args below meth c Q hC hck hdg cs L st G I F hs pc' cs' L' st' G' I' F' hs' h1 H locs ls hS kk
  obtain ⟨hx, hb, hml, hown, hts, hnm, hTT, hA, hR⟩ := id hC
  unfold vm_1 at h1
  unfold vm_ck at hck
  dsimp only at h1 hck hdg ⊢
  have hlen : len = 2 := by simpa using hck
  subst hlen
  obtain ⟨x, hl, h1⟩ := vm_k1_i h1
  obtain ⟨e1, e2, e3, hok⟩ := vm_inj h1
  cases e1
  cases e2
  exact lv_iload hx hb hdg (vm_ld hS.2.2.2.2 hl (fun q h => by cases h)) (kk H locs ls hS)
set_option maxHeartbeats 1000000 in
theorem vm_g_iload_n {i : Fin 4} : vm_G X y bs nL R0 l (pc, .iload_n i, len, xs, v) := by
  intro p e R s m args below meth c Q hC hck hdg cs L st G I F hs pc' cs' L' st' G' I' F' hs' h1 H locs ls hS kk
  obtain ⟨hx, hb, hml, hown, hts, hnm, hTT, hA, hR⟩ := id hC
  unfold vm_1 at h1
  unfold vm_ck at hck
  dsimp only at h1 hck hdg ⊢
  have hlen : len = 1 := by simpa using hck
  subst hlen
  obtain ⟨x, hl, h1⟩ := vm_k1_i h1
  obtain ⟨e1, e2, e3, hok⟩ := vm_inj h1
  cases e1
  cases e2
  exact lv_iload_n hx hb hdg rfl (vm_ld hS.2.2.2.2 hl (fun q h => by cases h)) (kk H locs ls hS)
set_option maxHeartbeats 1000000 in
theorem vm_g_lload {i : Nat} : vm_G X y bs nL R0 l (pc, .lload i, len, xs, v) := by
  intro p e R s m args below meth c Q hC hck hdg cs L st G I F hs pc' cs' L' st' G' I' F' hs' h1 H locs ls hS kk
  obtain ⟨hx, hb, hml, hown, hts, hnm, hTT, hA, hR⟩ := id hC
  unfold vm_1 at h1
  unfold vm_ck at hck
  dsimp only at h1 hck hdg ⊢
  have hlen : len = 2 := by simpa using hck
  subst hlen
  obtain ⟨x, hl, h1⟩ := vm_kl_i h1
  obtain ⟨e1, e2, e3, hok⟩ := vm_inj h1
  cases e1
  cases e2
  exact lv_lload hx hb hdg (vm_ld hS.2.2.2.2 hl (fun q h => by cases h)) (kk H locs ls hS)
set_option maxHeartbeats 1000000 in
theorem vm_g_lload_n {i : Fin 4} : vm_G X y bs nL R0 l (pc, .lload_n i, len, xs, v) := by
  intro p e R s m args below meth c Q hC hck hdg cs L st G I F hs pc' cs' L' st' G' I' F' hs' h1 H locs ls hS kk
  obtain ⟨hx, hb, hml, hown, hts, hnm, hTT, hA, hR⟩ := id hC
  unfold vm_1 at h1
  unfold vm_ck at hck
  dsimp only at h1 hck hdg ⊢
  have hlen : len = 1 := by simpa using hck
  subst hlen
  obtain ⟨x, hl, h1⟩ := vm_kl_i h1
  obtain ⟨e1, e2, e3, hok⟩ := vm_inj h1
  cases e1
  cases e2
  exact lv_lload_n hx hb hdg rfl (vm_ld hS.2.2.2.2 hl (fun q h => by cases h)) (kk H locs ls hS)
set_option maxHeartbeats 1000000 in
theorem vm_g_fload {i : Nat} : vm_G X y bs nL R0 l (pc, .fload i, len, xs, v) := by
  intro p e R s m args below meth c Q hC hck hdg cs L st G I F hs pc' cs' L' st' G' I' F' hs' h1 H locs ls hS kk
  obtain ⟨hx, hb, hml, hown, hts, hnm, hTT, hA, hR⟩ := id hC
  unfold vm_1 at h1
  unfold vm_ck at hck
  dsimp only at h1 hck hdg ⊢
  have hlen : len = 2 := by simpa using hck
  subst hlen
  obtain ⟨x, hl, h1⟩ := vm_kf_i h1
  obtain ⟨e1, e2, e3, hok⟩ := vm_inj h1
  cases e1
  cases e2
  exact lv_fload hx hb hdg (vm_ld hS.2.2.2.2 hl (fun q h => by cases h)) (kk H locs ls hS)
set_option maxHeartbeats 1000000 in
theorem vm_g_fload_n {i : Fin 4} : vm_G X y bs nL R0 l (pc, .fload_n i, len, xs, v) := by
  intro p e R s m args below meth c Q hC hck hdg cs L st G I F hs pc' cs' L' st' G' I' F' hs' h1 H locs ls hS kk
  obtain ⟨hx, hb, hml, hown, hts, hnm, hTT, hA, hR⟩ := id hC
  unfold vm_1 at h1
  unfold vm_ck at hck
  dsimp only at h1 hck hdg ⊢
  have hlen : len = 1 := by simpa using hck
  subst hlen
  obtain ⟨x, hl, h1⟩ := vm_kf_i h1
  obtain ⟨e1, e2, e3, hok⟩ := vm_inj h1
  cases e1
  cases e2
  exact lv_fload_n hx hb hdg rfl (vm_ld hS.2.2.2.2 hl (fun q h => by cases h)) (kk H locs ls hS)
set_option maxHeartbeats 1000000 in
theorem vm_g_aload {i : Nat} : vm_G X y bs nL R0 l (pc, .aload i, len, xs, v) := by
  intro p e R s m args below meth c Q hC hck hdg cs L st G I F hs pc' cs' L' st' G' I' F' hs' h1 H locs ls hS kk
  obtain ⟨hx, hb, hml, hown, hts, hnm, hTT, hA, hR⟩ := id hC
  unfold vm_1 at h1
  unfold vm_ck at hck
  dsimp only at h1 hck hdg ⊢
  have hlen : len = 2 := by simpa using hck
  subst hlen
  rcases vm_ka_i h1 with ⟨x, hl, h1⟩ | ⟨hl, h1⟩
  · obtain ⟨e1, e2, e3, hok⟩ := vm_inj h1
    cases e1
    cases e2
    exact lv_aload hx hb hdg (vm_ld (v := .ref x) hS.2.2.2.2 hl (fun q h => by cases h)) (kk H locs ls hS)
  · obtain ⟨e1, e2, e3, hok⟩ := vm_inj h1
    cases e1
    cases e2
    exact lv_aloadN hx hb hdg (vm_ld (v := .null) hS.2.2.2.2 hl (fun q h => by cases h)) (kk H locs ls hS)
set_option maxHeartbeats 1000000 in
theorem vm_g_aload_n {i : Fin 4} : vm_G X y bs nL R0 l (pc, .aload_n i, len, xs, v) := by
  intro p e R s m args below meth c Q hC hck hdg cs L st G I F hs pc' cs' L' st' G' I' F' hs' h1 H locs ls hS kk
  obtain ⟨hx, hb, hml, hown, hts, hnm, hTT, hA, hR⟩ := id hC
  unfold vm_1 at h1
  unfold vm_ck at hck
  dsimp only at h1 hck hdg ⊢
  have hlen : len = 1 := by simpa using hck
  subst hlen
  rcases vm_ka_i h1 with ⟨x, hl, h1⟩ | ⟨hl, h1⟩
  · obtain ⟨e1, e2, e3, hok⟩ := vm_inj h1
    cases e1
    cases e2
    exact lv_aload_n hx hb hdg rfl (vm_ld (v := .ref x) hS.2.2.2.2 hl (fun q h => by cases h)) (kk H locs ls hS)
  · obtain ⟨e1, e2, e3, hok⟩ := vm_inj h1
    cases e1
    cases e2
    exact lv_aload_nN hx hb hdg rfl (vm_ld (v := .null) hS.2.2.2.2 hl (fun q h => by cases h)) (kk H locs ls hS)
set_option maxHeartbeats 1000000 in
theorem vm_g_istore {i : Nat} : vm_G X y bs nL R0 l (pc, .istore i, len, xs, v) := by
  intro p e R s m args below meth c Q hC hck hdg cs L st G I F hs pc' cs' L' st' G' I' F' hs' h1 H locs ls hS kk
  obtain ⟨hx, hb, hml, hown, hts, hnm, hTT, hA, hR⟩ := id hC
  unfold vm_1 at h1
  unfold vm_ck at hck
  dsimp only at h1 hck hdg ⊢
  have hlen : len = 2 := by simpa using hck
  subst hlen
  obtain ⟨x, r, rfl, h1⟩ := vm_i1_i h1
  obtain ⟨hi, h1⟩ := vm_if_i h1
  obtain ⟨e1, e2, e3, hok⟩ := vm_inj h1
  cases e1
  cases e2
  exact lv_istore hx hb hdg hS.2.2.2.2 (vm_blt hi) rfl (fun ls' h' => kk H locs ls' ⟨hS.1, hS.2.1, hS.2.2.1, hS.2.2.2.1, vm_st1 (vm_blt hi) h'⟩)
set_option maxHeartbeats 1000000 in
theorem vm_g_istore_n {i : Fin 4} : vm_G X y bs nL R0 l (pc, .istore_n i, len, xs, v) := by
  intro p e R s m args below meth c Q hC hck hdg cs L st G I F hs pc' cs' L' st' G' I' F' hs' h1 H locs ls hS kk
  obtain ⟨hx, hb, hml, hown, hts, hnm, hTT, hA, hR⟩ := id hC
  unfold vm_1 at h1
  unfold vm_ck at hck
  dsimp only at h1 hck hdg ⊢
  have hlen : len = 1 := by simpa using hck
  subst hlen
  obtain ⟨x, r, rfl, h1⟩ := vm_i1_i h1
  obtain ⟨hi, h1⟩ := vm_if_i h1
  obtain ⟨e1, e2, e3, hok⟩ := vm_inj h1
  cases e1
  cases e2
  exact lv_istore_n hx hb hdg rfl hS.2.2.2.2 (vm_blt hi) rfl (fun ls' h' => kk H locs ls' ⟨hS.1, hS.2.1, hS.2.2.1, hS.2.2.2.1, vm_st1 (vm_blt hi) h'⟩)
set_option maxHeartbeats 1000000 in
theorem vm_g_fstore {i : Nat} : vm_G X y bs nL R0 l (pc, .fstore i, len, xs, v) := by
  intro p e R s m args below meth c Q hC hck hdg cs L st G I F hs pc' cs' L' st' G' I' F' hs' h1 H locs ls hS kk
  obtain ⟨hx, hb, hml, hown, hts, hnm, hTT, hA, hR⟩ := id hC
  unfold vm_1 at h1
  unfold vm_ck at hck
  dsimp only at h1 hck hdg ⊢
  have hlen : len = 2 := by simpa using hck
  subst hlen
  obtain ⟨x, r, rfl, h1⟩ := vm_f1_i h1
  obtain ⟨hi, h1⟩ := vm_if_i h1
  obtain ⟨e1, e2, e3, hok⟩ := vm_inj h1
  cases e1
  cases e2
  exact lv_fstore hx hb hdg hS.2.2.2.2 (vm_blt hi) rfl (fun ls' h' => kk H locs ls' ⟨hS.1, hS.2.1, hS.2.2.1, hS.2.2.2.1, vm_st1 (vm_blt hi) h'⟩)
set_option maxHeartbeats 1000000 in
theorem vm_g_fstore_n {i : Fin 4} : vm_G X y bs nL R0 l (pc, .fstore_n i, len, xs, v) := by
  intro p e R s m args below meth c Q hC hck hdg cs L st G I F hs pc' cs' L' st' G' I' F' hs' h1 H locs ls hS kk
  obtain ⟨hx, hb, hml, hown, hts, hnm, hTT, hA, hR⟩ := id hC
  unfold vm_1 at h1
  unfold vm_ck at hck
  dsimp only at h1 hck hdg ⊢
  have hlen : len = 1 := by simpa using hck
  subst hlen
  obtain ⟨x, r, rfl, h1⟩ := vm_f1_i h1
  obtain ⟨hi, h1⟩ := vm_if_i h1
  obtain ⟨e1, e2, e3, hok⟩ := vm_inj h1
  cases e1
  cases e2
  exact lv_fstore_n hx hb hdg rfl hS.2.2.2.2 (vm_blt hi) rfl (fun ls' h' => kk H locs ls' ⟨hS.1, hS.2.1, hS.2.2.1, hS.2.2.2.1, vm_st1 (vm_blt hi) h'⟩)
set_option maxHeartbeats 1000000 in
theorem vm_g_lstore {i : Nat} : vm_G X y bs nL R0 l (pc, .lstore i, len, xs, v) := by
  intro p e R s m args below meth c Q hC hck hdg cs L st G I F hs pc' cs' L' st' G' I' F' hs' h1 H locs ls hS kk
  obtain ⟨hx, hb, hml, hown, hts, hnm, hTT, hA, hR⟩ := id hC
  unfold vm_1 at h1
  unfold vm_ck at hck
  dsimp only at h1 hck hdg ⊢
  have hlen : len = 2 := by simpa using hck
  subst hlen
  obtain ⟨x, r, rfl, h1⟩ := vm_l1_i h1
  obtain ⟨hi, h1⟩ := vm_if_i h1
  obtain ⟨e1, e2, e3, hok⟩ := vm_inj h1
  cases e1
  cases e2
  exact lv_lstore hx hb hdg hS.2.2.2.2 (vm_blt hi) rfl (fun ls' h' => kk H locs ls' ⟨hS.1, hS.2.1, hS.2.2.1, hS.2.2.2.1, vm_st2 (vm_blt hi) h'⟩)
set_option maxHeartbeats 1000000 in
theorem vm_g_astore {i : Nat} : vm_G X y bs nL R0 l (pc, .astore i, len, xs, v) := by
  intro p e R s m args below meth c Q hC hck hdg cs L st G I F hs pc' cs' L' st' G' I' F' hs' h1 H locs ls hS kk
  obtain ⟨hx, hb, hml, hown, hts, hnm, hTT, hA, hR⟩ := id hC
  unfold vm_1 at h1
  unfold vm_ck at hck
  dsimp only at h1 hck hdg ⊢
  have hlen : len = 2 := by simpa using hck
  subst hlen
  rcases vm_ka_i h1 with ⟨x, hl, h1⟩ | ⟨hl, h1⟩
  · obtain ⟨hi, h1⟩ := vm_if_i h1
    obtain ⟨e1, e2, e3, hok⟩ := vm_inj h1
    cases e1
    cases e2
    cases st with
    | nil => cases hl
    | cons w r =>
      cases hl
      exact lv_astore hx hb hdg hS.2.2.2.2 (vm_blt hi) rfl (fun ls' h' => kk H locs ls' ⟨hS.1, hS.2.1, hS.2.2.1, hS.2.2.2.1, vm_st1 (v := .ref x) (vm_blt hi) h'⟩)
  · obtain ⟨hi, h1⟩ := vm_if_i h1
    obtain ⟨e1, e2, e3, hok⟩ := vm_inj h1
    cases e1
    cases e2
    cases st with
    | nil => cases hl
    | cons w r =>
      cases hl
      exact lv_astoreN hx hb hdg hS.2.2.2.2 (vm_blt hi) rfl (fun ls' h' => kk H locs ls' ⟨hS.1, hS.2.1, hS.2.2.1, hS.2.2.2.1, vm_st1 (v := .null) (vm_blt hi) h'⟩)
set_option maxHeartbeats 1000000 in
theorem vm_g_astore_n {i : Fin 4} : vm_G X y bs nL R0 l (pc, .astore_n i, len, xs, v) := by
  intro p e R s m args below meth c Q hC hck hdg cs L st G I F hs pc' cs' L' st' G' I' F' hs' h1 H locs ls hS kk
  obtain ⟨hx, hb, hml, hown, hts, hnm, hTT, hA, hR⟩ := id hC
  unfold vm_1 at h1
  unfold vm_ck at hck
  dsimp only at h1 hck hdg ⊢
  have hlen : len = 1 := by simpa using hck
  subst hlen
  rcases vm_ka_i h1 with ⟨x, hl, h1⟩ | ⟨hl, h1⟩
  · obtain ⟨hi, h1⟩ := vm_if_i h1
    obtain ⟨e1, e2, e3, hok⟩ := vm_inj h1
    cases e1
    cases e2
    cases st with
    | nil => cases hl
    | cons w r =>
      cases hl
      exact lv_astore_n hx hb hdg rfl hS.2.2.2.2 (vm_blt hi) rfl (fun ls' h' => kk H locs ls' ⟨hS.1, hS.2.1, hS.2.2.1, hS.2.2.2.1, vm_st1 (v := .ref x) (vm_blt hi) h'⟩)
  · obtain ⟨hi, h1⟩ := vm_if_i h1
    obtain ⟨e1, e2, e3, hok⟩ := vm_inj h1
    cases e1
    cases e2
    cases st with
    | nil => cases hl
    | cons w r =>
      cases hl
      exact lv_astore_nN hx hb hdg rfl hS.2.2.2.2 (vm_blt hi) rfl (fun ls' h' => kk H locs ls' ⟨hS.1, hS.2.1, hS.2.2.1, hS.2.2.2.1, vm_st1 (v := .null) (vm_blt hi) h'⟩)
set_option maxHeartbeats 1000000 in
theorem vm_g_iinc {i : Nat} {n : Int} : vm_G X y bs nL R0 l (pc, .iinc i n, len, xs, v) := by
  intro p e R s m args below meth c Q hC hck hdg cs L st G I F hs pc' cs' L' st' G' I' F' hs' h1 H locs ls hS kk
  obtain ⟨hx, hb, hml, hown, hts, hnm, hTT, hA, hR⟩ := id hC
  unfold vm_1 at h1
  unfold vm_ck at hck
  dsimp only at h1 hck hdg ⊢
  simp only [Bool.and_eq_true, beq_iff_eq, decide_eq_true_eq] at hck
  obtain ⟨rfl, rfl⟩ := hck
  obtain ⟨x, hl, h1⟩ := vm_k1_i h1
  obtain ⟨k, hk, h1⟩ := vm_k1_i h1
  cases hk
  obtain ⟨hi, h1⟩ := vm_if_i h1
  obtain ⟨e1, e2, e3, hok⟩ := vm_inj h1
  cases e1
  cases e2
  obtain ⟨j, hj⟩ := List.getElem?_of_mem (vm_la_mem (X := X) hl (fun q h => by cases h))
  exact lv_iinc hx hb hdg hS.2.2.2.2 (k := j) hj rfl (vm_blt hi) rfl (fun ls' h' => kk H locs ls' ⟨hS.1, hS.2.1, hS.2.2.1, hS.2.2.2.1, vm_st1 (vm_blt hi) h'⟩)
set_option maxHeartbeats 1000000 in
theorem vm_g_iconst {n : Int} : vm_G X y bs nL R0 l (pc, .iconst n, len, xs, v) := by
  intro p e R s m args below meth c Q hC hck hdg cs L st G I F hs pc' cs' L' st' G' I' F' hs' h1 H locs ls hS kk
  obtain ⟨hx, hb, hml, hown, hts, hnm, hTT, hA, hR⟩ := id hC
  unfold vm_1 at h1
  unfold vm_ck at hck
  dsimp only at h1 hck hdg ⊢
  simp only [Bool.and_eq_true, beq_iff_eq, decide_eq_true_eq] at hck
  obtain ⟨rfl, rfl⟩ := hck
  obtain ⟨e1, e2, e3, hok⟩ := vm_inj h1
  cases e1
  cases e2
  exact lv_iconst hx hb hdg rfl (kk H locs ls hS)
set_option maxHeartbeats 1000000 in
theorem vm_g_bipush {n : Int} : vm_G X y bs nL R0 l (pc, .bipush n, len, xs, v) := by
  intro p e R s m args below meth c Q hC hck hdg cs L st G I F hs pc' cs' L' st' G' I' F' hs' h1 H locs ls hS kk
  obtain ⟨hx, hb, hml, hown, hts, hnm, hTT, hA, hR⟩ := id hC
  unfold vm_1 at h1
  unfold vm_ck at hck
  dsimp only at h1 hck hdg ⊢
  simp only [Bool.and_eq_true, beq_iff_eq, decide_eq_true_eq] at hck
  obtain ⟨rfl, rfl⟩ := hck
  obtain ⟨e1, e2, e3, hok⟩ := vm_inj h1
  cases e1
  cases e2
  exact lv_bipush hx hb hdg rfl (kk H locs ls hS)
set_option maxHeartbeats 1000000 in
theorem vm_g_sipush {n : Int} : vm_G X y bs nL R0 l (pc, .sipush n, len, xs, v) := by
  intro p e R s m args below meth c Q hC hck hdg cs L st G I F hs pc' cs' L' st' G' I' F' hs' h1 H locs ls hS kk
  obtain ⟨hx, hb, hml, hown, hts, hnm, hTT, hA, hR⟩ := id hC
  unfold vm_1 at h1
  unfold vm_ck at hck
  dsimp only at h1 hck hdg ⊢
  simp only [Bool.and_eq_true, beq_iff_eq, decide_eq_true_eq] at hck
  obtain ⟨rfl, rfl⟩ := hck
  obtain ⟨e1, e2, e3, hok⟩ := vm_inj h1
  cases e1
  cases e2
  exact lv_sipush hx hb hdg rfl (kk H locs ls hS)
set_option maxHeartbeats 1000000 in
theorem vm_g_lconst {n : Fin 2} : vm_G X y bs nL R0 l (pc, .lconst n, len, xs, v) := by
  intro p e R s m args below meth c Q hC hck hdg cs L st G I F hs pc' cs' L' st' G' I' F' hs' h1 H locs ls hS kk
  obtain ⟨hx, hb, hml, hown, hts, hnm, hTT, hA, hR⟩ := id hC
  unfold vm_1 at h1
  unfold vm_ck at hck
  dsimp only at h1 hck hdg ⊢
  simp only [Bool.and_eq_true, beq_iff_eq, decide_eq_true_eq] at hck
  obtain ⟨rfl, rfl⟩ := hck
  obtain ⟨e1, e2, e3, hok⟩ := vm_inj h1
  cases e1
  cases e2
  exact lv_lconst hx hb hdg rfl (kk H locs ls hS)
set_option maxHeartbeats 1000000 in
theorem vm_g_fconst {n : Fin 3} : vm_G X y bs nL R0 l (pc, .fconst n, len, xs, v) := by
  intro p e R s m args below meth c Q hC hck hdg cs L st G I F hs pc' cs' L' st' G' I' F' hs' h1 H locs ls hS kk
  obtain ⟨hx, hb, hml, hown, hts, hnm, hTT, hA, hR⟩ := id hC
  unfold vm_1 at h1
  unfold vm_ck at hck
  dsimp only at h1 hck hdg ⊢
  simp only [Bool.and_eq_true, beq_iff_eq, decide_eq_true_eq] at hck
  obtain ⟨rfl, rfl⟩ := hck
  obtain ⟨e1, e2, e3, hok⟩ := vm_inj h1
  cases e1
  cases e2
  match n, hdg, kk with
  | 0, hdg, kk => exact lv_fconst0 hx hb hdg (kk H locs ls hS)
  | 1, hdg, kk => exact lv_fconst1 hx hb hdg (kk H locs ls hS)
  | 2, hdg, kk => exact lv_fconst2 hx hb hdg (kk H locs ls hS)
set_option maxHeartbeats 1000000 in
theorem vm_g_ldc {i : Nat} : vm_G X y bs nL R0 l (pc, .ldc i, len, xs, v) := by
  intro p e R s m args below meth c Q hC hck hdg cs L st G I F hs pc' cs' L' st' G' I' F' hs' h1 H locs ls hS kk
  obtain ⟨hx, hb, hml, hown, hts, hnm, hTT, hA, hR⟩ := id hC
  unfold vm_1 at h1
  unfold vm_ck at hck
  dsimp only at h1 hck hdg ⊢
  obtain ⟨e1, e2, e3, hok⟩ := vm_inj h1
  cases e1
  cases e2
  cases xs with
  | nil => cases v <;> simp at hck
  | cons q xs =>
    cases v <;> simp only [Bool.and_eq_true, beq_iff_eq, Bool.false_eq_true] at hck
    · obtain ⟨rfl, hw⟩ := hck
      exact lv_ldc hx hb hown (hts _ (vm_wT hw rfl)) hdg (kk H locs ls hS)
    · obtain ⟨rfl, hw⟩ := hck
      exact lv_ldcf hx hb hown (hts _ (vm_wT hw rfl)) hdg (kk H locs ls hS)
set_option maxHeartbeats 1000000 in
theorem vm_g_ldc_w {i : Nat} : vm_G X y bs nL R0 l (pc, .ldc_w i, len, xs, v) := by
  intro p e R s m args below meth c Q hC hck hdg cs L st G I F hs pc' cs' L' st' G' I' F' hs' h1 H locs ls hS kk
  obtain ⟨hx, hb, hml, hown, hts, hnm, hTT, hA, hR⟩ := id hC
  unfold vm_1 at h1
  unfold vm_ck at hck
  dsimp only at h1 hck hdg ⊢
  obtain ⟨e1, e2, e3, hok⟩ := vm_inj h1
  cases e1
  cases e2
  cases xs with
  | nil => cases v <;> simp at hck
  | cons q xs =>
    cases v <;> simp only [Bool.and_eq_true, beq_iff_eq, Bool.false_eq_true] at hck
    · obtain ⟨rfl, hw⟩ := hck
      exact lv_ldcw hx hb hown (hts _ (vm_wT hw rfl)) hdg (kk H locs ls hS)
    · obtain ⟨rfl, hw⟩ := hck
      exact vm_Wldcwf hx hb hown (hts _ (vm_wT hw rfl)) hdg (kk H locs ls hS)
set_option maxHeartbeats 1000000 in
theorem vm_g_ldc2_w {i : Nat} : vm_G X y bs nL R0 l (pc, .ldc2_w i, len, xs, v) := by
  intro p e R s m args below meth c Q hC hck hdg cs L st G I F hs pc' cs' L' st' G' I' F' hs' h1 H locs ls hS kk
  obtain ⟨hx, hb, hml, hown, hts, hnm, hTT, hA, hR⟩ := id hC
  unfold vm_1 at h1
  unfold vm_ck at hck
  dsimp only at h1 hck hdg ⊢
  obtain ⟨e1, e2, e3, hok⟩ := vm_inj h1
  cases e1
  cases e2
  cases xs with
  | nil => cases v <;> simp at hck
  | cons q xs =>
    cases v <;> simp only [Bool.and_eq_true, beq_iff_eq, Bool.false_eq_true] at hck
    · obtain ⟨rfl, hw⟩ := hck
      exact lv_ldc2 hx hb hown (hts _ (vm_wT hw rfl)) hdg (kk H locs ls hS)
set_option maxHeartbeats 1000000 in
theorem vm_g_aconst_null : vm_G X y bs nL R0 l (pc, .aconst_null, len, xs, v) := by
  intro p e R s m args below meth c Q hC hck hdg cs L st G I F hs pc' cs' L' st' G' I' F' hs' h1 H locs ls hS kk
  obtain ⟨hx, hb, hml, hown, hts, hnm, hTT, hA, hR⟩ := id hC
  unfold vm_1 at h1
  unfold vm_ck at hck
  dsimp only at h1 hck hdg ⊢
  have hlen : len = 1 := by simpa using hck
  subst hlen
  obtain ⟨e1, e2, e3, hok⟩ := vm_inj h1
  cases e1
  cases e2
  exact lv_null hx hb hdg (kk H locs ls hS)
set_option maxHeartbeats 1000000 in
theorem vm_g_iadd : vm_G X y bs nL R0 l (pc, .iadd, len, xs, v) := by
  intro p e R s m args below meth c Q hC hck hdg cs L st G I F hs pc' cs' L' st' G' I' F' hs' h1 H locs ls hS kk
  obtain ⟨hx, hb, hml, hown, hts, hnm, hTT, hA, hR⟩ := id hC
  unfold vm_1 at h1
  unfold vm_ck at hck
  dsimp only at h1 hck hdg ⊢
  have hlen : len = 1 := by simpa using hck
  subst hlen
  obtain ⟨x, w, r, rfl, h1⟩ := vm_i2_i h1
  obtain ⟨e1, e2, e3, hok⟩ := vm_inj h1
  cases e1
  cases e2
  exact lv_iadd hx hb hdg (kk H locs ls hS)
set_option maxHeartbeats 1000000 in
theorem vm_g_isub : vm_G X y bs nL R0 l (pc, .isub, len, xs, v) := by
  intro p e R s m args below meth c Q hC hck hdg cs L st G I F hs pc' cs' L' st' G' I' F' hs' h1 H locs ls hS kk
  obtain ⟨hx, hb, hml, hown, hts, hnm, hTT, hA, hR⟩ := id hC
  unfold vm_1 at h1
  unfold vm_ck at hck
  dsimp only at h1 hck hdg ⊢
  have hlen : len = 1 := by simpa using hck
  subst hlen
  obtain ⟨x, w, r, rfl, h1⟩ := vm_i2_i h1
  obtain ⟨e1, e2, e3, hok⟩ := vm_inj h1
  cases e1
  cases e2
  exact lv_isub hx hb hdg (kk H locs ls hS)
set_option maxHeartbeats 1000000 in
theorem vm_g_imul : vm_G X y bs nL R0 l (pc, .imul, len, xs, v) := by
  intro p e R s m args below meth c Q hC hck hdg cs L st G I F hs pc' cs' L' st' G' I' F' hs' h1 H locs ls hS kk
  obtain ⟨hx, hb, hml, hown, hts, hnm, hTT, hA, hR⟩ := id hC
  unfold vm_1 at h1
  unfold vm_ck at hck
  dsimp only at h1 hck hdg ⊢
  have hlen : len = 1 := by simpa using hck
  subst hlen
  obtain ⟨x, w, r, rfl, h1⟩ := vm_i2_i h1
  obtain ⟨e1, e2, e3, hok⟩ := vm_inj h1
  cases e1
  cases e2
  exact lv_imul hx hb hdg (kk H locs ls hS)
set_option maxHeartbeats 1000000 in
theorem vm_g_iand : vm_G X y bs nL R0 l (pc, .iand, len, xs, v) := by
  intro p e R s m args below meth c Q hC hck hdg cs L st G I F hs pc' cs' L' st' G' I' F' hs' h1 H locs ls hS kk
  obtain ⟨hx, hb, hml, hown, hts, hnm, hTT, hA, hR⟩ := id hC
  unfold vm_1 at h1
  unfold vm_ck at hck
  dsimp only at h1 hck hdg ⊢
  have hlen : len = 1 := by simpa using hck
  subst hlen
  obtain ⟨x, w, r, rfl, h1⟩ := vm_i2_i h1
  obtain ⟨e1, e2, e3, hok⟩ := vm_inj h1
  cases e1
  cases e2
  exact lv_iand hx hb hdg (kk H locs ls hS)
set_option maxHeartbeats 1000000 in
theorem vm_g_ior : vm_G X y bs nL R0 l (pc, .ior, len, xs, v) := by
  intro p e R s m args below meth c Q hC hck hdg cs L st G I F hs pc' cs' L' st' G' I' F' hs' h1 H locs ls hS kk
  obtain ⟨hx, hb, hml, hown, hts, hnm, hTT, hA, hR⟩ := id hC
  unfold vm_1 at h1
  unfold vm_ck at hck
  dsimp only at h1 hck hdg ⊢
  have hlen : len = 1 := by simpa using hck
  subst hlen
  obtain ⟨x, w, r, rfl, h1⟩ := vm_i2_i h1
  obtain ⟨e1, e2, e3, hok⟩ := vm_inj h1
  cases e1
  cases e2
  exact lv_ior hx hb hdg (kk H locs ls hS)
set_option maxHeartbeats 1000000 in
theorem vm_g_ishl : vm_G X y bs nL R0 l (pc, .ishl, len, xs, v) := by
  intro p e R s m args below meth c Q hC hck hdg cs L st G I F hs pc' cs' L' st' G' I' F' hs' h1 H locs ls hS kk
  obtain ⟨hx, hb, hml, hown, hts, hnm, hTT, hA, hR⟩ := id hC
  unfold vm_1 at h1
  unfold vm_ck at hck
  dsimp only at h1 hck hdg ⊢
  have hlen : len = 1 := by simpa using hck
  subst hlen
  obtain ⟨x, w, r, rfl, h1⟩ := vm_i2_i h1
  obtain ⟨e1, e2, e3, hok⟩ := vm_inj h1
  cases e1
  cases e2
  exact lv_ishl hx hb hdg (kk H locs ls hS)
set_option maxHeartbeats 1000000 in
theorem vm_g_ishr : vm_G X y bs nL R0 l (pc, .ishr, len, xs, v) := by
  intro p e R s m args below meth c Q hC hck hdg cs L st G I F hs pc' cs' L' st' G' I' F' hs' h1 H locs ls hS kk
  obtain ⟨hx, hb, hml, hown, hts, hnm, hTT, hA, hR⟩ := id hC
  unfold vm_1 at h1
  unfold vm_ck at hck
  dsimp only at h1 hck hdg ⊢
  have hlen : len = 1 := by simpa using hck
  subst hlen
  obtain ⟨x, w, r, rfl, h1⟩ := vm_i2_i h1
  obtain ⟨e1, e2, e3, hok⟩ := vm_inj h1
  cases e1
  cases e2
  exact lv_ishr hx hb hdg (kk H locs ls hS)
set_option maxHeartbeats 1000000 in
theorem vm_g_iushr : vm_G X y bs nL R0 l (pc, .iushr, len, xs, v) := by
  intro p e R s m args below meth c Q hC hck hdg cs L st G I F hs pc' cs' L' st' G' I' F' hs' h1 H locs ls hS kk
  obtain ⟨hx, hb, hml, hown, hts, hnm, hTT, hA, hR⟩ := id hC
  unfold vm_1 at h1
  unfold vm_ck at hck
  dsimp only at h1 hck hdg ⊢
  have hlen : len = 1 := by simpa using hck
  subst hlen
  obtain ⟨x, w, r, rfl, h1⟩ := vm_i2_i h1
  obtain ⟨e1, e2, e3, hok⟩ := vm_inj h1
  cases e1
  cases e2
  exact lv_iushr hx hb hdg rfl (kk H locs ls hS)
set_option maxHeartbeats 1000000 in
theorem vm_g_idiv : vm_G X y bs nL R0 l (pc, .idiv, len, xs, v) := by
  intro p e R s m args below meth c Q hC hck hdg cs L st G I F hs pc' cs' L' st' G' I' F' hs' h1 H locs ls hS kk
  obtain ⟨hx, hb, hml, hown, hts, hnm, hTT, hA, hR⟩ := id hC
  unfold vm_1 at h1
  unfold vm_ck at hck
  dsimp only at h1 hck hdg ⊢
  have hlen : len = 1 := by simpa using hck
  subst hlen
  obtain ⟨x, w, r, rfl, h1⟩ := vm_i2_i h1
  obtain ⟨e1, e2, e3, hok⟩ := vm_inj h1
  cases e1
  cases e2
  exact lv_idiv hx hb hdg (of_decide_eq_true hok) (kk H locs ls hS)
set_option maxHeartbeats 1000000 in
theorem vm_g_irem : vm_G X y bs nL R0 l (pc, .irem, len, xs, v) := by
  intro p e R s m args below meth c Q hC hck hdg cs L st G I F hs pc' cs' L' st' G' I' F' hs' h1 H locs ls hS kk
  obtain ⟨hx, hb, hml, hown, hts, hnm, hTT, hA, hR⟩ := id hC
  unfold vm_1 at h1
  unfold vm_ck at hck
  dsimp only at h1 hck hdg ⊢
  have hlen : len = 1 := by simpa using hck
  subst hlen
  obtain ⟨x, w, r, rfl, h1⟩ := vm_i2_i h1
  obtain ⟨e1, e2, e3, hok⟩ := vm_inj h1
  cases e1
  cases e2
  exact lv_irem hx hb hdg (of_decide_eq_true hok) (kk H locs ls hS)
set_option maxHeartbeats 1000000 in
theorem vm_g_land : vm_G X y bs nL R0 l (pc, .land, len, xs, v) := by
  intro p e R s m args below meth c Q hC hck hdg cs L st G I F hs pc' cs' L' st' G' I' F' hs' h1 H locs ls hS kk
  obtain ⟨hx, hb, hml, hown, hts, hnm, hTT, hA, hR⟩ := id hC
  unfold vm_1 at h1
  unfold vm_ck at hck
  dsimp only at h1 hck hdg ⊢
  have hlen : len = 1 := by simpa using hck
  subst hlen
  obtain ⟨x, w, r, rfl, h1⟩ := vm_l2_i h1
  obtain ⟨e1, e2, e3, hok⟩ := vm_inj h1
  cases e1
  cases e2
  exact lv_land hx hb hdg (kk H locs ls hS)
set_option maxHeartbeats 1000000 in
theorem vm_g_lor : vm_G X y bs nL R0 l (pc, .lor, len, xs, v) := by
  intro p e R s m args below meth c Q hC hck hdg cs L st G I F hs pc' cs' L' st' G' I' F' hs' h1 H locs ls hS kk
  obtain ⟨hx, hb, hml, hown, hts, hnm, hTT, hA, hR⟩ := id hC
  unfold vm_1 at h1
  unfold vm_ck at hck
  dsimp only at h1 hck hdg ⊢
  have hlen : len = 1 := by simpa using hck
  subst hlen
  obtain ⟨x, w, r, rfl, h1⟩ := vm_l2_i h1
  obtain ⟨e1, e2, e3, hok⟩ := vm_inj h1
  cases e1
  cases e2
  exact lv_lor hx hb hdg (kk H locs ls hS)
set_option maxHeartbeats 1000000 in
theorem vm_g_ldiv : vm_G X y bs nL R0 l (pc, .ldiv, len, xs, v) := by
  intro p e R s m args below meth c Q hC hck hdg cs L st G I F hs pc' cs' L' st' G' I' F' hs' h1 H locs ls hS kk
  obtain ⟨hx, hb, hml, hown, hts, hnm, hTT, hA, hR⟩ := id hC
  unfold vm_1 at h1
  unfold vm_ck at hck
  dsimp only at h1 hck hdg ⊢
  have hlen : len = 1 := by simpa using hck
  subst hlen
  obtain ⟨x, w, r, rfl, h1⟩ := vm_l2_i h1
  obtain ⟨e1, e2, e3, hok⟩ := vm_inj h1
  cases e1
  cases e2
  exact lv_ldiv hx hb hdg (of_decide_eq_true hok) (kk H locs ls hS)
set_option maxHeartbeats 1000000 in
theorem vm_g_lrem : vm_G X y bs nL R0 l (pc, .lrem, len, xs, v) := by
  intro p e R s m args below meth c Q hC hck hdg cs L st G I F hs pc' cs' L' st' G' I' F' hs' h1 H locs ls hS kk
  obtain ⟨hx, hb, hml, hown, hts, hnm, hTT, hA, hR⟩ := id hC
  unfold vm_1 at h1
  unfold vm_ck at hck
  dsimp only at h1 hck hdg ⊢
  have hlen : len = 1 := by simpa using hck
  subst hlen
  obtain ⟨x, w, r, rfl, h1⟩ := vm_l2_i h1
  obtain ⟨e1, e2, e3, hok⟩ := vm_inj h1
  cases e1
  cases e2
  exact lv_lrem hx hb hdg (of_decide_eq_true hok) (kk H locs ls hS)
set_option maxHeartbeats 1000000 in
theorem vm_g_lshl : vm_G X y bs nL R0 l (pc, .lshl, len, xs, v) := by
  intro p e R s m args below meth c Q hC hck hdg cs L st G I F hs pc' cs' L' st' G' I' F' hs' h1 H locs ls hS kk
  obtain ⟨hx, hb, hml, hown, hts, hnm, hTT, hA, hR⟩ := id hC
  unfold vm_1 at h1
  unfold vm_ck at hck
  dsimp only at h1 hck hdg ⊢
  have hlen : len = 1 := by simpa using hck
  subst hlen
  obtain ⟨w, r, rfl, h1⟩ := vm_i1_i h1
  obtain ⟨x, r, rfl, h1⟩ := vm_l1_i h1
  obtain ⟨e1, e2, e3, hok⟩ := vm_inj h1
  cases e1
  cases e2
  exact lv_lshl hx hb hdg rfl (kk H locs ls hS)
set_option maxHeartbeats 1000000 in
theorem vm_g_lcmp : vm_G X y bs nL R0 l (pc, .lcmp, len, xs, v) := by
  intro p e R s m args below meth c Q hC hck hdg cs L st G I F hs pc' cs' L' st' G' I' F' hs' h1 H locs ls hS kk
  obtain ⟨hx, hb, hml, hown, hts, hnm, hTT, hA, hR⟩ := id hC
  unfold vm_1 at h1
  unfold vm_ck at hck
  dsimp only at h1 hck hdg ⊢
  have hlen : len = 1 := by simpa using hck
  subst hlen
  obtain ⟨x, w, r, rfl, h1⟩ := vm_l2_i h1
  obtain ⟨e1, e2, e3, hok⟩ := vm_inj h1
  cases e1
  cases e2
  exact W.lcmp hx hb hdg (kk H locs ls hS)
set_option maxHeartbeats 1000000 in
theorem vm_g_i2l : vm_G X y bs nL R0 l (pc, .i2l, len, xs, v) := by
  intro p e R s m args below meth c Q hC hck hdg cs L st G I F hs pc' cs' L' st' G' I' F' hs' h1 H locs ls hS kk
  obtain ⟨hx, hb, hml, hown, hts, hnm, hTT, hA, hR⟩ := id hC
  unfold vm_1 at h1
  unfold vm_ck at hck
  dsimp only at h1 hck hdg ⊢
  have hlen : len = 1 := by simpa using hck
  subst hlen
  obtain ⟨x, r, rfl, h1⟩ := vm_i1_i h1
  obtain ⟨e1, e2, e3, hok⟩ := vm_inj h1
  cases e1
  cases e2
  exact lv_i2l hx hb hdg rfl (kk H locs ls hS)
set_option maxHeartbeats 1000000 in
theorem vm_g_l2i : vm_G X y bs nL R0 l (pc, .l2i, len, xs, v) := by
  intro p e R s m args below meth c Q hC hck hdg cs L st G I F hs pc' cs' L' st' G' I' F' hs' h1 H locs ls hS kk
  obtain ⟨hx, hb, hml, hown, hts, hnm, hTT, hA, hR⟩ := id hC
  unfold vm_1 at h1
  unfold vm_ck at hck
  dsimp only at h1 hck hdg ⊢
  have hlen : len = 1 := by simpa using hck
  subst hlen
  obtain ⟨x, r, rfl, h1⟩ := vm_l1_i h1
  obtain ⟨e1, e2, e3, hok⟩ := vm_inj h1
  cases e1
  cases e2
  exact lv_l2i hx hb hdg rfl (kk H locs ls hS)
set_option maxHeartbeats 1000000 in
theorem vm_g_i2b : vm_G X y bs nL R0 l (pc, .i2b, len, xs, v) := by
  intro p e R s m args below meth c Q hC hck hdg cs L st G I F hs pc' cs' L' st' G' I' F' hs' h1 H locs ls hS kk
  obtain ⟨hx, hb, hml, hown, hts, hnm, hTT, hA, hR⟩ := id hC
  unfold vm_1 at h1
  unfold vm_ck at hck
  dsimp only at h1 hck hdg ⊢
  have hlen : len = 1 := by simpa using hck
  subst hlen
  obtain ⟨x, r, rfl, h1⟩ := vm_i1_i h1
  obtain ⟨e1, e2, e3, hok⟩ := vm_inj h1
  cases e1
  cases e2
  exact lv_i2b hx hb hdg rfl (kk H locs ls hS)
set_option maxHeartbeats 1000000 in
theorem vm_g_i2s : vm_G X y bs nL R0 l (pc, .i2s, len, xs, v) := by
  intro p e R s m args below meth c Q hC hck hdg cs L st G I F hs pc' cs' L' st' G' I' F' hs' h1 H locs ls hS kk
  obtain ⟨hx, hb, hml, hown, hts, hnm, hTT, hA, hR⟩ := id hC
  unfold vm_1 at h1
  unfold vm_ck at hck
  dsimp only at h1 hck hdg ⊢
  have hlen : len = 1 := by simpa using hck
  subst hlen
  obtain ⟨x, r, rfl, h1⟩ := vm_i1_i h1
  obtain ⟨e1, e2, e3, hok⟩ := vm_inj h1
  cases e1
  cases e2
  exact lv_i2s hx hb hdg rfl (kk H locs ls hS)
set_option maxHeartbeats 1000000 in
theorem vm_g_i2f : vm_G X y bs nL R0 l (pc, .i2f, len, xs, v) := by
  intro p e R s m args below meth c Q hC hck hdg cs L st G I F hs pc' cs' L' st' G' I' F' hs' h1 H locs ls hS kk
  obtain ⟨hx, hb, hml, hown, hts, hnm, hTT, hA, hR⟩ := id hC
  unfold vm_1 at h1
  unfold vm_ck at hck
  dsimp only at h1 hck hdg ⊢
  have hlen : len = 1 := by simpa using hck
  subst hlen
  obtain ⟨x, r, rfl, h1⟩ := vm_i1_i h1
  obtain ⟨e1, e2, e3, hok⟩ := vm_inj h1
  cases e1
  cases e2
  exact lv_i2f hx hb hdg (kk H locs ls hS)
set_option maxHeartbeats 1000000 in
theorem vm_g_l2f : vm_G X y bs nL R0 l (pc, .l2f, len, xs, v) := by
  intro p e R s m args below meth c Q hC hck hdg cs L st G I F hs pc' cs' L' st' G' I' F' hs' h1 H locs ls hS kk
  obtain ⟨hx, hb, hml, hown, hts, hnm, hTT, hA, hR⟩ := id hC
  unfold vm_1 at h1
  unfold vm_ck at hck
  dsimp only at h1 hck hdg ⊢
  have hlen : len = 1 := by simpa using hck
  subst hlen
  obtain ⟨x, r, rfl, h1⟩ := vm_l1_i h1
  obtain ⟨e1, e2, e3, hok⟩ := vm_inj h1
  cases e1
  cases e2
  exact lv_l2f hx hb hdg (kk H locs ls hS)
set_option maxHeartbeats 1000000 in
theorem vm_g_f2i : vm_G X y bs nL R0 l (pc, .f2i, len, xs, v) := by
  intro p e R s m args below meth c Q hC hck hdg cs L st G I F hs pc' cs' L' st' G' I' F' hs' h1 H locs ls hS kk
  obtain ⟨hx, hb, hml, hown, hts, hnm, hTT, hA, hR⟩ := id hC
  unfold vm_1 at h1
  unfold vm_ck at hck
  dsimp only at h1 hck hdg ⊢
  have hlen : len = 1 := by simpa using hck
  subst hlen
  obtain ⟨x, r, rfl, h1⟩ := vm_f1_i h1
  obtain ⟨e1, e2, e3, hok⟩ := vm_inj h1
  cases e1
  cases e2
  exact lv_f2i hx hb hdg (kk H locs ls hS)
set_option maxHeartbeats 1000000 in
theorem vm_g_fneg : vm_G X y bs nL R0 l (pc, .fneg, len, xs, v) := by
  intro p e R s m args below meth c Q hC hck hdg cs L st G I F hs pc' cs' L' st' G' I' F' hs' h1 H locs ls hS kk
  obtain ⟨hx, hb, hml, hown, hts, hnm, hTT, hA, hR⟩ := id hC
  unfold vm_1 at h1
  unfold vm_ck at hck
  dsimp only at h1 hck hdg ⊢
  have hlen : len = 1 := by simpa using hck
  subst hlen
  obtain ⟨x, r, rfl, h1⟩ := vm_f1_i h1
  obtain ⟨e1, e2, e3, hok⟩ := vm_inj h1
  cases e1
  cases e2
  exact lv_fneg hx hb hdg (kk H locs ls hS)
set_option maxHeartbeats 1000000 in
theorem vm_g_fadd : vm_G X y bs nL R0 l (pc, .fadd, len, xs, v) := by
  intro p e R s m args below meth c Q hC hck hdg cs L st G I F hs pc' cs' L' st' G' I' F' hs' h1 H locs ls hS kk
  obtain ⟨hx, hb, hml, hown, hts, hnm, hTT, hA, hR⟩ := id hC
  unfold vm_1 at h1
  unfold vm_ck at hck
  dsimp only at h1 hck hdg ⊢
  have hlen : len = 1 := by simpa using hck
  subst hlen
  obtain ⟨x, w, r, rfl, h1⟩ := vm_f2_i h1
  obtain ⟨e1, e2, e3, hok⟩ := vm_inj h1
  cases e1
  cases e2
  exact lv_fadd hx hb hdg (vm_n3_i hok) (kk H locs ls hS)
set_option maxHeartbeats 1000000 in
theorem vm_g_fsub : vm_G X y bs nL R0 l (pc, .fsub, len, xs, v) := by
  intro p e R s m args below meth c Q hC hck hdg cs L st G I F hs pc' cs' L' st' G' I' F' hs' h1 H locs ls hS kk
  obtain ⟨hx, hb, hml, hown, hts, hnm, hTT, hA, hR⟩ := id hC
  unfold vm_1 at h1
  unfold vm_ck at hck
  dsimp only at h1 hck hdg ⊢
  have hlen : len = 1 := by simpa using hck
  subst hlen
  obtain ⟨x, w, r, rfl, h1⟩ := vm_f2_i h1
  obtain ⟨e1, e2, e3, hok⟩ := vm_inj h1
  cases e1
  cases e2
  exact lv_fsub hx hb hdg (vm_n3_i hok) (kk H locs ls hS)
set_option maxHeartbeats 1000000 in
theorem vm_g_fmul : vm_G X y bs nL R0 l (pc, .fmul, len, xs, v) := by
  intro p e R s m args below meth c Q hC hck hdg cs L st G I F hs pc' cs' L' st' G' I' F' hs' h1 H locs ls hS kk
  obtain ⟨hx, hb, hml, hown, hts, hnm, hTT, hA, hR⟩ := id hC
  unfold vm_1 at h1
  unfold vm_ck at hck
  dsimp only at h1 hck hdg ⊢
  have hlen : len = 1 := by simpa using hck
  subst hlen
  obtain ⟨x, w, r, rfl, h1⟩ := vm_f2_i h1
  obtain ⟨e1, e2, e3, hok⟩ := vm_inj h1
  cases e1
  cases e2
  exact lv_fmul hx hb hdg (vm_n3_i hok) (kk H locs ls hS)
set_option maxHeartbeats 1000000 in
theorem vm_g_fdiv : vm_G X y bs nL R0 l (pc, .fdiv, len, xs, v) := by
  intro p e R s m args below meth c Q hC hck hdg cs L st G I F hs pc' cs' L' st' G' I' F' hs' h1 H locs ls hS kk
  obtain ⟨hx, hb, hml, hown, hts, hnm, hTT, hA, hR⟩ := id hC
  unfold vm_1 at h1
  unfold vm_ck at hck
  dsimp only at h1 hck hdg ⊢
  have hlen : len = 1 := by simpa using hck
  subst hlen
  obtain ⟨x, w, r, rfl, h1⟩ := vm_f2_i h1
  obtain ⟨e1, e2, e3, hok⟩ := vm_inj h1
  cases e1
  cases e2
  exact lv_fdiv hx hb hdg (vm_n3_i hok) (kk H locs ls hS)
set_option maxHeartbeats 1000000 in
theorem vm_g_fcmp {op : CmpOp} : vm_G X y bs nL R0 l (pc, .fcmp op, len, xs, v) := by
  intro p e R s m args below meth c Q hC hck hdg cs L st G I F hs pc' cs' L' st' G' I' F' hs' h1 H locs ls hS kk
  obtain ⟨hx, hb, hml, hown, hts, hnm, hTT, hA, hR⟩ := id hC
  unfold vm_1 at h1
  unfold vm_ck at hck
  dsimp only at h1 hck hdg ⊢
  have hlen : len = 1 := by simpa using hck
  subst hlen
  obtain ⟨x, w, r, rfl, h1⟩ := vm_f2_i h1
  obtain ⟨e1, e2, e3, hok⟩ := vm_inj h1
  cases e1
  cases e2
  exact lv_fcmp hx hb hdg (kk H locs ls hS)
set_option maxHeartbeats 1000000 in
theorem vm_g_dup : vm_G X y bs nL R0 l (pc, .dup, len, xs, v) := by
  intro p e R s m args below meth c Q hC hck hdg cs L st G I F hs pc' cs' L' st' G' I' F' hs' h1 H locs ls hS kk
  obtain ⟨hx, hb, hml, hown, hts, hnm, hTT, hA, hR⟩ := id hC
  unfold vm_1 at h1
  unfold vm_ck at hck
  dsimp only at h1 hck hdg ⊢
  have hlen : len = 1 := by simpa using hck
  subst hlen
  cases st with
  | nil => cases h1
  | cons w r =>
    obtain ⟨hi, h1⟩ := vm_if_i h1
    obtain ⟨e1, e2, e3, hok⟩ := vm_inj h1
    cases e1
    cases e2
    exact lv_dup hx hb hdg (vm_v1_i hi) (kk H locs ls hS)
set_option maxHeartbeats 1000000 in
theorem vm_g_pop : vm_G X y bs nL R0 l (pc, .pop, len, xs, v) := by
  intro p e R s m args below meth c Q hC hck hdg cs L st G I F hs pc' cs' L' st' G' I' F' hs' h1 H locs ls hS kk
  obtain ⟨hx, hb, hml, hown, hts, hnm, hTT, hA, hR⟩ := id hC
  unfold vm_1 at h1
  unfold vm_ck at hck
  dsimp only at h1 hck hdg ⊢
  have hlen : len = 1 := by simpa using hck
  subst hlen
  cases st with
  | nil => cases h1
  | cons w r =>
    obtain ⟨hi, h1⟩ := vm_if_i h1
    obtain ⟨e1, e2, e3, hok⟩ := vm_inj h1
    cases e1
    cases e2
    exact lv_pop hx hb hdg (vm_v1_i hi) (kk H locs ls hS)
set_option maxHeartbeats 1000000 in
theorem vm_g_dup2 : vm_G X y bs nL R0 l (pc, .dup2, len, xs, v) := by
  intro p e R s m args below meth c Q hC hck hdg cs L st G I F hs pc' cs' L' st' G' I' F' hs' h1 H locs ls hS kk
  obtain ⟨hx, hb, hml, hown, hts, hnm, hTT, hA, hR⟩ := id hC
  unfold vm_1 at h1
  unfold vm_ck at hck
  dsimp only at h1 hck hdg ⊢
  have hlen : len = 1 := by simpa using hck
  subst hlen
  cases st with
  | nil => cases h1
  | cons w r =>
    cases r with
    | nil => cases h1
    | cons z r =>
      obtain ⟨hi, h1⟩ := vm_if_i h1
      obtain ⟨e1, e2, e3, hok⟩ := vm_inj h1
      cases e1
      cases e2
      simp only [Bool.and_eq_true] at hi
      exact lv_dup2_11 hx hb hdg (vm_v1_i hi.1) (vm_v1_i hi.2) (kk H locs ls hS)
set_option maxHeartbeats 1000000 in
theorem vm_g_goto {f : Int} : vm_G X y bs nL R0 l (pc, .goto f, len, xs, v) := by
  intro p e R s m args below meth c Q hC hck hdg cs L st G I F hs pc' cs' L' st' G' I' F' hs' h1 H locs ls hS kk
  obtain ⟨hx, hb, hml, hown, hts, hnm, hTT, hA, hR⟩ := id hC
  unfold vm_1 at h1
  unfold vm_ck at hck
  dsimp only at h1 hck hdg ⊢
  obtain ⟨t, ts, rfl, h1⟩ := vm_no_i h1
  dsimp only at hck
  simp only [Bool.and_eq_true, beq_iff_eq, decide_eq_true_eq] at hck
  obtain ⟨rfl, ht⟩ := hck
  obtain ⟨e1, e2, e3, hok⟩ := vm_inj h1
  cases e1
  cases e2
  exact lv_goto hx hb hdg ht (kk H locs ls hS)
set_option maxHeartbeats 1000000 in
theorem vm_g_ifCond {q : ClassFile.Cond} {f : Int} : vm_G X y bs nL R0 l (pc, .ifCond q f, len, xs, v) := by
  intro p e R s m args below meth c Q hC hck hdg cs L st G I F hs pc' cs' L' st' G' I' F' hs' h1 H locs ls hS kk
  obtain ⟨hx, hb, hml, hown, hts, hnm, hTT, hA, hR⟩ := id hC
  unfold vm_1 at h1
  unfold vm_ck at hck
  dsimp only at h1 hck hdg ⊢
  obtain ⟨t, ts, rfl, h1⟩ := vm_no_i h1
  dsimp only at hck
  simp only [Bool.and_eq_true, beq_iff_eq, decide_eq_true_eq] at hck
  obtain ⟨rfl, ht⟩ := hck
  obtain ⟨x, r, rfl, h1⟩ := vm_i1_i h1
  obtain ⟨e1, e2, e3, hok⟩ := vm_inj h1
  cases e1
  cases e2
  have hk := kk H locs ls hS
  cases q with
  | eq =>
    refine lv_if_eq hx hb hdg ht (fun z => ?_) (fun z => ?_)
    · rw [show vm_ic .eq x 0 = true from decide_eq_true z] at hk
      exact hk
    · rw [show vm_ic .eq x 0 = false from decide_eq_false z] at hk
      exact hk
  | ge =>
    refine lv_if_ge hx hb hdg ht (fun z => ?_) (fun z => ?_)
    · rw [show vm_ic .ge x 0 = true from decide_eq_true z] at hk
      exact hk
    · rw [show vm_ic .ge x 0 = false from decide_eq_false z] at hk
      exact hk
  | gt =>
    refine lv_if_gt hx hb hdg ht (fun z => ?_) (fun z => ?_)
    · rw [show vm_ic .gt x 0 = true from decide_eq_true z] at hk
      exact hk
    · rw [show vm_ic .gt x 0 = false from decide_eq_false z] at hk
      exact hk
  | le =>
    refine lv_if_le hx hb hdg ht (fun z => ?_) (fun z => ?_)
    · rw [show vm_ic .le x 0 = true from decide_eq_true z] at hk
      exact hk
    · rw [show vm_ic .le x 0 = false from decide_eq_false z] at hk
      exact hk
  | lt =>
    refine lv_if_lt hx hb hdg ht (fun z => ?_) (fun z => ?_)
    · rw [show vm_ic .lt x 0 = true from decide_eq_true z] at hk
      exact hk
    · rw [show vm_ic .lt x 0 = false from decide_eq_false z] at hk
      exact hk
  | ne =>
    refine lv_if_ne hx hb hdg ht (fun z => ?_) (fun z => ?_)
    · rw [show vm_ic .ne x 0 = true from decide_eq_true z] at hk
      exact hk
    · rw [show vm_ic .ne x 0 = false from decide_eq_false (fun w => w z)] at hk
      exact hk
set_option maxHeartbeats 1000000 in
theorem vm_g_if_icmp {q : ClassFile.Cond} {f : Int} : vm_G X y bs nL R0 l (pc, .if_icmp q f, len, xs, v) := by
  intro p e R s m args below meth c Q hC hck hdg cs L st G I F hs pc' cs' L' st' G' I' F' hs' h1 H locs ls hS kk
  obtain ⟨hx, hb, hml, hown, hts, hnm, hTT, hA, hR⟩ := id hC
  unfold vm_1 at h1
  unfold vm_ck at hck
  dsimp only at h1 hck hdg ⊢
  obtain ⟨t, ts, rfl, h1⟩ := vm_no_i h1
  dsimp only at hck
  simp only [Bool.and_eq_true, beq_iff_eq, decide_eq_true_eq] at hck
  obtain ⟨rfl, ht⟩ := hck
  obtain ⟨x, w, r, rfl, h1⟩ := vm_i2_i h1
  obtain ⟨e1, e2, e3, hok⟩ := vm_inj h1
  cases e1
  cases e2
  have hk := kk H locs ls hS
  cases q with
  | eq =>
    refine lv_icmp_eq hx hb hdg ht (fun z => ?_) (fun z => ?_)
    · rw [show vm_ic .eq x w = true from decide_eq_true z] at hk
      exact hk
    · rw [show vm_ic .eq x w = false from decide_eq_false z] at hk
      exact hk
  | ge =>
    refine lv_icmp_ge hx hb hdg ht (fun z => ?_) (fun z => ?_)
    · rw [show vm_ic .ge x w = true from decide_eq_true z] at hk
      exact hk
    · rw [show vm_ic .ge x w = false from decide_eq_false z] at hk
      exact hk
  | gt =>
    refine lv_icmp_gt hx hb hdg ht (fun z => ?_) (fun z => ?_)
    · rw [show vm_ic .gt x w = true from decide_eq_true z] at hk
      exact hk
    · rw [show vm_ic .gt x w = false from decide_eq_false z] at hk
      exact hk
  | le =>
    refine lv_icmp_le hx hb hdg ht (fun z => ?_) (fun z => ?_)
    · rw [show vm_ic .le x w = true from decide_eq_true z] at hk
      exact hk
    · rw [show vm_ic .le x w = false from decide_eq_false z] at hk
      exact hk
  | lt =>
    refine lv_icmp_lt hx hb hdg ht (fun z => ?_) (fun z => ?_)
    · rw [show vm_ic .lt x w = true from decide_eq_true z] at hk
      exact hk
    · rw [show vm_ic .lt x w = false from decide_eq_false z] at hk
      exact hk
  | ne =>
    refine lv_icmp_ne hx hb hdg ht (fun z => ?_) (fun z => ?_)
    · rw [show vm_ic .ne x w = true from decide_eq_true z] at hk
      exact hk
    · rw [show vm_ic .ne x w = false from decide_eq_false (fun w => w z)] at hk
      exact hk
set_option maxHeartbeats 1000000 in
theorem vm_g_ifnull {f : Int} : vm_G X y bs nL R0 l (pc, .ifnull f, len, xs, v) := by
  intro p e R s m args below meth c Q hC hck hdg cs L st G I F hs pc' cs' L' st' G' I' F' hs' h1 H locs ls hS kk
  obtain ⟨hx, hb, hml, hown, hts, hnm, hTT, hA, hR⟩ := id hC
  unfold vm_1 at h1
  unfold vm_ck at hck
  dsimp only at h1 hck hdg ⊢
  obtain ⟨t, ts, rfl, h1⟩ := vm_no_i h1
  dsimp only at hck
  simp only [Bool.and_eq_true, beq_iff_eq, decide_eq_true_eq] at hck
  obtain ⟨rfl, ht⟩ := hck
  split at h1
  · obtain ⟨e1, e2, e3, hok⟩ := vm_inj h1
    cases e1
    cases e2
    exact lv_ifnullN hx hb hdg ht (kk H locs ls hS)
  · obtain ⟨e1, e2, e3, hok⟩ := vm_inj h1
    cases e1
    cases e2
    exact lv_ifnull hx hb hdg (kk H locs ls hS)
  · cases h1
set_option maxHeartbeats 1000000 in
theorem vm_g_ifnonnull {f : Int} : vm_G X y bs nL R0 l (pc, .ifnonnull f, len, xs, v) := by
  intro p e R s m args below meth c Q hC hck hdg cs L st G I F hs pc' cs' L' st' G' I' F' hs' h1 H locs ls hS kk
  obtain ⟨hx, hb, hml, hown, hts, hnm, hTT, hA, hR⟩ := id hC
  unfold vm_1 at h1
  unfold vm_ck at hck
  dsimp only at h1 hck hdg ⊢
  obtain ⟨t, ts, rfl, h1⟩ := vm_no_i h1
  dsimp only at hck
  simp only [Bool.and_eq_true, beq_iff_eq, decide_eq_true_eq] at hck
  obtain ⟨rfl, ht⟩ := hck
  split at h1
  · obtain ⟨e1, e2, e3, hok⟩ := vm_inj h1
    cases e1
    cases e2
    exact lv_ifnonnullN hx hb hdg (kk H locs ls hS)
  · obtain ⟨e1, e2, e3, hok⟩ := vm_inj h1
    cases e1
    cases e2
    exact lv_ifnonnull hx hb hdg ht (kk H locs ls hS)
  · cases h1
end VM_G
