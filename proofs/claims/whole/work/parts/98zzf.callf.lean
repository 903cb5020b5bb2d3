/-- rows and fields that the relation speaks of; what leaves them keeps it -/
def cl_mn (x k : Nat) : Prop := (x = 0 ∧ 7 ≤ k ∧ k ≤ 8) ∨ (4 ≤ x ∧ x ≤ 8) ∨ (12 ≤ x ∧ x ≤ 74) ∨ (x = 135 ∧ k = 1) ∨ x = 136 ∨ (139 ≤ x ∧ x ≤ 151) ∨ (x = 152 ∧ (6 ≤ k ∧ k ≤ 10 ∨ k = 25 ∨ 49 ≤ k ∧ k ≤ 51 ∨ k = 54)) ∨ (153 ≤ x ∧ x ≤ 158) ∨ x = 165 ∨ (173 ≤ x ∧ x ≤ 178) ∨ (182 ≤ x ∧ x ≤ 189) ∨ (191 ≤ x ∧ x ≤ 193)
theorem Rel_e {I I' : vm_IH} {F F' : vm_FH} (h : Rel I F) (e : ∀ x k, cl_mn x k → I' x k = I x k) (f9 : F' 9 = F 9) (f46 : F' 46 = F 46) (f179 : F' 179 = F 179) (f190 : F' 190 = F 190) : Rel I' F' := by
  have E : ∀ x, (∀ k, cl_mn x k) → I' x = I x := fun x hx => funext fun k => e x k (hx k)
  have c1 : ∀ a, 12 ≤ a → a ≤ 74 → I' a = I a := fun a h1 h2 => E a fun k => by unfold cl_mn; omega
  have c0 : ∀ a, 4 ≤ a → a ≤ 8 → I' a = I a := fun a h1 h2 => E a fun k => by unfold cl_mn; omega
  have c2 : ∀ a, 153 ≤ a → a ≤ 158 → I' a = I a := fun a h1 h2 => E a fun k => by unfold cl_mn; omega
  have c3 : ∀ a, 173 ≤ a → a ≤ 178 → I' a = I a := fun a h1 h2 => E a fun k => by unfold cl_mn; omega
  have c4 : ∀ a, 182 ≤ a → a ≤ 189 → I' a = I a := fun a h1 h2 => E a fun k => by unfold cl_mn; omega
  have c5 : ∀ a, 191 ≤ a → a ≤ 193 → I' a = I a := fun a h1 h2 => E a fun k => by unfold cl_mn; omega
  have c6 : ∀ a, 139 ≤ a → a ≤ 151 → I' a = I a := fun a h1 h2 => E a fun k => by unfold cl_mn; omega
  have s : ∀ k, (6 ≤ k ∧ k ≤ 10 ∨ k = 25 ∨ 49 ≤ k ∧ k ≤ 51 ∨ k = 54) → I' 152 k = I 152 k := fun k hk => e 152 k (by unfold cl_mn; omega)
  refine ⟨Rpic_r h.pic (fun a h1 h2 => c1 a (by omega) (by omega)) (c2 _ (by decide) (by decide)) (c2 _ (by decide) (by decide)) (c2 _ (by decide) (by decide)),
    Rpal_r h.pal (fun a h1 h2 => c1 a (by omega) (by omega)) (c2 _ (by decide) (by decide)) (c2 _ (by decide) (by decide)) (c2 _ (by decide) (by decide)),
    Rrul_r h.rul (c0 _ (by decide) (by decide)) (s _ (by decide)) (s _ (by decide)) (s _ (by decide)) (s _ (by decide)),
    Rsht_r h.sht (fun a h1 h2 => c0 a (by omega) (by omega)) f9 (congrFun (c3 _ (by decide) (by decide)) 0) (congrFun (c3 _ (by decide) (by decide)) 0) (congrFun (c3 _ (by decide) (by decide)) 0) (fun k _ => congrFun (c3 _ (by decide) (by decide)) k) (fun k _ => congrFun (c3 _ (by decide) (by decide)) k) (fun k _ => congrFun (c3 _ (by decide) (by decide)) k) (fun c _ => congrFun f179 c),
    Rsee_r h.see (c1 _ (by decide) (by decide)) (c1 _ (by decide) (by decide)) (s _ (by decide)) (c4 _ (by decide) (by decide)) (c4 _ (by decide) (by decide)) (c4 _ (by decide) (by decide)),
    Rpln_r h.pln (c1 _ (by decide) (by decide)) (c1 _ (by decide) (by decide)) (s _ (by decide)) (c4 _ (by decide) (by decide)) (c4 _ (by decide) (by decide)),
    Rbok_r h.bok (c1 _ (by decide) (by decide)) (c1 _ (by decide) (by decide)) (s _ (by decide)) (c4 _ (by decide) (by decide)) (c4 _ (by decide) (by decide)),
    Rmst_r h.mst (congrFun (c1 _ (by decide) (by decide)) 0) (congrFun (c1 _ (by decide) (by decide)) 0) (congrFun (c1 _ (by decide) (by decide)) 0),
    Rwrk_r h.wrk (e 0 8 (by unfold cl_mn; omega)) (s _ (by decide)),
    Rtxt_r h.txt (e 135 1 (by unfold cl_mn; omega)) (E 136 fun k => by unfold cl_mn; omega) (s _ (by decide)) (E 165 fun k => by unfold cl_mn; omega),
    Rtap_r h.tap (fun a h1 h2 => c6 a (by omega) (by omega)) (c5 _ (by decide) (by decide)) (c5 _ (by decide) (by decide)) (c5 _ (by decide) (by decide)),
    Rimg_r h.img (e 0 7 (by unfold cl_mn; omega)) (s _ (by decide)) (fun a h1 h2 => c1 a (by omega) (by omega)) f46 (fun k _ => congrFun (c4 189 (by decide) (by decide)) k) f190,
    Rnan_r h.nan f179⟩
theorem Rel_i {I I' : vm_IH} {F : vm_FH} (h : Rel I F) (e : ∀ x k, cl_mn x k → I' x k = I x k) : Rel I' F := Rel_e h e rfl rfl rfl rfl
/-- how many of the first n -/
def cl_ck (p : Nat → Prop) [DecidablePred p] : Nat → Nat
  | 0 => 0
  | n + 1 => cl_ck p n + if p n then 1 else 0
theorem cl_ck_n (p : Nat → Prop) [DecidablePred p] : ∀ n, cl_ck p n ≤ n
  | 0 => Nat.le_refl 0
  | n + 1 => by
    have := cl_ck_n p n
    show cl_ck p n + (if p n then 1 else 0) ≤ n + 1
    split <;> omega
theorem cl_ck_m {p q : Nat → Prop} [DecidablePred p] [DecidablePred q] : ∀ {n : Nat}, (∀ k, k < n → p k → q k) → cl_ck p n ≤ cl_ck q n
  | 0, _ => Nat.le_refl 0
  | n + 1, h => by
    have ih := cl_ck_m fun k hk => h k (Nat.lt_succ_of_lt hk)
    have hn := h n (Nat.lt_succ_self n)
    show cl_ck p n + (if p n then 1 else 0) ≤ cl_ck q n + (if q n then 1 else 0)
    by_cases c : p n
    · rw [if_pos c, if_pos (hn c)]
      omega
    · rw [if_neg c]
      omega
theorem cl_ck_s {p q : Nat → Prop} [DecidablePred p] [DecidablePred q] : ∀ {n j : Nat}, (∀ k, k < n → p k → q k) → j < n → q j → ¬ p j → cl_ck p n < cl_ck q n
  | n + 1, j, h, hj, hq, hp => by
    have hn := h n (Nat.lt_succ_self n)
    show cl_ck p n + (if p n then 1 else 0) < cl_ck q n + (if q n then 1 else 0)
    by_cases e : j = n
    · subst e
      have ih := cl_ck_m fun k hk => h k (Nat.lt_succ_of_lt hk)
      rw [if_neg hp, if_pos hq]
      omega
    · have ih := cl_ck_s (fun k hk => h k (Nat.lt_succ_of_lt hk)) (show j < n by omega) hq hp
      by_cases c : p n
      · rw [if_pos c, if_pos (hn c)]
        omega
      · rw [if_neg c]
        omega
theorem cl_ck_all {p : Nat → Prop} [DecidablePred p] {n j : Nat} (hj : j < n) (hp : ¬ p j) : cl_ck p n < n := by
  have h1 := cl_ck_s (p := p) (q := fun _ => True) (n := n) (fun _ _ _ => trivial) hj trivial hp
  exact Nat.lt_of_lt_of_le h1 (cl_ck_n _ n)
theorem sp_sum_cl {p : Nat → Prop} [DecidablePred p] : ∀ {n : Nat}, sp_sum (fun k => if p k then 1 else 0) n = nI (cl_ck p n)
  | 0 => rfl
  | n + 1 => by
    show sp_sum (fun k => if p k then 1 else 0) n + (if p n then 1 else 0) = nI (cl_ck p n + if p n then 1 else 0)
    rw [sp_sum_cl]
    split
    · exact vm_pa rfl (y := 1) (b := 1) rfl
    · exact vm_pa rfl (y := 0) (b := 0) rfl
/-- each below n is reached by what is one to one below n -/
theorem cl_srj : ∀ (n : Nat) (g : Nat → Nat), (∀ i, i < n → g i < n) → (∀ i j, i < n → j < n → g i = g j → i = j) → ∀ r, r < n → ∃ i, i < n ∧ g i = r
  | 0, _, _, _, r, hr => absurd hr (Nat.not_lt_zero r)
  | n + 1, g, h1, h2, r, hr => by
    have hm := h1 n (by omega)
    by_cases e : r = g n
    · exact ⟨n, by omega, e.symm⟩
    · have a1 : ∀ i, i < n → (if g i = n then g n else g i) < n := by
        intro i hi
        have := h1 i (by omega)
        have hx : g i = g n → i = n := fun z => h2 i n (by omega) (by omega) z
        split
        · next c =>
          by_cases z : g n = n
          · exact absurd (hx (c.trans z.symm)) (by omega)
          · omega
        · omega
      have a2 : ∀ i j, i < n → j < n → (if g i = n then g n else g i) = (if g j = n then g n else g j) → i = j := by
        intro i j hi hj
        have hx : g i = g n → i = n := fun z => h2 i n (by omega) (by omega) z
        have hy : g j = g n → j = n := fun z => h2 j n (by omega) (by omega) z
        have hz := h2 i j (by omega) (by omega)
        split
        · next c =>
          split
          · next d => exact fun _ => hz (c.trans d.symm)
          · exact fun z => absurd (hy z.symm) (by omega)
        · split
          · exact fun z => absurd (hx z) (by omega)
          · exact hz
      by_cases f : r = n
      · obtain ⟨i, hi, e3⟩ := cl_srj n _ a1 a2 (g n) (by omega)
        refine ⟨i, by omega, ?_⟩
        rw [f]
        by_cases c : g i = n
        · exact c
        · rw [if_neg c] at e3
          exact absurd (h2 i n (by omega) (by omega) e3) (by omega)
      · obtain ⟨i, hi, e3⟩ := cl_srj n _ a1 a2 r (by omega)
        refine ⟨i, by omega, ?_⟩
        by_cases c : g i = n
        · rw [if_pos c] at e3
          exact absurd e3.symm e
        · rw [if_neg c] at e3
          exact e3
/-- ranks: each rank is somebody's -/
theorem cl_rk {lt : Nat → Nat → Prop} [∀ e, DecidablePred fun k => lt k e] {n : Nat} (hi : ∀ k, ¬ lt k k) (ht : ∀ a b c, lt a b → lt b c → lt a c) (hd : ∀ a b, a < n → b < n → a ≠ b → lt a b ∨ lt b a) : (∀ e, e < n → cl_ck (fun k => lt k e) n < n) ∧ ∀ r, r < n → ∃ e, e < n ∧ cl_ck (fun k => lt k e) n = r := by
  have h1 : ∀ e, e < n → cl_ck (fun k => lt k e) n < n := fun e he => cl_ck_all he (hi e)
  have hs : ∀ a b, a < n → b < n → lt a b → cl_ck (fun k => lt k a) n < cl_ck (fun k => lt k b) n := fun a b ha hb hab => cl_ck_s (p := fun k => lt k a) (q := fun k => lt k b) (fun k _ hk => ht k a b hk hab) ha hab (hi a)
  refine ⟨h1, fun r hr => cl_srj n (fun e => cl_ck (fun k => lt k e) n) h1 (fun a b ha hb e => ?_) r hr⟩
  by_cases c : a = b
  · exact c
  · have e : cl_ck (fun k => lt k a) n = cl_ck (fun k => lt k b) n := e
    rcases hd a b ha hb c with z | z
    · have := hs a b ha hb z
      omega
    · have := hs b a hb ha z
      omega
theorem cl_ltt {a b : Int32} : a < b ∨ a = b ∨ b < a := by
  rw [Int32.lt_iff_toInt_lt, Int32.lt_iff_toInt_lt, ← Int32.toInt_inj]
  omega
theorem cl_ltr {a b c : Int32} (h1 : a < b) (h2 : b < c) : a < c := by
  rw [Int32.lt_iff_toInt_lt] at *
  omega
theorem cl_lti (a : Int32) : ¬ a < a := by
  rw [Int32.lt_iff_toInt_lt]
  omega
theorem sp_ah_rk (f : Nat → Int32) (n : Nat) : (∀ e, e < n → ∃ r, r < n ∧ sp_ah f n e = nI r) ∧ ∀ r, r < n → ∃ e, e < n ∧ sp_ah f n e = nI r := by
  have h := cl_rk (lt := fun k e => f k < f e ∨ f k = f e ∧ k < e) (n := n) (fun k z => z.elim (cl_lti _) fun y => Nat.lt_irrefl _ y.2)
    (fun a b c h1 h2 => by
      rcases h1 with h1 | ⟨h1, h3⟩ <;> rcases h2 with h2 | ⟨h2, h4⟩
      · exact Or.inl (cl_ltr h1 h2)
      · exact Or.inl (h2 ▸ h1)
      · exact Or.inl (h1 ▸ h2)
      · exact Or.inr ⟨h1.trans h2, by omega⟩)
    (fun a b _ _ hn => by
      rcases cl_ltt (a := f a) (b := f b) with z | z | z
      · exact Or.inl (Or.inl z)
      · by_cases y : a < b
        · exact Or.inl (Or.inr ⟨z, y⟩)
        · exact Or.inr (Or.inr ⟨z.symm, by omega⟩)
      · exact Or.inr (Or.inl z))
  refine ⟨fun e he => ⟨_, h.1 e he, sp_sum_cl⟩, fun r hr => ?_⟩
  obtain ⟨e, he, hx⟩ := h.2 r hr
  exact ⟨e, he, sp_sum_cl.trans (congrArg nI hx)⟩
theorem sp_ca_rk (f : Nat → Int32) (n : Nat) : (∀ e, e < n → ∃ r, r < n ∧ sp_ca f n e = nI r) ∧ ∀ r, r < n → ∃ e, e < n ∧ sp_ca f n e = nI r := by
  have h := cl_rk (lt := fun k e => f e < f k ∨ f k = f e ∧ k < e) (n := n) (fun k z => z.elim (cl_lti _) fun y => Nat.lt_irrefl _ y.2)
    (fun a b c h1 h2 => by
      rcases h1 with h1 | ⟨h1, h3⟩ <;> rcases h2 with h2 | ⟨h2, h4⟩
      · exact Or.inl (cl_ltr h2 h1)
      · exact Or.inl (h2 ▸ h1)
      · exact Or.inl (h1 ▸ h2)
      · exact Or.inr ⟨h1.trans h2, by omega⟩)
    (fun a b _ _ hn => by
      rcases cl_ltt (a := f b) (b := f a) with z | z | z
      · exact Or.inl (Or.inl z)
      · by_cases y : a < b
        · exact Or.inl (Or.inr ⟨z.symm, y⟩)
        · exact Or.inr (Or.inr ⟨z, by omega⟩)
      · exact Or.inr (Or.inl z))
  refine ⟨fun e he => ⟨_, h.1 e he, sp_sum_cl⟩, fun r hr => ?_⟩
  obtain ⟨e, he, hx⟩ := h.2 r hr
  exact ⟨e, he, sp_sum_cl.trans (congrArg nI hx)⟩
theorem sp_ca_c {f g : Nat → Int32} {n e : Nat} (h : ∀ k, k < n → f k = g k) (he : e < n) : sp_ca f n e = sp_ca g n e := sp_sum_ext fun k hk => by
  show (if f e < f k ∨ f k = f e ∧ k < e then (1 : Int32) else 0) = if g e < g k ∨ g k = g e ∧ k < e then 1 else 0
  rw [h k hk, h e he]
theorem sp_ah_c {f g : Nat → Int32} {n e : Nat} (h : ∀ k, k < n → f k = g k) (he : e < n) : sp_ah f n e = sp_ah g n e := sp_sum_ext fun k hk => by
  show (if f k < f e ∨ f k = f e ∧ k < e then (1 : Int32) else 0) = if g k < g e ∨ g k = g e ∧ k < e then 1 else 0
  rw [h k hk, h e he]
/-- TALLIES: sorted strictly, so both sides find the same place -/
def sp_so (f : Nat → Int32) (n : Nat) : Prop := ∀ i j, i < j → j < n → f i < f j
theorem tl_pf (f : Nat → Int32) (c : Int32) (n : Nat) : (∀ k, k < sp_pf f c n → f k < c) ∧ (sp_pf f c n < n → ¬ f (sp_pf f c n) < c) := by
  rcases cl_fst (fun k => ¬ f k < c) n with a | ⟨j, hj, a, b⟩
  · have e := sp_pf_0 (f := f) (c := c) (n := n) fun k hk => Decidable.not_not.mp (a k hk)
    rw [← e]
    exact ⟨fun k hk => Decidable.not_not.mp (a k hk), fun h => absurd h (Nat.lt_irrefl n)⟩
  · have e := sp_pf_h (f := f) (c := c) (n := n) hj (fun k hk => Decidable.not_not.mp (b k hk)) a
    rw [← e]
    exact ⟨fun k hk => Decidable.not_not.mp (b k hk), fun _ => a⟩
theorem tl_pl (f : Nat → Int32) (c : Int32) (n : Nat) : (∀ k, sp_pl_ f c n ≤ k → k < n → ¬ f k < c) ∧ (0 < sp_pl_ f c n → f (sp_pl_ f c n - 1) < c) := by
  rcases cl_fst (fun j => f (n - j - 1) < c) n with a | ⟨j, hj, a, b⟩
  · have e := sp_pl_0 (f := f) (c := c) (n := n) a
    rw [← e]
    refine ⟨fun k _ hk z => a (n - k - 1) (by omega) ?_, fun h => by omega⟩
    rw [show n - (n - k - 1) - 1 = k by omega]
    exact z
  · have e := sp_pl_h (f := f) (c := c) (n := n) hj b a
    rw [← e]
    refine ⟨fun k h1 hk z => b (n - k - 1) (by omega) ?_, fun h => a⟩
    rw [show n - (n - k - 1) - 1 = k by omega]
    exact z
theorem tl_eq {f g : Nat → Int32} {n : Nat} (c : Int32) (hs : sp_so f n) (h : ∀ k, k < n → f k = g k) : sp_pl_ f c n = sp_pf g c n := by
  obtain ⟨a1, a2⟩ := tl_pl f c n
  obtain ⟨b1, b2⟩ := tl_pf g c n
  have n1 := sp_pl_n f c n
  have n2 := sp_pf_n g c n
  by_cases e1 : sp_pl_ f c n < sp_pf g c n
  · have z := b1 _ e1
    rw [← h _ (by omega)] at z
    exact absurd z (a1 _ (Nat.le_refl _) (by omega))
  · by_cases e2 : sp_pf g c n < sp_pl_ f c n
    · have z := b2 (by omega)
      rw [← h _ (by omega)] at z
      have y := a2 (by omega)
      by_cases e3 : sp_pf g c n = sp_pl_ f c n - 1
      · rw [e3] at z
        exact absurd y z
      · exact absurd (cl_ltr (hs _ _ (show sp_pf g c n < sp_pl_ f c n - 1 by omega) (by omega)) y) z
    · omega
/-- what stands in a row where c was put in at place p -/
def tl_in (f : Nat → Int32) (p : Nat) (c : Int32) (k : Nat) : Int32 := if k = p then c else if k < p then f k else f (k - 1)
theorem tl_row (I : Nat → Nat → Int32) {a b n p : Nat} (c d : Int32) (hab : a ≠ b) (hp : p ≤ n) (k : Nat) (hk : k < n + 1) : vm_up (vm_up (vm_tw2 I a b n (n - p)) a p c) b p d a k = tl_in (I a) p c k ∧ vm_up (vm_up (vm_tw2 I a b n (n - p)) a p c) b p d b k = tl_in (I b) p d k := by
  unfold tl_in vm_tw2 vm_up vm_wq
  rw [show n - (n - p) + 1 = p + 1 by omega]
  by_cases e : k = p
  · simp [hab, e]
  · by_cases e2 : k < p
    · simp [hab, Ne.symm hab, e, e2, show ¬ (p + 1 ≤ k ∧ k < p + 1 + (n - p)) by omega]
    · simp [hab, Ne.symm hab, e, e2, show (p + 1 ≤ k ∧ k < p + 1 + (n - p)) by omega]
theorem tl_so {f : Nat → Int32} {n p : Nat} {c : Int32} (hs : sp_so f n) (hp : p ≤ n) (h1 : ∀ k, k < p → f k < c) (h2 : p < n → c < f p) : sp_so (tl_in f p c) (n + 1) := by
  intro i j hij hj
  unfold tl_in
  by_cases a : i = p
  · rw [if_pos a, if_neg (by omega), if_neg (by omega)]
    by_cases b : j = p + 1
    · rw [show j - 1 = p by omega]
      exact h2 (by omega)
    · exact cl_ltr (h2 (by omega)) (hs p (j - 1) (by omega) (by omega))
  · rw [if_neg a]
    by_cases b : j = p
    · rw [if_pos b, if_pos (by omega)]
      exact h1 i (by omega)
    · rw [if_neg b]
      by_cases b2 : j < p
      · rw [if_pos b2, if_pos (by omega)]
        exact hs i j hij (by omega)
      · rw [if_neg b2]
        by_cases a2 : i < p
        · rw [if_pos a2]
          exact hs i (j - 1) (by omega) (by omega)
        · rw [if_neg a2]
          exact hs (i - 1) (j - 1) (by omega) (by omega)
theorem tl_in_c {f g : Nat → Int32} {n p k : Nat} {c : Int32} (h : ∀ k, k < n → f k = g k) (hp : p ≤ n) (hk : k < n + 1) : tl_in f p c k = tl_in g p c k := by
  unfold tl_in
  by_cases a : k = p
  · rw [if_pos a, if_pos a]
  · rw [if_neg a, if_neg a]
    by_cases b : k < p
    · rw [if_pos b, if_pos b]
      exact h k (by omega)
    · rw [if_neg b, if_neg b]
      exact h (k - 1) (by omega)
/-- the class's tally and the reference's -/
def tl_R (H J : Nat → Nat → Int32) (n : Nat) : Prop := sp_so (H 113) n ∧ ∀ k, k < n → H 113 k = J 159 k ∧ H 114 k = J 160 k
theorem tl_st {H J : Nat → Nat → Int32} {n : Nat} (c : Int32) (h : tl_R H J n) : (vm_t1 H 112 n c).2 = (vr_t1 J n c).2 ∧ tl_R (vm_t1 H 112 n c).1 (vr_t1 J n c).1 (vr_t1 J n c).2 := by
  obtain ⟨hs, hr⟩ := h
  have e := tl_eq c hs fun k hk => (hr k hk).1
  obtain ⟨b1, b2⟩ := tl_pf (J 159) c n
  have n2 := sp_pf_n (J 159) c n
  unfold vm_t1 vr_t1
  rw [e]
  by_cases g : sp_pf (J 159) c n < n ∧ J 159 (sp_pf (J 159) c n) = c
  · have g' : sp_pf (J 159) c n < n ∧ H (112 + 1) (sp_pf (J 159) c n) = c := ⟨g.1, ((hr _ g.1).1).trans g.2⟩
    rw [if_pos g, if_pos g']
    refine ⟨rfl, ?_⟩
    have q1 : vm_up H (112 + 2) (sp_pf (J 159) c n) (H (112 + 2) (sp_pf (J 159) c n) + 1) 113 = H 113 := vm_up_f _ _ _ _ _ (by decide)
    have q2 : vm_up J 160 (sp_pf (J 159) c n) (J 160 (sp_pf (J 159) c n) + 1) 159 = J 159 := vm_up_f _ _ _ _ _ (by decide)
    refine ⟨?_, fun k hk => ⟨?_, ?_⟩⟩
    · show sp_so (vm_up H (112 + 2) (sp_pf (J 159) c n) (H (112 + 2) (sp_pf (J 159) c n) + 1) 113) n
      rw [q1]
      exact hs
    · show vm_up H (112 + 2) (sp_pf (J 159) c n) (H (112 + 2) (sp_pf (J 159) c n) + 1) 113 k = vm_up J 160 (sp_pf (J 159) c n) (J 160 (sp_pf (J 159) c n) + 1) 159 k
      rw [q1, q2]
      exact (hr k hk).1
    · show vm_up H 114 (sp_pf (J 159) c n) (H 114 (sp_pf (J 159) c n) + 1) 114 k = vm_up J 160 (sp_pf (J 159) c n) (J 160 (sp_pf (J 159) c n) + 1) 160 k
      by_cases z : k = sp_pf (J 159) c n
      · rw [z, vm_up_h, vm_up_h, (hr _ g.1).2]
      · rw [vm_up_k2 _ _ _ _ _ z, vm_up_k2 _ _ _ _ _ z]
        exact (hr k hk).2
  · have g' : ¬ (sp_pf (J 159) c n < n ∧ H (112 + 1) (sp_pf (J 159) c n) = c) := fun z => g ⟨z.1, ((hr _ z.1).1).symm.trans z.2⟩
    rw [if_neg g, if_neg g']
    refine ⟨rfl, ?_⟩
    have E1 : ∀ x, x ≠ 112 → vm_up (vm_up (vm_up (vm_tw2 H (112 + 1) (112 + 2) n (n - sp_pf (J 159) c n)) (112 + 1) (sp_pf (J 159) c n) c) (112 + 2) (sp_pf (J 159) c n) 1) 112 2 (nI (n + 1)) x = vm_up (vm_up (vm_tw2 H 113 114 n (n - sp_pf (J 159) c n)) 113 (sp_pf (J 159) c n) c) 114 (sp_pf (J 159) c n) 1 x := fun x hx => vm_up_f _ _ _ _ _ hx
    have E2 : ∀ x, x ≠ 152 → vm_up (vm_up (vm_up (vm_tw2 J 159 160 n (n - sp_pf (J 159) c n)) 159 (sp_pf (J 159) c n) c) 160 (sp_pf (J 159) c n) 1) 152 14 (nI (n + 1)) x = vm_up (vm_up (vm_tw2 J 159 160 n (n - sp_pf (J 159) c n)) 159 (sp_pf (J 159) c n) c) 160 (sp_pf (J 159) c n) 1 x := fun x hx => vm_up_f _ _ _ _ _ hx
    have T1 := tl_row H (a := 113) (b := 114) (n := n) (p := sp_pf (J 159) c n) c 1 (by decide) n2
    have T2 := tl_row J (a := 159) (b := 160) (n := n) (p := sp_pf (J 159) c n) c 1 (by decide) n2
    refine ⟨fun i j hij hj => ?_, fun k hk => ⟨?_, ?_⟩⟩
    · have hj2 : j < n + 1 := hj
      show vm_up (vm_up (vm_up (vm_tw2 H (112 + 1) (112 + 2) n (n - sp_pf (J 159) c n)) (112 + 1) (sp_pf (J 159) c n) c) (112 + 2) (sp_pf (J 159) c n) 1) 112 2 (nI (n + 1)) 113 i < vm_up (vm_up (vm_up (vm_tw2 H (112 + 1) (112 + 2) n (n - sp_pf (J 159) c n)) (112 + 1) (sp_pf (J 159) c n) c) (112 + 2) (sp_pf (J 159) c n) 1) 112 2 (nI (n + 1)) 113 j
      rw [E1 113 (by decide), (T1 i (by omega)).1, (T1 j hj2).1]
      refine tl_so hs n2 (fun k hk => by rw [(hr k (by omega)).1]; exact b1 k hk) (fun z => ?_) i j hij hj
      have y := b2 z
      rw [(hr _ z).1]
      rcases cl_ltt (a := J 159 (sp_pf (J 159) c n)) (b := c) with q | q | q
      · exact absurd q y
      · exact absurd ⟨z, q⟩ g
      · exact q
    · have hk2 : k < n + 1 := hk
      show vm_up (vm_up (vm_up (vm_tw2 H (112 + 1) (112 + 2) n (n - sp_pf (J 159) c n)) (112 + 1) (sp_pf (J 159) c n) c) (112 + 2) (sp_pf (J 159) c n) 1) 112 2 (nI (n + 1)) 113 k = vm_up (vm_up (vm_up (vm_tw2 J 159 160 n (n - sp_pf (J 159) c n)) 159 (sp_pf (J 159) c n) c) 160 (sp_pf (J 159) c n) 1) 152 14 (nI (n + 1)) 159 k
      rw [E1 113 (by decide), E2 159 (by decide), (T1 k hk).1, (T2 k hk).1]
      exact tl_in_c (fun k hk => (hr k hk).1) n2 hk
    · have hk2 : k < n + 1 := hk
      show vm_up (vm_up (vm_up (vm_tw2 H (112 + 1) (112 + 2) n (n - sp_pf (J 159) c n)) (112 + 1) (sp_pf (J 159) c n) c) (112 + 2) (sp_pf (J 159) c n) 1) 112 2 (nI (n + 1)) 114 k = vm_up (vm_up (vm_up (vm_tw2 J 159 160 n (n - sp_pf (J 159) c n)) 159 (sp_pf (J 159) c n) c) 160 (sp_pf (J 159) c n) 1) 152 14 (nI (n + 1)) 160 k
      rw [E1 114 (by decide), E2 160 (by decide), (T1 k hk).2, (T2 k hk).2]
      exact tl_in_c (fun k hk => (hr k hk).2) n2 hk
theorem tl_gth (H J : Nat → Nat → Int32) {f g : Nat → Int32} : ∀ {p : Nat}, (∀ k, k < p → f k = g k) → (vm_gth H 112 f p).2 = (vr_gth J g p).2 ∧ tl_R (vm_gth H 112 f p).1 (vr_gth J g p).1 (vr_gth J g p).2
  | 0, _ => ⟨rfl, fun i j _ hj => absurd hj (Nat.not_lt_zero j), fun k hk => absurd hk (Nat.not_lt_zero k)⟩
  | p + 1, h => by
    obtain ⟨ih, ih2⟩ := tl_gth H J fun k hk => h k (Nat.lt_succ_of_lt hk)
    show (vm_t1 (vm_gth H 112 f p).1 112 (vm_gth H 112 f p).2 (f p)).2 = (vr_t1 (vr_gth J g p).1 (vr_gth J g p).2 (g p)).2 ∧ tl_R (vm_t1 (vm_gth H 112 f p).1 112 (vm_gth H 112 f p).2 (f p)).1 (vr_t1 (vr_gth J g p).1 (vr_gth J g p).2 (g p)).1 (vr_t1 (vr_gth J g p).1 (vr_gth J g p).2 (g p)).2
    rw [ih, h p (Nat.lt_succ_self p)]
    exact tl_st (g p) ih2
theorem tl_mn (I : vm_IH) (f g : Nat → Int32) (p q : Nat) : ∀ x k, cl_mn x k → (vr_gth (vm_gth I 112 f p).1 g q).1 x k = I x k := by
  intro x k hm
  have h1 : (vr_gth (vm_gth I 112 f p).1 g q).1 x k = (vm_gth I 112 f p).1 x k := by
    by_cases e : x = 152
    · subst e
      exact vr_gth_k _ _ _ (by unfold cl_mn at hm; omega) _
    · exact congrFun (vr_gth_o _ _ _ e (by unfold cl_mn at hm; omega) (by unfold cl_mn at hm; omega) _) k
  exact h1.trans (vm_gth_o _ _ _ _ (by unfold cl_mn at hm; omega) (by unfold cl_mn at hm; omega) (by unfold cl_mn at hm; omega) _ _)
theorem tl_mnr (I : vm_IH) (g : Nat → Int32) (q : Nat) : ∀ x k, cl_mn x k → (vr_gth I g q).1 x k = I x k := by
  intro x k hm
  by_cases e : x = 152
  · subst e
    exact vr_gth_k _ _ _ (by unfold cl_mn at hm; omega) _
  · exact congrFun (vr_gth_o _ _ _ e (by unfold cl_mn at hm; omega) (by unfold cl_mn at hm; omega) _) k
theorem call_many {l : Launch} {X : vm_Cx} {G : List vm_Sh} {I : Nat → Nat → Int32} {F : Nat → Nat → UInt32} {q : Int32} {c : Int32} (hD : vm_isD G) (hR : vm_isR G) (h : Rel I F) : vm_Cl l X G I F vm_M105 vm_M190 [.int q, .int c] := by
  by_cases hx : 0 ≤ q ∧ q ≤ 3
  · obtain ⟨p, hp, rfl⟩ := cl_q3 hx
    obtain ⟨w, a, hw, ha, h0, h1, hc, hr, hk⟩ := h.pic p hp
    by_cases hw0 : w = 0
    · exact .pure (c_many_m hD hc.1 hp hw hw0) (r_many_m hR hr.1 hp hw hw0) h
    · by_cases hc0 : 0 ≤ c ∧ c ≤ 262143
      · refine .mut (c_many_y hD hc.1 hc.2 hp hw ha (by omega) hc0) (r_many_y hR hr.1 hr.2 hp hw ha (by omega) hc0) (congrArg Value.int (sp_sum_ext fun z hz => ?_)) h
        have hwh := vm_mul144 hw ha
        rw [(hk z (by omega)).1]
      · exact .pure (c_many_b hD hc.1 hp hw (by omega) hc0) (r_many_b hR hr.1 hp hw (by omega) hc0) h
  · exact .pure (c_many_x hD hx) (r_many_x hR hx) h
