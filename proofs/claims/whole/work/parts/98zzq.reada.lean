/-- READING: texts that agree below their length are read the same -/
theorem tx_sg {t t' : Nat → Int32} {n : Nat} (h : ∀ k, k < n → t k = t' k) : sp_sg t n = sp_sg t' n := funext fun i => by
  unfold sp_sg
  by_cases c : i < n
  · rw [if_pos c, if_pos c, h i c]
  · rw [if_neg c, if_neg c]
theorem tx_ps {t t' : Nat → Int32} {n : Nat} (h : ∀ k, k < n → t k = t' k) : sp_ps t n = sp_ps t' n := funext fun s => funext fun p => by
  unfold sp_ps
  rw [tx_sg h]
theorem tx_nm {t t' : Nat → Int32} {n : Nat} (h : ∀ k, k < n → t k = t' k) : sp_nm t n = sp_nm t' n := funext fun p => by
  unfold sp_nm
  rw [tx_sg h]
theorem tx_pl {t t' : Nat → Int32} {n : Nat} (h : ∀ k, k < n → t k = t' k) : sp_pl t n = sp_pl t' n := funext fun v => funext fun p => by
  unfold sp_pl
  rw [tx_sg h, tx_ps h, tx_nm h]
theorem tx_pm {t t' : Nat → Int32} {n : Nat} (h : ∀ k, k < n → t k = t' k) : sp_pm t n = sp_pm t' n := funext fun v => funext fun p => by
  unfold sp_pm
  rw [tx_sg h, tx_ps h, tx_nm h, tx_pl h]
theorem tx_pc {t t' : Nat → Int32} {n : Nat} (h : ∀ k, k < n → t k = t' k) : sp_pc t n = sp_pc t' n := funext fun p => by
  unfold sp_pc
  rw [tx_nm h, tx_pm h]
theorem tx_cl {t t' : Nat → Int32} {n : Nat} (h : ∀ k, k < n → t k = t' k) : sp_cl t n = sp_cl t' n := funext fun p => by
  unfold sp_cl
  rw [tx_sg h, tx_ps h, tx_pc h]
theorem tx_tl {t t' : Nat → Int32} {n : Nat} (h : ∀ k, k < n → t k = t' k) : ∀ u, sp_tl t n u = sp_tl t' n u
  | 0 => rfl
  | u + 1 => funext fun p => by
    show (if p = n then (some [], p) else if sp_sg t n p = 59 then (match sp_cl t n (p + 1) with
      | (none, p1) => (none, p1)
      | (some q, p1) => ((sp_tl t n u p1).1.map (fun r => q :: r), (sp_tl t n u p1).2)) else (none, p)) = (if p = n then (some [], p) else if sp_sg t' n p = 59 then (match sp_cl t' n (p + 1) with
      | (none, p1) => (none, p1)
      | (some q, p1) => ((sp_tl t' n u p1).1.map (fun r => q :: r), (sp_tl t' n u p1).2)) else (none, p))
    rw [tx_tl h u, tx_sg h, tx_cl h]
theorem tx_txt {t t' : Nat → Int32} {n : Nat} (h : ∀ k, k < n → t k = t' k) : sp_txt t n = sp_txt t' n := by
  unfold sp_txt
  rw [tx_cl h, tx_tl h]
/-- colours read are colours; what is locked is 0 or 1 -/
theorem tx_nmc {t : Nat → Int32} {n p : Nat} (h : 0 ≤ (sp_nm t n p).1) : ∃ u, u < 64 ∧ (sp_nm t n p).1 = nI u := by
  have T : ∀ x : Int32, 0 ≤ x → x ≤ 63 → ∃ u, u < 64 ∧ x = nI u := fun x a b => by
    obtain ⟨u, -, hu, e⟩ := cl_rng (x := x) ⟨a, b⟩ (a := 0) (b := 63) rfl rfl (by decide) (by decide)
    exact ⟨u, by omega, e⟩
  unfold sp_nm at h ⊢
  split at h
  · next c =>
    rw [if_pos c]
    split at h
    · next d =>
      rw [if_pos d]
      split at h
      · next e =>
        rw [if_pos e]
        exact T _ h e
      · exact absurd h (show ¬ (0 : Int32) ≤ -1 by decide)
    · next d =>
      rw [if_neg d]
      refine T _ h ?_
      have c2 : sp_sg t n p ≤ 57 := c.2
      have c1 : 48 ≤ sp_sg t n p := c.1
      obtain ⟨v, a, b, e⟩ := cl_rng (x := sp_sg t n p) ⟨c1, c2⟩ (a := 48) (b := 57) rfl rfl (by decide) (by decide)
      rw [e]
      show nI v - 48 ≤ 63
      rw [vm_ps (x := nI v) (y := 48) (a := v) (b := 48) rfl rfl a]
      exact (vm_le_i (a := v - 48) (b := 63) (by omega) (by decide)).mpr (by omega)
  · exact absurd h (show ¬ (0 : Int32) ≤ -1 by decide)
theorem tx_pcc {t : Nat → Int32} {n p : Nat} (h : 0 ≤ (sp_pc t n p).1) : sp_col (sp_pc t n p).1 := by
  unfold sp_pc at h ⊢
  split at h
  · next c =>
    rw [if_pos c]
    have a := tx_nmc c
    unfold sp_pm at h ⊢
    split at h
    · next d =>
      rw [if_pos d]
      split at h
      · next e =>
        rw [if_pos e]
        have b := tx_nmc e
        unfold sp_pl at h ⊢
        split at h
        · next f =>
          rw [if_pos f]
          split at h
          · next g =>
            rw [if_pos g]
            exact sp_col3 a b (tx_nmc g)
          · exact absurd h (show ¬ (0 : Int32) ≤ -1 by decide)
        · exact absurd h (show ¬ (0 : Int32) ≤ -1 by decide)
      · exact absurd h (show ¬ (0 : Int32) ≤ -1 by decide)
    · exact absurd h (show ¬ (0 : Int32) ≤ -1 by decide)
  · exact absurd h (show ¬ (0 : Int32) ≤ -1 by decide)
theorem tx_clq {t : Nat → Int32} {n p : Nat} {q : sp_CL} (h : (sp_cl t n p).1 = some q) : sp_col q.1 ∧ (q.2.2.2 = 0 ∨ q.2.2.2 = 1) ∧ 1 ≤ q.2.2.1 ∧ q.2.2.1 ≤ 8 := by
  have k1 := sp_cl_1 t n p
  unfold sp_k1 at k1
  rw [h] at k1
  refine ⟨?_, ?_, k1⟩
  · unfold sp_cl at h
    split at h
    · next c =>
      have a := tx_pcc c
      split at h
      · split at h
        · split at h
          · split at h
            · split at h
              · cases h
                exact a
              · cases h
                exact a
            · cases h
          · cases h
        · cases h
      · split at h
        · cases h
          exact a
        · cases h
          exact a
    · cases h
  · unfold sp_cl at h
    split at h
    · split at h
      · split at h
        · split at h
          · split at h
            · split at h
              · cases h
                exact Or.inr rfl
              · cases h
                exact Or.inl rfl
            · cases h
          · cases h
        · cases h
      · split at h
        · cases h
          exact Or.inr rfl
        · cases h
          exact Or.inl rfl
    · cases h
theorem tx_rc {q : sp_CL} {i : Nat} (h1 : 1 ≤ q.2.2.1) (h2 : q.2.2.1 ≤ 8) (hi : i < q.2.2.1) (hc : sp_col q.1) : sp_bl q.1 q.2.1 (nI i) (nI q.2.2.1 - 1) = sp_rc q i ∧ sp_col (sp_rc q i) := by
  have e : nI q.2.2.1 - 1 = nI (q.2.2.1 - 1) := vm_ps (x := nI q.2.2.1) (y := 1) (a := q.2.2.1) (b := 1) rfl rfl h1
  rw [e]
  unfold sp_bl sp_rc
  by_cases c : q.2.2.1 = 1
  · rw [if_pos c, c, if_neg (by decide)]
    exact ⟨(sp_c3_c hc).symm, sp_c3_col _⟩
  · have c3 : (0 : Int32) < nI (q.2.2.1 - 1) := (vm_lt_i (a := 0) (b := q.2.2.1 - 1) (by decide) (by omega)).mpr (by omega)
    rw [if_neg c, if_pos c3]
    refine ⟨rfl, ?_⟩
    unfold sp_bt
    exact sp_col3 (sp_b1_n (by omega) (by omega) (by omega)) (sp_b1_n (by omega) (by omega) (by omega)) (sp_b1_n (by omega) (by omega) (by omega))
/-- where a clause's colours begin -/
def rd_M : List sp_CL → Nat → Nat
  | [], _ => 0
  | _ :: _, 0 => 0
  | q :: r, j + 1 => q.2.2.1 + rd_M r j
theorem rd_fil (I : Nat → Nat → Int32) (m : Nat) (f t s lk : Int32) : ∀ k, (∀ i, i < k → vm_fil I 135 137 138 m f t s lk k 137 (m + i) = sp_bl f t (nI i) s ∧ vm_fil I 135 137 138 m f t s lk k 138 (m + i) = lk) ∧ ∀ z, z < m → vm_fil I 135 137 138 m f t s lk k 137 z = I 137 z ∧ vm_fil I 135 137 138 m f t s lk k 138 z = I 138 z
  | 0 => ⟨fun i hi => absurd hi (Nat.not_lt_zero i), fun z _ => ⟨rfl, rfl⟩⟩
  | k + 1 => by
    obtain ⟨a, b⟩ := rd_fil I m f t s lk k
    have e : vm_fil I 135 137 138 m f t s lk (k + 1) = vm_up (vm_up (vm_up (vm_fil I 135 137 138 m f t s lk k) 137 (m + k) (sp_bl f t (nI k) s)) 138 (m + k) lk) 135 5 (nI (m + k + 1)) := rfl
    rw [e]
    refine ⟨fun i hi => ?_, fun z hz => ?_⟩
    · rw [vm_up_f _ 135 _ _ 137 (by decide), vm_up_f _ 135 _ _ 138 (by decide), vm_up_f _ 138 _ _ 137 (by decide)]
      by_cases c : i = k
      · rw [c, vm_up_h, vm_up_h]
        exact ⟨rfl, rfl⟩
      · rw [vm_up_k2 _ _ _ _ _ (by omega), vm_up_k2 _ _ _ _ _ (by omega), vm_up_f _ 137 _ _ 138 (by decide)]
        exact a i (by omega)
    · rw [vm_up_f _ 135 _ _ 137 (by decide), vm_up_f _ 135 _ _ 138 (by decide), vm_up_f _ 138 _ _ 137 (by decide), vm_up_k2 _ _ _ _ _ (by omega), vm_up_k2 _ _ _ _ _ (by omega), vm_up_f _ 137 _ _ 138 (by decide)]
      exact b z hz
/-- a clause and what follows -/
def rd_t2 (t : Nat → Int32) (n u p : Nat) : Option (List sp_CL) × Nat := match sp_cl t n p with
  | (none, p1) => (none, p1)
  | (some q, p1) => ((sp_tl t n u p1).1.map (fun r => q :: r), (sp_tl t n u p1).2)
set_option maxHeartbeats 4000000 in
theorem rd_P (t : Nat → Int32) (n : Nat) : ∀ (u : Nat) (B : Nat → Nat → Int32) (p m : Nat), B 135 5 = nI m → ((rd_t2 t n u p).1 = none → (vm_prr t n 135 137 138 (u + 1) B p m).1 = 0 ∧ (vm_prr t n 135 137 138 (u + 1) B p m).2 135 2 = nI (rd_t2 t n u p).2) ∧ ∀ ls, (rd_t2 t n u p).1 = some ls → ls.length ≤ u + 1 ∧ (vm_prr t n 135 137 138 (u + 1) B p m).1 = 1 ∧ (vm_prr t n 135 137 138 (u + 1) B p m).2 135 5 = nI (m + rd_M ls ls.length) ∧ (∀ z, z < m → (vm_prr t n 135 137 138 (u + 1) B p m).2 137 z = B 137 z ∧ (vm_prr t n 135 137 138 (u + 1) B p m).2 138 z = B 138 z) ∧ ∀ j q, ls[j]? = some q → (sp_col q.1 ∧ (q.2.2.2 = 0 ∨ q.2.2.2 = 1) ∧ 1 ≤ q.2.2.1 ∧ q.2.2.1 ≤ 8) ∧ ∀ i, i < q.2.2.1 → (vm_prr t n 135 137 138 (u + 1) B p m).2 137 (m + (rd_M ls j + i)) = sp_rc q i ∧ (vm_prr t n 135 137 138 (u + 1) B p m).2 138 (m + (rd_M ls j + i)) = q.2.2.2
  | u, B, p, m, hB => by
    have E : vm_prr t n 135 137 138 (u + 1) B p m = match sp_cl t n p with
      | (none, p') => (0, vm_up B 135 2 (nI p'))
      | (some (f, g, k, lk), p') =>
        if p' = n then (1, vm_up (vm_fil B 135 137 138 m f g (nI k - 1) lk k) 135 2 (nI p'))
        else if u = 0 ∨ ¬ sp_sg t n p' = 59 then (0, vm_up (vm_fil B 135 137 138 m f g (nI k - 1) lk k) 135 2 (nI p'))
        else vm_prr t n 135 137 138 u (vm_fil B 135 137 138 m f g (nI k - 1) lk k) (p' + 1) (m + k) := rfl
    have E2 : rd_t2 t n u p = match sp_cl t n p with
      | (none, p1) => (none, p1)
      | (some q, p1) => ((sp_tl t n u p1).1.map (fun r => q :: r), (sp_tl t n u p1).2) := rfl
    have Q := fun q => tx_clq (t := t) (n := n) (p := p) (q := q)
    rcases hc : sp_cl t n p with ⟨_ | ⟨f, g, k, lk⟩, p'⟩
    · rw [hc] at E E2
      rw [E, E2]
      exact ⟨fun _ => ⟨rfl, (show vm_up B 135 2 (nI p') 135 2 = nI p' from vm_up_h _ _ _ _)⟩, fun ls h => nomatch h⟩
    · rw [hc] at E E2 Q
      obtain ⟨q1, q2, q3, q4⟩ := Q _ rfl
      have F := rd_fil B m f g (nI k - 1) lk k
      have F5 := vm_fil_5 B 135 137 138 m f g (nI k - 1) lk hB k
      have RC : ∀ i, i < k → sp_bl f g (nI i) (nI k - 1) = sp_rc (f, g, k, lk) i := fun i hi => (tx_rc (q := (f, g, k, lk)) q3 q4 hi q1).1
      have E2 : rd_t2 t n u p = ((sp_tl t n u p').1.map (fun r => (f, g, k, lk) :: r), (sp_tl t n u p').2) := E2
      have E : vm_prr t n 135 137 138 (u + 1) B p m = if p' = n then (1, vm_up (vm_fil B 135 137 138 m f g (nI k - 1) lk k) 135 2 (nI p'))
        else if u = 0 ∨ ¬ sp_sg t n p' = 59 then (0, vm_up (vm_fil B 135 137 138 m f g (nI k - 1) lk k) 135 2 (nI p'))
        else vm_prr t n 135 137 138 u (vm_fil B 135 137 138 m f g (nI k - 1) lk k) (p' + 1) (m + k) := E
      by_cases c : p' = n
      · have e3 : sp_tl t n u p' = (some [], p') := by
          cases u with
          | zero => exact if_pos c
          | succ u => exact if_pos c
        rw [if_pos c] at E
        rw [e3] at E2
        rw [E, E2]
        refine ⟨fun h => (nomatch h), fun ls h => ?_⟩
        have : ls = [(f, g, k, lk)] := (Option.some.inj h).symm
        subst this
        refine ⟨by show 1 ≤ u + 1; omega, rfl, ?_, fun z hz => ?_, fun j q hj => ?_⟩
        · show vm_up (vm_fil B 135 137 138 m f g (nI k - 1) lk k) 135 2 (nI p') 135 5 = nI (m + (k + 0))
          rw [vm_up_k2 _ _ _ _ _ (by decide)]
          exact F5
        · show vm_up (vm_fil B 135 137 138 m f g (nI k - 1) lk k) 135 2 (nI p') 137 z = B 137 z ∧ vm_up (vm_fil B 135 137 138 m f g (nI k - 1) lk k) 135 2 (nI p') 138 z = B 138 z
          rw [vm_up_f _ 135 _ _ 137 (by decide), vm_up_f _ 135 _ _ 138 (by decide)]
          exact F.2 z hz
        · cases j with
          | succ j => exact nomatch hj
          | zero =>
            have : q = (f, g, k, lk) := (Option.some.inj hj).symm
            subst this
            refine ⟨⟨q1, q2, q3, q4⟩, fun i hi => ?_⟩
            show vm_up (vm_fil B 135 137 138 m f g (nI k - 1) lk k) 135 2 (nI p') 137 (m + (0 + i)) = _ ∧ vm_up (vm_fil B 135 137 138 m f g (nI k - 1) lk k) 135 2 (nI p') 138 (m + (0 + i)) = _
            rw [vm_up_f _ 135 _ _ 137 (by decide), vm_up_f _ 135 _ _ 138 (by decide), Nat.zero_add, (F.1 i hi).1, (F.1 i hi).2]
            exact ⟨RC i hi, rfl⟩
      · rw [if_neg c] at E
        by_cases d : u = 0 ∨ ¬ sp_sg t n p' = 59
        · rw [if_pos d] at E
          have e3 : sp_tl t n u p' = (none, p') := by
            cases u with
            | zero => exact if_neg c
            | succ u => exact (if_neg c).trans (if_neg (d.resolve_left (by omega)))
          rw [e3] at E2
          rw [E, E2]
          exact ⟨fun _ => ⟨rfl, (show vm_up (vm_fil B 135 137 138 m f g (nI k - 1) lk k) 135 2 (nI p') 135 2 = nI p' from vm_up_h _ _ _ _)⟩, fun ls h => nomatch h⟩
        · rw [if_neg d] at E
          obtain ⟨v, rfl⟩ : ∃ v, u = v + 1 := ⟨u - 1, by omega⟩
          have d2 : sp_sg t n p' = 59 := Decidable.not_not.mp fun z => d (Or.inr z)
          have e3 : sp_tl t n (v + 1) p' = rd_t2 t n v (p' + 1) := (if_neg c).trans (if_pos d2)
          rw [e3] at E2
          obtain ⟨i1, i2⟩ := rd_P t n v (vm_fil B 135 137 138 m f g (nI k - 1) lk k) (p' + 1) (m + k) F5
          rw [E, E2]
          rcases hr : (rd_t2 t n v (p' + 1)).1 with _ | r
          · exact ⟨fun _ => i1 hr, fun ls h => nomatch h⟩
          · refine ⟨fun h => (nomatch h), fun ls h => ?_⟩
            have : ls = (f, g, k, lk) :: r := (Option.some.inj h).symm
            subst this
            obtain ⟨j0, j1, j2, j3, j4⟩ := i2 r hr
            refine ⟨by show r.length + 1 ≤ v + 1 + 1; omega, j1, ?_, fun z hz => ?_, fun j q hj => ?_⟩
            · show _ = nI (m + (k + rd_M r r.length))
              rw [j2, Nat.add_assoc]
            · have := j3 z (by omega)
              rw [this.1, this.2]
              exact F.2 z hz
            · cases j with
              | zero =>
                have : q = (f, g, k, lk) := (Option.some.inj hj).symm
                subst this
                refine ⟨⟨q1, q2, q3, q4⟩, fun i hi => ?_⟩
                have hi2 : i < k := hi
                have := j3 (m + i) (by omega)
                show (vm_prr _ _ _ _ _ _ _ _ _).2 137 (m + (0 + i)) = _ ∧ (vm_prr _ _ _ _ _ _ _ _ _).2 138 (m + (0 + i)) = _
                rw [Nat.zero_add, this.1, this.2, (F.1 i hi).1, (F.1 i hi).2]
                exact ⟨RC i hi, rfl⟩
              | succ j =>
                obtain ⟨k1, k2⟩ := j4 j q hj
                refine ⟨k1, fun i hi => ?_⟩
                have := k2 i hi
                show (vm_prr _ _ _ _ _ _ _ _ _).2 137 (m + (k + rd_M r j + i)) = _ ∧ (vm_prr _ _ _ _ _ _ _ _ _).2 138 (m + (k + rd_M r j + i)) = _
                rw [show m + (k + rd_M r j + i) = m + k + (rd_M r j + i) by omega]
                exact this
theorem rd_Ml : ∀ ls : List sp_CL, (∀ (j : Nat) (q : sp_CL), ls[j]? = some q → q.2.2.1 ≤ 8) → rd_M ls ls.length ≤ 8 * ls.length
  | [], _ => Nat.le_refl 0
  | q :: r, h => by
    have a := h 0 q rfl
    have b := rd_Ml r fun j q hj => h (j + 1) q hj
    show q.2.2.1 + rd_M r r.length ≤ 8 * (r.length + 1)
    omega
theorem rd_Ms : ∀ (ls : List sp_CL) (j : Nat) (q : sp_CL), ls[j]? = some q → rd_M ls (j + 1) = rd_M ls j + q.2.2.1
  | [], j, q, h => nomatch h
  | a :: r, 0, q, h => by
    have : a = q := Option.some.inj h
    subst this
    show a.2.2.1 + rd_M r 0 = 0 + a.2.2.1
    have : rd_M r 0 = 0 := by cases r <;> rfl
    omega
  | a :: r, j + 1, q, h => by
    have := rd_Ms r j q h
    show a.2.2.1 + rd_M r (j + 1) = a.2.2.1 + rd_M r j + q.2.2.1
    omega
