/-- SUMS of a sheet -/
theorem su_sh {f g f' g' : Nat → Int32} {k : Int32} {p : Nat} (h1 : f' p = f p) (h2 : g' p = g p) : sp_sh f' g' k p = sp_sh f g k p := by
  unfold sp_sh
  rw [h1, h2]
theorem su_ix {a b w h : Nat} (ha : a < h) (hb : b < w) : a * w + b < w * h := by
  have : (a + 1) * w ≤ h * w := Nat.mul_le_mul_right w ha
  rw [Nat.add_mul, Nat.one_mul] at this
  rw [Nat.mul_comm w h]
  omega
theorem su_ba {f g f' g' : Nat → Int32} {w h : Nat} (H : ∀ p, p < w * h → f' p = f p ∧ g' p = g p) : sp_ba f' g' w h = sp_ba f g w h := by
  refine sp_sum_ext fun i hi => sp_sum_ext fun t ht => sp_sum_ext fun k hk => ?_
  have e : sp_bs f' g' (nI k) w h (2 * t) (2 * i) = sp_bs f g (nI k) w h (2 * t) (2 * i) := by
    refine sp_sum_ext fun a ha => sp_sum_ext fun b hb => ?_
    have q := H ((2 * i + a) * w + (2 * t + b)) (su_ix (by omega) (by omega))
    exact su_sh q.1 q.2
  unfold sp_b3
  rw [e]
theorem su_bl (a : Nat → Int32) (w : Nat) : ∀ h, sp_sum (fun i => sp_sum (fun t => a (i * w + t)) w) h = sp_sum a (w * h)
  | 0 => rfl
  | h + 1 => by
    show sp_sum (fun i => sp_sum (fun t => a (i * w + t)) w) h + sp_sum (fun t => a (h * w + t)) w = _
    rw [su_bl a w h, Nat.mul_succ, bx_spl, Nat.mul_comm h w]
theorem su_rk {f f' : Nat → Int32} {w h : Nat} (hw : 0 < w) (H : ∀ p, p < w * h → f p = f' p) : sp_sum (sp_rk f' w) (w * h) = sp_sum (fun i => sp_sum (sp_ru f w i) w) h := by
  rw [← su_bl]
  refine sp_sum_ext fun i hi => sp_sum_ext fun t ht => ?_
  have ix := su_ix hi ht
  unfold sp_rk sp_ru
  have e : (i * w + t) % w = t := by
    rw [Nat.add_comm, Nat.add_mul_mod_self_right, Nat.mod_eq_of_lt ht]
  rw [e, H _ ix]
  by_cases c : t = 0
  · rw [if_pos (Or.inl c), if_pos (Or.inl c)]
  · rw [H (i * w + t - 1) (by omega)]
theorem call_sum {l : Launch} {X : vm_Cx} {G : List vm_Sh} {I : Nat → Nat → Int32} {F : Nat → Nat → UInt32} {k : Int32} (hD : vm_isD G) (hR : vm_isR G) (h : Rel I F) : vm_Cl l X G I F vm_M124 vm_M265 [.int k] := by
  have h40 := Rel_s h 40 0 (by decide)
  rcases h.sht with ⟨s1, s2⟩ | ⟨wy, w, a, ⟨hwy, hw0, hw2, hh0, hh2⟩, hc, hr, hs, hF⟩
  · by_cases hk : 0 ≤ k ∧ k ≤ 15
    · exact .mut (c_sum_n hD hk s1) (r_sum_n (w := 0) hR s2 rfl) rfl h40
    · exact .mut (c_sum_b hD hk) (r_sum_n (w := 0) hR s2 rfl) rfl h40
  · have hmd : ¬ I (1 + 4) 0 = -1 := by
      rw [hc.1]
      exact cl_m1 (by omega)
    have hsh : ∀ y, y < w * a → ∀ k, sp_sh (fun z => I 178 (144 * 0 + z)) (fun z => I 176 (144 * 0 + z)) k y = sp_sh (I (1 + 7)) (I (1 + 5)) k y := fun y hy k => su_sh (by rw [Nat.mul_zero, Nat.zero_add]; exact (hs y hy).2.2.symm) (by rw [Nat.mul_zero, Nat.zero_add]; exact (hs y hy).1.symm)
    by_cases hk : 0 ≤ k ∧ k ≤ 15
    · obtain ⟨n, -, hn, rfl⟩ := cl_rng hk (a := 0) (b := 15) rfl rfl (by decide) (by decide)
      rcases (show n = 0 ∨ n = 1 ∨ n = 2 ∨ n = 3 ∨ n = 4 ∨ n = 5 ∨ n = 6 ∨ n = 7 ∨ n = 8 ∨ n = 9 ∨ n = 10 ∨ n = 11 ∨ n = 12 ∨ n = 13 ∨ n = 14 ∨ n = 15 by omega) with rfl | rfl | rfl | rfl | rfl | rfl | rfl | rfl | rfl | rfl | rfl | rfl | rfl | rfl | rfl | rfl
      · exact .mut (c_sum_0 hD hc.2.1 hc.2.2 hw2 hh2 hw0 hmd) (r_sum_0 hR hr.1 hr.2.1 hw2 hh2 hw0) (congrArg (fun z : Int32 => Value.long z.toInt64) (sp_sum_ext fun y hy => by rw [hsh y hy])) h40
      · exact .mut (c_sum_1 hD hc.2.1 hc.2.2 hw2 hh2 hw0 hmd) (r_sum_1 hR hr.1 hr.2.1 hw2 hh2 hw0) (congrArg (fun z : Int32 => Value.long z.toInt64) (sp_sum_ext fun y hy => by rw [hsh y hy])) h40
      · exact .mut (c_sum_2 hD hc.2.1 hc.2.2 hw2 hh2 hw0 hmd) (r_sum_2 hR hr.1 hr.2.1 hw2 hh2 hw0) (congrArg (fun z : Int32 => Value.long z.toInt64) (sp_sum_ext fun y hy => by rw [hsh y hy])) h40
      · exact .mut (c_sum_3 hD hc.2.1 hc.2.2 hw2 hh2 hw0 hmd) (r_sum_3 hR hr.1 hr.2.1 hw2 hh2 hw0) (congrArg (fun z : Int32 => Value.long z.toInt64) (congr (congrArg _ (congr (congrArg _ (sp_sum_ext fun y hy => by rw [hsh y hy])) (sp_sum_ext fun y hy => by rw [hsh y hy]))) (sp_sum_ext fun y hy => by rw [hsh y hy]))) h40
      · exact .mut (c_sum_4 hD hc.2.1 hc.2.2 hw2 hh2 hw0 hmd) (r_sum_4 hR hr.1 hr.2.1 hw2 hh2 hw0) (congrArg (fun z : Int32 => Value.long z.toInt64) (sp_sum_ext fun y hy => hsh y hy _)) h40
      · exact .mut (c_sum_5 hD hc.2.1 hc.2.2 hw2 hh2 hw0 hmd) (r_sum_5 hR hr.1 hr.2.1 hw2 hh2 hw0) (congrArg (fun z : Int32 => Value.long z.toInt64) (sp_sum_ext fun y hy => hsh y hy _)) h40
      · exact .mut (c_sum_6 hD hc.2.1 hc.2.2 hw2 hh2 hw0 hmd) (r_sum_6 hR hr.1 hr.2.1 hw2 hh2 hw0) (congrArg (fun z : Int32 => Value.long z.toInt64) (sp_sum_ext fun y hy => hsh y hy _)) h40
      · exact .mut (c_sum_7 hD hc.2.1 hc.2.2 hw2 hh2 hw0 hmd) (r_sum_7 hR hr.1 hr.2.1 hw2 hh2 hw0) (congrArg (fun z : Int32 => Value.long z.toInt64) (su_ba fun p hp => ⟨by rw [Nat.mul_zero, Nat.zero_add]; exact (hs p hp).2.2.symm, by rw [Nat.mul_zero, Nat.zero_add]; exact (hs p hp).1.symm⟩)) h40
      · exact .mut (c_sum_8 hD hc.2.1 hc.2.2 hw2 hh2 hw0 hmd) (r_sum_8 hR hr.1 hr.2.1 hw2 hh2 hw0) (congrArg (fun z : Int32 => Value.long z.toInt64) (su_rk hw0 fun p hp => by rw [Nat.mul_zero, Nat.zero_add]; exact (hs p hp).2.1)) h40
      · exact .mut (c_sum_9 hD hc.2.1 hc.2.2 hw2 hh2 hw0 hmd) (r_sum_9 hR hr.1 hr.2.1 hw2 hh2 hw0) (congrArg (fun z : Int32 => Value.long z.toInt64) (sp_sum_ext fun e he => by rw [sp_sum_ext fun p hp => by rw [Nat.mul_zero, Nat.zero_add, ← (hs p hp).2.1]])) h40
      · exact .mut (c_sum_10 hD hc.2.1 hc.2.2 hw2 hh2 hw0 hmd (by rw [(hF 0 (by decide)).1]; exact (hF 0 (by decide)).2.1) (by rw [(hF 0 (by decide)).1]; exact (hF 0 (by decide)).2.2)) (r_sum_10 hR hr.1 hr.2.1 hw2 hh2 hw0 (hF 0 (by decide)).2.1) (by rw [(hF 0 (by decide)).1]) h40
      · exact .mut (c_sum_11 hD hc.2.1 hc.2.2 hw2 hh2 hw0 hmd (by rw [(hF 1 (by decide)).1]; exact (hF 1 (by decide)).2.1) (by rw [(hF 1 (by decide)).1]; exact (hF 1 (by decide)).2.2)) (r_sum_11 hR hr.1 hr.2.1 hw2 hh2 hw0 (hF 1 (by decide)).2.1) (by rw [(hF 1 (by decide)).1]) h40
      · exact .mut (c_sum_12 hD hc.2.1 hc.2.2 hw2 hh2 hw0 hmd (by rw [(hF 2 (by decide)).1]; exact (hF 2 (by decide)).2.1) (by rw [(hF 2 (by decide)).1]; exact (hF 2 (by decide)).2.2)) (r_sum_12 hR hr.1 hr.2.1 hw2 hh2 hw0 (hF 2 (by decide)).2.1) (by rw [(hF 2 (by decide)).1]) h40
      · exact .mut (c_sum_13 hD hc.2.1 hc.2.2 hw2 hh2 hw0 hmd) (r_sum_13 hR hr.1 hr.2.1 hw2 hh2 hw0) (by rw [hc.1, hr.2.2]) h40
      · exact .mut (c_sum_14 hD hc.2.1 hc.2.2 hw2 hh2 hw0 hmd) (r_sum_14 hR hr.1 hr.2.1 hw2 hh2 hw0) rfl h40
      · exact .mut (c_sum_15 hD hc.2.1 hc.2.2 hw2 hh2 hw0 hmd) (r_sum_15 hR hr.1 hr.2.1 hw2 hh2 hw0) rfl h40
    · exact .mut (c_sum_b hD hk) (r_sum_b hR hr.1 hr.2.1 hw2 hh2 hw0 hk) rfl h40
