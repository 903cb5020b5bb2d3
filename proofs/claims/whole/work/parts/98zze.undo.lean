/-- an image brought back -/
theorem Rel_undo {I I2 : vm_IH} {F F2 : vm_FH} (h : Rel I F) (h1 : I 0 7 = 1) (e0 : I2 = vr_par (vm_bW I 1 38)) (eF : F2 = vr_parF (vm_cp F (38 + 8) (1 + 8) 3)) : Rel I2 F2 := by
  obtain ⟨q1, q2, q3, q4, q5, q6, q7, q8, q9, q10⟩ := vm_bW_q I 1 38 (Or.inl (by decide))
  have hx : ∀ x, x < 152 → I2 x = vm_bW I 1 38 x := fun x h1 => by rw [e0, vr_par_o _ _ (Or.inl h1)]
  have hc : ∀ x, 38 ≤ x → x < 152 → I2 x = I x := fun x h1 h2 => (hx x h2).trans (vm_bW_o _ _ _ _ (Or.inr (Or.inl (by omega))))
  have hJ : ∀ x, 75 ≤ x → vm_bW I 1 38 x = I x := fun x h1 => cl_W_0 _ _ _ _ (Or.inl rfl) h1
  have hr : ∀ x, x = 189 ∨ 190 < x → I2 x = I x := fun x h1 => by rw [e0, vr_par_o _ _ (Or.inr h1), hJ _ (by omega)]
  have h0 : ∀ b, I2 0 b = I 0 b := fun b => by rw [hx _ (by decide), vm_bW_o _ _ _ _ (Or.inl (by decide))]
  have hg : ∀ b, b ≠ 55 ∧ b ≠ 56 ∧ b ≠ 6 ∧ b ≠ 7 ∧ b ≠ 8 ∧ b ≠ 9 ∧ b ≠ 49 ∧ b ≠ 50 ∧ b ≠ 51 → I2 152 b = I 152 b := fun b hb => by
    rw [e0, vr_par_g _ _ hb, hJ _ (by decide)]
  have hF : ∀ x, x ≠ 9 → x ≠ 179 → F2 x = F x := fun x h1 h2 => by
    rw [eF]
    unfold vr_parF
    rw [vm_up_f _ _ _ _ _ h2, vm_up_f _ _ _ _ _ h2, vm_up_f _ _ _ _ _ h2, vm_cp_f _ _ _ _ _ h1]
  have hF6 : ∀ c, c < 3 → F2 9 c = F 46 c := fun c hc => by
    rw [eF]
    unfold vr_parF
    rw [vm_up_f _ _ _ _ _ (by decide), vm_up_f _ _ _ _ _ (by decide), vm_up_f _ _ _ _ _ (by decide)]
    exact vm_cp_h _ _ _ _ _ hc
  have hF0 : ∀ c, c < 3 → F2 179 c = F 190 c := fun c hc => by
    rw [eF]
    unfold vr_parF
    rcases (by omega : c = 0 ∨ c = 1 ∨ c = 2) with rfl | rfl | rfl
    · rw [vm_up_k2 _ _ _ _ _ (by decide), vm_up_k2 _ _ _ _ _ (by decide), vm_up_h, vm_cp_f _ _ _ _ _ (by decide)]
    · rw [vm_up_k2 _ _ _ _ _ (by decide), vm_up_h, vm_cp_f _ _ _ _ _ (by decide)]
    · rw [vm_up_h, vm_cp_f _ _ _ _ _ (by decide)]
  have hF3 : ∀ c, 3 ≤ c → F2 179 c = F 179 c := fun c hc => by
    rw [eF]
    unfold vr_parF
    rw [vm_up_k2 _ _ _ _ _ (by omega), vm_up_k2 _ _ _ _ _ (by omega), vm_up_k2 _ _ _ _ _ (by omega), vm_cp_f _ _ _ _ _ (by decide)]
  rcases h.img with ⟨z, -⟩ | ⟨-, h54, k1, k2, k3, k4, k5, k6, k7, k8⟩
  · rw [z] at h1
    exact absurd h1 (by decide)
  refine ⟨?_, ?_, ?_, ?_, ?_, ?_, ?_, ?_, ?_, ?_, ?_, Or.inr ⟨(h0 _).trans h1, (hg _ (by decide)).trans h54, Rkep_r ⟨k1, k2, k3, k4, k5, k6, k7, k8⟩ (fun a _ _ => hc a (by omega) (by omega)) (hF _ (by decide) (by decide)) (fun k _ => congrFun (hr 189 (Or.inl rfl)) k) (hF _ (by decide) (by decide))⟩, ?_⟩
  · refine R_pic_c k1 (fun p hp => ?_) (fun p hp => ?_) (fun p hp => ?_) (fun p hp k hk => ?_)
    · rw [hx _ (by omega), hx _ (by omega)]
      exact q1 p hp
    · rw [e0, vr_par_153 _ p hp, hJ _ (by decide)]
    · rw [e0, vr_par_154 _ p hp, hJ _ (by decide)]
    · rw [e0, vr_par_155 _ (144 * p + k) (by omega), hJ _ (by decide)]
  · refine R_pal_c k2 (fun p hp => ?_) (fun p hp => ?_) (fun p hp k hk => ?_) (fun p hp k hk => ?_)
    · rw [hx _ (by omega), hx _ (by omega), hx _ (by omega)]
      exact q2 p hp
    · rw [e0, vr_par_156 _ p hp, hJ _ (by decide)]
    · rw [e0, vr_par_157 _ (16 * p + k) (by omega), hJ _ (by decide)]
    · rw [e0, vr_par_158 _ (16 * p + k) (by omega), hJ _ (by decide)]
  · refine R_rul_c k3 (fun k hk => ?_) ?_ ?_ ?_ ?_
    · rw [hx _ (by decide)]
      exact q3 k hk
    · rw [e0, vr_par_v6, hJ _ (by decide)]
    · rw [e0, vr_par_v7, hJ _ (by decide)]
    · rw [e0, vr_par_v8, hJ _ (by decide)]
    · rw [e0, vr_par_v9, hJ _ (by decide)]
  · refine R_sht_c k4 ?_ (fun k hk => ?_) (fun k hk => ?_) (fun k hk => ?_) (fun c hc3 => hF6 c hc3) ?_ ?_ ?_ (fun k hk => ?_) (fun k hk => ?_) (fun k hk => ?_) (fun c hc3 => hF0 c hc3)
    · rw [hx _ (by decide)]
      exact q4
    · rw [hx _ (by decide)]
      exact q5 k hk
    · rw [hx _ (by decide)]
      exact q6 k hk
    · rw [hx _ (by decide)]
      exact q7 k hk
    · rw [e0, vr_par_173, hJ _ (by decide)]
    · rw [e0, vr_par_174, hJ _ (by decide)]
    · rw [e0, vr_par_175, hJ _ (by decide)]
    · rw [e0, vr_par_176 _ k hk, hJ _ (by decide)]
    · rw [e0, vr_par_177 _ k hk, hJ _ (by decide)]
    · rw [e0, vr_par_178 _ k hk, hJ _ (by decide)]
  · refine R_see_c k5 ?_ (fun k hk => ?_) ?_ (fun k hk => ?_) (fun k hk => ?_) (fun k hk => ?_)
    · rw [hx _ (by decide)]
      exact q8.1
    · rw [hx _ (by decide)]
      exact q8.2 k hk
    · rw [e0, vr_par_v49, hJ _ (by decide)]
    · rw [e0, vr_par_182 _ k hk, hJ _ (by decide)]
    · rw [e0, vr_par_183 _ k hk, hJ _ (by decide)]
    · rw [e0, vr_par_184 _ k hk, hJ _ (by decide)]
  · refine R_pln_c k6 ?_ (fun k hk => ?_) ?_ (fun k hk => ?_) (fun k hk => ?_)
    · rw [hx _ (by decide)]
      exact q9.1
    · rw [hx _ (by decide)]
      exact q9.2 k hk
    · rw [e0, vr_par_v50, hJ _ (by decide)]
    · rw [e0, vr_par_185 _ k hk, hJ _ (by decide)]
    · rw [e0, vr_par_186 _ k hk, hJ _ (by decide)]
  · refine R_bok_c k7 ?_ (fun k hk => ?_) ?_ (fun k hk => ?_) (fun k hk => ?_)
    · rw [hx _ (by decide)]
      exact q10.1
    · rw [hx _ (by decide)]
      exact q10.2 k hk
    · rw [e0, vr_par_v51, hJ _ (by decide)]
    · rw [e0, vr_par_187 _ k hk, hJ _ (by decide)]
    · rw [e0, vr_par_188 _ k hk, hJ _ (by decide)]
  · refine Rmst_r h.mst ?_ ?_ ?_
    · rw [hx _ (by decide), cl_mst _ _ (by decide)]
    · rw [hx _ (by decide), cl_mst _ _ (by decide)]
    · rw [hx _ (by decide), cl_mst _ _ (by decide)]
  · exact Rwrk_r h.wrk (h0 _) (hg _ (by decide))
  · refine Rtxt_r h.txt (congrFun (hc _ (by decide) (by decide)) _) (hc _ (by decide) (by decide)) (hg _ (by decide)) ?_
    rw [e0]
    unfold vr_par vr_ppr
    simp (disch := omega) only [vr_pr_i, vr_pr_o, vr_pr_f, vm_up_f, vm_up_k2, vm_up_h]
    exact hJ _ (by decide)
  · exact Rtap_r h.tap (fun a _ _ => hc a (by omega) (by omega)) (hr _ (by decide)) (hr _ (by decide)) (hr _ (by decide))
  · exact fun i hi => by
      by_cases h3 : i < 3
      · rw [hF0 i h3]
        exact k8 i h3
      · rw [hF3 i (by omega)]
        exact h.nan i hi
theorem call_undo {l : Launch} {X : vm_Cx} {G : List vm_Sh} {I : Nat → Nat → Int32} {F : Nat → Nat → UInt32}  (hD : vm_isD G) (hR : vm_isR G) (h : Rel I F) : vm_Cl l X G I F vm_M138 vm_M279 [] := by
  rcases h.img with ⟨z1, z2⟩ | ⟨z1, z2, z3⟩
  · exact .pure (c_undo_n hD z1) (r_undo_n hR z2) h
  · have h2 := Rel_undo h z1 rfl rfl
    refine .mut (c_undo_y hD z1) (r_undo_y hR (by rw [cl_W_0 _ _ _ _ (Or.inl rfl) (by decide)]; exact z2)) (congrArg Value.int (sp_sum_ext fun p hp => ?_)) h2
    obtain ⟨w, a_, z1, z2, z3, z4, hc, hr, hk⟩ := h2.pic p hp
    have e1 := hc.1.trans hr.1.symm
    rw [← e1, vr_par_o _ _ (Or.inl (by omega))]
