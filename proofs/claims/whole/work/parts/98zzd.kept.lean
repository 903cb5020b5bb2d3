/-- what is kept for an image, cell by cell -/
theorem vr_pk_at (I : Nat → Nat → Int32) (a n cu b : Nat) (h : cu ≤ b ∧ b < cu + n) : vr_pk I a n cu 189 b = I a (b - cu) := by
  have e := vr_pk_i I a n cu (b - cu) (by omega)
  rw [show cu + (b - cu) = b by omega] at e
  exact e
theorem vr_pv_at (I : Nat → Nat → Int32) (v : Int32) (cu b : Nat) (h : b = cu) : vr_pv I v cu 189 b = v := by
  subst h
  exact vr_pv_i I v b
set_option maxHeartbeats 4000000 in
set_option maxRecDepth 20000 in
theorem vr_pak_o (I : Nat → Nat → Int32) (x : Nat) (h1 : x ≠ 189) (h2 : x ≠ 152) : vr_pak I x = I x := by
  unfold vr_pak vr_ppk
  simp (disch := omega) only [vr_pk_at, vr_pk_l, vr_pk_o, vr_pk_f, vr_pv_at, vr_pv_l, vr_pv_o, vr_pv_f, vm_up_f, vm_up_k2, vm_up_h]
set_option maxHeartbeats 4000000 in
set_option maxRecDepth 20000 in
theorem vr_par_o (I : Nat → Nat → Int32) (x : Nat) (h1 : x < 152 ∨ x = 189 ∨ 190 < x) : vr_par I x = I x := by
  unfold vr_par vr_ppr
  simp (disch := omega) only [vr_pr_i, vr_pr_o, vr_pr_f, vm_up_f, vm_up_k2, vm_up_h]
set_option maxHeartbeats 4000000 in
set_option maxRecDepth 20000 in
theorem vr_pak_g (I : Nat → Nat → Int32) (b : Nat) (h : b ≠ 55 ∧ b ≠ 56 ∧ b ≠ 6 ∧ b ≠ 7 ∧ b ≠ 8 ∧ b ≠ 9 ∧ b ≠ 49 ∧ b ≠ 50 ∧ b ≠ 51) : vr_pak I 152 b = I 152 b := by
  unfold vr_pak vr_ppk
  simp (disch := omega) only [vr_pk_at, vr_pk_l, vr_pk_o, vr_pk_f, vr_pv_at, vr_pv_l, vr_pv_o, vr_pv_f, vm_up_f, vm_up_k2, vm_up_h]
set_option maxHeartbeats 4000000 in
set_option maxRecDepth 20000 in
theorem vr_par_g (I : Nat → Nat → Int32) (b : Nat) (h : b ≠ 55 ∧ b ≠ 56 ∧ b ≠ 6 ∧ b ≠ 7 ∧ b ≠ 8 ∧ b ≠ 9 ∧ b ≠ 49 ∧ b ≠ 50 ∧ b ≠ 51) : vr_par I 152 b = I 152 b := by
  unfold vr_par vr_ppr
  simp (disch := omega) only [vr_pr_i, vr_pr_o, vr_pr_f, vm_up_f, vm_up_k2, vm_up_h]
set_option maxHeartbeats 4000000 in
set_option maxRecDepth 20000 in
theorem vr_pak_g6 (I : Nat → Nat → Int32) : vr_pak I 152 6 = I 152 6 := by
  unfold vr_pak vr_ppk
  simp (disch := omega) only [vr_pk_at, vr_pk_l, vr_pk_o, vr_pk_f, vr_pv_at, vr_pv_l, vr_pv_o, vr_pv_f, vm_up_f, vm_up_k2, vm_up_h]
set_option maxHeartbeats 4000000 in
set_option maxRecDepth 20000 in
theorem vr_pak_v6 (I : Nat → Nat → Int32) : vr_pak I 189 132 = I 152 6 := by
  unfold vr_pak vr_ppk
  simp (disch := omega) only [vr_pk_at, vr_pk_l, vr_pk_o, vr_pk_f, vr_pv_at, vr_pv_l, vr_pv_o, vr_pv_f, vm_up_f, vm_up_k2, vm_up_h]
set_option maxHeartbeats 4000000 in
set_option maxRecDepth 20000 in
theorem vr_par_v6 (I : Nat → Nat → Int32) : vr_par I 152 6 = I 189 132 := by
  unfold vr_par vr_ppr
  simp (disch := omega) only [vr_pr_i, vr_pr_o, vr_pr_f, vm_up_f, vm_up_k2, vm_up_h]
set_option maxHeartbeats 4000000 in
set_option maxRecDepth 20000 in
theorem vr_pak_g7 (I : Nat → Nat → Int32) : vr_pak I 152 7 = I 152 7 := by
  unfold vr_pak vr_ppk
  simp (disch := omega) only [vr_pk_at, vr_pk_l, vr_pk_o, vr_pk_f, vr_pv_at, vr_pv_l, vr_pv_o, vr_pv_f, vm_up_f, vm_up_k2, vm_up_h]
set_option maxHeartbeats 4000000 in
set_option maxRecDepth 20000 in
theorem vr_pak_v7 (I : Nat → Nat → Int32) : vr_pak I 189 133 = I 152 7 := by
  unfold vr_pak vr_ppk
  simp (disch := omega) only [vr_pk_at, vr_pk_l, vr_pk_o, vr_pk_f, vr_pv_at, vr_pv_l, vr_pv_o, vr_pv_f, vm_up_f, vm_up_k2, vm_up_h]
set_option maxHeartbeats 4000000 in
set_option maxRecDepth 20000 in
theorem vr_par_v7 (I : Nat → Nat → Int32) : vr_par I 152 7 = I 189 133 := by
  unfold vr_par vr_ppr
  simp (disch := omega) only [vr_pr_i, vr_pr_o, vr_pr_f, vm_up_f, vm_up_k2, vm_up_h]
set_option maxHeartbeats 4000000 in
set_option maxRecDepth 20000 in
theorem vr_pak_g8 (I : Nat → Nat → Int32) : vr_pak I 152 8 = I 152 8 := by
  unfold vr_pak vr_ppk
  simp (disch := omega) only [vr_pk_at, vr_pk_l, vr_pk_o, vr_pk_f, vr_pv_at, vr_pv_l, vr_pv_o, vr_pv_f, vm_up_f, vm_up_k2, vm_up_h]
set_option maxHeartbeats 4000000 in
set_option maxRecDepth 20000 in
theorem vr_pak_v8 (I : Nat → Nat → Int32) : vr_pak I 189 1203 = I 152 8 := by
  unfold vr_pak vr_ppk
  simp (disch := omega) only [vr_pk_at, vr_pk_l, vr_pk_o, vr_pk_f, vr_pv_at, vr_pv_l, vr_pv_o, vr_pv_f, vm_up_f, vm_up_k2, vm_up_h]
set_option maxHeartbeats 4000000 in
set_option maxRecDepth 20000 in
theorem vr_par_v8 (I : Nat → Nat → Int32) : vr_par I 152 8 = I 189 1203 := by
  unfold vr_par vr_ppr
  simp (disch := omega) only [vr_pr_i, vr_pr_o, vr_pr_f, vm_up_f, vm_up_k2, vm_up_h]
set_option maxHeartbeats 4000000 in
set_option maxRecDepth 20000 in
theorem vr_pak_g9 (I : Nat → Nat → Int32) : vr_pak I 152 9 = I 152 9 := by
  unfold vr_pak vr_ppk
  simp (disch := omega) only [vr_pk_at, vr_pk_l, vr_pk_o, vr_pk_f, vr_pv_at, vr_pv_l, vr_pv_o, vr_pv_f, vm_up_f, vm_up_k2, vm_up_h]
set_option maxHeartbeats 4000000 in
set_option maxRecDepth 20000 in
theorem vr_pak_v9 (I : Nat → Nat → Int32) : vr_pak I 189 1204 = I 152 9 := by
  unfold vr_pak vr_ppk
  simp (disch := omega) only [vr_pk_at, vr_pk_l, vr_pk_o, vr_pk_f, vr_pv_at, vr_pv_l, vr_pv_o, vr_pv_f, vm_up_f, vm_up_k2, vm_up_h]
set_option maxHeartbeats 4000000 in
set_option maxRecDepth 20000 in
theorem vr_par_v9 (I : Nat → Nat → Int32) : vr_par I 152 9 = I 189 1204 := by
  unfold vr_par vr_ppr
  simp (disch := omega) only [vr_pr_i, vr_pr_o, vr_pr_f, vm_up_f, vm_up_k2, vm_up_h]
set_option maxHeartbeats 4000000 in
set_option maxRecDepth 20000 in
theorem vr_pak_g49 (I : Nat → Nat → Int32) : vr_pak I 152 49 = I 152 49 := by
  unfold vr_pak vr_ppk
  simp (disch := omega) only [vr_pk_at, vr_pk_l, vr_pk_o, vr_pk_f, vr_pv_at, vr_pv_l, vr_pv_o, vr_pv_f, vm_up_f, vm_up_k2, vm_up_h]
set_option maxHeartbeats 4000000 in
set_option maxRecDepth 20000 in
theorem vr_pak_v49 (I : Nat → Nat → Int32) : vr_pak I 189 1205 = I 152 49 := by
  unfold vr_pak vr_ppk
  simp (disch := omega) only [vr_pk_at, vr_pk_l, vr_pk_o, vr_pk_f, vr_pv_at, vr_pv_l, vr_pv_o, vr_pv_f, vm_up_f, vm_up_k2, vm_up_h]
set_option maxHeartbeats 4000000 in
set_option maxRecDepth 20000 in
theorem vr_par_v49 (I : Nat → Nat → Int32) : vr_par I 152 49 = I 189 1205 := by
  unfold vr_par vr_ppr
  simp (disch := omega) only [vr_pr_i, vr_pr_o, vr_pr_f, vm_up_f, vm_up_k2, vm_up_h]
set_option maxHeartbeats 4000000 in
set_option maxRecDepth 20000 in
theorem vr_pak_g50 (I : Nat → Nat → Int32) : vr_pak I 152 50 = I 152 50 := by
  unfold vr_pak vr_ppk
  simp (disch := omega) only [vr_pk_at, vr_pk_l, vr_pk_o, vr_pk_f, vr_pv_at, vr_pv_l, vr_pv_o, vr_pv_f, vm_up_f, vm_up_k2, vm_up_h]
set_option maxHeartbeats 4000000 in
set_option maxRecDepth 20000 in
theorem vr_pak_v50 (I : Nat → Nat → Int32) : vr_pak I 189 1206 = I 152 50 := by
  unfold vr_pak vr_ppk
  simp (disch := omega) only [vr_pk_at, vr_pk_l, vr_pk_o, vr_pk_f, vr_pv_at, vr_pv_l, vr_pv_o, vr_pv_f, vm_up_f, vm_up_k2, vm_up_h]
set_option maxHeartbeats 4000000 in
set_option maxRecDepth 20000 in
theorem vr_par_v50 (I : Nat → Nat → Int32) : vr_par I 152 50 = I 189 1206 := by
  unfold vr_par vr_ppr
  simp (disch := omega) only [vr_pr_i, vr_pr_o, vr_pr_f, vm_up_f, vm_up_k2, vm_up_h]
set_option maxHeartbeats 4000000 in
set_option maxRecDepth 20000 in
theorem vr_pak_g51 (I : Nat → Nat → Int32) : vr_pak I 152 51 = I 152 51 := by
  unfold vr_pak vr_ppk
  simp (disch := omega) only [vr_pk_at, vr_pk_l, vr_pk_o, vr_pk_f, vr_pv_at, vr_pv_l, vr_pv_o, vr_pv_f, vm_up_f, vm_up_k2, vm_up_h]
set_option maxHeartbeats 4000000 in
set_option maxRecDepth 20000 in
theorem vr_pak_v51 (I : Nat → Nat → Int32) : vr_pak I 189 1207 = I 152 51 := by
  unfold vr_pak vr_ppk
  simp (disch := omega) only [vr_pk_at, vr_pk_l, vr_pk_o, vr_pk_f, vr_pv_at, vr_pv_l, vr_pv_o, vr_pv_f, vm_up_f, vm_up_k2, vm_up_h]
set_option maxHeartbeats 4000000 in
set_option maxRecDepth 20000 in
theorem vr_par_v51 (I : Nat → Nat → Int32) : vr_par I 152 51 = I 189 1207 := by
  unfold vr_par vr_ppr
  simp (disch := omega) only [vr_pr_i, vr_pr_o, vr_pr_f, vm_up_f, vm_up_k2, vm_up_h]
set_option maxHeartbeats 4000000 in
set_option maxRecDepth 20000 in
theorem vr_pak_156 (I : Nat → Nat → Int32) (k : Nat) (h : k < 4) : vr_pak I 189 k = I 156 k := by
  unfold vr_pak vr_ppk
  simp (disch := omega) only [vr_pk_at, vr_pk_l, vr_pk_o, vr_pk_f, vr_pv_at, vr_pv_l, vr_pv_o, vr_pv_f, vm_up_f, vm_up_k2, vm_up_h] <;> exact congrArg (I 156) (by omega)
set_option maxHeartbeats 4000000 in
set_option maxRecDepth 20000 in
theorem vr_par_156 (I : Nat → Nat → Int32) (k : Nat) (h : k < 4) : vr_par I 156 k = I 189 k := by
  unfold vr_par vr_ppr
  simp (disch := omega) only [vr_pr_i, vr_pr_o, vr_pr_f, vm_up_f, vm_up_k2, vm_up_h] <;> exact congrArg (I 189) (by omega)
set_option maxHeartbeats 4000000 in
set_option maxRecDepth 20000 in
theorem vr_pak_157 (I : Nat → Nat → Int32) (k : Nat) (h : k < 64) : vr_pak I 189 (4 + k) = I 157 k := by
  unfold vr_pak vr_ppk
  simp (disch := omega) only [vr_pk_at, vr_pk_l, vr_pk_o, vr_pk_f, vr_pv_at, vr_pv_l, vr_pv_o, vr_pv_f, vm_up_f, vm_up_k2, vm_up_h] <;> exact congrArg (I 157) (by omega)
set_option maxHeartbeats 4000000 in
set_option maxRecDepth 20000 in
theorem vr_par_157 (I : Nat → Nat → Int32) (k : Nat) (h : k < 64) : vr_par I 157 k = I 189 (4 + k) := by
  unfold vr_par vr_ppr
  simp (disch := omega) only [vr_pr_i, vr_pr_o, vr_pr_f, vm_up_f, vm_up_k2, vm_up_h] <;> exact congrArg (I 189) (by omega)
set_option maxHeartbeats 4000000 in
set_option maxRecDepth 20000 in
theorem vr_pak_158 (I : Nat → Nat → Int32) (k : Nat) (h : k < 64) : vr_pak I 189 (68 + k) = I 158 k := by
  unfold vr_pak vr_ppk
  simp (disch := omega) only [vr_pk_at, vr_pk_l, vr_pk_o, vr_pk_f, vr_pv_at, vr_pv_l, vr_pv_o, vr_pv_f, vm_up_f, vm_up_k2, vm_up_h] <;> exact congrArg (I 158) (by omega)
set_option maxHeartbeats 4000000 in
set_option maxRecDepth 20000 in
theorem vr_par_158 (I : Nat → Nat → Int32) (k : Nat) (h : k < 64) : vr_par I 158 k = I 189 (68 + k) := by
  unfold vr_par vr_ppr
  simp (disch := omega) only [vr_pr_i, vr_pr_o, vr_pr_f, vm_up_f, vm_up_k2, vm_up_h] <;> exact congrArg (I 189) (by omega)
set_option maxHeartbeats 4000000 in
set_option maxRecDepth 20000 in
theorem vr_pak_153 (I : Nat → Nat → Int32) (k : Nat) (h : k < 4) : vr_pak I 189 (134 + k) = I 153 k := by
  unfold vr_pak vr_ppk
  simp (disch := omega) only [vr_pk_at, vr_pk_l, vr_pk_o, vr_pk_f, vr_pv_at, vr_pv_l, vr_pv_o, vr_pv_f, vm_up_f, vm_up_k2, vm_up_h] <;> exact congrArg (I 153) (by omega)
set_option maxHeartbeats 4000000 in
set_option maxRecDepth 20000 in
theorem vr_par_153 (I : Nat → Nat → Int32) (k : Nat) (h : k < 4) : vr_par I 153 k = I 189 (134 + k) := by
  unfold vr_par vr_ppr
  simp (disch := omega) only [vr_pr_i, vr_pr_o, vr_pr_f, vm_up_f, vm_up_k2, vm_up_h] <;> exact congrArg (I 189) (by omega)
set_option maxHeartbeats 4000000 in
set_option maxRecDepth 20000 in
theorem vr_pak_154 (I : Nat → Nat → Int32) (k : Nat) (h : k < 4) : vr_pak I 189 (138 + k) = I 154 k := by
  unfold vr_pak vr_ppk
  simp (disch := omega) only [vr_pk_at, vr_pk_l, vr_pk_o, vr_pk_f, vr_pv_at, vr_pv_l, vr_pv_o, vr_pv_f, vm_up_f, vm_up_k2, vm_up_h] <;> exact congrArg (I 154) (by omega)
set_option maxHeartbeats 4000000 in
set_option maxRecDepth 20000 in
theorem vr_par_154 (I : Nat → Nat → Int32) (k : Nat) (h : k < 4) : vr_par I 154 k = I 189 (138 + k) := by
  unfold vr_par vr_ppr
  simp (disch := omega) only [vr_pr_i, vr_pr_o, vr_pr_f, vm_up_f, vm_up_k2, vm_up_h] <;> exact congrArg (I 189) (by omega)
set_option maxHeartbeats 4000000 in
set_option maxRecDepth 20000 in
theorem vr_pak_155 (I : Nat → Nat → Int32) (k : Nat) (h : k < 576) : vr_pak I 189 (142 + k) = I 155 k := by
  unfold vr_pak vr_ppk
  simp (disch := omega) only [vr_pk_at, vr_pk_l, vr_pk_o, vr_pk_f, vr_pv_at, vr_pv_l, vr_pv_o, vr_pv_f, vm_up_f, vm_up_k2, vm_up_h] <;> exact congrArg (I 155) (by omega)
set_option maxHeartbeats 4000000 in
set_option maxRecDepth 20000 in
theorem vr_par_155 (I : Nat → Nat → Int32) (k : Nat) (h : k < 576) : vr_par I 155 k = I 189 (142 + k) := by
  unfold vr_par vr_ppr
  simp (disch := omega) only [vr_pr_i, vr_pr_o, vr_pr_f, vm_up_f, vm_up_k2, vm_up_h] <;> exact congrArg (I 189) (by omega)
set_option maxHeartbeats 4000000 in
set_option maxRecDepth 20000 in
theorem vr_pak_176 (I : Nat → Nat → Int32) (k : Nat) (h : k < 144) : vr_pak I 189 (718 + k) = I 176 k := by
  unfold vr_pak vr_ppk
  simp (disch := omega) only [vr_pk_at, vr_pk_l, vr_pk_o, vr_pk_f, vr_pv_at, vr_pv_l, vr_pv_o, vr_pv_f, vm_up_f, vm_up_k2, vm_up_h] <;> exact congrArg (I 176) (by omega)
set_option maxHeartbeats 4000000 in
set_option maxRecDepth 20000 in
theorem vr_par_176 (I : Nat → Nat → Int32) (k : Nat) (h : k < 144) : vr_par I 176 k = I 189 (718 + k) := by
  unfold vr_par vr_ppr
  simp (disch := omega) only [vr_pr_i, vr_pr_o, vr_pr_f, vm_up_f, vm_up_k2, vm_up_h] <;> exact congrArg (I 189) (by omega)
set_option maxHeartbeats 4000000 in
set_option maxRecDepth 20000 in
theorem vr_pak_177 (I : Nat → Nat → Int32) (k : Nat) (h : k < 144) : vr_pak I 189 (862 + k) = I 177 k := by
  unfold vr_pak vr_ppk
  simp (disch := omega) only [vr_pk_at, vr_pk_l, vr_pk_o, vr_pk_f, vr_pv_at, vr_pv_l, vr_pv_o, vr_pv_f, vm_up_f, vm_up_k2, vm_up_h] <;> exact congrArg (I 177) (by omega)
set_option maxHeartbeats 4000000 in
set_option maxRecDepth 20000 in
theorem vr_par_177 (I : Nat → Nat → Int32) (k : Nat) (h : k < 144) : vr_par I 177 k = I 189 (862 + k) := by
  unfold vr_par vr_ppr
  simp (disch := omega) only [vr_pr_i, vr_pr_o, vr_pr_f, vm_up_f, vm_up_k2, vm_up_h] <;> exact congrArg (I 189) (by omega)
set_option maxHeartbeats 4000000 in
set_option maxRecDepth 20000 in
theorem vr_pak_178 (I : Nat → Nat → Int32) (k : Nat) (h : k < 144) : vr_pak I 189 (1006 + k) = I 178 k := by
  unfold vr_pak vr_ppk
  simp (disch := omega) only [vr_pk_at, vr_pk_l, vr_pk_o, vr_pk_f, vr_pv_at, vr_pv_l, vr_pv_o, vr_pv_f, vm_up_f, vm_up_k2, vm_up_h] <;> exact congrArg (I 178) (by omega)
set_option maxHeartbeats 4000000 in
set_option maxRecDepth 20000 in
theorem vr_par_178 (I : Nat → Nat → Int32) (k : Nat) (h : k < 144) : vr_par I 178 k = I 189 (1006 + k) := by
  unfold vr_par vr_ppr
  simp (disch := omega) only [vr_pr_i, vr_pr_o, vr_pr_f, vm_up_f, vm_up_k2, vm_up_h] <;> exact congrArg (I 189) (by omega)
set_option maxHeartbeats 4000000 in
set_option maxRecDepth 20000 in
theorem vr_pak_173 (I : Nat → Nat → Int32) : vr_pak I 189 1150 = I 173 0 := by
  unfold vr_pak vr_ppk
  simp (disch := omega) only [vr_pk_at, vr_pk_l, vr_pk_o, vr_pk_f, vr_pv_at, vr_pv_l, vr_pv_o, vr_pv_f, vm_up_f, vm_up_k2, vm_up_h] <;> exact congrArg (I 173) (by omega)
set_option maxHeartbeats 4000000 in
set_option maxRecDepth 20000 in
theorem vr_par_173 (I : Nat → Nat → Int32) : vr_par I 173 0 = I 189 1150 := by
  unfold vr_par vr_ppr
  simp (disch := omega) only [vr_pr_i, vr_pr_o, vr_pr_f, vm_up_f, vm_up_k2, vm_up_h] <;> exact congrArg (I 189) (by omega)
set_option maxHeartbeats 4000000 in
set_option maxRecDepth 20000 in
theorem vr_pak_174 (I : Nat → Nat → Int32) : vr_pak I 189 1151 = I 174 0 := by
  unfold vr_pak vr_ppk
  simp (disch := omega) only [vr_pk_at, vr_pk_l, vr_pk_o, vr_pk_f, vr_pv_at, vr_pv_l, vr_pv_o, vr_pv_f, vm_up_f, vm_up_k2, vm_up_h] <;> exact congrArg (I 174) (by omega)
set_option maxHeartbeats 4000000 in
set_option maxRecDepth 20000 in
theorem vr_par_174 (I : Nat → Nat → Int32) : vr_par I 174 0 = I 189 1151 := by
  unfold vr_par vr_ppr
  simp (disch := omega) only [vr_pr_i, vr_pr_o, vr_pr_f, vm_up_f, vm_up_k2, vm_up_h] <;> exact congrArg (I 189) (by omega)
set_option maxHeartbeats 4000000 in
set_option maxRecDepth 20000 in
theorem vr_pak_175 (I : Nat → Nat → Int32) : vr_pak I 189 1152 = I 175 0 := by
  unfold vr_pak vr_ppk
  simp (disch := omega) only [vr_pk_at, vr_pk_l, vr_pk_o, vr_pk_f, vr_pv_at, vr_pv_l, vr_pv_o, vr_pv_f, vm_up_f, vm_up_k2, vm_up_h] <;> exact congrArg (I 175) (by omega)
set_option maxHeartbeats 4000000 in
set_option maxRecDepth 20000 in
theorem vr_par_175 (I : Nat → Nat → Int32) : vr_par I 175 0 = I 189 1152 := by
  unfold vr_par vr_ppr
  simp (disch := omega) only [vr_pr_i, vr_pr_o, vr_pr_f, vm_up_f, vm_up_k2, vm_up_h] <;> exact congrArg (I 189) (by omega)
set_option maxHeartbeats 4000000 in
set_option maxRecDepth 20000 in
theorem vr_pak_182 (I : Nat → Nat → Int32) (k : Nat) (h : k < 6) : vr_pak I 189 (1153 + k) = I 182 k := by
  unfold vr_pak vr_ppk
  simp (disch := omega) only [vr_pk_at, vr_pk_l, vr_pk_o, vr_pk_f, vr_pv_at, vr_pv_l, vr_pv_o, vr_pv_f, vm_up_f, vm_up_k2, vm_up_h] <;> exact congrArg (I 182) (by omega)
set_option maxHeartbeats 4000000 in
set_option maxRecDepth 20000 in
theorem vr_par_182 (I : Nat → Nat → Int32) (k : Nat) (h : k < 6) : vr_par I 182 k = I 189 (1153 + k) := by
  unfold vr_par vr_ppr
  simp (disch := omega) only [vr_pr_i, vr_pr_o, vr_pr_f, vm_up_f, vm_up_k2, vm_up_h] <;> exact congrArg (I 189) (by omega)
set_option maxHeartbeats 4000000 in
set_option maxRecDepth 20000 in
theorem vr_pak_183 (I : Nat → Nat → Int32) (k : Nat) (h : k < 6) : vr_pak I 189 (1159 + k) = I 183 k := by
  unfold vr_pak vr_ppk
  simp (disch := omega) only [vr_pk_at, vr_pk_l, vr_pk_o, vr_pk_f, vr_pv_at, vr_pv_l, vr_pv_o, vr_pv_f, vm_up_f, vm_up_k2, vm_up_h] <;> exact congrArg (I 183) (by omega)
set_option maxHeartbeats 4000000 in
set_option maxRecDepth 20000 in
theorem vr_par_183 (I : Nat → Nat → Int32) (k : Nat) (h : k < 6) : vr_par I 183 k = I 189 (1159 + k) := by
  unfold vr_par vr_ppr
  simp (disch := omega) only [vr_pr_i, vr_pr_o, vr_pr_f, vm_up_f, vm_up_k2, vm_up_h] <;> exact congrArg (I 189) (by omega)
set_option maxHeartbeats 4000000 in
set_option maxRecDepth 20000 in
theorem vr_pak_184 (I : Nat → Nat → Int32) (k : Nat) (h : k < 6) : vr_pak I 189 (1165 + k) = I 184 k := by
  unfold vr_pak vr_ppk
  simp (disch := omega) only [vr_pk_at, vr_pk_l, vr_pk_o, vr_pk_f, vr_pv_at, vr_pv_l, vr_pv_o, vr_pv_f, vm_up_f, vm_up_k2, vm_up_h] <;> exact congrArg (I 184) (by omega)
set_option maxHeartbeats 4000000 in
set_option maxRecDepth 20000 in
theorem vr_par_184 (I : Nat → Nat → Int32) (k : Nat) (h : k < 6) : vr_par I 184 k = I 189 (1165 + k) := by
  unfold vr_par vr_ppr
  simp (disch := omega) only [vr_pr_i, vr_pr_o, vr_pr_f, vm_up_f, vm_up_k2, vm_up_h] <;> exact congrArg (I 189) (by omega)
set_option maxHeartbeats 4000000 in
set_option maxRecDepth 20000 in
theorem vr_pak_185 (I : Nat → Nat → Int32) (k : Nat) (h : k < 8) : vr_pak I 189 (1171 + k) = I 185 k := by
  unfold vr_pak vr_ppk
  simp (disch := omega) only [vr_pk_at, vr_pk_l, vr_pk_o, vr_pk_f, vr_pv_at, vr_pv_l, vr_pv_o, vr_pv_f, vm_up_f, vm_up_k2, vm_up_h] <;> exact congrArg (I 185) (by omega)
set_option maxHeartbeats 4000000 in
set_option maxRecDepth 20000 in
theorem vr_par_185 (I : Nat → Nat → Int32) (k : Nat) (h : k < 8) : vr_par I 185 k = I 189 (1171 + k) := by
  unfold vr_par vr_ppr
  simp (disch := omega) only [vr_pr_i, vr_pr_o, vr_pr_f, vm_up_f, vm_up_k2, vm_up_h] <;> exact congrArg (I 189) (by omega)
set_option maxHeartbeats 4000000 in
set_option maxRecDepth 20000 in
theorem vr_pak_186 (I : Nat → Nat → Int32) (k : Nat) (h : k < 8) : vr_pak I 189 (1179 + k) = I 186 k := by
  unfold vr_pak vr_ppk
  simp (disch := omega) only [vr_pk_at, vr_pk_l, vr_pk_o, vr_pk_f, vr_pv_at, vr_pv_l, vr_pv_o, vr_pv_f, vm_up_f, vm_up_k2, vm_up_h] <;> exact congrArg (I 186) (by omega)
set_option maxHeartbeats 4000000 in
set_option maxRecDepth 20000 in
theorem vr_par_186 (I : Nat → Nat → Int32) (k : Nat) (h : k < 8) : vr_par I 186 k = I 189 (1179 + k) := by
  unfold vr_par vr_ppr
  simp (disch := omega) only [vr_pr_i, vr_pr_o, vr_pr_f, vm_up_f, vm_up_k2, vm_up_h] <;> exact congrArg (I 189) (by omega)
set_option maxHeartbeats 4000000 in
set_option maxRecDepth 20000 in
theorem vr_pak_187 (I : Nat → Nat → Int32) (k : Nat) (h : k < 8) : vr_pak I 189 (1187 + k) = I 187 k := by
  unfold vr_pak vr_ppk
  simp (disch := omega) only [vr_pk_at, vr_pk_l, vr_pk_o, vr_pk_f, vr_pv_at, vr_pv_l, vr_pv_o, vr_pv_f, vm_up_f, vm_up_k2, vm_up_h] <;> exact congrArg (I 187) (by omega)
set_option maxHeartbeats 4000000 in
set_option maxRecDepth 20000 in
theorem vr_par_187 (I : Nat → Nat → Int32) (k : Nat) (h : k < 8) : vr_par I 187 k = I 189 (1187 + k) := by
  unfold vr_par vr_ppr
  simp (disch := omega) only [vr_pr_i, vr_pr_o, vr_pr_f, vm_up_f, vm_up_k2, vm_up_h] <;> exact congrArg (I 189) (by omega)
set_option maxHeartbeats 4000000 in
set_option maxRecDepth 20000 in
theorem vr_pak_188 (I : Nat → Nat → Int32) (k : Nat) (h : k < 8) : vr_pak I 189 (1195 + k) = I 188 k := by
  unfold vr_pak vr_ppk
  simp (disch := omega) only [vr_pk_at, vr_pk_l, vr_pk_o, vr_pk_f, vr_pv_at, vr_pv_l, vr_pv_o, vr_pv_f, vm_up_f, vm_up_k2, vm_up_h] <;> exact congrArg (I 188) (by omega)
set_option maxHeartbeats 4000000 in
set_option maxRecDepth 20000 in
theorem vr_par_188 (I : Nat → Nat → Int32) (k : Nat) (h : k < 8) : vr_par I 188 k = I 189 (1195 + k) := by
  unfold vr_par vr_ppr
  simp (disch := omega) only [vr_pr_i, vr_pr_o, vr_pr_f, vm_up_f, vm_up_k2, vm_up_h] <;> exact congrArg (I 189) (by omega)
/-- an image kept -/
theorem cl_W_1 (I : Nat → Nat → Int32) (x : Nat) (h : x < 38) : vm_bW I 38 1 x = I x := vm_bW_o _ _ _ _ (Or.inl (by omega))
theorem cl_W_0 (I : Nat → Nat → Int32) (B E x : Nat) (hB : B = 1 ∨ B = 38) (h : 75 ≤ x) : vm_bW I B E x = I x := vm_bW_o _ _ _ _ (Or.inr (Or.inl (by omega)))
theorem cl_mst (I : Nat → Nat → Int32) (o : Nat) (h : o = 12 ∨ o = 14 ∨ o = 16) : vm_bW I 1 38 o 0 = I o 0 := by
  have e : ∀ x, x < 18 → 8 < x → wb_S I 1 38 x = I x := fun x h1 h2 => (wb_S_o _ _ _ _ (by omega) (by omega)).trans (wb_L_o _ _ _ _ (by omega))
  rw [vm_bW_e]
  rcases h with rfl | rfl | rfl
  · rw [vm_bT_o _ _ _ _ _ 12 (by decide) (by decide), vm_bT_o _ _ _ _ _ 12 (by decide) (by decide)]
    show vm_cp (vm_up (wb_S I 1 38) 12 2 _) _ 13 24 12 0 = _
    rw [vm_cp_f _ _ _ _ _ (by decide), vm_up_k2 _ _ _ _ _ (by decide), e 12 (by decide) (by decide)]
  · rw [vm_bT_o _ _ _ _ _ 14 (by decide) (by decide)]
    show vm_cp (vm_up (vm_bT (wb_S I 1 38) _ _ _ _) 14 2 _) _ 15 24 14 0 = _
    rw [vm_cp_f _ _ _ _ _ (by decide), vm_up_k2 _ _ _ _ _ (by decide), vm_bT_o _ _ _ _ _ 14 (by decide) (by decide), e 14 (by decide) (by decide)]
  · show vm_cp (vm_up (vm_bT (vm_bT (wb_S I 1 38) _ _ _ _) _ _ _ _) 16 2 _) _ 17 24 16 0 = _
    rw [vm_cp_f _ _ _ _ _ (by decide), vm_up_k2 _ _ _ _ _ (by decide), vm_bT_o _ _ _ _ _ 16 (by decide) (by decide), vm_bT_o _ _ _ _ _ 16 (by decide) (by decide), e 16 (by decide) (by decide)]
theorem Rel_image {I I2 : vm_IH} {F F2 : vm_FH} (h : Rel I F) (e0 : I2 = vr_pak (vm_up (vm_up (vm_bW I 38 1) 0 7 1) 152 54 1)) (eF : F2 = vr_pakF (vm_cp F (1 + 8) (38 + 8) 3)) : Rel I2 F2 := by
  obtain ⟨q1, q2, q3, q4, q5, q6, q7, q8, q9, q10⟩ := vm_bW_q I 38 1 (Or.inr (by decide))
  have hx : ∀ x, x ≠ 0 → x ≠ 152 → x ≠ 189 → I2 x = vm_bW I 38 1 x := fun x h1 h2 h3 => by
    rw [e0, vr_pak_o _ _ h3 h2, vm_up_f _ _ _ _ _ h2, vm_up_f _ _ _ _ _ h1]
  have hc : ∀ x, 0 < x → x < 38 → I2 x = I x := fun x h1 h2 => (hx x (by omega) (by omega) (by omega)).trans (cl_W_1 _ _ h2)
  have hr : ∀ x, 75 ≤ x → x ≠ 152 → x ≠ 189 → I2 x = I x := fun x h1 h2 h3 => (hx x (by omega) h2 h3).trans (cl_W_0 _ _ _ _ (Or.inr rfl) h1)
  have hW : ∀ x, 38 ≤ x → x < 75 → I2 x = vm_bW I 38 1 x := fun x h1 h2 => hx x (by omega) (by omega) (by omega)
  have h152 : ∀ b, b ≠ 54 → vm_up (vm_up (vm_bW I 38 1) 0 7 1) 152 54 1 152 b = I 152 b := fun b hb => by
    rw [vm_up_k2 _ _ _ _ _ hb, vm_up_f _ _ _ _ _ (by decide), cl_W_0 _ _ _ _ (Or.inr rfl) (by decide)]
  have hJ : ∀ x, 75 ≤ x → x ≠ 152 → vm_up (vm_up (vm_bW I 38 1) 0 7 1) 152 54 1 x = I x := fun x h1 h2 => by
    rw [vm_up_f _ _ _ _ _ h2, vm_up_f _ _ _ _ _ (by omega), cl_W_0 _ _ _ _ (Or.inr rfl) h1]
  have h0 : I2 0 8 = I 0 8 := by
    rw [e0, vr_pak_o _ _ (by decide) (by decide), vm_up_f _ _ _ _ _ (by decide), vm_up_k2 _ _ _ _ _ (by decide), cl_W_1 _ _ (by decide)]
  have h7 : I2 0 7 = 1 := by
    rw [e0, vr_pak_o _ _ (by decide) (by decide), vm_up_f _ _ _ _ _ (by decide), vm_up_h]
  have h54 : I2 152 54 = 1 := by
    rw [e0, vr_pak_g _ _ (by decide), vm_up_h]
  have hg : ∀ b, b ≠ 54 ∧ b ≠ 55 ∧ b ≠ 56 ∧ b ≠ 6 ∧ b ≠ 7 ∧ b ≠ 8 ∧ b ≠ 9 ∧ b ≠ 49 ∧ b ≠ 50 ∧ b ≠ 51 → I2 152 b = I 152 b := fun b hb => by
    rw [e0, vr_pak_g _ _ hb.2, h152 b hb.1]
  have hF : ∀ x, x ≠ 46 → x ≠ 190 → F2 x = F x := fun x h1 h2 => by
    rw [eF]
    unfold vr_pakF
    rw [vm_up_f _ _ _ _ _ h2, vm_up_f _ _ _ _ _ h2, vm_up_f _ _ _ _ _ h2, vm_cp_f _ _ _ _ _ h1]
  have hF6 : ∀ c, c < 3 → F2 46 c = F 9 c := fun c hc => by
    rw [eF]
    unfold vr_pakF
    rw [vm_up_f _ _ _ _ _ (by decide), vm_up_f _ _ _ _ _ (by decide), vm_up_f _ _ _ _ _ (by decide)]
    exact vm_cp_h _ _ _ _ _ hc
  have hF0 : ∀ c, c < 3 → F2 190 c = F 179 c := fun c hc => by
    rw [eF]
    unfold vr_pakF
    rcases (by omega : c = 0 ∨ c = 1 ∨ c = 2) with rfl | rfl | rfl
    · rw [vm_up_k2 _ _ _ _ _ (by decide), vm_up_k2 _ _ _ _ _ (by decide), vm_up_h, vm_cp_f _ _ _ _ _ (by decide)]
    · rw [vm_up_k2 _ _ _ _ _ (by decide), vm_up_h, vm_cp_f _ _ _ _ _ (by decide)]
    · rw [vm_up_h, vm_cp_f _ _ _ _ _ (by decide)]
  have f6 : I2 152 6 = I 152 6 := by
    rw [e0, vr_pak_g6, h152 _ (by decide)]
  have f7 : I2 152 7 = I 152 7 := by
    rw [e0, vr_pak_g7, h152 _ (by decide)]
  have f8 : I2 152 8 = I 152 8 := by
    rw [e0, vr_pak_g8, h152 _ (by decide)]
  have f9 : I2 152 9 = I 152 9 := by
    rw [e0, vr_pak_g9, h152 _ (by decide)]
  have f49 : I2 152 49 = I 152 49 := by
    rw [e0, vr_pak_g49, h152 _ (by decide)]
  have f50 : I2 152 50 = I 152 50 := by
    rw [e0, vr_pak_g50, h152 _ (by decide)]
  have f51 : I2 152 51 = I 152 51 := by
    rw [e0, vr_pak_g51, h152 _ (by decide)]
  refine ⟨?_, ?_, ?_, ?_, ?_, ?_, ?_, ?_, ?_, ?_, ?_, Or.inr ⟨h7, h54, ?_, ?_, ?_, ?_, ?_, ?_, ?_, ?_⟩, ?_⟩
  · exact Rpic_r h.pic (fun a _ _ => hc a (by omega) (by omega)) (hr _ (by decide) (by decide) (by decide)) (hr _ (by decide) (by decide) (by decide)) (hr _ (by decide) (by decide) (by decide))
  · exact Rpal_r h.pal (fun a _ _ => hc a (by omega) (by omega)) (hr _ (by decide) (by decide) (by decide)) (hr _ (by decide) (by decide) (by decide)) (hr _ (by decide) (by decide) (by decide))
  · exact Rrul_r h.rul (hc _ (by decide) (by decide)) f6 f7 f8 f9
  · exact Rsht_r h.sht (fun a _ _ => hc a (by omega) (by omega)) (hF _ (by decide) (by decide)) (congrFun (hr _ (by decide) (by decide) (by decide)) _) (congrFun (hr _ (by decide) (by decide) (by decide)) _) (congrFun (hr _ (by decide) (by decide) (by decide)) _) (fun k _ => congrFun (hr _ (by decide) (by decide) (by decide)) k) (fun k _ => congrFun (hr _ (by decide) (by decide) (by decide)) k) (fun k _ => congrFun (hr _ (by decide) (by decide) (by decide)) k) (fun c _ => congrFun (hF _ (by decide) (by decide)) c)
  · exact Rsee_r h.see (hc _ (by decide) (by decide)) (hc _ (by decide) (by decide)) f49 (hr _ (by decide) (by decide) (by decide)) (hr _ (by decide) (by decide) (by decide)) (hr _ (by decide) (by decide) (by decide))
  · exact Rpln_r h.pln (hc _ (by decide) (by decide)) (hc _ (by decide) (by decide)) f50 (hr _ (by decide) (by decide) (by decide)) (hr _ (by decide) (by decide) (by decide))
  · exact Rbok_r h.bok (hc _ (by decide) (by decide)) (hc _ (by decide) (by decide)) f51 (hr _ (by decide) (by decide) (by decide)) (hr _ (by decide) (by decide) (by decide))
  · exact Rmst_r h.mst (congrFun (hc _ (by decide) (by decide)) _) (congrFun (hc _ (by decide) (by decide)) _) (congrFun (hc _ (by decide) (by decide)) _)
  · exact Rwrk_r h.wrk h0 (hg _ (by decide))
  · exact Rtxt_r h.txt (congrFun (hr _ (by decide) (by decide) (by decide)) _) (hr _ (by decide) (by decide) (by decide)) (hg _ (by decide)) (hr _ (by decide) (by decide) (by decide))
  · exact Rtap_r h.tap (fun a _ _ => hr a (by omega) (by omega) (by omega)) (hr _ (by decide) (by decide) (by decide)) (hr _ (by decide) (by decide) (by decide)) (hr _ (by decide) (by decide) (by decide))
  · refine R_pic_c h.pic (fun p hp => ?_) (fun p hp => ?_) (fun p hp => ?_) (fun p hp k hk => ?_)
    · rw [hW _ (by omega) (by omega), hW _ (by omega) (by omega)]
      exact q1 p hp
    · rw [e0, vr_pak_153 _ p hp, hJ _ (by decide) (by decide)]
    · rw [e0, vr_pak_154 _ p hp, hJ _ (by decide) (by decide)]
    · rw [e0, vr_pak_155 _ (144 * p + k) (by omega), hJ _ (by decide) (by decide)]
  · refine R_pal_c h.pal (fun p hp => ?_) (fun p hp => ?_) (fun p hp k hk => ?_) (fun p hp k hk => ?_)
    · rw [hW _ (by omega) (by omega), hW _ (by omega) (by omega), hW _ (by omega) (by omega)]
      exact q2 p hp
    · rw [e0, vr_pak_156 _ p hp, hJ _ (by decide) (by decide)]
    · rw [e0, vr_pak_157 _ (16 * p + k) (by omega), hJ _ (by decide) (by decide)]
    · rw [e0, vr_pak_158 _ (16 * p + k) (by omega), hJ _ (by decide) (by decide)]
  · refine R_rul_c h.rul (fun k hk => ?_) ?_ ?_ ?_ ?_
    · rw [hW _ (by decide) (by decide)]
      exact q3 k hk
    · rw [e0, vr_pak_v6, h152 _ (by decide)]
    · rw [e0, vr_pak_v7, h152 _ (by decide)]
    · rw [e0, vr_pak_v8, h152 _ (by decide)]
    · rw [e0, vr_pak_v9, h152 _ (by decide)]
  · refine R_sht_c h.sht ?_ (fun k hk => ?_) (fun k hk => ?_) (fun k hk => ?_) (fun c hc3 => hF6 c hc3) ?_ ?_ ?_ (fun k hk => ?_) (fun k hk => ?_) (fun k hk => ?_) (fun c hc3 => hF0 c hc3)
    · rw [hW _ (by decide) (by decide)]
      exact q4
    · rw [hW _ (by decide) (by decide)]
      exact q5 k hk
    · rw [hW _ (by decide) (by decide)]
      exact q6 k hk
    · rw [hW _ (by decide) (by decide)]
      exact q7 k hk
    · rw [e0, vr_pak_173, hJ _ (by decide) (by decide)]
    · rw [e0, vr_pak_174, hJ _ (by decide) (by decide)]
    · rw [e0, vr_pak_175, hJ _ (by decide) (by decide)]
    · rw [e0, vr_pak_176 _ k hk, hJ _ (by decide) (by decide)]
    · rw [e0, vr_pak_177 _ k hk, hJ _ (by decide) (by decide)]
    · rw [e0, vr_pak_178 _ k hk, hJ _ (by decide) (by decide)]
  · refine R_see_c h.see ?_ (fun k hk => ?_) ?_ (fun k hk => ?_) (fun k hk => ?_) (fun k hk => ?_)
    · rw [hW _ (by decide) (by decide)]
      exact q8.1
    · rw [hW _ (by decide) (by decide)]
      exact q8.2 k hk
    · rw [e0, vr_pak_v49, h152 _ (by decide)]
    · rw [e0, vr_pak_182 _ k hk, hJ _ (by decide) (by decide)]
    · rw [e0, vr_pak_183 _ k hk, hJ _ (by decide) (by decide)]
    · rw [e0, vr_pak_184 _ k hk, hJ _ (by decide) (by decide)]
  · refine R_pln_c h.pln ?_ (fun k hk => ?_) ?_ (fun k hk => ?_) (fun k hk => ?_)
    · rw [hW _ (by decide) (by decide)]
      exact q9.1
    · rw [hW _ (by decide) (by decide)]
      exact q9.2 k hk
    · rw [e0, vr_pak_v50, h152 _ (by decide)]
    · rw [e0, vr_pak_185 _ k hk, hJ _ (by decide) (by decide)]
    · rw [e0, vr_pak_186 _ k hk, hJ _ (by decide) (by decide)]
  · refine R_bok_c h.bok ?_ (fun k hk => ?_) ?_ (fun k hk => ?_) (fun k hk => ?_)
    · rw [hW _ (by decide) (by decide)]
      exact q10.1
    · rw [hW _ (by decide) (by decide)]
      exact q10.2 k hk
    · rw [e0, vr_pak_v51, h152 _ (by decide)]
    · rw [e0, vr_pak_187 _ k hk, hJ _ (by decide) (by decide)]
    · rw [e0, vr_pak_188 _ k hk, hJ _ (by decide) (by decide)]
  · exact fun i hi => by
      rw [hF0 i hi]
      exact h.nan i (by omega)
  · exact Rnan_r h.nan (hF _ (by decide) (by decide))
theorem call_image {l : Launch} {X : vm_Cx} {G : List vm_Sh} {I : Nat → Nat → Int32} {F : Nat → Nat → UInt32}  (hD : vm_isD G) (hR : vm_isR G) (h : Rel I F) : vm_Cl l X G I F vm_M137 vm_M278 [] := by
  have h2 := Rel_image h rfl rfl
  refine .mut (c_image hD) (r_image hR) (congrArg Value.int (sp_sum_ext fun p hp => ?_)) h2
  obtain ⟨w, a_, z1, z2, z3, z4, hc, hr, hk⟩ := h2.pic p hp
  have e1 := hc.1.trans hr.1.symm
  rw [← e1, vr_pak_o _ _ (by omega) (by omega), vm_up_f _ 152 _ _ _ (by omega)]
