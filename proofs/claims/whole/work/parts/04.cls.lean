/-! ONE STEP OF THE SMALL MACHINE IS ONE STEP OF THE MACHINE -/
def vm_clP (ci : Nat) (q : vw_C) : Prop := (∀ w ∈ u_ws q.1 q.2.1 q.2.2, w ∈ vm_TB) ∧ (∀ k, k < q.2.2 → parseFieldDescriptor (q.2.1 k).2.2.1 = some (vm_ty ci k)) ∧ (∀ a, a < q.2.2 → ∀ b, b < q.2.2 → a ≠ b → (q.2.1 a).2.1 ≠ (q.2.1 b).2.1) ∧ (∀ k, k < q.2.2 → (q.2.1 k).1 = q.1) ∧ Cond.instantiable q.1 q.2.2 ∈ vm_TB ∧ Cond.initialized q.1 ∈ vm_TB ∧ (vm_df ci).length = q.2.2 ∧ (∀ j, j < q.2.2 → defaultValue (vm_ty ci j) = (vm_df ci).getD j .null)
theorem vm_inTB {w : Cond} (h : (decide (w ∈ lw_tbl) && goodWord w) = true) : w ∈ vm_TB := by
  simp only [Bool.and_eq_true, decide_eq_true_eq] at h
  exact List.mem_filter.mpr h
theorem vm_allTB {ws : List Cond} (h : (ws.all fun w => decide (w ∈ lw_tbl) && goodWord w) = true) : ∀ w ∈ ws, w ∈ vm_TB := fun w hw => vm_inTB (List.all_eq_true.mp h w hw)
theorem vm_cl0 : vm_clP 0 ("DitherDesk$Box", vm_T0, 6) := ⟨vm_allTB (by decide +kernel), by decide +kernel, by decide +kernel, by decide +kernel, vm_inTB (by decide +kernel), vm_inTB (by decide +kernel), by decide +kernel, by decide +kernel⟩
theorem vm_cl1 : vm_clP 1 ("DitherDesk$Cutter", vm_T1, 5) := ⟨vm_allTB (by decide +kernel), by decide +kernel, by decide +kernel, by decide +kernel, vm_inTB (by decide +kernel), vm_inTB (by decide +kernel), by decide +kernel, by decide +kernel⟩
theorem vm_cl2 : vm_clP 2 ("DitherDesk$Palette", vm_T2, 3) := ⟨vm_allTB (by decide +kernel), by decide +kernel, by decide +kernel, by decide +kernel, vm_inTB (by decide +kernel), vm_inTB (by decide +kernel), by decide +kernel, by decide +kernel⟩
theorem vm_cl3 : vm_clP 3 ("DitherDesk$Picture", vm_T3, 3) := ⟨vm_allTB (by decide +kernel), by decide +kernel, by decide +kernel, by decide +kernel, vm_inTB (by decide +kernel), vm_inTB (by decide +kernel), by decide +kernel, by decide +kernel⟩
theorem vm_cl4 : vm_clP 4 ("DitherDesk$Reader", vm_T4, 6) := ⟨vm_allTB (by decide +kernel), by decide +kernel, by decide +kernel, by decide +kernel, vm_inTB (by decide +kernel), vm_inTB (by decide +kernel), by decide +kernel, by decide +kernel⟩
theorem vm_cl5 : vm_clP 5 ("DitherDesk$Refiner", vm_T5, 2) := ⟨vm_allTB (by decide +kernel), by decide +kernel, by decide +kernel, by decide +kernel, vm_inTB (by decide +kernel), vm_inTB (by decide +kernel), by decide +kernel, by decide +kernel⟩
theorem vm_cl6 : vm_clP 6 ("DitherDesk$Sheet", vm_T6, 9) := ⟨vm_allTB (by decide +kernel), by decide +kernel, by decide +kernel, by decide +kernel, vm_inTB (by decide +kernel), vm_inTB (by decide +kernel), by decide +kernel, by decide +kernel⟩
theorem vm_cl7 : vm_clP 7 ("DitherDesk$Table", vm_T7, 3) := ⟨vm_allTB (by decide +kernel), by decide +kernel, by decide +kernel, by decide +kernel, vm_inTB (by decide +kernel), vm_inTB (by decide +kernel), by decide +kernel, by decide +kernel⟩
theorem vm_cl8 : vm_clP 8 ("DitherDesk$Tape", vm_T8, 3) := ⟨vm_allTB (by decide +kernel), by decide +kernel, by decide +kernel, by decide +kernel, vm_inTB (by decide +kernel), vm_inTB (by decide +kernel), by decide +kernel, by decide +kernel⟩
theorem vm_cl9 : vm_clP 9 ("DitherDesk$World", vm_T9, 7) := ⟨vm_allTB (by decide +kernel), by decide +kernel, by decide +kernel, by decide +kernel, vm_inTB (by decide +kernel), vm_inTB (by decide +kernel), by decide +kernel, by decide +kernel⟩
theorem vm_cl10 : vm_clP 10 ("DitherDesk", vm_T10, 9) := ⟨vm_allTB (by decide +kernel), by decide +kernel, by decide +kernel, by decide +kernel, vm_inTB (by decide +kernel), vm_inTB (by decide +kernel), by decide +kernel, by decide +kernel⟩
theorem vm_cl11 : vm_clP 11 ("DitherDeskModel", vm_T11, 60) := ⟨vm_allTB (by decide +kernel), by decide +kernel, by decide +kernel, by decide +kernel, vm_inTB (by decide +kernel), vm_inTB (by decide +kernel), by decide +kernel, by decide +kernel⟩
theorem vm_clF (ci : Nat) (q : vw_C) (h : vm_cl[ci]? = some q) : vm_clP ci q := by
  match ci, h with
  | 0, h => cases h; exact vm_cl0
  | 1, h => cases h; exact vm_cl1
  | 2, h => cases h; exact vm_cl2
  | 3, h => cases h; exact vm_cl3
  | 4, h => cases h; exact vm_cl4
  | 5, h => cases h; exact vm_cl5
  | 6, h => cases h; exact vm_cl6
  | 7, h => cases h; exact vm_cl7
  | 8, h => cases h; exact vm_cl8
  | 9, h => cases h; exact vm_cl9
  | 10, h => cases h; exact vm_cl10
  | 11, h => cases h; exact vm_cl11
  | n + 12, h => simp [vm_cl] at h
