theorem xcw0 : ∀ w ∈ u_ws "ChangeRows" fT0 10, xm w := by
  have h : (u_ws "ChangeRows" fT0 10).all (fun w => decide (w ∈ lw_tbl) && (w.onTables && w.keeps)) = true := by decide +kernel
  intro w hw
  have h1 := List.all_eq_true.mp h w hw
  rw [Bool.and_eq_true] at h1
  exact ⟨of_decide_eq_true h1.1, h1.2⟩
theorem xc0 : xcls 0 "ChangeRows" fT0 10 fY0 := ⟨rfl, xcw0, by decide +kernel, by decide +kernel, rfl, by decide +kernel⟩
theorem xcw1 : ∀ w ∈ u_ws "ChangeRows$Batch" fT1 6, xm w := by
  have h : (u_ws "ChangeRows$Batch" fT1 6).all (fun w => decide (w ∈ lw_tbl) && (w.onTables && w.keeps)) = true := by decide +kernel
  intro w hw
  have h1 := List.all_eq_true.mp h w hw
  rw [Bool.and_eq_true] at h1
  exact ⟨of_decide_eq_true h1.1, h1.2⟩
theorem xc1 : xcls 1 "ChangeRows$Batch" fT1 6 fY1 := ⟨rfl, xcw1, by decide +kernel, by decide +kernel, rfl, by decide +kernel⟩
theorem xcw2 : ∀ w ∈ u_ws "ChangeRows$Changes" fT2 4, xm w := by
  have h : (u_ws "ChangeRows$Changes" fT2 4).all (fun w => decide (w ∈ lw_tbl) && (w.onTables && w.keeps)) = true := by decide +kernel
  intro w hw
  have h1 := List.all_eq_true.mp h w hw
  rw [Bool.and_eq_true] at h1
  exact ⟨of_decide_eq_true h1.1, h1.2⟩
theorem xc2 : xcls 2 "ChangeRows$Changes" fT2 4 fY2 := ⟨rfl, xcw2, by decide +kernel, by decide +kernel, rfl, by decide +kernel⟩
theorem xcw3 : ∀ w ∈ u_ws "ChangeRows$Rows" fT3 2, xm w := by
  have h : (u_ws "ChangeRows$Rows" fT3 2).all (fun w => decide (w ∈ lw_tbl) && (w.onTables && w.keeps)) = true := by decide +kernel
  intro w hw
  have h1 := List.all_eq_true.mp h w hw
  rw [Bool.and_eq_true] at h1
  exact ⟨of_decide_eq_true h1.1, h1.2⟩
theorem xc3 : xcls 3 "ChangeRows$Rows" fT3 2 fY3 := ⟨rfl, xcw3, by decide +kernel, by decide +kernel, rfl, by decide +kernel⟩
theorem xcw4 : ∀ w ∈ u_ws "ChangeRows$Table" fT4 10, xm w := by
  have h : (u_ws "ChangeRows$Table" fT4 10).all (fun w => decide (w ∈ lw_tbl) && (w.onTables && w.keeps)) = true := by decide +kernel
  intro w hw
  have h1 := List.all_eq_true.mp h w hw
  rw [Bool.and_eq_true] at h1
  exact ⟨of_decide_eq_true h1.1, h1.2⟩
theorem xc4 : xcls 4 "ChangeRows$Table" fT4 10 fY4 := ⟨rfl, xcw4, by decide +kernel, by decide +kernel, rfl, by decide +kernel⟩
theorem xcw5 : ∀ w ∈ u_ws "ChangeRowsModel" fT5 30, xm w := by
  have h : (u_ws "ChangeRowsModel" fT5 30).all (fun w => decide (w ∈ lw_tbl) && (w.onTables && w.keeps)) = true := by decide +kernel
  intro w hw
  have h1 := List.all_eq_true.mp h w hw
  rw [Bool.and_eq_true] at h1
  exact ⟨of_decide_eq_true h1.1, h1.2⟩
theorem xc5 : xcls 5 "ChangeRowsModel" fT5 30 fY5 := ⟨rfl, xcw5, by decide +kernel, by decide +kernel, rfl, by decide +kernel⟩
