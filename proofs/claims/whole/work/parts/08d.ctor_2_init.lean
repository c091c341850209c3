set_option maxRecDepth 100000 in
set_option maxHeartbeats 4000000 in
def m2_init (ms N : Nat) (K : Nat → Nat × Nat) (F : Nat → Nat → Option Nat) (I : (Nat → Nat → Int32)) (J : (Nat → Nat → Int64)) (a0 : Nat) (a1 : Int32) : Option (Nat × (Nat → Nat × Nat) × (Nat → Nat → Option Nat) × (Nat → Nat → Int32) × (Nat → Nat → Int64)) :=
  if a0 < N ∧ K a0 = (0, 2) then (xlet (xu I a0 0 (0 : Int32)) fun I2 => xlet ((if a1 < (0 : Int32) then (0 : Int32) else a1)) fun x3 => if ¬ x3 < 0 then (if x3.toNatClampNeg * componentBytes (newarray.typeOf .int) ≤ 536870912 then (if 0 + x3.toNatClampNeg ≤ ms then (xlet (N + 1) fun N7 => xlet (va_up K N (1, x3.toNatClampNeg)) fun K8 => xlet (va_up I2 N (fun _ => 0)) fun I9 => xlet (va_up J N (fun _ => 0)) fun J10 => xlet (va_up F N (fun _ => none)) fun F11 => if a0 < N7 ∧ K8 a0 = (0, 2) then (xlet (xu F11 a0 1 (some N)) fun F13 => if x3.toNatClampNeg * componentBytes (newarray.typeOf .long) ≤ 536870912 then (if 0 + x3.toNatClampNeg + x3.toNatClampNeg ≤ ms then (xlet (N7 + 1) fun N16 => xlet (va_up K8 N7 (2, x3.toNatClampNeg)) fun K17 => xlet (va_up I9 N7 (fun _ => 0)) fun I18 => xlet (va_up J10 N7 (fun _ => 0)) fun J19 => xlet (va_up F13 N7 (fun _ => none)) fun F20 => if a0 < N16 ∧ K17 a0 = (0, 2) then (xlet (xu F20 a0 2 (some N7)) fun F22 => if 0 + x3.toNatClampNeg + x3.toNatClampNeg + x3.toNatClampNeg ≤ ms then (xlet (N16 + 1) fun N24 => xlet (va_up K17 N16 (2, x3.toNatClampNeg)) fun K25 => xlet (va_up I18 N16 (fun _ => 0)) fun I26 => xlet (va_up J19 N16 (fun _ => 0)) fun J27 => xlet (va_up F22 N16 (fun _ => none)) fun F28 => if a0 < N24 ∧ K25 a0 = (0, 2) then (xlet (xu F28 a0 3 (some N16)) fun F30 => some (N24, K25, F30, I26, J27)) else none) else none) else none) else none) else none) else none) else none) else none) else none) else none
set_option maxRecDepth 100000 in
set_option maxHeartbeats 4000000 in
theorem c_m2_init {l : Launch} {B d ms : Nat} {g : xG} {N : Nat} {K : Nat → Nat × Nat} {F : Nat → Nat → Option Nat} {I : (Nat → Nat → Int32)} {J : (Nat → Nat → Int64)} {a0 : Nat} {a1 : Int32} {N' : Nat} {K' : (Nat → Nat × Nat)} {F' : (Nat → Nat → Option Nat)} {I' : (Nat → Nat → Int32)} {J' : (Nat → Nat → Int64)} (h : m2_init ms N K F I J a0 a1 = some (N', K', F', I', J')) : xC l g B (d + 1) 3 ms y2_init c2_init 3 none [.ref (B + a0), .int a1] (xP g B N K I J F) (xq none (xP g B N' K' I' J' F')) := by
  refine xC_of (by decide) (Nat.le_of_ble_eq_true rfl) (fun X hl hR hr hnm hX => ?_)
  refine x_sub (L' := [(0, .ref (B + a0)), (1, .int a1)]) [0, 1] rfl ?_
  unfold m2_init at h
  refine x_aload_n hX d2_init_0 rfl rfl ?_
  refine x_objInit hX hR kM2_3 kNobj kDobj (Nat.le_of_ble_eq_true rfl) d2_init_1 ?_
  refine x_aload_n hX d2_init_4 rfl rfl ?_
  refine x_iconst (v := 0) hX d2_init_5 (by decide) ?_
  obtain ⟨hg1, h⟩ := x_gd h
  refine x_putI (j := 0) hX xc2 hg1.1 hg1.2 (by decide) rfl kF2_9 (Or.inl rfl) rfl rfl d2_init_6 ?_
  obtain ⟨I2, eI2, h⟩ := x_le h
  rw [← eI2]
  refine x_iload_n hX d2_init_9 rfl rfl ?_
  refine x_iconst (v := 0) hX d2_init_10 (by decide) ?_
  refine x_mmaxI hX hR kM2_15 kSMathmaxI kIM kDMathmaxI (Nat.le_of_ble_eq_true rfl) d2_init_11 ?_
  obtain ⟨x3, ex3, h⟩ := x_le h
  refine x_eqi ex3.symm ?_
  refine x_istore_n hX [(2, .int x3), (0, .ref (B + a0)), (1, .int a1)] d2_init_14 rfl (by decide) rfl ?_
  refine x_aload_n hX d2_init_15 rfl rfl ?_
  refine x_iload_n hX d2_init_16 rfl rfl ?_
  obtain ⟨hg4, h⟩ := x_gd h
  obtain ⟨hg5, h⟩ := x_gd h
  obtain ⟨hg6, h⟩ := x_gd h
  refine x_newI hX kA_int hg4 rfl hg5 (by rw [hR]; exact Nat.le_of_ble_eq_true rfl) (by rw [hR]; exact hg6) d2_init_17 ?_
  obtain ⟨N7, eN7, h⟩ := x_le h
  rw [← eN7]
  obtain ⟨K8, eK8, h⟩ := x_le h
  rw [← eK8]
  obtain ⟨I9, eI9, h⟩ := x_le h
  rw [← eI9]
  obtain ⟨J10, eJ10, h⟩ := x_le h
  rw [← eJ10]
  obtain ⟨F11, eF11, h⟩ := x_le h
  rw [← eF11]
  obtain ⟨hg12, h⟩ := x_gd h
  refine x_putF (j := 1) hX xc2 hg12.1 hg12.2 (by decide) rfl kF2_21 (Or.inr ⟨hnm, rfl, rfl⟩) rfl rfl d2_init_19 ?_
  obtain ⟨F13, eF13, h⟩ := x_le h
  rw [← eF13]
  refine x_aload_n hX d2_init_22 rfl rfl ?_
  refine x_iload_n hX d2_init_23 rfl rfl ?_
  obtain ⟨hg14, h⟩ := x_gd h
  obtain ⟨hg15, h⟩ := x_gd h
  refine x_newJ hX kA_long hg4 rfl hg14 (by rw [hR]; exact Nat.le_of_ble_eq_true rfl) (by rw [hR]; exact hg15) d2_init_24 ?_
  obtain ⟨N16, eN16, h⟩ := x_le h
  rw [← eN16]
  obtain ⟨K17, eK17, h⟩ := x_le h
  rw [← eK17]
  obtain ⟨I18, eI18, h⟩ := x_le h
  rw [← eI18]
  obtain ⟨J19, eJ19, h⟩ := x_le h
  rw [← eJ19]
  obtain ⟨F20, eF20, h⟩ := x_le h
  rw [← eF20]
  obtain ⟨hg21, h⟩ := x_gd h
  refine x_putF (j := 2) hX xc2 hg21.1 hg21.2 (by decide) rfl kF2_25 (Or.inr ⟨hnm, rfl, rfl⟩) rfl rfl d2_init_26 ?_
  obtain ⟨F22, eF22, h⟩ := x_le h
  rw [← eF22]
  refine x_aload_n hX d2_init_29 rfl rfl ?_
  refine x_iload_n hX d2_init_30 rfl rfl ?_
  obtain ⟨hg23, h⟩ := x_gd h
  refine x_newJ hX kA_long hg4 rfl hg14 (by rw [hR]; exact Nat.le_of_ble_eq_true rfl) (by rw [hR]; exact hg23) d2_init_31 ?_
  obtain ⟨N24, eN24, h⟩ := x_le h
  rw [← eN24]
  obtain ⟨K25, eK25, h⟩ := x_le h
  rw [← eK25]
  obtain ⟨I26, eI26, h⟩ := x_le h
  rw [← eI26]
  obtain ⟨J27, eJ27, h⟩ := x_le h
  rw [← eJ27]
  obtain ⟨F28, eF28, h⟩ := x_le h
  rw [← eF28]
  obtain ⟨hg29, h⟩ := x_gd h
  refine x_putF (j := 3) hX xc2 hg29.1 hg29.2 (by decide) rfl kF2_29 (Or.inr ⟨hnm, rfl, rfl⟩) rfl rfl d2_init_33 ?_
  obtain ⟨F30, eF30, h⟩ := x_le h
  rw [← eF30]
  refine x_wide (a' := 3) (b' := ms) (Nat.le_of_ble_eq_true rfl) hg23 ?_
  cases h
  exact x_vret hX hr d2_init_36 (fun H hP => ⟨rfl, hP⟩)
