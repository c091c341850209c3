set_option maxRecDepth 100000 in
set_option maxHeartbeats 4000000 in
def m1_init (ms N : Nat) (K : Nat → Nat × Nat) (F : Nat → Nat → Option Nat) (I : (Nat → Nat → Int32)) (J : (Nat → Nat → Int64)) (a0 : Nat) : Option (Nat × (Nat → Nat × Nat) × (Nat → Nat → Option Nat) × (Nat → Nat → Int32) × (Nat → Nat → Int64)) :=
  if a0 < N ∧ K a0 = (0, 1) then (xlet (xu I a0 0 (0 : Int32)) fun I2 => xlet (xu I2 a0 1 (0 : Int32)) fun I3 => if ¬ (40 : Int32) < 0 then (if (40 : Int32).toNatClampNeg * componentBytes (newarray.typeOf .int) ≤ 536870912 then (if 0 + (40 : Int32).toNatClampNeg ≤ ms then (xlet (N + 1) fun N7 => xlet (va_up K N (1, (40 : Int32).toNatClampNeg)) fun K8 => xlet (va_up I3 N (fun _ => 0)) fun I9 => xlet (va_up J N (fun _ => 0)) fun J10 => xlet (va_up F N (fun _ => none)) fun F11 => if a0 < N7 ∧ K8 a0 = (0, 1) then (xlet (xu F11 a0 2 (some N)) fun F13 => if 0 + (40 : Int32).toNatClampNeg + (40 : Int32).toNatClampNeg ≤ ms then (xlet (N7 + 1) fun N15 => xlet (va_up K8 N7 (1, (40 : Int32).toNatClampNeg)) fun K16 => xlet (va_up I9 N7 (fun _ => 0)) fun I17 => xlet (va_up J10 N7 (fun _ => 0)) fun J18 => xlet (va_up F13 N7 (fun _ => none)) fun F19 => if a0 < N15 ∧ K16 a0 = (0, 1) then (xlet (xu F19 a0 3 (some N7)) fun F21 => if (40 : Int32).toNatClampNeg * componentBytes (newarray.typeOf .boolean) ≤ 536870912 then (if 0 + (40 : Int32).toNatClampNeg + (40 : Int32).toNatClampNeg + (40 : Int32).toNatClampNeg ≤ ms then (xlet (N15 + 1) fun N24 => xlet (va_up K16 N15 (3, (40 : Int32).toNatClampNeg)) fun K25 => xlet (va_up I17 N15 (fun _ => 0)) fun I26 => xlet (va_up J18 N15 (fun _ => 0)) fun J27 => xlet (va_up F21 N15 (fun _ => none)) fun F28 => if a0 < N24 ∧ K25 a0 = (0, 1) then (xlet (xu F28 a0 4 (some N15)) fun F30 => if (40 : Int32).toNatClampNeg * componentBytes (newarray.typeOf .long) ≤ 536870912 then (if 0 + (40 : Int32).toNatClampNeg + (40 : Int32).toNatClampNeg + (40 : Int32).toNatClampNeg + (40 : Int32).toNatClampNeg ≤ ms then (xlet (N24 + 1) fun N33 => xlet (va_up K25 N24 (2, (40 : Int32).toNatClampNeg)) fun K34 => xlet (va_up I26 N24 (fun _ => 0)) fun I35 => xlet (va_up J27 N24 (fun _ => 0)) fun J36 => xlet (va_up F30 N24 (fun _ => none)) fun F37 => if a0 < N33 ∧ K34 a0 = (0, 1) then (xlet (xu F37 a0 5 (some N24)) fun F39 => some (N33, K34, F39, I35, J36)) else none) else none) else none) else none) else none) else none) else none) else none) else none) else none) else none) else none) else none
set_option maxRecDepth 100000 in
set_option maxHeartbeats 4000000 in
theorem c_m1_init {l : Launch} {B d ms : Nat} {g : xG} {N : Nat} {K : Nat → Nat × Nat} {F : Nat → Nat → Option Nat} {I : (Nat → Nat → Int32)} {J : (Nat → Nat → Int64)} {a0 : Nat} {N' : Nat} {K' : (Nat → Nat × Nat)} {F' : (Nat → Nat → Option Nat)} {I' : (Nat → Nat → Int32)} {J' : (Nat → Nat → Int64)} (h : m1_init ms N K F I J a0 = some (N', K', F', I', J')) : xC l g B (d + 1) 4 ms y1_init c1_init 1 none [.ref (B + a0)] (xP g B N K I J F) (xq none (xP g B N' K' I' J' F')) := by
  refine xC_of (by decide) (Nat.le_of_ble_eq_true rfl) (fun X hl hR hr hnm hX => ?_)
  refine x_sub (L' := [(0, .ref (B + a0))]) [0] rfl ?_
  unfold m1_init at h
  refine x_aload_n hX d1_init_0 rfl rfl ?_
  refine x_objInit hX hR kM1_3 kNobj kDobj (Nat.le_of_ble_eq_true rfl) d1_init_1 ?_
  refine x_aload_n hX d1_init_4 rfl rfl ?_
  refine x_iconst (v := 0) hX d1_init_5 (by decide) ?_
  obtain ⟨hg1, h⟩ := x_gd h
  refine x_putI (j := 0) hX xc1 hg1.1 hg1.2 (by decide) rfl kF1_9 (Or.inl rfl) rfl rfl d1_init_6 ?_
  obtain ⟨I2, eI2, h⟩ := x_le h
  rw [← eI2]
  refine x_aload_n hX d1_init_9 rfl rfl ?_
  refine x_iconst (v := 0) hX d1_init_10 (by decide) ?_
  refine x_putI (j := 1) hX xc1 hg1.1 hg1.2 (by decide) rfl kF1_15 (Or.inl rfl) rfl rfl d1_init_11 ?_
  obtain ⟨I3, eI3, h⟩ := x_le h
  rw [← eI3]
  refine x_aload_n hX d1_init_14 rfl rfl ?_
  refine x_bipush (v := 40) hX d1_init_15 (by decide) ?_
  obtain ⟨hg4, h⟩ := x_gd h
  obtain ⟨hg5, h⟩ := x_gd h
  obtain ⟨hg6, h⟩ := x_gd h
  refine x_newI hX kA_int hg4 rfl hg5 (by rw [hR]; exact Nat.le_of_ble_eq_true rfl) (by rw [hR]; exact hg6) d1_init_17 ?_
  obtain ⟨N7, eN7, h⟩ := x_le h
  rw [← eN7]
  obtain ⟨K8, eK8, h⟩ := x_le h
  rw [← eK8]
  obtain ⟨I9, eI9, h⟩ := x_le h
  rw [← eI9]
  obtain ⟨J10, eJ10, h⟩ := x_le h
  rw [← eJ10]
  obtain ⟨F11, eF11, h⟩ := x_le h
  rw [← eF11]
  obtain ⟨hg12, h⟩ := x_gd h
  refine x_putF (j := 2) hX xc1 hg12.1 hg12.2 (by decide) rfl kF1_19 (Or.inr ⟨hnm, rfl, rfl⟩) rfl rfl d1_init_19 ?_
  obtain ⟨F13, eF13, h⟩ := x_le h
  rw [← eF13]
  refine x_aload_n hX d1_init_22 rfl rfl ?_
  refine x_bipush (v := 40) hX d1_init_23 (by decide) ?_
  obtain ⟨hg14, h⟩ := x_gd h
  refine x_newI hX kA_int hg4 rfl hg5 (by rw [hR]; exact Nat.le_of_ble_eq_true rfl) (by rw [hR]; exact hg14) d1_init_25 ?_
  obtain ⟨N15, eN15, h⟩ := x_le h
  rw [← eN15]
  obtain ⟨K16, eK16, h⟩ := x_le h
  rw [← eK16]
  obtain ⟨I17, eI17, h⟩ := x_le h
  rw [← eI17]
  obtain ⟨J18, eJ18, h⟩ := x_le h
  rw [← eJ18]
  obtain ⟨F19, eF19, h⟩ := x_le h
  rw [← eF19]
  obtain ⟨hg20, h⟩ := x_gd h
  refine x_putF (j := 3) hX xc1 hg20.1 hg20.2 (by decide) rfl kF1_23 (Or.inr ⟨hnm, rfl, rfl⟩) rfl rfl d1_init_27 ?_
  obtain ⟨F21, eF21, h⟩ := x_le h
  rw [← eF21]
  refine x_aload_n hX d1_init_30 rfl rfl ?_
  refine x_bipush (v := 40) hX d1_init_31 (by decide) ?_
  obtain ⟨hg22, h⟩ := x_gd h
  obtain ⟨hg23, h⟩ := x_gd h
  refine x_newZ hX kA_boolean hg4 rfl hg22 (by rw [hR]; exact Nat.le_of_ble_eq_true rfl) (by rw [hR]; exact hg23) d1_init_33 ?_
  obtain ⟨N24, eN24, h⟩ := x_le h
  rw [← eN24]
  obtain ⟨K25, eK25, h⟩ := x_le h
  rw [← eK25]
  obtain ⟨I26, eI26, h⟩ := x_le h
  rw [← eI26]
  obtain ⟨J27, eJ27, h⟩ := x_le h
  rw [← eJ27]
  obtain ⟨F28, eF28, h⟩ := x_le h
  rw [← eF28]
  obtain ⟨hg29, h⟩ := x_gd h
  refine x_putF (j := 4) hX xc1 hg29.1 hg29.2 (by decide) rfl kF1_26 (Or.inr ⟨hnm, rfl, rfl⟩) rfl rfl d1_init_35 ?_
  obtain ⟨F30, eF30, h⟩ := x_le h
  rw [← eF30]
  refine x_aload_n hX d1_init_38 rfl rfl ?_
  refine x_bipush (v := 40) hX d1_init_39 (by decide) ?_
  obtain ⟨hg31, h⟩ := x_gd h
  obtain ⟨hg32, h⟩ := x_gd h
  refine x_newJ hX kA_long hg4 rfl hg31 (by rw [hR]; exact Nat.le_of_ble_eq_true rfl) (by rw [hR]; exact hg32) d1_init_41 ?_
  obtain ⟨N33, eN33, h⟩ := x_le h
  rw [← eN33]
  obtain ⟨K34, eK34, h⟩ := x_le h
  rw [← eK34]
  obtain ⟨I35, eI35, h⟩ := x_le h
  rw [← eI35]
  obtain ⟨J36, eJ36, h⟩ := x_le h
  rw [← eJ36]
  obtain ⟨F37, eF37, h⟩ := x_le h
  rw [← eF37]
  obtain ⟨hg38, h⟩ := x_gd h
  refine x_putF (j := 5) hX xc1 hg38.1 hg38.2 (by decide) rfl kF1_30 (Or.inr ⟨hnm, rfl, rfl⟩) rfl rfl d1_init_43 ?_
  obtain ⟨F39, eF39, h⟩ := x_le h
  rw [← eF39]
  refine x_wide (a' := 4) (b' := ms) (Nat.le_of_ble_eq_true rfl) hg32 ?_
  cases h
  exact x_vret hX hr d1_init_46 (fun H hP => ⟨rfl, hP⟩)
