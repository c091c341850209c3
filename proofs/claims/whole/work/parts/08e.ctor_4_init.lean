set_option maxRecDepth 100000 in
set_option maxHeartbeats 4000000 in
def m4_init (ms N : Nat) (K : Nat → Nat × Nat) (F : Nat → Nat → Option Nat) (I : (Nat → Nat → Int32)) (J : (Nat → Nat → Int64)) (a0 : Nat) : Option (Nat × (Nat → Nat × Nat) × (Nat → Nat → Option Nat) × (Nat → Nat → Int32) × (Nat → Nat → Int64)) :=
  if a0 < N ∧ K a0 = (0, 4) then (xlet (xu I a0 0 (0 : Int32)) fun I2 => xlet (xu I2 a0 1 (-1 : Int32)) fun I3 => xlet (xu I3 a0 2 (-1 : Int32)) fun I4 => xlet (xu J a0 3 (0 : Int64)) fun J5 => xlet (xu J5 a0 4 (0 : Int64)) fun J6 => if 0 + 2 ≤ ms then (xlet (N + 1) fun N8 => xlet (va_up K N (0, 3)) fun K9 => xlet (va_up I4 N (fun _ => 0)) fun I10 => xlet (va_up J6 N (fun _ => 0)) fun J11 => xlet (va_up F N (fun _ => none)) fun F12 => if 0 + 2 + 64 ≤ ms then (xb (m3_init 64 N8 K9 F12 I10 J11 N) fun (N14, K15, F16, I17, J18) => if a0 < N14 ∧ K15 a0 = (0, 4) then (xlet (xu F16 a0 5 (some N)) fun F21 => if 0 + 2 + 64 + 2 ≤ ms then (xlet (N14 + 1) fun N23 => xlet (va_up K15 N14 (0, 3)) fun K24 => xlet (va_up I17 N14 (fun _ => 0)) fun I25 => xlet (va_up J18 N14 (fun _ => 0)) fun J26 => xlet (va_up F21 N14 (fun _ => none)) fun F27 => if 0 + 2 + 64 + 2 + 64 ≤ ms then (xb (m3_init 64 N23 K24 F27 I25 J26 N14) fun (N29, K30, F31, I32, J33) => if a0 < N29 ∧ K30 a0 = (0, 4) then (xlet (xu F31 a0 6 (some N14)) fun F36 => if 0 + 2 + 64 + 2 + 64 + 2 ≤ ms then (xlet (N29 + 1) fun N38 => xlet (va_up K30 N29 (0, 3)) fun K39 => xlet (va_up I32 N29 (fun _ => 0)) fun I40 => xlet (va_up J33 N29 (fun _ => 0)) fun J41 => xlet (va_up F36 N29 (fun _ => none)) fun F42 => if 0 + 2 + 64 + 2 + 64 + 2 + 64 ≤ ms then (xb (m3_init 64 N38 K39 F42 I40 J41 N29) fun (N44, K45, F46, I47, J48) => if a0 < N44 ∧ K45 a0 = (0, 4) then (xlet (xu F46 a0 7 (some N29)) fun F51 => if ¬ (64 : Int32) < 0 then (if (64 : Int32).toNatClampNeg * componentBytes (newarray.typeOf .int) ≤ 536870912 then (if 0 + 2 + 64 + 2 + 64 + 2 + 64 + (64 : Int32).toNatClampNeg ≤ ms then (xlet (N44 + 1) fun N55 => xlet (va_up K45 N44 (1, (64 : Int32).toNatClampNeg)) fun K56 => xlet (va_up I47 N44 (fun _ => 0)) fun I57 => xlet (va_up J48 N44 (fun _ => 0)) fun J58 => xlet (va_up F51 N44 (fun _ => none)) fun F59 => if a0 < N55 ∧ K56 a0 = (0, 4) then (xlet (xu F59 a0 8 (some N44)) fun F61 => xlet (xu J58 a0 9 (0 : Int64)) fun J62 => some (N55, K56, F61, I57, J62)) else none) else none) else none) else none) else none) else none) else none) else none) else none) else none) else none) else none) else none) else none
set_option maxRecDepth 100000 in
set_option maxHeartbeats 4000000 in
theorem c_m4_init {l : Launch} {B d ms : Nat} {g : xG} {N : Nat} {K : Nat → Nat × Nat} {F : Nat → Nat → Option Nat} {I : (Nat → Nat → Int32)} {J : (Nat → Nat → Int64)} {a0 : Nat} {N' : Nat} {K' : (Nat → Nat × Nat)} {F' : (Nat → Nat → Option Nat)} {I' : (Nat → Nat → Int32)} {J' : (Nat → Nat → Int64)} (h : m4_init ms N K F I J a0 = some (N', K', F', I', J')) : xC l g B (d + 2) 7 ms y4_init c4_init 1 none [.ref (B + a0)] (xP g B N K I J F) (xq none (xP g B N' K' I' J' F')) := by
  refine xC_of (by decide) (Nat.le_of_ble_eq_true rfl) (fun X hl hR hr hnm hX => ?_)
  refine x_sub (L' := [(0, .ref (B + a0))]) [0] rfl ?_
  unfold m4_init at h
  refine x_aload_n hX d4_init_0 rfl rfl ?_
  refine x_objInit hX hR kM4_3 kNobj kDobj (Nat.le_of_ble_eq_true rfl) d4_init_1 ?_
  refine x_aload_n hX d4_init_4 rfl rfl ?_
  refine x_iconst (v := 0) hX d4_init_5 (by decide) ?_
  obtain ⟨hg1, h⟩ := x_gd h
  refine x_putI (j := 0) hX xc4 hg1.1 hg1.2 (by decide) rfl kF4_9 (Or.inl rfl) rfl rfl d4_init_6 ?_
  obtain ⟨I2, eI2, h⟩ := x_le h
  rw [← eI2]
  refine x_aload_n hX d4_init_9 rfl rfl ?_
  refine x_iconst (v := -1) hX d4_init_10 (by decide) ?_
  refine x_putI (j := 1) hX xc4 hg1.1 hg1.2 (by decide) rfl kF4_15 (Or.inl rfl) rfl rfl d4_init_11 ?_
  obtain ⟨I3, eI3, h⟩ := x_le h
  rw [← eI3]
  refine x_aload_n hX d4_init_14 rfl rfl ?_
  refine x_iconst (v := -1) hX d4_init_15 (by decide) ?_
  refine x_putI (j := 2) hX xc4 hg1.1 hg1.2 (by decide) rfl kF4_18 (Or.inl rfl) rfl rfl d4_init_16 ?_
  obtain ⟨I4, eI4, h⟩ := x_le h
  rw [← eI4]
  refine x_aload_n hX d4_init_19 rfl rfl ?_
  refine x_lconst (v := 0) hX d4_init_20 (by decide) ?_
  refine x_putJ (j := 3) hX xc4 hg1.1 hg1.2 (by decide) rfl kF4_21 (Or.inl rfl) rfl rfl d4_init_21 ?_
  obtain ⟨J5, eJ5, h⟩ := x_le h
  rw [← eJ5]
  refine x_aload_n hX d4_init_24 rfl rfl ?_
  refine x_lconst (v := 0) hX d4_init_25 (by decide) ?_
  refine x_putJ (j := 4) hX xc4 hg1.1 hg1.2 (by decide) rfl kF4_25 (Or.inl rfl) rfl rfl d4_init_26 ?_
  obtain ⟨J6, eJ6, h⟩ := x_le h
  rw [← eJ6]
  refine x_aload_n hX d4_init_29 rfl rfl ?_
  obtain ⟨hg7, h⟩ := x_gd h
  refine x_new hX xc3 kL4_28 kT3 kI3 (by rw [hR]; exact Nat.le_of_ble_eq_true rfl) (by rw [hR]; exact hg7) d4_init_30 ?_
  obtain ⟨N8, eN8, h⟩ := x_le h
  rw [← eN8]
  obtain ⟨K9, eK9, h⟩ := x_le h
  rw [← eK9]
  obtain ⟨I10, eI10, h⟩ := x_le h
  rw [← eI10]
  obtain ⟨J11, eJ11, h⟩ := x_le h
  rw [← eJ11]
  obtain ⟨F12, eF12, h⟩ := x_le h
  rw [← eF12]
  refine x_dup hX d4_init_33 rfl ?_
  obtain ⟨hg13, h⟩ := x_gd h
  obtain ⟨⟨N14, K15, F16, I17, J18⟩, eb19, h⟩ := x_bd h
  dsimp only at h
  refine x_callIN hX hR (c_m3_init (l := x_l X) (d := d + 0) eb19) kX4_30 kN3_init rfl rfl rfl (Nat.le_of_ble_eq_true rfl) ⟨Nat.le_of_ble_eq_true rfl, hg13⟩ d4_init_34 (x_kkv ?_)
  obtain ⟨hg20, h⟩ := x_gd h
  refine x_putF (j := 5) hX xc4 hg20.1 hg20.2 (by decide) rfl kF4_31 (Or.inr ⟨hnm, rfl, rfl⟩) rfl rfl d4_init_37 ?_
  obtain ⟨F21, eF21, h⟩ := x_le h
  rw [← eF21]
  refine x_aload_n hX d4_init_40 rfl rfl ?_
  obtain ⟨hg22, h⟩ := x_gd h
  refine x_new hX xc3 kL4_28 kT3 kI3 (by rw [hR]; exact Nat.le_of_ble_eq_true rfl) (by rw [hR]; exact hg22) d4_init_41 ?_
  obtain ⟨N23, eN23, h⟩ := x_le h
  rw [← eN23]
  obtain ⟨K24, eK24, h⟩ := x_le h
  rw [← eK24]
  obtain ⟨I25, eI25, h⟩ := x_le h
  rw [← eI25]
  obtain ⟨J26, eJ26, h⟩ := x_le h
  rw [← eJ26]
  obtain ⟨F27, eF27, h⟩ := x_le h
  rw [← eF27]
  refine x_dup hX d4_init_44 rfl ?_
  obtain ⟨hg28, h⟩ := x_gd h
  obtain ⟨⟨N29, K30, F31, I32, J33⟩, eb34, h⟩ := x_bd h
  dsimp only at h
  refine x_callIN hX hR (c_m3_init (l := x_l X) (d := d + 0) eb34) kX4_30 kN3_init rfl rfl rfl (Nat.le_of_ble_eq_true rfl) ⟨Nat.le_of_ble_eq_true rfl, hg28⟩ d4_init_45 (x_kkv ?_)
  obtain ⟨hg35, h⟩ := x_gd h
  refine x_putF (j := 6) hX xc4 hg35.1 hg35.2 (by decide) rfl kF4_35 (Or.inr ⟨hnm, rfl, rfl⟩) rfl rfl d4_init_48 ?_
  obtain ⟨F36, eF36, h⟩ := x_le h
  rw [← eF36]
  refine x_aload_n hX d4_init_51 rfl rfl ?_
  obtain ⟨hg37, h⟩ := x_gd h
  refine x_new hX xc3 kL4_28 kT3 kI3 (by rw [hR]; exact Nat.le_of_ble_eq_true rfl) (by rw [hR]; exact hg37) d4_init_52 ?_
  obtain ⟨N38, eN38, h⟩ := x_le h
  rw [← eN38]
  obtain ⟨K39, eK39, h⟩ := x_le h
  rw [← eK39]
  obtain ⟨I40, eI40, h⟩ := x_le h
  rw [← eI40]
  obtain ⟨J41, eJ41, h⟩ := x_le h
  rw [← eJ41]
  obtain ⟨F42, eF42, h⟩ := x_le h
  rw [← eF42]
  refine x_dup hX d4_init_55 rfl ?_
  obtain ⟨hg43, h⟩ := x_gd h
  obtain ⟨⟨N44, K45, F46, I47, J48⟩, eb49, h⟩ := x_bd h
  dsimp only at h
  refine x_callIN hX hR (c_m3_init (l := x_l X) (d := d + 0) eb49) kX4_30 kN3_init rfl rfl rfl (Nat.le_of_ble_eq_true rfl) ⟨Nat.le_of_ble_eq_true rfl, hg43⟩ d4_init_56 (x_kkv ?_)
  obtain ⟨hg50, h⟩ := x_gd h
  refine x_putF (j := 7) hX xc4 hg50.1 hg50.2 (by decide) rfl kF4_38 (Or.inr ⟨hnm, rfl, rfl⟩) rfl rfl d4_init_59 ?_
  obtain ⟨F51, eF51, h⟩ := x_le h
  rw [← eF51]
  refine x_aload_n hX d4_init_62 rfl rfl ?_
  refine x_bipush (v := 64) hX d4_init_63 (by decide) ?_
  obtain ⟨hg52, h⟩ := x_gd h
  obtain ⟨hg53, h⟩ := x_gd h
  obtain ⟨hg54, h⟩ := x_gd h
  refine x_newI hX kA_int hg52 rfl hg53 (by rw [hR]; exact Nat.le_of_ble_eq_true rfl) (by rw [hR]; exact hg54) d4_init_65 ?_
  obtain ⟨N55, eN55, h⟩ := x_le h
  rw [← eN55]
  obtain ⟨K56, eK56, h⟩ := x_le h
  rw [← eK56]
  obtain ⟨I57, eI57, h⟩ := x_le h
  rw [← eI57]
  obtain ⟨J58, eJ58, h⟩ := x_le h
  rw [← eJ58]
  obtain ⟨F59, eF59, h⟩ := x_le h
  rw [← eF59]
  obtain ⟨hg60, h⟩ := x_gd h
  refine x_putF (j := 8) hX xc4 hg60.1 hg60.2 (by decide) rfl kF4_41 (Or.inr ⟨hnm, rfl, rfl⟩) rfl rfl d4_init_67 ?_
  obtain ⟨F61, eF61, h⟩ := x_le h
  rw [← eF61]
  refine x_aload_n hX d4_init_70 rfl rfl ?_
  refine x_lconst (v := 0) hX d4_init_71 (by decide) ?_
  refine x_putJ (j := 9) hX xc4 hg60.1 hg60.2 (by decide) rfl kF4_45 (Or.inl rfl) rfl rfl d4_init_72 ?_
  obtain ⟨J62, eJ62, h⟩ := x_le h
  rw [← eJ62]
  refine x_wide (a' := 7) (b' := ms) (Nat.le_of_ble_eq_true rfl) hg54 ?_
  cases h
  exact x_vret hX hr d4_init_75 (fun H hP => ⟨rfl, hP⟩)
