set_option maxRecDepth 100000 in
set_option maxHeartbeats 4000000 in
def m3_init (ms N : Nat) (K : Nat → Nat × Nat) (F : Nat → Nat → Option Nat) (I : (Nat → Nat → Int32)) (J : (Nat → Nat → Int64)) (a0 : Nat) : Option (Nat × (Nat → Nat × Nat) × (Nat → Nat → Option Nat) × (Nat → Nat → Int32) × (Nat → Nat → Int64)) :=
  if a0 < N ∧ K a0 = (0, 3) then (xlet (xu J a0 0 (0 : Int64)) fun J2 => if ¬ (64 : Int32) < 0 then (if (64 : Int32).toNatClampNeg * componentBytes (newarray.typeOf .long) ≤ 536870912 then (if 0 + (64 : Int32).toNatClampNeg ≤ ms then (xlet (N + 1) fun N6 => xlet (va_up K N (2, (64 : Int32).toNatClampNeg)) fun K7 => xlet (va_up I N (fun _ => 0)) fun I8 => xlet (va_up J2 N (fun _ => 0)) fun J9 => xlet (va_up F N (fun _ => none)) fun F10 => if a0 < N6 ∧ K7 a0 = (0, 3) then (xlet (xu F10 a0 1 (some N)) fun F12 => some (N6, K7, F12, I8, J9)) else none) else none) else none) else none) else none
set_option maxRecDepth 100000 in
set_option maxHeartbeats 4000000 in
theorem c_m3_init {l : Launch} {B d ms : Nat} {g : xG} {N : Nat} {K : Nat → Nat × Nat} {F : Nat → Nat → Option Nat} {I : (Nat → Nat → Int32)} {J : (Nat → Nat → Int64)} {a0 : Nat} {N' : Nat} {K' : (Nat → Nat × Nat)} {F' : (Nat → Nat → Option Nat)} {I' : (Nat → Nat → Int32)} {J' : (Nat → Nat → Int64)} (h : m3_init ms N K F I J a0 = some (N', K', F', I', J')) : xC l g B (d + 1) 1 ms y3_init c3_init 1 none [.ref (B + a0)] (xP g B N K I J F) (xq none (xP g B N' K' I' J' F')) := by
  refine xC_of (by decide) (Nat.le_of_ble_eq_true rfl) (fun X hl hR hr hnm hX => ?_)
  refine x_sub (L' := [(0, .ref (B + a0))]) [0] rfl ?_
  unfold m3_init at h
  refine x_aload_n hX d3_init_0 rfl rfl ?_
  refine x_objInit hX hR kM3_3 kNobj kDobj (Nat.le_of_ble_eq_true rfl) d3_init_1 ?_
  refine x_aload_n hX d3_init_4 rfl rfl ?_
  refine x_lconst (v := 0) hX d3_init_5 (by decide) ?_
  obtain ⟨hg1, h⟩ := x_gd h
  refine x_putJ (j := 0) hX xc3 hg1.1 hg1.2 (by decide) rfl kF3_9 (Or.inl rfl) rfl rfl d3_init_6 ?_
  obtain ⟨J2, eJ2, h⟩ := x_le h
  rw [← eJ2]
  refine x_aload_n hX d3_init_9 rfl rfl ?_
  refine x_bipush (v := 64) hX d3_init_10 (by decide) ?_
  obtain ⟨hg3, h⟩ := x_gd h
  obtain ⟨hg4, h⟩ := x_gd h
  obtain ⟨hg5, h⟩ := x_gd h
  refine x_newJ hX kA_long hg3 rfl hg4 (by rw [hR]; exact Nat.le_of_ble_eq_true rfl) (by rw [hR]; exact hg5) d3_init_12 ?_
  obtain ⟨N6, eN6, h⟩ := x_le h
  rw [← eN6]
  obtain ⟨K7, eK7, h⟩ := x_le h
  rw [← eK7]
  obtain ⟨I8, eI8, h⟩ := x_le h
  rw [← eI8]
  obtain ⟨J9, eJ9, h⟩ := x_le h
  rw [← eJ9]
  obtain ⟨F10, eF10, h⟩ := x_le h
  rw [← eF10]
  obtain ⟨hg11, h⟩ := x_gd h
  refine x_putF (j := 1) hX xc3 hg11.1 hg11.2 (by decide) rfl kF3_15 (Or.inr ⟨hnm, rfl, rfl⟩) rfl rfl d3_init_14 ?_
  obtain ⟨F12, eF12, h⟩ := x_le h
  rw [← eF12]
  refine x_wide (a' := 1) (b' := ms) (Nat.le_of_ble_eq_true rfl) hg5 ?_
  cases h
  exact x_vret hX hr d3_init_17 (fun H hP => ⟨rfl, hP⟩)
