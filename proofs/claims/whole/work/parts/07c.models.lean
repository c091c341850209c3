def m5_begins_L32 (N : Nat) (K : Nat → Nat × Nat) (F : Nat → Nat → Option Nat) (J : (Nat → Nat → Int64)) : Nat → (Nat → Nat → Int32) → Nat → Int32 → Option ((Nat → Nat → Int32))
  | 0, _, _, _ => none
  | n + 1, I, v0, v1 => if (64 : Int32) ≤ v1 then (some I) else (if v0 < N ∧ K v0 = (0, 5) then (xb (F v0 26) fun q2 => if q2 < N ∧ (K q2).1 = 3 ∧ xinb v1 (K q2).2 then (xlet (xu I q2 (v1.toNatClampNeg) (0 : Int32)) fun I4 => xlet (v1 + (1 : Int32)) fun x5 => m5_begins_L32 N K F J n I4 v0 x5) else none) else none)
def m5_begins (N : Nat) (K : Nat → Nat × Nat) (F : Nat → Nat → Option Nat) (I : (Nat → Nat → Int32)) (J : (Nat → Nat → Int64)) (a0 : Nat) : Option ((Nat → Nat → Int32)) :=
  if a0 < N ∧ K a0 = (0, 5) then (xlet (xu I a0 0 (0 : Int32)) fun I2 => xlet (xu I2 a0 17 (0 : Int32)) fun I3 => xlet (xu I3 a0 18 (0 : Int32)) fun I4 => xlet (xu I4 a0 19 (0 : Int32)) fun I5 => xlet (xu I5 a0 20 (0 : Int32)) fun I6 => xlet (xu I6 a0 21 (0 : Int32)) fun I7 => m5_begins_L32 N K F J xFu I7 a0 (0 : Int32)) else none
set_option maxRecDepth 100000 in
set_option maxHeartbeats 4000000 in
theorem t_m5_begins_L32 {X : xX} {B d : Nat} {g : xG} {N : Nat} {K : Nat → Nat × Nat} {F : Nat → Nat → Option Nat} {J : (Nat → Nat → Int64)} {I' : (Nat → Nat → Int32)} (hX : xO X c5_begins "ChangeRowsModel" 2 B g) (hR : x_R X = xrm (d + 0) 0 0) (hr : (x_meth X).sig.returnType = none) : ∀ (n : Nat) (I : (Nat → Nat → Int32)) (v0 : Nat) (v1 : Int32), m5_begins_L32 N K F J n I v0 v1 = some I' → xV X B 2 (xZ X B 0 0 (xq none (xP g B N K I' J F))) 0 0 (xP g B N K I J F) 32 [(0, .ref (B + v0)), (1, .int v1)] [] := by
  intro n
  induction n with
  | zero =>
    intro I v0 v1 h
    cases h
  | succ n ih =>
    intro I v0 v1 h
    rw [m5_begins_L32] at h
    refine x_iload_n hX d5_begins_32 rfl rfl ?_
    refine x_bipush (v := 64) hX d5_begins_33 (by decide) ?_
    refine x_icmp_ge (tgt := 51) hX d5_begins_35 (by decide) (fun hc => ?_) (fun hc => ?_)
    · rw [if_pos hc] at h
      cases h
      exact x_vret hX hr d5_begins_51 (fun H hP => ⟨rfl, hP⟩)
    · rw [if_neg hc] at h
      refine x_aload_n hX d5_begins_38 rfl rfl ?_
      obtain ⟨hg1, h⟩ := x_gd h
      obtain ⟨q2, eq2, h⟩ := x_bd h
      refine x_getF (j := 26) hX xc5 hg1.1 hg1.2 (by decide) rfl eq2 kF5_72 d5_begins_39 ?_
      refine x_iload_n hX d5_begins_42 rfl rfl ?_
      refine x_iconst (v := 0) hX d5_begins_43 (by decide) ?_
      obtain ⟨hg3, h⟩ := x_gd h
      refine x_zast hX hg3.1 (x_kd hg3.2.1) (x_in hg3.2.2) rfl d5_begins_44 ?_
      obtain ⟨I4, eI4, h⟩ := x_le h
      rw [← eI4]
      obtain ⟨x5, ex5, h⟩ := x_le h
      refine x_iinc (j := 1) hX [(1, .int x5), (0, .ref (B + v0))] d5_begins_45 rfl (by rw [ex5]; rfl) (by decide) rfl ?_
      refine x_goto (tgt := 32) hX d5_begins_48 (by decide) ?_
      refine x_sub [1, 0] rfl ?_
      exact ih _ _ _ h
set_option maxRecDepth 100000 in
set_option maxHeartbeats 4000000 in
theorem c_m5_begins {l : Launch} {B d : Nat} {g : xG} {N : Nat} {K : Nat → Nat × Nat} {F : Nat → Nat → Option Nat} {I : (Nat → Nat → Int32)} {J : (Nat → Nat → Int64)} {a0 : Nat} {I' : (Nat → Nat → Int32)} (h : m5_begins N K F I J a0 = some I') : xC l g B (d + 0) 0 0 y5_begins c5_begins 2 none [.ref (B + a0)] (xP g B N K I J F) (xq none (xP g B N K I' J F)) := by
  refine xC_of (by decide) (Nat.le_of_ble_eq_true rfl) (fun X hl hR hr _ hX => ?_)
  refine x_sub (L' := [(0, .ref (B + a0))]) [0] rfl ?_
  unfold m5_begins at h
  refine x_aload_n hX d5_begins_0 rfl rfl ?_
  refine x_iconst (v := 0) hX d5_begins_1 (by decide) ?_
  obtain ⟨hg1, h⟩ := x_gd h
  refine x_putI (j := 0) hX xc5 hg1.1 hg1.2 (by decide) rfl kF5_87 (Or.inl rfl) rfl rfl d5_begins_2 ?_
  obtain ⟨I2, eI2, h⟩ := x_le h
  rw [← eI2]
  refine x_aload_n hX d5_begins_5 rfl rfl ?_
  refine x_iconst (v := 0) hX d5_begins_6 (by decide) ?_
  refine x_putI (j := 17) hX xc5 hg1.1 hg1.2 (by decide) rfl kF5_91 (Or.inl rfl) rfl rfl d5_begins_7 ?_
  obtain ⟨I3, eI3, h⟩ := x_le h
  rw [← eI3]
  refine x_aload_n hX d5_begins_10 rfl rfl ?_
  refine x_iconst (v := 0) hX d5_begins_11 (by decide) ?_
  refine x_putI (j := 18) hX xc5 hg1.1 hg1.2 (by decide) rfl kF5_94 (Or.inl rfl) rfl rfl d5_begins_12 ?_
  obtain ⟨I4, eI4, h⟩ := x_le h
  rw [← eI4]
  refine x_aload_n hX d5_begins_15 rfl rfl ?_
  refine x_iconst (v := 0) hX d5_begins_16 (by decide) ?_
  refine x_putI (j := 19) hX xc5 hg1.1 hg1.2 (by decide) rfl kF5_97 (Or.inl rfl) rfl rfl d5_begins_17 ?_
  obtain ⟨I5, eI5, h⟩ := x_le h
  rw [← eI5]
  refine x_aload_n hX d5_begins_20 rfl rfl ?_
  refine x_iconst (v := 0) hX d5_begins_21 (by decide) ?_
  refine x_putI (j := 20) hX xc5 hg1.1 hg1.2 (by decide) rfl kF5_100 (Or.inl rfl) rfl rfl d5_begins_22 ?_
  obtain ⟨I6, eI6, h⟩ := x_le h
  rw [← eI6]
  refine x_aload_n hX d5_begins_25 rfl rfl ?_
  refine x_iconst (v := 0) hX d5_begins_26 (by decide) ?_
  refine x_putI (j := 21) hX xc5 hg1.1 hg1.2 (by decide) rfl kF5_104 (Or.inl rfl) rfl rfl d5_begins_27 ?_
  obtain ⟨I7, eI7, h⟩ := x_le h
  rw [← eI7]
  refine x_iconst (v := 0) hX d5_begins_30 (by decide) ?_
  refine x_istore_n hX [(1, .int (0 : Int32)), (0, .ref (B + a0))] d5_begins_31 rfl (by decide) rfl ?_
  refine x_sub [1, 0] rfl ?_
  exact t_m5_begins_L32 hX hR hr _ _ _ _ h

def m5_clear (N : Nat) (K : Nat → Nat × Nat) (F : Nat → Nat → Option Nat) (I : (Nat → Nat → Int32)) (J : (Nat → Nat → Int64)) (a0 : Nat) : Option (Int32 × (Nat → Nat → Int32)) :=
  if a0 < N ∧ K a0 = (0, 5) then (xlet ((I a0 0)) fun x2 => xb (m5_begins N K F I J a0) fun I3 => some (x2, I3)) else none
set_option maxRecDepth 100000 in
set_option maxHeartbeats 4000000 in
theorem c_m5_clear {l : Launch} {B d : Nat} {g : xG} {N : Nat} {K : Nat → Nat × Nat} {F : Nat → Nat → Option Nat} {I : (Nat → Nat → Int32)} {J : (Nat → Nat → Int64)} {a0 : Nat} {rv : Int32} {I' : (Nat → Nat → Int32)} (h : m5_clear N K F I J a0 = some (rv, I')) : xC l g B (d + 1) 0 0 y5_clear c5_clear 2 (some .int) [.ref (B + a0)] (xP g B N K I J F) (xq (some (.int rv)) (xP g B N K I' J F)) := by
  refine xC_of (by decide) (Nat.le_of_ble_eq_true rfl) (fun X hl hR hr _ hX => ?_)
  refine x_sub (L' := [(0, .ref (B + a0))]) [0] rfl ?_
  unfold m5_clear at h
  refine x_aload_n hX d5_clear_0 rfl rfl ?_
  obtain ⟨hg1, h⟩ := x_gd h
  refine x_getI (j := 0) hX xc5 hg1.1 hg1.2 (by decide) rfl kF5_87 d5_clear_1 ?_
  obtain ⟨x2, ex2, h⟩ := x_le h
  refine x_eqi ex2.symm ?_
  refine x_istore_n hX [(1, .int x2), (0, .ref (B + a0))] d5_clear_4 rfl (by decide) rfl ?_
  refine x_aload_n hX d5_clear_5 rfl rfl ?_
  obtain ⟨I3, eb4, h⟩ := x_bd h
  refine x_callV hX hR (c_m5_begins (l := x_l X) (d := d + 0) eb4) kX5_84 kN5_begins kE5_begins xc5.1 hg1.1 hg1.2 rfl rfl (Nat.le_of_ble_eq_true rfl) ⟨Nat.le_refl 0, Nat.le_refl 0⟩ d5_clear_6 (x_kkv ?_)
  refine x_iload_n hX d5_clear_9 rfl rfl ?_
  cases h
  exact x_iret hX hr d5_clear_10 (fun H hP => ⟨rfl, hP⟩)

def m5_isIn (N : Nat) (K : Nat → Nat × Nat) (F : Nat → Nat → Option Nat) (I : (Nat → Nat → Int32)) (J : (Nat → Nat → Int64)) (a0 : Int64) (a1 : Int64) (a2 : Int64) : Option (Int32) :=
  if a0 < a1 then (some (0 : Int32)) else (if a2 < a0 then (some (0 : Int32)) else (some (1 : Int32)))
set_option maxRecDepth 100000 in
set_option maxHeartbeats 4000000 in
theorem c_m5_isIn {l : Launch} {B d : Nat} {g : xG} {N : Nat} {K : Nat → Nat × Nat} {F : Nat → Nat → Option Nat} {I : (Nat → Nat → Int32)} {J : (Nat → Nat → Int64)} {a0 : Int64} {a1 : Int64} {a2 : Int64} {rv : Int32} (h : m5_isIn N K F I J a0 a1 a2 = some rv) : xC l g B (d + 0) 0 0 y5_isIn c5_isIn 6 (some .boolean) [.long a0, .long a1, .long a2] (xP g B N K I J F) (xq (some (.int rv)) (xP g B N K I J F)) := by
  refine xC_of (by decide) (Nat.le_of_ble_eq_true rfl) (fun X hl hR hr _ hX => ?_)
  refine x_sub (L' := [(0, .long a0), (2, .long a1), (4, .long a2)]) [0, 1, 2] rfl ?_
  unfold m5_isIn at h
  refine x_lload_n hX d5_isIn_0 rfl rfl ?_
  refine x_lload_n hX d5_isIn_1 rfl rfl ?_
  refine x_lif_lt (tgt := 17) hX d5_isIn_2 d5_isIn_3 (by decide) (fun hc => ?_) (fun hc => ?_)
  · rw [if_pos hc] at h
    refine x_iconst (v := 0) hX d5_isIn_17 (by decide) ?_
    cases h
    exact x_zret hX hr rfl d5_isIn_18 (fun H hP => ⟨rfl, hP⟩)
  · rw [if_neg hc] at h
    refine x_lload_n hX d5_isIn_6 rfl rfl ?_
    refine x_lload hX d5_isIn_7 rfl ?_
    refine x_lif_gt (tgt := 17) hX d5_isIn_9 d5_isIn_10 (by decide) (fun hc => ?_) (fun hc => ?_)
    · rw [if_pos hc] at h
      refine x_iconst (v := 0) hX d5_isIn_17 (by decide) ?_
      cases h
      exact x_zret hX hr rfl d5_isIn_18 (fun H hP => ⟨rfl, hP⟩)
    · rw [if_neg hc] at h
      refine x_iconst (v := 1) hX d5_isIn_13 (by decide) ?_
      refine x_goto (tgt := 18) hX d5_isIn_14 (by decide) ?_
      cases h
      exact x_zret hX hr rfl d5_isIn_18 (fun H hP => ⟨rfl, hP⟩)

def m5_isTable (N : Nat) (K : Nat → Nat × Nat) (F : Nat → Nat → Option Nat) (I : (Nat → Nat → Int32)) (J : (Nat → Nat → Int64)) (a0 : Nat) (a1 : Int32) : Option (Int32) :=
  if a0 < N ∧ K a0 = (0, 5) then (xb (m5_isIn N K F I J (a1.toInt64) (0 : Int64) (((I a0 0) - (1 : Int32)).toInt64)) fun x2 => if x2 = 0 ∨ x2 = 1 then (some x2) else none) else none
set_option maxRecDepth 100000 in
set_option maxHeartbeats 4000000 in
theorem c_m5_isTable {l : Launch} {B d : Nat} {g : xG} {N : Nat} {K : Nat → Nat × Nat} {F : Nat → Nat → Option Nat} {I : (Nat → Nat → Int32)} {J : (Nat → Nat → Int64)} {a0 : Nat} {a1 : Int32} {rv : Int32} (h : m5_isTable N K F I J a0 a1 = some rv) : xC l g B (d + 1) 0 0 y5_isTable c5_isTable 2 (some .boolean) [.ref (B + a0), .int a1] (xP g B N K I J F) (xq (some (.int rv)) (xP g B N K I J F)) := by
  refine xC_of (by decide) (Nat.le_of_ble_eq_true rfl) (fun X hl hR hr _ hX => ?_)
  refine x_sub (L' := [(0, .ref (B + a0)), (1, .int a1)]) [0, 1] rfl ?_
  unfold m5_isTable at h
  refine x_iload_n hX d5_isTable_0 rfl rfl ?_
  refine x_i2l hX d5_isTable_1 ?_
  refine x_lconst (v := 0) hX d5_isTable_2 (by decide) ?_
  refine x_aload_n hX d5_isTable_3 rfl rfl ?_
  obtain ⟨hg1, h⟩ := x_gd h
  refine x_getI (j := 0) hX xc5 hg1.1 hg1.2 (by decide) rfl kF5_87 d5_isTable_4 ?_
  refine x_iconst (v := 1) hX d5_isTable_7 (by decide) ?_
  refine x_isub hX d5_isTable_8 ?_
  refine x_i2l hX d5_isTable_9 ?_
  obtain ⟨x2, eb3, h⟩ := x_bd h
  refine x_callS hX hR (c_m5_isIn (l := x_l X) (d := d + 0) eb3) kX5_107 kS5_isIn rfl rfl (Nat.le_of_ble_eq_true rfl) ⟨Nat.le_refl 0, Nat.le_refl 0⟩ d5_isTable_10 (x_kki ?_)
  obtain ⟨hg4, h⟩ := x_gd h
  cases h
  exact x_zret hX hr (x_nbool hg4) d5_isTable_13 (fun H hP => ⟨rfl, hP⟩)

def m5_clearRow (N : Nat) (K : Nat → Nat × Nat) (F : Nat → Nat → Option Nat) (I : (Nat → Nat → Int32)) (J : (Nat → Nat → Int64)) (a0 : Nat) (a1 : Int32) : Option ((Nat → Nat → Int32) × (Nat → Nat → Int64)) :=
  if a0 < N ∧ K a0 = (0, 5) then (xb (F a0 6) fun q2 => if q2 < N ∧ (K q2).1 = 3 ∧ xinb a1 (K q2).2 then (xlet (xu I q2 (a1.toNatClampNeg) (0 : Int32)) fun I4 => xb (F a0 7) fun q5 => if q5 < N ∧ (K q5).1 = 2 ∧ xinb a1 (K q5).2 then (xlet (xu J q5 (a1.toNatClampNeg) (0 : Int64)) fun J7 => some (I4, J7)) else none) else none) else none
set_option maxRecDepth 100000 in
set_option maxHeartbeats 4000000 in
theorem c_m5_clearRow {l : Launch} {B d : Nat} {g : xG} {N : Nat} {K : Nat → Nat × Nat} {F : Nat → Nat → Option Nat} {I : (Nat → Nat → Int32)} {J : (Nat → Nat → Int64)} {a0 : Nat} {a1 : Int32} {I' : (Nat → Nat → Int32)} {J' : (Nat → Nat → Int64)} (h : m5_clearRow N K F I J a0 a1 = some (I', J')) : xC l g B (d + 0) 0 0 y5_clearRow c5_clearRow 2 none [.ref (B + a0), .int a1] (xP g B N K I J F) (xq none (xP g B N K I' J' F)) := by
  refine xC_of (by decide) (Nat.le_of_ble_eq_true rfl) (fun X hl hR hr _ hX => ?_)
  refine x_sub (L' := [(0, .ref (B + a0)), (1, .int a1)]) [0, 1] rfl ?_
  unfold m5_clearRow at h
  refine x_aload_n hX d5_clearRow_0 rfl rfl ?_
  obtain ⟨hg1, h⟩ := x_gd h
  obtain ⟨q2, eq2, h⟩ := x_bd h
  refine x_getF (j := 6) hX xc5 hg1.1 hg1.2 (by decide) rfl eq2 kF5_26 d5_clearRow_1 ?_
  refine x_iload_n hX d5_clearRow_4 rfl rfl ?_
  refine x_iconst (v := 0) hX d5_clearRow_5 (by decide) ?_
  obtain ⟨hg3, h⟩ := x_gd h
  refine x_zast hX hg3.1 (x_kd hg3.2.1) (x_in hg3.2.2) rfl d5_clearRow_6 ?_
  obtain ⟨I4, eI4, h⟩ := x_le h
  rw [← eI4]
  refine x_aload_n hX d5_clearRow_7 rfl rfl ?_
  obtain ⟨q5, eq5, h⟩ := x_bd h
  refine x_getF (j := 7) hX xc5 hg1.1 hg1.2 (by decide) rfl eq5 kF5_30 d5_clearRow_8 ?_
  refine x_iload_n hX d5_clearRow_11 rfl rfl ?_
  refine x_lconst (v := 0) hX d5_clearRow_12 (by decide) ?_
  obtain ⟨hg6, h⟩ := x_gd h
  refine x_last hX hg6.1 (x_kd hg6.2.1) (x_in hg6.2.2) d5_clearRow_13 ?_
  obtain ⟨J7, eJ7, h⟩ := x_le h
  rw [← eJ7]
  cases h
  exact x_vret hX hr d5_clearRow_14 (fun H hP => ⟨rfl, hP⟩)

def m5_setRow (N : Nat) (K : Nat → Nat × Nat) (F : Nat → Nat → Option Nat) (I : (Nat → Nat → Int32)) (J : (Nat → Nat → Int64)) (a0 : Nat) (a1 : Int32) (a2 : Int64) : Option ((Nat → Nat → Int32) × (Nat → Nat → Int64)) :=
  if a0 < N ∧ K a0 = (0, 5) then (xb (F a0 6) fun q2 => if q2 < N ∧ (K q2).1 = 3 ∧ xinb a1 (K q2).2 then (xlet (xu I q2 (a1.toNatClampNeg) (1 : Int32)) fun I4 => xb (F a0 7) fun q5 => if q5 < N ∧ (K q5).1 = 2 ∧ xinb a1 (K q5).2 then (xlet (xu J q5 (a1.toNatClampNeg) a2) fun J7 => some (I4, J7)) else none) else none) else none
set_option maxRecDepth 100000 in
set_option maxHeartbeats 4000000 in
theorem c_m5_setRow {l : Launch} {B d : Nat} {g : xG} {N : Nat} {K : Nat → Nat × Nat} {F : Nat → Nat → Option Nat} {I : (Nat → Nat → Int32)} {J : (Nat → Nat → Int64)} {a0 : Nat} {a1 : Int32} {a2 : Int64} {I' : (Nat → Nat → Int32)} {J' : (Nat → Nat → Int64)} (h : m5_setRow N K F I J a0 a1 a2 = some (I', J')) : xC l g B (d + 0) 0 0 y5_setRow c5_setRow 4 none [.ref (B + a0), .int a1, .long a2] (xP g B N K I J F) (xq none (xP g B N K I' J' F)) := by
  refine xC_of (by decide) (Nat.le_of_ble_eq_true rfl) (fun X hl hR hr _ hX => ?_)
  refine x_sub (L' := [(0, .ref (B + a0)), (1, .int a1), (2, .long a2)]) [0, 1, 2] rfl ?_
  unfold m5_setRow at h
  refine x_aload_n hX d5_setRow_0 rfl rfl ?_
  obtain ⟨hg1, h⟩ := x_gd h
  obtain ⟨q2, eq2, h⟩ := x_bd h
  refine x_getF (j := 6) hX xc5 hg1.1 hg1.2 (by decide) rfl eq2 kF5_26 d5_setRow_1 ?_
  refine x_iload_n hX d5_setRow_4 rfl rfl ?_
  refine x_iconst (v := 1) hX d5_setRow_5 (by decide) ?_
  obtain ⟨hg3, h⟩ := x_gd h
  refine x_zast hX hg3.1 (x_kd hg3.2.1) (x_in hg3.2.2) rfl d5_setRow_6 ?_
  obtain ⟨I4, eI4, h⟩ := x_le h
  rw [← eI4]
  refine x_aload_n hX d5_setRow_7 rfl rfl ?_
  obtain ⟨q5, eq5, h⟩ := x_bd h
  refine x_getF (j := 7) hX xc5 hg1.1 hg1.2 (by decide) rfl eq5 kF5_30 d5_setRow_8 ?_
  refine x_iload_n hX d5_setRow_11 rfl rfl ?_
  refine x_lload_n hX d5_setRow_12 rfl rfl ?_
  obtain ⟨hg6, h⟩ := x_gd h
  refine x_last hX hg6.1 (x_kd hg6.2.1) (x_in hg6.2.2) d5_setRow_13 ?_
  obtain ⟨J7, eJ7, h⟩ := x_le h
  rw [← eJ7]
  cases h
  exact x_vret hX hr d5_setRow_14 (fun H hP => ⟨rfl, hP⟩)

def m5_workFold_B189 (N : Nat) (K : Nat → Nat × Nat) (F : Nat → Nat → Option Nat) (k21 : (Nat → Nat → Int32) → (Nat → Nat → Int64) → Nat → Int32 → Int32 → Int32 → Int32 → Option ((Nat → Nat → Int32) × (Nat → Nat → Int64))) (k37 : (Nat → Nat → Int32) → (Nat → Nat → Int64) → Nat → Int32 → Int32 → Int32 → Int32 → Int32 → Int64 → Int32 → Option ((Nat → Nat → Int32) × (Nat → Nat → Int64))) (I : (Nat → Nat → Int32)) (J : (Nat → Nat → Int64)) (v0 : Nat) (v1 : Int32) (v2 : Int32) (v3 : Int32) (v4 : Int32) (v5 : Int32) (v6 : Int64) (v8 : Int32) : Option ((Nat → Nat → Int32) × (Nat → Nat → Int64)) :=
  xlet (v5 + (1 : Int32)) fun x1 => xlet ((v8 + v2)) fun x2 => k37 I J v0 v1 v2 v3 v4 x1 v6 x2
def m5_workFold_B179 (N : Nat) (K : Nat → Nat × Nat) (F : Nat → Nat → Option Nat) (k21 : (Nat → Nat → Int32) → (Nat → Nat → Int64) → Nat → Int32 → Int32 → Int32 → Int32 → Option ((Nat → Nat → Int32) × (Nat → Nat → Int64))) (k37 : (Nat → Nat → Int32) → (Nat → Nat → Int64) → Nat → Int32 → Int32 → Int32 → Int32 → Int32 → Int64 → Int32 → Option ((Nat → Nat → Int32) × (Nat → Nat → Int64))) (I : (Nat → Nat → Int32)) (J : (Nat → Nat → Int64)) (v0 : Nat) (v1 : Int32) (v2 : Int32) (v3 : Int32) (v4 : Int32) (v5 : Int32) (v8 : Int32) (w0 : Int64) : Option ((Nat → Nat → Int32) × (Nat → Nat → Int64)) :=
  m5_workFold_B189 N K F k21 k37 I J v0 v1 v2 v3 v4 v5 w0 v8
def m5_workFold_B172 (N : Nat) (K : Nat → Nat × Nat) (F : Nat → Nat → Option Nat) (k21 : (Nat → Nat → Int32) → (Nat → Nat → Int64) → Nat → Int32 → Int32 → Int32 → Int32 → Option ((Nat → Nat → Int32) × (Nat → Nat → Int64))) (k37 : (Nat → Nat → Int32) → (Nat → Nat → Int64) → Nat → Int32 → Int32 → Int32 → Int32 → Int32 → Int64 → Int32 → Option ((Nat → Nat → Int32) × (Nat → Nat → Int64))) (I : (Nat → Nat → Int32)) (J : (Nat → Nat → Int64)) (v0 : Nat) (v1 : Int32) (v2 : Int32) (v3 : Int32) (v4 : Int32) (v5 : Int32) (v8 : Int32) (v9 : Int64) : Option ((Nat → Nat → Int32) × (Nat → Nat → Int64)) :=
  m5_workFold_B179 N K F k21 k37 I J v0 v1 v2 v3 v4 v5 v8 v9
def m5_workFold_B141 (N : Nat) (K : Nat → Nat × Nat) (F : Nat → Nat → Option Nat) (k21 : (Nat → Nat → Int32) → (Nat → Nat → Int64) → Nat → Int32 → Int32 → Int32 → Int32 → Option ((Nat → Nat → Int32) × (Nat → Nat → Int64))) (k37 : (Nat → Nat → Int32) → (Nat → Nat → Int64) → Nat → Int32 → Int32 → Int32 → Int32 → Int32 → Int64 → Int32 → Option ((Nat → Nat → Int32) × (Nat → Nat → Int64))) (I : (Nat → Nat → Int32)) (J : (Nat → Nat → Int64)) (v0 : Nat) (v1 : Int32) (v2 : Int32) (v3 : Int32) (v4 : Int32) (v5 : Int32) (v8 : Int32) (w0 : Int64) : Option ((Nat → Nat → Int32) × (Nat → Nat → Int64)) :=
  m5_workFold_B189 N K F k21 k37 I J v0 v1 v2 v3 v4 v5 w0 v8
def m5_workFold_B134 (N : Nat) (K : Nat → Nat × Nat) (F : Nat → Nat → Option Nat) (k21 : (Nat → Nat → Int32) → (Nat → Nat → Int64) → Nat → Int32 → Int32 → Int32 → Int32 → Option ((Nat → Nat → Int32) × (Nat → Nat → Int64))) (k37 : (Nat → Nat → Int32) → (Nat → Nat → Int64) → Nat → Int32 → Int32 → Int32 → Int32 → Int32 → Int64 → Int32 → Option ((Nat → Nat → Int32) × (Nat → Nat → Int64))) (I : (Nat → Nat → Int32)) (J : (Nat → Nat → Int64)) (v0 : Nat) (v1 : Int32) (v2 : Int32) (v3 : Int32) (v4 : Int32) (v5 : Int32) (v8 : Int32) (v9 : Int64) : Option ((Nat → Nat → Int32) × (Nat → Nat → Int64)) :=
  m5_workFold_B141 N K F k21 k37 I J v0 v1 v2 v3 v4 v5 v8 v9
def m5_workFold_L37 (N : Nat) (K : Nat → Nat × Nat) (F : Nat → Nat → Option Nat) (k21 : (Nat → Nat → Int32) → (Nat → Nat → Int64) → Nat → Int32 → Int32 → Int32 → Int32 → Option ((Nat → Nat → Int32) × (Nat → Nat → Int64))) : Nat → (Nat → Nat → Int32) → (Nat → Nat → Int64) → Nat → Int32 → Int32 → Int32 → Int32 → Int32 → Int64 → Int32 → Option ((Nat → Nat → Int32) × (Nat → Nat → Int64))
  | 0, _, _, _, _, _, _, _, _, _, _ => none
  | n + 1, I, J, v0, v1, v2, v3, v4, v5, v6, v8 => if (64 : Int32) ≤ v8 then (if v5 ≤ 0 then (xlet (v4 + (1 : Int32)) fun x1 => k21 I J v0 v1 v2 v3 x1) else (if v0 < N ∧ K v0 = (0, 5) then (xb (m5_setRow N K F I J v0 (((64 : Int32) * v1) + v4) v6) fun (I3, J4) => xlet (v4 + (1 : Int32)) fun x6 => k21 I3 J4 v0 v1 v2 v3 x6) else none)) else (if v0 < N ∧ K v0 = (0, 5) then (xb (F v0 6) fun q8 => if q8 < N ∧ (K q8).1 = 3 ∧ xinb (v3 + v8) (K q8).2 then (if (I q8 ((v3 + v8).toNatClampNeg)) = 0 then (xlet ((v8 + v2)) fun x10 => m5_workFold_L37 N K F k21 n I J v0 v1 v2 v3 v4 v5 v6 x10) else (xb (F v0 7) fun q11 => if q11 < N ∧ (K q11).1 = 2 ∧ xinb (v3 + v8) (K q11).2 then (xlet ((J q11 ((v3 + v8).toNatClampNeg))) fun x13 => xb (F v0 4) fun q14 => if q14 < N ∧ (K q14).1 = 2 ∧ xinb v1 (K q14).2 then (if ¬ (J q14 (v1.toNatClampNeg)) = (0 : Int64) then (if ¬ (J q14 (v1.toNatClampNeg)) = (1 : Int64) then (if ¬ (J q14 (v1.toNatClampNeg)) = (2 : Int64) then (if ¬ (J q14 (v1.toNatClampNeg)) = (3 : Int64) then (xlet ((v8.toInt64)) fun x16 => m5_workFold_B189 N K F k21 (m5_workFold_L37 N K F k21 n) I J v0 v1 v2 v3 v4 v5 x16 v8) else (if v5 = 0 then (m5_workFold_B172 N K F k21 (m5_workFold_L37 N K F k21 n) I J v0 v1 v2 v3 v4 v5 v8 x13) else (if x13 ≤ v6 then (m5_workFold_B179 N K F k21 (m5_workFold_L37 N K F k21 n) I J v0 v1 v2 v3 v4 v5 v8 v6) else (m5_workFold_B172 N K F k21 (m5_workFold_L37 N K F k21 n) I J v0 v1 v2 v3 v4 v5 v8 x13)))) else (if v5 = 0 then (m5_workFold_B134 N K F k21 (m5_workFold_L37 N K F k21 n) I J v0 v1 v2 v3 v4 v5 v8 x13) else (if v6 ≤ x13 then (m5_workFold_B141 N K F k21 (m5_workFold_L37 N K F k21 n) I J v0 v1 v2 v3 v4 v5 v8 v6) else (m5_workFold_B134 N K F k21 (m5_workFold_L37 N K F k21 n) I J v0 v1 v2 v3 v4 v5 v8 x13)))) else (xlet ((v6 + x13)) fun x17 => m5_workFold_B189 N K F k21 (m5_workFold_L37 N K F k21 n) I J v0 v1 v2 v3 v4 v5 x17 v8)) else (xlet ((v6 + (1 : Int64))) fun x18 => m5_workFold_B189 N K F k21 (m5_workFold_L37 N K F k21 n) I J v0 v1 v2 v3 v4 v5 x18 v8)) else none) else none)) else none) else none)
def m5_workFold_L21 (N : Nat) (K : Nat → Nat × Nat) (F : Nat → Nat → Option Nat) : Nat → (Nat → Nat → Int32) → (Nat → Nat → Int64) → Nat → Int32 → Int32 → Int32 → Int32 → Option ((Nat → Nat → Int32) × (Nat → Nat → Int64))
  | 0, _, _, _, _, _, _, _ => none
  | n + 1, I, J, v0, v1, v2, v3, v4 => if v2 ≤ v4 then (some (I, J)) else (m5_workFold_L37 N K F (m5_workFold_L21 N K F n) xFu I J v0 v1 v2 v3 v4 (0 : Int32) (0 : Int64) v4)
def m5_workFold (N : Nat) (K : Nat → Nat × Nat) (F : Nat → Nat → Option Nat) (I : (Nat → Nat → Int32)) (J : (Nat → Nat → Int64)) (a0 : Nat) (a1 : Int32) : Option ((Nat → Nat → Int32) × (Nat → Nat → Int64)) :=
  if a0 < N ∧ K a0 = (0, 5) then (xb (F a0 5) fun q2 => if q2 < N ∧ (K q2).1 = 2 ∧ xinb a1 (K q2).2 then (xlet (((J q2 (a1.toNatClampNeg)).toInt32)) fun x4 => xb (F a0 2) fun q5 => if q5 < N ∧ (K q5).1 = 1 ∧ xinb a1 (K q5).2 then (xlet (((64 : Int32) * (I q5 (a1.toNatClampNeg)))) fun x7 => m5_workFold_L21 N K F xFu I J a0 a1 x4 x7 (0 : Int32)) else none) else none) else none
set_option maxRecDepth 100000 in
set_option maxHeartbeats 4000000 in
theorem t_m5_workFold_B189 {X : xX} {B d : Nat} {g : xG} {N : Nat} {K : Nat → Nat × Nat} {F : Nat → Nat → Option Nat} {I' : (Nat → Nat → Int32)} {J' : (Nat → Nat → Int64)} {k21 : (Nat → Nat → Int32) → (Nat → Nat → Int64) → Nat → Int32 → Int32 → Int32 → Int32 → Option ((Nat → Nat → Int32) × (Nat → Nat → Int64))} {k37 : (Nat → Nat → Int32) → (Nat → Nat → Int64) → Nat → Int32 → Int32 → Int32 → Int32 → Int32 → Int64 → Int32 → Option ((Nat → Nat → Int32) × (Nat → Nat → Int64))} (hX : xO X c5_workFold "ChangeRowsModel" 11 B g) (hR : x_R X = xrm (d + 1) 0 0) (hr : (x_meth X).sig.returnType = none) (hk21 : ∀ (I : (Nat → Nat → Int32)) (J : (Nat → Nat → Int64)) (v0 : Nat) (v1 : Int32) (v2 : Int32) (v3 : Int32) (v4 : Int32), k21 I J v0 v1 v2 v3 v4 = some (I', J') → xV X B 11 (xZ X B 0 0 (xq none (xP g B N K I' J' F))) 0 0 (xP g B N K I J F) 21 [(0, .ref (B + v0)), (1, .int v1), (2, .int v2), (3, .int v3), (4, .int v4)] []) (hk37 : ∀ (I : (Nat → Nat → Int32)) (J : (Nat → Nat → Int64)) (v0 : Nat) (v1 : Int32) (v2 : Int32) (v3 : Int32) (v4 : Int32) (v5 : Int32) (v6 : Int64) (v8 : Int32), k37 I J v0 v1 v2 v3 v4 v5 v6 v8 = some (I', J') → xV X B 11 (xZ X B 0 0 (xq none (xP g B N K I' J' F))) 0 0 (xP g B N K I J F) 37 [(0, .ref (B + v0)), (1, .int v1), (2, .int v2), (3, .int v3), (4, .int v4), (5, .int v5), (6, .long v6), (8, .int v8)] []) (I : (Nat → Nat → Int32)) (J : (Nat → Nat → Int64)) (v0 : Nat) (v1 : Int32) (v2 : Int32) (v3 : Int32) (v4 : Int32) (v5 : Int32) (v6 : Int64) (v8 : Int32) (h : m5_workFold_B189 N K F k21 k37 I J v0 v1 v2 v3 v4 v5 v6 v8 = some (I', J')) : xV X B 11 (xZ X B 0 0 (xq none (xP g B N K I' J' F))) 0 0 (xP g B N K I J F) 189 [(0, .ref (B + v0)), (1, .int v1), (2, .int v2), (3, .int v3), (4, .int v4), (5, .int v5), (6, .long v6), (8, .int v8)] [] := by
  unfold m5_workFold_B189 at h
  obtain ⟨x1, ex1, h⟩ := x_le h
  refine x_iinc (j := 5) hX [(5, .int x1), (0, .ref (B + v0)), (1, .int v1), (2, .int v2), (3, .int v3), (4, .int v4), (6, .long v6), (8, .int v8)] d5_workFold_189 rfl (by rw [ex1]; rfl) (by decide) rfl ?_
  refine x_iload hX d5_workFold_192 rfl ?_
  refine x_iload_n hX d5_workFold_194 rfl rfl ?_
  refine x_iadd hX d5_workFold_195 ?_
  obtain ⟨x2, ex2, h⟩ := x_le h
  refine x_eqi ex2.symm ?_
  refine x_istore hX [(8, .int x2), (5, .int x1), (0, .ref (B + v0)), (1, .int v1), (2, .int v2), (3, .int v3), (4, .int v4), (6, .long v6)] d5_workFold_196 (by decide) rfl ?_
  refine x_goto (tgt := 37) hX d5_workFold_198 (by decide) ?_
  refine x_sub [2, 3, 4, 5, 6, 1, 7, 0] rfl ?_
  exact hk37 _ _ _ _ _ _ _ _ _ _ h
set_option maxRecDepth 100000 in
set_option maxHeartbeats 4000000 in
theorem t_m5_workFold_B179 {X : xX} {B d : Nat} {g : xG} {N : Nat} {K : Nat → Nat × Nat} {F : Nat → Nat → Option Nat} {I' : (Nat → Nat → Int32)} {J' : (Nat → Nat → Int64)} {k21 : (Nat → Nat → Int32) → (Nat → Nat → Int64) → Nat → Int32 → Int32 → Int32 → Int32 → Option ((Nat → Nat → Int32) × (Nat → Nat → Int64))} {k37 : (Nat → Nat → Int32) → (Nat → Nat → Int64) → Nat → Int32 → Int32 → Int32 → Int32 → Int32 → Int64 → Int32 → Option ((Nat → Nat → Int32) × (Nat → Nat → Int64))} (hX : xO X c5_workFold "ChangeRowsModel" 11 B g) (hR : x_R X = xrm (d + 1) 0 0) (hr : (x_meth X).sig.returnType = none) (hk21 : ∀ (I : (Nat → Nat → Int32)) (J : (Nat → Nat → Int64)) (v0 : Nat) (v1 : Int32) (v2 : Int32) (v3 : Int32) (v4 : Int32), k21 I J v0 v1 v2 v3 v4 = some (I', J') → xV X B 11 (xZ X B 0 0 (xq none (xP g B N K I' J' F))) 0 0 (xP g B N K I J F) 21 [(0, .ref (B + v0)), (1, .int v1), (2, .int v2), (3, .int v3), (4, .int v4)] []) (hk37 : ∀ (I : (Nat → Nat → Int32)) (J : (Nat → Nat → Int64)) (v0 : Nat) (v1 : Int32) (v2 : Int32) (v3 : Int32) (v4 : Int32) (v5 : Int32) (v6 : Int64) (v8 : Int32), k37 I J v0 v1 v2 v3 v4 v5 v6 v8 = some (I', J') → xV X B 11 (xZ X B 0 0 (xq none (xP g B N K I' J' F))) 0 0 (xP g B N K I J F) 37 [(0, .ref (B + v0)), (1, .int v1), (2, .int v2), (3, .int v3), (4, .int v4), (5, .int v5), (6, .long v6), (8, .int v8)] []) (I : (Nat → Nat → Int32)) (J : (Nat → Nat → Int64)) (v0 : Nat) (v1 : Int32) (v2 : Int32) (v3 : Int32) (v4 : Int32) (v5 : Int32) (v8 : Int32) (w0 : Int64) (h : m5_workFold_B179 N K F k21 k37 I J v0 v1 v2 v3 v4 v5 v8 w0 = some (I', J')) : xV X B 11 (xZ X B 0 0 (xq none (xP g B N K I' J' F))) 0 0 (xP g B N K I J F) 179 [(0, .ref (B + v0)), (1, .int v1), (2, .int v2), (3, .int v3), (4, .int v4), (5, .int v5), (8, .int v8)] [.long w0] := by
  unfold m5_workFold_B179 at h
  refine x_lstore hX [(6, .long w0), (0, .ref (B + v0)), (1, .int v1), (2, .int v2), (3, .int v3), (4, .int v4), (5, .int v5), (8, .int v8)] d5_workFold_179 (by decide) rfl ?_
  refine x_goto (tgt := 189) hX d5_workFold_181 (by decide) ?_
  refine x_sub [1, 2, 3, 4, 5, 6, 0, 7] rfl ?_
  exact t_m5_workFold_B189 hX hR hr hk21 hk37 _ _ _ _ _ _ _ _ _ _ h
set_option maxRecDepth 100000 in
set_option maxHeartbeats 4000000 in
theorem t_m5_workFold_B172 {X : xX} {B d : Nat} {g : xG} {N : Nat} {K : Nat → Nat × Nat} {F : Nat → Nat → Option Nat} {I' : (Nat → Nat → Int32)} {J' : (Nat → Nat → Int64)} {k21 : (Nat → Nat → Int32) → (Nat → Nat → Int64) → Nat → Int32 → Int32 → Int32 → Int32 → Option ((Nat → Nat → Int32) × (Nat → Nat → Int64))} {k37 : (Nat → Nat → Int32) → (Nat → Nat → Int64) → Nat → Int32 → Int32 → Int32 → Int32 → Int32 → Int64 → Int32 → Option ((Nat → Nat → Int32) × (Nat → Nat → Int64))} (hX : xO X c5_workFold "ChangeRowsModel" 11 B g) (hR : x_R X = xrm (d + 1) 0 0) (hr : (x_meth X).sig.returnType = none) (hk21 : ∀ (I : (Nat → Nat → Int32)) (J : (Nat → Nat → Int64)) (v0 : Nat) (v1 : Int32) (v2 : Int32) (v3 : Int32) (v4 : Int32), k21 I J v0 v1 v2 v3 v4 = some (I', J') → xV X B 11 (xZ X B 0 0 (xq none (xP g B N K I' J' F))) 0 0 (xP g B N K I J F) 21 [(0, .ref (B + v0)), (1, .int v1), (2, .int v2), (3, .int v3), (4, .int v4)] []) (hk37 : ∀ (I : (Nat → Nat → Int32)) (J : (Nat → Nat → Int64)) (v0 : Nat) (v1 : Int32) (v2 : Int32) (v3 : Int32) (v4 : Int32) (v5 : Int32) (v6 : Int64) (v8 : Int32), k37 I J v0 v1 v2 v3 v4 v5 v6 v8 = some (I', J') → xV X B 11 (xZ X B 0 0 (xq none (xP g B N K I' J' F))) 0 0 (xP g B N K I J F) 37 [(0, .ref (B + v0)), (1, .int v1), (2, .int v2), (3, .int v3), (4, .int v4), (5, .int v5), (6, .long v6), (8, .int v8)] []) (I : (Nat → Nat → Int32)) (J : (Nat → Nat → Int64)) (v0 : Nat) (v1 : Int32) (v2 : Int32) (v3 : Int32) (v4 : Int32) (v5 : Int32) (v8 : Int32) (v9 : Int64) (h : m5_workFold_B172 N K F k21 k37 I J v0 v1 v2 v3 v4 v5 v8 v9 = some (I', J')) : xV X B 11 (xZ X B 0 0 (xq none (xP g B N K I' J' F))) 0 0 (xP g B N K I J F) 172 [(0, .ref (B + v0)), (1, .int v1), (2, .int v2), (3, .int v3), (4, .int v4), (5, .int v5), (8, .int v8), (9, .long v9)] [] := by
  unfold m5_workFold_B172 at h
  refine x_lload hX d5_workFold_172 rfl ?_
  refine x_goto (tgt := 179) hX d5_workFold_174 (by decide) ?_
  refine x_sub [0, 1, 2, 3, 4, 5, 6] rfl ?_
  exact t_m5_workFold_B179 hX hR hr hk21 hk37 _ _ _ _ _ _ _ _ _ _ h
set_option maxRecDepth 100000 in
set_option maxHeartbeats 4000000 in
theorem t_m5_workFold_B141 {X : xX} {B d : Nat} {g : xG} {N : Nat} {K : Nat → Nat × Nat} {F : Nat → Nat → Option Nat} {I' : (Nat → Nat → Int32)} {J' : (Nat → Nat → Int64)} {k21 : (Nat → Nat → Int32) → (Nat → Nat → Int64) → Nat → Int32 → Int32 → Int32 → Int32 → Option ((Nat → Nat → Int32) × (Nat → Nat → Int64))} {k37 : (Nat → Nat → Int32) → (Nat → Nat → Int64) → Nat → Int32 → Int32 → Int32 → Int32 → Int32 → Int64 → Int32 → Option ((Nat → Nat → Int32) × (Nat → Nat → Int64))} (hX : xO X c5_workFold "ChangeRowsModel" 11 B g) (hR : x_R X = xrm (d + 1) 0 0) (hr : (x_meth X).sig.returnType = none) (hk21 : ∀ (I : (Nat → Nat → Int32)) (J : (Nat → Nat → Int64)) (v0 : Nat) (v1 : Int32) (v2 : Int32) (v3 : Int32) (v4 : Int32), k21 I J v0 v1 v2 v3 v4 = some (I', J') → xV X B 11 (xZ X B 0 0 (xq none (xP g B N K I' J' F))) 0 0 (xP g B N K I J F) 21 [(0, .ref (B + v0)), (1, .int v1), (2, .int v2), (3, .int v3), (4, .int v4)] []) (hk37 : ∀ (I : (Nat → Nat → Int32)) (J : (Nat → Nat → Int64)) (v0 : Nat) (v1 : Int32) (v2 : Int32) (v3 : Int32) (v4 : Int32) (v5 : Int32) (v6 : Int64) (v8 : Int32), k37 I J v0 v1 v2 v3 v4 v5 v6 v8 = some (I', J') → xV X B 11 (xZ X B 0 0 (xq none (xP g B N K I' J' F))) 0 0 (xP g B N K I J F) 37 [(0, .ref (B + v0)), (1, .int v1), (2, .int v2), (3, .int v3), (4, .int v4), (5, .int v5), (6, .long v6), (8, .int v8)] []) (I : (Nat → Nat → Int32)) (J : (Nat → Nat → Int64)) (v0 : Nat) (v1 : Int32) (v2 : Int32) (v3 : Int32) (v4 : Int32) (v5 : Int32) (v8 : Int32) (w0 : Int64) (h : m5_workFold_B141 N K F k21 k37 I J v0 v1 v2 v3 v4 v5 v8 w0 = some (I', J')) : xV X B 11 (xZ X B 0 0 (xq none (xP g B N K I' J' F))) 0 0 (xP g B N K I J F) 141 [(0, .ref (B + v0)), (1, .int v1), (2, .int v2), (3, .int v3), (4, .int v4), (5, .int v5), (8, .int v8)] [.long w0] := by
  unfold m5_workFold_B141 at h
  refine x_lstore hX [(6, .long w0), (0, .ref (B + v0)), (1, .int v1), (2, .int v2), (3, .int v3), (4, .int v4), (5, .int v5), (8, .int v8)] d5_workFold_141 (by decide) rfl ?_
  refine x_goto (tgt := 189) hX d5_workFold_143 (by decide) ?_
  refine x_sub [1, 2, 3, 4, 5, 6, 0, 7] rfl ?_
  exact t_m5_workFold_B189 hX hR hr hk21 hk37 _ _ _ _ _ _ _ _ _ _ h
set_option maxRecDepth 100000 in
set_option maxHeartbeats 4000000 in
theorem t_m5_workFold_B134 {X : xX} {B d : Nat} {g : xG} {N : Nat} {K : Nat → Nat × Nat} {F : Nat → Nat → Option Nat} {I' : (Nat → Nat → Int32)} {J' : (Nat → Nat → Int64)} {k21 : (Nat → Nat → Int32) → (Nat → Nat → Int64) → Nat → Int32 → Int32 → Int32 → Int32 → Option ((Nat → Nat → Int32) × (Nat → Nat → Int64))} {k37 : (Nat → Nat → Int32) → (Nat → Nat → Int64) → Nat → Int32 → Int32 → Int32 → Int32 → Int32 → Int64 → Int32 → Option ((Nat → Nat → Int32) × (Nat → Nat → Int64))} (hX : xO X c5_workFold "ChangeRowsModel" 11 B g) (hR : x_R X = xrm (d + 1) 0 0) (hr : (x_meth X).sig.returnType = none) (hk21 : ∀ (I : (Nat → Nat → Int32)) (J : (Nat → Nat → Int64)) (v0 : Nat) (v1 : Int32) (v2 : Int32) (v3 : Int32) (v4 : Int32), k21 I J v0 v1 v2 v3 v4 = some (I', J') → xV X B 11 (xZ X B 0 0 (xq none (xP g B N K I' J' F))) 0 0 (xP g B N K I J F) 21 [(0, .ref (B + v0)), (1, .int v1), (2, .int v2), (3, .int v3), (4, .int v4)] []) (hk37 : ∀ (I : (Nat → Nat → Int32)) (J : (Nat → Nat → Int64)) (v0 : Nat) (v1 : Int32) (v2 : Int32) (v3 : Int32) (v4 : Int32) (v5 : Int32) (v6 : Int64) (v8 : Int32), k37 I J v0 v1 v2 v3 v4 v5 v6 v8 = some (I', J') → xV X B 11 (xZ X B 0 0 (xq none (xP g B N K I' J' F))) 0 0 (xP g B N K I J F) 37 [(0, .ref (B + v0)), (1, .int v1), (2, .int v2), (3, .int v3), (4, .int v4), (5, .int v5), (6, .long v6), (8, .int v8)] []) (I : (Nat → Nat → Int32)) (J : (Nat → Nat → Int64)) (v0 : Nat) (v1 : Int32) (v2 : Int32) (v3 : Int32) (v4 : Int32) (v5 : Int32) (v8 : Int32) (v9 : Int64) (h : m5_workFold_B134 N K F k21 k37 I J v0 v1 v2 v3 v4 v5 v8 v9 = some (I', J')) : xV X B 11 (xZ X B 0 0 (xq none (xP g B N K I' J' F))) 0 0 (xP g B N K I J F) 134 [(0, .ref (B + v0)), (1, .int v1), (2, .int v2), (3, .int v3), (4, .int v4), (5, .int v5), (8, .int v8), (9, .long v9)] [] := by
  unfold m5_workFold_B134 at h
  refine x_lload hX d5_workFold_134 rfl ?_
  refine x_goto (tgt := 141) hX d5_workFold_136 (by decide) ?_
  refine x_sub [0, 1, 2, 3, 4, 5, 6] rfl ?_
  exact t_m5_workFold_B141 hX hR hr hk21 hk37 _ _ _ _ _ _ _ _ _ _ h
set_option maxRecDepth 100000 in
set_option maxHeartbeats 4000000 in
theorem t_m5_workFold_L37 {X : xX} {B d : Nat} {g : xG} {N : Nat} {K : Nat → Nat × Nat} {F : Nat → Nat → Option Nat} {I' : (Nat → Nat → Int32)} {J' : (Nat → Nat → Int64)} {k21 : (Nat → Nat → Int32) → (Nat → Nat → Int64) → Nat → Int32 → Int32 → Int32 → Int32 → Option ((Nat → Nat → Int32) × (Nat → Nat → Int64))} (hX : xO X c5_workFold "ChangeRowsModel" 11 B g) (hR : x_R X = xrm (d + 1) 0 0) (hr : (x_meth X).sig.returnType = none) (hk21 : ∀ (I : (Nat → Nat → Int32)) (J : (Nat → Nat → Int64)) (v0 : Nat) (v1 : Int32) (v2 : Int32) (v3 : Int32) (v4 : Int32), k21 I J v0 v1 v2 v3 v4 = some (I', J') → xV X B 11 (xZ X B 0 0 (xq none (xP g B N K I' J' F))) 0 0 (xP g B N K I J F) 21 [(0, .ref (B + v0)), (1, .int v1), (2, .int v2), (3, .int v3), (4, .int v4)] []) : ∀ (n : Nat) (I : (Nat → Nat → Int32)) (J : (Nat → Nat → Int64)) (v0 : Nat) (v1 : Int32) (v2 : Int32) (v3 : Int32) (v4 : Int32) (v5 : Int32) (v6 : Int64) (v8 : Int32), m5_workFold_L37 N K F k21 n I J v0 v1 v2 v3 v4 v5 v6 v8 = some (I', J') → xV X B 11 (xZ X B 0 0 (xq none (xP g B N K I' J' F))) 0 0 (xP g B N K I J F) 37 [(0, .ref (B + v0)), (1, .int v1), (2, .int v2), (3, .int v3), (4, .int v4), (5, .int v5), (6, .long v6), (8, .int v8)] [] := by
  intro n
  induction n with
  | zero =>
    intro I J v0 v1 v2 v3 v4 v5 v6 v8 h
    cases h
  | succ n ih =>
    intro I J v0 v1 v2 v3 v4 v5 v6 v8 h
    rw [m5_workFold_L37] at h
    refine x_iload hX d5_workFold_37 rfl ?_
    refine x_bipush (v := 64) hX d5_workFold_39 (by decide) ?_
    refine x_icmp_ge (tgt := 201) hX d5_workFold_41 (by decide) (fun hc => ?_) (fun hc => ?_)
    · rw [if_pos hc] at h
      refine x_iload hX d5_workFold_201 rfl ?_
      refine x_if_le (tgt := 219) hX d5_workFold_203 (by decide) (fun hc => ?_) (fun hc => ?_)
      · rw [if_pos hc] at h
        obtain ⟨x1, ex1, h⟩ := x_le h
        refine x_iinc (j := 4) hX [(4, .int x1), (0, .ref (B + v0)), (1, .int v1), (2, .int v2), (3, .int v3), (5, .int v5), (6, .long v6), (8, .int v8)] d5_workFold_219 rfl (by rw [ex1]; rfl) (by decide) rfl ?_
        refine x_goto (tgt := 21) hX d5_workFold_222 (by decide) ?_
        refine x_sub [1, 2, 3, 4, 0] rfl ?_
        exact hk21 _ _ _ _ _ _ _ h
      · rw [if_neg hc] at h
        refine x_aload_n hX d5_workFold_206 rfl rfl ?_
        refine x_bipush (v := 64) hX d5_workFold_207 (by decide) ?_
        refine x_iload_n hX d5_workFold_209 rfl rfl ?_
        refine x_imul hX d5_workFold_210 ?_
        refine x_iload hX d5_workFold_211 rfl ?_
        refine x_iadd hX d5_workFold_213 ?_
        refine x_lload hX d5_workFold_214 rfl ?_
        obtain ⟨hg2, h⟩ := x_gd h
        obtain ⟨⟨I3, J4⟩, eb5, h⟩ := x_bd h
        dsimp only at h
        refine x_callV hX hR (c_m5_setRow (l := x_l X) (d := d + 0) eb5) kX5_115 kN5_setRow kE5_setRow xc5.1 hg2.1 hg2.2 rfl rfl (Nat.le_of_ble_eq_true rfl) ⟨Nat.le_refl 0, Nat.le_refl 0⟩ d5_workFold_216 (x_kkv ?_)
        obtain ⟨x6, ex6, h⟩ := x_le h
        refine x_iinc (j := 4) hX [(4, .int x6), (0, .ref (B + v0)), (1, .int v1), (2, .int v2), (3, .int v3), (5, .int v5), (6, .long v6), (8, .int v8)] d5_workFold_219 rfl (by rw [ex6]; rfl) (by decide) rfl ?_
        refine x_goto (tgt := 21) hX d5_workFold_222 (by decide) ?_
        refine x_sub [1, 2, 3, 4, 0] rfl ?_
        exact hk21 _ _ _ _ _ _ _ h
    · rw [if_neg hc] at h
      refine x_aload_n hX d5_workFold_44 rfl rfl ?_
      obtain ⟨hg7, h⟩ := x_gd h
      obtain ⟨q8, eq8, h⟩ := x_bd h
      refine x_getF (j := 6) hX xc5 hg7.1 hg7.2 (by decide) rfl eq8 kF5_26 d5_workFold_45 ?_
      refine x_iload_n hX d5_workFold_48 rfl rfl ?_
      refine x_iload hX d5_workFold_49 rfl ?_
      refine x_iadd hX d5_workFold_51 ?_
      obtain ⟨hg9, h⟩ := x_gd h
      refine x_zald hX hg9.1 (x_kd hg9.2.1) (x_in hg9.2.2) d5_workFold_52 ?_
      refine x_if_eq (tgt := 192) hX d5_workFold_53 (by decide) (fun hc => ?_) (fun hc => ?_)
      · rw [if_pos hc] at h
        refine x_iload hX d5_workFold_192 rfl ?_
        refine x_iload_n hX d5_workFold_194 rfl rfl ?_
        refine x_iadd hX d5_workFold_195 ?_
        obtain ⟨x10, ex10, h⟩ := x_le h
        refine x_eqi ex10.symm ?_
        refine x_istore hX [(8, .int x10), (0, .ref (B + v0)), (1, .int v1), (2, .int v2), (3, .int v3), (4, .int v4), (5, .int v5), (6, .long v6)] d5_workFold_196 (by decide) rfl ?_
        refine x_goto (tgt := 37) hX d5_workFold_198 (by decide) ?_
        refine x_sub [1, 2, 3, 4, 5, 6, 7, 0] rfl ?_
        exact ih _ _ _ _ _ _ _ _ _ _ h
      · rw [if_neg hc] at h
        refine x_aload_n hX d5_workFold_56 rfl rfl ?_
        obtain ⟨q11, eq11, h⟩ := x_bd h
        refine x_getF (j := 7) hX xc5 hg7.1 hg7.2 (by decide) rfl eq11 kF5_30 d5_workFold_57 ?_
        refine x_iload_n hX d5_workFold_60 rfl rfl ?_
        refine x_iload hX d5_workFold_61 rfl ?_
        refine x_iadd hX d5_workFold_63 ?_
        obtain ⟨hg12, h⟩ := x_gd h
        refine x_lald hX hg12.1 (x_kd hg12.2.1) (x_in hg12.2.2) d5_workFold_64 ?_
        obtain ⟨x13, ex13, h⟩ := x_le h
        refine x_eql ex13.symm ?_
        refine x_lstore hX [(9, .long x13), (0, .ref (B + v0)), (1, .int v1), (2, .int v2), (3, .int v3), (4, .int v4), (5, .int v5), (6, .long v6), (8, .int v8)] d5_workFold_65 (by decide) rfl ?_
        refine x_aload_n hX d5_workFold_67 rfl rfl ?_
        obtain ⟨q14, eq14, h⟩ := x_bd h
        refine x_getF (j := 4) hX xc5 hg7.1 hg7.2 (by decide) rfl eq14 kF5_19 d5_workFold_68 ?_
        refine x_iload_n hX d5_workFold_71 rfl rfl ?_
        obtain ⟨hg15, h⟩ := x_gd h
        refine x_lald hX hg15.1 (x_kd hg15.2.1) (x_in hg15.2.2) d5_workFold_72 ?_
        refine x_lconst (v := 0) hX d5_workFold_73 (by decide) ?_
        refine x_lif_ne (tgt := 87) hX d5_workFold_74 d5_workFold_75 (by decide) (fun hc => ?_) (fun hc => ?_)
        · rw [if_pos hc] at h
          refine x_aload_n hX d5_workFold_87 rfl rfl ?_
          refine x_getF (j := 4) hX xc5 hg7.1 hg7.2 (by decide) rfl eq14 kF5_19 d5_workFold_88 ?_
          refine x_iload_n hX d5_workFold_91 rfl rfl ?_
          refine x_lald hX hg15.1 (x_kd hg15.2.1) (x_in hg15.2.2) d5_workFold_92 ?_
          refine x_lconst (v := 1) hX d5_workFold_93 (by decide) ?_
          refine x_lif_ne (tgt := 108) hX d5_workFold_94 d5_workFold_95 (by decide) (fun hc => ?_) (fun hc => ?_)
          · rw [if_pos hc] at h
            refine x_aload_n hX d5_workFold_108 rfl rfl ?_
            refine x_getF (j := 4) hX xc5 hg7.1 hg7.2 (by decide) rfl eq14 kF5_19 d5_workFold_109 ?_
            refine x_iload_n hX d5_workFold_112 rfl rfl ?_
            refine x_lald hX hg15.1 (x_kd hg15.2.1) (x_in hg15.2.2) d5_workFold_113 ?_
            refine x_ldc2 (v := 2) hX kC5_111 d5_workFold_114 ?_
            refine x_lif_ne (tgt := 146) hX d5_workFold_117 d5_workFold_118 (by decide) (fun hc => ?_) (fun hc => ?_)
            · rw [if_pos hc] at h
              refine x_aload_n hX d5_workFold_146 rfl rfl ?_
              refine x_getF (j := 4) hX xc5 hg7.1 hg7.2 (by decide) rfl eq14 kF5_19 d5_workFold_147 ?_
              refine x_iload_n hX d5_workFold_150 rfl rfl ?_
              refine x_lald hX hg15.1 (x_kd hg15.2.1) (x_in hg15.2.2) d5_workFold_151 ?_
              refine x_ldc2 (v := 3) hX kC5_113 d5_workFold_152 ?_
              refine x_lif_ne (tgt := 184) hX d5_workFold_155 d5_workFold_156 (by decide) (fun hc => ?_) (fun hc => ?_)
              · rw [if_pos hc] at h
                refine x_iload hX d5_workFold_184 rfl ?_
                refine x_i2l hX d5_workFold_186 ?_
                obtain ⟨x16, ex16, h⟩ := x_le h
                refine x_eql ex16.symm ?_
                refine x_lstore hX [(6, .long x16), (9, .long x13), (0, .ref (B + v0)), (1, .int v1), (2, .int v2), (3, .int v3), (4, .int v4), (5, .int v5), (8, .int v8)] d5_workFold_187 (by decide) rfl ?_
                refine x_sub [2, 3, 4, 5, 6, 7, 0, 8] rfl ?_
                exact t_m5_workFold_B189 hX hR hr hk21 ih _ _ _ _ _ _ _ _ _ _ h
              · rw [if_neg (x_nn hc)] at h
                refine x_iload hX d5_workFold_159 rfl ?_
                refine x_if_eq (tgt := 172) hX d5_workFold_161 (by decide) (fun hc => ?_) (fun hc => ?_)
                · rw [if_pos hc] at h
                  refine x_sub [1, 2, 3, 4, 5, 6, 8, 0] rfl ?_
                  exact t_m5_workFold_B172 hX hR hr hk21 ih _ _ _ _ _ _ _ _ _ _ h
                · rw [if_neg hc] at h
                  refine x_lload hX d5_workFold_164 rfl ?_
                  refine x_lload hX d5_workFold_166 rfl ?_
                  refine x_lif_le (tgt := 177) hX d5_workFold_168 d5_workFold_169 (by decide) (fun hc => ?_) (fun hc => ?_)
                  · rw [if_pos hc] at h
                    refine x_lload hX d5_workFold_177 rfl ?_
                    refine x_sub [1, 2, 3, 4, 5, 6, 8] rfl ?_
                    exact t_m5_workFold_B179 hX hR hr hk21 ih _ _ _ _ _ _ _ _ _ _ h
                  · rw [if_neg hc] at h
                    refine x_sub [1, 2, 3, 4, 5, 6, 8, 0] rfl ?_
                    exact t_m5_workFold_B172 hX hR hr hk21 ih _ _ _ _ _ _ _ _ _ _ h
            · rw [if_neg (x_nn hc)] at h
              refine x_iload hX d5_workFold_121 rfl ?_
              refine x_if_eq (tgt := 134) hX d5_workFold_123 (by decide) (fun hc => ?_) (fun hc => ?_)
              · rw [if_pos hc] at h
                refine x_sub [1, 2, 3, 4, 5, 6, 8, 0] rfl ?_
                exact t_m5_workFold_B134 hX hR hr hk21 ih _ _ _ _ _ _ _ _ _ _ h
              · rw [if_neg hc] at h
                refine x_lload hX d5_workFold_126 rfl ?_
                refine x_lload hX d5_workFold_128 rfl ?_
                refine x_lif_ge (tgt := 139) hX d5_workFold_130 d5_workFold_131 (by decide) (fun hc => ?_) (fun hc => ?_)
                · rw [if_pos hc] at h
                  refine x_lload hX d5_workFold_139 rfl ?_
                  refine x_sub [1, 2, 3, 4, 5, 6, 8] rfl ?_
                  exact t_m5_workFold_B141 hX hR hr hk21 ih _ _ _ _ _ _ _ _ _ _ h
                · rw [if_neg hc] at h
                  refine x_sub [1, 2, 3, 4, 5, 6, 8, 0] rfl ?_
                  exact t_m5_workFold_B134 hX hR hr hk21 ih _ _ _ _ _ _ _ _ _ _ h
          · rw [if_neg (x_nn hc)] at h
            refine x_lload hX d5_workFold_98 rfl ?_
            refine x_lload hX d5_workFold_100 rfl ?_
            refine x_ladd hX d5_workFold_102 ?_
            obtain ⟨x17, ex17, h⟩ := x_le h
            refine x_eql ex17.symm ?_
            refine x_lstore hX [(6, .long x17), (9, .long x13), (0, .ref (B + v0)), (1, .int v1), (2, .int v2), (3, .int v3), (4, .int v4), (5, .int v5), (8, .int v8)] d5_workFold_103 (by decide) rfl ?_
            refine x_goto (tgt := 189) hX d5_workFold_105 (by decide) ?_
            refine x_sub [2, 3, 4, 5, 6, 7, 0, 8] rfl ?_
            exact t_m5_workFold_B189 hX hR hr hk21 ih _ _ _ _ _ _ _ _ _ _ h
        · rw [if_neg (x_nn hc)] at h
          refine x_lload hX d5_workFold_78 rfl ?_
          refine x_lconst (v := 1) hX d5_workFold_80 (by decide) ?_
          refine x_ladd hX d5_workFold_81 ?_
          obtain ⟨x18, ex18, h⟩ := x_le h
          refine x_eql ex18.symm ?_
          refine x_lstore hX [(6, .long x18), (9, .long x13), (0, .ref (B + v0)), (1, .int v1), (2, .int v2), (3, .int v3), (4, .int v4), (5, .int v5), (8, .int v8)] d5_workFold_82 (by decide) rfl ?_
          refine x_goto (tgt := 189) hX d5_workFold_84 (by decide) ?_
          refine x_sub [2, 3, 4, 5, 6, 7, 0, 8] rfl ?_
          exact t_m5_workFold_B189 hX hR hr hk21 ih _ _ _ _ _ _ _ _ _ _ h
set_option maxRecDepth 100000 in
set_option maxHeartbeats 4000000 in
theorem t_m5_workFold_L21 {X : xX} {B d : Nat} {g : xG} {N : Nat} {K : Nat → Nat × Nat} {F : Nat → Nat → Option Nat} {I' : (Nat → Nat → Int32)} {J' : (Nat → Nat → Int64)} (hX : xO X c5_workFold "ChangeRowsModel" 11 B g) (hR : x_R X = xrm (d + 1) 0 0) (hr : (x_meth X).sig.returnType = none) : ∀ (n : Nat) (I : (Nat → Nat → Int32)) (J : (Nat → Nat → Int64)) (v0 : Nat) (v1 : Int32) (v2 : Int32) (v3 : Int32) (v4 : Int32), m5_workFold_L21 N K F n I J v0 v1 v2 v3 v4 = some (I', J') → xV X B 11 (xZ X B 0 0 (xq none (xP g B N K I' J' F))) 0 0 (xP g B N K I J F) 21 [(0, .ref (B + v0)), (1, .int v1), (2, .int v2), (3, .int v3), (4, .int v4)] [] := by
  intro n
  induction n with
  | zero =>
    intro I J v0 v1 v2 v3 v4 h
    cases h
  | succ n ih =>
    intro I J v0 v1 v2 v3 v4 h
    rw [m5_workFold_L21] at h
    refine x_iload hX d5_workFold_21 rfl ?_
    refine x_iload_n hX d5_workFold_23 rfl rfl ?_
    refine x_icmp_ge (tgt := 225) hX d5_workFold_24 (by decide) (fun hc => ?_) (fun hc => ?_)
    · rw [if_pos hc] at h
      cases h
      exact x_vret hX hr d5_workFold_225 (fun H hP => ⟨rfl, hP⟩)
    · rw [if_neg hc] at h
      refine x_iconst (v := 0) hX d5_workFold_27 (by decide) ?_
      refine x_istore hX [(5, .int (0 : Int32)), (0, .ref (B + v0)), (1, .int v1), (2, .int v2), (3, .int v3), (4, .int v4)] d5_workFold_28 (by decide) rfl ?_
      refine x_lconst (v := 0) hX d5_workFold_30 (by decide) ?_
      refine x_lstore hX [(6, .long (0 : Int64)), (5, .int (0 : Int32)), (0, .ref (B + v0)), (1, .int v1), (2, .int v2), (3, .int v3), (4, .int v4)] d5_workFold_31 (by decide) rfl ?_
      refine x_iload hX d5_workFold_33 rfl ?_
      refine x_istore hX [(8, .int v4), (6, .long (0 : Int64)), (5, .int (0 : Int32)), (0, .ref (B + v0)), (1, .int v1), (2, .int v2), (3, .int v3), (4, .int v4)] d5_workFold_35 (by decide) rfl ?_
      refine x_sub [3, 4, 5, 6, 7, 2, 1, 0] rfl ?_
      exact t_m5_workFold_L37 hX hR hr ih _ _ _ _ _ _ _ _ _ _ _ h
set_option maxRecDepth 100000 in
set_option maxHeartbeats 4000000 in
theorem c_m5_workFold {l : Launch} {B d : Nat} {g : xG} {N : Nat} {K : Nat → Nat × Nat} {F : Nat → Nat → Option Nat} {I : (Nat → Nat → Int32)} {J : (Nat → Nat → Int64)} {a0 : Nat} {a1 : Int32} {I' : (Nat → Nat → Int32)} {J' : (Nat → Nat → Int64)} (h : m5_workFold N K F I J a0 a1 = some (I', J')) : xC l g B (d + 1) 0 0 y5_workFold c5_workFold 11 none [.ref (B + a0), .int a1] (xP g B N K I J F) (xq none (xP g B N K I' J' F)) := by
  refine xC_of (by decide) (Nat.le_of_ble_eq_true rfl) (fun X hl hR hr _ hX => ?_)
  refine x_sub (L' := [(0, .ref (B + a0)), (1, .int a1)]) [0, 1] rfl ?_
  unfold m5_workFold at h
  refine x_aload_n hX d5_workFold_0 rfl rfl ?_
  obtain ⟨hg1, h⟩ := x_gd h
  obtain ⟨q2, eq2, h⟩ := x_bd h
  refine x_getF (j := 5) hX xc5 hg1.1 hg1.2 (by decide) rfl eq2 kF5_23 d5_workFold_1 ?_
  refine x_iload_n hX d5_workFold_4 rfl rfl ?_
  obtain ⟨hg3, h⟩ := x_gd h
  refine x_lald hX hg3.1 (x_kd hg3.2.1) (x_in hg3.2.2) d5_workFold_5 ?_
  refine x_l2i hX d5_workFold_6 ?_
  obtain ⟨x4, ex4, h⟩ := x_le h
  refine x_eqi ex4.symm ?_
  refine x_istore_n hX [(2, .int x4), (0, .ref (B + a0)), (1, .int a1)] d5_workFold_7 rfl (by decide) rfl ?_
  refine x_bipush (v := 64) hX d5_workFold_8 (by decide) ?_
  refine x_aload_n hX d5_workFold_10 rfl rfl ?_
  obtain ⟨q5, eq5, h⟩ := x_bd h
  refine x_getF (j := 2) hX xc5 hg1.1 hg1.2 (by decide) rfl eq5 kF5_13 d5_workFold_11 ?_
  refine x_iload_n hX d5_workFold_14 rfl rfl ?_
  obtain ⟨hg6, h⟩ := x_gd h
  refine x_iald hX hg6.1 (x_kd hg6.2.1) (x_in hg6.2.2) d5_workFold_15 ?_
  refine x_imul hX d5_workFold_16 ?_
  obtain ⟨x7, ex7, h⟩ := x_le h
  refine x_eqi ex7.symm ?_
  refine x_istore_n hX [(3, .int x7), (2, .int x4), (0, .ref (B + a0)), (1, .int a1)] d5_workFold_17 rfl (by decide) rfl ?_
  refine x_iconst (v := 0) hX d5_workFold_18 (by decide) ?_
  refine x_istore hX [(4, .int (0 : Int32)), (3, .int x7), (2, .int x4), (0, .ref (B + a0)), (1, .int a1)] d5_workFold_19 (by decide) rfl ?_
  refine x_sub [3, 4, 2, 1, 0] rfl ?_
  exact t_m5_workFold_L21 hX hR hr _ _ _ _ _ _ _ _ h

def m5_isBest_B70 (N : Nat) (K : Nat → Nat × Nat) (F : Nat → Nat → Option Nat) (I : (Nat → Nat → Int32)) (J : (Nat → Nat → Int64)) (k6 : Nat → Int32 → Int32 → Int64 → Int64 → Int32 → Option (Int32)) (v0 : Nat) (v1 : Int32) (v2 : Int32) (v3 : Int64) (v7 : Int32) (w0 : Int64) : Option (Int32) :=
  xlet ((w0 + (1 : Int64))) fun x1 => xlet (v7 + (1 : Int32)) fun x2 => k6 v0 v1 v2 v3 x1 x2
def m5_isBest_L6 (N : Nat) (K : Nat → Nat × Nat) (F : Nat → Nat → Option Nat) (I : (Nat → Nat → Int32)) (J : (Nat → Nat → Int64)) : Nat → Nat → Int32 → Int32 → Int64 → Int64 → Int32 → Option (Int32)
  | 0, _, _, _, _, _, _ => none
  | n + 1, v0, v1, v2, v3, v5, v7 => if (64 : Int32) ≤ v7 then (if v3 ≤ v5 then (some (0 : Int32)) else (some (1 : Int32))) else (if v0 < N ∧ K v0 = (0, 5) then (xb (F v0 7) fun q2 => if q2 < N ∧ (K q2).1 = 2 ∧ xinb (v1 + v7) (K q2).2 then (xlet ((J q2 ((v1 + v7).toNatClampNeg))) fun x4 => if q2 < N ∧ (K q2).1 = 2 ∧ xinb (v1 + v2) (K q2).2 then (xlet ((J q2 ((v1 + v2).toNatClampNeg))) fun x6 => xb (F v0 6) fun q7 => if q7 < N ∧ (K q7).1 = 3 ∧ xinb (v1 + v7) (K q7).2 then (if (I q7 ((v1 + v7).toNatClampNeg)) = 0 then (xlet ((v5 + (0 : Int64))) fun x9 => xlet (v7 + (1 : Int32)) fun x10 => m5_isBest_L6 N K F I J n v0 v1 v2 v3 x9 x10) else (if x6 < x4 then (m5_isBest_B70 N K F I J (m5_isBest_L6 N K F I J n) v0 v1 v2 v3 v7 v5) else (if ¬ x4 = x6 then (xlet ((v5 + (0 : Int64))) fun x11 => xlet (v7 + (1 : Int32)) fun x12 => m5_isBest_L6 N K F I J n v0 v1 v2 v3 x11 x12) else (if v2 ≤ v7 then (xlet ((v5 + (0 : Int64))) fun x13 => xlet (v7 + (1 : Int32)) fun x14 => m5_isBest_L6 N K F I J n v0 v1 v2 v3 x13 x14) else (m5_isBest_B70 N K F I J (m5_isBest_L6 N K F I J n) v0 v1 v2 v3 v7 v5))))) else none) else none) else none) else none)
def m5_isBest (N : Nat) (K : Nat → Nat × Nat) (F : Nat → Nat → Option Nat) (I : (Nat → Nat → Int32)) (J : (Nat → Nat → Int64)) (a0 : Nat) (a1 : Int32) (a2 : Int32) (a3 : Int64) : Option (Int32) :=
  m5_isBest_L6 N K F I J xFu a0 a1 a2 a3 (0 : Int64) (0 : Int32)
set_option maxRecDepth 100000 in
set_option maxHeartbeats 4000000 in
theorem t_m5_isBest_B70 {X : xX} {B d : Nat} {g : xG} {N : Nat} {K : Nat → Nat × Nat} {F : Nat → Nat → Option Nat} {I : (Nat → Nat → Int32)} {J : (Nat → Nat → Int64)} {rv : Int32} {k6 : Nat → Int32 → Int32 → Int64 → Int64 → Int32 → Option (Int32)} (hX : xO X c5_isBest "ChangeRowsModel" 12 B g) (hR : x_R X = xrm (d + 0) 0 0) (hr : (x_meth X).sig.returnType = (some .boolean)) (hk6 : ∀ (v0 : Nat) (v1 : Int32) (v2 : Int32) (v3 : Int64) (v5 : Int64) (v7 : Int32), k6 v0 v1 v2 v3 v5 v7 = some rv → xV X B 12 (xZ X B 0 0 (xq (some (.int rv)) (xP g B N K I J F))) 0 0 (xP g B N K I J F) 6 [(0, .ref (B + v0)), (1, .int v1), (2, .int v2), (3, .long v3), (5, .long v5), (7, .int v7)] []) (v0 : Nat) (v1 : Int32) (v2 : Int32) (v3 : Int64) (v7 : Int32) (w0 : Int64) (h : m5_isBest_B70 N K F I J k6 v0 v1 v2 v3 v7 w0 = some rv) : xV X B 12 (xZ X B 0 0 (xq (some (.int rv)) (xP g B N K I J F))) 0 0 (xP g B N K I J F) 70 [(0, .ref (B + v0)), (1, .int v1), (2, .int v2), (3, .long v3), (7, .int v7)] [.long w0] := by
  unfold m5_isBest_B70 at h
  refine x_lconst (v := 1) hX d5_isBest_70 (by decide) ?_
  refine x_goto (tgt := 75) hX d5_isBest_71 (by decide) ?_
  refine x_ladd hX d5_isBest_75 ?_
  obtain ⟨x1, ex1, h⟩ := x_le h
  refine x_eql ex1.symm ?_
  refine x_lstore hX [(5, .long x1), (0, .ref (B + v0)), (1, .int v1), (2, .int v2), (3, .long v3), (7, .int v7)] d5_isBest_76 (by decide) rfl ?_
  obtain ⟨x2, ex2, h⟩ := x_le h
  refine x_iinc (j := 5) hX [(7, .int x2), (5, .long x1), (0, .ref (B + v0)), (1, .int v1), (2, .int v2), (3, .long v3)] d5_isBest_78 rfl (by rw [ex2]; rfl) (by decide) rfl ?_
  refine x_goto (tgt := 6) hX d5_isBest_81 (by decide) ?_
  refine x_sub [2, 3, 4, 5, 1, 0] rfl ?_
  exact hk6 _ _ _ _ _ _ h
set_option maxRecDepth 100000 in
set_option maxHeartbeats 4000000 in
theorem t_m5_isBest_L6 {X : xX} {B d : Nat} {g : xG} {N : Nat} {K : Nat → Nat × Nat} {F : Nat → Nat → Option Nat} {I : (Nat → Nat → Int32)} {J : (Nat → Nat → Int64)} {rv : Int32} (hX : xO X c5_isBest "ChangeRowsModel" 12 B g) (hR : x_R X = xrm (d + 0) 0 0) (hr : (x_meth X).sig.returnType = (some .boolean)) : ∀ (n : Nat) (v0 : Nat) (v1 : Int32) (v2 : Int32) (v3 : Int64) (v5 : Int64) (v7 : Int32), m5_isBest_L6 N K F I J n v0 v1 v2 v3 v5 v7 = some rv → xV X B 12 (xZ X B 0 0 (xq (some (.int rv)) (xP g B N K I J F))) 0 0 (xP g B N K I J F) 6 [(0, .ref (B + v0)), (1, .int v1), (2, .int v2), (3, .long v3), (5, .long v5), (7, .int v7)] [] := by
  intro n
  induction n with
  | zero =>
    intro v0 v1 v2 v3 v5 v7 h
    cases h
  | succ n ih =>
    intro v0 v1 v2 v3 v5 v7 h
    rw [m5_isBest_L6] at h
    refine x_iload hX d5_isBest_6 rfl ?_
    refine x_bipush (v := 64) hX d5_isBest_8 (by decide) ?_
    refine x_icmp_ge (tgt := 84) hX d5_isBest_10 (by decide) (fun hc => ?_) (fun hc => ?_)
    · rw [if_pos hc] at h
      refine x_lload hX d5_isBest_84 rfl ?_
      refine x_lload_n hX d5_isBest_86 rfl rfl ?_
      refine x_lif_ge (tgt := 95) hX d5_isBest_87 d5_isBest_88 (by decide) (fun hc => ?_) (fun hc => ?_)
      · rw [if_pos hc] at h
        refine x_iconst (v := 0) hX d5_isBest_95 (by decide) ?_
        cases h
        exact x_zret hX hr rfl d5_isBest_96 (fun H hP => ⟨rfl, hP⟩)
      · rw [if_neg hc] at h
        refine x_iconst (v := 1) hX d5_isBest_91 (by decide) ?_
        refine x_goto (tgt := 96) hX d5_isBest_92 (by decide) ?_
        cases h
        exact x_zret hX hr rfl d5_isBest_96 (fun H hP => ⟨rfl, hP⟩)
    · rw [if_neg hc] at h
      refine x_aload_n hX d5_isBest_13 rfl rfl ?_
      obtain ⟨hg1, h⟩ := x_gd h
      obtain ⟨q2, eq2, h⟩ := x_bd h
      refine x_getF (j := 7) hX xc5 hg1.1 hg1.2 (by decide) rfl eq2 kF5_30 d5_isBest_14 ?_
      refine x_iload_n hX d5_isBest_17 rfl rfl ?_
      refine x_iload hX d5_isBest_18 rfl ?_
      refine x_iadd hX d5_isBest_20 ?_
      obtain ⟨hg3, h⟩ := x_gd h
      refine x_lald hX hg3.1 (x_kd hg3.2.1) (x_in hg3.2.2) d5_isBest_21 ?_
      obtain ⟨x4, ex4, h⟩ := x_le h
      refine x_eql ex4.symm ?_
      refine x_lstore hX [(8, .long x4), (0, .ref (B + v0)), (1, .int v1), (2, .int v2), (3, .long v3), (5, .long v5), (7, .int v7)] d5_isBest_22 (by decide) rfl ?_
      refine x_aload_n hX d5_isBest_24 rfl rfl ?_
      refine x_getF (j := 7) hX xc5 hg1.1 hg1.2 (by decide) rfl eq2 kF5_30 d5_isBest_25 ?_
      refine x_iload_n hX d5_isBest_28 rfl rfl ?_
      refine x_iload_n hX d5_isBest_29 rfl rfl ?_
      refine x_iadd hX d5_isBest_30 ?_
      obtain ⟨hg5, h⟩ := x_gd h
      refine x_lald hX hg5.1 (x_kd hg5.2.1) (x_in hg5.2.2) d5_isBest_31 ?_
      obtain ⟨x6, ex6, h⟩ := x_le h
      refine x_eql ex6.symm ?_
      refine x_lstore hX [(10, .long x6), (8, .long x4), (0, .ref (B + v0)), (1, .int v1), (2, .int v2), (3, .long v3), (5, .long v5), (7, .int v7)] d5_isBest_32 (by decide) rfl ?_
      refine x_lload hX d5_isBest_34 rfl ?_
      refine x_aload_n hX d5_isBest_36 rfl rfl ?_
      obtain ⟨q7, eq7, h⟩ := x_bd h
      refine x_getF (j := 6) hX xc5 hg1.1 hg1.2 (by decide) rfl eq7 kF5_26 d5_isBest_37 ?_
      refine x_iload_n hX d5_isBest_40 rfl rfl ?_
      refine x_iload hX d5_isBest_41 rfl ?_
      refine x_iadd hX d5_isBest_43 ?_
      obtain ⟨hg8, h⟩ := x_gd h
      refine x_zald hX hg8.1 (x_kd hg8.2.1) (x_in hg8.2.2) d5_isBest_44 ?_
      refine x_if_eq (tgt := 74) hX d5_isBest_45 (by decide) (fun hc => ?_) (fun hc => ?_)
      · rw [if_pos hc] at h
        refine x_lconst (v := 0) hX d5_isBest_74 (by decide) ?_
        refine x_ladd hX d5_isBest_75 ?_
        obtain ⟨x9, ex9, h⟩ := x_le h
        refine x_eql ex9.symm ?_
        refine x_lstore hX [(5, .long x9), (10, .long x6), (8, .long x4), (0, .ref (B + v0)), (1, .int v1), (2, .int v2), (3, .long v3), (7, .int v7)] d5_isBest_76 (by decide) rfl ?_
        obtain ⟨x10, ex10, h⟩ := x_le h
        refine x_iinc (j := 7) hX [(7, .int x10), (5, .long x9), (10, .long x6), (8, .long x4), (0, .ref (B + v0)), (1, .int v1), (2, .int v2), (3, .long v3)] d5_isBest_78 rfl (by rw [ex10]; rfl) (by decide) rfl ?_
        refine x_goto (tgt := 6) hX d5_isBest_81 (by decide) ?_
        refine x_sub [4, 5, 6, 7, 1, 0] rfl ?_
        exact ih _ _ _ _ _ _ h
      · rw [if_neg hc] at h
        refine x_lload hX d5_isBest_48 rfl ?_
        refine x_lload hX d5_isBest_50 rfl ?_
        refine x_lif_gt (tgt := 70) hX d5_isBest_52 d5_isBest_53 (by decide) (fun hc => ?_) (fun hc => ?_)
        · rw [if_pos hc] at h
          refine x_sub [2, 3, 4, 5, 7] rfl ?_
          exact t_m5_isBest_B70 hX hR hr ih _ _ _ _ _ _ h
        · rw [if_neg hc] at h
          refine x_lload hX d5_isBest_56 rfl ?_
          refine x_lload hX d5_isBest_58 rfl ?_
          refine x_lif_ne (tgt := 74) hX d5_isBest_60 d5_isBest_61 (by decide) (fun hc => ?_) (fun hc => ?_)
          · rw [if_pos hc] at h
            refine x_lconst (v := 0) hX d5_isBest_74 (by decide) ?_
            refine x_ladd hX d5_isBest_75 ?_
            obtain ⟨x11, ex11, h⟩ := x_le h
            refine x_eql ex11.symm ?_
            refine x_lstore hX [(5, .long x11), (10, .long x6), (8, .long x4), (0, .ref (B + v0)), (1, .int v1), (2, .int v2), (3, .long v3), (7, .int v7)] d5_isBest_76 (by decide) rfl ?_
            obtain ⟨x12, ex12, h⟩ := x_le h
            refine x_iinc (j := 7) hX [(7, .int x12), (5, .long x11), (10, .long x6), (8, .long x4), (0, .ref (B + v0)), (1, .int v1), (2, .int v2), (3, .long v3)] d5_isBest_78 rfl (by rw [ex12]; rfl) (by decide) rfl ?_
            refine x_goto (tgt := 6) hX d5_isBest_81 (by decide) ?_
            refine x_sub [4, 5, 6, 7, 1, 0] rfl ?_
            exact ih _ _ _ _ _ _ h
          · rw [if_neg (x_nn hc)] at h
            refine x_iload hX d5_isBest_64 rfl ?_
            refine x_iload_n hX d5_isBest_66 rfl rfl ?_
            refine x_icmp_ge (tgt := 74) hX d5_isBest_67 (by decide) (fun hc => ?_) (fun hc => ?_)
            · rw [if_pos hc] at h
              refine x_lconst (v := 0) hX d5_isBest_74 (by decide) ?_
              refine x_ladd hX d5_isBest_75 ?_
              obtain ⟨x13, ex13, h⟩ := x_le h
              refine x_eql ex13.symm ?_
              refine x_lstore hX [(5, .long x13), (10, .long x6), (8, .long x4), (0, .ref (B + v0)), (1, .int v1), (2, .int v2), (3, .long v3), (7, .int v7)] d5_isBest_76 (by decide) rfl ?_
              obtain ⟨x14, ex14, h⟩ := x_le h
              refine x_iinc (j := 7) hX [(7, .int x14), (5, .long x13), (10, .long x6), (8, .long x4), (0, .ref (B + v0)), (1, .int v1), (2, .int v2), (3, .long v3)] d5_isBest_78 rfl (by rw [ex14]; rfl) (by decide) rfl ?_
              refine x_goto (tgt := 6) hX d5_isBest_81 (by decide) ?_
              refine x_sub [4, 5, 6, 7, 1, 0] rfl ?_
              exact ih _ _ _ _ _ _ h
            · rw [if_neg hc] at h
              refine x_sub [2, 3, 4, 5, 7] rfl ?_
              exact t_m5_isBest_B70 hX hR hr ih _ _ _ _ _ _ h
set_option maxRecDepth 100000 in
set_option maxHeartbeats 4000000 in
theorem c_m5_isBest {l : Launch} {B d : Nat} {g : xG} {N : Nat} {K : Nat → Nat × Nat} {F : Nat → Nat → Option Nat} {I : (Nat → Nat → Int32)} {J : (Nat → Nat → Int64)} {a0 : Nat} {a1 : Int32} {a2 : Int32} {a3 : Int64} {rv : Int32} (h : m5_isBest N K F I J a0 a1 a2 a3 = some rv) : xC l g B (d + 0) 0 0 y5_isBest c5_isBest 12 (some .boolean) [.ref (B + a0), .int a1, .int a2, .long a3] (xP g B N K I J F) (xq (some (.int rv)) (xP g B N K I J F)) := by
  refine xC_of (by decide) (Nat.le_of_ble_eq_true rfl) (fun X hl hR hr _ hX => ?_)
  refine x_sub (L' := [(0, .ref (B + a0)), (1, .int a1), (2, .int a2), (3, .long a3)]) [0, 1, 2, 3] rfl ?_
  unfold m5_isBest at h
  refine x_lconst (v := 0) hX d5_isBest_0 (by decide) ?_
  refine x_lstore hX [(5, .long (0 : Int64)), (0, .ref (B + a0)), (1, .int a1), (2, .int a2), (3, .long a3)] d5_isBest_1 (by decide) rfl ?_
  refine x_iconst (v := 0) hX d5_isBest_3 (by decide) ?_
  refine x_istore hX [(7, .int (0 : Int32)), (5, .long (0 : Int64)), (0, .ref (B + a0)), (1, .int a1), (2, .int a2), (3, .long a3)] d5_isBest_4 (by decide) rfl ?_
  refine x_sub [2, 3, 4, 5, 1, 0] rfl ?_
  exact t_m5_isBest_L6 hX hR hr _ _ _ _ _ _ _ h

def m5_workRow (N : Nat) (K : Nat → Nat × Nat) (F : Nat → Nat → Option Nat) (I : (Nat → Nat → Int32)) (J : (Nat → Nat → Int64)) (a0 : Nat) (a1 : Int32) (a2 : Int32) (a3 : Int64) (a4 : Int32) (a5 : Int32) (a6 : Int32) : Option ((Nat → Nat → Int32) × (Nat → Nat → Int64)) :=
  if a0 < N ∧ K a0 = (0, 5) then (xb (F a0 1) fun q2 => if q2 < N ∧ (K q2).1 = 1 ∧ xinb a1 (K q2).2 then (if (I q2 (a1.toNatClampNeg)) = 1 then (xb (F a0 4) fun q4 => if q4 < N ∧ (K q4).1 = 2 ∧ xinb a1 (K q4).2 then (xb (F a0 5) fun q6 => if q6 < N ∧ (K q6).1 = 2 ∧ xinb a1 (K q6).2 then (xb (m5_isIn N K F I J a3 (J q4 (a1.toNatClampNeg)) (J q6 (a1.toNatClampNeg))) fun x8 => if x8 = 0 then (some (I, J)) else (xb (m5_setRow N K F I J a0 (a6 + a2) a3) fun (I10, J11) => some (I10, J11))) else none) else none) else (if (I q2 (a1.toNatClampNeg)) = 2 then (xb (F a0 4) fun q13 => if q13 < N ∧ (K q13).1 = 2 ∧ xinb a1 (K q13).2 then (xb (F a0 5) fun q15 => if q15 < N ∧ (K q15).1 = 2 ∧ xinb a1 (K q15).2 then (xb (m5_setRow N K F I J a0 (a6 + a2) (((J q13 (a1.toNatClampNeg)) * a3) + (J q15 (a1.toNatClampNeg)))) fun (I17, J18) => some (I17, J18)) else none) else none) else (if (I q2 (a1.toNatClampNeg)) = 3 then (xlet (((a3 &&& (63 : Int64)).toInt32)) fun x20 => xb (F a0 6) fun q21 => if q21 < N ∧ (K q21).1 = 3 ∧ xinb (a5 + x20) (K q21).2 then (if (I q21 ((a5 + x20).toNatClampNeg)) = 0 then (some (I, J)) else (xb (F a0 7) fun q23 => if q23 < N ∧ (K q23).1 = 2 ∧ xinb (a5 + x20) (K q23).2 then (xb (m5_setRow N K F I J a0 (a6 + a2) (J q23 ((a5 + x20).toNatClampNeg))) fun (I25, J26) => some (I25, J26)) else none)) else none) else (if (I q2 (a1.toNatClampNeg)) = 4 then (xb (F a0 6) fun q28 => if q28 < N ∧ (K q28).1 = 3 ∧ xinb (a5 + a2) (K q28).2 then (if (I q28 ((a5 + a2).toNatClampNeg)) = 0 then (xb (F a0 4) fun q30 => if q30 < N ∧ (K q30).1 = 2 ∧ xinb a1 (K q30).2 then (if ¬ (J q30 (a1.toNatClampNeg)) = (1 : Int64) then (some (I, J)) else (xb (m5_setRow N K F I J a0 (a6 + a2) a3) fun (I32, J33) => some (I32, J33))) else none) else (xb (F a0 7) fun q35 => if q35 < N ∧ (K q35).1 = 2 ∧ xinb (a5 + a2) (K q35).2 then (xb (m5_setRow N K F I J a0 (a6 + a2) (a3 + (J q35 ((a5 + a2).toNatClampNeg)))) fun (I37, J38) => some (I37, J38)) else none)) else none) else (if (I q2 (a1.toNatClampNeg)) = 5 then (xlet (((a3 &&& (63 : Int64)).toInt32)) fun x40 => xb (F a0 6) fun q41 => if q41 < N ∧ (K q41).1 = 3 ∧ xinb (a5 + x40) (K q41).2 then (if (I q41 ((a5 + x40).toNatClampNeg)) = 0 then (some (I, J)) else (xb (F a0 7) fun q43 => if q43 < N ∧ (K q43).1 = 2 ∧ xinb (a5 + x40) (K q43).2 then (xb (m5_setRow N K F I J a0 (a6 + a2) (J q43 ((a5 + x40).toNatClampNeg))) fun (I45, J46) => some (I45, J46)) else none)) else none) else (if (I q2 (a1.toNatClampNeg)) = 6 then (xb (F a0 4) fun q48 => if q48 < N ∧ (K q48).1 = 2 ∧ xinb a1 (K q48).2 then (xb (m5_isBest N K F I J a0 a4 a2 (J q48 (a1.toNatClampNeg))) fun x50 => if x50 = 0 then (some (I, J)) else (xb (m5_setRow N K F I J a0 (a6 + a2) a3) fun (I52, J53) => some (I52, J53))) else none) else (xlet (((a3 &&& (63 : Int64)).toInt32)) fun x55 => xb (F a0 6) fun q56 => if q56 < N ∧ (K q56).1 = 3 ∧ xinb (a5 + x55) (K q56).2 then (if (I q56 ((a5 + x55).toNatClampNeg)) = 0 then (some (I, J)) else (xb (F a0 7) fun q58 => if q58 < N ∧ (K q58).1 = 2 ∧ xinb (a5 + x55) (K q58).2 then (xb (m5_setRow N K F I J a0 (a6 + a2) (J q58 ((a5 + x55).toNatClampNeg))) fun (I60, J61) => some (I60, J61)) else none)) else none))))))) else none) else none
set_option maxRecDepth 100000 in
set_option maxHeartbeats 4000000 in
theorem c_m5_workRow {l : Launch} {B d : Nat} {g : xG} {N : Nat} {K : Nat → Nat × Nat} {F : Nat → Nat → Option Nat} {I : (Nat → Nat → Int32)} {J : (Nat → Nat → Int64)} {a0 : Nat} {a1 : Int32} {a2 : Int32} {a3 : Int64} {a4 : Int32} {a5 : Int32} {a6 : Int32} {I' : (Nat → Nat → Int32)} {J' : (Nat → Nat → Int64)} (h : m5_workRow N K F I J a0 a1 a2 a3 a4 a5 a6 = some (I', J')) : xC l g B (d + 1) 0 0 y5_workRow c5_workRow 9 none [.ref (B + a0), .int a1, .int a2, .long a3, .int a4, .int a5, .int a6] (xP g B N K I J F) (xq none (xP g B N K I' J' F)) := by
  refine xC_of (by decide) (Nat.le_of_ble_eq_true rfl) (fun X hl hR hr _ hX => ?_)
  refine x_sub (L' := [(0, .ref (B + a0)), (1, .int a1), (2, .int a2), (3, .long a3), (5, .int a4), (6, .int a5), (7, .int a6)]) [0, 1, 2, 3, 4, 5, 6] rfl ?_
  unfold m5_workRow at h
  refine x_aload_n hX d5_workRow_0 rfl rfl ?_
  obtain ⟨hg1, h⟩ := x_gd h
  obtain ⟨q2, eq2, h⟩ := x_bd h
  refine x_getF (j := 1) hX xc5 hg1.1 hg1.2 (by decide) rfl eq2 kF5_7 d5_workRow_1 ?_
  refine x_iload_n hX d5_workRow_4 rfl rfl ?_
  obtain ⟨hg3, h⟩ := x_gd h
  refine x_iald hX hg3.1 (x_kd hg3.2.1) (x_in hg3.2.2) d5_workRow_5 ?_
  by_cases hs1001 : (I q2 (a1.toNatClampNeg)) = 1
  · rw [if_pos hs1001] at h
    refine x_tableIn (off := 38) (tgt := 44) hX d5_workRow_6 (by rw [hs1001]; decide) (by rw [hs1001]; decide) (by rw [hs1001]; rfl) (by decide) ?_
    refine x_lload_n hX d5_workRow_44 rfl rfl ?_
    refine x_aload_n hX d5_workRow_45 rfl rfl ?_
    obtain ⟨q4, eq4, h⟩ := x_bd h
    refine x_getF (j := 4) hX xc5 hg1.1 hg1.2 (by decide) rfl eq4 kF5_19 d5_workRow_46 ?_
    refine x_iload_n hX d5_workRow_49 rfl rfl ?_
    obtain ⟨hg5, h⟩ := x_gd h
    refine x_lald hX hg5.1 (x_kd hg5.2.1) (x_in hg5.2.2) d5_workRow_50 ?_
    refine x_aload_n hX d5_workRow_51 rfl rfl ?_
    obtain ⟨q6, eq6, h⟩ := x_bd h
    refine x_getF (j := 5) hX xc5 hg1.1 hg1.2 (by decide) rfl eq6 kF5_23 d5_workRow_52 ?_
    refine x_iload_n hX d5_workRow_55 rfl rfl ?_
    obtain ⟨hg7, h⟩ := x_gd h
    refine x_lald hX hg7.1 (x_kd hg7.2.1) (x_in hg7.2.2) d5_workRow_56 ?_
    obtain ⟨x8, eb9, h⟩ := x_bd h
    refine x_callS hX hR (c_m5_isIn (l := x_l X) (d := d + 0) eb9) kX5_107 kS5_isIn rfl rfl (Nat.le_of_ble_eq_true rfl) ⟨Nat.le_refl 0, Nat.le_refl 0⟩ d5_workRow_57 (x_kki ?_)
    refine x_if_eq (tgt := 225) hX d5_workRow_60 (by decide) (fun hc => ?_) (fun hc => ?_)
    · rw [if_pos hc] at h
      cases h
      exact x_vret hX hr d5_workRow_225 (fun H hP => ⟨rfl, hP⟩)
    · rw [if_neg hc] at h
      refine x_aload_n hX d5_workRow_63 rfl rfl ?_
      refine x_iload hX d5_workRow_64 rfl ?_
      refine x_iload_n hX d5_workRow_66 rfl rfl ?_
      refine x_iadd hX d5_workRow_67 ?_
      refine x_lload_n hX d5_workRow_68 rfl rfl ?_
      obtain ⟨⟨I10, J11⟩, eb12, h⟩ := x_bd h
      dsimp only at h
      refine x_callV hX hR (c_m5_setRow (l := x_l X) (d := d + 0) eb12) kX5_115 kN5_setRow kE5_setRow xc5.1 hg1.1 hg1.2 rfl rfl (Nat.le_of_ble_eq_true rfl) ⟨Nat.le_refl 0, Nat.le_refl 0⟩ d5_workRow_69 (x_kkv ?_)
      refine x_goto (tgt := 225) hX d5_workRow_72 (by decide) ?_
      cases h
      exact x_vret hX hr d5_workRow_225 (fun H hP => ⟨rfl, hP⟩)
  · rw [if_neg hs1001] at h
    by_cases hs1002 : (I q2 (a1.toNatClampNeg)) = 2
    · rw [if_pos hs1002] at h
      refine x_tableIn (off := 69) (tgt := 75) hX d5_workRow_6 (by rw [hs1002]; decide) (by rw [hs1002]; decide) (by rw [hs1002]; rfl) (by decide) ?_
      refine x_aload_n hX d5_workRow_75 rfl rfl ?_
      refine x_iload hX d5_workRow_76 rfl ?_
      refine x_iload_n hX d5_workRow_78 rfl rfl ?_
      refine x_iadd hX d5_workRow_79 ?_
      refine x_aload_n hX d5_workRow_80 rfl rfl ?_
      obtain ⟨q13, eq13, h⟩ := x_bd h
      refine x_getF (j := 4) hX xc5 hg1.1 hg1.2 (by decide) rfl eq13 kF5_19 d5_workRow_81 ?_
      refine x_iload_n hX d5_workRow_84 rfl rfl ?_
      obtain ⟨hg14, h⟩ := x_gd h
      refine x_lald hX hg14.1 (x_kd hg14.2.1) (x_in hg14.2.2) d5_workRow_85 ?_
      refine x_lload_n hX d5_workRow_86 rfl rfl ?_
      refine x_lmul hX d5_workRow_87 ?_
      refine x_aload_n hX d5_workRow_88 rfl rfl ?_
      obtain ⟨q15, eq15, h⟩ := x_bd h
      refine x_getF (j := 5) hX xc5 hg1.1 hg1.2 (by decide) rfl eq15 kF5_23 d5_workRow_89 ?_
      refine x_iload_n hX d5_workRow_92 rfl rfl ?_
      obtain ⟨hg16, h⟩ := x_gd h
      refine x_lald hX hg16.1 (x_kd hg16.2.1) (x_in hg16.2.2) d5_workRow_93 ?_
      refine x_ladd hX d5_workRow_94 ?_
      obtain ⟨⟨I17, J18⟩, eb19, h⟩ := x_bd h
      dsimp only at h
      refine x_callV hX hR (c_m5_setRow (l := x_l X) (d := d + 0) eb19) kX5_115 kN5_setRow kE5_setRow xc5.1 hg1.1 hg1.2 rfl rfl (Nat.le_of_ble_eq_true rfl) ⟨Nat.le_refl 0, Nat.le_refl 0⟩ d5_workRow_95 (x_kkv ?_)
      refine x_goto (tgt := 225) hX d5_workRow_98 (by decide) ?_
      cases h
      exact x_vret hX hr d5_workRow_225 (fun H hP => ⟨rfl, hP⟩)
    · rw [if_neg hs1002] at h
      by_cases hs1003 : (I q2 (a1.toNatClampNeg)) = 3
      · rw [if_pos hs1003] at h
        refine x_tableIn (off := 180) (tgt := 186) hX d5_workRow_6 (by rw [hs1003]; decide) (by rw [hs1003]; decide) (by rw [hs1003]; rfl) (by decide) ?_
        refine x_lload_n hX d5_workRow_186 rfl rfl ?_
        refine x_ldc2 (v := 63) hX kC5_134 d5_workRow_187 ?_
        refine x_land hX d5_workRow_190 ?_
        refine x_l2i hX d5_workRow_191 ?_
        obtain ⟨x20, ex20, h⟩ := x_le h
        refine x_eqi ex20.symm ?_
        refine x_istore hX [(8, .int x20), (0, .ref (B + a0)), (1, .int a1), (2, .int a2), (3, .long a3), (5, .int a4), (6, .int a5), (7, .int a6)] d5_workRow_192 (by decide) rfl ?_
        refine x_aload_n hX d5_workRow_194 rfl rfl ?_
        obtain ⟨q21, eq21, h⟩ := x_bd h
        refine x_getF (j := 6) hX xc5 hg1.1 hg1.2 (by decide) rfl eq21 kF5_26 d5_workRow_195 ?_
        refine x_iload hX d5_workRow_198 rfl ?_
        refine x_iload hX d5_workRow_200 rfl ?_
        refine x_iadd hX d5_workRow_202 ?_
        obtain ⟨hg22, h⟩ := x_gd h
        refine x_zald hX hg22.1 (x_kd hg22.2.1) (x_in hg22.2.2) d5_workRow_203 ?_
        refine x_if_eq (tgt := 225) hX d5_workRow_204 (by decide) (fun hc => ?_) (fun hc => ?_)
        · rw [if_pos hc] at h
          cases h
          exact x_vret hX hr d5_workRow_225 (fun H hP => ⟨rfl, hP⟩)
        · rw [if_neg hc] at h
          refine x_aload_n hX d5_workRow_207 rfl rfl ?_
          refine x_iload hX d5_workRow_208 rfl ?_
          refine x_iload_n hX d5_workRow_210 rfl rfl ?_
          refine x_iadd hX d5_workRow_211 ?_
          refine x_aload_n hX d5_workRow_212 rfl rfl ?_
          obtain ⟨q23, eq23, h⟩ := x_bd h
          refine x_getF (j := 7) hX xc5 hg1.1 hg1.2 (by decide) rfl eq23 kF5_30 d5_workRow_213 ?_
          refine x_iload hX d5_workRow_216 rfl ?_
          refine x_iload hX d5_workRow_218 rfl ?_
          refine x_iadd hX d5_workRow_220 ?_
          obtain ⟨hg24, h⟩ := x_gd h
          refine x_lald hX hg24.1 (x_kd hg24.2.1) (x_in hg24.2.2) d5_workRow_221 ?_
          obtain ⟨⟨I25, J26⟩, eb27, h⟩ := x_bd h
          dsimp only at h
          refine x_callV hX hR (c_m5_setRow (l := x_l X) (d := d + 0) eb27) kX5_115 kN5_setRow kE5_setRow xc5.1 hg1.1 hg1.2 rfl rfl (Nat.le_of_ble_eq_true rfl) ⟨Nat.le_refl 0, Nat.le_refl 0⟩ d5_workRow_222 (x_kkv ?_)
          cases h
          exact x_vret hX hr d5_workRow_225 (fun H hP => ⟨rfl, hP⟩)
      · rw [if_neg hs1003] at h
        by_cases hs1004 : (I q2 (a1.toNatClampNeg)) = 4
        · rw [if_pos hs1004] at h
          refine x_tableIn (off := 95) (tgt := 101) hX d5_workRow_6 (by rw [hs1004]; decide) (by rw [hs1004]; decide) (by rw [hs1004]; rfl) (by decide) ?_
          refine x_aload_n hX d5_workRow_101 rfl rfl ?_
          obtain ⟨q28, eq28, h⟩ := x_bd h
          refine x_getF (j := 6) hX xc5 hg1.1 hg1.2 (by decide) rfl eq28 kF5_26 d5_workRow_102 ?_
          refine x_iload hX d5_workRow_105 rfl ?_
          refine x_iload_n hX d5_workRow_107 rfl rfl ?_
          refine x_iadd hX d5_workRow_108 ?_
          obtain ⟨hg29, h⟩ := x_gd h
          refine x_zald hX hg29.1 (x_kd hg29.2.1) (x_in hg29.2.2) d5_workRow_109 ?_
          refine x_if_eq (tgt := 135) hX d5_workRow_110 (by decide) (fun hc => ?_) (fun hc => ?_)
          · rw [if_pos hc] at h
            refine x_aload_n hX d5_workRow_135 rfl rfl ?_
            obtain ⟨q30, eq30, h⟩ := x_bd h
            refine x_getF (j := 4) hX xc5 hg1.1 hg1.2 (by decide) rfl eq30 kF5_19 d5_workRow_136 ?_
            refine x_iload_n hX d5_workRow_139 rfl rfl ?_
            obtain ⟨hg31, h⟩ := x_gd h
            refine x_lald hX hg31.1 (x_kd hg31.2.1) (x_in hg31.2.2) d5_workRow_140 ?_
            refine x_lconst (v := 1) hX d5_workRow_141 (by decide) ?_
            refine x_lif_ne (tgt := 225) hX d5_workRow_142 d5_workRow_143 (by decide) (fun hc => ?_) (fun hc => ?_)
            · rw [if_pos hc] at h
              cases h
              exact x_vret hX hr d5_workRow_225 (fun H hP => ⟨rfl, hP⟩)
            · rw [if_neg (x_nn hc)] at h
              refine x_aload_n hX d5_workRow_146 rfl rfl ?_
              refine x_iload hX d5_workRow_147 rfl ?_
              refine x_iload_n hX d5_workRow_149 rfl rfl ?_
              refine x_iadd hX d5_workRow_150 ?_
              refine x_lload_n hX d5_workRow_151 rfl rfl ?_
              obtain ⟨⟨I32, J33⟩, eb34, h⟩ := x_bd h
              dsimp only at h
              refine x_callV hX hR (c_m5_setRow (l := x_l X) (d := d + 0) eb34) kX5_115 kN5_setRow kE5_setRow xc5.1 hg1.1 hg1.2 rfl rfl (Nat.le_of_ble_eq_true rfl) ⟨Nat.le_refl 0, Nat.le_refl 0⟩ d5_workRow_152 (x_kkv ?_)
              refine x_goto (tgt := 225) hX d5_workRow_155 (by decide) ?_
              cases h
              exact x_vret hX hr d5_workRow_225 (fun H hP => ⟨rfl, hP⟩)
          · rw [if_neg hc] at h
            refine x_aload_n hX d5_workRow_113 rfl rfl ?_
            refine x_iload hX d5_workRow_114 rfl ?_
            refine x_iload_n hX d5_workRow_116 rfl rfl ?_
            refine x_iadd hX d5_workRow_117 ?_
            refine x_lload_n hX d5_workRow_118 rfl rfl ?_
            refine x_aload_n hX d5_workRow_119 rfl rfl ?_
            obtain ⟨q35, eq35, h⟩ := x_bd h
            refine x_getF (j := 7) hX xc5 hg1.1 hg1.2 (by decide) rfl eq35 kF5_30 d5_workRow_120 ?_
            refine x_iload hX d5_workRow_123 rfl ?_
            refine x_iload_n hX d5_workRow_125 rfl rfl ?_
            refine x_iadd hX d5_workRow_126 ?_
            obtain ⟨hg36, h⟩ := x_gd h
            refine x_lald hX hg36.1 (x_kd hg36.2.1) (x_in hg36.2.2) d5_workRow_127 ?_
            refine x_ladd hX d5_workRow_128 ?_
            obtain ⟨⟨I37, J38⟩, eb39, h⟩ := x_bd h
            dsimp only at h
            refine x_callV hX hR (c_m5_setRow (l := x_l X) (d := d + 0) eb39) kX5_115 kN5_setRow kE5_setRow xc5.1 hg1.1 hg1.2 rfl rfl (Nat.le_of_ble_eq_true rfl) ⟨Nat.le_refl 0, Nat.le_refl 0⟩ d5_workRow_129 (x_kkv ?_)
            refine x_goto (tgt := 225) hX d5_workRow_132 (by decide) ?_
            cases h
            exact x_vret hX hr d5_workRow_225 (fun H hP => ⟨rfl, hP⟩)
        · rw [if_neg hs1004] at h
          by_cases hs1005 : (I q2 (a1.toNatClampNeg)) = 5
          · rw [if_pos hs1005] at h
            refine x_tableIn (off := 180) (tgt := 186) hX d5_workRow_6 (by rw [hs1005]; decide) (by rw [hs1005]; decide) (by rw [hs1005]; rfl) (by decide) ?_
            refine x_lload_n hX d5_workRow_186 rfl rfl ?_
            refine x_ldc2 (v := 63) hX kC5_134 d5_workRow_187 ?_
            refine x_land hX d5_workRow_190 ?_
            refine x_l2i hX d5_workRow_191 ?_
            obtain ⟨x40, ex40, h⟩ := x_le h
            refine x_eqi ex40.symm ?_
            refine x_istore hX [(8, .int x40), (0, .ref (B + a0)), (1, .int a1), (2, .int a2), (3, .long a3), (5, .int a4), (6, .int a5), (7, .int a6)] d5_workRow_192 (by decide) rfl ?_
            refine x_aload_n hX d5_workRow_194 rfl rfl ?_
            obtain ⟨q41, eq41, h⟩ := x_bd h
            refine x_getF (j := 6) hX xc5 hg1.1 hg1.2 (by decide) rfl eq41 kF5_26 d5_workRow_195 ?_
            refine x_iload hX d5_workRow_198 rfl ?_
            refine x_iload hX d5_workRow_200 rfl ?_
            refine x_iadd hX d5_workRow_202 ?_
            obtain ⟨hg42, h⟩ := x_gd h
            refine x_zald hX hg42.1 (x_kd hg42.2.1) (x_in hg42.2.2) d5_workRow_203 ?_
            refine x_if_eq (tgt := 225) hX d5_workRow_204 (by decide) (fun hc => ?_) (fun hc => ?_)
            · rw [if_pos hc] at h
              cases h
              exact x_vret hX hr d5_workRow_225 (fun H hP => ⟨rfl, hP⟩)
            · rw [if_neg hc] at h
              refine x_aload_n hX d5_workRow_207 rfl rfl ?_
              refine x_iload hX d5_workRow_208 rfl ?_
              refine x_iload_n hX d5_workRow_210 rfl rfl ?_
              refine x_iadd hX d5_workRow_211 ?_
              refine x_aload_n hX d5_workRow_212 rfl rfl ?_
              obtain ⟨q43, eq43, h⟩ := x_bd h
              refine x_getF (j := 7) hX xc5 hg1.1 hg1.2 (by decide) rfl eq43 kF5_30 d5_workRow_213 ?_
              refine x_iload hX d5_workRow_216 rfl ?_
              refine x_iload hX d5_workRow_218 rfl ?_
              refine x_iadd hX d5_workRow_220 ?_
              obtain ⟨hg44, h⟩ := x_gd h
              refine x_lald hX hg44.1 (x_kd hg44.2.1) (x_in hg44.2.2) d5_workRow_221 ?_
              obtain ⟨⟨I45, J46⟩, eb47, h⟩ := x_bd h
              dsimp only at h
              refine x_callV hX hR (c_m5_setRow (l := x_l X) (d := d + 0) eb47) kX5_115 kN5_setRow kE5_setRow xc5.1 hg1.1 hg1.2 rfl rfl (Nat.le_of_ble_eq_true rfl) ⟨Nat.le_refl 0, Nat.le_refl 0⟩ d5_workRow_222 (x_kkv ?_)
              cases h
              exact x_vret hX hr d5_workRow_225 (fun H hP => ⟨rfl, hP⟩)
          · rw [if_neg hs1005] at h
            by_cases hs1006 : (I q2 (a1.toNatClampNeg)) = 6
            · rw [if_pos hs1006] at h
              refine x_tableIn (off := 152) (tgt := 158) hX d5_workRow_6 (by rw [hs1006]; decide) (by rw [hs1006]; decide) (by rw [hs1006]; rfl) (by decide) ?_
              refine x_aload_n hX d5_workRow_158 rfl rfl ?_
              refine x_iload hX d5_workRow_159 rfl ?_
              refine x_iload_n hX d5_workRow_161 rfl rfl ?_
              refine x_aload_n hX d5_workRow_162 rfl rfl ?_
              obtain ⟨q48, eq48, h⟩ := x_bd h
              refine x_getF (j := 4) hX xc5 hg1.1 hg1.2 (by decide) rfl eq48 kF5_19 d5_workRow_163 ?_
              refine x_iload_n hX d5_workRow_166 rfl rfl ?_
              obtain ⟨hg49, h⟩ := x_gd h
              refine x_lald hX hg49.1 (x_kd hg49.2.1) (x_in hg49.2.2) d5_workRow_167 ?_
              obtain ⟨x50, eb51, h⟩ := x_bd h
              refine x_callV hX hR (c_m5_isBest (l := x_l X) (d := d + 0) eb51) kX5_130 kN5_isBest kE5_isBest xc5.1 hg1.1 hg1.2 rfl rfl (Nat.le_of_ble_eq_true rfl) ⟨Nat.le_refl 0, Nat.le_refl 0⟩ d5_workRow_168 (x_kki ?_)
              refine x_if_eq (tgt := 225) hX d5_workRow_171 (by decide) (fun hc => ?_) (fun hc => ?_)
              · rw [if_pos hc] at h
                cases h
                exact x_vret hX hr d5_workRow_225 (fun H hP => ⟨rfl, hP⟩)
              · rw [if_neg hc] at h
                refine x_aload_n hX d5_workRow_174 rfl rfl ?_
                refine x_iload hX d5_workRow_175 rfl ?_
                refine x_iload_n hX d5_workRow_177 rfl rfl ?_
                refine x_iadd hX d5_workRow_178 ?_
                refine x_lload_n hX d5_workRow_179 rfl rfl ?_
                obtain ⟨⟨I52, J53⟩, eb54, h⟩ := x_bd h
                dsimp only at h
                refine x_callV hX hR (c_m5_setRow (l := x_l X) (d := d + 0) eb54) kX5_115 kN5_setRow kE5_setRow xc5.1 hg1.1 hg1.2 rfl rfl (Nat.le_of_ble_eq_true rfl) ⟨Nat.le_refl 0, Nat.le_refl 0⟩ d5_workRow_180 (x_kkv ?_)
                refine x_goto (tgt := 225) hX d5_workRow_183 (by decide) ?_
                cases h
                exact x_vret hX hr d5_workRow_225 (fun H hP => ⟨rfl, hP⟩)
            · rw [if_neg hs1006] at h
              refine x_tableOut (tgt := 186) hX d5_workRow_6 (x_tout_1_6 hs1001 hs1002 hs1003 hs1004 hs1005 hs1006) (by decide) ?_
              refine x_lload_n hX d5_workRow_186 rfl rfl ?_
              refine x_ldc2 (v := 63) hX kC5_134 d5_workRow_187 ?_
              refine x_land hX d5_workRow_190 ?_
              refine x_l2i hX d5_workRow_191 ?_
              obtain ⟨x55, ex55, h⟩ := x_le h
              refine x_eqi ex55.symm ?_
              refine x_istore hX [(8, .int x55), (0, .ref (B + a0)), (1, .int a1), (2, .int a2), (3, .long a3), (5, .int a4), (6, .int a5), (7, .int a6)] d5_workRow_192 (by decide) rfl ?_
              refine x_aload_n hX d5_workRow_194 rfl rfl ?_
              obtain ⟨q56, eq56, h⟩ := x_bd h
              refine x_getF (j := 6) hX xc5 hg1.1 hg1.2 (by decide) rfl eq56 kF5_26 d5_workRow_195 ?_
              refine x_iload hX d5_workRow_198 rfl ?_
              refine x_iload hX d5_workRow_200 rfl ?_
              refine x_iadd hX d5_workRow_202 ?_
              obtain ⟨hg57, h⟩ := x_gd h
              refine x_zald hX hg57.1 (x_kd hg57.2.1) (x_in hg57.2.2) d5_workRow_203 ?_
              refine x_if_eq (tgt := 225) hX d5_workRow_204 (by decide) (fun hc => ?_) (fun hc => ?_)
              · rw [if_pos hc] at h
                cases h
                exact x_vret hX hr d5_workRow_225 (fun H hP => ⟨rfl, hP⟩)
              · rw [if_neg hc] at h
                refine x_aload_n hX d5_workRow_207 rfl rfl ?_
                refine x_iload hX d5_workRow_208 rfl ?_
                refine x_iload_n hX d5_workRow_210 rfl rfl ?_
                refine x_iadd hX d5_workRow_211 ?_
                refine x_aload_n hX d5_workRow_212 rfl rfl ?_
                obtain ⟨q58, eq58, h⟩ := x_bd h
                refine x_getF (j := 7) hX xc5 hg1.1 hg1.2 (by decide) rfl eq58 kF5_30 d5_workRow_213 ?_
                refine x_iload hX d5_workRow_216 rfl ?_
                refine x_iload hX d5_workRow_218 rfl ?_
                refine x_iadd hX d5_workRow_220 ?_
                obtain ⟨hg59, h⟩ := x_gd h
                refine x_lald hX hg59.1 (x_kd hg59.2.1) (x_in hg59.2.2) d5_workRow_221 ?_
                obtain ⟨⟨I60, J61⟩, eb62, h⟩ := x_bd h
                dsimp only at h
                refine x_callV hX hR (c_m5_setRow (l := x_l X) (d := d + 0) eb62) kX5_115 kN5_setRow kE5_setRow xc5.1 hg1.1 hg1.2 rfl rfl (Nat.le_of_ble_eq_true rfl) ⟨Nat.le_refl 0, Nat.le_refl 0⟩ d5_workRow_222 (x_kkv ?_)
                cases h
                exact x_vret hX hr d5_workRow_225 (fun H hP => ⟨rfl, hP⟩)

def m5_work_B122 (N : Nat) (K : Nat → Nat × Nat) (F : Nat → Nat → Option Nat) (k70 : (Nat → Nat → Int32) → (Nat → Nat → Int64) → Nat → Int32 → Int32 → Int32 → Int32 → Int32 → Option ((Nat → Nat → Int32) × (Nat → Nat → Int64))) (I : (Nat → Nat → Int32)) (J : (Nat → Nat → Int64)) (v0 : Nat) (v1 : Int32) (v2 : Int32) (v3 : Int32) (v4 : Int32) (v5 : Int32) (v6 : Int64) : Option ((Nat → Nat → Int32) × (Nat → Nat → Int64)) :=
  if v0 < N ∧ K v0 = (0, 5) then (xb (F v0 6) fun q2 => if q2 < N ∧ (K q2).1 = 3 ∧ xinb (v2 + v5) (K q2).2 then (if (I q2 ((v2 + v5).toNatClampNeg)) = 0 then (xb (F v0 7) fun q4 => if q4 < N ∧ (K q4).1 = 2 ∧ xinb (v3 + v5) (K q4).2 then (xb (m5_setRow N K F I J v0 (v4 + v5) (J q4 ((v3 + v5).toNatClampNeg))) fun (I6, J7) => xlet (v5 + (1 : Int32)) fun x9 => k70 I6 J7 v0 v1 v2 v3 v4 x9) else none) else (xb (m5_setRow N K F I J v0 (v4 + v5) v6) fun (I10, J11) => xlet (v5 + (1 : Int32)) fun x13 => k70 I10 J11 v0 v1 v2 v3 v4 x13)) else none) else none
def m5_work_L70 (N : Nat) (K : Nat → Nat × Nat) (F : Nat → Nat → Option Nat) : Nat → (Nat → Nat → Int32) → (Nat → Nat → Int64) → Nat → Int32 → Int32 → Int32 → Int32 → Int32 → Option ((Nat → Nat → Int32) × (Nat → Nat → Int64))
  | 0, _, _, _, _, _, _, _, _ => none
  | n + 1, I, J, v0, v1, v2, v3, v4, v5 => if (64 : Int32) ≤ v5 then (some (I, J)) else (if v0 < N ∧ K v0 = (0, 5) then (xb (F v0 7) fun q2 => if q2 < N ∧ (K q2).1 = 2 ∧ xinb (v2 + v5) (K q2).2 then (xlet ((J q2 ((v2 + v5).toNatClampNeg))) fun x4 => xb (F v0 1) fun q5 => if q5 < N ∧ (K q5).1 = 1 ∧ xinb v1 (K q5).2 then (if ¬ (I q5 (v1.toNatClampNeg)) = (5 : Int32) then (xb (F v0 6) fun q7 => if q7 < N ∧ (K q7).1 = 3 ∧ xinb (v2 + v5) (K q7).2 then (if (I q7 ((v2 + v5).toNatClampNeg)) = 0 then (xlet (v5 + (1 : Int32)) fun x9 => m5_work_L70 N K F n I J v0 v1 v2 v3 v4 x9) else (xb (m5_workRow N K F I J v0 v1 v5 x4 v2 v3 v4) fun (I10, J11) => xlet (v5 + (1 : Int32)) fun x13 => m5_work_L70 N K F n I10 J11 v0 v1 v2 v3 v4 x13)) else none) else (xb (F v0 6) fun q14 => if q14 < N ∧ (K q14).1 = 3 ∧ xinb (v2 + v5) (K q14).2 then (if ¬ (I q14 ((v2 + v5).toNatClampNeg)) = 0 then (m5_work_B122 N K F (m5_work_L70 N K F n) I J v0 v1 v2 v3 v4 v5 x4) else (if q14 < N ∧ (K q14).1 = 3 ∧ xinb (v3 + v5) (K q14).2 then (if (I q14 ((v3 + v5).toNatClampNeg)) = 0 then (xlet (v5 + (1 : Int32)) fun x17 => m5_work_L70 N K F n I J v0 v1 v2 v3 v4 x17) else (m5_work_B122 N K F (m5_work_L70 N K F n) I J v0 v1 v2 v3 v4 v5 x4)) else none)) else none)) else none) else none) else none)
def m5_work_L29 (N : Nat) (K : Nat → Nat × Nat) (F : Nat → Nat → Option Nat) : Nat → (Nat → Nat → Int32) → (Nat → Nat → Int64) → Nat → Int32 → Int32 → Int32 → Int32 → Int32 → Option ((Nat → Nat → Int32) × (Nat → Nat → Int64))
  | 0, _, _, _, _, _, _, _, _ => none
  | n + 1, I, J, v0, v1, v2, v3, v4, v5 => if (64 : Int32) ≤ v5 then (if v0 < N ∧ K v0 = (0, 5) then (xb (F v0 1) fun q2 => if q2 < N ∧ (K q2).1 = 1 ∧ xinb v1 (K q2).2 then (if ¬ (I q2 (v1.toNatClampNeg)) = (3 : Int32) then (m5_work_L70 N K F xFu I J v0 v1 v2 v3 v4 (0 : Int32)) else (xb (m5_workFold N K F I J v0 v1) fun (I4, J5) => some (I4, J5))) else none) else none) else (if v0 < N ∧ K v0 = (0, 5) then (xb (m5_clearRow N K F I J v0 (v4 + v5)) fun (I8, J9) => xlet (v5 + (1 : Int32)) fun x11 => m5_work_L29 N K F n I8 J9 v0 v1 v2 v3 v4 x11) else none)
def m5_work (N : Nat) (K : Nat → Nat × Nat) (F : Nat → Nat → Option Nat) (I : (Nat → Nat → Int32)) (J : (Nat → Nat → Int64)) (a0 : Nat) (a1 : Int32) : Option ((Nat → Nat → Int32) × (Nat → Nat → Int64)) :=
  if a0 < N ∧ K a0 = (0, 5) then (xb (F a0 2) fun q2 => if q2 < N ∧ (K q2).1 = 1 ∧ xinb a1 (K q2).2 then (xlet (((64 : Int32) * (I q2 (a1.toNatClampNeg)))) fun x4 => xb (F a0 3) fun q5 => if q5 < N ∧ (K q5).1 = 1 ∧ xinb a1 (K q5).2 then (xlet (((64 : Int32) * (I q5 (a1.toNatClampNeg)))) fun x7 => xlet (((64 : Int32) * a1)) fun x8 => m5_work_L29 N K F xFu I J a0 a1 x4 x7 x8 (0 : Int32)) else none) else none) else none
set_option maxRecDepth 100000 in
set_option maxHeartbeats 4000000 in
theorem t_m5_work_B122 {X : xX} {B d : Nat} {g : xG} {N : Nat} {K : Nat → Nat × Nat} {F : Nat → Nat → Option Nat} {I' : (Nat → Nat → Int32)} {J' : (Nat → Nat → Int64)} {k70 : (Nat → Nat → Int32) → (Nat → Nat → Int64) → Nat → Int32 → Int32 → Int32 → Int32 → Int32 → Option ((Nat → Nat → Int32) × (Nat → Nat → Int64))} (hX : xO X c5_work "ChangeRowsModel" 8 B g) (hR : x_R X = xrm (d + 2) 0 0) (hr : (x_meth X).sig.returnType = none) (hk70 : ∀ (I : (Nat → Nat → Int32)) (J : (Nat → Nat → Int64)) (v0 : Nat) (v1 : Int32) (v2 : Int32) (v3 : Int32) (v4 : Int32) (v5 : Int32), k70 I J v0 v1 v2 v3 v4 v5 = some (I', J') → xV X B 8 (xZ X B 0 0 (xq none (xP g B N K I' J' F))) 0 0 (xP g B N K I J F) 70 [(0, .ref (B + v0)), (1, .int v1), (2, .int v2), (3, .int v3), (4, .int v4), (5, .int v5)] []) (I : (Nat → Nat → Int32)) (J : (Nat → Nat → Int64)) (v0 : Nat) (v1 : Int32) (v2 : Int32) (v3 : Int32) (v4 : Int32) (v5 : Int32) (v6 : Int64) (h : m5_work_B122 N K F k70 I J v0 v1 v2 v3 v4 v5 v6 = some (I', J')) : xV X B 8 (xZ X B 0 0 (xq none (xP g B N K I' J' F))) 0 0 (xP g B N K I J F) 122 [(0, .ref (B + v0)), (1, .int v1), (2, .int v2), (3, .int v3), (4, .int v4), (5, .int v5), (6, .long v6)] [] := by
  unfold m5_work_B122 at h
  refine x_aload_n hX d5_work_122 rfl rfl ?_
  refine x_iload hX d5_work_123 rfl ?_
  refine x_iload hX d5_work_125 rfl ?_
  refine x_iadd hX d5_work_127 ?_
  refine x_aload_n hX d5_work_128 rfl rfl ?_
  obtain ⟨hg1, h⟩ := x_gd h
  obtain ⟨q2, eq2, h⟩ := x_bd h
  refine x_getF (j := 6) hX xc5 hg1.1 hg1.2 (by decide) rfl eq2 kF5_26 d5_work_129 ?_
  refine x_iload_n hX d5_work_132 rfl rfl ?_
  refine x_iload hX d5_work_133 rfl ?_
  refine x_iadd hX d5_work_135 ?_
  obtain ⟨hg3, h⟩ := x_gd h
  refine x_zald hX hg3.1 (x_kd hg3.2.1) (x_in hg3.2.2) d5_work_136 ?_
  refine x_if_eq (tgt := 145) hX d5_work_137 (by decide) (fun hc => ?_) (fun hc => ?_)
  · rw [if_pos hc] at h
    refine x_aload_n hX d5_work_145 rfl rfl ?_
    obtain ⟨q4, eq4, h⟩ := x_bd h
    refine x_getF (j := 7) hX xc5 hg1.1 hg1.2 (by decide) rfl eq4 kF5_30 d5_work_146 ?_
    refine x_iload_n hX d5_work_149 rfl rfl ?_
    refine x_iload hX d5_work_150 rfl ?_
    refine x_iadd hX d5_work_152 ?_
    obtain ⟨hg5, h⟩ := x_gd h
    refine x_lald hX hg5.1 (x_kd hg5.2.1) (x_in hg5.2.2) d5_work_153 ?_
    obtain ⟨⟨I6, J7⟩, eb8, h⟩ := x_bd h
    dsimp only at h
    refine x_callV hX hR (c_m5_setRow (l := x_l X) (d := d + 1) eb8) kX5_115 kN5_setRow kE5_setRow xc5.1 hg1.1 hg1.2 rfl rfl (Nat.le_of_ble_eq_true rfl) ⟨Nat.le_refl 0, Nat.le_refl 0⟩ d5_work_154 (x_kkv ?_)
    refine x_goto (tgt := 185) hX d5_work_157 (by decide) ?_
    obtain ⟨x9, ex9, h⟩ := x_le h
    refine x_iinc (j := 5) hX [(5, .int x9), (0, .ref (B + v0)), (1, .int v1), (2, .int v2), (3, .int v3), (4, .int v4), (6, .long v6)] d5_work_185 rfl (by rw [ex9]; rfl) (by decide) rfl ?_
    refine x_goto (tgt := 70) hX d5_work_188 (by decide) ?_
    refine x_sub [1, 2, 3, 4, 5, 0] rfl ?_
    exact hk70 _ _ _ _ _ _ _ _ h
  · rw [if_neg hc] at h
    refine x_lload hX d5_work_140 rfl ?_
    refine x_goto (tgt := 154) hX d5_work_142 (by decide) ?_
    obtain ⟨⟨I10, J11⟩, eb12, h⟩ := x_bd h
    dsimp only at h
    refine x_callV hX hR (c_m5_setRow (l := x_l X) (d := d + 1) eb12) kX5_115 kN5_setRow kE5_setRow xc5.1 hg1.1 hg1.2 rfl rfl (Nat.le_of_ble_eq_true rfl) ⟨Nat.le_refl 0, Nat.le_refl 0⟩ d5_work_154 (x_kkv ?_)
    refine x_goto (tgt := 185) hX d5_work_157 (by decide) ?_
    obtain ⟨x13, ex13, h⟩ := x_le h
    refine x_iinc (j := 5) hX [(5, .int x13), (0, .ref (B + v0)), (1, .int v1), (2, .int v2), (3, .int v3), (4, .int v4), (6, .long v6)] d5_work_185 rfl (by rw [ex13]; rfl) (by decide) rfl ?_
    refine x_goto (tgt := 70) hX d5_work_188 (by decide) ?_
    refine x_sub [1, 2, 3, 4, 5, 0] rfl ?_
    exact hk70 _ _ _ _ _ _ _ _ h
set_option maxRecDepth 100000 in
set_option maxHeartbeats 4000000 in
theorem t_m5_work_L70 {X : xX} {B d : Nat} {g : xG} {N : Nat} {K : Nat → Nat × Nat} {F : Nat → Nat → Option Nat} {I' : (Nat → Nat → Int32)} {J' : (Nat → Nat → Int64)} (hX : xO X c5_work "ChangeRowsModel" 8 B g) (hR : x_R X = xrm (d + 2) 0 0) (hr : (x_meth X).sig.returnType = none) : ∀ (n : Nat) (I : (Nat → Nat → Int32)) (J : (Nat → Nat → Int64)) (v0 : Nat) (v1 : Int32) (v2 : Int32) (v3 : Int32) (v4 : Int32) (v5 : Int32), m5_work_L70 N K F n I J v0 v1 v2 v3 v4 v5 = some (I', J') → xV X B 8 (xZ X B 0 0 (xq none (xP g B N K I' J' F))) 0 0 (xP g B N K I J F) 70 [(0, .ref (B + v0)), (1, .int v1), (2, .int v2), (3, .int v3), (4, .int v4), (5, .int v5)] [] := by
  intro n
  induction n with
  | zero =>
    intro I J v0 v1 v2 v3 v4 v5 h
    cases h
  | succ n ih =>
    intro I J v0 v1 v2 v3 v4 v5 h
    rw [m5_work_L70] at h
    refine x_iload hX d5_work_70 rfl ?_
    refine x_bipush (v := 64) hX d5_work_72 (by decide) ?_
    refine x_icmp_ge (tgt := 191) hX d5_work_74 (by decide) (fun hc => ?_) (fun hc => ?_)
    · rw [if_pos hc] at h
      cases h
      exact x_vret hX hr d5_work_191 (fun H hP => ⟨rfl, hP⟩)
    · rw [if_neg hc] at h
      refine x_aload_n hX d5_work_77 rfl rfl ?_
      obtain ⟨hg1, h⟩ := x_gd h
      obtain ⟨q2, eq2, h⟩ := x_bd h
      refine x_getF (j := 7) hX xc5 hg1.1 hg1.2 (by decide) rfl eq2 kF5_30 d5_work_78 ?_
      refine x_iload_n hX d5_work_81 rfl rfl ?_
      refine x_iload hX d5_work_82 rfl ?_
      refine x_iadd hX d5_work_84 ?_
      obtain ⟨hg3, h⟩ := x_gd h
      refine x_lald hX hg3.1 (x_kd hg3.2.1) (x_in hg3.2.2) d5_work_85 ?_
      obtain ⟨x4, ex4, h⟩ := x_le h
      refine x_eql ex4.symm ?_
      refine x_lstore hX [(6, .long x4), (0, .ref (B + v0)), (1, .int v1), (2, .int v2), (3, .int v3), (4, .int v4), (5, .int v5)] d5_work_86 (by decide) rfl ?_
      refine x_aload_n hX d5_work_88 rfl rfl ?_
      obtain ⟨q5, eq5, h⟩ := x_bd h
      refine x_getF (j := 1) hX xc5 hg1.1 hg1.2 (by decide) rfl eq5 kF5_7 d5_work_89 ?_
      refine x_iload_n hX d5_work_92 rfl rfl ?_
      obtain ⟨hg6, h⟩ := x_gd h
      refine x_iald hX hg6.1 (x_kd hg6.2.1) (x_in hg6.2.2) d5_work_93 ?_
      refine x_iconst (v := 5) hX d5_work_94 (by decide) ?_
      refine x_icmp_ne (tgt := 160) hX d5_work_95 (by decide) (fun hc => ?_) (fun hc => ?_)
      · rw [if_pos hc] at h
        refine x_aload_n hX d5_work_160 rfl rfl ?_
        obtain ⟨q7, eq7, h⟩ := x_bd h
        refine x_getF (j := 6) hX xc5 hg1.1 hg1.2 (by decide) rfl eq7 kF5_26 d5_work_161 ?_
        refine x_iload_n hX d5_work_164 rfl rfl ?_
        refine x_iload hX d5_work_165 rfl ?_
        refine x_iadd hX d5_work_167 ?_
        obtain ⟨hg8, h⟩ := x_gd h
        refine x_zald hX hg8.1 (x_kd hg8.2.1) (x_in hg8.2.2) d5_work_168 ?_
        refine x_if_eq (tgt := 185) hX d5_work_169 (by decide) (fun hc => ?_) (fun hc => ?_)
        · rw [if_pos hc] at h
          obtain ⟨x9, ex9, h⟩ := x_le h
          refine x_iinc (j := 6) hX [(5, .int x9), (6, .long x4), (0, .ref (B + v0)), (1, .int v1), (2, .int v2), (3, .int v3), (4, .int v4)] d5_work_185 rfl (by rw [ex9]; rfl) (by decide) rfl ?_
          refine x_goto (tgt := 70) hX d5_work_188 (by decide) ?_
          refine x_sub [2, 3, 4, 5, 6, 0] rfl ?_
          exact ih _ _ _ _ _ _ _ _ h
        · rw [if_neg hc] at h
          refine x_aload_n hX d5_work_172 rfl rfl ?_
          refine x_iload_n hX d5_work_173 rfl rfl ?_
          refine x_iload hX d5_work_174 rfl ?_
          refine x_lload hX d5_work_176 rfl ?_
          refine x_iload_n hX d5_work_178 rfl rfl ?_
          refine x_iload_n hX d5_work_179 rfl rfl ?_
          refine x_iload hX d5_work_180 rfl ?_
          obtain ⟨⟨I10, J11⟩, eb12, h⟩ := x_bd h
          dsimp only at h
          refine x_callV hX hR (c_m5_workRow (l := x_l X) (d := d + 0) eb12) kX5_126 kN5_workRow kE5_workRow xc5.1 hg1.1 hg1.2 rfl rfl (Nat.le_of_ble_eq_true rfl) ⟨Nat.le_refl 0, Nat.le_refl 0⟩ d5_work_182 (x_kkv ?_)
          obtain ⟨x13, ex13, h⟩ := x_le h
          refine x_iinc (j := 6) hX [(5, .int x13), (6, .long x4), (0, .ref (B + v0)), (1, .int v1), (2, .int v2), (3, .int v3), (4, .int v4)] d5_work_185 rfl (by rw [ex13]; rfl) (by decide) rfl ?_
          refine x_goto (tgt := 70) hX d5_work_188 (by decide) ?_
          refine x_sub [2, 3, 4, 5, 6, 0] rfl ?_
          exact ih _ _ _ _ _ _ _ _ h
      · rw [if_neg (x_nn hc)] at h
        refine x_aload_n hX d5_work_98 rfl rfl ?_
        obtain ⟨q14, eq14, h⟩ := x_bd h
        refine x_getF (j := 6) hX xc5 hg1.1 hg1.2 (by decide) rfl eq14 kF5_26 d5_work_99 ?_
        refine x_iload_n hX d5_work_102 rfl rfl ?_
        refine x_iload hX d5_work_103 rfl ?_
        refine x_iadd hX d5_work_105 ?_
        obtain ⟨hg15, h⟩ := x_gd h
        refine x_zald hX hg15.1 (x_kd hg15.2.1) (x_in hg15.2.2) d5_work_106 ?_
        refine x_if_ne (tgt := 122) hX d5_work_107 (by decide) (fun hc => ?_) (fun hc => ?_)
        · rw [if_pos hc] at h
          refine x_sub [1, 2, 3, 4, 5, 6, 0] rfl ?_
          exact t_m5_work_B122 hX hR hr ih _ _ _ _ _ _ _ _ _ h
        · rw [if_neg (x_nn hc)] at h
          refine x_aload_n hX d5_work_110 rfl rfl ?_
          refine x_getF (j := 6) hX xc5 hg1.1 hg1.2 (by decide) rfl eq14 kF5_26 d5_work_111 ?_
          refine x_iload_n hX d5_work_114 rfl rfl ?_
          refine x_iload hX d5_work_115 rfl ?_
          refine x_iadd hX d5_work_117 ?_
          obtain ⟨hg16, h⟩ := x_gd h
          refine x_zald hX hg16.1 (x_kd hg16.2.1) (x_in hg16.2.2) d5_work_118 ?_
          refine x_if_eq (tgt := 185) hX d5_work_119 (by decide) (fun hc => ?_) (fun hc => ?_)
          · rw [if_pos hc] at h
            obtain ⟨x17, ex17, h⟩ := x_le h
            refine x_iinc (j := 6) hX [(5, .int x17), (6, .long x4), (0, .ref (B + v0)), (1, .int v1), (2, .int v2), (3, .int v3), (4, .int v4)] d5_work_185 rfl (by rw [ex17]; rfl) (by decide) rfl ?_
            refine x_goto (tgt := 70) hX d5_work_188 (by decide) ?_
            refine x_sub [2, 3, 4, 5, 6, 0] rfl ?_
            exact ih _ _ _ _ _ _ _ _ h
          · rw [if_neg hc] at h
            refine x_sub [1, 2, 3, 4, 5, 6, 0] rfl ?_
            exact t_m5_work_B122 hX hR hr ih _ _ _ _ _ _ _ _ _ h
set_option maxRecDepth 100000 in
set_option maxHeartbeats 4000000 in
theorem t_m5_work_L29 {X : xX} {B d : Nat} {g : xG} {N : Nat} {K : Nat → Nat × Nat} {F : Nat → Nat → Option Nat} {I' : (Nat → Nat → Int32)} {J' : (Nat → Nat → Int64)} (hX : xO X c5_work "ChangeRowsModel" 8 B g) (hR : x_R X = xrm (d + 2) 0 0) (hr : (x_meth X).sig.returnType = none) : ∀ (n : Nat) (I : (Nat → Nat → Int32)) (J : (Nat → Nat → Int64)) (v0 : Nat) (v1 : Int32) (v2 : Int32) (v3 : Int32) (v4 : Int32) (v5 : Int32), m5_work_L29 N K F n I J v0 v1 v2 v3 v4 v5 = some (I', J') → xV X B 8 (xZ X B 0 0 (xq none (xP g B N K I' J' F))) 0 0 (xP g B N K I J F) 29 [(0, .ref (B + v0)), (1, .int v1), (2, .int v2), (3, .int v3), (4, .int v4), (5, .int v5)] [] := by
  intro n
  induction n with
  | zero =>
    intro I J v0 v1 v2 v3 v4 v5 h
    cases h
  | succ n ih =>
    intro I J v0 v1 v2 v3 v4 v5 h
    rw [m5_work_L29] at h
    refine x_iload hX d5_work_29 rfl ?_
    refine x_bipush (v := 64) hX d5_work_31 (by decide) ?_
    refine x_icmp_ge (tgt := 51) hX d5_work_33 (by decide) (fun hc => ?_) (fun hc => ?_)
    · rw [if_pos hc] at h
      refine x_aload_n hX d5_work_51 rfl rfl ?_
      obtain ⟨hg1, h⟩ := x_gd h
      obtain ⟨q2, eq2, h⟩ := x_bd h
      refine x_getF (j := 1) hX xc5 hg1.1 hg1.2 (by decide) rfl eq2 kF5_7 d5_work_52 ?_
      refine x_iload_n hX d5_work_55 rfl rfl ?_
      obtain ⟨hg3, h⟩ := x_gd h
      refine x_iald hX hg3.1 (x_kd hg3.2.1) (x_in hg3.2.2) d5_work_56 ?_
      refine x_iconst (v := 3) hX d5_work_57 (by decide) ?_
      refine x_icmp_ne (tgt := 67) hX d5_work_58 (by decide) (fun hc => ?_) (fun hc => ?_)
      · rw [if_pos hc] at h
        refine x_iconst (v := 0) hX d5_work_67 (by decide) ?_
        refine x_istore hX [(5, .int (0 : Int32)), (0, .ref (B + v0)), (1, .int v1), (2, .int v2), (3, .int v3), (4, .int v4)] d5_work_68 (by decide) rfl ?_
        refine x_sub [1, 2, 3, 4, 5, 0] rfl ?_
        exact t_m5_work_L70 hX hR hr _ _ _ _ _ _ _ _ _ h
      · rw [if_neg (x_nn hc)] at h
        refine x_aload_n hX d5_work_61 rfl rfl ?_
        refine x_iload_n hX d5_work_62 rfl rfl ?_
        obtain ⟨⟨I4, J5⟩, eb6, h⟩ := x_bd h
        dsimp only at h
        refine x_callV hX hR (c_m5_workFold (l := x_l X) (d := d + 0) eb6) kX5_123 kN5_workFold kE5_workFold xc5.1 hg1.1 hg1.2 rfl rfl (Nat.le_of_ble_eq_true rfl) ⟨Nat.le_refl 0, Nat.le_refl 0⟩ d5_work_63 (x_kkv ?_)
        cases h
        exact x_vret hX hr d5_work_66 (fun H hP => ⟨rfl, hP⟩)
    · rw [if_neg hc] at h
      refine x_aload_n hX d5_work_36 rfl rfl ?_
      refine x_iload hX d5_work_37 rfl ?_
      refine x_iload hX d5_work_39 rfl ?_
      refine x_iadd hX d5_work_41 ?_
      obtain ⟨hg7, h⟩ := x_gd h
      obtain ⟨⟨I8, J9⟩, eb10, h⟩ := x_bd h
      dsimp only at h
      refine x_callV hX hR (c_m5_clearRow (l := x_l X) (d := d + 1) eb10) kX5_119 kN5_clearRow kE5_clearRow xc5.1 hg7.1 hg7.2 rfl rfl (Nat.le_of_ble_eq_true rfl) ⟨Nat.le_refl 0, Nat.le_refl 0⟩ d5_work_42 (x_kkv ?_)
      obtain ⟨x11, ex11, h⟩ := x_le h
      refine x_iinc (j := 5) hX [(5, .int x11), (0, .ref (B + v0)), (1, .int v1), (2, .int v2), (3, .int v3), (4, .int v4)] d5_work_45 rfl (by rw [ex11]; rfl) (by decide) rfl ?_
      refine x_goto (tgt := 29) hX d5_work_48 (by decide) ?_
      refine x_sub [1, 2, 3, 4, 5, 0] rfl ?_
      exact ih _ _ _ _ _ _ _ _ h
set_option maxRecDepth 100000 in
set_option maxHeartbeats 4000000 in
theorem c_m5_work {l : Launch} {B d : Nat} {g : xG} {N : Nat} {K : Nat → Nat × Nat} {F : Nat → Nat → Option Nat} {I : (Nat → Nat → Int32)} {J : (Nat → Nat → Int64)} {a0 : Nat} {a1 : Int32} {I' : (Nat → Nat → Int32)} {J' : (Nat → Nat → Int64)} (h : m5_work N K F I J a0 a1 = some (I', J')) : xC l g B (d + 2) 0 0 y5_work c5_work 8 none [.ref (B + a0), .int a1] (xP g B N K I J F) (xq none (xP g B N K I' J' F)) := by
  refine xC_of (by decide) (Nat.le_of_ble_eq_true rfl) (fun X hl hR hr _ hX => ?_)
  refine x_sub (L' := [(0, .ref (B + a0)), (1, .int a1)]) [0, 1] rfl ?_
  unfold m5_work at h
  refine x_bipush (v := 64) hX d5_work_0 (by decide) ?_
  refine x_aload_n hX d5_work_2 rfl rfl ?_
  obtain ⟨hg1, h⟩ := x_gd h
  obtain ⟨q2, eq2, h⟩ := x_bd h
  refine x_getF (j := 2) hX xc5 hg1.1 hg1.2 (by decide) rfl eq2 kF5_13 d5_work_3 ?_
  refine x_iload_n hX d5_work_6 rfl rfl ?_
  obtain ⟨hg3, h⟩ := x_gd h
  refine x_iald hX hg3.1 (x_kd hg3.2.1) (x_in hg3.2.2) d5_work_7 ?_
  refine x_imul hX d5_work_8 ?_
  obtain ⟨x4, ex4, h⟩ := x_le h
  refine x_eqi ex4.symm ?_
  refine x_istore_n hX [(2, .int x4), (0, .ref (B + a0)), (1, .int a1)] d5_work_9 rfl (by decide) rfl ?_
  refine x_bipush (v := 64) hX d5_work_10 (by decide) ?_
  refine x_aload_n hX d5_work_12 rfl rfl ?_
  obtain ⟨q5, eq5, h⟩ := x_bd h
  refine x_getF (j := 3) hX xc5 hg1.1 hg1.2 (by decide) rfl eq5 kF5_16 d5_work_13 ?_
  refine x_iload_n hX d5_work_16 rfl rfl ?_
  obtain ⟨hg6, h⟩ := x_gd h
  refine x_iald hX hg6.1 (x_kd hg6.2.1) (x_in hg6.2.2) d5_work_17 ?_
  refine x_imul hX d5_work_18 ?_
  obtain ⟨x7, ex7, h⟩ := x_le h
  refine x_eqi ex7.symm ?_
  refine x_istore_n hX [(3, .int x7), (2, .int x4), (0, .ref (B + a0)), (1, .int a1)] d5_work_19 rfl (by decide) rfl ?_
  refine x_bipush (v := 64) hX d5_work_20 (by decide) ?_
  refine x_iload_n hX d5_work_22 rfl rfl ?_
  refine x_imul hX d5_work_23 ?_
  obtain ⟨x8, ex8, h⟩ := x_le h
  refine x_eqi ex8.symm ?_
  refine x_istore hX [(4, .int x8), (3, .int x7), (2, .int x4), (0, .ref (B + a0)), (1, .int a1)] d5_work_24 (by decide) rfl ?_
  refine x_iconst (v := 0) hX d5_work_26 (by decide) ?_
  refine x_istore hX [(5, .int (0 : Int32)), (4, .int x8), (3, .int x7), (2, .int x4), (0, .ref (B + a0)), (1, .int a1)] d5_work_27 (by decide) rfl ?_
  refine x_sub [4, 5, 3, 2, 1, 0] rfl ?_
  exact t_m5_work_L29 hX hR hr _ _ _ _ _ _ _ _ _ h

def m5_add_L121 (N : Nat) (K : Nat → Nat × Nat) (F : Nat → Nat → Option Nat) : Nat → (Nat → Nat → Int32) → (Nat → Nat → Int64) → Nat → Int32 → Int32 → Option (Int32 × (Nat → Nat → Int32) × (Nat → Nat → Int64))
  | 0, _, _, _, _, _ => none
  | n + 1, I, J, v0, v8, v9 => if (64 : Int32) ≤ v9 then (some (v8, I, J)) else (if v0 < N ∧ K v0 = (0, 5) then (xb (F v0 10) fun q2 => xb (F v0 6) fun q3 => if q3 < N ∧ (K q3).1 = 3 ∧ xinb (((64 : Int32) * v8) + v9) (K q3).2 then (if q2 < N ∧ (K q2).1 = 3 ∧ xinb (((64 : Int32) * v8) + v9) (K q2).2 then (if (I q3 ((((64 : Int32) * v8) + v9).toNatClampNeg)) = 0 ∨ (I q3 ((((64 : Int32) * v8) + v9).toNatClampNeg)) = 1 then (xlet (xu I q2 ((((64 : Int32) * v8) + v9).toNatClampNeg) (I q3 ((((64 : Int32) * v8) + v9).toNatClampNeg))) fun I7 => xb (F v0 11) fun q8 => xb (F v0 7) fun q9 => if q9 < N ∧ (K q9).1 = 2 ∧ xinb (((64 : Int32) * v8) + v9) (K q9).2 then (if q8 < N ∧ (K q8).1 = 2 ∧ xinb (((64 : Int32) * v8) + v9) (K q8).2 then (xlet (xu J q8 ((((64 : Int32) * v8) + v9).toNatClampNeg) (J q9 ((((64 : Int32) * v8) + v9).toNatClampNeg))) fun J12 => xlet (v9 + (1 : Int32)) fun x13 => m5_add_L121 N K F n I7 J12 v0 v8 x13) else none) else none) else none) else none) else none) else none)
def m5_add_L83 (N : Nat) (K : Nat → Nat × Nat) (F : Nat → Nat → Option Nat) : Nat → (Nat → Nat → Int32) → (Nat → Nat → Int64) → Nat → Int32 → Int32 → Int32 → Option (Int32 × (Nat → Nat → Int32) × (Nat → Nat → Int64))
  | 0, _, _, _, _, _, _ => none
  | n + 1, I, J, v0, v1, v8, v9 => if (64 : Int32) ≤ v9 then (if v1 ≤ 0 then (m5_add_L121 N K F xFu I J v0 v8 (0 : Int32)) else (if v0 < N ∧ K v0 = (0, 5) then (xb (m5_work N K F I J v0 v8) fun (I2, J3) => m5_add_L121 N K F xFu I2 J3 v0 v8 (0 : Int32)) else none)) else (if v0 < N ∧ K v0 = (0, 5) then (xb (m5_clearRow N K F I J v0 (((64 : Int32) * v8) + v9)) fun (I6, J7) => xlet (v9 + (1 : Int32)) fun x9 => m5_add_L83 N K F n I6 J7 v0 v1 v8 x9) else none)
def m5_add (N : Nat) (K : Nat → Nat × Nat) (F : Nat → Nat → Option Nat) (I : (Nat → Nat → Int32)) (J : (Nat → Nat → Int64)) (a0 : Nat) (a1 : Int32) (a2 : Int32) (a3 : Int32) (a4 : Int64) (a5 : Int64) : Option (Int32 × (Nat → Nat → Int32) × (Nat → Nat → Int64)) :=
  if a0 < N ∧ K a0 = (0, 5) then (if (I a0 20) = 0 then (if ¬ (I a0 0) = (12 : Int32) then (xlet ((I a0 0)) fun x2 => xlet (xu I a0 0 ((I a0 0) + (1 : Int32))) fun I3 => xb (F a0 1) fun q4 => if q4 < N ∧ (K q4).1 = 1 ∧ xinb x2 (K q4).2 then (xlet (xu I3 q4 (x2.toNatClampNeg) a1) fun I6 => xb (F a0 2) fun q7 => if q7 < N ∧ (K q7).1 = 1 ∧ xinb x2 (K q7).2 then (xlet (xu I6 q7 (x2.toNatClampNeg) a2) fun I9 => xb (F a0 3) fun q10 => if q10 < N ∧ (K q10).1 = 1 ∧ xinb x2 (K q10).2 then (xlet (xu I9 q10 (x2.toNatClampNeg) a3) fun I12 => xb (F a0 4) fun q13 => if q13 < N ∧ (K q13).1 = 2 ∧ xinb x2 (K q13).2 then (xlet (xu J q13 (x2.toNatClampNeg) a4) fun J15 => xb (F a0 5) fun q16 => if q16 < N ∧ (K q16).1 = 2 ∧ xinb x2 (K q16).2 then (xlet (xu J15 q16 (x2.toNatClampNeg) a5) fun J18 => m5_add_L83 N K F xFu I12 J18 a0 a1 x2 (0 : Int32)) else none) else none) else none) else none) else none) else (some ((-3 : Int32), I, J))) else (some ((-4 : Int32), I, J))) else none
set_option maxRecDepth 100000 in
set_option maxHeartbeats 4000000 in
theorem t_m5_add_L121 {X : xX} {B d : Nat} {g : xG} {N : Nat} {K : Nat → Nat × Nat} {F : Nat → Nat → Option Nat} {rv : Int32} {I' : (Nat → Nat → Int32)} {J' : (Nat → Nat → Int64)} (hX : xO X c5_add "ChangeRowsModel" 10 B g) (hR : x_R X = xrm (d + 3) 0 0) (hr : (x_meth X).sig.returnType = (some .int)) : ∀ (n : Nat) (I : (Nat → Nat → Int32)) (J : (Nat → Nat → Int64)) (v0 : Nat) (v8 : Int32) (v9 : Int32), m5_add_L121 N K F n I J v0 v8 v9 = some (rv, I', J') → xV X B 10 (xZ X B 0 0 (xq (some (.int rv)) (xP g B N K I' J' F))) 0 0 (xP g B N K I J F) 121 [(0, .ref (B + v0)), (8, .int v8), (9, .int v9)] [] := by
  intro n
  induction n with
  | zero =>
    intro I J v0 v8 v9 h
    cases h
  | succ n ih =>
    intro I J v0 v8 v9 h
    rw [m5_add_L121] at h
    refine x_iload hX d5_add_121 rfl ?_
    refine x_bipush (v := 64) hX d5_add_123 (by decide) ?_
    refine x_icmp_ge (tgt := 186) hX d5_add_125 (by decide) (fun hc => ?_) (fun hc => ?_)
    · rw [if_pos hc] at h
      refine x_iload hX d5_add_186 rfl ?_
      cases h
      exact x_iret hX hr d5_add_188 (fun H hP => ⟨rfl, hP⟩)
    · rw [if_neg hc] at h
      refine x_aload_n hX d5_add_128 rfl rfl ?_
      obtain ⟨hg1, h⟩ := x_gd h
      obtain ⟨q2, eq2, h⟩ := x_bd h
      refine x_getF (j := 10) hX xc5 hg1.1 hg1.2 (by decide) rfl eq2 kF5_39 d5_add_129 ?_
      refine x_bipush (v := 64) hX d5_add_132 (by decide) ?_
      refine x_iload hX d5_add_134 rfl ?_
      refine x_imul hX d5_add_136 ?_
      refine x_iload hX d5_add_137 rfl ?_
      refine x_iadd hX d5_add_139 ?_
      refine x_aload_n hX d5_add_140 rfl rfl ?_
      obtain ⟨q3, eq3, h⟩ := x_bd h
      refine x_getF (j := 6) hX xc5 hg1.1 hg1.2 (by decide) rfl eq3 kF5_26 d5_add_141 ?_
      refine x_bipush (v := 64) hX d5_add_144 (by decide) ?_
      refine x_iload hX d5_add_146 rfl ?_
      refine x_imul hX d5_add_148 ?_
      refine x_iload hX d5_add_149 rfl ?_
      refine x_iadd hX d5_add_151 ?_
      obtain ⟨hg4, h⟩ := x_gd h
      refine x_zald hX hg4.1 (x_kd hg4.2.1) (x_in hg4.2.2) d5_add_152 ?_
      obtain ⟨hg5, h⟩ := x_gd h
      obtain ⟨hg6, h⟩ := x_gd h
      refine x_zast hX hg5.1 (x_kd hg5.2.1) (x_in hg5.2.2) (x_nbool hg6) d5_add_153 ?_
      obtain ⟨I7, eI7, h⟩ := x_le h
      rw [← eI7]
      refine x_aload_n hX d5_add_154 rfl rfl ?_
      obtain ⟨q8, eq8, h⟩ := x_bd h
      refine x_getF (j := 11) hX xc5 hg1.1 hg1.2 (by decide) rfl eq8 kF5_42 d5_add_155 ?_
      refine x_bipush (v := 64) hX d5_add_158 (by decide) ?_
      refine x_iload hX d5_add_160 rfl ?_
      refine x_imul hX d5_add_162 ?_
      refine x_iload hX d5_add_163 rfl ?_
      refine x_iadd hX d5_add_165 ?_
      refine x_aload_n hX d5_add_166 rfl rfl ?_
      obtain ⟨q9, eq9, h⟩ := x_bd h
      refine x_getF (j := 7) hX xc5 hg1.1 hg1.2 (by decide) rfl eq9 kF5_30 d5_add_167 ?_
      refine x_bipush (v := 64) hX d5_add_170 (by decide) ?_
      refine x_iload hX d5_add_172 rfl ?_
      refine x_imul hX d5_add_174 ?_
      refine x_iload hX d5_add_175 rfl ?_
      refine x_iadd hX d5_add_177 ?_
      obtain ⟨hg10, h⟩ := x_gd h
      refine x_lald hX hg10.1 (x_kd hg10.2.1) (x_in hg10.2.2) d5_add_178 ?_
      obtain ⟨hg11, h⟩ := x_gd h
      refine x_last hX hg11.1 (x_kd hg11.2.1) (x_in hg11.2.2) d5_add_179 ?_
      obtain ⟨J12, eJ12, h⟩ := x_le h
      rw [← eJ12]
      obtain ⟨x13, ex13, h⟩ := x_le h
      refine x_iinc (j := 2) hX [(9, .int x13), (0, .ref (B + v0)), (8, .int v8)] d5_add_180 rfl (by rw [ex13]; rfl) (by decide) rfl ?_
      refine x_goto (tgt := 121) hX d5_add_183 (by decide) ?_
      refine x_sub [1, 2, 0] rfl ?_
      exact ih _ _ _ _ _ h
set_option maxRecDepth 100000 in
set_option maxHeartbeats 4000000 in
theorem t_m5_add_L83 {X : xX} {B d : Nat} {g : xG} {N : Nat} {K : Nat → Nat × Nat} {F : Nat → Nat → Option Nat} {rv : Int32} {I' : (Nat → Nat → Int32)} {J' : (Nat → Nat → Int64)} (hX : xO X c5_add "ChangeRowsModel" 10 B g) (hR : x_R X = xrm (d + 3) 0 0) (hr : (x_meth X).sig.returnType = (some .int)) : ∀ (n : Nat) (I : (Nat → Nat → Int32)) (J : (Nat → Nat → Int64)) (v0 : Nat) (v1 : Int32) (v8 : Int32) (v9 : Int32), m5_add_L83 N K F n I J v0 v1 v8 v9 = some (rv, I', J') → xV X B 10 (xZ X B 0 0 (xq (some (.int rv)) (xP g B N K I' J' F))) 0 0 (xP g B N K I J F) 83 [(0, .ref (B + v0)), (1, .int v1), (8, .int v8), (9, .int v9)] [] := by
  intro n
  induction n with
  | zero =>
    intro I J v0 v1 v8 v9 h
    cases h
  | succ n ih =>
    intro I J v0 v1 v8 v9 h
    rw [m5_add_L83] at h
    refine x_iload hX d5_add_83 rfl ?_
    refine x_bipush (v := 64) hX d5_add_85 (by decide) ?_
    refine x_icmp_ge (tgt := 108) hX d5_add_87 (by decide) (fun hc => ?_) (fun hc => ?_)
    · rw [if_pos hc] at h
      refine x_iload_n hX d5_add_108 rfl rfl ?_
      refine x_if_le (tgt := 118) hX d5_add_109 (by decide) (fun hc => ?_) (fun hc => ?_)
      · rw [if_pos hc] at h
        refine x_iconst (v := 0) hX d5_add_118 (by decide) ?_
        refine x_istore hX [(9, .int (0 : Int32)), (0, .ref (B + v0)), (1, .int v1), (8, .int v8)] d5_add_119 (by decide) rfl ?_
        refine x_sub [1, 3, 0] rfl ?_
        exact t_m5_add_L121 hX hR hr _ _ _ _ _ _ h
      · rw [if_neg hc] at h
        refine x_aload_n hX d5_add_112 rfl rfl ?_
        refine x_iload hX d5_add_113 rfl ?_
        obtain ⟨hg1, h⟩ := x_gd h
        obtain ⟨⟨I2, J3⟩, eb4, h⟩ := x_bd h
        dsimp only at h
        refine x_callV hX hR (c_m5_work (l := x_l X) (d := d + 0) eb4) kX5_136 kN5_work kE5_work xc5.1 hg1.1 hg1.2 rfl rfl (Nat.le_of_ble_eq_true rfl) ⟨Nat.le_refl 0, Nat.le_refl 0⟩ d5_add_115 (x_kkv ?_)
        refine x_iconst (v := 0) hX d5_add_118 (by decide) ?_
        refine x_istore hX [(9, .int (0 : Int32)), (0, .ref (B + v0)), (1, .int v1), (8, .int v8)] d5_add_119 (by decide) rfl ?_
        refine x_sub [1, 3, 0] rfl ?_
        exact t_m5_add_L121 hX hR hr _ _ _ _ _ _ h
    · rw [if_neg hc] at h
      refine x_aload_n hX d5_add_90 rfl rfl ?_
      refine x_bipush (v := 64) hX d5_add_91 (by decide) ?_
      refine x_iload hX d5_add_93 rfl ?_
      refine x_imul hX d5_add_95 ?_
      refine x_iload hX d5_add_96 rfl ?_
      refine x_iadd hX d5_add_98 ?_
      obtain ⟨hg5, h⟩ := x_gd h
      obtain ⟨⟨I6, J7⟩, eb8, h⟩ := x_bd h
      dsimp only at h
      refine x_callV hX hR (c_m5_clearRow (l := x_l X) (d := d + 2) eb8) kX5_119 kN5_clearRow kE5_clearRow xc5.1 hg5.1 hg5.2 rfl rfl (Nat.le_of_ble_eq_true rfl) ⟨Nat.le_refl 0, Nat.le_refl 0⟩ d5_add_99 (x_kkv ?_)
      obtain ⟨x9, ex9, h⟩ := x_le h
      refine x_iinc (j := 3) hX [(9, .int x9), (0, .ref (B + v0)), (1, .int v1), (8, .int v8)] d5_add_102 rfl (by rw [ex9]; rfl) (by decide) rfl ?_
      refine x_goto (tgt := 83) hX d5_add_105 (by decide) ?_
      refine x_sub [1, 2, 3, 0] rfl ?_
      exact ih _ _ _ _ _ _ h
set_option maxRecDepth 100000 in
set_option maxHeartbeats 4000000 in
theorem c_m5_add {l : Launch} {B d : Nat} {g : xG} {N : Nat} {K : Nat → Nat × Nat} {F : Nat → Nat → Option Nat} {I : (Nat → Nat → Int32)} {J : (Nat → Nat → Int64)} {a0 : Nat} {a1 : Int32} {a2 : Int32} {a3 : Int32} {a4 : Int64} {a5 : Int64} {rv : Int32} {I' : (Nat → Nat → Int32)} {J' : (Nat → Nat → Int64)} (h : m5_add N K F I J a0 a1 a2 a3 a4 a5 = some (rv, I', J')) : xC l g B (d + 3) 0 0 y5_add c5_add 10 (some .int) [.ref (B + a0), .int a1, .int a2, .int a3, .long a4, .long a5] (xP g B N K I J F) (xq (some (.int rv)) (xP g B N K I' J' F)) := by
  refine xC_of (by decide) (Nat.le_of_ble_eq_true rfl) (fun X hl hR hr _ hX => ?_)
  refine x_sub (L' := [(0, .ref (B + a0)), (1, .int a1), (2, .int a2), (3, .int a3), (4, .long a4), (6, .long a5)]) [0, 1, 2, 3, 4, 5] rfl ?_
  unfold m5_add at h
  refine x_aload_n hX d5_add_0 rfl rfl ?_
  obtain ⟨hg1, h⟩ := x_gd h
  refine x_getI (j := 20) hX xc5 hg1.1 hg1.2 (by decide) rfl kF5_100 d5_add_1 ?_
  refine x_if_eq (tgt := 10) hX d5_add_4 (by decide) (fun hc => ?_) (fun hc => ?_)
  · rw [if_pos hc] at h
    refine x_aload_n hX d5_add_10 rfl rfl ?_
    refine x_getI (j := 0) hX xc5 hg1.1 hg1.2 (by decide) rfl kF5_87 d5_add_11 ?_
    refine x_bipush (v := 12) hX d5_add_14 (by decide) ?_
    refine x_icmp_ne (tgt := 22) hX d5_add_16 (by decide) (fun hc => ?_) (fun hc => ?_)
    · rw [if_pos hc] at h
      refine x_aload_n hX d5_add_22 rfl rfl ?_
      refine x_getI (j := 0) hX xc5 hg1.1 hg1.2 (by decide) rfl kF5_87 d5_add_23 ?_
      obtain ⟨x2, ex2, h⟩ := x_le h
      refine x_eqi ex2.symm ?_
      refine x_istore hX [(8, .int x2), (0, .ref (B + a0)), (1, .int a1), (2, .int a2), (3, .int a3), (4, .long a4), (6, .long a5)] d5_add_26 (by decide) rfl ?_
      refine x_aload_n hX d5_add_28 rfl rfl ?_
      refine x_dup hX d5_add_29 rfl ?_
      refine x_getI (j := 0) hX xc5 hg1.1 hg1.2 (by decide) rfl kF5_87 d5_add_30 ?_
      refine x_iconst (v := 1) hX d5_add_33 (by decide) ?_
      refine x_iadd hX d5_add_34 ?_
      refine x_putI (j := 0) hX xc5 hg1.1 hg1.2 (by decide) rfl kF5_87 (Or.inl rfl) rfl rfl d5_add_35 ?_
      obtain ⟨I3, eI3, h⟩ := x_le h
      rw [← eI3]
      refine x_aload_n hX d5_add_38 rfl rfl ?_
      obtain ⟨q4, eq4, h⟩ := x_bd h
      refine x_getF (j := 1) hX xc5 hg1.1 hg1.2 (by decide) rfl eq4 kF5_7 d5_add_39 ?_
      refine x_iload hX d5_add_42 rfl ?_
      refine x_iload_n hX d5_add_44 rfl rfl ?_
      obtain ⟨hg5, h⟩ := x_gd h
      refine x_iast hX hg5.1 (x_kd hg5.2.1) (x_in hg5.2.2) d5_add_45 ?_
      obtain ⟨I6, eI6, h⟩ := x_le h
      rw [← eI6]
      refine x_aload_n hX d5_add_46 rfl rfl ?_
      obtain ⟨q7, eq7, h⟩ := x_bd h
      refine x_getF (j := 2) hX xc5 hg1.1 hg1.2 (by decide) rfl eq7 kF5_13 d5_add_47 ?_
      refine x_iload hX d5_add_50 rfl ?_
      refine x_iload_n hX d5_add_52 rfl rfl ?_
      obtain ⟨hg8, h⟩ := x_gd h
      refine x_iast hX hg8.1 (x_kd hg8.2.1) (x_in hg8.2.2) d5_add_53 ?_
      obtain ⟨I9, eI9, h⟩ := x_le h
      rw [← eI9]
      refine x_aload_n hX d5_add_54 rfl rfl ?_
      obtain ⟨q10, eq10, h⟩ := x_bd h
      refine x_getF (j := 3) hX xc5 hg1.1 hg1.2 (by decide) rfl eq10 kF5_16 d5_add_55 ?_
      refine x_iload hX d5_add_58 rfl ?_
      refine x_iload_n hX d5_add_60 rfl rfl ?_
      obtain ⟨hg11, h⟩ := x_gd h
      refine x_iast hX hg11.1 (x_kd hg11.2.1) (x_in hg11.2.2) d5_add_61 ?_
      obtain ⟨I12, eI12, h⟩ := x_le h
      rw [← eI12]
      refine x_aload_n hX d5_add_62 rfl rfl ?_
      obtain ⟨q13, eq13, h⟩ := x_bd h
      refine x_getF (j := 4) hX xc5 hg1.1 hg1.2 (by decide) rfl eq13 kF5_19 d5_add_63 ?_
      refine x_iload hX d5_add_66 rfl ?_
      refine x_lload hX d5_add_68 rfl ?_
      obtain ⟨hg14, h⟩ := x_gd h
      refine x_last hX hg14.1 (x_kd hg14.2.1) (x_in hg14.2.2) d5_add_70 ?_
      obtain ⟨J15, eJ15, h⟩ := x_le h
      rw [← eJ15]
      refine x_aload_n hX d5_add_71 rfl rfl ?_
      obtain ⟨q16, eq16, h⟩ := x_bd h
      refine x_getF (j := 5) hX xc5 hg1.1 hg1.2 (by decide) rfl eq16 kF5_23 d5_add_72 ?_
      refine x_iload hX d5_add_75 rfl ?_
      refine x_lload hX d5_add_77 rfl ?_
      obtain ⟨hg17, h⟩ := x_gd h
      refine x_last hX hg17.1 (x_kd hg17.2.1) (x_in hg17.2.2) d5_add_79 ?_
      obtain ⟨J18, eJ18, h⟩ := x_le h
      rw [← eJ18]
      refine x_iconst (v := 0) hX d5_add_80 (by decide) ?_
      refine x_istore hX [(9, .int (0 : Int32)), (8, .int x2), (0, .ref (B + a0)), (1, .int a1), (2, .int a2), (3, .int a3), (4, .long a4), (6, .long a5)] d5_add_81 (by decide) rfl ?_
      refine x_sub [2, 3, 1, 0] rfl ?_
      exact t_m5_add_L83 hX hR hr _ _ _ _ _ _ _ h
    · rw [if_neg (x_nn hc)] at h
      refine x_bipush (v := -3) hX d5_add_19 (by decide) ?_
      cases h
      exact x_iret hX hr d5_add_21 (fun H hP => ⟨rfl, hP⟩)
  · rw [if_neg hc] at h
    refine x_bipush (v := -4) hX d5_add_7 (by decide) ?_
    cases h
    exact x_iret hX hr d5_add_9 (fun H hP => ⟨rfl, hP⟩)

def m5_source (N : Nat) (K : Nat → Nat × Nat) (F : Nat → Nat → Option Nat) (I : (Nat → Nat → Int32)) (J : (Nat → Nat → Int64)) (a0 : Nat) : Option (Int32 × (Nat → Nat → Int32) × (Nat → Nat → Int64)) :=
  if a0 < N ∧ K a0 = (0, 5) then (xb (m5_add N K F I J a0 (0 : Int32) (0 : Int32) (0 : Int32) (0 : Int64) (0 : Int64)) fun (x2, I3, J4) => some (x2, I3, J4)) else none
set_option maxRecDepth 100000 in
set_option maxHeartbeats 4000000 in
theorem c_m5_source {l : Launch} {B d : Nat} {g : xG} {N : Nat} {K : Nat → Nat × Nat} {F : Nat → Nat → Option Nat} {I : (Nat → Nat → Int32)} {J : (Nat → Nat → Int64)} {a0 : Nat} {rv : Int32} {I' : (Nat → Nat → Int32)} {J' : (Nat → Nat → Int64)} (h : m5_source N K F I J a0 = some (rv, I', J')) : xC l g B (d + 4) 0 0 y5_source c5_source 1 (some .int) [.ref (B + a0)] (xP g B N K I J F) (xq (some (.int rv)) (xP g B N K I' J' F)) := by
  refine xC_of (by decide) (Nat.le_of_ble_eq_true rfl) (fun X hl hR hr _ hX => ?_)
  refine x_sub (L' := [(0, .ref (B + a0))]) [0] rfl ?_
  unfold m5_source at h
  refine x_aload_n hX d5_source_0 rfl rfl ?_
  refine x_iconst (v := 0) hX d5_source_1 (by decide) ?_
  refine x_iconst (v := 0) hX d5_source_2 (by decide) ?_
  refine x_iconst (v := 0) hX d5_source_3 (by decide) ?_
  refine x_lconst (v := 0) hX d5_source_4 (by decide) ?_
  refine x_lconst (v := 0) hX d5_source_5 (by decide) ?_
  obtain ⟨hg1, h⟩ := x_gd h
  obtain ⟨⟨x2, I3, J4⟩, eb5, h⟩ := x_bd h
  dsimp only at h
  refine x_callV hX hR (c_m5_add (l := x_l X) (d := d + 0) eb5) kX5_139 kN5_add kE5_add xc5.1 hg1.1 hg1.2 rfl rfl (Nat.le_of_ble_eq_true rfl) ⟨Nat.le_refl 0, Nat.le_refl 0⟩ d5_source_6 (x_kki ?_)
  cases h
  exact x_iret hX hr d5_source_9 (fun H hP => ⟨rfl, hP⟩)

def m5_filter (N : Nat) (K : Nat → Nat × Nat) (F : Nat → Nat → Option Nat) (I : (Nat → Nat → Int32)) (J : (Nat → Nat → Int64)) (a0 : Nat) (a1 : Int32) (a2 : Int64) (a3 : Int64) : Option (Int32 × (Nat → Nat → Int32) × (Nat → Nat → Int64)) :=
  if a0 < N ∧ K a0 = (0, 5) then (xb (m5_isTable N K F I J a0 a1) fun x2 => if x2 = 0 then (some ((-2 : Int32), I, J)) else (if a3 < a2 then (some ((-2 : Int32), I, J)) else (xb (m5_add N K F I J a0 (1 : Int32) a1 (0 : Int32) a2 a3) fun (x4, I5, J6) => some (x4, I5, J6)))) else none
set_option maxRecDepth 100000 in
set_option maxHeartbeats 4000000 in
theorem c_m5_filter {l : Launch} {B d : Nat} {g : xG} {N : Nat} {K : Nat → Nat × Nat} {F : Nat → Nat → Option Nat} {I : (Nat → Nat → Int32)} {J : (Nat → Nat → Int64)} {a0 : Nat} {a1 : Int32} {a2 : Int64} {a3 : Int64} {rv : Int32} {I' : (Nat → Nat → Int32)} {J' : (Nat → Nat → Int64)} (h : m5_filter N K F I J a0 a1 a2 a3 = some (rv, I', J')) : xC l g B (d + 4) 0 0 y5_filter c5_filter 6 (some .int) [.ref (B + a0), .int a1, .long a2, .long a3] (xP g B N K I J F) (xq (some (.int rv)) (xP g B N K I' J' F)) := by
  refine xC_of (by decide) (Nat.le_of_ble_eq_true rfl) (fun X hl hR hr _ hX => ?_)
  refine x_sub (L' := [(0, .ref (B + a0)), (1, .int a1), (2, .long a2), (4, .long a3)]) [0, 1, 2, 3] rfl ?_
  unfold m5_filter at h
  refine x_aload_n hX d5_filter_0 rfl rfl ?_
  refine x_iload_n hX d5_filter_1 rfl rfl ?_
  obtain ⟨hg1, h⟩ := x_gd h
  obtain ⟨x2, eb3, h⟩ := x_bd h
  refine x_callV hX hR (c_m5_isTable (l := x_l X) (d := d + 2) eb3) kX5_143 kN5_isTable kE5_isTable xc5.1 hg1.1 hg1.2 rfl rfl (Nat.le_of_ble_eq_true rfl) ⟨Nat.le_refl 0, Nat.le_refl 0⟩ d5_filter_2 (x_kki ?_)
  refine x_if_eq (tgt := 28) hX d5_filter_5 (by decide) (fun hc => ?_) (fun hc => ?_)
  · rw [if_pos hc] at h
    refine x_bipush (v := -2) hX d5_filter_28 (by decide) ?_
    cases h
    exact x_iret hX hr d5_filter_30 (fun H hP => ⟨rfl, hP⟩)
  · rw [if_neg hc] at h
    refine x_lload_n hX d5_filter_8 rfl rfl ?_
    refine x_lload hX d5_filter_9 rfl ?_
    refine x_lif_gt (tgt := 28) hX d5_filter_11 d5_filter_12 (by decide) (fun hc => ?_) (fun hc => ?_)
    · rw [if_pos hc] at h
      refine x_bipush (v := -2) hX d5_filter_28 (by decide) ?_
      cases h
      exact x_iret hX hr d5_filter_30 (fun H hP => ⟨rfl, hP⟩)
    · rw [if_neg hc] at h
      refine x_aload_n hX d5_filter_15 rfl rfl ?_
      refine x_iconst (v := 1) hX d5_filter_16 (by decide) ?_
      refine x_iload_n hX d5_filter_17 rfl rfl ?_
      refine x_iconst (v := 0) hX d5_filter_18 (by decide) ?_
      refine x_lload_n hX d5_filter_19 rfl rfl ?_
      refine x_lload hX d5_filter_20 rfl ?_
      obtain ⟨⟨x4, I5, J6⟩, eb7, h⟩ := x_bd h
      dsimp only at h
      refine x_callV hX hR (c_m5_add (l := x_l X) (d := d + 0) eb7) kX5_139 kN5_add kE5_add xc5.1 hg1.1 hg1.2 rfl rfl (Nat.le_of_ble_eq_true rfl) ⟨Nat.le_refl 0, Nat.le_refl 0⟩ d5_filter_22 (x_kki ?_)
      refine x_goto (tgt := 30) hX d5_filter_25 (by decide) ?_
      cases h
      exact x_iret hX hr d5_filter_30 (fun H hP => ⟨rfl, hP⟩)

def m5_map (N : Nat) (K : Nat → Nat × Nat) (F : Nat → Nat → Option Nat) (I : (Nat → Nat → Int32)) (J : (Nat → Nat → Int64)) (a0 : Nat) (a1 : Int32) (a2 : Int32) (a3 : Int32) : Option (Int32 × (Nat → Nat → Int32) × (Nat → Nat → Int64)) :=
  if a0 < N ∧ K a0 = (0, 5) then (xb (m5_isTable N K F I J a0 a1) fun x2 => if x2 = 0 then (some ((-2 : Int32), I, J)) else (xb (m5_isIn N K F I J (a2.toInt64) ((-1000) : Int64) (1000 : Int64)) fun x4 => if x4 = 0 then (some ((-2 : Int32), I, J)) else (xb (m5_isIn N K F I J (a3.toInt64) ((-1000) : Int64) (1000 : Int64)) fun x6 => if x6 = 0 then (some ((-2 : Int32), I, J)) else (xb (m5_add N K F I J a0 (2 : Int32) a1 (0 : Int32) (a2.toInt64) (a3.toInt64)) fun (x8, I9, J10) => some (x8, I9, J10))))) else none
set_option maxRecDepth 100000 in
set_option maxHeartbeats 4000000 in
theorem c_m5_map {l : Launch} {B d : Nat} {g : xG} {N : Nat} {K : Nat → Nat × Nat} {F : Nat → Nat → Option Nat} {I : (Nat → Nat → Int32)} {J : (Nat → Nat → Int64)} {a0 : Nat} {a1 : Int32} {a2 : Int32} {a3 : Int32} {rv : Int32} {I' : (Nat → Nat → Int32)} {J' : (Nat → Nat → Int64)} (h : m5_map N K F I J a0 a1 a2 a3 = some (rv, I', J')) : xC l g B (d + 4) 0 0 y5_map c5_map 4 (some .int) [.ref (B + a0), .int a1, .int a2, .int a3] (xP g B N K I J F) (xq (some (.int rv)) (xP g B N K I' J' F)) := by
  refine xC_of (by decide) (Nat.le_of_ble_eq_true rfl) (fun X hl hR hr _ hX => ?_)
  refine x_sub (L' := [(0, .ref (B + a0)), (1, .int a1), (2, .int a2), (3, .int a3)]) [0, 1, 2, 3] rfl ?_
  unfold m5_map at h
  refine x_aload_n hX d5_map_0 rfl rfl ?_
  refine x_iload_n hX d5_map_1 rfl rfl ?_
  obtain ⟨hg1, h⟩ := x_gd h
  obtain ⟨x2, eb3, h⟩ := x_bd h
  refine x_callV hX hR (c_m5_isTable (l := x_l X) (d := d + 2) eb3) kX5_143 kN5_isTable kE5_isTable xc5.1 hg1.1 hg1.2 rfl rfl (Nat.le_of_ble_eq_true rfl) ⟨Nat.le_refl 0, Nat.le_refl 0⟩ d5_map_2 (x_kki ?_)
  refine x_if_eq (tgt := 50) hX d5_map_5 (by decide) (fun hc => ?_) (fun hc => ?_)
  · rw [if_pos hc] at h
    refine x_bipush (v := -2) hX d5_map_50 (by decide) ?_
    cases h
    exact x_iret hX hr d5_map_52 (fun H hP => ⟨rfl, hP⟩)
  · rw [if_neg hc] at h
    refine x_iload_n hX d5_map_8 rfl rfl ?_
    refine x_i2l hX d5_map_9 ?_
    refine x_ldc2 (v := (-1000)) hX kC5_147 d5_map_10 ?_
    refine x_ldc2 (v := 1000) hX kC5_149 d5_map_13 ?_
    obtain ⟨x4, eb5, h⟩ := x_bd h
    refine x_callS hX hR (c_m5_isIn (l := x_l X) (d := d + 3) eb5) kX5_107 kS5_isIn rfl rfl (Nat.le_of_ble_eq_true rfl) ⟨Nat.le_refl 0, Nat.le_refl 0⟩ d5_map_16 (x_kki ?_)
    refine x_if_eq (tgt := 50) hX d5_map_19 (by decide) (fun hc => ?_) (fun hc => ?_)
    · rw [if_pos hc] at h
      refine x_bipush (v := -2) hX d5_map_50 (by decide) ?_
      cases h
      exact x_iret hX hr d5_map_52 (fun H hP => ⟨rfl, hP⟩)
    · rw [if_neg hc] at h
      refine x_iload_n hX d5_map_22 rfl rfl ?_
      refine x_i2l hX d5_map_23 ?_
      refine x_ldc2 (v := (-1000)) hX kC5_147 d5_map_24 ?_
      refine x_ldc2 (v := 1000) hX kC5_149 d5_map_27 ?_
      obtain ⟨x6, eb7, h⟩ := x_bd h
      refine x_callS hX hR (c_m5_isIn (l := x_l X) (d := d + 3) eb7) kX5_107 kS5_isIn rfl rfl (Nat.le_of_ble_eq_true rfl) ⟨Nat.le_refl 0, Nat.le_refl 0⟩ d5_map_30 (x_kki ?_)
      refine x_if_eq (tgt := 50) hX d5_map_33 (by decide) (fun hc => ?_) (fun hc => ?_)
      · rw [if_pos hc] at h
        refine x_bipush (v := -2) hX d5_map_50 (by decide) ?_
        cases h
        exact x_iret hX hr d5_map_52 (fun H hP => ⟨rfl, hP⟩)
      · rw [if_neg hc] at h
        refine x_aload_n hX d5_map_36 rfl rfl ?_
        refine x_iconst (v := 2) hX d5_map_37 (by decide) ?_
        refine x_iload_n hX d5_map_38 rfl rfl ?_
        refine x_iconst (v := 0) hX d5_map_39 (by decide) ?_
        refine x_iload_n hX d5_map_40 rfl rfl ?_
        refine x_i2l hX d5_map_41 ?_
        refine x_iload_n hX d5_map_42 rfl rfl ?_
        refine x_i2l hX d5_map_43 ?_
        obtain ⟨⟨x8, I9, J10⟩, eb11, h⟩ := x_bd h
        dsimp only at h
        refine x_callV hX hR (c_m5_add (l := x_l X) (d := d + 0) eb11) kX5_139 kN5_add kE5_add xc5.1 hg1.1 hg1.2 rfl rfl (Nat.le_of_ble_eq_true rfl) ⟨Nat.le_refl 0, Nat.le_refl 0⟩ d5_map_44 (x_kki ?_)
        refine x_goto (tgt := 52) hX d5_map_47 (by decide) ?_
        cases h
        exact x_iret hX hr d5_map_52 (fun H hP => ⟨rfl, hP⟩)

def m5_fold (N : Nat) (K : Nat → Nat × Nat) (F : Nat → Nat → Option Nat) (I : (Nat → Nat → Int32)) (J : (Nat → Nat → Int64)) (a0 : Nat) (a1 : Int32) (a2 : Int32) (a3 : Int32) : Option (Int32 × (Nat → Nat → Int32) × (Nat → Nat → Int64)) :=
  if a0 < N ∧ K a0 = (0, 5) then (xb (m5_isTable N K F I J a0 a1) fun x2 => if x2 = 0 then (some ((-2 : Int32), I, J)) else (xb (m5_isIn N K F I J (a2.toInt64) (0 : Int64) (4 : Int64)) fun x4 => if x4 = 0 then (some ((-2 : Int32), I, J)) else (xb (m5_isIn N K F I J (a3.toInt64) (1 : Int64) (64 : Int64)) fun x6 => if x6 = 0 then (some ((-2 : Int32), I, J)) else (xb (m5_add N K F I J a0 (3 : Int32) a1 (0 : Int32) (a2.toInt64) (a3.toInt64)) fun (x8, I9, J10) => some (x8, I9, J10))))) else none
set_option maxRecDepth 100000 in
set_option maxHeartbeats 4000000 in
theorem c_m5_fold {l : Launch} {B d : Nat} {g : xG} {N : Nat} {K : Nat → Nat × Nat} {F : Nat → Nat → Option Nat} {I : (Nat → Nat → Int32)} {J : (Nat → Nat → Int64)} {a0 : Nat} {a1 : Int32} {a2 : Int32} {a3 : Int32} {rv : Int32} {I' : (Nat → Nat → Int32)} {J' : (Nat → Nat → Int64)} (h : m5_fold N K F I J a0 a1 a2 a3 = some (rv, I', J')) : xC l g B (d + 4) 0 0 y5_fold c5_fold 4 (some .int) [.ref (B + a0), .int a1, .int a2, .int a3] (xP g B N K I J F) (xq (some (.int rv)) (xP g B N K I' J' F)) := by
  refine xC_of (by decide) (Nat.le_of_ble_eq_true rfl) (fun X hl hR hr _ hX => ?_)
  refine x_sub (L' := [(0, .ref (B + a0)), (1, .int a1), (2, .int a2), (3, .int a3)]) [0, 1, 2, 3] rfl ?_
  unfold m5_fold at h
  refine x_aload_n hX d5_fold_0 rfl rfl ?_
  refine x_iload_n hX d5_fold_1 rfl rfl ?_
  obtain ⟨hg1, h⟩ := x_gd h
  obtain ⟨x2, eb3, h⟩ := x_bd h
  refine x_callV hX hR (c_m5_isTable (l := x_l X) (d := d + 2) eb3) kX5_143 kN5_isTable kE5_isTable xc5.1 hg1.1 hg1.2 rfl rfl (Nat.le_of_ble_eq_true rfl) ⟨Nat.le_refl 0, Nat.le_refl 0⟩ d5_fold_2 (x_kki ?_)
  refine x_if_eq (tgt := 46) hX d5_fold_5 (by decide) (fun hc => ?_) (fun hc => ?_)
  · rw [if_pos hc] at h
    refine x_bipush (v := -2) hX d5_fold_46 (by decide) ?_
    cases h
    exact x_iret hX hr d5_fold_48 (fun H hP => ⟨rfl, hP⟩)
  · rw [if_neg hc] at h
    refine x_iload_n hX d5_fold_8 rfl rfl ?_
    refine x_i2l hX d5_fold_9 ?_
    refine x_lconst (v := 0) hX d5_fold_10 (by decide) ?_
    refine x_ldc2 (v := 4) hX kC5_151 d5_fold_11 ?_
    obtain ⟨x4, eb5, h⟩ := x_bd h
    refine x_callS hX hR (c_m5_isIn (l := x_l X) (d := d + 3) eb5) kX5_107 kS5_isIn rfl rfl (Nat.le_of_ble_eq_true rfl) ⟨Nat.le_refl 0, Nat.le_refl 0⟩ d5_fold_14 (x_kki ?_)
    refine x_if_eq (tgt := 46) hX d5_fold_17 (by decide) (fun hc => ?_) (fun hc => ?_)
    · rw [if_pos hc] at h
      refine x_bipush (v := -2) hX d5_fold_46 (by decide) ?_
      cases h
      exact x_iret hX hr d5_fold_48 (fun H hP => ⟨rfl, hP⟩)
    · rw [if_neg hc] at h
      refine x_iload_n hX d5_fold_20 rfl rfl ?_
      refine x_i2l hX d5_fold_21 ?_
      refine x_lconst (v := 1) hX d5_fold_22 (by decide) ?_
      refine x_ldc2 (v := 64) hX kC5_153 d5_fold_23 ?_
      obtain ⟨x6, eb7, h⟩ := x_bd h
      refine x_callS hX hR (c_m5_isIn (l := x_l X) (d := d + 3) eb7) kX5_107 kS5_isIn rfl rfl (Nat.le_of_ble_eq_true rfl) ⟨Nat.le_refl 0, Nat.le_refl 0⟩ d5_fold_26 (x_kki ?_)
      refine x_if_eq (tgt := 46) hX d5_fold_29 (by decide) (fun hc => ?_) (fun hc => ?_)
      · rw [if_pos hc] at h
        refine x_bipush (v := -2) hX d5_fold_46 (by decide) ?_
        cases h
        exact x_iret hX hr d5_fold_48 (fun H hP => ⟨rfl, hP⟩)
      · rw [if_neg hc] at h
        refine x_aload_n hX d5_fold_32 rfl rfl ?_
        refine x_iconst (v := 3) hX d5_fold_33 (by decide) ?_
        refine x_iload_n hX d5_fold_34 rfl rfl ?_
        refine x_iconst (v := 0) hX d5_fold_35 (by decide) ?_
        refine x_iload_n hX d5_fold_36 rfl rfl ?_
        refine x_i2l hX d5_fold_37 ?_
        refine x_iload_n hX d5_fold_38 rfl rfl ?_
        refine x_i2l hX d5_fold_39 ?_
        obtain ⟨⟨x8, I9, J10⟩, eb11, h⟩ := x_bd h
        dsimp only at h
        refine x_callV hX hR (c_m5_add (l := x_l X) (d := d + 0) eb11) kX5_139 kN5_add kE5_add xc5.1 hg1.1 hg1.2 rfl rfl (Nat.le_of_ble_eq_true rfl) ⟨Nat.le_refl 0, Nat.le_refl 0⟩ d5_fold_40 (x_kki ?_)
        refine x_goto (tgt := 48) hX d5_fold_43 (by decide) ?_
        cases h
        exact x_iret hX hr d5_fold_48 (fun H hP => ⟨rfl, hP⟩)

def m5_join (N : Nat) (K : Nat → Nat × Nat) (F : Nat → Nat → Option Nat) (I : (Nat → Nat → Int32)) (J : (Nat → Nat → Int64)) (a0 : Nat) (a1 : Int32) (a2 : Int32) (a3 : Int32) : Option (Int32 × (Nat → Nat → Int32) × (Nat → Nat → Int64)) :=
  if a0 < N ∧ K a0 = (0, 5) then (xb (m5_isTable N K F I J a0 a1) fun x2 => if x2 = 0 then (some ((-2 : Int32), I, J)) else (xb (m5_isTable N K F I J a0 a2) fun x4 => if x4 = 0 then (some ((-2 : Int32), I, J)) else (xb (m5_isIn N K F I J (a3.toInt64) (0 : Int64) (1 : Int64)) fun x6 => if x6 = 0 then (some ((-2 : Int32), I, J)) else (xb (m5_add N K F I J a0 (4 : Int32) a1 a2 (a3.toInt64) (0 : Int64)) fun (x8, I9, J10) => some (x8, I9, J10))))) else none
set_option maxRecDepth 100000 in
set_option maxHeartbeats 4000000 in
theorem c_m5_join {l : Launch} {B d : Nat} {g : xG} {N : Nat} {K : Nat → Nat × Nat} {F : Nat → Nat → Option Nat} {I : (Nat → Nat → Int32)} {J : (Nat → Nat → Int64)} {a0 : Nat} {a1 : Int32} {a2 : Int32} {a3 : Int32} {rv : Int32} {I' : (Nat → Nat → Int32)} {J' : (Nat → Nat → Int64)} (h : m5_join N K F I J a0 a1 a2 a3 = some (rv, I', J')) : xC l g B (d + 4) 0 0 y5_join c5_join 4 (some .int) [.ref (B + a0), .int a1, .int a2, .int a3] (xP g B N K I J F) (xq (some (.int rv)) (xP g B N K I' J' F)) := by
  refine xC_of (by decide) (Nat.le_of_ble_eq_true rfl) (fun X hl hR hr _ hX => ?_)
  refine x_sub (L' := [(0, .ref (B + a0)), (1, .int a1), (2, .int a2), (3, .int a3)]) [0, 1, 2, 3] rfl ?_
  unfold m5_join at h
  refine x_aload_n hX d5_join_0 rfl rfl ?_
  refine x_iload_n hX d5_join_1 rfl rfl ?_
  obtain ⟨hg1, h⟩ := x_gd h
  obtain ⟨x2, eb3, h⟩ := x_bd h
  refine x_callV hX hR (c_m5_isTable (l := x_l X) (d := d + 2) eb3) kX5_143 kN5_isTable kE5_isTable xc5.1 hg1.1 hg1.2 rfl rfl (Nat.le_of_ble_eq_true rfl) ⟨Nat.le_refl 0, Nat.le_refl 0⟩ d5_join_2 (x_kki ?_)
  refine x_if_eq (tgt := 39) hX d5_join_5 (by decide) (fun hc => ?_) (fun hc => ?_)
  · rw [if_pos hc] at h
    refine x_bipush (v := -2) hX d5_join_39 (by decide) ?_
    cases h
    exact x_iret hX hr d5_join_41 (fun H hP => ⟨rfl, hP⟩)
  · rw [if_neg hc] at h
    refine x_aload_n hX d5_join_8 rfl rfl ?_
    refine x_iload_n hX d5_join_9 rfl rfl ?_
    obtain ⟨x4, eb5, h⟩ := x_bd h
    refine x_callV hX hR (c_m5_isTable (l := x_l X) (d := d + 2) eb5) kX5_143 kN5_isTable kE5_isTable xc5.1 hg1.1 hg1.2 rfl rfl (Nat.le_of_ble_eq_true rfl) ⟨Nat.le_refl 0, Nat.le_refl 0⟩ d5_join_10 (x_kki ?_)
    refine x_if_eq (tgt := 39) hX d5_join_13 (by decide) (fun hc => ?_) (fun hc => ?_)
    · rw [if_pos hc] at h
      refine x_bipush (v := -2) hX d5_join_39 (by decide) ?_
      cases h
      exact x_iret hX hr d5_join_41 (fun H hP => ⟨rfl, hP⟩)
    · rw [if_neg hc] at h
      refine x_iload_n hX d5_join_16 rfl rfl ?_
      refine x_i2l hX d5_join_17 ?_
      refine x_lconst (v := 0) hX d5_join_18 (by decide) ?_
      refine x_lconst (v := 1) hX d5_join_19 (by decide) ?_
      obtain ⟨x6, eb7, h⟩ := x_bd h
      refine x_callS hX hR (c_m5_isIn (l := x_l X) (d := d + 3) eb7) kX5_107 kS5_isIn rfl rfl (Nat.le_of_ble_eq_true rfl) ⟨Nat.le_refl 0, Nat.le_refl 0⟩ d5_join_20 (x_kki ?_)
      refine x_if_eq (tgt := 39) hX d5_join_23 (by decide) (fun hc => ?_) (fun hc => ?_)
      · rw [if_pos hc] at h
        refine x_bipush (v := -2) hX d5_join_39 (by decide) ?_
        cases h
        exact x_iret hX hr d5_join_41 (fun H hP => ⟨rfl, hP⟩)
      · rw [if_neg hc] at h
        refine x_aload_n hX d5_join_26 rfl rfl ?_
        refine x_iconst (v := 4) hX d5_join_27 (by decide) ?_
        refine x_iload_n hX d5_join_28 rfl rfl ?_
        refine x_iload_n hX d5_join_29 rfl rfl ?_
        refine x_iload_n hX d5_join_30 rfl rfl ?_
        refine x_i2l hX d5_join_31 ?_
        refine x_lconst (v := 0) hX d5_join_32 (by decide) ?_
        obtain ⟨⟨x8, I9, J10⟩, eb11, h⟩ := x_bd h
        dsimp only at h
        refine x_callV hX hR (c_m5_add (l := x_l X) (d := d + 0) eb11) kX5_139 kN5_add kE5_add xc5.1 hg1.1 hg1.2 rfl rfl (Nat.le_of_ble_eq_true rfl) ⟨Nat.le_refl 0, Nat.le_refl 0⟩ d5_join_33 (x_kki ?_)
        refine x_goto (tgt := 41) hX d5_join_36 (by decide) ?_
        cases h
        exact x_iret hX hr d5_join_41 (fun H hP => ⟨rfl, hP⟩)

def m5_merge (N : Nat) (K : Nat → Nat × Nat) (F : Nat → Nat → Option Nat) (I : (Nat → Nat → Int32)) (J : (Nat → Nat → Int64)) (a0 : Nat) (a1 : Int32) (a2 : Int32) : Option (Int32 × (Nat → Nat → Int32) × (Nat → Nat → Int64)) :=
  if a0 < N ∧ K a0 = (0, 5) then (xb (m5_isTable N K F I J a0 a1) fun x2 => if x2 = 0 then (some ((-2 : Int32), I, J)) else (xb (m5_isTable N K F I J a0 a2) fun x4 => if x4 = 0 then (some ((-2 : Int32), I, J)) else (xb (m5_add N K F I J a0 (5 : Int32) a1 a2 (0 : Int64) (0 : Int64)) fun (x6, I7, J8) => some (x6, I7, J8)))) else none
set_option maxRecDepth 100000 in
set_option maxHeartbeats 4000000 in
theorem c_m5_merge {l : Launch} {B d : Nat} {g : xG} {N : Nat} {K : Nat → Nat × Nat} {F : Nat → Nat → Option Nat} {I : (Nat → Nat → Int32)} {J : (Nat → Nat → Int64)} {a0 : Nat} {a1 : Int32} {a2 : Int32} {rv : Int32} {I' : (Nat → Nat → Int32)} {J' : (Nat → Nat → Int64)} (h : m5_merge N K F I J a0 a1 a2 = some (rv, I', J')) : xC l g B (d + 4) 0 0 y5_merge c5_merge 3 (some .int) [.ref (B + a0), .int a1, .int a2] (xP g B N K I J F) (xq (some (.int rv)) (xP g B N K I' J' F)) := by
  refine xC_of (by decide) (Nat.le_of_ble_eq_true rfl) (fun X hl hR hr _ hX => ?_)
  refine x_sub (L' := [(0, .ref (B + a0)), (1, .int a1), (2, .int a2)]) [0, 1, 2] rfl ?_
  unfold m5_merge at h
  refine x_aload_n hX d5_merge_0 rfl rfl ?_
  refine x_iload_n hX d5_merge_1 rfl rfl ?_
  obtain ⟨hg1, h⟩ := x_gd h
  obtain ⟨x2, eb3, h⟩ := x_bd h
  refine x_callV hX hR (c_m5_isTable (l := x_l X) (d := d + 2) eb3) kX5_143 kN5_isTable kE5_isTable xc5.1 hg1.1 hg1.2 rfl rfl (Nat.le_of_ble_eq_true rfl) ⟨Nat.le_refl 0, Nat.le_refl 0⟩ d5_merge_2 (x_kki ?_)
  refine x_if_eq (tgt := 28) hX d5_merge_5 (by decide) (fun hc => ?_) (fun hc => ?_)
  · rw [if_pos hc] at h
    refine x_bipush (v := -2) hX d5_merge_28 (by decide) ?_
    cases h
    exact x_iret hX hr d5_merge_30 (fun H hP => ⟨rfl, hP⟩)
  · rw [if_neg hc] at h
    refine x_aload_n hX d5_merge_8 rfl rfl ?_
    refine x_iload_n hX d5_merge_9 rfl rfl ?_
    obtain ⟨x4, eb5, h⟩ := x_bd h
    refine x_callV hX hR (c_m5_isTable (l := x_l X) (d := d + 2) eb5) kX5_143 kN5_isTable kE5_isTable xc5.1 hg1.1 hg1.2 rfl rfl (Nat.le_of_ble_eq_true rfl) ⟨Nat.le_refl 0, Nat.le_refl 0⟩ d5_merge_10 (x_kki ?_)
    refine x_if_eq (tgt := 28) hX d5_merge_13 (by decide) (fun hc => ?_) (fun hc => ?_)
    · rw [if_pos hc] at h
      refine x_bipush (v := -2) hX d5_merge_28 (by decide) ?_
      cases h
      exact x_iret hX hr d5_merge_30 (fun H hP => ⟨rfl, hP⟩)
    · rw [if_neg hc] at h
      refine x_aload_n hX d5_merge_16 rfl rfl ?_
      refine x_iconst (v := 5) hX d5_merge_17 (by decide) ?_
      refine x_iload_n hX d5_merge_18 rfl rfl ?_
      refine x_iload_n hX d5_merge_19 rfl rfl ?_
      refine x_lconst (v := 0) hX d5_merge_20 (by decide) ?_
      refine x_lconst (v := 0) hX d5_merge_21 (by decide) ?_
      obtain ⟨⟨x6, I7, J8⟩, eb9, h⟩ := x_bd h
      dsimp only at h
      refine x_callV hX hR (c_m5_add (l := x_l X) (d := d + 0) eb9) kX5_139 kN5_add kE5_add xc5.1 hg1.1 hg1.2 rfl rfl (Nat.le_of_ble_eq_true rfl) ⟨Nat.le_refl 0, Nat.le_refl 0⟩ d5_merge_22 (x_kki ?_)
      refine x_goto (tgt := 30) hX d5_merge_25 (by decide) ?_
      cases h
      exact x_iret hX hr d5_merge_30 (fun H hP => ⟨rfl, hP⟩)

def m5_best (N : Nat) (K : Nat → Nat × Nat) (F : Nat → Nat → Option Nat) (I : (Nat → Nat → Int32)) (J : (Nat → Nat → Int64)) (a0 : Nat) (a1 : Int32) (a2 : Int32) : Option (Int32 × (Nat → Nat → Int32) × (Nat → Nat → Int64)) :=
  if a0 < N ∧ K a0 = (0, 5) then (xb (m5_isTable N K F I J a0 a1) fun x2 => if x2 = 0 then (some ((-2 : Int32), I, J)) else (xb (m5_isIn N K F I J (a2.toInt64) (1 : Int64) (64 : Int64)) fun x4 => if x4 = 0 then (some ((-2 : Int32), I, J)) else (xb (m5_add N K F I J a0 (6 : Int32) a1 (0 : Int32) (a2.toInt64) (0 : Int64)) fun (x6, I7, J8) => some (x6, I7, J8)))) else none
set_option maxRecDepth 100000 in
set_option maxHeartbeats 4000000 in
theorem c_m5_best {l : Launch} {B d : Nat} {g : xG} {N : Nat} {K : Nat → Nat × Nat} {F : Nat → Nat → Option Nat} {I : (Nat → Nat → Int32)} {J : (Nat → Nat → Int64)} {a0 : Nat} {a1 : Int32} {a2 : Int32} {rv : Int32} {I' : (Nat → Nat → Int32)} {J' : (Nat → Nat → Int64)} (h : m5_best N K F I J a0 a1 a2 = some (rv, I', J')) : xC l g B (d + 4) 0 0 y5_best c5_best 3 (some .int) [.ref (B + a0), .int a1, .int a2] (xP g B N K I J F) (xq (some (.int rv)) (xP g B N K I' J' F)) := by
  refine xC_of (by decide) (Nat.le_of_ble_eq_true rfl) (fun X hl hR hr _ hX => ?_)
  refine x_sub (L' := [(0, .ref (B + a0)), (1, .int a1), (2, .int a2)]) [0, 1, 2] rfl ?_
  unfold m5_best at h
  refine x_aload_n hX d5_best_0 rfl rfl ?_
  refine x_iload_n hX d5_best_1 rfl rfl ?_
  obtain ⟨hg1, h⟩ := x_gd h
  obtain ⟨x2, eb3, h⟩ := x_bd h
  refine x_callV hX hR (c_m5_isTable (l := x_l X) (d := d + 2) eb3) kX5_143 kN5_isTable kE5_isTable xc5.1 hg1.1 hg1.2 rfl rfl (Nat.le_of_ble_eq_true rfl) ⟨Nat.le_refl 0, Nat.le_refl 0⟩ d5_best_2 (x_kki ?_)
  refine x_if_eq (tgt := 34) hX d5_best_5 (by decide) (fun hc => ?_) (fun hc => ?_)
  · rw [if_pos hc] at h
    refine x_bipush (v := -2) hX d5_best_34 (by decide) ?_
    cases h
    exact x_iret hX hr d5_best_36 (fun H hP => ⟨rfl, hP⟩)
  · rw [if_neg hc] at h
    refine x_iload_n hX d5_best_8 rfl rfl ?_
    refine x_i2l hX d5_best_9 ?_
    refine x_lconst (v := 1) hX d5_best_10 (by decide) ?_
    refine x_ldc2 (v := 64) hX kC5_153 d5_best_11 ?_
    obtain ⟨x4, eb5, h⟩ := x_bd h
    refine x_callS hX hR (c_m5_isIn (l := x_l X) (d := d + 3) eb5) kX5_107 kS5_isIn rfl rfl (Nat.le_of_ble_eq_true rfl) ⟨Nat.le_refl 0, Nat.le_refl 0⟩ d5_best_14 (x_kki ?_)
    refine x_if_eq (tgt := 34) hX d5_best_17 (by decide) (fun hc => ?_) (fun hc => ?_)
    · rw [if_pos hc] at h
      refine x_bipush (v := -2) hX d5_best_34 (by decide) ?_
      cases h
      exact x_iret hX hr d5_best_36 (fun H hP => ⟨rfl, hP⟩)
    · rw [if_neg hc] at h
      refine x_aload_n hX d5_best_20 rfl rfl ?_
      refine x_bipush (v := 6) hX d5_best_21 (by decide) ?_
      refine x_iload_n hX d5_best_23 rfl rfl ?_
      refine x_iconst (v := 0) hX d5_best_24 (by decide) ?_
      refine x_iload_n hX d5_best_25 rfl rfl ?_
      refine x_i2l hX d5_best_26 ?_
      refine x_lconst (v := 0) hX d5_best_27 (by decide) ?_
      obtain ⟨⟨x6, I7, J8⟩, eb9, h⟩ := x_bd h
      dsimp only at h
      refine x_callV hX hR (c_m5_add (l := x_l X) (d := d + 0) eb9) kX5_139 kN5_add kE5_add xc5.1 hg1.1 hg1.2 rfl rfl (Nat.le_of_ble_eq_true rfl) ⟨Nat.le_refl 0, Nat.le_refl 0⟩ d5_best_28 (x_kki ?_)
      refine x_goto (tgt := 36) hX d5_best_31 (by decide) ?_
      cases h
      exact x_iret hX hr d5_best_36 (fun H hP => ⟨rfl, hP⟩)

def m5_look (N : Nat) (K : Nat → Nat × Nat) (F : Nat → Nat → Option Nat) (I : (Nat → Nat → Int32)) (J : (Nat → Nat → Int64)) (a0 : Nat) (a1 : Int32) (a2 : Int32) : Option (Int32 × (Nat → Nat → Int32) × (Nat → Nat → Int64)) :=
  if a0 < N ∧ K a0 = (0, 5) then (xb (m5_isTable N K F I J a0 a1) fun x2 => if x2 = 0 then (some ((-2 : Int32), I, J)) else (xb (m5_isTable N K F I J a0 a2) fun x4 => if x4 = 0 then (some ((-2 : Int32), I, J)) else (xb (m5_add N K F I J a0 (7 : Int32) a1 a2 (0 : Int64) (0 : Int64)) fun (x6, I7, J8) => some (x6, I7, J8)))) else none
set_option maxRecDepth 100000 in
set_option maxHeartbeats 4000000 in
theorem c_m5_look {l : Launch} {B d : Nat} {g : xG} {N : Nat} {K : Nat → Nat × Nat} {F : Nat → Nat → Option Nat} {I : (Nat → Nat → Int32)} {J : (Nat → Nat → Int64)} {a0 : Nat} {a1 : Int32} {a2 : Int32} {rv : Int32} {I' : (Nat → Nat → Int32)} {J' : (Nat → Nat → Int64)} (h : m5_look N K F I J a0 a1 a2 = some (rv, I', J')) : xC l g B (d + 4) 0 0 y5_look c5_look 3 (some .int) [.ref (B + a0), .int a1, .int a2] (xP g B N K I J F) (xq (some (.int rv)) (xP g B N K I' J' F)) := by
  refine xC_of (by decide) (Nat.le_of_ble_eq_true rfl) (fun X hl hR hr _ hX => ?_)
  refine x_sub (L' := [(0, .ref (B + a0)), (1, .int a1), (2, .int a2)]) [0, 1, 2] rfl ?_
  unfold m5_look at h
  refine x_aload_n hX d5_look_0 rfl rfl ?_
  refine x_iload_n hX d5_look_1 rfl rfl ?_
  obtain ⟨hg1, h⟩ := x_gd h
  obtain ⟨x2, eb3, h⟩ := x_bd h
  refine x_callV hX hR (c_m5_isTable (l := x_l X) (d := d + 2) eb3) kX5_143 kN5_isTable kE5_isTable xc5.1 hg1.1 hg1.2 rfl rfl (Nat.le_of_ble_eq_true rfl) ⟨Nat.le_refl 0, Nat.le_refl 0⟩ d5_look_2 (x_kki ?_)
  refine x_if_eq (tgt := 29) hX d5_look_5 (by decide) (fun hc => ?_) (fun hc => ?_)
  · rw [if_pos hc] at h
    refine x_bipush (v := -2) hX d5_look_29 (by decide) ?_
    cases h
    exact x_iret hX hr d5_look_31 (fun H hP => ⟨rfl, hP⟩)
  · rw [if_neg hc] at h
    refine x_aload_n hX d5_look_8 rfl rfl ?_
    refine x_iload_n hX d5_look_9 rfl rfl ?_
    obtain ⟨x4, eb5, h⟩ := x_bd h
    refine x_callV hX hR (c_m5_isTable (l := x_l X) (d := d + 2) eb5) kX5_143 kN5_isTable kE5_isTable xc5.1 hg1.1 hg1.2 rfl rfl (Nat.le_of_ble_eq_true rfl) ⟨Nat.le_refl 0, Nat.le_refl 0⟩ d5_look_10 (x_kki ?_)
    refine x_if_eq (tgt := 29) hX d5_look_13 (by decide) (fun hc => ?_) (fun hc => ?_)
    · rw [if_pos hc] at h
      refine x_bipush (v := -2) hX d5_look_29 (by decide) ?_
      cases h
      exact x_iret hX hr d5_look_31 (fun H hP => ⟨rfl, hP⟩)
    · rw [if_neg hc] at h
      refine x_aload_n hX d5_look_16 rfl rfl ?_
      refine x_bipush (v := 7) hX d5_look_17 (by decide) ?_
      refine x_iload_n hX d5_look_19 rfl rfl ?_
      refine x_iload_n hX d5_look_20 rfl rfl ?_
      refine x_lconst (v := 0) hX d5_look_21 (by decide) ?_
      refine x_lconst (v := 0) hX d5_look_22 (by decide) ?_
      obtain ⟨⟨x6, I7, J8⟩, eb9, h⟩ := x_bd h
      dsimp only at h
      refine x_callV hX hR (c_m5_add (l := x_l X) (d := d + 0) eb9) kX5_139 kN5_add kE5_add xc5.1 hg1.1 hg1.2 rfl rfl (Nat.le_of_ble_eq_true rfl) ⟨Nat.le_refl 0, Nat.le_refl 0⟩ d5_look_23 (x_kki ?_)
      refine x_goto (tgt := 31) hX d5_look_26 (by decide) ?_
      cases h
      exact x_iret hX hr d5_look_31 (fun H hP => ⟨rfl, hP⟩)

def m5_isSource (N : Nat) (K : Nat → Nat × Nat) (F : Nat → Nat → Option Nat) (I : (Nat → Nat → Int32)) (J : (Nat → Nat → Int64)) (a0 : Nat) (a1 : Int32) (a2 : Int32) : Option (Int32) :=
  if a0 < N ∧ K a0 = (0, 5) then (xb (m5_isTable N K F I J a0 a1) fun x2 => if x2 = 0 then (some (0 : Int32)) else (xb (F a0 1) fun q4 => if q4 < N ∧ (K q4).1 = 1 ∧ xinb a1 (K q4).2 then (if ¬ (I q4 (a1.toNatClampNeg)) = 0 then (some (0 : Int32)) else (xb (m5_isIn N K F I J (a2.toInt64) (0 : Int64) (63 : Int64)) fun x6 => if x6 = 0 then (some (0 : Int32)) else (some (1 : Int32)))) else none)) else none
set_option maxRecDepth 100000 in
set_option maxHeartbeats 4000000 in
theorem c_m5_isSource {l : Launch} {B d : Nat} {g : xG} {N : Nat} {K : Nat → Nat × Nat} {F : Nat → Nat → Option Nat} {I : (Nat → Nat → Int32)} {J : (Nat → Nat → Int64)} {a0 : Nat} {a1 : Int32} {a2 : Int32} {rv : Int32} (h : m5_isSource N K F I J a0 a1 a2 = some rv) : xC l g B (d + 2) 0 0 y5_isSource c5_isSource 3 (some .boolean) [.ref (B + a0), .int a1, .int a2] (xP g B N K I J F) (xq (some (.int rv)) (xP g B N K I J F)) := by
  refine xC_of (by decide) (Nat.le_of_ble_eq_true rfl) (fun X hl hR hr _ hX => ?_)
  refine x_sub (L' := [(0, .ref (B + a0)), (1, .int a1), (2, .int a2)]) [0, 1, 2] rfl ?_
  unfold m5_isSource at h
  refine x_aload_n hX d5_isSource_0 rfl rfl ?_
  refine x_iload_n hX d5_isSource_1 rfl rfl ?_
  obtain ⟨hg1, h⟩ := x_gd h
  obtain ⟨x2, eb3, h⟩ := x_bd h
  refine x_callV hX hR (c_m5_isTable (l := x_l X) (d := d + 0) eb3) kX5_143 kN5_isTable kE5_isTable xc5.1 hg1.1 hg1.2 rfl rfl (Nat.le_of_ble_eq_true rfl) ⟨Nat.le_refl 0, Nat.le_refl 0⟩ d5_isSource_2 (x_kki ?_)
  refine x_if_eq (tgt := 33) hX d5_isSource_5 (by decide) (fun hc => ?_) (fun hc => ?_)
  · rw [if_pos hc] at h
    refine x_iconst (v := 0) hX d5_isSource_33 (by decide) ?_
    cases h
    exact x_zret hX hr rfl d5_isSource_34 (fun H hP => ⟨rfl, hP⟩)
  · rw [if_neg hc] at h
    refine x_aload_n hX d5_isSource_8 rfl rfl ?_
    obtain ⟨q4, eq4, h⟩ := x_bd h
    refine x_getF (j := 1) hX xc5 hg1.1 hg1.2 (by decide) rfl eq4 kF5_7 d5_isSource_9 ?_
    refine x_iload_n hX d5_isSource_12 rfl rfl ?_
    obtain ⟨hg5, h⟩ := x_gd h
    refine x_iald hX hg5.1 (x_kd hg5.2.1) (x_in hg5.2.2) d5_isSource_13 ?_
    refine x_if_ne (tgt := 33) hX d5_isSource_14 (by decide) (fun hc => ?_) (fun hc => ?_)
    · rw [if_pos hc] at h
      refine x_iconst (v := 0) hX d5_isSource_33 (by decide) ?_
      cases h
      exact x_zret hX hr rfl d5_isSource_34 (fun H hP => ⟨rfl, hP⟩)
    · rw [if_neg (x_nn hc)] at h
      refine x_iload_n hX d5_isSource_17 rfl rfl ?_
      refine x_i2l hX d5_isSource_18 ?_
      refine x_lconst (v := 0) hX d5_isSource_19 (by decide) ?_
      refine x_ldc2 (v := 63) hX kC5_134 d5_isSource_20 ?_
      obtain ⟨x6, eb7, h⟩ := x_bd h
      refine x_callS hX hR (c_m5_isIn (l := x_l X) (d := d + 1) eb7) kX5_107 kS5_isIn rfl rfl (Nat.le_of_ble_eq_true rfl) ⟨Nat.le_refl 0, Nat.le_refl 0⟩ d5_isSource_23 (x_kki ?_)
      refine x_if_eq (tgt := 33) hX d5_isSource_26 (by decide) (fun hc => ?_) (fun hc => ?_)
      · rw [if_pos hc] at h
        refine x_iconst (v := 0) hX d5_isSource_33 (by decide) ?_
        cases h
        exact x_zret hX hr rfl d5_isSource_34 (fun H hP => ⟨rfl, hP⟩)
      · rw [if_neg hc] at h
        refine x_iconst (v := 1) hX d5_isSource_29 (by decide) ?_
        refine x_goto (tgt := 34) hX d5_isSource_30 (by decide) ?_
        cases h
        exact x_zret hX hr rfl d5_isSource_34 (fun H hP => ⟨rfl, hP⟩)

def m5_write (N : Nat) (K : Nat → Nat × Nat) (F : Nat → Nat → Option Nat) (I : (Nat → Nat → Int32)) (J : (Nat → Nat → Int64)) (a0 : Nat) (a1 : Int32) (a2 : Int32) (a3 : Int32) (a4 : Int32) (a5 : Int64) (a6 : Int64) : Option ((Nat → Nat → Int32) × (Nat → Nat → Int64)) :=
  if a0 < N ∧ K a0 = (0, 5) then (xb (F a0 12) fun q2 => if q2 < N ∧ (K q2).1 = 1 ∧ xinb a1 (K q2).2 then (xlet (xu I q2 (a1.toNatClampNeg) a2) fun I4 => xb (F a0 13) fun q5 => if q5 < N ∧ (K q5).1 = 1 ∧ xinb a1 (K q5).2 then (xlet (xu I4 q5 (a1.toNatClampNeg) a3) fun I7 => xb (F a0 14) fun q8 => if q8 < N ∧ (K q8).1 = 1 ∧ xinb a1 (K q8).2 then (xlet (xu I7 q8 (a1.toNatClampNeg) a4) fun I10 => xb (F a0 15) fun q11 => if q11 < N ∧ (K q11).1 = 2 ∧ xinb a1 (K q11).2 then (xlet (xu J q11 (a1.toNatClampNeg) a5) fun J13 => xb (F a0 16) fun q14 => if q14 < N ∧ (K q14).1 = 2 ∧ xinb a1 (K q14).2 then (xlet (xu J13 q14 (a1.toNatClampNeg) a6) fun J16 => some (I10, J16)) else none) else none) else none) else none) else none) else none
set_option maxRecDepth 100000 in
set_option maxHeartbeats 4000000 in
theorem c_m5_write {l : Launch} {B d : Nat} {g : xG} {N : Nat} {K : Nat → Nat × Nat} {F : Nat → Nat → Option Nat} {I : (Nat → Nat → Int32)} {J : (Nat → Nat → Int64)} {a0 : Nat} {a1 : Int32} {a2 : Int32} {a3 : Int32} {a4 : Int32} {a5 : Int64} {a6 : Int64} {I' : (Nat → Nat → Int32)} {J' : (Nat → Nat → Int64)} (h : m5_write N K F I J a0 a1 a2 a3 a4 a5 a6 = some (I', J')) : xC l g B (d + 0) 0 0 y5_write c5_write 9 none [.ref (B + a0), .int a1, .int a2, .int a3, .int a4, .long a5, .long a6] (xP g B N K I J F) (xq none (xP g B N K I' J' F)) := by
  refine xC_of (by decide) (Nat.le_of_ble_eq_true rfl) (fun X hl hR hr _ hX => ?_)
  refine x_sub (L' := [(0, .ref (B + a0)), (1, .int a1), (2, .int a2), (3, .int a3), (4, .int a4), (5, .long a5), (7, .long a6)]) [0, 1, 2, 3, 4, 5, 6] rfl ?_
  unfold m5_write at h
  refine x_aload_n hX d5_write_0 rfl rfl ?_
  obtain ⟨hg1, h⟩ := x_gd h
  obtain ⟨q2, eq2, h⟩ := x_bd h
  refine x_getF (j := 12) hX xc5 hg1.1 hg1.2 (by decide) rfl eq2 kF5_45 d5_write_1 ?_
  refine x_iload_n hX d5_write_4 rfl rfl ?_
  refine x_iload_n hX d5_write_5 rfl rfl ?_
  obtain ⟨hg3, h⟩ := x_gd h
  refine x_iast hX hg3.1 (x_kd hg3.2.1) (x_in hg3.2.2) d5_write_6 ?_
  obtain ⟨I4, eI4, h⟩ := x_le h
  rw [← eI4]
  refine x_aload_n hX d5_write_7 rfl rfl ?_
  obtain ⟨q5, eq5, h⟩ := x_bd h
  refine x_getF (j := 13) hX xc5 hg1.1 hg1.2 (by decide) rfl eq5 kF5_48 d5_write_8 ?_
  refine x_iload_n hX d5_write_11 rfl rfl ?_
  refine x_iload_n hX d5_write_12 rfl rfl ?_
  obtain ⟨hg6, h⟩ := x_gd h
  refine x_iast hX hg6.1 (x_kd hg6.2.1) (x_in hg6.2.2) d5_write_13 ?_
  obtain ⟨I7, eI7, h⟩ := x_le h
  rw [← eI7]
  refine x_aload_n hX d5_write_14 rfl rfl ?_
  obtain ⟨q8, eq8, h⟩ := x_bd h
  refine x_getF (j := 14) hX xc5 hg1.1 hg1.2 (by decide) rfl eq8 kF5_51 d5_write_15 ?_
  refine x_iload_n hX d5_write_18 rfl rfl ?_
  refine x_iload hX d5_write_19 rfl ?_
  obtain ⟨hg9, h⟩ := x_gd h
  refine x_iast hX hg9.1 (x_kd hg9.2.1) (x_in hg9.2.2) d5_write_21 ?_
  obtain ⟨I10, eI10, h⟩ := x_le h
  rw [← eI10]
  refine x_aload_n hX d5_write_22 rfl rfl ?_
  obtain ⟨q11, eq11, h⟩ := x_bd h
  refine x_getF (j := 15) hX xc5 hg1.1 hg1.2 (by decide) rfl eq11 kF5_54 d5_write_23 ?_
  refine x_iload_n hX d5_write_26 rfl rfl ?_
  refine x_lload hX d5_write_27 rfl ?_
  obtain ⟨hg12, h⟩ := x_gd h
  refine x_last hX hg12.1 (x_kd hg12.2.1) (x_in hg12.2.2) d5_write_29 ?_
  obtain ⟨J13, eJ13, h⟩ := x_le h
  rw [← eJ13]
  refine x_aload_n hX d5_write_30 rfl rfl ?_
  obtain ⟨q14, eq14, h⟩ := x_bd h
  refine x_getF (j := 16) hX xc5 hg1.1 hg1.2 (by decide) rfl eq14 kF5_57 d5_write_31 ?_
  refine x_iload_n hX d5_write_34 rfl rfl ?_
  refine x_lload hX d5_write_35 rfl ?_
  obtain ⟨hg15, h⟩ := x_gd h
  refine x_last hX hg15.1 (x_kd hg15.2.1) (x_in hg15.2.2) d5_write_37 ?_
  obtain ⟨J16, eJ16, h⟩ := x_le h
  rw [← eJ16]
  cases h
  exact x_vret hX hr d5_write_38 (fun H hP => ⟨rfl, hP⟩)

def m5_sortOf (N : Nat) (K : Nat → Nat × Nat) (F : Nat → Nat → Option Nat) (I : (Nat → Nat → Int32)) (J : (Nat → Nat → Int64)) (a0 : Int32) (a1 : Int32) : Option (Int32) :=
  if ¬ a0 = 0 then (if a1 = 0 then (some (2 : Int32)) else (some (1 : Int32))) else (some (0 : Int32))
set_option maxRecDepth 100000 in
set_option maxHeartbeats 4000000 in
theorem c_m5_sortOf {l : Launch} {B d : Nat} {g : xG} {N : Nat} {K : Nat → Nat × Nat} {F : Nat → Nat → Option Nat} {I : (Nat → Nat → Int32)} {J : (Nat → Nat → Int64)} {a0 : Int32} {a1 : Int32} {rv : Int32} (h : m5_sortOf N K F I J a0 a1 = some rv) : xC l g B (d + 0) 0 0 y5_sortOf c5_sortOf 2 (some .int) [.int a0, .int a1] (xP g B N K I J F) (xq (some (.int rv)) (xP g B N K I J F)) := by
  refine xC_of (by decide) (Nat.le_of_ble_eq_true rfl) (fun X hl hR hr _ hX => ?_)
  refine x_sub (L' := [(0, .int a0), (1, .int a1)]) [0, 1] rfl ?_
  unfold m5_sortOf at h
  refine x_iload_n hX d5_sortOf_0 rfl rfl ?_
  refine x_if_ne (tgt := 8) hX d5_sortOf_1 (by decide) (fun hc => ?_) (fun hc => ?_)
  · rw [if_pos hc] at h
    refine x_iload_n hX d5_sortOf_8 rfl rfl ?_
    refine x_if_eq (tgt := 16) hX d5_sortOf_9 (by decide) (fun hc => ?_) (fun hc => ?_)
    · rw [if_pos hc] at h
      refine x_iconst (v := 2) hX d5_sortOf_16 (by decide) ?_
      cases h
      exact x_iret hX hr d5_sortOf_17 (fun H hP => ⟨rfl, hP⟩)
    · rw [if_neg hc] at h
      refine x_iconst (v := 1) hX d5_sortOf_12 (by decide) ?_
      refine x_goto (tgt := 17) hX d5_sortOf_13 (by decide) ?_
      cases h
      exact x_iret hX hr d5_sortOf_17 (fun H hP => ⟨rfl, hP⟩)
  · rw [if_neg (x_nn hc)] at h
    refine x_iconst (v := 0) hX d5_sortOf_4 (by decide) ?_
    refine x_goto (tgt := 17) hX d5_sortOf_5 (by decide) ?_
    cases h
    exact x_iret hX hr d5_sortOf_17 (fun H hP => ⟨rfl, hP⟩)

def m5_keepRows_L2 (N : Nat) (K : Nat → Nat × Nat) (F : Nat → Nat → Option Nat) : Nat → (Nat → Nat → Int32) → (Nat → Nat → Int64) → Nat → Int32 → Option ((Nat → Nat → Int32) × (Nat → Nat → Int64))
  | 0, _, _, _, _ => none
  | n + 1, I, J, v0, v1 => if v0 < N ∧ K v0 = (0, 5) then (if ((64 : Int32) * (I v0 0)) ≤ v1 then (some (I, J)) else (xb (F v0 8) fun q2 => xb (F v0 6) fun q3 => if q3 < N ∧ (K q3).1 = 3 ∧ xinb v1 (K q3).2 then (if q2 < N ∧ (K q2).1 = 3 ∧ xinb v1 (K q2).2 then (if (I q3 (v1.toNatClampNeg)) = 0 ∨ (I q3 (v1.toNatClampNeg)) = 1 then (xlet (xu I q2 (v1.toNatClampNeg) (I q3 (v1.toNatClampNeg))) fun I7 => xb (F v0 9) fun q8 => xb (F v0 7) fun q9 => if q9 < N ∧ (K q9).1 = 2 ∧ xinb v1 (K q9).2 then (if q8 < N ∧ (K q8).1 = 2 ∧ xinb v1 (K q8).2 then (xlet (xu J q8 (v1.toNatClampNeg) (J q9 (v1.toNatClampNeg))) fun J12 => xlet (v1 + (1 : Int32)) fun x13 => m5_keepRows_L2 N K F n I7 J12 v0 x13) else none) else none) else none) else none) else none)) else none
def m5_keepRows (N : Nat) (K : Nat → Nat × Nat) (F : Nat → Nat → Option Nat) (I : (Nat → Nat → Int32)) (J : (Nat → Nat → Int64)) (a0 : Nat) : Option ((Nat → Nat → Int32) × (Nat → Nat → Int64)) :=
  m5_keepRows_L2 N K F xFu I J a0 (0 : Int32)
set_option maxRecDepth 100000 in
set_option maxHeartbeats 4000000 in
theorem t_m5_keepRows_L2 {X : xX} {B d : Nat} {g : xG} {N : Nat} {K : Nat → Nat × Nat} {F : Nat → Nat → Option Nat} {I' : (Nat → Nat → Int32)} {J' : (Nat → Nat → Int64)} (hX : xO X c5_keepRows "ChangeRowsModel" 2 B g) (hR : x_R X = xrm (d + 0) 0 0) (hr : (x_meth X).sig.returnType = none) : ∀ (n : Nat) (I : (Nat → Nat → Int32)) (J : (Nat → Nat → Int64)) (v0 : Nat) (v1 : Int32), m5_keepRows_L2 N K F n I J v0 v1 = some (I', J') → xV X B 2 (xZ X B 0 0 (xq none (xP g B N K I' J' F))) 0 0 (xP g B N K I J F) 2 [(0, .ref (B + v0)), (1, .int v1)] [] := by
  intro n
  induction n with
  | zero =>
    intro I J v0 v1 h
    cases h
  | succ n ih =>
    intro I J v0 v1 h
    rw [m5_keepRows_L2] at h
    refine x_iload_n hX d5_keepRows_2 rfl rfl ?_
    refine x_bipush (v := 64) hX d5_keepRows_3 (by decide) ?_
    refine x_aload_n hX d5_keepRows_5 rfl rfl ?_
    obtain ⟨hg1, h⟩ := x_gd h
    refine x_getI (j := 0) hX xc5 hg1.1 hg1.2 (by decide) rfl kF5_87 d5_keepRows_6 ?_
    refine x_imul hX d5_keepRows_9 ?_
    refine x_icmp_ge (tgt := 43) hX d5_keepRows_10 (by decide) (fun hc => ?_) (fun hc => ?_)
    · rw [if_pos hc] at h
      cases h
      exact x_vret hX hr d5_keepRows_43 (fun H hP => ⟨rfl, hP⟩)
    · rw [if_neg hc] at h
      refine x_aload_n hX d5_keepRows_13 rfl rfl ?_
      obtain ⟨q2, eq2, h⟩ := x_bd h
      refine x_getF (j := 8) hX xc5 hg1.1 hg1.2 (by decide) rfl eq2 kF5_33 d5_keepRows_14 ?_
      refine x_iload_n hX d5_keepRows_17 rfl rfl ?_
      refine x_aload_n hX d5_keepRows_18 rfl rfl ?_
      obtain ⟨q3, eq3, h⟩ := x_bd h
      refine x_getF (j := 6) hX xc5 hg1.1 hg1.2 (by decide) rfl eq3 kF5_26 d5_keepRows_19 ?_
      refine x_iload_n hX d5_keepRows_22 rfl rfl ?_
      obtain ⟨hg4, h⟩ := x_gd h
      refine x_zald hX hg4.1 (x_kd hg4.2.1) (x_in hg4.2.2) d5_keepRows_23 ?_
      obtain ⟨hg5, h⟩ := x_gd h
      obtain ⟨hg6, h⟩ := x_gd h
      refine x_zast hX hg5.1 (x_kd hg5.2.1) (x_in hg5.2.2) (x_nbool hg6) d5_keepRows_24 ?_
      obtain ⟨I7, eI7, h⟩ := x_le h
      rw [← eI7]
      refine x_aload_n hX d5_keepRows_25 rfl rfl ?_
      obtain ⟨q8, eq8, h⟩ := x_bd h
      refine x_getF (j := 9) hX xc5 hg1.1 hg1.2 (by decide) rfl eq8 kF5_36 d5_keepRows_26 ?_
      refine x_iload_n hX d5_keepRows_29 rfl rfl ?_
      refine x_aload_n hX d5_keepRows_30 rfl rfl ?_
      obtain ⟨q9, eq9, h⟩ := x_bd h
      refine x_getF (j := 7) hX xc5 hg1.1 hg1.2 (by decide) rfl eq9 kF5_30 d5_keepRows_31 ?_
      refine x_iload_n hX d5_keepRows_34 rfl rfl ?_
      obtain ⟨hg10, h⟩ := x_gd h
      refine x_lald hX hg10.1 (x_kd hg10.2.1) (x_in hg10.2.2) d5_keepRows_35 ?_
      obtain ⟨hg11, h⟩ := x_gd h
      refine x_last hX hg11.1 (x_kd hg11.2.1) (x_in hg11.2.2) d5_keepRows_36 ?_
      obtain ⟨J12, eJ12, h⟩ := x_le h
      rw [← eJ12]
      obtain ⟨x13, ex13, h⟩ := x_le h
      refine x_iinc (j := 1) hX [(1, .int x13), (0, .ref (B + v0))] d5_keepRows_37 rfl (by rw [ex13]; rfl) (by decide) rfl ?_
      refine x_goto (tgt := 2) hX d5_keepRows_40 (by decide) ?_
      refine x_sub [1, 0] rfl ?_
      exact ih _ _ _ _ h
set_option maxRecDepth 100000 in
set_option maxHeartbeats 4000000 in
theorem c_m5_keepRows {l : Launch} {B d : Nat} {g : xG} {N : Nat} {K : Nat → Nat × Nat} {F : Nat → Nat → Option Nat} {I : (Nat → Nat → Int32)} {J : (Nat → Nat → Int64)} {a0 : Nat} {I' : (Nat → Nat → Int32)} {J' : (Nat → Nat → Int64)} (h : m5_keepRows N K F I J a0 = some (I', J')) : xC l g B (d + 0) 0 0 y5_keepRows c5_keepRows 2 none [.ref (B + a0)] (xP g B N K I J F) (xq none (xP g B N K I' J' F)) := by
  refine xC_of (by decide) (Nat.le_of_ble_eq_true rfl) (fun X hl hR hr _ hX => ?_)
  refine x_sub (L' := [(0, .ref (B + a0))]) [0] rfl ?_
  unfold m5_keepRows at h
  refine x_iconst (v := 0) hX d5_keepRows_0 (by decide) ?_
  refine x_istore_n hX [(1, .int (0 : Int32)), (0, .ref (B + a0))] d5_keepRows_1 rfl (by decide) rfl ?_
  refine x_sub [1, 0] rfl ?_
  exact t_m5_keepRows_L2 hX hR hr _ _ _ _ _ h

def m5_isOther (N : Nat) (K : Nat → Nat × Nat) (F : Nat → Nat → Option Nat) (I : (Nat → Nat → Int32)) (J : (Nat → Nat → Int64)) (a0 : Nat) (a1 : Int32) : Option (Int32) :=
  if a0 < N ∧ K a0 = (0, 5) then (xb (F a0 8) fun q2 => if q2 < N ∧ (K q2).1 = 3 ∧ xinb a1 (K q2).2 then (xb (F a0 6) fun q4 => if q4 < N ∧ (K q4).1 = 3 ∧ xinb a1 (K q4).2 then (if ¬ (I q2 (a1.toNatClampNeg)) = (I q4 (a1.toNatClampNeg)) then (some (1 : Int32)) else (if (I q4 (a1.toNatClampNeg)) = 0 then (some (0 : Int32)) else (xb (F a0 9) fun q6 => if q6 < N ∧ (K q6).1 = 2 ∧ xinb a1 (K q6).2 then (xb (F a0 7) fun q8 => if q8 < N ∧ (K q8).1 = 2 ∧ xinb a1 (K q8).2 then (if (J q6 (a1.toNatClampNeg)) = (J q8 (a1.toNatClampNeg)) then (some (0 : Int32)) else (some (1 : Int32))) else none) else none))) else none) else none) else none
set_option maxRecDepth 100000 in
set_option maxHeartbeats 4000000 in
theorem c_m5_isOther {l : Launch} {B d : Nat} {g : xG} {N : Nat} {K : Nat → Nat × Nat} {F : Nat → Nat → Option Nat} {I : (Nat → Nat → Int32)} {J : (Nat → Nat → Int64)} {a0 : Nat} {a1 : Int32} {rv : Int32} (h : m5_isOther N K F I J a0 a1 = some rv) : xC l g B (d + 0) 0 0 y5_isOther c5_isOther 2 (some .boolean) [.ref (B + a0), .int a1] (xP g B N K I J F) (xq (some (.int rv)) (xP g B N K I J F)) := by
  refine xC_of (by decide) (Nat.le_of_ble_eq_true rfl) (fun X hl hR hr _ hX => ?_)
  refine x_sub (L' := [(0, .ref (B + a0)), (1, .int a1)]) [0, 1] rfl ?_
  unfold m5_isOther at h
  refine x_aload_n hX d5_isOther_0 rfl rfl ?_
  obtain ⟨hg1, h⟩ := x_gd h
  obtain ⟨q2, eq2, h⟩ := x_bd h
  refine x_getF (j := 8) hX xc5 hg1.1 hg1.2 (by decide) rfl eq2 kF5_33 d5_isOther_1 ?_
  refine x_iload_n hX d5_isOther_4 rfl rfl ?_
  obtain ⟨hg3, h⟩ := x_gd h
  refine x_zald hX hg3.1 (x_kd hg3.2.1) (x_in hg3.2.2) d5_isOther_5 ?_
  refine x_aload_n hX d5_isOther_6 rfl rfl ?_
  obtain ⟨q4, eq4, h⟩ := x_bd h
  refine x_getF (j := 6) hX xc5 hg1.1 hg1.2 (by decide) rfl eq4 kF5_26 d5_isOther_7 ?_
  refine x_iload_n hX d5_isOther_10 rfl rfl ?_
  obtain ⟨hg5, h⟩ := x_gd h
  refine x_zald hX hg5.1 (x_kd hg5.2.1) (x_in hg5.2.2) d5_isOther_11 ?_
  refine x_icmp_ne (tgt := 40) hX d5_isOther_12 (by decide) (fun hc => ?_) (fun hc => ?_)
  · rw [if_pos hc] at h
    refine x_iconst (v := 1) hX d5_isOther_40 (by decide) ?_
    refine x_goto (tgt := 45) hX d5_isOther_41 (by decide) ?_
    cases h
    exact x_zret hX hr rfl d5_isOther_45 (fun H hP => ⟨rfl, hP⟩)
  · rw [if_neg (x_nn hc)] at h
    refine x_aload_n hX d5_isOther_15 rfl rfl ?_
    refine x_getF (j := 6) hX xc5 hg1.1 hg1.2 (by decide) rfl eq4 kF5_26 d5_isOther_16 ?_
    refine x_iload_n hX d5_isOther_19 rfl rfl ?_
    refine x_zald hX hg5.1 (x_kd hg5.2.1) (x_in hg5.2.2) d5_isOther_20 ?_
    refine x_if_eq (tgt := 44) hX d5_isOther_21 (by decide) (fun hc => ?_) (fun hc => ?_)
    · rw [if_pos hc] at h
      refine x_iconst (v := 0) hX d5_isOther_44 (by decide) ?_
      cases h
      exact x_zret hX hr rfl d5_isOther_45 (fun H hP => ⟨rfl, hP⟩)
    · rw [if_neg hc] at h
      refine x_aload_n hX d5_isOther_24 rfl rfl ?_
      obtain ⟨q6, eq6, h⟩ := x_bd h
      refine x_getF (j := 9) hX xc5 hg1.1 hg1.2 (by decide) rfl eq6 kF5_36 d5_isOther_25 ?_
      refine x_iload_n hX d5_isOther_28 rfl rfl ?_
      obtain ⟨hg7, h⟩ := x_gd h
      refine x_lald hX hg7.1 (x_kd hg7.2.1) (x_in hg7.2.2) d5_isOther_29 ?_
      refine x_aload_n hX d5_isOther_30 rfl rfl ?_
      obtain ⟨q8, eq8, h⟩ := x_bd h
      refine x_getF (j := 7) hX xc5 hg1.1 hg1.2 (by decide) rfl eq8 kF5_30 d5_isOther_31 ?_
      refine x_iload_n hX d5_isOther_34 rfl rfl ?_
      obtain ⟨hg9, h⟩ := x_gd h
      refine x_lald hX hg9.1 (x_kd hg9.2.1) (x_in hg9.2.2) d5_isOther_35 ?_
      refine x_lif_eq (tgt := 44) hX d5_isOther_36 d5_isOther_37 (by decide) (fun hc => ?_) (fun hc => ?_)
      · rw [if_pos hc] at h
        refine x_iconst (v := 0) hX d5_isOther_44 (by decide) ?_
        cases h
        exact x_zret hX hr rfl d5_isOther_45 (fun H hP => ⟨rfl, hP⟩)
      · rw [if_neg hc] at h
        refine x_iconst (v := 1) hX d5_isOther_40 (by decide) ?_
        refine x_goto (tgt := 45) hX d5_isOther_41 (by decide) ?_
        cases h
        exact x_zret hX hr rfl d5_isOther_45 (fun H hP => ⟨rfl, hP⟩)

def m5_follow_L34 (N : Nat) (K : Nat → Nat × Nat) (F : Nat → Nat → Option Nat) : Nat → (Nat → Nat → Int32) → (Nat → Nat → Int64) → Nat → Int32 → Int32 → Option (Int32 × (Nat → Nat → Int32) × (Nat → Nat → Int64))
  | 0, _, _, _, _, _ => none
  | n + 1, I, J, v0, v1, v2 => if v0 < N ∧ K v0 = (0, 5) then (if ((64 : Int32) * (I v0 0)) ≤ v2 then (some (v1, I, J)) else (xb (m5_isOther N K F I J v0 v2) fun x2 => if x2 = 0 then (xlet ((v1 + (0 : Int32))) fun x4 => xlet (v2 + (1 : Int32)) fun x5 => m5_follow_L34 N K F n I J v0 x4 x5) else (xlet ((v1 + (1 : Int32))) fun x6 => xlet (v2 + (1 : Int32)) fun x7 => m5_follow_L34 N K F n I J v0 x6 x7))) else none
def m5_follow_L2 (N : Nat) (K : Nat → Nat × Nat) (F : Nat → Nat → Option Nat) : Nat → (Nat → Nat → Int32) → (Nat → Nat → Int64) → Nat → Int32 → Option (Int32 × (Nat → Nat → Int32) × (Nat → Nat → Int64))
  | 0, _, _, _, _ => none
  | n + 1, I, J, v0, v1 => if v0 < N ∧ K v0 = (0, 5) then (if (I v0 0) ≤ v1 then (m5_follow_L34 N K F xFu I J v0 (0 : Int32) (0 : Int32)) else (xb (F v0 1) fun q2 => if q2 < N ∧ (K q2).1 = 1 ∧ xinb v1 (K q2).2 then (if (I q2 (v1.toNatClampNeg)) ≤ 0 then (xlet (v1 + (1 : Int32)) fun x4 => m5_follow_L2 N K F n I J v0 x4) else (xb (m5_work N K F I J v0 v1) fun (I5, J6) => xlet (v1 + (1 : Int32)) fun x8 => m5_follow_L2 N K F n I5 J6 v0 x8)) else none)) else none
def m5_follow (N : Nat) (K : Nat → Nat × Nat) (F : Nat → Nat → Option Nat) (I : (Nat → Nat → Int32)) (J : (Nat → Nat → Int64)) (a0 : Nat) : Option (Int32 × (Nat → Nat → Int32) × (Nat → Nat → Int64)) :=
  m5_follow_L2 N K F xFu I J a0 (0 : Int32)
set_option maxRecDepth 100000 in
set_option maxHeartbeats 4000000 in
theorem t_m5_follow_L34 {X : xX} {B d : Nat} {g : xG} {N : Nat} {K : Nat → Nat × Nat} {F : Nat → Nat → Option Nat} {rv : Int32} {I' : (Nat → Nat → Int32)} {J' : (Nat → Nat → Int64)} (hX : xO X c5_follow "ChangeRowsModel" 3 B g) (hR : x_R X = xrm (d + 3) 0 0) (hr : (x_meth X).sig.returnType = (some .int)) : ∀ (n : Nat) (I : (Nat → Nat → Int32)) (J : (Nat → Nat → Int64)) (v0 : Nat) (v1 : Int32) (v2 : Int32), m5_follow_L34 N K F n I J v0 v1 v2 = some (rv, I', J') → xV X B 3 (xZ X B 0 0 (xq (some (.int rv)) (xP g B N K I' J' F))) 0 0 (xP g B N K I J F) 34 [(0, .ref (B + v0)), (1, .int v1), (2, .int v2)] [] := by
  intro n
  induction n with
  | zero =>
    intro I J v0 v1 v2 h
    cases h
  | succ n ih =>
    intro I J v0 v1 v2 h
    rw [m5_follow_L34] at h
    refine x_iload_n hX d5_follow_34 rfl rfl ?_
    refine x_bipush (v := 64) hX d5_follow_35 (by decide) ?_
    refine x_aload_n hX d5_follow_37 rfl rfl ?_
    obtain ⟨hg1, h⟩ := x_gd h
    refine x_getI (j := 0) hX xc5 hg1.1 hg1.2 (by decide) rfl kF5_87 d5_follow_38 ?_
    refine x_imul hX d5_follow_41 ?_
    refine x_icmp_ge (tgt := 67) hX d5_follow_42 (by decide) (fun hc => ?_) (fun hc => ?_)
    · rw [if_pos hc] at h
      refine x_iload_n hX d5_follow_67 rfl rfl ?_
      cases h
      exact x_iret hX hr d5_follow_68 (fun H hP => ⟨rfl, hP⟩)
    · rw [if_neg hc] at h
      refine x_iload_n hX d5_follow_45 rfl rfl ?_
      refine x_aload_n hX d5_follow_46 rfl rfl ?_
      refine x_iload_n hX d5_follow_47 rfl rfl ?_
      obtain ⟨x2, eb3, h⟩ := x_bd h
      refine x_callV hX hR (c_m5_isOther (l := x_l X) (d := d + 2) eb3) kX5_155 kN5_isOther kE5_isOther xc5.1 hg1.1 hg1.2 rfl rfl (Nat.le_of_ble_eq_true rfl) ⟨Nat.le_refl 0, Nat.le_refl 0⟩ d5_follow_48 (x_kki ?_)
      refine x_if_eq (tgt := 58) hX d5_follow_51 (by decide) (fun hc => ?_) (fun hc => ?_)
      · rw [if_pos hc] at h
        refine x_iconst (v := 0) hX d5_follow_58 (by decide) ?_
        refine x_iadd hX d5_follow_59 ?_
        obtain ⟨x4, ex4, h⟩ := x_le h
        refine x_eqi ex4.symm ?_
        refine x_istore_n hX [(1, .int x4), (0, .ref (B + v0)), (2, .int v2)] d5_follow_60 rfl (by decide) rfl ?_
        obtain ⟨x5, ex5, h⟩ := x_le h
        refine x_iinc (j := 2) hX [(2, .int x5), (1, .int x4), (0, .ref (B + v0))] d5_follow_61 rfl (by rw [ex5]; rfl) (by decide) rfl ?_
        refine x_goto (tgt := 34) hX d5_follow_64 (by decide) ?_
        refine x_sub [2, 1, 0] rfl ?_
        exact ih _ _ _ _ _ h
      · rw [if_neg hc] at h
        refine x_iconst (v := 1) hX d5_follow_54 (by decide) ?_
        refine x_goto (tgt := 59) hX d5_follow_55 (by decide) ?_
        refine x_iadd hX d5_follow_59 ?_
        obtain ⟨x6, ex6, h⟩ := x_le h
        refine x_eqi ex6.symm ?_
        refine x_istore_n hX [(1, .int x6), (0, .ref (B + v0)), (2, .int v2)] d5_follow_60 rfl (by decide) rfl ?_
        obtain ⟨x7, ex7, h⟩ := x_le h
        refine x_iinc (j := 2) hX [(2, .int x7), (1, .int x6), (0, .ref (B + v0))] d5_follow_61 rfl (by rw [ex7]; rfl) (by decide) rfl ?_
        refine x_goto (tgt := 34) hX d5_follow_64 (by decide) ?_
        refine x_sub [2, 1, 0] rfl ?_
        exact ih _ _ _ _ _ h
set_option maxRecDepth 100000 in
set_option maxHeartbeats 4000000 in
theorem t_m5_follow_L2 {X : xX} {B d : Nat} {g : xG} {N : Nat} {K : Nat → Nat × Nat} {F : Nat → Nat → Option Nat} {rv : Int32} {I' : (Nat → Nat → Int32)} {J' : (Nat → Nat → Int64)} (hX : xO X c5_follow "ChangeRowsModel" 3 B g) (hR : x_R X = xrm (d + 3) 0 0) (hr : (x_meth X).sig.returnType = (some .int)) : ∀ (n : Nat) (I : (Nat → Nat → Int32)) (J : (Nat → Nat → Int64)) (v0 : Nat) (v1 : Int32), m5_follow_L2 N K F n I J v0 v1 = some (rv, I', J') → xV X B 3 (xZ X B 0 0 (xq (some (.int rv)) (xP g B N K I' J' F))) 0 0 (xP g B N K I J F) 2 [(0, .ref (B + v0)), (1, .int v1)] [] := by
  intro n
  induction n with
  | zero =>
    intro I J v0 v1 h
    cases h
  | succ n ih =>
    intro I J v0 v1 h
    rw [m5_follow_L2] at h
    refine x_iload_n hX d5_follow_2 rfl rfl ?_
    refine x_aload_n hX d5_follow_3 rfl rfl ?_
    obtain ⟨hg1, h⟩ := x_gd h
    refine x_getI (j := 0) hX xc5 hg1.1 hg1.2 (by decide) rfl kF5_87 d5_follow_4 ?_
    refine x_icmp_ge (tgt := 30) hX d5_follow_7 (by decide) (fun hc => ?_) (fun hc => ?_)
    · rw [if_pos hc] at h
      refine x_iconst (v := 0) hX d5_follow_30 (by decide) ?_
      refine x_istore_n hX [(1, .int (0 : Int32)), (0, .ref (B + v0))] d5_follow_31 rfl (by decide) rfl ?_
      refine x_iconst (v := 0) hX d5_follow_32 (by decide) ?_
      refine x_istore_n hX [(2, .int (0 : Int32)), (1, .int (0 : Int32)), (0, .ref (B + v0))] d5_follow_33 rfl (by decide) rfl ?_
      refine x_sub [2, 1, 0] rfl ?_
      exact t_m5_follow_L34 hX hR hr _ _ _ _ _ _ h
    · rw [if_neg hc] at h
      refine x_aload_n hX d5_follow_10 rfl rfl ?_
      obtain ⟨q2, eq2, h⟩ := x_bd h
      refine x_getF (j := 1) hX xc5 hg1.1 hg1.2 (by decide) rfl eq2 kF5_7 d5_follow_11 ?_
      refine x_iload_n hX d5_follow_14 rfl rfl ?_
      obtain ⟨hg3, h⟩ := x_gd h
      refine x_iald hX hg3.1 (x_kd hg3.2.1) (x_in hg3.2.2) d5_follow_15 ?_
      refine x_if_le (tgt := 24) hX d5_follow_16 (by decide) (fun hc => ?_) (fun hc => ?_)
      · rw [if_pos hc] at h
        obtain ⟨x4, ex4, h⟩ := x_le h
        refine x_iinc (j := 1) hX [(1, .int x4), (0, .ref (B + v0))] d5_follow_24 rfl (by rw [ex4]; rfl) (by decide) rfl ?_
        refine x_goto (tgt := 2) hX d5_follow_27 (by decide) ?_
        refine x_sub [1, 0] rfl ?_
        exact ih _ _ _ _ h
      · rw [if_neg hc] at h
        refine x_aload_n hX d5_follow_19 rfl rfl ?_
        refine x_iload_n hX d5_follow_20 rfl rfl ?_
        obtain ⟨⟨I5, J6⟩, eb7, h⟩ := x_bd h
        dsimp only at h
        refine x_callV hX hR (c_m5_work (l := x_l X) (d := d + 0) eb7) kX5_136 kN5_work kE5_work xc5.1 hg1.1 hg1.2 rfl rfl (Nat.le_of_ble_eq_true rfl) ⟨Nat.le_refl 0, Nat.le_refl 0⟩ d5_follow_21 (x_kkv ?_)
        obtain ⟨x8, ex8, h⟩ := x_le h
        refine x_iinc (j := 1) hX [(1, .int x8), (0, .ref (B + v0))] d5_follow_24 rfl (by rw [ex8]; rfl) (by decide) rfl ?_
        refine x_goto (tgt := 2) hX d5_follow_27 (by decide) ?_
        refine x_sub [1, 0] rfl ?_
        exact ih _ _ _ _ h
set_option maxRecDepth 100000 in
set_option maxHeartbeats 4000000 in
theorem c_m5_follow {l : Launch} {B d : Nat} {g : xG} {N : Nat} {K : Nat → Nat × Nat} {F : Nat → Nat → Option Nat} {I : (Nat → Nat → Int32)} {J : (Nat → Nat → Int64)} {a0 : Nat} {rv : Int32} {I' : (Nat → Nat → Int32)} {J' : (Nat → Nat → Int64)} (h : m5_follow N K F I J a0 = some (rv, I', J')) : xC l g B (d + 3) 0 0 y5_follow c5_follow 3 (some .int) [.ref (B + a0)] (xP g B N K I J F) (xq (some (.int rv)) (xP g B N K I' J' F)) := by
  refine xC_of (by decide) (Nat.le_of_ble_eq_true rfl) (fun X hl hR hr _ hX => ?_)
  refine x_sub (L' := [(0, .ref (B + a0))]) [0] rfl ?_
  unfold m5_follow at h
  refine x_iconst (v := 0) hX d5_follow_0 (by decide) ?_
  refine x_istore_n hX [(1, .int (0 : Int32)), (0, .ref (B + a0))] d5_follow_1 rfl (by decide) rfl ?_
  refine x_sub [1, 0] rfl ?_
  exact t_m5_follow_L2 hX hR hr _ _ _ _ _ h

def m5_tell_B145 (N : Nat) (K : Nat → Nat × Nat) (F : Nat → Nat → Option Nat) (k70 : (Nat → Nat → Int32) → (Nat → Nat → Int64) → Nat → Int32 → Option (Int32 × (Nat → Nat → Int32) × (Nat → Nat → Int64))) (I : (Nat → Nat → Int32)) (J : (Nat → Nat → Int64)) (v0 : Nat) (v2 : Int32) (v3 : Int32) (v4 : Int64) (w0 : Int64) : Option (Int32 × (Nat → Nat → Int32) × (Nat → Nat → Int64)) :=
  if v0 < N ∧ K v0 = (0, 5) then (if ¬ (64 : Int32) = 0 then (xb (m5_write N K F I J v0 ((1500 : Int32) + (I v0 18)) (v2 / (64 : Int32)) v3 (v2 - v2 / (64 : Int32) * (64 : Int32)) v4 w0) fun (I3, J4) => xb (m5_write N K F I3 J4 v0 (I3 v0 17) (v2 / (64 : Int32)) v3 (v2 - v2 / (64 : Int32) * (64 : Int32)) v4 w0) fun (I6, J7) => xlet (xu I6 v0 18 ((I6 v0 18) + (1 : Int32))) fun I9 => xlet (xu I9 v0 17 ((I9 v0 17) + (1 : Int32))) fun I10 => xlet (v2 + (1 : Int32)) fun x11 => k70 I10 J7 v0 x11) else none) else none
def m5_tell_B124 (N : Nat) (K : Nat → Nat × Nat) (F : Nat → Nat → Option Nat) (k70 : (Nat → Nat → Int32) → (Nat → Nat → Int64) → Nat → Int32 → Option (Int32 × (Nat → Nat → Int32) × (Nat → Nat → Int64))) (I : (Nat → Nat → Int32)) (J : (Nat → Nat → Int64)) (v0 : Nat) (v2 : Int32) (v3 : Int32) (w0 : Int64) : Option (Int32 × (Nat → Nat → Int32) × (Nat → Nat → Int64)) :=
  if v0 < N ∧ K v0 = (0, 5) then (xb (F v0 6) fun q2 => if q2 < N ∧ (K q2).1 = 3 ∧ xinb v2 (K q2).2 then (if (I q2 (v2.toNatClampNeg)) = 0 then (m5_tell_B145 N K F k70 I J v0 v2 v3 w0 (0 : Int64)) else (xb (F v0 7) fun q4 => if q4 < N ∧ (K q4).1 = 2 ∧ xinb v2 (K q4).2 then (m5_tell_B145 N K F k70 I J v0 v2 v3 w0 (J q4 (v2.toNatClampNeg))) else none)) else none) else none
def m5_tell_L70 (N : Nat) (K : Nat → Nat × Nat) (F : Nat → Nat → Option Nat) : Nat → (Nat → Nat → Int32) → (Nat → Nat → Int64) → Nat → Int32 → Option (Int32 × (Nat → Nat → Int32) × (Nat → Nat → Int64))
  | 0, _, _, _, _ => none
  | n + 1, I, J, v0, v2 => if v0 < N ∧ K v0 = (0, 5) then (if ((64 : Int32) * (I v0 0)) ≤ v2 then (some ((I v0 18), I, J)) else (xb (m5_isOther N K F I J v0 v2) fun x2 => if x2 = 0 then (xlet (v2 + (1 : Int32)) fun x4 => m5_tell_L70 N K F n I J v0 x4) else (xb (F v0 8) fun q5 => if q5 < N ∧ (K q5).1 = 3 ∧ xinb v2 (K q5).2 then (xb (F v0 6) fun q7 => if q7 < N ∧ (K q7).1 = 3 ∧ xinb v2 (K q7).2 then (xb (m5_sortOf N K F I J (I q5 (v2.toNatClampNeg)) (I q7 (v2.toNatClampNeg))) fun x9 => if (I q5 (v2.toNatClampNeg)) = 0 then (m5_tell_B124 N K F (m5_tell_L70 N K F n) I J v0 v2 x9 (0 : Int64)) else (xb (F v0 9) fun q11 => if q11 < N ∧ (K q11).1 = 2 ∧ xinb v2 (K q11).2 then (m5_tell_B124 N K F (m5_tell_L70 N K F n) I J v0 v2 x9 (J q11 (v2.toNatClampNeg))) else none)) else none) else none))) else none
def m5_tell_L19 (N : Nat) (K : Nat → Nat × Nat) (F : Nat → Nat → Option Nat) : Nat → (Nat → Nat → Int32) → (Nat → Nat → Int64) → Nat → Int32 → Option (Int32 × (Nat → Nat → Int32) × (Nat → Nat → Int64))
  | 0, _, _, _, _ => none
  | n + 1, I, J, v0, v2 => if v0 < N ∧ K v0 = (0, 5) then (if ((64 : Int32) * (I v0 0)) ≤ v2 then (some ((-3 : Int32), I, J)) else (xb (F v0 6) fun q2 => xb (F v0 8) fun q3 => if q3 < N ∧ (K q3).1 = 3 ∧ xinb v2 (K q3).2 then (if q2 < N ∧ (K q2).1 = 3 ∧ xinb v2 (K q2).2 then (if (I q3 (v2.toNatClampNeg)) = 0 ∨ (I q3 (v2.toNatClampNeg)) = 1 then (xlet (xu I q2 (v2.toNatClampNeg) (I q3 (v2.toNatClampNeg))) fun I7 => xb (F v0 7) fun q8 => xb (F v0 9) fun q9 => if q9 < N ∧ (K q9).1 = 2 ∧ xinb v2 (K q9).2 then (if q8 < N ∧ (K q8).1 = 2 ∧ xinb v2 (K q8).2 then (xlet (xu J q8 (v2.toNatClampNeg) (J q9 (v2.toNatClampNeg))) fun J12 => xlet (v2 + (1 : Int32)) fun x13 => m5_tell_L19 N K F n I7 J12 v0 x13) else none) else none) else none) else none) else none)) else none
def m5_tell (N : Nat) (K : Nat → Nat × Nat) (F : Nat → Nat → Option Nat) (I : (Nat → Nat → Int32)) (J : (Nat → Nat → Int64)) (a0 : Nat) : Option (Int32 × (Nat → Nat → Int32) × (Nat → Nat → Int64)) :=
  if a0 < N ∧ K a0 = (0, 5) then (xb (m5_follow N K F I J a0) fun (x2, I3, J4) => if ((I3 a0 17) + x2) ≤ (1500 : Int32) then (xlet (xu I3 a0 18 (0 : Int32)) fun I6 => m5_tell_L70 N K F xFu I6 J4 a0 (0 : Int32)) else (m5_tell_L19 N K F xFu I3 J4 a0 (0 : Int32))) else none
set_option maxRecDepth 100000 in
set_option maxHeartbeats 4000000 in
theorem t_m5_tell_B145 {X : xX} {B d : Nat} {g : xG} {N : Nat} {K : Nat → Nat × Nat} {F : Nat → Nat → Option Nat} {rv : Int32} {I' : (Nat → Nat → Int32)} {J' : (Nat → Nat → Int64)} {k70 : (Nat → Nat → Int32) → (Nat → Nat → Int64) → Nat → Int32 → Option (Int32 × (Nat → Nat → Int32) × (Nat → Nat → Int64))} (hX : xO X c5_tell "ChangeRowsModel" 8 B g) (hR : x_R X = xrm (d + 4) 0 0) (hr : (x_meth X).sig.returnType = (some .int)) (hk70 : ∀ (I : (Nat → Nat → Int32)) (J : (Nat → Nat → Int64)) (v0 : Nat) (v2 : Int32), k70 I J v0 v2 = some (rv, I', J') → xV X B 8 (xZ X B 0 0 (xq (some (.int rv)) (xP g B N K I' J' F))) 0 0 (xP g B N K I J F) 70 [(0, .ref (B + v0)), (2, .int v2)] []) (I : (Nat → Nat → Int32)) (J : (Nat → Nat → Int64)) (v0 : Nat) (v2 : Int32) (v3 : Int32) (v4 : Int64) (w0 : Int64) (h : m5_tell_B145 N K F k70 I J v0 v2 v3 v4 w0 = some (rv, I', J')) : xV X B 8 (xZ X B 0 0 (xq (some (.int rv)) (xP g B N K I' J' F))) 0 0 (xP g B N K I J F) 145 [(0, .ref (B + v0)), (2, .int v2), (3, .int v3), (4, .long v4)] [.long w0] := by
  unfold m5_tell_B145 at h
  refine x_lstore hX [(6, .long w0), (0, .ref (B + v0)), (2, .int v2), (3, .int v3), (4, .long v4)] d5_tell_145 (by decide) rfl ?_
  refine x_aload_n hX d5_tell_147 rfl rfl ?_
  refine x_sipush (v := 1500) hX d5_tell_148 (by decide) ?_
  refine x_aload_n hX d5_tell_151 rfl rfl ?_
  obtain ⟨hg1, h⟩ := x_gd h
  refine x_getI (j := 18) hX xc5 hg1.1 hg1.2 (by decide) rfl kF5_94 d5_tell_152 ?_
  refine x_iadd hX d5_tell_155 ?_
  refine x_iload_n hX d5_tell_156 rfl rfl ?_
  refine x_bipush (v := 64) hX d5_tell_157 (by decide) ?_
  obtain ⟨hg2, h⟩ := x_gd h
  refine x_idiv hX d5_tell_159 hg2 ?_
  refine x_iload_n hX d5_tell_160 rfl rfl ?_
  refine x_iload_n hX d5_tell_161 rfl rfl ?_
  refine x_bipush (v := 64) hX d5_tell_162 (by decide) ?_
  refine x_irem hX d5_tell_164 hg2 ?_
  refine x_lload hX d5_tell_165 rfl ?_
  refine x_lload hX d5_tell_167 rfl ?_
  obtain ⟨⟨I3, J4⟩, eb5, h⟩ := x_bd h
  dsimp only at h
  refine x_callV hX hR (c_m5_write (l := x_l X) (d := d + 3) eb5) kX5_166 kN5_write kE5_write xc5.1 hg1.1 hg1.2 rfl rfl (Nat.le_of_ble_eq_true rfl) ⟨Nat.le_refl 0, Nat.le_refl 0⟩ d5_tell_169 (x_kkv ?_)
  refine x_aload_n hX d5_tell_172 rfl rfl ?_
  refine x_aload_n hX d5_tell_173 rfl rfl ?_
  refine x_getI (j := 17) hX xc5 hg1.1 hg1.2 (by decide) rfl kF5_91 d5_tell_174 ?_
  refine x_iload_n hX d5_tell_177 rfl rfl ?_
  refine x_bipush (v := 64) hX d5_tell_178 (by decide) ?_
  refine x_idiv hX d5_tell_180 hg2 ?_
  refine x_iload_n hX d5_tell_181 rfl rfl ?_
  refine x_iload_n hX d5_tell_182 rfl rfl ?_
  refine x_bipush (v := 64) hX d5_tell_183 (by decide) ?_
  refine x_irem hX d5_tell_185 hg2 ?_
  refine x_lload hX d5_tell_186 rfl ?_
  refine x_lload hX d5_tell_188 rfl ?_
  obtain ⟨⟨I6, J7⟩, eb8, h⟩ := x_bd h
  dsimp only at h
  refine x_callV hX hR (c_m5_write (l := x_l X) (d := d + 3) eb8) kX5_166 kN5_write kE5_write xc5.1 hg1.1 hg1.2 rfl rfl (Nat.le_of_ble_eq_true rfl) ⟨Nat.le_refl 0, Nat.le_refl 0⟩ d5_tell_190 (x_kkv ?_)
  refine x_aload_n hX d5_tell_193 rfl rfl ?_
  refine x_dup hX d5_tell_194 rfl ?_
  refine x_getI (j := 18) hX xc5 hg1.1 hg1.2 (by decide) rfl kF5_94 d5_tell_195 ?_
  refine x_iconst (v := 1) hX d5_tell_198 (by decide) ?_
  refine x_iadd hX d5_tell_199 ?_
  refine x_putI (j := 18) hX xc5 hg1.1 hg1.2 (by decide) rfl kF5_94 (Or.inl rfl) rfl rfl d5_tell_200 ?_
  obtain ⟨I9, eI9, h⟩ := x_le h
  rw [← eI9]
  refine x_aload_n hX d5_tell_203 rfl rfl ?_
  refine x_dup hX d5_tell_204 rfl ?_
  refine x_getI (j := 17) hX xc5 hg1.1 hg1.2 (by decide) rfl kF5_91 d5_tell_205 ?_
  refine x_iconst (v := 1) hX d5_tell_208 (by decide) ?_
  refine x_iadd hX d5_tell_209 ?_
  refine x_putI (j := 17) hX xc5 hg1.1 hg1.2 (by decide) rfl kF5_91 (Or.inl rfl) rfl rfl d5_tell_210 ?_
  obtain ⟨I10, eI10, h⟩ := x_le h
  rw [← eI10]
  obtain ⟨x11, ex11, h⟩ := x_le h
  refine x_iinc (j := 2) hX [(2, .int x11), (6, .long w0), (0, .ref (B + v0)), (3, .int v3), (4, .long v4)] d5_tell_213 rfl (by rw [ex11]; rfl) (by decide) rfl ?_
  refine x_goto (tgt := 70) hX d5_tell_216 (by decide) ?_
  refine x_sub [2, 0] rfl ?_
  exact hk70 _ _ _ _ h
set_option maxRecDepth 100000 in
set_option maxHeartbeats 4000000 in
theorem t_m5_tell_B124 {X : xX} {B d : Nat} {g : xG} {N : Nat} {K : Nat → Nat × Nat} {F : Nat → Nat → Option Nat} {rv : Int32} {I' : (Nat → Nat → Int32)} {J' : (Nat → Nat → Int64)} {k70 : (Nat → Nat → Int32) → (Nat → Nat → Int64) → Nat → Int32 → Option (Int32 × (Nat → Nat → Int32) × (Nat → Nat → Int64))} (hX : xO X c5_tell "ChangeRowsModel" 8 B g) (hR : x_R X = xrm (d + 4) 0 0) (hr : (x_meth X).sig.returnType = (some .int)) (hk70 : ∀ (I : (Nat → Nat → Int32)) (J : (Nat → Nat → Int64)) (v0 : Nat) (v2 : Int32), k70 I J v0 v2 = some (rv, I', J') → xV X B 8 (xZ X B 0 0 (xq (some (.int rv)) (xP g B N K I' J' F))) 0 0 (xP g B N K I J F) 70 [(0, .ref (B + v0)), (2, .int v2)] []) (I : (Nat → Nat → Int32)) (J : (Nat → Nat → Int64)) (v0 : Nat) (v2 : Int32) (v3 : Int32) (w0 : Int64) (h : m5_tell_B124 N K F k70 I J v0 v2 v3 w0 = some (rv, I', J')) : xV X B 8 (xZ X B 0 0 (xq (some (.int rv)) (xP g B N K I' J' F))) 0 0 (xP g B N K I J F) 124 [(0, .ref (B + v0)), (2, .int v2), (3, .int v3)] [.long w0] := by
  unfold m5_tell_B124 at h
  refine x_lstore hX [(4, .long w0), (0, .ref (B + v0)), (2, .int v2), (3, .int v3)] d5_tell_124 (by decide) rfl ?_
  refine x_aload_n hX d5_tell_126 rfl rfl ?_
  obtain ⟨hg1, h⟩ := x_gd h
  obtain ⟨q2, eq2, h⟩ := x_bd h
  refine x_getF (j := 6) hX xc5 hg1.1 hg1.2 (by decide) rfl eq2 kF5_26 d5_tell_127 ?_
  refine x_iload_n hX d5_tell_130 rfl rfl ?_
  obtain ⟨hg3, h⟩ := x_gd h
  refine x_zald hX hg3.1 (x_kd hg3.2.1) (x_in hg3.2.2) d5_tell_131 ?_
  refine x_if_eq (tgt := 144) hX d5_tell_132 (by decide) (fun hc => ?_) (fun hc => ?_)
  · rw [if_pos hc] at h
    refine x_lconst (v := 0) hX d5_tell_144 (by decide) ?_
    refine x_sub [1, 2, 3, 0] rfl ?_
    exact t_m5_tell_B145 hX hR hr hk70 _ _ _ _ _ _ _ h
  · rw [if_neg hc] at h
    refine x_aload_n hX d5_tell_135 rfl rfl ?_
    obtain ⟨q4, eq4, h⟩ := x_bd h
    refine x_getF (j := 7) hX xc5 hg1.1 hg1.2 (by decide) rfl eq4 kF5_30 d5_tell_136 ?_
    refine x_iload_n hX d5_tell_139 rfl rfl ?_
    obtain ⟨hg5, h⟩ := x_gd h
    refine x_lald hX hg5.1 (x_kd hg5.2.1) (x_in hg5.2.2) d5_tell_140 ?_
    refine x_goto (tgt := 145) hX d5_tell_141 (by decide) ?_
    refine x_sub [1, 2, 3, 0] rfl ?_
    exact t_m5_tell_B145 hX hR hr hk70 _ _ _ _ _ _ _ h
set_option maxRecDepth 100000 in
set_option maxHeartbeats 4000000 in
theorem t_m5_tell_L70 {X : xX} {B d : Nat} {g : xG} {N : Nat} {K : Nat → Nat × Nat} {F : Nat → Nat → Option Nat} {rv : Int32} {I' : (Nat → Nat → Int32)} {J' : (Nat → Nat → Int64)} (hX : xO X c5_tell "ChangeRowsModel" 8 B g) (hR : x_R X = xrm (d + 4) 0 0) (hr : (x_meth X).sig.returnType = (some .int)) : ∀ (n : Nat) (I : (Nat → Nat → Int32)) (J : (Nat → Nat → Int64)) (v0 : Nat) (v2 : Int32), m5_tell_L70 N K F n I J v0 v2 = some (rv, I', J') → xV X B 8 (xZ X B 0 0 (xq (some (.int rv)) (xP g B N K I' J' F))) 0 0 (xP g B N K I J F) 70 [(0, .ref (B + v0)), (2, .int v2)] [] := by
  intro n
  induction n with
  | zero =>
    intro I J v0 v2 h
    cases h
  | succ n ih =>
    intro I J v0 v2 h
    rw [m5_tell_L70] at h
    refine x_iload_n hX d5_tell_70 rfl rfl ?_
    refine x_bipush (v := 64) hX d5_tell_71 (by decide) ?_
    refine x_aload_n hX d5_tell_73 rfl rfl ?_
    obtain ⟨hg1, h⟩ := x_gd h
    refine x_getI (j := 0) hX xc5 hg1.1 hg1.2 (by decide) rfl kF5_87 d5_tell_74 ?_
    refine x_imul hX d5_tell_77 ?_
    refine x_icmp_ge (tgt := 219) hX d5_tell_78 (by decide) (fun hc => ?_) (fun hc => ?_)
    · rw [if_pos hc] at h
      refine x_aload_n hX d5_tell_219 rfl rfl ?_
      refine x_getI (j := 18) hX xc5 hg1.1 hg1.2 (by decide) rfl kF5_94 d5_tell_220 ?_
      cases h
      exact x_iret hX hr d5_tell_223 (fun H hP => ⟨rfl, hP⟩)
    · rw [if_neg hc] at h
      refine x_aload_n hX d5_tell_81 rfl rfl ?_
      refine x_iload_n hX d5_tell_82 rfl rfl ?_
      obtain ⟨x2, eb3, h⟩ := x_bd h
      refine x_callV hX hR (c_m5_isOther (l := x_l X) (d := d + 3) eb3) kX5_155 kN5_isOther kE5_isOther xc5.1 hg1.1 hg1.2 rfl rfl (Nat.le_of_ble_eq_true rfl) ⟨Nat.le_refl 0, Nat.le_refl 0⟩ d5_tell_83 (x_kki ?_)
      refine x_if_eq (tgt := 213) hX d5_tell_86 (by decide) (fun hc => ?_) (fun hc => ?_)
      · rw [if_pos hc] at h
        obtain ⟨x4, ex4, h⟩ := x_le h
        refine x_iinc (j := 1) hX [(2, .int x4), (0, .ref (B + v0))] d5_tell_213 rfl (by rw [ex4]; rfl) (by decide) rfl ?_
        refine x_goto (tgt := 70) hX d5_tell_216 (by decide) ?_
        refine x_sub [1, 0] rfl ?_
        exact ih _ _ _ _ h
      · rw [if_neg hc] at h
        refine x_aload_n hX d5_tell_89 rfl rfl ?_
        obtain ⟨q5, eq5, h⟩ := x_bd h
        refine x_getF (j := 8) hX xc5 hg1.1 hg1.2 (by decide) rfl eq5 kF5_33 d5_tell_90 ?_
        refine x_iload_n hX d5_tell_93 rfl rfl ?_
        obtain ⟨hg6, h⟩ := x_gd h
        refine x_zald hX hg6.1 (x_kd hg6.2.1) (x_in hg6.2.2) d5_tell_94 ?_
        refine x_aload_n hX d5_tell_95 rfl rfl ?_
        obtain ⟨q7, eq7, h⟩ := x_bd h
        refine x_getF (j := 6) hX xc5 hg1.1 hg1.2 (by decide) rfl eq7 kF5_26 d5_tell_96 ?_
        refine x_iload_n hX d5_tell_99 rfl rfl ?_
        obtain ⟨hg8, h⟩ := x_gd h
        refine x_zald hX hg8.1 (x_kd hg8.2.1) (x_in hg8.2.2) d5_tell_100 ?_
        obtain ⟨x9, eb10, h⟩ := x_bd h
        refine x_callS hX hR (c_m5_sortOf (l := x_l X) (d := d + 3) eb10) kX5_162 kS5_sortOf rfl rfl (Nat.le_of_ble_eq_true rfl) ⟨Nat.le_refl 0, Nat.le_refl 0⟩ d5_tell_101 (x_kki ?_)
        refine x_istore_n hX [(3, .int x9), (0, .ref (B + v0)), (2, .int v2)] d5_tell_104 rfl (by decide) rfl ?_
        refine x_aload_n hX d5_tell_105 rfl rfl ?_
        refine x_getF (j := 8) hX xc5 hg1.1 hg1.2 (by decide) rfl eq5 kF5_33 d5_tell_106 ?_
        refine x_iload_n hX d5_tell_109 rfl rfl ?_
        refine x_zald hX hg6.1 (x_kd hg6.2.1) (x_in hg6.2.2) d5_tell_110 ?_
        refine x_if_eq (tgt := 123) hX d5_tell_111 (by decide) (fun hc => ?_) (fun hc => ?_)
        · rw [if_pos hc] at h
          refine x_lconst (v := 0) hX d5_tell_123 (by decide) ?_
          refine x_sub [1, 2, 0] rfl ?_
          exact t_m5_tell_B124 hX hR hr ih _ _ _ _ _ _ h
        · rw [if_neg hc] at h
          refine x_aload_n hX d5_tell_114 rfl rfl ?_
          obtain ⟨q11, eq11, h⟩ := x_bd h
          refine x_getF (j := 9) hX xc5 hg1.1 hg1.2 (by decide) rfl eq11 kF5_36 d5_tell_115 ?_
          refine x_iload_n hX d5_tell_118 rfl rfl ?_
          obtain ⟨hg12, h⟩ := x_gd h
          refine x_lald hX hg12.1 (x_kd hg12.2.1) (x_in hg12.2.2) d5_tell_119 ?_
          refine x_goto (tgt := 124) hX d5_tell_120 (by decide) ?_
          refine x_sub [1, 2, 0] rfl ?_
          exact t_m5_tell_B124 hX hR hr ih _ _ _ _ _ _ h
set_option maxRecDepth 100000 in
set_option maxHeartbeats 4000000 in
theorem t_m5_tell_L19 {X : xX} {B d : Nat} {g : xG} {N : Nat} {K : Nat → Nat × Nat} {F : Nat → Nat → Option Nat} {rv : Int32} {I' : (Nat → Nat → Int32)} {J' : (Nat → Nat → Int64)} (hX : xO X c5_tell "ChangeRowsModel" 8 B g) (hR : x_R X = xrm (d + 4) 0 0) (hr : (x_meth X).sig.returnType = (some .int)) : ∀ (n : Nat) (I : (Nat → Nat → Int32)) (J : (Nat → Nat → Int64)) (v0 : Nat) (v2 : Int32), m5_tell_L19 N K F n I J v0 v2 = some (rv, I', J') → xV X B 8 (xZ X B 0 0 (xq (some (.int rv)) (xP g B N K I' J' F))) 0 0 (xP g B N K I J F) 19 [(0, .ref (B + v0)), (2, .int v2)] [] := by
  intro n
  induction n with
  | zero =>
    intro I J v0 v2 h
    cases h
  | succ n ih =>
    intro I J v0 v2 h
    rw [m5_tell_L19] at h
    refine x_iload_n hX d5_tell_19 rfl rfl ?_
    refine x_bipush (v := 64) hX d5_tell_20 (by decide) ?_
    refine x_aload_n hX d5_tell_22 rfl rfl ?_
    obtain ⟨hg1, h⟩ := x_gd h
    refine x_getI (j := 0) hX xc5 hg1.1 hg1.2 (by decide) rfl kF5_87 d5_tell_23 ?_
    refine x_imul hX d5_tell_26 ?_
    refine x_icmp_ge (tgt := 60) hX d5_tell_27 (by decide) (fun hc => ?_) (fun hc => ?_)
    · rw [if_pos hc] at h
      refine x_bipush (v := -3) hX d5_tell_60 (by decide) ?_
      cases h
      exact x_iret hX hr d5_tell_62 (fun H hP => ⟨rfl, hP⟩)
    · rw [if_neg hc] at h
      refine x_aload_n hX d5_tell_30 rfl rfl ?_
      obtain ⟨q2, eq2, h⟩ := x_bd h
      refine x_getF (j := 6) hX xc5 hg1.1 hg1.2 (by decide) rfl eq2 kF5_26 d5_tell_31 ?_
      refine x_iload_n hX d5_tell_34 rfl rfl ?_
      refine x_aload_n hX d5_tell_35 rfl rfl ?_
      obtain ⟨q3, eq3, h⟩ := x_bd h
      refine x_getF (j := 8) hX xc5 hg1.1 hg1.2 (by decide) rfl eq3 kF5_33 d5_tell_36 ?_
      refine x_iload_n hX d5_tell_39 rfl rfl ?_
      obtain ⟨hg4, h⟩ := x_gd h
      refine x_zald hX hg4.1 (x_kd hg4.2.1) (x_in hg4.2.2) d5_tell_40 ?_
      obtain ⟨hg5, h⟩ := x_gd h
      obtain ⟨hg6, h⟩ := x_gd h
      refine x_zast hX hg5.1 (x_kd hg5.2.1) (x_in hg5.2.2) (x_nbool hg6) d5_tell_41 ?_
      obtain ⟨I7, eI7, h⟩ := x_le h
      rw [← eI7]
      refine x_aload_n hX d5_tell_42 rfl rfl ?_
      obtain ⟨q8, eq8, h⟩ := x_bd h
      refine x_getF (j := 7) hX xc5 hg1.1 hg1.2 (by decide) rfl eq8 kF5_30 d5_tell_43 ?_
      refine x_iload_n hX d5_tell_46 rfl rfl ?_
      refine x_aload_n hX d5_tell_47 rfl rfl ?_
      obtain ⟨q9, eq9, h⟩ := x_bd h
      refine x_getF (j := 9) hX xc5 hg1.1 hg1.2 (by decide) rfl eq9 kF5_36 d5_tell_48 ?_
      refine x_iload_n hX d5_tell_51 rfl rfl ?_
      obtain ⟨hg10, h⟩ := x_gd h
      refine x_lald hX hg10.1 (x_kd hg10.2.1) (x_in hg10.2.2) d5_tell_52 ?_
      obtain ⟨hg11, h⟩ := x_gd h
      refine x_last hX hg11.1 (x_kd hg11.2.1) (x_in hg11.2.2) d5_tell_53 ?_
      obtain ⟨J12, eJ12, h⟩ := x_le h
      rw [← eJ12]
      obtain ⟨x13, ex13, h⟩ := x_le h
      refine x_iinc (j := 1) hX [(2, .int x13), (0, .ref (B + v0))] d5_tell_54 rfl (by rw [ex13]; rfl) (by decide) rfl ?_
      refine x_goto (tgt := 19) hX d5_tell_57 (by decide) ?_
      refine x_sub [1, 0] rfl ?_
      exact ih _ _ _ _ h
set_option maxRecDepth 100000 in
set_option maxHeartbeats 4000000 in
theorem c_m5_tell {l : Launch} {B d : Nat} {g : xG} {N : Nat} {K : Nat → Nat × Nat} {F : Nat → Nat → Option Nat} {I : (Nat → Nat → Int32)} {J : (Nat → Nat → Int64)} {a0 : Nat} {rv : Int32} {I' : (Nat → Nat → Int32)} {J' : (Nat → Nat → Int64)} (h : m5_tell N K F I J a0 = some (rv, I', J')) : xC l g B (d + 4) 0 0 y5_tell c5_tell 8 (some .int) [.ref (B + a0)] (xP g B N K I J F) (xq (some (.int rv)) (xP g B N K I' J' F)) := by
  refine xC_of (by decide) (Nat.le_of_ble_eq_true rfl) (fun X hl hR hr _ hX => ?_)
  refine x_sub (L' := [(0, .ref (B + a0))]) [0] rfl ?_
  unfold m5_tell at h
  refine x_aload_n hX d5_tell_0 rfl rfl ?_
  obtain ⟨hg1, h⟩ := x_gd h
  obtain ⟨⟨x2, I3, J4⟩, eb5, h⟩ := x_bd h
  dsimp only at h
  refine x_callV hX hR (c_m5_follow (l := x_l X) (d := d + 0) eb5) kX5_158 kN5_follow kE5_follow xc5.1 hg1.1 hg1.2 rfl rfl (Nat.le_of_ble_eq_true rfl) ⟨Nat.le_refl 0, Nat.le_refl 0⟩ d5_tell_1 (x_kki ?_)
  refine x_istore_n hX [(1, .int x2), (0, .ref (B + a0))] d5_tell_4 rfl (by decide) rfl ?_
  refine x_aload_n hX d5_tell_5 rfl rfl ?_
  refine x_getI (j := 17) hX xc5 hg1.1 hg1.2 (by decide) rfl kF5_91 d5_tell_6 ?_
  refine x_iload_n hX d5_tell_9 rfl rfl ?_
  refine x_iadd hX d5_tell_10 ?_
  refine x_sipush (v := 1500) hX d5_tell_11 (by decide) ?_
  refine x_icmp_le (tgt := 63) hX d5_tell_14 (by decide) (fun hc => ?_) (fun hc => ?_)
  · rw [if_pos hc] at h
    refine x_aload_n hX d5_tell_63 rfl rfl ?_
    refine x_iconst (v := 0) hX d5_tell_64 (by decide) ?_
    refine x_putI (j := 18) hX xc5 hg1.1 hg1.2 (by decide) rfl kF5_94 (Or.inl rfl) rfl rfl d5_tell_65 ?_
    obtain ⟨I6, eI6, h⟩ := x_le h
    rw [← eI6]
    refine x_iconst (v := 0) hX d5_tell_68 (by decide) ?_
    refine x_istore_n hX [(2, .int (0 : Int32)), (1, .int x2), (0, .ref (B + a0))] d5_tell_69 rfl (by decide) rfl ?_
    refine x_sub [2, 0] rfl ?_
    exact t_m5_tell_L70 hX hR hr _ _ _ _ _ h
  · rw [if_neg hc] at h
    refine x_iconst (v := 0) hX d5_tell_17 (by decide) ?_
    refine x_istore_n hX [(2, .int (0 : Int32)), (1, .int x2), (0, .ref (B + a0))] d5_tell_18 rfl (by decide) rfl ?_
    refine x_sub [2, 0] rfl ?_
    exact t_m5_tell_L19 hX hR hr _ _ _ _ _ h

def m5_setOrClear (N : Nat) (K : Nat → Nat × Nat) (F : Nat → Nat → Option Nat) (I : (Nat → Nat → Int32)) (J : (Nat → Nat → Int64)) (a0 : Nat) (a1 : Int32) (a2 : Int32) (a3 : Int64) : Option ((Nat → Nat → Int32) × (Nat → Nat → Int64)) :=
  if a2 = 0 then (if a0 < N ∧ K a0 = (0, 5) then (xb (m5_clearRow N K F I J a0 a1) fun (I2, J3) => some (I2, J3)) else none) else (if a0 < N ∧ K a0 = (0, 5) then (xb (m5_setRow N K F I J a0 a1 a3) fun (I6, J7) => some (I6, J7)) else none)
set_option maxRecDepth 100000 in
set_option maxHeartbeats 4000000 in
theorem c_m5_setOrClear {l : Launch} {B d : Nat} {g : xG} {N : Nat} {K : Nat → Nat × Nat} {F : Nat → Nat → Option Nat} {I : (Nat → Nat → Int32)} {J : (Nat → Nat → Int64)} {a0 : Nat} {a1 : Int32} {a2 : Int32} {a3 : Int64} {I' : (Nat → Nat → Int32)} {J' : (Nat → Nat → Int64)} (h : m5_setOrClear N K F I J a0 a1 a2 a3 = some (I', J')) : xC l g B (d + 1) 0 0 y5_setOrClear c5_setOrClear 5 none [.ref (B + a0), .int a1, .int a2, .long a3] (xP g B N K I J F) (xq none (xP g B N K I' J' F)) := by
  refine xC_of (by decide) (Nat.le_of_ble_eq_true rfl) (fun X hl hR hr _ hX => ?_)
  refine x_sub (L' := [(0, .ref (B + a0)), (1, .int a1), (2, .int a2), (3, .long a3)]) [0, 1, 2, 3] rfl ?_
  unfold m5_setOrClear at h
  refine x_iload_n hX d5_setOrClear_0 rfl rfl ?_
  refine x_if_eq (tgt := 13) hX d5_setOrClear_1 (by decide) (fun hc => ?_) (fun hc => ?_)
  · rw [if_pos hc] at h
    refine x_aload_n hX d5_setOrClear_13 rfl rfl ?_
    refine x_iload_n hX d5_setOrClear_14 rfl rfl ?_
    obtain ⟨hg1, h⟩ := x_gd h
    obtain ⟨⟨I2, J3⟩, eb4, h⟩ := x_bd h
    dsimp only at h
    refine x_callV hX hR (c_m5_clearRow (l := x_l X) (d := d + 0) eb4) kX5_119 kN5_clearRow kE5_clearRow xc5.1 hg1.1 hg1.2 rfl rfl (Nat.le_of_ble_eq_true rfl) ⟨Nat.le_refl 0, Nat.le_refl 0⟩ d5_setOrClear_15 (x_kkv ?_)
    cases h
    exact x_vret hX hr d5_setOrClear_18 (fun H hP => ⟨rfl, hP⟩)
  · rw [if_neg hc] at h
    refine x_aload_n hX d5_setOrClear_4 rfl rfl ?_
    refine x_iload_n hX d5_setOrClear_5 rfl rfl ?_
    refine x_lload_n hX d5_setOrClear_6 rfl rfl ?_
    obtain ⟨hg5, h⟩ := x_gd h
    obtain ⟨⟨I6, J7⟩, eb8, h⟩ := x_bd h
    dsimp only at h
    refine x_callV hX hR (c_m5_setRow (l := x_l X) (d := d + 0) eb8) kX5_115 kN5_setRow kE5_setRow xc5.1 hg5.1 hg5.2 rfl rfl (Nat.le_of_ble_eq_true rfl) ⟨Nat.le_refl 0, Nat.le_refl 0⟩ d5_setOrClear_7 (x_kkv ?_)
    refine x_goto (tgt := 18) hX d5_setOrClear_10 (by decide) ?_
    cases h
    exact x_vret hX hr d5_setOrClear_18 (fun H hP => ⟨rfl, hP⟩)

def m5_alter (N : Nat) (K : Nat → Nat × Nat) (F : Nat → Nat → Option Nat) (I : (Nat → Nat → Int32)) (J : (Nat → Nat → Int64)) (a0 : Nat) (a1 : Int32) (a2 : Int32) (a3 : Int32) (a4 : Int64) : Option (Int32 × (Nat → Nat → Int32) × (Nat → Nat → Int64)) :=
  if a0 < N ∧ K a0 = (0, 5) then (xb (m5_isSource N K F I J a0 a1 a2) fun x2 => if ¬ x2 = 0 then (if (I a0 20) = 0 then (xb (m5_keepRows N K F I J a0) fun (I4, J5) => xb (m5_setOrClear N K F I4 J5 a0 (((64 : Int32) * a1) + a2) a3 a4) fun (I7, J8) => xb (m5_tell N K F I7 J8 a0) fun (x10, I11, J12) => some (x10, I11, J12)) else (if ¬ (I a0 21) = (40 : Int32) then (xb (F a0 22) fun q14 => if q14 < N ∧ (K q14).1 = 1 ∧ xinb (I a0 21) (K q14).2 then (xlet (xu I q14 ((I a0 21).toNatClampNeg) a1) fun I16 => xb (F a0 23) fun q17 => if q17 < N ∧ (K q17).1 = 1 ∧ xinb (I16 a0 21) (K q17).2 then (xlet (xu I16 q17 ((I16 a0 21).toNatClampNeg) a2) fun I19 => xb (F a0 24) fun q20 => if q20 < N ∧ (K q20).1 = 3 ∧ xinb (I19 a0 21) (K q20).2 then (if a3 = 0 ∨ a3 = 1 then (xlet (xu I19 q20 ((I19 a0 21).toNatClampNeg) a3) fun I23 => xb (F a0 25) fun q24 => if q24 < N ∧ (K q24).1 = 2 ∧ xinb (I23 a0 21) (K q24).2 then (xlet (xu J q24 ((I23 a0 21).toNatClampNeg) a4) fun J26 => xlet (xu I23 a0 21 ((I23 a0 21) + (1 : Int32))) fun I27 => some ((I27 a0 21), I27, J26)) else none) else none) else none) else none) else none) else (some ((-3 : Int32), I, J)))) else (some ((-2 : Int32), I, J))) else none
set_option maxRecDepth 100000 in
set_option maxHeartbeats 4000000 in
theorem c_m5_alter {l : Launch} {B d : Nat} {g : xG} {N : Nat} {K : Nat → Nat × Nat} {F : Nat → Nat → Option Nat} {I : (Nat → Nat → Int32)} {J : (Nat → Nat → Int64)} {a0 : Nat} {a1 : Int32} {a2 : Int32} {a3 : Int32} {a4 : Int64} {rv : Int32} {I' : (Nat → Nat → Int32)} {J' : (Nat → Nat → Int64)} (h : m5_alter N K F I J a0 a1 a2 a3 a4 = some (rv, I', J')) : xC l g B (d + 5) 0 0 y5_alter c5_alter 6 (some .int) [.ref (B + a0), .int a1, .int a2, .int a3, .long a4] (xP g B N K I J F) (xq (some (.int rv)) (xP g B N K I' J' F)) := by
  refine xC_of (by decide) (Nat.le_of_ble_eq_true rfl) (fun X hl hR hr _ hX => ?_)
  refine x_sub (L' := [(0, .ref (B + a0)), (1, .int a1), (2, .int a2), (3, .int a3), (4, .long a4)]) [0, 1, 2, 3, 4] rfl ?_
  unfold m5_alter at h
  refine x_aload_n hX d5_alter_0 rfl rfl ?_
  refine x_iload_n hX d5_alter_1 rfl rfl ?_
  refine x_iload_n hX d5_alter_2 rfl rfl ?_
  obtain ⟨hg1, h⟩ := x_gd h
  obtain ⟨x2, eb3, h⟩ := x_bd h
  refine x_callV hX hR (c_m5_isSource (l := x_l X) (d := d + 2) eb3) kX5_170 kN5_isSource kE5_isSource xc5.1 hg1.1 hg1.2 rfl rfl (Nat.le_of_ble_eq_true rfl) ⟨Nat.le_refl 0, Nat.le_refl 0⟩ d5_alter_3 (x_kki ?_)
  refine x_if_ne (tgt := 12) hX d5_alter_6 (by decide) (fun hc => ?_) (fun hc => ?_)
  · rw [if_pos hc] at h
    refine x_aload_n hX d5_alter_12 rfl rfl ?_
    refine x_getI (j := 20) hX xc5 hg1.1 hg1.2 (by decide) rfl kF5_100 d5_alter_13 ?_
    refine x_if_eq (tgt := 87) hX d5_alter_16 (by decide) (fun hc => ?_) (fun hc => ?_)
    · rw [if_pos hc] at h
      refine x_aload_n hX d5_alter_87 rfl rfl ?_
      obtain ⟨⟨I4, J5⟩, eb6, h⟩ := x_bd h
      dsimp only at h
      refine x_callV hX hR (c_m5_keepRows (l := x_l X) (d := d + 4) eb6) kX5_174 kN5_keepRows kE5_keepRows xc5.1 hg1.1 hg1.2 rfl rfl (Nat.le_of_ble_eq_true rfl) ⟨Nat.le_refl 0, Nat.le_refl 0⟩ d5_alter_88 (x_kkv ?_)
      refine x_aload_n hX d5_alter_91 rfl rfl ?_
      refine x_bipush (v := 64) hX d5_alter_92 (by decide) ?_
      refine x_iload_n hX d5_alter_94 rfl rfl ?_
      refine x_imul hX d5_alter_95 ?_
      refine x_iload_n hX d5_alter_96 rfl rfl ?_
      refine x_iadd hX d5_alter_97 ?_
      refine x_iload_n hX d5_alter_98 rfl rfl ?_
      refine x_lload hX d5_alter_99 rfl ?_
      obtain ⟨⟨I7, J8⟩, eb9, h⟩ := x_bd h
      dsimp only at h
      refine x_callV hX hR (c_m5_setOrClear (l := x_l X) (d := d + 3) eb9) kX5_177 kN5_setOrClear kE5_setOrClear xc5.1 hg1.1 hg1.2 rfl rfl (Nat.le_of_ble_eq_true rfl) ⟨Nat.le_refl 0, Nat.le_refl 0⟩ d5_alter_101 (x_kkv ?_)
      refine x_aload_n hX d5_alter_104 rfl rfl ?_
      obtain ⟨⟨x10, I11, J12⟩, eb13, h⟩ := x_bd h
      dsimp only at h
      refine x_callV hX hR (c_m5_tell (l := x_l X) (d := d + 0) eb13) kX5_181 kN5_tell kE5_tell xc5.1 hg1.1 hg1.2 rfl rfl (Nat.le_of_ble_eq_true rfl) ⟨Nat.le_refl 0, Nat.le_refl 0⟩ d5_alter_105 (x_kki ?_)
      cases h
      exact x_iret hX hr d5_alter_108 (fun H hP => ⟨rfl, hP⟩)
    · rw [if_neg hc] at h
      refine x_aload_n hX d5_alter_19 rfl rfl ?_
      refine x_getI (j := 21) hX xc5 hg1.1 hg1.2 (by decide) rfl kF5_104 d5_alter_20 ?_
      refine x_bipush (v := 40) hX d5_alter_23 (by decide) ?_
      refine x_icmp_ne (tgt := 31) hX d5_alter_25 (by decide) (fun hc => ?_) (fun hc => ?_)
      · rw [if_pos hc] at h
        refine x_aload_n hX d5_alter_31 rfl rfl ?_
        obtain ⟨q14, eq14, h⟩ := x_bd h
        refine x_getF (j := 22) hX xc5 hg1.1 hg1.2 (by decide) rfl eq14 kF5_60 d5_alter_32 ?_
        refine x_aload_n hX d5_alter_35 rfl rfl ?_
        refine x_getI (j := 21) hX xc5 hg1.1 hg1.2 (by decide) rfl kF5_104 d5_alter_36 ?_
        refine x_iload_n hX d5_alter_39 rfl rfl ?_
        obtain ⟨hg15, h⟩ := x_gd h
        refine x_iast hX hg15.1 (x_kd hg15.2.1) (x_in hg15.2.2) d5_alter_40 ?_
        obtain ⟨I16, eI16, h⟩ := x_le h
        rw [← eI16]
        refine x_aload_n hX d5_alter_41 rfl rfl ?_
        obtain ⟨q17, eq17, h⟩ := x_bd h
        refine x_getF (j := 23) hX xc5 hg1.1 hg1.2 (by decide) rfl eq17 kF5_63 d5_alter_42 ?_
        refine x_aload_n hX d5_alter_45 rfl rfl ?_
        refine x_getI (j := 21) hX xc5 hg1.1 hg1.2 (by decide) rfl kF5_104 d5_alter_46 ?_
        refine x_iload_n hX d5_alter_49 rfl rfl ?_
        obtain ⟨hg18, h⟩ := x_gd h
        refine x_iast hX hg18.1 (x_kd hg18.2.1) (x_in hg18.2.2) d5_alter_50 ?_
        obtain ⟨I19, eI19, h⟩ := x_le h
        rw [← eI19]
        refine x_aload_n hX d5_alter_51 rfl rfl ?_
        obtain ⟨q20, eq20, h⟩ := x_bd h
        refine x_getF (j := 24) hX xc5 hg1.1 hg1.2 (by decide) rfl eq20 kF5_66 d5_alter_52 ?_
        refine x_aload_n hX d5_alter_55 rfl rfl ?_
        refine x_getI (j := 21) hX xc5 hg1.1 hg1.2 (by decide) rfl kF5_104 d5_alter_56 ?_
        refine x_iload_n hX d5_alter_59 rfl rfl ?_
        obtain ⟨hg21, h⟩ := x_gd h
        obtain ⟨hg22, h⟩ := x_gd h
        refine x_zast hX hg21.1 (x_kd hg21.2.1) (x_in hg21.2.2) (x_nbool hg22) d5_alter_60 ?_
        obtain ⟨I23, eI23, h⟩ := x_le h
        rw [← eI23]
        refine x_aload_n hX d5_alter_61 rfl rfl ?_
        obtain ⟨q24, eq24, h⟩ := x_bd h
        refine x_getF (j := 25) hX xc5 hg1.1 hg1.2 (by decide) rfl eq24 kF5_69 d5_alter_62 ?_
        refine x_aload_n hX d5_alter_65 rfl rfl ?_
        refine x_getI (j := 21) hX xc5 hg1.1 hg1.2 (by decide) rfl kF5_104 d5_alter_66 ?_
        refine x_lload hX d5_alter_69 rfl ?_
        obtain ⟨hg25, h⟩ := x_gd h
        refine x_last hX hg25.1 (x_kd hg25.2.1) (x_in hg25.2.2) d5_alter_71 ?_
        obtain ⟨J26, eJ26, h⟩ := x_le h
        rw [← eJ26]
        refine x_aload_n hX d5_alter_72 rfl rfl ?_
        refine x_dup hX d5_alter_73 rfl ?_
        refine x_getI (j := 21) hX xc5 hg1.1 hg1.2 (by decide) rfl kF5_104 d5_alter_74 ?_
        refine x_iconst (v := 1) hX d5_alter_77 (by decide) ?_
        refine x_iadd hX d5_alter_78 ?_
        refine x_putI (j := 21) hX xc5 hg1.1 hg1.2 (by decide) rfl kF5_104 (Or.inl rfl) rfl rfl d5_alter_79 ?_
        obtain ⟨I27, eI27, h⟩ := x_le h
        rw [← eI27]
        refine x_aload_n hX d5_alter_82 rfl rfl ?_
        refine x_getI (j := 21) hX xc5 hg1.1 hg1.2 (by decide) rfl kF5_104 d5_alter_83 ?_
        cases h
        exact x_iret hX hr d5_alter_86 (fun H hP => ⟨rfl, hP⟩)
      · rw [if_neg (x_nn hc)] at h
        refine x_bipush (v := -3) hX d5_alter_28 (by decide) ?_
        cases h
        exact x_iret hX hr d5_alter_30 (fun H hP => ⟨rfl, hP⟩)
  · rw [if_neg (x_nn hc)] at h
    refine x_bipush (v := -2) hX d5_alter_9 (by decide) ?_
    cases h
    exact x_iret hX hr d5_alter_11 (fun H hP => ⟨rfl, hP⟩)

def m5_put (N : Nat) (K : Nat → Nat × Nat) (F : Nat → Nat → Option Nat) (I : (Nat → Nat → Int32)) (J : (Nat → Nat → Int64)) (a0 : Nat) (a1 : Int32) (a2 : Int32) (a3 : Int64) : Option (Int32 × (Nat → Nat → Int32) × (Nat → Nat → Int64)) :=
  if a0 < N ∧ K a0 = (0, 5) then (xb (m5_alter N K F I J a0 a1 a2 (1 : Int32) a3) fun (x2, I3, J4) => some (x2, I3, J4)) else none
set_option maxRecDepth 100000 in
set_option maxHeartbeats 4000000 in
theorem c_m5_put {l : Launch} {B d : Nat} {g : xG} {N : Nat} {K : Nat → Nat × Nat} {F : Nat → Nat → Option Nat} {I : (Nat → Nat → Int32)} {J : (Nat → Nat → Int64)} {a0 : Nat} {a1 : Int32} {a2 : Int32} {a3 : Int64} {rv : Int32} {I' : (Nat → Nat → Int32)} {J' : (Nat → Nat → Int64)} (h : m5_put N K F I J a0 a1 a2 a3 = some (rv, I', J')) : xC l g B (d + 6) 0 0 y5_put c5_put 5 (some .int) [.ref (B + a0), .int a1, .int a2, .long a3] (xP g B N K I J F) (xq (some (.int rv)) (xP g B N K I' J' F)) := by
  refine xC_of (by decide) (Nat.le_of_ble_eq_true rfl) (fun X hl hR hr _ hX => ?_)
  refine x_sub (L' := [(0, .ref (B + a0)), (1, .int a1), (2, .int a2), (3, .long a3)]) [0, 1, 2, 3] rfl ?_
  unfold m5_put at h
  refine x_aload_n hX d5_put_0 rfl rfl ?_
  refine x_iload_n hX d5_put_1 rfl rfl ?_
  refine x_iload_n hX d5_put_2 rfl rfl ?_
  refine x_iconst (v := 1) hX d5_put_3 (by decide) ?_
  refine x_lload_n hX d5_put_4 rfl rfl ?_
  obtain ⟨hg1, h⟩ := x_gd h
  obtain ⟨⟨x2, I3, J4⟩, eb5, h⟩ := x_bd h
  dsimp only at h
  refine x_callV hX hR (c_m5_alter (l := x_l X) (d := d + 0) eb5) kX5_184 kN5_alter kE5_alter xc5.1 hg1.1 hg1.2 rfl rfl (Nat.le_of_ble_eq_true rfl) ⟨Nat.le_refl 0, Nat.le_refl 0⟩ d5_put_5 (x_kki ?_)
  cases h
  exact x_iret hX hr d5_put_8 (fun H hP => ⟨rfl, hP⟩)

def m5_remove (N : Nat) (K : Nat → Nat × Nat) (F : Nat → Nat → Option Nat) (I : (Nat → Nat → Int32)) (J : (Nat → Nat → Int64)) (a0 : Nat) (a1 : Int32) (a2 : Int32) : Option (Int32 × (Nat → Nat → Int32) × (Nat → Nat → Int64)) :=
  if a0 < N ∧ K a0 = (0, 5) then (xb (m5_alter N K F I J a0 a1 a2 (0 : Int32) (0 : Int64)) fun (x2, I3, J4) => some (x2, I3, J4)) else none
set_option maxRecDepth 100000 in
set_option maxHeartbeats 4000000 in
theorem c_m5_remove {l : Launch} {B d : Nat} {g : xG} {N : Nat} {K : Nat → Nat × Nat} {F : Nat → Nat → Option Nat} {I : (Nat → Nat → Int32)} {J : (Nat → Nat → Int64)} {a0 : Nat} {a1 : Int32} {a2 : Int32} {rv : Int32} {I' : (Nat → Nat → Int32)} {J' : (Nat → Nat → Int64)} (h : m5_remove N K F I J a0 a1 a2 = some (rv, I', J')) : xC l g B (d + 6) 0 0 y5_remove c5_remove 3 (some .int) [.ref (B + a0), .int a1, .int a2] (xP g B N K I J F) (xq (some (.int rv)) (xP g B N K I' J' F)) := by
  refine xC_of (by decide) (Nat.le_of_ble_eq_true rfl) (fun X hl hR hr _ hX => ?_)
  refine x_sub (L' := [(0, .ref (B + a0)), (1, .int a1), (2, .int a2)]) [0, 1, 2] rfl ?_
  unfold m5_remove at h
  refine x_aload_n hX d5_remove_0 rfl rfl ?_
  refine x_iload_n hX d5_remove_1 rfl rfl ?_
  refine x_iload_n hX d5_remove_2 rfl rfl ?_
  refine x_iconst (v := 0) hX d5_remove_3 (by decide) ?_
  refine x_lconst (v := 0) hX d5_remove_4 (by decide) ?_
  obtain ⟨hg1, h⟩ := x_gd h
  obtain ⟨⟨x2, I3, J4⟩, eb5, h⟩ := x_bd h
  dsimp only at h
  refine x_callV hX hR (c_m5_alter (l := x_l X) (d := d + 0) eb5) kX5_184 kN5_alter kE5_alter xc5.1 hg1.1 hg1.2 rfl rfl (Nat.le_of_ble_eq_true rfl) ⟨Nat.le_refl 0, Nat.le_refl 0⟩ d5_remove_5 (x_kki ?_)
  cases h
  exact x_iret hX hr d5_remove_8 (fun H hP => ⟨rfl, hP⟩)

def m5_begin (N : Nat) (K : Nat → Nat × Nat) (F : Nat → Nat → Option Nat) (I : (Nat → Nat → Int32)) (J : (Nat → Nat → Int64)) (a0 : Nat) : Option (Int32 × (Nat → Nat → Int32)) :=
  if a0 < N ∧ K a0 = (0, 5) then (if (I a0 20) = 0 then (xlet (xu I a0 20 (1 : Int32)) fun I2 => xlet (xu I2 a0 21 (0 : Int32)) fun I3 => some ((1 : Int32), I3)) else (some ((-4 : Int32), I))) else none
set_option maxRecDepth 100000 in
set_option maxHeartbeats 4000000 in
theorem c_m5_begin {l : Launch} {B d : Nat} {g : xG} {N : Nat} {K : Nat → Nat × Nat} {F : Nat → Nat → Option Nat} {I : (Nat → Nat → Int32)} {J : (Nat → Nat → Int64)} {a0 : Nat} {rv : Int32} {I' : (Nat → Nat → Int32)} (h : m5_begin N K F I J a0 = some (rv, I')) : xC l g B (d + 0) 0 0 y5_begin c5_begin 1 (some .int) [.ref (B + a0)] (xP g B N K I J F) (xq (some (.int rv)) (xP g B N K I' J F)) := by
  refine xC_of (by decide) (Nat.le_of_ble_eq_true rfl) (fun X hl hR hr _ hX => ?_)
  refine x_sub (L' := [(0, .ref (B + a0))]) [0] rfl ?_
  unfold m5_begin at h
  refine x_aload_n hX d5_begin_0 rfl rfl ?_
  obtain ⟨hg1, h⟩ := x_gd h
  refine x_getI (j := 20) hX xc5 hg1.1 hg1.2 (by decide) rfl kF5_100 d5_begin_1 ?_
  refine x_if_eq (tgt := 10) hX d5_begin_4 (by decide) (fun hc => ?_) (fun hc => ?_)
  · rw [if_pos hc] at h
    refine x_aload_n hX d5_begin_10 rfl rfl ?_
    refine x_iconst (v := 1) hX d5_begin_11 (by decide) ?_
    refine x_putI (j := 20) hX xc5 hg1.1 hg1.2 (by decide) rfl kF5_100 (Or.inl rfl) rfl rfl d5_begin_12 ?_
    obtain ⟨I2, eI2, h⟩ := x_le h
    rw [← eI2]
    refine x_aload_n hX d5_begin_15 rfl rfl ?_
    refine x_iconst (v := 0) hX d5_begin_16 (by decide) ?_
    refine x_putI (j := 21) hX xc5 hg1.1 hg1.2 (by decide) rfl kF5_104 (Or.inl rfl) rfl rfl d5_begin_17 ?_
    obtain ⟨I3, eI3, h⟩ := x_le h
    rw [← eI3]
    refine x_iconst (v := 1) hX d5_begin_20 (by decide) ?_
    cases h
    exact x_iret hX hr d5_begin_21 (fun H hP => ⟨rfl, hP⟩)
  · rw [if_neg hc] at h
    refine x_bipush (v := -4) hX d5_begin_7 (by decide) ?_
    cases h
    exact x_iret hX hr d5_begin_9 (fun H hP => ⟨rfl, hP⟩)

def m5_end_L16 (N : Nat) (K : Nat → Nat × Nat) (F : Nat → Nat → Option Nat) : Nat → (Nat → Nat → Int32) → (Nat → Nat → Int64) → Nat → Int32 → Option (Int32 × (Nat → Nat → Int32) × (Nat → Nat → Int64))
  | 0, _, _, _, _ => none
  | n + 1, I, J, v0, v1 => if v0 < N ∧ K v0 = (0, 5) then (if (I v0 21) ≤ v1 then (xb (m5_tell N K F I J v0) fun (x2, I3, J4) => if ¬ x2 = (-3 : Int32) then (xlet (xu I3 v0 20 (0 : Int32)) fun I6 => some (x2, I6, J4)) else (xlet (xu I3 v0 20 (1 : Int32)) fun I7 => some (x2, I7, J4))) else (xb (F v0 22) fun q8 => if q8 < N ∧ (K q8).1 = 1 ∧ xinb v1 (K q8).2 then (xb (F v0 23) fun q10 => if q10 < N ∧ (K q10).1 = 1 ∧ xinb v1 (K q10).2 then (xb (F v0 24) fun q12 => if q12 < N ∧ (K q12).1 = 3 ∧ xinb v1 (K q12).2 then (xb (F v0 25) fun q14 => if q14 < N ∧ (K q14).1 = 2 ∧ xinb v1 (K q14).2 then (xb (m5_setOrClear N K F I J v0 (((64 : Int32) * (I q8 (v1.toNatClampNeg))) + (I q10 (v1.toNatClampNeg))) (I q12 (v1.toNatClampNeg)) (J q14 (v1.toNatClampNeg))) fun (I16, J17) => xlet (v1 + (1 : Int32)) fun x19 => m5_end_L16 N K F n I16 J17 v0 x19) else none) else none) else none) else none)) else none
def m5_end (N : Nat) (K : Nat → Nat × Nat) (F : Nat → Nat → Option Nat) (I : (Nat → Nat → Int32)) (J : (Nat → Nat → Int64)) (a0 : Nat) : Option (Int32 × (Nat → Nat → Int32) × (Nat → Nat → Int64)) :=
  if a0 < N ∧ K a0 = (0, 5) then (if ¬ (I a0 20) = 0 then (xb (m5_keepRows N K F I J a0) fun (I2, J3) => m5_end_L16 N K F xFu I2 J3 a0 (0 : Int32)) else (some ((-4 : Int32), I, J))) else none
set_option maxRecDepth 100000 in
set_option maxHeartbeats 4000000 in
theorem t_m5_end_L16 {X : xX} {B d : Nat} {g : xG} {N : Nat} {K : Nat → Nat × Nat} {F : Nat → Nat → Option Nat} {rv : Int32} {I' : (Nat → Nat → Int32)} {J' : (Nat → Nat → Int64)} (hX : xO X c5_end "ChangeRowsModel" 2 B g) (hR : x_R X = xrm (d + 5) 0 0) (hr : (x_meth X).sig.returnType = (some .int)) : ∀ (n : Nat) (I : (Nat → Nat → Int32)) (J : (Nat → Nat → Int64)) (v0 : Nat) (v1 : Int32), m5_end_L16 N K F n I J v0 v1 = some (rv, I', J') → xV X B 2 (xZ X B 0 0 (xq (some (.int rv)) (xP g B N K I' J' F))) 0 0 (xP g B N K I J F) 16 [(0, .ref (B + v0)), (1, .int v1)] [] := by
  intro n
  induction n with
  | zero =>
    intro I J v0 v1 h
    cases h
  | succ n ih =>
    intro I J v0 v1 h
    rw [m5_end_L16] at h
    refine x_iload_n hX d5_end_16 rfl rfl ?_
    refine x_aload_n hX d5_end_17 rfl rfl ?_
    obtain ⟨hg1, h⟩ := x_gd h
    refine x_getI (j := 21) hX xc5 hg1.1 hg1.2 (by decide) rfl kF5_104 d5_end_18 ?_
    refine x_icmp_ge (tgt := 62) hX d5_end_21 (by decide) (fun hc => ?_) (fun hc => ?_)
    · rw [if_pos hc] at h
      refine x_aload_n hX d5_end_62 rfl rfl ?_
      obtain ⟨⟨x2, I3, J4⟩, eb5, h⟩ := x_bd h
      dsimp only at h
      refine x_callV hX hR (c_m5_tell (l := x_l X) (d := d + 0) eb5) kX5_181 kN5_tell kE5_tell xc5.1 hg1.1 hg1.2 rfl rfl (Nat.le_of_ble_eq_true rfl) ⟨Nat.le_refl 0, Nat.le_refl 0⟩ d5_end_63 (x_kki ?_)
      refine x_istore_n hX [(1, .int x2), (0, .ref (B + v0))] d5_end_66 rfl (by decide) rfl ?_
      refine x_aload_n hX d5_end_67 rfl rfl ?_
      refine x_iload_n hX d5_end_68 rfl rfl ?_
      refine x_bipush (v := -3) hX d5_end_69 (by decide) ?_
      refine x_icmp_ne (tgt := 78) hX d5_end_71 (by decide) (fun hc => ?_) (fun hc => ?_)
      · rw [if_pos hc] at h
        refine x_iconst (v := 0) hX d5_end_78 (by decide) ?_
        refine x_putI (j := 20) hX xc5 hg1.1 hg1.2 (by decide) rfl kF5_100 (Or.inl rfl) rfl rfl d5_end_79 ?_
        obtain ⟨I6, eI6, h⟩ := x_le h
        rw [← eI6]
        refine x_iload_n hX d5_end_82 rfl rfl ?_
        cases h
        exact x_iret hX hr d5_end_83 (fun H hP => ⟨rfl, hP⟩)
      · rw [if_neg (x_nn hc)] at h
        refine x_iconst (v := 1) hX d5_end_74 (by decide) ?_
        refine x_goto (tgt := 79) hX d5_end_75 (by decide) ?_
        refine x_putI (j := 20) hX xc5 hg1.1 hg1.2 (by decide) rfl kF5_100 (Or.inl rfl) rfl rfl d5_end_79 ?_
        obtain ⟨I7, eI7, h⟩ := x_le h
        rw [← eI7]
        refine x_iload_n hX d5_end_82 rfl rfl ?_
        cases h
        exact x_iret hX hr d5_end_83 (fun H hP => ⟨rfl, hP⟩)
    · rw [if_neg hc] at h
      refine x_aload_n hX d5_end_24 rfl rfl ?_
      refine x_bipush (v := 64) hX d5_end_25 (by decide) ?_
      refine x_aload_n hX d5_end_27 rfl rfl ?_
      obtain ⟨q8, eq8, h⟩ := x_bd h
      refine x_getF (j := 22) hX xc5 hg1.1 hg1.2 (by decide) rfl eq8 kF5_60 d5_end_28 ?_
      refine x_iload_n hX d5_end_31 rfl rfl ?_
      obtain ⟨hg9, h⟩ := x_gd h
      refine x_iald hX hg9.1 (x_kd hg9.2.1) (x_in hg9.2.2) d5_end_32 ?_
      refine x_imul hX d5_end_33 ?_
      refine x_aload_n hX d5_end_34 rfl rfl ?_
      obtain ⟨q10, eq10, h⟩ := x_bd h
      refine x_getF (j := 23) hX xc5 hg1.1 hg1.2 (by decide) rfl eq10 kF5_63 d5_end_35 ?_
      refine x_iload_n hX d5_end_38 rfl rfl ?_
      obtain ⟨hg11, h⟩ := x_gd h
      refine x_iald hX hg11.1 (x_kd hg11.2.1) (x_in hg11.2.2) d5_end_39 ?_
      refine x_iadd hX d5_end_40 ?_
      refine x_aload_n hX d5_end_41 rfl rfl ?_
      obtain ⟨q12, eq12, h⟩ := x_bd h
      refine x_getF (j := 24) hX xc5 hg1.1 hg1.2 (by decide) rfl eq12 kF5_66 d5_end_42 ?_
      refine x_iload_n hX d5_end_45 rfl rfl ?_
      obtain ⟨hg13, h⟩ := x_gd h
      refine x_zald hX hg13.1 (x_kd hg13.2.1) (x_in hg13.2.2) d5_end_46 ?_
      refine x_aload_n hX d5_end_47 rfl rfl ?_
      obtain ⟨q14, eq14, h⟩ := x_bd h
      refine x_getF (j := 25) hX xc5 hg1.1 hg1.2 (by decide) rfl eq14 kF5_69 d5_end_48 ?_
      refine x_iload_n hX d5_end_51 rfl rfl ?_
      obtain ⟨hg15, h⟩ := x_gd h
      refine x_lald hX hg15.1 (x_kd hg15.2.1) (x_in hg15.2.2) d5_end_52 ?_
      obtain ⟨⟨I16, J17⟩, eb18, h⟩ := x_bd h
      dsimp only at h
      refine x_callV hX hR (c_m5_setOrClear (l := x_l X) (d := d + 3) eb18) kX5_177 kN5_setOrClear kE5_setOrClear xc5.1 hg1.1 hg1.2 rfl rfl (Nat.le_of_ble_eq_true rfl) ⟨Nat.le_refl 0, Nat.le_refl 0⟩ d5_end_53 (x_kkv ?_)
      obtain ⟨x19, ex19, h⟩ := x_le h
      refine x_iinc (j := 1) hX [(1, .int x19), (0, .ref (B + v0))] d5_end_56 rfl (by rw [ex19]; rfl) (by decide) rfl ?_
      refine x_goto (tgt := 16) hX d5_end_59 (by decide) ?_
      refine x_sub [1, 0] rfl ?_
      exact ih _ _ _ _ h
set_option maxRecDepth 100000 in
set_option maxHeartbeats 4000000 in
theorem c_m5_end {l : Launch} {B d : Nat} {g : xG} {N : Nat} {K : Nat → Nat × Nat} {F : Nat → Nat → Option Nat} {I : (Nat → Nat → Int32)} {J : (Nat → Nat → Int64)} {a0 : Nat} {rv : Int32} {I' : (Nat → Nat → Int32)} {J' : (Nat → Nat → Int64)} (h : m5_end N K F I J a0 = some (rv, I', J')) : xC l g B (d + 5) 0 0 y5_end c5_end 2 (some .int) [.ref (B + a0)] (xP g B N K I J F) (xq (some (.int rv)) (xP g B N K I' J' F)) := by
  refine xC_of (by decide) (Nat.le_of_ble_eq_true rfl) (fun X hl hR hr _ hX => ?_)
  refine x_sub (L' := [(0, .ref (B + a0))]) [0] rfl ?_
  unfold m5_end at h
  refine x_aload_n hX d5_end_0 rfl rfl ?_
  obtain ⟨hg1, h⟩ := x_gd h
  refine x_getI (j := 20) hX xc5 hg1.1 hg1.2 (by decide) rfl kF5_100 d5_end_1 ?_
  refine x_if_ne (tgt := 10) hX d5_end_4 (by decide) (fun hc => ?_) (fun hc => ?_)
  · rw [if_pos hc] at h
    refine x_aload_n hX d5_end_10 rfl rfl ?_
    obtain ⟨⟨I2, J3⟩, eb4, h⟩ := x_bd h
    dsimp only at h
    refine x_callV hX hR (c_m5_keepRows (l := x_l X) (d := d + 4) eb4) kX5_174 kN5_keepRows kE5_keepRows xc5.1 hg1.1 hg1.2 rfl rfl (Nat.le_of_ble_eq_true rfl) ⟨Nat.le_refl 0, Nat.le_refl 0⟩ d5_end_11 (x_kkv ?_)
    refine x_iconst (v := 0) hX d5_end_14 (by decide) ?_
    refine x_istore_n hX [(1, .int (0 : Int32)), (0, .ref (B + a0))] d5_end_15 rfl (by decide) rfl ?_
    refine x_sub [1, 0] rfl ?_
    exact t_m5_end_L16 hX hR hr _ _ _ _ _ h
  · rw [if_neg (x_nn hc)] at h
    refine x_bipush (v := -4) hX d5_end_7 (by decide) ?_
    cases h
    exact x_iret hX hr d5_end_9 (fun H hP => ⟨rfl, hP⟩)

def m5_drop (N : Nat) (K : Nat → Nat × Nat) (F : Nat → Nat → Option Nat) (I : (Nat → Nat → Int32)) (J : (Nat → Nat → Int64)) (a0 : Nat) : Option (Int32 × (Nat → Nat → Int32)) :=
  if a0 < N ∧ K a0 = (0, 5) then (if ¬ (I a0 20) = 0 then (xlet (xu I a0 20 (0 : Int32)) fun I2 => some ((I2 a0 21), I2)) else (some ((-4 : Int32), I))) else none
set_option maxRecDepth 100000 in
set_option maxHeartbeats 4000000 in
theorem c_m5_drop {l : Launch} {B d : Nat} {g : xG} {N : Nat} {K : Nat → Nat × Nat} {F : Nat → Nat → Option Nat} {I : (Nat → Nat → Int32)} {J : (Nat → Nat → Int64)} {a0 : Nat} {rv : Int32} {I' : (Nat → Nat → Int32)} (h : m5_drop N K F I J a0 = some (rv, I')) : xC l g B (d + 0) 0 0 y5_drop c5_drop 1 (some .int) [.ref (B + a0)] (xP g B N K I J F) (xq (some (.int rv)) (xP g B N K I' J F)) := by
  refine xC_of (by decide) (Nat.le_of_ble_eq_true rfl) (fun X hl hR hr _ hX => ?_)
  refine x_sub (L' := [(0, .ref (B + a0))]) [0] rfl ?_
  unfold m5_drop at h
  refine x_aload_n hX d5_drop_0 rfl rfl ?_
  obtain ⟨hg1, h⟩ := x_gd h
  refine x_getI (j := 20) hX xc5 hg1.1 hg1.2 (by decide) rfl kF5_100 d5_drop_1 ?_
  refine x_if_ne (tgt := 10) hX d5_drop_4 (by decide) (fun hc => ?_) (fun hc => ?_)
  · rw [if_pos hc] at h
    refine x_aload_n hX d5_drop_10 rfl rfl ?_
    refine x_iconst (v := 0) hX d5_drop_11 (by decide) ?_
    refine x_putI (j := 20) hX xc5 hg1.1 hg1.2 (by decide) rfl kF5_100 (Or.inl rfl) rfl rfl d5_drop_12 ?_
    obtain ⟨I2, eI2, h⟩ := x_le h
    rw [← eI2]
    refine x_aload_n hX d5_drop_15 rfl rfl ?_
    refine x_getI (j := 21) hX xc5 hg1.1 hg1.2 (by decide) rfl kF5_104 d5_drop_16 ?_
    cases h
    exact x_iret hX hr d5_drop_19 (fun H hP => ⟨rfl, hP⟩)
  · rw [if_neg (x_nn hc)] at h
    refine x_bipush (v := -4) hX d5_drop_7 (by decide) ?_
    cases h
    exact x_iret hX hr d5_drop_9 (fun H hP => ⟨rfl, hP⟩)

def m5_told (N : Nat) (K : Nat → Nat × Nat) (F : Nat → Nat → Option Nat) (I : (Nat → Nat → Int32)) (J : (Nat → Nat → Int64)) (a0 : Nat) : Option (Int32) :=
  if a0 < N ∧ K a0 = (0, 5) then (some (I a0 18)) else none
set_option maxRecDepth 100000 in
set_option maxHeartbeats 4000000 in
theorem c_m5_told {l : Launch} {B d : Nat} {g : xG} {N : Nat} {K : Nat → Nat × Nat} {F : Nat → Nat → Option Nat} {I : (Nat → Nat → Int32)} {J : (Nat → Nat → Int64)} {a0 : Nat} {rv : Int32} (h : m5_told N K F I J a0 = some rv) : xC l g B (d + 0) 0 0 y5_told c5_told 1 (some .int) [.ref (B + a0)] (xP g B N K I J F) (xq (some (.int rv)) (xP g B N K I J F)) := by
  refine xC_of (by decide) (Nat.le_of_ble_eq_true rfl) (fun X hl hR hr _ hX => ?_)
  refine x_sub (L' := [(0, .ref (B + a0))]) [0] rfl ?_
  unfold m5_told at h
  refine x_aload_n hX d5_told_0 rfl rfl ?_
  obtain ⟨hg1, h⟩ := x_gd h
  refine x_getI (j := 18) hX xc5 hg1.1 hg1.2 (by decide) rfl kF5_94 d5_told_1 ?_
  cases h
  exact x_iret hX hr d5_told_4 (fun H hP => ⟨rfl, hP⟩)

def m5_placeOf_B36 (N : Nat) (K : Nat → Nat × Nat) (F : Nat → Nat → Option Nat) (I : (Nat → Nat → Int32)) (J : (Nat → Nat → Int64)) (v1 : Int32) (v2 : Int32) (w0 : Int32) : Option (Int32) :=
  xb (m5_isIn N K F I J (v2.toInt64) (0 : Int64) ((w0 - (1 : Int32)).toInt64)) fun x1 => if ¬ x1 = 0 then (if ¬ v1 = 0 then (if ¬ v1 = (1 : Int32) then (some ((2300 : Int32) + v2)) else (some v2)) else (some ((1500 : Int32) + v2))) else (some (-1 : Int32))
def m5_placeOf (N : Nat) (K : Nat → Nat × Nat) (F : Nat → Nat → Option Nat) (I : (Nat → Nat → Int32)) (J : (Nat → Nat → Int64)) (a0 : Nat) (a1 : Int32) (a2 : Int32) : Option (Int32) :=
  if ¬ a1 = 0 then (if ¬ a1 = (1 : Int32) then (if ¬ a1 = (2 : Int32) then (m5_placeOf_B36 N K F I J a1 a2 (0 : Int32)) else (if a0 < N ∧ K a0 = (0, 5) then (m5_placeOf_B36 N K F I J a1 a2 (I a0 19)) else none)) else (if a0 < N ∧ K a0 = (0, 5) then (m5_placeOf_B36 N K F I J a1 a2 (I a0 17)) else none)) else (if a0 < N ∧ K a0 = (0, 5) then (m5_placeOf_B36 N K F I J a1 a2 (I a0 18)) else none)
set_option maxRecDepth 100000 in
set_option maxHeartbeats 4000000 in
theorem t_m5_placeOf_B36 {X : xX} {B d : Nat} {g : xG} {N : Nat} {K : Nat → Nat × Nat} {F : Nat → Nat → Option Nat} {I : (Nat → Nat → Int32)} {J : (Nat → Nat → Int64)} {rv : Int32} (hX : xO X c5_placeOf "ChangeRowsModel" 4 B g) (hR : x_R X = xrm (d + 1) 0 0) (hr : (x_meth X).sig.returnType = (some .int)) (v1 : Int32) (v2 : Int32) (w0 : Int32) (h : m5_placeOf_B36 N K F I J v1 v2 w0 = some rv) : xV X B 4 (xZ X B 0 0 (xq (some (.int rv)) (xP g B N K I J F))) 0 0 (xP g B N K I J F) 36 [(1, .int v1), (2, .int v2)] [.int w0] := by
  unfold m5_placeOf_B36 at h
  refine x_istore_n hX [(3, .int w0), (1, .int v1), (2, .int v2)] d5_placeOf_36 rfl (by decide) rfl ?_
  refine x_iload_n hX d5_placeOf_37 rfl rfl ?_
  refine x_i2l hX d5_placeOf_38 ?_
  refine x_lconst (v := 0) hX d5_placeOf_39 (by decide) ?_
  refine x_iload_n hX d5_placeOf_40 rfl rfl ?_
  refine x_iconst (v := 1) hX d5_placeOf_41 (by decide) ?_
  refine x_isub hX d5_placeOf_42 ?_
  refine x_i2l hX d5_placeOf_43 ?_
  obtain ⟨x1, eb2, h⟩ := x_bd h
  refine x_callS hX hR (c_m5_isIn (l := x_l X) (d := d + 0) eb2) kX5_107 kS5_isIn rfl rfl (Nat.le_of_ble_eq_true rfl) ⟨Nat.le_refl 0, Nat.le_refl 0⟩ d5_placeOf_44 (x_kki ?_)
  refine x_if_ne (tgt := 52) hX d5_placeOf_47 (by decide) (fun hc => ?_) (fun hc => ?_)
  · rw [if_pos hc] at h
    refine x_iload_n hX d5_placeOf_52 rfl rfl ?_
    refine x_if_ne (tgt := 64) hX d5_placeOf_53 (by decide) (fun hc => ?_) (fun hc => ?_)
    · rw [if_pos hc] at h
      refine x_iload_n hX d5_placeOf_64 rfl rfl ?_
      refine x_iconst (v := 1) hX d5_placeOf_65 (by decide) ?_
      refine x_icmp_ne (tgt := 73) hX d5_placeOf_66 (by decide) (fun hc => ?_) (fun hc => ?_)
      · rw [if_pos hc] at h
        refine x_sipush (v := 2300) hX d5_placeOf_73 (by decide) ?_
        refine x_iload_n hX d5_placeOf_76 rfl rfl ?_
        refine x_iadd hX d5_placeOf_77 ?_
        cases h
        exact x_iret hX hr d5_placeOf_78 (fun H hP => ⟨rfl, hP⟩)
      · rw [if_neg (x_nn hc)] at h
        refine x_iload_n hX d5_placeOf_69 rfl rfl ?_
        refine x_goto (tgt := 78) hX d5_placeOf_70 (by decide) ?_
        cases h
        exact x_iret hX hr d5_placeOf_78 (fun H hP => ⟨rfl, hP⟩)
    · rw [if_neg (x_nn hc)] at h
      refine x_sipush (v := 1500) hX d5_placeOf_56 (by decide) ?_
      refine x_iload_n hX d5_placeOf_59 rfl rfl ?_
      refine x_iadd hX d5_placeOf_60 ?_
      refine x_goto (tgt := 78) hX d5_placeOf_61 (by decide) ?_
      cases h
      exact x_iret hX hr d5_placeOf_78 (fun H hP => ⟨rfl, hP⟩)
  · rw [if_neg (x_nn hc)] at h
    refine x_iconst (v := -1) hX d5_placeOf_50 (by decide) ?_
    cases h
    exact x_iret hX hr d5_placeOf_51 (fun H hP => ⟨rfl, hP⟩)
set_option maxRecDepth 100000 in
set_option maxHeartbeats 4000000 in
theorem c_m5_placeOf {l : Launch} {B d : Nat} {g : xG} {N : Nat} {K : Nat → Nat × Nat} {F : Nat → Nat → Option Nat} {I : (Nat → Nat → Int32)} {J : (Nat → Nat → Int64)} {a0 : Nat} {a1 : Int32} {a2 : Int32} {rv : Int32} (h : m5_placeOf N K F I J a0 a1 a2 = some rv) : xC l g B (d + 1) 0 0 y5_placeOf c5_placeOf 4 (some .int) [.ref (B + a0), .int a1, .int a2] (xP g B N K I J F) (xq (some (.int rv)) (xP g B N K I J F)) := by
  refine xC_of (by decide) (Nat.le_of_ble_eq_true rfl) (fun X hl hR hr _ hX => ?_)
  refine x_sub (L' := [(0, .ref (B + a0)), (1, .int a1), (2, .int a2)]) [0, 1, 2] rfl ?_
  unfold m5_placeOf at h
  refine x_iload_n hX d5_placeOf_0 rfl rfl ?_
  refine x_if_ne (tgt := 11) hX d5_placeOf_1 (by decide) (fun hc => ?_) (fun hc => ?_)
  · rw [if_pos hc] at h
    refine x_iload_n hX d5_placeOf_11 rfl rfl ?_
    refine x_iconst (v := 1) hX d5_placeOf_12 (by decide) ?_
    refine x_icmp_ne (tgt := 23) hX d5_placeOf_13 (by decide) (fun hc => ?_) (fun hc => ?_)
    · rw [if_pos hc] at h
      refine x_iload_n hX d5_placeOf_23 rfl rfl ?_
      refine x_iconst (v := 2) hX d5_placeOf_24 (by decide) ?_
      refine x_icmp_ne (tgt := 35) hX d5_placeOf_25 (by decide) (fun hc => ?_) (fun hc => ?_)
      · rw [if_pos hc] at h
        refine x_iconst (v := 0) hX d5_placeOf_35 (by decide) ?_
        refine x_sub [1, 2] rfl ?_
        exact t_m5_placeOf_B36 hX hR hr _ _ _ h
      · rw [if_neg (x_nn hc)] at h
        refine x_aload_n hX d5_placeOf_28 rfl rfl ?_
        obtain ⟨hg1, h⟩ := x_gd h
        refine x_getI (j := 19) hX xc5 hg1.1 hg1.2 (by decide) rfl kF5_97 d5_placeOf_29 ?_
        refine x_goto (tgt := 36) hX d5_placeOf_32 (by decide) ?_
        refine x_sub [1, 2] rfl ?_
        exact t_m5_placeOf_B36 hX hR hr _ _ _ h
    · rw [if_neg (x_nn hc)] at h
      refine x_aload_n hX d5_placeOf_16 rfl rfl ?_
      obtain ⟨hg2, h⟩ := x_gd h
      refine x_getI (j := 17) hX xc5 hg2.1 hg2.2 (by decide) rfl kF5_91 d5_placeOf_17 ?_
      refine x_goto (tgt := 36) hX d5_placeOf_20 (by decide) ?_
      refine x_sub [1, 2] rfl ?_
      exact t_m5_placeOf_B36 hX hR hr _ _ _ h
  · rw [if_neg (x_nn hc)] at h
    refine x_aload_n hX d5_placeOf_4 rfl rfl ?_
    obtain ⟨hg3, h⟩ := x_gd h
    refine x_getI (j := 18) hX xc5 hg3.1 hg3.2 (by decide) rfl kF5_94 d5_placeOf_5 ?_
    refine x_goto (tgt := 36) hX d5_placeOf_8 (by decide) ?_
    refine x_sub [1, 2] rfl ?_
    exact t_m5_placeOf_B36 hX hR hr _ _ _ h

def m5_change (N : Nat) (K : Nat → Nat × Nat) (F : Nat → Nat → Option Nat) (I : (Nat → Nat → Int32)) (J : (Nat → Nat → Int64)) (a0 : Nat) (a1 : Int32) (a2 : Int32) (a3 : Int32) : Option (Int32) :=
  if a0 < N ∧ K a0 = (0, 5) then (xb (m5_placeOf N K F I J a0 a1 a2) fun x2 => if x2 = (-1 : Int32) then (some (-2 : Int32)) else (xb (m5_isIn N K F I J (a3.toInt64) (0 : Int64) (2 : Int64)) fun x4 => if ¬ x4 = 0 then (if ¬ a3 = 0 then (if ¬ a3 = (1 : Int32) then (xb (F a0 14) fun q6 => if q6 < N ∧ (K q6).1 = 1 ∧ xinb x2 (K q6).2 then (some (I q6 (x2.toNatClampNeg))) else none) else (xb (F a0 13) fun q8 => if q8 < N ∧ (K q8).1 = 1 ∧ xinb x2 (K q8).2 then (some (I q8 (x2.toNatClampNeg))) else none)) else (xb (F a0 12) fun q10 => if q10 < N ∧ (K q10).1 = 1 ∧ xinb x2 (K q10).2 then (some (I q10 (x2.toNatClampNeg))) else none)) else (some (-2 : Int32)))) else none
set_option maxRecDepth 100000 in
set_option maxHeartbeats 4000000 in
theorem c_m5_change {l : Launch} {B d : Nat} {g : xG} {N : Nat} {K : Nat → Nat × Nat} {F : Nat → Nat → Option Nat} {I : (Nat → Nat → Int32)} {J : (Nat → Nat → Int64)} {a0 : Nat} {a1 : Int32} {a2 : Int32} {a3 : Int32} {rv : Int32} (h : m5_change N K F I J a0 a1 a2 a3 = some rv) : xC l g B (d + 2) 0 0 y5_change c5_change 5 (some .int) [.ref (B + a0), .int a1, .int a2, .int a3] (xP g B N K I J F) (xq (some (.int rv)) (xP g B N K I J F)) := by
  refine xC_of (by decide) (Nat.le_of_ble_eq_true rfl) (fun X hl hR hr _ hX => ?_)
  refine x_sub (L' := [(0, .ref (B + a0)), (1, .int a1), (2, .int a2), (3, .int a3)]) [0, 1, 2, 3] rfl ?_
  unfold m5_change at h
  refine x_aload_n hX d5_change_0 rfl rfl ?_
  refine x_iload_n hX d5_change_1 rfl rfl ?_
  refine x_iload_n hX d5_change_2 rfl rfl ?_
  obtain ⟨hg1, h⟩ := x_gd h
  obtain ⟨x2, eb3, h⟩ := x_bd h
  refine x_callV hX hR (c_m5_placeOf (l := x_l X) (d := d + 0) eb3) kX5_188 kN5_placeOf kE5_placeOf xc5.1 hg1.1 hg1.2 rfl rfl (Nat.le_of_ble_eq_true rfl) ⟨Nat.le_refl 0, Nat.le_refl 0⟩ d5_change_3 (x_kki ?_)
  refine x_istore hX [(4, .int x2), (0, .ref (B + a0)), (1, .int a1), (2, .int a2), (3, .int a3)] d5_change_6 (by decide) rfl ?_
  refine x_iload hX d5_change_8 rfl ?_
  refine x_iconst (v := -1) hX d5_change_10 (by decide) ?_
  refine x_icmp_eq (tgt := 26) hX d5_change_11 (by decide) (fun hc => ?_) (fun hc => ?_)
  · rw [if_pos hc] at h
    refine x_bipush (v := -2) hX d5_change_26 (by decide) ?_
    cases h
    exact x_iret hX hr d5_change_28 (fun H hP => ⟨rfl, hP⟩)
  · rw [if_neg hc] at h
    refine x_iload_n hX d5_change_14 rfl rfl ?_
    refine x_i2l hX d5_change_15 ?_
    refine x_lconst (v := 0) hX d5_change_16 (by decide) ?_
    refine x_ldc2 (v := 2) hX kC5_111 d5_change_17 ?_
    obtain ⟨x4, eb5, h⟩ := x_bd h
    refine x_callS hX hR (c_m5_isIn (l := x_l X) (d := d + 1) eb5) kX5_107 kS5_isIn rfl rfl (Nat.le_of_ble_eq_true rfl) ⟨Nat.le_refl 0, Nat.le_refl 0⟩ d5_change_20 (x_kki ?_)
    refine x_if_ne (tgt := 29) hX d5_change_23 (by decide) (fun hc => ?_) (fun hc => ?_)
    · rw [if_pos hc] at h
      refine x_iload_n hX d5_change_29 rfl rfl ?_
      refine x_if_ne (tgt := 43) hX d5_change_30 (by decide) (fun hc => ?_) (fun hc => ?_)
      · rw [if_pos hc] at h
        refine x_iload_n hX d5_change_43 rfl rfl ?_
        refine x_iconst (v := 1) hX d5_change_44 (by decide) ?_
        refine x_icmp_ne (tgt := 58) hX d5_change_45 (by decide) (fun hc => ?_) (fun hc => ?_)
        · rw [if_pos hc] at h
          refine x_aload_n hX d5_change_58 rfl rfl ?_
          obtain ⟨q6, eq6, h⟩ := x_bd h
          refine x_getF (j := 14) hX xc5 hg1.1 hg1.2 (by decide) rfl eq6 kF5_51 d5_change_59 ?_
          refine x_iload hX d5_change_62 rfl ?_
          obtain ⟨hg7, h⟩ := x_gd h
          refine x_iald hX hg7.1 (x_kd hg7.2.1) (x_in hg7.2.2) d5_change_64 ?_
          cases h
          exact x_iret hX hr d5_change_65 (fun H hP => ⟨rfl, hP⟩)
        · rw [if_neg (x_nn hc)] at h
          refine x_aload_n hX d5_change_48 rfl rfl ?_
          obtain ⟨q8, eq8, h⟩ := x_bd h
          refine x_getF (j := 13) hX xc5 hg1.1 hg1.2 (by decide) rfl eq8 kF5_48 d5_change_49 ?_
          refine x_iload hX d5_change_52 rfl ?_
          obtain ⟨hg9, h⟩ := x_gd h
          refine x_iald hX hg9.1 (x_kd hg9.2.1) (x_in hg9.2.2) d5_change_54 ?_
          refine x_goto (tgt := 65) hX d5_change_55 (by decide) ?_
          cases h
          exact x_iret hX hr d5_change_65 (fun H hP => ⟨rfl, hP⟩)
      · rw [if_neg (x_nn hc)] at h
        refine x_aload_n hX d5_change_33 rfl rfl ?_
        obtain ⟨q10, eq10, h⟩ := x_bd h
        refine x_getF (j := 12) hX xc5 hg1.1 hg1.2 (by decide) rfl eq10 kF5_45 d5_change_34 ?_
        refine x_iload hX d5_change_37 rfl ?_
        obtain ⟨hg11, h⟩ := x_gd h
        refine x_iald hX hg11.1 (x_kd hg11.2.1) (x_in hg11.2.2) d5_change_39 ?_
        refine x_goto (tgt := 65) hX d5_change_40 (by decide) ?_
        cases h
        exact x_iret hX hr d5_change_65 (fun H hP => ⟨rfl, hP⟩)
    · rw [if_neg (x_nn hc)] at h
      refine x_bipush (v := -2) hX d5_change_26 (by decide) ?_
      cases h
      exact x_iret hX hr d5_change_28 (fun H hP => ⟨rfl, hP⟩)

def m5_value (N : Nat) (K : Nat → Nat × Nat) (F : Nat → Nat → Option Nat) (I : (Nat → Nat → Int32)) (J : (Nat → Nat → Int64)) (a0 : Nat) (a1 : Int32) (a2 : Int32) (a3 : Int32) : Option (Int64) :=
  if a0 < N ∧ K a0 = (0, 5) then (xb (m5_placeOf N K F I J a0 a1 a2) fun x2 => if x2 = (-1 : Int32) then (some (0 : Int64)) else (xb (m5_isIn N K F I J (a3.toInt64) (0 : Int64) (1 : Int64)) fun x4 => if ¬ x4 = 0 then (if ¬ a3 = 0 then (xb (F a0 16) fun q6 => if q6 < N ∧ (K q6).1 = 2 ∧ xinb x2 (K q6).2 then (some (J q6 (x2.toNatClampNeg))) else none) else (xb (F a0 15) fun q8 => if q8 < N ∧ (K q8).1 = 2 ∧ xinb x2 (K q8).2 then (some (J q8 (x2.toNatClampNeg))) else none)) else (some (0 : Int64)))) else none
set_option maxRecDepth 100000 in
set_option maxHeartbeats 4000000 in
theorem c_m5_value {l : Launch} {B d : Nat} {g : xG} {N : Nat} {K : Nat → Nat × Nat} {F : Nat → Nat → Option Nat} {I : (Nat → Nat → Int32)} {J : (Nat → Nat → Int64)} {a0 : Nat} {a1 : Int32} {a2 : Int32} {a3 : Int32} {rv : Int64} (h : m5_value N K F I J a0 a1 a2 a3 = some rv) : xC l g B (d + 2) 0 0 y5_value c5_value 5 (some .long) [.ref (B + a0), .int a1, .int a2, .int a3] (xP g B N K I J F) (xq (some (.long rv)) (xP g B N K I J F)) := by
  refine xC_of (by decide) (Nat.le_of_ble_eq_true rfl) (fun X hl hR hr _ hX => ?_)
  refine x_sub (L' := [(0, .ref (B + a0)), (1, .int a1), (2, .int a2), (3, .int a3)]) [0, 1, 2, 3] rfl ?_
  unfold m5_value at h
  refine x_aload_n hX d5_value_0 rfl rfl ?_
  refine x_iload_n hX d5_value_1 rfl rfl ?_
  refine x_iload_n hX d5_value_2 rfl rfl ?_
  obtain ⟨hg1, h⟩ := x_gd h
  obtain ⟨x2, eb3, h⟩ := x_bd h
  refine x_callV hX hR (c_m5_placeOf (l := x_l X) (d := d + 0) eb3) kX5_188 kN5_placeOf kE5_placeOf xc5.1 hg1.1 hg1.2 rfl rfl (Nat.le_of_ble_eq_true rfl) ⟨Nat.le_refl 0, Nat.le_refl 0⟩ d5_value_3 (x_kki ?_)
  refine x_istore hX [(4, .int x2), (0, .ref (B + a0)), (1, .int a1), (2, .int a2), (3, .int a3)] d5_value_6 (by decide) rfl ?_
  refine x_iload hX d5_value_8 rfl ?_
  refine x_iconst (v := -1) hX d5_value_10 (by decide) ?_
  refine x_icmp_eq (tgt := 24) hX d5_value_11 (by decide) (fun hc => ?_) (fun hc => ?_)
  · rw [if_pos hc] at h
    refine x_lconst (v := 0) hX d5_value_24 (by decide) ?_
    cases h
    exact x_lret hX hr d5_value_25 (fun H hP => ⟨rfl, hP⟩)
  · rw [if_neg hc] at h
    refine x_iload_n hX d5_value_14 rfl rfl ?_
    refine x_i2l hX d5_value_15 ?_
    refine x_lconst (v := 0) hX d5_value_16 (by decide) ?_
    refine x_lconst (v := 1) hX d5_value_17 (by decide) ?_
    obtain ⟨x4, eb5, h⟩ := x_bd h
    refine x_callS hX hR (c_m5_isIn (l := x_l X) (d := d + 1) eb5) kX5_107 kS5_isIn rfl rfl (Nat.le_of_ble_eq_true rfl) ⟨Nat.le_refl 0, Nat.le_refl 0⟩ d5_value_18 (x_kki ?_)
    refine x_if_ne (tgt := 26) hX d5_value_21 (by decide) (fun hc => ?_) (fun hc => ?_)
    · rw [if_pos hc] at h
      refine x_iload_n hX d5_value_26 rfl rfl ?_
      refine x_if_ne (tgt := 40) hX d5_value_27 (by decide) (fun hc => ?_) (fun hc => ?_)
      · rw [if_pos hc] at h
        refine x_aload_n hX d5_value_40 rfl rfl ?_
        obtain ⟨q6, eq6, h⟩ := x_bd h
        refine x_getF (j := 16) hX xc5 hg1.1 hg1.2 (by decide) rfl eq6 kF5_57 d5_value_41 ?_
        refine x_iload hX d5_value_44 rfl ?_
        obtain ⟨hg7, h⟩ := x_gd h
        refine x_lald hX hg7.1 (x_kd hg7.2.1) (x_in hg7.2.2) d5_value_46 ?_
        cases h
        exact x_lret hX hr d5_value_47 (fun H hP => ⟨rfl, hP⟩)
      · rw [if_neg (x_nn hc)] at h
        refine x_aload_n hX d5_value_30 rfl rfl ?_
        obtain ⟨q8, eq8, h⟩ := x_bd h
        refine x_getF (j := 15) hX xc5 hg1.1 hg1.2 (by decide) rfl eq8 kF5_54 d5_value_31 ?_
        refine x_iload hX d5_value_34 rfl ?_
        obtain ⟨hg9, h⟩ := x_gd h
        refine x_lald hX hg9.1 (x_kd hg9.2.1) (x_in hg9.2.2) d5_value_36 ?_
        refine x_goto (tgt := 47) hX d5_value_37 (by decide) ?_
        cases h
        exact x_lret hX hr d5_value_47 (fun H hP => ⟨rfl, hP⟩)
    · rw [if_neg (x_nn hc)] at h
      refine x_lconst (v := 0) hX d5_value_24 (by decide) ?_
      cases h
      exact x_lret hX hr d5_value_25 (fun H hP => ⟨rfl, hP⟩)

def m5_logged (N : Nat) (K : Nat → Nat × Nat) (F : Nat → Nat → Option Nat) (I : (Nat → Nat → Int32)) (J : (Nat → Nat → Int64)) (a0 : Nat) : Option (Int32) :=
  if a0 < N ∧ K a0 = (0, 5) then (some (I a0 17)) else none
set_option maxRecDepth 100000 in
set_option maxHeartbeats 4000000 in
theorem c_m5_logged {l : Launch} {B d : Nat} {g : xG} {N : Nat} {K : Nat → Nat × Nat} {F : Nat → Nat → Option Nat} {I : (Nat → Nat → Int32)} {J : (Nat → Nat → Int64)} {a0 : Nat} {rv : Int32} (h : m5_logged N K F I J a0 = some rv) : xC l g B (d + 0) 0 0 y5_logged c5_logged 1 (some .int) [.ref (B + a0)] (xP g B N K I J F) (xq (some (.int rv)) (xP g B N K I J F)) := by
  refine xC_of (by decide) (Nat.le_of_ble_eq_true rfl) (fun X hl hR hr _ hX => ?_)
  refine x_sub (L' := [(0, .ref (B + a0))]) [0] rfl ?_
  unfold m5_logged at h
  refine x_aload_n hX d5_logged_0 rfl rfl ?_
  obtain ⟨hg1, h⟩ := x_gd h
  refine x_getI (j := 17) hX xc5 hg1.1 hg1.2 (by decide) rfl kF5_91 d5_logged_1 ?_
  cases h
  exact x_iret hX hr d5_logged_4 (fun H hP => ⟨rfl, hP⟩)

def m5_forget_L12 (N : Nat) (K : Nat → Nat × Nat) (F : Nat → Nat → Option Nat) : Nat → (Nat → Nat → Int32) → (Nat → Nat → Int64) → Nat → Int32 → Int32 → Option (Int32 × (Nat → Nat → Int32) × (Nat → Nat → Int64))
  | 0, _, _, _, _, _ => none
  | n + 1, I, J, v0, v1, v2 => if v0 < N ∧ K v0 = (0, 5) then (if ((64 : Int32) * (I v0 0)) ≤ v2 then (some (v1, I, J)) else (xb (F v0 10) fun q2 => xb (F v0 6) fun q3 => if q3 < N ∧ (K q3).1 = 3 ∧ xinb v2 (K q3).2 then (if q2 < N ∧ (K q2).1 = 3 ∧ xinb v2 (K q2).2 then (if (I q3 (v2.toNatClampNeg)) = 0 ∨ (I q3 (v2.toNatClampNeg)) = 1 then (xlet (xu I q2 (v2.toNatClampNeg) (I q3 (v2.toNatClampNeg))) fun I7 => xb (F v0 11) fun q8 => xb (F v0 7) fun q9 => if q9 < N ∧ (K q9).1 = 2 ∧ xinb v2 (K q9).2 then (if q8 < N ∧ (K q8).1 = 2 ∧ xinb v2 (K q8).2 then (xlet (xu J q8 (v2.toNatClampNeg) (J q9 (v2.toNatClampNeg))) fun J12 => xlet (v2 + (1 : Int32)) fun x13 => m5_forget_L12 N K F n I7 J12 v0 v1 x13) else none) else none) else none) else none) else none)) else none
def m5_forget (N : Nat) (K : Nat → Nat × Nat) (F : Nat → Nat → Option Nat) (I : (Nat → Nat → Int32)) (J : (Nat → Nat → Int64)) (a0 : Nat) : Option (Int32 × (Nat → Nat → Int32) × (Nat → Nat → Int64)) :=
  if a0 < N ∧ K a0 = (0, 5) then (xlet ((I a0 17)) fun x2 => xlet (xu I a0 17 (0 : Int32)) fun I3 => m5_forget_L12 N K F xFu I3 J a0 x2 (0 : Int32)) else none
set_option maxRecDepth 100000 in
set_option maxHeartbeats 4000000 in
theorem t_m5_forget_L12 {X : xX} {B d : Nat} {g : xG} {N : Nat} {K : Nat → Nat × Nat} {F : Nat → Nat → Option Nat} {rv : Int32} {I' : (Nat → Nat → Int32)} {J' : (Nat → Nat → Int64)} (hX : xO X c5_forget "ChangeRowsModel" 3 B g) (hR : x_R X = xrm (d + 0) 0 0) (hr : (x_meth X).sig.returnType = (some .int)) : ∀ (n : Nat) (I : (Nat → Nat → Int32)) (J : (Nat → Nat → Int64)) (v0 : Nat) (v1 : Int32) (v2 : Int32), m5_forget_L12 N K F n I J v0 v1 v2 = some (rv, I', J') → xV X B 3 (xZ X B 0 0 (xq (some (.int rv)) (xP g B N K I' J' F))) 0 0 (xP g B N K I J F) 12 [(0, .ref (B + v0)), (1, .int v1), (2, .int v2)] [] := by
  intro n
  induction n with
  | zero =>
    intro I J v0 v1 v2 h
    cases h
  | succ n ih =>
    intro I J v0 v1 v2 h
    rw [m5_forget_L12] at h
    refine x_iload_n hX d5_forget_12 rfl rfl ?_
    refine x_bipush (v := 64) hX d5_forget_13 (by decide) ?_
    refine x_aload_n hX d5_forget_15 rfl rfl ?_
    obtain ⟨hg1, h⟩ := x_gd h
    refine x_getI (j := 0) hX xc5 hg1.1 hg1.2 (by decide) rfl kF5_87 d5_forget_16 ?_
    refine x_imul hX d5_forget_19 ?_
    refine x_icmp_ge (tgt := 53) hX d5_forget_20 (by decide) (fun hc => ?_) (fun hc => ?_)
    · rw [if_pos hc] at h
      refine x_iload_n hX d5_forget_53 rfl rfl ?_
      cases h
      exact x_iret hX hr d5_forget_54 (fun H hP => ⟨rfl, hP⟩)
    · rw [if_neg hc] at h
      refine x_aload_n hX d5_forget_23 rfl rfl ?_
      obtain ⟨q2, eq2, h⟩ := x_bd h
      refine x_getF (j := 10) hX xc5 hg1.1 hg1.2 (by decide) rfl eq2 kF5_39 d5_forget_24 ?_
      refine x_iload_n hX d5_forget_27 rfl rfl ?_
      refine x_aload_n hX d5_forget_28 rfl rfl ?_
      obtain ⟨q3, eq3, h⟩ := x_bd h
      refine x_getF (j := 6) hX xc5 hg1.1 hg1.2 (by decide) rfl eq3 kF5_26 d5_forget_29 ?_
      refine x_iload_n hX d5_forget_32 rfl rfl ?_
      obtain ⟨hg4, h⟩ := x_gd h
      refine x_zald hX hg4.1 (x_kd hg4.2.1) (x_in hg4.2.2) d5_forget_33 ?_
      obtain ⟨hg5, h⟩ := x_gd h
      obtain ⟨hg6, h⟩ := x_gd h
      refine x_zast hX hg5.1 (x_kd hg5.2.1) (x_in hg5.2.2) (x_nbool hg6) d5_forget_34 ?_
      obtain ⟨I7, eI7, h⟩ := x_le h
      rw [← eI7]
      refine x_aload_n hX d5_forget_35 rfl rfl ?_
      obtain ⟨q8, eq8, h⟩ := x_bd h
      refine x_getF (j := 11) hX xc5 hg1.1 hg1.2 (by decide) rfl eq8 kF5_42 d5_forget_36 ?_
      refine x_iload_n hX d5_forget_39 rfl rfl ?_
      refine x_aload_n hX d5_forget_40 rfl rfl ?_
      obtain ⟨q9, eq9, h⟩ := x_bd h
      refine x_getF (j := 7) hX xc5 hg1.1 hg1.2 (by decide) rfl eq9 kF5_30 d5_forget_41 ?_
      refine x_iload_n hX d5_forget_44 rfl rfl ?_
      obtain ⟨hg10, h⟩ := x_gd h
      refine x_lald hX hg10.1 (x_kd hg10.2.1) (x_in hg10.2.2) d5_forget_45 ?_
      obtain ⟨hg11, h⟩ := x_gd h
      refine x_last hX hg11.1 (x_kd hg11.2.1) (x_in hg11.2.2) d5_forget_46 ?_
      obtain ⟨J12, eJ12, h⟩ := x_le h
      rw [← eJ12]
      obtain ⟨x13, ex13, h⟩ := x_le h
      refine x_iinc (j := 2) hX [(2, .int x13), (0, .ref (B + v0)), (1, .int v1)] d5_forget_47 rfl (by rw [ex13]; rfl) (by decide) rfl ?_
      refine x_goto (tgt := 12) hX d5_forget_50 (by decide) ?_
      refine x_sub [1, 2, 0] rfl ?_
      exact ih _ _ _ _ _ h
set_option maxRecDepth 100000 in
set_option maxHeartbeats 4000000 in
theorem c_m5_forget {l : Launch} {B d : Nat} {g : xG} {N : Nat} {K : Nat → Nat × Nat} {F : Nat → Nat → Option Nat} {I : (Nat → Nat → Int32)} {J : (Nat → Nat → Int64)} {a0 : Nat} {rv : Int32} {I' : (Nat → Nat → Int32)} {J' : (Nat → Nat → Int64)} (h : m5_forget N K F I J a0 = some (rv, I', J')) : xC l g B (d + 0) 0 0 y5_forget c5_forget 3 (some .int) [.ref (B + a0)] (xP g B N K I J F) (xq (some (.int rv)) (xP g B N K I' J' F)) := by
  refine xC_of (by decide) (Nat.le_of_ble_eq_true rfl) (fun X hl hR hr _ hX => ?_)
  refine x_sub (L' := [(0, .ref (B + a0))]) [0] rfl ?_
  unfold m5_forget at h
  refine x_aload_n hX d5_forget_0 rfl rfl ?_
  obtain ⟨hg1, h⟩ := x_gd h
  refine x_getI (j := 17) hX xc5 hg1.1 hg1.2 (by decide) rfl kF5_91 d5_forget_1 ?_
  obtain ⟨x2, ex2, h⟩ := x_le h
  refine x_eqi ex2.symm ?_
  refine x_istore_n hX [(1, .int x2), (0, .ref (B + a0))] d5_forget_4 rfl (by decide) rfl ?_
  refine x_aload_n hX d5_forget_5 rfl rfl ?_
  refine x_iconst (v := 0) hX d5_forget_6 (by decide) ?_
  refine x_putI (j := 17) hX xc5 hg1.1 hg1.2 (by decide) rfl kF5_91 (Or.inl rfl) rfl rfl d5_forget_7 ?_
  obtain ⟨I3, eI3, h⟩ := x_le h
  rw [← eI3]
  refine x_iconst (v := 0) hX d5_forget_10 (by decide) ?_
  refine x_istore_n hX [(2, .int (0 : Int32)), (1, .int x2), (0, .ref (B + a0))] d5_forget_11 rfl (by decide) rfl ?_
  refine x_sub [2, 1, 0] rfl ?_
  exact t_m5_forget_L12 hX hR hr _ _ _ _ _ _ h

def m5_goTo_B90 (N : Nat) (K : Nat → Nat × Nat) (F : Nat → Nat → Option Nat) (k50 : (Nat → Nat → Int32) → (Nat → Nat → Int64) → Nat → Int32 → Int32 → Int32 → Option ((Nat → Nat → Int32) × (Nat → Nat → Int64))) (I : (Nat → Nat → Int32)) (J : (Nat → Nat → Int64)) (v0 : Nat) (v1 : Int32) (v2 : Int32) (v3 : Int32) (w0 : Nat) (w1 : Int32) (w2 : Int32) : Option ((Nat → Nat → Int32) × (Nat → Nat → Int64)) :=
  if w0 < N ∧ (K w0).1 = 3 ∧ xinb w1 (K w0).2 then (if w2 = 0 ∨ w2 = 1 then (xlet (xu I w0 (w1.toNatClampNeg) w2) fun I3 => if v0 < N ∧ K v0 = (0, 5) then (xb (F v0 29) fun q5 => xb (F v0 14) fun q6 => if q6 < N ∧ (K q6).1 = 1 ∧ xinb v3 (K q6).2 then (xb (F v0 16) fun q8 => if q8 < N ∧ (K q8).1 = 2 ∧ xinb v3 (K q8).2 then (if q5 < N ∧ (K q5).1 = 2 ∧ xinb (I3 q6 (v3.toNatClampNeg)) (K q5).2 then (xlet (xu J q5 ((I3 q6 (v3.toNatClampNeg)).toNatClampNeg) (J q8 (v3.toNatClampNeg))) fun J11 => xlet (v3 + (1 : Int32)) fun x12 => k50 I3 J11 v0 v1 v2 x12) else none) else none) else none) else none) else none) else none
def m5_goTo_L50 (N : Nat) (K : Nat → Nat × Nat) (F : Nat → Nat → Option Nat) : Nat → (Nat → Nat → Int32) → (Nat → Nat → Int64) → Nat → Int32 → Int32 → Int32 → Option ((Nat → Nat → Int32) × (Nat → Nat → Int64))
  | 0, _, _, _, _, _, _ => none
  | n + 1, I, J, v0, v1, v2, v3 => if v2 ≤ v3 then (some (I, J)) else (if v0 < N ∧ K v0 = (0, 5) then (xb (F v0 12) fun q2 => if q2 < N ∧ (K q2).1 = 1 ∧ xinb v3 (K q2).2 then (if ¬ (I q2 (v3.toNatClampNeg)) = v1 then (xlet (v3 + (1 : Int32)) fun x4 => m5_goTo_L50 N K F n I J v0 v1 v2 x4) else (xb (F v0 28) fun q5 => xb (F v0 14) fun q6 => if q6 < N ∧ (K q6).1 = 1 ∧ xinb v3 (K q6).2 then (xb (F v0 13) fun q8 => if q8 < N ∧ (K q8).1 = 1 ∧ xinb v3 (K q8).2 then (if (I q8 (v3.toNatClampNeg)) = (2 : Int32) then (m5_goTo_B90 N K F (m5_goTo_L50 N K F n) I J v0 v1 v2 v3 q5 (I q6 (v3.toNatClampNeg)) (0 : Int32)) else (m5_goTo_B90 N K F (m5_goTo_L50 N K F n) I J v0 v1 v2 v3 q5 (I q6 (v3.toNatClampNeg)) (1 : Int32))) else none) else none)) else none) else none)
def m5_goTo_L2 (N : Nat) (K : Nat → Nat × Nat) (F : Nat → Nat → Option Nat) : Nat → (Nat → Nat → Int32) → (Nat → Nat → Int64) → Nat → Int32 → Int32 → Int32 → Option ((Nat → Nat → Int32) × (Nat → Nat → Int64))
  | 0, _, _, _, _, _, _ => none
  | n + 1, I, J, v0, v1, v2, v3 => if (64 : Int32) ≤ v3 then (m5_goTo_L50 N K F xFu I J v0 v1 v2 (0 : Int32)) else (if v0 < N ∧ K v0 = (0, 5) then (xb (F v0 28) fun q2 => xb (F v0 10) fun q3 => if q3 < N ∧ (K q3).1 = 3 ∧ xinb (((64 : Int32) * v1) + v3) (K q3).2 then (if q2 < N ∧ (K q2).1 = 3 ∧ xinb v3 (K q2).2 then (if (I q3 ((((64 : Int32) * v1) + v3).toNatClampNeg)) = 0 ∨ (I q3 ((((64 : Int32) * v1) + v3).toNatClampNeg)) = 1 then (xlet (xu I q2 (v3.toNatClampNeg) (I q3 ((((64 : Int32) * v1) + v3).toNatClampNeg))) fun I7 => xb (F v0 29) fun q8 => xb (F v0 11) fun q9 => if q9 < N ∧ (K q9).1 = 2 ∧ xinb (((64 : Int32) * v1) + v3) (K q9).2 then (if q8 < N ∧ (K q8).1 = 2 ∧ xinb v3 (K q8).2 then (xlet (xu J q8 (v3.toNatClampNeg) (J q9 ((((64 : Int32) * v1) + v3).toNatClampNeg))) fun J12 => xlet (v3 + (1 : Int32)) fun x13 => m5_goTo_L2 N K F n I7 J12 v0 v1 v2 x13) else none) else none) else none) else none) else none) else none)
def m5_goTo (N : Nat) (K : Nat → Nat × Nat) (F : Nat → Nat → Option Nat) (I : (Nat → Nat → Int32)) (J : (Nat → Nat → Int64)) (a0 : Nat) (a1 : Int32) (a2 : Int32) : Option ((Nat → Nat → Int32) × (Nat → Nat → Int64)) :=
  m5_goTo_L2 N K F xFu I J a0 a1 a2 (0 : Int32)
set_option maxRecDepth 100000 in
set_option maxHeartbeats 4000000 in
theorem t_m5_goTo_B90 {X : xX} {B d : Nat} {g : xG} {N : Nat} {K : Nat → Nat × Nat} {F : Nat → Nat → Option Nat} {I' : (Nat → Nat → Int32)} {J' : (Nat → Nat → Int64)} {k50 : (Nat → Nat → Int32) → (Nat → Nat → Int64) → Nat → Int32 → Int32 → Int32 → Option ((Nat → Nat → Int32) × (Nat → Nat → Int64))} (hX : xO X c5_goTo "ChangeRowsModel" 4 B g) (hR : x_R X = xrm (d + 0) 0 0) (hr : (x_meth X).sig.returnType = none) (hk50 : ∀ (I : (Nat → Nat → Int32)) (J : (Nat → Nat → Int64)) (v0 : Nat) (v1 : Int32) (v2 : Int32) (v3 : Int32), k50 I J v0 v1 v2 v3 = some (I', J') → xV X B 4 (xZ X B 0 0 (xq none (xP g B N K I' J' F))) 0 0 (xP g B N K I J F) 50 [(0, .ref (B + v0)), (1, .int v1), (2, .int v2), (3, .int v3)] []) (I : (Nat → Nat → Int32)) (J : (Nat → Nat → Int64)) (v0 : Nat) (v1 : Int32) (v2 : Int32) (v3 : Int32) (w0 : Nat) (w1 : Int32) (w2 : Int32) (h : m5_goTo_B90 N K F k50 I J v0 v1 v2 v3 w0 w1 w2 = some (I', J')) : xV X B 4 (xZ X B 0 0 (xq none (xP g B N K I' J' F))) 0 0 (xP g B N K I J F) 90 [(0, .ref (B + v0)), (1, .int v1), (2, .int v2), (3, .int v3)] [.int w2, .int w1, .ref (B + w0)] := by
  unfold m5_goTo_B90 at h
  obtain ⟨hg1, h⟩ := x_gd h
  obtain ⟨hg2, h⟩ := x_gd h
  refine x_zast hX hg1.1 (x_kd hg1.2.1) (x_in hg1.2.2) (x_nbool hg2) d5_goTo_90 ?_
  obtain ⟨I3, eI3, h⟩ := x_le h
  rw [← eI3]
  refine x_aload_n hX d5_goTo_91 rfl rfl ?_
  obtain ⟨hg4, h⟩ := x_gd h
  obtain ⟨q5, eq5, h⟩ := x_bd h
  refine x_getF (j := 29) hX xc5 hg4.1 hg4.2 (by decide) rfl eq5 kF5_81 d5_goTo_92 ?_
  refine x_aload_n hX d5_goTo_95 rfl rfl ?_
  obtain ⟨q6, eq6, h⟩ := x_bd h
  refine x_getF (j := 14) hX xc5 hg4.1 hg4.2 (by decide) rfl eq6 kF5_51 d5_goTo_96 ?_
  refine x_iload_n hX d5_goTo_99 rfl rfl ?_
  obtain ⟨hg7, h⟩ := x_gd h
  refine x_iald hX hg7.1 (x_kd hg7.2.1) (x_in hg7.2.2) d5_goTo_100 ?_
  refine x_aload_n hX d5_goTo_101 rfl rfl ?_
  obtain ⟨q8, eq8, h⟩ := x_bd h
  refine x_getF (j := 16) hX xc5 hg4.1 hg4.2 (by decide) rfl eq8 kF5_57 d5_goTo_102 ?_
  refine x_iload_n hX d5_goTo_105 rfl rfl ?_
  obtain ⟨hg9, h⟩ := x_gd h
  refine x_lald hX hg9.1 (x_kd hg9.2.1) (x_in hg9.2.2) d5_goTo_106 ?_
  obtain ⟨hg10, h⟩ := x_gd h
  refine x_last hX hg10.1 (x_kd hg10.2.1) (x_in hg10.2.2) d5_goTo_107 ?_
  obtain ⟨J11, eJ11, h⟩ := x_le h
  rw [← eJ11]
  obtain ⟨x12, ex12, h⟩ := x_le h
  refine x_iinc (j := 3) hX [(3, .int x12), (0, .ref (B + v0)), (1, .int v1), (2, .int v2)] d5_goTo_108 rfl (by rw [ex12]; rfl) (by decide) rfl ?_
  refine x_goto (tgt := 50) hX d5_goTo_111 (by decide) ?_
  refine x_sub [1, 2, 3, 0] rfl ?_
  exact hk50 _ _ _ _ _ _ h
set_option maxRecDepth 100000 in
set_option maxHeartbeats 4000000 in
theorem t_m5_goTo_L50 {X : xX} {B d : Nat} {g : xG} {N : Nat} {K : Nat → Nat × Nat} {F : Nat → Nat → Option Nat} {I' : (Nat → Nat → Int32)} {J' : (Nat → Nat → Int64)} (hX : xO X c5_goTo "ChangeRowsModel" 4 B g) (hR : x_R X = xrm (d + 0) 0 0) (hr : (x_meth X).sig.returnType = none) : ∀ (n : Nat) (I : (Nat → Nat → Int32)) (J : (Nat → Nat → Int64)) (v0 : Nat) (v1 : Int32) (v2 : Int32) (v3 : Int32), m5_goTo_L50 N K F n I J v0 v1 v2 v3 = some (I', J') → xV X B 4 (xZ X B 0 0 (xq none (xP g B N K I' J' F))) 0 0 (xP g B N K I J F) 50 [(0, .ref (B + v0)), (1, .int v1), (2, .int v2), (3, .int v3)] [] := by
  intro n
  induction n with
  | zero =>
    intro I J v0 v1 v2 v3 h
    cases h
  | succ n ih =>
    intro I J v0 v1 v2 v3 h
    rw [m5_goTo_L50] at h
    refine x_iload_n hX d5_goTo_50 rfl rfl ?_
    refine x_iload_n hX d5_goTo_51 rfl rfl ?_
    refine x_icmp_ge (tgt := 114) hX d5_goTo_52 (by decide) (fun hc => ?_) (fun hc => ?_)
    · rw [if_pos hc] at h
      cases h
      exact x_vret hX hr d5_goTo_114 (fun H hP => ⟨rfl, hP⟩)
    · rw [if_neg hc] at h
      refine x_aload_n hX d5_goTo_55 rfl rfl ?_
      obtain ⟨hg1, h⟩ := x_gd h
      obtain ⟨q2, eq2, h⟩ := x_bd h
      refine x_getF (j := 12) hX xc5 hg1.1 hg1.2 (by decide) rfl eq2 kF5_45 d5_goTo_56 ?_
      refine x_iload_n hX d5_goTo_59 rfl rfl ?_
      obtain ⟨hg3, h⟩ := x_gd h
      refine x_iald hX hg3.1 (x_kd hg3.2.1) (x_in hg3.2.2) d5_goTo_60 ?_
      refine x_iload_n hX d5_goTo_61 rfl rfl ?_
      refine x_icmp_ne (tgt := 108) hX d5_goTo_62 (by decide) (fun hc => ?_) (fun hc => ?_)
      · rw [if_pos hc] at h
        obtain ⟨x4, ex4, h⟩ := x_le h
        refine x_iinc (j := 3) hX [(3, .int x4), (0, .ref (B + v0)), (1, .int v1), (2, .int v2)] d5_goTo_108 rfl (by rw [ex4]; rfl) (by decide) rfl ?_
        refine x_goto (tgt := 50) hX d5_goTo_111 (by decide) ?_
        refine x_sub [1, 2, 3, 0] rfl ?_
        exact ih _ _ _ _ _ _ h
      · rw [if_neg (x_nn hc)] at h
        refine x_aload_n hX d5_goTo_65 rfl rfl ?_
        obtain ⟨q5, eq5, h⟩ := x_bd h
        refine x_getF (j := 28) hX xc5 hg1.1 hg1.2 (by decide) rfl eq5 kF5_78 d5_goTo_66 ?_
        refine x_aload_n hX d5_goTo_69 rfl rfl ?_
        obtain ⟨q6, eq6, h⟩ := x_bd h
        refine x_getF (j := 14) hX xc5 hg1.1 hg1.2 (by decide) rfl eq6 kF5_51 d5_goTo_70 ?_
        refine x_iload_n hX d5_goTo_73 rfl rfl ?_
        obtain ⟨hg7, h⟩ := x_gd h
        refine x_iald hX hg7.1 (x_kd hg7.2.1) (x_in hg7.2.2) d5_goTo_74 ?_
        refine x_aload_n hX d5_goTo_75 rfl rfl ?_
        obtain ⟨q8, eq8, h⟩ := x_bd h
        refine x_getF (j := 13) hX xc5 hg1.1 hg1.2 (by decide) rfl eq8 kF5_48 d5_goTo_76 ?_
        refine x_iload_n hX d5_goTo_79 rfl rfl ?_
        obtain ⟨hg9, h⟩ := x_gd h
        refine x_iald hX hg9.1 (x_kd hg9.2.1) (x_in hg9.2.2) d5_goTo_80 ?_
        refine x_iconst (v := 2) hX d5_goTo_81 (by decide) ?_
        refine x_icmp_eq (tgt := 89) hX d5_goTo_82 (by decide) (fun hc => ?_) (fun hc => ?_)
        · rw [if_pos hc] at h
          refine x_iconst (v := 0) hX d5_goTo_89 (by decide) ?_
          exact t_m5_goTo_B90 hX hR hr ih _ _ _ _ _ _ _ _ _ h
        · rw [if_neg hc] at h
          refine x_iconst (v := 1) hX d5_goTo_85 (by decide) ?_
          refine x_goto (tgt := 90) hX d5_goTo_86 (by decide) ?_
          exact t_m5_goTo_B90 hX hR hr ih _ _ _ _ _ _ _ _ _ h
set_option maxRecDepth 100000 in
set_option maxHeartbeats 4000000 in
theorem t_m5_goTo_L2 {X : xX} {B d : Nat} {g : xG} {N : Nat} {K : Nat → Nat × Nat} {F : Nat → Nat → Option Nat} {I' : (Nat → Nat → Int32)} {J' : (Nat → Nat → Int64)} (hX : xO X c5_goTo "ChangeRowsModel" 4 B g) (hR : x_R X = xrm (d + 0) 0 0) (hr : (x_meth X).sig.returnType = none) : ∀ (n : Nat) (I : (Nat → Nat → Int32)) (J : (Nat → Nat → Int64)) (v0 : Nat) (v1 : Int32) (v2 : Int32) (v3 : Int32), m5_goTo_L2 N K F n I J v0 v1 v2 v3 = some (I', J') → xV X B 4 (xZ X B 0 0 (xq none (xP g B N K I' J' F))) 0 0 (xP g B N K I J F) 2 [(0, .ref (B + v0)), (1, .int v1), (2, .int v2), (3, .int v3)] [] := by
  intro n
  induction n with
  | zero =>
    intro I J v0 v1 v2 v3 h
    cases h
  | succ n ih =>
    intro I J v0 v1 v2 v3 h
    rw [m5_goTo_L2] at h
    refine x_iload_n hX d5_goTo_2 rfl rfl ?_
    refine x_bipush (v := 64) hX d5_goTo_3 (by decide) ?_
    refine x_icmp_ge (tgt := 48) hX d5_goTo_5 (by decide) (fun hc => ?_) (fun hc => ?_)
    · rw [if_pos hc] at h
      refine x_iconst (v := 0) hX d5_goTo_48 (by decide) ?_
      refine x_istore_n hX [(3, .int (0 : Int32)), (0, .ref (B + v0)), (1, .int v1), (2, .int v2)] d5_goTo_49 rfl (by decide) rfl ?_
      refine x_sub [1, 2, 3, 0] rfl ?_
      exact t_m5_goTo_L50 hX hR hr _ _ _ _ _ _ _ h
    · rw [if_neg hc] at h
      refine x_aload_n hX d5_goTo_8 rfl rfl ?_
      obtain ⟨hg1, h⟩ := x_gd h
      obtain ⟨q2, eq2, h⟩ := x_bd h
      refine x_getF (j := 28) hX xc5 hg1.1 hg1.2 (by decide) rfl eq2 kF5_78 d5_goTo_9 ?_
      refine x_iload_n hX d5_goTo_12 rfl rfl ?_
      refine x_aload_n hX d5_goTo_13 rfl rfl ?_
      obtain ⟨q3, eq3, h⟩ := x_bd h
      refine x_getF (j := 10) hX xc5 hg1.1 hg1.2 (by decide) rfl eq3 kF5_39 d5_goTo_14 ?_
      refine x_bipush (v := 64) hX d5_goTo_17 (by decide) ?_
      refine x_iload_n hX d5_goTo_19 rfl rfl ?_
      refine x_imul hX d5_goTo_20 ?_
      refine x_iload_n hX d5_goTo_21 rfl rfl ?_
      refine x_iadd hX d5_goTo_22 ?_
      obtain ⟨hg4, h⟩ := x_gd h
      refine x_zald hX hg4.1 (x_kd hg4.2.1) (x_in hg4.2.2) d5_goTo_23 ?_
      obtain ⟨hg5, h⟩ := x_gd h
      obtain ⟨hg6, h⟩ := x_gd h
      refine x_zast hX hg5.1 (x_kd hg5.2.1) (x_in hg5.2.2) (x_nbool hg6) d5_goTo_24 ?_
      obtain ⟨I7, eI7, h⟩ := x_le h
      rw [← eI7]
      refine x_aload_n hX d5_goTo_25 rfl rfl ?_
      obtain ⟨q8, eq8, h⟩ := x_bd h
      refine x_getF (j := 29) hX xc5 hg1.1 hg1.2 (by decide) rfl eq8 kF5_81 d5_goTo_26 ?_
      refine x_iload_n hX d5_goTo_29 rfl rfl ?_
      refine x_aload_n hX d5_goTo_30 rfl rfl ?_
      obtain ⟨q9, eq9, h⟩ := x_bd h
      refine x_getF (j := 11) hX xc5 hg1.1 hg1.2 (by decide) rfl eq9 kF5_42 d5_goTo_31 ?_
      refine x_bipush (v := 64) hX d5_goTo_34 (by decide) ?_
      refine x_iload_n hX d5_goTo_36 rfl rfl ?_
      refine x_imul hX d5_goTo_37 ?_
      refine x_iload_n hX d5_goTo_38 rfl rfl ?_
      refine x_iadd hX d5_goTo_39 ?_
      obtain ⟨hg10, h⟩ := x_gd h
      refine x_lald hX hg10.1 (x_kd hg10.2.1) (x_in hg10.2.2) d5_goTo_40 ?_
      obtain ⟨hg11, h⟩ := x_gd h
      refine x_last hX hg11.1 (x_kd hg11.2.1) (x_in hg11.2.2) d5_goTo_41 ?_
      obtain ⟨J12, eJ12, h⟩ := x_le h
      rw [← eJ12]
      obtain ⟨x13, ex13, h⟩ := x_le h
      refine x_iinc (j := 3) hX [(3, .int x13), (0, .ref (B + v0)), (1, .int v1), (2, .int v2)] d5_goTo_42 rfl (by rw [ex13]; rfl) (by decide) rfl ?_
      refine x_goto (tgt := 2) hX d5_goTo_45 (by decide) ?_
      refine x_sub [1, 2, 3, 0] rfl ?_
      exact ih _ _ _ _ _ _ h
set_option maxRecDepth 100000 in
set_option maxHeartbeats 4000000 in
theorem c_m5_goTo {l : Launch} {B d : Nat} {g : xG} {N : Nat} {K : Nat → Nat × Nat} {F : Nat → Nat → Option Nat} {I : (Nat → Nat → Int32)} {J : (Nat → Nat → Int64)} {a0 : Nat} {a1 : Int32} {a2 : Int32} {I' : (Nat → Nat → Int32)} {J' : (Nat → Nat → Int64)} (h : m5_goTo N K F I J a0 a1 a2 = some (I', J')) : xC l g B (d + 0) 0 0 y5_goTo c5_goTo 4 none [.ref (B + a0), .int a1, .int a2] (xP g B N K I J F) (xq none (xP g B N K I' J' F)) := by
  refine xC_of (by decide) (Nat.le_of_ble_eq_true rfl) (fun X hl hR hr _ hX => ?_)
  refine x_sub (L' := [(0, .ref (B + a0)), (1, .int a1), (2, .int a2)]) [0, 1, 2] rfl ?_
  unfold m5_goTo at h
  refine x_iconst (v := 0) hX d5_goTo_0 (by decide) ?_
  refine x_istore_n hX [(3, .int (0 : Int32)), (0, .ref (B + a0)), (1, .int a1), (2, .int a2)] d5_goTo_1 rfl (by decide) rfl ?_
  refine x_sub [1, 2, 3, 0] rfl ?_
  exact t_m5_goTo_L2 hX hR hr _ _ _ _ _ _ _ h

def m5_net_B227 (N : Nat) (K : Nat → Nat × Nat) (F : Nat → Nat → Option Nat) (k104 : (Nat → Nat → Int32) → (Nat → Nat → Int64) → Nat → Int32 → Int32 → Option (Int32 × (Nat → Nat → Int32) × (Nat → Nat → Int64))) (I : (Nat → Nat → Int32)) (J : (Nat → Nat → Int64)) (v0 : Nat) (v1 : Int32) (v4 : Int32) (w0 : Nat) (w1 : Int32) (w2 : Int32) (w3 : Int32) (w4 : Int32) (w5 : Int64) (w6 : Int64) : Option (Int32 × (Nat → Nat → Int32) × (Nat → Nat → Int64)) :=
  if w0 < N ∧ K w0 = (0, 5) then (xb (m5_write N K F I J w0 w1 w2 w3 w4 w5 w6) fun (I2, J3) => if v0 < N ∧ K v0 = (0, 5) then (xlet (xu I2 v0 19 ((I2 v0 19) + (1 : Int32))) fun I6 => xlet (v4 + (1 : Int32)) fun x7 => k104 I6 J3 v0 v1 x7) else none) else none
def m5_net_B206 (N : Nat) (K : Nat → Nat × Nat) (F : Nat → Nat → Option Nat) (k104 : (Nat → Nat → Int32) → (Nat → Nat → Int64) → Nat → Int32 → Int32 → Option (Int32 × (Nat → Nat → Int32) × (Nat → Nat → Int64))) (I : (Nat → Nat → Int32)) (J : (Nat → Nat → Int64)) (v0 : Nat) (v1 : Int32) (v4 : Int32) (w0 : Nat) (w1 : Int32) (w2 : Int32) (w3 : Int32) (w4 : Int32) (w5 : Int64) : Option (Int32 × (Nat → Nat → Int32) × (Nat → Nat → Int64)) :=
  if v0 < N ∧ K v0 = (0, 5) then (xb (F v0 28) fun q2 => if q2 < N ∧ (K q2).1 = 3 ∧ xinb v4 (K q2).2 then (if (I q2 (v4.toNatClampNeg)) = 0 then (m5_net_B227 N K F k104 I J v0 v1 v4 w0 w1 w2 w3 w4 w5 (0 : Int64)) else (xb (F v0 29) fun q4 => if q4 < N ∧ (K q4).1 = 2 ∧ xinb v4 (K q4).2 then (m5_net_B227 N K F k104 I J v0 v1 v4 w0 w1 w2 w3 w4 w5 (J q4 (v4.toNatClampNeg))) else none)) else none) else none
def m5_net_B156 (N : Nat) (K : Nat → Nat × Nat) (F : Nat → Nat → Option Nat) (k104 : (Nat → Nat → Int32) → (Nat → Nat → Int64) → Nat → Int32 → Int32 → Option (Int32 × (Nat → Nat → Int32) × (Nat → Nat → Int64))) (I : (Nat → Nat → Int32)) (J : (Nat → Nat → Int64)) (v0 : Nat) (v1 : Int32) (v4 : Int32) : Option (Int32 × (Nat → Nat → Int32) × (Nat → Nat → Int64)) :=
  if v0 < N ∧ K v0 = (0, 5) then (xb (F v0 8) fun q2 => if q2 < N ∧ (K q2).1 = 3 ∧ xinb v4 (K q2).2 then (xb (F v0 28) fun q4 => if q4 < N ∧ (K q4).1 = 3 ∧ xinb v4 (K q4).2 then (xb (m5_sortOf N K F I J (I q2 (v4.toNatClampNeg)) (I q4 (v4.toNatClampNeg))) fun x6 => if (I q2 (v4.toNatClampNeg)) = 0 then (m5_net_B206 N K F k104 I J v0 v1 v4 v0 ((2300 : Int32) + (I v0 19)) v1 x6 v4 (0 : Int64)) else (xb (F v0 9) fun q8 => if q8 < N ∧ (K q8).1 = 2 ∧ xinb v4 (K q8).2 then (m5_net_B206 N K F k104 I J v0 v1 v4 v0 ((2300 : Int32) + (I v0 19)) v1 x6 v4 (J q8 (v4.toNatClampNeg))) else none)) else none) else none) else none
def m5_net_L104 (N : Nat) (K : Nat → Nat × Nat) (F : Nat → Nat → Option Nat) : Nat → (Nat → Nat → Int32) → (Nat → Nat → Int64) → Nat → Int32 → Int32 → Option (Int32 × (Nat → Nat → Int32) × (Nat → Nat → Int64))
  | 0, _, _, _, _, _ => none
  | n + 1, I, J, v0, v1, v4 => if (64 : Int32) ≤ v4 then (if v0 < N ∧ K v0 = (0, 5) then (some ((I v0 19), I, J)) else none) else (if v0 < N ∧ K v0 = (0, 5) then (xb (F v0 8) fun q3 => if q3 < N ∧ (K q3).1 = 3 ∧ xinb v4 (K q3).2 then (xb (F v0 28) fun q5 => if q5 < N ∧ (K q5).1 = 3 ∧ xinb v4 (K q5).2 then (if ¬ (I q3 (v4.toNatClampNeg)) = (I q5 (v4.toNatClampNeg)) then (m5_net_B156 N K F (m5_net_L104 N K F n) I J v0 v1 v4) else (if (I q3 (v4.toNatClampNeg)) = 0 then (xlet (v4 + (1 : Int32)) fun x7 => m5_net_L104 N K F n I J v0 v1 x7) else (xb (F v0 9) fun q8 => if q8 < N ∧ (K q8).1 = 2 ∧ xinb v4 (K q8).2 then (xb (F v0 29) fun q10 => if q10 < N ∧ (K q10).1 = 2 ∧ xinb v4 (K q10).2 then (if (J q8 (v4.toNatClampNeg)) = (J q10 (v4.toNatClampNeg)) then (xlet (v4 + (1 : Int32)) fun x12 => m5_net_L104 N K F n I J v0 v1 x12) else (m5_net_B156 N K F (m5_net_L104 N K F n) I J v0 v1 v4)) else none) else none))) else none) else none) else none)
def m5_net_L49 (N : Nat) (K : Nat → Nat × Nat) (F : Nat → Nat → Option Nat) : Nat → (Nat → Nat → Int32) → (Nat → Nat → Int64) → Nat → Int32 → Int32 → Int32 → Option (Int32 × (Nat → Nat → Int32) × (Nat → Nat → Int64))
  | 0, _, _, _, _, _, _ => none
  | n + 1, I, J, v0, v1, v3, v4 => if (64 : Int32) ≤ v4 then (if v0 < N ∧ K v0 = (0, 5) then (xb (m5_goTo N K F I J v0 v1 v3) fun (I2, J3) => xlet (xu I2 v0 19 (0 : Int32)) fun I5 => m5_net_L104 N K F xFu I5 J3 v0 v1 (0 : Int32)) else none) else (if v0 < N ∧ K v0 = (0, 5) then (xb (F v0 8) fun q7 => xb (F v0 28) fun q8 => if q8 < N ∧ (K q8).1 = 3 ∧ xinb v4 (K q8).2 then (if q7 < N ∧ (K q7).1 = 3 ∧ xinb v4 (K q7).2 then (if (I q8 (v4.toNatClampNeg)) = 0 ∨ (I q8 (v4.toNatClampNeg)) = 1 then (xlet (xu I q7 (v4.toNatClampNeg) (I q8 (v4.toNatClampNeg))) fun I12 => xb (F v0 9) fun q13 => xb (F v0 29) fun q14 => if q14 < N ∧ (K q14).1 = 2 ∧ xinb v4 (K q14).2 then (if q13 < N ∧ (K q13).1 = 2 ∧ xinb v4 (K q13).2 then (xlet (xu J q13 (v4.toNatClampNeg) (J q14 (v4.toNatClampNeg))) fun J17 => xlet (v4 + (1 : Int32)) fun x18 => m5_net_L49 N K F n I12 J17 v0 v1 v3 x18) else none) else none) else none) else none) else none) else none)
def m5_net (N : Nat) (K : Nat → Nat × Nat) (F : Nat → Nat → Option Nat) (I : (Nat → Nat → Int32)) (J : (Nat → Nat → Int64)) (a0 : Nat) (a1 : Int32) (a2 : Int32) (a3 : Int32) : Option (Int32 × (Nat → Nat → Int32) × (Nat → Nat → Int64)) :=
  if a0 < N ∧ K a0 = (0, 5) then (xb (m5_isTable N K F I J a0 a1) fun x2 => if x2 = 0 then (some ((-2 : Int32), I, J)) else (xb (m5_isIn N K F I J (a2.toInt64) (0 : Int64) ((I a0 17).toInt64)) fun x4 => if x4 = 0 then (some ((-2 : Int32), I, J)) else (xb (m5_isIn N K F I J (a3.toInt64) (a2.toInt64) ((I a0 17).toInt64)) fun x6 => if ¬ x6 = 0 then (xb (m5_goTo N K F I J a0 a1 a2) fun (I8, J9) => m5_net_L49 N K F xFu I8 J9 a0 a1 a3 (0 : Int32)) else (some ((-2 : Int32), I, J))))) else none
set_option maxRecDepth 100000 in
set_option maxHeartbeats 4000000 in
theorem t_m5_net_B227 {X : xX} {B d : Nat} {g : xG} {N : Nat} {K : Nat → Nat × Nat} {F : Nat → Nat → Option Nat} {rv : Int32} {I' : (Nat → Nat → Int32)} {J' : (Nat → Nat → Int64)} {k104 : (Nat → Nat → Int32) → (Nat → Nat → Int64) → Nat → Int32 → Int32 → Option (Int32 × (Nat → Nat → Int32) × (Nat → Nat → Int64))} (hX : xO X c5_net "ChangeRowsModel" 5 B g) (hR : x_R X = xrm (d + 2) 0 0) (hr : (x_meth X).sig.returnType = (some .int)) (hk104 : ∀ (I : (Nat → Nat → Int32)) (J : (Nat → Nat → Int64)) (v0 : Nat) (v1 : Int32) (v4 : Int32), k104 I J v0 v1 v4 = some (rv, I', J') → xV X B 5 (xZ X B 0 0 (xq (some (.int rv)) (xP g B N K I' J' F))) 0 0 (xP g B N K I J F) 104 [(0, .ref (B + v0)), (1, .int v1), (4, .int v4)] []) (I : (Nat → Nat → Int32)) (J : (Nat → Nat → Int64)) (v0 : Nat) (v1 : Int32) (v4 : Int32) (w0 : Nat) (w1 : Int32) (w2 : Int32) (w3 : Int32) (w4 : Int32) (w5 : Int64) (w6 : Int64) (h : m5_net_B227 N K F k104 I J v0 v1 v4 w0 w1 w2 w3 w4 w5 w6 = some (rv, I', J')) : xV X B 5 (xZ X B 0 0 (xq (some (.int rv)) (xP g B N K I' J' F))) 0 0 (xP g B N K I J F) 227 [(0, .ref (B + v0)), (1, .int v1), (4, .int v4)] [.long w6, .long w5, .int w4, .int w3, .int w2, .int w1, .ref (B + w0)] := by
  unfold m5_net_B227 at h
  obtain ⟨hg1, h⟩ := x_gd h
  obtain ⟨⟨I2, J3⟩, eb4, h⟩ := x_bd h
  dsimp only at h
  refine x_callV hX hR (c_m5_write (l := x_l X) (d := d + 1) eb4) kX5_166 kN5_write kE5_write xc5.1 hg1.1 hg1.2 rfl rfl (Nat.le_of_ble_eq_true rfl) ⟨Nat.le_refl 0, Nat.le_refl 0⟩ d5_net_227 (x_kkv ?_)
  refine x_aload_n hX d5_net_230 rfl rfl ?_
  refine x_dup hX d5_net_231 rfl ?_
  obtain ⟨hg5, h⟩ := x_gd h
  refine x_getI (j := 19) hX xc5 hg5.1 hg5.2 (by decide) rfl kF5_97 d5_net_232 ?_
  refine x_iconst (v := 1) hX d5_net_235 (by decide) ?_
  refine x_iadd hX d5_net_236 ?_
  refine x_putI (j := 19) hX xc5 hg5.1 hg5.2 (by decide) rfl kF5_97 (Or.inl rfl) rfl rfl d5_net_237 ?_
  obtain ⟨I6, eI6, h⟩ := x_le h
  rw [← eI6]
  obtain ⟨x7, ex7, h⟩ := x_le h
  refine x_iinc (j := 2) hX [(4, .int x7), (0, .ref (B + v0)), (1, .int v1)] d5_net_240 rfl (by rw [ex7]; rfl) (by decide) rfl ?_
  refine x_goto (tgt := 104) hX d5_net_243 (by decide) ?_
  refine x_sub [1, 2, 0] rfl ?_
  exact hk104 _ _ _ _ _ h
set_option maxRecDepth 100000 in
set_option maxHeartbeats 4000000 in
theorem t_m5_net_B206 {X : xX} {B d : Nat} {g : xG} {N : Nat} {K : Nat → Nat × Nat} {F : Nat → Nat → Option Nat} {rv : Int32} {I' : (Nat → Nat → Int32)} {J' : (Nat → Nat → Int64)} {k104 : (Nat → Nat → Int32) → (Nat → Nat → Int64) → Nat → Int32 → Int32 → Option (Int32 × (Nat → Nat → Int32) × (Nat → Nat → Int64))} (hX : xO X c5_net "ChangeRowsModel" 5 B g) (hR : x_R X = xrm (d + 2) 0 0) (hr : (x_meth X).sig.returnType = (some .int)) (hk104 : ∀ (I : (Nat → Nat → Int32)) (J : (Nat → Nat → Int64)) (v0 : Nat) (v1 : Int32) (v4 : Int32), k104 I J v0 v1 v4 = some (rv, I', J') → xV X B 5 (xZ X B 0 0 (xq (some (.int rv)) (xP g B N K I' J' F))) 0 0 (xP g B N K I J F) 104 [(0, .ref (B + v0)), (1, .int v1), (4, .int v4)] []) (I : (Nat → Nat → Int32)) (J : (Nat → Nat → Int64)) (v0 : Nat) (v1 : Int32) (v4 : Int32) (w0 : Nat) (w1 : Int32) (w2 : Int32) (w3 : Int32) (w4 : Int32) (w5 : Int64) (h : m5_net_B206 N K F k104 I J v0 v1 v4 w0 w1 w2 w3 w4 w5 = some (rv, I', J')) : xV X B 5 (xZ X B 0 0 (xq (some (.int rv)) (xP g B N K I' J' F))) 0 0 (xP g B N K I J F) 206 [(0, .ref (B + v0)), (1, .int v1), (4, .int v4)] [.long w5, .int w4, .int w3, .int w2, .int w1, .ref (B + w0)] := by
  unfold m5_net_B206 at h
  refine x_aload_n hX d5_net_206 rfl rfl ?_
  obtain ⟨hg1, h⟩ := x_gd h
  obtain ⟨q2, eq2, h⟩ := x_bd h
  refine x_getF (j := 28) hX xc5 hg1.1 hg1.2 (by decide) rfl eq2 kF5_78 d5_net_207 ?_
  refine x_iload hX d5_net_210 rfl ?_
  obtain ⟨hg3, h⟩ := x_gd h
  refine x_zald hX hg3.1 (x_kd hg3.2.1) (x_in hg3.2.2) d5_net_212 ?_
  refine x_if_eq (tgt := 226) hX d5_net_213 (by decide) (fun hc => ?_) (fun hc => ?_)
  · rw [if_pos hc] at h
    refine x_lconst (v := 0) hX d5_net_226 (by decide) ?_
    exact t_m5_net_B227 hX hR hr hk104 _ _ _ _ _ _ _ _ _ _ _ _ h
  · rw [if_neg hc] at h
    refine x_aload_n hX d5_net_216 rfl rfl ?_
    obtain ⟨q4, eq4, h⟩ := x_bd h
    refine x_getF (j := 29) hX xc5 hg1.1 hg1.2 (by decide) rfl eq4 kF5_81 d5_net_217 ?_
    refine x_iload hX d5_net_220 rfl ?_
    obtain ⟨hg5, h⟩ := x_gd h
    refine x_lald hX hg5.1 (x_kd hg5.2.1) (x_in hg5.2.2) d5_net_222 ?_
    refine x_goto (tgt := 227) hX d5_net_223 (by decide) ?_
    exact t_m5_net_B227 hX hR hr hk104 _ _ _ _ _ _ _ _ _ _ _ _ h
set_option maxRecDepth 100000 in
set_option maxHeartbeats 4000000 in
theorem t_m5_net_B156 {X : xX} {B d : Nat} {g : xG} {N : Nat} {K : Nat → Nat × Nat} {F : Nat → Nat → Option Nat} {rv : Int32} {I' : (Nat → Nat → Int32)} {J' : (Nat → Nat → Int64)} {k104 : (Nat → Nat → Int32) → (Nat → Nat → Int64) → Nat → Int32 → Int32 → Option (Int32 × (Nat → Nat → Int32) × (Nat → Nat → Int64))} (hX : xO X c5_net "ChangeRowsModel" 5 B g) (hR : x_R X = xrm (d + 2) 0 0) (hr : (x_meth X).sig.returnType = (some .int)) (hk104 : ∀ (I : (Nat → Nat → Int32)) (J : (Nat → Nat → Int64)) (v0 : Nat) (v1 : Int32) (v4 : Int32), k104 I J v0 v1 v4 = some (rv, I', J') → xV X B 5 (xZ X B 0 0 (xq (some (.int rv)) (xP g B N K I' J' F))) 0 0 (xP g B N K I J F) 104 [(0, .ref (B + v0)), (1, .int v1), (4, .int v4)] []) (I : (Nat → Nat → Int32)) (J : (Nat → Nat → Int64)) (v0 : Nat) (v1 : Int32) (v4 : Int32) (h : m5_net_B156 N K F k104 I J v0 v1 v4 = some (rv, I', J')) : xV X B 5 (xZ X B 0 0 (xq (some (.int rv)) (xP g B N K I' J' F))) 0 0 (xP g B N K I J F) 156 [(0, .ref (B + v0)), (1, .int v1), (4, .int v4)] [] := by
  unfold m5_net_B156 at h
  refine x_aload_n hX d5_net_156 rfl rfl ?_
  refine x_sipush (v := 2300) hX d5_net_157 (by decide) ?_
  refine x_aload_n hX d5_net_160 rfl rfl ?_
  obtain ⟨hg1, h⟩ := x_gd h
  refine x_getI (j := 19) hX xc5 hg1.1 hg1.2 (by decide) rfl kF5_97 d5_net_161 ?_
  refine x_iadd hX d5_net_164 ?_
  refine x_iload_n hX d5_net_165 rfl rfl ?_
  refine x_aload_n hX d5_net_166 rfl rfl ?_
  obtain ⟨q2, eq2, h⟩ := x_bd h
  refine x_getF (j := 8) hX xc5 hg1.1 hg1.2 (by decide) rfl eq2 kF5_33 d5_net_167 ?_
  refine x_iload hX d5_net_170 rfl ?_
  obtain ⟨hg3, h⟩ := x_gd h
  refine x_zald hX hg3.1 (x_kd hg3.2.1) (x_in hg3.2.2) d5_net_172 ?_
  refine x_aload_n hX d5_net_173 rfl rfl ?_
  obtain ⟨q4, eq4, h⟩ := x_bd h
  refine x_getF (j := 28) hX xc5 hg1.1 hg1.2 (by decide) rfl eq4 kF5_78 d5_net_174 ?_
  refine x_iload hX d5_net_177 rfl ?_
  obtain ⟨hg5, h⟩ := x_gd h
  refine x_zald hX hg5.1 (x_kd hg5.2.1) (x_in hg5.2.2) d5_net_179 ?_
  obtain ⟨x6, eb7, h⟩ := x_bd h
  refine x_callS hX hR (c_m5_sortOf (l := x_l X) (d := d + 1) eb7) kX5_162 kS5_sortOf rfl rfl (Nat.le_of_ble_eq_true rfl) ⟨Nat.le_refl 0, Nat.le_refl 0⟩ d5_net_180 (x_kki ?_)
  refine x_iload hX d5_net_183 rfl ?_
  refine x_aload_n hX d5_net_185 rfl rfl ?_
  refine x_getF (j := 8) hX xc5 hg1.1 hg1.2 (by decide) rfl eq2 kF5_33 d5_net_186 ?_
  refine x_iload hX d5_net_189 rfl ?_
  refine x_zald hX hg3.1 (x_kd hg3.2.1) (x_in hg3.2.2) d5_net_191 ?_
  refine x_if_eq (tgt := 205) hX d5_net_192 (by decide) (fun hc => ?_) (fun hc => ?_)
  · rw [if_pos hc] at h
    refine x_lconst (v := 0) hX d5_net_205 (by decide) ?_
    exact t_m5_net_B206 hX hR hr hk104 _ _ _ _ _ _ _ _ _ _ _ h
  · rw [if_neg hc] at h
    refine x_aload_n hX d5_net_195 rfl rfl ?_
    obtain ⟨q8, eq8, h⟩ := x_bd h
    refine x_getF (j := 9) hX xc5 hg1.1 hg1.2 (by decide) rfl eq8 kF5_36 d5_net_196 ?_
    refine x_iload hX d5_net_199 rfl ?_
    obtain ⟨hg9, h⟩ := x_gd h
    refine x_lald hX hg9.1 (x_kd hg9.2.1) (x_in hg9.2.2) d5_net_201 ?_
    refine x_goto (tgt := 206) hX d5_net_202 (by decide) ?_
    exact t_m5_net_B206 hX hR hr hk104 _ _ _ _ _ _ _ _ _ _ _ h
set_option maxRecDepth 100000 in
set_option maxHeartbeats 4000000 in
theorem t_m5_net_L104 {X : xX} {B d : Nat} {g : xG} {N : Nat} {K : Nat → Nat × Nat} {F : Nat → Nat → Option Nat} {rv : Int32} {I' : (Nat → Nat → Int32)} {J' : (Nat → Nat → Int64)} (hX : xO X c5_net "ChangeRowsModel" 5 B g) (hR : x_R X = xrm (d + 2) 0 0) (hr : (x_meth X).sig.returnType = (some .int)) : ∀ (n : Nat) (I : (Nat → Nat → Int32)) (J : (Nat → Nat → Int64)) (v0 : Nat) (v1 : Int32) (v4 : Int32), m5_net_L104 N K F n I J v0 v1 v4 = some (rv, I', J') → xV X B 5 (xZ X B 0 0 (xq (some (.int rv)) (xP g B N K I' J' F))) 0 0 (xP g B N K I J F) 104 [(0, .ref (B + v0)), (1, .int v1), (4, .int v4)] [] := by
  intro n
  induction n with
  | zero =>
    intro I J v0 v1 v4 h
    cases h
  | succ n ih =>
    intro I J v0 v1 v4 h
    rw [m5_net_L104] at h
    refine x_iload hX d5_net_104 rfl ?_
    refine x_bipush (v := 64) hX d5_net_106 (by decide) ?_
    refine x_icmp_ge (tgt := 246) hX d5_net_108 (by decide) (fun hc => ?_) (fun hc => ?_)
    · rw [if_pos hc] at h
      refine x_aload_n hX d5_net_246 rfl rfl ?_
      obtain ⟨hg1, h⟩ := x_gd h
      refine x_getI (j := 19) hX xc5 hg1.1 hg1.2 (by decide) rfl kF5_97 d5_net_247 ?_
      cases h
      exact x_iret hX hr d5_net_250 (fun H hP => ⟨rfl, hP⟩)
    · rw [if_neg hc] at h
      refine x_aload_n hX d5_net_111 rfl rfl ?_
      obtain ⟨hg2, h⟩ := x_gd h
      obtain ⟨q3, eq3, h⟩ := x_bd h
      refine x_getF (j := 8) hX xc5 hg2.1 hg2.2 (by decide) rfl eq3 kF5_33 d5_net_112 ?_
      refine x_iload hX d5_net_115 rfl ?_
      obtain ⟨hg4, h⟩ := x_gd h
      refine x_zald hX hg4.1 (x_kd hg4.2.1) (x_in hg4.2.2) d5_net_117 ?_
      refine x_aload_n hX d5_net_118 rfl rfl ?_
      obtain ⟨q5, eq5, h⟩ := x_bd h
      refine x_getF (j := 28) hX xc5 hg2.1 hg2.2 (by decide) rfl eq5 kF5_78 d5_net_119 ?_
      refine x_iload hX d5_net_122 rfl ?_
      obtain ⟨hg6, h⟩ := x_gd h
      refine x_zald hX hg6.1 (x_kd hg6.2.1) (x_in hg6.2.2) d5_net_124 ?_
      refine x_icmp_ne (tgt := 156) hX d5_net_125 (by decide) (fun hc => ?_) (fun hc => ?_)
      · rw [if_pos hc] at h
        exact t_m5_net_B156 hX hR hr ih _ _ _ _ _ h
      · rw [if_neg (x_nn hc)] at h
        refine x_aload_n hX d5_net_128 rfl rfl ?_
        refine x_getF (j := 8) hX xc5 hg2.1 hg2.2 (by decide) rfl eq3 kF5_33 d5_net_129 ?_
        refine x_iload hX d5_net_132 rfl ?_
        refine x_zald hX hg4.1 (x_kd hg4.2.1) (x_in hg4.2.2) d5_net_134 ?_
        refine x_if_eq (tgt := 240) hX d5_net_135 (by decide) (fun hc => ?_) (fun hc => ?_)
        · rw [if_pos hc] at h
          obtain ⟨x7, ex7, h⟩ := x_le h
          refine x_iinc (j := 2) hX [(4, .int x7), (0, .ref (B + v0)), (1, .int v1)] d5_net_240 rfl (by rw [ex7]; rfl) (by decide) rfl ?_
          refine x_goto (tgt := 104) hX d5_net_243 (by decide) ?_
          refine x_sub [1, 2, 0] rfl ?_
          exact ih _ _ _ _ _ h
        · rw [if_neg hc] at h
          refine x_aload_n hX d5_net_138 rfl rfl ?_
          obtain ⟨q8, eq8, h⟩ := x_bd h
          refine x_getF (j := 9) hX xc5 hg2.1 hg2.2 (by decide) rfl eq8 kF5_36 d5_net_139 ?_
          refine x_iload hX d5_net_142 rfl ?_
          obtain ⟨hg9, h⟩ := x_gd h
          refine x_lald hX hg9.1 (x_kd hg9.2.1) (x_in hg9.2.2) d5_net_144 ?_
          refine x_aload_n hX d5_net_145 rfl rfl ?_
          obtain ⟨q10, eq10, h⟩ := x_bd h
          refine x_getF (j := 29) hX xc5 hg2.1 hg2.2 (by decide) rfl eq10 kF5_81 d5_net_146 ?_
          refine x_iload hX d5_net_149 rfl ?_
          obtain ⟨hg11, h⟩ := x_gd h
          refine x_lald hX hg11.1 (x_kd hg11.2.1) (x_in hg11.2.2) d5_net_151 ?_
          refine x_lif_eq (tgt := 240) hX d5_net_152 d5_net_153 (by decide) (fun hc => ?_) (fun hc => ?_)
          · rw [if_pos hc] at h
            obtain ⟨x12, ex12, h⟩ := x_le h
            refine x_iinc (j := 2) hX [(4, .int x12), (0, .ref (B + v0)), (1, .int v1)] d5_net_240 rfl (by rw [ex12]; rfl) (by decide) rfl ?_
            refine x_goto (tgt := 104) hX d5_net_243 (by decide) ?_
            refine x_sub [1, 2, 0] rfl ?_
            exact ih _ _ _ _ _ h
          · rw [if_neg hc] at h
            exact t_m5_net_B156 hX hR hr ih _ _ _ _ _ h
set_option maxRecDepth 100000 in
set_option maxHeartbeats 4000000 in
theorem t_m5_net_L49 {X : xX} {B d : Nat} {g : xG} {N : Nat} {K : Nat → Nat × Nat} {F : Nat → Nat → Option Nat} {rv : Int32} {I' : (Nat → Nat → Int32)} {J' : (Nat → Nat → Int64)} (hX : xO X c5_net "ChangeRowsModel" 5 B g) (hR : x_R X = xrm (d + 2) 0 0) (hr : (x_meth X).sig.returnType = (some .int)) : ∀ (n : Nat) (I : (Nat → Nat → Int32)) (J : (Nat → Nat → Int64)) (v0 : Nat) (v1 : Int32) (v3 : Int32) (v4 : Int32), m5_net_L49 N K F n I J v0 v1 v3 v4 = some (rv, I', J') → xV X B 5 (xZ X B 0 0 (xq (some (.int rv)) (xP g B N K I' J' F))) 0 0 (xP g B N K I J F) 49 [(0, .ref (B + v0)), (1, .int v1), (3, .int v3), (4, .int v4)] [] := by
  intro n
  induction n with
  | zero =>
    intro I J v0 v1 v3 v4 h
    cases h
  | succ n ih =>
    intro I J v0 v1 v3 v4 h
    rw [m5_net_L49] at h
    refine x_iload hX d5_net_49 rfl ?_
    refine x_bipush (v := 64) hX d5_net_51 (by decide) ?_
    refine x_icmp_ge (tgt := 90) hX d5_net_53 (by decide) (fun hc => ?_) (fun hc => ?_)
    · rw [if_pos hc] at h
      refine x_aload_n hX d5_net_90 rfl rfl ?_
      refine x_iload_n hX d5_net_91 rfl rfl ?_
      refine x_iload_n hX d5_net_92 rfl rfl ?_
      obtain ⟨hg1, h⟩ := x_gd h
      obtain ⟨⟨I2, J3⟩, eb4, h⟩ := x_bd h
      dsimp only at h
      refine x_callV hX hR (c_m5_goTo (l := x_l X) (d := d + 1) eb4) kX5_192 kN5_goTo kE5_goTo xc5.1 hg1.1 hg1.2 rfl rfl (Nat.le_of_ble_eq_true rfl) ⟨Nat.le_refl 0, Nat.le_refl 0⟩ d5_net_93 (x_kkv ?_)
      refine x_aload_n hX d5_net_96 rfl rfl ?_
      refine x_iconst (v := 0) hX d5_net_97 (by decide) ?_
      refine x_putI (j := 19) hX xc5 hg1.1 hg1.2 (by decide) rfl kF5_97 (Or.inl rfl) rfl rfl d5_net_98 ?_
      obtain ⟨I5, eI5, h⟩ := x_le h
      rw [← eI5]
      refine x_iconst (v := 0) hX d5_net_101 (by decide) ?_
      refine x_istore hX [(4, .int (0 : Int32)), (0, .ref (B + v0)), (1, .int v1), (3, .int v3)] d5_net_102 (by decide) rfl ?_
      refine x_sub [1, 2, 0] rfl ?_
      exact t_m5_net_L104 hX hR hr _ _ _ _ _ _ h
    · rw [if_neg hc] at h
      refine x_aload_n hX d5_net_56 rfl rfl ?_
      obtain ⟨hg6, h⟩ := x_gd h
      obtain ⟨q7, eq7, h⟩ := x_bd h
      refine x_getF (j := 8) hX xc5 hg6.1 hg6.2 (by decide) rfl eq7 kF5_33 d5_net_57 ?_
      refine x_iload hX d5_net_60 rfl ?_
      refine x_aload_n hX d5_net_62 rfl rfl ?_
      obtain ⟨q8, eq8, h⟩ := x_bd h
      refine x_getF (j := 28) hX xc5 hg6.1 hg6.2 (by decide) rfl eq8 kF5_78 d5_net_63 ?_
      refine x_iload hX d5_net_66 rfl ?_
      obtain ⟨hg9, h⟩ := x_gd h
      refine x_zald hX hg9.1 (x_kd hg9.2.1) (x_in hg9.2.2) d5_net_68 ?_
      obtain ⟨hg10, h⟩ := x_gd h
      obtain ⟨hg11, h⟩ := x_gd h
      refine x_zast hX hg10.1 (x_kd hg10.2.1) (x_in hg10.2.2) (x_nbool hg11) d5_net_69 ?_
      obtain ⟨I12, eI12, h⟩ := x_le h
      rw [← eI12]
      refine x_aload_n hX d5_net_70 rfl rfl ?_
      obtain ⟨q13, eq13, h⟩ := x_bd h
      refine x_getF (j := 9) hX xc5 hg6.1 hg6.2 (by decide) rfl eq13 kF5_36 d5_net_71 ?_
      refine x_iload hX d5_net_74 rfl ?_
      refine x_aload_n hX d5_net_76 rfl rfl ?_
      obtain ⟨q14, eq14, h⟩ := x_bd h
      refine x_getF (j := 29) hX xc5 hg6.1 hg6.2 (by decide) rfl eq14 kF5_81 d5_net_77 ?_
      refine x_iload hX d5_net_80 rfl ?_
      obtain ⟨hg15, h⟩ := x_gd h
      refine x_lald hX hg15.1 (x_kd hg15.2.1) (x_in hg15.2.2) d5_net_82 ?_
      obtain ⟨hg16, h⟩ := x_gd h
      refine x_last hX hg16.1 (x_kd hg16.2.1) (x_in hg16.2.2) d5_net_83 ?_
      obtain ⟨J17, eJ17, h⟩ := x_le h
      rw [← eJ17]
      obtain ⟨x18, ex18, h⟩ := x_le h
      refine x_iinc (j := 3) hX [(4, .int x18), (0, .ref (B + v0)), (1, .int v1), (3, .int v3)] d5_net_84 rfl (by rw [ex18]; rfl) (by decide) rfl ?_
      refine x_goto (tgt := 49) hX d5_net_87 (by decide) ?_
      refine x_sub [1, 2, 3, 0] rfl ?_
      exact ih _ _ _ _ _ _ h
set_option maxRecDepth 100000 in
set_option maxHeartbeats 4000000 in
theorem c_m5_net {l : Launch} {B d : Nat} {g : xG} {N : Nat} {K : Nat → Nat × Nat} {F : Nat → Nat → Option Nat} {I : (Nat → Nat → Int32)} {J : (Nat → Nat → Int64)} {a0 : Nat} {a1 : Int32} {a2 : Int32} {a3 : Int32} {rv : Int32} {I' : (Nat → Nat → Int32)} {J' : (Nat → Nat → Int64)} (h : m5_net N K F I J a0 a1 a2 a3 = some (rv, I', J')) : xC l g B (d + 2) 0 0 y5_net c5_net 5 (some .int) [.ref (B + a0), .int a1, .int a2, .int a3] (xP g B N K I J F) (xq (some (.int rv)) (xP g B N K I' J' F)) := by
  refine xC_of (by decide) (Nat.le_of_ble_eq_true rfl) (fun X hl hR hr _ hX => ?_)
  refine x_sub (L' := [(0, .ref (B + a0)), (1, .int a1), (2, .int a2), (3, .int a3)]) [0, 1, 2, 3] rfl ?_
  unfold m5_net at h
  refine x_aload_n hX d5_net_0 rfl rfl ?_
  refine x_iload_n hX d5_net_1 rfl rfl ?_
  obtain ⟨hg1, h⟩ := x_gd h
  obtain ⟨x2, eb3, h⟩ := x_bd h
  refine x_callV hX hR (c_m5_isTable (l := x_l X) (d := d + 0) eb3) kX5_143 kN5_isTable kE5_isTable xc5.1 hg1.1 hg1.2 rfl rfl (Nat.le_of_ble_eq_true rfl) ⟨Nat.le_refl 0, Nat.le_refl 0⟩ d5_net_2 (x_kki ?_)
  refine x_if_eq (tgt := 37) hX d5_net_5 (by decide) (fun hc => ?_) (fun hc => ?_)
  · rw [if_pos hc] at h
    refine x_bipush (v := -2) hX d5_net_37 (by decide) ?_
    cases h
    exact x_iret hX hr d5_net_39 (fun H hP => ⟨rfl, hP⟩)
  · rw [if_neg hc] at h
    refine x_iload_n hX d5_net_8 rfl rfl ?_
    refine x_i2l hX d5_net_9 ?_
    refine x_lconst (v := 0) hX d5_net_10 (by decide) ?_
    refine x_aload_n hX d5_net_11 rfl rfl ?_
    refine x_getI (j := 17) hX xc5 hg1.1 hg1.2 (by decide) rfl kF5_91 d5_net_12 ?_
    refine x_i2l hX d5_net_15 ?_
    obtain ⟨x4, eb5, h⟩ := x_bd h
    refine x_callS hX hR (c_m5_isIn (l := x_l X) (d := d + 1) eb5) kX5_107 kS5_isIn rfl rfl (Nat.le_of_ble_eq_true rfl) ⟨Nat.le_refl 0, Nat.le_refl 0⟩ d5_net_16 (x_kki ?_)
    refine x_if_eq (tgt := 37) hX d5_net_19 (by decide) (fun hc => ?_) (fun hc => ?_)
    · rw [if_pos hc] at h
      refine x_bipush (v := -2) hX d5_net_37 (by decide) ?_
      cases h
      exact x_iret hX hr d5_net_39 (fun H hP => ⟨rfl, hP⟩)
    · rw [if_neg hc] at h
      refine x_iload_n hX d5_net_22 rfl rfl ?_
      refine x_i2l hX d5_net_23 ?_
      refine x_iload_n hX d5_net_24 rfl rfl ?_
      refine x_i2l hX d5_net_25 ?_
      refine x_aload_n hX d5_net_26 rfl rfl ?_
      refine x_getI (j := 17) hX xc5 hg1.1 hg1.2 (by decide) rfl kF5_91 d5_net_27 ?_
      refine x_i2l hX d5_net_30 ?_
      obtain ⟨x6, eb7, h⟩ := x_bd h
      refine x_callS hX hR (c_m5_isIn (l := x_l X) (d := d + 1) eb7) kX5_107 kS5_isIn rfl rfl (Nat.le_of_ble_eq_true rfl) ⟨Nat.le_refl 0, Nat.le_refl 0⟩ d5_net_31 (x_kki ?_)
      refine x_if_ne (tgt := 40) hX d5_net_34 (by decide) (fun hc => ?_) (fun hc => ?_)
      · rw [if_pos hc] at h
        refine x_aload_n hX d5_net_40 rfl rfl ?_
        refine x_iload_n hX d5_net_41 rfl rfl ?_
        refine x_iload_n hX d5_net_42 rfl rfl ?_
        obtain ⟨⟨I8, J9⟩, eb10, h⟩ := x_bd h
        dsimp only at h
        refine x_callV hX hR (c_m5_goTo (l := x_l X) (d := d + 1) eb10) kX5_192 kN5_goTo kE5_goTo xc5.1 hg1.1 hg1.2 rfl rfl (Nat.le_of_ble_eq_true rfl) ⟨Nat.le_refl 0, Nat.le_refl 0⟩ d5_net_43 (x_kkv ?_)
        refine x_iconst (v := 0) hX d5_net_46 (by decide) ?_
        refine x_istore hX [(4, .int (0 : Int32)), (0, .ref (B + a0)), (1, .int a1), (2, .int a2), (3, .int a3)] d5_net_47 (by decide) rfl ?_
        refine x_sub [1, 2, 4, 0] rfl ?_
        exact t_m5_net_L49 hX hR hr _ _ _ _ _ _ _ h
      · rw [if_neg (x_nn hc)] at h
        refine x_bipush (v := -2) hX d5_net_37 (by decide) ?_
        cases h
        exact x_iret hX hr d5_net_39 (fun H hP => ⟨rfl, hP⟩)

def m5_copy_L36 (N : Nat) (K : Nat → Nat × Nat) (F : Nat → Nat → Option Nat) : Nat → (Nat → Nat → Int32) → (Nat → Nat → Int64) → Nat → Int32 → Int32 → Option (Int32 × (Nat → Nat → Int32) × (Nat → Nat → Int64))
  | 0, _, _, _, _, _ => none
  | n + 1, I, J, v0, v3, v4 => if (64 : Int32) ≤ v4 then (some (v3, I, J)) else (if v0 < N ∧ K v0 = (0, 5) then (xb (F v0 26) fun q2 => xb (F v0 28) fun q3 => if q3 < N ∧ (K q3).1 = 3 ∧ xinb v4 (K q3).2 then (if q2 < N ∧ (K q2).1 = 3 ∧ xinb v4 (K q2).2 then (if (I q3 (v4.toNatClampNeg)) = 0 ∨ (I q3 (v4.toNatClampNeg)) = 1 then (xlet (xu I q2 (v4.toNatClampNeg) (I q3 (v4.toNatClampNeg))) fun I7 => xb (F v0 27) fun q8 => xb (F v0 29) fun q9 => if q9 < N ∧ (K q9).1 = 2 ∧ xinb v4 (K q9).2 then (if q8 < N ∧ (K q8).1 = 2 ∧ xinb v4 (K q8).2 then (xlet (xu J q8 (v4.toNatClampNeg) (J q9 (v4.toNatClampNeg))) fun J12 => if (I7 q2 (v4.toNatClampNeg)) = 0 then (xlet ((v3 + (0 : Int32))) fun x13 => xlet (v4 + (1 : Int32)) fun x14 => m5_copy_L36 N K F n I7 J12 v0 x13 x14) else (xlet ((v3 + (1 : Int32))) fun x15 => xlet (v4 + (1 : Int32)) fun x16 => m5_copy_L36 N K F n I7 J12 v0 x15 x16)) else none) else none) else none) else none) else none) else none)
def m5_copy (N : Nat) (K : Nat → Nat × Nat) (F : Nat → Nat → Option Nat) (I : (Nat → Nat → Int32)) (J : (Nat → Nat → Int64)) (a0 : Nat) (a1 : Int32) (a2 : Int32) : Option (Int32 × (Nat → Nat → Int32) × (Nat → Nat → Int64)) :=
  if a0 < N ∧ K a0 = (0, 5) then (xb (m5_isTable N K F I J a0 a1) fun x2 => if x2 = 0 then (some ((-2 : Int32), I, J)) else (xb (m5_isIn N K F I J (a2.toInt64) (0 : Int64) ((I a0 17).toInt64)) fun x4 => if ¬ x4 = 0 then (xb (m5_goTo N K F I J a0 a1 a2) fun (I6, J7) => m5_copy_L36 N K F xFu I6 J7 a0 (0 : Int32) (0 : Int32)) else (some ((-2 : Int32), I, J)))) else none
set_option maxRecDepth 100000 in
set_option maxHeartbeats 4000000 in
theorem t_m5_copy_L36 {X : xX} {B d : Nat} {g : xG} {N : Nat} {K : Nat → Nat × Nat} {F : Nat → Nat → Option Nat} {rv : Int32} {I' : (Nat → Nat → Int32)} {J' : (Nat → Nat → Int64)} (hX : xO X c5_copy "ChangeRowsModel" 5 B g) (hR : x_R X = xrm (d + 2) 0 0) (hr : (x_meth X).sig.returnType = (some .int)) : ∀ (n : Nat) (I : (Nat → Nat → Int32)) (J : (Nat → Nat → Int64)) (v0 : Nat) (v3 : Int32) (v4 : Int32), m5_copy_L36 N K F n I J v0 v3 v4 = some (rv, I', J') → xV X B 5 (xZ X B 0 0 (xq (some (.int rv)) (xP g B N K I' J' F))) 0 0 (xP g B N K I J F) 36 [(0, .ref (B + v0)), (3, .int v3), (4, .int v4)] [] := by
  intro n
  induction n with
  | zero =>
    intro I J v0 v3 v4 h
    cases h
  | succ n ih =>
    intro I J v0 v3 v4 h
    rw [m5_copy_L36] at h
    refine x_iload hX d5_copy_36 rfl ?_
    refine x_bipush (v := 64) hX d5_copy_38 (by decide) ?_
    refine x_icmp_ge (tgt := 95) hX d5_copy_40 (by decide) (fun hc => ?_) (fun hc => ?_)
    · rw [if_pos hc] at h
      refine x_iload_n hX d5_copy_95 rfl rfl ?_
      cases h
      exact x_iret hX hr d5_copy_96 (fun H hP => ⟨rfl, hP⟩)
    · rw [if_neg hc] at h
      refine x_aload_n hX d5_copy_43 rfl rfl ?_
      obtain ⟨hg1, h⟩ := x_gd h
      obtain ⟨q2, eq2, h⟩ := x_bd h
      refine x_getF (j := 26) hX xc5 hg1.1 hg1.2 (by decide) rfl eq2 kF5_72 d5_copy_44 ?_
      refine x_iload hX d5_copy_47 rfl ?_
      refine x_aload_n hX d5_copy_49 rfl rfl ?_
      obtain ⟨q3, eq3, h⟩ := x_bd h
      refine x_getF (j := 28) hX xc5 hg1.1 hg1.2 (by decide) rfl eq3 kF5_78 d5_copy_50 ?_
      refine x_iload hX d5_copy_53 rfl ?_
      obtain ⟨hg4, h⟩ := x_gd h
      refine x_zald hX hg4.1 (x_kd hg4.2.1) (x_in hg4.2.2) d5_copy_55 ?_
      obtain ⟨hg5, h⟩ := x_gd h
      obtain ⟨hg6, h⟩ := x_gd h
      refine x_zast hX hg5.1 (x_kd hg5.2.1) (x_in hg5.2.2) (x_nbool hg6) d5_copy_56 ?_
      obtain ⟨I7, eI7, h⟩ := x_le h
      rw [← eI7]
      refine x_aload_n hX d5_copy_57 rfl rfl ?_
      obtain ⟨q8, eq8, h⟩ := x_bd h
      refine x_getF (j := 27) hX xc5 hg1.1 hg1.2 (by decide) rfl eq8 kF5_75 d5_copy_58 ?_
      refine x_iload hX d5_copy_61 rfl ?_
      refine x_aload_n hX d5_copy_63 rfl rfl ?_
      obtain ⟨q9, eq9, h⟩ := x_bd h
      refine x_getF (j := 29) hX xc5 hg1.1 hg1.2 (by decide) rfl eq9 kF5_81 d5_copy_64 ?_
      refine x_iload hX d5_copy_67 rfl ?_
      obtain ⟨hg10, h⟩ := x_gd h
      refine x_lald hX hg10.1 (x_kd hg10.2.1) (x_in hg10.2.2) d5_copy_69 ?_
      obtain ⟨hg11, h⟩ := x_gd h
      refine x_last hX hg11.1 (x_kd hg11.2.1) (x_in hg11.2.2) d5_copy_70 ?_
      obtain ⟨J12, eJ12, h⟩ := x_le h
      rw [← eJ12]
      refine x_iload_n hX d5_copy_71 rfl rfl ?_
      refine x_aload_n hX d5_copy_72 rfl rfl ?_
      refine x_getF (j := 26) hX xc5 hg1.1 hg1.2 (by decide) rfl eq2 kF5_72 d5_copy_73 ?_
      refine x_iload hX d5_copy_76 rfl ?_
      refine x_zald hX hg5.1 (x_kd hg5.2.1) (x_in hg5.2.2) d5_copy_78 ?_
      refine x_if_eq (tgt := 86) hX d5_copy_79 (by decide) (fun hc => ?_) (fun hc => ?_)
      · rw [if_pos hc] at h
        refine x_iconst (v := 0) hX d5_copy_86 (by decide) ?_
        refine x_iadd hX d5_copy_87 ?_
        obtain ⟨x13, ex13, h⟩ := x_le h
        refine x_eqi ex13.symm ?_
        refine x_istore_n hX [(3, .int x13), (0, .ref (B + v0)), (4, .int v4)] d5_copy_88 rfl (by decide) rfl ?_
        obtain ⟨x14, ex14, h⟩ := x_le h
        refine x_iinc (j := 2) hX [(4, .int x14), (3, .int x13), (0, .ref (B + v0))] d5_copy_89 rfl (by rw [ex14]; rfl) (by decide) rfl ?_
        refine x_goto (tgt := 36) hX d5_copy_92 (by decide) ?_
        refine x_sub [2, 1, 0] rfl ?_
        exact ih _ _ _ _ _ h
      · rw [if_neg hc] at h
        refine x_iconst (v := 1) hX d5_copy_82 (by decide) ?_
        refine x_goto (tgt := 87) hX d5_copy_83 (by decide) ?_
        refine x_iadd hX d5_copy_87 ?_
        obtain ⟨x15, ex15, h⟩ := x_le h
        refine x_eqi ex15.symm ?_
        refine x_istore_n hX [(3, .int x15), (0, .ref (B + v0)), (4, .int v4)] d5_copy_88 rfl (by decide) rfl ?_
        obtain ⟨x16, ex16, h⟩ := x_le h
        refine x_iinc (j := 2) hX [(4, .int x16), (3, .int x15), (0, .ref (B + v0))] d5_copy_89 rfl (by rw [ex16]; rfl) (by decide) rfl ?_
        refine x_goto (tgt := 36) hX d5_copy_92 (by decide) ?_
        refine x_sub [2, 1, 0] rfl ?_
        exact ih _ _ _ _ _ h
set_option maxRecDepth 100000 in
set_option maxHeartbeats 4000000 in
theorem c_m5_copy {l : Launch} {B d : Nat} {g : xG} {N : Nat} {K : Nat → Nat × Nat} {F : Nat → Nat → Option Nat} {I : (Nat → Nat → Int32)} {J : (Nat → Nat → Int64)} {a0 : Nat} {a1 : Int32} {a2 : Int32} {rv : Int32} {I' : (Nat → Nat → Int32)} {J' : (Nat → Nat → Int64)} (h : m5_copy N K F I J a0 a1 a2 = some (rv, I', J')) : xC l g B (d + 2) 0 0 y5_copy c5_copy 5 (some .int) [.ref (B + a0), .int a1, .int a2] (xP g B N K I J F) (xq (some (.int rv)) (xP g B N K I' J' F)) := by
  refine xC_of (by decide) (Nat.le_of_ble_eq_true rfl) (fun X hl hR hr _ hX => ?_)
  refine x_sub (L' := [(0, .ref (B + a0)), (1, .int a1), (2, .int a2)]) [0, 1, 2] rfl ?_
  unfold m5_copy at h
  refine x_aload_n hX d5_copy_0 rfl rfl ?_
  refine x_iload_n hX d5_copy_1 rfl rfl ?_
  obtain ⟨hg1, h⟩ := x_gd h
  obtain ⟨x2, eb3, h⟩ := x_bd h
  refine x_callV hX hR (c_m5_isTable (l := x_l X) (d := d + 0) eb3) kX5_143 kN5_isTable kE5_isTable xc5.1 hg1.1 hg1.2 rfl rfl (Nat.le_of_ble_eq_true rfl) ⟨Nat.le_refl 0, Nat.le_refl 0⟩ d5_copy_2 (x_kki ?_)
  refine x_if_eq (tgt := 22) hX d5_copy_5 (by decide) (fun hc => ?_) (fun hc => ?_)
  · rw [if_pos hc] at h
    refine x_bipush (v := -2) hX d5_copy_22 (by decide) ?_
    cases h
    exact x_iret hX hr d5_copy_24 (fun H hP => ⟨rfl, hP⟩)
  · rw [if_neg hc] at h
    refine x_iload_n hX d5_copy_8 rfl rfl ?_
    refine x_i2l hX d5_copy_9 ?_
    refine x_lconst (v := 0) hX d5_copy_10 (by decide) ?_
    refine x_aload_n hX d5_copy_11 rfl rfl ?_
    refine x_getI (j := 17) hX xc5 hg1.1 hg1.2 (by decide) rfl kF5_91 d5_copy_12 ?_
    refine x_i2l hX d5_copy_15 ?_
    obtain ⟨x4, eb5, h⟩ := x_bd h
    refine x_callS hX hR (c_m5_isIn (l := x_l X) (d := d + 1) eb5) kX5_107 kS5_isIn rfl rfl (Nat.le_of_ble_eq_true rfl) ⟨Nat.le_refl 0, Nat.le_refl 0⟩ d5_copy_16 (x_kki ?_)
    refine x_if_ne (tgt := 25) hX d5_copy_19 (by decide) (fun hc => ?_) (fun hc => ?_)
    · rw [if_pos hc] at h
      refine x_aload_n hX d5_copy_25 rfl rfl ?_
      refine x_iload_n hX d5_copy_26 rfl rfl ?_
      refine x_iload_n hX d5_copy_27 rfl rfl ?_
      obtain ⟨⟨I6, J7⟩, eb8, h⟩ := x_bd h
      dsimp only at h
      refine x_callV hX hR (c_m5_goTo (l := x_l X) (d := d + 1) eb8) kX5_192 kN5_goTo kE5_goTo xc5.1 hg1.1 hg1.2 rfl rfl (Nat.le_of_ble_eq_true rfl) ⟨Nat.le_refl 0, Nat.le_refl 0⟩ d5_copy_28 (x_kkv ?_)
      refine x_iconst (v := 0) hX d5_copy_31 (by decide) ?_
      refine x_istore_n hX [(3, .int (0 : Int32)), (0, .ref (B + a0)), (1, .int a1), (2, .int a2)] d5_copy_32 rfl (by decide) rfl ?_
      refine x_iconst (v := 0) hX d5_copy_33 (by decide) ?_
      refine x_istore hX [(4, .int (0 : Int32)), (3, .int (0 : Int32)), (0, .ref (B + a0)), (1, .int a1), (2, .int a2)] d5_copy_34 (by decide) rfl ?_
      refine x_sub [2, 1, 0] rfl ?_
      exact t_m5_copy_L36 hX hR hr _ _ _ _ _ _ h
    · rw [if_neg (x_nn hc)] at h
      refine x_bipush (v := -2) hX d5_copy_22 (by decide) ?_
      cases h
      exact x_iret hX hr d5_copy_24 (fun H hP => ⟨rfl, hP⟩)

def m5_take_B89 (N : Nat) (K : Nat → Nat × Nat) (F : Nat → Nat → Option Nat) (I : (Nat → Nat → Int32)) (J : (Nat → Nat → Int64)) (v0 : Nat) (v2 : Int32) (v5 : Int64) (w0 : Nat) (w1 : Int32) (w2 : Int32) : Option (Int32 × (Nat → Nat → Int32) × (Nat → Nat → Int64)) :=
  if w0 < N ∧ (K w0).1 = 3 ∧ xinb w1 (K w0).2 then (if w2 = 0 ∨ w2 = 1 then (xlet (xu I w0 (w1.toNatClampNeg) w2) fun I3 => if v0 < N ∧ K v0 = (0, 5) then (xb (F v0 27) fun q5 => if q5 < N ∧ (K q5).1 = 2 ∧ xinb v2 (K q5).2 then (xlet (xu J q5 (v2.toNatClampNeg) v5) fun J7 => some ((0 : Int32), I3, J7)) else none) else none) else none) else none
def m5_take_B74 (N : Nat) (K : Nat → Nat × Nat) (F : Nat → Nat → Option Nat) (I : (Nat → Nat → Int32)) (J : (Nat → Nat → Int64)) (v0 : Nat) (v1 : Int32) (v2 : Int32) (v5 : Int64) : Option (Int32 × (Nat → Nat → Int32) × (Nat → Nat → Int64)) :=
  if v0 < N ∧ K v0 = (0, 5) then (xb (F v0 26) fun q2 => if v1 = (2 : Int32) then (m5_take_B89 N K F I J v0 v2 v5 q2 v2 (0 : Int32)) else (m5_take_B89 N K F I J v0 v2 v5 q2 v2 (1 : Int32))) else none
def m5_take_B57 (N : Nat) (K : Nat → Nat × Nat) (F : Nat → Nat → Option Nat) (I : (Nat → Nat → Int32)) (J : (Nat → Nat → Int64)) (v0 : Nat) (v1 : Int32) (v2 : Int32) (v3 : Int64) (v5 : Int64) : Option (Int32 × (Nat → Nat → Int32) × (Nat → Nat → Int64)) :=
  if v1 = 0 then (m5_take_B74 N K F I J v0 v1 v2 v5) else (if v0 < N ∧ K v0 = (0, 5) then (xb (F v0 27) fun q2 => if q2 < N ∧ (K q2).1 = 2 ∧ xinb v2 (K q2).2 then (if (J q2 (v2.toNatClampNeg)) = v3 then (m5_take_B74 N K F I J v0 v1 v2 v5) else (some ((3 : Int32), I, J))) else none) else none)
def m5_take_B42 (N : Nat) (K : Nat → Nat × Nat) (F : Nat → Nat → Option Nat) (I : (Nat → Nat → Int32)) (J : (Nat → Nat → Int64)) (v0 : Nat) (v1 : Int32) (v2 : Int32) (v3 : Int64) (v5 : Int64) : Option (Int32 × (Nat → Nat → Int32) × (Nat → Nat → Int64)) :=
  if v1 = 0 then (m5_take_B57 N K F I J v0 v1 v2 v3 v5) else (if v0 < N ∧ K v0 = (0, 5) then (xb (F v0 26) fun q2 => if q2 < N ∧ (K q2).1 = 3 ∧ xinb v2 (K q2).2 then (if ¬ (I q2 (v2.toNatClampNeg)) = 0 then (m5_take_B57 N K F I J v0 v1 v2 v3 v5) else (some ((2 : Int32), I, J))) else none) else none)
def m5_take (N : Nat) (K : Nat → Nat × Nat) (F : Nat → Nat → Option Nat) (I : (Nat → Nat → Int32)) (J : (Nat → Nat → Int64)) (a0 : Nat) (a1 : Int32) (a2 : Int32) (a3 : Int64) (a4 : Int64) : Option (Int32 × (Nat → Nat → Int32) × (Nat → Nat → Int64)) :=
  xb (m5_isIn N K F I J (a1.toInt64) (0 : Int64) (2 : Int64)) fun x1 => if x1 = 0 then (some ((-2 : Int32), I, J)) else (xb (m5_isIn N K F I J (a2.toInt64) (0 : Int64) (63 : Int64)) fun x3 => if ¬ x3 = 0 then (if ¬ a1 = 0 then (m5_take_B42 N K F I J a0 a1 a2 a3 a4) else (if a0 < N ∧ K a0 = (0, 5) then (xb (F a0 26) fun q6 => if q6 < N ∧ (K q6).1 = 3 ∧ xinb a2 (K q6).2 then (if (I q6 (a2.toNatClampNeg)) = 0 then (m5_take_B42 N K F I J a0 a1 a2 a3 a4) else (some ((1 : Int32), I, J))) else none) else none)) else (some ((-2 : Int32), I, J)))
set_option maxRecDepth 100000 in
set_option maxHeartbeats 4000000 in
theorem t_m5_take_B89 {X : xX} {B d : Nat} {g : xG} {N : Nat} {K : Nat → Nat × Nat} {F : Nat → Nat → Option Nat} {rv : Int32} {I' : (Nat → Nat → Int32)} {J' : (Nat → Nat → Int64)} (hX : xO X c5_take "ChangeRowsModel" 7 B g) (hR : x_R X = xrm (d + 1) 0 0) (hr : (x_meth X).sig.returnType = (some .int)) (I : (Nat → Nat → Int32)) (J : (Nat → Nat → Int64)) (v0 : Nat) (v2 : Int32) (v5 : Int64) (w0 : Nat) (w1 : Int32) (w2 : Int32) (h : m5_take_B89 N K F I J v0 v2 v5 w0 w1 w2 = some (rv, I', J')) : xV X B 7 (xZ X B 0 0 (xq (some (.int rv)) (xP g B N K I' J' F))) 0 0 (xP g B N K I J F) 89 [(0, .ref (B + v0)), (2, .int v2), (5, .long v5)] [.int w2, .int w1, .ref (B + w0)] := by
  unfold m5_take_B89 at h
  obtain ⟨hg1, h⟩ := x_gd h
  obtain ⟨hg2, h⟩ := x_gd h
  refine x_zast hX hg1.1 (x_kd hg1.2.1) (x_in hg1.2.2) (x_nbool hg2) d5_take_89 ?_
  obtain ⟨I3, eI3, h⟩ := x_le h
  rw [← eI3]
  refine x_aload_n hX d5_take_90 rfl rfl ?_
  obtain ⟨hg4, h⟩ := x_gd h
  obtain ⟨q5, eq5, h⟩ := x_bd h
  refine x_getF (j := 27) hX xc5 hg4.1 hg4.2 (by decide) rfl eq5 kF5_75 d5_take_91 ?_
  refine x_iload_n hX d5_take_94 rfl rfl ?_
  refine x_lload hX d5_take_95 rfl ?_
  obtain ⟨hg6, h⟩ := x_gd h
  refine x_last hX hg6.1 (x_kd hg6.2.1) (x_in hg6.2.2) d5_take_97 ?_
  obtain ⟨J7, eJ7, h⟩ := x_le h
  rw [← eJ7]
  refine x_iconst (v := 0) hX d5_take_98 (by decide) ?_
  cases h
  exact x_iret hX hr d5_take_99 (fun H hP => ⟨rfl, hP⟩)
set_option maxRecDepth 100000 in
set_option maxHeartbeats 4000000 in
theorem t_m5_take_B74 {X : xX} {B d : Nat} {g : xG} {N : Nat} {K : Nat → Nat × Nat} {F : Nat → Nat → Option Nat} {rv : Int32} {I' : (Nat → Nat → Int32)} {J' : (Nat → Nat → Int64)} (hX : xO X c5_take "ChangeRowsModel" 7 B g) (hR : x_R X = xrm (d + 1) 0 0) (hr : (x_meth X).sig.returnType = (some .int)) (I : (Nat → Nat → Int32)) (J : (Nat → Nat → Int64)) (v0 : Nat) (v1 : Int32) (v2 : Int32) (v5 : Int64) (h : m5_take_B74 N K F I J v0 v1 v2 v5 = some (rv, I', J')) : xV X B 7 (xZ X B 0 0 (xq (some (.int rv)) (xP g B N K I' J' F))) 0 0 (xP g B N K I J F) 74 [(0, .ref (B + v0)), (1, .int v1), (2, .int v2), (5, .long v5)] [] := by
  unfold m5_take_B74 at h
  refine x_aload_n hX d5_take_74 rfl rfl ?_
  obtain ⟨hg1, h⟩ := x_gd h
  obtain ⟨q2, eq2, h⟩ := x_bd h
  refine x_getF (j := 26) hX xc5 hg1.1 hg1.2 (by decide) rfl eq2 kF5_72 d5_take_75 ?_
  refine x_iload_n hX d5_take_78 rfl rfl ?_
  refine x_iload_n hX d5_take_79 rfl rfl ?_
  refine x_iconst (v := 2) hX d5_take_80 (by decide) ?_
  refine x_icmp_eq (tgt := 88) hX d5_take_81 (by decide) (fun hc => ?_) (fun hc => ?_)
  · rw [if_pos hc] at h
    refine x_iconst (v := 0) hX d5_take_88 (by decide) ?_
    refine x_sub [0, 2, 3] rfl ?_
    exact t_m5_take_B89 hX hR hr _ _ _ _ _ _ _ _ h
  · rw [if_neg hc] at h
    refine x_iconst (v := 1) hX d5_take_84 (by decide) ?_
    refine x_goto (tgt := 89) hX d5_take_85 (by decide) ?_
    refine x_sub [0, 2, 3] rfl ?_
    exact t_m5_take_B89 hX hR hr _ _ _ _ _ _ _ _ h
set_option maxRecDepth 100000 in
set_option maxHeartbeats 4000000 in
theorem t_m5_take_B57 {X : xX} {B d : Nat} {g : xG} {N : Nat} {K : Nat → Nat × Nat} {F : Nat → Nat → Option Nat} {rv : Int32} {I' : (Nat → Nat → Int32)} {J' : (Nat → Nat → Int64)} (hX : xO X c5_take "ChangeRowsModel" 7 B g) (hR : x_R X = xrm (d + 1) 0 0) (hr : (x_meth X).sig.returnType = (some .int)) (I : (Nat → Nat → Int32)) (J : (Nat → Nat → Int64)) (v0 : Nat) (v1 : Int32) (v2 : Int32) (v3 : Int64) (v5 : Int64) (h : m5_take_B57 N K F I J v0 v1 v2 v3 v5 = some (rv, I', J')) : xV X B 7 (xZ X B 0 0 (xq (some (.int rv)) (xP g B N K I' J' F))) 0 0 (xP g B N K I J F) 57 [(0, .ref (B + v0)), (1, .int v1), (2, .int v2), (3, .long v3), (5, .long v5)] [] := by
  unfold m5_take_B57 at h
  refine x_iload_n hX d5_take_57 rfl rfl ?_
  refine x_if_eq (tgt := 74) hX d5_take_58 (by decide) (fun hc => ?_) (fun hc => ?_)
  · rw [if_pos hc] at h
    refine x_sub [0, 1, 2, 4] rfl ?_
    exact t_m5_take_B74 hX hR hr _ _ _ _ _ _ h
  · rw [if_neg hc] at h
    refine x_aload_n hX d5_take_61 rfl rfl ?_
    obtain ⟨hg1, h⟩ := x_gd h
    obtain ⟨q2, eq2, h⟩ := x_bd h
    refine x_getF (j := 27) hX xc5 hg1.1 hg1.2 (by decide) rfl eq2 kF5_75 d5_take_62 ?_
    refine x_iload_n hX d5_take_65 rfl rfl ?_
    obtain ⟨hg3, h⟩ := x_gd h
    refine x_lald hX hg3.1 (x_kd hg3.2.1) (x_in hg3.2.2) d5_take_66 ?_
    refine x_lload_n hX d5_take_67 rfl rfl ?_
    refine x_lif_eq (tgt := 74) hX d5_take_68 d5_take_69 (by decide) (fun hc => ?_) (fun hc => ?_)
    · rw [if_pos hc] at h
      refine x_sub [0, 1, 2, 4] rfl ?_
      exact t_m5_take_B74 hX hR hr _ _ _ _ _ _ h
    · rw [if_neg hc] at h
      refine x_iconst (v := 3) hX d5_take_72 (by decide) ?_
      cases h
      exact x_iret hX hr d5_take_73 (fun H hP => ⟨rfl, hP⟩)
set_option maxRecDepth 100000 in
set_option maxHeartbeats 4000000 in
theorem t_m5_take_B42 {X : xX} {B d : Nat} {g : xG} {N : Nat} {K : Nat → Nat × Nat} {F : Nat → Nat → Option Nat} {rv : Int32} {I' : (Nat → Nat → Int32)} {J' : (Nat → Nat → Int64)} (hX : xO X c5_take "ChangeRowsModel" 7 B g) (hR : x_R X = xrm (d + 1) 0 0) (hr : (x_meth X).sig.returnType = (some .int)) (I : (Nat → Nat → Int32)) (J : (Nat → Nat → Int64)) (v0 : Nat) (v1 : Int32) (v2 : Int32) (v3 : Int64) (v5 : Int64) (h : m5_take_B42 N K F I J v0 v1 v2 v3 v5 = some (rv, I', J')) : xV X B 7 (xZ X B 0 0 (xq (some (.int rv)) (xP g B N K I' J' F))) 0 0 (xP g B N K I J F) 42 [(0, .ref (B + v0)), (1, .int v1), (2, .int v2), (3, .long v3), (5, .long v5)] [] := by
  unfold m5_take_B42 at h
  refine x_iload_n hX d5_take_42 rfl rfl ?_
  refine x_if_eq (tgt := 57) hX d5_take_43 (by decide) (fun hc => ?_) (fun hc => ?_)
  · rw [if_pos hc] at h
    exact t_m5_take_B57 hX hR hr _ _ _ _ _ _ _ h
  · rw [if_neg hc] at h
    refine x_aload_n hX d5_take_46 rfl rfl ?_
    obtain ⟨hg1, h⟩ := x_gd h
    obtain ⟨q2, eq2, h⟩ := x_bd h
    refine x_getF (j := 26) hX xc5 hg1.1 hg1.2 (by decide) rfl eq2 kF5_72 d5_take_47 ?_
    refine x_iload_n hX d5_take_50 rfl rfl ?_
    obtain ⟨hg3, h⟩ := x_gd h
    refine x_zald hX hg3.1 (x_kd hg3.2.1) (x_in hg3.2.2) d5_take_51 ?_
    refine x_if_ne (tgt := 57) hX d5_take_52 (by decide) (fun hc => ?_) (fun hc => ?_)
    · rw [if_pos hc] at h
      exact t_m5_take_B57 hX hR hr _ _ _ _ _ _ _ h
    · rw [if_neg (x_nn hc)] at h
      refine x_iconst (v := 2) hX d5_take_55 (by decide) ?_
      cases h
      exact x_iret hX hr d5_take_56 (fun H hP => ⟨rfl, hP⟩)
set_option maxRecDepth 100000 in
set_option maxHeartbeats 4000000 in
theorem c_m5_take {l : Launch} {B d : Nat} {g : xG} {N : Nat} {K : Nat → Nat × Nat} {F : Nat → Nat → Option Nat} {I : (Nat → Nat → Int32)} {J : (Nat → Nat → Int64)} {a0 : Nat} {a1 : Int32} {a2 : Int32} {a3 : Int64} {a4 : Int64} {rv : Int32} {I' : (Nat → Nat → Int32)} {J' : (Nat → Nat → Int64)} (h : m5_take N K F I J a0 a1 a2 a3 a4 = some (rv, I', J')) : xC l g B (d + 1) 0 0 y5_take c5_take 7 (some .int) [.ref (B + a0), .int a1, .int a2, .long a3, .long a4] (xP g B N K I J F) (xq (some (.int rv)) (xP g B N K I' J' F)) := by
  refine xC_of (by decide) (Nat.le_of_ble_eq_true rfl) (fun X hl hR hr _ hX => ?_)
  refine x_sub (L' := [(0, .ref (B + a0)), (1, .int a1), (2, .int a2), (3, .long a3), (5, .long a4)]) [0, 1, 2, 3, 4] rfl ?_
  unfold m5_take at h
  refine x_iload_n hX d5_take_0 rfl rfl ?_
  refine x_i2l hX d5_take_1 ?_
  refine x_lconst (v := 0) hX d5_take_2 (by decide) ?_
  refine x_ldc2 (v := 2) hX kC5_111 d5_take_3 ?_
  obtain ⟨x1, eb2, h⟩ := x_bd h
  refine x_callS hX hR (c_m5_isIn (l := x_l X) (d := d + 0) eb2) kX5_107 kS5_isIn rfl rfl (Nat.le_of_ble_eq_true rfl) ⟨Nat.le_refl 0, Nat.le_refl 0⟩ d5_take_6 (x_kki ?_)
  refine x_if_eq (tgt := 24) hX d5_take_9 (by decide) (fun hc => ?_) (fun hc => ?_)
  · rw [if_pos hc] at h
    refine x_bipush (v := -2) hX d5_take_24 (by decide) ?_
    cases h
    exact x_iret hX hr d5_take_26 (fun H hP => ⟨rfl, hP⟩)
  · rw [if_neg hc] at h
    refine x_iload_n hX d5_take_12 rfl rfl ?_
    refine x_i2l hX d5_take_13 ?_
    refine x_lconst (v := 0) hX d5_take_14 (by decide) ?_
    refine x_ldc2 (v := 63) hX kC5_134 d5_take_15 ?_
    obtain ⟨x3, eb4, h⟩ := x_bd h
    refine x_callS hX hR (c_m5_isIn (l := x_l X) (d := d + 0) eb4) kX5_107 kS5_isIn rfl rfl (Nat.le_of_ble_eq_true rfl) ⟨Nat.le_refl 0, Nat.le_refl 0⟩ d5_take_18 (x_kki ?_)
    refine x_if_ne (tgt := 27) hX d5_take_21 (by decide) (fun hc => ?_) (fun hc => ?_)
    · rw [if_pos hc] at h
      refine x_iload_n hX d5_take_27 rfl rfl ?_
      refine x_if_ne (tgt := 42) hX d5_take_28 (by decide) (fun hc => ?_) (fun hc => ?_)
      · rw [if_pos hc] at h
        exact t_m5_take_B42 hX hR hr _ _ _ _ _ _ _ h
      · rw [if_neg (x_nn hc)] at h
        refine x_aload_n hX d5_take_31 rfl rfl ?_
        obtain ⟨hg5, h⟩ := x_gd h
        obtain ⟨q6, eq6, h⟩ := x_bd h
        refine x_getF (j := 26) hX xc5 hg5.1 hg5.2 (by decide) rfl eq6 kF5_72 d5_take_32 ?_
        refine x_iload_n hX d5_take_35 rfl rfl ?_
        obtain ⟨hg7, h⟩ := x_gd h
        refine x_zald hX hg7.1 (x_kd hg7.2.1) (x_in hg7.2.2) d5_take_36 ?_
        refine x_if_eq (tgt := 42) hX d5_take_37 (by decide) (fun hc => ?_) (fun hc => ?_)
        · rw [if_pos hc] at h
          exact t_m5_take_B42 hX hR hr _ _ _ _ _ _ _ h
        · rw [if_neg hc] at h
          refine x_iconst (v := 1) hX d5_take_40 (by decide) ?_
          cases h
          exact x_iret hX hr d5_take_41 (fun H hP => ⟨rfl, hP⟩)
    · rw [if_neg (x_nn hc)] at h
      refine x_bipush (v := -2) hX d5_take_24 (by decide) ?_
      cases h
      exact x_iret hX hr d5_take_26 (fun H hP => ⟨rfl, hP⟩)

def m5_same_L13 (N : Nat) (K : Nat → Nat × Nat) (F : Nat → Nat → Option Nat) (I : (Nat → Nat → Int32)) (J : (Nat → Nat → Int64)) : Nat → Nat → Int32 → Int32 → Option (Int32)
  | 0, _, _, _ => none
  | n + 1, v0, v1, v2 => if (64 : Int32) ≤ v2 then (some (1 : Int32)) else (xlet ((((64 : Int32) * v1) + v2)) fun x1 => if v0 < N ∧ K v0 = (0, 5) then (xb (F v0 26) fun q3 => if q3 < N ∧ (K q3).1 = 3 ∧ xinb v2 (K q3).2 then (xb (F v0 6) fun q5 => if q5 < N ∧ (K q5).1 = 3 ∧ xinb x1 (K q5).2 then (if ¬ (I q3 (v2.toNatClampNeg)) = (I q5 (x1.toNatClampNeg)) then (some (0 : Int32)) else (if (I q5 (x1.toNatClampNeg)) = 0 then (xlet (v2 + (1 : Int32)) fun x7 => m5_same_L13 N K F I J n v0 v1 x7) else (xb (F v0 27) fun q8 => if q8 < N ∧ (K q8).1 = 2 ∧ xinb v2 (K q8).2 then (xb (F v0 7) fun q10 => if q10 < N ∧ (K q10).1 = 2 ∧ xinb x1 (K q10).2 then (if (J q8 (v2.toNatClampNeg)) = (J q10 (x1.toNatClampNeg)) then (xlet (v2 + (1 : Int32)) fun x12 => m5_same_L13 N K F I J n v0 v1 x12) else (some (0 : Int32))) else none) else none))) else none) else none) else none)
def m5_same (N : Nat) (K : Nat → Nat × Nat) (F : Nat → Nat → Option Nat) (I : (Nat → Nat → Int32)) (J : (Nat → Nat → Int64)) (a0 : Nat) (a1 : Int32) : Option (Int32) :=
  if a0 < N ∧ K a0 = (0, 5) then (xb (m5_isTable N K F I J a0 a1) fun x2 => if ¬ x2 = 0 then (m5_same_L13 N K F I J xFu a0 a1 (0 : Int32)) else (some (-2 : Int32))) else none
set_option maxRecDepth 100000 in
set_option maxHeartbeats 4000000 in
theorem t_m5_same_L13 {X : xX} {B d : Nat} {g : xG} {N : Nat} {K : Nat → Nat × Nat} {F : Nat → Nat → Option Nat} {I : (Nat → Nat → Int32)} {J : (Nat → Nat → Int64)} {rv : Int32} (hX : xO X c5_same "ChangeRowsModel" 4 B g) (hR : x_R X = xrm (d + 2) 0 0) (hr : (x_meth X).sig.returnType = (some .int)) : ∀ (n : Nat) (v0 : Nat) (v1 : Int32) (v2 : Int32), m5_same_L13 N K F I J n v0 v1 v2 = some rv → xV X B 4 (xZ X B 0 0 (xq (some (.int rv)) (xP g B N K I J F))) 0 0 (xP g B N K I J F) 13 [(0, .ref (B + v0)), (1, .int v1), (2, .int v2)] [] := by
  intro n
  induction n with
  | zero =>
    intro v0 v1 v2 h
    cases h
  | succ n ih =>
    intro v0 v1 v2 h
    rw [m5_same_L13] at h
    refine x_iload_n hX d5_same_13 rfl rfl ?_
    refine x_bipush (v := 64) hX d5_same_14 (by decide) ?_
    refine x_icmp_ge (tgt := 74) hX d5_same_16 (by decide) (fun hc => ?_) (fun hc => ?_)
    · rw [if_pos hc] at h
      refine x_iconst (v := 1) hX d5_same_74 (by decide) ?_
      cases h
      exact x_iret hX hr d5_same_75 (fun H hP => ⟨rfl, hP⟩)
    · rw [if_neg hc] at h
      refine x_bipush (v := 64) hX d5_same_19 (by decide) ?_
      refine x_iload_n hX d5_same_21 rfl rfl ?_
      refine x_imul hX d5_same_22 ?_
      refine x_iload_n hX d5_same_23 rfl rfl ?_
      refine x_iadd hX d5_same_24 ?_
      obtain ⟨x1, ex1, h⟩ := x_le h
      refine x_eqi ex1.symm ?_
      refine x_istore_n hX [(3, .int x1), (0, .ref (B + v0)), (1, .int v1), (2, .int v2)] d5_same_25 rfl (by decide) rfl ?_
      refine x_aload_n hX d5_same_26 rfl rfl ?_
      obtain ⟨hg2, h⟩ := x_gd h
      obtain ⟨q3, eq3, h⟩ := x_bd h
      refine x_getF (j := 26) hX xc5 hg2.1 hg2.2 (by decide) rfl eq3 kF5_72 d5_same_27 ?_
      refine x_iload_n hX d5_same_30 rfl rfl ?_
      obtain ⟨hg4, h⟩ := x_gd h
      refine x_zald hX hg4.1 (x_kd hg4.2.1) (x_in hg4.2.2) d5_same_31 ?_
      refine x_aload_n hX d5_same_32 rfl rfl ?_
      obtain ⟨q5, eq5, h⟩ := x_bd h
      refine x_getF (j := 6) hX xc5 hg2.1 hg2.2 (by decide) rfl eq5 kF5_26 d5_same_33 ?_
      refine x_iload_n hX d5_same_36 rfl rfl ?_
      obtain ⟨hg6, h⟩ := x_gd h
      refine x_zald hX hg6.1 (x_kd hg6.2.1) (x_in hg6.2.2) d5_same_37 ?_
      refine x_icmp_ne (tgt := 66) hX d5_same_38 (by decide) (fun hc => ?_) (fun hc => ?_)
      · rw [if_pos hc] at h
        refine x_iconst (v := 0) hX d5_same_66 (by decide) ?_
        cases h
        exact x_iret hX hr d5_same_67 (fun H hP => ⟨rfl, hP⟩)
      · rw [if_neg (x_nn hc)] at h
        refine x_aload_n hX d5_same_41 rfl rfl ?_
        refine x_getF (j := 6) hX xc5 hg2.1 hg2.2 (by decide) rfl eq5 kF5_26 d5_same_42 ?_
        refine x_iload_n hX d5_same_45 rfl rfl ?_
        refine x_zald hX hg6.1 (x_kd hg6.2.1) (x_in hg6.2.2) d5_same_46 ?_
        refine x_if_eq (tgt := 68) hX d5_same_47 (by decide) (fun hc => ?_) (fun hc => ?_)
        · rw [if_pos hc] at h
          obtain ⟨x7, ex7, h⟩ := x_le h
          refine x_iinc (j := 3) hX [(2, .int x7), (3, .int x1), (0, .ref (B + v0)), (1, .int v1)] d5_same_68 rfl (by rw [ex7]; rfl) (by decide) rfl ?_
          refine x_goto (tgt := 13) hX d5_same_71 (by decide) ?_
          refine x_sub [2, 3, 0] rfl ?_
          exact ih _ _ _ h
        · rw [if_neg hc] at h
          refine x_aload_n hX d5_same_50 rfl rfl ?_
          obtain ⟨q8, eq8, h⟩ := x_bd h
          refine x_getF (j := 27) hX xc5 hg2.1 hg2.2 (by decide) rfl eq8 kF5_75 d5_same_51 ?_
          refine x_iload_n hX d5_same_54 rfl rfl ?_
          obtain ⟨hg9, h⟩ := x_gd h
          refine x_lald hX hg9.1 (x_kd hg9.2.1) (x_in hg9.2.2) d5_same_55 ?_
          refine x_aload_n hX d5_same_56 rfl rfl ?_
          obtain ⟨q10, eq10, h⟩ := x_bd h
          refine x_getF (j := 7) hX xc5 hg2.1 hg2.2 (by decide) rfl eq10 kF5_30 d5_same_57 ?_
          refine x_iload_n hX d5_same_60 rfl rfl ?_
          obtain ⟨hg11, h⟩ := x_gd h
          refine x_lald hX hg11.1 (x_kd hg11.2.1) (x_in hg11.2.2) d5_same_61 ?_
          refine x_lif_eq (tgt := 68) hX d5_same_62 d5_same_63 (by decide) (fun hc => ?_) (fun hc => ?_)
          · rw [if_pos hc] at h
            obtain ⟨x12, ex12, h⟩ := x_le h
            refine x_iinc (j := 3) hX [(2, .int x12), (3, .int x1), (0, .ref (B + v0)), (1, .int v1)] d5_same_68 rfl (by rw [ex12]; rfl) (by decide) rfl ?_
            refine x_goto (tgt := 13) hX d5_same_71 (by decide) ?_
            refine x_sub [2, 3, 0] rfl ?_
            exact ih _ _ _ h
          · rw [if_neg hc] at h
            refine x_iconst (v := 0) hX d5_same_66 (by decide) ?_
            cases h
            exact x_iret hX hr d5_same_67 (fun H hP => ⟨rfl, hP⟩)
set_option maxRecDepth 100000 in
set_option maxHeartbeats 4000000 in
theorem c_m5_same {l : Launch} {B d : Nat} {g : xG} {N : Nat} {K : Nat → Nat × Nat} {F : Nat → Nat → Option Nat} {I : (Nat → Nat → Int32)} {J : (Nat → Nat → Int64)} {a0 : Nat} {a1 : Int32} {rv : Int32} (h : m5_same N K F I J a0 a1 = some rv) : xC l g B (d + 2) 0 0 y5_same c5_same 4 (some .int) [.ref (B + a0), .int a1] (xP g B N K I J F) (xq (some (.int rv)) (xP g B N K I J F)) := by
  refine xC_of (by decide) (Nat.le_of_ble_eq_true rfl) (fun X hl hR hr _ hX => ?_)
  refine x_sub (L' := [(0, .ref (B + a0)), (1, .int a1)]) [0, 1] rfl ?_
  unfold m5_same at h
  refine x_aload_n hX d5_same_0 rfl rfl ?_
  refine x_iload_n hX d5_same_1 rfl rfl ?_
  obtain ⟨hg1, h⟩ := x_gd h
  obtain ⟨x2, eb3, h⟩ := x_bd h
  refine x_callV hX hR (c_m5_isTable (l := x_l X) (d := d + 0) eb3) kX5_143 kN5_isTable kE5_isTable xc5.1 hg1.1 hg1.2 rfl rfl (Nat.le_of_ble_eq_true rfl) ⟨Nat.le_refl 0, Nat.le_refl 0⟩ d5_same_2 (x_kki ?_)
  refine x_if_ne (tgt := 11) hX d5_same_5 (by decide) (fun hc => ?_) (fun hc => ?_)
  · rw [if_pos hc] at h
    refine x_iconst (v := 0) hX d5_same_11 (by decide) ?_
    refine x_istore_n hX [(2, .int (0 : Int32)), (0, .ref (B + a0)), (1, .int a1)] d5_same_12 rfl (by decide) rfl ?_
    refine x_sub [1, 2, 0] rfl ?_
    exact t_m5_same_L13 hX hR hr _ _ _ _ h
  · rw [if_neg (x_nn hc)] at h
    refine x_bipush (v := -2) hX d5_same_8 (by decide) ?_
    cases h
    exact x_iret hX hr d5_same_10 (fun H hP => ⟨rfl, hP⟩)

def m5_has_B13 (N : Nat) (K : Nat → Nat × Nat) (F : Nat → Nat → Option Nat) (I : (Nat → Nat → Int32)) (J : (Nat → Nat → Int64)) (v0 : Nat) (v1 : Int32) (v2 : Int32) : Option (Int32) :=
  xb (m5_isIn N K F I J (v2.toInt64) (0 : Int64) (63 : Int64)) fun x1 => if ¬ x1 = 0 then (if ¬ v1 = (-1 : Int32) then (if v0 < N ∧ K v0 = (0, 5) then (xb (F v0 6) fun q4 => if q4 < N ∧ (K q4).1 = 3 ∧ xinb (((64 : Int32) * v1) + v2) (K q4).2 then (if (I q4 ((((64 : Int32) * v1) + v2).toNatClampNeg)) = 0 then (some (0 : Int32)) else (some (1 : Int32))) else none) else none) else (if v0 < N ∧ K v0 = (0, 5) then (xb (F v0 26) fun q7 => if q7 < N ∧ (K q7).1 = 3 ∧ xinb v2 (K q7).2 then (if (I q7 (v2.toNatClampNeg)) = 0 then (some (0 : Int32)) else (some (1 : Int32))) else none) else none)) else (some (-2 : Int32))
def m5_has (N : Nat) (K : Nat → Nat × Nat) (F : Nat → Nat → Option Nat) (I : (Nat → Nat → Int32)) (J : (Nat → Nat → Int64)) (a0 : Nat) (a1 : Int32) (a2 : Int32) : Option (Int32) :=
  if a1 = (-1 : Int32) then (m5_has_B13 N K F I J a0 a1 a2) else (if a0 < N ∧ K a0 = (0, 5) then (xb (m5_isTable N K F I J a0 a1) fun x2 => if x2 = 0 then (some (-2 : Int32)) else (m5_has_B13 N K F I J a0 a1 a2)) else none)
set_option maxRecDepth 100000 in
set_option maxHeartbeats 4000000 in
theorem t_m5_has_B13 {X : xX} {B d : Nat} {g : xG} {N : Nat} {K : Nat → Nat × Nat} {F : Nat → Nat → Option Nat} {I : (Nat → Nat → Int32)} {J : (Nat → Nat → Int64)} {rv : Int32} (hX : xO X c5_has "ChangeRowsModel" 3 B g) (hR : x_R X = xrm (d + 2) 0 0) (hr : (x_meth X).sig.returnType = (some .int)) (v0 : Nat) (v1 : Int32) (v2 : Int32) (h : m5_has_B13 N K F I J v0 v1 v2 = some rv) : xV X B 3 (xZ X B 0 0 (xq (some (.int rv)) (xP g B N K I J F))) 0 0 (xP g B N K I J F) 13 [(0, .ref (B + v0)), (1, .int v1), (2, .int v2)] [] := by
  unfold m5_has_B13 at h
  refine x_iload_n hX d5_has_13 rfl rfl ?_
  refine x_i2l hX d5_has_14 ?_
  refine x_lconst (v := 0) hX d5_has_15 (by decide) ?_
  refine x_ldc2 (v := 63) hX kC5_134 d5_has_16 ?_
  obtain ⟨x1, eb2, h⟩ := x_bd h
  refine x_callS hX hR (c_m5_isIn (l := x_l X) (d := d + 1) eb2) kX5_107 kS5_isIn rfl rfl (Nat.le_of_ble_eq_true rfl) ⟨Nat.le_refl 0, Nat.le_refl 0⟩ d5_has_19 (x_kki ?_)
  refine x_if_ne (tgt := 28) hX d5_has_22 (by decide) (fun hc => ?_) (fun hc => ?_)
  · rw [if_pos hc] at h
    refine x_iload_n hX d5_has_28 rfl rfl ?_
    refine x_iconst (v := -1) hX d5_has_29 (by decide) ?_
    refine x_icmp_ne (tgt := 45) hX d5_has_30 (by decide) (fun hc => ?_) (fun hc => ?_)
    · rw [if_pos hc] at h
      refine x_aload_n hX d5_has_45 rfl rfl ?_
      obtain ⟨hg3, h⟩ := x_gd h
      obtain ⟨q4, eq4, h⟩ := x_bd h
      refine x_getF (j := 6) hX xc5 hg3.1 hg3.2 (by decide) rfl eq4 kF5_26 d5_has_46 ?_
      refine x_bipush (v := 64) hX d5_has_49 (by decide) ?_
      refine x_iload_n hX d5_has_51 rfl rfl ?_
      refine x_imul hX d5_has_52 ?_
      refine x_iload_n hX d5_has_53 rfl rfl ?_
      refine x_iadd hX d5_has_54 ?_
      obtain ⟨hg5, h⟩ := x_gd h
      refine x_zald hX hg5.1 (x_kd hg5.2.1) (x_in hg5.2.2) d5_has_55 ?_
      refine x_if_eq (tgt := 63) hX d5_has_56 (by decide) (fun hc => ?_) (fun hc => ?_)
      · rw [if_pos hc] at h
        refine x_iconst (v := 0) hX d5_has_63 (by decide) ?_
        cases h
        exact x_iret hX hr d5_has_64 (fun H hP => ⟨rfl, hP⟩)
      · rw [if_neg hc] at h
        refine x_iconst (v := 1) hX d5_has_59 (by decide) ?_
        refine x_goto (tgt := 64) hX d5_has_60 (by decide) ?_
        cases h
        exact x_iret hX hr d5_has_64 (fun H hP => ⟨rfl, hP⟩)
    · rw [if_neg (x_nn hc)] at h
      refine x_aload_n hX d5_has_33 rfl rfl ?_
      obtain ⟨hg6, h⟩ := x_gd h
      obtain ⟨q7, eq7, h⟩ := x_bd h
      refine x_getF (j := 26) hX xc5 hg6.1 hg6.2 (by decide) rfl eq7 kF5_72 d5_has_34 ?_
      refine x_iload_n hX d5_has_37 rfl rfl ?_
      obtain ⟨hg8, h⟩ := x_gd h
      refine x_zald hX hg8.1 (x_kd hg8.2.1) (x_in hg8.2.2) d5_has_38 ?_
      refine x_if_eq (tgt := 63) hX d5_has_39 (by decide) (fun hc => ?_) (fun hc => ?_)
      · rw [if_pos hc] at h
        refine x_iconst (v := 0) hX d5_has_63 (by decide) ?_
        cases h
        exact x_iret hX hr d5_has_64 (fun H hP => ⟨rfl, hP⟩)
      · rw [if_neg hc] at h
        refine x_goto (tgt := 59) hX d5_has_42 (by decide) ?_
        refine x_iconst (v := 1) hX d5_has_59 (by decide) ?_
        refine x_goto (tgt := 64) hX d5_has_60 (by decide) ?_
        cases h
        exact x_iret hX hr d5_has_64 (fun H hP => ⟨rfl, hP⟩)
  · rw [if_neg (x_nn hc)] at h
    refine x_bipush (v := -2) hX d5_has_25 (by decide) ?_
    cases h
    exact x_iret hX hr d5_has_27 (fun H hP => ⟨rfl, hP⟩)
set_option maxRecDepth 100000 in
set_option maxHeartbeats 4000000 in
theorem c_m5_has {l : Launch} {B d : Nat} {g : xG} {N : Nat} {K : Nat → Nat × Nat} {F : Nat → Nat → Option Nat} {I : (Nat → Nat → Int32)} {J : (Nat → Nat → Int64)} {a0 : Nat} {a1 : Int32} {a2 : Int32} {rv : Int32} (h : m5_has N K F I J a0 a1 a2 = some rv) : xC l g B (d + 2) 0 0 y5_has c5_has 3 (some .int) [.ref (B + a0), .int a1, .int a2] (xP g B N K I J F) (xq (some (.int rv)) (xP g B N K I J F)) := by
  refine xC_of (by decide) (Nat.le_of_ble_eq_true rfl) (fun X hl hR hr _ hX => ?_)
  refine x_sub (L' := [(0, .ref (B + a0)), (1, .int a1), (2, .int a2)]) [0, 1, 2] rfl ?_
  unfold m5_has at h
  refine x_iload_n hX d5_has_0 rfl rfl ?_
  refine x_iconst (v := -1) hX d5_has_1 (by decide) ?_
  refine x_icmp_eq (tgt := 13) hX d5_has_2 (by decide) (fun hc => ?_) (fun hc => ?_)
  · rw [if_pos hc] at h
    exact t_m5_has_B13 hX hR hr _ _ _ h
  · rw [if_neg hc] at h
    refine x_aload_n hX d5_has_5 rfl rfl ?_
    refine x_iload_n hX d5_has_6 rfl rfl ?_
    obtain ⟨hg1, h⟩ := x_gd h
    obtain ⟨x2, eb3, h⟩ := x_bd h
    refine x_callV hX hR (c_m5_isTable (l := x_l X) (d := d + 0) eb3) kX5_143 kN5_isTable kE5_isTable xc5.1 hg1.1 hg1.2 rfl rfl (Nat.le_of_ble_eq_true rfl) ⟨Nat.le_refl 0, Nat.le_refl 0⟩ d5_has_7 (x_kki ?_)
    refine x_if_eq (tgt := 25) hX d5_has_10 (by decide) (fun hc => ?_) (fun hc => ?_)
    · rw [if_pos hc] at h
      refine x_bipush (v := -2) hX d5_has_25 (by decide) ?_
      cases h
      exact x_iret hX hr d5_has_27 (fun H hP => ⟨rfl, hP⟩)
    · rw [if_neg hc] at h
      exact t_m5_has_B13 hX hR hr _ _ _ h

def m5_at (N : Nat) (K : Nat → Nat × Nat) (F : Nat → Nat → Option Nat) (I : (Nat → Nat → Int32)) (J : (Nat → Nat → Int64)) (a0 : Nat) (a1 : Int32) (a2 : Int32) : Option (Int64) :=
  if a0 < N ∧ K a0 = (0, 5) then (xb (m5_has N K F I J a0 a1 a2) fun x2 => if x2 = (1 : Int32) then (if ¬ a1 = (-1 : Int32) then (xb (F a0 7) fun q4 => if q4 < N ∧ (K q4).1 = 2 ∧ xinb (((64 : Int32) * a1) + a2) (K q4).2 then (some (J q4 ((((64 : Int32) * a1) + a2).toNatClampNeg))) else none) else (xb (F a0 27) fun q6 => if q6 < N ∧ (K q6).1 = 2 ∧ xinb a2 (K q6).2 then (some (J q6 (a2.toNatClampNeg))) else none)) else (some (0 : Int64))) else none
set_option maxRecDepth 100000 in
set_option maxHeartbeats 4000000 in
theorem c_m5_at {l : Launch} {B d : Nat} {g : xG} {N : Nat} {K : Nat → Nat × Nat} {F : Nat → Nat → Option Nat} {I : (Nat → Nat → Int32)} {J : (Nat → Nat → Int64)} {a0 : Nat} {a1 : Int32} {a2 : Int32} {rv : Int64} (h : m5_at N K F I J a0 a1 a2 = some rv) : xC l g B (d + 3) 0 0 y5_at c5_at 3 (some .long) [.ref (B + a0), .int a1, .int a2] (xP g B N K I J F) (xq (some (.long rv)) (xP g B N K I J F)) := by
  refine xC_of (by decide) (Nat.le_of_ble_eq_true rfl) (fun X hl hR hr _ hX => ?_)
  refine x_sub (L' := [(0, .ref (B + a0)), (1, .int a1), (2, .int a2)]) [0, 1, 2] rfl ?_
  unfold m5_at at h
  refine x_aload_n hX d5_at_0 rfl rfl ?_
  refine x_iload_n hX d5_at_1 rfl rfl ?_
  refine x_iload_n hX d5_at_2 rfl rfl ?_
  obtain ⟨hg1, h⟩ := x_gd h
  obtain ⟨x2, eb3, h⟩ := x_bd h
  refine x_callV hX hR (c_m5_has (l := x_l X) (d := d + 0) eb3) kX5_196 kN5_has kE5_has xc5.1 hg1.1 hg1.2 rfl rfl (Nat.le_of_ble_eq_true rfl) ⟨Nat.le_refl 0, Nat.le_refl 0⟩ d5_at_3 (x_kki ?_)
  refine x_iconst (v := 1) hX d5_at_6 (by decide) ?_
  refine x_icmp_eq (tgt := 12) hX d5_at_7 (by decide) (fun hc => ?_) (fun hc => ?_)
  · rw [if_pos hc] at h
    refine x_iload_n hX d5_at_12 rfl rfl ?_
    refine x_iconst (v := -1) hX d5_at_13 (by decide) ?_
    refine x_icmp_ne (tgt := 26) hX d5_at_14 (by decide) (fun hc => ?_) (fun hc => ?_)
    · rw [if_pos hc] at h
      refine x_aload_n hX d5_at_26 rfl rfl ?_
      obtain ⟨q4, eq4, h⟩ := x_bd h
      refine x_getF (j := 7) hX xc5 hg1.1 hg1.2 (by decide) rfl eq4 kF5_30 d5_at_27 ?_
      refine x_bipush (v := 64) hX d5_at_30 (by decide) ?_
      refine x_iload_n hX d5_at_32 rfl rfl ?_
      refine x_imul hX d5_at_33 ?_
      refine x_iload_n hX d5_at_34 rfl rfl ?_
      refine x_iadd hX d5_at_35 ?_
      obtain ⟨hg5, h⟩ := x_gd h
      refine x_lald hX hg5.1 (x_kd hg5.2.1) (x_in hg5.2.2) d5_at_36 ?_
      cases h
      exact x_lret hX hr d5_at_37 (fun H hP => ⟨rfl, hP⟩)
    · rw [if_neg (x_nn hc)] at h
      refine x_aload_n hX d5_at_17 rfl rfl ?_
      obtain ⟨q6, eq6, h⟩ := x_bd h
      refine x_getF (j := 27) hX xc5 hg1.1 hg1.2 (by decide) rfl eq6 kF5_75 d5_at_18 ?_
      refine x_iload_n hX d5_at_21 rfl rfl ?_
      obtain ⟨hg7, h⟩ := x_gd h
      refine x_lald hX hg7.1 (x_kd hg7.2.1) (x_in hg7.2.2) d5_at_22 ?_
      refine x_goto (tgt := 37) hX d5_at_23 (by decide) ?_
      cases h
      exact x_lret hX hr d5_at_37 (fun H hP => ⟨rfl, hP⟩)
  · rw [if_neg hc] at h
    refine x_lconst (v := 0) hX d5_at_10 (by decide) ?_
    cases h
    exact x_lret hX hr d5_at_11 (fun H hP => ⟨rfl, hP⟩)

def m5_of_L111 (N : Nat) (K : Nat → Nat × Nat) (F : Nat → Nat → Option Nat) (I : (Nat → Nat → Int32)) (J : (Nat → Nat → Int64)) : Nat → Nat → Int32 → Int32 → Int32 → Option (Int32)
  | 0, _, _, _, _ => none
  | n + 1, v0, v1, v3, v4 => if (64 : Int32) ≤ v4 then (some v3) else (if v0 < N ∧ K v0 = (0, 5) then (xb (F v0 6) fun q2 => if q2 < N ∧ (K q2).1 = 3 ∧ xinb (((64 : Int32) * v1) + v4) (K q2).2 then (if (I q2 ((((64 : Int32) * v1) + v4).toNatClampNeg)) = 0 then (xlet ((v3 + (0 : Int32))) fun x4 => xlet (v4 + (1 : Int32)) fun x5 => m5_of_L111 N K F I J n v0 v1 x4 x5) else (xlet ((v3 + (1 : Int32))) fun x6 => xlet (v4 + (1 : Int32)) fun x7 => m5_of_L111 N K F I J n v0 v1 x6 x7)) else none) else none)
def m5_of (N : Nat) (K : Nat → Nat × Nat) (F : Nat → Nat → Option Nat) (I : (Nat → Nat → Int32)) (J : (Nat → Nat → Int64)) (a0 : Nat) (a1 : Int32) (a2 : Int32) : Option (Int32) :=
  if a0 < N ∧ K a0 = (0, 5) then (xb (m5_isTable N K F I J a0 a1) fun x2 => if x2 = 0 then (some (-2 : Int32)) else (xb (m5_isIn N K F I J (a2.toInt64) (0 : Int64) (3 : Int64)) fun x4 => if ¬ x4 = 0 then (if ¬ a2 = 0 then (if ¬ a2 = (1 : Int32) then (if ¬ a2 = (2 : Int32) then (m5_of_L111 N K F I J xFu a0 a1 (0 : Int32) (0 : Int32)) else (xb (F a0 1) fun q6 => if q6 < N ∧ (K q6).1 = 1 ∧ xinb a1 (K q6).2 then (if (I q6 (a1.toNatClampNeg)) = (4 : Int32) then (xb (F a0 3) fun q8 => if q8 < N ∧ (K q8).1 = 1 ∧ xinb a1 (K q8).2 then (some (I q8 (a1.toNatClampNeg))) else none) else (if (I q6 (a1.toNatClampNeg)) = (5 : Int32) then (xb (F a0 3) fun q10 => if q10 < N ∧ (K q10).1 = 1 ∧ xinb a1 (K q10).2 then (some (I q10 (a1.toNatClampNeg))) else none) else (if ¬ (I q6 (a1.toNatClampNeg)) = (7 : Int32) then (some (-1 : Int32)) else (xb (F a0 3) fun q12 => if q12 < N ∧ (K q12).1 = 1 ∧ xinb a1 (K q12).2 then (some (I q12 (a1.toNatClampNeg))) else none)))) else none)) else (xb (F a0 1) fun q14 => if q14 < N ∧ (K q14).1 = 1 ∧ xinb a1 (K q14).2 then (if ¬ (I q14 (a1.toNatClampNeg)) = 0 then (xb (F a0 2) fun q16 => if q16 < N ∧ (K q16).1 = 1 ∧ xinb a1 (K q16).2 then (some (I q16 (a1.toNatClampNeg))) else none) else (some (-1 : Int32))) else none)) else (xb (F a0 1) fun q18 => if q18 < N ∧ (K q18).1 = 1 ∧ xinb a1 (K q18).2 then (some (I q18 (a1.toNatClampNeg))) else none)) else (some (-2 : Int32)))) else none
set_option maxRecDepth 100000 in
set_option maxHeartbeats 4000000 in
theorem t_m5_of_L111 {X : xX} {B d : Nat} {g : xG} {N : Nat} {K : Nat → Nat × Nat} {F : Nat → Nat → Option Nat} {I : (Nat → Nat → Int32)} {J : (Nat → Nat → Int64)} {rv : Int32} (hX : xO X c5_of "ChangeRowsModel" 5 B g) (hR : x_R X = xrm (d + 2) 0 0) (hr : (x_meth X).sig.returnType = (some .int)) : ∀ (n : Nat) (v0 : Nat) (v1 : Int32) (v3 : Int32) (v4 : Int32), m5_of_L111 N K F I J n v0 v1 v3 v4 = some rv → xV X B 5 (xZ X B 0 0 (xq (some (.int rv)) (xP g B N K I J F))) 0 0 (xP g B N K I J F) 111 [(0, .ref (B + v0)), (1, .int v1), (3, .int v3), (4, .int v4)] [] := by
  intro n
  induction n with
  | zero =>
    intro v0 v1 v3 v4 h
    cases h
  | succ n ih =>
    intro v0 v1 v3 v4 h
    rw [m5_of_L111] at h
    refine x_iload hX d5_of_111 rfl ?_
    refine x_bipush (v := 64) hX d5_of_113 (by decide) ?_
    refine x_icmp_ge (tgt := 147) hX d5_of_115 (by decide) (fun hc => ?_) (fun hc => ?_)
    · rw [if_pos hc] at h
      refine x_iload_n hX d5_of_147 rfl rfl ?_
      cases h
      exact x_iret hX hr d5_of_148 (fun H hP => ⟨rfl, hP⟩)
    · rw [if_neg hc] at h
      refine x_iload_n hX d5_of_118 rfl rfl ?_
      refine x_aload_n hX d5_of_119 rfl rfl ?_
      obtain ⟨hg1, h⟩ := x_gd h
      obtain ⟨q2, eq2, h⟩ := x_bd h
      refine x_getF (j := 6) hX xc5 hg1.1 hg1.2 (by decide) rfl eq2 kF5_26 d5_of_120 ?_
      refine x_bipush (v := 64) hX d5_of_123 (by decide) ?_
      refine x_iload_n hX d5_of_125 rfl rfl ?_
      refine x_imul hX d5_of_126 ?_
      refine x_iload hX d5_of_127 rfl ?_
      refine x_iadd hX d5_of_129 ?_
      obtain ⟨hg3, h⟩ := x_gd h
      refine x_zald hX hg3.1 (x_kd hg3.2.1) (x_in hg3.2.2) d5_of_130 ?_
      refine x_if_eq (tgt := 138) hX d5_of_131 (by decide) (fun hc => ?_) (fun hc => ?_)
      · rw [if_pos hc] at h
        refine x_iconst (v := 0) hX d5_of_138 (by decide) ?_
        refine x_iadd hX d5_of_139 ?_
        obtain ⟨x4, ex4, h⟩ := x_le h
        refine x_eqi ex4.symm ?_
        refine x_istore_n hX [(3, .int x4), (0, .ref (B + v0)), (1, .int v1), (4, .int v4)] d5_of_140 rfl (by decide) rfl ?_
        obtain ⟨x5, ex5, h⟩ := x_le h
        refine x_iinc (j := 3) hX [(4, .int x5), (3, .int x4), (0, .ref (B + v0)), (1, .int v1)] d5_of_141 rfl (by rw [ex5]; rfl) (by decide) rfl ?_
        refine x_goto (tgt := 111) hX d5_of_144 (by decide) ?_
        refine x_sub [2, 3, 1, 0] rfl ?_
        exact ih _ _ _ _ h
      · rw [if_neg hc] at h
        refine x_iconst (v := 1) hX d5_of_134 (by decide) ?_
        refine x_goto (tgt := 139) hX d5_of_135 (by decide) ?_
        refine x_iadd hX d5_of_139 ?_
        obtain ⟨x6, ex6, h⟩ := x_le h
        refine x_eqi ex6.symm ?_
        refine x_istore_n hX [(3, .int x6), (0, .ref (B + v0)), (1, .int v1), (4, .int v4)] d5_of_140 rfl (by decide) rfl ?_
        obtain ⟨x7, ex7, h⟩ := x_le h
        refine x_iinc (j := 3) hX [(4, .int x7), (3, .int x6), (0, .ref (B + v0)), (1, .int v1)] d5_of_141 rfl (by rw [ex7]; rfl) (by decide) rfl ?_
        refine x_goto (tgt := 111) hX d5_of_144 (by decide) ?_
        refine x_sub [2, 3, 1, 0] rfl ?_
        exact ih _ _ _ _ h
set_option maxRecDepth 100000 in
set_option maxHeartbeats 4000000 in
theorem c_m5_of {l : Launch} {B d : Nat} {g : xG} {N : Nat} {K : Nat → Nat × Nat} {F : Nat → Nat → Option Nat} {I : (Nat → Nat → Int32)} {J : (Nat → Nat → Int64)} {a0 : Nat} {a1 : Int32} {a2 : Int32} {rv : Int32} (h : m5_of N K F I J a0 a1 a2 = some rv) : xC l g B (d + 2) 0 0 y5_of c5_of 5 (some .int) [.ref (B + a0), .int a1, .int a2] (xP g B N K I J F) (xq (some (.int rv)) (xP g B N K I J F)) := by
  refine xC_of (by decide) (Nat.le_of_ble_eq_true rfl) (fun X hl hR hr _ hX => ?_)
  refine x_sub (L' := [(0, .ref (B + a0)), (1, .int a1), (2, .int a2)]) [0, 1, 2] rfl ?_
  unfold m5_of at h
  refine x_aload_n hX d5_of_0 rfl rfl ?_
  refine x_iload_n hX d5_of_1 rfl rfl ?_
  obtain ⟨hg1, h⟩ := x_gd h
  obtain ⟨x2, eb3, h⟩ := x_bd h
  refine x_callV hX hR (c_m5_isTable (l := x_l X) (d := d + 0) eb3) kX5_143 kN5_isTable kE5_isTable xc5.1 hg1.1 hg1.2 rfl rfl (Nat.le_of_ble_eq_true rfl) ⟨Nat.le_refl 0, Nat.le_refl 0⟩ d5_of_2 (x_kki ?_)
  refine x_if_eq (tgt := 20) hX d5_of_5 (by decide) (fun hc => ?_) (fun hc => ?_)
  · rw [if_pos hc] at h
    refine x_bipush (v := -2) hX d5_of_20 (by decide) ?_
    cases h
    exact x_iret hX hr d5_of_22 (fun H hP => ⟨rfl, hP⟩)
  · rw [if_neg hc] at h
    refine x_iload_n hX d5_of_8 rfl rfl ?_
    refine x_i2l hX d5_of_9 ?_
    refine x_lconst (v := 0) hX d5_of_10 (by decide) ?_
    refine x_ldc2 (v := 3) hX kC5_113 d5_of_11 ?_
    obtain ⟨x4, eb5, h⟩ := x_bd h
    refine x_callS hX hR (c_m5_isIn (l := x_l X) (d := d + 1) eb5) kX5_107 kS5_isIn rfl rfl (Nat.le_of_ble_eq_true rfl) ⟨Nat.le_refl 0, Nat.le_refl 0⟩ d5_of_14 (x_kki ?_)
    refine x_if_ne (tgt := 23) hX d5_of_17 (by decide) (fun hc => ?_) (fun hc => ?_)
    · rw [if_pos hc] at h
      refine x_iload_n hX d5_of_23 rfl rfl ?_
      refine x_if_ne (tgt := 34) hX d5_of_24 (by decide) (fun hc => ?_) (fun hc => ?_)
      · rw [if_pos hc] at h
        refine x_iload_n hX d5_of_34 rfl rfl ?_
        refine x_iconst (v := 1) hX d5_of_35 (by decide) ?_
        refine x_icmp_ne (tgt := 59) hX d5_of_36 (by decide) (fun hc => ?_) (fun hc => ?_)
        · rw [if_pos hc] at h
          refine x_iload_n hX d5_of_59 rfl rfl ?_
          refine x_iconst (v := 2) hX d5_of_60 (by decide) ?_
          refine x_icmp_ne (tgt := 106) hX d5_of_61 (by decide) (fun hc => ?_) (fun hc => ?_)
          · rw [if_pos hc] at h
            refine x_iconst (v := 0) hX d5_of_106 (by decide) ?_
            refine x_istore_n hX [(3, .int (0 : Int32)), (0, .ref (B + a0)), (1, .int a1), (2, .int a2)] d5_of_107 rfl (by decide) rfl ?_
            refine x_iconst (v := 0) hX d5_of_108 (by decide) ?_
            refine x_istore hX [(4, .int (0 : Int32)), (3, .int (0 : Int32)), (0, .ref (B + a0)), (1, .int a1), (2, .int a2)] d5_of_109 (by decide) rfl ?_
            refine x_sub [2, 3, 1, 0] rfl ?_
            exact t_m5_of_L111 hX hR hr _ _ _ _ _ h
          · rw [if_neg (x_nn hc)] at h
            refine x_aload_n hX d5_of_64 rfl rfl ?_
            obtain ⟨q6, eq6, h⟩ := x_bd h
            refine x_getF (j := 1) hX xc5 hg1.1 hg1.2 (by decide) rfl eq6 kF5_7 d5_of_65 ?_
            refine x_iload_n hX d5_of_68 rfl rfl ?_
            obtain ⟨hg7, h⟩ := x_gd h
            refine x_iald hX hg7.1 (x_kd hg7.2.1) (x_in hg7.2.2) d5_of_69 ?_
            refine x_iconst (v := 4) hX d5_of_70 (by decide) ?_
            refine x_icmp_eq (tgt := 95) hX d5_of_71 (by decide) (fun hc => ?_) (fun hc => ?_)
            · rw [if_pos hc] at h
              refine x_aload_n hX d5_of_95 rfl rfl ?_
              obtain ⟨q8, eq8, h⟩ := x_bd h
              refine x_getF (j := 3) hX xc5 hg1.1 hg1.2 (by decide) rfl eq8 kF5_16 d5_of_96 ?_
              refine x_iload_n hX d5_of_99 rfl rfl ?_
              obtain ⟨hg9, h⟩ := x_gd h
              refine x_iald hX hg9.1 (x_kd hg9.2.1) (x_in hg9.2.2) d5_of_100 ?_
              refine x_goto (tgt := 105) hX d5_of_101 (by decide) ?_
              cases h
              exact x_iret hX hr d5_of_105 (fun H hP => ⟨rfl, hP⟩)
            · rw [if_neg hc] at h
              refine x_aload_n hX d5_of_74 rfl rfl ?_
              refine x_getF (j := 1) hX xc5 hg1.1 hg1.2 (by decide) rfl eq6 kF5_7 d5_of_75 ?_
              refine x_iload_n hX d5_of_78 rfl rfl ?_
              refine x_iald hX hg7.1 (x_kd hg7.2.1) (x_in hg7.2.2) d5_of_79 ?_
              refine x_iconst (v := 5) hX d5_of_80 (by decide) ?_
              refine x_icmp_eq (tgt := 95) hX d5_of_81 (by decide) (fun hc => ?_) (fun hc => ?_)
              · rw [if_pos hc] at h
                refine x_aload_n hX d5_of_95 rfl rfl ?_
                obtain ⟨q10, eq10, h⟩ := x_bd h
                refine x_getF (j := 3) hX xc5 hg1.1 hg1.2 (by decide) rfl eq10 kF5_16 d5_of_96 ?_
                refine x_iload_n hX d5_of_99 rfl rfl ?_
                obtain ⟨hg11, h⟩ := x_gd h
                refine x_iald hX hg11.1 (x_kd hg11.2.1) (x_in hg11.2.2) d5_of_100 ?_
                refine x_goto (tgt := 105) hX d5_of_101 (by decide) ?_
                cases h
                exact x_iret hX hr d5_of_105 (fun H hP => ⟨rfl, hP⟩)
              · rw [if_neg hc] at h
                refine x_aload_n hX d5_of_84 rfl rfl ?_
                refine x_getF (j := 1) hX xc5 hg1.1 hg1.2 (by decide) rfl eq6 kF5_7 d5_of_85 ?_
                refine x_iload_n hX d5_of_88 rfl rfl ?_
                refine x_iald hX hg7.1 (x_kd hg7.2.1) (x_in hg7.2.2) d5_of_89 ?_
                refine x_bipush (v := 7) hX d5_of_90 (by decide) ?_
                refine x_icmp_ne (tgt := 104) hX d5_of_92 (by decide) (fun hc => ?_) (fun hc => ?_)
                · rw [if_pos hc] at h
                  refine x_iconst (v := -1) hX d5_of_104 (by decide) ?_
                  cases h
                  exact x_iret hX hr d5_of_105 (fun H hP => ⟨rfl, hP⟩)
                · rw [if_neg (x_nn hc)] at h
                  refine x_aload_n hX d5_of_95 rfl rfl ?_
                  obtain ⟨q12, eq12, h⟩ := x_bd h
                  refine x_getF (j := 3) hX xc5 hg1.1 hg1.2 (by decide) rfl eq12 kF5_16 d5_of_96 ?_
                  refine x_iload_n hX d5_of_99 rfl rfl ?_
                  obtain ⟨hg13, h⟩ := x_gd h
                  refine x_iald hX hg13.1 (x_kd hg13.2.1) (x_in hg13.2.2) d5_of_100 ?_
                  refine x_goto (tgt := 105) hX d5_of_101 (by decide) ?_
                  cases h
                  exact x_iret hX hr d5_of_105 (fun H hP => ⟨rfl, hP⟩)
        · rw [if_neg (x_nn hc)] at h
          refine x_aload_n hX d5_of_39 rfl rfl ?_
          obtain ⟨q14, eq14, h⟩ := x_bd h
          refine x_getF (j := 1) hX xc5 hg1.1 hg1.2 (by decide) rfl eq14 kF5_7 d5_of_40 ?_
          refine x_iload_n hX d5_of_43 rfl rfl ?_
          obtain ⟨hg15, h⟩ := x_gd h
          refine x_iald hX hg15.1 (x_kd hg15.2.1) (x_in hg15.2.2) d5_of_44 ?_
          refine x_if_ne (tgt := 52) hX d5_of_45 (by decide) (fun hc => ?_) (fun hc => ?_)
          · rw [if_pos hc] at h
            refine x_aload_n hX d5_of_52 rfl rfl ?_
            obtain ⟨q16, eq16, h⟩ := x_bd h
            refine x_getF (j := 2) hX xc5 hg1.1 hg1.2 (by decide) rfl eq16 kF5_13 d5_of_53 ?_
            refine x_iload_n hX d5_of_56 rfl rfl ?_
            obtain ⟨hg17, h⟩ := x_gd h
            refine x_iald hX hg17.1 (x_kd hg17.2.1) (x_in hg17.2.2) d5_of_57 ?_
            cases h
            exact x_iret hX hr d5_of_58 (fun H hP => ⟨rfl, hP⟩)
          · rw [if_neg (x_nn hc)] at h
            refine x_iconst (v := -1) hX d5_of_48 (by decide) ?_
            refine x_goto (tgt := 58) hX d5_of_49 (by decide) ?_
            cases h
            exact x_iret hX hr d5_of_58 (fun H hP => ⟨rfl, hP⟩)
      · rw [if_neg (x_nn hc)] at h
        refine x_aload_n hX d5_of_27 rfl rfl ?_
        obtain ⟨q18, eq18, h⟩ := x_bd h
        refine x_getF (j := 1) hX xc5 hg1.1 hg1.2 (by decide) rfl eq18 kF5_7 d5_of_28 ?_
        refine x_iload_n hX d5_of_31 rfl rfl ?_
        obtain ⟨hg19, h⟩ := x_gd h
        refine x_iald hX hg19.1 (x_kd hg19.2.1) (x_in hg19.2.2) d5_of_32 ?_
        cases h
        exact x_iret hX hr d5_of_33 (fun H hP => ⟨rfl, hP⟩)
    · rw [if_neg (x_nn hc)] at h
      refine x_bipush (v := -2) hX d5_of_20 (by decide) ?_
      cases h
      exact x_iret hX hr d5_of_22 (fun H hP => ⟨rfl, hP⟩)

def m5_count_L39 (N : Nat) (K : Nat → Nat × Nat) (F : Nat → Nat → Option Nat) (I : (Nat → Nat → Int32)) (J : (Nat → Nat → Int64)) : Nat → Nat → Int32 → Int32 → Option (Int32)
  | 0, _, _, _ => none
  | n + 1, v0, v2, v3 => if (64 : Int32) ≤ v3 then (some v2) else (if v0 < N ∧ K v0 = (0, 5) then (xb (F v0 26) fun q2 => if q2 < N ∧ (K q2).1 = 3 ∧ xinb v3 (K q2).2 then (if (I q2 (v3.toNatClampNeg)) = 0 then (xlet ((v2 + (0 : Int32))) fun x4 => xlet (v3 + (1 : Int32)) fun x5 => m5_count_L39 N K F I J n v0 x4 x5) else (xlet ((v2 + (1 : Int32))) fun x6 => xlet (v3 + (1 : Int32)) fun x7 => m5_count_L39 N K F I J n v0 x6 x7)) else none) else none)
def m5_count (N : Nat) (K : Nat → Nat × Nat) (F : Nat → Nat → Option Nat) (I : (Nat → Nat → Int32)) (J : (Nat → Nat → Int64)) (a0 : Nat) (a1 : Int32) : Option (Int32) :=
  if ¬ a1 = 0 then (if ¬ a1 = (1 : Int32) then (if ¬ a1 = (2 : Int32) then (some (-2 : Int32)) else (m5_count_L39 N K F I J xFu a0 (0 : Int32) (0 : Int32))) else (if a0 < N ∧ K a0 = (0, 5) then (if (I a0 20) = 0 then (some (-1 : Int32)) else (some (I a0 21))) else none)) else (if a0 < N ∧ K a0 = (0, 5) then (some (I a0 0)) else none)
set_option maxRecDepth 100000 in
set_option maxHeartbeats 4000000 in
theorem t_m5_count_L39 {X : xX} {B d : Nat} {g : xG} {N : Nat} {K : Nat → Nat × Nat} {F : Nat → Nat → Option Nat} {I : (Nat → Nat → Int32)} {J : (Nat → Nat → Int64)} {rv : Int32} (hX : xO X c5_count "ChangeRowsModel" 4 B g) (hR : x_R X = xrm (d + 0) 0 0) (hr : (x_meth X).sig.returnType = (some .int)) : ∀ (n : Nat) (v0 : Nat) (v2 : Int32) (v3 : Int32), m5_count_L39 N K F I J n v0 v2 v3 = some rv → xV X B 4 (xZ X B 0 0 (xq (some (.int rv)) (xP g B N K I J F))) 0 0 (xP g B N K I J F) 39 [(0, .ref (B + v0)), (2, .int v2), (3, .int v3)] [] := by
  intro n
  induction n with
  | zero =>
    intro v0 v2 v3 h
    cases h
  | succ n ih =>
    intro v0 v2 v3 h
    rw [m5_count_L39] at h
    refine x_iload_n hX d5_count_39 rfl rfl ?_
    refine x_bipush (v := 64) hX d5_count_40 (by decide) ?_
    refine x_icmp_ge (tgt := 68) hX d5_count_42 (by decide) (fun hc => ?_) (fun hc => ?_)
    · rw [if_pos hc] at h
      refine x_iload_n hX d5_count_68 rfl rfl ?_
      cases h
      exact x_iret hX hr d5_count_69 (fun H hP => ⟨rfl, hP⟩)
    · rw [if_neg hc] at h
      refine x_iload_n hX d5_count_45 rfl rfl ?_
      refine x_aload_n hX d5_count_46 rfl rfl ?_
      obtain ⟨hg1, h⟩ := x_gd h
      obtain ⟨q2, eq2, h⟩ := x_bd h
      refine x_getF (j := 26) hX xc5 hg1.1 hg1.2 (by decide) rfl eq2 kF5_72 d5_count_47 ?_
      refine x_iload_n hX d5_count_50 rfl rfl ?_
      obtain ⟨hg3, h⟩ := x_gd h
      refine x_zald hX hg3.1 (x_kd hg3.2.1) (x_in hg3.2.2) d5_count_51 ?_
      refine x_if_eq (tgt := 59) hX d5_count_52 (by decide) (fun hc => ?_) (fun hc => ?_)
      · rw [if_pos hc] at h
        refine x_iconst (v := 0) hX d5_count_59 (by decide) ?_
        refine x_iadd hX d5_count_60 ?_
        obtain ⟨x4, ex4, h⟩ := x_le h
        refine x_eqi ex4.symm ?_
        refine x_istore_n hX [(2, .int x4), (0, .ref (B + v0)), (3, .int v3)] d5_count_61 rfl (by decide) rfl ?_
        obtain ⟨x5, ex5, h⟩ := x_le h
        refine x_iinc (j := 2) hX [(3, .int x5), (2, .int x4), (0, .ref (B + v0))] d5_count_62 rfl (by rw [ex5]; rfl) (by decide) rfl ?_
        refine x_goto (tgt := 39) hX d5_count_65 (by decide) ?_
        refine x_sub [2, 1, 0] rfl ?_
        exact ih _ _ _ h
      · rw [if_neg hc] at h
        refine x_iconst (v := 1) hX d5_count_55 (by decide) ?_
        refine x_goto (tgt := 60) hX d5_count_56 (by decide) ?_
        refine x_iadd hX d5_count_60 ?_
        obtain ⟨x6, ex6, h⟩ := x_le h
        refine x_eqi ex6.symm ?_
        refine x_istore_n hX [(2, .int x6), (0, .ref (B + v0)), (3, .int v3)] d5_count_61 rfl (by decide) rfl ?_
        obtain ⟨x7, ex7, h⟩ := x_le h
        refine x_iinc (j := 2) hX [(3, .int x7), (2, .int x6), (0, .ref (B + v0))] d5_count_62 rfl (by rw [ex7]; rfl) (by decide) rfl ?_
        refine x_goto (tgt := 39) hX d5_count_65 (by decide) ?_
        refine x_sub [2, 1, 0] rfl ?_
        exact ih _ _ _ h
set_option maxRecDepth 100000 in
set_option maxHeartbeats 4000000 in
theorem c_m5_count {l : Launch} {B d : Nat} {g : xG} {N : Nat} {K : Nat → Nat × Nat} {F : Nat → Nat → Option Nat} {I : (Nat → Nat → Int32)} {J : (Nat → Nat → Int64)} {a0 : Nat} {a1 : Int32} {rv : Int32} (h : m5_count N K F I J a0 a1 = some rv) : xC l g B (d + 0) 0 0 y5_count c5_count 4 (some .int) [.ref (B + a0), .int a1] (xP g B N K I J F) (xq (some (.int rv)) (xP g B N K I J F)) := by
  refine xC_of (by decide) (Nat.le_of_ble_eq_true rfl) (fun X hl hR hr _ hX => ?_)
  refine x_sub (L' := [(0, .ref (B + a0)), (1, .int a1)]) [0, 1] rfl ?_
  unfold m5_count at h
  refine x_iload_n hX d5_count_0 rfl rfl ?_
  refine x_if_ne (tgt := 9) hX d5_count_1 (by decide) (fun hc => ?_) (fun hc => ?_)
  · rw [if_pos hc] at h
    refine x_iload_n hX d5_count_9 rfl rfl ?_
    refine x_iconst (v := 1) hX d5_count_10 (by decide) ?_
    refine x_icmp_ne (tgt := 30) hX d5_count_11 (by decide) (fun hc => ?_) (fun hc => ?_)
    · rw [if_pos hc] at h
      refine x_iload_n hX d5_count_30 rfl rfl ?_
      refine x_iconst (v := 2) hX d5_count_31 (by decide) ?_
      refine x_icmp_ne (tgt := 70) hX d5_count_32 (by decide) (fun hc => ?_) (fun hc => ?_)
      · rw [if_pos hc] at h
        refine x_bipush (v := -2) hX d5_count_70 (by decide) ?_
        cases h
        exact x_iret hX hr d5_count_72 (fun H hP => ⟨rfl, hP⟩)
      · rw [if_neg (x_nn hc)] at h
        refine x_iconst (v := 0) hX d5_count_35 (by decide) ?_
        refine x_istore_n hX [(2, .int (0 : Int32)), (0, .ref (B + a0)), (1, .int a1)] d5_count_36 rfl (by decide) rfl ?_
        refine x_iconst (v := 0) hX d5_count_37 (by decide) ?_
        refine x_istore_n hX [(3, .int (0 : Int32)), (2, .int (0 : Int32)), (0, .ref (B + a0)), (1, .int a1)] d5_count_38 rfl (by decide) rfl ?_
        refine x_sub [2, 1, 0] rfl ?_
        exact t_m5_count_L39 hX hR hr _ _ _ _ h
    · rw [if_neg (x_nn hc)] at h
      refine x_aload_n hX d5_count_14 rfl rfl ?_
      obtain ⟨hg1, h⟩ := x_gd h
      refine x_getI (j := 20) hX xc5 hg1.1 hg1.2 (by decide) rfl kF5_100 d5_count_15 ?_
      refine x_if_eq (tgt := 28) hX d5_count_18 (by decide) (fun hc => ?_) (fun hc => ?_)
      · rw [if_pos hc] at h
        refine x_iconst (v := -1) hX d5_count_28 (by decide) ?_
        cases h
        exact x_iret hX hr d5_count_29 (fun H hP => ⟨rfl, hP⟩)
      · rw [if_neg hc] at h
        refine x_aload_n hX d5_count_21 rfl rfl ?_
        refine x_getI (j := 21) hX xc5 hg1.1 hg1.2 (by decide) rfl kF5_104 d5_count_22 ?_
        refine x_goto (tgt := 29) hX d5_count_25 (by decide) ?_
        cases h
        exact x_iret hX hr d5_count_29 (fun H hP => ⟨rfl, hP⟩)
  · rw [if_neg (x_nn hc)] at h
    refine x_aload_n hX d5_count_4 rfl rfl ?_
    obtain ⟨hg2, h⟩ := x_gd h
    refine x_getI (j := 0) hX xc5 hg2.1 hg2.2 (by decide) rfl kF5_87 d5_count_5 ?_
    cases h
    exact x_iret hX hr d5_count_8 (fun H hP => ⟨rfl, hP⟩)
