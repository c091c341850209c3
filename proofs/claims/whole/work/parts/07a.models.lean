def m1_close (N : Nat) (K : Nat → Nat × Nat) (F : Nat → Nat → Option Nat) (I : (Nat → Nat → Int32)) (J : (Nat → Nat → Int64)) (a0 : Nat) : Option ((Nat → Nat → Int32)) :=
  if a0 < N ∧ K a0 = (0, 1) then (xlet (xu I a0 0 (0 : Int32)) fun I2 => some I2) else none
set_option maxRecDepth 100000 in
set_option maxHeartbeats 4000000 in
theorem c_m1_close {l : Launch} {B d : Nat} {g : xG} {N : Nat} {K : Nat → Nat × Nat} {F : Nat → Nat → Option Nat} {I : (Nat → Nat → Int32)} {J : (Nat → Nat → Int64)} {a0 : Nat} {I' : (Nat → Nat → Int32)} (h : m1_close N K F I J a0 = some I') : xC l g B (d + 0) 0 0 y1_close c1_close 1 none [.ref (B + a0)] (xP g B N K I J F) (xq none (xP g B N K I' J F)) := by
  refine xC_of (by decide) (Nat.le_of_ble_eq_true rfl) (fun X hl hR hr _ hX => ?_)
  refine x_sub (L' := [(0, .ref (B + a0))]) [0] rfl ?_
  unfold m1_close at h
  refine x_aload_n hX d1_close_0 rfl rfl ?_
  refine x_iconst (v := 0) hX d1_close_1 (by decide) ?_
  obtain ⟨hg1, h⟩ := x_gd h
  refine x_putI (j := 0) hX xc1 hg1.1 hg1.2 (by decide) rfl kF1_9 (Or.inl rfl) rfl rfl d1_close_2 ?_
  obtain ⟨I2, eI2, h⟩ := x_le h
  rw [← eI2]
  cases h
  exact x_vret hX hr d1_close_5 (fun H hP => ⟨rfl, hP⟩)

def m2_reset (N : Nat) (K : Nat → Nat × Nat) (F : Nat → Nat → Option Nat) (I : (Nat → Nat → Int32)) (J : (Nat → Nat → Int64)) (a0 : Nat) : Option ((Nat → Nat → Int32)) :=
  if a0 < N ∧ K a0 = (0, 2) then (xlet (xu I a0 0 (0 : Int32)) fun I2 => some I2) else none
set_option maxRecDepth 100000 in
set_option maxHeartbeats 4000000 in
theorem c_m2_reset {l : Launch} {B d : Nat} {g : xG} {N : Nat} {K : Nat → Nat × Nat} {F : Nat → Nat → Option Nat} {I : (Nat → Nat → Int32)} {J : (Nat → Nat → Int64)} {a0 : Nat} {I' : (Nat → Nat → Int32)} (h : m2_reset N K F I J a0 = some I') : xC l g B (d + 0) 0 0 y2_reset c2_reset 1 none [.ref (B + a0)] (xP g B N K I J F) (xq none (xP g B N K I' J F)) := by
  refine xC_of (by decide) (Nat.le_of_ble_eq_true rfl) (fun X hl hR hr _ hX => ?_)
  refine x_sub (L' := [(0, .ref (B + a0))]) [0] rfl ?_
  unfold m2_reset at h
  refine x_aload_n hX d2_reset_0 rfl rfl ?_
  refine x_iconst (v := 0) hX d2_reset_1 (by decide) ?_
  obtain ⟨hg1, h⟩ := x_gd h
  refine x_putI (j := 0) hX xc2 hg1.1 hg1.2 (by decide) rfl kF2_9 (Or.inl rfl) rfl rfl d2_reset_2 ?_
  obtain ⟨I2, eI2, h⟩ := x_le h
  rw [← eI2]
  cases h
  exact x_vret hX hr d2_reset_5 (fun H hP => ⟨rfl, hP⟩)

def mA_fill_L6 (N : Nat) (K : Nat → Nat × Nat) (F : Nat → Nat → Option Nat) (I : (Nat → Nat → Int32)) : Nat → (Nat → Nat → Int64) → Nat → Int64 → Int32 → Int32 → Option ((Nat → Nat → Int64))
  | 0, _, _, _, _, _ => none
  | n + 1, J, v0, v1, v3, v4 => if v4 ≤ v3 then (some J) else (if v0 < N ∧ (K v0).1 = 2 ∧ xinb v3 (K v0).2 then (xlet (xu J v0 (v3.toNatClampNeg) v1) fun J2 => xlet (v3 + (1 : Int32)) fun x3 => mA_fill_L6 N K F I n J2 v0 v1 x3 v4) else none)
def mA_fill (N : Nat) (K : Nat → Nat × Nat) (F : Nat → Nat → Option Nat) (I : (Nat → Nat → Int32)) (J : (Nat → Nat → Int64)) (a0 : Nat) (a1 : Int64) : Option ((Nat → Nat → Int64)) :=
  if a0 < N ∧ (K a0).1 = 2 then (xlet ((nI (K a0).2)) fun x2 => mA_fill_L6 N K F I xFu J a0 a1 (0 : Int32) x2) else none
set_option maxRecDepth 100000 in
set_option maxHeartbeats 4000000 in
theorem t_mA_fill_L6 {X : xX} {B d : Nat} {g : xG} {N : Nat} {K : Nat → Nat × Nat} {F : Nat → Nat → Option Nat} {I : (Nat → Nat → Int32)} {J' : (Nat → Nat → Int64)} (hX : xO X cA_fill "java/util/Arrays" 5 B g) (hR : x_R X = xrm (d + 0) 0 0) (hr : (x_meth X).sig.returnType = none) : ∀ (n : Nat) (J : (Nat → Nat → Int64)) (v0 : Nat) (v1 : Int64) (v3 : Int32) (v4 : Int32), mA_fill_L6 N K F I n J v0 v1 v3 v4 = some J' → xV X B 5 (xZ X B 0 0 (xq none (xP g B N K I J' F))) 0 0 (xP g B N K I J F) 6 [(0, .ref (B + v0)), (1, .long v1), (3, .int v3), (4, .int v4)] [] := by
  intro n
  induction n with
  | zero =>
    intro J v0 v1 v3 v4 h
    cases h
  | succ n ih =>
    intro J v0 v1 v3 v4 h
    rw [mA_fill_L6] at h
    refine x_iload_n hX dA_fill_6 rfl rfl ?_
    refine x_iload hX dA_fill_7 rfl ?_
    refine x_icmp_ge (tgt := 22) hX dA_fill_9 (by decide) (fun hc => ?_) (fun hc => ?_)
    · rw [if_pos hc] at h
      cases h
      exact x_vret hX hr dA_fill_22 (fun H hP => ⟨rfl, hP⟩)
    · rw [if_neg hc] at h
      refine x_aload_n hX dA_fill_12 rfl rfl ?_
      refine x_iload_n hX dA_fill_13 rfl rfl ?_
      refine x_lload_n hX dA_fill_14 rfl rfl ?_
      obtain ⟨hg1, h⟩ := x_gd h
      refine x_last hX hg1.1 (x_kd hg1.2.1) (x_in hg1.2.2) dA_fill_15 ?_
      obtain ⟨J2, eJ2, h⟩ := x_le h
      rw [← eJ2]
      obtain ⟨x3, ex3, h⟩ := x_le h
      refine x_iinc (j := 2) hX [(3, .int x3), (0, .ref (B + v0)), (1, .long v1), (4, .int v4)] dA_fill_16 rfl (by rw [ex3]; rfl) (by decide) rfl ?_
      refine x_goto (tgt := 6) hX dA_fill_19 (by decide) ?_
      refine x_sub [1, 2, 0, 3] rfl ?_
      exact ih _ _ _ _ _ h
set_option maxRecDepth 100000 in
set_option maxHeartbeats 4000000 in
theorem c_mA_fill {l : Launch} {B d : Nat} {g : xG} {N : Nat} {K : Nat → Nat × Nat} {F : Nat → Nat → Option Nat} {I : (Nat → Nat → Int32)} {J : (Nat → Nat → Int64)} {a0 : Nat} {a1 : Int64} {J' : (Nat → Nat → Int64)} (h : mA_fill N K F I J a0 a1 = some J') : xC l g B (d + 0) 0 0 yA_fill cA_fill 5 none [.ref (B + a0), .long a1] (xP g B N K I J F) (xq none (xP g B N K I J' F)) := by
  refine xC_of (by decide) (Nat.le_of_ble_eq_true rfl) (fun X hl hR hr _ hX => ?_)
  refine x_sub (L' := [(0, .ref (B + a0)), (1, .long a1)]) [0, 1] rfl ?_
  unfold mA_fill at h
  refine x_iconst (v := 0) hX dA_fill_0 (by decide) ?_
  refine x_istore_n hX [(3, .int (0 : Int32)), (0, .ref (B + a0)), (1, .long a1)] dA_fill_1 rfl (by decide) rfl ?_
  refine x_aload_n hX dA_fill_2 rfl rfl ?_
  obtain ⟨hg1, h⟩ := x_gd h
  refine x_alen (t := 1) hX hg1.1 (x_kd hg1.2) (by decide) dA_fill_3 ?_
  obtain ⟨x2, ex2, h⟩ := x_le h
  refine x_eqi ex2.symm ?_
  refine x_istore hX [(4, .int x2), (3, .int (0 : Int32)), (0, .ref (B + a0)), (1, .long a1)] dA_fill_4 (by decide) rfl ?_
  refine x_sub [2, 3, 1, 0] rfl ?_
  exact t_mA_fill_L6 hX hR hr _ _ _ _ _ _ h

def m3_reset (N : Nat) (K : Nat → Nat × Nat) (F : Nat → Nat → Option Nat) (I : (Nat → Nat → Int32)) (J : (Nat → Nat → Int64)) (a0 : Nat) : Option ((Nat → Nat → Int64)) :=
  if a0 < N ∧ K a0 = (0, 3) then (xlet (xu J a0 0 (0 : Int64)) fun J2 => xb (F a0 1) fun q3 => xb (mA_fill N K F I J2 q3 (0 : Int64)) fun J4 => some J4) else none
set_option maxRecDepth 100000 in
set_option maxHeartbeats 4000000 in
theorem c_m3_reset {l : Launch} {B d : Nat} {g : xG} {N : Nat} {K : Nat → Nat × Nat} {F : Nat → Nat → Option Nat} {I : (Nat → Nat → Int32)} {J : (Nat → Nat → Int64)} {a0 : Nat} {J' : (Nat → Nat → Int64)} (h : m3_reset N K F I J a0 = some J') : xC l g B (d + 1) 0 0 y3_reset c3_reset 1 none [.ref (B + a0)] (xP g B N K I J F) (xq none (xP g B N K I J' F)) := by
  refine xC_of (by decide) (Nat.le_of_ble_eq_true rfl) (fun X hl hR hr _ hX => ?_)
  refine x_sub (L' := [(0, .ref (B + a0))]) [0] rfl ?_
  unfold m3_reset at h
  refine x_aload_n hX d3_reset_0 rfl rfl ?_
  refine x_lconst (v := 0) hX d3_reset_1 (by decide) ?_
  obtain ⟨hg1, h⟩ := x_gd h
  refine x_putJ (j := 0) hX xc3 hg1.1 hg1.2 (by decide) rfl kF3_9 (Or.inl rfl) rfl rfl d3_reset_2 ?_
  obtain ⟨J2, eJ2, h⟩ := x_le h
  rw [← eJ2]
  refine x_aload_n hX d3_reset_5 rfl rfl ?_
  obtain ⟨q3, eq3, h⟩ := x_bd h
  refine x_getF (j := 1) hX xc3 hg1.1 hg1.2 (by decide) rfl eq3 kF3_15 d3_reset_6 ?_
  refine x_lconst (v := 0) hX d3_reset_9 (by decide) ?_
  obtain ⟨J4, eb5, h⟩ := x_bd h
  refine x_callS hX hR (c_mA_fill (l := x_l X) (d := d + 0) eb5) kX3_25 kSA_fill rfl rfl (Nat.le_of_ble_eq_true rfl) ⟨Nat.le_refl 0, Nat.le_refl 0⟩ d3_reset_10 (x_kkv ?_)
  cases h
  exact x_vret hX hr d3_reset_13 (fun H hP => ⟨rfl, hP⟩)

def m4_define (N : Nat) (K : Nat → Nat × Nat) (F : Nat → Nat → Option Nat) (I : (Nat → Nat → Int32)) (J : (Nat → Nat → Int64)) (a0 : Nat) (a1 : Int32) (a2 : Int32) (a3 : Int32) (a4 : Int64) (a5 : Int64) : Option ((Nat → Nat → Int32) × (Nat → Nat → Int64)) :=
  if a0 < N ∧ K a0 = (0, 4) then (xlet (xu I a0 0 a1) fun I2 => xlet (xu I2 a0 1 a2) fun I3 => xlet (xu I3 a0 2 a3) fun I4 => xlet (xu J a0 3 a4) fun J5 => xlet (xu J5 a0 4 a5) fun J6 => some (I4, J6)) else none
set_option maxRecDepth 100000 in
set_option maxHeartbeats 4000000 in
theorem c_m4_define {l : Launch} {B d : Nat} {g : xG} {N : Nat} {K : Nat → Nat × Nat} {F : Nat → Nat → Option Nat} {I : (Nat → Nat → Int32)} {J : (Nat → Nat → Int64)} {a0 : Nat} {a1 : Int32} {a2 : Int32} {a3 : Int32} {a4 : Int64} {a5 : Int64} {I' : (Nat → Nat → Int32)} {J' : (Nat → Nat → Int64)} (h : m4_define N K F I J a0 a1 a2 a3 a4 a5 = some (I', J')) : xC l g B (d + 0) 0 0 y4_define c4_define 8 none [.ref (B + a0), .int a1, .int a2, .int a3, .long a4, .long a5] (xP g B N K I J F) (xq none (xP g B N K I' J' F)) := by
  refine xC_of (by decide) (Nat.le_of_ble_eq_true rfl) (fun X hl hR hr _ hX => ?_)
  refine x_sub (L' := [(0, .ref (B + a0)), (1, .int a1), (2, .int a2), (3, .int a3), (4, .long a4), (6, .long a5)]) [0, 1, 2, 3, 4, 5] rfl ?_
  unfold m4_define at h
  refine x_aload_n hX d4_define_0 rfl rfl ?_
  refine x_iload_n hX d4_define_1 rfl rfl ?_
  obtain ⟨hg1, h⟩ := x_gd h
  refine x_putI (j := 0) hX xc4 hg1.1 hg1.2 (by decide) rfl kF4_9 (Or.inl rfl) rfl rfl d4_define_2 ?_
  obtain ⟨I2, eI2, h⟩ := x_le h
  rw [← eI2]
  refine x_aload_n hX d4_define_5 rfl rfl ?_
  refine x_iload_n hX d4_define_6 rfl rfl ?_
  refine x_putI (j := 1) hX xc4 hg1.1 hg1.2 (by decide) rfl kF4_15 (Or.inl rfl) rfl rfl d4_define_7 ?_
  obtain ⟨I3, eI3, h⟩ := x_le h
  rw [← eI3]
  refine x_aload_n hX d4_define_10 rfl rfl ?_
  refine x_iload_n hX d4_define_11 rfl rfl ?_
  refine x_putI (j := 2) hX xc4 hg1.1 hg1.2 (by decide) rfl kF4_18 (Or.inl rfl) rfl rfl d4_define_12 ?_
  obtain ⟨I4, eI4, h⟩ := x_le h
  rw [← eI4]
  refine x_aload_n hX d4_define_15 rfl rfl ?_
  refine x_lload hX d4_define_16 rfl ?_
  refine x_putJ (j := 3) hX xc4 hg1.1 hg1.2 (by decide) rfl kF4_21 (Or.inl rfl) rfl rfl d4_define_18 ?_
  obtain ⟨J5, eJ5, h⟩ := x_le h
  rw [← eJ5]
  refine x_aload_n hX d4_define_21 rfl rfl ?_
  refine x_lload hX d4_define_22 rfl ?_
  refine x_putJ (j := 4) hX xc4 hg1.1 hg1.2 (by decide) rfl kF4_25 (Or.inl rfl) rfl rfl d4_define_24 ?_
  obtain ⟨J6, eJ6, h⟩ := x_le h
  rw [← eJ6]
  cases h
  exact x_vret hX hr d4_define_27 (fun H hP => ⟨rfl, hP⟩)

def m3_holds (N : Nat) (K : Nat → Nat × Nat) (F : Nat → Nat → Option Nat) (I : (Nat → Nat → Int32)) (J : (Nat → Nat → Int64)) (a0 : Nat) (a1 : Int32) : Option (Int32) :=
  if a0 < N ∧ K a0 = (0, 3) then (if ((((J a0 0).toUInt64 >>> (a1.toInt64.toUInt64 &&& Int64.toUInt64 63)).toInt64) &&& (1 : Int64)) = (0 : Int64) then (some (0 : Int32)) else (some (1 : Int32))) else none
set_option maxRecDepth 100000 in
set_option maxHeartbeats 4000000 in
theorem c_m3_holds {l : Launch} {B d : Nat} {g : xG} {N : Nat} {K : Nat → Nat × Nat} {F : Nat → Nat → Option Nat} {I : (Nat → Nat → Int32)} {J : (Nat → Nat → Int64)} {a0 : Nat} {a1 : Int32} {rv : Int32} (h : m3_holds N K F I J a0 a1 = some rv) : xC l g B (d + 0) 0 0 y3_holds c3_holds 2 (some .boolean) [.ref (B + a0), .int a1] (xP g B N K I J F) (xq (some (.int rv)) (xP g B N K I J F)) := by
  refine xC_of (by decide) (Nat.le_of_ble_eq_true rfl) (fun X hl hR hr _ hX => ?_)
  refine x_sub (L' := [(0, .ref (B + a0)), (1, .int a1)]) [0, 1] rfl ?_
  unfold m3_holds at h
  refine x_aload_n hX d3_holds_0 rfl rfl ?_
  obtain ⟨hg1, h⟩ := x_gd h
  refine x_getJ (j := 0) hX xc3 hg1.1 hg1.2 (by decide) rfl kF3_9 d3_holds_1 ?_
  refine x_iload_n hX d3_holds_4 rfl rfl ?_
  refine x_lushr hX d3_holds_5 ?_
  refine x_lconst (v := 1) hX d3_holds_6 (by decide) ?_
  refine x_land hX d3_holds_7 ?_
  refine x_lconst (v := 0) hX d3_holds_8 (by decide) ?_
  refine x_lif_eq (tgt := 17) hX d3_holds_9 d3_holds_10 (by decide) (fun hc => ?_) (fun hc => ?_)
  · rw [if_pos hc] at h
    refine x_iconst (v := 0) hX d3_holds_17 (by decide) ?_
    cases h
    exact x_zret hX hr rfl d3_holds_18 (fun H hP => ⟨rfl, hP⟩)
  · rw [if_neg hc] at h
    refine x_iconst (v := 1) hX d3_holds_13 (by decide) ?_
    refine x_goto (tgt := 18) hX d3_holds_14 (by decide) ?_
    cases h
    exact x_zret hX hr rfl d3_holds_18 (fun H hP => ⟨rfl, hP⟩)

def m3_set (N : Nat) (K : Nat → Nat × Nat) (F : Nat → Nat → Option Nat) (I : (Nat → Nat → Int32)) (J : (Nat → Nat → Int64)) (a0 : Nat) (a1 : Int32) (a2 : Int64) : Option ((Nat → Nat → Int64)) :=
  if a0 < N ∧ K a0 = (0, 3) then (xlet (xu J a0 0 ((J a0 0) ||| ((1 : Int64) <<< (a1.toInt64 &&& 63)))) fun J2 => xb (F a0 1) fun q3 => if q3 < N ∧ (K q3).1 = 2 ∧ xinb a1 (K q3).2 then (xlet (xu J2 q3 (a1.toNatClampNeg) a2) fun J5 => some J5) else none) else none
set_option maxRecDepth 100000 in
set_option maxHeartbeats 4000000 in
theorem c_m3_set {l : Launch} {B d : Nat} {g : xG} {N : Nat} {K : Nat → Nat × Nat} {F : Nat → Nat → Option Nat} {I : (Nat → Nat → Int32)} {J : (Nat → Nat → Int64)} {a0 : Nat} {a1 : Int32} {a2 : Int64} {J' : (Nat → Nat → Int64)} (h : m3_set N K F I J a0 a1 a2 = some J') : xC l g B (d + 0) 0 0 y3_set c3_set 4 none [.ref (B + a0), .int a1, .long a2] (xP g B N K I J F) (xq none (xP g B N K I J' F)) := by
  refine xC_of (by decide) (Nat.le_of_ble_eq_true rfl) (fun X hl hR hr _ hX => ?_)
  refine x_sub (L' := [(0, .ref (B + a0)), (1, .int a1), (2, .long a2)]) [0, 1, 2] rfl ?_
  unfold m3_set at h
  refine x_aload_n hX d3_set_0 rfl rfl ?_
  refine x_dup hX d3_set_1 rfl ?_
  obtain ⟨hg1, h⟩ := x_gd h
  refine x_getJ (j := 0) hX xc3 hg1.1 hg1.2 (by decide) rfl kF3_9 d3_set_2 ?_
  refine x_lconst (v := 1) hX d3_set_5 (by decide) ?_
  refine x_iload_n hX d3_set_6 rfl rfl ?_
  refine x_lshl hX d3_set_7 ?_
  refine x_lor hX d3_set_8 ?_
  refine x_putJ (j := 0) hX xc3 hg1.1 hg1.2 (by decide) rfl kF3_9 (Or.inl rfl) rfl rfl d3_set_9 ?_
  obtain ⟨J2, eJ2, h⟩ := x_le h
  rw [← eJ2]
  refine x_aload_n hX d3_set_12 rfl rfl ?_
  obtain ⟨q3, eq3, h⟩ := x_bd h
  refine x_getF (j := 1) hX xc3 hg1.1 hg1.2 (by decide) rfl eq3 kF3_15 d3_set_13 ?_
  refine x_iload_n hX d3_set_16 rfl rfl ?_
  refine x_lload_n hX d3_set_17 rfl rfl ?_
  obtain ⟨hg4, h⟩ := x_gd h
  refine x_last hX hg4.1 (x_kd hg4.2.1) (x_in hg4.2.2) d3_set_18 ?_
  obtain ⟨J5, eJ5, h⟩ := x_le h
  rw [← eJ5]
  cases h
  exact x_vret hX hr d3_set_19 (fun H hP => ⟨rfl, hP⟩)

def m4_deriveFilter_L2 (N : Nat) (K : Nat → Nat × Nat) (F : Nat → Nat → Option Nat) (I : (Nat → Nat → Int32)) : Nat → (Nat → Nat → Int64) → Nat → Nat → Int32 → Option ((Nat → Nat → Int64))
  | 0, _, _, _, _ => none
  | n + 1, J, v0, v1, v2 => if (64 : Int32) ≤ v2 then (some J) else (if v1 < N ∧ K v1 = (0, 3) then (xb (F v1 1) fun q2 => if q2 < N ∧ (K q2).1 = 2 ∧ xinb v2 (K q2).2 then (xlet ((J q2 (v2.toNatClampNeg))) fun x4 => xb (m3_holds N K F I J v1 v2) fun x5 => if x5 = 0 then (xlet (v2 + (1 : Int32)) fun x7 => m4_deriveFilter_L2 N K F I n J v0 v1 x7) else (if v0 < N ∧ K v0 = (0, 4) then (if x4 < (J v0 3) then (xlet (v2 + (1 : Int32)) fun x9 => m4_deriveFilter_L2 N K F I n J v0 v1 x9) else (if (J v0 4) < x4 then (xlet (v2 + (1 : Int32)) fun x10 => m4_deriveFilter_L2 N K F I n J v0 v1 x10) else (xb (F v0 6) fun q11 => if q11 < N ∧ K q11 = (0, 3) then (xb (m3_set N K F I J q11 v2 x4) fun J13 => xlet (v2 + (1 : Int32)) fun x15 => m4_deriveFilter_L2 N K F I n J13 v0 v1 x15) else none))) else none)) else none) else none)
def m4_deriveFilter (N : Nat) (K : Nat → Nat × Nat) (F : Nat → Nat → Option Nat) (I : (Nat → Nat → Int32)) (J : (Nat → Nat → Int64)) (a0 : Nat) (a1 : Nat) : Option ((Nat → Nat → Int64)) :=
  m4_deriveFilter_L2 N K F I xFu J a0 a1 (0 : Int32)
set_option maxRecDepth 100000 in
set_option maxHeartbeats 4000000 in
theorem t_m4_deriveFilter_L2 {X : xX} {B d : Nat} {g : xG} {N : Nat} {K : Nat → Nat × Nat} {F : Nat → Nat → Option Nat} {I : (Nat → Nat → Int32)} {J' : (Nat → Nat → Int64)} (hX : xO X c4_deriveFilter "ChangeRows$Table" 5 B g) (hR : x_R X = xrm (d + 1) 0 0) (hr : (x_meth X).sig.returnType = none) : ∀ (n : Nat) (J : (Nat → Nat → Int64)) (v0 : Nat) (v1 : Nat) (v2 : Int32), m4_deriveFilter_L2 N K F I n J v0 v1 v2 = some J' → xV X B 5 (xZ X B 0 0 (xq none (xP g B N K I J' F))) 0 0 (xP g B N K I J F) 2 [(0, .ref (B + v0)), (1, .ref (B + v1)), (2, .int v2)] [] := by
  intro n
  induction n with
  | zero =>
    intro J v0 v1 v2 h
    cases h
  | succ n ih =>
    intro J v0 v1 v2 h
    rw [m4_deriveFilter_L2] at h
    refine x_iload_n hX d4_deriveFilter_2 rfl rfl ?_
    refine x_bipush (v := 64) hX d4_deriveFilter_3 (by decide) ?_
    refine x_icmp_ge (tgt := 56) hX d4_deriveFilter_5 (by decide) (fun hc => ?_) (fun hc => ?_)
    · rw [if_pos hc] at h
      cases h
      exact x_vret hX hr d4_deriveFilter_56 (fun H hP => ⟨rfl, hP⟩)
    · rw [if_neg hc] at h
      refine x_aload_n hX d4_deriveFilter_8 rfl rfl ?_
      obtain ⟨hg1, h⟩ := x_gd h
      obtain ⟨q2, eq2, h⟩ := x_bd h
      refine x_getF (j := 1) hX xc3 hg1.1 hg1.2 (by decide) rfl eq2 kF4_74 d4_deriveFilter_9 ?_
      refine x_iload_n hX d4_deriveFilter_12 rfl rfl ?_
      obtain ⟨hg3, h⟩ := x_gd h
      refine x_lald hX hg3.1 (x_kd hg3.2.1) (x_in hg3.2.2) d4_deriveFilter_13 ?_
      obtain ⟨x4, ex4, h⟩ := x_le h
      refine x_eql ex4.symm ?_
      refine x_lstore_n hX [(3, .long x4), (0, .ref (B + v0)), (1, .ref (B + v1)), (2, .int v2)] d4_deriveFilter_14 rfl (by decide) rfl ?_
      refine x_aload_n hX d4_deriveFilter_15 rfl rfl ?_
      refine x_iload_n hX d4_deriveFilter_16 rfl rfl ?_
      obtain ⟨x5, eb6, h⟩ := x_bd h
      refine x_callV hX hR (c_m3_holds (l := x_l X) (d := d + 0) eb6) kX4_78 kN3_holds kE3_holds xc3.1 hg1.1 hg1.2 rfl rfl (Nat.le_of_ble_eq_true rfl) ⟨Nat.le_refl 0, Nat.le_refl 0⟩ d4_deriveFilter_17 (x_kki ?_)
      refine x_if_eq (tgt := 50) hX d4_deriveFilter_20 (by decide) (fun hc => ?_) (fun hc => ?_)
      · rw [if_pos hc] at h
        obtain ⟨x7, ex7, h⟩ := x_le h
        refine x_iinc (j := 3) hX [(2, .int x7), (3, .long x4), (0, .ref (B + v0)), (1, .ref (B + v1))] d4_deriveFilter_50 rfl (by rw [ex7]; rfl) (by decide) rfl ?_
        refine x_goto (tgt := 2) hX d4_deriveFilter_53 (by decide) ?_
        refine x_sub [2, 3, 0] rfl ?_
        exact ih _ _ _ _ h
      · rw [if_neg hc] at h
        refine x_lload_n hX d4_deriveFilter_23 rfl rfl ?_
        refine x_aload_n hX d4_deriveFilter_24 rfl rfl ?_
        obtain ⟨hg8, h⟩ := x_gd h
        refine x_getJ (j := 3) hX xc4 hg8.1 hg8.2 (by decide) rfl kF4_21 d4_deriveFilter_25 ?_
        refine x_lif_lt (tgt := 50) hX d4_deriveFilter_28 d4_deriveFilter_29 (by decide) (fun hc => ?_) (fun hc => ?_)
        · rw [if_pos hc] at h
          obtain ⟨x9, ex9, h⟩ := x_le h
          refine x_iinc (j := 3) hX [(2, .int x9), (3, .long x4), (0, .ref (B + v0)), (1, .ref (B + v1))] d4_deriveFilter_50 rfl (by rw [ex9]; rfl) (by decide) rfl ?_
          refine x_goto (tgt := 2) hX d4_deriveFilter_53 (by decide) ?_
          refine x_sub [2, 3, 0] rfl ?_
          exact ih _ _ _ _ h
        · rw [if_neg hc] at h
          refine x_lload_n hX d4_deriveFilter_32 rfl rfl ?_
          refine x_aload_n hX d4_deriveFilter_33 rfl rfl ?_
          refine x_getJ (j := 4) hX xc4 hg8.1 hg8.2 (by decide) rfl kF4_25 d4_deriveFilter_34 ?_
          refine x_lif_gt (tgt := 50) hX d4_deriveFilter_37 d4_deriveFilter_38 (by decide) (fun hc => ?_) (fun hc => ?_)
          · rw [if_pos hc] at h
            obtain ⟨x10, ex10, h⟩ := x_le h
            refine x_iinc (j := 3) hX [(2, .int x10), (3, .long x4), (0, .ref (B + v0)), (1, .ref (B + v1))] d4_deriveFilter_50 rfl (by rw [ex10]; rfl) (by decide) rfl ?_
            refine x_goto (tgt := 2) hX d4_deriveFilter_53 (by decide) ?_
            refine x_sub [2, 3, 0] rfl ?_
            exact ih _ _ _ _ h
          · rw [if_neg hc] at h
            refine x_aload_n hX d4_deriveFilter_41 rfl rfl ?_
            obtain ⟨q11, eq11, h⟩ := x_bd h
            refine x_getF (j := 6) hX xc4 hg8.1 hg8.2 (by decide) rfl eq11 kF4_35 d4_deriveFilter_42 ?_
            refine x_iload_n hX d4_deriveFilter_45 rfl rfl ?_
            refine x_lload_n hX d4_deriveFilter_46 rfl rfl ?_
            obtain ⟨hg12, h⟩ := x_gd h
            obtain ⟨J13, eb14, h⟩ := x_bd h
            refine x_callV hX hR (c_m3_set (l := x_l X) (d := d + 0) eb14) kX4_82 kN3_set kE3_set xc3.1 hg12.1 hg12.2 rfl rfl (Nat.le_of_ble_eq_true rfl) ⟨Nat.le_refl 0, Nat.le_refl 0⟩ d4_deriveFilter_47 (x_kkv ?_)
            obtain ⟨x15, ex15, h⟩ := x_le h
            refine x_iinc (j := 3) hX [(2, .int x15), (3, .long x4), (0, .ref (B + v0)), (1, .ref (B + v1))] d4_deriveFilter_50 rfl (by rw [ex15]; rfl) (by decide) rfl ?_
            refine x_goto (tgt := 2) hX d4_deriveFilter_53 (by decide) ?_
            refine x_sub [2, 3, 0] rfl ?_
            exact ih _ _ _ _ h
set_option maxRecDepth 100000 in
set_option maxHeartbeats 4000000 in
theorem c_m4_deriveFilter {l : Launch} {B d : Nat} {g : xG} {N : Nat} {K : Nat → Nat × Nat} {F : Nat → Nat → Option Nat} {I : (Nat → Nat → Int32)} {J : (Nat → Nat → Int64)} {a0 : Nat} {a1 : Nat} {J' : (Nat → Nat → Int64)} (h : m4_deriveFilter N K F I J a0 a1 = some J') : xC l g B (d + 1) 0 0 y4_deriveFilter c4_deriveFilter 5 none [.ref (B + a0), .ref (B + a1)] (xP g B N K I J F) (xq none (xP g B N K I J' F)) := by
  refine xC_of (by decide) (Nat.le_of_ble_eq_true rfl) (fun X hl hR hr _ hX => ?_)
  refine x_sub (L' := [(0, .ref (B + a0)), (1, .ref (B + a1))]) [0, 1] rfl ?_
  unfold m4_deriveFilter at h
  refine x_iconst (v := 0) hX d4_deriveFilter_0 (by decide) ?_
  refine x_istore_n hX [(2, .int (0 : Int32)), (0, .ref (B + a0)), (1, .ref (B + a1))] d4_deriveFilter_1 rfl (by decide) rfl ?_
  refine x_sub [1, 2, 0] rfl ?_
  exact t_m4_deriveFilter_L2 hX hR hr _ _ _ _ _ h

def m4_deriveMap_L2 (N : Nat) (K : Nat → Nat × Nat) (F : Nat → Nat → Option Nat) (I : (Nat → Nat → Int32)) : Nat → (Nat → Nat → Int64) → Nat → Nat → Int32 → Option ((Nat → Nat → Int64))
  | 0, _, _, _, _ => none
  | n + 1, J, v0, v1, v2 => if (64 : Int32) ≤ v2 then (some J) else (if v1 < N ∧ K v1 = (0, 3) then (xb (m3_holds N K F I J v1 v2) fun x2 => if x2 = 0 then (xlet (v2 + (1 : Int32)) fun x4 => m4_deriveMap_L2 N K F I n J v0 v1 x4) else (if v0 < N ∧ K v0 = (0, 4) then (xb (F v0 6) fun q6 => xb (F v1 1) fun q7 => if q7 < N ∧ (K q7).1 = 2 ∧ xinb v2 (K q7).2 then (if q6 < N ∧ K q6 = (0, 3) then (xb (m3_set N K F I J q6 v2 (((J v0 3) * (J q7 (v2.toNatClampNeg))) + (J v0 4))) fun J10 => xlet (v2 + (1 : Int32)) fun x12 => m4_deriveMap_L2 N K F I n J10 v0 v1 x12) else none) else none) else none)) else none)
def m4_deriveMap (N : Nat) (K : Nat → Nat × Nat) (F : Nat → Nat → Option Nat) (I : (Nat → Nat → Int32)) (J : (Nat → Nat → Int64)) (a0 : Nat) (a1 : Nat) : Option ((Nat → Nat → Int64)) :=
  m4_deriveMap_L2 N K F I xFu J a0 a1 (0 : Int32)
set_option maxRecDepth 100000 in
set_option maxHeartbeats 4000000 in
theorem t_m4_deriveMap_L2 {X : xX} {B d : Nat} {g : xG} {N : Nat} {K : Nat → Nat × Nat} {F : Nat → Nat → Option Nat} {I : (Nat → Nat → Int32)} {J' : (Nat → Nat → Int64)} (hX : xO X c4_deriveMap "ChangeRows$Table" 3 B g) (hR : x_R X = xrm (d + 1) 0 0) (hr : (x_meth X).sig.returnType = none) : ∀ (n : Nat) (J : (Nat → Nat → Int64)) (v0 : Nat) (v1 : Nat) (v2 : Int32), m4_deriveMap_L2 N K F I n J v0 v1 v2 = some J' → xV X B 3 (xZ X B 0 0 (xq none (xP g B N K I J' F))) 0 0 (xP g B N K I J F) 2 [(0, .ref (B + v0)), (1, .ref (B + v1)), (2, .int v2)] [] := by
  intro n
  induction n with
  | zero =>
    intro J v0 v1 v2 h
    cases h
  | succ n ih =>
    intro J v0 v1 v2 h
    rw [m4_deriveMap_L2] at h
    refine x_iload_n hX d4_deriveMap_2 rfl rfl ?_
    refine x_bipush (v := 64) hX d4_deriveMap_3 (by decide) ?_
    refine x_icmp_ge (tgt := 46) hX d4_deriveMap_5 (by decide) (fun hc => ?_) (fun hc => ?_)
    · rw [if_pos hc] at h
      cases h
      exact x_vret hX hr d4_deriveMap_46 (fun H hP => ⟨rfl, hP⟩)
    · rw [if_neg hc] at h
      refine x_aload_n hX d4_deriveMap_8 rfl rfl ?_
      refine x_iload_n hX d4_deriveMap_9 rfl rfl ?_
      obtain ⟨hg1, h⟩ := x_gd h
      obtain ⟨x2, eb3, h⟩ := x_bd h
      refine x_callV hX hR (c_m3_holds (l := x_l X) (d := d + 0) eb3) kX4_78 kN3_holds kE3_holds xc3.1 hg1.1 hg1.2 rfl rfl (Nat.le_of_ble_eq_true rfl) ⟨Nat.le_refl 0, Nat.le_refl 0⟩ d4_deriveMap_10 (x_kki ?_)
      refine x_if_eq (tgt := 40) hX d4_deriveMap_13 (by decide) (fun hc => ?_) (fun hc => ?_)
      · rw [if_pos hc] at h
        obtain ⟨x4, ex4, h⟩ := x_le h
        refine x_iinc (j := 2) hX [(2, .int x4), (0, .ref (B + v0)), (1, .ref (B + v1))] d4_deriveMap_40 rfl (by rw [ex4]; rfl) (by decide) rfl ?_
        refine x_goto (tgt := 2) hX d4_deriveMap_43 (by decide) ?_
        refine x_sub [1, 2, 0] rfl ?_
        exact ih _ _ _ _ h
      · rw [if_neg hc] at h
        refine x_aload_n hX d4_deriveMap_16 rfl rfl ?_
        obtain ⟨hg5, h⟩ := x_gd h
        obtain ⟨q6, eq6, h⟩ := x_bd h
        refine x_getF (j := 6) hX xc4 hg5.1 hg5.2 (by decide) rfl eq6 kF4_35 d4_deriveMap_17 ?_
        refine x_iload_n hX d4_deriveMap_20 rfl rfl ?_
        refine x_aload_n hX d4_deriveMap_21 rfl rfl ?_
        refine x_getJ (j := 3) hX xc4 hg5.1 hg5.2 (by decide) rfl kF4_21 d4_deriveMap_22 ?_
        refine x_aload_n hX d4_deriveMap_25 rfl rfl ?_
        obtain ⟨q7, eq7, h⟩ := x_bd h
        refine x_getF (j := 1) hX xc3 hg1.1 hg1.2 (by decide) rfl eq7 kF4_74 d4_deriveMap_26 ?_
        refine x_iload_n hX d4_deriveMap_29 rfl rfl ?_
        obtain ⟨hg8, h⟩ := x_gd h
        refine x_lald hX hg8.1 (x_kd hg8.2.1) (x_in hg8.2.2) d4_deriveMap_30 ?_
        refine x_lmul hX d4_deriveMap_31 ?_
        refine x_aload_n hX d4_deriveMap_32 rfl rfl ?_
        refine x_getJ (j := 4) hX xc4 hg5.1 hg5.2 (by decide) rfl kF4_25 d4_deriveMap_33 ?_
        refine x_ladd hX d4_deriveMap_36 ?_
        obtain ⟨hg9, h⟩ := x_gd h
        obtain ⟨J10, eb11, h⟩ := x_bd h
        refine x_callV hX hR (c_m3_set (l := x_l X) (d := d + 0) eb11) kX4_82 kN3_set kE3_set xc3.1 hg9.1 hg9.2 rfl rfl (Nat.le_of_ble_eq_true rfl) ⟨Nat.le_refl 0, Nat.le_refl 0⟩ d4_deriveMap_37 (x_kkv ?_)
        obtain ⟨x12, ex12, h⟩ := x_le h
        refine x_iinc (j := 2) hX [(2, .int x12), (0, .ref (B + v0)), (1, .ref (B + v1))] d4_deriveMap_40 rfl (by rw [ex12]; rfl) (by decide) rfl ?_
        refine x_goto (tgt := 2) hX d4_deriveMap_43 (by decide) ?_
        refine x_sub [1, 2, 0] rfl ?_
        exact ih _ _ _ _ h
set_option maxRecDepth 100000 in
set_option maxHeartbeats 4000000 in
theorem c_m4_deriveMap {l : Launch} {B d : Nat} {g : xG} {N : Nat} {K : Nat → Nat × Nat} {F : Nat → Nat → Option Nat} {I : (Nat → Nat → Int32)} {J : (Nat → Nat → Int64)} {a0 : Nat} {a1 : Nat} {J' : (Nat → Nat → Int64)} (h : m4_deriveMap N K F I J a0 a1 = some J') : xC l g B (d + 1) 0 0 y4_deriveMap c4_deriveMap 3 none [.ref (B + a0), .ref (B + a1)] (xP g B N K I J F) (xq none (xP g B N K I J' F)) := by
  refine xC_of (by decide) (Nat.le_of_ble_eq_true rfl) (fun X hl hR hr _ hX => ?_)
  refine x_sub (L' := [(0, .ref (B + a0)), (1, .ref (B + a1))]) [0, 1] rfl ?_
  unfold m4_deriveMap at h
  refine x_iconst (v := 0) hX d4_deriveMap_0 (by decide) ?_
  refine x_istore_n hX [(2, .int (0 : Int32)), (0, .ref (B + a0)), (1, .ref (B + a1))] d4_deriveMap_1 rfl (by decide) rfl ?_
  refine x_sub [1, 2, 0] rfl ?_
  exact t_m4_deriveMap_L2 hX hR hr _ _ _ _ _ h

def m4_folded (N : Nat) (K : Nat → Nat × Nat) (F : Nat → Nat → Option Nat) (I : (Nat → Nat → Int32)) (J : (Nat → Nat → Int64)) (a0 : Nat) (a1 : Int32) (a2 : Int64) (a3 : Int32) (a4 : Int64) : Option (Int64) :=
  if a0 < N ∧ K a0 = (0, 4) then (if ((J a0 3).toInt32) = 0 then (some (a2 + (1 : Int64))) else (if ((J a0 3).toInt32) = 1 then (some (a2 + a4)) else (if ((J a0 3).toInt32) = 2 then (if ¬ a1 = 0 then (some a4) else (if a2 ≤ a4 then (some a2) else (some a4))) else (if ((J a0 3).toInt32) = 3 then (if ¬ a1 = 0 then (some a4) else (if a4 ≤ a2 then (some a2) else (some a4))) else (some (a3.toInt64)))))) else none
set_option maxRecDepth 100000 in
set_option maxHeartbeats 4000000 in
theorem c_m4_folded {l : Launch} {B d : Nat} {g : xG} {N : Nat} {K : Nat → Nat × Nat} {F : Nat → Nat → Option Nat} {I : (Nat → Nat → Int32)} {J : (Nat → Nat → Int64)} {a0 : Nat} {a1 : Int32} {a2 : Int64} {a3 : Int32} {a4 : Int64} {rv : Int64} (h : m4_folded N K F I J a0 a1 a2 a3 a4 = some rv) : xC l g B (d + 0) 0 0 y4_folded c4_folded 7 (some .long) [.ref (B + a0), .int a1, .long a2, .int a3, .long a4] (xP g B N K I J F) (xq (some (.long rv)) (xP g B N K I J F)) := by
  refine xC_of (by decide) (Nat.le_of_ble_eq_true rfl) (fun X hl hR hr _ hX => ?_)
  refine x_sub (L' := [(0, .ref (B + a0)), (1, .int a1), (2, .long a2), (4, .int a3), (5, .long a4)]) [0, 1, 2, 3, 4] rfl ?_
  unfold m4_folded at h
  refine x_aload_n hX d4_folded_0 rfl rfl ?_
  obtain ⟨hg1, h⟩ := x_gd h
  refine x_getJ (j := 3) hX xc4 hg1.1 hg1.2 (by decide) rfl kF4_21 d4_folded_1 ?_
  refine x_l2i hX d4_folded_4 ?_
  by_cases hs1000 : ((J a0 3).toInt32) = 0
  · rw [if_pos hs1000] at h
    refine x_tableIn (off := 31) (tgt := 36) hX d4_folded_5 (by rw [hs1000]; decide) (by rw [hs1000]; decide) (by rw [hs1000]; rfl) (by decide) ?_
    refine x_lload_n hX d4_folded_36 rfl rfl ?_
    refine x_lconst (v := 1) hX d4_folded_37 (by decide) ?_
    refine x_ladd hX d4_folded_38 ?_
    cases h
    exact x_lret hX hr d4_folded_39 (fun H hP => ⟨rfl, hP⟩)
  · rw [if_neg hs1000] at h
    by_cases hs1001 : ((J a0 3).toInt32) = 1
    · rw [if_pos hs1001] at h
      refine x_tableIn (off := 35) (tgt := 40) hX d4_folded_5 (by rw [hs1001]; decide) (by rw [hs1001]; decide) (by rw [hs1001]; rfl) (by decide) ?_
      refine x_lload_n hX d4_folded_40 rfl rfl ?_
      refine x_lload hX d4_folded_41 rfl ?_
      refine x_ladd hX d4_folded_43 ?_
      cases h
      exact x_lret hX hr d4_folded_44 (fun H hP => ⟨rfl, hP⟩)
    · rw [if_neg hs1001] at h
      by_cases hs1002 : ((J a0 3).toInt32) = 2
      · rw [if_pos hs1002] at h
        refine x_tableIn (off := 40) (tgt := 45) hX d4_folded_5 (by rw [hs1002]; decide) (by rw [hs1002]; decide) (by rw [hs1002]; rfl) (by decide) ?_
        refine x_iload_n hX d4_folded_45 rfl rfl ?_
        refine x_if_ne (tgt := 56) hX d4_folded_46 (by decide) (fun hc => ?_) (fun hc => ?_)
        · rw [if_pos hc] at h
          refine x_lload hX d4_folded_56 rfl ?_
          refine x_goto (tgt := 62) hX d4_folded_58 (by decide) ?_
          cases h
          exact x_lret hX hr d4_folded_62 (fun H hP => ⟨rfl, hP⟩)
        · rw [if_neg (x_nn hc)] at h
          refine x_lload hX d4_folded_49 rfl ?_
          refine x_lload_n hX d4_folded_51 rfl rfl ?_
          refine x_lif_ge (tgt := 61) hX d4_folded_52 d4_folded_53 (by decide) (fun hc => ?_) (fun hc => ?_)
          · rw [if_pos hc] at h
            refine x_lload_n hX d4_folded_61 rfl rfl ?_
            cases h
            exact x_lret hX hr d4_folded_62 (fun H hP => ⟨rfl, hP⟩)
          · rw [if_neg hc] at h
            refine x_lload hX d4_folded_56 rfl ?_
            refine x_goto (tgt := 62) hX d4_folded_58 (by decide) ?_
            cases h
            exact x_lret hX hr d4_folded_62 (fun H hP => ⟨rfl, hP⟩)
      · rw [if_neg hs1002] at h
        by_cases hs1003 : ((J a0 3).toInt32) = 3
        · rw [if_pos hs1003] at h
          refine x_tableIn (off := 58) (tgt := 63) hX d4_folded_5 (by rw [hs1003]; decide) (by rw [hs1003]; decide) (by rw [hs1003]; rfl) (by decide) ?_
          refine x_iload_n hX d4_folded_63 rfl rfl ?_
          refine x_if_ne (tgt := 74) hX d4_folded_64 (by decide) (fun hc => ?_) (fun hc => ?_)
          · rw [if_pos hc] at h
            refine x_lload hX d4_folded_74 rfl ?_
            refine x_goto (tgt := 80) hX d4_folded_76 (by decide) ?_
            cases h
            exact x_lret hX hr d4_folded_80 (fun H hP => ⟨rfl, hP⟩)
          · rw [if_neg (x_nn hc)] at h
            refine x_lload hX d4_folded_67 rfl ?_
            refine x_lload_n hX d4_folded_69 rfl rfl ?_
            refine x_lif_le (tgt := 79) hX d4_folded_70 d4_folded_71 (by decide) (fun hc => ?_) (fun hc => ?_)
            · rw [if_pos hc] at h
              refine x_lload_n hX d4_folded_79 rfl rfl ?_
              cases h
              exact x_lret hX hr d4_folded_80 (fun H hP => ⟨rfl, hP⟩)
            · rw [if_neg hc] at h
              refine x_lload hX d4_folded_74 rfl ?_
              refine x_goto (tgt := 80) hX d4_folded_76 (by decide) ?_
              cases h
              exact x_lret hX hr d4_folded_80 (fun H hP => ⟨rfl, hP⟩)
        · rw [if_neg hs1003] at h
          refine x_tableOut (tgt := 81) hX d4_folded_5 (x_tout_0_3 hs1000 hs1001 hs1002 hs1003) (by decide) ?_
          refine x_iload hX d4_folded_81 rfl ?_
          refine x_i2l hX d4_folded_83 ?_
          cases h
          exact x_lret hX hr d4_folded_84 (fun H hP => ⟨rfl, hP⟩)

def m4_deriveFold_B62 (N : Nat) (K : Nat → Nat × Nat) (F : Nat → Nat → Option Nat) (I : (Nat → Nat → Int32)) (k4 : (Nat → Nat → Int64) → Nat → Nat → Int32 → Int32 → Option ((Nat → Nat → Int64))) (J : (Nat → Nat → Int64)) (v0 : Nat) (v1 : Nat) (v2 : Int32) (v3 : Int32) : Option ((Nat → Nat → Int64)) :=
  if v0 < N ∧ K v0 = (0, 4) then (if (J v0 4) ≤ ((v2 + (1 : Int32)).toInt64) then (xlet (v3 + (1 : Int32)) fun x2 => k4 J v0 v1 (0 : Int32) x2) else (xlet ((v2 + (1 : Int32))) fun x3 => xlet (v3 + (1 : Int32)) fun x4 => k4 J v0 v1 x3 x4)) else none
def m4_deriveFold_B40 (N : Nat) (K : Nat → Nat × Nat) (F : Nat → Nat → Option Nat) (I : (Nat → Nat → Int32)) (k4 : (Nat → Nat → Int64) → Nat → Nat → Int32 → Int32 → Option ((Nat → Nat → Int64))) (J : (Nat → Nat → Int64)) (v0 : Nat) (v1 : Nat) (v2 : Int32) (v3 : Int32) (w0 : Nat) (w1 : Int32) (w2 : Nat) (w3 : Int32) : Option ((Nat → Nat → Int64)) :=
  if v0 < N ∧ K v0 = (0, 4) then (xb (F v0 6) fun q2 => if q2 < N ∧ K q2 = (0, 3) then (xb (F q2 1) fun q4 => if q4 < N ∧ (K q4).1 = 2 ∧ xinb v2 (K q4).2 then (if v1 < N ∧ K v1 = (0, 3) then (xb (F v1 1) fun q7 => if q7 < N ∧ (K q7).1 = 2 ∧ xinb v3 (K q7).2 then (if w2 < N ∧ K w2 = (0, 4) then (xb (m4_folded N K F I J w2 w3 (J q4 (v2.toNatClampNeg)) v3 (J q7 (v3.toNatClampNeg))) fun x10 => if w0 < N ∧ K w0 = (0, 3) then (xb (m3_set N K F I J w0 w1 x10) fun J13 => m4_deriveFold_B62 N K F I k4 J13 v0 v1 v2 v3) else none) else none) else none) else none) else none) else none) else none
def m4_deriveFold_L4 (N : Nat) (K : Nat → Nat × Nat) (F : Nat → Nat → Option Nat) (I : (Nat → Nat → Int32)) : Nat → (Nat → Nat → Int64) → Nat → Nat → Int32 → Int32 → Option ((Nat → Nat → Int64))
  | 0, _, _, _, _, _ => none
  | n + 1, J, v0, v1, v2, v3 => if (64 : Int32) ≤ v3 then (some J) else (if v1 < N ∧ K v1 = (0, 3) then (xb (m3_holds N K F I J v1 v3) fun x2 => if x2 = 0 then (m4_deriveFold_B62 N K F I (m4_deriveFold_L4 N K F I n) J v0 v1 v2 v3) else (if v0 < N ∧ K v0 = (0, 4) then (xb (F v0 6) fun q5 => if q5 < N ∧ K q5 = (0, 3) then (xb (m3_holds N K F I J q5 v2) fun x7 => if ¬ x7 = 0 then (m4_deriveFold_B40 N K F I (m4_deriveFold_L4 N K F I n) J v0 v1 v2 v3 q5 v2 v0 (0 : Int32)) else (m4_deriveFold_B40 N K F I (m4_deriveFold_L4 N K F I n) J v0 v1 v2 v3 q5 v2 v0 (1 : Int32))) else none) else none)) else none)
def m4_deriveFold (N : Nat) (K : Nat → Nat × Nat) (F : Nat → Nat → Option Nat) (I : (Nat → Nat → Int32)) (J : (Nat → Nat → Int64)) (a0 : Nat) (a1 : Nat) : Option ((Nat → Nat → Int64)) :=
  m4_deriveFold_L4 N K F I xFu J a0 a1 (0 : Int32) (0 : Int32)
set_option maxRecDepth 100000 in
set_option maxHeartbeats 4000000 in
theorem t_m4_deriveFold_B62 {X : xX} {B d : Nat} {g : xG} {N : Nat} {K : Nat → Nat × Nat} {F : Nat → Nat → Option Nat} {I : (Nat → Nat → Int32)} {J' : (Nat → Nat → Int64)} {k4 : (Nat → Nat → Int64) → Nat → Nat → Int32 → Int32 → Option ((Nat → Nat → Int64))} (hX : xO X c4_deriveFold "ChangeRows$Table" 4 B g) (hR : x_R X = xrm (d + 1) 0 0) (hr : (x_meth X).sig.returnType = none) (hk4 : ∀ (J : (Nat → Nat → Int64)) (v0 : Nat) (v1 : Nat) (v2 : Int32) (v3 : Int32), k4 J v0 v1 v2 v3 = some J' → xV X B 4 (xZ X B 0 0 (xq none (xP g B N K I J' F))) 0 0 (xP g B N K I J F) 4 [(0, .ref (B + v0)), (1, .ref (B + v1)), (2, .int v2), (3, .int v3)] []) (J : (Nat → Nat → Int64)) (v0 : Nat) (v1 : Nat) (v2 : Int32) (v3 : Int32) (h : m4_deriveFold_B62 N K F I k4 J v0 v1 v2 v3 = some J') : xV X B 4 (xZ X B 0 0 (xq none (xP g B N K I J' F))) 0 0 (xP g B N K I J F) 62 [(0, .ref (B + v0)), (1, .ref (B + v1)), (2, .int v2), (3, .int v3)] [] := by
  unfold m4_deriveFold_B62 at h
  refine x_iload_n hX d4_deriveFold_62 rfl rfl ?_
  refine x_iconst (v := 1) hX d4_deriveFold_63 (by decide) ?_
  refine x_iadd hX d4_deriveFold_64 ?_
  refine x_i2l hX d4_deriveFold_65 ?_
  refine x_aload_n hX d4_deriveFold_66 rfl rfl ?_
  obtain ⟨hg1, h⟩ := x_gd h
  refine x_getJ (j := 4) hX xc4 hg1.1 hg1.2 (by decide) rfl kF4_25 d4_deriveFold_67 ?_
  refine x_lif_ge (tgt := 80) hX d4_deriveFold_70 d4_deriveFold_71 (by decide) (fun hc => ?_) (fun hc => ?_)
  · rw [if_pos hc] at h
    refine x_iconst (v := 0) hX d4_deriveFold_80 (by decide) ?_
    refine x_istore_n hX [(2, .int (0 : Int32)), (0, .ref (B + v0)), (1, .ref (B + v1)), (3, .int v3)] d4_deriveFold_81 rfl (by decide) rfl ?_
    obtain ⟨x2, ex2, h⟩ := x_le h
    refine x_iinc (j := 3) hX [(3, .int x2), (2, .int (0 : Int32)), (0, .ref (B + v0)), (1, .ref (B + v1))] d4_deriveFold_82 rfl (by rw [ex2]; rfl) (by decide) rfl ?_
    refine x_goto (tgt := 4) hX d4_deriveFold_85 (by decide) ?_
    refine x_sub [2, 3, 1, 0] rfl ?_
    exact hk4 _ _ _ _ _ h
  · rw [if_neg hc] at h
    refine x_iload_n hX d4_deriveFold_74 rfl rfl ?_
    refine x_iconst (v := 1) hX d4_deriveFold_75 (by decide) ?_
    refine x_iadd hX d4_deriveFold_76 ?_
    refine x_goto (tgt := 81) hX d4_deriveFold_77 (by decide) ?_
    obtain ⟨x3, ex3, h⟩ := x_le h
    refine x_eqi ex3.symm ?_
    refine x_istore_n hX [(2, .int x3), (0, .ref (B + v0)), (1, .ref (B + v1)), (3, .int v3)] d4_deriveFold_81 rfl (by decide) rfl ?_
    obtain ⟨x4, ex4, h⟩ := x_le h
    refine x_iinc (j := 3) hX [(3, .int x4), (2, .int x3), (0, .ref (B + v0)), (1, .ref (B + v1))] d4_deriveFold_82 rfl (by rw [ex4]; rfl) (by decide) rfl ?_
    refine x_goto (tgt := 4) hX d4_deriveFold_85 (by decide) ?_
    refine x_sub [2, 3, 1, 0] rfl ?_
    exact hk4 _ _ _ _ _ h
set_option maxRecDepth 100000 in
set_option maxHeartbeats 4000000 in
theorem t_m4_deriveFold_B40 {X : xX} {B d : Nat} {g : xG} {N : Nat} {K : Nat → Nat × Nat} {F : Nat → Nat → Option Nat} {I : (Nat → Nat → Int32)} {J' : (Nat → Nat → Int64)} {k4 : (Nat → Nat → Int64) → Nat → Nat → Int32 → Int32 → Option ((Nat → Nat → Int64))} (hX : xO X c4_deriveFold "ChangeRows$Table" 4 B g) (hR : x_R X = xrm (d + 1) 0 0) (hr : (x_meth X).sig.returnType = none) (hk4 : ∀ (J : (Nat → Nat → Int64)) (v0 : Nat) (v1 : Nat) (v2 : Int32) (v3 : Int32), k4 J v0 v1 v2 v3 = some J' → xV X B 4 (xZ X B 0 0 (xq none (xP g B N K I J' F))) 0 0 (xP g B N K I J F) 4 [(0, .ref (B + v0)), (1, .ref (B + v1)), (2, .int v2), (3, .int v3)] []) (J : (Nat → Nat → Int64)) (v0 : Nat) (v1 : Nat) (v2 : Int32) (v3 : Int32) (w0 : Nat) (w1 : Int32) (w2 : Nat) (w3 : Int32) (h : m4_deriveFold_B40 N K F I k4 J v0 v1 v2 v3 w0 w1 w2 w3 = some J') : xV X B 4 (xZ X B 0 0 (xq none (xP g B N K I J' F))) 0 0 (xP g B N K I J F) 40 [(0, .ref (B + v0)), (1, .ref (B + v1)), (2, .int v2), (3, .int v3)] [.int w3, .ref (B + w2), .int w1, .ref (B + w0)] := by
  unfold m4_deriveFold_B40 at h
  refine x_aload_n hX d4_deriveFold_40 rfl rfl ?_
  obtain ⟨hg1, h⟩ := x_gd h
  obtain ⟨q2, eq2, h⟩ := x_bd h
  refine x_getF (j := 6) hX xc4 hg1.1 hg1.2 (by decide) rfl eq2 kF4_35 d4_deriveFold_41 ?_
  obtain ⟨hg3, h⟩ := x_gd h
  obtain ⟨q4, eq4, h⟩ := x_bd h
  refine x_getF (j := 1) hX xc3 hg3.1 hg3.2 (by decide) rfl eq4 kF4_74 d4_deriveFold_44 ?_
  refine x_iload_n hX d4_deriveFold_47 rfl rfl ?_
  obtain ⟨hg5, h⟩ := x_gd h
  refine x_lald hX hg5.1 (x_kd hg5.2.1) (x_in hg5.2.2) d4_deriveFold_48 ?_
  refine x_iload_n hX d4_deriveFold_49 rfl rfl ?_
  refine x_aload_n hX d4_deriveFold_50 rfl rfl ?_
  obtain ⟨hg6, h⟩ := x_gd h
  obtain ⟨q7, eq7, h⟩ := x_bd h
  refine x_getF (j := 1) hX xc3 hg6.1 hg6.2 (by decide) rfl eq7 kF4_74 d4_deriveFold_51 ?_
  refine x_iload_n hX d4_deriveFold_54 rfl rfl ?_
  obtain ⟨hg8, h⟩ := x_gd h
  refine x_lald hX hg8.1 (x_kd hg8.2.1) (x_in hg8.2.2) d4_deriveFold_55 ?_
  obtain ⟨hg9, h⟩ := x_gd h
  obtain ⟨x10, eb11, h⟩ := x_bd h
  refine x_callV hX hR (c_m4_folded (l := x_l X) (d := d + 0) eb11) kX4_86 kN4_folded kE4_folded xc4.1 hg9.1 hg9.2 rfl rfl (Nat.le_of_ble_eq_true rfl) ⟨Nat.le_refl 0, Nat.le_refl 0⟩ d4_deriveFold_56 (x_kkl ?_)
  obtain ⟨hg12, h⟩ := x_gd h
  obtain ⟨J13, eb14, h⟩ := x_bd h
  refine x_callV hX hR (c_m3_set (l := x_l X) (d := d + 0) eb14) kX4_82 kN3_set kE3_set xc3.1 hg12.1 hg12.2 rfl rfl (Nat.le_of_ble_eq_true rfl) ⟨Nat.le_refl 0, Nat.le_refl 0⟩ d4_deriveFold_59 (x_kkv ?_)
  exact t_m4_deriveFold_B62 hX hR hr hk4 _ _ _ _ _ h
set_option maxRecDepth 100000 in
set_option maxHeartbeats 4000000 in
theorem t_m4_deriveFold_L4 {X : xX} {B d : Nat} {g : xG} {N : Nat} {K : Nat → Nat × Nat} {F : Nat → Nat → Option Nat} {I : (Nat → Nat → Int32)} {J' : (Nat → Nat → Int64)} (hX : xO X c4_deriveFold "ChangeRows$Table" 4 B g) (hR : x_R X = xrm (d + 1) 0 0) (hr : (x_meth X).sig.returnType = none) : ∀ (n : Nat) (J : (Nat → Nat → Int64)) (v0 : Nat) (v1 : Nat) (v2 : Int32) (v3 : Int32), m4_deriveFold_L4 N K F I n J v0 v1 v2 v3 = some J' → xV X B 4 (xZ X B 0 0 (xq none (xP g B N K I J' F))) 0 0 (xP g B N K I J F) 4 [(0, .ref (B + v0)), (1, .ref (B + v1)), (2, .int v2), (3, .int v3)] [] := by
  intro n
  induction n with
  | zero =>
    intro J v0 v1 v2 v3 h
    cases h
  | succ n ih =>
    intro J v0 v1 v2 v3 h
    rw [m4_deriveFold_L4] at h
    refine x_iload_n hX d4_deriveFold_4 rfl rfl ?_
    refine x_bipush (v := 64) hX d4_deriveFold_5 (by decide) ?_
    refine x_icmp_ge (tgt := 88) hX d4_deriveFold_7 (by decide) (fun hc => ?_) (fun hc => ?_)
    · rw [if_pos hc] at h
      cases h
      exact x_vret hX hr d4_deriveFold_88 (fun H hP => ⟨rfl, hP⟩)
    · rw [if_neg hc] at h
      refine x_aload_n hX d4_deriveFold_10 rfl rfl ?_
      refine x_iload_n hX d4_deriveFold_11 rfl rfl ?_
      obtain ⟨hg1, h⟩ := x_gd h
      obtain ⟨x2, eb3, h⟩ := x_bd h
      refine x_callV hX hR (c_m3_holds (l := x_l X) (d := d + 0) eb3) kX4_78 kN3_holds kE3_holds xc3.1 hg1.1 hg1.2 rfl rfl (Nat.le_of_ble_eq_true rfl) ⟨Nat.le_refl 0, Nat.le_refl 0⟩ d4_deriveFold_12 (x_kki ?_)
      refine x_if_eq (tgt := 62) hX d4_deriveFold_15 (by decide) (fun hc => ?_) (fun hc => ?_)
      · rw [if_pos hc] at h
        exact t_m4_deriveFold_B62 hX hR hr ih _ _ _ _ _ h
      · rw [if_neg hc] at h
        refine x_aload_n hX d4_deriveFold_18 rfl rfl ?_
        obtain ⟨hg4, h⟩ := x_gd h
        obtain ⟨q5, eq5, h⟩ := x_bd h
        refine x_getF (j := 6) hX xc4 hg4.1 hg4.2 (by decide) rfl eq5 kF4_35 d4_deriveFold_19 ?_
        refine x_iload_n hX d4_deriveFold_22 rfl rfl ?_
        refine x_aload_n hX d4_deriveFold_23 rfl rfl ?_
        refine x_aload_n hX d4_deriveFold_24 rfl rfl ?_
        refine x_getF (j := 6) hX xc4 hg4.1 hg4.2 (by decide) rfl eq5 kF4_35 d4_deriveFold_25 ?_
        refine x_iload_n hX d4_deriveFold_28 rfl rfl ?_
        obtain ⟨hg6, h⟩ := x_gd h
        obtain ⟨x7, eb8, h⟩ := x_bd h
        refine x_callV hX hR (c_m3_holds (l := x_l X) (d := d + 0) eb8) kX4_78 kN3_holds kE3_holds xc3.1 hg6.1 hg6.2 rfl rfl (Nat.le_of_ble_eq_true rfl) ⟨Nat.le_refl 0, Nat.le_refl 0⟩ d4_deriveFold_29 (x_kki ?_)
        refine x_if_ne (tgt := 39) hX d4_deriveFold_32 (by decide) (fun hc => ?_) (fun hc => ?_)
        · rw [if_pos hc] at h
          refine x_iconst (v := 0) hX d4_deriveFold_39 (by decide) ?_
          exact t_m4_deriveFold_B40 hX hR hr ih _ _ _ _ _ _ _ _ _ h
        · rw [if_neg (x_nn hc)] at h
          refine x_iconst (v := 1) hX d4_deriveFold_35 (by decide) ?_
          refine x_goto (tgt := 40) hX d4_deriveFold_36 (by decide) ?_
          exact t_m4_deriveFold_B40 hX hR hr ih _ _ _ _ _ _ _ _ _ h
set_option maxRecDepth 100000 in
set_option maxHeartbeats 4000000 in
theorem c_m4_deriveFold {l : Launch} {B d : Nat} {g : xG} {N : Nat} {K : Nat → Nat × Nat} {F : Nat → Nat → Option Nat} {I : (Nat → Nat → Int32)} {J : (Nat → Nat → Int64)} {a0 : Nat} {a1 : Nat} {J' : (Nat → Nat → Int64)} (h : m4_deriveFold N K F I J a0 a1 = some J') : xC l g B (d + 1) 0 0 y4_deriveFold c4_deriveFold 4 none [.ref (B + a0), .ref (B + a1)] (xP g B N K I J F) (xq none (xP g B N K I J' F)) := by
  refine xC_of (by decide) (Nat.le_of_ble_eq_true rfl) (fun X hl hR hr _ hX => ?_)
  refine x_sub (L' := [(0, .ref (B + a0)), (1, .ref (B + a1))]) [0, 1] rfl ?_
  unfold m4_deriveFold at h
  refine x_iconst (v := 0) hX d4_deriveFold_0 (by decide) ?_
  refine x_istore_n hX [(2, .int (0 : Int32)), (0, .ref (B + a0)), (1, .ref (B + a1))] d4_deriveFold_1 rfl (by decide) rfl ?_
  refine x_iconst (v := 0) hX d4_deriveFold_2 (by decide) ?_
  refine x_istore_n hX [(3, .int (0 : Int32)), (2, .int (0 : Int32)), (0, .ref (B + a0)), (1, .ref (B + a1))] d4_deriveFold_3 rfl (by decide) rfl ?_
  refine x_sub [2, 3, 1, 0] rfl ?_
  exact t_m4_deriveFold_L4 hX hR hr _ _ _ _ _ _ h

def m4_deriveJoin_B33 (N : Nat) (K : Nat → Nat × Nat) (F : Nat → Nat → Option Nat) (I : (Nat → Nat → Int32)) (k2 : (Nat → Nat → Int64) → Nat → Nat → Nat → Int32 → Option ((Nat → Nat → Int64))) (J : (Nat → Nat → Int64)) (v0 : Nat) (v1 : Nat) (v2 : Nat) (v3 : Int32) : Option ((Nat → Nat → Int64)) :=
  if v0 < N ∧ K v0 = (0, 4) then (xb (F v0 6) fun q2 => if v1 < N ∧ K v1 = (0, 3) then (xb (F v1 1) fun q4 => if q4 < N ∧ (K q4).1 = 2 ∧ xinb v3 (K q4).2 then (if v2 < N ∧ K v2 = (0, 3) then (xb (F v2 1) fun q7 => if q7 < N ∧ (K q7).1 = 2 ∧ xinb v3 (K q7).2 then (if q2 < N ∧ K q2 = (0, 3) then (xb (m3_set N K F I J q2 v3 ((J q4 (v3.toNatClampNeg)) + (J q7 (v3.toNatClampNeg)))) fun J10 => xlet (v3 + (1 : Int32)) fun x12 => k2 J10 v0 v1 v2 x12) else none) else none) else none) else none) else none) else none
def m4_deriveJoin_L2 (N : Nat) (K : Nat → Nat × Nat) (F : Nat → Nat → Option Nat) (I : (Nat → Nat → Int32)) : Nat → (Nat → Nat → Int64) → Nat → Nat → Nat → Int32 → Option ((Nat → Nat → Int64))
  | 0, _, _, _, _, _ => none
  | n + 1, J, v0, v1, v2, v3 => if (64 : Int32) ≤ v3 then (some J) else (if v1 < N ∧ K v1 = (0, 3) then (xb (m3_holds N K F I J v1 v3) fun x2 => if x2 = 0 then (xlet (v3 + (1 : Int32)) fun x4 => m4_deriveJoin_L2 N K F I n J v0 v1 v2 x4) else (if v2 < N ∧ K v2 = (0, 3) then (xb (m3_holds N K F I J v2 v3) fun x6 => if ¬ x6 = 0 then (m4_deriveJoin_B33 N K F I (m4_deriveJoin_L2 N K F I n) J v0 v1 v2 v3) else (if v0 < N ∧ K v0 = (0, 4) then (if ¬ (J v0 3) = (1 : Int64) then (xlet (v3 + (1 : Int32)) fun x9 => m4_deriveJoin_L2 N K F I n J v0 v1 v2 x9) else (m4_deriveJoin_B33 N K F I (m4_deriveJoin_L2 N K F I n) J v0 v1 v2 v3)) else none)) else none)) else none)
def m4_deriveJoin (N : Nat) (K : Nat → Nat × Nat) (F : Nat → Nat → Option Nat) (I : (Nat → Nat → Int32)) (J : (Nat → Nat → Int64)) (a0 : Nat) (a1 : Nat) (a2 : Nat) : Option ((Nat → Nat → Int64)) :=
  m4_deriveJoin_L2 N K F I xFu J a0 a1 a2 (0 : Int32)
set_option maxRecDepth 100000 in
set_option maxHeartbeats 4000000 in
theorem t_m4_deriveJoin_B33 {X : xX} {B d : Nat} {g : xG} {N : Nat} {K : Nat → Nat × Nat} {F : Nat → Nat → Option Nat} {I : (Nat → Nat → Int32)} {J' : (Nat → Nat → Int64)} {k2 : (Nat → Nat → Int64) → Nat → Nat → Nat → Int32 → Option ((Nat → Nat → Int64))} (hX : xO X c4_deriveJoin "ChangeRows$Table" 4 B g) (hR : x_R X = xrm (d + 1) 0 0) (hr : (x_meth X).sig.returnType = none) (hk2 : ∀ (J : (Nat → Nat → Int64)) (v0 : Nat) (v1 : Nat) (v2 : Nat) (v3 : Int32), k2 J v0 v1 v2 v3 = some J' → xV X B 4 (xZ X B 0 0 (xq none (xP g B N K I J' F))) 0 0 (xP g B N K I J F) 2 [(0, .ref (B + v0)), (1, .ref (B + v1)), (2, .ref (B + v2)), (3, .int v3)] []) (J : (Nat → Nat → Int64)) (v0 : Nat) (v1 : Nat) (v2 : Nat) (v3 : Int32) (h : m4_deriveJoin_B33 N K F I k2 J v0 v1 v2 v3 = some J') : xV X B 4 (xZ X B 0 0 (xq none (xP g B N K I J' F))) 0 0 (xP g B N K I J F) 33 [(0, .ref (B + v0)), (1, .ref (B + v1)), (2, .ref (B + v2)), (3, .int v3)] [] := by
  unfold m4_deriveJoin_B33 at h
  refine x_aload_n hX d4_deriveJoin_33 rfl rfl ?_
  obtain ⟨hg1, h⟩ := x_gd h
  obtain ⟨q2, eq2, h⟩ := x_bd h
  refine x_getF (j := 6) hX xc4 hg1.1 hg1.2 (by decide) rfl eq2 kF4_35 d4_deriveJoin_34 ?_
  refine x_iload_n hX d4_deriveJoin_37 rfl rfl ?_
  refine x_aload_n hX d4_deriveJoin_38 rfl rfl ?_
  obtain ⟨hg3, h⟩ := x_gd h
  obtain ⟨q4, eq4, h⟩ := x_bd h
  refine x_getF (j := 1) hX xc3 hg3.1 hg3.2 (by decide) rfl eq4 kF4_74 d4_deriveJoin_39 ?_
  refine x_iload_n hX d4_deriveJoin_42 rfl rfl ?_
  obtain ⟨hg5, h⟩ := x_gd h
  refine x_lald hX hg5.1 (x_kd hg5.2.1) (x_in hg5.2.2) d4_deriveJoin_43 ?_
  refine x_aload_n hX d4_deriveJoin_44 rfl rfl ?_
  obtain ⟨hg6, h⟩ := x_gd h
  obtain ⟨q7, eq7, h⟩ := x_bd h
  refine x_getF (j := 1) hX xc3 hg6.1 hg6.2 (by decide) rfl eq7 kF4_74 d4_deriveJoin_45 ?_
  refine x_iload_n hX d4_deriveJoin_48 rfl rfl ?_
  obtain ⟨hg8, h⟩ := x_gd h
  refine x_lald hX hg8.1 (x_kd hg8.2.1) (x_in hg8.2.2) d4_deriveJoin_49 ?_
  refine x_ladd hX d4_deriveJoin_50 ?_
  obtain ⟨hg9, h⟩ := x_gd h
  obtain ⟨J10, eb11, h⟩ := x_bd h
  refine x_callV hX hR (c_m3_set (l := x_l X) (d := d + 0) eb11) kX4_82 kN3_set kE3_set xc3.1 hg9.1 hg9.2 rfl rfl (Nat.le_of_ble_eq_true rfl) ⟨Nat.le_refl 0, Nat.le_refl 0⟩ d4_deriveJoin_51 (x_kkv ?_)
  obtain ⟨x12, ex12, h⟩ := x_le h
  refine x_iinc (j := 3) hX [(3, .int x12), (0, .ref (B + v0)), (1, .ref (B + v1)), (2, .ref (B + v2))] d4_deriveJoin_54 rfl (by rw [ex12]; rfl) (by decide) rfl ?_
  refine x_goto (tgt := 2) hX d4_deriveJoin_57 (by decide) ?_
  refine x_sub [1, 2, 3, 0] rfl ?_
  exact hk2 _ _ _ _ _ h
set_option maxRecDepth 100000 in
set_option maxHeartbeats 4000000 in
theorem t_m4_deriveJoin_L2 {X : xX} {B d : Nat} {g : xG} {N : Nat} {K : Nat → Nat × Nat} {F : Nat → Nat → Option Nat} {I : (Nat → Nat → Int32)} {J' : (Nat → Nat → Int64)} (hX : xO X c4_deriveJoin "ChangeRows$Table" 4 B g) (hR : x_R X = xrm (d + 1) 0 0) (hr : (x_meth X).sig.returnType = none) : ∀ (n : Nat) (J : (Nat → Nat → Int64)) (v0 : Nat) (v1 : Nat) (v2 : Nat) (v3 : Int32), m4_deriveJoin_L2 N K F I n J v0 v1 v2 v3 = some J' → xV X B 4 (xZ X B 0 0 (xq none (xP g B N K I J' F))) 0 0 (xP g B N K I J F) 2 [(0, .ref (B + v0)), (1, .ref (B + v1)), (2, .ref (B + v2)), (3, .int v3)] [] := by
  intro n
  induction n with
  | zero =>
    intro J v0 v1 v2 v3 h
    cases h
  | succ n ih =>
    intro J v0 v1 v2 v3 h
    rw [m4_deriveJoin_L2] at h
    refine x_iload_n hX d4_deriveJoin_2 rfl rfl ?_
    refine x_bipush (v := 64) hX d4_deriveJoin_3 (by decide) ?_
    refine x_icmp_ge (tgt := 60) hX d4_deriveJoin_5 (by decide) (fun hc => ?_) (fun hc => ?_)
    · rw [if_pos hc] at h
      cases h
      exact x_vret hX hr d4_deriveJoin_60 (fun H hP => ⟨rfl, hP⟩)
    · rw [if_neg hc] at h
      refine x_aload_n hX d4_deriveJoin_8 rfl rfl ?_
      refine x_iload_n hX d4_deriveJoin_9 rfl rfl ?_
      obtain ⟨hg1, h⟩ := x_gd h
      obtain ⟨x2, eb3, h⟩ := x_bd h
      refine x_callV hX hR (c_m3_holds (l := x_l X) (d := d + 0) eb3) kX4_78 kN3_holds kE3_holds xc3.1 hg1.1 hg1.2 rfl rfl (Nat.le_of_ble_eq_true rfl) ⟨Nat.le_refl 0, Nat.le_refl 0⟩ d4_deriveJoin_10 (x_kki ?_)
      refine x_if_eq (tgt := 54) hX d4_deriveJoin_13 (by decide) (fun hc => ?_) (fun hc => ?_)
      · rw [if_pos hc] at h
        obtain ⟨x4, ex4, h⟩ := x_le h
        refine x_iinc (j := 3) hX [(3, .int x4), (0, .ref (B + v0)), (1, .ref (B + v1)), (2, .ref (B + v2))] d4_deriveJoin_54 rfl (by rw [ex4]; rfl) (by decide) rfl ?_
        refine x_goto (tgt := 2) hX d4_deriveJoin_57 (by decide) ?_
        refine x_sub [1, 2, 3, 0] rfl ?_
        exact ih _ _ _ _ _ h
      · rw [if_neg hc] at h
        refine x_aload_n hX d4_deriveJoin_16 rfl rfl ?_
        refine x_iload_n hX d4_deriveJoin_17 rfl rfl ?_
        obtain ⟨hg5, h⟩ := x_gd h
        obtain ⟨x6, eb7, h⟩ := x_bd h
        refine x_callV hX hR (c_m3_holds (l := x_l X) (d := d + 0) eb7) kX4_78 kN3_holds kE3_holds xc3.1 hg5.1 hg5.2 rfl rfl (Nat.le_of_ble_eq_true rfl) ⟨Nat.le_refl 0, Nat.le_refl 0⟩ d4_deriveJoin_18 (x_kki ?_)
        refine x_if_ne (tgt := 33) hX d4_deriveJoin_21 (by decide) (fun hc => ?_) (fun hc => ?_)
        · rw [if_pos hc] at h
          exact t_m4_deriveJoin_B33 hX hR hr ih _ _ _ _ _ h
        · rw [if_neg (x_nn hc)] at h
          refine x_aload_n hX d4_deriveJoin_24 rfl rfl ?_
          obtain ⟨hg8, h⟩ := x_gd h
          refine x_getJ (j := 3) hX xc4 hg8.1 hg8.2 (by decide) rfl kF4_21 d4_deriveJoin_25 ?_
          refine x_lconst (v := 1) hX d4_deriveJoin_28 (by decide) ?_
          refine x_lif_ne (tgt := 54) hX d4_deriveJoin_29 d4_deriveJoin_30 (by decide) (fun hc => ?_) (fun hc => ?_)
          · rw [if_pos hc] at h
            obtain ⟨x9, ex9, h⟩ := x_le h
            refine x_iinc (j := 3) hX [(3, .int x9), (0, .ref (B + v0)), (1, .ref (B + v1)), (2, .ref (B + v2))] d4_deriveJoin_54 rfl (by rw [ex9]; rfl) (by decide) rfl ?_
            refine x_goto (tgt := 2) hX d4_deriveJoin_57 (by decide) ?_
            refine x_sub [1, 2, 3, 0] rfl ?_
            exact ih _ _ _ _ _ h
          · rw [if_neg (x_nn hc)] at h
            exact t_m4_deriveJoin_B33 hX hR hr ih _ _ _ _ _ h
set_option maxRecDepth 100000 in
set_option maxHeartbeats 4000000 in
theorem c_m4_deriveJoin {l : Launch} {B d : Nat} {g : xG} {N : Nat} {K : Nat → Nat × Nat} {F : Nat → Nat → Option Nat} {I : (Nat → Nat → Int32)} {J : (Nat → Nat → Int64)} {a0 : Nat} {a1 : Nat} {a2 : Nat} {J' : (Nat → Nat → Int64)} (h : m4_deriveJoin N K F I J a0 a1 a2 = some J') : xC l g B (d + 1) 0 0 y4_deriveJoin c4_deriveJoin 4 none [.ref (B + a0), .ref (B + a1), .ref (B + a2)] (xP g B N K I J F) (xq none (xP g B N K I J' F)) := by
  refine xC_of (by decide) (Nat.le_of_ble_eq_true rfl) (fun X hl hR hr _ hX => ?_)
  refine x_sub (L' := [(0, .ref (B + a0)), (1, .ref (B + a1)), (2, .ref (B + a2))]) [0, 1, 2] rfl ?_
  unfold m4_deriveJoin at h
  refine x_iconst (v := 0) hX d4_deriveJoin_0 (by decide) ?_
  refine x_istore_n hX [(3, .int (0 : Int32)), (0, .ref (B + a0)), (1, .ref (B + a1)), (2, .ref (B + a2))] d4_deriveJoin_1 rfl (by decide) rfl ?_
  refine x_sub [1, 2, 3, 0] rfl ?_
  exact t_m4_deriveJoin_L2 hX hR hr _ _ _ _ _ _ h

def m4_deriveMerge_L2 (N : Nat) (K : Nat → Nat × Nat) (F : Nat → Nat → Option Nat) (I : (Nat → Nat → Int32)) : Nat → (Nat → Nat → Int64) → Nat → Nat → Nat → Int32 → Option ((Nat → Nat → Int64))
  | 0, _, _, _, _, _ => none
  | n + 1, J, v0, v1, v2, v3 => if (64 : Int32) ≤ v3 then (some J) else (if v1 < N ∧ K v1 = (0, 3) then (xb (m3_holds N K F I J v1 v3) fun x2 => if x2 = 0 then (if v2 < N ∧ K v2 = (0, 3) then (xb (m3_holds N K F I J v2 v3) fun x5 => if x5 = 0 then (xlet (v3 + (1 : Int32)) fun x7 => m4_deriveMerge_L2 N K F I n J v0 v1 v2 x7) else (if v0 < N ∧ K v0 = (0, 4) then (xb (F v0 6) fun q9 => xb (F v2 1) fun q10 => if q10 < N ∧ (K q10).1 = 2 ∧ xinb v3 (K q10).2 then (if q9 < N ∧ K q9 = (0, 3) then (xb (m3_set N K F I J q9 v3 (J q10 (v3.toNatClampNeg))) fun J13 => xlet (v3 + (1 : Int32)) fun x15 => m4_deriveMerge_L2 N K F I n J13 v0 v1 v2 x15) else none) else none) else none)) else none) else (if v0 < N ∧ K v0 = (0, 4) then (xb (F v0 6) fun q17 => xb (F v1 1) fun q18 => if q18 < N ∧ (K q18).1 = 2 ∧ xinb v3 (K q18).2 then (if q17 < N ∧ K q17 = (0, 3) then (xb (m3_set N K F I J q17 v3 (J q18 (v3.toNatClampNeg))) fun J21 => xlet (v3 + (1 : Int32)) fun x23 => m4_deriveMerge_L2 N K F I n J21 v0 v1 v2 x23) else none) else none) else none)) else none)
def m4_deriveMerge (N : Nat) (K : Nat → Nat × Nat) (F : Nat → Nat → Option Nat) (I : (Nat → Nat → Int32)) (J : (Nat → Nat → Int64)) (a0 : Nat) (a1 : Nat) (a2 : Nat) : Option ((Nat → Nat → Int64)) :=
  m4_deriveMerge_L2 N K F I xFu J a0 a1 a2 (0 : Int32)
set_option maxRecDepth 100000 in
set_option maxHeartbeats 4000000 in
theorem t_m4_deriveMerge_L2 {X : xX} {B d : Nat} {g : xG} {N : Nat} {K : Nat → Nat × Nat} {F : Nat → Nat → Option Nat} {I : (Nat → Nat → Int32)} {J' : (Nat → Nat → Int64)} (hX : xO X c4_deriveMerge "ChangeRows$Table" 4 B g) (hR : x_R X = xrm (d + 1) 0 0) (hr : (x_meth X).sig.returnType = none) : ∀ (n : Nat) (J : (Nat → Nat → Int64)) (v0 : Nat) (v1 : Nat) (v2 : Nat) (v3 : Int32), m4_deriveMerge_L2 N K F I n J v0 v1 v2 v3 = some J' → xV X B 4 (xZ X B 0 0 (xq none (xP g B N K I J' F))) 0 0 (xP g B N K I J F) 2 [(0, .ref (B + v0)), (1, .ref (B + v1)), (2, .ref (B + v2)), (3, .int v3)] [] := by
  intro n
  induction n with
  | zero =>
    intro J v0 v1 v2 v3 h
    cases h
  | succ n ih =>
    intro J v0 v1 v2 v3 h
    rw [m4_deriveMerge_L2] at h
    refine x_iload_n hX d4_deriveMerge_2 rfl rfl ?_
    refine x_bipush (v := 64) hX d4_deriveMerge_3 (by decide) ?_
    refine x_icmp_ge (tgt := 61) hX d4_deriveMerge_5 (by decide) (fun hc => ?_) (fun hc => ?_)
    · rw [if_pos hc] at h
      cases h
      exact x_vret hX hr d4_deriveMerge_61 (fun H hP => ⟨rfl, hP⟩)
    · rw [if_neg hc] at h
      refine x_aload_n hX d4_deriveMerge_8 rfl rfl ?_
      refine x_iload_n hX d4_deriveMerge_9 rfl rfl ?_
      obtain ⟨hg1, h⟩ := x_gd h
      obtain ⟨x2, eb3, h⟩ := x_bd h
      refine x_callV hX hR (c_m3_holds (l := x_l X) (d := d + 0) eb3) kX4_78 kN3_holds kE3_holds xc3.1 hg1.1 hg1.2 rfl rfl (Nat.le_of_ble_eq_true rfl) ⟨Nat.le_refl 0, Nat.le_refl 0⟩ d4_deriveMerge_10 (x_kki ?_)
      refine x_if_eq (tgt := 33) hX d4_deriveMerge_13 (by decide) (fun hc => ?_) (fun hc => ?_)
      · rw [if_pos hc] at h
        refine x_aload_n hX d4_deriveMerge_33 rfl rfl ?_
        refine x_iload_n hX d4_deriveMerge_34 rfl rfl ?_
        obtain ⟨hg4, h⟩ := x_gd h
        obtain ⟨x5, eb6, h⟩ := x_bd h
        refine x_callV hX hR (c_m3_holds (l := x_l X) (d := d + 0) eb6) kX4_78 kN3_holds kE3_holds xc3.1 hg4.1 hg4.2 rfl rfl (Nat.le_of_ble_eq_true rfl) ⟨Nat.le_refl 0, Nat.le_refl 0⟩ d4_deriveMerge_35 (x_kki ?_)
        refine x_if_eq (tgt := 55) hX d4_deriveMerge_38 (by decide) (fun hc => ?_) (fun hc => ?_)
        · rw [if_pos hc] at h
          obtain ⟨x7, ex7, h⟩ := x_le h
          refine x_iinc (j := 3) hX [(3, .int x7), (0, .ref (B + v0)), (1, .ref (B + v1)), (2, .ref (B + v2))] d4_deriveMerge_55 rfl (by rw [ex7]; rfl) (by decide) rfl ?_
          refine x_goto (tgt := 2) hX d4_deriveMerge_58 (by decide) ?_
          refine x_sub [1, 2, 3, 0] rfl ?_
          exact ih _ _ _ _ _ h
        · rw [if_neg hc] at h
          refine x_aload_n hX d4_deriveMerge_41 rfl rfl ?_
          obtain ⟨hg8, h⟩ := x_gd h
          obtain ⟨q9, eq9, h⟩ := x_bd h
          refine x_getF (j := 6) hX xc4 hg8.1 hg8.2 (by decide) rfl eq9 kF4_35 d4_deriveMerge_42 ?_
          refine x_iload_n hX d4_deriveMerge_45 rfl rfl ?_
          refine x_aload_n hX d4_deriveMerge_46 rfl rfl ?_
          obtain ⟨q10, eq10, h⟩ := x_bd h
          refine x_getF (j := 1) hX xc3 hg4.1 hg4.2 (by decide) rfl eq10 kF4_74 d4_deriveMerge_47 ?_
          refine x_iload_n hX d4_deriveMerge_50 rfl rfl ?_
          obtain ⟨hg11, h⟩ := x_gd h
          refine x_lald hX hg11.1 (x_kd hg11.2.1) (x_in hg11.2.2) d4_deriveMerge_51 ?_
          obtain ⟨hg12, h⟩ := x_gd h
          obtain ⟨J13, eb14, h⟩ := x_bd h
          refine x_callV hX hR (c_m3_set (l := x_l X) (d := d + 0) eb14) kX4_82 kN3_set kE3_set xc3.1 hg12.1 hg12.2 rfl rfl (Nat.le_of_ble_eq_true rfl) ⟨Nat.le_refl 0, Nat.le_refl 0⟩ d4_deriveMerge_52 (x_kkv ?_)
          obtain ⟨x15, ex15, h⟩ := x_le h
          refine x_iinc (j := 3) hX [(3, .int x15), (0, .ref (B + v0)), (1, .ref (B + v1)), (2, .ref (B + v2))] d4_deriveMerge_55 rfl (by rw [ex15]; rfl) (by decide) rfl ?_
          refine x_goto (tgt := 2) hX d4_deriveMerge_58 (by decide) ?_
          refine x_sub [1, 2, 3, 0] rfl ?_
          exact ih _ _ _ _ _ h
      · rw [if_neg hc] at h
        refine x_aload_n hX d4_deriveMerge_16 rfl rfl ?_
        obtain ⟨hg16, h⟩ := x_gd h
        obtain ⟨q17, eq17, h⟩ := x_bd h
        refine x_getF (j := 6) hX xc4 hg16.1 hg16.2 (by decide) rfl eq17 kF4_35 d4_deriveMerge_17 ?_
        refine x_iload_n hX d4_deriveMerge_20 rfl rfl ?_
        refine x_aload_n hX d4_deriveMerge_21 rfl rfl ?_
        obtain ⟨q18, eq18, h⟩ := x_bd h
        refine x_getF (j := 1) hX xc3 hg1.1 hg1.2 (by decide) rfl eq18 kF4_74 d4_deriveMerge_22 ?_
        refine x_iload_n hX d4_deriveMerge_25 rfl rfl ?_
        obtain ⟨hg19, h⟩ := x_gd h
        refine x_lald hX hg19.1 (x_kd hg19.2.1) (x_in hg19.2.2) d4_deriveMerge_26 ?_
        obtain ⟨hg20, h⟩ := x_gd h
        obtain ⟨J21, eb22, h⟩ := x_bd h
        refine x_callV hX hR (c_m3_set (l := x_l X) (d := d + 0) eb22) kX4_82 kN3_set kE3_set xc3.1 hg20.1 hg20.2 rfl rfl (Nat.le_of_ble_eq_true rfl) ⟨Nat.le_refl 0, Nat.le_refl 0⟩ d4_deriveMerge_27 (x_kkv ?_)
        refine x_goto (tgt := 55) hX d4_deriveMerge_30 (by decide) ?_
        obtain ⟨x23, ex23, h⟩ := x_le h
        refine x_iinc (j := 3) hX [(3, .int x23), (0, .ref (B + v0)), (1, .ref (B + v1)), (2, .ref (B + v2))] d4_deriveMerge_55 rfl (by rw [ex23]; rfl) (by decide) rfl ?_
        refine x_goto (tgt := 2) hX d4_deriveMerge_58 (by decide) ?_
        refine x_sub [1, 2, 3, 0] rfl ?_
        exact ih _ _ _ _ _ h
set_option maxRecDepth 100000 in
set_option maxHeartbeats 4000000 in
theorem c_m4_deriveMerge {l : Launch} {B d : Nat} {g : xG} {N : Nat} {K : Nat → Nat × Nat} {F : Nat → Nat → Option Nat} {I : (Nat → Nat → Int32)} {J : (Nat → Nat → Int64)} {a0 : Nat} {a1 : Nat} {a2 : Nat} {J' : (Nat → Nat → Int64)} (h : m4_deriveMerge N K F I J a0 a1 a2 = some J') : xC l g B (d + 1) 0 0 y4_deriveMerge c4_deriveMerge 4 none [.ref (B + a0), .ref (B + a1), .ref (B + a2)] (xP g B N K I J F) (xq none (xP g B N K I J' F)) := by
  refine xC_of (by decide) (Nat.le_of_ble_eq_true rfl) (fun X hl hR hr _ hX => ?_)
  refine x_sub (L' := [(0, .ref (B + a0)), (1, .ref (B + a1)), (2, .ref (B + a2))]) [0, 1, 2] rfl ?_
  unfold m4_deriveMerge at h
  refine x_iconst (v := 0) hX d4_deriveMerge_0 (by decide) ?_
  refine x_istore_n hX [(3, .int (0 : Int32)), (0, .ref (B + a0)), (1, .ref (B + a1)), (2, .ref (B + a2))] d4_deriveMerge_1 rfl (by decide) rfl ?_
  refine x_sub [1, 2, 3, 0] rfl ?_
  exact t_m4_deriveMerge_L2 hX hR hr _ _ _ _ _ _ h

def m4_insertKey_L3 (N : Nat) (K : Nat → Nat × Nat) (F : Nat → Nat → Option Nat) (J : (Nat → Nat → Int64)) : Nat → (Nat → Nat → Int32) → Nat → Int32 → Nat → Int32 → Option ((Nat → Nat → Int32))
  | 0, _, _, _, _, _ => none
  | n + 1, I, v0, v1, v2, v4 => if v4 ≤ 0 then (if v0 < N ∧ K v0 = (0, 4) then (xb (F v0 8) fun q2 => if q2 < N ∧ (K q2).1 = 1 ∧ xinb v4 (K q2).2 then (xlet (xu I q2 (v4.toNatClampNeg) v1) fun I4 => some I4) else none) else none) else (if v0 < N ∧ K v0 = (0, 4) then (xb (F v0 8) fun q6 => if q6 < N ∧ (K q6).1 = 1 ∧ xinb (v4 - (1 : Int32)) (K q6).2 then (if v2 < N ∧ (K v2).1 = 2 ∧ xinb (I q6 ((v4 - (1 : Int32)).toNatClampNeg)) (K v2).2 then (if v2 < N ∧ (K v2).1 = 2 ∧ xinb v1 (K v2).2 then (if (J v2 (v1.toNatClampNeg)) ≤ (J v2 ((I q6 ((v4 - (1 : Int32)).toNatClampNeg)).toNatClampNeg)) then (if q6 < N ∧ (K q6).1 = 1 ∧ xinb v4 (K q6).2 then (xlet (xu I q6 (v4.toNatClampNeg) v1) fun I11 => some I11) else none) else (if q6 < N ∧ (K q6).1 = 1 ∧ xinb v4 (K q6).2 then (xlet (xu I q6 (v4.toNatClampNeg) (I q6 ((v4 - (1 : Int32)).toNatClampNeg))) fun I13 => xlet (v4 + (-1 : Int32)) fun x14 => m4_insertKey_L3 N K F J n I13 v0 v1 v2 x14) else none)) else none) else none) else none) else none)
def m4_insertKey (N : Nat) (K : Nat → Nat × Nat) (F : Nat → Nat → Option Nat) (I : (Nat → Nat → Int32)) (J : (Nat → Nat → Int64)) (a0 : Nat) (a1 : Int32) (a2 : Nat) (a3 : Int32) : Option ((Nat → Nat → Int32)) :=
  m4_insertKey_L3 N K F J xFu I a0 a1 a2 a3
set_option maxRecDepth 100000 in
set_option maxHeartbeats 4000000 in
theorem t_m4_insertKey_L3 {X : xX} {B d : Nat} {g : xG} {N : Nat} {K : Nat → Nat × Nat} {F : Nat → Nat → Option Nat} {J : (Nat → Nat → Int64)} {I' : (Nat → Nat → Int32)} (hX : xO X c4_insertKey "ChangeRows$Table" 5 B g) (hR : x_R X = xrm (d + 0) 0 0) (hr : (x_meth X).sig.returnType = none) : ∀ (n : Nat) (I : (Nat → Nat → Int32)) (v0 : Nat) (v1 : Int32) (v2 : Nat) (v4 : Int32), m4_insertKey_L3 N K F J n I v0 v1 v2 v4 = some I' → xV X B 5 (xZ X B 0 0 (xq none (xP g B N K I' J F))) 0 0 (xP g B N K I J F) 3 [(0, .ref (B + v0)), (1, .int v1), (2, .ref (B + v2)), (4, .int v4)] [] := by
  intro n
  induction n with
  | zero =>
    intro I v0 v1 v2 v4 h
    cases h
  | succ n ih =>
    intro I v0 v1 v2 v4 h
    rw [m4_insertKey_L3] at h
    refine x_iload hX d4_insertKey_3 rfl ?_
    refine x_if_le (tgt := 48) hX d4_insertKey_5 (by decide) (fun hc => ?_) (fun hc => ?_)
    · rw [if_pos hc] at h
      refine x_aload_n hX d4_insertKey_48 rfl rfl ?_
      obtain ⟨hg1, h⟩ := x_gd h
      obtain ⟨q2, eq2, h⟩ := x_bd h
      refine x_getF (j := 8) hX xc4 hg1.1 hg1.2 (by decide) rfl eq2 kF4_41 d4_insertKey_49 ?_
      refine x_iload hX d4_insertKey_52 rfl ?_
      refine x_iload_n hX d4_insertKey_54 rfl rfl ?_
      obtain ⟨hg3, h⟩ := x_gd h
      refine x_iast hX hg3.1 (x_kd hg3.2.1) (x_in hg3.2.2) d4_insertKey_55 ?_
      obtain ⟨I4, eI4, h⟩ := x_le h
      rw [← eI4]
      cases h
      exact x_vret hX hr d4_insertKey_56 (fun H hP => ⟨rfl, hP⟩)
    · rw [if_neg hc] at h
      refine x_aload_n hX d4_insertKey_8 rfl rfl ?_
      refine x_aload_n hX d4_insertKey_9 rfl rfl ?_
      obtain ⟨hg5, h⟩ := x_gd h
      obtain ⟨q6, eq6, h⟩ := x_bd h
      refine x_getF (j := 8) hX xc4 hg5.1 hg5.2 (by decide) rfl eq6 kF4_41 d4_insertKey_10 ?_
      refine x_iload hX d4_insertKey_13 rfl ?_
      refine x_iconst (v := 1) hX d4_insertKey_15 (by decide) ?_
      refine x_isub hX d4_insertKey_16 ?_
      obtain ⟨hg7, h⟩ := x_gd h
      refine x_iald hX hg7.1 (x_kd hg7.2.1) (x_in hg7.2.2) d4_insertKey_17 ?_
      obtain ⟨hg8, h⟩ := x_gd h
      refine x_lald hX hg8.1 (x_kd hg8.2.1) (x_in hg8.2.2) d4_insertKey_18 ?_
      refine x_aload_n hX d4_insertKey_19 rfl rfl ?_
      refine x_iload_n hX d4_insertKey_20 rfl rfl ?_
      obtain ⟨hg9, h⟩ := x_gd h
      refine x_lald hX hg9.1 (x_kd hg9.2.1) (x_in hg9.2.2) d4_insertKey_21 ?_
      refine x_lif_ge (tgt := 48) hX d4_insertKey_22 d4_insertKey_23 (by decide) (fun hc => ?_) (fun hc => ?_)
      · rw [if_pos hc] at h
        refine x_aload_n hX d4_insertKey_48 rfl rfl ?_
        refine x_getF (j := 8) hX xc4 hg5.1 hg5.2 (by decide) rfl eq6 kF4_41 d4_insertKey_49 ?_
        refine x_iload hX d4_insertKey_52 rfl ?_
        refine x_iload_n hX d4_insertKey_54 rfl rfl ?_
        obtain ⟨hg10, h⟩ := x_gd h
        refine x_iast hX hg10.1 (x_kd hg10.2.1) (x_in hg10.2.2) d4_insertKey_55 ?_
        obtain ⟨I11, eI11, h⟩ := x_le h
        rw [← eI11]
        cases h
        exact x_vret hX hr d4_insertKey_56 (fun H hP => ⟨rfl, hP⟩)
      · rw [if_neg hc] at h
        refine x_aload_n hX d4_insertKey_26 rfl rfl ?_
        refine x_getF (j := 8) hX xc4 hg5.1 hg5.2 (by decide) rfl eq6 kF4_41 d4_insertKey_27 ?_
        refine x_iload hX d4_insertKey_30 rfl ?_
        refine x_aload_n hX d4_insertKey_32 rfl rfl ?_
        refine x_getF (j := 8) hX xc4 hg5.1 hg5.2 (by decide) rfl eq6 kF4_41 d4_insertKey_33 ?_
        refine x_iload hX d4_insertKey_36 rfl ?_
        refine x_iconst (v := 1) hX d4_insertKey_38 (by decide) ?_
        refine x_isub hX d4_insertKey_39 ?_
        refine x_iald hX hg7.1 (x_kd hg7.2.1) (x_in hg7.2.2) d4_insertKey_40 ?_
        obtain ⟨hg12, h⟩ := x_gd h
        refine x_iast hX hg12.1 (x_kd hg12.2.1) (x_in hg12.2.2) d4_insertKey_41 ?_
        obtain ⟨I13, eI13, h⟩ := x_le h
        rw [← eI13]
        obtain ⟨x14, ex14, h⟩ := x_le h
        refine x_iinc (j := 3) hX [(4, .int x14), (0, .ref (B + v0)), (1, .int v1), (2, .ref (B + v2))] d4_insertKey_42 rfl (by rw [ex14]; rfl) (by decide) rfl ?_
        refine x_goto (tgt := 3) hX d4_insertKey_45 (by decide) ?_
        refine x_sub [1, 2, 3, 0] rfl ?_
        exact ih _ _ _ _ _ h
set_option maxRecDepth 100000 in
set_option maxHeartbeats 4000000 in
theorem c_m4_insertKey {l : Launch} {B d : Nat} {g : xG} {N : Nat} {K : Nat → Nat × Nat} {F : Nat → Nat → Option Nat} {I : (Nat → Nat → Int32)} {J : (Nat → Nat → Int64)} {a0 : Nat} {a1 : Int32} {a2 : Nat} {a3 : Int32} {I' : (Nat → Nat → Int32)} (h : m4_insertKey N K F I J a0 a1 a2 a3 = some I') : xC l g B (d + 0) 0 0 y4_insertKey c4_insertKey 5 none [.ref (B + a0), .int a1, .ref (B + a2), .int a3] (xP g B N K I J F) (xq none (xP g B N K I' J F)) := by
  refine xC_of (by decide) (Nat.le_of_ble_eq_true rfl) (fun X hl hR hr _ hX => ?_)
  refine x_sub (L' := [(0, .ref (B + a0)), (1, .int a1), (2, .ref (B + a2)), (3, .int a3)]) [0, 1, 2, 3] rfl ?_
  unfold m4_insertKey at h
  refine x_iload_n hX d4_insertKey_0 rfl rfl ?_
  refine x_istore hX [(4, .int a3), (0, .ref (B + a0)), (1, .int a1), (2, .ref (B + a2)), (3, .int a3)] d4_insertKey_1 (by decide) rfl ?_
  refine x_sub [1, 2, 3, 0] rfl ?_
  exact t_m4_insertKey_L3 hX hR hr _ _ _ _ _ _ h

def m4_deriveBest_L39 (N : Nat) (K : Nat → Nat × Nat) (F : Nat → Nat → Option Nat) : Nat → (Nat → Nat → Int32) → (Nat → Nat → Int64) → Nat → Nat → Int32 → Int32 → Option ((Nat → Nat → Int32) × (Nat → Nat → Int64))
  | 0, _, _, _, _, _, _ => none
  | n + 1, I, J, v0, v1, v2, v3 => if v2 ≤ v3 then (some (I, J)) else (if v0 < N ∧ K v0 = (0, 4) then (if (J v0 3) ≤ (v3.toInt64) then (some (I, J)) else (xb (F v0 6) fun q2 => xb (F v0 8) fun q3 => if q3 < N ∧ (K q3).1 = 1 ∧ xinb v3 (K q3).2 then (if v1 < N ∧ K v1 = (0, 3) then (xb (F v1 1) fun q6 => if q6 < N ∧ (K q6).1 = 2 ∧ xinb (I q3 (v3.toNatClampNeg)) (K q6).2 then (if q2 < N ∧ K q2 = (0, 3) then (xb (m3_set N K F I J q2 (I q3 (v3.toNatClampNeg)) (J q6 ((I q3 (v3.toNatClampNeg)).toNatClampNeg))) fun J9 => xlet (v3 + (1 : Int32)) fun x11 => m4_deriveBest_L39 N K F n I J9 v0 v1 v2 x11) else none) else none) else none) else none)) else none)
def m4_deriveBest_L4 (N : Nat) (K : Nat → Nat × Nat) (F : Nat → Nat → Option Nat) : Nat → (Nat → Nat → Int32) → (Nat → Nat → Int64) → Nat → Nat → Int32 → Int32 → Option ((Nat → Nat → Int32) × (Nat → Nat → Int64))
  | 0, _, _, _, _, _, _ => none
  | n + 1, I, J, v0, v1, v2, v3 => if (64 : Int32) ≤ v3 then (m4_deriveBest_L39 N K F xFu I J v0 v1 v2 (0 : Int32)) else (if v1 < N ∧ K v1 = (0, 3) then (xb (m3_holds N K F I J v1 v3) fun x2 => if x2 = 0 then (xlet (v3 + (1 : Int32)) fun x4 => m4_deriveBest_L4 N K F n I J v0 v1 v2 x4) else (xb (F v1 1) fun q5 => if v0 < N ∧ K v0 = (0, 4) then (xb (m4_insertKey N K F I J v0 v3 q5 v2) fun I7 => xlet (v2 + (1 : Int32)) fun x9 => xlet (v3 + (1 : Int32)) fun x10 => m4_deriveBest_L4 N K F n I7 J v0 v1 x9 x10) else none)) else none)
def m4_deriveBest (N : Nat) (K : Nat → Nat × Nat) (F : Nat → Nat → Option Nat) (I : (Nat → Nat → Int32)) (J : (Nat → Nat → Int64)) (a0 : Nat) (a1 : Nat) : Option ((Nat → Nat → Int32) × (Nat → Nat → Int64)) :=
  m4_deriveBest_L4 N K F xFu I J a0 a1 (0 : Int32) (0 : Int32)
set_option maxRecDepth 100000 in
set_option maxHeartbeats 4000000 in
theorem t_m4_deriveBest_L39 {X : xX} {B d : Nat} {g : xG} {N : Nat} {K : Nat → Nat × Nat} {F : Nat → Nat → Option Nat} {I' : (Nat → Nat → Int32)} {J' : (Nat → Nat → Int64)} (hX : xO X c4_deriveBest "ChangeRows$Table" 4 B g) (hR : x_R X = xrm (d + 1) 0 0) (hr : (x_meth X).sig.returnType = none) : ∀ (n : Nat) (I : (Nat → Nat → Int32)) (J : (Nat → Nat → Int64)) (v0 : Nat) (v1 : Nat) (v2 : Int32) (v3 : Int32), m4_deriveBest_L39 N K F n I J v0 v1 v2 v3 = some (I', J') → xV X B 4 (xZ X B 0 0 (xq none (xP g B N K I' J' F))) 0 0 (xP g B N K I J F) 39 [(0, .ref (B + v0)), (1, .ref (B + v1)), (2, .int v2), (3, .int v3)] [] := by
  intro n
  induction n with
  | zero =>
    intro I J v0 v1 v2 v3 h
    cases h
  | succ n ih =>
    intro I J v0 v1 v2 v3 h
    rw [m4_deriveBest_L39] at h
    refine x_iload_n hX d4_deriveBest_39 rfl rfl ?_
    refine x_iload_n hX d4_deriveBest_40 rfl rfl ?_
    refine x_icmp_ge (tgt := 84) hX d4_deriveBest_41 (by decide) (fun hc => ?_) (fun hc => ?_)
    · rw [if_pos hc] at h
      cases h
      exact x_vret hX hr d4_deriveBest_84 (fun H hP => ⟨rfl, hP⟩)
    · rw [if_neg hc] at h
      refine x_iload_n hX d4_deriveBest_44 rfl rfl ?_
      refine x_i2l hX d4_deriveBest_45 ?_
      refine x_aload_n hX d4_deriveBest_46 rfl rfl ?_
      obtain ⟨hg1, h⟩ := x_gd h
      refine x_getJ (j := 3) hX xc4 hg1.1 hg1.2 (by decide) rfl kF4_21 d4_deriveBest_47 ?_
      refine x_lif_ge (tgt := 84) hX d4_deriveBest_50 d4_deriveBest_51 (by decide) (fun hc => ?_) (fun hc => ?_)
      · rw [if_pos hc] at h
        cases h
        exact x_vret hX hr d4_deriveBest_84 (fun H hP => ⟨rfl, hP⟩)
      · rw [if_neg hc] at h
        refine x_aload_n hX d4_deriveBest_54 rfl rfl ?_
        obtain ⟨q2, eq2, h⟩ := x_bd h
        refine x_getF (j := 6) hX xc4 hg1.1 hg1.2 (by decide) rfl eq2 kF4_35 d4_deriveBest_55 ?_
        refine x_aload_n hX d4_deriveBest_58 rfl rfl ?_
        obtain ⟨q3, eq3, h⟩ := x_bd h
        refine x_getF (j := 8) hX xc4 hg1.1 hg1.2 (by decide) rfl eq3 kF4_41 d4_deriveBest_59 ?_
        refine x_iload_n hX d4_deriveBest_62 rfl rfl ?_
        obtain ⟨hg4, h⟩ := x_gd h
        refine x_iald hX hg4.1 (x_kd hg4.2.1) (x_in hg4.2.2) d4_deriveBest_63 ?_
        refine x_aload_n hX d4_deriveBest_64 rfl rfl ?_
        obtain ⟨hg5, h⟩ := x_gd h
        obtain ⟨q6, eq6, h⟩ := x_bd h
        refine x_getF (j := 1) hX xc3 hg5.1 hg5.2 (by decide) rfl eq6 kF4_74 d4_deriveBest_65 ?_
        refine x_aload_n hX d4_deriveBest_68 rfl rfl ?_
        refine x_getF (j := 8) hX xc4 hg1.1 hg1.2 (by decide) rfl eq3 kF4_41 d4_deriveBest_69 ?_
        refine x_iload_n hX d4_deriveBest_72 rfl rfl ?_
        refine x_iald hX hg4.1 (x_kd hg4.2.1) (x_in hg4.2.2) d4_deriveBest_73 ?_
        obtain ⟨hg7, h⟩ := x_gd h
        refine x_lald hX hg7.1 (x_kd hg7.2.1) (x_in hg7.2.2) d4_deriveBest_74 ?_
        obtain ⟨hg8, h⟩ := x_gd h
        obtain ⟨J9, eb10, h⟩ := x_bd h
        refine x_callV hX hR (c_m3_set (l := x_l X) (d := d + 0) eb10) kX4_82 kN3_set kE3_set xc3.1 hg8.1 hg8.2 rfl rfl (Nat.le_of_ble_eq_true rfl) ⟨Nat.le_refl 0, Nat.le_refl 0⟩ d4_deriveBest_75 (x_kkv ?_)
        obtain ⟨x11, ex11, h⟩ := x_le h
        refine x_iinc (j := 3) hX [(3, .int x11), (0, .ref (B + v0)), (1, .ref (B + v1)), (2, .int v2)] d4_deriveBest_78 rfl (by rw [ex11]; rfl) (by decide) rfl ?_
        refine x_goto (tgt := 39) hX d4_deriveBest_81 (by decide) ?_
        refine x_sub [1, 2, 3, 0] rfl ?_
        exact ih _ _ _ _ _ _ h
set_option maxRecDepth 100000 in
set_option maxHeartbeats 4000000 in
theorem t_m4_deriveBest_L4 {X : xX} {B d : Nat} {g : xG} {N : Nat} {K : Nat → Nat × Nat} {F : Nat → Nat → Option Nat} {I' : (Nat → Nat → Int32)} {J' : (Nat → Nat → Int64)} (hX : xO X c4_deriveBest "ChangeRows$Table" 4 B g) (hR : x_R X = xrm (d + 1) 0 0) (hr : (x_meth X).sig.returnType = none) : ∀ (n : Nat) (I : (Nat → Nat → Int32)) (J : (Nat → Nat → Int64)) (v0 : Nat) (v1 : Nat) (v2 : Int32) (v3 : Int32), m4_deriveBest_L4 N K F n I J v0 v1 v2 v3 = some (I', J') → xV X B 4 (xZ X B 0 0 (xq none (xP g B N K I' J' F))) 0 0 (xP g B N K I J F) 4 [(0, .ref (B + v0)), (1, .ref (B + v1)), (2, .int v2), (3, .int v3)] [] := by
  intro n
  induction n with
  | zero =>
    intro I J v0 v1 v2 v3 h
    cases h
  | succ n ih =>
    intro I J v0 v1 v2 v3 h
    rw [m4_deriveBest_L4] at h
    refine x_iload_n hX d4_deriveBest_4 rfl rfl ?_
    refine x_bipush (v := 64) hX d4_deriveBest_5 (by decide) ?_
    refine x_icmp_ge (tgt := 37) hX d4_deriveBest_7 (by decide) (fun hc => ?_) (fun hc => ?_)
    · rw [if_pos hc] at h
      refine x_iconst (v := 0) hX d4_deriveBest_37 (by decide) ?_
      refine x_istore_n hX [(3, .int (0 : Int32)), (0, .ref (B + v0)), (1, .ref (B + v1)), (2, .int v2)] d4_deriveBest_38 rfl (by decide) rfl ?_
      refine x_sub [1, 2, 3, 0] rfl ?_
      exact t_m4_deriveBest_L39 hX hR hr _ _ _ _ _ _ _ h
    · rw [if_neg hc] at h
      refine x_aload_n hX d4_deriveBest_10 rfl rfl ?_
      refine x_iload_n hX d4_deriveBest_11 rfl rfl ?_
      obtain ⟨hg1, h⟩ := x_gd h
      obtain ⟨x2, eb3, h⟩ := x_bd h
      refine x_callV hX hR (c_m3_holds (l := x_l X) (d := d + 0) eb3) kX4_78 kN3_holds kE3_holds xc3.1 hg1.1 hg1.2 rfl rfl (Nat.le_of_ble_eq_true rfl) ⟨Nat.le_refl 0, Nat.le_refl 0⟩ d4_deriveBest_12 (x_kki ?_)
      refine x_if_eq (tgt := 31) hX d4_deriveBest_15 (by decide) (fun hc => ?_) (fun hc => ?_)
      · rw [if_pos hc] at h
        obtain ⟨x4, ex4, h⟩ := x_le h
        refine x_iinc (j := 3) hX [(3, .int x4), (0, .ref (B + v0)), (1, .ref (B + v1)), (2, .int v2)] d4_deriveBest_31 rfl (by rw [ex4]; rfl) (by decide) rfl ?_
        refine x_goto (tgt := 4) hX d4_deriveBest_34 (by decide) ?_
        refine x_sub [1, 2, 3, 0] rfl ?_
        exact ih _ _ _ _ _ _ h
      · rw [if_neg hc] at h
        refine x_aload_n hX d4_deriveBest_18 rfl rfl ?_
        refine x_iload_n hX d4_deriveBest_19 rfl rfl ?_
        refine x_aload_n hX d4_deriveBest_20 rfl rfl ?_
        obtain ⟨q5, eq5, h⟩ := x_bd h
        refine x_getF (j := 1) hX xc3 hg1.1 hg1.2 (by decide) rfl eq5 kF4_74 d4_deriveBest_21 ?_
        refine x_iload_n hX d4_deriveBest_24 rfl rfl ?_
        obtain ⟨hg6, h⟩ := x_gd h
        obtain ⟨I7, eb8, h⟩ := x_bd h
        refine x_callV hX hR (c_m4_insertKey (l := x_l X) (d := d + 0) eb8) kX4_90 kN4_insertKey kE4_insertKey xc4.1 hg6.1 hg6.2 rfl rfl (Nat.le_of_ble_eq_true rfl) ⟨Nat.le_refl 0, Nat.le_refl 0⟩ d4_deriveBest_25 (x_kkv ?_)
        obtain ⟨x9, ex9, h⟩ := x_le h
        refine x_iinc (j := 2) hX [(2, .int x9), (0, .ref (B + v0)), (1, .ref (B + v1)), (3, .int v3)] d4_deriveBest_28 rfl (by rw [ex9]; rfl) (by decide) rfl ?_
        obtain ⟨x10, ex10, h⟩ := x_le h
        refine x_iinc (j := 3) hX [(3, .int x10), (2, .int x9), (0, .ref (B + v0)), (1, .ref (B + v1))] d4_deriveBest_31 rfl (by rw [ex10]; rfl) (by decide) rfl ?_
        refine x_goto (tgt := 4) hX d4_deriveBest_34 (by decide) ?_
        refine x_sub [2, 3, 1, 0] rfl ?_
        exact ih _ _ _ _ _ _ h
set_option maxRecDepth 100000 in
set_option maxHeartbeats 4000000 in
theorem c_m4_deriveBest {l : Launch} {B d : Nat} {g : xG} {N : Nat} {K : Nat → Nat × Nat} {F : Nat → Nat → Option Nat} {I : (Nat → Nat → Int32)} {J : (Nat → Nat → Int64)} {a0 : Nat} {a1 : Nat} {I' : (Nat → Nat → Int32)} {J' : (Nat → Nat → Int64)} (h : m4_deriveBest N K F I J a0 a1 = some (I', J')) : xC l g B (d + 1) 0 0 y4_deriveBest c4_deriveBest 4 none [.ref (B + a0), .ref (B + a1)] (xP g B N K I J F) (xq none (xP g B N K I' J' F)) := by
  refine xC_of (by decide) (Nat.le_of_ble_eq_true rfl) (fun X hl hR hr _ hX => ?_)
  refine x_sub (L' := [(0, .ref (B + a0)), (1, .ref (B + a1))]) [0, 1] rfl ?_
  unfold m4_deriveBest at h
  refine x_iconst (v := 0) hX d4_deriveBest_0 (by decide) ?_
  refine x_istore_n hX [(2, .int (0 : Int32)), (0, .ref (B + a0)), (1, .ref (B + a1))] d4_deriveBest_1 rfl (by decide) rfl ?_
  refine x_iconst (v := 0) hX d4_deriveBest_2 (by decide) ?_
  refine x_istore_n hX [(3, .int (0 : Int32)), (2, .int (0 : Int32)), (0, .ref (B + a0)), (1, .ref (B + a1))] d4_deriveBest_3 rfl (by decide) rfl ?_
  refine x_sub [2, 3, 1, 0] rfl ?_
  exact t_m4_deriveBest_L4 hX hR hr _ _ _ _ _ _ _ h

def m4_deriveLook_L2 (N : Nat) (K : Nat → Nat × Nat) (F : Nat → Nat → Option Nat) (I : (Nat → Nat → Int32)) : Nat → (Nat → Nat → Int64) → Nat → Nat → Nat → Int32 → Option ((Nat → Nat → Int64))
  | 0, _, _, _, _, _ => none
  | n + 1, J, v0, v1, v2, v3 => if (64 : Int32) ≤ v3 then (some J) else (if v1 < N ∧ K v1 = (0, 3) then (xb (F v1 1) fun q2 => if q2 < N ∧ (K q2).1 = 2 ∧ xinb v3 (K q2).2 then (xlet ((((J q2 (v3.toNatClampNeg)) &&& (63 : Int64)).toInt32)) fun x4 => xb (m3_holds N K F I J v1 v3) fun x5 => if x5 = 0 then (xlet (v3 + (1 : Int32)) fun x7 => m4_deriveLook_L2 N K F I n J v0 v1 v2 x7) else (if v2 < N ∧ K v2 = (0, 3) then (xb (m3_holds N K F I J v2 x4) fun x9 => if x9 = 0 then (xlet (v3 + (1 : Int32)) fun x11 => m4_deriveLook_L2 N K F I n J v0 v1 v2 x11) else (if v0 < N ∧ K v0 = (0, 4) then (xb (F v0 6) fun q13 => xb (F v2 1) fun q14 => if q14 < N ∧ (K q14).1 = 2 ∧ xinb x4 (K q14).2 then (if q13 < N ∧ K q13 = (0, 3) then (xb (m3_set N K F I J q13 v3 (J q14 (x4.toNatClampNeg))) fun J17 => xlet (v3 + (1 : Int32)) fun x19 => m4_deriveLook_L2 N K F I n J17 v0 v1 v2 x19) else none) else none) else none)) else none)) else none) else none)
def m4_deriveLook (N : Nat) (K : Nat → Nat × Nat) (F : Nat → Nat → Option Nat) (I : (Nat → Nat → Int32)) (J : (Nat → Nat → Int64)) (a0 : Nat) (a1 : Nat) (a2 : Nat) : Option ((Nat → Nat → Int64)) :=
  m4_deriveLook_L2 N K F I xFu J a0 a1 a2 (0 : Int32)
set_option maxRecDepth 100000 in
set_option maxHeartbeats 4000000 in
theorem t_m4_deriveLook_L2 {X : xX} {B d : Nat} {g : xG} {N : Nat} {K : Nat → Nat × Nat} {F : Nat → Nat → Option Nat} {I : (Nat → Nat → Int32)} {J' : (Nat → Nat → Int64)} (hX : xO X c4_deriveLook "ChangeRows$Table" 5 B g) (hR : x_R X = xrm (d + 1) 0 0) (hr : (x_meth X).sig.returnType = none) : ∀ (n : Nat) (J : (Nat → Nat → Int64)) (v0 : Nat) (v1 : Nat) (v2 : Nat) (v3 : Int32), m4_deriveLook_L2 N K F I n J v0 v1 v2 v3 = some J' → xV X B 5 (xZ X B 0 0 (xq none (xP g B N K I J' F))) 0 0 (xP g B N K I J F) 2 [(0, .ref (B + v0)), (1, .ref (B + v1)), (2, .ref (B + v2)), (3, .int v3)] [] := by
  intro n
  induction n with
  | zero =>
    intro J v0 v1 v2 v3 h
    cases h
  | succ n ih =>
    intro J v0 v1 v2 v3 h
    rw [m4_deriveLook_L2] at h
    refine x_iload_n hX d4_deriveLook_2 rfl rfl ?_
    refine x_bipush (v := 64) hX d4_deriveLook_3 (by decide) ?_
    refine x_icmp_ge (tgt := 59) hX d4_deriveLook_5 (by decide) (fun hc => ?_) (fun hc => ?_)
    · rw [if_pos hc] at h
      cases h
      exact x_vret hX hr d4_deriveLook_59 (fun H hP => ⟨rfl, hP⟩)
    · rw [if_neg hc] at h
      refine x_aload_n hX d4_deriveLook_8 rfl rfl ?_
      obtain ⟨hg1, h⟩ := x_gd h
      obtain ⟨q2, eq2, h⟩ := x_bd h
      refine x_getF (j := 1) hX xc3 hg1.1 hg1.2 (by decide) rfl eq2 kF4_74 d4_deriveLook_9 ?_
      refine x_iload_n hX d4_deriveLook_12 rfl rfl ?_
      obtain ⟨hg3, h⟩ := x_gd h
      refine x_lald hX hg3.1 (x_kd hg3.2.1) (x_in hg3.2.2) d4_deriveLook_13 ?_
      refine x_ldc2 (v := 63) hX kC4_94 d4_deriveLook_14 ?_
      refine x_land hX d4_deriveLook_17 ?_
      refine x_l2i hX d4_deriveLook_18 ?_
      obtain ⟨x4, ex4, h⟩ := x_le h
      refine x_eqi ex4.symm ?_
      refine x_istore hX [(4, .int x4), (0, .ref (B + v0)), (1, .ref (B + v1)), (2, .ref (B + v2)), (3, .int v3)] d4_deriveLook_19 (by decide) rfl ?_
      refine x_aload_n hX d4_deriveLook_21 rfl rfl ?_
      refine x_iload_n hX d4_deriveLook_22 rfl rfl ?_
      obtain ⟨x5, eb6, h⟩ := x_bd h
      refine x_callV hX hR (c_m3_holds (l := x_l X) (d := d + 0) eb6) kX4_78 kN3_holds kE3_holds xc3.1 hg1.1 hg1.2 rfl rfl (Nat.le_of_ble_eq_true rfl) ⟨Nat.le_refl 0, Nat.le_refl 0⟩ d4_deriveLook_23 (x_kki ?_)
      refine x_if_eq (tgt := 53) hX d4_deriveLook_26 (by decide) (fun hc => ?_) (fun hc => ?_)
      · rw [if_pos hc] at h
        obtain ⟨x7, ex7, h⟩ := x_le h
        refine x_iinc (j := 4) hX [(3, .int x7), (4, .int x4), (0, .ref (B + v0)), (1, .ref (B + v1)), (2, .ref (B + v2))] d4_deriveLook_53 rfl (by rw [ex7]; rfl) (by decide) rfl ?_
        refine x_goto (tgt := 2) hX d4_deriveLook_56 (by decide) ?_
        refine x_sub [2, 3, 4, 0] rfl ?_
        exact ih _ _ _ _ _ h
      · rw [if_neg hc] at h
        refine x_aload_n hX d4_deriveLook_29 rfl rfl ?_
        refine x_iload hX d4_deriveLook_30 rfl ?_
        obtain ⟨hg8, h⟩ := x_gd h
        obtain ⟨x9, eb10, h⟩ := x_bd h
        refine x_callV hX hR (c_m3_holds (l := x_l X) (d := d + 0) eb10) kX4_78 kN3_holds kE3_holds xc3.1 hg8.1 hg8.2 rfl rfl (Nat.le_of_ble_eq_true rfl) ⟨Nat.le_refl 0, Nat.le_refl 0⟩ d4_deriveLook_32 (x_kki ?_)
        refine x_if_eq (tgt := 53) hX d4_deriveLook_35 (by decide) (fun hc => ?_) (fun hc => ?_)
        · rw [if_pos hc] at h
          obtain ⟨x11, ex11, h⟩ := x_le h
          refine x_iinc (j := 4) hX [(3, .int x11), (4, .int x4), (0, .ref (B + v0)), (1, .ref (B + v1)), (2, .ref (B + v2))] d4_deriveLook_53 rfl (by rw [ex11]; rfl) (by decide) rfl ?_
          refine x_goto (tgt := 2) hX d4_deriveLook_56 (by decide) ?_
          refine x_sub [2, 3, 4, 0] rfl ?_
          exact ih _ _ _ _ _ h
        · rw [if_neg hc] at h
          refine x_aload_n hX d4_deriveLook_38 rfl rfl ?_
          obtain ⟨hg12, h⟩ := x_gd h
          obtain ⟨q13, eq13, h⟩ := x_bd h
          refine x_getF (j := 6) hX xc4 hg12.1 hg12.2 (by decide) rfl eq13 kF4_35 d4_deriveLook_39 ?_
          refine x_iload_n hX d4_deriveLook_42 rfl rfl ?_
          refine x_aload_n hX d4_deriveLook_43 rfl rfl ?_
          obtain ⟨q14, eq14, h⟩ := x_bd h
          refine x_getF (j := 1) hX xc3 hg8.1 hg8.2 (by decide) rfl eq14 kF4_74 d4_deriveLook_44 ?_
          refine x_iload hX d4_deriveLook_47 rfl ?_
          obtain ⟨hg15, h⟩ := x_gd h
          refine x_lald hX hg15.1 (x_kd hg15.2.1) (x_in hg15.2.2) d4_deriveLook_49 ?_
          obtain ⟨hg16, h⟩ := x_gd h
          obtain ⟨J17, eb18, h⟩ := x_bd h
          refine x_callV hX hR (c_m3_set (l := x_l X) (d := d + 0) eb18) kX4_82 kN3_set kE3_set xc3.1 hg16.1 hg16.2 rfl rfl (Nat.le_of_ble_eq_true rfl) ⟨Nat.le_refl 0, Nat.le_refl 0⟩ d4_deriveLook_50 (x_kkv ?_)
          obtain ⟨x19, ex19, h⟩ := x_le h
          refine x_iinc (j := 4) hX [(3, .int x19), (4, .int x4), (0, .ref (B + v0)), (1, .ref (B + v1)), (2, .ref (B + v2))] d4_deriveLook_53 rfl (by rw [ex19]; rfl) (by decide) rfl ?_
          refine x_goto (tgt := 2) hX d4_deriveLook_56 (by decide) ?_
          refine x_sub [2, 3, 4, 0] rfl ?_
          exact ih _ _ _ _ _ h
set_option maxRecDepth 100000 in
set_option maxHeartbeats 4000000 in
theorem c_m4_deriveLook {l : Launch} {B d : Nat} {g : xG} {N : Nat} {K : Nat → Nat × Nat} {F : Nat → Nat → Option Nat} {I : (Nat → Nat → Int32)} {J : (Nat → Nat → Int64)} {a0 : Nat} {a1 : Nat} {a2 : Nat} {J' : (Nat → Nat → Int64)} (h : m4_deriveLook N K F I J a0 a1 a2 = some J') : xC l g B (d + 1) 0 0 y4_deriveLook c4_deriveLook 5 none [.ref (B + a0), .ref (B + a1), .ref (B + a2)] (xP g B N K I J F) (xq none (xP g B N K I J' F)) := by
  refine xC_of (by decide) (Nat.le_of_ble_eq_true rfl) (fun X hl hR hr _ hX => ?_)
  refine x_sub (L' := [(0, .ref (B + a0)), (1, .ref (B + a1)), (2, .ref (B + a2))]) [0, 1, 2] rfl ?_
  unfold m4_deriveLook at h
  refine x_iconst (v := 0) hX d4_deriveLook_0 (by decide) ?_
  refine x_istore_n hX [(3, .int (0 : Int32)), (0, .ref (B + a0)), (1, .ref (B + a1)), (2, .ref (B + a2))] d4_deriveLook_1 rfl (by decide) rfl ?_
  refine x_sub [1, 2, 3, 0] rfl ?_
  exact t_m4_deriveLook_L2 hX hR hr _ _ _ _ _ _ h

def m4_derive (N : Nat) (K : Nat → Nat × Nat) (F : Nat → Nat → Option Nat) (I : (Nat → Nat → Int32)) (J : (Nat → Nat → Int64)) (a0 : Nat) (a1 : Nat) (a2 : Nat) : Option ((Nat → Nat → Int32) × (Nat → Nat → Int64)) :=
  if a0 < N ∧ K a0 = (0, 4) then (xb (F a0 6) fun q2 => if q2 < N ∧ K q2 = (0, 3) then (xb (m3_reset N K F I J q2) fun J4 => if (I a0 0) = 1 then (xb (m4_deriveFilter N K F I J4 a0 a1) fun J6 => some (I, J6)) else (if (I a0 0) = 2 then (xb (m4_deriveMap N K F I J4 a0 a1) fun J8 => some (I, J8)) else (if (I a0 0) = 3 then (xb (m4_deriveFold N K F I J4 a0 a1) fun J10 => some (I, J10)) else (if (I a0 0) = 4 then (xb (m4_deriveJoin N K F I J4 a0 a1 a2) fun J12 => some (I, J12)) else (if (I a0 0) = 5 then (xb (m4_deriveMerge N K F I J4 a0 a1 a2) fun J14 => some (I, J14)) else (if (I a0 0) = 6 then (xb (m4_deriveBest N K F I J4 a0 a1) fun (I16, J17) => some (I16, J17)) else (if (I a0 0) = 7 then (xb (m4_deriveLook N K F I J4 a0 a1 a2) fun J19 => some (I, J19)) else (some (I, J4))))))))) else none) else none
set_option maxRecDepth 100000 in
set_option maxHeartbeats 4000000 in
theorem c_m4_derive {l : Launch} {B d : Nat} {g : xG} {N : Nat} {K : Nat → Nat × Nat} {F : Nat → Nat → Option Nat} {I : (Nat → Nat → Int32)} {J : (Nat → Nat → Int64)} {a0 : Nat} {a1 : Nat} {a2 : Nat} {I' : (Nat → Nat → Int32)} {J' : (Nat → Nat → Int64)} (h : m4_derive N K F I J a0 a1 a2 = some (I', J')) : xC l g B (d + 2) 0 0 y4_derive c4_derive 3 none [.ref (B + a0), .ref (B + a1), .ref (B + a2)] (xP g B N K I J F) (xq none (xP g B N K I' J' F)) := by
  refine xC_of (by decide) (Nat.le_of_ble_eq_true rfl) (fun X hl hR hr _ hX => ?_)
  refine x_sub (L' := [(0, .ref (B + a0)), (1, .ref (B + a1)), (2, .ref (B + a2))]) [0, 1, 2] rfl ?_
  unfold m4_derive at h
  refine x_aload_n hX d4_derive_0 rfl rfl ?_
  obtain ⟨hg1, h⟩ := x_gd h
  obtain ⟨q2, eq2, h⟩ := x_bd h
  refine x_getF (j := 6) hX xc4 hg1.1 hg1.2 (by decide) rfl eq2 kF4_35 d4_derive_1 ?_
  obtain ⟨hg3, h⟩ := x_gd h
  obtain ⟨J4, eb5, h⟩ := x_bd h
  refine x_callV hX hR (c_m3_reset (l := x_l X) (d := d + 0) eb5) kX4_48 kN3_reset kE3_reset xc3.1 hg3.1 hg3.2 rfl rfl (Nat.le_of_ble_eq_true rfl) ⟨Nat.le_refl 0, Nat.le_refl 0⟩ d4_derive_4 (x_kkv ?_)
  refine x_aload_n hX d4_derive_7 rfl rfl ?_
  refine x_getI (j := 0) hX xc4 hg1.1 hg1.2 (by decide) rfl kF4_9 d4_derive_8 ?_
  by_cases hs1001 : (I a0 0) = 1
  · rw [if_pos hs1001] at h
    refine x_tableIn (off := 41) (tgt := 52) hX d4_derive_11 (by rw [hs1001]; decide) (by rw [hs1001]; decide) (by rw [hs1001]; rfl) (by decide) ?_
    refine x_aload_n hX d4_derive_52 rfl rfl ?_
    refine x_aload_n hX d4_derive_53 rfl rfl ?_
    obtain ⟨J6, eb7, h⟩ := x_bd h
    refine x_callV hX hR (c_m4_deriveFilter (l := x_l X) (d := d + 0) eb7) kX4_51 kN4_deriveFilter kE4_deriveFilter xc4.1 hg1.1 hg1.2 rfl rfl (Nat.le_of_ble_eq_true rfl) ⟨Nat.le_refl 0, Nat.le_refl 0⟩ d4_derive_54 (x_kkv ?_)
    refine x_goto (tgt := 111) hX d4_derive_57 (by decide) ?_
    cases h
    exact x_vret hX hr d4_derive_111 (fun H hP => ⟨rfl, hP⟩)
  · rw [if_neg hs1001] at h
    by_cases hs1002 : (I a0 0) = 2
    · rw [if_pos hs1002] at h
      refine x_tableIn (off := 49) (tgt := 60) hX d4_derive_11 (by rw [hs1002]; decide) (by rw [hs1002]; decide) (by rw [hs1002]; rfl) (by decide) ?_
      refine x_aload_n hX d4_derive_60 rfl rfl ?_
      refine x_aload_n hX d4_derive_61 rfl rfl ?_
      obtain ⟨J8, eb9, h⟩ := x_bd h
      refine x_callV hX hR (c_m4_deriveMap (l := x_l X) (d := d + 0) eb9) kX4_55 kN4_deriveMap kE4_deriveMap xc4.1 hg1.1 hg1.2 rfl rfl (Nat.le_of_ble_eq_true rfl) ⟨Nat.le_refl 0, Nat.le_refl 0⟩ d4_derive_62 (x_kkv ?_)
      refine x_goto (tgt := 111) hX d4_derive_65 (by decide) ?_
      cases h
      exact x_vret hX hr d4_derive_111 (fun H hP => ⟨rfl, hP⟩)
    · rw [if_neg hs1002] at h
      by_cases hs1003 : (I a0 0) = 3
      · rw [if_pos hs1003] at h
        refine x_tableIn (off := 57) (tgt := 68) hX d4_derive_11 (by rw [hs1003]; decide) (by rw [hs1003]; decide) (by rw [hs1003]; rfl) (by decide) ?_
        refine x_aload_n hX d4_derive_68 rfl rfl ?_
        refine x_aload_n hX d4_derive_69 rfl rfl ?_
        obtain ⟨J10, eb11, h⟩ := x_bd h
        refine x_callV hX hR (c_m4_deriveFold (l := x_l X) (d := d + 0) eb11) kX4_58 kN4_deriveFold kE4_deriveFold xc4.1 hg1.1 hg1.2 rfl rfl (Nat.le_of_ble_eq_true rfl) ⟨Nat.le_refl 0, Nat.le_refl 0⟩ d4_derive_70 (x_kkv ?_)
        refine x_goto (tgt := 111) hX d4_derive_73 (by decide) ?_
        cases h
        exact x_vret hX hr d4_derive_111 (fun H hP => ⟨rfl, hP⟩)
      · rw [if_neg hs1003] at h
        by_cases hs1004 : (I a0 0) = 4
        · rw [if_pos hs1004] at h
          refine x_tableIn (off := 65) (tgt := 76) hX d4_derive_11 (by rw [hs1004]; decide) (by rw [hs1004]; decide) (by rw [hs1004]; rfl) (by decide) ?_
          refine x_aload_n hX d4_derive_76 rfl rfl ?_
          refine x_aload_n hX d4_derive_77 rfl rfl ?_
          refine x_aload_n hX d4_derive_78 rfl rfl ?_
          obtain ⟨J12, eb13, h⟩ := x_bd h
          refine x_callV hX hR (c_m4_deriveJoin (l := x_l X) (d := d + 0) eb13) kX4_61 kN4_deriveJoin kE4_deriveJoin xc4.1 hg1.1 hg1.2 rfl rfl (Nat.le_of_ble_eq_true rfl) ⟨Nat.le_refl 0, Nat.le_refl 0⟩ d4_derive_79 (x_kkv ?_)
          refine x_goto (tgt := 111) hX d4_derive_82 (by decide) ?_
          cases h
          exact x_vret hX hr d4_derive_111 (fun H hP => ⟨rfl, hP⟩)
        · rw [if_neg hs1004] at h
          by_cases hs1005 : (I a0 0) = 5
          · rw [if_pos hs1005] at h
            refine x_tableIn (off := 74) (tgt := 85) hX d4_derive_11 (by rw [hs1005]; decide) (by rw [hs1005]; decide) (by rw [hs1005]; rfl) (by decide) ?_
            refine x_aload_n hX d4_derive_85 rfl rfl ?_
            refine x_aload_n hX d4_derive_86 rfl rfl ?_
            refine x_aload_n hX d4_derive_87 rfl rfl ?_
            obtain ⟨J14, eb15, h⟩ := x_bd h
            refine x_callV hX hR (c_m4_deriveMerge (l := x_l X) (d := d + 0) eb15) kX4_65 kN4_deriveMerge kE4_deriveMerge xc4.1 hg1.1 hg1.2 rfl rfl (Nat.le_of_ble_eq_true rfl) ⟨Nat.le_refl 0, Nat.le_refl 0⟩ d4_derive_88 (x_kkv ?_)
            refine x_goto (tgt := 111) hX d4_derive_91 (by decide) ?_
            cases h
            exact x_vret hX hr d4_derive_111 (fun H hP => ⟨rfl, hP⟩)
          · rw [if_neg hs1005] at h
            by_cases hs1006 : (I a0 0) = 6
            · rw [if_pos hs1006] at h
              refine x_tableIn (off := 83) (tgt := 94) hX d4_derive_11 (by rw [hs1006]; decide) (by rw [hs1006]; decide) (by rw [hs1006]; rfl) (by decide) ?_
              refine x_aload_n hX d4_derive_94 rfl rfl ?_
              refine x_aload_n hX d4_derive_95 rfl rfl ?_
              obtain ⟨⟨I16, J17⟩, eb18, h⟩ := x_bd h
              dsimp only at h
              refine x_callV hX hR (c_m4_deriveBest (l := x_l X) (d := d + 0) eb18) kX4_68 kN4_deriveBest kE4_deriveBest xc4.1 hg1.1 hg1.2 rfl rfl (Nat.le_of_ble_eq_true rfl) ⟨Nat.le_refl 0, Nat.le_refl 0⟩ d4_derive_96 (x_kkv ?_)
              refine x_goto (tgt := 111) hX d4_derive_99 (by decide) ?_
              cases h
              exact x_vret hX hr d4_derive_111 (fun H hP => ⟨rfl, hP⟩)
            · rw [if_neg hs1006] at h
              by_cases hs1007 : (I a0 0) = 7
              · rw [if_pos hs1007] at h
                refine x_tableIn (off := 91) (tgt := 102) hX d4_derive_11 (by rw [hs1007]; decide) (by rw [hs1007]; decide) (by rw [hs1007]; rfl) (by decide) ?_
                refine x_aload_n hX d4_derive_102 rfl rfl ?_
                refine x_aload_n hX d4_derive_103 rfl rfl ?_
                refine x_aload_n hX d4_derive_104 rfl rfl ?_
                obtain ⟨J19, eb20, h⟩ := x_bd h
                refine x_callV hX hR (c_m4_deriveLook (l := x_l X) (d := d + 0) eb20) kX4_71 kN4_deriveLook kE4_deriveLook xc4.1 hg1.1 hg1.2 rfl rfl (Nat.le_of_ble_eq_true rfl) ⟨Nat.le_refl 0, Nat.le_refl 0⟩ d4_derive_105 (x_kkv ?_)
                refine x_goto (tgt := 111) hX d4_derive_108 (by decide) ?_
                cases h
                exact x_vret hX hr d4_derive_111 (fun H hP => ⟨rfl, hP⟩)
              · rw [if_neg hs1007] at h
                refine x_tableOut (tgt := 111) hX d4_derive_11 (x_tout_1_7 hs1001 hs1002 hs1003 hs1004 hs1005 hs1006 hs1007) (by decide) ?_
                cases h
                exact x_vret hX hr d4_derive_111 (fun H hP => ⟨rfl, hP⟩)

def m3_become (N : Nat) (K : Nat → Nat × Nat) (F : Nat → Nat → Option Nat) (I : (Nat → Nat → Int32)) (J : (Nat → Nat → Int64)) (a0 : Nat) (a1 : Nat) : Option ((Nat → Nat → Int64)) :=
  if a1 < N ∧ K a1 = (0, 3) then (if a0 < N ∧ K a0 = (0, 3) then (xlet (xu J a0 0 (J a1 0)) fun J3 => xb (F a1 1) fun q4 => xb (F a0 1) fun q5 => if q4 < N ∧ (K q4).1 = 2 ∧ q5 < N ∧ (K q5).1 = 2 ∧ ¬ (0 : Int32) < 0 ∧ ¬ (0 : Int32) < 0 ∧ ¬ (64 : Int32) < 0 ∧ (0 : Int32).toNatClampNeg + (64 : Int32).toNatClampNeg ≤ (K q4).2 ∧ (0 : Int32).toNatClampNeg + (64 : Int32).toNatClampNeg ≤ (K q5).2 then (xlet (va_up J3 q5 (va_cpy (J3 q4) (J3 q5) (0 : Int32).toNatClampNeg (0 : Int32).toNatClampNeg (64 : Int32).toNatClampNeg)) fun J7 => some J7) else none) else none) else none
set_option maxRecDepth 100000 in
set_option maxHeartbeats 4000000 in
theorem c_m3_become {l : Launch} {B d : Nat} {g : xG} {N : Nat} {K : Nat → Nat × Nat} {F : Nat → Nat → Option Nat} {I : (Nat → Nat → Int32)} {J : (Nat → Nat → Int64)} {a0 : Nat} {a1 : Nat} {J' : (Nat → Nat → Int64)} (h : m3_become N K F I J a0 a1 = some J') : xC l g B (d + 1) 0 0 y3_become c3_become 2 none [.ref (B + a0), .ref (B + a1)] (xP g B N K I J F) (xq none (xP g B N K I J' F)) := by
  refine xC_of (by decide) (Nat.le_of_ble_eq_true rfl) (fun X hl hR hr _ hX => ?_)
  refine x_sub (L' := [(0, .ref (B + a0)), (1, .ref (B + a1))]) [0, 1] rfl ?_
  unfold m3_become at h
  refine x_aload_n hX d3_become_0 rfl rfl ?_
  refine x_aload_n hX d3_become_1 rfl rfl ?_
  obtain ⟨hg1, h⟩ := x_gd h
  refine x_getJ (j := 0) hX xc3 hg1.1 hg1.2 (by decide) rfl kF3_9 d3_become_2 ?_
  obtain ⟨hg2, h⟩ := x_gd h
  refine x_putJ (j := 0) hX xc3 hg2.1 hg2.2 (by decide) rfl kF3_9 (Or.inl rfl) rfl rfl d3_become_5 ?_
  obtain ⟨J3, eJ3, h⟩ := x_le h
  rw [← eJ3]
  refine x_aload_n hX d3_become_8 rfl rfl ?_
  obtain ⟨q4, eq4, h⟩ := x_bd h
  refine x_getF (j := 1) hX xc3 hg1.1 hg1.2 (by decide) rfl eq4 kF3_15 d3_become_9 ?_
  refine x_iconst (v := 0) hX d3_become_12 (by decide) ?_
  refine x_aload_n hX d3_become_13 rfl rfl ?_
  obtain ⟨q5, eq5, h⟩ := x_bd h
  refine x_getF (j := 1) hX xc3 hg2.1 hg2.2 (by decide) rfl eq5 kF3_15 d3_become_14 ?_
  refine x_iconst (v := 0) hX d3_become_17 (by decide) ?_
  refine x_bipush (v := 64) hX d3_become_18 (by decide) ?_
  obtain ⟨hg6, h⟩ := x_gd h
  refine x_copyJ hX hR kM3_31 kNarraycopy kSarraycopy kIS hg6.1 (x_kd hg6.2.1) hg6.2.2.1 (x_kd hg6.2.2.2.1) hg6.2.2.2.2.1 hg6.2.2.2.2.2.1 hg6.2.2.2.2.2.2.1 rfl rfl rfl hg6.2.2.2.2.2.2.2.1 hg6.2.2.2.2.2.2.2.2 (by decide) d3_become_20 ?_
  obtain ⟨J7, eJ7, h⟩ := x_le h
  rw [← eJ7]
  cases h
  exact x_vret hX hr d3_become_23 (fun H hP => ⟨rfl, hP⟩)

def m1_gather (N : Nat) (K : Nat → Nat × Nat) (F : Nat → Nat → Option Nat) (I : (Nat → Nat → Int32)) (J : (Nat → Nat → Int64)) (a0 : Nat) (a1 : Int32) (a2 : Int32) (a3 : Int32) (a4 : Int64) : Option (Int32 × (Nat → Nat → Int32) × (Nat → Nat → Int64)) :=
  if a0 < N ∧ K a0 = (0, 1) then (if (I a0 1) < (40 : Int32) then (xb (F a0 2) fun q2 => if q2 < N ∧ (K q2).1 = 1 ∧ xinb (I a0 1) (K q2).2 then (xlet (xu I q2 ((I a0 1).toNatClampNeg) a1) fun I4 => xb (F a0 3) fun q5 => if q5 < N ∧ (K q5).1 = 1 ∧ xinb (I4 a0 1) (K q5).2 then (xlet (xu I4 q5 ((I4 a0 1).toNatClampNeg) a2) fun I7 => xb (F a0 4) fun q8 => if q8 < N ∧ (K q8).1 = 3 ∧ xinb (I7 a0 1) (K q8).2 then (if a3 = 0 ∨ a3 = 1 then (xlet (xu I7 q8 ((I7 a0 1).toNatClampNeg) a3) fun I11 => xb (F a0 5) fun q12 => if q12 < N ∧ (K q12).1 = 2 ∧ xinb (I11 a0 1) (K q12).2 then (xlet (xu J q12 ((I11 a0 1).toNatClampNeg) a4) fun J14 => xlet (xu I11 a0 1 ((I11 a0 1) + (1 : Int32))) fun I15 => some ((I15 a0 1), I15, J14)) else none) else none) else none) else none) else none) else (some ((-3 : Int32), I, J))) else none
set_option maxRecDepth 100000 in
set_option maxHeartbeats 4000000 in
theorem c_m1_gather {l : Launch} {B d : Nat} {g : xG} {N : Nat} {K : Nat → Nat × Nat} {F : Nat → Nat → Option Nat} {I : (Nat → Nat → Int32)} {J : (Nat → Nat → Int64)} {a0 : Nat} {a1 : Int32} {a2 : Int32} {a3 : Int32} {a4 : Int64} {rv : Int32} {I' : (Nat → Nat → Int32)} {J' : (Nat → Nat → Int64)} (h : m1_gather N K F I J a0 a1 a2 a3 a4 = some (rv, I', J')) : xC l g B (d + 0) 0 0 y1_gather c1_gather 6 (some .int) [.ref (B + a0), .int a1, .int a2, .int a3, .long a4] (xP g B N K I J F) (xq (some (.int rv)) (xP g B N K I' J' F)) := by
  refine xC_of (by decide) (Nat.le_of_ble_eq_true rfl) (fun X hl hR hr _ hX => ?_)
  refine x_sub (L' := [(0, .ref (B + a0)), (1, .int a1), (2, .int a2), (3, .int a3), (4, .long a4)]) [0, 1, 2, 3, 4] rfl ?_
  unfold m1_gather at h
  refine x_aload_n hX d1_gather_0 rfl rfl ?_
  obtain ⟨hg1, h⟩ := x_gd h
  refine x_getI (j := 1) hX xc1 hg1.1 hg1.2 (by decide) rfl kF1_15 d1_gather_1 ?_
  refine x_bipush (v := 40) hX d1_gather_4 (by decide) ?_
  refine x_icmp_lt (tgt := 12) hX d1_gather_6 (by decide) (fun hc => ?_) (fun hc => ?_)
  · rw [if_pos hc] at h
    refine x_aload_n hX d1_gather_12 rfl rfl ?_
    obtain ⟨q2, eq2, h⟩ := x_bd h
    refine x_getF (j := 2) hX xc1 hg1.1 hg1.2 (by decide) rfl eq2 kF1_19 d1_gather_13 ?_
    refine x_aload_n hX d1_gather_16 rfl rfl ?_
    refine x_getI (j := 1) hX xc1 hg1.1 hg1.2 (by decide) rfl kF1_15 d1_gather_17 ?_
    refine x_iload_n hX d1_gather_20 rfl rfl ?_
    obtain ⟨hg3, h⟩ := x_gd h
    refine x_iast hX hg3.1 (x_kd hg3.2.1) (x_in hg3.2.2) d1_gather_21 ?_
    obtain ⟨I4, eI4, h⟩ := x_le h
    rw [← eI4]
    refine x_aload_n hX d1_gather_22 rfl rfl ?_
    obtain ⟨q5, eq5, h⟩ := x_bd h
    refine x_getF (j := 3) hX xc1 hg1.1 hg1.2 (by decide) rfl eq5 kF1_23 d1_gather_23 ?_
    refine x_aload_n hX d1_gather_26 rfl rfl ?_
    refine x_getI (j := 1) hX xc1 hg1.1 hg1.2 (by decide) rfl kF1_15 d1_gather_27 ?_
    refine x_iload_n hX d1_gather_30 rfl rfl ?_
    obtain ⟨hg6, h⟩ := x_gd h
    refine x_iast hX hg6.1 (x_kd hg6.2.1) (x_in hg6.2.2) d1_gather_31 ?_
    obtain ⟨I7, eI7, h⟩ := x_le h
    rw [← eI7]
    refine x_aload_n hX d1_gather_32 rfl rfl ?_
    obtain ⟨q8, eq8, h⟩ := x_bd h
    refine x_getF (j := 4) hX xc1 hg1.1 hg1.2 (by decide) rfl eq8 kF1_26 d1_gather_33 ?_
    refine x_aload_n hX d1_gather_36 rfl rfl ?_
    refine x_getI (j := 1) hX xc1 hg1.1 hg1.2 (by decide) rfl kF1_15 d1_gather_37 ?_
    refine x_iload_n hX d1_gather_40 rfl rfl ?_
    obtain ⟨hg9, h⟩ := x_gd h
    obtain ⟨hg10, h⟩ := x_gd h
    refine x_zast hX hg9.1 (x_kd hg9.2.1) (x_in hg9.2.2) (x_nbool hg10) d1_gather_41 ?_
    obtain ⟨I11, eI11, h⟩ := x_le h
    rw [← eI11]
    refine x_aload_n hX d1_gather_42 rfl rfl ?_
    obtain ⟨q12, eq12, h⟩ := x_bd h
    refine x_getF (j := 5) hX xc1 hg1.1 hg1.2 (by decide) rfl eq12 kF1_30 d1_gather_43 ?_
    refine x_aload_n hX d1_gather_46 rfl rfl ?_
    refine x_getI (j := 1) hX xc1 hg1.1 hg1.2 (by decide) rfl kF1_15 d1_gather_47 ?_
    refine x_lload hX d1_gather_50 rfl ?_
    obtain ⟨hg13, h⟩ := x_gd h
    refine x_last hX hg13.1 (x_kd hg13.2.1) (x_in hg13.2.2) d1_gather_52 ?_
    obtain ⟨J14, eJ14, h⟩ := x_le h
    rw [← eJ14]
    refine x_aload_n hX d1_gather_53 rfl rfl ?_
    refine x_dup hX d1_gather_54 rfl ?_
    refine x_getI (j := 1) hX xc1 hg1.1 hg1.2 (by decide) rfl kF1_15 d1_gather_55 ?_
    refine x_iconst (v := 1) hX d1_gather_58 (by decide) ?_
    refine x_iadd hX d1_gather_59 ?_
    refine x_putI (j := 1) hX xc1 hg1.1 hg1.2 (by decide) rfl kF1_15 (Or.inl rfl) rfl rfl d1_gather_60 ?_
    obtain ⟨I15, eI15, h⟩ := x_le h
    rw [← eI15]
    refine x_aload_n hX d1_gather_63 rfl rfl ?_
    refine x_getI (j := 1) hX xc1 hg1.1 hg1.2 (by decide) rfl kF1_15 d1_gather_64 ?_
    cases h
    exact x_iret hX hr d1_gather_67 (fun H hP => ⟨rfl, hP⟩)
  · rw [if_neg hc] at h
    refine x_bipush (v := -3) hX d1_gather_9 (by decide) ?_
    cases h
    exact x_iret hX hr d1_gather_11 (fun H hP => ⟨rfl, hP⟩)

def m3_write (N : Nat) (K : Nat → Nat × Nat) (F : Nat → Nat → Option Nat) (I : (Nat → Nat → Int32)) (J : (Nat → Nat → Int64)) (a0 : Nat) (a1 : Int32) (a2 : Int32) (a3 : Int64) : Option ((Nat → Nat → Int64)) :=
  if a2 = 0 then (if a0 < N ∧ K a0 = (0, 3) then (xlet (xu J a0 0 ((J a0 0) &&& (((1 : Int64) <<< (a1.toInt64 &&& 63)) ^^^ ((-1) : Int64)))) fun J2 => xb (F a0 1) fun q3 => if q3 < N ∧ (K q3).1 = 2 ∧ xinb a1 (K q3).2 then (xlet (xu J2 q3 (a1.toNatClampNeg) (0 : Int64)) fun J5 => some J5) else none) else none) else (if a0 < N ∧ K a0 = (0, 3) then (xb (m3_set N K F I J a0 a1 a3) fun J7 => some J7) else none)
set_option maxRecDepth 100000 in
set_option maxHeartbeats 4000000 in
theorem c_m3_write {l : Launch} {B d : Nat} {g : xG} {N : Nat} {K : Nat → Nat × Nat} {F : Nat → Nat → Option Nat} {I : (Nat → Nat → Int32)} {J : (Nat → Nat → Int64)} {a0 : Nat} {a1 : Int32} {a2 : Int32} {a3 : Int64} {J' : (Nat → Nat → Int64)} (h : m3_write N K F I J a0 a1 a2 a3 = some J') : xC l g B (d + 1) 0 0 y3_write c3_write 5 none [.ref (B + a0), .int a1, .int a2, .long a3] (xP g B N K I J F) (xq none (xP g B N K I J' F)) := by
  refine xC_of (by decide) (Nat.le_of_ble_eq_true rfl) (fun X hl hR hr _ hX => ?_)
  refine x_sub (L' := [(0, .ref (B + a0)), (1, .int a1), (2, .int a2), (3, .long a3)]) [0, 1, 2, 3] rfl ?_
  unfold m3_write at h
  refine x_iload_n hX d3_write_0 rfl rfl ?_
  refine x_if_eq (tgt := 13) hX d3_write_1 (by decide) (fun hc => ?_) (fun hc => ?_)
  · rw [if_pos hc] at h
    refine x_aload_n hX d3_write_13 rfl rfl ?_
    refine x_dup hX d3_write_14 rfl ?_
    obtain ⟨hg1, h⟩ := x_gd h
    refine x_getJ (j := 0) hX xc3 hg1.1 hg1.2 (by decide) rfl kF3_9 d3_write_15 ?_
    refine x_lconst (v := 1) hX d3_write_18 (by decide) ?_
    refine x_iload_n hX d3_write_19 rfl rfl ?_
    refine x_lshl hX d3_write_20 ?_
    refine x_ldc2 (v := (-1)) hX kC3_41 d3_write_21 ?_
    refine x_lxor hX d3_write_24 ?_
    refine x_land hX d3_write_25 ?_
    refine x_putJ (j := 0) hX xc3 hg1.1 hg1.2 (by decide) rfl kF3_9 (Or.inl rfl) rfl rfl d3_write_26 ?_
    obtain ⟨J2, eJ2, h⟩ := x_le h
    rw [← eJ2]
    refine x_aload_n hX d3_write_29 rfl rfl ?_
    obtain ⟨q3, eq3, h⟩ := x_bd h
    refine x_getF (j := 1) hX xc3 hg1.1 hg1.2 (by decide) rfl eq3 kF3_15 d3_write_30 ?_
    refine x_iload_n hX d3_write_33 rfl rfl ?_
    refine x_lconst (v := 0) hX d3_write_34 (by decide) ?_
    obtain ⟨hg4, h⟩ := x_gd h
    refine x_last hX hg4.1 (x_kd hg4.2.1) (x_in hg4.2.2) d3_write_35 ?_
    obtain ⟨J5, eJ5, h⟩ := x_le h
    rw [← eJ5]
    cases h
    exact x_vret hX hr d3_write_36 (fun H hP => ⟨rfl, hP⟩)
  · rw [if_neg hc] at h
    refine x_aload_n hX d3_write_4 rfl rfl ?_
    refine x_iload_n hX d3_write_5 rfl rfl ?_
    refine x_lload_n hX d3_write_6 rfl rfl ?_
    obtain ⟨hg6, h⟩ := x_gd h
    obtain ⟨J7, eb8, h⟩ := x_bd h
    refine x_callV hX hR (c_m3_set (l := x_l X) (d := d + 0) eb8) kX3_37 kN3_set kE3_set xc3.1 hg6.1 hg6.2 rfl rfl (Nat.le_of_ble_eq_true rfl) ⟨Nat.le_refl 0, Nat.le_refl 0⟩ d3_write_7 (x_kkv ?_)
    refine x_goto (tgt := 36) hX d3_write_10 (by decide) ?_
    cases h
    exact x_vret hX hr d3_write_36 (fun H hP => ⟨rfl, hP⟩)

def m3_differing_L13 (N : Nat) (K : Nat → Nat × Nat) (F : Nat → Nat → Option Nat) (I : (Nat → Nat → Int32)) (J : (Nat → Nat → Int64)) : Nat → Nat → Nat → Int64 → Int32 → Option (Int64)
  | 0, _, _, _, _ => none
  | n + 1, v0, v1, v2, v4 => if (64 : Int32) ≤ v4 then (some v2) else (if v0 < N ∧ K v0 = (0, 3) then (xb (F v0 1) fun q2 => if q2 < N ∧ (K q2).1 = 2 ∧ xinb v4 (K q2).2 then (if v1 < N ∧ K v1 = (0, 3) then (xb (F v1 1) fun q5 => if q5 < N ∧ (K q5).1 = 2 ∧ xinb v4 (K q5).2 then (if (J q2 (v4.toNatClampNeg)) = (J q5 (v4.toNatClampNeg)) then (xlet (v4 + (1 : Int32)) fun x7 => m3_differing_L13 N K F I J n v0 v1 v2 x7) else (xlet ((v2 ||| ((1 : Int64) <<< (v4.toInt64 &&& 63)))) fun x8 => xlet (v4 + (1 : Int32)) fun x9 => m3_differing_L13 N K F I J n v0 v1 x8 x9)) else none) else none) else none) else none)
def m3_differing (N : Nat) (K : Nat → Nat × Nat) (F : Nat → Nat → Option Nat) (I : (Nat → Nat → Int32)) (J : (Nat → Nat → Int64)) (a0 : Nat) (a1 : Nat) : Option (Int64) :=
  if a0 < N ∧ K a0 = (0, 3) then (if a1 < N ∧ K a1 = (0, 3) then (xlet (((J a0 0) ^^^ (J a1 0))) fun x3 => m3_differing_L13 N K F I J xFu a0 a1 x3 (0 : Int32)) else none) else none
set_option maxRecDepth 100000 in
set_option maxHeartbeats 4000000 in
theorem t_m3_differing_L13 {X : xX} {B d : Nat} {g : xG} {N : Nat} {K : Nat → Nat × Nat} {F : Nat → Nat → Option Nat} {I : (Nat → Nat → Int32)} {J : (Nat → Nat → Int64)} {rv : Int64} (hX : xO X c3_differing "ChangeRows$Rows" 5 B g) (hR : x_R X = xrm (d + 0) 0 0) (hr : (x_meth X).sig.returnType = (some .long)) : ∀ (n : Nat) (v0 : Nat) (v1 : Nat) (v2 : Int64) (v4 : Int32), m3_differing_L13 N K F I J n v0 v1 v2 v4 = some rv → xV X B 5 (xZ X B 0 0 (xq (some (.long rv)) (xP g B N K I J F))) 0 0 (xP g B N K I J F) 13 [(0, .ref (B + v0)), (1, .ref (B + v1)), (2, .long v2), (4, .int v4)] [] := by
  intro n
  induction n with
  | zero =>
    intro v0 v1 v2 v4 h
    cases h
  | succ n ih =>
    intro v0 v1 v2 v4 h
    rw [m3_differing_L13] at h
    refine x_iload hX d3_differing_13 rfl ?_
    refine x_bipush (v := 64) hX d3_differing_15 (by decide) ?_
    refine x_icmp_ge (tgt := 51) hX d3_differing_17 (by decide) (fun hc => ?_) (fun hc => ?_)
    · rw [if_pos hc] at h
      refine x_lload_n hX d3_differing_51 rfl rfl ?_
      cases h
      exact x_lret hX hr d3_differing_52 (fun H hP => ⟨rfl, hP⟩)
    · rw [if_neg hc] at h
      refine x_aload_n hX d3_differing_20 rfl rfl ?_
      obtain ⟨hg1, h⟩ := x_gd h
      obtain ⟨q2, eq2, h⟩ := x_bd h
      refine x_getF (j := 1) hX xc3 hg1.1 hg1.2 (by decide) rfl eq2 kF3_15 d3_differing_21 ?_
      refine x_iload hX d3_differing_24 rfl ?_
      obtain ⟨hg3, h⟩ := x_gd h
      refine x_lald hX hg3.1 (x_kd hg3.2.1) (x_in hg3.2.2) d3_differing_26 ?_
      refine x_aload_n hX d3_differing_27 rfl rfl ?_
      obtain ⟨hg4, h⟩ := x_gd h
      obtain ⟨q5, eq5, h⟩ := x_bd h
      refine x_getF (j := 1) hX xc3 hg4.1 hg4.2 (by decide) rfl eq5 kF3_15 d3_differing_28 ?_
      refine x_iload hX d3_differing_31 rfl ?_
      obtain ⟨hg6, h⟩ := x_gd h
      refine x_lald hX hg6.1 (x_kd hg6.2.1) (x_in hg6.2.2) d3_differing_33 ?_
      refine x_lif_eq (tgt := 45) hX d3_differing_34 d3_differing_35 (by decide) (fun hc => ?_) (fun hc => ?_)
      · rw [if_pos hc] at h
        obtain ⟨x7, ex7, h⟩ := x_le h
        refine x_iinc (j := 3) hX [(4, .int x7), (0, .ref (B + v0)), (1, .ref (B + v1)), (2, .long v2)] d3_differing_45 rfl (by rw [ex7]; rfl) (by decide) rfl ?_
        refine x_goto (tgt := 13) hX d3_differing_48 (by decide) ?_
        refine x_sub [1, 2, 3, 0] rfl ?_
        exact ih _ _ _ _ h
      · rw [if_neg hc] at h
        refine x_lload_n hX d3_differing_38 rfl rfl ?_
        refine x_lconst (v := 1) hX d3_differing_39 (by decide) ?_
        refine x_iload hX d3_differing_40 rfl ?_
        refine x_lshl hX d3_differing_42 ?_
        refine x_lor hX d3_differing_43 ?_
        obtain ⟨x8, ex8, h⟩ := x_le h
        refine x_eql ex8.symm ?_
        refine x_lstore_n hX [(2, .long x8), (0, .ref (B + v0)), (1, .ref (B + v1)), (4, .int v4)] d3_differing_44 rfl (by decide) rfl ?_
        obtain ⟨x9, ex9, h⟩ := x_le h
        refine x_iinc (j := 3) hX [(4, .int x9), (2, .long x8), (0, .ref (B + v0)), (1, .ref (B + v1))] d3_differing_45 rfl (by rw [ex9]; rfl) (by decide) rfl ?_
        refine x_goto (tgt := 13) hX d3_differing_48 (by decide) ?_
        refine x_sub [2, 3, 1, 0] rfl ?_
        exact ih _ _ _ _ h
set_option maxRecDepth 100000 in
set_option maxHeartbeats 4000000 in
theorem c_m3_differing {l : Launch} {B d : Nat} {g : xG} {N : Nat} {K : Nat → Nat × Nat} {F : Nat → Nat → Option Nat} {I : (Nat → Nat → Int32)} {J : (Nat → Nat → Int64)} {a0 : Nat} {a1 : Nat} {rv : Int64} (h : m3_differing N K F I J a0 a1 = some rv) : xC l g B (d + 0) 0 0 y3_differing c3_differing 5 (some .long) [.ref (B + a0), .ref (B + a1)] (xP g B N K I J F) (xq (some (.long rv)) (xP g B N K I J F)) := by
  refine xC_of (by decide) (Nat.le_of_ble_eq_true rfl) (fun X hl hR hr _ hX => ?_)
  refine x_sub (L' := [(0, .ref (B + a0)), (1, .ref (B + a1))]) [0, 1] rfl ?_
  unfold m3_differing at h
  refine x_aload_n hX d3_differing_0 rfl rfl ?_
  obtain ⟨hg1, h⟩ := x_gd h
  refine x_getJ (j := 0) hX xc3 hg1.1 hg1.2 (by decide) rfl kF3_9 d3_differing_1 ?_
  refine x_aload_n hX d3_differing_4 rfl rfl ?_
  obtain ⟨hg2, h⟩ := x_gd h
  refine x_getJ (j := 0) hX xc3 hg2.1 hg2.2 (by decide) rfl kF3_9 d3_differing_5 ?_
  refine x_lxor hX d3_differing_8 ?_
  obtain ⟨x3, ex3, h⟩ := x_le h
  refine x_eql ex3.symm ?_
  refine x_lstore_n hX [(2, .long x3), (0, .ref (B + a0)), (1, .ref (B + a1))] d3_differing_9 rfl (by decide) rfl ?_
  refine x_iconst (v := 0) hX d3_differing_10 (by decide) ?_
  refine x_istore hX [(4, .int (0 : Int32)), (2, .long x3), (0, .ref (B + a0)), (1, .ref (B + a1))] d3_differing_11 (by decide) rfl ?_
  refine x_sub [2, 3, 1, 0] rfl ?_
  exact t_m3_differing_L13 hX hR hr _ _ _ _ _ h

def mL_bitCount (N : Nat) (K : Nat → Nat × Nat) (F : Nat → Nat → Option Nat) (I : (Nat → Nat → Int32)) (J : (Nat → Nat → Int64)) (a0 : Int64) : Option (Int32) :=
  xlet ((a0 - (((a0.toUInt64 >>> ((1 : Int32).toInt64.toUInt64 &&& Int64.toUInt64 63)).toInt64) &&& (6148914691236517205 : Int64)))) fun x1 => xlet (((x1 &&& (3689348814741910323 : Int64)) + (((x1.toUInt64 >>> ((2 : Int32).toInt64.toUInt64 &&& Int64.toUInt64 63)).toInt64) &&& (3689348814741910323 : Int64)))) fun x2 => xlet (((x2 + ((x2.toUInt64 >>> ((4 : Int32).toInt64.toUInt64 &&& Int64.toUInt64 63)).toInt64)) &&& (1085102592571150095 : Int64))) fun x3 => xlet ((x3 + ((x3.toUInt64 >>> ((8 : Int32).toInt64.toUInt64 &&& Int64.toUInt64 63)).toInt64))) fun x4 => xlet ((x4 + ((x4.toUInt64 >>> ((16 : Int32).toInt64.toUInt64 &&& Int64.toUInt64 63)).toInt64))) fun x5 => xlet ((x5 + ((x5.toUInt64 >>> ((32 : Int32).toInt64.toUInt64 &&& Int64.toUInt64 63)).toInt64))) fun x6 => some ((x6.toInt32) &&& (127 : Int32))
set_option maxRecDepth 100000 in
set_option maxHeartbeats 4000000 in
theorem c_mL_bitCount {l : Launch} {B d : Nat} {g : xG} {N : Nat} {K : Nat → Nat × Nat} {F : Nat → Nat → Option Nat} {I : (Nat → Nat → Int32)} {J : (Nat → Nat → Int64)} {a0 : Int64} {rv : Int32} (h : mL_bitCount N K F I J a0 = some rv) : xC l g B (d + 0) 0 0 yL_bitCount cL_bitCount 2 (some .int) [.long a0] (xP g B N K I J F) (xq (some (.int rv)) (xP g B N K I J F)) := by
  refine xC_of (by decide) (Nat.le_of_ble_eq_true rfl) (fun X hl hR hr _ hX => ?_)
  refine x_sub (L' := [(0, .long a0)]) [0] rfl ?_
  unfold mL_bitCount at h
  refine x_lload_n hX dL_bitCount_0 rfl rfl ?_
  refine x_lload_n hX dL_bitCount_1 rfl rfl ?_
  refine x_iconst (v := 1) hX dL_bitCount_2 (by decide) ?_
  refine x_lushr hX dL_bitCount_3 ?_
  refine x_ldc2 (v := 6148914691236517205) hX kCL_314 dL_bitCount_4 ?_
  refine x_land hX dL_bitCount_7 ?_
  refine x_lsub hX dL_bitCount_8 ?_
  obtain ⟨x1, ex1, h⟩ := x_le h
  refine x_eql ex1.symm ?_
  refine x_lstore_n hX [(0, .long x1)] dL_bitCount_9 rfl (by decide) rfl ?_
  refine x_lload_n hX dL_bitCount_10 rfl rfl ?_
  refine x_ldc2 (v := 3689348814741910323) hX kCL_316 dL_bitCount_11 ?_
  refine x_land hX dL_bitCount_14 ?_
  refine x_lload_n hX dL_bitCount_15 rfl rfl ?_
  refine x_iconst (v := 2) hX dL_bitCount_16 (by decide) ?_
  refine x_lushr hX dL_bitCount_17 ?_
  refine x_ldc2 (v := 3689348814741910323) hX kCL_316 dL_bitCount_18 ?_
  refine x_land hX dL_bitCount_21 ?_
  refine x_ladd hX dL_bitCount_22 ?_
  obtain ⟨x2, ex2, h⟩ := x_le h
  refine x_eql ex2.symm ?_
  refine x_lstore_n hX [(0, .long x2)] dL_bitCount_23 rfl (by decide) rfl ?_
  refine x_lload_n hX dL_bitCount_24 rfl rfl ?_
  refine x_lload_n hX dL_bitCount_25 rfl rfl ?_
  refine x_iconst (v := 4) hX dL_bitCount_26 (by decide) ?_
  refine x_lushr hX dL_bitCount_27 ?_
  refine x_ladd hX dL_bitCount_28 ?_
  refine x_ldc2 (v := 1085102592571150095) hX kCL_318 dL_bitCount_29 ?_
  refine x_land hX dL_bitCount_32 ?_
  obtain ⟨x3, ex3, h⟩ := x_le h
  refine x_eql ex3.symm ?_
  refine x_lstore_n hX [(0, .long x3)] dL_bitCount_33 rfl (by decide) rfl ?_
  refine x_lload_n hX dL_bitCount_34 rfl rfl ?_
  refine x_lload_n hX dL_bitCount_35 rfl rfl ?_
  refine x_bipush (v := 8) hX dL_bitCount_36 (by decide) ?_
  refine x_lushr hX dL_bitCount_38 ?_
  refine x_ladd hX dL_bitCount_39 ?_
  obtain ⟨x4, ex4, h⟩ := x_le h
  refine x_eql ex4.symm ?_
  refine x_lstore_n hX [(0, .long x4)] dL_bitCount_40 rfl (by decide) rfl ?_
  refine x_lload_n hX dL_bitCount_41 rfl rfl ?_
  refine x_lload_n hX dL_bitCount_42 rfl rfl ?_
  refine x_bipush (v := 16) hX dL_bitCount_43 (by decide) ?_
  refine x_lushr hX dL_bitCount_45 ?_
  refine x_ladd hX dL_bitCount_46 ?_
  obtain ⟨x5, ex5, h⟩ := x_le h
  refine x_eql ex5.symm ?_
  refine x_lstore_n hX [(0, .long x5)] dL_bitCount_47 rfl (by decide) rfl ?_
  refine x_lload_n hX dL_bitCount_48 rfl rfl ?_
  refine x_lload_n hX dL_bitCount_49 rfl rfl ?_
  refine x_bipush (v := 32) hX dL_bitCount_50 (by decide) ?_
  refine x_lushr hX dL_bitCount_52 ?_
  refine x_ladd hX dL_bitCount_53 ?_
  obtain ⟨x6, ex6, h⟩ := x_le h
  refine x_eql ex6.symm ?_
  refine x_lstore_n hX [(0, .long x6)] dL_bitCount_54 rfl (by decide) rfl ?_
  refine x_lload_n hX dL_bitCount_55 rfl rfl ?_
  refine x_l2i hX dL_bitCount_56 ?_
  refine x_bipush (v := 127) hX dL_bitCount_57 (by decide) ?_
  refine x_iand hX dL_bitCount_59 ?_
  cases h
  exact x_iret hX hr dL_bitCount_60 (fun H hP => ⟨rfl, hP⟩)

def m2_addSteps_B61 (N : Nat) (K : Nat → Nat × Nat) (F : Nat → Nat → Option Nat) (k3 : (Nat → Nat → Int32) → (Nat → Nat → Int64) → Nat → Int32 → Nat → Nat → Int64 → Int32 → Option ((Nat → Nat → Int32) × (Nat → Nat → Int64))) (I : (Nat → Nat → Int32)) (J : (Nat → Nat → Int64)) (v0 : Nat) (v1 : Int32) (v2 : Nat) (v3 : Nat) (v4 : Int64) (v6 : Int32) (w0 : Int32) : Option ((Nat → Nat → Int32) × (Nat → Nat → Int64)) :=
  if v0 < N ∧ K v0 = (0, 2) then (xb (F v0 1) fun q2 => if q2 < N ∧ (K q2).1 = 1 ∧ xinb (I v0 0) (K q2).2 then (xlet (xu I q2 ((I v0 0).toNatClampNeg) (((v1 <<< ((8 : Int32) &&& 31)) ||| (w0 <<< ((6 : Int32) &&& 31))) ||| v6)) fun I4 => xb (F v0 2) fun q5 => if v2 < N ∧ K v2 = (0, 3) then (xb (F v2 1) fun q7 => if q7 < N ∧ (K q7).1 = 2 ∧ xinb v6 (K q7).2 then (if q5 < N ∧ (K q5).1 = 2 ∧ xinb (I4 v0 0) (K q5).2 then (xlet (xu J q5 ((I4 v0 0).toNatClampNeg) (J q7 (v6.toNatClampNeg))) fun J10 => xb (F v0 3) fun q11 => if v3 < N ∧ K v3 = (0, 3) then (xb (F v3 1) fun q13 => if q13 < N ∧ (K q13).1 = 2 ∧ xinb v6 (K q13).2 then (if q11 < N ∧ (K q11).1 = 2 ∧ xinb (I4 v0 0) (K q11).2 then (xlet (xu J10 q11 ((I4 v0 0).toNatClampNeg) (J10 q13 (v6.toNatClampNeg))) fun J16 => xlet (xu I4 v0 0 ((I4 v0 0) + (1 : Int32))) fun I17 => xlet (v6 + (1 : Int32)) fun x18 => k3 I17 J16 v0 v1 v2 v3 v4 x18) else none) else none) else none) else none) else none) else none) else none) else none
def m2_addSteps_L3 (N : Nat) (K : Nat → Nat × Nat) (F : Nat → Nat → Option Nat) : Nat → (Nat → Nat → Int32) → (Nat → Nat → Int64) → Nat → Int32 → Nat → Nat → Int64 → Int32 → Option ((Nat → Nat → Int32) × (Nat → Nat → Int64))
  | 0, _, _, _, _, _, _, _, _ => none
  | n + 1, I, J, v0, v1, v2, v3, v4, v6 => if (64 : Int32) ≤ v6 then (some (I, J)) else (if (((v4.toUInt64 >>> (v6.toInt64.toUInt64 &&& Int64.toUInt64 63)).toInt64) &&& (1 : Int64)) = (0 : Int64) then (xlet (v6 + (1 : Int32)) fun x1 => m2_addSteps_L3 N K F n I J v0 v1 v2 v3 v4 x1) else (if v0 < N ∧ K v0 = (0, 2) then (xb (F v0 1) fun q3 => if q3 < N ∧ (K q3).1 = 1 then (if (nI (K q3).2) ≤ (I v0 0) then (xlet (v6 + (1 : Int32)) fun x5 => m2_addSteps_L3 N K F n I J v0 v1 v2 v3 v4 x5) else (if v2 < N ∧ K v2 = (0, 3) then (xb (m3_holds N K F I J v2 v6) fun x7 => if ¬ x7 = 0 then (if v3 < N ∧ K v3 = (0, 3) then (xb (m3_holds N K F I J v3 v6) fun x10 => if x10 = 0 then (m2_addSteps_B61 N K F (m2_addSteps_L3 N K F n) I J v0 v1 v2 v3 v4 v6 (2 : Int32)) else (m2_addSteps_B61 N K F (m2_addSteps_L3 N K F n) I J v0 v1 v2 v3 v4 v6 (1 : Int32))) else none) else (m2_addSteps_B61 N K F (m2_addSteps_L3 N K F n) I J v0 v1 v2 v3 v4 v6 (0 : Int32))) else none)) else none) else none))
def m2_addSteps (N : Nat) (K : Nat → Nat × Nat) (F : Nat → Nat → Option Nat) (I : (Nat → Nat → Int32)) (J : (Nat → Nat → Int64)) (a0 : Nat) (a1 : Int32) (a2 : Nat) (a3 : Nat) (a4 : Int64) : Option ((Nat → Nat → Int32) × (Nat → Nat → Int64)) :=
  m2_addSteps_L3 N K F xFu I J a0 a1 a2 a3 a4 (0 : Int32)
set_option maxRecDepth 100000 in
set_option maxHeartbeats 4000000 in
theorem t_m2_addSteps_B61 {X : xX} {B d : Nat} {g : xG} {N : Nat} {K : Nat → Nat × Nat} {F : Nat → Nat → Option Nat} {I' : (Nat → Nat → Int32)} {J' : (Nat → Nat → Int64)} {k3 : (Nat → Nat → Int32) → (Nat → Nat → Int64) → Nat → Int32 → Nat → Nat → Int64 → Int32 → Option ((Nat → Nat → Int32) × (Nat → Nat → Int64))} (hX : xO X c2_addSteps "ChangeRows$Changes" 8 B g) (hR : x_R X = xrm (d + 1) 0 0) (hr : (x_meth X).sig.returnType = none) (hk3 : ∀ (I : (Nat → Nat → Int32)) (J : (Nat → Nat → Int64)) (v0 : Nat) (v1 : Int32) (v2 : Nat) (v3 : Nat) (v4 : Int64) (v6 : Int32), k3 I J v0 v1 v2 v3 v4 v6 = some (I', J') → xV X B 8 (xZ X B 0 0 (xq none (xP g B N K I' J' F))) 0 0 (xP g B N K I J F) 3 [(0, .ref (B + v0)), (1, .int v1), (2, .ref (B + v2)), (3, .ref (B + v3)), (4, .long v4), (6, .int v6)] []) (I : (Nat → Nat → Int32)) (J : (Nat → Nat → Int64)) (v0 : Nat) (v1 : Int32) (v2 : Nat) (v3 : Nat) (v4 : Int64) (v6 : Int32) (w0 : Int32) (h : m2_addSteps_B61 N K F k3 I J v0 v1 v2 v3 v4 v6 w0 = some (I', J')) : xV X B 8 (xZ X B 0 0 (xq none (xP g B N K I' J' F))) 0 0 (xP g B N K I J F) 61 [(0, .ref (B + v0)), (1, .int v1), (2, .ref (B + v2)), (3, .ref (B + v3)), (4, .long v4), (6, .int v6)] [.int w0] := by
  unfold m2_addSteps_B61 at h
  refine x_istore hX [(7, .int w0), (0, .ref (B + v0)), (1, .int v1), (2, .ref (B + v2)), (3, .ref (B + v3)), (4, .long v4), (6, .int v6)] d2_addSteps_61 (by decide) rfl ?_
  refine x_aload_n hX d2_addSteps_63 rfl rfl ?_
  obtain ⟨hg1, h⟩ := x_gd h
  obtain ⟨q2, eq2, h⟩ := x_bd h
  refine x_getF (j := 1) hX xc2 hg1.1 hg1.2 (by decide) rfl eq2 kF2_21 d2_addSteps_64 ?_
  refine x_aload_n hX d2_addSteps_67 rfl rfl ?_
  refine x_getI (j := 0) hX xc2 hg1.1 hg1.2 (by decide) rfl kF2_9 d2_addSteps_68 ?_
  refine x_iload_n hX d2_addSteps_71 rfl rfl ?_
  refine x_bipush (v := 8) hX d2_addSteps_72 (by decide) ?_
  refine x_ishl hX d2_addSteps_74 ?_
  refine x_iload hX d2_addSteps_75 rfl ?_
  refine x_bipush (v := 6) hX d2_addSteps_77 (by decide) ?_
  refine x_ishl hX d2_addSteps_79 ?_
  refine x_ior hX d2_addSteps_80 ?_
  refine x_iload hX d2_addSteps_81 rfl ?_
  refine x_ior hX d2_addSteps_83 ?_
  obtain ⟨hg3, h⟩ := x_gd h
  refine x_iast hX hg3.1 (x_kd hg3.2.1) (x_in hg3.2.2) d2_addSteps_84 ?_
  obtain ⟨I4, eI4, h⟩ := x_le h
  rw [← eI4]
  refine x_aload_n hX d2_addSteps_85 rfl rfl ?_
  obtain ⟨q5, eq5, h⟩ := x_bd h
  refine x_getF (j := 2) hX xc2 hg1.1 hg1.2 (by decide) rfl eq5 kF2_25 d2_addSteps_86 ?_
  refine x_aload_n hX d2_addSteps_89 rfl rfl ?_
  refine x_getI (j := 0) hX xc2 hg1.1 hg1.2 (by decide) rfl kF2_9 d2_addSteps_90 ?_
  refine x_aload_n hX d2_addSteps_93 rfl rfl ?_
  obtain ⟨hg6, h⟩ := x_gd h
  obtain ⟨q7, eq7, h⟩ := x_bd h
  refine x_getF (j := 1) hX xc3 hg6.1 hg6.2 (by decide) rfl eq7 kF2_38 d2_addSteps_94 ?_
  refine x_iload hX d2_addSteps_97 rfl ?_
  obtain ⟨hg8, h⟩ := x_gd h
  refine x_lald hX hg8.1 (x_kd hg8.2.1) (x_in hg8.2.2) d2_addSteps_99 ?_
  obtain ⟨hg9, h⟩ := x_gd h
  refine x_last hX hg9.1 (x_kd hg9.2.1) (x_in hg9.2.2) d2_addSteps_100 ?_
  obtain ⟨J10, eJ10, h⟩ := x_le h
  rw [← eJ10]
  refine x_aload_n hX d2_addSteps_101 rfl rfl ?_
  obtain ⟨q11, eq11, h⟩ := x_bd h
  refine x_getF (j := 3) hX xc2 hg1.1 hg1.2 (by decide) rfl eq11 kF2_29 d2_addSteps_102 ?_
  refine x_aload_n hX d2_addSteps_105 rfl rfl ?_
  refine x_getI (j := 0) hX xc2 hg1.1 hg1.2 (by decide) rfl kF2_9 d2_addSteps_106 ?_
  refine x_aload_n hX d2_addSteps_109 rfl rfl ?_
  obtain ⟨hg12, h⟩ := x_gd h
  obtain ⟨q13, eq13, h⟩ := x_bd h
  refine x_getF (j := 1) hX xc3 hg12.1 hg12.2 (by decide) rfl eq13 kF2_38 d2_addSteps_110 ?_
  refine x_iload hX d2_addSteps_113 rfl ?_
  obtain ⟨hg14, h⟩ := x_gd h
  refine x_lald hX hg14.1 (x_kd hg14.2.1) (x_in hg14.2.2) d2_addSteps_115 ?_
  obtain ⟨hg15, h⟩ := x_gd h
  refine x_last hX hg15.1 (x_kd hg15.2.1) (x_in hg15.2.2) d2_addSteps_116 ?_
  obtain ⟨J16, eJ16, h⟩ := x_le h
  rw [← eJ16]
  refine x_aload_n hX d2_addSteps_117 rfl rfl ?_
  refine x_dup hX d2_addSteps_118 rfl ?_
  refine x_getI (j := 0) hX xc2 hg1.1 hg1.2 (by decide) rfl kF2_9 d2_addSteps_119 ?_
  refine x_iconst (v := 1) hX d2_addSteps_122 (by decide) ?_
  refine x_iadd hX d2_addSteps_123 ?_
  refine x_putI (j := 0) hX xc2 hg1.1 hg1.2 (by decide) rfl kF2_9 (Or.inl rfl) rfl rfl d2_addSteps_124 ?_
  obtain ⟨I17, eI17, h⟩ := x_le h
  rw [← eI17]
  obtain ⟨x18, ex18, h⟩ := x_le h
  refine x_iinc (j := 6) hX [(6, .int x18), (7, .int w0), (0, .ref (B + v0)), (1, .int v1), (2, .ref (B + v2)), (3, .ref (B + v3)), (4, .long v4)] d2_addSteps_127 rfl (by rw [ex18]; rfl) (by decide) rfl ?_
  refine x_goto (tgt := 3) hX d2_addSteps_130 (by decide) ?_
  refine x_sub [2, 3, 4, 5, 6, 0] rfl ?_
  exact hk3 _ _ _ _ _ _ _ _ h
set_option maxRecDepth 100000 in
set_option maxHeartbeats 4000000 in
theorem t_m2_addSteps_L3 {X : xX} {B d : Nat} {g : xG} {N : Nat} {K : Nat → Nat × Nat} {F : Nat → Nat → Option Nat} {I' : (Nat → Nat → Int32)} {J' : (Nat → Nat → Int64)} (hX : xO X c2_addSteps "ChangeRows$Changes" 8 B g) (hR : x_R X = xrm (d + 1) 0 0) (hr : (x_meth X).sig.returnType = none) : ∀ (n : Nat) (I : (Nat → Nat → Int32)) (J : (Nat → Nat → Int64)) (v0 : Nat) (v1 : Int32) (v2 : Nat) (v3 : Nat) (v4 : Int64) (v6 : Int32), m2_addSteps_L3 N K F n I J v0 v1 v2 v3 v4 v6 = some (I', J') → xV X B 8 (xZ X B 0 0 (xq none (xP g B N K I' J' F))) 0 0 (xP g B N K I J F) 3 [(0, .ref (B + v0)), (1, .int v1), (2, .ref (B + v2)), (3, .ref (B + v3)), (4, .long v4), (6, .int v6)] [] := by
  intro n
  induction n with
  | zero =>
    intro I J v0 v1 v2 v3 v4 v6 h
    cases h
  | succ n ih =>
    intro I J v0 v1 v2 v3 v4 v6 h
    rw [m2_addSteps_L3] at h
    refine x_iload hX d2_addSteps_3 rfl ?_
    refine x_bipush (v := 64) hX d2_addSteps_5 (by decide) ?_
    refine x_icmp_ge (tgt := 133) hX d2_addSteps_7 (by decide) (fun hc => ?_) (fun hc => ?_)
    · rw [if_pos hc] at h
      cases h
      exact x_vret hX hr d2_addSteps_133 (fun H hP => ⟨rfl, hP⟩)
    · rw [if_neg hc] at h
      refine x_lload hX d2_addSteps_10 rfl ?_
      refine x_iload hX d2_addSteps_12 rfl ?_
      refine x_lushr hX d2_addSteps_14 ?_
      refine x_lconst (v := 1) hX d2_addSteps_15 (by decide) ?_
      refine x_land hX d2_addSteps_16 ?_
      refine x_lconst (v := 0) hX d2_addSteps_17 (by decide) ?_
      refine x_lif_eq (tgt := 127) hX d2_addSteps_18 d2_addSteps_19 (by decide) (fun hc => ?_) (fun hc => ?_)
      · rw [if_pos hc] at h
        obtain ⟨x1, ex1, h⟩ := x_le h
        refine x_iinc (j := 5) hX [(6, .int x1), (0, .ref (B + v0)), (1, .int v1), (2, .ref (B + v2)), (3, .ref (B + v3)), (4, .long v4)] d2_addSteps_127 rfl (by rw [ex1]; rfl) (by decide) rfl ?_
        refine x_goto (tgt := 3) hX d2_addSteps_130 (by decide) ?_
        refine x_sub [1, 2, 3, 4, 5, 0] rfl ?_
        exact ih _ _ _ _ _ _ _ _ h
      · rw [if_neg hc] at h
        refine x_aload_n hX d2_addSteps_22 rfl rfl ?_
        obtain ⟨hg2, h⟩ := x_gd h
        refine x_getI (j := 0) hX xc2 hg2.1 hg2.2 (by decide) rfl kF2_9 d2_addSteps_23 ?_
        refine x_aload_n hX d2_addSteps_26 rfl rfl ?_
        obtain ⟨q3, eq3, h⟩ := x_bd h
        refine x_getF (j := 1) hX xc2 hg2.1 hg2.2 (by decide) rfl eq3 kF2_21 d2_addSteps_27 ?_
        obtain ⟨hg4, h⟩ := x_gd h
        refine x_alen (t := 0) hX hg4.1 (x_kd hg4.2) (by decide) d2_addSteps_30 ?_
        refine x_icmp_ge (tgt := 127) hX d2_addSteps_31 (by decide) (fun hc => ?_) (fun hc => ?_)
        · rw [if_pos hc] at h
          obtain ⟨x5, ex5, h⟩ := x_le h
          refine x_iinc (j := 5) hX [(6, .int x5), (0, .ref (B + v0)), (1, .int v1), (2, .ref (B + v2)), (3, .ref (B + v3)), (4, .long v4)] d2_addSteps_127 rfl (by rw [ex5]; rfl) (by decide) rfl ?_
          refine x_goto (tgt := 3) hX d2_addSteps_130 (by decide) ?_
          refine x_sub [1, 2, 3, 4, 5, 0] rfl ?_
          exact ih _ _ _ _ _ _ _ _ h
        · rw [if_neg hc] at h
          refine x_aload_n hX d2_addSteps_34 rfl rfl ?_
          refine x_iload hX d2_addSteps_35 rfl ?_
          obtain ⟨hg6, h⟩ := x_gd h
          obtain ⟨x7, eb8, h⟩ := x_bd h
          refine x_callV hX hR (c_m3_holds (l := x_l X) (d := d + 0) eb8) kX2_32 kN3_holds kE3_holds xc3.1 hg6.1 hg6.2 rfl rfl (Nat.le_of_ble_eq_true rfl) ⟨Nat.le_refl 0, Nat.le_refl 0⟩ d2_addSteps_37 (x_kki ?_)
          refine x_if_ne (tgt := 47) hX d2_addSteps_40 (by decide) (fun hc => ?_) (fun hc => ?_)
          · rw [if_pos hc] at h
            refine x_aload_n hX d2_addSteps_47 rfl rfl ?_
            refine x_iload hX d2_addSteps_48 rfl ?_
            obtain ⟨hg9, h⟩ := x_gd h
            obtain ⟨x10, eb11, h⟩ := x_bd h
            refine x_callV hX hR (c_m3_holds (l := x_l X) (d := d + 0) eb11) kX2_32 kN3_holds kE3_holds xc3.1 hg9.1 hg9.2 rfl rfl (Nat.le_of_ble_eq_true rfl) ⟨Nat.le_refl 0, Nat.le_refl 0⟩ d2_addSteps_50 (x_kki ?_)
            refine x_if_eq (tgt := 60) hX d2_addSteps_53 (by decide) (fun hc => ?_) (fun hc => ?_)
            · rw [if_pos hc] at h
              refine x_iconst (v := 2) hX d2_addSteps_60 (by decide) ?_
              exact t_m2_addSteps_B61 hX hR hr ih _ _ _ _ _ _ _ _ _ h
            · rw [if_neg hc] at h
              refine x_iconst (v := 1) hX d2_addSteps_56 (by decide) ?_
              refine x_goto (tgt := 61) hX d2_addSteps_57 (by decide) ?_
              exact t_m2_addSteps_B61 hX hR hr ih _ _ _ _ _ _ _ _ _ h
          · rw [if_neg (x_nn hc)] at h
            refine x_iconst (v := 0) hX d2_addSteps_43 (by decide) ?_
            refine x_goto (tgt := 61) hX d2_addSteps_44 (by decide) ?_
            exact t_m2_addSteps_B61 hX hR hr ih _ _ _ _ _ _ _ _ _ h
set_option maxRecDepth 100000 in
set_option maxHeartbeats 4000000 in
theorem c_m2_addSteps {l : Launch} {B d : Nat} {g : xG} {N : Nat} {K : Nat → Nat × Nat} {F : Nat → Nat → Option Nat} {I : (Nat → Nat → Int32)} {J : (Nat → Nat → Int64)} {a0 : Nat} {a1 : Int32} {a2 : Nat} {a3 : Nat} {a4 : Int64} {I' : (Nat → Nat → Int32)} {J' : (Nat → Nat → Int64)} (h : m2_addSteps N K F I J a0 a1 a2 a3 a4 = some (I', J')) : xC l g B (d + 1) 0 0 y2_addSteps c2_addSteps 8 none [.ref (B + a0), .int a1, .ref (B + a2), .ref (B + a3), .long a4] (xP g B N K I J F) (xq none (xP g B N K I' J' F)) := by
  refine xC_of (by decide) (Nat.le_of_ble_eq_true rfl) (fun X hl hR hr _ hX => ?_)
  refine x_sub (L' := [(0, .ref (B + a0)), (1, .int a1), (2, .ref (B + a2)), (3, .ref (B + a3)), (4, .long a4)]) [0, 1, 2, 3, 4] rfl ?_
  unfold m2_addSteps at h
  refine x_iconst (v := 0) hX d2_addSteps_0 (by decide) ?_
  refine x_istore hX [(6, .int (0 : Int32)), (0, .ref (B + a0)), (1, .int a1), (2, .ref (B + a2)), (3, .ref (B + a3)), (4, .long a4)] d2_addSteps_1 (by decide) rfl ?_
  refine x_sub [1, 2, 3, 4, 5, 0] rfl ?_
  exact t_m2_addSteps_L3 hX hR hr _ _ _ _ _ _ _ _ _ h

def m2_addAll (N : Nat) (K : Nat → Nat × Nat) (F : Nat → Nat → Option Nat) (I : (Nat → Nat → Int32)) (J : (Nat → Nat → Int64)) (a0 : Nat) (a1 : Nat) : Option ((Nat → Nat → Int32) × (Nat → Nat → Int64)) :=
  if a1 < N ∧ K a1 = (0, 2) then (if a0 < N ∧ K a0 = (0, 2) then (xb (F a0 1) fun q3 => if q3 < N ∧ (K q3).1 = 1 then (xlet ((if ((nI (K q3).2) - (I a0 0)) < (I a1 0) then ((nI (K q3).2) - (I a0 0)) else (I a1 0))) fun x5 => xb (F a1 1) fun q6 => if q6 < N ∧ (K q6).1 = 1 ∧ q3 < N ∧ (K q3).1 = 1 ∧ ¬ (0 : Int32) < 0 ∧ ¬ (I a0 0) < 0 ∧ ¬ x5 < 0 ∧ (0 : Int32).toNatClampNeg + x5.toNatClampNeg ≤ (K q6).2 ∧ (I a0 0).toNatClampNeg + x5.toNatClampNeg ≤ (K q3).2 then (xlet (va_up I q3 (va_cpy (I q6) (I q3) (0 : Int32).toNatClampNeg (I a0 0).toNatClampNeg x5.toNatClampNeg)) fun I8 => xb (F a1 2) fun q9 => xb (F a0 2) fun q10 => if q9 < N ∧ (K q9).1 = 2 ∧ q10 < N ∧ (K q10).1 = 2 ∧ ¬ (0 : Int32) < 0 ∧ ¬ (I8 a0 0) < 0 ∧ ¬ x5 < 0 ∧ (0 : Int32).toNatClampNeg + x5.toNatClampNeg ≤ (K q9).2 ∧ (I8 a0 0).toNatClampNeg + x5.toNatClampNeg ≤ (K q10).2 then (xlet (va_up J q10 (va_cpy (J q9) (J q10) (0 : Int32).toNatClampNeg (I8 a0 0).toNatClampNeg x5.toNatClampNeg)) fun J12 => xb (F a1 3) fun q13 => xb (F a0 3) fun q14 => if q13 < N ∧ (K q13).1 = 2 ∧ q14 < N ∧ (K q14).1 = 2 ∧ ¬ (0 : Int32) < 0 ∧ ¬ (I8 a0 0) < 0 ∧ ¬ x5 < 0 ∧ (0 : Int32).toNatClampNeg + x5.toNatClampNeg ≤ (K q13).2 ∧ (I8 a0 0).toNatClampNeg + x5.toNatClampNeg ≤ (K q14).2 then (xlet (va_up J12 q14 (va_cpy (J12 q13) (J12 q14) (0 : Int32).toNatClampNeg (I8 a0 0).toNatClampNeg x5.toNatClampNeg)) fun J16 => xlet (xu I8 a0 0 ((I8 a0 0) + x5)) fun I17 => some (I17, J16)) else none) else none) else none) else none) else none) else none
set_option maxRecDepth 100000 in
set_option maxHeartbeats 4000000 in
theorem c_m2_addAll {l : Launch} {B d : Nat} {g : xG} {N : Nat} {K : Nat → Nat × Nat} {F : Nat → Nat → Option Nat} {I : (Nat → Nat → Int32)} {J : (Nat → Nat → Int64)} {a0 : Nat} {a1 : Nat} {I' : (Nat → Nat → Int32)} {J' : (Nat → Nat → Int64)} (h : m2_addAll N K F I J a0 a1 = some (I', J')) : xC l g B (d + 1) 0 0 y2_addAll c2_addAll 3 none [.ref (B + a0), .ref (B + a1)] (xP g B N K I J F) (xq none (xP g B N K I' J' F)) := by
  refine xC_of (by decide) (Nat.le_of_ble_eq_true rfl) (fun X hl hR hr _ hX => ?_)
  refine x_sub (L' := [(0, .ref (B + a0)), (1, .ref (B + a1))]) [0, 1] rfl ?_
  unfold m2_addAll at h
  refine x_aload_n hX d2_addAll_0 rfl rfl ?_
  obtain ⟨hg1, h⟩ := x_gd h
  refine x_getI (j := 0) hX xc2 hg1.1 hg1.2 (by decide) rfl kF2_9 d2_addAll_1 ?_
  refine x_aload_n hX d2_addAll_4 rfl rfl ?_
  obtain ⟨hg2, h⟩ := x_gd h
  obtain ⟨q3, eq3, h⟩ := x_bd h
  refine x_getF (j := 1) hX xc2 hg2.1 hg2.2 (by decide) rfl eq3 kF2_21 d2_addAll_5 ?_
  obtain ⟨hg4, h⟩ := x_gd h
  refine x_alen (t := 0) hX hg4.1 (x_kd hg4.2) (by decide) d2_addAll_8 ?_
  refine x_aload_n hX d2_addAll_9 rfl rfl ?_
  refine x_getI (j := 0) hX xc2 hg2.1 hg2.2 (by decide) rfl kF2_9 d2_addAll_10 ?_
  refine x_isub hX d2_addAll_13 ?_
  refine x_mminI hX hR kM2_41 kSMathminI kIM kDMathminI (Nat.le_of_ble_eq_true rfl) d2_addAll_14 ?_
  obtain ⟨x5, ex5, h⟩ := x_le h
  refine x_eqi ex5.symm ?_
  refine x_istore_n hX [(2, .int x5), (0, .ref (B + a0)), (1, .ref (B + a1))] d2_addAll_17 rfl (by decide) rfl ?_
  refine x_aload_n hX d2_addAll_18 rfl rfl ?_
  obtain ⟨q6, eq6, h⟩ := x_bd h
  refine x_getF (j := 1) hX xc2 hg1.1 hg1.2 (by decide) rfl eq6 kF2_21 d2_addAll_19 ?_
  refine x_iconst (v := 0) hX d2_addAll_22 (by decide) ?_
  refine x_aload_n hX d2_addAll_23 rfl rfl ?_
  refine x_getF (j := 1) hX xc2 hg2.1 hg2.2 (by decide) rfl eq3 kF2_21 d2_addAll_24 ?_
  refine x_aload_n hX d2_addAll_27 rfl rfl ?_
  refine x_getI (j := 0) hX xc2 hg2.1 hg2.2 (by decide) rfl kF2_9 d2_addAll_28 ?_
  refine x_iload_n hX d2_addAll_31 rfl rfl ?_
  obtain ⟨hg7, h⟩ := x_gd h
  refine x_copyI hX hR kM2_44 kNarraycopy kSarraycopy kIS hg7.1 (x_kd hg7.2.1) hg7.2.2.1 (x_kd hg7.2.2.2.1) hg7.2.2.2.2.1 hg7.2.2.2.2.2.1 hg7.2.2.2.2.2.2.1 rfl rfl rfl hg7.2.2.2.2.2.2.2.1 hg7.2.2.2.2.2.2.2.2 (by decide) d2_addAll_32 ?_
  obtain ⟨I8, eI8, h⟩ := x_le h
  rw [← eI8]
  refine x_aload_n hX d2_addAll_35 rfl rfl ?_
  obtain ⟨q9, eq9, h⟩ := x_bd h
  refine x_getF (j := 2) hX xc2 hg1.1 hg1.2 (by decide) rfl eq9 kF2_25 d2_addAll_36 ?_
  refine x_iconst (v := 0) hX d2_addAll_39 (by decide) ?_
  refine x_aload_n hX d2_addAll_40 rfl rfl ?_
  obtain ⟨q10, eq10, h⟩ := x_bd h
  refine x_getF (j := 2) hX xc2 hg2.1 hg2.2 (by decide) rfl eq10 kF2_25 d2_addAll_41 ?_
  refine x_aload_n hX d2_addAll_44 rfl rfl ?_
  refine x_getI (j := 0) hX xc2 hg2.1 hg2.2 (by decide) rfl kF2_9 d2_addAll_45 ?_
  refine x_iload_n hX d2_addAll_48 rfl rfl ?_
  obtain ⟨hg11, h⟩ := x_gd h
  refine x_copyJ hX hR kM2_44 kNarraycopy kSarraycopy kIS hg11.1 (x_kd hg11.2.1) hg11.2.2.1 (x_kd hg11.2.2.2.1) hg11.2.2.2.2.1 hg11.2.2.2.2.2.1 hg11.2.2.2.2.2.2.1 rfl rfl rfl hg11.2.2.2.2.2.2.2.1 hg11.2.2.2.2.2.2.2.2 (by decide) d2_addAll_49 ?_
  obtain ⟨J12, eJ12, h⟩ := x_le h
  rw [← eJ12]
  refine x_aload_n hX d2_addAll_52 rfl rfl ?_
  obtain ⟨q13, eq13, h⟩ := x_bd h
  refine x_getF (j := 3) hX xc2 hg1.1 hg1.2 (by decide) rfl eq13 kF2_29 d2_addAll_53 ?_
  refine x_iconst (v := 0) hX d2_addAll_56 (by decide) ?_
  refine x_aload_n hX d2_addAll_57 rfl rfl ?_
  obtain ⟨q14, eq14, h⟩ := x_bd h
  refine x_getF (j := 3) hX xc2 hg2.1 hg2.2 (by decide) rfl eq14 kF2_29 d2_addAll_58 ?_
  refine x_aload_n hX d2_addAll_61 rfl rfl ?_
  refine x_getI (j := 0) hX xc2 hg2.1 hg2.2 (by decide) rfl kF2_9 d2_addAll_62 ?_
  refine x_iload_n hX d2_addAll_65 rfl rfl ?_
  obtain ⟨hg15, h⟩ := x_gd h
  refine x_copyJ hX hR kM2_44 kNarraycopy kSarraycopy kIS hg15.1 (x_kd hg15.2.1) hg15.2.2.1 (x_kd hg15.2.2.2.1) hg15.2.2.2.2.1 hg15.2.2.2.2.2.1 hg15.2.2.2.2.2.2.1 rfl rfl rfl hg15.2.2.2.2.2.2.2.1 hg15.2.2.2.2.2.2.2.2 (by decide) d2_addAll_66 ?_
  obtain ⟨J16, eJ16, h⟩ := x_le h
  rw [← eJ16]
  refine x_aload_n hX d2_addAll_69 rfl rfl ?_
  refine x_dup hX d2_addAll_70 rfl ?_
  refine x_getI (j := 0) hX xc2 hg2.1 hg2.2 (by decide) rfl kF2_9 d2_addAll_71 ?_
  refine x_iload_n hX d2_addAll_74 rfl rfl ?_
  refine x_iadd hX d2_addAll_75 ?_
  refine x_putI (j := 0) hX xc2 hg2.1 hg2.2 (by decide) rfl kF2_9 (Or.inl rfl) rfl rfl d2_addAll_76 ?_
  obtain ⟨I17, eI17, h⟩ := x_le h
  rw [← eI17]
  cases h
  exact x_vret hX hr d2_addAll_79 (fun H hP => ⟨rfl, hP⟩)

def m1_open (N : Nat) (K : Nat → Nat × Nat) (F : Nat → Nat → Option Nat) (I : (Nat → Nat → Int32)) (J : (Nat → Nat → Int64)) (a0 : Nat) : Option ((Nat → Nat → Int32)) :=
  if a0 < N ∧ K a0 = (0, 1) then (xlet (xu I a0 0 (1 : Int32)) fun I2 => xlet (xu I2 a0 1 (0 : Int32)) fun I3 => some I3) else none
set_option maxRecDepth 100000 in
set_option maxHeartbeats 4000000 in
theorem c_m1_open {l : Launch} {B d : Nat} {g : xG} {N : Nat} {K : Nat → Nat × Nat} {F : Nat → Nat → Option Nat} {I : (Nat → Nat → Int32)} {J : (Nat → Nat → Int64)} {a0 : Nat} {I' : (Nat → Nat → Int32)} (h : m1_open N K F I J a0 = some I') : xC l g B (d + 0) 0 0 y1_open c1_open 1 none [.ref (B + a0)] (xP g B N K I J F) (xq none (xP g B N K I' J F)) := by
  refine xC_of (by decide) (Nat.le_of_ble_eq_true rfl) (fun X hl hR hr _ hX => ?_)
  refine x_sub (L' := [(0, .ref (B + a0))]) [0] rfl ?_
  unfold m1_open at h
  refine x_aload_n hX d1_open_0 rfl rfl ?_
  refine x_iconst (v := 1) hX d1_open_1 (by decide) ?_
  obtain ⟨hg1, h⟩ := x_gd h
  refine x_putI (j := 0) hX xc1 hg1.1 hg1.2 (by decide) rfl kF1_9 (Or.inl rfl) rfl rfl d1_open_2 ?_
  obtain ⟨I2, eI2, h⟩ := x_le h
  rw [← eI2]
  refine x_aload_n hX d1_open_5 rfl rfl ?_
  refine x_iconst (v := 0) hX d1_open_6 (by decide) ?_
  refine x_putI (j := 1) hX xc1 hg1.1 hg1.2 (by decide) rfl kF1_15 (Or.inl rfl) rfl rfl d1_open_7 ?_
  obtain ⟨I3, eI3, h⟩ := x_le h
  rw [← eI3]
  cases h
  exact x_vret hX hr d1_open_10 (fun H hP => ⟨rfl, hP⟩)

def m2_tableOf (N : Nat) (K : Nat → Nat × Nat) (F : Nat → Nat → Option Nat) (I : (Nat → Nat → Int32)) (J : (Nat → Nat → Int64)) (a0 : Nat) (a1 : Int32) : Option (Int32) :=
  if a0 < N ∧ K a0 = (0, 2) then (xb (F a0 1) fun q2 => if q2 < N ∧ (K q2).1 = 1 ∧ xinb a1 (K q2).2 then (some ((I q2 (a1.toNatClampNeg)) >>> ((8 : Int32) &&& 31))) else none) else none
set_option maxRecDepth 100000 in
set_option maxHeartbeats 4000000 in
theorem c_m2_tableOf {l : Launch} {B d : Nat} {g : xG} {N : Nat} {K : Nat → Nat × Nat} {F : Nat → Nat → Option Nat} {I : (Nat → Nat → Int32)} {J : (Nat → Nat → Int64)} {a0 : Nat} {a1 : Int32} {rv : Int32} (h : m2_tableOf N K F I J a0 a1 = some rv) : xC l g B (d + 0) 0 0 y2_tableOf c2_tableOf 2 (some .int) [.ref (B + a0), .int a1] (xP g B N K I J F) (xq (some (.int rv)) (xP g B N K I J F)) := by
  refine xC_of (by decide) (Nat.le_of_ble_eq_true rfl) (fun X hl hR hr _ hX => ?_)
  refine x_sub (L' := [(0, .ref (B + a0)), (1, .int a1)]) [0, 1] rfl ?_
  unfold m2_tableOf at h
  refine x_aload_n hX d2_tableOf_0 rfl rfl ?_
  obtain ⟨hg1, h⟩ := x_gd h
  obtain ⟨q2, eq2, h⟩ := x_bd h
  refine x_getF (j := 1) hX xc2 hg1.1 hg1.2 (by decide) rfl eq2 kF2_21 d2_tableOf_1 ?_
  refine x_iload_n hX d2_tableOf_4 rfl rfl ?_
  obtain ⟨hg3, h⟩ := x_gd h
  refine x_iald hX hg3.1 (x_kd hg3.2.1) (x_in hg3.2.2) d2_tableOf_5 ?_
  refine x_bipush (v := 8) hX d2_tableOf_6 (by decide) ?_
  refine x_ishr hX d2_tableOf_8 ?_
  cases h
  exact x_iret hX hr d2_tableOf_9 (fun H hP => ⟨rfl, hP⟩)

def m2_sortOf (N : Nat) (K : Nat → Nat × Nat) (F : Nat → Nat → Option Nat) (I : (Nat → Nat → Int32)) (J : (Nat → Nat → Int64)) (a0 : Nat) (a1 : Int32) : Option (Int32) :=
  if a0 < N ∧ K a0 = (0, 2) then (xb (F a0 1) fun q2 => if q2 < N ∧ (K q2).1 = 1 ∧ xinb a1 (K q2).2 then (some (((I q2 (a1.toNatClampNeg)) >>> ((6 : Int32) &&& 31)) &&& (3 : Int32))) else none) else none
set_option maxRecDepth 100000 in
set_option maxHeartbeats 4000000 in
theorem c_m2_sortOf {l : Launch} {B d : Nat} {g : xG} {N : Nat} {K : Nat → Nat × Nat} {F : Nat → Nat → Option Nat} {I : (Nat → Nat → Int32)} {J : (Nat → Nat → Int64)} {a0 : Nat} {a1 : Int32} {rv : Int32} (h : m2_sortOf N K F I J a0 a1 = some rv) : xC l g B (d + 0) 0 0 y2_sortOf c2_sortOf 2 (some .int) [.ref (B + a0), .int a1] (xP g B N K I J F) (xq (some (.int rv)) (xP g B N K I J F)) := by
  refine xC_of (by decide) (Nat.le_of_ble_eq_true rfl) (fun X hl hR hr _ hX => ?_)
  refine x_sub (L' := [(0, .ref (B + a0)), (1, .int a1)]) [0, 1] rfl ?_
  unfold m2_sortOf at h
  refine x_aload_n hX d2_sortOf_0 rfl rfl ?_
  obtain ⟨hg1, h⟩ := x_gd h
  obtain ⟨q2, eq2, h⟩ := x_bd h
  refine x_getF (j := 1) hX xc2 hg1.1 hg1.2 (by decide) rfl eq2 kF2_21 d2_sortOf_1 ?_
  refine x_iload_n hX d2_sortOf_4 rfl rfl ?_
  obtain ⟨hg3, h⟩ := x_gd h
  refine x_iald hX hg3.1 (x_kd hg3.2.1) (x_in hg3.2.2) d2_sortOf_5 ?_
  refine x_bipush (v := 6) hX d2_sortOf_6 (by decide) ?_
  refine x_ishr hX d2_sortOf_8 ?_
  refine x_iconst (v := 3) hX d2_sortOf_9 (by decide) ?_
  refine x_iand hX d2_sortOf_10 ?_
  cases h
  exact x_iret hX hr d2_sortOf_11 (fun H hP => ⟨rfl, hP⟩)

def m2_keyOf (N : Nat) (K : Nat → Nat × Nat) (F : Nat → Nat → Option Nat) (I : (Nat → Nat → Int32)) (J : (Nat → Nat → Int64)) (a0 : Nat) (a1 : Int32) : Option (Int32) :=
  if a0 < N ∧ K a0 = (0, 2) then (xb (F a0 1) fun q2 => if q2 < N ∧ (K q2).1 = 1 ∧ xinb a1 (K q2).2 then (some ((I q2 (a1.toNatClampNeg)) &&& (63 : Int32))) else none) else none
set_option maxRecDepth 100000 in
set_option maxHeartbeats 4000000 in
theorem c_m2_keyOf {l : Launch} {B d : Nat} {g : xG} {N : Nat} {K : Nat → Nat × Nat} {F : Nat → Nat → Option Nat} {I : (Nat → Nat → Int32)} {J : (Nat → Nat → Int64)} {a0 : Nat} {a1 : Int32} {rv : Int32} (h : m2_keyOf N K F I J a0 a1 = some rv) : xC l g B (d + 0) 0 0 y2_keyOf c2_keyOf 2 (some .int) [.ref (B + a0), .int a1] (xP g B N K I J F) (xq (some (.int rv)) (xP g B N K I J F)) := by
  refine xC_of (by decide) (Nat.le_of_ble_eq_true rfl) (fun X hl hR hr _ hX => ?_)
  refine x_sub (L' := [(0, .ref (B + a0)), (1, .int a1)]) [0, 1] rfl ?_
  unfold m2_keyOf at h
  refine x_aload_n hX d2_keyOf_0 rfl rfl ?_
  obtain ⟨hg1, h⟩ := x_gd h
  obtain ⟨q2, eq2, h⟩ := x_bd h
  refine x_getF (j := 1) hX xc2 hg1.1 hg1.2 (by decide) rfl eq2 kF2_21 d2_keyOf_1 ?_
  refine x_iload_n hX d2_keyOf_4 rfl rfl ?_
  obtain ⟨hg3, h⟩ := x_gd h
  refine x_iald hX hg3.1 (x_kd hg3.2.1) (x_in hg3.2.2) d2_keyOf_5 ?_
  refine x_bipush (v := 63) hX d2_keyOf_6 (by decide) ?_
  refine x_iand hX d2_keyOf_8 ?_
  cases h
  exact x_iret hX hr d2_keyOf_9 (fun H hP => ⟨rfl, hP⟩)

def m3_size (N : Nat) (K : Nat → Nat × Nat) (F : Nat → Nat → Option Nat) (I : (Nat → Nat → Int32)) (J : (Nat → Nat → Int64)) (a0 : Nat) : Option (Int32) :=
  if a0 < N ∧ K a0 = (0, 3) then (xb (mL_bitCount N K F I J (J a0 0)) fun x2 => some x2) else none
set_option maxRecDepth 100000 in
set_option maxHeartbeats 4000000 in
theorem c_m3_size {l : Launch} {B d : Nat} {g : xG} {N : Nat} {K : Nat → Nat × Nat} {F : Nat → Nat → Option Nat} {I : (Nat → Nat → Int32)} {J : (Nat → Nat → Int64)} {a0 : Nat} {rv : Int32} (h : m3_size N K F I J a0 = some rv) : xC l g B (d + 1) 0 0 y3_size c3_size 1 (some .int) [.ref (B + a0)] (xP g B N K I J F) (xq (some (.int rv)) (xP g B N K I J F)) := by
  refine xC_of (by decide) (Nat.le_of_ble_eq_true rfl) (fun X hl hR hr _ hX => ?_)
  refine x_sub (L' := [(0, .ref (B + a0))]) [0] rfl ?_
  unfold m3_size at h
  refine x_aload_n hX d3_size_0 rfl rfl ?_
  obtain ⟨hg1, h⟩ := x_gd h
  refine x_getJ (j := 0) hX xc3 hg1.1 hg1.2 (by decide) rfl kF3_9 d3_size_1 ?_
  obtain ⟨x2, eb3, h⟩ := x_bd h
  refine x_callS hX hR (c_mL_bitCount (l := x_l X) (d := d + 0) eb3) kX3_19 kSL_bitCount rfl rfl (Nat.le_of_ble_eq_true rfl) ⟨Nat.le_refl 0, Nat.le_refl 0⟩ d3_size_4 (x_kki ?_)
  cases h
  exact x_iret hX hr d3_size_7 (fun H hP => ⟨rfl, hP⟩)
