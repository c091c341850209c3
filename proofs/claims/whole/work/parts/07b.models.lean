def m0_clear (N : Nat) (K : Nat → Nat × Nat) (F : Nat → Nat → Option Nat) (I : (Nat → Nat → Int32)) (J : (Nat → Nat → Int64)) (a0 : Nat) : Option (Int32 × (Nat → Nat → Int32) × (Nat → Nat → Int64)) :=
  if a0 < N ∧ K a0 = (0, 0) then (xlet ((I a0 1)) fun x2 => xlet (xu I a0 1 (0 : Int32)) fun I3 => xb (F a0 2) fun q4 => if q4 < N ∧ K q4 = (0, 1) then (xb (m1_close N K F I3 J q4) fun I6 => xb (F a0 3) fun q8 => if q8 < N ∧ K q8 = (0, 2) then (xb (m2_reset N K F I6 J q8) fun I10 => xb (F a0 4) fun q12 => if q12 < N ∧ K q12 = (0, 2) then (xb (m2_reset N K F I10 J q12) fun I14 => xb (F a0 5) fun q16 => if q16 < N ∧ K q16 = (0, 2) then (xb (m2_reset N K F I14 J q16) fun I18 => xb (F a0 6) fun q20 => if q20 < N ∧ K q20 = (0, 3) then (xb (m3_reset N K F I18 J q20) fun J22 => some (x2, I18, J22)) else none) else none) else none) else none) else none) else none
set_option maxRecDepth 100000 in
set_option maxHeartbeats 4000000 in
theorem c_m0_clear {l : Launch} {B d : Nat} {g : xG} {N : Nat} {K : Nat → Nat × Nat} {F : Nat → Nat → Option Nat} {I : (Nat → Nat → Int32)} {J : (Nat → Nat → Int64)} {a0 : Nat} {rv : Int32} {I' : (Nat → Nat → Int32)} {J' : (Nat → Nat → Int64)} (h : m0_clear N K F I J a0 = some (rv, I', J')) : xC l g B (d + 2) 0 0 y0_clear c0_clear 2 (some .int) [.ref (B + a0)] (xP g B N K I J F) (xq (some (.int rv)) (xP g B N K I' J' F)) := by
  refine xC_of (by decide) (Nat.le_of_ble_eq_true rfl) (fun X hl hR hr _ hX => ?_)
  refine x_sub (L' := [(0, .ref (B + a0))]) [0] rfl ?_
  unfold m0_clear at h
  refine x_aload_n hX d0_clear_0 rfl rfl ?_
  obtain ⟨hg1, h⟩ := x_gd h
  refine x_getI (j := 1) hX xc0 hg1.1 hg1.2 (by decide) rfl kF0_15 d0_clear_1 ?_
  obtain ⟨x2, ex2, h⟩ := x_le h
  refine x_eqi ex2.symm ?_
  refine x_istore_n hX [(1, .int x2), (0, .ref (B + a0))] d0_clear_4 rfl (by decide) rfl ?_
  refine x_aload_n hX d0_clear_5 rfl rfl ?_
  refine x_iconst (v := 0) hX d0_clear_6 (by decide) ?_
  refine x_putI (j := 1) hX xc0 hg1.1 hg1.2 (by decide) rfl kF0_15 (Or.inl rfl) rfl rfl d0_clear_7 ?_
  obtain ⟨I3, eI3, h⟩ := x_le h
  rw [← eI3]
  refine x_aload_n hX d0_clear_10 rfl rfl ?_
  obtain ⟨q4, eq4, h⟩ := x_bd h
  refine x_getF (j := 2) hX xc0 hg1.1 hg1.2 (by decide) rfl eq4 kF0_22 d0_clear_11 ?_
  obtain ⟨hg5, h⟩ := x_gd h
  obtain ⟨I6, eb7, h⟩ := x_bd h
  refine x_callV hX hR (c_m1_close (l := x_l X) (d := d + 1) eb7) kX0_58 kN1_close kE1_close xc1.1 hg5.1 hg5.2 rfl rfl (Nat.le_of_ble_eq_true rfl) ⟨Nat.le_refl 0, Nat.le_refl 0⟩ d0_clear_14 (x_kkv ?_)
  refine x_aload_n hX d0_clear_17 rfl rfl ?_
  obtain ⟨q8, eq8, h⟩ := x_bd h
  refine x_getF (j := 3) hX xc0 hg1.1 hg1.2 (by decide) rfl eq8 kF0_31 d0_clear_18 ?_
  obtain ⟨hg9, h⟩ := x_gd h
  obtain ⟨I10, eb11, h⟩ := x_bd h
  refine x_callV hX hR (c_m2_reset (l := x_l X) (d := d + 1) eb11) kX0_61 kN2_reset kE2_reset xc2.1 hg9.1 hg9.2 rfl rfl (Nat.le_of_ble_eq_true rfl) ⟨Nat.le_refl 0, Nat.le_refl 0⟩ d0_clear_21 (x_kkv ?_)
  refine x_aload_n hX d0_clear_24 rfl rfl ?_
  obtain ⟨q12, eq12, h⟩ := x_bd h
  refine x_getF (j := 4) hX xc0 hg1.1 hg1.2 (by decide) rfl eq12 kF0_35 d0_clear_25 ?_
  obtain ⟨hg13, h⟩ := x_gd h
  obtain ⟨I14, eb15, h⟩ := x_bd h
  refine x_callV hX hR (c_m2_reset (l := x_l X) (d := d + 1) eb15) kX0_61 kN2_reset kE2_reset xc2.1 hg13.1 hg13.2 rfl rfl (Nat.le_of_ble_eq_true rfl) ⟨Nat.le_refl 0, Nat.le_refl 0⟩ d0_clear_28 (x_kkv ?_)
  refine x_aload_n hX d0_clear_31 rfl rfl ?_
  obtain ⟨q16, eq16, h⟩ := x_bd h
  refine x_getF (j := 5) hX xc0 hg1.1 hg1.2 (by decide) rfl eq16 kF0_38 d0_clear_32 ?_
  obtain ⟨hg17, h⟩ := x_gd h
  obtain ⟨I18, eb19, h⟩ := x_bd h
  refine x_callV hX hR (c_m2_reset (l := x_l X) (d := d + 1) eb19) kX0_61 kN2_reset kE2_reset xc2.1 hg17.1 hg17.2 rfl rfl (Nat.le_of_ble_eq_true rfl) ⟨Nat.le_refl 0, Nat.le_refl 0⟩ d0_clear_35 (x_kkv ?_)
  refine x_aload_n hX d0_clear_38 rfl rfl ?_
  obtain ⟨q20, eq20, h⟩ := x_bd h
  refine x_getF (j := 6) hX xc0 hg1.1 hg1.2 (by decide) rfl eq20 kF0_44 d0_clear_39 ?_
  obtain ⟨hg21, h⟩ := x_gd h
  obtain ⟨J22, eb23, h⟩ := x_bd h
  refine x_callV hX hR (c_m3_reset (l := x_l X) (d := d + 0) eb23) kX0_64 kN3_reset kE3_reset xc3.1 hg21.1 hg21.2 rfl rfl (Nat.le_of_ble_eq_true rfl) ⟨Nat.le_refl 0, Nat.le_refl 0⟩ d0_clear_42 (x_kkv ?_)
  refine x_iload_n hX d0_clear_45 rfl rfl ?_
  cases h
  exact x_iret hX hr d0_clear_46 (fun H hP => ⟨rfl, hP⟩)

def m0_isWithin (N : Nat) (K : Nat → Nat × Nat) (F : Nat → Nat → Option Nat) (I : (Nat → Nat → Int32)) (J : (Nat → Nat → Int64)) (a0 : Int32) (a1 : Int32) (a2 : Int32) : Option (Int32) :=
  if a0 < a1 then (some (0 : Int32)) else (if a2 < a0 then (some (0 : Int32)) else (some (1 : Int32)))
set_option maxRecDepth 100000 in
set_option maxHeartbeats 4000000 in
theorem c_m0_isWithin {l : Launch} {B d : Nat} {g : xG} {N : Nat} {K : Nat → Nat × Nat} {F : Nat → Nat → Option Nat} {I : (Nat → Nat → Int32)} {J : (Nat → Nat → Int64)} {a0 : Int32} {a1 : Int32} {a2 : Int32} {rv : Int32} (h : m0_isWithin N K F I J a0 a1 a2 = some rv) : xC l g B (d + 0) 0 0 y0_isWithin c0_isWithin 3 (some .boolean) [.int a0, .int a1, .int a2] (xP g B N K I J F) (xq (some (.int rv)) (xP g B N K I J F)) := by
  refine xC_of (by decide) (Nat.le_of_ble_eq_true rfl) (fun X hl hR hr _ hX => ?_)
  refine x_sub (L' := [(0, .int a0), (1, .int a1), (2, .int a2)]) [0, 1, 2] rfl ?_
  unfold m0_isWithin at h
  refine x_iload_n hX d0_isWithin_0 rfl rfl ?_
  refine x_iload_n hX d0_isWithin_1 rfl rfl ?_
  refine x_icmp_lt (tgt := 14) hX d0_isWithin_2 (by decide) (fun hc => ?_) (fun hc => ?_)
  · rw [if_pos hc] at h
    refine x_iconst (v := 0) hX d0_isWithin_14 (by decide) ?_
    cases h
    exact x_zret hX hr rfl d0_isWithin_15 (fun H hP => ⟨rfl, hP⟩)
  · rw [if_neg hc] at h
    refine x_iload_n hX d0_isWithin_5 rfl rfl ?_
    refine x_iload_n hX d0_isWithin_6 rfl rfl ?_
    refine x_icmp_gt (tgt := 14) hX d0_isWithin_7 (by decide) (fun hc => ?_) (fun hc => ?_)
    · rw [if_pos hc] at h
      refine x_iconst (v := 0) hX d0_isWithin_14 (by decide) ?_
      cases h
      exact x_zret hX hr rfl d0_isWithin_15 (fun H hP => ⟨rfl, hP⟩)
    · rw [if_neg hc] at h
      refine x_iconst (v := 1) hX d0_isWithin_10 (by decide) ?_
      refine x_goto (tgt := 15) hX d0_isWithin_11 (by decide) ?_
      cases h
      exact x_zret hX hr rfl d0_isWithin_15 (fun H hP => ⟨rfl, hP⟩)

def m0_isTable (N : Nat) (K : Nat → Nat × Nat) (F : Nat → Nat → Option Nat) (I : (Nat → Nat → Int32)) (J : (Nat → Nat → Int64)) (a0 : Nat) (a1 : Int32) : Option (Int32) :=
  if a0 < N ∧ K a0 = (0, 0) then (xb (m0_isWithin N K F I J a1 (0 : Int32) ((I a0 1) - (1 : Int32))) fun x2 => if x2 = 0 ∨ x2 = 1 then (some x2) else none) else none
set_option maxRecDepth 100000 in
set_option maxHeartbeats 4000000 in
theorem c_m0_isTable {l : Launch} {B d : Nat} {g : xG} {N : Nat} {K : Nat → Nat × Nat} {F : Nat → Nat → Option Nat} {I : (Nat → Nat → Int32)} {J : (Nat → Nat → Int64)} {a0 : Nat} {a1 : Int32} {rv : Int32} (h : m0_isTable N K F I J a0 a1 = some rv) : xC l g B (d + 1) 0 0 y0_isTable c0_isTable 2 (some .boolean) [.ref (B + a0), .int a1] (xP g B N K I J F) (xq (some (.int rv)) (xP g B N K I J F)) := by
  refine xC_of (by decide) (Nat.le_of_ble_eq_true rfl) (fun X hl hR hr _ hX => ?_)
  refine x_sub (L' := [(0, .ref (B + a0)), (1, .int a1)]) [0, 1] rfl ?_
  unfold m0_isTable at h
  refine x_iload_n hX d0_isTable_0 rfl rfl ?_
  refine x_iconst (v := 0) hX d0_isTable_1 (by decide) ?_
  refine x_aload_n hX d0_isTable_2 rfl rfl ?_
  obtain ⟨hg1, h⟩ := x_gd h
  refine x_getI (j := 1) hX xc0 hg1.1 hg1.2 (by decide) rfl kF0_15 d0_isTable_3 ?_
  refine x_iconst (v := 1) hX d0_isTable_6 (by decide) ?_
  refine x_isub hX d0_isTable_7 ?_
  obtain ⟨x2, eb3, h⟩ := x_bd h
  refine x_callS hX hR (c_m0_isWithin (l := x_l X) (d := d + 0) eb3) kX0_73 kS0_isWithin rfl rfl (Nat.le_of_ble_eq_true rfl) ⟨Nat.le_refl 0, Nat.le_refl 0⟩ d0_isTable_8 (x_kki ?_)
  obtain ⟨hg4, h⟩ := x_gd h
  cases h
  exact x_zret hX hr (x_nbool hg4) d0_isTable_11 (fun H hP => ⟨rfl, hP⟩)

def m0_nextOf (N : Nat) (K : Nat → Nat × Nat) (F : Nat → Nat → Option Nat) (I : (Nat → Nat → Int32)) (J : (Nat → Nat → Int64)) (a0 : Nat) (a1 : Int32) : Option (Nat) :=
  if a0 < N ∧ K a0 = (0, 0) then (xb (m0_isTable N K F I J a0 a1) fun x2 => if x2 = 0 then (xb (F a0 9) fun q4 => some q4) else (xb (F a0 0) fun q5 => if q5 < N ∧ (K q5).1 = 4 ∧ xinb a1 (K q5).2 then (xb (F q5 (a1.toNatClampNeg)) fun q7 => if q7 < N ∧ K q7 = (0, 4) then (xb (F q7 6) fun q9 => some q9) else none) else none)) else none
set_option maxRecDepth 100000 in
set_option maxHeartbeats 4000000 in
theorem c_m0_nextOf {l : Launch} {B d : Nat} {g : xG} {N : Nat} {K : Nat → Nat × Nat} {F : Nat → Nat → Option Nat} {I : (Nat → Nat → Int32)} {J : (Nat → Nat → Int64)} {a0 : Nat} {a1 : Int32} {rv : Nat} (h : m0_nextOf N K F I J a0 a1 = some rv) : xC l g B (d + 2) 0 0 y0_nextOf c0_nextOf 2 (some (.object "ChangeRows$Rows")) [.ref (B + a0), .int a1] (xP g B N K I J F) (xq (some (.ref (B + rv))) (xP g B N K I J F)) := by
  refine xC_of (by decide) (Nat.le_of_ble_eq_true rfl) (fun X hl hR hr _ hX => ?_)
  refine x_sub (L' := [(0, .ref (B + a0)), (1, .int a1)]) [0, 1] rfl ?_
  unfold m0_nextOf at h
  refine x_aload_n hX d0_nextOf_0 rfl rfl ?_
  refine x_iload_n hX d0_nextOf_1 rfl rfl ?_
  obtain ⟨hg1, h⟩ := x_gd h
  obtain ⟨x2, eb3, h⟩ := x_bd h
  refine x_callV hX hR (c_m0_isTable (l := x_l X) (d := d + 0) eb3) kX0_69 kN0_isTable kE0_isTable xc0.1 hg1.1 hg1.2 rfl rfl (Nat.le_of_ble_eq_true rfl) ⟨Nat.le_refl 0, Nat.le_refl 0⟩ d0_nextOf_2 (x_kki ?_)
  refine x_if_eq (tgt := 20) hX d0_nextOf_5 (by decide) (fun hc => ?_) (fun hc => ?_)
  · rw [if_pos hc] at h
    refine x_aload_n hX d0_nextOf_20 rfl rfl ?_
    obtain ⟨q4, eq4, h⟩ := x_bd h
    refine x_getF (j := 9) hX xc0 hg1.1 hg1.2 (by decide) rfl eq4 kF0_54 d0_nextOf_21 ?_
    cases h
    exact x_aret hX hr (Or.inl ⟨_, rfl⟩) (Or.inr ⟨_, rfl⟩) d0_nextOf_24 (fun H hP => ⟨rfl, hP⟩)
  · rw [if_neg hc] at h
    refine x_aload_n hX d0_nextOf_8 rfl rfl ?_
    obtain ⟨q5, eq5, h⟩ := x_bd h
    refine x_getF (j := 0) hX xc0 hg1.1 hg1.2 (by decide) rfl eq5 kF0_11 d0_nextOf_9 ?_
    refine x_iload_n hX d0_nextOf_12 rfl rfl ?_
    obtain ⟨hg6, h⟩ := x_gd h
    obtain ⟨q7, eq7, h⟩ := x_bd h
    refine x_aald hX hg6.1 (x_kd hg6.2.1) rfl (x_in hg6.2.2) eq7 d0_nextOf_13 ?_
    obtain ⟨hg8, h⟩ := x_gd h
    obtain ⟨q9, eq9, h⟩ := x_bd h
    refine x_getF (j := 6) hX xc4 hg8.1 hg8.2 (by decide) rfl eq9 kF0_101 d0_nextOf_14 ?_
    refine x_goto (tgt := 24) hX d0_nextOf_17 (by decide) ?_
    cases h
    exact x_aret hX hr (Or.inl ⟨_, rfl⟩) (Or.inr ⟨_, rfl⟩) d0_nextOf_24 (fun H hP => ⟨rfl, hP⟩)

def m0_make (N : Nat) (K : Nat → Nat × Nat) (F : Nat → Nat → Option Nat) (I : (Nat → Nat → Int32)) (J : (Nat → Nat → Int64)) (a0 : Nat) (a1 : Int32) (a2 : Int32) (a3 : Int32) (a4 : Int64) (a5 : Int64) : Option (Int32 × (Nat → Nat → Int32) × (Nat → Nat → Int64)) :=
  if a0 < N ∧ K a0 = (0, 0) then (xb (F a0 2) fun q2 => if q2 < N ∧ K q2 = (0, 1) then (if (I q2 0) = 0 then (if (I a0 1) < (12 : Int32) then (xb (F a0 0) fun q4 => if q4 < N ∧ (K q4).1 = 4 ∧ xinb (I a0 1) (K q4).2 then (xb (F q4 ((I a0 1).toNatClampNeg)) fun q6 => if q6 < N ∧ K q6 = (0, 4) then (xb (m4_define N K F I J q6 a1 a2 a3 a4 a5) fun (I8, J9) => xb (m0_nextOf N K F I8 J9 a0 a2) fun q11 => xb (m0_nextOf N K F I8 J9 a0 a3) fun q13 => xb (m4_derive N K F I8 J9 q6 q11 q13) fun (I15, J16) => xb (F q6 5) fun q18 => xb (F q6 6) fun q19 => if q18 < N ∧ K q18 = (0, 3) then (xb (m3_become N K F I15 J16 q18 q19) fun J21 => xb (F q6 7) fun q23 => if q23 < N ∧ K q23 = (0, 3) then (xb (m3_become N K F I15 J21 q23 q19) fun J25 => xlet (xu I15 a0 1 ((I15 a0 1) + (1 : Int32))) fun I27 => some (((I27 a0 1) - (1 : Int32)), I27, J25)) else none) else none) else none) else none) else (some ((-3 : Int32), I, J))) else (some ((-4 : Int32), I, J))) else none) else none
set_option maxRecDepth 100000 in
set_option maxHeartbeats 4000000 in
theorem c_m0_make {l : Launch} {B d : Nat} {g : xG} {N : Nat} {K : Nat → Nat × Nat} {F : Nat → Nat → Option Nat} {I : (Nat → Nat → Int32)} {J : (Nat → Nat → Int64)} {a0 : Nat} {a1 : Int32} {a2 : Int32} {a3 : Int32} {a4 : Int64} {a5 : Int64} {rv : Int32} {I' : (Nat → Nat → Int32)} {J' : (Nat → Nat → Int64)} (h : m0_make N K F I J a0 a1 a2 a3 a4 a5 = some (rv, I', J')) : xC l g B (d + 3) 0 0 y0_make c0_make 9 (some .int) [.ref (B + a0), .int a1, .int a2, .int a3, .long a4, .long a5] (xP g B N K I J F) (xq (some (.int rv)) (xP g B N K I' J' F)) := by
  refine xC_of (by decide) (Nat.le_of_ble_eq_true rfl) (fun X hl hR hr _ hX => ?_)
  refine x_sub (L' := [(0, .ref (B + a0)), (1, .int a1), (2, .int a2), (3, .int a3), (4, .long a4), (6, .long a5)]) [0, 1, 2, 3, 4, 5] rfl ?_
  unfold m0_make at h
  refine x_aload_n hX d0_make_0 rfl rfl ?_
  obtain ⟨hg1, h⟩ := x_gd h
  obtain ⟨q2, eq2, h⟩ := x_bd h
  refine x_getF (j := 2) hX xc0 hg1.1 hg1.2 (by decide) rfl eq2 kF0_22 d0_make_1 ?_
  obtain ⟨hg3, h⟩ := x_gd h
  refine x_getI (j := 0) hX xc1 hg3.1 hg3.2 (by decide) rfl kF0_87 d0_make_4 ?_
  refine x_if_eq (tgt := 13) hX d0_make_7 (by decide) (fun hc => ?_) (fun hc => ?_)
  · rw [if_pos hc] at h
    refine x_aload_n hX d0_make_13 rfl rfl ?_
    refine x_getI (j := 1) hX xc0 hg1.1 hg1.2 (by decide) rfl kF0_15 d0_make_14 ?_
    refine x_bipush (v := 12) hX d0_make_17 (by decide) ?_
    refine x_icmp_lt (tgt := 25) hX d0_make_19 (by decide) (fun hc => ?_) (fun hc => ?_)
    · rw [if_pos hc] at h
      refine x_aload_n hX d0_make_25 rfl rfl ?_
      obtain ⟨q4, eq4, h⟩ := x_bd h
      refine x_getF (j := 0) hX xc0 hg1.1 hg1.2 (by decide) rfl eq4 kF0_11 d0_make_26 ?_
      refine x_aload_n hX d0_make_29 rfl rfl ?_
      refine x_getI (j := 1) hX xc0 hg1.1 hg1.2 (by decide) rfl kF0_15 d0_make_30 ?_
      obtain ⟨hg5, h⟩ := x_gd h
      obtain ⟨q6, eq6, h⟩ := x_bd h
      refine x_aald hX hg5.1 (x_kd hg5.2.1) rfl (x_in hg5.2.2) eq6 d0_make_33 ?_
      refine x_astore hX [(8, .ref (B + q6)), (0, .ref (B + a0)), (1, .int a1), (2, .int a2), (3, .int a3), (4, .long a4), (6, .long a5)] d0_make_34 (by decide) rfl ?_
      refine x_aload hX d0_make_36 rfl ?_
      refine x_iload_n hX d0_make_38 rfl rfl ?_
      refine x_iload_n hX d0_make_39 rfl rfl ?_
      refine x_iload_n hX d0_make_40 rfl rfl ?_
      refine x_lload hX d0_make_41 rfl ?_
      refine x_lload hX d0_make_43 rfl ?_
      obtain ⟨hg7, h⟩ := x_gd h
      obtain ⟨⟨I8, J9⟩, eb10, h⟩ := x_bd h
      dsimp only at h
      refine x_callV hX hR (c_m4_define (l := x_l X) (d := d + 2) eb10) kX0_193 kN4_define kE4_define xc4.1 hg7.1 hg7.2 rfl rfl (Nat.le_of_ble_eq_true rfl) ⟨Nat.le_refl 0, Nat.le_refl 0⟩ d0_make_45 (x_kkv ?_)
      refine x_aload hX d0_make_48 rfl ?_
      refine x_aload_n hX d0_make_50 rfl rfl ?_
      refine x_iload_n hX d0_make_51 rfl rfl ?_
      obtain ⟨q11, eb12, h⟩ := x_bd h
      refine x_callV hX hR (c_m0_nextOf (l := x_l X) (d := d + 0) eb12) kX0_197 kN0_nextOf kE0_nextOf xc0.1 hg1.1 hg1.2 rfl rfl (Nat.le_of_ble_eq_true rfl) ⟨Nat.le_refl 0, Nat.le_refl 0⟩ d0_make_52 (x_kkr ?_)
      refine x_aload_n hX d0_make_55 rfl rfl ?_
      refine x_iload_n hX d0_make_56 rfl rfl ?_
      obtain ⟨q13, eb14, h⟩ := x_bd h
      refine x_callV hX hR (c_m0_nextOf (l := x_l X) (d := d + 0) eb14) kX0_197 kN0_nextOf kE0_nextOf xc0.1 hg1.1 hg1.2 rfl rfl (Nat.le_of_ble_eq_true rfl) ⟨Nat.le_refl 0, Nat.le_refl 0⟩ d0_make_57 (x_kkr ?_)
      obtain ⟨⟨I15, J16⟩, eb17, h⟩ := x_bd h
      dsimp only at h
      refine x_callV hX hR (c_m4_derive (l := x_l X) (d := d + 0) eb17) kX0_200 kN4_derive kE4_derive xc4.1 hg7.1 hg7.2 rfl rfl (Nat.le_of_ble_eq_true rfl) ⟨Nat.le_refl 0, Nat.le_refl 0⟩ d0_make_60 (x_kkv ?_)
      refine x_aload hX d0_make_63 rfl ?_
      obtain ⟨q18, eq18, h⟩ := x_bd h
      refine x_getF (j := 5) hX xc4 hg7.1 hg7.2 (by decide) rfl eq18 kF0_147 d0_make_65 ?_
      refine x_aload hX d0_make_68 rfl ?_
      obtain ⟨q19, eq19, h⟩ := x_bd h
      refine x_getF (j := 6) hX xc4 hg7.1 hg7.2 (by decide) rfl eq19 kF0_101 d0_make_70 ?_
      obtain ⟨hg20, h⟩ := x_gd h
      obtain ⟨J21, eb22, h⟩ := x_bd h
      refine x_callV hX hR (c_m3_become (l := x_l X) (d := d + 1) eb22) kX0_149 kN3_become kE3_become xc3.1 hg20.1 hg20.2 rfl rfl (Nat.le_of_ble_eq_true rfl) ⟨Nat.le_refl 0, Nat.le_refl 0⟩ d0_make_73 (x_kkv ?_)
      refine x_aload hX d0_make_76 rfl ?_
      obtain ⟨q23, eq23, h⟩ := x_bd h
      refine x_getF (j := 7) hX xc4 hg7.1 hg7.2 (by decide) rfl eq23 kF0_144 d0_make_78 ?_
      refine x_aload hX d0_make_81 rfl ?_
      refine x_getF (j := 6) hX xc4 hg7.1 hg7.2 (by decide) rfl eq19 kF0_101 d0_make_83 ?_
      obtain ⟨hg24, h⟩ := x_gd h
      obtain ⟨J25, eb26, h⟩ := x_bd h
      refine x_callV hX hR (c_m3_become (l := x_l X) (d := d + 1) eb26) kX0_149 kN3_become kE3_become xc3.1 hg24.1 hg24.2 rfl rfl (Nat.le_of_ble_eq_true rfl) ⟨Nat.le_refl 0, Nat.le_refl 0⟩ d0_make_86 (x_kkv ?_)
      refine x_aload_n hX d0_make_89 rfl rfl ?_
      refine x_dup hX d0_make_90 rfl ?_
      refine x_getI (j := 1) hX xc0 hg1.1 hg1.2 (by decide) rfl kF0_15 d0_make_91 ?_
      refine x_iconst (v := 1) hX d0_make_94 (by decide) ?_
      refine x_iadd hX d0_make_95 ?_
      refine x_putI (j := 1) hX xc0 hg1.1 hg1.2 (by decide) rfl kF0_15 (Or.inl rfl) rfl rfl d0_make_96 ?_
      obtain ⟨I27, eI27, h⟩ := x_le h
      rw [← eI27]
      refine x_aload_n hX d0_make_99 rfl rfl ?_
      refine x_getI (j := 1) hX xc0 hg1.1 hg1.2 (by decide) rfl kF0_15 d0_make_100 ?_
      refine x_iconst (v := 1) hX d0_make_103 (by decide) ?_
      refine x_isub hX d0_make_104 ?_
      cases h
      exact x_iret hX hr d0_make_105 (fun H hP => ⟨rfl, hP⟩)
    · rw [if_neg hc] at h
      refine x_bipush (v := -3) hX d0_make_22 (by decide) ?_
      cases h
      exact x_iret hX hr d0_make_24 (fun H hP => ⟨rfl, hP⟩)
  · rw [if_neg hc] at h
    refine x_bipush (v := -4) hX d0_make_10 (by decide) ?_
    cases h
    exact x_iret hX hr d0_make_12 (fun H hP => ⟨rfl, hP⟩)

def m0_source (N : Nat) (K : Nat → Nat × Nat) (F : Nat → Nat → Option Nat) (I : (Nat → Nat → Int32)) (J : (Nat → Nat → Int64)) (a0 : Nat) : Option (Int32 × (Nat → Nat → Int32) × (Nat → Nat → Int64)) :=
  if a0 < N ∧ K a0 = (0, 0) then (xb (m0_make N K F I J a0 (0 : Int32) (-1 : Int32) (-1 : Int32) (0 : Int64) (0 : Int64)) fun (x2, I3, J4) => some (x2, I3, J4)) else none
set_option maxRecDepth 100000 in
set_option maxHeartbeats 4000000 in
theorem c_m0_source {l : Launch} {B d : Nat} {g : xG} {N : Nat} {K : Nat → Nat × Nat} {F : Nat → Nat → Option Nat} {I : (Nat → Nat → Int32)} {J : (Nat → Nat → Int64)} {a0 : Nat} {rv : Int32} {I' : (Nat → Nat → Int32)} {J' : (Nat → Nat → Int64)} (h : m0_source N K F I J a0 = some (rv, I', J')) : xC l g B (d + 4) 0 0 y0_source c0_source 1 (some .int) [.ref (B + a0)] (xP g B N K I J F) (xq (some (.int rv)) (xP g B N K I' J' F)) := by
  refine xC_of (by decide) (Nat.le_of_ble_eq_true rfl) (fun X hl hR hr _ hX => ?_)
  refine x_sub (L' := [(0, .ref (B + a0))]) [0] rfl ?_
  unfold m0_source at h
  refine x_aload_n hX d0_source_0 rfl rfl ?_
  refine x_iconst (v := 0) hX d0_source_1 (by decide) ?_
  refine x_iconst (v := -1) hX d0_source_2 (by decide) ?_
  refine x_iconst (v := -1) hX d0_source_3 (by decide) ?_
  refine x_lconst (v := 0) hX d0_source_4 (by decide) ?_
  refine x_lconst (v := 0) hX d0_source_5 (by decide) ?_
  obtain ⟨hg1, h⟩ := x_gd h
  obtain ⟨⟨x2, I3, J4⟩, eb5, h⟩ := x_bd h
  dsimp only at h
  refine x_callV hX hR (c_m0_make (l := x_l X) (d := d + 0) eb5) kX0_65 kN0_make kE0_make xc0.1 hg1.1 hg1.2 rfl rfl (Nat.le_of_ble_eq_true rfl) ⟨Nat.le_refl 0, Nat.le_refl 0⟩ d0_source_6 (x_kki ?_)
  cases h
  exact x_iret hX hr d0_source_9 (fun H hP => ⟨rfl, hP⟩)

def m0_filter (N : Nat) (K : Nat → Nat × Nat) (F : Nat → Nat → Option Nat) (I : (Nat → Nat → Int32)) (J : (Nat → Nat → Int64)) (a0 : Nat) (a1 : Int32) (a2 : Int64) (a3 : Int64) : Option (Int32 × (Nat → Nat → Int32) × (Nat → Nat → Int64)) :=
  if a0 < N ∧ K a0 = (0, 0) then (xb (m0_isTable N K F I J a0 a1) fun x2 => if x2 = 0 then (some ((-2 : Int32), I, J)) else (if a2 ≤ a3 then (xb (m0_make N K F I J a0 (1 : Int32) a1 (-1 : Int32) a2 a3) fun (x4, I5, J6) => some (x4, I5, J6)) else (some ((-2 : Int32), I, J)))) else none
set_option maxRecDepth 100000 in
set_option maxHeartbeats 4000000 in
theorem c_m0_filter {l : Launch} {B d : Nat} {g : xG} {N : Nat} {K : Nat → Nat × Nat} {F : Nat → Nat → Option Nat} {I : (Nat → Nat → Int32)} {J : (Nat → Nat → Int64)} {a0 : Nat} {a1 : Int32} {a2 : Int64} {a3 : Int64} {rv : Int32} {I' : (Nat → Nat → Int32)} {J' : (Nat → Nat → Int64)} (h : m0_filter N K F I J a0 a1 a2 a3 = some (rv, I', J')) : xC l g B (d + 4) 0 0 y0_filter c0_filter 6 (some .int) [.ref (B + a0), .int a1, .long a2, .long a3] (xP g B N K I J F) (xq (some (.int rv)) (xP g B N K I' J' F)) := by
  refine xC_of (by decide) (Nat.le_of_ble_eq_true rfl) (fun X hl hR hr _ hX => ?_)
  refine x_sub (L' := [(0, .ref (B + a0)), (1, .int a1), (2, .long a2), (4, .long a3)]) [0, 1, 2, 3] rfl ?_
  unfold m0_filter at h
  refine x_aload_n hX d0_filter_0 rfl rfl ?_
  refine x_iload_n hX d0_filter_1 rfl rfl ?_
  obtain ⟨hg1, h⟩ := x_gd h
  obtain ⟨x2, eb3, h⟩ := x_bd h
  refine x_callV hX hR (c_m0_isTable (l := x_l X) (d := d + 2) eb3) kX0_69 kN0_isTable kE0_isTable xc0.1 hg1.1 hg1.2 rfl rfl (Nat.le_of_ble_eq_true rfl) ⟨Nat.le_refl 0, Nat.le_refl 0⟩ d0_filter_2 (x_kki ?_)
  refine x_if_eq (tgt := 15) hX d0_filter_5 (by decide) (fun hc => ?_) (fun hc => ?_)
  · rw [if_pos hc] at h
    refine x_bipush (v := -2) hX d0_filter_15 (by decide) ?_
    cases h
    exact x_iret hX hr d0_filter_17 (fun H hP => ⟨rfl, hP⟩)
  · rw [if_neg hc] at h
    refine x_lload_n hX d0_filter_8 rfl rfl ?_
    refine x_lload hX d0_filter_9 rfl ?_
    refine x_lif_le (tgt := 18) hX d0_filter_11 d0_filter_12 (by decide) (fun hc => ?_) (fun hc => ?_)
    · rw [if_pos hc] at h
      refine x_aload_n hX d0_filter_18 rfl rfl ?_
      refine x_iconst (v := 1) hX d0_filter_19 (by decide) ?_
      refine x_iload_n hX d0_filter_20 rfl rfl ?_
      refine x_iconst (v := -1) hX d0_filter_21 (by decide) ?_
      refine x_lload_n hX d0_filter_22 rfl rfl ?_
      refine x_lload hX d0_filter_23 rfl ?_
      obtain ⟨⟨x4, I5, J6⟩, eb7, h⟩ := x_bd h
      dsimp only at h
      refine x_callV hX hR (c_m0_make (l := x_l X) (d := d + 0) eb7) kX0_65 kN0_make kE0_make xc0.1 hg1.1 hg1.2 rfl rfl (Nat.le_of_ble_eq_true rfl) ⟨Nat.le_refl 0, Nat.le_refl 0⟩ d0_filter_25 (x_kki ?_)
      cases h
      exact x_iret hX hr d0_filter_28 (fun H hP => ⟨rfl, hP⟩)
    · rw [if_neg hc] at h
      refine x_bipush (v := -2) hX d0_filter_15 (by decide) ?_
      cases h
      exact x_iret hX hr d0_filter_17 (fun H hP => ⟨rfl, hP⟩)

def m0_map (N : Nat) (K : Nat → Nat × Nat) (F : Nat → Nat → Option Nat) (I : (Nat → Nat → Int32)) (J : (Nat → Nat → Int64)) (a0 : Nat) (a1 : Int32) (a2 : Int32) (a3 : Int32) : Option (Int32 × (Nat → Nat → Int32) × (Nat → Nat → Int64)) :=
  if a0 < N ∧ K a0 = (0, 0) then (xb (m0_isTable N K F I J a0 a1) fun x2 => if x2 = 0 then (some ((-2 : Int32), I, J)) else (xb (m0_isWithin N K F I J a2 (-1000 : Int32) (1000 : Int32)) fun x4 => if x4 = 0 then (some ((-2 : Int32), I, J)) else (xb (m0_isWithin N K F I J a3 (-1000 : Int32) (1000 : Int32)) fun x6 => if ¬ x6 = 0 then (xb (m0_make N K F I J a0 (2 : Int32) a1 (-1 : Int32) (a2.toInt64) (a3.toInt64)) fun (x8, I9, J10) => some (x8, I9, J10)) else (some ((-2 : Int32), I, J))))) else none
set_option maxRecDepth 100000 in
set_option maxHeartbeats 4000000 in
theorem c_m0_map {l : Launch} {B d : Nat} {g : xG} {N : Nat} {K : Nat → Nat × Nat} {F : Nat → Nat → Option Nat} {I : (Nat → Nat → Int32)} {J : (Nat → Nat → Int64)} {a0 : Nat} {a1 : Int32} {a2 : Int32} {a3 : Int32} {rv : Int32} {I' : (Nat → Nat → Int32)} {J' : (Nat → Nat → Int64)} (h : m0_map N K F I J a0 a1 a2 a3 = some (rv, I', J')) : xC l g B (d + 4) 0 0 y0_map c0_map 4 (some .int) [.ref (B + a0), .int a1, .int a2, .int a3] (xP g B N K I J F) (xq (some (.int rv)) (xP g B N K I' J' F)) := by
  refine xC_of (by decide) (Nat.le_of_ble_eq_true rfl) (fun X hl hR hr _ hX => ?_)
  refine x_sub (L' := [(0, .ref (B + a0)), (1, .int a1), (2, .int a2), (3, .int a3)]) [0, 1, 2, 3] rfl ?_
  unfold m0_map at h
  refine x_aload_n hX d0_map_0 rfl rfl ?_
  refine x_iload_n hX d0_map_1 rfl rfl ?_
  obtain ⟨hg1, h⟩ := x_gd h
  obtain ⟨x2, eb3, h⟩ := x_bd h
  refine x_callV hX hR (c_m0_isTable (l := x_l X) (d := d + 2) eb3) kX0_69 kN0_isTable kE0_isTable xc0.1 hg1.1 hg1.2 rfl rfl (Nat.le_of_ble_eq_true rfl) ⟨Nat.le_refl 0, Nat.le_refl 0⟩ d0_map_2 (x_kki ?_)
  refine x_if_eq (tgt := 34) hX d0_map_5 (by decide) (fun hc => ?_) (fun hc => ?_)
  · rw [if_pos hc] at h
    refine x_bipush (v := -2) hX d0_map_34 (by decide) ?_
    cases h
    exact x_iret hX hr d0_map_36 (fun H hP => ⟨rfl, hP⟩)
  · rw [if_neg hc] at h
    refine x_iload_n hX d0_map_8 rfl rfl ?_
    refine x_sipush (v := -1000) hX d0_map_9 (by decide) ?_
    refine x_sipush (v := 1000) hX d0_map_12 (by decide) ?_
    obtain ⟨x4, eb5, h⟩ := x_bd h
    refine x_callS hX hR (c_m0_isWithin (l := x_l X) (d := d + 3) eb5) kX0_73 kS0_isWithin rfl rfl (Nat.le_of_ble_eq_true rfl) ⟨Nat.le_refl 0, Nat.le_refl 0⟩ d0_map_15 (x_kki ?_)
    refine x_if_eq (tgt := 34) hX d0_map_18 (by decide) (fun hc => ?_) (fun hc => ?_)
    · rw [if_pos hc] at h
      refine x_bipush (v := -2) hX d0_map_34 (by decide) ?_
      cases h
      exact x_iret hX hr d0_map_36 (fun H hP => ⟨rfl, hP⟩)
    · rw [if_neg hc] at h
      refine x_iload_n hX d0_map_21 rfl rfl ?_
      refine x_sipush (v := -1000) hX d0_map_22 (by decide) ?_
      refine x_sipush (v := 1000) hX d0_map_25 (by decide) ?_
      obtain ⟨x6, eb7, h⟩ := x_bd h
      refine x_callS hX hR (c_m0_isWithin (l := x_l X) (d := d + 3) eb7) kX0_73 kS0_isWithin rfl rfl (Nat.le_of_ble_eq_true rfl) ⟨Nat.le_refl 0, Nat.le_refl 0⟩ d0_map_28 (x_kki ?_)
      refine x_if_ne (tgt := 37) hX d0_map_31 (by decide) (fun hc => ?_) (fun hc => ?_)
      · rw [if_pos hc] at h
        refine x_aload_n hX d0_map_37 rfl rfl ?_
        refine x_iconst (v := 2) hX d0_map_38 (by decide) ?_
        refine x_iload_n hX d0_map_39 rfl rfl ?_
        refine x_iconst (v := -1) hX d0_map_40 (by decide) ?_
        refine x_iload_n hX d0_map_41 rfl rfl ?_
        refine x_i2l hX d0_map_42 ?_
        refine x_iload_n hX d0_map_43 rfl rfl ?_
        refine x_i2l hX d0_map_44 ?_
        obtain ⟨⟨x8, I9, J10⟩, eb11, h⟩ := x_bd h
        dsimp only at h
        refine x_callV hX hR (c_m0_make (l := x_l X) (d := d + 0) eb11) kX0_65 kN0_make kE0_make xc0.1 hg1.1 hg1.2 rfl rfl (Nat.le_of_ble_eq_true rfl) ⟨Nat.le_refl 0, Nat.le_refl 0⟩ d0_map_45 (x_kki ?_)
        cases h
        exact x_iret hX hr d0_map_48 (fun H hP => ⟨rfl, hP⟩)
      · rw [if_neg (x_nn hc)] at h
        refine x_bipush (v := -2) hX d0_map_34 (by decide) ?_
        cases h
        exact x_iret hX hr d0_map_36 (fun H hP => ⟨rfl, hP⟩)

def m0_fold (N : Nat) (K : Nat → Nat × Nat) (F : Nat → Nat → Option Nat) (I : (Nat → Nat → Int32)) (J : (Nat → Nat → Int64)) (a0 : Nat) (a1 : Int32) (a2 : Int32) (a3 : Int32) : Option (Int32 × (Nat → Nat → Int32) × (Nat → Nat → Int64)) :=
  if a0 < N ∧ K a0 = (0, 0) then (xb (m0_isTable N K F I J a0 a1) fun x2 => if x2 = 0 then (some ((-2 : Int32), I, J)) else (xb (m0_isWithin N K F I J a2 (0 : Int32) (4 : Int32)) fun x4 => if x4 = 0 then (some ((-2 : Int32), I, J)) else (xb (m0_isWithin N K F I J a3 (1 : Int32) (64 : Int32)) fun x6 => if ¬ x6 = 0 then (xb (m0_make N K F I J a0 (3 : Int32) a1 (-1 : Int32) (a2.toInt64) (a3.toInt64)) fun (x8, I9, J10) => some (x8, I9, J10)) else (some ((-2 : Int32), I, J))))) else none
set_option maxRecDepth 100000 in
set_option maxHeartbeats 4000000 in
theorem c_m0_fold {l : Launch} {B d : Nat} {g : xG} {N : Nat} {K : Nat → Nat × Nat} {F : Nat → Nat → Option Nat} {I : (Nat → Nat → Int32)} {J : (Nat → Nat → Int64)} {a0 : Nat} {a1 : Int32} {a2 : Int32} {a3 : Int32} {rv : Int32} {I' : (Nat → Nat → Int32)} {J' : (Nat → Nat → Int64)} (h : m0_fold N K F I J a0 a1 a2 a3 = some (rv, I', J')) : xC l g B (d + 4) 0 0 y0_fold c0_fold 4 (some .int) [.ref (B + a0), .int a1, .int a2, .int a3] (xP g B N K I J F) (xq (some (.int rv)) (xP g B N K I' J' F)) := by
  refine xC_of (by decide) (Nat.le_of_ble_eq_true rfl) (fun X hl hR hr _ hX => ?_)
  refine x_sub (L' := [(0, .ref (B + a0)), (1, .int a1), (2, .int a2), (3, .int a3)]) [0, 1, 2, 3] rfl ?_
  unfold m0_fold at h
  refine x_aload_n hX d0_fold_0 rfl rfl ?_
  refine x_iload_n hX d0_fold_1 rfl rfl ?_
  obtain ⟨hg1, h⟩ := x_gd h
  obtain ⟨x2, eb3, h⟩ := x_bd h
  refine x_callV hX hR (c_m0_isTable (l := x_l X) (d := d + 2) eb3) kX0_69 kN0_isTable kE0_isTable xc0.1 hg1.1 hg1.2 rfl rfl (Nat.le_of_ble_eq_true rfl) ⟨Nat.le_refl 0, Nat.le_refl 0⟩ d0_fold_2 (x_kki ?_)
  refine x_if_eq (tgt := 27) hX d0_fold_5 (by decide) (fun hc => ?_) (fun hc => ?_)
  · rw [if_pos hc] at h
    refine x_bipush (v := -2) hX d0_fold_27 (by decide) ?_
    cases h
    exact x_iret hX hr d0_fold_29 (fun H hP => ⟨rfl, hP⟩)
  · rw [if_neg hc] at h
    refine x_iload_n hX d0_fold_8 rfl rfl ?_
    refine x_iconst (v := 0) hX d0_fold_9 (by decide) ?_
    refine x_iconst (v := 4) hX d0_fold_10 (by decide) ?_
    obtain ⟨x4, eb5, h⟩ := x_bd h
    refine x_callS hX hR (c_m0_isWithin (l := x_l X) (d := d + 3) eb5) kX0_73 kS0_isWithin rfl rfl (Nat.le_of_ble_eq_true rfl) ⟨Nat.le_refl 0, Nat.le_refl 0⟩ d0_fold_11 (x_kki ?_)
    refine x_if_eq (tgt := 27) hX d0_fold_14 (by decide) (fun hc => ?_) (fun hc => ?_)
    · rw [if_pos hc] at h
      refine x_bipush (v := -2) hX d0_fold_27 (by decide) ?_
      cases h
      exact x_iret hX hr d0_fold_29 (fun H hP => ⟨rfl, hP⟩)
    · rw [if_neg hc] at h
      refine x_iload_n hX d0_fold_17 rfl rfl ?_
      refine x_iconst (v := 1) hX d0_fold_18 (by decide) ?_
      refine x_bipush (v := 64) hX d0_fold_19 (by decide) ?_
      obtain ⟨x6, eb7, h⟩ := x_bd h
      refine x_callS hX hR (c_m0_isWithin (l := x_l X) (d := d + 3) eb7) kX0_73 kS0_isWithin rfl rfl (Nat.le_of_ble_eq_true rfl) ⟨Nat.le_refl 0, Nat.le_refl 0⟩ d0_fold_21 (x_kki ?_)
      refine x_if_ne (tgt := 30) hX d0_fold_24 (by decide) (fun hc => ?_) (fun hc => ?_)
      · rw [if_pos hc] at h
        refine x_aload_n hX d0_fold_30 rfl rfl ?_
        refine x_iconst (v := 3) hX d0_fold_31 (by decide) ?_
        refine x_iload_n hX d0_fold_32 rfl rfl ?_
        refine x_iconst (v := -1) hX d0_fold_33 (by decide) ?_
        refine x_iload_n hX d0_fold_34 rfl rfl ?_
        refine x_i2l hX d0_fold_35 ?_
        refine x_iload_n hX d0_fold_36 rfl rfl ?_
        refine x_i2l hX d0_fold_37 ?_
        obtain ⟨⟨x8, I9, J10⟩, eb11, h⟩ := x_bd h
        dsimp only at h
        refine x_callV hX hR (c_m0_make (l := x_l X) (d := d + 0) eb11) kX0_65 kN0_make kE0_make xc0.1 hg1.1 hg1.2 rfl rfl (Nat.le_of_ble_eq_true rfl) ⟨Nat.le_refl 0, Nat.le_refl 0⟩ d0_fold_38 (x_kki ?_)
        cases h
        exact x_iret hX hr d0_fold_41 (fun H hP => ⟨rfl, hP⟩)
      · rw [if_neg (x_nn hc)] at h
        refine x_bipush (v := -2) hX d0_fold_27 (by decide) ?_
        cases h
        exact x_iret hX hr d0_fold_29 (fun H hP => ⟨rfl, hP⟩)

def m0_join (N : Nat) (K : Nat → Nat × Nat) (F : Nat → Nat → Option Nat) (I : (Nat → Nat → Int32)) (J : (Nat → Nat → Int64)) (a0 : Nat) (a1 : Int32) (a2 : Int32) (a3 : Int32) : Option (Int32 × (Nat → Nat → Int32) × (Nat → Nat → Int64)) :=
  if a0 < N ∧ K a0 = (0, 0) then (xb (m0_isTable N K F I J a0 a1) fun x2 => if x2 = 0 then (some ((-2 : Int32), I, J)) else (xb (m0_isTable N K F I J a0 a2) fun x4 => if x4 = 0 then (some ((-2 : Int32), I, J)) else (xb (m0_isWithin N K F I J a3 (0 : Int32) (1 : Int32)) fun x6 => if ¬ x6 = 0 then (xb (m0_make N K F I J a0 (4 : Int32) a1 a2 (a3.toInt64) (0 : Int64)) fun (x8, I9, J10) => some (x8, I9, J10)) else (some ((-2 : Int32), I, J))))) else none
set_option maxRecDepth 100000 in
set_option maxHeartbeats 4000000 in
theorem c_m0_join {l : Launch} {B d : Nat} {g : xG} {N : Nat} {K : Nat → Nat × Nat} {F : Nat → Nat → Option Nat} {I : (Nat → Nat → Int32)} {J : (Nat → Nat → Int64)} {a0 : Nat} {a1 : Int32} {a2 : Int32} {a3 : Int32} {rv : Int32} {I' : (Nat → Nat → Int32)} {J' : (Nat → Nat → Int64)} (h : m0_join N K F I J a0 a1 a2 a3 = some (rv, I', J')) : xC l g B (d + 4) 0 0 y0_join c0_join 4 (some .int) [.ref (B + a0), .int a1, .int a2, .int a3] (xP g B N K I J F) (xq (some (.int rv)) (xP g B N K I' J' F)) := by
  refine xC_of (by decide) (Nat.le_of_ble_eq_true rfl) (fun X hl hR hr _ hX => ?_)
  refine x_sub (L' := [(0, .ref (B + a0)), (1, .int a1), (2, .int a2), (3, .int a3)]) [0, 1, 2, 3] rfl ?_
  unfold m0_join at h
  refine x_aload_n hX d0_join_0 rfl rfl ?_
  refine x_iload_n hX d0_join_1 rfl rfl ?_
  obtain ⟨hg1, h⟩ := x_gd h
  obtain ⟨x2, eb3, h⟩ := x_bd h
  refine x_callV hX hR (c_m0_isTable (l := x_l X) (d := d + 2) eb3) kX0_69 kN0_isTable kE0_isTable xc0.1 hg1.1 hg1.2 rfl rfl (Nat.le_of_ble_eq_true rfl) ⟨Nat.le_refl 0, Nat.le_refl 0⟩ d0_join_2 (x_kki ?_)
  refine x_if_eq (tgt := 25) hX d0_join_5 (by decide) (fun hc => ?_) (fun hc => ?_)
  · rw [if_pos hc] at h
    refine x_bipush (v := -2) hX d0_join_25 (by decide) ?_
    cases h
    exact x_iret hX hr d0_join_27 (fun H hP => ⟨rfl, hP⟩)
  · rw [if_neg hc] at h
    refine x_aload_n hX d0_join_8 rfl rfl ?_
    refine x_iload_n hX d0_join_9 rfl rfl ?_
    obtain ⟨x4, eb5, h⟩ := x_bd h
    refine x_callV hX hR (c_m0_isTable (l := x_l X) (d := d + 2) eb5) kX0_69 kN0_isTable kE0_isTable xc0.1 hg1.1 hg1.2 rfl rfl (Nat.le_of_ble_eq_true rfl) ⟨Nat.le_refl 0, Nat.le_refl 0⟩ d0_join_10 (x_kki ?_)
    refine x_if_eq (tgt := 25) hX d0_join_13 (by decide) (fun hc => ?_) (fun hc => ?_)
    · rw [if_pos hc] at h
      refine x_bipush (v := -2) hX d0_join_25 (by decide) ?_
      cases h
      exact x_iret hX hr d0_join_27 (fun H hP => ⟨rfl, hP⟩)
    · rw [if_neg hc] at h
      refine x_iload_n hX d0_join_16 rfl rfl ?_
      refine x_iconst (v := 0) hX d0_join_17 (by decide) ?_
      refine x_iconst (v := 1) hX d0_join_18 (by decide) ?_
      obtain ⟨x6, eb7, h⟩ := x_bd h
      refine x_callS hX hR (c_m0_isWithin (l := x_l X) (d := d + 3) eb7) kX0_73 kS0_isWithin rfl rfl (Nat.le_of_ble_eq_true rfl) ⟨Nat.le_refl 0, Nat.le_refl 0⟩ d0_join_19 (x_kki ?_)
      refine x_if_ne (tgt := 28) hX d0_join_22 (by decide) (fun hc => ?_) (fun hc => ?_)
      · rw [if_pos hc] at h
        refine x_aload_n hX d0_join_28 rfl rfl ?_
        refine x_iconst (v := 4) hX d0_join_29 (by decide) ?_
        refine x_iload_n hX d0_join_30 rfl rfl ?_
        refine x_iload_n hX d0_join_31 rfl rfl ?_
        refine x_iload_n hX d0_join_32 rfl rfl ?_
        refine x_i2l hX d0_join_33 ?_
        refine x_lconst (v := 0) hX d0_join_34 (by decide) ?_
        obtain ⟨⟨x8, I9, J10⟩, eb11, h⟩ := x_bd h
        dsimp only at h
        refine x_callV hX hR (c_m0_make (l := x_l X) (d := d + 0) eb11) kX0_65 kN0_make kE0_make xc0.1 hg1.1 hg1.2 rfl rfl (Nat.le_of_ble_eq_true rfl) ⟨Nat.le_refl 0, Nat.le_refl 0⟩ d0_join_35 (x_kki ?_)
        cases h
        exact x_iret hX hr d0_join_38 (fun H hP => ⟨rfl, hP⟩)
      · rw [if_neg (x_nn hc)] at h
        refine x_bipush (v := -2) hX d0_join_25 (by decide) ?_
        cases h
        exact x_iret hX hr d0_join_27 (fun H hP => ⟨rfl, hP⟩)

def m0_merge (N : Nat) (K : Nat → Nat × Nat) (F : Nat → Nat → Option Nat) (I : (Nat → Nat → Int32)) (J : (Nat → Nat → Int64)) (a0 : Nat) (a1 : Int32) (a2 : Int32) : Option (Int32 × (Nat → Nat → Int32) × (Nat → Nat → Int64)) :=
  if a0 < N ∧ K a0 = (0, 0) then (xb (m0_isTable N K F I J a0 a1) fun x2 => if x2 = 0 then (some ((-2 : Int32), I, J)) else (xb (m0_isTable N K F I J a0 a2) fun x4 => if ¬ x4 = 0 then (xb (m0_make N K F I J a0 (5 : Int32) a1 a2 (0 : Int64) (0 : Int64)) fun (x6, I7, J8) => some (x6, I7, J8)) else (some ((-2 : Int32), I, J)))) else none
set_option maxRecDepth 100000 in
set_option maxHeartbeats 4000000 in
theorem c_m0_merge {l : Launch} {B d : Nat} {g : xG} {N : Nat} {K : Nat → Nat × Nat} {F : Nat → Nat → Option Nat} {I : (Nat → Nat → Int32)} {J : (Nat → Nat → Int64)} {a0 : Nat} {a1 : Int32} {a2 : Int32} {rv : Int32} {I' : (Nat → Nat → Int32)} {J' : (Nat → Nat → Int64)} (h : m0_merge N K F I J a0 a1 a2 = some (rv, I', J')) : xC l g B (d + 4) 0 0 y0_merge c0_merge 3 (some .int) [.ref (B + a0), .int a1, .int a2] (xP g B N K I J F) (xq (some (.int rv)) (xP g B N K I' J' F)) := by
  refine xC_of (by decide) (Nat.le_of_ble_eq_true rfl) (fun X hl hR hr _ hX => ?_)
  refine x_sub (L' := [(0, .ref (B + a0)), (1, .int a1), (2, .int a2)]) [0, 1, 2] rfl ?_
  unfold m0_merge at h
  refine x_aload_n hX d0_merge_0 rfl rfl ?_
  refine x_iload_n hX d0_merge_1 rfl rfl ?_
  obtain ⟨hg1, h⟩ := x_gd h
  obtain ⟨x2, eb3, h⟩ := x_bd h
  refine x_callV hX hR (c_m0_isTable (l := x_l X) (d := d + 2) eb3) kX0_69 kN0_isTable kE0_isTable xc0.1 hg1.1 hg1.2 rfl rfl (Nat.le_of_ble_eq_true rfl) ⟨Nat.le_refl 0, Nat.le_refl 0⟩ d0_merge_2 (x_kki ?_)
  refine x_if_eq (tgt := 16) hX d0_merge_5 (by decide) (fun hc => ?_) (fun hc => ?_)
  · rw [if_pos hc] at h
    refine x_bipush (v := -2) hX d0_merge_16 (by decide) ?_
    cases h
    exact x_iret hX hr d0_merge_18 (fun H hP => ⟨rfl, hP⟩)
  · rw [if_neg hc] at h
    refine x_aload_n hX d0_merge_8 rfl rfl ?_
    refine x_iload_n hX d0_merge_9 rfl rfl ?_
    obtain ⟨x4, eb5, h⟩ := x_bd h
    refine x_callV hX hR (c_m0_isTable (l := x_l X) (d := d + 2) eb5) kX0_69 kN0_isTable kE0_isTable xc0.1 hg1.1 hg1.2 rfl rfl (Nat.le_of_ble_eq_true rfl) ⟨Nat.le_refl 0, Nat.le_refl 0⟩ d0_merge_10 (x_kki ?_)
    refine x_if_ne (tgt := 19) hX d0_merge_13 (by decide) (fun hc => ?_) (fun hc => ?_)
    · rw [if_pos hc] at h
      refine x_aload_n hX d0_merge_19 rfl rfl ?_
      refine x_iconst (v := 5) hX d0_merge_20 (by decide) ?_
      refine x_iload_n hX d0_merge_21 rfl rfl ?_
      refine x_iload_n hX d0_merge_22 rfl rfl ?_
      refine x_lconst (v := 0) hX d0_merge_23 (by decide) ?_
      refine x_lconst (v := 0) hX d0_merge_24 (by decide) ?_
      obtain ⟨⟨x6, I7, J8⟩, eb9, h⟩ := x_bd h
      dsimp only at h
      refine x_callV hX hR (c_m0_make (l := x_l X) (d := d + 0) eb9) kX0_65 kN0_make kE0_make xc0.1 hg1.1 hg1.2 rfl rfl (Nat.le_of_ble_eq_true rfl) ⟨Nat.le_refl 0, Nat.le_refl 0⟩ d0_merge_25 (x_kki ?_)
      cases h
      exact x_iret hX hr d0_merge_28 (fun H hP => ⟨rfl, hP⟩)
    · rw [if_neg (x_nn hc)] at h
      refine x_bipush (v := -2) hX d0_merge_16 (by decide) ?_
      cases h
      exact x_iret hX hr d0_merge_18 (fun H hP => ⟨rfl, hP⟩)

def m0_best (N : Nat) (K : Nat → Nat × Nat) (F : Nat → Nat → Option Nat) (I : (Nat → Nat → Int32)) (J : (Nat → Nat → Int64)) (a0 : Nat) (a1 : Int32) (a2 : Int32) : Option (Int32 × (Nat → Nat → Int32) × (Nat → Nat → Int64)) :=
  if a0 < N ∧ K a0 = (0, 0) then (xb (m0_isTable N K F I J a0 a1) fun x2 => if x2 = 0 then (some ((-2 : Int32), I, J)) else (xb (m0_isWithin N K F I J a2 (1 : Int32) (64 : Int32)) fun x4 => if ¬ x4 = 0 then (xb (m0_make N K F I J a0 (6 : Int32) a1 (-1 : Int32) (a2.toInt64) (0 : Int64)) fun (x6, I7, J8) => some (x6, I7, J8)) else (some ((-2 : Int32), I, J)))) else none
set_option maxRecDepth 100000 in
set_option maxHeartbeats 4000000 in
theorem c_m0_best {l : Launch} {B d : Nat} {g : xG} {N : Nat} {K : Nat → Nat × Nat} {F : Nat → Nat → Option Nat} {I : (Nat → Nat → Int32)} {J : (Nat → Nat → Int64)} {a0 : Nat} {a1 : Int32} {a2 : Int32} {rv : Int32} {I' : (Nat → Nat → Int32)} {J' : (Nat → Nat → Int64)} (h : m0_best N K F I J a0 a1 a2 = some (rv, I', J')) : xC l g B (d + 4) 0 0 y0_best c0_best 3 (some .int) [.ref (B + a0), .int a1, .int a2] (xP g B N K I J F) (xq (some (.int rv)) (xP g B N K I' J' F)) := by
  refine xC_of (by decide) (Nat.le_of_ble_eq_true rfl) (fun X hl hR hr _ hX => ?_)
  refine x_sub (L' := [(0, .ref (B + a0)), (1, .int a1), (2, .int a2)]) [0, 1, 2] rfl ?_
  unfold m0_best at h
  refine x_aload_n hX d0_best_0 rfl rfl ?_
  refine x_iload_n hX d0_best_1 rfl rfl ?_
  obtain ⟨hg1, h⟩ := x_gd h
  obtain ⟨x2, eb3, h⟩ := x_bd h
  refine x_callV hX hR (c_m0_isTable (l := x_l X) (d := d + 2) eb3) kX0_69 kN0_isTable kE0_isTable xc0.1 hg1.1 hg1.2 rfl rfl (Nat.le_of_ble_eq_true rfl) ⟨Nat.le_refl 0, Nat.le_refl 0⟩ d0_best_2 (x_kki ?_)
  refine x_if_eq (tgt := 18) hX d0_best_5 (by decide) (fun hc => ?_) (fun hc => ?_)
  · rw [if_pos hc] at h
    refine x_bipush (v := -2) hX d0_best_18 (by decide) ?_
    cases h
    exact x_iret hX hr d0_best_20 (fun H hP => ⟨rfl, hP⟩)
  · rw [if_neg hc] at h
    refine x_iload_n hX d0_best_8 rfl rfl ?_
    refine x_iconst (v := 1) hX d0_best_9 (by decide) ?_
    refine x_bipush (v := 64) hX d0_best_10 (by decide) ?_
    obtain ⟨x4, eb5, h⟩ := x_bd h
    refine x_callS hX hR (c_m0_isWithin (l := x_l X) (d := d + 3) eb5) kX0_73 kS0_isWithin rfl rfl (Nat.le_of_ble_eq_true rfl) ⟨Nat.le_refl 0, Nat.le_refl 0⟩ d0_best_12 (x_kki ?_)
    refine x_if_ne (tgt := 21) hX d0_best_15 (by decide) (fun hc => ?_) (fun hc => ?_)
    · rw [if_pos hc] at h
      refine x_aload_n hX d0_best_21 rfl rfl ?_
      refine x_bipush (v := 6) hX d0_best_22 (by decide) ?_
      refine x_iload_n hX d0_best_24 rfl rfl ?_
      refine x_iconst (v := -1) hX d0_best_25 (by decide) ?_
      refine x_iload_n hX d0_best_26 rfl rfl ?_
      refine x_i2l hX d0_best_27 ?_
      refine x_lconst (v := 0) hX d0_best_28 (by decide) ?_
      obtain ⟨⟨x6, I7, J8⟩, eb9, h⟩ := x_bd h
      dsimp only at h
      refine x_callV hX hR (c_m0_make (l := x_l X) (d := d + 0) eb9) kX0_65 kN0_make kE0_make xc0.1 hg1.1 hg1.2 rfl rfl (Nat.le_of_ble_eq_true rfl) ⟨Nat.le_refl 0, Nat.le_refl 0⟩ d0_best_29 (x_kki ?_)
      cases h
      exact x_iret hX hr d0_best_32 (fun H hP => ⟨rfl, hP⟩)
    · rw [if_neg (x_nn hc)] at h
      refine x_bipush (v := -2) hX d0_best_18 (by decide) ?_
      cases h
      exact x_iret hX hr d0_best_20 (fun H hP => ⟨rfl, hP⟩)

def m0_look (N : Nat) (K : Nat → Nat × Nat) (F : Nat → Nat → Option Nat) (I : (Nat → Nat → Int32)) (J : (Nat → Nat → Int64)) (a0 : Nat) (a1 : Int32) (a2 : Int32) : Option (Int32 × (Nat → Nat → Int32) × (Nat → Nat → Int64)) :=
  if a0 < N ∧ K a0 = (0, 0) then (xb (m0_isTable N K F I J a0 a1) fun x2 => if x2 = 0 then (some ((-2 : Int32), I, J)) else (xb (m0_isTable N K F I J a0 a2) fun x4 => if ¬ x4 = 0 then (xb (m0_make N K F I J a0 (7 : Int32) a1 a2 (0 : Int64) (0 : Int64)) fun (x6, I7, J8) => some (x6, I7, J8)) else (some ((-2 : Int32), I, J)))) else none
set_option maxRecDepth 100000 in
set_option maxHeartbeats 4000000 in
theorem c_m0_look {l : Launch} {B d : Nat} {g : xG} {N : Nat} {K : Nat → Nat × Nat} {F : Nat → Nat → Option Nat} {I : (Nat → Nat → Int32)} {J : (Nat → Nat → Int64)} {a0 : Nat} {a1 : Int32} {a2 : Int32} {rv : Int32} {I' : (Nat → Nat → Int32)} {J' : (Nat → Nat → Int64)} (h : m0_look N K F I J a0 a1 a2 = some (rv, I', J')) : xC l g B (d + 4) 0 0 y0_look c0_look 3 (some .int) [.ref (B + a0), .int a1, .int a2] (xP g B N K I J F) (xq (some (.int rv)) (xP g B N K I' J' F)) := by
  refine xC_of (by decide) (Nat.le_of_ble_eq_true rfl) (fun X hl hR hr _ hX => ?_)
  refine x_sub (L' := [(0, .ref (B + a0)), (1, .int a1), (2, .int a2)]) [0, 1, 2] rfl ?_
  unfold m0_look at h
  refine x_aload_n hX d0_look_0 rfl rfl ?_
  refine x_iload_n hX d0_look_1 rfl rfl ?_
  obtain ⟨hg1, h⟩ := x_gd h
  obtain ⟨x2, eb3, h⟩ := x_bd h
  refine x_callV hX hR (c_m0_isTable (l := x_l X) (d := d + 2) eb3) kX0_69 kN0_isTable kE0_isTable xc0.1 hg1.1 hg1.2 rfl rfl (Nat.le_of_ble_eq_true rfl) ⟨Nat.le_refl 0, Nat.le_refl 0⟩ d0_look_2 (x_kki ?_)
  refine x_if_eq (tgt := 16) hX d0_look_5 (by decide) (fun hc => ?_) (fun hc => ?_)
  · rw [if_pos hc] at h
    refine x_bipush (v := -2) hX d0_look_16 (by decide) ?_
    cases h
    exact x_iret hX hr d0_look_18 (fun H hP => ⟨rfl, hP⟩)
  · rw [if_neg hc] at h
    refine x_aload_n hX d0_look_8 rfl rfl ?_
    refine x_iload_n hX d0_look_9 rfl rfl ?_
    obtain ⟨x4, eb5, h⟩ := x_bd h
    refine x_callV hX hR (c_m0_isTable (l := x_l X) (d := d + 2) eb5) kX0_69 kN0_isTable kE0_isTable xc0.1 hg1.1 hg1.2 rfl rfl (Nat.le_of_ble_eq_true rfl) ⟨Nat.le_refl 0, Nat.le_refl 0⟩ d0_look_10 (x_kki ?_)
    refine x_if_ne (tgt := 19) hX d0_look_13 (by decide) (fun hc => ?_) (fun hc => ?_)
    · rw [if_pos hc] at h
      refine x_aload_n hX d0_look_19 rfl rfl ?_
      refine x_bipush (v := 7) hX d0_look_20 (by decide) ?_
      refine x_iload_n hX d0_look_22 rfl rfl ?_
      refine x_iload_n hX d0_look_23 rfl rfl ?_
      refine x_lconst (v := 0) hX d0_look_24 (by decide) ?_
      refine x_lconst (v := 0) hX d0_look_25 (by decide) ?_
      obtain ⟨⟨x6, I7, J8⟩, eb9, h⟩ := x_bd h
      dsimp only at h
      refine x_callV hX hR (c_m0_make (l := x_l X) (d := d + 0) eb9) kX0_65 kN0_make kE0_make xc0.1 hg1.1 hg1.2 rfl rfl (Nat.le_of_ble_eq_true rfl) ⟨Nat.le_refl 0, Nat.le_refl 0⟩ d0_look_26 (x_kki ?_)
      cases h
      exact x_iret hX hr d0_look_29 (fun H hP => ⟨rfl, hP⟩)
    · rw [if_neg (x_nn hc)] at h
      refine x_bipush (v := -2) hX d0_look_16 (by decide) ?_
      cases h
      exact x_iret hX hr d0_look_18 (fun H hP => ⟨rfl, hP⟩)

def m0_isSource (N : Nat) (K : Nat → Nat × Nat) (F : Nat → Nat → Option Nat) (I : (Nat → Nat → Int32)) (J : (Nat → Nat → Int64)) (a0 : Nat) (a1 : Int32) : Option (Int32) :=
  if a0 < N ∧ K a0 = (0, 0) then (xb (m0_isTable N K F I J a0 a1) fun x2 => if x2 = 0 then (some (0 : Int32)) else (xb (F a0 0) fun q4 => if q4 < N ∧ (K q4).1 = 4 ∧ xinb a1 (K q4).2 then (xb (F q4 (a1.toNatClampNeg)) fun q6 => if q6 < N ∧ K q6 = (0, 4) then (if ¬ (I q6 0) = 0 then (some (0 : Int32)) else (some (1 : Int32))) else none) else none)) else none
set_option maxRecDepth 100000 in
set_option maxHeartbeats 4000000 in
theorem c_m0_isSource {l : Launch} {B d : Nat} {g : xG} {N : Nat} {K : Nat → Nat × Nat} {F : Nat → Nat → Option Nat} {I : (Nat → Nat → Int32)} {J : (Nat → Nat → Int64)} {a0 : Nat} {a1 : Int32} {rv : Int32} (h : m0_isSource N K F I J a0 a1 = some rv) : xC l g B (d + 2) 0 0 y0_isSource c0_isSource 2 (some .boolean) [.ref (B + a0), .int a1] (xP g B N K I J F) (xq (some (.int rv)) (xP g B N K I J F)) := by
  refine xC_of (by decide) (Nat.le_of_ble_eq_true rfl) (fun X hl hR hr _ hX => ?_)
  refine x_sub (L' := [(0, .ref (B + a0)), (1, .int a1)]) [0, 1] rfl ?_
  unfold m0_isSource at h
  refine x_aload_n hX d0_isSource_0 rfl rfl ?_
  refine x_iload_n hX d0_isSource_1 rfl rfl ?_
  obtain ⟨hg1, h⟩ := x_gd h
  obtain ⟨x2, eb3, h⟩ := x_bd h
  refine x_callV hX hR (c_m0_isTable (l := x_l X) (d := d + 0) eb3) kX0_69 kN0_isTable kE0_isTable xc0.1 hg1.1 hg1.2 rfl rfl (Nat.le_of_ble_eq_true rfl) ⟨Nat.le_refl 0, Nat.le_refl 0⟩ d0_isSource_2 (x_kki ?_)
  refine x_if_eq (tgt := 24) hX d0_isSource_5 (by decide) (fun hc => ?_) (fun hc => ?_)
  · rw [if_pos hc] at h
    refine x_iconst (v := 0) hX d0_isSource_24 (by decide) ?_
    cases h
    exact x_zret hX hr rfl d0_isSource_25 (fun H hP => ⟨rfl, hP⟩)
  · rw [if_neg hc] at h
    refine x_aload_n hX d0_isSource_8 rfl rfl ?_
    obtain ⟨q4, eq4, h⟩ := x_bd h
    refine x_getF (j := 0) hX xc0 hg1.1 hg1.2 (by decide) rfl eq4 kF0_11 d0_isSource_9 ?_
    refine x_iload_n hX d0_isSource_12 rfl rfl ?_
    obtain ⟨hg5, h⟩ := x_gd h
    obtain ⟨q6, eq6, h⟩ := x_bd h
    refine x_aald hX hg5.1 (x_kd hg5.2.1) rfl (x_in hg5.2.2) eq6 d0_isSource_13 ?_
    obtain ⟨hg7, h⟩ := x_gd h
    refine x_getI (j := 0) hX xc4 hg7.1 hg7.2 (by decide) rfl kF0_184 d0_isSource_14 ?_
    refine x_if_ne (tgt := 24) hX d0_isSource_17 (by decide) (fun hc => ?_) (fun hc => ?_)
    · rw [if_pos hc] at h
      refine x_iconst (v := 0) hX d0_isSource_24 (by decide) ?_
      cases h
      exact x_zret hX hr rfl d0_isSource_25 (fun H hP => ⟨rfl, hP⟩)
    · rw [if_neg (x_nn hc)] at h
      refine x_iconst (v := 1) hX d0_isSource_20 (by decide) ?_
      refine x_goto (tgt := 25) hX d0_isSource_21 (by decide) ?_
      cases h
      exact x_zret hX hr rfl d0_isSource_25 (fun H hP => ⟨rfl, hP⟩)

def m0_isKey (N : Nat) (K : Nat → Nat × Nat) (F : Nat → Nat → Option Nat) (I : (Nat → Nat → Int32)) (J : (Nat → Nat → Int64)) (a0 : Int32) : Option (Int32) :=
  xb (m0_isWithin N K F I J a0 (0 : Int32) (63 : Int32)) fun x1 => if x1 = 0 ∨ x1 = 1 then (some x1) else none
set_option maxRecDepth 100000 in
set_option maxHeartbeats 4000000 in
theorem c_m0_isKey {l : Launch} {B d : Nat} {g : xG} {N : Nat} {K : Nat → Nat × Nat} {F : Nat → Nat → Option Nat} {I : (Nat → Nat → Int32)} {J : (Nat → Nat → Int64)} {a0 : Int32} {rv : Int32} (h : m0_isKey N K F I J a0 = some rv) : xC l g B (d + 1) 0 0 y0_isKey c0_isKey 1 (some .boolean) [.int a0] (xP g B N K I J F) (xq (some (.int rv)) (xP g B N K I J F)) := by
  refine xC_of (by decide) (Nat.le_of_ble_eq_true rfl) (fun X hl hR hr _ hX => ?_)
  refine x_sub (L' := [(0, .int a0)]) [0] rfl ?_
  unfold m0_isKey at h
  refine x_iload_n hX d0_isKey_0 rfl rfl ?_
  refine x_iconst (v := 0) hX d0_isKey_1 (by decide) ?_
  refine x_bipush (v := 63) hX d0_isKey_2 (by decide) ?_
  obtain ⟨x1, eb2, h⟩ := x_bd h
  refine x_callS hX hR (c_m0_isWithin (l := x_l X) (d := d + 0) eb2) kX0_73 kS0_isWithin rfl rfl (Nat.le_of_ble_eq_true rfl) ⟨Nat.le_refl 0, Nat.le_refl 0⟩ d0_isKey_4 (x_kki ?_)
  obtain ⟨hg3, h⟩ := x_gd h
  cases h
  exact x_zret hX hr (x_nbool hg3) d0_isKey_7 (fun H hP => ⟨rfl, hP⟩)

def m0_isMoved (N : Nat) (K : Nat → Nat × Nat) (F : Nat → Nat → Option Nat) (I : (Nat → Nat → Int32)) (J : (Nat → Nat → Int64)) (a0 : Nat) (a1 : Int32) : Option (Int32) :=
  if a0 < N ∧ K a0 = (0, 0) then (xb (m0_isTable N K F I J a0 a1) fun x2 => if x2 = 0 then (some (0 : Int32)) else (xb (F a0 0) fun q4 => if q4 < N ∧ (K q4).1 = 4 ∧ xinb a1 (K q4).2 then (xb (F q4 (a1.toNatClampNeg)) fun q6 => if q6 < N ∧ K q6 = (0, 4) then (if (J q6 9) = (0 : Int64) then (some (0 : Int32)) else (some (1 : Int32))) else none) else none)) else none
set_option maxRecDepth 100000 in
set_option maxHeartbeats 4000000 in
theorem c_m0_isMoved {l : Launch} {B d : Nat} {g : xG} {N : Nat} {K : Nat → Nat × Nat} {F : Nat → Nat → Option Nat} {I : (Nat → Nat → Int32)} {J : (Nat → Nat → Int64)} {a0 : Nat} {a1 : Int32} {rv : Int32} (h : m0_isMoved N K F I J a0 a1 = some rv) : xC l g B (d + 2) 0 0 y0_isMoved c0_isMoved 2 (some .boolean) [.ref (B + a0), .int a1] (xP g B N K I J F) (xq (some (.int rv)) (xP g B N K I J F)) := by
  refine xC_of (by decide) (Nat.le_of_ble_eq_true rfl) (fun X hl hR hr _ hX => ?_)
  refine x_sub (L' := [(0, .ref (B + a0)), (1, .int a1)]) [0, 1] rfl ?_
  unfold m0_isMoved at h
  refine x_aload_n hX d0_isMoved_0 rfl rfl ?_
  refine x_iload_n hX d0_isMoved_1 rfl rfl ?_
  obtain ⟨hg1, h⟩ := x_gd h
  obtain ⟨x2, eb3, h⟩ := x_bd h
  refine x_callV hX hR (c_m0_isTable (l := x_l X) (d := d + 0) eb3) kX0_69 kN0_isTable kE0_isTable xc0.1 hg1.1 hg1.2 rfl rfl (Nat.le_of_ble_eq_true rfl) ⟨Nat.le_refl 0, Nat.le_refl 0⟩ d0_isMoved_2 (x_kki ?_)
  refine x_if_eq (tgt := 26) hX d0_isMoved_5 (by decide) (fun hc => ?_) (fun hc => ?_)
  · rw [if_pos hc] at h
    refine x_iconst (v := 0) hX d0_isMoved_26 (by decide) ?_
    cases h
    exact x_zret hX hr rfl d0_isMoved_27 (fun H hP => ⟨rfl, hP⟩)
  · rw [if_neg hc] at h
    refine x_aload_n hX d0_isMoved_8 rfl rfl ?_
    obtain ⟨q4, eq4, h⟩ := x_bd h
    refine x_getF (j := 0) hX xc0 hg1.1 hg1.2 (by decide) rfl eq4 kF0_11 d0_isMoved_9 ?_
    refine x_iload_n hX d0_isMoved_12 rfl rfl ?_
    obtain ⟨hg5, h⟩ := x_gd h
    obtain ⟨q6, eq6, h⟩ := x_bd h
    refine x_aald hX hg5.1 (x_kd hg5.2.1) rfl (x_in hg5.2.2) eq6 d0_isMoved_13 ?_
    obtain ⟨hg7, h⟩ := x_gd h
    refine x_getJ (j := 9) hX xc4 hg7.1 hg7.2 (by decide) rfl kF0_219 d0_isMoved_14 ?_
    refine x_lconst (v := 0) hX d0_isMoved_17 (by decide) ?_
    refine x_lif_eq (tgt := 26) hX d0_isMoved_18 d0_isMoved_19 (by decide) (fun hc => ?_) (fun hc => ?_)
    · rw [if_pos hc] at h
      refine x_iconst (v := 0) hX d0_isMoved_26 (by decide) ?_
      cases h
      exact x_zret hX hr rfl d0_isMoved_27 (fun H hP => ⟨rfl, hP⟩)
    · rw [if_neg hc] at h
      refine x_iconst (v := 1) hX d0_isMoved_22 (by decide) ?_
      refine x_goto (tgt := 27) hX d0_isMoved_23 (by decide) ?_
      cases h
      exact x_zret hX hr rfl d0_isMoved_27 (fun H hP => ⟨rfl, hP⟩)

def m0_follow_B61 (N : Nat) (K : Nat → Nat × Nat) (F : Nat → Nat → Option Nat) (k4 : (Nat → Nat → Int32) → (Nat → Nat → Int64) → Nat → Int32 → Int32 → Option (Int32 × (Nat → Nat → Int32) × (Nat → Nat → Int64))) (I : (Nat → Nat → Int32)) (J : (Nat → Nat → Int64)) (v0 : Nat) (v1 : Int32) (v2 : Int32) (v3 : Nat) : Option (Int32 × (Nat → Nat → Int32) × (Nat → Nat → Int64)) :=
  if v3 < N ∧ K v3 = (0, 4) then (xb (F v3 5) fun q2 => xb (F v3 6) fun q3 => if q2 < N ∧ K q2 = (0, 3) then (xb (m3_differing N K F I J q2 q3) fun x5 => xlet (xu J v3 9 x5) fun J7 => xb (mL_bitCount N K F I J7 (J7 v3 9)) fun x8 => xlet ((v1 + x8)) fun x10 => xlet (v2 + (1 : Int32)) fun x11 => k4 I J7 v0 x10 x11) else none) else none
def m0_follow_B41 (N : Nat) (K : Nat → Nat × Nat) (F : Nat → Nat → Option Nat) (k4 : (Nat → Nat → Int32) → (Nat → Nat → Int64) → Nat → Int32 → Int32 → Option (Int32 × (Nat → Nat → Int32) × (Nat → Nat → Int64))) (I : (Nat → Nat → Int32)) (J : (Nat → Nat → Int64)) (v0 : Nat) (v1 : Int32) (v2 : Int32) (v3 : Nat) : Option (Int32 × (Nat → Nat → Int32) × (Nat → Nat → Int64)) :=
  if v3 < N ∧ K v3 = (0, 4) then (if v0 < N ∧ K v0 = (0, 0) then (xb (m0_nextOf N K F I J v0 (I v3 1)) fun q3 => xb (m0_nextOf N K F I J v0 (I v3 2)) fun q5 => xb (m4_derive N K F I J v3 q3 q5) fun (I7, J8) => m0_follow_B61 N K F k4 I7 J8 v0 v1 v2 v3) else none) else none
def m0_follow_L4 (N : Nat) (K : Nat → Nat × Nat) (F : Nat → Nat → Option Nat) : Nat → (Nat → Nat → Int32) → (Nat → Nat → Int64) → Nat → Int32 → Int32 → Option (Int32 × (Nat → Nat → Int32) × (Nat → Nat → Int64))
  | 0, _, _, _, _, _ => none
  | n + 1, I, J, v0, v1, v2 => if v0 < N ∧ K v0 = (0, 0) then (if (I v0 1) ≤ v2 then (some (v1, I, J)) else (xb (F v0 0) fun q2 => if q2 < N ∧ (K q2).1 = 4 ∧ xinb v2 (K q2).2 then (xb (F q2 (v2.toNatClampNeg)) fun q4 => if q4 < N ∧ K q4 = (0, 4) then (xb (m0_isMoved N K F I J v0 (I q4 1)) fun x6 => if ¬ x6 = 0 then (m0_follow_B41 N K F (m0_follow_L4 N K F n) I J v0 v1 v2 q4) else (xb (m0_isMoved N K F I J v0 (I q4 2)) fun x8 => if x8 = 0 then (m0_follow_B61 N K F (m0_follow_L4 N K F n) I J v0 v1 v2 q4) else (m0_follow_B41 N K F (m0_follow_L4 N K F n) I J v0 v1 v2 q4))) else none) else none)) else none
def m0_follow (N : Nat) (K : Nat → Nat × Nat) (F : Nat → Nat → Option Nat) (I : (Nat → Nat → Int32)) (J : (Nat → Nat → Int64)) (a0 : Nat) : Option (Int32 × (Nat → Nat → Int32) × (Nat → Nat → Int64)) :=
  m0_follow_L4 N K F xFu I J a0 (0 : Int32) (0 : Int32)
set_option maxRecDepth 100000 in
set_option maxHeartbeats 4000000 in
theorem t_m0_follow_B61 {X : xX} {B d : Nat} {g : xG} {N : Nat} {K : Nat → Nat × Nat} {F : Nat → Nat → Option Nat} {rv : Int32} {I' : (Nat → Nat → Int32)} {J' : (Nat → Nat → Int64)} {k4 : (Nat → Nat → Int32) → (Nat → Nat → Int64) → Nat → Int32 → Int32 → Option (Int32 × (Nat → Nat → Int32) × (Nat → Nat → Int64))} (hX : xO X c0_follow "ChangeRows" 4 B g) (hR : x_R X = xrm (d + 3) 0 0) (hr : (x_meth X).sig.returnType = (some .int)) (hk4 : ∀ (I : (Nat → Nat → Int32)) (J : (Nat → Nat → Int64)) (v0 : Nat) (v1 : Int32) (v2 : Int32), k4 I J v0 v1 v2 = some (rv, I', J') → xV X B 4 (xZ X B 0 0 (xq (some (.int rv)) (xP g B N K I' J' F))) 0 0 (xP g B N K I J F) 4 [(0, .ref (B + v0)), (1, .int v1), (2, .int v2)] []) (I : (Nat → Nat → Int32)) (J : (Nat → Nat → Int64)) (v0 : Nat) (v1 : Int32) (v2 : Int32) (v3 : Nat) (h : m0_follow_B61 N K F k4 I J v0 v1 v2 v3 = some (rv, I', J')) : xV X B 4 (xZ X B 0 0 (xq (some (.int rv)) (xP g B N K I' J' F))) 0 0 (xP g B N K I J F) 61 [(0, .ref (B + v0)), (1, .int v1), (2, .int v2), (3, .ref (B + v3))] [] := by
  unfold m0_follow_B61 at h
  refine x_aload_n hX d0_follow_61 rfl rfl ?_
  refine x_aload_n hX d0_follow_62 rfl rfl ?_
  obtain ⟨hg1, h⟩ := x_gd h
  obtain ⟨q2, eq2, h⟩ := x_bd h
  refine x_getF (j := 5) hX xc4 hg1.1 hg1.2 (by decide) rfl eq2 kF0_147 d0_follow_63 ?_
  refine x_aload_n hX d0_follow_66 rfl rfl ?_
  obtain ⟨q3, eq3, h⟩ := x_bd h
  refine x_getF (j := 6) hX xc4 hg1.1 hg1.2 (by decide) rfl eq3 kF0_101 d0_follow_67 ?_
  obtain ⟨hg4, h⟩ := x_gd h
  obtain ⟨x5, eb6, h⟩ := x_bd h
  refine x_callV hX hR (c_m3_differing (l := x_l X) (d := d + 2) eb6) kX0_157 kN3_differing kE3_differing xc3.1 hg4.1 hg4.2 rfl rfl (Nat.le_of_ble_eq_true rfl) ⟨Nat.le_refl 0, Nat.le_refl 0⟩ d0_follow_70 (x_kkl ?_)
  refine x_putJ (j := 9) hX xc4 hg1.1 hg1.2 (by decide) rfl kF0_219 (Or.inl rfl) rfl rfl d0_follow_73 ?_
  obtain ⟨J7, eJ7, h⟩ := x_le h
  rw [← eJ7]
  refine x_iload_n hX d0_follow_76 rfl rfl ?_
  refine x_aload_n hX d0_follow_77 rfl rfl ?_
  refine x_getJ (j := 9) hX xc4 hg1.1 hg1.2 (by decide) rfl kF0_219 d0_follow_78 ?_
  obtain ⟨x8, eb9, h⟩ := x_bd h
  refine x_callS hX hR (c_mL_bitCount (l := x_l X) (d := d + 2) eb9) kX0_223 kSL_bitCount rfl rfl (Nat.le_of_ble_eq_true rfl) ⟨Nat.le_refl 0, Nat.le_refl 0⟩ d0_follow_81 (x_kki ?_)
  refine x_iadd hX d0_follow_84 ?_
  obtain ⟨x10, ex10, h⟩ := x_le h
  refine x_eqi ex10.symm ?_
  refine x_istore_n hX [(1, .int x10), (0, .ref (B + v0)), (2, .int v2), (3, .ref (B + v3))] d0_follow_85 rfl (by decide) rfl ?_
  obtain ⟨x11, ex11, h⟩ := x_le h
  refine x_iinc (j := 2) hX [(2, .int x11), (1, .int x10), (0, .ref (B + v0)), (3, .ref (B + v3))] d0_follow_86 rfl (by rw [ex11]; rfl) (by decide) rfl ?_
  refine x_goto (tgt := 4) hX d0_follow_89 (by decide) ?_
  refine x_sub [2, 1, 0] rfl ?_
  exact hk4 _ _ _ _ _ h
set_option maxRecDepth 100000 in
set_option maxHeartbeats 4000000 in
theorem t_m0_follow_B41 {X : xX} {B d : Nat} {g : xG} {N : Nat} {K : Nat → Nat × Nat} {F : Nat → Nat → Option Nat} {rv : Int32} {I' : (Nat → Nat → Int32)} {J' : (Nat → Nat → Int64)} {k4 : (Nat → Nat → Int32) → (Nat → Nat → Int64) → Nat → Int32 → Int32 → Option (Int32 × (Nat → Nat → Int32) × (Nat → Nat → Int64))} (hX : xO X c0_follow "ChangeRows" 4 B g) (hR : x_R X = xrm (d + 3) 0 0) (hr : (x_meth X).sig.returnType = (some .int)) (hk4 : ∀ (I : (Nat → Nat → Int32)) (J : (Nat → Nat → Int64)) (v0 : Nat) (v1 : Int32) (v2 : Int32), k4 I J v0 v1 v2 = some (rv, I', J') → xV X B 4 (xZ X B 0 0 (xq (some (.int rv)) (xP g B N K I' J' F))) 0 0 (xP g B N K I J F) 4 [(0, .ref (B + v0)), (1, .int v1), (2, .int v2)] []) (I : (Nat → Nat → Int32)) (J : (Nat → Nat → Int64)) (v0 : Nat) (v1 : Int32) (v2 : Int32) (v3 : Nat) (h : m0_follow_B41 N K F k4 I J v0 v1 v2 v3 = some (rv, I', J')) : xV X B 4 (xZ X B 0 0 (xq (some (.int rv)) (xP g B N K I' J' F))) 0 0 (xP g B N K I J F) 41 [(0, .ref (B + v0)), (1, .int v1), (2, .int v2), (3, .ref (B + v3))] [] := by
  unfold m0_follow_B41 at h
  refine x_aload_n hX d0_follow_41 rfl rfl ?_
  refine x_aload_n hX d0_follow_42 rfl rfl ?_
  refine x_aload_n hX d0_follow_43 rfl rfl ?_
  obtain ⟨hg1, h⟩ := x_gd h
  refine x_getI (j := 1) hX xc4 hg1.1 hg1.2 (by decide) rfl kF0_187 d0_follow_44 ?_
  obtain ⟨hg2, h⟩ := x_gd h
  obtain ⟨q3, eb4, h⟩ := x_bd h
  refine x_callV hX hR (c_m0_nextOf (l := x_l X) (d := d + 0) eb4) kX0_197 kN0_nextOf kE0_nextOf xc0.1 hg2.1 hg2.2 rfl rfl (Nat.le_of_ble_eq_true rfl) ⟨Nat.le_refl 0, Nat.le_refl 0⟩ d0_follow_47 (x_kkr ?_)
  refine x_aload_n hX d0_follow_50 rfl rfl ?_
  refine x_aload_n hX d0_follow_51 rfl rfl ?_
  refine x_getI (j := 2) hX xc4 hg1.1 hg1.2 (by decide) rfl kF0_190 d0_follow_52 ?_
  obtain ⟨q5, eb6, h⟩ := x_bd h
  refine x_callV hX hR (c_m0_nextOf (l := x_l X) (d := d + 0) eb6) kX0_197 kN0_nextOf kE0_nextOf xc0.1 hg2.1 hg2.2 rfl rfl (Nat.le_of_ble_eq_true rfl) ⟨Nat.le_refl 0, Nat.le_refl 0⟩ d0_follow_55 (x_kkr ?_)
  obtain ⟨⟨I7, J8⟩, eb9, h⟩ := x_bd h
  dsimp only at h
  refine x_callV hX hR (c_m4_derive (l := x_l X) (d := d + 0) eb9) kX0_200 kN4_derive kE4_derive xc4.1 hg1.1 hg1.2 rfl rfl (Nat.le_of_ble_eq_true rfl) ⟨Nat.le_refl 0, Nat.le_refl 0⟩ d0_follow_58 (x_kkv ?_)
  exact t_m0_follow_B61 hX hR hr hk4 _ _ _ _ _ _ h
set_option maxRecDepth 100000 in
set_option maxHeartbeats 4000000 in
theorem t_m0_follow_L4 {X : xX} {B d : Nat} {g : xG} {N : Nat} {K : Nat → Nat × Nat} {F : Nat → Nat → Option Nat} {rv : Int32} {I' : (Nat → Nat → Int32)} {J' : (Nat → Nat → Int64)} (hX : xO X c0_follow "ChangeRows" 4 B g) (hR : x_R X = xrm (d + 3) 0 0) (hr : (x_meth X).sig.returnType = (some .int)) : ∀ (n : Nat) (I : (Nat → Nat → Int32)) (J : (Nat → Nat → Int64)) (v0 : Nat) (v1 : Int32) (v2 : Int32), m0_follow_L4 N K F n I J v0 v1 v2 = some (rv, I', J') → xV X B 4 (xZ X B 0 0 (xq (some (.int rv)) (xP g B N K I' J' F))) 0 0 (xP g B N K I J F) 4 [(0, .ref (B + v0)), (1, .int v1), (2, .int v2)] [] := by
  intro n
  induction n with
  | zero =>
    intro I J v0 v1 v2 h
    cases h
  | succ n ih =>
    intro I J v0 v1 v2 h
    rw [m0_follow_L4] at h
    refine x_iload_n hX d0_follow_4 rfl rfl ?_
    refine x_aload_n hX d0_follow_5 rfl rfl ?_
    obtain ⟨hg1, h⟩ := x_gd h
    refine x_getI (j := 1) hX xc0 hg1.1 hg1.2 (by decide) rfl kF0_15 d0_follow_6 ?_
    refine x_icmp_ge (tgt := 92) hX d0_follow_9 (by decide) (fun hc => ?_) (fun hc => ?_)
    · rw [if_pos hc] at h
      refine x_iload_n hX d0_follow_92 rfl rfl ?_
      cases h
      exact x_iret hX hr d0_follow_93 (fun H hP => ⟨rfl, hP⟩)
    · rw [if_neg hc] at h
      refine x_aload_n hX d0_follow_12 rfl rfl ?_
      obtain ⟨q2, eq2, h⟩ := x_bd h
      refine x_getF (j := 0) hX xc0 hg1.1 hg1.2 (by decide) rfl eq2 kF0_11 d0_follow_13 ?_
      refine x_iload_n hX d0_follow_16 rfl rfl ?_
      obtain ⟨hg3, h⟩ := x_gd h
      obtain ⟨q4, eq4, h⟩ := x_bd h
      refine x_aald hX hg3.1 (x_kd hg3.2.1) rfl (x_in hg3.2.2) eq4 d0_follow_17 ?_
      refine x_astore_n hX [(3, .ref (B + q4)), (0, .ref (B + v0)), (1, .int v1), (2, .int v2)] d0_follow_18 rfl (by decide) rfl ?_
      refine x_aload_n hX d0_follow_19 rfl rfl ?_
      refine x_aload_n hX d0_follow_20 rfl rfl ?_
      obtain ⟨hg5, h⟩ := x_gd h
      refine x_getI (j := 1) hX xc4 hg5.1 hg5.2 (by decide) rfl kF0_187 d0_follow_21 ?_
      obtain ⟨x6, eb7, h⟩ := x_bd h
      refine x_callV hX hR (c_m0_isMoved (l := x_l X) (d := d + 0) eb7) kX0_216 kN0_isMoved kE0_isMoved xc0.1 hg1.1 hg1.2 rfl rfl (Nat.le_of_ble_eq_true rfl) ⟨Nat.le_refl 0, Nat.le_refl 0⟩ d0_follow_24 (x_kki ?_)
      refine x_if_ne (tgt := 41) hX d0_follow_27 (by decide) (fun hc => ?_) (fun hc => ?_)
      · rw [if_pos hc] at h
        refine x_sub [1, 2, 3, 0] rfl ?_
        exact t_m0_follow_B41 hX hR hr ih _ _ _ _ _ _ h
      · rw [if_neg (x_nn hc)] at h
        refine x_aload_n hX d0_follow_30 rfl rfl ?_
        refine x_aload_n hX d0_follow_31 rfl rfl ?_
        refine x_getI (j := 2) hX xc4 hg5.1 hg5.2 (by decide) rfl kF0_190 d0_follow_32 ?_
        obtain ⟨x8, eb9, h⟩ := x_bd h
        refine x_callV hX hR (c_m0_isMoved (l := x_l X) (d := d + 0) eb9) kX0_216 kN0_isMoved kE0_isMoved xc0.1 hg1.1 hg1.2 rfl rfl (Nat.le_of_ble_eq_true rfl) ⟨Nat.le_refl 0, Nat.le_refl 0⟩ d0_follow_35 (x_kki ?_)
        refine x_if_eq (tgt := 61) hX d0_follow_38 (by decide) (fun hc => ?_) (fun hc => ?_)
        · rw [if_pos hc] at h
          refine x_sub [1, 2, 3, 0] rfl ?_
          exact t_m0_follow_B61 hX hR hr ih _ _ _ _ _ _ h
        · rw [if_neg hc] at h
          refine x_sub [1, 2, 3, 0] rfl ?_
          exact t_m0_follow_B41 hX hR hr ih _ _ _ _ _ _ h
set_option maxRecDepth 100000 in
set_option maxHeartbeats 4000000 in
theorem c_m0_follow {l : Launch} {B d : Nat} {g : xG} {N : Nat} {K : Nat → Nat × Nat} {F : Nat → Nat → Option Nat} {I : (Nat → Nat → Int32)} {J : (Nat → Nat → Int64)} {a0 : Nat} {rv : Int32} {I' : (Nat → Nat → Int32)} {J' : (Nat → Nat → Int64)} (h : m0_follow N K F I J a0 = some (rv, I', J')) : xC l g B (d + 3) 0 0 y0_follow c0_follow 4 (some .int) [.ref (B + a0)] (xP g B N K I J F) (xq (some (.int rv)) (xP g B N K I' J' F)) := by
  refine xC_of (by decide) (Nat.le_of_ble_eq_true rfl) (fun X hl hR hr _ hX => ?_)
  refine x_sub (L' := [(0, .ref (B + a0))]) [0] rfl ?_
  unfold m0_follow at h
  refine x_iconst (v := 0) hX d0_follow_0 (by decide) ?_
  refine x_istore_n hX [(1, .int (0 : Int32)), (0, .ref (B + a0))] d0_follow_1 rfl (by decide) rfl ?_
  refine x_iconst (v := 0) hX d0_follow_2 (by decide) ?_
  refine x_istore_n hX [(2, .int (0 : Int32)), (1, .int (0 : Int32)), (0, .ref (B + a0))] d0_follow_3 rfl (by decide) rfl ?_
  refine x_sub [2, 1, 0] rfl ?_
  exact t_m0_follow_L4 hX hR hr _ _ _ _ _ _ h

def m0_takeBack_L2 (N : Nat) (K : Nat → Nat × Nat) (F : Nat → Nat → Option Nat) (I : (Nat → Nat → Int32)) : Nat → (Nat → Nat → Int64) → Nat → Int32 → Option ((Nat → Nat → Int64))
  | 0, _, _, _ => none
  | n + 1, J, v0, v1 => if v0 < N ∧ K v0 = (0, 0) then (if (I v0 1) ≤ v1 then (some J) else (xb (F v0 0) fun q2 => if q2 < N ∧ (K q2).1 = 4 ∧ xinb v1 (K q2).2 then (xb (F q2 (v1.toNatClampNeg)) fun q4 => if q4 < N ∧ K q4 = (0, 4) then (xb (F q4 6) fun q6 => xb (F q4 5) fun q7 => if q6 < N ∧ K q6 = (0, 3) then (xb (m3_become N K F I J q6 q7) fun J9 => xlet (v1 + (1 : Int32)) fun x11 => m0_takeBack_L2 N K F I n J9 v0 x11) else none) else none) else none)) else none
def m0_takeBack (N : Nat) (K : Nat → Nat × Nat) (F : Nat → Nat → Option Nat) (I : (Nat → Nat → Int32)) (J : (Nat → Nat → Int64)) (a0 : Nat) : Option ((Nat → Nat → Int64)) :=
  m0_takeBack_L2 N K F I xFu J a0 (0 : Int32)
set_option maxRecDepth 100000 in
set_option maxHeartbeats 4000000 in
theorem t_m0_takeBack_L2 {X : xX} {B d : Nat} {g : xG} {N : Nat} {K : Nat → Nat × Nat} {F : Nat → Nat → Option Nat} {I : (Nat → Nat → Int32)} {J' : (Nat → Nat → Int64)} (hX : xO X c0_takeBack "ChangeRows" 2 B g) (hR : x_R X = xrm (d + 2) 0 0) (hr : (x_meth X).sig.returnType = none) : ∀ (n : Nat) (J : (Nat → Nat → Int64)) (v0 : Nat) (v1 : Int32), m0_takeBack_L2 N K F I n J v0 v1 = some J' → xV X B 2 (xZ X B 0 0 (xq none (xP g B N K I J' F))) 0 0 (xP g B N K I J F) 2 [(0, .ref (B + v0)), (1, .int v1)] [] := by
  intro n
  induction n with
  | zero =>
    intro J v0 v1 h
    cases h
  | succ n ih =>
    intro J v0 v1 h
    rw [m0_takeBack_L2] at h
    refine x_iload_n hX d0_takeBack_2 rfl rfl ?_
    refine x_aload_n hX d0_takeBack_3 rfl rfl ?_
    obtain ⟨hg1, h⟩ := x_gd h
    refine x_getI (j := 1) hX xc0 hg1.1 hg1.2 (by decide) rfl kF0_15 d0_takeBack_4 ?_
    refine x_icmp_ge (tgt := 37) hX d0_takeBack_7 (by decide) (fun hc => ?_) (fun hc => ?_)
    · rw [if_pos hc] at h
      cases h
      exact x_vret hX hr d0_takeBack_37 (fun H hP => ⟨rfl, hP⟩)
    · rw [if_neg hc] at h
      refine x_aload_n hX d0_takeBack_10 rfl rfl ?_
      obtain ⟨q2, eq2, h⟩ := x_bd h
      refine x_getF (j := 0) hX xc0 hg1.1 hg1.2 (by decide) rfl eq2 kF0_11 d0_takeBack_11 ?_
      refine x_iload_n hX d0_takeBack_14 rfl rfl ?_
      obtain ⟨hg3, h⟩ := x_gd h
      obtain ⟨q4, eq4, h⟩ := x_bd h
      refine x_aald hX hg3.1 (x_kd hg3.2.1) rfl (x_in hg3.2.2) eq4 d0_takeBack_15 ?_
      obtain ⟨hg5, h⟩ := x_gd h
      obtain ⟨q6, eq6, h⟩ := x_bd h
      refine x_getF (j := 6) hX xc4 hg5.1 hg5.2 (by decide) rfl eq6 kF0_101 d0_takeBack_16 ?_
      refine x_aload_n hX d0_takeBack_19 rfl rfl ?_
      refine x_getF (j := 0) hX xc0 hg1.1 hg1.2 (by decide) rfl eq2 kF0_11 d0_takeBack_20 ?_
      refine x_iload_n hX d0_takeBack_23 rfl rfl ?_
      refine x_aald hX hg3.1 (x_kd hg3.2.1) rfl (x_in hg3.2.2) eq4 d0_takeBack_24 ?_
      obtain ⟨q7, eq7, h⟩ := x_bd h
      refine x_getF (j := 5) hX xc4 hg5.1 hg5.2 (by decide) rfl eq7 kF0_147 d0_takeBack_25 ?_
      obtain ⟨hg8, h⟩ := x_gd h
      obtain ⟨J9, eb10, h⟩ := x_bd h
      refine x_callV hX hR (c_m3_become (l := x_l X) (d := d + 0) eb10) kX0_149 kN3_become kE3_become xc3.1 hg8.1 hg8.2 rfl rfl (Nat.le_of_ble_eq_true rfl) ⟨Nat.le_refl 0, Nat.le_refl 0⟩ d0_takeBack_28 (x_kkv ?_)
      obtain ⟨x11, ex11, h⟩ := x_le h
      refine x_iinc (j := 1) hX [(1, .int x11), (0, .ref (B + v0))] d0_takeBack_31 rfl (by rw [ex11]; rfl) (by decide) rfl ?_
      refine x_goto (tgt := 2) hX d0_takeBack_34 (by decide) ?_
      refine x_sub [1, 0] rfl ?_
      exact ih _ _ _ h
set_option maxRecDepth 100000 in
set_option maxHeartbeats 4000000 in
theorem c_m0_takeBack {l : Launch} {B d : Nat} {g : xG} {N : Nat} {K : Nat → Nat × Nat} {F : Nat → Nat → Option Nat} {I : (Nat → Nat → Int32)} {J : (Nat → Nat → Int64)} {a0 : Nat} {J' : (Nat → Nat → Int64)} (h : m0_takeBack N K F I J a0 = some J') : xC l g B (d + 2) 0 0 y0_takeBack c0_takeBack 2 none [.ref (B + a0)] (xP g B N K I J F) (xq none (xP g B N K I J' F)) := by
  refine xC_of (by decide) (Nat.le_of_ble_eq_true rfl) (fun X hl hR hr _ hX => ?_)
  refine x_sub (L' := [(0, .ref (B + a0))]) [0] rfl ?_
  unfold m0_takeBack at h
  refine x_iconst (v := 0) hX d0_takeBack_0 (by decide) ?_
  refine x_istore_n hX [(1, .int (0 : Int32)), (0, .ref (B + a0))] d0_takeBack_1 rfl (by decide) rfl ?_
  refine x_sub [1, 0] rfl ?_
  exact t_m0_takeBack_L2 hX hR hr _ _ _ _ h

def m0_tell_L9 (N : Nat) (K : Nat → Nat × Nat) (F : Nat → Nat → Option Nat) : Nat → (Nat → Nat → Int32) → (Nat → Nat → Int64) → Nat → Int32 → Option ((Nat → Nat → Int32) × (Nat → Nat → Int64))
  | 0, _, _, _, _ => none
  | n + 1, I, J, v0, v1 => if v0 < N ∧ K v0 = (0, 0) then (if (I v0 1) ≤ v1 then (xb (F v0 3) fun q2 => xb (F v0 4) fun q3 => if q2 < N ∧ K q2 = (0, 2) then (xb (m2_addAll N K F I J q2 q3) fun (I5, J6) => some (I5, J6)) else none) else (xb (F v0 0) fun q8 => if q8 < N ∧ (K q8).1 = 4 ∧ xinb v1 (K q8).2 then (xb (F q8 (v1.toNatClampNeg)) fun q10 => if q10 < N ∧ K q10 = (0, 4) then (if (J q10 9) = (0 : Int64) then (xlet (v1 + (1 : Int32)) fun x12 => m0_tell_L9 N K F n I J v0 x12) else (xb (F v0 4) fun q13 => xb (F q10 5) fun q14 => xb (F q10 6) fun q15 => if q13 < N ∧ K q13 = (0, 2) then (xb (m2_addSteps N K F I J q13 v1 q14 q15 (J q10 9)) fun (I17, J18) => if q14 < N ∧ K q14 = (0, 3) then (xb (m3_become N K F I17 J18 q14 q15) fun J21 => xlet (v1 + (1 : Int32)) fun x23 => m0_tell_L9 N K F n I17 J21 v0 x23) else none) else none)) else none) else none)) else none
def m0_tell (N : Nat) (K : Nat → Nat × Nat) (F : Nat → Nat → Option Nat) (I : (Nat → Nat → Int32)) (J : (Nat → Nat → Int64)) (a0 : Nat) : Option ((Nat → Nat → Int32) × (Nat → Nat → Int64)) :=
  if a0 < N ∧ K a0 = (0, 0) then (xb (F a0 4) fun q2 => if q2 < N ∧ K q2 = (0, 2) then (xb (m2_reset N K F I J q2) fun I4 => m0_tell_L9 N K F xFu I4 J a0 (0 : Int32)) else none) else none
set_option maxRecDepth 100000 in
set_option maxHeartbeats 4000000 in
theorem t_m0_tell_L9 {X : xX} {B d : Nat} {g : xG} {N : Nat} {K : Nat → Nat × Nat} {F : Nat → Nat → Option Nat} {I' : (Nat → Nat → Int32)} {J' : (Nat → Nat → Int64)} (hX : xO X c0_tell "ChangeRows" 3 B g) (hR : x_R X = xrm (d + 2) 0 0) (hr : (x_meth X).sig.returnType = none) : ∀ (n : Nat) (I : (Nat → Nat → Int32)) (J : (Nat → Nat → Int64)) (v0 : Nat) (v1 : Int32), m0_tell_L9 N K F n I J v0 v1 = some (I', J') → xV X B 3 (xZ X B 0 0 (xq none (xP g B N K I' J' F))) 0 0 (xP g B N K I J F) 9 [(0, .ref (B + v0)), (1, .int v1)] [] := by
  intro n
  induction n with
  | zero =>
    intro I J v0 v1 h
    cases h
  | succ n ih =>
    intro I J v0 v1 h
    rw [m0_tell_L9] at h
    refine x_iload_n hX d0_tell_9 rfl rfl ?_
    refine x_aload_n hX d0_tell_10 rfl rfl ?_
    obtain ⟨hg1, h⟩ := x_gd h
    refine x_getI (j := 1) hX xc0 hg1.1 hg1.2 (by decide) rfl kF0_15 d0_tell_11 ?_
    refine x_icmp_ge (tgt := 70) hX d0_tell_14 (by decide) (fun hc => ?_) (fun hc => ?_)
    · rw [if_pos hc] at h
      refine x_aload_n hX d0_tell_70 rfl rfl ?_
      obtain ⟨q2, eq2, h⟩ := x_bd h
      refine x_getF (j := 3) hX xc0 hg1.1 hg1.2 (by decide) rfl eq2 kF0_31 d0_tell_71 ?_
      refine x_aload_n hX d0_tell_74 rfl rfl ?_
      obtain ⟨q3, eq3, h⟩ := x_bd h
      refine x_getF (j := 4) hX xc0 hg1.1 hg1.2 (by decide) rfl eq3 kF0_35 d0_tell_75 ?_
      obtain ⟨hg4, h⟩ := x_gd h
      obtain ⟨⟨I5, J6⟩, eb7, h⟩ := x_bd h
      dsimp only at h
      refine x_callV hX hR (c_m2_addAll (l := x_l X) (d := d + 0) eb7) kX0_229 kN2_addAll kE2_addAll xc2.1 hg4.1 hg4.2 rfl rfl (Nat.le_of_ble_eq_true rfl) ⟨Nat.le_refl 0, Nat.le_refl 0⟩ d0_tell_78 (x_kkv ?_)
      cases h
      exact x_vret hX hr d0_tell_81 (fun H hP => ⟨rfl, hP⟩)
    · rw [if_neg hc] at h
      refine x_aload_n hX d0_tell_17 rfl rfl ?_
      obtain ⟨q8, eq8, h⟩ := x_bd h
      refine x_getF (j := 0) hX xc0 hg1.1 hg1.2 (by decide) rfl eq8 kF0_11 d0_tell_18 ?_
      refine x_iload_n hX d0_tell_21 rfl rfl ?_
      obtain ⟨hg9, h⟩ := x_gd h
      obtain ⟨q10, eq10, h⟩ := x_bd h
      refine x_aald hX hg9.1 (x_kd hg9.2.1) rfl (x_in hg9.2.2) eq10 d0_tell_22 ?_
      refine x_astore_n hX [(2, .ref (B + q10)), (0, .ref (B + v0)), (1, .int v1)] d0_tell_23 rfl (by decide) rfl ?_
      refine x_aload_n hX d0_tell_24 rfl rfl ?_
      obtain ⟨hg11, h⟩ := x_gd h
      refine x_getJ (j := 9) hX xc4 hg11.1 hg11.2 (by decide) rfl kF0_219 d0_tell_25 ?_
      refine x_lconst (v := 0) hX d0_tell_28 (by decide) ?_
      refine x_lif_eq (tgt := 64) hX d0_tell_29 d0_tell_30 (by decide) (fun hc => ?_) (fun hc => ?_)
      · rw [if_pos hc] at h
        obtain ⟨x12, ex12, h⟩ := x_le h
        refine x_iinc (j := 2) hX [(1, .int x12), (2, .ref (B + q10)), (0, .ref (B + v0))] d0_tell_64 rfl (by rw [ex12]; rfl) (by decide) rfl ?_
        refine x_goto (tgt := 9) hX d0_tell_67 (by decide) ?_
        refine x_sub [2, 0] rfl ?_
        exact ih _ _ _ _ h
      · rw [if_neg hc] at h
        refine x_aload_n hX d0_tell_33 rfl rfl ?_
        obtain ⟨q13, eq13, h⟩ := x_bd h
        refine x_getF (j := 4) hX xc0 hg1.1 hg1.2 (by decide) rfl eq13 kF0_35 d0_tell_34 ?_
        refine x_iload_n hX d0_tell_37 rfl rfl ?_
        refine x_aload_n hX d0_tell_38 rfl rfl ?_
        obtain ⟨q14, eq14, h⟩ := x_bd h
        refine x_getF (j := 5) hX xc4 hg11.1 hg11.2 (by decide) rfl eq14 kF0_147 d0_tell_39 ?_
        refine x_aload_n hX d0_tell_42 rfl rfl ?_
        obtain ⟨q15, eq15, h⟩ := x_bd h
        refine x_getF (j := 6) hX xc4 hg11.1 hg11.2 (by decide) rfl eq15 kF0_101 d0_tell_43 ?_
        refine x_aload_n hX d0_tell_46 rfl rfl ?_
        refine x_getJ (j := 9) hX xc4 hg11.1 hg11.2 (by decide) rfl kF0_219 d0_tell_47 ?_
        obtain ⟨hg16, h⟩ := x_gd h
        obtain ⟨⟨I17, J18⟩, eb19, h⟩ := x_bd h
        dsimp only at h
        refine x_callV hX hR (c_m2_addSteps (l := x_l X) (d := d + 0) eb19) kX0_161 kN2_addSteps kE2_addSteps xc2.1 hg16.1 hg16.2 rfl rfl (Nat.le_of_ble_eq_true rfl) ⟨Nat.le_refl 0, Nat.le_refl 0⟩ d0_tell_50 (x_kkv ?_)
        refine x_aload_n hX d0_tell_53 rfl rfl ?_
        refine x_getF (j := 5) hX xc4 hg11.1 hg11.2 (by decide) rfl eq14 kF0_147 d0_tell_54 ?_
        refine x_aload_n hX d0_tell_57 rfl rfl ?_
        refine x_getF (j := 6) hX xc4 hg11.1 hg11.2 (by decide) rfl eq15 kF0_101 d0_tell_58 ?_
        obtain ⟨hg20, h⟩ := x_gd h
        obtain ⟨J21, eb22, h⟩ := x_bd h
        refine x_callV hX hR (c_m3_become (l := x_l X) (d := d + 0) eb22) kX0_149 kN3_become kE3_become xc3.1 hg20.1 hg20.2 rfl rfl (Nat.le_of_ble_eq_true rfl) ⟨Nat.le_refl 0, Nat.le_refl 0⟩ d0_tell_61 (x_kkv ?_)
        obtain ⟨x23, ex23, h⟩ := x_le h
        refine x_iinc (j := 2) hX [(1, .int x23), (2, .ref (B + q10)), (0, .ref (B + v0))] d0_tell_64 rfl (by rw [ex23]; rfl) (by decide) rfl ?_
        refine x_goto (tgt := 9) hX d0_tell_67 (by decide) ?_
        refine x_sub [2, 0] rfl ?_
        exact ih _ _ _ _ h
set_option maxRecDepth 100000 in
set_option maxHeartbeats 4000000 in
theorem c_m0_tell {l : Launch} {B d : Nat} {g : xG} {N : Nat} {K : Nat → Nat × Nat} {F : Nat → Nat → Option Nat} {I : (Nat → Nat → Int32)} {J : (Nat → Nat → Int64)} {a0 : Nat} {I' : (Nat → Nat → Int32)} {J' : (Nat → Nat → Int64)} (h : m0_tell N K F I J a0 = some (I', J')) : xC l g B (d + 2) 0 0 y0_tell c0_tell 3 none [.ref (B + a0)] (xP g B N K I J F) (xq none (xP g B N K I' J' F)) := by
  refine xC_of (by decide) (Nat.le_of_ble_eq_true rfl) (fun X hl hR hr _ hX => ?_)
  refine x_sub (L' := [(0, .ref (B + a0))]) [0] rfl ?_
  unfold m0_tell at h
  refine x_aload_n hX d0_tell_0 rfl rfl ?_
  obtain ⟨hg1, h⟩ := x_gd h
  obtain ⟨q2, eq2, h⟩ := x_bd h
  refine x_getF (j := 4) hX xc0 hg1.1 hg1.2 (by decide) rfl eq2 kF0_35 d0_tell_1 ?_
  obtain ⟨hg3, h⟩ := x_gd h
  obtain ⟨I4, eb5, h⟩ := x_bd h
  refine x_callV hX hR (c_m2_reset (l := x_l X) (d := d + 1) eb5) kX0_61 kN2_reset kE2_reset xc2.1 hg3.1 hg3.2 rfl rfl (Nat.le_of_ble_eq_true rfl) ⟨Nat.le_refl 0, Nat.le_refl 0⟩ d0_tell_4 (x_kkv ?_)
  refine x_iconst (v := 0) hX d0_tell_7 (by decide) ?_
  refine x_istore_n hX [(1, .int (0 : Int32)), (0, .ref (B + a0))] d0_tell_8 rfl (by decide) rfl ?_
  refine x_sub [1, 0] rfl ?_
  exact t_m0_tell_L9 hX hR hr _ _ _ _ _ h

def m0_settle (N : Nat) (K : Nat → Nat × Nat) (F : Nat → Nat → Option Nat) (I : (Nat → Nat → Int32)) (J : (Nat → Nat → Int64)) (a0 : Nat) : Option (Int32 × (Nat → Nat → Int32) × (Nat → Nat → Int64)) :=
  if a0 < N ∧ K a0 = (0, 0) then (xb (m0_follow N K F I J a0) fun (x2, I3, J4) => xb (F a0 3) fun q6 => if q6 < N ∧ K q6 = (0, 2) then (if x2 ≤ ((1500 : Int32) - (I3 q6 0)) then (xb (m0_tell N K F I3 J4 a0) fun (I8, J9) => some (x2, I8, J9)) else (xb (m0_takeBack N K F I3 J4 a0) fun J11 => some ((-3 : Int32), I3, J11))) else none) else none
set_option maxRecDepth 100000 in
set_option maxHeartbeats 4000000 in
theorem c_m0_settle {l : Launch} {B d : Nat} {g : xG} {N : Nat} {K : Nat → Nat × Nat} {F : Nat → Nat → Option Nat} {I : (Nat → Nat → Int32)} {J : (Nat → Nat → Int64)} {a0 : Nat} {rv : Int32} {I' : (Nat → Nat → Int32)} {J' : (Nat → Nat → Int64)} (h : m0_settle N K F I J a0 = some (rv, I', J')) : xC l g B (d + 4) 0 0 y0_settle c0_settle 2 (some .int) [.ref (B + a0)] (xP g B N K I J F) (xq (some (.int rv)) (xP g B N K I' J' F)) := by
  refine xC_of (by decide) (Nat.le_of_ble_eq_true rfl) (fun X hl hR hr _ hX => ?_)
  refine x_sub (L' := [(0, .ref (B + a0))]) [0] rfl ?_
  unfold m0_settle at h
  refine x_aload_n hX d0_settle_0 rfl rfl ?_
  obtain ⟨hg1, h⟩ := x_gd h
  obtain ⟨⟨x2, I3, J4⟩, eb5, h⟩ := x_bd h
  dsimp only at h
  refine x_callV hX hR (c_m0_follow (l := x_l X) (d := d + 0) eb5) kX0_207 kN0_follow kE0_follow xc0.1 hg1.1 hg1.2 rfl rfl (Nat.le_of_ble_eq_true rfl) ⟨Nat.le_refl 0, Nat.le_refl 0⟩ d0_settle_1 (x_kki ?_)
  refine x_istore_n hX [(1, .int x2), (0, .ref (B + a0))] d0_settle_4 rfl (by decide) rfl ?_
  refine x_iload_n hX d0_settle_5 rfl rfl ?_
  refine x_sipush (v := 1500) hX d0_settle_6 (by decide) ?_
  refine x_aload_n hX d0_settle_9 rfl rfl ?_
  obtain ⟨q6, eq6, h⟩ := x_bd h
  refine x_getF (j := 3) hX xc0 hg1.1 hg1.2 (by decide) rfl eq6 kF0_31 d0_settle_10 ?_
  obtain ⟨hg7, h⟩ := x_gd h
  refine x_getI (j := 0) hX xc2 hg7.1 hg7.2 (by decide) rfl kF0_123 d0_settle_13 ?_
  refine x_isub hX d0_settle_16 ?_
  refine x_icmp_le (tgt := 27) hX d0_settle_17 (by decide) (fun hc => ?_) (fun hc => ?_)
  · rw [if_pos hc] at h
    refine x_aload_n hX d0_settle_27 rfl rfl ?_
    obtain ⟨⟨I8, J9⟩, eb10, h⟩ := x_bd h
    dsimp only at h
    refine x_callV hX hR (c_m0_tell (l := x_l X) (d := d + 1) eb10) kX0_213 kN0_tell kE0_tell xc0.1 hg1.1 hg1.2 rfl rfl (Nat.le_of_ble_eq_true rfl) ⟨Nat.le_refl 0, Nat.le_refl 0⟩ d0_settle_28 (x_kkv ?_)
    refine x_iload_n hX d0_settle_31 rfl rfl ?_
    cases h
    exact x_iret hX hr d0_settle_32 (fun H hP => ⟨rfl, hP⟩)
  · rw [if_neg hc] at h
    refine x_aload_n hX d0_settle_20 rfl rfl ?_
    obtain ⟨J11, eb12, h⟩ := x_bd h
    refine x_callV hX hR (c_m0_takeBack (l := x_l X) (d := d + 1) eb12) kX0_210 kN0_takeBack kE0_takeBack xc0.1 hg1.1 hg1.2 rfl rfl (Nat.le_of_ble_eq_true rfl) ⟨Nat.le_refl 0, Nat.le_refl 0⟩ d0_settle_21 (x_kkv ?_)
    refine x_bipush (v := -3) hX d0_settle_24 (by decide) ?_
    cases h
    exact x_iret hX hr d0_settle_26 (fun H hP => ⟨rfl, hP⟩)

def m0_alter (N : Nat) (K : Nat → Nat × Nat) (F : Nat → Nat → Option Nat) (I : (Nat → Nat → Int32)) (J : (Nat → Nat → Int64)) (a0 : Nat) (a1 : Int32) (a2 : Int32) (a3 : Int32) (a4 : Int64) : Option (Int32 × (Nat → Nat → Int32) × (Nat → Nat → Int64)) :=
  if a0 < N ∧ K a0 = (0, 0) then (xb (F a0 2) fun q2 => if q2 < N ∧ K q2 = (0, 1) then (if (I q2 0) = 0 then (xb (F a0 0) fun q4 => if q4 < N ∧ (K q4).1 = 4 ∧ xinb a1 (K q4).2 then (xb (F q4 (a1.toNatClampNeg)) fun q6 => if q6 < N ∧ K q6 = (0, 4) then (xb (F q6 6) fun q8 => if q8 < N ∧ K q8 = (0, 3) then (xb (m3_write N K F I J q8 a2 a3 a4) fun J10 => xb (m0_settle N K F I J10 a0) fun (x12, I13, J14) => some (x12, I13, J14)) else none) else none) else none) else (xb (m1_gather N K F I J q2 a1 a2 a3 a4) fun (x16, I17, J18) => some (x16, I17, J18))) else none) else none
set_option maxRecDepth 100000 in
set_option maxHeartbeats 4000000 in
theorem c_m0_alter {l : Launch} {B d : Nat} {g : xG} {N : Nat} {K : Nat → Nat × Nat} {F : Nat → Nat → Option Nat} {I : (Nat → Nat → Int32)} {J : (Nat → Nat → Int64)} {a0 : Nat} {a1 : Int32} {a2 : Int32} {a3 : Int32} {a4 : Int64} {rv : Int32} {I' : (Nat → Nat → Int32)} {J' : (Nat → Nat → Int64)} (h : m0_alter N K F I J a0 a1 a2 a3 a4 = some (rv, I', J')) : xC l g B (d + 5) 0 0 y0_alter c0_alter 6 (some .int) [.ref (B + a0), .int a1, .int a2, .int a3, .long a4] (xP g B N K I J F) (xq (some (.int rv)) (xP g B N K I' J' F)) := by
  refine xC_of (by decide) (Nat.le_of_ble_eq_true rfl) (fun X hl hR hr _ hX => ?_)
  refine x_sub (L' := [(0, .ref (B + a0)), (1, .int a1), (2, .int a2), (3, .int a3), (4, .long a4)]) [0, 1, 2, 3, 4] rfl ?_
  unfold m0_alter at h
  refine x_aload_n hX d0_alter_0 rfl rfl ?_
  obtain ⟨hg1, h⟩ := x_gd h
  obtain ⟨q2, eq2, h⟩ := x_bd h
  refine x_getF (j := 2) hX xc0 hg1.1 hg1.2 (by decide) rfl eq2 kF0_22 d0_alter_1 ?_
  obtain ⟨hg3, h⟩ := x_gd h
  refine x_getI (j := 0) hX xc1 hg3.1 hg3.2 (by decide) rfl kF0_87 d0_alter_4 ?_
  refine x_if_eq (tgt := 23) hX d0_alter_7 (by decide) (fun hc => ?_) (fun hc => ?_)
  · rw [if_pos hc] at h
    refine x_aload_n hX d0_alter_23 rfl rfl ?_
    obtain ⟨q4, eq4, h⟩ := x_bd h
    refine x_getF (j := 0) hX xc0 hg1.1 hg1.2 (by decide) rfl eq4 kF0_11 d0_alter_24 ?_
    refine x_iload_n hX d0_alter_27 rfl rfl ?_
    obtain ⟨hg5, h⟩ := x_gd h
    obtain ⟨q6, eq6, h⟩ := x_bd h
    refine x_aald hX hg5.1 (x_kd hg5.2.1) rfl (x_in hg5.2.2) eq6 d0_alter_28 ?_
    obtain ⟨hg7, h⟩ := x_gd h
    obtain ⟨q8, eq8, h⟩ := x_bd h
    refine x_getF (j := 6) hX xc4 hg7.1 hg7.2 (by decide) rfl eq8 kF0_101 d0_alter_29 ?_
    refine x_iload_n hX d0_alter_32 rfl rfl ?_
    refine x_iload_n hX d0_alter_33 rfl rfl ?_
    refine x_lload hX d0_alter_34 rfl ?_
    obtain ⟨hg9, h⟩ := x_gd h
    obtain ⟨J10, eb11, h⟩ := x_bd h
    refine x_callV hX hR (c_m3_write (l := x_l X) (d := d + 3) eb11) kX0_115 kN3_write kE3_write xc3.1 hg9.1 hg9.2 rfl rfl (Nat.le_of_ble_eq_true rfl) ⟨Nat.le_refl 0, Nat.le_refl 0⟩ d0_alter_36 (x_kkv ?_)
    refine x_aload_n hX d0_alter_39 rfl rfl ?_
    obtain ⟨⟨x12, I13, J14⟩, eb15, h⟩ := x_bd h
    dsimp only at h
    refine x_callV hX hR (c_m0_settle (l := x_l X) (d := d + 0) eb15) kX0_119 kN0_settle kE0_settle xc0.1 hg1.1 hg1.2 rfl rfl (Nat.le_of_ble_eq_true rfl) ⟨Nat.le_refl 0, Nat.le_refl 0⟩ d0_alter_40 (x_kki ?_)
    cases h
    exact x_iret hX hr d0_alter_43 (fun H hP => ⟨rfl, hP⟩)
  · rw [if_neg hc] at h
    refine x_aload_n hX d0_alter_10 rfl rfl ?_
    refine x_getF (j := 2) hX xc0 hg1.1 hg1.2 (by decide) rfl eq2 kF0_22 d0_alter_11 ?_
    refine x_iload_n hX d0_alter_14 rfl rfl ?_
    refine x_iload_n hX d0_alter_15 rfl rfl ?_
    refine x_iload_n hX d0_alter_16 rfl rfl ?_
    refine x_lload hX d0_alter_17 rfl ?_
    obtain ⟨⟨x16, I17, J18⟩, eb19, h⟩ := x_bd h
    dsimp only at h
    refine x_callV hX hR (c_m1_gather (l := x_l X) (d := d + 4) eb19) kX0_204 kN1_gather kE1_gather xc1.1 hg3.1 hg3.2 rfl rfl (Nat.le_of_ble_eq_true rfl) ⟨Nat.le_refl 0, Nat.le_refl 0⟩ d0_alter_19 (x_kki ?_)
    cases h
    exact x_iret hX hr d0_alter_22 (fun H hP => ⟨rfl, hP⟩)

def m0_put (N : Nat) (K : Nat → Nat × Nat) (F : Nat → Nat → Option Nat) (I : (Nat → Nat → Int32)) (J : (Nat → Nat → Int64)) (a0 : Nat) (a1 : Int32) (a2 : Int32) (a3 : Int64) : Option (Int32 × (Nat → Nat → Int32) × (Nat → Nat → Int64)) :=
  if a0 < N ∧ K a0 = (0, 0) then (xb (m0_isSource N K F I J a0 a1) fun x2 => if x2 = 0 then (some ((-2 : Int32), I, J)) else (xb (m0_isKey N K F I J a2) fun x4 => if ¬ x4 = 0 then (xb (m0_alter N K F I J a0 a1 a2 (1 : Int32) a3) fun (x6, I7, J8) => some (x6, I7, J8)) else (some ((-2 : Int32), I, J)))) else none
set_option maxRecDepth 100000 in
set_option maxHeartbeats 4000000 in
theorem c_m0_put {l : Launch} {B d : Nat} {g : xG} {N : Nat} {K : Nat → Nat × Nat} {F : Nat → Nat → Option Nat} {I : (Nat → Nat → Int32)} {J : (Nat → Nat → Int64)} {a0 : Nat} {a1 : Int32} {a2 : Int32} {a3 : Int64} {rv : Int32} {I' : (Nat → Nat → Int32)} {J' : (Nat → Nat → Int64)} (h : m0_put N K F I J a0 a1 a2 a3 = some (rv, I', J')) : xC l g B (d + 6) 0 0 y0_put c0_put 5 (some .int) [.ref (B + a0), .int a1, .int a2, .long a3] (xP g B N K I J F) (xq (some (.int rv)) (xP g B N K I' J' F)) := by
  refine xC_of (by decide) (Nat.le_of_ble_eq_true rfl) (fun X hl hR hr _ hX => ?_)
  refine x_sub (L' := [(0, .ref (B + a0)), (1, .int a1), (2, .int a2), (3, .long a3)]) [0, 1, 2, 3] rfl ?_
  unfold m0_put at h
  refine x_aload_n hX d0_put_0 rfl rfl ?_
  refine x_iload_n hX d0_put_1 rfl rfl ?_
  obtain ⟨hg1, h⟩ := x_gd h
  obtain ⟨x2, eb3, h⟩ := x_bd h
  refine x_callV hX hR (c_m0_isSource (l := x_l X) (d := d + 3) eb3) kX0_77 kN0_isSource kE0_isSource xc0.1 hg1.1 hg1.2 rfl rfl (Nat.le_of_ble_eq_true rfl) ⟨Nat.le_refl 0, Nat.le_refl 0⟩ d0_put_2 (x_kki ?_)
  refine x_if_eq (tgt := 15) hX d0_put_5 (by decide) (fun hc => ?_) (fun hc => ?_)
  · rw [if_pos hc] at h
    refine x_bipush (v := -2) hX d0_put_15 (by decide) ?_
    cases h
    exact x_iret hX hr d0_put_17 (fun H hP => ⟨rfl, hP⟩)
  · rw [if_neg hc] at h
    refine x_iload_n hX d0_put_8 rfl rfl ?_
    obtain ⟨x4, eb5, h⟩ := x_bd h
    refine x_callS hX hR (c_m0_isKey (l := x_l X) (d := d + 4) eb5) kX0_80 kS0_isKey rfl rfl (Nat.le_of_ble_eq_true rfl) ⟨Nat.le_refl 0, Nat.le_refl 0⟩ d0_put_9 (x_kki ?_)
    refine x_if_ne (tgt := 18) hX d0_put_12 (by decide) (fun hc => ?_) (fun hc => ?_)
    · rw [if_pos hc] at h
      refine x_aload_n hX d0_put_18 rfl rfl ?_
      refine x_iload_n hX d0_put_19 rfl rfl ?_
      refine x_iload_n hX d0_put_20 rfl rfl ?_
      refine x_iconst (v := 1) hX d0_put_21 (by decide) ?_
      refine x_lload_n hX d0_put_22 rfl rfl ?_
      obtain ⟨⟨x6, I7, J8⟩, eb9, h⟩ := x_bd h
      dsimp only at h
      refine x_callV hX hR (c_m0_alter (l := x_l X) (d := d + 0) eb9) kX0_83 kN0_alter kE0_alter xc0.1 hg1.1 hg1.2 rfl rfl (Nat.le_of_ble_eq_true rfl) ⟨Nat.le_refl 0, Nat.le_refl 0⟩ d0_put_23 (x_kki ?_)
      cases h
      exact x_iret hX hr d0_put_26 (fun H hP => ⟨rfl, hP⟩)
    · rw [if_neg (x_nn hc)] at h
      refine x_bipush (v := -2) hX d0_put_15 (by decide) ?_
      cases h
      exact x_iret hX hr d0_put_17 (fun H hP => ⟨rfl, hP⟩)

def m0_remove (N : Nat) (K : Nat → Nat × Nat) (F : Nat → Nat → Option Nat) (I : (Nat → Nat → Int32)) (J : (Nat → Nat → Int64)) (a0 : Nat) (a1 : Int32) (a2 : Int32) : Option (Int32 × (Nat → Nat → Int32) × (Nat → Nat → Int64)) :=
  if a0 < N ∧ K a0 = (0, 0) then (xb (m0_isSource N K F I J a0 a1) fun x2 => if x2 = 0 then (some ((-2 : Int32), I, J)) else (xb (m0_isKey N K F I J a2) fun x4 => if ¬ x4 = 0 then (xb (m0_alter N K F I J a0 a1 a2 (0 : Int32) (0 : Int64)) fun (x6, I7, J8) => some (x6, I7, J8)) else (some ((-2 : Int32), I, J)))) else none
set_option maxRecDepth 100000 in
set_option maxHeartbeats 4000000 in
theorem c_m0_remove {l : Launch} {B d : Nat} {g : xG} {N : Nat} {K : Nat → Nat × Nat} {F : Nat → Nat → Option Nat} {I : (Nat → Nat → Int32)} {J : (Nat → Nat → Int64)} {a0 : Nat} {a1 : Int32} {a2 : Int32} {rv : Int32} {I' : (Nat → Nat → Int32)} {J' : (Nat → Nat → Int64)} (h : m0_remove N K F I J a0 a1 a2 = some (rv, I', J')) : xC l g B (d + 6) 0 0 y0_remove c0_remove 3 (some .int) [.ref (B + a0), .int a1, .int a2] (xP g B N K I J F) (xq (some (.int rv)) (xP g B N K I' J' F)) := by
  refine xC_of (by decide) (Nat.le_of_ble_eq_true rfl) (fun X hl hR hr _ hX => ?_)
  refine x_sub (L' := [(0, .ref (B + a0)), (1, .int a1), (2, .int a2)]) [0, 1, 2] rfl ?_
  unfold m0_remove at h
  refine x_aload_n hX d0_remove_0 rfl rfl ?_
  refine x_iload_n hX d0_remove_1 rfl rfl ?_
  obtain ⟨hg1, h⟩ := x_gd h
  obtain ⟨x2, eb3, h⟩ := x_bd h
  refine x_callV hX hR (c_m0_isSource (l := x_l X) (d := d + 3) eb3) kX0_77 kN0_isSource kE0_isSource xc0.1 hg1.1 hg1.2 rfl rfl (Nat.le_of_ble_eq_true rfl) ⟨Nat.le_refl 0, Nat.le_refl 0⟩ d0_remove_2 (x_kki ?_)
  refine x_if_eq (tgt := 15) hX d0_remove_5 (by decide) (fun hc => ?_) (fun hc => ?_)
  · rw [if_pos hc] at h
    refine x_bipush (v := -2) hX d0_remove_15 (by decide) ?_
    cases h
    exact x_iret hX hr d0_remove_17 (fun H hP => ⟨rfl, hP⟩)
  · rw [if_neg hc] at h
    refine x_iload_n hX d0_remove_8 rfl rfl ?_
    obtain ⟨x4, eb5, h⟩ := x_bd h
    refine x_callS hX hR (c_m0_isKey (l := x_l X) (d := d + 4) eb5) kX0_80 kS0_isKey rfl rfl (Nat.le_of_ble_eq_true rfl) ⟨Nat.le_refl 0, Nat.le_refl 0⟩ d0_remove_9 (x_kki ?_)
    refine x_if_ne (tgt := 18) hX d0_remove_12 (by decide) (fun hc => ?_) (fun hc => ?_)
    · rw [if_pos hc] at h
      refine x_aload_n hX d0_remove_18 rfl rfl ?_
      refine x_iload_n hX d0_remove_19 rfl rfl ?_
      refine x_iload_n hX d0_remove_20 rfl rfl ?_
      refine x_iconst (v := 0) hX d0_remove_21 (by decide) ?_
      refine x_lconst (v := 0) hX d0_remove_22 (by decide) ?_
      obtain ⟨⟨x6, I7, J8⟩, eb9, h⟩ := x_bd h
      dsimp only at h
      refine x_callV hX hR (c_m0_alter (l := x_l X) (d := d + 0) eb9) kX0_83 kN0_alter kE0_alter xc0.1 hg1.1 hg1.2 rfl rfl (Nat.le_of_ble_eq_true rfl) ⟨Nat.le_refl 0, Nat.le_refl 0⟩ d0_remove_23 (x_kki ?_)
      cases h
      exact x_iret hX hr d0_remove_26 (fun H hP => ⟨rfl, hP⟩)
    · rw [if_neg (x_nn hc)] at h
      refine x_bipush (v := -2) hX d0_remove_15 (by decide) ?_
      cases h
      exact x_iret hX hr d0_remove_17 (fun H hP => ⟨rfl, hP⟩)

def m0_begin (N : Nat) (K : Nat → Nat × Nat) (F : Nat → Nat → Option Nat) (I : (Nat → Nat → Int32)) (J : (Nat → Nat → Int64)) (a0 : Nat) : Option (Int32 × (Nat → Nat → Int32)) :=
  if a0 < N ∧ K a0 = (0, 0) then (xb (F a0 2) fun q2 => if q2 < N ∧ K q2 = (0, 1) then (if (I q2 0) = 0 then (xb (m1_open N K F I J q2) fun I4 => some ((1 : Int32), I4)) else (some ((-4 : Int32), I))) else none) else none
set_option maxRecDepth 100000 in
set_option maxHeartbeats 4000000 in
theorem c_m0_begin {l : Launch} {B d : Nat} {g : xG} {N : Nat} {K : Nat → Nat × Nat} {F : Nat → Nat → Option Nat} {I : (Nat → Nat → Int32)} {J : (Nat → Nat → Int64)} {a0 : Nat} {rv : Int32} {I' : (Nat → Nat → Int32)} (h : m0_begin N K F I J a0 = some (rv, I')) : xC l g B (d + 1) 0 0 y0_begin c0_begin 1 (some .int) [.ref (B + a0)] (xP g B N K I J F) (xq (some (.int rv)) (xP g B N K I' J F)) := by
  refine xC_of (by decide) (Nat.le_of_ble_eq_true rfl) (fun X hl hR hr _ hX => ?_)
  refine x_sub (L' := [(0, .ref (B + a0))]) [0] rfl ?_
  unfold m0_begin at h
  refine x_aload_n hX d0_begin_0 rfl rfl ?_
  obtain ⟨hg1, h⟩ := x_gd h
  obtain ⟨q2, eq2, h⟩ := x_bd h
  refine x_getF (j := 2) hX xc0 hg1.1 hg1.2 (by decide) rfl eq2 kF0_22 d0_begin_1 ?_
  obtain ⟨hg3, h⟩ := x_gd h
  refine x_getI (j := 0) hX xc1 hg3.1 hg3.2 (by decide) rfl kF0_87 d0_begin_4 ?_
  refine x_if_eq (tgt := 13) hX d0_begin_7 (by decide) (fun hc => ?_) (fun hc => ?_)
  · rw [if_pos hc] at h
    refine x_aload_n hX d0_begin_13 rfl rfl ?_
    refine x_getF (j := 2) hX xc0 hg1.1 hg1.2 (by decide) rfl eq2 kF0_22 d0_begin_14 ?_
    obtain ⟨I4, eb5, h⟩ := x_bd h
    refine x_callV hX hR (c_m1_open (l := x_l X) (d := d + 0) eb5) kX0_91 kN1_open kE1_open xc1.1 hg3.1 hg3.2 rfl rfl (Nat.le_of_ble_eq_true rfl) ⟨Nat.le_refl 0, Nat.le_refl 0⟩ d0_begin_17 (x_kkv ?_)
    refine x_iconst (v := 1) hX d0_begin_20 (by decide) ?_
    cases h
    exact x_iret hX hr d0_begin_21 (fun H hP => ⟨rfl, hP⟩)
  · rw [if_neg hc] at h
    refine x_bipush (v := -4) hX d0_begin_10 (by decide) ?_
    cases h
    exact x_iret hX hr d0_begin_12 (fun H hP => ⟨rfl, hP⟩)

def m0_end_L15 (N : Nat) (K : Nat → Nat × Nat) (F : Nat → Nat → Option Nat) : Nat → (Nat → Nat → Int32) → (Nat → Nat → Int64) → Nat → Int32 → Option (Int32 × (Nat → Nat → Int32) × (Nat → Nat → Int64))
  | 0, _, _, _, _ => none
  | n + 1, I, J, v0, v1 => if v0 < N ∧ K v0 = (0, 0) then (xb (F v0 2) fun q2 => if q2 < N ∧ K q2 = (0, 1) then (if (I q2 1) ≤ v1 then (xb (m0_settle N K F I J v0) fun (x4, I5, J6) => if x4 = (-3 : Int32) then (some (x4, I5, J6)) else (xb (m1_close N K F I5 J6 q2) fun I8 => some (x4, I8, J6))) else (xb (F v0 0) fun q10 => xb (F q2 2) fun q11 => if q11 < N ∧ (K q11).1 = 1 ∧ xinb v1 (K q11).2 then (if q10 < N ∧ (K q10).1 = 4 ∧ xinb (I q11 (v1.toNatClampNeg)) (K q10).2 then (xb (F q10 ((I q11 (v1.toNatClampNeg)).toNatClampNeg)) fun q14 => if q14 < N ∧ K q14 = (0, 4) then (xb (F q14 6) fun q16 => xb (F q2 3) fun q17 => if q17 < N ∧ (K q17).1 = 1 ∧ xinb v1 (K q17).2 then (xb (F q2 4) fun q19 => if q19 < N ∧ (K q19).1 = 3 ∧ xinb v1 (K q19).2 then (xb (F q2 5) fun q21 => if q21 < N ∧ (K q21).1 = 2 ∧ xinb v1 (K q21).2 then (if q16 < N ∧ K q16 = (0, 3) then (xb (m3_write N K F I J q16 (I q17 (v1.toNatClampNeg)) (I q19 (v1.toNatClampNeg)) (J q21 (v1.toNatClampNeg))) fun J24 => xlet (v1 + (1 : Int32)) fun x26 => m0_end_L15 N K F n I J24 v0 x26) else none) else none) else none) else none) else none) else none) else none)) else none) else none
def m0_end (N : Nat) (K : Nat → Nat × Nat) (F : Nat → Nat → Option Nat) (I : (Nat → Nat → Int32)) (J : (Nat → Nat → Int64)) (a0 : Nat) : Option (Int32 × (Nat → Nat → Int32) × (Nat → Nat → Int64)) :=
  if a0 < N ∧ K a0 = (0, 0) then (xb (F a0 2) fun q2 => if q2 < N ∧ K q2 = (0, 1) then (if ¬ (I q2 0) = 0 then (m0_end_L15 N K F xFu I J a0 (0 : Int32)) else (some ((-4 : Int32), I, J))) else none) else none
set_option maxRecDepth 100000 in
set_option maxHeartbeats 4000000 in
theorem t_m0_end_L15 {X : xX} {B d : Nat} {g : xG} {N : Nat} {K : Nat → Nat × Nat} {F : Nat → Nat → Option Nat} {rv : Int32} {I' : (Nat → Nat → Int32)} {J' : (Nat → Nat → Int64)} (hX : xO X c0_end "ChangeRows" 2 B g) (hR : x_R X = xrm (d + 5) 0 0) (hr : (x_meth X).sig.returnType = (some .int)) : ∀ (n : Nat) (I : (Nat → Nat → Int32)) (J : (Nat → Nat → Int64)) (v0 : Nat) (v1 : Int32), m0_end_L15 N K F n I J v0 v1 = some (rv, I', J') → xV X B 2 (xZ X B 0 0 (xq (some (.int rv)) (xP g B N K I' J' F))) 0 0 (xP g B N K I J F) 15 [(0, .ref (B + v0)), (1, .int v1)] [] := by
  intro n
  induction n with
  | zero =>
    intro I J v0 v1 h
    cases h
  | succ n ih =>
    intro I J v0 v1 h
    rw [m0_end_L15] at h
    refine x_iload_n hX d0_end_15 rfl rfl ?_
    refine x_aload_n hX d0_end_16 rfl rfl ?_
    obtain ⟨hg1, h⟩ := x_gd h
    obtain ⟨q2, eq2, h⟩ := x_bd h
    refine x_getF (j := 2) hX xc0 hg1.1 hg1.2 (by decide) rfl eq2 kF0_22 d0_end_17 ?_
    obtain ⟨hg3, h⟩ := x_gd h
    refine x_getI (j := 1) hX xc1 hg3.1 hg3.2 (by decide) rfl kF0_94 d0_end_20 ?_
    refine x_icmp_ge (tgt := 79) hX d0_end_23 (by decide) (fun hc => ?_) (fun hc => ?_)
    · rw [if_pos hc] at h
      refine x_aload_n hX d0_end_79 rfl rfl ?_
      obtain ⟨⟨x4, I5, J6⟩, eb7, h⟩ := x_bd h
      dsimp only at h
      refine x_callV hX hR (c_m0_settle (l := x_l X) (d := d + 0) eb7) kX0_119 kN0_settle kE0_settle xc0.1 hg1.1 hg1.2 rfl rfl (Nat.le_of_ble_eq_true rfl) ⟨Nat.le_refl 0, Nat.le_refl 0⟩ d0_end_80 (x_kki ?_)
      refine x_istore_n hX [(1, .int x4), (0, .ref (B + v0))] d0_end_83 rfl (by decide) rfl ?_
      refine x_iload_n hX d0_end_84 rfl rfl ?_
      refine x_bipush (v := -3) hX d0_end_85 (by decide) ?_
      refine x_icmp_eq (tgt := 97) hX d0_end_87 (by decide) (fun hc => ?_) (fun hc => ?_)
      · rw [if_pos hc] at h
        refine x_iload_n hX d0_end_97 rfl rfl ?_
        cases h
        exact x_iret hX hr d0_end_98 (fun H hP => ⟨rfl, hP⟩)
      · rw [if_neg hc] at h
        refine x_aload_n hX d0_end_90 rfl rfl ?_
        refine x_getF (j := 2) hX xc0 hg1.1 hg1.2 (by decide) rfl eq2 kF0_22 d0_end_91 ?_
        obtain ⟨I8, eb9, h⟩ := x_bd h
        refine x_callV hX hR (c_m1_close (l := x_l X) (d := d + 4) eb9) kX0_58 kN1_close kE1_close xc1.1 hg3.1 hg3.2 rfl rfl (Nat.le_of_ble_eq_true rfl) ⟨Nat.le_refl 0, Nat.le_refl 0⟩ d0_end_94 (x_kkv ?_)
        refine x_iload_n hX d0_end_97 rfl rfl ?_
        cases h
        exact x_iret hX hr d0_end_98 (fun H hP => ⟨rfl, hP⟩)
    · rw [if_neg hc] at h
      refine x_aload_n hX d0_end_26 rfl rfl ?_
      obtain ⟨q10, eq10, h⟩ := x_bd h
      refine x_getF (j := 0) hX xc0 hg1.1 hg1.2 (by decide) rfl eq10 kF0_11 d0_end_27 ?_
      refine x_aload_n hX d0_end_30 rfl rfl ?_
      refine x_getF (j := 2) hX xc0 hg1.1 hg1.2 (by decide) rfl eq2 kF0_22 d0_end_31 ?_
      obtain ⟨q11, eq11, h⟩ := x_bd h
      refine x_getF (j := 2) hX xc1 hg3.1 hg3.2 (by decide) rfl eq11 kF0_97 d0_end_34 ?_
      refine x_iload_n hX d0_end_37 rfl rfl ?_
      obtain ⟨hg12, h⟩ := x_gd h
      refine x_iald hX hg12.1 (x_kd hg12.2.1) (x_in hg12.2.2) d0_end_38 ?_
      obtain ⟨hg13, h⟩ := x_gd h
      obtain ⟨q14, eq14, h⟩ := x_bd h
      refine x_aald hX hg13.1 (x_kd hg13.2.1) rfl (x_in hg13.2.2) eq14 d0_end_39 ?_
      obtain ⟨hg15, h⟩ := x_gd h
      obtain ⟨q16, eq16, h⟩ := x_bd h
      refine x_getF (j := 6) hX xc4 hg15.1 hg15.2 (by decide) rfl eq16 kF0_101 d0_end_40 ?_
      refine x_aload_n hX d0_end_43 rfl rfl ?_
      refine x_getF (j := 2) hX xc0 hg1.1 hg1.2 (by decide) rfl eq2 kF0_22 d0_end_44 ?_
      obtain ⟨q17, eq17, h⟩ := x_bd h
      refine x_getF (j := 3) hX xc1 hg3.1 hg3.2 (by decide) rfl eq17 kF0_104 d0_end_47 ?_
      refine x_iload_n hX d0_end_50 rfl rfl ?_
      obtain ⟨hg18, h⟩ := x_gd h
      refine x_iald hX hg18.1 (x_kd hg18.2.1) (x_in hg18.2.2) d0_end_51 ?_
      refine x_aload_n hX d0_end_52 rfl rfl ?_
      refine x_getF (j := 2) hX xc0 hg1.1 hg1.2 (by decide) rfl eq2 kF0_22 d0_end_53 ?_
      obtain ⟨q19, eq19, h⟩ := x_bd h
      refine x_getF (j := 4) hX xc1 hg3.1 hg3.2 (by decide) rfl eq19 kF0_107 d0_end_56 ?_
      refine x_iload_n hX d0_end_59 rfl rfl ?_
      obtain ⟨hg20, h⟩ := x_gd h
      refine x_zald hX hg20.1 (x_kd hg20.2.1) (x_in hg20.2.2) d0_end_60 ?_
      refine x_aload_n hX d0_end_61 rfl rfl ?_
      refine x_getF (j := 2) hX xc0 hg1.1 hg1.2 (by decide) rfl eq2 kF0_22 d0_end_62 ?_
      obtain ⟨q21, eq21, h⟩ := x_bd h
      refine x_getF (j := 5) hX xc1 hg3.1 hg3.2 (by decide) rfl eq21 kF0_111 d0_end_65 ?_
      refine x_iload_n hX d0_end_68 rfl rfl ?_
      obtain ⟨hg22, h⟩ := x_gd h
      refine x_lald hX hg22.1 (x_kd hg22.2.1) (x_in hg22.2.2) d0_end_69 ?_
      obtain ⟨hg23, h⟩ := x_gd h
      obtain ⟨J24, eb25, h⟩ := x_bd h
      refine x_callV hX hR (c_m3_write (l := x_l X) (d := d + 3) eb25) kX0_115 kN3_write kE3_write xc3.1 hg23.1 hg23.2 rfl rfl (Nat.le_of_ble_eq_true rfl) ⟨Nat.le_refl 0, Nat.le_refl 0⟩ d0_end_70 (x_kkv ?_)
      obtain ⟨x26, ex26, h⟩ := x_le h
      refine x_iinc (j := 1) hX [(1, .int x26), (0, .ref (B + v0))] d0_end_73 rfl (by rw [ex26]; rfl) (by decide) rfl ?_
      refine x_goto (tgt := 15) hX d0_end_76 (by decide) ?_
      refine x_sub [1, 0] rfl ?_
      exact ih _ _ _ _ h
set_option maxRecDepth 100000 in
set_option maxHeartbeats 4000000 in
theorem c_m0_end {l : Launch} {B d : Nat} {g : xG} {N : Nat} {K : Nat → Nat × Nat} {F : Nat → Nat → Option Nat} {I : (Nat → Nat → Int32)} {J : (Nat → Nat → Int64)} {a0 : Nat} {rv : Int32} {I' : (Nat → Nat → Int32)} {J' : (Nat → Nat → Int64)} (h : m0_end N K F I J a0 = some (rv, I', J')) : xC l g B (d + 5) 0 0 y0_end c0_end 2 (some .int) [.ref (B + a0)] (xP g B N K I J F) (xq (some (.int rv)) (xP g B N K I' J' F)) := by
  refine xC_of (by decide) (Nat.le_of_ble_eq_true rfl) (fun X hl hR hr _ hX => ?_)
  refine x_sub (L' := [(0, .ref (B + a0))]) [0] rfl ?_
  unfold m0_end at h
  refine x_aload_n hX d0_end_0 rfl rfl ?_
  obtain ⟨hg1, h⟩ := x_gd h
  obtain ⟨q2, eq2, h⟩ := x_bd h
  refine x_getF (j := 2) hX xc0 hg1.1 hg1.2 (by decide) rfl eq2 kF0_22 d0_end_1 ?_
  obtain ⟨hg3, h⟩ := x_gd h
  refine x_getI (j := 0) hX xc1 hg3.1 hg3.2 (by decide) rfl kF0_87 d0_end_4 ?_
  refine x_if_ne (tgt := 13) hX d0_end_7 (by decide) (fun hc => ?_) (fun hc => ?_)
  · rw [if_pos hc] at h
    refine x_iconst (v := 0) hX d0_end_13 (by decide) ?_
    refine x_istore_n hX [(1, .int (0 : Int32)), (0, .ref (B + a0))] d0_end_14 rfl (by decide) rfl ?_
    refine x_sub [1, 0] rfl ?_
    exact t_m0_end_L15 hX hR hr _ _ _ _ _ h
  · rw [if_neg (x_nn hc)] at h
    refine x_bipush (v := -4) hX d0_end_10 (by decide) ?_
    cases h
    exact x_iret hX hr d0_end_12 (fun H hP => ⟨rfl, hP⟩)

def m0_drop (N : Nat) (K : Nat → Nat × Nat) (F : Nat → Nat → Option Nat) (I : (Nat → Nat → Int32)) (J : (Nat → Nat → Int64)) (a0 : Nat) : Option (Int32 × (Nat → Nat → Int32)) :=
  if a0 < N ∧ K a0 = (0, 0) then (xb (F a0 2) fun q2 => if q2 < N ∧ K q2 = (0, 1) then (if ¬ (I q2 0) = 0 then (xlet ((I q2 1)) fun x4 => xb (m1_close N K F I J q2) fun I5 => some (x4, I5)) else (some ((-4 : Int32), I))) else none) else none
set_option maxRecDepth 100000 in
set_option maxHeartbeats 4000000 in
theorem c_m0_drop {l : Launch} {B d : Nat} {g : xG} {N : Nat} {K : Nat → Nat × Nat} {F : Nat → Nat → Option Nat} {I : (Nat → Nat → Int32)} {J : (Nat → Nat → Int64)} {a0 : Nat} {rv : Int32} {I' : (Nat → Nat → Int32)} (h : m0_drop N K F I J a0 = some (rv, I')) : xC l g B (d + 1) 0 0 y0_drop c0_drop 2 (some .int) [.ref (B + a0)] (xP g B N K I J F) (xq (some (.int rv)) (xP g B N K I' J F)) := by
  refine xC_of (by decide) (Nat.le_of_ble_eq_true rfl) (fun X hl hR hr _ hX => ?_)
  refine x_sub (L' := [(0, .ref (B + a0))]) [0] rfl ?_
  unfold m0_drop at h
  refine x_aload_n hX d0_drop_0 rfl rfl ?_
  obtain ⟨hg1, h⟩ := x_gd h
  obtain ⟨q2, eq2, h⟩ := x_bd h
  refine x_getF (j := 2) hX xc0 hg1.1 hg1.2 (by decide) rfl eq2 kF0_22 d0_drop_1 ?_
  obtain ⟨hg3, h⟩ := x_gd h
  refine x_getI (j := 0) hX xc1 hg3.1 hg3.2 (by decide) rfl kF0_87 d0_drop_4 ?_
  refine x_if_ne (tgt := 13) hX d0_drop_7 (by decide) (fun hc => ?_) (fun hc => ?_)
  · rw [if_pos hc] at h
    refine x_aload_n hX d0_drop_13 rfl rfl ?_
    refine x_getF (j := 2) hX xc0 hg1.1 hg1.2 (by decide) rfl eq2 kF0_22 d0_drop_14 ?_
    refine x_getI (j := 1) hX xc1 hg3.1 hg3.2 (by decide) rfl kF0_94 d0_drop_17 ?_
    obtain ⟨x4, ex4, h⟩ := x_le h
    refine x_eqi ex4.symm ?_
    refine x_istore_n hX [(1, .int x4), (0, .ref (B + a0))] d0_drop_20 rfl (by decide) rfl ?_
    refine x_aload_n hX d0_drop_21 rfl rfl ?_
    refine x_getF (j := 2) hX xc0 hg1.1 hg1.2 (by decide) rfl eq2 kF0_22 d0_drop_22 ?_
    obtain ⟨I5, eb6, h⟩ := x_bd h
    refine x_callV hX hR (c_m1_close (l := x_l X) (d := d + 0) eb6) kX0_58 kN1_close kE1_close xc1.1 hg3.1 hg3.2 rfl rfl (Nat.le_of_ble_eq_true rfl) ⟨Nat.le_refl 0, Nat.le_refl 0⟩ d0_drop_25 (x_kkv ?_)
    refine x_iload_n hX d0_drop_28 rfl rfl ?_
    cases h
    exact x_iret hX hr d0_drop_29 (fun H hP => ⟨rfl, hP⟩)
  · rw [if_neg (x_nn hc)] at h
    refine x_bipush (v := -4) hX d0_drop_10 (by decide) ?_
    cases h
    exact x_iret hX hr d0_drop_12 (fun H hP => ⟨rfl, hP⟩)

def m0_told (N : Nat) (K : Nat → Nat × Nat) (F : Nat → Nat → Option Nat) (I : (Nat → Nat → Int32)) (J : (Nat → Nat → Int64)) (a0 : Nat) : Option (Int32) :=
  if a0 < N ∧ K a0 = (0, 0) then (xb (F a0 4) fun q2 => if q2 < N ∧ K q2 = (0, 2) then (some (I q2 0)) else none) else none
set_option maxRecDepth 100000 in
set_option maxHeartbeats 4000000 in
theorem c_m0_told {l : Launch} {B d : Nat} {g : xG} {N : Nat} {K : Nat → Nat × Nat} {F : Nat → Nat → Option Nat} {I : (Nat → Nat → Int32)} {J : (Nat → Nat → Int64)} {a0 : Nat} {rv : Int32} (h : m0_told N K F I J a0 = some rv) : xC l g B (d + 0) 0 0 y0_told c0_told 1 (some .int) [.ref (B + a0)] (xP g B N K I J F) (xq (some (.int rv)) (xP g B N K I J F)) := by
  refine xC_of (by decide) (Nat.le_of_ble_eq_true rfl) (fun X hl hR hr _ hX => ?_)
  refine x_sub (L' := [(0, .ref (B + a0))]) [0] rfl ?_
  unfold m0_told at h
  refine x_aload_n hX d0_told_0 rfl rfl ?_
  obtain ⟨hg1, h⟩ := x_gd h
  obtain ⟨q2, eq2, h⟩ := x_bd h
  refine x_getF (j := 4) hX xc0 hg1.1 hg1.2 (by decide) rfl eq2 kF0_35 d0_told_1 ?_
  obtain ⟨hg3, h⟩ := x_gd h
  refine x_getI (j := 0) hX xc2 hg3.1 hg3.2 (by decide) rfl kF0_123 d0_told_4 ?_
  cases h
  exact x_iret hX hr d0_told_7 (fun H hP => ⟨rfl, hP⟩)

def m0_changesOf (N : Nat) (K : Nat → Nat × Nat) (F : Nat → Nat → Option Nat) (I : (Nat → Nat → Int32)) (J : (Nat → Nat → Int64)) (a0 : Nat) (a1 : Int32) : Option (Option Nat) :=
  if a1 = 0 then (if a0 < N ∧ K a0 = (0, 0) then (xb (F a0 4) fun q2 => some (some q2)) else none) else (if a1 = 1 then (if a0 < N ∧ K a0 = (0, 0) then (xb (F a0 3) fun q4 => some (some q4)) else none) else (if a1 = 2 then (if a0 < N ∧ K a0 = (0, 0) then (xb (F a0 5) fun q6 => some (some q6)) else none) else (some none)))
set_option maxRecDepth 100000 in
set_option maxHeartbeats 4000000 in
theorem c_m0_changesOf {l : Launch} {B d : Nat} {g : xG} {N : Nat} {K : Nat → Nat × Nat} {F : Nat → Nat → Option Nat} {I : (Nat → Nat → Int32)} {J : (Nat → Nat → Int64)} {a0 : Nat} {a1 : Int32} {rv : Option Nat} (h : m0_changesOf N K F I J a0 a1 = some rv) : xC l g B (d + 0) 0 0 y0_changesOf c0_changesOf 2 (some (.object "ChangeRows$Changes")) [.ref (B + a0), .int a1] (xP g B N K I J F) (xq (some (va_rf (rv.map (B + ·)))) (xP g B N K I J F)) := by
  refine xC_of (by decide) (Nat.le_of_ble_eq_true rfl) (fun X hl hR hr _ hX => ?_)
  refine x_sub (L' := [(0, .ref (B + a0)), (1, .int a1)]) [0, 1] rfl ?_
  unfold m0_changesOf at h
  refine x_iload_n hX d0_changesOf_0 rfl rfl ?_
  by_cases hs1000 : a1 = 0
  · rw [if_pos hs1000] at h
    refine x_tableIn (off := 27) (tgt := 28) hX d0_changesOf_1 (by rw [hs1000]; decide) (by rw [hs1000]; decide) (by rw [hs1000]; rfl) (by decide) ?_
    refine x_aload_n hX d0_changesOf_28 rfl rfl ?_
    obtain ⟨hg1, h⟩ := x_gd h
    obtain ⟨q2, eq2, h⟩ := x_bd h
    refine x_getF (j := 4) hX xc0 hg1.1 hg1.2 (by decide) rfl eq2 kF0_35 d0_changesOf_29 ?_
    cases h
    exact x_aret hX hr (Or.inl ⟨_, rfl⟩) (Or.inr ⟨_, rfl⟩) d0_changesOf_32 (fun H hP => ⟨rfl, hP⟩)
  · rw [if_neg hs1000] at h
    by_cases hs1001 : a1 = 1
    · rw [if_pos hs1001] at h
      refine x_tableIn (off := 32) (tgt := 33) hX d0_changesOf_1 (by rw [hs1001]; decide) (by rw [hs1001]; decide) (by rw [hs1001]; rfl) (by decide) ?_
      refine x_aload_n hX d0_changesOf_33 rfl rfl ?_
      obtain ⟨hg3, h⟩ := x_gd h
      obtain ⟨q4, eq4, h⟩ := x_bd h
      refine x_getF (j := 3) hX xc0 hg3.1 hg3.2 (by decide) rfl eq4 kF0_31 d0_changesOf_34 ?_
      cases h
      exact x_aret hX hr (Or.inl ⟨_, rfl⟩) (Or.inr ⟨_, rfl⟩) d0_changesOf_37 (fun H hP => ⟨rfl, hP⟩)
    · rw [if_neg hs1001] at h
      by_cases hs1002 : a1 = 2
      · rw [if_pos hs1002] at h
        refine x_tableIn (off := 37) (tgt := 38) hX d0_changesOf_1 (by rw [hs1002]; decide) (by rw [hs1002]; decide) (by rw [hs1002]; rfl) (by decide) ?_
        refine x_aload_n hX d0_changesOf_38 rfl rfl ?_
        obtain ⟨hg5, h⟩ := x_gd h
        obtain ⟨q6, eq6, h⟩ := x_bd h
        refine x_getF (j := 5) hX xc0 hg5.1 hg5.2 (by decide) rfl eq6 kF0_38 d0_changesOf_39 ?_
        cases h
        exact x_aret hX hr (Or.inl ⟨_, rfl⟩) (Or.inr ⟨_, rfl⟩) d0_changesOf_42 (fun H hP => ⟨rfl, hP⟩)
      · rw [if_neg hs1002] at h
        refine x_tableOut (tgt := 43) hX d0_changesOf_1 (x_tout_0_2 hs1000 hs1001 hs1002) (by decide) ?_
        refine x_null hX d0_changesOf_43 ?_
        cases h
        exact x_aret hX hr (Or.inl ⟨_, rfl⟩) (Or.inl rfl) d0_changesOf_44 (fun H hP => ⟨rfl, hP⟩)

def m0_change (N : Nat) (K : Nat → Nat × Nat) (F : Nat → Nat → Option Nat) (I : (Nat → Nat → Int32)) (J : (Nat → Nat → Int64)) (a0 : Nat) (a1 : Int32) (a2 : Int32) (a3 : Int32) : Option (Int32) :=
  if a0 < N ∧ K a0 = (0, 0) then (xb (m0_changesOf N K F I J a0 a1) fun q2 => (match q2 with | none => (some (-2 : Int32)) | some q4 => (if q4 < N ∧ K q4 = (0, 2) then (xb (m0_isWithin N K F I J a2 (0 : Int32) ((I q4 0) - (1 : Int32))) fun x6 => if ¬ x6 = 0 then (if a3 = 0 then (xb (m2_tableOf N K F I J q4 a2) fun x8 => some x8) else (if a3 = 1 then (xb (m2_sortOf N K F I J q4 a2) fun x10 => some x10) else (if a3 = 2 then (xb (m2_keyOf N K F I J q4 a2) fun x12 => some x12) else (some (-2 : Int32))))) else (some (-2 : Int32))) else none))) else none
set_option maxRecDepth 100000 in
set_option maxHeartbeats 4000000 in
theorem c_m0_change {l : Launch} {B d : Nat} {g : xG} {N : Nat} {K : Nat → Nat × Nat} {F : Nat → Nat → Option Nat} {I : (Nat → Nat → Int32)} {J : (Nat → Nat → Int64)} {a0 : Nat} {a1 : Int32} {a2 : Int32} {a3 : Int32} {rv : Int32} (h : m0_change N K F I J a0 a1 a2 a3 = some rv) : xC l g B (d + 1) 0 0 y0_change c0_change 5 (some .int) [.ref (B + a0), .int a1, .int a2, .int a3] (xP g B N K I J F) (xq (some (.int rv)) (xP g B N K I J F)) := by
  refine xC_of (by decide) (Nat.le_of_ble_eq_true rfl) (fun X hl hR hr _ hX => ?_)
  refine x_sub (L' := [(0, .ref (B + a0)), (1, .int a1), (2, .int a2), (3, .int a3)]) [0, 1, 2, 3] rfl ?_
  unfold m0_change at h
  refine x_aload_n hX d0_change_0 rfl rfl ?_
  refine x_iload_n hX d0_change_1 rfl rfl ?_
  obtain ⟨hg1, h⟩ := x_gd h
  obtain ⟨q2, eb3, h⟩ := x_bd h
  cases q2 with
  | none =>
    refine x_callV hX hR (c_m0_changesOf (l := x_l X) (d := d + 0) eb3) kX0_124 kN0_changesOf kE0_changesOf xc0.1 hg1.1 hg1.2 rfl rfl (Nat.le_of_ble_eq_true rfl) ⟨Nat.le_refl 0, Nat.le_refl 0⟩ d0_change_2 (x_kkn ?_)
    refine x_astoreN hX [(4, .null), (0, .ref (B + a0)), (1, .int a1), (2, .int a2), (3, .int a3)] d0_change_5 (by decide) rfl ?_
    refine x_aloadN hX d0_change_7 rfl ?_
    refine x_ifnullN (tgt := 27) hX d0_change_9 (by decide) ?_
    refine x_bipush (v := -2) hX d0_change_27 (by decide) ?_
    cases h
    exact x_iret hX hr d0_change_29 (fun H hP => ⟨rfl, hP⟩)
  | some q4 =>
    refine x_callV hX hR (c_m0_changesOf (l := x_l X) (d := d + 0) eb3) kX0_124 kN0_changesOf kE0_changesOf xc0.1 hg1.1 hg1.2 rfl rfl (Nat.le_of_ble_eq_true rfl) ⟨Nat.le_refl 0, Nat.le_refl 0⟩ d0_change_2 (x_kkr ?_)
    refine x_astore hX [(4, .ref (B + q4)), (0, .ref (B + a0)), (1, .int a1), (2, .int a2), (3, .int a3)] d0_change_5 (by decide) rfl ?_
    refine x_aload hX d0_change_7 rfl ?_
    refine x_ifnull hX d0_change_9 ?_
    refine x_iload_n hX d0_change_12 rfl rfl ?_
    refine x_iconst (v := 0) hX d0_change_13 (by decide) ?_
    refine x_aload hX d0_change_14 rfl ?_
    obtain ⟨hg5, h⟩ := x_gd h
    refine x_getI (j := 0) hX xc2 hg5.1 hg5.2 (by decide) rfl kF0_123 d0_change_16 ?_
    refine x_iconst (v := 1) hX d0_change_19 (by decide) ?_
    refine x_isub hX d0_change_20 ?_
    obtain ⟨x6, eb7, h⟩ := x_bd h
    refine x_callS hX hR (c_m0_isWithin (l := x_l X) (d := d + 0) eb7) kX0_73 kS0_isWithin rfl rfl (Nat.le_of_ble_eq_true rfl) ⟨Nat.le_refl 0, Nat.le_refl 0⟩ d0_change_21 (x_kki ?_)
    refine x_if_ne (tgt := 30) hX d0_change_24 (by decide) (fun hc => ?_) (fun hc => ?_)
    · rw [if_pos hc] at h
      refine x_iload_n hX d0_change_30 rfl rfl ?_
      by_cases hs1000 : a3 = 0
      · rw [if_pos hs1000] at h
        refine x_tableIn (off := 25) (tgt := 56) hX d0_change_31 (by rw [hs1000]; decide) (by rw [hs1000]; decide) (by rw [hs1000]; rfl) (by decide) ?_
        refine x_aload hX d0_change_56 rfl ?_
        refine x_iload_n hX d0_change_58 rfl rfl ?_
        obtain ⟨x8, eb9, h⟩ := x_bd h
        refine x_callV hX hR (c_m2_tableOf (l := x_l X) (d := d + 0) eb9) kX0_128 kN2_tableOf kE2_tableOf xc2.1 hg5.1 hg5.2 rfl rfl (Nat.le_of_ble_eq_true rfl) ⟨Nat.le_refl 0, Nat.le_refl 0⟩ d0_change_59 (x_kki ?_)
        cases h
        exact x_iret hX hr d0_change_62 (fun H hP => ⟨rfl, hP⟩)
      · rw [if_neg hs1000] at h
        by_cases hs1001 : a3 = 1
        · rw [if_pos hs1001] at h
          refine x_tableIn (off := 32) (tgt := 63) hX d0_change_31 (by rw [hs1001]; decide) (by rw [hs1001]; decide) (by rw [hs1001]; rfl) (by decide) ?_
          refine x_aload hX d0_change_63 rfl ?_
          refine x_iload_n hX d0_change_65 rfl rfl ?_
          obtain ⟨x10, eb11, h⟩ := x_bd h
          refine x_callV hX hR (c_m2_sortOf (l := x_l X) (d := d + 0) eb11) kX0_132 kN2_sortOf kE2_sortOf xc2.1 hg5.1 hg5.2 rfl rfl (Nat.le_of_ble_eq_true rfl) ⟨Nat.le_refl 0, Nat.le_refl 0⟩ d0_change_66 (x_kki ?_)
          cases h
          exact x_iret hX hr d0_change_69 (fun H hP => ⟨rfl, hP⟩)
        · rw [if_neg hs1001] at h
          by_cases hs1002 : a3 = 2
          · rw [if_pos hs1002] at h
            refine x_tableIn (off := 39) (tgt := 70) hX d0_change_31 (by rw [hs1002]; decide) (by rw [hs1002]; decide) (by rw [hs1002]; rfl) (by decide) ?_
            refine x_aload hX d0_change_70 rfl ?_
            refine x_iload_n hX d0_change_72 rfl rfl ?_
            obtain ⟨x12, eb13, h⟩ := x_bd h
            refine x_callV hX hR (c_m2_keyOf (l := x_l X) (d := d + 0) eb13) kX0_135 kN2_keyOf kE2_keyOf xc2.1 hg5.1 hg5.2 rfl rfl (Nat.le_of_ble_eq_true rfl) ⟨Nat.le_refl 0, Nat.le_refl 0⟩ d0_change_73 (x_kki ?_)
            cases h
            exact x_iret hX hr d0_change_76 (fun H hP => ⟨rfl, hP⟩)
          · rw [if_neg hs1002] at h
            refine x_tableOut (tgt := 77) hX d0_change_31 (x_tout_0_2 hs1000 hs1001 hs1002) (by decide) ?_
            refine x_bipush (v := -2) hX d0_change_77 (by decide) ?_
            cases h
            exact x_iret hX hr d0_change_79 (fun H hP => ⟨rfl, hP⟩)
    · rw [if_neg (x_nn hc)] at h
      refine x_bipush (v := -2) hX d0_change_27 (by decide) ?_
      cases h
      exact x_iret hX hr d0_change_29 (fun H hP => ⟨rfl, hP⟩)

def m0_value (N : Nat) (K : Nat → Nat × Nat) (F : Nat → Nat → Option Nat) (I : (Nat → Nat → Int32)) (J : (Nat → Nat → Int64)) (a0 : Nat) (a1 : Int32) (a2 : Int32) (a3 : Int32) : Option (Int64) :=
  if a0 < N ∧ K a0 = (0, 0) then (xb (m0_changesOf N K F I J a0 a1) fun q2 => (match q2 with | none => (some (0 : Int64)) | some q4 => (if q4 < N ∧ K q4 = (0, 2) then (xb (m0_isWithin N K F I J a2 (0 : Int32) ((I q4 0) - (1 : Int32))) fun x6 => if ¬ x6 = 0 then (if a3 = 0 then (xb (F q4 2) fun q8 => if q8 < N ∧ (K q8).1 = 2 ∧ xinb a2 (K q8).2 then (some (J q8 (a2.toNatClampNeg))) else none) else (if a3 = 1 then (xb (F q4 3) fun q10 => if q10 < N ∧ (K q10).1 = 2 ∧ xinb a2 (K q10).2 then (some (J q10 (a2.toNatClampNeg))) else none) else (some (0 : Int64)))) else (some (0 : Int64))) else none))) else none
set_option maxRecDepth 100000 in
set_option maxHeartbeats 4000000 in
theorem c_m0_value {l : Launch} {B d : Nat} {g : xG} {N : Nat} {K : Nat → Nat × Nat} {F : Nat → Nat → Option Nat} {I : (Nat → Nat → Int32)} {J : (Nat → Nat → Int64)} {a0 : Nat} {a1 : Int32} {a2 : Int32} {a3 : Int32} {rv : Int64} (h : m0_value N K F I J a0 a1 a2 a3 = some rv) : xC l g B (d + 1) 0 0 y0_value c0_value 5 (some .long) [.ref (B + a0), .int a1, .int a2, .int a3] (xP g B N K I J F) (xq (some (.long rv)) (xP g B N K I J F)) := by
  refine xC_of (by decide) (Nat.le_of_ble_eq_true rfl) (fun X hl hR hr _ hX => ?_)
  refine x_sub (L' := [(0, .ref (B + a0)), (1, .int a1), (2, .int a2), (3, .int a3)]) [0, 1, 2, 3] rfl ?_
  unfold m0_value at h
  refine x_aload_n hX d0_value_0 rfl rfl ?_
  refine x_iload_n hX d0_value_1 rfl rfl ?_
  obtain ⟨hg1, h⟩ := x_gd h
  obtain ⟨q2, eb3, h⟩ := x_bd h
  cases q2 with
  | none =>
    refine x_callV hX hR (c_m0_changesOf (l := x_l X) (d := d + 0) eb3) kX0_124 kN0_changesOf kE0_changesOf xc0.1 hg1.1 hg1.2 rfl rfl (Nat.le_of_ble_eq_true rfl) ⟨Nat.le_refl 0, Nat.le_refl 0⟩ d0_value_2 (x_kkn ?_)
    refine x_astoreN hX [(4, .null), (0, .ref (B + a0)), (1, .int a1), (2, .int a2), (3, .int a3)] d0_value_5 (by decide) rfl ?_
    refine x_aloadN hX d0_value_7 rfl ?_
    refine x_ifnullN (tgt := 27) hX d0_value_9 (by decide) ?_
    refine x_lconst (v := 0) hX d0_value_27 (by decide) ?_
    cases h
    exact x_lret hX hr d0_value_28 (fun H hP => ⟨rfl, hP⟩)
  | some q4 =>
    refine x_callV hX hR (c_m0_changesOf (l := x_l X) (d := d + 0) eb3) kX0_124 kN0_changesOf kE0_changesOf xc0.1 hg1.1 hg1.2 rfl rfl (Nat.le_of_ble_eq_true rfl) ⟨Nat.le_refl 0, Nat.le_refl 0⟩ d0_value_2 (x_kkr ?_)
    refine x_astore hX [(4, .ref (B + q4)), (0, .ref (B + a0)), (1, .int a1), (2, .int a2), (3, .int a3)] d0_value_5 (by decide) rfl ?_
    refine x_aload hX d0_value_7 rfl ?_
    refine x_ifnull hX d0_value_9 ?_
    refine x_iload_n hX d0_value_12 rfl rfl ?_
    refine x_iconst (v := 0) hX d0_value_13 (by decide) ?_
    refine x_aload hX d0_value_14 rfl ?_
    obtain ⟨hg5, h⟩ := x_gd h
    refine x_getI (j := 0) hX xc2 hg5.1 hg5.2 (by decide) rfl kF0_123 d0_value_16 ?_
    refine x_iconst (v := 1) hX d0_value_19 (by decide) ?_
    refine x_isub hX d0_value_20 ?_
    obtain ⟨x6, eb7, h⟩ := x_bd h
    refine x_callS hX hR (c_m0_isWithin (l := x_l X) (d := d + 0) eb7) kX0_73 kS0_isWithin rfl rfl (Nat.le_of_ble_eq_true rfl) ⟨Nat.le_refl 0, Nat.le_refl 0⟩ d0_value_21 (x_kki ?_)
    refine x_if_ne (tgt := 29) hX d0_value_24 (by decide) (fun hc => ?_) (fun hc => ?_)
    · rw [if_pos hc] at h
      refine x_iload_n hX d0_value_29 rfl rfl ?_
      by_cases hs1000 : a3 = 0
      · rw [if_pos hs1000] at h
        refine x_lookup (off := 26) (tgt := 56) hX d0_value_30 (by decide) (by rw [hs1000]; rfl) (by decide) ?_
        refine x_aload hX d0_value_56 rfl ?_
        obtain ⟨q8, eq8, h⟩ := x_bd h
        refine x_getF (j := 2) hX xc2 hg5.1 hg5.2 (by decide) rfl eq8 kF0_138 d0_value_58 ?_
        refine x_iload_n hX d0_value_61 rfl rfl ?_
        obtain ⟨hg9, h⟩ := x_gd h
        refine x_lald hX hg9.1 (x_kd hg9.2.1) (x_in hg9.2.2) d0_value_62 ?_
        cases h
        exact x_lret hX hr d0_value_63 (fun H hP => ⟨rfl, hP⟩)
      · rw [if_neg hs1000] at h
        by_cases hs1001 : a3 = 1
        · rw [if_pos hs1001] at h
          refine x_lookup (off := 34) (tgt := 64) hX d0_value_30 (by decide) (by rw [hs1001]; rfl) (by decide) ?_
          refine x_aload hX d0_value_64 rfl ?_
          obtain ⟨q10, eq10, h⟩ := x_bd h
          refine x_getF (j := 3) hX xc2 hg5.1 hg5.2 (by decide) rfl eq10 kF0_141 d0_value_66 ?_
          refine x_iload_n hX d0_value_69 rfl rfl ?_
          obtain ⟨hg11, h⟩ := x_gd h
          refine x_lald hX hg11.1 (x_kd hg11.2.1) (x_in hg11.2.2) d0_value_70 ?_
          cases h
          exact x_lret hX hr d0_value_71 (fun H hP => ⟨rfl, hP⟩)
        · rw [if_neg hs1001] at h
          refine x_lookup (off := 42) (tgt := 72) hX d0_value_30 (by decide) ((lv_osw hs1000 rfl).trans ((lv_osw hs1001 rfl).trans (rfl))) (by decide) ?_
          refine x_lconst (v := 0) hX d0_value_72 (by decide) ?_
          cases h
          exact x_lret hX hr d0_value_73 (fun H hP => ⟨rfl, hP⟩)
    · rw [if_neg (x_nn hc)] at h
      refine x_lconst (v := 0) hX d0_value_27 (by decide) ?_
      cases h
      exact x_lret hX hr d0_value_28 (fun H hP => ⟨rfl, hP⟩)

def m0_logged (N : Nat) (K : Nat → Nat × Nat) (F : Nat → Nat → Option Nat) (I : (Nat → Nat → Int32)) (J : (Nat → Nat → Int64)) (a0 : Nat) : Option (Int32) :=
  if a0 < N ∧ K a0 = (0, 0) then (xb (F a0 3) fun q2 => if q2 < N ∧ K q2 = (0, 2) then (some (I q2 0)) else none) else none
set_option maxRecDepth 100000 in
set_option maxHeartbeats 4000000 in
theorem c_m0_logged {l : Launch} {B d : Nat} {g : xG} {N : Nat} {K : Nat → Nat × Nat} {F : Nat → Nat → Option Nat} {I : (Nat → Nat → Int32)} {J : (Nat → Nat → Int64)} {a0 : Nat} {rv : Int32} (h : m0_logged N K F I J a0 = some rv) : xC l g B (d + 0) 0 0 y0_logged c0_logged 1 (some .int) [.ref (B + a0)] (xP g B N K I J F) (xq (some (.int rv)) (xP g B N K I J F)) := by
  refine xC_of (by decide) (Nat.le_of_ble_eq_true rfl) (fun X hl hR hr _ hX => ?_)
  refine x_sub (L' := [(0, .ref (B + a0))]) [0] rfl ?_
  unfold m0_logged at h
  refine x_aload_n hX d0_logged_0 rfl rfl ?_
  obtain ⟨hg1, h⟩ := x_gd h
  obtain ⟨q2, eq2, h⟩ := x_bd h
  refine x_getF (j := 3) hX xc0 hg1.1 hg1.2 (by decide) rfl eq2 kF0_31 d0_logged_1 ?_
  obtain ⟨hg3, h⟩ := x_gd h
  refine x_getI (j := 0) hX xc2 hg3.1 hg3.2 (by decide) rfl kF0_123 d0_logged_4 ?_
  cases h
  exact x_iret hX hr d0_logged_7 (fun H hP => ⟨rfl, hP⟩)

def m0_forget_L17 (N : Nat) (K : Nat → Nat × Nat) (F : Nat → Nat → Option Nat) : Nat → (Nat → Nat → Int32) → (Nat → Nat → Int64) → Nat → Int32 → Int32 → Option (Int32 × (Nat → Nat → Int32) × (Nat → Nat → Int64))
  | 0, _, _, _, _, _ => none
  | n + 1, I, J, v0, v1, v2 => if v0 < N ∧ K v0 = (0, 0) then (if (I v0 1) ≤ v2 then (some (v1, I, J)) else (xb (F v0 0) fun q2 => if q2 < N ∧ (K q2).1 = 4 ∧ xinb v2 (K q2).2 then (xb (F q2 (v2.toNatClampNeg)) fun q4 => if q4 < N ∧ K q4 = (0, 4) then (xb (F q4 7) fun q6 => xb (F q4 5) fun q7 => if q6 < N ∧ K q6 = (0, 3) then (xb (m3_become N K F I J q6 q7) fun J9 => xlet (v2 + (1 : Int32)) fun x11 => m0_forget_L17 N K F n I J9 v0 v1 x11) else none) else none) else none)) else none
def m0_forget (N : Nat) (K : Nat → Nat × Nat) (F : Nat → Nat → Option Nat) (I : (Nat → Nat → Int32)) (J : (Nat → Nat → Int64)) (a0 : Nat) : Option (Int32 × (Nat → Nat → Int32) × (Nat → Nat → Int64)) :=
  if a0 < N ∧ K a0 = (0, 0) then (xb (F a0 3) fun q2 => if q2 < N ∧ K q2 = (0, 2) then (xlet ((I q2 0)) fun x4 => xb (m2_reset N K F I J q2) fun I5 => m0_forget_L17 N K F xFu I5 J a0 x4 (0 : Int32)) else none) else none
set_option maxRecDepth 100000 in
set_option maxHeartbeats 4000000 in
theorem t_m0_forget_L17 {X : xX} {B d : Nat} {g : xG} {N : Nat} {K : Nat → Nat × Nat} {F : Nat → Nat → Option Nat} {rv : Int32} {I' : (Nat → Nat → Int32)} {J' : (Nat → Nat → Int64)} (hX : xO X c0_forget "ChangeRows" 3 B g) (hR : x_R X = xrm (d + 2) 0 0) (hr : (x_meth X).sig.returnType = (some .int)) : ∀ (n : Nat) (I : (Nat → Nat → Int32)) (J : (Nat → Nat → Int64)) (v0 : Nat) (v1 : Int32) (v2 : Int32), m0_forget_L17 N K F n I J v0 v1 v2 = some (rv, I', J') → xV X B 3 (xZ X B 0 0 (xq (some (.int rv)) (xP g B N K I' J' F))) 0 0 (xP g B N K I J F) 17 [(0, .ref (B + v0)), (1, .int v1), (2, .int v2)] [] := by
  intro n
  induction n with
  | zero =>
    intro I J v0 v1 v2 h
    cases h
  | succ n ih =>
    intro I J v0 v1 v2 h
    rw [m0_forget_L17] at h
    refine x_iload_n hX d0_forget_17 rfl rfl ?_
    refine x_aload_n hX d0_forget_18 rfl rfl ?_
    obtain ⟨hg1, h⟩ := x_gd h
    refine x_getI (j := 1) hX xc0 hg1.1 hg1.2 (by decide) rfl kF0_15 d0_forget_19 ?_
    refine x_icmp_ge (tgt := 52) hX d0_forget_22 (by decide) (fun hc => ?_) (fun hc => ?_)
    · rw [if_pos hc] at h
      refine x_iload_n hX d0_forget_52 rfl rfl ?_
      cases h
      exact x_iret hX hr d0_forget_53 (fun H hP => ⟨rfl, hP⟩)
    · rw [if_neg hc] at h
      refine x_aload_n hX d0_forget_25 rfl rfl ?_
      obtain ⟨q2, eq2, h⟩ := x_bd h
      refine x_getF (j := 0) hX xc0 hg1.1 hg1.2 (by decide) rfl eq2 kF0_11 d0_forget_26 ?_
      refine x_iload_n hX d0_forget_29 rfl rfl ?_
      obtain ⟨hg3, h⟩ := x_gd h
      obtain ⟨q4, eq4, h⟩ := x_bd h
      refine x_aald hX hg3.1 (x_kd hg3.2.1) rfl (x_in hg3.2.2) eq4 d0_forget_30 ?_
      obtain ⟨hg5, h⟩ := x_gd h
      obtain ⟨q6, eq6, h⟩ := x_bd h
      refine x_getF (j := 7) hX xc4 hg5.1 hg5.2 (by decide) rfl eq6 kF0_144 d0_forget_31 ?_
      refine x_aload_n hX d0_forget_34 rfl rfl ?_
      refine x_getF (j := 0) hX xc0 hg1.1 hg1.2 (by decide) rfl eq2 kF0_11 d0_forget_35 ?_
      refine x_iload_n hX d0_forget_38 rfl rfl ?_
      refine x_aald hX hg3.1 (x_kd hg3.2.1) rfl (x_in hg3.2.2) eq4 d0_forget_39 ?_
      obtain ⟨q7, eq7, h⟩ := x_bd h
      refine x_getF (j := 5) hX xc4 hg5.1 hg5.2 (by decide) rfl eq7 kF0_147 d0_forget_40 ?_
      obtain ⟨hg8, h⟩ := x_gd h
      obtain ⟨J9, eb10, h⟩ := x_bd h
      refine x_callV hX hR (c_m3_become (l := x_l X) (d := d + 0) eb10) kX0_149 kN3_become kE3_become xc3.1 hg8.1 hg8.2 rfl rfl (Nat.le_of_ble_eq_true rfl) ⟨Nat.le_refl 0, Nat.le_refl 0⟩ d0_forget_43 (x_kkv ?_)
      obtain ⟨x11, ex11, h⟩ := x_le h
      refine x_iinc (j := 2) hX [(2, .int x11), (0, .ref (B + v0)), (1, .int v1)] d0_forget_46 rfl (by rw [ex11]; rfl) (by decide) rfl ?_
      refine x_goto (tgt := 17) hX d0_forget_49 (by decide) ?_
      refine x_sub [1, 2, 0] rfl ?_
      exact ih _ _ _ _ _ h
set_option maxRecDepth 100000 in
set_option maxHeartbeats 4000000 in
theorem c_m0_forget {l : Launch} {B d : Nat} {g : xG} {N : Nat} {K : Nat → Nat × Nat} {F : Nat → Nat → Option Nat} {I : (Nat → Nat → Int32)} {J : (Nat → Nat → Int64)} {a0 : Nat} {rv : Int32} {I' : (Nat → Nat → Int32)} {J' : (Nat → Nat → Int64)} (h : m0_forget N K F I J a0 = some (rv, I', J')) : xC l g B (d + 2) 0 0 y0_forget c0_forget 3 (some .int) [.ref (B + a0)] (xP g B N K I J F) (xq (some (.int rv)) (xP g B N K I' J' F)) := by
  refine xC_of (by decide) (Nat.le_of_ble_eq_true rfl) (fun X hl hR hr _ hX => ?_)
  refine x_sub (L' := [(0, .ref (B + a0))]) [0] rfl ?_
  unfold m0_forget at h
  refine x_aload_n hX d0_forget_0 rfl rfl ?_
  obtain ⟨hg1, h⟩ := x_gd h
  obtain ⟨q2, eq2, h⟩ := x_bd h
  refine x_getF (j := 3) hX xc0 hg1.1 hg1.2 (by decide) rfl eq2 kF0_31 d0_forget_1 ?_
  obtain ⟨hg3, h⟩ := x_gd h
  refine x_getI (j := 0) hX xc2 hg3.1 hg3.2 (by decide) rfl kF0_123 d0_forget_4 ?_
  obtain ⟨x4, ex4, h⟩ := x_le h
  refine x_eqi ex4.symm ?_
  refine x_istore_n hX [(1, .int x4), (0, .ref (B + a0))] d0_forget_7 rfl (by decide) rfl ?_
  refine x_aload_n hX d0_forget_8 rfl rfl ?_
  refine x_getF (j := 3) hX xc0 hg1.1 hg1.2 (by decide) rfl eq2 kF0_31 d0_forget_9 ?_
  obtain ⟨I5, eb6, h⟩ := x_bd h
  refine x_callV hX hR (c_m2_reset (l := x_l X) (d := d + 1) eb6) kX0_61 kN2_reset kE2_reset xc2.1 hg3.1 hg3.2 rfl rfl (Nat.le_of_ble_eq_true rfl) ⟨Nat.le_refl 0, Nat.le_refl 0⟩ d0_forget_12 (x_kkv ?_)
  refine x_iconst (v := 0) hX d0_forget_15 (by decide) ?_
  refine x_istore_n hX [(2, .int (0 : Int32)), (1, .int x4), (0, .ref (B + a0))] d0_forget_16 rfl (by decide) rfl ?_
  refine x_sub [2, 1, 0] rfl ?_
  exact t_m0_forget_L17 hX hR hr _ _ _ _ _ _ h

def m0_rowsBehind_B63 (N : Nat) (K : Nat → Nat × Nat) (F : Nat → Nat → Option Nat) (I : (Nat → Nat → Int32)) (k16 : (Nat → Nat → Int64) → Nat → Int32 → Int32 → Nat → Int32 → Option ((Nat → Nat → Int64))) (J : (Nat → Nat → Int64)) (v0 : Nat) (v1 : Int32) (v2 : Int32) (v3 : Nat) (v4 : Int32) (w0 : Nat) (w1 : Int32) (w2 : Int32) : Option ((Nat → Nat → Int64)) :=
  if v0 < N ∧ K v0 = (0, 0) then (xb (F v0 3) fun q2 => if q2 < N ∧ K q2 = (0, 2) then (xb (F q2 3) fun q4 => if q4 < N ∧ (K q4).1 = 2 ∧ xinb v4 (K q4).2 then (if w0 < N ∧ K w0 = (0, 3) then (xb (m3_write N K F I J w0 w1 w2 (J q4 (v4.toNatClampNeg))) fun J7 => xlet (v4 + (1 : Int32)) fun x9 => k16 J7 v0 v1 v2 v3 x9) else none) else none) else none) else none
def m0_rowsBehind_L16 (N : Nat) (K : Nat → Nat × Nat) (F : Nat → Nat → Option Nat) (I : (Nat → Nat → Int32)) : Nat → (Nat → Nat → Int64) → Nat → Int32 → Int32 → Nat → Int32 → Option ((Nat → Nat → Int64))
  | 0, _, _, _, _, _, _ => none
  | n + 1, J, v0, v1, v2, v3, v4 => if v2 ≤ v4 then (some J) else (if v0 < N ∧ K v0 = (0, 0) then (xb (F v0 3) fun q2 => if q2 < N ∧ K q2 = (0, 2) then (xb (m2_tableOf N K F I J q2 v4) fun x4 => if ¬ x4 = v1 then (xlet (v4 + (1 : Int32)) fun x6 => m0_rowsBehind_L16 N K F I n J v0 v1 v2 v3 x6) else (xb (m2_keyOf N K F I J q2 v4) fun x7 => xb (m2_sortOf N K F I J q2 v4) fun x9 => if x9 = (2 : Int32) then (m0_rowsBehind_B63 N K F I (m0_rowsBehind_L16 N K F I n) J v0 v1 v2 v3 v4 v3 x7 (0 : Int32)) else (m0_rowsBehind_B63 N K F I (m0_rowsBehind_L16 N K F I n) J v0 v1 v2 v3 v4 v3 x7 (1 : Int32)))) else none) else none)
def m0_rowsBehind (N : Nat) (K : Nat → Nat × Nat) (F : Nat → Nat → Option Nat) (I : (Nat → Nat → Int32)) (J : (Nat → Nat → Int64)) (a0 : Nat) (a1 : Int32) (a2 : Int32) (a3 : Nat) : Option ((Nat → Nat → Int64)) :=
  if a0 < N ∧ K a0 = (0, 0) then (xb (F a0 0) fun q2 => if q2 < N ∧ (K q2).1 = 4 ∧ xinb a1 (K q2).2 then (xb (F q2 (a1.toNatClampNeg)) fun q4 => if q4 < N ∧ K q4 = (0, 4) then (xb (F q4 7) fun q6 => if a3 < N ∧ K a3 = (0, 3) then (xb (m3_become N K F I J a3 q6) fun J8 => m0_rowsBehind_L16 N K F I xFu J8 a0 a1 a2 a3 (0 : Int32)) else none) else none) else none) else none
set_option maxRecDepth 100000 in
set_option maxHeartbeats 4000000 in
theorem t_m0_rowsBehind_B63 {X : xX} {B d : Nat} {g : xG} {N : Nat} {K : Nat → Nat × Nat} {F : Nat → Nat → Option Nat} {I : (Nat → Nat → Int32)} {J' : (Nat → Nat → Int64)} {k16 : (Nat → Nat → Int64) → Nat → Int32 → Int32 → Nat → Int32 → Option ((Nat → Nat → Int64))} (hX : xO X c0_rowsBehind "ChangeRows" 5 B g) (hR : x_R X = xrm (d + 2) 0 0) (hr : (x_meth X).sig.returnType = none) (hk16 : ∀ (J : (Nat → Nat → Int64)) (v0 : Nat) (v1 : Int32) (v2 : Int32) (v3 : Nat) (v4 : Int32), k16 J v0 v1 v2 v3 v4 = some J' → xV X B 5 (xZ X B 0 0 (xq none (xP g B N K I J' F))) 0 0 (xP g B N K I J F) 16 [(0, .ref (B + v0)), (1, .int v1), (2, .int v2), (3, .ref (B + v3)), (4, .int v4)] []) (J : (Nat → Nat → Int64)) (v0 : Nat) (v1 : Int32) (v2 : Int32) (v3 : Nat) (v4 : Int32) (w0 : Nat) (w1 : Int32) (w2 : Int32) (h : m0_rowsBehind_B63 N K F I k16 J v0 v1 v2 v3 v4 w0 w1 w2 = some J') : xV X B 5 (xZ X B 0 0 (xq none (xP g B N K I J' F))) 0 0 (xP g B N K I J F) 63 [(0, .ref (B + v0)), (1, .int v1), (2, .int v2), (3, .ref (B + v3)), (4, .int v4)] [.int w2, .int w1, .ref (B + w0)] := by
  unfold m0_rowsBehind_B63 at h
  refine x_aload_n hX d0_rowsBehind_63 rfl rfl ?_
  obtain ⟨hg1, h⟩ := x_gd h
  obtain ⟨q2, eq2, h⟩ := x_bd h
  refine x_getF (j := 3) hX xc0 hg1.1 hg1.2 (by decide) rfl eq2 kF0_31 d0_rowsBehind_64 ?_
  obtain ⟨hg3, h⟩ := x_gd h
  obtain ⟨q4, eq4, h⟩ := x_bd h
  refine x_getF (j := 3) hX xc2 hg3.1 hg3.2 (by decide) rfl eq4 kF0_141 d0_rowsBehind_67 ?_
  refine x_iload hX d0_rowsBehind_70 rfl ?_
  obtain ⟨hg5, h⟩ := x_gd h
  refine x_lald hX hg5.1 (x_kd hg5.2.1) (x_in hg5.2.2) d0_rowsBehind_72 ?_
  obtain ⟨hg6, h⟩ := x_gd h
  obtain ⟨J7, eb8, h⟩ := x_bd h
  refine x_callV hX hR (c_m3_write (l := x_l X) (d := d + 0) eb8) kX0_115 kN3_write kE3_write xc3.1 hg6.1 hg6.2 rfl rfl (Nat.le_of_ble_eq_true rfl) ⟨Nat.le_refl 0, Nat.le_refl 0⟩ d0_rowsBehind_73 (x_kkv ?_)
  obtain ⟨x9, ex9, h⟩ := x_le h
  refine x_iinc (j := 4) hX [(4, .int x9), (0, .ref (B + v0)), (1, .int v1), (2, .int v2), (3, .ref (B + v3))] d0_rowsBehind_76 rfl (by rw [ex9]; rfl) (by decide) rfl ?_
  refine x_goto (tgt := 16) hX d0_rowsBehind_79 (by decide) ?_
  refine x_sub [1, 2, 3, 4, 0] rfl ?_
  exact hk16 _ _ _ _ _ _ h
set_option maxRecDepth 100000 in
set_option maxHeartbeats 4000000 in
theorem t_m0_rowsBehind_L16 {X : xX} {B d : Nat} {g : xG} {N : Nat} {K : Nat → Nat × Nat} {F : Nat → Nat → Option Nat} {I : (Nat → Nat → Int32)} {J' : (Nat → Nat → Int64)} (hX : xO X c0_rowsBehind "ChangeRows" 5 B g) (hR : x_R X = xrm (d + 2) 0 0) (hr : (x_meth X).sig.returnType = none) : ∀ (n : Nat) (J : (Nat → Nat → Int64)) (v0 : Nat) (v1 : Int32) (v2 : Int32) (v3 : Nat) (v4 : Int32), m0_rowsBehind_L16 N K F I n J v0 v1 v2 v3 v4 = some J' → xV X B 5 (xZ X B 0 0 (xq none (xP g B N K I J' F))) 0 0 (xP g B N K I J F) 16 [(0, .ref (B + v0)), (1, .int v1), (2, .int v2), (3, .ref (B + v3)), (4, .int v4)] [] := by
  intro n
  induction n with
  | zero =>
    intro J v0 v1 v2 v3 v4 h
    cases h
  | succ n ih =>
    intro J v0 v1 v2 v3 v4 h
    rw [m0_rowsBehind_L16] at h
    refine x_iload hX d0_rowsBehind_16 rfl ?_
    refine x_iload_n hX d0_rowsBehind_18 rfl rfl ?_
    refine x_icmp_ge (tgt := 82) hX d0_rowsBehind_19 (by decide) (fun hc => ?_) (fun hc => ?_)
    · rw [if_pos hc] at h
      cases h
      exact x_vret hX hr d0_rowsBehind_82 (fun H hP => ⟨rfl, hP⟩)
    · rw [if_neg hc] at h
      refine x_aload_n hX d0_rowsBehind_22 rfl rfl ?_
      obtain ⟨hg1, h⟩ := x_gd h
      obtain ⟨q2, eq2, h⟩ := x_bd h
      refine x_getF (j := 3) hX xc0 hg1.1 hg1.2 (by decide) rfl eq2 kF0_31 d0_rowsBehind_23 ?_
      refine x_iload hX d0_rowsBehind_26 rfl ?_
      obtain ⟨hg3, h⟩ := x_gd h
      obtain ⟨x4, eb5, h⟩ := x_bd h
      refine x_callV hX hR (c_m2_tableOf (l := x_l X) (d := d + 1) eb5) kX0_128 kN2_tableOf kE2_tableOf xc2.1 hg3.1 hg3.2 rfl rfl (Nat.le_of_ble_eq_true rfl) ⟨Nat.le_refl 0, Nat.le_refl 0⟩ d0_rowsBehind_28 (x_kki ?_)
      refine x_iload_n hX d0_rowsBehind_31 rfl rfl ?_
      refine x_icmp_ne (tgt := 76) hX d0_rowsBehind_32 (by decide) (fun hc => ?_) (fun hc => ?_)
      · rw [if_pos hc] at h
        obtain ⟨x6, ex6, h⟩ := x_le h
        refine x_iinc (j := 4) hX [(4, .int x6), (0, .ref (B + v0)), (1, .int v1), (2, .int v2), (3, .ref (B + v3))] d0_rowsBehind_76 rfl (by rw [ex6]; rfl) (by decide) rfl ?_
        refine x_goto (tgt := 16) hX d0_rowsBehind_79 (by decide) ?_
        refine x_sub [1, 2, 3, 4, 0] rfl ?_
        exact ih _ _ _ _ _ _ h
      · rw [if_neg (x_nn hc)] at h
        refine x_aload_n hX d0_rowsBehind_35 rfl rfl ?_
        refine x_aload_n hX d0_rowsBehind_36 rfl rfl ?_
        refine x_getF (j := 3) hX xc0 hg1.1 hg1.2 (by decide) rfl eq2 kF0_31 d0_rowsBehind_37 ?_
        refine x_iload hX d0_rowsBehind_40 rfl ?_
        obtain ⟨x7, eb8, h⟩ := x_bd h
        refine x_callV hX hR (c_m2_keyOf (l := x_l X) (d := d + 1) eb8) kX0_135 kN2_keyOf kE2_keyOf xc2.1 hg3.1 hg3.2 rfl rfl (Nat.le_of_ble_eq_true rfl) ⟨Nat.le_refl 0, Nat.le_refl 0⟩ d0_rowsBehind_42 (x_kki ?_)
        refine x_aload_n hX d0_rowsBehind_45 rfl rfl ?_
        refine x_getF (j := 3) hX xc0 hg1.1 hg1.2 (by decide) rfl eq2 kF0_31 d0_rowsBehind_46 ?_
        refine x_iload hX d0_rowsBehind_49 rfl ?_
        obtain ⟨x9, eb10, h⟩ := x_bd h
        refine x_callV hX hR (c_m2_sortOf (l := x_l X) (d := d + 1) eb10) kX0_132 kN2_sortOf kE2_sortOf xc2.1 hg3.1 hg3.2 rfl rfl (Nat.le_of_ble_eq_true rfl) ⟨Nat.le_refl 0, Nat.le_refl 0⟩ d0_rowsBehind_51 (x_kki ?_)
        refine x_iconst (v := 2) hX d0_rowsBehind_54 (by decide) ?_
        refine x_icmp_eq (tgt := 62) hX d0_rowsBehind_55 (by decide) (fun hc => ?_) (fun hc => ?_)
        · rw [if_pos hc] at h
          refine x_iconst (v := 0) hX d0_rowsBehind_62 (by decide) ?_
          exact t_m0_rowsBehind_B63 hX hR hr ih _ _ _ _ _ _ _ _ _ h
        · rw [if_neg hc] at h
          refine x_iconst (v := 1) hX d0_rowsBehind_58 (by decide) ?_
          refine x_goto (tgt := 63) hX d0_rowsBehind_59 (by decide) ?_
          exact t_m0_rowsBehind_B63 hX hR hr ih _ _ _ _ _ _ _ _ _ h
set_option maxRecDepth 100000 in
set_option maxHeartbeats 4000000 in
theorem c_m0_rowsBehind {l : Launch} {B d : Nat} {g : xG} {N : Nat} {K : Nat → Nat × Nat} {F : Nat → Nat → Option Nat} {I : (Nat → Nat → Int32)} {J : (Nat → Nat → Int64)} {a0 : Nat} {a1 : Int32} {a2 : Int32} {a3 : Nat} {J' : (Nat → Nat → Int64)} (h : m0_rowsBehind N K F I J a0 a1 a2 a3 = some J') : xC l g B (d + 2) 0 0 y0_rowsBehind c0_rowsBehind 5 none [.ref (B + a0), .int a1, .int a2, .ref (B + a3)] (xP g B N K I J F) (xq none (xP g B N K I J' F)) := by
  refine xC_of (by decide) (Nat.le_of_ble_eq_true rfl) (fun X hl hR hr _ hX => ?_)
  refine x_sub (L' := [(0, .ref (B + a0)), (1, .int a1), (2, .int a2), (3, .ref (B + a3))]) [0, 1, 2, 3] rfl ?_
  unfold m0_rowsBehind at h
  refine x_aload_n hX d0_rowsBehind_0 rfl rfl ?_
  refine x_aload_n hX d0_rowsBehind_1 rfl rfl ?_
  obtain ⟨hg1, h⟩ := x_gd h
  obtain ⟨q2, eq2, h⟩ := x_bd h
  refine x_getF (j := 0) hX xc0 hg1.1 hg1.2 (by decide) rfl eq2 kF0_11 d0_rowsBehind_2 ?_
  refine x_iload_n hX d0_rowsBehind_5 rfl rfl ?_
  obtain ⟨hg3, h⟩ := x_gd h
  obtain ⟨q4, eq4, h⟩ := x_bd h
  refine x_aald hX hg3.1 (x_kd hg3.2.1) rfl (x_in hg3.2.2) eq4 d0_rowsBehind_6 ?_
  obtain ⟨hg5, h⟩ := x_gd h
  obtain ⟨q6, eq6, h⟩ := x_bd h
  refine x_getF (j := 7) hX xc4 hg5.1 hg5.2 (by decide) rfl eq6 kF0_144 d0_rowsBehind_7 ?_
  obtain ⟨hg7, h⟩ := x_gd h
  obtain ⟨J8, eb9, h⟩ := x_bd h
  refine x_callV hX hR (c_m3_become (l := x_l X) (d := d + 0) eb9) kX0_149 kN3_become kE3_become xc3.1 hg7.1 hg7.2 rfl rfl (Nat.le_of_ble_eq_true rfl) ⟨Nat.le_refl 0, Nat.le_refl 0⟩ d0_rowsBehind_10 (x_kkv ?_)
  refine x_iconst (v := 0) hX d0_rowsBehind_13 (by decide) ?_
  refine x_istore hX [(4, .int (0 : Int32)), (0, .ref (B + a0)), (1, .int a1), (2, .int a2), (3, .ref (B + a3))] d0_rowsBehind_14 (by decide) rfl ?_
  refine x_sub [1, 2, 3, 4, 0] rfl ?_
  exact t_m0_rowsBehind_L16 hX hR hr _ _ _ _ _ _ _ h

def m0_net (N : Nat) (K : Nat → Nat × Nat) (F : Nat → Nat → Option Nat) (I : (Nat → Nat → Int32)) (J : (Nat → Nat → Int64)) (a0 : Nat) (a1 : Int32) (a2 : Int32) (a3 : Int32) : Option (Int32 × (Nat → Nat → Int32) × (Nat → Nat → Int64)) :=
  if a0 < N ∧ K a0 = (0, 0) then (xb (m0_isTable N K F I J a0 a1) fun x2 => if x2 = 0 then (some ((-2 : Int32), I, J)) else (xb (F a0 3) fun q4 => if q4 < N ∧ K q4 = (0, 2) then (xb (m0_isWithin N K F I J a3 (0 : Int32) (I q4 0)) fun x6 => if x6 = 0 then (some ((-2 : Int32), I, J)) else (xb (m0_isWithin N K F I J a2 (0 : Int32) a3) fun x8 => if ¬ x8 = 0 then (xb (F a0 7) fun q10 => xb (m0_rowsBehind N K F I J a0 a1 a2 q10) fun J11 => xb (F a0 8) fun q13 => xb (m0_rowsBehind N K F I J11 a0 a1 a3 q13) fun J14 => xb (F a0 5) fun q16 => if q16 < N ∧ K q16 = (0, 2) then (xb (m2_reset N K F I J14 q16) fun I18 => if q10 < N ∧ K q10 = (0, 3) then (xb (m3_differing N K F I18 J14 q10 q13) fun x21 => xb (m2_addSteps N K F I18 J14 q16 a1 q10 q13 x21) fun (I23, J24) => some ((I23 q16 0), I23, J24)) else none) else none) else (some ((-2 : Int32), I, J)))) else none)) else none
set_option maxRecDepth 100000 in
set_option maxHeartbeats 4000000 in
theorem c_m0_net {l : Launch} {B d : Nat} {g : xG} {N : Nat} {K : Nat → Nat × Nat} {F : Nat → Nat → Option Nat} {I : (Nat → Nat → Int32)} {J : (Nat → Nat → Int64)} {a0 : Nat} {a1 : Int32} {a2 : Int32} {a3 : Int32} {rv : Int32} {I' : (Nat → Nat → Int32)} {J' : (Nat → Nat → Int64)} (h : m0_net N K F I J a0 a1 a2 a3 = some (rv, I', J')) : xC l g B (d + 3) 0 0 y0_net c0_net 4 (some .int) [.ref (B + a0), .int a1, .int a2, .int a3] (xP g B N K I J F) (xq (some (.int rv)) (xP g B N K I' J' F)) := by
  refine xC_of (by decide) (Nat.le_of_ble_eq_true rfl) (fun X hl hR hr _ hX => ?_)
  refine x_sub (L' := [(0, .ref (B + a0)), (1, .int a1), (2, .int a2), (3, .int a3)]) [0, 1, 2, 3] rfl ?_
  unfold m0_net at h
  refine x_aload_n hX d0_net_0 rfl rfl ?_
  refine x_iload_n hX d0_net_1 rfl rfl ?_
  obtain ⟨hg1, h⟩ := x_gd h
  obtain ⟨x2, eb3, h⟩ := x_bd h
  refine x_callV hX hR (c_m0_isTable (l := x_l X) (d := d + 1) eb3) kX0_69 kN0_isTable kE0_isTable xc0.1 hg1.1 hg1.2 rfl rfl (Nat.le_of_ble_eq_true rfl) ⟨Nat.le_refl 0, Nat.le_refl 0⟩ d0_net_2 (x_kki ?_)
  refine x_if_eq (tgt := 32) hX d0_net_5 (by decide) (fun hc => ?_) (fun hc => ?_)
  · rw [if_pos hc] at h
    refine x_bipush (v := -2) hX d0_net_32 (by decide) ?_
    cases h
    exact x_iret hX hr d0_net_34 (fun H hP => ⟨rfl, hP⟩)
  · rw [if_neg hc] at h
    refine x_iload_n hX d0_net_8 rfl rfl ?_
    refine x_iconst (v := 0) hX d0_net_9 (by decide) ?_
    refine x_aload_n hX d0_net_10 rfl rfl ?_
    obtain ⟨q4, eq4, h⟩ := x_bd h
    refine x_getF (j := 3) hX xc0 hg1.1 hg1.2 (by decide) rfl eq4 kF0_31 d0_net_11 ?_
    obtain ⟨hg5, h⟩ := x_gd h
    refine x_getI (j := 0) hX xc2 hg5.1 hg5.2 (by decide) rfl kF0_123 d0_net_14 ?_
    obtain ⟨x6, eb7, h⟩ := x_bd h
    refine x_callS hX hR (c_m0_isWithin (l := x_l X) (d := d + 2) eb7) kX0_73 kS0_isWithin rfl rfl (Nat.le_of_ble_eq_true rfl) ⟨Nat.le_refl 0, Nat.le_refl 0⟩ d0_net_17 (x_kki ?_)
    refine x_if_eq (tgt := 32) hX d0_net_20 (by decide) (fun hc => ?_) (fun hc => ?_)
    · rw [if_pos hc] at h
      refine x_bipush (v := -2) hX d0_net_32 (by decide) ?_
      cases h
      exact x_iret hX hr d0_net_34 (fun H hP => ⟨rfl, hP⟩)
    · rw [if_neg hc] at h
      refine x_iload_n hX d0_net_23 rfl rfl ?_
      refine x_iconst (v := 0) hX d0_net_24 (by decide) ?_
      refine x_iload_n hX d0_net_25 rfl rfl ?_
      obtain ⟨x8, eb9, h⟩ := x_bd h
      refine x_callS hX hR (c_m0_isWithin (l := x_l X) (d := d + 2) eb9) kX0_73 kS0_isWithin rfl rfl (Nat.le_of_ble_eq_true rfl) ⟨Nat.le_refl 0, Nat.le_refl 0⟩ d0_net_26 (x_kki ?_)
      refine x_if_ne (tgt := 35) hX d0_net_29 (by decide) (fun hc => ?_) (fun hc => ?_)
      · rw [if_pos hc] at h
        refine x_aload_n hX d0_net_35 rfl rfl ?_
        refine x_iload_n hX d0_net_36 rfl rfl ?_
        refine x_iload_n hX d0_net_37 rfl rfl ?_
        refine x_aload_n hX d0_net_38 rfl rfl ?_
        obtain ⟨q10, eq10, h⟩ := x_bd h
        refine x_getF (j := 7) hX xc0 hg1.1 hg1.2 (by decide) rfl eq10 kF0_48 d0_net_39 ?_
        obtain ⟨J11, eb12, h⟩ := x_bd h
        refine x_callV hX hR (c_m0_rowsBehind (l := x_l X) (d := d + 0) eb12) kX0_153 kN0_rowsBehind kE0_rowsBehind xc0.1 hg1.1 hg1.2 rfl rfl (Nat.le_of_ble_eq_true rfl) ⟨Nat.le_refl 0, Nat.le_refl 0⟩ d0_net_42 (x_kkv ?_)
        refine x_aload_n hX d0_net_45 rfl rfl ?_
        refine x_iload_n hX d0_net_46 rfl rfl ?_
        refine x_iload_n hX d0_net_47 rfl rfl ?_
        refine x_aload_n hX d0_net_48 rfl rfl ?_
        obtain ⟨q13, eq13, h⟩ := x_bd h
        refine x_getF (j := 8) hX xc0 hg1.1 hg1.2 (by decide) rfl eq13 kF0_51 d0_net_49 ?_
        obtain ⟨J14, eb15, h⟩ := x_bd h
        refine x_callV hX hR (c_m0_rowsBehind (l := x_l X) (d := d + 0) eb15) kX0_153 kN0_rowsBehind kE0_rowsBehind xc0.1 hg1.1 hg1.2 rfl rfl (Nat.le_of_ble_eq_true rfl) ⟨Nat.le_refl 0, Nat.le_refl 0⟩ d0_net_52 (x_kkv ?_)
        refine x_aload_n hX d0_net_55 rfl rfl ?_
        obtain ⟨q16, eq16, h⟩ := x_bd h
        refine x_getF (j := 5) hX xc0 hg1.1 hg1.2 (by decide) rfl eq16 kF0_38 d0_net_56 ?_
        obtain ⟨hg17, h⟩ := x_gd h
        obtain ⟨I18, eb19, h⟩ := x_bd h
        refine x_callV hX hR (c_m2_reset (l := x_l X) (d := d + 2) eb19) kX0_61 kN2_reset kE2_reset xc2.1 hg17.1 hg17.2 rfl rfl (Nat.le_of_ble_eq_true rfl) ⟨Nat.le_refl 0, Nat.le_refl 0⟩ d0_net_59 (x_kkv ?_)
        refine x_aload_n hX d0_net_62 rfl rfl ?_
        refine x_getF (j := 5) hX xc0 hg1.1 hg1.2 (by decide) rfl eq16 kF0_38 d0_net_63 ?_
        refine x_iload_n hX d0_net_66 rfl rfl ?_
        refine x_aload_n hX d0_net_67 rfl rfl ?_
        refine x_getF (j := 7) hX xc0 hg1.1 hg1.2 (by decide) rfl eq10 kF0_48 d0_net_68 ?_
        refine x_aload_n hX d0_net_71 rfl rfl ?_
        refine x_getF (j := 8) hX xc0 hg1.1 hg1.2 (by decide) rfl eq13 kF0_51 d0_net_72 ?_
        refine x_aload_n hX d0_net_75 rfl rfl ?_
        refine x_getF (j := 7) hX xc0 hg1.1 hg1.2 (by decide) rfl eq10 kF0_48 d0_net_76 ?_
        refine x_aload_n hX d0_net_79 rfl rfl ?_
        refine x_getF (j := 8) hX xc0 hg1.1 hg1.2 (by decide) rfl eq13 kF0_51 d0_net_80 ?_
        obtain ⟨hg20, h⟩ := x_gd h
        obtain ⟨x21, eb22, h⟩ := x_bd h
        refine x_callV hX hR (c_m3_differing (l := x_l X) (d := d + 2) eb22) kX0_157 kN3_differing kE3_differing xc3.1 hg20.1 hg20.2 rfl rfl (Nat.le_of_ble_eq_true rfl) ⟨Nat.le_refl 0, Nat.le_refl 0⟩ d0_net_83 (x_kkl ?_)
        obtain ⟨⟨I23, J24⟩, eb25, h⟩ := x_bd h
        dsimp only at h
        refine x_callV hX hR (c_m2_addSteps (l := x_l X) (d := d + 1) eb25) kX0_161 kN2_addSteps kE2_addSteps xc2.1 hg17.1 hg17.2 rfl rfl (Nat.le_of_ble_eq_true rfl) ⟨Nat.le_refl 0, Nat.le_refl 0⟩ d0_net_86 (x_kkv ?_)
        refine x_aload_n hX d0_net_89 rfl rfl ?_
        refine x_getF (j := 5) hX xc0 hg1.1 hg1.2 (by decide) rfl eq16 kF0_38 d0_net_90 ?_
        refine x_getI (j := 0) hX xc2 hg17.1 hg17.2 (by decide) rfl kF0_123 d0_net_93 ?_
        cases h
        exact x_iret hX hr d0_net_96 (fun H hP => ⟨rfl, hP⟩)
      · rw [if_neg (x_nn hc)] at h
        refine x_bipush (v := -2) hX d0_net_32 (by decide) ?_
        cases h
        exact x_iret hX hr d0_net_34 (fun H hP => ⟨rfl, hP⟩)

def m0_copy (N : Nat) (K : Nat → Nat × Nat) (F : Nat → Nat → Option Nat) (I : (Nat → Nat → Int32)) (J : (Nat → Nat → Int64)) (a0 : Nat) (a1 : Int32) (a2 : Int32) : Option (Int32 × (Nat → Nat → Int64)) :=
  if a0 < N ∧ K a0 = (0, 0) then (xb (m0_isTable N K F I J a0 a1) fun x2 => if x2 = 0 then (some ((-2 : Int32), J)) else (xb (F a0 3) fun q4 => if q4 < N ∧ K q4 = (0, 2) then (xb (m0_isWithin N K F I J a2 (0 : Int32) (I q4 0)) fun x6 => if ¬ x6 = 0 then (xb (F a0 6) fun q8 => xb (m0_rowsBehind N K F I J a0 a1 a2 q8) fun J9 => if q8 < N ∧ K q8 = (0, 3) then (xb (m3_size N K F I J9 q8) fun x12 => some (x12, J9)) else none) else (some ((-2 : Int32), J))) else none)) else none
set_option maxRecDepth 100000 in
set_option maxHeartbeats 4000000 in
theorem c_m0_copy {l : Launch} {B d : Nat} {g : xG} {N : Nat} {K : Nat → Nat × Nat} {F : Nat → Nat → Option Nat} {I : (Nat → Nat → Int32)} {J : (Nat → Nat → Int64)} {a0 : Nat} {a1 : Int32} {a2 : Int32} {rv : Int32} {J' : (Nat → Nat → Int64)} (h : m0_copy N K F I J a0 a1 a2 = some (rv, J')) : xC l g B (d + 3) 0 0 y0_copy c0_copy 3 (some .int) [.ref (B + a0), .int a1, .int a2] (xP g B N K I J F) (xq (some (.int rv)) (xP g B N K I J' F)) := by
  refine xC_of (by decide) (Nat.le_of_ble_eq_true rfl) (fun X hl hR hr _ hX => ?_)
  refine x_sub (L' := [(0, .ref (B + a0)), (1, .int a1), (2, .int a2)]) [0, 1, 2] rfl ?_
  unfold m0_copy at h
  refine x_aload_n hX d0_copy_0 rfl rfl ?_
  refine x_iload_n hX d0_copy_1 rfl rfl ?_
  obtain ⟨hg1, h⟩ := x_gd h
  obtain ⟨x2, eb3, h⟩ := x_bd h
  refine x_callV hX hR (c_m0_isTable (l := x_l X) (d := d + 1) eb3) kX0_69 kN0_isTable kE0_isTable xc0.1 hg1.1 hg1.2 rfl rfl (Nat.le_of_ble_eq_true rfl) ⟨Nat.le_refl 0, Nat.le_refl 0⟩ d0_copy_2 (x_kki ?_)
  refine x_if_eq (tgt := 23) hX d0_copy_5 (by decide) (fun hc => ?_) (fun hc => ?_)
  · rw [if_pos hc] at h
    refine x_bipush (v := -2) hX d0_copy_23 (by decide) ?_
    cases h
    exact x_iret hX hr d0_copy_25 (fun H hP => ⟨rfl, hP⟩)
  · rw [if_neg hc] at h
    refine x_iload_n hX d0_copy_8 rfl rfl ?_
    refine x_iconst (v := 0) hX d0_copy_9 (by decide) ?_
    refine x_aload_n hX d0_copy_10 rfl rfl ?_
    obtain ⟨q4, eq4, h⟩ := x_bd h
    refine x_getF (j := 3) hX xc0 hg1.1 hg1.2 (by decide) rfl eq4 kF0_31 d0_copy_11 ?_
    obtain ⟨hg5, h⟩ := x_gd h
    refine x_getI (j := 0) hX xc2 hg5.1 hg5.2 (by decide) rfl kF0_123 d0_copy_14 ?_
    obtain ⟨x6, eb7, h⟩ := x_bd h
    refine x_callS hX hR (c_m0_isWithin (l := x_l X) (d := d + 2) eb7) kX0_73 kS0_isWithin rfl rfl (Nat.le_of_ble_eq_true rfl) ⟨Nat.le_refl 0, Nat.le_refl 0⟩ d0_copy_17 (x_kki ?_)
    refine x_if_ne (tgt := 26) hX d0_copy_20 (by decide) (fun hc => ?_) (fun hc => ?_)
    · rw [if_pos hc] at h
      refine x_aload_n hX d0_copy_26 rfl rfl ?_
      refine x_iload_n hX d0_copy_27 rfl rfl ?_
      refine x_iload_n hX d0_copy_28 rfl rfl ?_
      refine x_aload_n hX d0_copy_29 rfl rfl ?_
      obtain ⟨q8, eq8, h⟩ := x_bd h
      refine x_getF (j := 6) hX xc0 hg1.1 hg1.2 (by decide) rfl eq8 kF0_44 d0_copy_30 ?_
      obtain ⟨J9, eb10, h⟩ := x_bd h
      refine x_callV hX hR (c_m0_rowsBehind (l := x_l X) (d := d + 0) eb10) kX0_153 kN0_rowsBehind kE0_rowsBehind xc0.1 hg1.1 hg1.2 rfl rfl (Nat.le_of_ble_eq_true rfl) ⟨Nat.le_refl 0, Nat.le_refl 0⟩ d0_copy_33 (x_kkv ?_)
      refine x_aload_n hX d0_copy_36 rfl rfl ?_
      refine x_getF (j := 6) hX xc0 hg1.1 hg1.2 (by decide) rfl eq8 kF0_44 d0_copy_37 ?_
      obtain ⟨hg11, h⟩ := x_gd h
      obtain ⟨x12, eb13, h⟩ := x_bd h
      refine x_callV hX hR (c_m3_size (l := x_l X) (d := d + 1) eb13) kX0_165 kN3_size kE3_size xc3.1 hg11.1 hg11.2 rfl rfl (Nat.le_of_ble_eq_true rfl) ⟨Nat.le_refl 0, Nat.le_refl 0⟩ d0_copy_40 (x_kki ?_)
      cases h
      exact x_iret hX hr d0_copy_43 (fun H hP => ⟨rfl, hP⟩)
    · rw [if_neg (x_nn hc)] at h
      refine x_bipush (v := -2) hX d0_copy_23 (by decide) ?_
      cases h
      exact x_iret hX hr d0_copy_25 (fun H hP => ⟨rfl, hP⟩)

def m0_brokenBy (N : Nat) (K : Nat → Nat × Nat) (F : Nat → Nat → Option Nat) (I : (Nat → Nat → Int32)) (J : (Nat → Nat → Int64)) (a0 : Nat) (a1 : Int32) (a2 : Int32) (a3 : Int64) : Option (Int32) :=
  if ¬ a1 = 0 then (if a0 < N ∧ K a0 = (0, 0) then (xb (F a0 6) fun q2 => if q2 < N ∧ K q2 = (0, 3) then (xb (m3_holds N K F I J q2 a2) fun x4 => if ¬ x4 = 0 then (xb (F q2 1) fun q6 => if q6 < N ∧ (K q6).1 = 2 ∧ xinb a2 (K q6).2 then (if ¬ (J q6 (a2.toNatClampNeg)) = a3 then (some (3 : Int32)) else (some (0 : Int32))) else none) else (some (2 : Int32))) else none) else none) else (if a0 < N ∧ K a0 = (0, 0) then (xb (F a0 6) fun q9 => if q9 < N ∧ K q9 = (0, 3) then (xb (m3_holds N K F I J q9 a2) fun x11 => if x11 = 0 then (some (0 : Int32)) else (some (1 : Int32))) else none) else none)
set_option maxRecDepth 100000 in
set_option maxHeartbeats 4000000 in
theorem c_m0_brokenBy {l : Launch} {B d : Nat} {g : xG} {N : Nat} {K : Nat → Nat × Nat} {F : Nat → Nat → Option Nat} {I : (Nat → Nat → Int32)} {J : (Nat → Nat → Int64)} {a0 : Nat} {a1 : Int32} {a2 : Int32} {a3 : Int64} {rv : Int32} (h : m0_brokenBy N K F I J a0 a1 a2 a3 = some rv) : xC l g B (d + 1) 0 0 y0_brokenBy c0_brokenBy 5 (some .int) [.ref (B + a0), .int a1, .int a2, .long a3] (xP g B N K I J F) (xq (some (.int rv)) (xP g B N K I J F)) := by
  refine xC_of (by decide) (Nat.le_of_ble_eq_true rfl) (fun X hl hR hr _ hX => ?_)
  refine x_sub (L' := [(0, .ref (B + a0)), (1, .int a1), (2, .int a2), (3, .long a3)]) [0, 1, 2, 3] rfl ?_
  unfold m0_brokenBy at h
  refine x_iload_n hX d0_brokenBy_0 rfl rfl ?_
  refine x_if_ne (tgt := 21) hX d0_brokenBy_1 (by decide) (fun hc => ?_) (fun hc => ?_)
  · rw [if_pos hc] at h
    refine x_aload_n hX d0_brokenBy_21 rfl rfl ?_
    obtain ⟨hg1, h⟩ := x_gd h
    obtain ⟨q2, eq2, h⟩ := x_bd h
    refine x_getF (j := 6) hX xc0 hg1.1 hg1.2 (by decide) rfl eq2 kF0_44 d0_brokenBy_22 ?_
    refine x_iload_n hX d0_brokenBy_25 rfl rfl ?_
    obtain ⟨hg3, h⟩ := x_gd h
    obtain ⟨x4, eb5, h⟩ := x_bd h
    refine x_callV hX hR (c_m3_holds (l := x_l X) (d := d + 0) eb5) kX0_178 kN3_holds kE3_holds xc3.1 hg3.1 hg3.2 rfl rfl (Nat.le_of_ble_eq_true rfl) ⟨Nat.le_refl 0, Nat.le_refl 0⟩ d0_brokenBy_26 (x_kki ?_)
    refine x_if_ne (tgt := 34) hX d0_brokenBy_29 (by decide) (fun hc => ?_) (fun hc => ?_)
    · rw [if_pos hc] at h
      refine x_aload_n hX d0_brokenBy_34 rfl rfl ?_
      refine x_getF (j := 6) hX xc0 hg1.1 hg1.2 (by decide) rfl eq2 kF0_44 d0_brokenBy_35 ?_
      obtain ⟨q6, eq6, h⟩ := x_bd h
      refine x_getF (j := 1) hX xc3 hg3.1 hg3.2 (by decide) rfl eq6 kF0_181 d0_brokenBy_38 ?_
      refine x_iload_n hX d0_brokenBy_41 rfl rfl ?_
      obtain ⟨hg7, h⟩ := x_gd h
      refine x_lald hX hg7.1 (x_kd hg7.2.1) (x_in hg7.2.2) d0_brokenBy_42 ?_
      refine x_lload_n hX d0_brokenBy_43 rfl rfl ?_
      refine x_lif_ne (tgt := 52) hX d0_brokenBy_44 d0_brokenBy_45 (by decide) (fun hc => ?_) (fun hc => ?_)
      · rw [if_pos hc] at h
        refine x_iconst (v := 3) hX d0_brokenBy_52 (by decide) ?_
        cases h
        exact x_iret hX hr d0_brokenBy_53 (fun H hP => ⟨rfl, hP⟩)
      · rw [if_neg (x_nn hc)] at h
        refine x_iconst (v := 0) hX d0_brokenBy_48 (by decide) ?_
        refine x_goto (tgt := 53) hX d0_brokenBy_49 (by decide) ?_
        cases h
        exact x_iret hX hr d0_brokenBy_53 (fun H hP => ⟨rfl, hP⟩)
    · rw [if_neg (x_nn hc)] at h
      refine x_iconst (v := 2) hX d0_brokenBy_32 (by decide) ?_
      cases h
      exact x_iret hX hr d0_brokenBy_33 (fun H hP => ⟨rfl, hP⟩)
  · rw [if_neg (x_nn hc)] at h
    refine x_aload_n hX d0_brokenBy_4 rfl rfl ?_
    obtain ⟨hg8, h⟩ := x_gd h
    obtain ⟨q9, eq9, h⟩ := x_bd h
    refine x_getF (j := 6) hX xc0 hg8.1 hg8.2 (by decide) rfl eq9 kF0_44 d0_brokenBy_5 ?_
    refine x_iload_n hX d0_brokenBy_8 rfl rfl ?_
    obtain ⟨hg10, h⟩ := x_gd h
    obtain ⟨x11, eb12, h⟩ := x_bd h
    refine x_callV hX hR (c_m3_holds (l := x_l X) (d := d + 0) eb12) kX0_178 kN3_holds kE3_holds xc3.1 hg10.1 hg10.2 rfl rfl (Nat.le_of_ble_eq_true rfl) ⟨Nat.le_refl 0, Nat.le_refl 0⟩ d0_brokenBy_9 (x_kki ?_)
    refine x_if_eq (tgt := 19) hX d0_brokenBy_12 (by decide) (fun hc => ?_) (fun hc => ?_)
    · rw [if_pos hc] at h
      refine x_iconst (v := 0) hX d0_brokenBy_19 (by decide) ?_
      cases h
      exact x_iret hX hr d0_brokenBy_20 (fun H hP => ⟨rfl, hP⟩)
    · rw [if_neg hc] at h
      refine x_iconst (v := 1) hX d0_brokenBy_15 (by decide) ?_
      refine x_goto (tgt := 20) hX d0_brokenBy_16 (by decide) ?_
      cases h
      exact x_iret hX hr d0_brokenBy_20 (fun H hP => ⟨rfl, hP⟩)

def m0_take (N : Nat) (K : Nat → Nat × Nat) (F : Nat → Nat → Option Nat) (I : (Nat → Nat → Int32)) (J : (Nat → Nat → Int64)) (a0 : Nat) (a1 : Int32) (a2 : Int32) (a3 : Int64) (a4 : Int64) : Option (Int32 × (Nat → Nat → Int64)) :=
  xb (m0_isWithin N K F I J a1 (0 : Int32) (2 : Int32)) fun x1 => if x1 = 0 then (some ((-2 : Int32), J)) else (xb (m0_isKey N K F I J a2) fun x3 => if ¬ x3 = 0 then (if a0 < N ∧ K a0 = (0, 0) then (xb (m0_brokenBy N K F I J a0 a1 a2 a3) fun x6 => if ¬ x6 = 0 then (some (x6, J)) else (xb (F a0 6) fun q8 => if a1 = (2 : Int32) then (if q8 < N ∧ K q8 = (0, 3) then (xb (m3_write N K F I J q8 a2 (0 : Int32) a4) fun J10 => some (x6, J10)) else none) else (if q8 < N ∧ K q8 = (0, 3) then (xb (m3_write N K F I J q8 a2 (1 : Int32) a4) fun J13 => some (x6, J13)) else none))) else none) else (some ((-2 : Int32), J)))
set_option maxRecDepth 100000 in
set_option maxHeartbeats 4000000 in
theorem c_m0_take {l : Launch} {B d : Nat} {g : xG} {N : Nat} {K : Nat → Nat × Nat} {F : Nat → Nat → Option Nat} {I : (Nat → Nat → Int32)} {J : (Nat → Nat → Int64)} {a0 : Nat} {a1 : Int32} {a2 : Int32} {a3 : Int64} {a4 : Int64} {rv : Int32} {J' : (Nat → Nat → Int64)} (h : m0_take N K F I J a0 a1 a2 a3 a4 = some (rv, J')) : xC l g B (d + 2) 0 0 y0_take c0_take 8 (some .int) [.ref (B + a0), .int a1, .int a2, .long a3, .long a4] (xP g B N K I J F) (xq (some (.int rv)) (xP g B N K I J' F)) := by
  refine xC_of (by decide) (Nat.le_of_ble_eq_true rfl) (fun X hl hR hr _ hX => ?_)
  refine x_sub (L' := [(0, .ref (B + a0)), (1, .int a1), (2, .int a2), (3, .long a3), (5, .long a4)]) [0, 1, 2, 3, 4] rfl ?_
  unfold m0_take at h
  refine x_iload_n hX d0_take_0 rfl rfl ?_
  refine x_iconst (v := 0) hX d0_take_1 (by decide) ?_
  refine x_iconst (v := 2) hX d0_take_2 (by decide) ?_
  obtain ⟨x1, eb2, h⟩ := x_bd h
  refine x_callS hX hR (c_m0_isWithin (l := x_l X) (d := d + 1) eb2) kX0_73 kS0_isWithin rfl rfl (Nat.le_of_ble_eq_true rfl) ⟨Nat.le_refl 0, Nat.le_refl 0⟩ d0_take_3 (x_kki ?_)
  refine x_if_eq (tgt := 16) hX d0_take_6 (by decide) (fun hc => ?_) (fun hc => ?_)
  · rw [if_pos hc] at h
    refine x_bipush (v := -2) hX d0_take_16 (by decide) ?_
    cases h
    exact x_iret hX hr d0_take_18 (fun H hP => ⟨rfl, hP⟩)
  · rw [if_neg hc] at h
    refine x_iload_n hX d0_take_9 rfl rfl ?_
    obtain ⟨x3, eb4, h⟩ := x_bd h
    refine x_callS hX hR (c_m0_isKey (l := x_l X) (d := d + 0) eb4) kX0_80 kS0_isKey rfl rfl (Nat.le_of_ble_eq_true rfl) ⟨Nat.le_refl 0, Nat.le_refl 0⟩ d0_take_10 (x_kki ?_)
    refine x_if_ne (tgt := 19) hX d0_take_13 (by decide) (fun hc => ?_) (fun hc => ?_)
    · rw [if_pos hc] at h
      refine x_aload_n hX d0_take_19 rfl rfl ?_
      refine x_iload_n hX d0_take_20 rfl rfl ?_
      refine x_iload_n hX d0_take_21 rfl rfl ?_
      refine x_lload_n hX d0_take_22 rfl rfl ?_
      obtain ⟨hg5, h⟩ := x_gd h
      obtain ⟨x6, eb7, h⟩ := x_bd h
      refine x_callV hX hR (c_m0_brokenBy (l := x_l X) (d := d + 0) eb7) kX0_167 kN0_brokenBy kE0_brokenBy xc0.1 hg5.1 hg5.2 rfl rfl (Nat.le_of_ble_eq_true rfl) ⟨Nat.le_refl 0, Nat.le_refl 0⟩ d0_take_23 (x_kki ?_)
      refine x_istore hX [(7, .int x6), (0, .ref (B + a0)), (1, .int a1), (2, .int a2), (3, .long a3), (5, .long a4)] d0_take_26 (by decide) rfl ?_
      refine x_iload hX d0_take_28 rfl ?_
      refine x_if_ne (tgt := 53) hX d0_take_30 (by decide) (fun hc => ?_) (fun hc => ?_)
      · rw [if_pos hc] at h
        refine x_iload hX d0_take_53 rfl ?_
        cases h
        exact x_iret hX hr d0_take_55 (fun H hP => ⟨rfl, hP⟩)
      · rw [if_neg (x_nn hc)] at h
        refine x_aload_n hX d0_take_33 rfl rfl ?_
        obtain ⟨q8, eq8, h⟩ := x_bd h
        refine x_getF (j := 6) hX xc0 hg5.1 hg5.2 (by decide) rfl eq8 kF0_44 d0_take_34 ?_
        refine x_iload_n hX d0_take_37 rfl rfl ?_
        refine x_iload_n hX d0_take_38 rfl rfl ?_
        refine x_iconst (v := 2) hX d0_take_39 (by decide) ?_
        refine x_icmp_eq (tgt := 47) hX d0_take_40 (by decide) (fun hc => ?_) (fun hc => ?_)
        · rw [if_pos hc] at h
          refine x_iconst (v := 0) hX d0_take_47 (by decide) ?_
          refine x_lload hX d0_take_48 rfl ?_
          obtain ⟨hg9, h⟩ := x_gd h
          obtain ⟨J10, eb11, h⟩ := x_bd h
          refine x_callV hX hR (c_m3_write (l := x_l X) (d := d + 0) eb11) kX0_115 kN3_write kE3_write xc3.1 hg9.1 hg9.2 rfl rfl (Nat.le_of_ble_eq_true rfl) ⟨Nat.le_refl 0, Nat.le_refl 0⟩ d0_take_50 (x_kkv ?_)
          refine x_iload hX d0_take_53 rfl ?_
          cases h
          exact x_iret hX hr d0_take_55 (fun H hP => ⟨rfl, hP⟩)
        · rw [if_neg hc] at h
          refine x_iconst (v := 1) hX d0_take_43 (by decide) ?_
          refine x_goto (tgt := 48) hX d0_take_44 (by decide) ?_
          refine x_lload hX d0_take_48 rfl ?_
          obtain ⟨hg12, h⟩ := x_gd h
          obtain ⟨J13, eb14, h⟩ := x_bd h
          refine x_callV hX hR (c_m3_write (l := x_l X) (d := d + 0) eb14) kX0_115 kN3_write kE3_write xc3.1 hg12.1 hg12.2 rfl rfl (Nat.le_of_ble_eq_true rfl) ⟨Nat.le_refl 0, Nat.le_refl 0⟩ d0_take_50 (x_kkv ?_)
          refine x_iload hX d0_take_53 rfl ?_
          cases h
          exact x_iret hX hr d0_take_55 (fun H hP => ⟨rfl, hP⟩)
    · rw [if_neg (x_nn hc)] at h
      refine x_bipush (v := -2) hX d0_take_16 (by decide) ?_
      cases h
      exact x_iret hX hr d0_take_18 (fun H hP => ⟨rfl, hP⟩)

def m0_same (N : Nat) (K : Nat → Nat × Nat) (F : Nat → Nat → Option Nat) (I : (Nat → Nat → Int32)) (J : (Nat → Nat → Int64)) (a0 : Nat) (a1 : Int32) : Option (Int32) :=
  if a0 < N ∧ K a0 = (0, 0) then (xb (m0_isTable N K F I J a0 a1) fun x2 => if ¬ x2 = 0 then (xb (F a0 6) fun q4 => xb (F a0 0) fun q5 => if q5 < N ∧ (K q5).1 = 4 ∧ xinb a1 (K q5).2 then (xb (F q5 (a1.toNatClampNeg)) fun q7 => if q7 < N ∧ K q7 = (0, 4) then (xb (F q7 5) fun q9 => if q4 < N ∧ K q4 = (0, 3) then (xb (m3_differing N K F I J q4 q9) fun x11 => if ¬ x11 = (0 : Int64) then (some (0 : Int32)) else (some (1 : Int32))) else none) else none) else none) else (some (-2 : Int32))) else none
set_option maxRecDepth 100000 in
set_option maxHeartbeats 4000000 in
theorem c_m0_same {l : Launch} {B d : Nat} {g : xG} {N : Nat} {K : Nat → Nat × Nat} {F : Nat → Nat → Option Nat} {I : (Nat → Nat → Int32)} {J : (Nat → Nat → Int64)} {a0 : Nat} {a1 : Int32} {rv : Int32} (h : m0_same N K F I J a0 a1 = some rv) : xC l g B (d + 2) 0 0 y0_same c0_same 2 (some .int) [.ref (B + a0), .int a1] (xP g B N K I J F) (xq (some (.int rv)) (xP g B N K I J F)) := by
  refine xC_of (by decide) (Nat.le_of_ble_eq_true rfl) (fun X hl hR hr _ hX => ?_)
  refine x_sub (L' := [(0, .ref (B + a0)), (1, .int a1)]) [0, 1] rfl ?_
  unfold m0_same at h
  refine x_aload_n hX d0_same_0 rfl rfl ?_
  refine x_iload_n hX d0_same_1 rfl rfl ?_
  obtain ⟨hg1, h⟩ := x_gd h
  obtain ⟨x2, eb3, h⟩ := x_bd h
  refine x_callV hX hR (c_m0_isTable (l := x_l X) (d := d + 0) eb3) kX0_69 kN0_isTable kE0_isTable xc0.1 hg1.1 hg1.2 rfl rfl (Nat.le_of_ble_eq_true rfl) ⟨Nat.le_refl 0, Nat.le_refl 0⟩ d0_same_2 (x_kki ?_)
  refine x_if_ne (tgt := 11) hX d0_same_5 (by decide) (fun hc => ?_) (fun hc => ?_)
  · rw [if_pos hc] at h
    refine x_aload_n hX d0_same_11 rfl rfl ?_
    obtain ⟨q4, eq4, h⟩ := x_bd h
    refine x_getF (j := 6) hX xc0 hg1.1 hg1.2 (by decide) rfl eq4 kF0_44 d0_same_12 ?_
    refine x_aload_n hX d0_same_15 rfl rfl ?_
    obtain ⟨q5, eq5, h⟩ := x_bd h
    refine x_getF (j := 0) hX xc0 hg1.1 hg1.2 (by decide) rfl eq5 kF0_11 d0_same_16 ?_
    refine x_iload_n hX d0_same_19 rfl rfl ?_
    obtain ⟨hg6, h⟩ := x_gd h
    obtain ⟨q7, eq7, h⟩ := x_bd h
    refine x_aald hX hg6.1 (x_kd hg6.2.1) rfl (x_in hg6.2.2) eq7 d0_same_20 ?_
    obtain ⟨hg8, h⟩ := x_gd h
    obtain ⟨q9, eq9, h⟩ := x_bd h
    refine x_getF (j := 5) hX xc4 hg8.1 hg8.2 (by decide) rfl eq9 kF0_147 d0_same_21 ?_
    obtain ⟨hg10, h⟩ := x_gd h
    obtain ⟨x11, eb12, h⟩ := x_bd h
    refine x_callV hX hR (c_m3_differing (l := x_l X) (d := d + 1) eb12) kX0_157 kN3_differing kE3_differing xc3.1 hg10.1 hg10.2 rfl rfl (Nat.le_of_ble_eq_true rfl) ⟨Nat.le_refl 0, Nat.le_refl 0⟩ d0_same_24 (x_kkl ?_)
    refine x_lconst (v := 0) hX d0_same_27 (by decide) ?_
    refine x_lif_ne (tgt := 36) hX d0_same_28 d0_same_29 (by decide) (fun hc => ?_) (fun hc => ?_)
    · rw [if_pos hc] at h
      refine x_iconst (v := 0) hX d0_same_36 (by decide) ?_
      cases h
      exact x_iret hX hr d0_same_37 (fun H hP => ⟨rfl, hP⟩)
    · rw [if_neg (x_nn hc)] at h
      refine x_iconst (v := 1) hX d0_same_32 (by decide) ?_
      refine x_goto (tgt := 37) hX d0_same_33 (by decide) ?_
      cases h
      exact x_iret hX hr d0_same_37 (fun H hP => ⟨rfl, hP⟩)
  · rw [if_neg (x_nn hc)] at h
    refine x_bipush (v := -2) hX d0_same_8 (by decide) ?_
    cases h
    exact x_iret hX hr d0_same_10 (fun H hP => ⟨rfl, hP⟩)

def m0_isTableOrCopy (N : Nat) (K : Nat → Nat × Nat) (F : Nat → Nat → Option Nat) (I : (Nat → Nat → Int32)) (J : (Nat → Nat → Int64)) (a0 : Nat) (a1 : Int32) : Option (Int32) :=
  if a1 = (-1 : Int32) then (some (1 : Int32)) else (if a0 < N ∧ K a0 = (0, 0) then (xb (m0_isTable N K F I J a0 a1) fun x2 => if x2 = 0 then (some (0 : Int32)) else (some (1 : Int32))) else none)
set_option maxRecDepth 100000 in
set_option maxHeartbeats 4000000 in
theorem c_m0_isTableOrCopy {l : Launch} {B d : Nat} {g : xG} {N : Nat} {K : Nat → Nat × Nat} {F : Nat → Nat → Option Nat} {I : (Nat → Nat → Int32)} {J : (Nat → Nat → Int64)} {a0 : Nat} {a1 : Int32} {rv : Int32} (h : m0_isTableOrCopy N K F I J a0 a1 = some rv) : xC l g B (d + 2) 0 0 y0_isTableOrCopy c0_isTableOrCopy 2 (some .boolean) [.ref (B + a0), .int a1] (xP g B N K I J F) (xq (some (.int rv)) (xP g B N K I J F)) := by
  refine xC_of (by decide) (Nat.le_of_ble_eq_true rfl) (fun X hl hR hr _ hX => ?_)
  refine x_sub (L' := [(0, .ref (B + a0)), (1, .int a1)]) [0, 1] rfl ?_
  unfold m0_isTableOrCopy at h
  refine x_iload_n hX d0_isTableOrCopy_0 rfl rfl ?_
  refine x_iconst (v := -1) hX d0_isTableOrCopy_1 (by decide) ?_
  refine x_icmp_eq (tgt := 13) hX d0_isTableOrCopy_2 (by decide) (fun hc => ?_) (fun hc => ?_)
  · rw [if_pos hc] at h
    refine x_iconst (v := 1) hX d0_isTableOrCopy_13 (by decide) ?_
    refine x_goto (tgt := 18) hX d0_isTableOrCopy_14 (by decide) ?_
    cases h
    exact x_zret hX hr rfl d0_isTableOrCopy_18 (fun H hP => ⟨rfl, hP⟩)
  · rw [if_neg hc] at h
    refine x_aload_n hX d0_isTableOrCopy_5 rfl rfl ?_
    refine x_iload_n hX d0_isTableOrCopy_6 rfl rfl ?_
    obtain ⟨hg1, h⟩ := x_gd h
    obtain ⟨x2, eb3, h⟩ := x_bd h
    refine x_callV hX hR (c_m0_isTable (l := x_l X) (d := d + 0) eb3) kX0_69 kN0_isTable kE0_isTable xc0.1 hg1.1 hg1.2 rfl rfl (Nat.le_of_ble_eq_true rfl) ⟨Nat.le_refl 0, Nat.le_refl 0⟩ d0_isTableOrCopy_7 (x_kki ?_)
    refine x_if_eq (tgt := 17) hX d0_isTableOrCopy_10 (by decide) (fun hc => ?_) (fun hc => ?_)
    · rw [if_pos hc] at h
      refine x_iconst (v := 0) hX d0_isTableOrCopy_17 (by decide) ?_
      cases h
      exact x_zret hX hr rfl d0_isTableOrCopy_18 (fun H hP => ⟨rfl, hP⟩)
    · rw [if_neg hc] at h
      refine x_iconst (v := 1) hX d0_isTableOrCopy_13 (by decide) ?_
      refine x_goto (tgt := 18) hX d0_isTableOrCopy_14 (by decide) ?_
      cases h
      exact x_zret hX hr rfl d0_isTableOrCopy_18 (fun H hP => ⟨rfl, hP⟩)

def m0_rowsOf (N : Nat) (K : Nat → Nat × Nat) (F : Nat → Nat → Option Nat) (I : (Nat → Nat → Int32)) (J : (Nat → Nat → Int64)) (a0 : Nat) (a1 : Int32) : Option (Nat) :=
  if ¬ a1 = (-1 : Int32) then (if a0 < N ∧ K a0 = (0, 0) then (xb (F a0 0) fun q2 => if q2 < N ∧ (K q2).1 = 4 ∧ xinb a1 (K q2).2 then (xb (F q2 (a1.toNatClampNeg)) fun q4 => if q4 < N ∧ K q4 = (0, 4) then (xb (F q4 5) fun q6 => some q6) else none) else none) else none) else (if a0 < N ∧ K a0 = (0, 0) then (xb (F a0 6) fun q8 => some q8) else none)
set_option maxRecDepth 100000 in
set_option maxHeartbeats 4000000 in
theorem c_m0_rowsOf {l : Launch} {B d : Nat} {g : xG} {N : Nat} {K : Nat → Nat × Nat} {F : Nat → Nat → Option Nat} {I : (Nat → Nat → Int32)} {J : (Nat → Nat → Int64)} {a0 : Nat} {a1 : Int32} {rv : Nat} (h : m0_rowsOf N K F I J a0 a1 = some rv) : xC l g B (d + 0) 0 0 y0_rowsOf c0_rowsOf 2 (some (.object "ChangeRows$Rows")) [.ref (B + a0), .int a1] (xP g B N K I J F) (xq (some (.ref (B + rv))) (xP g B N K I J F)) := by
  refine xC_of (by decide) (Nat.le_of_ble_eq_true rfl) (fun X hl hR hr _ hX => ?_)
  refine x_sub (L' := [(0, .ref (B + a0)), (1, .int a1)]) [0, 1] rfl ?_
  unfold m0_rowsOf at h
  refine x_iload_n hX d0_rowsOf_0 rfl rfl ?_
  refine x_iconst (v := -1) hX d0_rowsOf_1 (by decide) ?_
  refine x_icmp_ne (tgt := 12) hX d0_rowsOf_2 (by decide) (fun hc => ?_) (fun hc => ?_)
  · rw [if_pos hc] at h
    refine x_aload_n hX d0_rowsOf_12 rfl rfl ?_
    obtain ⟨hg1, h⟩ := x_gd h
    obtain ⟨q2, eq2, h⟩ := x_bd h
    refine x_getF (j := 0) hX xc0 hg1.1 hg1.2 (by decide) rfl eq2 kF0_11 d0_rowsOf_13 ?_
    refine x_iload_n hX d0_rowsOf_16 rfl rfl ?_
    obtain ⟨hg3, h⟩ := x_gd h
    obtain ⟨q4, eq4, h⟩ := x_bd h
    refine x_aald hX hg3.1 (x_kd hg3.2.1) rfl (x_in hg3.2.2) eq4 d0_rowsOf_17 ?_
    obtain ⟨hg5, h⟩ := x_gd h
    obtain ⟨q6, eq6, h⟩ := x_bd h
    refine x_getF (j := 5) hX xc4 hg5.1 hg5.2 (by decide) rfl eq6 kF0_147 d0_rowsOf_18 ?_
    cases h
    exact x_aret hX hr (Or.inl ⟨_, rfl⟩) (Or.inr ⟨_, rfl⟩) d0_rowsOf_21 (fun H hP => ⟨rfl, hP⟩)
  · rw [if_neg (x_nn hc)] at h
    refine x_aload_n hX d0_rowsOf_5 rfl rfl ?_
    obtain ⟨hg7, h⟩ := x_gd h
    obtain ⟨q8, eq8, h⟩ := x_bd h
    refine x_getF (j := 6) hX xc0 hg7.1 hg7.2 (by decide) rfl eq8 kF0_44 d0_rowsOf_6 ?_
    refine x_goto (tgt := 21) hX d0_rowsOf_9 (by decide) ?_
    cases h
    exact x_aret hX hr (Or.inl ⟨_, rfl⟩) (Or.inr ⟨_, rfl⟩) d0_rowsOf_21 (fun H hP => ⟨rfl, hP⟩)

def m0_has (N : Nat) (K : Nat → Nat × Nat) (F : Nat → Nat → Option Nat) (I : (Nat → Nat → Int32)) (J : (Nat → Nat → Int64)) (a0 : Nat) (a1 : Int32) (a2 : Int32) : Option (Int32) :=
  if a0 < N ∧ K a0 = (0, 0) then (xb (m0_isTableOrCopy N K F I J a0 a1) fun x2 => if x2 = 0 then (some (-2 : Int32)) else (xb (m0_isKey N K F I J a2) fun x4 => if ¬ x4 = 0 then (xb (m0_rowsOf N K F I J a0 a1) fun q6 => if q6 < N ∧ K q6 = (0, 3) then (xb (m3_holds N K F I J q6 a2) fun x9 => if x9 = 0 then (some (0 : Int32)) else (some (1 : Int32))) else none) else (some (-2 : Int32)))) else none
set_option maxRecDepth 100000 in
set_option maxHeartbeats 4000000 in
theorem c_m0_has {l : Launch} {B d : Nat} {g : xG} {N : Nat} {K : Nat → Nat × Nat} {F : Nat → Nat → Option Nat} {I : (Nat → Nat → Int32)} {J : (Nat → Nat → Int64)} {a0 : Nat} {a1 : Int32} {a2 : Int32} {rv : Int32} (h : m0_has N K F I J a0 a1 a2 = some rv) : xC l g B (d + 3) 0 0 y0_has c0_has 3 (some .int) [.ref (B + a0), .int a1, .int a2] (xP g B N K I J F) (xq (some (.int rv)) (xP g B N K I J F)) := by
  refine xC_of (by decide) (Nat.le_of_ble_eq_true rfl) (fun X hl hR hr _ hX => ?_)
  refine x_sub (L' := [(0, .ref (B + a0)), (1, .int a1), (2, .int a2)]) [0, 1, 2] rfl ?_
  unfold m0_has at h
  refine x_aload_n hX d0_has_0 rfl rfl ?_
  refine x_iload_n hX d0_has_1 rfl rfl ?_
  obtain ⟨hg1, h⟩ := x_gd h
  obtain ⟨x2, eb3, h⟩ := x_bd h
  refine x_callV hX hR (c_m0_isTableOrCopy (l := x_l X) (d := d + 0) eb3) kX0_171 kN0_isTableOrCopy kE0_isTableOrCopy xc0.1 hg1.1 hg1.2 rfl rfl (Nat.le_of_ble_eq_true rfl) ⟨Nat.le_refl 0, Nat.le_refl 0⟩ d0_has_2 (x_kki ?_)
  refine x_if_eq (tgt := 15) hX d0_has_5 (by decide) (fun hc => ?_) (fun hc => ?_)
  · rw [if_pos hc] at h
    refine x_bipush (v := -2) hX d0_has_15 (by decide) ?_
    cases h
    exact x_iret hX hr d0_has_17 (fun H hP => ⟨rfl, hP⟩)
  · rw [if_neg hc] at h
    refine x_iload_n hX d0_has_8 rfl rfl ?_
    obtain ⟨x4, eb5, h⟩ := x_bd h
    refine x_callS hX hR (c_m0_isKey (l := x_l X) (d := d + 1) eb5) kX0_80 kS0_isKey rfl rfl (Nat.le_of_ble_eq_true rfl) ⟨Nat.le_refl 0, Nat.le_refl 0⟩ d0_has_9 (x_kki ?_)
    refine x_if_ne (tgt := 18) hX d0_has_12 (by decide) (fun hc => ?_) (fun hc => ?_)
    · rw [if_pos hc] at h
      refine x_aload_n hX d0_has_18 rfl rfl ?_
      refine x_iload_n hX d0_has_19 rfl rfl ?_
      obtain ⟨q6, eb7, h⟩ := x_bd h
      refine x_callV hX hR (c_m0_rowsOf (l := x_l X) (d := d + 2) eb7) kX0_174 kN0_rowsOf kE0_rowsOf xc0.1 hg1.1 hg1.2 rfl rfl (Nat.le_of_ble_eq_true rfl) ⟨Nat.le_refl 0, Nat.le_refl 0⟩ d0_has_20 (x_kkr ?_)
      refine x_iload_n hX d0_has_23 rfl rfl ?_
      obtain ⟨hg8, h⟩ := x_gd h
      obtain ⟨x9, eb10, h⟩ := x_bd h
      refine x_callV hX hR (c_m3_holds (l := x_l X) (d := d + 2) eb10) kX0_178 kN3_holds kE3_holds xc3.1 hg8.1 hg8.2 rfl rfl (Nat.le_of_ble_eq_true rfl) ⟨Nat.le_refl 0, Nat.le_refl 0⟩ d0_has_24 (x_kki ?_)
      refine x_if_eq (tgt := 34) hX d0_has_27 (by decide) (fun hc => ?_) (fun hc => ?_)
      · rw [if_pos hc] at h
        refine x_iconst (v := 0) hX d0_has_34 (by decide) ?_
        cases h
        exact x_iret hX hr d0_has_35 (fun H hP => ⟨rfl, hP⟩)
      · rw [if_neg hc] at h
        refine x_iconst (v := 1) hX d0_has_30 (by decide) ?_
        refine x_goto (tgt := 35) hX d0_has_31 (by decide) ?_
        cases h
        exact x_iret hX hr d0_has_35 (fun H hP => ⟨rfl, hP⟩)
    · rw [if_neg (x_nn hc)] at h
      refine x_bipush (v := -2) hX d0_has_15 (by decide) ?_
      cases h
      exact x_iret hX hr d0_has_17 (fun H hP => ⟨rfl, hP⟩)

def m0_at (N : Nat) (K : Nat → Nat × Nat) (F : Nat → Nat → Option Nat) (I : (Nat → Nat → Int32)) (J : (Nat → Nat → Int64)) (a0 : Nat) (a1 : Int32) (a2 : Int32) : Option (Int64) :=
  if a0 < N ∧ K a0 = (0, 0) then (xb (m0_isTableOrCopy N K F I J a0 a1) fun x2 => if x2 = 0 then (some (0 : Int64)) else (xb (m0_isKey N K F I J a2) fun x4 => if ¬ x4 = 0 then (xb (m0_rowsOf N K F I J a0 a1) fun q6 => if q6 < N ∧ K q6 = (0, 3) then (xb (F q6 1) fun q9 => if q9 < N ∧ (K q9).1 = 2 ∧ xinb a2 (K q9).2 then (some (J q9 (a2.toNatClampNeg))) else none) else none) else (some (0 : Int64)))) else none
set_option maxRecDepth 100000 in
set_option maxHeartbeats 4000000 in
theorem c_m0_at {l : Launch} {B d : Nat} {g : xG} {N : Nat} {K : Nat → Nat × Nat} {F : Nat → Nat → Option Nat} {I : (Nat → Nat → Int32)} {J : (Nat → Nat → Int64)} {a0 : Nat} {a1 : Int32} {a2 : Int32} {rv : Int64} (h : m0_at N K F I J a0 a1 a2 = some rv) : xC l g B (d + 3) 0 0 y0_at c0_at 3 (some .long) [.ref (B + a0), .int a1, .int a2] (xP g B N K I J F) (xq (some (.long rv)) (xP g B N K I J F)) := by
  refine xC_of (by decide) (Nat.le_of_ble_eq_true rfl) (fun X hl hR hr _ hX => ?_)
  refine x_sub (L' := [(0, .ref (B + a0)), (1, .int a1), (2, .int a2)]) [0, 1, 2] rfl ?_
  unfold m0_at at h
  refine x_aload_n hX d0_at_0 rfl rfl ?_
  refine x_iload_n hX d0_at_1 rfl rfl ?_
  obtain ⟨hg1, h⟩ := x_gd h
  obtain ⟨x2, eb3, h⟩ := x_bd h
  refine x_callV hX hR (c_m0_isTableOrCopy (l := x_l X) (d := d + 0) eb3) kX0_171 kN0_isTableOrCopy kE0_isTableOrCopy xc0.1 hg1.1 hg1.2 rfl rfl (Nat.le_of_ble_eq_true rfl) ⟨Nat.le_refl 0, Nat.le_refl 0⟩ d0_at_2 (x_kki ?_)
  refine x_if_eq (tgt := 15) hX d0_at_5 (by decide) (fun hc => ?_) (fun hc => ?_)
  · rw [if_pos hc] at h
    refine x_lconst (v := 0) hX d0_at_15 (by decide) ?_
    cases h
    exact x_lret hX hr d0_at_16 (fun H hP => ⟨rfl, hP⟩)
  · rw [if_neg hc] at h
    refine x_iload_n hX d0_at_8 rfl rfl ?_
    obtain ⟨x4, eb5, h⟩ := x_bd h
    refine x_callS hX hR (c_m0_isKey (l := x_l X) (d := d + 1) eb5) kX0_80 kS0_isKey rfl rfl (Nat.le_of_ble_eq_true rfl) ⟨Nat.le_refl 0, Nat.le_refl 0⟩ d0_at_9 (x_kki ?_)
    refine x_if_ne (tgt := 17) hX d0_at_12 (by decide) (fun hc => ?_) (fun hc => ?_)
    · rw [if_pos hc] at h
      refine x_aload_n hX d0_at_17 rfl rfl ?_
      refine x_iload_n hX d0_at_18 rfl rfl ?_
      obtain ⟨q6, eb7, h⟩ := x_bd h
      refine x_callV hX hR (c_m0_rowsOf (l := x_l X) (d := d + 2) eb7) kX0_174 kN0_rowsOf kE0_rowsOf xc0.1 hg1.1 hg1.2 rfl rfl (Nat.le_of_ble_eq_true rfl) ⟨Nat.le_refl 0, Nat.le_refl 0⟩ d0_at_19 (x_kkr ?_)
      obtain ⟨hg8, h⟩ := x_gd h
      obtain ⟨q9, eq9, h⟩ := x_bd h
      refine x_getF (j := 1) hX xc3 hg8.1 hg8.2 (by decide) rfl eq9 kF0_181 d0_at_22 ?_
      refine x_iload_n hX d0_at_25 rfl rfl ?_
      obtain ⟨hg10, h⟩ := x_gd h
      refine x_lald hX hg10.1 (x_kd hg10.2.1) (x_in hg10.2.2) d0_at_26 ?_
      cases h
      exact x_lret hX hr d0_at_27 (fun H hP => ⟨rfl, hP⟩)
    · rw [if_neg (x_nn hc)] at h
      refine x_lconst (v := 0) hX d0_at_15 (by decide) ?_
      cases h
      exact x_lret hX hr d0_at_16 (fun H hP => ⟨rfl, hP⟩)

def m0_of (N : Nat) (K : Nat → Nat × Nat) (F : Nat → Nat → Option Nat) (I : (Nat → Nat → Int32)) (J : (Nat → Nat → Int64)) (a0 : Nat) (a1 : Int32) (a2 : Int32) : Option (Int32) :=
  if a0 < N ∧ K a0 = (0, 0) then (xb (m0_isTable N K F I J a0 a1) fun x2 => if ¬ x2 = 0 then (xb (F a0 0) fun q4 => if q4 < N ∧ (K q4).1 = 4 ∧ xinb a1 (K q4).2 then (xb (F q4 (a1.toNatClampNeg)) fun q6 => if a2 = 0 then (if q6 < N ∧ K q6 = (0, 4) then (some (I q6 0)) else none) else (if a2 = 1 then (if q6 < N ∧ K q6 = (0, 4) then (some (I q6 1)) else none) else (if a2 = 2 then (if q6 < N ∧ K q6 = (0, 4) then (some (I q6 2)) else none) else (if a2 = 3 then (if q6 < N ∧ K q6 = (0, 4) then (xb (F q6 5) fun q11 => if q11 < N ∧ K q11 = (0, 3) then (xb (m3_size N K F I J q11) fun x13 => some x13) else none) else none) else (some (-2 : Int32)))))) else none) else (some (-2 : Int32))) else none
set_option maxRecDepth 100000 in
set_option maxHeartbeats 4000000 in
theorem c_m0_of {l : Launch} {B d : Nat} {g : xG} {N : Nat} {K : Nat → Nat × Nat} {F : Nat → Nat → Option Nat} {I : (Nat → Nat → Int32)} {J : (Nat → Nat → Int64)} {a0 : Nat} {a1 : Int32} {a2 : Int32} {rv : Int32} (h : m0_of N K F I J a0 a1 a2 = some rv) : xC l g B (d + 2) 0 0 y0_of c0_of 4 (some .int) [.ref (B + a0), .int a1, .int a2] (xP g B N K I J F) (xq (some (.int rv)) (xP g B N K I J F)) := by
  refine xC_of (by decide) (Nat.le_of_ble_eq_true rfl) (fun X hl hR hr _ hX => ?_)
  refine x_sub (L' := [(0, .ref (B + a0)), (1, .int a1), (2, .int a2)]) [0, 1, 2] rfl ?_
  unfold m0_of at h
  refine x_aload_n hX d0_of_0 rfl rfl ?_
  refine x_iload_n hX d0_of_1 rfl rfl ?_
  obtain ⟨hg1, h⟩ := x_gd h
  obtain ⟨x2, eb3, h⟩ := x_bd h
  refine x_callV hX hR (c_m0_isTable (l := x_l X) (d := d + 0) eb3) kX0_69 kN0_isTable kE0_isTable xc0.1 hg1.1 hg1.2 rfl rfl (Nat.le_of_ble_eq_true rfl) ⟨Nat.le_refl 0, Nat.le_refl 0⟩ d0_of_2 (x_kki ?_)
  refine x_if_ne (tgt := 11) hX d0_of_5 (by decide) (fun hc => ?_) (fun hc => ?_)
  · rw [if_pos hc] at h
    refine x_aload_n hX d0_of_11 rfl rfl ?_
    obtain ⟨q4, eq4, h⟩ := x_bd h
    refine x_getF (j := 0) hX xc0 hg1.1 hg1.2 (by decide) rfl eq4 kF0_11 d0_of_12 ?_
    refine x_iload_n hX d0_of_15 rfl rfl ?_
    obtain ⟨hg5, h⟩ := x_gd h
    obtain ⟨q6, eq6, h⟩ := x_bd h
    refine x_aald hX hg5.1 (x_kd hg5.2.1) rfl (x_in hg5.2.2) eq6 d0_of_16 ?_
    refine x_astore_n hX [(3, .ref (B + q6)), (0, .ref (B + a0)), (1, .int a1), (2, .int a2)] d0_of_17 rfl (by decide) rfl ?_
    refine x_iload_n hX d0_of_18 rfl rfl ?_
    by_cases hs1000 : a2 = 0
    · rw [if_pos hs1000] at h
      refine x_tableIn (off := 29) (tgt := 48) hX d0_of_19 (by rw [hs1000]; decide) (by rw [hs1000]; decide) (by rw [hs1000]; rfl) (by decide) ?_
      refine x_aload_n hX d0_of_48 rfl rfl ?_
      obtain ⟨hg7, h⟩ := x_gd h
      refine x_getI (j := 0) hX xc4 hg7.1 hg7.2 (by decide) rfl kF0_184 d0_of_49 ?_
      cases h
      exact x_iret hX hr d0_of_52 (fun H hP => ⟨rfl, hP⟩)
    · rw [if_neg hs1000] at h
      by_cases hs1001 : a2 = 1
      · rw [if_pos hs1001] at h
        refine x_tableIn (off := 34) (tgt := 53) hX d0_of_19 (by rw [hs1001]; decide) (by rw [hs1001]; decide) (by rw [hs1001]; rfl) (by decide) ?_
        refine x_aload_n hX d0_of_53 rfl rfl ?_
        obtain ⟨hg8, h⟩ := x_gd h
        refine x_getI (j := 1) hX xc4 hg8.1 hg8.2 (by decide) rfl kF0_187 d0_of_54 ?_
        cases h
        exact x_iret hX hr d0_of_57 (fun H hP => ⟨rfl, hP⟩)
      · rw [if_neg hs1001] at h
        by_cases hs1002 : a2 = 2
        · rw [if_pos hs1002] at h
          refine x_tableIn (off := 39) (tgt := 58) hX d0_of_19 (by rw [hs1002]; decide) (by rw [hs1002]; decide) (by rw [hs1002]; rfl) (by decide) ?_
          refine x_aload_n hX d0_of_58 rfl rfl ?_
          obtain ⟨hg9, h⟩ := x_gd h
          refine x_getI (j := 2) hX xc4 hg9.1 hg9.2 (by decide) rfl kF0_190 d0_of_59 ?_
          cases h
          exact x_iret hX hr d0_of_62 (fun H hP => ⟨rfl, hP⟩)
        · rw [if_neg hs1002] at h
          by_cases hs1003 : a2 = 3
          · rw [if_pos hs1003] at h
            refine x_tableIn (off := 44) (tgt := 63) hX d0_of_19 (by rw [hs1003]; decide) (by rw [hs1003]; decide) (by rw [hs1003]; rfl) (by decide) ?_
            refine x_aload_n hX d0_of_63 rfl rfl ?_
            obtain ⟨hg10, h⟩ := x_gd h
            obtain ⟨q11, eq11, h⟩ := x_bd h
            refine x_getF (j := 5) hX xc4 hg10.1 hg10.2 (by decide) rfl eq11 kF0_147 d0_of_64 ?_
            obtain ⟨hg12, h⟩ := x_gd h
            obtain ⟨x13, eb14, h⟩ := x_bd h
            refine x_callV hX hR (c_m3_size (l := x_l X) (d := d + 0) eb14) kX0_165 kN3_size kE3_size xc3.1 hg12.1 hg12.2 rfl rfl (Nat.le_of_ble_eq_true rfl) ⟨Nat.le_refl 0, Nat.le_refl 0⟩ d0_of_67 (x_kki ?_)
            cases h
            exact x_iret hX hr d0_of_70 (fun H hP => ⟨rfl, hP⟩)
          · rw [if_neg hs1003] at h
            refine x_tableOut (tgt := 71) hX d0_of_19 (x_tout_0_3 hs1000 hs1001 hs1002 hs1003) (by decide) ?_
            refine x_bipush (v := -2) hX d0_of_71 (by decide) ?_
            cases h
            exact x_iret hX hr d0_of_73 (fun H hP => ⟨rfl, hP⟩)
  · rw [if_neg (x_nn hc)] at h
    refine x_bipush (v := -2) hX d0_of_8 (by decide) ?_
    cases h
    exact x_iret hX hr d0_of_10 (fun H hP => ⟨rfl, hP⟩)

def m0_count (N : Nat) (K : Nat → Nat × Nat) (F : Nat → Nat → Option Nat) (I : (Nat → Nat → Int32)) (J : (Nat → Nat → Int64)) (a0 : Nat) (a1 : Int32) : Option (Int32) :=
  if a1 = 0 then (if a0 < N ∧ K a0 = (0, 0) then (some (I a0 1)) else none) else (if a1 = 1 then (if a0 < N ∧ K a0 = (0, 0) then (xb (F a0 2) fun q3 => if q3 < N ∧ K q3 = (0, 1) then (if (I q3 0) = 0 then (some (-1 : Int32)) else (some (I q3 1))) else none) else none) else (if a1 = 2 then (if a0 < N ∧ K a0 = (0, 0) then (xb (F a0 6) fun q6 => if q6 < N ∧ K q6 = (0, 3) then (xb (m3_size N K F I J q6) fun x8 => some x8) else none) else none) else (some (-2 : Int32))))
set_option maxRecDepth 100000 in
set_option maxHeartbeats 4000000 in
theorem c_m0_count {l : Launch} {B d : Nat} {g : xG} {N : Nat} {K : Nat → Nat × Nat} {F : Nat → Nat → Option Nat} {I : (Nat → Nat → Int32)} {J : (Nat → Nat → Int64)} {a0 : Nat} {a1 : Int32} {rv : Int32} (h : m0_count N K F I J a0 a1 = some rv) : xC l g B (d + 2) 0 0 y0_count c0_count 2 (some .int) [.ref (B + a0), .int a1] (xP g B N K I J F) (xq (some (.int rv)) (xP g B N K I J F)) := by
  refine xC_of (by decide) (Nat.le_of_ble_eq_true rfl) (fun X hl hR hr _ hX => ?_)
  refine x_sub (L' := [(0, .ref (B + a0)), (1, .int a1)]) [0, 1] rfl ?_
  unfold m0_count at h
  refine x_iload_n hX d0_count_0 rfl rfl ?_
  by_cases hs1000 : a1 = 0
  · rw [if_pos hs1000] at h
    refine x_tableIn (off := 27) (tgt := 28) hX d0_count_1 (by rw [hs1000]; decide) (by rw [hs1000]; decide) (by rw [hs1000]; rfl) (by decide) ?_
    refine x_aload_n hX d0_count_28 rfl rfl ?_
    obtain ⟨hg1, h⟩ := x_gd h
    refine x_getI (j := 1) hX xc0 hg1.1 hg1.2 (by decide) rfl kF0_15 d0_count_29 ?_
    cases h
    exact x_iret hX hr d0_count_32 (fun H hP => ⟨rfl, hP⟩)
  · rw [if_neg hs1000] at h
    by_cases hs1001 : a1 = 1
    · rw [if_pos hs1001] at h
      refine x_tableIn (off := 32) (tgt := 33) hX d0_count_1 (by rw [hs1001]; decide) (by rw [hs1001]; decide) (by rw [hs1001]; rfl) (by decide) ?_
      refine x_aload_n hX d0_count_33 rfl rfl ?_
      obtain ⟨hg2, h⟩ := x_gd h
      obtain ⟨q3, eq3, h⟩ := x_bd h
      refine x_getF (j := 2) hX xc0 hg2.1 hg2.2 (by decide) rfl eq3 kF0_22 d0_count_34 ?_
      obtain ⟨hg4, h⟩ := x_gd h
      refine x_getI (j := 0) hX xc1 hg4.1 hg4.2 (by decide) rfl kF0_87 d0_count_37 ?_
      refine x_if_eq (tgt := 53) hX d0_count_40 (by decide) (fun hc => ?_) (fun hc => ?_)
      · rw [if_pos hc] at h
        refine x_iconst (v := -1) hX d0_count_53 (by decide) ?_
        cases h
        exact x_iret hX hr d0_count_54 (fun H hP => ⟨rfl, hP⟩)
      · rw [if_neg hc] at h
        refine x_aload_n hX d0_count_43 rfl rfl ?_
        refine x_getF (j := 2) hX xc0 hg2.1 hg2.2 (by decide) rfl eq3 kF0_22 d0_count_44 ?_
        refine x_getI (j := 1) hX xc1 hg4.1 hg4.2 (by decide) rfl kF0_94 d0_count_47 ?_
        refine x_goto (tgt := 54) hX d0_count_50 (by decide) ?_
        cases h
        exact x_iret hX hr d0_count_54 (fun H hP => ⟨rfl, hP⟩)
    · rw [if_neg hs1001] at h
      by_cases hs1002 : a1 = 2
      · rw [if_pos hs1002] at h
        refine x_tableIn (off := 54) (tgt := 55) hX d0_count_1 (by rw [hs1002]; decide) (by rw [hs1002]; decide) (by rw [hs1002]; rfl) (by decide) ?_
        refine x_aload_n hX d0_count_55 rfl rfl ?_
        obtain ⟨hg5, h⟩ := x_gd h
        obtain ⟨q6, eq6, h⟩ := x_bd h
        refine x_getF (j := 6) hX xc0 hg5.1 hg5.2 (by decide) rfl eq6 kF0_44 d0_count_56 ?_
        obtain ⟨hg7, h⟩ := x_gd h
        obtain ⟨x8, eb9, h⟩ := x_bd h
        refine x_callV hX hR (c_m3_size (l := x_l X) (d := d + 0) eb9) kX0_165 kN3_size kE3_size xc3.1 hg7.1 hg7.2 rfl rfl (Nat.le_of_ble_eq_true rfl) ⟨Nat.le_refl 0, Nat.le_refl 0⟩ d0_count_59 (x_kki ?_)
        cases h
        exact x_iret hX hr d0_count_62 (fun H hP => ⟨rfl, hP⟩)
      · rw [if_neg hs1002] at h
        refine x_tableOut (tgt := 63) hX d0_count_1 (x_tout_0_2 hs1000 hs1001 hs1002) (by decide) ?_
        refine x_bipush (v := -2) hX d0_count_63 (by decide) ?_
        cases h
        exact x_iret hX hr d0_count_65 (fun H hP => ⟨rfl, hP⟩)
