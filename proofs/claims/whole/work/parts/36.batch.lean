section
variable {K : Nat → Nat × Nat} {F : Nat → Nat → Option Nat} {I I' : Nat → Nat → Int32} {J J' : Nat → Nat → Int64} {n : Nat} {so o1 o2 : Nat → Nat} {p q : Nat → Int64} {ρ β : Nat → Nat → Option Int64} {bo bo' : Bool} {b b' : List (Nat × Nat × Option Int64)} {lg td nt l : List (Nat × Nat × Option Int64 × Option Int64)} {κ : Nat → Option Int64}
theorem CS.bat (hn : n ≤ 12) (h : CS I J n so o1 o2 p q ρ β bo b lg td nt κ) (fi : ∀ a, a < 2 ∨ 5 < a → I' a = I a) (fj : ∀ a, a ≠ 6 → J' a = J a) (hb : CBat I' J' bo' b') : CS I' J' n so o1 o2 p q ρ β bo' b' lg td nt κ := by
  obtain ⟨h1, h2, h3, h4, h5, h6, h7, h8, h9, h10⟩ := h
  refine ⟨h1.fr (fi 0 (by decide)) (fun t ht => ⟨fi _ (by omega), by rw [fj _ (by omega)], by rw [fj _ (by omega)]⟩), h2.fr (fun t ht => ⟨fj _ (by omega), fj _ (by omega)⟩), h3.fr (fun t ht => ⟨fj _ (by omega), fj _ (by omega)⟩), h4.fr (fun t ht => ⟨fj _ (by omega), fj _ (by omega)⟩), hb, ?_, ?_, ?_, RA_move h9 (fj _ (by decide)) (fj _ (by decide)), RA_move h10 (fj _ (by decide)) (fj _ (by decide))⟩
  · exact h6.fr (fi _ (by decide)) (fi _ (by decide)) (fj _ (by decide)) (fj _ (by decide))
  · exact h7.fr (fi _ (by decide)) (fi _ (by decide)) (fj _ (by decide)) (fj _ (by decide))
  · exact h8.fr (fi _ (by decide)) (fi _ (by decide)) (fj _ (by decide)) (fj _ (by decide))
theorem RS.bat (h : RS I J n so o1 o2 p q ρ β bo b lg td nt κ) (fi : ∀ a, a ≠ 123 → (a < 140 ∨ 142 < a) → I' a = I a) (f3 : ∀ j, j ≠ 20 → j ≠ 21 → I' 123 j = I 123 j) (fj : ∀ a, a ≠ 143 → J' a = J a) (hb : RBat I' J' bo' b') : RS I' J' n so o1 o2 p q ρ β bo' b' lg td nt κ := by
  obtain ⟨h1, h2, h3, h4, h5, h6, h7, h8⟩ := h
  refine ⟨h1.fr (f3 _ (by decide) (by decide)) (fi _ (by decide) (by decide)) (fi _ (by decide) (by decide)) (fi _ (by decide) (by decide)) (fj _ (by decide)) (fj _ (by decide)), h2.fr (fi _ (by decide) (by decide)) (fj _ (by decide)), h3.fr (fi _ (by decide) (by decide)) (fj _ (by decide)), hb, ?_, ?_, ?_, h8.fr (fi _ (by decide) (by decide)) (fj _ (by decide))⟩
  · exact h5.fr' (f3 _ (by decide) (by decide)) (fi _ (by decide) (by decide)) (fi _ (by decide) (by decide)) (fi _ (by decide) (by decide)) (fj _ (by decide)) (fj _ (by decide))
  · exact h6.fr' (f3 _ (by decide) (by decide)) (fi _ (by decide) (by decide)) (fi _ (by decide) (by decide)) (fi _ (by decide) (by decide)) (fj _ (by decide)) (fj _ (by decide))
  · exact h7.fr' (f3 _ (by decide) (by decide)) (fi _ (by decide) (by decide)) (fi _ (by decide) (by decide)) (fi _ (by decide) (by decide)) (fj _ (by decide)) (fj _ (by decide))
theorem CBat.cell (h : CBat I J bo b) : I 2 0 = bi bo := h.1
theorem xu2 {α : Type} (f : Nat → Nat → α) (k j : Nat) (v : α) : xu f k j v k j = v := by rw [xu_ap, if_pos ⟨rfl, rfl⟩]
theorem xu3 {α : Type} (f : Nat → Nat → α) {k j b : Nat} (v : α) (h : b ≠ j) : xu f k j v k b = f k b := by rw [xu_ap, if_neg (fun z => h z.2)]
theorem BOk.nil : BOk n so [] := ⟨by simp, fun i t k v e => by simp at e⟩
theorem EOk.nil {m : Nat} : EOk m [] := ⟨by simp, fun i t k o w e => by simp at e⟩
theorem iv_begin (hL : Lay K F) (h : Inv I J) : ∃ x I1 I2, m0_begin 148 K F I J 0 = some (x, I1) ∧ m5_begin 148 K F I1 J 123 = some (x, I2) ∧ Inv I2 J := by
  obtain ⟨n, so, o1, o2, p, q, ρ, β, bo, b, lg, td, nt, κ, hW, hC, hR⟩ := h
  obtain ⟨h1, h2, h3, h4, h5, h6, h7, h8, h9, h10⟩ := id hC
  obtain ⟨r1, r2, r3, r4, r5, r6, r7, r8⟩ := id hR
  cases bo with
  | true =>
    refine ⟨-4, I, I, ?_, ?_, n, so, o1, o2, p, q, ρ, β, true, b, lg, td, nt, κ, hW, hC, hR⟩
    · unfold m0_begin; simp (disch := omega) only [↓xlet, xb_some, ↓reduceIte, cl_nI, nI_64, nI_add, nI_1, kg3 hL, kg4 hL, kg5 hL, kg6 hL, kg8 hL, kg9 hL, kg10 hL, kg12 hL, kg13 hL, kg14 hL, kg16 hL, kg17 hL, kg18 hL, kg0 hL, kg2 hL, kg7 hL, kg11 hL, kg15 hL, kg19 hL, kg21 hL, kg23 hL, kg25 hL, ↓xbs (lF0_0 hL), ↓xbs (lF0_2 hL), ↓xbs (lF0_3 hL), ↓xbs (lF0_4 hL), ↓xbs (lF0_5 hL), ↓xbs (lF0_6 hL), ↓xbs (lF0_7 hL), ↓xbs (lF0_8 hL), ↓xbs (lF0_9 hL), ↓xbs (lF2_2 hL), ↓xbs (lF2_3 hL), ↓xbs (lF2_4 hL), ↓xbs (lF2_5 hL), ↓xbs (lF7_1 hL), ↓xbs (lF7_2 hL), ↓xbs (lF7_3 hL), ↓xbs (lF11_1 hL), ↓xbs (lF11_2 hL), ↓xbs (lF11_3 hL), ↓xbs (lF15_1 hL), ↓xbs (lF15_2 hL), ↓xbs (lF15_3 hL), kg1 hL, lF1 hL, ↓xF1c hL, kgT hL, kgR1 hL, kgR3 hL, kgR5 hL, ↓xT5 hL, ↓xT6 hL, ↓xT7 hL, lT5 hL, lT6 hL, lT7 hL, h5.1, bt0]
    · unfold m5_begin; simp (disch := omega) only [↓xlet, xb_some, ↓reduceIte, cl_nI, nI_64, nI_add, nI_1, kg124 hL, kg125 hL, kg126 hL, kg127 hL, kg128 hL, kg129 hL, kg130 hL, kg131 hL, kg132 hL, kg133 hL, kg134 hL, kg135 hL, kg136 hL, kg137 hL, kg138 hL, kg139 hL, kg140 hL, kg141 hL, kg142 hL, kg143 hL, kg144 hL, kg145 hL, kg146 hL, kg147 hL, kg123 hL, ↓xbs (lF123_1 hL), ↓xbs (lF123_2 hL), ↓xbs (lF123_3 hL), ↓xbs (lF123_4 hL), ↓xbs (lF123_5 hL), ↓xbs (lF123_6 hL), ↓xbs (lF123_7 hL), ↓xbs (lF123_8 hL), ↓xbs (lF123_9 hL), ↓xbs (lF123_10 hL), ↓xbs (lF123_11 hL), ↓xbs (lF123_12 hL), ↓xbs (lF123_13 hL), ↓xbs (lF123_14 hL), ↓xbs (lF123_15 hL), ↓xbs (lF123_16 hL), ↓xbs (lF123_22 hL), ↓xbs (lF123_23 hL), ↓xbs (lF123_24 hL), ↓xbs (lF123_25 hL), ↓xbs (lF123_26 hL), ↓xbs (lF123_27 hL), ↓xbs (lF123_28 hL), ↓xbs (lF123_29 hL), r4.1, bt0]
  | false =>
    have hi : HiF I (xu (xu I 2 0 1) 2 1 0) J J := fun a ha => ⟨by rw [xu_rw (by omega), xu_rw (by omega)], rfl⟩
    have c1 := hC.bat (I' := xu (xu I 2 0 1) 2 1 0) (J' := J) (bo' := true) (b' := []) hW.1.1 (fun a ha => by rw [xu_rw (by omega), xu_rw (by omega)]) (fun _ _ => rfl) ⟨by rw [xu3 _ _ (by decide), xu2]; rfl, fun _ => ⟨by rw [xu2]; rfl, fun i t k v e => by simp at e⟩⟩
    have e1 := hR.fr hi
    obtain ⟨y1, y2, y3, y4, y5, y6, y7, y8⟩ := id e1
    have lo : LoF (xu (xu I 2 0 1) 2 1 0) (xu (xu (xu (xu I 2 0 1) 2 1 0) 123 20 1) 123 21 0) J J := fun a ha => ⟨by rw [xu_rw (show a ≠ 123 by omega), xu_rw (show a ≠ 123 by omega)], rfl⟩
    refine ⟨1, xu (xu I 2 0 1) 2 1 0, xu (xu (xu (xu I 2 0 1) 2 1 0) 123 20 1) 123 21 0, ?_, ?_, n, so, o1, o2, p, q, ρ, β, true, [], lg, td, nt, κ, ?_, c1.fr hW.1.1 lo, ?_⟩
    · unfold m0_begin m1_open; simp (disch := omega) only [↓xlet, xb_some, ↓reduceIte, cl_nI, nI_64, nI_add, nI_1, kg3 hL, kg4 hL, kg5 hL, kg6 hL, kg8 hL, kg9 hL, kg10 hL, kg12 hL, kg13 hL, kg14 hL, kg16 hL, kg17 hL, kg18 hL, kg0 hL, kg2 hL, kg7 hL, kg11 hL, kg15 hL, kg19 hL, kg21 hL, kg23 hL, kg25 hL, ↓xbs (lF0_0 hL), ↓xbs (lF0_2 hL), ↓xbs (lF0_3 hL), ↓xbs (lF0_4 hL), ↓xbs (lF0_5 hL), ↓xbs (lF0_6 hL), ↓xbs (lF0_7 hL), ↓xbs (lF0_8 hL), ↓xbs (lF0_9 hL), ↓xbs (lF2_2 hL), ↓xbs (lF2_3 hL), ↓xbs (lF2_4 hL), ↓xbs (lF2_5 hL), ↓xbs (lF7_1 hL), ↓xbs (lF7_2 hL), ↓xbs (lF7_3 hL), ↓xbs (lF11_1 hL), ↓xbs (lF11_2 hL), ↓xbs (lF11_3 hL), ↓xbs (lF15_1 hL), ↓xbs (lF15_2 hL), ↓xbs (lF15_3 hL), kg1 hL, lF1 hL, ↓xF1c hL, kgT hL, kgR1 hL, kgR3 hL, kgR5 hL, ↓xT5 hL, ↓xT6 hL, ↓xT7 hL, lT5 hL, lT6 hL, lT7 hL, h5.1, bi_f]
    · unfold m5_begin; simp (disch := omega) only [↓xlet, xb_some, ↓reduceIte, cl_nI, nI_64, nI_add, nI_1, kg124 hL, kg125 hL, kg126 hL, kg127 hL, kg128 hL, kg129 hL, kg130 hL, kg131 hL, kg132 hL, kg133 hL, kg134 hL, kg135 hL, kg136 hL, kg137 hL, kg138 hL, kg139 hL, kg140 hL, kg141 hL, kg142 hL, kg143 hL, kg144 hL, kg145 hL, kg146 hL, kg147 hL, kg123 hL, ↓xbs (lF123_1 hL), ↓xbs (lF123_2 hL), ↓xbs (lF123_3 hL), ↓xbs (lF123_4 hL), ↓xbs (lF123_5 hL), ↓xbs (lF123_6 hL), ↓xbs (lF123_7 hL), ↓xbs (lF123_8 hL), ↓xbs (lF123_9 hL), ↓xbs (lF123_10 hL), ↓xbs (lF123_11 hL), ↓xbs (lF123_12 hL), ↓xbs (lF123_13 hL), ↓xbs (lF123_14 hL), ↓xbs (lF123_15 hL), ↓xbs (lF123_16 hL), ↓xbs (lF123_22 hL), ↓xbs (lF123_23 hL), ↓xbs (lF123_24 hL), ↓xbs (lF123_25 hL), ↓xbs (lF123_26 hL), ↓xbs (lF123_27 hL), ↓xbs (lF123_28 hL), ↓xbs (lF123_29 hL), y4.1, bi_f]
    · exact ⟨hW.1, hW.2.1, BOk.nil, hW.2.2.2⟩
    · exact e1.bat (fun a ha hb => by rw [xu_rw ha, xu_rw ha]) (fun j ha hb => by rw [xu3 _ _ hb, xu3 _ _ ha]) (fun _ _ => rfl) ⟨by rw [xu3 _ _ (by decide), xu2]; rfl, fun _ => ⟨by rw [xu2]; rfl, fun i t k v e => by simp at e⟩⟩
theorem iv_drop (hL : Lay K F) (h : Inv I J) : ∃ x I1 I2, m0_drop 148 K F I J 0 = some (x, I1) ∧ m5_drop 148 K F I1 J 123 = some (x, I2) ∧ Inv I2 J := by
  obtain ⟨n, so, o1, o2, p, q, ρ, β, bo, b, lg, td, nt, κ, hW, hC, hR⟩ := h
  obtain ⟨h1, h2, h3, h4, h5, h6, h7, h8, h9, h10⟩ := id hC
  obtain ⟨r1, r2, r3, r4, r5, r6, r7, r8⟩ := id hR
  cases bo with
  | false =>
    refine ⟨-4, I, I, ?_, ?_, n, so, o1, o2, p, q, ρ, β, false, b, lg, td, nt, κ, hW, hC, hR⟩
    · unfold m0_drop; simp (disch := omega) only [↓xlet, xb_some, ↓reduceIte, cl_nI, nI_64, nI_add, nI_1, kg3 hL, kg4 hL, kg5 hL, kg6 hL, kg8 hL, kg9 hL, kg10 hL, kg12 hL, kg13 hL, kg14 hL, kg16 hL, kg17 hL, kg18 hL, kg0 hL, kg2 hL, kg7 hL, kg11 hL, kg15 hL, kg19 hL, kg21 hL, kg23 hL, kg25 hL, ↓xbs (lF0_0 hL), ↓xbs (lF0_2 hL), ↓xbs (lF0_3 hL), ↓xbs (lF0_4 hL), ↓xbs (lF0_5 hL), ↓xbs (lF0_6 hL), ↓xbs (lF0_7 hL), ↓xbs (lF0_8 hL), ↓xbs (lF0_9 hL), ↓xbs (lF2_2 hL), ↓xbs (lF2_3 hL), ↓xbs (lF2_4 hL), ↓xbs (lF2_5 hL), ↓xbs (lF7_1 hL), ↓xbs (lF7_2 hL), ↓xbs (lF7_3 hL), ↓xbs (lF11_1 hL), ↓xbs (lF11_2 hL), ↓xbs (lF11_3 hL), ↓xbs (lF15_1 hL), ↓xbs (lF15_2 hL), ↓xbs (lF15_3 hL), kg1 hL, lF1 hL, ↓xF1c hL, kgT hL, kgR1 hL, kgR3 hL, kgR5 hL, ↓xT5 hL, ↓xT6 hL, ↓xT7 hL, lT5 hL, lT6 hL, lT7 hL, h5.1, bi_f, not_true_eq_false]
    · unfold m5_drop; simp (disch := omega) only [↓xlet, xb_some, ↓reduceIte, cl_nI, nI_64, nI_add, nI_1, kg124 hL, kg125 hL, kg126 hL, kg127 hL, kg128 hL, kg129 hL, kg130 hL, kg131 hL, kg132 hL, kg133 hL, kg134 hL, kg135 hL, kg136 hL, kg137 hL, kg138 hL, kg139 hL, kg140 hL, kg141 hL, kg142 hL, kg143 hL, kg144 hL, kg145 hL, kg146 hL, kg147 hL, kg123 hL, ↓xbs (lF123_1 hL), ↓xbs (lF123_2 hL), ↓xbs (lF123_3 hL), ↓xbs (lF123_4 hL), ↓xbs (lF123_5 hL), ↓xbs (lF123_6 hL), ↓xbs (lF123_7 hL), ↓xbs (lF123_8 hL), ↓xbs (lF123_9 hL), ↓xbs (lF123_10 hL), ↓xbs (lF123_11 hL), ↓xbs (lF123_12 hL), ↓xbs (lF123_13 hL), ↓xbs (lF123_14 hL), ↓xbs (lF123_15 hL), ↓xbs (lF123_16 hL), ↓xbs (lF123_22 hL), ↓xbs (lF123_23 hL), ↓xbs (lF123_24 hL), ↓xbs (lF123_25 hL), ↓xbs (lF123_26 hL), ↓xbs (lF123_27 hL), ↓xbs (lF123_28 hL), ↓xbs (lF123_29 hL), r4.1, bi_f, not_true_eq_false]
  | true =>
    have hi : HiF I (xu I 2 0 0) J J := fun a ha => ⟨by rw [xu_rw (by omega)], rfl⟩
    have c1 := hC.bat (I' := xu I 2 0 0) (J' := J) (bo' := false) (b' := []) hW.1.1 (fun a ha => by rw [xu_rw (by omega)]) (fun _ _ => rfl) ⟨by rw [xu2]; rfl, fun z => by cases z⟩
    have e1 := hR.fr hi
    obtain ⟨y1, y2, y3, y4, y5, y6, y7, y8⟩ := id e1
    have lo : LoF (xu I 2 0 0) (xu (xu I 2 0 0) 123 20 0) J J := fun a ha => ⟨by rw [xu_rw (show a ≠ 123 by omega)], rfl⟩
    refine ⟨nI b.length, xu I 2 0 0, xu (xu I 2 0 0) 123 20 0, ?_, ?_, n, so, o1, o2, p, q, ρ, β, false, [], lg, td, nt, κ, ?_, c1.fr hW.1.1 lo, ?_⟩
    · unfold m0_drop m1_close; simp (disch := omega) only [↓xlet, xb_some, ↓reduceIte, cl_nI, nI_64, nI_add, nI_1, kg3 hL, kg4 hL, kg5 hL, kg6 hL, kg8 hL, kg9 hL, kg10 hL, kg12 hL, kg13 hL, kg14 hL, kg16 hL, kg17 hL, kg18 hL, kg0 hL, kg2 hL, kg7 hL, kg11 hL, kg15 hL, kg19 hL, kg21 hL, kg23 hL, kg25 hL, ↓xbs (lF0_0 hL), ↓xbs (lF0_2 hL), ↓xbs (lF0_3 hL), ↓xbs (lF0_4 hL), ↓xbs (lF0_5 hL), ↓xbs (lF0_6 hL), ↓xbs (lF0_7 hL), ↓xbs (lF0_8 hL), ↓xbs (lF0_9 hL), ↓xbs (lF2_2 hL), ↓xbs (lF2_3 hL), ↓xbs (lF2_4 hL), ↓xbs (lF2_5 hL), ↓xbs (lF7_1 hL), ↓xbs (lF7_2 hL), ↓xbs (lF7_3 hL), ↓xbs (lF11_1 hL), ↓xbs (lF11_2 hL), ↓xbs (lF11_3 hL), ↓xbs (lF15_1 hL), ↓xbs (lF15_2 hL), ↓xbs (lF15_3 hL), kg1 hL, lF1 hL, ↓xF1c hL, kgT hL, kgR1 hL, kgR3 hL, kgR5 hL, ↓xT5 hL, ↓xT6 hL, ↓xT7 hL, lT5 hL, lT6 hL, lT7 hL, h5.1, bt0, not_false_eq_true, (h5.2 rfl).1]
    · unfold m5_drop; simp (disch := omega) only [↓xlet, xb_some, ↓reduceIte, cl_nI, nI_64, nI_add, nI_1, kg124 hL, kg125 hL, kg126 hL, kg127 hL, kg128 hL, kg129 hL, kg130 hL, kg131 hL, kg132 hL, kg133 hL, kg134 hL, kg135 hL, kg136 hL, kg137 hL, kg138 hL, kg139 hL, kg140 hL, kg141 hL, kg142 hL, kg143 hL, kg144 hL, kg145 hL, kg146 hL, kg147 hL, kg123 hL, ↓xbs (lF123_1 hL), ↓xbs (lF123_2 hL), ↓xbs (lF123_3 hL), ↓xbs (lF123_4 hL), ↓xbs (lF123_5 hL), ↓xbs (lF123_6 hL), ↓xbs (lF123_7 hL), ↓xbs (lF123_8 hL), ↓xbs (lF123_9 hL), ↓xbs (lF123_10 hL), ↓xbs (lF123_11 hL), ↓xbs (lF123_12 hL), ↓xbs (lF123_13 hL), ↓xbs (lF123_14 hL), ↓xbs (lF123_15 hL), ↓xbs (lF123_16 hL), ↓xbs (lF123_22 hL), ↓xbs (lF123_23 hL), ↓xbs (lF123_24 hL), ↓xbs (lF123_25 hL), ↓xbs (lF123_26 hL), ↓xbs (lF123_27 hL), ↓xbs (lF123_28 hL), ↓xbs (lF123_29 hL), y4.1, bt0, not_false_eq_true]; rw [xu3 _ _ (by decide), (y4.2 rfl).1]
    · exact ⟨hW.1, hW.2.1, BOk.nil, hW.2.2.2⟩
    · exact e1.bat (fun a ha hb => by rw [xu_rw ha]) (fun j ha hb => by rw [xu3 _ _ ha]) (fun _ _ => rfl) ⟨by rw [xu2]; rfl, fun z => by cases z⟩
theorem r_beginsL (hL : Lay K F) : ∀ (f k : Nat) (I : Nat → Nat → Int32), k ≤ 64 → 64 - k < f → ∃ I', m5_begins_L32 148 K F J f I 123 (nI k) = some I' ∧ (∀ a, a ≠ 144 → I' a = I a) ∧ (∀ j, j < k → I' 144 j = I 144 j) ∧ ∀ j, k ≤ j → j < 64 → I' 144 j = 0
  | 0, k, I, h1, h2 => absurd h2 (by omega)
  | f + 1, k, I, h1, h2 => by
    rw [m5_begins_L32]
    by_cases e : k = 64
    · subst e; rw [if_pos (by decide)]
      exact ⟨I, rfl, fun _ _ => rfl, fun _ _ => rfl, fun j a b => by omega⟩
    · have h64 : k < 64 := by omega
      rw [if_neg (n64 h64)]
      simp (disch := omega) only [↓xlet, xb_some, ↓reduceIte, cl_nI, nI_64, nI_add, nI_1, kg124 hL, kg125 hL, kg126 hL, kg127 hL, kg128 hL, kg129 hL, kg130 hL, kg131 hL, kg132 hL, kg133 hL, kg134 hL, kg135 hL, kg136 hL, kg137 hL, kg138 hL, kg139 hL, kg140 hL, kg141 hL, kg142 hL, kg143 hL, kg144 hL, kg145 hL, kg146 hL, kg147 hL, kg123 hL, ↓xbs (lF123_1 hL), ↓xbs (lF123_2 hL), ↓xbs (lF123_3 hL), ↓xbs (lF123_4 hL), ↓xbs (lF123_5 hL), ↓xbs (lF123_6 hL), ↓xbs (lF123_7 hL), ↓xbs (lF123_8 hL), ↓xbs (lF123_9 hL), ↓xbs (lF123_10 hL), ↓xbs (lF123_11 hL), ↓xbs (lF123_12 hL), ↓xbs (lF123_13 hL), ↓xbs (lF123_14 hL), ↓xbs (lF123_15 hL), ↓xbs (lF123_16 hL), ↓xbs (lF123_22 hL), ↓xbs (lF123_23 hL), ↓xbs (lF123_24 hL), ↓xbs (lF123_25 hL), ↓xbs (lF123_26 hL), ↓xbs (lF123_27 hL), ↓xbs (lF123_28 hL), ↓xbs (lF123_29 hL)]
      obtain ⟨I', g1, g2, g3, g4⟩ := r_beginsL hL f (k + 1) (xu I 144 k 0) (by omega) (by omega)
      refine ⟨I', g1, fun a ha => by rw [g2 a ha, xu_rw ha], fun j hj => by rw [g3 j (by omega), xu3 _ _ (by omega)], fun j ha hb => ?_⟩
      by_cases c : j = k
      · subst c; rw [g3 j (by omega), xu2]
      · exact g4 j (by omega) hb
theorem iv_clear (hL : Lay K F) (h : Inv I J) : ∃ x I1 J1 I2, m0_clear 148 K F I J 0 = some (x, I1, J1) ∧ m5_clear 148 K F I1 J1 123 = some (x, I2) ∧ Inv I2 J1 := by
  obtain ⟨n, so, o1, o2, p, q, ρ, β, bo, b, lg, td, nt, κ, hW, hC, hR⟩ := h
  obtain ⟨h1, h2, h3, h4, h5, h6, h7, h8, h9, h10⟩ := id hC
  obtain ⟨I1, hI1⟩ : ∃ I1, I1 = xu (xu (xu (xu (xu I 0 1 0) 2 0 0) 7 0 0) 11 0 0) 15 0 0 := ⟨_, rfl⟩
  obtain ⟨J1, e1, e2, e3⟩ := m_reset (I := I1) (J := J) (lR19 hL)
  have fi : ∀ a, a ≠ 0 → a ≠ 2 → a ≠ 7 → a ≠ 11 → a ≠ 15 → I1 a = I a := fun a a0 a2 a7 a11 a15 => by rw [hI1, xu_rw a15, xu_rw a11, xu_rw a7, xu_rw a2, xu_rw a0]
  have hi : HiF I I1 J J1 := fun a ha => ⟨fi a (by omega) (by omega) (by omega) (by omega) (by omega), e3 a (by omega) (by omega)⟩
  have v0 : I1 0 1 = 0 := by rw [hI1, xu_rw (by decide), xu_rw (by decide), xu_rw (by decide), xu_rw (by decide), xu2]
  have v2 : I1 2 0 = 0 := by rw [hI1, xu_rw (by decide), xu_rw (by decide), xu_rw (by decide), xu2]
  have v7 : I1 7 0 = 0 := by rw [hI1, xu_rw (by decide), xu_rw (by decide), xu2]
  have v11 : I1 11 0 = 0 := by rw [hI1, xu_rw (by decide), xu2]
  have v15 : I1 15 0 = 0 := by rw [hI1, xu2]
  have c1 : CS I1 J1 0 so o1 o2 p q ρ β false [] [] [] [] (fun _ => none) := ⟨⟨v0, fun t ht => by omega⟩, fun t ht => by omega, fun t ht => by omega, fun t ht => by omega, ⟨v2, fun z => by cases z⟩, ⟨v7, fun i t k o w e => by simp at e⟩, ⟨v11, fun i t k o w e => by simp at e⟩, ⟨v15, fun i t k o w e => by simp at e⟩, e2, RA_move h10 (e3 _ (by decide) (by decide)) (e3 _ (by decide) (by decide))⟩
  obtain ⟨y1, y2, y3, y4, y5, y6, y7, y8⟩ := hR.fr hi
  obtain ⟨I2, hI2⟩ : ∃ I2, I2 = xu (xu (xu (xu (xu (xu I1 123 0 0) 123 17 0) 123 18 0) 123 19 0) 123 20 0) 123 21 0 := ⟨_, rfl⟩
  obtain ⟨I3, g1, g2, g3, g4⟩ := r_beginsL (J := J1) hL xFu 0 I2 (by omega) (by unfold xFu; omega)
  have f2 : ∀ a, a ≠ 123 → I2 a = I1 a := fun a ha => by rw [hI2, xu_rw ha, xu_rw ha, xu_rw ha, xu_rw ha, xu_rw ha, xu_rw ha]
  have lo : LoF I1 I3 J1 J1 := fun a ha => ⟨by rw [g2 a (by omega), f2 a (by omega)], rfl⟩
  have w0 : I3 123 0 = 0 := by rw [g2 123 (by decide), hI2, xu3 _ _ (by decide), xu3 _ _ (by decide), xu3 _ _ (by decide), xu3 _ _ (by decide), xu3 _ _ (by decide), xu2]
  have w17 : I3 123 17 = 0 := by rw [g2 123 (by decide), hI2, xu3 _ _ (by decide), xu3 _ _ (by decide), xu3 _ _ (by decide), xu3 _ _ (by decide), xu2]
  have w18 : I3 123 18 = 0 := by rw [g2 123 (by decide), hI2, xu3 _ _ (by decide), xu3 _ _ (by decide), xu3 _ _ (by decide), xu2]
  have w19 : I3 123 19 = 0 := by rw [g2 123 (by decide), hI2, xu3 _ _ (by decide), xu3 _ _ (by decide), xu2]
  have w20 : I3 123 20 = 0 := by rw [g2 123 (by decide), hI2, xu3 _ _ (by decide), xu2]
  refine ⟨nI n, I1, J1, I3, ?_, ?_, 0, so, o1, o2, p, q, ρ, β, false, [], [], [], [], fun _ => none, ⟨⟨by omega, fun t ht => by omega⟩, fun t ht => by omega, BOk.nil, EOk.nil, EOk.nil, EOk.nil⟩, c1.fr (by omega) lo, ⟨w0, fun t ht => by omega⟩, fun t ht => by omega, fun t ht => by omega, ⟨w20, fun z => by cases z⟩, ⟨w17, fun i t k o w e => by simp at e⟩, ⟨w18, fun i t k o w e => by simp at e⟩, ⟨w19, fun i t k o w e => by simp at e⟩, fun k hk => ⟨g4 k (by omega) hk, fun v e => by cases e⟩⟩
  · unfold m0_clear m1_close m2_reset
    rw [hI1] at e1
    simp (disch := omega) only [↓xlet, xb_some, ↓reduceIte, cl_nI, nI_64, nI_add, nI_1, kg3 hL, kg4 hL, kg5 hL, kg6 hL, kg8 hL, kg9 hL, kg10 hL, kg12 hL, kg13 hL, kg14 hL, kg16 hL, kg17 hL, kg18 hL, kg0 hL, kg2 hL, kg7 hL, kg11 hL, kg15 hL, kg19 hL, kg21 hL, kg23 hL, kg25 hL, ↓xbs (lF0_0 hL), ↓xbs (lF0_2 hL), ↓xbs (lF0_3 hL), ↓xbs (lF0_4 hL), ↓xbs (lF0_5 hL), ↓xbs (lF0_6 hL), ↓xbs (lF0_7 hL), ↓xbs (lF0_8 hL), ↓xbs (lF0_9 hL), ↓xbs (lF2_2 hL), ↓xbs (lF2_3 hL), ↓xbs (lF2_4 hL), ↓xbs (lF2_5 hL), ↓xbs (lF7_1 hL), ↓xbs (lF7_2 hL), ↓xbs (lF7_3 hL), ↓xbs (lF11_1 hL), ↓xbs (lF11_2 hL), ↓xbs (lF11_3 hL), ↓xbs (lF15_1 hL), ↓xbs (lF15_2 hL), ↓xbs (lF15_3 hL), kg1 hL, lF1 hL, ↓xF1c hL, kgT hL, kgR1 hL, kgR3 hL, kgR5 hL, ↓xT5 hL, ↓xT6 hL, ↓xT7 hL, lT5 hL, lT6 hL, lT7 hL, h1.1, e1]
    rw [hI1]
  · unfold m5_clear m5_begins
    have g1 : m5_begins_L32 148 K F J1 xFu I2 123 0 = some I3 := g1
    rw [hI2] at g1
    simp (disch := omega) only [↓xlet, xb_some, ↓reduceIte, cl_nI, nI_64, nI_add, nI_1, kg124 hL, kg125 hL, kg126 hL, kg127 hL, kg128 hL, kg129 hL, kg130 hL, kg131 hL, kg132 hL, kg133 hL, kg134 hL, kg135 hL, kg136 hL, kg137 hL, kg138 hL, kg139 hL, kg140 hL, kg141 hL, kg142 hL, kg143 hL, kg144 hL, kg145 hL, kg146 hL, kg147 hL, kg123 hL, ↓xbs (lF123_1 hL), ↓xbs (lF123_2 hL), ↓xbs (lF123_3 hL), ↓xbs (lF123_4 hL), ↓xbs (lF123_5 hL), ↓xbs (lF123_6 hL), ↓xbs (lF123_7 hL), ↓xbs (lF123_8 hL), ↓xbs (lF123_9 hL), ↓xbs (lF123_10 hL), ↓xbs (lF123_11 hL), ↓xbs (lF123_12 hL), ↓xbs (lF123_13 hL), ↓xbs (lF123_14 hL), ↓xbs (lF123_15 hL), ↓xbs (lF123_16 hL), ↓xbs (lF123_22 hL), ↓xbs (lF123_23 hL), ↓xbs (lF123_24 hL), ↓xbs (lF123_25 hL), ↓xbs (lF123_26 hL), ↓xbs (lF123_27 hL), ↓xbs (lF123_28 hL), ↓xbs (lF123_29 hL), y1.1, g1]
end
