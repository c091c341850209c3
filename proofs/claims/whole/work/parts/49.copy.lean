section
variable {K : Nat → Nat × Nat} {F : Nat → Nat → Option Nat} {I I' : Nat → Nat → Int32} {J J' : Nat → Nat → Int64} {n : Nat} {so o1 o2 : Nat → Nat} {p q : Nat → Int64} {ρ σ S β : Nat → Nat → Option Int64} {lg td nt nt' l : List (Nat × Nat × Option Int64 × Option Int64)} {bo : Bool} {b : List (Nat × Nat × Option Int64)} {κ κ' a : Nat → Option Int64}
theorem CS.fr2 (hn : n ≤ 12) (h : CS I J n so o1 o2 p q ρ β bo b lg td nt κ) (fi : ∀ a, a < 15 ∨ 18 < a → I' a = I a) (fj : ∀ a, a < 15 ∨ 24 < a → J' a = J a) (h8 : CLst I' J' 15 nt') (h9 : RA J' 19 κ') : CS I' J' n so o1 o2 p q ρ β bo b lg td nt' κ' := by
  obtain ⟨h1, h2, h3, h4, h5, h6, h7, _, _, h10⟩ := h
  refine ⟨h1.fr (fi 0 (by decide)) (fun t ht => ⟨fi _ (by omega), by rw [fj _ (by omega)], by rw [fj _ (by omega)]⟩), h2.fr (fun t ht => ⟨fj _ (by omega), fj _ (by omega)⟩), h3.fr (fun t ht => ⟨fj _ (by omega), fj _ (by omega)⟩), h4.fr (fun t ht => ⟨fj _ (by omega), fj _ (by omega)⟩), h5.fr (fi _ (by decide)) (fi _ (by decide)) (fi _ (by decide)) (fi _ (by decide)) (fj _ (by decide)), ?_, ?_, h8, h9, RA_move h10 (fj _ (by decide)) (fj _ (by decide))⟩
  · exact h6.fr (fi _ (by decide)) (fi _ (by decide)) (fj _ (by decide)) (fj _ (by decide))
  · exact h7.fr (fi _ (by decide)) (fi _ (by decide)) (fj _ (by decide)) (fj _ (by decide))
theorem RS.fr2 (hlg : lg.length ≤ 1500) (htd : td.length ≤ 768) (h : RS I J n so o1 o2 p q ρ β bo b lg td nt κ) (fi : ∀ a, a ≠ 123 → a ≠ 131 → (a < 135 ∨ 137 < a) → a ≠ 144 → a ≠ 146 → I' a = I a) (f3 : ∀ j, j ≠ 19 → I' 123 j = I 123 j) (fj : ∀ a, a ≠ 132 → a ≠ 138 → a ≠ 139 → a ≠ 145 → a ≠ 147 → J' a = J a) (fx : ∀ x, x < 2300 → I' 135 x = I 135 x ∧ I' 136 x = I 136 x ∧ I' 137 x = I 137 x ∧ J' 138 x = J 138 x ∧ J' 139 x = J 139 x) (h7 : RLst I' J' 19 2300 nt') (h8 : RCp I' J' κ') : RS I' J' n so o1 o2 p q ρ β bo b lg td nt' κ' := by
  obtain ⟨h1, h2, h3, h4, h5, h6, _, _⟩ := h
  have fi' : ∀ a, a ≠ 123 → a ≠ 131 → (a < 135 ∨ 137 < a) → a ≠ 144 → a ≠ 146 → I' a = I a := fi
  refine ⟨h1.fr (f3 _ (by decide)) (fi _ (by decide) (by decide) (by decide) (by decide) (by decide)) (fi _ (by decide) (by decide) (by decide) (by decide) (by decide)) (fi _ (by decide) (by decide) (by decide) (by decide) (by decide)) (fj _ (by decide) (by decide) (by decide) (by decide) (by decide)) (fj _ (by decide) (by decide) (by decide) (by decide) (by decide)), h2.fr (fi _ (by decide) (by decide) (by decide) (by decide) (by decide)) (fj _ (by decide) (by decide) (by decide) (by decide) (by decide)), h3.fr (fi _ (by decide) (by decide) (by decide) (by decide) (by decide)) (fj _ (by decide) (by decide) (by decide) (by decide) (by decide)), h4.fr (f3 _ (by decide)) (f3 _ (by decide)) (fi _ (by decide) (by decide) (by decide) (by decide) (by decide)) (fi _ (by decide) (by decide) (by decide) (by decide) (by decide)) (fi _ (by decide) (by decide) (by decide) (by decide) (by decide)) (fj _ (by decide) (by decide) (by decide) (by decide) (by decide)), h5.fr (f3 _ (by decide)) (fun x x1 x2 => fx x (by omega)), h6.fr (f3 _ (by decide)) (fun x x1 x2 => fx x (by omega)), h7, h8⟩
theorem r_cpL (hL : Lay K F) : ∀ (f k : Nat) (I : Nat → Nat → Int32) (J : Nat → Nat → Int64), k ≤ 64 → 64 - k < f → R1 I J 146 147 a → (∀ x, x < k → I 144 x = bi (a x).isSome ∧ J 145 x = (a x).getD 0) → ∃ I' J', m5_copy_L36 148 K F f I J 123 (nI (rcnt a k)) (nI k) = some (nI (rcnt a 64), I', J') ∧ R1 I' J' 144 145 a ∧ (∀ x, x ≠ 144 → I' x = I x) ∧ ∀ x, x ≠ 145 → J' x = J x
  | 0, k, I, J, h1, h2, _, _ => absurd h2 (by omega)
  | f + 1, k, I, J, h1, h2, hR, hx => by
    rw [m5_copy_L36]
    by_cases e : k = 64
    · subst e
      rw [if_pos (by decide)]
      exact ⟨I, J, rfl, hx, fun _ _ => rfl, fun _ _ => rfl⟩
    · have hk : k < 64 := by omega
      obtain ⟨y1, y2⟩ := hR k hk
      have b1 : (bi (a k).isSome = 0 ∨ bi (a k).isSome = 1) = True := eq_true (bi_01 _)
      rw [if_neg (n64 hk)]
      simp (disch := omega) only [↓xlet, xb_some, ↓reduceIte, cl_nI, nI_64, nI_add, nI_1, kg124 hL, kg125 hL, kg126 hL, kg127 hL, kg128 hL, kg129 hL, kg130 hL, kg131 hL, kg132 hL, kg133 hL, kg134 hL, kg135 hL, kg136 hL, kg137 hL, kg138 hL, kg139 hL, kg140 hL, kg141 hL, kg142 hL, kg143 hL, kg144 hL, kg145 hL, kg146 hL, kg147 hL, kg123 hL, ↓xbs (lF123_1 hL), ↓xbs (lF123_2 hL), ↓xbs (lF123_3 hL), ↓xbs (lF123_4 hL), ↓xbs (lF123_5 hL), ↓xbs (lF123_6 hL), ↓xbs (lF123_7 hL), ↓xbs (lF123_8 hL), ↓xbs (lF123_9 hL), ↓xbs (lF123_10 hL), ↓xbs (lF123_11 hL), ↓xbs (lF123_12 hL), ↓xbs (lF123_13 hL), ↓xbs (lF123_14 hL), ↓xbs (lF123_15 hL), ↓xbs (lF123_16 hL), ↓xbs (lF123_22 hL), ↓xbs (lF123_23 hL), ↓xbs (lF123_24 hL), ↓xbs (lF123_25 hL), ↓xbs (lF123_26 hL), ↓xbs (lF123_27 hL), ↓xbs (lF123_28 hL), ↓xbs (lF123_29 hL), y1, y2, b1, xu2]
      obtain ⟨I2, J2, g1, g2, g3, g4⟩ := r_cpL hL f (k + 1) (xu I 144 k (bi (a k).isSome)) (xu J 145 k ((a k).getD 0)) (by omega) (by omega) (hR.fr (xu_rw (by decide)) (xu_rw (by decide))) (fun x hxk => by
        by_cases z : x = k
        · subst z; rw [xu2, xu2]; exact ⟨rfl, rfl⟩
        · rw [xu3 _ _ z, xu3 _ _ z]; exact hx x (by omega))
      refine ⟨I2, J2, ?_, g2, fun x x1 => by rw [g3 x x1, xu_rw x1], fun x x1 => by rw [g4 x x1, xu_rw x1]⟩
      rw [← g1, rcnt]
      cases ev : a k with
      | none => rw [if_pos (show bi (none : Option Int64).isSome = 0 from rfl), Int32.add_zero]; rfl
      | some v => rw [if_neg (show ¬ bi (some v).isSome = 0 from (by decide : ¬ bi true = 0))]; rfl
theorem iv_copy (hL : Lay K F) (h : Inv I J) (a1 a2 : Int32) : ∃ x J1 I2 J2, m0_copy 148 K F I J 0 a1 a2 = some (x, J1) ∧ m5_copy 148 K F I J1 123 a1 a2 = some (x, I2, J2) ∧ Inv I2 J2 := by
  obtain ⟨n, so, o1, o2, p, q, ρ, β, bo, b, lg, td, nt, κ, hW, hC, hR⟩ := h
  have hI : Inv I J := ⟨n, so, o1, o2, p, q, ρ, β, bo, b, lg, td, nt, κ, hW, hC, hR⟩
  obtain ⟨h1, h2, h3, h4, h5, h6, h7, h8, h9, h10⟩ := id hC
  obtain ⟨w1, w2, w3, w4, w5, w6⟩ := id hW
  have hn := w1.1
  have hlg := w4.1
  have i6 : I 7 0 = nI lg.length := h6.1
  have ein : ∀ J, m5_isIn 148 K F I J (Int32.toInt64 a2) 0 (Int32.toInt64 (nI lg.length)) = some (bi (win a2 0 (nI lg.length))) := fun J => m_in (by decide) rfl
  by_cases ht : win a1 0 (nI n - 1) = true
  · obtain ⟨t, htn, rfl⟩ := (win_n (by omega)).mp ht
    have h12 : t < 12 := by omega
    by_cases hm : win a2 0 (nI lg.length) = true
    · obtain ⟨m, hml, rfl⟩ := (win_m (by omega)).mp hm
      obtain ⟨J1, e1, e2, e3⟩ := c_behind (I := I) hL w4 (lR19 hL) (by decide) (by decide) h12 hml (h4 t htn) h6
      have C1 : CS I J1 n so o1 o2 p q ρ β bo b lg td nt (beh (β t) t lg m) := hC.fr2 hn (fun _ _ => rfl) (fun a ha => e3 a (by omega) (by omega)) (h8.fr rfl rfl (e3 _ (by decide) (by decide)) (e3 _ (by decide) (by decide))) e2
      have hi : HiF I I J J1 := fun a ha => ⟨rfl, e3 a (by omega) (by omega)⟩
      have R1' := hR.fr hi
      obtain ⟨r1, r2, r3, r4, r5, r6, r7, r8⟩ := id R1'
      obtain ⟨I2, J2, g1, g2, g3, g4⟩ := r_goTo hL w4 htn hn hml r3 r5
      obtain ⟨I3, J3, d1, d2, d3, d4⟩ := r_cpL hL xFu 0 I2 J2 (by omega) (by unfold xFu; omega) g2 (fun x hx => by omega)
      have d1 : m5_copy_L36 148 K F xFu I2 J2 123 0 0 = some (nI (rcnt (beh (β t) t lg m) 64), I3, J3) := d1
      have FI : ∀ x, x ≠ 144 → x ≠ 146 → I3 x = I x := fun x x1 x2 => by rw [d3 x x1, g3 x x2]
      have FJ : ∀ x, x ≠ 145 → x ≠ 147 → J3 x = J1 x := fun x x1 x2 => by rw [d4 x x1, g4 x x2]
      refine ⟨nI (rcnt (beh (β t) t lg m) 64), J1, I3, J3, ?_, ?_, n, so, o1, o2, p, q, ρ, β, bo, b, lg, td, nt, beh (β t) t lg m, hW, C1.fr hn (fun a ha => ⟨FI a (by omega) (by omega), FJ a (by omega) (by omega)⟩), R1'.fr2 w4.1 w5.1 (fun a _ _ _ x4 x5 => FI a x4 x5) (fun j _ => by rw [FI 123 (by decide) (by decide)]) (fun a _ _ _ x4 x5 => FJ a x4 x5) (fun x _ => by rw [FI 135 (by decide) (by decide), FI 136 (by decide) (by decide), FI 137 (by decide) (by decide), FJ 138 (by decide) (by decide), FJ 139 (by decide) (by decide)]; exact ⟨rfl, rfl, rfl, rfl, rfl⟩) (r7.fr' (by rw [FI 123 (by decide) (by decide)]) (FI _ (by decide) (by decide)) (FI _ (by decide) (by decide)) (FI _ (by decide) (by decide)) (FJ _ (by decide) (by decide)) (FJ _ (by decide) (by decide))) (fun k hk => ⟨(d2 k hk).1, fun v e => by rw [(d2 k hk).2, e]; rfl⟩)⟩
      · unfold m0_copy
        simp (disch := omega) only [↓xlet, xb_some, ↓reduceIte, cl_nI, nI_64, nI_add, nI_1, kg3 hL, kg4 hL, kg5 hL, kg6 hL, kg8 hL, kg9 hL, kg10 hL, kg12 hL, kg13 hL, kg14 hL, kg16 hL, kg17 hL, kg18 hL, kg0 hL, kg2 hL, kg7 hL, kg11 hL, kg15 hL, kg19 hL, kg21 hL, kg23 hL, kg25 hL, ↓xbs (lF0_0 hL), ↓xbs (lF0_2 hL), ↓xbs (lF0_3 hL), ↓xbs (lF0_4 hL), ↓xbs (lF0_5 hL), ↓xbs (lF0_6 hL), ↓xbs (lF0_7 hL), ↓xbs (lF0_8 hL), ↓xbs (lF0_9 hL), ↓xbs (lF2_2 hL), ↓xbs (lF2_3 hL), ↓xbs (lF2_4 hL), ↓xbs (lF2_5 hL), ↓xbs (lF7_1 hL), ↓xbs (lF7_2 hL), ↓xbs (lF7_3 hL), ↓xbs (lF11_1 hL), ↓xbs (lF11_2 hL), ↓xbs (lF11_3 hL), ↓xbs (lF15_1 hL), ↓xbs (lF15_2 hL), ↓xbs (lF15_3 hL), kg1 hL, lF1 hL, ↓xF1c hL, kgT hL, kgR1 hL, kgR3 hL, kgR5 hL, ↓xT5 hL, ↓xT6 hL, ↓xT7 hL, lT5 hL, lT6 hL, lT7 hL, ↓xisT hL h1.1, ht, bi_z, Bool.true_eq_false, i6, ↓xisW, hm, not_false_eq_true, ↓xbs e1, m_size (lR19 hL) e2]
      · unfold m5_copy
        simp (disch := omega) only [↓xlet, xb_some, ↓reduceIte, cl_nI, nI_64, nI_add, nI_1, kg124 hL, kg125 hL, kg126 hL, kg127 hL, kg128 hL, kg129 hL, kg130 hL, kg131 hL, kg132 hL, kg133 hL, kg134 hL, kg135 hL, kg136 hL, kg137 hL, kg138 hL, kg139 hL, kg140 hL, kg141 hL, kg142 hL, kg143 hL, kg144 hL, kg145 hL, kg146 hL, kg147 hL, kg123 hL, ↓xbs (lF123_1 hL), ↓xbs (lF123_2 hL), ↓xbs (lF123_3 hL), ↓xbs (lF123_4 hL), ↓xbs (lF123_5 hL), ↓xbs (lF123_6 hL), ↓xbs (lF123_7 hL), ↓xbs (lF123_8 hL), ↓xbs (lF123_9 hL), ↓xbs (lF123_10 hL), ↓xbs (lF123_11 hL), ↓xbs (lF123_12 hL), ↓xbs (lF123_13 hL), ↓xbs (lF123_14 hL), ↓xbs (lF123_15 hL), ↓xbs (lF123_16 hL), ↓xbs (lF123_22 hL), ↓xbs (lF123_23 hL), ↓xbs (lF123_24 hL), ↓xbs (lF123_25 hL), ↓xbs (lF123_26 hL), ↓xbs (lF123_27 hL), ↓xbs (lF123_28 hL), ↓xbs (lF123_29 hL), ↓xrT hL r1.1, ht, bi_z, Bool.true_eq_false, r5.1, ↓xbs (ein J1), hm, not_false_eq_true, ↓xbs g1, d1]
    · have hm := bt_n hm
      refine ⟨-2, J, I, J, ?_, ?_, hI⟩
      · unfold m0_copy
        simp (disch := omega) only [↓xlet, xb_some, ↓reduceIte, cl_nI, nI_64, nI_add, nI_1, kg3 hL, kg4 hL, kg5 hL, kg6 hL, kg8 hL, kg9 hL, kg10 hL, kg12 hL, kg13 hL, kg14 hL, kg16 hL, kg17 hL, kg18 hL, kg0 hL, kg2 hL, kg7 hL, kg11 hL, kg15 hL, kg19 hL, kg21 hL, kg23 hL, kg25 hL, ↓xbs (lF0_0 hL), ↓xbs (lF0_2 hL), ↓xbs (lF0_3 hL), ↓xbs (lF0_4 hL), ↓xbs (lF0_5 hL), ↓xbs (lF0_6 hL), ↓xbs (lF0_7 hL), ↓xbs (lF0_8 hL), ↓xbs (lF0_9 hL), ↓xbs (lF2_2 hL), ↓xbs (lF2_3 hL), ↓xbs (lF2_4 hL), ↓xbs (lF2_5 hL), ↓xbs (lF7_1 hL), ↓xbs (lF7_2 hL), ↓xbs (lF7_3 hL), ↓xbs (lF11_1 hL), ↓xbs (lF11_2 hL), ↓xbs (lF11_3 hL), ↓xbs (lF15_1 hL), ↓xbs (lF15_2 hL), ↓xbs (lF15_3 hL), kg1 hL, lF1 hL, ↓xF1c hL, kgT hL, kgR1 hL, kgR3 hL, kgR5 hL, ↓xT5 hL, ↓xT6 hL, ↓xT7 hL, lT5 hL, lT6 hL, lT7 hL, ↓xisT hL h1.1, ht, bi_z, Bool.true_eq_false, i6, ↓xisW, hm, not_true_eq_false]
      · unfold m5_copy
        simp (disch := omega) only [↓xlet, xb_some, ↓reduceIte, cl_nI, nI_64, nI_add, nI_1, kg124 hL, kg125 hL, kg126 hL, kg127 hL, kg128 hL, kg129 hL, kg130 hL, kg131 hL, kg132 hL, kg133 hL, kg134 hL, kg135 hL, kg136 hL, kg137 hL, kg138 hL, kg139 hL, kg140 hL, kg141 hL, kg142 hL, kg143 hL, kg144 hL, kg145 hL, kg146 hL, kg147 hL, kg123 hL, ↓xbs (lF123_1 hL), ↓xbs (lF123_2 hL), ↓xbs (lF123_3 hL), ↓xbs (lF123_4 hL), ↓xbs (lF123_5 hL), ↓xbs (lF123_6 hL), ↓xbs (lF123_7 hL), ↓xbs (lF123_8 hL), ↓xbs (lF123_9 hL), ↓xbs (lF123_10 hL), ↓xbs (lF123_11 hL), ↓xbs (lF123_12 hL), ↓xbs (lF123_13 hL), ↓xbs (lF123_14 hL), ↓xbs (lF123_15 hL), ↓xbs (lF123_16 hL), ↓xbs (lF123_22 hL), ↓xbs (lF123_23 hL), ↓xbs (lF123_24 hL), ↓xbs (lF123_25 hL), ↓xbs (lF123_26 hL), ↓xbs (lF123_27 hL), ↓xbs (lF123_28 hL), ↓xbs (lF123_29 hL), ↓xrT hL hR.1.1, ht, bi_z, Bool.true_eq_false, hR.2.2.2.2.1.1, ↓xbs (ein J), hm, not_true_eq_false]
  · have ht := bt_n ht
    refine ⟨-2, J, I, J, ?_, ?_, hI⟩
    · unfold m0_copy
      simp (disch := omega) only [↓xlet, xb_some, ↓reduceIte, cl_nI, nI_64, nI_add, nI_1, kg3 hL, kg4 hL, kg5 hL, kg6 hL, kg8 hL, kg9 hL, kg10 hL, kg12 hL, kg13 hL, kg14 hL, kg16 hL, kg17 hL, kg18 hL, kg0 hL, kg2 hL, kg7 hL, kg11 hL, kg15 hL, kg19 hL, kg21 hL, kg23 hL, kg25 hL, ↓xbs (lF0_0 hL), ↓xbs (lF0_2 hL), ↓xbs (lF0_3 hL), ↓xbs (lF0_4 hL), ↓xbs (lF0_5 hL), ↓xbs (lF0_6 hL), ↓xbs (lF0_7 hL), ↓xbs (lF0_8 hL), ↓xbs (lF0_9 hL), ↓xbs (lF2_2 hL), ↓xbs (lF2_3 hL), ↓xbs (lF2_4 hL), ↓xbs (lF2_5 hL), ↓xbs (lF7_1 hL), ↓xbs (lF7_2 hL), ↓xbs (lF7_3 hL), ↓xbs (lF11_1 hL), ↓xbs (lF11_2 hL), ↓xbs (lF11_3 hL), ↓xbs (lF15_1 hL), ↓xbs (lF15_2 hL), ↓xbs (lF15_3 hL), kg1 hL, lF1 hL, ↓xF1c hL, kgT hL, kgR1 hL, kgR3 hL, kgR5 hL, ↓xT5 hL, ↓xT6 hL, ↓xT7 hL, lT5 hL, lT6 hL, lT7 hL, ↓xisT hL h1.1, ht, bi_z]
    · unfold m5_copy
      simp (disch := omega) only [↓xlet, xb_some, ↓reduceIte, cl_nI, nI_64, nI_add, nI_1, kg124 hL, kg125 hL, kg126 hL, kg127 hL, kg128 hL, kg129 hL, kg130 hL, kg131 hL, kg132 hL, kg133 hL, kg134 hL, kg135 hL, kg136 hL, kg137 hL, kg138 hL, kg139 hL, kg140 hL, kg141 hL, kg142 hL, kg143 hL, kg144 hL, kg145 hL, kg146 hL, kg147 hL, kg123 hL, ↓xbs (lF123_1 hL), ↓xbs (lF123_2 hL), ↓xbs (lF123_3 hL), ↓xbs (lF123_4 hL), ↓xbs (lF123_5 hL), ↓xbs (lF123_6 hL), ↓xbs (lF123_7 hL), ↓xbs (lF123_8 hL), ↓xbs (lF123_9 hL), ↓xbs (lF123_10 hL), ↓xbs (lF123_11 hL), ↓xbs (lF123_12 hL), ↓xbs (lF123_13 hL), ↓xbs (lF123_14 hL), ↓xbs (lF123_15 hL), ↓xbs (lF123_16 hL), ↓xbs (lF123_22 hL), ↓xbs (lF123_23 hL), ↓xbs (lF123_24 hL), ↓xbs (lF123_25 hL), ↓xbs (lF123_26 hL), ↓xbs (lF123_27 hL), ↓xbs (lF123_28 hL), ↓xbs (lF123_29 hL), ↓xrT hL hR.1.1, ht, bi_z]
end
