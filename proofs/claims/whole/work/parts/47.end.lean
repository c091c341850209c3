/-- rows with the first changes of a batch -/
def ap (ρ : Nat → Nat → Option Int64) (b : List (Nat × Nat × Option Int64)) : Nat → Nat → Nat → Option Int64
  | 0 => ρ
  | i + 1 => match b[i]? with
    | none => ap ρ b i
    | some (t, k, v) => fset (ap ρ b i) t (rset (ap ρ b i t) k v)
section
variable {K : Nat → Nat × Nat} {F : Nat → Nat → Option Nat} {I I' : Nat → Nat → Int32} {J J' : Nat → Nat → Int64} {n : Nat} {so o1 o2 : Nat → Nat} {p q : Nat → Int64} {ρ σ S β : Nat → Nat → Option Int64} {lg td nt l : List (Nat × Nat × Option Int64 × Option Int64)} {bo : Bool} {b : List (Nat × Nat × Option Int64)} {κ : Nat → Option Int64}
theorem ap_s {i t k : Nat} {v : Option Int64} (e : b[i]? = some (t, k, v)) : ap ρ b (i + 1) = fset (ap ρ b i) t (rset (ap ρ b i t) k v) := by
  simp only [ap, e]
theorem ap_d (hb : BOk n so b) {x : Nat} (z : so x ≠ 0) : ∀ i, ap ρ b i x = ρ x
  | 0 => rfl
  | i + 1 => by
    cases e : b[i]? with
    | none => simp only [ap, e]; exact ap_d hb z i
    | some y =>
      obtain ⟨t, k, v⟩ := y
      rw [ap_s e, fs_o (fun h => z (by rw [h]; exact (hb.2 i t k v e).2.1))]
      exact ap_d hb z i
theorem c_endL (hL : Lay K F) (hn : n ≤ 12) (hB : BOk n so b) {J0 : Nat → Nat → Int64} (h5 : CBat I J0 true b) : ∀ (f i : Nat) (J : Nat → Nat → Int64), i ≤ b.length → b.length - i < f → J 6 = J0 6 → CRows J n 3 (ap ρ b i) → ∃ J', m0_end_L15 148 K F f I J 0 (nI i) = (xb (m0_settle 148 K F I J' 0) fun (x4, I5, J6) => if x4 = (-3 : Int32) then (some (x4, I5, J6)) else (xb (m1_close 148 K F I5 J6 2) fun I8 => some (x4, I8, J6))) ∧ CRows J' n 3 (ap ρ b b.length) ∧ ∀ a, (∀ x, x < 12 → a ≠ 27 + 8 * x + 3 ∧ a ≠ 27 + 8 * x + 4) → J' a = J a
  | 0, i, J, h1, h2, _, _ => absurd h2 (by omega)
  | f + 1, i, J, h1, h2, hj, hR => by
    obtain ⟨c1, c2⟩ := h5.2 rfl
    have hb40 := hB.1
    rw [m0_end_L15]
    simp (disch := omega) only [↓xlet, xb_some, ↓reduceIte, cl_nI, nI_64, nI_add, nI_1, kg3 hL, kg4 hL, kg5 hL, kg6 hL, kg8 hL, kg9 hL, kg10 hL, kg12 hL, kg13 hL, kg14 hL, kg16 hL, kg17 hL, kg18 hL, kg0 hL, kg2 hL, kg7 hL, kg11 hL, kg15 hL, kg19 hL, kg21 hL, kg23 hL, kg25 hL, ↓xbs (lF0_0 hL), ↓xbs (lF0_2 hL), ↓xbs (lF0_3 hL), ↓xbs (lF0_4 hL), ↓xbs (lF0_5 hL), ↓xbs (lF0_6 hL), ↓xbs (lF0_7 hL), ↓xbs (lF0_8 hL), ↓xbs (lF0_9 hL), ↓xbs (lF2_2 hL), ↓xbs (lF2_3 hL), ↓xbs (lF2_4 hL), ↓xbs (lF2_5 hL), ↓xbs (lF7_1 hL), ↓xbs (lF7_2 hL), ↓xbs (lF7_3 hL), ↓xbs (lF11_1 hL), ↓xbs (lF11_2 hL), ↓xbs (lF11_3 hL), ↓xbs (lF15_1 hL), ↓xbs (lF15_2 hL), ↓xbs (lF15_3 hL), kg1 hL, lF1 hL, ↓xF1c hL, kgT hL, kgR1 hL, kgR3 hL, kgR5 hL, ↓xT5 hL, ↓xT6 hL, ↓xT7 hL, lT5 hL, lT6 hL, lT7 hL, c1]
    by_cases e : i = b.length
    · rw [if_pos (nI_le (by omega) (by omega))]
      exact ⟨J, rfl, by rw [← e]; exact hR, fun _ _ => rfl⟩
    · have hi : i < b.length := by omega
      obtain ⟨⟨t, k, v⟩, eb⟩ := get_ex hi
      obtain ⟨ht, hs, hk⟩ := hB.2 i t k v eb
      obtain ⟨q1, q2, q3, q4⟩ := c2 i t k v eb
      have h12 : t < 12 := by omega
      rw [if_neg (nI_ge hi (by omega))]
      obtain ⟨J1, e1, e2, e3⟩ := wrt (I := I) (lRT3 hL h12) (hR t ht) hk v
      simp (disch := omega) only [↓xlet, xb_some, ↓reduceIte, cl_nI, nI_64, nI_add, nI_1, kg3 hL, kg4 hL, kg5 hL, kg6 hL, kg8 hL, kg9 hL, kg10 hL, kg12 hL, kg13 hL, kg14 hL, kg16 hL, kg17 hL, kg18 hL, kg0 hL, kg2 hL, kg7 hL, kg11 hL, kg15 hL, kg19 hL, kg21 hL, kg23 hL, kg25 hL, ↓xbs (lF0_0 hL), ↓xbs (lF0_2 hL), ↓xbs (lF0_3 hL), ↓xbs (lF0_4 hL), ↓xbs (lF0_5 hL), ↓xbs (lF0_6 hL), ↓xbs (lF0_7 hL), ↓xbs (lF0_8 hL), ↓xbs (lF0_9 hL), ↓xbs (lF2_2 hL), ↓xbs (lF2_3 hL), ↓xbs (lF2_4 hL), ↓xbs (lF2_5 hL), ↓xbs (lF7_1 hL), ↓xbs (lF7_2 hL), ↓xbs (lF7_3 hL), ↓xbs (lF11_1 hL), ↓xbs (lF11_2 hL), ↓xbs (lF11_3 hL), ↓xbs (lF15_1 hL), ↓xbs (lF15_2 hL), ↓xbs (lF15_3 hL), kg1 hL, lF1 hL, ↓xF1c hL, kgT hL, kgR1 hL, kgR3 hL, kgR5 hL, ↓xT5 hL, ↓xT6 hL, ↓xT7 hL, lT5 hL, lT6 hL, lT7 hL, q1, q2, q3, hj, q4, ↓xbs e1]
      obtain ⟨J2, g1, g2, g3⟩ := c_endL hL hn hB h5 f (i + 1) J1 (by omega) (by omega) (by rw [e3 6 (by omega) (by omega)]; exact hj) (fun x hx => by
        rw [ap_s eb]
        by_cases c : x = t
        · subst c; rw [fs_n]; exact e2
        · rw [fs_o c]; exact RA_move (hR x hx) (e3 _ (by omega) (by omega)) (e3 _ (by omega) (by omega)))
      exact ⟨J2, g1, g2, fun a ha => by rw [g3 a ha, e3 a (ha t h12).1 (ha t h12).2]⟩
theorem r_endL (hL : Lay K F) (hn : n ≤ 12) (hB : BOk n so b) {I0 : Nat → Nat → Int32} {J0 : Nat → Nat → Int64} (h5 : RBat I0 J0 true b) : ∀ (f i : Nat) (I : Nat → Nat → Int32) (J : Nat → Nat → Int64), i ≤ b.length → b.length - i < f → (I 123 = I0 123 ∧ I 140 = I0 140 ∧ I 141 = I0 141 ∧ I 142 = I0 142 ∧ J 143 = J0 143) → RRows I J 129 130 n (ap ρ b i) → ∃ I' J', m5_end_L16 148 K F f I J 123 (nI i) = (xb (m5_tell 148 K F I' J' 123) fun (x2, I3, J4) => if ¬ x2 = (-3 : Int32) then (xlet (xu I3 123 20 (0 : Int32)) fun I6 => some (x2, I6, J4)) else (xlet (xu I3 123 20 (1 : Int32)) fun I7 => some (x2, I7, J4))) ∧ RRows I' J' 129 130 n (ap ρ b b.length) ∧ (∀ a, a ≠ 129 → I' a = I a) ∧ ∀ a, a ≠ 130 → J' a = J a
  | 0, i, I, J, h1, h2, _, _ => absurd h2 (by omega)
  | f + 1, i, I, J, h1, h2, hj, hR => by
    obtain ⟨c1, c2⟩ := h5.2 rfl
    have hb40 := hB.1
    obtain ⟨j1, j2, j3, j4, j5⟩ := hj
    rw [m5_end_L16]
    simp (disch := omega) only [↓xlet, xb_some, ↓reduceIte, cl_nI, nI_64, nI_add, nI_1, kg124 hL, kg125 hL, kg126 hL, kg127 hL, kg128 hL, kg129 hL, kg130 hL, kg131 hL, kg132 hL, kg133 hL, kg134 hL, kg135 hL, kg136 hL, kg137 hL, kg138 hL, kg139 hL, kg140 hL, kg141 hL, kg142 hL, kg143 hL, kg144 hL, kg145 hL, kg146 hL, kg147 hL, kg123 hL, ↓xbs (lF123_1 hL), ↓xbs (lF123_2 hL), ↓xbs (lF123_3 hL), ↓xbs (lF123_4 hL), ↓xbs (lF123_5 hL), ↓xbs (lF123_6 hL), ↓xbs (lF123_7 hL), ↓xbs (lF123_8 hL), ↓xbs (lF123_9 hL), ↓xbs (lF123_10 hL), ↓xbs (lF123_11 hL), ↓xbs (lF123_12 hL), ↓xbs (lF123_13 hL), ↓xbs (lF123_14 hL), ↓xbs (lF123_15 hL), ↓xbs (lF123_16 hL), ↓xbs (lF123_22 hL), ↓xbs (lF123_23 hL), ↓xbs (lF123_24 hL), ↓xbs (lF123_25 hL), ↓xbs (lF123_26 hL), ↓xbs (lF123_27 hL), ↓xbs (lF123_28 hL), ↓xbs (lF123_29 hL), j1, c1]
    by_cases e : i = b.length
    · rw [if_pos (nI_le (by omega) (by omega))]
      exact ⟨I, J, rfl, by rw [← e]; exact hR, fun _ _ => rfl, fun _ _ => rfl⟩
    · have hi : i < b.length := by omega
      obtain ⟨⟨t, k, v⟩, eb⟩ := get_ex hi
      obtain ⟨ht, hs, hk⟩ := hB.2 i t k v eb
      obtain ⟨q1, q2, q3, q4⟩ := c2 i t k v eb
      have h12 : t < 12 := by omega
      rw [if_neg (nI_ge hi (by omega))]
      obtain ⟨I1, J1, e1, e2, e3⟩ := r_setOr hL hn hR ht hk v
      simp (disch := omega) only [↓xlet, xb_some, ↓reduceIte, cl_nI, nI_64, nI_add, nI_1, kg124 hL, kg125 hL, kg126 hL, kg127 hL, kg128 hL, kg129 hL, kg130 hL, kg131 hL, kg132 hL, kg133 hL, kg134 hL, kg135 hL, kg136 hL, kg137 hL, kg138 hL, kg139 hL, kg140 hL, kg141 hL, kg142 hL, kg143 hL, kg144 hL, kg145 hL, kg146 hL, kg147 hL, kg123 hL, ↓xbs (lF123_1 hL), ↓xbs (lF123_2 hL), ↓xbs (lF123_3 hL), ↓xbs (lF123_4 hL), ↓xbs (lF123_5 hL), ↓xbs (lF123_6 hL), ↓xbs (lF123_7 hL), ↓xbs (lF123_8 hL), ↓xbs (lF123_9 hL), ↓xbs (lF123_10 hL), ↓xbs (lF123_11 hL), ↓xbs (lF123_12 hL), ↓xbs (lF123_13 hL), ↓xbs (lF123_14 hL), ↓xbs (lF123_15 hL), ↓xbs (lF123_16 hL), ↓xbs (lF123_22 hL), ↓xbs (lF123_23 hL), ↓xbs (lF123_24 hL), ↓xbs (lF123_25 hL), ↓xbs (lF123_26 hL), ↓xbs (lF123_27 hL), ↓xbs (lF123_28 hL), ↓xbs (lF123_29 hL), j2, j3, j4, j5, q1, q2, q3, q4, ↓xbs e1]
      obtain ⟨I2, J2, g1, g2, g3, g4⟩ := r_endL hL hn hB h5 f (i + 1) I1 J1 (by omega) (by omega) ⟨by rw [e2.1 _ (by decide)]; exact j1, by rw [e2.1 _ (by decide)]; exact j2, by rw [e2.1 _ (by decide)]; exact j3, by rw [e2.1 _ (by decide)]; exact j4, by rw [e2.2.1 _ (by decide)]; exact j5⟩ (by rw [ap_s eb]; exact e3)
      exact ⟨I2, J2, g1, g2, fun a ha => by rw [g3 a ha, e2.1 a ha], fun a ha => by rw [g4 a ha, e2.2.1 a ha]⟩
theorem r_end (hL : Lay K F) (hW : WS n so o1 o2 p q ρ b lg td nt) (hR : RS I J n so o1 o2 p q ρ β true b lg td nt κ) (hG : Sg n so o1 o2 p q (ap ρ b b.length) S) : ∃ I' J', LoF I I' J J' ∧ (lg.length + (stT ρ S n).length ≤ 1500 → m5_end 148 K F I J 123 = some (nI (stT ρ S n).length, I', J') ∧ RS I' J' n so o1 o2 p q S β false [] (lg ++ stT ρ S n) (stT ρ S n) nt κ) ∧ (¬ lg.length + (stT ρ S n).length ≤ 1500 → m5_end 148 K F I J 123 = some (-3, I', J') ∧ RS I' J' n so o1 o2 p q ρ β true b lg td nt κ) := by
  obtain ⟨w1, w2, w3, w4, w5, w6⟩ := id hW
  have hn := w1.1
  have nl := stT_len ρ S n
  obtain ⟨r1, r2, r3, r4, r5, r6, r7, r8⟩ := hR
  obtain ⟨I2, J2, x1, x2, x3, x4⟩ := r_keep hL hn r1.1 r2
  have R2 : RRows I2 J2 129 130 n ρ := r2.fr (x2 _ (by decide)) (x3 _ (by decide))
  have b40 := w3.1
  obtain ⟨I3, J3, y1, y3, y4, y5⟩ := r_endL (ρ := ρ) hL hn w3 r4 xFu 0 I2 J2 (by omega) (by unfold xFu; omega) ⟨x2 _ (by decide), x2 _ (by decide), x2 _ (by decide), x2 _ (by decide), x3 _ (by decide)⟩ R2
  have y1 : m5_end_L16 148 K F xFu I2 J2 123 0 = _ := y1
  have FI : ∀ a, a ≠ 131 → a ≠ 129 → I3 a = I a := fun a a1 a9 => by rw [y4 a a9, x2 a a1]
  have FJ : ∀ a, a ≠ 132 → a ≠ 130 → J3 a = J a := fun a a1 a9 => by rw [y5 a a9, x3 a a1]
  have F3 : ∀ j, I3 123 j = I 123 j := fun j => by rw [FI 123 (by decide) (by decide)]
  obtain ⟨I4, J4, z1, z2, z3⟩ := r_tell (σ := ap ρ b b.length) (S := S) (ρ := ρ) hL w1 hG w4.1 w5.1 (r1.fr (F3 _) (FI _ (by decide) (by decide)) (FI _ (by decide) (by decide)) (FI _ (by decide) (by decide)) (FJ _ (by decide) (by decide)) (FJ _ (by decide) (by decide))) y3 (x4.fr (y4 _ (by decide)) (y5 _ (by decide))) (r3.fr (FI _ (by decide) (by decide)) (FJ _ (by decide) (by decide))) (r4.fr (F3 _) (F3 _) (FI _ (by decide) (by decide)) (FI _ (by decide) (by decide)) (FI _ (by decide) (by decide)) (FJ _ (by decide) (by decide))) (r5.fr' (F3 _) (FI _ (by decide) (by decide)) (FI _ (by decide) (by decide)) (FI _ (by decide) (by decide)) (FJ _ (by decide) (by decide)) (FJ _ (by decide) (by decide))) (r6.fr' (F3 _) (FI _ (by decide) (by decide)) (FI _ (by decide) (by decide)) (FI _ (by decide) (by decide)) (FJ _ (by decide) (by decide)) (FJ _ (by decide) (by decide))) (r7.fr' (F3 _) (FI _ (by decide) (by decide)) (FI _ (by decide) (by decide)) (FI _ (by decide) (by decide)) (FJ _ (by decide) (by decide)) (FJ _ (by decide) (by decide))) (r8.fr (FI _ (by decide) (by decide)) (FJ _ (by decide) (by decide)))
  have lo : LoF I I4 J J4 := fun a ha => ⟨by rw [(z1 a ha).1, FI a (by omega) (by omega)], by rw [(z1 a ha).2, FJ a (by omega) (by omega)]⟩
  by_cases c : lg.length + (stT ρ S n).length ≤ 1500
  · obtain ⟨u1, u2⟩ := z2 c
    refine ⟨xu I4 123 20 0, J4, fun a ha => ⟨by rw [xu_rw (by omega)]; exact (lo a ha).1, (lo a ha).2⟩, fun _ => ⟨?_, u2.bat (fun a ha hb => xu_rw ha) (fun j ja jb => xu3 _ _ ja) (fun _ _ => rfl) ⟨by rw [xu2]; rfl, fun z => by cases z⟩⟩, fun z => absurd c z⟩
    have ne : (nI (stT ρ S n).length = (-3 : Int32)) = False := eq_false (nI_neg (by omega) (by decide))
    unfold m5_end
    simp (disch := omega) only [↓xlet, xb_some, ↓reduceIte, cl_nI, nI_64, nI_add, nI_1, kg124 hL, kg125 hL, kg126 hL, kg127 hL, kg128 hL, kg129 hL, kg130 hL, kg131 hL, kg132 hL, kg133 hL, kg134 hL, kg135 hL, kg136 hL, kg137 hL, kg138 hL, kg139 hL, kg140 hL, kg141 hL, kg142 hL, kg143 hL, kg144 hL, kg145 hL, kg146 hL, kg147 hL, kg123 hL, ↓xbs (lF123_1 hL), ↓xbs (lF123_2 hL), ↓xbs (lF123_3 hL), ↓xbs (lF123_4 hL), ↓xbs (lF123_5 hL), ↓xbs (lF123_6 hL), ↓xbs (lF123_7 hL), ↓xbs (lF123_8 hL), ↓xbs (lF123_9 hL), ↓xbs (lF123_10 hL), ↓xbs (lF123_11 hL), ↓xbs (lF123_12 hL), ↓xbs (lF123_13 hL), ↓xbs (lF123_14 hL), ↓xbs (lF123_15 hL), ↓xbs (lF123_16 hL), ↓xbs (lF123_22 hL), ↓xbs (lF123_23 hL), ↓xbs (lF123_24 hL), ↓xbs (lF123_25 hL), ↓xbs (lF123_26 hL), ↓xbs (lF123_27 hL), ↓xbs (lF123_28 hL), ↓xbs (lF123_29 hL), r4.1, bt0, not_false_eq_true, ↓xbs x1, y1, ↓xbs u1, ne]
  · obtain ⟨u1, u2⟩ := z3 c
    obtain ⟨u41, u42⟩ := u2.2.2.2.1
    refine ⟨xu I4 123 20 1, J4, fun a ha => ⟨by rw [xu_rw (by omega)]; exact (lo a ha).1, (lo a ha).2⟩, fun z => absurd z c, fun _ => ⟨?_, u2.bat (fun a ha hb => xu_rw ha) (fun j ja jb => xu3 _ _ ja) (fun _ _ => rfl) ⟨by rw [xu2]; rfl, fun _ => ?_⟩⟩⟩
    · unfold m5_end
      simp (disch := omega) only [↓xlet, xb_some, ↓reduceIte, cl_nI, nI_64, nI_add, nI_1, kg124 hL, kg125 hL, kg126 hL, kg127 hL, kg128 hL, kg129 hL, kg130 hL, kg131 hL, kg132 hL, kg133 hL, kg134 hL, kg135 hL, kg136 hL, kg137 hL, kg138 hL, kg139 hL, kg140 hL, kg141 hL, kg142 hL, kg143 hL, kg144 hL, kg145 hL, kg146 hL, kg147 hL, kg123 hL, ↓xbs (lF123_1 hL), ↓xbs (lF123_2 hL), ↓xbs (lF123_3 hL), ↓xbs (lF123_4 hL), ↓xbs (lF123_5 hL), ↓xbs (lF123_6 hL), ↓xbs (lF123_7 hL), ↓xbs (lF123_8 hL), ↓xbs (lF123_9 hL), ↓xbs (lF123_10 hL), ↓xbs (lF123_11 hL), ↓xbs (lF123_12 hL), ↓xbs (lF123_13 hL), ↓xbs (lF123_14 hL), ↓xbs (lF123_15 hL), ↓xbs (lF123_16 hL), ↓xbs (lF123_22 hL), ↓xbs (lF123_23 hL), ↓xbs (lF123_24 hL), ↓xbs (lF123_25 hL), ↓xbs (lF123_26 hL), ↓xbs (lF123_27 hL), ↓xbs (lF123_28 hL), ↓xbs (lF123_29 hL), r4.1, bt0, not_false_eq_true, ↓xbs x1, y1, ↓xbs u1, not_true_eq_false]
    · rw [xu3 _ _ (by decide), xu_rw (by decide), xu_rw (by decide), xu_rw (by decide)]
      exact u42 rfl
theorem iv_end (hL : Lay K F) (h : Inv I J) : ∃ x I1 J1 I2 J2, m0_end 148 K F I J 0 = some (x, I1, J1) ∧ m5_end 148 K F I1 J1 123 = some (x, I2, J2) ∧ Inv I2 J2 := by
  obtain ⟨n, so, o1, o2, p, q, ρ, β, bo, b, lg, td, nt, κ, hW, hC, hR⟩ := h
  obtain ⟨h1, h2, h3, h4, h5, h6, h7, h8, h9, h10⟩ := id hC
  obtain ⟨w1, w2, w3, w4, w5, w6⟩ := id hW
  have hn := w1.1
  have nl := fun S => stT_len ρ S n
  cases bo with
  | false =>
    refine ⟨-4, I, J, I, J, ?_, ?_, n, so, o1, o2, p, q, ρ, β, false, b, lg, td, nt, κ, hW, hC, hR⟩
    · unfold m0_end; simp (disch := omega) only [↓xlet, xb_some, ↓reduceIte, cl_nI, nI_64, nI_add, nI_1, kg3 hL, kg4 hL, kg5 hL, kg6 hL, kg8 hL, kg9 hL, kg10 hL, kg12 hL, kg13 hL, kg14 hL, kg16 hL, kg17 hL, kg18 hL, kg0 hL, kg2 hL, kg7 hL, kg11 hL, kg15 hL, kg19 hL, kg21 hL, kg23 hL, kg25 hL, ↓xbs (lF0_0 hL), ↓xbs (lF0_2 hL), ↓xbs (lF0_3 hL), ↓xbs (lF0_4 hL), ↓xbs (lF0_5 hL), ↓xbs (lF0_6 hL), ↓xbs (lF0_7 hL), ↓xbs (lF0_8 hL), ↓xbs (lF0_9 hL), ↓xbs (lF2_2 hL), ↓xbs (lF2_3 hL), ↓xbs (lF2_4 hL), ↓xbs (lF2_5 hL), ↓xbs (lF7_1 hL), ↓xbs (lF7_2 hL), ↓xbs (lF7_3 hL), ↓xbs (lF11_1 hL), ↓xbs (lF11_2 hL), ↓xbs (lF11_3 hL), ↓xbs (lF15_1 hL), ↓xbs (lF15_2 hL), ↓xbs (lF15_3 hL), kg1 hL, lF1 hL, ↓xF1c hL, kgT hL, kgR1 hL, kgR3 hL, kgR5 hL, ↓xT5 hL, ↓xT6 hL, ↓xT7 hL, lT5 hL, lT6 hL, lT7 hL, h5.1, bi_f, not_true_eq_false]
    · unfold m5_end; simp (disch := omega) only [↓xlet, xb_some, ↓reduceIte, cl_nI, nI_64, nI_add, nI_1, kg124 hL, kg125 hL, kg126 hL, kg127 hL, kg128 hL, kg129 hL, kg130 hL, kg131 hL, kg132 hL, kg133 hL, kg134 hL, kg135 hL, kg136 hL, kg137 hL, kg138 hL, kg139 hL, kg140 hL, kg141 hL, kg142 hL, kg143 hL, kg144 hL, kg145 hL, kg146 hL, kg147 hL, kg123 hL, ↓xbs (lF123_1 hL), ↓xbs (lF123_2 hL), ↓xbs (lF123_3 hL), ↓xbs (lF123_4 hL), ↓xbs (lF123_5 hL), ↓xbs (lF123_6 hL), ↓xbs (lF123_7 hL), ↓xbs (lF123_8 hL), ↓xbs (lF123_9 hL), ↓xbs (lF123_10 hL), ↓xbs (lF123_11 hL), ↓xbs (lF123_12 hL), ↓xbs (lF123_13 hL), ↓xbs (lF123_14 hL), ↓xbs (lF123_15 hL), ↓xbs (lF123_16 hL), ↓xbs (lF123_22 hL), ↓xbs (lF123_23 hL), ↓xbs (lF123_24 hL), ↓xbs (lF123_25 hL), ↓xbs (lF123_26 hL), ↓xbs (lF123_27 hL), ↓xbs (lF123_28 hL), ↓xbs (lF123_29 hL), hR.2.2.2.1.1, bi_f, not_true_eq_false]
  | true =>
    have b40 := w3.1
    obtain ⟨J0, d1, d2, d3⟩ := c_endL (ρ := ρ) hL hn w3 h5 xFu 0 J (by omega) (by unfold xFu; omega) rfl h3
    have d1 : m0_end_L15 148 K F xFu I J 0 0 = _ := d1
    obtain ⟨S, hG⟩ := Sg_ex (ap ρ b b.length) n w1
    have nl := nl S
    have fj : ∀ a, a < 27 ∨ 123 ≤ a → J0 a = J a := fun a ha => d3 a (fun x _ => by omega)
    obtain ⟨I1, J1, g1, g2, g3⟩ := c_settle (σ := ap ρ b b.length) (S := S) hL w1 w2 hG (fun x _ z => ap_d w3 z _) w4.1 (h1.fr (I' := I) (J' := J0) rfl (fun x hx => ⟨rfl, by rw [d3 _ (fun z _ => by omega)], by rw [d3 _ (fun z _ => by omega)]⟩)) (h2.fr (fun x hx => ⟨d3 _ (fun z _ => by omega), d3 _ (fun z _ => by omega)⟩)) d2 (h4.fr (fun x hx => ⟨d3 _ (fun z _ => by omega), d3 _ (fun z _ => by omega)⟩)) (h5.fr rfl rfl rfl rfl (fj _ (by decide))) (h6.fr rfl rfl (fj _ (by decide)) (fj _ (by decide))) (h7.fr rfl rfl (fj _ (by decide)) (fj _ (by decide))) (h8.fr rfl rfl (fj _ (by decide)) (fj _ (by decide))) (RA_move h9 (fj _ (by decide)) (fj _ (by decide))) (RA_move h10 (fj _ (by decide)) (fj _ (by decide)))
    have hi : HiF I I1 J J1 := fun a ha => ⟨(g1 a ha).1, by rw [(g1 a ha).2, fj a (by omega)]⟩
    by_cases c : lg.length + (stT ρ S n).length ≤ 1500
    · obtain ⟨s1, s2⟩ := g2 c
      have hi2 : HiF I (xu I1 2 0 0) J J1 := fun a ha => ⟨by rw [xu_rw (by omega)]; exact (hi a ha).1, (hi a ha).2⟩
      have C2 := s2.bat (I' := xu I1 2 0 0) (J' := J1) (bo' := false) (b' := []) hn (fun a ha => xu_rw (by omega)) (fun _ _ => rfl) ⟨by rw [xu2]; rfl, fun z => by cases z⟩
      obtain ⟨I3, J3, e1, e2, e3⟩ := r_end hL hW (hR.fr hi2) hG
      obtain ⟨u1, u2⟩ := e2 c
      refine ⟨nI (stT ρ S n).length, xu I1 2 0 0, J1, I3, J3, ?_, u1, n, so, o1, o2, p, q, S, β, false, [], _, _, nt, κ, hW.next hG c BOk.nil, C2.fr hn e1, u2⟩
      have ne : (nI (stT ρ S n).length = (-3 : Int32)) = False := eq_false (nI_neg (by omega) (by decide))
      unfold m0_end
      simp (disch := omega) only [↓xlet, xb_some, ↓reduceIte, cl_nI, nI_64, nI_add, nI_1, kg3 hL, kg4 hL, kg5 hL, kg6 hL, kg8 hL, kg9 hL, kg10 hL, kg12 hL, kg13 hL, kg14 hL, kg16 hL, kg17 hL, kg18 hL, kg0 hL, kg2 hL, kg7 hL, kg11 hL, kg15 hL, kg19 hL, kg21 hL, kg23 hL, kg25 hL, ↓xbs (lF0_0 hL), ↓xbs (lF0_2 hL), ↓xbs (lF0_3 hL), ↓xbs (lF0_4 hL), ↓xbs (lF0_5 hL), ↓xbs (lF0_6 hL), ↓xbs (lF0_7 hL), ↓xbs (lF0_8 hL), ↓xbs (lF0_9 hL), ↓xbs (lF2_2 hL), ↓xbs (lF2_3 hL), ↓xbs (lF2_4 hL), ↓xbs (lF2_5 hL), ↓xbs (lF7_1 hL), ↓xbs (lF7_2 hL), ↓xbs (lF7_3 hL), ↓xbs (lF11_1 hL), ↓xbs (lF11_2 hL), ↓xbs (lF11_3 hL), ↓xbs (lF15_1 hL), ↓xbs (lF15_2 hL), ↓xbs (lF15_3 hL), kg1 hL, lF1 hL, ↓xF1c hL, kgT hL, kgR1 hL, kgR3 hL, kgR5 hL, ↓xT5 hL, ↓xT6 hL, ↓xT7 hL, lT5 hL, lT6 hL, lT7 hL, h5.1, bt0, not_false_eq_true, d1, ↓xbs s1, ne]
      unfold m1_close
      simp (disch := omega) only [↓xlet, xb_some, ↓reduceIte, cl_nI, nI_64, nI_add, nI_1, kg3 hL, kg4 hL, kg5 hL, kg6 hL, kg8 hL, kg9 hL, kg10 hL, kg12 hL, kg13 hL, kg14 hL, kg16 hL, kg17 hL, kg18 hL, kg0 hL, kg2 hL, kg7 hL, kg11 hL, kg15 hL, kg19 hL, kg21 hL, kg23 hL, kg25 hL, ↓xbs (lF0_0 hL), ↓xbs (lF0_2 hL), ↓xbs (lF0_3 hL), ↓xbs (lF0_4 hL), ↓xbs (lF0_5 hL), ↓xbs (lF0_6 hL), ↓xbs (lF0_7 hL), ↓xbs (lF0_8 hL), ↓xbs (lF0_9 hL), ↓xbs (lF2_2 hL), ↓xbs (lF2_3 hL), ↓xbs (lF2_4 hL), ↓xbs (lF2_5 hL), ↓xbs (lF7_1 hL), ↓xbs (lF7_2 hL), ↓xbs (lF7_3 hL), ↓xbs (lF11_1 hL), ↓xbs (lF11_2 hL), ↓xbs (lF11_3 hL), ↓xbs (lF15_1 hL), ↓xbs (lF15_2 hL), ↓xbs (lF15_3 hL), kg1 hL, lF1 hL, ↓xF1c hL, kgT hL, kgR1 hL, kgR3 hL, kgR5 hL, ↓xT5 hL, ↓xT6 hL, ↓xT7 hL, lT5 hL, lT6 hL, lT7 hL]
    · obtain ⟨s1, s2⟩ := g3 c
      obtain ⟨I3, J3, e1, e2, e3⟩ := r_end hL hW (hR.fr hi) hG
      obtain ⟨u1, u2⟩ := e3 c
      refine ⟨-3, I1, J1, I3, J3, ?_, u1, n, so, o1, o2, p, q, ρ, β, true, b, lg, td, nt, κ, hW, s2.fr hn e1, u2⟩
      unfold m0_end
      simp (disch := omega) only [↓xlet, xb_some, ↓reduceIte, cl_nI, nI_64, nI_add, nI_1, kg3 hL, kg4 hL, kg5 hL, kg6 hL, kg8 hL, kg9 hL, kg10 hL, kg12 hL, kg13 hL, kg14 hL, kg16 hL, kg17 hL, kg18 hL, kg0 hL, kg2 hL, kg7 hL, kg11 hL, kg15 hL, kg19 hL, kg21 hL, kg23 hL, kg25 hL, ↓xbs (lF0_0 hL), ↓xbs (lF0_2 hL), ↓xbs (lF0_3 hL), ↓xbs (lF0_4 hL), ↓xbs (lF0_5 hL), ↓xbs (lF0_6 hL), ↓xbs (lF0_7 hL), ↓xbs (lF0_8 hL), ↓xbs (lF0_9 hL), ↓xbs (lF2_2 hL), ↓xbs (lF2_3 hL), ↓xbs (lF2_4 hL), ↓xbs (lF2_5 hL), ↓xbs (lF7_1 hL), ↓xbs (lF7_2 hL), ↓xbs (lF7_3 hL), ↓xbs (lF11_1 hL), ↓xbs (lF11_2 hL), ↓xbs (lF11_3 hL), ↓xbs (lF15_1 hL), ↓xbs (lF15_2 hL), ↓xbs (lF15_3 hL), kg1 hL, lF1 hL, ↓xF1c hL, kgT hL, kgR1 hL, kgR3 hL, kgR5 hL, ↓xT5 hL, ↓xT6 hL, ↓xT7 hL, lT5 hL, lT6 hL, lT7 hL, h5.1, bt0, not_false_eq_true, d1, ↓xbs s1]
theorem c_forgetL (hL : Lay K F) (hn : n ≤ 12) {I : Nat → Nat → Int32} (hI : I 0 1 = nI n) (v : Int32) : ∀ (f t : Nat) (J : Nat → Nat → Int64), t ≤ n → n - t < f → CRows J n 1 ρ → (∀ x, x < t → RA J (27 + 8 * x + 5) (ρ x)) → ∃ J', m0_forget_L17 148 K F f I J 0 v (nI t) = some (v, I, J') ∧ (∀ a, (∀ x, x < 12 → a ≠ 27 + 8 * x + 5 ∧ a ≠ 27 + 8 * x + 6) → J' a = J a) ∧ CRows J' n 5 ρ
  | 0, t, J, h1, h2, _, _ => absurd h2 (by omega)
  | f + 1, t, J, h1, h2, hR, hx => by
    rw [m0_forget_L17]
    simp (disch := omega) only [↓xlet, xb_some, ↓reduceIte, cl_nI, nI_64, nI_add, nI_1, kg3 hL, kg4 hL, kg5 hL, kg6 hL, kg8 hL, kg9 hL, kg10 hL, kg12 hL, kg13 hL, kg14 hL, kg16 hL, kg17 hL, kg18 hL, kg0 hL, kg2 hL, kg7 hL, kg11 hL, kg15 hL, kg19 hL, kg21 hL, kg23 hL, kg25 hL, ↓xbs (lF0_0 hL), ↓xbs (lF0_2 hL), ↓xbs (lF0_3 hL), ↓xbs (lF0_4 hL), ↓xbs (lF0_5 hL), ↓xbs (lF0_6 hL), ↓xbs (lF0_7 hL), ↓xbs (lF0_8 hL), ↓xbs (lF0_9 hL), ↓xbs (lF2_2 hL), ↓xbs (lF2_3 hL), ↓xbs (lF2_4 hL), ↓xbs (lF2_5 hL), ↓xbs (lF7_1 hL), ↓xbs (lF7_2 hL), ↓xbs (lF7_3 hL), ↓xbs (lF11_1 hL), ↓xbs (lF11_2 hL), ↓xbs (lF11_3 hL), ↓xbs (lF15_1 hL), ↓xbs (lF15_2 hL), ↓xbs (lF15_3 hL), kg1 hL, lF1 hL, ↓xF1c hL, kgT hL, kgR1 hL, kgR3 hL, kgR5 hL, ↓xT5 hL, ↓xT6 hL, ↓xT7 hL, lT5 hL, lT6 hL, lT7 hL, hI]
    by_cases e : t = n
    · subst e
      rw [if_pos (nI_le (Nat.le_refl t) (by omega))]
      exact ⟨J, rfl, fun _ _ => rfl, hx⟩
    · have htn : t < n := by omega
      have h12 : t < 12 := by omega
      rw [if_neg (nI_ge htn (by omega))]
      obtain ⟨J1, e1, e2, e3⟩ := m_become (I := I) (lRT5 hL h12) (lRT1 hL h12) (by omega) (hR t htn)
      simp (disch := omega) only [↓xlet, xb_some, ↓reduceIte, cl_nI, nI_64, nI_add, nI_1, kg3 hL, kg4 hL, kg5 hL, kg6 hL, kg8 hL, kg9 hL, kg10 hL, kg12 hL, kg13 hL, kg14 hL, kg16 hL, kg17 hL, kg18 hL, kg0 hL, kg2 hL, kg7 hL, kg11 hL, kg15 hL, kg19 hL, kg21 hL, kg23 hL, kg25 hL, ↓xbs (lF0_0 hL), ↓xbs (lF0_2 hL), ↓xbs (lF0_3 hL), ↓xbs (lF0_4 hL), ↓xbs (lF0_5 hL), ↓xbs (lF0_6 hL), ↓xbs (lF0_7 hL), ↓xbs (lF0_8 hL), ↓xbs (lF0_9 hL), ↓xbs (lF2_2 hL), ↓xbs (lF2_3 hL), ↓xbs (lF2_4 hL), ↓xbs (lF2_5 hL), ↓xbs (lF7_1 hL), ↓xbs (lF7_2 hL), ↓xbs (lF7_3 hL), ↓xbs (lF11_1 hL), ↓xbs (lF11_2 hL), ↓xbs (lF11_3 hL), ↓xbs (lF15_1 hL), ↓xbs (lF15_2 hL), ↓xbs (lF15_3 hL), kg1 hL, lF1 hL, ↓xF1c hL, kgT hL, kgR1 hL, kgR3 hL, kgR5 hL, ↓xT5 hL, ↓xT6 hL, ↓xT7 hL, lT5 hL, lT6 hL, lT7 hL, ↓xbs e1]
      obtain ⟨J2, g1, g2, g3⟩ := c_forgetL hL hn hI v f (t + 1) J1 (by omega) (by omega) (hR.fr (fun x hx => ⟨e3 _ (by omega) (by omega), e3 _ (by omega) (by omega)⟩)) (fun x hxt => by
        by_cases c : x = t
        · subst c; exact e2
        · exact RA_move (hx x (by omega)) (e3 _ (by omega) (by omega)) (e3 _ (by omega) (by omega)))
      exact ⟨J2, g1, fun a ha => by rw [g2 a ha, e3 a (ha t h12).1 (ha t h12).2], g3⟩
theorem iv_forget (hL : Lay K F) (h : Inv I J) : ∃ x I1 J1 I2 J2, m0_forget 148 K F I J 0 = some (x, I1, J1) ∧ m5_forget 148 K F I1 J1 123 = some (x, I2, J2) ∧ Inv I2 J2 := by
  obtain ⟨n, so, o1, o2, p, q, ρ, β, bo, b, lg, td, nt, κ, hW, hC, hR⟩ := h
  obtain ⟨h1, h2, h3, h4, h5, h6, h7, h8, h9, h10⟩ := id hC
  obtain ⟨w1, w2, w3, w4, w5, w6⟩ := id hW
  have hn := w1.1
  obtain ⟨J1, d1, d2, d3⟩ := c_forgetL (I := xu I 7 0 0) (ρ := ρ) hL hn (by rw [xu_rw (by decide)]; exact h1.1) (nI lg.length) xFu 0 J (by omega) (by unfold xFu; omega) h2 (fun x hx => by omega)
  have d1 : m0_forget_L17 148 K F xFu (xu I 7 0 0) J 0 (nI lg.length) 0 = some (nI lg.length, xu I 7 0 0, J1) := d1
  have fi : ∀ a, a ≠ 7 → xu I 7 0 0 a = I a := fun a ha => xu_rw ha
  have fj : ∀ a, a < 27 ∨ 123 ≤ a → J1 a = J a := fun a ha => d2 a (fun x _ => by omega)
  have hi : HiF I (xu I 7 0 0) J J1 := fun a ha => ⟨fi a (by omega), fj a (by omega)⟩
  obtain ⟨r1, r2, r3, r4, r5, r6, r7, r8⟩ := hR.fr hi
  obtain ⟨I1, hI1⟩ : ∃ I1, I1 = xu I 7 0 0 := ⟨_, rfl⟩
  rw [← hI1] at r1 r2 r3 r4 r5 r6 r7 r8 d1 hi fi
  have C1 : CS I1 J1 n so o1 o2 p q ρ ρ bo b [] td nt κ := ⟨h1.fr (fi _ (by decide)) (fun x hx => ⟨fi _ (by omega), by rw [d2 _ (fun z _ => by omega)], by rw [d2 _ (fun z _ => by omega)]⟩), h2.fr (fun x hx => ⟨d2 _ (fun z _ => by omega), d2 _ (fun z _ => by omega)⟩), h3.fr (fun x hx => ⟨d2 _ (fun z _ => by omega), d2 _ (fun z _ => by omega)⟩), d3, h5.fr (fi _ (by decide)) (fi _ (by decide)) (fi _ (by decide)) (fi _ (by decide)) (fj _ (by decide)), ⟨by rw [hI1, xu2]; rfl, fun i t k o w e => by simp at e⟩, h7.fr (fi _ (by decide)) (fi _ (by decide)) (fj _ (by decide)) (fj _ (by decide)), h8.fr (fi _ (by decide)) (fi _ (by decide)) (fj _ (by decide)) (fj _ (by decide)), RA_move h9 (fj _ (by decide)) (fj _ (by decide)), RA_move h10 (fj _ (by decide)) (fj _ (by decide))⟩
  obtain ⟨I2, hI2⟩ : ∃ I2, I2 = xu I1 123 17 0 := ⟨_, rfl⟩
  have f2 : ∀ a, a ≠ 123 → I2 a = I1 a := fun a ha => by rw [hI2, xu_rw ha]
  have f23 : ∀ j, j ≠ 17 → I2 123 j = I1 123 j := fun j hj => by rw [hI2, xu3 _ _ hj]
  have R2 : RRows I2 J1 129 130 n ρ := r2.fr (f2 _ (by decide)) rfl
  obtain ⟨I3, J3, g1, g2, g3, _, g5⟩ := r_forgetL hL hn (nI lg.length) xFu 0 I2 J1 (by omega) (by unfold xFu; omega) (by rw [f23 0 (by decide)]; exact r1.1) (fun x hx => R2.b01 hx)
  have g1 : m5_forget_L12 148 K F xFu I2 J1 123 (nI lg.length) 0 = some (nI lg.length, I3, J3) := g1
  have FI : ∀ a, a ≠ 123 → a ≠ 133 → I3 a = I1 a := fun a a3 a9 => by rw [g2 a a9, f2 a a3]
  have FJ : ∀ a, a ≠ 134 → J3 a = J1 a := fun a a9 => g3 a a9
  have F3 : ∀ j, j ≠ 17 → I3 123 j = I1 123 j := fun j hj => by rw [g2 123 (by decide), f23 j hj]
  refine ⟨nI lg.length, I1, J1, I3, J3, ?_, ?_, n, so, o1, o2, p, q, ρ, ρ, bo, b, [], td, nt, κ, ⟨w1, w2, w3, EOk.nil, w5, w6⟩, C1.fr hn (fun a ha => ⟨FI a (by omega) (by omega), FJ a (by omega)⟩), r1.fr (F3 _ (by decide)) (FI _ (by decide) (by decide)) (FI _ (by decide) (by decide)) (FI _ (by decide) (by decide)) (FJ _ (by decide)) (FJ _ (by decide)), r2.fr (FI _ (by decide) (by decide)) (FJ _ (by decide)), R2.mv (fun x hx => g5 x (by omega) hx), r4.fr (F3 _ (by decide)) (F3 _ (by decide)) (FI _ (by decide) (by decide)) (FI _ (by decide) (by decide)) (FI _ (by decide) (by decide)) (FJ _ (by decide)), ⟨by rw [g2 123 (by decide), hI2, xu2]; rfl, fun i t k o w e => by simp at e⟩, r6.fr' (F3 _ (by decide)) (FI _ (by decide) (by decide)) (FI _ (by decide) (by decide)) (FI _ (by decide) (by decide)) (FJ _ (by decide)) (FJ _ (by decide)), r7.fr' (F3 _ (by decide)) (FI _ (by decide) (by decide)) (FI _ (by decide) (by decide)) (FI _ (by decide) (by decide)) (FJ _ (by decide)) (FJ _ (by decide)), r8.fr (FI _ (by decide) (by decide)) (FJ _ (by decide))⟩
  · rw [hI1] at d1
    unfold m0_forget m2_reset
    simp (disch := omega) only [↓xlet, xb_some, ↓reduceIte, cl_nI, nI_64, nI_add, nI_1, kg3 hL, kg4 hL, kg5 hL, kg6 hL, kg8 hL, kg9 hL, kg10 hL, kg12 hL, kg13 hL, kg14 hL, kg16 hL, kg17 hL, kg18 hL, kg0 hL, kg2 hL, kg7 hL, kg11 hL, kg15 hL, kg19 hL, kg21 hL, kg23 hL, kg25 hL, ↓xbs (lF0_0 hL), ↓xbs (lF0_2 hL), ↓xbs (lF0_3 hL), ↓xbs (lF0_4 hL), ↓xbs (lF0_5 hL), ↓xbs (lF0_6 hL), ↓xbs (lF0_7 hL), ↓xbs (lF0_8 hL), ↓xbs (lF0_9 hL), ↓xbs (lF2_2 hL), ↓xbs (lF2_3 hL), ↓xbs (lF2_4 hL), ↓xbs (lF2_5 hL), ↓xbs (lF7_1 hL), ↓xbs (lF7_2 hL), ↓xbs (lF7_3 hL), ↓xbs (lF11_1 hL), ↓xbs (lF11_2 hL), ↓xbs (lF11_3 hL), ↓xbs (lF15_1 hL), ↓xbs (lF15_2 hL), ↓xbs (lF15_3 hL), kg1 hL, lF1 hL, ↓xF1c hL, kgT hL, kgR1 hL, kgR3 hL, kgR5 hL, ↓xT5 hL, ↓xT6 hL, ↓xT7 hL, lT5 hL, lT6 hL, lT7 hL, h6.1, d1]
    rw [hI1]
  · rw [hI2] at g1
    unfold m5_forget
    simp (disch := omega) only [↓xlet, xb_some, ↓reduceIte, cl_nI, nI_64, nI_add, nI_1, kg124 hL, kg125 hL, kg126 hL, kg127 hL, kg128 hL, kg129 hL, kg130 hL, kg131 hL, kg132 hL, kg133 hL, kg134 hL, kg135 hL, kg136 hL, kg137 hL, kg138 hL, kg139 hL, kg140 hL, kg141 hL, kg142 hL, kg143 hL, kg144 hL, kg145 hL, kg146 hL, kg147 hL, kg123 hL, ↓xbs (lF123_1 hL), ↓xbs (lF123_2 hL), ↓xbs (lF123_3 hL), ↓xbs (lF123_4 hL), ↓xbs (lF123_5 hL), ↓xbs (lF123_6 hL), ↓xbs (lF123_7 hL), ↓xbs (lF123_8 hL), ↓xbs (lF123_9 hL), ↓xbs (lF123_10 hL), ↓xbs (lF123_11 hL), ↓xbs (lF123_12 hL), ↓xbs (lF123_13 hL), ↓xbs (lF123_14 hL), ↓xbs (lF123_15 hL), ↓xbs (lF123_16 hL), ↓xbs (lF123_22 hL), ↓xbs (lF123_23 hL), ↓xbs (lF123_24 hL), ↓xbs (lF123_25 hL), ↓xbs (lF123_26 hL), ↓xbs (lF123_27 hL), ↓xbs (lF123_28 hL), ↓xbs (lF123_29 hL), r5.1, g1]
end
