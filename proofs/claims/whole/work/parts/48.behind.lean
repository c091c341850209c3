/-- rows of a table behind the first changes of the log -/
def beh (r : Nat → Option Int64) (t : Nat) (lg : List (Nat × Nat × Option Int64 × Option Int64)) : Nat → Nat → Option Int64
  | 0 => r
  | i + 1 => match lg[i]? with
    | none => beh r t lg i
    | some (t', k, _, w) => if t' = t then rset (beh r t lg i) k w else beh r t lg i
/-- rows in two cells of the reference -/
def R1 (I : Nat → Nat → Int32) (J : Nat → Nat → Int64) (h v : Nat) (a : Nat → Option Int64) : Prop := ∀ k, k < 64 → I h k = bi (a k).isSome ∧ J v k = (a k).getD 0
section
variable {K : Nat → Nat × Nat} {F : Nat → Nat → Option Nat} {I I' : Nat → Nat → Int32} {J J' : Nat → Nat → Int64} {n : Nat} {so o1 o2 : Nat → Nat} {p q : Nat → Int64} {ρ σ S β : Nat → Nat → Option Int64} {lg td nt l : List (Nat × Nat × Option Int64 × Option Int64)} {bo : Bool} {b : List (Nat × Nat × Option Int64)} {κ a : Nat → Option Int64}
theorem beh_e {i t k : Nat} {o w : Option Int64} (e : lg[i]? = some (t, k, o, w)) : beh a t lg (i + 1) = rset (beh a t lg i) k w := by
  simp only [beh, e, ↓reduceIte]
theorem beh_n {i t t' k : Nat} {o w : Option Int64} (e : lg[i]? = some (t', k, o, w)) (h : t' ≠ t) : beh a t lg (i + 1) = beh a t lg i := by
  simp only [beh, e, if_neg h]
theorem srt2 {o w : Option Int64} (h : o ≠ w) : nI (srt o w) = (2 : Int32) ↔ w = none := by
  cases o with
  | none =>
    cases w with
    | none => exact absurd rfl h
    | some v => exact ⟨fun z => absurd z (show ¬ nI 0 = (2 : Int32) by decide), fun z => by cases z⟩
  | some u =>
    cases w with
    | none => exact ⟨fun _ => rfl, fun _ => show nI 2 = (2 : Int32) by decide⟩
    | some v => exact ⟨fun z => absurd z (show ¬ nI 1 = (2 : Int32) by decide), fun z => by cases z⟩
theorem R1.fr {h v : Nat} (hR : R1 I J h v a) (h0 : I' h = I h) (h1 : J' v = J v) : R1 I' J' h v a := by unfold R1; rw [h0, h1]; exact hR
theorem c_behL (hL : Lay K F) (hE : EOk 1500 lg) {r t m : Nat} (hr : RowsOk K F r) (r1 : 19 ≤ r) (ht : t < 12) (hm : m ≤ lg.length) : ∀ (f i : Nat) (J : Nat → Nat → Int64), i ≤ m → m - i < f → CLst I J 7 lg → RA J r (beh a t lg i) → ∃ J', m0_rowsBehind_L16 148 K F I f J 0 (nI t) (nI m) r (nI i) = some J' ∧ RA J' r (beh a t lg m) ∧ FrR J J' r
  | 0, i, J, h1, h2, _, _ => absurd h2 (by omega)
  | f + 1, i, J, h1, h2, hc, hA => by
    have hl := hE.1
    rw [m0_rowsBehind_L16]
    by_cases e : i = m
    · rw [if_pos (nI_le (by omega) (by omega))]
      exact ⟨J, rfl, by rw [← e]; exact hA, fun _ _ _ => rfl⟩
    · have hi : i < m := by omega
      obtain ⟨⟨t', k, o, w⟩, eb⟩ := get_ex (show i < lg.length by omega)
      obtain ⟨q1, q2, q3⟩ := hE.2 i t' k o w eb
      have c3 : J 10 i = w.getD 0 := (hc.2 i t' k o w eb).2.2
      have mt := m_tableOf (lL7 hL) hc hE eb
      have mk := m_keyOf (lL7 hL) hc hE eb
      have ms := m_sortOf (lL7 hL) hc hE eb
      rw [if_neg (nI_ge hi (by omega))]
      simp (disch := omega) only [↓xlet, xb_some, ↓reduceIte, cl_nI, nI_64, nI_add, nI_1, kg3 hL, kg4 hL, kg5 hL, kg6 hL, kg8 hL, kg9 hL, kg10 hL, kg12 hL, kg13 hL, kg14 hL, kg16 hL, kg17 hL, kg18 hL, kg0 hL, kg2 hL, kg7 hL, kg11 hL, kg15 hL, kg19 hL, kg21 hL, kg23 hL, kg25 hL, ↓xbs (lF0_0 hL), ↓xbs (lF0_2 hL), ↓xbs (lF0_3 hL), ↓xbs (lF0_4 hL), ↓xbs (lF0_5 hL), ↓xbs (lF0_6 hL), ↓xbs (lF0_7 hL), ↓xbs (lF0_8 hL), ↓xbs (lF0_9 hL), ↓xbs (lF2_2 hL), ↓xbs (lF2_3 hL), ↓xbs (lF2_4 hL), ↓xbs (lF2_5 hL), ↓xbs (lF7_1 hL), ↓xbs (lF7_2 hL), ↓xbs (lF7_3 hL), ↓xbs (lF11_1 hL), ↓xbs (lF11_2 hL), ↓xbs (lF11_3 hL), ↓xbs (lF15_1 hL), ↓xbs (lF15_2 hL), ↓xbs (lF15_3 hL), kg1 hL, lF1 hL, ↓xF1c hL, kgT hL, kgR1 hL, kgR3 hL, kgR5 hL, ↓xT5 hL, ↓xT6 hL, ↓xT7 hL, lT5 hL, lT6 hL, lT7 hL, ↓xbs mt]
      by_cases c : t' = t
      · subst c
        rw [if_neg (x_nn rfl)]
        obtain ⟨J1, e1, e2, e3⟩ := wrt (I := I) hr hA q2 w
        have hB : m0_rowsBehind_B63 148 K F I (m0_rowsBehind_L16 148 K F I f) J 0 (nI t') (nI m) r (nI i) r (nI k) (bi w.isSome) = m0_rowsBehind_L16 148 K F I f J1 0 (nI t') (nI m) r (nI (i + 1)) := by
          unfold m0_rowsBehind_B63
          simp (disch := omega) only [↓xlet, xb_some, ↓reduceIte, cl_nI, nI_64, nI_add, nI_1, kg3 hL, kg4 hL, kg5 hL, kg6 hL, kg8 hL, kg9 hL, kg10 hL, kg12 hL, kg13 hL, kg14 hL, kg16 hL, kg17 hL, kg18 hL, kg0 hL, kg2 hL, kg7 hL, kg11 hL, kg15 hL, kg19 hL, kg21 hL, kg23 hL, kg25 hL, ↓xbs (lF0_0 hL), ↓xbs (lF0_2 hL), ↓xbs (lF0_3 hL), ↓xbs (lF0_4 hL), ↓xbs (lF0_5 hL), ↓xbs (lF0_6 hL), ↓xbs (lF0_7 hL), ↓xbs (lF0_8 hL), ↓xbs (lF0_9 hL), ↓xbs (lF2_2 hL), ↓xbs (lF2_3 hL), ↓xbs (lF2_4 hL), ↓xbs (lF2_5 hL), ↓xbs (lF7_1 hL), ↓xbs (lF7_2 hL), ↓xbs (lF7_3 hL), ↓xbs (lF11_1 hL), ↓xbs (lF11_2 hL), ↓xbs (lF11_3 hL), ↓xbs (lF15_1 hL), ↓xbs (lF15_2 hL), ↓xbs (lF15_3 hL), kg1 hL, lF1 hL, ↓xF1c hL, kgT hL, kgR1 hL, kgR3 hL, kgR5 hL, ↓xT5 hL, ↓xT6 hL, ↓xT7 hL, lT5 hL, lT6 hL, lT7 hL, eq_true (show r < 148 ∧ K r = (0, 3) from ⟨hr.1, hr.2.1⟩), c3, ↓xbs e1]
        simp (disch := omega) only [↓xlet, xb_some, ↓reduceIte, cl_nI, nI_64, nI_add, nI_1, kg3 hL, kg4 hL, kg5 hL, kg6 hL, kg8 hL, kg9 hL, kg10 hL, kg12 hL, kg13 hL, kg14 hL, kg16 hL, kg17 hL, kg18 hL, kg0 hL, kg2 hL, kg7 hL, kg11 hL, kg15 hL, kg19 hL, kg21 hL, kg23 hL, kg25 hL, ↓xbs (lF0_0 hL), ↓xbs (lF0_2 hL), ↓xbs (lF0_3 hL), ↓xbs (lF0_4 hL), ↓xbs (lF0_5 hL), ↓xbs (lF0_6 hL), ↓xbs (lF0_7 hL), ↓xbs (lF0_8 hL), ↓xbs (lF0_9 hL), ↓xbs (lF2_2 hL), ↓xbs (lF2_3 hL), ↓xbs (lF2_4 hL), ↓xbs (lF2_5 hL), ↓xbs (lF7_1 hL), ↓xbs (lF7_2 hL), ↓xbs (lF7_3 hL), ↓xbs (lF11_1 hL), ↓xbs (lF11_2 hL), ↓xbs (lF11_3 hL), ↓xbs (lF15_1 hL), ↓xbs (lF15_2 hL), ↓xbs (lF15_3 hL), kg1 hL, lF1 hL, ↓xF1c hL, kgT hL, kgR1 hL, kgR3 hL, kgR5 hL, ↓xT5 hL, ↓xT6 hL, ↓xT7 hL, lT5 hL, lT6 hL, lT7 hL, ↓xbs mk, ↓xbs ms]
        obtain ⟨J2, g1, g2, g3⟩ := c_behL hL hE hr r1 ht hm f (i + 1) J1 (by omega) (by omega) (hc.fr rfl rfl (e3 _ (by omega) (by omega)) (e3 _ (by omega) (by omega))) (by rw [beh_e eb]; exact e2)
        refine ⟨J2, ?_, g2, fun x x1 x2 => by rw [g3 x x1 x2, e3 x x1 x2]⟩
        rw [← g1, ← hB]
        by_cases z : w = none
        · rw [if_pos ((srt2 q3).mpr z), z]; rfl
        · rw [if_neg (fun y => z ((srt2 q3).mp y))]
          cases w with
          | none => exact absurd rfl z
          | some v => rfl
      · rw [if_pos (fun z => c ((nI_eq (by omega) (by omega)).mp z))]
        exact c_behL hL hE hr r1 ht hm f (i + 1) J (by omega) (by omega) hc (by rw [beh_n eb c]; exact hA)
theorem c_behind (hL : Lay K F) (hE : EOk 1500 lg) {r t m : Nat} (hr : RowsOk K F r) (r1 : 19 ≤ r) (r2 : r ≤ 23) (ht : t < 12) (hm : m ≤ lg.length) (hA : RA J (27 + 8 * t + 5) a) (hc : CLst I J 7 lg) : ∃ J', m0_rowsBehind 148 K F I J 0 (nI t) (nI m) r = some J' ∧ RA J' r (beh a t lg m) ∧ FrR J J' r := by
  have hl := hE.1
  obtain ⟨J1, e1, e2, e3⟩ := m_become (I := I) hr (lRT5 hL ht) (by omega) hA
  obtain ⟨J2, g1, g2, g3⟩ := c_behL (I := I) (a := a) hL hE hr r1 ht hm xFu 0 J1 (by omega) (by unfold xFu; omega) (hc.fr rfl rfl (e3 _ (by omega) (by omega)) (e3 _ (by omega) (by omega))) e2
  have g1 : m0_rowsBehind_L16 148 K F I xFu J1 0 (nI t) (nI m) r 0 = some J2 := g1
  refine ⟨J2, ?_, g2, fun x x1 x2 => by rw [g3 x x1 x2, e3 x x1 x2]⟩
  unfold m0_rowsBehind
  simp (disch := omega) only [↓xlet, xb_some, ↓reduceIte, cl_nI, nI_64, nI_add, nI_1, kg3 hL, kg4 hL, kg5 hL, kg6 hL, kg8 hL, kg9 hL, kg10 hL, kg12 hL, kg13 hL, kg14 hL, kg16 hL, kg17 hL, kg18 hL, kg0 hL, kg2 hL, kg7 hL, kg11 hL, kg15 hL, kg19 hL, kg21 hL, kg23 hL, kg25 hL, ↓xbs (lF0_0 hL), ↓xbs (lF0_2 hL), ↓xbs (lF0_3 hL), ↓xbs (lF0_4 hL), ↓xbs (lF0_5 hL), ↓xbs (lF0_6 hL), ↓xbs (lF0_7 hL), ↓xbs (lF0_8 hL), ↓xbs (lF0_9 hL), ↓xbs (lF2_2 hL), ↓xbs (lF2_3 hL), ↓xbs (lF2_4 hL), ↓xbs (lF2_5 hL), ↓xbs (lF7_1 hL), ↓xbs (lF7_2 hL), ↓xbs (lF7_3 hL), ↓xbs (lF11_1 hL), ↓xbs (lF11_2 hL), ↓xbs (lF11_3 hL), ↓xbs (lF15_1 hL), ↓xbs (lF15_2 hL), ↓xbs (lF15_3 hL), kg1 hL, lF1 hL, ↓xF1c hL, kgT hL, kgR1 hL, kgR3 hL, kgR5 hL, ↓xT5 hL, ↓xT6 hL, ↓xT7 hL, lT5 hL, lT6 hL, lT7 hL, eq_true (show r < 148 ∧ K r = (0, 3) from ⟨hr.1, hr.2.1⟩), ↓xbs e1, g1]
theorem r_goL50 (hL : Lay K F) (hE : EOk 1500 lg) {t m : Nat} (ht : t < 12) (hm : m ≤ lg.length) : ∀ (f i : Nat) (I : Nat → Nat → Int32) (J : Nat → Nat → Int64), i ≤ m → m - i < f → RLst I J 17 0 lg → R1 I J 146 147 (beh a t lg i) → ∃ I' J', m5_goTo_L50 148 K F f I J 123 (nI t) (nI m) (nI i) = some (I', J') ∧ R1 I' J' 146 147 (beh a t lg m) ∧ (∀ x, x ≠ 146 → I' x = I x) ∧ ∀ x, x ≠ 147 → J' x = J x
  | 0, i, I, J, h1, h2, _, _ => absurd h2 (by omega)
  | f + 1, i, I, J, h1, h2, hc, hA => by
    have hl := hE.1
    rw [m5_goTo_L50]
    by_cases e : i = m
    · rw [if_pos (nI_le (by omega) (by omega))]
      exact ⟨I, J, rfl, by rw [← e]; exact hA, fun _ _ => rfl, fun _ _ => rfl⟩
    · have hi : i < m := by omega
      obtain ⟨⟨t', k, o, w⟩, eb⟩ := get_ex (show i < lg.length by omega)
      obtain ⟨q1, q2, q3⟩ := hE.2 i t' k o w eb
      obtain ⟨y1, y2, y3, y4, y5⟩ := hc.2 i t' k o w eb
      rw [Nat.zero_add] at y1 y2 y3 y4 y5
      rw [if_neg (nI_ge hi (by omega))]
      simp (disch := omega) only [↓xlet, xb_some, ↓reduceIte, cl_nI, nI_64, nI_add, nI_1, kg124 hL, kg125 hL, kg126 hL, kg127 hL, kg128 hL, kg129 hL, kg130 hL, kg131 hL, kg132 hL, kg133 hL, kg134 hL, kg135 hL, kg136 hL, kg137 hL, kg138 hL, kg139 hL, kg140 hL, kg141 hL, kg142 hL, kg143 hL, kg144 hL, kg145 hL, kg146 hL, kg147 hL, kg123 hL, ↓xbs (lF123_1 hL), ↓xbs (lF123_2 hL), ↓xbs (lF123_3 hL), ↓xbs (lF123_4 hL), ↓xbs (lF123_5 hL), ↓xbs (lF123_6 hL), ↓xbs (lF123_7 hL), ↓xbs (lF123_8 hL), ↓xbs (lF123_9 hL), ↓xbs (lF123_10 hL), ↓xbs (lF123_11 hL), ↓xbs (lF123_12 hL), ↓xbs (lF123_13 hL), ↓xbs (lF123_14 hL), ↓xbs (lF123_15 hL), ↓xbs (lF123_16 hL), ↓xbs (lF123_22 hL), ↓xbs (lF123_23 hL), ↓xbs (lF123_24 hL), ↓xbs (lF123_25 hL), ↓xbs (lF123_26 hL), ↓xbs (lF123_27 hL), ↓xbs (lF123_28 hL), ↓xbs (lF123_29 hL), y1]
      by_cases c : t' = t
      · subst c
        rw [if_neg (x_nn rfl)]
        have hB : m5_goTo_B90 148 K F (m5_goTo_L50 148 K F f) I J 123 (nI t') (nI m) (nI i) 146 (nI k) (bi w.isSome) = m5_goTo_L50 148 K F f (xu I 146 k (bi w.isSome)) (xu J 147 k (w.getD 0)) 123 (nI t') (nI m) (nI (i + 1)) := by
          have i3 : ∀ v, xu I 146 k v 137 i = nI k := fun v => by rw [xu_rw (by decide)]; exact y3
          have b1 : (bi w.isSome = 0 ∨ bi w.isSome = 1) = True := eq_true (bi_01 _)
          unfold m5_goTo_B90
          simp (disch := omega) only [↓xlet, xb_some, ↓reduceIte, cl_nI, nI_64, nI_add, nI_1, kg124 hL, kg125 hL, kg126 hL, kg127 hL, kg128 hL, kg129 hL, kg130 hL, kg131 hL, kg132 hL, kg133 hL, kg134 hL, kg135 hL, kg136 hL, kg137 hL, kg138 hL, kg139 hL, kg140 hL, kg141 hL, kg142 hL, kg143 hL, kg144 hL, kg145 hL, kg146 hL, kg147 hL, kg123 hL, ↓xbs (lF123_1 hL), ↓xbs (lF123_2 hL), ↓xbs (lF123_3 hL), ↓xbs (lF123_4 hL), ↓xbs (lF123_5 hL), ↓xbs (lF123_6 hL), ↓xbs (lF123_7 hL), ↓xbs (lF123_8 hL), ↓xbs (lF123_9 hL), ↓xbs (lF123_10 hL), ↓xbs (lF123_11 hL), ↓xbs (lF123_12 hL), ↓xbs (lF123_13 hL), ↓xbs (lF123_14 hL), ↓xbs (lF123_15 hL), ↓xbs (lF123_16 hL), ↓xbs (lF123_22 hL), ↓xbs (lF123_23 hL), ↓xbs (lF123_24 hL), ↓xbs (lF123_25 hL), ↓xbs (lF123_26 hL), ↓xbs (lF123_27 hL), ↓xbs (lF123_28 hL), ↓xbs (lF123_29 hL), b1, i3, y5]
        simp (disch := omega) only [↓xlet, xb_some, ↓reduceIte, cl_nI, nI_64, nI_add, nI_1, kg124 hL, kg125 hL, kg126 hL, kg127 hL, kg128 hL, kg129 hL, kg130 hL, kg131 hL, kg132 hL, kg133 hL, kg134 hL, kg135 hL, kg136 hL, kg137 hL, kg138 hL, kg139 hL, kg140 hL, kg141 hL, kg142 hL, kg143 hL, kg144 hL, kg145 hL, kg146 hL, kg147 hL, kg123 hL, ↓xbs (lF123_1 hL), ↓xbs (lF123_2 hL), ↓xbs (lF123_3 hL), ↓xbs (lF123_4 hL), ↓xbs (lF123_5 hL), ↓xbs (lF123_6 hL), ↓xbs (lF123_7 hL), ↓xbs (lF123_8 hL), ↓xbs (lF123_9 hL), ↓xbs (lF123_10 hL), ↓xbs (lF123_11 hL), ↓xbs (lF123_12 hL), ↓xbs (lF123_13 hL), ↓xbs (lF123_14 hL), ↓xbs (lF123_15 hL), ↓xbs (lF123_16 hL), ↓xbs (lF123_22 hL), ↓xbs (lF123_23 hL), ↓xbs (lF123_24 hL), ↓xbs (lF123_25 hL), ↓xbs (lF123_26 hL), ↓xbs (lF123_27 hL), ↓xbs (lF123_28 hL), ↓xbs (lF123_29 hL), y2, y3]
        obtain ⟨I2, J2, g1, g2, g3, g4⟩ := r_goL50 hL hE ht hm f (i + 1) (xu I 146 k (bi w.isSome)) (xu J 147 k (w.getD 0)) (by omega) (by omega) (hc.fr' (by rw [xu_rw (by decide)]) (xu_rw (by decide)) (xu_rw (by decide)) (xu_rw (by decide)) (xu_rw (by decide)) (xu_rw (by decide))) (by
          rw [beh_e eb]
          intro x hx
          unfold rset
          by_cases z : x = k
          · subst z; rw [xu2, xu2, if_pos rfl]; exact ⟨rfl, rfl⟩
          · rw [xu3 _ _ z, xu3 _ _ z, if_neg z]; exact hA x hx)
        refine ⟨I2, J2, ?_, g2, fun x x1 => by rw [g3 x x1, xu_rw x1], fun x x1 => by rw [g4 x x1, xu_rw x1]⟩
        rw [← g1, ← hB]
        by_cases z : w = none
        · rw [if_pos ((srt2 q3).mpr z), z]; rfl
        · rw [if_neg (fun y => z ((srt2 q3).mp y))]
          cases w with
          | none => exact absurd rfl z
          | some v => rfl
      · rw [if_pos (fun z => c ((nI_eq (by omega) (by omega)).mp z))]
        exact r_goL50 hL hE ht hm f (i + 1) I J (by omega) (by omega) hc (by rw [beh_n eb c]; exact hA)
theorem r_goL2 (hL : Lay K F) {t : Nat} (ht : t < n) (hn : n ≤ 12) (m : Int32) : ∀ (f k : Nat) (I : Nat → Nat → Int32) (J : Nat → Nat → Int64), k ≤ 64 → 64 - k < f → RRows I J 133 134 n β → (∀ x, x < k → I 146 x = bi (β t x).isSome ∧ J 147 x = (β t x).getD 0) → ∃ I' J', m5_goTo_L2 148 K F f I J 123 (nI t) m (nI k) = m5_goTo_L50 148 K F xFu I' J' 123 (nI t) m 0 ∧ R1 I' J' 146 147 (β t) ∧ (∀ x, x ≠ 146 → I' x = I x) ∧ ∀ x, x ≠ 147 → J' x = J x
  | 0, k, I, J, h1, h2, _, _ => absurd h2 (by omega)
  | f + 1, k, I, J, h1, h2, hR, hx => by
    rw [m5_goTo_L2]
    by_cases e : k = 64
    · subst e
      rw [if_pos (by decide)]
      exact ⟨I, J, rfl, hx, fun _ _ => rfl, fun _ _ => rfl⟩
    · have hk : k < 64 := by omega
      obtain ⟨y1, y2⟩ := hR t ht k hk
      have b1 : (bi (β t k).isSome = 0 ∨ bi (β t k).isSome = 1) = True := eq_true (bi_01 _)
      rw [if_neg (n64 hk)]
      simp (disch := omega) only [↓xlet, xb_some, ↓reduceIte, cl_nI, nI_64, nI_add, nI_1, kg124 hL, kg125 hL, kg126 hL, kg127 hL, kg128 hL, kg129 hL, kg130 hL, kg131 hL, kg132 hL, kg133 hL, kg134 hL, kg135 hL, kg136 hL, kg137 hL, kg138 hL, kg139 hL, kg140 hL, kg141 hL, kg142 hL, kg143 hL, kg144 hL, kg145 hL, kg146 hL, kg147 hL, kg123 hL, ↓xbs (lF123_1 hL), ↓xbs (lF123_2 hL), ↓xbs (lF123_3 hL), ↓xbs (lF123_4 hL), ↓xbs (lF123_5 hL), ↓xbs (lF123_6 hL), ↓xbs (lF123_7 hL), ↓xbs (lF123_8 hL), ↓xbs (lF123_9 hL), ↓xbs (lF123_10 hL), ↓xbs (lF123_11 hL), ↓xbs (lF123_12 hL), ↓xbs (lF123_13 hL), ↓xbs (lF123_14 hL), ↓xbs (lF123_15 hL), ↓xbs (lF123_16 hL), ↓xbs (lF123_22 hL), ↓xbs (lF123_23 hL), ↓xbs (lF123_24 hL), ↓xbs (lF123_25 hL), ↓xbs (lF123_26 hL), ↓xbs (lF123_27 hL), ↓xbs (lF123_28 hL), ↓xbs (lF123_29 hL), y1, y2, b1]
      obtain ⟨I2, J2, g1, g2, g3, g4⟩ := r_goL2 hL ht hn m f (k + 1) (xu I 146 k (bi (β t k).isSome)) (xu J 147 k ((β t k).getD 0)) (by omega) (by omega) (hR.fr (xu_rw (by decide)) (xu_rw (by decide))) (fun x hxk => by
        by_cases z : x = k
        · subst z; rw [xu2, xu2]; exact ⟨rfl, rfl⟩
        · rw [xu3 _ _ z, xu3 _ _ z]; exact hx x (by omega))
      exact ⟨I2, J2, g1, g2, fun x x1 => by rw [g3 x x1, xu_rw x1], fun x x1 => by rw [g4 x x1, xu_rw x1]⟩
theorem r_goTo (hL : Lay K F) (hE : EOk 1500 lg) {t m : Nat} (ht : t < n) (hn : n ≤ 12) (hm : m ≤ lg.length) (hR : RRows I J 133 134 n β) (hc : RLst I J 17 0 lg) : ∃ I' J', m5_goTo 148 K F I J 123 (nI t) (nI m) = some (I', J') ∧ R1 I' J' 146 147 (beh (β t) t lg m) ∧ (∀ x, x ≠ 146 → I' x = I x) ∧ ∀ x, x ≠ 147 → J' x = J x := by
  have hl := hE.1
  obtain ⟨I1, J1, e1, e2, e3, e4⟩ := r_goL2 hL ht hn (nI m) xFu 0 I J (by omega) (by unfold xFu; omega) hR (fun x hx => by omega)
  obtain ⟨I2, J2, g1, g2, g3, g4⟩ := r_goL50 (a := β t) hL hE (show t < 12 by omega) hm xFu 0 I1 J1 (by omega) (by unfold xFu; omega) (hc.fr' (by rw [e3 123 (by decide)]) (e3 _ (by decide)) (e3 _ (by decide)) (e3 _ (by decide)) (e4 _ (by decide)) (e4 _ (by decide))) e2
  exact ⟨I2, J2, Eq.trans e1 g1, g2, fun x x1 => by rw [g3 x x1, e3 x x1], fun x x1 => by rw [g4 x x1, e4 x x1]⟩
end
