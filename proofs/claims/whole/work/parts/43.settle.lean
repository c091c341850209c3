section
variable {K : Nat → Nat × Nat} {F : Nat → Nat → Option Nat} {n : Nat} {so o1 o2 : Nat → Nat} {p q : Nat → Int64} {ρ σ S β : Nat → Nat → Option Int64} {lg td nt : List (Nat × Nat × Option Int64 × Option Int64)} {bo : Bool} {b : List (Nat × Nat × Option Int64)} {κ : Nat → Option Int64}
theorem c_takeBackL (hL : Lay K F) (hn : n ≤ 12) {I : Nat → Nat → Int32} (hI : I 0 1 = nI n) : ∀ (f t : Nat) (J : Nat → Nat → Int64), t ≤ n → n - t < f → CRows J n 1 ρ → (∀ x, x < t → RA J (27 + 8 * x + 3) (ρ x)) → ∃ J', m0_takeBack_L2 148 K F I f J 0 (nI t) = some J' ∧ (∀ a, (∀ x, x < 12 → a ≠ 27 + 8 * x + 3 ∧ a ≠ 27 + 8 * x + 4) → J' a = J a) ∧ CRows J' n 3 ρ
  | 0, t, J, h1, h2, _, _ => absurd h2 (by omega)
  | f + 1, t, J, h1, h2, hR, hx => by
    rw [m0_takeBack_L2]
    simp (disch := omega) only [↓xlet, xb_some, ↓reduceIte, cl_nI, nI_64, nI_add, nI_1, kg3 hL, kg4 hL, kg5 hL, kg6 hL, kg8 hL, kg9 hL, kg10 hL, kg12 hL, kg13 hL, kg14 hL, kg16 hL, kg17 hL, kg18 hL, kg0 hL, kg2 hL, kg7 hL, kg11 hL, kg15 hL, kg19 hL, kg21 hL, kg23 hL, kg25 hL, ↓xbs (lF0_0 hL), ↓xbs (lF0_2 hL), ↓xbs (lF0_3 hL), ↓xbs (lF0_4 hL), ↓xbs (lF0_5 hL), ↓xbs (lF0_6 hL), ↓xbs (lF0_7 hL), ↓xbs (lF0_8 hL), ↓xbs (lF0_9 hL), ↓xbs (lF2_2 hL), ↓xbs (lF2_3 hL), ↓xbs (lF2_4 hL), ↓xbs (lF2_5 hL), ↓xbs (lF7_1 hL), ↓xbs (lF7_2 hL), ↓xbs (lF7_3 hL), ↓xbs (lF11_1 hL), ↓xbs (lF11_2 hL), ↓xbs (lF11_3 hL), ↓xbs (lF15_1 hL), ↓xbs (lF15_2 hL), ↓xbs (lF15_3 hL), kg1 hL, lF1 hL, ↓xF1c hL, kgT hL, kgR1 hL, kgR3 hL, kgR5 hL, ↓xT5 hL, ↓xT6 hL, ↓xT7 hL, lT5 hL, lT6 hL, lT7 hL, hI]
    by_cases e : t = n
    · subst e
      rw [if_pos (nI_le (Nat.le_refl t) (by omega))]
      exact ⟨J, rfl, fun _ _ => rfl, hx⟩
    · have htn : t < n := by omega
      have h12 : t < 12 := by omega
      rw [if_neg (nI_ge htn (by omega))]
      obtain ⟨J1, e1, e2, e3⟩ := m_become (I := I) (lRT3 hL h12) (lRT1 hL h12) (by omega) (hR t htn)
      simp (disch := omega) only [↓xlet, xb_some, ↓reduceIte, cl_nI, nI_64, nI_add, nI_1, kg3 hL, kg4 hL, kg5 hL, kg6 hL, kg8 hL, kg9 hL, kg10 hL, kg12 hL, kg13 hL, kg14 hL, kg16 hL, kg17 hL, kg18 hL, kg0 hL, kg2 hL, kg7 hL, kg11 hL, kg15 hL, kg19 hL, kg21 hL, kg23 hL, kg25 hL, ↓xbs (lF0_0 hL), ↓xbs (lF0_2 hL), ↓xbs (lF0_3 hL), ↓xbs (lF0_4 hL), ↓xbs (lF0_5 hL), ↓xbs (lF0_6 hL), ↓xbs (lF0_7 hL), ↓xbs (lF0_8 hL), ↓xbs (lF0_9 hL), ↓xbs (lF2_2 hL), ↓xbs (lF2_3 hL), ↓xbs (lF2_4 hL), ↓xbs (lF2_5 hL), ↓xbs (lF7_1 hL), ↓xbs (lF7_2 hL), ↓xbs (lF7_3 hL), ↓xbs (lF11_1 hL), ↓xbs (lF11_2 hL), ↓xbs (lF11_3 hL), ↓xbs (lF15_1 hL), ↓xbs (lF15_2 hL), ↓xbs (lF15_3 hL), kg1 hL, lF1 hL, ↓xF1c hL, kgT hL, kgR1 hL, kgR3 hL, kgR5 hL, ↓xT5 hL, ↓xT6 hL, ↓xT7 hL, lT5 hL, lT6 hL, lT7 hL, ↓xbs e1]
      obtain ⟨J2, g1, g2, g3⟩ := c_takeBackL hL hn hI f (t + 1) J1 (by omega) (by omega) (hR.fr (fun x hx => ⟨e3 _ (by omega) (by omega), e3 _ (by omega) (by omega)⟩)) (fun x hxt => by
        by_cases c : x = t
        · subst c; exact e2
        · exact RA_move (hx x (by omega)) (e3 _ (by omega) (by omega)) (e3 _ (by omega) (by omega)))
      exact ⟨J2, g1, fun a ha => by rw [g2 a ha, e3 a (ha t h12).1 (ha t h12).2], g3⟩
theorem c_tellL (hL : Lay K F) (hn : n ≤ 12) (hlen : lg.length + (stT ρ S n).length ≤ 1500) : ∀ (f t : Nat) (I : Nat → Nat → Int32) (J : Nat → Nat → Int64), t ≤ n → n - t < f → I 0 1 = nI n → CLst I J 7 lg → CLst I J 11 (stT ρ S t) → (∀ x, x < t → RA J (27 + 8 * x + 1) (S x)) → (∀ x, t ≤ x → x < n → RA J (27 + 8 * x + 1) (ρ x)) → CRows J n 3 S → (∀ x, x < n → ∀ k, k < 64 → bt (J (27 + 8 * x) 9) k = decide (ρ x k ≠ S x k)) → ∃ I' J', m0_tell_L9 148 K F f I J 0 (nI t) = some (I', J') ∧ CLst I' J' 7 (lg ++ stT ρ S n) ∧ CLst I' J' 11 (stT ρ S n) ∧ CRows J' n 1 S ∧ (∀ a, a ≠ 7 → a ≠ 8 → a ≠ 11 → a ≠ 12 → I' a = I a) ∧ ∀ a, a ≠ 9 → a ≠ 10 → a ≠ 13 → a ≠ 14 → (∀ x, x < 12 → a ≠ 27 + 8 * x + 1 ∧ a ≠ 27 + 8 * x + 2) → J' a = J a
  | 0, t, I, J, h1, h2, _, _, _, _, _, _, _ => absurd h2 (by omega)
  | f + 1, t, I, J, h1, h2, hI, h7, h11, hx, hy, h3, hm => by
    have nl := stT_len ρ S n
    rw [m0_tell_L9]
    simp (disch := omega) only [↓xlet, xb_some, ↓reduceIte, cl_nI, nI_64, nI_add, nI_1, kg3 hL, kg4 hL, kg5 hL, kg6 hL, kg8 hL, kg9 hL, kg10 hL, kg12 hL, kg13 hL, kg14 hL, kg16 hL, kg17 hL, kg18 hL, kg0 hL, kg2 hL, kg7 hL, kg11 hL, kg15 hL, kg19 hL, kg21 hL, kg23 hL, kg25 hL, ↓xbs (lF0_0 hL), ↓xbs (lF0_2 hL), ↓xbs (lF0_3 hL), ↓xbs (lF0_4 hL), ↓xbs (lF0_5 hL), ↓xbs (lF0_6 hL), ↓xbs (lF0_7 hL), ↓xbs (lF0_8 hL), ↓xbs (lF0_9 hL), ↓xbs (lF2_2 hL), ↓xbs (lF2_3 hL), ↓xbs (lF2_4 hL), ↓xbs (lF2_5 hL), ↓xbs (lF7_1 hL), ↓xbs (lF7_2 hL), ↓xbs (lF7_3 hL), ↓xbs (lF11_1 hL), ↓xbs (lF11_2 hL), ↓xbs (lF11_3 hL), ↓xbs (lF15_1 hL), ↓xbs (lF15_2 hL), ↓xbs (lF15_3 hL), kg1 hL, lF1 hL, ↓xF1c hL, kgT hL, kgR1 hL, kgR3 hL, kgR5 hL, ↓xT5 hL, ↓xT6 hL, ↓xT7 hL, lT5 hL, lT6 hL, lT7 hL, hI]
    by_cases e : t = n
    · subst e
      rw [if_pos (nI_le (Nat.le_refl t) (by omega))]
      obtain ⟨I1, J1, e1, e2, e3, e4⟩ := m_addAll hL h7 h11 hlen (by omega)
      simp (disch := omega) only [↓xlet, xb_some, ↓reduceIte, cl_nI, nI_64, nI_add, nI_1, kg3 hL, kg4 hL, kg5 hL, kg6 hL, kg8 hL, kg9 hL, kg10 hL, kg12 hL, kg13 hL, kg14 hL, kg16 hL, kg17 hL, kg18 hL, kg0 hL, kg2 hL, kg7 hL, kg11 hL, kg15 hL, kg19 hL, kg21 hL, kg23 hL, kg25 hL, ↓xbs (lF0_0 hL), ↓xbs (lF0_2 hL), ↓xbs (lF0_3 hL), ↓xbs (lF0_4 hL), ↓xbs (lF0_5 hL), ↓xbs (lF0_6 hL), ↓xbs (lF0_7 hL), ↓xbs (lF0_8 hL), ↓xbs (lF0_9 hL), ↓xbs (lF2_2 hL), ↓xbs (lF2_3 hL), ↓xbs (lF2_4 hL), ↓xbs (lF2_5 hL), ↓xbs (lF7_1 hL), ↓xbs (lF7_2 hL), ↓xbs (lF7_3 hL), ↓xbs (lF11_1 hL), ↓xbs (lF11_2 hL), ↓xbs (lF11_3 hL), ↓xbs (lF15_1 hL), ↓xbs (lF15_2 hL), ↓xbs (lF15_3 hL), kg1 hL, lF1 hL, ↓xF1c hL, kgT hL, kgR1 hL, kgR3 hL, kgR5 hL, ↓xT5 hL, ↓xT6 hL, ↓xT7 hL, lT5 hL, lT6 hL, lT7 hL, ↓xbs e1]
      exact ⟨I1, J1, rfl, e2, h11.fr (e3 _ (by decide) (by decide)) (e3 _ (by decide) (by decide)) (e4 _ (by decide) (by decide)) (e4 _ (by decide) (by decide)), fun x hxn => RA_move (hx x hxn) (e4 _ (by omega) (by omega)) (e4 _ (by omega) (by omega)), fun a a7 a8 _ _ => e3 a a7 a8, fun a a9 a10 _ _ _ => e4 a a9 a10⟩
    · have htn : t < n := by omega
      have h12 : t < 12 := by omega
      rw [if_neg (nI_ge htn (by omega))]
      have tl := stT_len ρ S t
      simp (disch := omega) only [↓xlet, xb_some, ↓reduceIte, cl_nI, nI_64, nI_add, nI_1, kg3 hL, kg4 hL, kg5 hL, kg6 hL, kg8 hL, kg9 hL, kg10 hL, kg12 hL, kg13 hL, kg14 hL, kg16 hL, kg17 hL, kg18 hL, kg0 hL, kg2 hL, kg7 hL, kg11 hL, kg15 hL, kg19 hL, kg21 hL, kg23 hL, kg25 hL, ↓xbs (lF0_0 hL), ↓xbs (lF0_2 hL), ↓xbs (lF0_3 hL), ↓xbs (lF0_4 hL), ↓xbs (lF0_5 hL), ↓xbs (lF0_6 hL), ↓xbs (lF0_7 hL), ↓xbs (lF0_8 hL), ↓xbs (lF0_9 hL), ↓xbs (lF2_2 hL), ↓xbs (lF2_3 hL), ↓xbs (lF2_4 hL), ↓xbs (lF2_5 hL), ↓xbs (lF7_1 hL), ↓xbs (lF7_2 hL), ↓xbs (lF7_3 hL), ↓xbs (lF11_1 hL), ↓xbs (lF11_2 hL), ↓xbs (lF11_3 hL), ↓xbs (lF15_1 hL), ↓xbs (lF15_2 hL), ↓xbs (lF15_3 hL), kg1 hL, lF1 hL, ↓xF1c hL, kgT hL, kgR1 hL, kgR3 hL, kgR5 hL, ↓xT5 hL, ↓xT6 hL, ↓xT7 hL, lT5 hL, lT6 hL, lT7 hL]
      by_cases z : J (27 + 8 * t) 9 = 0
      · have same := (mv_0 (hm t htn)).mp z
        rw [if_pos z]
        exact c_tellL hL hn hlen f (t + 1) I J (by omega) (by omega) hI h7 (by rw [stT, stK_nil 64 same, List.append_nil]; exact h11) (fun x hxt => by
          by_cases c : x = t
          · subst c; exact RA_congr (hy x (Nat.le_refl x) htn) same
          · exact hx x (by omega)) (fun x hxt => hy x (by omega)) h3 hm
      · rw [if_neg z]
        obtain ⟨I1, J1, e1, e2, e3, e4⟩ := m_addSteps (lL11 hL) (lRT1 hL h12) (lRT3 hL h12) ⟨by omega, by omega, by omega, by omega⟩ ⟨by omega, by omega, by omega, by omega⟩ h12 (hm t htn) (by omega) h11 (hy t (Nat.le_refl t) htn) (h3 t htn)
        obtain ⟨J2, d1, d2, d3⟩ := m_become (I := I1) (lRT1 hL h12) (lRT3 hL h12) (by omega) (RA_move (h3 t htn) (e4 _ (by omega) (by omega)) (e4 _ (by omega) (by omega)))
        simp (disch := omega) only [↓xlet, xb_some, ↓reduceIte, cl_nI, nI_64, nI_add, nI_1, kg3 hL, kg4 hL, kg5 hL, kg6 hL, kg8 hL, kg9 hL, kg10 hL, kg12 hL, kg13 hL, kg14 hL, kg16 hL, kg17 hL, kg18 hL, kg0 hL, kg2 hL, kg7 hL, kg11 hL, kg15 hL, kg19 hL, kg21 hL, kg23 hL, kg25 hL, ↓xbs (lF0_0 hL), ↓xbs (lF0_2 hL), ↓xbs (lF0_3 hL), ↓xbs (lF0_4 hL), ↓xbs (lF0_5 hL), ↓xbs (lF0_6 hL), ↓xbs (lF0_7 hL), ↓xbs (lF0_8 hL), ↓xbs (lF0_9 hL), ↓xbs (lF2_2 hL), ↓xbs (lF2_3 hL), ↓xbs (lF2_4 hL), ↓xbs (lF2_5 hL), ↓xbs (lF7_1 hL), ↓xbs (lF7_2 hL), ↓xbs (lF7_3 hL), ↓xbs (lF11_1 hL), ↓xbs (lF11_2 hL), ↓xbs (lF11_3 hL), ↓xbs (lF15_1 hL), ↓xbs (lF15_2 hL), ↓xbs (lF15_3 hL), kg1 hL, lF1 hL, ↓xF1c hL, kgT hL, kgR1 hL, kgR3 hL, kgR5 hL, ↓xT5 hL, ↓xT6 hL, ↓xT7 hL, lT5 hL, lT6 hL, lT7 hL, ↓xbs e1, ↓xbs d1]
        have fj : ∀ a, a ≠ 13 → a ≠ 14 → a ≠ 27 + 8 * t + 1 → a ≠ 27 + 8 * t + 2 → J2 a = J a := fun a x1 x2 x3 x4 => by rw [d3 a x3 x4, e4 a x1 x2]
        obtain ⟨I3, J3, g1, g2, g3, g4, g5, g6⟩ := c_tellL hL hn hlen f (t + 1) I1 J2 (by omega) (by omega) (by rw [e3 0 (by decide) (by decide)]; exact hI) (h7.fr (e3 _ (by decide) (by decide)) (e3 _ (by decide) (by decide)) (fj _ (by omega) (by omega) (by omega) (by omega)) (fj _ (by omega) (by omega) (by omega) (by omega))) (e2.fr rfl rfl (d3 _ (by omega) (by omega)) (d3 _ (by omega) (by omega))) (fun x hxt => by
          by_cases c : x = t
          · subst c; exact d2
          · exact RA_move (hx x (by omega)) (fj _ (by omega) (by omega) (by omega) (by omega)) (fj _ (by omega) (by omega) (by omega) (by omega))) (fun x hxt hxn => RA_move (hy x (by omega) hxn) (fj _ (by omega) (by omega) (by omega) (by omega)) (fj _ (by omega) (by omega) (by omega) (by omega))) (h3.fr (fun x hxn => ⟨fj _ (by omega) (by omega) (by omega) (by omega), fj _ (by omega) (by omega) (by omega) (by omega)⟩)) (fun x hxn => by rw [fj _ (by omega) (by omega) (by omega) (by omega)]; exact hm x hxn)
        exact ⟨I3, J3, g1, g2, g3, g4, fun a a7 a8 a11 a12 => by rw [g5 a a7 a8 a11 a12, e3 a a11 a12], fun a a9 a10 a13 a14 ax => by rw [g6 a a9 a10 a13 a14 ax, fj a a13 a14 (ax t h12).1 (ax t h12).2]⟩
theorem c_settle (hL : Lay K F) {I : Nat → Nat → Int32} {J : Nat → Nat → Int64} (hS : Shp n so o1 o2 p q) (hD : Der n so o1 o2 p q ρ) (hG : Sg n so o1 o2 p q σ S) (hσ : ∀ t, t < n → so t ≠ 0 → σ t = ρ t) (hlg : lg.length ≤ 1500) (h1 : CDef I J n so o1 o2 p q) (h2 : CRows J n 1 ρ) (h3 : CRows J n 3 σ) (h4 : CRows J n 5 β) (h5 : CBat I J bo b) (h6 : CLst I J 7 lg) (h7 : CLst I J 11 td) (h8 : CLst I J 15 nt) (h9 : RA J 19 κ) (h10 : RA J 25 (fun _ => none)) : ∃ I' J', HiF I I' J J' ∧ (lg.length + (stT ρ S n).length ≤ 1500 → m0_settle 148 K F I J 0 = some (nI (stT ρ S n).length, I', J') ∧ CS I' J' n so o1 o2 p q S β bo b (lg ++ stT ρ S n) (stT ρ S n) nt κ) ∧ (¬ lg.length + (stT ρ S n).length ≤ 1500 → m0_settle 148 K F I J 0 = some (-3, I', J') ∧ CS I' J' n so o1 o2 p q ρ β bo b lg td nt κ) := by
  have hn := hS.1
  have nl := stT_len ρ S n
  obtain ⟨I1, J1, e1, e2, e3, e4⟩ := c_followL hL hS hD hG hσ xFu 0 I J (by omega) (by unfold xFu; omega) h1 h2 h10 (fun x hx => by omega) (fun x _ hx => h3 x hx) (fun x hx => by omega)
  have e1 : m0_follow_L4 148 K F xFu I J 0 0 0 = some (nI (stT ρ S n).length, I1, J1) := e1
  have d1 := h1.frF e2
  have d2 : CRows J1 n 1 ρ := h2.fr (fun x hx => ⟨e2.2.1 _ (fun z _ => by omega), e2.2.1 _ (fun z _ => by omega)⟩)
  have d4 : CRows J1 n 5 β := h4.fr (fun x hx => ⟨e2.2.1 _ (fun z _ => by omega), e2.2.1 _ (fun z _ => by omega)⟩)
  have fi : ∀ a, a < 27 ∨ 123 ≤ a → (∀ x, x < 12 → a ≠ 27 + 8 * x + 7) → I1 a = I a := fun a _ hb => e2.1 a hb
  have lowI : ∀ a, a < 27 → I1 a = I a := fun a ha => e2.1 a (fun x _ => by omega)
  have lowJ : ∀ a, a < 27 → J1 a = J a := fun a ha => e2.2.1 a (fun x _ => by omega)
  have d6 : CLst I1 J1 7 lg := h6.fr (lowI _ (by decide)) (lowI _ (by decide)) (lowJ _ (by decide)) (lowJ _ (by decide))
  have sub : (1500 : Int32) - nI lg.length = nI (1500 - lg.length) := nI_sub' (a := 1500) hlg
  by_cases c : lg.length + (stT ρ S n).length ≤ 1500
  · have r11 : CLst (xu I1 11 0 0) J1 11 [] := ⟨by rw [xu2]; rfl, fun i t k o w e => by simp at e⟩
    obtain ⟨I2, J2, g1, g2, g3, g4, g5, g6⟩ := c_tellL (S := S) (ρ := ρ) hL hn c xFu 0 (xu I1 11 0 0) J1 (by omega) (by unfold xFu; omega) (by rw [xu_rw (by decide)]; exact d1.1) (d6.fr (xu_rw (by decide)) (xu_rw (by decide)) rfl rfl) r11 (fun x hx => by omega) (fun x _ hx => d2 x hx) e3 e4
    have g1 : m0_tell_L9 148 K F xFu (xu I1 11 0 0) J1 0 0 = some (I2, J2) := g1
    have FI : ∀ a, a ≠ 7 → a ≠ 8 → a ≠ 11 → a ≠ 12 → I2 a = I1 a := fun a a7 a8 a11 a12 => by rw [g5 a a7 a8 a11 a12, xu_rw a11]
    refine ⟨I2, J2, ?_, fun _ => ⟨?_, d1.fr (FI 0 (by decide) (by decide) (by decide) (by decide)) (fun t ht => ?_), g4, ?_, ?_, ?_, g2, g3, ?_, ?_, ?_⟩, fun z => absurd c z⟩
    · intro a ha
      exact ⟨by rw [FI a (by omega) (by omega) (by omega) (by omega), e2.1 a (fun x _ => by omega)], by rw [g6 a (by omega) (by omega) (by omega) (by omega) (fun x _ => by omega), e2.2.1 a (fun x _ => by omega)]⟩
    · unfold m0_settle m0_follow m0_tell m2_reset
      have le : (nI (stT ρ S n).length ≤ nI (1500 - lg.length)) = True := eq_true (nI_le (by omega) (by omega))
      simp (disch := omega) only [↓xlet, xb_some, ↓reduceIte, cl_nI, nI_64, nI_add, nI_1, kg3 hL, kg4 hL, kg5 hL, kg6 hL, kg8 hL, kg9 hL, kg10 hL, kg12 hL, kg13 hL, kg14 hL, kg16 hL, kg17 hL, kg18 hL, kg0 hL, kg2 hL, kg7 hL, kg11 hL, kg15 hL, kg19 hL, kg21 hL, kg23 hL, kg25 hL, ↓xbs (lF0_0 hL), ↓xbs (lF0_2 hL), ↓xbs (lF0_3 hL), ↓xbs (lF0_4 hL), ↓xbs (lF0_5 hL), ↓xbs (lF0_6 hL), ↓xbs (lF0_7 hL), ↓xbs (lF0_8 hL), ↓xbs (lF0_9 hL), ↓xbs (lF2_2 hL), ↓xbs (lF2_3 hL), ↓xbs (lF2_4 hL), ↓xbs (lF2_5 hL), ↓xbs (lF7_1 hL), ↓xbs (lF7_2 hL), ↓xbs (lF7_3 hL), ↓xbs (lF11_1 hL), ↓xbs (lF11_2 hL), ↓xbs (lF11_3 hL), ↓xbs (lF15_1 hL), ↓xbs (lF15_2 hL), ↓xbs (lF15_3 hL), kg1 hL, lF1 hL, ↓xF1c hL, kgT hL, kgR1 hL, kgR3 hL, kgR5 hL, ↓xT5 hL, ↓xT6 hL, ↓xT7 hL, lT5 hL, lT6 hL, lT7 hL, ↓xbs e1, d6.1, sub, le, ↓xbs g1, g1]
    · rw [FI _ (by omega) (by omega) (by omega) (by omega), g6 _ (by omega) (by omega) (by omega) (by omega) (fun x _ => by omega)]
      exact ⟨rfl, rfl, rfl⟩
    · exact fun x hx => RA_move (e3 x hx) (g6 _ (by omega) (by omega) (by omega) (by omega) (fun z _ => by omega)) (g6 _ (by omega) (by omega) (by omega) (by omega) (fun z _ => by omega))
    · exact d4.fr (fun x hx => ⟨g6 _ (by omega) (by omega) (by omega) (by omega) (fun z _ => by omega), g6 _ (by omega) (by omega) (by omega) (by omega) (fun z _ => by omega)⟩)
    · have m : ∀ a, 1 < a → a < 7 → I2 a = I a := fun a z1 z2 => by rw [FI a (by omega) (by omega) (by omega) (by omega), lowI a (by omega)]
      exact h5.fr (m _ (by decide) (by decide)) (m _ (by decide) (by decide)) (m _ (by decide) (by decide)) (m _ (by decide) (by decide)) (by rw [g6 _ (by decide) (by decide) (by decide) (by decide) (fun x _ => by omega), lowJ _ (by decide)])
    · have m : ∀ a, 14 < a → a < 27 → I2 a = I a := fun a z1 z2 => by rw [FI a (by omega) (by omega) (by omega) (by omega), lowI a (by omega)]
      have mj : ∀ a, 14 < a → a < 27 → J2 a = J a := fun a z1 z2 => by rw [g6 a (by omega) (by omega) (by omega) (by omega) (fun x _ => by omega), lowJ a (by omega)]
      exact h8.fr (m _ (by decide) (by decide)) (m _ (by decide) (by decide)) (mj _ (by decide) (by decide)) (mj _ (by decide) (by decide))
    · have mj : ∀ a, 14 < a → a < 27 → J2 a = J a := fun a z1 z2 => by rw [g6 a (by omega) (by omega) (by omega) (by omega) (fun x _ => by omega), lowJ a (by omega)]
      exact RA_move h9 (mj _ (by decide) (by decide)) (mj _ (by decide) (by decide))
    · have mj : ∀ a, 14 < a → a < 27 → J2 a = J a := fun a z1 z2 => by rw [g6 a (by omega) (by omega) (by omega) (by omega) (fun x _ => by omega), lowJ a (by omega)]
      exact RA_move h10 (mj _ (by decide) (by decide)) (mj _ (by decide) (by decide))
  · obtain ⟨J2, g1, g2, g3⟩ := c_takeBackL (I := I1) hL hn d1.1 xFu 0 J1 (by omega) (by unfold xFu; omega) d2 (fun x hx => by omega)
    have g1 : m0_takeBack_L2 148 K F I1 xFu J1 0 0 = some J2 := g1
    have mj : ∀ a, a < 27 → J2 a = J a := fun a z => by rw [g2 a (fun x _ => by omega), lowJ a z]
    refine ⟨I1, J2, fun a ha => ⟨e2.1 a (fun x _ => by omega), by rw [g2 a (fun x _ => by omega), e2.2.1 a (fun x _ => by omega)]⟩, fun z => absurd z c, fun _ => ⟨?_, d1.fr rfl (fun t ht => ⟨rfl, by rw [g2 _ (fun x _ => by omega)], by rw [g2 _ (fun x _ => by omega)]⟩), d2.fr (fun x hx => ⟨g2 _ (fun x _ => by omega), g2 _ (fun x _ => by omega)⟩), g3, d4.fr (fun x hx => ⟨g2 _ (fun x _ => by omega), g2 _ (fun x _ => by omega)⟩), h5.fr (lowI _ (by decide)) (lowI _ (by decide)) (lowI _ (by decide)) (lowI _ (by decide)) (mj _ (by decide)), ?_, ?_, ?_, RA_move h9 (mj _ (by decide)) (mj _ (by decide)), RA_move h10 (mj _ (by decide)) (mj _ (by decide))⟩⟩
    · unfold m0_settle m0_follow m0_takeBack
      have le : (nI (stT ρ S n).length ≤ nI (1500 - lg.length)) = False := eq_false (nI_ge (by omega) (by omega))
      simp (disch := omega) only [↓xlet, xb_some, ↓reduceIte, cl_nI, nI_64, nI_add, nI_1, kg3 hL, kg4 hL, kg5 hL, kg6 hL, kg8 hL, kg9 hL, kg10 hL, kg12 hL, kg13 hL, kg14 hL, kg16 hL, kg17 hL, kg18 hL, kg0 hL, kg2 hL, kg7 hL, kg11 hL, kg15 hL, kg19 hL, kg21 hL, kg23 hL, kg25 hL, ↓xbs (lF0_0 hL), ↓xbs (lF0_2 hL), ↓xbs (lF0_3 hL), ↓xbs (lF0_4 hL), ↓xbs (lF0_5 hL), ↓xbs (lF0_6 hL), ↓xbs (lF0_7 hL), ↓xbs (lF0_8 hL), ↓xbs (lF0_9 hL), ↓xbs (lF2_2 hL), ↓xbs (lF2_3 hL), ↓xbs (lF2_4 hL), ↓xbs (lF2_5 hL), ↓xbs (lF7_1 hL), ↓xbs (lF7_2 hL), ↓xbs (lF7_3 hL), ↓xbs (lF11_1 hL), ↓xbs (lF11_2 hL), ↓xbs (lF11_3 hL), ↓xbs (lF15_1 hL), ↓xbs (lF15_2 hL), ↓xbs (lF15_3 hL), kg1 hL, lF1 hL, ↓xF1c hL, kgT hL, kgR1 hL, kgR3 hL, kgR5 hL, ↓xT5 hL, ↓xT6 hL, ↓xT7 hL, lT5 hL, lT6 hL, lT7 hL, ↓xbs e1, d6.1, sub, le, ↓xbs g1]
    · exact h6.fr (lowI _ (by decide)) (lowI _ (by decide)) (mj _ (by decide)) (mj _ (by decide))
    · exact h7.fr (lowI _ (by decide)) (lowI _ (by decide)) (mj _ (by decide)) (mj _ (by decide))
    · exact h8.fr (lowI _ (by decide)) (lowI _ (by decide)) (mj _ (by decide)) (mj _ (by decide))
end
