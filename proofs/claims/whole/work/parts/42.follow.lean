section
variable {K : Nat → Nat × Nat} {F : Nat → Nat → Option Nat} {n : Nat} {so o1 o2 : Nat → Nat} {p q : Nat → Int64} {ρ σ S β : Nat → Nat → Option Int64} {lg td : List (Nat × Nat × Option Int64 × Option Int64)}
/-- what follow may move -/
def FrF (I I' : Nat → Nat → Int32) (J J' : Nat → Nat → Int64) : Prop := (∀ a, (∀ x, x < 12 → a ≠ 27 + 8 * x + 7) → I' a = I a) ∧ (∀ a, (∀ x, x < 12 → a ≠ 27 + 8 * x ∧ a ≠ 27 + 8 * x + 3 ∧ a ≠ 27 + 8 * x + 4) → J' a = J a) ∧ ∀ x j, j ≠ 9 → J' (27 + 8 * x) j = J (27 + 8 * x) j
theorem FrF.self {I : Nat → Nat → Int32} {J : Nat → Nat → Int64} : FrF I I J J := ⟨fun _ _ => rfl, fun _ _ => rfl, fun _ _ _ => rfl⟩
theorem FrF.trans {I I1 I2 : Nat → Nat → Int32} {J J1 J2 : Nat → Nat → Int64} (h : FrF I I1 J J1) (h' : FrF I1 I2 J1 J2) : FrF I I2 J J2 := ⟨fun a ha => by rw [h'.1 a ha, h.1 a ha], fun a ha => by rw [h'.2.1 a ha, h.2.1 a ha], fun x j hj => by rw [h'.2.2 x j hj, h.2.2 x j hj]⟩
theorem CDef.frF {I I' : Nat → Nat → Int32} {J J' : Nat → Nat → Int64} (h : CDef I J n so o1 o2 p q) (f : FrF I I' J J') : CDef I' J' n so o1 o2 p q := h.fr (f.1 0 (fun x _ => by omega)) (fun t ht => ⟨f.1 _ (fun x _ => by omega), f.2.2 t 3 (by decide), f.2.2 t 4 (by decide)⟩)
theorem c_isMoved (hL : Lay K F) {I : Nat → Nat → Int32} {J : Nat → Nat → Int64} (hn : n ≤ 12) (h : I 0 1 = nI n) {t : Nat} (ht : t < n) : m0_isMoved 148 K F I J 0 (nI t) = some (if J (27 + 8 * t) 9 = 0 then 0 else 1) := by
  have hw : win (nI t) 0 (nI n - 1) = true := (win_n (by omega)).mpr ⟨t, ht, rfl⟩
  have h12 : t < 12 := by omega
  unfold m0_isMoved
  simp (disch := omega) only [↓xlet, xb_some, ↓reduceIte, cl_nI, nI_64, nI_add, nI_1, kg3 hL, kg4 hL, kg5 hL, kg6 hL, kg8 hL, kg9 hL, kg10 hL, kg12 hL, kg13 hL, kg14 hL, kg16 hL, kg17 hL, kg18 hL, kg0 hL, kg2 hL, kg7 hL, kg11 hL, kg15 hL, kg19 hL, kg21 hL, kg23 hL, kg25 hL, ↓xbs (lF0_0 hL), ↓xbs (lF0_2 hL), ↓xbs (lF0_3 hL), ↓xbs (lF0_4 hL), ↓xbs (lF0_5 hL), ↓xbs (lF0_6 hL), ↓xbs (lF0_7 hL), ↓xbs (lF0_8 hL), ↓xbs (lF0_9 hL), ↓xbs (lF2_2 hL), ↓xbs (lF2_3 hL), ↓xbs (lF2_4 hL), ↓xbs (lF2_5 hL), ↓xbs (lF7_1 hL), ↓xbs (lF7_2 hL), ↓xbs (lF7_3 hL), ↓xbs (lF11_1 hL), ↓xbs (lF11_2 hL), ↓xbs (lF11_3 hL), ↓xbs (lF15_1 hL), ↓xbs (lF15_2 hL), ↓xbs (lF15_3 hL), kg1 hL, lF1 hL, ↓xF1c hL, kgT hL, kgR1 hL, kgR3 hL, kgR5 hL, ↓xT5 hL, ↓xT6 hL, ↓xT7 hL, lT5 hL, lT6 hL, lT7 hL, ↓xisT hL h, hw, bi_z, Bool.true_eq_false]
  by_cases z : J (27 + 8 * t) 9 = 0
  · rw [if_pos z, if_pos z]
  · rw [if_neg z, if_neg z]
theorem c_isMovedN (hL : Lay K F) {I : Nat → Nat → Int32} {J : Nat → Nat → Int64} (hn : n ≤ 12) (h : I 0 1 = nI n) : m0_isMoved 148 K F I J 0 (-1) = some 0 := by
  unfold m0_isMoved
  simp (disch := omega) only [↓xlet, xb_some, ↓reduceIte, cl_nI, nI_64, nI_add, nI_1, kg3 hL, kg4 hL, kg5 hL, kg6 hL, kg8 hL, kg9 hL, kg10 hL, kg12 hL, kg13 hL, kg14 hL, kg16 hL, kg17 hL, kg18 hL, kg0 hL, kg2 hL, kg7 hL, kg11 hL, kg15 hL, kg19 hL, kg21 hL, kg23 hL, kg25 hL, ↓xbs (lF0_0 hL), ↓xbs (lF0_2 hL), ↓xbs (lF0_3 hL), ↓xbs (lF0_4 hL), ↓xbs (lF0_5 hL), ↓xbs (lF0_6 hL), ↓xbs (lF0_7 hL), ↓xbs (lF0_8 hL), ↓xbs (lF0_9 hL), ↓xbs (lF2_2 hL), ↓xbs (lF2_3 hL), ↓xbs (lF2_4 hL), ↓xbs (lF2_5 hL), ↓xbs (lF7_1 hL), ↓xbs (lF7_2 hL), ↓xbs (lF7_3 hL), ↓xbs (lF11_1 hL), ↓xbs (lF11_2 hL), ↓xbs (lF11_3 hL), ↓xbs (lF15_1 hL), ↓xbs (lF15_2 hL), ↓xbs (lF15_3 hL), kg1 hL, lF1 hL, ↓xF1c hL, kgT hL, kgR1 hL, kgR3 hL, kgR5 hL, ↓xT5 hL, ↓xT6 hL, ↓xT7 hL, lT5 hL, lT6 hL, lT7 hL, ↓xisT hL h, win_neg hn, bi_z]
theorem mv_0 {y : Int64} {a w : Nat → Option Int64} (hy : ∀ k, k < 64 → bt y k = decide (a k ≠ w k)) : y = 0 ↔ ∀ k, k < 64 → a k = w k := by
  constructor
  · intro h k hk
    have := hy k hk
    rw [h, bt_zero] at this
    simpa using this
  · intro h
    exact bt_ext fun i hi => by rw [hy i hi, bt_zero]; simpa using h i hi
/-- the end of follow's turn at table t -/
theorem c_folB61 (hL : Lay K F) {I : Nat → Nat → Int32} {J : Nat → Nat → Int64} {t c : Nat} (ht : t < 12) {a w : Nat → Option Int64} (hA : RA J (27 + 8 * t + 1) a) (hB : RA J (27 + 8 * t + 3) w) (k4 : (Nat → Nat → Int32) → (Nat → Nat → Int64) → Nat → Int32 → Int32 → Option (Int32 × (Nat → Nat → Int32) × (Nat → Nat → Int64))) : ∃ y, m0_follow_B61 148 K F k4 I J 0 (nI c) (nI t) (27 + 8 * t) = k4 I (xu J (27 + 8 * t) 9 y) 0 (nI (c + (stK t a w 64).length)) (nI (t + 1)) ∧ ∀ k, k < 64 → bt y k = decide (a k ≠ w k) := by
  obtain ⟨y, ey, hy⟩ := m_differing (I := I) (lRT1 hL ht) (lRT3 hL ht) hA hB
  refine ⟨y, ?_, hy⟩
  unfold m0_follow_B61
  simp (disch := omega) only [↓xlet, xb_some, ↓reduceIte, cl_nI, nI_64, nI_add, nI_1, kg3 hL, kg4 hL, kg5 hL, kg6 hL, kg8 hL, kg9 hL, kg10 hL, kg12 hL, kg13 hL, kg14 hL, kg16 hL, kg17 hL, kg18 hL, kg0 hL, kg2 hL, kg7 hL, kg11 hL, kg15 hL, kg19 hL, kg21 hL, kg23 hL, kg25 hL, ↓xbs (lF0_0 hL), ↓xbs (lF0_2 hL), ↓xbs (lF0_3 hL), ↓xbs (lF0_4 hL), ↓xbs (lF0_5 hL), ↓xbs (lF0_6 hL), ↓xbs (lF0_7 hL), ↓xbs (lF0_8 hL), ↓xbs (lF0_9 hL), ↓xbs (lF2_2 hL), ↓xbs (lF2_3 hL), ↓xbs (lF2_4 hL), ↓xbs (lF2_5 hL), ↓xbs (lF7_1 hL), ↓xbs (lF7_2 hL), ↓xbs (lF7_3 hL), ↓xbs (lF11_1 hL), ↓xbs (lF11_2 hL), ↓xbs (lF11_3 hL), ↓xbs (lF15_1 hL), ↓xbs (lF15_2 hL), ↓xbs (lF15_3 hL), kg1 hL, lF1 hL, ↓xF1c hL, kgT hL, kgR1 hL, kgR3 hL, kgR5 hL, ↓xT5 hL, ↓xT6 hL, ↓xT7 hL, lT5 hL, lT6 hL, lT7 hL, ↓xbs ey, xu2, m_bitCount, bs_len (t := t) 64 (Nat.le_refl 64) hy]
theorem c_followL (hL : Lay K F) (hS : Shp n so o1 o2 p q) (hD : Der n so o1 o2 p q ρ) (hG : Sg n so o1 o2 p q σ S) (hσ : ∀ t, t < n → so t ≠ 0 → σ t = ρ t) : ∀ (f t : Nat) (I : Nat → Nat → Int32) (J : Nat → Nat → Int64), t ≤ n → n - t < f → CDef I J n so o1 o2 p q → CRows J n 1 ρ → RA J 25 (fun _ => none) → (∀ x, x < t → RA J (27 + 8 * x + 3) (S x)) → (∀ x, t ≤ x → x < n → RA J (27 + 8 * x + 3) (σ x)) → (∀ x, x < t → ∀ k, k < 64 → bt (J (27 + 8 * x) 9) k = decide (ρ x k ≠ S x k)) → ∃ I' J', m0_follow_L4 148 K F f I J 0 (nI (stT ρ S t).length) (nI t) = some (nI (stT ρ S n).length, I', J') ∧ FrF I I' J J' ∧ (∀ x, x < n → RA J' (27 + 8 * x + 3) (S x)) ∧ ∀ x, x < n → ∀ k, k < 64 → bt (J' (27 + 8 * x) 9) k = decide (ρ x k ≠ S x k)
  | 0, t, I, J, h1, h2, _, _, _, _, _, _ => absurd h2 (by omega)
  | f + 1, t, I, J, h1, h2, hC, hR, h25, hx, hy, hm => by
    have hn := hS.1
    rw [m0_follow_L4]
    simp (disch := omega) only [↓xlet, xb_some, ↓reduceIte, cl_nI, nI_64, nI_add, nI_1, kg3 hL, kg4 hL, kg5 hL, kg6 hL, kg8 hL, kg9 hL, kg10 hL, kg12 hL, kg13 hL, kg14 hL, kg16 hL, kg17 hL, kg18 hL, kg0 hL, kg2 hL, kg7 hL, kg11 hL, kg15 hL, kg19 hL, kg21 hL, kg23 hL, kg25 hL, ↓xbs (lF0_0 hL), ↓xbs (lF0_2 hL), ↓xbs (lF0_3 hL), ↓xbs (lF0_4 hL), ↓xbs (lF0_5 hL), ↓xbs (lF0_6 hL), ↓xbs (lF0_7 hL), ↓xbs (lF0_8 hL), ↓xbs (lF0_9 hL), ↓xbs (lF2_2 hL), ↓xbs (lF2_3 hL), ↓xbs (lF2_4 hL), ↓xbs (lF2_5 hL), ↓xbs (lF7_1 hL), ↓xbs (lF7_2 hL), ↓xbs (lF7_3 hL), ↓xbs (lF11_1 hL), ↓xbs (lF11_2 hL), ↓xbs (lF11_3 hL), ↓xbs (lF15_1 hL), ↓xbs (lF15_2 hL), ↓xbs (lF15_3 hL), kg1 hL, lF1 hL, ↓xF1c hL, kgT hL, kgR1 hL, kgR3 hL, kgR5 hL, ↓xT5 hL, ↓xT6 hL, ↓xT7 hL, lT5 hL, lT6 hL, lT7 hL, hC.1]
    by_cases e : t = n
    · subst e
      rw [if_pos (nI_le (Nat.le_refl t) (by omega))]
      exact ⟨I, J, rfl, FrF.self, hx, hm⟩
    · have htn : t < n := by omega
      have h12 : t < 12 := by omega
      rw [if_neg (nI_ge htn (by omega))]
      obtain ⟨c0, c1, c2, c3, c4⟩ := hC.2 t htn
      obtain ⟨hp, hlt⟩ := hS.2 t htn
      have htl := stT_len ρ S t
      -- what comes when the next rows of t are right
      have fin : ∀ I1 J1, FrF I I1 J J1 → (∀ x, x < t → J1 (27 + 8 * x) = J (27 + 8 * x) ∧ J1 (27 + 8 * x + 3) = J (27 + 8 * x + 3) ∧ J1 (27 + 8 * x + 4) = J (27 + 8 * x + 4)) → (∀ x, t < x → J1 (27 + 8 * x + 3) = J (27 + 8 * x + 3) ∧ J1 (27 + 8 * x + 4) = J (27 + 8 * x + 4)) → RA J1 (27 + 8 * t + 3) (S t) → ∃ I' J', m0_follow_B61 148 K F (m0_follow_L4 148 K F f) I1 J1 0 (nI (stT ρ S t).length) (nI t) (27 + 8 * t) = some (nI (stT ρ S n).length, I', J') ∧ FrF I I' J J' ∧ (∀ x, x < n → RA J' (27 + 8 * x + 3) (S x)) ∧ ∀ x, x < n → ∀ k, k < 64 → bt (J' (27 + 8 * x) 9) k = decide (ρ x k ≠ S x k) := by
        intro I1 J1 fr lo hi hN
        have hR1 : CRows J1 n 1 ρ := hR.fr (fun x hx => ⟨fr.2.1 _ (fun z _ => by omega), fr.2.1 _ (fun z _ => by omega)⟩)
        obtain ⟨y, g1, g2⟩ := c_folB61 (I := I1) (c := (stT ρ S t).length) hL h12 (hR1 t htn) hN (m0_follow_L4 148 K F f)
        have fx : FrF I1 I1 J1 (xu J1 (27 + 8 * t) 9 y) := ⟨fun _ _ => rfl, fun a ha => xu_rw (ha t h12).1, fun x j hj => by
          by_cases c : x = t
          · subst c; rw [xu3 _ _ hj]
          · rw [xu_rw (by omega)]⟩
        have fr2 := fr.trans fx
        obtain ⟨I2, J2, d1, d2, d3, d4⟩ := c_followL hL hS hD hG hσ f (t + 1) I1 (xu J1 (27 + 8 * t) 9 y) (by omega) (by omega) (hC.frF fr2) (hR1.fr (fun x hx => ⟨xu_rw (by omega), xu_rw (by omega)⟩)) (RA_move h25 (fr2.2.1 _ (fun z _ => by omega)) (fr2.2.1 _ (fun z _ => by omega)))
          (fun x hxt => by
            by_cases c : x = t
            · subst c; exact RA_move hN (xu_rw (by omega)) (xu_rw (by omega))
            · have := lo x (by omega)
              exact RA_move (hx x (by omega)) (by rw [xu_rw (by omega), this.2.1]) (by rw [xu_rw (by omega), this.2.2]))
          (fun x hxt hxn => by
            have := hi x (by omega)
            exact RA_move (hy x (by omega) hxn) (by rw [xu_rw (by omega), this.1]) (by rw [xu_rw (by omega), this.2]))
          (fun x hxt => by
            by_cases c : x = t
            · subst c; rw [xu2]; exact g2
            · rw [xu_rw (by omega), (lo x (by omega)).1]; exact hm x (by omega))
        refine ⟨I2, J2, ?_, fr2.trans d2, d3, d4⟩
        rw [g1, ← d1, stT, List.length_append]
      have fin0 : RA J (27 + 8 * t + 3) (S t) → ∃ I' J', m0_follow_B61 148 K F (m0_follow_L4 148 K F f) I J 0 (nI (stT ρ S t).length) (nI t) (27 + 8 * t) = some (nI (stT ρ S n).length, I', J') ∧ FrF I I' J J' ∧ (∀ x, x < n → RA J' (27 + 8 * x + 3) (S x)) ∧ ∀ x, x < n → ∀ k, k < 64 → bt (J' (27 + 8 * x) 9) k = decide (ρ x k ≠ S x k) := fun h => fin I J FrF.self (fun _ _ => ⟨rfl, rfl, rfl⟩) (fun _ _ => ⟨rfl, rfl⟩) h
      have der : so t ≠ 0 → ∃ I' J', m0_follow_B41 148 K F (m0_follow_L4 148 K F f) I J 0 (nI (stT ρ S t).length) (nI t) (27 + 8 * t) = some (nI (stT ρ S n).length, I', J') ∧ FrF I I' J J' ∧ (∀ x, x < n → RA J' (27 + 8 * x + 3) (S x)) ∧ ∀ x, x < n → ∀ k, k < 64 → bt (J' (27 + 8 * x) 9) k = decide (ρ x k ≠ S x k) := by
        intro z
        obtain ⟨l1, l2⟩ := hlt z
        have n1 := c_nx (J := J) (s := so t) (a := o1 t) hL hn hC.1 (fun _ => by omega)
        have n2 := c_nxw (J := J) (s := so t) (a := o2 t) hL hn hC.1 (fun _ => by omega)
        rw [← c1] at n1
        rw [← c2] at n2
        obtain ⟨I1, J1, d1, d2, d3, d4⟩ := c_der (σ := S) hL h12 hp (fun _ => l1) (fun _ => l2) c0 c3 c4 (fun _ => hx _ l1) (fun _ => hx _ l2) h25
        rw [← (hG t htn).2 z] at d4
        unfold m0_follow_B41
        simp (disch := omega) only [↓xlet, xb_some, ↓reduceIte, cl_nI, nI_64, nI_add, nI_1, kg3 hL, kg4 hL, kg5 hL, kg6 hL, kg8 hL, kg9 hL, kg10 hL, kg12 hL, kg13 hL, kg14 hL, kg16 hL, kg17 hL, kg18 hL, kg0 hL, kg2 hL, kg7 hL, kg11 hL, kg15 hL, kg19 hL, kg21 hL, kg23 hL, kg25 hL, ↓xbs (lF0_0 hL), ↓xbs (lF0_2 hL), ↓xbs (lF0_3 hL), ↓xbs (lF0_4 hL), ↓xbs (lF0_5 hL), ↓xbs (lF0_6 hL), ↓xbs (lF0_7 hL), ↓xbs (lF0_8 hL), ↓xbs (lF0_9 hL), ↓xbs (lF2_2 hL), ↓xbs (lF2_3 hL), ↓xbs (lF2_4 hL), ↓xbs (lF2_5 hL), ↓xbs (lF7_1 hL), ↓xbs (lF7_2 hL), ↓xbs (lF7_3 hL), ↓xbs (lF11_1 hL), ↓xbs (lF11_2 hL), ↓xbs (lF11_3 hL), ↓xbs (lF15_1 hL), ↓xbs (lF15_2 hL), ↓xbs (lF15_3 hL), kg1 hL, lF1 hL, ↓xF1c hL, kgT hL, kgR1 hL, kgR3 hL, kgR5 hL, ↓xT5 hL, ↓xT6 hL, ↓xT7 hL, lT5 hL, lT6 hL, lT7 hL, ↓xbs n1, ↓xbs n2, ↓xbs d1]
        exact fin I1 J1 ⟨fun a ha => d2 a (ha t h12), fun a ha => d3 a (ha t h12).2.1 (ha t h12).2.2, fun x j hj => by rw [d3 _ (by omega) (by omega)]⟩ (fun x hxt => ⟨d3 _ (by omega) (by omega), d3 _ (by omega) (by omega), d3 _ (by omega) (by omega)⟩) (fun x hxt => ⟨d3 _ (by omega) (by omega), d3 _ (by omega) (by omega)⟩) d4
      simp (disch := omega) only [↓xlet, xb_some, ↓reduceIte, cl_nI, nI_64, nI_add, nI_1, kg3 hL, kg4 hL, kg5 hL, kg6 hL, kg8 hL, kg9 hL, kg10 hL, kg12 hL, kg13 hL, kg14 hL, kg16 hL, kg17 hL, kg18 hL, kg0 hL, kg2 hL, kg7 hL, kg11 hL, kg15 hL, kg19 hL, kg21 hL, kg23 hL, kg25 hL, ↓xbs (lF0_0 hL), ↓xbs (lF0_2 hL), ↓xbs (lF0_3 hL), ↓xbs (lF0_4 hL), ↓xbs (lF0_5 hL), ↓xbs (lF0_6 hL), ↓xbs (lF0_7 hL), ↓xbs (lF0_8 hL), ↓xbs (lF0_9 hL), ↓xbs (lF2_2 hL), ↓xbs (lF2_3 hL), ↓xbs (lF2_4 hL), ↓xbs (lF2_5 hL), ↓xbs (lF7_1 hL), ↓xbs (lF7_2 hL), ↓xbs (lF7_3 hL), ↓xbs (lF11_1 hL), ↓xbs (lF11_2 hL), ↓xbs (lF11_3 hL), ↓xbs (lF15_1 hL), ↓xbs (lF15_2 hL), ↓xbs (lF15_3 hL), kg1 hL, lF1 hL, ↓xF1c hL, kgT hL, kgR1 hL, kgR3 hL, kgR5 hL, ↓xT5 hL, ↓xT6 hL, ↓xT7 hL, lT5 hL, lT6 hL, lT7 hL]
      by_cases z : so t = 0
      · have q1 : I (27 + 8 * t) 1 = -1 := by rw [c1, if_pos z]
        have q2 : I (27 + 8 * t) 2 = -1 := by rw [c2, z]; rfl
        simp (disch := omega) only [↓xlet, xb_some, ↓reduceIte, cl_nI, nI_64, nI_add, nI_1, kg3 hL, kg4 hL, kg5 hL, kg6 hL, kg8 hL, kg9 hL, kg10 hL, kg12 hL, kg13 hL, kg14 hL, kg16 hL, kg17 hL, kg18 hL, kg0 hL, kg2 hL, kg7 hL, kg11 hL, kg15 hL, kg19 hL, kg21 hL, kg23 hL, kg25 hL, ↓xbs (lF0_0 hL), ↓xbs (lF0_2 hL), ↓xbs (lF0_3 hL), ↓xbs (lF0_4 hL), ↓xbs (lF0_5 hL), ↓xbs (lF0_6 hL), ↓xbs (lF0_7 hL), ↓xbs (lF0_8 hL), ↓xbs (lF0_9 hL), ↓xbs (lF2_2 hL), ↓xbs (lF2_3 hL), ↓xbs (lF2_4 hL), ↓xbs (lF2_5 hL), ↓xbs (lF7_1 hL), ↓xbs (lF7_2 hL), ↓xbs (lF7_3 hL), ↓xbs (lF11_1 hL), ↓xbs (lF11_2 hL), ↓xbs (lF11_3 hL), ↓xbs (lF15_1 hL), ↓xbs (lF15_2 hL), ↓xbs (lF15_3 hL), kg1 hL, lF1 hL, ↓xF1c hL, kgT hL, kgR1 hL, kgR3 hL, kgR5 hL, ↓xT5 hL, ↓xT6 hL, ↓xT7 hL, lT5 hL, lT6 hL, lT7 hL, q1, q2, ↓xbs (c_isMovedN hL hn hC.1), not_true_eq_false]
        exact fin0 (by rw [(hG t htn).1 z]; exact hy t (Nat.le_refl t) htn)
      · obtain ⟨l1, l2⟩ := hlt z
        have q1 : I (27 + 8 * t) 1 = nI (o1 t) := by rw [c1, if_neg z]
        have m1 := mv_0 (hm _ l1)
        simp (disch := omega) only [↓xlet, xb_some, ↓reduceIte, cl_nI, nI_64, nI_add, nI_1, kg3 hL, kg4 hL, kg5 hL, kg6 hL, kg8 hL, kg9 hL, kg10 hL, kg12 hL, kg13 hL, kg14 hL, kg16 hL, kg17 hL, kg18 hL, kg0 hL, kg2 hL, kg7 hL, kg11 hL, kg15 hL, kg19 hL, kg21 hL, kg23 hL, kg25 hL, ↓xbs (lF0_0 hL), ↓xbs (lF0_2 hL), ↓xbs (lF0_3 hL), ↓xbs (lF0_4 hL), ↓xbs (lF0_5 hL), ↓xbs (lF0_6 hL), ↓xbs (lF0_7 hL), ↓xbs (lF0_8 hL), ↓xbs (lF0_9 hL), ↓xbs (lF2_2 hL), ↓xbs (lF2_3 hL), ↓xbs (lF2_4 hL), ↓xbs (lF2_5 hL), ↓xbs (lF7_1 hL), ↓xbs (lF7_2 hL), ↓xbs (lF7_3 hL), ↓xbs (lF11_1 hL), ↓xbs (lF11_2 hL), ↓xbs (lF11_3 hL), ↓xbs (lF15_1 hL), ↓xbs (lF15_2 hL), ↓xbs (lF15_3 hL), kg1 hL, lF1 hL, ↓xF1c hL, kgT hL, kgR1 hL, kgR3 hL, kgR5 hL, ↓xT5 hL, ↓xT6 hL, ↓xT7 hL, lT5 hL, lT6 hL, lT7 hL, q1, ↓xbs (c_isMoved (J := J) hL hn hC.1 (show o1 t < n by omega))]
        by_cases w1 : J (27 + 8 * o1 t) 9 = 0
        · rw [if_neg (x_nn (if_pos w1))]
          have same : (∀ k, k < 64 → dTab (so t) (p t) (q t) (ρ (o1 t)) (ρ (o2 t)) k = dTab (so t) (p t) (q t) (S (o1 t)) (S (o2 t)) k) → RA J (27 + 8 * t + 3) (S t) := fun h => RA_congr (hy t (Nat.le_refl t) htn) (fun k hk => by rw [hσ t htn z, hD t htn z k hk, (hG t htn).2 z, h k hk])
          by_cases w : tw (so t) = true
          · have q2 : I (27 + 8 * t) 2 = nI (o2 t) := by rw [c2, if_pos w]
            simp (disch := omega) only [↓xlet, xb_some, ↓reduceIte, cl_nI, nI_64, nI_add, nI_1, kg3 hL, kg4 hL, kg5 hL, kg6 hL, kg8 hL, kg9 hL, kg10 hL, kg12 hL, kg13 hL, kg14 hL, kg16 hL, kg17 hL, kg18 hL, kg0 hL, kg2 hL, kg7 hL, kg11 hL, kg15 hL, kg19 hL, kg21 hL, kg23 hL, kg25 hL, ↓xbs (lF0_0 hL), ↓xbs (lF0_2 hL), ↓xbs (lF0_3 hL), ↓xbs (lF0_4 hL), ↓xbs (lF0_5 hL), ↓xbs (lF0_6 hL), ↓xbs (lF0_7 hL), ↓xbs (lF0_8 hL), ↓xbs (lF0_9 hL), ↓xbs (lF2_2 hL), ↓xbs (lF2_3 hL), ↓xbs (lF2_4 hL), ↓xbs (lF2_5 hL), ↓xbs (lF7_1 hL), ↓xbs (lF7_2 hL), ↓xbs (lF7_3 hL), ↓xbs (lF11_1 hL), ↓xbs (lF11_2 hL), ↓xbs (lF11_3 hL), ↓xbs (lF15_1 hL), ↓xbs (lF15_2 hL), ↓xbs (lF15_3 hL), kg1 hL, lF1 hL, ↓xF1c hL, kgT hL, kgR1 hL, kgR3 hL, kgR5 hL, ↓xT5 hL, ↓xT6 hL, ↓xT7 hL, lT5 hL, lT6 hL, lT7 hL, q2, ↓xbs (c_isMoved (J := J) hL hn hC.1 (show o2 t < n by omega))]
            by_cases w2 : J (27 + 8 * o2 t) 9 = 0
            · rw [if_pos (if_pos w2)]
              exact fin0 (same (dTab_congr (m1.mp w1) ((mv_0 (hm _ l2)).mp w2)))
            · rw [if_neg (by rw [if_neg w2]; decide)]
              exact der z
          · have q2 : I (27 + 8 * t) 2 = -1 := by rw [c2, if_neg w]
            simp (disch := omega) only [↓xlet, xb_some, ↓reduceIte, cl_nI, nI_64, nI_add, nI_1, kg3 hL, kg4 hL, kg5 hL, kg6 hL, kg8 hL, kg9 hL, kg10 hL, kg12 hL, kg13 hL, kg14 hL, kg16 hL, kg17 hL, kg18 hL, kg0 hL, kg2 hL, kg7 hL, kg11 hL, kg15 hL, kg19 hL, kg21 hL, kg23 hL, kg25 hL, ↓xbs (lF0_0 hL), ↓xbs (lF0_2 hL), ↓xbs (lF0_3 hL), ↓xbs (lF0_4 hL), ↓xbs (lF0_5 hL), ↓xbs (lF0_6 hL), ↓xbs (lF0_7 hL), ↓xbs (lF0_8 hL), ↓xbs (lF0_9 hL), ↓xbs (lF2_2 hL), ↓xbs (lF2_3 hL), ↓xbs (lF2_4 hL), ↓xbs (lF2_5 hL), ↓xbs (lF7_1 hL), ↓xbs (lF7_2 hL), ↓xbs (lF7_3 hL), ↓xbs (lF11_1 hL), ↓xbs (lF11_2 hL), ↓xbs (lF11_3 hL), ↓xbs (lF15_1 hL), ↓xbs (lF15_2 hL), ↓xbs (lF15_3 hL), kg1 hL, lF1 hL, ↓xF1c hL, kgT hL, kgR1 hL, kgR3 hL, kgR5 hL, ↓xT5 hL, ↓xT6 hL, ↓xT7 hL, lT5 hL, lT6 hL, lT7 hL, q2, ↓xbs (c_isMovedN (J := J) hL hn hC.1)]
            exact fin0 (same (fun k hk => by rw [dTab_tw (by simpa using w) (p t) (q t) (ρ (o1 t)) (ρ (o2 t)) (S (o2 t))]; exact dTab_congr (m1.mp w1) (fun _ _ => rfl) k hk))
        · rw [if_pos (by rw [if_neg w1]; decide)]
          exact der z
end
