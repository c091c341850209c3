section
variable {K : Nat → Nat × Nat} {F : Nat → Nat → Option Nat} {ρ ρ' : Nat → Option Int64}
theorem fold_high {kd g k : Nat} (hg0 : 0 < g) (hk : g ≤ k) : ∀ m, dFold kd g ρ m k = none
  | 0 => rfl
  | m + 1 => by rw [dFold, if_neg (by have := Nat.mod_lt m hg0; omega)]; exact fold_high hg0 hk m
theorem r_foldL21 (hL : Lay K F) {t a kd g : Nat} (ht : t < 12) (ha : a < 12) (hat : a ≠ t) (hg0 : 0 < g) (hg : g ≤ 64) (h4 : kd ≤ 4) : ∀ (f k : Nat) (I : Nat → Nat → Int32) (J : Nat → Nat → Int64), k ≤ g → g - k < f → RB I J a ρ → J 127 t = lN kd → RB I J t (pre k (dFold kd g ρ 64)) →
    ∃ I' J', m5_workFold_L21 148 K F f I J 123 (nI t) (nI g) (nI (64 * a)) (nI k) = some (I', J') ∧ FrB I I' J J' t ∧ RB I' J' t (dFold kd g ρ 64)
  | 0, k, I, J, h1, h2, _, _, _ => absurd h2 (by omega)
  | f + 1, k, I, J, h1, h2, hA, hp, hB => by
    rw [m5_workFold_L21]
    by_cases e : k = g
    · subst e
      rw [if_pos (nI_le (Nat.le_refl k) (by omega))]
      refine ⟨I, J, rfl, FrB.self, fun i hi => ?_⟩
      have := hB i hi
      by_cases c : i < k
      · rw [pre, if_pos c] at this; exact this
      · rw [pre, if_neg c] at this; rw [fold_high hg0 (by omega)]; exact this
    · have hk : k < g := by omega
      rw [if_neg (nI_ge hk (by omega))]
      have hz : dFold kd g ρ k k = none := fold_low hk k (Nat.le_refl k)
      have go := r_foldL37 hL ht ha hg0 hg hk h4 hA hp (m5_workFold_L21 148 K F f) xFu k 0 (Nat.mod_eq_of_lt hk) (by omega) (by unfold xFu; omega) (by omega) (by rw [hz]; simp) (fun q => by omega)
      rw [hz] at go
      have go : m5_workFold_L37 148 K F (m5_workFold_L21 148 K F f) xFu I J 123 (nI t) (nI g) (nI (64 * a)) (nI k) 0 0 (nI k) = _ := go
      rw [go]
      cases ev : dFold kd g ρ 64 k with
      | none =>
        exact r_foldL21 hL ht ha hat hg0 hg h4 f (k + 1) I J (by omega) (by omega) hA hp (r_pnone hB ev)
      | some w =>
        obtain ⟨I1, J1, e1, e2, e3⟩ := r_pset hL ht (by omega) hB ev
        obtain ⟨I2, J2, g1, g2, g3⟩ := r_foldL21 hL ht ha hat hg0 hg h4 f (k + 1) I1 J1 (by omega) (by omega) (e2.rb hat hA) (by rw [e2.2.1 127 (by decide)]; exact hp) e3
        simp only [xb, e1, Option.bind_some]
        exact ⟨I2, J2, g1, e2.trans g2, g3⟩
theorem r_workL29 (hL : Lay K F) {t a b sort : Nat} {p1 p2 : Int64} (ht : t < 12) (ha : a < 12) (hb : b < 12) (hat : a ≠ t) (hbt : b ≠ t) (hp : pOk sort p1 p2) (hs : sort ≠ 0) : ∀ (f k : Nat) (I : Nat → Nat → Int32) (J : Nat → Nat → Int64), k ≤ 64 → 64 - k < f → WC I J t sort a b p1 p2 ρ ρ' → (∀ i, i < k → I 129 (64 * t + i) = 0 ∧ J 130 (64 * t + i) = 0) → ∃ I' J', m5_work_L29 148 K F f I J 123 (nI t) (nI (64 * a)) (nI (64 * b)) (nI (64 * t)) (nI k) = some (I', J') ∧ FrB I I' J J' t ∧ RB I' J' t (dTab sort p1 p2 ρ ρ')
  | 0, k, I, J, h1, h2, _, _ => absurd h2 (by omega)
  | f + 1, k, I, J, h1, h2, hW, hB => by
    rw [m5_work_L29]
    by_cases e : k = 64
    · subst e
      obtain ⟨w1, w2, w3, w4, w5, w6, w7⟩ := id hW
      have x12 : xinb (nI t) 12 := xinb_nI ht (by decide)
      have h0 : RB I J t (fun _ => none) := fun i hi => hB i hi
      rw [if_pos (by decide), if_pos ⟨by decide, lK123 hL⟩]
      simp only [xb, lF123_1 hL, Option.bind_some, cl_nI (show t < 2 ^ 31 by omega), w1]
      rw [if_pos ⟨by decide, by rw [lK124 hL], by rw [lK124 hL]; exact x12⟩]
      have h7 := hp.1
      by_cases c3 : sort = 3
      · subst c3
        obtain ⟨⟨kd, k4, ek⟩, g, g0, g64, eg⟩ := hp.2.1 rfl
        obtain ⟨I1, J1, e1, e2, e3⟩ := r_foldL21 (ρ := ρ) hL ht ha hat g0 g64 k4 xFu 0 I J (by omega) (by unfold xFu; omega) w6 (by rw [w4]; exact ek) (by rw [pre_0]; exact h0)
        rw [if_neg (x_nn (by decide))]
        unfold m5_workFold
        rw [if_pos ⟨by decide, lK123 hL⟩]
        simp only [xb, xlet, lF123_2 hL, lF123_5 hL, Option.bind_some, cl_nI (show t < 2 ^ 31 by omega), w2, w5]
        rw [if_pos ⟨by decide, by rw [lK128 hL], by rw [lK128 hL]; exact x12⟩, if_pos ⟨by decide, by rw [lK125 hL], by rw [lK125 hL]; exact x12⟩, nI_64, eg, show (lN g).toInt32 = nI g from lN_i g]
        have e1 : m5_workFold_L21 148 K F xFu I J 123 (nI t) (nI g) (nI (64 * a)) 0 = some (I1, J1) := e1
        rw [e1]
        refine ⟨I1, J1, rfl, e2, ?_⟩
        show RB I1 J1 t (dFold (nB p1) (nB (lN g)) ρ 64)
        rw [ek, nB_lN (by omega), nB_lN (by omega)]
        exact e3
      · rw [if_pos (show ¬ nI sort = (3 : Int32) from fun q => c3 ((nI_eq (by omega) (by decide)).mp q))]
        exact r_workL70 hL ht ha hb hat hbt hp (by omega) xFu 0 I J (by omega) (by unfold xFu; omega) hW (by rw [pre_0]; exact h0)
    · have hk : k < 64 := by omega
      obtain ⟨I1, J1, e1, e2, e3, e4, e5⟩ := r_clear (I := I) (J := J) hL ht hk
      rw [if_neg (n64 hk), if_pos ⟨by decide, lK123 hL⟩]
      simp only [xb, xlet, nI_add, e1, Option.bind_some]
      rw [show nI k + (1 : Int32) = nI (k + 1) from nI_1 k]
      obtain ⟨I2, J2, g1, g2, g3⟩ := r_workL29 hL ht ha hb hat hbt hp hs f (k + 1) I1 J1 (by omega) (by omega) (hW.fr e2 hat hbt) (fun i hi => by
        by_cases c : i = k
        · subst c; exact ⟨e3, e4⟩
        · rw [(e5 i c).1, (e5 i c).2]; exact hB i (by omega))
      exact ⟨I2, J2, g1, e2.trans g2, g3⟩
theorem r_work (hL : Lay K F) {I : Nat → Nat → Int32} {J : Nat → Nat → Int64} {t a b sort : Nat} {p1 p2 : Int64} (ht : t < 12) (ha : a < 12) (hb : b < 12) (hat : a ≠ t) (hbt : b ≠ t) (hp : pOk sort p1 p2) (hs : sort ≠ 0) (hW : WC I J t sort a b p1 p2 ρ ρ') : ∃ I' J', m5_work 148 K F I J 123 (nI t) = some (I', J') ∧ FrB I I' J J' t ∧ RB I' J' t (dTab sort p1 p2 ρ ρ') := by
  obtain ⟨w1, w2, w3, w4, w5, w6, w7⟩ := id hW
  have x12 : xinb (nI t) 12 := xinb_nI ht (by decide)
  obtain ⟨I1, J1, e1, e2, e3⟩ := r_workL29 hL ht ha hb hat hbt hp hs xFu 0 I J (by omega) (by unfold xFu; omega) hW (fun i hi => by omega)
  unfold m5_work
  rw [if_pos ⟨by decide, lK123 hL⟩]
  simp only [xb, xlet, lF123_2 hL, lF123_3 hL, Option.bind_some, cl_nI (show t < 2 ^ 31 by omega), w2, w3, nI_64]
  rw [if_pos ⟨by decide, by rw [lK125 hL], by rw [lK125 hL]; exact x12⟩, if_pos ⟨by decide, by rw [lK126 hL], by rw [lK126 hL]; exact x12⟩]
  exact ⟨I1, J1, e1, e2, e3⟩
end
