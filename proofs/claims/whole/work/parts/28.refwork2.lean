section
variable {K : Nat → Nat × Nat} {F : Nat → Nat → Option Nat} {ρ ρ' : Nat → Option Int64}
theorem r_workB122 (hL : Lay K F) {I : Nat → Nat → Int32} {J : Nat → Nat → Int64} {t k a b : Nat} (ht : t < 12) (ha : a < 12) (hb : b < 12) (hk : k < 64) (hA : RB I J a ρ) (hB' : RB I J b ρ') (hB : RB I J t (pre k (dMerge ρ ρ'))) {w : Int64} (hw : dMerge ρ ρ' k = some w) (k70 : (Nat → Nat → Int32) → (Nat → Nat → Int64) → Nat → Int32 → Int32 → Int32 → Int32 → Int32 → Option ((Nat → Nat → Int32) × (Nat → Nat → Int64))) : ∃ I' J', m5_work_B122 148 K F k70 I J 123 (nI t) (nI (64 * a)) (nI (64 * b)) (nI (64 * t)) (nI k) (J 130 (64 * a + k)) = k70 I' J' 123 (nI t) (nI (64 * a)) (nI (64 * b)) (nI (64 * t)) (nI (k + 1)) ∧ FrB I I' J J' t ∧ RB I' J' t (pre (k + 1) (dMerge ρ ρ')) := by
  obtain ⟨I', J', e1, e2, e3⟩ := r_pset hL ht hk hB hw
  refine ⟨I', J', ?_, e2, e3⟩
  unfold m5_work_B122
  rw [if_pos ⟨by decide, lK123 hL⟩]
  simp only [xlet, xb, lF123_6 hL, lF123_7 hL, Option.bind_some, nI_add, cl_nI (show 64 * a + k < 2 ^ 31 by omega), cl_nI (show 64 * b + k < 2 ^ 31 by omega)]
  rw [if_pos ⟨by decide, by rw [lK129 hL], by rw [lK129 hL]; exact xinb_nI (by omega) (by decide)⟩, show nI k + (1 : Int32) = nI (k + 1) from nI_1 k]
  cases ev : ρ k with
  | none =>
    have ew : ρ' k = some w := by simpa [dMerge, ev] using hw
    rw [if_pos (RB_none hA hk ev).1, if_pos ⟨by decide, by rw [lK130 hL], by rw [lK130 hL]; exact xinb_nI (by omega) (by decide)⟩, (RB_some hB' hk ew).2, e1]
    rfl
  | some v =>
    have ew : v = w := by simpa [dMerge, ev] using hw
    obtain ⟨q1, q2⟩ := RB_some hA hk ev
    rw [if_neg (by rw [q1]; decide), q2, ew, e1]
    rfl
theorem r_workL70 (hL : Lay K F) {t a b sort : Nat} {p1 p2 : Int64} (ht : t < 12) (ha : a < 12) (hb : b < 12) (hat : a ≠ t) (hbt : b ≠ t) (hp : pOk sort p1 p2) (hs : sort = 1 ∨ sort = 2 ∨ sort = 4 ∨ sort = 5 ∨ sort = 6 ∨ sort = 7) : ∀ (f k : Nat) (I : Nat → Nat → Int32) (J : Nat → Nat → Int64), k ≤ 64 → 64 - k < f → WC I J t sort a b p1 p2 ρ ρ' → RB I J t (pre k (dTab sort p1 p2 ρ ρ')) → ∃ I' J', m5_work_L70 148 K F f I J 123 (nI t) (nI (64 * a)) (nI (64 * b)) (nI (64 * t)) (nI k) = some (I', J') ∧ FrB I I' J J' t ∧ RB I' J' t (dTab sort p1 p2 ρ ρ')
  | 0, k, I, J, h1, h2, _, _ => absurd h2 (by omega)
  | f + 1, k, I, J, h1, h2, hW, hB => by
    rw [m5_work_L70]
    by_cases e : k = 64
    · subst e
      rw [if_pos (by decide)]
      exact ⟨I, J, rfl, FrB.self, fun i hi => by have := hB i hi; rw [pre, if_pos hi] at this; exact this⟩
    · have hk : k < 64 := by omega
      obtain ⟨w1, w2, w3, w4, w5, w6, w7⟩ := id hW
      have x12 : xinb (nI t) 12 := xinb_nI ht (by decide)
      have go : ∀ I' J', FrB I I' J J' t → RB I' J' t (pre (k + 1) (dTab sort p1 p2 ρ ρ')) → ∃ I'' J'', m5_work_L70 148 K F f I' J' 123 (nI t) (nI (64 * a)) (nI (64 * b)) (nI (64 * t)) (nI (k + 1)) = some (I'', J'') ∧ FrB I I'' J J'' t ∧ RB I'' J'' t (dTab sort p1 p2 ρ ρ') := by
        intro I' J' hf hb2
        obtain ⟨I'', J'', g1, g2, g3⟩ := r_workL70 hL ht ha hb hat hbt hp hs f (k + 1) I' J' (by omega) (by omega) (hW.fr hf hat hbt) hb2
        exact ⟨I'', J'', g1, hf.trans g2, g3⟩
      rw [if_neg (n64 hk), if_pos ⟨by decide, lK123 hL⟩]
      simp only [xlet, xb, lF123_1 hL, lF123_6 hL, lF123_7 hL, Option.bind_some, nI_add, cl_nI (show 64 * a + k < 2 ^ 31 by omega), cl_nI (show 64 * b + k < 2 ^ 31 by omega), cl_nI (show t < 2 ^ 31 by omega), w1]
      rw [if_pos ⟨by decide, by rw [lK130 hL], by rw [lK130 hL]; exact xinb_nI (by omega) (by decide)⟩, if_pos ⟨by decide, by rw [lK124 hL], by rw [lK124 hL]; exact x12⟩, show nI k + (1 : Int32) = nI (k + 1) from nI_1 k]
      have ga : 129 < 148 ∧ (K 129).1 = 3 ∧ xinb (nI (64 * a + k)) (K 129).2 := ⟨by decide, by rw [lK129 hL], by rw [lK129 hL]; exact xinb_nI (by omega) (by decide)⟩
      have gb : 129 < 148 ∧ (K 129).1 = 3 ∧ xinb (nI (64 * b + k)) (K 129).2 := ⟨by decide, by rw [lK129 hL], by rw [lK129 hL]; exact xinb_nI (by omega) (by decide)⟩
      by_cases c5 : sort = 5
      · subst c5
        rw [if_neg (x_nn (by decide)), if_pos ga]
        have hB5 : RB I J t (pre k (dMerge ρ ρ')) := hB
        cases ev : ρ k with
        | none =>
          rw [if_neg (x_nn (RB_none w6 hk ev).1), if_pos gb]
          cases ew : ρ' k with
          | none =>
            rw [if_pos (RB_none w7 hk ew).1]
            exact go I J FrB.self (r_pnone hB (show dMerge ρ ρ' k = none by simp [dMerge, ev, ew]))
          | some w =>
            rw [if_neg (by rw [(RB_some w7 hk ew).1]; decide)]
            obtain ⟨I', J', g1, g2, g3⟩ := r_workB122 hL ht ha hb hk w6 w7 hB5 (w := w) (by simp [dMerge, ev, ew]) (m5_work_L70 148 K F f)
            rw [g1]
            exact go I' J' g2 g3
        | some v =>
          rw [if_pos (by rw [(RB_some w6 hk ev).1]; decide)]
          obtain ⟨I', J', g1, g2, g3⟩ := r_workB122 hL ht ha hb hk w6 w7 hB5 (w := v) (by simp [dMerge, ev]) (m5_work_L70 148 K F f)
          rw [g1]
          exact go I' J' g2 g3
      · rw [if_pos (show ¬ nI sort = (5 : Int32) from fun q => c5 ((nI_eq (by omega) (by decide)).mp q)), if_pos ga]
        have hs' : sort = 1 ∨ sort = 2 ∨ sort = 4 ∨ sort = 6 ∨ sort = 7 := by omega
        cases ev : ρ k with
        | none =>
          rw [if_pos (RB_none w6 hk ev).1]
          refine go I J FrB.self (r_pnone hB ?_)
          rcases hs' with rfl | rfl | rfl | rfl | rfl
          · simp [dTab, dFilter, ev]
          · simp [dTab, dMap, ev]
          · simp [dTab, dJoin, ev]
          · simp [dTab, dBest, ev]
          · simp [dTab, dLook, ev]
        | some v =>
          obtain ⟨q1, q2⟩ := RB_some w6 hk ev
          obtain ⟨I', J', g1, g2, g3⟩ := r_workRow hL ht ha hb hk hW hp hs' ev hB
          rw [if_neg (by rw [q1]; decide), q2, g1]
          exact go I' J' g2 g3
end
