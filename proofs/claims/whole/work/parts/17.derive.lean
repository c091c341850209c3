section
variable {K : Nat → Nat × Nat} {F : Nat → Nat → Option Nat} {I : Nat → Nat → Int32} {J0 : Nat → Nat → Int64} {T r o : Nat} {ρ ρ' : Nat → Option Int64}
theorem n64 {i : Nat} (h : i < 64) : ¬ (64 : Int32) ≤ nI i := nI_ge h (by decide)
theorem m_filterL (hT : TabOk K F T) (hr : RowsOk K F r) (ha : Apart r T) (hA : RA J0 r ρ) : ∀ (f i : Nat) (J : Nat → Nat → Int64), i ≤ 64 → 64 - i < f → FrT J0 J T → RA J (T + 3) (pre i (dFilter (J0 T 3) (J0 T 4) ρ)) → ∃ J', m4_deriveFilter_L2 148 K F I f J T r (nI i) = some J' ∧ FrT J0 J' T ∧ RA J' (T + 3) (dFilter (J0 T 3) (J0 T 4) ρ)
  | 0, i, J, h1, h2, _, _ => absurd h2 (by omega)
  | f + 1, i, J, h1, h2, hF, hN => by
    obtain ⟨t1, t2, t5, t6, t7, t8, t9, t10, r1, r3, r5⟩ := id hT
    rw [m4_deriveFilter_L2]
    by_cases e : i = 64
    · subst e
      exact ⟨J, by rw [if_pos (by decide)], hF, RA_64 hN⟩
    · have hlt : i < 64 := by omega
      have hb : xinb (nI i) 64 := xinb_nI hlt (by decide)
      have hAJ := hF.ra ha hA
      have hTJ : J T = J0 T := hF T (by omega) (by omega)
      rw [if_neg (n64 hlt), if_pos ⟨hr.1, hr.2.1⟩]
      simp only [xlet, xb, hr.2.2.1, Option.bind_some]
      rw [if_pos ⟨hr.2.2.2.1, by rw [hr.2.2.2.2], by rw [hr.2.2.2.2]; exact hb⟩, cl_nI (by omega), show nI i + (1 : Int32) = nI (i + 1) from nI_1 i]
      cases ev : ρ i with
      | none =>
        rw [m_holds0 hr hAJ hlt ev]
        simp only [Option.bind_some]
        rw [if_pos trivial]
        exact m_filterL hT hr ha hA f (i + 1) J (by omega) (by omega) hF (by rw [pre_none (by simp [dFilter, ev])]; exact hN)
      | some v =>
        rw [m_holds1 hr hAJ hlt ev, RA_val hAJ hlt ev]
        simp only [Option.bind_some]
        rw [if_neg (by decide), if_pos ⟨t1, t2⟩, hTJ]
        by_cases c1 : v < J0 T 3
        · rw [if_pos c1]
          exact m_filterL hT hr ha hA f (i + 1) J (by omega) (by omega) hF (by rw [pre_none (by simp [dFilter, ev, c1])]; exact hN)
        · rw [if_neg c1]
          by_cases c2 : J0 T 4 < v
          · rw [if_pos c2]
            exact m_filterL hT hr ha hA f (i + 1) J (by omega) (by omega) hF (by rw [pre_none (by simp [dFilter, ev, c1, c2])]; exact hN)
          · rw [if_neg c2, t6]
            simp only [Option.bind_some]
            rw [if_pos ⟨r3.1, r3.2.1⟩]
            obtain ⟨J', s1, s2, s3⟩ := m_set (I := I) r3 hN hlt v
            rw [s1]
            simp only [Option.bind_some]
            exact m_filterL hT hr ha hA f (i + 1) J' (by omega) (by omega) (hF.then s3) (by rw [← pre_some (show dFilter (J0 T 3) (J0 T 4) ρ i = some v by simp [dFilter, ev, c1, c2])]; exact s2)
theorem m_mapL (hT : TabOk K F T) (hr : RowsOk K F r) (ha : Apart r T) (hA : RA J0 r ρ) : ∀ (f i : Nat) (J : Nat → Nat → Int64), i ≤ 64 → 64 - i < f → FrT J0 J T → RA J (T + 3) (pre i (dMap (J0 T 3) (J0 T 4) ρ)) → ∃ J', m4_deriveMap_L2 148 K F I f J T r (nI i) = some J' ∧ FrT J0 J' T ∧ RA J' (T + 3) (dMap (J0 T 3) (J0 T 4) ρ)
  | 0, i, J, h1, h2, _, _ => absurd h2 (by omega)
  | f + 1, i, J, h1, h2, hF, hN => by
    obtain ⟨t1, t2, t5, t6, t7, t8, t9, t10, r1, r3, r5⟩ := id hT
    rw [m4_deriveMap_L2]
    by_cases e : i = 64
    · subst e
      exact ⟨J, by rw [if_pos (by decide)], hF, RA_64 hN⟩
    · have hlt : i < 64 := by omega
      have hb : xinb (nI i) 64 := xinb_nI hlt (by decide)
      have hAJ := hF.ra ha hA
      have hTJ : J T = J0 T := hF T (by omega) (by omega)
      rw [if_neg (n64 hlt), if_pos ⟨hr.1, hr.2.1⟩]
      simp only [xlet, xb, hr.2.2.1, t6, Option.bind_some]
      rw [show nI i + (1 : Int32) = nI (i + 1) from nI_1 i]
      cases ev : ρ i with
      | none =>
        rw [m_holds0 hr hAJ hlt ev]
        simp only [Option.bind_some]
        rw [if_pos trivial]
        exact m_mapL hT hr ha hA f (i + 1) J (by omega) (by omega) hF (by rw [pre_none (by simp [dMap, ev])]; exact hN)
      | some v =>
        rw [m_holds1 hr hAJ hlt ev]
        simp only [Option.bind_some]
        rw [if_neg (by decide), if_pos ⟨t1, t2⟩, if_pos ⟨hr.2.2.2.1, by rw [hr.2.2.2.2], by rw [hr.2.2.2.2]; exact hb⟩, cl_nI (by omega), if_pos ⟨r3.1, r3.2.1⟩, RA_val hAJ hlt ev, hTJ]
        obtain ⟨J', s1, s2, s3⟩ := m_set (I := I) r3 hN hlt (J0 T 3 * v + J0 T 4)
        rw [s1]
        simp only [Option.bind_some]
        exact m_mapL hT hr ha hA f (i + 1) J' (by omega) (by omega) (hF.then s3) (by rw [← pre_some (show dMap (J0 T 3) (J0 T 4) ρ i = some (J0 T 3 * v + J0 T 4) by simp [dMap, ev])]; exact s2)
end
