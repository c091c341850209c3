section
variable {K : Nat → Nat × Nat} {F : Nat → Nat → Option Nat} {I : Nat → Nat → Int32} {J0 : Nat → Nat → Int64} {T r o : Nat} {ρ ρ' : Nat → Option Int64}
theorem nI_lit (a b : Nat) (ha : a < 2 ^ 31) (hb : b < 2 ^ 31) (h : a ≠ b) : ¬ nI a = nI b := fun q => h ((nI_eq ha hb).mp q)
theorem m_folded {J : Nat → Nat → Int64} (hT : TabOk K F T) {kd i : Nat} (hk : J T 3 = lN kd) (h4 : kd ≤ 4) (hi : i < 64) (acc : Option Int64) (v : Int64) : m4_folded 148 K F I J T (if acc.isSome then 0 else 1) (acc.getD 0) (nI i) v = some (fStep kd acc i v) := by
  obtain ⟨t1, t2, -⟩ := hT
  unfold m4_folded
  rw [if_pos ⟨t1, t2⟩, hk, lN_i]
  match kd, h4 with
  | 0, _ => rw [if_pos (by decide)]; rfl
  | 1, _ => rw [if_neg (by decide), if_pos (by decide)]; rfl
  | 2, _ =>
    rw [if_neg (by decide), if_neg (by decide), if_pos (by decide)]
    cases acc with
    | none => rw [if_pos (by decide)]; rfl
    | some s =>
      rw [if_neg (by simp)]
      change (if s ≤ v then some s else some v) = some (if v < s then v else s)
      by_cases c : s ≤ v
      · rw [if_pos c, if_neg (Int64.not_lt.mpr c)]
      · rw [if_neg c, if_pos (Int64.not_le.mp c)]
  | 3, _ =>
    rw [if_neg (by decide), if_neg (by decide), if_neg (by decide), if_pos (by decide)]
    cases acc with
    | none => rw [if_pos (by decide)]; rfl
    | some s =>
      rw [if_neg (by simp)]
      change (if v ≤ s then some s else some v) = some (if v < s then s else v)
      by_cases c : v ≤ s
      · rw [if_pos c]
        by_cases e : v < s
        · rw [if_pos e]
        · rw [if_neg e, Int64.le_antisymm (Int64.not_lt.mp e) c]
      · rw [if_neg c, if_neg (fun q => c (Int64.le_of_lt q))]
  | 4, _ =>
    rw [if_neg (by decide), if_neg (by decide), if_neg (by decide), if_neg (by decide), nI_l (by omega)]
    rfl
theorem mod_step {i g : Nat} (hg : 0 < g) : (g ≤ i % g + 1 → (i + 1) % g = 0) ∧ (¬ g ≤ i % g + 1 → (i + 1) % g = i % g + 1) := by
  have h := Nat.mod_lt i hg
  constructor
  · intro h1
    have e : i % g = g - 1 := by omega
    rw [Nat.add_mod, e]
    by_cases g1 : g = 1
    · subst g1; rfl
    · rw [Nat.mod_eq_of_lt (show 1 < g by omega), show g - 1 + 1 = g by omega, Nat.mod_self]
  · intro h1
    rw [Nat.add_mod, Nat.mod_eq_of_lt (show 1 < g by omega)]
    exact Nat.mod_eq_of_lt (by omega)
theorem m_foldB62 {J : Nat → Nat → Int64} (hT : TabOk K F T) {g i : Nat} (hg0 : 0 < g) (hg : g ≤ 64) (hJ : J T 4 = lN g) (hi : i < 64) (k4 : (Nat → Nat → Int64) → Nat → Nat → Int32 → Int32 → Option (Nat → Nat → Int64)) : m4_deriveFold_B62 148 K F I k4 J T r (nI (i % g)) (nI i) = k4 J T r (nI ((i + 1) % g)) (nI (i + 1)) := by
  obtain ⟨t1, t2, -⟩ := hT
  have hm := Nat.mod_lt i hg0
  unfold m4_deriveFold_B62
  simp only [xlet]
  rw [if_pos ⟨t1, t2⟩, hJ, show nI (i % g) + (1 : Int32) = nI (i % g + 1) from nI_1 _, nI_l (by omega), show nI i + (1 : Int32) = nI (i + 1) from nI_1 i]
  by_cases c : g ≤ i % g + 1
  · rw [if_pos ((lN_le (by omega) (by omega)).mpr c), (mod_step hg0).1 c]
    rfl
  · rw [if_neg (fun q => c ((lN_le (by omega) (by omega)).mp q)), (mod_step hg0).2 c]
theorem m_foldL (hT : TabOk K F T) (hr : RowsOk K F r) (ha : Apart r T) (hA : RA J0 r ρ) {kd g : Nat} (hk : J0 T 3 = lN kd) (h4 : kd ≤ 4) (hg0 : 0 < g) (hg : g ≤ 64) (hJ : J0 T 4 = lN g) : ∀ (f i : Nat) (J : Nat → Nat → Int64), i ≤ 64 → 64 - i < f → FrT J0 J T → RA J (T + 3) (dFold kd g ρ i) → ∃ J', m4_deriveFold_L4 148 K F I f J T r (nI (i % g)) (nI i) = some J' ∧ FrT J0 J' T ∧ RA J' (T + 3) (dFold kd g ρ 64)
  | 0, i, J, h1, h2, _, _ => absurd h2 (by omega)
  | f + 1, i, J, h1, h2, hF, hN => by
    obtain ⟨t1, t2, t5, t6, t7, t8, t9, t10, r1, r3, r5⟩ := id hT
    rw [m4_deriveFold_L4]
    by_cases e : i = 64
    · subst e
      exact ⟨J, by rw [if_pos (by decide)], hF, hN⟩
    · have hlt : i < 64 := by omega
      have hm : i % g < g := Nat.mod_lt i hg0
      have hb : xinb (nI i) 64 := xinb_nI hlt (by decide)
      have hbg : xinb (nI (i % g)) 64 := xinb_nI (by omega) (by decide)
      have hAJ := hF.ra ha hA
      have hTJ : J T = J0 T := hF T (by omega) (by omega)
      rw [if_neg (n64 hlt), if_pos ⟨hr.1, hr.2.1⟩]
      simp only [xlet, xb, t6, Option.bind_some]
      cases ev : ρ i with
      | none =>
        rw [m_holds0 hr hAJ hlt ev]
        simp only [Option.bind_some]
        rw [if_pos trivial, m_foldB62 hT hg0 hg (by rw [hTJ]; exact hJ) hlt]
        exact m_foldL hT hr ha hA hk h4 hg0 hg hJ f (i + 1) J (by omega) (by omega) hF (RA_congr hN (fun k _ => by simp [dFold, ev]))
      | some v =>
        rw [m_holds1 hr hAJ hlt ev]
        simp only [Option.bind_some]
        rw [if_neg (by decide), if_pos ⟨t1, t2⟩, if_pos ⟨r3.1, r3.2.1⟩]
        obtain ⟨acc, hacc⟩ : ∃ a, a = dFold kd g ρ i (i % g) := ⟨_, rfl⟩
        have hval : J (T + 3 + 1) (i % g) = acc.getD 0 := by rw [hacc]; exact hN.2 _ (by omega)
        obtain ⟨J', s1, s2, s3⟩ := m_set (I := I) r3 hN (show i % g < 64 by omega) (fStep kd acc i v)
        have hB40 : ∀ w, w = (if acc.isSome then (0 : Int32) else 1) → m4_deriveFold_B40 148 K F I (m4_deriveFold_L4 148 K F I f) J T r (nI (i % g)) (nI i) (T + 3) (nI (i % g)) T w = m4_deriveFold_L4 148 K F I f J' T r (nI ((i + 1) % g)) (nI (i + 1)) := by
          intro w hw
          unfold m4_deriveFold_B40
          rw [if_pos ⟨t1, t2⟩]
          simp only [xlet, xb, t6, r3.2.2.1, hr.2.2.1, Option.bind_some]
          rw [if_pos ⟨r3.1, r3.2.1⟩, if_pos ⟨r3.2.2.2.1, by rw [r3.2.2.2.2], by rw [r3.2.2.2.2]; exact hbg⟩, if_pos ⟨hr.1, hr.2.1⟩, if_pos ⟨hr.2.2.2.1, by rw [hr.2.2.2.2], by rw [hr.2.2.2.2]; exact hb⟩, if_pos ⟨t1, t2⟩, cl_nI (by omega), cl_nI (by omega), hval, RA_val hAJ hlt ev, hw, m_folded hT (by rw [hTJ]; exact hk) h4 hlt acc v]
          simp only [Option.bind_some]
          rw [if_pos ⟨r3.1, r3.2.1⟩, s1]
          simp only [Option.bind_some]
          exact m_foldB62 hT hg0 hg (by rw [s3 T (by omega) (by omega), hTJ]; exact hJ) hlt _
        have hgo := m_foldL hT hr ha hA hk h4 hg0 hg hJ f (i + 1) J' (by omega) (by omega) (hF.then s3) (RA_congr s2 (fun k _ => by
          unfold rset
          by_cases ek : k = i % g
          · rw [if_pos ek, hacc, dFold, if_pos ek.symm, ev, ek]
          · rw [if_neg ek, dFold, if_neg (Ne.symm ek)]))
        rw [m_holds r3 hN (show i % g < 64 by omega), ← hacc]
        simp only [Option.bind_some]
        cases ea : acc with
        | none =>
          rw [if_neg (by simp), hB40 1 (by rw [ea]; rfl)]
          exact hgo
        | some s =>
          rw [if_pos (by simp), hB40 0 (by rw [ea]; rfl)]
          exact hgo
end
