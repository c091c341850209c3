section
variable {K : Nat → Nat × Nat} {F : Nat → Nat → Option Nat} {J : Nat → Nat → Int64} {T r : Nat} {ρ : Nat → Option Int64}
theorem m_insertL (hT : TabOk K F T) (hr : RowsOk K F r) (hA : RA J r ρ) {i s : Nat} {o : Nat → Nat} (hi : i < 64) (hs : s ≤ i) (hO : Ord ρ i s o) {I0 : Nat → Nat → Int32} : ∀ (f p : Nat) (I : Nat → Nat → Int32), p ≤ s → p < f → (∀ a, a ≠ T + 7 → I a = I0 a) → (∀ q, q < p → I (T + 7) q = nI (o q)) → (∀ q, p < q → q ≤ s → I (T + 7) q = nI (o (q - 1))) → (∀ q, p ≤ q → q < s → (ρ (o q)).getD 0 < (ρ i).getD 0) →
    ∃ I' p', m4_insertKey_L3 148 K F J f I T (nI i) (r + 1) (nI p) = some I' ∧ p' ≤ s ∧ (∀ a, a ≠ T + 7 → I' a = I0 a) ∧ (∀ q, q < p' → I' (T + 7) q = nI (o q)) ∧ I' (T + 7) p' = nI i ∧ (∀ q, p' < q → q ≤ s → I' (T + 7) q = nI (o (q - 1))) ∧ (∀ q, p' ≤ q → q < s → (ρ (o q)).getD 0 < (ρ i).getD 0) ∧ (p' = 0 ∨ ¬ (ρ (o (p' - 1))).getD 0 < (ρ i).getD 0)
  | 0, p, I, h1, h2, _, _, _, _ => absurd h2 (by omega)
  | f + 1, 0, I, h1, h2, h3, h4, h5, h6 => by
    obtain ⟨t1, t2, t5, t6, t7, t8, t9, t10, r1, r3, r5⟩ := id hT
    rw [m4_insertKey_L3]
    refine ⟨xu I (T + 7) 0 (nI i), 0, ?_, by omega, fun a ha => by rw [xu_rw ha, h3 a ha], fun q hq => by omega, by rw [xu_ap, if_pos ⟨rfl, rfl⟩], fun q hq hq2 => by rw [xu_ap, if_neg (by omega)]; exact h5 q hq hq2, h6, Or.inl rfl⟩
    rw [if_pos (by decide), if_pos ⟨t1, t2⟩]
    simp only [xlet, xb, t8, Option.bind_some]
    rw [if_pos ⟨t9, by rw [t10], by rw [t10]; exact xinb_nI (by omega) (by decide)⟩, cl_nI (by omega)]
  | f + 1, p + 1, I, h1, h2, h3, h4, h5, h6 => by
    obtain ⟨t1, t2, t5, t6, t7, t8, t9, t10, r1, r3, r5⟩ := id hT
    have hop := (hO.1 p (by omega)).1
    have hI := h4 p (by omega)
    have hv : J (r + 1) i = (ρ i).getD 0 := hA.2 i hi
    have hvp : J (r + 1) (o p) = (ρ (o p)).getD 0 := hA.2 (o p) (by omega)
    rw [m4_insertKey_L3, if_neg (nI_nle (by omega) (by omega)), if_pos ⟨t1, t2⟩]
    simp only [xlet, xb, t8, Option.bind_some, nI_pred, cl_nI (show p < 2 ^ 31 by omega), hI, cl_nI (show i < 2 ^ 31 by omega), cl_nI (show o p < 2 ^ 31 by omega), cl_nI (show p + 1 < 2 ^ 31 by omega), hv, hvp, pk_m1]
    rw [if_pos ⟨t9, by rw [t10], by rw [t10]; exact xinb_nI (by omega) (by decide)⟩, if_pos ⟨hr.2.2.2.1, by rw [hr.2.2.2.2], by rw [hr.2.2.2.2]; exact xinb_nI (by omega) (by decide)⟩, if_pos ⟨hr.2.2.2.1, by rw [hr.2.2.2.2], by rw [hr.2.2.2.2]; exact xinb_nI hi (by decide)⟩]
    by_cases c : (ρ i).getD 0 ≤ (ρ (o p)).getD 0
    · rw [if_pos c, if_pos ⟨t9, by rw [t10], by rw [t10]; exact xinb_nI (by omega) (by decide)⟩]
      refine ⟨_, p + 1, rfl, h1, fun a ha => by rw [xu_rw ha, h3 a ha], fun q hq => by rw [xu_ap, if_neg (by omega)]; exact h4 q hq, by rw [xu_ap, if_pos ⟨rfl, rfl⟩], fun q hq hq2 => by rw [xu_ap, if_neg (by omega)]; exact h5 q hq hq2, h6, Or.inr (Int64.not_lt.mpr c)⟩
    · rw [if_neg c, if_pos ⟨t9, by rw [t10], by rw [t10]; exact xinb_nI (by omega) (by decide)⟩]
      refine m_insertL hT hr hA hi hs hO f p _ (by omega) (by omega) (fun a ha => by rw [xu_rw ha, h3 a ha]) (fun q hq => by rw [xu_ap, if_neg (by omega)]; exact h4 q (by omega)) (fun q hq hq2 => ?_) (fun q hq hq2 => ?_)
      · by_cases e : q = p + 1
        · subst e
          rw [xu_ap, if_pos ⟨rfl, rfl⟩]
          rfl
        · rw [xu_ap, if_neg (by omega)]
          exact h5 q (by omega) hq2
      · by_cases e : q = p
        · subst e
          exact Int64.not_le.mp c
        · exact h6 q (by omega) hq2
/-- the order with the new key -/
theorem Ord.ins {i s p : Nat} {o : Nat → Nat} (hO : Ord ρ i s o) (hp : p ≤ s) (hv : (ρ i).isSome = true) (h1 : ∀ q, p ≤ q → q < s → (ρ (o q)).getD 0 < (ρ i).getD 0) (h2 : p = 0 ∨ ¬ (ρ (o (p - 1))).getD 0 < (ρ i).getD 0) : Ord ρ (i + 1) (s + 1) (fun q => if q < p then o q else if q = p then i else o (q - 1)) := by
  have low : ∀ q, q < p → ¬ (ρ (o q)).getD 0 < (ρ i).getD 0 := by
    intro q hq
    rcases h2 with z | z
    · omega
    · by_cases e : q = p - 1
      · rw [e]; exact z
      · have := hO.2.1 q (p - 1) (by omega) (by omega)
        intro w
        rcases this with a | a
        · exact z (Int64.lt_trans a w)
        · rw [a.1] at w; exact z w
  refine ⟨fun q hq => ?_, fun a b hab hb => ?_, fun k hk hs => ?_⟩
  · by_cases c1 : q < p
    · simp only [c1, if_true]
      obtain ⟨x, y⟩ := hO.1 q (by omega)
      exact ⟨by omega, y⟩
    · by_cases c2 : q = p
      · subst c2
        simp only [Nat.lt_irrefl, if_false, if_true]
        exact ⟨by omega, hv⟩
      · simp only [c1, c2, if_false]
        obtain ⟨x, y⟩ := hO.1 (q - 1) (by omega)
        exact ⟨by omega, y⟩
  · by_cases a1 : a < p
    · by_cases b1 : b < p
      · simp only [a1, b1, if_true]
        exact hO.2.1 a b hab (by omega)
      · by_cases b2 : b = p
        · subst b2
          simp only [a1, Nat.lt_irrefl, if_false, if_true]
          have hl := low a a1
          have ho := (hO.1 a (by omega)).1
          rcases Int64.lt_or_eq_of_le (Int64.not_lt.mp hl) with z | z
          · exact Or.inl z
          · exact Or.inr ⟨z.symm, ho⟩
        · simp only [a1, b1, b2, if_true, if_false]
          exact hO.2.1 a (b - 1) (by omega) (by omega)
    · by_cases a2 : a = p
      · subst a2
        have b1 : ¬ b < a := by omega
        have b2 : ¬ b = a := by omega
        simp only [Nat.lt_irrefl, b1, b2, if_true, if_false]
        exact Or.inl (h1 (b - 1) (by omega) (by omega))
      · have b1 : ¬ b < p := by omega
        have b2 : ¬ b = p := by omega
        simp only [a1, a2, b1, b2, if_false]
        exact hO.2.1 (a - 1) (b - 1) (by omega) (by omega)
  · by_cases e : k = i
    · exact ⟨p, by omega, by simp [e]⟩
    · obtain ⟨q, hq, eq⟩ := hO.2.2 k (by omega) hs
      by_cases c : q < p
      · exact ⟨q, by omega, by simp [c, eq]⟩
      · exact ⟨q + 1, by omega, by simp [show ¬ q + 1 < p by omega, show ¬ q + 1 = p by omega, eq]⟩
end
