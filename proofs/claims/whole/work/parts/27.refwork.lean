/-- what the reference knows of table t while it works on it -/
def WC (I : Nat → Nat → Int32) (J : Nat → Nat → Int64) (t sort a b : Nat) (p1 p2 : Int64) (ρ ρ' : Nat → Option Int64) : Prop := I 124 t = nI sort ∧ I 125 t = nI a ∧ I 126 t = nI b ∧ J 127 t = p1 ∧ J 128 t = p2 ∧ RB I J a ρ ∧ RB I J b ρ'
theorem WC.fr {I I' : Nat → Nat → Int32} {J J' : Nat → Nat → Int64} {t sort a b : Nat} {p1 p2 : Int64} {ρ ρ' : Nat → Option Int64} (h : WC I J t sort a b p1 p2 ρ ρ') (hf : FrB I I' J J' t) (ha : a ≠ t) (hb : b ≠ t) : WC I' J' t sort a b p1 p2 ρ ρ' := by
  obtain ⟨h1, h2, h3, h4, h5, h6, h7⟩ := h
  exact ⟨by rw [hf.1 124 (by decide)]; exact h1, by rw [hf.1 125 (by decide)]; exact h2, by rw [hf.1 126 (by decide)]; exact h3, by rw [hf.2.1 127 (by decide)]; exact h4, by rw [hf.2.1 128 (by decide)]; exact h5, hf.rb ha h6, hf.rb hb h7⟩
section
variable {K : Nat → Nat × Nat} {F : Nat → Nat → Option Nat} {I : Nat → Nat → Int32} {J : Nat → Nat → Int64} {ρ ρ' σ : Nat → Option Int64}
theorem r_pset (hL : Lay K F) {t k : Nat} (ht : t < 12) (hk : k < 64) (hB : RB I J t (pre k σ)) {w : Int64} (hs : σ k = some w) : ∃ I' J', m5_setRow 148 K F I J 123 (nI (64 * t + k)) w = some (I', J') ∧ FrB I I' J J' t ∧ RB I' J' t (pre (k + 1) σ) := by
  obtain ⟨I', J', e1, e2, e3⟩ := r_set hL ht hk hB w
  exact ⟨I', J', e1, e2, by rw [← pre_some hs]; exact e3⟩
theorem r_pnone {t k : Nat} (hB : RB I J t (pre k σ)) (hs : σ k = none) : RB I J t (pre (k + 1) σ) := by rw [pre_none hs]; exact hB
theorem r_workRow (hL : Lay K F) {t k a b sort : Nat} {p1 p2 v : Int64} (ht : t < 12) (ha : a < 12) (hb : b < 12) (hk : k < 64) (hW : WC I J t sort a b p1 p2 ρ ρ') (hp : pOk sort p1 p2) (hs : sort = 1 ∨ sort = 2 ∨ sort = 4 ∨ sort = 6 ∨ sort = 7) (hv : ρ k = some v) (hB : RB I J t (pre k (dTab sort p1 p2 ρ ρ'))) : ∃ I' J', m5_workRow 148 K F I J 123 (nI t) (nI k) v (nI (64 * a)) (nI (64 * b)) (nI (64 * t)) = some (I', J') ∧ FrB I I' J J' t ∧ RB I' J' t (pre (k + 1) (dTab sort p1 p2 ρ ρ')) := by
  obtain ⟨h1, h2, h3, h4, h5, h6, h7⟩ := id hW
  have x12 : xinb (nI t) 12 := xinb_nI ht (by decide)
  unfold m5_workRow
  rw [if_pos ⟨by decide, lK123 hL⟩]
  simp only [xlet, xb, lF123_1 hL, lF123_4 hL, lF123_5 hL, lF123_6 hL, lF123_7 hL, Option.bind_some, cl_nI (show t < 2 ^ 31 by omega), h1, h4, h5, nI_add, look_ix]
  rw [if_pos ⟨by decide, by rw [lK124 hL], by rw [lK124 hL]; exact x12⟩]
  have g4 : 127 < 148 ∧ (K 127).1 = 2 ∧ xinb (nI t) (K 127).2 := ⟨by decide, by rw [lK127 hL], by rw [lK127 hL]; exact x12⟩
  have g5 : 128 < 148 ∧ (K 128).1 = 2 ∧ xinb (nI t) (K 128).2 := ⟨by decide, by rw [lK128 hL], by rw [lK128 hL]; exact x12⟩
  have g6 : ∀ j, j < 64 → 129 < 148 ∧ (K 129).1 = 3 ∧ xinb (nI (64 * b + j)) (K 129).2 := fun j hj => ⟨by decide, by rw [lK129 hL], by rw [lK129 hL]; exact xinb_nI (by omega) (by decide)⟩
  have g7 : ∀ j, j < 64 → 130 < 148 ∧ (K 130).1 = 2 ∧ xinb (nI (64 * b + j)) (K 130).2 := fun j hj => ⟨by decide, by rw [lK130 hL], by rw [lK130 hL]; exact xinb_nI (by omega) (by decide)⟩
  rcases hs with rfl | rfl | rfl | rfl | rfl
  · rw [if_pos (by decide), if_pos g4, if_pos g5, r_isIn]
    simp only [Option.bind_some]
    by_cases c : dFilter p1 p2 ρ k = none
    · have hc : (!decide (v < p1) && !decide (p2 < v)) = false := by
        simp only [dFilter, hv] at c
        by_cases c1 : v < p1
        · simp [c1]
        · by_cases c2 : p2 < v
          · simp [c2]
          · simp [c1, c2] at c
      rw [hc, if_pos (by decide)]
      exact ⟨I, J, rfl, FrB.self, r_pnone hB c⟩
    · have hw : dFilter p1 p2 ρ k = some v := by
        simp only [dFilter, hv] at c ⊢
        by_cases c1 : v < p1
        · simp [c1] at c
        · by_cases c2 : p2 < v
          · simp [c1, c2] at c
          · simp [c1, c2]
      have hc : (!decide (v < p1) && !decide (p2 < v)) = true := by
        simp only [dFilter, hv] at c
        by_cases c1 : v < p1
        · simp [c1] at c
        · by_cases c2 : p2 < v
          · simp [c1, c2] at c
          · simp [c1, c2]
      obtain ⟨I', J', e1, e2, e3⟩ := r_pset hL ht hk hB (w := v) hw
      rw [hc, if_neg (by decide), e1]
      exact ⟨I', J', rfl, e2, e3⟩
  · obtain ⟨I', J', e1, e2, e3⟩ := r_pset hL ht hk hB (w := p1 * v + p2) (by simp [dTab, dMap, hv])
    rw [if_neg (by decide), if_pos (by decide), if_pos g4, if_pos g5, e1]
    exact ⟨I', J', rfl, e2, e3⟩
  · rw [if_neg (by decide), if_neg (by decide), if_neg (by decide), if_pos (by decide), if_pos (g6 k hk)]
    simp only [cl_nI (show 64 * b + k < 2 ^ 31 by omega)]
    cases ew : ρ' k with
    | none =>
      rw [if_pos (RB_none h7 hk ew).1, if_pos g4]
      by_cases c : p1 = 1
      · obtain ⟨I', J', e1, e2, e3⟩ := r_pset hL ht hk hB (w := v) (by simp [dTab, dJoin, hv, ew, c])
        rw [if_neg (x_nn c), e1]
        exact ⟨I', J', rfl, e2, e3⟩
      · rw [if_pos c]
        exact ⟨I, J, rfl, FrB.self, r_pnone hB (by simp [dTab, dJoin, hv, ew, c])⟩
    | some w =>
      obtain ⟨q1, q2⟩ := RB_some h7 hk ew
      obtain ⟨I', J', e1, e2, e3⟩ := r_pset hL ht hk hB (w := v + w) (by simp [dTab, dJoin, hv, ew])
      rw [if_neg (by rw [q1]; decide), if_pos (g7 k hk), q2, e1]
      exact ⟨I', J', rfl, e2, e3⟩
  · obtain ⟨n, n64, en⟩ := hp.2.2 rfl
    rw [if_neg (by decide), if_neg (by decide), if_neg (by decide), if_neg (by decide), if_neg (by decide), if_pos (by decide), if_pos g4, en, r_isBest hL ha hk n64 h6 hv]
    simp only [Option.bind_some]
    by_cases c : ahead ρ k v 64 < n
    · obtain ⟨I', J', e1, e2, e3⟩ := r_pset hL ht hk hB (w := v) (by simp [dTab, dBest, hv, en, nB_lN (show n < 2 ^ 31 by omega), c])
      rw [if_neg (by simp [bi, c]), e1]
      rw [en] at e3
      exact ⟨I', J', rfl, e2, e3⟩
    · rw [if_pos (by simp [bi, c])]
      refine ⟨I, J, rfl, FrB.self, ?_⟩
      rw [en] at hB
      exact r_pnone hB (by simp [dTab, dBest, hv, nB_lN (show n < 2 ^ 31 by omega), c])
  · have hx : nB v % 64 < 64 := Nat.mod_lt _ (by decide)
    rw [if_neg (by decide), if_neg (by decide), if_neg (by decide), if_neg (by decide), if_neg (by decide), if_neg (by decide), if_pos (g6 _ hx)]
    simp only [cl_nI (show 64 * b + nB v % 64 < 2 ^ 31 by omega)]
    cases ew : ρ' (nB v % 64) with
    | none =>
      rw [if_pos (RB_none h7 hx ew).1]
      exact ⟨I, J, rfl, FrB.self, r_pnone hB (by simp [dTab, dLook, hv, ew])⟩
    | some w =>
      obtain ⟨q1, q2⟩ := RB_some h7 hx ew
      obtain ⟨I', J', e1, e2, e3⟩ := r_pset hL ht hk hB (w := w) (by simp [dTab, dLook, hv, ew])
      rw [if_neg (by rw [q1]; decide), if_pos (g7 _ hx), q2, e1]
      exact ⟨I', J', rfl, e2, e3⟩
end
