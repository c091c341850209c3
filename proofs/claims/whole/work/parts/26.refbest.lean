section
variable {K : Nat → Nat × Nat} {F : Nat → Nat → Option Nat} {I : Nat → Nat → Int32} {J : Nat → Nat → Int64} {ρ : Nat → Option Int64}
theorem lN_0 : (0 : Int64) = lN 0 := by decide +kernel
theorem ahead_le {k : Nat} {v : Int64} : ∀ m, ahead ρ k v m ≤ m
  | 0 => Nat.le_refl 0
  | m + 1 => by
    have h := ahead_le (k := k) (v := v) m
    rw [ahead]
    cases ρ m with
    | none => simp; omega
    | some x =>
      by_cases c : v < x ∨ (x = v ∧ m < k)
      · simp [c]; omega
      · simp [c]; omega
theorem RB_some {a k : Nat} {v : Int64} (hB : RB I J a ρ) (hk : k < 64) (e : ρ k = some v) : I 129 (64 * a + k) = 1 ∧ J 130 (64 * a + k) = v := by
  obtain ⟨h1, h2⟩ := hB k hk
  rw [e] at h1 h2
  exact ⟨h1, h2⟩
theorem RB_none {a k : Nat} (hB : RB I J a ρ) (hk : k < 64) (e : ρ k = none) : I 129 (64 * a + k) = 0 ∧ J 130 (64 * a + k) = 0 := by
  obtain ⟨h1, h2⟩ := hB k hk
  rw [e] at h1 h2
  exact ⟨h1, h2⟩
theorem r_isBestL (hL : Lay K F) {a k n : Nat} {v : Int64} (ha : a < 12) (hk : k < 64) (hn : n ≤ 64) (hB : RB I J a ρ) (hv : ρ k = some v) : ∀ (f j : Nat), j ≤ 64 → 64 - j < f → m5_isBest_L6 148 K F I J f 123 (nI (64 * a)) (nI k) (lN n) (lN (ahead ρ k v j)) (nI j) = some (bi (decide (ahead ρ k v 64 < n)))
  | 0, j, h1, h2 => absurd h2 (by omega)
  | f + 1, j, h1, h2 => by
    rw [m5_isBest_L6]
    have hle := ahead_le (ρ := ρ) (k := k) (v := v) j
    by_cases e : j = 64
    · subst e
      rw [if_pos (by decide)]
      by_cases c : n ≤ ahead ρ k v 64
      · rw [if_pos ((lN_le (by omega) (by omega)).mpr c)]
        simp [bi, show ¬ ahead ρ k v 64 < n by omega]
      · rw [if_neg (fun q => c ((lN_le (by omega) (by omega)).mp q))]
        simp [bi, show ahead ρ k v 64 < n by omega]
    · have hlt : j < 64 := by omega
      rw [if_neg (n64 hlt), if_pos ⟨by decide, lK123 hL⟩]
      simp only [xlet, xb, lF123_6 hL, lF123_7 hL, Option.bind_some, nI_add, cl_nI (show 64 * a + j < 2 ^ 31 by omega), cl_nI (show 64 * a + k < 2 ^ 31 by omega), (RB_some hB hk hv).2, Int64.add_zero]
      rw [if_pos ⟨by decide, by rw [lK130 hL], by rw [lK130 hL]; exact xinb_nI (by omega) (by decide)⟩, if_pos ⟨by decide, by rw [lK130 hL], by rw [lK130 hL]; exact xinb_nI (by omega) (by decide)⟩, if_pos ⟨by decide, by rw [lK129 hL], by rw [lK129 hL]; exact xinb_nI (by omega) (by decide)⟩, show nI j + (1 : Int32) = nI (j + 1) from nI_1 j]
      have hB70 : ahead ρ k v (j + 1) = ahead ρ k v j + 1 → m5_isBest_B70 148 K F I J (m5_isBest_L6 148 K F I J f) 123 (nI (64 * a)) (nI k) (lN n) (nI j) (lN (ahead ρ k v j)) = some (bi (decide (ahead ρ k v 64 < n))) := by
        intro h
        unfold m5_isBest_B70
        simp only [xlet]
        rw [show nI j + (1 : Int32) = nI (j + 1) from nI_1 j, lN_1, ← h]
        exact r_isBestL hL ha hk hn hB hv f (j + 1) (by omega) (by omega)
      have hno : ahead ρ k v (j + 1) = ahead ρ k v j → m5_isBest_L6 148 K F I J f 123 (nI (64 * a)) (nI k) (lN n) (lN (ahead ρ k v j)) (nI (j + 1)) = some (bi (decide (ahead ρ k v 64 < n))) := by
        intro h
        rw [← h]
        exact r_isBestL hL ha hk hn hB hv f (j + 1) (by omega) (by omega)
      cases ev : ρ j with
      | none =>
        rw [if_pos (RB_none hB hlt ev).1]
        exact hno (by rw [ahead, ev]; rfl)
      | some x =>
        obtain ⟨g1, g2⟩ := RB_some hB hlt ev
        rw [if_neg (by rw [g1]; decide), g2]
        by_cases c1 : v < x
        · rw [if_pos c1]
          exact hB70 (by rw [ahead, ev]; simp [c1])
        · rw [if_neg c1]
          by_cases c2 : x = v
          · rw [if_neg (x_nn c2)]
            by_cases c3 : k ≤ j
            · rw [if_pos (nI_le c3 (by omega))]
              exact hno (by rw [ahead, ev]; simp [c1, show ¬ j < k by omega])
            · rw [if_neg (nI_ge (by omega) (by omega))]
              exact hB70 (by rw [ahead, ev]; simp [c2, show j < k by omega])
          · rw [if_pos c2]
            exact hno (by rw [ahead, ev]; simp [c1, c2])
theorem r_isBest (hL : Lay K F) {a k n : Nat} {v : Int64} (ha : a < 12) (hk : k < 64) (hn : n ≤ 64) (hB : RB I J a ρ) (hv : ρ k = some v) : m5_isBest 148 K F I J 123 (nI (64 * a)) (nI k) (lN n) = some (bi (decide (ahead ρ k v 64 < n))) := by
  unfold m5_isBest
  rw [lN_0]
  exact r_isBestL hL ha hk hn hB hv xFu 0 (by omega) (by unfold xFu; omega)
theorem r_isIn (v lo hi : Int64) {N : Nat} : m5_isIn N K F I J v lo hi = some (bi (!decide (v < lo) && !decide (hi < v))) := by
  unfold m5_isIn
  by_cases c1 : v < lo
  · rw [if_pos c1]; simp [c1, bi]
  · rw [if_neg c1]
    by_cases c2 : hi < v
    · rw [if_pos c2]; simp [c2, bi]
    · rw [if_neg c2]; simp [c1, c2, bi]
end
