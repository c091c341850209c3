section
variable {K : Nat → Nat × Nat} {F : Nat → Nat → Option Nat} {ρ ρ' : Nat → Option Int64}
theorem mod_ne {j d g : Nat} (hd : 0 < d) (hg : d < g) : (j + d) % g ≠ j % g := by
  intro h
  have h1 := Nat.div_add_mod (j + d) g
  have h2 := Nat.div_add_mod j g
  rw [h] at h1
  have h3 : g * ((j + d) / g) = g * (j / g) + d := by omega
  have h4 : j / g ≤ (j + d) / g := Nat.div_le_div_right (by omega)
  have h5 : g * ((j + d) / g - j / g) = d := by rw [Nat.mul_sub]; omega
  rcases Nat.eq_zero_or_pos ((j + d) / g - j / g) with z | z
  · rw [z] at h5; omega
  · have : g * 1 ≤ g * ((j + d) / g - j / g) := Nat.mul_le_mul_left g z
    omega
theorem fold_skip {kd g j k : Nat} (hj : j % g = k) : ∀ d, 0 < d → d ≤ g → dFold kd g ρ (j + d) k = dFold kd g ρ (j + 1) k
  | 0, h, _ => absurd h (by omega)
  | 1, _, _ => rfl
  | d + 2, _, h => by
    rw [show j + (d + 2) = (j + (d + 1)) + 1 by omega, dFold, if_neg (by rw [← hj]; exact mod_ne (by omega) (by omega))]
    exact fold_skip hj (d + 1) (by omega) (by omega)
theorem fold_low {kd g k : Nat} (hg : k < g) : ∀ m, m ≤ k → dFold kd g ρ m k = none
  | 0, _ => rfl
  | m + 1, h => by rw [dFold, if_neg (by rw [Nat.mod_eq_of_lt (by omega)]; omega)]; exact fold_low hg m (by omega)
theorem r_foldL37 (hL : Lay K F) {I : Nat → Nat → Int32} {J : Nat → Nat → Int64} {t a k kd g : Nat} (ht : t < 12) (ha : a < 12) (hg0 : 0 < g) (hg : g ≤ 64) (hk : k < g) (h4 : kd ≤ 4) (hA : RB I J a ρ) (hp : J 127 t = lN kd) (k21 : (Nat → Nat → Int32) → (Nat → Nat → Int64) → Nat → Int32 → Int32 → Int32 → Int32 → Option ((Nat → Nat → Int32) × (Nat → Nat → Int64))) : ∀ (f j cnt : Nat), j % g = k → j < 64 + g → 128 - j < f → cnt ≤ j → (cnt = 0 ↔ dFold kd g ρ j k = none) → (64 ≤ j → dFold kd g ρ j k = dFold kd g ρ 64 k) →
    m5_workFold_L37 148 K F k21 f I J 123 (nI t) (nI g) (nI (64 * a)) (nI k) (nI cnt) ((dFold kd g ρ j k).getD 0) (nI j) = (match dFold kd g ρ 64 k with | none => k21 I J 123 (nI t) (nI g) (nI (64 * a)) (nI (k + 1)) | some w => xb (m5_setRow 148 K F I J 123 (nI (64 * t + k)) w) fun (I3, J4) => k21 I3 J4 123 (nI t) (nI g) (nI (64 * a)) (nI (k + 1)))
  | 0, j, cnt, h1, h2, h3, _, _, _ => absurd h3 (by omega)
  | f + 1, j, cnt, h1, h2, h3, hc, hc0, h64 => by
    rw [m5_workFold_L37]
    by_cases e : 64 ≤ j
    · rw [if_pos (show (64 : Int32) ≤ nI j from nI_le e (by omega)), ← h64 e]
      simp only [xlet, nI_64, nI_add]
      rw [show nI k + (1 : Int32) = nI (k + 1) from nI_1 k]
      cases ev : dFold kd g ρ j k with
      | none =>
        rw [if_pos (by rw [hc0.mpr ev]; decide)]
      | some w =>
        have : cnt ≠ 0 := fun z => by rw [hc0.mp z] at ev; cases ev
        rw [if_neg (nI_nle (by omega) (by omega)), if_pos ⟨by decide, lK123 hL⟩]
        rfl
    · have hj : j < 64 := by omega
      have x12 : xinb (nI t) 12 := xinb_nI ht (by decide)
      have hsk : dFold kd g ρ (j + g) k = dFold kd g ρ (j + 1) k := fold_skip h1 g hg0 (Nat.le_refl g)
      have h64' : 64 ≤ j + g → dFold kd g ρ (j + g) k = dFold kd g ρ 64 k := fun _ => by
        have := fold_skip (kd := kd) (ρ := ρ) h1 (64 - j) (by omega) (by omega)
        rw [hsk, ← this, show j + (64 - j) = 64 by omega]
      have hm : (j + g) % g = k := by rw [Nat.add_mod_right]; exact h1
      rw [if_neg (n64 hj), if_pos ⟨by decide, lK123 hL⟩]
      simp only [xlet, xb, lF123_4 hL, lF123_6 hL, lF123_7 hL, Option.bind_some, nI_add, cl_nI (show 64 * a + j < 2 ^ 31 by omega), cl_nI (show t < 2 ^ 31 by omega), hp]
      rw [if_pos ⟨by decide, by rw [lK129 hL], by rw [lK129 hL]; exact xinb_nI (by omega) (by decide)⟩]
      cases ev : ρ j with
      | none =>
        have hst : dFold kd g ρ (j + g) k = dFold kd g ρ j k := by rw [hsk, dFold, ev]; simp
        rw [if_pos (RB_none hA hj ev).1, ← hst]
        exact r_foldL37 hL ht ha hg0 hg hk h4 hA hp k21 f (j + g) cnt hm (by omega) (by omega) (by omega) (by rw [hst]; exact hc0) h64'
      | some x =>
        obtain ⟨q1, q2⟩ := RB_some hA hj ev
        obtain ⟨acc, hacc⟩ : ∃ z, z = dFold kd g ρ j k := ⟨_, rfl⟩
        have hst : dFold kd g ρ (j + g) k = some (fStep kd acc j x) := by rw [hsk, dFold, if_pos h1, ev, hacc]
        have go : m5_workFold_L37 148 K F k21 f I J 123 (nI t) (nI g) (nI (64 * a)) (nI k) (nI (cnt + 1)) (fStep kd acc j x) (nI (j + g)) = (match dFold kd g ρ 64 k with | none => k21 I J 123 (nI t) (nI g) (nI (64 * a)) (nI (k + 1)) | some w => xb (m5_setRow 148 K F I J 123 (nI (64 * t + k)) w) fun (I3, J4) => k21 I3 J4 123 (nI t) (nI g) (nI (64 * a)) (nI (k + 1))) := by
          have := r_foldL37 hL ht ha hg0 hg hk h4 hA hp k21 f (j + g) (cnt + 1) hm (by omega) (by omega) (by omega) (by rw [hst]; simp) h64'
          rw [hst] at this
          exact this
        have b189 : ∀ w, w = fStep kd acc j x → m5_workFold_B189 148 K F k21 (m5_workFold_L37 148 K F k21 f) I J 123 (nI t) (nI g) (nI (64 * a)) (nI k) (nI cnt) w (nI j) = m5_workFold_L37 148 K F k21 f I J 123 (nI t) (nI g) (nI (64 * a)) (nI k) (nI (cnt + 1)) (fStep kd acc j x) (nI (j + g)) := by
          intro w hw
          unfold m5_workFold_B189
          simp only [xlet, nI_add]
          rw [hw, show nI cnt + (1 : Int32) = nI (cnt + 1) from nI_1 cnt]
        rw [if_neg (by rw [q1]; decide), if_pos ⟨by decide, by rw [lK130 hL], by rw [lK130 hL]; exact xinb_nI (by omega) (by decide)⟩, if_pos ⟨by decide, by rw [lK127 hL], by rw [lK127 hL]; exact x12⟩, q2]
        refine Eq.trans ?_ go
        rw [← hacc] at hc0 ⊢
        have hcz : nI cnt = 0 ↔ acc = none := by
          rw [← hc0]
          exact ⟨fun z => (nI_eq (by omega) (by decide)).mp z, fun z => by rw [z]; rfl⟩
        match kd, h4 with
        | 0, _ =>
          rw [if_neg (by decide)]
          exact b189 _ (by simp [fStep])
        | 1, _ =>
          rw [if_pos (by decide), if_neg (by decide)]
          exact b189 _ (by simp [fStep])
        | 2, _ =>
          rw [if_pos (by decide), if_pos (by decide), if_neg (by decide)]
          unfold m5_workFold_B134 m5_workFold_B141
          cases ea : acc with
          | none =>
            rw [if_pos (hcz.mpr ea)]
            rw [ea] at b189
            exact b189 _ (by simp [fStep])
          | some s =>
            rw [if_neg (fun z => by rw [hcz.mp z] at ea; cases ea)]
            rw [ea] at b189
            by_cases c : s ≤ x
            · rw [if_pos (show (some s).getD 0 ≤ x from c)]
              exact b189 _ (by simp [fStep, Int64.not_lt.mpr c])
            · rw [if_neg (show ¬ (some s).getD 0 ≤ x from c)]
              exact b189 _ (by simp [fStep, Int64.not_le.mp c])
        | 3, _ =>
          rw [if_pos (by decide), if_pos (by decide), if_pos (by decide), if_neg (by decide)]
          unfold m5_workFold_B172 m5_workFold_B179
          cases ea : acc with
          | none =>
            rw [if_pos (hcz.mpr ea)]
            rw [ea] at b189
            exact b189 _ (by simp [fStep])
          | some s =>
            rw [if_neg (fun z => by rw [hcz.mp z] at ea; cases ea)]
            rw [ea] at b189
            by_cases c : x ≤ s
            · rw [if_pos (show x ≤ (some s).getD 0 from c)]
              refine b189 _ ?_
              simp only [fStep]
              rcases Int64.lt_or_eq_of_le c with z | z
              · simp [z]
              · simp [z]
            · rw [if_neg (show ¬ x ≤ (some s).getD 0 from c)]
              refine b189 _ ?_
              have : ¬ x < s := fun z => c (Int64.le_of_lt z)
              simp [fStep, this]
        | 4, _ =>
          rw [if_pos (by decide), if_pos (by decide), if_pos (by decide), if_pos (by decide), nI_l (by omega)]
          exact b189 _ (by simp [fStep])
end
