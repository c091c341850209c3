section
variable {K : Nat → Nat × Nat} {F : Nat → Nat → Option Nat} {n : Nat} {so o1 o2 : Nat → Nat} {p q : Nat → Int64} {ρ σ S β : Nat → Nat → Option Int64} {lg td nt l : List (Nat × Nat × Option Int64 × Option Int64)} {bo : Bool} {b : List (Nat × Nat × Option Int64)} {κ : Nat → Option Int64}
theorem RRows.b01 {I : Nat → Nat → Int32} {J : Nat → Nat → Int64} {h v : Nat} (hR : RRows I J h v n ρ) {x : Nat} (hx : x < 64 * n) : I h x = 0 ∨ I h x = 1 := by
  have := hR (x / 64) (by omega) (x % 64) (by omega)
  rw [Nat.div_add_mod] at this
  rw [this.1]
  exact bi_01 _
theorem RRows.mv {I I' : Nat → Nat → Int32} {J J' : Nat → Nat → Int64} {h v h' v' : Nat} (hR : RRows I J h v n ρ) (e : ∀ x, x < 64 * n → I' h' x = I h x ∧ J' v' x = J v x) : RRows I' J' h' v' n ρ := fun t ht k hk => by
  rw [(e (64 * t + k) (by omega)).1, (e (64 * t + k) (by omega)).2]
  exact hR t ht k hk
theorem r_keepL (hL : Lay K F) (hn : n ≤ 12) : ∀ (f i : Nat) (I : Nat → Nat → Int32) (J : Nat → Nat → Int64), i ≤ 64 * n → 64 * n - i < f → I 123 0 = nI n → (∀ x, x < 64 * n → I 129 x = 0 ∨ I 129 x = 1) → ∃ I' J', m5_keepRows_L2 148 K F f I J 123 (nI i) = some (I', J') ∧ (∀ a, a ≠ 131 → I' a = I a) ∧ (∀ a, a ≠ 132 → J' a = J a) ∧ (∀ x, x < i → I' 131 x = I 131 x ∧ J' 132 x = J 132 x) ∧ ∀ x, i ≤ x → x < 64 * n → I' 131 x = I 129 x ∧ J' 132 x = J 130 x
  | 0, i, I, J, h1, h2, _, _ => absurd h2 (by omega)
  | f + 1, i, I, J, h1, h2, h0, hb => by
    rw [m5_keepRows_L2]
    simp (disch := omega) only [↓xlet, xb_some, ↓reduceIte, cl_nI, nI_64, nI_add, nI_1, kg124 hL, kg125 hL, kg126 hL, kg127 hL, kg128 hL, kg129 hL, kg130 hL, kg131 hL, kg132 hL, kg133 hL, kg134 hL, kg135 hL, kg136 hL, kg137 hL, kg138 hL, kg139 hL, kg140 hL, kg141 hL, kg142 hL, kg143 hL, kg144 hL, kg145 hL, kg146 hL, kg147 hL, kg123 hL, ↓xbs (lF123_1 hL), ↓xbs (lF123_2 hL), ↓xbs (lF123_3 hL), ↓xbs (lF123_4 hL), ↓xbs (lF123_5 hL), ↓xbs (lF123_6 hL), ↓xbs (lF123_7 hL), ↓xbs (lF123_8 hL), ↓xbs (lF123_9 hL), ↓xbs (lF123_10 hL), ↓xbs (lF123_11 hL), ↓xbs (lF123_12 hL), ↓xbs (lF123_13 hL), ↓xbs (lF123_14 hL), ↓xbs (lF123_15 hL), ↓xbs (lF123_16 hL), ↓xbs (lF123_22 hL), ↓xbs (lF123_23 hL), ↓xbs (lF123_24 hL), ↓xbs (lF123_25 hL), ↓xbs (lF123_26 hL), ↓xbs (lF123_27 hL), ↓xbs (lF123_28 hL), ↓xbs (lF123_29 hL), h0]
    by_cases e : i = 64 * n
    · rw [if_pos (nI_le (by omega) (by omega))]
      exact ⟨I, J, rfl, fun _ _ => rfl, fun _ _ => rfl, fun _ _ => ⟨rfl, rfl⟩, fun x a b => by omega⟩
    · have hi : i < 64 * n := by omega
      have hb' := eq_true (hb i hi)
      rw [if_neg (nI_ge hi (by omega))]
      simp (disch := omega) only [↓xlet, xb_some, ↓reduceIte, cl_nI, nI_64, nI_add, nI_1, kg124 hL, kg125 hL, kg126 hL, kg127 hL, kg128 hL, kg129 hL, kg130 hL, kg131 hL, kg132 hL, kg133 hL, kg134 hL, kg135 hL, kg136 hL, kg137 hL, kg138 hL, kg139 hL, kg140 hL, kg141 hL, kg142 hL, kg143 hL, kg144 hL, kg145 hL, kg146 hL, kg147 hL, kg123 hL, ↓xbs (lF123_1 hL), ↓xbs (lF123_2 hL), ↓xbs (lF123_3 hL), ↓xbs (lF123_4 hL), ↓xbs (lF123_5 hL), ↓xbs (lF123_6 hL), ↓xbs (lF123_7 hL), ↓xbs (lF123_8 hL), ↓xbs (lF123_9 hL), ↓xbs (lF123_10 hL), ↓xbs (lF123_11 hL), ↓xbs (lF123_12 hL), ↓xbs (lF123_13 hL), ↓xbs (lF123_14 hL), ↓xbs (lF123_15 hL), ↓xbs (lF123_16 hL), ↓xbs (lF123_22 hL), ↓xbs (lF123_23 hL), ↓xbs (lF123_24 hL), ↓xbs (lF123_25 hL), ↓xbs (lF123_26 hL), ↓xbs (lF123_27 hL), ↓xbs (lF123_28 hL), ↓xbs (lF123_29 hL), hb']
      obtain ⟨I1, J1, g1, g2, g3, g4, g5⟩ := r_keepL hL hn f (i + 1) (xu I 131 i (I 129 i)) (xu J 132 i (J 130 i)) (by omega) (by omega) (by rw [xu_rw (by decide)]; exact h0) (fun x hx => by rw [xu_rw (by decide)]; exact hb x hx)
      refine ⟨I1, J1, g1, fun a ha => by rw [g2 a ha, xu_rw ha], fun a ha => by rw [g3 a ha, xu_rw ha], fun x hx => by rw [(g4 x (by omega)).1, (g4 x (by omega)).2, xu3 _ _ (by omega), xu3 _ _ (by omega)]; exact ⟨rfl, rfl⟩, fun x ha hx => ?_⟩
      by_cases c : x = i
      · subst c; rw [(g4 x (by omega)).1, (g4 x (by omega)).2, xu2, xu2]; exact ⟨rfl, rfl⟩
      · rw [(g5 x (by omega) hx).1, (g5 x (by omega) hx).2, xu_rw (by decide), xu_rw (by decide)]; exact ⟨rfl, rfl⟩
theorem r_backL (hL : Lay K F) (hn : n ≤ 12) : ∀ (f i : Nat) (I : Nat → Nat → Int32) (J : Nat → Nat → Int64), i ≤ 64 * n → 64 * n - i < f → I 123 0 = nI n → (∀ x, x < 64 * n → I 131 x = 0 ∨ I 131 x = 1) → ∃ I' J', m5_tell_L19 148 K F f I J 123 (nI i) = some (-3, I', J') ∧ (∀ a, a ≠ 129 → I' a = I a) ∧ (∀ a, a ≠ 130 → J' a = J a) ∧ (∀ x, x < i → I' 129 x = I 129 x ∧ J' 130 x = J 130 x) ∧ ∀ x, i ≤ x → x < 64 * n → I' 129 x = I 131 x ∧ J' 130 x = J 132 x
  | 0, i, I, J, h1, h2, _, _ => absurd h2 (by omega)
  | f + 1, i, I, J, h1, h2, h0, hb => by
    rw [m5_tell_L19]
    simp (disch := omega) only [↓xlet, xb_some, ↓reduceIte, cl_nI, nI_64, nI_add, nI_1, kg124 hL, kg125 hL, kg126 hL, kg127 hL, kg128 hL, kg129 hL, kg130 hL, kg131 hL, kg132 hL, kg133 hL, kg134 hL, kg135 hL, kg136 hL, kg137 hL, kg138 hL, kg139 hL, kg140 hL, kg141 hL, kg142 hL, kg143 hL, kg144 hL, kg145 hL, kg146 hL, kg147 hL, kg123 hL, ↓xbs (lF123_1 hL), ↓xbs (lF123_2 hL), ↓xbs (lF123_3 hL), ↓xbs (lF123_4 hL), ↓xbs (lF123_5 hL), ↓xbs (lF123_6 hL), ↓xbs (lF123_7 hL), ↓xbs (lF123_8 hL), ↓xbs (lF123_9 hL), ↓xbs (lF123_10 hL), ↓xbs (lF123_11 hL), ↓xbs (lF123_12 hL), ↓xbs (lF123_13 hL), ↓xbs (lF123_14 hL), ↓xbs (lF123_15 hL), ↓xbs (lF123_16 hL), ↓xbs (lF123_22 hL), ↓xbs (lF123_23 hL), ↓xbs (lF123_24 hL), ↓xbs (lF123_25 hL), ↓xbs (lF123_26 hL), ↓xbs (lF123_27 hL), ↓xbs (lF123_28 hL), ↓xbs (lF123_29 hL), h0]
    by_cases e : i = 64 * n
    · rw [if_pos (nI_le (by omega) (by omega))]
      exact ⟨I, J, rfl, fun _ _ => rfl, fun _ _ => rfl, fun _ _ => ⟨rfl, rfl⟩, fun x a b => by omega⟩
    · have hi : i < 64 * n := by omega
      have hb' := eq_true (hb i hi)
      rw [if_neg (nI_ge hi (by omega))]
      simp (disch := omega) only [↓xlet, xb_some, ↓reduceIte, cl_nI, nI_64, nI_add, nI_1, kg124 hL, kg125 hL, kg126 hL, kg127 hL, kg128 hL, kg129 hL, kg130 hL, kg131 hL, kg132 hL, kg133 hL, kg134 hL, kg135 hL, kg136 hL, kg137 hL, kg138 hL, kg139 hL, kg140 hL, kg141 hL, kg142 hL, kg143 hL, kg144 hL, kg145 hL, kg146 hL, kg147 hL, kg123 hL, ↓xbs (lF123_1 hL), ↓xbs (lF123_2 hL), ↓xbs (lF123_3 hL), ↓xbs (lF123_4 hL), ↓xbs (lF123_5 hL), ↓xbs (lF123_6 hL), ↓xbs (lF123_7 hL), ↓xbs (lF123_8 hL), ↓xbs (lF123_9 hL), ↓xbs (lF123_10 hL), ↓xbs (lF123_11 hL), ↓xbs (lF123_12 hL), ↓xbs (lF123_13 hL), ↓xbs (lF123_14 hL), ↓xbs (lF123_15 hL), ↓xbs (lF123_16 hL), ↓xbs (lF123_22 hL), ↓xbs (lF123_23 hL), ↓xbs (lF123_24 hL), ↓xbs (lF123_25 hL), ↓xbs (lF123_26 hL), ↓xbs (lF123_27 hL), ↓xbs (lF123_28 hL), ↓xbs (lF123_29 hL), hb']
      obtain ⟨I1, J1, g1, g2, g3, g4, g5⟩ := r_backL hL hn f (i + 1) (xu I 129 i (I 131 i)) (xu J 130 i (J 132 i)) (by omega) (by omega) (by rw [xu_rw (by decide)]; exact h0) (fun x hx => by rw [xu_rw (by decide)]; exact hb x hx)
      refine ⟨I1, J1, g1, fun a ha => by rw [g2 a ha, xu_rw ha], fun a ha => by rw [g3 a ha, xu_rw ha], fun x hx => by rw [(g4 x (by omega)).1, (g4 x (by omega)).2, xu3 _ _ (by omega), xu3 _ _ (by omega)]; exact ⟨rfl, rfl⟩, fun x ha hx => ?_⟩
      by_cases c : x = i
      · subst c; rw [(g4 x (by omega)).1, (g4 x (by omega)).2, xu2, xu2]; exact ⟨rfl, rfl⟩
      · rw [(g5 x (by omega) hx).1, (g5 x (by omega) hx).2, xu_rw (by decide), xu_rw (by decide)]; exact ⟨rfl, rfl⟩
theorem r_forgetL (hL : Lay K F) (hn : n ≤ 12) (v : Int32) : ∀ (f i : Nat) (I : Nat → Nat → Int32) (J : Nat → Nat → Int64), i ≤ 64 * n → 64 * n - i < f → I 123 0 = nI n → (∀ x, x < 64 * n → I 129 x = 0 ∨ I 129 x = 1) → ∃ I' J', m5_forget_L12 148 K F f I J 123 v (nI i) = some (v, I', J') ∧ (∀ a, a ≠ 133 → I' a = I a) ∧ (∀ a, a ≠ 134 → J' a = J a) ∧ (∀ x, x < i → I' 133 x = I 133 x ∧ J' 134 x = J 134 x) ∧ ∀ x, i ≤ x → x < 64 * n → I' 133 x = I 129 x ∧ J' 134 x = J 130 x
  | 0, i, I, J, h1, h2, _, _ => absurd h2 (by omega)
  | f + 1, i, I, J, h1, h2, h0, hb => by
    rw [m5_forget_L12]
    simp (disch := omega) only [↓xlet, xb_some, ↓reduceIte, cl_nI, nI_64, nI_add, nI_1, kg124 hL, kg125 hL, kg126 hL, kg127 hL, kg128 hL, kg129 hL, kg130 hL, kg131 hL, kg132 hL, kg133 hL, kg134 hL, kg135 hL, kg136 hL, kg137 hL, kg138 hL, kg139 hL, kg140 hL, kg141 hL, kg142 hL, kg143 hL, kg144 hL, kg145 hL, kg146 hL, kg147 hL, kg123 hL, ↓xbs (lF123_1 hL), ↓xbs (lF123_2 hL), ↓xbs (lF123_3 hL), ↓xbs (lF123_4 hL), ↓xbs (lF123_5 hL), ↓xbs (lF123_6 hL), ↓xbs (lF123_7 hL), ↓xbs (lF123_8 hL), ↓xbs (lF123_9 hL), ↓xbs (lF123_10 hL), ↓xbs (lF123_11 hL), ↓xbs (lF123_12 hL), ↓xbs (lF123_13 hL), ↓xbs (lF123_14 hL), ↓xbs (lF123_15 hL), ↓xbs (lF123_16 hL), ↓xbs (lF123_22 hL), ↓xbs (lF123_23 hL), ↓xbs (lF123_24 hL), ↓xbs (lF123_25 hL), ↓xbs (lF123_26 hL), ↓xbs (lF123_27 hL), ↓xbs (lF123_28 hL), ↓xbs (lF123_29 hL), h0]
    by_cases e : i = 64 * n
    · rw [if_pos (nI_le (by omega) (by omega))]
      exact ⟨I, J, rfl, fun _ _ => rfl, fun _ _ => rfl, fun _ _ => ⟨rfl, rfl⟩, fun x a b => by omega⟩
    · have hi : i < 64 * n := by omega
      have hb' := eq_true (hb i hi)
      rw [if_neg (nI_ge hi (by omega))]
      simp (disch := omega) only [↓xlet, xb_some, ↓reduceIte, cl_nI, nI_64, nI_add, nI_1, kg124 hL, kg125 hL, kg126 hL, kg127 hL, kg128 hL, kg129 hL, kg130 hL, kg131 hL, kg132 hL, kg133 hL, kg134 hL, kg135 hL, kg136 hL, kg137 hL, kg138 hL, kg139 hL, kg140 hL, kg141 hL, kg142 hL, kg143 hL, kg144 hL, kg145 hL, kg146 hL, kg147 hL, kg123 hL, ↓xbs (lF123_1 hL), ↓xbs (lF123_2 hL), ↓xbs (lF123_3 hL), ↓xbs (lF123_4 hL), ↓xbs (lF123_5 hL), ↓xbs (lF123_6 hL), ↓xbs (lF123_7 hL), ↓xbs (lF123_8 hL), ↓xbs (lF123_9 hL), ↓xbs (lF123_10 hL), ↓xbs (lF123_11 hL), ↓xbs (lF123_12 hL), ↓xbs (lF123_13 hL), ↓xbs (lF123_14 hL), ↓xbs (lF123_15 hL), ↓xbs (lF123_16 hL), ↓xbs (lF123_22 hL), ↓xbs (lF123_23 hL), ↓xbs (lF123_24 hL), ↓xbs (lF123_25 hL), ↓xbs (lF123_26 hL), ↓xbs (lF123_27 hL), ↓xbs (lF123_28 hL), ↓xbs (lF123_29 hL), hb']
      obtain ⟨I1, J1, g1, g2, g3, g4, g5⟩ := r_forgetL hL hn v f (i + 1) (xu I 133 i (I 129 i)) (xu J 134 i (J 130 i)) (by omega) (by omega) (by rw [xu_rw (by decide)]; exact h0) (fun x hx => by rw [xu_rw (by decide)]; exact hb x hx)
      refine ⟨I1, J1, g1, fun a ha => by rw [g2 a ha, xu_rw ha], fun a ha => by rw [g3 a ha, xu_rw ha], fun x hx => by rw [(g4 x (by omega)).1, (g4 x (by omega)).2, xu3 _ _ (by omega), xu3 _ _ (by omega)]; exact ⟨rfl, rfl⟩, fun x ha hx => ?_⟩
      by_cases c : x = i
      · subst c; rw [(g4 x (by omega)).1, (g4 x (by omega)).2, xu2, xu2]; exact ⟨rfl, rfl⟩
      · rw [(g5 x (by omega) hx).1, (g5 x (by omega) hx).2, xu_rw (by decide), xu_rw (by decide)]; exact ⟨rfl, rfl⟩
theorem r_keep (hL : Lay K F) (hn : n ≤ 12) {I : Nat → Nat → Int32} {J : Nat → Nat → Int64} (h0 : I 123 0 = nI n) (hR : RRows I J 129 130 n ρ) : ∃ I' J', m5_keepRows 148 K F I J 123 = some (I', J') ∧ (∀ a, a ≠ 131 → I' a = I a) ∧ (∀ a, a ≠ 132 → J' a = J a) ∧ RRows I' J' 131 132 n ρ := by
  obtain ⟨I1, J1, g1, g2, g3, _, g5⟩ := r_keepL hL hn xFu 0 I J (by omega) (by unfold xFu; omega) h0 (fun x hx => hR.b01 hx)
  exact ⟨I1, J1, g1, g2, g3, hR.mv (fun x hx => g5 x (by omega) hx)⟩
theorem r_setOr (hL : Lay K F) (hn : n ≤ 12) {I : Nat → Nat → Int32} {J : Nat → Nat → Int64} (hR : RRows I J 129 130 n ρ) {t k : Nat} (ht : t < n) (hk : k < 64) (v : Option Int64) : ∃ I' J', m5_setOrClear 148 K F I J 123 (nI (64 * t + k)) (bi v.isSome) (v.getD 0) = some (I', J') ∧ FrB I I' J J' t ∧ RRows I' J' 129 130 n (fset ρ t (rset (ρ t) k v)) := by
  have h12 : t < 12 := by omega
  have fin : ∀ I' J', FrB I I' J J' t → RB I' J' t (rset (ρ t) k v) → RRows I' J' 129 130 n (fset ρ t (rset (ρ t) k v)) := fun I' J' f hB x hx => by
    by_cases c : x = t
    · subst c; rw [fs_n]; exact hB
    · rw [fs_o c]; exact f.rb c (fun k hk => hR x hx k hk)
  unfold m5_setOrClear
  cases v with
  | none =>
    obtain ⟨I1, J1, e1, e2, e3⟩ := r_clearB hL h12 hk (fun k hk => hR t ht k hk)
    rw [if_pos (by decide)]
    simp (disch := omega) only [↓xlet, xb_some, ↓reduceIte, cl_nI, nI_64, nI_add, nI_1, kg124 hL, kg125 hL, kg126 hL, kg127 hL, kg128 hL, kg129 hL, kg130 hL, kg131 hL, kg132 hL, kg133 hL, kg134 hL, kg135 hL, kg136 hL, kg137 hL, kg138 hL, kg139 hL, kg140 hL, kg141 hL, kg142 hL, kg143 hL, kg144 hL, kg145 hL, kg146 hL, kg147 hL, kg123 hL, ↓xbs (lF123_1 hL), ↓xbs (lF123_2 hL), ↓xbs (lF123_3 hL), ↓xbs (lF123_4 hL), ↓xbs (lF123_5 hL), ↓xbs (lF123_6 hL), ↓xbs (lF123_7 hL), ↓xbs (lF123_8 hL), ↓xbs (lF123_9 hL), ↓xbs (lF123_10 hL), ↓xbs (lF123_11 hL), ↓xbs (lF123_12 hL), ↓xbs (lF123_13 hL), ↓xbs (lF123_14 hL), ↓xbs (lF123_15 hL), ↓xbs (lF123_16 hL), ↓xbs (lF123_22 hL), ↓xbs (lF123_23 hL), ↓xbs (lF123_24 hL), ↓xbs (lF123_25 hL), ↓xbs (lF123_26 hL), ↓xbs (lF123_27 hL), ↓xbs (lF123_28 hL), ↓xbs (lF123_29 hL), ↓xbs e1]
    exact ⟨I1, J1, rfl, e2, fin _ _ e2 e3⟩
  | some w =>
    obtain ⟨I1, J1, e1, e2, e3⟩ := r_set hL h12 hk (fun k hk => hR t ht k hk) w
    rw [if_neg (by simp [bi])]
    simp (disch := omega) only [↓xlet, xb_some, ↓reduceIte, cl_nI, nI_64, nI_add, nI_1, kg124 hL, kg125 hL, kg126 hL, kg127 hL, kg128 hL, kg129 hL, kg130 hL, kg131 hL, kg132 hL, kg133 hL, kg134 hL, kg135 hL, kg136 hL, kg137 hL, kg138 hL, kg139 hL, kg140 hL, kg141 hL, kg142 hL, kg143 hL, kg144 hL, kg145 hL, kg146 hL, kg147 hL, kg123 hL, ↓xbs (lF123_1 hL), ↓xbs (lF123_2 hL), ↓xbs (lF123_3 hL), ↓xbs (lF123_4 hL), ↓xbs (lF123_5 hL), ↓xbs (lF123_6 hL), ↓xbs (lF123_7 hL), ↓xbs (lF123_8 hL), ↓xbs (lF123_9 hL), ↓xbs (lF123_10 hL), ↓xbs (lF123_11 hL), ↓xbs (lF123_12 hL), ↓xbs (lF123_13 hL), ↓xbs (lF123_14 hL), ↓xbs (lF123_15 hL), ↓xbs (lF123_16 hL), ↓xbs (lF123_22 hL), ↓xbs (lF123_23 hL), ↓xbs (lF123_24 hL), ↓xbs (lF123_25 hL), ↓xbs (lF123_26 hL), ↓xbs (lF123_27 hL), ↓xbs (lF123_28 hL), ↓xbs (lF123_29 hL)]
    have e1 : m5_setRow 148 K F I J 123 (nI (64 * t + k)) ((some w).getD 0) = some (I1, J1) := e1
    simp (disch := omega) only [↓xlet, xb_some, ↓reduceIte, cl_nI, nI_64, nI_add, nI_1, kg124 hL, kg125 hL, kg126 hL, kg127 hL, kg128 hL, kg129 hL, kg130 hL, kg131 hL, kg132 hL, kg133 hL, kg134 hL, kg135 hL, kg136 hL, kg137 hL, kg138 hL, kg139 hL, kg140 hL, kg141 hL, kg142 hL, kg143 hL, kg144 hL, kg145 hL, kg146 hL, kg147 hL, kg123 hL, ↓xbs (lF123_1 hL), ↓xbs (lF123_2 hL), ↓xbs (lF123_3 hL), ↓xbs (lF123_4 hL), ↓xbs (lF123_5 hL), ↓xbs (lF123_6 hL), ↓xbs (lF123_7 hL), ↓xbs (lF123_8 hL), ↓xbs (lF123_9 hL), ↓xbs (lF123_10 hL), ↓xbs (lF123_11 hL), ↓xbs (lF123_12 hL), ↓xbs (lF123_13 hL), ↓xbs (lF123_14 hL), ↓xbs (lF123_15 hL), ↓xbs (lF123_16 hL), ↓xbs (lF123_22 hL), ↓xbs (lF123_23 hL), ↓xbs (lF123_24 hL), ↓xbs (lF123_25 hL), ↓xbs (lF123_26 hL), ↓xbs (lF123_27 hL), ↓xbs (lF123_28 hL), ↓xbs (lF123_29 hL), ↓xbs e1]
    exact ⟨I1, J1, rfl, e2, fin _ _ e2 e3⟩
theorem r_isOther (hL : Lay K F) (hn : n ≤ 12) {I : Nat → Nat → Int32} {J : Nat → Nat → Int64} (hO : RRows I J 131 132 n ρ) (hR : RRows I J 129 130 n S) {t k : Nat} (ht : t < n) (hk : k < 64) : m5_isOther 148 K F I J 123 (nI (64 * t + k)) = some (bi (decide (ρ t k ≠ S t k))) := by
  obtain ⟨a1, a2⟩ := hO t ht k hk
  obtain ⟨c1, c2⟩ := hR t ht k hk
  unfold m5_isOther
  simp (disch := omega) only [↓xlet, xb_some, ↓reduceIte, cl_nI, nI_64, nI_add, nI_1, kg124 hL, kg125 hL, kg126 hL, kg127 hL, kg128 hL, kg129 hL, kg130 hL, kg131 hL, kg132 hL, kg133 hL, kg134 hL, kg135 hL, kg136 hL, kg137 hL, kg138 hL, kg139 hL, kg140 hL, kg141 hL, kg142 hL, kg143 hL, kg144 hL, kg145 hL, kg146 hL, kg147 hL, kg123 hL, ↓xbs (lF123_1 hL), ↓xbs (lF123_2 hL), ↓xbs (lF123_3 hL), ↓xbs (lF123_4 hL), ↓xbs (lF123_5 hL), ↓xbs (lF123_6 hL), ↓xbs (lF123_7 hL), ↓xbs (lF123_8 hL), ↓xbs (lF123_9 hL), ↓xbs (lF123_10 hL), ↓xbs (lF123_11 hL), ↓xbs (lF123_12 hL), ↓xbs (lF123_13 hL), ↓xbs (lF123_14 hL), ↓xbs (lF123_15 hL), ↓xbs (lF123_16 hL), ↓xbs (lF123_22 hL), ↓xbs (lF123_23 hL), ↓xbs (lF123_24 hL), ↓xbs (lF123_25 hL), ↓xbs (lF123_26 hL), ↓xbs (lF123_27 hL), ↓xbs (lF123_28 hL), ↓xbs (lF123_29 hL), a1, a2, c1, c2]
  cases e1 : ρ t k with
  | none =>
    cases e2 : S t k with
    | none => simp [bi]
    | some w => simp [bi]
  | some v =>
    cases e2 : S t k with
    | none => simp [bi]
    | some w =>
      by_cases c : v = w
      · simp [bi, c]
      · simp [bi, c]
/-- all steps up to place i, table by table -/
def fl (ρ S : Nat → Nat → Option Int64) (i : Nat) : List (Nat × Nat × Option Int64 × Option Int64) := stT ρ S (i / 64) ++ stK (i / 64) (ρ (i / 64)) (S (i / 64)) (i % 64)
theorem fl_s (ρ S : Nat → Nat → Option Int64) (i : Nat) : fl ρ S (i + 1) = fl ρ S i ++ stp (i / 64) (i % 64) (ρ (i / 64) (i % 64)) (S (i / 64) (i % 64)) := by
  unfold fl
  by_cases c : i % 64 = 63
  · rw [show (i + 1) / 64 = i / 64 + 1 by omega, show (i + 1) % 64 = 0 by omega, stT, stK, List.append_nil, List.append_assoc, c]
    rfl
  · rw [show (i + 1) / 64 = i / 64 by omega, show (i + 1) % 64 = i % 64 + 1 by omega, stK, List.append_assoc]
theorem fl_n (ρ S : Nat → Nat → Option Int64) (n : Nat) : fl ρ S (64 * n) = stT ρ S n := by
  unfold fl
  rw [show 64 * n / 64 = n by omega, show 64 * n % 64 = 0 by omega, stK, List.append_nil]
theorem fl_len (ρ S : Nat → Nat → Option Int64) (i : Nat) : (fl ρ S i).length ≤ i := by
  have h1 := stT_len ρ S (i / 64)
  have h2 := stK_len (i / 64) (ρ (i / 64)) (S (i / 64)) (i % 64)
  unfold fl
  rw [List.length_append]
  omega
theorem fl_mono (ρ S : Nat → Nat → Option Int64) (i : Nat) : ∀ d, (fl ρ S i).length ≤ (fl ρ S (i + d)).length
  | 0 => Nat.le_refl _
  | d + 1 => by
    have := fl_mono ρ S i d
    rw [← Nat.add_assoc, fl_s, List.length_append]
    omega
theorem r_folL34 (hL : Lay K F) (hn : n ≤ 12) {I : Nat → Nat → Int32} {J : Nat → Nat → Int64} (h0 : I 123 0 = nI n) (hO : RRows I J 131 132 n ρ) (hR : RRows I J 129 130 n S) : ∀ (f i : Nat), i ≤ 64 * n → 64 * n - i < f → m5_follow_L34 148 K F f I J 123 (nI (fl ρ S i).length) (nI i) = some (nI (stT ρ S n).length, I, J)
  | 0, i, h1, h2 => absurd h2 (by omega)
  | f + 1, i, h1, h2 => by
    rw [m5_follow_L34]
    simp (disch := omega) only [↓xlet, xb_some, ↓reduceIte, cl_nI, nI_64, nI_add, nI_1, kg124 hL, kg125 hL, kg126 hL, kg127 hL, kg128 hL, kg129 hL, kg130 hL, kg131 hL, kg132 hL, kg133 hL, kg134 hL, kg135 hL, kg136 hL, kg137 hL, kg138 hL, kg139 hL, kg140 hL, kg141 hL, kg142 hL, kg143 hL, kg144 hL, kg145 hL, kg146 hL, kg147 hL, kg123 hL, ↓xbs (lF123_1 hL), ↓xbs (lF123_2 hL), ↓xbs (lF123_3 hL), ↓xbs (lF123_4 hL), ↓xbs (lF123_5 hL), ↓xbs (lF123_6 hL), ↓xbs (lF123_7 hL), ↓xbs (lF123_8 hL), ↓xbs (lF123_9 hL), ↓xbs (lF123_10 hL), ↓xbs (lF123_11 hL), ↓xbs (lF123_12 hL), ↓xbs (lF123_13 hL), ↓xbs (lF123_14 hL), ↓xbs (lF123_15 hL), ↓xbs (lF123_16 hL), ↓xbs (lF123_22 hL), ↓xbs (lF123_23 hL), ↓xbs (lF123_24 hL), ↓xbs (lF123_25 hL), ↓xbs (lF123_26 hL), ↓xbs (lF123_27 hL), ↓xbs (lF123_28 hL), ↓xbs (lF123_29 hL), h0]
    by_cases e : i = 64 * n
    · rw [if_pos (nI_le (by omega) (by omega)), e, fl_n]
    · have hi : i < 64 * n := by omega
      have io := r_isOther hL hn hO hR (show i / 64 < n by omega) (show i % 64 < 64 by omega)
      rw [Nat.div_add_mod] at io
      rw [if_neg (nI_ge hi (by omega))]
      simp (disch := omega) only [↓xlet, xb_some, ↓reduceIte, cl_nI, nI_64, nI_add, nI_1, kg124 hL, kg125 hL, kg126 hL, kg127 hL, kg128 hL, kg129 hL, kg130 hL, kg131 hL, kg132 hL, kg133 hL, kg134 hL, kg135 hL, kg136 hL, kg137 hL, kg138 hL, kg139 hL, kg140 hL, kg141 hL, kg142 hL, kg143 hL, kg144 hL, kg145 hL, kg146 hL, kg147 hL, kg123 hL, ↓xbs (lF123_1 hL), ↓xbs (lF123_2 hL), ↓xbs (lF123_3 hL), ↓xbs (lF123_4 hL), ↓xbs (lF123_5 hL), ↓xbs (lF123_6 hL), ↓xbs (lF123_7 hL), ↓xbs (lF123_8 hL), ↓xbs (lF123_9 hL), ↓xbs (lF123_10 hL), ↓xbs (lF123_11 hL), ↓xbs (lF123_12 hL), ↓xbs (lF123_13 hL), ↓xbs (lF123_14 hL), ↓xbs (lF123_15 hL), ↓xbs (lF123_16 hL), ↓xbs (lF123_22 hL), ↓xbs (lF123_23 hL), ↓xbs (lF123_24 hL), ↓xbs (lF123_25 hL), ↓xbs (lF123_26 hL), ↓xbs (lF123_27 hL), ↓xbs (lF123_28 hL), ↓xbs (lF123_29 hL), ↓xbs io, bi_z]
      have go := r_folL34 hL hn h0 hO hR f (i + 1) (by omega) (by omega)
      rw [fl_s, List.length_append, stp_len] at go
      by_cases c : ρ (i / 64) (i % 64) = S (i / 64) (i % 64)
      · rw [if_neg (x_nn c)] at go
        rw [if_pos (by simpa using c), Int32.add_zero]
        exact go
      · rw [if_pos c] at go
        rw [if_neg (by simpa using c)]
        exact go
theorem r_folL2 (hL : Lay K F) (hS : Shp n so o1 o2 p q) (hG : Sg n so o1 o2 p q σ S) : ∀ (f t : Nat) (I : Nat → Nat → Int32) (J : Nat → Nat → Int64), t ≤ n → n - t < f → RDef I J n so o1 o2 p q → RRows I J 131 132 n ρ → (∀ x, x < t → RB I J x (S x)) → (∀ x, t ≤ x → x < n → RB I J x (σ x)) → ∃ I' J', m5_follow_L2 148 K F f I J 123 (nI t) = some (nI (stT ρ S n).length, I', J') ∧ (∀ a, a ≠ 129 → I' a = I a) ∧ (∀ a, a ≠ 130 → J' a = J a) ∧ RRows I' J' 129 130 n S
  | 0, t, I, J, h1, h2, _, _, _, _ => absurd h2 (by omega)
  | f + 1, t, I, J, h1, h2, hD, hO, hx, hy => by
    have hn := hS.1
    rw [m5_follow_L2]
    simp (disch := omega) only [↓xlet, xb_some, ↓reduceIte, cl_nI, nI_64, nI_add, nI_1, kg124 hL, kg125 hL, kg126 hL, kg127 hL, kg128 hL, kg129 hL, kg130 hL, kg131 hL, kg132 hL, kg133 hL, kg134 hL, kg135 hL, kg136 hL, kg137 hL, kg138 hL, kg139 hL, kg140 hL, kg141 hL, kg142 hL, kg143 hL, kg144 hL, kg145 hL, kg146 hL, kg147 hL, kg123 hL, ↓xbs (lF123_1 hL), ↓xbs (lF123_2 hL), ↓xbs (lF123_3 hL), ↓xbs (lF123_4 hL), ↓xbs (lF123_5 hL), ↓xbs (lF123_6 hL), ↓xbs (lF123_7 hL), ↓xbs (lF123_8 hL), ↓xbs (lF123_9 hL), ↓xbs (lF123_10 hL), ↓xbs (lF123_11 hL), ↓xbs (lF123_12 hL), ↓xbs (lF123_13 hL), ↓xbs (lF123_14 hL), ↓xbs (lF123_15 hL), ↓xbs (lF123_16 hL), ↓xbs (lF123_22 hL), ↓xbs (lF123_23 hL), ↓xbs (lF123_24 hL), ↓xbs (lF123_25 hL), ↓xbs (lF123_26 hL), ↓xbs (lF123_27 hL), ↓xbs (lF123_28 hL), ↓xbs (lF123_29 hL), hD.1]
    by_cases e : t = n
    · subst e
      rw [if_pos (nI_le (Nat.le_refl t) (by omega))]
      exact ⟨I, J, r_folL34 hL hn hD.1 hO (fun x h => hx x h) xFu 0 (by omega) (by unfold xFu; omega), fun _ _ => rfl, fun _ _ => rfl, fun x h => hx x h⟩
    · have htn : t < n := by omega
      obtain ⟨c0, c1, c2, c3, c4, _, _⟩ := hD.2 t htn
      obtain ⟨hp, hlt⟩ := hS.2 t htn
      have s7 := hp.1
      rw [if_neg (nI_ge htn (by omega))]
      simp (disch := omega) only [↓xlet, xb_some, ↓reduceIte, cl_nI, nI_64, nI_add, nI_1, kg124 hL, kg125 hL, kg126 hL, kg127 hL, kg128 hL, kg129 hL, kg130 hL, kg131 hL, kg132 hL, kg133 hL, kg134 hL, kg135 hL, kg136 hL, kg137 hL, kg138 hL, kg139 hL, kg140 hL, kg141 hL, kg142 hL, kg143 hL, kg144 hL, kg145 hL, kg146 hL, kg147 hL, kg123 hL, ↓xbs (lF123_1 hL), ↓xbs (lF123_2 hL), ↓xbs (lF123_3 hL), ↓xbs (lF123_4 hL), ↓xbs (lF123_5 hL), ↓xbs (lF123_6 hL), ↓xbs (lF123_7 hL), ↓xbs (lF123_8 hL), ↓xbs (lF123_9 hL), ↓xbs (lF123_10 hL), ↓xbs (lF123_11 hL), ↓xbs (lF123_12 hL), ↓xbs (lF123_13 hL), ↓xbs (lF123_14 hL), ↓xbs (lF123_15 hL), ↓xbs (lF123_16 hL), ↓xbs (lF123_22 hL), ↓xbs (lF123_23 hL), ↓xbs (lF123_24 hL), ↓xbs (lF123_25 hL), ↓xbs (lF123_26 hL), ↓xbs (lF123_27 hL), ↓xbs (lF123_28 hL), ↓xbs (lF123_29 hL), c0]
      by_cases z : so t = 0
      · rw [if_pos (by rw [z]; decide)]
        exact r_folL2 hL hS hG f (t + 1) I J (by omega) (by omega) hD hO (fun x hxt => by
          by_cases c : x = t
          · subst c; rw [(hG x htn).1 z]; exact hy x (Nat.le_refl x) htn
          · exact hx x (by omega)) (fun x hxt => hy x (by omega))
      · obtain ⟨l1, l2⟩ := hlt z
        rw [if_neg (nI_nle (by omega) (by omega))]
        obtain ⟨I1, J1, e1, e2, e3⟩ := r_work (ρ := S (o1 t)) (ρ' := S (o2 t)) hL (by omega) (by omega) (by omega) (by omega) (by omega) hp z ⟨c0, c1, c2, c3, c4, hx _ l1, hx _ l2⟩
        simp (disch := omega) only [↓xlet, xb_some, ↓reduceIte, cl_nI, nI_64, nI_add, nI_1, kg124 hL, kg125 hL, kg126 hL, kg127 hL, kg128 hL, kg129 hL, kg130 hL, kg131 hL, kg132 hL, kg133 hL, kg134 hL, kg135 hL, kg136 hL, kg137 hL, kg138 hL, kg139 hL, kg140 hL, kg141 hL, kg142 hL, kg143 hL, kg144 hL, kg145 hL, kg146 hL, kg147 hL, kg123 hL, ↓xbs (lF123_1 hL), ↓xbs (lF123_2 hL), ↓xbs (lF123_3 hL), ↓xbs (lF123_4 hL), ↓xbs (lF123_5 hL), ↓xbs (lF123_6 hL), ↓xbs (lF123_7 hL), ↓xbs (lF123_8 hL), ↓xbs (lF123_9 hL), ↓xbs (lF123_10 hL), ↓xbs (lF123_11 hL), ↓xbs (lF123_12 hL), ↓xbs (lF123_13 hL), ↓xbs (lF123_14 hL), ↓xbs (lF123_15 hL), ↓xbs (lF123_16 hL), ↓xbs (lF123_22 hL), ↓xbs (lF123_23 hL), ↓xbs (lF123_24 hL), ↓xbs (lF123_25 hL), ↓xbs (lF123_26 hL), ↓xbs (lF123_27 hL), ↓xbs (lF123_28 hL), ↓xbs (lF123_29 hL), ↓xbs e1]
        obtain ⟨I2, J2, g1, g2, g3, g4⟩ := r_folL2 hL hS hG f (t + 1) I1 J1 (by omega) (by omega) (hD.fr (by rw [e2.1 123 (by decide)]) (e2.1 _ (by decide)) (e2.1 _ (by decide)) (e2.1 _ (by decide)) (e2.2.1 _ (by decide)) (e2.2.1 _ (by decide))) (hO.fr (e2.1 _ (by decide)) (e2.2.1 _ (by decide))) (fun x hxt => by
          by_cases c : x = t
          · subst c; rw [(hG x htn).2 z]; exact e3
          · exact e2.rb c (hx x (by omega))) (fun x hxt hxn => e2.rb (by omega) (hy x (by omega) hxn))
        exact ⟨I2, J2, g1, fun a ha => by rw [g2 a ha, e2.1 a ha], fun a ha => by rw [g3 a ha, e2.2.1 a ha], g4⟩
end
