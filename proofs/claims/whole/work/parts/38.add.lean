section
variable {K : Nat → Nat × Nat} {F : Nat → Nat → Option Nat} {I I' : Nat → Nat → Int32} {J J' : Nat → Nat → Int64} {n : Nat} {so o1 o2 : Nat → Nat} {p q : Nat → Int64} {ρ β : Nat → Nat → Option Int64} {bo bo' : Bool} {b b' : List (Nat × Nat × Option Int64)} {lg td nt l : List (Nat × Nat × Option Int64 × Option Int64)} {κ : Nat → Option Int64}
theorem r_addL83 (hL : Lay K F) {s a c : Nat} {p1 p2 : Int64} {σ σ' : Nat → Option Int64} (hn : n < 12) (hp : pOk s p1 p2) (hac : s ≠ 0 → a < n ∧ c < n) : ∀ (f k : Nat) (I : Nat → Nat → Int32) (J : Nat → Nat → Int64), k ≤ 64 → 64 - k < f → (s ≠ 0 → WC I J n s a c p1 p2 σ σ') → (∀ i, i < k → I 129 (64 * n + i) = 0 ∧ J 130 (64 * n + i) = 0) → ∃ I1 J1, m5_add_L83 148 K F f I J 123 (nI s) (nI n) (nI k) = m5_add_L121 148 K F xFu I1 J1 123 (nI n) 0 ∧ FrB I I1 J J1 n ∧ RB I1 J1 n (dTab s p1 p2 σ σ')
  | 0, k, I, J, h1, h2, _, _ => absurd h2 (by omega)
  | f + 1, k, I, J, h1, h2, hW, hB => by
    rw [m5_add_L83]
    by_cases e : k = 64
    · subst e
      rw [if_pos (by decide)]
      by_cases z : s = 0
      · subst z
        rw [if_pos (by decide)]
        exact ⟨I, J, rfl, FrB.self, fun i hi => hB i hi⟩
      · obtain ⟨z1, z2⟩ := hac z
        have s7 := hp.1
        rw [if_neg (nI_nle (by omega) (by omega))]
        obtain ⟨I1, J1, e1, e2, e3⟩ := r_work hL hn (by omega) (by omega) (by omega) (by omega) hp z (hW z)
        simp (disch := omega) only [↓xlet, xb_some, ↓reduceIte, cl_nI, nI_64, nI_add, nI_1, kg124 hL, kg125 hL, kg126 hL, kg127 hL, kg128 hL, kg129 hL, kg130 hL, kg131 hL, kg132 hL, kg133 hL, kg134 hL, kg135 hL, kg136 hL, kg137 hL, kg138 hL, kg139 hL, kg140 hL, kg141 hL, kg142 hL, kg143 hL, kg144 hL, kg145 hL, kg146 hL, kg147 hL, kg123 hL, ↓xbs (lF123_1 hL), ↓xbs (lF123_2 hL), ↓xbs (lF123_3 hL), ↓xbs (lF123_4 hL), ↓xbs (lF123_5 hL), ↓xbs (lF123_6 hL), ↓xbs (lF123_7 hL), ↓xbs (lF123_8 hL), ↓xbs (lF123_9 hL), ↓xbs (lF123_10 hL), ↓xbs (lF123_11 hL), ↓xbs (lF123_12 hL), ↓xbs (lF123_13 hL), ↓xbs (lF123_14 hL), ↓xbs (lF123_15 hL), ↓xbs (lF123_16 hL), ↓xbs (lF123_22 hL), ↓xbs (lF123_23 hL), ↓xbs (lF123_24 hL), ↓xbs (lF123_25 hL), ↓xbs (lF123_26 hL), ↓xbs (lF123_27 hL), ↓xbs (lF123_28 hL), ↓xbs (lF123_29 hL), ↓xbs e1]
        exact ⟨I1, J1, rfl, e2, e3⟩
    · have h64 : k < 64 := by omega
      rw [if_neg (n64 h64)]
      obtain ⟨I1, J1, e1, e2, e3, e4, e5⟩ := r_clear (I := I) (J := J) hL hn h64
      simp (disch := omega) only [↓xlet, xb_some, ↓reduceIte, cl_nI, nI_64, nI_add, nI_1, kg124 hL, kg125 hL, kg126 hL, kg127 hL, kg128 hL, kg129 hL, kg130 hL, kg131 hL, kg132 hL, kg133 hL, kg134 hL, kg135 hL, kg136 hL, kg137 hL, kg138 hL, kg139 hL, kg140 hL, kg141 hL, kg142 hL, kg143 hL, kg144 hL, kg145 hL, kg146 hL, kg147 hL, kg123 hL, ↓xbs (lF123_1 hL), ↓xbs (lF123_2 hL), ↓xbs (lF123_3 hL), ↓xbs (lF123_4 hL), ↓xbs (lF123_5 hL), ↓xbs (lF123_6 hL), ↓xbs (lF123_7 hL), ↓xbs (lF123_8 hL), ↓xbs (lF123_9 hL), ↓xbs (lF123_10 hL), ↓xbs (lF123_11 hL), ↓xbs (lF123_12 hL), ↓xbs (lF123_13 hL), ↓xbs (lF123_14 hL), ↓xbs (lF123_15 hL), ↓xbs (lF123_16 hL), ↓xbs (lF123_22 hL), ↓xbs (lF123_23 hL), ↓xbs (lF123_24 hL), ↓xbs (lF123_25 hL), ↓xbs (lF123_26 hL), ↓xbs (lF123_27 hL), ↓xbs (lF123_28 hL), ↓xbs (lF123_29 hL), e1]
      obtain ⟨I2, J2, g1, g2, g3⟩ := r_addL83 hL hn hp hac f (k + 1) I1 J1 (by omega) (by omega) (fun z => (hW z).fr e2 (by have := hac z; omega) (by have := hac z; omega)) (fun i hi => by
        by_cases c : i = k
        · subst c; exact ⟨e3, e4⟩
        · rw [(e5 i c).1, (e5 i c).2]; exact hB i (by omega))
      exact ⟨I2, J2, g1, e2.trans g2, g3⟩
theorem r_addL121 (hL : Lay K F) {σ : Nat → Option Int64} (hn : n < 12) : ∀ (f k : Nat) (I : Nat → Nat → Int32) (J : Nat → Nat → Int64), k ≤ 64 → 64 - k < f → RB I J n σ → ∃ I1 J1, m5_add_L121 148 K F f I J 123 (nI n) (nI k) = some (nI n, I1, J1) ∧ (∀ x, x ≠ 133 → I1 x = I x) ∧ (∀ x, x ≠ 134 → J1 x = J x) ∧ (∀ x, x < 64 * n + k ∨ 64 * n + 64 ≤ x → I1 133 x = I 133 x ∧ J1 134 x = J 134 x) ∧ ∀ i, k ≤ i → i < 64 → I1 133 (64 * n + i) = bi (σ i).isSome ∧ J1 134 (64 * n + i) = (σ i).getD 0
  | 0, k, I, J, h1, h2, _ => absurd h2 (by omega)
  | f + 1, k, I, J, h1, h2, hB => by
    rw [m5_add_L121]
    by_cases e : k = 64
    · subst e
      rw [if_pos (by decide)]
      exact ⟨I, J, rfl, fun _ _ => rfl, fun _ _ => rfl, fun _ _ => ⟨rfl, rfl⟩, fun i a b => by omega⟩
    · have h64 : k < 64 := by omega
      rw [if_neg (n64 h64)]
      have b1 : (bi (σ k).isSome = 0 ∨ bi (σ k).isSome = 1) = True := eq_true (bi_01 _)
      simp (disch := omega) only [↓xlet, xb_some, ↓reduceIte, cl_nI, nI_64, nI_add, nI_1, kg124 hL, kg125 hL, kg126 hL, kg127 hL, kg128 hL, kg129 hL, kg130 hL, kg131 hL, kg132 hL, kg133 hL, kg134 hL, kg135 hL, kg136 hL, kg137 hL, kg138 hL, kg139 hL, kg140 hL, kg141 hL, kg142 hL, kg143 hL, kg144 hL, kg145 hL, kg146 hL, kg147 hL, kg123 hL, ↓xbs (lF123_1 hL), ↓xbs (lF123_2 hL), ↓xbs (lF123_3 hL), ↓xbs (lF123_4 hL), ↓xbs (lF123_5 hL), ↓xbs (lF123_6 hL), ↓xbs (lF123_7 hL), ↓xbs (lF123_8 hL), ↓xbs (lF123_9 hL), ↓xbs (lF123_10 hL), ↓xbs (lF123_11 hL), ↓xbs (lF123_12 hL), ↓xbs (lF123_13 hL), ↓xbs (lF123_14 hL), ↓xbs (lF123_15 hL), ↓xbs (lF123_16 hL), ↓xbs (lF123_22 hL), ↓xbs (lF123_23 hL), ↓xbs (lF123_24 hL), ↓xbs (lF123_25 hL), ↓xbs (lF123_26 hL), ↓xbs (lF123_27 hL), ↓xbs (lF123_28 hL), ↓xbs (lF123_29 hL), (hB k h64).1, (hB k h64).2, b1]
      obtain ⟨I1, J1, g1, g2, g3, g4, g5⟩ := r_addL121 hL hn f (k + 1) (xu I 133 (64 * n + k) (bi (σ k).isSome)) (xu J 134 (64 * n + k) ((σ k).getD 0)) (by omega) (by omega) (fun i hi => by rw [xu_rw (by decide), xu_rw (by decide)]; exact hB i hi)
      refine ⟨I1, J1, g1, fun x hx => by rw [g2 x hx, xu_rw hx], fun x hx => by rw [g3 x hx, xu_rw hx], fun x hx => ?_, fun i ha hb => ?_⟩
      · rw [(g4 x (by omega)).1, (g4 x (by omega)).2, xu3 _ _ (by omega), xu3 _ _ (by omega)]
        exact ⟨rfl, rfl⟩
      · by_cases c : i = k
        · subst c
          rw [(g4 (64 * n + i) (by omega)).1, (g4 (64 * n + i) (by omega)).2, xu2, xu2]
          exact ⟨rfl, rfl⟩
        · exact g5 i (by omega) hb
theorem r_add (hL : Lay K F) (hn : n < 12) (hR : RS I J n so o1 o2 p q ρ β false b lg td nt κ) {s a c : Nat} {p1 p2 : Int64} (hp : pOk s p1 p2) (hac : s ≠ 0 → a < n ∧ c < n) (ha0 : s = 0 → a = 0) (hc0 : tw s = false → c = 0) : ∃ I' J', m5_add 148 K F I J 123 (nI s) (nI a) (nI c) p1 p2 = some (nI n, I', J') ∧ LoF I I' J J' ∧ RS I' J' (n + 1) (fset so n s) (fset o1 n a) (fset o2 n c) (fset p n p1) (fset q n p2) (fset ρ n (dTab s p1 p2 (ρ a) (ρ c))) (fset β n (dTab s p1 p2 (ρ a) (ρ c))) false b lg td nt κ := by
  obtain ⟨h1, h2, h3, h4, h5, h6, h7, h8⟩ := id hR
  obtain ⟨I1, hI1⟩ : ∃ I1, I1 = xu (xu (xu (xu I 123 0 (nI (n + 1))) 124 n (nI s)) 125 n (nI a)) 126 n (nI c) := ⟨_, rfl⟩
  obtain ⟨J1, hJ1⟩ : ∃ J1, J1 = xu (xu J 127 n p1) 128 n p2 := ⟨_, rfl⟩
  have fi : ∀ x, x ≠ 123 → x ≠ 124 → x ≠ 125 → x ≠ 126 → I1 x = I x := fun x a3 a4 a5 a6 => by rw [hI1, xu_rw a6, xu_rw a5, xu_rw a4, xu_rw a3]
  have fj : ∀ x, x ≠ 127 → x ≠ 128 → J1 x = J x := fun x a7 a8 => by rw [hJ1, xu_rw a8, xu_rw a7]
  have f3 : ∀ j, j ≠ 0 → I1 123 j = I 123 j := fun j hj => by rw [hI1, xu_rw (by decide), xu_rw (by decide), xu_rw (by decide), xu3 _ _ hj]
  have z3 : I1 123 0 = nI (n + 1) := by rw [hI1, xu_rw (by decide), xu_rw (by decide), xu_rw (by decide), xu2]
  have z4 : I1 124 n = nI s := by rw [hI1, xu_rw (by decide), xu_rw (by decide), xu2]
  have z5 : I1 125 n = nI a := by rw [hI1, xu_rw (by decide), xu2]
  have z6 : I1 126 n = nI c := by rw [hI1, xu2]
  have z7 : J1 127 n = p1 := by rw [hJ1, xu_rw (by decide), xu2]
  have z8 : J1 128 n = p2 := by rw [hJ1, xu2]
  have w4 : ∀ t, t ≠ n → I1 124 t = I 124 t := fun t ht => by rw [hI1, xu_rw (by decide), xu_rw (by decide), xu3 _ _ ht, xu_rw (by decide)]
  have w5 : ∀ t, t ≠ n → I1 125 t = I 125 t := fun t ht => by rw [hI1, xu_rw (by decide), xu3 _ _ ht, xu_rw (by decide), xu_rw (by decide)]
  have w6 : ∀ t, t ≠ n → I1 126 t = I 126 t := fun t ht => by rw [hI1, xu3 _ _ ht, xu_rw (by decide), xu_rw (by decide), xu_rw (by decide)]
  have w7 : ∀ t, t ≠ n → J1 127 t = J 127 t := fun t ht => by rw [hJ1, xu_rw (by decide), xu3 _ _ ht]
  have w8 : ∀ t, t ≠ n → J1 128 t = J 128 t := fun t ht => by rw [hJ1, xu3 _ _ ht, xu_rw (by decide)]
  have rb : ∀ t, t < n → RB I1 J1 t (ρ t) := fun t ht k hk => by
    rw [fi 129 (by decide) (by decide) (by decide) (by decide), fj 130 (by decide) (by decide)]
    exact h2 t ht k hk
  obtain ⟨I2, J2, e1, e2, e3⟩ := r_addL83 (σ := ρ a) (σ' := ρ c) hL hn hp hac xFu 0 I1 J1 (by omega) (by unfold xFu; omega) (fun z => ⟨z4, z5, z6, z7, z8, rb a (hac z).1, rb c (hac z).2⟩) (fun i hi => by omega)
  obtain ⟨I3, J3, g1, g2, g3, g4, g5⟩ := r_addL121 hL hn xFu 0 I2 J2 (by omega) (by unfold xFu; omega) e3
  have FI : ∀ x, x ≠ 129 → x ≠ 133 → I3 x = I1 x := fun x a9 a3 => by rw [g2 x a3, e2.1 x a9]
  have FJ : ∀ x, x ≠ 130 → x ≠ 134 → J3 x = J1 x := fun x a9 a3 => by rw [g3 x a3, e2.2.1 x a9]
  have F3 : ∀ j, j ≠ 0 → I3 123 j = I 123 j := fun j hj => by rw [FI 123 (by decide) (by decide), f3 j hj]
  have HI : ∀ x, 134 < x → I3 x = I x := fun x hx => by rw [FI x (by omega) (by omega), fi x (by omega) (by omega) (by omega) (by omega)]
  have HJ : ∀ x, 134 < x → J3 x = J x := fun x hx => by rw [FJ x (by omega) (by omega), fj x (by omega) (by omega)]
  refine ⟨I3, J3, ?_, fun x hx => ⟨by rw [FI x (by omega) (by omega), fi x (by omega) (by omega) (by omega) (by omega)], by rw [FJ x (by omega) (by omega), fj x (by omega) (by omega)]⟩, ⟨by rw [FI 123 (by decide) (by decide)]; exact z3, fun t ht => ?_⟩, fun t ht k hk => ?_, fun t ht k hk => ?_, h4.fr (F3 _ (by decide)) (F3 _ (by decide)) (HI _ (by decide)) (HI _ (by decide)) (HI _ (by decide)) (HJ _ (by decide)), ?_, ?_, ?_, h8.fr (HI _ (by decide)) (HJ _ (by decide))⟩
  · unfold m5_add
    have e1 : m5_add_L83 148 K F xFu I1 J1 123 (nI s) (nI n) 0 = m5_add_L121 148 K F xFu I2 J2 123 (nI n) 0 := e1
    have g1 : m5_add_L121 148 K F xFu I2 J2 123 (nI n) 0 = some (nI n, I3, J3) := g1
    rw [g1, hI1, hJ1] at e1
    have l12 : (nI n = (12 : Int32)) = False := eq_false (nI_lit n 12 (by omega) (by decide) (by omega))
    simp (disch := omega) only [↓xlet, xb_some, ↓reduceIte, cl_nI, nI_64, nI_add, nI_1, kg124 hL, kg125 hL, kg126 hL, kg127 hL, kg128 hL, kg129 hL, kg130 hL, kg131 hL, kg132 hL, kg133 hL, kg134 hL, kg135 hL, kg136 hL, kg137 hL, kg138 hL, kg139 hL, kg140 hL, kg141 hL, kg142 hL, kg143 hL, kg144 hL, kg145 hL, kg146 hL, kg147 hL, kg123 hL, ↓xbs (lF123_1 hL), ↓xbs (lF123_2 hL), ↓xbs (lF123_3 hL), ↓xbs (lF123_4 hL), ↓xbs (lF123_5 hL), ↓xbs (lF123_6 hL), ↓xbs (lF123_7 hL), ↓xbs (lF123_8 hL), ↓xbs (lF123_9 hL), ↓xbs (lF123_10 hL), ↓xbs (lF123_11 hL), ↓xbs (lF123_12 hL), ↓xbs (lF123_13 hL), ↓xbs (lF123_14 hL), ↓xbs (lF123_15 hL), ↓xbs (lF123_16 hL), ↓xbs (lF123_22 hL), ↓xbs (lF123_23 hL), ↓xbs (lF123_24 hL), ↓xbs (lF123_25 hL), ↓xbs (lF123_26 hL), ↓xbs (lF123_27 hL), ↓xbs (lF123_28 hL), ↓xbs (lF123_29 hL), h4.1, bi_f, h1.1, l12, not_false_eq_true, e1]
  · rw [FI 124 (by decide) (by decide), FI 125 (by decide) (by decide), FI 126 (by decide) (by decide), FJ 127 (by decide) (by decide), FJ 128 (by decide) (by decide)]
    by_cases e : t = n
    · subst e
      rw [fs_n, fs_n, fs_n, fs_n, fs_n]
      exact ⟨z4, z5, z6, z7, z8, ha0, hc0⟩
    · rw [w4 t e, w5 t e, w6 t e, w7 t e, w8 t e, fs_o e, fs_o e, fs_o e, fs_o e, fs_o e]
      exact h1.2 t (by omega)
  · rw [g2 129 (by decide), g3 130 (by decide)]
    by_cases e : t = n
    · subst e
      rw [fs_n]; exact e3 k hk
    · rw [fs_o e]
      exact e2.rb e (rb t (by omega)) k hk
  · by_cases e : t = n
    · subst e
      rw [fs_n]; exact g5 k (by omega) hk
    · rw [fs_o e, (g4 _ (by omega)).1, (g4 _ (by omega)).2, e2.1 133 (by decide), e2.2.1 134 (by decide), fi 133 (by decide) (by decide) (by decide) (by decide), fj 134 (by decide) (by decide)]
      exact h3 t (by omega) k hk
  · exact h5.fr' (F3 _ (by decide)) (HI _ (by decide)) (HI _ (by decide)) (HI _ (by decide)) (HJ _ (by decide)) (HJ _ (by decide))
  · exact h6.fr' (F3 _ (by decide)) (HI _ (by decide)) (HI _ (by decide)) (HI _ (by decide)) (HJ _ (by decide)) (HJ _ (by decide))
  · exact h7.fr' (F3 _ (by decide)) (HI _ (by decide)) (HI _ (by decide)) (HI _ (by decide)) (HJ _ (by decide)) (HJ _ (by decide))
/-- both sides make a table -/
theorem iv_make (hL : Lay K F) (hW : WS n so o1 o2 p q ρ b lg td nt) (hC : CS I J n so o1 o2 p q ρ β bo b lg td nt κ) (hR : RS I J n so o1 o2 p q ρ β bo b lg td nt κ) {s a c : Nat} {p1 p2 : Int64} (hp : pOk s p1 p2) (ha : s ≠ 0 → a < n) (hc : tw s = true → c < n) (ha0 : s = 0 → a = 0) (hc0 : tw s = false → c = 0) : ∃ x I1 J1 I2 J2, m0_make 148 K F I J 0 (nI s) (if s = 0 then -1 else nI a) (if tw s = true then nI c else -1) p1 p2 = some (x, I1, J1) ∧ m5_add 148 K F I1 J1 123 (nI s) (nI a) (nI c) p1 p2 = some (x, I2, J2) ∧ Inv I2 J2 ∧ I1 123 0 = nI n := by
  obtain ⟨h1, h2, h3, h4, h5, h6, h7, h8, h9, h10⟩ := id hC
  obtain ⟨r1, r2, r3, r4, r5, r6, r7, r8⟩ := id hR
  have hn := hW.1.1
  cases bo with
  | true =>
    refine ⟨-4, I, J, I, J, ?_, ?_, ⟨n, so, o1, o2, p, q, ρ, β, true, b, lg, td, nt, κ, hW, hC, hR⟩, r1.1⟩
    · unfold m0_make; simp (disch := omega) only [↓xlet, xb_some, ↓reduceIte, cl_nI, nI_64, nI_add, nI_1, kg3 hL, kg4 hL, kg5 hL, kg6 hL, kg8 hL, kg9 hL, kg10 hL, kg12 hL, kg13 hL, kg14 hL, kg16 hL, kg17 hL, kg18 hL, kg0 hL, kg2 hL, kg7 hL, kg11 hL, kg15 hL, kg19 hL, kg21 hL, kg23 hL, kg25 hL, ↓xbs (lF0_0 hL), ↓xbs (lF0_2 hL), ↓xbs (lF0_3 hL), ↓xbs (lF0_4 hL), ↓xbs (lF0_5 hL), ↓xbs (lF0_6 hL), ↓xbs (lF0_7 hL), ↓xbs (lF0_8 hL), ↓xbs (lF0_9 hL), ↓xbs (lF2_2 hL), ↓xbs (lF2_3 hL), ↓xbs (lF2_4 hL), ↓xbs (lF2_5 hL), ↓xbs (lF7_1 hL), ↓xbs (lF7_2 hL), ↓xbs (lF7_3 hL), ↓xbs (lF11_1 hL), ↓xbs (lF11_2 hL), ↓xbs (lF11_3 hL), ↓xbs (lF15_1 hL), ↓xbs (lF15_2 hL), ↓xbs (lF15_3 hL), kg1 hL, lF1 hL, ↓xF1c hL, kgT hL, kgR1 hL, kgR3 hL, kgR5 hL, ↓xT5 hL, ↓xT6 hL, ↓xT7 hL, lT5 hL, lT6 hL, lT7 hL, h5.1, bt0]
    · unfold m5_add; simp (disch := omega) only [↓xlet, xb_some, ↓reduceIte, cl_nI, nI_64, nI_add, nI_1, kg124 hL, kg125 hL, kg126 hL, kg127 hL, kg128 hL, kg129 hL, kg130 hL, kg131 hL, kg132 hL, kg133 hL, kg134 hL, kg135 hL, kg136 hL, kg137 hL, kg138 hL, kg139 hL, kg140 hL, kg141 hL, kg142 hL, kg143 hL, kg144 hL, kg145 hL, kg146 hL, kg147 hL, kg123 hL, ↓xbs (lF123_1 hL), ↓xbs (lF123_2 hL), ↓xbs (lF123_3 hL), ↓xbs (lF123_4 hL), ↓xbs (lF123_5 hL), ↓xbs (lF123_6 hL), ↓xbs (lF123_7 hL), ↓xbs (lF123_8 hL), ↓xbs (lF123_9 hL), ↓xbs (lF123_10 hL), ↓xbs (lF123_11 hL), ↓xbs (lF123_12 hL), ↓xbs (lF123_13 hL), ↓xbs (lF123_14 hL), ↓xbs (lF123_15 hL), ↓xbs (lF123_16 hL), ↓xbs (lF123_22 hL), ↓xbs (lF123_23 hL), ↓xbs (lF123_24 hL), ↓xbs (lF123_25 hL), ↓xbs (lF123_26 hL), ↓xbs (lF123_27 hL), ↓xbs (lF123_28 hL), ↓xbs (lF123_29 hL), r4.1, bt0]
  | false =>
    by_cases e : n = 12
    · refine ⟨-3, I, J, I, J, ?_, ?_, ⟨n, so, o1, o2, p, q, ρ, β, false, b, lg, td, nt, κ, hW, hC, hR⟩, r1.1⟩
      · have l12 : (nI n < (12 : Int32)) = False := by rw [e]; decide
        unfold m0_make; simp (disch := omega) only [↓xlet, xb_some, ↓reduceIte, cl_nI, nI_64, nI_add, nI_1, kg3 hL, kg4 hL, kg5 hL, kg6 hL, kg8 hL, kg9 hL, kg10 hL, kg12 hL, kg13 hL, kg14 hL, kg16 hL, kg17 hL, kg18 hL, kg0 hL, kg2 hL, kg7 hL, kg11 hL, kg15 hL, kg19 hL, kg21 hL, kg23 hL, kg25 hL, ↓xbs (lF0_0 hL), ↓xbs (lF0_2 hL), ↓xbs (lF0_3 hL), ↓xbs (lF0_4 hL), ↓xbs (lF0_5 hL), ↓xbs (lF0_6 hL), ↓xbs (lF0_7 hL), ↓xbs (lF0_8 hL), ↓xbs (lF0_9 hL), ↓xbs (lF2_2 hL), ↓xbs (lF2_3 hL), ↓xbs (lF2_4 hL), ↓xbs (lF2_5 hL), ↓xbs (lF7_1 hL), ↓xbs (lF7_2 hL), ↓xbs (lF7_3 hL), ↓xbs (lF11_1 hL), ↓xbs (lF11_2 hL), ↓xbs (lF11_3 hL), ↓xbs (lF15_1 hL), ↓xbs (lF15_2 hL), ↓xbs (lF15_3 hL), kg1 hL, lF1 hL, ↓xF1c hL, kgT hL, kgR1 hL, kgR3 hL, kgR5 hL, ↓xT5 hL, ↓xT6 hL, ↓xT7 hL, lT5 hL, lT6 hL, lT7 hL, h5.1, bi_f, h1.1, l12]
      · have l12 : (nI n = (12 : Int32)) = True := by rw [e]; decide
        unfold m5_add; simp (disch := omega) only [↓xlet, xb_some, ↓reduceIte, cl_nI, nI_64, nI_add, nI_1, kg124 hL, kg125 hL, kg126 hL, kg127 hL, kg128 hL, kg129 hL, kg130 hL, kg131 hL, kg132 hL, kg133 hL, kg134 hL, kg135 hL, kg136 hL, kg137 hL, kg138 hL, kg139 hL, kg140 hL, kg141 hL, kg142 hL, kg143 hL, kg144 hL, kg145 hL, kg146 hL, kg147 hL, kg123 hL, ↓xbs (lF123_1 hL), ↓xbs (lF123_2 hL), ↓xbs (lF123_3 hL), ↓xbs (lF123_4 hL), ↓xbs (lF123_5 hL), ↓xbs (lF123_6 hL), ↓xbs (lF123_7 hL), ↓xbs (lF123_8 hL), ↓xbs (lF123_9 hL), ↓xbs (lF123_10 hL), ↓xbs (lF123_11 hL), ↓xbs (lF123_12 hL), ↓xbs (lF123_13 hL), ↓xbs (lF123_14 hL), ↓xbs (lF123_15 hL), ↓xbs (lF123_16 hL), ↓xbs (lF123_22 hL), ↓xbs (lF123_23 hL), ↓xbs (lF123_24 hL), ↓xbs (lF123_25 hL), ↓xbs (lF123_26 hL), ↓xbs (lF123_27 hL), ↓xbs (lF123_28 hL), ↓xbs (lF123_29 hL), r4.1, bi_f, r1.1, l12, not_true_eq_false]
    · have hn : n < 12 := by omega
      have hac : s ≠ 0 → a < n ∧ c < n := fun z => ⟨ha z, by
        by_cases w : tw s = true
        · exact hc w
        · rw [hc0 (by simpa using w)]; have := ha z; omega⟩
      obtain ⟨I1, J1, e1, e2, e3⟩ := c_make hL hn hC hp ha hc
      obtain ⟨I2, J2, g1, g2, g3⟩ := r_add hL hn (hR.fr e2) hp hac ha0 hc0
      refine ⟨nI n, I1, J1, I2, J2, e1, g1, ⟨n + 1, _, _, _, _, _, _, _, false, b, lg, td, nt, κ, ⟨⟨by omega, fun t ht => ?_⟩, fun t ht => ?_, ⟨hW.2.2.1.1, fun i t k v ee => ?_⟩, hW.2.2.2⟩, e3.fr (by omega) g2, g3⟩, by rw [(e2 123 (by decide)).1]; exact r1.1⟩
      · by_cases z : t = n
        · subst z
          rw [fs_n, fs_n, fs_n, fs_n, fs_n]
          exact ⟨hp, hac⟩
        · rw [fs_o z, fs_o z, fs_o z, fs_o z, fs_o z]
          exact hW.1.2 t (by omega)
      · by_cases z : t = n
        · subst z
          rw [fs_n, fs_n, fs_n, fs_n, fs_n, fs_n]
          intro w k hk
          have := hac w
          rw [fs_o (by omega), fs_o (by omega)]
        · rw [fs_o z, fs_o z, fs_o z, fs_o z, fs_o z, fs_o z]
          intro w k hk
          have := (hW.1.2 t (by omega)).2 w
          rw [fs_o (by omega), fs_o (by omega)]
          exact hW.2.1 t (by omega) w k hk
      · obtain ⟨x1, x2, x3⟩ := hW.2.2.1.2 i t k v ee
        exact ⟨by omega, by rw [fs_o (by omega)]; exact x2, x3⟩
end
