section
variable {K : Nat → Nat × Nat} {F : Nat → Nat → Option Nat} {I : Nat → Nat → Int32} {J : Nat → Nat → Int64} {n : Nat} {so o1 o2 : Nat → Nat} {p q : Nat → Int64} {ρ β : Nat → Nat → Option Int64} {bo : Bool} {b : List (Nat × Nat × Option Int64)} {lg td nt l : List (Nat × Nat × Option Int64 × Option Int64)} {κ : Nat → Option Int64} {c m : Nat}
theorem nI_lite {a x : Nat} (ha : a < 2 ^ 31) (hx : x < 2 ^ 31) : (nI a = nI x) = (a = x) := propext (nI_eq ha hx)
theorem rd_of (hL : Lay K F) (hW : WS n so o1 o2 p q ρ b lg td nt) (hC : CS I J n so o1 o2 p q ρ β bo b lg td nt κ) (hR : RS I J n so o1 o2 p q ρ β bo b lg td nt κ) (a1 a2 : Int32) : ∃ x, m0_of 148 K F I J 0 a1 a2 = some x ∧ m5_of 148 K F I J 123 a1 a2 = some x := by
  obtain ⟨h1, h2, h3, h4, h5, h6, h7, h8, h9, h10⟩ := hC
  obtain ⟨r1, r2, r3, r4, r5, r6, r7, r8⟩ := hR
  have hn := hW.1.1
  have e3 : m5_isIn 148 K F I J a2.toInt64 0 3 = some (bi (win a2 0 3)) := m_in (by decide) (by decide)
  by_cases ht : win a1 0 (nI n - 1) = true
  · obtain ⟨t, htn, rfl⟩ := (win_n (by omega)).mp ht
    have h12 : t < 12 := by omega
    have s7 := (hW.1.2 t htn).1.1
    obtain ⟨q1, q2, q3, q4, q5⟩ := h1.2 t htn
    obtain ⟨y1, y2, y3, y4, y5, y6, y7⟩ := r1.2 t htn
    have n0 : (nI (so t) = 0) = (so t = 0) := nI_lite (x := 0) (by omega) (by decide)
    have n4 : (nI (so t) = 4) = (so t = 4) := nI_lite (x := 4) (by omega) (by decide)
    have n5 : (nI (so t) = 5) = (so t = 5) := nI_lite (x := 5) (by omega) (by decide)
    have n7 : (nI (so t) = 7) = (so t = 7) := nI_lite (x := 7) (by omega) (by decide)
    unfold m0_of
    simp (disch := omega) only [↓xlet, xb_some, ↓reduceIte, cl_nI, nI_64, nI_add, nI_1, kg3 hL, kg4 hL, kg5 hL, kg6 hL, kg8 hL, kg9 hL, kg10 hL, kg12 hL, kg13 hL, kg14 hL, kg16 hL, kg17 hL, kg18 hL, kg0 hL, kg2 hL, kg7 hL, kg11 hL, kg15 hL, kg19 hL, kg21 hL, kg23 hL, kg25 hL, ↓xbs (lF0_0 hL), ↓xbs (lF0_2 hL), ↓xbs (lF0_3 hL), ↓xbs (lF0_4 hL), ↓xbs (lF0_5 hL), ↓xbs (lF0_6 hL), ↓xbs (lF0_7 hL), ↓xbs (lF0_8 hL), ↓xbs (lF0_9 hL), ↓xbs (lF2_2 hL), ↓xbs (lF2_3 hL), ↓xbs (lF2_4 hL), ↓xbs (lF2_5 hL), ↓xbs (lF7_1 hL), ↓xbs (lF7_2 hL), ↓xbs (lF7_3 hL), ↓xbs (lF11_1 hL), ↓xbs (lF11_2 hL), ↓xbs (lF11_3 hL), ↓xbs (lF15_1 hL), ↓xbs (lF15_2 hL), ↓xbs (lF15_3 hL), kg1 hL, lF1 hL, ↓xF1c hL, kgT hL, kgR1 hL, kgR3 hL, kgR5 hL, ↓xT5 hL, ↓xT6 hL, ↓xT7 hL, lT5 hL, lT6 hL, lT7 hL, ↓xisT hL h1.1, ht, bi_z, Bool.true_eq_false, not_false_eq_true, q1, q2, q3, m_size (lRT1 hL h12) (h2 t htn)]
    unfold m5_of
    simp (disch := omega) only [↓xlet, xb_some, ↓reduceIte, cl_nI, nI_64, nI_add, nI_1, kg124 hL, kg125 hL, kg126 hL, kg127 hL, kg128 hL, kg129 hL, kg130 hL, kg131 hL, kg132 hL, kg133 hL, kg134 hL, kg135 hL, kg136 hL, kg137 hL, kg138 hL, kg139 hL, kg140 hL, kg141 hL, kg142 hL, kg143 hL, kg144 hL, kg145 hL, kg146 hL, kg147 hL, kg123 hL, ↓xbs (lF123_1 hL), ↓xbs (lF123_2 hL), ↓xbs (lF123_3 hL), ↓xbs (lF123_4 hL), ↓xbs (lF123_5 hL), ↓xbs (lF123_6 hL), ↓xbs (lF123_7 hL), ↓xbs (lF123_8 hL), ↓xbs (lF123_9 hL), ↓xbs (lF123_10 hL), ↓xbs (lF123_11 hL), ↓xbs (lF123_12 hL), ↓xbs (lF123_13 hL), ↓xbs (lF123_14 hL), ↓xbs (lF123_15 hL), ↓xbs (lF123_16 hL), ↓xbs (lF123_22 hL), ↓xbs (lF123_23 hL), ↓xbs (lF123_24 hL), ↓xbs (lF123_25 hL), ↓xbs (lF123_26 hL), ↓xbs (lF123_27 hL), ↓xbs (lF123_28 hL), ↓xbs (lF123_29 hL), ↓xrT hL r1.1, ↓xbs e3, ht, bi_z, Bool.true_eq_false, y1, y2, y3, n0, n4, n5, n7]
    by_cases c0 : a2 = 0
    · subst c0
      exact ⟨nI (so t), by rw [if_pos rfl], by rw [if_pos (by decide), if_neg (x_nn rfl)]⟩
    · rw [if_neg c0]
      by_cases c1 : a2 = 1
      · subst c1
        refine ⟨_, by rw [if_pos rfl], ?_⟩
        rw [if_pos (by decide), if_pos (by decide), if_neg (x_nn rfl)]
        by_cases z : so t = 0
        · rw [if_neg (x_nn z), if_pos z]
        · rw [if_pos z, if_neg z]
      · rw [if_neg c1]
        by_cases c2 : a2 = 2
        · subst c2
          refine ⟨_, by rw [if_pos rfl], ?_⟩
          rw [if_pos (by decide), if_pos (by decide), if_pos (by decide), if_neg (x_nn rfl)]
          by_cases z4 : so t = 4
          · rw [if_pos z4, z4]; rfl
          · by_cases z5 : so t = 5
            · rw [if_neg z4, if_pos z5, z5]; rfl
            · by_cases z7 : so t = 7
              · rw [if_neg z4, if_neg z5, if_neg (x_nn z7), z7]; rfl
              · rw [if_neg z4, if_neg z5, if_pos z7]
                have : tw (so t) = false := by simp [tw, z4, z5, z7]
                rw [this]; rfl
        · rw [if_neg c2]
          by_cases c3 : a2 = 3
          · subst c3
            refine ⟨_, by rw [if_pos rfl], ?_⟩
            rw [if_pos (by decide), if_pos (by decide), if_pos (by decide), if_pos (by decide)]
            exact r_ofL hL h12 (fun k hk => r2 t htn k hk) xFu 0 (by omega) (by unfold xFu; omega)
          · rw [if_neg c3]
            exact ⟨-2, rfl, by rw [win03 c0 c1 c2 c3, if_neg (by decide)]⟩
  · have ht : win a1 0 (nI n - 1) = false := by simpa using ht
    refine ⟨-2, ?_, ?_⟩
    · unfold m0_of
      simp (disch := omega) only [↓xlet, xb_some, ↓reduceIte, cl_nI, nI_64, nI_add, nI_1, kg3 hL, kg4 hL, kg5 hL, kg6 hL, kg8 hL, kg9 hL, kg10 hL, kg12 hL, kg13 hL, kg14 hL, kg16 hL, kg17 hL, kg18 hL, kg0 hL, kg2 hL, kg7 hL, kg11 hL, kg15 hL, kg19 hL, kg21 hL, kg23 hL, kg25 hL, ↓xbs (lF0_0 hL), ↓xbs (lF0_2 hL), ↓xbs (lF0_3 hL), ↓xbs (lF0_4 hL), ↓xbs (lF0_5 hL), ↓xbs (lF0_6 hL), ↓xbs (lF0_7 hL), ↓xbs (lF0_8 hL), ↓xbs (lF0_9 hL), ↓xbs (lF2_2 hL), ↓xbs (lF2_3 hL), ↓xbs (lF2_4 hL), ↓xbs (lF2_5 hL), ↓xbs (lF7_1 hL), ↓xbs (lF7_2 hL), ↓xbs (lF7_3 hL), ↓xbs (lF11_1 hL), ↓xbs (lF11_2 hL), ↓xbs (lF11_3 hL), ↓xbs (lF15_1 hL), ↓xbs (lF15_2 hL), ↓xbs (lF15_3 hL), kg1 hL, lF1 hL, ↓xF1c hL, kgT hL, kgR1 hL, kgR3 hL, kgR5 hL, ↓xT5 hL, ↓xT6 hL, ↓xT7 hL, lT5 hL, lT6 hL, lT7 hL, ↓xisT hL h1.1, ht, bi_z, not_true_eq_false]
    · unfold m5_of
      simp (disch := omega) only [↓xlet, xb_some, ↓reduceIte, cl_nI, nI_64, nI_add, nI_1, kg124 hL, kg125 hL, kg126 hL, kg127 hL, kg128 hL, kg129 hL, kg130 hL, kg131 hL, kg132 hL, kg133 hL, kg134 hL, kg135 hL, kg136 hL, kg137 hL, kg138 hL, kg139 hL, kg140 hL, kg141 hL, kg142 hL, kg143 hL, kg144 hL, kg145 hL, kg146 hL, kg147 hL, kg123 hL, ↓xbs (lF123_1 hL), ↓xbs (lF123_2 hL), ↓xbs (lF123_3 hL), ↓xbs (lF123_4 hL), ↓xbs (lF123_5 hL), ↓xbs (lF123_6 hL), ↓xbs (lF123_7 hL), ↓xbs (lF123_8 hL), ↓xbs (lF123_9 hL), ↓xbs (lF123_10 hL), ↓xbs (lF123_11 hL), ↓xbs (lF123_12 hL), ↓xbs (lF123_13 hL), ↓xbs (lF123_14 hL), ↓xbs (lF123_15 hL), ↓xbs (lF123_16 hL), ↓xbs (lF123_22 hL), ↓xbs (lF123_23 hL), ↓xbs (lF123_24 hL), ↓xbs (lF123_25 hL), ↓xbs (lF123_26 hL), ↓xbs (lF123_27 hL), ↓xbs (lF123_28 hL), ↓xbs (lF123_29 hL), ↓xrT hL r1.1, ht, bi_z]
/-- rows that are equal up to a key -/
def eqr (κ σ : Nat → Option Int64) : Nat → Bool
  | 0 => true
  | k + 1 => eqr κ σ k && decide (κ k = σ k)
theorem eqr_t {κ σ : Nat → Option Int64} : ∀ {m : Nat}, (∀ i, i < m → κ i = σ i) → eqr κ σ m = true
  | 0, _ => rfl
  | m + 1, h => by rw [eqr, eqr_t (fun i hi => h i (by omega)), decide_eq_true (h m (by omega))]; rfl
theorem eqr_g {κ σ : Nat → Option Int64} : ∀ {m : Nat}, eqr κ σ m = true → ∀ i, i < m → κ i = σ i
  | 0, _, i, hi => absurd hi (by omega)
  | m + 1, h, i, hi => by
    rw [eqr, Bool.and_eq_true, decide_eq_true_eq] at h
    by_cases c : i = m
    · subst c; exact h.2
    · exact eqr_g h.1 i (by omega)
theorem eqr_f {κ σ : Nat → Option Int64} {m i : Nat} (hi : i < m) (h : κ i ≠ σ i) : eqr κ σ m = false := by rw [← Bool.not_eq_true]; exact fun w => h (eqr_g w i hi)
theorem bft : (bi false = bi true) = False := by decide
theorem btf : (bi true = bi false) = False := by decide
theorem bt0 : (bi true = 0) = False := by decide
theorem r_sameL (hL : Lay K F) {t : Nat} (ht : t < 12) {σ : Nat → Option Int64} (hB : RB I J t σ) (r8 : RCp I J κ) : ∀ f k, k ≤ 64 → 64 - k < f → (∀ i, i < k → κ i = σ i) → m5_same_L13 148 K F I J f 123 (nI t) (nI k) = some (bi (eqr κ σ 64))
  | 0, k, h1, h2, _ => absurd h2 (by omega)
  | f + 1, k, h1, h2, hq => by
    rw [m5_same_L13]
    by_cases e : k = 64
    · subst e
      rw [if_pos (by decide), eqr_t hq]
      rfl
    · have h64 : k < 64 := by omega
      rw [if_neg (n64 h64)]
      simp (disch := omega) only [↓xlet, xb_some, ↓reduceIte, cl_nI, nI_64, nI_add, nI_1, kg124 hL, kg125 hL, kg126 hL, kg127 hL, kg128 hL, kg129 hL, kg130 hL, kg131 hL, kg132 hL, kg133 hL, kg134 hL, kg135 hL, kg136 hL, kg137 hL, kg138 hL, kg139 hL, kg140 hL, kg141 hL, kg142 hL, kg143 hL, kg144 hL, kg145 hL, kg146 hL, kg147 hL, kg123 hL, ↓xbs (lF123_1 hL), ↓xbs (lF123_2 hL), ↓xbs (lF123_3 hL), ↓xbs (lF123_4 hL), ↓xbs (lF123_5 hL), ↓xbs (lF123_6 hL), ↓xbs (lF123_7 hL), ↓xbs (lF123_8 hL), ↓xbs (lF123_9 hL), ↓xbs (lF123_10 hL), ↓xbs (lF123_11 hL), ↓xbs (lF123_12 hL), ↓xbs (lF123_13 hL), ↓xbs (lF123_14 hL), ↓xbs (lF123_15 hL), ↓xbs (lF123_16 hL), ↓xbs (lF123_22 hL), ↓xbs (lF123_23 hL), ↓xbs (lF123_24 hL), ↓xbs (lF123_25 hL), ↓xbs (lF123_26 hL), ↓xbs (lF123_27 hL), ↓xbs (lF123_28 hL), ↓xbs (lF123_29 hL), (r8 k h64).1, (hB k h64).1, (hB k h64).2]
      have go : κ k = σ k → m5_same_L13 148 K F I J f 123 (nI t) (nI (k + 1)) = some (bi (eqr κ σ 64)) := fun z => r_sameL hL ht hB r8 f (k + 1) (by omega) (by omega) (fun i hi => by
        by_cases c : i = k
        · subst c; exact z
        · exact hq i (by omega))
      have no : κ k ≠ σ k → some (0 : Int32) = some (bi (eqr κ σ 64)) := fun z => by
        rw [eqr_f h64 z]
        rfl
      cases e1 : κ k with
      | none =>
        cases e2 : σ k with
        | none =>
          simp only [Option.isSome_none, Option.isSome_some, Option.getD_some, bft, btf, bt0, bi_f, not_true_eq_false, not_false_eq_true, ↓reduceIte]
          exact go (by rw [e1, e2])
        | some w =>
          simp only [Option.isSome_none, Option.isSome_some, Option.getD_some, bft, btf, bt0, bi_f, not_true_eq_false, not_false_eq_true, ↓reduceIte]
          exact no (by rw [e1, e2]; simp)
      | some v =>
        cases e2 : σ k with
        | none =>
          simp only [Option.isSome_none, Option.isSome_some, Option.getD_some, bft, btf, bt0, bi_f, not_true_eq_false, not_false_eq_true, ↓reduceIte]
          exact no (by rw [e1, e2]; simp)
        | some w =>
          simp only [Option.isSome_none, Option.isSome_some, Option.getD_some, bft, btf, bt0, bi_f, not_true_eq_false, not_false_eq_true, ↓reduceIte]
          rw [(r8 k h64).2 v e1]
          by_cases c : v = w
          · rw [if_pos c]
            exact go (by rw [e1, e2, c])
          · rw [if_neg c]
            exact no (by rw [e1, e2]; simpa using c)
theorem rd_same (hL : Lay K F) (hn : n ≤ 12) (hC : CS I J n so o1 o2 p q ρ β bo b lg td nt κ) (hR : RS I J n so o1 o2 p q ρ β bo b lg td nt κ) (a1 : Int32) : ∃ x, m0_same 148 K F I J 0 a1 = some x ∧ m5_same 148 K F I J 123 a1 = some x := by
  obtain ⟨h1, h2, h3, h4, h5, h6, h7, h8, h9, h10⟩ := hC
  obtain ⟨r1, r2, r3, r4, r5, r6, r7, r8⟩ := hR
  unfold m0_same m5_same
  by_cases ht : win a1 0 (nI n - 1) = true
  · obtain ⟨t, htn, rfl⟩ := (win_n (by omega)).mp ht
    have h12 : t < 12 := by omega
    obtain ⟨y, ey, hy⟩ := m_differing (I := I) (lR19 hL) (lRT1 hL h12) h9 (h2 t htn)
    refine ⟨bi (eqr κ (ρ t) 64), ?_, ?_⟩
    · simp (disch := omega) only [↓xlet, xb_some, ↓reduceIte, cl_nI, nI_64, nI_add, nI_1, kg3 hL, kg4 hL, kg5 hL, kg6 hL, kg8 hL, kg9 hL, kg10 hL, kg12 hL, kg13 hL, kg14 hL, kg16 hL, kg17 hL, kg18 hL, kg0 hL, kg2 hL, kg7 hL, kg11 hL, kg15 hL, kg19 hL, kg21 hL, kg23 hL, kg25 hL, ↓xbs (lF0_0 hL), ↓xbs (lF0_2 hL), ↓xbs (lF0_3 hL), ↓xbs (lF0_4 hL), ↓xbs (lF0_5 hL), ↓xbs (lF0_6 hL), ↓xbs (lF0_7 hL), ↓xbs (lF0_8 hL), ↓xbs (lF0_9 hL), ↓xbs (lF2_2 hL), ↓xbs (lF2_3 hL), ↓xbs (lF2_4 hL), ↓xbs (lF2_5 hL), ↓xbs (lF7_1 hL), ↓xbs (lF7_2 hL), ↓xbs (lF7_3 hL), ↓xbs (lF11_1 hL), ↓xbs (lF11_2 hL), ↓xbs (lF11_3 hL), ↓xbs (lF15_1 hL), ↓xbs (lF15_2 hL), ↓xbs (lF15_3 hL), kg1 hL, lF1 hL, ↓xF1c hL, kgT hL, kgR1 hL, kgR3 hL, kgR5 hL, ↓xT5 hL, ↓xT6 hL, ↓xT7 hL, lT5 hL, lT6 hL, lT7 hL, ↓xisT hL h1.1, ht, bi_z, Bool.true_eq_false, not_false_eq_true, ey]
      by_cases z : ∀ i, i < 64 → κ i = ρ t i
      · have : y = 0 := bt_ext fun i hi => by rw [hy i hi, bt_zero]; simpa using z i hi
        rw [if_neg (x_nn this), eqr_t z]; rfl
      · have : ¬ y = 0 := fun w => z fun i hi => by
          have := hy i hi
          rw [w, bt_zero] at this
          simpa using this
        have : eqr κ (ρ t) 64 = false := by rw [← Bool.not_eq_true]; exact fun w => z (fun i hi => eqr_g w i hi)
        rw [if_pos ‹¬ y = 0›, this]; rfl
    · simp (disch := omega) only [↓xlet, xb_some, ↓reduceIte, cl_nI, nI_64, nI_add, nI_1, kg124 hL, kg125 hL, kg126 hL, kg127 hL, kg128 hL, kg129 hL, kg130 hL, kg131 hL, kg132 hL, kg133 hL, kg134 hL, kg135 hL, kg136 hL, kg137 hL, kg138 hL, kg139 hL, kg140 hL, kg141 hL, kg142 hL, kg143 hL, kg144 hL, kg145 hL, kg146 hL, kg147 hL, kg123 hL, ↓xbs (lF123_1 hL), ↓xbs (lF123_2 hL), ↓xbs (lF123_3 hL), ↓xbs (lF123_4 hL), ↓xbs (lF123_5 hL), ↓xbs (lF123_6 hL), ↓xbs (lF123_7 hL), ↓xbs (lF123_8 hL), ↓xbs (lF123_9 hL), ↓xbs (lF123_10 hL), ↓xbs (lF123_11 hL), ↓xbs (lF123_12 hL), ↓xbs (lF123_13 hL), ↓xbs (lF123_14 hL), ↓xbs (lF123_15 hL), ↓xbs (lF123_16 hL), ↓xbs (lF123_22 hL), ↓xbs (lF123_23 hL), ↓xbs (lF123_24 hL), ↓xbs (lF123_25 hL), ↓xbs (lF123_26 hL), ↓xbs (lF123_27 hL), ↓xbs (lF123_28 hL), ↓xbs (lF123_29 hL), ↓xrT hL r1.1, ht, bi_z, Bool.true_eq_false, not_false_eq_true]
      exact r_sameL hL h12 (fun k hk => r2 t htn k hk) r8 xFu 0 (by omega) (by unfold xFu; omega) (fun i hi => by omega)
  · have ht : win a1 0 (nI n - 1) = false := by simpa using ht
    refine ⟨-2, ?_, ?_⟩
    · simp (disch := omega) only [↓xlet, xb_some, ↓reduceIte, cl_nI, nI_64, nI_add, nI_1, kg3 hL, kg4 hL, kg5 hL, kg6 hL, kg8 hL, kg9 hL, kg10 hL, kg12 hL, kg13 hL, kg14 hL, kg16 hL, kg17 hL, kg18 hL, kg0 hL, kg2 hL, kg7 hL, kg11 hL, kg15 hL, kg19 hL, kg21 hL, kg23 hL, kg25 hL, ↓xbs (lF0_0 hL), ↓xbs (lF0_2 hL), ↓xbs (lF0_3 hL), ↓xbs (lF0_4 hL), ↓xbs (lF0_5 hL), ↓xbs (lF0_6 hL), ↓xbs (lF0_7 hL), ↓xbs (lF0_8 hL), ↓xbs (lF0_9 hL), ↓xbs (lF2_2 hL), ↓xbs (lF2_3 hL), ↓xbs (lF2_4 hL), ↓xbs (lF2_5 hL), ↓xbs (lF7_1 hL), ↓xbs (lF7_2 hL), ↓xbs (lF7_3 hL), ↓xbs (lF11_1 hL), ↓xbs (lF11_2 hL), ↓xbs (lF11_3 hL), ↓xbs (lF15_1 hL), ↓xbs (lF15_2 hL), ↓xbs (lF15_3 hL), kg1 hL, lF1 hL, ↓xF1c hL, kgT hL, kgR1 hL, kgR3 hL, kgR5 hL, ↓xT5 hL, ↓xT6 hL, ↓xT7 hL, lT5 hL, lT6 hL, lT7 hL, ↓xisT hL h1.1, ht, bi_z, not_true_eq_false]
    · simp (disch := omega) only [↓xlet, xb_some, ↓reduceIte, cl_nI, nI_64, nI_add, nI_1, kg124 hL, kg125 hL, kg126 hL, kg127 hL, kg128 hL, kg129 hL, kg130 hL, kg131 hL, kg132 hL, kg133 hL, kg134 hL, kg135 hL, kg136 hL, kg137 hL, kg138 hL, kg139 hL, kg140 hL, kg141 hL, kg142 hL, kg143 hL, kg144 hL, kg145 hL, kg146 hL, kg147 hL, kg123 hL, ↓xbs (lF123_1 hL), ↓xbs (lF123_2 hL), ↓xbs (lF123_3 hL), ↓xbs (lF123_4 hL), ↓xbs (lF123_5 hL), ↓xbs (lF123_6 hL), ↓xbs (lF123_7 hL), ↓xbs (lF123_8 hL), ↓xbs (lF123_9 hL), ↓xbs (lF123_10 hL), ↓xbs (lF123_11 hL), ↓xbs (lF123_12 hL), ↓xbs (lF123_13 hL), ↓xbs (lF123_14 hL), ↓xbs (lF123_15 hL), ↓xbs (lF123_16 hL), ↓xbs (lF123_22 hL), ↓xbs (lF123_23 hL), ↓xbs (lF123_24 hL), ↓xbs (lF123_25 hL), ↓xbs (lF123_26 hL), ↓xbs (lF123_27 hL), ↓xbs (lF123_28 hL), ↓xbs (lF123_29 hL), ↓xrT hL r1.1, ht, bi_z, not_true_eq_false]
end
