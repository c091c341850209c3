/-! a list of changes of the class -/
def LstOk (K : Nat → Nat × Nat) (F : Nat → Nat → Option Nat) (c m : Nat) : Prop := c < 148 ∧ K c = (0, 2) ∧ F c 1 = some (c + 1) ∧ F c 2 = some (c + 2) ∧ F c 3 = some (c + 3) ∧ c + 3 < 123 ∧ K (c + 1) = (1, m) ∧ K (c + 2) = (2, m) ∧ K (c + 3) = (2, m) ∧ m < 2 ^ 31
theorem sp_t : ∀ t, t < 12 → ∀ s, s < 3 → ∀ k, k < 64 → nI (256 * t + 64 * s + k) >>> ((8 : Int32) &&& 31) = nI t := by decide +kernel
theorem sp_s : ∀ t, t < 12 → ∀ s, s < 3 → ∀ k, k < 64 → ((nI (256 * t + 64 * s + k) >>> ((6 : Int32) &&& 31)) &&& (3 : Int32)) = nI s := by decide +kernel
theorem sp_k : ∀ t, t < 12 → ∀ s, s < 3 → ∀ k, k < 64 → (nI (256 * t + 64 * s + k) &&& (63 : Int32)) = nI k := by decide +kernel
theorem sp_m : ∀ t, t < 12 → ∀ s, s < 3 → ∀ k, k < 64 → (((nI t <<< ((8 : Int32) &&& 31)) ||| (nI s <<< ((6 : Int32) &&& 31))) ||| nI k) = nI (256 * t + 64 * s + k) := by decide +kernel
section
variable {K : Nat → Nat × Nat} {F : Nat → Nat → Option Nat} {I : Nat → Nat → Int32} {J : Nat → Nat → Int64} {n : Nat} {so o1 o2 : Nat → Nat} {p q : Nat → Int64} {ρ β : Nat → Nat → Option Int64} {bo : Bool} {b : List (Nat × Nat × Option Int64)} {lg td nt l : List (Nat × Nat × Option Int64 × Option Int64)} {κ : Nat → Option Int64} {c m : Nat}
theorem lL7 (hL : Lay K F) : LstOk K F 7 1500 := ⟨by decide, lK7 hL, lF7_1 hL, lF7_2 hL, lF7_3 hL, by decide, lK8 hL, lK9 hL, lK10 hL, by decide⟩
theorem lL11 (hL : Lay K F) : LstOk K F 11 768 := ⟨by decide, lK11 hL, lF11_1 hL, lF11_2 hL, lF11_3 hL, by decide, lK12 hL, lK13 hL, lK14 hL, by decide⟩
theorem lL15 (hL : Lay K F) : LstOk K F 15 64 := ⟨by decide, lK15 hL, lF15_1 hL, lF15_2 hL, lF15_3 hL, by decide, lK16 hL, lK17 hL, lK18 hL, by decide⟩
theorem LstOk.go (h : LstOk K F c m) : (c < 148 ∧ K c = (0, 2)) = True := eq_true ⟨h.1, h.2.1⟩
theorem LstOk.g1 (h : LstOk K F c m) {i : Nat} (hi : i < m) : (c + 1 < 148 ∧ (K (c + 1)).1 = 1 ∧ xinb (nI i) (K (c + 1)).2) = True := eq_true ⟨by have := h.2.2.2.2.2.1; omega, by rw [h.2.2.2.2.2.2.1], by rw [h.2.2.2.2.2.2.1]; exact xinb_nI hi h.2.2.2.2.2.2.2.2.2⟩
theorem LstOk.g2 (h : LstOk K F c m) {i : Nat} (hi : i < m) : (c + 2 < 148 ∧ (K (c + 2)).1 = 2 ∧ xinb (nI i) (K (c + 2)).2) = True := eq_true ⟨by have := h.2.2.2.2.2.1; omega, by rw [h.2.2.2.2.2.2.2.1], by rw [h.2.2.2.2.2.2.2.1]; exact xinb_nI hi h.2.2.2.2.2.2.2.2.2⟩
theorem LstOk.g3 (h : LstOk K F c m) {i : Nat} (hi : i < m) : (c + 3 < 148 ∧ (K (c + 3)).1 = 2 ∧ xinb (nI i) (K (c + 3)).2) = True := eq_true ⟨by have := h.2.2.2.2.2.1; omega, by rw [h.2.2.2.2.2.2.2.2.1], by rw [h.2.2.2.2.2.2.2.2.1]; exact xinb_nI hi h.2.2.2.2.2.2.2.2.2⟩
theorem m_tableOf (h : LstOk K F c m) (hc : CLst I J c l) (hE : EOk m l) {i t k : Nat} {o w : Option Int64} (e : l[i]? = some (t, k, o, w)) : m2_tableOf 148 K F I J c (nI i) = some (nI t) := by
  have hi := get_lt e
  have hm := h.2.2.2.2.2.2.2.2.2
  have him : i < m := Nat.lt_of_lt_of_le hi hE.1
  unfold m2_tableOf
  simp (disch := omega) only [xb, h.go, h.2.2.1, ↓reduceIte, Option.bind_some, h.g1 him, cl_nI, (hc.2 i t k o w e).1]
  rw [sp_t t (hE.2 i t k o w e).1 _ (by have := srt_le o w; omega) k (hE.2 i t k o w e).2.1]
theorem m_sortOf (h : LstOk K F c m) (hc : CLst I J c l) (hE : EOk m l) {i t k : Nat} {o w : Option Int64} (e : l[i]? = some (t, k, o, w)) : m2_sortOf 148 K F I J c (nI i) = some (nI (srt o w)) := by
  have hi := get_lt e
  have hm := h.2.2.2.2.2.2.2.2.2
  have him : i < m := Nat.lt_of_lt_of_le hi hE.1
  unfold m2_sortOf
  simp (disch := omega) only [xb, h.go, h.2.2.1, ↓reduceIte, Option.bind_some, h.g1 him, cl_nI, (hc.2 i t k o w e).1]
  rw [sp_s t (hE.2 i t k o w e).1 _ (by have := srt_le o w; omega) k (hE.2 i t k o w e).2.1]
theorem m_keyOf (h : LstOk K F c m) (hc : CLst I J c l) (hE : EOk m l) {i t k : Nat} {o w : Option Int64} (e : l[i]? = some (t, k, o, w)) : m2_keyOf 148 K F I J c (nI i) = some (nI k) := by
  have hi := get_lt e
  have hm := h.2.2.2.2.2.2.2.2.2
  have him : i < m := Nat.lt_of_lt_of_le hi hE.1
  unfold m2_keyOf
  simp (disch := omega) only [xb, h.go, h.2.2.1, ↓reduceIte, Option.bind_some, h.g1 him, cl_nI, (hc.2 i t k o w e).1]
  rw [sp_k t (hE.2 i t k o w e).1 _ (by have := srt_le o w; omega) k (hE.2 i t k o w e).2.1]
theorem win02 {a : Int32} (h0 : ¬ a = 0) (h1 : ¬ a = 1) (h2 : ¬ a = 2) : win a 0 2 = false := by
  rw [← Bool.not_eq_true]
  intro h
  obtain ⟨k, hk, rfl⟩ := (win_m (n := 2) (by decide)).mp h
  have : k = 0 ∨ k = 1 ∨ k = 2 := by omega
  rcases this with rfl | rfl | rfl
  · exact h0 (by decide)
  · exact h1 (by decide)
  · exact h2 (by decide)
theorem win01 {a : Int32} (h0 : ¬ a = 0) (h1 : ¬ a = 1) : win a 0 1 = false := by
  rw [← Bool.not_eq_true]
  intro h
  obtain ⟨k, hk, rfl⟩ := (win_m (n := 1) (by decide)).mp h
  have : k = 0 ∨ k = 1 := by omega
  rcases this with rfl | rfl
  · exact h0 (by decide)
  · exact h1 (by decide)
theorem win03 {a : Int32} (h0 : ¬ a = 0) (h1 : ¬ a = 1) (h2 : ¬ a = 2) (h3 : ¬ a = 3) : win a 0 3 = false := by
  rw [← Bool.not_eq_true]
  intro h
  obtain ⟨k, hk, rfl⟩ := (win_m (n := 3) (by decide)).mp h
  have : k = 0 ∨ k = 1 ∨ k = 2 ∨ k = 3 := by omega
  rcases this with rfl | rfl | rfl | rfl
  · exact h0 (by decide)
  · exact h1 (by decide)
  · exact h2 (by decide)
  · exact h3 (by decide)
theorem rd_chg1 (hL : Lay K F) {f off : Nat} {a1 a2 a3 : Int32} (hl : LstOk K F c m) (hc : CLst I J c l) (hr : RLst I J f off l) (hE : EOk m l) (ho : off + m ≤ 2400) (e0 : m0_changesOf 148 K F I J 0 a1 = some (some c)) (e5 : m5_placeOf 148 K F I J 123 a1 a2 = some (if win a2 0 (nI l.length - 1) = true then nI off + a2 else -1)) : ∃ x, m0_change 148 K F I J 0 a1 a2 a3 = some x ∧ m5_change 148 K F I J 123 a1 a2 a3 = some x := by
  have e2 : m5_isIn 148 K F I J a3.toInt64 0 2 = some (bi (win a3 0 2)) := m_in (by decide) (by decide)
  have hlen := hE.1
  unfold m0_change m5_change
  by_cases hw : win a2 0 (nI l.length - 1) = true
  · obtain ⟨i, hi, rfl⟩ := (win_n (by omega)).mp hw
    obtain ⟨⟨t, k, o, w⟩, e⟩ := get_ex hi
    obtain ⟨q1, q2, q3, q4, q5⟩ := hr.2 i t k o w e
    rw [if_pos hw] at e5
    simp (disch := omega) only [↓xlet, xb_some, ↓reduceIte, cl_nI, nI_64, nI_add, nI_1, kg3 hL, kg4 hL, kg5 hL, kg6 hL, kg8 hL, kg9 hL, kg10 hL, kg12 hL, kg13 hL, kg14 hL, kg16 hL, kg17 hL, kg18 hL, kg0 hL, kg2 hL, kg7 hL, kg11 hL, kg15 hL, kg19 hL, kg21 hL, kg23 hL, kg25 hL, ↓xbs (lF0_0 hL), ↓xbs (lF0_2 hL), ↓xbs (lF0_3 hL), ↓xbs (lF0_4 hL), ↓xbs (lF0_5 hL), ↓xbs (lF0_6 hL), ↓xbs (lF0_7 hL), ↓xbs (lF0_8 hL), ↓xbs (lF0_9 hL), ↓xbs (lF2_2 hL), ↓xbs (lF2_3 hL), ↓xbs (lF2_4 hL), ↓xbs (lF2_5 hL), ↓xbs (lF7_1 hL), ↓xbs (lF7_2 hL), ↓xbs (lF7_3 hL), ↓xbs (lF11_1 hL), ↓xbs (lF11_2 hL), ↓xbs (lF11_3 hL), ↓xbs (lF15_1 hL), ↓xbs (lF15_2 hL), ↓xbs (lF15_3 hL), kg1 hL, lF1 hL, ↓xF1c hL, kgT hL, kgR1 hL, kgR3 hL, kgR5 hL, ↓xT5 hL, ↓xT6 hL, ↓xT7 hL, lT5 hL, lT6 hL, lT7 hL, ↓xbs e0, hl.go, hc.1, ↓xisW, bi_z, hw, Bool.true_eq_false, not_false_eq_true, m_tableOf hl hc hE e, m_sortOf hl hc hE e, m_keyOf hl hc hE e]
    simp (disch := omega) only [↓xlet, xb_some, ↓reduceIte, cl_nI, nI_64, nI_add, nI_1, kg124 hL, kg125 hL, kg126 hL, kg127 hL, kg128 hL, kg129 hL, kg130 hL, kg131 hL, kg132 hL, kg133 hL, kg134 hL, kg135 hL, kg136 hL, kg137 hL, kg138 hL, kg139 hL, kg140 hL, kg141 hL, kg142 hL, kg143 hL, kg144 hL, kg145 hL, kg146 hL, kg147 hL, kg123 hL, ↓xbs (lF123_1 hL), ↓xbs (lF123_2 hL), ↓xbs (lF123_3 hL), ↓xbs (lF123_4 hL), ↓xbs (lF123_5 hL), ↓xbs (lF123_6 hL), ↓xbs (lF123_7 hL), ↓xbs (lF123_8 hL), ↓xbs (lF123_9 hL), ↓xbs (lF123_10 hL), ↓xbs (lF123_11 hL), ↓xbs (lF123_12 hL), ↓xbs (lF123_13 hL), ↓xbs (lF123_14 hL), ↓xbs (lF123_15 hL), ↓xbs (lF123_16 hL), ↓xbs (lF123_22 hL), ↓xbs (lF123_23 hL), ↓xbs (lF123_24 hL), ↓xbs (lF123_25 hL), ↓xbs (lF123_26 hL), ↓xbs (lF123_27 hL), ↓xbs (lF123_28 hL), ↓xbs (lF123_29 hL), ↓xbs e5, eqF (nI_m1 (show off + i < 2 ^ 31 by omega)), ↓xbs e2, bi_z, q1, q2, q3]
    by_cases c0 : a3 = 0
    · subst c0
      exact ⟨nI t, by rw [if_pos rfl], by rw [if_pos (by decide), if_neg (x_nn rfl)]⟩
    · rw [if_neg c0]
      by_cases c1 : a3 = 1
      · subst c1
        exact ⟨nI (srt o w), by rw [if_pos rfl], by rw [if_pos (by decide), if_pos (by decide), if_neg (x_nn rfl)]⟩
      · rw [if_neg c1]
        by_cases c2 : a3 = 2
        · subst c2
          exact ⟨nI k, by rw [if_pos rfl], by rw [if_pos (by decide), if_pos (by decide), if_pos (by decide)]⟩
        · rw [if_neg c2]
          exact ⟨-2, rfl, by rw [win02 c0 c1 c2, if_neg (by decide)]⟩
  · have hw : win a2 0 (nI l.length - 1) = false := by simpa using hw
    rw [if_neg (by rw [hw]; decide)] at e5
    refine ⟨-2, ?_, ?_⟩
    · simp (disch := omega) only [↓xlet, xb_some, ↓reduceIte, cl_nI, nI_64, nI_add, nI_1, kg3 hL, kg4 hL, kg5 hL, kg6 hL, kg8 hL, kg9 hL, kg10 hL, kg12 hL, kg13 hL, kg14 hL, kg16 hL, kg17 hL, kg18 hL, kg0 hL, kg2 hL, kg7 hL, kg11 hL, kg15 hL, kg19 hL, kg21 hL, kg23 hL, kg25 hL, ↓xbs (lF0_0 hL), ↓xbs (lF0_2 hL), ↓xbs (lF0_3 hL), ↓xbs (lF0_4 hL), ↓xbs (lF0_5 hL), ↓xbs (lF0_6 hL), ↓xbs (lF0_7 hL), ↓xbs (lF0_8 hL), ↓xbs (lF0_9 hL), ↓xbs (lF2_2 hL), ↓xbs (lF2_3 hL), ↓xbs (lF2_4 hL), ↓xbs (lF2_5 hL), ↓xbs (lF7_1 hL), ↓xbs (lF7_2 hL), ↓xbs (lF7_3 hL), ↓xbs (lF11_1 hL), ↓xbs (lF11_2 hL), ↓xbs (lF11_3 hL), ↓xbs (lF15_1 hL), ↓xbs (lF15_2 hL), ↓xbs (lF15_3 hL), kg1 hL, lF1 hL, ↓xF1c hL, kgT hL, kgR1 hL, kgR3 hL, kgR5 hL, ↓xT5 hL, ↓xT6 hL, ↓xT7 hL, lT5 hL, lT6 hL, lT7 hL, ↓xbs e0, hl.go, hc.1, ↓xisW, bi_z, hw, not_true_eq_false]
    · simp (disch := omega) only [↓xlet, xb_some, ↓reduceIte, cl_nI, nI_64, nI_add, nI_1, kg124 hL, kg125 hL, kg126 hL, kg127 hL, kg128 hL, kg129 hL, kg130 hL, kg131 hL, kg132 hL, kg133 hL, kg134 hL, kg135 hL, kg136 hL, kg137 hL, kg138 hL, kg139 hL, kg140 hL, kg141 hL, kg142 hL, kg143 hL, kg144 hL, kg145 hL, kg146 hL, kg147 hL, kg123 hL, ↓xbs (lF123_1 hL), ↓xbs (lF123_2 hL), ↓xbs (lF123_3 hL), ↓xbs (lF123_4 hL), ↓xbs (lF123_5 hL), ↓xbs (lF123_6 hL), ↓xbs (lF123_7 hL), ↓xbs (lF123_8 hL), ↓xbs (lF123_9 hL), ↓xbs (lF123_10 hL), ↓xbs (lF123_11 hL), ↓xbs (lF123_12 hL), ↓xbs (lF123_13 hL), ↓xbs (lF123_14 hL), ↓xbs (lF123_15 hL), ↓xbs (lF123_16 hL), ↓xbs (lF123_22 hL), ↓xbs (lF123_23 hL), ↓xbs (lF123_24 hL), ↓xbs (lF123_25 hL), ↓xbs (lF123_26 hL), ↓xbs (lF123_27 hL), ↓xbs (lF123_28 hL), ↓xbs (lF123_29 hL), ↓xbs e5]
theorem rd_val1 (hL : Lay K F) {f off : Nat} {a1 a2 a3 : Int32} (hl : LstOk K F c m) (hc : CLst I J c l) (hr : RLst I J f off l) (hE : EOk m l) (ho : off + m ≤ 2400) (e0 : m0_changesOf 148 K F I J 0 a1 = some (some c)) (e5 : m5_placeOf 148 K F I J 123 a1 a2 = some (if win a2 0 (nI l.length - 1) = true then nI off + a2 else -1)) : ∃ x, m0_value 148 K F I J 0 a1 a2 a3 = some x ∧ m5_value 148 K F I J 123 a1 a2 a3 = some x := by
  have e2 : m5_isIn 148 K F I J a3.toInt64 0 1 = some (bi (win a3 0 1)) := m_in (by decide) (by decide)
  have hlen := hE.1
  have hm := hl.2.2.2.2.2.2.2.2.2
  unfold m0_value m5_value
  by_cases hw : win a2 0 (nI l.length - 1) = true
  · obtain ⟨i, hi, rfl⟩ := (win_n (by omega)).mp hw
    obtain ⟨⟨t, k, o, w⟩, e⟩ := get_ex hi
    obtain ⟨q1, q2, q3, q4, q5⟩ := hr.2 i t k o w e
    obtain ⟨c1, c2, c3⟩ := hc.2 i t k o w e
    have him : i < m := Nat.lt_of_lt_of_le hi hlen
    rw [if_pos hw] at e5
    simp (disch := omega) only [↓xlet, xb_some, ↓reduceIte, cl_nI, nI_64, nI_add, nI_1, kg3 hL, kg4 hL, kg5 hL, kg6 hL, kg8 hL, kg9 hL, kg10 hL, kg12 hL, kg13 hL, kg14 hL, kg16 hL, kg17 hL, kg18 hL, kg0 hL, kg2 hL, kg7 hL, kg11 hL, kg15 hL, kg19 hL, kg21 hL, kg23 hL, kg25 hL, ↓xbs (lF0_0 hL), ↓xbs (lF0_2 hL), ↓xbs (lF0_3 hL), ↓xbs (lF0_4 hL), ↓xbs (lF0_5 hL), ↓xbs (lF0_6 hL), ↓xbs (lF0_7 hL), ↓xbs (lF0_8 hL), ↓xbs (lF0_9 hL), ↓xbs (lF2_2 hL), ↓xbs (lF2_3 hL), ↓xbs (lF2_4 hL), ↓xbs (lF2_5 hL), ↓xbs (lF7_1 hL), ↓xbs (lF7_2 hL), ↓xbs (lF7_3 hL), ↓xbs (lF11_1 hL), ↓xbs (lF11_2 hL), ↓xbs (lF11_3 hL), ↓xbs (lF15_1 hL), ↓xbs (lF15_2 hL), ↓xbs (lF15_3 hL), kg1 hL, lF1 hL, ↓xF1c hL, kgT hL, kgR1 hL, kgR3 hL, kgR5 hL, ↓xT5 hL, ↓xT6 hL, ↓xT7 hL, lT5 hL, lT6 hL, lT7 hL, ↓xbs e0, hl.go, hc.1, ↓xisW, bi_z, hw, Bool.true_eq_false, not_false_eq_true, hl.2.2.2.1, hl.2.2.2.2.1, hl.g2 him, hl.g3 him, c2, c3]
    simp (disch := omega) only [↓xlet, xb_some, ↓reduceIte, cl_nI, nI_64, nI_add, nI_1, kg124 hL, kg125 hL, kg126 hL, kg127 hL, kg128 hL, kg129 hL, kg130 hL, kg131 hL, kg132 hL, kg133 hL, kg134 hL, kg135 hL, kg136 hL, kg137 hL, kg138 hL, kg139 hL, kg140 hL, kg141 hL, kg142 hL, kg143 hL, kg144 hL, kg145 hL, kg146 hL, kg147 hL, kg123 hL, ↓xbs (lF123_1 hL), ↓xbs (lF123_2 hL), ↓xbs (lF123_3 hL), ↓xbs (lF123_4 hL), ↓xbs (lF123_5 hL), ↓xbs (lF123_6 hL), ↓xbs (lF123_7 hL), ↓xbs (lF123_8 hL), ↓xbs (lF123_9 hL), ↓xbs (lF123_10 hL), ↓xbs (lF123_11 hL), ↓xbs (lF123_12 hL), ↓xbs (lF123_13 hL), ↓xbs (lF123_14 hL), ↓xbs (lF123_15 hL), ↓xbs (lF123_16 hL), ↓xbs (lF123_22 hL), ↓xbs (lF123_23 hL), ↓xbs (lF123_24 hL), ↓xbs (lF123_25 hL), ↓xbs (lF123_26 hL), ↓xbs (lF123_27 hL), ↓xbs (lF123_28 hL), ↓xbs (lF123_29 hL), ↓xbs e5, eqF (nI_m1 (show off + i < 2 ^ 31 by omega)), ↓xbs e2, bi_z, q4, q5]
    by_cases c0 : a3 = 0
    · subst c0
      exact ⟨o.getD 0, by rw [if_pos rfl], by rw [if_pos (by decide), if_neg (x_nn rfl)]⟩
    · rw [if_neg c0]
      by_cases c1 : a3 = 1
      · subst c1
        exact ⟨w.getD 0, by rw [if_pos rfl], by rw [if_pos (by decide), if_pos (by decide)]⟩
      · rw [if_neg c1]
        exact ⟨0, rfl, by rw [win01 c0 c1, if_neg (by decide)]⟩
  · have hw : win a2 0 (nI l.length - 1) = false := by simpa using hw
    rw [if_neg (by rw [hw]; decide)] at e5
    refine ⟨0, ?_, ?_⟩
    · simp (disch := omega) only [↓xlet, xb_some, ↓reduceIte, cl_nI, nI_64, nI_add, nI_1, kg3 hL, kg4 hL, kg5 hL, kg6 hL, kg8 hL, kg9 hL, kg10 hL, kg12 hL, kg13 hL, kg14 hL, kg16 hL, kg17 hL, kg18 hL, kg0 hL, kg2 hL, kg7 hL, kg11 hL, kg15 hL, kg19 hL, kg21 hL, kg23 hL, kg25 hL, ↓xbs (lF0_0 hL), ↓xbs (lF0_2 hL), ↓xbs (lF0_3 hL), ↓xbs (lF0_4 hL), ↓xbs (lF0_5 hL), ↓xbs (lF0_6 hL), ↓xbs (lF0_7 hL), ↓xbs (lF0_8 hL), ↓xbs (lF0_9 hL), ↓xbs (lF2_2 hL), ↓xbs (lF2_3 hL), ↓xbs (lF2_4 hL), ↓xbs (lF2_5 hL), ↓xbs (lF7_1 hL), ↓xbs (lF7_2 hL), ↓xbs (lF7_3 hL), ↓xbs (lF11_1 hL), ↓xbs (lF11_2 hL), ↓xbs (lF11_3 hL), ↓xbs (lF15_1 hL), ↓xbs (lF15_2 hL), ↓xbs (lF15_3 hL), kg1 hL, lF1 hL, ↓xF1c hL, kgT hL, kgR1 hL, kgR3 hL, kgR5 hL, ↓xT5 hL, ↓xT6 hL, ↓xT7 hL, lT5 hL, lT6 hL, lT7 hL, ↓xbs e0, hl.go, hc.1, ↓xisW, bi_z, hw, not_true_eq_false]
    · simp (disch := omega) only [↓xlet, xb_some, ↓reduceIte, cl_nI, nI_64, nI_add, nI_1, kg124 hL, kg125 hL, kg126 hL, kg127 hL, kg128 hL, kg129 hL, kg130 hL, kg131 hL, kg132 hL, kg133 hL, kg134 hL, kg135 hL, kg136 hL, kg137 hL, kg138 hL, kg139 hL, kg140 hL, kg141 hL, kg142 hL, kg143 hL, kg144 hL, kg145 hL, kg146 hL, kg147 hL, kg123 hL, ↓xbs (lF123_1 hL), ↓xbs (lF123_2 hL), ↓xbs (lF123_3 hL), ↓xbs (lF123_4 hL), ↓xbs (lF123_5 hL), ↓xbs (lF123_6 hL), ↓xbs (lF123_7 hL), ↓xbs (lF123_8 hL), ↓xbs (lF123_9 hL), ↓xbs (lF123_10 hL), ↓xbs (lF123_11 hL), ↓xbs (lF123_12 hL), ↓xbs (lF123_13 hL), ↓xbs (lF123_14 hL), ↓xbs (lF123_15 hL), ↓xbs (lF123_16 hL), ↓xbs (lF123_22 hL), ↓xbs (lF123_23 hL), ↓xbs (lF123_24 hL), ↓xbs (lF123_25 hL), ↓xbs (lF123_26 hL), ↓xbs (lF123_27 hL), ↓xbs (lF123_28 hL), ↓xbs (lF123_29 hL), ↓xbs e5]
theorem r_place {a1 a2 : Int32} {w0 : Int32} {off : Nat} (ho : (if ¬ a1 = 0 then (if ¬ a1 = (1 : Int32) then (some ((2300 : Int32) + a2)) else (some a2)) else (some ((1500 : Int32) + a2))) = some (nI off + a2)) : m5_placeOf_B36 148 K F I J a1 a2 w0 = some (if win a2 0 (w0 - 1) = true then nI off + a2 else -1) := by
  have e : m5_isIn 148 K F I J a2.toInt64 0 ((w0 - 1).toInt64) = some (bi (win a2 0 (w0 - 1))) := m_in (by decide) rfl
  unfold m5_placeOf_B36
  simp only [xb, e, Option.bind_some, bi_z, ho]
  cases win a2 0 (w0 - 1) <;> simp
theorem placeL (hL : Lay K F) (hC : CS I J n so o1 o2 p q ρ β bo b lg td nt κ) (hR : RS I J n so o1 o2 p q ρ β bo b lg td nt κ) (a1 a2 : Int32) : (∃ l c m f off, LstOk K F c m ∧ CLst I J c l ∧ RLst I J f off l ∧ (l = td ∧ m = 768 ∨ l = lg ∧ m = 1500 ∨ l = nt ∧ m = 64) ∧ off + m ≤ 2400 ∧ m0_changesOf 148 K F I J 0 a1 = some (some c) ∧ m5_placeOf 148 K F I J 123 a1 a2 = some (if win a2 0 (nI l.length - 1) = true then nI off + a2 else -1)) ∨ (m0_changesOf 148 K F I J 0 a1 = some none ∧ m5_placeOf 148 K F I J 123 a1 a2 = some (-1)) := by
  obtain ⟨h1, h2, h3, h4, h5, h6, h7, h8, h9, h10⟩ := hC
  obtain ⟨r1, r2, r3, r4, r5, r6, r7, r8⟩ := hR
  by_cases c0 : a1 = 0
  · refine Or.inl ⟨td, 11, 768, 18, 1500, lL11 hL, h7, r6, Or.inl ⟨rfl, rfl⟩, by decide, ?_, ?_⟩
    · unfold m0_changesOf; rw [if_pos c0]; simp (disch := omega) only [↓xlet, xb_some, ↓reduceIte, cl_nI, nI_64, nI_add, nI_1, kg3 hL, kg4 hL, kg5 hL, kg6 hL, kg8 hL, kg9 hL, kg10 hL, kg12 hL, kg13 hL, kg14 hL, kg16 hL, kg17 hL, kg18 hL, kg0 hL, kg2 hL, kg7 hL, kg11 hL, kg15 hL, kg19 hL, kg21 hL, kg23 hL, kg25 hL, ↓xbs (lF0_0 hL), ↓xbs (lF0_2 hL), ↓xbs (lF0_3 hL), ↓xbs (lF0_4 hL), ↓xbs (lF0_5 hL), ↓xbs (lF0_6 hL), ↓xbs (lF0_7 hL), ↓xbs (lF0_8 hL), ↓xbs (lF0_9 hL), ↓xbs (lF2_2 hL), ↓xbs (lF2_3 hL), ↓xbs (lF2_4 hL), ↓xbs (lF2_5 hL), ↓xbs (lF7_1 hL), ↓xbs (lF7_2 hL), ↓xbs (lF7_3 hL), ↓xbs (lF11_1 hL), ↓xbs (lF11_2 hL), ↓xbs (lF11_3 hL), ↓xbs (lF15_1 hL), ↓xbs (lF15_2 hL), ↓xbs (lF15_3 hL), kg1 hL, lF1 hL, ↓xF1c hL, kgT hL, kgR1 hL, kgR3 hL, kgR5 hL, ↓xT5 hL, ↓xT6 hL, ↓xT7 hL, lT5 hL, lT6 hL, lT7 hL]
    · unfold m5_placeOf; rw [if_neg (x_nn c0)]; simp (disch := omega) only [↓xlet, xb_some, ↓reduceIte, cl_nI, nI_64, nI_add, nI_1, kg124 hL, kg125 hL, kg126 hL, kg127 hL, kg128 hL, kg129 hL, kg130 hL, kg131 hL, kg132 hL, kg133 hL, kg134 hL, kg135 hL, kg136 hL, kg137 hL, kg138 hL, kg139 hL, kg140 hL, kg141 hL, kg142 hL, kg143 hL, kg144 hL, kg145 hL, kg146 hL, kg147 hL, kg123 hL, ↓xbs (lF123_1 hL), ↓xbs (lF123_2 hL), ↓xbs (lF123_3 hL), ↓xbs (lF123_4 hL), ↓xbs (lF123_5 hL), ↓xbs (lF123_6 hL), ↓xbs (lF123_7 hL), ↓xbs (lF123_8 hL), ↓xbs (lF123_9 hL), ↓xbs (lF123_10 hL), ↓xbs (lF123_11 hL), ↓xbs (lF123_12 hL), ↓xbs (lF123_13 hL), ↓xbs (lF123_14 hL), ↓xbs (lF123_15 hL), ↓xbs (lF123_16 hL), ↓xbs (lF123_22 hL), ↓xbs (lF123_23 hL), ↓xbs (lF123_24 hL), ↓xbs (lF123_25 hL), ↓xbs (lF123_26 hL), ↓xbs (lF123_27 hL), ↓xbs (lF123_28 hL), ↓xbs (lF123_29 hL), r6.1]; exact r_place (by rw [if_neg (x_nn c0)]; rfl)
  · by_cases c1 : a1 = 1
    · refine Or.inl ⟨lg, 7, 1500, 17, 0, lL7 hL, h6, r5, Or.inr (Or.inl ⟨rfl, rfl⟩), by decide, ?_, ?_⟩
      · unfold m0_changesOf; rw [if_neg c0, if_pos c1]; simp (disch := omega) only [↓xlet, xb_some, ↓reduceIte, cl_nI, nI_64, nI_add, nI_1, kg3 hL, kg4 hL, kg5 hL, kg6 hL, kg8 hL, kg9 hL, kg10 hL, kg12 hL, kg13 hL, kg14 hL, kg16 hL, kg17 hL, kg18 hL, kg0 hL, kg2 hL, kg7 hL, kg11 hL, kg15 hL, kg19 hL, kg21 hL, kg23 hL, kg25 hL, ↓xbs (lF0_0 hL), ↓xbs (lF0_2 hL), ↓xbs (lF0_3 hL), ↓xbs (lF0_4 hL), ↓xbs (lF0_5 hL), ↓xbs (lF0_6 hL), ↓xbs (lF0_7 hL), ↓xbs (lF0_8 hL), ↓xbs (lF0_9 hL), ↓xbs (lF2_2 hL), ↓xbs (lF2_3 hL), ↓xbs (lF2_4 hL), ↓xbs (lF2_5 hL), ↓xbs (lF7_1 hL), ↓xbs (lF7_2 hL), ↓xbs (lF7_3 hL), ↓xbs (lF11_1 hL), ↓xbs (lF11_2 hL), ↓xbs (lF11_3 hL), ↓xbs (lF15_1 hL), ↓xbs (lF15_2 hL), ↓xbs (lF15_3 hL), kg1 hL, lF1 hL, ↓xF1c hL, kgT hL, kgR1 hL, kgR3 hL, kgR5 hL, ↓xT5 hL, ↓xT6 hL, ↓xT7 hL, lT5 hL, lT6 hL, lT7 hL]
      · unfold m5_placeOf; rw [if_pos c0, if_neg (x_nn c1)]; simp (disch := omega) only [↓xlet, xb_some, ↓reduceIte, cl_nI, nI_64, nI_add, nI_1, kg124 hL, kg125 hL, kg126 hL, kg127 hL, kg128 hL, kg129 hL, kg130 hL, kg131 hL, kg132 hL, kg133 hL, kg134 hL, kg135 hL, kg136 hL, kg137 hL, kg138 hL, kg139 hL, kg140 hL, kg141 hL, kg142 hL, kg143 hL, kg144 hL, kg145 hL, kg146 hL, kg147 hL, kg123 hL, ↓xbs (lF123_1 hL), ↓xbs (lF123_2 hL), ↓xbs (lF123_3 hL), ↓xbs (lF123_4 hL), ↓xbs (lF123_5 hL), ↓xbs (lF123_6 hL), ↓xbs (lF123_7 hL), ↓xbs (lF123_8 hL), ↓xbs (lF123_9 hL), ↓xbs (lF123_10 hL), ↓xbs (lF123_11 hL), ↓xbs (lF123_12 hL), ↓xbs (lF123_13 hL), ↓xbs (lF123_14 hL), ↓xbs (lF123_15 hL), ↓xbs (lF123_16 hL), ↓xbs (lF123_22 hL), ↓xbs (lF123_23 hL), ↓xbs (lF123_24 hL), ↓xbs (lF123_25 hL), ↓xbs (lF123_26 hL), ↓xbs (lF123_27 hL), ↓xbs (lF123_28 hL), ↓xbs (lF123_29 hL), r5.1]; exact r_place (by rw [if_pos c0, if_neg (x_nn c1), nI_0, Int32.zero_add])
    · by_cases c2 : a1 = 2
      · refine Or.inl ⟨nt, 15, 64, 19, 2300, lL15 hL, h8, r7, Or.inr (Or.inr ⟨rfl, rfl⟩), by decide, ?_, ?_⟩
        · unfold m0_changesOf; rw [if_neg c0, if_neg c1, if_pos c2]; simp (disch := omega) only [↓xlet, xb_some, ↓reduceIte, cl_nI, nI_64, nI_add, nI_1, kg3 hL, kg4 hL, kg5 hL, kg6 hL, kg8 hL, kg9 hL, kg10 hL, kg12 hL, kg13 hL, kg14 hL, kg16 hL, kg17 hL, kg18 hL, kg0 hL, kg2 hL, kg7 hL, kg11 hL, kg15 hL, kg19 hL, kg21 hL, kg23 hL, kg25 hL, ↓xbs (lF0_0 hL), ↓xbs (lF0_2 hL), ↓xbs (lF0_3 hL), ↓xbs (lF0_4 hL), ↓xbs (lF0_5 hL), ↓xbs (lF0_6 hL), ↓xbs (lF0_7 hL), ↓xbs (lF0_8 hL), ↓xbs (lF0_9 hL), ↓xbs (lF2_2 hL), ↓xbs (lF2_3 hL), ↓xbs (lF2_4 hL), ↓xbs (lF2_5 hL), ↓xbs (lF7_1 hL), ↓xbs (lF7_2 hL), ↓xbs (lF7_3 hL), ↓xbs (lF11_1 hL), ↓xbs (lF11_2 hL), ↓xbs (lF11_3 hL), ↓xbs (lF15_1 hL), ↓xbs (lF15_2 hL), ↓xbs (lF15_3 hL), kg1 hL, lF1 hL, ↓xF1c hL, kgT hL, kgR1 hL, kgR3 hL, kgR5 hL, ↓xT5 hL, ↓xT6 hL, ↓xT7 hL, lT5 hL, lT6 hL, lT7 hL]
        · unfold m5_placeOf; rw [if_pos c0, if_pos c1, if_neg (x_nn c2)]; simp (disch := omega) only [↓xlet, xb_some, ↓reduceIte, cl_nI, nI_64, nI_add, nI_1, kg124 hL, kg125 hL, kg126 hL, kg127 hL, kg128 hL, kg129 hL, kg130 hL, kg131 hL, kg132 hL, kg133 hL, kg134 hL, kg135 hL, kg136 hL, kg137 hL, kg138 hL, kg139 hL, kg140 hL, kg141 hL, kg142 hL, kg143 hL, kg144 hL, kg145 hL, kg146 hL, kg147 hL, kg123 hL, ↓xbs (lF123_1 hL), ↓xbs (lF123_2 hL), ↓xbs (lF123_3 hL), ↓xbs (lF123_4 hL), ↓xbs (lF123_5 hL), ↓xbs (lF123_6 hL), ↓xbs (lF123_7 hL), ↓xbs (lF123_8 hL), ↓xbs (lF123_9 hL), ↓xbs (lF123_10 hL), ↓xbs (lF123_11 hL), ↓xbs (lF123_12 hL), ↓xbs (lF123_13 hL), ↓xbs (lF123_14 hL), ↓xbs (lF123_15 hL), ↓xbs (lF123_16 hL), ↓xbs (lF123_22 hL), ↓xbs (lF123_23 hL), ↓xbs (lF123_24 hL), ↓xbs (lF123_25 hL), ↓xbs (lF123_26 hL), ↓xbs (lF123_27 hL), ↓xbs (lF123_28 hL), ↓xbs (lF123_29 hL), r7.1]; exact r_place (by rw [if_pos c0, if_pos c1]; rfl)
      · refine Or.inr ⟨?_, ?_⟩
        · unfold m0_changesOf; rw [if_neg c0, if_neg c1, if_neg c2]
        · unfold m5_placeOf; rw [if_pos c0, if_pos c1, if_pos c2, r_place (off := 2300) (by rw [if_pos c0, if_pos c1]; rfl)]
          have : win a2 0 (0 - 1) = false := by
            rw [← Bool.not_eq_true]
            intro h
            obtain ⟨k, hk, _⟩ := (win_n (n := 0) (by decide)).mp h
            omega
          rw [this]; rfl
theorem rd_change (hL : Lay K F) (hW : WS n so o1 o2 p q ρ b lg td nt) (hC : CS I J n so o1 o2 p q ρ β bo b lg td nt κ) (hR : RS I J n so o1 o2 p q ρ β bo b lg td nt κ) (a1 a2 a3 : Int32) : ∃ x, m0_change 148 K F I J 0 a1 a2 a3 = some x ∧ m5_change 148 K F I J 123 a1 a2 a3 = some x := by
  obtain ⟨_, _, _, E1, E2, E3⟩ := hW
  rcases placeL hL hC hR a1 a2 with ⟨l, c, m, f, off, g1, g2, g3, g4, g5, g6, g7⟩ | ⟨z1, z2⟩
  · refine rd_chg1 hL g1 g2 g3 ?_ g5 g6 g7
    rcases g4 with ⟨rfl, rfl⟩ | ⟨rfl, rfl⟩ | ⟨rfl, rfl⟩ <;> assumption
  · refine ⟨-2, ?_, ?_⟩
    · unfold m0_change; simp (disch := omega) only [↓xlet, xb_some, ↓reduceIte, cl_nI, nI_64, nI_add, nI_1, kg3 hL, kg4 hL, kg5 hL, kg6 hL, kg8 hL, kg9 hL, kg10 hL, kg12 hL, kg13 hL, kg14 hL, kg16 hL, kg17 hL, kg18 hL, kg0 hL, kg2 hL, kg7 hL, kg11 hL, kg15 hL, kg19 hL, kg21 hL, kg23 hL, kg25 hL, ↓xbs (lF0_0 hL), ↓xbs (lF0_2 hL), ↓xbs (lF0_3 hL), ↓xbs (lF0_4 hL), ↓xbs (lF0_5 hL), ↓xbs (lF0_6 hL), ↓xbs (lF0_7 hL), ↓xbs (lF0_8 hL), ↓xbs (lF0_9 hL), ↓xbs (lF2_2 hL), ↓xbs (lF2_3 hL), ↓xbs (lF2_4 hL), ↓xbs (lF2_5 hL), ↓xbs (lF7_1 hL), ↓xbs (lF7_2 hL), ↓xbs (lF7_3 hL), ↓xbs (lF11_1 hL), ↓xbs (lF11_2 hL), ↓xbs (lF11_3 hL), ↓xbs (lF15_1 hL), ↓xbs (lF15_2 hL), ↓xbs (lF15_3 hL), kg1 hL, lF1 hL, ↓xF1c hL, kgT hL, kgR1 hL, kgR3 hL, kgR5 hL, ↓xT5 hL, ↓xT6 hL, ↓xT7 hL, lT5 hL, lT6 hL, lT7 hL, z1]
    · unfold m5_change; simp (disch := omega) only [↓xlet, xb_some, ↓reduceIte, cl_nI, nI_64, nI_add, nI_1, kg124 hL, kg125 hL, kg126 hL, kg127 hL, kg128 hL, kg129 hL, kg130 hL, kg131 hL, kg132 hL, kg133 hL, kg134 hL, kg135 hL, kg136 hL, kg137 hL, kg138 hL, kg139 hL, kg140 hL, kg141 hL, kg142 hL, kg143 hL, kg144 hL, kg145 hL, kg146 hL, kg147 hL, kg123 hL, ↓xbs (lF123_1 hL), ↓xbs (lF123_2 hL), ↓xbs (lF123_3 hL), ↓xbs (lF123_4 hL), ↓xbs (lF123_5 hL), ↓xbs (lF123_6 hL), ↓xbs (lF123_7 hL), ↓xbs (lF123_8 hL), ↓xbs (lF123_9 hL), ↓xbs (lF123_10 hL), ↓xbs (lF123_11 hL), ↓xbs (lF123_12 hL), ↓xbs (lF123_13 hL), ↓xbs (lF123_14 hL), ↓xbs (lF123_15 hL), ↓xbs (lF123_16 hL), ↓xbs (lF123_22 hL), ↓xbs (lF123_23 hL), ↓xbs (lF123_24 hL), ↓xbs (lF123_25 hL), ↓xbs (lF123_26 hL), ↓xbs (lF123_27 hL), ↓xbs (lF123_28 hL), ↓xbs (lF123_29 hL), z2]
theorem rd_value (hL : Lay K F) (hW : WS n so o1 o2 p q ρ b lg td nt) (hC : CS I J n so o1 o2 p q ρ β bo b lg td nt κ) (hR : RS I J n so o1 o2 p q ρ β bo b lg td nt κ) (a1 a2 a3 : Int32) : ∃ x, m0_value 148 K F I J 0 a1 a2 a3 = some x ∧ m5_value 148 K F I J 123 a1 a2 a3 = some x := by
  obtain ⟨_, _, _, E1, E2, E3⟩ := hW
  rcases placeL hL hC hR a1 a2 with ⟨l, c, m, f, off, g1, g2, g3, g4, g5, g6, g7⟩ | ⟨z1, z2⟩
  · refine rd_val1 hL g1 g2 g3 ?_ g5 g6 g7
    rcases g4 with ⟨rfl, rfl⟩ | ⟨rfl, rfl⟩ | ⟨rfl, rfl⟩ <;> assumption
  · refine ⟨0, ?_, ?_⟩
    · unfold m0_value; simp (disch := omega) only [↓xlet, xb_some, ↓reduceIte, cl_nI, nI_64, nI_add, nI_1, kg3 hL, kg4 hL, kg5 hL, kg6 hL, kg8 hL, kg9 hL, kg10 hL, kg12 hL, kg13 hL, kg14 hL, kg16 hL, kg17 hL, kg18 hL, kg0 hL, kg2 hL, kg7 hL, kg11 hL, kg15 hL, kg19 hL, kg21 hL, kg23 hL, kg25 hL, ↓xbs (lF0_0 hL), ↓xbs (lF0_2 hL), ↓xbs (lF0_3 hL), ↓xbs (lF0_4 hL), ↓xbs (lF0_5 hL), ↓xbs (lF0_6 hL), ↓xbs (lF0_7 hL), ↓xbs (lF0_8 hL), ↓xbs (lF0_9 hL), ↓xbs (lF2_2 hL), ↓xbs (lF2_3 hL), ↓xbs (lF2_4 hL), ↓xbs (lF2_5 hL), ↓xbs (lF7_1 hL), ↓xbs (lF7_2 hL), ↓xbs (lF7_3 hL), ↓xbs (lF11_1 hL), ↓xbs (lF11_2 hL), ↓xbs (lF11_3 hL), ↓xbs (lF15_1 hL), ↓xbs (lF15_2 hL), ↓xbs (lF15_3 hL), kg1 hL, lF1 hL, ↓xF1c hL, kgT hL, kgR1 hL, kgR3 hL, kgR5 hL, ↓xT5 hL, ↓xT6 hL, ↓xT7 hL, lT5 hL, lT6 hL, lT7 hL, z1]
    · unfold m5_value; simp (disch := omega) only [↓xlet, xb_some, ↓reduceIte, cl_nI, nI_64, nI_add, nI_1, kg124 hL, kg125 hL, kg126 hL, kg127 hL, kg128 hL, kg129 hL, kg130 hL, kg131 hL, kg132 hL, kg133 hL, kg134 hL, kg135 hL, kg136 hL, kg137 hL, kg138 hL, kg139 hL, kg140 hL, kg141 hL, kg142 hL, kg143 hL, kg144 hL, kg145 hL, kg146 hL, kg147 hL, kg123 hL, ↓xbs (lF123_1 hL), ↓xbs (lF123_2 hL), ↓xbs (lF123_3 hL), ↓xbs (lF123_4 hL), ↓xbs (lF123_5 hL), ↓xbs (lF123_6 hL), ↓xbs (lF123_7 hL), ↓xbs (lF123_8 hL), ↓xbs (lF123_9 hL), ↓xbs (lF123_10 hL), ↓xbs (lF123_11 hL), ↓xbs (lF123_12 hL), ↓xbs (lF123_13 hL), ↓xbs (lF123_14 hL), ↓xbs (lF123_15 hL), ↓xbs (lF123_16 hL), ↓xbs (lF123_22 hL), ↓xbs (lF123_23 hL), ↓xbs (lF123_24 hL), ↓xbs (lF123_25 hL), ↓xbs (lF123_26 hL), ↓xbs (lF123_27 hL), ↓xbs (lF123_28 hL), ↓xbs (lF123_29 hL), z2]
end
