/-! guards, as rules -/
section
variable {K : Nat → Nat × Nat} {F : Nat → Nat → Option Nat}
theorem kg3 (hL : Lay K F) {i : Nat} (h : i < 40) : (3 < 148 ∧ (K 3).1 = 1 ∧ xinb (nI i) (K 3).2) = True := eq_true ⟨by decide, by rw [lK3 hL], by rw [lK3 hL]; exact xinb_nI h (by decide)⟩
theorem kg4 (hL : Lay K F) {i : Nat} (h : i < 40) : (4 < 148 ∧ (K 4).1 = 1 ∧ xinb (nI i) (K 4).2) = True := eq_true ⟨by decide, by rw [lK4 hL], by rw [lK4 hL]; exact xinb_nI h (by decide)⟩
theorem kg5 (hL : Lay K F) {i : Nat} (h : i < 40) : (5 < 148 ∧ (K 5).1 = 3 ∧ xinb (nI i) (K 5).2) = True := eq_true ⟨by decide, by rw [lK5 hL], by rw [lK5 hL]; exact xinb_nI h (by decide)⟩
theorem kg6 (hL : Lay K F) {i : Nat} (h : i < 40) : (6 < 148 ∧ (K 6).1 = 2 ∧ xinb (nI i) (K 6).2) = True := eq_true ⟨by decide, by rw [lK6 hL], by rw [lK6 hL]; exact xinb_nI h (by decide)⟩
theorem kg8 (hL : Lay K F) {i : Nat} (h : i < 1500) : (8 < 148 ∧ (K 8).1 = 1 ∧ xinb (nI i) (K 8).2) = True := eq_true ⟨by decide, by rw [lK8 hL], by rw [lK8 hL]; exact xinb_nI h (by decide)⟩
theorem kg9 (hL : Lay K F) {i : Nat} (h : i < 1500) : (9 < 148 ∧ (K 9).1 = 2 ∧ xinb (nI i) (K 9).2) = True := eq_true ⟨by decide, by rw [lK9 hL], by rw [lK9 hL]; exact xinb_nI h (by decide)⟩
theorem kg10 (hL : Lay K F) {i : Nat} (h : i < 1500) : (10 < 148 ∧ (K 10).1 = 2 ∧ xinb (nI i) (K 10).2) = True := eq_true ⟨by decide, by rw [lK10 hL], by rw [lK10 hL]; exact xinb_nI h (by decide)⟩
theorem kg12 (hL : Lay K F) {i : Nat} (h : i < 768) : (12 < 148 ∧ (K 12).1 = 1 ∧ xinb (nI i) (K 12).2) = True := eq_true ⟨by decide, by rw [lK12 hL], by rw [lK12 hL]; exact xinb_nI h (by decide)⟩
theorem kg13 (hL : Lay K F) {i : Nat} (h : i < 768) : (13 < 148 ∧ (K 13).1 = 2 ∧ xinb (nI i) (K 13).2) = True := eq_true ⟨by decide, by rw [lK13 hL], by rw [lK13 hL]; exact xinb_nI h (by decide)⟩
theorem kg14 (hL : Lay K F) {i : Nat} (h : i < 768) : (14 < 148 ∧ (K 14).1 = 2 ∧ xinb (nI i) (K 14).2) = True := eq_true ⟨by decide, by rw [lK14 hL], by rw [lK14 hL]; exact xinb_nI h (by decide)⟩
theorem kg16 (hL : Lay K F) {i : Nat} (h : i < 64) : (16 < 148 ∧ (K 16).1 = 1 ∧ xinb (nI i) (K 16).2) = True := eq_true ⟨by decide, by rw [lK16 hL], by rw [lK16 hL]; exact xinb_nI h (by decide)⟩
theorem kg17 (hL : Lay K F) {i : Nat} (h : i < 64) : (17 < 148 ∧ (K 17).1 = 2 ∧ xinb (nI i) (K 17).2) = True := eq_true ⟨by decide, by rw [lK17 hL], by rw [lK17 hL]; exact xinb_nI h (by decide)⟩
theorem kg18 (hL : Lay K F) {i : Nat} (h : i < 64) : (18 < 148 ∧ (K 18).1 = 2 ∧ xinb (nI i) (K 18).2) = True := eq_true ⟨by decide, by rw [lK18 hL], by rw [lK18 hL]; exact xinb_nI h (by decide)⟩
theorem kg124 (hL : Lay K F) {i : Nat} (h : i < 12) : (124 < 148 ∧ (K 124).1 = 1 ∧ xinb (nI i) (K 124).2) = True := eq_true ⟨by decide, by rw [lK124 hL], by rw [lK124 hL]; exact xinb_nI h (by decide)⟩
theorem kg125 (hL : Lay K F) {i : Nat} (h : i < 12) : (125 < 148 ∧ (K 125).1 = 1 ∧ xinb (nI i) (K 125).2) = True := eq_true ⟨by decide, by rw [lK125 hL], by rw [lK125 hL]; exact xinb_nI h (by decide)⟩
theorem kg126 (hL : Lay K F) {i : Nat} (h : i < 12) : (126 < 148 ∧ (K 126).1 = 1 ∧ xinb (nI i) (K 126).2) = True := eq_true ⟨by decide, by rw [lK126 hL], by rw [lK126 hL]; exact xinb_nI h (by decide)⟩
theorem kg127 (hL : Lay K F) {i : Nat} (h : i < 12) : (127 < 148 ∧ (K 127).1 = 2 ∧ xinb (nI i) (K 127).2) = True := eq_true ⟨by decide, by rw [lK127 hL], by rw [lK127 hL]; exact xinb_nI h (by decide)⟩
theorem kg128 (hL : Lay K F) {i : Nat} (h : i < 12) : (128 < 148 ∧ (K 128).1 = 2 ∧ xinb (nI i) (K 128).2) = True := eq_true ⟨by decide, by rw [lK128 hL], by rw [lK128 hL]; exact xinb_nI h (by decide)⟩
theorem kg129 (hL : Lay K F) {i : Nat} (h : i < 768) : (129 < 148 ∧ (K 129).1 = 3 ∧ xinb (nI i) (K 129).2) = True := eq_true ⟨by decide, by rw [lK129 hL], by rw [lK129 hL]; exact xinb_nI h (by decide)⟩
theorem kg130 (hL : Lay K F) {i : Nat} (h : i < 768) : (130 < 148 ∧ (K 130).1 = 2 ∧ xinb (nI i) (K 130).2) = True := eq_true ⟨by decide, by rw [lK130 hL], by rw [lK130 hL]; exact xinb_nI h (by decide)⟩
theorem kg131 (hL : Lay K F) {i : Nat} (h : i < 768) : (131 < 148 ∧ (K 131).1 = 3 ∧ xinb (nI i) (K 131).2) = True := eq_true ⟨by decide, by rw [lK131 hL], by rw [lK131 hL]; exact xinb_nI h (by decide)⟩
theorem kg132 (hL : Lay K F) {i : Nat} (h : i < 768) : (132 < 148 ∧ (K 132).1 = 2 ∧ xinb (nI i) (K 132).2) = True := eq_true ⟨by decide, by rw [lK132 hL], by rw [lK132 hL]; exact xinb_nI h (by decide)⟩
theorem kg133 (hL : Lay K F) {i : Nat} (h : i < 768) : (133 < 148 ∧ (K 133).1 = 3 ∧ xinb (nI i) (K 133).2) = True := eq_true ⟨by decide, by rw [lK133 hL], by rw [lK133 hL]; exact xinb_nI h (by decide)⟩
theorem kg134 (hL : Lay K F) {i : Nat} (h : i < 768) : (134 < 148 ∧ (K 134).1 = 2 ∧ xinb (nI i) (K 134).2) = True := eq_true ⟨by decide, by rw [lK134 hL], by rw [lK134 hL]; exact xinb_nI h (by decide)⟩
theorem kg135 (hL : Lay K F) {i : Nat} (h : i < 2400) : (135 < 148 ∧ (K 135).1 = 1 ∧ xinb (nI i) (K 135).2) = True := eq_true ⟨by decide, by rw [lK135 hL], by rw [lK135 hL]; exact xinb_nI h (by decide)⟩
theorem kg136 (hL : Lay K F) {i : Nat} (h : i < 2400) : (136 < 148 ∧ (K 136).1 = 1 ∧ xinb (nI i) (K 136).2) = True := eq_true ⟨by decide, by rw [lK136 hL], by rw [lK136 hL]; exact xinb_nI h (by decide)⟩
theorem kg137 (hL : Lay K F) {i : Nat} (h : i < 2400) : (137 < 148 ∧ (K 137).1 = 1 ∧ xinb (nI i) (K 137).2) = True := eq_true ⟨by decide, by rw [lK137 hL], by rw [lK137 hL]; exact xinb_nI h (by decide)⟩
theorem kg138 (hL : Lay K F) {i : Nat} (h : i < 2400) : (138 < 148 ∧ (K 138).1 = 2 ∧ xinb (nI i) (K 138).2) = True := eq_true ⟨by decide, by rw [lK138 hL], by rw [lK138 hL]; exact xinb_nI h (by decide)⟩
theorem kg139 (hL : Lay K F) {i : Nat} (h : i < 2400) : (139 < 148 ∧ (K 139).1 = 2 ∧ xinb (nI i) (K 139).2) = True := eq_true ⟨by decide, by rw [lK139 hL], by rw [lK139 hL]; exact xinb_nI h (by decide)⟩
theorem kg140 (hL : Lay K F) {i : Nat} (h : i < 40) : (140 < 148 ∧ (K 140).1 = 1 ∧ xinb (nI i) (K 140).2) = True := eq_true ⟨by decide, by rw [lK140 hL], by rw [lK140 hL]; exact xinb_nI h (by decide)⟩
theorem kg141 (hL : Lay K F) {i : Nat} (h : i < 40) : (141 < 148 ∧ (K 141).1 = 1 ∧ xinb (nI i) (K 141).2) = True := eq_true ⟨by decide, by rw [lK141 hL], by rw [lK141 hL]; exact xinb_nI h (by decide)⟩
theorem kg142 (hL : Lay K F) {i : Nat} (h : i < 40) : (142 < 148 ∧ (K 142).1 = 3 ∧ xinb (nI i) (K 142).2) = True := eq_true ⟨by decide, by rw [lK142 hL], by rw [lK142 hL]; exact xinb_nI h (by decide)⟩
theorem kg143 (hL : Lay K F) {i : Nat} (h : i < 40) : (143 < 148 ∧ (K 143).1 = 2 ∧ xinb (nI i) (K 143).2) = True := eq_true ⟨by decide, by rw [lK143 hL], by rw [lK143 hL]; exact xinb_nI h (by decide)⟩
theorem kg144 (hL : Lay K F) {i : Nat} (h : i < 64) : (144 < 148 ∧ (K 144).1 = 3 ∧ xinb (nI i) (K 144).2) = True := eq_true ⟨by decide, by rw [lK144 hL], by rw [lK144 hL]; exact xinb_nI h (by decide)⟩
theorem kg145 (hL : Lay K F) {i : Nat} (h : i < 64) : (145 < 148 ∧ (K 145).1 = 2 ∧ xinb (nI i) (K 145).2) = True := eq_true ⟨by decide, by rw [lK145 hL], by rw [lK145 hL]; exact xinb_nI h (by decide)⟩
theorem kg146 (hL : Lay K F) {i : Nat} (h : i < 64) : (146 < 148 ∧ (K 146).1 = 3 ∧ xinb (nI i) (K 146).2) = True := eq_true ⟨by decide, by rw [lK146 hL], by rw [lK146 hL]; exact xinb_nI h (by decide)⟩
theorem kg147 (hL : Lay K F) {i : Nat} (h : i < 64) : (147 < 148 ∧ (K 147).1 = 2 ∧ xinb (nI i) (K 147).2) = True := eq_true ⟨by decide, by rw [lK147 hL], by rw [lK147 hL]; exact xinb_nI h (by decide)⟩
theorem kg0 (hL : Lay K F) : (0 < 148 ∧ K 0 = (0, 0)) = True := eq_true ⟨by decide, lK0 hL⟩
theorem kg2 (hL : Lay K F) : (2 < 148 ∧ K 2 = (0, 1)) = True := eq_true ⟨by decide, lK2 hL⟩
theorem kg7 (hL : Lay K F) : (7 < 148 ∧ K 7 = (0, 2)) = True := eq_true ⟨by decide, lK7 hL⟩
theorem kg11 (hL : Lay K F) : (11 < 148 ∧ K 11 = (0, 2)) = True := eq_true ⟨by decide, lK11 hL⟩
theorem kg15 (hL : Lay K F) : (15 < 148 ∧ K 15 = (0, 2)) = True := eq_true ⟨by decide, lK15 hL⟩
theorem kg19 (hL : Lay K F) : (19 < 148 ∧ K 19 = (0, 3)) = True := eq_true ⟨by decide, (lR19 hL).2.1⟩
theorem kg21 (hL : Lay K F) : (21 < 148 ∧ K 21 = (0, 3)) = True := eq_true ⟨by decide, (lR21 hL).2.1⟩
theorem kg23 (hL : Lay K F) : (23 < 148 ∧ K 23 = (0, 3)) = True := eq_true ⟨by decide, (lR23 hL).2.1⟩
theorem kg25 (hL : Lay K F) : (25 < 148 ∧ K 25 = (0, 3)) = True := eq_true ⟨by decide, (lR25 hL).2.1⟩
theorem kg123 (hL : Lay K F) : (123 < 148 ∧ K 123 = (0, 5)) = True := eq_true ⟨by decide, lK123 hL⟩
theorem kg1 (hL : Lay K F) {t : Nat} (h : t < 12) : (1 < 148 ∧ (K 1).1 = 4 ∧ xinb (nI t) (K 1).2) = True := eq_true ⟨by decide, by rw [lK1 hL], by rw [lK1 hL]; exact xinb_nI h (by decide)⟩
theorem kgT (hL : Lay K F) {t : Nat} (h : t < 12) : (27 + 8 * t < 148 ∧ K (27 + 8 * t) = (0, 4)) = True := eq_true ⟨(lT hL h).1, (lT hL h).2.1⟩
theorem lRT1 (hL : Lay K F) {t : Nat} (h : t < 12) : RowsOk K F (27 + 8 * t + 1) := (lT hL h).2.2.2.2.2.2.2.2.1
theorem kgR1 (hL : Lay K F) {t : Nat} (h : t < 12) : (27 + 8 * t + 1 < 148 ∧ K (27 + 8 * t + 1) = (0, 3)) = True := eq_true ⟨(lRT1 hL h).1, (lRT1 hL h).2.1⟩
theorem lRT3 (hL : Lay K F) {t : Nat} (h : t < 12) : RowsOk K F (27 + 8 * t + 3) := (lT hL h).2.2.2.2.2.2.2.2.2.1
theorem kgR3 (hL : Lay K F) {t : Nat} (h : t < 12) : (27 + 8 * t + 3 < 148 ∧ K (27 + 8 * t + 3) = (0, 3)) = True := eq_true ⟨(lRT3 hL h).1, (lRT3 hL h).2.1⟩
theorem lRT5 (hL : Lay K F) {t : Nat} (h : t < 12) : RowsOk K F (27 + 8 * t + 5) := (lT hL h).2.2.2.2.2.2.2.2.2.2
theorem kgR5 (hL : Lay K F) {t : Nat} (h : t < 12) : (27 + 8 * t + 5 < 148 ∧ K (27 + 8 * t + 5) = (0, 3)) = True := eq_true ⟨(lRT5 hL h).1, (lRT5 hL h).2.1⟩
theorem lT5 (hL : Lay K F) {t : Nat} (h : t < 12) : F (27 + 8 * t) 5 = some (27 + 8 * t + 1) := (lT hL h).2.2.1
theorem lT6 (hL : Lay K F) {t : Nat} (h : t < 12) : F (27 + 8 * t) 6 = some (27 + 8 * t + 3) := (lT hL h).2.2.2.1
theorem lT7 (hL : Lay K F) {t : Nat} (h : t < 12) : F (27 + 8 * t) 7 = some (27 + 8 * t + 5) := (lT hL h).2.2.2.2.1
end
/-! bindings, as rules -/
theorem xbs {α β : Type} {A : Option α} {x : α} (e : A = some x) (f : α → Option β) : xb A f = f x := by rw [e]; rfl
section
variable {K : Nat → Nat × Nat} {F : Nat → Nat → Option Nat} {β : Type}
theorem xF1 (hL : Lay K F) {t : Nat} (h : t < 12) (f : Nat → Option β) : xb (F 1 t) f = f (27 + 8 * t) := xbs (lF1 hL h) f
theorem xb_some {α : Type} {x : α} (f : α → Option β) : xb (some x) f = f x := rfl
theorem xF1c (hL : Lay K F) {t : Nat} (h : t < 12) (f : Nat → Option β) : xb (F 1 ((nI t).toNatClampNeg)) f = f (27 + 8 * t) := by rw [cl_nI (by omega)]; exact xbs (lF1 hL h) f
theorem xT5 (hL : Lay K F) {t : Nat} (h : t < 12) (f : Nat → Option β) : xb (F (27 + 8 * t) 5) f = f (27 + 8 * t + 1) := xbs (lT5 hL h) f
theorem xT6 (hL : Lay K F) {t : Nat} (h : t < 12) (f : Nat → Option β) : xb (F (27 + 8 * t) 6) f = f (27 + 8 * t + 3) := xbs (lT6 hL h) f
theorem xT7 (hL : Lay K F) {t : Nat} (h : t < 12) (f : Nat → Option β) : xb (F (27 + 8 * t) 7) f = f (27 + 8 * t + 5) := xbs (lT7 hL h) f
end
/-! bounds of numbers -/
def win (a lo hi : Int32) : Bool := decide (lo ≤ a) && decide (a ≤ hi)
theorem win_iff {a lo hi : Int32} : win a lo hi = true ↔ lo.toInt ≤ a.toInt ∧ a.toInt ≤ hi.toInt := by
  unfold win
  rw [Bool.and_eq_true, decide_eq_true_eq, decide_eq_true_eq, Int32.le_iff_toInt_le, Int32.le_iff_toInt_le]
theorem bi_01 (b : Bool) : bi b = 0 ∨ bi b = 1 := by cases b <;> simp [bi]
theorem bi_1 {b : Bool} : bi b = 1 ↔ b = true := by cases b <;> simp [bi]
theorem bi_inj {a b : Bool} : bi a = bi b ↔ a = b := by cases a <;> cases b <;> simp [bi]
theorem m_within {N : Nat} {K : Nat → Nat × Nat} {F : Nat → Nat → Option Nat} {I : Nat → Nat → Int32} {J : Nat → Nat → Int64} {a lo hi : Int32} : m0_isWithin N K F I J a lo hi = some (bi (win a lo hi)) := by
  unfold m0_isWithin win
  by_cases c1 : a < lo
  · rw [if_pos c1]; simp [Int32.not_le.mpr c1, bi]
  · rw [if_neg c1]
    by_cases c2 : hi < a
    · rw [if_pos c2]; simp [Int32.not_le.mpr c2, bi]
    · rw [if_neg c2]; simp [Int32.not_lt.mp c1, Int32.not_lt.mp c2, bi]
theorem m_in {N : Nat} {K : Nat → Nat × Nat} {F : Nat → Nat → Option Nat} {I : Nat → Nat → Int32} {J : Nat → Nat → Int64} {a lo hi : Int32} {x y : Int64} (hx : x = lo.toInt64) (hy : y = hi.toInt64) : m5_isIn N K F I J a.toInt64 x y = some (bi (win a lo hi)) := by
  have e1 : (a.toInt64 < lo.toInt64) ↔ a < lo := by rw [Int64.lt_iff_toInt_lt, Int32.lt_iff_toInt_lt, Int32.toInt_toInt64, Int32.toInt_toInt64]
  have e2 : (hi.toInt64 < a.toInt64) ↔ hi < a := by rw [Int64.lt_iff_toInt_lt, Int32.lt_iff_toInt_lt, Int32.toInt_toInt64, Int32.toInt_toInt64]
  rw [← m_within (N := N) (K := K) (F := F) (I := I) (J := J)]
  unfold m5_isIn m0_isWithin
  rw [hx, hy]
  simp only [e1, e2]
theorem win_n {a : Int32} {n : Nat} (hn : n < 2 ^ 31) : win a 0 (nI n - 1) = true ↔ ∃ k, k < n ∧ a = nI k := by
  have h1 : (nI n - 1).toInt = (n : Int) - 1 := by
    rcases Nat.eq_zero_or_pos n with z | z
    · subst z; decide
    · obtain ⟨m, rfl⟩ : ∃ m, n = m + 1 := ⟨n - 1, by omega⟩
      rw [nI_pred, nI_toInt (by omega)]; omega
  rw [win_iff, h1]
  have h0 : (0 : Int32).toInt = 0 := by decide
  rw [h0]
  constructor
  · rintro ⟨p, q⟩
    obtain ⟨k, h2, rfl⟩ := nI_of (x := a) (by rw [Int32.lt_iff_toInt_lt, h0]; omega)
    rw [nI_toInt h2] at q
    exact ⟨k, by omega, rfl⟩
  · rintro ⟨k, h2, rfl⟩
    rw [nI_toInt (by omega)]
    omega
theorem win_m {a : Int32} {n : Nat} (hn : n < 2 ^ 31) : win a 0 (nI n) = true ↔ ∃ k, k ≤ n ∧ a = nI k := by
  rw [win_iff, nI_toInt hn]
  have h0 : (0 : Int32).toInt = 0 := by decide
  rw [h0]
  constructor
  · rintro ⟨p, q⟩
    obtain ⟨k, h2, rfl⟩ := nI_of (x := a) (by rw [Int32.lt_iff_toInt_lt, h0]; omega)
    rw [nI_toInt h2] at q
    exact ⟨k, by omega, rfl⟩
  · rintro ⟨k, h2, rfl⟩
    rw [nI_toInt (by omega)]
    omega
theorem win_mm {a : Int32} {l n : Nat} (hn : n < 2 ^ 31) (hl : l < 2 ^ 31) : win a (nI l) (nI n) = true ↔ ∃ k, l ≤ k ∧ k ≤ n ∧ a = nI k := by
  rw [win_iff, nI_toInt hn, nI_toInt hl]
  constructor
  · rintro ⟨p, q⟩
    obtain ⟨k, h2, rfl⟩ := nI_of (x := a) (by rw [Int32.lt_iff_toInt_lt, show (0 : Int32).toInt = 0 by decide]; omega)
    rw [nI_toInt h2] at p q
    exact ⟨k, by omega, by omega, rfl⟩
  · rintro ⟨k, h1, h2, rfl⟩
    rw [nI_toInt (by omega)]
    omega
theorem win_key {a : Int32} : win a 0 63 = true ↔ ∃ k, k < 64 ∧ a = nI k := by
  have := win_m (a := a) (n := 63) (by decide)
  rw [show (63 : Int32) = nI 63 by decide, this]
  exact ⟨fun ⟨k, h, e⟩ => ⟨k, by omega, e⟩, fun ⟨k, h, e⟩ => ⟨k, by omega, e⟩⟩
section
variable {K : Nat → Nat × Nat} {F : Nat → Nat → Option Nat} {I : Nat → Nat → Int32} {J : Nat → Nat → Int64}
theorem c_isTable (hL : Lay K F) {n : Nat} (h : I 0 1 = nI n) (a : Int32) : m0_isTable 148 K F I J 0 a = some (bi (win a 0 (nI n - 1))) := by
  unfold m0_isTable
  rw [if_pos ⟨by decide, lK0 hL⟩, m_within, h]
  simp only [xb, Option.bind_some]
  rw [if_pos (bi_01 _)]
theorem c_isKey (a : Int32) : m0_isKey 148 K F I J a = some (bi (win a 0 63)) := by
  unfold m0_isKey
  rw [m_within]
  simp only [xb, Option.bind_some]
  rw [if_pos (bi_01 _)]
theorem r_isTable (hL : Lay K F) {n : Nat} (h : I 123 0 = nI n) (a : Int32) : m5_isTable 148 K F I J 123 a = some (bi (win a 0 (nI n - 1))) := by
  unfold m5_isTable
  rw [if_pos ⟨by decide, lK123 hL⟩, h, m_in (a := a) (lo := 0) (hi := nI n - 1) (by decide) rfl]
  simp only [xb, Option.bind_some]
  rw [if_pos (bi_01 _)]
variable {β : Type}
theorem xisT (hL : Lay K F) {n : Nat} (h : I 0 1 = nI n) (a : Int32) (f : Int32 → Option β) : xb (m0_isTable 148 K F I J 0 a) f = f (bi (win a 0 (nI n - 1))) := xbs (c_isTable hL h a) f
theorem xisK (a : Int32) (f : Int32 → Option β) : xb (m0_isKey 148 K F I J a) f = f (bi (win a 0 63)) := xbs (c_isKey a) f
theorem xisW (a lo hi : Int32) (f : Int32 → Option β) : xb (m0_isWithin 148 K F I J a lo hi) f = f (bi (win a lo hi)) := xbs m_within f
theorem xrT (hL : Lay K F) {n : Nat} (h : I 123 0 = nI n) (a : Int32) (f : Int32 → Option β) : xb (m5_isTable 148 K F I J 123 a) f = f (bi (win a 0 (nI n - 1))) := xbs (r_isTable hL h a) f
end
