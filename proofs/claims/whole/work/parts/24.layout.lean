/-! the layout, fact by fact -/
theorem lyk {K : Nat → Nat × Nat} {F : Nat → Nat → Option Nat} (h : Lay K F) {k : Nat} {x : Nat × Nat} (hk : k < 148) (e : kTab k = x) : K k = x := (h.1 k hk).trans e
theorem lyf {K : Nat → Nat × Nat} {F : Nat → Nat → Option Nat} (h : Lay K F) {k j q : Nat} (hk : k < 148) (hj : j < 30) (e : fTab k j = some q) : F k j = some q := (h.2 k hk j hj (by rw [e]; exact fun z => by cases z)).trans e
section
variable {K : Nat → Nat × Nat} {F : Nat → Nat → Option Nat}
theorem lK0 (h : Lay K F) : K 0 = (0, 0) := lyk h (by decide) (by decide)
theorem lK1 (h : Lay K F) : K 1 = (4, 12) := lyk h (by decide) (by decide)
theorem lK2 (h : Lay K F) : K 2 = (0, 1) := lyk h (by decide) (by decide)
theorem lK3 (h : Lay K F) : K 3 = (1, 40) := lyk h (by decide) (by decide)
theorem lK4 (h : Lay K F) : K 4 = (1, 40) := lyk h (by decide) (by decide)
theorem lK5 (h : Lay K F) : K 5 = (3, 40) := lyk h (by decide) (by decide)
theorem lK6 (h : Lay K F) : K 6 = (2, 40) := lyk h (by decide) (by decide)
theorem lK7 (h : Lay K F) : K 7 = (0, 2) := lyk h (by decide) (by decide)
theorem lK8 (h : Lay K F) : K 8 = (1, 1500) := lyk h (by decide) (by decide)
theorem lK9 (h : Lay K F) : K 9 = (2, 1500) := lyk h (by decide) (by decide)
theorem lK10 (h : Lay K F) : K 10 = (2, 1500) := lyk h (by decide) (by decide)
theorem lK11 (h : Lay K F) : K 11 = (0, 2) := lyk h (by decide) (by decide)
theorem lK12 (h : Lay K F) : K 12 = (1, 768) := lyk h (by decide) (by decide)
theorem lK13 (h : Lay K F) : K 13 = (2, 768) := lyk h (by decide) (by decide)
theorem lK14 (h : Lay K F) : K 14 = (2, 768) := lyk h (by decide) (by decide)
theorem lK15 (h : Lay K F) : K 15 = (0, 2) := lyk h (by decide) (by decide)
theorem lK16 (h : Lay K F) : K 16 = (1, 64) := lyk h (by decide) (by decide)
theorem lK17 (h : Lay K F) : K 17 = (2, 64) := lyk h (by decide) (by decide)
theorem lK18 (h : Lay K F) : K 18 = (2, 64) := lyk h (by decide) (by decide)
theorem lK123 (h : Lay K F) : K 123 = (0, 5) := lyk h (by decide) (by decide)
theorem lK124 (h : Lay K F) : K 124 = (1, 12) := lyk h (by decide) (by decide)
theorem lK125 (h : Lay K F) : K 125 = (1, 12) := lyk h (by decide) (by decide)
theorem lK126 (h : Lay K F) : K 126 = (1, 12) := lyk h (by decide) (by decide)
theorem lK127 (h : Lay K F) : K 127 = (2, 12) := lyk h (by decide) (by decide)
theorem lK128 (h : Lay K F) : K 128 = (2, 12) := lyk h (by decide) (by decide)
theorem lK129 (h : Lay K F) : K 129 = (3, 768) := lyk h (by decide) (by decide)
theorem lK130 (h : Lay K F) : K 130 = (2, 768) := lyk h (by decide) (by decide)
theorem lK131 (h : Lay K F) : K 131 = (3, 768) := lyk h (by decide) (by decide)
theorem lK132 (h : Lay K F) : K 132 = (2, 768) := lyk h (by decide) (by decide)
theorem lK133 (h : Lay K F) : K 133 = (3, 768) := lyk h (by decide) (by decide)
theorem lK134 (h : Lay K F) : K 134 = (2, 768) := lyk h (by decide) (by decide)
theorem lK135 (h : Lay K F) : K 135 = (1, 2400) := lyk h (by decide) (by decide)
theorem lK136 (h : Lay K F) : K 136 = (1, 2400) := lyk h (by decide) (by decide)
theorem lK137 (h : Lay K F) : K 137 = (1, 2400) := lyk h (by decide) (by decide)
theorem lK138 (h : Lay K F) : K 138 = (2, 2400) := lyk h (by decide) (by decide)
theorem lK139 (h : Lay K F) : K 139 = (2, 2400) := lyk h (by decide) (by decide)
theorem lK140 (h : Lay K F) : K 140 = (1, 40) := lyk h (by decide) (by decide)
theorem lK141 (h : Lay K F) : K 141 = (1, 40) := lyk h (by decide) (by decide)
theorem lK142 (h : Lay K F) : K 142 = (3, 40) := lyk h (by decide) (by decide)
theorem lK143 (h : Lay K F) : K 143 = (2, 40) := lyk h (by decide) (by decide)
theorem lK144 (h : Lay K F) : K 144 = (3, 64) := lyk h (by decide) (by decide)
theorem lK145 (h : Lay K F) : K 145 = (2, 64) := lyk h (by decide) (by decide)
theorem lK146 (h : Lay K F) : K 146 = (3, 64) := lyk h (by decide) (by decide)
theorem lK147 (h : Lay K F) : K 147 = (2, 64) := lyk h (by decide) (by decide)
theorem lF0_0 (h : Lay K F) : F 0 0 = some 1 := lyf h (by decide) (by decide) (by decide)
theorem lF0_2 (h : Lay K F) : F 0 2 = some 2 := lyf h (by decide) (by decide) (by decide)
theorem lF0_3 (h : Lay K F) : F 0 3 = some 7 := lyf h (by decide) (by decide) (by decide)
theorem lF0_4 (h : Lay K F) : F 0 4 = some 11 := lyf h (by decide) (by decide) (by decide)
theorem lF0_5 (h : Lay K F) : F 0 5 = some 15 := lyf h (by decide) (by decide) (by decide)
theorem lF0_6 (h : Lay K F) : F 0 6 = some 19 := lyf h (by decide) (by decide) (by decide)
theorem lF0_7 (h : Lay K F) : F 0 7 = some 21 := lyf h (by decide) (by decide) (by decide)
theorem lF0_8 (h : Lay K F) : F 0 8 = some 23 := lyf h (by decide) (by decide) (by decide)
theorem lF0_9 (h : Lay K F) : F 0 9 = some 25 := lyf h (by decide) (by decide) (by decide)
theorem lF2_2 (h : Lay K F) : F 2 2 = some 3 := lyf h (by decide) (by decide) (by decide)
theorem lF2_3 (h : Lay K F) : F 2 3 = some 4 := lyf h (by decide) (by decide) (by decide)
theorem lF2_4 (h : Lay K F) : F 2 4 = some 5 := lyf h (by decide) (by decide) (by decide)
theorem lF2_5 (h : Lay K F) : F 2 5 = some 6 := lyf h (by decide) (by decide) (by decide)
theorem lF7_1 (h : Lay K F) : F 7 1 = some 8 := lyf h (by decide) (by decide) (by decide)
theorem lF7_2 (h : Lay K F) : F 7 2 = some 9 := lyf h (by decide) (by decide) (by decide)
theorem lF7_3 (h : Lay K F) : F 7 3 = some 10 := lyf h (by decide) (by decide) (by decide)
theorem lF11_1 (h : Lay K F) : F 11 1 = some 12 := lyf h (by decide) (by decide) (by decide)
theorem lF11_2 (h : Lay K F) : F 11 2 = some 13 := lyf h (by decide) (by decide) (by decide)
theorem lF11_3 (h : Lay K F) : F 11 3 = some 14 := lyf h (by decide) (by decide) (by decide)
theorem lF15_1 (h : Lay K F) : F 15 1 = some 16 := lyf h (by decide) (by decide) (by decide)
theorem lF15_2 (h : Lay K F) : F 15 2 = some 17 := lyf h (by decide) (by decide) (by decide)
theorem lF15_3 (h : Lay K F) : F 15 3 = some 18 := lyf h (by decide) (by decide) (by decide)
theorem lF123_1 (h : Lay K F) : F 123 1 = some 124 := lyf h (by decide) (by decide) (by decide)
theorem lF123_2 (h : Lay K F) : F 123 2 = some 125 := lyf h (by decide) (by decide) (by decide)
theorem lF123_3 (h : Lay K F) : F 123 3 = some 126 := lyf h (by decide) (by decide) (by decide)
theorem lF123_4 (h : Lay K F) : F 123 4 = some 127 := lyf h (by decide) (by decide) (by decide)
theorem lF123_5 (h : Lay K F) : F 123 5 = some 128 := lyf h (by decide) (by decide) (by decide)
theorem lF123_6 (h : Lay K F) : F 123 6 = some 129 := lyf h (by decide) (by decide) (by decide)
theorem lF123_7 (h : Lay K F) : F 123 7 = some 130 := lyf h (by decide) (by decide) (by decide)
theorem lF123_8 (h : Lay K F) : F 123 8 = some 131 := lyf h (by decide) (by decide) (by decide)
theorem lF123_9 (h : Lay K F) : F 123 9 = some 132 := lyf h (by decide) (by decide) (by decide)
theorem lF123_10 (h : Lay K F) : F 123 10 = some 133 := lyf h (by decide) (by decide) (by decide)
theorem lF123_11 (h : Lay K F) : F 123 11 = some 134 := lyf h (by decide) (by decide) (by decide)
theorem lF123_12 (h : Lay K F) : F 123 12 = some 135 := lyf h (by decide) (by decide) (by decide)
theorem lF123_13 (h : Lay K F) : F 123 13 = some 136 := lyf h (by decide) (by decide) (by decide)
theorem lF123_14 (h : Lay K F) : F 123 14 = some 137 := lyf h (by decide) (by decide) (by decide)
theorem lF123_15 (h : Lay K F) : F 123 15 = some 138 := lyf h (by decide) (by decide) (by decide)
theorem lF123_16 (h : Lay K F) : F 123 16 = some 139 := lyf h (by decide) (by decide) (by decide)
theorem lF123_22 (h : Lay K F) : F 123 22 = some 140 := lyf h (by decide) (by decide) (by decide)
theorem lF123_23 (h : Lay K F) : F 123 23 = some 141 := lyf h (by decide) (by decide) (by decide)
theorem lF123_24 (h : Lay K F) : F 123 24 = some 142 := lyf h (by decide) (by decide) (by decide)
theorem lF123_25 (h : Lay K F) : F 123 25 = some 143 := lyf h (by decide) (by decide) (by decide)
theorem lF123_26 (h : Lay K F) : F 123 26 = some 144 := lyf h (by decide) (by decide) (by decide)
theorem lF123_27 (h : Lay K F) : F 123 27 = some 145 := lyf h (by decide) (by decide) (by decide)
theorem lF123_28 (h : Lay K F) : F 123 28 = some 146 := lyf h (by decide) (by decide) (by decide)
theorem lF123_29 (h : Lay K F) : F 123 29 = some 147 := lyf h (by decide) (by decide) (by decide)
theorem lR19 (h : Lay K F) : RowsOk K F 19 := ⟨by decide, lyk h (by decide) (by decide), lyf h (by decide) (by decide) (by decide), by decide, lyk h (by decide) (by decide)⟩
theorem lR21 (h : Lay K F) : RowsOk K F 21 := ⟨by decide, lyk h (by decide) (by decide), lyf h (by decide) (by decide) (by decide), by decide, lyk h (by decide) (by decide)⟩
theorem lR23 (h : Lay K F) : RowsOk K F 23 := ⟨by decide, lyk h (by decide) (by decide), lyf h (by decide) (by decide) (by decide), by decide, lyk h (by decide) (by decide)⟩
theorem lR25 (h : Lay K F) : RowsOk K F 25 := ⟨by decide, lyk h (by decide) (by decide), lyf h (by decide) (by decide) (by decide), by decide, lyk h (by decide) (by decide)⟩
theorem kT_t {t : Nat} (ht : t < 12) : kTab (27 + 8 * t) = (0, 4) ∧ kTab (27 + 8 * t + 1) = (0, 3) ∧ kTab (27 + 8 * t + 2) = (2, 64) ∧ kTab (27 + 8 * t + 3) = (0, 3) ∧ kTab (27 + 8 * t + 4) = (2, 64) ∧ kTab (27 + 8 * t + 5) = (0, 3) ∧ kTab (27 + 8 * t + 6) = (2, 64) ∧ kTab (27 + 8 * t + 7) = (1, 64) := by
  have h : ∀ t, t < 12 → kTab (27 + 8 * t) = (0, 4) ∧ kTab (27 + 8 * t + 1) = (0, 3) ∧ kTab (27 + 8 * t + 2) = (2, 64) ∧ kTab (27 + 8 * t + 3) = (0, 3) ∧ kTab (27 + 8 * t + 4) = (2, 64) ∧ kTab (27 + 8 * t + 5) = (0, 3) ∧ kTab (27 + 8 * t + 6) = (2, 64) ∧ kTab (27 + 8 * t + 7) = (1, 64) := by decide +kernel
  exact h t ht
theorem fT_t {t : Nat} (ht : t < 12) : fTab 1 t = some (27 + 8 * t) ∧ fTab (27 + 8 * t) 5 = some (27 + 8 * t + 1) ∧ fTab (27 + 8 * t) 6 = some (27 + 8 * t + 3) ∧ fTab (27 + 8 * t) 7 = some (27 + 8 * t + 5) ∧ fTab (27 + 8 * t) 8 = some (27 + 8 * t + 7) ∧ fTab (27 + 8 * t + 1) 1 = some (27 + 8 * t + 2) ∧ fTab (27 + 8 * t + 3) 1 = some (27 + 8 * t + 4) ∧ fTab (27 + 8 * t + 5) 1 = some (27 + 8 * t + 6) := by
  have h : ∀ t, t < 12 → fTab 1 t = some (27 + 8 * t) ∧ fTab (27 + 8 * t) 5 = some (27 + 8 * t + 1) ∧ fTab (27 + 8 * t) 6 = some (27 + 8 * t + 3) ∧ fTab (27 + 8 * t) 7 = some (27 + 8 * t + 5) ∧ fTab (27 + 8 * t) 8 = some (27 + 8 * t + 7) ∧ fTab (27 + 8 * t + 1) 1 = some (27 + 8 * t + 2) ∧ fTab (27 + 8 * t + 3) 1 = some (27 + 8 * t + 4) ∧ fTab (27 + 8 * t + 5) 1 = some (27 + 8 * t + 6) := by decide +kernel
  exact h t ht
/-- the Table of number t -/
theorem lT (h : Lay K F) {t : Nat} (ht : t < 12) : TabOk K F (27 + 8 * t) := by
  obtain ⟨k0, k1, k2, k3, k4, k5, k6, k7⟩ := kT_t ht
  obtain ⟨f0, f1, f2, f3, f4, f5, f6, f7⟩ := fT_t ht
  exact ⟨by omega, lyk h (by omega) k0, lyf h (by omega) (by decide) f1, lyf h (by omega) (by decide) f2, lyf h (by omega) (by decide) f3, lyf h (by omega) (by decide) f4, by omega, lyk h (by omega) k7, ⟨by omega, lyk h (by omega) k1, lyf h (by omega) (by decide) f5, by omega, lyk h (by omega) k2⟩, ⟨by omega, lyk h (by omega) k3, lyf h (by omega) (by decide) f6, by omega, lyk h (by omega) k4⟩, ⟨by omega, lyk h (by omega) k5, lyf h (by omega) (by decide) f7, by omega, lyk h (by omega) k6⟩⟩
theorem lF1 (h : Lay K F) {t : Nat} (ht : t < 12) : F 1 t = some (27 + 8 * t) := lyf h (by decide) (by omega) (fT_t ht).1
end
