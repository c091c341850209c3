theorem m_diffL {K : Nat → Nat × Nat} {F : Nat → Nat → Option Nat} {I : Nat → Nat → Int32} {J : Nat → Nat → Int64} {r o : Nat} (hr : RowsOk K F r) (ho : RowsOk K F o) : ∀ (f i : Nat) (x : Int64), i ≤ 64 → 64 - i < f → ∃ y, m3_differing_L13 148 K F I J f r o x (nI i) = some y ∧ ∀ k, k < 64 → bt y k = (bt x k || (decide (i ≤ k) && decide (J (r + 1) k ≠ J (o + 1) k)))
  | 0, i, x, h1, h2 => absurd h2 (by omega)
  | f + 1, i, x, h1, h2 => by
    rw [m3_differing_L13]
    by_cases e : i = 64
    · subst e
      exact ⟨x, by rw [if_pos (by decide)], fun k hk => by simp [show ¬ 64 ≤ k by omega]⟩
    · have hlt : i < 64 := by omega
      have hb : xinb (nI i) 64 := xinb_nI hlt (by decide)
      rw [if_neg (show ¬ (64 : Int32) ≤ nI i from nI_ge hlt (by decide)), if_pos ⟨hr.1, hr.2.1⟩]
      simp only [xlet, xb, hr.2.2.1, ho.2.2.1, Option.bind_some]
      rw [if_pos ⟨hr.2.2.2.1, by rw [hr.2.2.2.2], by rw [hr.2.2.2.2]; exact hb⟩, if_pos ⟨ho.1, ho.2.1⟩, if_pos ⟨ho.2.2.2.1, by rw [ho.2.2.2.2], by rw [ho.2.2.2.2]; exact hb⟩, cl_nI (by omega), show nI i + (1 : Int32) = nI (i + 1) from nI_1 i]
      by_cases ev : J (r + 1) i = J (o + 1) i
      · rw [if_pos ev]
        obtain ⟨y, e1, e2⟩ := m_diffL hr ho f (i + 1) x (by omega) (by omega)
        refine ⟨y, e1, fun k hk => ?_⟩
        rw [e2 k hk]
        by_cases ek : k = i
        · subst ek
          simp [ev]
        · have : (i + 1 ≤ k) = (i ≤ k) := by apply propext; omega
          simp [this]
      · rw [if_neg ev]
        obtain ⟨y, e1, e2⟩ := m_diffL hr ho f (i + 1) (x ||| ((1 : Int64) <<< ((nI i).toInt64 &&& 63))) (by omega) (by omega)
        refine ⟨y, e1, fun k hk => ?_⟩
        rw [e2 k hk, bt_or hlt hk]
        by_cases ek : k = i
        · subst ek
          simp [ev]
        · have : (i + 1 ≤ k) = (i ≤ k) := by apply propext; omega
          simp [this, ek]
theorem m_differing {K : Nat → Nat × Nat} {F : Nat → Nat → Option Nat} {I : Nat → Nat → Int32} {J : Nat → Nat → Int64} {r o : Nat} {ρ ρ' : Nat → Option Int64} (hr : RowsOk K F r) (ho : RowsOk K F o) (hA : RA J r ρ) (hB : RA J o ρ') : ∃ y, m3_differing 148 K F I J r o = some y ∧ ∀ k, k < 64 → bt y k = decide (ρ k ≠ ρ' k) := by
  obtain ⟨y, e1, e2⟩ := m_diffL (I := I) (J := J) hr ho xFu 0 (J r 0 ^^^ J o 0) (by omega) (by unfold xFu; omega)
  refine ⟨y, ?_, fun k hk => ?_⟩
  · unfold m3_differing
    rw [if_pos ⟨hr.1, hr.2.1⟩, if_pos ⟨ho.1, ho.2.1⟩]
    exact e1
  · rw [e2 k hk, bt_xor, hA.1 k hk, hB.1 k hk, hA.2 k hk, hB.2 k hk]
    cases h1 : ρ k <;> cases h2 : ρ' k <;> simp
/-- how many rows -/
def rcnt (ρ : Nat → Option Int64) : Nat → Nat
  | 0 => 0
  | n + 1 => rcnt ρ n + (if (ρ n).isSome then 1 else 0)
