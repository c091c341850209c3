/-! what leads from rows to others -/
def stp (t k : Nat) (a w : Option Int64) : List (Nat × Nat × Option Int64 × Option Int64) := if a = w then [] else [(t, k, a, w)]
def stK (t : Nat) (a w : Nat → Option Int64) : Nat → List (Nat × Nat × Option Int64 × Option Int64)
  | 0 => []
  | k + 1 => stK t a w k ++ stp t k (a k) (w k)
def stT (ρ σ : Nat → Nat → Option Int64) : Nat → List (Nat × Nat × Option Int64 × Option Int64)
  | 0 => []
  | t + 1 => stT ρ σ t ++ stK t (ρ t) (σ t) 64
theorem stp_e {t k : Nat} {a w : Option Int64} (h : a = w) : stp t k a w = [] := if_pos h
theorem stp_n {t k : Nat} {a w : Option Int64} (h : a ≠ w) : stp t k a w = [(t, k, a, w)] := if_neg h
theorem stp_len {t k : Nat} {a w : Option Int64} : (stp t k a w).length = if a ≠ w then 1 else 0 := by
  by_cases h : a = w
  · rw [stp_e h, if_neg (x_nn h)]; rfl
  · rw [stp_n h, if_pos h]; rfl
theorem stK_len (t : Nat) (a w : Nat → Option Int64) : ∀ k, (stK t a w k).length ≤ k
  | 0 => Nat.le_refl 0
  | k + 1 => by
    have h := stK_len t a w k
    rw [stK, List.length_append, stp_len]
    by_cases e : a k ≠ w k
    · rw [if_pos e]; omega
    · rw [if_neg e]; omega
theorem stT_len (ρ σ : Nat → Nat → Option Int64) : ∀ t, (stT ρ σ t).length ≤ 64 * t
  | 0 => Nat.le_refl 0
  | t + 1 => by
    have h := stT_len ρ σ t
    have := stK_len t (ρ t) (σ t) 64
    rw [stT, List.length_append]
    omega
theorem stK_nil {t : Nat} {a w : Nat → Option Int64} : ∀ k, (∀ i, i < k → a i = w i) → stK t a w k = []
  | 0, _ => rfl
  | k + 1, h => by rw [stK, stK_nil k (fun i hi => h i (by omega)), stp_e (h k (by omega))]; rfl
theorem EOk.app {m : Nat} {l l' : List (Nat × Nat × Option Int64 × Option Int64)} (h : EOk m l) (h' : ∀ (i t k : Nat) (o w : Option Int64), l'[i]? = some (t, k, o, w) → t < 12 ∧ k < 64 ∧ o ≠ w) {m' : Nat} (hl : l.length + l'.length ≤ m') : EOk m' (l ++ l') := ⟨by rw [List.length_append]; exact hl, fun i t k o w e => by
  rcases Nat.lt_or_ge i l.length with z | z
  · rw [List.getElem?_append_left z] at e; exact h.2 i t k o w e
  · rw [List.getElem?_append_right z] at e; exact h' _ t k o w e⟩
theorem stp_ok {t k : Nat} {a w : Option Int64} (ht : t < 12) (hk : k < 64) (i t' k' : Nat) (o v : Option Int64) (e : (stp t k a w)[i]? = some (t', k', o, v)) : t' < 12 ∧ k' < 64 ∧ o ≠ v := by
  by_cases h : a = w
  · rw [stp_e h] at e; simp at e
  · rw [stp_n h] at e
    rcases Nat.eq_zero_or_pos i with z | z
    · subst z
      simp at e
      obtain ⟨rfl, rfl, rfl, rfl⟩ := e
      exact ⟨ht, hk, h⟩
    · rw [List.getElem?_eq_none (by simp; omega)] at e; cases e
theorem stK_ok {t : Nat} {a w : Nat → Option Int64} (ht : t < 12) : ∀ k, k ≤ 64 → EOk k (stK t a w k)
  | 0, _ => EOk.nil
  | k + 1, h => (stK_ok ht k (by omega)).app (stp_ok ht (by omega)) (by
    have h1 := stK_len t a w k
    rw [stp_len]
    by_cases e : a k ≠ w k
    · rw [if_pos e]; omega
    · rw [if_neg e]; omega)
theorem stT_ok {ρ σ : Nat → Nat → Option Int64} : ∀ t, t ≤ 12 → EOk (64 * t) (stT ρ σ t)
  | 0, _ => EOk.nil
  | t + 1, h => (stT_ok t (by omega)).app (stK_ok (by omega) 64 (by omega)).2 (by
    have h1 := stT_len ρ σ t
    have := stK_len t (ρ t) (σ t) 64
    omega)
theorem bs_len {t : Nat} {a w : Nat → Option Int64} {y : Int64} : ∀ m, m ≤ 64 → (∀ k, k < 64 → bt y k = decide (a k ≠ w k)) → bsum (fun i => if bt y i then 1 else 0) m = (stK t a w m).length
  | 0, _, _ => rfl
  | m + 1, h, hy => by
    rw [bsum, bs_len (t := t) m (by omega) hy, stK, List.length_append, stp_len]
    have := hy m (by omega)
    by_cases e : a m ≠ w m
    · rw [decide_eq_true e] at this; simp [this, e]
    · rw [decide_eq_false e] at this; simp [this, e]
/-! derived rows see the rows of their tables alone -/
theorem dFold_congr {kd g : Nat} {ρ σ : Nat → Option Int64} (k : Nat) : ∀ m, (∀ i, i < m → ρ i = σ i) → dFold kd g ρ m k = dFold kd g σ m k
  | 0, _ => rfl
  | m + 1, h => by rw [dFold, dFold, h m (by omega), dFold_congr k m (fun i hi => h i (by omega))]
theorem ahead_congr {ρ σ : Nat → Option Int64} {k : Nat} {v : Int64} : ∀ m, (∀ i, i < m → ρ i = σ i) → ahead ρ k v m = ahead σ k v m
  | 0, _ => rfl
  | m + 1, h => by rw [ahead, ahead, h m (by omega), ahead_congr m (fun i hi => h i (by omega))]
theorem dTab_congr {s : Nat} {p1 p2 : Int64} {ρ ρ1 σ σ1 : Nat → Option Int64} (h : ∀ k, k < 64 → ρ k = ρ1 k) (h' : ∀ k, k < 64 → σ k = σ1 k) (k : Nat) (hk : k < 64) : dTab s p1 p2 ρ σ k = dTab s p1 p2 ρ1 σ1 k := by
  unfold dTab
  by_cases h1 : s = 1
  · rw [if_pos h1, if_pos h1, dFilter, dFilter, h k hk]
  · rw [if_neg h1, if_neg h1]
    by_cases h2 : s = 2
    · rw [if_pos h2, if_pos h2, dMap, dMap, h k hk]
    · rw [if_neg h2, if_neg h2]
      by_cases h3 : s = 3
      · rw [if_pos h3, if_pos h3, dFold_congr k 64 h]
      · rw [if_neg h3, if_neg h3]
        by_cases h4 : s = 4
        · rw [if_pos h4, if_pos h4, dJoin, dJoin, h k hk, h' k hk]
        · rw [if_neg h4, if_neg h4]
          by_cases h5 : s = 5
          · rw [if_pos h5, if_pos h5, dMerge, dMerge, h k hk, h' k hk]
          · rw [if_neg h5, if_neg h5]
            by_cases h6 : s = 6
            · rw [if_pos h6, if_pos h6, dBest, dBest, h k hk]
              cases ρ1 k with
              | none => rfl
              | some v => simp only [ahead_congr 64 h]
            · rw [if_neg h6, if_neg h6]
              by_cases h7 : s = 7
              · rw [if_pos h7, if_pos h7, dLook, dLook, h k hk]
                cases ρ1 k with
                | none => rfl
                | some v => simp only [h' (nB v % 64) (Nat.mod_lt _ (by decide))]
              · rw [if_neg h7, if_neg h7]
/-- the rows behind a call: sources have σ, the others follow -/
def Sg (n : Nat) (so o1 o2 : Nat → Nat) (p q : Nat → Int64) (σ S : Nat → Nat → Option Int64) : Prop := ∀ t, t < n → (so t = 0 → S t = σ t) ∧ (so t ≠ 0 → S t = dTab (so t) (p t) (q t) (S (o1 t)) (S (o2 t)))
theorem Sg_ex {so o1 o2 : Nat → Nat} {p q : Nat → Int64} (σ : Nat → Nat → Option Int64) : ∀ n, Shp n so o1 o2 p q → ∃ S, Sg n so o1 o2 p q σ S
  | 0, _ => ⟨σ, fun t ht => by omega⟩
  | n + 1, h => by
    obtain ⟨S, hS⟩ := Sg_ex σ n ⟨by have := h.1; omega, fun t ht => h.2 t (by omega)⟩
    refine ⟨fset S n (if so n = 0 then σ n else dTab (so n) (p n) (q n) (S (o1 n)) (S (o2 n))), fun t ht => ?_⟩
    by_cases e : t = n
    · subst e
      rw [fs_n]
      refine ⟨fun z => by rw [if_pos z], fun z => ?_⟩
      have := (h.2 t (by omega)).2 z
      rw [if_neg z, fs_o (by omega), fs_o (by omega)]
    · rw [fs_o e]
      refine ⟨fun z => (hS t (by omega)).1 z, fun z => ?_⟩
      have := (h.2 t (by omega)).2 z
      rw [fs_o (by omega), fs_o (by omega)]
      exact (hS t (by omega)).2 z
theorem nI_sub' {a b : Nat} (h : b ≤ a) : nI a - nI b = nI (a - b) := by
  rw [show nI a = nI (a - b) + nI b by rw [nI_add]; congr 1; omega, Int32.add_sub_cancel]
