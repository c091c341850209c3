/-! best: the keys in their order -/
/-- what is counted among the first m -/
def cntP (P : Nat → Bool) : Nat → Nat
  | 0 => 0
  | m + 1 => cntP P m + (if P m then 1 else 0)
theorem cnt_congr {P Q : Nat → Bool} : ∀ m, (∀ j, j < m → P j = Q j) → cntP P m = cntP Q m
  | 0, _ => rfl
  | m + 1, h => by rw [cntP, cntP, cnt_congr m (fun j hj => h j (by omega)), h m (by omega)]
theorem cnt_zero {P : Nat → Bool} : ∀ m, (∀ j, j < m → P j = false) → cntP P m = 0
  | 0, _ => rfl
  | m + 1, h => by rw [cntP, cnt_zero m (fun j hj => h j (by omega)), h m (by omega)]; rfl
theorem cnt_rm {P : Nat → Bool} {x : Nat} (hx : P x = true) : ∀ m, x < m → cntP P m = cntP (fun j => P j && !decide (j = x)) m + 1
  | 0, h => absurd h (by omega)
  | m + 1, h => by
    by_cases e : x = m
    · subst e
      rw [cntP, cntP]
      have : cntP P x = cntP (fun j => P j && !decide (j = x)) x := cnt_congr x (fun j hj => by simp [Nat.ne_of_lt hj])
      rw [this]
      simp [hx]
    · rw [cntP, cntP, cnt_rm hx m (by omega)]
      have : (P m && !decide (m = x)) = P m := by simp [Ne.symm e]
      simp only [this]
      omega
theorem cnt_of {m : Nat} (ord : Nat → Nat) : ∀ (p : Nat) (P : Nat → Bool), (∀ q, q < p → ord q < m ∧ P (ord q) = true) → (∀ a b, a < p → b < p → ord a = ord b → a = b) → (∀ j, j < m → P j = true → ∃ q, q < p ∧ ord q = j) → cntP P m = p
  | 0, P, _, _, h3 => cnt_zero m (fun j hj => by
      cases e : P j with
      | false => rfl
      | true => obtain ⟨q, hq, -⟩ := h3 j hj e; omega)
  | p + 1, P, h1, h2, h3 => by
    obtain ⟨a, b⟩ := h1 p (by omega)
    rw [cnt_rm b m a, cnt_of ord p (fun j => P j && !decide (j = ord p)) (fun q hq => ?_) (fun x y hx hy => h2 x y (by omega) (by omega)) (fun j hj hP => ?_)]
    · obtain ⟨c, d⟩ := h1 q (by omega)
      refine ⟨c, ?_⟩
      have : ord q ≠ ord p := fun z => by have := h2 q p (by omega) (by omega) z; omega
      simp [d, this]
    · simp only [Bool.and_eq_true, Bool.not_eq_true', decide_eq_false_iff_not] at hP
      obtain ⟨q, hq, e⟩ := h3 j hj hP.1
      refine ⟨q, ?_, e⟩
      have : q ≠ p := fun z => hP.2 (by rw [← e, z])
      omega
/-- the order of the first s places: o p is the key at place p, among the keys below i -/
def Ord (ρ : Nat → Option Int64) (i s : Nat) (o : Nat → Nat) : Prop := (∀ p, p < s → o p < i ∧ (ρ (o p)).isSome = true) ∧ (∀ p q, p < q → q < s → (ρ (o q)).getD 0 < (ρ (o p)).getD 0 ∨ ((ρ (o p)).getD 0 = (ρ (o q)).getD 0 ∧ o p < o q)) ∧ ∀ k, k < i → (ρ k).isSome = true → ∃ p, p < s ∧ o p = k
theorem Ord.inj {ρ : Nat → Option Int64} {i s : Nat} {o : Nat → Nat} (h : Ord ρ i s o) {a b : Nat} (ha : a < s) (hb : b < s) (e : o a = o b) : a = b := by
  rcases Nat.lt_trichotomy a b with c | c | c
  · have := h.2.1 a b c hb
    rw [e] at this
    rcases this with z | z
    · exact absurd z Int64.lt_irrefl
    · omega
  · exact c
  · have := h.2.1 b a c ha
    rw [e] at this
    rcases this with z | z
    · exact absurd z Int64.lt_irrefl
    · omega
theorem ahead_cnt {ρ : Nat → Option Int64} {k : Nat} {v : Int64} : ∀ m, ahead ρ k v m = cntP (fun j => match ρ j with | none => false | some x => decide (v < x ∨ (x = v ∧ j < k))) m
  | 0 => rfl
  | m + 1 => by
    rw [ahead, cntP, ahead_cnt m]
    cases ρ m with
    | none => simp
    | some x => simp
/-- a key's place is the number of rows ahead of it -/
theorem Ord.place {ρ : Nat → Option Int64} {s : Nat} {o : Nat → Nat} (h : Ord ρ 64 s o) {p : Nat} (hp : p < s) {v : Int64} (hv : ρ (o p) = some v) : ahead ρ (o p) v 64 = p := by
  rw [ahead_cnt]
  refine cnt_of o p _ (fun q hq => ?_) (fun a b ha hb e => h.inj (by omega) (by omega) e) (fun j hj hP => ?_)
  · obtain ⟨a, b⟩ := h.1 q (by omega)
    refine ⟨a, ?_⟩
    obtain ⟨x, hx⟩ := Option.isSome_iff_exists.mp b
    have := h.2.1 q p hq hp
    rw [hx, hv] at this
    rw [hx]
    simpa using this
  · cases hx : ρ j with
    | none => rw [hx] at hP; simp at hP
    | some x =>
      rw [hx] at hP
      have hP : v < x ∨ (x = v ∧ j < o p) := by simpa using hP
      obtain ⟨q, hq, e⟩ := h.2.2 j hj (by rw [hx]; rfl)
      refine ⟨q, ?_, e⟩
      rcases Nat.lt_trichotomy q p with c | c | c
      · exact c
      · subst c
        rw [e] at hP
        rw [e, hx] at hv
        have hxv : x = v := Option.some.inj hv
        rcases hP with z | z
        · rw [hxv] at z; exact absurd z Int64.lt_irrefl
        · omega
      · have := h.2.1 p q c hq
        rw [e, hx, hv] at this
        simp only [Option.getD_some] at this
        rcases hP with z | z
        · rcases this with w | w
          · exact absurd (Int64.lt_trans z w) Int64.lt_irrefl
          · rw [w.1] at z; exact absurd z Int64.lt_irrefl
        · rcases this with w | w
          · rw [z.1] at w; exact absurd w Int64.lt_irrefl
          · omega
