/-! the reference's rows: table t at the places 64 t .. of has (129) and value (130) -/
def bi (b : Bool) : Int32 := if b then 1 else 0
def RB (I : Nat → Nat → Int32) (J : Nat → Nat → Int64) (t : Nat) (ρ : Nat → Option Int64) : Prop := ∀ k, k < 64 → I 129 (64 * t + k) = bi (ρ k).isSome ∧ J 130 (64 * t + k) = (ρ k).getD 0
/-- nothing but the rows of table t moved -/
def FrB (I I' : Nat → Nat → Int32) (J J' : Nat → Nat → Int64) (t : Nat) : Prop := (∀ a, a ≠ 129 → I' a = I a) ∧ (∀ a, a ≠ 130 → J' a = J a) ∧ ∀ x, (x < 64 * t ∨ 64 * t + 64 ≤ x) → I' 129 x = I 129 x ∧ J' 130 x = J 130 x
theorem FrB.self {I : Nat → Nat → Int32} {J : Nat → Nat → Int64} {t : Nat} : FrB I I J J t := ⟨fun _ _ => rfl, fun _ _ => rfl, fun _ _ => ⟨rfl, rfl⟩⟩
theorem FrB.trans {I I1 I2 : Nat → Nat → Int32} {J J1 J2 : Nat → Nat → Int64} {t : Nat} (h : FrB I I1 J J1 t) (h' : FrB I1 I2 J1 J2 t) : FrB I I2 J J2 t := ⟨fun a ha => by rw [h'.1 a ha, h.1 a ha], fun a ha => by rw [h'.2.1 a ha, h.2.1 a ha], fun x hx => ⟨by rw [(h'.2.2 x hx).1, (h.2.2 x hx).1], by rw [(h'.2.2 x hx).2, (h.2.2 x hx).2]⟩⟩
theorem FrB.rb {I I' : Nat → Nat → Int32} {J J' : Nat → Nat → Int64} {t a : Nat} {ρ : Nat → Option Int64} (h : FrB I I' J J' t) (ha : a ≠ t) (hB : RB I J a ρ) : RB I' J' a ρ := fun k hk => by
  obtain ⟨x, y⟩ := h.2.2 (64 * a + k) (by omega)
  rw [x, y]
  exact hB k hk
section
variable {K : Nat → Nat × Nat} {F : Nat → Nat → Option Nat} {I : Nat → Nat → Int32} {J : Nat → Nat → Int64}
theorem r_set (hL : Lay K F) {t k : Nat} (ht : t < 12) (hk : k < 64) {ρ : Nat → Option Int64} (hB : RB I J t ρ) (v : Int64) : ∃ I' J', m5_setRow 148 K F I J 123 (nI (64 * t + k)) v = some (I', J') ∧ FrB I I' J J' t ∧ RB I' J' t (rset ρ k (some v)) := by
  refine ⟨xu I 129 (64 * t + k) 1, xu J 130 (64 * t + k) v, ?_, ⟨fun a ha => xu_rw ha, fun a ha => xu_rw ha, fun x hx => ⟨by rw [xu_ap, if_neg (by omega)], by rw [xu_ap, if_neg (by omega)]⟩⟩, fun i hi => ?_⟩
  · unfold m5_setRow
    rw [if_pos ⟨by decide, lK123 hL⟩]
    simp only [xlet, xb, lF123_6 hL, lF123_7 hL, Option.bind_some, cl_nI (show 64 * t + k < 2 ^ 31 by omega)]
    rw [if_pos ⟨by decide, by rw [lK129 hL], by rw [lK129 hL]; exact xinb_nI (by omega) (by decide)⟩, if_pos ⟨by decide, by rw [lK130 hL], by rw [lK130 hL]; exact xinb_nI (by omega) (by decide)⟩]
  · by_cases e : i = k
    · subst e
      exact ⟨by rw [xu_ap, if_pos ⟨rfl, rfl⟩]; simp [rset, bi], by rw [xu_ap, if_pos ⟨rfl, rfl⟩]; simp [rset]⟩
    · exact ⟨by rw [xu_ap, if_neg (by omega)]; simp only [rset, if_neg e]; exact (hB i hi).1, by rw [xu_ap, if_neg (by omega)]; simp only [rset, if_neg e]; exact (hB i hi).2⟩
theorem r_clear (hL : Lay K F) {t k : Nat} (ht : t < 12) (hk : k < 64) : ∃ I' J', m5_clearRow 148 K F I J 123 (nI (64 * t + k)) = some (I', J') ∧ FrB I I' J J' t ∧ I' 129 (64 * t + k) = 0 ∧ J' 130 (64 * t + k) = 0 ∧ ∀ i, i ≠ k → I' 129 (64 * t + i) = I 129 (64 * t + i) ∧ J' 130 (64 * t + i) = J 130 (64 * t + i) := by
  refine ⟨xu I 129 (64 * t + k) 0, xu J 130 (64 * t + k) 0, ?_, ⟨fun a ha => xu_rw ha, fun a ha => xu_rw ha, fun x hx => ⟨by rw [xu_ap, if_neg (by omega)], by rw [xu_ap, if_neg (by omega)]⟩⟩, by rw [xu_ap, if_pos ⟨rfl, rfl⟩], by rw [xu_ap, if_pos ⟨rfl, rfl⟩], fun i hi => ⟨by rw [xu_ap, if_neg (by omega)], by rw [xu_ap, if_neg (by omega)]⟩⟩
  unfold m5_clearRow
  rw [if_pos ⟨by decide, lK123 hL⟩]
  simp only [xlet, xb, lF123_6 hL, lF123_7 hL, Option.bind_some, cl_nI (show 64 * t + k < 2 ^ 31 by omega)]
  rw [if_pos ⟨by decide, by rw [lK129 hL], by rw [lK129 hL]; exact xinb_nI (by omega) (by decide)⟩, if_pos ⟨by decide, by rw [lK130 hL], by rw [lK130 hL]; exact xinb_nI (by omega) (by decide)⟩]
theorem r_clearB (hL : Lay K F) {t k : Nat} (ht : t < 12) (hk : k < 64) {ρ : Nat → Option Int64} (hB : RB I J t ρ) : ∃ I' J', m5_clearRow 148 K F I J 123 (nI (64 * t + k)) = some (I', J') ∧ FrB I I' J J' t ∧ RB I' J' t (rset ρ k none) := by
  obtain ⟨I', J', e1, e2, e3, e4, e5⟩ := r_clear (I := I) (J := J) hL ht hk
  refine ⟨I', J', e1, e2, fun i hi => ?_⟩
  unfold rset
  by_cases e : i = k
  · subst e
    rw [if_pos rfl]
    exact ⟨e3, e4⟩
  · rw [if_neg e, (e5 i e).1, (e5 i e).2]
    exact hB i hi
theorem bi_0 {b : Bool} : bi b = 0 ↔ b = false := by cases b <;> simp [bi]
theorem nI_64 (t : Nat) : (64 : Int32) * nI t = nI (64 * t) := pk_mul 64 t
end
