theorem dv64 : ∀ i, i < 768 → nI i / (64 : Int32) = nI (i / 64) := by decide +kernel
theorem md64 : ∀ i, i < 768 → nI i - nI (i / 64) * (64 : Int32) = nI (i % 64) := by decide +kernel
section
variable {K : Nat → Nat × Nat} {F : Nat → Nat → Option Nat} {I I' : Nat → Nat → Int32} {J J' : Nat → Nat → Int64} {n : Nat} {so o1 o2 : Nat → Nat} {p q : Nat → Int64} {ρ σ S β : Nat → Nat → Option Int64} {lg td nt l : List (Nat × Nat × Option Int64 × Option Int64)} {bo : Bool} {b : List (Nat × Nat × Option Int64)} {κ : Nat → Option Int64}
/-- a change is written at a place -/
def wrI (I : Nat → Nat → Int32) (at' : Nat) (a c d : Int32) : Nat → Nat → Int32 := xu (xu (xu I 135 at' a) 136 at' c) 137 at' d
def wrJ (J : Nat → Nat → Int64) (at' : Nat) (a c : Int64) : Nat → Nat → Int64 := xu (xu J 138 at' a) 139 at' c
theorem r_write (hL : Lay K F) {at' : Nat} (h : at' < 2400) (a c d : Int32) (x y : Int64) : m5_write 148 K F I J 123 (nI at') a c d x y = some (wrI I at' a c d, wrJ J at' x y) := by
  unfold m5_write
  simp (disch := omega) only [↓xlet, xb_some, ↓reduceIte, cl_nI, nI_64, nI_add, nI_1, kg124 hL, kg125 hL, kg126 hL, kg127 hL, kg128 hL, kg129 hL, kg130 hL, kg131 hL, kg132 hL, kg133 hL, kg134 hL, kg135 hL, kg136 hL, kg137 hL, kg138 hL, kg139 hL, kg140 hL, kg141 hL, kg142 hL, kg143 hL, kg144 hL, kg145 hL, kg146 hL, kg147 hL, kg123 hL, ↓xbs (lF123_1 hL), ↓xbs (lF123_2 hL), ↓xbs (lF123_3 hL), ↓xbs (lF123_4 hL), ↓xbs (lF123_5 hL), ↓xbs (lF123_6 hL), ↓xbs (lF123_7 hL), ↓xbs (lF123_8 hL), ↓xbs (lF123_9 hL), ↓xbs (lF123_10 hL), ↓xbs (lF123_11 hL), ↓xbs (lF123_12 hL), ↓xbs (lF123_13 hL), ↓xbs (lF123_14 hL), ↓xbs (lF123_15 hL), ↓xbs (lF123_16 hL), ↓xbs (lF123_22 hL), ↓xbs (lF123_23 hL), ↓xbs (lF123_24 hL), ↓xbs (lF123_25 hL), ↓xbs (lF123_26 hL), ↓xbs (lF123_27 hL), ↓xbs (lF123_28 hL), ↓xbs (lF123_29 hL)]
  rfl
theorem wrI_o {at' : Nat} {a c d : Int32} {x : Nat} (h : x < 135 ∨ 137 < x) : wrI I at' a c d x = I x := by
  unfold wrI; rw [xu_rw (by omega), xu_rw (by omega), xu_rw (by omega)]
theorem wrJ_o {at' : Nat} {a c : Int64} {x : Nat} (h : x ≠ 138 ∧ x ≠ 139) : wrJ J at' a c x = J x := by
  unfold wrJ; rw [xu_rw h.2, xu_rw h.1]
theorem wr_at {at' : Nat} {a c d : Int32} {x y : Int64} : wrI I at' a c d 135 at' = a ∧ wrI I at' a c d 136 at' = c ∧ wrI I at' a c d 137 at' = d ∧ wrJ J at' x y 138 at' = x ∧ wrJ J at' x y 139 at' = y := by
  unfold wrI wrJ
  exact ⟨by rw [xu_rw (by decide), xu_rw (by decide), xu2], by rw [xu_rw (by decide), xu2], by rw [xu2], by rw [xu_rw (by decide), xu2], by rw [xu2]⟩
theorem wr_ne {at' i : Nat} {a c d : Int32} {x y : Int64} (h : i ≠ at') : wrI I at' a c d 135 i = I 135 i ∧ wrI I at' a c d 136 i = I 136 i ∧ wrI I at' a c d 137 i = I 137 i ∧ wrJ J at' x y 138 i = J 138 i ∧ wrJ J at' x y 139 i = J 139 i := by
  unfold wrI wrJ
  exact ⟨by rw [xu_rw (by decide), xu_rw (by decide), xu3 _ _ h], by rw [xu_rw (by decide), xu3 _ _ h, xu_rw (by decide)], by rw [xu3 _ _ h, xu_rw (by decide), xu_rw (by decide)], by rw [xu_rw (by decide), xu3 _ _ h], by rw [xu3 _ _ h, xu_rw (by decide)]⟩
theorem RLst.push {f off : Nat} (h : RLst I J f off l) {t k : Nat} {o w : Option Int64} (e0 : I' 123 f = nI (l.length + 1)) (e1 : ∀ x, off ≤ x → x < off + l.length → I' 135 x = I 135 x ∧ I' 136 x = I 136 x ∧ I' 137 x = I 137 x ∧ J' 138 x = J 138 x ∧ J' 139 x = J 139 x) (e2 : I' 135 (off + l.length) = nI t ∧ I' 136 (off + l.length) = nI (srt o w) ∧ I' 137 (off + l.length) = nI k ∧ J' 138 (off + l.length) = o.getD 0 ∧ J' 139 (off + l.length) = w.getD 0) : RLst I' J' f off (l ++ [(t, k, o, w)]) := by
  refine ⟨by rw [e0, List.length_append]; rfl, fun i t' k' o' w' e => ?_⟩
  rcases Nat.lt_or_ge i l.length with z | z
  · rw [List.getElem?_append_left z] at e
    obtain ⟨a1, a2, a3, a4, a5⟩ := e1 (off + i) (by omega) (by omega)
    rw [a1, a2, a3, a4, a5]
    exact h.2 i t' k' o' w' e
  · rw [List.getElem?_append_right z] at e
    have : i = l.length := by
      have := get_lt e
      simp at this
      omega
    subst this
    simp at e
    obtain ⟨rfl, rfl, rfl, rfl⟩ := e
    exact e2
theorem r_sortOf (o w : Option Int64) {N : Nat} : m5_sortOf N K F I J (bi o.isSome) (bi w.isSome) = some (nI (srt o w)) := by
  unfold m5_sortOf
  cases o <;> cases w <;> simp [bi, srt] <;> decide
/-- the cells of the reference that tell may write -/
def FrTl (I I' : Nat → Nat → Int32) (J J' : Nat → Nat → Int64) : Prop := (∀ a, a ≠ 123 → a < 135 ∨ 137 < a → I' a = I a) ∧ (∀ j, j ≠ 17 → j ≠ 18 → I' 123 j = I 123 j) ∧ (∀ a, a ≠ 138 → a ≠ 139 → J' a = J a) ∧ ∀ x, 2268 ≤ x → I' 135 x = I 135 x ∧ I' 136 x = I 136 x ∧ I' 137 x = I 137 x ∧ J' 138 x = J 138 x ∧ J' 139 x = J 139 x
theorem FrTl.self : FrTl I I J J := ⟨fun _ _ _ => rfl, fun _ _ _ => rfl, fun _ _ _ => rfl, fun _ _ => ⟨rfl, rfl, rfl, rfl, rfl⟩⟩
theorem FrTl.trans {I2 : Nat → Nat → Int32} {J2 : Nat → Nat → Int64} (h : FrTl I I' J J') (h' : FrTl I' I2 J' J2) : FrTl I I2 J J2 := ⟨fun a x y => by rw [h'.1 a x y, h.1 a x y], fun j x y => by rw [h'.2.1 j x y, h.2.1 j x y], fun a x y => by rw [h'.2.2.1 a x y, h.2.2.1 a x y], fun x hx => by
  obtain ⟨a1, a2, a3, a4, a5⟩ := h'.2.2.2 x hx
  obtain ⟨b1, b2, b3, b4, b5⟩ := h.2.2.2 x hx
  exact ⟨by rw [a1, b1], by rw [a2, b2], by rw [a3, b3], by rw [a4, b4], by rw [a5, b5]⟩⟩
/-- one change is told and logged -/
theorem r_tellB145 (hL : Lay K F) {D : List (Nat × Nat × Option Int64 × Option Int64)} {i : Nat} (hi : i < 768) (h17 : RLst I J 17 0 (lg ++ D)) (h18 : RLst I J 18 1500 D) (hD : D.length < 768) (hlen : lg.length + D.length < 1500) (o w : Option Int64) (k70 : (Nat → Nat → Int32) → (Nat → Nat → Int64) → Nat → Int32 → Option (Int32 × (Nat → Nat → Int32) × (Nat → Nat → Int64))) : ∃ I' J', m5_tell_B145 148 K F k70 I J 123 (nI i) (nI (srt o w)) (o.getD 0) (w.getD 0) = k70 I' J' 123 (nI (i + 1)) ∧ FrTl I I' J J' ∧ RLst I' J' 17 0 (lg ++ (D ++ [(i / 64, i % 64, o, w)])) ∧ RLst I' J' 18 1500 (D ++ [(i / 64, i % 64, o, w)]) := by
  have L : (lg ++ D).length = lg.length + D.length := List.length_append
  obtain ⟨I1, hI1⟩ : ∃ I1, I1 = wrI I (1500 + D.length) (nI (i / 64)) (nI (srt o w)) (nI (i % 64)) := ⟨_, rfl⟩
  obtain ⟨J1, hJ1⟩ : ∃ J1, J1 = wrJ J (1500 + D.length) (o.getD 0) (w.getD 0) := ⟨_, rfl⟩
  obtain ⟨I2, hI2⟩ : ∃ I2, I2 = wrI I1 (lg ++ D).length (nI (i / 64)) (nI (srt o w)) (nI (i % 64)) := ⟨_, rfl⟩
  obtain ⟨J2, hJ2⟩ : ∃ J2, J2 = wrJ J1 (lg ++ D).length (o.getD 0) (w.getD 0) := ⟨_, rfl⟩
  have w1 := r_write (I := I) (J := J) hL (show 1500 + D.length < 2400 by omega) (nI (i / 64)) (nI (srt o w)) (nI (i % 64)) (o.getD 0) (w.getD 0)
  rw [← hI1, ← hJ1] at w1
  have w2 := r_write (I := I1) (J := J1) hL (show (lg ++ D).length < 2400 by omega) (nI (i / 64)) (nI (srt o w)) (nI (i % 64)) (o.getD 0) (w.getD 0)
  rw [← hI2, ← hJ2] at w2
  have k1 : I1 123 = I 123 := by rw [hI1]; exact wrI_o (by omega)
  have k2 : I2 123 = I 123 := by rw [hI2, wrI_o (by omega), k1]
  refine ⟨xu (xu I2 123 18 (nI (D.length + 1))) 123 17 (nI ((lg ++ D).length + 1)), J2, ?_, ⟨fun a a3 ar => ?_, fun j j7 j8 => ?_, fun a a8 a9 => ?_, fun x hx => ?_⟩, ?_, ?_⟩
  · unfold m5_tell_B145
    have z64 : ((64 : Int32) = 0) = False := by decide
    have p1 : (1500 : Int32) + nI D.length = nI (1500 + D.length) := nI_add 1500 D.length
    have e18 : I2 123 18 = nI D.length := by rw [k2]; exact h18.1
    have e17 : xu I2 123 18 (nI (D.length + 1)) 123 17 = nI (lg ++ D).length := by rw [xu3 _ _ (by decide), k2]; exact h17.1
    have e17' : I1 123 17 = nI (lg ++ D).length := by rw [k1]; exact h17.1
    have m1 := dv64 i hi
    have m2 := md64 i hi
    simp (disch := omega) only [↓xlet, xb_some, ↓reduceIte, cl_nI, nI_64, nI_add, nI_1, kg124 hL, kg125 hL, kg126 hL, kg127 hL, kg128 hL, kg129 hL, kg130 hL, kg131 hL, kg132 hL, kg133 hL, kg134 hL, kg135 hL, kg136 hL, kg137 hL, kg138 hL, kg139 hL, kg140 hL, kg141 hL, kg142 hL, kg143 hL, kg144 hL, kg145 hL, kg146 hL, kg147 hL, kg123 hL, ↓xbs (lF123_1 hL), ↓xbs (lF123_2 hL), ↓xbs (lF123_3 hL), ↓xbs (lF123_4 hL), ↓xbs (lF123_5 hL), ↓xbs (lF123_6 hL), ↓xbs (lF123_7 hL), ↓xbs (lF123_8 hL), ↓xbs (lF123_9 hL), ↓xbs (lF123_10 hL), ↓xbs (lF123_11 hL), ↓xbs (lF123_12 hL), ↓xbs (lF123_13 hL), ↓xbs (lF123_14 hL), ↓xbs (lF123_15 hL), ↓xbs (lF123_16 hL), ↓xbs (lF123_22 hL), ↓xbs (lF123_23 hL), ↓xbs (lF123_24 hL), ↓xbs (lF123_25 hL), ↓xbs (lF123_26 hL), ↓xbs (lF123_27 hL), ↓xbs (lF123_28 hL), ↓xbs (lF123_29 hL), z64, not_false_eq_true, h18.1, p1, m1, m2, ↓xbs w1, w1, e17', ↓xbs w2, w2, e18, e17]
  · rw [xu_rw a3, xu_rw a3, hI2, wrI_o ar, hI1, wrI_o ar]
  · rw [xu3 _ _ j7, xu3 _ _ j8, k2]
  · rw [hJ2, wrJ_o ⟨a8, a9⟩, hJ1, wrJ_o ⟨a8, a9⟩]
  · have n1 := wr_ne (I := I1) (J := J1) (a := nI (i / 64)) (c := nI (srt o w)) (d := nI (i % 64)) (x := o.getD 0) (y := w.getD 0) (show x ≠ (lg ++ D).length by omega)
    have n2 := wr_ne (I := I) (J := J) (a := nI (i / 64)) (c := nI (srt o w)) (d := nI (i % 64)) (x := o.getD 0) (y := w.getD 0) (show x ≠ 1500 + D.length by omega)
    rw [← hI2, ← hJ2] at n1
    rw [← hI1, ← hJ1] at n2
    rw [xu_rw (by decide), xu_rw (by decide), xu_rw (by decide), xu_rw (by decide), xu_rw (by decide), xu_rw (by decide), n1.1, n1.2.1, n1.2.2.1, n1.2.2.2.1, n1.2.2.2.2]
    exact n2
  · rw [← List.append_assoc]
    refine h17.push (by rw [xu2]) (fun x hx hx2 => ?_) ?_
    · have n1 := wr_ne (I := I1) (J := J1) (a := nI (i / 64)) (c := nI (srt o w)) (d := nI (i % 64)) (x := o.getD 0) (y := w.getD 0) (show x ≠ (lg ++ D).length by omega)
      have n2 := wr_ne (I := I) (J := J) (a := nI (i / 64)) (c := nI (srt o w)) (d := nI (i % 64)) (x := o.getD 0) (y := w.getD 0) (show x ≠ 1500 + D.length by omega)
      rw [← hI2, ← hJ2] at n1
      rw [← hI1, ← hJ1] at n2
      rw [xu_rw (by decide), xu_rw (by decide), xu_rw (by decide), xu_rw (by decide), xu_rw (by decide), xu_rw (by decide), n1.1, n1.2.1, n1.2.2.1, n1.2.2.2.1, n1.2.2.2.2]
      exact n2
    · have n1 := wr_at (I := I1) (J := J1) (at' := (lg ++ D).length) (a := nI (i / 64)) (c := nI (srt o w)) (d := nI (i % 64)) (x := o.getD 0) (y := w.getD 0)
      rw [← hI2, ← hJ2] at n1
      rw [Nat.zero_add, xu_rw (by decide), xu_rw (by decide), xu_rw (by decide), xu_rw (by decide), xu_rw (by decide), xu_rw (by decide)]
      exact n1
  · refine h18.push (by rw [xu3 _ _ (by decide), xu2]) (fun x hx hx2 => ?_) ?_
    · have n1 := wr_ne (I := I1) (J := J1) (a := nI (i / 64)) (c := nI (srt o w)) (d := nI (i % 64)) (x := o.getD 0) (y := w.getD 0) (show x ≠ (lg ++ D).length by omega)
      have n2 := wr_ne (I := I) (J := J) (a := nI (i / 64)) (c := nI (srt o w)) (d := nI (i % 64)) (x := o.getD 0) (y := w.getD 0) (show x ≠ 1500 + D.length by omega)
      rw [← hI2, ← hJ2] at n1
      rw [← hI1, ← hJ1] at n2
      rw [xu_rw (by decide), xu_rw (by decide), xu_rw (by decide), xu_rw (by decide), xu_rw (by decide), xu_rw (by decide), n1.1, n1.2.1, n1.2.2.1, n1.2.2.2.1, n1.2.2.2.2]
      exact n2
    · have n1 := wr_ne (I := I1) (J := J1) (a := nI (i / 64)) (c := nI (srt o w)) (d := nI (i % 64)) (x := o.getD 0) (y := w.getD 0) (show 1500 + D.length ≠ (lg ++ D).length by omega)
      have n2 := wr_at (I := I) (J := J) (at' := 1500 + D.length) (a := nI (i / 64)) (c := nI (srt o w)) (d := nI (i % 64)) (x := o.getD 0) (y := w.getD 0)
      rw [← hI2, ← hJ2] at n1
      rw [← hI1, ← hJ1] at n2
      rw [xu_rw (by decide), xu_rw (by decide), xu_rw (by decide), xu_rw (by decide), xu_rw (by decide), xu_rw (by decide), n1.1, n1.2.1, n1.2.2.1, n1.2.2.2.1, n1.2.2.2.2]
      exact n2
theorem r_tellL70 (hL : Lay K F) (hn : n ≤ 12) (hlen : lg.length + (stT ρ S n).length ≤ 1500) : ∀ (f i : Nat) (I : Nat → Nat → Int32) (J : Nat → Nat → Int64), i ≤ 64 * n → 64 * n - i < f → I 123 0 = nI n → RRows I J 131 132 n ρ → RRows I J 129 130 n S → RLst I J 17 0 (lg ++ fl ρ S i) → RLst I J 18 1500 (fl ρ S i) → ∃ I' J', m5_tell_L70 148 K F f I J 123 (nI i) = some (nI (stT ρ S n).length, I', J') ∧ FrTl I I' J J' ∧ RLst I' J' 17 0 (lg ++ stT ρ S n) ∧ RLst I' J' 18 1500 (stT ρ S n)
  | 0, i, I, J, h1, h2, _, _, _, _, _ => absurd h2 (by omega)
  | f + 1, i, I, J, h1, h2, h0, hO, hR, h17, h18 => by
    rw [m5_tell_L70]
    simp (disch := omega) only [↓xlet, xb_some, ↓reduceIte, cl_nI, nI_64, nI_add, nI_1, kg124 hL, kg125 hL, kg126 hL, kg127 hL, kg128 hL, kg129 hL, kg130 hL, kg131 hL, kg132 hL, kg133 hL, kg134 hL, kg135 hL, kg136 hL, kg137 hL, kg138 hL, kg139 hL, kg140 hL, kg141 hL, kg142 hL, kg143 hL, kg144 hL, kg145 hL, kg146 hL, kg147 hL, kg123 hL, ↓xbs (lF123_1 hL), ↓xbs (lF123_2 hL), ↓xbs (lF123_3 hL), ↓xbs (lF123_4 hL), ↓xbs (lF123_5 hL), ↓xbs (lF123_6 hL), ↓xbs (lF123_7 hL), ↓xbs (lF123_8 hL), ↓xbs (lF123_9 hL), ↓xbs (lF123_10 hL), ↓xbs (lF123_11 hL), ↓xbs (lF123_12 hL), ↓xbs (lF123_13 hL), ↓xbs (lF123_14 hL), ↓xbs (lF123_15 hL), ↓xbs (lF123_16 hL), ↓xbs (lF123_22 hL), ↓xbs (lF123_23 hL), ↓xbs (lF123_24 hL), ↓xbs (lF123_25 hL), ↓xbs (lF123_26 hL), ↓xbs (lF123_27 hL), ↓xbs (lF123_28 hL), ↓xbs (lF123_29 hL), h0]
    by_cases e : i = 64 * n
    · rw [if_pos (nI_le (by omega) (by omega))]
      rw [e, fl_n] at h17 h18
      exact ⟨I, J, by rw [h18.1], FrTl.self, h17, h18⟩
    · have hi : i < 64 * n := by omega
      have io := r_isOther hL hn hO hR (show i / 64 < n by omega) (show i % 64 < 64 by omega)
      obtain ⟨a1, a2⟩ := hO (i / 64) (by omega) (i % 64) (by omega)
      obtain ⟨b1, b2⟩ := hR (i / 64) (by omega) (i % 64) (by omega)
      rw [Nat.div_add_mod] at io a1 a2 b1 b2
      rw [if_neg (nI_ge hi (by omega))]
      have so' := r_sortOf (K := K) (F := F) (I := I) (J := J) (N := 148) (ρ (i / 64) (i % 64)) (S (i / 64) (i % 64))
      simp (disch := omega) only [↓xlet, xb_some, ↓reduceIte, cl_nI, nI_64, nI_add, nI_1, kg124 hL, kg125 hL, kg126 hL, kg127 hL, kg128 hL, kg129 hL, kg130 hL, kg131 hL, kg132 hL, kg133 hL, kg134 hL, kg135 hL, kg136 hL, kg137 hL, kg138 hL, kg139 hL, kg140 hL, kg141 hL, kg142 hL, kg143 hL, kg144 hL, kg145 hL, kg146 hL, kg147 hL, kg123 hL, ↓xbs (lF123_1 hL), ↓xbs (lF123_2 hL), ↓xbs (lF123_3 hL), ↓xbs (lF123_4 hL), ↓xbs (lF123_5 hL), ↓xbs (lF123_6 hL), ↓xbs (lF123_7 hL), ↓xbs (lF123_8 hL), ↓xbs (lF123_9 hL), ↓xbs (lF123_10 hL), ↓xbs (lF123_11 hL), ↓xbs (lF123_12 hL), ↓xbs (lF123_13 hL), ↓xbs (lF123_14 hL), ↓xbs (lF123_15 hL), ↓xbs (lF123_16 hL), ↓xbs (lF123_22 hL), ↓xbs (lF123_23 hL), ↓xbs (lF123_24 hL), ↓xbs (lF123_25 hL), ↓xbs (lF123_26 hL), ↓xbs (lF123_27 hL), ↓xbs (lF123_28 hL), ↓xbs (lF123_29 hL), ↓xbs io, bi_z, a1, a2, b1, b2, so']
      by_cases c : ρ (i / 64) (i % 64) = S (i / 64) (i % 64)
      · rw [if_pos (by simpa using c)]
        exact r_tellL70 hL hn hlen f (i + 1) I J (by omega) (by omega) h0 hO hR (by rw [fl_s, stp_e c, List.append_nil]; exact h17) (by rw [fl_s, stp_e c, List.append_nil]; exact h18)
      · rw [if_neg (by simpa using c)]
        have fs : fl ρ S (i + 1) = fl ρ S i ++ [(i / 64, i % 64, ρ (i / 64) (i % 64), S (i / 64) (i % 64))] := by rw [fl_s, stp_n c]
        have f1 := fl_len ρ S i
        have f2 : (fl ρ S (i + 1)).length ≤ (stT ρ S n).length := by
          have := fl_mono ρ S (i + 1) (64 * n - (i + 1))
          rw [show i + 1 + (64 * n - (i + 1)) = 64 * n by omega, fl_n] at this
          exact this
        rw [fs, List.length_append] at f2
        simp only [List.length_cons, List.length_nil] at f2
        obtain ⟨I1, J1, g1, g2, g3, g4⟩ := r_tellB145 hL (show i < 768 by omega) h17 h18 (by omega) (by omega) (ρ (i / 64) (i % 64)) (S (i / 64) (i % 64)) (m5_tell_L70 148 K F f)
        rw [← fs] at g3 g4
        obtain ⟨I2, J2, d1, d2, d3, d4⟩ := r_tellL70 hL hn hlen f (i + 1) I1 J1 (by omega) (by omega) (by rw [g2.2.1 0 (by decide) (by decide)]; exact h0) (hO.fr (g2.1 _ (by decide) (by decide)) (g2.2.2.1 _ (by decide) (by decide))) (hR.fr (g2.1 _ (by decide) (by decide)) (g2.2.2.1 _ (by decide) (by decide))) g3 g4
        rw [d1] at g1
        have b124 : ∀ v, m5_tell_B124 148 K F (m5_tell_L70 148 K F f) I J 123 (nI i) v ((ρ (i / 64) (i % 64)).getD 0) = m5_tell_B145 148 K F (m5_tell_L70 148 K F f) I J 123 (nI i) v ((ρ (i / 64) (i % 64)).getD 0) ((S (i / 64) (i % 64)).getD 0) := by
          intro v
          unfold m5_tell_B124
          simp (disch := omega) only [↓xlet, xb_some, ↓reduceIte, cl_nI, nI_64, nI_add, nI_1, kg124 hL, kg125 hL, kg126 hL, kg127 hL, kg128 hL, kg129 hL, kg130 hL, kg131 hL, kg132 hL, kg133 hL, kg134 hL, kg135 hL, kg136 hL, kg137 hL, kg138 hL, kg139 hL, kg140 hL, kg141 hL, kg142 hL, kg143 hL, kg144 hL, kg145 hL, kg146 hL, kg147 hL, kg123 hL, ↓xbs (lF123_1 hL), ↓xbs (lF123_2 hL), ↓xbs (lF123_3 hL), ↓xbs (lF123_4 hL), ↓xbs (lF123_5 hL), ↓xbs (lF123_6 hL), ↓xbs (lF123_7 hL), ↓xbs (lF123_8 hL), ↓xbs (lF123_9 hL), ↓xbs (lF123_10 hL), ↓xbs (lF123_11 hL), ↓xbs (lF123_12 hL), ↓xbs (lF123_13 hL), ↓xbs (lF123_14 hL), ↓xbs (lF123_15 hL), ↓xbs (lF123_16 hL), ↓xbs (lF123_22 hL), ↓xbs (lF123_23 hL), ↓xbs (lF123_24 hL), ↓xbs (lF123_25 hL), ↓xbs (lF123_26 hL), ↓xbs (lF123_27 hL), ↓xbs (lF123_28 hL), ↓xbs (lF123_29 hL), b1, b2, bi_z]
          cases S (i / 64) (i % 64) with
          | none => rfl
          | some w => rfl
        refine ⟨I2, J2, ?_, g2.trans d2, d3, d4⟩
        rw [← g1]
        cases ea : ρ (i / 64) (i % 64) with
        | none =>
          rw [if_pos (by simp)]
          rw [ea] at b124
          exact b124 _
        | some v =>
          rw [if_neg (by simp)]
          rw [ea] at b124
          exact b124 _
theorem r_tell (hL : Lay K F) (hS : Shp n so o1 o2 p q) (hG : Sg n so o1 o2 p q σ S) (hlg : lg.length ≤ 1500) (htd : td.length ≤ 768) (h1 : RDef I J n so o1 o2 p q) (h2 : RRows I J 129 130 n σ) (hO : RRows I J 131 132 n ρ) (h3 : RRows I J 133 134 n β) (h4 : RBat I J bo b) (h5 : RLst I J 17 0 lg) (h6 : RLst I J 18 1500 td) (h7 : RLst I J 19 2300 nt) (h8 : RCp I J κ) : ∃ I' J', LoF I I' J J' ∧ (lg.length + (stT ρ S n).length ≤ 1500 → m5_tell 148 K F I J 123 = some (nI (stT ρ S n).length, I', J') ∧ RS I' J' n so o1 o2 p q S β bo b (lg ++ stT ρ S n) (stT ρ S n) nt κ) ∧ (¬ lg.length + (stT ρ S n).length ≤ 1500 → m5_tell 148 K F I J 123 = some (-3, I', J') ∧ RS I' J' n so o1 o2 p q ρ β bo b lg td nt κ) := by
  have hn := hS.1
  have nl := stT_len ρ S n
  obtain ⟨I1, J1, e1, e2, e3, e4⟩ := r_folL2 (ρ := ρ) hL hS hG xFu 0 I J (by omega) (by unfold xFu; omega) h1 hO (fun x hx => by omega) (fun x _ hx k hk => h2 x hx k hk)
  have e1 : m5_follow_L2 148 K F xFu I J 123 0 = some (nI (stT ρ S n).length, I1, J1) := e1
  have k3 : I1 123 = I 123 := e2 123 (by decide)
  have v17 : I1 123 17 = nI lg.length := by rw [k3]; exact h5.1
  by_cases c : lg.length + (stT ρ S n).length ≤ 1500
  · have le : (nI (lg.length + (stT ρ S n).length) ≤ (1500 : Int32)) = True := eq_true (nI_le (b := 1500) c (by decide))
    have z0 : fl ρ S 0 = [] := rfl
    have s18 : ∀ j, j ≠ 18 → xu I1 123 18 0 123 j = I 123 j := fun j hj => by rw [xu3 _ _ hj, k3]
    have sI : ∀ a, a ≠ 123 → a ≠ 129 → xu I1 123 18 0 a = I a := fun a a3 a9 => by rw [xu_rw a3, e2 a a9]
    obtain ⟨I2, J2, g1, g2, g3, g4⟩ := r_tellL70 (ρ := ρ) (S := S) hL hn c xFu 0 (xu I1 123 18 0) J1 (by omega) (by unfold xFu; omega) (by rw [s18 0 (by decide)]; exact h1.1) (hO.fr (sI _ (by decide) (by decide)) (e3 _ (by decide))) (e4.fr (xu_rw (by decide)) rfl) (by rw [z0, List.append_nil]; exact h5.fr' (s18 _ (by decide)) (sI _ (by decide) (by decide)) (sI _ (by decide) (by decide)) (sI _ (by decide) (by decide)) (e3 _ (by decide)) (e3 _ (by decide))) ⟨by rw [xu2]; rfl, fun i t k o w e => by rw [z0] at e; simp at e⟩
    have g1 : m5_tell_L70 148 K F xFu (xu I1 123 18 0) J1 123 0 = some (nI (stT ρ S n).length, I2, J2) := g1
    have FI : ∀ a, a ≠ 123 → a ≠ 129 → a < 135 ∨ 137 < a → I2 a = I a := fun a a3 a9 ar => by rw [g2.1 a a3 ar, sI a a3 a9]
    have FJ : ∀ a, a ≠ 130 → a ≠ 138 → a ≠ 139 → J2 a = J a := fun a a0 a8 a9 => by rw [g2.2.2.1 a a8 a9, e3 a a0]
    have F3 : ∀ j, j ≠ 17 → j ≠ 18 → I2 123 j = I 123 j := fun j j7 j8 => by rw [g2.2.1 j j7 j8, s18 j j8]
    refine ⟨I2, J2, fun a ha => ⟨FI a (by omega) (by omega) (by omega), FJ a (by omega) (by omega) (by omega)⟩, fun _ => ⟨?_, h1.fr (F3 _ (by decide) (by decide)) (FI _ (by decide) (by decide) (by decide)) (FI _ (by decide) (by decide) (by decide)) (FI _ (by decide) (by decide) (by decide)) (FJ _ (by decide) (by decide) (by decide)) (FJ _ (by decide) (by decide) (by decide)), e4.fr (by rw [g2.1 _ (by decide) (by decide), xu_rw (by decide)]) (g2.2.2.1 _ (by decide) (by decide)), h3.fr (FI _ (by decide) (by decide) (by decide)) (FJ _ (by decide) (by decide) (by decide)), h4.fr (F3 _ (by decide) (by decide)) (F3 _ (by decide) (by decide)) (FI _ (by decide) (by decide) (by decide)) (FI _ (by decide) (by decide) (by decide)) (FI _ (by decide) (by decide) (by decide)) (FJ _ (by decide) (by decide) (by decide)), g3, g4, h7.fr (F3 _ (by decide) (by decide)) (fun x hx hx2 => ?_), h8.fr (FI _ (by decide) (by decide) (by decide)) (FJ _ (by decide) (by decide) (by decide))⟩, fun z => absurd c z⟩
    · unfold m5_tell m5_follow
      simp (disch := omega) only [↓xlet, xb_some, ↓reduceIte, cl_nI, nI_64, nI_add, nI_1, kg124 hL, kg125 hL, kg126 hL, kg127 hL, kg128 hL, kg129 hL, kg130 hL, kg131 hL, kg132 hL, kg133 hL, kg134 hL, kg135 hL, kg136 hL, kg137 hL, kg138 hL, kg139 hL, kg140 hL, kg141 hL, kg142 hL, kg143 hL, kg144 hL, kg145 hL, kg146 hL, kg147 hL, kg123 hL, ↓xbs (lF123_1 hL), ↓xbs (lF123_2 hL), ↓xbs (lF123_3 hL), ↓xbs (lF123_4 hL), ↓xbs (lF123_5 hL), ↓xbs (lF123_6 hL), ↓xbs (lF123_7 hL), ↓xbs (lF123_8 hL), ↓xbs (lF123_9 hL), ↓xbs (lF123_10 hL), ↓xbs (lF123_11 hL), ↓xbs (lF123_12 hL), ↓xbs (lF123_13 hL), ↓xbs (lF123_14 hL), ↓xbs (lF123_15 hL), ↓xbs (lF123_16 hL), ↓xbs (lF123_22 hL), ↓xbs (lF123_23 hL), ↓xbs (lF123_24 hL), ↓xbs (lF123_25 hL), ↓xbs (lF123_26 hL), ↓xbs (lF123_27 hL), ↓xbs (lF123_28 hL), ↓xbs (lF123_29 hL), ↓xbs e1, v17, le, g1]
    · obtain ⟨a1, a2, a3, a4, a5⟩ := g2.2.2.2 x (by omega)
      exact ⟨by rw [a1, sI _ (by decide) (by decide)], by rw [a2, sI _ (by decide) (by decide)], by rw [a3, sI _ (by decide) (by decide)], by rw [a4, e3 _ (by decide)], by rw [a5, e3 _ (by decide)]⟩
  · have le : (nI (lg.length + (stT ρ S n).length) ≤ (1500 : Int32)) = False := eq_false (nI_ge (b := lg.length + (stT ρ S n).length) (a := 1500) (by omega) (by omega))
    have hO1 : RRows I1 J1 131 132 n ρ := hO.fr (e2 _ (by decide)) (e3 _ (by decide))
    obtain ⟨I2, J2, g1, g2, g3, _, g5⟩ := r_backL hL hn xFu 0 I1 J1 (by omega) (by unfold xFu; omega) (by rw [k3]; exact h1.1) (fun x hx => hO1.b01 hx)
    have g1 : m5_tell_L19 148 K F xFu I1 J1 123 0 = some (-3, I2, J2) := g1
    have FI : ∀ a, a ≠ 129 → I2 a = I a := fun a a9 => by rw [g2 a a9, e2 a a9]
    have FJ : ∀ a, a ≠ 130 → J2 a = J a := fun a a9 => by rw [g3 a a9, e3 a a9]
    have F3 : ∀ j, I2 123 j = I 123 j := fun j => by rw [FI 123 (by decide)]
    refine ⟨I2, J2, fun a ha => ⟨FI a (by omega), FJ a (by omega)⟩, fun z => absurd z c, fun _ => ⟨?_, h1.fr (F3 _) (FI _ (by decide)) (FI _ (by decide)) (FI _ (by decide)) (FJ _ (by decide)) (FJ _ (by decide)), hO1.mv (fun x hx => g5 x (by omega) hx), h3.fr (FI _ (by decide)) (FJ _ (by decide)), h4.fr (F3 _) (F3 _) (FI _ (by decide)) (FI _ (by decide)) (FI _ (by decide)) (FJ _ (by decide)), h5.fr' (F3 _) (FI _ (by decide)) (FI _ (by decide)) (FI _ (by decide)) (FJ _ (by decide)) (FJ _ (by decide)), h6.fr' (F3 _) (FI _ (by decide)) (FI _ (by decide)) (FI _ (by decide)) (FJ _ (by decide)) (FJ _ (by decide)), h7.fr' (F3 _) (FI _ (by decide)) (FI _ (by decide)) (FI _ (by decide)) (FJ _ (by decide)) (FJ _ (by decide)), h8.fr (FI _ (by decide)) (FJ _ (by decide))⟩⟩
    unfold m5_tell m5_follow
    simp (disch := omega) only [↓xlet, xb_some, ↓reduceIte, cl_nI, nI_64, nI_add, nI_1, kg124 hL, kg125 hL, kg126 hL, kg127 hL, kg128 hL, kg129 hL, kg130 hL, kg131 hL, kg132 hL, kg133 hL, kg134 hL, kg135 hL, kg136 hL, kg137 hL, kg138 hL, kg139 hL, kg140 hL, kg141 hL, kg142 hL, kg143 hL, kg144 hL, kg145 hL, kg146 hL, kg147 hL, kg123 hL, ↓xbs (lF123_1 hL), ↓xbs (lF123_2 hL), ↓xbs (lF123_3 hL), ↓xbs (lF123_4 hL), ↓xbs (lF123_5 hL), ↓xbs (lF123_6 hL), ↓xbs (lF123_7 hL), ↓xbs (lF123_8 hL), ↓xbs (lF123_9 hL), ↓xbs (lF123_10 hL), ↓xbs (lF123_11 hL), ↓xbs (lF123_12 hL), ↓xbs (lF123_13 hL), ↓xbs (lF123_14 hL), ↓xbs (lF123_15 hL), ↓xbs (lF123_16 hL), ↓xbs (lF123_22 hL), ↓xbs (lF123_23 hL), ↓xbs (lF123_24 hL), ↓xbs (lF123_25 hL), ↓xbs (lF123_26 hL), ↓xbs (lF123_27 hL), ↓xbs (lF123_28 hL), ↓xbs (lF123_29 hL), ↓xbs e1, v17, le, g1]
end
