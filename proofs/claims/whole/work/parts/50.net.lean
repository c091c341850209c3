section
variable {K : Nat → Nat × Nat} {F : Nat → Nat → Option Nat} {I I' : Nat → Nat → Int32} {J J' : Nat → Nat → Int64} {n : Nat} {so o1 o2 : Nat → Nat} {p q : Nat → Int64} {ρ σ S β : Nat → Nat → Option Int64} {lg td nt nt' l : List (Nat × Nat × Option Int64 × Option Int64)} {bo : Bool} {b : List (Nat × Nat × Option Int64)} {κ κ' a w : Nat → Option Int64}
/-- what the reference's net may write behind its two goes -/
def FrN (I I' : Nat → Nat → Int32) (J J' : Nat → Nat → Int64) : Prop := (∀ a, a ≠ 123 → a < 135 ∨ 137 < a → I' a = I a) ∧ (∀ j, j ≠ 19 → I' 123 j = I 123 j) ∧ (∀ a, a ≠ 138 → a ≠ 139 → J' a = J a) ∧ ∀ x, x < 2300 → I' 135 x = I 135 x ∧ I' 136 x = I 136 x ∧ I' 137 x = I 137 x ∧ J' 138 x = J 138 x ∧ J' 139 x = J 139 x
theorem FrN.self : FrN I I J J := ⟨fun _ _ _ => rfl, fun _ _ => rfl, fun _ _ _ => rfl, fun _ _ => ⟨rfl, rfl, rfl, rfl, rfl⟩⟩
theorem FrN.trans {I2 : Nat → Nat → Int32} {J2 : Nat → Nat → Int64} (h : FrN I I' J J') (h' : FrN I' I2 J' J2) : FrN I I2 J J2 := ⟨fun a x y => by rw [h'.1 a x y, h.1 a x y], fun j x => by rw [h'.2.1 j x, h.2.1 j x], fun a x y => by rw [h'.2.2.1 a x y, h.2.2.1 a x y], fun x hx => by
  obtain ⟨a1, a2, a3, a4, a5⟩ := h'.2.2.2 x hx
  obtain ⟨b1, b2, b3, b4, b5⟩ := h.2.2.2 x hx
  exact ⟨by rw [a1, b1], by rw [a2, b2], by rw [a3, b3], by rw [a4, b4], by rw [a5, b5]⟩⟩
theorem r_netL49 (hL : Lay K F) (t m : Int32) : ∀ (f k : Nat) (I : Nat → Nat → Int32) (J : Nat → Nat → Int64), k ≤ 64 → 64 - k < f → R1 I J 146 147 a → (∀ x, x < k → I 131 x = bi (a x).isSome ∧ J 132 x = (a x).getD 0) → ∃ I' J', (∀ I3 J3, m5_goTo 148 K F I' J' 123 t m = some (I3, J3) → m5_net_L49 148 K F f I J 123 t m (nI k) = m5_net_L104 148 K F xFu (xu I3 123 19 (0 : Int32)) J3 123 t (0 : Int32)) ∧ R1 I' J' 131 132 a ∧ (∀ x, x ≠ 131 → I' x = I x) ∧ ∀ x, x ≠ 132 → J' x = J x
  | 0, k, I, J, h1, h2, _, _ => absurd h2 (by omega)
  | f + 1, k, I, J, h1, h2, hR, hx => by
    rw [m5_net_L49]
    by_cases e : k = 64
    · subst e
      rw [if_pos (by decide), if_pos ⟨by decide, lK123 hL⟩]
      exact ⟨I, J, fun I3 J3 e => xbs e _, hx, fun _ _ => rfl, fun _ _ => rfl⟩
    · have hk : k < 64 := by omega
      obtain ⟨y1, y2⟩ := hR k hk
      have b1 : (bi (a k).isSome = 0 ∨ bi (a k).isSome = 1) = True := eq_true (bi_01 _)
      rw [if_neg (n64 hk)]
      simp (disch := omega) only [↓xlet, xb_some, ↓reduceIte, cl_nI, nI_64, nI_add, nI_1, kg124 hL, kg125 hL, kg126 hL, kg127 hL, kg128 hL, kg129 hL, kg130 hL, kg131 hL, kg132 hL, kg133 hL, kg134 hL, kg135 hL, kg136 hL, kg137 hL, kg138 hL, kg139 hL, kg140 hL, kg141 hL, kg142 hL, kg143 hL, kg144 hL, kg145 hL, kg146 hL, kg147 hL, kg123 hL, ↓xbs (lF123_1 hL), ↓xbs (lF123_2 hL), ↓xbs (lF123_3 hL), ↓xbs (lF123_4 hL), ↓xbs (lF123_5 hL), ↓xbs (lF123_6 hL), ↓xbs (lF123_7 hL), ↓xbs (lF123_8 hL), ↓xbs (lF123_9 hL), ↓xbs (lF123_10 hL), ↓xbs (lF123_11 hL), ↓xbs (lF123_12 hL), ↓xbs (lF123_13 hL), ↓xbs (lF123_14 hL), ↓xbs (lF123_15 hL), ↓xbs (lF123_16 hL), ↓xbs (lF123_22 hL), ↓xbs (lF123_23 hL), ↓xbs (lF123_24 hL), ↓xbs (lF123_25 hL), ↓xbs (lF123_26 hL), ↓xbs (lF123_27 hL), ↓xbs (lF123_28 hL), ↓xbs (lF123_29 hL), y1, y2, b1]
      obtain ⟨I2, J2, g1, g2, g3, g4⟩ := r_netL49 hL t m f (k + 1) (xu I 131 k (bi (a k).isSome)) (xu J 132 k ((a k).getD 0)) (by omega) (by omega) (hR.fr (xu_rw (by decide)) (xu_rw (by decide))) (fun x hxk => by
        by_cases z : x = k
        · subst z; rw [xu2, xu2]; exact ⟨rfl, rfl⟩
        · rw [xu3 _ _ z, xu3 _ _ z]; exact hx x (by omega))
      exact ⟨I2, J2, g1, g2, fun x x1 => by rw [g3 x x1, xu_rw x1], fun x x1 => by rw [g4 x x1, xu_rw x1]⟩
/-- one change of the net -/
theorem r_netB156 (hL : Lay K F) {t k : Nat} (hk : k < 64) (hA : R1 I J 131 132 a) (hB : R1 I J 146 147 w) (hc : RLst I J 19 2300 l) (hl : l.length < 64) (k104 : (Nat → Nat → Int32) → (Nat → Nat → Int64) → Nat → Int32 → Int32 → Option (Int32 × (Nat → Nat → Int32) × (Nat → Nat → Int64))) : ∃ I' J', m5_net_B156 148 K F k104 I J 123 (nI t) (nI k) = k104 I' J' 123 (nI t) (nI (k + 1)) ∧ FrN I I' J J' ∧ RLst I' J' 19 2300 (l ++ [(t, k, a k, w k)]) := by
  obtain ⟨y1, y2⟩ := hA k hk
  obtain ⟨z1, z2⟩ := hB k hk
  obtain ⟨I1, hI1⟩ : ∃ I1, I1 = wrI I (2300 + l.length) (nI t) (nI (srt (a k) (w k))) (nI k) := ⟨_, rfl⟩
  obtain ⟨J1, hJ1⟩ : ∃ J1, J1 = wrJ J (2300 + l.length) ((a k).getD 0) ((w k).getD 0) := ⟨_, rfl⟩
  have w1 := r_write (I := I) (J := J) hL (show 2300 + l.length < 2400 by omega) (nI t) (nI (srt (a k) (w k))) (nI k) ((a k).getD 0) ((w k).getD 0)
  rw [← hI1, ← hJ1] at w1
  have k1 : I1 123 = I 123 := by rw [hI1]; exact wrI_o (by omega)
  have p1 : (2300 : Int32) + nI l.length = nI (2300 + l.length) := nI_add 2300 l.length
  have e19 : I1 123 19 = nI l.length := by rw [k1]; exact hc.1
  have b227 : m5_net_B227 148 K F k104 I J 123 (nI t) (nI k) 123 (nI (2300 + l.length)) (nI t) (nI (srt (a k) (w k))) (nI k) ((a k).getD 0) ((w k).getD 0) = k104 (xu I1 123 19 (nI (l.length + 1))) J1 123 (nI t) (nI (k + 1)) := by
    unfold m5_net_B227
    simp (disch := omega) only [↓xlet, xb_some, ↓reduceIte, cl_nI, nI_64, nI_add, nI_1, kg124 hL, kg125 hL, kg126 hL, kg127 hL, kg128 hL, kg129 hL, kg130 hL, kg131 hL, kg132 hL, kg133 hL, kg134 hL, kg135 hL, kg136 hL, kg137 hL, kg138 hL, kg139 hL, kg140 hL, kg141 hL, kg142 hL, kg143 hL, kg144 hL, kg145 hL, kg146 hL, kg147 hL, kg123 hL, ↓xbs (lF123_1 hL), ↓xbs (lF123_2 hL), ↓xbs (lF123_3 hL), ↓xbs (lF123_4 hL), ↓xbs (lF123_5 hL), ↓xbs (lF123_6 hL), ↓xbs (lF123_7 hL), ↓xbs (lF123_8 hL), ↓xbs (lF123_9 hL), ↓xbs (lF123_10 hL), ↓xbs (lF123_11 hL), ↓xbs (lF123_12 hL), ↓xbs (lF123_13 hL), ↓xbs (lF123_14 hL), ↓xbs (lF123_15 hL), ↓xbs (lF123_16 hL), ↓xbs (lF123_22 hL), ↓xbs (lF123_23 hL), ↓xbs (lF123_24 hL), ↓xbs (lF123_25 hL), ↓xbs (lF123_26 hL), ↓xbs (lF123_27 hL), ↓xbs (lF123_28 hL), ↓xbs (lF123_29 hL), ↓xbs w1, e19]
  have b206 : m5_net_B206 148 K F k104 I J 123 (nI t) (nI k) 123 (nI (2300 + l.length)) (nI t) (nI (srt (a k) (w k))) (nI k) ((a k).getD 0) = k104 (xu I1 123 19 (nI (l.length + 1))) J1 123 (nI t) (nI (k + 1)) := by
    rw [← b227]
    unfold m5_net_B206
    simp (disch := omega) only [↓xlet, xb_some, ↓reduceIte, cl_nI, nI_64, nI_add, nI_1, kg124 hL, kg125 hL, kg126 hL, kg127 hL, kg128 hL, kg129 hL, kg130 hL, kg131 hL, kg132 hL, kg133 hL, kg134 hL, kg135 hL, kg136 hL, kg137 hL, kg138 hL, kg139 hL, kg140 hL, kg141 hL, kg142 hL, kg143 hL, kg144 hL, kg145 hL, kg146 hL, kg147 hL, kg123 hL, ↓xbs (lF123_1 hL), ↓xbs (lF123_2 hL), ↓xbs (lF123_3 hL), ↓xbs (lF123_4 hL), ↓xbs (lF123_5 hL), ↓xbs (lF123_6 hL), ↓xbs (lF123_7 hL), ↓xbs (lF123_8 hL), ↓xbs (lF123_9 hL), ↓xbs (lF123_10 hL), ↓xbs (lF123_11 hL), ↓xbs (lF123_12 hL), ↓xbs (lF123_13 hL), ↓xbs (lF123_14 hL), ↓xbs (lF123_15 hL), ↓xbs (lF123_16 hL), ↓xbs (lF123_22 hL), ↓xbs (lF123_23 hL), ↓xbs (lF123_24 hL), ↓xbs (lF123_25 hL), ↓xbs (lF123_26 hL), ↓xbs (lF123_27 hL), ↓xbs (lF123_28 hL), ↓xbs (lF123_29 hL), z1, z2, bi_z]
    cases w k with
    | none => rfl
    | some v => rfl
  have so' := r_sortOf (K := K) (F := F) (I := I) (J := J) (N := 148) (a k) (w k)
  refine ⟨xu I1 123 19 (nI (l.length + 1)), J1, ?_, ⟨fun x x3 xr => by rw [xu_rw x3, hI1, wrI_o xr], fun j hj => by rw [xu3 _ _ hj, k1], fun x x8 x9 => by rw [hJ1, wrJ_o ⟨x8, x9⟩], fun x hx => ?_⟩, hc.push (by rw [xu2]) (fun x x1 x2 => ?_) ?_⟩
  · rw [← b206]
    unfold m5_net_B156
    simp (disch := omega) only [↓xlet, xb_some, ↓reduceIte, cl_nI, nI_64, nI_add, nI_1, kg124 hL, kg125 hL, kg126 hL, kg127 hL, kg128 hL, kg129 hL, kg130 hL, kg131 hL, kg132 hL, kg133 hL, kg134 hL, kg135 hL, kg136 hL, kg137 hL, kg138 hL, kg139 hL, kg140 hL, kg141 hL, kg142 hL, kg143 hL, kg144 hL, kg145 hL, kg146 hL, kg147 hL, kg123 hL, ↓xbs (lF123_1 hL), ↓xbs (lF123_2 hL), ↓xbs (lF123_3 hL), ↓xbs (lF123_4 hL), ↓xbs (lF123_5 hL), ↓xbs (lF123_6 hL), ↓xbs (lF123_7 hL), ↓xbs (lF123_8 hL), ↓xbs (lF123_9 hL), ↓xbs (lF123_10 hL), ↓xbs (lF123_11 hL), ↓xbs (lF123_12 hL), ↓xbs (lF123_13 hL), ↓xbs (lF123_14 hL), ↓xbs (lF123_15 hL), ↓xbs (lF123_16 hL), ↓xbs (lF123_22 hL), ↓xbs (lF123_23 hL), ↓xbs (lF123_24 hL), ↓xbs (lF123_25 hL), ↓xbs (lF123_26 hL), ↓xbs (lF123_27 hL), ↓xbs (lF123_28 hL), ↓xbs (lF123_29 hL), y1, y2, z1, ↓xbs so', bi_z, hc.1, p1]
    cases a k with
    | none => rfl
    | some v => rfl
  · rw [xu_rw (by decide), xu_rw (by decide), xu_rw (by decide), hI1, hJ1]
    exact wr_ne (by omega)
  · rw [xu_rw (by decide), xu_rw (by decide), xu_rw (by decide), hI1, hJ1]
    exact wr_ne (by omega)
  · rw [xu_rw (by decide), xu_rw (by decide), xu_rw (by decide), hI1, hJ1]
    exact wr_at
theorem r_netL104 (hL : Lay K F) {t : Nat} : ∀ (f k : Nat) (I : Nat → Nat → Int32) (J : Nat → Nat → Int64), k ≤ 64 → 64 - k < f → R1 I J 131 132 a → R1 I J 146 147 w → RLst I J 19 2300 (stK t a w k) → ∃ I' J', m5_net_L104 148 K F f I J 123 (nI t) (nI k) = some (nI (stK t a w 64).length, I', J') ∧ FrN I I' J J' ∧ RLst I' J' 19 2300 (stK t a w 64)
  | 0, k, I, J, h1, h2, _, _, _ => absurd h2 (by omega)
  | f + 1, k, I, J, h1, h2, hA, hB, hc => by
    rw [m5_net_L104]
    by_cases e : k = 64
    · subst e
      rw [if_pos (by decide), if_pos ⟨by decide, lK123 hL⟩, hc.1]
      exact ⟨I, J, rfl, FrN.self, hc⟩
    · have hk : k < 64 := by omega
      have kl := stK_len t a w k
      obtain ⟨y1, y2⟩ := hA k hk
      obtain ⟨z1, z2⟩ := hB k hk
      rw [if_neg (n64 hk)]
      simp (disch := omega) only [↓xlet, xb_some, ↓reduceIte, cl_nI, nI_64, nI_add, nI_1, kg124 hL, kg125 hL, kg126 hL, kg127 hL, kg128 hL, kg129 hL, kg130 hL, kg131 hL, kg132 hL, kg133 hL, kg134 hL, kg135 hL, kg136 hL, kg137 hL, kg138 hL, kg139 hL, kg140 hL, kg141 hL, kg142 hL, kg143 hL, kg144 hL, kg145 hL, kg146 hL, kg147 hL, kg123 hL, ↓xbs (lF123_1 hL), ↓xbs (lF123_2 hL), ↓xbs (lF123_3 hL), ↓xbs (lF123_4 hL), ↓xbs (lF123_5 hL), ↓xbs (lF123_6 hL), ↓xbs (lF123_7 hL), ↓xbs (lF123_8 hL), ↓xbs (lF123_9 hL), ↓xbs (lF123_10 hL), ↓xbs (lF123_11 hL), ↓xbs (lF123_12 hL), ↓xbs (lF123_13 hL), ↓xbs (lF123_14 hL), ↓xbs (lF123_15 hL), ↓xbs (lF123_16 hL), ↓xbs (lF123_22 hL), ↓xbs (lF123_23 hL), ↓xbs (lF123_24 hL), ↓xbs (lF123_25 hL), ↓xbs (lF123_26 hL), ↓xbs (lF123_27 hL), ↓xbs (lF123_28 hL), ↓xbs (lF123_29 hL), y1, y2, z1, z2]
      have same : a k = w k → ∃ I' J', m5_net_L104 148 K F f I J 123 (nI t) (nI (k + 1)) = some (nI (stK t a w 64).length, I', J') ∧ FrN I I' J J' ∧ RLst I' J' 19 2300 (stK t a w 64) := fun z => r_netL104 hL f (k + 1) I J (by omega) (by omega) hA hB (by rw [stK, stp_e z, List.append_nil]; exact hc)
      have other : a k ≠ w k → ∃ I' J', m5_net_B156 148 K F (m5_net_L104 148 K F f) I J 123 (nI t) (nI k) = some (nI (stK t a w 64).length, I', J') ∧ FrN I I' J J' ∧ RLst I' J' 19 2300 (stK t a w 64) := fun z => by
        obtain ⟨I1, J1, g1, g2, g3⟩ := r_netB156 (t := t) hL hk hA hB hc (by omega) (m5_net_L104 148 K F f)
        obtain ⟨I2, J2, d1, d2, d3⟩ := r_netL104 hL f (k + 1) I1 J1 (by omega) (by omega) (hA.fr (g2.1 _ (by decide) (by decide)) (g2.2.2.1 _ (by decide) (by decide))) (hB.fr (g2.1 _ (by decide) (by decide)) (g2.2.2.1 _ (by decide) (by decide))) (by rw [stK, stp_n z]; exact g3)
        exact ⟨I2, J2, by rw [g1, d1], g2.trans d2, d3⟩
      cases e1 : a k with
      | none =>
        cases e2 : w k with
        | none =>
          simp only [Option.isSome_none, Option.isSome_some, Option.getD_some, bft, btf, bt0, bi_f, not_true_eq_false, not_false_eq_true, ↓reduceIte]
          exact same (by rw [e1, e2])
        | some v =>
          simp only [Option.isSome_none, Option.isSome_some, Option.getD_some, bft, btf, bt0, bi_f, not_true_eq_false, not_false_eq_true, ↓reduceIte]
          exact other (by rw [e1, e2]; simp)
      | some u =>
        cases e2 : w k with
        | none =>
          simp only [Option.isSome_none, Option.isSome_some, Option.getD_some, bft, btf, bt0, bi_f, not_true_eq_false, not_false_eq_true, ↓reduceIte]
          exact other (by rw [e1, e2]; simp)
        | some v =>
          simp only [Option.isSome_none, Option.isSome_some, Option.getD_some, bft, btf, bt0, bi_f, not_true_eq_false, not_false_eq_true, ↓reduceIte]
          by_cases c : u = v
          · rw [if_pos c]
            exact same (by rw [e1, e2, c])
          · rw [if_neg c]
            exact other (by rw [e1, e2]; simpa using c)
theorem r_net (hL : Lay K F) (hW : WS n so o1 o2 p q ρ b lg td nt) (hR : RS I J n so o1 o2 p q ρ β bo b lg td nt κ) {t m f0 : Nat} (ht : t < n) (hf : f0 ≤ m) (hm : m ≤ lg.length) : ∃ I' J', m5_net 148 K F I J 123 (nI t) (nI f0) (nI m) = some (nI (stK t (beh (β t) t lg f0) (beh (β t) t lg m) 64).length, I', J') ∧ LoF I I' J J' ∧ RS I' J' n so o1 o2 p q ρ β bo b lg td (stK t (beh (β t) t lg f0) (beh (β t) t lg m) 64) κ := by
  obtain ⟨w1, w2, w3, w4, w5, w6⟩ := id hW
  have hn := w1.1
  have hlg := w4.1
  obtain ⟨r1, r2, r3, r4, r5, r6, r7, r8⟩ := id hR
  have hw : win (nI t) 0 (nI n - 1) = true := (win_n (by omega)).mpr ⟨t, ht, rfl⟩
  have hwf : win (nI f0) 0 (nI lg.length) = true := (win_m (by omega)).mpr ⟨f0, by omega, rfl⟩
  have hwm : win (nI m) (nI f0) (nI lg.length) = true := (win_mm (by omega) (by omega)).mpr ⟨m, hf, hm, rfl⟩
  have n1 : m5_isIn 148 K F I J (Int32.toInt64 (nI f0)) 0 (Int32.toInt64 (nI lg.length)) = some (bi (win (nI f0) 0 (nI lg.length))) := m_in (by decide) rfl
  have n2 : m5_isIn 148 K F I J (Int32.toInt64 (nI m)) (Int32.toInt64 (nI f0)) (Int32.toInt64 (nI lg.length)) = some (bi (win (nI m) (nI f0) (nI lg.length))) := m_in rfl rfl
  obtain ⟨I1, J1, g1, g2, g3, g4⟩ := r_goTo hL w4 ht hn (show f0 ≤ lg.length by omega) r3 r5
  obtain ⟨I2, J2, d1, d2, d3, d4⟩ := r_netL49 hL (nI t) (nI m) xFu 0 I1 J1 (by omega) (by unfold xFu; omega) g2 (fun x hx => by omega)
  have f2 : ∀ x, x ≠ 131 → x ≠ 146 → I2 x = I x := fun x x1 x2 => by rw [d3 x x1, g3 x x2]
  have j2 : ∀ x, x ≠ 132 → x ≠ 147 → J2 x = J x := fun x x1 x2 => by rw [d4 x x1, g4 x x2]
  obtain ⟨I3, J3, e1, e2, e3, e4⟩ := r_goTo hL w4 ht hn hm (r3.fr (f2 _ (by decide) (by decide)) (j2 _ (by decide) (by decide))) (r5.fr' (by rw [f2 _ (by decide) (by decide)]) (f2 _ (by decide) (by decide)) (f2 _ (by decide) (by decide)) (f2 _ (by decide) (by decide)) (j2 _ (by decide) (by decide)) (j2 _ (by decide) (by decide)))
  have f3 : ∀ x, x ≠ 131 → x ≠ 146 → I3 x = I x := fun x x1 x2 => by rw [e3 x x2, f2 x x1 x2]
  have j3 : ∀ x, x ≠ 132 → x ≠ 147 → J3 x = J x := fun x x1 x2 => by rw [e4 x x2, j2 x x1 x2]
  obtain ⟨I4, J4, x1, x2, x3⟩ := r_netL104 (t := t) (a := beh (β t) t lg f0) (w := beh (β t) t lg m) hL xFu 0 (xu I3 123 19 0) J3 (by omega) (by unfold xFu; omega) (d2.fr (by rw [xu_rw (by decide), e3 _ (by decide)]) (e4 _ (by decide))) (e2.fr (xu_rw (by decide)) rfl) ⟨by rw [xu2]; rfl, fun i t k o w e => by rw [stK] at e; simp at e⟩
  have x1 : m5_net_L104 148 K F xFu (xu I3 123 19 0) J3 123 (nI t) 0 = _ := x1
  have y1 : m5_net_L49 148 K F xFu I1 J1 123 (nI t) (nI m) 0 = _ := (d1 I3 J3 e1).trans x1
  have FI : ∀ x, x ≠ 123 → x ≠ 131 → (x < 135 ∨ 137 < x) → x ≠ 146 → I4 x = I x := fun x y3 y1 yr y6 => by rw [x2.1 x y3 yr, xu_rw y3, f3 x y1 y6]
  have F3 : ∀ j, j ≠ 19 → I4 123 j = I 123 j := fun j hj => by rw [x2.2.1 j hj, xu3 _ _ hj, f3 _ (by decide) (by decide)]
  have FJ : ∀ x, x ≠ 132 → x ≠ 138 → x ≠ 139 → x ≠ 147 → J4 x = J x := fun x y2 y8 y9 y7 => by rw [x2.2.2.1 x y8 y9, j3 x y2 y7]
  refine ⟨I4, J4, ?_, fun x hx => ⟨FI x (by omega) (by omega) (by omega) (by omega), FJ x (by omega) (by omega) (by omega) (by omega)⟩, hR.fr2 w4.1 w5.1 (fun x y3 y1 yr _ y6 => FI x y3 y1 yr y6) F3 (fun x y2 y8 y9 _ y7 => FJ x y2 y8 y9 y7) (fun x hx => ?_) x3 (r8.fr (FI _ (by decide) (by decide) (by decide) (by decide)) (FJ _ (by decide) (by decide) (by decide) (by decide)))⟩
  · unfold m5_net
    simp (disch := omega) only [↓xlet, xb_some, ↓reduceIte, cl_nI, nI_64, nI_add, nI_1, kg124 hL, kg125 hL, kg126 hL, kg127 hL, kg128 hL, kg129 hL, kg130 hL, kg131 hL, kg132 hL, kg133 hL, kg134 hL, kg135 hL, kg136 hL, kg137 hL, kg138 hL, kg139 hL, kg140 hL, kg141 hL, kg142 hL, kg143 hL, kg144 hL, kg145 hL, kg146 hL, kg147 hL, kg123 hL, ↓xbs (lF123_1 hL), ↓xbs (lF123_2 hL), ↓xbs (lF123_3 hL), ↓xbs (lF123_4 hL), ↓xbs (lF123_5 hL), ↓xbs (lF123_6 hL), ↓xbs (lF123_7 hL), ↓xbs (lF123_8 hL), ↓xbs (lF123_9 hL), ↓xbs (lF123_10 hL), ↓xbs (lF123_11 hL), ↓xbs (lF123_12 hL), ↓xbs (lF123_13 hL), ↓xbs (lF123_14 hL), ↓xbs (lF123_15 hL), ↓xbs (lF123_16 hL), ↓xbs (lF123_22 hL), ↓xbs (lF123_23 hL), ↓xbs (lF123_24 hL), ↓xbs (lF123_25 hL), ↓xbs (lF123_26 hL), ↓xbs (lF123_27 hL), ↓xbs (lF123_28 hL), ↓xbs (lF123_29 hL), ↓xrT hL r1.1, hw, bi_z, Bool.true_eq_false, r5.1, ↓xbs n1, hwf, ↓xbs n2, hwm, not_false_eq_true, ↓xbs g1, y1]
  · obtain ⟨a1, a2, a3, a4, a5⟩ := x2.2.2.2 x hx
    rw [xu_rw (by decide), f3 _ (by decide) (by decide)] at a1 a2 a3
    rw [j3 _ (by decide) (by decide)] at a4 a5
    exact ⟨a1, a2, a3, a4, a5⟩
theorem iv_net (hL : Lay K F) (h : Inv I J) (a1 a2 a3 : Int32) : ∃ x I1 J1 I2 J2, m0_net 148 K F I J 0 a1 a2 a3 = some (x, I1, J1) ∧ m5_net 148 K F I1 J1 123 a1 a2 a3 = some (x, I2, J2) ∧ Inv I2 J2 := by
  obtain ⟨n, so, o1, o2, p, q, ρ, β, bo, b, lg, td, nt, κ, hW, hC, hR⟩ := h
  have hI : Inv I J := ⟨n, so, o1, o2, p, q, ρ, β, bo, b, lg, td, nt, κ, hW, hC, hR⟩
  obtain ⟨h1, h2, h3, h4, h5, h6, h7, h8, h9, h10⟩ := id hC
  obtain ⟨w1, w2, w3, w4, w5, w6⟩ := id hW
  have hn := w1.1
  have hlg := w4.1
  have i6 : I 7 0 = nI lg.length := h6.1
  by_cases ht : win a1 0 (nI n - 1) = true
  · obtain ⟨t, htn, rfl⟩ := (win_n (by omega)).mp ht
    have h12 : t < 12 := by omega
    by_cases hb : win a3 0 (nI lg.length) = true ∧ win a2 0 a3 = true
    · obtain ⟨hm, hf⟩ := hb
      obtain ⟨m, hml, rfl⟩ := (win_m (by omega)).mp hm
      obtain ⟨f0, hfm, rfl⟩ := (win_m (by omega)).mp hf
      obtain ⟨J1, e1, e2, e3⟩ := c_behind (I := I) hL w4 (lR21 hL) (by decide) (by decide) h12 (show f0 ≤ lg.length by omega) (h4 t htn) h6
      obtain ⟨J2, d1, d2, d3⟩ := c_behind (I := I) (J := J1) hL w4 (lR23 hL) (by decide) (by decide) h12 hml (RA_move (h4 t htn) (e3 _ (by omega) (by omega)) (e3 _ (by omega) (by omega))) (h6.fr rfl rfl (e3 _ (by decide) (by decide)) (e3 _ (by decide) (by decide)))
      have e2' : RA J2 21 (beh (β t) t lg f0) := RA_move e2 (d3 _ (by decide) (by decide)) (d3 _ (by decide) (by decide))
      obtain ⟨y, ey, hy⟩ := m_differing (I := xu I 15 0 0) (lR21 hL) (lR23 hL) e2' d2
      obtain ⟨I3, J3, g1, g2, g3, g4⟩ := m_addSteps (I := xu I 15 0 0) (l := []) (lL15 hL) (lR21 hL) (lR23 hL) (by decide) (by decide) h12 hy (by decide) ⟨by rw [xu2]; rfl, fun i t k o w e => by simp at e⟩ e2' d2
      rw [List.nil_append] at g2
      have C3 : CS I3 J3 n so o1 o2 p q ρ β bo b lg td (stK t (beh (β t) t lg f0) (beh (β t) t lg m) 64) κ := hC.fr2 hn (fun x hx => by rw [g3 x (by omega) (by omega), xu_rw (by omega)]) (fun x hx => by rw [g4 x (by omega) (by omega), d3 x (by omega) (by omega), e3 x (by omega) (by omega)]) g2 (RA_move h9 (by rw [g4 _ (by decide) (by decide), d3 _ (by decide) (by decide), e3 _ (by decide) (by decide)]) (by rw [g4 _ (by decide) (by decide), d3 _ (by decide) (by decide), e3 _ (by decide) (by decide)]))
      have hi : HiF I I3 J J3 := fun x hx => ⟨by rw [g3 x (by omega) (by omega), xu_rw (by omega)], by rw [g4 x (by omega) (by omega), d3 x (by omega) (by omega), e3 x (by omega) (by omega)]⟩
      obtain ⟨I4, J4, x1, x2, x3⟩ := r_net hL hW (hR.fr hi) htn hfm hml
      refine ⟨_, I3, J3, I4, J4, ?_, x1, n, so, o1, o2, p, q, ρ, β, bo, b, lg, td, _, κ, ⟨w1, w2, w3, w4, w5, stK_ok h12 64 (by decide)⟩, C3.fr hn x2, x3⟩
      unfold m0_net m2_reset
      simp (disch := omega) only [↓xlet, xb_some, ↓reduceIte, cl_nI, nI_64, nI_add, nI_1, kg3 hL, kg4 hL, kg5 hL, kg6 hL, kg8 hL, kg9 hL, kg10 hL, kg12 hL, kg13 hL, kg14 hL, kg16 hL, kg17 hL, kg18 hL, kg0 hL, kg2 hL, kg7 hL, kg11 hL, kg15 hL, kg19 hL, kg21 hL, kg23 hL, kg25 hL, ↓xbs (lF0_0 hL), ↓xbs (lF0_2 hL), ↓xbs (lF0_3 hL), ↓xbs (lF0_4 hL), ↓xbs (lF0_5 hL), ↓xbs (lF0_6 hL), ↓xbs (lF0_7 hL), ↓xbs (lF0_8 hL), ↓xbs (lF0_9 hL), ↓xbs (lF2_2 hL), ↓xbs (lF2_3 hL), ↓xbs (lF2_4 hL), ↓xbs (lF2_5 hL), ↓xbs (lF7_1 hL), ↓xbs (lF7_2 hL), ↓xbs (lF7_3 hL), ↓xbs (lF11_1 hL), ↓xbs (lF11_2 hL), ↓xbs (lF11_3 hL), ↓xbs (lF15_1 hL), ↓xbs (lF15_2 hL), ↓xbs (lF15_3 hL), kg1 hL, lF1 hL, ↓xF1c hL, kgT hL, kgR1 hL, kgR3 hL, kgR5 hL, ↓xT5 hL, ↓xT6 hL, ↓xT7 hL, lT5 hL, lT6 hL, lT7 hL, ↓xisT hL h1.1, ht, bi_z, Bool.true_eq_false, i6, ↓xisW, hm, hf, not_false_eq_true, ↓xbs e1, ↓xbs d1, ↓xbs ey, ↓xbs g1, g2.1]
    · refine ⟨-2, I, J, I, J, ?_, ?_, hI⟩
      · unfold m0_net
        simp (disch := omega) only [↓xlet, xb_some, ↓reduceIte, cl_nI, nI_64, nI_add, nI_1, kg3 hL, kg4 hL, kg5 hL, kg6 hL, kg8 hL, kg9 hL, kg10 hL, kg12 hL, kg13 hL, kg14 hL, kg16 hL, kg17 hL, kg18 hL, kg0 hL, kg2 hL, kg7 hL, kg11 hL, kg15 hL, kg19 hL, kg21 hL, kg23 hL, kg25 hL, ↓xbs (lF0_0 hL), ↓xbs (lF0_2 hL), ↓xbs (lF0_3 hL), ↓xbs (lF0_4 hL), ↓xbs (lF0_5 hL), ↓xbs (lF0_6 hL), ↓xbs (lF0_7 hL), ↓xbs (lF0_8 hL), ↓xbs (lF0_9 hL), ↓xbs (lF2_2 hL), ↓xbs (lF2_3 hL), ↓xbs (lF2_4 hL), ↓xbs (lF2_5 hL), ↓xbs (lF7_1 hL), ↓xbs (lF7_2 hL), ↓xbs (lF7_3 hL), ↓xbs (lF11_1 hL), ↓xbs (lF11_2 hL), ↓xbs (lF11_3 hL), ↓xbs (lF15_1 hL), ↓xbs (lF15_2 hL), ↓xbs (lF15_3 hL), kg1 hL, lF1 hL, ↓xF1c hL, kgT hL, kgR1 hL, kgR3 hL, kgR5 hL, ↓xT5 hL, ↓xT6 hL, ↓xT7 hL, lT5 hL, lT6 hL, lT7 hL, ↓xisT hL h1.1, ht, bi_z, Bool.true_eq_false, i6, ↓xisW]
        by_cases hm : win a3 0 (nI lg.length) = true
        · have hf : win a2 0 a3 = false := bt_n (fun z => hb ⟨hm, z⟩)
          rw [if_neg (by rw [hm]; decide), if_neg (x_nn hf)]
        · rw [if_pos (bt_n hm)]
      · have n1 : m5_isIn 148 K F I J (Int32.toInt64 a2) 0 (Int32.toInt64 (nI lg.length)) = some (bi (win a2 0 (nI lg.length))) := m_in (by decide) rfl
        have n2 : m5_isIn 148 K F I J (Int32.toInt64 a3) (Int32.toInt64 a2) (Int32.toInt64 (nI lg.length)) = some (bi (win a3 a2 (nI lg.length))) := m_in rfl rfl
        unfold m5_net
        simp (disch := omega) only [↓xlet, xb_some, ↓reduceIte, cl_nI, nI_64, nI_add, nI_1, kg124 hL, kg125 hL, kg126 hL, kg127 hL, kg128 hL, kg129 hL, kg130 hL, kg131 hL, kg132 hL, kg133 hL, kg134 hL, kg135 hL, kg136 hL, kg137 hL, kg138 hL, kg139 hL, kg140 hL, kg141 hL, kg142 hL, kg143 hL, kg144 hL, kg145 hL, kg146 hL, kg147 hL, kg123 hL, ↓xbs (lF123_1 hL), ↓xbs (lF123_2 hL), ↓xbs (lF123_3 hL), ↓xbs (lF123_4 hL), ↓xbs (lF123_5 hL), ↓xbs (lF123_6 hL), ↓xbs (lF123_7 hL), ↓xbs (lF123_8 hL), ↓xbs (lF123_9 hL), ↓xbs (lF123_10 hL), ↓xbs (lF123_11 hL), ↓xbs (lF123_12 hL), ↓xbs (lF123_13 hL), ↓xbs (lF123_14 hL), ↓xbs (lF123_15 hL), ↓xbs (lF123_16 hL), ↓xbs (lF123_22 hL), ↓xbs (lF123_23 hL), ↓xbs (lF123_24 hL), ↓xbs (lF123_25 hL), ↓xbs (lF123_26 hL), ↓xbs (lF123_27 hL), ↓xbs (lF123_28 hL), ↓xbs (lF123_29 hL), ↓xrT hL hR.1.1, ht, bi_z, Bool.true_eq_false, hR.2.2.2.2.1.1, ↓xbs n1, ↓xbs n2]
        by_cases hf : win a2 0 (nI lg.length) = true
        · obtain ⟨f0, hfl, rfl⟩ := (win_m (by omega)).mp hf
          have hm : win a3 (nI f0) (nI lg.length) = false := bt_n (fun z => by
            obtain ⟨m, q1, q2, rfl⟩ := (win_mm (by omega) (by omega)).mp z
            exact hb ⟨(win_m (by omega)).mpr ⟨m, q2, rfl⟩, (win_m (by omega)).mpr ⟨f0, q1, rfl⟩⟩)
          rw [if_neg (by rw [hf]; decide), if_neg (x_nn hm)]
        · rw [if_pos (bt_n hf)]
  · have ht := bt_n ht
    refine ⟨-2, I, J, I, J, ?_, ?_, hI⟩
    · unfold m0_net
      simp (disch := omega) only [↓xlet, xb_some, ↓reduceIte, cl_nI, nI_64, nI_add, nI_1, kg3 hL, kg4 hL, kg5 hL, kg6 hL, kg8 hL, kg9 hL, kg10 hL, kg12 hL, kg13 hL, kg14 hL, kg16 hL, kg17 hL, kg18 hL, kg0 hL, kg2 hL, kg7 hL, kg11 hL, kg15 hL, kg19 hL, kg21 hL, kg23 hL, kg25 hL, ↓xbs (lF0_0 hL), ↓xbs (lF0_2 hL), ↓xbs (lF0_3 hL), ↓xbs (lF0_4 hL), ↓xbs (lF0_5 hL), ↓xbs (lF0_6 hL), ↓xbs (lF0_7 hL), ↓xbs (lF0_8 hL), ↓xbs (lF0_9 hL), ↓xbs (lF2_2 hL), ↓xbs (lF2_3 hL), ↓xbs (lF2_4 hL), ↓xbs (lF2_5 hL), ↓xbs (lF7_1 hL), ↓xbs (lF7_2 hL), ↓xbs (lF7_3 hL), ↓xbs (lF11_1 hL), ↓xbs (lF11_2 hL), ↓xbs (lF11_3 hL), ↓xbs (lF15_1 hL), ↓xbs (lF15_2 hL), ↓xbs (lF15_3 hL), kg1 hL, lF1 hL, ↓xF1c hL, kgT hL, kgR1 hL, kgR3 hL, kgR5 hL, ↓xT5 hL, ↓xT6 hL, ↓xT7 hL, lT5 hL, lT6 hL, lT7 hL, ↓xisT hL h1.1, ht, bi_z]
    · unfold m5_net
      simp (disch := omega) only [↓xlet, xb_some, ↓reduceIte, cl_nI, nI_64, nI_add, nI_1, kg124 hL, kg125 hL, kg126 hL, kg127 hL, kg128 hL, kg129 hL, kg130 hL, kg131 hL, kg132 hL, kg133 hL, kg134 hL, kg135 hL, kg136 hL, kg137 hL, kg138 hL, kg139 hL, kg140 hL, kg141 hL, kg142 hL, kg143 hL, kg144 hL, kg145 hL, kg146 hL, kg147 hL, kg123 hL, ↓xbs (lF123_1 hL), ↓xbs (lF123_2 hL), ↓xbs (lF123_3 hL), ↓xbs (lF123_4 hL), ↓xbs (lF123_5 hL), ↓xbs (lF123_6 hL), ↓xbs (lF123_7 hL), ↓xbs (lF123_8 hL), ↓xbs (lF123_9 hL), ↓xbs (lF123_10 hL), ↓xbs (lF123_11 hL), ↓xbs (lF123_12 hL), ↓xbs (lF123_13 hL), ↓xbs (lF123_14 hL), ↓xbs (lF123_15 hL), ↓xbs (lF123_16 hL), ↓xbs (lF123_22 hL), ↓xbs (lF123_23 hL), ↓xbs (lF123_24 hL), ↓xbs (lF123_25 hL), ↓xbs (lF123_26 hL), ↓xbs (lF123_27 hL), ↓xbs (lF123_28 hL), ↓xbs (lF123_29 hL), ↓xrT hL hR.1.1, ht, bi_z]
end
