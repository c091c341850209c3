section
variable {K : Nat → Nat × Nat} {F : Nat → Nat → Option Nat} {I I' : Nat → Nat → Int32} {J J' : Nat → Nat → Int64} {l : List (Nat × Nat × Option Int64 × Option Int64)} {c m : Nat}
theorem CLst.push (h : CLst I J c l) {t k : Nat} {o w : Option Int64} (e0 : I' c 0 = nI (l.length + 1)) (e1 : ∀ i, i ≠ l.length → I' (c + 1) i = I (c + 1) i) (e2 : ∀ i, i ≠ l.length → J' (c + 2) i = J (c + 2) i) (e3 : ∀ i, i ≠ l.length → J' (c + 3) i = J (c + 3) i) (x1 : I' (c + 1) l.length = nI (256 * t + 64 * srt o w + k)) (x2 : J' (c + 2) l.length = o.getD 0) (x3 : J' (c + 3) l.length = w.getD 0) : CLst I' J' c (l ++ [(t, k, o, w)]) := by
  refine ⟨by rw [e0, List.length_append]; rfl, fun i t' k' o' w' e => ?_⟩
  rcases Nat.lt_or_ge i l.length with z | z
  · rw [List.getElem?_append_left z] at e
    rw [e1 i (by omega), e2 i (by omega), e3 i (by omega)]
    exact h.2 i t' k' o' w' e
  · rw [List.getElem?_append_right z] at e
    have : i = l.length := by
      have := get_lt e
      simp at this
      omega
    subst this
    simp at e
    obtain ⟨rfl, rfl, rfl, rfl⟩ := e
    exact ⟨x1, x2, x3⟩
/-- one step is added -/
theorem m_addB61 (hl : LstOk K F c m) {r o : Nat} (hr : RowsOk K F r) (ho : RowsOk K F o) (ra : r + 1 ≠ c + 2) (oa : o + 1 ≠ c + 2) {a w : Nat → Option Int64} {t k : Nat} (ht : t < 12) (hk : k < 64) (hc : CLst I J c l) (hA : RA J r a) (hB : RA J o w) (hlen : l.length < m) (y : Int64) (k3 : (Nat → Nat → Int32) → (Nat → Nat → Int64) → Nat → Int32 → Nat → Nat → Int64 → Int32 → Option ((Nat → Nat → Int32) × (Nat → Nat → Int64))) : ∃ I' J', m2_addSteps_B61 148 K F k3 I J c (nI t) r o y (nI k) (nI (srt (a k) (w k))) = k3 I' J' c (nI t) r o y (nI (k + 1)) ∧ CLst I' J' c (l ++ [(t, k, a k, w k)]) ∧ (∀ x, x ≠ c → x ≠ c + 1 → I' x = I x) ∧ ∀ x, x ≠ c + 2 → x ≠ c + 3 → J' x = J x := by
  have hm := hl.2.2.2.2.2.2.2.2.2
  have sl := srt_le (a k) (w k)
  have sp := sp_m t ht (srt (a k) (w k)) (by omega) k hk
  refine ⟨xu (xu I (c + 1) l.length (nI (256 * t + 64 * srt (a k) (w k) + k))) c 0 (nI (l.length + 1)), xu (xu J (c + 2) l.length ((a k).getD 0)) (c + 3) l.length ((w k).getD 0), ?_, ?_, fun x h0 h1 => by rw [xu_rw h0, xu_rw h1], fun x h2 h3 => by rw [xu_rw h3, xu_rw h2]⟩
  · unfold m2_addSteps_B61
    have i4 : ∀ v, xu I (c + 1) l.length v c 0 = nI l.length := fun v => by rw [xu_rw (by omega)]; exact hc.1
    have j4 : ∀ v, xu J (c + 2) l.length v (o + 1) k = (w k).getD 0 := fun v => by rw [xu_rw (by omega)]; exact hB.2 k hk
    simp (disch := omega) only [↓xlet, ↓reduceIte, hl.go, ↓xbs hl.2.2.1, ↓xbs hl.2.2.2.1, ↓xbs hl.2.2.2.2.1, hc.1, hl.g1 hlen, cl_nI, sp, i4, hl.g2 hlen, hl.g3 hlen, eq_true (show r < 148 ∧ K r = (0, 3) from ⟨hr.1, hr.2.1⟩), eq_true (show o < 148 ∧ K o = (0, 3) from ⟨ho.1, ho.2.1⟩), ↓xbs hr.2.2.1, ↓xbs ho.2.2.1, gV hr hk, gV ho hk, hA.2 k hk, j4, nI_1]
  · refine hc.push (by rw [xu2]) (fun i hi => ?_) (fun i hi => ?_) (fun i hi => ?_) ?_ ?_ ?_
    · rw [xu_rw (by omega), xu3 _ _ hi]
    · rw [xu_rw (by omega), xu3 _ _ hi]
    · rw [xu3 _ _ hi, xu_rw (by omega)]
    · rw [xu_rw (by omega), xu2]
    · rw [xu_rw (by omega), xu2]
    · rw [xu2]
theorem m_addL (hl : LstOk K F c m) {r o : Nat} (hr : RowsOk K F r) (ho : RowsOk K F o) (ra : r ≠ c + 2 ∧ r ≠ c + 3 ∧ r + 1 ≠ c + 2 ∧ r + 1 ≠ c + 3) (oa : o ≠ c + 2 ∧ o ≠ c + 3 ∧ o + 1 ≠ c + 2 ∧ o + 1 ≠ c + 3) {a w : Nat → Option Int64} {t : Nat} (ht : t < 12) {y : Int64} (hy : ∀ k, k < 64 → bt y k = decide (a k ≠ w k)) (hlen : l.length + 64 ≤ m) : ∀ (f k : Nat) (I : Nat → Nat → Int32) (J : Nat → Nat → Int64), k ≤ 64 → 64 - k < f → CLst I J c (l ++ stK t a w k) → RA J r a → RA J o w → ∃ I' J', m2_addSteps_L3 148 K F f I J c (nI t) r o y (nI k) = some (I', J') ∧ CLst I' J' c (l ++ stK t a w 64) ∧ (∀ x, x ≠ c → x ≠ c + 1 → I' x = I x) ∧ ∀ x, x ≠ c + 2 → x ≠ c + 3 → J' x = J x
  | 0, k, I, J, h1, h2, _, _, _ => absurd h2 (by omega)
  | f + 1, k, I, J, h1, h2, hc, hA, hB => by
    have hm := hl.2.2.2.2.2.2.2.2.2
    rw [m2_addSteps_L3]
    by_cases e : k = 64
    · subst e
      rw [if_pos (by decide)]
      exact ⟨I, J, rfl, hc, fun _ _ _ => rfl, fun _ _ _ => rfl⟩
    · have hk : k < 64 := by omega
      have kl := stK_len t a w k
      rw [if_neg (n64 hk)]
      simp only [↓xlet]
      rw [show nI k + (1 : Int32) = nI (k + 1) from nI_1 k]
      by_cases z : a k = w k
      · have : bt y k = false := by rw [hy k hk]; simpa using z
        rw [if_pos ((bt_test hk).mpr this)]
        exact m_addL hl hr ho ra oa ht hy hlen f (k + 1) I J (by omega) (by omega) (by rw [stK, stp_e z, List.append_nil]; exact hc) hA hB
      · have : ¬ bt y k = false := by rw [hy k hk]; simpa using z
        rw [if_neg (fun q => this ((bt_test hk).mp q))]
        have ll : (l ++ stK t a w k).length < m := by rw [List.length_append]; omega
        have sz : (nI m ≤ nI (l ++ stK t a w k).length) = False := eq_false (nI_ge ll hm)
        have k1 : (c + 1 < 148 ∧ (K (c + 1)).1 = 1) = True := eq_true ⟨by have := hl.2.2.2.2.2.1; omega, by rw [hl.2.2.2.2.2.2.1]⟩
        have k2 : (K (c + 1)).2 = m := by rw [hl.2.2.2.2.2.2.1]
        simp (disch := omega) only [↓reduceIte, hl.go, ↓xbs hl.2.2.1, k1, k2, hc.1, sz, eq_true (show r < 148 ∧ K r = (0, 3) from ⟨hr.1, hr.2.1⟩), eq_true (show o < 148 ∧ K o = (0, 3) from ⟨ho.1, ho.2.1⟩), ↓xbs (m_holds (I := I) hr hA hk), ↓xbs (m_holds (I := I) ho hB hk)]
        obtain ⟨I1, J1, g1, g2, g3, g4⟩ := m_addB61 hl hr ho ra.2.2.1 oa.2.2.1 ht hk hc hA hB ll y (m2_addSteps_L3 148 K F f)
        have go : ∃ I' J', m2_addSteps_L3 148 K F f I1 J1 c (nI t) r o y (nI (k + 1)) = some (I', J') ∧ CLst I' J' c (l ++ stK t a w 64) ∧ (∀ x, x ≠ c → x ≠ c + 1 → I' x = I x) ∧ ∀ x, x ≠ c + 2 → x ≠ c + 3 → J' x = J x := by
          obtain ⟨I2, J2, y1, y2, y3, y4⟩ := m_addL hl hr ho ra oa ht hy hlen f (k + 1) I1 J1 (by omega) (by omega) (by rw [stK, stp_n z, ← List.append_assoc]; exact g2) (RA_move hA (g4 _ ra.1 ra.2.1) (g4 _ ra.2.2.1 ra.2.2.2)) (RA_move hB (g4 _ oa.1 oa.2.1) (g4 _ oa.2.2.1 oa.2.2.2))
          exact ⟨I2, J2, y1, y2, fun x p1 p2 => by rw [y3 x p1 p2, g3 x p1 p2], fun x p1 p2 => by rw [y4 x p1 p2, g4 x p1 p2]⟩
        rw [← g1] at go
        cases ea : a k with
        | none =>
          rw [ea] at go
          exact go
        | some v =>
          cases ew : w k with
          | none =>
            rw [ea, ew] at go
            exact go
          | some v' =>
            rw [ea, ew] at go
            exact go
theorem m_addSteps (hl : LstOk K F c m) {r o : Nat} (hr : RowsOk K F r) (ho : RowsOk K F o) (ra : r ≠ c + 2 ∧ r ≠ c + 3 ∧ r + 1 ≠ c + 2 ∧ r + 1 ≠ c + 3) (oa : o ≠ c + 2 ∧ o ≠ c + 3 ∧ o + 1 ≠ c + 2 ∧ o + 1 ≠ c + 3) {a w : Nat → Option Int64} {t : Nat} (ht : t < 12) {y : Int64} (hy : ∀ k, k < 64 → bt y k = decide (a k ≠ w k)) (hlen : l.length + 64 ≤ m) (hc : CLst I J c l) (hA : RA J r a) (hB : RA J o w) : ∃ I' J', m2_addSteps 148 K F I J c (nI t) r o y = some (I', J') ∧ CLst I' J' c (l ++ stK t a w 64) ∧ (∀ x, x ≠ c → x ≠ c + 1 → I' x = I x) ∧ ∀ x, x ≠ c + 2 → x ≠ c + 3 → J' x = J x := by
  unfold m2_addSteps
  exact m_addL hl hr ho ra oa ht hy hlen xFu 0 I J (by omega) (by unfold xFu; omega) (by rw [stK, List.append_nil]; exact hc) hA hB
theorem m_addAll (hL : Lay K F) {lg td : List (Nat × Nat × Option Int64 × Option Int64)} (h7 : CLst I J 7 lg) (h11 : CLst I J 11 td) (hlen : lg.length + td.length ≤ 1500) (htd : td.length ≤ 768) : ∃ I' J', m2_addAll 148 K F I J 7 11 = some (I', J') ∧ CLst I' J' 7 (lg ++ td) ∧ (∀ x, x ≠ 7 → x ≠ 8 → I' x = I x) ∧ ∀ x, x ≠ 9 → x ≠ 10 → J' x = J x := by
  refine ⟨xu (va_up I 8 (va_cpy (I 12) (I 8) 0 lg.length td.length)) 7 0 (nI lg.length + nI td.length), va_up (va_up J 9 (va_cpy (J 13) (J 9) 0 lg.length td.length)) 10 (va_cpy (J 14) (J 10) 0 lg.length td.length), ?_, ⟨?_, fun i t k o w e => ?_⟩, fun x h0 h1 => by rw [xu_rw h0, va_up_ne _ _ h1], fun x h0 h1 => by rw [va_up_ne _ _ h1, va_up_ne _ _ h0]⟩
  · have i8 : ∀ v, va_up I 8 v 7 0 = nI lg.length := fun v => by rw [va_up_ne _ _ (by decide)]; exact h7.1
    have mn : (if nI (K 8).2 - nI lg.length < nI td.length then nI (K 8).2 - nI lg.length else nI td.length) = nI td.length := by
      rw [lK8 hL]
      show (if nI 1500 - nI lg.length < nI td.length then nI 1500 - nI lg.length else nI td.length) = nI td.length
      rw [nI_sub' (by omega), if_neg (nI_nlt (by omega) (by omega))]
    have k8 : (8 < 148 ∧ (K 8).1 = 1) = True := eq_true ⟨by decide, by rw [lK8 hL]⟩
    have gg : ∀ a b u v ka kb : Nat, a < 148 → b < 148 → K a = (ka, u) → K b = (kb, v) → td.length ≤ u → lg.length + td.length ≤ v → (a < 148 ∧ (K a).1 = ka ∧ b < 148 ∧ (K b).1 = kb ∧ ¬ (0 : Int32) < 0 ∧ ¬ nI lg.length < 0 ∧ ¬ nI td.length < 0 ∧ (0 : Int32).toNatClampNeg + (nI td.length).toNatClampNeg ≤ (K a).2 ∧ (nI lg.length).toNatClampNeg + (nI td.length).toNatClampNeg ≤ (K b).2) = True := fun a b u v ka kb p1 p2 p3 p4 p5 p6 => eq_true ⟨p1, by rw [p3], p2, by rw [p4], by decide, nI_pos (by omega), nI_pos (by omega), by rw [p3, cl_nI (by omega)]; show 0 + _ ≤ _; omega, by rw [p4, cl_nI (by omega), cl_nI (by omega)]; exact p6⟩
    unfold m2_addAll
    have G1 := gg 12 8 768 1500 1 1 (by decide) (by decide) (lK12 hL) (lK8 hL) htd hlen
    have G2 := gg 13 9 768 1500 2 2 (by decide) (by decide) (lK13 hL) (lK9 hL) htd hlen
    have G3 := gg 14 10 768 1500 2 2 (by decide) (by decide) (lK14 hL) (lK10 hL) htd hlen
    have z0 : (0 : Int32).toNatClampNeg = 0 := by decide
    simp only [↓xlet, ↓reduceIte, kg7 hL, kg11 hL, ↓xbs (lF7_1 hL), ↓xbs (lF7_2 hL), ↓xbs (lF7_3 hL), ↓xbs (lF11_1 hL), ↓xbs (lF11_2 hL), ↓xbs (lF11_3 hL), k8, h7.1, h11.1, mn, G1, G2, G3, i8]
    simp (disch := omega) only [cl_nI, z0]
    rw [va_up_ne _ _ (by decide), va_up_ne _ _ (by decide)]
  · rw [xu2, nI_add, List.length_append]
  · show xu _ 7 0 _ 8 i = _ ∧ (va_up _ 10 _ : Nat → Nat → Int64) 9 i = _ ∧ (va_up _ 10 _ : Nat → Nat → Int64) 10 i = _
    rw [xu_rw (by decide), va_up_self, va_up_ne _ _ (by decide), va_up_self, va_up_self]
    have hi := get_lt e
    rw [List.length_append] at hi
    rcases Nat.lt_or_ge i lg.length with z | z
    · rw [List.getElem?_append_left z] at e
      rw [pk_cpy_out (by omega), pk_cpy_out (by omega), pk_cpy_out (by omega)]
      exact h7.2 i t k o w e
    · rw [List.getElem?_append_right z] at e
      rw [pk_cpy_in z hi, pk_cpy_in z hi, pk_cpy_in z hi, Nat.zero_add]
      exact h11.2 _ t k o w e
end
