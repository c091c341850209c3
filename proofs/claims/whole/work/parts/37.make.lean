def fset {α : Type} (f : Nat → α) (n : Nat) (v : α) : Nat → α := fun t => if t = n then v else f t
theorem fs_n {α : Type} (f : Nat → α) (n : Nat) (v : α) : fset f n v n = v := if_pos rfl
theorem fs_o {α : Type} {f : Nat → α} {n : Nat} {v : α} {t : Nat} (h : t ≠ n) : fset f n v t = f t := if_neg h
theorem dTab_0 (p1 p2 : Int64) (ρ ρ' : Nat → Option Int64) : dTab 0 p1 p2 ρ ρ' = fun _ => none := rfl
theorem dTab_tw {s : Nat} (h : tw s = false) (p1 p2 : Int64) (ρ σ σ' : Nat → Option Int64) : dTab s p1 p2 ρ σ = dTab s p1 p2 ρ σ' := by
  unfold dTab
  by_cases h1 : s = 1
  · rw [if_pos h1, if_pos h1]
  · rw [if_neg h1, if_neg h1]
    by_cases h2 : s = 2
    · rw [if_pos h2, if_pos h2]
    · rw [if_neg h2, if_neg h2]
      by_cases h3 : s = 3
      · rw [if_pos h3, if_pos h3]
      · rw [if_neg h3, if_neg h3]
        by_cases h4 : s = 4
        · subst h4; cases h
        · rw [if_neg h4, if_neg h4]
          by_cases h5 : s = 5
          · subst h5; cases h
          · rw [if_neg h5, if_neg h5]
            by_cases h6 : s = 6
            · rw [if_pos h6, if_pos h6]
            · rw [if_neg h6, if_neg h6]
              by_cases h7 : s = 7
              · subst h7; cases h
              · rw [if_neg h7, if_neg h7]
theorem tw_0 : tw 0 = false := rfl
section
variable {K : Nat → Nat × Nat} {F : Nat → Nat → Option Nat} {I I' : Nat → Nat → Int32} {J J' : Nat → Nat → Int64} {n : Nat} {so o1 o2 : Nat → Nat} {p q : Nat → Int64} {ρ β : Nat → Nat → Option Int64} {bo bo' : Bool} {b b' : List (Nat × Nat × Option Int64)} {lg td nt l : List (Nat × Nat × Option Int64 × Option Int64)} {κ : Nat → Option Int64}
theorem c_nextT (hL : Lay K F) (hn : n ≤ 12) (h : I 0 1 = nI n) {t : Nat} (ht : t < n) : m0_nextOf 148 K F I J 0 (nI t) = some (27 + 8 * t + 3) := by
  have hw : win (nI t) 0 (nI n - 1) = true := (win_n (by omega)).mpr ⟨t, ht, rfl⟩
  have h12 : t < 12 := by omega
  unfold m0_nextOf
  simp (disch := omega) only [↓xlet, xb_some, ↓reduceIte, cl_nI, nI_64, nI_add, nI_1, kg3 hL, kg4 hL, kg5 hL, kg6 hL, kg8 hL, kg9 hL, kg10 hL, kg12 hL, kg13 hL, kg14 hL, kg16 hL, kg17 hL, kg18 hL, kg0 hL, kg2 hL, kg7 hL, kg11 hL, kg15 hL, kg19 hL, kg21 hL, kg23 hL, kg25 hL, ↓xbs (lF0_0 hL), ↓xbs (lF0_2 hL), ↓xbs (lF0_3 hL), ↓xbs (lF0_4 hL), ↓xbs (lF0_5 hL), ↓xbs (lF0_6 hL), ↓xbs (lF0_7 hL), ↓xbs (lF0_8 hL), ↓xbs (lF0_9 hL), ↓xbs (lF2_2 hL), ↓xbs (lF2_3 hL), ↓xbs (lF2_4 hL), ↓xbs (lF2_5 hL), ↓xbs (lF7_1 hL), ↓xbs (lF7_2 hL), ↓xbs (lF7_3 hL), ↓xbs (lF11_1 hL), ↓xbs (lF11_2 hL), ↓xbs (lF11_3 hL), ↓xbs (lF15_1 hL), ↓xbs (lF15_2 hL), ↓xbs (lF15_3 hL), kg1 hL, lF1 hL, ↓xF1c hL, kgT hL, kgR1 hL, kgR3 hL, kgR5 hL, ↓xT5 hL, ↓xT6 hL, ↓xT7 hL, lT5 hL, lT6 hL, lT7 hL, ↓xisT hL h, hw, bi_z, Bool.true_eq_false]
theorem win_neg {n : Nat} (hn : n ≤ 12) : win (-1) 0 (nI n - 1) = false := by
  rw [← Bool.not_eq_true]
  intro z
  obtain ⟨k, hk, e⟩ := (win_n (by omega)).mp z
  exact nI_m1 (t := k) (by omega) e.symm
theorem c_nextN (hL : Lay K F) (hn : n ≤ 12) (h : I 0 1 = nI n) : m0_nextOf 148 K F I J 0 (-1) = some 25 := by
  unfold m0_nextOf
  simp (disch := omega) only [↓xlet, xb_some, ↓reduceIte, cl_nI, nI_64, nI_add, nI_1, kg3 hL, kg4 hL, kg5 hL, kg6 hL, kg8 hL, kg9 hL, kg10 hL, kg12 hL, kg13 hL, kg14 hL, kg16 hL, kg17 hL, kg18 hL, kg0 hL, kg2 hL, kg7 hL, kg11 hL, kg15 hL, kg19 hL, kg21 hL, kg23 hL, kg25 hL, ↓xbs (lF0_0 hL), ↓xbs (lF0_2 hL), ↓xbs (lF0_3 hL), ↓xbs (lF0_4 hL), ↓xbs (lF0_5 hL), ↓xbs (lF0_6 hL), ↓xbs (lF0_7 hL), ↓xbs (lF0_8 hL), ↓xbs (lF0_9 hL), ↓xbs (lF2_2 hL), ↓xbs (lF2_3 hL), ↓xbs (lF2_4 hL), ↓xbs (lF2_5 hL), ↓xbs (lF7_1 hL), ↓xbs (lF7_2 hL), ↓xbs (lF7_3 hL), ↓xbs (lF11_1 hL), ↓xbs (lF11_2 hL), ↓xbs (lF11_3 hL), ↓xbs (lF15_1 hL), ↓xbs (lF15_2 hL), ↓xbs (lF15_3 hL), kg1 hL, lF1 hL, ↓xF1c hL, kgT hL, kgR1 hL, kgR3 hL, kgR5 hL, ↓xT5 hL, ↓xT6 hL, ↓xT7 hL, lT5 hL, lT6 hL, lT7 hL, ↓xisT hL h, win_neg hn, bi_z]
theorem c_nx {s a : Nat} (hL : Lay K F) (hn : n ≤ 12) (h : I 0 1 = nI n) (ha : s ≠ 0 → a < n) : m0_nextOf 148 K F I J 0 (if s = 0 then -1 else nI a) = some (if s = 0 then 25 else 27 + 8 * a + 3) := by
  by_cases z : s = 0
  · rw [if_pos z, if_pos z]; exact c_nextN hL hn h
  · rw [if_neg z, if_neg z]; exact c_nextT hL hn h (ha z)
theorem c_nxw {s a : Nat} (hL : Lay K F) (hn : n ≤ 12) (h : I 0 1 = nI n) (ha : tw s = true → a < n) : m0_nextOf 148 K F I J 0 (if tw s = true then nI a else -1) = some (if tw s = true then 27 + 8 * a + 3 else 25) := by
  by_cases z : tw s = true
  · rw [if_pos z, if_pos z]; exact c_nextT hL hn h (ha z)
  · rw [if_neg z, if_neg z]; exact c_nextN hL hn h
/-- a table's derive, with the next rows of its tables -/
theorem c_der (hL : Lay K F) {t s a b : Nat} {p1 p2 : Int64} {σ : Nat → Nat → Option Int64} (ht : t < 12) (hp : pOk s p1 p2) (ha : s ≠ 0 → a < t) (hb : tw s = true → b < t) (i0 : I (27 + 8 * t) 0 = nI s) (j3 : J (27 + 8 * t) 3 = p1) (j4 : J (27 + 8 * t) 4 = p2) (hA : s ≠ 0 → RA J (27 + 8 * a + 3) (σ a)) (hB : tw s = true → RA J (27 + 8 * b + 3) (σ b)) (h0 : RA J 25 (fun _ => none)) : ∃ I' J', m4_derive 148 K F I J (27 + 8 * t) (if s = 0 then 25 else 27 + 8 * a + 3) (if tw s = true then 27 + 8 * b + 3 else 25) = some (I', J') ∧ (∀ c, c ≠ 27 + 8 * t + 7 → I' c = I c) ∧ FrT J J' (27 + 8 * t) ∧ RA J' (27 + 8 * t + 3) (dTab s p1 p2 (σ a) (σ b)) := by
  have hT := lT hL ht
  have ap0 : Apart 25 (27 + 8 * t) := ⟨by omega, by omega, by omega, by omega⟩
  by_cases z : s = 0
  · subst z
    have := m_derive hT (lR25 hL) (lR25 hL) ap0 ap0 h0 h0 i0 (by rw [j3, j4]; exact hp)
    rw [if_pos rfl, if_neg (by simp [tw])]
    exact this
  · have z1 := ha z
    have apa : Apart (27 + 8 * a + 3) (27 + 8 * t) := ⟨by omega, by omega, by omega, by omega⟩
    rw [if_neg z]
    by_cases w : tw s = true
    · have z2 := hb w
      have apb : Apart (27 + 8 * b + 3) (27 + 8 * t) := ⟨by omega, by omega, by omega, by omega⟩
      rw [if_pos w]
      have := m_derive hT (lRT3 hL (by omega)) (lRT3 hL (by omega)) apa apb (hA z) (hB w) i0 (by rw [j3, j4]; exact hp)
      rw [j3, j4] at this
      exact this
    · rw [if_neg w]
      have := m_derive hT (lRT3 hL (by omega)) (lR25 hL) apa ap0 (hA z) h0 i0 (by rw [j3, j4]; exact hp)
      rw [j3, j4, dTab_tw (by simpa using w) p1 p2 (σ a) (fun _ => none) (σ b)] at this
      exact this
theorem c_make (hL : Lay K F) (hn : n < 12) (hC : CS I J n so o1 o2 p q ρ β false b lg td nt κ) {s a c : Nat} {p1 p2 : Int64} (hp : pOk s p1 p2) (ha : s ≠ 0 → a < n) (hc : tw s = true → c < n) : ∃ I' J', m0_make 148 K F I J 0 (nI s) (if s = 0 then -1 else nI a) (if tw s = true then nI c else -1) p1 p2 = some (nI n, I', J') ∧ HiF I I' J J' ∧ CS I' J' (n + 1) (fset so n s) (fset o1 n a) (fset o2 n c) (fset p n p1) (fset q n p2) (fset ρ n (dTab s p1 p2 (ρ a) (ρ c))) (fset β n (dTab s p1 p2 (ρ a) (ρ c))) false b lg td nt κ := by
  obtain ⟨h1, h2, h3, h4, h5, h6, h7, h8, h9, h10⟩ := id hC
  have hT := lT hL hn
  obtain ⟨A, hAd⟩ : ∃ A : Int32, A = (if s = 0 then -1 else nI a) := ⟨_, rfl⟩
  obtain ⟨B, hBd⟩ : ∃ B : Int32, B = (if tw s = true then nI c else -1) := ⟨_, rfl⟩
  rw [← hAd, ← hBd]
  obtain ⟨I1, hI1⟩ : ∃ I1, I1 = xu (xu (xu I (27 + 8 * n) 0 (nI s)) (27 + 8 * n) 1 A) (27 + 8 * n) 2 B := ⟨_, rfl⟩
  obtain ⟨J1, hJ1⟩ : ∃ J1, J1 = xu (xu J (27 + 8 * n) 3 p1) (27 + 8 * n) 4 p2 := ⟨_, rfl⟩
  have fi : ∀ x, x ≠ 27 + 8 * n → I1 x = I x := fun x hx => by rw [hI1, xu_rw hx, xu_rw hx, xu_rw hx]
  have fj : ∀ x, x ≠ 27 + 8 * n → J1 x = J x := fun x hx => by rw [hJ1, xu_rw hx, xu_rw hx]
  have u0 : I1 (27 + 8 * n) 0 = nI s := by rw [hI1, xu3 _ _ (by decide), xu3 _ _ (by decide), xu2]
  have u1 : I1 (27 + 8 * n) 1 = A := by rw [hI1, xu3 _ _ (by decide), xu2]
  have u2 : I1 (27 + 8 * n) 2 = B := by rw [hI1, xu2]
  have w3 : J1 (27 + 8 * n) 3 = p1 := by rw [hJ1, xu3 _ _ (by decide), xu2]
  have w4 : J1 (27 + 8 * n) 4 = p2 := by rw [hJ1, xu2]
  have mA : ∀ x, x < n → RA J1 (27 + 8 * x + 3) (ρ x) := fun x hx => RA_move (h3 x hx) (fj _ (by omega)) (fj _ (by omega))
  have m25 : RA J1 25 (fun _ => none) := RA_move h10 (fj _ (by omega)) (fj _ (by omega))
  have v1 : I1 0 1 = nI n := by rw [fi 0 (by omega)]; exact h1.1
  obtain ⟨I2, J2, d1, d2, d3, d4⟩ := c_der (σ := ρ) hL hn hp ha hc u0 w3 w4 (fun z => mA a (ha z)) (fun z => mA c (hc z)) m25
  obtain ⟨J3, e1, e2, e3⟩ := m_become (I := I2) (lRT1 hL hn) (lRT3 hL hn) (by omega) d4
  have d4' : RA J3 (27 + 8 * n + 3) (dTab s p1 p2 (ρ a) (ρ c)) := RA_move d4 (e3 _ (by omega) (by omega)) (e3 _ (by omega) (by omega))
  obtain ⟨J4, y1, y2, y3⟩ := m_become (I := I2) (lRT5 hL hn) (lRT3 hL hn) (by omega) d4'
  have n1 := c_nx (J := J1) (s := s) (a := a) hL (show n ≤ 12 by omega) v1 ha
  have n2 := c_nxw (J := J1) (s := s) (a := c) hL (show n ≤ 12 by omega) v1 hc
  rw [← hAd] at n1
  rw [← hBd] at n2
  have v2 : I2 0 1 = nI n := by rw [d2 0 (by omega)]; exact v1
  have FJ : ∀ x, (x < 27 + 8 * n ∨ 27 + 8 * n + 6 < x) → J4 x = J x := fun x hx => by rw [y3 x (by omega) (by omega), e3 x (by omega) (by omega), d3 x (by omega) (by omega), fj x (by omega)]
  have FI : ∀ x, x ≠ 0 → (x < 27 + 8 * n ∨ 27 + 8 * n + 7 < x) → xu I2 0 1 (nI n + 1) x = I x := fun x h0 hx => by rw [xu_rw h0, d2 x (by omega), fi x (by omega)]
  have JT : ∀ j, J4 (27 + 8 * n) j = J1 (27 + 8 * n) j := fun j => by rw [y3 _ (by omega) (by omega), e3 _ (by omega) (by omega), d3 _ (by omega) (by omega)]
  have IT : ∀ j, xu I2 0 1 (nI n + 1) (27 + 8 * n) j = I1 (27 + 8 * n) j := fun j => by rw [xu_rw (by omega), d2 _ (by omega)]
  refine ⟨xu I2 0 1 (nI n + 1), J4, ?_, fun x hx => ⟨FI x (by omega) (by omega), FJ x (by omega)⟩, ⟨by rw [xu2]; exact nI_1 n, fun t ht => ?_⟩, fun t ht => ?_, fun t ht => ?_, fun t ht => ?_, ?_, ?_, ?_, ?_, ?_, ?_⟩
  · unfold m0_make m4_define
    rw [hI1] at d1 n1 n2
    rw [hJ1] at d1 n1 n2
    have l12 : (nI n < (12 : Int32)) = True := eq_true (nI_lt (b := 12) hn (by decide))
    simp (disch := omega) only [↓xlet, xb_some, ↓reduceIte, cl_nI, nI_64, nI_add, nI_1, kg3 hL, kg4 hL, kg5 hL, kg6 hL, kg8 hL, kg9 hL, kg10 hL, kg12 hL, kg13 hL, kg14 hL, kg16 hL, kg17 hL, kg18 hL, kg0 hL, kg2 hL, kg7 hL, kg11 hL, kg15 hL, kg19 hL, kg21 hL, kg23 hL, kg25 hL, ↓xbs (lF0_0 hL), ↓xbs (lF0_2 hL), ↓xbs (lF0_3 hL), ↓xbs (lF0_4 hL), ↓xbs (lF0_5 hL), ↓xbs (lF0_6 hL), ↓xbs (lF0_7 hL), ↓xbs (lF0_8 hL), ↓xbs (lF0_9 hL), ↓xbs (lF2_2 hL), ↓xbs (lF2_3 hL), ↓xbs (lF2_4 hL), ↓xbs (lF2_5 hL), ↓xbs (lF7_1 hL), ↓xbs (lF7_2 hL), ↓xbs (lF7_3 hL), ↓xbs (lF11_1 hL), ↓xbs (lF11_2 hL), ↓xbs (lF11_3 hL), ↓xbs (lF15_1 hL), ↓xbs (lF15_2 hL), ↓xbs (lF15_3 hL), kg1 hL, lF1 hL, ↓xF1c hL, kgT hL, kgR1 hL, kgR3 hL, kgR5 hL, ↓xT5 hL, ↓xT6 hL, ↓xT7 hL, lT5 hL, lT6 hL, lT7 hL, h5.1, bi_f, h1.1, l12, ↓xbs n1, ↓xbs n2, ↓xbs d1, ↓xbs e1, ↓xbs y1, v2]
    rw [xu2]
    show some (nI (n + 1) - 1, _, _) = _
    rw [nI_pred]
  · by_cases e : t = n
    · subst e
      rw [IT, IT, IT, JT, JT, u0, u1, u2, w3, w4, fs_n, fs_n, fs_n, fs_n, fs_n]
      exact ⟨rfl, hAd, hBd, rfl, rfl⟩
    · rw [FI _ (by omega) (by omega), FJ _ (by omega), fs_o e, fs_o e, fs_o e, fs_o e, fs_o e]
      exact h1.2 t (by omega)
  · by_cases e : t = n
    · subst e
      rw [fs_n]
      exact RA_move e2 (y3 _ (by omega) (by omega)) (y3 _ (by omega) (by omega))
    · rw [fs_o e]
      exact RA_move (h2 t (by omega)) (FJ _ (by omega)) (FJ _ (by omega))
  · by_cases e : t = n
    · subst e
      rw [fs_n]
      exact RA_move d4' (y3 _ (by omega) (by omega)) (y3 _ (by omega) (by omega))
    · rw [fs_o e]
      exact RA_move (h3 t (by omega)) (FJ _ (by omega)) (FJ _ (by omega))
  · by_cases e : t = n
    · subst e
      rw [fs_n]
      exact y2
    · rw [fs_o e]
      exact RA_move (h4 t (by omega)) (FJ _ (by omega)) (FJ _ (by omega))
  · exact h5.fr (FI _ (by omega) (by omega)) (FI _ (by omega) (by omega)) (FI _ (by omega) (by omega)) (FI _ (by omega) (by omega)) (FJ _ (by omega))
  · exact h6.fr (FI _ (by omega) (by omega)) (FI _ (by omega) (by omega)) (FJ _ (by omega)) (FJ _ (by omega))
  · exact h7.fr (FI _ (by omega) (by omega)) (FI _ (by omega) (by omega)) (FJ _ (by omega)) (FJ _ (by omega))
  · exact h8.fr (FI _ (by omega) (by omega)) (FI _ (by omega) (by omega)) (FJ _ (by omega)) (FJ _ (by omega))
  · exact RA_move h9 (FJ _ (by omega)) (FJ _ (by omega))
  · exact RA_move h10 (FJ _ (by omega)) (FJ _ (by omega))
end
