section
variable {K : Nat → Nat × Nat} {F : Nat → Nat → Option Nat} {I I' : Nat → Nat → Int32} {J J' : Nat → Nat → Int64} {n : Nat} {so o1 o2 : Nat → Nat} {p q : Nat → Int64} {ρ σ S β : Nat → Nat → Option Int64} {lg td nt l : List (Nat × Nat × Option Int64 × Option Int64)} {bo : Bool} {b : List (Nat × Nat × Option Int64)} {κ : Nat → Option Int64}
theorem nI_neg {t : Nat} {c : Int32} (h : t < 2 ^ 31) (hc : c.toInt < 0) : ¬ nI t = c := fun e => by
  have := congrArg Int32.toInt e
  rw [nI_toInt h] at this
  omega
theorem wrt {r k : Nat} {ρ' : Nat → Option Int64} (hr : RowsOk K F r) (hA : RA J r ρ') (hk : k < 64) (v : Option Int64) : ∃ J', m3_write 148 K F I J r (nI k) (bi v.isSome) (v.getD 0) = some J' ∧ RA J' r (rset ρ' k v) ∧ FrR J J' r := by
  obtain ⟨J', e1, e2, e3⟩ := m_write (I := I) hr hA hk v.isSome (v.getD 0)
  refine ⟨J', e1, ?_, e3⟩
  cases v with
  | none => exact e2
  | some w => exact e2
theorem c_isSource (hL : Lay K F) (hn : n ≤ 12) (h : CDef I J n so o1 o2 p q) {t : Nat} (ht : t < n) (s7 : so t ≤ 7) : m0_isSource 148 K F I J 0 (nI t) = some (bi (decide (so t = 0))) := by
  have hw : win (nI t) 0 (nI n - 1) = true := (win_n (by omega)).mpr ⟨t, ht, rfl⟩
  have h12 : t < 12 := by omega
  have n0 : (nI (so t) = 0) = (so t = 0) := nI_lite (x := 0) (by omega) (by decide)
  unfold m0_isSource
  simp (disch := omega) only [↓xlet, xb_some, ↓reduceIte, cl_nI, nI_64, nI_add, nI_1, kg3 hL, kg4 hL, kg5 hL, kg6 hL, kg8 hL, kg9 hL, kg10 hL, kg12 hL, kg13 hL, kg14 hL, kg16 hL, kg17 hL, kg18 hL, kg0 hL, kg2 hL, kg7 hL, kg11 hL, kg15 hL, kg19 hL, kg21 hL, kg23 hL, kg25 hL, ↓xbs (lF0_0 hL), ↓xbs (lF0_2 hL), ↓xbs (lF0_3 hL), ↓xbs (lF0_4 hL), ↓xbs (lF0_5 hL), ↓xbs (lF0_6 hL), ↓xbs (lF0_7 hL), ↓xbs (lF0_8 hL), ↓xbs (lF0_9 hL), ↓xbs (lF2_2 hL), ↓xbs (lF2_3 hL), ↓xbs (lF2_4 hL), ↓xbs (lF2_5 hL), ↓xbs (lF7_1 hL), ↓xbs (lF7_2 hL), ↓xbs (lF7_3 hL), ↓xbs (lF11_1 hL), ↓xbs (lF11_2 hL), ↓xbs (lF11_3 hL), ↓xbs (lF15_1 hL), ↓xbs (lF15_2 hL), ↓xbs (lF15_3 hL), kg1 hL, lF1 hL, ↓xF1c hL, kgT hL, kgR1 hL, kgR3 hL, kgR5 hL, ↓xT5 hL, ↓xT6 hL, ↓xT7 hL, lT5 hL, lT6 hL, lT7 hL, ↓xisT hL h.1, hw, bi_z, Bool.true_eq_false, (h.2 t ht).1, n0]
  by_cases z : so t = 0
  · rw [if_neg (x_nn z), decide_eq_true z]; rfl
  · rw [if_pos z, decide_eq_false z]; rfl
theorem r_isSource (hL : Lay K F) (hn : n ≤ 12) (h : RDef I J n so o1 o2 p q) {t : Nat} (ht : t < n) (s7 : so t ≤ 7) (a2 : Int32) : m5_isSource 148 K F I J 123 (nI t) a2 = some (bi (decide (so t = 0) && win a2 0 63)) := by
  have hw : win (nI t) 0 (nI n - 1) = true := (win_n (by omega)).mpr ⟨t, ht, rfl⟩
  have h12 : t < 12 := by omega
  have n0 : (nI (so t) = 0) = (so t = 0) := nI_lite (x := 0) (by omega) (by decide)
  have ek : m5_isIn 148 K F I J (Int32.toInt64 a2) 0 63 = some (bi (win a2 0 63)) := m_in (by decide) (by decide)
  unfold m5_isSource
  simp (disch := omega) only [↓xlet, xb_some, ↓reduceIte, cl_nI, nI_64, nI_add, nI_1, kg124 hL, kg125 hL, kg126 hL, kg127 hL, kg128 hL, kg129 hL, kg130 hL, kg131 hL, kg132 hL, kg133 hL, kg134 hL, kg135 hL, kg136 hL, kg137 hL, kg138 hL, kg139 hL, kg140 hL, kg141 hL, kg142 hL, kg143 hL, kg144 hL, kg145 hL, kg146 hL, kg147 hL, kg123 hL, ↓xbs (lF123_1 hL), ↓xbs (lF123_2 hL), ↓xbs (lF123_3 hL), ↓xbs (lF123_4 hL), ↓xbs (lF123_5 hL), ↓xbs (lF123_6 hL), ↓xbs (lF123_7 hL), ↓xbs (lF123_8 hL), ↓xbs (lF123_9 hL), ↓xbs (lF123_10 hL), ↓xbs (lF123_11 hL), ↓xbs (lF123_12 hL), ↓xbs (lF123_13 hL), ↓xbs (lF123_14 hL), ↓xbs (lF123_15 hL), ↓xbs (lF123_16 hL), ↓xbs (lF123_22 hL), ↓xbs (lF123_23 hL), ↓xbs (lF123_24 hL), ↓xbs (lF123_25 hL), ↓xbs (lF123_26 hL), ↓xbs (lF123_27 hL), ↓xbs (lF123_28 hL), ↓xbs (lF123_29 hL), ↓xrT hL h.1, hw, bi_z, Bool.true_eq_false, (h.2 t ht).1, n0, ↓xbs ek]
  by_cases z : so t = 0
  · rw [if_neg (x_nn z), decide_eq_true z, Bool.true_and, ite_bz]
  · rw [if_pos z, decide_eq_false z]; rfl
theorem r_isSourceN (hL : Lay K F) (h : I 123 0 = nI n) {a1 a2 : Int32} (hw : win a1 0 (nI n - 1) = false) : m5_isSource 148 K F I J 123 a1 a2 = some 0 := by
  unfold m5_isSource
  simp (disch := omega) only [↓xlet, xb_some, ↓reduceIte, cl_nI, nI_64, nI_add, nI_1, kg124 hL, kg125 hL, kg126 hL, kg127 hL, kg128 hL, kg129 hL, kg130 hL, kg131 hL, kg132 hL, kg133 hL, kg134 hL, kg135 hL, kg136 hL, kg137 hL, kg138 hL, kg139 hL, kg140 hL, kg141 hL, kg142 hL, kg143 hL, kg144 hL, kg145 hL, kg146 hL, kg147 hL, kg123 hL, ↓xbs (lF123_1 hL), ↓xbs (lF123_2 hL), ↓xbs (lF123_3 hL), ↓xbs (lF123_4 hL), ↓xbs (lF123_5 hL), ↓xbs (lF123_6 hL), ↓xbs (lF123_7 hL), ↓xbs (lF123_8 hL), ↓xbs (lF123_9 hL), ↓xbs (lF123_10 hL), ↓xbs (lF123_11 hL), ↓xbs (lF123_12 hL), ↓xbs (lF123_13 hL), ↓xbs (lF123_14 hL), ↓xbs (lF123_15 hL), ↓xbs (lF123_16 hL), ↓xbs (lF123_22 hL), ↓xbs (lF123_23 hL), ↓xbs (lF123_24 hL), ↓xbs (lF123_25 hL), ↓xbs (lF123_26 hL), ↓xbs (lF123_27 hL), ↓xbs (lF123_28 hL), ↓xbs (lF123_29 hL), ↓xrT hL h, hw, bi_z]
theorem c_isSourceN (hL : Lay K F) (h : I 0 1 = nI n) {a1 : Int32} (hw : win a1 0 (nI n - 1) = false) : m0_isSource 148 K F I J 0 a1 = some 0 := by
  unfold m0_isSource
  simp (disch := omega) only [↓xlet, xb_some, ↓reduceIte, cl_nI, nI_64, nI_add, nI_1, kg3 hL, kg4 hL, kg5 hL, kg6 hL, kg8 hL, kg9 hL, kg10 hL, kg12 hL, kg13 hL, kg14 hL, kg16 hL, kg17 hL, kg18 hL, kg0 hL, kg2 hL, kg7 hL, kg11 hL, kg15 hL, kg19 hL, kg21 hL, kg23 hL, kg25 hL, ↓xbs (lF0_0 hL), ↓xbs (lF0_2 hL), ↓xbs (lF0_3 hL), ↓xbs (lF0_4 hL), ↓xbs (lF0_5 hL), ↓xbs (lF0_6 hL), ↓xbs (lF0_7 hL), ↓xbs (lF0_8 hL), ↓xbs (lF0_9 hL), ↓xbs (lF2_2 hL), ↓xbs (lF2_3 hL), ↓xbs (lF2_4 hL), ↓xbs (lF2_5 hL), ↓xbs (lF7_1 hL), ↓xbs (lF7_2 hL), ↓xbs (lF7_3 hL), ↓xbs (lF11_1 hL), ↓xbs (lF11_2 hL), ↓xbs (lF11_3 hL), ↓xbs (lF15_1 hL), ↓xbs (lF15_2 hL), ↓xbs (lF15_3 hL), kg1 hL, lF1 hL, ↓xF1c hL, kgT hL, kgR1 hL, kgR3 hL, kgR5 hL, ↓xT5 hL, ↓xT6 hL, ↓xT7 hL, lT5 hL, lT6 hL, lT7 hL, ↓xisT hL h, hw, bi_z]
/-- what holds behind a settled change -/
theorem WS.next (hW : WS n so o1 o2 p q ρ b lg td nt) (hG : Sg n so o1 o2 p q σ S) (hlen : lg.length + (stT ρ S n).length ≤ 1500) {b' : List (Nat × Nat × Option Int64)} (hb : BOk n so b') : WS n so o1 o2 p q S b' (lg ++ stT ρ S n) (stT ρ S n) nt := by
  obtain ⟨w1, w2, w3, w4, w5, w6⟩ := hW
  have nl := stT_len ρ S n
  have ok := stT_ok (ρ := ρ) (σ := S) n w1.1
  have := w1.1
  exact ⟨w1, fun t ht z k hk => by rw [← (hG t ht).2 z], hb, w4.app ok.2 hlen, ⟨by omega, ok.2⟩, w6⟩
theorem c_gather (hL : Lay K F) (hn : n ≤ 12) (hC : CS I J n so o1 o2 p q ρ β true b lg td nt κ) {t k : Nat} (v : Option Int64) (hlt : b.length < 40) : ∃ I' J', m1_gather 148 K F I J 2 (nI t) (nI k) (bi v.isSome) (v.getD 0) = some (nI (b.length + 1), I', J') ∧ HiF I I' J J' ∧ CS I' J' n so o1 o2 p q ρ β true (b ++ [(t, k, v)]) lg td nt κ := by
  obtain ⟨c0, c1⟩ := hC.2.2.2.2.1
  obtain ⟨c1, c2⟩ := c1 rfl
  obtain ⟨I1, hI1⟩ : ∃ I1, I1 = xu (xu (xu (xu I 3 b.length (nI t)) 4 b.length (nI k)) 5 b.length (bi v.isSome)) 2 1 (nI (b.length + 1)) := ⟨_, rfl⟩
  refine ⟨I1, xu J 6 b.length (v.getD 0), ?_, fun a ha => ⟨by rw [hI1, xu_rw (by omega), xu_rw (by omega), xu_rw (by omega), xu_rw (by omega)], xu_rw (by omega)⟩, hC.bat hn (fun a ha => by rw [hI1, xu_rw (by omega), xu_rw (by omega), xu_rw (by omega), xu_rw (by omega)]) (fun a ha => xu_rw ha) ⟨by rw [hI1, xu3 _ _ (by decide), xu_rw (by decide), xu_rw (by decide), xu_rw (by decide)]; exact c0, fun _ => ⟨by rw [hI1, xu2, List.length_append]; rfl, fun i t' k' v' e => ?_⟩⟩⟩
  · have l40 : (nI b.length < (40 : Int32)) = True := eq_true (nI_lt (b := 40) hlt (by decide))
    have i1 : ∀ x, xu I 3 b.length x 2 1 = nI b.length := fun x => by rw [xu_rw (by decide)]; exact c1
    have i2 : ∀ x y, xu (xu I 3 b.length x) 4 b.length y 2 1 = nI b.length := fun x y => by rw [xu_rw (by decide)]; exact i1 x
    have i3 : ∀ x y z, xu (xu (xu I 3 b.length x) 4 b.length y) 5 b.length z 2 1 = nI b.length := fun x y z => by rw [xu_rw (by decide)]; exact i2 x y
    have b1 : (bi v.isSome = 0 ∨ bi v.isSome = 1) = True := eq_true (bi_01 _)
    unfold m1_gather
    simp (disch := omega) only [↓xlet, xb_some, ↓reduceIte, cl_nI, nI_64, nI_add, nI_1, kg3 hL, kg4 hL, kg5 hL, kg6 hL, kg8 hL, kg9 hL, kg10 hL, kg12 hL, kg13 hL, kg14 hL, kg16 hL, kg17 hL, kg18 hL, kg0 hL, kg2 hL, kg7 hL, kg11 hL, kg15 hL, kg19 hL, kg21 hL, kg23 hL, kg25 hL, ↓xbs (lF0_0 hL), ↓xbs (lF0_2 hL), ↓xbs (lF0_3 hL), ↓xbs (lF0_4 hL), ↓xbs (lF0_5 hL), ↓xbs (lF0_6 hL), ↓xbs (lF0_7 hL), ↓xbs (lF0_8 hL), ↓xbs (lF0_9 hL), ↓xbs (lF2_2 hL), ↓xbs (lF2_3 hL), ↓xbs (lF2_4 hL), ↓xbs (lF2_5 hL), ↓xbs (lF7_1 hL), ↓xbs (lF7_2 hL), ↓xbs (lF7_3 hL), ↓xbs (lF11_1 hL), ↓xbs (lF11_2 hL), ↓xbs (lF11_3 hL), ↓xbs (lF15_1 hL), ↓xbs (lF15_2 hL), ↓xbs (lF15_3 hL), kg1 hL, lF1 hL, ↓xF1c hL, kgT hL, kgR1 hL, kgR3 hL, kgR5 hL, ↓xT5 hL, ↓xT6 hL, ↓xT7 hL, lT5 hL, lT6 hL, lT7 hL, c1, l40, i1, i2, i3, b1, xu2]
    rw [hI1]
  · rcases Nat.lt_or_ge i b.length with z | z
    · rw [List.getElem?_append_left z] at e
      have := c2 i t' k' v' e
      rw [hI1, xu_rw (by decide), xu_rw (by decide), xu_rw (by decide), xu3 _ _ (by omega), xu_rw (by decide), xu_rw (by decide), xu3 _ _ (by omega), xu_rw (by decide), xu_rw (by decide), xu3 _ _ (by omega), xu_rw (by decide), xu_rw (by decide), xu3 _ _ (by omega)]
      exact this
    · rw [List.getElem?_append_right z] at e
      have : i = b.length := by
        have := get_lt e
        simp at this
        omega
      subst this
      simp at e
      obtain ⟨rfl, rfl, rfl⟩ := e
      rw [hI1, xu_rw (by decide), xu_rw (by decide), xu_rw (by decide), xu2, xu_rw (by decide), xu_rw (by decide), xu2, xu_rw (by decide), xu2, xu2]
      exact ⟨rfl, rfl, rfl, rfl⟩
theorem iv_alter (hL : Lay K F) (hW : WS n so o1 o2 p q ρ b lg td nt) (hC : CS I J n so o1 o2 p q ρ β bo b lg td nt κ) (hR : RS I J n so o1 o2 p q ρ β bo b lg td nt κ) {t k : Nat} (v : Option Int64) (ht : t < n) (hs : so t = 0) (hk : k < 64) : ∃ x I1 J1 I2 J2, m0_alter 148 K F I J 0 (nI t) (nI k) (bi v.isSome) (v.getD 0) = some (x, I1, J1) ∧ m5_alter 148 K F I1 J1 123 (nI t) (nI k) (bi v.isSome) (v.getD 0) = some (x, I2, J2) ∧ Inv I2 J2 := by
  obtain ⟨h1, h2, h3, h4, h5, h6, h7, h8, h9, h10⟩ := id hC
  obtain ⟨w1, w2, w3, w4, w5, w6⟩ := id hW
  have hn := w1.1
  have h12 : t < 12 := by omega
  have wk : win (nI k) 0 63 = true := win_key.mpr ⟨k, hk, rfl⟩
  have src : ∀ I J, RDef I J n so o1 o2 p q → m5_isSource 148 K F I J 123 (nI t) (nI k) = some 1 := fun I J h => by
    rw [r_isSource hL hn h ht (by omega), wk, decide_eq_true hs]; rfl
  cases bo with
  | true =>
    by_cases c : b.length < 40
    · obtain ⟨I1, J1, e1, e2, e3⟩ := c_gather (t := t) (k := k) hL hn hC v c
      have R1 := hR.fr e2
      obtain ⟨r1, r2, r3, ⟨y0, y1⟩, r5, r6, r7, r8⟩ := id R1
      obtain ⟨y1, y2⟩ := y1 rfl
      obtain ⟨I2, hI2⟩ : ∃ I2, I2 = xu (xu (xu (xu I1 140 b.length (nI t)) 141 b.length (nI k)) 142 b.length (bi v.isSome)) 123 21 (nI (b.length + 1)) := ⟨_, rfl⟩
      refine ⟨nI (b.length + 1), I1, J1, I2, xu J1 143 b.length (v.getD 0), ?_, ?_, n, so, o1, o2, p, q, ρ, β, true, b ++ [(t, k, v)], lg, td, nt, κ, ⟨w1, w2, ⟨by rw [List.length_append]; show b.length + 1 ≤ 40; omega, fun i t' k' v' e => ?_⟩, w4, w5, w6⟩, e3.fr hn (fun a ha => ⟨by rw [hI2, xu_rw (by omega), xu_rw (by omega), xu_rw (by omega), xu_rw (by omega)], xu_rw (by omega)⟩), R1.bat (fun a ha hb => by rw [hI2, xu_rw ha, xu_rw (by omega), xu_rw (by omega), xu_rw (by omega)]) (fun j ja jb => by rw [hI2, xu3 _ _ jb, xu_rw (by decide), xu_rw (by decide), xu_rw (by decide)]) (fun a ha => xu_rw ha) ⟨by rw [hI2, xu3 _ _ (by decide), xu_rw (by decide), xu_rw (by decide), xu_rw (by decide)]; exact y0, fun _ => ⟨by rw [hI2, xu2, List.length_append]; rfl, fun i t' k' v' e => ?_⟩⟩⟩
      · unfold m0_alter
        simp (disch := omega) only [↓xlet, xb_some, ↓reduceIte, cl_nI, nI_64, nI_add, nI_1, kg3 hL, kg4 hL, kg5 hL, kg6 hL, kg8 hL, kg9 hL, kg10 hL, kg12 hL, kg13 hL, kg14 hL, kg16 hL, kg17 hL, kg18 hL, kg0 hL, kg2 hL, kg7 hL, kg11 hL, kg15 hL, kg19 hL, kg21 hL, kg23 hL, kg25 hL, ↓xbs (lF0_0 hL), ↓xbs (lF0_2 hL), ↓xbs (lF0_3 hL), ↓xbs (lF0_4 hL), ↓xbs (lF0_5 hL), ↓xbs (lF0_6 hL), ↓xbs (lF0_7 hL), ↓xbs (lF0_8 hL), ↓xbs (lF0_9 hL), ↓xbs (lF2_2 hL), ↓xbs (lF2_3 hL), ↓xbs (lF2_4 hL), ↓xbs (lF2_5 hL), ↓xbs (lF7_1 hL), ↓xbs (lF7_2 hL), ↓xbs (lF7_3 hL), ↓xbs (lF11_1 hL), ↓xbs (lF11_2 hL), ↓xbs (lF11_3 hL), ↓xbs (lF15_1 hL), ↓xbs (lF15_2 hL), ↓xbs (lF15_3 hL), kg1 hL, lF1 hL, ↓xF1c hL, kgT hL, kgR1 hL, kgR3 hL, kgR5 hL, ↓xT5 hL, ↓xT6 hL, ↓xT7 hL, lT5 hL, lT6 hL, lT7 hL, h5.1, bt0, ↓xbs e1]
      · have l40 : (nI b.length = (40 : Int32)) = False := eq_false (nI_lit b.length 40 (by omega) (by decide) (by omega))
        have i1 : ∀ x, xu I1 140 b.length x 123 21 = nI b.length := fun x => by rw [xu_rw (by decide)]; exact y1
        have i2 : ∀ x y, xu (xu I1 140 b.length x) 141 b.length y 123 21 = nI b.length := fun x y => by rw [xu_rw (by decide)]; exact i1 x
        have i3 : ∀ x y z, xu (xu (xu I1 140 b.length x) 141 b.length y) 142 b.length z 123 21 = nI b.length := fun x y z => by rw [xu_rw (by decide)]; exact i2 x y
        have b1 : (bi v.isSome = 0 ∨ bi v.isSome = 1) = True := eq_true (bi_01 _)
        unfold m5_alter
        simp (disch := omega) only [↓xlet, xb_some, ↓reduceIte, cl_nI, nI_64, nI_add, nI_1, kg124 hL, kg125 hL, kg126 hL, kg127 hL, kg128 hL, kg129 hL, kg130 hL, kg131 hL, kg132 hL, kg133 hL, kg134 hL, kg135 hL, kg136 hL, kg137 hL, kg138 hL, kg139 hL, kg140 hL, kg141 hL, kg142 hL, kg143 hL, kg144 hL, kg145 hL, kg146 hL, kg147 hL, kg123 hL, ↓xbs (lF123_1 hL), ↓xbs (lF123_2 hL), ↓xbs (lF123_3 hL), ↓xbs (lF123_4 hL), ↓xbs (lF123_5 hL), ↓xbs (lF123_6 hL), ↓xbs (lF123_7 hL), ↓xbs (lF123_8 hL), ↓xbs (lF123_9 hL), ↓xbs (lF123_10 hL), ↓xbs (lF123_11 hL), ↓xbs (lF123_12 hL), ↓xbs (lF123_13 hL), ↓xbs (lF123_14 hL), ↓xbs (lF123_15 hL), ↓xbs (lF123_16 hL), ↓xbs (lF123_22 hL), ↓xbs (lF123_23 hL), ↓xbs (lF123_24 hL), ↓xbs (lF123_25 hL), ↓xbs (lF123_26 hL), ↓xbs (lF123_27 hL), ↓xbs (lF123_28 hL), ↓xbs (lF123_29 hL), ↓xbs (src I1 J1 r1), i10, not_false_eq_true, y0, bt0, y1, l40, i1, i2, i3, b1, xu2]
        rw [hI2]
      · rcases Nat.lt_or_ge i b.length with z | z
        · rw [List.getElem?_append_left z] at e; exact w3.2 i t' k' v' e
        · rw [List.getElem?_append_right z] at e
          have := get_lt e
          rw [show i - b.length = 0 by simp at this; omega] at e
          simp at e
          obtain ⟨rfl, rfl, rfl⟩ := e
          exact ⟨ht, hs, hk⟩
      · rcases Nat.lt_or_ge i b.length with z | z
        · rw [List.getElem?_append_left z] at e
          have := y2 i t' k' v' e
          rw [hI2, xu_rw (by decide), xu_rw (by decide), xu_rw (by decide), xu3 _ _ (by omega), xu_rw (by decide), xu_rw (by decide), xu3 _ _ (by omega), xu_rw (by decide), xu_rw (by decide), xu3 _ _ (by omega), xu_rw (by decide), xu_rw (by decide), xu3 _ _ (by omega)]
          exact this
        · rw [List.getElem?_append_right z] at e
          have : i = b.length := by
            have := get_lt e
            simp at this
            omega
          subst this
          simp at e
          obtain ⟨rfl, rfl, rfl⟩ := e
          rw [hI2, xu_rw (by decide), xu_rw (by decide), xu_rw (by decide), xu2, xu_rw (by decide), xu_rw (by decide), xu2, xu_rw (by decide), xu2, xu2]
          exact ⟨rfl, rfl, rfl, rfl⟩
    · have c40 : b.length = 40 := by have := w3.1; omega
      obtain ⟨r1, r2, r3, ⟨y0, y1⟩, r5, r6, r7, r8⟩ := id hR
      obtain ⟨y1, y2⟩ := y1 rfl
      refine ⟨-3, I, J, I, J, ?_, ?_, n, so, o1, o2, p, q, ρ, β, true, b, lg, td, nt, κ, hW, hC, hR⟩
      · have l40 : (nI b.length < (40 : Int32)) = False := by rw [c40]; decide
        unfold m0_alter m1_gather
        simp (disch := omega) only [↓xlet, xb_some, ↓reduceIte, cl_nI, nI_64, nI_add, nI_1, kg3 hL, kg4 hL, kg5 hL, kg6 hL, kg8 hL, kg9 hL, kg10 hL, kg12 hL, kg13 hL, kg14 hL, kg16 hL, kg17 hL, kg18 hL, kg0 hL, kg2 hL, kg7 hL, kg11 hL, kg15 hL, kg19 hL, kg21 hL, kg23 hL, kg25 hL, ↓xbs (lF0_0 hL), ↓xbs (lF0_2 hL), ↓xbs (lF0_3 hL), ↓xbs (lF0_4 hL), ↓xbs (lF0_5 hL), ↓xbs (lF0_6 hL), ↓xbs (lF0_7 hL), ↓xbs (lF0_8 hL), ↓xbs (lF0_9 hL), ↓xbs (lF2_2 hL), ↓xbs (lF2_3 hL), ↓xbs (lF2_4 hL), ↓xbs (lF2_5 hL), ↓xbs (lF7_1 hL), ↓xbs (lF7_2 hL), ↓xbs (lF7_3 hL), ↓xbs (lF11_1 hL), ↓xbs (lF11_2 hL), ↓xbs (lF11_3 hL), ↓xbs (lF15_1 hL), ↓xbs (lF15_2 hL), ↓xbs (lF15_3 hL), kg1 hL, lF1 hL, ↓xF1c hL, kgT hL, kgR1 hL, kgR3 hL, kgR5 hL, ↓xT5 hL, ↓xT6 hL, ↓xT7 hL, lT5 hL, lT6 hL, lT7 hL, h5.1, bt0, (h5.2 rfl).1, l40]
      · have l40 : (nI b.length = (40 : Int32)) = True := by rw [c40]; decide
        unfold m5_alter
        simp (disch := omega) only [↓xlet, xb_some, ↓reduceIte, cl_nI, nI_64, nI_add, nI_1, kg124 hL, kg125 hL, kg126 hL, kg127 hL, kg128 hL, kg129 hL, kg130 hL, kg131 hL, kg132 hL, kg133 hL, kg134 hL, kg135 hL, kg136 hL, kg137 hL, kg138 hL, kg139 hL, kg140 hL, kg141 hL, kg142 hL, kg143 hL, kg144 hL, kg145 hL, kg146 hL, kg147 hL, kg123 hL, ↓xbs (lF123_1 hL), ↓xbs (lF123_2 hL), ↓xbs (lF123_3 hL), ↓xbs (lF123_4 hL), ↓xbs (lF123_5 hL), ↓xbs (lF123_6 hL), ↓xbs (lF123_7 hL), ↓xbs (lF123_8 hL), ↓xbs (lF123_9 hL), ↓xbs (lF123_10 hL), ↓xbs (lF123_11 hL), ↓xbs (lF123_12 hL), ↓xbs (lF123_13 hL), ↓xbs (lF123_14 hL), ↓xbs (lF123_15 hL), ↓xbs (lF123_16 hL), ↓xbs (lF123_22 hL), ↓xbs (lF123_23 hL), ↓xbs (lF123_24 hL), ↓xbs (lF123_25 hL), ↓xbs (lF123_26 hL), ↓xbs (lF123_27 hL), ↓xbs (lF123_28 hL), ↓xbs (lF123_29 hL), ↓xbs (src I J r1), i10, not_false_eq_true, y0, bt0, y1, l40, not_true_eq_false]
  | false =>
    obtain ⟨J0, d1, d2, d3⟩ := wrt (I := I) (lRT3 hL h12) (h3 t ht) hk v
    obtain ⟨S, hG⟩ := Sg_ex (fset ρ t (rset (ρ t) k v)) n w1
    have hσ : ∀ x, x < n → so x ≠ 0 → fset ρ t (rset (ρ t) k v) x = ρ x := fun x hx z => fs_o (fun e => z (by rw [e]; exact hs))
    have fj : ∀ a, a < 27 ∨ 123 ≤ a → J0 a = J a := fun a ha => d3 a (by omega) (by omega)
    obtain ⟨I1, J1, g1, g2, g3⟩ := c_settle (σ := fset ρ t (rset (ρ t) k v)) (S := S) hL w1 w2 hG hσ w4.1 (h1.fr (I' := I) (J' := J0) rfl (fun x hx => ⟨rfl, by rw [d3 _ (by omega) (by omega)], by rw [d3 _ (by omega) (by omega)]⟩)) (h2.fr (fun x hx => ⟨d3 _ (by omega) (by omega), d3 _ (by omega) (by omega)⟩)) (fun x hx => by
      by_cases c : x = t
      · subst c; rw [fs_n]; exact d2
      · rw [fs_o c]; exact RA_move (h3 x hx) (d3 _ (by omega) (by omega)) (d3 _ (by omega) (by omega))) (h4.fr (fun x hx => ⟨d3 _ (by omega) (by omega), d3 _ (by omega) (by omega)⟩)) (h5.fr rfl rfl rfl rfl (fj _ (by decide))) (h6.fr rfl rfl (fj _ (by decide)) (fj _ (by decide))) (h7.fr rfl rfl (fj _ (by decide)) (fj _ (by decide))) (h8.fr rfl rfl (fj _ (by decide)) (fj _ (by decide))) (RA_move h9 (fj _ (by decide)) (fj _ (by decide))) (RA_move h10 (fj _ (by decide)) (fj _ (by decide)))
    have hi : HiF I I1 J J1 := fun a ha => ⟨(g1 a ha).1, by rw [(g1 a ha).2, fj a (by omega)]⟩
    obtain ⟨r1, r2, r3, r4, r5, r6, r7, r8⟩ := hR.fr hi
    obtain ⟨I2, J2, x1, x2, x3, x4⟩ := r_keep hL hn r1.1 r2
    have fi2 : ∀ a, a ≠ 131 → I2 a = I1 a := x2
    have R2 : RRows I2 J2 129 130 n ρ := r2.fr (x2 _ (by decide)) (x3 _ (by decide))
    obtain ⟨I3, J3, y1, y2, y3⟩ := r_setOr hL hn R2 ht hk v
    have FI : ∀ a, a ≠ 131 → a ≠ 129 → I3 a = I1 a := fun a a1 a9 => by rw [y2.1 a a9, x2 a a1]
    have FJ : ∀ a, a ≠ 132 → a ≠ 130 → J3 a = J1 a := fun a a1 a9 => by rw [y2.2.1 a a9, x3 a a1]
    have F3 : ∀ j, I3 123 j = I1 123 j := fun j => by rw [FI 123 (by decide) (by decide)]
    obtain ⟨I4, J4, z1, z2, z3⟩ := r_tell (σ := fset ρ t (rset (ρ t) k v)) (S := S) (ρ := ρ) hL w1 hG w4.1 w5.1 (r1.fr (F3 _) (FI _ (by decide) (by decide)) (FI _ (by decide) (by decide)) (FI _ (by decide) (by decide)) (FJ _ (by decide) (by decide)) (FJ _ (by decide) (by decide))) y3 (x4.fr (y2.1 _ (by decide)) (y2.2.1 _ (by decide))) (r3.fr (FI _ (by decide) (by decide)) (FJ _ (by decide) (by decide))) (r4.fr (F3 _) (F3 _) (FI _ (by decide) (by decide)) (FI _ (by decide) (by decide)) (FI _ (by decide) (by decide)) (FJ _ (by decide) (by decide))) (r5.fr' (F3 _) (FI _ (by decide) (by decide)) (FI _ (by decide) (by decide)) (FI _ (by decide) (by decide)) (FJ _ (by decide) (by decide)) (FJ _ (by decide) (by decide))) (r6.fr' (F3 _) (FI _ (by decide) (by decide)) (FI _ (by decide) (by decide)) (FI _ (by decide) (by decide)) (FJ _ (by decide) (by decide)) (FJ _ (by decide) (by decide))) (r7.fr' (F3 _) (FI _ (by decide) (by decide)) (FI _ (by decide) (by decide)) (FI _ (by decide) (by decide)) (FJ _ (by decide) (by decide)) (FJ _ (by decide) (by decide))) (r8.fr (FI _ (by decide) (by decide)) (FJ _ (by decide) (by decide)))
    have lo : LoF I1 I4 J1 J4 := fun a ha => ⟨by rw [(z1 a ha).1, FI a (by omega) (by omega)], by rw [(z1 a ha).2, FJ a (by omega) (by omega)]⟩
    have A0 : ∀ x, m0_settle 148 K F I J0 0 = some (x, I1, J1) → m0_alter 148 K F I J 0 (nI t) (nI k) (bi v.isSome) (v.getD 0) = some (x, I1, J1) := fun x e => by
      unfold m0_alter
      simp (disch := omega) only [↓xlet, xb_some, ↓reduceIte, cl_nI, nI_64, nI_add, nI_1, kg3 hL, kg4 hL, kg5 hL, kg6 hL, kg8 hL, kg9 hL, kg10 hL, kg12 hL, kg13 hL, kg14 hL, kg16 hL, kg17 hL, kg18 hL, kg0 hL, kg2 hL, kg7 hL, kg11 hL, kg15 hL, kg19 hL, kg21 hL, kg23 hL, kg25 hL, ↓xbs (lF0_0 hL), ↓xbs (lF0_2 hL), ↓xbs (lF0_3 hL), ↓xbs (lF0_4 hL), ↓xbs (lF0_5 hL), ↓xbs (lF0_6 hL), ↓xbs (lF0_7 hL), ↓xbs (lF0_8 hL), ↓xbs (lF0_9 hL), ↓xbs (lF2_2 hL), ↓xbs (lF2_3 hL), ↓xbs (lF2_4 hL), ↓xbs (lF2_5 hL), ↓xbs (lF7_1 hL), ↓xbs (lF7_2 hL), ↓xbs (lF7_3 hL), ↓xbs (lF11_1 hL), ↓xbs (lF11_2 hL), ↓xbs (lF11_3 hL), ↓xbs (lF15_1 hL), ↓xbs (lF15_2 hL), ↓xbs (lF15_3 hL), kg1 hL, lF1 hL, ↓xF1c hL, kgT hL, kgR1 hL, kgR3 hL, kgR5 hL, ↓xT5 hL, ↓xT6 hL, ↓xT7 hL, lT5 hL, lT6 hL, lT7 hL, h5.1, bi_f, ↓xbs d1, ↓xbs e]
    have A5 : ∀ x, m5_tell 148 K F I3 J3 123 = some (x, I4, J4) → m5_alter 148 K F I1 J1 123 (nI t) (nI k) (bi v.isSome) (v.getD 0) = some (x, I4, J4) := fun x e => by
      unfold m5_alter
      simp (disch := omega) only [↓xlet, xb_some, ↓reduceIte, cl_nI, nI_64, nI_add, nI_1, kg124 hL, kg125 hL, kg126 hL, kg127 hL, kg128 hL, kg129 hL, kg130 hL, kg131 hL, kg132 hL, kg133 hL, kg134 hL, kg135 hL, kg136 hL, kg137 hL, kg138 hL, kg139 hL, kg140 hL, kg141 hL, kg142 hL, kg143 hL, kg144 hL, kg145 hL, kg146 hL, kg147 hL, kg123 hL, ↓xbs (lF123_1 hL), ↓xbs (lF123_2 hL), ↓xbs (lF123_3 hL), ↓xbs (lF123_4 hL), ↓xbs (lF123_5 hL), ↓xbs (lF123_6 hL), ↓xbs (lF123_7 hL), ↓xbs (lF123_8 hL), ↓xbs (lF123_9 hL), ↓xbs (lF123_10 hL), ↓xbs (lF123_11 hL), ↓xbs (lF123_12 hL), ↓xbs (lF123_13 hL), ↓xbs (lF123_14 hL), ↓xbs (lF123_15 hL), ↓xbs (lF123_16 hL), ↓xbs (lF123_22 hL), ↓xbs (lF123_23 hL), ↓xbs (lF123_24 hL), ↓xbs (lF123_25 hL), ↓xbs (lF123_26 hL), ↓xbs (lF123_27 hL), ↓xbs (lF123_28 hL), ↓xbs (lF123_29 hL), ↓xbs (src I1 J1 r1), i10, not_false_eq_true, r4.1, bi_f, ↓xbs x1, y1, ↓xbs e]
    by_cases c : lg.length + (stT ρ S n).length ≤ 1500
    · obtain ⟨s1, s2⟩ := g2 c
      obtain ⟨u1, u2⟩ := z2 c
      exact ⟨_, I1, J1, I4, J4, A0 _ s1, A5 _ u1, n, so, o1, o2, p, q, S, β, false, b, _, _, nt, κ, hW.next hG c w3, s2.fr hn lo, u2⟩
    · obtain ⟨s1, s2⟩ := g3 c
      obtain ⟨u1, u2⟩ := z3 c
      exact ⟨_, I1, J1, I4, J4, A0 _ s1, A5 _ u1, n, so, o1, o2, p, q, ρ, β, false, b, lg, td, nt, κ, hW, s2.fr hn lo, u2⟩
theorem iv_put (hL : Lay K F) (h : Inv I J) (a1 a2 : Int32) (a3 : Int64) : ∃ x I1 J1 I2 J2, m0_put 148 K F I J 0 a1 a2 a3 = some (x, I1, J1) ∧ m5_put 148 K F I1 J1 123 a1 a2 a3 = some (x, I2, J2) ∧ Inv I2 J2 := by
  obtain ⟨n, so, o1, o2, p, q, ρ, β, bo, b, lg, td, nt, κ, hW, hC, hR⟩ := h
  have hI : Inv I J := ⟨n, so, o1, o2, p, q, ρ, β, bo, b, lg, td, nt, κ, hW, hC, hR⟩
  have hn := hW.1.1
  by_cases ht : win a1 0 (nI n - 1) = true
  · obtain ⟨t, htn, rfl⟩ := (win_n (by omega)).mp ht
    have s7 := (hW.1.2 t htn).1.1
    have cs := c_isSource (J := J) hL hn hC.1 htn s7
    by_cases hk : win a2 0 63 = true
    · obtain ⟨k, h64, rfl⟩ := win_key.mp hk
      by_cases hs : so t = 0
      · obtain ⟨x, I1, J1, I2, J2, e1, e2, e3⟩ := iv_alter hL hW hC hR (some a3) htn hs h64
        have e1 : m0_alter 148 K F I J 0 (nI t) (nI k) 1 a3 = some (x, I1, J1) := e1
        have e2 : m5_alter 148 K F I1 J1 123 (nI t) (nI k) 1 a3 = some (x, I2, J2) := e2
        refine ⟨x, I1, J1, I2, J2, ?_, ?_, e3⟩
        · unfold m0_put
          simp (disch := omega) only [↓xlet, xb_some, ↓reduceIte, cl_nI, nI_64, nI_add, nI_1, kg3 hL, kg4 hL, kg5 hL, kg6 hL, kg8 hL, kg9 hL, kg10 hL, kg12 hL, kg13 hL, kg14 hL, kg16 hL, kg17 hL, kg18 hL, kg0 hL, kg2 hL, kg7 hL, kg11 hL, kg15 hL, kg19 hL, kg21 hL, kg23 hL, kg25 hL, ↓xbs (lF0_0 hL), ↓xbs (lF0_2 hL), ↓xbs (lF0_3 hL), ↓xbs (lF0_4 hL), ↓xbs (lF0_5 hL), ↓xbs (lF0_6 hL), ↓xbs (lF0_7 hL), ↓xbs (lF0_8 hL), ↓xbs (lF0_9 hL), ↓xbs (lF2_2 hL), ↓xbs (lF2_3 hL), ↓xbs (lF2_4 hL), ↓xbs (lF2_5 hL), ↓xbs (lF7_1 hL), ↓xbs (lF7_2 hL), ↓xbs (lF7_3 hL), ↓xbs (lF11_1 hL), ↓xbs (lF11_2 hL), ↓xbs (lF11_3 hL), ↓xbs (lF15_1 hL), ↓xbs (lF15_2 hL), ↓xbs (lF15_3 hL), kg1 hL, lF1 hL, ↓xF1c hL, kgT hL, kgR1 hL, kgR3 hL, kgR5 hL, ↓xT5 hL, ↓xT6 hL, ↓xT7 hL, lT5 hL, lT6 hL, lT7 hL, ↓xbs cs, ↓xisK, hk, hs, decide_true, bi_z, Bool.true_eq_false, not_false_eq_true, ↓xbs e1]
        · unfold m5_put
          simp (disch := omega) only [↓xlet, xb_some, ↓reduceIte, cl_nI, nI_64, nI_add, nI_1, kg124 hL, kg125 hL, kg126 hL, kg127 hL, kg128 hL, kg129 hL, kg130 hL, kg131 hL, kg132 hL, kg133 hL, kg134 hL, kg135 hL, kg136 hL, kg137 hL, kg138 hL, kg139 hL, kg140 hL, kg141 hL, kg142 hL, kg143 hL, kg144 hL, kg145 hL, kg146 hL, kg147 hL, kg123 hL, ↓xbs (lF123_1 hL), ↓xbs (lF123_2 hL), ↓xbs (lF123_3 hL), ↓xbs (lF123_4 hL), ↓xbs (lF123_5 hL), ↓xbs (lF123_6 hL), ↓xbs (lF123_7 hL), ↓xbs (lF123_8 hL), ↓xbs (lF123_9 hL), ↓xbs (lF123_10 hL), ↓xbs (lF123_11 hL), ↓xbs (lF123_12 hL), ↓xbs (lF123_13 hL), ↓xbs (lF123_14 hL), ↓xbs (lF123_15 hL), ↓xbs (lF123_16 hL), ↓xbs (lF123_22 hL), ↓xbs (lF123_23 hL), ↓xbs (lF123_24 hL), ↓xbs (lF123_25 hL), ↓xbs (lF123_26 hL), ↓xbs (lF123_27 hL), ↓xbs (lF123_28 hL), ↓xbs (lF123_29 hL), ↓xbs e2]
      · refine ⟨-2, I, J, I, J, ?_, ?_, hI⟩
        · unfold m0_put
          simp (disch := omega) only [↓xlet, xb_some, ↓reduceIte, cl_nI, nI_64, nI_add, nI_1, kg3 hL, kg4 hL, kg5 hL, kg6 hL, kg8 hL, kg9 hL, kg10 hL, kg12 hL, kg13 hL, kg14 hL, kg16 hL, kg17 hL, kg18 hL, kg0 hL, kg2 hL, kg7 hL, kg11 hL, kg15 hL, kg19 hL, kg21 hL, kg23 hL, kg25 hL, ↓xbs (lF0_0 hL), ↓xbs (lF0_2 hL), ↓xbs (lF0_3 hL), ↓xbs (lF0_4 hL), ↓xbs (lF0_5 hL), ↓xbs (lF0_6 hL), ↓xbs (lF0_7 hL), ↓xbs (lF0_8 hL), ↓xbs (lF0_9 hL), ↓xbs (lF2_2 hL), ↓xbs (lF2_3 hL), ↓xbs (lF2_4 hL), ↓xbs (lF2_5 hL), ↓xbs (lF7_1 hL), ↓xbs (lF7_2 hL), ↓xbs (lF7_3 hL), ↓xbs (lF11_1 hL), ↓xbs (lF11_2 hL), ↓xbs (lF11_3 hL), ↓xbs (lF15_1 hL), ↓xbs (lF15_2 hL), ↓xbs (lF15_3 hL), kg1 hL, lF1 hL, ↓xF1c hL, kgT hL, kgR1 hL, kgR3 hL, kgR5 hL, ↓xT5 hL, ↓xT6 hL, ↓xT7 hL, lT5 hL, lT6 hL, lT7 hL, ↓xbs cs, hs, decide_false, bi_z]
        · unfold m5_put m5_alter
          simp (disch := omega) only [↓xlet, xb_some, ↓reduceIte, cl_nI, nI_64, nI_add, nI_1, kg124 hL, kg125 hL, kg126 hL, kg127 hL, kg128 hL, kg129 hL, kg130 hL, kg131 hL, kg132 hL, kg133 hL, kg134 hL, kg135 hL, kg136 hL, kg137 hL, kg138 hL, kg139 hL, kg140 hL, kg141 hL, kg142 hL, kg143 hL, kg144 hL, kg145 hL, kg146 hL, kg147 hL, kg123 hL, ↓xbs (lF123_1 hL), ↓xbs (lF123_2 hL), ↓xbs (lF123_3 hL), ↓xbs (lF123_4 hL), ↓xbs (lF123_5 hL), ↓xbs (lF123_6 hL), ↓xbs (lF123_7 hL), ↓xbs (lF123_8 hL), ↓xbs (lF123_9 hL), ↓xbs (lF123_10 hL), ↓xbs (lF123_11 hL), ↓xbs (lF123_12 hL), ↓xbs (lF123_13 hL), ↓xbs (lF123_14 hL), ↓xbs (lF123_15 hL), ↓xbs (lF123_16 hL), ↓xbs (lF123_22 hL), ↓xbs (lF123_23 hL), ↓xbs (lF123_24 hL), ↓xbs (lF123_25 hL), ↓xbs (lF123_26 hL), ↓xbs (lF123_27 hL), ↓xbs (lF123_28 hL), ↓xbs (lF123_29 hL), ↓xbs (r_isSource hL hn hR.1 htn s7 (nI k)), hs, decide_false, Bool.false_and, bi_z, not_true_eq_false]
    · have hk := bt_n hk
      refine ⟨-2, I, J, I, J, ?_, ?_, hI⟩
      · unfold m0_put
        simp (disch := omega) only [↓xlet, xb_some, ↓reduceIte, cl_nI, nI_64, nI_add, nI_1, kg3 hL, kg4 hL, kg5 hL, kg6 hL, kg8 hL, kg9 hL, kg10 hL, kg12 hL, kg13 hL, kg14 hL, kg16 hL, kg17 hL, kg18 hL, kg0 hL, kg2 hL, kg7 hL, kg11 hL, kg15 hL, kg19 hL, kg21 hL, kg23 hL, kg25 hL, ↓xbs (lF0_0 hL), ↓xbs (lF0_2 hL), ↓xbs (lF0_3 hL), ↓xbs (lF0_4 hL), ↓xbs (lF0_5 hL), ↓xbs (lF0_6 hL), ↓xbs (lF0_7 hL), ↓xbs (lF0_8 hL), ↓xbs (lF0_9 hL), ↓xbs (lF2_2 hL), ↓xbs (lF2_3 hL), ↓xbs (lF2_4 hL), ↓xbs (lF2_5 hL), ↓xbs (lF7_1 hL), ↓xbs (lF7_2 hL), ↓xbs (lF7_3 hL), ↓xbs (lF11_1 hL), ↓xbs (lF11_2 hL), ↓xbs (lF11_3 hL), ↓xbs (lF15_1 hL), ↓xbs (lF15_2 hL), ↓xbs (lF15_3 hL), kg1 hL, lF1 hL, ↓xF1c hL, kgT hL, kgR1 hL, kgR3 hL, kgR5 hL, ↓xT5 hL, ↓xT6 hL, ↓xT7 hL, lT5 hL, lT6 hL, lT7 hL, ↓xbs cs, ↓xisK, hk, bi_z, not_true_eq_false]
        exact ite_self _
      · unfold m5_put m5_alter
        simp (disch := omega) only [↓xlet, xb_some, ↓reduceIte, cl_nI, nI_64, nI_add, nI_1, kg124 hL, kg125 hL, kg126 hL, kg127 hL, kg128 hL, kg129 hL, kg130 hL, kg131 hL, kg132 hL, kg133 hL, kg134 hL, kg135 hL, kg136 hL, kg137 hL, kg138 hL, kg139 hL, kg140 hL, kg141 hL, kg142 hL, kg143 hL, kg144 hL, kg145 hL, kg146 hL, kg147 hL, kg123 hL, ↓xbs (lF123_1 hL), ↓xbs (lF123_2 hL), ↓xbs (lF123_3 hL), ↓xbs (lF123_4 hL), ↓xbs (lF123_5 hL), ↓xbs (lF123_6 hL), ↓xbs (lF123_7 hL), ↓xbs (lF123_8 hL), ↓xbs (lF123_9 hL), ↓xbs (lF123_10 hL), ↓xbs (lF123_11 hL), ↓xbs (lF123_12 hL), ↓xbs (lF123_13 hL), ↓xbs (lF123_14 hL), ↓xbs (lF123_15 hL), ↓xbs (lF123_16 hL), ↓xbs (lF123_22 hL), ↓xbs (lF123_23 hL), ↓xbs (lF123_24 hL), ↓xbs (lF123_25 hL), ↓xbs (lF123_26 hL), ↓xbs (lF123_27 hL), ↓xbs (lF123_28 hL), ↓xbs (lF123_29 hL), ↓xbs (r_isSource hL hn hR.1 htn s7 a2), hk, Bool.and_false, bi_z, not_true_eq_false]
  · have ht := bt_n ht
    refine ⟨-2, I, J, I, J, ?_, ?_, hI⟩
    · unfold m0_put
      simp (disch := omega) only [↓xlet, xb_some, ↓reduceIte, cl_nI, nI_64, nI_add, nI_1, kg3 hL, kg4 hL, kg5 hL, kg6 hL, kg8 hL, kg9 hL, kg10 hL, kg12 hL, kg13 hL, kg14 hL, kg16 hL, kg17 hL, kg18 hL, kg0 hL, kg2 hL, kg7 hL, kg11 hL, kg15 hL, kg19 hL, kg21 hL, kg23 hL, kg25 hL, ↓xbs (lF0_0 hL), ↓xbs (lF0_2 hL), ↓xbs (lF0_3 hL), ↓xbs (lF0_4 hL), ↓xbs (lF0_5 hL), ↓xbs (lF0_6 hL), ↓xbs (lF0_7 hL), ↓xbs (lF0_8 hL), ↓xbs (lF0_9 hL), ↓xbs (lF2_2 hL), ↓xbs (lF2_3 hL), ↓xbs (lF2_4 hL), ↓xbs (lF2_5 hL), ↓xbs (lF7_1 hL), ↓xbs (lF7_2 hL), ↓xbs (lF7_3 hL), ↓xbs (lF11_1 hL), ↓xbs (lF11_2 hL), ↓xbs (lF11_3 hL), ↓xbs (lF15_1 hL), ↓xbs (lF15_2 hL), ↓xbs (lF15_3 hL), kg1 hL, lF1 hL, ↓xF1c hL, kgT hL, kgR1 hL, kgR3 hL, kgR5 hL, ↓xT5 hL, ↓xT6 hL, ↓xT7 hL, lT5 hL, lT6 hL, lT7 hL, ↓xbs (c_isSourceN (J := J) hL hC.1.1 ht)]
    · unfold m5_put m5_alter
      simp (disch := omega) only [↓xlet, xb_some, ↓reduceIte, cl_nI, nI_64, nI_add, nI_1, kg124 hL, kg125 hL, kg126 hL, kg127 hL, kg128 hL, kg129 hL, kg130 hL, kg131 hL, kg132 hL, kg133 hL, kg134 hL, kg135 hL, kg136 hL, kg137 hL, kg138 hL, kg139 hL, kg140 hL, kg141 hL, kg142 hL, kg143 hL, kg144 hL, kg145 hL, kg146 hL, kg147 hL, kg123 hL, ↓xbs (lF123_1 hL), ↓xbs (lF123_2 hL), ↓xbs (lF123_3 hL), ↓xbs (lF123_4 hL), ↓xbs (lF123_5 hL), ↓xbs (lF123_6 hL), ↓xbs (lF123_7 hL), ↓xbs (lF123_8 hL), ↓xbs (lF123_9 hL), ↓xbs (lF123_10 hL), ↓xbs (lF123_11 hL), ↓xbs (lF123_12 hL), ↓xbs (lF123_13 hL), ↓xbs (lF123_14 hL), ↓xbs (lF123_15 hL), ↓xbs (lF123_16 hL), ↓xbs (lF123_22 hL), ↓xbs (lF123_23 hL), ↓xbs (lF123_24 hL), ↓xbs (lF123_25 hL), ↓xbs (lF123_26 hL), ↓xbs (lF123_27 hL), ↓xbs (lF123_28 hL), ↓xbs (lF123_29 hL), ↓xbs (r_isSourceN (J := J) (a2 := a2) hL hR.1.1 ht), not_true_eq_false]
theorem iv_remove (hL : Lay K F) (h : Inv I J) (a1 a2 : Int32) : ∃ x I1 J1 I2 J2, m0_remove 148 K F I J 0 a1 a2 = some (x, I1, J1) ∧ m5_remove 148 K F I1 J1 123 a1 a2 = some (x, I2, J2) ∧ Inv I2 J2 := by
  obtain ⟨n, so, o1, o2, p, q, ρ, β, bo, b, lg, td, nt, κ, hW, hC, hR⟩ := h
  have hI : Inv I J := ⟨n, so, o1, o2, p, q, ρ, β, bo, b, lg, td, nt, κ, hW, hC, hR⟩
  have hn := hW.1.1
  by_cases ht : win a1 0 (nI n - 1) = true
  · obtain ⟨t, htn, rfl⟩ := (win_n (by omega)).mp ht
    have s7 := (hW.1.2 t htn).1.1
    have cs := c_isSource (J := J) hL hn hC.1 htn s7
    by_cases hk : win a2 0 63 = true
    · obtain ⟨k, h64, rfl⟩ := win_key.mp hk
      by_cases hs : so t = 0
      · obtain ⟨x, I1, J1, I2, J2, e1, e2, e3⟩ := iv_alter hL hW hC hR none htn hs h64
        have e1 : m0_alter 148 K F I J 0 (nI t) (nI k) 0 0 = some (x, I1, J1) := e1
        have e2 : m5_alter 148 K F I1 J1 123 (nI t) (nI k) 0 0 = some (x, I2, J2) := e2
        refine ⟨x, I1, J1, I2, J2, ?_, ?_, e3⟩
        · unfold m0_remove
          simp (disch := omega) only [↓xlet, xb_some, ↓reduceIte, cl_nI, nI_64, nI_add, nI_1, kg3 hL, kg4 hL, kg5 hL, kg6 hL, kg8 hL, kg9 hL, kg10 hL, kg12 hL, kg13 hL, kg14 hL, kg16 hL, kg17 hL, kg18 hL, kg0 hL, kg2 hL, kg7 hL, kg11 hL, kg15 hL, kg19 hL, kg21 hL, kg23 hL, kg25 hL, ↓xbs (lF0_0 hL), ↓xbs (lF0_2 hL), ↓xbs (lF0_3 hL), ↓xbs (lF0_4 hL), ↓xbs (lF0_5 hL), ↓xbs (lF0_6 hL), ↓xbs (lF0_7 hL), ↓xbs (lF0_8 hL), ↓xbs (lF0_9 hL), ↓xbs (lF2_2 hL), ↓xbs (lF2_3 hL), ↓xbs (lF2_4 hL), ↓xbs (lF2_5 hL), ↓xbs (lF7_1 hL), ↓xbs (lF7_2 hL), ↓xbs (lF7_3 hL), ↓xbs (lF11_1 hL), ↓xbs (lF11_2 hL), ↓xbs (lF11_3 hL), ↓xbs (lF15_1 hL), ↓xbs (lF15_2 hL), ↓xbs (lF15_3 hL), kg1 hL, lF1 hL, ↓xF1c hL, kgT hL, kgR1 hL, kgR3 hL, kgR5 hL, ↓xT5 hL, ↓xT6 hL, ↓xT7 hL, lT5 hL, lT6 hL, lT7 hL, ↓xbs cs, ↓xisK, hk, hs, decide_true, bi_z, Bool.true_eq_false, not_false_eq_true, ↓xbs e1]
        · unfold m5_remove
          simp (disch := omega) only [↓xlet, xb_some, ↓reduceIte, cl_nI, nI_64, nI_add, nI_1, kg124 hL, kg125 hL, kg126 hL, kg127 hL, kg128 hL, kg129 hL, kg130 hL, kg131 hL, kg132 hL, kg133 hL, kg134 hL, kg135 hL, kg136 hL, kg137 hL, kg138 hL, kg139 hL, kg140 hL, kg141 hL, kg142 hL, kg143 hL, kg144 hL, kg145 hL, kg146 hL, kg147 hL, kg123 hL, ↓xbs (lF123_1 hL), ↓xbs (lF123_2 hL), ↓xbs (lF123_3 hL), ↓xbs (lF123_4 hL), ↓xbs (lF123_5 hL), ↓xbs (lF123_6 hL), ↓xbs (lF123_7 hL), ↓xbs (lF123_8 hL), ↓xbs (lF123_9 hL), ↓xbs (lF123_10 hL), ↓xbs (lF123_11 hL), ↓xbs (lF123_12 hL), ↓xbs (lF123_13 hL), ↓xbs (lF123_14 hL), ↓xbs (lF123_15 hL), ↓xbs (lF123_16 hL), ↓xbs (lF123_22 hL), ↓xbs (lF123_23 hL), ↓xbs (lF123_24 hL), ↓xbs (lF123_25 hL), ↓xbs (lF123_26 hL), ↓xbs (lF123_27 hL), ↓xbs (lF123_28 hL), ↓xbs (lF123_29 hL), ↓xbs e2]
      · refine ⟨-2, I, J, I, J, ?_, ?_, hI⟩
        · unfold m0_remove
          simp (disch := omega) only [↓xlet, xb_some, ↓reduceIte, cl_nI, nI_64, nI_add, nI_1, kg3 hL, kg4 hL, kg5 hL, kg6 hL, kg8 hL, kg9 hL, kg10 hL, kg12 hL, kg13 hL, kg14 hL, kg16 hL, kg17 hL, kg18 hL, kg0 hL, kg2 hL, kg7 hL, kg11 hL, kg15 hL, kg19 hL, kg21 hL, kg23 hL, kg25 hL, ↓xbs (lF0_0 hL), ↓xbs (lF0_2 hL), ↓xbs (lF0_3 hL), ↓xbs (lF0_4 hL), ↓xbs (lF0_5 hL), ↓xbs (lF0_6 hL), ↓xbs (lF0_7 hL), ↓xbs (lF0_8 hL), ↓xbs (lF0_9 hL), ↓xbs (lF2_2 hL), ↓xbs (lF2_3 hL), ↓xbs (lF2_4 hL), ↓xbs (lF2_5 hL), ↓xbs (lF7_1 hL), ↓xbs (lF7_2 hL), ↓xbs (lF7_3 hL), ↓xbs (lF11_1 hL), ↓xbs (lF11_2 hL), ↓xbs (lF11_3 hL), ↓xbs (lF15_1 hL), ↓xbs (lF15_2 hL), ↓xbs (lF15_3 hL), kg1 hL, lF1 hL, ↓xF1c hL, kgT hL, kgR1 hL, kgR3 hL, kgR5 hL, ↓xT5 hL, ↓xT6 hL, ↓xT7 hL, lT5 hL, lT6 hL, lT7 hL, ↓xbs cs, hs, decide_false, bi_z]
        · unfold m5_remove m5_alter
          simp (disch := omega) only [↓xlet, xb_some, ↓reduceIte, cl_nI, nI_64, nI_add, nI_1, kg124 hL, kg125 hL, kg126 hL, kg127 hL, kg128 hL, kg129 hL, kg130 hL, kg131 hL, kg132 hL, kg133 hL, kg134 hL, kg135 hL, kg136 hL, kg137 hL, kg138 hL, kg139 hL, kg140 hL, kg141 hL, kg142 hL, kg143 hL, kg144 hL, kg145 hL, kg146 hL, kg147 hL, kg123 hL, ↓xbs (lF123_1 hL), ↓xbs (lF123_2 hL), ↓xbs (lF123_3 hL), ↓xbs (lF123_4 hL), ↓xbs (lF123_5 hL), ↓xbs (lF123_6 hL), ↓xbs (lF123_7 hL), ↓xbs (lF123_8 hL), ↓xbs (lF123_9 hL), ↓xbs (lF123_10 hL), ↓xbs (lF123_11 hL), ↓xbs (lF123_12 hL), ↓xbs (lF123_13 hL), ↓xbs (lF123_14 hL), ↓xbs (lF123_15 hL), ↓xbs (lF123_16 hL), ↓xbs (lF123_22 hL), ↓xbs (lF123_23 hL), ↓xbs (lF123_24 hL), ↓xbs (lF123_25 hL), ↓xbs (lF123_26 hL), ↓xbs (lF123_27 hL), ↓xbs (lF123_28 hL), ↓xbs (lF123_29 hL), ↓xbs (r_isSource hL hn hR.1 htn s7 (nI k)), hs, decide_false, Bool.false_and, bi_z, not_true_eq_false]
    · have hk := bt_n hk
      refine ⟨-2, I, J, I, J, ?_, ?_, hI⟩
      · unfold m0_remove
        simp (disch := omega) only [↓xlet, xb_some, ↓reduceIte, cl_nI, nI_64, nI_add, nI_1, kg3 hL, kg4 hL, kg5 hL, kg6 hL, kg8 hL, kg9 hL, kg10 hL, kg12 hL, kg13 hL, kg14 hL, kg16 hL, kg17 hL, kg18 hL, kg0 hL, kg2 hL, kg7 hL, kg11 hL, kg15 hL, kg19 hL, kg21 hL, kg23 hL, kg25 hL, ↓xbs (lF0_0 hL), ↓xbs (lF0_2 hL), ↓xbs (lF0_3 hL), ↓xbs (lF0_4 hL), ↓xbs (lF0_5 hL), ↓xbs (lF0_6 hL), ↓xbs (lF0_7 hL), ↓xbs (lF0_8 hL), ↓xbs (lF0_9 hL), ↓xbs (lF2_2 hL), ↓xbs (lF2_3 hL), ↓xbs (lF2_4 hL), ↓xbs (lF2_5 hL), ↓xbs (lF7_1 hL), ↓xbs (lF7_2 hL), ↓xbs (lF7_3 hL), ↓xbs (lF11_1 hL), ↓xbs (lF11_2 hL), ↓xbs (lF11_3 hL), ↓xbs (lF15_1 hL), ↓xbs (lF15_2 hL), ↓xbs (lF15_3 hL), kg1 hL, lF1 hL, ↓xF1c hL, kgT hL, kgR1 hL, kgR3 hL, kgR5 hL, ↓xT5 hL, ↓xT6 hL, ↓xT7 hL, lT5 hL, lT6 hL, lT7 hL, ↓xbs cs, ↓xisK, hk, bi_z, not_true_eq_false]
        exact ite_self _
      · unfold m5_remove m5_alter
        simp (disch := omega) only [↓xlet, xb_some, ↓reduceIte, cl_nI, nI_64, nI_add, nI_1, kg124 hL, kg125 hL, kg126 hL, kg127 hL, kg128 hL, kg129 hL, kg130 hL, kg131 hL, kg132 hL, kg133 hL, kg134 hL, kg135 hL, kg136 hL, kg137 hL, kg138 hL, kg139 hL, kg140 hL, kg141 hL, kg142 hL, kg143 hL, kg144 hL, kg145 hL, kg146 hL, kg147 hL, kg123 hL, ↓xbs (lF123_1 hL), ↓xbs (lF123_2 hL), ↓xbs (lF123_3 hL), ↓xbs (lF123_4 hL), ↓xbs (lF123_5 hL), ↓xbs (lF123_6 hL), ↓xbs (lF123_7 hL), ↓xbs (lF123_8 hL), ↓xbs (lF123_9 hL), ↓xbs (lF123_10 hL), ↓xbs (lF123_11 hL), ↓xbs (lF123_12 hL), ↓xbs (lF123_13 hL), ↓xbs (lF123_14 hL), ↓xbs (lF123_15 hL), ↓xbs (lF123_16 hL), ↓xbs (lF123_22 hL), ↓xbs (lF123_23 hL), ↓xbs (lF123_24 hL), ↓xbs (lF123_25 hL), ↓xbs (lF123_26 hL), ↓xbs (lF123_27 hL), ↓xbs (lF123_28 hL), ↓xbs (lF123_29 hL), ↓xbs (r_isSource hL hn hR.1 htn s7 a2), hk, Bool.and_false, bi_z, not_true_eq_false]
  · have ht := bt_n ht
    refine ⟨-2, I, J, I, J, ?_, ?_, hI⟩
    · unfold m0_remove
      simp (disch := omega) only [↓xlet, xb_some, ↓reduceIte, cl_nI, nI_64, nI_add, nI_1, kg3 hL, kg4 hL, kg5 hL, kg6 hL, kg8 hL, kg9 hL, kg10 hL, kg12 hL, kg13 hL, kg14 hL, kg16 hL, kg17 hL, kg18 hL, kg0 hL, kg2 hL, kg7 hL, kg11 hL, kg15 hL, kg19 hL, kg21 hL, kg23 hL, kg25 hL, ↓xbs (lF0_0 hL), ↓xbs (lF0_2 hL), ↓xbs (lF0_3 hL), ↓xbs (lF0_4 hL), ↓xbs (lF0_5 hL), ↓xbs (lF0_6 hL), ↓xbs (lF0_7 hL), ↓xbs (lF0_8 hL), ↓xbs (lF0_9 hL), ↓xbs (lF2_2 hL), ↓xbs (lF2_3 hL), ↓xbs (lF2_4 hL), ↓xbs (lF2_5 hL), ↓xbs (lF7_1 hL), ↓xbs (lF7_2 hL), ↓xbs (lF7_3 hL), ↓xbs (lF11_1 hL), ↓xbs (lF11_2 hL), ↓xbs (lF11_3 hL), ↓xbs (lF15_1 hL), ↓xbs (lF15_2 hL), ↓xbs (lF15_3 hL), kg1 hL, lF1 hL, ↓xF1c hL, kgT hL, kgR1 hL, kgR3 hL, kgR5 hL, ↓xT5 hL, ↓xT6 hL, ↓xT7 hL, lT5 hL, lT6 hL, lT7 hL, ↓xbs (c_isSourceN (J := J) hL hC.1.1 ht)]
    · unfold m5_remove m5_alter
      simp (disch := omega) only [↓xlet, xb_some, ↓reduceIte, cl_nI, nI_64, nI_add, nI_1, kg124 hL, kg125 hL, kg126 hL, kg127 hL, kg128 hL, kg129 hL, kg130 hL, kg131 hL, kg132 hL, kg133 hL, kg134 hL, kg135 hL, kg136 hL, kg137 hL, kg138 hL, kg139 hL, kg140 hL, kg141 hL, kg142 hL, kg143 hL, kg144 hL, kg145 hL, kg146 hL, kg147 hL, kg123 hL, ↓xbs (lF123_1 hL), ↓xbs (lF123_2 hL), ↓xbs (lF123_3 hL), ↓xbs (lF123_4 hL), ↓xbs (lF123_5 hL), ↓xbs (lF123_6 hL), ↓xbs (lF123_7 hL), ↓xbs (lF123_8 hL), ↓xbs (lF123_9 hL), ↓xbs (lF123_10 hL), ↓xbs (lF123_11 hL), ↓xbs (lF123_12 hL), ↓xbs (lF123_13 hL), ↓xbs (lF123_14 hL), ↓xbs (lF123_15 hL), ↓xbs (lF123_16 hL), ↓xbs (lF123_22 hL), ↓xbs (lF123_23 hL), ↓xbs (lF123_24 hL), ↓xbs (lF123_25 hL), ↓xbs (lF123_26 hL), ↓xbs (lF123_27 hL), ↓xbs (lF123_28 hL), ↓xbs (lF123_29 hL), ↓xbs (r_isSourceN (J := J) (a2 := a2) hL hR.1.1 ht), not_true_eq_false]
end
