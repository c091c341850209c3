theorem ts_nf {x : Bool} (h : ¬ x = false) : x = true := by cases x <;> first | rfl | exact absurd rfl h
theorem ts_nt {x : Bool} (h : ¬ x = true) : x = false := by cases x <;> first | rfl | exact absurd rfl h
theorem ts_bit {w : Int64} {s : UInt64} {j : Nat} (hj : j < 64) (hs : s.toNat = j) : ((w.toUInt64 >>> s).toInt64 &&& 1) = 0 ↔ w.toBitVec.getLsbD j = false := by
  have e : (w.toUInt64 >>> s).toInt64.toBitVec = w.toBitVec >>> j := by
    apply BitVec.eq_of_toNat_eq
    show (w.toUInt64 >>> s).toNat = _
    rw [UInt64.toNat_shiftRight, hs, Nat.mod_eq_of_lt hj, BitVec.toNat_ushiftRight]
    rfl
  rw [← Int64.toBitVec_inj, Int64.toBitVec_and, e]
  show w.toBitVec >>> j &&& 1#64 = 0#64 ↔ _
  constructor
  · intro h
    have t := congrArg (fun x => x.getLsbD 0) h
    simpa using t
  · intro h
    apply BitVec.eq_of_getLsbD_eq
    intro i hi
    cases i with
    | zero => simp [h]
    | succ i => simp
/-! bits of a long -/
def bt (x : Int64) (k : Nat) : Bool := x.toBitVec.getLsbD k
theorem b_cu : ∀ k, k < 64 → ((nI k).toInt64.toUInt64 &&& Int64.toUInt64 63).toNat = k := by decide +kernel
theorem b_one : ∀ k, k < 64 → ((1 : Int64) <<< ((nI k).toInt64 &&& 63)).toBitVec = BitVec.twoPow 64 k := by decide +kernel
theorem bt_test {x : Int64} {k : Nat} (hk : k < 64) : (((x.toUInt64 >>> ((nI k).toInt64.toUInt64 &&& Int64.toUInt64 63)).toInt64) &&& (1 : Int64)) = (0 : Int64) ↔ bt x k = false := ts_bit hk (b_cu k hk)
theorem bt_or {x : Int64} {k i : Nat} (hk : k < 64) (hi : i < 64) : bt (x ||| ((1 : Int64) <<< ((nI k).toInt64 &&& 63))) i = (bt x i || decide (i = k)) := by
  unfold bt
  rw [Int64.toBitVec_or, b_one k hk, BitVec.getLsbD_or, BitVec.getLsbD_twoPow]
  by_cases e : i = k
  · subst e; simp [hi]
  · simp [e, Ne.symm e]
theorem bt_clear {x : Int64} {k i : Nat} (hk : k < 64) (hi : i < 64) : bt (x &&& (((1 : Int64) <<< ((nI k).toInt64 &&& 63)) ^^^ ((-1) : Int64))) i = (bt x i && !decide (i = k)) := by
  have ha : (-1 : Int64).toBitVec = BitVec.allOnes 64 := by decide
  unfold bt
  rw [Int64.toBitVec_and, Int64.toBitVec_xor, b_one k hk, ha, BitVec.getLsbD_and, BitVec.getLsbD_xor, BitVec.getLsbD_twoPow, BitVec.getLsbD_allOnes]
  by_cases e : i = k
  · subst e; simp [hi]
  · simp [e, Ne.symm e, hi]
theorem bt_xor {x y : Int64} {i : Nat} : bt (x ^^^ y) i = (bt x i ^^ bt y i) := by
  unfold bt
  rw [Int64.toBitVec_xor, BitVec.getLsbD_xor]
theorem bt_zero (i : Nat) : bt 0 i = false := by
  unfold bt
  show (0#64).getLsbD i = false
  simp
theorem bt_ext {x y : Int64} (h : ∀ i, i < 64 → bt x i = bt y i) : x = y := by
  apply Int64.toBitVec_inj.mp
  apply BitVec.eq_of_getLsbD_eq
  intro i hi
  exact h i hi
/-! rows -/
def RowsOk (K : Nat → Nat × Nat) (F : Nat → Nat → Option Nat) (r : Nat) : Prop := r < 148 ∧ K r = (0, 3) ∧ F r 1 = some (r + 1) ∧ r + 1 < 148 ∧ K (r + 1) = (2, 64)
/-- the Rows at r hold ρ -/
def RA (J : Nat → Nat → Int64) (r : Nat) (ρ : Nat → Option Int64) : Prop := (∀ k, k < 64 → bt (J r 0) k = (ρ k).isSome) ∧ ∀ k, k < 64 → J (r + 1) k = (ρ k).getD 0
/-- nothing but the Rows at r moved -/
def FrR (J J' : Nat → Nat → Int64) (r : Nat) : Prop := ∀ q, q ≠ r → q ≠ r + 1 → J' q = J q
theorem xu_ap {α : Type} (f : Nat → Nat → α) (k j : Nat) (v : α) (a b : Nat) : xu f k j v a b = if a = k ∧ b = j then v else f a b := by
  unfold xu va_up
  by_cases h : a = k
  · subst h
    by_cases h2 : b = j <;> simp [h2]
  · simp [h]
theorem xu_rw {α : Type} {f : Nat → Nat → α} {k j : Nat} {v : α} {a : Nat} (h : a ≠ k) : xu f k j v a = f a := va_up_ne _ _ h
theorem xinb_nI {k n : Nat} (h : k < n) (hn : n < 2 ^ 31) : xinb (nI k) n := vp_in_nI h hn
theorem cl_nI {k : Nat} (h : k < 2 ^ 31) : (nI k).toNatClampNeg = k := nI_clamp h
theorem m_holds {K : Nat → Nat × Nat} {F : Nat → Nat → Option Nat} {I : Nat → Nat → Int32} {J : Nat → Nat → Int64} {r : Nat} {ρ : Nat → Option Int64} (hr : RowsOk K F r) (hA : RA J r ρ) {k : Nat} (hk : k < 64) : m3_holds 148 K F I J r (nI k) = some (if (ρ k).isSome then 1 else 0) := by
  unfold m3_holds
  rw [if_pos ⟨hr.1, hr.2.1⟩]
  have h := hA.1 k hk
  by_cases e : bt (J r 0) k = false
  · rw [if_pos ((bt_test hk).mpr e)]
    rw [e] at h
    simp [← h]
  · rw [if_neg (fun q => e ((bt_test hk).mp q))]
    have e : bt (J r 0) k = true := by simpa using e
    rw [e] at h
    simp [← h]
/-- ρ with a row more or other -/
def rset (ρ : Nat → Option Int64) (k : Nat) (v : Option Int64) : Nat → Option Int64 := fun j => if j = k then v else ρ j
theorem m_set {K : Nat → Nat × Nat} {F : Nat → Nat → Option Nat} {I : Nat → Nat → Int32} {J : Nat → Nat → Int64} {r : Nat} {ρ : Nat → Option Int64} (hr : RowsOk K F r) (hA : RA J r ρ) {k : Nat} (hk : k < 64) (v : Int64) : ∃ J', m3_set 148 K F I J r (nI k) v = some J' ∧ RA J' r (rset ρ k (some v)) ∧ FrR J J' r := by
  have hcl : (nI k).toNatClampNeg = k := nI_clamp (by omega)
  refine ⟨xu (xu J r 0 ((J r 0) ||| ((1 : Int64) <<< ((nI k).toInt64 &&& 63)))) (r + 1) k v, ?_, ⟨fun i hi => ?_, fun i hi => ?_⟩, fun q h1 h2 => ?_⟩
  · unfold m3_set
    rw [if_pos ⟨hr.1, hr.2.1⟩]
    simp only [xlet, xb, hr.2.2.1, Option.bind_some]
    rw [if_pos ⟨hr.2.2.2.1, by rw [hr.2.2.2.2], by rw [hr.2.2.2.2]; exact xinb_nI hk (by decide)⟩, hcl]
  · rw [xu_ap, if_neg (by omega), xu_ap, if_pos ⟨rfl, rfl⟩, bt_or hk hi, hA.1 i hi]
    unfold rset
    by_cases e : i = k
    · simp [e]
    · simp [e]
  · rw [xu_ap]
    unfold rset
    by_cases e : i = k
    · rw [if_pos ⟨rfl, e⟩, if_pos e]; rfl
    · rw [if_neg (fun q => e q.2), if_neg e, xu_rw (by omega), hA.2 i hi]
  · rw [xu_rw h2, xu_rw h1]
theorem m_write {K : Nat → Nat × Nat} {F : Nat → Nat → Option Nat} {I : Nat → Nat → Int32} {J : Nat → Nat → Int64} {r : Nat} {ρ : Nat → Option Int64} (hr : RowsOk K F r) (hA : RA J r ρ) {k : Nat} (hk : k < 64) (b : Bool) (v : Int64) : ∃ J', m3_write 148 K F I J r (nI k) (if b then 1 else 0) v = some J' ∧ RA J' r (rset ρ k (if b then some v else none)) ∧ FrR J J' r := by
  have hcl : (nI k).toNatClampNeg = k := nI_clamp (by omega)
  cases b with
  | true =>
    obtain ⟨J', h1, h2, h3⟩ := m_set (I := I) hr hA hk v
    refine ⟨J', ?_, h2, h3⟩
    unfold m3_write
    rw [if_neg (by decide), if_pos ⟨hr.1, hr.2.1⟩, h1]
    rfl
  | false =>
    refine ⟨xu (xu J r 0 ((J r 0) &&& (((1 : Int64) <<< ((nI k).toInt64 &&& 63)) ^^^ ((-1) : Int64)))) (r + 1) k 0, ?_, ⟨fun i hi => ?_, fun i hi => ?_⟩, fun q h1 h2 => ?_⟩
    · unfold m3_write
      rw [if_pos (by decide), if_pos ⟨hr.1, hr.2.1⟩]
      simp only [xlet, xb, hr.2.2.1, Option.bind_some]
      rw [if_pos ⟨hr.2.2.2.1, by rw [hr.2.2.2.2], by rw [hr.2.2.2.2]; exact xinb_nI hk (by decide)⟩, hcl]
    · rw [xu_ap, if_neg (by omega), xu_ap, if_pos ⟨rfl, rfl⟩, bt_clear hk hi, hA.1 i hi]
      unfold rset
      by_cases e : i = k
      · simp [e]
      · simp [e]
    · rw [xu_ap]
      unfold rset
      by_cases e : i = k
      · rw [if_pos ⟨rfl, e⟩, if_pos e]; rfl
      · rw [if_neg (fun q => e q.2), if_neg e, xu_rw (by omega), hA.2 i hi]
    · rw [xu_rw h2, xu_rw h1]
/-! Arrays.fill of a long[n] with 0 .. with v -/
theorem m_fillL {K : Nat → Nat × Nat} {F : Nat → Nat → Option Nat} {I : Nat → Nat → Int32} {q n : Nat} {v : Int64} (hq : q < 148) (hK : K q = (2, n)) (hn : n < 2 ^ 31) : ∀ (f i : Nat) (J : Nat → Nat → Int64), i ≤ n → n - i < f → ∃ J', mA_fill_L6 148 K F I f J q v (nI i) (nI n) = some J' ∧ (∀ a, a ≠ q → J' a = J a) ∧ (∀ j, j < i → J' q j = J q j) ∧ ∀ j, i ≤ j → j < n → J' q j = v
  | 0, i, J, h1, h2 => absurd h2 (by omega)
  | f + 1, i, J, h1, h2 => by
    rw [mA_fill_L6]
    by_cases e : i = n
    · subst e
      exact ⟨J, by rw [if_pos (nI_le (Nat.le_refl i) (by omega))], fun _ _ => rfl, fun _ _ => rfl, fun j a b => by omega⟩
    · have hlt : i < n := by omega
      rw [if_neg (nI_ge hlt hn), if_pos ⟨hq, by rw [hK], by rw [hK]; exact xinb_nI hlt hn⟩]
      simp only [xlet]
      rw [cl_nI (by omega), show nI i + (1 : Int32) = nI (i + 1) from nI_1 i]
      obtain ⟨J', e1, e2, e3, e4⟩ := m_fillL (v := v) hq hK hn f (i + 1) (xu J q i v) (by omega) (by omega)
      refine ⟨J', e1, fun a ha => by rw [e2 a ha, xu_rw ha], fun j hj => ?_, fun j a b => ?_⟩
      · rw [e3 j (by omega), xu_ap, if_neg (by omega)]
      · by_cases ej : j = i
        · subst ej
          rw [e3 j (by omega), xu_ap, if_pos ⟨rfl, rfl⟩]
        · exact e4 j (by omega) b
theorem m_reset {K : Nat → Nat × Nat} {F : Nat → Nat → Option Nat} {I : Nat → Nat → Int32} {J : Nat → Nat → Int64} {r : Nat} (hr : RowsOk K F r) : ∃ J', m3_reset 148 K F I J r = some J' ∧ RA J' r (fun _ => none) ∧ FrR J J' r := by
  obtain ⟨J', e1, e2, e3, e4⟩ := m_fillL (K := K) (F := F) (I := I) (v := 0) hr.2.2.2.1 hr.2.2.2.2 (by decide) xFu 0 (xu J r 0 0) (by omega) (by unfold xFu; omega)
  refine ⟨J', ?_, ⟨fun k hk => ?_, fun k hk => ?_⟩, fun q h1 h2 => ?_⟩
  · unfold m3_reset
    rw [if_pos ⟨hr.1, hr.2.1⟩]
    simp only [xlet, xb, hr.2.2.1, Option.bind_some, mA_fill]
    rw [if_pos ⟨hr.2.2.2.1, by rw [hr.2.2.2.2]⟩, hr.2.2.2.2]
    have e1' : mA_fill_L6 148 K F I xFu (xu J r 0 0) (r + 1) 0 0 (nI 64) = some J' := e1
    rw [e1']
    rfl
  · rw [e2 r (by omega), xu_ap, if_pos ⟨rfl, rfl⟩, bt_zero]
    rfl
  · rw [e4 k (by omega) hk]
    rfl
  · rw [e2 q h2, xu_rw h1]
theorem m_become {K : Nat → Nat × Nat} {F : Nat → Nat → Option Nat} {I : Nat → Nat → Int32} {J : Nat → Nat → Int64} {r o : Nat} {ρ : Nat → Option Int64} (hr : RowsOk K F r) (ho : RowsOk K F o) (hd : o + 1 ≠ r) (hA : RA J o ρ) : ∃ J', m3_become 148 K F I J r o = some J' ∧ RA J' r ρ ∧ FrR J J' r := by
  refine ⟨va_up (xu J r 0 (J o 0)) (r + 1) (va_cpy ((xu J r 0 (J o 0)) (o + 1)) ((xu J r 0 (J o 0)) (r + 1)) 0 0 64), ?_, ⟨fun k hk => ?_, fun k hk => ?_⟩, fun q h1 h2 => ?_⟩
  · unfold m3_become
    rw [if_pos ⟨ho.1, ho.2.1⟩, if_pos ⟨hr.1, hr.2.1⟩]
    simp only [xlet, xb, hr.2.2.1, ho.2.2.1, Option.bind_some]
    rw [if_pos ⟨ho.2.2.2.1, by rw [ho.2.2.2.2], hr.2.2.2.1, by rw [hr.2.2.2.2], by decide, by decide, by decide, by rw [ho.2.2.2.2]; decide, by rw [hr.2.2.2.2]; decide⟩]
    rfl
  · rw [va_up_ne _ _ (by omega), xu_ap, if_pos ⟨rfl, rfl⟩]
    exact hA.1 k hk
  · rw [va_up_self, pk_cpy_in (by omega) (by omega), xu_rw (by omega)]
    have := hA.2 k hk
    simpa using this
  · rw [va_up_ne _ _ h2, xu_rw h1]
