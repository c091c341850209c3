section
variable {K : Nat → Nat × Nat} {F : Nat → Nat → Option Nat} {I : Nat → Nat → Int32} {J0 : Nat → Nat → Int64} {T r o : Nat} {ρ ρ' : Nat → Option Int64}
theorem m_joinB (hT : TabOk K F T) (hr : RowsOk K F r) (ho : RowsOk K F o) {J : Nat → Nat → Int64} (hA : RA J r ρ) (hB : RA J o ρ') {i : Nat} (hlt : i < 64) {σ : Nat → Option Int64} (hN : RA J (T + 3) (pre i σ)) {v w : Int64} (ev : ρ i = some v) (hw : J (o + 1) i = w) (hs : σ i = some (v + w)) (k2 : (Nat → Nat → Int64) → Nat → Nat → Nat → Int32 → Option (Nat → Nat → Int64)) : ∃ J', m4_deriveJoin_B33 148 K F I k2 J T r o (nI i) = k2 J' T r o (nI (i + 1)) ∧ RA J' (T + 3) (pre (i + 1) σ) ∧ FrR J J' (T + 3) := by
  obtain ⟨t1, t2, t5, t6, t7, t8, t9, t10, r1, r3, r5⟩ := id hT
  have hb : xinb (nI i) 64 := xinb_nI hlt (by decide)
  obtain ⟨J', s1, s2, s3⟩ := m_set (I := I) r3 hN hlt (v + w)
  refine ⟨J', ?_, by rw [← pre_some hs]; exact s2, s3⟩
  unfold m4_deriveJoin_B33
  rw [if_pos ⟨t1, t2⟩]
  simp only [xlet, xb, hr.2.2.1, ho.2.2.1, t6, Option.bind_some]
  rw [if_pos ⟨hr.1, hr.2.1⟩, if_pos ⟨hr.2.2.2.1, by rw [hr.2.2.2.2], by rw [hr.2.2.2.2]; exact hb⟩, if_pos ⟨ho.1, ho.2.1⟩, if_pos ⟨ho.2.2.2.1, by rw [ho.2.2.2.2], by rw [ho.2.2.2.2]; exact hb⟩, if_pos ⟨r3.1, r3.2.1⟩, cl_nI (by omega), RA_val hA hlt ev, hw, s1, show nI i + (1 : Int32) = nI (i + 1) from nI_1 i]
  rfl
theorem m_joinL (hT : TabOk K F T) (hr : RowsOk K F r) (ho : RowsOk K F o) (ha : Apart r T) (hao : Apart o T) (hA : RA J0 r ρ) (hB : RA J0 o ρ') : ∀ (f i : Nat) (J : Nat → Nat → Int64), i ≤ 64 → 64 - i < f → FrT J0 J T → RA J (T + 3) (pre i (dJoin (J0 T 3) ρ ρ')) → ∃ J', m4_deriveJoin_L2 148 K F I f J T r o (nI i) = some J' ∧ FrT J0 J' T ∧ RA J' (T + 3) (dJoin (J0 T 3) ρ ρ')
  | 0, i, J, h1, h2, _, _ => absurd h2 (by omega)
  | f + 1, i, J, h1, h2, hF, hN => by
    obtain ⟨t1, t2, t5, t6, t7, t8, t9, t10, r1, r3, r5⟩ := id hT
    rw [m4_deriveJoin_L2]
    by_cases e : i = 64
    · subst e
      exact ⟨J, by rw [if_pos (by decide)], hF, RA_64 hN⟩
    · have hlt : i < 64 := by omega
      have hAJ := hF.ra ha hA
      have hBJ := hF.ra hao hB
      have hTJ : J T = J0 T := hF T (by omega) (by omega)
      rw [if_neg (n64 hlt), if_pos ⟨hr.1, hr.2.1⟩]
      simp only [xlet, xb]
      rw [show nI i + (1 : Int32) = nI (i + 1) from nI_1 i]
      cases ev : ρ i with
      | none =>
        rw [m_holds0 hr hAJ hlt ev]
        simp only [Option.bind_some]
        rw [if_pos trivial]
        exact m_joinL hT hr ho ha hao hA hB f (i + 1) J (by omega) (by omega) hF (by rw [pre_none (by simp [dJoin, ev])]; exact hN)
      | some v =>
        rw [m_holds1 hr hAJ hlt ev]
        simp only [Option.bind_some]
        rw [if_neg (by decide), if_pos ⟨ho.1, ho.2.1⟩]
        cases ew : ρ' i with
        | none =>
          rw [m_holds0 ho hBJ hlt ew]
          simp only [Option.bind_some]
          rw [if_neg (by simp), if_pos ⟨t1, t2⟩, hTJ]
          by_cases c1 : J0 T 3 = 1
          · rw [if_neg (x_nn c1)]
            obtain ⟨J', s1, s2, s3⟩ := m_joinB (I := I) hT hr ho hAJ hBJ hlt (σ := dJoin (J0 T 3) ρ ρ') hN ev (RA_val0 hBJ hlt ew) (by simp [dJoin, ev, ew, c1]) (m4_deriveJoin_L2 148 K F I f)
            rw [s1]
            exact m_joinL hT hr ho ha hao hA hB f (i + 1) J' (by omega) (by omega) (hF.then s3) s2
          · rw [if_pos c1]
            exact m_joinL hT hr ho ha hao hA hB f (i + 1) J (by omega) (by omega) hF (by rw [pre_none (by simp [dJoin, ev, ew, c1])]; exact hN)
        | some w =>
          rw [m_holds1 ho hBJ hlt ew]
          simp only [Option.bind_some]
          rw [if_pos (by decide)]
          obtain ⟨J', s1, s2, s3⟩ := m_joinB (I := I) hT hr ho hAJ hBJ hlt (σ := dJoin (J0 T 3) ρ ρ') hN ev (RA_val hBJ hlt ew) (by simp [dJoin, ev, ew]) (m4_deriveJoin_L2 148 K F I f)
          rw [s1]
          exact m_joinL hT hr ho ha hao hA hB f (i + 1) J' (by omega) (by omega) (hF.then s3) s2
theorem m_mergeL (hT : TabOk K F T) (hr : RowsOk K F r) (ho : RowsOk K F o) (ha : Apart r T) (hao : Apart o T) (hA : RA J0 r ρ) (hB : RA J0 o ρ') : ∀ (f i : Nat) (J : Nat → Nat → Int64), i ≤ 64 → 64 - i < f → FrT J0 J T → RA J (T + 3) (pre i (dMerge ρ ρ')) → ∃ J', m4_deriveMerge_L2 148 K F I f J T r o (nI i) = some J' ∧ FrT J0 J' T ∧ RA J' (T + 3) (dMerge ρ ρ')
  | 0, i, J, h1, h2, _, _ => absurd h2 (by omega)
  | f + 1, i, J, h1, h2, hF, hN => by
    obtain ⟨t1, t2, t5, t6, t7, t8, t9, t10, r1, r3, r5⟩ := id hT
    rw [m4_deriveMerge_L2]
    by_cases e : i = 64
    · subst e
      exact ⟨J, by rw [if_pos (by decide)], hF, RA_64 hN⟩
    · have hlt : i < 64 := by omega
      have hb : xinb (nI i) 64 := xinb_nI hlt (by decide)
      have hAJ := hF.ra ha hA
      have hBJ := hF.ra hao hB
      rw [if_neg (n64 hlt), if_pos ⟨hr.1, hr.2.1⟩]
      simp only [xlet, xb, hr.2.2.1, ho.2.2.1, t6, Option.bind_some]
      rw [show nI i + (1 : Int32) = nI (i + 1) from nI_1 i]
      cases ev : ρ i with
      | none =>
        rw [m_holds0 hr hAJ hlt ev]
        simp only [Option.bind_some]
        rw [if_pos trivial, if_pos ⟨ho.1, ho.2.1⟩]
        cases ew : ρ' i with
        | none =>
          rw [m_holds0 ho hBJ hlt ew]
          simp only [Option.bind_some]
          rw [if_pos trivial]
          exact m_mergeL hT hr ho ha hao hA hB f (i + 1) J (by omega) (by omega) hF (by rw [pre_none (by simp [dMerge, ev, ew])]; exact hN)
        | some w =>
          rw [m_holds1 ho hBJ hlt ew]
          simp only [Option.bind_some]
          rw [if_neg (by decide), if_pos ⟨t1, t2⟩, if_pos ⟨ho.2.2.2.1, by rw [ho.2.2.2.2], by rw [ho.2.2.2.2]; exact hb⟩, if_pos ⟨r3.1, r3.2.1⟩, cl_nI (by omega), RA_val hBJ hlt ew]
          obtain ⟨J', s1, s2, s3⟩ := m_set (I := I) r3 hN hlt w
          rw [s1]
          simp only [Option.bind_some]
          exact m_mergeL hT hr ho ha hao hA hB f (i + 1) J' (by omega) (by omega) (hF.then s3) (by rw [← pre_some (show dMerge ρ ρ' i = some w by simp [dMerge, ev, ew])]; exact s2)
      | some v =>
        rw [m_holds1 hr hAJ hlt ev]
        simp only [Option.bind_some]
        rw [if_neg (by decide), if_pos ⟨t1, t2⟩, if_pos ⟨hr.2.2.2.1, by rw [hr.2.2.2.2], by rw [hr.2.2.2.2]; exact hb⟩, if_pos ⟨r3.1, r3.2.1⟩, cl_nI (by omega), RA_val hAJ hlt ev]
        obtain ⟨J', s1, s2, s3⟩ := m_set (I := I) r3 hN hlt v
        rw [s1]
        simp only [Option.bind_some]
        exact m_mergeL hT hr ho ha hao hA hB f (i + 1) J' (by omega) (by omega) (hF.then s3) (by rw [← pre_some (show dMerge ρ ρ' i = some v by simp [dMerge, ev])]; exact s2)
theorem look_ix (v : Int64) : ((v &&& (63 : Int64)).toInt32) = nI (nB v % 64) := by
  have h1 : nB (v &&& (63 : Int64)) = nB v % 64 := by
    rw [nB_and, show nB (63 : Int64) = 2 ^ 6 - 1 by decide +kernel, Nat.and_two_pow_sub_one_eq_mod]
  apply Int32.toBitVec_inj.mp
  apply BitVec.eq_of_toNat_eq
  rw [Int64.toBitVec_toInt32, BitVec.signExtend_eq_setWidth_of_le _ (by decide), BitVec.toNat_setWidth]
  show nB (v &&& 63) % 2 ^ 32 = (BitVec.ofNat 32 (nB v % 64)).toNat
  rw [h1, BitVec.toNat_ofNat]
theorem m_lookL (hT : TabOk K F T) (hr : RowsOk K F r) (ho : RowsOk K F o) (ha : Apart r T) (hao : Apart o T) (hA : RA J0 r ρ) (hB : RA J0 o ρ') : ∀ (f i : Nat) (J : Nat → Nat → Int64), i ≤ 64 → 64 - i < f → FrT J0 J T → RA J (T + 3) (pre i (dLook ρ ρ')) → ∃ J', m4_deriveLook_L2 148 K F I f J T r o (nI i) = some J' ∧ FrT J0 J' T ∧ RA J' (T + 3) (dLook ρ ρ')
  | 0, i, J, h1, h2, _, _ => absurd h2 (by omega)
  | f + 1, i, J, h1, h2, hF, hN => by
    obtain ⟨t1, t2, t5, t6, t7, t8, t9, t10, r1, r3, r5⟩ := id hT
    rw [m4_deriveLook_L2]
    by_cases e : i = 64
    · subst e
      exact ⟨J, by rw [if_pos (by decide)], hF, RA_64 hN⟩
    · have hlt : i < 64 := by omega
      have hb : xinb (nI i) 64 := xinb_nI hlt (by decide)
      have hAJ := hF.ra ha hA
      have hBJ := hF.ra hao hB
      rw [if_neg (n64 hlt), if_pos ⟨hr.1, hr.2.1⟩]
      simp only [xlet, xb, hr.2.2.1, ho.2.2.1, t6, Option.bind_some]
      rw [if_pos ⟨hr.2.2.2.1, by rw [hr.2.2.2.2], by rw [hr.2.2.2.2]; exact hb⟩, show nI i + (1 : Int32) = nI (i + 1) from nI_1 i, cl_nI (by omega), look_ix]
      cases ev : ρ i with
      | none =>
        rw [m_holds0 hr hAJ hlt ev]
        simp only [Option.bind_some]
        rw [if_pos trivial]
        exact m_lookL hT hr ho ha hao hA hB f (i + 1) J (by omega) (by omega) hF (by rw [pre_none (by simp [dLook, ev])]; exact hN)
      | some v =>
        have hx : nB v % 64 < 64 := Nat.mod_lt _ (by decide)
        rw [m_holds1 hr hAJ hlt ev, RA_val hAJ hlt ev]
        simp only [Option.bind_some]
        rw [if_neg (by decide), if_pos ⟨ho.1, ho.2.1⟩]
        cases ew : ρ' (nB v % 64) with
        | none =>
          rw [m_holds0 ho hBJ hx ew]
          simp only [Option.bind_some]
          rw [if_pos trivial]
          exact m_lookL hT hr ho ha hao hA hB f (i + 1) J (by omega) (by omega) hF (by rw [pre_none (by simp [dLook, ev, ew])]; exact hN)
        | some w =>
          rw [m_holds1 ho hBJ hx ew]
          simp only [Option.bind_some]
          rw [if_neg (by decide), if_pos ⟨t1, t2⟩, if_pos ⟨ho.2.2.2.1, by rw [ho.2.2.2.2], by rw [ho.2.2.2.2]; exact xinb_nI hx (by decide)⟩, if_pos ⟨r3.1, r3.2.1⟩, cl_nI (by omega), RA_val hBJ hx ew]
          obtain ⟨J', s1, s2, s3⟩ := m_set (I := I) r3 hN hlt w
          rw [s1]
          simp only [Option.bind_some]
          exact m_lookL hT hr ho ha hao hA hB f (i + 1) J' (by omega) (by omega) (hF.then s3) (by rw [← pre_some (show dLook ρ ρ' i = some w by simp [dLook, ev, ew])]; exact s2)
end
