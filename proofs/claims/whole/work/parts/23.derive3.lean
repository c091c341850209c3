/-- the rows of a table of a sort, with two numbers, over its two tables -/
def dTab (sort : Nat) (p1 p2 : Int64) (ρ ρ' : Nat → Option Int64) : Nat → Option Int64 :=
  if sort = 1 then dFilter p1 p2 ρ
  else if sort = 2 then dMap p1 p2 ρ
  else if sort = 3 then dFold (nB p1) (nB p2) ρ 64
  else if sort = 4 then dJoin p1 ρ ρ'
  else if sort = 5 then dMerge ρ ρ'
  else if sort = 6 then dBest (nB p1) ρ
  else if sort = 7 then dLook ρ ρ'
  else fun _ => none
/-- a sort's numbers are in their bounds -/
def pOk (sort : Nat) (p1 p2 : Int64) : Prop := sort ≤ 7 ∧ (sort = 3 → (∃ kd, kd ≤ 4 ∧ p1 = lN kd) ∧ ∃ g, 0 < g ∧ g ≤ 64 ∧ p2 = lN g) ∧ (sort = 6 → ∃ n, n ≤ 64 ∧ p1 = lN n)
theorem nB_lN {n : Nat} (h : n < 2 ^ 31) : nB (lN n) = n := by
  show (BitVec.ofNat 64 n).toNat = n
  rw [BitVec.toNat_ofNat]
  exact Nat.mod_eq_of_lt (by omega)
theorem FrT.self {J : Nat → Nat → Int64} {T : Nat} : FrT J J T := fun _ _ _ => rfl
theorem FrT.mk2 {J J' : Nat → Nat → Int64} {T : Nat} (h : FrR J J' (T + 3)) : FrT J J' T := fun q a b => h q a b
theorem FrT.trans {J J1 J2 : Nat → Nat → Int64} {T : Nat} (h : FrT J J1 T) (h' : FrT J1 J2 T) : FrT J J2 T := fun q a b => by rw [h' q a b, h q a b]
section
variable {K : Nat → Nat × Nat} {F : Nat → Nat → Option Nat} {I : Nat → Nat → Int32} {J : Nat → Nat → Int64} {T r o : Nat} {ρ ρ' : Nat → Option Int64}
theorem m_derive (hT : TabOk K F T) (hr : RowsOk K F r) (ho : RowsOk K F o) (ha : Apart r T) (hao : Apart o T) (hA : RA J r ρ) (hB : RA J o ρ') {sort : Nat} (hs : I T 0 = nI sort) (hp : pOk sort (J T 3) (J T 4)) : ∃ I' J', m4_derive 148 K F I J T r o = some (I', J') ∧ (∀ a, a ≠ T + 7 → I' a = I a) ∧ FrT J J' T ∧ RA J' (T + 3) (dTab sort (J T 3) (J T 4) ρ ρ') := by
  obtain ⟨t1, t2, t5, t6, t7, t8, t9, t10, r1, r3, r5⟩ := id hT
  obtain ⟨J1, e1, e2, e3⟩ := m_reset (I := I) (J := J) r3
  have hF := FrT.mk2 e3
  have hAJ := hF.ra ha hA
  have hBJ := hF.ra hao hB
  have hTJ : J1 T = J T := hF T (by omega) (by omega)
  have h0 : ∀ σ : Nat → Option Int64, RA J1 (T + 3) (pre 0 σ) := fun σ => by rw [pre_0]; exact e2
  unfold m4_derive
  rw [if_pos ⟨t1, t2⟩]
  simp only [xb, t6, Option.bind_some]
  rw [if_pos ⟨r3.1, r3.2.1⟩, e1]
  simp only [Option.bind_some]
  obtain ⟨h7, hp3, hp6⟩ := hp
  have f64 : 64 - 0 < xFu := by unfold xFu; omega
  match sort, h7, hs, hp3, hp6 with
  | 0, _, hs, _, _ =>
    simp only [hs]
    rw [if_neg (by decide), if_neg (by decide), if_neg (by decide), if_neg (by decide), if_neg (by decide), if_neg (by decide), if_neg (by decide)]
    exact ⟨I, J1, rfl, fun _ _ => rfl, hF, e2⟩
  | 1, _, hs, _, _ =>
    obtain ⟨J', g1, g2, g3⟩ := m_filterL (I := I) hT hr ha hAJ xFu 0 J1 (by omega) f64 FrT.self (h0 _)
    simp only [hs]
    rw [if_pos (by decide)]
    unfold m4_deriveFilter
    have g1 : m4_deriveFilter_L2 148 K F I xFu J1 T r 0 = some J' := g1
    rw [g1, ← hTJ]
    exact ⟨I, J', rfl, fun _ _ => rfl, hF.trans g2, g3⟩
  | 2, _, hs, _, _ =>
    obtain ⟨J', g1, g2, g3⟩ := m_mapL (I := I) hT hr ha hAJ xFu 0 J1 (by omega) f64 FrT.self (h0 _)
    simp only [hs]
    rw [if_neg (by decide), if_pos (by decide)]
    unfold m4_deriveMap
    have g1 : m4_deriveMap_L2 148 K F I xFu J1 T r 0 = some J' := g1
    rw [g1, ← hTJ]
    exact ⟨I, J', rfl, fun _ _ => rfl, hF.trans g2, g3⟩
  | 3, _, hs, hp3, _ =>
    obtain ⟨⟨kd, k4, ek⟩, g, g0, g64, eg⟩ := hp3 rfl
    obtain ⟨J', g1, g2, g3⟩ := m_foldL (I := I) hT hr ha hAJ (by rw [hTJ]; exact ek) k4 g0 g64 (by rw [hTJ]; exact eg) xFu 0 J1 (by omega) f64 FrT.self (RA_congr e2 (fun k _ => by rw [dFold]))
    simp only [hs]
    rw [if_neg (by decide), if_neg (by decide), if_pos (by decide)]
    unfold m4_deriveFold
    have g1 : m4_deriveFold_L4 148 K F I xFu J1 T r 0 0 = some J' := by rw [Nat.zero_mod] at g1; exact g1
    rw [g1]
    refine ⟨I, J', rfl, fun _ _ => rfl, hF.trans g2, ?_⟩
    show RA J' (T + 3) (dFold (nB (J T 3)) (nB (J T 4)) ρ 64)
    rw [ek, eg, nB_lN (by omega), nB_lN (by omega)]
    exact g3
  | 4, _, hs, _, _ =>
    obtain ⟨J', g1, g2, g3⟩ := m_joinL (I := I) hT hr ho ha hao hAJ hBJ xFu 0 J1 (by omega) f64 FrT.self (h0 _)
    simp only [hs]
    rw [if_neg (by decide), if_neg (by decide), if_neg (by decide), if_pos (by decide)]
    unfold m4_deriveJoin
    have g1 : m4_deriveJoin_L2 148 K F I xFu J1 T r o 0 = some J' := g1
    rw [g1, ← hTJ]
    exact ⟨I, J', rfl, fun _ _ => rfl, hF.trans g2, g3⟩
  | 5, _, hs, _, _ =>
    obtain ⟨J', g1, g2, g3⟩ := m_mergeL (I := I) hT hr ho ha hao hAJ hBJ xFu 0 J1 (by omega) f64 FrT.self (h0 _)
    simp only [hs]
    rw [if_neg (by decide), if_neg (by decide), if_neg (by decide), if_neg (by decide), if_pos (by decide)]
    unfold m4_deriveMerge
    have g1 : m4_deriveMerge_L2 148 K F I xFu J1 T r o 0 = some J' := g1
    rw [g1]
    exact ⟨I, J', rfl, fun _ _ => rfl, hF.trans g2, g3⟩
  | 6, _, hs, _, hp6 =>
    obtain ⟨n, n64, en⟩ := hp6 rfl
    obtain ⟨I', J', g1, g2, g3, g4⟩ := m_bestL4 hT hr ha hAJ n64 (by rw [hTJ]; exact en) (I0 := I) FrT.self e2 xFu 0 0 (fun _ => 0) I (by omega) f64 (by omega) (fun _ _ => rfl) (fun p hp => by omega) ⟨fun p hp => by omega, fun p q _ hq => by omega, fun k hk => by omega⟩
    simp only [hs]
    rw [if_neg (by decide), if_neg (by decide), if_neg (by decide), if_neg (by decide), if_neg (by decide), if_pos (by decide)]
    unfold m4_deriveBest
    have g1 : m4_deriveBest_L4 148 K F xFu I J1 T r 0 0 = some (I', J') := g1
    rw [g1]
    refine ⟨I', J', rfl, g2, hF.trans g3, ?_⟩
    show RA J' (T + 3) (dBest (nB (J T 3)) ρ)
    rw [en, nB_lN (by omega)]
    exact g4
  | 7, _, hs, _, _ =>
    obtain ⟨J', g1, g2, g3⟩ := m_lookL (I := I) hT hr ho ha hao hAJ hBJ xFu 0 J1 (by omega) f64 FrT.self (h0 _)
    simp only [hs]
    rw [if_neg (by decide), if_neg (by decide), if_neg (by decide), if_neg (by decide), if_neg (by decide), if_neg (by decide), if_pos (by decide)]
    unfold m4_deriveLook
    have g1 : m4_deriveLook_L2 148 K F I xFu J1 T r o 0 = some J' := g1
    rw [g1]
    exact ⟨I, J', rfl, fun _ _ => rfl, hF.trans g2, g3⟩
end
