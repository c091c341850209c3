def selP (o : Nat → Nat) (ρ : Nat → Option Int64) : Nat → Nat → Option Int64
  | 0 => fun _ => none
  | p + 1 => rset (selP o ρ p) (o p) (ρ (o p))
theorem selP_in {o : Nat → Nat} {ρ : Nat → Option Int64} {k : Nat} : ∀ p, (∃ q, q < p ∧ o q = k) → selP o ρ p k = ρ k
  | 0, h => by obtain ⟨q, hq, -⟩ := h; omega
  | p + 1, h => by
    rw [selP, rset]
    by_cases e : k = o p
    · rw [if_pos e, e]
    · rw [if_neg e]
      obtain ⟨q, hq, eq⟩ := h
      exact selP_in p ⟨q, by have : q ≠ p := fun z => e (by rw [← eq, z]); omega, eq⟩
theorem selP_out {o : Nat → Nat} {ρ : Nat → Option Int64} {k : Nat} : ∀ p, (∀ q, q < p → o q ≠ k) → selP o ρ p k = none
  | 0, _ => rfl
  | p + 1, h => by
    rw [selP, rset, if_neg (Ne.symm (h p (by omega)))]
    exact selP_out p (fun q hq => h q (by omega))
theorem sel_best {o : Nat → Nat} {ρ : Nat → Option Int64} {s n : Nat} (hO : Ord ρ 64 s o) {k : Nat} (hk : k < 64) : selP o ρ (min s n) k = dBest n ρ k := by
  unfold dBest
  cases e : ρ k with
  | none =>
    by_cases h : ∃ q, q < min s n ∧ o q = k
    · rw [selP_in _ h, e]
    · exact selP_out _ (fun q hq z => h ⟨q, hq, z⟩)
  | some v =>
    obtain ⟨p, hp, ep⟩ := hO.2.2 k hk (by rw [e]; rfl)
    have hpl := hO.place hp (v := v) (by rw [ep]; exact e)
    rw [ep] at hpl
    simp only [hpl]
    by_cases c : p < n
    · rw [if_pos c, selP_in _ ⟨p, by omega, ep⟩, e]
    · rw [if_neg c]
      refine selP_out _ (fun q hq z => ?_)
      have := hO.inj (show q < s by omega) hp (by rw [z, ep])
      omega
section
variable {K : Nat → Nat × Nat} {F : Nat → Nat → Option Nat} {J0 : Nat → Nat → Int64} {T r : Nat} {ρ : Nat → Option Int64}
theorem m_bestL39 (hT : TabOk K F T) (hr : RowsOk K F r) (ha : Apart r T) (hA : RA J0 r ρ) {s n : Nat} {o : Nat → Nat} (hs : s ≤ 64) (hn : n ≤ 64) (hJ : J0 T 3 = lN n) (hO : Ord ρ 64 s o) {I : Nat → Nat → Int32} (hI : ∀ p, p < s → I (T + 7) p = nI (o p)) : ∀ (f p : Nat) (J : Nat → Nat → Int64), p ≤ s → p ≤ n → s - p < f → FrT J0 J T → RA J (T + 3) (selP o ρ p) → ∃ J', m4_deriveBest_L39 148 K F f I J T r (nI s) (nI p) = some (I, J') ∧ FrT J0 J' T ∧ RA J' (T + 3) (dBest n ρ)
  | 0, p, J, h1, h2, h3, _, _ => absurd h3 (by omega)
  | f + 1, p, J, h1, h2, h3, hF, hN => by
    obtain ⟨t1, t2, t5, t6, t7, t8, t9, t10, r1, r3, r5⟩ := id hT
    rw [m4_deriveBest_L39]
    by_cases e : p = s
    · rw [if_pos (nI_le (by omega) (by omega))]
      refine ⟨J, rfl, hF, RA_congr hN (fun k hk => ?_)⟩
      rw [← sel_best (n := n) hO hk, show min s n = p by omega]
    · have hlt : p < s := by omega
      have hTJ : J T = J0 T := hF T (by omega) (by omega)
      rw [if_neg (nI_ge hlt (by omega)), if_pos ⟨t1, t2⟩, hTJ, hJ, nI_l (by omega)]
      by_cases c : n ≤ p
      · rw [if_pos ((lN_le (by omega) (by omega)).mpr c)]
        refine ⟨J, rfl, hF, RA_congr hN (fun k hk => ?_)⟩
        rw [← sel_best (n := n) hO hk, show min s n = p by omega]
      · have hAJ := hF.ra ha hA
        obtain ⟨hop, hos⟩ := hO.1 p hlt
        obtain ⟨v, hv⟩ := Option.isSome_iff_exists.mp hos
        rw [if_neg (fun q => c ((lN_le (by omega) (by omega)).mp q))]
        simp only [xlet, xb, t6, t8, hr.2.2.1, Option.bind_some, cl_nI (show p < 2 ^ 31 by omega), hI p hlt, cl_nI (show o p < 2 ^ 31 by omega)]
        rw [if_pos ⟨t9, by rw [t10], by rw [t10]; exact xinb_nI (by omega) (by decide)⟩, if_pos ⟨hr.1, hr.2.1⟩, if_pos ⟨hr.2.2.2.1, by rw [hr.2.2.2.2], by rw [hr.2.2.2.2]; exact xinb_nI hop (by decide)⟩, if_pos ⟨r3.1, r3.2.1⟩, RA_val hAJ hop hv]
        obtain ⟨J', s1, s2, s3⟩ := m_set (I := I) r3 hN hop v
        rw [s1]
        simp only [Option.bind_some]
        rw [show nI p + (1 : Int32) = nI (p + 1) from nI_1 p]
        exact m_bestL39 hT hr ha hA hs hn hJ hO hI f (p + 1) J' (by omega) (by omega) (by omega) (hF.then s3) (by rw [selP, hv]; exact s2)
theorem m_bestL4 (hT : TabOk K F T) (hr : RowsOk K F r) (ha : Apart r T) (hA : RA J0 r ρ) {n : Nat} (hn : n ≤ 64) (hJ : J0 T 3 = lN n) {I0 : Nat → Nat → Int32} {J : Nat → Nat → Int64} (hF : FrT J0 J T) (hN : RA J (T + 3) (fun _ => none)) : ∀ (f i s : Nat) (o : Nat → Nat) (I : Nat → Nat → Int32), i ≤ 64 → 64 - i < f → s ≤ i → (∀ a, a ≠ T + 7 → I a = I0 a) → (∀ p, p < s → I (T + 7) p = nI (o p)) → Ord ρ i s o → ∃ I' J', m4_deriveBest_L4 148 K F f I J T r (nI s) (nI i) = some (I', J') ∧ (∀ a, a ≠ T + 7 → I' a = I0 a) ∧ FrT J0 J' T ∧ RA J' (T + 3) (dBest n ρ)
  | 0, i, s, o, I, h1, h2, _, _, _, _ => absurd h2 (by omega)
  | f + 1, i, s, o, I, h1, h2, h3, h4, h5, h6 => by
    obtain ⟨t1, t2, t5, t6, t7, t8, t9, t10, r1, r3, r5⟩ := id hT
    rw [m4_deriveBest_L4]
    by_cases e : i = 64
    · subst e
      rw [if_pos (by decide)]
      obtain ⟨J', e1, e2, e3⟩ := m_bestL39 hT hr ha hA h3 hn hJ h6 h5 xFu 0 J (by omega) (by omega) (by unfold xFu; omega) hF hN
      exact ⟨I, J', e1, h4, e2, e3⟩
    · have hlt : i < 64 := by omega
      have hAJ := hF.ra ha hA
      rw [if_neg (n64 hlt), if_pos ⟨hr.1, hr.2.1⟩]
      simp only [xlet, xb, hr.2.2.1, Option.bind_some]
      rw [show nI i + (1 : Int32) = nI (i + 1) from nI_1 i, show nI s + (1 : Int32) = nI (s + 1) from nI_1 s]
      cases ev : ρ i with
      | none =>
        rw [m_holds0 hr hAJ hlt ev]
        simp only [Option.bind_some]
        rw [if_pos trivial]
        refine m_bestL4 hT hr ha hA hn hJ hF hN f (i + 1) s o I (by omega) (by omega) (by omega) h4 h5 ⟨fun p hp => ⟨by have := (h6.1 p hp).1; omega, (h6.1 p hp).2⟩, h6.2.1, fun k hk hs => ?_⟩
        by_cases ek : k = i
        · rw [ek, ev] at hs; cases hs
        · exact h6.2.2 k (by omega) hs
      | some v =>
        rw [m_holds1 hr hAJ hlt ev]
        simp only [Option.bind_some]
        rw [if_neg (by decide), if_pos ⟨t1, t2⟩]
        obtain ⟨I', p', e1, e2, e3, e4, e5, e6, e7, e8⟩ := m_insertL hT hr hAJ hlt h3 h6 (I0 := I0) xFu s I (Nat.le_refl s) (by unfold xFu; omega) h4 h5 (fun q a b => by omega) (fun q a b => by omega)
        unfold m4_insertKey
        rw [e1]
        simp only [Option.bind_some]
        refine m_bestL4 hT hr ha hA hn hJ hF hN f (i + 1) (s + 1) _ I' (by omega) (by omega) (by omega) e3 (fun p hp => ?_) (h6.ins e2 (by rw [ev]; rfl) e7 e8)
        by_cases c1 : p < p'
        · rw [if_pos c1]; exact e4 p c1
        · by_cases c2 : p = p'
          · rw [if_neg c1, if_pos c2, c2]; exact e5
          · rw [if_neg c1, if_neg c2]; exact e6 p (by omega) (by omega)
end
