theorem lw7 : ∀ L, L < 7 → ∀ i, i < 7 → nI L - 7 < nI i := by decide
section
variable {K : Nat → Nat × Nat} {F : Nat → Nat → Option Nat}
set_option maxRecDepth 100000 in
set_option maxHeartbeats 4000000 in
theorem law_L18 (hL : Lay K F) {L : Nat} (h3 : L ≤ 3584) (xs : Nat → Int32) : ∀ (f i : Nat) (I : Nat → Nat → Int32) (J : Nat → Nat → Int64), i ≤ L → L - i < f → Inv I J → mW_law_L18 148 K F L xs f I J 0 123 (nI i) = some 1
  | 0, i, I, J, h1, h2, _ => absurd h2 (by omega)
  | f + 1, i, I, J, h1, h2, h => by
    rw [mW_law_L18]
    by_cases e : L < i + 7
    · rw [if_pos]
      rcases Nat.lt_or_ge L 7 with z | z
      · exact lw7 L z i (by omega)
      · rw [show (7 : Int32) = nI 7 from rfl, nI_sub' z]
        exact nI_lt (by omega) (by omega)
    · have go : ∀ I' J', Inv I' J' → mW_law_L18 148 K F L xs f I' J' 0 123 (nI (i + 7)) = some 1 := fun I' J' h' => law_L18 hL h3 xs f (i + 7) I' J' (by omega) (by omega) h'
      have n2 : nI i + (2 : Int32) = nI (i + 2) := nI_add i 2
      have n3 : nI i + (3 : Int32) = nI (i + 3) := nI_add i 3
      have n4 : nI i + (4 : Int32) = nI (i + 4) := nI_add i 4
      have n5 : nI i + (5 : Int32) = nI (i + 5) := nI_add i 5
      have n6 : nI i + (6 : Int32) = nI (i + 6) := nI_add i 6
      have n7 : nI i + (7 : Int32) = nI (i + 7) := nI_add i 7
      have xg : ∀ j, j < 7 → xinb (nI (i + j)) L = True := fun j hj => eq_true (xinb_nI (by omega) (by omega))
      have g1 := xg 1 (by decide)
      have g2 := xg 2 (by decide)
      have g3 := xg 3 (by decide)
      have g4 := xg 4 (by decide)
      have g5 := xg 5 (by decide)
      have g6 := xg 6 (by decide)
      have k0 := kg0 hL
      have k5 := kg123 hL
      obtain ⟨n, so, o1, o2, p, q, ρ, β, bo, b, lg, td, nt, κ, hW, hC, hR⟩ := id h
      rw [if_neg (by rw [show (7 : Int32) = nI 7 from rfl, nI_sub' (by omega)]; exact nI_nlt (by omega) (by omega)), if_pos (xinb_nI (show i < L by omega) (by omega))]
      by_cases c0 : ((xs (nI i).toNatClampNeg) &&& (31 : Int32)) = 0
      · rw [if_pos c0]
        obtain ⟨x, I1, J1, I2, e1, e2, e3⟩ := iv_clear hL h 
        simp only [↓xlet, ↓reduceIte, k0, k5, nI_1, n2, n3, n4, n5, n6, n7, g1, g2, g3, g4, g5, g6, ↓xbs e1, ↓xbs e2]
        exact go I2 J1 e3
      rw [if_neg c0]
      by_cases c1 : ((xs (nI i).toNatClampNeg) &&& (31 : Int32)) = 1
      · rw [if_pos c1]
        obtain ⟨x, I1, J1, I2, J2, e1, e2, e3⟩ := iv_source hL h 
        simp only [↓xlet, ↓reduceIte, k0, k5, nI_1, n2, n3, n4, n5, n6, n7, g1, g2, g3, g4, g5, g6, ↓xbs e1, ↓xbs e2]
        exact go I2 J2 e3
      rw [if_neg c1]
      by_cases c2 : ((xs (nI i).toNatClampNeg) &&& (31 : Int32)) = 2
      · rw [if_pos c2]
        obtain ⟨x, I1, J1, I2, J2, e1, e2, e3⟩ := iv_filter hL h (xs (nI i + (1 : Int32)).toNatClampNeg) ((((xs (nI i + (2 : Int32)).toNatClampNeg).toInt64) <<< ((32 : Int32).toInt64 &&& 63)) ||| (((xs (nI i + (3 : Int32)).toNatClampNeg).toInt64) &&& (4294967295 : Int64))) ((((xs (nI i + (4 : Int32)).toNatClampNeg).toInt64) <<< ((32 : Int32).toInt64 &&& 63)) ||| (((xs (nI i + (5 : Int32)).toNatClampNeg).toInt64) &&& (4294967295 : Int64)))
        simp only [↓xlet, ↓reduceIte, k0, k5, nI_1, n2, n3, n4, n5, n6, n7, g1, g2, g3, g4, g5, g6, ↓xbs e1, ↓xbs e2]
        exact go I2 J2 e3
      rw [if_neg c2]
      by_cases c3 : ((xs (nI i).toNatClampNeg) &&& (31 : Int32)) = 3
      · rw [if_pos c3]
        obtain ⟨x, I1, J1, I2, J2, e1, e2, e3⟩ := iv_map hL h (xs (nI i + (1 : Int32)).toNatClampNeg) (xs (nI i + (2 : Int32)).toNatClampNeg) (xs (nI i + (3 : Int32)).toNatClampNeg)
        simp only [↓xlet, ↓reduceIte, k0, k5, nI_1, n2, n3, n4, n5, n6, n7, g1, g2, g3, g4, g5, g6, ↓xbs e1, ↓xbs e2]
        exact go I2 J2 e3
      rw [if_neg c3]
      by_cases c4 : ((xs (nI i).toNatClampNeg) &&& (31 : Int32)) = 4
      · rw [if_pos c4]
        obtain ⟨x, I1, J1, I2, J2, e1, e2, e3⟩ := iv_fold hL h (xs (nI i + (1 : Int32)).toNatClampNeg) (xs (nI i + (2 : Int32)).toNatClampNeg) (xs (nI i + (3 : Int32)).toNatClampNeg)
        simp only [↓xlet, ↓reduceIte, k0, k5, nI_1, n2, n3, n4, n5, n6, n7, g1, g2, g3, g4, g5, g6, ↓xbs e1, ↓xbs e2]
        exact go I2 J2 e3
      rw [if_neg c4]
      by_cases c5 : ((xs (nI i).toNatClampNeg) &&& (31 : Int32)) = 5
      · rw [if_pos c5]
        obtain ⟨x, I1, J1, I2, J2, e1, e2, e3⟩ := iv_join hL h (xs (nI i + (1 : Int32)).toNatClampNeg) (xs (nI i + (2 : Int32)).toNatClampNeg) (xs (nI i + (3 : Int32)).toNatClampNeg)
        simp only [↓xlet, ↓reduceIte, k0, k5, nI_1, n2, n3, n4, n5, n6, n7, g1, g2, g3, g4, g5, g6, ↓xbs e1, ↓xbs e2]
        exact go I2 J2 e3
      rw [if_neg c5]
      by_cases c6 : ((xs (nI i).toNatClampNeg) &&& (31 : Int32)) = 6
      · rw [if_pos c6]
        obtain ⟨x, I1, J1, I2, J2, e1, e2, e3⟩ := iv_merge hL h (xs (nI i + (1 : Int32)).toNatClampNeg) (xs (nI i + (2 : Int32)).toNatClampNeg)
        simp only [↓xlet, ↓reduceIte, k0, k5, nI_1, n2, n3, n4, n5, n6, n7, g1, g2, g3, g4, g5, g6, ↓xbs e1, ↓xbs e2]
        exact go I2 J2 e3
      rw [if_neg c6]
      by_cases c7 : ((xs (nI i).toNatClampNeg) &&& (31 : Int32)) = 7
      · rw [if_pos c7]
        obtain ⟨x, I1, J1, I2, J2, e1, e2, e3⟩ := iv_best hL h (xs (nI i + (1 : Int32)).toNatClampNeg) (xs (nI i + (2 : Int32)).toNatClampNeg)
        simp only [↓xlet, ↓reduceIte, k0, k5, nI_1, n2, n3, n4, n5, n6, n7, g1, g2, g3, g4, g5, g6, ↓xbs e1, ↓xbs e2]
        exact go I2 J2 e3
      rw [if_neg c7]
      by_cases c8 : ((xs (nI i).toNatClampNeg) &&& (31 : Int32)) = 8
      · rw [if_pos c8]
        obtain ⟨x, I1, J1, I2, J2, e1, e2, e3⟩ := iv_look hL h (xs (nI i + (1 : Int32)).toNatClampNeg) (xs (nI i + (2 : Int32)).toNatClampNeg)
        simp only [↓xlet, ↓reduceIte, k0, k5, nI_1, n2, n3, n4, n5, n6, n7, g1, g2, g3, g4, g5, g6, ↓xbs e1, ↓xbs e2]
        exact go I2 J2 e3
      rw [if_neg c8]
      by_cases c9 : ((xs (nI i).toNatClampNeg) &&& (31 : Int32)) = 9
      · rw [if_pos c9]
        obtain ⟨x, I1, J1, I2, J2, e1, e2, e3⟩ := iv_put hL h (xs (nI i + (1 : Int32)).toNatClampNeg) (xs (nI i + (2 : Int32)).toNatClampNeg) ((((xs (nI i + (3 : Int32)).toNatClampNeg).toInt64) <<< ((32 : Int32).toInt64 &&& 63)) ||| (((xs (nI i + (4 : Int32)).toNatClampNeg).toInt64) &&& (4294967295 : Int64)))
        simp only [↓xlet, ↓reduceIte, k0, k5, nI_1, n2, n3, n4, n5, n6, n7, g1, g2, g3, g4, g5, g6, ↓xbs e1, ↓xbs e2]
        exact go I2 J2 e3
      rw [if_neg c9]
      by_cases c10 : ((xs (nI i).toNatClampNeg) &&& (31 : Int32)) = 10
      · rw [if_pos c10]
        obtain ⟨x, I1, J1, I2, J2, e1, e2, e3⟩ := iv_remove hL h (xs (nI i + (1 : Int32)).toNatClampNeg) (xs (nI i + (2 : Int32)).toNatClampNeg)
        simp only [↓xlet, ↓reduceIte, k0, k5, nI_1, n2, n3, n4, n5, n6, n7, g1, g2, g3, g4, g5, g6, ↓xbs e1, ↓xbs e2]
        exact go I2 J2 e3
      rw [if_neg c10]
      by_cases c11 : ((xs (nI i).toNatClampNeg) &&& (31 : Int32)) = 11
      · rw [if_pos c11]
        obtain ⟨x, I1, I2, e1, e2, e3⟩ := iv_begin hL h 
        simp only [↓xlet, ↓reduceIte, k0, k5, nI_1, n2, n3, n4, n5, n6, n7, g1, g2, g3, g4, g5, g6, ↓xbs e1, ↓xbs e2]
        exact go I2 J e3
      rw [if_neg c11]
      by_cases c12 : ((xs (nI i).toNatClampNeg) &&& (31 : Int32)) = 12
      · rw [if_pos c12]
        obtain ⟨x, I1, J1, I2, J2, e1, e2, e3⟩ := iv_end hL h 
        simp only [↓xlet, ↓reduceIte, k0, k5, nI_1, n2, n3, n4, n5, n6, n7, g1, g2, g3, g4, g5, g6, ↓xbs e1, ↓xbs e2]
        exact go I2 J2 e3
      rw [if_neg c12]
      by_cases c13 : ((xs (nI i).toNatClampNeg) &&& (31 : Int32)) = 13
      · rw [if_pos c13]
        obtain ⟨x, I1, I2, e1, e2, e3⟩ := iv_drop hL h 
        simp only [↓xlet, ↓reduceIte, k0, k5, nI_1, n2, n3, n4, n5, n6, n7, g1, g2, g3, g4, g5, g6, ↓xbs e1, ↓xbs e2]
        exact go I2 J e3
      rw [if_neg c13]
      by_cases c14 : ((xs (nI i).toNatClampNeg) &&& (31 : Int32)) = 14
      · rw [if_pos c14]
        obtain ⟨x, e1, e2⟩ := rd_told hL hC hR 
        simp only [↓xlet, ↓reduceIte, k0, k5, nI_1, n2, n3, n4, n5, n6, n7, g1, g2, g3, g4, g5, g6, ↓xbs e1, ↓xbs e2]
        exact go I J h
      rw [if_neg c14]
      by_cases c15 : ((xs (nI i).toNatClampNeg) &&& (31 : Int32)) = 15
      · rw [if_pos c15]
        obtain ⟨x, e1, e2⟩ := rd_change hL hW hC hR (xs (nI i + (1 : Int32)).toNatClampNeg) (xs (nI i + (2 : Int32)).toNatClampNeg) (xs (nI i + (3 : Int32)).toNatClampNeg)
        simp only [↓xlet, ↓reduceIte, k0, k5, nI_1, n2, n3, n4, n5, n6, n7, g1, g2, g3, g4, g5, g6, ↓xbs e1, ↓xbs e2]
        exact go I J h
      rw [if_neg c15]
      by_cases c16 : ((xs (nI i).toNatClampNeg) &&& (31 : Int32)) = 16
      · rw [if_pos c16]
        obtain ⟨x, e1, e2⟩ := rd_value hL hW hC hR (xs (nI i + (1 : Int32)).toNatClampNeg) (xs (nI i + (2 : Int32)).toNatClampNeg) (xs (nI i + (3 : Int32)).toNatClampNeg)
        simp only [↓xlet, ↓reduceIte, k0, k5, nI_1, n2, n3, n4, n5, n6, n7, g1, g2, g3, g4, g5, g6, ↓xbs e1, ↓xbs e2]
        exact go I J h
      rw [if_neg c16]
      by_cases c17 : ((xs (nI i).toNatClampNeg) &&& (31 : Int32)) = 17
      · rw [if_pos c17]
        obtain ⟨x, e1, e2⟩ := rd_logged hL hC hR 
        simp only [↓xlet, ↓reduceIte, k0, k5, nI_1, n2, n3, n4, n5, n6, n7, g1, g2, g3, g4, g5, g6, ↓xbs e1, ↓xbs e2]
        exact go I J h
      rw [if_neg c17]
      by_cases c18 : ((xs (nI i).toNatClampNeg) &&& (31 : Int32)) = 18
      · rw [if_pos c18]
        obtain ⟨x, I1, J1, I2, J2, e1, e2, e3⟩ := iv_forget hL h 
        simp only [↓xlet, ↓reduceIte, k0, k5, nI_1, n2, n3, n4, n5, n6, n7, g1, g2, g3, g4, g5, g6, ↓xbs e1, ↓xbs e2]
        exact go I2 J2 e3
      rw [if_neg c18]
      by_cases c19 : ((xs (nI i).toNatClampNeg) &&& (31 : Int32)) = 19
      · rw [if_pos c19]
        obtain ⟨x, I1, J1, I2, J2, e1, e2, e3⟩ := iv_net hL h (xs (nI i + (1 : Int32)).toNatClampNeg) (xs (nI i + (2 : Int32)).toNatClampNeg) (xs (nI i + (3 : Int32)).toNatClampNeg)
        simp only [↓xlet, ↓reduceIte, k0, k5, nI_1, n2, n3, n4, n5, n6, n7, g1, g2, g3, g4, g5, g6, ↓xbs e1, ↓xbs e2]
        exact go I2 J2 e3
      rw [if_neg c19]
      by_cases c20 : ((xs (nI i).toNatClampNeg) &&& (31 : Int32)) = 20
      · rw [if_pos c20]
        obtain ⟨x, J1, I2, J2, e1, e2, e3⟩ := iv_copy hL h (xs (nI i + (1 : Int32)).toNatClampNeg) (xs (nI i + (2 : Int32)).toNatClampNeg)
        simp only [↓xlet, ↓reduceIte, k0, k5, nI_1, n2, n3, n4, n5, n6, n7, g1, g2, g3, g4, g5, g6, ↓xbs e1, ↓xbs e2]
        exact go I2 J2 e3
      rw [if_neg c20]
      by_cases c21 : ((xs (nI i).toNatClampNeg) &&& (31 : Int32)) = 21
      · rw [if_pos c21]
        obtain ⟨x, J1, I2, J2, e1, e2, e3⟩ := iv_take hL h (xs (nI i + (1 : Int32)).toNatClampNeg) (xs (nI i + (2 : Int32)).toNatClampNeg) ((((xs (nI i + (3 : Int32)).toNatClampNeg).toInt64) <<< ((32 : Int32).toInt64 &&& 63)) ||| (((xs (nI i + (4 : Int32)).toNatClampNeg).toInt64) &&& (4294967295 : Int64))) ((((xs (nI i + (5 : Int32)).toNatClampNeg).toInt64) <<< ((32 : Int32).toInt64 &&& 63)) ||| (((xs (nI i + (6 : Int32)).toNatClampNeg).toInt64) &&& (4294967295 : Int64)))
        simp only [↓xlet, ↓reduceIte, k0, k5, nI_1, n2, n3, n4, n5, n6, n7, g1, g2, g3, g4, g5, g6, ↓xbs e1, ↓xbs e2]
        exact go I2 J2 e3
      rw [if_neg c21]
      by_cases c22 : ((xs (nI i).toNatClampNeg) &&& (31 : Int32)) = 22
      · rw [if_pos c22]
        obtain ⟨x, e1, e2⟩ := rd_same hL hW.1.1 hC hR (xs (nI i + (1 : Int32)).toNatClampNeg)
        simp only [↓xlet, ↓reduceIte, k0, k5, nI_1, n2, n3, n4, n5, n6, n7, g1, g2, g3, g4, g5, g6, ↓xbs e1, ↓xbs e2]
        exact go I J h
      rw [if_neg c22]
      by_cases c23 : ((xs (nI i).toNatClampNeg) &&& (31 : Int32)) = 23
      · rw [if_pos c23]
        obtain ⟨x, e1, e2⟩ := rd_has hL hW.1.1 hC hR (xs (nI i + (1 : Int32)).toNatClampNeg) (xs (nI i + (2 : Int32)).toNatClampNeg)
        simp only [↓xlet, ↓reduceIte, k0, k5, nI_1, n2, n3, n4, n5, n6, n7, g1, g2, g3, g4, g5, g6, ↓xbs e1, ↓xbs e2]
        exact go I J h
      rw [if_neg c23]
      by_cases c24 : ((xs (nI i).toNatClampNeg) &&& (31 : Int32)) = 24
      · rw [if_pos c24]
        obtain ⟨x, e1, e2⟩ := rd_at hL hW.1.1 hC hR (xs (nI i + (1 : Int32)).toNatClampNeg) (xs (nI i + (2 : Int32)).toNatClampNeg)
        simp only [↓xlet, ↓reduceIte, k0, k5, nI_1, n2, n3, n4, n5, n6, n7, g1, g2, g3, g4, g5, g6, ↓xbs e1, ↓xbs e2]
        exact go I J h
      rw [if_neg c24]
      by_cases c25 : ((xs (nI i).toNatClampNeg) &&& (31 : Int32)) = 25
      · rw [if_pos c25]
        obtain ⟨x, e1, e2⟩ := rd_of hL hW hC hR (xs (nI i + (1 : Int32)).toNatClampNeg) (xs (nI i + (2 : Int32)).toNatClampNeg)
        simp only [↓xlet, ↓reduceIte, k0, k5, nI_1, n2, n3, n4, n5, n6, n7, g1, g2, g3, g4, g5, g6, ↓xbs e1, ↓xbs e2]
        exact go I J h
      rw [if_neg c25]
      by_cases c26 : ((xs (nI i).toNatClampNeg) &&& (31 : Int32)) = 26
      · rw [if_pos c26]
        obtain ⟨x, e1, e2⟩ := rd_count hL hC hR (xs (nI i + (1 : Int32)).toNatClampNeg)
        simp only [↓xlet, ↓reduceIte, k0, k5, nI_1, n2, n3, n4, n5, n6, n7, g1, g2, g3, g4, g5, g6, ↓xbs e1, ↓xbs e2]
        exact go I J h
      rw [if_neg c26]
      simp only [↓xlet, n7]
      exact go I J h
theorem law_inv {I : Nat → Nat → Int32} {J : Nat → Nat → Int64} (z : ∀ k, k < 148 → ¬ (27 ≤ k ∧ k < 123) → ∀ j, j < 64 → I k j = 0 ∧ J k j = 0) : Inv I J := by
  have zi : ∀ k j, k < 27 ∨ 123 ≤ k → k < 148 → j < 64 → I k j = 0 := fun k j a b c => (z k b (by omega) j c).1
  have zj : ∀ k j, k < 27 ∨ 123 ≤ k → k < 148 → j < 64 → J k j = 0 := fun k j a b c => (z k b (by omega) j c).2
  have ra : ∀ r, r < 26 → RA J r (fun _ => none) := fun r hr => ⟨fun k hk => by rw [zj r 0 (by omega) (by omega) (by omega), bt_zero]; rfl, fun k hk => by rw [zj (r + 1) k (by omega) (by omega) hk]; rfl⟩
  have cl : ∀ c, c < 26 → CLst I J c [] := fun c hc => ⟨zi c 0 (by omega) (by omega) (by omega), fun i t k o w e => by simp at e⟩
  have rl : ∀ f off, f < 64 → RLst I J f off [] := fun f off hf => ⟨zi 123 f (by omega) (by omega) hf, fun i t k o w e => by simp at e⟩
  exact ⟨0, fun _ => 0, fun _ => 0, fun _ => 0, fun _ => 0, fun _ => 0, fun _ _ => none, fun _ _ => none, false, [], [], [], [], fun _ => none, ⟨⟨by omega, fun t ht => by omega⟩, fun t ht => by omega, BOk.nil, EOk.nil, EOk.nil, EOk.nil⟩, ⟨⟨zi 0 1 (by omega) (by omega) (by omega), fun t ht => by omega⟩, fun t ht => by omega, fun t ht => by omega, fun t ht => by omega, ⟨zi 2 0 (by omega) (by omega) (by omega), fun y => by cases y⟩, cl 7 (by omega), cl 11 (by omega), cl 15 (by omega), ra 19 (by omega), ra 25 (by omega)⟩, ⟨zi 123 0 (by omega) (by omega) (by omega), fun t ht => by omega⟩, fun t ht => by omega, fun t ht => by omega, ⟨zi 123 20 (by omega) (by omega) (by omega), fun y => by cases y⟩, rl 17 0 (by omega), rl 18 1500 (by omega), rl 19 2300 (by omega), fun k hk => ⟨zi 144 k (by omega) (by omega) hk, fun v e => by cases e⟩⟩
end
theorem law_pure (L : Nat) (xs : Nat → Int32) (hL : L ≤ 3584) : mW_law L xs 0 xz_K xz_F xz_I xz_J = some (1 : Int32) := by
  obtain ⟨K8, F9, I10, J11, e0, _, _⟩ := ichk_spec w0_ok
  obtain ⟨K, F, I, J, e5, k5, z5⟩ := ichk_spec w5_ok
  unfold w5 at e5
  rw [xbs e0] at e5
  unfold w0 at e0
  have lay : Lay K F := ⟨fun k hk => (k5 k hk).1, fun k hk => (k5 k hk).2⟩
  have fin := law_L18 lay hL xs xFu 0 I J (by omega) (by unfold xFu; omega) (law_inv z5)
  have fin : mW_law_L18 148 K F L xs xFu I J 0 123 0 = some 1 := fin
  have e0 : m0_init 10714 1 (va_up xz_K 0 (0, 0)) (va_up xz_F 0 (fun _ => none)) (va_up xz_I 0 (fun _ => 0)) (va_up xz_J 0 (fun _ => 0)) 0 = some (123, K8, F9, I10, J11) := e0
  have e5 : m5_init 17084 124 (va_up K8 123 (0, 5)) (va_up F9 123 (fun _ => none)) (va_up I10 123 (fun _ => 0)) (va_up J11 123 (fun _ => 0)) 123 = some (148, K, F, I, J) := e5
  unfold mW_law
  simp only [↓xlet, Nat.zero_add, ↓reduceIte, ↓xbs e0, ↓xbs e5, Nat.reduceAdd, Nat.reduceLeDiff, fin]
