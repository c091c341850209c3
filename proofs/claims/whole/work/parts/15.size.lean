def bsum (b : Nat → Nat) : Nat → Nat
  | 0 => 0
  | n + 1 => bsum b n + b n
theorem bsum_two (D : Nat → Nat) : ∀ n, bsum (fun i => D (2 * i) + D (2 * i + 1)) n = bsum D (2 * n)
  | 0 => rfl
  | n + 1 => by
    rw [show 2 * (n + 1) = 2 * n + 1 + 1 from rfl, bsum, bsum, bsum, bsum_two D n]
    omega
theorem bsum_congr {a b : Nat → Nat} : ∀ n, (∀ i, i < n → a i = b i) → bsum a n = bsum b n
  | 0, _ => rfl
  | n + 1, h => by rw [bsum, bsum, bsum_congr n (fun i hi => h i (by omega)), h n (by omega)]
theorem pn_lt {W : Nat} (hW : 0 < W) : ∀ (n : Nat) {D : Nat → Nat}, (∀ i, i < n → D i < W) → pnum W n D < W ^ n
  | 0, _, _ => by simp [pnum]
  | n + 1, D, h => by
    have h1 := pn_lt hW n (D := fun i => D (i + 1)) (fun i hi => h (i + 1) (by omega))
    have h0 := h 0 (by omega)
    rw [pnum, Nat.pow_succ, Nat.mul_comm (W ^ n) W]
    have h2 : W * (pnum W n (fun i => D (i + 1)) + 1) ≤ W * W ^ n := Nat.mul_le_mul_left W h1
    rw [Nat.mul_add] at h2
    omega
theorem nB_bit (x : Int64) (i : Nat) : nB x / 2 ^ i % 2 = if bt x i then 1 else 0 := by
  unfold bt nB
  rw [BitVec.getLsbD, Nat.testBit_eq_decide_div_mod_eq]
  have h : x.toBitVec.toNat / 2 ^ i % 2 < 2 := Nat.mod_lt _ (by decide)
  by_cases e : x.toBitVec.toNat / 2 ^ i % 2 = 1
  · simp [e]
  · simp [e]
    omega
theorem m_bitCount {N : Nat} {K : Nat → Nat × Nat} {F : Nat → Nat → Option Nat} {I : Nat → Nat → Int32} {J : Nat → Nat → Int64} (x : Int64) : mL_bitCount N K F I J x = some (nI (bsum (fun i => if bt x i then 1 else 0) 64)) := by
  obtain ⟨b, hbe⟩ : ∃ b : Nat → Nat, b = fun i => nB x / 2 ^ i % 2 := ⟨_, rfl⟩
  have hb : ∀ i, b i ≤ 1 := fun i => by rw [hbe]; have : nB x / 2 ^ i % 2 < 2 := Nat.mod_lt _ (by decide); show nB x / 2 ^ i % 2 ≤ 1; omega
  have h64 : b 64 = 0 := by rw [hbe]; show nB x / 2 ^ 64 % 2 = 0; rw [Nat.div_eq_of_lt (nB_lt x)]
  have hx : nB x = pnum 2 64 b := by rw [hbe]; exact (pn_of (by decide) 64 (nB x) (nB_lt x)).symm
  obtain ⟨s1, s1le⟩ := pop_s1 hb h64 hx
  obtain ⟨c, hc⟩ : ∃ c : Nat → Nat, c = fun i => b (2 * i) + b (2 * i + 1) := ⟨_, rfl⟩
  have c2 : ∀ i, c i ≤ 2 := fun i => by rw [hc]; have := hb (2 * i); have := hb (2 * i + 1); show b (2 * i) + b (2 * i + 1) ≤ 2; omega
  have bz : ∀ i, 64 ≤ i → b i = 0 := fun i hi => by
    rw [hbe]
    show nB x / 2 ^ i % 2 = 0
    rw [Nat.div_eq_of_lt (Nat.lt_of_lt_of_le (nB_lt x) (Nat.pow_le_pow_right (by decide) hi))]
  have c32 : c 32 = 0 := by rw [hc]; show b (2 * 32) + b (2 * 32 + 1) = 0; rw [bz _ (by omega), bz _ (by omega)]
  obtain ⟨x1, ex1⟩ : ∃ y : Int64, y = x - ((x.toUInt64 >>> ((1 : Int32).toInt64.toUInt64 &&& Int64.toUInt64 63)).toInt64 &&& (6148914691236517205 : Int64)) := ⟨_, rfl⟩
  have n1 : nB x1 = pnum 4 32 c := by
    rw [ex1, nB_sub, nB_and, nB_shr x _ (j := 1) (by decide), nB_c5, hc, ← s1]
    have := nB_lt x
    rw [show (2 : Nat) ^ 1 = 2 from rfl]
    omega
  obtain ⟨d, hd⟩ : ∃ d : Nat → Nat, d = fun i => c (2 * i) + c (2 * i + 1) := ⟨_, rfl⟩
  have d4 : ∀ i, d i ≤ 4 := fun i => by rw [hd]; have := c2 (2 * i); have := c2 (2 * i + 1); show c (2 * i) + c (2 * i + 1) ≤ 4; omega
  have cz : ∀ i, 32 ≤ i → c i = 0 := fun i hi => by rw [hc]; show b (2 * i) + b (2 * i + 1) = 0; rw [bz _ (by omega), bz _ (by omega)]
  have d16 : d 16 = 0 := by rw [hd]; show c (2 * 16) + c (2 * 16 + 1) = 0; rw [cz _ (by omega), cz _ (by omega)]
  obtain ⟨x2, ex2⟩ : ∃ y : Int64, y = (x1 &&& (3689348814741910323 : Int64)) + ((x1.toUInt64 >>> ((2 : Int32).toInt64.toUInt64 &&& Int64.toUInt64 63)).toInt64 &&& (3689348814741910323 : Int64)) := ⟨_, rfl⟩
  have n2 : nB x2 = pnum 16 16 d := by
    have h := pop_s2 c2 c32 n1
    rw [ex2, nB_add, nB_and, nB_and, nB_shr x1 _ (j := 2) (by decide), nB_c3, show (2 : Nat) ^ 2 = 4 from rfl, h, hd]
    exact Nat.mod_eq_of_lt (pn_lt (by decide) 16 (fun i _ => by have := d4 i; rw [hd] at this; exact Nat.lt_of_le_of_lt this (by decide)))
  obtain ⟨e, he⟩ : ∃ e : Nat → Nat, e = fun i => d (2 * i) + d (2 * i + 1) := ⟨_, rfl⟩
  have e8 : ∀ i, e i ≤ 8 := fun i => by rw [he]; have := d4 (2 * i); have := d4 (2 * i + 1); show d (2 * i) + d (2 * i + 1) ≤ 8; omega
  obtain ⟨x3, ex3⟩ : ∃ y : Int64, y = (x2 + (x2.toUInt64 >>> ((4 : Int32).toInt64.toUInt64 &&& Int64.toUInt64 63)).toInt64) &&& (1085102592571150095 : Int64) := ⟨_, rfl⟩
  have n3 : nB x3 = pnum 256 8 e := by
    have h := pop_s3 d4 d16 n2
    have hlt : nB x2 + nB x2 / 16 < 2 ^ 64 := by
      have := pn_lt (W := 16) (by decide) 16 (D := d) (fun i _ => by have := d4 i; omega)
      have h2 : pnum 16 16 d + pnum 16 16 d / 16 < 2 ^ 64 := by
        have e2 : pnum 16 16 d / 16 = pnum 16 16 (fun i => d (i + 1)) := pn_shift 15 (by have := d4 0; omega) d16
        rw [e2, pn_add]
        exact pn_lt (by decide) 16 (fun i _ => by have := d4 i; have := d4 (i + 1); omega)
      rw [n2]
      exact h2
    rw [ex3, nB_and, nB_add, nB_shr x2 _ (j := 4) (by decide), nB_cF, show (2 : Nat) ^ 4 = 16 from rfl, Nat.mod_eq_of_lt hlt, h, he]
  have hsum : bsum (fun i => if bt x i then 1 else 0) 64 = e 0 + e 1 + e 2 + e 3 + e 4 + e 5 + e 6 + e 7 := by
    have h1 : bsum (fun i => if bt x i then 1 else 0) 64 = bsum b 64 := bsum_congr 64 (fun i _ => by rw [hbe]; exact (nB_bit x i).symm)
    have h2 : bsum c 32 = bsum b 64 := by rw [hc]; exact bsum_two b 32
    have h3 : bsum d 16 = bsum c 32 := by rw [hd]; exact bsum_two c 16
    have h4 : bsum e 8 = bsum d 16 := by rw [he]; exact bsum_two d 8
    rw [h1, ← h2, ← h3, ← h4]
    simp only [bsum]
    omega
  have p3 : nB x3 = e 0 + 256 * (e 1 + 256 * (e 2 + 256 * (e 3 + 256 * (e 4 + 256 * (e 5 + 256 * (e 6 + 256 * e 7)))))) := by
    rw [n3]
    show e 0 + 256 * (e 1 + 256 * (e 2 + 256 * (e 3 + 256 * (e 4 + 256 * (e 5 + 256 * (e 6 + 256 * (e 7 + 256 * 0))))))) = _
    rw [Nat.mul_zero, Nat.add_zero]
  have k0 := e8 0
  have k1 := e8 1
  have k2 := e8 2
  have k3 := e8 3
  have k4 := e8 4
  have k5 := e8 5
  have k6 := e8 6
  have k7 := e8 7
  have p4 := pop_a k0 p3
  obtain ⟨x4, ex4⟩ : ∃ y : Int64, y = x3 + (x3.toUInt64 >>> ((8 : Int32).toInt64.toUInt64 &&& Int64.toUInt64 63)).toInt64 := ⟨_, rfl⟩
  have n4 : nB x4 = nB x3 + nB x3 / 256 := by
    rw [ex4, nB_add, nB_shr x3 _ (j := 8) (by decide), show (2 : Nat) ^ 8 = 256 from rfl]
    refine Nat.mod_eq_of_lt ?_
    rw [p4]
    clear p4 p3 n3 n2 n1 hsum
    omega
  rw [← n4] at p4
  have p5 := pop_b k0 k1 k2 p4
  obtain ⟨x5, ex5⟩ : ∃ y : Int64, y = x4 + (x4.toUInt64 >>> ((16 : Int32).toInt64.toUInt64 &&& Int64.toUInt64 63)).toInt64 := ⟨_, rfl⟩
  have n5 : nB x5 = nB x4 + nB x4 / 65536 := by
    rw [ex5, nB_add, nB_shr x4 _ (j := 16) (by decide), show (2 : Nat) ^ 16 = 65536 from rfl]
    refine Nat.mod_eq_of_lt ?_
    rw [p5]
    clear p5 p4 n4 p3 n3 n2 n1 hsum
    omega
  rw [← n5] at p5
  obtain ⟨p6, p7⟩ := pop_c k0 k1 k2 k3 k4 k5 k6 k7 p5
  obtain ⟨x6, ex6⟩ : ∃ y : Int64, y = x5 + (x5.toUInt64 >>> ((32 : Int32).toInt64.toUInt64 &&& Int64.toUInt64 63)).toInt64 := ⟨_, rfl⟩
  have n6 : nB x6 = nB x5 + nB x5 / 4294967296 := by
    rw [ex6, nB_add, nB_shr x5 _ (j := 32) (by decide), show (2 : Nat) ^ 32 = 4294967296 from rfl]
    exact Nat.mod_eq_of_lt p7
  rw [← n6] at p6
  unfold mL_bitCount
  simp only [xlet]
  rw [← ex1, ← ex2, ← ex3, ← ex4, ← ex5, ← ex6, nB_low, p6, hsum]
theorem rcnt_sum {ρ : Nat → Option Int64} {x : Int64} : ∀ n, (∀ k, k < n → bt x k = (ρ k).isSome) → bsum (fun i => if bt x i then 1 else 0) n = rcnt ρ n
  | 0, _ => rfl
  | n + 1, h => by rw [bsum, rcnt, rcnt_sum n (fun k hk => h k (by omega)), h n (by omega)]
theorem m_size {K : Nat → Nat × Nat} {F : Nat → Nat → Option Nat} {I : Nat → Nat → Int32} {J : Nat → Nat → Int64} {r : Nat} {ρ : Nat → Option Int64} (hr : RowsOk K F r) (hA : RA J r ρ) : m3_size 148 K F I J r = some (nI (rcnt ρ 64)) := by
  unfold m3_size
  rw [if_pos ⟨hr.1, hr.2.1⟩, m_bitCount, rcnt_sum 64 hA.1]
  rfl
