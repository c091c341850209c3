/-! Long.bitCount counts bits: numbers by their digits -/
def pnum (W : Nat) : Nat → (Nat → Nat) → Nat
  | 0, _ => 0
  | n + 1, D => D 0 + W * pnum W n (fun i => D (i + 1))
theorem pn_congr {W : Nat} : ∀ (n : Nat) {D E : Nat → Nat}, (∀ i, i < n → D i = E i) → pnum W n D = pnum W n E
  | 0, _, _, _ => rfl
  | n + 1, D, E, h => by rw [pnum, pnum, h 0 (Nat.zero_lt_succ n), pn_congr n (fun i hi => h (i + 1) (Nat.succ_lt_succ hi))]
theorem pn_add {W : Nat} : ∀ (n : Nat) (D E : Nat → Nat), pnum W n D + pnum W n E = pnum W n (fun i => D i + E i)
  | 0, _, _ => rfl
  | n + 1, D, E => by
    rw [pnum, pnum, pnum, ← pn_add n, Nat.mul_add]
    omega
theorem pn_zero {W : Nat} : ∀ (n : Nat), pnum W n (fun _ => 0) = 0
  | 0 => rfl
  | n + 1 => by rw [pnum, pn_zero n]; omega
theorem pn_and {w : Nat} : ∀ (n : Nat) {D C : Nat → Nat}, (∀ i, i < n → D i < 2 ^ w) → (∀ i, i < n → C i < 2 ^ w) → pnum (2 ^ w) n D &&& pnum (2 ^ w) n C = pnum (2 ^ w) n (fun i => D i &&& C i)
  | 0, _, _, _, _ => by simp [pnum]
  | n + 1, D, C, hD, hC => by
    rw [pnum, pnum, pnum, ← pn_and n (fun i hi => hD (i + 1) (Nat.succ_lt_succ hi)) (fun i hi => hC (i + 1) (Nat.succ_lt_succ hi))]
    have hd := hD 0 (Nat.zero_lt_succ n)
    have hc := hC 0 (Nat.zero_lt_succ n)
    generalize pnum (2 ^ w) n (fun i => D (i + 1)) = A
    generalize pnum (2 ^ w) n (fun i => C (i + 1)) = B
    have h1 : ((D 0 + 2 ^ w * A) &&& (C 0 + 2 ^ w * B)) % 2 ^ w = D 0 &&& C 0 := by
      rw [Nat.and_mod_two_pow, Nat.add_mul_mod_self_left, Nat.add_mul_mod_self_left, Nat.mod_eq_of_lt hd, Nat.mod_eq_of_lt hc]
    have h2 : ((D 0 + 2 ^ w * A) &&& (C 0 + 2 ^ w * B)) / 2 ^ w = A &&& B := by
      rw [Nat.and_div_two_pow, Nat.add_mul_div_left _ _ (Nat.two_pow_pos w), Nat.add_mul_div_left _ _ (Nat.two_pow_pos w), Nat.div_eq_of_lt hd, Nat.div_eq_of_lt hc, Nat.zero_add, Nat.zero_add]
    have h3 := Nat.div_add_mod ((D 0 + 2 ^ w * A) &&& (C 0 + 2 ^ w * B)) (2 ^ w)
    rw [h1, h2] at h3
    omega
theorem pn_div {W : Nat} (n : Nat) {D : Nat → Nat} (hD : D 0 < W) : pnum W (n + 1) D / W = pnum W n (fun i => D (i + 1)) := by
  rw [pnum, Nat.add_mul_div_left _ _ (Nat.lt_of_le_of_lt (Nat.zero_le _) hD), Nat.div_eq_of_lt hD, Nat.zero_add]
theorem pn_last {W : Nat} : ∀ (n : Nat) {D : Nat → Nat}, D n = 0 → pnum W n D = pnum W (n + 1) D
  | 0, D, h => by rw [pnum, pnum, pnum, h]; omega
  | n + 1, D, h => by rw [pnum, pnum, pn_last n h]
theorem pn_of {W : Nat} (hW : 0 < W) : ∀ (n x : Nat), x < W ^ n → pnum W n (fun i => x / W ^ i % W) = x
  | 0, x, h => by
    rw [Nat.pow_zero] at h
    rw [pnum]
    omega
  | n + 1, x, h => by
    rw [pnum]
    have e : (fun i => x / W ^ (i + 1) % W) = (fun i => (x / W) / W ^ i % W) := by
      funext i
      rw [Nat.pow_succ, Nat.mul_comm, Nat.div_div_eq_div_mul]
    rw [e, pn_of hW n (x / W) (Nat.div_lt_of_lt_mul (by rw [Nat.pow_succ, Nat.mul_comm] at h; exact h)), Nat.pow_zero, Nat.div_one]
    exact Nat.mod_add_div x W
theorem pn_two {W : Nat} : ∀ (n : Nat) (D : Nat → Nat), pnum W (2 * n) D = pnum (W * W) n (fun i => D (2 * i) + W * D (2 * i + 1))
  | 0, _ => rfl
  | n + 1, D => by
    rw [show 2 * (n + 1) = 2 * n + 1 + 1 from rfl, pnum, pnum, pnum, pn_two n]
    rw [Nat.mul_add, Nat.mul_assoc, Nat.add_assoc]
    rfl
def nB (x : Int64) : Nat := x.toBitVec.toNat
theorem nB_lt (x : Int64) : nB x < 2 ^ 64 := x.toBitVec.isLt
theorem nB_add (x y : Int64) : nB (x + y) = (nB x + nB y) % 2 ^ 64 := by
  unfold nB
  rw [Int64.toBitVec_add, BitVec.toNat_add]
theorem nB_sub (x y : Int64) : nB (x - y) = (2 ^ 64 - nB y + nB x) % 2 ^ 64 := by
  unfold nB
  rw [Int64.toBitVec_sub, BitVec.toNat_sub]
theorem nB_and (x y : Int64) : nB (x &&& y) = nB x &&& nB y := by
  unfold nB
  rw [Int64.toBitVec_and, BitVec.toNat_and]
theorem nB_shr (x : Int64) (s : UInt64) {j : Nat} (h : s.toNat % 64 = j) : nB ((x.toUInt64 >>> s).toInt64) = nB x / 2 ^ j := by
  show (x.toUInt64 >>> s).toNat = _
  rw [UInt64.toNat_shiftRight, h, Nat.shiftRight_eq_div_pow]
  rfl
theorem pn_shift {W : Nat} (n : Nat) {D : Nat → Nat} (hD : D 0 < W) (h0 : D (n + 1) = 0) : pnum W (n + 1) D / W = pnum W (n + 1) (fun i => D (i + 1)) := by
  rw [pn_div n hD]
  exact pn_last n (D := fun i => D (i + 1)) h0
theorem p_and3 {a b : Nat} (ha : a ≤ 2) (hb : b ≤ 2) : (a + 4 * b) &&& 3 = a := by
  have : ∀ a, a < 3 → ∀ b, b < 3 → (a + 4 * b) &&& 3 = a := by decide
  exact this a (by omega) b (by omega)
theorem p_and1 {a b : Nat} (ha : a ≤ 1) (hb : b ≤ 1) : (a + 2 * b) &&& 1 = a := by
  have : ∀ a, a < 2 → ∀ b, b < 2 → (a + 2 * b) &&& 1 = a := by decide
  exact this a (by omega) b (by omega)
theorem p_and15 {a : Nat} (ha : a ≤ 8) : a &&& 15 = a := by
  have : ∀ a, a < 9 → a &&& 15 = a := by decide
  exact this a (by omega)
theorem pop_s1 {x : Nat} {b : Nat → Nat} (hb : ∀ i, b i ≤ 1) (h64 : b 64 = 0) (hx : x = pnum 2 64 b) : x - (x / 2 &&& 6148914691236517205) = pnum 4 32 (fun i => b (2 * i) + b (2 * i + 1)) ∧ (x / 2 &&& 6148914691236517205) ≤ x := by
  have e1 : x = pnum 4 32 (fun i => b (2 * i) + 2 * b (2 * i + 1)) := by rw [hx]; exact pn_two (W := 2) 32 b
  have e2 : x / 2 = pnum 4 32 (fun i => b (2 * i + 1) + 2 * b (2 * i + 2)) := by
    rw [hx, pn_shift 63 (Nat.lt_succ_of_le (hb 0)) h64]
    exact pn_two (W := 2) 32 (fun i => b (i + 1))
  have e3 : (6148914691236517205 : Nat) = pnum 4 32 (fun _ => 1) := by decide +kernel
  have e4 : x / 2 &&& 6148914691236517205 = pnum 4 32 (fun i => b (2 * i + 1)) := by
    rw [e2, e3, show (4 : Nat) = 2 ^ 2 from rfl, pn_and 32 (fun i _ => by have := hb (2 * i + 1); have := hb (2 * i + 2); omega) (fun _ _ => by decide)]
    exact pn_congr 32 (fun i _ => p_and1 (hb _) (hb _))
  have e5 : x = pnum 4 32 (fun i => b (2 * i) + b (2 * i + 1)) + pnum 4 32 (fun i => b (2 * i + 1)) := by
    rw [pn_add, e1]
    exact pn_congr 32 (fun i _ => by omega)
  rw [e4]
  omega
theorem pop_s2 {x : Nat} {c : Nat → Nat} (hc : ∀ i, c i ≤ 2) (h32 : c 32 = 0) (hx : x = pnum 4 32 c) : (x &&& 3689348814741910323) + (x / 4 &&& 3689348814741910323) = pnum 16 16 (fun i => c (2 * i) + c (2 * i + 1)) := by
  have e1 : x = pnum 16 16 (fun i => c (2 * i) + 4 * c (2 * i + 1)) := by rw [hx]; exact pn_two (W := 4) 16 c
  have e2 : x / 4 = pnum 16 16 (fun i => c (2 * i + 1) + 4 * c (2 * i + 2)) := by
    rw [hx, pn_shift 31 (by have := hc 0; omega) h32]
    exact pn_two (W := 4) 16 (fun i => c (i + 1))
  have e3 : (3689348814741910323 : Nat) = pnum 16 16 (fun _ => 3) := by decide +kernel
  have e4 : x &&& 3689348814741910323 = pnum 16 16 (fun i => c (2 * i)) := by
    rw [e1, e3, show (16 : Nat) = 2 ^ 4 from rfl, pn_and _ (fun i _ => by have := hc (2 * i + 1); have := hc (2 * i); omega) (fun _ _ => by decide)]
    exact pn_congr _ (fun i _ => p_and3 (hc _) (hc _))
  have e5 : x / 4 &&& 3689348814741910323 = pnum 16 16 (fun i => c (2 * i + 1)) := by
    rw [e2, e3, show (16 : Nat) = 2 ^ 4 from rfl, pn_and _ (fun i _ => by have := hc (2 * i + 1); have := hc (2 * i + 2); omega) (fun _ _ => by decide)]
    exact pn_congr _ (fun i _ => p_and3 (hc _) (hc _))
  rw [e4, e5, pn_add]
theorem pop_s3 {x : Nat} {d : Nat → Nat} (hd : ∀ i, d i ≤ 4) (h16 : d 16 = 0) (hx : x = pnum 16 16 d) : (x + x / 16) &&& 1085102592571150095 = pnum 256 8 (fun i => d (2 * i) + d (2 * i + 1)) := by
  have e2 : x / 16 = pnum 16 16 (fun i => d (i + 1)) := by
    rw [hx]
    exact pn_shift 15 (by have := hd 0; omega) h16
  have e3 : (1085102592571150095 : Nat) = pnum 16 16 (fun i => if i % 2 = 0 then 15 else 0) := by decide +kernel
  rw [e2, hx, pn_add, e3, show (16 : Nat) = 2 ^ 4 from rfl, pn_and _ (fun i _ => by have := hd i; have := hd (i + 1); omega) (fun i _ => by by_cases h : i % 2 = 0 <;> simp [h])]
  rw [show pnum (2 ^ 4) (2 ^ 4) = pnum 16 (2 * 8) from rfl, pn_two (W := 16) 8]
  refine pn_congr 8 (fun i _ => ?_)
  have h0 : (2 * i) % 2 = 0 := by omega
  have h1 : ¬ (2 * i + 1) % 2 = 0 := by omega
  rw [if_pos h0, if_neg h1, p_and15 (by have := hd (2 * i); have := hd (2 * i + 1); omega)]
  simp
theorem pop_q {L W H : Nat} (h : L < W) : (L + W * H) / W = H := by
  rw [Nat.add_mul_div_left _ _ (Nat.lt_of_le_of_lt (Nat.zero_le _) h), Nat.div_eq_of_lt h, Nat.zero_add]
theorem pop_a {a0 a1 a2 a3 a4 a5 a6 a7 x : Nat} (h0 : a0 ≤ 8) (hx : x = a0 + 256 * (a1 + 256 * (a2 + 256 * (a3 + 256 * (a4 + 256 * (a5 + 256 * (a6 + 256 * a7))))))) : x + x / 256 = ((a0 + a1) + 256 * (a1 + a2)) + 65536 * ((a2 + a3) + 256 * (a3 + a4) + 65536 * (a4 + a5) + 16777216 * (a5 + a6) + 4294967296 * (a6 + a7) + 1099511627776 * a7) := by
  have q : x / 256 = a1 + 256 * (a2 + 256 * (a3 + 256 * (a4 + 256 * (a5 + 256 * (a6 + 256 * a7))))) := by
    rw [hx]
    exact pop_q (by omega)
  rw [q, hx]
  omega
theorem pop_b {a0 a1 a2 a3 a4 a5 a6 a7 x : Nat} (h0 : a0 ≤ 8) (h1 : a1 ≤ 8) (h2 : a2 ≤ 8) (hx : x = ((a0 + a1) + 256 * (a1 + a2)) + 65536 * ((a2 + a3) + 256 * (a3 + a4) + 65536 * (a4 + a5) + 16777216 * (a5 + a6) + 4294967296 * (a6 + a7) + 1099511627776 * a7)) : x + x / 65536 = ((a0 + a1 + a2 + a3) + 256 * (a1 + a2 + a3 + a4) + 65536 * (a2 + a3 + a4 + a5) + 16777216 * (a3 + a4 + a5 + a6)) + 4294967296 * ((a4 + a5 + a6 + a7) + 256 * (a5 + a6 + a7) + 65536 * (a6 + a7) + 16777216 * a7) := by
  have q : x / 65536 = (a2 + a3) + 256 * (a3 + a4) + 65536 * (a4 + a5) + 16777216 * (a5 + a6) + 4294967296 * (a6 + a7) + 1099511627776 * a7 := by
    rw [hx]
    exact pop_q (by omega)
  rw [q, hx]
  omega
theorem pop_c {a0 a1 a2 a3 a4 a5 a6 a7 x : Nat} (h0 : a0 ≤ 8) (h1 : a1 ≤ 8) (h2 : a2 ≤ 8) (h3 : a3 ≤ 8) (h4 : a4 ≤ 8) (h5 : a5 ≤ 8) (h6 : a6 ≤ 8) (h7 : a7 ≤ 8) (hx : x = ((a0 + a1 + a2 + a3) + 256 * (a1 + a2 + a3 + a4) + 65536 * (a2 + a3 + a4 + a5) + 16777216 * (a3 + a4 + a5 + a6)) + 4294967296 * ((a4 + a5 + a6 + a7) + 256 * (a5 + a6 + a7) + 65536 * (a6 + a7) + 16777216 * a7)) : (x + x / 4294967296) % 128 = a0 + a1 + a2 + a3 + a4 + a5 + a6 + a7 ∧ x + x / 4294967296 < 2 ^ 64 := by
  have q : x / 4294967296 = (a4 + a5 + a6 + a7) + 256 * (a5 + a6 + a7) + 65536 * (a6 + a7) + 16777216 * a7 := by
    rw [hx]
    exact pop_q (by omega)
  rw [q, hx]
  constructor <;> omega
theorem nB_c5 : nB 6148914691236517205 = 6148914691236517205 := by decide +kernel
theorem nB_c3 : nB 3689348814741910323 = 3689348814741910323 := by decide +kernel
theorem nB_cF : nB 1085102592571150095 = 1085102592571150095 := by decide +kernel
theorem nB_low {x : Int64} : (x.toInt32 &&& (127 : Int32)) = nI (nB x % 128) := by
  rw [pk_and x.toInt32 7 (by decide)]
  congr 1
  rw [Int64.toBitVec_toInt32, BitVec.signExtend_eq_setWidth_of_le _ (by decide), BitVec.toNat_setWidth]
  unfold nB
  omega
