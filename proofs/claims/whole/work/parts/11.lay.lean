/-! the world behind both constructors -/
def kTab (k : Nat) : Nat × Nat :=
  if k < 27 then
    [(0, 0), (4, 12), (0, 1), (1, 40), (1, 40), (3, 40), (2, 40), (0, 2), (1, 1500), (2, 1500), (2, 1500), (0, 2), (1, 768), (2, 768), (2, 768), (0, 2), (1, 64), (2, 64), (2, 64), (0, 3), (2, 64), (0, 3), (2, 64), (0, 3), (2, 64), (0, 3), (2, 64)].getD k (0, 0)
  else if k < 123 then
    [(0, 4), (0, 3), (2, 64), (0, 3), (2, 64), (0, 3), (2, 64), (1, 64)].getD ((k - 27) % 8) (0, 0)
  else
    [(0, 5), (1, 12), (1, 12), (1, 12), (2, 12), (2, 12), (3, 768), (2, 768), (3, 768), (2, 768), (3, 768), (2, 768), (1, 2400), (1, 2400), (1, 2400), (2, 2400), (2, 2400), (1, 40), (1, 40), (3, 40), (2, 40), (3, 64), (2, 64), (3, 64), (2, 64)].getD (k - 123) (0, 0)
def fTab (k j : Nat) : Option Nat :=
  if k = 0 then [some 1, none, some 2, some 7, some 11, some 15, some 19, some 21, some 23, some 25].getD j none
  else if k = 1 then (if j < 12 then some (27 + 8 * j) else none)
  else if k = 2 then [none, none, some 3, some 4, some 5, some 6].getD j none
  else if k = 7 ∨ k = 11 ∨ k = 15 then [none, some (k + 1), some (k + 2), some (k + 3)].getD j none
  else if k = 19 ∨ k = 21 ∨ k = 23 ∨ k = 25 then (if j = 1 then some (k + 1) else none)
  else if 27 ≤ k ∧ k < 123 then
    (if (k - 27) % 8 = 0 then [none, none, none, none, none, some (k + 1), some (k + 3), some (k + 5), some (k + 7)].getD j none
     else if (k - 27) % 8 = 1 ∨ (k - 27) % 8 = 3 ∨ (k - 27) % 8 = 5 then (if j = 1 then some (k + 1) else none) else none)
  else if k = 123 then [none, some 124, some 125, some 126, some 127, some 128, some 129, some 130, some 131, some 132, some 133, some 134, some 135, some 136, some 137, some 138, some 139, none, none, none, none, none, some 140, some 141, some 142, some 143, some 144, some 145, some 146, some 147].getD j none
  else none
def ichk (w : Option (Nat × (Nat → Nat × Nat) × (Nat → Nat → Option Nat) × (Nat → Nat → Int32) × (Nat → Nat → Int64))) (M : Nat) : Bool := match w with
  | some (N, K, F, I, J) => decide (N = M) && (List.range M).all (fun k => decide (K k = kTab k) && (List.range 30).all (fun j => decide (fTab k j = none) || decide (F k j = fTab k j))) && (List.range M).all (fun k => (decide (27 ≤ k) && decide (k < 123)) || (List.range 64).all (fun j => decide (I k j = 0) && decide (J k j = 0)))
  | none => false
def w0 : Option (Nat × (Nat → Nat × Nat) × (Nat → Nat → Option Nat) × (Nat → Nat → Int32) × (Nat → Nat → Int64)) :=
  m0_init 10714 (0 + 1) (va_up xz_K 0 (0, 0)) (va_up xz_F 0 (fun _ => none)) (va_up xz_I 0 (fun _ => 0)) (va_up xz_J 0 (fun _ => 0)) 0
def w5 : Option (Nat × (Nat → Nat × Nat) × (Nat → Nat → Option Nat) × (Nat → Nat → Int32) × (Nat → Nat → Int64)) :=
  xb w0 fun (N7, K8, F9, I10, J11) => m5_init 17084 (N7 + 1) (va_up K8 N7 (0, 5)) (va_up F9 N7 (fun _ => none)) (va_up I10 N7 (fun _ => 0)) (va_up J11 N7 (fun _ => 0)) N7
set_option maxRecDepth 100000 in
theorem w0_ok : ichk w0 123 = true := by decide +kernel
set_option maxRecDepth 100000 in
theorem w5_ok : ichk w5 148 = true := by decide +kernel
/-- what the cells are, for good -/
def Lay (K : Nat → Nat × Nat) (F : Nat → Nat → Option Nat) : Prop := (∀ k, k < 148 → K k = kTab k) ∧ ∀ k, k < 148 → ∀ j, j < 30 → fTab k j ≠ none → F k j = fTab k j
theorem ichk_spec {w : Option (Nat × (Nat → Nat × Nat) × (Nat → Nat → Option Nat) × (Nat → Nat → Int32) × (Nat → Nat → Int64))} {M : Nat} (h : ichk w M = true) : ∃ K F I J, w = some (M, K, F, I, J) ∧ (∀ k, k < M → K k = kTab k ∧ ∀ j, j < 30 → fTab k j ≠ none → F k j = fTab k j) ∧ ∀ k, k < M → ¬ (27 ≤ k ∧ k < 123) → ∀ j, j < 64 → I k j = 0 ∧ J k j = 0 := by
  match w, h with
  | some (N, K, F, I, J), h =>
    simp only [ichk, Bool.and_eq_true, decide_eq_true_eq, List.all_eq_true, List.mem_range, Bool.or_eq_true] at h
    obtain ⟨⟨rfl, h1⟩, h2⟩ := h
    refine ⟨K, F, I, J, rfl, fun k hk => ⟨(h1 k hk).1, fun j hj hn => ((h1 k hk).2 j hj).resolve_left hn⟩, fun k hk hn j hj => ?_⟩
    exact ((h2 k hk).resolve_left hn) j hj
