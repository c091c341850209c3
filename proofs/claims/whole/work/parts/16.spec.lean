/-! what tables that follow others have -/
def dFilter (lo hi : Int64) (ρ : Nat → Option Int64) : Nat → Option Int64 := fun k => match ρ k with
  | none => none
  | some v => if v < lo then none else if hi < v then none else some v
def dMap (a b : Int64) (ρ : Nat → Option Int64) : Nat → Option Int64 := fun k => match ρ k with
  | none => none
  | some v => some (a * v + b)
def dJoin (kind : Int64) (ρ ρ' : Nat → Option Int64) : Nat → Option Int64 := fun k => match ρ k with
  | none => none
  | some v => match ρ' k with
    | some w => some (v + w)
    | none => if kind = 1 then some v else none
def dMerge (ρ ρ' : Nat → Option Int64) : Nat → Option Int64 := fun k => match ρ k with
  | none => ρ' k
  | some v => some v
def dLook (ρ ρ' : Nat → Option Int64) : Nat → Option Int64 := fun k => match ρ k with
  | none => none
  | some v => ρ' (nB v % 64)
/-- a fold's step: kind, what there was, the key, the value -/
def fStep (kind : Nat) (acc : Option Int64) (j : Nat) (v : Int64) : Int64 :=
  if kind = 0 then acc.getD 0 + 1
  else if kind = 1 then acc.getD 0 + v
  else if kind = 2 then (match acc with | none => v | some s => if v < s then v else s)
  else if kind = 3 then (match acc with | none => v | some s => if v < s then s else v)
  else lN j
def dFold (kind g : Nat) (ρ : Nat → Option Int64) : Nat → Nat → Option Int64
  | 0, _ => none
  | m + 1, k => if m % g = k then (match ρ m with | none => dFold kind g ρ m k | some v => some (fStep kind (dFold kind g ρ m k) m v)) else dFold kind g ρ m k
/-- how many rows stand ahead of key k with value v -/
def ahead (ρ : Nat → Option Int64) (k : Nat) (v : Int64) : Nat → Nat
  | 0 => 0
  | m + 1 => ahead ρ k v m + (match ρ m with | none => 0 | some x => if v < x ∨ (x = v ∧ m < k) then 1 else 0)
def dBest (n : Nat) (ρ : Nat → Option Int64) : Nat → Option Int64 := fun k => match ρ k with
  | none => none
  | some v => if ahead ρ k v 64 < n then some v else none
def pre (i : Nat) (σ : Nat → Option Int64) : Nat → Option Int64 := fun k => if k < i then σ k else none
theorem pre_none {i : Nat} {σ : Nat → Option Int64} (h : σ i = none) : pre (i + 1) σ = pre i σ := by
  funext k
  unfold pre
  by_cases e : k = i
  · subst e; simp [h]
  · have : (k < i + 1) = (k < i) := by apply propext; omega
    simp [this]
theorem pre_some {i : Nat} {σ : Nat → Option Int64} {v : Int64} (h : σ i = some v) : rset (pre i σ) i (some v) = pre (i + 1) σ := by
  funext k
  unfold pre rset
  by_cases e : k = i
  · subst e; simp [h]
  · have : (k < i + 1) = (k < i) := by apply propext; omega
    simp [this, e]
theorem pre_0 (σ : Nat → Option Int64) : pre 0 σ = fun _ => none := by funext k; simp [pre]
theorem RA_congr {J : Nat → Nat → Int64} {r : Nat} {ρ ρ' : Nat → Option Int64} (h : RA J r ρ) (e : ∀ k, k < 64 → ρ k = ρ' k) : RA J r ρ' := ⟨fun k hk => by rw [← e k hk]; exact h.1 k hk, fun k hk => by rw [← e k hk]; exact h.2 k hk⟩
theorem RA_64 {J : Nat → Nat → Int64} {r : Nat} {σ : Nat → Option Int64} (h : RA J r (pre 64 σ)) : RA J r σ := RA_congr h (fun k hk => by simp [pre, hk])
theorem RA_move {J J' : Nat → Nat → Int64} {r : Nat} {ρ : Nat → Option Int64} (h : RA J r ρ) (h1 : J' r = J r) (h2 : J' (r + 1) = J (r + 1)) : RA J' r ρ := ⟨fun k hk => by rw [h1]; exact h.1 k hk, fun k hk => by rw [h2]; exact h.2 k hk⟩
theorem RA_val {J : Nat → Nat → Int64} {r k : Nat} {ρ : Nat → Option Int64} {v : Int64} (h : RA J r ρ) (hk : k < 64) (e : ρ k = some v) : J (r + 1) k = v := by rw [h.2 k hk, e]; rfl
theorem RA_val0 {J : Nat → Nat → Int64} {r k : Nat} {ρ : Nat → Option Int64} (h : RA J r ρ) (hk : k < 64) (e : ρ k = none) : J (r + 1) k = 0 := by rw [h.2 k hk, e]; rfl
section
variable {K : Nat → Nat × Nat} {F : Nat → Nat → Option Nat} {I : Nat → Nat → Int32} {J : Nat → Nat → Int64} {r k : Nat} {ρ : Nat → Option Int64}
theorem m_holds0 (hr : RowsOk K F r) (hA : RA J r ρ) (hk : k < 64) (e : ρ k = none) : m3_holds 148 K F I J r (nI k) = some 0 := by rw [m_holds hr hA hk, e]; rfl
theorem m_holds1 {v : Int64} (hr : RowsOk K F r) (hA : RA J r ρ) (hk : k < 64) (e : ρ k = some v) : m3_holds 148 K F I J r (nI k) = some 1 := by rw [m_holds hr hA hk, e]; rfl
end
/-- a Table at T with what belongs to it -/
def TabOk (K : Nat → Nat × Nat) (F : Nat → Nat → Option Nat) (T : Nat) : Prop := T < 148 ∧ K T = (0, 4) ∧ F T 5 = some (T + 1) ∧ F T 6 = some (T + 3) ∧ F T 7 = some (T + 5) ∧ F T 8 = some (T + 7) ∧ T + 7 < 148 ∧ K (T + 7) = (1, 64) ∧ RowsOk K F (T + 1) ∧ RowsOk K F (T + 3) ∧ RowsOk K F (T + 5)
/-- but the next rows of the Table at T nothing moved -/
def FrT (J0 J : Nat → Nat → Int64) (T : Nat) : Prop := ∀ q, q ≠ T + 3 → q ≠ T + 4 → J q = J0 q
/-- rows apart from the next rows of the Table at T -/
def Apart (r T : Nat) : Prop := r ≠ T + 3 ∧ r ≠ T + 4 ∧ r + 1 ≠ T + 3 ∧ r + 1 ≠ T + 4
theorem FrT.ra {J0 J : Nat → Nat → Int64} {T r : Nat} {ρ : Nat → Option Int64} (h : FrT J0 J T) (ha : Apart r T) (hA : RA J0 r ρ) : RA J r ρ := RA_move hA (h r ha.1 ha.2.1) (h (r + 1) ha.2.2.1 ha.2.2.2)
theorem FrT.then {J0 J J' : Nat → Nat → Int64} {T : Nat} (h : FrT J0 J T) (h' : FrR J J' (T + 3)) : FrT J0 J' T := fun q a b => by rw [h' q a b, h q a b]
