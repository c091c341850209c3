/-! the state that both sides have, and how their cells hold it -/
def tw (s : Nat) : Bool := s == 4 || s == 5 || s == 7
def Shp (n : Nat) (so o1 o2 : Nat → Nat) (p q : Nat → Int64) : Prop := n ≤ 12 ∧ ∀ t, t < n → pOk (so t) (p t) (q t) ∧ (so t ≠ 0 → o1 t < t ∧ o2 t < t)
def Der (n : Nat) (so o1 o2 : Nat → Nat) (p q : Nat → Int64) (ρ : Nat → Nat → Option Int64) : Prop := ∀ t, t < n → so t ≠ 0 → ∀ k, k < 64 → ρ t k = dTab (so t) (p t) (q t) (ρ (o1 t)) (ρ (o2 t)) k
def BOk (n : Nat) (so : Nat → Nat) (b : List (Nat × Nat × Option Int64)) : Prop := b.length ≤ 40 ∧ ∀ (i t k : Nat) (v : Option Int64), b[i]? = some (t, k, v) → t < n ∧ so t = 0 ∧ k < 64
def EOk (m : Nat) (l : List (Nat × Nat × Option Int64 × Option Int64)) : Prop := l.length ≤ m ∧ ∀ (i t k : Nat) (o w : Option Int64), l[i]? = some (t, k, o, w) → t < 12 ∧ k < 64 ∧ o ≠ w
def srt (o w : Option Int64) : Nat := if o.isSome then (if w.isSome then 1 else 2) else 0
theorem srt_le (o w : Option Int64) : srt o w ≤ 2 := by cases o <;> cases w <;> simp [srt]
def CDef (I : Nat → Nat → Int32) (J : Nat → Nat → Int64) (n : Nat) (so o1 o2 : Nat → Nat) (p q : Nat → Int64) : Prop := I 0 1 = nI n ∧ ∀ t, t < n → I (27 + 8 * t) 0 = nI (so t) ∧ I (27 + 8 * t) 1 = (if so t = 0 then -1 else nI (o1 t)) ∧ I (27 + 8 * t) 2 = (if tw (so t) = true then nI (o2 t) else -1) ∧ J (27 + 8 * t) 3 = p t ∧ J (27 + 8 * t) 4 = q t
def CRows (J : Nat → Nat → Int64) (n off : Nat) (ρ : Nat → Nat → Option Int64) : Prop := ∀ t, t < n → RA J (27 + 8 * t + off) (ρ t)
def CBat (I : Nat → Nat → Int32) (J : Nat → Nat → Int64) (bo : Bool) (b : List (Nat × Nat × Option Int64)) : Prop := I 2 0 = bi bo ∧ (bo = true → I 2 1 = nI b.length ∧ ∀ (i t k : Nat) (v : Option Int64), b[i]? = some (t, k, v) → I 3 i = nI t ∧ I 4 i = nI k ∧ I 5 i = bi v.isSome ∧ J 6 i = v.getD 0)
def CLst (I : Nat → Nat → Int32) (J : Nat → Nat → Int64) (c : Nat) (l : List (Nat × Nat × Option Int64 × Option Int64)) : Prop := I c 0 = nI l.length ∧ ∀ (i t k : Nat) (o w : Option Int64), l[i]? = some (t, k, o, w) → I (c + 1) i = nI (256 * t + 64 * srt o w + k) ∧ J (c + 2) i = o.getD 0 ∧ J (c + 3) i = w.getD 0
def RDef (I : Nat → Nat → Int32) (J : Nat → Nat → Int64) (n : Nat) (so o1 o2 : Nat → Nat) (p q : Nat → Int64) : Prop := I 123 0 = nI n ∧ ∀ t, t < n → I 124 t = nI (so t) ∧ I 125 t = nI (o1 t) ∧ I 126 t = nI (o2 t) ∧ J 127 t = p t ∧ J 128 t = q t ∧ (so t = 0 → o1 t = 0) ∧ (tw (so t) = false → o2 t = 0)
/-- rows in flat cells h, v -/
def RRows (I : Nat → Nat → Int32) (J : Nat → Nat → Int64) (h v n : Nat) (ρ : Nat → Nat → Option Int64) : Prop := ∀ t, t < n → ∀ k, k < 64 → I h (64 * t + k) = bi (ρ t k).isSome ∧ J v (64 * t + k) = (ρ t k).getD 0
def RBat (I : Nat → Nat → Int32) (J : Nat → Nat → Int64) (bo : Bool) (b : List (Nat × Nat × Option Int64)) : Prop := I 123 20 = bi bo ∧ (bo = true → I 123 21 = nI b.length ∧ ∀ (i t k : Nat) (v : Option Int64), b[i]? = some (t, k, v) → I 140 i = nI t ∧ I 141 i = nI k ∧ I 142 i = bi v.isSome ∧ J 143 i = v.getD 0)
def RLst (I : Nat → Nat → Int32) (J : Nat → Nat → Int64) (f off : Nat) (l : List (Nat × Nat × Option Int64 × Option Int64)) : Prop := I 123 f = nI l.length ∧ ∀ (i t k : Nat) (o w : Option Int64), l[i]? = some (t, k, o, w) → I 135 (off + i) = nI t ∧ I 136 (off + i) = nI (srt o w) ∧ I 137 (off + i) = nI k ∧ J 138 (off + i) = o.getD 0 ∧ J 139 (off + i) = w.getD 0
def RCp (I : Nat → Nat → Int32) (J : Nat → Nat → Int64) (κ : Nat → Option Int64) : Prop := ∀ k, k < 64 → I 144 k = bi (κ k).isSome ∧ ∀ v, κ k = some v → J 145 k = v
def WS (n : Nat) (so o1 o2 : Nat → Nat) (p q : Nat → Int64) (ρ : Nat → Nat → Option Int64) (b : List (Nat × Nat × Option Int64)) (lg td nt : List (Nat × Nat × Option Int64 × Option Int64)) : Prop := Shp n so o1 o2 p q ∧ Der n so o1 o2 p q ρ ∧ BOk n so b ∧ EOk 1500 lg ∧ EOk 768 td ∧ EOk 64 nt
def CS (I : Nat → Nat → Int32) (J : Nat → Nat → Int64) (n : Nat) (so o1 o2 : Nat → Nat) (p q : Nat → Int64) (ρ β : Nat → Nat → Option Int64) (bo : Bool) (b : List (Nat × Nat × Option Int64)) (lg td nt : List (Nat × Nat × Option Int64 × Option Int64)) (κ : Nat → Option Int64) : Prop := CDef I J n so o1 o2 p q ∧ CRows J n 1 ρ ∧ CRows J n 3 ρ ∧ CRows J n 5 β ∧ CBat I J bo b ∧ CLst I J 7 lg ∧ CLst I J 11 td ∧ CLst I J 15 nt ∧ RA J 19 κ ∧ RA J 25 (fun _ => none)
def RS (I : Nat → Nat → Int32) (J : Nat → Nat → Int64) (n : Nat) (so o1 o2 : Nat → Nat) (p q : Nat → Int64) (ρ β : Nat → Nat → Option Int64) (bo : Bool) (b : List (Nat × Nat × Option Int64)) (lg td nt : List (Nat × Nat × Option Int64 × Option Int64)) (κ : Nat → Option Int64) : Prop := RDef I J n so o1 o2 p q ∧ RRows I J 129 130 n ρ ∧ RRows I J 133 134 n β ∧ RBat I J bo b ∧ RLst I J 17 0 lg ∧ RLst I J 18 1500 td ∧ RLst I J 19 2300 nt ∧ RCp I J κ
def Inv (I : Nat → Nat → Int32) (J : Nat → Nat → Int64) : Prop := ∃ n so o1 o2 p q ρ β bo b lg td nt κ, WS n so o1 o2 p q ρ b lg td nt ∧ CS I J n so o1 o2 p q ρ β bo b lg td nt κ ∧ RS I J n so o1 o2 p q ρ β bo b lg td nt κ
/-- the reference's cells stay -/
def HiF (I I' : Nat → Nat → Int32) (J J' : Nat → Nat → Int64) : Prop := ∀ a, 123 ≤ a → I' a = I a ∧ J' a = J a
/-- the class's cells stay -/
def LoF (I I' : Nat → Nat → Int32) (J J' : Nat → Nat → Int64) : Prop := ∀ a, a < 123 → I' a = I a ∧ J' a = J a
section
variable {I I' : Nat → Nat → Int32} {J J' : Nat → Nat → Int64} {n : Nat} {so o1 o2 : Nat → Nat} {p q : Nat → Int64} {ρ β : Nat → Nat → Option Int64} {bo : Bool} {b : List (Nat × Nat × Option Int64)} {lg td nt l : List (Nat × Nat × Option Int64 × Option Int64)} {κ : Nat → Option Int64}
theorem CDef.fr (h : CDef I J n so o1 o2 p q) (h0 : I' 0 = I 0) (hT : ∀ t, t < n → I' (27 + 8 * t) = I (27 + 8 * t) ∧ J' (27 + 8 * t) 3 = J (27 + 8 * t) 3 ∧ J' (27 + 8 * t) 4 = J (27 + 8 * t) 4) : CDef I' J' n so o1 o2 p q := ⟨by rw [h0]; exact h.1, fun t ht => by
  obtain ⟨a, b, c⟩ := hT t ht
  rw [a, b, c]; exact h.2 t ht⟩
theorem CRows.fr {off : Nat} (h : CRows J n off ρ) (hT : ∀ t, t < n → J' (27 + 8 * t + off) = J (27 + 8 * t + off) ∧ J' (27 + 8 * t + off + 1) = J (27 + 8 * t + off + 1)) : CRows J' n off ρ := fun t ht => RA_move (h t ht) (hT t ht).1 (hT t ht).2
theorem CBat.fr (h : CBat I J bo b) (h2 : I' 2 = I 2) (h3 : I' 3 = I 3) (h4 : I' 4 = I 4) (h5 : I' 5 = I 5) (h6 : J' 6 = J 6) : CBat I' J' bo b := by unfold CBat; rw [h2, h3, h4, h5, h6]; exact h
theorem CLst.fr {c : Nat} (h : CLst I J c l) (h0 : I' c = I c) (h1 : I' (c + 1) = I (c + 1)) (h2 : J' (c + 2) = J (c + 2)) (h3 : J' (c + 3) = J (c + 3)) : CLst I' J' c l := by unfold CLst; rw [h0, h1, h2, h3]; exact h
theorem RDef.fr (h : RDef I J n so o1 o2 p q) (h0 : I' 123 0 = I 123 0) (h1 : I' 124 = I 124) (h2 : I' 125 = I 125) (h3 : I' 126 = I 126) (h4 : J' 127 = J 127) (h5 : J' 128 = J 128) : RDef I' J' n so o1 o2 p q := by unfold RDef; rw [h0, h1, h2, h3, h4, h5]; exact h
theorem RRows.fr {hh v : Nat} (h : RRows I J hh v n ρ) (h0 : I' hh = I hh) (h1 : J' v = J v) : RRows I' J' hh v n ρ := by unfold RRows; rw [h0, h1]; exact h
theorem RBat.fr (h : RBat I J bo b) (h0 : I' 123 20 = I 123 20) (h1 : I' 123 21 = I 123 21) (h2 : I' 140 = I 140) (h3 : I' 141 = I 141) (h4 : I' 142 = I 142) (h5 : J' 143 = J 143) : RBat I' J' bo b := by unfold RBat; rw [h0, h1, h2, h3, h4, h5]; exact h
theorem RLst.fr {f off : Nat} (h : RLst I J f off l) (h0 : I' 123 f = I 123 f) (h1 : ∀ x, off ≤ x → x < off + l.length → I' 135 x = I 135 x ∧ I' 136 x = I 136 x ∧ I' 137 x = I 137 x ∧ J' 138 x = J 138 x ∧ J' 139 x = J 139 x) : RLst I' J' f off l := ⟨by rw [h0]; exact h.1, fun i t k o w e => by
  have hi : i < l.length := by
    rcases Nat.lt_or_ge i l.length with z | z
    · exact z
    · rw [List.getElem?_eq_none z] at e; cases e
  obtain ⟨a, b, c, d, f⟩ := h1 (off + i) (by omega) (by omega)
  rw [a, b, c, d, f]; exact h.2 i t k o w e⟩
theorem RLst.fr' {f off : Nat} (h : RLst I J f off l) (h0 : I' 123 f = I 123 f) (h1 : I' 135 = I 135) (h2 : I' 136 = I 136) (h3 : I' 137 = I 137) (h4 : J' 138 = J 138) (h5 : J' 139 = J 139) : RLst I' J' f off l := h.fr h0 fun x _ _ => ⟨by rw [h1], by rw [h2], by rw [h3], by rw [h4], by rw [h5]⟩
theorem RCp.fr (h : RCp I J κ) (h0 : I' 144 = I 144) (h1 : J' 145 = J 145) : RCp I' J' κ := by unfold RCp; rw [h0, h1]; exact h
theorem CS.fr (hn : n ≤ 12) (h : CS I J n so o1 o2 p q ρ β bo b lg td nt κ) (f : LoF I I' J J') : CS I' J' n so o1 o2 p q ρ β bo b lg td nt κ := by
  obtain ⟨h1, h2, h3, h4, h5, h6, h7, h8, h9, h10⟩ := h
  have fi : ∀ a, a < 123 → I' a = I a := fun a ha => (f a ha).1
  have fj : ∀ a, a < 123 → J' a = J a := fun a ha => (f a ha).2
  refine ⟨h1.fr (fi 0 (by decide)) (fun t ht => ⟨fi _ (by omega), by rw [fj _ (by omega)], by rw [fj _ (by omega)]⟩), h2.fr (fun t ht => ⟨fj _ (by omega), fj _ (by omega)⟩), h3.fr (fun t ht => ⟨fj _ (by omega), fj _ (by omega)⟩), h4.fr (fun t ht => ⟨fj _ (by omega), fj _ (by omega)⟩), h5.fr (fi _ (by decide)) (fi _ (by decide)) (fi _ (by decide)) (fi _ (by decide)) (fj _ (by decide)), ?_, ?_, ?_, RA_move h9 (fj _ (by decide)) (fj _ (by decide)), RA_move h10 (fj _ (by decide)) (fj _ (by decide))⟩
  · exact h6.fr (fi _ (by decide)) (fi _ (by decide)) (fj _ (by decide)) (fj _ (by decide))
  · exact h7.fr (fi _ (by decide)) (fi _ (by decide)) (fj _ (by decide)) (fj _ (by decide))
  · exact h8.fr (fi _ (by decide)) (fi _ (by decide)) (fj _ (by decide)) (fj _ (by decide))
theorem RS.fr (h : RS I J n so o1 o2 p q ρ β bo b lg td nt κ) (f : HiF I I' J J') : RS I' J' n so o1 o2 p q ρ β bo b lg td nt κ := by
  obtain ⟨h1, h2, h3, h4, h5, h6, h7, h8⟩ := h
  have fi : ∀ a, 123 ≤ a → I' a = I a := fun a ha => (f a ha).1
  have fj : ∀ a, 123 ≤ a → J' a = J a := fun a ha => (f a ha).2
  have f3 : I' 123 = I 123 := fi 123 (by decide)
  refine ⟨h1.fr (by rw [f3]) (fi _ (by decide)) (fi _ (by decide)) (fi _ (by decide)) (fj _ (by decide)) (fj _ (by decide)), h2.fr (fi _ (by decide)) (fj _ (by decide)), h3.fr (fi _ (by decide)) (fj _ (by decide)), h4.fr (by rw [f3]) (by rw [f3]) (fi _ (by decide)) (fi _ (by decide)) (fi _ (by decide)) (fj _ (by decide)), ?_, ?_, ?_, h8.fr (fi _ (by decide)) (fj _ (by decide))⟩
  · exact h5.fr' (by rw [f3]) (fi _ (by decide)) (fi _ (by decide)) (fi _ (by decide)) (fj _ (by decide)) (fj _ (by decide))
  · exact h6.fr' (by rw [f3]) (fi _ (by decide)) (fi _ (by decide)) (fi _ (by decide)) (fj _ (by decide)) (fj _ (by decide))
  · exact h7.fr' (by rw [f3]) (fi _ (by decide)) (fi _ (by decide)) (fi _ (by decide)) (fj _ (by decide)) (fj _ (by decide))
theorem HiF.self : HiF I I J J := fun _ _ => ⟨rfl, rfl⟩
theorem LoF.self : LoF I I J J := fun _ _ => ⟨rfl, rfl⟩
theorem HiF.trans {I2 : Nat → Nat → Int32} {J2 : Nat → Nat → Int64} (h : HiF I I' J J') (h' : HiF I' I2 J' J2) : HiF I I2 J J2 := fun a ha => ⟨by rw [(h' a ha).1, (h a ha).1], by rw [(h' a ha).2, (h a ha).2]⟩
theorem LoF.trans {I2 : Nat → Nat → Int32} {J2 : Nat → Nat → Int64} (h : LoF I I' J J') (h' : LoF I' I2 J' J2) : LoF I I2 J J2 := fun a ha => ⟨by rw [(h' a ha).1, (h a ha).1], by rw [(h' a ha).2, (h a ha).2]⟩
theorem get_lt {α : Type} {l : List α} {i : Nat} {e : α} (h : l[i]? = some e) : i < l.length := by
  rcases Nat.lt_or_ge i l.length with z | z
  · exact z
  · rw [List.getElem?_eq_none z] at h; cases h
theorem get_ex {α : Type} {l : List α} {i : Nat} (h : i < l.length) : ∃ e, l[i]? = some e := ⟨l[i], List.getElem?_eq_getElem h⟩
end
