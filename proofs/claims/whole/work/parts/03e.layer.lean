/-! glue between models and rows -/
def xlet {α β : Type} (a : α) (f : α → Option β) : Option β := f a
def xb {α β : Type} (a : Option α) (f : α → Option β) : Option β := a.bind f
theorem x_le {α β : Type} {a : α} {f : α → Option β} {r : β} (h : xlet a f = some r) : ∃ x, x = a ∧ f x = some r := ⟨a, rfl, h⟩
theorem x_bd {α β : Type} {a : Option α} {f : α → Option β} {r : β} (h : xb a f = some r) : ∃ x, a = some x ∧ f x = some r := Option.bind_eq_some_iff.mp h
theorem x_gd {c : Prop} [Decidable c] {α : Type} {a : Option α} {r : α} (h : (if c then a else none) = some r) : c ∧ a = some r := by
  by_cases hc : c
  · rw [if_pos hc] at h
    exact ⟨hc, h⟩
  · rw [if_neg hc] at h
    cases h
theorem x_nn {p : Prop} (h : p) : ¬ ¬ p := fun q => q h
abbrev xinb (i : Int32) (n : Nat) : Prop := ¬ (i < 0 ∨ n ≤ i.toNatClampNeg)
theorem x_in {i : Int32} {n : Nat} (h : xinb i n) : xat i n i.toNatClampNeg := ⟨h, rfl⟩
theorem x_kd {q : Nat × Nat} {t : Nat} (h : q.1 = t) : q = (t, q.2) := by rw [← h]
theorem x_nbool {v : Int32} (h : v = 0 ∨ v = 1) : narrow .boolean (.int v) = .int v := by rcases h with rfl | rfl <;> rfl
theorem x_fbool {v : Int32} (h : v = 0 ∨ v = 1) : fits .boolean (.int v) = true := by rcases h with rfl | rfl <;> rfl
/-- enough rounds for any loop here -/
def xFu : Nat := 4096
def xq (w : Option Value) (P : Heap → Prop) : Option Value → Heap → Prop := fun q H => q = w ∧ P H
section XK
variable {X : xX} {cc : ByteArray} {own : String} {nL B a b : Nat} {g : xG} {Z : State → Prop} {P : Heap → Prop} {pc : Nat} {L : List (Nat × Value)} {st : List Value}
theorem x_kki {v : Int32} (k : xV X B nL Z a b P pc L (.int v :: st)) : ∀ r, xV X B nL Z a b (xq (some (.int v)) P r) pc L (r.toList ++ st) := fun r H locs ls hP hS hl => by
  obtain ⟨rfl, hP⟩ := hP
  exact k H locs ls hP hS hl
theorem x_kkl {v : Int64} (k : xV X B nL Z a b P pc L (.long v :: st)) : ∀ r, xV X B nL Z a b (xq (some (.long v)) P r) pc L (r.toList ++ st) := fun r H locs ls hP hS hl => by
  obtain ⟨rfl, hP⟩ := hP
  exact k H locs ls hP hS hl
theorem x_kkr {v : Nat} (k : xV X B nL Z a b P pc L (.ref v :: st)) : ∀ r, xV X B nL Z a b (xq (some (.ref v)) P r) pc L (r.toList ++ st) := fun r H locs ls hP hS hl => by
  obtain ⟨rfl, hP⟩ := hP
  exact k H locs ls hP hS hl
theorem x_kkn (k : xV X B nL Z a b P pc L (.null :: st)) : ∀ r, xV X B nL Z a b (xq (some .null) P r) pc L (r.toList ++ st) := fun r H locs ls hP hS hl => by
  obtain ⟨rfl, hP⟩ := hP
  exact k H locs ls hP hS hl
theorem x_kkv (k : xV X B nL Z a b P pc L st) : ∀ r, xV X B nL Z a b (xq none P r) pc L (r.toList ++ st) := fun r H locs ls hP hS hl => by
  obtain ⟨rfl, hP⟩ := hP
  exact k H locs ls hP hS hl
theorem x_lif_eq (hX : xO X cc own nL B g) {x y : Int64} {off : Int} {tgt : Nat} (hd : decode cc pc = .ok (.lcmp, 1)) (hd2 : decode cc (pc + 1) = .ok (.ifCond .eq off, 3)) (ht : ((pc + 1 : Nat) : Int) + off = (tgt : Int)) (kt : x = y → xV X B nL Z a b P tgt L st) (kf : ¬ x = y → xV X B nL Z a b P (pc + 1 + 3) L st) : xV X B nL Z a b P pc L (.long y :: .long x :: st) :=
  x_lcmp hX hd (x_if_eq hX hd2 ht (fun h => kt ((lg_cmp_eq x y).mp h)) (fun h => kf (fun q => h ((lg_cmp_eq x y).mpr q))))
theorem x_lif_ne (hX : xO X cc own nL B g) {x y : Int64} {off : Int} {tgt : Nat} (hd : decode cc pc = .ok (.lcmp, 1)) (hd2 : decode cc (pc + 1) = .ok (.ifCond .ne off, 3)) (ht : ((pc + 1 : Nat) : Int) + off = (tgt : Int)) (kt : ¬ x = y → xV X B nL Z a b P tgt L st) (kf : x = y → xV X B nL Z a b P (pc + 1 + 3) L st) : xV X B nL Z a b P pc L (.long y :: .long x :: st) :=
  x_lcmp hX hd (x_if_ne hX hd2 ht (fun h => kt (fun q => h ((lg_cmp_eq x y).mpr q))) (fun h => kf ((lg_cmp_eq x y).mp h)))
theorem x_lif_lt (hX : xO X cc own nL B g) {x y : Int64} {off : Int} {tgt : Nat} (hd : decode cc pc = .ok (.lcmp, 1)) (hd2 : decode cc (pc + 1) = .ok (.ifCond .lt off, 3)) (ht : ((pc + 1 : Nat) : Int) + off = (tgt : Int)) (kt : x < y → xV X B nL Z a b P tgt L st) (kf : ¬ x < y → xV X B nL Z a b P (pc + 1 + 3) L st) : xV X B nL Z a b P pc L (.long y :: .long x :: st) :=
  x_lcmp hX hd (x_if_lt hX hd2 ht (fun h => kt ((lg_cmp_lt x y).mp h)) (fun h => kf (fun q => h ((lg_cmp_lt x y).mpr q))))
theorem x_lif_ge (hX : xO X cc own nL B g) {x y : Int64} {off : Int} {tgt : Nat} (hd : decode cc pc = .ok (.lcmp, 1)) (hd2 : decode cc (pc + 1) = .ok (.ifCond .ge off, 3)) (ht : ((pc + 1 : Nat) : Int) + off = (tgt : Int)) (kt : y ≤ x → xV X B nL Z a b P tgt L st) (kf : ¬ y ≤ x → xV X B nL Z a b P (pc + 1 + 3) L st) : xV X B nL Z a b P pc L (.long y :: .long x :: st) :=
  x_lcmp hX hd (x_if_ge hX hd2 ht (fun h => kt ((lg_cmp_ge x y).mp h)) (fun h => kf (fun q => h ((lg_cmp_ge x y).mpr q))))
theorem x_lif_gt (hX : xO X cc own nL B g) {x y : Int64} {off : Int} {tgt : Nat} (hd : decode cc pc = .ok (.lcmp, 1)) (hd2 : decode cc (pc + 1) = .ok (.ifCond .gt off, 3)) (ht : ((pc + 1 : Nat) : Int) + off = (tgt : Int)) (kt : y < x → xV X B nL Z a b P tgt L st) (kf : ¬ y < x → xV X B nL Z a b P (pc + 1 + 3) L st) : xV X B nL Z a b P pc L (.long y :: .long x :: st) :=
  x_lcmp hX hd (x_if_gt hX hd2 ht (fun h => kt ((lg_cmp_gt x y).mp h)) (fun h => kf (fun q => h ((lg_cmp_gt x y).mpr q))))
theorem x_lif_le (hX : xO X cc own nL B g) {x y : Int64} {off : Int} {tgt : Nat} (hd : decode cc pc = .ok (.lcmp, 1)) (hd2 : decode cc (pc + 1) = .ok (.ifCond .le off, 3)) (ht : ((pc + 1 : Nat) : Int) + off = (tgt : Int)) (kt : x ≤ y → xV X B nL Z a b P tgt L st) (kf : ¬ x ≤ y → xV X B nL Z a b P (pc + 1 + 3) L st) : xV X B nL Z a b P pc L (.long y :: .long x :: st) :=
  x_lcmp hX hd (x_if_le hX hd2 ht (fun h => kt ((lg_cmp_le x y).mp h)) (fun h => kf (fun q => h ((lg_cmp_le x y).mpr q))))
theorem x_ldc (hX : xO X cc own nL B g) {index : Nat} {v : Int32} (hc : xm (.constant own index v)) (hd : decode cc pc = .ok (.ldc index, 2)) (k : xV X B nL Z a b P (pc + 2) L (.int v :: st)) : xV X B nL Z a b P pc L st :=
  fun H locs ls hP hS hl => lv_ldc hX.1 hX.2.1 hX.2.2.2.1 (hX.2.2.2.2.2.2.2.m hc) hd (k H locs ls hP hS hl)
theorem x_ldcw (hX : xO X cc own nL B g) {index : Nat} {v : Int32} (hc : xm (.constant own index v)) (hd : decode cc pc = .ok (.ldc_w index, 3)) (k : xV X B nL Z a b P (pc + 3) L (.int v :: st)) : xV X B nL Z a b P pc L st :=
  fun H locs ls hP hS hl => lv_ldcw hX.1 hX.2.1 hX.2.2.2.1 (hX.2.2.2.2.2.2.2.m hc) hd (k H locs ls hP hS hl)
theorem x_ldc2 (hX : xO X cc own nL B g) {index : Nat} {v : Int64} (hc : xm (.constantLong own index v)) (hd : decode cc pc = .ok (.ldc2_w index, 3)) (k : xV X B nL Z a b P (pc + 3) L (.long v :: st)) : xV X B nL Z a b P pc L st :=
  fun H locs ls hP hS hl => lv_ldc2 hX.1 hX.2.1 hX.2.2.2.1 (hX.2.2.2.2.2.2.2.m hc) hd (k H locs ls hP hS hl)
end XK
