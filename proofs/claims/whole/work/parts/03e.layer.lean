/-! glue between models and rows -/
def xlet {α β : Type} (a : α) (f : α → Option β) : Option β := f a
def xb {α β : Type} (a : Option α) (f : α → Option β) : Option β := a.bind f
theorem x_le {α β : Type} {a : α} {f : α → Option β} {r : β} (h : xlet a f = some r) : ∃ x, x = a ∧ f x = some r := ⟨a, rfl, h⟩
theorem x_bd {α β : Type} {a : Option α} {f : α → Option β} {r : β} (h : xb a f = some r) : ∃ x, a = some x ∧ f x = some r := Option.bind_eq_some_iff.mp h
theorem x_gd {c : Prop} [Decidable c] {α : Type} {a : Option α} {r : α} (h : (if c then a else none) = some r) : c ∧ a = some r := by
  by_cases hc : c
  · rw [if_pos hc] at h
    exact ⟨hc, h⟩
  · rw [if_neg hc] at h
    cases h
theorem x_nn {p : Prop} (h : p) : ¬ ¬ p := fun q => q h
abbrev xinb (i : Int32) (n : Nat) : Prop := ¬ (i < 0 ∨ n ≤ i.toNatClampNeg)
theorem x_in {i : Int32} {n : Nat} (h : xinb i n) : xat i n i.toNatClampNeg := ⟨h, rfl⟩
theorem x_kd {q : Nat × Nat} {t : Nat} (h : q.1 = t) : q = (t, q.2) := by rw [← h]
theorem x_nbool {v : Int32} (h : v = 0 ∨ v = 1) : narrow .boolean (.int v) = .int v := by rcases h with rfl | rfl <;> rfl
theorem x_fbool {v : Int32} (h : v = 0 ∨ v = 1) : fits .boolean (.int v) = true := by rcases h with rfl | rfl <;> rfl
/-- enough rounds for any loop here -/
def xFu : Nat := 4096
def xq (w : Option Value) (P : Heap → Prop) : Option Value → Heap → Prop := fun q H => q = w ∧ P H
section XK
variable {X : xX} {cc : ByteArray} {own : String} {nL B a b : Nat} {g : xG} {Z : State → Prop} {P : Heap → Prop} {pc : Nat} {L : List (Nat × Value)} {st : List Value}
theorem x_kki {v : Int32} (k : xV X B nL Z a b P pc L (.int v :: st)) : ∀ r, xV X B nL Z a b (xq (some (.int v)) P r) pc L (r.toList ++ st) := fun r H locs ls hP hS hl => by
  obtain ⟨rfl, hP⟩ := hP
  exact k H locs ls hP hS hl
theorem x_kkl {v : Int64} (k : xV X B nL Z a b P pc L (.long v :: st)) : ∀ r, xV X B nL Z a b (xq (some (.long v)) P r) pc L (r.toList ++ st) := fun r H locs ls hP hS hl => by
  obtain ⟨rfl, hP⟩ := hP
  exact k H locs ls hP hS hl
theorem x_kkr {v : Nat} (k : xV X B nL Z a b P pc L (.ref v :: st)) : ∀ r, xV X B nL Z a b (xq (some (.ref v)) P r) pc L (r.toList ++ st) := fun r H locs ls hP hS hl => by
  obtain ⟨rfl, hP⟩ := hP
  exact k H locs ls hP hS hl
theorem x_kkn (k : xV X B nL Z a b P pc L (.null :: st)) : ∀ r, xV X B nL Z a b (xq (some .null) P r) pc L (r.toList ++ st) := fun r H locs ls hP hS hl => by
  obtain ⟨rfl, hP⟩ := hP
  exact k H locs ls hP hS hl
theorem x_kkv (k : xV X B nL Z a b P pc L st) : ∀ r, xV X B nL Z a b (xq none P r) pc L (r.toList ++ st) := fun r H locs ls hP hS hl => by
  obtain ⟨rfl, hP⟩ := hP
  exact k H locs ls hP hS hl
theorem x_lif_eq (hX : xO X cc own nL B g) {x y : Int64} {off : Int} {tgt : Nat} (hd : decode cc pc = .ok (.lcmp, 1)) (hd2 : decode cc (pc + 1) = .ok (.ifCond .eq off, 3)) (ht : ((pc + 1 : Nat) : Int) + off = (tgt : Int)) (kt : x = y → xV X B nL Z a b P tgt L st) (kf : ¬ x = y → xV X B nL Z a b P (pc + 1 + 3) L st) : xV X B nL Z a b P pc L (.long y :: .long x :: st) :=
  x_lcmp hX hd (x_if_eq hX hd2 ht (fun h => kt ((lg_cmp_eq x y).mp h)) (fun h => kf (fun q => h ((lg_cmp_eq x y).mpr q))))
theorem x_lif_ne (hX : xO X cc own nL B g) {x y : Int64} {off : Int} {tgt : Nat} (hd : decode cc pc = .ok (.lcmp, 1)) (hd2 : decode cc (pc + 1) = .ok (.ifCond .ne off, 3)) (ht : ((pc + 1 : Nat) : Int) + off = (tgt : Int)) (kt : ¬ x = y → xV X B nL Z a b P tgt L st) (kf : x = y → xV X B nL Z a b P (pc + 1 + 3) L st) : xV X B nL Z a b P pc L (.long y :: .long x :: st) :=
  x_lcmp hX hd (x_if_ne hX hd2 ht (fun h => kt (fun q => h ((lg_cmp_eq x y).mpr q))) (fun h => kf ((lg_cmp_eq x y).mp h)))
theorem x_lif_lt (hX : xO X cc own nL B g) {x y : Int64} {off : Int} {tgt : Nat} (hd : decode cc pc = .ok (.lcmp, 1)) (hd2 : decode cc (pc + 1) = .ok (.ifCond .lt off, 3)) (ht : ((pc + 1 : Nat) : Int) + off = (tgt : Int)) (kt : x < y → xV X B nL Z a b P tgt L st) (kf : ¬ x < y → xV X B nL Z a b P (pc + 1 + 3) L st) : xV X B nL Z a b P pc L (.long y :: .long x :: st) :=
  x_lcmp hX hd (x_if_lt hX hd2 ht (fun h => kt ((lg_cmp_lt x y).mp h)) (fun h => kf (fun q => h ((lg_cmp_lt x y).mpr q))))
theorem x_lif_ge (hX : xO X cc own nL B g) {x y : Int64} {off : Int} {tgt : Nat} (hd : decode cc pc = .ok (.lcmp, 1)) (hd2 : decode cc (pc + 1) = .ok (.ifCond .ge off, 3)) (ht : ((pc + 1 : Nat) : Int) + off = (tgt : Int)) (kt : y ≤ x → xV X B nL Z a b P tgt L st) (kf : ¬ y ≤ x → xV X B nL Z a b P (pc + 1 + 3) L st) : xV X B nL Z a b P pc L (.long y :: .long x :: st) :=
  x_lcmp hX hd (x_if_ge hX hd2 ht (fun h => kt ((lg_cmp_ge x y).mp h)) (fun h => kf (fun q => h ((lg_cmp_ge x y).mpr q))))
theorem x_lif_gt (hX : xO X cc own nL B g) {x y : Int64} {off : Int} {tgt : Nat} (hd : decode cc pc = .ok (.lcmp, 1)) (hd2 : decode cc (pc + 1) = .ok (.ifCond .gt off, 3)) (ht : ((pc + 1 : Nat) : Int) + off = (tgt : Int)) (kt : y < x → xV X B nL Z a b P tgt L st) (kf : ¬ y < x → xV X B nL Z a b P (pc + 1 + 3) L st) : xV X B nL Z a b P pc L (.long y :: .long x :: st) :=
  x_lcmp hX hd (x_if_gt hX hd2 ht (fun h => kt ((lg_cmp_gt x y).mp h)) (fun h => kf (fun q => h ((lg_cmp_gt x y).mpr q))))
theorem x_lif_le (hX : xO X cc own nL B g) {x y : Int64} {off : Int} {tgt : Nat} (hd : decode cc pc = .ok (.lcmp, 1)) (hd2 : decode cc (pc + 1) = .ok (.ifCond .le off, 3)) (ht : ((pc + 1 : Nat) : Int) + off = (tgt : Int)) (kt : x ≤ y → xV X B nL Z a b P tgt L st) (kf : ¬ x ≤ y → xV X B nL Z a b P (pc + 1 + 3) L st) : xV X B nL Z a b P pc L (.long y :: .long x :: st) :=
  x_lcmp hX hd (x_if_le hX hd2 ht (fun h => kt ((lg_cmp_le x y).mp h)) (fun h => kf (fun q => h ((lg_cmp_le x y).mpr q))))
theorem x_ldc (hX : xO X cc own nL B g) {index : Nat} {v : Int32} (hc : xm (.constant own index v)) (hd : decode cc pc = .ok (.ldc index, 2)) (k : xV X B nL Z a b P (pc + 2) L (.int v :: st)) : xV X B nL Z a b P pc L st :=
  fun H locs ls hP hS hl => lv_ldc hX.1 hX.2.1 hX.2.2.2.1 (hX.2.2.2.2.2.2.2.m hc) hd (k H locs ls hP hS hl)
theorem x_ldcw (hX : xO X cc own nL B g) {index : Nat} {v : Int32} (hc : xm (.constant own index v)) (hd : decode cc pc = .ok (.ldc_w index, 3)) (k : xV X B nL Z a b P (pc + 3) L (.int v :: st)) : xV X B nL Z a b P pc L st :=
  fun H locs ls hP hS hl => lv_ldcw hX.1 hX.2.1 hX.2.2.2.1 (hX.2.2.2.2.2.2.2.m hc) hd (k H locs ls hP hS hl)
theorem x_ldc2 (hX : xO X cc own nL B g) {index : Nat} {v : Int64} (hc : xm (.constantLong own index v)) (hd : decode cc pc = .ok (.ldc2_w index, 3)) (k : xV X B nL Z a b P (pc + 3) L (.long v :: st)) : xV X B nL Z a b P pc L st :=
  fun H locs ls hP hS hl => lv_ldc2 hX.1 hX.2.1 hX.2.2.2.1 (hX.2.2.2.2.2.2.2.m hc) hd (k H locs ls hP hS hl)
theorem x_astore_nN (hX : xO X cc own nL B g) {kf : Fin 4} {i : Nat} (L' : List (Nat × Value)) (hd : decode cc pc = .ok (.astore_n kf, 1)) (hi : (kf : Nat) = i) (hn : i < nL) (hv : (i, Value.null) :: L.filter (fun q => !(q.1 == i) && !(q.1 + 1 == i && q.2.category == 2)) = L') (k : xV X B nL Z a b P (pc + 1) L' st) : xV X B nL Z a b P pc L (.null :: st) :=
  fun H locs ls hP hS hl => lv_astore_nN hX.1 hX.2.1 hd hi hl hn hv (fun ls' hl' => k H locs ls' hP hS hl')
theorem x_astoreN (hX : xO X cc own nL B g) {i : Nat} (L' : List (Nat × Value)) (hd : decode cc pc = .ok (.astore i, 2)) (hn : i < nL) (hv : (i, Value.null) :: L.filter (fun q => !(q.1 == i) && !(q.1 + 1 == i && q.2.category == 2)) = L') (k : xV X B nL Z a b P (pc + 2) L' st) : xV X B nL Z a b P pc L (.null :: st) :=
  fun H locs ls hP hS hl => lv_astoreN hX.1 hX.2.1 hd hl hn hv (fun ls' hl' => k H locs ls' hP hS hl')
theorem x_mminJ (hX : xO X cc own nL B g) {d mc ms index : Nat} (hR : x_R X = xrm (d + 1) mc ms) (w1 : xm (.methodLink own index Lib.MathLoose.min_long.x)) (w2 : xm (.static Lib.MathLoose.min_long.x)) (w3 : xm (.initialized "java/lang/Math")) (w4 : xm (.code Lib.MathLoose.min_long.x Lib.MathLoose.min_long.code 4 (some .long))) {x y : Int64} (hcat : (st.map fun v => v.category).sum ≤ 8) (hd : decode cc pc = .ok (.invokestatic index, 3))
    (k : xV X B nL Z 0 0 P (pc + 3) L (.long (if y < x then y else x) :: st)) : xV X B nL Z 0 0 P pc L (.long y :: .long x :: st) := by
  intro H locs ls hP hS hl
  have hT := hX.2.2.2.2.2.2.2
  exact va_mmin_long hX.1 hX.2.1 (by rw [hX.2.2.1]; exact hl.1.symm) hX.2.2.2.1 (hT.m w1) (hT.m w2) (hT.m w3) (hT.m w4) (by show 1 ≤ (x_R X).frames; rw [hR]; exact Nat.le_add_left 1 d) (by show _ + 15 ≤ (x_R X).locals; rw [hR]; show _ + 15 ≤ 40 * (d + 1); omega) (Nat.zero_le _) (Nat.zero_le _) hd (k H locs ls hP hS hl)
theorem x_mmaxJ (hX : xO X cc own nL B g) {d mc ms index : Nat} (hR : x_R X = xrm (d + 1) mc ms) (w1 : xm (.methodLink own index Lib.MathLoose.max_long.x)) (w2 : xm (.static Lib.MathLoose.max_long.x)) (w3 : xm (.initialized "java/lang/Math")) (w4 : xm (.code Lib.MathLoose.max_long.x Lib.MathLoose.max_long.code 4 (some .long))) {x y : Int64} (hcat : (st.map fun v => v.category).sum ≤ 8) (hd : decode cc pc = .ok (.invokestatic index, 3))
    (k : xV X B nL Z 0 0 P (pc + 3) L (.long (if y < x then x else y) :: st)) : xV X B nL Z 0 0 P pc L (.long y :: .long x :: st) := by
  intro H locs ls hP hS hl
  have hT := hX.2.2.2.2.2.2.2
  exact va_mmax_long hX.1 hX.2.1 (by rw [hX.2.2.1]; exact hl.1.symm) hX.2.2.2.1 (hT.m w1) (hT.m w2) (hT.m w3) (hT.m w4) (by show 1 ≤ (x_R X).frames; rw [hR]; exact Nat.le_add_left 1 d) (by show _ + 15 ≤ (x_R X).locals; rw [hR]; show _ + 15 ≤ 40 * (d + 1); omega) (Nat.zero_le _) (Nat.zero_le _) hd (k H locs ls hP hS hl)
theorem x_mminI (hX : xO X cc own nL B g) {d mc ms index : Nat} (hR : x_R X = xrm (d + 1) mc ms) (w1 : xm (.methodLink own index Lib.Math.min.name)) (w2 : xm (.static Lib.Math.min.name)) (w3 : xm (.initialized "java/lang/Math")) (w4 : xm (.code Lib.Math.min.name Lib.Math.min.code 2 (some .int))) {x y : Int32} (hcat : (st.map fun v => v.category).sum ≤ 8) (hd : decode cc pc = .ok (.invokestatic index, 3))
    (k : xV X B nL Z 0 0 P (pc + 3) L (.int (if y < x then y else x) :: st)) : xV X B nL Z 0 0 P pc L (.int y :: .int x :: st) := by
  intro H locs ls hP hS hl
  have hT := hX.2.2.2.2.2.2.2
  exact va_mmin hX.1 hX.2.1 (by rw [hX.2.2.1]; exact hl.1.symm) hX.2.2.2.1 (hT.m w1) (hT.m w2) (hT.m w3) (hT.m w4) (by show 1 ≤ (x_R X).frames; rw [hR]; exact Nat.le_add_left 1 d) (by show _ + 13 ≤ (x_R X).locals; rw [hR]; show _ + 13 ≤ 40 * (d + 1); omega) (Nat.zero_le _) (Nat.zero_le _) hd (k H locs ls hP hS hl)
end XK
theorem x_tout_0_2 {x : Int32} (h0 : ¬ x = 0) (h1 : ¬ x = 1) (h2 : ¬ x = 2) : x.toInt < 0 ∨ 2 < x.toInt := by
  have e0 := lv_neT (a := 0) h0 rfl
  have e1 := lv_neT (a := 1) h1 rfl
  have e2 := lv_neT (a := 2) h2 rfl
  omega
theorem x_tout_0_3 {x : Int32} (h0 : ¬ x = 0) (h1 : ¬ x = 1) (h2 : ¬ x = 2) (h3 : ¬ x = 3) : x.toInt < 0 ∨ 3 < x.toInt := by
  have e0 := lv_neT (a := 0) h0 rfl
  have e1 := lv_neT (a := 1) h1 rfl
  have e2 := lv_neT (a := 2) h2 rfl
  have e3 := lv_neT (a := 3) h3 rfl
  omega
theorem x_tout_1_7 {x : Int32} (h1 : ¬ x = 1) (h2 : ¬ x = 2) (h3 : ¬ x = 3) (h4 : ¬ x = 4) (h5 : ¬ x = 5) (h6 : ¬ x = 6) (h7 : ¬ x = 7) : x.toInt < 1 ∨ 7 < x.toInt := by
  have e1 := lv_neT (a := 1) h1 rfl
  have e2 := lv_neT (a := 2) h2 rfl
  have e3 := lv_neT (a := 3) h3 rfl
  have e4 := lv_neT (a := 4) h4 rfl
  have e5 := lv_neT (a := 5) h5 rfl
  have e6 := lv_neT (a := 6) h6 rfl
  have e7 := lv_neT (a := 7) h7 rfl
  omega
theorem x_tout_1_2 {x : Int32} (h1 : ¬ x = 1) (h2 : ¬ x = 2) : x.toInt < 1 ∨ 2 < x.toInt := by
  have e1 := lv_neT (a := 1) h1 rfl
  have e2 := lv_neT (a := 2) h2 rfl
  omega
theorem x_tout_0_26 {x : Int32} (h0 : ¬ x = 0) (h1 : ¬ x = 1) (h2 : ¬ x = 2) (h3 : ¬ x = 3) (h4 : ¬ x = 4) (h5 : ¬ x = 5) (h6 : ¬ x = 6) (h7 : ¬ x = 7) (h8 : ¬ x = 8) (h9 : ¬ x = 9) (h10 : ¬ x = 10) (h11 : ¬ x = 11) (h12 : ¬ x = 12) (h13 : ¬ x = 13) (h14 : ¬ x = 14) (h15 : ¬ x = 15) (h16 : ¬ x = 16) (h17 : ¬ x = 17) (h18 : ¬ x = 18) (h19 : ¬ x = 19) (h20 : ¬ x = 20) (h21 : ¬ x = 21) (h22 : ¬ x = 22) (h23 : ¬ x = 23) (h24 : ¬ x = 24) (h25 : ¬ x = 25) (h26 : ¬ x = 26) : x.toInt < 0 ∨ 26 < x.toInt := by
  have e0 := lv_neT (a := 0) h0 rfl
  have e1 := lv_neT (a := 1) h1 rfl
  have e2 := lv_neT (a := 2) h2 rfl
  have e3 := lv_neT (a := 3) h3 rfl
  have e4 := lv_neT (a := 4) h4 rfl
  have e5 := lv_neT (a := 5) h5 rfl
  have e6 := lv_neT (a := 6) h6 rfl
  have e7 := lv_neT (a := 7) h7 rfl
  have e8 := lv_neT (a := 8) h8 rfl
  have e9 := lv_neT (a := 9) h9 rfl
  have e10 := lv_neT (a := 10) h10 rfl
  have e11 := lv_neT (a := 11) h11 rfl
  have e12 := lv_neT (a := 12) h12 rfl
  have e13 := lv_neT (a := 13) h13 rfl
  have e14 := lv_neT (a := 14) h14 rfl
  have e15 := lv_neT (a := 15) h15 rfl
  have e16 := lv_neT (a := 16) h16 rfl
  have e17 := lv_neT (a := 17) h17 rfl
  have e18 := lv_neT (a := 18) h18 rfl
  have e19 := lv_neT (a := 19) h19 rfl
  have e20 := lv_neT (a := 20) h20 rfl
  have e21 := lv_neT (a := 21) h21 rfl
  have e22 := lv_neT (a := 22) h22 rfl
  have e23 := lv_neT (a := 23) h23 rfl
  have e24 := lv_neT (a := 24) h24 rfl
  have e25 := lv_neT (a := 25) h25 rfl
  have e26 := lv_neT (a := 26) h26 rfl
  omega
theorem x_tout_1_6 {x : Int32} (h1 : ¬ x = 1) (h2 : ¬ x = 2) (h3 : ¬ x = 3) (h4 : ¬ x = 4) (h5 : ¬ x = 5) (h6 : ¬ x = 6) : x.toInt < 1 ∨ 6 < x.toInt := by
  have e1 := lv_neT (a := 1) h1 rfl
  have e2 := lv_neT (a := 2) h2 rfl
  have e3 := lv_neT (a := 3) h3 rfl
  have e4 := lv_neT (a := 4) h4 rfl
  have e5 := lv_neT (a := 5) h5 rfl
  have e6 := lv_neT (a := 6) h6 rfl
  omega
