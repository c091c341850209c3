section XN
variable {X : xX} {cc : ByteArray} {own : String} {nL B a b : Nat} {g : xG} {Z : State → Prop} {pc : Nat} {L : List (Nat × Value)} {st : List Value}
variable {N k j ci idx M n p : Nat} {i : Int32} {K : Nat → Nat × Nat} {I : Nat → Nat → Int32} {J : Nat → Nat → Int64} {F : Nat → Nat → Option Nat} {C : String} {T : u_T} {ty : Nat → FieldType}
theorem x_new (hX : xO X cc own nL B g) (hc : xcls ci C T M ty) (hlk : xm (.classLink own idx C)) (hins : xm (.instantiable C M)) (hini : xm (.initialized C)) (hcells : a + 1 ≤ (x_R X).cells) (hslots : b + M ≤ (x_R X).slots) (hd : decode cc pc = .ok (.new idx, 3))
    (kk : xV X B nL Z (a + 1) (b + M) (xP g B (N + 1) (va_up K N (0, ci)) (va_up I N (fun _ => 0)) (va_up J N (fun _ => 0)) (va_up F N (fun _ => none))) (pc + 3) L (.ref (B + N) :: st)) : xV X B nL Z a b (xP g B N K I J F) pc L st := by
  intro H locs ls hP hS hl
  obtain ⟨hx, hb, -, hown, -, -, hKk, hT⟩ := hX
  obtain ⟨hc0, hin, hty, hnm, hft, ht2⟩ := hc
  have hts : ∀ w ∈ u_ws C T M, w.before (x_args X) (x_s X) = true := fun w h => hT.m (hin w h)
  have hKn := hKk.1 ci _ hc0
  refine W.newcK hx hb hown (hT.m hlk) (hT.m hins) (hT.m hini) rfl hd hcells hslots hKn.2.1 hP.2 fun H1 kC hkC e1 z1 o1 => ?_
  refine kk H1 locs ls (xP_push hP z1 o1 ⟨_, hc0, (u_born ty hts (fun _ h => h) hKn hkC e1 hty).to (fun p hp => ?_)⟩) ⟨Nat.le_trans hS.1 (by rw [z1, hP.2]; omega), fun q h1 h2 => (o1 q (by have := hS.1; have := hP.2; omega)).trans (hS.2.1 q h1 h2), hS.2.2⟩ hl
  have h3 := xfs_at (B := B) (i := fun _ => 0) (j := fun _ => 0) (f := fun _ => none) hft hp
  change defaultValue (ty p) = vp_V (xfs B (xft ci) (fun _ => 0) (fun _ => 0) (fun _ => none)) p
  unfold vp_V
  rw [List.getD_eq_getElem?_getD, h3]
  have h4 := ht2 p hp
  revert h4
  cases ty p <;> simp [xtn, defaultValue, va_rf]
set_option maxHeartbeats 200000 in
theorem x_newI (hX : xO X cc own nL B g) (hat : Cond.arrayClass (newarray.typeOf .int) ∈ lw_tbl) (hn : ¬ i < 0) (hN : i.toNatClampNeg = n) (hbytes : n * componentBytes (newarray.typeOf .int) ≤ 536870912) (hcells : a + 1 ≤ (x_R X).cells) (hslots : b + n ≤ (x_R X).slots) (hd : decode cc pc = .ok (.newarray .int, 2))
    (kk : xV X B nL Z (a + 1) (b + n) (xP g B (N + 1) (va_up K N (1, n)) (va_up I N (fun _ => 0)) (va_up J N (fun _ => 0)) (va_up F N (fun _ => none))) (pc + 2) L (.ref (B + N) :: st)) : xV X B nL Z a b (xP g B N K I J F) pc L (.int i :: st) := by
  intro H locs ls hP hS hl
  have harr : (Cond.arrayClass (newarray.typeOf .int)).before (x_args X) (x_s X) = true := hX.2.2.2.2.2.2.2.2 _ hat rfl
  have hRA : (x_s X).vm.findClass ("[" ++ (newarray.typeOf .int).toString) = some (g.2 0) := (hX.2.2.2.2.2.2.1.2 0 _ rfl).2
  refine va_newaK (atype := .int) (N := n) (h := B + N) hX.1 hX.2.1 harr rfl hd rfl hn hN hbytes hcells hslots hP.2 ?_
  intro H1 cA e1 z1 o1 _ hNm
  have hcA : cA = g.2 0 := Option.some.inj (hNm.symm.trans hRA)
  rw [hcA] at e1
  have he : va_at g.1 vwCl (B + N, xce g B (1, n) (fun _ => 0) (fun _ => 0) (fun _ => none)) H1 := by
    show H1[B + N]? = some (vp_cell (g.2 0) (n, .inl (fun _ => 0)))
    exact e1
  have hPn := xP_push hP z1 o1 he
  have hSn : va_S (fun q => B ≤ q) (x_s X).heap H1 locs := ⟨Nat.le_trans hS.1 (by rw [z1, hP.2]; omega), fun q h1 h2 => (o1 q (by have := hS.1; have := hP.2; omega)).trans (hS.2.1 q h1 h2), hS.2.2⟩
  exact kk H1 locs ls hPn hSn hl
set_option maxHeartbeats 200000 in
theorem x_newJ (hX : xO X cc own nL B g) (hat : Cond.arrayClass (newarray.typeOf .long) ∈ lw_tbl) (hn : ¬ i < 0) (hN : i.toNatClampNeg = n) (hbytes : n * componentBytes (newarray.typeOf .long) ≤ 536870912) (hcells : a + 1 ≤ (x_R X).cells) (hslots : b + n ≤ (x_R X).slots) (hd : decode cc pc = .ok (.newarray .long, 2))
    (kk : xV X B nL Z (a + 1) (b + n) (xP g B (N + 1) (va_up K N (2, n)) (va_up I N (fun _ => 0)) (va_up J N (fun _ => 0)) (va_up F N (fun _ => none))) (pc + 2) L (.ref (B + N) :: st)) : xV X B nL Z a b (xP g B N K I J F) pc L (.int i :: st) := by
  intro H locs ls hP hS hl
  have harr : (Cond.arrayClass (newarray.typeOf .long)).before (x_args X) (x_s X) = true := hX.2.2.2.2.2.2.2.2 _ hat rfl
  have hRA : (x_s X).vm.findClass ("[" ++ (newarray.typeOf .long).toString) = some (g.2 1) := (hX.2.2.2.2.2.2.1.2 1 _ rfl).2
  refine va_newaK (atype := .long) (N := n) (h := B + N) hX.1 hX.2.1 harr rfl hd rfl hn hN hbytes hcells hslots hP.2 ?_
  intro H1 cA e1 z1 o1 _ hNm
  have hcA : cA = g.2 1 := Option.some.inj (hNm.symm.trans hRA)
  rw [hcA] at e1
  have he : va_at g.1 vwCl (B + N, xce g B (2, n) (fun _ => 0) (fun _ => 0) (fun _ => none)) H1 := by
    show H1[B + N]? = some (vp_cell (g.2 1) (n, .inr (.inl (fun _ => 0))))
    exact e1
  have hPn := xP_push hP z1 o1 he
  have hSn : va_S (fun q => B ≤ q) (x_s X).heap H1 locs := ⟨Nat.le_trans hS.1 (by rw [z1, hP.2]; omega), fun q h1 h2 => (o1 q (by have := hS.1; have := hP.2; omega)).trans (hS.2.1 q h1 h2), hS.2.2⟩
  exact kk H1 locs ls hPn hSn hl
set_option maxHeartbeats 200000 in
theorem x_newZ (hX : xO X cc own nL B g) (hat : Cond.arrayClass (newarray.typeOf .boolean) ∈ lw_tbl) (hn : ¬ i < 0) (hN : i.toNatClampNeg = n) (hbytes : n * componentBytes (newarray.typeOf .boolean) ≤ 536870912) (hcells : a + 1 ≤ (x_R X).cells) (hslots : b + n ≤ (x_R X).slots) (hd : decode cc pc = .ok (.newarray .boolean, 2))
    (kk : xV X B nL Z (a + 1) (b + n) (xP g B (N + 1) (va_up K N (3, n)) (va_up I N (fun _ => 0)) (va_up J N (fun _ => 0)) (va_up F N (fun _ => none))) (pc + 2) L (.ref (B + N) :: st)) : xV X B nL Z a b (xP g B N K I J F) pc L (.int i :: st) := by
  intro H locs ls hP hS hl
  have harr : (Cond.arrayClass (newarray.typeOf .boolean)).before (x_args X) (x_s X) = true := hX.2.2.2.2.2.2.2.2 _ hat rfl
  have hRA : (x_s X).vm.findClass ("[" ++ (newarray.typeOf .boolean).toString) = some (g.2 2) := (hX.2.2.2.2.2.2.1.2 2 _ rfl).2
  refine va_newaK (atype := .boolean) (N := n) (h := B + N) hX.1 hX.2.1 harr rfl hd rfl hn hN hbytes hcells hslots hP.2 ?_
  intro H1 cA e1 z1 o1 _ hNm
  have hcA : cA = g.2 2 := Option.some.inj (hNm.symm.trans hRA)
  rw [hcA] at e1
  have he : va_at g.1 vwCl (B + N, xce g B (3, n) (fun _ => 0) (fun _ => 0) (fun _ => none)) H1 := by
    show H1[B + N]? = some (vp_cell (g.2 2) (n, .inl (fun _ => 0)))
    exact e1
  have hPn := xP_push hP z1 o1 he
  have hSn : va_S (fun q => B ≤ q) (x_s X).heap H1 locs := ⟨Nat.le_trans hS.1 (by rw [z1, hP.2]; omega), fun q h1 h2 => (o1 q (by have := hS.1; have := hP.2; omega)).trans (hS.2.1 q h1 h2), hS.2.2⟩
  exact kk H1 locs ls hPn hSn hl
/-- a new array of references to objects of a class -/
theorem x_newR {t : Nat} (hX : xO X cc own nL B g) (hlk : xm (.classLink own idx C)) (hov : Cond.arrayOver (.object C) ∈ lw_tbl) (hty : (xtys g.2)[t + 3]? = some (g.2 (t + 3), .object C)) (hn : ¬ i < 0) (hN : i.toNatClampNeg = n) (hbytes : n * 4 ≤ 536870912) (hcells : a + 1 ≤ (x_R X).cells) (hslots : b + n ≤ (x_R X).slots) (hd : decode cc pc = .ok (.anewarray idx, 3))
    (kk : xV X B nL Z (a + 1) (b + n) (xP g B (N + 1) (va_up K N (t + 4, n)) (va_up I N (fun _ => 0)) (va_up J N (fun _ => 0)) (va_up F N (fun _ => none))) (pc + 3) L (.ref (B + N) :: st)) : xV X B nL Z a b (xP g B N K I J F) pc L (.int i :: st) := by
  intro H locs ls hP hS hl
  subst hN
  refine W.anew hX.1 hX.2.1 hX.2.2.2.1 (hX.2.2.2.2.2.2.2.m hlk) (va_AO.use (hX.2.2.2.2.2.2.2.2 _ hov rfl)) rfl hd rfl hn hbytes hcells hslots fun cA kA comp f1 f2 f3 f4 => ?_
  generalize hH1 : H.push ({ cls := cA, slots := Array.replicate i.toNatClampNeg .null, vm := .none } : Cell) = H1
  have z1 : H1.size = H.size + 1 := by rw [← hH1, Array.size_push]
  have e1 : H1[H.size]? = some (arrV cA i.toNatClampNeg (fun _ => .null)) := by rw [← hH1, Array.getElem?_push_size, ← arrV_new]
  have o1 : ∀ q : Nat, q < H.size → H1[q]? = H[q]? := fun q hq => by rw [← hH1, Array.getElem?_push, if_neg (Nat.ne_of_lt hq)]
  obtain ⟨-, -, -, -, -, hnm⟩ := (hX.2.2.2.2.2.2.1.2 (t + 3) _ hty).2
  have hcA : cA = g.2 (t + 3) := Option.some.inj (f1.symm.trans hnm)
  subst hcA
  rw [hP.2] at z1 e1 o1 ⊢
  exact kk H1 locs ls (xP_push hP z1 o1 (show H1[B + N]? = some (vp_cell _ _) from e1)) ⟨Nat.le_trans hS.1 (by rw [z1, hP.2]; omega), fun q h1 h2 => (o1 q (by have := hS.1; have := hP.2; omega)).trans (hS.2.1 q h1 h2), hS.2.2⟩ hl
theorem x_aald {t r : Nat} (hX : xO X cc own nL B g) (hk : k < N) (hK : K k = (t + 4, n)) (hty : (xtys g.2)[t + 3]? = some (g.2 (t + 3), .object C)) (hp : xat i n p) (hr : F k p = some r) (hd : decode cc pc = .ok (.aaload, 1))
    (kk : xV X B nL Z a b (xP g B N K I J F) (pc + 1) L (.ref (B + r) :: st)) : xV X B nL Z a b (xP g B N K I J F) pc L (.int i :: .ref (B + k) :: st) := by
  intro H locs ls hP hS hl'
  have h := hP.1 k hk
  rw [hK] at h
  have hh := kk H locs ls hP hS hl'
  refine va_aldq (f := fun p => (F k p).map (B + ·)) hX.1 hX.2.1 hX.2.2.2.2.2.2.1 (x_one h) 0 (t + 3) rfl hty hp.1 hd ?_
  rw [hp.2]
  simp only [hr, Option.map_some, va_rf]
  exact hh
theorem x_aast {t v : Nat} (hX : xO X cc own nL B g) (hc : xcls ci C T M ty) (hk : k < N) (hK : K k = (t + 4, n)) (hty : (xtys g.2)[t + 3]? = some (g.2 (t + 3), .object C)) (hp : xat i n p) (hv : v < N) (hKv : K v = (0, ci)) (hd : decode cc pc = .ok (.aastore, 1))
    (kk : xV X B nL Z a b (xP g B N K I J (xu F k p (some v))) (pc + 1) L st) : xV X B nL Z a b (xP g B N K I J F) pc L (.ref (B + v) :: .int i :: .ref (B + k) :: st) := by
  intro H locs ls hP hS hl'
  have h := hP.1 k hk
  rw [hK] at h
  have h0 : ¬ i < 0 := fun q => hp.1 (Or.inl q)
  have hlt : i.toNatClampNeg < n := Nat.not_le.mp fun q => hp.1 (Or.inr q)
  obtain ⟨r', hr', cellV, g1, g2, g3, -⟩ := hP.1 v hv |> fun z => by rw [hKv] at z; exact z
  have hKk := hX.2.2.2.2.2.2.1
  have hcls := (hKk.1 ci _ hc.1).2
  obtain ⟨kA, comp, k1, k2, k3, -⟩ := (hKk.2 (t + 3) _ hty).2
  have hcomp : comp = g.1.1 ci := Option.some.inj (k3.symm.trans hcls.1)
  subst hcomp
  obtain ⟨kC, hkC, -⟩ := hcls.2
  refine W.aast hX.1 hX.2.1 h (fun q h => by cases h) (fun h => by cases h) k1 k2 rfl hkC ⟨h0, by show _ < (arrV _ _ _).slots.size; rw [arrV_size]; exact hlt⟩ g1 (fun q h => by rw [g3] at h; cases h) (by rw [g2]; exact hkC) (by rw [g2]; exact va_assign hcls) rfl rfl hd fun H1 e z oq => ?_
  refine kk H1 _ ls (xP_set hP z oq ?_ (fun q hq => ⟨rfl, rfl, xu_ne hq⟩)) (hS.put z oq (Nat.le_add_right B k)) hl'
  rw [hK, xu_row]
  show H1[B + k]? = some (vp_cell _ _)
  rw [e, vp_cell_q, vp_cell_q, arrV_store, hp.2]
  congr 2
  funext q
  by_cases hq : q = p <;> simp [updV, va_up, hq, va_rf]
theorem x_objInit (hX : xO X cc own nL B g) {d mc ms r : Nat} (hR : x_R X = xrm (d + 1) mc ms) (h1 : xm (.methodLink own idx Lib.objectInit)) (h2 : xm (.instanceMethod Lib.objectInit)) (h3 : xm (.code Lib.objectInit ⟨#[0xb1]⟩ 1 none)) {P : Heap → Prop} (hcat : (st.map fun v => v.category).sum ≤ 8) (hd : decode cc pc = .ok (.invokespecial idx, 3))
    (kk : xV X B nL Z a b P (pc + 3) L st) : xV X B nL Z a b P pc L (.ref r :: st) := by
  intro H locs ls hP hS hl
  have hT := hX.2.2.2.2.2.2.2
  refine W.objInit hX.1 hX.2.1 hX.2.2.2.1 (hT.m h1) (hT.m h2) (hT.m h3) rfl (by rw [hX.2.2.1]; exact hl.1) rfl hd (by show 1 ≤ (x_R X).frames; rw [hR]; exact Nat.le_add_left 1 d) (by show 2 * 0 + _ + 12 ≤ (x_R X).locals; rw [hR]; show 2 * 0 + _ + 12 ≤ 40 * (d + 1); omega) (kk H locs ls hP hS hl)
end XN
