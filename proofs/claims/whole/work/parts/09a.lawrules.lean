/-! THE CLAIM OUT OF ONE WALK OF THE LAW'S BODY. Your part is whole_start (and what it stands on); all else here is the same for every law, but numbers. -/
def R_law : String := "ChangeRowsLaw"
def lw_P (b : Addr) (xs : List Int32) (args : Array Value) (s : State) : Prop := args = #[.ref b] ∧ s.IntsAt b xs ∧ xs.length ≤ 3584 ∧ (Jvm.Cond.and given_1 narrow_1).before args s = true
def lw_Q (_ : Array Value) (s : State) (o : Outcome) (t : State) : Prop := o = .returned (some (.int 1)) ∧ Framed s o t [] 600000 7302250
def lw_Z (below : List Frame) (a : Array Value) (s : State) : State → Prop := fun t => ∃ o, t.status = .running ∧ Ended t below o ∧ lw_Q a s o t
/-- the law's own end, with 1 on the stack, nothing written that was there before, its room as the claim has it -/
theorem lw_ret {p : Program} {l : Launch} {e : Env} {s : State} {m : MethodId} {below : List Frame} {meth : Method} {c : Code} {b : Nat} (hx : p.tables.exec = Jvm.exec) (hb : c.code = code) (hr : meth.sig.returnType = ret) (hlocks : meth.locks = false) {pc : Nat} {H : Heap} {ls : Array Slot} (hdg : decode code pc = .ok (.ireturn, 1)) : W p l e room_1 s m #[Value.ref b] below meth c H [] 600000 7302250 (lw_Z below #[Value.ref b] s) (F0 m pc ls [.int 1]) := by
  intro T hT X
  obtain ⟨fs, hret, hrun, hended, hW, hframe⟩ := X.leave (v := some (.int 1)) (hlocks := hlocks) (fun h => by rw [hr] at h; cases h)
  have hmeth' : T.vm.method? m = some meth := X.method'
  refine ⟨T.setFrames fs, ?_, .returned (some (.int 1)), hrun, hended, rfl, ⟨_, rfl⟩, hW, hframe⟩
  jvm_step X.here [X.here.top, hx, hb, hdg, hmeth', hr, ret, narrow_b1]
  (try refine ⟨rfl, ?_⟩); (try refine ⟨rfl, ?_⟩)
  first | (intro acts; rw [hret _ acts rfl rfl rfl]) | rw [hret _ _ rfl rfl rfl]
  exact Steps.refl _
/-- what holds at the law's entry: the machine, the code, the tables' words (any of lw_tbl by 'hts w (by decide +kernel)'), the script of L ints xs at the cell b, what the Statement gives of the start (any of its parts by flat_of_before) -/
def lw_At (p : Program) (s : State) (m : MethodId) (meth : Method) (c : Code) (b L : Nat) (xs : Nat → Int32) : Prop :=
  p.tables.exec = Jvm.exec ∧ c.code = code ∧ meth.sig.returnType = ret ∧ c.maxLocals = 4 ∧ s.vm.findClass R_law = some m.cls ∧ (∀ w ∈ lw_tbl, w.before #[Value.ref b] s = true) ∧ va_X b L xs s s.heap ∧ b < s.heap.size ∧ meth.locks = false ∧ (Jvm.Cond.and given_1 narrow_1).before #[Value.ref b] s = true
def xSc (X : xX) (B b Ln : Nat) (xs : Nat → Int32) : Prop := va_X b Ln xs (x_s X) (x_s X).heap ∧ b < (x_s X).heap.size ∧ ¬ B ≤ b
def xLw (X : xX) (B b Ln : Nat) (xs : Nat → Int32) : Prop := xSc X B b Ln xs ∧ x_args X = #[Value.ref b] ∧ B = (x_s X).heap.size ∧ (x_meth X).sig.returnType = ret
section XW
variable {X : xX} {cc : ByteArray} {own : String} {nL B a b c0 : Nat} {g : xG} {Z : State → Prop} {P : Heap → Prop} {pc : Nat} {L : List (Nat × Value)} {st : List Value} {Q : Option Value → Heap → Prop}
variable {N k ci idx M n : Nat} {K : Nat → Nat × Nat} {I : Nat → Nat → Int32} {J : Nat → Nat → Int64} {F : Nat → Nat → Option Nat} {C : String} {T : u_T}
theorem x_slen {Ln : Nat} {xs : Nat → Int32} (hX : xO X cc own nL B g) (hs : xSc X B c0 Ln xs) (hd : decode cc pc = .ok (.arraylength, 1)) (k : xV X B nL Z a b P (pc + 1) L (.int (nI Ln) :: st)) : xV X B nL Z a b P pc L (.ref c0 :: st) :=
  fun H locs ls hP hS hl => va_slen hX.1 hX.2.1 hs.1 hs.2.1 hs.2.2 hS hd (k H locs ls hP hS hl)
theorem x_sld {Ln : Nat} {xs : Nat → Int32} {i : Int32} (hX : xO X cc own nL B g) (hs : xSc X B c0 Ln xs) (hi : xinb i Ln) (hd : decode cc pc = .ok (.iaload, 1)) (k : xV X B nL Z a b P (pc + 1) L (.int (xs i.toNatClampNeg) :: st)) : xV X B nL Z a b P pc L (.int i :: .ref c0 :: st) :=
  fun H locs ls hP hS hl => va_sld hX.1 hX.2.1 hs.1 hs.2.1 hs.2.2 hS hi hd (k H locs ls hP hS hl)
theorem x_callBL {d mc ms maxL : Nat} {y : MethodName} {bytes : ByteArray} {rt : Option FieldType} (hX : xO X cc own nL B g) (hR : d + 1 ≤ (x_R X).frames ∧ 8 + (maxL + 11) + 40 * d ≤ (x_R X).locals) (hc : xcl own idx y bytes maxL rt n) : CallB (x_R X) (x_s X) (x_args X) own idx y bytes maxL rt [.code y bytes maxL rt] (xrm d mc ms) mc ms n := by
  obtain ⟨h1, h2, h3, ⟨h4, h5, h6⟩, h7⟩ := hc
  have hT := hX.2.2.2.2.2.2.2
  refine ⟨rfl, rfl, hR.1, hR.2, fun w hw a' U hW => ?_, List.mem_cons_self, hT.m h2, hT.m h3, ⟨h4, h5⟩, fun sig h => ?_, hT.m h1⟩
  · rw [List.mem_singleton.mp hw]
    exact (hT.warm hW).m h2
  · rw [h] at h6
    exact (Option.some.inj h6).symm
theorem x_callVL {d mc ms maxL : Nat} {y : MethodName} {bytes : ByteArray} {rt : Option FieldType} {As st0 : List Value} (hX : xO X cc own nL B g) (hR : d + 1 ≤ (x_R X).frames ∧ 8 + (maxL + 11) + 40 * d ≤ (x_R X).locals) (hC : xC (x_l X) g B d mc ms y bytes maxL rt (.ref (B + k) :: As) (xP g B N K I J F) Q) (hc : xcl own idx y bytes maxL rt n) (hi : xm (.instanceMethod y)) (hse : xm (.selects C y y)) (hcl : vwCl[ci]? = some (C, T, M)) (hk : k < N) (hK : K k = (0, ci)) (hn : As.length = n) (hst : st0 = As.reverse ++ .ref (B + k) :: st) (hcat : (st.map fun v => v.category).sum ≤ 8) (hf : a + mc ≤ (x_R X).cells ∧ b + ms ≤ (x_R X).slots) (hd : decode cc pc = .ok (.invokevirtual idx, 3))
    (kk : ∀ r, xV X B nL Z (a + mc) (b + ms) (Q r) (pc + 3) L (r.toList ++ st)) : xV X B nL Z a b (xP g B N K I J F) pc L st0 := by
  intro H locs ls hP hS hl
  subst hst
  have hsz : ls.size = nL := hl.1
  exact x_after hX (va_runV (Ts := []) (As := As) (rest := st) ⟨hX.1, hX.2.1, hX.2.2.1, hX.2.2.2.1, fun _ h => by cases h⟩ hC ⟨x_callBL hX hR hc, hX.2.2.2.2.2.2.2.m hi, hX.2.2.2.2.2.2.2.m hse⟩ ⟨x_blind, va_recv hX.2.2.2.2.2.2.1 (x_one (x_objAt hk hK hP)) hcl (q0 := 0) rfl, fun U hU hW => x_pre hX hP hS U hU hW⟩ rfl hn hsz rfl (lv_room hcat) hd hf) hS hl kk
theorem x_callIL {d mc ms maxL q : Nat} {y : MethodName} {bytes : ByteArray} {As st0 : List Value} (hX : xO X cc own nL B g) (hR : d + 1 ≤ (x_R X).frames ∧ 8 + (maxL + 11) + 40 * d ≤ (x_R X).locals) (hC : xC (x_l X) g B d mc ms y bytes maxL none (.ref q :: As) P Q) (hc : xcl own idx y bytes maxL none n) (hi : xm (.instanceMethod y)) (hy : y.name = "<init>") (hn : As.length = n) (hst : st0 = As.reverse ++ .ref q :: st) (hcat : (st.map fun v => v.category).sum ≤ 8) (hf : a + mc ≤ (x_R X).cells ∧ b + ms ≤ (x_R X).slots) (hd : decode cc pc = .ok (.invokespecial idx, 3))
    (kk : ∀ r, xV X B nL Z (a + mc) (b + ms) (Q r) (pc + 3) L (r.toList ++ st)) : xV X B nL Z a b P pc L st0 := by
  intro H locs ls hP hS hl
  subst hst
  have hsz : ls.size = nL := hl.1
  exact x_after hX (va_runI (Ts := []) (As := As) (rest := st) ⟨hX.1, hX.2.1, hX.2.2.1, hX.2.2.2.1, fun _ h => by cases h⟩ hC ⟨x_callBL hX hR hc, hy, hX.2.2.2.2.2.2.2.m hi⟩ ⟨x_blind, fun U hU hW => x_pre hX hP hS U hU hW⟩ rfl hn hsz rfl (lv_room hcat) hd hf) hS hl kk
end XW
theorem x_wret {X : xX} {B a b c0 Ln : Nat} {xs : Nat → Int32} {g : xG} {P : Heap → Prop} {pc : Nat} {L : List (Nat × Value)} (hX : xO X code "ChangeRowsLaw" 4 B g) (hR : x_R X = room_1) (hr : xLw X B c0 Ln xs) (h1 : a ≤ 600000) (h2 : b ≤ 7302250) (hd : decode code pc = .ok (.ireturn, 1)) : xV X B 4 (lw_Z (x_below X) #[Value.ref c0] (x_s X)) a b P pc L [.int 1] := by
  intro H locs ls hP hS hl
  obtain ⟨p, l, e, R, s, m, args, below, meth, c⟩ := X
  obtain ⟨-, ha, hB, hrt⟩ := hr
  have hR' : R = room_1 := hR
  have ha' : args = #[Value.ref c0] := ha
  subst hR'
  subst ha'
  refine va_forget (fun q hq => by have := hS.2.2 q hq; rw [hB] at this; exact this) ?_
  refine W.widen (k := 600000) (n := 7302250) h1 h2 ?_
  exact lw_ret hX.1 hX.2.1 hrt hX.2.2.2.2.1 hd
theorem kLW_7 : xm (.classLink "ChangeRowsLaw" 7 "ChangeRows") := ⟨xt1 (List.mem_of_getElem? (i := 11) rfl), rfl⟩
theorem kT0 : xm (.instantiable "ChangeRows" 10) := ⟨xt1 (List.mem_of_getElem? (i := 12) rfl), rfl⟩
theorem kN0_init : xm (.instanceMethod y0_init) := ⟨xt1 (List.mem_of_getElem? (i := 14) rfl), rfl⟩
theorem kD0_init : xm (.code y0_init c0_init 2 none) := ⟨xt1 (List.mem_of_getElem? (i := 15) rfl), rfl⟩
theorem kMW_9 : xm (.methodLink "ChangeRowsLaw" 9 y0_init) := ⟨xt1 (List.mem_of_getElem? (i := 13) rfl), rfl⟩
theorem kXW_9 : xcl "ChangeRowsLaw" 9 y0_init c0_init 2 none 0 := ⟨kMW_9, kD0_init, kI0, by decide +kernel, by decide⟩
theorem kLW_10 : xm (.classLink "ChangeRowsLaw" 10 "ChangeRowsModel") := ⟨xt2 (List.mem_of_getElem? (i := 237) rfl), rfl⟩
theorem kT5 : xm (.instantiable "ChangeRowsModel" 30) := ⟨xt2 (List.mem_of_getElem? (i := 238) rfl), rfl⟩
theorem kN5_init : xm (.instanceMethod y5_init) := ⟨xt3 (List.mem_of_getElem? (i := 0) rfl), rfl⟩
theorem kD5_init : xm (.code y5_init c5_init 1 none) := ⟨xt3 (List.mem_of_getElem? (i := 1) rfl), rfl⟩
theorem kMW_12 : xm (.methodLink "ChangeRowsLaw" 12 y5_init) := ⟨xt2 (List.mem_of_getElem? (i := 239) rfl), rfl⟩
theorem kXW_12 : xcl "ChangeRowsLaw" 12 y5_init c5_init 1 none 0 := ⟨kMW_12, kD5_init, kI5, by decide +kernel, by decide⟩
theorem kMW_13 : xm (.methodLink "ChangeRowsLaw" 13 y0_clear) := ⟨xt1 (List.mem_of_getElem? (i := 172) rfl), rfl⟩
theorem kD0_clear : xm (.code y0_clear c0_clear 2 (some .int)) := ⟨xt1 (List.mem_of_getElem? (i := 175) rfl), rfl⟩
theorem kXW_13 : xcl "ChangeRowsLaw" 13 y0_clear c0_clear 2 (some .int) 0 := ⟨kMW_13, kD0_clear, kI0, by decide +kernel, by decide⟩
theorem kN0_clear : xm (.instanceMethod y0_clear) := ⟨xt1 (List.mem_of_getElem? (i := 173) rfl), rfl⟩
theorem kE0_clear : xm (.selects "ChangeRows" y0_clear y0_clear) := ⟨xt1 (List.mem_of_getElem? (i := 174) rfl), rfl⟩
theorem kMW_17 : xm (.methodLink "ChangeRowsLaw" 17 y5_clear) := ⟨xt3 (List.mem_of_getElem? (i := 98) rfl), rfl⟩
theorem kD5_clear : xm (.code y5_clear c5_clear 2 (some .int)) := ⟨xt3 (List.mem_of_getElem? (i := 101) rfl), rfl⟩
theorem kXW_17 : xcl "ChangeRowsLaw" 17 y5_clear c5_clear 2 (some .int) 0 := ⟨kMW_17, kD5_clear, kI5, by decide +kernel, by decide⟩
theorem kN5_clear : xm (.instanceMethod y5_clear) := ⟨xt3 (List.mem_of_getElem? (i := 99) rfl), rfl⟩
theorem kE5_clear : xm (.selects "ChangeRowsModel" y5_clear y5_clear) := ⟨xt3 (List.mem_of_getElem? (i := 100) rfl), rfl⟩
theorem kMW_18 : xm (.methodLink "ChangeRowsLaw" 18 y0_source) := ⟨xt1 (List.mem_of_getElem? (i := 191) rfl), rfl⟩
theorem kD0_source : xm (.code y0_source c0_source 1 (some .int)) := ⟨xt1 (List.mem_of_getElem? (i := 194) rfl), rfl⟩
theorem kXW_18 : xcl "ChangeRowsLaw" 18 y0_source c0_source 1 (some .int) 0 := ⟨kMW_18, kD0_source, kI0, by decide +kernel, by decide⟩
theorem kN0_source : xm (.instanceMethod y0_source) := ⟨xt1 (List.mem_of_getElem? (i := 192) rfl), rfl⟩
theorem kE0_source : xm (.selects "ChangeRows" y0_source y0_source) := ⟨xt1 (List.mem_of_getElem? (i := 193) rfl), rfl⟩
theorem kMW_21 : xm (.methodLink "ChangeRowsLaw" 21 y5_source) := ⟨xt3 (List.mem_of_getElem? (i := 102) rfl), rfl⟩
theorem kD5_source : xm (.code y5_source c5_source 1 (some .int)) := ⟨xt3 (List.mem_of_getElem? (i := 105) rfl), rfl⟩
theorem kXW_21 : xcl "ChangeRowsLaw" 21 y5_source c5_source 1 (some .int) 0 := ⟨kMW_21, kD5_source, kI5, by decide +kernel, by decide⟩
theorem kN5_source : xm (.instanceMethod y5_source) := ⟨xt3 (List.mem_of_getElem? (i := 103) rfl), rfl⟩
theorem kE5_source : xm (.selects "ChangeRowsModel" y5_source y5_source) := ⟨xt3 (List.mem_of_getElem? (i := 104) rfl), rfl⟩
theorem kCW_22 : xm (.constantLong "ChangeRowsLaw" 22 4294967295) := ⟨xt4 (List.mem_of_getElem? (i := 52) rfl), rfl⟩
theorem kMW_24 : xm (.methodLink "ChangeRowsLaw" 24 y0_filter) := ⟨xt2 (List.mem_of_getElem? (i := 31) rfl), rfl⟩
theorem kD0_filter : xm (.code y0_filter c0_filter 6 (some .int)) := ⟨xt2 (List.mem_of_getElem? (i := 34) rfl), rfl⟩
theorem kXW_24 : xcl "ChangeRowsLaw" 24 y0_filter c0_filter 6 (some .int) 3 := ⟨kMW_24, kD0_filter, kI0, by decide +kernel, by decide⟩
theorem kN0_filter : xm (.instanceMethod y0_filter) := ⟨xt2 (List.mem_of_getElem? (i := 32) rfl), rfl⟩
theorem kE0_filter : xm (.selects "ChangeRows" y0_filter y0_filter) := ⟨xt2 (List.mem_of_getElem? (i := 33) rfl), rfl⟩
theorem kMW_28 : xm (.methodLink "ChangeRowsLaw" 28 y5_filter) := ⟨xt3 (List.mem_of_getElem? (i := 140) rfl), rfl⟩
theorem kD5_filter : xm (.code y5_filter c5_filter 6 (some .int)) := ⟨xt3 (List.mem_of_getElem? (i := 143) rfl), rfl⟩
theorem kXW_28 : xcl "ChangeRowsLaw" 28 y5_filter c5_filter 6 (some .int) 3 := ⟨kMW_28, kD5_filter, kI5, by decide +kernel, by decide⟩
theorem kN5_filter : xm (.instanceMethod y5_filter) := ⟨xt3 (List.mem_of_getElem? (i := 141) rfl), rfl⟩
theorem kE5_filter : xm (.selects "ChangeRowsModel" y5_filter y5_filter) := ⟨xt3 (List.mem_of_getElem? (i := 142) rfl), rfl⟩
theorem kMW_29 : xm (.methodLink "ChangeRowsLaw" 29 y0_map) := ⟨xt2 (List.mem_of_getElem? (i := 35) rfl), rfl⟩
theorem kD0_map : xm (.code y0_map c0_map 4 (some .int)) := ⟨xt2 (List.mem_of_getElem? (i := 38) rfl), rfl⟩
theorem kXW_29 : xcl "ChangeRowsLaw" 29 y0_map c0_map 4 (some .int) 3 := ⟨kMW_29, kD0_map, kI0, by decide +kernel, by decide⟩
theorem kN0_map : xm (.instanceMethod y0_map) := ⟨xt2 (List.mem_of_getElem? (i := 36) rfl), rfl⟩
theorem kE0_map : xm (.selects "ChangeRows" y0_map y0_map) := ⟨xt2 (List.mem_of_getElem? (i := 37) rfl), rfl⟩
theorem kMW_33 : xm (.methodLink "ChangeRowsLaw" 33 y5_map) := ⟨xt3 (List.mem_of_getElem? (i := 148) rfl), rfl⟩
theorem kD5_map : xm (.code y5_map c5_map 4 (some .int)) := ⟨xt3 (List.mem_of_getElem? (i := 151) rfl), rfl⟩
theorem kXW_33 : xcl "ChangeRowsLaw" 33 y5_map c5_map 4 (some .int) 3 := ⟨kMW_33, kD5_map, kI5, by decide +kernel, by decide⟩
theorem kN5_map : xm (.instanceMethod y5_map) := ⟨xt3 (List.mem_of_getElem? (i := 149) rfl), rfl⟩
theorem kE5_map : xm (.selects "ChangeRowsModel" y5_map y5_map) := ⟨xt3 (List.mem_of_getElem? (i := 150) rfl), rfl⟩
theorem kMW_34 : xm (.methodLink "ChangeRowsLaw" 34 y0_fold) := ⟨xt2 (List.mem_of_getElem? (i := 39) rfl), rfl⟩
theorem kD0_fold : xm (.code y0_fold c0_fold 4 (some .int)) := ⟨xt2 (List.mem_of_getElem? (i := 42) rfl), rfl⟩
theorem kXW_34 : xcl "ChangeRowsLaw" 34 y0_fold c0_fold 4 (some .int) 3 := ⟨kMW_34, kD0_fold, kI0, by decide +kernel, by decide⟩
theorem kN0_fold : xm (.instanceMethod y0_fold) := ⟨xt2 (List.mem_of_getElem? (i := 40) rfl), rfl⟩
theorem kE0_fold : xm (.selects "ChangeRows" y0_fold y0_fold) := ⟨xt2 (List.mem_of_getElem? (i := 41) rfl), rfl⟩
theorem kMW_37 : xm (.methodLink "ChangeRowsLaw" 37 y5_fold) := ⟨xt3 (List.mem_of_getElem? (i := 154) rfl), rfl⟩
theorem kD5_fold : xm (.code y5_fold c5_fold 4 (some .int)) := ⟨xt3 (List.mem_of_getElem? (i := 157) rfl), rfl⟩
theorem kXW_37 : xcl "ChangeRowsLaw" 37 y5_fold c5_fold 4 (some .int) 3 := ⟨kMW_37, kD5_fold, kI5, by decide +kernel, by decide⟩
theorem kN5_fold : xm (.instanceMethod y5_fold) := ⟨xt3 (List.mem_of_getElem? (i := 155) rfl), rfl⟩
theorem kE5_fold : xm (.selects "ChangeRowsModel" y5_fold y5_fold) := ⟨xt3 (List.mem_of_getElem? (i := 156) rfl), rfl⟩
theorem kMW_38 : xm (.methodLink "ChangeRowsLaw" 38 y0_join) := ⟨xt2 (List.mem_of_getElem? (i := 43) rfl), rfl⟩
theorem kD0_join : xm (.code y0_join c0_join 4 (some .int)) := ⟨xt2 (List.mem_of_getElem? (i := 46) rfl), rfl⟩
theorem kXW_38 : xcl "ChangeRowsLaw" 38 y0_join c0_join 4 (some .int) 3 := ⟨kMW_38, kD0_join, kI0, by decide +kernel, by decide⟩
theorem kN0_join : xm (.instanceMethod y0_join) := ⟨xt2 (List.mem_of_getElem? (i := 44) rfl), rfl⟩
theorem kE0_join : xm (.selects "ChangeRows" y0_join y0_join) := ⟨xt2 (List.mem_of_getElem? (i := 45) rfl), rfl⟩
theorem kMW_41 : xm (.methodLink "ChangeRowsLaw" 41 y5_join) := ⟨xt3 (List.mem_of_getElem? (i := 160) rfl), rfl⟩
theorem kD5_join : xm (.code y5_join c5_join 4 (some .int)) := ⟨xt3 (List.mem_of_getElem? (i := 163) rfl), rfl⟩
theorem kXW_41 : xcl "ChangeRowsLaw" 41 y5_join c5_join 4 (some .int) 3 := ⟨kMW_41, kD5_join, kI5, by decide +kernel, by decide⟩
theorem kN5_join : xm (.instanceMethod y5_join) := ⟨xt3 (List.mem_of_getElem? (i := 161) rfl), rfl⟩
theorem kE5_join : xm (.selects "ChangeRowsModel" y5_join y5_join) := ⟨xt3 (List.mem_of_getElem? (i := 162) rfl), rfl⟩
theorem kMW_42 : xm (.methodLink "ChangeRowsLaw" 42 y0_merge) := ⟨xt2 (List.mem_of_getElem? (i := 47) rfl), rfl⟩
theorem kD0_merge : xm (.code y0_merge c0_merge 3 (some .int)) := ⟨xt2 (List.mem_of_getElem? (i := 50) rfl), rfl⟩
theorem kXW_42 : xcl "ChangeRowsLaw" 42 y0_merge c0_merge 3 (some .int) 2 := ⟨kMW_42, kD0_merge, kI0, by decide +kernel, by decide⟩
theorem kN0_merge : xm (.instanceMethod y0_merge) := ⟨xt2 (List.mem_of_getElem? (i := 48) rfl), rfl⟩
theorem kE0_merge : xm (.selects "ChangeRows" y0_merge y0_merge) := ⟨xt2 (List.mem_of_getElem? (i := 49) rfl), rfl⟩
theorem kMW_46 : xm (.methodLink "ChangeRowsLaw" 46 y5_merge) := ⟨xt3 (List.mem_of_getElem? (i := 164) rfl), rfl⟩
theorem kD5_merge : xm (.code y5_merge c5_merge 3 (some .int)) := ⟨xt3 (List.mem_of_getElem? (i := 167) rfl), rfl⟩
theorem kXW_46 : xcl "ChangeRowsLaw" 46 y5_merge c5_merge 3 (some .int) 2 := ⟨kMW_46, kD5_merge, kI5, by decide +kernel, by decide⟩
theorem kN5_merge : xm (.instanceMethod y5_merge) := ⟨xt3 (List.mem_of_getElem? (i := 165) rfl), rfl⟩
theorem kE5_merge : xm (.selects "ChangeRowsModel" y5_merge y5_merge) := ⟨xt3 (List.mem_of_getElem? (i := 166) rfl), rfl⟩
theorem kMW_47 : xm (.methodLink "ChangeRowsLaw" 47 y0_best) := ⟨xt2 (List.mem_of_getElem? (i := 51) rfl), rfl⟩
theorem kD0_best : xm (.code y0_best c0_best 3 (some .int)) := ⟨xt2 (List.mem_of_getElem? (i := 54) rfl), rfl⟩
theorem kXW_47 : xcl "ChangeRowsLaw" 47 y0_best c0_best 3 (some .int) 2 := ⟨kMW_47, kD0_best, kI0, by decide +kernel, by decide⟩
theorem kN0_best : xm (.instanceMethod y0_best) := ⟨xt2 (List.mem_of_getElem? (i := 52) rfl), rfl⟩
theorem kE0_best : xm (.selects "ChangeRows" y0_best y0_best) := ⟨xt2 (List.mem_of_getElem? (i := 53) rfl), rfl⟩
theorem kMW_50 : xm (.methodLink "ChangeRowsLaw" 50 y5_best) := ⟨xt3 (List.mem_of_getElem? (i := 168) rfl), rfl⟩
theorem kD5_best : xm (.code y5_best c5_best 3 (some .int)) := ⟨xt3 (List.mem_of_getElem? (i := 171) rfl), rfl⟩
theorem kXW_50 : xcl "ChangeRowsLaw" 50 y5_best c5_best 3 (some .int) 2 := ⟨kMW_50, kD5_best, kI5, by decide +kernel, by decide⟩
theorem kN5_best : xm (.instanceMethod y5_best) := ⟨xt3 (List.mem_of_getElem? (i := 169) rfl), rfl⟩
theorem kE5_best : xm (.selects "ChangeRowsModel" y5_best y5_best) := ⟨xt3 (List.mem_of_getElem? (i := 170) rfl), rfl⟩
theorem kMW_51 : xm (.methodLink "ChangeRowsLaw" 51 y0_look) := ⟨xt2 (List.mem_of_getElem? (i := 55) rfl), rfl⟩
theorem kD0_look : xm (.code y0_look c0_look 3 (some .int)) := ⟨xt2 (List.mem_of_getElem? (i := 58) rfl), rfl⟩
theorem kXW_51 : xcl "ChangeRowsLaw" 51 y0_look c0_look 3 (some .int) 2 := ⟨kMW_51, kD0_look, kI0, by decide +kernel, by decide⟩
theorem kN0_look : xm (.instanceMethod y0_look) := ⟨xt2 (List.mem_of_getElem? (i := 56) rfl), rfl⟩
theorem kE0_look : xm (.selects "ChangeRows" y0_look y0_look) := ⟨xt2 (List.mem_of_getElem? (i := 57) rfl), rfl⟩
theorem kMW_54 : xm (.methodLink "ChangeRowsLaw" 54 y5_look) := ⟨xt3 (List.mem_of_getElem? (i := 172) rfl), rfl⟩
theorem kD5_look : xm (.code y5_look c5_look 3 (some .int)) := ⟨xt3 (List.mem_of_getElem? (i := 175) rfl), rfl⟩
theorem kXW_54 : xcl "ChangeRowsLaw" 54 y5_look c5_look 3 (some .int) 2 := ⟨kMW_54, kD5_look, kI5, by decide +kernel, by decide⟩
theorem kN5_look : xm (.instanceMethod y5_look) := ⟨xt3 (List.mem_of_getElem? (i := 173) rfl), rfl⟩
theorem kE5_look : xm (.selects "ChangeRowsModel" y5_look y5_look) := ⟨xt3 (List.mem_of_getElem? (i := 174) rfl), rfl⟩
theorem kMW_55 : xm (.methodLink "ChangeRowsLaw" 55 y0_put) := ⟨xt2 (List.mem_of_getElem? (i := 59) rfl), rfl⟩
theorem kD0_put : xm (.code y0_put c0_put 5 (some .int)) := ⟨xt2 (List.mem_of_getElem? (i := 62) rfl), rfl⟩
theorem kXW_55 : xcl "ChangeRowsLaw" 55 y0_put c0_put 5 (some .int) 3 := ⟨kMW_55, kD0_put, kI0, by decide +kernel, by decide⟩
theorem kN0_put : xm (.instanceMethod y0_put) := ⟨xt2 (List.mem_of_getElem? (i := 60) rfl), rfl⟩
theorem kE0_put : xm (.selects "ChangeRows" y0_put y0_put) := ⟨xt2 (List.mem_of_getElem? (i := 61) rfl), rfl⟩
theorem kMW_59 : xm (.methodLink "ChangeRowsLaw" 59 y5_put) := ⟨xt3 (List.mem_of_getElem? (i := 176) rfl), rfl⟩
theorem kD5_put : xm (.code y5_put c5_put 5 (some .int)) := ⟨xt3 (List.mem_of_getElem? (i := 179) rfl), rfl⟩
theorem kXW_59 : xcl "ChangeRowsLaw" 59 y5_put c5_put 5 (some .int) 3 := ⟨kMW_59, kD5_put, kI5, by decide +kernel, by decide⟩
theorem kN5_put : xm (.instanceMethod y5_put) := ⟨xt3 (List.mem_of_getElem? (i := 177) rfl), rfl⟩
theorem kE5_put : xm (.selects "ChangeRowsModel" y5_put y5_put) := ⟨xt3 (List.mem_of_getElem? (i := 178) rfl), rfl⟩
theorem kMW_60 : xm (.methodLink "ChangeRowsLaw" 60 y0_remove) := ⟨xt2 (List.mem_of_getElem? (i := 127) rfl), rfl⟩
theorem kD0_remove : xm (.code y0_remove c0_remove 3 (some .int)) := ⟨xt2 (List.mem_of_getElem? (i := 130) rfl), rfl⟩
theorem kXW_60 : xcl "ChangeRowsLaw" 60 y0_remove c0_remove 3 (some .int) 2 := ⟨kMW_60, kD0_remove, kI0, by decide +kernel, by decide⟩
theorem kN0_remove : xm (.instanceMethod y0_remove) := ⟨xt2 (List.mem_of_getElem? (i := 128) rfl), rfl⟩
theorem kE0_remove : xm (.selects "ChangeRows" y0_remove y0_remove) := ⟨xt2 (List.mem_of_getElem? (i := 129) rfl), rfl⟩
theorem kMW_63 : xm (.methodLink "ChangeRowsLaw" 63 y5_remove) := ⟨xt3 (List.mem_of_getElem? (i := 215) rfl), rfl⟩
theorem kD5_remove : xm (.code y5_remove c5_remove 3 (some .int)) := ⟨xt3 (List.mem_of_getElem? (i := 218) rfl), rfl⟩
theorem kXW_63 : xcl "ChangeRowsLaw" 63 y5_remove c5_remove 3 (some .int) 2 := ⟨kMW_63, kD5_remove, kI5, by decide +kernel, by decide⟩
theorem kN5_remove : xm (.instanceMethod y5_remove) := ⟨xt3 (List.mem_of_getElem? (i := 216) rfl), rfl⟩
theorem kE5_remove : xm (.selects "ChangeRowsModel" y5_remove y5_remove) := ⟨xt3 (List.mem_of_getElem? (i := 217) rfl), rfl⟩
theorem kMW_64 : xm (.methodLink "ChangeRowsLaw" 64 y0_begin) := ⟨xt2 (List.mem_of_getElem? (i := 131) rfl), rfl⟩
theorem kD0_begin : xm (.code y0_begin c0_begin 1 (some .int)) := ⟨xt2 (List.mem_of_getElem? (i := 134) rfl), rfl⟩
theorem kXW_64 : xcl "ChangeRowsLaw" 64 y0_begin c0_begin 1 (some .int) 0 := ⟨kMW_64, kD0_begin, kI0, by decide +kernel, by decide⟩
theorem kN0_begin : xm (.instanceMethod y0_begin) := ⟨xt2 (List.mem_of_getElem? (i := 132) rfl), rfl⟩
theorem kE0_begin : xm (.selects "ChangeRows" y0_begin y0_begin) := ⟨xt2 (List.mem_of_getElem? (i := 133) rfl), rfl⟩
theorem kMW_67 : xm (.methodLink "ChangeRowsLaw" 67 y5_begin) := ⟨xt3 (List.mem_of_getElem? (i := 219) rfl), rfl⟩
theorem kD5_begin : xm (.code y5_begin c5_begin 1 (some .int)) := ⟨xt3 (List.mem_of_getElem? (i := 222) rfl), rfl⟩
theorem kXW_67 : xcl "ChangeRowsLaw" 67 y5_begin c5_begin 1 (some .int) 0 := ⟨kMW_67, kD5_begin, kI5, by decide +kernel, by decide⟩
theorem kN5_begin : xm (.instanceMethod y5_begin) := ⟨xt3 (List.mem_of_getElem? (i := 220) rfl), rfl⟩
theorem kE5_begin : xm (.selects "ChangeRowsModel" y5_begin y5_begin) := ⟨xt3 (List.mem_of_getElem? (i := 221) rfl), rfl⟩
theorem kMW_68 : xm (.methodLink "ChangeRowsLaw" 68 y0_end) := ⟨xt2 (List.mem_of_getElem? (i := 139) rfl), rfl⟩
theorem kD0_end : xm (.code y0_end c0_end 2 (some .int)) := ⟨xt2 (List.mem_of_getElem? (i := 142) rfl), rfl⟩
theorem kXW_68 : xcl "ChangeRowsLaw" 68 y0_end c0_end 2 (some .int) 0 := ⟨kMW_68, kD0_end, kI0, by decide +kernel, by decide⟩
theorem kN0_end : xm (.instanceMethod y0_end) := ⟨xt2 (List.mem_of_getElem? (i := 140) rfl), rfl⟩
theorem kE0_end : xm (.selects "ChangeRows" y0_end y0_end) := ⟨xt2 (List.mem_of_getElem? (i := 141) rfl), rfl⟩
theorem kMW_71 : xm (.methodLink "ChangeRowsLaw" 71 y5_end) := ⟨xt3 (List.mem_of_getElem? (i := 223) rfl), rfl⟩
theorem kD5_end : xm (.code y5_end c5_end 2 (some .int)) := ⟨xt3 (List.mem_of_getElem? (i := 226) rfl), rfl⟩
theorem kXW_71 : xcl "ChangeRowsLaw" 71 y5_end c5_end 2 (some .int) 0 := ⟨kMW_71, kD5_end, kI5, by decide +kernel, by decide⟩
theorem kN5_end : xm (.instanceMethod y5_end) := ⟨xt3 (List.mem_of_getElem? (i := 224) rfl), rfl⟩
theorem kE5_end : xm (.selects "ChangeRowsModel" y5_end y5_end) := ⟨xt3 (List.mem_of_getElem? (i := 225) rfl), rfl⟩
theorem kMW_72 : xm (.methodLink "ChangeRowsLaw" 72 y0_drop) := ⟨xt2 (List.mem_of_getElem? (i := 143) rfl), rfl⟩
theorem kD0_drop : xm (.code y0_drop c0_drop 2 (some .int)) := ⟨xt2 (List.mem_of_getElem? (i := 146) rfl), rfl⟩
theorem kXW_72 : xcl "ChangeRowsLaw" 72 y0_drop c0_drop 2 (some .int) 0 := ⟨kMW_72, kD0_drop, kI0, by decide +kernel, by decide⟩
theorem kN0_drop : xm (.instanceMethod y0_drop) := ⟨xt2 (List.mem_of_getElem? (i := 144) rfl), rfl⟩
theorem kE0_drop : xm (.selects "ChangeRows" y0_drop y0_drop) := ⟨xt2 (List.mem_of_getElem? (i := 145) rfl), rfl⟩
theorem kMW_75 : xm (.methodLink "ChangeRowsLaw" 75 y5_drop) := ⟨xt3 (List.mem_of_getElem? (i := 227) rfl), rfl⟩
theorem kD5_drop : xm (.code y5_drop c5_drop 1 (some .int)) := ⟨xt3 (List.mem_of_getElem? (i := 230) rfl), rfl⟩
theorem kXW_75 : xcl "ChangeRowsLaw" 75 y5_drop c5_drop 1 (some .int) 0 := ⟨kMW_75, kD5_drop, kI5, by decide +kernel, by decide⟩
theorem kN5_drop : xm (.instanceMethod y5_drop) := ⟨xt3 (List.mem_of_getElem? (i := 228) rfl), rfl⟩
theorem kE5_drop : xm (.selects "ChangeRowsModel" y5_drop y5_drop) := ⟨xt3 (List.mem_of_getElem? (i := 229) rfl), rfl⟩
theorem kMW_76 : xm (.methodLink "ChangeRowsLaw" 76 y0_told) := ⟨xt2 (List.mem_of_getElem? (i := 147) rfl), rfl⟩
theorem kD0_told : xm (.code y0_told c0_told 1 (some .int)) := ⟨xt2 (List.mem_of_getElem? (i := 150) rfl), rfl⟩
theorem kXW_76 : xcl "ChangeRowsLaw" 76 y0_told c0_told 1 (some .int) 0 := ⟨kMW_76, kD0_told, kI0, by decide +kernel, by decide⟩
theorem kN0_told : xm (.instanceMethod y0_told) := ⟨xt2 (List.mem_of_getElem? (i := 148) rfl), rfl⟩
theorem kE0_told : xm (.selects "ChangeRows" y0_told y0_told) := ⟨xt2 (List.mem_of_getElem? (i := 149) rfl), rfl⟩
theorem kMW_79 : xm (.methodLink "ChangeRowsLaw" 79 y5_told) := ⟨xt3 (List.mem_of_getElem? (i := 231) rfl), rfl⟩
theorem kD5_told : xm (.code y5_told c5_told 1 (some .int)) := ⟨xt3 (List.mem_of_getElem? (i := 234) rfl), rfl⟩
theorem kXW_79 : xcl "ChangeRowsLaw" 79 y5_told c5_told 1 (some .int) 0 := ⟨kMW_79, kD5_told, kI5, by decide +kernel, by decide⟩
theorem kN5_told : xm (.instanceMethod y5_told) := ⟨xt3 (List.mem_of_getElem? (i := 232) rfl), rfl⟩
theorem kE5_told : xm (.selects "ChangeRowsModel" y5_told y5_told) := ⟨xt3 (List.mem_of_getElem? (i := 233) rfl), rfl⟩
theorem kMW_80 : xm (.methodLink "ChangeRowsLaw" 80 y0_change) := ⟨xt2 (List.mem_of_getElem? (i := 151) rfl), rfl⟩
theorem kD0_change : xm (.code y0_change c0_change 5 (some .int)) := ⟨xt2 (List.mem_of_getElem? (i := 154) rfl), rfl⟩
theorem kXW_80 : xcl "ChangeRowsLaw" 80 y0_change c0_change 5 (some .int) 3 := ⟨kMW_80, kD0_change, kI0, by decide +kernel, by decide⟩
theorem kN0_change : xm (.instanceMethod y0_change) := ⟨xt2 (List.mem_of_getElem? (i := 152) rfl), rfl⟩
theorem kE0_change : xm (.selects "ChangeRows" y0_change y0_change) := ⟨xt2 (List.mem_of_getElem? (i := 153) rfl), rfl⟩
theorem kMW_83 : xm (.methodLink "ChangeRowsLaw" 83 y5_change) := ⟨xt3 (List.mem_of_getElem? (i := 235) rfl), rfl⟩
theorem kD5_change : xm (.code y5_change c5_change 5 (some .int)) := ⟨xt3 (List.mem_of_getElem? (i := 238) rfl), rfl⟩
theorem kXW_83 : xcl "ChangeRowsLaw" 83 y5_change c5_change 5 (some .int) 3 := ⟨kMW_83, kD5_change, kI5, by decide +kernel, by decide⟩
theorem kN5_change : xm (.instanceMethod y5_change) := ⟨xt3 (List.mem_of_getElem? (i := 236) rfl), rfl⟩
theorem kE5_change : xm (.selects "ChangeRowsModel" y5_change y5_change) := ⟨xt3 (List.mem_of_getElem? (i := 237) rfl), rfl⟩
theorem kMW_84 : xm (.methodLink "ChangeRowsLaw" 84 y0_value) := ⟨xt2 (List.mem_of_getElem? (i := 171) rfl), rfl⟩
theorem kD0_value : xm (.code y0_value c0_value 5 (some .long)) := ⟨xt2 (List.mem_of_getElem? (i := 174) rfl), rfl⟩
theorem kXW_84 : xcl "ChangeRowsLaw" 84 y0_value c0_value 5 (some .long) 3 := ⟨kMW_84, kD0_value, kI0, by decide +kernel, by decide⟩
theorem kN0_value : xm (.instanceMethod y0_value) := ⟨xt2 (List.mem_of_getElem? (i := 172) rfl), rfl⟩
theorem kE0_value : xm (.selects "ChangeRows" y0_value y0_value) := ⟨xt2 (List.mem_of_getElem? (i := 173) rfl), rfl⟩
theorem kMW_88 : xm (.methodLink "ChangeRowsLaw" 88 y5_value) := ⟨xt4 (List.mem_of_getElem? (i := 3) rfl), rfl⟩
theorem kD5_value : xm (.code y5_value c5_value 5 (some .long)) := ⟨xt4 (List.mem_of_getElem? (i := 6) rfl), rfl⟩
theorem kXW_88 : xcl "ChangeRowsLaw" 88 y5_value c5_value 5 (some .long) 3 := ⟨kMW_88, kD5_value, kI5, by decide +kernel, by decide⟩
theorem kN5_value : xm (.instanceMethod y5_value) := ⟨xt4 (List.mem_of_getElem? (i := 4) rfl), rfl⟩
theorem kE5_value : xm (.selects "ChangeRowsModel" y5_value y5_value) := ⟨xt4 (List.mem_of_getElem? (i := 5) rfl), rfl⟩
theorem kMW_89 : xm (.methodLink "ChangeRowsLaw" 89 y0_logged) := ⟨xt2 (List.mem_of_getElem? (i := 175) rfl), rfl⟩
theorem kD0_logged : xm (.code y0_logged c0_logged 1 (some .int)) := ⟨xt2 (List.mem_of_getElem? (i := 178) rfl), rfl⟩
theorem kXW_89 : xcl "ChangeRowsLaw" 89 y0_logged c0_logged 1 (some .int) 0 := ⟨kMW_89, kD0_logged, kI0, by decide +kernel, by decide⟩
theorem kN0_logged : xm (.instanceMethod y0_logged) := ⟨xt2 (List.mem_of_getElem? (i := 176) rfl), rfl⟩
theorem kE0_logged : xm (.selects "ChangeRows" y0_logged y0_logged) := ⟨xt2 (List.mem_of_getElem? (i := 177) rfl), rfl⟩
theorem kMW_92 : xm (.methodLink "ChangeRowsLaw" 92 y5_logged) := ⟨xt4 (List.mem_of_getElem? (i := 7) rfl), rfl⟩
theorem kD5_logged : xm (.code y5_logged c5_logged 1 (some .int)) := ⟨xt4 (List.mem_of_getElem? (i := 10) rfl), rfl⟩
theorem kXW_92 : xcl "ChangeRowsLaw" 92 y5_logged c5_logged 1 (some .int) 0 := ⟨kMW_92, kD5_logged, kI5, by decide +kernel, by decide⟩
theorem kN5_logged : xm (.instanceMethod y5_logged) := ⟨xt4 (List.mem_of_getElem? (i := 8) rfl), rfl⟩
theorem kE5_logged : xm (.selects "ChangeRowsModel" y5_logged y5_logged) := ⟨xt4 (List.mem_of_getElem? (i := 9) rfl), rfl⟩
theorem kMW_93 : xm (.methodLink "ChangeRowsLaw" 93 y0_forget) := ⟨xt2 (List.mem_of_getElem? (i := 179) rfl), rfl⟩
theorem kD0_forget : xm (.code y0_forget c0_forget 3 (some .int)) := ⟨xt2 (List.mem_of_getElem? (i := 182) rfl), rfl⟩
theorem kXW_93 : xcl "ChangeRowsLaw" 93 y0_forget c0_forget 3 (some .int) 0 := ⟨kMW_93, kD0_forget, kI0, by decide +kernel, by decide⟩
theorem kN0_forget : xm (.instanceMethod y0_forget) := ⟨xt2 (List.mem_of_getElem? (i := 180) rfl), rfl⟩
theorem kE0_forget : xm (.selects "ChangeRows" y0_forget y0_forget) := ⟨xt2 (List.mem_of_getElem? (i := 181) rfl), rfl⟩
theorem kMW_96 : xm (.methodLink "ChangeRowsLaw" 96 y5_forget) := ⟨xt4 (List.mem_of_getElem? (i := 11) rfl), rfl⟩
theorem kD5_forget : xm (.code y5_forget c5_forget 3 (some .int)) := ⟨xt4 (List.mem_of_getElem? (i := 14) rfl), rfl⟩
theorem kXW_96 : xcl "ChangeRowsLaw" 96 y5_forget c5_forget 3 (some .int) 0 := ⟨kMW_96, kD5_forget, kI5, by decide +kernel, by decide⟩
theorem kN5_forget : xm (.instanceMethod y5_forget) := ⟨xt4 (List.mem_of_getElem? (i := 12) rfl), rfl⟩
theorem kE5_forget : xm (.selects "ChangeRowsModel" y5_forget y5_forget) := ⟨xt4 (List.mem_of_getElem? (i := 13) rfl), rfl⟩
theorem kMW_97 : xm (.methodLink "ChangeRowsLaw" 97 y0_net) := ⟨xt2 (List.mem_of_getElem? (i := 183) rfl), rfl⟩
theorem kD0_net : xm (.code y0_net c0_net 4 (some .int)) := ⟨xt2 (List.mem_of_getElem? (i := 186) rfl), rfl⟩
theorem kXW_97 : xcl "ChangeRowsLaw" 97 y0_net c0_net 4 (some .int) 3 := ⟨kMW_97, kD0_net, kI0, by decide +kernel, by decide⟩
theorem kN0_net : xm (.instanceMethod y0_net) := ⟨xt2 (List.mem_of_getElem? (i := 184) rfl), rfl⟩
theorem kE0_net : xm (.selects "ChangeRows" y0_net y0_net) := ⟨xt2 (List.mem_of_getElem? (i := 185) rfl), rfl⟩
theorem kMW_100 : xm (.methodLink "ChangeRowsLaw" 100 y5_net) := ⟨xt4 (List.mem_of_getElem? (i := 15) rfl), rfl⟩
theorem kD5_net : xm (.code y5_net c5_net 5 (some .int)) := ⟨xt4 (List.mem_of_getElem? (i := 18) rfl), rfl⟩
theorem kXW_100 : xcl "ChangeRowsLaw" 100 y5_net c5_net 5 (some .int) 3 := ⟨kMW_100, kD5_net, kI5, by decide +kernel, by decide⟩
theorem kN5_net : xm (.instanceMethod y5_net) := ⟨xt4 (List.mem_of_getElem? (i := 16) rfl), rfl⟩
theorem kE5_net : xm (.selects "ChangeRowsModel" y5_net y5_net) := ⟨xt4 (List.mem_of_getElem? (i := 17) rfl), rfl⟩
theorem kMW_101 : xm (.methodLink "ChangeRowsLaw" 101 y0_copy) := ⟨xt2 (List.mem_of_getElem? (i := 191) rfl), rfl⟩
theorem kD0_copy : xm (.code y0_copy c0_copy 3 (some .int)) := ⟨xt2 (List.mem_of_getElem? (i := 194) rfl), rfl⟩
theorem kXW_101 : xcl "ChangeRowsLaw" 101 y0_copy c0_copy 3 (some .int) 2 := ⟨kMW_101, kD0_copy, kI0, by decide +kernel, by decide⟩
theorem kN0_copy : xm (.instanceMethod y0_copy) := ⟨xt2 (List.mem_of_getElem? (i := 192) rfl), rfl⟩
theorem kE0_copy : xm (.selects "ChangeRows" y0_copy y0_copy) := ⟨xt2 (List.mem_of_getElem? (i := 193) rfl), rfl⟩
theorem kMW_104 : xm (.methodLink "ChangeRowsLaw" 104 y5_copy) := ⟨xt4 (List.mem_of_getElem? (i := 23) rfl), rfl⟩
theorem kD5_copy : xm (.code y5_copy c5_copy 5 (some .int)) := ⟨xt4 (List.mem_of_getElem? (i := 26) rfl), rfl⟩
theorem kXW_104 : xcl "ChangeRowsLaw" 104 y5_copy c5_copy 5 (some .int) 2 := ⟨kMW_104, kD5_copy, kI5, by decide +kernel, by decide⟩
theorem kN5_copy : xm (.instanceMethod y5_copy) := ⟨xt4 (List.mem_of_getElem? (i := 24) rfl), rfl⟩
theorem kE5_copy : xm (.selects "ChangeRowsModel" y5_copy y5_copy) := ⟨xt4 (List.mem_of_getElem? (i := 25) rfl), rfl⟩
theorem kMW_105 : xm (.methodLink "ChangeRowsLaw" 105 y0_take) := ⟨xt2 (List.mem_of_getElem? (i := 200) rfl), rfl⟩
theorem kD0_take : xm (.code y0_take c0_take 8 (some .int)) := ⟨xt2 (List.mem_of_getElem? (i := 203) rfl), rfl⟩
theorem kXW_105 : xcl "ChangeRowsLaw" 105 y0_take c0_take 8 (some .int) 4 := ⟨kMW_105, kD0_take, kI0, by decide +kernel, by decide⟩
theorem kN0_take : xm (.instanceMethod y0_take) := ⟨xt2 (List.mem_of_getElem? (i := 201) rfl), rfl⟩
theorem kE0_take : xm (.selects "ChangeRows" y0_take y0_take) := ⟨xt2 (List.mem_of_getElem? (i := 202) rfl), rfl⟩
theorem kMW_109 : xm (.methodLink "ChangeRowsLaw" 109 y5_take) := ⟨xt4 (List.mem_of_getElem? (i := 27) rfl), rfl⟩
theorem kD5_take : xm (.code y5_take c5_take 7 (some .int)) := ⟨xt4 (List.mem_of_getElem? (i := 30) rfl), rfl⟩
theorem kXW_109 : xcl "ChangeRowsLaw" 109 y5_take c5_take 7 (some .int) 4 := ⟨kMW_109, kD5_take, kI5, by decide +kernel, by decide⟩
theorem kN5_take : xm (.instanceMethod y5_take) := ⟨xt4 (List.mem_of_getElem? (i := 28) rfl), rfl⟩
theorem kE5_take : xm (.selects "ChangeRowsModel" y5_take y5_take) := ⟨xt4 (List.mem_of_getElem? (i := 29) rfl), rfl⟩
theorem kMW_110 : xm (.methodLink "ChangeRowsLaw" 110 y0_same) := ⟨xt2 (List.mem_of_getElem? (i := 209) rfl), rfl⟩
theorem kD0_same : xm (.code y0_same c0_same 2 (some .int)) := ⟨xt2 (List.mem_of_getElem? (i := 212) rfl), rfl⟩
theorem kXW_110 : xcl "ChangeRowsLaw" 110 y0_same c0_same 2 (some .int) 1 := ⟨kMW_110, kD0_same, kI0, by decide +kernel, by decide⟩
theorem kN0_same : xm (.instanceMethod y0_same) := ⟨xt2 (List.mem_of_getElem? (i := 210) rfl), rfl⟩
theorem kE0_same : xm (.selects "ChangeRows" y0_same y0_same) := ⟨xt2 (List.mem_of_getElem? (i := 211) rfl), rfl⟩
theorem kMW_114 : xm (.methodLink "ChangeRowsLaw" 114 y5_same) := ⟨xt4 (List.mem_of_getElem? (i := 31) rfl), rfl⟩
theorem kD5_same : xm (.code y5_same c5_same 4 (some .int)) := ⟨xt4 (List.mem_of_getElem? (i := 34) rfl), rfl⟩
theorem kXW_114 : xcl "ChangeRowsLaw" 114 y5_same c5_same 4 (some .int) 1 := ⟨kMW_114, kD5_same, kI5, by decide +kernel, by decide⟩
theorem kN5_same : xm (.instanceMethod y5_same) := ⟨xt4 (List.mem_of_getElem? (i := 32) rfl), rfl⟩
theorem kE5_same : xm (.selects "ChangeRowsModel" y5_same y5_same) := ⟨xt4 (List.mem_of_getElem? (i := 33) rfl), rfl⟩
theorem kMW_115 : xm (.methodLink "ChangeRowsLaw" 115 y0_has) := ⟨xt2 (List.mem_of_getElem? (i := 213) rfl), rfl⟩
theorem kD0_has : xm (.code y0_has c0_has 3 (some .int)) := ⟨xt2 (List.mem_of_getElem? (i := 216) rfl), rfl⟩
theorem kXW_115 : xcl "ChangeRowsLaw" 115 y0_has c0_has 3 (some .int) 2 := ⟨kMW_115, kD0_has, kI0, by decide +kernel, by decide⟩
theorem kN0_has : xm (.instanceMethod y0_has) := ⟨xt2 (List.mem_of_getElem? (i := 214) rfl), rfl⟩
theorem kE0_has : xm (.selects "ChangeRows" y0_has y0_has) := ⟨xt2 (List.mem_of_getElem? (i := 215) rfl), rfl⟩
theorem kMW_118 : xm (.methodLink "ChangeRowsLaw" 118 y5_has) := ⟨xt4 (List.mem_of_getElem? (i := 35) rfl), rfl⟩
theorem kXW_118 : xcl "ChangeRowsLaw" 118 y5_has c5_has 3 (some .int) 2 := ⟨kMW_118, kD5_has, kI5, by decide +kernel, by decide⟩
theorem kMW_119 : xm (.methodLink "ChangeRowsLaw" 119 y0_at) := ⟨xt2 (List.mem_of_getElem? (i := 225) rfl), rfl⟩
theorem kD0_at : xm (.code y0_at c0_at 3 (some .long)) := ⟨xt2 (List.mem_of_getElem? (i := 228) rfl), rfl⟩
theorem kXW_119 : xcl "ChangeRowsLaw" 119 y0_at c0_at 3 (some .long) 2 := ⟨kMW_119, kD0_at, kI0, by decide +kernel, by decide⟩
theorem kN0_at : xm (.instanceMethod y0_at) := ⟨xt2 (List.mem_of_getElem? (i := 226) rfl), rfl⟩
theorem kE0_at : xm (.selects "ChangeRows" y0_at y0_at) := ⟨xt2 (List.mem_of_getElem? (i := 227) rfl), rfl⟩
theorem kMW_123 : xm (.methodLink "ChangeRowsLaw" 123 y5_at) := ⟨xt4 (List.mem_of_getElem? (i := 39) rfl), rfl⟩
theorem kD5_at : xm (.code y5_at c5_at 3 (some .long)) := ⟨xt4 (List.mem_of_getElem? (i := 42) rfl), rfl⟩
theorem kXW_123 : xcl "ChangeRowsLaw" 123 y5_at c5_at 3 (some .long) 2 := ⟨kMW_123, kD5_at, kI5, by decide +kernel, by decide⟩
theorem kN5_at : xm (.instanceMethod y5_at) := ⟨xt4 (List.mem_of_getElem? (i := 40) rfl), rfl⟩
theorem kE5_at : xm (.selects "ChangeRowsModel" y5_at y5_at) := ⟨xt4 (List.mem_of_getElem? (i := 41) rfl), rfl⟩
theorem kMW_124 : xm (.methodLink "ChangeRowsLaw" 124 y0_of) := ⟨xt2 (List.mem_of_getElem? (i := 229) rfl), rfl⟩
theorem kD0_of : xm (.code y0_of c0_of 4 (some .int)) := ⟨xt2 (List.mem_of_getElem? (i := 232) rfl), rfl⟩
theorem kXW_124 : xcl "ChangeRowsLaw" 124 y0_of c0_of 4 (some .int) 2 := ⟨kMW_124, kD0_of, kI0, by decide +kernel, by decide⟩
theorem kN0_of : xm (.instanceMethod y0_of) := ⟨xt2 (List.mem_of_getElem? (i := 230) rfl), rfl⟩
theorem kE0_of : xm (.selects "ChangeRows" y0_of y0_of) := ⟨xt2 (List.mem_of_getElem? (i := 231) rfl), rfl⟩
theorem kMW_127 : xm (.methodLink "ChangeRowsLaw" 127 y5_of) := ⟨xt4 (List.mem_of_getElem? (i := 44) rfl), rfl⟩
theorem kD5_of : xm (.code y5_of c5_of 5 (some .int)) := ⟨xt4 (List.mem_of_getElem? (i := 47) rfl), rfl⟩
theorem kXW_127 : xcl "ChangeRowsLaw" 127 y5_of c5_of 5 (some .int) 2 := ⟨kMW_127, kD5_of, kI5, by decide +kernel, by decide⟩
theorem kN5_of : xm (.instanceMethod y5_of) := ⟨xt4 (List.mem_of_getElem? (i := 45) rfl), rfl⟩
theorem kE5_of : xm (.selects "ChangeRowsModel" y5_of y5_of) := ⟨xt4 (List.mem_of_getElem? (i := 46) rfl), rfl⟩
theorem kMW_128 : xm (.methodLink "ChangeRowsLaw" 128 y0_count) := ⟨xt2 (List.mem_of_getElem? (i := 233) rfl), rfl⟩
theorem kD0_count : xm (.code y0_count c0_count 2 (some .int)) := ⟨xt2 (List.mem_of_getElem? (i := 236) rfl), rfl⟩
theorem kXW_128 : xcl "ChangeRowsLaw" 128 y0_count c0_count 2 (some .int) 1 := ⟨kMW_128, kD0_count, kI0, by decide +kernel, by decide⟩
theorem kN0_count : xm (.instanceMethod y0_count) := ⟨xt2 (List.mem_of_getElem? (i := 234) rfl), rfl⟩
theorem kE0_count : xm (.selects "ChangeRows" y0_count y0_count) := ⟨xt2 (List.mem_of_getElem? (i := 235) rfl), rfl⟩
theorem kMW_131 : xm (.methodLink "ChangeRowsLaw" 131 y5_count) := ⟨xt4 (List.mem_of_getElem? (i := 48) rfl), rfl⟩
theorem kD5_count : xm (.code y5_count c5_count 4 (some .int)) := ⟨xt4 (List.mem_of_getElem? (i := 51) rfl), rfl⟩
theorem kXW_131 : xcl "ChangeRowsLaw" 131 y5_count c5_count 4 (some .int) 1 := ⟨kMW_131, kD5_count, kI5, by decide +kernel, by decide⟩
theorem kN5_count : xm (.instanceMethod y5_count) := ⟨xt4 (List.mem_of_getElem? (i := 49) rfl), rfl⟩
theorem kE5_count : xm (.selects "ChangeRowsModel" y5_count y5_count) := ⟨xt4 (List.mem_of_getElem? (i := 50) rfl), rfl⟩
