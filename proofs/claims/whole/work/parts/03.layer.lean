/-! THE LAYER: my own judgement over the machine. xX: the machine around a body; a world is N cells from the address B on, each of a kind; ints, longs and references of all cells are three functions of (cell, place). -/
abbrev xX : Type := Program × Launch × Env × Room × State × MethodId × Array Value × List Frame × Method × Code
abbrev xG : Type := va_G × (Nat → ClassId)
abbrev x_l (X : xX) : Launch := X.2.1
abbrev x_R (X : xX) : Room := X.2.2.2.1
abbrev x_s (X : xX) : State := X.2.2.2.2.1
abbrev x_args (X : xX) : Array Value := X.2.2.2.2.2.2.1
abbrev x_below (X : xX) : List Frame := X.2.2.2.2.2.2.2.1
abbrev x_meth (X : xX) : Method := X.2.2.2.2.2.2.2.2.1
/-- a word of the tables that stays when classes are warmed -/
def xm (w : Cond) : Prop := w ∈ lw_tbl ∧ (w.onTables && w.keeps) = true
/-- a word that stays too, by a law of its own -/
def xsp : Cond → Bool
  | .arrayClass _ => true
  | .methodLinkNest .. => true
  | .fieldLinkNest .. => true
  | .arrayOver (.object _) => true
  | _ => false
def xT (U : State) : Prop := (∀ w, xm w → w.before #[] U = true) ∧ ∀ w ∈ lw_tbl, xsp w = true → w.before #[] U = true
theorem xT.m {U : State} (h : xT U) {w : Cond} (hw : xm w) {A : Array Value} : w.before A U = true := va_Nw.use (by have := hw.2; simp only [Bool.and_eq_true] at this; exact this.1) (h.1 w hw)
theorem xT.warm {s U : State} (h : xT s) (hW : s.WarmedH U.vm) : xT U := by
  refine ⟨fun w hw => word_at hW (Or.inl hw.2) (h.1 w hw), fun w hw hx => ?_⟩
  have h2 := h.2 w hw hx
  cases w with
  | arrayClass ty => exact word_at hW (Or.inr ⟨ty, rfl⟩) h2
  | methodLinkNest a i x y => exact va_Nw.warmM hW h2
  | fieldLinkNest a i b n d y => exact va_Nw.warmF hW h2
  | arrayOver t =>
    cases t with
    | object C => exact va_AO.moved hW.alike h2
    | _ => cases hx
  | _ => cases hx
def xK (g : xG) (U : State) : Prop := va_K g.1 vwCl (xtys g.2) U
theorem xK.warm {g : xG} {s U : State} (h : xK g s) (hW : s.WarmedH U.vm) : xK g U := va_K.moved hW.alike h
def xO (X : xX) (cc : ByteArray) (own : String) (nL B : Nat) (g : xG) : Prop :=
  X.1.tables.exec = Jvm.exec ∧ X.2.2.2.2.2.2.2.2.2.code = cc ∧ X.2.2.2.2.2.2.2.2.2.maxLocals = nL ∧ (x_s X).vm.findClass own = some X.2.2.2.2.2.1.cls ∧ (x_meth X).locks = false ∧ B ≤ (x_s X).heap.size ∧ xK g (x_s X) ∧ xT (x_s X)
def xV (X : xX) (B nL : Nat) (Z : State → Prop) (a b : Nat) (P : Heap → Prop) (pc : Nat) (L : List (Nat × Value)) (st : List Value) : Prop :=
  ∀ (H : Heap) (locs : List Loc) (ls : Array Slot), P H → va_S (fun q => B ≤ q) (x_s X).heap H locs → lv_has ls nL L →
    W X.1 X.2.1 X.2.2.1 X.2.2.2.1 X.2.2.2.2.1 X.2.2.2.2.2.1 X.2.2.2.2.2.2.1 X.2.2.2.2.2.2.2.1 X.2.2.2.2.2.2.2.2.1 X.2.2.2.2.2.2.2.2.2 H locs a b Z (F0 X.2.2.2.2.2.1 pc ls st)
theorem x_lm {L : List (Nat × Value)} {i : Nat} {v : Value} (h : L.lookup i = some v) : (i, v) ∈ L := by
  induction L with
  | nil => cases h
  | cons q t ih =>
    obtain ⟨j, w⟩ := q
    rw [List.lookup_cons] at h
    by_cases hj : i = j
    · subst hj
      simp at h
      subst h
      exact List.mem_cons_self
    · have : (i == j) = false := by simp [hj]
      rw [this] at h
      exact List.mem_cons_of_mem _ (ih h)
section XL
variable {X : xX} {cc : ByteArray} {own : String} {nL B a b : Nat} {g : xG} {Z : State → Prop} {P : Heap → Prop} {pc : Nat} {L : List (Nat × Value)} {st : List Value}
theorem x_lk {ls : Array Slot} {L : List (Nat × Value)} {nL i : Nat} {v : Value} (h : lv_has ls nL L) (hv : L.lookup i = some v) : ls[i]? = some (.val v) :=
  h.2.2 (i, v) (x_lm hv)
theorem x_iconst (hX : xO X cc own nL B g) {n : Int} {v : Int32} (hd : decode cc pc = .ok (.iconst n, 1)) (hv : Int32.ofInt n = v) (k : xV X B nL Z a b P (pc + 1) L (.int v :: st)) : xV X B nL Z a b P pc L (st) :=
  fun H locs ls hP hS hl => lv_iconst hX.1 hX.2.1 hd hv (k H locs ls hP hS hl)
theorem x_bipush (hX : xO X cc own nL B g) {n : Int} {v : Int32} (hd : decode cc pc = .ok (.bipush n, 2)) (hv : (Int8.ofInt n).toInt32 = v) (k : xV X B nL Z a b P (pc + 2) L (.int v :: st)) : xV X B nL Z a b P pc L (st) :=
  fun H locs ls hP hS hl => lv_bipush hX.1 hX.2.1 hd hv (k H locs ls hP hS hl)
theorem x_sipush (hX : xO X cc own nL B g) {n : Int} {v : Int32} (hd : decode cc pc = .ok (.sipush n, 3)) (hv : (Int16.ofInt n).toInt32 = v) (k : xV X B nL Z a b P (pc + 3) L (.int v :: st)) : xV X B nL Z a b P pc L (st) :=
  fun H locs ls hP hS hl => lv_sipush hX.1 hX.2.1 hd hv (k H locs ls hP hS hl)
theorem x_lconst (hX : xO X cc own nL B g) {n : Fin 2} {v : Int64} (hd : decode cc pc = .ok (.lconst n, 1)) (hv : Int64.ofNat (n : Nat) = v) (k : xV X B nL Z a b P (pc + 1) L (.long v :: st)) : xV X B nL Z a b P pc L (st) :=
  fun H locs ls hP hS hl => lv_lconst hX.1 hX.2.1 hd hv (k H locs ls hP hS hl)
theorem x_iadd (hX : xO X cc own nL B g) {x y : Int32} (hd : decode cc pc = .ok (.iadd, 1)) (k : xV X B nL Z a b P (pc + 1) L (.int (x + y) :: st)) : xV X B nL Z a b P pc L (.int y :: .int x :: st) :=
  fun H locs ls hP hS hl => lv_iadd hX.1 hX.2.1 hd (k H locs ls hP hS hl)
theorem x_isub (hX : xO X cc own nL B g) {x y : Int32} (hd : decode cc pc = .ok (.isub, 1)) (k : xV X B nL Z a b P (pc + 1) L (.int (x - y) :: st)) : xV X B nL Z a b P pc L (.int y :: .int x :: st) :=
  fun H locs ls hP hS hl => lv_isub hX.1 hX.2.1 hd (k H locs ls hP hS hl)
theorem x_imul (hX : xO X cc own nL B g) {x y : Int32} (hd : decode cc pc = .ok (.imul, 1)) (k : xV X B nL Z a b P (pc + 1) L (.int (x * y) :: st)) : xV X B nL Z a b P pc L (.int y :: .int x :: st) :=
  fun H locs ls hP hS hl => lv_imul hX.1 hX.2.1 hd (k H locs ls hP hS hl)
theorem x_iand (hX : xO X cc own nL B g) {x y : Int32} (hd : decode cc pc = .ok (.iand, 1)) (k : xV X B nL Z a b P (pc + 1) L (.int (x &&& y) :: st)) : xV X B nL Z a b P pc L (.int y :: .int x :: st) :=
  fun H locs ls hP hS hl => lv_iand hX.1 hX.2.1 hd (k H locs ls hP hS hl)
theorem x_ior (hX : xO X cc own nL B g) {x y : Int32} (hd : decode cc pc = .ok (.ior, 1)) (k : xV X B nL Z a b P (pc + 1) L (.int (x ||| y) :: st)) : xV X B nL Z a b P pc L (.int y :: .int x :: st) :=
  fun H locs ls hP hS hl => lv_ior hX.1 hX.2.1 hd (k H locs ls hP hS hl)
theorem x_ixor (hX : xO X cc own nL B g) {x y : Int32} (hd : decode cc pc = .ok (.ixor, 1)) (k : xV X B nL Z a b P (pc + 1) L (.int (x ^^^ y) :: st)) : xV X B nL Z a b P pc L (.int y :: .int x :: st) :=
  fun H locs ls hP hS hl => lv_ixor hX.1 hX.2.1 hd (k H locs ls hP hS hl)
theorem x_ishl (hX : xO X cc own nL B g) {x y : Int32} (hd : decode cc pc = .ok (.ishl, 1)) (k : xV X B nL Z a b P (pc + 1) L (.int (x <<< (y &&& 31)) :: st)) : xV X B nL Z a b P pc L (.int y :: .int x :: st) :=
  fun H locs ls hP hS hl => lv_ishl hX.1 hX.2.1 hd (k H locs ls hP hS hl)
theorem x_ishr (hX : xO X cc own nL B g) {x y : Int32} (hd : decode cc pc = .ok (.ishr, 1)) (k : xV X B nL Z a b P (pc + 1) L (.int (x >>> (y &&& 31)) :: st)) : xV X B nL Z a b P pc L (.int y :: .int x :: st) :=
  fun H locs ls hP hS hl => lv_ishr hX.1 hX.2.1 hd (k H locs ls hP hS hl)
theorem x_ladd (hX : xO X cc own nL B g) {x y : Int64} (hd : decode cc pc = .ok (.ladd, 1)) (k : xV X B nL Z a b P (pc + 1) L (.long (x + y) :: st)) : xV X B nL Z a b P pc L (.long y :: .long x :: st) :=
  fun H locs ls hP hS hl => lv_ladd hX.1 hX.2.1 hd (k H locs ls hP hS hl)
theorem x_lsub (hX : xO X cc own nL B g) {x y : Int64} (hd : decode cc pc = .ok (.lsub, 1)) (k : xV X B nL Z a b P (pc + 1) L (.long (x - y) :: st)) : xV X B nL Z a b P pc L (.long y :: .long x :: st) :=
  fun H locs ls hP hS hl => lv_lsub hX.1 hX.2.1 hd (k H locs ls hP hS hl)
theorem x_lmul (hX : xO X cc own nL B g) {x y : Int64} (hd : decode cc pc = .ok (.lmul, 1)) (k : xV X B nL Z a b P (pc + 1) L (.long (x * y) :: st)) : xV X B nL Z a b P pc L (.long y :: .long x :: st) :=
  fun H locs ls hP hS hl => lv_lmul hX.1 hX.2.1 hd (k H locs ls hP hS hl)
theorem x_land (hX : xO X cc own nL B g) {x y : Int64} (hd : decode cc pc = .ok (.land, 1)) (k : xV X B nL Z a b P (pc + 1) L (.long (x &&& y) :: st)) : xV X B nL Z a b P pc L (.long y :: .long x :: st) :=
  fun H locs ls hP hS hl => lv_land hX.1 hX.2.1 hd (k H locs ls hP hS hl)
theorem x_lor (hX : xO X cc own nL B g) {x y : Int64} (hd : decode cc pc = .ok (.lor, 1)) (k : xV X B nL Z a b P (pc + 1) L (.long (x ||| y) :: st)) : xV X B nL Z a b P pc L (.long y :: .long x :: st) :=
  fun H locs ls hP hS hl => lv_lor hX.1 hX.2.1 hd (k H locs ls hP hS hl)
theorem x_lxor (hX : xO X cc own nL B g) {x y : Int64} (hd : decode cc pc = .ok (.lxor, 1)) (k : xV X B nL Z a b P (pc + 1) L (.long (x ^^^ y) :: st)) : xV X B nL Z a b P pc L (.long y :: .long x :: st) :=
  fun H locs ls hP hS hl => lv_lxor hX.1 hX.2.1 hd (k H locs ls hP hS hl)
theorem x_idiv (hX : xO X cc own nL B g) {x y : Int32} (hd : decode cc pc = .ok (.idiv, 1)) (hne : ¬ y = 0) (k : xV X B nL Z a b P (pc + 1) L (.int (x / y) :: st)) : xV X B nL Z a b P pc L (.int y :: .int x :: st) :=
  fun H locs ls hP hS hl => lv_idiv hX.1 hX.2.1 hd hne (k H locs ls hP hS hl)
theorem x_irem (hX : xO X cc own nL B g) {x y : Int32} (hd : decode cc pc = .ok (.irem, 1)) (hne : ¬ y = 0) (k : xV X B nL Z a b P (pc + 1) L (.int (x - x / y * y) :: st)) : xV X B nL Z a b P pc L (.int y :: .int x :: st) :=
  fun H locs ls hP hS hl => lv_irem hX.1 hX.2.1 hd hne (k H locs ls hP hS hl)
theorem x_ldiv (hX : xO X cc own nL B g) {x y : Int64} (hd : decode cc pc = .ok (.ldiv, 1)) (hne : ¬ y = 0) (k : xV X B nL Z a b P (pc + 1) L (.long (x / y) :: st)) : xV X B nL Z a b P pc L (.long y :: .long x :: st) :=
  fun H locs ls hP hS hl => lv_ldiv hX.1 hX.2.1 hd hne (k H locs ls hP hS hl)
theorem x_lrem (hX : xO X cc own nL B g) {x y : Int64} (hd : decode cc pc = .ok (.lrem, 1)) (hne : ¬ y = 0) (k : xV X B nL Z a b P (pc + 1) L (.long (x - x / y * y) :: st)) : xV X B nL Z a b P pc L (.long y :: .long x :: st) :=
  fun H locs ls hP hS hl => lv_lrem hX.1 hX.2.1 hd hne (k H locs ls hP hS hl)
theorem x_ineg (hX : xO X cc own nL B g) {x : Int32} (hd : decode cc pc = .ok (.ineg, 1)) (k : xV X B nL Z a b P (pc + 1) L (.int (-x) :: st)) : xV X B nL Z a b P pc L (.int x :: st) :=
  fun H locs ls hP hS hl => lv_ineg hX.1 hX.2.1 hd (k H locs ls hP hS hl)
theorem x_lneg (hX : xO X cc own nL B g) {x : Int64} (hd : decode cc pc = .ok (.lneg, 1)) (k : xV X B nL Z a b P (pc + 1) L (.long (-x) :: st)) : xV X B nL Z a b P pc L (.long x :: st) :=
  fun H locs ls hP hS hl => lv_lneg hX.1 hX.2.1 hd (k H locs ls hP hS hl)
theorem x_i2l (hX : xO X cc own nL B g) {x : Int32} (hd : decode cc pc = .ok (.i2l, 1)) (k : xV X B nL Z a b P (pc + 1) L (.long x.toInt64 :: st)) : xV X B nL Z a b P pc L (.int x :: st) :=
  fun H locs ls hP hS hl => lv_i2l hX.1 hX.2.1 hd rfl (k H locs ls hP hS hl)
theorem x_l2i (hX : xO X cc own nL B g) {x : Int64} (hd : decode cc pc = .ok (.l2i, 1)) (k : xV X B nL Z a b P (pc + 1) L (.int x.toInt32 :: st)) : xV X B nL Z a b P pc L (.long x :: st) :=
  fun H locs ls hP hS hl => lv_l2i hX.1 hX.2.1 hd rfl (k H locs ls hP hS hl)
theorem x_i2b (hX : xO X cc own nL B g) {x : Int32} (hd : decode cc pc = .ok (.i2b, 1)) (k : xV X B nL Z a b P (pc + 1) L (.int x.toInt8.toInt32 :: st)) : xV X B nL Z a b P pc L (.int x :: st) :=
  fun H locs ls hP hS hl => lv_i2b hX.1 hX.2.1 hd rfl (k H locs ls hP hS hl)
theorem x_i2c (hX : xO X cc own nL B g) {x : Int32} (hd : decode cc pc = .ok (.i2c, 1)) (k : xV X B nL Z a b P (pc + 1) L (.int (x.toUInt32 % 65536).toInt32 :: st)) : xV X B nL Z a b P pc L (.int x :: st) :=
  fun H locs ls hP hS hl => lv_i2c hX.1 hX.2.1 hd rfl (k H locs ls hP hS hl)
theorem x_iushr (hX : xO X cc own nL B g) {x y : Int32} (hd : decode cc pc = .ok (.iushr, 1)) (k : xV X B nL Z a b P (pc + 1) L (.int (x.toUInt32 >>> (y.toUInt32 &&& Int32.toUInt32 31)).toInt32 :: st)) : xV X B nL Z a b P pc L (.int y :: .int x :: st) :=
  fun H locs ls hP hS hl => lv_iushr hX.1 hX.2.1 hd rfl (k H locs ls hP hS hl)
theorem x_lushr (hX : xO X cc own nL B g) {x : Int64} {y : Int32} (hd : decode cc pc = .ok (.lushr, 1)) (k : xV X B nL Z a b P (pc + 1) L (.long (x.toUInt64 >>> (y.toInt64.toUInt64 &&& Int64.toUInt64 63)).toInt64 :: st)) : xV X B nL Z a b P pc L (.int y :: .long x :: st) :=
  fun H locs ls hP hS hl => lv_lushr hX.1 hX.2.1 hd rfl (k H locs ls hP hS hl)
theorem x_lshl (hX : xO X cc own nL B g) {x : Int64} {y : Int32} (hd : decode cc pc = .ok (.lshl, 1)) (k : xV X B nL Z a b P (pc + 1) L (.long (x <<< (y.toInt64 &&& 63)) :: st)) : xV X B nL Z a b P pc L (.int y :: .long x :: st) :=
  fun H locs ls hP hS hl => lv_lshl hX.1 hX.2.1 hd rfl (k H locs ls hP hS hl)
theorem x_lshr (hX : xO X cc own nL B g) {x : Int64} {y : Int32} (hd : decode cc pc = .ok (.lshr, 1)) (k : xV X B nL Z a b P (pc + 1) L (.long (x >>> (y.toInt64 &&& 63)) :: st)) : xV X B nL Z a b P pc L (.int y :: .long x :: st) :=
  fun H locs ls hP hS hl => lv_lshr hX.1 hX.2.1 hd rfl (k H locs ls hP hS hl)
theorem x_lcmp (hX : xO X cc own nL B g) {x y : Int64} (hd : decode cc pc = .ok (.lcmp, 1)) (k : xV X B nL Z a b P (pc + 1) L (.int (lg_cmp x y) :: st)) : xV X B nL Z a b P pc L (.long y :: .long x :: st) :=
  fun H locs ls hP hS hl => W.lcmp hX.1 hX.2.1 hd (k H locs ls hP hS hl)
theorem x_dup (hX : xO X cc own nL B g) {va : Value} (hd : decode cc pc = .ok (.dup, 1)) (hva : va.category = 1) (k : xV X B nL Z a b P (pc + 1) L (va :: va :: st)) : xV X B nL Z a b P pc L (va :: st) :=
  fun H locs ls hP hS hl => lv_dup hX.1 hX.2.1 hd hva (k H locs ls hP hS hl)
theorem x_pop (hX : xO X cc own nL B g) {va : Value} (hd : decode cc pc = .ok (.pop, 1)) (hva : va.category = 1) (k : xV X B nL Z a b P (pc + 1) L (st)) : xV X B nL Z a b P pc L (va :: st) :=
  fun H locs ls hP hS hl => lv_pop hX.1 hX.2.1 hd hva (k H locs ls hP hS hl)
theorem x_dup_x1 (hX : xO X cc own nL B g) {va vb : Value} (hd : decode cc pc = .ok (.dup_x1, 1)) (hva : va.category = 1) (hvb : vb.category = 1) (k : xV X B nL Z a b P (pc + 1) L (va :: vb :: va :: st)) : xV X B nL Z a b P pc L (va :: vb :: st) :=
  fun H locs ls hP hS hl => lv_dup_x1 hX.1 hX.2.1 hd hva hvb (k H locs ls hP hS hl)
theorem x_dup_x2 (hX : xO X cc own nL B g) {va vb vd : Value} (hd : decode cc pc = .ok (.dup_x2, 1)) (hva : va.category = 1) (hvb : vb.category = 1) (hvd : vd.category = 1) (k : xV X B nL Z a b P (pc + 1) L (va :: vb :: vd :: va :: st)) : xV X B nL Z a b P pc L (va :: vb :: vd :: st) :=
  fun H locs ls hP hS hl => lv_dup_x2 hX.1 hX.2.1 hd hva hvb hvd (k H locs ls hP hS hl)
theorem x_dup2_11 (hX : xO X cc own nL B g) {va vb : Value} (hd : decode cc pc = .ok (.dup2, 1)) (hva : va.category = 1) (hvb : vb.category = 1) (k : xV X B nL Z a b P (pc + 1) L (va :: vb :: va :: vb :: st)) : xV X B nL Z a b P pc L (va :: vb :: st) :=
  fun H locs ls hP hS hl => lv_dup2_11 hX.1 hX.2.1 hd hva hvb (k H locs ls hP hS hl)
theorem x_dup2_2 (hX : xO X cc own nL B g) {va : Value} (hd : decode cc pc = .ok (.dup2, 1)) (hva : va.category = 2) (k : xV X B nL Z a b P (pc + 1) L (va :: va :: st)) : xV X B nL Z a b P pc L (va :: st) :=
  fun H locs ls hP hS hl => lv_dup2_2 hX.1 hX.2.1 hd hva (k H locs ls hP hS hl)
theorem x_pop2_2 (hX : xO X cc own nL B g) {va : Value} (hd : decode cc pc = .ok (.pop2, 1)) (hva : va.category = 2) (k : xV X B nL Z a b P (pc + 1) L (st)) : xV X B nL Z a b P pc L (va :: st) :=
  fun H locs ls hP hS hl => lv_pop2_2 hX.1 hX.2.1 hd hva (k H locs ls hP hS hl)
theorem x_pop2_11 (hX : xO X cc own nL B g) {va vb : Value} (hd : decode cc pc = .ok (.pop2, 1)) (hva : va.category = 1) (hvb : vb.category = 1) (k : xV X B nL Z a b P (pc + 1) L (st)) : xV X B nL Z a b P pc L (va :: vb :: st) :=
  fun H locs ls hP hS hl => lv_pop2_11 hX.1 hX.2.1 hd hva hvb (k H locs ls hP hS hl)
theorem x_dup2_x1_2 (hX : xO X cc own nL B g) {va vb : Value} (hd : decode cc pc = .ok (.dup2_x1, 1)) (hva : va.category = 2) (hvb : vb.category = 1) (k : xV X B nL Z a b P (pc + 1) L (va :: vb :: va :: st)) : xV X B nL Z a b P pc L (va :: vb :: st) :=
  fun H locs ls hP hS hl => lv_dup2_x1_2 hX.1 hX.2.1 hd hva hvb (k H locs ls hP hS hl)
theorem x_dup2_x2_2 (hX : xO X cc own nL B g) {va vb vd : Value} (hd : decode cc pc = .ok (.dup2_x2, 1)) (hva : va.category = 2) (hvb : vb.category = 1) (hvd : vd.category = 1) (k : xV X B nL Z a b P (pc + 1) L (va :: vb :: vd :: va :: st)) : xV X B nL Z a b P pc L (va :: vb :: vd :: st) :=
  fun H locs ls hP hS hl => lv_dup2_x2_2 hX.1 hX.2.1 hd hva hvb hvd (k H locs ls hP hS hl)
theorem x_if_eq (hX : xO X cc own nL B g) {x : Int32} {off : Int} {tgt : Nat} (hd : decode cc pc = .ok (.ifCond .eq off, 3)) (ht : (pc : Int) + off = (tgt : Int)) (kt : x = 0 → xV X B nL Z a b P tgt L (st)) (kf : ¬ x = 0 → xV X B nL Z a b P (pc + 3) L (st)) : xV X B nL Z a b P pc L (.int x :: st) :=
  fun H locs ls hP hS hl => lv_if_eq hX.1 hX.2.1 hd ht (fun q => kt q H locs ls hP hS hl) (fun q => kf q H locs ls hP hS hl)
theorem x_if_ne (hX : xO X cc own nL B g) {x : Int32} {off : Int} {tgt : Nat} (hd : decode cc pc = .ok (.ifCond .ne off, 3)) (ht : (pc : Int) + off = (tgt : Int)) (kt : ¬ x = 0 → xV X B nL Z a b P tgt L (st)) (kf : x = 0 → xV X B nL Z a b P (pc + 3) L (st)) : xV X B nL Z a b P pc L (.int x :: st) :=
  fun H locs ls hP hS hl => lv_if_ne hX.1 hX.2.1 hd ht (fun q => kt q H locs ls hP hS hl) (fun q => kf q H locs ls hP hS hl)
theorem x_if_lt (hX : xO X cc own nL B g) {x : Int32} {off : Int} {tgt : Nat} (hd : decode cc pc = .ok (.ifCond .lt off, 3)) (ht : (pc : Int) + off = (tgt : Int)) (kt : x < 0 → xV X B nL Z a b P tgt L (st)) (kf : ¬ x < 0 → xV X B nL Z a b P (pc + 3) L (st)) : xV X B nL Z a b P pc L (.int x :: st) :=
  fun H locs ls hP hS hl => lv_if_lt hX.1 hX.2.1 hd ht (fun q => kt q H locs ls hP hS hl) (fun q => kf q H locs ls hP hS hl)
theorem x_if_ge (hX : xO X cc own nL B g) {x : Int32} {off : Int} {tgt : Nat} (hd : decode cc pc = .ok (.ifCond .ge off, 3)) (ht : (pc : Int) + off = (tgt : Int)) (kt : 0 ≤ x → xV X B nL Z a b P tgt L (st)) (kf : ¬ 0 ≤ x → xV X B nL Z a b P (pc + 3) L (st)) : xV X B nL Z a b P pc L (.int x :: st) :=
  fun H locs ls hP hS hl => lv_if_ge hX.1 hX.2.1 hd ht (fun q => kt q H locs ls hP hS hl) (fun q => kf q H locs ls hP hS hl)
theorem x_if_gt (hX : xO X cc own nL B g) {x : Int32} {off : Int} {tgt : Nat} (hd : decode cc pc = .ok (.ifCond .gt off, 3)) (ht : (pc : Int) + off = (tgt : Int)) (kt : 0 < x → xV X B nL Z a b P tgt L (st)) (kf : ¬ 0 < x → xV X B nL Z a b P (pc + 3) L (st)) : xV X B nL Z a b P pc L (.int x :: st) :=
  fun H locs ls hP hS hl => lv_if_gt hX.1 hX.2.1 hd ht (fun q => kt q H locs ls hP hS hl) (fun q => kf q H locs ls hP hS hl)
theorem x_if_le (hX : xO X cc own nL B g) {x : Int32} {off : Int} {tgt : Nat} (hd : decode cc pc = .ok (.ifCond .le off, 3)) (ht : (pc : Int) + off = (tgt : Int)) (kt : x ≤ 0 → xV X B nL Z a b P tgt L (st)) (kf : ¬ x ≤ 0 → xV X B nL Z a b P (pc + 3) L (st)) : xV X B nL Z a b P pc L (.int x :: st) :=
  fun H locs ls hP hS hl => lv_if_le hX.1 hX.2.1 hd ht (fun q => kt q H locs ls hP hS hl) (fun q => kf q H locs ls hP hS hl)
theorem x_icmp_eq (hX : xO X cc own nL B g) {x y : Int32} {off : Int} {tgt : Nat} (hd : decode cc pc = .ok (.if_icmp .eq off, 3)) (ht : (pc : Int) + off = (tgt : Int)) (kt : x = y → xV X B nL Z a b P tgt L (st)) (kf : ¬ x = y → xV X B nL Z a b P (pc + 3) L (st)) : xV X B nL Z a b P pc L (.int y :: .int x :: st) :=
  fun H locs ls hP hS hl => lv_icmp_eq hX.1 hX.2.1 hd ht (fun q => kt q H locs ls hP hS hl) (fun q => kf q H locs ls hP hS hl)
theorem x_icmp_ne (hX : xO X cc own nL B g) {x y : Int32} {off : Int} {tgt : Nat} (hd : decode cc pc = .ok (.if_icmp .ne off, 3)) (ht : (pc : Int) + off = (tgt : Int)) (kt : ¬ x = y → xV X B nL Z a b P tgt L (st)) (kf : x = y → xV X B nL Z a b P (pc + 3) L (st)) : xV X B nL Z a b P pc L (.int y :: .int x :: st) :=
  fun H locs ls hP hS hl => lv_icmp_ne hX.1 hX.2.1 hd ht (fun q => kt q H locs ls hP hS hl) (fun q => kf q H locs ls hP hS hl)
theorem x_icmp_lt (hX : xO X cc own nL B g) {x y : Int32} {off : Int} {tgt : Nat} (hd : decode cc pc = .ok (.if_icmp .lt off, 3)) (ht : (pc : Int) + off = (tgt : Int)) (kt : x < y → xV X B nL Z a b P tgt L (st)) (kf : ¬ x < y → xV X B nL Z a b P (pc + 3) L (st)) : xV X B nL Z a b P pc L (.int y :: .int x :: st) :=
  fun H locs ls hP hS hl => lv_icmp_lt hX.1 hX.2.1 hd ht (fun q => kt q H locs ls hP hS hl) (fun q => kf q H locs ls hP hS hl)
theorem x_icmp_ge (hX : xO X cc own nL B g) {x y : Int32} {off : Int} {tgt : Nat} (hd : decode cc pc = .ok (.if_icmp .ge off, 3)) (ht : (pc : Int) + off = (tgt : Int)) (kt : y ≤ x → xV X B nL Z a b P tgt L (st)) (kf : ¬ y ≤ x → xV X B nL Z a b P (pc + 3) L (st)) : xV X B nL Z a b P pc L (.int y :: .int x :: st) :=
  fun H locs ls hP hS hl => lv_icmp_ge hX.1 hX.2.1 hd ht (fun q => kt q H locs ls hP hS hl) (fun q => kf q H locs ls hP hS hl)
theorem x_icmp_gt (hX : xO X cc own nL B g) {x y : Int32} {off : Int} {tgt : Nat} (hd : decode cc pc = .ok (.if_icmp .gt off, 3)) (ht : (pc : Int) + off = (tgt : Int)) (kt : y < x → xV X B nL Z a b P tgt L (st)) (kf : ¬ y < x → xV X B nL Z a b P (pc + 3) L (st)) : xV X B nL Z a b P pc L (.int y :: .int x :: st) :=
  fun H locs ls hP hS hl => lv_icmp_gt hX.1 hX.2.1 hd ht (fun q => kt q H locs ls hP hS hl) (fun q => kf q H locs ls hP hS hl)
theorem x_icmp_le (hX : xO X cc own nL B g) {x y : Int32} {off : Int} {tgt : Nat} (hd : decode cc pc = .ok (.if_icmp .le off, 3)) (ht : (pc : Int) + off = (tgt : Int)) (kt : x ≤ y → xV X B nL Z a b P tgt L (st)) (kf : ¬ x ≤ y → xV X B nL Z a b P (pc + 3) L (st)) : xV X B nL Z a b P pc L (.int y :: .int x :: st) :=
  fun H locs ls hP hS hl => lv_icmp_le hX.1 hX.2.1 hd ht (fun q => kt q H locs ls hP hS hl) (fun q => kf q H locs ls hP hS hl)
theorem x_goto (hX : xO X cc own nL B g) {off : Int} {tgt : Nat} (hd : decode cc pc = .ok (.goto off, 3)) (ht : (pc : Int) + off = (tgt : Int)) (k : xV X B nL Z a b P tgt L (st)) : xV X B nL Z a b P pc L (st) :=
  fun H locs ls hP hS hl => lv_goto hX.1 hX.2.1 hd ht (k H locs ls hP hS hl)
theorem x_null (hX : xO X cc own nL B g) (hd : decode cc pc = .ok (.aconst_null, 1)) (k : xV X B nL Z a b P (pc + 1) L (.null :: st)) : xV X B nL Z a b P pc L (st) :=
  fun H locs ls hP hS hl => lv_null hX.1 hX.2.1 hd (k H locs ls hP hS hl)
theorem x_ifnonnull (hX : xO X cc own nL B g) {x : Nat} {off : Int} {tgt : Nat} (hd : decode cc pc = .ok (.ifnonnull off, 3)) (ht : (pc : Int) + off = (tgt : Int)) (k : xV X B nL Z a b P tgt L (st)) : xV X B nL Z a b P pc L (.ref x :: st) :=
  fun H locs ls hP hS hl => lv_ifnonnull hX.1 hX.2.1 hd ht (k H locs ls hP hS hl)
theorem x_ifnull (hX : xO X cc own nL B g) {x : Nat} {off : Int} (hd : decode cc pc = .ok (.ifnull off, 3)) (k : xV X B nL Z a b P (pc + 3) L (st)) : xV X B nL Z a b P pc L (.ref x :: st) :=
  fun H locs ls hP hS hl => lv_ifnull hX.1 hX.2.1 hd (k H locs ls hP hS hl)
theorem x_ifnonnullN (hX : xO X cc own nL B g) {off : Int} (hd : decode cc pc = .ok (.ifnonnull off, 3)) (k : xV X B nL Z a b P (pc + 3) L (st)) : xV X B nL Z a b P pc L (.null :: st) :=
  fun H locs ls hP hS hl => lv_ifnonnullN hX.1 hX.2.1 hd (k H locs ls hP hS hl)
theorem x_ifnullN (hX : xO X cc own nL B g) {off : Int} {tgt : Nat} (hd : decode cc pc = .ok (.ifnull off, 3)) (ht : (pc : Int) + off = (tgt : Int)) (k : xV X B nL Z a b P tgt L (st)) : xV X B nL Z a b P pc L (.null :: st) :=
  fun H locs ls hP hS hl => lv_ifnullN hX.1 hX.2.1 hd ht (k H locs ls hP hS hl)
theorem x_lookup (hX : xO X cc own nL B g) {dflt : Int} {ps : Array (Int × Int)} {len : Nat} {x : Int32} {off : Int} {tgt : Nat} (hd : decode cc pc = .ok (.lookupswitch dflt ps, len)) (hp : (ps.toList.zip (ps.toList.drop 1)).all (fun (a, next) => a.1 < next.1) = true) (ho : Op.lookupswitch.offset ps.toList dflt x.toInt = off) (ht : (pc : Int) + off = (tgt : Int)) (k : xV X B nL Z a b P tgt L (st)) : xV X B nL Z a b P pc L (.int x :: st) :=
  fun H locs ls hP hS hl => lv_lookup hX.1 hX.2.1 hd hp ho ht (k H locs ls hP hS hl)
theorem x_tableOut (hX : xO X cc own nL B g) {dflt lo hi : Int} {offs : Array Int} {len : Nat} {x : Int32} {tgt : Nat} (hd : decode cc pc = .ok (.tableswitch dflt lo hi offs, len)) (h : x.toInt < lo ∨ hi < x.toInt) (ht : (pc : Int) + dflt = (tgt : Int)) (k : xV X B nL Z a b P tgt L (st)) : xV X B nL Z a b P pc L (.int x :: st) :=
  fun H locs ls hP hS hl => lv_tableOut hX.1 hX.2.1 hd h ht (k H locs ls hP hS hl)
theorem x_tableIn (hX : xO X cc own nL B g) {dflt lo hi : Int} {offs : Array Int} {len : Nat} {x : Int32} {off : Int} {tgt : Nat} (hd : decode cc pc = .ok (.tableswitch dflt lo hi offs, len)) (h1 : ¬ x.toInt < lo) (h2 : ¬ hi < x.toInt) (ho : offs[(x.toInt - lo).toNat]? = some off) (ht : (pc : Int) + off = (tgt : Int)) (k : xV X B nL Z a b P tgt L (st)) : xV X B nL Z a b P pc L (.int x :: st) :=
  fun H locs ls hP hS hl => lv_tableIn hX.1 hX.2.1 hd h1 h2 ho ht (k H locs ls hP hS hl)
theorem x_iload_n (hX : xO X cc own nL B g) {kf : Fin 4} {i : Nat} {x : Int32} (hd : decode cc pc = .ok (.iload_n kf, 1)) (hi : (kf : Nat) = i) (hv : L.lookup i = some (.int x)) (k : xV X B nL Z a b P (pc + 1) L (.int x :: st)) : xV X B nL Z a b P pc L (st) :=
  fun H locs ls hP hS hl => lv_iload_n hX.1 hX.2.1 hd hi (x_lk hl hv) (k H locs ls hP hS hl)
theorem x_iload (hX : xO X cc own nL B g) {i : Nat} {x : Int32} (hd : decode cc pc = .ok (.iload i, 2)) (hv : L.lookup i = some (.int x)) (k : xV X B nL Z a b P (pc + 2) L (.int x :: st)) : xV X B nL Z a b P pc L (st) :=
  fun H locs ls hP hS hl => lv_iload hX.1 hX.2.1 hd (x_lk hl hv) (k H locs ls hP hS hl)
theorem x_lload_n (hX : xO X cc own nL B g) {kf : Fin 4} {i : Nat} {x : Int64} (hd : decode cc pc = .ok (.lload_n kf, 1)) (hi : (kf : Nat) = i) (hv : L.lookup i = some (.long x)) (k : xV X B nL Z a b P (pc + 1) L (.long x :: st)) : xV X B nL Z a b P pc L (st) :=
  fun H locs ls hP hS hl => lv_lload_n hX.1 hX.2.1 hd hi (x_lk hl hv) (k H locs ls hP hS hl)
theorem x_lload (hX : xO X cc own nL B g) {i : Nat} {x : Int64} (hd : decode cc pc = .ok (.lload i, 2)) (hv : L.lookup i = some (.long x)) (k : xV X B nL Z a b P (pc + 2) L (.long x :: st)) : xV X B nL Z a b P pc L (st) :=
  fun H locs ls hP hS hl => lv_lload hX.1 hX.2.1 hd (x_lk hl hv) (k H locs ls hP hS hl)
theorem x_aload_n (hX : xO X cc own nL B g) {kf : Fin 4} {i : Nat} {x : Nat} (hd : decode cc pc = .ok (.aload_n kf, 1)) (hi : (kf : Nat) = i) (hv : L.lookup i = some (.ref x)) (k : xV X B nL Z a b P (pc + 1) L (.ref x :: st)) : xV X B nL Z a b P pc L (st) :=
  fun H locs ls hP hS hl => lv_aload_n hX.1 hX.2.1 hd hi (x_lk hl hv) (k H locs ls hP hS hl)
theorem x_aload (hX : xO X cc own nL B g) {i : Nat} {x : Nat} (hd : decode cc pc = .ok (.aload i, 2)) (hv : L.lookup i = some (.ref x)) (k : xV X B nL Z a b P (pc + 2) L (.ref x :: st)) : xV X B nL Z a b P pc L (st) :=
  fun H locs ls hP hS hl => lv_aload hX.1 hX.2.1 hd (x_lk hl hv) (k H locs ls hP hS hl)
theorem x_aload_nN (hX : xO X cc own nL B g) {kf : Fin 4} {i : Nat} (hd : decode cc pc = .ok (.aload_n kf, 1)) (hi : (kf : Nat) = i) (hv : L.lookup i = some .null) (k : xV X B nL Z a b P (pc + 1) L (.null :: st)) : xV X B nL Z a b P pc L (st) :=
  fun H locs ls hP hS hl => lv_aload_nN hX.1 hX.2.1 hd hi (x_lk hl hv) (k H locs ls hP hS hl)
theorem x_aloadN (hX : xO X cc own nL B g) {i : Nat} (hd : decode cc pc = .ok (.aload i, 2)) (hv : L.lookup i = some .null) (k : xV X B nL Z a b P (pc + 2) L (.null :: st)) : xV X B nL Z a b P pc L (st) :=
  fun H locs ls hP hS hl => lv_aloadN hX.1 hX.2.1 hd (x_lk hl hv) (k H locs ls hP hS hl)
theorem x_istore_n (hX : xO X cc own nL B g) {kf : Fin 4} {i : Nat} {x : Int32} (L' : List (Nat × Value)) (hd : decode cc pc = .ok (.istore_n kf, 1)) (hi : (kf : Nat) = i) (hn : i < nL) (hv : (i, Value.int x) :: L.filter (fun q => !(q.1 == i) && !(q.1 + 1 == i && q.2.category == 2)) = L') (k : xV X B nL Z a b P (pc + 1) L' (st)) : xV X B nL Z a b P pc L (.int x :: st) :=
  fun H locs ls hP hS hl => lv_istore_n hX.1 hX.2.1 hd hi hl hn hv (fun ls' hl' => k H locs ls' hP hS hl')
theorem x_istore (hX : xO X cc own nL B g) {i : Nat} {x : Int32} (L' : List (Nat × Value)) (hd : decode cc pc = .ok (.istore i, 2)) (hn : i < nL) (hv : (i, Value.int x) :: L.filter (fun q => !(q.1 == i) && !(q.1 + 1 == i && q.2.category == 2)) = L') (k : xV X B nL Z a b P (pc + 2) L' (st)) : xV X B nL Z a b P pc L (.int x :: st) :=
  fun H locs ls hP hS hl => lv_istore hX.1 hX.2.1 hd hl hn hv (fun ls' hl' => k H locs ls' hP hS hl')
theorem x_lstore_n (hX : xO X cc own nL B g) {kf : Fin 4} {i : Nat} {x : Int64} (L' : List (Nat × Value)) (hd : decode cc pc = .ok (.lstore_n kf, 1)) (hi : (kf : Nat) = i) (hn : i + 1 < nL) (hv : (i, Value.long x) :: L.filter (fun q => !(q.1 == i) && (!(q.1 == i + 1) && !(q.1 + 1 == i && q.2.category == 2))) = L') (k : xV X B nL Z a b P (pc + 1) L' (st)) : xV X B nL Z a b P pc L (.long x :: st) :=
  fun H locs ls hP hS hl => lv_lstore_n hX.1 hX.2.1 hd hi hl hn hv (fun ls' hl' => k H locs ls' hP hS hl')
theorem x_lstore (hX : xO X cc own nL B g) {i : Nat} {x : Int64} (L' : List (Nat × Value)) (hd : decode cc pc = .ok (.lstore i, 2)) (hn : i + 1 < nL) (hv : (i, Value.long x) :: L.filter (fun q => !(q.1 == i) && (!(q.1 == i + 1) && !(q.1 + 1 == i && q.2.category == 2))) = L') (k : xV X B nL Z a b P (pc + 2) L' (st)) : xV X B nL Z a b P pc L (.long x :: st) :=
  fun H locs ls hP hS hl => lv_lstore hX.1 hX.2.1 hd hl hn hv (fun ls' hl' => k H locs ls' hP hS hl')
theorem x_astore_n (hX : xO X cc own nL B g) {kf : Fin 4} {i : Nat} {x : Nat} (L' : List (Nat × Value)) (hd : decode cc pc = .ok (.astore_n kf, 1)) (hi : (kf : Nat) = i) (hn : i < nL) (hv : (i, Value.ref x) :: L.filter (fun q => !(q.1 == i) && !(q.1 + 1 == i && q.2.category == 2)) = L') (k : xV X B nL Z a b P (pc + 1) L' (st)) : xV X B nL Z a b P pc L (.ref x :: st) :=
  fun H locs ls hP hS hl => lv_astore_n hX.1 hX.2.1 hd hi hl hn hv (fun ls' hl' => k H locs ls' hP hS hl')
theorem x_astore (hX : xO X cc own nL B g) {i : Nat} {x : Nat} (L' : List (Nat × Value)) (hd : decode cc pc = .ok (.astore i, 2)) (hn : i < nL) (hv : (i, Value.ref x) :: L.filter (fun q => !(q.1 == i) && !(q.1 + 1 == i && q.2.category == 2)) = L') (k : xV X B nL Z a b P (pc + 2) L' (st)) : xV X B nL Z a b P pc L (.ref x :: st) :=
  fun H locs ls hP hS hl => lv_astore hX.1 hX.2.1 hd hl hn hv (fun ls' hl' => k H locs ls' hP hS hl')
theorem x_iinc (hX : xO X cc own nL B g) {i j : Nat} {n : Int} {x v : Int32} (L' : List (Nat × Value)) (hd : decode cc pc = .ok (.iinc i n, 3)) (hj : L[j]? = some (i, .int x)) (hw : x + Int32.ofInt n = v) (hn : i < nL) (hv : (i, Value.int v) :: L.filter (fun q => !(q.1 == i) && !(q.1 + 1 == i && q.2.category == 2)) = L') (k : xV X B nL Z a b P (pc + 3) L' (st)) : xV X B nL Z a b P pc L (st) :=
  fun H locs ls hP hS hl => lv_iinc hX.1 hX.2.1 hd hl hj hw hn hv (fun ls' hl' => k H locs ls' hP hS hl')
theorem x_sub (ks : List Nat) {L' : List (Nat × Value)} (h : lv_pick L ks = L') (k : xV X B nL Z a b P pc L' (st)) : xV X B nL Z a b P pc L (st) :=
  fun H locs ls hP hS hl => k H locs ls hP hS (lv_sub hl ks h)
theorem x_eqi {x y : Int32} (h : x = y) (k : xV X B nL Z a b P pc L (.int y :: st)) : xV X B nL Z a b P pc L (.int x :: st) := h ▸ k
theorem x_eql {x y : Int64} (h : x = y) (k : xV X B nL Z a b P pc L (.long y :: st)) : xV X B nL Z a b P pc L (.long x :: st) := h ▸ k
theorem x_world {P' : Heap → Prop} (h : ∀ H, P H → P' H) (k : xV X B nL Z a b P' pc L (st)) : xV X B nL Z a b P pc L (st) :=
  fun H locs ls hP hS hl => k H locs ls (h H hP) hS hl
theorem x_wide {a' b' : Nat} (h1 : a ≤ a') (h2 : b ≤ b') (k : xV X B nL Z a' b' P pc L st) : xV X B nL Z a b P pc L (st) :=
  fun H locs ls hP hS hl => W.widen h1 h2 (k H locs ls hP hS hl)
theorem x_ex {α : Type} {P' : α → Heap → Prop} (k : ∀ w : α, xV X B nL Z a b (P' w) pc L st) : xV X B nL Z a b (fun H => ∃ w : α, P' w H) pc L st :=
  fun H locs ls hP hS hl => hP.elim fun w hw => k w H locs ls hw hS hl
theorem x_and {φ : Prop} (k : φ → xV X B nL Z a b P pc L (st)) : xV X B nL Z a b (fun H => φ ∧ P H) pc L st :=
  fun H locs ls hP hS hl => k hP.1 H locs ls hP.2 hS hl
end XL
/-! worlds -/
def xtn : FieldType → Nat
  | .int => 0
  | .boolean => 0
  | .long => 1
  | .object _ => 2
  | .array _ => 2
  | _ => 3
/-- the fields of an object, out of the rows of its cell -/
def xfs (B : Nat) (ft : List FieldType) (i : Nat → Int32) (j : Nat → Int64) (f : Nat → Option Nat) : List Value :=
  ft.zipIdx.map fun q => match xtn q.1 with
    | 0 => .int (i q.2)
    | 1 => .long (j q.2)
    | _ => va_rf ((f q.2).map (B + ·))
/-- a cell: kind (0, class), (1, n) an int[n], (2, n) a long[n], (3, n) a boolean[n], (4 + t, n) an array of references of the t-th type -/
def xce (g : xG) (B : Nat) (kd : Nat × Nat) (i : Nat → Int32) (j : Nat → Int64) (f : Nat → Option Nat) : va_E := match kd with
  | (0, ci) => .inr (ci, xfs B (xft ci) i j f)
  | (1, n) => .inl (g.2 0, n, .inl i)
  | (2, n) => .inl (g.2 1, n, .inr (.inl j))
  | (3, n) => .inl (g.2 2, n, .inl i)
  | (t + 4, n) => .inl (g.2 (t + 3), n, .inr (.inr (.inr (.inr (fun p => (f p).map (B + ·))))))
def xP (g : xG) (B N : Nat) (K : Nat → Nat × Nat) (I : Nat → Nat → Int32) (J : Nat → Nat → Int64) (F : Nat → Nat → Option Nat) (H : Heap) : Prop :=
  (∀ k, k < N → va_at g.1 vwCl (B + k, xce g B (K k) (I k) (J k) (F k)) H) ∧ H.size = B + N
/-- one place of one cell -/
def xu {α : Type} (f : Nat → Nat → α) (k j : Nat) (v : α) : Nat → Nat → α := va_up f k (va_up (f k) j v)
theorem xu_row {α : Type} {f : Nat → Nat → α} {k j : Nat} {v : α} : xu f k j v k = va_up (f k) j v := va_up_self _ _ _
theorem xu_ne {α : Type} {f : Nat → Nat → α} {k j q : Nat} {v : α} (h : q ≠ k) : xu f k j v q = f q := va_up_ne _ _ h
theorem x_one {D : va_G} {cl : List vw_C} {a : Nat} {e : va_E} {H : Heap} (h : va_at D cl (a, e) H) : va_P D cl [(a, e)] H := by
  intro i q hq
  have hi : i < 1 := (List.getElem?_eq_some_iff.mp hq).1
  rw [show i = 0 by omega] at hq
  cases hq
  exact h
theorem xP_set {g : xG} {B N k : Nat} {K : Nat → Nat × Nat} {I I' : Nat → Nat → Int32} {J J' : Nat → Nat → Int64} {F F' : Nat → Nat → Option Nat} {H H' : Heap} (hP : xP g B N K I J F H) (z : H'.size = H.size) (oq : ∀ q, q ≠ B + k → H'[q]? = H[q]?)
    (he : va_at g.1 vwCl (B + k, xce g B (K k) (I' k) (J' k) (F' k)) H') (ho : ∀ q, q ≠ k → I' q = I q ∧ J' q = J q ∧ F' q = F q) : xP g B N K I' J' F' H' := by
  refine ⟨fun q hq => ?_, by rw [z]; exact hP.2⟩
  by_cases h : q = k
  · subst h
    exact he
  · obtain ⟨a1, a2, a3⟩ := ho q h
    rw [a1, a2, a3]
    exact (hP.1 q hq).kept (oq _ (fun e => h (Nat.add_left_cancel e)))
theorem xP_push {g : xG} {B N : Nat} {K : Nat → Nat × Nat} {I : Nat → Nat → Int32} {J : Nat → Nat → Int64} {F : Nat → Nat → Option Nat} {H H' : Heap} {kd : Nat × Nat} {i : Nat → Int32} {j : Nat → Int64} {f : Nat → Option Nat} (hP : xP g B N K I J F H) (z : H'.size = B + N + 1) (oq : ∀ q, q < B + N → H'[q]? = H[q]?)
    (he : va_at g.1 vwCl (B + N, xce g B kd i j f) H') : xP g B (N + 1) (va_up K N kd) (va_up I N i) (va_up J N j) (va_up F N f) H' := by
  refine ⟨fun q hq => ?_, by rw [z]; omega⟩
  by_cases h : q = N
  · subst h
    rw [va_up_self, va_up_self, va_up_self, va_up_self]
    exact he
  · rw [va_up_ne _ _ h, va_up_ne _ _ h, va_up_ne _ _ h, va_up_ne _ _ h]
    exact (hP.1 q (by omega)).kept (oq _ (by omega))
/-- what is known of a class of the worlds -/
def xcls (ci : Nat) (C : String) (T : u_T) (M : Nat) (ty : Nat → FieldType) : Prop :=
  vwCl[ci]? = some (C, T, M) ∧ (∀ w ∈ u_ws C T M, xm w) ∧ (∀ k, k < M → parseFieldDescriptor (T k).2.2.1 = some (ty k)) ∧ (∀ a, a < M → ∀ b, b < M → a ≠ b → (T a).2.1 ≠ (T b).2.1) ∧ xft ci = (List.range M).map ty ∧ ∀ k, k < M → xtn (ty k) ≤ 2
theorem xfs_at {B : Nat} {ty : Nat → FieldType} {M : Nat} {ft : List FieldType} (hf : ft = (List.range M).map ty) {i : Nat → Int32} {j : Nat → Int64} {f : Nat → Option Nat} {p : Nat} (hp : p < M) :
    (xfs B ft i j f)[p]? = some (match xtn (ty p) with | 0 => .int (i p) | 1 => .long (j p) | _ => va_rf ((f p).map (B + ·))) := by
  subst hf
  simp [xfs, List.getElem?_map, List.getElem?_zipIdx, hp]
theorem xfs_len {B : Nat} {ty : Nat → FieldType} {M : Nat} {ft : List FieldType} (hf : ft = (List.range M).map ty) {i : Nat → Int32} {j : Nat → Int64} {f : Nat → Option Nat} : (xfs B ft i j f).length = M := by
  subst hf
  simp [xfs]
section XH
variable {X : xX} {cc : ByteArray} {own : String} {nL B a b : Nat} {g : xG} {Z : State → Prop} {pc : Nat} {L : List (Nat × Value)} {st : List Value}
variable {N k j ci idx M : Nat} {K : Nat → Nat × Nat} {I I' : Nat → Nat → Int32} {J J' : Nat → Nat → Int64} {F F' : Nat → Nat → Option Nat} {C : String} {T : u_T} {ty : Nat → FieldType}
theorem x_objAt (hk : k < N) (hK : K k = (0, ci)) {H : Heap} (hP : xP g B N K I J F H) : va_at g.1 vwCl (B + k, .inr (ci, xfs B (xft ci) (I k) (J k) (F k))) H := by
  have h := hP.1 k hk
  rw [hK] at h
  exact h
/-- a field is read: v is what stands there -/
theorem x_get (hX : xO X cc own nL B g) (hc : xcls ci C T M ty) (hk : k < N) (hK : K k = (0, ci)) (hj : j < M) (hl : xm (.fieldLink own idx (T j).1 (T j).2.1 (T j).2.2.1)) {v : Value} (hv : (xfs B (xft ci) (I k) (J k) (F k))[j]? = some v) (hd : decode cc pc = .ok (.getfield idx, 3))
    (kk : xV X B nL Z a b (xP g B N K I J F) (pc + 3) L (v :: st)) : xV X B nL Z a b (xP g B N K I J F) pc L (.ref (B + k) :: st) := by
  intro H locs ls hP hS hl'
  obtain ⟨hx, hb, -, hown, -, -, hKk, hT⟩ := hX
  exact va_get (C := C) (T := T) (N := M) (ci := ci) (Ts := u_ws C T M) hx hb (fun w h => hT.m (hc.2.1 w h)) (fun _ h => h) hown hKk (x_one (x_objAt hk hK hP)) 0 rfl hc.1 j hj (hT.m hl) (fun _ h => h) hv hd (kk H locs ls hP hS hl')
theorem x_getI (hX : xO X cc own nL B g) (hc : xcls ci C T M ty) (hk : k < N) (hK : K k = (0, ci)) (hj : j < M) (ht : xtn (ty j) = 0) (hl : xm (.fieldLink own idx (T j).1 (T j).2.1 (T j).2.2.1)) (hd : decode cc pc = .ok (.getfield idx, 3))
    (kk : xV X B nL Z a b (xP g B N K I J F) (pc + 3) L (.int (I k j) :: st)) : xV X B nL Z a b (xP g B N K I J F) pc L (.ref (B + k) :: st) :=
  x_get hX hc hk hK hj hl (by rw [xfs_at hc.2.2.2.2.1 hj, ht]) hd kk
theorem x_getJ (hX : xO X cc own nL B g) (hc : xcls ci C T M ty) (hk : k < N) (hK : K k = (0, ci)) (hj : j < M) (ht : xtn (ty j) = 1) (hl : xm (.fieldLink own idx (T j).1 (T j).2.1 (T j).2.2.1)) (hd : decode cc pc = .ok (.getfield idx, 3))
    (kk : xV X B nL Z a b (xP g B N K I J F) (pc + 3) L (.long (J k j) :: st)) : xV X B nL Z a b (xP g B N K I J F) pc L (.ref (B + k) :: st) :=
  x_get hX hc hk hK hj hl (by rw [xfs_at hc.2.2.2.2.1 hj, ht]) hd kk
theorem x_getF (hX : xO X cc own nL B g) (hc : xcls ci C T M ty) (hk : k < N) (hK : K k = (0, ci)) (hj : j < M) (ht : xtn (ty j) = 2) {r : Nat} (hr : F k j = some r) (hl : xm (.fieldLink own idx (T j).1 (T j).2.1 (T j).2.2.1)) (hd : decode cc pc = .ok (.getfield idx, 3))
    (kk : xV X B nL Z a b (xP g B N K I J F) (pc + 3) L (.ref (B + r) :: st)) : xV X B nL Z a b (xP g B N K I J F) pc L (.ref (B + k) :: st) :=
  x_get hX hc hk hK hj hl (by rw [xfs_at hc.2.2.2.2.1 hj, ht]; simp [hr, va_rf]) hd kk
/-- a field is written -/
theorem x_put (hX : xO X cc own nL B g) (hc : xcls ci C T M ty) (hk : k < N) (hK : K k = (0, ci)) (hj : j < M) (hl : xm (.fieldLink own idx (T j).1 (T j).2.1 (T j).2.2.1)) (hfin : (T j).2.2.2 = false ∨ ((x_meth X).name = "<init>" ∧ (T j).2.2.2 = true ∧ (T j).1 = own)) {v : Value} (hn : narrow (ty j) v = v) (hfit : fits (ty j) v = true)
    (hrow : (xfs B (xft ci) (I k) (J k) (F k)).set j v = xfs B (xft ci) (I' k) (J' k) (F' k)) (ho : ∀ q, q ≠ k → I' q = I q ∧ J' q = J q ∧ F' q = F q) (hd : decode cc pc = .ok (.putfield idx, 3))
    (kk : xV X B nL Z a b (xP g B N K I' J' F') (pc + 3) L st) : xV X B nL Z a b (xP g B N K I J F) pc L (v :: .ref (B + k) :: st) := by
  intro H locs ls hP hS hl'
  obtain ⟨hx, hb, -, hown, -, -, hKk, hT⟩ := hX
  obtain ⟨hc0, hin, hty, hnm, hft, -⟩ := hc
  have hts : ∀ w ∈ u_ws C T M, w.before (x_args X) (x_s X) = true := fun w h => hT.m (hin w h)
  have hap := va_apart (own := own) hts (fun _ h => h) ty hty hnm hKk hc0
  obtain ⟨r, h1, cell, q1, q2, q3, q4⟩ := x_objAt hk hK hP
  have hr : r = (C, T, M) := Option.some.inj (h1.symm.trans hc0)
  subst hr
  obtain ⟨hSl, hfc, kC, hkC, hkind⟩ := hKk.1 ci _ hc0
  obtain ⟨cf, kf, fi, f, hi, hsl⟩ := hSl j hj
  have hst := (u_facts hfc hkC (u_lays hts (fun _ h => h) hj) hi).1
  have hlen : j < (xfs B (xft ci) (I k) (J k) (F k)).length := by rw [xfs_len hft]; exact hj
  have fin : ∀ (H' : Heap), H'[B + k]? = some (cell.setSlot f.slot v) → H'.size = H.size → (∀ q, q ≠ B + k → H'[q]? = H[q]?) → W X.1 X.2.1 X.2.2.1 X.2.2.2.1 X.2.2.2.2.1 X.2.2.2.2.2.1 X.2.2.2.2.2.2.1 X.2.2.2.2.2.2.2.1 X.2.2.2.2.2.2.2.2.1 X.2.2.2.2.2.2.2.2.2 H' (locs ++ [⟨B + k, f.slot⟩]) a b Z (F0 X.2.2.2.2.2.1 (pc + 3) ls st) := by
    intro H' e1 e2 e3
    rw [hsl] at e1
    have he : va_at g.1 vwCl (B + k, .inr (ci, (xfs B (xft ci) (I k) (J k) (F k)).set j v)) H' := ⟨_, hc0, t_OB.to (V := updV (vp_V (xfs B (xft ci) (I k) (J k) (F k))) j v) ⟨_, e1, q2, q3, t_set q4 hap hj v⟩ (fun i _ => vp_updV_set hlen v i)⟩
    rw [hrow] at he
    exact kk H' _ ls (xP_set hP e2 e3 (by rw [hK]; exact he) ho) (hS.put e2 e3 (Nat.le_add_right B k)) hl'
  rcases hfin with hfin | ⟨hin2, hfin, hdecl⟩
  · have hlay := hts _ (u_in_lay hj)
    unfold u_lay at hlay
    rw [if_neg (by rw [hfin]; decide)] at hlay
    have h6 := u_store hfc hkC hkind hlay hi (hty j hj) hn hfit
    exact W.putK hx hb (f := f) ⟨hown, hT.m hl, ⟨_, _, _, hi⟩, hst⟩ (by rw [q2]; exact h6) q1 q3 (by rw [hsl]; exact k2_hasslot (q4 j hj)) rfl rfl hd fin
  · have hlay := hts _ (u_in_lay hj)
    unfold u_lay at hlay
    rw [if_pos hfin] at hlay
    have hcf : X.2.2.2.2.2.1.cls = cf := by
      obtain ⟨_, _, c', _, _, _, -, -, hf', -, -, -, hown2, -⟩ := Cond.laysFinal_spec hlay
      have e1 : c' = cf := by have := hi.symm.trans hf'; simp at this; exact this.1.symm
      rw [hdecl] at hown2
      rw [← e1]; exact Option.some.inj (hown.symm.trans hown2)
    have h6 := u_fits hfc hkC hkind (Or.inr hlay) hi (hty j hj) hn hfit
    exact W.putFinK hx hb hown (hT.m hl) hi hst hcf hin2 (by rw [q2]; exact h6) q1 q3 (by rw [hsl]; exact k2_hasslot (q4 j hj)) rfl rfl hd fin
theorem xfs_setI {B : Nat} {ty : Nat → FieldType} {M j : Nat} {ft : List FieldType} (hf : ft = (List.range M).map ty) (ht : xtn (ty j) = 0) {i : Nat → Int32} {l : Nat → Int64} {f : Nat → Option Nat} {v : Int32} (hj : j < M) : (xfs B ft i l f).set j (.int v) = xfs B ft (va_up i j v) l f := by
  apply List.ext_getElem?
  intro p
  by_cases hp : p < M
  · rw [List.getElem?_set, xfs_at hf hp, xfs_at hf hp, xfs_len hf]
    by_cases e : j = p
    · subst e
      simp [ht, hp, va_up]
    · simp [e, va_up, Ne.symm e]
  · rw [List.getElem?_eq_none (by rw [List.length_set, xfs_len hf]; omega), List.getElem?_eq_none (by rw [xfs_len hf]; omega)]
theorem xfs_setJ {B : Nat} {ty : Nat → FieldType} {M j : Nat} {ft : List FieldType} (hf : ft = (List.range M).map ty) (ht : xtn (ty j) = 1) {i : Nat → Int32} {l : Nat → Int64} {f : Nat → Option Nat} {v : Int64} (hj : j < M) : (xfs B ft i l f).set j (.long v) = xfs B ft i (va_up l j v) f := by
  apply List.ext_getElem?
  intro p
  by_cases hp : p < M
  · rw [List.getElem?_set, xfs_at hf hp, xfs_at hf hp, xfs_len hf]
    by_cases e : j = p
    · subst e
      simp [ht, hp, va_up]
    · simp [e, va_up, Ne.symm e]
  · rw [List.getElem?_eq_none (by rw [List.length_set, xfs_len hf]; omega), List.getElem?_eq_none (by rw [xfs_len hf]; omega)]
theorem xfs_setF {B : Nat} {ty : Nat → FieldType} {M j : Nat} {ft : List FieldType} (hf : ft = (List.range M).map ty) (ht : xtn (ty j) = 2) {i : Nat → Int32} {l : Nat → Int64} {f : Nat → Option Nat} {v : Nat} (hj : j < M) : (xfs B ft i l f).set j (.ref (B + v)) = xfs B ft i l (va_up f j (some v)) := by
  apply List.ext_getElem?
  intro p
  by_cases hp : p < M
  · rw [List.getElem?_set, xfs_at hf hp, xfs_at hf hp, xfs_len hf]
    by_cases e : j = p
    · subst e
      simp [ht, hp, va_up, va_rf]
    · simp [e, va_up, Ne.symm e]
  · rw [List.getElem?_eq_none (by rw [List.length_set, xfs_len hf]; omega), List.getElem?_eq_none (by rw [xfs_len hf]; omega)]
theorem x_putI (hX : xO X cc own nL B g) (hc : xcls ci C T M ty) (hk : k < N) (hK : K k = (0, ci)) (hj : j < M) (ht : xtn (ty j) = 0) (hl : xm (.fieldLink own idx (T j).1 (T j).2.1 (T j).2.2.1)) (hfin : (T j).2.2.2 = false ∨ ((x_meth X).name = "<init>" ∧ (T j).2.2.2 = true ∧ (T j).1 = own)) {v : Int32} (hn : narrow (ty j) (.int v) = .int v) (hfit : fits (ty j) (.int v) = true) (hd : decode cc pc = .ok (.putfield idx, 3))
    (kk : xV X B nL Z a b (xP g B N K (xu I k j v) J F) (pc + 3) L st) : xV X B nL Z a b (xP g B N K I J F) pc L (.int v :: .ref (B + k) :: st) :=
  x_put (I' := xu I k j v) (J' := J) (F' := F) hX hc hk hK hj hl hfin hn hfit (by rw [xu_row, xfs_setI hc.2.2.2.2.1 ht hj]) (fun q hq => ⟨xu_ne hq, rfl, rfl⟩) hd kk
theorem x_putJ (hX : xO X cc own nL B g) (hc : xcls ci C T M ty) (hk : k < N) (hK : K k = (0, ci)) (hj : j < M) (ht : xtn (ty j) = 1) (hl : xm (.fieldLink own idx (T j).1 (T j).2.1 (T j).2.2.1)) (hfin : (T j).2.2.2 = false ∨ ((x_meth X).name = "<init>" ∧ (T j).2.2.2 = true ∧ (T j).1 = own)) {v : Int64} (hn : narrow (ty j) (.long v) = .long v) (hfit : fits (ty j) (.long v) = true) (hd : decode cc pc = .ok (.putfield idx, 3))
    (kk : xV X B nL Z a b (xP g B N K I (xu J k j v) F) (pc + 3) L st) : xV X B nL Z a b (xP g B N K I J F) pc L (.long v :: .ref (B + k) :: st) :=
  x_put (I' := I) (J' := xu J k j v) (F' := F) hX hc hk hK hj hl hfin hn hfit (by rw [xu_row, xfs_setJ hc.2.2.2.2.1 ht hj]) (fun q hq => ⟨rfl, xu_ne hq, rfl⟩) hd kk
theorem x_putF (hX : xO X cc own nL B g) (hc : xcls ci C T M ty) (hk : k < N) (hK : K k = (0, ci)) (hj : j < M) (ht : xtn (ty j) = 2) (hl : xm (.fieldLink own idx (T j).1 (T j).2.1 (T j).2.2.1)) (hfin : (T j).2.2.2 = false ∨ ((x_meth X).name = "<init>" ∧ (T j).2.2.2 = true ∧ (T j).1 = own)) {v : Nat} (hn : narrow (ty j) (.ref (B + v)) = .ref (B + v)) (hfit : fits (ty j) (.ref (B + v)) = true) (hd : decode cc pc = .ok (.putfield idx, 3))
    (kk : xV X B nL Z a b (xP g B N K I J (xu F k j (some v))) (pc + 3) L st) : xV X B nL Z a b (xP g B N K I J F) pc L (.ref (B + v) :: .ref (B + k) :: st) :=
  x_put (I' := I) (J' := J) (F' := xu F k j (some v)) hX hc hk hK hj hl hfin hn hfit (by rw [xu_row, xfs_setF hc.2.2.2.2.1 ht hj]) (fun q hq => ⟨rfl, rfl, xu_ne hq⟩) hd kk
/-! arrays: at the place p of an array of n -/
def xat (i : Int32) (n p : Nat) : Prop := vp_in i n ∧ i.toNatClampNeg = p
theorem xat_nI {n p : Nat} (h : p < n) (hn : n < 2 ^ 31) : xat (nI p) n p := ⟨vp_in_nI h hn, nI_clamp (Nat.lt_trans h hn)⟩
variable {n p : Nat} {i : Int32}
theorem x_iald (hX : xO X cc own nL B g) (hk : k < N) (hK : K k = (1, n)) (hp : xat i n p) (hd : decode cc pc = .ok (.iaload, 1))
    (kk : xV X B nL Z a b (xP g B N K I J F) (pc + 1) L (.int (I k p) :: st)) : xV X B nL Z a b (xP g B N K I J F) pc L (.int i :: .ref (B + k) :: st) := by
  intro H locs ls hP hS hl'
  have h := hP.1 k hk
  rw [hK] at h
  have hh := kk H locs ls hP hS hl'
  rw [← hp.2] at hh
  exact va_iald (f := I k) hX.1 hX.2.1 hX.2.2.2.2.2.2.1 (x_one h) 0 0 rfl rfl hp.1 hd hh
theorem x_zald (hX : xO X cc own nL B g) (hk : k < N) (hK : K k = (3, n)) (hp : xat i n p) (hd : decode cc pc = .ok (.baload, 1))
    (kk : xV X B nL Z a b (xP g B N K I J F) (pc + 1) L (.int (I k p) :: st)) : xV X B nL Z a b (xP g B N K I J F) pc L (.int i :: .ref (B + k) :: st) := by
  intro H locs ls hP hS hl'
  have h := hP.1 k hk
  rw [hK] at h
  have hh := kk H locs ls hP hS hl'
  rw [← hp.2] at hh
  exact va_zald (f := I k) hX.1 hX.2.1 hX.2.2.2.2.2.2.1 (x_one h) 0 2 rfl rfl hp.1 hd hh
theorem x_lald (hX : xO X cc own nL B g) (hk : k < N) (hK : K k = (2, n)) (hp : xat i n p) (hd : decode cc pc = .ok (.laload, 1))
    (kk : xV X B nL Z a b (xP g B N K I J F) (pc + 1) L (.long (J k p) :: st)) : xV X B nL Z a b (xP g B N K I J F) pc L (.int i :: .ref (B + k) :: st) := by
  intro H locs ls hP hS hl'
  have h := hP.1 k hk
  rw [hK] at h
  have hh := kk H locs ls hP hS hl'
  rw [← hp.2] at hh
  exact va_lald (f := J k) hX.1 hX.2.1 hX.2.2.2.2.2.2.1 (x_one h) 0 1 rfl rfl hp.1 hd hh
theorem x_alen (hX : xO X cc own nL B g) (hk : k < N) {t : Nat} (hK : K k = (t + 1, n)) (ht : t < xtyn) (hd : decode cc pc = .ok (.arraylength, 1))
    (kk : xV X B nL Z a b (xP g B N K I J F) (pc + 1) L (.int (nI n) :: st)) : xV X B nL Z a b (xP g B N K I J F) pc L (.ref (B + k) :: st) := by
  intro H locs ls hP hS hl'
  have h := hP.1 k hk
  rw [hK] at h
  have hh := kk H locs ls hP hS hl'
  obtain ⟨fty, hty⟩ : ∃ fty, (xtys g.2)[t]? = some (g.2 t, fty) := xtys_at g.2 ht
  have ha := (hX.2.2.2.2.2.2.1.2 t _ hty).1
  match t, h, ha with
  | 0, h, ha => exact W.alen (n := nI n) hX.1 hX.2.1 h (ha n (fun j => .int (I k j))) (by rw [vp_cell_i, arrV_size]; rfl) rfl rfl hd hh
  | 1, h, ha => exact W.alen (n := nI n) hX.1 hX.2.1 h (ha n (fun j => .long (J k j))) (by rw [vp_cell_l, arrV_size]; rfl) rfl rfl hd hh
  | 2, h, ha => exact W.alen (n := nI n) hX.1 hX.2.1 h (ha n (fun j => .int (I k j))) (by rw [vp_cell_i, arrV_size]; rfl) rfl rfl hd hh
  | t + 3, h, ha => exact W.alen (n := nI n) hX.1 hX.2.1 h (ha n (fun j => va_rf ((F k j).map (B + ·)))) (by rw [vp_cell_q, arrV_size]; rfl) rfl rfl hd hh
theorem x_iast (hX : xO X cc own nL B g) (hk : k < N) (hK : K k = (1, n)) (hp : xat i n p) {v : Int32} (hd : decode cc pc = .ok (.iastore, 1))
    (kk : xV X B nL Z a b (xP g B N K (xu I k p v) J F) (pc + 1) L st) : xV X B nL Z a b (xP g B N K I J F) pc L (.int v :: .int i :: .ref (B + k) :: st) := by
  intro H locs ls hP hS hl'
  have h := hP.1 k hk
  rw [hK] at h
  refine W.iast hX.1 hX.2.1 h ((hX.2.2.2.2.2.2.1.2 0 _ rfl).1 n (fun j => .int (I k j))) (fun q => by cases q) (by show ¬ (i < 0 ∨ (arrV _ _ _).slots.size ≤ _); rw [arrV_size]; exact hp.1) rfl rfl hd fun H1 e z oq => ?_
  refine kk H1 _ ls (xP_set hP z oq ?_ (fun q hq => ⟨xu_ne hq, rfl, rfl⟩)) (hS.put z oq (Nat.le_add_right B k)) hl'
  rw [hK, xu_row]
  show H1[B + k]? = some (vp_cell _ _)
  rw [e, vp_cell_i, vp_cell_i, arrV_store, hp.2]
  congr 2
  funext q
  by_cases hq : q = p <;> simp [updV, va_up, hq]
theorem x_zast (hX : xO X cc own nL B g) (hk : k < N) (hK : K k = (3, n)) (hp : xat i n p) {v : Int32} (hv : narrow .boolean (.int v) = .int v) (hd : decode cc pc = .ok (.bastore, 1))
    (kk : xV X B nL Z a b (xP g B N K (xu I k p v) J F) (pc + 1) L st) : xV X B nL Z a b (xP g B N K I J F) pc L (.int v :: .int i :: .ref (B + k) :: st) := by
  intro H locs ls hP hS hl'
  have h := hP.1 k hk
  rw [hK] at h
  refine W.zast hX.1 hX.2.1 h ((hX.2.2.2.2.2.2.1.2 2 _ rfl).1 n (fun j => .int (I k j))) (fun q => by cases q) (by show ¬ (i < 0 ∨ (arrV _ _ _).slots.size ≤ _); rw [arrV_size]; exact hp.1) rfl rfl hd fun H1 e z oq => ?_
  refine kk H1 _ ls (xP_set hP z oq ?_ (fun q hq => ⟨xu_ne hq, rfl, rfl⟩)) (hS.put z oq (Nat.le_add_right B k)) hl'
  rw [hK, xu_row]
  show H1[B + k]? = some (vp_cell _ _)
  rw [e, vp_cell_i, vp_cell_i, arrV_store, hp.2, hv]
  congr 2
  funext q
  by_cases hq : q = p <;> simp [updV, va_up, hq]
theorem x_last (hX : xO X cc own nL B g) (hk : k < N) (hK : K k = (2, n)) (hp : xat i n p) {v : Int64} (hd : decode cc pc = .ok (.lastore, 1))
    (kk : xV X B nL Z a b (xP g B N K I (xu J k p v) F) (pc + 1) L st) : xV X B nL Z a b (xP g B N K I J F) pc L (.long v :: .int i :: .ref (B + k) :: st) := by
  intro H locs ls hP hS hl'
  have h := hP.1 k hk
  rw [hK] at h
  refine W.last hX.1 hX.2.1 h ((hX.2.2.2.2.2.2.1.2 1 _ rfl).1 n (fun j => .long (J k j))) (fun q => by cases q) (by show ¬ (i < 0 ∨ (arrV _ _ _).slots.size ≤ _); rw [arrV_size]; exact hp.1) rfl rfl hd fun H1 e z oq => ?_
  refine kk H1 _ ls (xP_set hP z oq ?_ (fun q hq => ⟨rfl, xu_ne hq, rfl⟩)) (hS.put z oq (Nat.le_add_right B k)) hl'
  rw [hK, xu_row]
  show H1[B + k]? = some (vp_cell _ _)
  rw [e, vp_cell_l, vp_cell_l, arrV_store, hp.2]
  congr 2
  funext q
  by_cases hq : q = p <;> simp [updV, va_up, hq]
/-! returns and contracts -/
def xrm (d mc ms : Nat) : Room := { frames := d, cells := mc, slots := ms, locals := 40 * d }
def xQc (B : Nat) (Q : Option Value → Heap → Prop) : Array Value → State → Outcome → State → Prop := fun _ s0 o t => ∃ r, o = .returned r ∧ Q r t.heap ∧ s0.heap.size ≤ t.heap.size ∧ ∀ q, q < B → t.heap[q]? = s0.heap[q]?
def xZ (X : xX) (B mc ms : Nat) (Q : Option Value → Heap → Prop) : State → Prop := MQ (x_below X) (xQc B Q) (x_args X) (x_s X) mc ms (fun q => B ≤ q)
def xPc (g : xG) (B : Nat) (av : List Value) (P : Heap → Prop) : Array Value → State → Prop := fun v U => v = av.toArray ∧ xT U ∧ xK g U ∧ B ≤ U.heap.size ∧ P U.heap
/-- the contract of a method: d frames deep, mc new cells of ms slots -/
def xC (l : Launch) (g : xG) (B d mc ms : Nat) (y : MethodName) (cc : ByteArray) (maxL : Nat) (ret : Option FieldType) (av : List Value) (P : Heap → Prop) (Q : Option Value → Heap → Prop) : Prop :=
  Met l y [.code y cc maxL ret] (xrm d mc ms) (xPc g B av P) (xQc B Q) mc ms (fun q => B ≤ q)
variable {P : Heap → Prop} {Q : Option Value → Heap → Prop}
theorem x_endq (hX : xO X cc own nL B g) {H : Heap} {locs : List Loc} {r : Option Value} (hS : va_S (fun q => B ≤ q) (x_s X).heap H locs) (hq : Q r H) (t : State) (ht : t.heap = H) : xQc B Q (x_args X) (x_s X) (.returned r) t :=
  ⟨r, rfl, by rw [ht]; exact hq, by rw [ht]; exact hS.1, fun q h => by rw [ht]; exact hS.2.1 q (Nat.lt_of_lt_of_le h hX.2.2.2.2.2.1) (Nat.not_le.mpr h)⟩
theorem x_iret (hX : xO X cc own nL B g) (hr : (x_meth X).sig.returnType = some .int) {v : Int32} (hd : decode cc pc = .ok (.ireturn, 1)) (hq : ∀ H, P H → Q (some (.int v)) H) : xV X B nL (xZ X B a b Q) a b P pc L [.int v] :=
  fun H _ _ hP hS _ => W.iret hX.1 hX.2.1 hr (fun t ht _ => x_endq hX hS (hq H hP) t ht) hS.2.2 hd hX.2.2.2.2.1
theorem x_zret (hX : xO X cc own nL B g) (hr : (x_meth X).sig.returnType = some .boolean) {v : Int32} (hn : narrow .boolean (.int v) = .int v) (hd : decode cc pc = .ok (.ireturn, 1)) (hq : ∀ H, P H → Q (some (.int v)) H) : xV X B nL (xZ X B a b Q) a b P pc L [.int v] :=
  fun H _ _ hP hS _ => W.zret hX.1 hX.2.1 hr hn (fun t ht _ => x_endq hX hS (hq H hP) t ht) hS.2.2 hd hX.2.2.2.2.1
theorem x_lret (hX : xO X cc own nL B g) (hr : (x_meth X).sig.returnType = some .long) {v : Int64} (hd : decode cc pc = .ok (.lreturn, 1)) (hq : ∀ H, P H → Q (some (.long v)) H) : xV X B nL (xZ X B a b Q) a b P pc L [.long v] :=
  fun H _ _ hP hS _ => W.lret hX.1 hX.2.1 hr (fun t ht _ => x_endq hX hS (hq H hP) t ht) hS.2.2 hd hX.2.2.2.2.1
theorem x_vret (hX : xO X cc own nL B g) (hr : (x_meth X).sig.returnType = none) (hd : decode cc pc = .ok (.return_, 1)) (hq : ∀ H, P H → Q none H) : xV X B nL (xZ X B a b Q) a b P pc L [] :=
  fun H _ _ hP hS _ => W.vret hX.1 hX.2.1 hr (fun t ht _ => x_endq hX hS (hq H hP) t ht) hS.2.2 hd hX.2.2.2.2.1
theorem x_aret (hX : xO X cc own nL B g) {rt : FieldType} (hr : (x_meth X).sig.returnType = some rt) (hrt : (∃ n, rt = .object n) ∨ ∃ t, rt = .array t) {v : Value} (hv : v = .null ∨ ∃ q, v = .ref q) (hd : decode cc pc = .ok (.areturn, 1)) (hq : ∀ H, P H → Q (some v) H) : xV X B nL (xZ X B a b Q) a b P pc L [v] :=
  fun H _ _ hP hS _ => W.aret hX.1 hX.2.1 hr hrt hv (fun t ht _ => x_endq hX hS (hq H hP) t ht) hS.2.2 hd hX.2.2.2.2.1
theorem xC_of {l : Launch} {d mc ms maxL : Nat} {y : MethodName} {ret : Option FieldType} {av : List Value} (hy : plainName y.cls = true) (hlen : (lg_sl av).length ≤ maxL)
    (body : ∀ X : xX, x_l X = l → x_R X = xrm d mc ms → (x_meth X).sig.returnType = ret → (x_meth X).name = y.name → xO X cc y.cls maxL B g → xV X B maxL (xZ X B mc ms Q) 0 0 P 0 (lv_args 0 av) []) : xC l g B d mc ms y cc maxL ret av P Q := by
  refine Met.ofW (cc := cc) (maxL := maxL) (ret := ret) hy rfl ?_
  intro p e s m args below meth c s₁ Bd hml hv
  obtain ⟨rfl, hT, hK, hB, hP⟩ := hv
  have h := body (p, l, e, xrm d mc ms, s, m, av.toArray, below, meth, c) rfl rfl Bd.returns (name_of_methodNamed Bd.named Bd.method).1 ⟨Bd.exec, Bd.bytes, hml, findClass_of_methodNamed Bd.named, Bd.notSynchronized, hB, hK, hT⟩
  rw [lg_entry_eq]
  exact h s.heap [] _ hP va_S.rf (lv_entry av hlen)
/-- behind a call -/
theorem x_after {mc ms : Nat} {av : Array Value} {st0 : List Value} {H : Heap} {locs : List Loc} {ls : Array Slot} (hX : xO X cc own nL B g) (hr : va_Run X.1 X.2.1 X.2.2.1 X.2.2.2.1 X.2.2.2.2.1 X.2.2.2.2.2.1 X.2.2.2.2.2.2.1 X.2.2.2.2.2.2.2.1 X.2.2.2.2.2.2.2.2.1 X.2.2.2.2.2.2.2.2.2 H locs a b mc ms (F0 X.2.2.2.2.2.1 pc ls st0) st (xQc B Q av) (fun q => B ≤ q))
    (hS : va_S (fun q => B ≤ q) (x_s X).heap H locs) (hl : lv_has ls nL L) (kk : ∀ r, xV X B nL Z (a + mc) (b + ms) (Q r) (pc + 3) L (r.toList ++ st)) : W X.1 X.2.1 X.2.2.1 X.2.2.2.1 X.2.2.2.2.1 X.2.2.2.2.2.1 X.2.2.2.2.2.2.1 X.2.2.2.2.2.2.2.1 X.2.2.2.2.2.2.2.2.1 X.2.2.2.2.2.2.2.2.2 H locs a b Z (F0 X.2.2.2.2.2.1 pc ls st0) := by
  intro T hT Xs
  obtain ⟨v, st₀, t, T', L', h0, X', hL, e1, e2, ⟨r, hv, hq, hz, hk⟩, stp⟩ := hr T hT Xs
  cases hv
  rw [h0] at hz hk
  obtain ⟨t2, a1, b1⟩ := kk v T'.heap (locs ++ L') ls (by rw [e1]; exact hq) ⟨Nat.le_trans hS.1 (by rw [e1]; exact hz), fun q h1 h2 => by rw [e1, hk q (Nat.not_le.mp h2)]; exact hS.2.1 q h1 h2, fun q hq => by
      rcases List.mem_append.mp hq with h | h
      · exact hS.2.2 q h
      · exact hL q h⟩ hl T' rfl X'
  exact ⟨t2, stp t2 a1, b1⟩
theorem x_blind {av : List Value} : FrameBlind (xPc g B av P) := fun _ _ _ _ h => ⟨h.1, h.2.1.warm (State.WarmedH.refl _), va_K.moved (Vm.Alike.refl _) h.2.2.1, h.2.2.2.1, h.2.2.2.2⟩
/-- what a call of y from own's place idx of the pool needs: the link, the code, the class, the number of its arguments -/
def xcl (own : String) (idx : Nat) (y : MethodName) (bytes : ByteArray) (maxL : Nat) (ret : Option FieldType) (n : Nat) : Prop :=
  xm (.methodLink own idx y) ∧ xm (.code y bytes maxL ret) ∧ xm (.initialized y.cls) ∧ (y.cls ≠ "java/lang/invoke/MethodHandle" ∧ y.cls ≠ "java/lang/invoke/VarHandle" ∧ (parseMethodDescriptor y.desc).map (fun d => d.parameters.length) = some n) ∧ maxL ≤ 21
theorem x_callB {d mc ms mc0 ms0 maxL : Nat} {y : MethodName} {bytes : ByteArray} {ret : Option FieldType} (hX : xO X cc own nL B g) (hR : x_R X = xrm (d + 1) mc0 ms0) (hc : xcl own idx y bytes maxL ret n) : CallB (x_R X) (x_s X) (x_args X) own idx y bytes maxL ret [.code y bytes maxL ret] (xrm d mc ms) mc ms n := by
  obtain ⟨h1, h2, h3, ⟨h4, h5, h6⟩, h7⟩ := hc
  have hT := hX.2.2.2.2.2.2.2
  refine ⟨rfl, rfl, by rw [hR]; exact Nat.le_refl _, by rw [hR]; show 8 + (maxL + 11) + 40 * d ≤ 40 * (d + 1); omega, fun w hw a' U hW => ?_, List.mem_cons_self, hT.m h2, hT.m h3, ⟨h4, h5⟩, fun sig h => ?_, hT.m h1⟩
  · rw [List.mem_singleton.mp hw]
    exact (hT.warm hW).m h2
  · rw [h] at h6
    exact (Option.some.inj h6).symm
theorem x_pre (hX : xO X cc own nL B g) {H : Heap} {locs : List Loc} {av : List Value} (hP : P H) (hS : va_S (fun q => B ≤ q) (x_s X).heap H locs) (U : State) (hU : U.heap = H) (hW : (x_s X).WarmedH U.vm) : xPc g B av P av.toArray U :=
  ⟨rfl, hX.2.2.2.2.2.2.2.warm hW, hX.2.2.2.2.2.2.1.warm hW, by rw [hU]; exact Nat.le_trans hX.2.2.2.2.2.1 hS.1, by rw [hU]; exact hP⟩
theorem x_callS {d mc ms mc0 ms0 maxL : Nat} {y : MethodName} {bytes : ByteArray} {ret : Option FieldType} {As st0 : List Value} (hX : xO X cc own nL B g) (hR : x_R X = xrm (d + 1) mc0 ms0) (hC : xC (x_l X) g B d mc ms y bytes maxL ret As P Q) (hc : xcl own idx y bytes maxL ret n) (hs : xm (.static y)) (hn : As.length = n) (hst : st0 = As.reverse ++ st) (hcat : (st.map fun v => v.category).sum ≤ 8) (hf : a + mc ≤ mc0 ∧ b + ms ≤ ms0) (hd : decode cc pc = .ok (.invokestatic idx, 3))
    (kk : ∀ r, xV X B nL Z (a + mc) (b + ms) (Q r) (pc + 3) L (r.toList ++ st)) : xV X B nL Z a b P pc L st0 := by
  intro H locs ls hP hS hl
  subst hst
  have hf' : a + mc ≤ (x_R X).cells ∧ b + ms ≤ (x_R X).slots := by rw [hR]; exact hf
  have hsz : ls.size = nL := hl.1
  exact x_after hX (va_runS (Ts := []) (As := As) (rest := st) ⟨hX.1, hX.2.1, hX.2.2.1, hX.2.2.2.1, fun _ h => by cases h⟩ hC ⟨x_callB hX hR hc, hX.2.2.2.2.2.2.2.m hs⟩ ⟨x_blind, fun U hU hW => x_pre hX hP hS U hU hW⟩ rfl hn hsz rfl (lv_room hcat) hd hf') hS hl kk
theorem x_callV {d mc ms mc0 ms0 maxL : Nat} {y : MethodName} {bytes : ByteArray} {ret : Option FieldType} {As st0 : List Value} (hX : xO X cc own nL B g) (hR : x_R X = xrm (d + 1) mc0 ms0) (hC : xC (x_l X) g B d mc ms y bytes maxL ret (.ref (B + k) :: As) (xP g B N K I J F) Q) (hc : xcl own idx y bytes maxL ret n) (hi : xm (.instanceMethod y)) (hse : xm (.selects C y y)) (hcl : vwCl[ci]? = some (C, T, M)) (hk : k < N) (hK : K k = (0, ci)) (hn : As.length = n) (hst : st0 = As.reverse ++ .ref (B + k) :: st) (hcat : (st.map fun v => v.category).sum ≤ 8) (hf : a + mc ≤ mc0 ∧ b + ms ≤ ms0) (hd : decode cc pc = .ok (.invokevirtual idx, 3))
    (kk : ∀ r, xV X B nL Z (a + mc) (b + ms) (Q r) (pc + 3) L (r.toList ++ st)) : xV X B nL Z a b (xP g B N K I J F) pc L st0 := by
  intro H locs ls hP hS hl
  subst hst
  have hf' : a + mc ≤ (x_R X).cells ∧ b + ms ≤ (x_R X).slots := by rw [hR]; exact hf
  have hsz : ls.size = nL := hl.1
  exact x_after hX (va_runV (Ts := []) (As := As) (rest := st) ⟨hX.1, hX.2.1, hX.2.2.1, hX.2.2.2.1, fun _ h => by cases h⟩ hC ⟨x_callB hX hR hc, hX.2.2.2.2.2.2.2.m hi, hX.2.2.2.2.2.2.2.m hse⟩ ⟨x_blind, va_recv hX.2.2.2.2.2.2.1 (x_one (x_objAt hk hK hP)) hcl (q0 := 0) rfl, fun U hU hW => x_pre hX hP hS U hU hW⟩ rfl hn hsz rfl (lv_room hcat) hd hf') hS hl kk
theorem x_callI {d mc ms mc0 ms0 maxL q : Nat} {y : MethodName} {bytes : ByteArray} {As st0 : List Value} (hX : xO X cc own nL B g) (hR : x_R X = xrm (d + 1) mc0 ms0) (hC : xC (x_l X) g B d mc ms y bytes maxL none (.ref q :: As) P Q) (hc : xcl own idx y bytes maxL none n) (hi : xm (.instanceMethod y)) (hy : y.name = "<init>") (hn : As.length = n) (hst : st0 = As.reverse ++ .ref q :: st) (hcat : (st.map fun v => v.category).sum ≤ 8) (hf : a + mc ≤ mc0 ∧ b + ms ≤ ms0) (hd : decode cc pc = .ok (.invokespecial idx, 3))
    (kk : ∀ r, xV X B nL Z (a + mc) (b + ms) (Q r) (pc + 3) L (r.toList ++ st)) : xV X B nL Z a b P pc L st0 := by
  intro H locs ls hP hS hl
  subst hst
  have hf' : a + mc ≤ (x_R X).cells ∧ b + ms ≤ (x_R X).slots := by rw [hR]; exact hf
  have hsz : ls.size = nL := hl.1
  exact x_after hX (va_runI (Ts := []) (As := As) (rest := st) ⟨hX.1, hX.2.1, hX.2.2.1, hX.2.2.2.1, fun _ h => by cases h⟩ hC ⟨x_callB hX hR hc, hy, hX.2.2.2.2.2.2.2.m hi⟩ ⟨x_blind, fun U hU hW => x_pre hX hP hS U hU hW⟩ rfl hn hsz rfl (lv_room hcat) hd hf') hS hl kk
end XH
section XN
variable {X : xX} {cc : ByteArray} {own : String} {nL B a b : Nat} {g : xG} {Z : State → Prop} {pc : Nat} {L : List (Nat × Value)} {st : List Value}
variable {N k j ci idx M n p : Nat} {i : Int32} {K : Nat → Nat × Nat} {I : Nat → Nat → Int32} {J : Nat → Nat → Int64} {F : Nat → Nat → Option Nat} {C : String} {T : u_T} {ty : Nat → FieldType}
theorem x_new (hX : xO X cc own nL B g) (hc : xcls ci C T M ty) (hlk : xm (.classLink own idx C)) (hins : xm (.instantiable C M)) (hini : xm (.initialized C)) (hcells : a + 1 ≤ (x_R X).cells) (hslots : b + M ≤ (x_R X).slots) (hd : decode cc pc = .ok (.new idx, 3))
    (kk : xV X B nL Z (a + 1) (b + M) (xP g B (N + 1) (va_up K N (0, ci)) (va_up I N (fun _ => 0)) (va_up J N (fun _ => 0)) (va_up F N (fun _ => none))) (pc + 3) L (.ref (B + N) :: st)) : xV X B nL Z a b (xP g B N K I J F) pc L st := by
  intro H locs ls hP hS hl
  obtain ⟨hx, hb, -, hown, -, -, hKk, hT⟩ := hX
  obtain ⟨hc0, hin, hty, hnm, hft, ht2⟩ := hc
  have hts : ∀ w ∈ u_ws C T M, w.before (x_args X) (x_s X) = true := fun w h => hT.m (hin w h)
  have hKn := hKk.1 ci _ hc0
  refine W.newcK hx hb hown (hT.m hlk) (hT.m hins) (hT.m hini) rfl hd hcells hslots hKn.2.1 hP.2 fun H1 kC hkC e1 z1 o1 => ?_
  refine kk H1 locs ls (xP_push hP z1 o1 ⟨_, hc0, (u_born ty hts (fun _ h => h) hKn hkC e1 hty).to (fun p hp => ?_)⟩) ⟨Nat.le_trans hS.1 (by rw [z1, hP.2]; omega), fun q h1 h2 => (o1 q (by have := hS.1; have := hP.2; omega)).trans (hS.2.1 q h1 h2), hS.2.2⟩ hl
  have h3 := xfs_at (B := B) (i := fun _ => 0) (j := fun _ => 0) (f := fun _ => none) hft hp
  show defaultValue (ty p) = (xfs B (xft ci) _ _ _).getD p .null
  rw [List.getD_eq_getElem?_getD, h3]
  have h4 := ht2 p hp
  revert h4
  cases ty p <;> simp [xtn, defaultValue, va_rf]
/-- a new array of a primitive type -/
theorem x_newarr {at0 : ArrayType} {t : Nat} {fty : FieldType} (hX : xO X cc own nL B g) (hat : Cond.arrayClass (newarray.typeOf at0) ∈ lw_tbl) (hfty : newarray.typeOf at0 = fty) (hty : (xtys g.2)[t]? = some (g.2 t, fty)) (hRA : ∀ (U : State) (cA : ClassId), va_RA U cA fty → U.vm.findClass ("[" ++ fty.toString) = some cA) (hce : ∀ cA : ClassId, (∀ H : Heap, H[B + N]? = some (arrV cA n (fun _ => defaultValue fty)) → cA = g.2 t → va_at g.1 vwCl (B + N, xce g B (t + 1, n) (fun _ => 0) (fun _ => 0) (fun _ => none)) H)) (hn : ¬ i < 0) (hN : i.toNatClampNeg = n) (hbytes : n * componentBytes fty ≤ 536870912) (hcells : a + 1 ≤ (x_R X).cells) (hslots : b + n ≤ (x_R X).slots) (hd : decode cc pc = .ok (.newarray at0, 2))
    (kk : xV X B nL Z (a + 1) (b + n) (xP g B (N + 1) (va_up K N (t + 1, n)) (va_up I N (fun _ => 0)) (va_up J N (fun _ => 0)) (va_up F N (fun _ => none))) (pc + 2) L (.ref (B + N) :: st)) : xV X B nL Z a b (xP g B N K I J F) pc L (.int i :: st) := by
  intro H locs ls hP hS hl
  subst hfty
  refine va_newaK hX.1 hX.2.1 (hX.2.2.2.2.2.2.2.2 _ hat rfl) rfl hd rfl hn hN hbytes hcells hslots hP.2 fun H1 cA e1 z1 o1 _ hNm => ?_
  have hcA : cA = g.2 t := Option.some.inj (hNm.symm.trans (hRA _ _ (hX.2.2.2.2.2.2.1.2 t _ hty).2))
  exact kk H1 locs ls (xP_push hP z1 o1 (hce cA H1 e1 hcA)) ⟨Nat.le_trans hS.1 (by rw [z1, hP.2]; omega), fun q h1 h2 => (o1 q (by have := hS.1; have := hP.2; omega)).trans (hS.2.1 q h1 h2), hS.2.2⟩ hl
theorem x_newI (hX : xO X cc own nL B g) (hat : Cond.arrayClass .int ∈ lw_tbl) (hn : ¬ i < 0) (hN : i.toNatClampNeg = n) (hbytes : n * componentBytes .int ≤ 536870912) (hcells : a + 1 ≤ (x_R X).cells) (hslots : b + n ≤ (x_R X).slots) (hd : decode cc pc = .ok (.newarray .int, 2))
    (kk : xV X B nL Z (a + 1) (b + n) (xP g B (N + 1) (va_up K N (1, n)) (va_up I N (fun _ => 0)) (va_up J N (fun _ => 0)) (va_up F N (fun _ => none))) (pc + 2) L (.ref (B + N) :: st)) : xV X B nL Z a b (xP g B N K I J F) pc L (.int i :: st) :=
  x_newarr (t := 0) hX hat rfl rfl (fun _ _ h => h) (fun _ _ h e => by subst e; exact h) hn hN hbytes hcells hslots hd kk
theorem x_newJ (hX : xO X cc own nL B g) (hat : Cond.arrayClass .long ∈ lw_tbl) (hn : ¬ i < 0) (hN : i.toNatClampNeg = n) (hbytes : n * componentBytes .long ≤ 536870912) (hcells : a + 1 ≤ (x_R X).cells) (hslots : b + n ≤ (x_R X).slots) (hd : decode cc pc = .ok (.newarray .long, 2))
    (kk : xV X B nL Z (a + 1) (b + n) (xP g B (N + 1) (va_up K N (2, n)) (va_up I N (fun _ => 0)) (va_up J N (fun _ => 0)) (va_up F N (fun _ => none))) (pc + 2) L (.ref (B + N) :: st)) : xV X B nL Z a b (xP g B N K I J F) pc L (.int i :: st) :=
  x_newarr (t := 1) hX hat rfl rfl (fun _ _ h => h) (fun _ _ h e => by subst e; exact h) hn hN hbytes hcells hslots hd kk
theorem x_newZ (hX : xO X cc own nL B g) (hat : Cond.arrayClass .boolean ∈ lw_tbl) (hn : ¬ i < 0) (hN : i.toNatClampNeg = n) (hbytes : n * componentBytes .boolean ≤ 536870912) (hcells : a + 1 ≤ (x_R X).cells) (hslots : b + n ≤ (x_R X).slots) (hd : decode cc pc = .ok (.newarray .boolean, 2))
    (kk : xV X B nL Z (a + 1) (b + n) (xP g B (N + 1) (va_up K N (3, n)) (va_up I N (fun _ => 0)) (va_up J N (fun _ => 0)) (va_up F N (fun _ => none))) (pc + 2) L (.ref (B + N) :: st)) : xV X B nL Z a b (xP g B N K I J F) pc L (.int i :: st) :=
  x_newarr (t := 2) hX hat rfl rfl (fun _ _ h => h) (fun _ _ h e => by subst e; exact h) hn hN hbytes hcells hslots hd kk
/-- a new array of references to objects of a class -/
theorem x_newR {t : Nat} (hX : xO X cc own nL B g) (hlk : xm (.classLink own idx C)) (hov : Cond.arrayOver (.object C) ∈ lw_tbl) (hty : (xtys g.2)[t + 3]? = some (g.2 (t + 3), .object C)) (hn : ¬ i < 0) (hN : i.toNatClampNeg = n) (hbytes : n * 4 ≤ 536870912) (hcells : a + 1 ≤ (x_R X).cells) (hslots : b + n ≤ (x_R X).slots) (hd : decode cc pc = .ok (.anewarray idx, 3))
    (kk : xV X B nL Z (a + 1) (b + n) (xP g B (N + 1) (va_up K N (t + 4, n)) (va_up I N (fun _ => 0)) (va_up J N (fun _ => 0)) (va_up F N (fun _ => none))) (pc + 3) L (.ref (B + N) :: st)) : xV X B nL Z a b (xP g B N K I J F) pc L (.int i :: st) := by
  intro H locs ls hP hS hl
  subst hN
  refine W.anew hX.1 hX.2.1 hX.2.2.2.1 (hX.2.2.2.2.2.2.2.m hlk) (va_AO.use (hX.2.2.2.2.2.2.2.2 _ hov rfl)) rfl hd rfl hn hbytes hcells hslots fun cA kA comp f1 f2 f3 f4 => ?_
  generalize hH1 : H.push ({ cls := cA, slots := Array.replicate i.toNatClampNeg .null, vm := .none } : Cell) = H1
  have z1 : H1.size = H.size + 1 := by rw [← hH1, Array.size_push]
  have e1 : H1[H.size]? = some (arrV cA i.toNatClampNeg (fun _ => .null)) := by rw [← hH1, Array.getElem?_push_size, ← arrV_new]
  have o1 : ∀ q : Nat, q < H.size → H1[q]? = H[q]? := fun q hq => by rw [← hH1, Array.getElem?_push, if_neg (Nat.ne_of_lt hq)]
  obtain ⟨-, -, -, -, -, hnm⟩ := (hX.2.2.2.2.2.2.1.2 (t + 3) _ hty).2
  have hcA : cA = g.2 (t + 3) := Option.some.inj (f1.symm.trans hnm)
  subst hcA
  rw [hP.2] at z1 e1 o1 ⊢
  exact kk H1 locs ls (xP_push hP z1 o1 (show H1[B + N]? = some (vp_cell _ _) from e1)) ⟨Nat.le_trans hS.1 (by rw [z1, hP.2]; omega), fun q h1 h2 => (o1 q (by have := hS.1; have := hP.2; omega)).trans (hS.2.1 q h1 h2), hS.2.2⟩ hl
theorem x_aald {t r : Nat} (hX : xO X cc own nL B g) (hk : k < N) (hK : K k = (t + 4, n)) (hty : (xtys g.2)[t + 3]? = some (g.2 (t + 3), .object C)) (hp : xat i n p) (hr : F k p = some r) (hd : decode cc pc = .ok (.aaload, 1))
    (kk : xV X B nL Z a b (xP g B N K I J F) (pc + 1) L (.ref (B + r) :: st)) : xV X B nL Z a b (xP g B N K I J F) pc L (.int i :: .ref (B + k) :: st) := by
  intro H locs ls hP hS hl'
  have h := hP.1 k hk
  rw [hK] at h
  have hh := kk H locs ls hP hS hl'
  refine va_aldq (f := fun p => (F k p).map (B + ·)) hX.1 hX.2.1 hX.2.2.2.2.2.2.1 (x_one h) 0 (t + 3) rfl hty hp.1 hd ?_
  rw [hp.2]
  simp only [hr, Option.map_some, va_rf]
  exact hh
theorem x_aast {t v : Nat} (hX : xO X cc own nL B g) (hc : xcls ci C T M ty) (hk : k < N) (hK : K k = (t + 4, n)) (hty : (xtys g.2)[t + 3]? = some (g.2 (t + 3), .object C)) (hp : xat i n p) (hv : v < N) (hKv : K v = (0, ci)) (hd : decode cc pc = .ok (.aastore, 1))
    (kk : xV X B nL Z a b (xP g B N K I J (xu F k p (some v))) (pc + 1) L st) : xV X B nL Z a b (xP g B N K I J F) pc L (.ref (B + v) :: .int i :: .ref (B + k) :: st) := by
  intro H locs ls hP hS hl'
  have h := hP.1 k hk
  rw [hK] at h
  have h0 : ¬ i < 0 := fun q => hp.1 (Or.inl q)
  have hlt : i.toNatClampNeg < n := Nat.not_le.mp fun q => hp.1 (Or.inr q)
  obtain ⟨r', hr', cellV, g1, g2, g3, -⟩ := hP.1 v hv |> fun z => by rw [hKv] at z; exact z
  have hKk := hX.2.2.2.2.2.2.1
  have hcls := (hKk.1 ci _ hc.1).2
  obtain ⟨kA, comp, k1, k2, k3, -⟩ := (hKk.2 (t + 3) _ hty).2
  have hcomp : comp = g.1.1 ci := Option.some.inj (k3.symm.trans hcls.1)
  subst hcomp
  obtain ⟨kC, hkC, -⟩ := hcls.2
  refine W.aast hX.1 hX.2.1 h (fun q h => by cases h) (fun h => by cases h) k1 k2 rfl hkC ⟨h0, by show _ < (arrV _ _ _).slots.size; rw [arrV_size]; exact hlt⟩ g1 (fun q h => by rw [g3] at h; cases h) (by rw [g2]; exact hkC) (by rw [g2]; exact va_assign hcls) rfl rfl hd fun H1 e z oq => ?_
  refine kk H1 _ ls (xP_set hP z oq ?_ (fun q hq => ⟨rfl, rfl, xu_ne hq⟩)) (hS.put z oq (Nat.le_add_right B k)) hl'
  rw [hK, xu_row]
  show H1[B + k]? = some (vp_cell _ _)
  rw [e, vp_cell_q, vp_cell_q, arrV_store, hp.2]
  congr 2
  funext q
  by_cases hq : q = p <;> simp [updV, va_up, hq, va_rf]
theorem x_objInit (hX : xO X cc own nL B g) {d mc ms r : Nat} (hR : x_R X = xrm (d + 1) mc ms) (h1 : xm (.methodLink own idx Lib.objectInit)) (h2 : xm (.instanceMethod Lib.objectInit)) (h3 : xm (.code Lib.objectInit ⟨#[0xb1]⟩ 1 none)) {P : Heap → Prop} (hcat : (st.map fun v => v.category).sum ≤ 8) (hd : decode cc pc = .ok (.invokespecial idx, 3))
    (kk : xV X B nL Z a b P (pc + 3) L st) : xV X B nL Z a b P pc L (.ref r :: st) := by
  intro H locs ls hP hS hl
  have hT := hX.2.2.2.2.2.2.2
  refine W.objInit hX.1 hX.2.1 hX.2.2.2.1 (hT.m h1) (hT.m h2) (hT.m h3) rfl (by rw [hX.2.2.1]; exact hl.1) rfl hd (by rw [hR]; exact Nat.le_add_left 1 d) (by rw [hR]; show 2 * 0 + _ + 12 ≤ 40 * (d + 1); omega) (kk H locs ls hP hS hl)
end XN
section XC
variable {X : xX} {cc : ByteArray} {own : String} {nL B a b : Nat} {g : xG} {Z : State → Prop} {pc : Nat} {L : List (Nat × Value)} {st : List Value}
variable {N k j ci idx M n p : Nat} {i : Int32} {K : Nat → Nat × Nat} {I : Nat → Nat → Int32} {J : Nat → Nat → Int64} {F : Nat → Nat → Option Nat} {P : Heap → Prop} {Q : Option Value → Heap → Prop}
def xcn (own : String) (idx : Nat) (y : MethodName) (host : String) (bytes : ByteArray) (maxL : Nat) (n : Nat) : Prop :=
  Cond.methodLinkNest own idx y host ∈ lw_tbl ∧ xm (.code y bytes maxL none) ∧ xm (.initialized y.cls) ∧ (y.cls ≠ "java/lang/invoke/MethodHandle" ∧ y.cls ≠ "java/lang/invoke/VarHandle" ∧ (parseMethodDescriptor y.desc).map (fun d => d.parameters.length) = some n) ∧ maxL ≤ 21
/-- a private constructor of a nest mate -/
theorem x_callIN {d mc ms mc0 ms0 maxL q : Nat} {y : MethodName} {host : String} {bytes : ByteArray} {As st0 : List Value} (hX : xO X cc own nL B g) (hR : x_R X = xrm (d + 1) mc0 ms0) (hC : xC (x_l X) g B d mc ms y bytes maxL none (.ref q :: As) P Q) (hc : xcn own idx y host bytes maxL n) (hi : xm (.instanceMethod y)) (hy : y.name = "<init>") (hn : As.length = n) (hst : st0 = As.reverse ++ .ref q :: st) (hcat : (st.map fun v => v.category).sum ≤ 8) (hf : a + mc ≤ mc0 ∧ b + ms ≤ ms0) (hd : decode cc pc = .ok (.invokespecial idx, 3))
    (kk : ∀ r, xV X B nL Z (a + mc) (b + ms) (Q r) (pc + 3) L (r.toList ++ st)) : xV X B nL Z a b P pc L st0 := by
  intro H locs ls hP hS hl
  subst hst
  have hf' : a + mc ≤ (x_R X).cells ∧ b + ms ≤ (x_R X).slots := by rw [hR]; exact hf
  have hsz : ls.size = nL := hl.1
  obtain ⟨h1, h2, h3, ⟨h4, h5, h6⟩, h7⟩ := hc
  have hT := hX.2.2.2.2.2.2.2
  have cn : va_CN (x_R X) (x_s X) (x_args X) own idx y host bytes maxL none [.code y bytes maxL none] (xrm d mc ms) mc ms n := by
    refine ⟨⟨rfl, rfl, by rw [hR]; exact Nat.le_refl _, by rw [hR]; show 8 + (maxL + 11) + 40 * d ≤ 40 * (d + 1); omega, fun w hw a' U hW => ?_, List.mem_cons_self⟩, hT.m h2, hT.m h3, ⟨h4, h5⟩, fun sig h => ?_, va_Nw.use rfl (hT.2 _ h1 rfl)⟩
    · rw [List.mem_singleton.mp hw]
      exact (hT.warm hW).m h2
    · rw [h] at h6
      exact (Option.some.inj h6).symm
  exact x_after hX (va_runIN (Ts := []) (As := As) (rest := st) ⟨hX.1, hX.2.1, hX.2.2.1, hX.2.2.2.1, fun _ h => by cases h⟩ hC ⟨cn, hy, hT.m hi⟩ ⟨x_blind, fun U hU hW => x_pre hX hP hS U hU hW⟩ rfl hn hsz rfl (lv_room hcat) hd hf') hS hl kk
theorem x_clampInt {z : Int32} (hz : ¬ z < 0) : z.toInt = (z.toNatClampNeg : Int) := by
  have hz0 : (0 : Int) ≤ z.toInt := by
    have := Int32.not_lt.mp hz
    simpa using Int32.le_iff_toInt_le.mp this
  show z.toInt = ((z.toInt.toNat : Nat) : Int)
  omega
/-- System.arraycopy between two long[] -/
theorem x_copyJ {d mc ms k0 k1 n0 n1 sp' dp' n' : Nat} {sp dp nn : Int32} (hX : xO X cc own nL B g) (hR : x_R X = xrm (d + 1) mc ms) (w1 : xm (.methodLink own idx arraycopyName)) (w2 : xm (.native arraycopyName)) (w3 : xm (.static arraycopyName)) (w4 : xm (.initialized "java/lang/System"))
    (hk0 : k0 < N) (hK0 : K k0 = (2, n0)) (hk1 : k1 < N) (hK1 : K k1 = (2, n1)) (h1 : ¬ sp < 0) (h2 : ¬ dp < 0) (h3 : ¬ nn < 0) (e1 : sp.toNatClampNeg = sp') (e2 : dp.toNatClampNeg = dp') (e3 : nn.toNatClampNeg = n') (h4 : sp' + n' ≤ n0) (h5 : dp' + n' ≤ n1) (hcat : (st.map fun v => v.category).sum ≤ 8) (hd : decode cc pc = .ok (.invokestatic idx, 3))
    (kk : xV X B nL Z a b (xP g B N K I (va_up J k1 (va_cpy (J k0) (J k1) sp' dp' n')) F) (pc + 3) L st) : xV X B nL Z a b (xP g B N K I J F) pc L (.int nn :: .int dp :: .ref (B + k1) :: .int sp :: .ref (B + k0) :: st) := by
  intro H locs ls hP hS hl
  subst e1; subst e2; subst e3
  have hT := hX.2.2.2.2.2.2.2
  have hKk := hX.2.2.2.2.2.2.1
  have hc0 : H[B + k0]? = some (vp_cell (g.2 1) (n0, .inr (.inl (J k0)))) := by have h := hP.1 k0 hk0; rw [hK0] at h; exact h
  have hc1 : H[B + k1]? = some (vp_cell (g.2 1) (n1, .inr (.inl (J k1)))) := by have h := hP.1 k1 hk1; rw [hK1] at h; exact h
  obtain ⟨-, k0', hk0', cm0, hkk0⟩ := (hKk.2 1 _ rfl).1 n0 (fun j => .long (J k0 j))
  intro T hTT Xs
  obtain ⟨vm', X', step⟩ := Xs.arraycopy hX.1 hX.2.2.2.1 (hT.m w1) (hT.m w2) (hT.m w3) (hT.m w4) (src := B + k0) (dst := B + k1) (cs := vp_cell (g.2 1) (n0, .inr (.inl (J k0)))) (cd := vp_cell (g.2 1) (n1, .inr (.inl (J k1)))) (srcPos := sp) (destPos := dp) (n := nn) (by rw [hTT]; exact hc0) (by rw [hTT]; exact hc1)
    (fun _ h => by cases h) (fun _ h => by cases h) (fun h => by cases h) (fun h => by cases h) hk0' hk0' hkk0 hkk0 (by simp [refKind]) h1 h2 h3
    (by rw [x_clampInt h1, x_clampInt h3]; show ¬ _ > ((arrV (g.2 1) n0 (fun j => .long (J k0 j))).slots.size : Int); rw [arrV_size]; omega)
    (by rw [x_clampInt h2, x_clampInt h3]; show ¬ _ > ((arrV (g.2 1) n1 (fun j => .long (J k1 j))).slots.size : Int); rw [arrV_size]; omega)
    (fun vm₁ _ q hq => by
      have e : (vp_cell (g.2 1) (n0, .inr (.inl (J k0)))).slots.getD (sp.toNatClampNeg + q) .null = .long (J k0 (sp.toNatClampNeg + q)) := by
        show (arrV (g.2 1) n0 (fun j => .long (J k0 j))).slots.getD _ _ = _
        rw [Array.getD_eq_getD_getElem?, arrV_read _ _ (by omega)]
        rfl
      refine ⟨?_, ?_⟩
      · rw [e]
        rfl
      · rw [e]
        exact trivial)
    (g := F0 X.2.2.2.2.2.1 pc ls (.int nn :: .int dp :: .ref (B + k1) :: .int sp :: .ref (B + k0) :: st)) rfl (by rw [hX.2.2.1]; exact hl.1) (rest := st) rfl (by rw [hX.2.1]; exact hd) (by show 1 ≤ (x_R X).frames; rw [hR]; exact Nat.le_add_left 1 d) (by show 2 * 0 + _ + (nativeFrameWords "java/lang/System" "arraycopy" 5 + 11) ≤ (x_R X).locals; rw [hR]; show 2 * 0 + _ + 18 ≤ 40 * (d + 1); omega)
  have e1 : copied (vp_cell (g.2 1) (n0, .inr (.inl (J k0)))) (vp_cell (g.2 1) (n1, .inr (.inl (J k1)))) sp dp nn = vp_cell (g.2 1) (n1, .inr (.inl (va_cpy (J k0) (J k1) sp.toNatClampNeg dp.toNatClampNeg nn.toNatClampNeg))) := va_copied (fun z => .long z) (g.2 1) (g.2 1) (J k0) (J k1) h4
  rw [e1] at X' step
  have hlt : B + k1 < H.size := (Array.getElem?_eq_some_iff.mp hc1).1
  generalize hH : ((T.setVm vm').setCell (B + k1) (vp_cell (g.2 1) (n1, .inr (.inl (va_cpy (J k0) (J k1) sp.toNatClampNeg dp.toNatClampNeg nn.toNatClampNeg))))) = T' at X' step
  have hheap : T'.heap = H.setIfInBounds (B + k1) (vp_cell (g.2 1) (n1, .inr (.inl (va_cpy (J k0) (J k1) sp.toNatClampNeg dp.toNatClampNeg nn.toNatClampNeg)))) := by rw [← hH, ← hTT]; rfl
  have oq : ∀ q : Nat, q ≠ B + k1 → T'.heap[q]? = H[q]? := fun q hq => by rw [hheap]; simp [Array.getElem?_setIfInBounds, Ne.symm hq]
  have z : T'.heap.size = H.size := by rw [hheap]; simp
  have he : T'.heap[B + k1]? = some (vp_cell (g.2 1) (n1, .inr (.inl (va_cpy (J k0) (J k1) sp.toNatClampNeg dp.toNatClampNeg nn.toNatClampNeg)))) := by rw [hheap]; simp [Array.getElem?_setIfInBounds, hlt]
  obtain ⟨t, a1, b1⟩ := kk T'.heap _ ls (xP_set hP z oq (by rw [hK1, va_up_self]; exact he) (fun q hq => ⟨rfl, va_up_ne _ _ hq, rfl⟩)) ⟨by rw [z]; exact hS.1, fun q g1 g2 => by
      rw [oq q (fun e => g2 (by rw [e]; exact Nat.le_add_right B k1))]
      exact hS.2.1 q g1 g2, fun q hq => by
      rcases List.mem_append.mp hq with h | h
      · exact hS.2.2 q h
      · obtain ⟨w, -, hw⟩ := List.mem_map.mp h
        rw [← hw]
        exact Nat.le_add_right B k1⟩ hl T' rfl X'
  exact ⟨t, step t a1, b1⟩
/-- System.arraycopy between two int[] -/
theorem x_copyI {d mc ms k0 k1 n0 n1 sp' dp' n' : Nat} {sp dp nn : Int32} (hX : xO X cc own nL B g) (hR : x_R X = xrm (d + 1) mc ms) (w1 : xm (.methodLink own idx arraycopyName)) (w2 : xm (.native arraycopyName)) (w3 : xm (.static arraycopyName)) (w4 : xm (.initialized "java/lang/System"))
    (hk0 : k0 < N) (hK0 : K k0 = (1, n0)) (hk1 : k1 < N) (hK1 : K k1 = (1, n1)) (h1 : ¬ sp < 0) (h2 : ¬ dp < 0) (h3 : ¬ nn < 0) (e1 : sp.toNatClampNeg = sp') (e2 : dp.toNatClampNeg = dp') (e3 : nn.toNatClampNeg = n') (h4 : sp' + n' ≤ n0) (h5 : dp' + n' ≤ n1) (hcat : (st.map fun v => v.category).sum ≤ 8) (hd : decode cc pc = .ok (.invokestatic idx, 3))
    (kk : xV X B nL Z a b (xP g B N K (va_up I k1 (va_cpy (I k0) (I k1) sp' dp' n')) J F) (pc + 3) L st) : xV X B nL Z a b (xP g B N K I J F) pc L (.int nn :: .int dp :: .ref (B + k1) :: .int sp :: .ref (B + k0) :: st) := by
  intro H locs ls hP hS hl
  subst e1; subst e2; subst e3
  have hT := hX.2.2.2.2.2.2.2
  have hKk := hX.2.2.2.2.2.2.1
  have hc0 : H[B + k0]? = some (vp_cell (g.2 0) (n0, .inl (I k0))) := by have h := hP.1 k0 hk0; rw [hK0] at h; exact h
  have hc1 : H[B + k1]? = some (vp_cell (g.2 0) (n1, .inl (I k1))) := by have h := hP.1 k1 hk1; rw [hK1] at h; exact h
  obtain ⟨-, k0', hk0', cm0, hkk0⟩ := (hKk.2 0 _ rfl).1 n0 (fun j => .int (I k0 j))
  intro T hTT Xs
  obtain ⟨vm', X', step⟩ := Xs.arraycopy hX.1 hX.2.2.2.1 (hT.m w1) (hT.m w2) (hT.m w3) (hT.m w4) (src := B + k0) (dst := B + k1) (cs := vp_cell (g.2 0) (n0, .inl (I k0))) (cd := vp_cell (g.2 0) (n1, .inl (I k1))) (srcPos := sp) (destPos := dp) (n := nn) (by rw [hTT]; exact hc0) (by rw [hTT]; exact hc1)
    (fun _ h => by cases h) (fun _ h => by cases h) (fun h => by cases h) (fun h => by cases h) hk0' hk0' hkk0 hkk0 (by simp [refKind]) h1 h2 h3
    (by rw [x_clampInt h1, x_clampInt h3]; show ¬ _ > ((arrV (g.2 0) n0 (fun j => .int (I k0 j))).slots.size : Int); rw [arrV_size]; omega)
    (by rw [x_clampInt h2, x_clampInt h3]; show ¬ _ > ((arrV (g.2 0) n1 (fun j => .int (I k1 j))).slots.size : Int); rw [arrV_size]; omega)
    (fun vm₁ _ q hq => by
      have e : (vp_cell (g.2 0) (n0, .inl (I k0))).slots.getD (sp.toNatClampNeg + q) .null = .int (I k0 (sp.toNatClampNeg + q)) := by
        show (arrV (g.2 0) n0 (fun j => .int (I k0 j))).slots.getD _ _ = _
        rw [Array.getD_eq_getD_getElem?, arrV_read _ _ (by omega)]
        rfl
      refine ⟨?_, ?_⟩
      · rw [e]
        rfl
      · rw [e]
        exact trivial)
    (g := F0 X.2.2.2.2.2.1 pc ls (.int nn :: .int dp :: .ref (B + k1) :: .int sp :: .ref (B + k0) :: st)) rfl (by rw [hX.2.2.1]; exact hl.1) (rest := st) rfl (by rw [hX.2.1]; exact hd) (by show 1 ≤ (x_R X).frames; rw [hR]; exact Nat.le_add_left 1 d) (by show 2 * 0 + _ + (nativeFrameWords "java/lang/System" "arraycopy" 5 + 11) ≤ (x_R X).locals; rw [hR]; show 2 * 0 + _ + 18 ≤ 40 * (d + 1); omega)
  have e1 : copied (vp_cell (g.2 0) (n0, .inl (I k0))) (vp_cell (g.2 0) (n1, .inl (I k1))) sp dp nn = vp_cell (g.2 0) (n1, .inl (va_cpy (I k0) (I k1) sp.toNatClampNeg dp.toNatClampNeg nn.toNatClampNeg)) := va_copied (fun z => .int z) (g.2 0) (g.2 0) (I k0) (I k1) h4
  rw [e1] at X' step
  have hlt : B + k1 < H.size := (Array.getElem?_eq_some_iff.mp hc1).1
  generalize hH : ((T.setVm vm').setCell (B + k1) (vp_cell (g.2 0) (n1, .inl (va_cpy (I k0) (I k1) sp.toNatClampNeg dp.toNatClampNeg nn.toNatClampNeg)))) = T' at X' step
  have hheap : T'.heap = H.setIfInBounds (B + k1) (vp_cell (g.2 0) (n1, .inl (va_cpy (I k0) (I k1) sp.toNatClampNeg dp.toNatClampNeg nn.toNatClampNeg))) := by rw [← hH, ← hTT]; rfl
  have oq : ∀ q : Nat, q ≠ B + k1 → T'.heap[q]? = H[q]? := fun q hq => by rw [hheap]; simp [Array.getElem?_setIfInBounds, Ne.symm hq]
  have z : T'.heap.size = H.size := by rw [hheap]; simp
  have he : T'.heap[B + k1]? = some (vp_cell (g.2 0) (n1, .inl (va_cpy (I k0) (I k1) sp.toNatClampNeg dp.toNatClampNeg nn.toNatClampNeg))) := by rw [hheap]; simp [Array.getElem?_setIfInBounds, hlt]
  obtain ⟨t, a1, b1⟩ := kk T'.heap _ ls (xP_set hP z oq (by rw [hK1, va_up_self]; exact he) (fun q hq => ⟨va_up_ne _ _ hq, rfl, rfl⟩)) ⟨by rw [z]; exact hS.1, fun q g1 g2 => by
      rw [oq q (fun e => g2 (by rw [e]; exact Nat.le_add_right B k1))]
      exact hS.2.1 q g1 g2, fun q hq => by
      rcases List.mem_append.mp hq with h | h
      · exact hS.2.2 q h
      · obtain ⟨w, -, hw⟩ := List.mem_map.mp h
        rw [← hw]
        exact Nat.le_add_right B k1⟩ hl T' rfl X'
  exact ⟨t, step t a1, b1⟩
end XC
/-! glue between models and rows -/
def xlet {α β : Type} (a : α) (f : α → Option β) : Option β := f a
def xb {α β : Type} (a : Option α) (f : α → Option β) : Option β := a.bind f
theorem x_le {α β : Type} {a : α} {f : α → Option β} {r : β} (h : xlet a f = some r) : ∃ x, x = a ∧ f x = some r := ⟨a, rfl, h⟩
theorem x_bd {α β : Type} {a : Option α} {f : α → Option β} {r : β} (h : xb a f = some r) : ∃ x, a = some x ∧ f x = some r := Option.bind_eq_some_iff.mp h
theorem x_gd {c : Prop} [Decidable c] {α : Type} {a : Option α} {r : α} (h : (if c then a else none) = some r) : c ∧ a = some r := by
  by_cases hc : c
  · rw [if_pos hc] at h
    exact ⟨hc, h⟩
  · rw [if_neg hc] at h
    cases h
theorem x_nn {p : Prop} (h : p) : ¬ ¬ p := fun q => q h
abbrev xinb (i : Int32) (n : Nat) : Prop := ¬ (i < 0 ∨ n ≤ i.toNatClampNeg)
theorem x_in {i : Int32} {n : Nat} (h : xinb i n) : xat i n i.toNatClampNeg := ⟨h, rfl⟩
theorem x_kd {q : Nat × Nat} {t : Nat} (h : q.1 = t) : q = (t, q.2) := by rw [← h]
theorem x_nbool {v : Int32} (h : v = 0 ∨ v = 1) : narrow .boolean (.int v) = .int v := by rcases h with rfl | rfl <;> rfl
theorem x_fbool {v : Int32} (h : v = 0 ∨ v = 1) : fits .boolean (.int v) = true := by rcases h with rfl | rfl <;> rfl
/-- enough rounds for any loop here -/
def xFu : Nat := 4096
def xq (w : Option Value) (P : Heap → Prop) : Option Value → Heap → Prop := fun q H => q = w ∧ P H
section XK
variable {X : xX} {cc : ByteArray} {own : String} {nL B a b : Nat} {g : xG} {Z : State → Prop} {P : Heap → Prop} {pc : Nat} {L : List (Nat × Value)} {st : List Value}
theorem x_kki {v : Int32} (k : xV X B nL Z a b P pc L (.int v :: st)) : ∀ r, xV X B nL Z a b (xq (some (.int v)) P r) pc L (r.toList ++ st) := fun r H locs ls hP hS hl => by
  obtain ⟨rfl, hP⟩ := hP
  exact k H locs ls hP hS hl
theorem x_kkl {v : Int64} (k : xV X B nL Z a b P pc L (.long v :: st)) : ∀ r, xV X B nL Z a b (xq (some (.long v)) P r) pc L (r.toList ++ st) := fun r H locs ls hP hS hl => by
  obtain ⟨rfl, hP⟩ := hP
  exact k H locs ls hP hS hl
theorem x_kkr {v : Nat} (k : xV X B nL Z a b P pc L (.ref v :: st)) : ∀ r, xV X B nL Z a b (xq (some (.ref v)) P r) pc L (r.toList ++ st) := fun r H locs ls hP hS hl => by
  obtain ⟨rfl, hP⟩ := hP
  exact k H locs ls hP hS hl
theorem x_kkn (k : xV X B nL Z a b P pc L (.null :: st)) : ∀ r, xV X B nL Z a b (xq (some .null) P r) pc L (r.toList ++ st) := fun r H locs ls hP hS hl => by
  obtain ⟨rfl, hP⟩ := hP
  exact k H locs ls hP hS hl
theorem x_kkv (k : xV X B nL Z a b P pc L st) : ∀ r, xV X B nL Z a b (xq none P r) pc L (r.toList ++ st) := fun r H locs ls hP hS hl => by
  obtain ⟨rfl, hP⟩ := hP
  exact k H locs ls hP hS hl
theorem x_lif_eq (hX : xO X cc own nL B g) {x y : Int64} {off : Int} {tgt : Nat} (hd : decode cc pc = .ok (.lcmp, 1)) (hd2 : decode cc (pc + 1) = .ok (.ifCond .eq off, 3)) (ht : ((pc + 1 : Nat) : Int) + off = (tgt : Int)) (kt : x = y → xV X B nL Z a b P tgt L st) (kf : ¬ x = y → xV X B nL Z a b P (pc + 1 + 3) L st) : xV X B nL Z a b P pc L (.long y :: .long x :: st) :=
  x_lcmp hX hd (x_if_eq hX hd2 ht (fun h => kt ((lg_cmp_eq x y).mp h)) (fun h => kf (fun q => h ((lg_cmp_eq x y).mpr q))))
theorem x_lif_ne (hX : xO X cc own nL B g) {x y : Int64} {off : Int} {tgt : Nat} (hd : decode cc pc = .ok (.lcmp, 1)) (hd2 : decode cc (pc + 1) = .ok (.ifCond .ne off, 3)) (ht : ((pc + 1 : Nat) : Int) + off = (tgt : Int)) (kt : ¬ x = y → xV X B nL Z a b P tgt L st) (kf : x = y → xV X B nL Z a b P (pc + 1 + 3) L st) : xV X B nL Z a b P pc L (.long y :: .long x :: st) :=
  x_lcmp hX hd (x_if_ne hX hd2 ht (fun h => kt (fun q => h ((lg_cmp_eq x y).mpr q))) (fun h => kf ((lg_cmp_eq x y).mp h)))
theorem x_lif_lt (hX : xO X cc own nL B g) {x y : Int64} {off : Int} {tgt : Nat} (hd : decode cc pc = .ok (.lcmp, 1)) (hd2 : decode cc (pc + 1) = .ok (.ifCond .lt off, 3)) (ht : ((pc + 1 : Nat) : Int) + off = (tgt : Int)) (kt : x < y → xV X B nL Z a b P tgt L st) (kf : ¬ x < y → xV X B nL Z a b P (pc + 1 + 3) L st) : xV X B nL Z a b P pc L (.long y :: .long x :: st) :=
  x_lcmp hX hd (x_if_lt hX hd2 ht (fun h => kt ((lg_cmp_lt x y).mp h)) (fun h => kf (fun q => h ((lg_cmp_lt x y).mpr q))))
theorem x_lif_ge (hX : xO X cc own nL B g) {x y : Int64} {off : Int} {tgt : Nat} (hd : decode cc pc = .ok (.lcmp, 1)) (hd2 : decode cc (pc + 1) = .ok (.ifCond .ge off, 3)) (ht : ((pc + 1 : Nat) : Int) + off = (tgt : Int)) (kt : y ≤ x → xV X B nL Z a b P tgt L st) (kf : ¬ y ≤ x → xV X B nL Z a b P (pc + 1 + 3) L st) : xV X B nL Z a b P pc L (.long y :: .long x :: st) :=
  x_lcmp hX hd (x_if_ge hX hd2 ht (fun h => kt ((lg_cmp_ge x y).mp h)) (fun h => kf (fun q => h ((lg_cmp_ge x y).mpr q))))
theorem x_lif_gt (hX : xO X cc own nL B g) {x y : Int64} {off : Int} {tgt : Nat} (hd : decode cc pc = .ok (.lcmp, 1)) (hd2 : decode cc (pc + 1) = .ok (.ifCond .gt off, 3)) (ht : ((pc + 1 : Nat) : Int) + off = (tgt : Int)) (kt : y < x → xV X B nL Z a b P tgt L st) (kf : ¬ y < x → xV X B nL Z a b P (pc + 1 + 3) L st) : xV X B nL Z a b P pc L (.long y :: .long x :: st) :=
  x_lcmp hX hd (x_if_gt hX hd2 ht (fun h => kt ((lg_cmp_gt x y).mp h)) (fun h => kf (fun q => h ((lg_cmp_gt x y).mpr q))))
theorem x_lif_le (hX : xO X cc own nL B g) {x y : Int64} {off : Int} {tgt : Nat} (hd : decode cc pc = .ok (.lcmp, 1)) (hd2 : decode cc (pc + 1) = .ok (.ifCond .le off, 3)) (ht : ((pc + 1 : Nat) : Int) + off = (tgt : Int)) (kt : x ≤ y → xV X B nL Z a b P tgt L st) (kf : ¬ x ≤ y → xV X B nL Z a b P (pc + 1 + 3) L st) : xV X B nL Z a b P pc L (.long y :: .long x :: st) :=
  x_lcmp hX hd (x_if_le hX hd2 ht (fun h => kt ((lg_cmp_le x y).mp h)) (fun h => kf (fun q => h ((lg_cmp_le x y).mpr q))))
theorem x_ldc (hX : xO X cc own nL B g) {index : Nat} {v : Int32} (hc : xm (.constant own index v)) (hd : decode cc pc = .ok (.ldc index, 2)) (k : xV X B nL Z a b P (pc + 2) L (.int v :: st)) : xV X B nL Z a b P pc L st :=
  fun H locs ls hP hS hl => lv_ldc hX.1 hX.2.1 hX.2.2.2.1 (hX.2.2.2.2.2.2.2.m hc) hd (k H locs ls hP hS hl)
theorem x_ldcw (hX : xO X cc own nL B g) {index : Nat} {v : Int32} (hc : xm (.constant own index v)) (hd : decode cc pc = .ok (.ldc_w index, 3)) (k : xV X B nL Z a b P (pc + 3) L (.int v :: st)) : xV X B nL Z a b P pc L st :=
  fun H locs ls hP hS hl => lv_ldcw hX.1 hX.2.1 hX.2.2.2.1 (hX.2.2.2.2.2.2.2.m hc) hd (k H locs ls hP hS hl)
theorem x_ldc2 (hX : xO X cc own nL B g) {index : Nat} {v : Int64} (hc : xm (.constantLong own index v)) (hd : decode cc pc = .ok (.ldc2_w index, 3)) (k : xV X B nL Z a b P (pc + 3) L (.long v :: st)) : xV X B nL Z a b P pc L st :=
  fun H locs ls hP hS hl => lv_ldc2 hX.1 hX.2.1 hX.2.2.2.1 (hX.2.2.2.2.2.2.2.m hc) hd (k H locs ls hP hS hl)
end XK
