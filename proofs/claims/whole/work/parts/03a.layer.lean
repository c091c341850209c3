/-! THE LAYER: my own judgement over the machine. xX: the machine around a body; a world is N cells from the address B on, each of a kind; ints, longs and references of all cells are three functions of (cell, place). -/
abbrev xX : Type := Program × Launch × Env × Room × State × MethodId × Array Value × List Frame × Method × Code
abbrev xG : Type := va_G × (Nat → ClassId)
abbrev x_l (X : xX) : Launch := X.2.1
abbrev x_R (X : xX) : Room := X.2.2.2.1
abbrev x_s (X : xX) : State := X.2.2.2.2.1
abbrev x_args (X : xX) : Array Value := X.2.2.2.2.2.2.1
abbrev x_below (X : xX) : List Frame := X.2.2.2.2.2.2.2.1
abbrev x_meth (X : xX) : Method := X.2.2.2.2.2.2.2.2.1
/-- a word of the tables that stays when classes are warmed -/
def xm (w : Cond) : Prop := w ∈ lw_tbl ∧ (w.onTables && w.keeps) = true
/-- a word that stays too, by a law of its own -/
def xsp : Cond → Bool
  | .arrayClass _ => true
  | .methodLinkNest .. => true
  | .fieldLinkNest .. => true
  | .arrayOver (.object _) => true
  | _ => false
def xT (U : State) : Prop := (∀ w, xm w → w.before #[] U = true) ∧ ∀ w ∈ lw_tbl, xsp w = true → w.before #[] U = true
theorem xT.m {U : State} (h : xT U) {w : Cond} (hw : xm w) {A : Array Value} : w.before A U = true := va_Nw.use (by have := hw.2; simp only [Bool.and_eq_true] at this; exact this.1) (h.1 w hw)
theorem xT.warm {s U : State} (h : xT s) (hW : s.WarmedH U.vm) : xT U := by
  refine ⟨fun w hw => word_at hW (Or.inl hw.2) (h.1 w hw), fun w hw hx => ?_⟩
  have h2 := h.2 w hw hx
  cases w with
  | arrayClass ty => exact word_at hW (Or.inr ⟨ty, rfl⟩) h2
  | methodLinkNest a i x y => exact va_Nw.warmM hW h2
  | fieldLinkNest a i b n d y => exact va_Nw.warmF hW h2
  | arrayOver t =>
    cases t with
    | object C => exact va_AO.moved hW.alike h2
    | _ => cases hx
  | _ => cases hx
def xK (g : xG) (U : State) : Prop := va_K g.1 vwCl (xtys g.2) U
theorem xK.warm {g : xG} {s U : State} (h : xK g s) (hW : s.WarmedH U.vm) : xK g U := va_K.moved hW.alike h
def xO (X : xX) (cc : ByteArray) (own : String) (nL B : Nat) (g : xG) : Prop :=
  X.1.tables.exec = Jvm.exec ∧ X.2.2.2.2.2.2.2.2.2.code = cc ∧ X.2.2.2.2.2.2.2.2.2.maxLocals = nL ∧ (x_s X).vm.findClass own = some X.2.2.2.2.2.1.cls ∧ (x_meth X).locks = false ∧ B ≤ (x_s X).heap.size ∧ xK g (x_s X) ∧ xT (x_s X)
def xV (X : xX) (B nL : Nat) (Z : State → Prop) (a b : Nat) (P : Heap → Prop) (pc : Nat) (L : List (Nat × Value)) (st : List Value) : Prop :=
  ∀ (H : Heap) (locs : List Loc) (ls : Array Slot), P H → va_S (fun q => B ≤ q) (x_s X).heap H locs → lv_has ls nL L →
    W X.1 X.2.1 X.2.2.1 X.2.2.2.1 X.2.2.2.2.1 X.2.2.2.2.2.1 X.2.2.2.2.2.2.1 X.2.2.2.2.2.2.2.1 X.2.2.2.2.2.2.2.2.1 X.2.2.2.2.2.2.2.2.2 H locs a b Z (F0 X.2.2.2.2.2.1 pc ls st)
theorem x_lm {L : List (Nat × Value)} {i : Nat} {v : Value} (h : L.lookup i = some v) : (i, v) ∈ L := by
  induction L with
  | nil => cases h
  | cons q t ih =>
    obtain ⟨j, w⟩ := q
    rw [List.lookup_cons] at h
    by_cases hj : i = j
    · subst hj
      simp at h
      subst h
      exact List.mem_cons_self
    · have : (i == j) = false := by simp [hj]
      rw [this] at h
      exact List.mem_cons_of_mem _ (ih h)
section XL
variable {X : xX} {cc : ByteArray} {own : String} {nL B a b : Nat} {g : xG} {Z : State → Prop} {P : Heap → Prop} {pc : Nat} {L : List (Nat × Value)} {st : List Value}
theorem x_lk {ls : Array Slot} {L : List (Nat × Value)} {nL i : Nat} {v : Value} (h : lv_has ls nL L) (hv : L.lookup i = some v) : ls[i]? = some (.val v) :=
  h.2.2 (i, v) (x_lm hv)
theorem x_iconst (hX : xO X cc own nL B g) {n : Int} {v : Int32} (hd : decode cc pc = .ok (.iconst n, 1)) (hv : Int32.ofInt n = v) (k : xV X B nL Z a b P (pc + 1) L (.int v :: st)) : xV X B nL Z a b P pc L (st) :=
  fun H locs ls hP hS hl => lv_iconst hX.1 hX.2.1 hd hv (k H locs ls hP hS hl)
theorem x_bipush (hX : xO X cc own nL B g) {n : Int} {v : Int32} (hd : decode cc pc = .ok (.bipush n, 2)) (hv : (Int8.ofInt n).toInt32 = v) (k : xV X B nL Z a b P (pc + 2) L (.int v :: st)) : xV X B nL Z a b P pc L (st) :=
  fun H locs ls hP hS hl => lv_bipush hX.1 hX.2.1 hd hv (k H locs ls hP hS hl)
theorem x_sipush (hX : xO X cc own nL B g) {n : Int} {v : Int32} (hd : decode cc pc = .ok (.sipush n, 3)) (hv : (Int16.ofInt n).toInt32 = v) (k : xV X B nL Z a b P (pc + 3) L (.int v :: st)) : xV X B nL Z a b P pc L (st) :=
  fun H locs ls hP hS hl => lv_sipush hX.1 hX.2.1 hd hv (k H locs ls hP hS hl)
theorem x_lconst (hX : xO X cc own nL B g) {n : Fin 2} {v : Int64} (hd : decode cc pc = .ok (.lconst n, 1)) (hv : Int64.ofNat (n : Nat) = v) (k : xV X B nL Z a b P (pc + 1) L (.long v :: st)) : xV X B nL Z a b P pc L (st) :=
  fun H locs ls hP hS hl => lv_lconst hX.1 hX.2.1 hd hv (k H locs ls hP hS hl)
theorem x_iadd (hX : xO X cc own nL B g) {x y : Int32} (hd : decode cc pc = .ok (.iadd, 1)) (k : xV X B nL Z a b P (pc + 1) L (.int (x + y) :: st)) : xV X B nL Z a b P pc L (.int y :: .int x :: st) :=
  fun H locs ls hP hS hl => lv_iadd hX.1 hX.2.1 hd (k H locs ls hP hS hl)
theorem x_isub (hX : xO X cc own nL B g) {x y : Int32} (hd : decode cc pc = .ok (.isub, 1)) (k : xV X B nL Z a b P (pc + 1) L (.int (x - y) :: st)) : xV X B nL Z a b P pc L (.int y :: .int x :: st) :=
  fun H locs ls hP hS hl => lv_isub hX.1 hX.2.1 hd (k H locs ls hP hS hl)
theorem x_imul (hX : xO X cc own nL B g) {x y : Int32} (hd : decode cc pc = .ok (.imul, 1)) (k : xV X B nL Z a b P (pc + 1) L (.int (x * y) :: st)) : xV X B nL Z a b P pc L (.int y :: .int x :: st) :=
  fun H locs ls hP hS hl => lv_imul hX.1 hX.2.1 hd (k H locs ls hP hS hl)
theorem x_iand (hX : xO X cc own nL B g) {x y : Int32} (hd : decode cc pc = .ok (.iand, 1)) (k : xV X B nL Z a b P (pc + 1) L (.int (x &&& y) :: st)) : xV X B nL Z a b P pc L (.int y :: .int x :: st) :=
  fun H locs ls hP hS hl => lv_iand hX.1 hX.2.1 hd (k H locs ls hP hS hl)
theorem x_ior (hX : xO X cc own nL B g) {x y : Int32} (hd : decode cc pc = .ok (.ior, 1)) (k : xV X B nL Z a b P (pc + 1) L (.int (x ||| y) :: st)) : xV X B nL Z a b P pc L (.int y :: .int x :: st) :=
  fun H locs ls hP hS hl => lv_ior hX.1 hX.2.1 hd (k H locs ls hP hS hl)
theorem x_ixor (hX : xO X cc own nL B g) {x y : Int32} (hd : decode cc pc = .ok (.ixor, 1)) (k : xV X B nL Z a b P (pc + 1) L (.int (x ^^^ y) :: st)) : xV X B nL Z a b P pc L (.int y :: .int x :: st) :=
  fun H locs ls hP hS hl => lv_ixor hX.1 hX.2.1 hd (k H locs ls hP hS hl)
theorem x_ishl (hX : xO X cc own nL B g) {x y : Int32} (hd : decode cc pc = .ok (.ishl, 1)) (k : xV X B nL Z a b P (pc + 1) L (.int (x <<< (y &&& 31)) :: st)) : xV X B nL Z a b P pc L (.int y :: .int x :: st) :=
  fun H locs ls hP hS hl => lv_ishl hX.1 hX.2.1 hd (k H locs ls hP hS hl)
theorem x_ishr (hX : xO X cc own nL B g) {x y : Int32} (hd : decode cc pc = .ok (.ishr, 1)) (k : xV X B nL Z a b P (pc + 1) L (.int (x >>> (y &&& 31)) :: st)) : xV X B nL Z a b P pc L (.int y :: .int x :: st) :=
  fun H locs ls hP hS hl => lv_ishr hX.1 hX.2.1 hd (k H locs ls hP hS hl)
theorem x_ladd (hX : xO X cc own nL B g) {x y : Int64} (hd : decode cc pc = .ok (.ladd, 1)) (k : xV X B nL Z a b P (pc + 1) L (.long (x + y) :: st)) : xV X B nL Z a b P pc L (.long y :: .long x :: st) :=
  fun H locs ls hP hS hl => lv_ladd hX.1 hX.2.1 hd (k H locs ls hP hS hl)
theorem x_lsub (hX : xO X cc own nL B g) {x y : Int64} (hd : decode cc pc = .ok (.lsub, 1)) (k : xV X B nL Z a b P (pc + 1) L (.long (x - y) :: st)) : xV X B nL Z a b P pc L (.long y :: .long x :: st) :=
  fun H locs ls hP hS hl => lv_lsub hX.1 hX.2.1 hd (k H locs ls hP hS hl)
theorem x_lmul (hX : xO X cc own nL B g) {x y : Int64} (hd : decode cc pc = .ok (.lmul, 1)) (k : xV X B nL Z a b P (pc + 1) L (.long (x * y) :: st)) : xV X B nL Z a b P pc L (.long y :: .long x :: st) :=
  fun H locs ls hP hS hl => lv_lmul hX.1 hX.2.1 hd (k H locs ls hP hS hl)
theorem x_land (hX : xO X cc own nL B g) {x y : Int64} (hd : decode cc pc = .ok (.land, 1)) (k : xV X B nL Z a b P (pc + 1) L (.long (x &&& y) :: st)) : xV X B nL Z a b P pc L (.long y :: .long x :: st) :=
  fun H locs ls hP hS hl => lv_land hX.1 hX.2.1 hd (k H locs ls hP hS hl)
theorem x_lor (hX : xO X cc own nL B g) {x y : Int64} (hd : decode cc pc = .ok (.lor, 1)) (k : xV X B nL Z a b P (pc + 1) L (.long (x ||| y) :: st)) : xV X B nL Z a b P pc L (.long y :: .long x :: st) :=
  fun H locs ls hP hS hl => lv_lor hX.1 hX.2.1 hd (k H locs ls hP hS hl)
theorem x_lxor (hX : xO X cc own nL B g) {x y : Int64} (hd : decode cc pc = .ok (.lxor, 1)) (k : xV X B nL Z a b P (pc + 1) L (.long (x ^^^ y) :: st)) : xV X B nL Z a b P pc L (.long y :: .long x :: st) :=
  fun H locs ls hP hS hl => lv_lxor hX.1 hX.2.1 hd (k H locs ls hP hS hl)
theorem x_idiv (hX : xO X cc own nL B g) {x y : Int32} (hd : decode cc pc = .ok (.idiv, 1)) (hne : ¬ y = 0) (k : xV X B nL Z a b P (pc + 1) L (.int (x / y) :: st)) : xV X B nL Z a b P pc L (.int y :: .int x :: st) :=
  fun H locs ls hP hS hl => lv_idiv hX.1 hX.2.1 hd hne (k H locs ls hP hS hl)
theorem x_irem (hX : xO X cc own nL B g) {x y : Int32} (hd : decode cc pc = .ok (.irem, 1)) (hne : ¬ y = 0) (k : xV X B nL Z a b P (pc + 1) L (.int (x - x / y * y) :: st)) : xV X B nL Z a b P pc L (.int y :: .int x :: st) :=
  fun H locs ls hP hS hl => lv_irem hX.1 hX.2.1 hd hne (k H locs ls hP hS hl)
theorem x_ldiv (hX : xO X cc own nL B g) {x y : Int64} (hd : decode cc pc = .ok (.ldiv, 1)) (hne : ¬ y = 0) (k : xV X B nL Z a b P (pc + 1) L (.long (x / y) :: st)) : xV X B nL Z a b P pc L (.long y :: .long x :: st) :=
  fun H locs ls hP hS hl => lv_ldiv hX.1 hX.2.1 hd hne (k H locs ls hP hS hl)
theorem x_lrem (hX : xO X cc own nL B g) {x y : Int64} (hd : decode cc pc = .ok (.lrem, 1)) (hne : ¬ y = 0) (k : xV X B nL Z a b P (pc + 1) L (.long (x - x / y * y) :: st)) : xV X B nL Z a b P pc L (.long y :: .long x :: st) :=
  fun H locs ls hP hS hl => lv_lrem hX.1 hX.2.1 hd hne (k H locs ls hP hS hl)
theorem x_ineg (hX : xO X cc own nL B g) {x : Int32} (hd : decode cc pc = .ok (.ineg, 1)) (k : xV X B nL Z a b P (pc + 1) L (.int (-x) :: st)) : xV X B nL Z a b P pc L (.int x :: st) :=
  fun H locs ls hP hS hl => lv_ineg hX.1 hX.2.1 hd (k H locs ls hP hS hl)
theorem x_lneg (hX : xO X cc own nL B g) {x : Int64} (hd : decode cc pc = .ok (.lneg, 1)) (k : xV X B nL Z a b P (pc + 1) L (.long (-x) :: st)) : xV X B nL Z a b P pc L (.long x :: st) :=
  fun H locs ls hP hS hl => lv_lneg hX.1 hX.2.1 hd (k H locs ls hP hS hl)
theorem x_i2l (hX : xO X cc own nL B g) {x : Int32} (hd : decode cc pc = .ok (.i2l, 1)) (k : xV X B nL Z a b P (pc + 1) L (.long x.toInt64 :: st)) : xV X B nL Z a b P pc L (.int x :: st) :=
  fun H locs ls hP hS hl => lv_i2l hX.1 hX.2.1 hd rfl (k H locs ls hP hS hl)
theorem x_l2i (hX : xO X cc own nL B g) {x : Int64} (hd : decode cc pc = .ok (.l2i, 1)) (k : xV X B nL Z a b P (pc + 1) L (.int x.toInt32 :: st)) : xV X B nL Z a b P pc L (.long x :: st) :=
  fun H locs ls hP hS hl => lv_l2i hX.1 hX.2.1 hd rfl (k H locs ls hP hS hl)
theorem x_i2b (hX : xO X cc own nL B g) {x : Int32} (hd : decode cc pc = .ok (.i2b, 1)) (k : xV X B nL Z a b P (pc + 1) L (.int x.toInt8.toInt32 :: st)) : xV X B nL Z a b P pc L (.int x :: st) :=
  fun H locs ls hP hS hl => lv_i2b hX.1 hX.2.1 hd rfl (k H locs ls hP hS hl)
theorem x_i2c (hX : xO X cc own nL B g) {x : Int32} (hd : decode cc pc = .ok (.i2c, 1)) (k : xV X B nL Z a b P (pc + 1) L (.int (x.toUInt32 % 65536).toInt32 :: st)) : xV X B nL Z a b P pc L (.int x :: st) :=
  fun H locs ls hP hS hl => lv_i2c hX.1 hX.2.1 hd rfl (k H locs ls hP hS hl)
theorem x_iushr (hX : xO X cc own nL B g) {x y : Int32} (hd : decode cc pc = .ok (.iushr, 1)) (k : xV X B nL Z a b P (pc + 1) L (.int (x.toUInt32 >>> (y.toUInt32 &&& Int32.toUInt32 31)).toInt32 :: st)) : xV X B nL Z a b P pc L (.int y :: .int x :: st) :=
  fun H locs ls hP hS hl => lv_iushr hX.1 hX.2.1 hd rfl (k H locs ls hP hS hl)
theorem x_lushr (hX : xO X cc own nL B g) {x : Int64} {y : Int32} (hd : decode cc pc = .ok (.lushr, 1)) (k : xV X B nL Z a b P (pc + 1) L (.long (x.toUInt64 >>> (y.toInt64.toUInt64 &&& Int64.toUInt64 63)).toInt64 :: st)) : xV X B nL Z a b P pc L (.int y :: .long x :: st) :=
  fun H locs ls hP hS hl => lv_lushr hX.1 hX.2.1 hd rfl (k H locs ls hP hS hl)
theorem x_lshl (hX : xO X cc own nL B g) {x : Int64} {y : Int32} (hd : decode cc pc = .ok (.lshl, 1)) (k : xV X B nL Z a b P (pc + 1) L (.long (x <<< (y.toInt64 &&& 63)) :: st)) : xV X B nL Z a b P pc L (.int y :: .long x :: st) :=
  fun H locs ls hP hS hl => lv_lshl hX.1 hX.2.1 hd rfl (k H locs ls hP hS hl)
theorem x_lshr (hX : xO X cc own nL B g) {x : Int64} {y : Int32} (hd : decode cc pc = .ok (.lshr, 1)) (k : xV X B nL Z a b P (pc + 1) L (.long (x >>> (y.toInt64 &&& 63)) :: st)) : xV X B nL Z a b P pc L (.int y :: .long x :: st) :=
  fun H locs ls hP hS hl => lv_lshr hX.1 hX.2.1 hd rfl (k H locs ls hP hS hl)
theorem x_lcmp (hX : xO X cc own nL B g) {x y : Int64} (hd : decode cc pc = .ok (.lcmp, 1)) (k : xV X B nL Z a b P (pc + 1) L (.int (lg_cmp x y) :: st)) : xV X B nL Z a b P pc L (.long y :: .long x :: st) :=
  fun H locs ls hP hS hl => W.lcmp hX.1 hX.2.1 hd (k H locs ls hP hS hl)
theorem x_dup (hX : xO X cc own nL B g) {va : Value} (hd : decode cc pc = .ok (.dup, 1)) (hva : va.category = 1) (k : xV X B nL Z a b P (pc + 1) L (va :: va :: st)) : xV X B nL Z a b P pc L (va :: st) :=
  fun H locs ls hP hS hl => lv_dup hX.1 hX.2.1 hd hva (k H locs ls hP hS hl)
theorem x_pop (hX : xO X cc own nL B g) {va : Value} (hd : decode cc pc = .ok (.pop, 1)) (hva : va.category = 1) (k : xV X B nL Z a b P (pc + 1) L (st)) : xV X B nL Z a b P pc L (va :: st) :=
  fun H locs ls hP hS hl => lv_pop hX.1 hX.2.1 hd hva (k H locs ls hP hS hl)
theorem x_dup_x1 (hX : xO X cc own nL B g) {va vb : Value} (hd : decode cc pc = .ok (.dup_x1, 1)) (hva : va.category = 1) (hvb : vb.category = 1) (k : xV X B nL Z a b P (pc + 1) L (va :: vb :: va :: st)) : xV X B nL Z a b P pc L (va :: vb :: st) :=
  fun H locs ls hP hS hl => lv_dup_x1 hX.1 hX.2.1 hd hva hvb (k H locs ls hP hS hl)
theorem x_dup_x2 (hX : xO X cc own nL B g) {va vb vd : Value} (hd : decode cc pc = .ok (.dup_x2, 1)) (hva : va.category = 1) (hvb : vb.category = 1) (hvd : vd.category = 1) (k : xV X B nL Z a b P (pc + 1) L (va :: vb :: vd :: va :: st)) : xV X B nL Z a b P pc L (va :: vb :: vd :: st) :=
  fun H locs ls hP hS hl => lv_dup_x2 hX.1 hX.2.1 hd hva hvb hvd (k H locs ls hP hS hl)
theorem x_dup2_11 (hX : xO X cc own nL B g) {va vb : Value} (hd : decode cc pc = .ok (.dup2, 1)) (hva : va.category = 1) (hvb : vb.category = 1) (k : xV X B nL Z a b P (pc + 1) L (va :: vb :: va :: vb :: st)) : xV X B nL Z a b P pc L (va :: vb :: st) :=
  fun H locs ls hP hS hl => lv_dup2_11 hX.1 hX.2.1 hd hva hvb (k H locs ls hP hS hl)
theorem x_dup2_2 (hX : xO X cc own nL B g) {va : Value} (hd : decode cc pc = .ok (.dup2, 1)) (hva : va.category = 2) (k : xV X B nL Z a b P (pc + 1) L (va :: va :: st)) : xV X B nL Z a b P pc L (va :: st) :=
  fun H locs ls hP hS hl => lv_dup2_2 hX.1 hX.2.1 hd hva (k H locs ls hP hS hl)
theorem x_pop2_2 (hX : xO X cc own nL B g) {va : Value} (hd : decode cc pc = .ok (.pop2, 1)) (hva : va.category = 2) (k : xV X B nL Z a b P (pc + 1) L (st)) : xV X B nL Z a b P pc L (va :: st) :=
  fun H locs ls hP hS hl => lv_pop2_2 hX.1 hX.2.1 hd hva (k H locs ls hP hS hl)
theorem x_pop2_11 (hX : xO X cc own nL B g) {va vb : Value} (hd : decode cc pc = .ok (.pop2, 1)) (hva : va.category = 1) (hvb : vb.category = 1) (k : xV X B nL Z a b P (pc + 1) L (st)) : xV X B nL Z a b P pc L (va :: vb :: st) :=
  fun H locs ls hP hS hl => lv_pop2_11 hX.1 hX.2.1 hd hva hvb (k H locs ls hP hS hl)
theorem x_dup2_x1_2 (hX : xO X cc own nL B g) {va vb : Value} (hd : decode cc pc = .ok (.dup2_x1, 1)) (hva : va.category = 2) (hvb : vb.category = 1) (k : xV X B nL Z a b P (pc + 1) L (va :: vb :: va :: st)) : xV X B nL Z a b P pc L (va :: vb :: st) :=
  fun H locs ls hP hS hl => lv_dup2_x1_2 hX.1 hX.2.1 hd hva hvb (k H locs ls hP hS hl)
theorem x_dup2_x2_2 (hX : xO X cc own nL B g) {va vb vd : Value} (hd : decode cc pc = .ok (.dup2_x2, 1)) (hva : va.category = 2) (hvb : vb.category = 1) (hvd : vd.category = 1) (k : xV X B nL Z a b P (pc + 1) L (va :: vb :: vd :: va :: st)) : xV X B nL Z a b P pc L (va :: vb :: vd :: st) :=
  fun H locs ls hP hS hl => lv_dup2_x2_2 hX.1 hX.2.1 hd hva hvb hvd (k H locs ls hP hS hl)
theorem x_if_eq (hX : xO X cc own nL B g) {x : Int32} {off : Int} {tgt : Nat} (hd : decode cc pc = .ok (.ifCond .eq off, 3)) (ht : (pc : Int) + off = (tgt : Int)) (kt : x = 0 → xV X B nL Z a b P tgt L (st)) (kf : ¬ x = 0 → xV X B nL Z a b P (pc + 3) L (st)) : xV X B nL Z a b P pc L (.int x :: st) :=
  fun H locs ls hP hS hl => lv_if_eq hX.1 hX.2.1 hd ht (fun q => kt q H locs ls hP hS hl) (fun q => kf q H locs ls hP hS hl)
theorem x_if_ne (hX : xO X cc own nL B g) {x : Int32} {off : Int} {tgt : Nat} (hd : decode cc pc = .ok (.ifCond .ne off, 3)) (ht : (pc : Int) + off = (tgt : Int)) (kt : ¬ x = 0 → xV X B nL Z a b P tgt L (st)) (kf : x = 0 → xV X B nL Z a b P (pc + 3) L (st)) : xV X B nL Z a b P pc L (.int x :: st) :=
  fun H locs ls hP hS hl => lv_if_ne hX.1 hX.2.1 hd ht (fun q => kt q H locs ls hP hS hl) (fun q => kf q H locs ls hP hS hl)
theorem x_if_lt (hX : xO X cc own nL B g) {x : Int32} {off : Int} {tgt : Nat} (hd : decode cc pc = .ok (.ifCond .lt off, 3)) (ht : (pc : Int) + off = (tgt : Int)) (kt : x < 0 → xV X B nL Z a b P tgt L (st)) (kf : ¬ x < 0 → xV X B nL Z a b P (pc + 3) L (st)) : xV X B nL Z a b P pc L (.int x :: st) :=
  fun H locs ls hP hS hl => lv_if_lt hX.1 hX.2.1 hd ht (fun q => kt q H locs ls hP hS hl) (fun q => kf q H locs ls hP hS hl)
theorem x_if_ge (hX : xO X cc own nL B g) {x : Int32} {off : Int} {tgt : Nat} (hd : decode cc pc = .ok (.ifCond .ge off, 3)) (ht : (pc : Int) + off = (tgt : Int)) (kt : 0 ≤ x → xV X B nL Z a b P tgt L (st)) (kf : ¬ 0 ≤ x → xV X B nL Z a b P (pc + 3) L (st)) : xV X B nL Z a b P pc L (.int x :: st) :=
  fun H locs ls hP hS hl => lv_if_ge hX.1 hX.2.1 hd ht (fun q => kt q H locs ls hP hS hl) (fun q => kf q H locs ls hP hS hl)
theorem x_if_gt (hX : xO X cc own nL B g) {x : Int32} {off : Int} {tgt : Nat} (hd : decode cc pc = .ok (.ifCond .gt off, 3)) (ht : (pc : Int) + off = (tgt : Int)) (kt : 0 < x → xV X B nL Z a b P tgt L (st)) (kf : ¬ 0 < x → xV X B nL Z a b P (pc + 3) L (st)) : xV X B nL Z a b P pc L (.int x :: st) :=
  fun H locs ls hP hS hl => lv_if_gt hX.1 hX.2.1 hd ht (fun q => kt q H locs ls hP hS hl) (fun q => kf q H locs ls hP hS hl)
theorem x_if_le (hX : xO X cc own nL B g) {x : Int32} {off : Int} {tgt : Nat} (hd : decode cc pc = .ok (.ifCond .le off, 3)) (ht : (pc : Int) + off = (tgt : Int)) (kt : x ≤ 0 → xV X B nL Z a b P tgt L (st)) (kf : ¬ x ≤ 0 → xV X B nL Z a b P (pc + 3) L (st)) : xV X B nL Z a b P pc L (.int x :: st) :=
  fun H locs ls hP hS hl => lv_if_le hX.1 hX.2.1 hd ht (fun q => kt q H locs ls hP hS hl) (fun q => kf q H locs ls hP hS hl)
theorem x_icmp_eq (hX : xO X cc own nL B g) {x y : Int32} {off : Int} {tgt : Nat} (hd : decode cc pc = .ok (.if_icmp .eq off, 3)) (ht : (pc : Int) + off = (tgt : Int)) (kt : x = y → xV X B nL Z a b P tgt L (st)) (kf : ¬ x = y → xV X B nL Z a b P (pc + 3) L (st)) : xV X B nL Z a b P pc L (.int y :: .int x :: st) :=
  fun H locs ls hP hS hl => lv_icmp_eq hX.1 hX.2.1 hd ht (fun q => kt q H locs ls hP hS hl) (fun q => kf q H locs ls hP hS hl)
theorem x_icmp_ne (hX : xO X cc own nL B g) {x y : Int32} {off : Int} {tgt : Nat} (hd : decode cc pc = .ok (.if_icmp .ne off, 3)) (ht : (pc : Int) + off = (tgt : Int)) (kt : ¬ x = y → xV X B nL Z a b P tgt L (st)) (kf : x = y → xV X B nL Z a b P (pc + 3) L (st)) : xV X B nL Z a b P pc L (.int y :: .int x :: st) :=
  fun H locs ls hP hS hl => lv_icmp_ne hX.1 hX.2.1 hd ht (fun q => kt q H locs ls hP hS hl) (fun q => kf q H locs ls hP hS hl)
theorem x_icmp_lt (hX : xO X cc own nL B g) {x y : Int32} {off : Int} {tgt : Nat} (hd : decode cc pc = .ok (.if_icmp .lt off, 3)) (ht : (pc : Int) + off = (tgt : Int)) (kt : x < y → xV X B nL Z a b P tgt L (st)) (kf : ¬ x < y → xV X B nL Z a b P (pc + 3) L (st)) : xV X B nL Z a b P pc L (.int y :: .int x :: st) :=
  fun H locs ls hP hS hl => lv_icmp_lt hX.1 hX.2.1 hd ht (fun q => kt q H locs ls hP hS hl) (fun q => kf q H locs ls hP hS hl)
theorem x_icmp_ge (hX : xO X cc own nL B g) {x y : Int32} {off : Int} {tgt : Nat} (hd : decode cc pc = .ok (.if_icmp .ge off, 3)) (ht : (pc : Int) + off = (tgt : Int)) (kt : y ≤ x → xV X B nL Z a b P tgt L (st)) (kf : ¬ y ≤ x → xV X B nL Z a b P (pc + 3) L (st)) : xV X B nL Z a b P pc L (.int y :: .int x :: st) :=
  fun H locs ls hP hS hl => lv_icmp_ge hX.1 hX.2.1 hd ht (fun q => kt q H locs ls hP hS hl) (fun q => kf q H locs ls hP hS hl)
theorem x_icmp_gt (hX : xO X cc own nL B g) {x y : Int32} {off : Int} {tgt : Nat} (hd : decode cc pc = .ok (.if_icmp .gt off, 3)) (ht : (pc : Int) + off = (tgt : Int)) (kt : y < x → xV X B nL Z a b P tgt L (st)) (kf : ¬ y < x → xV X B nL Z a b P (pc + 3) L (st)) : xV X B nL Z a b P pc L (.int y :: .int x :: st) :=
  fun H locs ls hP hS hl => lv_icmp_gt hX.1 hX.2.1 hd ht (fun q => kt q H locs ls hP hS hl) (fun q => kf q H locs ls hP hS hl)
theorem x_icmp_le (hX : xO X cc own nL B g) {x y : Int32} {off : Int} {tgt : Nat} (hd : decode cc pc = .ok (.if_icmp .le off, 3)) (ht : (pc : Int) + off = (tgt : Int)) (kt : x ≤ y → xV X B nL Z a b P tgt L (st)) (kf : ¬ x ≤ y → xV X B nL Z a b P (pc + 3) L (st)) : xV X B nL Z a b P pc L (.int y :: .int x :: st) :=
  fun H locs ls hP hS hl => lv_icmp_le hX.1 hX.2.1 hd ht (fun q => kt q H locs ls hP hS hl) (fun q => kf q H locs ls hP hS hl)
theorem x_goto (hX : xO X cc own nL B g) {off : Int} {tgt : Nat} (hd : decode cc pc = .ok (.goto off, 3)) (ht : (pc : Int) + off = (tgt : Int)) (k : xV X B nL Z a b P tgt L (st)) : xV X B nL Z a b P pc L (st) :=
  fun H locs ls hP hS hl => lv_goto hX.1 hX.2.1 hd ht (k H locs ls hP hS hl)
theorem x_null (hX : xO X cc own nL B g) (hd : decode cc pc = .ok (.aconst_null, 1)) (k : xV X B nL Z a b P (pc + 1) L (.null :: st)) : xV X B nL Z a b P pc L (st) :=
  fun H locs ls hP hS hl => lv_null hX.1 hX.2.1 hd (k H locs ls hP hS hl)
theorem x_ifnonnull (hX : xO X cc own nL B g) {x : Nat} {off : Int} {tgt : Nat} (hd : decode cc pc = .ok (.ifnonnull off, 3)) (ht : (pc : Int) + off = (tgt : Int)) (k : xV X B nL Z a b P tgt L (st)) : xV X B nL Z a b P pc L (.ref x :: st) :=
  fun H locs ls hP hS hl => lv_ifnonnull hX.1 hX.2.1 hd ht (k H locs ls hP hS hl)
theorem x_ifnull (hX : xO X cc own nL B g) {x : Nat} {off : Int} (hd : decode cc pc = .ok (.ifnull off, 3)) (k : xV X B nL Z a b P (pc + 3) L (st)) : xV X B nL Z a b P pc L (.ref x :: st) :=
  fun H locs ls hP hS hl => lv_ifnull hX.1 hX.2.1 hd (k H locs ls hP hS hl)
theorem x_ifnonnullN (hX : xO X cc own nL B g) {off : Int} (hd : decode cc pc = .ok (.ifnonnull off, 3)) (k : xV X B nL Z a b P (pc + 3) L (st)) : xV X B nL Z a b P pc L (.null :: st) :=
  fun H locs ls hP hS hl => lv_ifnonnullN hX.1 hX.2.1 hd (k H locs ls hP hS hl)
theorem x_ifnullN (hX : xO X cc own nL B g) {off : Int} {tgt : Nat} (hd : decode cc pc = .ok (.ifnull off, 3)) (ht : (pc : Int) + off = (tgt : Int)) (k : xV X B nL Z a b P tgt L (st)) : xV X B nL Z a b P pc L (.null :: st) :=
  fun H locs ls hP hS hl => lv_ifnullN hX.1 hX.2.1 hd ht (k H locs ls hP hS hl)
theorem x_lookup (hX : xO X cc own nL B g) {dflt : Int} {ps : Array (Int × Int)} {len : Nat} {x : Int32} {off : Int} {tgt : Nat} (hd : decode cc pc = .ok (.lookupswitch dflt ps, len)) (hp : (ps.toList.zip (ps.toList.drop 1)).all (fun (a, next) => a.1 < next.1) = true) (ho : Op.lookupswitch.offset ps.toList dflt x.toInt = off) (ht : (pc : Int) + off = (tgt : Int)) (k : xV X B nL Z a b P tgt L (st)) : xV X B nL Z a b P pc L (.int x :: st) :=
  fun H locs ls hP hS hl => lv_lookup hX.1 hX.2.1 hd hp ho ht (k H locs ls hP hS hl)
theorem x_tableOut (hX : xO X cc own nL B g) {dflt lo hi : Int} {offs : Array Int} {len : Nat} {x : Int32} {tgt : Nat} (hd : decode cc pc = .ok (.tableswitch dflt lo hi offs, len)) (h : x.toInt < lo ∨ hi < x.toInt) (ht : (pc : Int) + dflt = (tgt : Int)) (k : xV X B nL Z a b P tgt L (st)) : xV X B nL Z a b P pc L (.int x :: st) :=
  fun H locs ls hP hS hl => lv_tableOut hX.1 hX.2.1 hd h ht (k H locs ls hP hS hl)
theorem x_tableIn (hX : xO X cc own nL B g) {dflt lo hi : Int} {offs : Array Int} {len : Nat} {x : Int32} {off : Int} {tgt : Nat} (hd : decode cc pc = .ok (.tableswitch dflt lo hi offs, len)) (h1 : ¬ x.toInt < lo) (h2 : ¬ hi < x.toInt) (ho : offs[(x.toInt - lo).toNat]? = some off) (ht : (pc : Int) + off = (tgt : Int)) (k : xV X B nL Z a b P tgt L (st)) : xV X B nL Z a b P pc L (.int x :: st) :=
  fun H locs ls hP hS hl => lv_tableIn hX.1 hX.2.1 hd h1 h2 ho ht (k H locs ls hP hS hl)
theorem x_iload_n (hX : xO X cc own nL B g) {kf : Fin 4} {i : Nat} {x : Int32} (hd : decode cc pc = .ok (.iload_n kf, 1)) (hi : (kf : Nat) = i) (hv : L.lookup i = some (.int x)) (k : xV X B nL Z a b P (pc + 1) L (.int x :: st)) : xV X B nL Z a b P pc L (st) :=
  fun H locs ls hP hS hl => lv_iload_n hX.1 hX.2.1 hd hi (x_lk hl hv) (k H locs ls hP hS hl)
theorem x_iload (hX : xO X cc own nL B g) {i : Nat} {x : Int32} (hd : decode cc pc = .ok (.iload i, 2)) (hv : L.lookup i = some (.int x)) (k : xV X B nL Z a b P (pc + 2) L (.int x :: st)) : xV X B nL Z a b P pc L (st) :=
  fun H locs ls hP hS hl => lv_iload hX.1 hX.2.1 hd (x_lk hl hv) (k H locs ls hP hS hl)
theorem x_lload_n (hX : xO X cc own nL B g) {kf : Fin 4} {i : Nat} {x : Int64} (hd : decode cc pc = .ok (.lload_n kf, 1)) (hi : (kf : Nat) = i) (hv : L.lookup i = some (.long x)) (k : xV X B nL Z a b P (pc + 1) L (.long x :: st)) : xV X B nL Z a b P pc L (st) :=
  fun H locs ls hP hS hl => lv_lload_n hX.1 hX.2.1 hd hi (x_lk hl hv) (k H locs ls hP hS hl)
theorem x_lload (hX : xO X cc own nL B g) {i : Nat} {x : Int64} (hd : decode cc pc = .ok (.lload i, 2)) (hv : L.lookup i = some (.long x)) (k : xV X B nL Z a b P (pc + 2) L (.long x :: st)) : xV X B nL Z a b P pc L (st) :=
  fun H locs ls hP hS hl => lv_lload hX.1 hX.2.1 hd (x_lk hl hv) (k H locs ls hP hS hl)
theorem x_aload_n (hX : xO X cc own nL B g) {kf : Fin 4} {i : Nat} {x : Nat} (hd : decode cc pc = .ok (.aload_n kf, 1)) (hi : (kf : Nat) = i) (hv : L.lookup i = some (.ref x)) (k : xV X B nL Z a b P (pc + 1) L (.ref x :: st)) : xV X B nL Z a b P pc L (st) :=
  fun H locs ls hP hS hl => lv_aload_n hX.1 hX.2.1 hd hi (x_lk hl hv) (k H locs ls hP hS hl)
theorem x_aload (hX : xO X cc own nL B g) {i : Nat} {x : Nat} (hd : decode cc pc = .ok (.aload i, 2)) (hv : L.lookup i = some (.ref x)) (k : xV X B nL Z a b P (pc + 2) L (.ref x :: st)) : xV X B nL Z a b P pc L (st) :=
  fun H locs ls hP hS hl => lv_aload hX.1 hX.2.1 hd (x_lk hl hv) (k H locs ls hP hS hl)
theorem x_aload_nN (hX : xO X cc own nL B g) {kf : Fin 4} {i : Nat} (hd : decode cc pc = .ok (.aload_n kf, 1)) (hi : (kf : Nat) = i) (hv : L.lookup i = some .null) (k : xV X B nL Z a b P (pc + 1) L (.null :: st)) : xV X B nL Z a b P pc L (st) :=
  fun H locs ls hP hS hl => lv_aload_nN hX.1 hX.2.1 hd hi (x_lk hl hv) (k H locs ls hP hS hl)
theorem x_aloadN (hX : xO X cc own nL B g) {i : Nat} (hd : decode cc pc = .ok (.aload i, 2)) (hv : L.lookup i = some .null) (k : xV X B nL Z a b P (pc + 2) L (.null :: st)) : xV X B nL Z a b P pc L (st) :=
  fun H locs ls hP hS hl => lv_aloadN hX.1 hX.2.1 hd (x_lk hl hv) (k H locs ls hP hS hl)
theorem x_istore_n (hX : xO X cc own nL B g) {kf : Fin 4} {i : Nat} {x : Int32} (L' : List (Nat × Value)) (hd : decode cc pc = .ok (.istore_n kf, 1)) (hi : (kf : Nat) = i) (hn : i < nL) (hv : (i, Value.int x) :: L.filter (fun q => !(q.1 == i) && !(q.1 + 1 == i && q.2.category == 2)) = L') (k : xV X B nL Z a b P (pc + 1) L' (st)) : xV X B nL Z a b P pc L (.int x :: st) :=
  fun H locs ls hP hS hl => lv_istore_n hX.1 hX.2.1 hd hi hl hn hv (fun ls' hl' => k H locs ls' hP hS hl')
theorem x_istore (hX : xO X cc own nL B g) {i : Nat} {x : Int32} (L' : List (Nat × Value)) (hd : decode cc pc = .ok (.istore i, 2)) (hn : i < nL) (hv : (i, Value.int x) :: L.filter (fun q => !(q.1 == i) && !(q.1 + 1 == i && q.2.category == 2)) = L') (k : xV X B nL Z a b P (pc + 2) L' (st)) : xV X B nL Z a b P pc L (.int x :: st) :=
  fun H locs ls hP hS hl => lv_istore hX.1 hX.2.1 hd hl hn hv (fun ls' hl' => k H locs ls' hP hS hl')
theorem x_lstore_n (hX : xO X cc own nL B g) {kf : Fin 4} {i : Nat} {x : Int64} (L' : List (Nat × Value)) (hd : decode cc pc = .ok (.lstore_n kf, 1)) (hi : (kf : Nat) = i) (hn : i + 1 < nL) (hv : (i, Value.long x) :: L.filter (fun q => !(q.1 == i) && (!(q.1 == i + 1) && !(q.1 + 1 == i && q.2.category == 2))) = L') (k : xV X B nL Z a b P (pc + 1) L' (st)) : xV X B nL Z a b P pc L (.long x :: st) :=
  fun H locs ls hP hS hl => lv_lstore_n hX.1 hX.2.1 hd hi hl hn hv (fun ls' hl' => k H locs ls' hP hS hl')
theorem x_lstore (hX : xO X cc own nL B g) {i : Nat} {x : Int64} (L' : List (Nat × Value)) (hd : decode cc pc = .ok (.lstore i, 2)) (hn : i + 1 < nL) (hv : (i, Value.long x) :: L.filter (fun q => !(q.1 == i) && (!(q.1 == i + 1) && !(q.1 + 1 == i && q.2.category == 2))) = L') (k : xV X B nL Z a b P (pc + 2) L' (st)) : xV X B nL Z a b P pc L (.long x :: st) :=
  fun H locs ls hP hS hl => lv_lstore hX.1 hX.2.1 hd hl hn hv (fun ls' hl' => k H locs ls' hP hS hl')
theorem x_astore_n (hX : xO X cc own nL B g) {kf : Fin 4} {i : Nat} {x : Nat} (L' : List (Nat × Value)) (hd : decode cc pc = .ok (.astore_n kf, 1)) (hi : (kf : Nat) = i) (hn : i < nL) (hv : (i, Value.ref x) :: L.filter (fun q => !(q.1 == i) && !(q.1 + 1 == i && q.2.category == 2)) = L') (k : xV X B nL Z a b P (pc + 1) L' (st)) : xV X B nL Z a b P pc L (.ref x :: st) :=
  fun H locs ls hP hS hl => lv_astore_n hX.1 hX.2.1 hd hi hl hn hv (fun ls' hl' => k H locs ls' hP hS hl')
theorem x_astore (hX : xO X cc own nL B g) {i : Nat} {x : Nat} (L' : List (Nat × Value)) (hd : decode cc pc = .ok (.astore i, 2)) (hn : i < nL) (hv : (i, Value.ref x) :: L.filter (fun q => !(q.1 == i) && !(q.1 + 1 == i && q.2.category == 2)) = L') (k : xV X B nL Z a b P (pc + 2) L' (st)) : xV X B nL Z a b P pc L (.ref x :: st) :=
  fun H locs ls hP hS hl => lv_astore hX.1 hX.2.1 hd hl hn hv (fun ls' hl' => k H locs ls' hP hS hl')
theorem x_iinc (hX : xO X cc own nL B g) {i j : Nat} {n : Int} {x v : Int32} (L' : List (Nat × Value)) (hd : decode cc pc = .ok (.iinc i n, 3)) (hj : L[j]? = some (i, .int x)) (hw : x + Int32.ofInt n = v) (hn : i < nL) (hv : (i, Value.int v) :: L.filter (fun q => !(q.1 == i) && !(q.1 + 1 == i && q.2.category == 2)) = L') (k : xV X B nL Z a b P (pc + 3) L' (st)) : xV X B nL Z a b P pc L (st) :=
  fun H locs ls hP hS hl => lv_iinc hX.1 hX.2.1 hd hl hj hw hn hv (fun ls' hl' => k H locs ls' hP hS hl')
theorem x_sub (ks : List Nat) {L' : List (Nat × Value)} (h : lv_pick L ks = L') (k : xV X B nL Z a b P pc L' (st)) : xV X B nL Z a b P pc L (st) :=
  fun H locs ls hP hS hl => k H locs ls hP hS (lv_sub hl ks h)
theorem x_eqi {x y : Int32} (h : x = y) (k : xV X B nL Z a b P pc L (.int y :: st)) : xV X B nL Z a b P pc L (.int x :: st) := h ▸ k
theorem x_eql {x y : Int64} (h : x = y) (k : xV X B nL Z a b P pc L (.long y :: st)) : xV X B nL Z a b P pc L (.long x :: st) := h ▸ k
theorem x_world {P' : Heap → Prop} (h : ∀ H, P H → P' H) (k : xV X B nL Z a b P' pc L (st)) : xV X B nL Z a b P pc L (st) :=
  fun H locs ls hP hS hl => k H locs ls (h H hP) hS hl
theorem x_wide {a' b' : Nat} (h1 : a ≤ a') (h2 : b ≤ b') (k : xV X B nL Z a' b' P pc L st) : xV X B nL Z a b P pc L (st) :=
  fun H locs ls hP hS hl => W.widen h1 h2 (k H locs ls hP hS hl)
theorem x_ex {α : Type} {P' : α → Heap → Prop} (k : ∀ w : α, xV X B nL Z a b (P' w) pc L st) : xV X B nL Z a b (fun H => ∃ w : α, P' w H) pc L st :=
  fun H locs ls hP hS hl => hP.elim fun w hw => k w H locs ls hw hS hl
theorem x_and {φ : Prop} (k : φ → xV X B nL Z a b P pc L (st)) : xV X B nL Z a b (fun H => φ ∧ P H) pc L st :=
  fun H locs ls hP hS hl => k hP.1 H locs ls hP.2 hS hl
end XL
