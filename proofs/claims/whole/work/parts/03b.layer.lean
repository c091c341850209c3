/-! worlds -/
def xtn : FieldType → Nat
  | .int => 0
  | .boolean => 0
  | .long => 1
  | .object _ => 2
  | .array _ => 2
  | _ => 3
/-- the fields of an object, out of the rows of its cell -/
def xfs (B : Nat) (ft : List FieldType) (i : Nat → Int32) (j : Nat → Int64) (f : Nat → Option Nat) : List Value :=
  ft.zipIdx.map fun q => match xtn q.1 with
    | 0 => .int (i q.2)
    | 1 => .long (j q.2)
    | _ => va_rf ((f q.2).map (B + ·))
/-- a cell: kind (0, class), (1, n) an int[n], (2, n) a long[n], (3, n) a boolean[n], (4 + t, n) an array of references of the t-th type -/
def xce (g : xG) (B : Nat) (kd : Nat × Nat) (i : Nat → Int32) (j : Nat → Int64) (f : Nat → Option Nat) : va_E := match kd with
  | (0, ci) => .inr (ci, xfs B (xft ci) i j f)
  | (1, n) => .inl (g.2 0, n, .inl i)
  | (2, n) => .inl (g.2 1, n, .inr (.inl j))
  | (3, n) => .inl (g.2 2, n, .inl i)
  | (t + 4, n) => .inl (g.2 (t + 3), n, .inr (.inr (.inr (.inr (fun p => (f p).map (B + ·))))))
def xP (g : xG) (B N : Nat) (K : Nat → Nat × Nat) (I : Nat → Nat → Int32) (J : Nat → Nat → Int64) (F : Nat → Nat → Option Nat) (H : Heap) : Prop :=
  (∀ k, k < N → va_at g.1 vwCl (B + k, xce g B (K k) (I k) (J k) (F k)) H) ∧ H.size = B + N
/-- one place of one cell -/
def xu {α : Type} (f : Nat → Nat → α) (k j : Nat) (v : α) : Nat → Nat → α := va_up f k (va_up (f k) j v)
theorem xu_row {α : Type} {f : Nat → Nat → α} {k j : Nat} {v : α} : xu f k j v k = va_up (f k) j v := va_up_self _ _ _
theorem xu_ne {α : Type} {f : Nat → Nat → α} {k j q : Nat} {v : α} (h : q ≠ k) : xu f k j v q = f q := va_up_ne _ _ h
theorem x_one {D : va_G} {cl : List vw_C} {a : Nat} {e : va_E} {H : Heap} (h : va_at D cl (a, e) H) : va_P D cl [(a, e)] H := by
  intro i q hq
  have hi : i < 1 := (List.getElem?_eq_some_iff.mp hq).1
  rw [show i = 0 by omega] at hq
  cases hq
  exact h
theorem xP_set {g : xG} {B N k : Nat} {K : Nat → Nat × Nat} {I I' : Nat → Nat → Int32} {J J' : Nat → Nat → Int64} {F F' : Nat → Nat → Option Nat} {H H' : Heap} (hP : xP g B N K I J F H) (z : H'.size = H.size) (oq : ∀ q, q ≠ B + k → H'[q]? = H[q]?)
    (he : va_at g.1 vwCl (B + k, xce g B (K k) (I' k) (J' k) (F' k)) H') (ho : ∀ q, q ≠ k → I' q = I q ∧ J' q = J q ∧ F' q = F q) : xP g B N K I' J' F' H' := by
  refine ⟨fun q hq => ?_, by rw [z]; exact hP.2⟩
  by_cases h : q = k
  · subst h
    exact he
  · obtain ⟨a1, a2, a3⟩ := ho q h
    rw [a1, a2, a3]
    exact (hP.1 q hq).kept (oq _ (fun e => h (Nat.add_left_cancel e)))
theorem xP_push {g : xG} {B N : Nat} {K : Nat → Nat × Nat} {I : Nat → Nat → Int32} {J : Nat → Nat → Int64} {F : Nat → Nat → Option Nat} {H H' : Heap} {kd : Nat × Nat} {i : Nat → Int32} {j : Nat → Int64} {f : Nat → Option Nat} (hP : xP g B N K I J F H) (z : H'.size = B + N + 1) (oq : ∀ q, q < B + N → H'[q]? = H[q]?)
    (he : va_at g.1 vwCl (B + N, xce g B kd i j f) H') : xP g B (N + 1) (va_up K N kd) (va_up I N i) (va_up J N j) (va_up F N f) H' := by
  refine ⟨fun q hq => ?_, by rw [z]; omega⟩
  by_cases h : q = N
  · subst h
    rw [va_up_self, va_up_self, va_up_self, va_up_self]
    exact he
  · rw [va_up_ne _ _ h, va_up_ne _ _ h, va_up_ne _ _ h, va_up_ne _ _ h]
    exact (hP.1 q (by omega)).kept (oq _ (by omega))
/-- what is known of a class of the worlds -/
def xcls (ci : Nat) (C : String) (T : u_T) (M : Nat) (ty : Nat → FieldType) : Prop :=
  vwCl[ci]? = some (C, T, M) ∧ (∀ w ∈ u_ws C T M, xm w) ∧ (∀ k, k < M → parseFieldDescriptor (T k).2.2.1 = some (ty k)) ∧ (∀ a, a < M → ∀ b, b < M → a ≠ b → (T a).2.1 ≠ (T b).2.1) ∧ xft ci = (List.range M).map ty ∧ ∀ k, k < M → xtn (ty k) ≤ 2
theorem xfs_at {B : Nat} {ty : Nat → FieldType} {M : Nat} {ft : List FieldType} (hf : ft = (List.range M).map ty) {i : Nat → Int32} {j : Nat → Int64} {f : Nat → Option Nat} {p : Nat} (hp : p < M) :
    (xfs B ft i j f)[p]? = some (match xtn (ty p) with | 0 => .int (i p) | 1 => .long (j p) | _ => va_rf ((f p).map (B + ·))) := by
  subst hf
  simp [xfs, List.getElem?_map, List.getElem?_zipIdx, hp]
theorem xfs_len {B : Nat} {ty : Nat → FieldType} {M : Nat} {ft : List FieldType} (hf : ft = (List.range M).map ty) {i : Nat → Int32} {j : Nat → Int64} {f : Nat → Option Nat} : (xfs B ft i j f).length = M := by
  subst hf
  simp [xfs]
section XH
variable {X : xX} {cc : ByteArray} {own : String} {nL B a b : Nat} {g : xG} {Z : State → Prop} {pc : Nat} {L : List (Nat × Value)} {st : List Value}
variable {N k j ci idx M : Nat} {K : Nat → Nat × Nat} {I I' : Nat → Nat → Int32} {J J' : Nat → Nat → Int64} {F F' : Nat → Nat → Option Nat} {C : String} {T : u_T} {ty : Nat → FieldType}
theorem x_objAt (hk : k < N) (hK : K k = (0, ci)) {H : Heap} (hP : xP g B N K I J F H) : va_at g.1 vwCl (B + k, .inr (ci, xfs B (xft ci) (I k) (J k) (F k))) H := by
  have h := hP.1 k hk
  rw [hK] at h
  exact h
/-- a field is read: v is what stands there -/
theorem x_get (hX : xO X cc own nL B g) (hc : xcls ci C T M ty) (hk : k < N) (hK : K k = (0, ci)) (hj : j < M) (hl : xm (.fieldLink own idx (T j).1 (T j).2.1 (T j).2.2.1)) {v : Value} (hv : (xfs B (xft ci) (I k) (J k) (F k))[j]? = some v) (hd : decode cc pc = .ok (.getfield idx, 3))
    (kk : xV X B nL Z a b (xP g B N K I J F) (pc + 3) L (v :: st)) : xV X B nL Z a b (xP g B N K I J F) pc L (.ref (B + k) :: st) := by
  intro H locs ls hP hS hl'
  obtain ⟨hx, hb, -, hown, -, -, hKk, hT⟩ := hX
  exact va_get (C := C) (T := T) (N := M) (ci := ci) (Ts := u_ws C T M) hx hb (fun w h => hT.m (hc.2.1 w h)) (fun _ h => h) hown hKk (x_one (x_objAt hk hK hP)) 0 rfl hc.1 j hj (hT.m hl) (fun _ h => h) hv hd (kk H locs ls hP hS hl')
theorem x_getI (hX : xO X cc own nL B g) (hc : xcls ci C T M ty) (hk : k < N) (hK : K k = (0, ci)) (hj : j < M) (ht : xtn (ty j) = 0) (hl : xm (.fieldLink own idx (T j).1 (T j).2.1 (T j).2.2.1)) (hd : decode cc pc = .ok (.getfield idx, 3))
    (kk : xV X B nL Z a b (xP g B N K I J F) (pc + 3) L (.int (I k j) :: st)) : xV X B nL Z a b (xP g B N K I J F) pc L (.ref (B + k) :: st) :=
  x_get hX hc hk hK hj hl (by rw [xfs_at hc.2.2.2.2.1 hj, ht]; rfl) hd kk
theorem x_getJ (hX : xO X cc own nL B g) (hc : xcls ci C T M ty) (hk : k < N) (hK : K k = (0, ci)) (hj : j < M) (ht : xtn (ty j) = 1) (hl : xm (.fieldLink own idx (T j).1 (T j).2.1 (T j).2.2.1)) (hd : decode cc pc = .ok (.getfield idx, 3))
    (kk : xV X B nL Z a b (xP g B N K I J F) (pc + 3) L (.long (J k j) :: st)) : xV X B nL Z a b (xP g B N K I J F) pc L (.ref (B + k) :: st) :=
  x_get hX hc hk hK hj hl (by rw [xfs_at hc.2.2.2.2.1 hj, ht]; rfl) hd kk
theorem x_getF (hX : xO X cc own nL B g) (hc : xcls ci C T M ty) (hk : k < N) (hK : K k = (0, ci)) (hj : j < M) (ht : xtn (ty j) = 2) {r : Nat} (hr : F k j = some r) (hl : xm (.fieldLink own idx (T j).1 (T j).2.1 (T j).2.2.1)) (hd : decode cc pc = .ok (.getfield idx, 3))
    (kk : xV X B nL Z a b (xP g B N K I J F) (pc + 3) L (.ref (B + r) :: st)) : xV X B nL Z a b (xP g B N K I J F) pc L (.ref (B + k) :: st) :=
  x_get hX hc hk hK hj hl (by rw [xfs_at hc.2.2.2.2.1 hj, ht]; simp [hr, va_rf]) hd kk
/-- a field is written -/
theorem x_put (hX : xO X cc own nL B g) (hc : xcls ci C T M ty) (hk : k < N) (hK : K k = (0, ci)) (hj : j < M) (hl : xm (.fieldLink own idx (T j).1 (T j).2.1 (T j).2.2.1)) (hfin : (T j).2.2.2 = false ∨ ((x_meth X).name = "<init>" ∧ (T j).2.2.2 = true ∧ (T j).1 = own)) {v : Value} (hn : narrow (ty j) v = v) (hfit : fits (ty j) v = true)
    (hrow : (xfs B (xft ci) (I k) (J k) (F k)).set j v = xfs B (xft ci) (I' k) (J' k) (F' k)) (ho : ∀ q, q ≠ k → I' q = I q ∧ J' q = J q ∧ F' q = F q) (hd : decode cc pc = .ok (.putfield idx, 3))
    (kk : xV X B nL Z a b (xP g B N K I' J' F') (pc + 3) L st) : xV X B nL Z a b (xP g B N K I J F) pc L (v :: .ref (B + k) :: st) := by
  intro H locs ls hP hS hl'
  obtain ⟨hx, hb, -, hown, -, -, hKk, hT⟩ := hX
  obtain ⟨hc0, hin, hty, hnm, hft, -⟩ := hc
  have hts : ∀ w ∈ u_ws C T M, w.before (x_args X) (x_s X) = true := fun w h => hT.m (hin w h)
  have hap := va_apart (own := own) hts (fun _ h => h) ty hty hnm hKk hc0
  obtain ⟨r, h1, cell, q1, q2, q3, q4⟩ := x_objAt hk hK hP
  have hr : r = (C, T, M) := Option.some.inj (h1.symm.trans hc0)
  subst hr
  obtain ⟨hSl, hfc, kC, hkC, hkind⟩ := hKk.1 ci _ hc0
  obtain ⟨cf, kf, fi, f, hi, hsl⟩ := hSl j hj
  have hst := (u_facts hfc hkC (u_lays hts (fun _ h => h) hj) hi).1
  have hlen : j < (xfs B (xft ci) (I k) (J k) (F k)).length := by rw [xfs_len hft]; exact hj
  have fin : ∀ (H' : Heap), H'[B + k]? = some (cell.setSlot f.slot v) → H'.size = H.size → (∀ q, q ≠ B + k → H'[q]? = H[q]?) → W X.1 X.2.1 X.2.2.1 X.2.2.2.1 X.2.2.2.2.1 X.2.2.2.2.2.1 X.2.2.2.2.2.2.1 X.2.2.2.2.2.2.2.1 X.2.2.2.2.2.2.2.2.1 X.2.2.2.2.2.2.2.2.2 H' (locs ++ [⟨B + k, f.slot⟩]) a b Z (F0 X.2.2.2.2.2.1 (pc + 3) ls st) := by
    intro H' e1 e2 e3
    rw [hsl] at e1
    have he : va_at g.1 vwCl (B + k, .inr (ci, (xfs B (xft ci) (I k) (J k) (F k)).set j v)) H' := ⟨_, hc0, t_OB.to (V := updV (vp_V (xfs B (xft ci) (I k) (J k) (F k))) j v) ⟨_, e1, q2, q3, t_set q4 hap hj v⟩ (fun i _ => vp_updV_set hlen v i)⟩
    rw [hrow] at he
    exact kk H' _ ls (xP_set hP e2 e3 (by rw [hK]; exact he) ho) (hS.put e2 e3 (Nat.le_add_right B k)) hl'
  rcases hfin with hfin | ⟨hin2, hfin, hdecl⟩
  · have hlay := hts _ (u_in_lay hj)
    unfold u_lay at hlay
    rw [if_neg (by rw [hfin]; decide)] at hlay
    have h6 := u_store hfc hkC hkind hlay hi (hty j hj) hn hfit
    exact W.putK hx hb (f := f) ⟨hown, hT.m hl, ⟨_, _, _, hi⟩, hst⟩ (by rw [q2]; exact h6) q1 q3 (by rw [hsl]; exact k2_hasslot (q4 j hj)) rfl rfl hd fin
  · have hlay := hts _ (u_in_lay hj)
    unfold u_lay at hlay
    rw [if_pos hfin] at hlay
    have hcf : X.2.2.2.2.2.1.cls = cf := by
      obtain ⟨_, _, c', _, _, _, -, -, hf', -, -, -, hown2, -⟩ := Cond.laysFinal_spec hlay
      have e1 : c' = cf := by have := hi.symm.trans hf'; simp at this; exact this.1.symm
      rw [hdecl] at hown2
      rw [← e1]; exact Option.some.inj (hown.symm.trans hown2)
    have h6 := u_fits hfc hkC hkind (Or.inr hlay) hi (hty j hj) hn hfit
    exact W.putFinK hx hb hown (hT.m hl) hi hst hcf hin2 (by rw [q2]; exact h6) q1 q3 (by rw [hsl]; exact k2_hasslot (q4 j hj)) rfl rfl hd fin
theorem xfs_setI {B : Nat} {ty : Nat → FieldType} {M j : Nat} {ft : List FieldType} (hf : ft = (List.range M).map ty) (ht : xtn (ty j) = 0) {i : Nat → Int32} {l : Nat → Int64} {f : Nat → Option Nat} {v : Int32} (hj : j < M) : (xfs B ft i l f).set j (.int v) = xfs B ft (va_up i j v) l f := by
  apply List.ext_getElem?
  intro p
  by_cases hp : p < M
  · rw [List.getElem?_set, xfs_at hf hp, xfs_at hf hp, xfs_len hf]
    by_cases e : j = p
    · subst e
      simp [ht, hp, va_up]
    · simp [e, va_up, Ne.symm e]
  · rw [List.getElem?_eq_none (by rw [List.length_set, xfs_len hf]; omega), List.getElem?_eq_none (by rw [xfs_len hf]; omega)]
theorem xfs_setJ {B : Nat} {ty : Nat → FieldType} {M j : Nat} {ft : List FieldType} (hf : ft = (List.range M).map ty) (ht : xtn (ty j) = 1) {i : Nat → Int32} {l : Nat → Int64} {f : Nat → Option Nat} {v : Int64} (hj : j < M) : (xfs B ft i l f).set j (.long v) = xfs B ft i (va_up l j v) f := by
  apply List.ext_getElem?
  intro p
  by_cases hp : p < M
  · rw [List.getElem?_set, xfs_at hf hp, xfs_at hf hp, xfs_len hf]
    by_cases e : j = p
    · subst e
      simp [ht, hp, va_up]
    · simp [e, va_up, Ne.symm e]
  · rw [List.getElem?_eq_none (by rw [List.length_set, xfs_len hf]; omega), List.getElem?_eq_none (by rw [xfs_len hf]; omega)]
theorem xfs_setF {B : Nat} {ty : Nat → FieldType} {M j : Nat} {ft : List FieldType} (hf : ft = (List.range M).map ty) (ht : xtn (ty j) = 2) {i : Nat → Int32} {l : Nat → Int64} {f : Nat → Option Nat} {v : Nat} (hj : j < M) : (xfs B ft i l f).set j (.ref (B + v)) = xfs B ft i l (va_up f j (some v)) := by
  apply List.ext_getElem?
  intro p
  by_cases hp : p < M
  · rw [List.getElem?_set, xfs_at hf hp, xfs_at hf hp, xfs_len hf]
    by_cases e : j = p
    · subst e
      simp [ht, hp, va_up, va_rf]
    · simp [e, va_up, Ne.symm e]
  · rw [List.getElem?_eq_none (by rw [List.length_set, xfs_len hf]; omega), List.getElem?_eq_none (by rw [xfs_len hf]; omega)]
theorem x_putI (hX : xO X cc own nL B g) (hc : xcls ci C T M ty) (hk : k < N) (hK : K k = (0, ci)) (hj : j < M) (ht : xtn (ty j) = 0) (hl : xm (.fieldLink own idx (T j).1 (T j).2.1 (T j).2.2.1)) (hfin : (T j).2.2.2 = false ∨ ((x_meth X).name = "<init>" ∧ (T j).2.2.2 = true ∧ (T j).1 = own)) {v : Int32} (hn : narrow (ty j) (.int v) = .int v) (hfit : fits (ty j) (.int v) = true) (hd : decode cc pc = .ok (.putfield idx, 3))
    (kk : xV X B nL Z a b (xP g B N K (xu I k j v) J F) (pc + 3) L st) : xV X B nL Z a b (xP g B N K I J F) pc L (.int v :: .ref (B + k) :: st) :=
  x_put (I' := xu I k j v) (J' := J) (F' := F) hX hc hk hK hj hl hfin hn hfit (by rw [xu_row, xfs_setI hc.2.2.2.2.1 ht hj]) (fun q hq => ⟨xu_ne hq, rfl, rfl⟩) hd kk
theorem x_putJ (hX : xO X cc own nL B g) (hc : xcls ci C T M ty) (hk : k < N) (hK : K k = (0, ci)) (hj : j < M) (ht : xtn (ty j) = 1) (hl : xm (.fieldLink own idx (T j).1 (T j).2.1 (T j).2.2.1)) (hfin : (T j).2.2.2 = false ∨ ((x_meth X).name = "<init>" ∧ (T j).2.2.2 = true ∧ (T j).1 = own)) {v : Int64} (hn : narrow (ty j) (.long v) = .long v) (hfit : fits (ty j) (.long v) = true) (hd : decode cc pc = .ok (.putfield idx, 3))
    (kk : xV X B nL Z a b (xP g B N K I (xu J k j v) F) (pc + 3) L st) : xV X B nL Z a b (xP g B N K I J F) pc L (.long v :: .ref (B + k) :: st) :=
  x_put (I' := I) (J' := xu J k j v) (F' := F) hX hc hk hK hj hl hfin hn hfit (by rw [xu_row, xfs_setJ hc.2.2.2.2.1 ht hj]) (fun q hq => ⟨rfl, xu_ne hq, rfl⟩) hd kk
theorem x_putF (hX : xO X cc own nL B g) (hc : xcls ci C T M ty) (hk : k < N) (hK : K k = (0, ci)) (hj : j < M) (ht : xtn (ty j) = 2) (hl : xm (.fieldLink own idx (T j).1 (T j).2.1 (T j).2.2.1)) (hfin : (T j).2.2.2 = false ∨ ((x_meth X).name = "<init>" ∧ (T j).2.2.2 = true ∧ (T j).1 = own)) {v : Nat} (hn : narrow (ty j) (.ref (B + v)) = .ref (B + v)) (hfit : fits (ty j) (.ref (B + v)) = true) (hd : decode cc pc = .ok (.putfield idx, 3))
    (kk : xV X B nL Z a b (xP g B N K I J (xu F k j (some v))) (pc + 3) L st) : xV X B nL Z a b (xP g B N K I J F) pc L (.ref (B + v) :: .ref (B + k) :: st) :=
  x_put (I' := I) (J' := J) (F' := xu F k j (some v)) hX hc hk hK hj hl hfin hn hfit (by rw [xu_row, xfs_setF hc.2.2.2.2.1 ht hj]) (fun q hq => ⟨rfl, rfl, xu_ne hq⟩) hd kk
/-! arrays: at the place p of an array of n -/
def xat (i : Int32) (n p : Nat) : Prop := vp_in i n ∧ i.toNatClampNeg = p
theorem xat_nI {n p : Nat} (h : p < n) (hn : n < 2 ^ 31) : xat (nI p) n p := ⟨vp_in_nI h hn, nI_clamp (Nat.lt_trans h hn)⟩
variable {n p : Nat} {i : Int32}
theorem x_iald (hX : xO X cc own nL B g) (hk : k < N) (hK : K k = (1, n)) (hp : xat i n p) (hd : decode cc pc = .ok (.iaload, 1))
    (kk : xV X B nL Z a b (xP g B N K I J F) (pc + 1) L (.int (I k p) :: st)) : xV X B nL Z a b (xP g B N K I J F) pc L (.int i :: .ref (B + k) :: st) := by
  intro H locs ls hP hS hl'
  have h := hP.1 k hk
  rw [hK] at h
  have hh := kk H locs ls hP hS hl'
  rw [← hp.2] at hh
  exact va_iald (f := I k) hX.1 hX.2.1 hX.2.2.2.2.2.2.1 (x_one h) 0 0 rfl rfl hp.1 hd hh
theorem x_zald (hX : xO X cc own nL B g) (hk : k < N) (hK : K k = (3, n)) (hp : xat i n p) (hd : decode cc pc = .ok (.baload, 1))
    (kk : xV X B nL Z a b (xP g B N K I J F) (pc + 1) L (.int (I k p) :: st)) : xV X B nL Z a b (xP g B N K I J F) pc L (.int i :: .ref (B + k) :: st) := by
  intro H locs ls hP hS hl'
  have h := hP.1 k hk
  rw [hK] at h
  have hh := kk H locs ls hP hS hl'
  rw [← hp.2] at hh
  exact va_zald (f := I k) hX.1 hX.2.1 hX.2.2.2.2.2.2.1 (x_one h) 0 2 rfl rfl hp.1 hd hh
theorem x_lald (hX : xO X cc own nL B g) (hk : k < N) (hK : K k = (2, n)) (hp : xat i n p) (hd : decode cc pc = .ok (.laload, 1))
    (kk : xV X B nL Z a b (xP g B N K I J F) (pc + 1) L (.long (J k p) :: st)) : xV X B nL Z a b (xP g B N K I J F) pc L (.int i :: .ref (B + k) :: st) := by
  intro H locs ls hP hS hl'
  have h := hP.1 k hk
  rw [hK] at h
  have hh := kk H locs ls hP hS hl'
  rw [← hp.2] at hh
  exact va_lald (f := J k) hX.1 hX.2.1 hX.2.2.2.2.2.2.1 (x_one h) 0 1 rfl rfl hp.1 hd hh
theorem x_alen (hX : xO X cc own nL B g) (hk : k < N) {t : Nat} (hK : K k = (t + 1, n)) (ht : t < xtyn) (hd : decode cc pc = .ok (.arraylength, 1))
    (kk : xV X B nL Z a b (xP g B N K I J F) (pc + 1) L (.int (nI n) :: st)) : xV X B nL Z a b (xP g B N K I J F) pc L (.ref (B + k) :: st) := by
  intro H locs ls hP hS hl'
  have h := hP.1 k hk
  rw [hK] at h
  have hh := kk H locs ls hP hS hl'
  obtain ⟨fty, hty⟩ : ∃ fty, (xtys g.2)[t]? = some (g.2 t, fty) := xtys_at g.2 ht
  have ha := (hX.2.2.2.2.2.2.1.2 t _ hty).1
  match t, h, ha with
  | 0, h, ha => exact W.alen (n := nI n) hX.1 hX.2.1 h (ha n (fun j => .int (I k j))) (by rw [vp_cell_i, arrV_size]; rfl) rfl rfl hd hh
  | 1, h, ha => exact W.alen (n := nI n) hX.1 hX.2.1 h (ha n (fun j => .long (J k j))) (by rw [vp_cell_l, arrV_size]; rfl) rfl rfl hd hh
  | 2, h, ha => exact W.alen (n := nI n) hX.1 hX.2.1 h (ha n (fun j => .int (I k j))) (by rw [vp_cell_i, arrV_size]; rfl) rfl rfl hd hh
  | t + 3, h, ha => exact W.alen (n := nI n) hX.1 hX.2.1 h (ha n (fun j => va_rf ((F k j).map (B + ·)))) (by rw [vp_cell_q, arrV_size]; rfl) rfl rfl hd hh
theorem x_iast (hX : xO X cc own nL B g) (hk : k < N) (hK : K k = (1, n)) (hp : xat i n p) {v : Int32} (hd : decode cc pc = .ok (.iastore, 1))
    (kk : xV X B nL Z a b (xP g B N K (xu I k p v) J F) (pc + 1) L st) : xV X B nL Z a b (xP g B N K I J F) pc L (.int v :: .int i :: .ref (B + k) :: st) := by
  intro H locs ls hP hS hl'
  have h := hP.1 k hk
  rw [hK] at h
  refine W.iast hX.1 hX.2.1 h ((hX.2.2.2.2.2.2.1.2 0 _ rfl).1 n (fun j => .int (I k j))) (fun q => by cases q) (by show ¬ (i < 0 ∨ (arrV _ _ _).slots.size ≤ _); rw [arrV_size]; exact hp.1) rfl rfl hd fun H1 e z oq => ?_
  refine kk H1 _ ls (xP_set hP z oq ?_ (fun q hq => ⟨xu_ne hq, rfl, rfl⟩)) (hS.put z oq (Nat.le_add_right B k)) hl'
  rw [hK, xu_row]
  show H1[B + k]? = some (vp_cell _ _)
  rw [e, vp_cell_i, vp_cell_i, arrV_store, hp.2]
  congr 2
  funext q
  by_cases hq : q = p <;> simp [updV, va_up, hq]
theorem x_zast (hX : xO X cc own nL B g) (hk : k < N) (hK : K k = (3, n)) (hp : xat i n p) {v : Int32} (hv : narrow .boolean (.int v) = .int v) (hd : decode cc pc = .ok (.bastore, 1))
    (kk : xV X B nL Z a b (xP g B N K (xu I k p v) J F) (pc + 1) L st) : xV X B nL Z a b (xP g B N K I J F) pc L (.int v :: .int i :: .ref (B + k) :: st) := by
  intro H locs ls hP hS hl'
  have h := hP.1 k hk
  rw [hK] at h
  refine W.zast hX.1 hX.2.1 h ((hX.2.2.2.2.2.2.1.2 2 _ rfl).1 n (fun j => .int (I k j))) (fun q => by cases q) (by show ¬ (i < 0 ∨ (arrV _ _ _).slots.size ≤ _); rw [arrV_size]; exact hp.1) rfl rfl hd fun H1 e z oq => ?_
  refine kk H1 _ ls (xP_set hP z oq ?_ (fun q hq => ⟨xu_ne hq, rfl, rfl⟩)) (hS.put z oq (Nat.le_add_right B k)) hl'
  rw [hK, xu_row]
  show H1[B + k]? = some (vp_cell _ _)
  rw [e, vp_cell_i, vp_cell_i, arrV_store, hp.2, hv]
  congr 2
  funext q
  by_cases hq : q = p <;> simp [updV, va_up, hq]
theorem x_last (hX : xO X cc own nL B g) (hk : k < N) (hK : K k = (2, n)) (hp : xat i n p) {v : Int64} (hd : decode cc pc = .ok (.lastore, 1))
    (kk : xV X B nL Z a b (xP g B N K I (xu J k p v) F) (pc + 1) L st) : xV X B nL Z a b (xP g B N K I J F) pc L (.long v :: .int i :: .ref (B + k) :: st) := by
  intro H locs ls hP hS hl'
  have h := hP.1 k hk
  rw [hK] at h
  refine W.last hX.1 hX.2.1 h ((hX.2.2.2.2.2.2.1.2 1 _ rfl).1 n (fun j => .long (J k j))) (fun q => by cases q) (by show ¬ (i < 0 ∨ (arrV _ _ _).slots.size ≤ _); rw [arrV_size]; exact hp.1) rfl rfl hd fun H1 e z oq => ?_
  refine kk H1 _ ls (xP_set hP z oq ?_ (fun q hq => ⟨rfl, xu_ne hq, rfl⟩)) (hS.put z oq (Nat.le_add_right B k)) hl'
  rw [hK, xu_row]
  show H1[B + k]? = some (vp_cell _ _)
  rw [e, vp_cell_l, vp_cell_l, arrV_store, hp.2]
  congr 2
  funext q
  by_cases hq : q = p <;> simp [updV, va_up, hq]
/-! returns and contracts -/
def xrm (d mc ms : Nat) : Room := { frames := d, cells := mc, slots := ms, locals := 40 * d }
def xQc (B : Nat) (Q : Option Value → Heap → Prop) : Array Value → State → Outcome → State → Prop := fun _ s0 o t => ∃ r, o = .returned r ∧ Q r t.heap ∧ s0.heap.size ≤ t.heap.size ∧ ∀ q, q < B → t.heap[q]? = s0.heap[q]?
def xZ (X : xX) (B mc ms : Nat) (Q : Option Value → Heap → Prop) : State → Prop := MQ (x_below X) (xQc B Q) (x_args X) (x_s X) mc ms (fun q => B ≤ q)
def xPc (g : xG) (B : Nat) (av : List Value) (P : Heap → Prop) : Array Value → State → Prop := fun v U => v = av.toArray ∧ xT U ∧ xK g U ∧ B ≤ U.heap.size ∧ P U.heap
/-- the contract of a method: d frames deep, mc new cells of ms slots -/
def xC (l : Launch) (g : xG) (B d mc ms : Nat) (y : MethodName) (cc : ByteArray) (maxL : Nat) (ret : Option FieldType) (av : List Value) (P : Heap → Prop) (Q : Option Value → Heap → Prop) : Prop :=
  Met l y [.code y cc maxL ret] (xrm d mc ms) (xPc g B av P) (xQc B Q) mc ms (fun q => B ≤ q)
variable {P : Heap → Prop} {Q : Option Value → Heap → Prop}
theorem x_endq (hX : xO X cc own nL B g) {H : Heap} {locs : List Loc} {r : Option Value} (hS : va_S (fun q => B ≤ q) (x_s X).heap H locs) (hq : Q r H) (t : State) (ht : t.heap = H) : xQc B Q (x_args X) (x_s X) (.returned r) t :=
  ⟨r, rfl, by rw [ht]; exact hq, by rw [ht]; exact hS.1, fun q h => by rw [ht]; exact hS.2.1 q (Nat.lt_of_lt_of_le h hX.2.2.2.2.2.1) (Nat.not_le.mpr h)⟩
theorem x_iret (hX : xO X cc own nL B g) (hr : (x_meth X).sig.returnType = some .int) {v : Int32} (hd : decode cc pc = .ok (.ireturn, 1)) (hq : ∀ H, P H → Q (some (.int v)) H) : xV X B nL (xZ X B a b Q) a b P pc L [.int v] :=
  fun H _ _ hP hS _ => W.iret hX.1 hX.2.1 hr (fun t ht _ => x_endq hX hS (hq H hP) t ht) hS.2.2 hd hX.2.2.2.2.1
theorem x_zret (hX : xO X cc own nL B g) (hr : (x_meth X).sig.returnType = some .boolean) {v : Int32} (hn : narrow .boolean (.int v) = .int v) (hd : decode cc pc = .ok (.ireturn, 1)) (hq : ∀ H, P H → Q (some (.int v)) H) : xV X B nL (xZ X B a b Q) a b P pc L [.int v] :=
  fun H _ _ hP hS _ => W.zret hX.1 hX.2.1 hr hn (fun t ht _ => x_endq hX hS (hq H hP) t ht) hS.2.2 hd hX.2.2.2.2.1
theorem x_lret (hX : xO X cc own nL B g) (hr : (x_meth X).sig.returnType = some .long) {v : Int64} (hd : decode cc pc = .ok (.lreturn, 1)) (hq : ∀ H, P H → Q (some (.long v)) H) : xV X B nL (xZ X B a b Q) a b P pc L [.long v] :=
  fun H _ _ hP hS _ => W.lret hX.1 hX.2.1 hr (fun t ht _ => x_endq hX hS (hq H hP) t ht) hS.2.2 hd hX.2.2.2.2.1
theorem x_vret (hX : xO X cc own nL B g) (hr : (x_meth X).sig.returnType = none) (hd : decode cc pc = .ok (.return_, 1)) (hq : ∀ H, P H → Q none H) : xV X B nL (xZ X B a b Q) a b P pc L [] :=
  fun H _ _ hP hS _ => W.vret hX.1 hX.2.1 hr (fun t ht _ => x_endq hX hS (hq H hP) t ht) hS.2.2 hd hX.2.2.2.2.1
theorem x_aret (hX : xO X cc own nL B g) {rt : FieldType} (hr : (x_meth X).sig.returnType = some rt) (hrt : (∃ n, rt = .object n) ∨ ∃ t, rt = .array t) {v : Value} (hv : v = .null ∨ ∃ q, v = .ref q) (hd : decode cc pc = .ok (.areturn, 1)) (hq : ∀ H, P H → Q (some v) H) : xV X B nL (xZ X B a b Q) a b P pc L [v] :=
  fun H _ _ hP hS _ => W.aret hX.1 hX.2.1 hr hrt hv (fun t ht _ => x_endq hX hS (hq H hP) t ht) hS.2.2 hd hX.2.2.2.2.1
theorem xC_of {l : Launch} {d mc ms maxL : Nat} {y : MethodName} {ret : Option FieldType} {av : List Value} (hy : plainName y.cls = true) (hlen : (lg_sl av).length ≤ maxL)
    (body : ∀ X : xX, x_l X = l → x_R X = xrm d mc ms → (x_meth X).sig.returnType = ret → (x_meth X).name = y.name → xO X cc y.cls maxL B g → xV X B maxL (xZ X B mc ms Q) 0 0 P 0 (lv_args 0 av) []) : xC l g B d mc ms y cc maxL ret av P Q := by
  refine Met.ofW (cc := cc) (maxL := maxL) (ret := ret) hy rfl ?_
  intro p e s m args below meth c s₁ Bd hml hv
  obtain ⟨rfl, hT, hK, hB, hP⟩ := hv
  have h := body (p, l, e, xrm d mc ms, s, m, av.toArray, below, meth, c) rfl rfl Bd.returns (name_of_methodNamed Bd.named Bd.method).1 ⟨Bd.exec, Bd.bytes, hml, findClass_of_methodNamed Bd.named, Bd.notSynchronized, hB, hK, hT⟩
  rw [lg_entry_eq]
  exact h s.heap [] _ hP va_S.rf (lv_entry av hlen)
/-- behind a call -/
theorem x_after {mc ms : Nat} {av : Array Value} {st0 : List Value} {H : Heap} {locs : List Loc} {ls : Array Slot} (hX : xO X cc own nL B g) (hr : va_Run X.1 X.2.1 X.2.2.1 X.2.2.2.1 X.2.2.2.2.1 X.2.2.2.2.2.1 X.2.2.2.2.2.2.1 X.2.2.2.2.2.2.2.1 X.2.2.2.2.2.2.2.2.1 X.2.2.2.2.2.2.2.2.2 H locs a b mc ms (F0 X.2.2.2.2.2.1 pc ls st0) st (xQc B Q av) (fun q => B ≤ q))
    (hS : va_S (fun q => B ≤ q) (x_s X).heap H locs) (hl : lv_has ls nL L) (kk : ∀ r, xV X B nL Z (a + mc) (b + ms) (Q r) (pc + 3) L (r.toList ++ st)) : W X.1 X.2.1 X.2.2.1 X.2.2.2.1 X.2.2.2.2.1 X.2.2.2.2.2.1 X.2.2.2.2.2.2.1 X.2.2.2.2.2.2.2.1 X.2.2.2.2.2.2.2.2.1 X.2.2.2.2.2.2.2.2.2 H locs a b Z (F0 X.2.2.2.2.2.1 pc ls st0) := by
  intro T hT Xs
  obtain ⟨v, st₀, t, T', L', h0, X', hL, e1, e2, ⟨r, hv, hq, hz, hk⟩, stp⟩ := hr T hT Xs
  cases hv
  rw [h0] at hz hk
  obtain ⟨t2, a1, b1⟩ := kk v T'.heap (locs ++ L') ls (by rw [e1]; exact hq) ⟨Nat.le_trans hS.1 (by rw [e1]; exact hz), fun q h1 h2 => by rw [e1, hk q (Nat.not_le.mp h2)]; exact hS.2.1 q h1 h2, fun q hq => by
      rcases List.mem_append.mp hq with h | h
      · exact hS.2.2 q h
      · exact hL q h⟩ hl T' rfl X'
  exact ⟨t2, stp t2 a1, b1⟩
theorem x_blind {av : List Value} : FrameBlind (xPc g B av P) := fun _ _ _ _ h => ⟨h.1, h.2.1.warm (State.WarmedH.refl _), va_K.moved (Vm.Alike.refl _) h.2.2.1, h.2.2.2.1, h.2.2.2.2⟩
/-- what a call of y from own's place idx of the pool needs: the link, the code, the class, the number of its arguments -/
def xcl (own : String) (idx : Nat) (y : MethodName) (bytes : ByteArray) (maxL : Nat) (ret : Option FieldType) (n : Nat) : Prop :=
  xm (.methodLink own idx y) ∧ xm (.code y bytes maxL ret) ∧ xm (.initialized y.cls) ∧ (y.cls ≠ "java/lang/invoke/MethodHandle" ∧ y.cls ≠ "java/lang/invoke/VarHandle" ∧ (parseMethodDescriptor y.desc).map (fun d => d.parameters.length) = some n) ∧ maxL ≤ 21
theorem x_callB {d mc ms mc0 ms0 maxL : Nat} {y : MethodName} {bytes : ByteArray} {ret : Option FieldType} (hX : xO X cc own nL B g) (hR : x_R X = xrm (d + 1) mc0 ms0) (hc : xcl own idx y bytes maxL ret n) : CallB (x_R X) (x_s X) (x_args X) own idx y bytes maxL ret [.code y bytes maxL ret] (xrm d mc ms) mc ms n := by
  obtain ⟨h1, h2, h3, ⟨h4, h5, h6⟩, h7⟩ := hc
  have hT := hX.2.2.2.2.2.2.2
  refine ⟨rfl, rfl, by rw [hR]; exact Nat.le_refl _, by rw [hR]; show 8 + (maxL + 11) + 40 * d ≤ 40 * (d + 1); omega, fun w hw a' U hW => ?_, List.mem_cons_self, hT.m h2, hT.m h3, ⟨h4, h5⟩, fun sig h => ?_, hT.m h1⟩
  · rw [List.mem_singleton.mp hw]
    exact (hT.warm hW).m h2
  · rw [h] at h6
    exact (Option.some.inj h6).symm
theorem x_pre (hX : xO X cc own nL B g) {H : Heap} {locs : List Loc} {av : List Value} (hP : P H) (hS : va_S (fun q => B ≤ q) (x_s X).heap H locs) (U : State) (hU : U.heap = H) (hW : (x_s X).WarmedH U.vm) : xPc g B av P av.toArray U :=
  ⟨rfl, hX.2.2.2.2.2.2.2.warm hW, hX.2.2.2.2.2.2.1.warm hW, by rw [hU]; exact Nat.le_trans hX.2.2.2.2.2.1 hS.1, by rw [hU]; exact hP⟩
theorem x_callS {d mc ms mc0 ms0 maxL : Nat} {y : MethodName} {bytes : ByteArray} {ret : Option FieldType} {As st0 : List Value} (hX : xO X cc own nL B g) (hR : x_R X = xrm (d + 1) mc0 ms0) (hC : xC (x_l X) g B d mc ms y bytes maxL ret As P Q) (hc : xcl own idx y bytes maxL ret n) (hs : xm (.static y)) (hn : As.length = n) (hst : st0 = As.reverse ++ st) (hcat : (st.map fun v => v.category).sum ≤ 8) (hf : a + mc ≤ mc0 ∧ b + ms ≤ ms0) (hd : decode cc pc = .ok (.invokestatic idx, 3))
    (kk : ∀ r, xV X B nL Z (a + mc) (b + ms) (Q r) (pc + 3) L (r.toList ++ st)) : xV X B nL Z a b P pc L st0 := by
  intro H locs ls hP hS hl
  subst hst
  have hf' : a + mc ≤ (x_R X).cells ∧ b + ms ≤ (x_R X).slots := by rw [hR]; exact hf
  have hsz : ls.size = nL := hl.1
  exact x_after hX (va_runS (Ts := []) (As := As) (rest := st) ⟨hX.1, hX.2.1, hX.2.2.1, hX.2.2.2.1, fun _ h => by cases h⟩ hC ⟨x_callB hX hR hc, hX.2.2.2.2.2.2.2.m hs⟩ ⟨x_blind, fun U hU hW => x_pre hX hP hS U hU hW⟩ rfl hn hsz rfl (lv_room hcat) hd hf') hS hl kk
theorem x_callV {d mc ms mc0 ms0 maxL : Nat} {y : MethodName} {bytes : ByteArray} {ret : Option FieldType} {As st0 : List Value} (hX : xO X cc own nL B g) (hR : x_R X = xrm (d + 1) mc0 ms0) (hC : xC (x_l X) g B d mc ms y bytes maxL ret (.ref (B + k) :: As) (xP g B N K I J F) Q) (hc : xcl own idx y bytes maxL ret n) (hi : xm (.instanceMethod y)) (hse : xm (.selects C y y)) (hcl : vwCl[ci]? = some (C, T, M)) (hk : k < N) (hK : K k = (0, ci)) (hn : As.length = n) (hst : st0 = As.reverse ++ .ref (B + k) :: st) (hcat : (st.map fun v => v.category).sum ≤ 8) (hf : a + mc ≤ mc0 ∧ b + ms ≤ ms0) (hd : decode cc pc = .ok (.invokevirtual idx, 3))
    (kk : ∀ r, xV X B nL Z (a + mc) (b + ms) (Q r) (pc + 3) L (r.toList ++ st)) : xV X B nL Z a b (xP g B N K I J F) pc L st0 := by
  intro H locs ls hP hS hl
  subst hst
  have hf' : a + mc ≤ (x_R X).cells ∧ b + ms ≤ (x_R X).slots := by rw [hR]; exact hf
  have hsz : ls.size = nL := hl.1
  exact x_after hX (va_runV (Ts := []) (As := As) (rest := st) ⟨hX.1, hX.2.1, hX.2.2.1, hX.2.2.2.1, fun _ h => by cases h⟩ hC ⟨x_callB hX hR hc, hX.2.2.2.2.2.2.2.m hi, hX.2.2.2.2.2.2.2.m hse⟩ ⟨x_blind, va_recv hX.2.2.2.2.2.2.1 (x_one (x_objAt hk hK hP)) hcl (q0 := 0) rfl, fun U hU hW => x_pre hX hP hS U hU hW⟩ rfl hn hsz rfl (lv_room hcat) hd hf') hS hl kk
theorem x_callI {d mc ms mc0 ms0 maxL q : Nat} {y : MethodName} {bytes : ByteArray} {As st0 : List Value} (hX : xO X cc own nL B g) (hR : x_R X = xrm (d + 1) mc0 ms0) (hC : xC (x_l X) g B d mc ms y bytes maxL none (.ref q :: As) P Q) (hc : xcl own idx y bytes maxL none n) (hi : xm (.instanceMethod y)) (hy : y.name = "<init>") (hn : As.length = n) (hst : st0 = As.reverse ++ .ref q :: st) (hcat : (st.map fun v => v.category).sum ≤ 8) (hf : a + mc ≤ mc0 ∧ b + ms ≤ ms0) (hd : decode cc pc = .ok (.invokespecial idx, 3))
    (kk : ∀ r, xV X B nL Z (a + mc) (b + ms) (Q r) (pc + 3) L (r.toList ++ st)) : xV X B nL Z a b P pc L st0 := by
  intro H locs ls hP hS hl
  subst hst
  have hf' : a + mc ≤ (x_R X).cells ∧ b + ms ≤ (x_R X).slots := by rw [hR]; exact hf
  have hsz : ls.size = nL := hl.1
  exact x_after hX (va_runI (Ts := []) (As := As) (rest := st) ⟨hX.1, hX.2.1, hX.2.2.1, hX.2.2.2.1, fun _ h => by cases h⟩ hC ⟨x_callB hX hR hc, hy, hX.2.2.2.2.2.2.2.m hi⟩ ⟨x_blind, fun U hU hW => x_pre hX hP hS U hU hW⟩ rfl hn hsz rfl (lv_room hcat) hd hf') hS hl kk
end XH
