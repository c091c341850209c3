section XC
variable {X : xX} {cc : ByteArray} {own : String} {nL B a b : Nat} {g : xG} {Z : State → Prop} {pc : Nat} {L : List (Nat × Value)} {st : List Value}
variable {N k j ci idx M n p : Nat} {i : Int32} {K : Nat → Nat × Nat} {I : Nat → Nat → Int32} {J : Nat → Nat → Int64} {F : Nat → Nat → Option Nat} {P : Heap → Prop} {Q : Option Value → Heap → Prop}
def xcn (own : String) (idx : Nat) (y : MethodName) (host : String) (bytes : ByteArray) (maxL : Nat) (n : Nat) : Prop :=
  Cond.methodLinkNest own idx y host ∈ lw_tbl ∧ xm (.code y bytes maxL none) ∧ xm (.initialized y.cls) ∧ (y.cls ≠ "java/lang/invoke/MethodHandle" ∧ y.cls ≠ "java/lang/invoke/VarHandle" ∧ (parseMethodDescriptor y.desc).map (fun d => d.parameters.length) = some n) ∧ maxL ≤ 21
/-- a private constructor of a nest mate -/
theorem x_callIN {d mc ms mc0 ms0 maxL q : Nat} {y : MethodName} {host : String} {bytes : ByteArray} {As st0 : List Value} (hX : xO X cc own nL B g) (hR : x_R X = xrm (d + 1) mc0 ms0) (hC : xC (x_l X) g B d mc ms y bytes maxL none (.ref q :: As) P Q) (hc : xcn own idx y host bytes maxL n) (hi : xm (.instanceMethod y)) (hy : y.name = "<init>") (hn : As.length = n) (hst : st0 = As.reverse ++ .ref q :: st) (hcat : (st.map fun v => v.category).sum ≤ 8) (hf : a + mc ≤ mc0 ∧ b + ms ≤ ms0) (hd : decode cc pc = .ok (.invokespecial idx, 3))
    (kk : ∀ r, xV X B nL Z (a + mc) (b + ms) (Q r) (pc + 3) L (r.toList ++ st)) : xV X B nL Z a b P pc L st0 := by
  intro H locs ls hP hS hl
  subst hst
  have hf' : a + mc ≤ (x_R X).cells ∧ b + ms ≤ (x_R X).slots := by rw [hR]; exact hf
  have hsz : ls.size = nL := hl.1
  obtain ⟨h1, h2, h3, ⟨h4, h5, h6⟩, h7⟩ := hc
  have hT := hX.2.2.2.2.2.2.2
  have cn : va_CN (x_R X) (x_s X) (x_args X) own idx y host bytes maxL none [.code y bytes maxL none] (xrm d mc ms) mc ms n := by
    refine ⟨⟨rfl, rfl, by rw [hR]; exact Nat.le_refl _, by rw [hR]; show 8 + (maxL + 11) + 40 * d ≤ 40 * (d + 1); omega, fun w hw a' U hW => ?_, List.mem_cons_self⟩, hT.m h2, hT.m h3, ⟨h4, h5⟩, fun sig h => ?_, va_Nw.use rfl (hT.2 _ h1 rfl)⟩
    · rw [List.mem_singleton.mp hw]
      exact (hT.warm hW).m h2
    · rw [h] at h6
      exact (Option.some.inj h6).symm
  exact x_after hX (va_runIN (Ts := []) (As := As) (rest := st) ⟨hX.1, hX.2.1, hX.2.2.1, hX.2.2.2.1, fun _ h => by cases h⟩ hC ⟨cn, hy, hT.m hi⟩ ⟨x_blind, fun U hU hW => x_pre hX hP hS U hU hW⟩ rfl hn hsz rfl (lv_room hcat) hd hf') hS hl kk
theorem x_clampInt {z : Int32} (hz : ¬ z < 0) : z.toInt = (z.toNatClampNeg : Int) := by
  have hz0 : (0 : Int) ≤ z.toInt := by
    have := Int32.not_lt.mp hz
    simpa using Int32.le_iff_toInt_le.mp this
  show z.toInt = ((z.toInt.toNat : Nat) : Int)
  omega
/-- System.arraycopy between two long[] -/
theorem x_copyJ {d mc ms k0 k1 n0 n1 sp' dp' n' : Nat} {sp dp nn : Int32} (hX : xO X cc own nL B g) (hR : x_R X = xrm (d + 1) mc ms) (w1 : xm (.methodLink own idx arraycopyName)) (w2 : xm (.native arraycopyName)) (w3 : xm (.static arraycopyName)) (w4 : xm (.initialized "java/lang/System"))
    (hk0 : k0 < N) (hK0 : K k0 = (2, n0)) (hk1 : k1 < N) (hK1 : K k1 = (2, n1)) (h1 : ¬ sp < 0) (h2 : ¬ dp < 0) (h3 : ¬ nn < 0) (e1 : sp.toNatClampNeg = sp') (e2 : dp.toNatClampNeg = dp') (e3 : nn.toNatClampNeg = n') (h4 : sp' + n' ≤ n0) (h5 : dp' + n' ≤ n1) (hcat : (st.map fun v => v.category).sum ≤ 8) (hd : decode cc pc = .ok (.invokestatic idx, 3))
    (kk : xV X B nL Z a b (xP g B N K I (va_up J k1 (va_cpy (J k0) (J k1) sp' dp' n')) F) (pc + 3) L st) : xV X B nL Z a b (xP g B N K I J F) pc L (.int nn :: .int dp :: .ref (B + k1) :: .int sp :: .ref (B + k0) :: st) := by
  intro H locs ls hP hS hl
  subst e1; subst e2; subst e3
  have hT := hX.2.2.2.2.2.2.2
  have hKk := hX.2.2.2.2.2.2.1
  have hc0 : H[B + k0]? = some (vp_cell (g.2 1) (n0, .inr (.inl (J k0)))) := by have h := hP.1 k0 hk0; rw [hK0] at h; exact h
  have hc1 : H[B + k1]? = some (vp_cell (g.2 1) (n1, .inr (.inl (J k1)))) := by have h := hP.1 k1 hk1; rw [hK1] at h; exact h
  obtain ⟨-, k0', hk0', cm0, hkk0⟩ := (hKk.2 1 _ rfl).1 n0 (fun j => .long (J k0 j))
  intro T hTT Xs
  obtain ⟨vm', X', step⟩ := Xs.arraycopy hX.1 hX.2.2.2.1 (hT.m w1) (hT.m w2) (hT.m w3) (hT.m w4) (src := B + k0) (dst := B + k1) (cs := vp_cell (g.2 1) (n0, .inr (.inl (J k0)))) (cd := vp_cell (g.2 1) (n1, .inr (.inl (J k1)))) (srcPos := sp) (destPos := dp) (n := nn) (by rw [hTT]; exact hc0) (by rw [hTT]; exact hc1)
    (fun _ h => by cases h) (fun _ h => by cases h) (fun h => by cases h) (fun h => by cases h) hk0' hk0' hkk0 hkk0 (by simp [refKind]) h1 h2 h3
    (by rw [x_clampInt h1, x_clampInt h3]; show ¬ _ > ((arrV (g.2 1) n0 (fun j => .long (J k0 j))).slots.size : Int); rw [arrV_size]; omega)
    (by rw [x_clampInt h2, x_clampInt h3]; show ¬ _ > ((arrV (g.2 1) n1 (fun j => .long (J k1 j))).slots.size : Int); rw [arrV_size]; omega)
    (fun vm₁ _ q hq => by
      have e : (vp_cell (g.2 1) (n0, .inr (.inl (J k0)))).slots.getD (sp.toNatClampNeg + q) .null = .long (J k0 (sp.toNatClampNeg + q)) := by
        show (arrV (g.2 1) n0 (fun j => .long (J k0 j))).slots.getD _ _ = _
        rw [Array.getD_eq_getD_getElem?, arrV_read _ _ (by omega)]
        rfl
      refine ⟨?_, ?_⟩
      · rw [e]
        rfl
      · rw [e]
        exact trivial)
    (g := F0 X.2.2.2.2.2.1 pc ls (.int nn :: .int dp :: .ref (B + k1) :: .int sp :: .ref (B + k0) :: st)) rfl (by rw [hX.2.2.1]; exact hl.1) (rest := st) rfl (by rw [hX.2.1]; exact hd) (by show 1 ≤ (x_R X).frames; rw [hR]; exact Nat.le_add_left 1 d) (by show 2 * 0 + _ + (nativeFrameWords "java/lang/System" "arraycopy" 5 + 11) ≤ (x_R X).locals; rw [hR]; show 2 * 0 + _ + 18 ≤ 40 * (d + 1); omega)
  have e1 : copied (vp_cell (g.2 1) (n0, .inr (.inl (J k0)))) (vp_cell (g.2 1) (n1, .inr (.inl (J k1)))) sp dp nn = vp_cell (g.2 1) (n1, .inr (.inl (va_cpy (J k0) (J k1) sp.toNatClampNeg dp.toNatClampNeg nn.toNatClampNeg))) := va_copied (fun z => .long z) (g.2 1) (g.2 1) (J k0) (J k1) h4
  rw [e1] at X' step
  have hlt : B + k1 < H.size := (Array.getElem?_eq_some_iff.mp hc1).1
  generalize hH : ((T.setVm vm').setCell (B + k1) (vp_cell (g.2 1) (n1, .inr (.inl (va_cpy (J k0) (J k1) sp.toNatClampNeg dp.toNatClampNeg nn.toNatClampNeg))))) = T' at X' step
  have hheap : T'.heap = H.setIfInBounds (B + k1) (vp_cell (g.2 1) (n1, .inr (.inl (va_cpy (J k0) (J k1) sp.toNatClampNeg dp.toNatClampNeg nn.toNatClampNeg)))) := by rw [← hH, ← hTT]; rfl
  have oq : ∀ q : Nat, q ≠ B + k1 → T'.heap[q]? = H[q]? := fun q hq => by rw [hheap]; simp [Array.getElem?_setIfInBounds, Ne.symm hq]
  have z : T'.heap.size = H.size := by rw [hheap]; simp
  have he : T'.heap[B + k1]? = some (vp_cell (g.2 1) (n1, .inr (.inl (va_cpy (J k0) (J k1) sp.toNatClampNeg dp.toNatClampNeg nn.toNatClampNeg)))) := by rw [hheap]; simp [Array.getElem?_setIfInBounds, hlt]
  obtain ⟨t, a1, b1⟩ := kk T'.heap _ ls (xP_set hP z oq (by rw [hK1, va_up_self]; exact he) (fun q hq => ⟨rfl, va_up_ne _ _ hq, rfl⟩)) ⟨by rw [z]; exact hS.1, fun q g1 g2 => by
      rw [oq q (fun e => g2 (by rw [e]; exact Nat.le_add_right B k1))]
      exact hS.2.1 q g1 g2, fun q hq => by
      rcases List.mem_append.mp hq with h | h
      · exact hS.2.2 q h
      · obtain ⟨w, -, hw⟩ := List.mem_map.mp h
        rw [← hw]
        exact Nat.le_add_right B k1⟩ hl T' rfl X'
  exact ⟨t, step t a1, b1⟩
/-- System.arraycopy between two int[] -/
theorem x_copyI {d mc ms k0 k1 n0 n1 sp' dp' n' : Nat} {sp dp nn : Int32} (hX : xO X cc own nL B g) (hR : x_R X = xrm (d + 1) mc ms) (w1 : xm (.methodLink own idx arraycopyName)) (w2 : xm (.native arraycopyName)) (w3 : xm (.static arraycopyName)) (w4 : xm (.initialized "java/lang/System"))
    (hk0 : k0 < N) (hK0 : K k0 = (1, n0)) (hk1 : k1 < N) (hK1 : K k1 = (1, n1)) (h1 : ¬ sp < 0) (h2 : ¬ dp < 0) (h3 : ¬ nn < 0) (e1 : sp.toNatClampNeg = sp') (e2 : dp.toNatClampNeg = dp') (e3 : nn.toNatClampNeg = n') (h4 : sp' + n' ≤ n0) (h5 : dp' + n' ≤ n1) (hcat : (st.map fun v => v.category).sum ≤ 8) (hd : decode cc pc = .ok (.invokestatic idx, 3))
    (kk : xV X B nL Z a b (xP g B N K (va_up I k1 (va_cpy (I k0) (I k1) sp' dp' n')) J F) (pc + 3) L st) : xV X B nL Z a b (xP g B N K I J F) pc L (.int nn :: .int dp :: .ref (B + k1) :: .int sp :: .ref (B + k0) :: st) := by
  intro H locs ls hP hS hl
  subst e1; subst e2; subst e3
  have hT := hX.2.2.2.2.2.2.2
  have hKk := hX.2.2.2.2.2.2.1
  have hc0 : H[B + k0]? = some (vp_cell (g.2 0) (n0, .inl (I k0))) := by have h := hP.1 k0 hk0; rw [hK0] at h; exact h
  have hc1 : H[B + k1]? = some (vp_cell (g.2 0) (n1, .inl (I k1))) := by have h := hP.1 k1 hk1; rw [hK1] at h; exact h
  obtain ⟨-, k0', hk0', cm0, hkk0⟩ := (hKk.2 0 _ rfl).1 n0 (fun j => .int (I k0 j))
  intro T hTT Xs
  obtain ⟨vm', X', step⟩ := Xs.arraycopy hX.1 hX.2.2.2.1 (hT.m w1) (hT.m w2) (hT.m w3) (hT.m w4) (src := B + k0) (dst := B + k1) (cs := vp_cell (g.2 0) (n0, .inl (I k0))) (cd := vp_cell (g.2 0) (n1, .inl (I k1))) (srcPos := sp) (destPos := dp) (n := nn) (by rw [hTT]; exact hc0) (by rw [hTT]; exact hc1)
    (fun _ h => by cases h) (fun _ h => by cases h) (fun h => by cases h) (fun h => by cases h) hk0' hk0' hkk0 hkk0 (by simp [refKind]) h1 h2 h3
    (by rw [x_clampInt h1, x_clampInt h3]; show ¬ _ > ((arrV (g.2 0) n0 (fun j => .int (I k0 j))).slots.size : Int); rw [arrV_size]; omega)
    (by rw [x_clampInt h2, x_clampInt h3]; show ¬ _ > ((arrV (g.2 0) n1 (fun j => .int (I k1 j))).slots.size : Int); rw [arrV_size]; omega)
    (fun vm₁ _ q hq => by
      have e : (vp_cell (g.2 0) (n0, .inl (I k0))).slots.getD (sp.toNatClampNeg + q) .null = .int (I k0 (sp.toNatClampNeg + q)) := by
        show (arrV (g.2 0) n0 (fun j => .int (I k0 j))).slots.getD _ _ = _
        rw [Array.getD_eq_getD_getElem?, arrV_read _ _ (by omega)]
        rfl
      refine ⟨?_, ?_⟩
      · rw [e]
        rfl
      · rw [e]
        exact trivial)
    (g := F0 X.2.2.2.2.2.1 pc ls (.int nn :: .int dp :: .ref (B + k1) :: .int sp :: .ref (B + k0) :: st)) rfl (by rw [hX.2.2.1]; exact hl.1) (rest := st) rfl (by rw [hX.2.1]; exact hd) (by show 1 ≤ (x_R X).frames; rw [hR]; exact Nat.le_add_left 1 d) (by show 2 * 0 + _ + (nativeFrameWords "java/lang/System" "arraycopy" 5 + 11) ≤ (x_R X).locals; rw [hR]; show 2 * 0 + _ + 18 ≤ 40 * (d + 1); omega)
  have e1 : copied (vp_cell (g.2 0) (n0, .inl (I k0))) (vp_cell (g.2 0) (n1, .inl (I k1))) sp dp nn = vp_cell (g.2 0) (n1, .inl (va_cpy (I k0) (I k1) sp.toNatClampNeg dp.toNatClampNeg nn.toNatClampNeg)) := va_copied (fun z => .int z) (g.2 0) (g.2 0) (I k0) (I k1) h4
  rw [e1] at X' step
  have hlt : B + k1 < H.size := (Array.getElem?_eq_some_iff.mp hc1).1
  generalize hH : ((T.setVm vm').setCell (B + k1) (vp_cell (g.2 0) (n1, .inl (va_cpy (I k0) (I k1) sp.toNatClampNeg dp.toNatClampNeg nn.toNatClampNeg)))) = T' at X' step
  have hheap : T'.heap = H.setIfInBounds (B + k1) (vp_cell (g.2 0) (n1, .inl (va_cpy (I k0) (I k1) sp.toNatClampNeg dp.toNatClampNeg nn.toNatClampNeg))) := by rw [← hH, ← hTT]; rfl
  have oq : ∀ q : Nat, q ≠ B + k1 → T'.heap[q]? = H[q]? := fun q hq => by rw [hheap]; simp [Array.getElem?_setIfInBounds, Ne.symm hq]
  have z : T'.heap.size = H.size := by rw [hheap]; simp
  have he : T'.heap[B + k1]? = some (vp_cell (g.2 0) (n1, .inl (va_cpy (I k0) (I k1) sp.toNatClampNeg dp.toNatClampNeg nn.toNatClampNeg))) := by rw [hheap]; simp [Array.getElem?_setIfInBounds, hlt]
  obtain ⟨t, a1, b1⟩ := kk T'.heap _ ls (xP_set hP z oq (by rw [hK1, va_up_self]; exact he) (fun q hq => ⟨va_up_ne _ _ hq, rfl, rfl⟩)) ⟨by rw [z]; exact hS.1, fun q g1 g2 => by
      rw [oq q (fun e => g2 (by rw [e]; exact Nat.le_add_right B k1))]
      exact hS.2.1 q g1 g2, fun q hq => by
      rcases List.mem_append.mp hq with h | h
      · exact hS.2.2 q h
      · obtain ⟨w, -, hw⟩ := List.mem_map.mp h
        rw [← hw]
        exact Nat.le_add_right B k1⟩ hl T' rfl X'
  exact ⟨t, step t a1, b1⟩
end XC
