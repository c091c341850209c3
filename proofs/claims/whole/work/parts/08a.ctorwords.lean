section XM
variable {X : xX} {cc : ByteArray} {own : String} {nL B a b : Nat} {g : xG} {Z : State → Prop} {P : Heap → Prop} {pc : Nat} {L : List (Nat × Value)} {st : List Value}
theorem x_mmaxI (hX : xO X cc own nL B g) {d mc ms index : Nat} (hR : x_R X = xrm (d + 1) mc ms) (w1 : xm (.methodLink own index Lib.Math.max.name)) (w2 : xm (.static Lib.Math.max.name)) (w3 : xm (.initialized "java/lang/Math")) (w4 : xm (.code Lib.Math.max.name Lib.Math.max.code 2 (some .int))) {x y : Int32} (hcat : (st.map fun v => v.category).sum ≤ 8) (hd : decode cc pc = .ok (.invokestatic index, 3))
    (k : xV X B nL Z 0 0 P (pc + 3) L (.int (if x < y then y else x) :: st)) : xV X B nL Z 0 0 P pc L (.int y :: .int x :: st) := by
  intro H locs ls hP hS hl
  have hT := hX.2.2.2.2.2.2.2
  exact va_mmax hX.1 hX.2.1 (by rw [hX.2.2.1]; exact hl.1.symm) hX.2.2.2.1 (hT.m w1) (hT.m w2) (hT.m w3) (hT.m w4) (by show 1 ≤ (x_R X).frames; rw [hR]; exact Nat.le_add_left 1 d) (by show _ + 13 ≤ (x_R X).locals; rw [hR]; show _ + 13 ≤ 40 * (d + 1); omega) (Nat.zero_le _) (Nat.zero_le _) hd (k H locs ls hP hS hl)
end XM
theorem kM3_3 : xm (.methodLink "ChangeRows$Rows" 3 Lib.objectInit) := ⟨xt1 (List.mem_of_getElem? (i := 85) rfl), rfl⟩
theorem kNobj : xm (.instanceMethod Lib.objectInit) := ⟨xt1 (List.mem_of_getElem? (i := 17) rfl), rfl⟩
theorem kDobj : xm (.code Lib.objectInit ⟨#[0xb1]⟩ 1 none) := ⟨xt1 (List.mem_of_getElem? (i := 18) rfl), rfl⟩
theorem kA_long : (.arrayClass (newarray.typeOf .long) : Cond) ∈ lw_tbl := xt1 (List.mem_of_getElem? (i := 54) rfl)
theorem kM1_3 : xm (.methodLink "ChangeRows$Batch" 3 Lib.objectInit) := ⟨xt1 (List.mem_of_getElem? (i := 26) rfl), rfl⟩
theorem kA_int : (.arrayClass (newarray.typeOf .int) : Cond) ∈ lw_tbl := xt1 (List.mem_of_getElem? (i := 52) rfl)
theorem kA_boolean : (.arrayClass (newarray.typeOf .boolean) : Cond) ∈ lw_tbl := xt1 (List.mem_of_getElem? (i := 53) rfl)
theorem kM2_3 : xm (.methodLink "ChangeRows$Changes" 3 Lib.objectInit) := ⟨xt1 (List.mem_of_getElem? (i := 60) rfl), rfl⟩
theorem kM2_15 : xm (.methodLink "ChangeRows$Changes" 15 Lib.Math.max.name) := ⟨xt1 (List.mem_of_getElem? (i := 61) rfl), rfl⟩
theorem kSMathmaxI : xm (.static Lib.Math.max.name) := ⟨xt1 (List.mem_of_getElem? (i := 62) rfl), rfl⟩
theorem kDMathmaxI : xm (.code Lib.Math.max.name Lib.Math.max.code 2 (some .int)) := ⟨xt1 (List.mem_of_getElem? (i := 63) rfl), rfl⟩
theorem kM4_3 : xm (.methodLink "ChangeRows$Table" 3 Lib.objectInit) := ⟨xt1 (List.mem_of_getElem? (i := 100) rfl), rfl⟩
theorem kL4_28 : xm (.classLink "ChangeRows$Table" 28 "ChangeRows$Rows") := ⟨xt1 (List.mem_of_getElem? (i := 101) rfl), rfl⟩
theorem kT3 : xm (.instantiable "ChangeRows$Rows" 2) := ⟨xt1 (List.mem_of_getElem? (i := 81) rfl), rfl⟩
theorem kN3_init : xm (.instanceMethod y3_init) := ⟨xt1 (List.mem_of_getElem? (i := 83) rfl), rfl⟩
theorem kD3_init : xm (.code y3_init c3_init 1 none) := ⟨xt1 (List.mem_of_getElem? (i := 84) rfl), rfl⟩
theorem kM4_30 : (.methodLinkNest "ChangeRows$Table" 30 y3_init "ChangeRows" : Cond) ∈ lw_tbl := xt1 (List.mem_of_getElem? (i := 102) rfl)
theorem kX4_30 : xcn "ChangeRows$Table" 30 y3_init "ChangeRows" c3_init 1 0 := ⟨kM4_30, kD3_init, kI3, by decide +kernel, by decide⟩
theorem kF4_31 : xm (.fieldLink "ChangeRows$Table" 31 "ChangeRows$Table" "now" "LChangeRows$Rows;") := ⟨xt1 (List.mem_of_getElem? (i := 111) rfl), rfl⟩
theorem kF4_38 : xm (.fieldLink "ChangeRows$Table" 38 "ChangeRows$Table" "base" "LChangeRows$Rows;") := ⟨xt1 (List.mem_of_getElem? (i := 115) rfl), rfl⟩
theorem kF4_45 : xm (.fieldLink "ChangeRows$Table" 45 "ChangeRows$Table" "moved" "J") := ⟨xt1 (List.mem_of_getElem? (i := 118) rfl), rfl⟩
theorem kM0_1 : xm (.methodLink "ChangeRows" 1 Lib.objectInit) := ⟨xt1 (List.mem_of_getElem? (i := 16) rfl), rfl⟩
theorem kL0_9 : xm (.classLink "ChangeRows" 9 "ChangeRows$Table") := ⟨xt1 (List.mem_of_getElem? (i := 19) rfl), rfl⟩
theorem kO_table : (.arrayOver (.object "ChangeRows$Table") : Cond) ∈ lw_tbl := xt1 (List.mem_of_getElem? (i := 20) rfl)
theorem kL0_19 : xm (.classLink "ChangeRows" 19 "ChangeRows$Batch") := ⟨xt1 (List.mem_of_getElem? (i := 21) rfl), rfl⟩
theorem kT1 : xm (.instantiable "ChangeRows$Batch" 6) := ⟨xt1 (List.mem_of_getElem? (i := 22) rfl), rfl⟩
theorem kN1_init : xm (.instanceMethod y1_init) := ⟨xt1 (List.mem_of_getElem? (i := 24) rfl), rfl⟩
theorem kD1_init : xm (.code y1_init c1_init 1 none) := ⟨xt1 (List.mem_of_getElem? (i := 25) rfl), rfl⟩
theorem kM0_21 : (.methodLinkNest "ChangeRows" 21 y1_init "ChangeRows" : Cond) ∈ lw_tbl := xt1 (List.mem_of_getElem? (i := 23) rfl)
theorem kX0_21 : xcn "ChangeRows" 21 y1_init "ChangeRows" c1_init 1 0 := ⟨kM0_21, kD1_init, kI1, by decide +kernel, by decide⟩
theorem kL0_26 : xm (.classLink "ChangeRows" 26 "ChangeRows$Changes") := ⟨xt1 (List.mem_of_getElem? (i := 55) rfl), rfl⟩
theorem kT2 : xm (.instantiable "ChangeRows$Changes" 4) := ⟨xt1 (List.mem_of_getElem? (i := 56) rfl), rfl⟩
theorem kN2_init : xm (.instanceMethod y2_init) := ⟨xt1 (List.mem_of_getElem? (i := 58) rfl), rfl⟩
theorem kD2_init : xm (.code y2_init c2_init 3 none) := ⟨xt1 (List.mem_of_getElem? (i := 59) rfl), rfl⟩
theorem kM0_28 : xm (.methodLink "ChangeRows" 28 y2_init) := ⟨xt1 (List.mem_of_getElem? (i := 57) rfl), rfl⟩
theorem kX0_28 : xcl "ChangeRows" 28 y2_init c2_init 3 none 1 := ⟨kM0_28, kD2_init, kI2, by decide +kernel, by decide⟩
theorem kL0_41 : xm (.classLink "ChangeRows" 41 "ChangeRows$Rows") := ⟨xt1 (List.mem_of_getElem? (i := 80) rfl), rfl⟩
theorem kM0_43 : (.methodLinkNest "ChangeRows" 43 y3_init "ChangeRows" : Cond) ∈ lw_tbl := xt1 (List.mem_of_getElem? (i := 82) rfl)
theorem kX0_43 : xcn "ChangeRows" 43 y3_init "ChangeRows" c3_init 1 0 := ⟨kM0_43, kD3_init, kI3, by decide +kernel, by decide⟩
theorem kT4 : xm (.instantiable "ChangeRows$Table" 10) := ⟨xt1 (List.mem_of_getElem? (i := 96) rfl), rfl⟩
theorem kN4_init : xm (.instanceMethod y4_init) := ⟨xt1 (List.mem_of_getElem? (i := 98) rfl), rfl⟩
theorem kD4_init : xm (.code y4_init c4_init 1 none) := ⟨xt1 (List.mem_of_getElem? (i := 99) rfl), rfl⟩
theorem kM0_57 : (.methodLinkNest "ChangeRows" 57 y4_init "ChangeRows" : Cond) ∈ lw_tbl := xt1 (List.mem_of_getElem? (i := 97) rfl)
theorem kX0_57 : xcn "ChangeRows" 57 y4_init "ChangeRows" c4_init 1 0 := ⟨kM0_57, kD4_init, kI4, by decide +kernel, by decide⟩
theorem kM5_1 : xm (.methodLink "ChangeRowsModel" 1 Lib.objectInit) := ⟨xt3 (List.mem_of_getElem? (i := 2) rfl), rfl⟩
theorem d3_init_0 : decode c3_init 0 = .ok (.aload_n 0, 1) := by decide +kernel
theorem d3_init_1 : decode c3_init 1 = .ok (.invokespecial 3, 3) := by decide +kernel
theorem d3_init_4 : decode c3_init 4 = .ok (.aload_n 0, 1) := by decide +kernel
theorem d3_init_5 : decode c3_init 5 = .ok (.lconst 0, 1) := by decide +kernel
theorem d3_init_6 : decode c3_init 6 = .ok (.putfield 9, 3) := by decide +kernel
theorem d3_init_9 : decode c3_init 9 = .ok (.aload_n 0, 1) := by decide +kernel
theorem d3_init_10 : decode c3_init 10 = .ok (.bipush 64, 2) := by decide +kernel
theorem d3_init_12 : decode c3_init 12 = .ok (.newarray .long, 2) := by decide +kernel
theorem d3_init_14 : decode c3_init 14 = .ok (.putfield 15, 3) := by decide +kernel
theorem d3_init_17 : decode c3_init 17 = .ok (.return_, 1) := by decide +kernel
theorem d1_init_0 : decode c1_init 0 = .ok (.aload_n 0, 1) := by decide +kernel
theorem d1_init_1 : decode c1_init 1 = .ok (.invokespecial 3, 3) := by decide +kernel
theorem d1_init_4 : decode c1_init 4 = .ok (.aload_n 0, 1) := by decide +kernel
theorem d1_init_5 : decode c1_init 5 = .ok (.iconst 0, 1) := by decide +kernel
theorem d1_init_6 : decode c1_init 6 = .ok (.putfield 9, 3) := by decide +kernel
theorem d1_init_9 : decode c1_init 9 = .ok (.aload_n 0, 1) := by decide +kernel
theorem d1_init_10 : decode c1_init 10 = .ok (.iconst 0, 1) := by decide +kernel
theorem d1_init_11 : decode c1_init 11 = .ok (.putfield 15, 3) := by decide +kernel
theorem d1_init_14 : decode c1_init 14 = .ok (.aload_n 0, 1) := by decide +kernel
theorem d1_init_15 : decode c1_init 15 = .ok (.bipush 40, 2) := by decide +kernel
theorem d1_init_17 : decode c1_init 17 = .ok (.newarray .int, 2) := by decide +kernel
theorem d1_init_19 : decode c1_init 19 = .ok (.putfield 19, 3) := by decide +kernel
theorem d1_init_22 : decode c1_init 22 = .ok (.aload_n 0, 1) := by decide +kernel
theorem d1_init_23 : decode c1_init 23 = .ok (.bipush 40, 2) := by decide +kernel
theorem d1_init_25 : decode c1_init 25 = .ok (.newarray .int, 2) := by decide +kernel
theorem d1_init_27 : decode c1_init 27 = .ok (.putfield 23, 3) := by decide +kernel
theorem d1_init_30 : decode c1_init 30 = .ok (.aload_n 0, 1) := by decide +kernel
theorem d1_init_31 : decode c1_init 31 = .ok (.bipush 40, 2) := by decide +kernel
theorem d1_init_33 : decode c1_init 33 = .ok (.newarray .boolean, 2) := by decide +kernel
theorem d1_init_35 : decode c1_init 35 = .ok (.putfield 26, 3) := by decide +kernel
theorem d1_init_38 : decode c1_init 38 = .ok (.aload_n 0, 1) := by decide +kernel
theorem d1_init_39 : decode c1_init 39 = .ok (.bipush 40, 2) := by decide +kernel
theorem d1_init_41 : decode c1_init 41 = .ok (.newarray .long, 2) := by decide +kernel
theorem d1_init_43 : decode c1_init 43 = .ok (.putfield 30, 3) := by decide +kernel
theorem d1_init_46 : decode c1_init 46 = .ok (.return_, 1) := by decide +kernel
theorem d2_init_0 : decode c2_init 0 = .ok (.aload_n 0, 1) := by decide +kernel
theorem d2_init_1 : decode c2_init 1 = .ok (.invokespecial 3, 3) := by decide +kernel
theorem d2_init_4 : decode c2_init 4 = .ok (.aload_n 0, 1) := by decide +kernel
theorem d2_init_5 : decode c2_init 5 = .ok (.iconst 0, 1) := by decide +kernel
theorem d2_init_6 : decode c2_init 6 = .ok (.putfield 9, 3) := by decide +kernel
theorem d2_init_9 : decode c2_init 9 = .ok (.iload_n 1, 1) := by decide +kernel
theorem d2_init_10 : decode c2_init 10 = .ok (.iconst 0, 1) := by decide +kernel
theorem d2_init_11 : decode c2_init 11 = .ok (.invokestatic 15, 3) := by decide +kernel
theorem d2_init_14 : decode c2_init 14 = .ok (.istore_n 2, 1) := by decide +kernel
theorem d2_init_15 : decode c2_init 15 = .ok (.aload_n 0, 1) := by decide +kernel
theorem d2_init_16 : decode c2_init 16 = .ok (.iload_n 2, 1) := by decide +kernel
theorem d2_init_17 : decode c2_init 17 = .ok (.newarray .int, 2) := by decide +kernel
theorem d2_init_19 : decode c2_init 19 = .ok (.putfield 21, 3) := by decide +kernel
theorem d2_init_22 : decode c2_init 22 = .ok (.aload_n 0, 1) := by decide +kernel
theorem d2_init_23 : decode c2_init 23 = .ok (.iload_n 2, 1) := by decide +kernel
theorem d2_init_24 : decode c2_init 24 = .ok (.newarray .long, 2) := by decide +kernel
theorem d2_init_26 : decode c2_init 26 = .ok (.putfield 25, 3) := by decide +kernel
theorem d2_init_29 : decode c2_init 29 = .ok (.aload_n 0, 1) := by decide +kernel
theorem d2_init_30 : decode c2_init 30 = .ok (.iload_n 2, 1) := by decide +kernel
theorem d2_init_31 : decode c2_init 31 = .ok (.newarray .long, 2) := by decide +kernel
theorem d2_init_33 : decode c2_init 33 = .ok (.putfield 29, 3) := by decide +kernel
theorem d2_init_36 : decode c2_init 36 = .ok (.return_, 1) := by decide +kernel
theorem d4_init_0 : decode c4_init 0 = .ok (.aload_n 0, 1) := by decide +kernel
theorem d4_init_1 : decode c4_init 1 = .ok (.invokespecial 3, 3) := by decide +kernel
theorem d4_init_4 : decode c4_init 4 = .ok (.aload_n 0, 1) := by decide +kernel
theorem d4_init_5 : decode c4_init 5 = .ok (.iconst 0, 1) := by decide +kernel
theorem d4_init_6 : decode c4_init 6 = .ok (.putfield 9, 3) := by decide +kernel
theorem d4_init_9 : decode c4_init 9 = .ok (.aload_n 0, 1) := by decide +kernel
theorem d4_init_10 : decode c4_init 10 = .ok (.iconst (-1), 1) := by decide +kernel
theorem d4_init_11 : decode c4_init 11 = .ok (.putfield 15, 3) := by decide +kernel
theorem d4_init_14 : decode c4_init 14 = .ok (.aload_n 0, 1) := by decide +kernel
theorem d4_init_15 : decode c4_init 15 = .ok (.iconst (-1), 1) := by decide +kernel
theorem d4_init_16 : decode c4_init 16 = .ok (.putfield 18, 3) := by decide +kernel
theorem d4_init_19 : decode c4_init 19 = .ok (.aload_n 0, 1) := by decide +kernel
theorem d4_init_20 : decode c4_init 20 = .ok (.lconst 0, 1) := by decide +kernel
theorem d4_init_21 : decode c4_init 21 = .ok (.putfield 21, 3) := by decide +kernel
theorem d4_init_24 : decode c4_init 24 = .ok (.aload_n 0, 1) := by decide +kernel
theorem d4_init_25 : decode c4_init 25 = .ok (.lconst 0, 1) := by decide +kernel
theorem d4_init_26 : decode c4_init 26 = .ok (.putfield 25, 3) := by decide +kernel
theorem d4_init_29 : decode c4_init 29 = .ok (.aload_n 0, 1) := by decide +kernel
theorem d4_init_30 : decode c4_init 30 = .ok (.new 28, 3) := by decide +kernel
theorem d4_init_33 : decode c4_init 33 = .ok (.dup, 1) := by decide +kernel
theorem d4_init_34 : decode c4_init 34 = .ok (.invokespecial 30, 3) := by decide +kernel
theorem d4_init_37 : decode c4_init 37 = .ok (.putfield 31, 3) := by decide +kernel
theorem d4_init_40 : decode c4_init 40 = .ok (.aload_n 0, 1) := by decide +kernel
theorem d4_init_41 : decode c4_init 41 = .ok (.new 28, 3) := by decide +kernel
theorem d4_init_44 : decode c4_init 44 = .ok (.dup, 1) := by decide +kernel
theorem d4_init_45 : decode c4_init 45 = .ok (.invokespecial 30, 3) := by decide +kernel
theorem d4_init_48 : decode c4_init 48 = .ok (.putfield 35, 3) := by decide +kernel
theorem d4_init_51 : decode c4_init 51 = .ok (.aload_n 0, 1) := by decide +kernel
theorem d4_init_52 : decode c4_init 52 = .ok (.new 28, 3) := by decide +kernel
theorem d4_init_55 : decode c4_init 55 = .ok (.dup, 1) := by decide +kernel
theorem d4_init_56 : decode c4_init 56 = .ok (.invokespecial 30, 3) := by decide +kernel
theorem d4_init_59 : decode c4_init 59 = .ok (.putfield 38, 3) := by decide +kernel
theorem d4_init_62 : decode c4_init 62 = .ok (.aload_n 0, 1) := by decide +kernel
theorem d4_init_63 : decode c4_init 63 = .ok (.bipush 64, 2) := by decide +kernel
theorem d4_init_65 : decode c4_init 65 = .ok (.newarray .int, 2) := by decide +kernel
theorem d4_init_67 : decode c4_init 67 = .ok (.putfield 41, 3) := by decide +kernel
theorem d4_init_70 : decode c4_init 70 = .ok (.aload_n 0, 1) := by decide +kernel
theorem d4_init_71 : decode c4_init 71 = .ok (.lconst 0, 1) := by decide +kernel
theorem d4_init_72 : decode c4_init 72 = .ok (.putfield 45, 3) := by decide +kernel
theorem d4_init_75 : decode c4_init 75 = .ok (.return_, 1) := by decide +kernel
theorem d0_init_0 : decode c0_init 0 = .ok (.aload_n 0, 1) := by decide +kernel
theorem d0_init_1 : decode c0_init 1 = .ok (.invokespecial 1, 3) := by decide +kernel
theorem d0_init_4 : decode c0_init 4 = .ok (.aload_n 0, 1) := by decide +kernel
theorem d0_init_5 : decode c0_init 5 = .ok (.bipush 12, 2) := by decide +kernel
theorem d0_init_7 : decode c0_init 7 = .ok (.anewarray 9, 3) := by decide +kernel
theorem d0_init_10 : decode c0_init 10 = .ok (.putfield 11, 3) := by decide +kernel
theorem d0_init_13 : decode c0_init 13 = .ok (.aload_n 0, 1) := by decide +kernel
theorem d0_init_14 : decode c0_init 14 = .ok (.iconst 0, 1) := by decide +kernel
theorem d0_init_15 : decode c0_init 15 = .ok (.putfield 15, 3) := by decide +kernel
theorem d0_init_18 : decode c0_init 18 = .ok (.aload_n 0, 1) := by decide +kernel
theorem d0_init_19 : decode c0_init 19 = .ok (.new 19, 3) := by decide +kernel
theorem d0_init_22 : decode c0_init 22 = .ok (.dup, 1) := by decide +kernel
theorem d0_init_23 : decode c0_init 23 = .ok (.invokespecial 21, 3) := by decide +kernel
theorem d0_init_26 : decode c0_init 26 = .ok (.putfield 22, 3) := by decide +kernel
theorem d0_init_29 : decode c0_init 29 = .ok (.aload_n 0, 1) := by decide +kernel
theorem d0_init_30 : decode c0_init 30 = .ok (.new 26, 3) := by decide +kernel
theorem d0_init_33 : decode c0_init 33 = .ok (.dup, 1) := by decide +kernel
theorem d0_init_34 : decode c0_init 34 = .ok (.sipush 1500, 3) := by decide +kernel
theorem d0_init_37 : decode c0_init 37 = .ok (.invokespecial 28, 3) := by decide +kernel
theorem d0_init_40 : decode c0_init 40 = .ok (.putfield 31, 3) := by decide +kernel
theorem d0_init_43 : decode c0_init 43 = .ok (.aload_n 0, 1) := by decide +kernel
theorem d0_init_44 : decode c0_init 44 = .ok (.new 26, 3) := by decide +kernel
theorem d0_init_47 : decode c0_init 47 = .ok (.dup, 1) := by decide +kernel
theorem d0_init_48 : decode c0_init 48 = .ok (.sipush 768, 3) := by decide +kernel
theorem d0_init_51 : decode c0_init 51 = .ok (.invokespecial 28, 3) := by decide +kernel
theorem d0_init_54 : decode c0_init 54 = .ok (.putfield 35, 3) := by decide +kernel
theorem d0_init_57 : decode c0_init 57 = .ok (.aload_n 0, 1) := by decide +kernel
theorem d0_init_58 : decode c0_init 58 = .ok (.new 26, 3) := by decide +kernel
theorem d0_init_61 : decode c0_init 61 = .ok (.dup, 1) := by decide +kernel
theorem d0_init_62 : decode c0_init 62 = .ok (.bipush 64, 2) := by decide +kernel
theorem d0_init_64 : decode c0_init 64 = .ok (.invokespecial 28, 3) := by decide +kernel
theorem d0_init_67 : decode c0_init 67 = .ok (.putfield 38, 3) := by decide +kernel
theorem d0_init_70 : decode c0_init 70 = .ok (.aload_n 0, 1) := by decide +kernel
theorem d0_init_71 : decode c0_init 71 = .ok (.new 41, 3) := by decide +kernel
theorem d0_init_74 : decode c0_init 74 = .ok (.dup, 1) := by decide +kernel
theorem d0_init_75 : decode c0_init 75 = .ok (.invokespecial 43, 3) := by decide +kernel
theorem d0_init_78 : decode c0_init 78 = .ok (.putfield 44, 3) := by decide +kernel
theorem d0_init_81 : decode c0_init 81 = .ok (.aload_n 0, 1) := by decide +kernel
theorem d0_init_82 : decode c0_init 82 = .ok (.new 41, 3) := by decide +kernel
theorem d0_init_85 : decode c0_init 85 = .ok (.dup, 1) := by decide +kernel
theorem d0_init_86 : decode c0_init 86 = .ok (.invokespecial 43, 3) := by decide +kernel
theorem d0_init_89 : decode c0_init 89 = .ok (.putfield 48, 3) := by decide +kernel
theorem d0_init_92 : decode c0_init 92 = .ok (.aload_n 0, 1) := by decide +kernel
theorem d0_init_93 : decode c0_init 93 = .ok (.new 41, 3) := by decide +kernel
theorem d0_init_96 : decode c0_init 96 = .ok (.dup, 1) := by decide +kernel
theorem d0_init_97 : decode c0_init 97 = .ok (.invokespecial 43, 3) := by decide +kernel
theorem d0_init_100 : decode c0_init 100 = .ok (.putfield 51, 3) := by decide +kernel
theorem d0_init_103 : decode c0_init 103 = .ok (.aload_n 0, 1) := by decide +kernel
theorem d0_init_104 : decode c0_init 104 = .ok (.new 41, 3) := by decide +kernel
theorem d0_init_107 : decode c0_init 107 = .ok (.dup, 1) := by decide +kernel
theorem d0_init_108 : decode c0_init 108 = .ok (.invokespecial 43, 3) := by decide +kernel
theorem d0_init_111 : decode c0_init 111 = .ok (.putfield 54, 3) := by decide +kernel
theorem d0_init_114 : decode c0_init 114 = .ok (.iconst 0, 1) := by decide +kernel
theorem d0_init_115 : decode c0_init 115 = .ok (.istore_n 1, 1) := by decide +kernel
theorem d0_init_116 : decode c0_init 116 = .ok (.iload_n 1, 1) := by decide +kernel
theorem d0_init_117 : decode c0_init 117 = .ok (.bipush 12, 2) := by decide +kernel
theorem d0_init_119 : decode c0_init 119 = .ok (.if_icmp .ge 22, 3) := by decide +kernel
theorem d0_init_122 : decode c0_init 122 = .ok (.aload_n 0, 1) := by decide +kernel
theorem d0_init_123 : decode c0_init 123 = .ok (.getfield 11, 3) := by decide +kernel
theorem d0_init_126 : decode c0_init 126 = .ok (.iload_n 1, 1) := by decide +kernel
theorem d0_init_127 : decode c0_init 127 = .ok (.new 9, 3) := by decide +kernel
theorem d0_init_130 : decode c0_init 130 = .ok (.dup, 1) := by decide +kernel
theorem d0_init_131 : decode c0_init 131 = .ok (.invokespecial 57, 3) := by decide +kernel
theorem d0_init_134 : decode c0_init 134 = .ok (.aastore, 1) := by decide +kernel
theorem d0_init_135 : decode c0_init 135 = .ok (.iinc 1 1, 3) := by decide +kernel
theorem d0_init_138 : decode c0_init 138 = .ok (.goto (-22), 3) := by decide +kernel
theorem d0_init_141 : decode c0_init 141 = .ok (.return_, 1) := by decide +kernel
theorem d5_init_0 : decode c5_init 0 = .ok (.aload_n 0, 1) := by decide +kernel
theorem d5_init_1 : decode c5_init 1 = .ok (.invokespecial 1, 3) := by decide +kernel
theorem d5_init_4 : decode c5_init 4 = .ok (.aload_n 0, 1) := by decide +kernel
theorem d5_init_5 : decode c5_init 5 = .ok (.bipush 12, 2) := by decide +kernel
theorem d5_init_7 : decode c5_init 7 = .ok (.newarray .int, 2) := by decide +kernel
theorem d5_init_9 : decode c5_init 9 = .ok (.putfield 7, 3) := by decide +kernel
theorem d5_init_12 : decode c5_init 12 = .ok (.aload_n 0, 1) := by decide +kernel
theorem d5_init_13 : decode c5_init 13 = .ok (.bipush 12, 2) := by decide +kernel
theorem d5_init_15 : decode c5_init 15 = .ok (.newarray .int, 2) := by decide +kernel
theorem d5_init_17 : decode c5_init 17 = .ok (.putfield 13, 3) := by decide +kernel
theorem d5_init_20 : decode c5_init 20 = .ok (.aload_n 0, 1) := by decide +kernel
theorem d5_init_21 : decode c5_init 21 = .ok (.bipush 12, 2) := by decide +kernel
theorem d5_init_23 : decode c5_init 23 = .ok (.newarray .int, 2) := by decide +kernel
theorem d5_init_25 : decode c5_init 25 = .ok (.putfield 16, 3) := by decide +kernel
theorem d5_init_28 : decode c5_init 28 = .ok (.aload_n 0, 1) := by decide +kernel
theorem d5_init_29 : decode c5_init 29 = .ok (.bipush 12, 2) := by decide +kernel
theorem d5_init_31 : decode c5_init 31 = .ok (.newarray .long, 2) := by decide +kernel
theorem d5_init_33 : decode c5_init 33 = .ok (.putfield 19, 3) := by decide +kernel
theorem d5_init_36 : decode c5_init 36 = .ok (.aload_n 0, 1) := by decide +kernel
theorem d5_init_37 : decode c5_init 37 = .ok (.bipush 12, 2) := by decide +kernel
theorem d5_init_39 : decode c5_init 39 = .ok (.newarray .long, 2) := by decide +kernel
theorem d5_init_41 : decode c5_init 41 = .ok (.putfield 23, 3) := by decide +kernel
theorem d5_init_44 : decode c5_init 44 = .ok (.aload_n 0, 1) := by decide +kernel
theorem d5_init_45 : decode c5_init 45 = .ok (.sipush 768, 3) := by decide +kernel
theorem d5_init_48 : decode c5_init 48 = .ok (.newarray .boolean, 2) := by decide +kernel
theorem d5_init_50 : decode c5_init 50 = .ok (.putfield 26, 3) := by decide +kernel
theorem d5_init_53 : decode c5_init 53 = .ok (.aload_n 0, 1) := by decide +kernel
theorem d5_init_54 : decode c5_init 54 = .ok (.sipush 768, 3) := by decide +kernel
theorem d5_init_57 : decode c5_init 57 = .ok (.newarray .long, 2) := by decide +kernel
theorem d5_init_59 : decode c5_init 59 = .ok (.putfield 30, 3) := by decide +kernel
theorem d5_init_62 : decode c5_init 62 = .ok (.aload_n 0, 1) := by decide +kernel
theorem d5_init_63 : decode c5_init 63 = .ok (.sipush 768, 3) := by decide +kernel
theorem d5_init_66 : decode c5_init 66 = .ok (.newarray .boolean, 2) := by decide +kernel
theorem d5_init_68 : decode c5_init 68 = .ok (.putfield 33, 3) := by decide +kernel
theorem d5_init_71 : decode c5_init 71 = .ok (.aload_n 0, 1) := by decide +kernel
theorem d5_init_72 : decode c5_init 72 = .ok (.sipush 768, 3) := by decide +kernel
theorem d5_init_75 : decode c5_init 75 = .ok (.newarray .long, 2) := by decide +kernel
theorem d5_init_77 : decode c5_init 77 = .ok (.putfield 36, 3) := by decide +kernel
theorem d5_init_80 : decode c5_init 80 = .ok (.aload_n 0, 1) := by decide +kernel
theorem d5_init_81 : decode c5_init 81 = .ok (.sipush 768, 3) := by decide +kernel
theorem d5_init_84 : decode c5_init 84 = .ok (.newarray .boolean, 2) := by decide +kernel
theorem d5_init_86 : decode c5_init 86 = .ok (.putfield 39, 3) := by decide +kernel
theorem d5_init_89 : decode c5_init 89 = .ok (.aload_n 0, 1) := by decide +kernel
theorem d5_init_90 : decode c5_init 90 = .ok (.sipush 768, 3) := by decide +kernel
theorem d5_init_93 : decode c5_init 93 = .ok (.newarray .long, 2) := by decide +kernel
theorem d5_init_95 : decode c5_init 95 = .ok (.putfield 42, 3) := by decide +kernel
theorem d5_init_98 : decode c5_init 98 = .ok (.aload_n 0, 1) := by decide +kernel
theorem d5_init_99 : decode c5_init 99 = .ok (.sipush 2400, 3) := by decide +kernel
theorem d5_init_102 : decode c5_init 102 = .ok (.newarray .int, 2) := by decide +kernel
theorem d5_init_104 : decode c5_init 104 = .ok (.putfield 45, 3) := by decide +kernel
theorem d5_init_107 : decode c5_init 107 = .ok (.aload_n 0, 1) := by decide +kernel
theorem d5_init_108 : decode c5_init 108 = .ok (.sipush 2400, 3) := by decide +kernel
theorem d5_init_111 : decode c5_init 111 = .ok (.newarray .int, 2) := by decide +kernel
theorem d5_init_113 : decode c5_init 113 = .ok (.putfield 48, 3) := by decide +kernel
theorem d5_init_116 : decode c5_init 116 = .ok (.aload_n 0, 1) := by decide +kernel
theorem d5_init_117 : decode c5_init 117 = .ok (.sipush 2400, 3) := by decide +kernel
theorem d5_init_120 : decode c5_init 120 = .ok (.newarray .int, 2) := by decide +kernel
theorem d5_init_122 : decode c5_init 122 = .ok (.putfield 51, 3) := by decide +kernel
theorem d5_init_125 : decode c5_init 125 = .ok (.aload_n 0, 1) := by decide +kernel
theorem d5_init_126 : decode c5_init 126 = .ok (.sipush 2400, 3) := by decide +kernel
theorem d5_init_129 : decode c5_init 129 = .ok (.newarray .long, 2) := by decide +kernel
theorem d5_init_131 : decode c5_init 131 = .ok (.putfield 54, 3) := by decide +kernel
theorem d5_init_134 : decode c5_init 134 = .ok (.aload_n 0, 1) := by decide +kernel
theorem d5_init_135 : decode c5_init 135 = .ok (.sipush 2400, 3) := by decide +kernel
theorem d5_init_138 : decode c5_init 138 = .ok (.newarray .long, 2) := by decide +kernel
theorem d5_init_140 : decode c5_init 140 = .ok (.putfield 57, 3) := by decide +kernel
theorem d5_init_143 : decode c5_init 143 = .ok (.aload_n 0, 1) := by decide +kernel
theorem d5_init_144 : decode c5_init 144 = .ok (.bipush 40, 2) := by decide +kernel
theorem d5_init_146 : decode c5_init 146 = .ok (.newarray .int, 2) := by decide +kernel
theorem d5_init_148 : decode c5_init 148 = .ok (.putfield 60, 3) := by decide +kernel
theorem d5_init_151 : decode c5_init 151 = .ok (.aload_n 0, 1) := by decide +kernel
theorem d5_init_152 : decode c5_init 152 = .ok (.bipush 40, 2) := by decide +kernel
theorem d5_init_154 : decode c5_init 154 = .ok (.newarray .int, 2) := by decide +kernel
theorem d5_init_156 : decode c5_init 156 = .ok (.putfield 63, 3) := by decide +kernel
theorem d5_init_159 : decode c5_init 159 = .ok (.aload_n 0, 1) := by decide +kernel
theorem d5_init_160 : decode c5_init 160 = .ok (.bipush 40, 2) := by decide +kernel
theorem d5_init_162 : decode c5_init 162 = .ok (.newarray .boolean, 2) := by decide +kernel
theorem d5_init_164 : decode c5_init 164 = .ok (.putfield 66, 3) := by decide +kernel
theorem d5_init_167 : decode c5_init 167 = .ok (.aload_n 0, 1) := by decide +kernel
theorem d5_init_168 : decode c5_init 168 = .ok (.bipush 40, 2) := by decide +kernel
theorem d5_init_170 : decode c5_init 170 = .ok (.newarray .long, 2) := by decide +kernel
theorem d5_init_172 : decode c5_init 172 = .ok (.putfield 69, 3) := by decide +kernel
theorem d5_init_175 : decode c5_init 175 = .ok (.aload_n 0, 1) := by decide +kernel
theorem d5_init_176 : decode c5_init 176 = .ok (.bipush 64, 2) := by decide +kernel
theorem d5_init_178 : decode c5_init 178 = .ok (.newarray .boolean, 2) := by decide +kernel
theorem d5_init_180 : decode c5_init 180 = .ok (.putfield 72, 3) := by decide +kernel
theorem d5_init_183 : decode c5_init 183 = .ok (.aload_n 0, 1) := by decide +kernel
theorem d5_init_184 : decode c5_init 184 = .ok (.bipush 64, 2) := by decide +kernel
theorem d5_init_186 : decode c5_init 186 = .ok (.newarray .long, 2) := by decide +kernel
theorem d5_init_188 : decode c5_init 188 = .ok (.putfield 75, 3) := by decide +kernel
theorem d5_init_191 : decode c5_init 191 = .ok (.aload_n 0, 1) := by decide +kernel
theorem d5_init_192 : decode c5_init 192 = .ok (.bipush 64, 2) := by decide +kernel
theorem d5_init_194 : decode c5_init 194 = .ok (.newarray .boolean, 2) := by decide +kernel
theorem d5_init_196 : decode c5_init 196 = .ok (.putfield 78, 3) := by decide +kernel
theorem d5_init_199 : decode c5_init 199 = .ok (.aload_n 0, 1) := by decide +kernel
theorem d5_init_200 : decode c5_init 200 = .ok (.bipush 64, 2) := by decide +kernel
theorem d5_init_202 : decode c5_init 202 = .ok (.newarray .long, 2) := by decide +kernel
theorem d5_init_204 : decode c5_init 204 = .ok (.putfield 81, 3) := by decide +kernel
theorem d5_init_207 : decode c5_init 207 = .ok (.aload_n 0, 1) := by decide +kernel
theorem d5_init_208 : decode c5_init 208 = .ok (.invokevirtual 84, 3) := by decide +kernel
theorem d5_init_211 : decode c5_init 211 = .ok (.return_, 1) := by decide +kernel
