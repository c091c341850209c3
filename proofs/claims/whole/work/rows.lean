section
-- ===== PART A: goes FIRST, ahead of the names: the tables' words, and 'selects' of the private methods out of them =====
/-- a private method of a class that the tables say can be made, by its rows of tables_1 -/
def lw_okq (q : MethodName × Nat) : Prop := (q.1.cls ≠ "java/lang/invoke/MethodHandle" ∧ q.1.cls ≠ "java/lang/invoke/VarHandle") ∧ Cond.instantiable q.1.cls q.2 ∈ tables_1 ∧ Cond.privateMethod q.1 ∈ tables_1 ∧ Cond.instanceMethod q.1 ∈ tables_1
theorem lw_p0 : lw_okq (⟨"ChangeRows", "make", "(IIIJJ)I"⟩, 10) := ⟨⟨by decide +kernel, by decide +kernel⟩, List.mem_of_getElem? (i := 12) (by decide +kernel), List.mem_of_getElem? (i := 196) (by decide +kernel), List.mem_of_getElem? (i := 197) (by decide +kernel)⟩
theorem lw_p1 : lw_okq (⟨"ChangeRows", "nextOf", "(I)LChangeRows$Rows;"⟩, 10) := ⟨⟨by decide +kernel, by decide +kernel⟩, List.mem_of_getElem? (i := 12) (by decide +kernel), List.mem_of_getElem? (i := 204) (by decide +kernel), List.mem_of_getElem? (i := 205) (by decide +kernel)⟩
theorem lw_p2 : lw_okq (⟨"ChangeRows", "isTable", "(I)Z"⟩, 10) := ⟨⟨by decide +kernel, by decide +kernel⟩, List.mem_of_getElem? (i := 12) (by decide +kernel), List.mem_of_getElem? (i := 208) (by decide +kernel), List.mem_of_getElem? (i := 209) (by decide +kernel)⟩
theorem lw_p3 : lw_okq (⟨"ChangeRows$Table", "deriveFilter", "(LChangeRows$Rows;)V"⟩, 10) := ⟨⟨by decide +kernel, by decide +kernel⟩, List.mem_of_getElem? (i := 96) (by decide +kernel), List.mem_of_getElem? (i := 220) (by decide +kernel), List.mem_of_getElem? (i := 221) (by decide +kernel)⟩
theorem lw_p4 : lw_okq (⟨"ChangeRows$Table", "deriveMap", "(LChangeRows$Rows;)V"⟩, 10) := ⟨⟨by decide +kernel, by decide +kernel⟩, List.mem_of_getElem? (i := 96) (by decide +kernel), List.mem_of_getElem? (i := 232) (by decide +kernel), List.mem_of_getElem? (i := 233) (by decide +kernel)⟩
theorem lw_p5 : lw_okq (⟨"ChangeRows$Table", "deriveFold", "(LChangeRows$Rows;)V"⟩, 10) := ⟨⟨by decide +kernel, by decide +kernel⟩, List.mem_of_getElem? (i := 96) (by decide +kernel), List.mem_of_getElem? (i := 236) (by decide +kernel), List.mem_of_getElem? (i := 237) (by decide +kernel)⟩
theorem lw_p6 : lw_okq (⟨"ChangeRows$Table", "folded", "(ZJIJ)J"⟩, 10) := ⟨⟨by decide +kernel, by decide +kernel⟩, List.mem_of_getElem? (i := 96) (by decide +kernel), List.mem_of_getElem? (i := 240) (by decide +kernel), List.mem_of_getElem? (i := 241) (by decide +kernel)⟩
theorem lw_p7 : lw_okq (⟨"ChangeRows$Table", "deriveJoin", "(LChangeRows$Rows;LChangeRows$Rows;)V"⟩, 10) := ⟨⟨by decide +kernel, by decide +kernel⟩, List.mem_of_getElem? (i := 96) (by decide +kernel), List.mem_of_getElem? (i := 250) (by decide +kernel), List.mem_of_getElem? (i := 251) (by decide +kernel)⟩
theorem lw_p8 : lw_okq (⟨"ChangeRows$Table", "deriveMerge", "(LChangeRows$Rows;LChangeRows$Rows;)V"⟩, 10) := ⟨⟨by decide +kernel, by decide +kernel⟩, List.mem_of_getElem? (i := 96) (by decide +kernel), List.mem_of_getElem? (i := 254) (by decide +kernel), List.mem_of_getElem? (i := 255) (by decide +kernel)⟩
theorem lw_p9 : lw_okq (⟨"ChangeRows$Table", "deriveBest", "(LChangeRows$Rows;)V"⟩, 10) := ⟨⟨by decide +kernel, by decide +kernel⟩, List.mem_of_getElem? (i := 96) (by decide +kernel), List.mem_of_getElem? (i := 258) (by decide +kernel), List.mem_of_getElem? (i := 259) (by decide +kernel)⟩
theorem lw_p10 : lw_okq (⟨"ChangeRows$Table", "insertKey", "(I[JI)V"⟩, 10) := ⟨⟨by decide +kernel, by decide +kernel⟩, List.mem_of_getElem? (i := 96) (by decide +kernel), List.mem_of_getElem? (i := 262) (by decide +kernel), List.mem_of_getElem? (i := 263) (by decide +kernel)⟩
theorem lw_p11 : lw_okq (⟨"ChangeRows$Table", "deriveLook", "(LChangeRows$Rows;LChangeRows$Rows;)V"⟩, 10) := ⟨⟨by decide +kernel, by decide +kernel⟩, List.mem_of_getElem? (i := 96) (by decide +kernel), List.mem_of_getElem? (i := 266) (by decide +kernel), List.mem_of_getElem? (i := 267) (by decide +kernel)⟩
theorem lw_p12 : lw_okq (⟨"ChangeRows", "isSource", "(I)Z"⟩, 10) := ⟨⟨by decide +kernel, by decide +kernel⟩, List.mem_of_getElem? (i := 12) (by decide +kernel), List.mem_of_getElem? (i := 310) (by decide +kernel), List.mem_of_getElem? (i := 311) (by decide +kernel)⟩
theorem lw_p13 : lw_okq (⟨"ChangeRows", "alter", "(IIZJ)I"⟩, 10) := ⟨⟨by decide +kernel, by decide +kernel⟩, List.mem_of_getElem? (i := 12) (by decide +kernel), List.mem_of_getElem? (i := 317) (by decide +kernel), List.mem_of_getElem? (i := 318) (by decide +kernel)⟩
theorem lw_p14 : lw_okq (⟨"ChangeRows", "settle", "()I"⟩, 10) := ⟨⟨by decide +kernel, by decide +kernel⟩, List.mem_of_getElem? (i := 12) (by decide +kernel), List.mem_of_getElem? (i := 331) (by decide +kernel), List.mem_of_getElem? (i := 332) (by decide +kernel)⟩
theorem lw_p15 : lw_okq (⟨"ChangeRows", "follow", "()I"⟩, 10) := ⟨⟨by decide +kernel, by decide +kernel⟩, List.mem_of_getElem? (i := 12) (by decide +kernel), List.mem_of_getElem? (i := 335) (by decide +kernel), List.mem_of_getElem? (i := 336) (by decide +kernel)⟩
def lw_privs_1 : List (MethodName × Nat) := [(⟨"ChangeRows", "make", "(IIIJJ)I"⟩, 10), (⟨"ChangeRows", "nextOf", "(I)LChangeRows$Rows;"⟩, 10), (⟨"ChangeRows", "isTable", "(I)Z"⟩, 10), (⟨"ChangeRows$Table", "deriveFilter", "(LChangeRows$Rows;)V"⟩, 10), (⟨"ChangeRows$Table", "deriveMap", "(LChangeRows$Rows;)V"⟩, 10), (⟨"ChangeRows$Table", "deriveFold", "(LChangeRows$Rows;)V"⟩, 10), (⟨"ChangeRows$Table", "folded", "(ZJIJ)J"⟩, 10), (⟨"ChangeRows$Table", "deriveJoin", "(LChangeRows$Rows;LChangeRows$Rows;)V"⟩, 10), (⟨"ChangeRows$Table", "deriveMerge", "(LChangeRows$Rows;LChangeRows$Rows;)V"⟩, 10), (⟨"ChangeRows$Table", "deriveBest", "(LChangeRows$Rows;)V"⟩, 10), (⟨"ChangeRows$Table", "insertKey", "(I[JI)V"⟩, 10), (⟨"ChangeRows$Table", "deriveLook", "(LChangeRows$Rows;LChangeRows$Rows;)V"⟩, 10), (⟨"ChangeRows", "isSource", "(I)Z"⟩, 10), (⟨"ChangeRows", "alter", "(IIZJ)I"⟩, 10), (⟨"ChangeRows", "settle", "()I"⟩, 10), (⟨"ChangeRows", "follow", "()I"⟩, 10)]
theorem lw_r1 : ∀ q ∈ lw_privs_1, lw_okq q := List.forall_mem_cons.mpr ⟨lw_p0, List.forall_mem_cons.mpr ⟨lw_p1, List.forall_mem_cons.mpr ⟨lw_p2, List.forall_mem_cons.mpr ⟨lw_p3, List.forall_mem_cons.mpr ⟨lw_p4, List.forall_mem_cons.mpr ⟨lw_p5, List.forall_mem_cons.mpr ⟨lw_p6, List.forall_mem_cons.mpr ⟨lw_p7, List.forall_mem_cons.mpr ⟨lw_p8, List.forall_mem_cons.mpr ⟨lw_p9, List.forall_mem_cons.mpr ⟨lw_p10, List.forall_mem_cons.mpr ⟨lw_p11, List.forall_mem_cons.mpr ⟨lw_p12, List.forall_mem_cons.mpr ⟨lw_p13, List.forall_mem_cons.mpr ⟨lw_p14, List.forall_mem_cons.mpr ⟨lw_p15, fun _ h => absurd h List.not_mem_nil⟩⟩⟩⟩⟩⟩⟩⟩⟩⟩⟩⟩⟩⟩⟩⟩
theorem lw_p16 : lw_okq (⟨"ChangeRows", "isMoved", "(I)Z"⟩, 10) := ⟨⟨by decide +kernel, by decide +kernel⟩, List.mem_of_getElem? (i := 12) (by decide +kernel), List.mem_of_getElem? (i := 339) (by decide +kernel), List.mem_of_getElem? (i := 340) (by decide +kernel)⟩
theorem lw_p17 : lw_okq (⟨"ChangeRows", "takeBack", "()V"⟩, 10) := ⟨⟨by decide +kernel, by decide +kernel⟩, List.mem_of_getElem? (i := 12) (by decide +kernel), List.mem_of_getElem? (i := 353) (by decide +kernel), List.mem_of_getElem? (i := 354) (by decide +kernel)⟩
theorem lw_p18 : lw_okq (⟨"ChangeRows", "tell", "()V"⟩, 10) := ⟨⟨by decide +kernel, by decide +kernel⟩, List.mem_of_getElem? (i := 12) (by decide +kernel), List.mem_of_getElem? (i := 357) (by decide +kernel), List.mem_of_getElem? (i := 358) (by decide +kernel)⟩
theorem lw_p19 : lw_okq (⟨"ChangeRows", "changesOf", "(I)LChangeRows$Changes;"⟩, 10) := ⟨⟨by decide +kernel, by decide +kernel⟩, List.mem_of_getElem? (i := 12) (by decide +kernel), List.mem_of_getElem? (i := 402) (by decide +kernel), List.mem_of_getElem? (i := 403) (by decide +kernel)⟩
theorem lw_p20 : lw_okq (⟨"ChangeRows", "rowsBehind", "(IILChangeRows$Rows;)V"⟩, 10) := ⟨⟨by decide +kernel, by decide +kernel⟩, List.mem_of_getElem? (i := 12) (by decide +kernel), List.mem_of_getElem? (i := 434) (by decide +kernel), List.mem_of_getElem? (i := 435) (by decide +kernel)⟩
theorem lw_p21 : lw_okq (⟨"ChangeRows", "brokenBy", "(IIJ)I"⟩, 10) := ⟨⟨by decide +kernel, by decide +kernel⟩, List.mem_of_getElem? (i := 12) (by decide +kernel), List.mem_of_getElem? (i := 451) (by decide +kernel), List.mem_of_getElem? (i := 452) (by decide +kernel)⟩
theorem lw_p22 : lw_okq (⟨"ChangeRows", "isTableOrCopy", "(I)Z"⟩, 10) := ⟨⟨by decide +kernel, by decide +kernel⟩, List.mem_of_getElem? (i := 12) (by decide +kernel), List.mem_of_getElem? (i := 464) (by decide +kernel), List.mem_of_getElem? (i := 465) (by decide +kernel)⟩
theorem lw_p23 : lw_okq (⟨"ChangeRows", "rowsOf", "(I)LChangeRows$Rows;"⟩, 10) := ⟨⟨by decide +kernel, by decide +kernel⟩, List.mem_of_getElem? (i := 12) (by decide +kernel), List.mem_of_getElem? (i := 468) (by decide +kernel), List.mem_of_getElem? (i := 469) (by decide +kernel)⟩
theorem lw_p24 : lw_okq (⟨"ChangeRowsModel", "begins", "()V"⟩, 30) := ⟨⟨by decide +kernel, by decide +kernel⟩, List.mem_of_getElem? (i := 484) (by decide +kernel), List.mem_of_getElem? (i := 490) (by decide +kernel), List.mem_of_getElem? (i := 491) (by decide +kernel)⟩
theorem lw_p25 : lw_okq (⟨"ChangeRowsModel", "add", "(IIIJJ)I"⟩, 30) := ⟨⟨by decide +kernel, by decide +kernel⟩, List.mem_of_getElem? (i := 484) (by decide +kernel), List.mem_of_getElem? (i := 593) (by decide +kernel), List.mem_of_getElem? (i := 594) (by decide +kernel)⟩
theorem lw_p26 : lw_okq (⟨"ChangeRowsModel", "clearRow", "(I)V"⟩, 30) := ⟨⟨by decide +kernel, by decide +kernel⟩, List.mem_of_getElem? (i := 484) (by decide +kernel), List.mem_of_getElem? (i := 597) (by decide +kernel), List.mem_of_getElem? (i := 598) (by decide +kernel)⟩
theorem lw_p27 : lw_okq (⟨"ChangeRowsModel", "work", "(I)V"⟩, 30) := ⟨⟨by decide +kernel, by decide +kernel⟩, List.mem_of_getElem? (i := 484) (by decide +kernel), List.mem_of_getElem? (i := 601) (by decide +kernel), List.mem_of_getElem? (i := 602) (by decide +kernel)⟩
theorem lw_p28 : lw_okq (⟨"ChangeRowsModel", "workFold", "(I)V"⟩, 30) := ⟨⟨by decide +kernel, by decide +kernel⟩, List.mem_of_getElem? (i := 484) (by decide +kernel), List.mem_of_getElem? (i := 605) (by decide +kernel), List.mem_of_getElem? (i := 606) (by decide +kernel)⟩
theorem lw_p29 : lw_okq (⟨"ChangeRowsModel", "setRow", "(IJ)V"⟩, 30) := ⟨⟨by decide +kernel, by decide +kernel⟩, List.mem_of_getElem? (i := 484) (by decide +kernel), List.mem_of_getElem? (i := 611) (by decide +kernel), List.mem_of_getElem? (i := 612) (by decide +kernel)⟩
theorem lw_p30 : lw_okq (⟨"ChangeRowsModel", "workRow", "(IIJIII)V"⟩, 30) := ⟨⟨by decide +kernel, by decide +kernel⟩, List.mem_of_getElem? (i := 484) (by decide +kernel), List.mem_of_getElem? (i := 615) (by decide +kernel), List.mem_of_getElem? (i := 616) (by decide +kernel)⟩
theorem lw_p31 : lw_okq (⟨"ChangeRowsModel", "isBest", "(IIJ)Z"⟩, 30) := ⟨⟨by decide +kernel, by decide +kernel⟩, List.mem_of_getElem? (i := 484) (by decide +kernel), List.mem_of_getElem? (i := 622) (by decide +kernel), List.mem_of_getElem? (i := 623) (by decide +kernel)⟩
def lw_privs_2 : List (MethodName × Nat) := [(⟨"ChangeRows", "isMoved", "(I)Z"⟩, 10), (⟨"ChangeRows", "takeBack", "()V"⟩, 10), (⟨"ChangeRows", "tell", "()V"⟩, 10), (⟨"ChangeRows", "changesOf", "(I)LChangeRows$Changes;"⟩, 10), (⟨"ChangeRows", "rowsBehind", "(IILChangeRows$Rows;)V"⟩, 10), (⟨"ChangeRows", "brokenBy", "(IIJ)I"⟩, 10), (⟨"ChangeRows", "isTableOrCopy", "(I)Z"⟩, 10), (⟨"ChangeRows", "rowsOf", "(I)LChangeRows$Rows;"⟩, 10), (⟨"ChangeRowsModel", "begins", "()V"⟩, 30), (⟨"ChangeRowsModel", "add", "(IIIJJ)I"⟩, 30), (⟨"ChangeRowsModel", "clearRow", "(I)V"⟩, 30), (⟨"ChangeRowsModel", "work", "(I)V"⟩, 30), (⟨"ChangeRowsModel", "workFold", "(I)V"⟩, 30), (⟨"ChangeRowsModel", "setRow", "(IJ)V"⟩, 30), (⟨"ChangeRowsModel", "workRow", "(IIJIII)V"⟩, 30), (⟨"ChangeRowsModel", "isBest", "(IIJ)Z"⟩, 30)]
theorem lw_r2 : ∀ q ∈ lw_privs_2, lw_okq q := List.forall_mem_cons.mpr ⟨lw_p16, List.forall_mem_cons.mpr ⟨lw_p17, List.forall_mem_cons.mpr ⟨lw_p18, List.forall_mem_cons.mpr ⟨lw_p19, List.forall_mem_cons.mpr ⟨lw_p20, List.forall_mem_cons.mpr ⟨lw_p21, List.forall_mem_cons.mpr ⟨lw_p22, List.forall_mem_cons.mpr ⟨lw_p23, List.forall_mem_cons.mpr ⟨lw_p24, List.forall_mem_cons.mpr ⟨lw_p25, List.forall_mem_cons.mpr ⟨lw_p26, List.forall_mem_cons.mpr ⟨lw_p27, List.forall_mem_cons.mpr ⟨lw_p28, List.forall_mem_cons.mpr ⟨lw_p29, List.forall_mem_cons.mpr ⟨lw_p30, List.forall_mem_cons.mpr ⟨lw_p31, fun _ h => absurd h List.not_mem_nil⟩⟩⟩⟩⟩⟩⟩⟩⟩⟩⟩⟩⟩⟩⟩⟩
theorem lw_p32 : lw_okq (⟨"ChangeRowsModel", "isTable", "(I)Z"⟩, 30) := ⟨⟨by decide +kernel, by decide +kernel⟩, List.mem_of_getElem? (i := 484) (by decide +kernel), List.mem_of_getElem? (i := 631) (by decide +kernel), List.mem_of_getElem? (i := 632) (by decide +kernel)⟩
theorem lw_p33 : lw_okq (⟨"ChangeRowsModel", "alter", "(IIZJ)I"⟩, 30) := ⟨⟨by decide +kernel, by decide +kernel⟩, List.mem_of_getElem? (i := 484) (by decide +kernel), List.mem_of_getElem? (i := 667) (by decide +kernel), List.mem_of_getElem? (i := 668) (by decide +kernel)⟩
theorem lw_p34 : lw_okq (⟨"ChangeRowsModel", "isSource", "(II)Z"⟩, 30) := ⟨⟨by decide +kernel, by decide +kernel⟩, List.mem_of_getElem? (i := 484) (by decide +kernel), List.mem_of_getElem? (i := 671) (by decide +kernel), List.mem_of_getElem? (i := 672) (by decide +kernel)⟩
theorem lw_p35 : lw_okq (⟨"ChangeRowsModel", "keepRows", "()V"⟩, 30) := ⟨⟨by decide +kernel, by decide +kernel⟩, List.mem_of_getElem? (i := 484) (by decide +kernel), List.mem_of_getElem? (i := 675) (by decide +kernel), List.mem_of_getElem? (i := 676) (by decide +kernel)⟩
theorem lw_p36 : lw_okq (⟨"ChangeRowsModel", "setOrClear", "(IZJ)V"⟩, 30) := ⟨⟨by decide +kernel, by decide +kernel⟩, List.mem_of_getElem? (i := 484) (by decide +kernel), List.mem_of_getElem? (i := 679) (by decide +kernel), List.mem_of_getElem? (i := 680) (by decide +kernel)⟩
theorem lw_p37 : lw_okq (⟨"ChangeRowsModel", "tell", "()I"⟩, 30) := ⟨⟨by decide +kernel, by decide +kernel⟩, List.mem_of_getElem? (i := 484) (by decide +kernel), List.mem_of_getElem? (i := 683) (by decide +kernel), List.mem_of_getElem? (i := 684) (by decide +kernel)⟩
theorem lw_p38 : lw_okq (⟨"ChangeRowsModel", "follow", "()I"⟩, 30) := ⟨⟨by decide +kernel, by decide +kernel⟩, List.mem_of_getElem? (i := 484) (by decide +kernel), List.mem_of_getElem? (i := 687) (by decide +kernel), List.mem_of_getElem? (i := 688) (by decide +kernel)⟩
theorem lw_p39 : lw_okq (⟨"ChangeRowsModel", "isOther", "(I)Z"⟩, 30) := ⟨⟨by decide +kernel, by decide +kernel⟩, List.mem_of_getElem? (i := 484) (by decide +kernel), List.mem_of_getElem? (i := 691) (by decide +kernel), List.mem_of_getElem? (i := 692) (by decide +kernel)⟩
theorem lw_p40 : lw_okq (⟨"ChangeRowsModel", "write", "(IIIIJJ)V"⟩, 30) := ⟨⟨by decide +kernel, by decide +kernel⟩, List.mem_of_getElem? (i := 484) (by decide +kernel), List.mem_of_getElem? (i := 698) (by decide +kernel), List.mem_of_getElem? (i := 699) (by decide +kernel)⟩
theorem lw_p41 : lw_okq (⟨"ChangeRowsModel", "placeOf", "(II)I"⟩, 30) := ⟨⟨by decide +kernel, by decide +kernel⟩, List.mem_of_getElem? (i := 484) (by decide +kernel), List.mem_of_getElem? (i := 726) (by decide +kernel), List.mem_of_getElem? (i := 727) (by decide +kernel)⟩
theorem lw_p42 : lw_okq (⟨"ChangeRowsModel", "goTo", "(II)V"⟩, 30) := ⟨⟨by decide +kernel, by decide +kernel⟩, List.mem_of_getElem? (i := 484) (by decide +kernel), List.mem_of_getElem? (i := 746) (by decide +kernel), List.mem_of_getElem? (i := 747) (by decide +kernel)⟩
def lw_privs_3 : List (MethodName × Nat) := [(⟨"ChangeRowsModel", "isTable", "(I)Z"⟩, 30), (⟨"ChangeRowsModel", "alter", "(IIZJ)I"⟩, 30), (⟨"ChangeRowsModel", "isSource", "(II)Z"⟩, 30), (⟨"ChangeRowsModel", "keepRows", "()V"⟩, 30), (⟨"ChangeRowsModel", "setOrClear", "(IZJ)V"⟩, 30), (⟨"ChangeRowsModel", "tell", "()I"⟩, 30), (⟨"ChangeRowsModel", "follow", "()I"⟩, 30), (⟨"ChangeRowsModel", "isOther", "(I)Z"⟩, 30), (⟨"ChangeRowsModel", "write", "(IIIIJJ)V"⟩, 30), (⟨"ChangeRowsModel", "placeOf", "(II)I"⟩, 30), (⟨"ChangeRowsModel", "goTo", "(II)V"⟩, 30)]
theorem lw_r3 : ∀ q ∈ lw_privs_3, lw_okq q := List.forall_mem_cons.mpr ⟨lw_p32, List.forall_mem_cons.mpr ⟨lw_p33, List.forall_mem_cons.mpr ⟨lw_p34, List.forall_mem_cons.mpr ⟨lw_p35, List.forall_mem_cons.mpr ⟨lw_p36, List.forall_mem_cons.mpr ⟨lw_p37, List.forall_mem_cons.mpr ⟨lw_p38, List.forall_mem_cons.mpr ⟨lw_p39, List.forall_mem_cons.mpr ⟨lw_p40, List.forall_mem_cons.mpr ⟨lw_p41, List.forall_mem_cons.mpr ⟨lw_p42, fun _ h => absurd h List.not_mem_nil⟩⟩⟩⟩⟩⟩⟩⟩⟩⟩⟩
def lw_privs : List (MethodName × Nat) := lw_privs_1 ++ (lw_privs_2 ++ (lw_privs_3))
def lw_tbl : List Cond := k2_sels lw_privs ++ tables_1
theorem lw_privs_ok : ∀ q ∈ lw_privs, lw_okq q := by
  show ∀ q ∈ lw_privs_1 ++ (lw_privs_2 ++ (lw_privs_3)), lw_okq q
  exact List.forall_mem_append.mpr ⟨lw_r1, List.forall_mem_append.mpr ⟨lw_r2, lw_r3⟩⟩
theorem xt0 {w : Cond} (h : w ∈ k2_sels lw_privs) : w ∈ lw_tbl := List.mem_append_left _ h
theorem xt1 {w : Cond} (h : w ∈ tables_1_1) : w ∈ lw_tbl := List.mem_append_right _ (List.mem_append_left _ h)
theorem xt2 {w : Cond} (h : w ∈ tables_1_2) : w ∈ lw_tbl := List.mem_append_right _ (List.mem_append_right _ (List.mem_append_left _ h))
theorem xt3 {w : Cond} (h : w ∈ tables_1_3) : w ∈ lw_tbl := List.mem_append_right _ (List.mem_append_right _ (List.mem_append_right _ (List.mem_append_left _ h)))
theorem xt4 {w : Cond} (h : w ∈ tables_1_4) : w ∈ lw_tbl := List.mem_append_right _ (List.mem_append_right _ (List.mem_append_right _ (List.mem_append_right _ h)))
end
section
def fT0 : u_T := fun k => match k with
  | 0 => ("ChangeRows", "tables", "[LChangeRows$Table;", true)
  | 1 => ("ChangeRows", "made", "I", false)
  | 2 => ("ChangeRows", "batch", "LChangeRows$Batch;", true)
  | 3 => ("ChangeRows", "log", "LChangeRows$Changes;", true)
  | 4 => ("ChangeRows", "lastTold", "LChangeRows$Changes;", true)
  | 5 => ("ChangeRows", "lastNet", "LChangeRows$Changes;", true)
  | 6 => ("ChangeRows", "kept", "LChangeRows$Rows;", true)
  | 7 => ("ChangeRows", "earlier", "LChangeRows$Rows;", true)
  | 8 => ("ChangeRows", "later", "LChangeRows$Rows;", true)
  | _ => ("ChangeRows", "nothing", "LChangeRows$Rows;", true)
def fY0 : Nat → FieldType := fun k => match k with
  | 0 => .array (.object "ChangeRows$Table")
  | 1 => .int
  | 2 => .object "ChangeRows$Batch"
  | 3 => .object "ChangeRows$Changes"
  | 4 => .object "ChangeRows$Changes"
  | 5 => .object "ChangeRows$Changes"
  | 6 => .object "ChangeRows$Rows"
  | 7 => .object "ChangeRows$Rows"
  | 8 => .object "ChangeRows$Rows"
  | _ => .object "ChangeRows$Rows"
def fT1 : u_T := fun k => match k with
  | 0 => ("ChangeRows$Batch", "isOpen", "Z", false)
  | 1 => ("ChangeRows$Batch", "size", "I", false)
  | 2 => ("ChangeRows$Batch", "table", "[I", true)
  | 3 => ("ChangeRows$Batch", "key", "[I", true)
  | 4 => ("ChangeRows$Batch", "stays", "[Z", true)
  | _ => ("ChangeRows$Batch", "value", "[J", true)
def fY1 : Nat → FieldType := fun k => match k with
  | 0 => .boolean
  | 1 => .int
  | 2 => .array .int
  | 3 => .array .int
  | 4 => .array .boolean
  | _ => .array .long
def fT2 : u_T := fun k => match k with
  | 0 => ("ChangeRows$Changes", "size", "I", false)
  | 1 => ("ChangeRows$Changes", "spot", "[I", true)
  | 2 => ("ChangeRows$Changes", "old", "[J", true)
  | _ => ("ChangeRows$Changes", "now", "[J", true)
def fY2 : Nat → FieldType := fun k => match k with
  | 0 => .int
  | 1 => .array .int
  | 2 => .array .long
  | _ => .array .long
def fT3 : u_T := fun k => match k with
  | 0 => ("ChangeRows$Rows", "present", "J", false)
  | _ => ("ChangeRows$Rows", "values", "[J", true)
def fY3 : Nat → FieldType := fun k => match k with
  | 0 => .long
  | _ => .array .long
def fT4 : u_T := fun k => match k with
  | 0 => ("ChangeRows$Table", "sort", "I", false)
  | 1 => ("ChangeRows$Table", "t", "I", false)
  | 2 => ("ChangeRows$Table", "u", "I", false)
  | 3 => ("ChangeRows$Table", "first", "J", false)
  | 4 => ("ChangeRows$Table", "second", "J", false)
  | 5 => ("ChangeRows$Table", "now", "LChangeRows$Rows;", true)
  | 6 => ("ChangeRows$Table", "next", "LChangeRows$Rows;", true)
  | 7 => ("ChangeRows$Table", "base", "LChangeRows$Rows;", true)
  | 8 => ("ChangeRows$Table", "order", "[I", true)
  | _ => ("ChangeRows$Table", "moved", "J", false)
def fY4 : Nat → FieldType := fun k => match k with
  | 0 => .int
  | 1 => .int
  | 2 => .int
  | 3 => .long
  | 4 => .long
  | 5 => .object "ChangeRows$Rows"
  | 6 => .object "ChangeRows$Rows"
  | 7 => .object "ChangeRows$Rows"
  | 8 => .array .int
  | _ => .long
def fT5 : u_T := fun k => match k with
  | 0 => ("ChangeRowsModel", "tables", "I", false)
  | 1 => ("ChangeRowsModel", "sort", "[I", true)
  | 2 => ("ChangeRowsModel", "one", "[I", true)
  | 3 => ("ChangeRowsModel", "two", "[I", true)
  | 4 => ("ChangeRowsModel", "low", "[J", true)
  | 5 => ("ChangeRowsModel", "high", "[J", true)
  | 6 => ("ChangeRowsModel", "has", "[Z", true)
  | 7 => ("ChangeRowsModel", "value", "[J", true)
  | 8 => ("ChangeRowsModel", "had", "[Z", true)
  | 9 => ("ChangeRowsModel", "was", "[J", true)
  | 10 => ("ChangeRowsModel", "baseHas", "[Z", true)
  | 11 => ("ChangeRowsModel", "baseValue", "[J", true)
  | 12 => ("ChangeRowsModel", "changeTable", "[I", true)
  | 13 => ("ChangeRowsModel", "changeSort", "[I", true)
  | 14 => ("ChangeRowsModel", "changeKey", "[I", true)
  | 15 => ("ChangeRowsModel", "changeOld", "[J", true)
  | 16 => ("ChangeRowsModel", "changeNow", "[J", true)
  | 17 => ("ChangeRowsModel", "logged", "I", false)
  | 18 => ("ChangeRowsModel", "told", "I", false)
  | 19 => ("ChangeRowsModel", "netted", "I", false)
  | 20 => ("ChangeRowsModel", "isBatch", "Z", false)
  | 21 => ("ChangeRowsModel", "gathered", "I", false)
  | 22 => ("ChangeRowsModel", "batchTable", "[I", true)
  | 23 => ("ChangeRowsModel", "batchKey", "[I", true)
  | 24 => ("ChangeRowsModel", "batchHas", "[Z", true)
  | 25 => ("ChangeRowsModel", "batchValue", "[J", true)
  | 26 => ("ChangeRowsModel", "copyHas", "[Z", true)
  | 27 => ("ChangeRowsModel", "copyValue", "[J", true)
  | 28 => ("ChangeRowsModel", "thenHas", "[Z", true)
  | _ => ("ChangeRowsModel", "thenValue", "[J", true)
def fY5 : Nat → FieldType := fun k => match k with
  | 0 => .int
  | 1 => .array .int
  | 2 => .array .int
  | 3 => .array .int
  | 4 => .array .long
  | 5 => .array .long
  | 6 => .array .boolean
  | 7 => .array .long
  | 8 => .array .boolean
  | 9 => .array .long
  | 10 => .array .boolean
  | 11 => .array .long
  | 12 => .array .int
  | 13 => .array .int
  | 14 => .array .int
  | 15 => .array .long
  | 16 => .array .long
  | 17 => .int
  | 18 => .int
  | 19 => .int
  | 20 => .boolean
  | 21 => .int
  | 22 => .array .int
  | 23 => .array .int
  | 24 => .array .boolean
  | 25 => .array .long
  | 26 => .array .boolean
  | 27 => .array .long
  | 28 => .array .boolean
  | _ => .array .long
abbrev vwCl : List vw_C := [("ChangeRows", fT0, 10), ("ChangeRows$Batch", fT1, 6), ("ChangeRows$Changes", fT2, 4), ("ChangeRows$Rows", fT3, 2), ("ChangeRows$Table", fT4, 10), ("ChangeRowsModel", fT5, 30)]
def xft : Nat → List FieldType := fun ci => match ci with
  | 0 => [.array (.object "ChangeRows$Table"), .int, .object "ChangeRows$Batch", .object "ChangeRows$Changes", .object "ChangeRows$Changes", .object "ChangeRows$Changes", .object "ChangeRows$Rows", .object "ChangeRows$Rows", .object "ChangeRows$Rows", .object "ChangeRows$Rows"]
  | 1 => [.boolean, .int, .array .int, .array .int, .array .boolean, .array .long]
  | 2 => [.int, .array .int, .array .long, .array .long]
  | 3 => [.long, .array .long]
  | 4 => [.int, .int, .int, .long, .long, .object "ChangeRows$Rows", .object "ChangeRows$Rows", .object "ChangeRows$Rows", .array .int, .long]
  | _ => [.int, .array .int, .array .int, .array .int, .array .long, .array .long, .array .boolean, .array .long, .array .boolean, .array .long, .array .boolean, .array .long, .array .int, .array .int, .array .int, .array .long, .array .long, .int, .int, .int, .boolean, .int, .array .int, .array .int, .array .boolean, .array .long, .array .boolean, .array .long, .array .boolean, .array .long]
def xtys (q : Nat → ClassId) : List (ClassId × FieldType) := [(q 0, .int), (q 1, .long), (q 2, .boolean), (q 3, .object "ChangeRows$Table")]
def xtyn : Nat := 4
theorem xtys_at (q : Nat → ClassId) {t : Nat} (h : t < xtyn) : ∃ f, (xtys q)[t]? = some (q t, f) := by
  match t, h with
  | 0, _ => exact ⟨_, rfl⟩
  | 1, _ => exact ⟨_, rfl⟩
  | 2, _ => exact ⟨_, rfl⟩
  | 3, _ => exact ⟨_, rfl⟩
  | t + 4, h => exact absurd h (by unfold xtyn; omega)
abbrev c0_init : ByteArray := prog_1_method_1_code
def y0_init : MethodName := ⟨"ChangeRows", "<init>", "()V"⟩
abbrev c0_clear : ByteArray := prog_1_method_2_code
def y0_clear : MethodName := ⟨"ChangeRows", "clear", "()I"⟩
abbrev c0_source : ByteArray := prog_1_method_3_code
def y0_source : MethodName := ⟨"ChangeRows", "source", "()I"⟩
abbrev c0_filter : ByteArray := prog_1_method_4_code
def y0_filter : MethodName := ⟨"ChangeRows", "filter", "(IJJ)I"⟩
abbrev c0_map : ByteArray := prog_1_method_5_code
def y0_map : MethodName := ⟨"ChangeRows", "map", "(III)I"⟩
abbrev c0_fold : ByteArray := prog_1_method_6_code
def y0_fold : MethodName := ⟨"ChangeRows", "fold", "(III)I"⟩
abbrev c0_join : ByteArray := prog_1_method_7_code
def y0_join : MethodName := ⟨"ChangeRows", "join", "(III)I"⟩
abbrev c0_merge : ByteArray := prog_1_method_8_code
def y0_merge : MethodName := ⟨"ChangeRows", "merge", "(II)I"⟩
abbrev c0_best : ByteArray := prog_1_method_9_code
def y0_best : MethodName := ⟨"ChangeRows", "best", "(II)I"⟩
abbrev c0_look : ByteArray := prog_1_method_10_code
def y0_look : MethodName := ⟨"ChangeRows", "look", "(II)I"⟩
abbrev c0_put : ByteArray := prog_1_method_11_code
def y0_put : MethodName := ⟨"ChangeRows", "put", "(IIJ)I"⟩
abbrev c0_remove : ByteArray := prog_1_method_12_code
def y0_remove : MethodName := ⟨"ChangeRows", "remove", "(II)I"⟩
abbrev c0_begin : ByteArray := prog_1_method_13_code
def y0_begin : MethodName := ⟨"ChangeRows", "begin", "()I"⟩
abbrev c0_end : ByteArray := prog_1_method_14_code
def y0_end : MethodName := ⟨"ChangeRows", "end", "()I"⟩
abbrev c0_drop : ByteArray := prog_1_method_15_code
def y0_drop : MethodName := ⟨"ChangeRows", "drop", "()I"⟩
abbrev c0_told : ByteArray := prog_1_method_16_code
def y0_told : MethodName := ⟨"ChangeRows", "told", "()I"⟩
abbrev c0_change : ByteArray := prog_1_method_17_code
def y0_change : MethodName := ⟨"ChangeRows", "change", "(III)I"⟩
abbrev c0_value : ByteArray := prog_1_method_18_code
def y0_value : MethodName := ⟨"ChangeRows", "value", "(III)J"⟩
abbrev c0_logged : ByteArray := prog_1_method_19_code
def y0_logged : MethodName := ⟨"ChangeRows", "logged", "()I"⟩
abbrev c0_forget : ByteArray := prog_1_method_20_code
def y0_forget : MethodName := ⟨"ChangeRows", "forget", "()I"⟩
abbrev c0_net : ByteArray := prog_1_method_21_code
def y0_net : MethodName := ⟨"ChangeRows", "net", "(III)I"⟩
abbrev c0_copy : ByteArray := prog_1_method_22_code
def y0_copy : MethodName := ⟨"ChangeRows", "copy", "(II)I"⟩
abbrev c0_take : ByteArray := prog_1_method_23_code
def y0_take : MethodName := ⟨"ChangeRows", "take", "(IIJJ)I"⟩
abbrev c0_same : ByteArray := prog_1_method_24_code
def y0_same : MethodName := ⟨"ChangeRows", "same", "(I)I"⟩
abbrev c0_has : ByteArray := prog_1_method_25_code
def y0_has : MethodName := ⟨"ChangeRows", "has", "(II)I"⟩
abbrev c0_at : ByteArray := prog_1_method_26_code
def y0_at : MethodName := ⟨"ChangeRows", "at", "(II)J"⟩
abbrev c0_of : ByteArray := prog_1_method_27_code
def y0_of : MethodName := ⟨"ChangeRows", "of", "(II)I"⟩
abbrev c0_count : ByteArray := prog_1_method_28_code
def y0_count : MethodName := ⟨"ChangeRows", "count", "(I)I"⟩
abbrev c0_isWithin : ByteArray := prog_1_method_29_code
def y0_isWithin : MethodName := ⟨"ChangeRows", "isWithin", "(III)Z"⟩
abbrev c0_isKey : ByteArray := prog_1_method_30_code
def y0_isKey : MethodName := ⟨"ChangeRows", "isKey", "(I)Z"⟩
abbrev c0_isTable : ByteArray := prog_1_method_31_code
def y0_isTable : MethodName := ⟨"ChangeRows", "isTable", "(I)Z"⟩
abbrev c0_isTableOrCopy : ByteArray := prog_1_method_32_code
def y0_isTableOrCopy : MethodName := ⟨"ChangeRows", "isTableOrCopy", "(I)Z"⟩
abbrev c0_isSource : ByteArray := prog_1_method_33_code
def y0_isSource : MethodName := ⟨"ChangeRows", "isSource", "(I)Z"⟩
abbrev c0_rowsOf : ByteArray := prog_1_method_34_code
def y0_rowsOf : MethodName := ⟨"ChangeRows", "rowsOf", "(I)LChangeRows$Rows;"⟩
abbrev c0_changesOf : ByteArray := prog_1_method_35_code
def y0_changesOf : MethodName := ⟨"ChangeRows", "changesOf", "(I)LChangeRows$Changes;"⟩
abbrev c0_make : ByteArray := prog_1_method_36_code
def y0_make : MethodName := ⟨"ChangeRows", "make", "(IIIJJ)I"⟩
abbrev c0_alter : ByteArray := prog_1_method_37_code
def y0_alter : MethodName := ⟨"ChangeRows", "alter", "(IIZJ)I"⟩
abbrev c0_settle : ByteArray := prog_1_method_38_code
def y0_settle : MethodName := ⟨"ChangeRows", "settle", "()I"⟩
abbrev c0_follow : ByteArray := prog_1_method_39_code
def y0_follow : MethodName := ⟨"ChangeRows", "follow", "()I"⟩
abbrev c0_isMoved : ByteArray := prog_1_method_40_code
def y0_isMoved : MethodName := ⟨"ChangeRows", "isMoved", "(I)Z"⟩
abbrev c0_nextOf : ByteArray := prog_1_method_41_code
def y0_nextOf : MethodName := ⟨"ChangeRows", "nextOf", "(I)LChangeRows$Rows;"⟩
abbrev c0_takeBack : ByteArray := prog_1_method_42_code
def y0_takeBack : MethodName := ⟨"ChangeRows", "takeBack", "()V"⟩
abbrev c0_tell : ByteArray := prog_1_method_43_code
def y0_tell : MethodName := ⟨"ChangeRows", "tell", "()V"⟩
abbrev c0_rowsBehind : ByteArray := prog_1_method_44_code
def y0_rowsBehind : MethodName := ⟨"ChangeRows", "rowsBehind", "(IILChangeRows$Rows;)V"⟩
abbrev c0_brokenBy : ByteArray := prog_1_method_45_code
def y0_brokenBy : MethodName := ⟨"ChangeRows", "brokenBy", "(IIJ)I"⟩
abbrev c5_init : ByteArray := prog_7_method_1_code
def y5_init : MethodName := ⟨"ChangeRowsModel", "<init>", "()V"⟩
abbrev c5_begins : ByteArray := prog_7_method_2_code
def y5_begins : MethodName := ⟨"ChangeRowsModel", "begins", "()V"⟩
abbrev c5_clear : ByteArray := prog_7_method_3_code
def y5_clear : MethodName := ⟨"ChangeRowsModel", "clear", "()I"⟩
abbrev c5_isIn : ByteArray := prog_7_method_4_code
def y5_isIn : MethodName := ⟨"ChangeRowsModel", "isIn", "(JJJ)Z"⟩
abbrev c5_isTable : ByteArray := prog_7_method_5_code
def y5_isTable : MethodName := ⟨"ChangeRowsModel", "isTable", "(I)Z"⟩
abbrev c5_clearRow : ByteArray := prog_7_method_6_code
def y5_clearRow : MethodName := ⟨"ChangeRowsModel", "clearRow", "(I)V"⟩
abbrev c5_setRow : ByteArray := prog_7_method_7_code
def y5_setRow : MethodName := ⟨"ChangeRowsModel", "setRow", "(IJ)V"⟩
abbrev c5_workFold : ByteArray := prog_7_method_8_code
def y5_workFold : MethodName := ⟨"ChangeRowsModel", "workFold", "(I)V"⟩
abbrev c5_isBest : ByteArray := prog_7_method_9_code
def y5_isBest : MethodName := ⟨"ChangeRowsModel", "isBest", "(IIJ)Z"⟩
abbrev c5_work : ByteArray := prog_7_method_10_code
def y5_work : MethodName := ⟨"ChangeRowsModel", "work", "(I)V"⟩
abbrev c5_workRow : ByteArray := prog_7_method_11_code
def y5_workRow : MethodName := ⟨"ChangeRowsModel", "workRow", "(IIJIII)V"⟩
abbrev c5_add : ByteArray := prog_7_method_12_code
def y5_add : MethodName := ⟨"ChangeRowsModel", "add", "(IIIJJ)I"⟩
abbrev c5_source : ByteArray := prog_7_method_13_code
def y5_source : MethodName := ⟨"ChangeRowsModel", "source", "()I"⟩
abbrev c5_filter : ByteArray := prog_7_method_14_code
def y5_filter : MethodName := ⟨"ChangeRowsModel", "filter", "(IJJ)I"⟩
abbrev c5_map : ByteArray := prog_7_method_15_code
def y5_map : MethodName := ⟨"ChangeRowsModel", "map", "(III)I"⟩
abbrev c5_fold : ByteArray := prog_7_method_16_code
def y5_fold : MethodName := ⟨"ChangeRowsModel", "fold", "(III)I"⟩
abbrev c5_join : ByteArray := prog_7_method_17_code
def y5_join : MethodName := ⟨"ChangeRowsModel", "join", "(III)I"⟩
abbrev c5_merge : ByteArray := prog_7_method_18_code
def y5_merge : MethodName := ⟨"ChangeRowsModel", "merge", "(II)I"⟩
abbrev c5_best : ByteArray := prog_7_method_19_code
def y5_best : MethodName := ⟨"ChangeRowsModel", "best", "(II)I"⟩
abbrev c5_look : ByteArray := prog_7_method_20_code
def y5_look : MethodName := ⟨"ChangeRowsModel", "look", "(II)I"⟩
abbrev c5_isSource : ByteArray := prog_7_method_21_code
def y5_isSource : MethodName := ⟨"ChangeRowsModel", "isSource", "(II)Z"⟩
abbrev c5_write : ByteArray := prog_7_method_22_code
def y5_write : MethodName := ⟨"ChangeRowsModel", "write", "(IIIIJJ)V"⟩
abbrev c5_sortOf : ByteArray := prog_7_method_23_code
def y5_sortOf : MethodName := ⟨"ChangeRowsModel", "sortOf", "(ZZ)I"⟩
abbrev c5_keepRows : ByteArray := prog_7_method_24_code
def y5_keepRows : MethodName := ⟨"ChangeRowsModel", "keepRows", "()V"⟩
abbrev c5_follow : ByteArray := prog_7_method_25_code
def y5_follow : MethodName := ⟨"ChangeRowsModel", "follow", "()I"⟩
abbrev c5_isOther : ByteArray := prog_7_method_26_code
def y5_isOther : MethodName := ⟨"ChangeRowsModel", "isOther", "(I)Z"⟩
abbrev c5_tell : ByteArray := prog_7_method_27_code
def y5_tell : MethodName := ⟨"ChangeRowsModel", "tell", "()I"⟩
abbrev c5_alter : ByteArray := prog_7_method_28_code
def y5_alter : MethodName := ⟨"ChangeRowsModel", "alter", "(IIZJ)I"⟩
abbrev c5_setOrClear : ByteArray := prog_7_method_29_code
def y5_setOrClear : MethodName := ⟨"ChangeRowsModel", "setOrClear", "(IZJ)V"⟩
abbrev c5_put : ByteArray := prog_7_method_30_code
def y5_put : MethodName := ⟨"ChangeRowsModel", "put", "(IIJ)I"⟩
abbrev c5_remove : ByteArray := prog_7_method_31_code
def y5_remove : MethodName := ⟨"ChangeRowsModel", "remove", "(II)I"⟩
abbrev c5_begin : ByteArray := prog_7_method_32_code
def y5_begin : MethodName := ⟨"ChangeRowsModel", "begin", "()I"⟩
abbrev c5_end : ByteArray := prog_7_method_33_code
def y5_end : MethodName := ⟨"ChangeRowsModel", "end", "()I"⟩
abbrev c5_drop : ByteArray := prog_7_method_34_code
def y5_drop : MethodName := ⟨"ChangeRowsModel", "drop", "()I"⟩
abbrev c5_told : ByteArray := prog_7_method_35_code
def y5_told : MethodName := ⟨"ChangeRowsModel", "told", "()I"⟩
abbrev c5_placeOf : ByteArray := prog_7_method_36_code
def y5_placeOf : MethodName := ⟨"ChangeRowsModel", "placeOf", "(II)I"⟩
abbrev c5_change : ByteArray := prog_7_method_37_code
def y5_change : MethodName := ⟨"ChangeRowsModel", "change", "(III)I"⟩
abbrev c5_value : ByteArray := prog_7_method_38_code
def y5_value : MethodName := ⟨"ChangeRowsModel", "value", "(III)J"⟩
abbrev c5_logged : ByteArray := prog_7_method_39_code
def y5_logged : MethodName := ⟨"ChangeRowsModel", "logged", "()I"⟩
abbrev c5_forget : ByteArray := prog_7_method_40_code
def y5_forget : MethodName := ⟨"ChangeRowsModel", "forget", "()I"⟩
abbrev c5_goTo : ByteArray := prog_7_method_41_code
def y5_goTo : MethodName := ⟨"ChangeRowsModel", "goTo", "(II)V"⟩
abbrev c5_net : ByteArray := prog_7_method_42_code
def y5_net : MethodName := ⟨"ChangeRowsModel", "net", "(III)I"⟩
abbrev c5_copy : ByteArray := prog_7_method_43_code
def y5_copy : MethodName := ⟨"ChangeRowsModel", "copy", "(II)I"⟩
abbrev c5_take : ByteArray := prog_7_method_44_code
def y5_take : MethodName := ⟨"ChangeRowsModel", "take", "(IIJJ)I"⟩
abbrev c5_same : ByteArray := prog_7_method_45_code
def y5_same : MethodName := ⟨"ChangeRowsModel", "same", "(I)I"⟩
abbrev c5_has : ByteArray := prog_7_method_46_code
def y5_has : MethodName := ⟨"ChangeRowsModel", "has", "(II)I"⟩
abbrev c5_at : ByteArray := prog_7_method_47_code
def y5_at : MethodName := ⟨"ChangeRowsModel", "at", "(II)J"⟩
abbrev c5_of : ByteArray := prog_7_method_48_code
def y5_of : MethodName := ⟨"ChangeRowsModel", "of", "(II)I"⟩
abbrev c5_count : ByteArray := prog_7_method_49_code
def y5_count : MethodName := ⟨"ChangeRowsModel", "count", "(I)I"⟩
abbrev c1_init : ByteArray := prog_2_method_1_code
def y1_init : MethodName := ⟨"ChangeRows$Batch", "<init>", "()V"⟩
abbrev c1_open : ByteArray := prog_2_method_2_code
def y1_open : MethodName := ⟨"ChangeRows$Batch", "open", "()V"⟩
abbrev c1_close : ByteArray := prog_2_method_3_code
def y1_close : MethodName := ⟨"ChangeRows$Batch", "close", "()V"⟩
abbrev c1_gather : ByteArray := prog_2_method_4_code
def y1_gather : MethodName := ⟨"ChangeRows$Batch", "gather", "(IIZJ)I"⟩
abbrev c2_init : ByteArray := prog_3_method_1_code
def y2_init : MethodName := ⟨"ChangeRows$Changes", "<init>", "(I)V"⟩
abbrev c2_reset : ByteArray := prog_3_method_2_code
def y2_reset : MethodName := ⟨"ChangeRows$Changes", "reset", "()V"⟩
abbrev c2_tableOf : ByteArray := prog_3_method_3_code
def y2_tableOf : MethodName := ⟨"ChangeRows$Changes", "tableOf", "(I)I"⟩
abbrev c2_sortOf : ByteArray := prog_3_method_4_code
def y2_sortOf : MethodName := ⟨"ChangeRows$Changes", "sortOf", "(I)I"⟩
abbrev c2_keyOf : ByteArray := prog_3_method_5_code
def y2_keyOf : MethodName := ⟨"ChangeRows$Changes", "keyOf", "(I)I"⟩
abbrev c2_addSteps : ByteArray := prog_3_method_6_code
def y2_addSteps : MethodName := ⟨"ChangeRows$Changes", "addSteps", "(ILChangeRows$Rows;LChangeRows$Rows;J)V"⟩
abbrev c2_addAll : ByteArray := prog_3_method_7_code
def y2_addAll : MethodName := ⟨"ChangeRows$Changes", "addAll", "(LChangeRows$Changes;)V"⟩
abbrev c3_init : ByteArray := prog_4_method_1_code
def y3_init : MethodName := ⟨"ChangeRows$Rows", "<init>", "()V"⟩
abbrev c3_holds : ByteArray := prog_4_method_2_code
def y3_holds : MethodName := ⟨"ChangeRows$Rows", "holds", "(I)Z"⟩
abbrev c3_size : ByteArray := prog_4_method_3_code
def y3_size : MethodName := ⟨"ChangeRows$Rows", "size", "()I"⟩
abbrev c3_reset : ByteArray := prog_4_method_4_code
def y3_reset : MethodName := ⟨"ChangeRows$Rows", "reset", "()V"⟩
abbrev c3_become : ByteArray := prog_4_method_5_code
def y3_become : MethodName := ⟨"ChangeRows$Rows", "become", "(LChangeRows$Rows;)V"⟩
abbrev c3_set : ByteArray := prog_4_method_6_code
def y3_set : MethodName := ⟨"ChangeRows$Rows", "set", "(IJ)V"⟩
abbrev c3_write : ByteArray := prog_4_method_7_code
def y3_write : MethodName := ⟨"ChangeRows$Rows", "write", "(IZJ)V"⟩
abbrev c3_differing : ByteArray := prog_4_method_8_code
def y3_differing : MethodName := ⟨"ChangeRows$Rows", "differing", "(LChangeRows$Rows;)J"⟩
abbrev c4_init : ByteArray := prog_5_method_1_code
def y4_init : MethodName := ⟨"ChangeRows$Table", "<init>", "()V"⟩
abbrev c4_define : ByteArray := prog_5_method_2_code
def y4_define : MethodName := ⟨"ChangeRows$Table", "define", "(IIIJJ)V"⟩
abbrev c4_derive : ByteArray := prog_5_method_3_code
def y4_derive : MethodName := ⟨"ChangeRows$Table", "derive", "(LChangeRows$Rows;LChangeRows$Rows;)V"⟩
abbrev c4_deriveFilter : ByteArray := prog_5_method_4_code
def y4_deriveFilter : MethodName := ⟨"ChangeRows$Table", "deriveFilter", "(LChangeRows$Rows;)V"⟩
abbrev c4_deriveMap : ByteArray := prog_5_method_5_code
def y4_deriveMap : MethodName := ⟨"ChangeRows$Table", "deriveMap", "(LChangeRows$Rows;)V"⟩
abbrev c4_deriveFold : ByteArray := prog_5_method_6_code
def y4_deriveFold : MethodName := ⟨"ChangeRows$Table", "deriveFold", "(LChangeRows$Rows;)V"⟩
abbrev c4_folded : ByteArray := prog_5_method_7_code
def y4_folded : MethodName := ⟨"ChangeRows$Table", "folded", "(ZJIJ)J"⟩
abbrev c4_deriveJoin : ByteArray := prog_5_method_8_code
def y4_deriveJoin : MethodName := ⟨"ChangeRows$Table", "deriveJoin", "(LChangeRows$Rows;LChangeRows$Rows;)V"⟩
abbrev c4_deriveMerge : ByteArray := prog_5_method_9_code
def y4_deriveMerge : MethodName := ⟨"ChangeRows$Table", "deriveMerge", "(LChangeRows$Rows;LChangeRows$Rows;)V"⟩
abbrev c4_deriveBest : ByteArray := prog_5_method_10_code
def y4_deriveBest : MethodName := ⟨"ChangeRows$Table", "deriveBest", "(LChangeRows$Rows;)V"⟩
abbrev c4_insertKey : ByteArray := prog_5_method_11_code
def y4_insertKey : MethodName := ⟨"ChangeRows$Table", "insertKey", "(I[JI)V"⟩
abbrev c4_deriveLook : ByteArray := prog_5_method_12_code
def y4_deriveLook : MethodName := ⟨"ChangeRows$Table", "deriveLook", "(LChangeRows$Rows;LChangeRows$Rows;)V"⟩
abbrev cL_bitCount : ByteArray := prog_8_method_50_code
def yL_bitCount : MethodName := ⟨"java/lang/Long", "bitCount", "(J)I"⟩
abbrev cM_max_II : ByteArray := prog_9_method_65_code
def yM_max_II : MethodName := ⟨"java/lang/Math", "max", "(II)I"⟩
abbrev cM_max_JJ : ByteArray := prog_9_method_66_code
def yM_max_JJ : MethodName := ⟨"java/lang/Math", "max", "(JJ)J"⟩
abbrev cM_min_II : ByteArray := prog_9_method_69_code
def yM_min_II : MethodName := ⟨"java/lang/Math", "min", "(II)I"⟩
abbrev cM_min_JJ : ByteArray := prog_9_method_70_code
def yM_min_JJ : MethodName := ⟨"java/lang/Math", "min", "(JJ)J"⟩
abbrev cA_fill : ByteArray := prog_11_method_101_code
def yA_fill : MethodName := ⟨"java/util/Arrays", "fill", "([JJ)V"⟩
end
section
/-! THE LAYER: my own judgement over the machine. xX: the machine around a body; a world is N cells from the address B on, each of a kind; ints, longs and references of all cells are three functions of (cell, place). -/
abbrev xX : Type := Program × Launch × Env × Room × State × MethodId × Array Value × List Frame × Method × Code
abbrev xG : Type := va_G × (Nat → ClassId)
abbrev x_l (X : xX) : Launch := X.2.1
abbrev x_R (X : xX) : Room := X.2.2.2.1
abbrev x_s (X : xX) : State := X.2.2.2.2.1
abbrev x_args (X : xX) : Array Value := X.2.2.2.2.2.2.1
abbrev x_below (X : xX) : List Frame := X.2.2.2.2.2.2.2.1
abbrev x_meth (X : xX) : Method := X.2.2.2.2.2.2.2.2.1
/-- a word of the tables that stays when classes are warmed -/
def xm (w : Cond) : Prop := w ∈ lw_tbl ∧ (w.onTables && w.keeps) = true
/-- a word that stays too, by a law of its own -/
def xsp : Cond → Bool
  | .arrayClass _ => true
  | .methodLinkNest .. => true
  | .fieldLinkNest .. => true
  | .arrayOver (.object _) => true
  | _ => false
def xT (U : State) : Prop := (∀ w, xm w → w.before #[] U = true) ∧ ∀ w ∈ lw_tbl, xsp w = true → w.before #[] U = true
theorem xT.m {U : State} (h : xT U) {w : Cond} (hw : xm w) {A : Array Value} : w.before A U = true := va_Nw.use (by have := hw.2; simp only [Bool.and_eq_true] at this; exact this.1) (h.1 w hw)
theorem xT.warm {s U : State} (h : xT s) (hW : s.WarmedH U.vm) : xT U := by
  refine ⟨fun w hw => word_at hW (Or.inl hw.2) (h.1 w hw), fun w hw hx => ?_⟩
  have h2 := h.2 w hw hx
  cases w with
  | arrayClass ty => exact word_at hW (Or.inr ⟨ty, rfl⟩) h2
  | methodLinkNest a i x y => exact va_Nw.warmM hW h2
  | fieldLinkNest a i b n d y => exact va_Nw.warmF hW h2
  | arrayOver t =>
    cases t with
    | object C => exact va_AO.moved hW.alike h2
    | _ => cases hx
  | _ => cases hx
def xK (g : xG) (U : State) : Prop := va_K g.1 vwCl (xtys g.2) U
theorem xK.warm {g : xG} {s U : State} (h : xK g s) (hW : s.WarmedH U.vm) : xK g U := va_K.moved hW.alike h
def xO (X : xX) (cc : ByteArray) (own : String) (nL B : Nat) (g : xG) : Prop :=
  X.1.tables.exec = Jvm.exec ∧ X.2.2.2.2.2.2.2.2.2.code = cc ∧ X.2.2.2.2.2.2.2.2.2.maxLocals = nL ∧ (x_s X).vm.findClass own = some X.2.2.2.2.2.1.cls ∧ (x_meth X).locks = false ∧ B ≤ (x_s X).heap.size ∧ xK g (x_s X) ∧ xT (x_s X)
def xV (X : xX) (B nL : Nat) (Z : State → Prop) (a b : Nat) (P : Heap → Prop) (pc : Nat) (L : List (Nat × Value)) (st : List Value) : Prop :=
  ∀ (H : Heap) (locs : List Loc) (ls : Array Slot), P H → va_S (fun q => B ≤ q) (x_s X).heap H locs → lv_has ls nL L →
    W X.1 X.2.1 X.2.2.1 X.2.2.2.1 X.2.2.2.2.1 X.2.2.2.2.2.1 X.2.2.2.2.2.2.1 X.2.2.2.2.2.2.2.1 X.2.2.2.2.2.2.2.2.1 X.2.2.2.2.2.2.2.2.2 H locs a b Z (F0 X.2.2.2.2.2.1 pc ls st)
theorem x_lm {L : List (Nat × Value)} {i : Nat} {v : Value} (h : L.lookup i = some v) : (i, v) ∈ L := by
  induction L with
  | nil => cases h
  | cons q t ih =>
    obtain ⟨j, w⟩ := q
    rw [List.lookup_cons] at h
    by_cases hj : i = j
    · subst hj
      simp at h
      subst h
      exact List.mem_cons_self
    · have : (i == j) = false := by simp [hj]
      rw [this] at h
      exact List.mem_cons_of_mem _ (ih h)
section XL
variable {X : xX} {cc : ByteArray} {own : String} {nL B a b : Nat} {g : xG} {Z : State → Prop} {P : Heap → Prop} {pc : Nat} {L : List (Nat × Value)} {st : List Value}
theorem x_lk {ls : Array Slot} {L : List (Nat × Value)} {nL i : Nat} {v : Value} (h : lv_has ls nL L) (hv : L.lookup i = some v) : ls[i]? = some (.val v) :=
  h.2.2 (i, v) (x_lm hv)
theorem x_iconst (hX : xO X cc own nL B g) {n : Int} {v : Int32} (hd : decode cc pc = .ok (.iconst n, 1)) (hv : Int32.ofInt n = v) (k : xV X B nL Z a b P (pc + 1) L (.int v :: st)) : xV X B nL Z a b P pc L (st) :=
  fun H locs ls hP hS hl => lv_iconst hX.1 hX.2.1 hd hv (k H locs ls hP hS hl)
theorem x_bipush (hX : xO X cc own nL B g) {n : Int} {v : Int32} (hd : decode cc pc = .ok (.bipush n, 2)) (hv : (Int8.ofInt n).toInt32 = v) (k : xV X B nL Z a b P (pc + 2) L (.int v :: st)) : xV X B nL Z a b P pc L (st) :=
  fun H locs ls hP hS hl => lv_bipush hX.1 hX.2.1 hd hv (k H locs ls hP hS hl)
theorem x_sipush (hX : xO X cc own nL B g) {n : Int} {v : Int32} (hd : decode cc pc = .ok (.sipush n, 3)) (hv : (Int16.ofInt n).toInt32 = v) (k : xV X B nL Z a b P (pc + 3) L (.int v :: st)) : xV X B nL Z a b P pc L (st) :=
  fun H locs ls hP hS hl => lv_sipush hX.1 hX.2.1 hd hv (k H locs ls hP hS hl)
theorem x_lconst (hX : xO X cc own nL B g) {n : Fin 2} {v : Int64} (hd : decode cc pc = .ok (.lconst n, 1)) (hv : Int64.ofNat (n : Nat) = v) (k : xV X B nL Z a b P (pc + 1) L (.long v :: st)) : xV X B nL Z a b P pc L (st) :=
  fun H locs ls hP hS hl => lv_lconst hX.1 hX.2.1 hd hv (k H locs ls hP hS hl)
theorem x_iadd (hX : xO X cc own nL B g) {x y : Int32} (hd : decode cc pc = .ok (.iadd, 1)) (k : xV X B nL Z a b P (pc + 1) L (.int (x + y) :: st)) : xV X B nL Z a b P pc L (.int y :: .int x :: st) :=
  fun H locs ls hP hS hl => lv_iadd hX.1 hX.2.1 hd (k H locs ls hP hS hl)
theorem x_isub (hX : xO X cc own nL B g) {x y : Int32} (hd : decode cc pc = .ok (.isub, 1)) (k : xV X B nL Z a b P (pc + 1) L (.int (x - y) :: st)) : xV X B nL Z a b P pc L (.int y :: .int x :: st) :=
  fun H locs ls hP hS hl => lv_isub hX.1 hX.2.1 hd (k H locs ls hP hS hl)
theorem x_imul (hX : xO X cc own nL B g) {x y : Int32} (hd : decode cc pc = .ok (.imul, 1)) (k : xV X B nL Z a b P (pc + 1) L (.int (x * y) :: st)) : xV X B nL Z a b P pc L (.int y :: .int x :: st) :=
  fun H locs ls hP hS hl => lv_imul hX.1 hX.2.1 hd (k H locs ls hP hS hl)
theorem x_iand (hX : xO X cc own nL B g) {x y : Int32} (hd : decode cc pc = .ok (.iand, 1)) (k : xV X B nL Z a b P (pc + 1) L (.int (x &&& y) :: st)) : xV X B nL Z a b P pc L (.int y :: .int x :: st) :=
  fun H locs ls hP hS hl => lv_iand hX.1 hX.2.1 hd (k H locs ls hP hS hl)
theorem x_ior (hX : xO X cc own nL B g) {x y : Int32} (hd : decode cc pc = .ok (.ior, 1)) (k : xV X B nL Z a b P (pc + 1) L (.int (x ||| y) :: st)) : xV X B nL Z a b P pc L (.int y :: .int x :: st) :=
  fun H locs ls hP hS hl => lv_ior hX.1 hX.2.1 hd (k H locs ls hP hS hl)
theorem x_ixor (hX : xO X cc own nL B g) {x y : Int32} (hd : decode cc pc = .ok (.ixor, 1)) (k : xV X B nL Z a b P (pc + 1) L (.int (x ^^^ y) :: st)) : xV X B nL Z a b P pc L (.int y :: .int x :: st) :=
  fun H locs ls hP hS hl => lv_ixor hX.1 hX.2.1 hd (k H locs ls hP hS hl)
theorem x_ishl (hX : xO X cc own nL B g) {x y : Int32} (hd : decode cc pc = .ok (.ishl, 1)) (k : xV X B nL Z a b P (pc + 1) L (.int (x <<< (y &&& 31)) :: st)) : xV X B nL Z a b P pc L (.int y :: .int x :: st) :=
  fun H locs ls hP hS hl => lv_ishl hX.1 hX.2.1 hd (k H locs ls hP hS hl)
theorem x_ishr (hX : xO X cc own nL B g) {x y : Int32} (hd : decode cc pc = .ok (.ishr, 1)) (k : xV X B nL Z a b P (pc + 1) L (.int (x >>> (y &&& 31)) :: st)) : xV X B nL Z a b P pc L (.int y :: .int x :: st) :=
  fun H locs ls hP hS hl => lv_ishr hX.1 hX.2.1 hd (k H locs ls hP hS hl)
theorem x_ladd (hX : xO X cc own nL B g) {x y : Int64} (hd : decode cc pc = .ok (.ladd, 1)) (k : xV X B nL Z a b P (pc + 1) L (.long (x + y) :: st)) : xV X B nL Z a b P pc L (.long y :: .long x :: st) :=
  fun H locs ls hP hS hl => lv_ladd hX.1 hX.2.1 hd (k H locs ls hP hS hl)
theorem x_lsub (hX : xO X cc own nL B g) {x y : Int64} (hd : decode cc pc = .ok (.lsub, 1)) (k : xV X B nL Z a b P (pc + 1) L (.long (x - y) :: st)) : xV X B nL Z a b P pc L (.long y :: .long x :: st) :=
  fun H locs ls hP hS hl => lv_lsub hX.1 hX.2.1 hd (k H locs ls hP hS hl)
theorem x_lmul (hX : xO X cc own nL B g) {x y : Int64} (hd : decode cc pc = .ok (.lmul, 1)) (k : xV X B nL Z a b P (pc + 1) L (.long (x * y) :: st)) : xV X B nL Z a b P pc L (.long y :: .long x :: st) :=
  fun H locs ls hP hS hl => lv_lmul hX.1 hX.2.1 hd (k H locs ls hP hS hl)
theorem x_land (hX : xO X cc own nL B g) {x y : Int64} (hd : decode cc pc = .ok (.land, 1)) (k : xV X B nL Z a b P (pc + 1) L (.long (x &&& y) :: st)) : xV X B nL Z a b P pc L (.long y :: .long x :: st) :=
  fun H locs ls hP hS hl => lv_land hX.1 hX.2.1 hd (k H locs ls hP hS hl)
theorem x_lor (hX : xO X cc own nL B g) {x y : Int64} (hd : decode cc pc = .ok (.lor, 1)) (k : xV X B nL Z a b P (pc + 1) L (.long (x ||| y) :: st)) : xV X B nL Z a b P pc L (.long y :: .long x :: st) :=
  fun H locs ls hP hS hl => lv_lor hX.1 hX.2.1 hd (k H locs ls hP hS hl)
theorem x_lxor (hX : xO X cc own nL B g) {x y : Int64} (hd : decode cc pc = .ok (.lxor, 1)) (k : xV X B nL Z a b P (pc + 1) L (.long (x ^^^ y) :: st)) : xV X B nL Z a b P pc L (.long y :: .long x :: st) :=
  fun H locs ls hP hS hl => lv_lxor hX.1 hX.2.1 hd (k H locs ls hP hS hl)
theorem x_idiv (hX : xO X cc own nL B g) {x y : Int32} (hd : decode cc pc = .ok (.idiv, 1)) (hne : ¬ y = 0) (k : xV X B nL Z a b P (pc + 1) L (.int (x / y) :: st)) : xV X B nL Z a b P pc L (.int y :: .int x :: st) :=
  fun H locs ls hP hS hl => lv_idiv hX.1 hX.2.1 hd hne (k H locs ls hP hS hl)
theorem x_irem (hX : xO X cc own nL B g) {x y : Int32} (hd : decode cc pc = .ok (.irem, 1)) (hne : ¬ y = 0) (k : xV X B nL Z a b P (pc + 1) L (.int (x - x / y * y) :: st)) : xV X B nL Z a b P pc L (.int y :: .int x :: st) :=
  fun H locs ls hP hS hl => lv_irem hX.1 hX.2.1 hd hne (k H locs ls hP hS hl)
theorem x_ldiv (hX : xO X cc own nL B g) {x y : Int64} (hd : decode cc pc = .ok (.ldiv, 1)) (hne : ¬ y = 0) (k : xV X B nL Z a b P (pc + 1) L (.long (x / y) :: st)) : xV X B nL Z a b P pc L (.long y :: .long x :: st) :=
  fun H locs ls hP hS hl => lv_ldiv hX.1 hX.2.1 hd hne (k H locs ls hP hS hl)
theorem x_lrem (hX : xO X cc own nL B g) {x y : Int64} (hd : decode cc pc = .ok (.lrem, 1)) (hne : ¬ y = 0) (k : xV X B nL Z a b P (pc + 1) L (.long (x - x / y * y) :: st)) : xV X B nL Z a b P pc L (.long y :: .long x :: st) :=
  fun H locs ls hP hS hl => lv_lrem hX.1 hX.2.1 hd hne (k H locs ls hP hS hl)
theorem x_ineg (hX : xO X cc own nL B g) {x : Int32} (hd : decode cc pc = .ok (.ineg, 1)) (k : xV X B nL Z a b P (pc + 1) L (.int (-x) :: st)) : xV X B nL Z a b P pc L (.int x :: st) :=
  fun H locs ls hP hS hl => lv_ineg hX.1 hX.2.1 hd (k H locs ls hP hS hl)
theorem x_lneg (hX : xO X cc own nL B g) {x : Int64} (hd : decode cc pc = .ok (.lneg, 1)) (k : xV X B nL Z a b P (pc + 1) L (.long (-x) :: st)) : xV X B nL Z a b P pc L (.long x :: st) :=
  fun H locs ls hP hS hl => lv_lneg hX.1 hX.2.1 hd (k H locs ls hP hS hl)
theorem x_i2l (hX : xO X cc own nL B g) {x : Int32} (hd : decode cc pc = .ok (.i2l, 1)) (k : xV X B nL Z a b P (pc + 1) L (.long x.toInt64 :: st)) : xV X B nL Z a b P pc L (.int x :: st) :=
  fun H locs ls hP hS hl => lv_i2l hX.1 hX.2.1 hd rfl (k H locs ls hP hS hl)
theorem x_l2i (hX : xO X cc own nL B g) {x : Int64} (hd : decode cc pc = .ok (.l2i, 1)) (k : xV X B nL Z a b P (pc + 1) L (.int x.toInt32 :: st)) : xV X B nL Z a b P pc L (.long x :: st) :=
  fun H locs ls hP hS hl => lv_l2i hX.1 hX.2.1 hd rfl (k H locs ls hP hS hl)
theorem x_i2b (hX : xO X cc own nL B g) {x : Int32} (hd : decode cc pc = .ok (.i2b, 1)) (k : xV X B nL Z a b P (pc + 1) L (.int x.toInt8.toInt32 :: st)) : xV X B nL Z a b P pc L (.int x :: st) :=
  fun H locs ls hP hS hl => lv_i2b hX.1 hX.2.1 hd rfl (k H locs ls hP hS hl)
theorem x_i2c (hX : xO X cc own nL B g) {x : Int32} (hd : decode cc pc = .ok (.i2c, 1)) (k : xV X B nL Z a b P (pc + 1) L (.int (x.toUInt32 % 65536).toInt32 :: st)) : xV X B nL Z a b P pc L (.int x :: st) :=
  fun H locs ls hP hS hl => lv_i2c hX.1 hX.2.1 hd rfl (k H locs ls hP hS hl)
theorem x_iushr (hX : xO X cc own nL B g) {x y : Int32} (hd : decode cc pc = .ok (.iushr, 1)) (k : xV X B nL Z a b P (pc + 1) L (.int (x.toUInt32 >>> (y.toUInt32 &&& Int32.toUInt32 31)).toInt32 :: st)) : xV X B nL Z a b P pc L (.int y :: .int x :: st) :=
  fun H locs ls hP hS hl => lv_iushr hX.1 hX.2.1 hd rfl (k H locs ls hP hS hl)
theorem x_lushr (hX : xO X cc own nL B g) {x : Int64} {y : Int32} (hd : decode cc pc = .ok (.lushr, 1)) (k : xV X B nL Z a b P (pc + 1) L (.long (x.toUInt64 >>> (y.toInt64.toUInt64 &&& Int64.toUInt64 63)).toInt64 :: st)) : xV X B nL Z a b P pc L (.int y :: .long x :: st) :=
  fun H locs ls hP hS hl => lv_lushr hX.1 hX.2.1 hd rfl (k H locs ls hP hS hl)
theorem x_lshl (hX : xO X cc own nL B g) {x : Int64} {y : Int32} (hd : decode cc pc = .ok (.lshl, 1)) (k : xV X B nL Z a b P (pc + 1) L (.long (x <<< (y.toInt64 &&& 63)) :: st)) : xV X B nL Z a b P pc L (.int y :: .long x :: st) :=
  fun H locs ls hP hS hl => lv_lshl hX.1 hX.2.1 hd rfl (k H locs ls hP hS hl)
theorem x_lshr (hX : xO X cc own nL B g) {x : Int64} {y : Int32} (hd : decode cc pc = .ok (.lshr, 1)) (k : xV X B nL Z a b P (pc + 1) L (.long (x >>> (y.toInt64 &&& 63)) :: st)) : xV X B nL Z a b P pc L (.int y :: .long x :: st) :=
  fun H locs ls hP hS hl => lv_lshr hX.1 hX.2.1 hd rfl (k H locs ls hP hS hl)
theorem x_lcmp (hX : xO X cc own nL B g) {x y : Int64} (hd : decode cc pc = .ok (.lcmp, 1)) (k : xV X B nL Z a b P (pc + 1) L (.int (lg_cmp x y) :: st)) : xV X B nL Z a b P pc L (.long y :: .long x :: st) :=
  fun H locs ls hP hS hl => W.lcmp hX.1 hX.2.1 hd (k H locs ls hP hS hl)
theorem x_dup (hX : xO X cc own nL B g) {va : Value} (hd : decode cc pc = .ok (.dup, 1)) (hva : va.category = 1) (k : xV X B nL Z a b P (pc + 1) L (va :: va :: st)) : xV X B nL Z a b P pc L (va :: st) :=
  fun H locs ls hP hS hl => lv_dup hX.1 hX.2.1 hd hva (k H locs ls hP hS hl)
theorem x_pop (hX : xO X cc own nL B g) {va : Value} (hd : decode cc pc = .ok (.pop, 1)) (hva : va.category = 1) (k : xV X B nL Z a b P (pc + 1) L (st)) : xV X B nL Z a b P pc L (va :: st) :=
  fun H locs ls hP hS hl => lv_pop hX.1 hX.2.1 hd hva (k H locs ls hP hS hl)
theorem x_dup_x1 (hX : xO X cc own nL B g) {va vb : Value} (hd : decode cc pc = .ok (.dup_x1, 1)) (hva : va.category = 1) (hvb : vb.category = 1) (k : xV X B nL Z a b P (pc + 1) L (va :: vb :: va :: st)) : xV X B nL Z a b P pc L (va :: vb :: st) :=
  fun H locs ls hP hS hl => lv_dup_x1 hX.1 hX.2.1 hd hva hvb (k H locs ls hP hS hl)
theorem x_dup_x2 (hX : xO X cc own nL B g) {va vb vd : Value} (hd : decode cc pc = .ok (.dup_x2, 1)) (hva : va.category = 1) (hvb : vb.category = 1) (hvd : vd.category = 1) (k : xV X B nL Z a b P (pc + 1) L (va :: vb :: vd :: va :: st)) : xV X B nL Z a b P pc L (va :: vb :: vd :: st) :=
  fun H locs ls hP hS hl => lv_dup_x2 hX.1 hX.2.1 hd hva hvb hvd (k H locs ls hP hS hl)
theorem x_dup2_11 (hX : xO X cc own nL B g) {va vb : Value} (hd : decode cc pc = .ok (.dup2, 1)) (hva : va.category = 1) (hvb : vb.category = 1) (k : xV X B nL Z a b P (pc + 1) L (va :: vb :: va :: vb :: st)) : xV X B nL Z a b P pc L (va :: vb :: st) :=
  fun H locs ls hP hS hl => lv_dup2_11 hX.1 hX.2.1 hd hva hvb (k H locs ls hP hS hl)
theorem x_dup2_2 (hX : xO X cc own nL B g) {va : Value} (hd : decode cc pc = .ok (.dup2, 1)) (hva : va.category = 2) (k : xV X B nL Z a b P (pc + 1) L (va :: va :: st)) : xV X B nL Z a b P pc L (va :: st) :=
  fun H locs ls hP hS hl => lv_dup2_2 hX.1 hX.2.1 hd hva (k H locs ls hP hS hl)
theorem x_pop2_2 (hX : xO X cc own nL B g) {va : Value} (hd : decode cc pc = .ok (.pop2, 1)) (hva : va.category = 2) (k : xV X B nL Z a b P (pc + 1) L (st)) : xV X B nL Z a b P pc L (va :: st) :=
  fun H locs ls hP hS hl => lv_pop2_2 hX.1 hX.2.1 hd hva (k H locs ls hP hS hl)
theorem x_pop2_11 (hX : xO X cc own nL B g) {va vb : Value} (hd : decode cc pc = .ok (.pop2, 1)) (hva : va.category = 1) (hvb : vb.category = 1) (k : xV X B nL Z a b P (pc + 1) L (st)) : xV X B nL Z a b P pc L (va :: vb :: st) :=
  fun H locs ls hP hS hl => lv_pop2_11 hX.1 hX.2.1 hd hva hvb (k H locs ls hP hS hl)
theorem x_dup2_x1_2 (hX : xO X cc own nL B g) {va vb : Value} (hd : decode cc pc = .ok (.dup2_x1, 1)) (hva : va.category = 2) (hvb : vb.category = 1) (k : xV X B nL Z a b P (pc + 1) L (va :: vb :: va :: st)) : xV X B nL Z a b P pc L (va :: vb :: st) :=
  fun H locs ls hP hS hl => lv_dup2_x1_2 hX.1 hX.2.1 hd hva hvb (k H locs ls hP hS hl)
theorem x_dup2_x2_2 (hX : xO X cc own nL B g) {va vb vd : Value} (hd : decode cc pc = .ok (.dup2_x2, 1)) (hva : va.category = 2) (hvb : vb.category = 1) (hvd : vd.category = 1) (k : xV X B nL Z a b P (pc + 1) L (va :: vb :: vd :: va :: st)) : xV X B nL Z a b P pc L (va :: vb :: vd :: st) :=
  fun H locs ls hP hS hl => lv_dup2_x2_2 hX.1 hX.2.1 hd hva hvb hvd (k H locs ls hP hS hl)
theorem x_if_eq (hX : xO X cc own nL B g) {x : Int32} {off : Int} {tgt : Nat} (hd : decode cc pc = .ok (.ifCond .eq off, 3)) (ht : (pc : Int) + off = (tgt : Int)) (kt : x = 0 → xV X B nL Z a b P tgt L (st)) (kf : ¬ x = 0 → xV X B nL Z a b P (pc + 3) L (st)) : xV X B nL Z a b P pc L (.int x :: st) :=
  fun H locs ls hP hS hl => lv_if_eq hX.1 hX.2.1 hd ht (fun q => kt q H locs ls hP hS hl) (fun q => kf q H locs ls hP hS hl)
theorem x_if_ne (hX : xO X cc own nL B g) {x : Int32} {off : Int} {tgt : Nat} (hd : decode cc pc = .ok (.ifCond .ne off, 3)) (ht : (pc : Int) + off = (tgt : Int)) (kt : ¬ x = 0 → xV X B nL Z a b P tgt L (st)) (kf : x = 0 → xV X B nL Z a b P (pc + 3) L (st)) : xV X B nL Z a b P pc L (.int x :: st) :=
  fun H locs ls hP hS hl => lv_if_ne hX.1 hX.2.1 hd ht (fun q => kt q H locs ls hP hS hl) (fun q => kf q H locs ls hP hS hl)
theorem x_if_lt (hX : xO X cc own nL B g) {x : Int32} {off : Int} {tgt : Nat} (hd : decode cc pc = .ok (.ifCond .lt off, 3)) (ht : (pc : Int) + off = (tgt : Int)) (kt : x < 0 → xV X B nL Z a b P tgt L (st)) (kf : ¬ x < 0 → xV X B nL Z a b P (pc + 3) L (st)) : xV X B nL Z a b P pc L (.int x :: st) :=
  fun H locs ls hP hS hl => lv_if_lt hX.1 hX.2.1 hd ht (fun q => kt q H locs ls hP hS hl) (fun q => kf q H locs ls hP hS hl)
theorem x_if_ge (hX : xO X cc own nL B g) {x : Int32} {off : Int} {tgt : Nat} (hd : decode cc pc = .ok (.ifCond .ge off, 3)) (ht : (pc : Int) + off = (tgt : Int)) (kt : 0 ≤ x → xV X B nL Z a b P tgt L (st)) (kf : ¬ 0 ≤ x → xV X B nL Z a b P (pc + 3) L (st)) : xV X B nL Z a b P pc L (.int x :: st) :=
  fun H locs ls hP hS hl => lv_if_ge hX.1 hX.2.1 hd ht (fun q => kt q H locs ls hP hS hl) (fun q => kf q H locs ls hP hS hl)
theorem x_if_gt (hX : xO X cc own nL B g) {x : Int32} {off : Int} {tgt : Nat} (hd : decode cc pc = .ok (.ifCond .gt off, 3)) (ht : (pc : Int) + off = (tgt : Int)) (kt : 0 < x → xV X B nL Z a b P tgt L (st)) (kf : ¬ 0 < x → xV X B nL Z a b P (pc + 3) L (st)) : xV X B nL Z a b P pc L (.int x :: st) :=
  fun H locs ls hP hS hl => lv_if_gt hX.1 hX.2.1 hd ht (fun q => kt q H locs ls hP hS hl) (fun q => kf q H locs ls hP hS hl)
theorem x_if_le (hX : xO X cc own nL B g) {x : Int32} {off : Int} {tgt : Nat} (hd : decode cc pc = .ok (.ifCond .le off, 3)) (ht : (pc : Int) + off = (tgt : Int)) (kt : x ≤ 0 → xV X B nL Z a b P tgt L (st)) (kf : ¬ x ≤ 0 → xV X B nL Z a b P (pc + 3) L (st)) : xV X B nL Z a b P pc L (.int x :: st) :=
  fun H locs ls hP hS hl => lv_if_le hX.1 hX.2.1 hd ht (fun q => kt q H locs ls hP hS hl) (fun q => kf q H locs ls hP hS hl)
theorem x_icmp_eq (hX : xO X cc own nL B g) {x y : Int32} {off : Int} {tgt : Nat} (hd : decode cc pc = .ok (.if_icmp .eq off, 3)) (ht : (pc : Int) + off = (tgt : Int)) (kt : x = y → xV X B nL Z a b P tgt L (st)) (kf : ¬ x = y → xV X B nL Z a b P (pc + 3) L (st)) : xV X B nL Z a b P pc L (.int y :: .int x :: st) :=
  fun H locs ls hP hS hl => lv_icmp_eq hX.1 hX.2.1 hd ht (fun q => kt q H locs ls hP hS hl) (fun q => kf q H locs ls hP hS hl)
theorem x_icmp_ne (hX : xO X cc own nL B g) {x y : Int32} {off : Int} {tgt : Nat} (hd : decode cc pc = .ok (.if_icmp .ne off, 3)) (ht : (pc : Int) + off = (tgt : Int)) (kt : ¬ x = y → xV X B nL Z a b P tgt L (st)) (kf : x = y → xV X B nL Z a b P (pc + 3) L (st)) : xV X B nL Z a b P pc L (.int y :: .int x :: st) :=
  fun H locs ls hP hS hl => lv_icmp_ne hX.1 hX.2.1 hd ht (fun q => kt q H locs ls hP hS hl) (fun q => kf q H locs ls hP hS hl)
theorem x_icmp_lt (hX : xO X cc own nL B g) {x y : Int32} {off : Int} {tgt : Nat} (hd : decode cc pc = .ok (.if_icmp .lt off, 3)) (ht : (pc : Int) + off = (tgt : Int)) (kt : x < y → xV X B nL Z a b P tgt L (st)) (kf : ¬ x < y → xV X B nL Z a b P (pc + 3) L (st)) : xV X B nL Z a b P pc L (.int y :: .int x :: st) :=
  fun H locs ls hP hS hl => lv_icmp_lt hX.1 hX.2.1 hd ht (fun q => kt q H locs ls hP hS hl) (fun q => kf q H locs ls hP hS hl)
theorem x_icmp_ge (hX : xO X cc own nL B g) {x y : Int32} {off : Int} {tgt : Nat} (hd : decode cc pc = .ok (.if_icmp .ge off, 3)) (ht : (pc : Int) + off = (tgt : Int)) (kt : y ≤ x → xV X B nL Z a b P tgt L (st)) (kf : ¬ y ≤ x → xV X B nL Z a b P (pc + 3) L (st)) : xV X B nL Z a b P pc L (.int y :: .int x :: st) :=
  fun H locs ls hP hS hl => lv_icmp_ge hX.1 hX.2.1 hd ht (fun q => kt q H locs ls hP hS hl) (fun q => kf q H locs ls hP hS hl)
theorem x_icmp_gt (hX : xO X cc own nL B g) {x y : Int32} {off : Int} {tgt : Nat} (hd : decode cc pc = .ok (.if_icmp .gt off, 3)) (ht : (pc : Int) + off = (tgt : Int)) (kt : y < x → xV X B nL Z a b P tgt L (st)) (kf : ¬ y < x → xV X B nL Z a b P (pc + 3) L (st)) : xV X B nL Z a b P pc L (.int y :: .int x :: st) :=
  fun H locs ls hP hS hl => lv_icmp_gt hX.1 hX.2.1 hd ht (fun q => kt q H locs ls hP hS hl) (fun q => kf q H locs ls hP hS hl)
theorem x_icmp_le (hX : xO X cc own nL B g) {x y : Int32} {off : Int} {tgt : Nat} (hd : decode cc pc = .ok (.if_icmp .le off, 3)) (ht : (pc : Int) + off = (tgt : Int)) (kt : x ≤ y → xV X B nL Z a b P tgt L (st)) (kf : ¬ x ≤ y → xV X B nL Z a b P (pc + 3) L (st)) : xV X B nL Z a b P pc L (.int y :: .int x :: st) :=
  fun H locs ls hP hS hl => lv_icmp_le hX.1 hX.2.1 hd ht (fun q => kt q H locs ls hP hS hl) (fun q => kf q H locs ls hP hS hl)
theorem x_goto (hX : xO X cc own nL B g) {off : Int} {tgt : Nat} (hd : decode cc pc = .ok (.goto off, 3)) (ht : (pc : Int) + off = (tgt : Int)) (k : xV X B nL Z a b P tgt L (st)) : xV X B nL Z a b P pc L (st) :=
  fun H locs ls hP hS hl => lv_goto hX.1 hX.2.1 hd ht (k H locs ls hP hS hl)
theorem x_null (hX : xO X cc own nL B g) (hd : decode cc pc = .ok (.aconst_null, 1)) (k : xV X B nL Z a b P (pc + 1) L (.null :: st)) : xV X B nL Z a b P pc L (st) :=
  fun H locs ls hP hS hl => lv_null hX.1 hX.2.1 hd (k H locs ls hP hS hl)
theorem x_ifnonnull (hX : xO X cc own nL B g) {x : Nat} {off : Int} {tgt : Nat} (hd : decode cc pc = .ok (.ifnonnull off, 3)) (ht : (pc : Int) + off = (tgt : Int)) (k : xV X B nL Z a b P tgt L (st)) : xV X B nL Z a b P pc L (.ref x :: st) :=
  fun H locs ls hP hS hl => lv_ifnonnull hX.1 hX.2.1 hd ht (k H locs ls hP hS hl)
theorem x_ifnull (hX : xO X cc own nL B g) {x : Nat} {off : Int} (hd : decode cc pc = .ok (.ifnull off, 3)) (k : xV X B nL Z a b P (pc + 3) L (st)) : xV X B nL Z a b P pc L (.ref x :: st) :=
  fun H locs ls hP hS hl => lv_ifnull hX.1 hX.2.1 hd (k H locs ls hP hS hl)
theorem x_ifnonnullN (hX : xO X cc own nL B g) {off : Int} (hd : decode cc pc = .ok (.ifnonnull off, 3)) (k : xV X B nL Z a b P (pc + 3) L (st)) : xV X B nL Z a b P pc L (.null :: st) :=
  fun H locs ls hP hS hl => lv_ifnonnullN hX.1 hX.2.1 hd (k H locs ls hP hS hl)
theorem x_ifnullN (hX : xO X cc own nL B g) {off : Int} {tgt : Nat} (hd : decode cc pc = .ok (.ifnull off, 3)) (ht : (pc : Int) + off = (tgt : Int)) (k : xV X B nL Z a b P tgt L (st)) : xV X B nL Z a b P pc L (.null :: st) :=
  fun H locs ls hP hS hl => lv_ifnullN hX.1 hX.2.1 hd ht (k H locs ls hP hS hl)
theorem x_lookup (hX : xO X cc own nL B g) {dflt : Int} {ps : Array (Int × Int)} {len : Nat} {x : Int32} {off : Int} {tgt : Nat} (hd : decode cc pc = .ok (.lookupswitch dflt ps, len)) (hp : (ps.toList.zip (ps.toList.drop 1)).all (fun (a, next) => a.1 < next.1) = true) (ho : Op.lookupswitch.offset ps.toList dflt x.toInt = off) (ht : (pc : Int) + off = (tgt : Int)) (k : xV X B nL Z a b P tgt L (st)) : xV X B nL Z a b P pc L (.int x :: st) :=
  fun H locs ls hP hS hl => lv_lookup hX.1 hX.2.1 hd hp ho ht (k H locs ls hP hS hl)
theorem x_tableOut (hX : xO X cc own nL B g) {dflt lo hi : Int} {offs : Array Int} {len : Nat} {x : Int32} {tgt : Nat} (hd : decode cc pc = .ok (.tableswitch dflt lo hi offs, len)) (h : x.toInt < lo ∨ hi < x.toInt) (ht : (pc : Int) + dflt = (tgt : Int)) (k : xV X B nL Z a b P tgt L (st)) : xV X B nL Z a b P pc L (.int x :: st) :=
  fun H locs ls hP hS hl => lv_tableOut hX.1 hX.2.1 hd h ht (k H locs ls hP hS hl)
theorem x_tableIn (hX : xO X cc own nL B g) {dflt lo hi : Int} {offs : Array Int} {len : Nat} {x : Int32} {off : Int} {tgt : Nat} (hd : decode cc pc = .ok (.tableswitch dflt lo hi offs, len)) (h1 : ¬ x.toInt < lo) (h2 : ¬ hi < x.toInt) (ho : offs[(x.toInt - lo).toNat]? = some off) (ht : (pc : Int) + off = (tgt : Int)) (k : xV X B nL Z a b P tgt L (st)) : xV X B nL Z a b P pc L (.int x :: st) :=
  fun H locs ls hP hS hl => lv_tableIn hX.1 hX.2.1 hd h1 h2 ho ht (k H locs ls hP hS hl)
theorem x_iload_n (hX : xO X cc own nL B g) {kf : Fin 4} {i : Nat} {x : Int32} (hd : decode cc pc = .ok (.iload_n kf, 1)) (hi : (kf : Nat) = i) (hv : L.lookup i = some (.int x)) (k : xV X B nL Z a b P (pc + 1) L (.int x :: st)) : xV X B nL Z a b P pc L (st) :=
  fun H locs ls hP hS hl => lv_iload_n hX.1 hX.2.1 hd hi (x_lk hl hv) (k H locs ls hP hS hl)
theorem x_iload (hX : xO X cc own nL B g) {i : Nat} {x : Int32} (hd : decode cc pc = .ok (.iload i, 2)) (hv : L.lookup i = some (.int x)) (k : xV X B nL Z a b P (pc + 2) L (.int x :: st)) : xV X B nL Z a b P pc L (st) :=
  fun H locs ls hP hS hl => lv_iload hX.1 hX.2.1 hd (x_lk hl hv) (k H locs ls hP hS hl)
theorem x_lload_n (hX : xO X cc own nL B g) {kf : Fin 4} {i : Nat} {x : Int64} (hd : decode cc pc = .ok (.lload_n kf, 1)) (hi : (kf : Nat) = i) (hv : L.lookup i = some (.long x)) (k : xV X B nL Z a b P (pc + 1) L (.long x :: st)) : xV X B nL Z a b P pc L (st) :=
  fun H locs ls hP hS hl => lv_lload_n hX.1 hX.2.1 hd hi (x_lk hl hv) (k H locs ls hP hS hl)
theorem x_lload (hX : xO X cc own nL B g) {i : Nat} {x : Int64} (hd : decode cc pc = .ok (.lload i, 2)) (hv : L.lookup i = some (.long x)) (k : xV X B nL Z a b P (pc + 2) L (.long x :: st)) : xV X B nL Z a b P pc L (st) :=
  fun H locs ls hP hS hl => lv_lload hX.1 hX.2.1 hd (x_lk hl hv) (k H locs ls hP hS hl)
theorem x_aload_n (hX : xO X cc own nL B g) {kf : Fin 4} {i : Nat} {x : Nat} (hd : decode cc pc = .ok (.aload_n kf, 1)) (hi : (kf : Nat) = i) (hv : L.lookup i = some (.ref x)) (k : xV X B nL Z a b P (pc + 1) L (.ref x :: st)) : xV X B nL Z a b P pc L (st) :=
  fun H locs ls hP hS hl => lv_aload_n hX.1 hX.2.1 hd hi (x_lk hl hv) (k H locs ls hP hS hl)
theorem x_aload (hX : xO X cc own nL B g) {i : Nat} {x : Nat} (hd : decode cc pc = .ok (.aload i, 2)) (hv : L.lookup i = some (.ref x)) (k : xV X B nL Z a b P (pc + 2) L (.ref x :: st)) : xV X B nL Z a b P pc L (st) :=
  fun H locs ls hP hS hl => lv_aload hX.1 hX.2.1 hd (x_lk hl hv) (k H locs ls hP hS hl)
theorem x_aload_nN (hX : xO X cc own nL B g) {kf : Fin 4} {i : Nat} (hd : decode cc pc = .ok (.aload_n kf, 1)) (hi : (kf : Nat) = i) (hv : L.lookup i = some .null) (k : xV X B nL Z a b P (pc + 1) L (.null :: st)) : xV X B nL Z a b P pc L (st) :=
  fun H locs ls hP hS hl => lv_aload_nN hX.1 hX.2.1 hd hi (x_lk hl hv) (k H locs ls hP hS hl)
theorem x_aloadN (hX : xO X cc own nL B g) {i : Nat} (hd : decode cc pc = .ok (.aload i, 2)) (hv : L.lookup i = some .null) (k : xV X B nL Z a b P (pc + 2) L (.null :: st)) : xV X B nL Z a b P pc L (st) :=
  fun H locs ls hP hS hl => lv_aloadN hX.1 hX.2.1 hd (x_lk hl hv) (k H locs ls hP hS hl)
theorem x_istore_n (hX : xO X cc own nL B g) {kf : Fin 4} {i : Nat} {x : Int32} (L' : List (Nat × Value)) (hd : decode cc pc = .ok (.istore_n kf, 1)) (hi : (kf : Nat) = i) (hn : i < nL) (hv : (i, Value.int x) :: L.filter (fun q => !(q.1 == i) && !(q.1 + 1 == i && q.2.category == 2)) = L') (k : xV X B nL Z a b P (pc + 1) L' (st)) : xV X B nL Z a b P pc L (.int x :: st) :=
  fun H locs ls hP hS hl => lv_istore_n hX.1 hX.2.1 hd hi hl hn hv (fun ls' hl' => k H locs ls' hP hS hl')
theorem x_istore (hX : xO X cc own nL B g) {i : Nat} {x : Int32} (L' : List (Nat × Value)) (hd : decode cc pc = .ok (.istore i, 2)) (hn : i < nL) (hv : (i, Value.int x) :: L.filter (fun q => !(q.1 == i) && !(q.1 + 1 == i && q.2.category == 2)) = L') (k : xV X B nL Z a b P (pc + 2) L' (st)) : xV X B nL Z a b P pc L (.int x :: st) :=
  fun H locs ls hP hS hl => lv_istore hX.1 hX.2.1 hd hl hn hv (fun ls' hl' => k H locs ls' hP hS hl')
theorem x_lstore_n (hX : xO X cc own nL B g) {kf : Fin 4} {i : Nat} {x : Int64} (L' : List (Nat × Value)) (hd : decode cc pc = .ok (.lstore_n kf, 1)) (hi : (kf : Nat) = i) (hn : i + 1 < nL) (hv : (i, Value.long x) :: L.filter (fun q => !(q.1 == i) && (!(q.1 == i + 1) && !(q.1 + 1 == i && q.2.category == 2))) = L') (k : xV X B nL Z a b P (pc + 1) L' (st)) : xV X B nL Z a b P pc L (.long x :: st) :=
  fun H locs ls hP hS hl => lv_lstore_n hX.1 hX.2.1 hd hi hl hn hv (fun ls' hl' => k H locs ls' hP hS hl')
theorem x_lstore (hX : xO X cc own nL B g) {i : Nat} {x : Int64} (L' : List (Nat × Value)) (hd : decode cc pc = .ok (.lstore i, 2)) (hn : i + 1 < nL) (hv : (i, Value.long x) :: L.filter (fun q => !(q.1 == i) && (!(q.1 == i + 1) && !(q.1 + 1 == i && q.2.category == 2))) = L') (k : xV X B nL Z a b P (pc + 2) L' (st)) : xV X B nL Z a b P pc L (.long x :: st) :=
  fun H locs ls hP hS hl => lv_lstore hX.1 hX.2.1 hd hl hn hv (fun ls' hl' => k H locs ls' hP hS hl')
theorem x_astore_n (hX : xO X cc own nL B g) {kf : Fin 4} {i : Nat} {x : Nat} (L' : List (Nat × Value)) (hd : decode cc pc = .ok (.astore_n kf, 1)) (hi : (kf : Nat) = i) (hn : i < nL) (hv : (i, Value.ref x) :: L.filter (fun q => !(q.1 == i) && !(q.1 + 1 == i && q.2.category == 2)) = L') (k : xV X B nL Z a b P (pc + 1) L' (st)) : xV X B nL Z a b P pc L (.ref x :: st) :=
  fun H locs ls hP hS hl => lv_astore_n hX.1 hX.2.1 hd hi hl hn hv (fun ls' hl' => k H locs ls' hP hS hl')
theorem x_astore (hX : xO X cc own nL B g) {i : Nat} {x : Nat} (L' : List (Nat × Value)) (hd : decode cc pc = .ok (.astore i, 2)) (hn : i < nL) (hv : (i, Value.ref x) :: L.filter (fun q => !(q.1 == i) && !(q.1 + 1 == i && q.2.category == 2)) = L') (k : xV X B nL Z a b P (pc + 2) L' (st)) : xV X B nL Z a b P pc L (.ref x :: st) :=
  fun H locs ls hP hS hl => lv_astore hX.1 hX.2.1 hd hl hn hv (fun ls' hl' => k H locs ls' hP hS hl')
theorem x_iinc (hX : xO X cc own nL B g) {i j : Nat} {n : Int} {x v : Int32} (L' : List (Nat × Value)) (hd : decode cc pc = .ok (.iinc i n, 3)) (hj : L[j]? = some (i, .int x)) (hw : x + Int32.ofInt n = v) (hn : i < nL) (hv : (i, Value.int v) :: L.filter (fun q => !(q.1 == i) && !(q.1 + 1 == i && q.2.category == 2)) = L') (k : xV X B nL Z a b P (pc + 3) L' (st)) : xV X B nL Z a b P pc L (st) :=
  fun H locs ls hP hS hl => lv_iinc hX.1 hX.2.1 hd hl hj hw hn hv (fun ls' hl' => k H locs ls' hP hS hl')
theorem x_sub (ks : List Nat) {L' : List (Nat × Value)} (h : lv_pick L ks = L') (k : xV X B nL Z a b P pc L' (st)) : xV X B nL Z a b P pc L (st) :=
  fun H locs ls hP hS hl => k H locs ls hP hS (lv_sub hl ks h)
theorem x_eqi {x y : Int32} (h : x = y) (k : xV X B nL Z a b P pc L (.int y :: st)) : xV X B nL Z a b P pc L (.int x :: st) := h ▸ k
theorem x_eql {x y : Int64} (h : x = y) (k : xV X B nL Z a b P pc L (.long y :: st)) : xV X B nL Z a b P pc L (.long x :: st) := h ▸ k
theorem x_world {P' : Heap → Prop} (h : ∀ H, P H → P' H) (k : xV X B nL Z a b P' pc L (st)) : xV X B nL Z a b P pc L (st) :=
  fun H locs ls hP hS hl => k H locs ls (h H hP) hS hl
theorem x_wide {a' b' : Nat} (h1 : a ≤ a') (h2 : b ≤ b') (k : xV X B nL Z a' b' P pc L st) : xV X B nL Z a b P pc L (st) :=
  fun H locs ls hP hS hl => W.widen h1 h2 (k H locs ls hP hS hl)
theorem x_ex {α : Type} {P' : α → Heap → Prop} (k : ∀ w : α, xV X B nL Z a b (P' w) pc L st) : xV X B nL Z a b (fun H => ∃ w : α, P' w H) pc L st :=
  fun H locs ls hP hS hl => hP.elim fun w hw => k w H locs ls hw hS hl
theorem x_and {φ : Prop} (k : φ → xV X B nL Z a b P pc L (st)) : xV X B nL Z a b (fun H => φ ∧ P H) pc L st :=
  fun H locs ls hP hS hl => k hP.1 H locs ls hP.2 hS hl
end XL
end
section
/-! worlds -/
def xtn : FieldType → Nat
  | .int => 0
  | .boolean => 0
  | .long => 1
  | .object _ => 2
  | .array _ => 2
  | _ => 3
/-- the fields of an object, out of the rows of its cell -/
def xfs (B : Nat) (ft : List FieldType) (i : Nat → Int32) (j : Nat → Int64) (f : Nat → Option Nat) : List Value :=
  ft.zipIdx.map fun q => match xtn q.1 with
    | 0 => .int (i q.2)
    | 1 => .long (j q.2)
    | _ => va_rf ((f q.2).map (B + ·))
/-- a cell: kind (0, class), (1, n) an int[n], (2, n) a long[n], (3, n) a boolean[n], (4 + t, n) an array of references of the t-th type -/
def xce (g : xG) (B : Nat) (kd : Nat × Nat) (i : Nat → Int32) (j : Nat → Int64) (f : Nat → Option Nat) : va_E := match kd with
  | (0, ci) => .inr (ci, xfs B (xft ci) i j f)
  | (1, n) => .inl (g.2 0, n, .inl i)
  | (2, n) => .inl (g.2 1, n, .inr (.inl j))
  | (3, n) => .inl (g.2 2, n, .inl i)
  | (t + 4, n) => .inl (g.2 (t + 3), n, .inr (.inr (.inr (.inr (fun p => (f p).map (B + ·))))))
def xP (g : xG) (B N : Nat) (K : Nat → Nat × Nat) (I : Nat → Nat → Int32) (J : Nat → Nat → Int64) (F : Nat → Nat → Option Nat) (H : Heap) : Prop :=
  (∀ k, k < N → va_at g.1 vwCl (B + k, xce g B (K k) (I k) (J k) (F k)) H) ∧ H.size = B + N
/-- one place of one cell -/
def xu {α : Type} (f : Nat → Nat → α) (k j : Nat) (v : α) : Nat → Nat → α := va_up f k (va_up (f k) j v)
theorem xu_row {α : Type} {f : Nat → Nat → α} {k j : Nat} {v : α} : xu f k j v k = va_up (f k) j v := va_up_self _ _ _
theorem xu_ne {α : Type} {f : Nat → Nat → α} {k j q : Nat} {v : α} (h : q ≠ k) : xu f k j v q = f q := va_up_ne _ _ h
theorem x_one {D : va_G} {cl : List vw_C} {a : Nat} {e : va_E} {H : Heap} (h : va_at D cl (a, e) H) : va_P D cl [(a, e)] H := by
  intro i q hq
  have hi : i < 1 := (List.getElem?_eq_some_iff.mp hq).1
  rw [show i = 0 by omega] at hq
  cases hq
  exact h
theorem xP_set {g : xG} {B N k : Nat} {K : Nat → Nat × Nat} {I I' : Nat → Nat → Int32} {J J' : Nat → Nat → Int64} {F F' : Nat → Nat → Option Nat} {H H' : Heap} (hP : xP g B N K I J F H) (z : H'.size = H.size) (oq : ∀ q, q ≠ B + k → H'[q]? = H[q]?)
    (he : va_at g.1 vwCl (B + k, xce g B (K k) (I' k) (J' k) (F' k)) H') (ho : ∀ q, q ≠ k → I' q = I q ∧ J' q = J q ∧ F' q = F q) : xP g B N K I' J' F' H' := by
  refine ⟨fun q hq => ?_, by rw [z]; exact hP.2⟩
  by_cases h : q = k
  · subst h
    exact he
  · obtain ⟨a1, a2, a3⟩ := ho q h
    rw [a1, a2, a3]
    exact (hP.1 q hq).kept (oq _ (fun e => h (Nat.add_left_cancel e)))
theorem xP_push {g : xG} {B N : Nat} {K : Nat → Nat × Nat} {I : Nat → Nat → Int32} {J : Nat → Nat → Int64} {F : Nat → Nat → Option Nat} {H H' : Heap} {kd : Nat × Nat} {i : Nat → Int32} {j : Nat → Int64} {f : Nat → Option Nat} (hP : xP g B N K I J F H) (z : H'.size = B + N + 1) (oq : ∀ q, q < B + N → H'[q]? = H[q]?)
    (he : va_at g.1 vwCl (B + N, xce g B kd i j f) H') : xP g B (N + 1) (va_up K N kd) (va_up I N i) (va_up J N j) (va_up F N f) H' := by
  refine ⟨fun q hq => ?_, by rw [z]; omega⟩
  by_cases h : q = N
  · subst h
    rw [va_up_self, va_up_self, va_up_self, va_up_self]
    exact he
  · rw [va_up_ne _ _ h, va_up_ne _ _ h, va_up_ne _ _ h, va_up_ne _ _ h]
    exact (hP.1 q (by omega)).kept (oq _ (by omega))
/-- what is known of a class of the worlds -/
def xcls (ci : Nat) (C : String) (T : u_T) (M : Nat) (ty : Nat → FieldType) : Prop :=
  vwCl[ci]? = some (C, T, M) ∧ (∀ w ∈ u_ws C T M, xm w) ∧ (∀ k, k < M → parseFieldDescriptor (T k).2.2.1 = some (ty k)) ∧ (∀ a, a < M → ∀ b, b < M → a ≠ b → (T a).2.1 ≠ (T b).2.1) ∧ xft ci = (List.range M).map ty ∧ ∀ k, k < M → xtn (ty k) ≤ 2
theorem xfs_at {B : Nat} {ty : Nat → FieldType} {M : Nat} {ft : List FieldType} (hf : ft = (List.range M).map ty) {i : Nat → Int32} {j : Nat → Int64} {f : Nat → Option Nat} {p : Nat} (hp : p < M) :
    (xfs B ft i j f)[p]? = some (match xtn (ty p) with | 0 => .int (i p) | 1 => .long (j p) | _ => va_rf ((f p).map (B + ·))) := by
  subst hf
  simp [xfs, List.getElem?_map, List.getElem?_zipIdx, hp]
theorem xfs_len {B : Nat} {ty : Nat → FieldType} {M : Nat} {ft : List FieldType} (hf : ft = (List.range M).map ty) {i : Nat → Int32} {j : Nat → Int64} {f : Nat → Option Nat} : (xfs B ft i j f).length = M := by
  subst hf
  simp [xfs]
section XH
variable {X : xX} {cc : ByteArray} {own : String} {nL B a b : Nat} {g : xG} {Z : State → Prop} {pc : Nat} {L : List (Nat × Value)} {st : List Value}
variable {N k j ci idx M : Nat} {K : Nat → Nat × Nat} {I I' : Nat → Nat → Int32} {J J' : Nat → Nat → Int64} {F F' : Nat → Nat → Option Nat} {C : String} {T : u_T} {ty : Nat → FieldType}
theorem x_objAt (hk : k < N) (hK : K k = (0, ci)) {H : Heap} (hP : xP g B N K I J F H) : va_at g.1 vwCl (B + k, .inr (ci, xfs B (xft ci) (I k) (J k) (F k))) H := by
  have h := hP.1 k hk
  rw [hK] at h
  exact h
/-- a field is read: v is what stands there -/
theorem x_get (hX : xO X cc own nL B g) (hc : xcls ci C T M ty) (hk : k < N) (hK : K k = (0, ci)) (hj : j < M) (hl : xm (.fieldLink own idx (T j).1 (T j).2.1 (T j).2.2.1)) {v : Value} (hv : (xfs B (xft ci) (I k) (J k) (F k))[j]? = some v) (hd : decode cc pc = .ok (.getfield idx, 3))
    (kk : xV X B nL Z a b (xP g B N K I J F) (pc + 3) L (v :: st)) : xV X B nL Z a b (xP g B N K I J F) pc L (.ref (B + k) :: st) := by
  intro H locs ls hP hS hl'
  obtain ⟨hx, hb, -, hown, -, -, hKk, hT⟩ := hX
  exact va_get (C := C) (T := T) (N := M) (ci := ci) (Ts := u_ws C T M) hx hb (fun w h => hT.m (hc.2.1 w h)) (fun _ h => h) hown hKk (x_one (x_objAt hk hK hP)) 0 rfl hc.1 j hj (hT.m hl) (fun _ h => h) hv hd (kk H locs ls hP hS hl')
theorem x_getI (hX : xO X cc own nL B g) (hc : xcls ci C T M ty) (hk : k < N) (hK : K k = (0, ci)) (hj : j < M) (ht : xtn (ty j) = 0) (hl : xm (.fieldLink own idx (T j).1 (T j).2.1 (T j).2.2.1)) (hd : decode cc pc = .ok (.getfield idx, 3))
    (kk : xV X B nL Z a b (xP g B N K I J F) (pc + 3) L (.int (I k j) :: st)) : xV X B nL Z a b (xP g B N K I J F) pc L (.ref (B + k) :: st) :=
  x_get hX hc hk hK hj hl (by rw [xfs_at hc.2.2.2.2.1 hj, ht]; rfl) hd kk
theorem x_getJ (hX : xO X cc own nL B g) (hc : xcls ci C T M ty) (hk : k < N) (hK : K k = (0, ci)) (hj : j < M) (ht : xtn (ty j) = 1) (hl : xm (.fieldLink own idx (T j).1 (T j).2.1 (T j).2.2.1)) (hd : decode cc pc = .ok (.getfield idx, 3))
    (kk : xV X B nL Z a b (xP g B N K I J F) (pc + 3) L (.long (J k j) :: st)) : xV X B nL Z a b (xP g B N K I J F) pc L (.ref (B + k) :: st) :=
  x_get hX hc hk hK hj hl (by rw [xfs_at hc.2.2.2.2.1 hj, ht]; rfl) hd kk
theorem x_getF (hX : xO X cc own nL B g) (hc : xcls ci C T M ty) (hk : k < N) (hK : K k = (0, ci)) (hj : j < M) (ht : xtn (ty j) = 2) {r : Nat} (hr : F k j = some r) (hl : xm (.fieldLink own idx (T j).1 (T j).2.1 (T j).2.2.1)) (hd : decode cc pc = .ok (.getfield idx, 3))
    (kk : xV X B nL Z a b (xP g B N K I J F) (pc + 3) L (.ref (B + r) :: st)) : xV X B nL Z a b (xP g B N K I J F) pc L (.ref (B + k) :: st) :=
  x_get hX hc hk hK hj hl (by rw [xfs_at hc.2.2.2.2.1 hj, ht]; simp [hr, va_rf]) hd kk
/-- a field is written -/
theorem x_put (hX : xO X cc own nL B g) (hc : xcls ci C T M ty) (hk : k < N) (hK : K k = (0, ci)) (hj : j < M) (hl : xm (.fieldLink own idx (T j).1 (T j).2.1 (T j).2.2.1)) (hfin : (T j).2.2.2 = false ∨ ((x_meth X).name = "<init>" ∧ (T j).2.2.2 = true ∧ (T j).1 = own)) {v : Value} (hn : narrow (ty j) v = v) (hfit : fits (ty j) v = true)
    (hrow : (xfs B (xft ci) (I k) (J k) (F k)).set j v = xfs B (xft ci) (I' k) (J' k) (F' k)) (ho : ∀ q, q ≠ k → I' q = I q ∧ J' q = J q ∧ F' q = F q) (hd : decode cc pc = .ok (.putfield idx, 3))
    (kk : xV X B nL Z a b (xP g B N K I' J' F') (pc + 3) L st) : xV X B nL Z a b (xP g B N K I J F) pc L (v :: .ref (B + k) :: st) := by
  intro H locs ls hP hS hl'
  obtain ⟨hx, hb, -, hown, -, -, hKk, hT⟩ := hX
  obtain ⟨hc0, hin, hty, hnm, hft, -⟩ := hc
  have hts : ∀ w ∈ u_ws C T M, w.before (x_args X) (x_s X) = true := fun w h => hT.m (hin w h)
  have hap := va_apart (own := own) hts (fun _ h => h) ty hty hnm hKk hc0
  obtain ⟨r, h1, cell, q1, q2, q3, q4⟩ := x_objAt hk hK hP
  have hr : r = (C, T, M) := Option.some.inj (h1.symm.trans hc0)
  subst hr
  obtain ⟨hSl, hfc, kC, hkC, hkind⟩ := hKk.1 ci _ hc0
  obtain ⟨cf, kf, fi, f, hi, hsl⟩ := hSl j hj
  have hst := (u_facts hfc hkC (u_lays hts (fun _ h => h) hj) hi).1
  have hlen : j < (xfs B (xft ci) (I k) (J k) (F k)).length := by rw [xfs_len hft]; exact hj
  have fin : ∀ (H' : Heap), H'[B + k]? = some (cell.setSlot f.slot v) → H'.size = H.size → (∀ q, q ≠ B + k → H'[q]? = H[q]?) → W X.1 X.2.1 X.2.2.1 X.2.2.2.1 X.2.2.2.2.1 X.2.2.2.2.2.1 X.2.2.2.2.2.2.1 X.2.2.2.2.2.2.2.1 X.2.2.2.2.2.2.2.2.1 X.2.2.2.2.2.2.2.2.2 H' (locs ++ [⟨B + k, f.slot⟩]) a b Z (F0 X.2.2.2.2.2.1 (pc + 3) ls st) := by
    intro H' e1 e2 e3
    rw [hsl] at e1
    have he : va_at g.1 vwCl (B + k, .inr (ci, (xfs B (xft ci) (I k) (J k) (F k)).set j v)) H' := ⟨_, hc0, t_OB.to (V := updV (vp_V (xfs B (xft ci) (I k) (J k) (F k))) j v) ⟨_, e1, q2, q3, t_set q4 hap hj v⟩ (fun i _ => vp_updV_set hlen v i)⟩
    rw [hrow] at he
    exact kk H' _ ls (xP_set hP e2 e3 (by rw [hK]; exact he) ho) (hS.put e2 e3 (Nat.le_add_right B k)) hl'
  rcases hfin with hfin | ⟨hin2, hfin, hdecl⟩
  · have hlay := hts _ (u_in_lay hj)
    unfold u_lay at hlay
    rw [if_neg (by rw [hfin]; decide)] at hlay
    have h6 := u_store hfc hkC hkind hlay hi (hty j hj) hn hfit
    exact W.putK hx hb (f := f) ⟨hown, hT.m hl, ⟨_, _, _, hi⟩, hst⟩ (by rw [q2]; exact h6) q1 q3 (by rw [hsl]; exact k2_hasslot (q4 j hj)) rfl rfl hd fin
  · have hlay := hts _ (u_in_lay hj)
    unfold u_lay at hlay
    rw [if_pos hfin] at hlay
    have hcf : X.2.2.2.2.2.1.cls = cf := by
      obtain ⟨_, _, c', _, _, _, -, -, hf', -, -, -, hown2, -⟩ := Cond.laysFinal_spec hlay
      have e1 : c' = cf := by have := hi.symm.trans hf'; simp at this; exact this.1.symm
      rw [hdecl] at hown2
      rw [← e1]; exact Option.some.inj (hown.symm.trans hown2)
    have h6 := u_fits hfc hkC hkind (Or.inr hlay) hi (hty j hj) hn hfit
    exact W.putFinK hx hb hown (hT.m hl) hi hst hcf hin2 (by rw [q2]; exact h6) q1 q3 (by rw [hsl]; exact k2_hasslot (q4 j hj)) rfl rfl hd fin
theorem xfs_setI {B : Nat} {ty : Nat → FieldType} {M j : Nat} {ft : List FieldType} (hf : ft = (List.range M).map ty) (ht : xtn (ty j) = 0) {i : Nat → Int32} {l : Nat → Int64} {f : Nat → Option Nat} {v : Int32} (hj : j < M) : (xfs B ft i l f).set j (.int v) = xfs B ft (va_up i j v) l f := by
  apply List.ext_getElem?
  intro p
  by_cases hp : p < M
  · rw [List.getElem?_set, xfs_at hf hp, xfs_at hf hp, xfs_len hf]
    by_cases e : j = p
    · subst e
      simp [ht, hp, va_up]
    · simp [e, va_up, Ne.symm e]
  · rw [List.getElem?_eq_none (by rw [List.length_set, xfs_len hf]; omega), List.getElem?_eq_none (by rw [xfs_len hf]; omega)]
theorem xfs_setJ {B : Nat} {ty : Nat → FieldType} {M j : Nat} {ft : List FieldType} (hf : ft = (List.range M).map ty) (ht : xtn (ty j) = 1) {i : Nat → Int32} {l : Nat → Int64} {f : Nat → Option Nat} {v : Int64} (hj : j < M) : (xfs B ft i l f).set j (.long v) = xfs B ft i (va_up l j v) f := by
  apply List.ext_getElem?
  intro p
  by_cases hp : p < M
  · rw [List.getElem?_set, xfs_at hf hp, xfs_at hf hp, xfs_len hf]
    by_cases e : j = p
    · subst e
      simp [ht, hp, va_up]
    · simp [e, va_up, Ne.symm e]
  · rw [List.getElem?_eq_none (by rw [List.length_set, xfs_len hf]; omega), List.getElem?_eq_none (by rw [xfs_len hf]; omega)]
theorem xfs_setF {B : Nat} {ty : Nat → FieldType} {M j : Nat} {ft : List FieldType} (hf : ft = (List.range M).map ty) (ht : xtn (ty j) = 2) {i : Nat → Int32} {l : Nat → Int64} {f : Nat → Option Nat} {v : Nat} (hj : j < M) : (xfs B ft i l f).set j (.ref (B + v)) = xfs B ft i l (va_up f j (some v)) := by
  apply List.ext_getElem?
  intro p
  by_cases hp : p < M
  · rw [List.getElem?_set, xfs_at hf hp, xfs_at hf hp, xfs_len hf]
    by_cases e : j = p
    · subst e
      simp [ht, hp, va_up, va_rf]
    · simp [e, va_up, Ne.symm e]
  · rw [List.getElem?_eq_none (by rw [List.length_set, xfs_len hf]; omega), List.getElem?_eq_none (by rw [xfs_len hf]; omega)]
theorem x_putI (hX : xO X cc own nL B g) (hc : xcls ci C T M ty) (hk : k < N) (hK : K k = (0, ci)) (hj : j < M) (ht : xtn (ty j) = 0) (hl : xm (.fieldLink own idx (T j).1 (T j).2.1 (T j).2.2.1)) (hfin : (T j).2.2.2 = false ∨ ((x_meth X).name = "<init>" ∧ (T j).2.2.2 = true ∧ (T j).1 = own)) {v : Int32} (hn : narrow (ty j) (.int v) = .int v) (hfit : fits (ty j) (.int v) = true) (hd : decode cc pc = .ok (.putfield idx, 3))
    (kk : xV X B nL Z a b (xP g B N K (xu I k j v) J F) (pc + 3) L st) : xV X B nL Z a b (xP g B N K I J F) pc L (.int v :: .ref (B + k) :: st) :=
  x_put (I' := xu I k j v) (J' := J) (F' := F) hX hc hk hK hj hl hfin hn hfit (by rw [xu_row, xfs_setI hc.2.2.2.2.1 ht hj]) (fun q hq => ⟨xu_ne hq, rfl, rfl⟩) hd kk
theorem x_putJ (hX : xO X cc own nL B g) (hc : xcls ci C T M ty) (hk : k < N) (hK : K k = (0, ci)) (hj : j < M) (ht : xtn (ty j) = 1) (hl : xm (.fieldLink own idx (T j).1 (T j).2.1 (T j).2.2.1)) (hfin : (T j).2.2.2 = false ∨ ((x_meth X).name = "<init>" ∧ (T j).2.2.2 = true ∧ (T j).1 = own)) {v : Int64} (hn : narrow (ty j) (.long v) = .long v) (hfit : fits (ty j) (.long v) = true) (hd : decode cc pc = .ok (.putfield idx, 3))
    (kk : xV X B nL Z a b (xP g B N K I (xu J k j v) F) (pc + 3) L st) : xV X B nL Z a b (xP g B N K I J F) pc L (.long v :: .ref (B + k) :: st) :=
  x_put (I' := I) (J' := xu J k j v) (F' := F) hX hc hk hK hj hl hfin hn hfit (by rw [xu_row, xfs_setJ hc.2.2.2.2.1 ht hj]) (fun q hq => ⟨rfl, xu_ne hq, rfl⟩) hd kk
theorem x_putF (hX : xO X cc own nL B g) (hc : xcls ci C T M ty) (hk : k < N) (hK : K k = (0, ci)) (hj : j < M) (ht : xtn (ty j) = 2) (hl : xm (.fieldLink own idx (T j).1 (T j).2.1 (T j).2.2.1)) (hfin : (T j).2.2.2 = false ∨ ((x_meth X).name = "<init>" ∧ (T j).2.2.2 = true ∧ (T j).1 = own)) {v : Nat} (hn : narrow (ty j) (.ref (B + v)) = .ref (B + v)) (hfit : fits (ty j) (.ref (B + v)) = true) (hd : decode cc pc = .ok (.putfield idx, 3))
    (kk : xV X B nL Z a b (xP g B N K I J (xu F k j (some v))) (pc + 3) L st) : xV X B nL Z a b (xP g B N K I J F) pc L (.ref (B + v) :: .ref (B + k) :: st) :=
  x_put (I' := I) (J' := J) (F' := xu F k j (some v)) hX hc hk hK hj hl hfin hn hfit (by rw [xu_row, xfs_setF hc.2.2.2.2.1 ht hj]) (fun q hq => ⟨rfl, rfl, xu_ne hq⟩) hd kk
/-! arrays: at the place p of an array of n -/
def xat (i : Int32) (n p : Nat) : Prop := vp_in i n ∧ i.toNatClampNeg = p
theorem xat_nI {n p : Nat} (h : p < n) (hn : n < 2 ^ 31) : xat (nI p) n p := ⟨vp_in_nI h hn, nI_clamp (Nat.lt_trans h hn)⟩
variable {n p : Nat} {i : Int32}
theorem x_iald (hX : xO X cc own nL B g) (hk : k < N) (hK : K k = (1, n)) (hp : xat i n p) (hd : decode cc pc = .ok (.iaload, 1))
    (kk : xV X B nL Z a b (xP g B N K I J F) (pc + 1) L (.int (I k p) :: st)) : xV X B nL Z a b (xP g B N K I J F) pc L (.int i :: .ref (B + k) :: st) := by
  intro H locs ls hP hS hl'
  have h := hP.1 k hk
  rw [hK] at h
  have hh := kk H locs ls hP hS hl'
  rw [← hp.2] at hh
  exact va_iald (f := I k) hX.1 hX.2.1 hX.2.2.2.2.2.2.1 (x_one h) 0 0 rfl rfl hp.1 hd hh
theorem x_zald (hX : xO X cc own nL B g) (hk : k < N) (hK : K k = (3, n)) (hp : xat i n p) (hd : decode cc pc = .ok (.baload, 1))
    (kk : xV X B nL Z a b (xP g B N K I J F) (pc + 1) L (.int (I k p) :: st)) : xV X B nL Z a b (xP g B N K I J F) pc L (.int i :: .ref (B + k) :: st) := by
  intro H locs ls hP hS hl'
  have h := hP.1 k hk
  rw [hK] at h
  have hh := kk H locs ls hP hS hl'
  rw [← hp.2] at hh
  exact va_zald (f := I k) hX.1 hX.2.1 hX.2.2.2.2.2.2.1 (x_one h) 0 2 rfl rfl hp.1 hd hh
theorem x_lald (hX : xO X cc own nL B g) (hk : k < N) (hK : K k = (2, n)) (hp : xat i n p) (hd : decode cc pc = .ok (.laload, 1))
    (kk : xV X B nL Z a b (xP g B N K I J F) (pc + 1) L (.long (J k p) :: st)) : xV X B nL Z a b (xP g B N K I J F) pc L (.int i :: .ref (B + k) :: st) := by
  intro H locs ls hP hS hl'
  have h := hP.1 k hk
  rw [hK] at h
  have hh := kk H locs ls hP hS hl'
  rw [← hp.2] at hh
  exact va_lald (f := J k) hX.1 hX.2.1 hX.2.2.2.2.2.2.1 (x_one h) 0 1 rfl rfl hp.1 hd hh
theorem x_alen (hX : xO X cc own nL B g) (hk : k < N) {t : Nat} (hK : K k = (t + 1, n)) (ht : t < xtyn) (hd : decode cc pc = .ok (.arraylength, 1))
    (kk : xV X B nL Z a b (xP g B N K I J F) (pc + 1) L (.int (nI n) :: st)) : xV X B nL Z a b (xP g B N K I J F) pc L (.ref (B + k) :: st) := by
  intro H locs ls hP hS hl'
  have h := hP.1 k hk
  rw [hK] at h
  have hh := kk H locs ls hP hS hl'
  obtain ⟨fty, hty⟩ : ∃ fty, (xtys g.2)[t]? = some (g.2 t, fty) := xtys_at g.2 ht
  have ha := (hX.2.2.2.2.2.2.1.2 t _ hty).1
  match t, h, ha with
  | 0, h, ha => exact W.alen (n := nI n) hX.1 hX.2.1 h (ha n (fun j => .int (I k j))) (by rw [vp_cell_i, arrV_size]; rfl) rfl rfl hd hh
  | 1, h, ha => exact W.alen (n := nI n) hX.1 hX.2.1 h (ha n (fun j => .long (J k j))) (by rw [vp_cell_l, arrV_size]; rfl) rfl rfl hd hh
  | 2, h, ha => exact W.alen (n := nI n) hX.1 hX.2.1 h (ha n (fun j => .int (I k j))) (by rw [vp_cell_i, arrV_size]; rfl) rfl rfl hd hh
  | t + 3, h, ha => exact W.alen (n := nI n) hX.1 hX.2.1 h (ha n (fun j => va_rf ((F k j).map (B + ·)))) (by rw [vp_cell_q, arrV_size]; rfl) rfl rfl hd hh
theorem x_iast (hX : xO X cc own nL B g) (hk : k < N) (hK : K k = (1, n)) (hp : xat i n p) {v : Int32} (hd : decode cc pc = .ok (.iastore, 1))
    (kk : xV X B nL Z a b (xP g B N K (xu I k p v) J F) (pc + 1) L st) : xV X B nL Z a b (xP g B N K I J F) pc L (.int v :: .int i :: .ref (B + k) :: st) := by
  intro H locs ls hP hS hl'
  have h := hP.1 k hk
  rw [hK] at h
  refine W.iast hX.1 hX.2.1 h ((hX.2.2.2.2.2.2.1.2 0 _ rfl).1 n (fun j => .int (I k j))) (fun q => by cases q) (by show ¬ (i < 0 ∨ (arrV _ _ _).slots.size ≤ _); rw [arrV_size]; exact hp.1) rfl rfl hd fun H1 e z oq => ?_
  refine kk H1 _ ls (xP_set hP z oq ?_ (fun q hq => ⟨xu_ne hq, rfl, rfl⟩)) (hS.put z oq (Nat.le_add_right B k)) hl'
  rw [hK, xu_row]
  show H1[B + k]? = some (vp_cell _ _)
  rw [e, vp_cell_i, vp_cell_i, arrV_store, hp.2]
  congr 2
  funext q
  by_cases hq : q = p <;> simp [updV, va_up, hq]
theorem x_zast (hX : xO X cc own nL B g) (hk : k < N) (hK : K k = (3, n)) (hp : xat i n p) {v : Int32} (hv : narrow .boolean (.int v) = .int v) (hd : decode cc pc = .ok (.bastore, 1))
    (kk : xV X B nL Z a b (xP g B N K (xu I k p v) J F) (pc + 1) L st) : xV X B nL Z a b (xP g B N K I J F) pc L (.int v :: .int i :: .ref (B + k) :: st) := by
  intro H locs ls hP hS hl'
  have h := hP.1 k hk
  rw [hK] at h
  refine W.zast hX.1 hX.2.1 h ((hX.2.2.2.2.2.2.1.2 2 _ rfl).1 n (fun j => .int (I k j))) (fun q => by cases q) (by show ¬ (i < 0 ∨ (arrV _ _ _).slots.size ≤ _); rw [arrV_size]; exact hp.1) rfl rfl hd fun H1 e z oq => ?_
  refine kk H1 _ ls (xP_set hP z oq ?_ (fun q hq => ⟨xu_ne hq, rfl, rfl⟩)) (hS.put z oq (Nat.le_add_right B k)) hl'
  rw [hK, xu_row]
  show H1[B + k]? = some (vp_cell _ _)
  rw [e, vp_cell_i, vp_cell_i, arrV_store, hp.2, hv]
  congr 2
  funext q
  by_cases hq : q = p <;> simp [updV, va_up, hq]
theorem x_last (hX : xO X cc own nL B g) (hk : k < N) (hK : K k = (2, n)) (hp : xat i n p) {v : Int64} (hd : decode cc pc = .ok (.lastore, 1))
    (kk : xV X B nL Z a b (xP g B N K I (xu J k p v) F) (pc + 1) L st) : xV X B nL Z a b (xP g B N K I J F) pc L (.long v :: .int i :: .ref (B + k) :: st) := by
  intro H locs ls hP hS hl'
  have h := hP.1 k hk
  rw [hK] at h
  refine W.last hX.1 hX.2.1 h ((hX.2.2.2.2.2.2.1.2 1 _ rfl).1 n (fun j => .long (J k j))) (fun q => by cases q) (by show ¬ (i < 0 ∨ (arrV _ _ _).slots.size ≤ _); rw [arrV_size]; exact hp.1) rfl rfl hd fun H1 e z oq => ?_
  refine kk H1 _ ls (xP_set hP z oq ?_ (fun q hq => ⟨rfl, xu_ne hq, rfl⟩)) (hS.put z oq (Nat.le_add_right B k)) hl'
  rw [hK, xu_row]
  show H1[B + k]? = some (vp_cell _ _)
  rw [e, vp_cell_l, vp_cell_l, arrV_store, hp.2]
  congr 2
  funext q
  by_cases hq : q = p <;> simp [updV, va_up, hq]
/-! returns and contracts -/
def xrm (d mc ms : Nat) : Room := { frames := d, cells := mc, slots := ms, locals := 40 * d }
def xQc (B : Nat) (Q : Option Value → Heap → Prop) : Array Value → State → Outcome → State → Prop := fun _ s0 o t => ∃ r, o = .returned r ∧ Q r t.heap ∧ s0.heap.size ≤ t.heap.size ∧ ∀ q, q < B → t.heap[q]? = s0.heap[q]?
def xZ (X : xX) (B mc ms : Nat) (Q : Option Value → Heap → Prop) : State → Prop := MQ (x_below X) (xQc B Q) (x_args X) (x_s X) mc ms (fun q => B ≤ q)
def xPc (g : xG) (B : Nat) (av : List Value) (P : Heap → Prop) : Array Value → State → Prop := fun v U => v = av.toArray ∧ xT U ∧ xK g U ∧ B ≤ U.heap.size ∧ P U.heap
/-- the contract of a method: d frames deep, mc new cells of ms slots -/
def xC (l : Launch) (g : xG) (B d mc ms : Nat) (y : MethodName) (cc : ByteArray) (maxL : Nat) (ret : Option FieldType) (av : List Value) (P : Heap → Prop) (Q : Option Value → Heap → Prop) : Prop :=
  Met l y [.code y cc maxL ret] (xrm d mc ms) (xPc g B av P) (xQc B Q) mc ms (fun q => B ≤ q)
variable {P : Heap → Prop} {Q : Option Value → Heap → Prop}
theorem x_endq (hX : xO X cc own nL B g) {H : Heap} {locs : List Loc} {r : Option Value} (hS : va_S (fun q => B ≤ q) (x_s X).heap H locs) (hq : Q r H) (t : State) (ht : t.heap = H) : xQc B Q (x_args X) (x_s X) (.returned r) t :=
  ⟨r, rfl, by rw [ht]; exact hq, by rw [ht]; exact hS.1, fun q h => by rw [ht]; exact hS.2.1 q (Nat.lt_of_lt_of_le h hX.2.2.2.2.2.1) (Nat.not_le.mpr h)⟩
theorem x_iret (hX : xO X cc own nL B g) (hr : (x_meth X).sig.returnType = some .int) {v : Int32} (hd : decode cc pc = .ok (.ireturn, 1)) (hq : ∀ H, P H → Q (some (.int v)) H) : xV X B nL (xZ X B a b Q) a b P pc L [.int v] :=
  fun H _ _ hP hS _ => W.iret hX.1 hX.2.1 hr (fun t ht _ => x_endq hX hS (hq H hP) t ht) hS.2.2 hd hX.2.2.2.2.1
theorem x_zret (hX : xO X cc own nL B g) (hr : (x_meth X).sig.returnType = some .boolean) {v : Int32} (hn : narrow .boolean (.int v) = .int v) (hd : decode cc pc = .ok (.ireturn, 1)) (hq : ∀ H, P H → Q (some (.int v)) H) : xV X B nL (xZ X B a b Q) a b P pc L [.int v] :=
  fun H _ _ hP hS _ => W.zret hX.1 hX.2.1 hr hn (fun t ht _ => x_endq hX hS (hq H hP) t ht) hS.2.2 hd hX.2.2.2.2.1
theorem x_lret (hX : xO X cc own nL B g) (hr : (x_meth X).sig.returnType = some .long) {v : Int64} (hd : decode cc pc = .ok (.lreturn, 1)) (hq : ∀ H, P H → Q (some (.long v)) H) : xV X B nL (xZ X B a b Q) a b P pc L [.long v] :=
  fun H _ _ hP hS _ => W.lret hX.1 hX.2.1 hr (fun t ht _ => x_endq hX hS (hq H hP) t ht) hS.2.2 hd hX.2.2.2.2.1
theorem x_vret (hX : xO X cc own nL B g) (hr : (x_meth X).sig.returnType = none) (hd : decode cc pc = .ok (.return_, 1)) (hq : ∀ H, P H → Q none H) : xV X B nL (xZ X B a b Q) a b P pc L [] :=
  fun H _ _ hP hS _ => W.vret hX.1 hX.2.1 hr (fun t ht _ => x_endq hX hS (hq H hP) t ht) hS.2.2 hd hX.2.2.2.2.1
theorem x_aret (hX : xO X cc own nL B g) {rt : FieldType} (hr : (x_meth X).sig.returnType = some rt) (hrt : (∃ n, rt = .object n) ∨ ∃ t, rt = .array t) {v : Value} (hv : v = .null ∨ ∃ q, v = .ref q) (hd : decode cc pc = .ok (.areturn, 1)) (hq : ∀ H, P H → Q (some v) H) : xV X B nL (xZ X B a b Q) a b P pc L [v] :=
  fun H _ _ hP hS _ => W.aret hX.1 hX.2.1 hr hrt hv (fun t ht _ => x_endq hX hS (hq H hP) t ht) hS.2.2 hd hX.2.2.2.2.1
theorem xC_of {l : Launch} {d mc ms maxL : Nat} {y : MethodName} {ret : Option FieldType} {av : List Value} (hy : plainName y.cls = true) (hlen : (lg_sl av).length ≤ maxL)
    (body : ∀ X : xX, x_l X = l → x_R X = xrm d mc ms → (x_meth X).sig.returnType = ret → (x_meth X).name = y.name → xO X cc y.cls maxL B g → xV X B maxL (xZ X B mc ms Q) 0 0 P 0 (lv_args 0 av) []) : xC l g B d mc ms y cc maxL ret av P Q := by
  refine Met.ofW (cc := cc) (maxL := maxL) (ret := ret) hy rfl ?_
  intro p e s m args below meth c s₁ Bd hml hv
  obtain ⟨rfl, hT, hK, hB, hP⟩ := hv
  have h := body (p, l, e, xrm d mc ms, s, m, av.toArray, below, meth, c) rfl rfl Bd.returns (name_of_methodNamed Bd.named Bd.method).1 ⟨Bd.exec, Bd.bytes, hml, findClass_of_methodNamed Bd.named, Bd.notSynchronized, hB, hK, hT⟩
  rw [lg_entry_eq]
  exact h s.heap [] _ hP va_S.rf (lv_entry av hlen)
/-- behind a call -/
theorem x_after {mc ms : Nat} {av : Array Value} {st0 : List Value} {H : Heap} {locs : List Loc} {ls : Array Slot} (hX : xO X cc own nL B g) (hr : va_Run X.1 X.2.1 X.2.2.1 X.2.2.2.1 X.2.2.2.2.1 X.2.2.2.2.2.1 X.2.2.2.2.2.2.1 X.2.2.2.2.2.2.2.1 X.2.2.2.2.2.2.2.2.1 X.2.2.2.2.2.2.2.2.2 H locs a b mc ms (F0 X.2.2.2.2.2.1 pc ls st0) st (xQc B Q av) (fun q => B ≤ q))
    (hS : va_S (fun q => B ≤ q) (x_s X).heap H locs) (hl : lv_has ls nL L) (kk : ∀ r, xV X B nL Z (a + mc) (b + ms) (Q r) (pc + 3) L (r.toList ++ st)) : W X.1 X.2.1 X.2.2.1 X.2.2.2.1 X.2.2.2.2.1 X.2.2.2.2.2.1 X.2.2.2.2.2.2.1 X.2.2.2.2.2.2.2.1 X.2.2.2.2.2.2.2.2.1 X.2.2.2.2.2.2.2.2.2 H locs a b Z (F0 X.2.2.2.2.2.1 pc ls st0) := by
  intro T hT Xs
  obtain ⟨v, st₀, t, T', L', h0, X', hL, e1, e2, ⟨r, hv, hq, hz, hk⟩, stp⟩ := hr T hT Xs
  cases hv
  rw [h0] at hz hk
  obtain ⟨t2, a1, b1⟩ := kk v T'.heap (locs ++ L') ls (by rw [e1]; exact hq) ⟨Nat.le_trans hS.1 (by rw [e1]; exact hz), fun q h1 h2 => by rw [e1, hk q (Nat.not_le.mp h2)]; exact hS.2.1 q h1 h2, fun q hq => by
      rcases List.mem_append.mp hq with h | h
      · exact hS.2.2 q h
      · exact hL q h⟩ hl T' rfl X'
  exact ⟨t2, stp t2 a1, b1⟩
theorem x_blind {av : List Value} : FrameBlind (xPc g B av P) := fun _ _ _ _ h => ⟨h.1, h.2.1.warm (State.WarmedH.refl _), va_K.moved (Vm.Alike.refl _) h.2.2.1, h.2.2.2.1, h.2.2.2.2⟩
/-- what a call of y from own's place idx of the pool needs: the link, the code, the class, the number of its arguments -/
def xcl (own : String) (idx : Nat) (y : MethodName) (bytes : ByteArray) (maxL : Nat) (ret : Option FieldType) (n : Nat) : Prop :=
  xm (.methodLink own idx y) ∧ xm (.code y bytes maxL ret) ∧ xm (.initialized y.cls) ∧ (y.cls ≠ "java/lang/invoke/MethodHandle" ∧ y.cls ≠ "java/lang/invoke/VarHandle" ∧ (parseMethodDescriptor y.desc).map (fun d => d.parameters.length) = some n) ∧ maxL ≤ 21
theorem x_callB {d mc ms mc0 ms0 maxL : Nat} {y : MethodName} {bytes : ByteArray} {ret : Option FieldType} (hX : xO X cc own nL B g) (hR : x_R X = xrm (d + 1) mc0 ms0) (hc : xcl own idx y bytes maxL ret n) : CallB (x_R X) (x_s X) (x_args X) own idx y bytes maxL ret [.code y bytes maxL ret] (xrm d mc ms) mc ms n := by
  obtain ⟨h1, h2, h3, ⟨h4, h5, h6⟩, h7⟩ := hc
  have hT := hX.2.2.2.2.2.2.2
  refine ⟨rfl, rfl, by rw [hR]; exact Nat.le_refl _, by rw [hR]; show 8 + (maxL + 11) + 40 * d ≤ 40 * (d + 1); omega, fun w hw a' U hW => ?_, List.mem_cons_self, hT.m h2, hT.m h3, ⟨h4, h5⟩, fun sig h => ?_, hT.m h1⟩
  · rw [List.mem_singleton.mp hw]
    exact (hT.warm hW).m h2
  · rw [h] at h6
    exact (Option.some.inj h6).symm
theorem x_pre (hX : xO X cc own nL B g) {H : Heap} {locs : List Loc} {av : List Value} (hP : P H) (hS : va_S (fun q => B ≤ q) (x_s X).heap H locs) (U : State) (hU : U.heap = H) (hW : (x_s X).WarmedH U.vm) : xPc g B av P av.toArray U :=
  ⟨rfl, hX.2.2.2.2.2.2.2.warm hW, hX.2.2.2.2.2.2.1.warm hW, by rw [hU]; exact Nat.le_trans hX.2.2.2.2.2.1 hS.1, by rw [hU]; exact hP⟩
theorem x_callS {d mc ms mc0 ms0 maxL : Nat} {y : MethodName} {bytes : ByteArray} {ret : Option FieldType} {As st0 : List Value} (hX : xO X cc own nL B g) (hR : x_R X = xrm (d + 1) mc0 ms0) (hC : xC (x_l X) g B d mc ms y bytes maxL ret As P Q) (hc : xcl own idx y bytes maxL ret n) (hs : xm (.static y)) (hn : As.length = n) (hst : st0 = As.reverse ++ st) (hcat : (st.map fun v => v.category).sum ≤ 8) (hf : a + mc ≤ mc0 ∧ b + ms ≤ ms0) (hd : decode cc pc = .ok (.invokestatic idx, 3))
    (kk : ∀ r, xV X B nL Z (a + mc) (b + ms) (Q r) (pc + 3) L (r.toList ++ st)) : xV X B nL Z a b P pc L st0 := by
  intro H locs ls hP hS hl
  subst hst
  have hf' : a + mc ≤ (x_R X).cells ∧ b + ms ≤ (x_R X).slots := by rw [hR]; exact hf
  have hsz : ls.size = nL := hl.1
  exact x_after hX (va_runS (Ts := []) (As := As) (rest := st) ⟨hX.1, hX.2.1, hX.2.2.1, hX.2.2.2.1, fun _ h => by cases h⟩ hC ⟨x_callB hX hR hc, hX.2.2.2.2.2.2.2.m hs⟩ ⟨x_blind, fun U hU hW => x_pre hX hP hS U hU hW⟩ rfl hn hsz rfl (lv_room hcat) hd hf') hS hl kk
theorem x_callV {d mc ms mc0 ms0 maxL : Nat} {y : MethodName} {bytes : ByteArray} {ret : Option FieldType} {As st0 : List Value} (hX : xO X cc own nL B g) (hR : x_R X = xrm (d + 1) mc0 ms0) (hC : xC (x_l X) g B d mc ms y bytes maxL ret (.ref (B + k) :: As) (xP g B N K I J F) Q) (hc : xcl own idx y bytes maxL ret n) (hi : xm (.instanceMethod y)) (hse : xm (.selects C y y)) (hcl : vwCl[ci]? = some (C, T, M)) (hk : k < N) (hK : K k = (0, ci)) (hn : As.length = n) (hst : st0 = As.reverse ++ .ref (B + k) :: st) (hcat : (st.map fun v => v.category).sum ≤ 8) (hf : a + mc ≤ mc0 ∧ b + ms ≤ ms0) (hd : decode cc pc = .ok (.invokevirtual idx, 3))
    (kk : ∀ r, xV X B nL Z (a + mc) (b + ms) (Q r) (pc + 3) L (r.toList ++ st)) : xV X B nL Z a b (xP g B N K I J F) pc L st0 := by
  intro H locs ls hP hS hl
  subst hst
  have hf' : a + mc ≤ (x_R X).cells ∧ b + ms ≤ (x_R X).slots := by rw [hR]; exact hf
  have hsz : ls.size = nL := hl.1
  exact x_after hX (va_runV (Ts := []) (As := As) (rest := st) ⟨hX.1, hX.2.1, hX.2.2.1, hX.2.2.2.1, fun _ h => by cases h⟩ hC ⟨x_callB hX hR hc, hX.2.2.2.2.2.2.2.m hi, hX.2.2.2.2.2.2.2.m hse⟩ ⟨x_blind, va_recv hX.2.2.2.2.2.2.1 (x_one (x_objAt hk hK hP)) hcl (q0 := 0) rfl, fun U hU hW => x_pre hX hP hS U hU hW⟩ rfl hn hsz rfl (lv_room hcat) hd hf') hS hl kk
theorem x_callI {d mc ms mc0 ms0 maxL q : Nat} {y : MethodName} {bytes : ByteArray} {As st0 : List Value} (hX : xO X cc own nL B g) (hR : x_R X = xrm (d + 1) mc0 ms0) (hC : xC (x_l X) g B d mc ms y bytes maxL none (.ref q :: As) P Q) (hc : xcl own idx y bytes maxL none n) (hi : xm (.instanceMethod y)) (hy : y.name = "<init>") (hn : As.length = n) (hst : st0 = As.reverse ++ .ref q :: st) (hcat : (st.map fun v => v.category).sum ≤ 8) (hf : a + mc ≤ mc0 ∧ b + ms ≤ ms0) (hd : decode cc pc = .ok (.invokespecial idx, 3))
    (kk : ∀ r, xV X B nL Z (a + mc) (b + ms) (Q r) (pc + 3) L (r.toList ++ st)) : xV X B nL Z a b P pc L st0 := by
  intro H locs ls hP hS hl
  subst hst
  have hf' : a + mc ≤ (x_R X).cells ∧ b + ms ≤ (x_R X).slots := by rw [hR]; exact hf
  have hsz : ls.size = nL := hl.1
  exact x_after hX (va_runI (Ts := []) (As := As) (rest := st) ⟨hX.1, hX.2.1, hX.2.2.1, hX.2.2.2.1, fun _ h => by cases h⟩ hC ⟨x_callB hX hR hc, hy, hX.2.2.2.2.2.2.2.m hi⟩ ⟨x_blind, fun U hU hW => x_pre hX hP hS U hU hW⟩ rfl hn hsz rfl (lv_room hcat) hd hf') hS hl kk
end XH
end
section
section XN
variable {X : xX} {cc : ByteArray} {own : String} {nL B a b : Nat} {g : xG} {Z : State → Prop} {pc : Nat} {L : List (Nat × Value)} {st : List Value}
variable {N k j ci idx M n p : Nat} {i : Int32} {K : Nat → Nat × Nat} {I : Nat → Nat → Int32} {J : Nat → Nat → Int64} {F : Nat → Nat → Option Nat} {C : String} {T : u_T} {ty : Nat → FieldType}
theorem x_new (hX : xO X cc own nL B g) (hc : xcls ci C T M ty) (hlk : xm (.classLink own idx C)) (hins : xm (.instantiable C M)) (hini : xm (.initialized C)) (hcells : a + 1 ≤ (x_R X).cells) (hslots : b + M ≤ (x_R X).slots) (hd : decode cc pc = .ok (.new idx, 3))
    (kk : xV X B nL Z (a + 1) (b + M) (xP g B (N + 1) (va_up K N (0, ci)) (va_up I N (fun _ => 0)) (va_up J N (fun _ => 0)) (va_up F N (fun _ => none))) (pc + 3) L (.ref (B + N) :: st)) : xV X B nL Z a b (xP g B N K I J F) pc L st := by
  intro H locs ls hP hS hl
  obtain ⟨hx, hb, -, hown, -, -, hKk, hT⟩ := hX
  obtain ⟨hc0, hin, hty, hnm, hft, ht2⟩ := hc
  have hts : ∀ w ∈ u_ws C T M, w.before (x_args X) (x_s X) = true := fun w h => hT.m (hin w h)
  have hKn := hKk.1 ci _ hc0
  refine W.newcK hx hb hown (hT.m hlk) (hT.m hins) (hT.m hini) rfl hd hcells hslots hKn.2.1 hP.2 fun H1 kC hkC e1 z1 o1 => ?_
  refine kk H1 locs ls (xP_push hP z1 o1 ⟨_, hc0, (u_born ty hts (fun _ h => h) hKn hkC e1 hty).to (fun p hp => ?_)⟩) ⟨Nat.le_trans hS.1 (by rw [z1, hP.2]; omega), fun q h1 h2 => (o1 q (by have := hS.1; have := hP.2; omega)).trans (hS.2.1 q h1 h2), hS.2.2⟩ hl
  have h3 := xfs_at (B := B) (i := fun _ => 0) (j := fun _ => 0) (f := fun _ => none) hft hp
  change defaultValue (ty p) = vp_V (xfs B (xft ci) (fun _ => 0) (fun _ => 0) (fun _ => none)) p
  unfold vp_V
  rw [List.getD_eq_getElem?_getD, h3]
  have h4 := ht2 p hp
  revert h4
  cases ty p <;> simp [xtn, defaultValue, va_rf]
set_option maxHeartbeats 200000 in
theorem x_newI (hX : xO X cc own nL B g) (hat : Cond.arrayClass (newarray.typeOf .int) ∈ lw_tbl) (hn : ¬ i < 0) (hN : i.toNatClampNeg = n) (hbytes : n * componentBytes (newarray.typeOf .int) ≤ 536870912) (hcells : a + 1 ≤ (x_R X).cells) (hslots : b + n ≤ (x_R X).slots) (hd : decode cc pc = .ok (.newarray .int, 2))
    (kk : xV X B nL Z (a + 1) (b + n) (xP g B (N + 1) (va_up K N (1, n)) (va_up I N (fun _ => 0)) (va_up J N (fun _ => 0)) (va_up F N (fun _ => none))) (pc + 2) L (.ref (B + N) :: st)) : xV X B nL Z a b (xP g B N K I J F) pc L (.int i :: st) := by
  intro H locs ls hP hS hl
  have harr : (Cond.arrayClass (newarray.typeOf .int)).before (x_args X) (x_s X) = true := hX.2.2.2.2.2.2.2.2 _ hat rfl
  have hRA : (x_s X).vm.findClass ("[" ++ (newarray.typeOf .int).toString) = some (g.2 0) := (hX.2.2.2.2.2.2.1.2 0 _ rfl).2
  refine va_newaK (atype := .int) (N := n) (h := B + N) hX.1 hX.2.1 harr rfl hd rfl hn hN hbytes hcells hslots hP.2 ?_
  intro H1 cA e1 z1 o1 _ hNm
  have hcA : cA = g.2 0 := Option.some.inj (hNm.symm.trans hRA)
  rw [hcA] at e1
  have he : va_at g.1 vwCl (B + N, xce g B (1, n) (fun _ => 0) (fun _ => 0) (fun _ => none)) H1 := by
    show H1[B + N]? = some (vp_cell (g.2 0) (n, .inl (fun _ => 0)))
    exact e1
  have hPn := xP_push hP z1 o1 he
  have hSn : va_S (fun q => B ≤ q) (x_s X).heap H1 locs := ⟨Nat.le_trans hS.1 (by rw [z1, hP.2]; omega), fun q h1 h2 => (o1 q (by have := hS.1; have := hP.2; omega)).trans (hS.2.1 q h1 h2), hS.2.2⟩
  exact kk H1 locs ls hPn hSn hl
set_option maxHeartbeats 200000 in
theorem x_newJ (hX : xO X cc own nL B g) (hat : Cond.arrayClass (newarray.typeOf .long) ∈ lw_tbl) (hn : ¬ i < 0) (hN : i.toNatClampNeg = n) (hbytes : n * componentBytes (newarray.typeOf .long) ≤ 536870912) (hcells : a + 1 ≤ (x_R X).cells) (hslots : b + n ≤ (x_R X).slots) (hd : decode cc pc = .ok (.newarray .long, 2))
    (kk : xV X B nL Z (a + 1) (b + n) (xP g B (N + 1) (va_up K N (2, n)) (va_up I N (fun _ => 0)) (va_up J N (fun _ => 0)) (va_up F N (fun _ => none))) (pc + 2) L (.ref (B + N) :: st)) : xV X B nL Z a b (xP g B N K I J F) pc L (.int i :: st) := by
  intro H locs ls hP hS hl
  have harr : (Cond.arrayClass (newarray.typeOf .long)).before (x_args X) (x_s X) = true := hX.2.2.2.2.2.2.2.2 _ hat rfl
  have hRA : (x_s X).vm.findClass ("[" ++ (newarray.typeOf .long).toString) = some (g.2 1) := (hX.2.2.2.2.2.2.1.2 1 _ rfl).2
  refine va_newaK (atype := .long) (N := n) (h := B + N) hX.1 hX.2.1 harr rfl hd rfl hn hN hbytes hcells hslots hP.2 ?_
  intro H1 cA e1 z1 o1 _ hNm
  have hcA : cA = g.2 1 := Option.some.inj (hNm.symm.trans hRA)
  rw [hcA] at e1
  have he : va_at g.1 vwCl (B + N, xce g B (2, n) (fun _ => 0) (fun _ => 0) (fun _ => none)) H1 := by
    show H1[B + N]? = some (vp_cell (g.2 1) (n, .inr (.inl (fun _ => 0))))
    exact e1
  have hPn := xP_push hP z1 o1 he
  have hSn : va_S (fun q => B ≤ q) (x_s X).heap H1 locs := ⟨Nat.le_trans hS.1 (by rw [z1, hP.2]; omega), fun q h1 h2 => (o1 q (by have := hS.1; have := hP.2; omega)).trans (hS.2.1 q h1 h2), hS.2.2⟩
  exact kk H1 locs ls hPn hSn hl
set_option maxHeartbeats 200000 in
theorem x_newZ (hX : xO X cc own nL B g) (hat : Cond.arrayClass (newarray.typeOf .boolean) ∈ lw_tbl) (hn : ¬ i < 0) (hN : i.toNatClampNeg = n) (hbytes : n * componentBytes (newarray.typeOf .boolean) ≤ 536870912) (hcells : a + 1 ≤ (x_R X).cells) (hslots : b + n ≤ (x_R X).slots) (hd : decode cc pc = .ok (.newarray .boolean, 2))
    (kk : xV X B nL Z (a + 1) (b + n) (xP g B (N + 1) (va_up K N (3, n)) (va_up I N (fun _ => 0)) (va_up J N (fun _ => 0)) (va_up F N (fun _ => none))) (pc + 2) L (.ref (B + N) :: st)) : xV X B nL Z a b (xP g B N K I J F) pc L (.int i :: st) := by
  intro H locs ls hP hS hl
  have harr : (Cond.arrayClass (newarray.typeOf .boolean)).before (x_args X) (x_s X) = true := hX.2.2.2.2.2.2.2.2 _ hat rfl
  have hRA : (x_s X).vm.findClass ("[" ++ (newarray.typeOf .boolean).toString) = some (g.2 2) := (hX.2.2.2.2.2.2.1.2 2 _ rfl).2
  refine va_newaK (atype := .boolean) (N := n) (h := B + N) hX.1 hX.2.1 harr rfl hd rfl hn hN hbytes hcells hslots hP.2 ?_
  intro H1 cA e1 z1 o1 _ hNm
  have hcA : cA = g.2 2 := Option.some.inj (hNm.symm.trans hRA)
  rw [hcA] at e1
  have he : va_at g.1 vwCl (B + N, xce g B (3, n) (fun _ => 0) (fun _ => 0) (fun _ => none)) H1 := by
    show H1[B + N]? = some (vp_cell (g.2 2) (n, .inl (fun _ => 0)))
    exact e1
  have hPn := xP_push hP z1 o1 he
  have hSn : va_S (fun q => B ≤ q) (x_s X).heap H1 locs := ⟨Nat.le_trans hS.1 (by rw [z1, hP.2]; omega), fun q h1 h2 => (o1 q (by have := hS.1; have := hP.2; omega)).trans (hS.2.1 q h1 h2), hS.2.2⟩
  exact kk H1 locs ls hPn hSn hl
/-- a new array of references to objects of a class -/
theorem x_newR {t : Nat} (hX : xO X cc own nL B g) (hlk : xm (.classLink own idx C)) (hov : Cond.arrayOver (.object C) ∈ lw_tbl) (hty : (xtys g.2)[t + 3]? = some (g.2 (t + 3), .object C)) (hn : ¬ i < 0) (hN : i.toNatClampNeg = n) (hbytes : n * 4 ≤ 536870912) (hcells : a + 1 ≤ (x_R X).cells) (hslots : b + n ≤ (x_R X).slots) (hd : decode cc pc = .ok (.anewarray idx, 3))
    (kk : xV X B nL Z (a + 1) (b + n) (xP g B (N + 1) (va_up K N (t + 4, n)) (va_up I N (fun _ => 0)) (va_up J N (fun _ => 0)) (va_up F N (fun _ => none))) (pc + 3) L (.ref (B + N) :: st)) : xV X B nL Z a b (xP g B N K I J F) pc L (.int i :: st) := by
  intro H locs ls hP hS hl
  subst hN
  refine W.anew hX.1 hX.2.1 hX.2.2.2.1 (hX.2.2.2.2.2.2.2.m hlk) (va_AO.use (hX.2.2.2.2.2.2.2.2 _ hov rfl)) rfl hd rfl hn hbytes hcells hslots fun cA kA comp f1 f2 f3 f4 => ?_
  generalize hH1 : H.push ({ cls := cA, slots := Array.replicate i.toNatClampNeg .null, vm := .none } : Cell) = H1
  have z1 : H1.size = H.size + 1 := by rw [← hH1, Array.size_push]
  have e1 : H1[H.size]? = some (arrV cA i.toNatClampNeg (fun _ => .null)) := by rw [← hH1, Array.getElem?_push_size, ← arrV_new]
  have o1 : ∀ q : Nat, q < H.size → H1[q]? = H[q]? := fun q hq => by rw [← hH1, Array.getElem?_push, if_neg (Nat.ne_of_lt hq)]
  obtain ⟨-, -, -, -, -, hnm⟩ := (hX.2.2.2.2.2.2.1.2 (t + 3) _ hty).2
  have hcA : cA = g.2 (t + 3) := Option.some.inj (f1.symm.trans hnm)
  subst hcA
  rw [hP.2] at z1 e1 o1 ⊢
  exact kk H1 locs ls (xP_push hP z1 o1 (show H1[B + N]? = some (vp_cell _ _) from e1)) ⟨Nat.le_trans hS.1 (by rw [z1, hP.2]; omega), fun q h1 h2 => (o1 q (by have := hS.1; have := hP.2; omega)).trans (hS.2.1 q h1 h2), hS.2.2⟩ hl
theorem x_aald {t r : Nat} (hX : xO X cc own nL B g) (hk : k < N) (hK : K k = (t + 4, n)) (hty : (xtys g.2)[t + 3]? = some (g.2 (t + 3), .object C)) (hp : xat i n p) (hr : F k p = some r) (hd : decode cc pc = .ok (.aaload, 1))
    (kk : xV X B nL Z a b (xP g B N K I J F) (pc + 1) L (.ref (B + r) :: st)) : xV X B nL Z a b (xP g B N K I J F) pc L (.int i :: .ref (B + k) :: st) := by
  intro H locs ls hP hS hl'
  have h := hP.1 k hk
  rw [hK] at h
  have hh := kk H locs ls hP hS hl'
  refine va_aldq (f := fun p => (F k p).map (B + ·)) hX.1 hX.2.1 hX.2.2.2.2.2.2.1 (x_one h) 0 (t + 3) rfl hty hp.1 hd ?_
  rw [hp.2]
  simp only [hr, Option.map_some, va_rf]
  exact hh
theorem x_aast {t v : Nat} (hX : xO X cc own nL B g) (hc : xcls ci C T M ty) (hk : k < N) (hK : K k = (t + 4, n)) (hty : (xtys g.2)[t + 3]? = some (g.2 (t + 3), .object C)) (hp : xat i n p) (hv : v < N) (hKv : K v = (0, ci)) (hd : decode cc pc = .ok (.aastore, 1))
    (kk : xV X B nL Z a b (xP g B N K I J (xu F k p (some v))) (pc + 1) L st) : xV X B nL Z a b (xP g B N K I J F) pc L (.ref (B + v) :: .int i :: .ref (B + k) :: st) := by
  intro H locs ls hP hS hl'
  have h := hP.1 k hk
  rw [hK] at h
  have h0 : ¬ i < 0 := fun q => hp.1 (Or.inl q)
  have hlt : i.toNatClampNeg < n := Nat.not_le.mp fun q => hp.1 (Or.inr q)
  obtain ⟨r', hr', cellV, g1, g2, g3, -⟩ := hP.1 v hv |> fun z => by rw [hKv] at z; exact z
  have hKk := hX.2.2.2.2.2.2.1
  have hcls := (hKk.1 ci _ hc.1).2
  obtain ⟨kA, comp, k1, k2, k3, -⟩ := (hKk.2 (t + 3) _ hty).2
  have hcomp : comp = g.1.1 ci := Option.some.inj (k3.symm.trans hcls.1)
  subst hcomp
  obtain ⟨kC, hkC, -⟩ := hcls.2
  refine W.aast hX.1 hX.2.1 h (fun q h => by cases h) (fun h => by cases h) k1 k2 rfl hkC ⟨h0, by show _ < (arrV _ _ _).slots.size; rw [arrV_size]; exact hlt⟩ g1 (fun q h => by rw [g3] at h; cases h) (by rw [g2]; exact hkC) (by rw [g2]; exact va_assign hcls) rfl rfl hd fun H1 e z oq => ?_
  refine kk H1 _ ls (xP_set hP z oq ?_ (fun q hq => ⟨rfl, rfl, xu_ne hq⟩)) (hS.put z oq (Nat.le_add_right B k)) hl'
  rw [hK, xu_row]
  show H1[B + k]? = some (vp_cell _ _)
  rw [e, vp_cell_q, vp_cell_q, arrV_store, hp.2]
  congr 2
  funext q
  by_cases hq : q = p <;> simp [updV, va_up, hq, va_rf]
theorem x_objInit (hX : xO X cc own nL B g) {d mc ms r : Nat} (hR : x_R X = xrm (d + 1) mc ms) (h1 : xm (.methodLink own idx Lib.objectInit)) (h2 : xm (.instanceMethod Lib.objectInit)) (h3 : xm (.code Lib.objectInit ⟨#[0xb1]⟩ 1 none)) {P : Heap → Prop} (hcat : (st.map fun v => v.category).sum ≤ 8) (hd : decode cc pc = .ok (.invokespecial idx, 3))
    (kk : xV X B nL Z a b P (pc + 3) L st) : xV X B nL Z a b P pc L (.ref r :: st) := by
  intro H locs ls hP hS hl
  have hT := hX.2.2.2.2.2.2.2
  refine W.objInit hX.1 hX.2.1 hX.2.2.2.1 (hT.m h1) (hT.m h2) (hT.m h3) rfl (by rw [hX.2.2.1]; exact hl.1) rfl hd (by show 1 ≤ (x_R X).frames; rw [hR]; exact Nat.le_add_left 1 d) (by show 2 * 0 + _ + 12 ≤ (x_R X).locals; rw [hR]; show 2 * 0 + _ + 12 ≤ 40 * (d + 1); omega) (kk H locs ls hP hS hl)
end XN
end
section
section XC
variable {X : xX} {cc : ByteArray} {own : String} {nL B a b : Nat} {g : xG} {Z : State → Prop} {pc : Nat} {L : List (Nat × Value)} {st : List Value}
variable {N k j ci idx M n p : Nat} {i : Int32} {K : Nat → Nat × Nat} {I : Nat → Nat → Int32} {J : Nat → Nat → Int64} {F : Nat → Nat → Option Nat} {P : Heap → Prop} {Q : Option Value → Heap → Prop}
def xcn (own : String) (idx : Nat) (y : MethodName) (host : String) (bytes : ByteArray) (maxL : Nat) (n : Nat) : Prop :=
  Cond.methodLinkNest own idx y host ∈ lw_tbl ∧ xm (.code y bytes maxL none) ∧ xm (.initialized y.cls) ∧ (y.cls ≠ "java/lang/invoke/MethodHandle" ∧ y.cls ≠ "java/lang/invoke/VarHandle" ∧ (parseMethodDescriptor y.desc).map (fun d => d.parameters.length) = some n) ∧ maxL ≤ 21
/-- a private constructor of a nest mate -/
theorem x_callIN {d mc ms mc0 ms0 maxL q : Nat} {y : MethodName} {host : String} {bytes : ByteArray} {As st0 : List Value} (hX : xO X cc own nL B g) (hR : x_R X = xrm (d + 1) mc0 ms0) (hC : xC (x_l X) g B d mc ms y bytes maxL none (.ref q :: As) P Q) (hc : xcn own idx y host bytes maxL n) (hi : xm (.instanceMethod y)) (hy : y.name = "<init>") (hn : As.length = n) (hst : st0 = As.reverse ++ .ref q :: st) (hcat : (st.map fun v => v.category).sum ≤ 8) (hf : a + mc ≤ mc0 ∧ b + ms ≤ ms0) (hd : decode cc pc = .ok (.invokespecial idx, 3))
    (kk : ∀ r, xV X B nL Z (a + mc) (b + ms) (Q r) (pc + 3) L (r.toList ++ st)) : xV X B nL Z a b P pc L st0 := by
  intro H locs ls hP hS hl
  subst hst
  have hf' : a + mc ≤ (x_R X).cells ∧ b + ms ≤ (x_R X).slots := by rw [hR]; exact hf
  have hsz : ls.size = nL := hl.1
  obtain ⟨h1, h2, h3, ⟨h4, h5, h6⟩, h7⟩ := hc
  have hT := hX.2.2.2.2.2.2.2
  have cn : va_CN (x_R X) (x_s X) (x_args X) own idx y host bytes maxL none [.code y bytes maxL none] (xrm d mc ms) mc ms n := by
    refine ⟨⟨rfl, rfl, by rw [hR]; exact Nat.le_refl _, by rw [hR]; show 8 + (maxL + 11) + 40 * d ≤ 40 * (d + 1); omega, fun w hw a' U hW => ?_, List.mem_cons_self⟩, hT.m h2, hT.m h3, ⟨h4, h5⟩, fun sig h => ?_, va_Nw.use rfl (hT.2 _ h1 rfl)⟩
    · rw [List.mem_singleton.mp hw]
      exact (hT.warm hW).m h2
    · rw [h] at h6
      exact (Option.some.inj h6).symm
  exact x_after hX (va_runIN (Ts := []) (As := As) (rest := st) ⟨hX.1, hX.2.1, hX.2.2.1, hX.2.2.2.1, fun _ h => by cases h⟩ hC ⟨cn, hy, hT.m hi⟩ ⟨x_blind, fun U hU hW => x_pre hX hP hS U hU hW⟩ rfl hn hsz rfl (lv_room hcat) hd hf') hS hl kk
theorem x_clampInt {z : Int32} (hz : ¬ z < 0) : z.toInt = (z.toNatClampNeg : Int) := by
  have hz0 : (0 : Int) ≤ z.toInt := by
    have := Int32.not_lt.mp hz
    simpa using Int32.le_iff_toInt_le.mp this
  show z.toInt = ((z.toInt.toNat : Nat) : Int)
  omega
/-- System.arraycopy between two long[] -/
theorem x_copyJ {d mc ms k0 k1 n0 n1 sp' dp' n' : Nat} {sp dp nn : Int32} (hX : xO X cc own nL B g) (hR : x_R X = xrm (d + 1) mc ms) (w1 : xm (.methodLink own idx arraycopyName)) (w2 : xm (.native arraycopyName)) (w3 : xm (.static arraycopyName)) (w4 : xm (.initialized "java/lang/System"))
    (hk0 : k0 < N) (hK0 : K k0 = (2, n0)) (hk1 : k1 < N) (hK1 : K k1 = (2, n1)) (h1 : ¬ sp < 0) (h2 : ¬ dp < 0) (h3 : ¬ nn < 0) (e1 : sp.toNatClampNeg = sp') (e2 : dp.toNatClampNeg = dp') (e3 : nn.toNatClampNeg = n') (h4 : sp' + n' ≤ n0) (h5 : dp' + n' ≤ n1) (hcat : (st.map fun v => v.category).sum ≤ 8) (hd : decode cc pc = .ok (.invokestatic idx, 3))
    (kk : xV X B nL Z a b (xP g B N K I (va_up J k1 (va_cpy (J k0) (J k1) sp' dp' n')) F) (pc + 3) L st) : xV X B nL Z a b (xP g B N K I J F) pc L (.int nn :: .int dp :: .ref (B + k1) :: .int sp :: .ref (B + k0) :: st) := by
  intro H locs ls hP hS hl
  subst e1; subst e2; subst e3
  have hT := hX.2.2.2.2.2.2.2
  have hKk := hX.2.2.2.2.2.2.1
  have hc0 : H[B + k0]? = some (vp_cell (g.2 1) (n0, .inr (.inl (J k0)))) := by have h := hP.1 k0 hk0; rw [hK0] at h; exact h
  have hc1 : H[B + k1]? = some (vp_cell (g.2 1) (n1, .inr (.inl (J k1)))) := by have h := hP.1 k1 hk1; rw [hK1] at h; exact h
  obtain ⟨-, k0', hk0', cm0, hkk0⟩ := (hKk.2 1 _ rfl).1 n0 (fun j => .long (J k0 j))
  intro T hTT Xs
  obtain ⟨vm', X', step⟩ := Xs.arraycopy hX.1 hX.2.2.2.1 (hT.m w1) (hT.m w2) (hT.m w3) (hT.m w4) (src := B + k0) (dst := B + k1) (cs := vp_cell (g.2 1) (n0, .inr (.inl (J k0)))) (cd := vp_cell (g.2 1) (n1, .inr (.inl (J k1)))) (srcPos := sp) (destPos := dp) (n := nn) (by rw [hTT]; exact hc0) (by rw [hTT]; exact hc1)
    (fun _ h => by cases h) (fun _ h => by cases h) (fun h => by cases h) (fun h => by cases h) hk0' hk0' hkk0 hkk0 (by simp [refKind]) h1 h2 h3
    (by rw [x_clampInt h1, x_clampInt h3]; show ¬ _ > ((arrV (g.2 1) n0 (fun j => .long (J k0 j))).slots.size : Int); rw [arrV_size]; omega)
    (by rw [x_clampInt h2, x_clampInt h3]; show ¬ _ > ((arrV (g.2 1) n1 (fun j => .long (J k1 j))).slots.size : Int); rw [arrV_size]; omega)
    (fun vm₁ _ q hq => by
      have e : (vp_cell (g.2 1) (n0, .inr (.inl (J k0)))).slots.getD (sp.toNatClampNeg + q) .null = .long (J k0 (sp.toNatClampNeg + q)) := by
        show (arrV (g.2 1) n0 (fun j => .long (J k0 j))).slots.getD _ _ = _
        rw [Array.getD_eq_getD_getElem?, arrV_read _ _ (by omega)]
        rfl
      refine ⟨?_, ?_⟩
      · rw [e]
        rfl
      · rw [e]
        exact trivial)
    (g := F0 X.2.2.2.2.2.1 pc ls (.int nn :: .int dp :: .ref (B + k1) :: .int sp :: .ref (B + k0) :: st)) rfl (by rw [hX.2.2.1]; exact hl.1) (rest := st) rfl (by rw [hX.2.1]; exact hd) (by show 1 ≤ (x_R X).frames; rw [hR]; exact Nat.le_add_left 1 d) (by show 2 * 0 + _ + (nativeFrameWords "java/lang/System" "arraycopy" 5 + 11) ≤ (x_R X).locals; rw [hR]; show 2 * 0 + _ + 18 ≤ 40 * (d + 1); omega)
  have e1 : copied (vp_cell (g.2 1) (n0, .inr (.inl (J k0)))) (vp_cell (g.2 1) (n1, .inr (.inl (J k1)))) sp dp nn = vp_cell (g.2 1) (n1, .inr (.inl (va_cpy (J k0) (J k1) sp.toNatClampNeg dp.toNatClampNeg nn.toNatClampNeg))) := va_copied (fun z => .long z) (g.2 1) (g.2 1) (J k0) (J k1) h4
  rw [e1] at X' step
  have hlt : B + k1 < H.size := (Array.getElem?_eq_some_iff.mp hc1).1
  generalize hH : ((T.setVm vm').setCell (B + k1) (vp_cell (g.2 1) (n1, .inr (.inl (va_cpy (J k0) (J k1) sp.toNatClampNeg dp.toNatClampNeg nn.toNatClampNeg))))) = T' at X' step
  have hheap : T'.heap = H.setIfInBounds (B + k1) (vp_cell (g.2 1) (n1, .inr (.inl (va_cpy (J k0) (J k1) sp.toNatClampNeg dp.toNatClampNeg nn.toNatClampNeg)))) := by rw [← hH, ← hTT]; rfl
  have oq : ∀ q : Nat, q ≠ B + k1 → T'.heap[q]? = H[q]? := fun q hq => by rw [hheap]; simp [Array.getElem?_setIfInBounds, Ne.symm hq]
  have z : T'.heap.size = H.size := by rw [hheap]; simp
  have he : T'.heap[B + k1]? = some (vp_cell (g.2 1) (n1, .inr (.inl (va_cpy (J k0) (J k1) sp.toNatClampNeg dp.toNatClampNeg nn.toNatClampNeg)))) := by rw [hheap]; simp [Array.getElem?_setIfInBounds, hlt]
  obtain ⟨t, a1, b1⟩ := kk T'.heap _ ls (xP_set hP z oq (by rw [hK1, va_up_self]; exact he) (fun q hq => ⟨rfl, va_up_ne _ _ hq, rfl⟩)) ⟨by rw [z]; exact hS.1, fun q g1 g2 => by
      rw [oq q (fun e => g2 (by rw [e]; exact Nat.le_add_right B k1))]
      exact hS.2.1 q g1 g2, fun q hq => by
      rcases List.mem_append.mp hq with h | h
      · exact hS.2.2 q h
      · obtain ⟨w, -, hw⟩ := List.mem_map.mp h
        rw [← hw]
        exact Nat.le_add_right B k1⟩ hl T' rfl X'
  exact ⟨t, step t a1, b1⟩
/-- System.arraycopy between two int[] -/
theorem x_copyI {d mc ms k0 k1 n0 n1 sp' dp' n' : Nat} {sp dp nn : Int32} (hX : xO X cc own nL B g) (hR : x_R X = xrm (d + 1) mc ms) (w1 : xm (.methodLink own idx arraycopyName)) (w2 : xm (.native arraycopyName)) (w3 : xm (.static arraycopyName)) (w4 : xm (.initialized "java/lang/System"))
    (hk0 : k0 < N) (hK0 : K k0 = (1, n0)) (hk1 : k1 < N) (hK1 : K k1 = (1, n1)) (h1 : ¬ sp < 0) (h2 : ¬ dp < 0) (h3 : ¬ nn < 0) (e1 : sp.toNatClampNeg = sp') (e2 : dp.toNatClampNeg = dp') (e3 : nn.toNatClampNeg = n') (h4 : sp' + n' ≤ n0) (h5 : dp' + n' ≤ n1) (hcat : (st.map fun v => v.category).sum ≤ 8) (hd : decode cc pc = .ok (.invokestatic idx, 3))
    (kk : xV X B nL Z a b (xP g B N K (va_up I k1 (va_cpy (I k0) (I k1) sp' dp' n')) J F) (pc + 3) L st) : xV X B nL Z a b (xP g B N K I J F) pc L (.int nn :: .int dp :: .ref (B + k1) :: .int sp :: .ref (B + k0) :: st) := by
  intro H locs ls hP hS hl
  subst e1; subst e2; subst e3
  have hT := hX.2.2.2.2.2.2.2
  have hKk := hX.2.2.2.2.2.2.1
  have hc0 : H[B + k0]? = some (vp_cell (g.2 0) (n0, .inl (I k0))) := by have h := hP.1 k0 hk0; rw [hK0] at h; exact h
  have hc1 : H[B + k1]? = some (vp_cell (g.2 0) (n1, .inl (I k1))) := by have h := hP.1 k1 hk1; rw [hK1] at h; exact h
  obtain ⟨-, k0', hk0', cm0, hkk0⟩ := (hKk.2 0 _ rfl).1 n0 (fun j => .int (I k0 j))
  intro T hTT Xs
  obtain ⟨vm', X', step⟩ := Xs.arraycopy hX.1 hX.2.2.2.1 (hT.m w1) (hT.m w2) (hT.m w3) (hT.m w4) (src := B + k0) (dst := B + k1) (cs := vp_cell (g.2 0) (n0, .inl (I k0))) (cd := vp_cell (g.2 0) (n1, .inl (I k1))) (srcPos := sp) (destPos := dp) (n := nn) (by rw [hTT]; exact hc0) (by rw [hTT]; exact hc1)
    (fun _ h => by cases h) (fun _ h => by cases h) (fun h => by cases h) (fun h => by cases h) hk0' hk0' hkk0 hkk0 (by simp [refKind]) h1 h2 h3
    (by rw [x_clampInt h1, x_clampInt h3]; show ¬ _ > ((arrV (g.2 0) n0 (fun j => .int (I k0 j))).slots.size : Int); rw [arrV_size]; omega)
    (by rw [x_clampInt h2, x_clampInt h3]; show ¬ _ > ((arrV (g.2 0) n1 (fun j => .int (I k1 j))).slots.size : Int); rw [arrV_size]; omega)
    (fun vm₁ _ q hq => by
      have e : (vp_cell (g.2 0) (n0, .inl (I k0))).slots.getD (sp.toNatClampNeg + q) .null = .int (I k0 (sp.toNatClampNeg + q)) := by
        show (arrV (g.2 0) n0 (fun j => .int (I k0 j))).slots.getD _ _ = _
        rw [Array.getD_eq_getD_getElem?, arrV_read _ _ (by omega)]
        rfl
      refine ⟨?_, ?_⟩
      · rw [e]
        rfl
      · rw [e]
        exact trivial)
    (g := F0 X.2.2.2.2.2.1 pc ls (.int nn :: .int dp :: .ref (B + k1) :: .int sp :: .ref (B + k0) :: st)) rfl (by rw [hX.2.2.1]; exact hl.1) (rest := st) rfl (by rw [hX.2.1]; exact hd) (by show 1 ≤ (x_R X).frames; rw [hR]; exact Nat.le_add_left 1 d) (by show 2 * 0 + _ + (nativeFrameWords "java/lang/System" "arraycopy" 5 + 11) ≤ (x_R X).locals; rw [hR]; show 2 * 0 + _ + 18 ≤ 40 * (d + 1); omega)
  have e1 : copied (vp_cell (g.2 0) (n0, .inl (I k0))) (vp_cell (g.2 0) (n1, .inl (I k1))) sp dp nn = vp_cell (g.2 0) (n1, .inl (va_cpy (I k0) (I k1) sp.toNatClampNeg dp.toNatClampNeg nn.toNatClampNeg)) := va_copied (fun z => .int z) (g.2 0) (g.2 0) (I k0) (I k1) h4
  rw [e1] at X' step
  have hlt : B + k1 < H.size := (Array.getElem?_eq_some_iff.mp hc1).1
  generalize hH : ((T.setVm vm').setCell (B + k1) (vp_cell (g.2 0) (n1, .inl (va_cpy (I k0) (I k1) sp.toNatClampNeg dp.toNatClampNeg nn.toNatClampNeg)))) = T' at X' step
  have hheap : T'.heap = H.setIfInBounds (B + k1) (vp_cell (g.2 0) (n1, .inl (va_cpy (I k0) (I k1) sp.toNatClampNeg dp.toNatClampNeg nn.toNatClampNeg))) := by rw [← hH, ← hTT]; rfl
  have oq : ∀ q : Nat, q ≠ B + k1 → T'.heap[q]? = H[q]? := fun q hq => by rw [hheap]; simp [Array.getElem?_setIfInBounds, Ne.symm hq]
  have z : T'.heap.size = H.size := by rw [hheap]; simp
  have he : T'.heap[B + k1]? = some (vp_cell (g.2 0) (n1, .inl (va_cpy (I k0) (I k1) sp.toNatClampNeg dp.toNatClampNeg nn.toNatClampNeg))) := by rw [hheap]; simp [Array.getElem?_setIfInBounds, hlt]
  obtain ⟨t, a1, b1⟩ := kk T'.heap _ ls (xP_set hP z oq (by rw [hK1, va_up_self]; exact he) (fun q hq => ⟨va_up_ne _ _ hq, rfl, rfl⟩)) ⟨by rw [z]; exact hS.1, fun q g1 g2 => by
      rw [oq q (fun e => g2 (by rw [e]; exact Nat.le_add_right B k1))]
      exact hS.2.1 q g1 g2, fun q hq => by
      rcases List.mem_append.mp hq with h | h
      · exact hS.2.2 q h
      · obtain ⟨w, -, hw⟩ := List.mem_map.mp h
        rw [← hw]
        exact Nat.le_add_right B k1⟩ hl T' rfl X'
  exact ⟨t, step t a1, b1⟩
end XC
end
section
/-! glue between models and rows -/
def xlet {α β : Type} (a : α) (f : α → Option β) : Option β := f a
def xb {α β : Type} (a : Option α) (f : α → Option β) : Option β := a.bind f
theorem x_le {α β : Type} {a : α} {f : α → Option β} {r : β} (h : xlet a f = some r) : ∃ x, x = a ∧ f x = some r := ⟨a, rfl, h⟩
theorem x_bd {α β : Type} {a : Option α} {f : α → Option β} {r : β} (h : xb a f = some r) : ∃ x, a = some x ∧ f x = some r := Option.bind_eq_some_iff.mp h
theorem x_gd {c : Prop} [Decidable c] {α : Type} {a : Option α} {r : α} (h : (if c then a else none) = some r) : c ∧ a = some r := by
  by_cases hc : c
  · rw [if_pos hc] at h
    exact ⟨hc, h⟩
  · rw [if_neg hc] at h
    cases h
theorem x_nn {p : Prop} (h : p) : ¬ ¬ p := fun q => q h
abbrev xinb (i : Int32) (n : Nat) : Prop := ¬ (i < 0 ∨ n ≤ i.toNatClampNeg)
theorem x_in {i : Int32} {n : Nat} (h : xinb i n) : xat i n i.toNatClampNeg := ⟨h, rfl⟩
theorem x_kd {q : Nat × Nat} {t : Nat} (h : q.1 = t) : q = (t, q.2) := by rw [← h]
theorem x_nbool {v : Int32} (h : v = 0 ∨ v = 1) : narrow .boolean (.int v) = .int v := by rcases h with rfl | rfl <;> rfl
theorem x_fbool {v : Int32} (h : v = 0 ∨ v = 1) : fits .boolean (.int v) = true := by rcases h with rfl | rfl <;> rfl
/-- enough rounds for any loop here -/
def xFu : Nat := 4096
def xq (w : Option Value) (P : Heap → Prop) : Option Value → Heap → Prop := fun q H => q = w ∧ P H
section XK
variable {X : xX} {cc : ByteArray} {own : String} {nL B a b : Nat} {g : xG} {Z : State → Prop} {P : Heap → Prop} {pc : Nat} {L : List (Nat × Value)} {st : List Value}
theorem x_kki {v : Int32} (k : xV X B nL Z a b P pc L (.int v :: st)) : ∀ r, xV X B nL Z a b (xq (some (.int v)) P r) pc L (r.toList ++ st) := fun r H locs ls hP hS hl => by
  obtain ⟨rfl, hP⟩ := hP
  exact k H locs ls hP hS hl
theorem x_kkl {v : Int64} (k : xV X B nL Z a b P pc L (.long v :: st)) : ∀ r, xV X B nL Z a b (xq (some (.long v)) P r) pc L (r.toList ++ st) := fun r H locs ls hP hS hl => by
  obtain ⟨rfl, hP⟩ := hP
  exact k H locs ls hP hS hl
theorem x_kkr {v : Nat} (k : xV X B nL Z a b P pc L (.ref v :: st)) : ∀ r, xV X B nL Z a b (xq (some (.ref v)) P r) pc L (r.toList ++ st) := fun r H locs ls hP hS hl => by
  obtain ⟨rfl, hP⟩ := hP
  exact k H locs ls hP hS hl
theorem x_kkn (k : xV X B nL Z a b P pc L (.null :: st)) : ∀ r, xV X B nL Z a b (xq (some .null) P r) pc L (r.toList ++ st) := fun r H locs ls hP hS hl => by
  obtain ⟨rfl, hP⟩ := hP
  exact k H locs ls hP hS hl
theorem x_kkv (k : xV X B nL Z a b P pc L st) : ∀ r, xV X B nL Z a b (xq none P r) pc L (r.toList ++ st) := fun r H locs ls hP hS hl => by
  obtain ⟨rfl, hP⟩ := hP
  exact k H locs ls hP hS hl
theorem x_lif_eq (hX : xO X cc own nL B g) {x y : Int64} {off : Int} {tgt : Nat} (hd : decode cc pc = .ok (.lcmp, 1)) (hd2 : decode cc (pc + 1) = .ok (.ifCond .eq off, 3)) (ht : ((pc + 1 : Nat) : Int) + off = (tgt : Int)) (kt : x = y → xV X B nL Z a b P tgt L st) (kf : ¬ x = y → xV X B nL Z a b P (pc + 1 + 3) L st) : xV X B nL Z a b P pc L (.long y :: .long x :: st) :=
  x_lcmp hX hd (x_if_eq hX hd2 ht (fun h => kt ((lg_cmp_eq x y).mp h)) (fun h => kf (fun q => h ((lg_cmp_eq x y).mpr q))))
theorem x_lif_ne (hX : xO X cc own nL B g) {x y : Int64} {off : Int} {tgt : Nat} (hd : decode cc pc = .ok (.lcmp, 1)) (hd2 : decode cc (pc + 1) = .ok (.ifCond .ne off, 3)) (ht : ((pc + 1 : Nat) : Int) + off = (tgt : Int)) (kt : ¬ x = y → xV X B nL Z a b P tgt L st) (kf : x = y → xV X B nL Z a b P (pc + 1 + 3) L st) : xV X B nL Z a b P pc L (.long y :: .long x :: st) :=
  x_lcmp hX hd (x_if_ne hX hd2 ht (fun h => kt (fun q => h ((lg_cmp_eq x y).mpr q))) (fun h => kf ((lg_cmp_eq x y).mp h)))
theorem x_lif_lt (hX : xO X cc own nL B g) {x y : Int64} {off : Int} {tgt : Nat} (hd : decode cc pc = .ok (.lcmp, 1)) (hd2 : decode cc (pc + 1) = .ok (.ifCond .lt off, 3)) (ht : ((pc + 1 : Nat) : Int) + off = (tgt : Int)) (kt : x < y → xV X B nL Z a b P tgt L st) (kf : ¬ x < y → xV X B nL Z a b P (pc + 1 + 3) L st) : xV X B nL Z a b P pc L (.long y :: .long x :: st) :=
  x_lcmp hX hd (x_if_lt hX hd2 ht (fun h => kt ((lg_cmp_lt x y).mp h)) (fun h => kf (fun q => h ((lg_cmp_lt x y).mpr q))))
theorem x_lif_ge (hX : xO X cc own nL B g) {x y : Int64} {off : Int} {tgt : Nat} (hd : decode cc pc = .ok (.lcmp, 1)) (hd2 : decode cc (pc + 1) = .ok (.ifCond .ge off, 3)) (ht : ((pc + 1 : Nat) : Int) + off = (tgt : Int)) (kt : y ≤ x → xV X B nL Z a b P tgt L st) (kf : ¬ y ≤ x → xV X B nL Z a b P (pc + 1 + 3) L st) : xV X B nL Z a b P pc L (.long y :: .long x :: st) :=
  x_lcmp hX hd (x_if_ge hX hd2 ht (fun h => kt ((lg_cmp_ge x y).mp h)) (fun h => kf (fun q => h ((lg_cmp_ge x y).mpr q))))
theorem x_lif_gt (hX : xO X cc own nL B g) {x y : Int64} {off : Int} {tgt : Nat} (hd : decode cc pc = .ok (.lcmp, 1)) (hd2 : decode cc (pc + 1) = .ok (.ifCond .gt off, 3)) (ht : ((pc + 1 : Nat) : Int) + off = (tgt : Int)) (kt : y < x → xV X B nL Z a b P tgt L st) (kf : ¬ y < x → xV X B nL Z a b P (pc + 1 + 3) L st) : xV X B nL Z a b P pc L (.long y :: .long x :: st) :=
  x_lcmp hX hd (x_if_gt hX hd2 ht (fun h => kt ((lg_cmp_gt x y).mp h)) (fun h => kf (fun q => h ((lg_cmp_gt x y).mpr q))))
theorem x_lif_le (hX : xO X cc own nL B g) {x y : Int64} {off : Int} {tgt : Nat} (hd : decode cc pc = .ok (.lcmp, 1)) (hd2 : decode cc (pc + 1) = .ok (.ifCond .le off, 3)) (ht : ((pc + 1 : Nat) : Int) + off = (tgt : Int)) (kt : x ≤ y → xV X B nL Z a b P tgt L st) (kf : ¬ x ≤ y → xV X B nL Z a b P (pc + 1 + 3) L st) : xV X B nL Z a b P pc L (.long y :: .long x :: st) :=
  x_lcmp hX hd (x_if_le hX hd2 ht (fun h => kt ((lg_cmp_le x y).mp h)) (fun h => kf (fun q => h ((lg_cmp_le x y).mpr q))))
theorem x_ldc (hX : xO X cc own nL B g) {index : Nat} {v : Int32} (hc : xm (.constant own index v)) (hd : decode cc pc = .ok (.ldc index, 2)) (k : xV X B nL Z a b P (pc + 2) L (.int v :: st)) : xV X B nL Z a b P pc L st :=
  fun H locs ls hP hS hl => lv_ldc hX.1 hX.2.1 hX.2.2.2.1 (hX.2.2.2.2.2.2.2.m hc) hd (k H locs ls hP hS hl)
theorem x_ldcw (hX : xO X cc own nL B g) {index : Nat} {v : Int32} (hc : xm (.constant own index v)) (hd : decode cc pc = .ok (.ldc_w index, 3)) (k : xV X B nL Z a b P (pc + 3) L (.int v :: st)) : xV X B nL Z a b P pc L st :=
  fun H locs ls hP hS hl => lv_ldcw hX.1 hX.2.1 hX.2.2.2.1 (hX.2.2.2.2.2.2.2.m hc) hd (k H locs ls hP hS hl)
theorem x_ldc2 (hX : xO X cc own nL B g) {index : Nat} {v : Int64} (hc : xm (.constantLong own index v)) (hd : decode cc pc = .ok (.ldc2_w index, 3)) (k : xV X B nL Z a b P (pc + 3) L (.long v :: st)) : xV X B nL Z a b P pc L st :=
  fun H locs ls hP hS hl => lv_ldc2 hX.1 hX.2.1 hX.2.2.2.1 (hX.2.2.2.2.2.2.2.m hc) hd (k H locs ls hP hS hl)
theorem x_mminJ (hX : xO X cc own nL B g) {d mc ms index : Nat} (hR : x_R X = xrm (d + 1) mc ms) (w1 : xm (.methodLink own index Lib.MathLoose.min_long.x)) (w2 : xm (.static Lib.MathLoose.min_long.x)) (w3 : xm (.initialized "java/lang/Math")) (w4 : xm (.code Lib.MathLoose.min_long.x Lib.MathLoose.min_long.code 4 (some .long))) {x y : Int64} (hcat : (st.map fun v => v.category).sum ≤ 8) (hd : decode cc pc = .ok (.invokestatic index, 3))
    (k : xV X B nL Z 0 0 P (pc + 3) L (.long (if y < x then y else x) :: st)) : xV X B nL Z 0 0 P pc L (.long y :: .long x :: st) := by
  intro H locs ls hP hS hl
  have hT := hX.2.2.2.2.2.2.2
  exact va_mmin_long hX.1 hX.2.1 (by rw [hX.2.2.1]; exact hl.1.symm) hX.2.2.2.1 (hT.m w1) (hT.m w2) (hT.m w3) (hT.m w4) (by show 1 ≤ (x_R X).frames; rw [hR]; exact Nat.le_add_left 1 d) (by show _ + 15 ≤ (x_R X).locals; rw [hR]; show _ + 15 ≤ 40 * (d + 1); omega) (Nat.zero_le _) (Nat.zero_le _) hd (k H locs ls hP hS hl)
theorem x_mmaxJ (hX : xO X cc own nL B g) {d mc ms index : Nat} (hR : x_R X = xrm (d + 1) mc ms) (w1 : xm (.methodLink own index Lib.MathLoose.max_long.x)) (w2 : xm (.static Lib.MathLoose.max_long.x)) (w3 : xm (.initialized "java/lang/Math")) (w4 : xm (.code Lib.MathLoose.max_long.x Lib.MathLoose.max_long.code 4 (some .long))) {x y : Int64} (hcat : (st.map fun v => v.category).sum ≤ 8) (hd : decode cc pc = .ok (.invokestatic index, 3))
    (k : xV X B nL Z 0 0 P (pc + 3) L (.long (if y < x then x else y) :: st)) : xV X B nL Z 0 0 P pc L (.long y :: .long x :: st) := by
  intro H locs ls hP hS hl
  have hT := hX.2.2.2.2.2.2.2
  exact va_mmax_long hX.1 hX.2.1 (by rw [hX.2.2.1]; exact hl.1.symm) hX.2.2.2.1 (hT.m w1) (hT.m w2) (hT.m w3) (hT.m w4) (by show 1 ≤ (x_R X).frames; rw [hR]; exact Nat.le_add_left 1 d) (by show _ + 15 ≤ (x_R X).locals; rw [hR]; show _ + 15 ≤ 40 * (d + 1); omega) (Nat.zero_le _) (Nat.zero_le _) hd (k H locs ls hP hS hl)
theorem x_mminI (hX : xO X cc own nL B g) {d mc ms index : Nat} (hR : x_R X = xrm (d + 1) mc ms) (w1 : xm (.methodLink own index Lib.Math.min.name)) (w2 : xm (.static Lib.Math.min.name)) (w3 : xm (.initialized "java/lang/Math")) (w4 : xm (.code Lib.Math.min.name Lib.Math.min.code 2 (some .int))) {x y : Int32} (hcat : (st.map fun v => v.category).sum ≤ 8) (hd : decode cc pc = .ok (.invokestatic index, 3))
    (k : xV X B nL Z 0 0 P (pc + 3) L (.int (if y < x then y else x) :: st)) : xV X B nL Z 0 0 P pc L (.int y :: .int x :: st) := by
  intro H locs ls hP hS hl
  have hT := hX.2.2.2.2.2.2.2
  exact va_mmin hX.1 hX.2.1 (by rw [hX.2.2.1]; exact hl.1.symm) hX.2.2.2.1 (hT.m w1) (hT.m w2) (hT.m w3) (hT.m w4) (by show 1 ≤ (x_R X).frames; rw [hR]; exact Nat.le_add_left 1 d) (by show _ + 13 ≤ (x_R X).locals; rw [hR]; show _ + 13 ≤ 40 * (d + 1); omega) (Nat.zero_le _) (Nat.zero_le _) hd (k H locs ls hP hS hl)
end XK
theorem x_tout_0_2 {x : Int32} (h0 : ¬ x = 0) (h1 : ¬ x = 1) (h2 : ¬ x = 2) : x.toInt < 0 ∨ 2 < x.toInt := by
  have e0 := lv_neT (a := 0) h0 rfl
  have e1 := lv_neT (a := 1) h1 rfl
  have e2 := lv_neT (a := 2) h2 rfl
  omega
theorem x_tout_0_3 {x : Int32} (h0 : ¬ x = 0) (h1 : ¬ x = 1) (h2 : ¬ x = 2) (h3 : ¬ x = 3) : x.toInt < 0 ∨ 3 < x.toInt := by
  have e0 := lv_neT (a := 0) h0 rfl
  have e1 := lv_neT (a := 1) h1 rfl
  have e2 := lv_neT (a := 2) h2 rfl
  have e3 := lv_neT (a := 3) h3 rfl
  omega
theorem x_tout_1_7 {x : Int32} (h1 : ¬ x = 1) (h2 : ¬ x = 2) (h3 : ¬ x = 3) (h4 : ¬ x = 4) (h5 : ¬ x = 5) (h6 : ¬ x = 6) (h7 : ¬ x = 7) : x.toInt < 1 ∨ 7 < x.toInt := by
  have e1 := lv_neT (a := 1) h1 rfl
  have e2 := lv_neT (a := 2) h2 rfl
  have e3 := lv_neT (a := 3) h3 rfl
  have e4 := lv_neT (a := 4) h4 rfl
  have e5 := lv_neT (a := 5) h5 rfl
  have e6 := lv_neT (a := 6) h6 rfl
  have e7 := lv_neT (a := 7) h7 rfl
  omega
theorem x_tout_1_2 {x : Int32} (h1 : ¬ x = 1) (h2 : ¬ x = 2) : x.toInt < 1 ∨ 2 < x.toInt := by
  have e1 := lv_neT (a := 1) h1 rfl
  have e2 := lv_neT (a := 2) h2 rfl
  omega
theorem x_tout_0_26 {x : Int32} (h0 : ¬ x = 0) (h1 : ¬ x = 1) (h2 : ¬ x = 2) (h3 : ¬ x = 3) (h4 : ¬ x = 4) (h5 : ¬ x = 5) (h6 : ¬ x = 6) (h7 : ¬ x = 7) (h8 : ¬ x = 8) (h9 : ¬ x = 9) (h10 : ¬ x = 10) (h11 : ¬ x = 11) (h12 : ¬ x = 12) (h13 : ¬ x = 13) (h14 : ¬ x = 14) (h15 : ¬ x = 15) (h16 : ¬ x = 16) (h17 : ¬ x = 17) (h18 : ¬ x = 18) (h19 : ¬ x = 19) (h20 : ¬ x = 20) (h21 : ¬ x = 21) (h22 : ¬ x = 22) (h23 : ¬ x = 23) (h24 : ¬ x = 24) (h25 : ¬ x = 25) (h26 : ¬ x = 26) : x.toInt < 0 ∨ 26 < x.toInt := by
  have e0 := lv_neT (a := 0) h0 rfl
  have e1 := lv_neT (a := 1) h1 rfl
  have e2 := lv_neT (a := 2) h2 rfl
  have e3 := lv_neT (a := 3) h3 rfl
  have e4 := lv_neT (a := 4) h4 rfl
  have e5 := lv_neT (a := 5) h5 rfl
  have e6 := lv_neT (a := 6) h6 rfl
  have e7 := lv_neT (a := 7) h7 rfl
  have e8 := lv_neT (a := 8) h8 rfl
  have e9 := lv_neT (a := 9) h9 rfl
  have e10 := lv_neT (a := 10) h10 rfl
  have e11 := lv_neT (a := 11) h11 rfl
  have e12 := lv_neT (a := 12) h12 rfl
  have e13 := lv_neT (a := 13) h13 rfl
  have e14 := lv_neT (a := 14) h14 rfl
  have e15 := lv_neT (a := 15) h15 rfl
  have e16 := lv_neT (a := 16) h16 rfl
  have e17 := lv_neT (a := 17) h17 rfl
  have e18 := lv_neT (a := 18) h18 rfl
  have e19 := lv_neT (a := 19) h19 rfl
  have e20 := lv_neT (a := 20) h20 rfl
  have e21 := lv_neT (a := 21) h21 rfl
  have e22 := lv_neT (a := 22) h22 rfl
  have e23 := lv_neT (a := 23) h23 rfl
  have e24 := lv_neT (a := 24) h24 rfl
  have e25 := lv_neT (a := 25) h25 rfl
  have e26 := lv_neT (a := 26) h26 rfl
  omega
theorem x_tout_1_6 {x : Int32} (h1 : ¬ x = 1) (h2 : ¬ x = 2) (h3 : ¬ x = 3) (h4 : ¬ x = 4) (h5 : ¬ x = 5) (h6 : ¬ x = 6) : x.toInt < 1 ∨ 6 < x.toInt := by
  have e1 := lv_neT (a := 1) h1 rfl
  have e2 := lv_neT (a := 2) h2 rfl
  have e3 := lv_neT (a := 3) h3 rfl
  have e4 := lv_neT (a := 4) h4 rfl
  have e5 := lv_neT (a := 5) h5 rfl
  have e6 := lv_neT (a := 6) h6 rfl
  omega
end
section
theorem xcw0 : ∀ w ∈ u_ws "ChangeRows" fT0 10, xm w := by
  have h : (u_ws "ChangeRows" fT0 10).all (fun w => decide (w ∈ lw_tbl) && (w.onTables && w.keeps)) = true := by decide +kernel
  intro w hw
  have h1 := List.all_eq_true.mp h w hw
  rw [Bool.and_eq_true] at h1
  exact ⟨of_decide_eq_true h1.1, h1.2⟩
theorem xc0 : xcls 0 "ChangeRows" fT0 10 fY0 := ⟨rfl, xcw0, by decide +kernel, by decide +kernel, rfl, by decide +kernel⟩
theorem xcw1 : ∀ w ∈ u_ws "ChangeRows$Batch" fT1 6, xm w := by
  have h : (u_ws "ChangeRows$Batch" fT1 6).all (fun w => decide (w ∈ lw_tbl) && (w.onTables && w.keeps)) = true := by decide +kernel
  intro w hw
  have h1 := List.all_eq_true.mp h w hw
  rw [Bool.and_eq_true] at h1
  exact ⟨of_decide_eq_true h1.1, h1.2⟩
theorem xc1 : xcls 1 "ChangeRows$Batch" fT1 6 fY1 := ⟨rfl, xcw1, by decide +kernel, by decide +kernel, rfl, by decide +kernel⟩
theorem xcw2 : ∀ w ∈ u_ws "ChangeRows$Changes" fT2 4, xm w := by
  have h : (u_ws "ChangeRows$Changes" fT2 4).all (fun w => decide (w ∈ lw_tbl) && (w.onTables && w.keeps)) = true := by decide +kernel
  intro w hw
  have h1 := List.all_eq_true.mp h w hw
  rw [Bool.and_eq_true] at h1
  exact ⟨of_decide_eq_true h1.1, h1.2⟩
theorem xc2 : xcls 2 "ChangeRows$Changes" fT2 4 fY2 := ⟨rfl, xcw2, by decide +kernel, by decide +kernel, rfl, by decide +kernel⟩
theorem xcw3 : ∀ w ∈ u_ws "ChangeRows$Rows" fT3 2, xm w := by
  have h : (u_ws "ChangeRows$Rows" fT3 2).all (fun w => decide (w ∈ lw_tbl) && (w.onTables && w.keeps)) = true := by decide +kernel
  intro w hw
  have h1 := List.all_eq_true.mp h w hw
  rw [Bool.and_eq_true] at h1
  exact ⟨of_decide_eq_true h1.1, h1.2⟩
theorem xc3 : xcls 3 "ChangeRows$Rows" fT3 2 fY3 := ⟨rfl, xcw3, by decide +kernel, by decide +kernel, rfl, by decide +kernel⟩
theorem xcw4 : ∀ w ∈ u_ws "ChangeRows$Table" fT4 10, xm w := by
  have h : (u_ws "ChangeRows$Table" fT4 10).all (fun w => decide (w ∈ lw_tbl) && (w.onTables && w.keeps)) = true := by decide +kernel
  intro w hw
  have h1 := List.all_eq_true.mp h w hw
  rw [Bool.and_eq_true] at h1
  exact ⟨of_decide_eq_true h1.1, h1.2⟩
theorem xc4 : xcls 4 "ChangeRows$Table" fT4 10 fY4 := ⟨rfl, xcw4, by decide +kernel, by decide +kernel, rfl, by decide +kernel⟩
theorem xcw5 : ∀ w ∈ u_ws "ChangeRowsModel" fT5 30, xm w := by
  have h : (u_ws "ChangeRowsModel" fT5 30).all (fun w => decide (w ∈ lw_tbl) && (w.onTables && w.keeps)) = true := by decide +kernel
  intro w hw
  have h1 := List.all_eq_true.mp h w hw
  rw [Bool.and_eq_true] at h1
  exact ⟨of_decide_eq_true h1.1, h1.2⟩
theorem xc5 : xcls 5 "ChangeRowsModel" fT5 30 fY5 := ⟨rfl, xcw5, by decide +kernel, by decide +kernel, rfl, by decide +kernel⟩
end
section
theorem kF1_9 : xm (.fieldLink "ChangeRows$Batch" 9 "ChangeRows$Batch" "isOpen" "Z") := ⟨xt1 (List.mem_of_getElem? (i := 27) rfl), rfl⟩
theorem kF2_9 : xm (.fieldLink "ChangeRows$Changes" 9 "ChangeRows$Changes" "size" "I") := ⟨xt1 (List.mem_of_getElem? (i := 64) rfl), rfl⟩
theorem kF3_9 : xm (.fieldLink "ChangeRows$Rows" 9 "ChangeRows$Rows" "present" "J") := ⟨xt1 (List.mem_of_getElem? (i := 86) rfl), rfl⟩
theorem kF3_15 : xm (.fieldLink "ChangeRows$Rows" 15 "ChangeRows$Rows" "values" "[J") := ⟨xt1 (List.mem_of_getElem? (i := 87) rfl), rfl⟩
theorem kM3_25 : xm (.methodLink "ChangeRows$Rows" 25 yA_fill) := ⟨xt1 (List.mem_of_getElem? (i := 188) rfl), rfl⟩
theorem kDA_fill : xm (.code yA_fill cA_fill 5 none) := ⟨xt1 (List.mem_of_getElem? (i := 190) rfl), rfl⟩
theorem kIA : xm (.initialized "java/util/Arrays") := ⟨xt1 (List.mem_of_getElem? (i := 8) rfl), rfl⟩
theorem kX3_25 : xcl "ChangeRows$Rows" 25 yA_fill cA_fill 5 none 2 := ⟨kM3_25, kDA_fill, kIA, by decide +kernel, by decide⟩
theorem kSA_fill : xm (.static yA_fill) := ⟨xt1 (List.mem_of_getElem? (i := 189) rfl), rfl⟩
theorem kF4_9 : xm (.fieldLink "ChangeRows$Table" 9 "ChangeRows$Table" "sort" "I") := ⟨xt1 (List.mem_of_getElem? (i := 103) rfl), rfl⟩
theorem kF4_15 : xm (.fieldLink "ChangeRows$Table" 15 "ChangeRows$Table" "t" "I") := ⟨xt1 (List.mem_of_getElem? (i := 105) rfl), rfl⟩
theorem kF4_18 : xm (.fieldLink "ChangeRows$Table" 18 "ChangeRows$Table" "u" "I") := ⟨xt1 (List.mem_of_getElem? (i := 107) rfl), rfl⟩
theorem kF4_21 : xm (.fieldLink "ChangeRows$Table" 21 "ChangeRows$Table" "first" "J") := ⟨xt1 (List.mem_of_getElem? (i := 109) rfl), rfl⟩
theorem kF4_25 : xm (.fieldLink "ChangeRows$Table" 25 "ChangeRows$Table" "second" "J") := ⟨xt1 (List.mem_of_getElem? (i := 110) rfl), rfl⟩
theorem kF4_74 : xm (.fieldLink "ChangeRows$Table" 74 "ChangeRows$Rows" "values" "[J") := ⟨xt1 (List.mem_of_getElem? (i := 88) rfl), rfl⟩
theorem kM4_78 : xm (.methodLink "ChangeRows$Table" 78 y3_holds) := ⟨xt1 (List.mem_of_getElem? (i := 223) rfl), rfl⟩
theorem kD3_holds : xm (.code y3_holds c3_holds 2 (some .boolean)) := ⟨xt1 (List.mem_of_getElem? (i := 226) rfl), rfl⟩
theorem kI3 : xm (.initialized "ChangeRows$Rows") := ⟨xt1 (List.mem_of_getElem? (i := 5) rfl), rfl⟩
theorem kX4_78 : xcl "ChangeRows$Table" 78 y3_holds c3_holds 2 (some .boolean) 1 := ⟨kM4_78, kD3_holds, kI3, by decide +kernel, by decide⟩
theorem kN3_holds : xm (.instanceMethod y3_holds) := ⟨xt1 (List.mem_of_getElem? (i := 224) rfl), rfl⟩
theorem kE3_holds : xm (.selects "ChangeRows$Rows" y3_holds y3_holds) := ⟨xt1 (List.mem_of_getElem? (i := 225) rfl), rfl⟩
theorem kF4_35 : xm (.fieldLink "ChangeRows$Table" 35 "ChangeRows$Table" "next" "LChangeRows$Rows;") := ⟨xt1 (List.mem_of_getElem? (i := 113) rfl), rfl⟩
theorem kM4_82 : xm (.methodLink "ChangeRows$Table" 82 y3_set) := ⟨xt1 (List.mem_of_getElem? (i := 227) rfl), rfl⟩
theorem kD3_set : xm (.code y3_set c3_set 4 none) := ⟨xt1 (List.mem_of_getElem? (i := 230) rfl), rfl⟩
theorem kX4_82 : xcl "ChangeRows$Table" 82 y3_set c3_set 4 none 2 := ⟨kM4_82, kD3_set, kI3, by decide +kernel, by decide⟩
theorem kN3_set : xm (.instanceMethod y3_set) := ⟨xt1 (List.mem_of_getElem? (i := 228) rfl), rfl⟩
theorem kE3_set : xm (.selects "ChangeRows$Rows" y3_set y3_set) := ⟨xt1 (List.mem_of_getElem? (i := 229) rfl), rfl⟩
theorem kM4_90 : xm (.methodLink "ChangeRows$Table" 90 Lib.MathLoose.min_long.x) := ⟨xt2 (List.mem_of_getElem? (i := 3) rfl), rfl⟩
theorem kSMathminJ : xm (.static Lib.MathLoose.min_long.x) := ⟨xt2 (List.mem_of_getElem? (i := 4) rfl), rfl⟩
theorem kIM : xm (.initialized "java/lang/Math") := ⟨xt1 (List.mem_of_getElem? (i := 4) rfl), rfl⟩
theorem kDMathminJ : xm (.code Lib.MathLoose.min_long.x Lib.MathLoose.min_long.code 4 (some .long)) := ⟨xt2 (List.mem_of_getElem? (i := 5) rfl), rfl⟩
theorem kM4_96 : xm (.methodLink "ChangeRows$Table" 96 Lib.MathLoose.max_long.x) := ⟨xt2 (List.mem_of_getElem? (i := 6) rfl), rfl⟩
theorem kSMathmaxJ : xm (.static Lib.MathLoose.max_long.x) := ⟨xt2 (List.mem_of_getElem? (i := 7) rfl), rfl⟩
theorem kDMathmaxJ : xm (.code Lib.MathLoose.max_long.x Lib.MathLoose.max_long.code 4 (some .long)) := ⟨xt2 (List.mem_of_getElem? (i := 8) rfl), rfl⟩
theorem kM4_86 : xm (.methodLink "ChangeRows$Table" 86 y4_folded) := ⟨xt1 (List.mem_of_getElem? (i := 239) rfl), rfl⟩
theorem kD4_folded : xm (.code y4_folded c4_folded 7 (some .long)) := ⟨xt2 (List.mem_of_getElem? (i := 2) rfl), rfl⟩
theorem kI4 : xm (.initialized "ChangeRows$Table") := ⟨xt1 (List.mem_of_getElem? (i := 6) rfl), rfl⟩
theorem kX4_86 : xcl "ChangeRows$Table" 86 y4_folded c4_folded 7 (some .long) 4 := ⟨kM4_86, kD4_folded, kI4, by decide +kernel, by decide⟩
theorem kN4_folded : xm (.instanceMethod y4_folded) := ⟨xt2 (List.mem_of_getElem? (i := 1) rfl), rfl⟩
theorem kE4_folded : xm (.selects "ChangeRows$Table" y4_folded y4_folded) := ⟨xt0 (List.mem_of_getElem? (i := 6) rfl), rfl⟩
theorem kF4_41 : xm (.fieldLink "ChangeRows$Table" 41 "ChangeRows$Table" "order" "[I") := ⟨xt1 (List.mem_of_getElem? (i := 117) rfl), rfl⟩
theorem kM4_99 : xm (.methodLink "ChangeRows$Table" 99 y4_insertKey) := ⟨xt2 (List.mem_of_getElem? (i := 21) rfl), rfl⟩
theorem kD4_insertKey : xm (.code y4_insertKey c4_insertKey 5 none) := ⟨xt2 (List.mem_of_getElem? (i := 24) rfl), rfl⟩
theorem kX4_99 : xcl "ChangeRows$Table" 99 y4_insertKey c4_insertKey 5 none 3 := ⟨kM4_99, kD4_insertKey, kI4, by decide +kernel, by decide⟩
theorem kN4_insertKey : xm (.instanceMethod y4_insertKey) := ⟨xt2 (List.mem_of_getElem? (i := 23) rfl), rfl⟩
theorem kE4_insertKey : xm (.selects "ChangeRows$Table" y4_insertKey y4_insertKey) := ⟨xt0 (List.mem_of_getElem? (i := 10) rfl), rfl⟩
theorem kC4_103 : xm (.constantLong "ChangeRows$Table" 103 63) := ⟨xt2 (List.mem_of_getElem? (i := 29) rfl), rfl⟩
theorem kM4_48 : xm (.methodLink "ChangeRows$Table" 48 y3_reset) := ⟨xt1 (List.mem_of_getElem? (i := 218) rfl), rfl⟩
theorem kD3_reset : xm (.code y3_reset c3_reset 1 none) := ⟨xt1 (List.mem_of_getElem? (i := 187) rfl), rfl⟩
theorem kX4_48 : xcl "ChangeRows$Table" 48 y3_reset c3_reset 1 none 0 := ⟨kM4_48, kD3_reset, kI3, by decide +kernel, by decide⟩
theorem kN3_reset : xm (.instanceMethod y3_reset) := ⟨xt1 (List.mem_of_getElem? (i := 185) rfl), rfl⟩
theorem kE3_reset : xm (.selects "ChangeRows$Rows" y3_reset y3_reset) := ⟨xt1 (List.mem_of_getElem? (i := 186) rfl), rfl⟩
theorem kM4_51 : xm (.methodLink "ChangeRows$Table" 51 y4_deriveFilter) := ⟨xt1 (List.mem_of_getElem? (i := 219) rfl), rfl⟩
theorem kD4_deriveFilter : xm (.code y4_deriveFilter c4_deriveFilter 5 none) := ⟨xt1 (List.mem_of_getElem? (i := 222) rfl), rfl⟩
theorem kX4_51 : xcl "ChangeRows$Table" 51 y4_deriveFilter c4_deriveFilter 5 none 1 := ⟨kM4_51, kD4_deriveFilter, kI4, by decide +kernel, by decide⟩
theorem kN4_deriveFilter : xm (.instanceMethod y4_deriveFilter) := ⟨xt1 (List.mem_of_getElem? (i := 221) rfl), rfl⟩
theorem kE4_deriveFilter : xm (.selects "ChangeRows$Table" y4_deriveFilter y4_deriveFilter) := ⟨xt0 (List.mem_of_getElem? (i := 3) rfl), rfl⟩
theorem kM4_55 : xm (.methodLink "ChangeRows$Table" 55 y4_deriveMap) := ⟨xt1 (List.mem_of_getElem? (i := 231) rfl), rfl⟩
theorem kD4_deriveMap : xm (.code y4_deriveMap c4_deriveMap 3 none) := ⟨xt1 (List.mem_of_getElem? (i := 234) rfl), rfl⟩
theorem kX4_55 : xcl "ChangeRows$Table" 55 y4_deriveMap c4_deriveMap 3 none 1 := ⟨kM4_55, kD4_deriveMap, kI4, by decide +kernel, by decide⟩
theorem kN4_deriveMap : xm (.instanceMethod y4_deriveMap) := ⟨xt1 (List.mem_of_getElem? (i := 233) rfl), rfl⟩
theorem kE4_deriveMap : xm (.selects "ChangeRows$Table" y4_deriveMap y4_deriveMap) := ⟨xt0 (List.mem_of_getElem? (i := 4) rfl), rfl⟩
theorem kM4_58 : xm (.methodLink "ChangeRows$Table" 58 y4_deriveFold) := ⟨xt1 (List.mem_of_getElem? (i := 235) rfl), rfl⟩
theorem kD4_deriveFold : xm (.code y4_deriveFold c4_deriveFold 4 none) := ⟨xt1 (List.mem_of_getElem? (i := 238) rfl), rfl⟩
theorem kX4_58 : xcl "ChangeRows$Table" 58 y4_deriveFold c4_deriveFold 4 none 1 := ⟨kM4_58, kD4_deriveFold, kI4, by decide +kernel, by decide⟩
theorem kN4_deriveFold : xm (.instanceMethod y4_deriveFold) := ⟨xt1 (List.mem_of_getElem? (i := 237) rfl), rfl⟩
theorem kE4_deriveFold : xm (.selects "ChangeRows$Table" y4_deriveFold y4_deriveFold) := ⟨xt0 (List.mem_of_getElem? (i := 5) rfl), rfl⟩
theorem kM4_61 : xm (.methodLink "ChangeRows$Table" 61 y4_deriveJoin) := ⟨xt2 (List.mem_of_getElem? (i := 9) rfl), rfl⟩
theorem kD4_deriveJoin : xm (.code y4_deriveJoin c4_deriveJoin 4 none) := ⟨xt2 (List.mem_of_getElem? (i := 12) rfl), rfl⟩
theorem kX4_61 : xcl "ChangeRows$Table" 61 y4_deriveJoin c4_deriveJoin 4 none 2 := ⟨kM4_61, kD4_deriveJoin, kI4, by decide +kernel, by decide⟩
theorem kN4_deriveJoin : xm (.instanceMethod y4_deriveJoin) := ⟨xt2 (List.mem_of_getElem? (i := 11) rfl), rfl⟩
theorem kE4_deriveJoin : xm (.selects "ChangeRows$Table" y4_deriveJoin y4_deriveJoin) := ⟨xt0 (List.mem_of_getElem? (i := 7) rfl), rfl⟩
theorem kM4_65 : xm (.methodLink "ChangeRows$Table" 65 y4_deriveMerge) := ⟨xt2 (List.mem_of_getElem? (i := 13) rfl), rfl⟩
theorem kD4_deriveMerge : xm (.code y4_deriveMerge c4_deriveMerge 4 none) := ⟨xt2 (List.mem_of_getElem? (i := 16) rfl), rfl⟩
theorem kX4_65 : xcl "ChangeRows$Table" 65 y4_deriveMerge c4_deriveMerge 4 none 2 := ⟨kM4_65, kD4_deriveMerge, kI4, by decide +kernel, by decide⟩
theorem kN4_deriveMerge : xm (.instanceMethod y4_deriveMerge) := ⟨xt2 (List.mem_of_getElem? (i := 15) rfl), rfl⟩
theorem kE4_deriveMerge : xm (.selects "ChangeRows$Table" y4_deriveMerge y4_deriveMerge) := ⟨xt0 (List.mem_of_getElem? (i := 8) rfl), rfl⟩
theorem kM4_68 : xm (.methodLink "ChangeRows$Table" 68 y4_deriveBest) := ⟨xt2 (List.mem_of_getElem? (i := 17) rfl), rfl⟩
theorem kD4_deriveBest : xm (.code y4_deriveBest c4_deriveBest 4 none) := ⟨xt2 (List.mem_of_getElem? (i := 20) rfl), rfl⟩
theorem kX4_68 : xcl "ChangeRows$Table" 68 y4_deriveBest c4_deriveBest 4 none 1 := ⟨kM4_68, kD4_deriveBest, kI4, by decide +kernel, by decide⟩
theorem kN4_deriveBest : xm (.instanceMethod y4_deriveBest) := ⟨xt2 (List.mem_of_getElem? (i := 19) rfl), rfl⟩
theorem kE4_deriveBest : xm (.selects "ChangeRows$Table" y4_deriveBest y4_deriveBest) := ⟨xt0 (List.mem_of_getElem? (i := 9) rfl), rfl⟩
theorem kM4_71 : xm (.methodLink "ChangeRows$Table" 71 y4_deriveLook) := ⟨xt2 (List.mem_of_getElem? (i := 25) rfl), rfl⟩
theorem kD4_deriveLook : xm (.code y4_deriveLook c4_deriveLook 5 none) := ⟨xt2 (List.mem_of_getElem? (i := 28) rfl), rfl⟩
theorem kX4_71 : xcl "ChangeRows$Table" 71 y4_deriveLook c4_deriveLook 5 none 2 := ⟨kM4_71, kD4_deriveLook, kI4, by decide +kernel, by decide⟩
theorem kN4_deriveLook : xm (.instanceMethod y4_deriveLook) := ⟨xt2 (List.mem_of_getElem? (i := 27) rfl), rfl⟩
theorem kE4_deriveLook : xm (.selects "ChangeRows$Table" y4_deriveLook y4_deriveLook) := ⟨xt0 (List.mem_of_getElem? (i := 11) rfl), rfl⟩
theorem kM3_31 : xm (.methodLink "ChangeRows$Rows" 31 arraycopyName) := ⟨xt2 (List.mem_of_getElem? (i := 34) rfl), rfl⟩
theorem kNarraycopy : xm (.native arraycopyName) := ⟨xt2 (List.mem_of_getElem? (i := 36) rfl), rfl⟩
theorem kSarraycopy : xm (.static arraycopyName) := ⟨xt2 (List.mem_of_getElem? (i := 35) rfl), rfl⟩
theorem kIS : xm (.initialized "java/lang/System") := ⟨xt1 (List.mem_of_getElem? (i := 9) rfl), rfl⟩
theorem kF1_15 : xm (.fieldLink "ChangeRows$Batch" 15 "ChangeRows$Batch" "size" "I") := ⟨xt1 (List.mem_of_getElem? (i := 29) rfl), rfl⟩
theorem kF1_19 : xm (.fieldLink "ChangeRows$Batch" 19 "ChangeRows$Batch" "table" "[I") := ⟨xt1 (List.mem_of_getElem? (i := 31) rfl), rfl⟩
theorem kF1_23 : xm (.fieldLink "ChangeRows$Batch" 23 "ChangeRows$Batch" "key" "[I") := ⟨xt1 (List.mem_of_getElem? (i := 33) rfl), rfl⟩
theorem kF1_26 : xm (.fieldLink "ChangeRows$Batch" 26 "ChangeRows$Batch" "stays" "[Z") := ⟨xt1 (List.mem_of_getElem? (i := 35) rfl), rfl⟩
theorem kF1_30 : xm (.fieldLink "ChangeRows$Batch" 30 "ChangeRows$Batch" "value" "[J") := ⟨xt1 (List.mem_of_getElem? (i := 37) rfl), rfl⟩
theorem kC3_41 : xm (.constantLong "ChangeRows$Rows" 41 (-1)) := ⟨xt2 (List.mem_of_getElem? (i := 89) rfl), rfl⟩
theorem kM3_37 : xm (.methodLink "ChangeRows$Rows" 37 y3_set) := ⟨xt2 (List.mem_of_getElem? (i := 88) rfl), rfl⟩
theorem kX3_37 : xcl "ChangeRows$Rows" 37 y3_set c3_set 4 none 2 := ⟨kM3_37, kD3_set, kI3, by decide +kernel, by decide⟩
theorem kCL_314 : xm (.constantLong "java/lang/Long" 314 6148914691236517205) := ⟨xt2 (List.mem_of_getElem? (i := 109) rfl), rfl⟩
theorem kCL_316 : xm (.constantLong "java/lang/Long" 316 3689348814741910323) := ⟨xt2 (List.mem_of_getElem? (i := 110) rfl), rfl⟩
theorem kCL_318 : xm (.constantLong "java/lang/Long" 318 1085102592571150095) := ⟨xt2 (List.mem_of_getElem? (i := 111) rfl), rfl⟩
theorem kF2_21 : xm (.fieldLink "ChangeRows$Changes" 21 "ChangeRows$Changes" "spot" "[I") := ⟨xt1 (List.mem_of_getElem? (i := 66) rfl), rfl⟩
theorem kM2_32 : xm (.methodLink "ChangeRows$Changes" 32 y3_holds) := ⟨xt2 (List.mem_of_getElem? (i := 124) rfl), rfl⟩
theorem kX2_32 : xcl "ChangeRows$Changes" 32 y3_holds c3_holds 2 (some .boolean) 1 := ⟨kM2_32, kD3_holds, kI3, by decide +kernel, by decide⟩
theorem kF2_25 : xm (.fieldLink "ChangeRows$Changes" 25 "ChangeRows$Changes" "old" "[J") := ⟨xt1 (List.mem_of_getElem? (i := 67) rfl), rfl⟩
theorem kF2_38 : xm (.fieldLink "ChangeRows$Changes" 38 "ChangeRows$Rows" "values" "[J") := ⟨xt1 (List.mem_of_getElem? (i := 89) rfl), rfl⟩
theorem kF2_29 : xm (.fieldLink "ChangeRows$Changes" 29 "ChangeRows$Changes" "now" "[J") := ⟨xt1 (List.mem_of_getElem? (i := 69) rfl), rfl⟩
theorem kM2_41 : xm (.methodLink "ChangeRows$Changes" 41 Lib.Math.min.name) := ⟨xt2 (List.mem_of_getElem? (i := 129) rfl), rfl⟩
theorem kSMathminI : xm (.static Lib.Math.min.name) := ⟨xt2 (List.mem_of_getElem? (i := 130) rfl), rfl⟩
theorem kDMathminI : xm (.code Lib.Math.min.name Lib.Math.min.code 2 (some .int)) := ⟨xt2 (List.mem_of_getElem? (i := 131) rfl), rfl⟩
theorem kM2_44 : xm (.methodLink "ChangeRows$Changes" 44 arraycopyName) := ⟨xt2 (List.mem_of_getElem? (i := 132) rfl), rfl⟩
theorem kM3_19 : xm (.methodLink "ChangeRows$Rows" 19 yL_bitCount) := ⟨xt2 (List.mem_of_getElem? (i := 205) rfl), rfl⟩
theorem kDL_bitCount : xm (.code yL_bitCount cL_bitCount 2 (some .int)) := ⟨xt2 (List.mem_of_getElem? (i := 108) rfl), rfl⟩
theorem kIL : xm (.initialized "java/lang/Long") := ⟨xt1 (List.mem_of_getElem? (i := 10) rfl), rfl⟩
theorem kX3_19 : xcl "ChangeRows$Rows" 19 yL_bitCount cL_bitCount 2 (some .int) 1 := ⟨kM3_19, kDL_bitCount, kIL, by decide +kernel, by decide⟩
theorem kSL_bitCount : xm (.static yL_bitCount) := ⟨xt2 (List.mem_of_getElem? (i := 107) rfl), rfl⟩
theorem kF0_15 : xm (.fieldLink "ChangeRows" 15 "ChangeRows" "made" "I") := ⟨xt1 (List.mem_of_getElem? (i := 142) rfl), rfl⟩
theorem kF0_22 : xm (.fieldLink "ChangeRows" 22 "ChangeRows" "batch" "LChangeRows$Batch;") := ⟨xt1 (List.mem_of_getElem? (i := 143) rfl), rfl⟩
theorem kM0_58 : xm (.methodLink "ChangeRows" 58 y1_close) := ⟨xt1 (List.mem_of_getElem? (i := 176) rfl), rfl⟩
theorem kD1_close : xm (.code y1_close c1_close 1 none) := ⟨xt1 (List.mem_of_getElem? (i := 179) rfl), rfl⟩
theorem kI1 : xm (.initialized "ChangeRows$Batch") := ⟨xt1 (List.mem_of_getElem? (i := 2) rfl), rfl⟩
theorem kX0_58 : xcl "ChangeRows" 58 y1_close c1_close 1 none 0 := ⟨kM0_58, kD1_close, kI1, by decide +kernel, by decide⟩
theorem kN1_close : xm (.instanceMethod y1_close) := ⟨xt1 (List.mem_of_getElem? (i := 177) rfl), rfl⟩
theorem kE1_close : xm (.selects "ChangeRows$Batch" y1_close y1_close) := ⟨xt1 (List.mem_of_getElem? (i := 178) rfl), rfl⟩
theorem kF0_31 : xm (.fieldLink "ChangeRows" 31 "ChangeRows" "log" "LChangeRows$Changes;") := ⟨xt1 (List.mem_of_getElem? (i := 144) rfl), rfl⟩
theorem kM0_61 : xm (.methodLink "ChangeRows" 61 y2_reset) := ⟨xt1 (List.mem_of_getElem? (i := 180) rfl), rfl⟩
theorem kD2_reset : xm (.code y2_reset c2_reset 1 none) := ⟨xt1 (List.mem_of_getElem? (i := 183) rfl), rfl⟩
theorem kI2 : xm (.initialized "ChangeRows$Changes") := ⟨xt1 (List.mem_of_getElem? (i := 3) rfl), rfl⟩
theorem kX0_61 : xcl "ChangeRows" 61 y2_reset c2_reset 1 none 0 := ⟨kM0_61, kD2_reset, kI2, by decide +kernel, by decide⟩
theorem kN2_reset : xm (.instanceMethod y2_reset) := ⟨xt1 (List.mem_of_getElem? (i := 181) rfl), rfl⟩
theorem kE2_reset : xm (.selects "ChangeRows$Changes" y2_reset y2_reset) := ⟨xt1 (List.mem_of_getElem? (i := 182) rfl), rfl⟩
theorem kF0_35 : xm (.fieldLink "ChangeRows" 35 "ChangeRows" "lastTold" "LChangeRows$Changes;") := ⟨xt1 (List.mem_of_getElem? (i := 145) rfl), rfl⟩
theorem kF0_38 : xm (.fieldLink "ChangeRows" 38 "ChangeRows" "lastNet" "LChangeRows$Changes;") := ⟨xt1 (List.mem_of_getElem? (i := 146) rfl), rfl⟩
theorem kF0_44 : xm (.fieldLink "ChangeRows" 44 "ChangeRows" "kept" "LChangeRows$Rows;") := ⟨xt1 (List.mem_of_getElem? (i := 147) rfl), rfl⟩
theorem kM0_64 : xm (.methodLink "ChangeRows" 64 y3_reset) := ⟨xt1 (List.mem_of_getElem? (i := 184) rfl), rfl⟩
theorem kX0_64 : xcl "ChangeRows" 64 y3_reset c3_reset 1 none 0 := ⟨kM0_64, kD3_reset, kI3, by decide +kernel, by decide⟩
theorem kM0_73 : xm (.methodLink "ChangeRows" 73 y0_isWithin) := ⟨xt1 (List.mem_of_getElem? (i := 211) rfl), rfl⟩
theorem kD0_isWithin : xm (.code y0_isWithin c0_isWithin 3 (some .boolean)) := ⟨xt1 (List.mem_of_getElem? (i := 213) rfl), rfl⟩
theorem kI0 : xm (.initialized "ChangeRows") := ⟨xt1 (List.mem_of_getElem? (i := 1) rfl), rfl⟩
theorem kX0_73 : xcl "ChangeRows" 73 y0_isWithin c0_isWithin 3 (some .boolean) 3 := ⟨kM0_73, kD0_isWithin, kI0, by decide +kernel, by decide⟩
theorem kS0_isWithin : xm (.static y0_isWithin) := ⟨xt1 (List.mem_of_getElem? (i := 212) rfl), rfl⟩
theorem kM0_69 : xm (.methodLink "ChangeRows" 69 y0_isTable) := ⟨xt1 (List.mem_of_getElem? (i := 207) rfl), rfl⟩
theorem kD0_isTable : xm (.code y0_isTable c0_isTable 2 (some .boolean)) := ⟨xt1 (List.mem_of_getElem? (i := 210) rfl), rfl⟩
theorem kX0_69 : xcl "ChangeRows" 69 y0_isTable c0_isTable 2 (some .boolean) 1 := ⟨kM0_69, kD0_isTable, kI0, by decide +kernel, by decide⟩
theorem kN0_isTable : xm (.instanceMethod y0_isTable) := ⟨xt1 (List.mem_of_getElem? (i := 209) rfl), rfl⟩
theorem kE0_isTable : xm (.selects "ChangeRows" y0_isTable y0_isTable) := ⟨xt0 (List.mem_of_getElem? (i := 2) rfl), rfl⟩
theorem kF0_54 : xm (.fieldLink "ChangeRows" 54 "ChangeRows" "nothing" "LChangeRows$Rows;") := ⟨xt1 (List.mem_of_getElem? (i := 150) rfl), rfl⟩
theorem kF0_11 : xm (.fieldLink "ChangeRows" 11 "ChangeRows" "tables" "[LChangeRows$Table;") := ⟨xt1 (List.mem_of_getElem? (i := 141) rfl), rfl⟩
theorem kF0_101 : xm (.fieldLink "ChangeRows" 101 "ChangeRows$Table" "next" "LChangeRows$Rows;") := ⟨xt1 (List.mem_of_getElem? (i := 114) rfl), rfl⟩
theorem kF0_87 : xm (.fieldLink "ChangeRows" 87 "ChangeRows$Batch" "isOpen" "Z") := ⟨xt1 (List.mem_of_getElem? (i := 28) rfl), rfl⟩
theorem kM0_193 : xm (.methodLink "ChangeRows" 193 y4_define) := ⟨xt1 (List.mem_of_getElem? (i := 199) rfl), rfl⟩
theorem kD4_define : xm (.code y4_define c4_define 8 none) := ⟨xt1 (List.mem_of_getElem? (i := 202) rfl), rfl⟩
theorem kX0_193 : xcl "ChangeRows" 193 y4_define c4_define 8 none 5 := ⟨kM0_193, kD4_define, kI4, by decide +kernel, by decide⟩
theorem kN4_define : xm (.instanceMethod y4_define) := ⟨xt1 (List.mem_of_getElem? (i := 200) rfl), rfl⟩
theorem kE4_define : xm (.selects "ChangeRows$Table" y4_define y4_define) := ⟨xt1 (List.mem_of_getElem? (i := 201) rfl), rfl⟩
theorem kM0_197 : xm (.methodLink "ChangeRows" 197 y0_nextOf) := ⟨xt1 (List.mem_of_getElem? (i := 203) rfl), rfl⟩
theorem kD0_nextOf : xm (.code y0_nextOf c0_nextOf 2 (some (.object "ChangeRows$Rows"))) := ⟨xt1 (List.mem_of_getElem? (i := 206) rfl), rfl⟩
theorem kX0_197 : xcl "ChangeRows" 197 y0_nextOf c0_nextOf 2 (some (.object "ChangeRows$Rows")) 1 := ⟨kM0_197, kD0_nextOf, kI0, by decide +kernel, by decide⟩
theorem kN0_nextOf : xm (.instanceMethod y0_nextOf) := ⟨xt1 (List.mem_of_getElem? (i := 205) rfl), rfl⟩
theorem kE0_nextOf : xm (.selects "ChangeRows" y0_nextOf y0_nextOf) := ⟨xt0 (List.mem_of_getElem? (i := 1) rfl), rfl⟩
theorem kM0_200 : xm (.methodLink "ChangeRows" 200 y4_derive) := ⟨xt1 (List.mem_of_getElem? (i := 214) rfl), rfl⟩
theorem kD4_derive : xm (.code y4_derive c4_derive 3 none) := ⟨xt1 (List.mem_of_getElem? (i := 217) rfl), rfl⟩
theorem kX0_200 : xcl "ChangeRows" 200 y4_derive c4_derive 3 none 2 := ⟨kM0_200, kD4_derive, kI4, by decide +kernel, by decide⟩
theorem kN4_derive : xm (.instanceMethod y4_derive) := ⟨xt1 (List.mem_of_getElem? (i := 215) rfl), rfl⟩
theorem kE4_derive : xm (.selects "ChangeRows$Table" y4_derive y4_derive) := ⟨xt1 (List.mem_of_getElem? (i := 216) rfl), rfl⟩
theorem kF0_147 : xm (.fieldLink "ChangeRows" 147 "ChangeRows$Table" "now" "LChangeRows$Rows;") := ⟨xt1 (List.mem_of_getElem? (i := 112) rfl), rfl⟩
theorem kM0_149 : xm (.methodLink "ChangeRows" 149 y3_become) := ⟨xt2 (List.mem_of_getElem? (i := 30) rfl), rfl⟩
theorem kD3_become : xm (.code y3_become c3_become 2 none) := ⟨xt2 (List.mem_of_getElem? (i := 33) rfl), rfl⟩
theorem kX0_149 : xcl "ChangeRows" 149 y3_become c3_become 2 none 1 := ⟨kM0_149, kD3_become, kI3, by decide +kernel, by decide⟩
theorem kN3_become : xm (.instanceMethod y3_become) := ⟨xt2 (List.mem_of_getElem? (i := 31) rfl), rfl⟩
theorem kE3_become : xm (.selects "ChangeRows$Rows" y3_become y3_become) := ⟨xt2 (List.mem_of_getElem? (i := 32) rfl), rfl⟩
theorem kF0_144 : xm (.fieldLink "ChangeRows" 144 "ChangeRows$Table" "base" "LChangeRows$Rows;") := ⟨xt1 (List.mem_of_getElem? (i := 116) rfl), rfl⟩
theorem kM0_65 : xm (.methodLink "ChangeRows" 65 y0_make) := ⟨xt1 (List.mem_of_getElem? (i := 195) rfl), rfl⟩
theorem kD0_make : xm (.code y0_make c0_make 9 (some .int)) := ⟨xt1 (List.mem_of_getElem? (i := 198) rfl), rfl⟩
theorem kX0_65 : xcl "ChangeRows" 65 y0_make c0_make 9 (some .int) 5 := ⟨kM0_65, kD0_make, kI0, by decide +kernel, by decide⟩
theorem kN0_make : xm (.instanceMethod y0_make) := ⟨xt1 (List.mem_of_getElem? (i := 197) rfl), rfl⟩
theorem kE0_make : xm (.selects "ChangeRows" y0_make y0_make) := ⟨xt0 (List.mem_of_getElem? (i := 0) rfl), rfl⟩
theorem kF0_184 : xm (.fieldLink "ChangeRows" 184 "ChangeRows$Table" "sort" "I") := ⟨xt1 (List.mem_of_getElem? (i := 104) rfl), rfl⟩
theorem kF0_219 : xm (.fieldLink "ChangeRows" 219 "ChangeRows$Table" "moved" "J") := ⟨xt1 (List.mem_of_getElem? (i := 119) rfl), rfl⟩
theorem kF0_187 : xm (.fieldLink "ChangeRows" 187 "ChangeRows$Table" "t" "I") := ⟨xt1 (List.mem_of_getElem? (i := 106) rfl), rfl⟩
theorem kM0_216 : xm (.methodLink "ChangeRows" 216 y0_isMoved) := ⟨xt2 (List.mem_of_getElem? (i := 98) rfl), rfl⟩
theorem kD0_isMoved : xm (.code y0_isMoved c0_isMoved 2 (some .boolean)) := ⟨xt2 (List.mem_of_getElem? (i := 101) rfl), rfl⟩
theorem kX0_216 : xcl "ChangeRows" 216 y0_isMoved c0_isMoved 2 (some .boolean) 1 := ⟨kM0_216, kD0_isMoved, kI0, by decide +kernel, by decide⟩
theorem kN0_isMoved : xm (.instanceMethod y0_isMoved) := ⟨xt2 (List.mem_of_getElem? (i := 100) rfl), rfl⟩
theorem kE0_isMoved : xm (.selects "ChangeRows" y0_isMoved y0_isMoved) := ⟨xt0 (List.mem_of_getElem? (i := 16) rfl), rfl⟩
theorem kF0_190 : xm (.fieldLink "ChangeRows" 190 "ChangeRows$Table" "u" "I") := ⟨xt1 (List.mem_of_getElem? (i := 108) rfl), rfl⟩
theorem kM0_157 : xm (.methodLink "ChangeRows" 157 y3_differing) := ⟨xt2 (List.mem_of_getElem? (i := 102) rfl), rfl⟩
theorem kD3_differing : xm (.code y3_differing c3_differing 5 (some .long)) := ⟨xt2 (List.mem_of_getElem? (i := 105) rfl), rfl⟩
theorem kX0_157 : xcl "ChangeRows" 157 y3_differing c3_differing 5 (some .long) 1 := ⟨kM0_157, kD3_differing, kI3, by decide +kernel, by decide⟩
theorem kN3_differing : xm (.instanceMethod y3_differing) := ⟨xt2 (List.mem_of_getElem? (i := 103) rfl), rfl⟩
theorem kE3_differing : xm (.selects "ChangeRows$Rows" y3_differing y3_differing) := ⟨xt2 (List.mem_of_getElem? (i := 104) rfl), rfl⟩
theorem kM0_223 : xm (.methodLink "ChangeRows" 223 yL_bitCount) := ⟨xt2 (List.mem_of_getElem? (i := 106) rfl), rfl⟩
theorem kX0_223 : xcl "ChangeRows" 223 yL_bitCount cL_bitCount 2 (some .int) 1 := ⟨kM0_223, kDL_bitCount, kIL, by decide +kernel, by decide⟩
theorem kM0_229 : xm (.methodLink "ChangeRows" 229 y2_addAll) := ⟨xt2 (List.mem_of_getElem? (i := 125) rfl), rfl⟩
theorem kD2_addAll : xm (.code y2_addAll c2_addAll 3 none) := ⟨xt2 (List.mem_of_getElem? (i := 128) rfl), rfl⟩
theorem kX0_229 : xcl "ChangeRows" 229 y2_addAll c2_addAll 3 none 1 := ⟨kM0_229, kD2_addAll, kI2, by decide +kernel, by decide⟩
theorem kN2_addAll : xm (.instanceMethod y2_addAll) := ⟨xt2 (List.mem_of_getElem? (i := 126) rfl), rfl⟩
theorem kE2_addAll : xm (.selects "ChangeRows$Changes" y2_addAll y2_addAll) := ⟨xt2 (List.mem_of_getElem? (i := 127) rfl), rfl⟩
theorem kM0_161 : xm (.methodLink "ChangeRows" 161 y2_addSteps) := ⟨xt2 (List.mem_of_getElem? (i := 120) rfl), rfl⟩
theorem kD2_addSteps : xm (.code y2_addSteps c2_addSteps 8 none) := ⟨xt2 (List.mem_of_getElem? (i := 123) rfl), rfl⟩
theorem kX0_161 : xcl "ChangeRows" 161 y2_addSteps c2_addSteps 8 none 4 := ⟨kM0_161, kD2_addSteps, kI2, by decide +kernel, by decide⟩
theorem kN2_addSteps : xm (.instanceMethod y2_addSteps) := ⟨xt2 (List.mem_of_getElem? (i := 121) rfl), rfl⟩
theorem kE2_addSteps : xm (.selects "ChangeRows$Changes" y2_addSteps y2_addSteps) := ⟨xt2 (List.mem_of_getElem? (i := 122) rfl), rfl⟩
theorem kM0_207 : xm (.methodLink "ChangeRows" 207 y0_follow) := ⟨xt2 (List.mem_of_getElem? (i := 94) rfl), rfl⟩
theorem kD0_follow : xm (.code y0_follow c0_follow 4 (some .int)) := ⟨xt2 (List.mem_of_getElem? (i := 97) rfl), rfl⟩
theorem kX0_207 : xcl "ChangeRows" 207 y0_follow c0_follow 4 (some .int) 0 := ⟨kM0_207, kD0_follow, kI0, by decide +kernel, by decide⟩
theorem kN0_follow : xm (.instanceMethod y0_follow) := ⟨xt2 (List.mem_of_getElem? (i := 96) rfl), rfl⟩
theorem kE0_follow : xm (.selects "ChangeRows" y0_follow y0_follow) := ⟨xt0 (List.mem_of_getElem? (i := 15) rfl), rfl⟩
theorem kF0_123 : xm (.fieldLink "ChangeRows" 123 "ChangeRows$Changes" "size" "I") := ⟨xt1 (List.mem_of_getElem? (i := 65) rfl), rfl⟩
theorem kM0_213 : xm (.methodLink "ChangeRows" 213 y0_tell) := ⟨xt2 (List.mem_of_getElem? (i := 116) rfl), rfl⟩
theorem kD0_tell : xm (.code y0_tell c0_tell 3 none) := ⟨xt2 (List.mem_of_getElem? (i := 119) rfl), rfl⟩
theorem kX0_213 : xcl "ChangeRows" 213 y0_tell c0_tell 3 none 0 := ⟨kM0_213, kD0_tell, kI0, by decide +kernel, by decide⟩
theorem kN0_tell : xm (.instanceMethod y0_tell) := ⟨xt2 (List.mem_of_getElem? (i := 118) rfl), rfl⟩
theorem kE0_tell : xm (.selects "ChangeRows" y0_tell y0_tell) := ⟨xt0 (List.mem_of_getElem? (i := 18) rfl), rfl⟩
theorem kM0_210 : xm (.methodLink "ChangeRows" 210 y0_takeBack) := ⟨xt2 (List.mem_of_getElem? (i := 112) rfl), rfl⟩
theorem kD0_takeBack : xm (.code y0_takeBack c0_takeBack 2 none) := ⟨xt2 (List.mem_of_getElem? (i := 115) rfl), rfl⟩
theorem kX0_210 : xcl "ChangeRows" 210 y0_takeBack c0_takeBack 2 none 0 := ⟨kM0_210, kD0_takeBack, kI0, by decide +kernel, by decide⟩
theorem kN0_takeBack : xm (.instanceMethod y0_takeBack) := ⟨xt2 (List.mem_of_getElem? (i := 114) rfl), rfl⟩
theorem kE0_takeBack : xm (.selects "ChangeRows" y0_takeBack y0_takeBack) := ⟨xt0 (List.mem_of_getElem? (i := 17) rfl), rfl⟩
theorem kM0_115 : xm (.methodLink "ChangeRows" 115 y3_write) := ⟨xt2 (List.mem_of_getElem? (i := 84) rfl), rfl⟩
theorem kD3_write : xm (.code y3_write c3_write 5 none) := ⟨xt2 (List.mem_of_getElem? (i := 87) rfl), rfl⟩
theorem kX0_115 : xcl "ChangeRows" 115 y3_write c3_write 5 none 3 := ⟨kM0_115, kD3_write, kI3, by decide +kernel, by decide⟩
theorem kN3_write : xm (.instanceMethod y3_write) := ⟨xt2 (List.mem_of_getElem? (i := 85) rfl), rfl⟩
theorem kE3_write : xm (.selects "ChangeRows$Rows" y3_write y3_write) := ⟨xt2 (List.mem_of_getElem? (i := 86) rfl), rfl⟩
theorem kM0_119 : xm (.methodLink "ChangeRows" 119 y0_settle) := ⟨xt2 (List.mem_of_getElem? (i := 90) rfl), rfl⟩
theorem kD0_settle : xm (.code y0_settle c0_settle 2 (some .int)) := ⟨xt2 (List.mem_of_getElem? (i := 93) rfl), rfl⟩
theorem kX0_119 : xcl "ChangeRows" 119 y0_settle c0_settle 2 (some .int) 0 := ⟨kM0_119, kD0_settle, kI0, by decide +kernel, by decide⟩
theorem kN0_settle : xm (.instanceMethod y0_settle) := ⟨xt2 (List.mem_of_getElem? (i := 92) rfl), rfl⟩
theorem kE0_settle : xm (.selects "ChangeRows" y0_settle y0_settle) := ⟨xt0 (List.mem_of_getElem? (i := 14) rfl), rfl⟩
theorem kM0_204 : xm (.methodLink "ChangeRows" 204 y1_gather) := ⟨xt2 (List.mem_of_getElem? (i := 80) rfl), rfl⟩
theorem kD1_gather : xm (.code y1_gather c1_gather 6 (some .int)) := ⟨xt2 (List.mem_of_getElem? (i := 83) rfl), rfl⟩
theorem kX0_204 : xcl "ChangeRows" 204 y1_gather c1_gather 6 (some .int) 4 := ⟨kM0_204, kD1_gather, kI1, by decide +kernel, by decide⟩
theorem kN1_gather : xm (.instanceMethod y1_gather) := ⟨xt2 (List.mem_of_getElem? (i := 81) rfl), rfl⟩
theorem kE1_gather : xm (.selects "ChangeRows$Batch" y1_gather y1_gather) := ⟨xt2 (List.mem_of_getElem? (i := 82) rfl), rfl⟩
theorem kM0_77 : xm (.methodLink "ChangeRows" 77 y0_isSource) := ⟨xt2 (List.mem_of_getElem? (i := 69) rfl), rfl⟩
theorem kD0_isSource : xm (.code y0_isSource c0_isSource 2 (some .boolean)) := ⟨xt2 (List.mem_of_getElem? (i := 72) rfl), rfl⟩
theorem kX0_77 : xcl "ChangeRows" 77 y0_isSource c0_isSource 2 (some .boolean) 1 := ⟨kM0_77, kD0_isSource, kI0, by decide +kernel, by decide⟩
theorem kN0_isSource : xm (.instanceMethod y0_isSource) := ⟨xt2 (List.mem_of_getElem? (i := 71) rfl), rfl⟩
theorem kE0_isSource : xm (.selects "ChangeRows" y0_isSource y0_isSource) := ⟨xt0 (List.mem_of_getElem? (i := 12) rfl), rfl⟩
theorem kM0_80 : xm (.methodLink "ChangeRows" 80 y0_isKey) := ⟨xt2 (List.mem_of_getElem? (i := 73) rfl), rfl⟩
theorem kD0_isKey : xm (.code y0_isKey c0_isKey 1 (some .boolean)) := ⟨xt2 (List.mem_of_getElem? (i := 75) rfl), rfl⟩
theorem kX0_80 : xcl "ChangeRows" 80 y0_isKey c0_isKey 1 (some .boolean) 1 := ⟨kM0_80, kD0_isKey, kI0, by decide +kernel, by decide⟩
theorem kS0_isKey : xm (.static y0_isKey) := ⟨xt2 (List.mem_of_getElem? (i := 74) rfl), rfl⟩
theorem kM0_83 : xm (.methodLink "ChangeRows" 83 y0_alter) := ⟨xt2 (List.mem_of_getElem? (i := 76) rfl), rfl⟩
theorem kD0_alter : xm (.code y0_alter c0_alter 6 (some .int)) := ⟨xt2 (List.mem_of_getElem? (i := 79) rfl), rfl⟩
theorem kX0_83 : xcl "ChangeRows" 83 y0_alter c0_alter 6 (some .int) 4 := ⟨kM0_83, kD0_alter, kI0, by decide +kernel, by decide⟩
theorem kN0_alter : xm (.instanceMethod y0_alter) := ⟨xt2 (List.mem_of_getElem? (i := 78) rfl), rfl⟩
theorem kE0_alter : xm (.selects "ChangeRows" y0_alter y0_alter) := ⟨xt0 (List.mem_of_getElem? (i := 13) rfl), rfl⟩
theorem kM0_91 : xm (.methodLink "ChangeRows" 91 y1_open) := ⟨xt2 (List.mem_of_getElem? (i := 141) rfl), rfl⟩
theorem kD1_open : xm (.code y1_open c1_open 1 none) := ⟨xt2 (List.mem_of_getElem? (i := 144) rfl), rfl⟩
theorem kX0_91 : xcl "ChangeRows" 91 y1_open c1_open 1 none 0 := ⟨kM0_91, kD1_open, kI1, by decide +kernel, by decide⟩
theorem kN1_open : xm (.instanceMethod y1_open) := ⟨xt2 (List.mem_of_getElem? (i := 142) rfl), rfl⟩
theorem kE1_open : xm (.selects "ChangeRows$Batch" y1_open y1_open) := ⟨xt2 (List.mem_of_getElem? (i := 143) rfl), rfl⟩
theorem kF0_94 : xm (.fieldLink "ChangeRows" 94 "ChangeRows$Batch" "size" "I") := ⟨xt1 (List.mem_of_getElem? (i := 30) rfl), rfl⟩
theorem kF0_97 : xm (.fieldLink "ChangeRows" 97 "ChangeRows$Batch" "table" "[I") := ⟨xt1 (List.mem_of_getElem? (i := 32) rfl), rfl⟩
theorem kF0_104 : xm (.fieldLink "ChangeRows" 104 "ChangeRows$Batch" "key" "[I") := ⟨xt1 (List.mem_of_getElem? (i := 34) rfl), rfl⟩
theorem kF0_107 : xm (.fieldLink "ChangeRows" 107 "ChangeRows$Batch" "stays" "[Z") := ⟨xt1 (List.mem_of_getElem? (i := 36) rfl), rfl⟩
theorem kF0_111 : xm (.fieldLink "ChangeRows" 111 "ChangeRows$Batch" "value" "[J") := ⟨xt1 (List.mem_of_getElem? (i := 38) rfl), rfl⟩
theorem kM0_124 : xm (.methodLink "ChangeRows" 124 y0_changesOf) := ⟨xt2 (List.mem_of_getElem? (i := 161) rfl), rfl⟩
theorem kD0_changesOf : xm (.code y0_changesOf c0_changesOf 2 (some (.object "ChangeRows$Changes"))) := ⟨xt2 (List.mem_of_getElem? (i := 164) rfl), rfl⟩
theorem kX0_124 : xcl "ChangeRows" 124 y0_changesOf c0_changesOf 2 (some (.object "ChangeRows$Changes")) 1 := ⟨kM0_124, kD0_changesOf, kI0, by decide +kernel, by decide⟩
theorem kN0_changesOf : xm (.instanceMethod y0_changesOf) := ⟨xt2 (List.mem_of_getElem? (i := 163) rfl), rfl⟩
theorem kE0_changesOf : xm (.selects "ChangeRows" y0_changesOf y0_changesOf) := ⟨xt0 (List.mem_of_getElem? (i := 19) rfl), rfl⟩
theorem kM0_128 : xm (.methodLink "ChangeRows" 128 y2_tableOf) := ⟨xt2 (List.mem_of_getElem? (i := 165) rfl), rfl⟩
theorem kD2_tableOf : xm (.code y2_tableOf c2_tableOf 2 (some .int)) := ⟨xt2 (List.mem_of_getElem? (i := 168) rfl), rfl⟩
theorem kX0_128 : xcl "ChangeRows" 128 y2_tableOf c2_tableOf 2 (some .int) 1 := ⟨kM0_128, kD2_tableOf, kI2, by decide +kernel, by decide⟩
theorem kN2_tableOf : xm (.instanceMethod y2_tableOf) := ⟨xt2 (List.mem_of_getElem? (i := 166) rfl), rfl⟩
theorem kE2_tableOf : xm (.selects "ChangeRows$Changes" y2_tableOf y2_tableOf) := ⟨xt2 (List.mem_of_getElem? (i := 167) rfl), rfl⟩
theorem kM0_132 : xm (.methodLink "ChangeRows" 132 y2_sortOf) := ⟨xt2 (List.mem_of_getElem? (i := 169) rfl), rfl⟩
theorem kD2_sortOf : xm (.code y2_sortOf c2_sortOf 2 (some .int)) := ⟨xt2 (List.mem_of_getElem? (i := 172) rfl), rfl⟩
theorem kX0_132 : xcl "ChangeRows" 132 y2_sortOf c2_sortOf 2 (some .int) 1 := ⟨kM0_132, kD2_sortOf, kI2, by decide +kernel, by decide⟩
theorem kN2_sortOf : xm (.instanceMethod y2_sortOf) := ⟨xt2 (List.mem_of_getElem? (i := 170) rfl), rfl⟩
theorem kE2_sortOf : xm (.selects "ChangeRows$Changes" y2_sortOf y2_sortOf) := ⟨xt2 (List.mem_of_getElem? (i := 171) rfl), rfl⟩
theorem kM0_135 : xm (.methodLink "ChangeRows" 135 y2_keyOf) := ⟨xt2 (List.mem_of_getElem? (i := 173) rfl), rfl⟩
theorem kD2_keyOf : xm (.code y2_keyOf c2_keyOf 2 (some .int)) := ⟨xt2 (List.mem_of_getElem? (i := 176) rfl), rfl⟩
theorem kX0_135 : xcl "ChangeRows" 135 y2_keyOf c2_keyOf 2 (some .int) 1 := ⟨kM0_135, kD2_keyOf, kI2, by decide +kernel, by decide⟩
theorem kN2_keyOf : xm (.instanceMethod y2_keyOf) := ⟨xt2 (List.mem_of_getElem? (i := 174) rfl), rfl⟩
theorem kE2_keyOf : xm (.selects "ChangeRows$Changes" y2_keyOf y2_keyOf) := ⟨xt2 (List.mem_of_getElem? (i := 175) rfl), rfl⟩
theorem kF0_138 : xm (.fieldLink "ChangeRows" 138 "ChangeRows$Changes" "old" "[J") := ⟨xt1 (List.mem_of_getElem? (i := 68) rfl), rfl⟩
theorem kF0_141 : xm (.fieldLink "ChangeRows" 141 "ChangeRows$Changes" "now" "[J") := ⟨xt1 (List.mem_of_getElem? (i := 70) rfl), rfl⟩
theorem kF0_48 : xm (.fieldLink "ChangeRows" 48 "ChangeRows" "earlier" "LChangeRows$Rows;") := ⟨xt1 (List.mem_of_getElem? (i := 148) rfl), rfl⟩
theorem kM0_153 : xm (.methodLink "ChangeRows" 153 y0_rowsBehind) := ⟨xt2 (List.mem_of_getElem? (i := 193) rfl), rfl⟩
theorem kD0_rowsBehind : xm (.code y0_rowsBehind c0_rowsBehind 5 none) := ⟨xt2 (List.mem_of_getElem? (i := 196) rfl), rfl⟩
theorem kX0_153 : xcl "ChangeRows" 153 y0_rowsBehind c0_rowsBehind 5 none 3 := ⟨kM0_153, kD0_rowsBehind, kI0, by decide +kernel, by decide⟩
theorem kN0_rowsBehind : xm (.instanceMethod y0_rowsBehind) := ⟨xt2 (List.mem_of_getElem? (i := 195) rfl), rfl⟩
theorem kE0_rowsBehind : xm (.selects "ChangeRows" y0_rowsBehind y0_rowsBehind) := ⟨xt0 (List.mem_of_getElem? (i := 20) rfl), rfl⟩
theorem kF0_51 : xm (.fieldLink "ChangeRows" 51 "ChangeRows" "later" "LChangeRows$Rows;") := ⟨xt1 (List.mem_of_getElem? (i := 149) rfl), rfl⟩
theorem kM0_165 : xm (.methodLink "ChangeRows" 165 y3_size) := ⟨xt2 (List.mem_of_getElem? (i := 201) rfl), rfl⟩
theorem kD3_size : xm (.code y3_size c3_size 1 (some .int)) := ⟨xt2 (List.mem_of_getElem? (i := 204) rfl), rfl⟩
theorem kX0_165 : xcl "ChangeRows" 165 y3_size c3_size 1 (some .int) 0 := ⟨kM0_165, kD3_size, kI3, by decide +kernel, by decide⟩
theorem kN3_size : xm (.instanceMethod y3_size) := ⟨xt2 (List.mem_of_getElem? (i := 202) rfl), rfl⟩
theorem kE3_size : xm (.selects "ChangeRows$Rows" y3_size y3_size) := ⟨xt2 (List.mem_of_getElem? (i := 203) rfl), rfl⟩
theorem kM0_178 : xm (.methodLink "ChangeRows" 178 y3_holds) := ⟨xt2 (List.mem_of_getElem? (i := 214) rfl), rfl⟩
theorem kX0_178 : xcl "ChangeRows" 178 y3_holds c3_holds 2 (some .boolean) 1 := ⟨kM0_178, kD3_holds, kI3, by decide +kernel, by decide⟩
theorem kF0_181 : xm (.fieldLink "ChangeRows" 181 "ChangeRows$Rows" "values" "[J") := ⟨xt1 (List.mem_of_getElem? (i := 90) rfl), rfl⟩
theorem kM0_167 : xm (.methodLink "ChangeRows" 167 y0_brokenBy) := ⟨xt2 (List.mem_of_getElem? (i := 210) rfl), rfl⟩
theorem kD0_brokenBy : xm (.code y0_brokenBy c0_brokenBy 5 (some .int)) := ⟨xt2 (List.mem_of_getElem? (i := 213) rfl), rfl⟩
theorem kX0_167 : xcl "ChangeRows" 167 y0_brokenBy c0_brokenBy 5 (some .int) 3 := ⟨kM0_167, kD0_brokenBy, kI0, by decide +kernel, by decide⟩
theorem kN0_brokenBy : xm (.instanceMethod y0_brokenBy) := ⟨xt2 (List.mem_of_getElem? (i := 212) rfl), rfl⟩
theorem kE0_brokenBy : xm (.selects "ChangeRows" y0_brokenBy y0_brokenBy) := ⟨xt0 (List.mem_of_getElem? (i := 21) rfl), rfl⟩
theorem kM0_171 : xm (.methodLink "ChangeRows" 171 y0_isTableOrCopy) := ⟨xt2 (List.mem_of_getElem? (i := 223) rfl), rfl⟩
theorem kD0_isTableOrCopy : xm (.code y0_isTableOrCopy c0_isTableOrCopy 2 (some .boolean)) := ⟨xt2 (List.mem_of_getElem? (i := 226) rfl), rfl⟩
theorem kX0_171 : xcl "ChangeRows" 171 y0_isTableOrCopy c0_isTableOrCopy 2 (some .boolean) 1 := ⟨kM0_171, kD0_isTableOrCopy, kI0, by decide +kernel, by decide⟩
theorem kN0_isTableOrCopy : xm (.instanceMethod y0_isTableOrCopy) := ⟨xt2 (List.mem_of_getElem? (i := 225) rfl), rfl⟩
theorem kE0_isTableOrCopy : xm (.selects "ChangeRows" y0_isTableOrCopy y0_isTableOrCopy) := ⟨xt0 (List.mem_of_getElem? (i := 22) rfl), rfl⟩
theorem kM0_174 : xm (.methodLink "ChangeRows" 174 y0_rowsOf) := ⟨xt2 (List.mem_of_getElem? (i := 227) rfl), rfl⟩
theorem kD0_rowsOf : xm (.code y0_rowsOf c0_rowsOf 2 (some (.object "ChangeRows$Rows"))) := ⟨xt2 (List.mem_of_getElem? (i := 230) rfl), rfl⟩
theorem kX0_174 : xcl "ChangeRows" 174 y0_rowsOf c0_rowsOf 2 (some (.object "ChangeRows$Rows")) 1 := ⟨kM0_174, kD0_rowsOf, kI0, by decide +kernel, by decide⟩
theorem kN0_rowsOf : xm (.instanceMethod y0_rowsOf) := ⟨xt2 (List.mem_of_getElem? (i := 229) rfl), rfl⟩
theorem kE0_rowsOf : xm (.selects "ChangeRows" y0_rowsOf y0_rowsOf) := ⟨xt0 (List.mem_of_getElem? (i := 23) rfl), rfl⟩
theorem kF5_87 : xm (.fieldLink "ChangeRowsModel" 87 "ChangeRowsModel" "tables" "I") := ⟨xt3 (List.mem_of_getElem? (i := 13) rfl), rfl⟩
theorem kF5_91 : xm (.fieldLink "ChangeRowsModel" 91 "ChangeRowsModel" "logged" "I") := ⟨xt3 (List.mem_of_getElem? (i := 30) rfl), rfl⟩
theorem kF5_94 : xm (.fieldLink "ChangeRowsModel" 94 "ChangeRowsModel" "told" "I") := ⟨xt3 (List.mem_of_getElem? (i := 31) rfl), rfl⟩
theorem kF5_97 : xm (.fieldLink "ChangeRowsModel" 97 "ChangeRowsModel" "netted" "I") := ⟨xt3 (List.mem_of_getElem? (i := 32) rfl), rfl⟩
theorem kF5_100 : xm (.fieldLink "ChangeRowsModel" 100 "ChangeRowsModel" "isBatch" "Z") := ⟨xt3 (List.mem_of_getElem? (i := 33) rfl), rfl⟩
theorem kF5_104 : xm (.fieldLink "ChangeRowsModel" 104 "ChangeRowsModel" "gathered" "I") := ⟨xt3 (List.mem_of_getElem? (i := 34) rfl), rfl⟩
theorem kF5_72 : xm (.fieldLink "ChangeRowsModel" 72 "ChangeRowsModel" "copyHas" "[Z") := ⟨xt3 (List.mem_of_getElem? (i := 39) rfl), rfl⟩
theorem kM5_84 : xm (.methodLink "ChangeRowsModel" 84 y5_begins) := ⟨xt3 (List.mem_of_getElem? (i := 9) rfl), rfl⟩
theorem kD5_begins : xm (.code y5_begins c5_begins 2 none) := ⟨xt3 (List.mem_of_getElem? (i := 12) rfl), rfl⟩
theorem kI5 : xm (.initialized "ChangeRowsModel") := ⟨xt1 (List.mem_of_getElem? (i := 7) rfl), rfl⟩
theorem kX5_84 : xcl "ChangeRowsModel" 84 y5_begins c5_begins 2 none 0 := ⟨kM5_84, kD5_begins, kI5, by decide +kernel, by decide⟩
theorem kN5_begins : xm (.instanceMethod y5_begins) := ⟨xt3 (List.mem_of_getElem? (i := 11) rfl), rfl⟩
theorem kE5_begins : xm (.selects "ChangeRowsModel" y5_begins y5_begins) := ⟨xt0 (List.mem_of_getElem? (i := 24) rfl), rfl⟩
theorem kM5_107 : xm (.methodLink "ChangeRowsModel" 107 y5_isIn) := ⟨xt3 (List.mem_of_getElem? (i := 138) rfl), rfl⟩
theorem kD5_isIn : xm (.code y5_isIn c5_isIn 6 (some .boolean)) := ⟨xt3 (List.mem_of_getElem? (i := 140) rfl), rfl⟩
theorem kX5_107 : xcl "ChangeRowsModel" 107 y5_isIn c5_isIn 6 (some .boolean) 3 := ⟨kM5_107, kD5_isIn, kI5, by decide +kernel, by decide⟩
theorem kS5_isIn : xm (.static y5_isIn) := ⟨xt3 (List.mem_of_getElem? (i := 139) rfl), rfl⟩
theorem kF5_26 : xm (.fieldLink "ChangeRowsModel" 26 "ChangeRowsModel" "has" "[Z") := ⟨xt3 (List.mem_of_getElem? (i := 19) rfl), rfl⟩
theorem kF5_30 : xm (.fieldLink "ChangeRowsModel" 30 "ChangeRowsModel" "value" "[J") := ⟨xt3 (List.mem_of_getElem? (i := 20) rfl), rfl⟩
theorem kF5_23 : xm (.fieldLink "ChangeRowsModel" 23 "ChangeRowsModel" "high" "[J") := ⟨xt3 (List.mem_of_getElem? (i := 18) rfl), rfl⟩
theorem kF5_13 : xm (.fieldLink "ChangeRowsModel" 13 "ChangeRowsModel" "one" "[I") := ⟨xt3 (List.mem_of_getElem? (i := 15) rfl), rfl⟩
theorem kM5_115 : xm (.methodLink "ChangeRowsModel" 115 y5_setRow) := ⟨xt3 (List.mem_of_getElem? (i := 130) rfl), rfl⟩
theorem kD5_setRow : xm (.code y5_setRow c5_setRow 4 none) := ⟨xt3 (List.mem_of_getElem? (i := 133) rfl), rfl⟩
theorem kX5_115 : xcl "ChangeRowsModel" 115 y5_setRow c5_setRow 4 none 2 := ⟨kM5_115, kD5_setRow, kI5, by decide +kernel, by decide⟩
theorem kN5_setRow : xm (.instanceMethod y5_setRow) := ⟨xt3 (List.mem_of_getElem? (i := 132) rfl), rfl⟩
theorem kE5_setRow : xm (.selects "ChangeRowsModel" y5_setRow y5_setRow) := ⟨xt0 (List.mem_of_getElem? (i := 29) rfl), rfl⟩
theorem kF5_19 : xm (.fieldLink "ChangeRowsModel" 19 "ChangeRowsModel" "low" "[J") := ⟨xt3 (List.mem_of_getElem? (i := 17) rfl), rfl⟩
theorem kC5_111 : xm (.constantLong "ChangeRowsModel" 111 2) := ⟨xt3 (List.mem_of_getElem? (i := 128) rfl), rfl⟩
theorem kC5_113 : xm (.constantLong "ChangeRowsModel" 113 3) := ⟨xt3 (List.mem_of_getElem? (i := 129) rfl), rfl⟩
theorem kF5_7 : xm (.fieldLink "ChangeRowsModel" 7 "ChangeRowsModel" "sort" "[I") := ⟨xt3 (List.mem_of_getElem? (i := 14) rfl), rfl⟩
theorem kC5_134 : xm (.constantLong "ChangeRowsModel" 134 63) := ⟨xt3 (List.mem_of_getElem? (i := 145) rfl), rfl⟩
theorem kM5_130 : xm (.methodLink "ChangeRowsModel" 130 y5_isBest) := ⟨xt3 (List.mem_of_getElem? (i := 141) rfl), rfl⟩
theorem kD5_isBest : xm (.code y5_isBest c5_isBest 12 (some .boolean)) := ⟨xt3 (List.mem_of_getElem? (i := 144) rfl), rfl⟩
theorem kX5_130 : xcl "ChangeRowsModel" 130 y5_isBest c5_isBest 12 (some .boolean) 3 := ⟨kM5_130, kD5_isBest, kI5, by decide +kernel, by decide⟩
theorem kN5_isBest : xm (.instanceMethod y5_isBest) := ⟨xt3 (List.mem_of_getElem? (i := 143) rfl), rfl⟩
theorem kE5_isBest : xm (.selects "ChangeRowsModel" y5_isBest y5_isBest) := ⟨xt0 (List.mem_of_getElem? (i := 31) rfl), rfl⟩
theorem kF5_16 : xm (.fieldLink "ChangeRowsModel" 16 "ChangeRowsModel" "two" "[I") := ⟨xt3 (List.mem_of_getElem? (i := 16) rfl), rfl⟩
theorem kM5_126 : xm (.methodLink "ChangeRowsModel" 126 y5_workRow) := ⟨xt3 (List.mem_of_getElem? (i := 134) rfl), rfl⟩
theorem kD5_workRow : xm (.code y5_workRow c5_workRow 9 none) := ⟨xt3 (List.mem_of_getElem? (i := 137) rfl), rfl⟩
theorem kX5_126 : xcl "ChangeRowsModel" 126 y5_workRow c5_workRow 9 none 6 := ⟨kM5_126, kD5_workRow, kI5, by decide +kernel, by decide⟩
theorem kN5_workRow : xm (.instanceMethod y5_workRow) := ⟨xt3 (List.mem_of_getElem? (i := 136) rfl), rfl⟩
theorem kE5_workRow : xm (.selects "ChangeRowsModel" y5_workRow y5_workRow) := ⟨xt0 (List.mem_of_getElem? (i := 30) rfl), rfl⟩
theorem kM5_123 : xm (.methodLink "ChangeRowsModel" 123 y5_workFold) := ⟨xt3 (List.mem_of_getElem? (i := 124) rfl), rfl⟩
theorem kD5_workFold : xm (.code y5_workFold c5_workFold 11 none) := ⟨xt3 (List.mem_of_getElem? (i := 127) rfl), rfl⟩
theorem kX5_123 : xcl "ChangeRowsModel" 123 y5_workFold c5_workFold 11 none 1 := ⟨kM5_123, kD5_workFold, kI5, by decide +kernel, by decide⟩
theorem kN5_workFold : xm (.instanceMethod y5_workFold) := ⟨xt3 (List.mem_of_getElem? (i := 126) rfl), rfl⟩
theorem kE5_workFold : xm (.selects "ChangeRowsModel" y5_workFold y5_workFold) := ⟨xt0 (List.mem_of_getElem? (i := 28) rfl), rfl⟩
theorem kM5_119 : xm (.methodLink "ChangeRowsModel" 119 y5_clearRow) := ⟨xt3 (List.mem_of_getElem? (i := 116) rfl), rfl⟩
theorem kD5_clearRow : xm (.code y5_clearRow c5_clearRow 2 none) := ⟨xt3 (List.mem_of_getElem? (i := 119) rfl), rfl⟩
theorem kX5_119 : xcl "ChangeRowsModel" 119 y5_clearRow c5_clearRow 2 none 1 := ⟨kM5_119, kD5_clearRow, kI5, by decide +kernel, by decide⟩
theorem kN5_clearRow : xm (.instanceMethod y5_clearRow) := ⟨xt3 (List.mem_of_getElem? (i := 118) rfl), rfl⟩
theorem kE5_clearRow : xm (.selects "ChangeRowsModel" y5_clearRow y5_clearRow) := ⟨xt0 (List.mem_of_getElem? (i := 26) rfl), rfl⟩
theorem kF5_39 : xm (.fieldLink "ChangeRowsModel" 39 "ChangeRowsModel" "baseHas" "[Z") := ⟨xt3 (List.mem_of_getElem? (i := 23) rfl), rfl⟩
theorem kF5_42 : xm (.fieldLink "ChangeRowsModel" 42 "ChangeRowsModel" "baseValue" "[J") := ⟨xt3 (List.mem_of_getElem? (i := 24) rfl), rfl⟩
theorem kM5_136 : xm (.methodLink "ChangeRowsModel" 136 y5_work) := ⟨xt3 (List.mem_of_getElem? (i := 120) rfl), rfl⟩
theorem kD5_work : xm (.code y5_work c5_work 8 none) := ⟨xt3 (List.mem_of_getElem? (i := 123) rfl), rfl⟩
theorem kX5_136 : xcl "ChangeRowsModel" 136 y5_work c5_work 8 none 1 := ⟨kM5_136, kD5_work, kI5, by decide +kernel, by decide⟩
theorem kN5_work : xm (.instanceMethod y5_work) := ⟨xt3 (List.mem_of_getElem? (i := 122) rfl), rfl⟩
theorem kE5_work : xm (.selects "ChangeRowsModel" y5_work y5_work) := ⟨xt0 (List.mem_of_getElem? (i := 27) rfl), rfl⟩
theorem kM5_139 : xm (.methodLink "ChangeRowsModel" 139 y5_add) := ⟨xt3 (List.mem_of_getElem? (i := 112) rfl), rfl⟩
theorem kD5_add : xm (.code y5_add c5_add 10 (some .int)) := ⟨xt3 (List.mem_of_getElem? (i := 115) rfl), rfl⟩
theorem kX5_139 : xcl "ChangeRowsModel" 139 y5_add c5_add 10 (some .int) 5 := ⟨kM5_139, kD5_add, kI5, by decide +kernel, by decide⟩
theorem kN5_add : xm (.instanceMethod y5_add) := ⟨xt3 (List.mem_of_getElem? (i := 114) rfl), rfl⟩
theorem kE5_add : xm (.selects "ChangeRowsModel" y5_add y5_add) := ⟨xt0 (List.mem_of_getElem? (i := 25) rfl), rfl⟩
theorem kM5_143 : xm (.methodLink "ChangeRowsModel" 143 y5_isTable) := ⟨xt3 (List.mem_of_getElem? (i := 150) rfl), rfl⟩
theorem kD5_isTable : xm (.code y5_isTable c5_isTable 2 (some .boolean)) := ⟨xt3 (List.mem_of_getElem? (i := 153) rfl), rfl⟩
theorem kX5_143 : xcl "ChangeRowsModel" 143 y5_isTable c5_isTable 2 (some .boolean) 1 := ⟨kM5_143, kD5_isTable, kI5, by decide +kernel, by decide⟩
theorem kN5_isTable : xm (.instanceMethod y5_isTable) := ⟨xt3 (List.mem_of_getElem? (i := 152) rfl), rfl⟩
theorem kE5_isTable : xm (.selects "ChangeRowsModel" y5_isTable y5_isTable) := ⟨xt0 (List.mem_of_getElem? (i := 32) rfl), rfl⟩
theorem kC5_147 : xm (.constantLong "ChangeRowsModel" 147 (-1000)) := ⟨xt3 (List.mem_of_getElem? (i := 158) rfl), rfl⟩
theorem kC5_149 : xm (.constantLong "ChangeRowsModel" 149 1000) := ⟨xt3 (List.mem_of_getElem? (i := 159) rfl), rfl⟩
theorem kC5_151 : xm (.constantLong "ChangeRowsModel" 151 4) := ⟨xt3 (List.mem_of_getElem? (i := 164) rfl), rfl⟩
theorem kC5_153 : xm (.constantLong "ChangeRowsModel" 153 64) := ⟨xt3 (List.mem_of_getElem? (i := 165) rfl), rfl⟩
theorem kF5_45 : xm (.fieldLink "ChangeRowsModel" 45 "ChangeRowsModel" "changeTable" "[I") := ⟨xt3 (List.mem_of_getElem? (i := 25) rfl), rfl⟩
theorem kF5_48 : xm (.fieldLink "ChangeRowsModel" 48 "ChangeRowsModel" "changeSort" "[I") := ⟨xt3 (List.mem_of_getElem? (i := 26) rfl), rfl⟩
theorem kF5_51 : xm (.fieldLink "ChangeRowsModel" 51 "ChangeRowsModel" "changeKey" "[I") := ⟨xt3 (List.mem_of_getElem? (i := 27) rfl), rfl⟩
theorem kF5_54 : xm (.fieldLink "ChangeRowsModel" 54 "ChangeRowsModel" "changeOld" "[J") := ⟨xt3 (List.mem_of_getElem? (i := 28) rfl), rfl⟩
theorem kF5_57 : xm (.fieldLink "ChangeRowsModel" 57 "ChangeRowsModel" "changeNow" "[J") := ⟨xt3 (List.mem_of_getElem? (i := 29) rfl), rfl⟩
theorem kF5_33 : xm (.fieldLink "ChangeRowsModel" 33 "ChangeRowsModel" "had" "[Z") := ⟨xt3 (List.mem_of_getElem? (i := 21) rfl), rfl⟩
theorem kF5_36 : xm (.fieldLink "ChangeRowsModel" 36 "ChangeRowsModel" "was" "[J") := ⟨xt3 (List.mem_of_getElem? (i := 22) rfl), rfl⟩
theorem kM5_155 : xm (.methodLink "ChangeRowsModel" 155 y5_isOther) := ⟨xt3 (List.mem_of_getElem? (i := 210) rfl), rfl⟩
theorem kD5_isOther : xm (.code y5_isOther c5_isOther 2 (some .boolean)) := ⟨xt3 (List.mem_of_getElem? (i := 213) rfl), rfl⟩
theorem kX5_155 : xcl "ChangeRowsModel" 155 y5_isOther c5_isOther 2 (some .boolean) 1 := ⟨kM5_155, kD5_isOther, kI5, by decide +kernel, by decide⟩
theorem kN5_isOther : xm (.instanceMethod y5_isOther) := ⟨xt3 (List.mem_of_getElem? (i := 212) rfl), rfl⟩
theorem kE5_isOther : xm (.selects "ChangeRowsModel" y5_isOther y5_isOther) := ⟨xt0 (List.mem_of_getElem? (i := 39) rfl), rfl⟩
theorem kM5_158 : xm (.methodLink "ChangeRowsModel" 158 y5_follow) := ⟨xt3 (List.mem_of_getElem? (i := 206) rfl), rfl⟩
theorem kD5_follow : xm (.code y5_follow c5_follow 3 (some .int)) := ⟨xt3 (List.mem_of_getElem? (i := 209) rfl), rfl⟩
theorem kX5_158 : xcl "ChangeRowsModel" 158 y5_follow c5_follow 3 (some .int) 0 := ⟨kM5_158, kD5_follow, kI5, by decide +kernel, by decide⟩
theorem kN5_follow : xm (.instanceMethod y5_follow) := ⟨xt3 (List.mem_of_getElem? (i := 208) rfl), rfl⟩
theorem kE5_follow : xm (.selects "ChangeRowsModel" y5_follow y5_follow) := ⟨xt0 (List.mem_of_getElem? (i := 38) rfl), rfl⟩
theorem kM5_162 : xm (.methodLink "ChangeRowsModel" 162 y5_sortOf) := ⟨xt3 (List.mem_of_getElem? (i := 214) rfl), rfl⟩
theorem kD5_sortOf : xm (.code y5_sortOf c5_sortOf 2 (some .int)) := ⟨xt3 (List.mem_of_getElem? (i := 216) rfl), rfl⟩
theorem kX5_162 : xcl "ChangeRowsModel" 162 y5_sortOf c5_sortOf 2 (some .int) 2 := ⟨kM5_162, kD5_sortOf, kI5, by decide +kernel, by decide⟩
theorem kS5_sortOf : xm (.static y5_sortOf) := ⟨xt3 (List.mem_of_getElem? (i := 215) rfl), rfl⟩
theorem kM5_166 : xm (.methodLink "ChangeRowsModel" 166 y5_write) := ⟨xt3 (List.mem_of_getElem? (i := 217) rfl), rfl⟩
theorem kD5_write : xm (.code y5_write c5_write 9 none) := ⟨xt3 (List.mem_of_getElem? (i := 220) rfl), rfl⟩
theorem kX5_166 : xcl "ChangeRowsModel" 166 y5_write c5_write 9 none 6 := ⟨kM5_166, kD5_write, kI5, by decide +kernel, by decide⟩
theorem kN5_write : xm (.instanceMethod y5_write) := ⟨xt3 (List.mem_of_getElem? (i := 219) rfl), rfl⟩
theorem kE5_write : xm (.selects "ChangeRowsModel" y5_write y5_write) := ⟨xt0 (List.mem_of_getElem? (i := 40) rfl), rfl⟩
theorem kM5_170 : xm (.methodLink "ChangeRowsModel" 170 y5_isSource) := ⟨xt3 (List.mem_of_getElem? (i := 190) rfl), rfl⟩
theorem kD5_isSource : xm (.code y5_isSource c5_isSource 3 (some .boolean)) := ⟨xt3 (List.mem_of_getElem? (i := 193) rfl), rfl⟩
theorem kX5_170 : xcl "ChangeRowsModel" 170 y5_isSource c5_isSource 3 (some .boolean) 2 := ⟨kM5_170, kD5_isSource, kI5, by decide +kernel, by decide⟩
theorem kN5_isSource : xm (.instanceMethod y5_isSource) := ⟨xt3 (List.mem_of_getElem? (i := 192) rfl), rfl⟩
theorem kE5_isSource : xm (.selects "ChangeRowsModel" y5_isSource y5_isSource) := ⟨xt0 (List.mem_of_getElem? (i := 34) rfl), rfl⟩
theorem kM5_174 : xm (.methodLink "ChangeRowsModel" 174 y5_keepRows) := ⟨xt3 (List.mem_of_getElem? (i := 194) rfl), rfl⟩
theorem kD5_keepRows : xm (.code y5_keepRows c5_keepRows 2 none) := ⟨xt3 (List.mem_of_getElem? (i := 197) rfl), rfl⟩
theorem kX5_174 : xcl "ChangeRowsModel" 174 y5_keepRows c5_keepRows 2 none 0 := ⟨kM5_174, kD5_keepRows, kI5, by decide +kernel, by decide⟩
theorem kN5_keepRows : xm (.instanceMethod y5_keepRows) := ⟨xt3 (List.mem_of_getElem? (i := 196) rfl), rfl⟩
theorem kE5_keepRows : xm (.selects "ChangeRowsModel" y5_keepRows y5_keepRows) := ⟨xt0 (List.mem_of_getElem? (i := 35) rfl), rfl⟩
theorem kM5_177 : xm (.methodLink "ChangeRowsModel" 177 y5_setOrClear) := ⟨xt3 (List.mem_of_getElem? (i := 198) rfl), rfl⟩
theorem kD5_setOrClear : xm (.code y5_setOrClear c5_setOrClear 5 none) := ⟨xt3 (List.mem_of_getElem? (i := 201) rfl), rfl⟩
theorem kX5_177 : xcl "ChangeRowsModel" 177 y5_setOrClear c5_setOrClear 5 none 3 := ⟨kM5_177, kD5_setOrClear, kI5, by decide +kernel, by decide⟩
theorem kN5_setOrClear : xm (.instanceMethod y5_setOrClear) := ⟨xt3 (List.mem_of_getElem? (i := 200) rfl), rfl⟩
theorem kE5_setOrClear : xm (.selects "ChangeRowsModel" y5_setOrClear y5_setOrClear) := ⟨xt0 (List.mem_of_getElem? (i := 36) rfl), rfl⟩
theorem kM5_181 : xm (.methodLink "ChangeRowsModel" 181 y5_tell) := ⟨xt3 (List.mem_of_getElem? (i := 202) rfl), rfl⟩
theorem kD5_tell : xm (.code y5_tell c5_tell 8 (some .int)) := ⟨xt3 (List.mem_of_getElem? (i := 205) rfl), rfl⟩
theorem kX5_181 : xcl "ChangeRowsModel" 181 y5_tell c5_tell 8 (some .int) 0 := ⟨kM5_181, kD5_tell, kI5, by decide +kernel, by decide⟩
theorem kN5_tell : xm (.instanceMethod y5_tell) := ⟨xt3 (List.mem_of_getElem? (i := 204) rfl), rfl⟩
theorem kE5_tell : xm (.selects "ChangeRowsModel" y5_tell y5_tell) := ⟨xt0 (List.mem_of_getElem? (i := 37) rfl), rfl⟩
theorem kF5_60 : xm (.fieldLink "ChangeRowsModel" 60 "ChangeRowsModel" "batchTable" "[I") := ⟨xt3 (List.mem_of_getElem? (i := 35) rfl), rfl⟩
theorem kF5_63 : xm (.fieldLink "ChangeRowsModel" 63 "ChangeRowsModel" "batchKey" "[I") := ⟨xt3 (List.mem_of_getElem? (i := 36) rfl), rfl⟩
theorem kF5_66 : xm (.fieldLink "ChangeRowsModel" 66 "ChangeRowsModel" "batchHas" "[Z") := ⟨xt3 (List.mem_of_getElem? (i := 37) rfl), rfl⟩
theorem kF5_69 : xm (.fieldLink "ChangeRowsModel" 69 "ChangeRowsModel" "batchValue" "[J") := ⟨xt3 (List.mem_of_getElem? (i := 38) rfl), rfl⟩
theorem kM5_184 : xm (.methodLink "ChangeRowsModel" 184 y5_alter) := ⟨xt3 (List.mem_of_getElem? (i := 186) rfl), rfl⟩
theorem kD5_alter : xm (.code y5_alter c5_alter 6 (some .int)) := ⟨xt3 (List.mem_of_getElem? (i := 189) rfl), rfl⟩
theorem kX5_184 : xcl "ChangeRowsModel" 184 y5_alter c5_alter 6 (some .int) 4 := ⟨kM5_184, kD5_alter, kI5, by decide +kernel, by decide⟩
theorem kN5_alter : xm (.instanceMethod y5_alter) := ⟨xt3 (List.mem_of_getElem? (i := 188) rfl), rfl⟩
theorem kE5_alter : xm (.selects "ChangeRowsModel" y5_alter y5_alter) := ⟨xt0 (List.mem_of_getElem? (i := 33) rfl), rfl⟩
theorem kM5_188 : xm (.methodLink "ChangeRowsModel" 188 y5_placeOf) := ⟨xt4 (List.mem_of_getElem? (i := 5) rfl), rfl⟩
theorem kD5_placeOf : xm (.code y5_placeOf c5_placeOf 4 (some .int)) := ⟨xt4 (List.mem_of_getElem? (i := 8) rfl), rfl⟩
theorem kX5_188 : xcl "ChangeRowsModel" 188 y5_placeOf c5_placeOf 4 (some .int) 2 := ⟨kM5_188, kD5_placeOf, kI5, by decide +kernel, by decide⟩
theorem kN5_placeOf : xm (.instanceMethod y5_placeOf) := ⟨xt4 (List.mem_of_getElem? (i := 7) rfl), rfl⟩
theorem kE5_placeOf : xm (.selects "ChangeRowsModel" y5_placeOf y5_placeOf) := ⟨xt0 (List.mem_of_getElem? (i := 41) rfl), rfl⟩
theorem kF5_78 : xm (.fieldLink "ChangeRowsModel" 78 "ChangeRowsModel" "thenHas" "[Z") := ⟨xt3 (List.mem_of_getElem? (i := 41) rfl), rfl⟩
theorem kF5_81 : xm (.fieldLink "ChangeRowsModel" 81 "ChangeRowsModel" "thenValue" "[J") := ⟨xt3 (List.mem_of_getElem? (i := 42) rfl), rfl⟩
theorem kM5_192 : xm (.methodLink "ChangeRowsModel" 192 y5_goTo) := ⟨xt4 (List.mem_of_getElem? (i := 25) rfl), rfl⟩
theorem kD5_goTo : xm (.code y5_goTo c5_goTo 4 none) := ⟨xt4 (List.mem_of_getElem? (i := 28) rfl), rfl⟩
theorem kX5_192 : xcl "ChangeRowsModel" 192 y5_goTo c5_goTo 4 none 2 := ⟨kM5_192, kD5_goTo, kI5, by decide +kernel, by decide⟩
theorem kN5_goTo : xm (.instanceMethod y5_goTo) := ⟨xt4 (List.mem_of_getElem? (i := 27) rfl), rfl⟩
theorem kE5_goTo : xm (.selects "ChangeRowsModel" y5_goTo y5_goTo) := ⟨xt0 (List.mem_of_getElem? (i := 42) rfl), rfl⟩
theorem kF5_75 : xm (.fieldLink "ChangeRowsModel" 75 "ChangeRowsModel" "copyValue" "[J") := ⟨xt3 (List.mem_of_getElem? (i := 40) rfl), rfl⟩
theorem kM5_196 : xm (.methodLink "ChangeRowsModel" 196 y5_has) := ⟨xt4 (List.mem_of_getElem? (i := 49) rfl), rfl⟩
theorem kD5_has : xm (.code y5_has c5_has 3 (some .int)) := ⟨xt4 (List.mem_of_getElem? (i := 44) rfl), rfl⟩
theorem kX5_196 : xcl "ChangeRowsModel" 196 y5_has c5_has 3 (some .int) 2 := ⟨kM5_196, kD5_has, kI5, by decide +kernel, by decide⟩
theorem kN5_has : xm (.instanceMethod y5_has) := ⟨xt4 (List.mem_of_getElem? (i := 42) rfl), rfl⟩
theorem kE5_has : xm (.selects "ChangeRowsModel" y5_has y5_has) := ⟨xt4 (List.mem_of_getElem? (i := 43) rfl), rfl⟩
end
section
theorem d1_close_0 : decode c1_close 0 = .ok (.aload_n 0, 1) := by decide +kernel
theorem d1_close_1 : decode c1_close 1 = .ok (.iconst 0, 1) := by decide +kernel
theorem d1_close_2 : decode c1_close 2 = .ok (.putfield 9, 3) := by decide +kernel
theorem d1_close_5 : decode c1_close 5 = .ok (.return_, 1) := by decide +kernel
theorem d2_reset_0 : decode c2_reset 0 = .ok (.aload_n 0, 1) := by decide +kernel
theorem d2_reset_1 : decode c2_reset 1 = .ok (.iconst 0, 1) := by decide +kernel
theorem d2_reset_2 : decode c2_reset 2 = .ok (.putfield 9, 3) := by decide +kernel
theorem d2_reset_5 : decode c2_reset 5 = .ok (.return_, 1) := by decide +kernel
theorem dA_fill_0 : decode cA_fill 0 = .ok (.iconst 0, 1) := by decide +kernel
theorem dA_fill_1 : decode cA_fill 1 = .ok (.istore_n 3, 1) := by decide +kernel
theorem dA_fill_2 : decode cA_fill 2 = .ok (.aload_n 0, 1) := by decide +kernel
theorem dA_fill_3 : decode cA_fill 3 = .ok (.arraylength, 1) := by decide +kernel
theorem dA_fill_4 : decode cA_fill 4 = .ok (.istore 4, 2) := by decide +kernel
theorem dA_fill_6 : decode cA_fill 6 = .ok (.iload_n 3, 1) := by decide +kernel
theorem dA_fill_7 : decode cA_fill 7 = .ok (.iload 4, 2) := by decide +kernel
theorem dA_fill_9 : decode cA_fill 9 = .ok (.if_icmp .ge 13, 3) := by decide +kernel
theorem dA_fill_12 : decode cA_fill 12 = .ok (.aload_n 0, 1) := by decide +kernel
theorem dA_fill_13 : decode cA_fill 13 = .ok (.iload_n 3, 1) := by decide +kernel
theorem dA_fill_14 : decode cA_fill 14 = .ok (.lload_n 1, 1) := by decide +kernel
theorem dA_fill_15 : decode cA_fill 15 = .ok (.lastore, 1) := by decide +kernel
theorem dA_fill_16 : decode cA_fill 16 = .ok (.iinc 3 1, 3) := by decide +kernel
theorem dA_fill_19 : decode cA_fill 19 = .ok (.goto (-13), 3) := by decide +kernel
theorem dA_fill_22 : decode cA_fill 22 = .ok (.return_, 1) := by decide +kernel
theorem d3_reset_0 : decode c3_reset 0 = .ok (.aload_n 0, 1) := by decide +kernel
theorem d3_reset_1 : decode c3_reset 1 = .ok (.lconst 0, 1) := by decide +kernel
theorem d3_reset_2 : decode c3_reset 2 = .ok (.putfield 9, 3) := by decide +kernel
theorem d3_reset_5 : decode c3_reset 5 = .ok (.aload_n 0, 1) := by decide +kernel
theorem d3_reset_6 : decode c3_reset 6 = .ok (.getfield 15, 3) := by decide +kernel
theorem d3_reset_9 : decode c3_reset 9 = .ok (.lconst 0, 1) := by decide +kernel
theorem d3_reset_10 : decode c3_reset 10 = .ok (.invokestatic 25, 3) := by decide +kernel
theorem d3_reset_13 : decode c3_reset 13 = .ok (.return_, 1) := by decide +kernel
theorem d4_define_0 : decode c4_define 0 = .ok (.aload_n 0, 1) := by decide +kernel
theorem d4_define_1 : decode c4_define 1 = .ok (.iload_n 1, 1) := by decide +kernel
theorem d4_define_2 : decode c4_define 2 = .ok (.putfield 9, 3) := by decide +kernel
theorem d4_define_5 : decode c4_define 5 = .ok (.aload_n 0, 1) := by decide +kernel
theorem d4_define_6 : decode c4_define 6 = .ok (.iload_n 2, 1) := by decide +kernel
theorem d4_define_7 : decode c4_define 7 = .ok (.putfield 15, 3) := by decide +kernel
theorem d4_define_10 : decode c4_define 10 = .ok (.aload_n 0, 1) := by decide +kernel
theorem d4_define_11 : decode c4_define 11 = .ok (.iload_n 3, 1) := by decide +kernel
theorem d4_define_12 : decode c4_define 12 = .ok (.putfield 18, 3) := by decide +kernel
theorem d4_define_15 : decode c4_define 15 = .ok (.aload_n 0, 1) := by decide +kernel
theorem d4_define_16 : decode c4_define 16 = .ok (.lload 4, 2) := by decide +kernel
theorem d4_define_18 : decode c4_define 18 = .ok (.putfield 21, 3) := by decide +kernel
theorem d4_define_21 : decode c4_define 21 = .ok (.aload_n 0, 1) := by decide +kernel
theorem d4_define_22 : decode c4_define 22 = .ok (.lload 6, 2) := by decide +kernel
theorem d4_define_24 : decode c4_define 24 = .ok (.putfield 25, 3) := by decide +kernel
theorem d4_define_27 : decode c4_define 27 = .ok (.return_, 1) := by decide +kernel
theorem d3_holds_0 : decode c3_holds 0 = .ok (.aload_n 0, 1) := by decide +kernel
theorem d3_holds_1 : decode c3_holds 1 = .ok (.getfield 9, 3) := by decide +kernel
theorem d3_holds_4 : decode c3_holds 4 = .ok (.iload_n 1, 1) := by decide +kernel
theorem d3_holds_5 : decode c3_holds 5 = .ok (.lushr, 1) := by decide +kernel
theorem d3_holds_6 : decode c3_holds 6 = .ok (.lconst 1, 1) := by decide +kernel
theorem d3_holds_7 : decode c3_holds 7 = .ok (.land, 1) := by decide +kernel
theorem d3_holds_8 : decode c3_holds 8 = .ok (.lconst 0, 1) := by decide +kernel
theorem d3_holds_9 : decode c3_holds 9 = .ok (.lcmp, 1) := by decide +kernel
theorem d3_holds_10 : decode c3_holds 10 = .ok (.ifCond .eq 7, 3) := by decide +kernel
theorem d3_holds_13 : decode c3_holds 13 = .ok (.iconst 1, 1) := by decide +kernel
theorem d3_holds_14 : decode c3_holds 14 = .ok (.goto 4, 3) := by decide +kernel
theorem d3_holds_17 : decode c3_holds 17 = .ok (.iconst 0, 1) := by decide +kernel
theorem d3_holds_18 : decode c3_holds 18 = .ok (.ireturn, 1) := by decide +kernel
theorem d3_set_0 : decode c3_set 0 = .ok (.aload_n 0, 1) := by decide +kernel
theorem d3_set_1 : decode c3_set 1 = .ok (.dup, 1) := by decide +kernel
theorem d3_set_2 : decode c3_set 2 = .ok (.getfield 9, 3) := by decide +kernel
theorem d3_set_5 : decode c3_set 5 = .ok (.lconst 1, 1) := by decide +kernel
theorem d3_set_6 : decode c3_set 6 = .ok (.iload_n 1, 1) := by decide +kernel
theorem d3_set_7 : decode c3_set 7 = .ok (.lshl, 1) := by decide +kernel
theorem d3_set_8 : decode c3_set 8 = .ok (.lor, 1) := by decide +kernel
theorem d3_set_9 : decode c3_set 9 = .ok (.putfield 9, 3) := by decide +kernel
theorem d3_set_12 : decode c3_set 12 = .ok (.aload_n 0, 1) := by decide +kernel
theorem d3_set_13 : decode c3_set 13 = .ok (.getfield 15, 3) := by decide +kernel
theorem d3_set_16 : decode c3_set 16 = .ok (.iload_n 1, 1) := by decide +kernel
theorem d3_set_17 : decode c3_set 17 = .ok (.lload_n 2, 1) := by decide +kernel
theorem d3_set_18 : decode c3_set 18 = .ok (.lastore, 1) := by decide +kernel
theorem d3_set_19 : decode c3_set 19 = .ok (.return_, 1) := by decide +kernel
theorem d4_deriveFilter_0 : decode c4_deriveFilter 0 = .ok (.iconst 0, 1) := by decide +kernel
theorem d4_deriveFilter_1 : decode c4_deriveFilter 1 = .ok (.istore_n 2, 1) := by decide +kernel
theorem d4_deriveFilter_2 : decode c4_deriveFilter 2 = .ok (.iload_n 2, 1) := by decide +kernel
theorem d4_deriveFilter_3 : decode c4_deriveFilter 3 = .ok (.bipush 64, 2) := by decide +kernel
theorem d4_deriveFilter_5 : decode c4_deriveFilter 5 = .ok (.if_icmp .ge 51, 3) := by decide +kernel
theorem d4_deriveFilter_8 : decode c4_deriveFilter 8 = .ok (.aload_n 1, 1) := by decide +kernel
theorem d4_deriveFilter_9 : decode c4_deriveFilter 9 = .ok (.getfield 74, 3) := by decide +kernel
theorem d4_deriveFilter_12 : decode c4_deriveFilter 12 = .ok (.iload_n 2, 1) := by decide +kernel
theorem d4_deriveFilter_13 : decode c4_deriveFilter 13 = .ok (.laload, 1) := by decide +kernel
theorem d4_deriveFilter_14 : decode c4_deriveFilter 14 = .ok (.lstore_n 3, 1) := by decide +kernel
theorem d4_deriveFilter_15 : decode c4_deriveFilter 15 = .ok (.aload_n 1, 1) := by decide +kernel
theorem d4_deriveFilter_16 : decode c4_deriveFilter 16 = .ok (.iload_n 2, 1) := by decide +kernel
theorem d4_deriveFilter_17 : decode c4_deriveFilter 17 = .ok (.invokevirtual 78, 3) := by decide +kernel
theorem d4_deriveFilter_20 : decode c4_deriveFilter 20 = .ok (.ifCond .eq 30, 3) := by decide +kernel
theorem d4_deriveFilter_23 : decode c4_deriveFilter 23 = .ok (.lload_n 3, 1) := by decide +kernel
theorem d4_deriveFilter_24 : decode c4_deriveFilter 24 = .ok (.aload_n 0, 1) := by decide +kernel
theorem d4_deriveFilter_25 : decode c4_deriveFilter 25 = .ok (.getfield 21, 3) := by decide +kernel
theorem d4_deriveFilter_28 : decode c4_deriveFilter 28 = .ok (.lcmp, 1) := by decide +kernel
theorem d4_deriveFilter_29 : decode c4_deriveFilter 29 = .ok (.ifCond .lt 21, 3) := by decide +kernel
theorem d4_deriveFilter_32 : decode c4_deriveFilter 32 = .ok (.lload_n 3, 1) := by decide +kernel
theorem d4_deriveFilter_33 : decode c4_deriveFilter 33 = .ok (.aload_n 0, 1) := by decide +kernel
theorem d4_deriveFilter_34 : decode c4_deriveFilter 34 = .ok (.getfield 25, 3) := by decide +kernel
theorem d4_deriveFilter_37 : decode c4_deriveFilter 37 = .ok (.lcmp, 1) := by decide +kernel
theorem d4_deriveFilter_38 : decode c4_deriveFilter 38 = .ok (.ifCond .gt 12, 3) := by decide +kernel
theorem d4_deriveFilter_41 : decode c4_deriveFilter 41 = .ok (.aload_n 0, 1) := by decide +kernel
theorem d4_deriveFilter_42 : decode c4_deriveFilter 42 = .ok (.getfield 35, 3) := by decide +kernel
theorem d4_deriveFilter_45 : decode c4_deriveFilter 45 = .ok (.iload_n 2, 1) := by decide +kernel
theorem d4_deriveFilter_46 : decode c4_deriveFilter 46 = .ok (.lload_n 3, 1) := by decide +kernel
theorem d4_deriveFilter_47 : decode c4_deriveFilter 47 = .ok (.invokevirtual 82, 3) := by decide +kernel
theorem d4_deriveFilter_50 : decode c4_deriveFilter 50 = .ok (.iinc 2 1, 3) := by decide +kernel
theorem d4_deriveFilter_53 : decode c4_deriveFilter 53 = .ok (.goto (-51), 3) := by decide +kernel
theorem d4_deriveFilter_56 : decode c4_deriveFilter 56 = .ok (.return_, 1) := by decide +kernel
theorem d4_deriveMap_0 : decode c4_deriveMap 0 = .ok (.iconst 0, 1) := by decide +kernel
theorem d4_deriveMap_1 : decode c4_deriveMap 1 = .ok (.istore_n 2, 1) := by decide +kernel
theorem d4_deriveMap_2 : decode c4_deriveMap 2 = .ok (.iload_n 2, 1) := by decide +kernel
theorem d4_deriveMap_3 : decode c4_deriveMap 3 = .ok (.bipush 64, 2) := by decide +kernel
theorem d4_deriveMap_5 : decode c4_deriveMap 5 = .ok (.if_icmp .ge 41, 3) := by decide +kernel
theorem d4_deriveMap_8 : decode c4_deriveMap 8 = .ok (.aload_n 1, 1) := by decide +kernel
theorem d4_deriveMap_9 : decode c4_deriveMap 9 = .ok (.iload_n 2, 1) := by decide +kernel
theorem d4_deriveMap_10 : decode c4_deriveMap 10 = .ok (.invokevirtual 78, 3) := by decide +kernel
theorem d4_deriveMap_13 : decode c4_deriveMap 13 = .ok (.ifCond .eq 27, 3) := by decide +kernel
theorem d4_deriveMap_16 : decode c4_deriveMap 16 = .ok (.aload_n 0, 1) := by decide +kernel
theorem d4_deriveMap_17 : decode c4_deriveMap 17 = .ok (.getfield 35, 3) := by decide +kernel
theorem d4_deriveMap_20 : decode c4_deriveMap 20 = .ok (.iload_n 2, 1) := by decide +kernel
theorem d4_deriveMap_21 : decode c4_deriveMap 21 = .ok (.aload_n 0, 1) := by decide +kernel
theorem d4_deriveMap_22 : decode c4_deriveMap 22 = .ok (.getfield 21, 3) := by decide +kernel
theorem d4_deriveMap_25 : decode c4_deriveMap 25 = .ok (.aload_n 1, 1) := by decide +kernel
theorem d4_deriveMap_26 : decode c4_deriveMap 26 = .ok (.getfield 74, 3) := by decide +kernel
theorem d4_deriveMap_29 : decode c4_deriveMap 29 = .ok (.iload_n 2, 1) := by decide +kernel
theorem d4_deriveMap_30 : decode c4_deriveMap 30 = .ok (.laload, 1) := by decide +kernel
theorem d4_deriveMap_31 : decode c4_deriveMap 31 = .ok (.lmul, 1) := by decide +kernel
theorem d4_deriveMap_32 : decode c4_deriveMap 32 = .ok (.aload_n 0, 1) := by decide +kernel
theorem d4_deriveMap_33 : decode c4_deriveMap 33 = .ok (.getfield 25, 3) := by decide +kernel
theorem d4_deriveMap_36 : decode c4_deriveMap 36 = .ok (.ladd, 1) := by decide +kernel
theorem d4_deriveMap_37 : decode c4_deriveMap 37 = .ok (.invokevirtual 82, 3) := by decide +kernel
theorem d4_deriveMap_40 : decode c4_deriveMap 40 = .ok (.iinc 2 1, 3) := by decide +kernel
theorem d4_deriveMap_43 : decode c4_deriveMap 43 = .ok (.goto (-41), 3) := by decide +kernel
theorem d4_deriveMap_46 : decode c4_deriveMap 46 = .ok (.return_, 1) := by decide +kernel
theorem d4_folded_0 : decode c4_folded 0 = .ok (.aload_n 0, 1) := by decide +kernel
theorem d4_folded_1 : decode c4_folded 1 = .ok (.getfield 21, 3) := by decide +kernel
theorem d4_folded_4 : decode c4_folded 4 = .ok (.l2i, 1) := by decide +kernel
theorem d4_folded_5 : decode c4_folded 5 = .ok (.tableswitch 72 0 3 #[31, 35, 40, 56], 31) := by decide +kernel
theorem d4_folded_36 : decode c4_folded 36 = .ok (.lload_n 2, 1) := by decide +kernel
theorem d4_folded_37 : decode c4_folded 37 = .ok (.lconst 1, 1) := by decide +kernel
theorem d4_folded_38 : decode c4_folded 38 = .ok (.ladd, 1) := by decide +kernel
theorem d4_folded_39 : decode c4_folded 39 = .ok (.lreturn, 1) := by decide +kernel
theorem d4_folded_40 : decode c4_folded 40 = .ok (.lload_n 2, 1) := by decide +kernel
theorem d4_folded_41 : decode c4_folded 41 = .ok (.lload 5, 2) := by decide +kernel
theorem d4_folded_43 : decode c4_folded 43 = .ok (.ladd, 1) := by decide +kernel
theorem d4_folded_44 : decode c4_folded 44 = .ok (.lreturn, 1) := by decide +kernel
theorem d4_folded_45 : decode c4_folded 45 = .ok (.iload_n 1, 1) := by decide +kernel
theorem d4_folded_46 : decode c4_folded 46 = .ok (.ifCond .eq 8, 3) := by decide +kernel
theorem d4_folded_49 : decode c4_folded 49 = .ok (.lload 5, 2) := by decide +kernel
theorem d4_folded_51 : decode c4_folded 51 = .ok (.goto 9, 3) := by decide +kernel
theorem d4_folded_54 : decode c4_folded 54 = .ok (.lload_n 2, 1) := by decide +kernel
theorem d4_folded_55 : decode c4_folded 55 = .ok (.lload 5, 2) := by decide +kernel
theorem d4_folded_57 : decode c4_folded 57 = .ok (.invokestatic 90, 3) := by decide +kernel
theorem d4_folded_60 : decode c4_folded 60 = .ok (.lreturn, 1) := by decide +kernel
theorem d4_folded_61 : decode c4_folded 61 = .ok (.iload_n 1, 1) := by decide +kernel
theorem d4_folded_62 : decode c4_folded 62 = .ok (.ifCond .eq 8, 3) := by decide +kernel
theorem d4_folded_65 : decode c4_folded 65 = .ok (.lload 5, 2) := by decide +kernel
theorem d4_folded_67 : decode c4_folded 67 = .ok (.goto 9, 3) := by decide +kernel
theorem d4_folded_70 : decode c4_folded 70 = .ok (.lload_n 2, 1) := by decide +kernel
theorem d4_folded_71 : decode c4_folded 71 = .ok (.lload 5, 2) := by decide +kernel
theorem d4_folded_73 : decode c4_folded 73 = .ok (.invokestatic 96, 3) := by decide +kernel
theorem d4_folded_76 : decode c4_folded 76 = .ok (.lreturn, 1) := by decide +kernel
theorem d4_folded_77 : decode c4_folded 77 = .ok (.iload 4, 2) := by decide +kernel
theorem d4_folded_79 : decode c4_folded 79 = .ok (.i2l, 1) := by decide +kernel
theorem d4_folded_80 : decode c4_folded 80 = .ok (.lreturn, 1) := by decide +kernel
theorem d4_deriveFold_0 : decode c4_deriveFold 0 = .ok (.iconst 0, 1) := by decide +kernel
theorem d4_deriveFold_1 : decode c4_deriveFold 1 = .ok (.istore_n 2, 1) := by decide +kernel
theorem d4_deriveFold_2 : decode c4_deriveFold 2 = .ok (.iconst 0, 1) := by decide +kernel
theorem d4_deriveFold_3 : decode c4_deriveFold 3 = .ok (.istore_n 3, 1) := by decide +kernel
theorem d4_deriveFold_4 : decode c4_deriveFold 4 = .ok (.iload_n 3, 1) := by decide +kernel
theorem d4_deriveFold_5 : decode c4_deriveFold 5 = .ok (.bipush 64, 2) := by decide +kernel
theorem d4_deriveFold_7 : decode c4_deriveFold 7 = .ok (.if_icmp .ge 81, 3) := by decide +kernel
theorem d4_deriveFold_10 : decode c4_deriveFold 10 = .ok (.aload_n 1, 1) := by decide +kernel
theorem d4_deriveFold_11 : decode c4_deriveFold 11 = .ok (.iload_n 3, 1) := by decide +kernel
theorem d4_deriveFold_12 : decode c4_deriveFold 12 = .ok (.invokevirtual 78, 3) := by decide +kernel
theorem d4_deriveFold_15 : decode c4_deriveFold 15 = .ok (.ifCond .eq 47, 3) := by decide +kernel
theorem d4_deriveFold_18 : decode c4_deriveFold 18 = .ok (.aload_n 0, 1) := by decide +kernel
theorem d4_deriveFold_19 : decode c4_deriveFold 19 = .ok (.getfield 35, 3) := by decide +kernel
theorem d4_deriveFold_22 : decode c4_deriveFold 22 = .ok (.iload_n 2, 1) := by decide +kernel
theorem d4_deriveFold_23 : decode c4_deriveFold 23 = .ok (.aload_n 0, 1) := by decide +kernel
theorem d4_deriveFold_24 : decode c4_deriveFold 24 = .ok (.aload_n 0, 1) := by decide +kernel
theorem d4_deriveFold_25 : decode c4_deriveFold 25 = .ok (.getfield 35, 3) := by decide +kernel
theorem d4_deriveFold_28 : decode c4_deriveFold 28 = .ok (.iload_n 2, 1) := by decide +kernel
theorem d4_deriveFold_29 : decode c4_deriveFold 29 = .ok (.invokevirtual 78, 3) := by decide +kernel
theorem d4_deriveFold_32 : decode c4_deriveFold 32 = .ok (.ifCond .ne 7, 3) := by decide +kernel
theorem d4_deriveFold_35 : decode c4_deriveFold 35 = .ok (.iconst 1, 1) := by decide +kernel
theorem d4_deriveFold_36 : decode c4_deriveFold 36 = .ok (.goto 4, 3) := by decide +kernel
theorem d4_deriveFold_39 : decode c4_deriveFold 39 = .ok (.iconst 0, 1) := by decide +kernel
theorem d4_deriveFold_40 : decode c4_deriveFold 40 = .ok (.aload_n 0, 1) := by decide +kernel
theorem d4_deriveFold_41 : decode c4_deriveFold 41 = .ok (.getfield 35, 3) := by decide +kernel
theorem d4_deriveFold_44 : decode c4_deriveFold 44 = .ok (.getfield 74, 3) := by decide +kernel
theorem d4_deriveFold_47 : decode c4_deriveFold 47 = .ok (.iload_n 2, 1) := by decide +kernel
theorem d4_deriveFold_48 : decode c4_deriveFold 48 = .ok (.laload, 1) := by decide +kernel
theorem d4_deriveFold_49 : decode c4_deriveFold 49 = .ok (.iload_n 3, 1) := by decide +kernel
theorem d4_deriveFold_50 : decode c4_deriveFold 50 = .ok (.aload_n 1, 1) := by decide +kernel
theorem d4_deriveFold_51 : decode c4_deriveFold 51 = .ok (.getfield 74, 3) := by decide +kernel
theorem d4_deriveFold_54 : decode c4_deriveFold 54 = .ok (.iload_n 3, 1) := by decide +kernel
theorem d4_deriveFold_55 : decode c4_deriveFold 55 = .ok (.laload, 1) := by decide +kernel
theorem d4_deriveFold_56 : decode c4_deriveFold 56 = .ok (.invokevirtual 86, 3) := by decide +kernel
theorem d4_deriveFold_59 : decode c4_deriveFold 59 = .ok (.invokevirtual 82, 3) := by decide +kernel
theorem d4_deriveFold_62 : decode c4_deriveFold 62 = .ok (.iload_n 2, 1) := by decide +kernel
theorem d4_deriveFold_63 : decode c4_deriveFold 63 = .ok (.iconst 1, 1) := by decide +kernel
theorem d4_deriveFold_64 : decode c4_deriveFold 64 = .ok (.iadd, 1) := by decide +kernel
theorem d4_deriveFold_65 : decode c4_deriveFold 65 = .ok (.i2l, 1) := by decide +kernel
theorem d4_deriveFold_66 : decode c4_deriveFold 66 = .ok (.aload_n 0, 1) := by decide +kernel
theorem d4_deriveFold_67 : decode c4_deriveFold 67 = .ok (.getfield 25, 3) := by decide +kernel
theorem d4_deriveFold_70 : decode c4_deriveFold 70 = .ok (.lcmp, 1) := by decide +kernel
theorem d4_deriveFold_71 : decode c4_deriveFold 71 = .ok (.ifCond .ge 9, 3) := by decide +kernel
theorem d4_deriveFold_74 : decode c4_deriveFold 74 = .ok (.iload_n 2, 1) := by decide +kernel
theorem d4_deriveFold_75 : decode c4_deriveFold 75 = .ok (.iconst 1, 1) := by decide +kernel
theorem d4_deriveFold_76 : decode c4_deriveFold 76 = .ok (.iadd, 1) := by decide +kernel
theorem d4_deriveFold_77 : decode c4_deriveFold 77 = .ok (.goto 4, 3) := by decide +kernel
theorem d4_deriveFold_80 : decode c4_deriveFold 80 = .ok (.iconst 0, 1) := by decide +kernel
theorem d4_deriveFold_81 : decode c4_deriveFold 81 = .ok (.istore_n 2, 1) := by decide +kernel
theorem d4_deriveFold_82 : decode c4_deriveFold 82 = .ok (.iinc 3 1, 3) := by decide +kernel
theorem d4_deriveFold_85 : decode c4_deriveFold 85 = .ok (.goto (-81), 3) := by decide +kernel
theorem d4_deriveFold_88 : decode c4_deriveFold 88 = .ok (.return_, 1) := by decide +kernel
theorem d4_deriveJoin_0 : decode c4_deriveJoin 0 = .ok (.iconst 0, 1) := by decide +kernel
theorem d4_deriveJoin_1 : decode c4_deriveJoin 1 = .ok (.istore_n 3, 1) := by decide +kernel
theorem d4_deriveJoin_2 : decode c4_deriveJoin 2 = .ok (.iload_n 3, 1) := by decide +kernel
theorem d4_deriveJoin_3 : decode c4_deriveJoin 3 = .ok (.bipush 64, 2) := by decide +kernel
theorem d4_deriveJoin_5 : decode c4_deriveJoin 5 = .ok (.if_icmp .ge 55, 3) := by decide +kernel
theorem d4_deriveJoin_8 : decode c4_deriveJoin 8 = .ok (.aload_n 1, 1) := by decide +kernel
theorem d4_deriveJoin_9 : decode c4_deriveJoin 9 = .ok (.iload_n 3, 1) := by decide +kernel
theorem d4_deriveJoin_10 : decode c4_deriveJoin 10 = .ok (.invokevirtual 78, 3) := by decide +kernel
theorem d4_deriveJoin_13 : decode c4_deriveJoin 13 = .ok (.ifCond .eq 41, 3) := by decide +kernel
theorem d4_deriveJoin_16 : decode c4_deriveJoin 16 = .ok (.aload_n 2, 1) := by decide +kernel
theorem d4_deriveJoin_17 : decode c4_deriveJoin 17 = .ok (.iload_n 3, 1) := by decide +kernel
theorem d4_deriveJoin_18 : decode c4_deriveJoin 18 = .ok (.invokevirtual 78, 3) := by decide +kernel
theorem d4_deriveJoin_21 : decode c4_deriveJoin 21 = .ok (.ifCond .ne 12, 3) := by decide +kernel
theorem d4_deriveJoin_24 : decode c4_deriveJoin 24 = .ok (.aload_n 0, 1) := by decide +kernel
theorem d4_deriveJoin_25 : decode c4_deriveJoin 25 = .ok (.getfield 21, 3) := by decide +kernel
theorem d4_deriveJoin_28 : decode c4_deriveJoin 28 = .ok (.lconst 1, 1) := by decide +kernel
theorem d4_deriveJoin_29 : decode c4_deriveJoin 29 = .ok (.lcmp, 1) := by decide +kernel
theorem d4_deriveJoin_30 : decode c4_deriveJoin 30 = .ok (.ifCond .ne 24, 3) := by decide +kernel
theorem d4_deriveJoin_33 : decode c4_deriveJoin 33 = .ok (.aload_n 0, 1) := by decide +kernel
theorem d4_deriveJoin_34 : decode c4_deriveJoin 34 = .ok (.getfield 35, 3) := by decide +kernel
theorem d4_deriveJoin_37 : decode c4_deriveJoin 37 = .ok (.iload_n 3, 1) := by decide +kernel
theorem d4_deriveJoin_38 : decode c4_deriveJoin 38 = .ok (.aload_n 1, 1) := by decide +kernel
theorem d4_deriveJoin_39 : decode c4_deriveJoin 39 = .ok (.getfield 74, 3) := by decide +kernel
theorem d4_deriveJoin_42 : decode c4_deriveJoin 42 = .ok (.iload_n 3, 1) := by decide +kernel
theorem d4_deriveJoin_43 : decode c4_deriveJoin 43 = .ok (.laload, 1) := by decide +kernel
theorem d4_deriveJoin_44 : decode c4_deriveJoin 44 = .ok (.aload_n 2, 1) := by decide +kernel
theorem d4_deriveJoin_45 : decode c4_deriveJoin 45 = .ok (.getfield 74, 3) := by decide +kernel
theorem d4_deriveJoin_48 : decode c4_deriveJoin 48 = .ok (.iload_n 3, 1) := by decide +kernel
theorem d4_deriveJoin_49 : decode c4_deriveJoin 49 = .ok (.laload, 1) := by decide +kernel
theorem d4_deriveJoin_50 : decode c4_deriveJoin 50 = .ok (.ladd, 1) := by decide +kernel
theorem d4_deriveJoin_51 : decode c4_deriveJoin 51 = .ok (.invokevirtual 82, 3) := by decide +kernel
theorem d4_deriveJoin_54 : decode c4_deriveJoin 54 = .ok (.iinc 3 1, 3) := by decide +kernel
theorem d4_deriveJoin_57 : decode c4_deriveJoin 57 = .ok (.goto (-55), 3) := by decide +kernel
theorem d4_deriveJoin_60 : decode c4_deriveJoin 60 = .ok (.return_, 1) := by decide +kernel
theorem d4_deriveMerge_0 : decode c4_deriveMerge 0 = .ok (.iconst 0, 1) := by decide +kernel
theorem d4_deriveMerge_1 : decode c4_deriveMerge 1 = .ok (.istore_n 3, 1) := by decide +kernel
theorem d4_deriveMerge_2 : decode c4_deriveMerge 2 = .ok (.iload_n 3, 1) := by decide +kernel
theorem d4_deriveMerge_3 : decode c4_deriveMerge 3 = .ok (.bipush 64, 2) := by decide +kernel
theorem d4_deriveMerge_5 : decode c4_deriveMerge 5 = .ok (.if_icmp .ge 56, 3) := by decide +kernel
theorem d4_deriveMerge_8 : decode c4_deriveMerge 8 = .ok (.aload_n 1, 1) := by decide +kernel
theorem d4_deriveMerge_9 : decode c4_deriveMerge 9 = .ok (.iload_n 3, 1) := by decide +kernel
theorem d4_deriveMerge_10 : decode c4_deriveMerge 10 = .ok (.invokevirtual 78, 3) := by decide +kernel
theorem d4_deriveMerge_13 : decode c4_deriveMerge 13 = .ok (.ifCond .eq 20, 3) := by decide +kernel
theorem d4_deriveMerge_16 : decode c4_deriveMerge 16 = .ok (.aload_n 0, 1) := by decide +kernel
theorem d4_deriveMerge_17 : decode c4_deriveMerge 17 = .ok (.getfield 35, 3) := by decide +kernel
theorem d4_deriveMerge_20 : decode c4_deriveMerge 20 = .ok (.iload_n 3, 1) := by decide +kernel
theorem d4_deriveMerge_21 : decode c4_deriveMerge 21 = .ok (.aload_n 1, 1) := by decide +kernel
theorem d4_deriveMerge_22 : decode c4_deriveMerge 22 = .ok (.getfield 74, 3) := by decide +kernel
theorem d4_deriveMerge_25 : decode c4_deriveMerge 25 = .ok (.iload_n 3, 1) := by decide +kernel
theorem d4_deriveMerge_26 : decode c4_deriveMerge 26 = .ok (.laload, 1) := by decide +kernel
theorem d4_deriveMerge_27 : decode c4_deriveMerge 27 = .ok (.invokevirtual 82, 3) := by decide +kernel
theorem d4_deriveMerge_30 : decode c4_deriveMerge 30 = .ok (.goto 25, 3) := by decide +kernel
theorem d4_deriveMerge_33 : decode c4_deriveMerge 33 = .ok (.aload_n 2, 1) := by decide +kernel
theorem d4_deriveMerge_34 : decode c4_deriveMerge 34 = .ok (.iload_n 3, 1) := by decide +kernel
theorem d4_deriveMerge_35 : decode c4_deriveMerge 35 = .ok (.invokevirtual 78, 3) := by decide +kernel
theorem d4_deriveMerge_38 : decode c4_deriveMerge 38 = .ok (.ifCond .eq 17, 3) := by decide +kernel
theorem d4_deriveMerge_41 : decode c4_deriveMerge 41 = .ok (.aload_n 0, 1) := by decide +kernel
theorem d4_deriveMerge_42 : decode c4_deriveMerge 42 = .ok (.getfield 35, 3) := by decide +kernel
theorem d4_deriveMerge_45 : decode c4_deriveMerge 45 = .ok (.iload_n 3, 1) := by decide +kernel
theorem d4_deriveMerge_46 : decode c4_deriveMerge 46 = .ok (.aload_n 2, 1) := by decide +kernel
theorem d4_deriveMerge_47 : decode c4_deriveMerge 47 = .ok (.getfield 74, 3) := by decide +kernel
theorem d4_deriveMerge_50 : decode c4_deriveMerge 50 = .ok (.iload_n 3, 1) := by decide +kernel
theorem d4_deriveMerge_51 : decode c4_deriveMerge 51 = .ok (.laload, 1) := by decide +kernel
theorem d4_deriveMerge_52 : decode c4_deriveMerge 52 = .ok (.invokevirtual 82, 3) := by decide +kernel
theorem d4_deriveMerge_55 : decode c4_deriveMerge 55 = .ok (.iinc 3 1, 3) := by decide +kernel
theorem d4_deriveMerge_58 : decode c4_deriveMerge 58 = .ok (.goto (-56), 3) := by decide +kernel
theorem d4_deriveMerge_61 : decode c4_deriveMerge 61 = .ok (.return_, 1) := by decide +kernel
theorem d4_insertKey_0 : decode c4_insertKey 0 = .ok (.iload_n 3, 1) := by decide +kernel
theorem d4_insertKey_1 : decode c4_insertKey 1 = .ok (.istore 4, 2) := by decide +kernel
theorem d4_insertKey_3 : decode c4_insertKey 3 = .ok (.iload 4, 2) := by decide +kernel
theorem d4_insertKey_5 : decode c4_insertKey 5 = .ok (.ifCond .le 43, 3) := by decide +kernel
theorem d4_insertKey_8 : decode c4_insertKey 8 = .ok (.aload_n 2, 1) := by decide +kernel
theorem d4_insertKey_9 : decode c4_insertKey 9 = .ok (.aload_n 0, 1) := by decide +kernel
theorem d4_insertKey_10 : decode c4_insertKey 10 = .ok (.getfield 41, 3) := by decide +kernel
theorem d4_insertKey_13 : decode c4_insertKey 13 = .ok (.iload 4, 2) := by decide +kernel
theorem d4_insertKey_15 : decode c4_insertKey 15 = .ok (.iconst 1, 1) := by decide +kernel
theorem d4_insertKey_16 : decode c4_insertKey 16 = .ok (.isub, 1) := by decide +kernel
theorem d4_insertKey_17 : decode c4_insertKey 17 = .ok (.iaload, 1) := by decide +kernel
theorem d4_insertKey_18 : decode c4_insertKey 18 = .ok (.laload, 1) := by decide +kernel
theorem d4_insertKey_19 : decode c4_insertKey 19 = .ok (.aload_n 2, 1) := by decide +kernel
theorem d4_insertKey_20 : decode c4_insertKey 20 = .ok (.iload_n 1, 1) := by decide +kernel
theorem d4_insertKey_21 : decode c4_insertKey 21 = .ok (.laload, 1) := by decide +kernel
theorem d4_insertKey_22 : decode c4_insertKey 22 = .ok (.lcmp, 1) := by decide +kernel
theorem d4_insertKey_23 : decode c4_insertKey 23 = .ok (.ifCond .ge 25, 3) := by decide +kernel
theorem d4_insertKey_26 : decode c4_insertKey 26 = .ok (.aload_n 0, 1) := by decide +kernel
theorem d4_insertKey_27 : decode c4_insertKey 27 = .ok (.getfield 41, 3) := by decide +kernel
theorem d4_insertKey_30 : decode c4_insertKey 30 = .ok (.iload 4, 2) := by decide +kernel
theorem d4_insertKey_32 : decode c4_insertKey 32 = .ok (.aload_n 0, 1) := by decide +kernel
theorem d4_insertKey_33 : decode c4_insertKey 33 = .ok (.getfield 41, 3) := by decide +kernel
theorem d4_insertKey_36 : decode c4_insertKey 36 = .ok (.iload 4, 2) := by decide +kernel
theorem d4_insertKey_38 : decode c4_insertKey 38 = .ok (.iconst 1, 1) := by decide +kernel
theorem d4_insertKey_39 : decode c4_insertKey 39 = .ok (.isub, 1) := by decide +kernel
theorem d4_insertKey_40 : decode c4_insertKey 40 = .ok (.iaload, 1) := by decide +kernel
theorem d4_insertKey_41 : decode c4_insertKey 41 = .ok (.iastore, 1) := by decide +kernel
theorem d4_insertKey_42 : decode c4_insertKey 42 = .ok (.iinc 4 (-1), 3) := by decide +kernel
theorem d4_insertKey_45 : decode c4_insertKey 45 = .ok (.goto (-42), 3) := by decide +kernel
theorem d4_insertKey_48 : decode c4_insertKey 48 = .ok (.aload_n 0, 1) := by decide +kernel
theorem d4_insertKey_49 : decode c4_insertKey 49 = .ok (.getfield 41, 3) := by decide +kernel
theorem d4_insertKey_52 : decode c4_insertKey 52 = .ok (.iload 4, 2) := by decide +kernel
theorem d4_insertKey_54 : decode c4_insertKey 54 = .ok (.iload_n 1, 1) := by decide +kernel
theorem d4_insertKey_55 : decode c4_insertKey 55 = .ok (.iastore, 1) := by decide +kernel
theorem d4_insertKey_56 : decode c4_insertKey 56 = .ok (.return_, 1) := by decide +kernel
theorem d4_deriveBest_0 : decode c4_deriveBest 0 = .ok (.iconst 0, 1) := by decide +kernel
theorem d4_deriveBest_1 : decode c4_deriveBest 1 = .ok (.istore_n 2, 1) := by decide +kernel
theorem d4_deriveBest_2 : decode c4_deriveBest 2 = .ok (.iconst 0, 1) := by decide +kernel
theorem d4_deriveBest_3 : decode c4_deriveBest 3 = .ok (.istore_n 3, 1) := by decide +kernel
theorem d4_deriveBest_4 : decode c4_deriveBest 4 = .ok (.iload_n 3, 1) := by decide +kernel
theorem d4_deriveBest_5 : decode c4_deriveBest 5 = .ok (.bipush 64, 2) := by decide +kernel
theorem d4_deriveBest_7 : decode c4_deriveBest 7 = .ok (.if_icmp .ge 30, 3) := by decide +kernel
theorem d4_deriveBest_10 : decode c4_deriveBest 10 = .ok (.aload_n 1, 1) := by decide +kernel
theorem d4_deriveBest_11 : decode c4_deriveBest 11 = .ok (.iload_n 3, 1) := by decide +kernel
theorem d4_deriveBest_12 : decode c4_deriveBest 12 = .ok (.invokevirtual 78, 3) := by decide +kernel
theorem d4_deriveBest_15 : decode c4_deriveBest 15 = .ok (.ifCond .eq 16, 3) := by decide +kernel
theorem d4_deriveBest_18 : decode c4_deriveBest 18 = .ok (.aload_n 0, 1) := by decide +kernel
theorem d4_deriveBest_19 : decode c4_deriveBest 19 = .ok (.iload_n 3, 1) := by decide +kernel
theorem d4_deriveBest_20 : decode c4_deriveBest 20 = .ok (.aload_n 1, 1) := by decide +kernel
theorem d4_deriveBest_21 : decode c4_deriveBest 21 = .ok (.getfield 74, 3) := by decide +kernel
theorem d4_deriveBest_24 : decode c4_deriveBest 24 = .ok (.iload_n 2, 1) := by decide +kernel
theorem d4_deriveBest_25 : decode c4_deriveBest 25 = .ok (.invokevirtual 99, 3) := by decide +kernel
theorem d4_deriveBest_28 : decode c4_deriveBest 28 = .ok (.iinc 2 1, 3) := by decide +kernel
theorem d4_deriveBest_31 : decode c4_deriveBest 31 = .ok (.iinc 3 1, 3) := by decide +kernel
theorem d4_deriveBest_34 : decode c4_deriveBest 34 = .ok (.goto (-30), 3) := by decide +kernel
theorem d4_deriveBest_37 : decode c4_deriveBest 37 = .ok (.iconst 0, 1) := by decide +kernel
theorem d4_deriveBest_38 : decode c4_deriveBest 38 = .ok (.istore_n 3, 1) := by decide +kernel
theorem d4_deriveBest_39 : decode c4_deriveBest 39 = .ok (.iload_n 3, 1) := by decide +kernel
theorem d4_deriveBest_40 : decode c4_deriveBest 40 = .ok (.iload_n 2, 1) := by decide +kernel
theorem d4_deriveBest_41 : decode c4_deriveBest 41 = .ok (.if_icmp .ge 43, 3) := by decide +kernel
theorem d4_deriveBest_44 : decode c4_deriveBest 44 = .ok (.iload_n 3, 1) := by decide +kernel
theorem d4_deriveBest_45 : decode c4_deriveBest 45 = .ok (.i2l, 1) := by decide +kernel
theorem d4_deriveBest_46 : decode c4_deriveBest 46 = .ok (.aload_n 0, 1) := by decide +kernel
theorem d4_deriveBest_47 : decode c4_deriveBest 47 = .ok (.getfield 21, 3) := by decide +kernel
theorem d4_deriveBest_50 : decode c4_deriveBest 50 = .ok (.lcmp, 1) := by decide +kernel
theorem d4_deriveBest_51 : decode c4_deriveBest 51 = .ok (.ifCond .ge 33, 3) := by decide +kernel
theorem d4_deriveBest_54 : decode c4_deriveBest 54 = .ok (.aload_n 0, 1) := by decide +kernel
theorem d4_deriveBest_55 : decode c4_deriveBest 55 = .ok (.getfield 35, 3) := by decide +kernel
theorem d4_deriveBest_58 : decode c4_deriveBest 58 = .ok (.aload_n 0, 1) := by decide +kernel
theorem d4_deriveBest_59 : decode c4_deriveBest 59 = .ok (.getfield 41, 3) := by decide +kernel
theorem d4_deriveBest_62 : decode c4_deriveBest 62 = .ok (.iload_n 3, 1) := by decide +kernel
theorem d4_deriveBest_63 : decode c4_deriveBest 63 = .ok (.iaload, 1) := by decide +kernel
theorem d4_deriveBest_64 : decode c4_deriveBest 64 = .ok (.aload_n 1, 1) := by decide +kernel
theorem d4_deriveBest_65 : decode c4_deriveBest 65 = .ok (.getfield 74, 3) := by decide +kernel
theorem d4_deriveBest_68 : decode c4_deriveBest 68 = .ok (.aload_n 0, 1) := by decide +kernel
theorem d4_deriveBest_69 : decode c4_deriveBest 69 = .ok (.getfield 41, 3) := by decide +kernel
theorem d4_deriveBest_72 : decode c4_deriveBest 72 = .ok (.iload_n 3, 1) := by decide +kernel
theorem d4_deriveBest_73 : decode c4_deriveBest 73 = .ok (.iaload, 1) := by decide +kernel
theorem d4_deriveBest_74 : decode c4_deriveBest 74 = .ok (.laload, 1) := by decide +kernel
theorem d4_deriveBest_75 : decode c4_deriveBest 75 = .ok (.invokevirtual 82, 3) := by decide +kernel
theorem d4_deriveBest_78 : decode c4_deriveBest 78 = .ok (.iinc 3 1, 3) := by decide +kernel
theorem d4_deriveBest_81 : decode c4_deriveBest 81 = .ok (.goto (-42), 3) := by decide +kernel
theorem d4_deriveBest_84 : decode c4_deriveBest 84 = .ok (.return_, 1) := by decide +kernel
theorem d4_deriveLook_0 : decode c4_deriveLook 0 = .ok (.iconst 0, 1) := by decide +kernel
theorem d4_deriveLook_1 : decode c4_deriveLook 1 = .ok (.istore_n 3, 1) := by decide +kernel
theorem d4_deriveLook_2 : decode c4_deriveLook 2 = .ok (.iload_n 3, 1) := by decide +kernel
theorem d4_deriveLook_3 : decode c4_deriveLook 3 = .ok (.bipush 64, 2) := by decide +kernel
theorem d4_deriveLook_5 : decode c4_deriveLook 5 = .ok (.if_icmp .ge 54, 3) := by decide +kernel
theorem d4_deriveLook_8 : decode c4_deriveLook 8 = .ok (.aload_n 1, 1) := by decide +kernel
theorem d4_deriveLook_9 : decode c4_deriveLook 9 = .ok (.getfield 74, 3) := by decide +kernel
theorem d4_deriveLook_12 : decode c4_deriveLook 12 = .ok (.iload_n 3, 1) := by decide +kernel
theorem d4_deriveLook_13 : decode c4_deriveLook 13 = .ok (.laload, 1) := by decide +kernel
theorem d4_deriveLook_14 : decode c4_deriveLook 14 = .ok (.ldc2_w 103, 3) := by decide +kernel
theorem d4_deriveLook_17 : decode c4_deriveLook 17 = .ok (.land, 1) := by decide +kernel
theorem d4_deriveLook_18 : decode c4_deriveLook 18 = .ok (.l2i, 1) := by decide +kernel
theorem d4_deriveLook_19 : decode c4_deriveLook 19 = .ok (.istore 4, 2) := by decide +kernel
theorem d4_deriveLook_21 : decode c4_deriveLook 21 = .ok (.aload_n 1, 1) := by decide +kernel
theorem d4_deriveLook_22 : decode c4_deriveLook 22 = .ok (.iload_n 3, 1) := by decide +kernel
theorem d4_deriveLook_23 : decode c4_deriveLook 23 = .ok (.invokevirtual 78, 3) := by decide +kernel
theorem d4_deriveLook_26 : decode c4_deriveLook 26 = .ok (.ifCond .eq 27, 3) := by decide +kernel
theorem d4_deriveLook_29 : decode c4_deriveLook 29 = .ok (.aload_n 2, 1) := by decide +kernel
theorem d4_deriveLook_30 : decode c4_deriveLook 30 = .ok (.iload 4, 2) := by decide +kernel
theorem d4_deriveLook_32 : decode c4_deriveLook 32 = .ok (.invokevirtual 78, 3) := by decide +kernel
theorem d4_deriveLook_35 : decode c4_deriveLook 35 = .ok (.ifCond .eq 18, 3) := by decide +kernel
theorem d4_deriveLook_38 : decode c4_deriveLook 38 = .ok (.aload_n 0, 1) := by decide +kernel
theorem d4_deriveLook_39 : decode c4_deriveLook 39 = .ok (.getfield 35, 3) := by decide +kernel
theorem d4_deriveLook_42 : decode c4_deriveLook 42 = .ok (.iload_n 3, 1) := by decide +kernel
theorem d4_deriveLook_43 : decode c4_deriveLook 43 = .ok (.aload_n 2, 1) := by decide +kernel
theorem d4_deriveLook_44 : decode c4_deriveLook 44 = .ok (.getfield 74, 3) := by decide +kernel
theorem d4_deriveLook_47 : decode c4_deriveLook 47 = .ok (.iload 4, 2) := by decide +kernel
theorem d4_deriveLook_49 : decode c4_deriveLook 49 = .ok (.laload, 1) := by decide +kernel
theorem d4_deriveLook_50 : decode c4_deriveLook 50 = .ok (.invokevirtual 82, 3) := by decide +kernel
theorem d4_deriveLook_53 : decode c4_deriveLook 53 = .ok (.iinc 3 1, 3) := by decide +kernel
theorem d4_deriveLook_56 : decode c4_deriveLook 56 = .ok (.goto (-54), 3) := by decide +kernel
theorem d4_deriveLook_59 : decode c4_deriveLook 59 = .ok (.return_, 1) := by decide +kernel
theorem d4_derive_0 : decode c4_derive 0 = .ok (.aload_n 0, 1) := by decide +kernel
theorem d4_derive_1 : decode c4_derive 1 = .ok (.getfield 35, 3) := by decide +kernel
theorem d4_derive_4 : decode c4_derive 4 = .ok (.invokevirtual 48, 3) := by decide +kernel
theorem d4_derive_7 : decode c4_derive 7 = .ok (.aload_n 0, 1) := by decide +kernel
theorem d4_derive_8 : decode c4_derive 8 = .ok (.getfield 9, 3) := by decide +kernel
theorem d4_derive_11 : decode c4_derive 11 = .ok (.tableswitch 100 1 7 #[41, 49, 57, 65, 74, 83, 91], 41) := by decide +kernel
theorem d4_derive_52 : decode c4_derive 52 = .ok (.aload_n 0, 1) := by decide +kernel
theorem d4_derive_53 : decode c4_derive 53 = .ok (.aload_n 1, 1) := by decide +kernel
theorem d4_derive_54 : decode c4_derive 54 = .ok (.invokevirtual 51, 3) := by decide +kernel
theorem d4_derive_57 : decode c4_derive 57 = .ok (.goto 54, 3) := by decide +kernel
theorem d4_derive_60 : decode c4_derive 60 = .ok (.aload_n 0, 1) := by decide +kernel
theorem d4_derive_61 : decode c4_derive 61 = .ok (.aload_n 1, 1) := by decide +kernel
theorem d4_derive_62 : decode c4_derive 62 = .ok (.invokevirtual 55, 3) := by decide +kernel
theorem d4_derive_65 : decode c4_derive 65 = .ok (.goto 46, 3) := by decide +kernel
theorem d4_derive_68 : decode c4_derive 68 = .ok (.aload_n 0, 1) := by decide +kernel
theorem d4_derive_69 : decode c4_derive 69 = .ok (.aload_n 1, 1) := by decide +kernel
theorem d4_derive_70 : decode c4_derive 70 = .ok (.invokevirtual 58, 3) := by decide +kernel
theorem d4_derive_73 : decode c4_derive 73 = .ok (.goto 38, 3) := by decide +kernel
theorem d4_derive_76 : decode c4_derive 76 = .ok (.aload_n 0, 1) := by decide +kernel
theorem d4_derive_77 : decode c4_derive 77 = .ok (.aload_n 1, 1) := by decide +kernel
theorem d4_derive_78 : decode c4_derive 78 = .ok (.aload_n 2, 1) := by decide +kernel
theorem d4_derive_79 : decode c4_derive 79 = .ok (.invokevirtual 61, 3) := by decide +kernel
theorem d4_derive_82 : decode c4_derive 82 = .ok (.goto 29, 3) := by decide +kernel
theorem d4_derive_85 : decode c4_derive 85 = .ok (.aload_n 0, 1) := by decide +kernel
theorem d4_derive_86 : decode c4_derive 86 = .ok (.aload_n 1, 1) := by decide +kernel
theorem d4_derive_87 : decode c4_derive 87 = .ok (.aload_n 2, 1) := by decide +kernel
theorem d4_derive_88 : decode c4_derive 88 = .ok (.invokevirtual 65, 3) := by decide +kernel
theorem d4_derive_91 : decode c4_derive 91 = .ok (.goto 20, 3) := by decide +kernel
theorem d4_derive_94 : decode c4_derive 94 = .ok (.aload_n 0, 1) := by decide +kernel
theorem d4_derive_95 : decode c4_derive 95 = .ok (.aload_n 1, 1) := by decide +kernel
theorem d4_derive_96 : decode c4_derive 96 = .ok (.invokevirtual 68, 3) := by decide +kernel
theorem d4_derive_99 : decode c4_derive 99 = .ok (.goto 12, 3) := by decide +kernel
theorem d4_derive_102 : decode c4_derive 102 = .ok (.aload_n 0, 1) := by decide +kernel
theorem d4_derive_103 : decode c4_derive 103 = .ok (.aload_n 1, 1) := by decide +kernel
theorem d4_derive_104 : decode c4_derive 104 = .ok (.aload_n 2, 1) := by decide +kernel
theorem d4_derive_105 : decode c4_derive 105 = .ok (.invokevirtual 71, 3) := by decide +kernel
theorem d4_derive_108 : decode c4_derive 108 = .ok (.goto 3, 3) := by decide +kernel
theorem d4_derive_111 : decode c4_derive 111 = .ok (.return_, 1) := by decide +kernel
theorem d3_become_0 : decode c3_become 0 = .ok (.aload_n 0, 1) := by decide +kernel
theorem d3_become_1 : decode c3_become 1 = .ok (.aload_n 1, 1) := by decide +kernel
theorem d3_become_2 : decode c3_become 2 = .ok (.getfield 9, 3) := by decide +kernel
theorem d3_become_5 : decode c3_become 5 = .ok (.putfield 9, 3) := by decide +kernel
theorem d3_become_8 : decode c3_become 8 = .ok (.aload_n 1, 1) := by decide +kernel
theorem d3_become_9 : decode c3_become 9 = .ok (.getfield 15, 3) := by decide +kernel
theorem d3_become_12 : decode c3_become 12 = .ok (.iconst 0, 1) := by decide +kernel
theorem d3_become_13 : decode c3_become 13 = .ok (.aload_n 0, 1) := by decide +kernel
theorem d3_become_14 : decode c3_become 14 = .ok (.getfield 15, 3) := by decide +kernel
theorem d3_become_17 : decode c3_become 17 = .ok (.iconst 0, 1) := by decide +kernel
theorem d3_become_18 : decode c3_become 18 = .ok (.bipush 64, 2) := by decide +kernel
theorem d3_become_20 : decode c3_become 20 = .ok (.invokestatic 31, 3) := by decide +kernel
theorem d3_become_23 : decode c3_become 23 = .ok (.return_, 1) := by decide +kernel
theorem d1_gather_0 : decode c1_gather 0 = .ok (.aload_n 0, 1) := by decide +kernel
theorem d1_gather_1 : decode c1_gather 1 = .ok (.getfield 15, 3) := by decide +kernel
theorem d1_gather_4 : decode c1_gather 4 = .ok (.bipush 40, 2) := by decide +kernel
theorem d1_gather_6 : decode c1_gather 6 = .ok (.if_icmp .lt 6, 3) := by decide +kernel
theorem d1_gather_9 : decode c1_gather 9 = .ok (.bipush (-3), 2) := by decide +kernel
theorem d1_gather_11 : decode c1_gather 11 = .ok (.ireturn, 1) := by decide +kernel
theorem d1_gather_12 : decode c1_gather 12 = .ok (.aload_n 0, 1) := by decide +kernel
theorem d1_gather_13 : decode c1_gather 13 = .ok (.getfield 19, 3) := by decide +kernel
theorem d1_gather_16 : decode c1_gather 16 = .ok (.aload_n 0, 1) := by decide +kernel
theorem d1_gather_17 : decode c1_gather 17 = .ok (.getfield 15, 3) := by decide +kernel
theorem d1_gather_20 : decode c1_gather 20 = .ok (.iload_n 1, 1) := by decide +kernel
theorem d1_gather_21 : decode c1_gather 21 = .ok (.iastore, 1) := by decide +kernel
theorem d1_gather_22 : decode c1_gather 22 = .ok (.aload_n 0, 1) := by decide +kernel
theorem d1_gather_23 : decode c1_gather 23 = .ok (.getfield 23, 3) := by decide +kernel
theorem d1_gather_26 : decode c1_gather 26 = .ok (.aload_n 0, 1) := by decide +kernel
theorem d1_gather_27 : decode c1_gather 27 = .ok (.getfield 15, 3) := by decide +kernel
theorem d1_gather_30 : decode c1_gather 30 = .ok (.iload_n 2, 1) := by decide +kernel
theorem d1_gather_31 : decode c1_gather 31 = .ok (.iastore, 1) := by decide +kernel
theorem d1_gather_32 : decode c1_gather 32 = .ok (.aload_n 0, 1) := by decide +kernel
theorem d1_gather_33 : decode c1_gather 33 = .ok (.getfield 26, 3) := by decide +kernel
theorem d1_gather_36 : decode c1_gather 36 = .ok (.aload_n 0, 1) := by decide +kernel
theorem d1_gather_37 : decode c1_gather 37 = .ok (.getfield 15, 3) := by decide +kernel
theorem d1_gather_40 : decode c1_gather 40 = .ok (.iload_n 3, 1) := by decide +kernel
theorem d1_gather_41 : decode c1_gather 41 = .ok (.bastore, 1) := by decide +kernel
theorem d1_gather_42 : decode c1_gather 42 = .ok (.aload_n 0, 1) := by decide +kernel
theorem d1_gather_43 : decode c1_gather 43 = .ok (.getfield 30, 3) := by decide +kernel
theorem d1_gather_46 : decode c1_gather 46 = .ok (.aload_n 0, 1) := by decide +kernel
theorem d1_gather_47 : decode c1_gather 47 = .ok (.getfield 15, 3) := by decide +kernel
theorem d1_gather_50 : decode c1_gather 50 = .ok (.lload 4, 2) := by decide +kernel
theorem d1_gather_52 : decode c1_gather 52 = .ok (.lastore, 1) := by decide +kernel
theorem d1_gather_53 : decode c1_gather 53 = .ok (.aload_n 0, 1) := by decide +kernel
theorem d1_gather_54 : decode c1_gather 54 = .ok (.dup, 1) := by decide +kernel
theorem d1_gather_55 : decode c1_gather 55 = .ok (.getfield 15, 3) := by decide +kernel
theorem d1_gather_58 : decode c1_gather 58 = .ok (.iconst 1, 1) := by decide +kernel
theorem d1_gather_59 : decode c1_gather 59 = .ok (.iadd, 1) := by decide +kernel
theorem d1_gather_60 : decode c1_gather 60 = .ok (.putfield 15, 3) := by decide +kernel
theorem d1_gather_63 : decode c1_gather 63 = .ok (.aload_n 0, 1) := by decide +kernel
theorem d1_gather_64 : decode c1_gather 64 = .ok (.getfield 15, 3) := by decide +kernel
theorem d1_gather_67 : decode c1_gather 67 = .ok (.ireturn, 1) := by decide +kernel
theorem d3_write_0 : decode c3_write 0 = .ok (.iload_n 2, 1) := by decide +kernel
theorem d3_write_1 : decode c3_write 1 = .ok (.ifCond .eq 12, 3) := by decide +kernel
theorem d3_write_4 : decode c3_write 4 = .ok (.aload_n 0, 1) := by decide +kernel
theorem d3_write_5 : decode c3_write 5 = .ok (.iload_n 1, 1) := by decide +kernel
theorem d3_write_6 : decode c3_write 6 = .ok (.lload_n 3, 1) := by decide +kernel
theorem d3_write_7 : decode c3_write 7 = .ok (.invokevirtual 37, 3) := by decide +kernel
theorem d3_write_10 : decode c3_write 10 = .ok (.goto 26, 3) := by decide +kernel
theorem d3_write_13 : decode c3_write 13 = .ok (.aload_n 0, 1) := by decide +kernel
theorem d3_write_14 : decode c3_write 14 = .ok (.dup, 1) := by decide +kernel
theorem d3_write_15 : decode c3_write 15 = .ok (.getfield 9, 3) := by decide +kernel
theorem d3_write_18 : decode c3_write 18 = .ok (.lconst 1, 1) := by decide +kernel
theorem d3_write_19 : decode c3_write 19 = .ok (.iload_n 1, 1) := by decide +kernel
theorem d3_write_20 : decode c3_write 20 = .ok (.lshl, 1) := by decide +kernel
theorem d3_write_21 : decode c3_write 21 = .ok (.ldc2_w 41, 3) := by decide +kernel
theorem d3_write_24 : decode c3_write 24 = .ok (.lxor, 1) := by decide +kernel
theorem d3_write_25 : decode c3_write 25 = .ok (.land, 1) := by decide +kernel
theorem d3_write_26 : decode c3_write 26 = .ok (.putfield 9, 3) := by decide +kernel
theorem d3_write_29 : decode c3_write 29 = .ok (.aload_n 0, 1) := by decide +kernel
theorem d3_write_30 : decode c3_write 30 = .ok (.getfield 15, 3) := by decide +kernel
theorem d3_write_33 : decode c3_write 33 = .ok (.iload_n 1, 1) := by decide +kernel
theorem d3_write_34 : decode c3_write 34 = .ok (.lconst 0, 1) := by decide +kernel
theorem d3_write_35 : decode c3_write 35 = .ok (.lastore, 1) := by decide +kernel
theorem d3_write_36 : decode c3_write 36 = .ok (.return_, 1) := by decide +kernel
theorem d3_differing_0 : decode c3_differing 0 = .ok (.aload_n 0, 1) := by decide +kernel
theorem d3_differing_1 : decode c3_differing 1 = .ok (.getfield 9, 3) := by decide +kernel
theorem d3_differing_4 : decode c3_differing 4 = .ok (.aload_n 1, 1) := by decide +kernel
theorem d3_differing_5 : decode c3_differing 5 = .ok (.getfield 9, 3) := by decide +kernel
theorem d3_differing_8 : decode c3_differing 8 = .ok (.lxor, 1) := by decide +kernel
theorem d3_differing_9 : decode c3_differing 9 = .ok (.lstore_n 2, 1) := by decide +kernel
theorem d3_differing_10 : decode c3_differing 10 = .ok (.iconst 0, 1) := by decide +kernel
theorem d3_differing_11 : decode c3_differing 11 = .ok (.istore 4, 2) := by decide +kernel
theorem d3_differing_13 : decode c3_differing 13 = .ok (.iload 4, 2) := by decide +kernel
theorem d3_differing_15 : decode c3_differing 15 = .ok (.bipush 64, 2) := by decide +kernel
theorem d3_differing_17 : decode c3_differing 17 = .ok (.if_icmp .ge 34, 3) := by decide +kernel
theorem d3_differing_20 : decode c3_differing 20 = .ok (.aload_n 0, 1) := by decide +kernel
theorem d3_differing_21 : decode c3_differing 21 = .ok (.getfield 15, 3) := by decide +kernel
theorem d3_differing_24 : decode c3_differing 24 = .ok (.iload 4, 2) := by decide +kernel
theorem d3_differing_26 : decode c3_differing 26 = .ok (.laload, 1) := by decide +kernel
theorem d3_differing_27 : decode c3_differing 27 = .ok (.aload_n 1, 1) := by decide +kernel
theorem d3_differing_28 : decode c3_differing 28 = .ok (.getfield 15, 3) := by decide +kernel
theorem d3_differing_31 : decode c3_differing 31 = .ok (.iload 4, 2) := by decide +kernel
theorem d3_differing_33 : decode c3_differing 33 = .ok (.laload, 1) := by decide +kernel
theorem d3_differing_34 : decode c3_differing 34 = .ok (.lcmp, 1) := by decide +kernel
theorem d3_differing_35 : decode c3_differing 35 = .ok (.ifCond .eq 10, 3) := by decide +kernel
theorem d3_differing_38 : decode c3_differing 38 = .ok (.lload_n 2, 1) := by decide +kernel
theorem d3_differing_39 : decode c3_differing 39 = .ok (.lconst 1, 1) := by decide +kernel
theorem d3_differing_40 : decode c3_differing 40 = .ok (.iload 4, 2) := by decide +kernel
theorem d3_differing_42 : decode c3_differing 42 = .ok (.lshl, 1) := by decide +kernel
theorem d3_differing_43 : decode c3_differing 43 = .ok (.lor, 1) := by decide +kernel
theorem d3_differing_44 : decode c3_differing 44 = .ok (.lstore_n 2, 1) := by decide +kernel
theorem d3_differing_45 : decode c3_differing 45 = .ok (.iinc 4 1, 3) := by decide +kernel
theorem d3_differing_48 : decode c3_differing 48 = .ok (.goto (-35), 3) := by decide +kernel
theorem d3_differing_51 : decode c3_differing 51 = .ok (.lload_n 2, 1) := by decide +kernel
theorem d3_differing_52 : decode c3_differing 52 = .ok (.lreturn, 1) := by decide +kernel
theorem dL_bitCount_0 : decode cL_bitCount 0 = .ok (.lload_n 0, 1) := by decide +kernel
theorem dL_bitCount_1 : decode cL_bitCount 1 = .ok (.lload_n 0, 1) := by decide +kernel
theorem dL_bitCount_2 : decode cL_bitCount 2 = .ok (.iconst 1, 1) := by decide +kernel
theorem dL_bitCount_3 : decode cL_bitCount 3 = .ok (.lushr, 1) := by decide +kernel
theorem dL_bitCount_4 : decode cL_bitCount 4 = .ok (.ldc2_w 314, 3) := by decide +kernel
theorem dL_bitCount_7 : decode cL_bitCount 7 = .ok (.land, 1) := by decide +kernel
theorem dL_bitCount_8 : decode cL_bitCount 8 = .ok (.lsub, 1) := by decide +kernel
theorem dL_bitCount_9 : decode cL_bitCount 9 = .ok (.lstore_n 0, 1) := by decide +kernel
theorem dL_bitCount_10 : decode cL_bitCount 10 = .ok (.lload_n 0, 1) := by decide +kernel
theorem dL_bitCount_11 : decode cL_bitCount 11 = .ok (.ldc2_w 316, 3) := by decide +kernel
theorem dL_bitCount_14 : decode cL_bitCount 14 = .ok (.land, 1) := by decide +kernel
theorem dL_bitCount_15 : decode cL_bitCount 15 = .ok (.lload_n 0, 1) := by decide +kernel
theorem dL_bitCount_16 : decode cL_bitCount 16 = .ok (.iconst 2, 1) := by decide +kernel
theorem dL_bitCount_17 : decode cL_bitCount 17 = .ok (.lushr, 1) := by decide +kernel
theorem dL_bitCount_18 : decode cL_bitCount 18 = .ok (.ldc2_w 316, 3) := by decide +kernel
theorem dL_bitCount_21 : decode cL_bitCount 21 = .ok (.land, 1) := by decide +kernel
theorem dL_bitCount_22 : decode cL_bitCount 22 = .ok (.ladd, 1) := by decide +kernel
theorem dL_bitCount_23 : decode cL_bitCount 23 = .ok (.lstore_n 0, 1) := by decide +kernel
theorem dL_bitCount_24 : decode cL_bitCount 24 = .ok (.lload_n 0, 1) := by decide +kernel
theorem dL_bitCount_25 : decode cL_bitCount 25 = .ok (.lload_n 0, 1) := by decide +kernel
theorem dL_bitCount_26 : decode cL_bitCount 26 = .ok (.iconst 4, 1) := by decide +kernel
theorem dL_bitCount_27 : decode cL_bitCount 27 = .ok (.lushr, 1) := by decide +kernel
theorem dL_bitCount_28 : decode cL_bitCount 28 = .ok (.ladd, 1) := by decide +kernel
theorem dL_bitCount_29 : decode cL_bitCount 29 = .ok (.ldc2_w 318, 3) := by decide +kernel
theorem dL_bitCount_32 : decode cL_bitCount 32 = .ok (.land, 1) := by decide +kernel
theorem dL_bitCount_33 : decode cL_bitCount 33 = .ok (.lstore_n 0, 1) := by decide +kernel
theorem dL_bitCount_34 : decode cL_bitCount 34 = .ok (.lload_n 0, 1) := by decide +kernel
theorem dL_bitCount_35 : decode cL_bitCount 35 = .ok (.lload_n 0, 1) := by decide +kernel
theorem dL_bitCount_36 : decode cL_bitCount 36 = .ok (.bipush 8, 2) := by decide +kernel
theorem dL_bitCount_38 : decode cL_bitCount 38 = .ok (.lushr, 1) := by decide +kernel
theorem dL_bitCount_39 : decode cL_bitCount 39 = .ok (.ladd, 1) := by decide +kernel
theorem dL_bitCount_40 : decode cL_bitCount 40 = .ok (.lstore_n 0, 1) := by decide +kernel
theorem dL_bitCount_41 : decode cL_bitCount 41 = .ok (.lload_n 0, 1) := by decide +kernel
theorem dL_bitCount_42 : decode cL_bitCount 42 = .ok (.lload_n 0, 1) := by decide +kernel
theorem dL_bitCount_43 : decode cL_bitCount 43 = .ok (.bipush 16, 2) := by decide +kernel
theorem dL_bitCount_45 : decode cL_bitCount 45 = .ok (.lushr, 1) := by decide +kernel
theorem dL_bitCount_46 : decode cL_bitCount 46 = .ok (.ladd, 1) := by decide +kernel
theorem dL_bitCount_47 : decode cL_bitCount 47 = .ok (.lstore_n 0, 1) := by decide +kernel
theorem dL_bitCount_48 : decode cL_bitCount 48 = .ok (.lload_n 0, 1) := by decide +kernel
theorem dL_bitCount_49 : decode cL_bitCount 49 = .ok (.lload_n 0, 1) := by decide +kernel
theorem dL_bitCount_50 : decode cL_bitCount 50 = .ok (.bipush 32, 2) := by decide +kernel
theorem dL_bitCount_52 : decode cL_bitCount 52 = .ok (.lushr, 1) := by decide +kernel
theorem dL_bitCount_53 : decode cL_bitCount 53 = .ok (.ladd, 1) := by decide +kernel
theorem dL_bitCount_54 : decode cL_bitCount 54 = .ok (.lstore_n 0, 1) := by decide +kernel
theorem dL_bitCount_55 : decode cL_bitCount 55 = .ok (.lload_n 0, 1) := by decide +kernel
theorem dL_bitCount_56 : decode cL_bitCount 56 = .ok (.l2i, 1) := by decide +kernel
theorem dL_bitCount_57 : decode cL_bitCount 57 = .ok (.bipush 127, 2) := by decide +kernel
theorem dL_bitCount_59 : decode cL_bitCount 59 = .ok (.iand, 1) := by decide +kernel
theorem dL_bitCount_60 : decode cL_bitCount 60 = .ok (.ireturn, 1) := by decide +kernel
theorem d2_addSteps_0 : decode c2_addSteps 0 = .ok (.iconst 0, 1) := by decide +kernel
theorem d2_addSteps_1 : decode c2_addSteps 1 = .ok (.istore 6, 2) := by decide +kernel
theorem d2_addSteps_3 : decode c2_addSteps 3 = .ok (.iload 6, 2) := by decide +kernel
theorem d2_addSteps_5 : decode c2_addSteps 5 = .ok (.bipush 64, 2) := by decide +kernel
theorem d2_addSteps_7 : decode c2_addSteps 7 = .ok (.if_icmp .ge 126, 3) := by decide +kernel
theorem d2_addSteps_10 : decode c2_addSteps 10 = .ok (.lload 4, 2) := by decide +kernel
theorem d2_addSteps_12 : decode c2_addSteps 12 = .ok (.iload 6, 2) := by decide +kernel
theorem d2_addSteps_14 : decode c2_addSteps 14 = .ok (.lushr, 1) := by decide +kernel
theorem d2_addSteps_15 : decode c2_addSteps 15 = .ok (.lconst 1, 1) := by decide +kernel
theorem d2_addSteps_16 : decode c2_addSteps 16 = .ok (.land, 1) := by decide +kernel
theorem d2_addSteps_17 : decode c2_addSteps 17 = .ok (.lconst 0, 1) := by decide +kernel
theorem d2_addSteps_18 : decode c2_addSteps 18 = .ok (.lcmp, 1) := by decide +kernel
theorem d2_addSteps_19 : decode c2_addSteps 19 = .ok (.ifCond .eq 108, 3) := by decide +kernel
theorem d2_addSteps_22 : decode c2_addSteps 22 = .ok (.aload_n 0, 1) := by decide +kernel
theorem d2_addSteps_23 : decode c2_addSteps 23 = .ok (.getfield 9, 3) := by decide +kernel
theorem d2_addSteps_26 : decode c2_addSteps 26 = .ok (.aload_n 0, 1) := by decide +kernel
theorem d2_addSteps_27 : decode c2_addSteps 27 = .ok (.getfield 21, 3) := by decide +kernel
theorem d2_addSteps_30 : decode c2_addSteps 30 = .ok (.arraylength, 1) := by decide +kernel
theorem d2_addSteps_31 : decode c2_addSteps 31 = .ok (.if_icmp .ge 96, 3) := by decide +kernel
theorem d2_addSteps_34 : decode c2_addSteps 34 = .ok (.aload_n 2, 1) := by decide +kernel
theorem d2_addSteps_35 : decode c2_addSteps 35 = .ok (.iload 6, 2) := by decide +kernel
theorem d2_addSteps_37 : decode c2_addSteps 37 = .ok (.invokevirtual 32, 3) := by decide +kernel
theorem d2_addSteps_40 : decode c2_addSteps 40 = .ok (.ifCond .ne 7, 3) := by decide +kernel
theorem d2_addSteps_43 : decode c2_addSteps 43 = .ok (.iconst 0, 1) := by decide +kernel
theorem d2_addSteps_44 : decode c2_addSteps 44 = .ok (.goto 17, 3) := by decide +kernel
theorem d2_addSteps_47 : decode c2_addSteps 47 = .ok (.aload_n 3, 1) := by decide +kernel
theorem d2_addSteps_48 : decode c2_addSteps 48 = .ok (.iload 6, 2) := by decide +kernel
theorem d2_addSteps_50 : decode c2_addSteps 50 = .ok (.invokevirtual 32, 3) := by decide +kernel
theorem d2_addSteps_53 : decode c2_addSteps 53 = .ok (.ifCond .eq 7, 3) := by decide +kernel
theorem d2_addSteps_56 : decode c2_addSteps 56 = .ok (.iconst 1, 1) := by decide +kernel
theorem d2_addSteps_57 : decode c2_addSteps 57 = .ok (.goto 4, 3) := by decide +kernel
theorem d2_addSteps_60 : decode c2_addSteps 60 = .ok (.iconst 2, 1) := by decide +kernel
theorem d2_addSteps_61 : decode c2_addSteps 61 = .ok (.istore 7, 2) := by decide +kernel
theorem d2_addSteps_63 : decode c2_addSteps 63 = .ok (.aload_n 0, 1) := by decide +kernel
theorem d2_addSteps_64 : decode c2_addSteps 64 = .ok (.getfield 21, 3) := by decide +kernel
theorem d2_addSteps_67 : decode c2_addSteps 67 = .ok (.aload_n 0, 1) := by decide +kernel
theorem d2_addSteps_68 : decode c2_addSteps 68 = .ok (.getfield 9, 3) := by decide +kernel
theorem d2_addSteps_71 : decode c2_addSteps 71 = .ok (.iload_n 1, 1) := by decide +kernel
theorem d2_addSteps_72 : decode c2_addSteps 72 = .ok (.bipush 8, 2) := by decide +kernel
theorem d2_addSteps_74 : decode c2_addSteps 74 = .ok (.ishl, 1) := by decide +kernel
theorem d2_addSteps_75 : decode c2_addSteps 75 = .ok (.iload 7, 2) := by decide +kernel
theorem d2_addSteps_77 : decode c2_addSteps 77 = .ok (.bipush 6, 2) := by decide +kernel
theorem d2_addSteps_79 : decode c2_addSteps 79 = .ok (.ishl, 1) := by decide +kernel
theorem d2_addSteps_80 : decode c2_addSteps 80 = .ok (.ior, 1) := by decide +kernel
theorem d2_addSteps_81 : decode c2_addSteps 81 = .ok (.iload 6, 2) := by decide +kernel
theorem d2_addSteps_83 : decode c2_addSteps 83 = .ok (.ior, 1) := by decide +kernel
theorem d2_addSteps_84 : decode c2_addSteps 84 = .ok (.iastore, 1) := by decide +kernel
theorem d2_addSteps_85 : decode c2_addSteps 85 = .ok (.aload_n 0, 1) := by decide +kernel
theorem d2_addSteps_86 : decode c2_addSteps 86 = .ok (.getfield 25, 3) := by decide +kernel
theorem d2_addSteps_89 : decode c2_addSteps 89 = .ok (.aload_n 0, 1) := by decide +kernel
theorem d2_addSteps_90 : decode c2_addSteps 90 = .ok (.getfield 9, 3) := by decide +kernel
theorem d2_addSteps_93 : decode c2_addSteps 93 = .ok (.aload_n 2, 1) := by decide +kernel
theorem d2_addSteps_94 : decode c2_addSteps 94 = .ok (.getfield 38, 3) := by decide +kernel
theorem d2_addSteps_97 : decode c2_addSteps 97 = .ok (.iload 6, 2) := by decide +kernel
theorem d2_addSteps_99 : decode c2_addSteps 99 = .ok (.laload, 1) := by decide +kernel
theorem d2_addSteps_100 : decode c2_addSteps 100 = .ok (.lastore, 1) := by decide +kernel
theorem d2_addSteps_101 : decode c2_addSteps 101 = .ok (.aload_n 0, 1) := by decide +kernel
theorem d2_addSteps_102 : decode c2_addSteps 102 = .ok (.getfield 29, 3) := by decide +kernel
theorem d2_addSteps_105 : decode c2_addSteps 105 = .ok (.aload_n 0, 1) := by decide +kernel
theorem d2_addSteps_106 : decode c2_addSteps 106 = .ok (.getfield 9, 3) := by decide +kernel
theorem d2_addSteps_109 : decode c2_addSteps 109 = .ok (.aload_n 3, 1) := by decide +kernel
theorem d2_addSteps_110 : decode c2_addSteps 110 = .ok (.getfield 38, 3) := by decide +kernel
theorem d2_addSteps_113 : decode c2_addSteps 113 = .ok (.iload 6, 2) := by decide +kernel
theorem d2_addSteps_115 : decode c2_addSteps 115 = .ok (.laload, 1) := by decide +kernel
theorem d2_addSteps_116 : decode c2_addSteps 116 = .ok (.lastore, 1) := by decide +kernel
theorem d2_addSteps_117 : decode c2_addSteps 117 = .ok (.aload_n 0, 1) := by decide +kernel
theorem d2_addSteps_118 : decode c2_addSteps 118 = .ok (.dup, 1) := by decide +kernel
theorem d2_addSteps_119 : decode c2_addSteps 119 = .ok (.getfield 9, 3) := by decide +kernel
theorem d2_addSteps_122 : decode c2_addSteps 122 = .ok (.iconst 1, 1) := by decide +kernel
theorem d2_addSteps_123 : decode c2_addSteps 123 = .ok (.iadd, 1) := by decide +kernel
theorem d2_addSteps_124 : decode c2_addSteps 124 = .ok (.putfield 9, 3) := by decide +kernel
theorem d2_addSteps_127 : decode c2_addSteps 127 = .ok (.iinc 6 1, 3) := by decide +kernel
theorem d2_addSteps_130 : decode c2_addSteps 130 = .ok (.goto (-127), 3) := by decide +kernel
theorem d2_addSteps_133 : decode c2_addSteps 133 = .ok (.return_, 1) := by decide +kernel
theorem d2_addAll_0 : decode c2_addAll 0 = .ok (.aload_n 1, 1) := by decide +kernel
theorem d2_addAll_1 : decode c2_addAll 1 = .ok (.getfield 9, 3) := by decide +kernel
theorem d2_addAll_4 : decode c2_addAll 4 = .ok (.aload_n 0, 1) := by decide +kernel
theorem d2_addAll_5 : decode c2_addAll 5 = .ok (.getfield 21, 3) := by decide +kernel
theorem d2_addAll_8 : decode c2_addAll 8 = .ok (.arraylength, 1) := by decide +kernel
theorem d2_addAll_9 : decode c2_addAll 9 = .ok (.aload_n 0, 1) := by decide +kernel
theorem d2_addAll_10 : decode c2_addAll 10 = .ok (.getfield 9, 3) := by decide +kernel
theorem d2_addAll_13 : decode c2_addAll 13 = .ok (.isub, 1) := by decide +kernel
theorem d2_addAll_14 : decode c2_addAll 14 = .ok (.invokestatic 41, 3) := by decide +kernel
theorem d2_addAll_17 : decode c2_addAll 17 = .ok (.istore_n 2, 1) := by decide +kernel
theorem d2_addAll_18 : decode c2_addAll 18 = .ok (.aload_n 1, 1) := by decide +kernel
theorem d2_addAll_19 : decode c2_addAll 19 = .ok (.getfield 21, 3) := by decide +kernel
theorem d2_addAll_22 : decode c2_addAll 22 = .ok (.iconst 0, 1) := by decide +kernel
theorem d2_addAll_23 : decode c2_addAll 23 = .ok (.aload_n 0, 1) := by decide +kernel
theorem d2_addAll_24 : decode c2_addAll 24 = .ok (.getfield 21, 3) := by decide +kernel
theorem d2_addAll_27 : decode c2_addAll 27 = .ok (.aload_n 0, 1) := by decide +kernel
theorem d2_addAll_28 : decode c2_addAll 28 = .ok (.getfield 9, 3) := by decide +kernel
theorem d2_addAll_31 : decode c2_addAll 31 = .ok (.iload_n 2, 1) := by decide +kernel
theorem d2_addAll_32 : decode c2_addAll 32 = .ok (.invokestatic 44, 3) := by decide +kernel
theorem d2_addAll_35 : decode c2_addAll 35 = .ok (.aload_n 1, 1) := by decide +kernel
theorem d2_addAll_36 : decode c2_addAll 36 = .ok (.getfield 25, 3) := by decide +kernel
theorem d2_addAll_39 : decode c2_addAll 39 = .ok (.iconst 0, 1) := by decide +kernel
theorem d2_addAll_40 : decode c2_addAll 40 = .ok (.aload_n 0, 1) := by decide +kernel
theorem d2_addAll_41 : decode c2_addAll 41 = .ok (.getfield 25, 3) := by decide +kernel
theorem d2_addAll_44 : decode c2_addAll 44 = .ok (.aload_n 0, 1) := by decide +kernel
theorem d2_addAll_45 : decode c2_addAll 45 = .ok (.getfield 9, 3) := by decide +kernel
theorem d2_addAll_48 : decode c2_addAll 48 = .ok (.iload_n 2, 1) := by decide +kernel
theorem d2_addAll_49 : decode c2_addAll 49 = .ok (.invokestatic 44, 3) := by decide +kernel
theorem d2_addAll_52 : decode c2_addAll 52 = .ok (.aload_n 1, 1) := by decide +kernel
theorem d2_addAll_53 : decode c2_addAll 53 = .ok (.getfield 29, 3) := by decide +kernel
theorem d2_addAll_56 : decode c2_addAll 56 = .ok (.iconst 0, 1) := by decide +kernel
theorem d2_addAll_57 : decode c2_addAll 57 = .ok (.aload_n 0, 1) := by decide +kernel
theorem d2_addAll_58 : decode c2_addAll 58 = .ok (.getfield 29, 3) := by decide +kernel
theorem d2_addAll_61 : decode c2_addAll 61 = .ok (.aload_n 0, 1) := by decide +kernel
theorem d2_addAll_62 : decode c2_addAll 62 = .ok (.getfield 9, 3) := by decide +kernel
theorem d2_addAll_65 : decode c2_addAll 65 = .ok (.iload_n 2, 1) := by decide +kernel
theorem d2_addAll_66 : decode c2_addAll 66 = .ok (.invokestatic 44, 3) := by decide +kernel
theorem d2_addAll_69 : decode c2_addAll 69 = .ok (.aload_n 0, 1) := by decide +kernel
theorem d2_addAll_70 : decode c2_addAll 70 = .ok (.dup, 1) := by decide +kernel
theorem d2_addAll_71 : decode c2_addAll 71 = .ok (.getfield 9, 3) := by decide +kernel
theorem d2_addAll_74 : decode c2_addAll 74 = .ok (.iload_n 2, 1) := by decide +kernel
theorem d2_addAll_75 : decode c2_addAll 75 = .ok (.iadd, 1) := by decide +kernel
theorem d2_addAll_76 : decode c2_addAll 76 = .ok (.putfield 9, 3) := by decide +kernel
theorem d2_addAll_79 : decode c2_addAll 79 = .ok (.return_, 1) := by decide +kernel
theorem d1_open_0 : decode c1_open 0 = .ok (.aload_n 0, 1) := by decide +kernel
theorem d1_open_1 : decode c1_open 1 = .ok (.iconst 1, 1) := by decide +kernel
theorem d1_open_2 : decode c1_open 2 = .ok (.putfield 9, 3) := by decide +kernel
theorem d1_open_5 : decode c1_open 5 = .ok (.aload_n 0, 1) := by decide +kernel
theorem d1_open_6 : decode c1_open 6 = .ok (.iconst 0, 1) := by decide +kernel
theorem d1_open_7 : decode c1_open 7 = .ok (.putfield 15, 3) := by decide +kernel
theorem d1_open_10 : decode c1_open 10 = .ok (.return_, 1) := by decide +kernel
theorem d2_tableOf_0 : decode c2_tableOf 0 = .ok (.aload_n 0, 1) := by decide +kernel
theorem d2_tableOf_1 : decode c2_tableOf 1 = .ok (.getfield 21, 3) := by decide +kernel
theorem d2_tableOf_4 : decode c2_tableOf 4 = .ok (.iload_n 1, 1) := by decide +kernel
theorem d2_tableOf_5 : decode c2_tableOf 5 = .ok (.iaload, 1) := by decide +kernel
theorem d2_tableOf_6 : decode c2_tableOf 6 = .ok (.bipush 8, 2) := by decide +kernel
theorem d2_tableOf_8 : decode c2_tableOf 8 = .ok (.ishr, 1) := by decide +kernel
theorem d2_tableOf_9 : decode c2_tableOf 9 = .ok (.ireturn, 1) := by decide +kernel
theorem d2_sortOf_0 : decode c2_sortOf 0 = .ok (.aload_n 0, 1) := by decide +kernel
theorem d2_sortOf_1 : decode c2_sortOf 1 = .ok (.getfield 21, 3) := by decide +kernel
theorem d2_sortOf_4 : decode c2_sortOf 4 = .ok (.iload_n 1, 1) := by decide +kernel
theorem d2_sortOf_5 : decode c2_sortOf 5 = .ok (.iaload, 1) := by decide +kernel
theorem d2_sortOf_6 : decode c2_sortOf 6 = .ok (.bipush 6, 2) := by decide +kernel
theorem d2_sortOf_8 : decode c2_sortOf 8 = .ok (.ishr, 1) := by decide +kernel
theorem d2_sortOf_9 : decode c2_sortOf 9 = .ok (.iconst 3, 1) := by decide +kernel
theorem d2_sortOf_10 : decode c2_sortOf 10 = .ok (.iand, 1) := by decide +kernel
theorem d2_sortOf_11 : decode c2_sortOf 11 = .ok (.ireturn, 1) := by decide +kernel
theorem d2_keyOf_0 : decode c2_keyOf 0 = .ok (.aload_n 0, 1) := by decide +kernel
theorem d2_keyOf_1 : decode c2_keyOf 1 = .ok (.getfield 21, 3) := by decide +kernel
theorem d2_keyOf_4 : decode c2_keyOf 4 = .ok (.iload_n 1, 1) := by decide +kernel
theorem d2_keyOf_5 : decode c2_keyOf 5 = .ok (.iaload, 1) := by decide +kernel
theorem d2_keyOf_6 : decode c2_keyOf 6 = .ok (.bipush 63, 2) := by decide +kernel
theorem d2_keyOf_8 : decode c2_keyOf 8 = .ok (.iand, 1) := by decide +kernel
theorem d2_keyOf_9 : decode c2_keyOf 9 = .ok (.ireturn, 1) := by decide +kernel
theorem d3_size_0 : decode c3_size 0 = .ok (.aload_n 0, 1) := by decide +kernel
theorem d3_size_1 : decode c3_size 1 = .ok (.getfield 9, 3) := by decide +kernel
theorem d3_size_4 : decode c3_size 4 = .ok (.invokestatic 19, 3) := by decide +kernel
theorem d3_size_7 : decode c3_size 7 = .ok (.ireturn, 1) := by decide +kernel
end
section
def m1_close (N : Nat) (K : Nat → Nat × Nat) (F : Nat → Nat → Option Nat) (I : (Nat → Nat → Int32)) (J : (Nat → Nat → Int64)) (a0 : Nat) : Option ((Nat → Nat → Int32)) :=
  if a0 < N ∧ K a0 = (0, 1) then (xlet (xu I a0 0 (0 : Int32)) fun I2 => some I2) else none
set_option maxRecDepth 100000 in
set_option maxHeartbeats 4000000 in
theorem c_m1_close {l : Launch} {B d : Nat} {g : xG} {N : Nat} {K : Nat → Nat × Nat} {F : Nat → Nat → Option Nat} {I : (Nat → Nat → Int32)} {J : (Nat → Nat → Int64)} {a0 : Nat} {I' : (Nat → Nat → Int32)} (h : m1_close N K F I J a0 = some I') : xC l g B (d + 0) 0 0 y1_close c1_close 1 none [.ref (B + a0)] (xP g B N K I J F) (xq none (xP g B N K I' J F)) := by
  refine xC_of (by decide) (Nat.le_of_ble_eq_true rfl) (fun X hl hR hr _ hX => ?_)
  refine x_sub (L' := [(0, .ref (B + a0))]) [0] rfl ?_
  unfold m1_close at h
  refine x_aload_n hX d1_close_0 rfl rfl ?_
  refine x_iconst (v := 0) hX d1_close_1 (by decide) ?_
  obtain ⟨hg1, h⟩ := x_gd h
  refine x_putI (j := 0) hX xc1 hg1.1 hg1.2 (by decide) rfl kF1_9 (Or.inl rfl) rfl rfl d1_close_2 ?_
  obtain ⟨I2, eI2, h⟩ := x_le h
  rw [← eI2]
  cases h
  exact x_vret hX hr d1_close_5 (fun H hP => ⟨rfl, hP⟩)

def m2_reset (N : Nat) (K : Nat → Nat × Nat) (F : Nat → Nat → Option Nat) (I : (Nat → Nat → Int32)) (J : (Nat → Nat → Int64)) (a0 : Nat) : Option ((Nat → Nat → Int32)) :=
  if a0 < N ∧ K a0 = (0, 2) then (xlet (xu I a0 0 (0 : Int32)) fun I2 => some I2) else none
set_option maxRecDepth 100000 in
set_option maxHeartbeats 4000000 in
theorem c_m2_reset {l : Launch} {B d : Nat} {g : xG} {N : Nat} {K : Nat → Nat × Nat} {F : Nat → Nat → Option Nat} {I : (Nat → Nat → Int32)} {J : (Nat → Nat → Int64)} {a0 : Nat} {I' : (Nat → Nat → Int32)} (h : m2_reset N K F I J a0 = some I') : xC l g B (d + 0) 0 0 y2_reset c2_reset 1 none [.ref (B + a0)] (xP g B N K I J F) (xq none (xP g B N K I' J F)) := by
  refine xC_of (by decide) (Nat.le_of_ble_eq_true rfl) (fun X hl hR hr _ hX => ?_)
  refine x_sub (L' := [(0, .ref (B + a0))]) [0] rfl ?_
  unfold m2_reset at h
  refine x_aload_n hX d2_reset_0 rfl rfl ?_
  refine x_iconst (v := 0) hX d2_reset_1 (by decide) ?_
  obtain ⟨hg1, h⟩ := x_gd h
  refine x_putI (j := 0) hX xc2 hg1.1 hg1.2 (by decide) rfl kF2_9 (Or.inl rfl) rfl rfl d2_reset_2 ?_
  obtain ⟨I2, eI2, h⟩ := x_le h
  rw [← eI2]
  cases h
  exact x_vret hX hr d2_reset_5 (fun H hP => ⟨rfl, hP⟩)

def mA_fill_L6 (N : Nat) (K : Nat → Nat × Nat) (F : Nat → Nat → Option Nat) (I : (Nat → Nat → Int32)) : Nat → (Nat → Nat → Int64) → Nat → Int64 → Int32 → Int32 → Option ((Nat → Nat → Int64))
  | 0, _, _, _, _, _ => none
  | n + 1, J, v0, v1, v3, v4 => if v4 ≤ v3 then (some J) else (if v0 < N ∧ (K v0).1 = 2 ∧ xinb v3 (K v0).2 then (xlet (xu J v0 (v3.toNatClampNeg) v1) fun J2 => xlet (v3 + (1 : Int32)) fun x3 => mA_fill_L6 N K F I n J2 v0 v1 x3 v4) else none)
def mA_fill (N : Nat) (K : Nat → Nat × Nat) (F : Nat → Nat → Option Nat) (I : (Nat → Nat → Int32)) (J : (Nat → Nat → Int64)) (a0 : Nat) (a1 : Int64) : Option ((Nat → Nat → Int64)) :=
  if a0 < N ∧ (K a0).1 = 2 then (xlet ((nI (K a0).2)) fun x2 => mA_fill_L6 N K F I xFu J a0 a1 (0 : Int32) x2) else none
set_option maxRecDepth 100000 in
set_option maxHeartbeats 4000000 in
theorem t_mA_fill_L6 {X : xX} {B d : Nat} {g : xG} {N : Nat} {K : Nat → Nat × Nat} {F : Nat → Nat → Option Nat} {I : (Nat → Nat → Int32)} {J' : (Nat → Nat → Int64)} (hX : xO X cA_fill "java/util/Arrays" 5 B g) (hR : x_R X = xrm (d + 0) 0 0) (hr : (x_meth X).sig.returnType = none) : ∀ (n : Nat) (J : (Nat → Nat → Int64)) (v0 : Nat) (v1 : Int64) (v3 : Int32) (v4 : Int32), mA_fill_L6 N K F I n J v0 v1 v3 v4 = some J' → xV X B 5 (xZ X B 0 0 (xq none (xP g B N K I J' F))) 0 0 (xP g B N K I J F) 6 [(0, .ref (B + v0)), (1, .long v1), (3, .int v3), (4, .int v4)] [] := by
  intro n
  induction n with
  | zero =>
    intro J v0 v1 v3 v4 h
    cases h
  | succ n ih =>
    intro J v0 v1 v3 v4 h
    rw [mA_fill_L6] at h
    refine x_iload_n hX dA_fill_6 rfl rfl ?_
    refine x_iload hX dA_fill_7 rfl ?_
    refine x_icmp_ge (tgt := 22) hX dA_fill_9 (by decide) (fun hc => ?_) (fun hc => ?_)
    · rw [if_pos hc] at h
      cases h
      exact x_vret hX hr dA_fill_22 (fun H hP => ⟨rfl, hP⟩)
    · rw [if_neg hc] at h
      refine x_aload_n hX dA_fill_12 rfl rfl ?_
      refine x_iload_n hX dA_fill_13 rfl rfl ?_
      refine x_lload_n hX dA_fill_14 rfl rfl ?_
      obtain ⟨hg1, h⟩ := x_gd h
      refine x_last hX hg1.1 (x_kd hg1.2.1) (x_in hg1.2.2) dA_fill_15 ?_
      obtain ⟨J2, eJ2, h⟩ := x_le h
      rw [← eJ2]
      obtain ⟨x3, ex3, h⟩ := x_le h
      refine x_iinc (j := 2) hX [(3, .int x3), (0, .ref (B + v0)), (1, .long v1), (4, .int v4)] dA_fill_16 rfl (by rw [ex3]; rfl) (by decide) rfl ?_
      refine x_goto (tgt := 6) hX dA_fill_19 (by decide) ?_
      refine x_sub [1, 2, 0, 3] rfl ?_
      exact ih _ _ _ _ _ h
set_option maxRecDepth 100000 in
set_option maxHeartbeats 4000000 in
theorem c_mA_fill {l : Launch} {B d : Nat} {g : xG} {N : Nat} {K : Nat → Nat × Nat} {F : Nat → Nat → Option Nat} {I : (Nat → Nat → Int32)} {J : (Nat → Nat → Int64)} {a0 : Nat} {a1 : Int64} {J' : (Nat → Nat → Int64)} (h : mA_fill N K F I J a0 a1 = some J') : xC l g B (d + 0) 0 0 yA_fill cA_fill 5 none [.ref (B + a0), .long a1] (xP g B N K I J F) (xq none (xP g B N K I J' F)) := by
  refine xC_of (by decide) (Nat.le_of_ble_eq_true rfl) (fun X hl hR hr _ hX => ?_)
  refine x_sub (L' := [(0, .ref (B + a0)), (1, .long a1)]) [0, 1] rfl ?_
  unfold mA_fill at h
  refine x_iconst (v := 0) hX dA_fill_0 (by decide) ?_
  refine x_istore_n hX [(3, .int (0 : Int32)), (0, .ref (B + a0)), (1, .long a1)] dA_fill_1 rfl (by decide) rfl ?_
  refine x_aload_n hX dA_fill_2 rfl rfl ?_
  obtain ⟨hg1, h⟩ := x_gd h
  refine x_alen (t := 1) hX hg1.1 (x_kd hg1.2) (by decide) dA_fill_3 ?_
  obtain ⟨x2, ex2, h⟩ := x_le h
  refine x_eqi ex2.symm ?_
  refine x_istore hX [(4, .int x2), (3, .int (0 : Int32)), (0, .ref (B + a0)), (1, .long a1)] dA_fill_4 (by decide) rfl ?_
  refine x_sub [2, 3, 1, 0] rfl ?_
  exact t_mA_fill_L6 hX hR hr _ _ _ _ _ _ h

def m3_reset (N : Nat) (K : Nat → Nat × Nat) (F : Nat → Nat → Option Nat) (I : (Nat → Nat → Int32)) (J : (Nat → Nat → Int64)) (a0 : Nat) : Option ((Nat → Nat → Int64)) :=
  if a0 < N ∧ K a0 = (0, 3) then (xlet (xu J a0 0 (0 : Int64)) fun J2 => xb (F a0 1) fun q3 => xb (mA_fill N K F I J2 q3 (0 : Int64)) fun J4 => some J4) else none
set_option maxRecDepth 100000 in
set_option maxHeartbeats 4000000 in
theorem c_m3_reset {l : Launch} {B d : Nat} {g : xG} {N : Nat} {K : Nat → Nat × Nat} {F : Nat → Nat → Option Nat} {I : (Nat → Nat → Int32)} {J : (Nat → Nat → Int64)} {a0 : Nat} {J' : (Nat → Nat → Int64)} (h : m3_reset N K F I J a0 = some J') : xC l g B (d + 1) 0 0 y3_reset c3_reset 1 none [.ref (B + a0)] (xP g B N K I J F) (xq none (xP g B N K I J' F)) := by
  refine xC_of (by decide) (Nat.le_of_ble_eq_true rfl) (fun X hl hR hr _ hX => ?_)
  refine x_sub (L' := [(0, .ref (B + a0))]) [0] rfl ?_
  unfold m3_reset at h
  refine x_aload_n hX d3_reset_0 rfl rfl ?_
  refine x_lconst (v := 0) hX d3_reset_1 (by decide) ?_
  obtain ⟨hg1, h⟩ := x_gd h
  refine x_putJ (j := 0) hX xc3 hg1.1 hg1.2 (by decide) rfl kF3_9 (Or.inl rfl) rfl rfl d3_reset_2 ?_
  obtain ⟨J2, eJ2, h⟩ := x_le h
  rw [← eJ2]
  refine x_aload_n hX d3_reset_5 rfl rfl ?_
  obtain ⟨q3, eq3, h⟩ := x_bd h
  refine x_getF (j := 1) hX xc3 hg1.1 hg1.2 (by decide) rfl eq3 kF3_15 d3_reset_6 ?_
  refine x_lconst (v := 0) hX d3_reset_9 (by decide) ?_
  obtain ⟨J4, eb5, h⟩ := x_bd h
  refine x_callS hX hR (c_mA_fill (l := x_l X) (d := d + 0) eb5) kX3_25 kSA_fill rfl rfl (Nat.le_of_ble_eq_true rfl) ⟨Nat.le_refl 0, Nat.le_refl 0⟩ d3_reset_10 (x_kkv ?_)
  cases h
  exact x_vret hX hr d3_reset_13 (fun H hP => ⟨rfl, hP⟩)

def m4_define (N : Nat) (K : Nat → Nat × Nat) (F : Nat → Nat → Option Nat) (I : (Nat → Nat → Int32)) (J : (Nat → Nat → Int64)) (a0 : Nat) (a1 : Int32) (a2 : Int32) (a3 : Int32) (a4 : Int64) (a5 : Int64) : Option ((Nat → Nat → Int32) × (Nat → Nat → Int64)) :=
  if a0 < N ∧ K a0 = (0, 4) then (xlet (xu I a0 0 a1) fun I2 => xlet (xu I2 a0 1 a2) fun I3 => xlet (xu I3 a0 2 a3) fun I4 => xlet (xu J a0 3 a4) fun J5 => xlet (xu J5 a0 4 a5) fun J6 => some (I4, J6)) else none
set_option maxRecDepth 100000 in
set_option maxHeartbeats 4000000 in
theorem c_m4_define {l : Launch} {B d : Nat} {g : xG} {N : Nat} {K : Nat → Nat × Nat} {F : Nat → Nat → Option Nat} {I : (Nat → Nat → Int32)} {J : (Nat → Nat → Int64)} {a0 : Nat} {a1 : Int32} {a2 : Int32} {a3 : Int32} {a4 : Int64} {a5 : Int64} {I' : (Nat → Nat → Int32)} {J' : (Nat → Nat → Int64)} (h : m4_define N K F I J a0 a1 a2 a3 a4 a5 = some (I', J')) : xC l g B (d + 0) 0 0 y4_define c4_define 8 none [.ref (B + a0), .int a1, .int a2, .int a3, .long a4, .long a5] (xP g B N K I J F) (xq none (xP g B N K I' J' F)) := by
  refine xC_of (by decide) (Nat.le_of_ble_eq_true rfl) (fun X hl hR hr _ hX => ?_)
  refine x_sub (L' := [(0, .ref (B + a0)), (1, .int a1), (2, .int a2), (3, .int a3), (4, .long a4), (6, .long a5)]) [0, 1, 2, 3, 4, 5] rfl ?_
  unfold m4_define at h
  refine x_aload_n hX d4_define_0 rfl rfl ?_
  refine x_iload_n hX d4_define_1 rfl rfl ?_
  obtain ⟨hg1, h⟩ := x_gd h
  refine x_putI (j := 0) hX xc4 hg1.1 hg1.2 (by decide) rfl kF4_9 (Or.inl rfl) rfl rfl d4_define_2 ?_
  obtain ⟨I2, eI2, h⟩ := x_le h
  rw [← eI2]
  refine x_aload_n hX d4_define_5 rfl rfl ?_
  refine x_iload_n hX d4_define_6 rfl rfl ?_
  refine x_putI (j := 1) hX xc4 hg1.1 hg1.2 (by decide) rfl kF4_15 (Or.inl rfl) rfl rfl d4_define_7 ?_
  obtain ⟨I3, eI3, h⟩ := x_le h
  rw [← eI3]
  refine x_aload_n hX d4_define_10 rfl rfl ?_
  refine x_iload_n hX d4_define_11 rfl rfl ?_
  refine x_putI (j := 2) hX xc4 hg1.1 hg1.2 (by decide) rfl kF4_18 (Or.inl rfl) rfl rfl d4_define_12 ?_
  obtain ⟨I4, eI4, h⟩ := x_le h
  rw [← eI4]
  refine x_aload_n hX d4_define_15 rfl rfl ?_
  refine x_lload hX d4_define_16 rfl ?_
  refine x_putJ (j := 3) hX xc4 hg1.1 hg1.2 (by decide) rfl kF4_21 (Or.inl rfl) rfl rfl d4_define_18 ?_
  obtain ⟨J5, eJ5, h⟩ := x_le h
  rw [← eJ5]
  refine x_aload_n hX d4_define_21 rfl rfl ?_
  refine x_lload hX d4_define_22 rfl ?_
  refine x_putJ (j := 4) hX xc4 hg1.1 hg1.2 (by decide) rfl kF4_25 (Or.inl rfl) rfl rfl d4_define_24 ?_
  obtain ⟨J6, eJ6, h⟩ := x_le h
  rw [← eJ6]
  cases h
  exact x_vret hX hr d4_define_27 (fun H hP => ⟨rfl, hP⟩)

def m3_holds (N : Nat) (K : Nat → Nat × Nat) (F : Nat → Nat → Option Nat) (I : (Nat → Nat → Int32)) (J : (Nat → Nat → Int64)) (a0 : Nat) (a1 : Int32) : Option (Int32) :=
  if a0 < N ∧ K a0 = (0, 3) then (if ((((J a0 0).toUInt64 >>> (a1.toInt64.toUInt64 &&& Int64.toUInt64 63)).toInt64) &&& (1 : Int64)) = (0 : Int64) then (some (0 : Int32)) else (some (1 : Int32))) else none
set_option maxRecDepth 100000 in
set_option maxHeartbeats 4000000 in
theorem c_m3_holds {l : Launch} {B d : Nat} {g : xG} {N : Nat} {K : Nat → Nat × Nat} {F : Nat → Nat → Option Nat} {I : (Nat → Nat → Int32)} {J : (Nat → Nat → Int64)} {a0 : Nat} {a1 : Int32} {rv : Int32} (h : m3_holds N K F I J a0 a1 = some rv) : xC l g B (d + 0) 0 0 y3_holds c3_holds 2 (some .boolean) [.ref (B + a0), .int a1] (xP g B N K I J F) (xq (some (.int rv)) (xP g B N K I J F)) := by
  refine xC_of (by decide) (Nat.le_of_ble_eq_true rfl) (fun X hl hR hr _ hX => ?_)
  refine x_sub (L' := [(0, .ref (B + a0)), (1, .int a1)]) [0, 1] rfl ?_
  unfold m3_holds at h
  refine x_aload_n hX d3_holds_0 rfl rfl ?_
  obtain ⟨hg1, h⟩ := x_gd h
  refine x_getJ (j := 0) hX xc3 hg1.1 hg1.2 (by decide) rfl kF3_9 d3_holds_1 ?_
  refine x_iload_n hX d3_holds_4 rfl rfl ?_
  refine x_lushr hX d3_holds_5 ?_
  refine x_lconst (v := 1) hX d3_holds_6 (by decide) ?_
  refine x_land hX d3_holds_7 ?_
  refine x_lconst (v := 0) hX d3_holds_8 (by decide) ?_
  refine x_lif_eq (tgt := 17) hX d3_holds_9 d3_holds_10 (by decide) (fun hc => ?_) (fun hc => ?_)
  · rw [if_pos hc] at h
    refine x_iconst (v := 0) hX d3_holds_17 (by decide) ?_
    cases h
    exact x_zret hX hr rfl d3_holds_18 (fun H hP => ⟨rfl, hP⟩)
  · rw [if_neg hc] at h
    refine x_iconst (v := 1) hX d3_holds_13 (by decide) ?_
    refine x_goto (tgt := 18) hX d3_holds_14 (by decide) ?_
    cases h
    exact x_zret hX hr rfl d3_holds_18 (fun H hP => ⟨rfl, hP⟩)

def m3_set (N : Nat) (K : Nat → Nat × Nat) (F : Nat → Nat → Option Nat) (I : (Nat → Nat → Int32)) (J : (Nat → Nat → Int64)) (a0 : Nat) (a1 : Int32) (a2 : Int64) : Option ((Nat → Nat → Int64)) :=
  if a0 < N ∧ K a0 = (0, 3) then (xlet (xu J a0 0 ((J a0 0) ||| ((1 : Int64) <<< (a1.toInt64 &&& 63)))) fun J2 => xb (F a0 1) fun q3 => if q3 < N ∧ (K q3).1 = 2 ∧ xinb a1 (K q3).2 then (xlet (xu J2 q3 (a1.toNatClampNeg) a2) fun J5 => some J5) else none) else none
set_option maxRecDepth 100000 in
set_option maxHeartbeats 4000000 in
theorem c_m3_set {l : Launch} {B d : Nat} {g : xG} {N : Nat} {K : Nat → Nat × Nat} {F : Nat → Nat → Option Nat} {I : (Nat → Nat → Int32)} {J : (Nat → Nat → Int64)} {a0 : Nat} {a1 : Int32} {a2 : Int64} {J' : (Nat → Nat → Int64)} (h : m3_set N K F I J a0 a1 a2 = some J') : xC l g B (d + 0) 0 0 y3_set c3_set 4 none [.ref (B + a0), .int a1, .long a2] (xP g B N K I J F) (xq none (xP g B N K I J' F)) := by
  refine xC_of (by decide) (Nat.le_of_ble_eq_true rfl) (fun X hl hR hr _ hX => ?_)
  refine x_sub (L' := [(0, .ref (B + a0)), (1, .int a1), (2, .long a2)]) [0, 1, 2] rfl ?_
  unfold m3_set at h
  refine x_aload_n hX d3_set_0 rfl rfl ?_
  refine x_dup hX d3_set_1 rfl ?_
  obtain ⟨hg1, h⟩ := x_gd h
  refine x_getJ (j := 0) hX xc3 hg1.1 hg1.2 (by decide) rfl kF3_9 d3_set_2 ?_
  refine x_lconst (v := 1) hX d3_set_5 (by decide) ?_
  refine x_iload_n hX d3_set_6 rfl rfl ?_
  refine x_lshl hX d3_set_7 ?_
  refine x_lor hX d3_set_8 ?_
  refine x_putJ (j := 0) hX xc3 hg1.1 hg1.2 (by decide) rfl kF3_9 (Or.inl rfl) rfl rfl d3_set_9 ?_
  obtain ⟨J2, eJ2, h⟩ := x_le h
  rw [← eJ2]
  refine x_aload_n hX d3_set_12 rfl rfl ?_
  obtain ⟨q3, eq3, h⟩ := x_bd h
  refine x_getF (j := 1) hX xc3 hg1.1 hg1.2 (by decide) rfl eq3 kF3_15 d3_set_13 ?_
  refine x_iload_n hX d3_set_16 rfl rfl ?_
  refine x_lload_n hX d3_set_17 rfl rfl ?_
  obtain ⟨hg4, h⟩ := x_gd h
  refine x_last hX hg4.1 (x_kd hg4.2.1) (x_in hg4.2.2) d3_set_18 ?_
  obtain ⟨J5, eJ5, h⟩ := x_le h
  rw [← eJ5]
  cases h
  exact x_vret hX hr d3_set_19 (fun H hP => ⟨rfl, hP⟩)

def m4_deriveFilter_L2 (N : Nat) (K : Nat → Nat × Nat) (F : Nat → Nat → Option Nat) (I : (Nat → Nat → Int32)) : Nat → (Nat → Nat → Int64) → Nat → Nat → Int32 → Option ((Nat → Nat → Int64))
  | 0, _, _, _, _ => none
  | n + 1, J, v0, v1, v2 => if (64 : Int32) ≤ v2 then (some J) else (if v1 < N ∧ K v1 = (0, 3) then (xb (F v1 1) fun q2 => if q2 < N ∧ (K q2).1 = 2 ∧ xinb v2 (K q2).2 then (xlet ((J q2 (v2.toNatClampNeg))) fun x4 => xb (m3_holds N K F I J v1 v2) fun x5 => if x5 = 0 then (xlet (v2 + (1 : Int32)) fun x7 => m4_deriveFilter_L2 N K F I n J v0 v1 x7) else (if v0 < N ∧ K v0 = (0, 4) then (if x4 < (J v0 3) then (xlet (v2 + (1 : Int32)) fun x9 => m4_deriveFilter_L2 N K F I n J v0 v1 x9) else (if (J v0 4) < x4 then (xlet (v2 + (1 : Int32)) fun x10 => m4_deriveFilter_L2 N K F I n J v0 v1 x10) else (xb (F v0 6) fun q11 => if q11 < N ∧ K q11 = (0, 3) then (xb (m3_set N K F I J q11 v2 x4) fun J13 => xlet (v2 + (1 : Int32)) fun x15 => m4_deriveFilter_L2 N K F I n J13 v0 v1 x15) else none))) else none)) else none) else none)
def m4_deriveFilter (N : Nat) (K : Nat → Nat × Nat) (F : Nat → Nat → Option Nat) (I : (Nat → Nat → Int32)) (J : (Nat → Nat → Int64)) (a0 : Nat) (a1 : Nat) : Option ((Nat → Nat → Int64)) :=
  m4_deriveFilter_L2 N K F I xFu J a0 a1 (0 : Int32)
set_option maxRecDepth 100000 in
set_option maxHeartbeats 4000000 in
theorem t_m4_deriveFilter_L2 {X : xX} {B d : Nat} {g : xG} {N : Nat} {K : Nat → Nat × Nat} {F : Nat → Nat → Option Nat} {I : (Nat → Nat → Int32)} {J' : (Nat → Nat → Int64)} (hX : xO X c4_deriveFilter "ChangeRows$Table" 5 B g) (hR : x_R X = xrm (d + 1) 0 0) (hr : (x_meth X).sig.returnType = none) : ∀ (n : Nat) (J : (Nat → Nat → Int64)) (v0 : Nat) (v1 : Nat) (v2 : Int32), m4_deriveFilter_L2 N K F I n J v0 v1 v2 = some J' → xV X B 5 (xZ X B 0 0 (xq none (xP g B N K I J' F))) 0 0 (xP g B N K I J F) 2 [(0, .ref (B + v0)), (1, .ref (B + v1)), (2, .int v2)] [] := by
  intro n
  induction n with
  | zero =>
    intro J v0 v1 v2 h
    cases h
  | succ n ih =>
    intro J v0 v1 v2 h
    rw [m4_deriveFilter_L2] at h
    refine x_iload_n hX d4_deriveFilter_2 rfl rfl ?_
    refine x_bipush (v := 64) hX d4_deriveFilter_3 (by decide) ?_
    refine x_icmp_ge (tgt := 56) hX d4_deriveFilter_5 (by decide) (fun hc => ?_) (fun hc => ?_)
    · rw [if_pos hc] at h
      cases h
      exact x_vret hX hr d4_deriveFilter_56 (fun H hP => ⟨rfl, hP⟩)
    · rw [if_neg hc] at h
      refine x_aload_n hX d4_deriveFilter_8 rfl rfl ?_
      obtain ⟨hg1, h⟩ := x_gd h
      obtain ⟨q2, eq2, h⟩ := x_bd h
      refine x_getF (j := 1) hX xc3 hg1.1 hg1.2 (by decide) rfl eq2 kF4_74 d4_deriveFilter_9 ?_
      refine x_iload_n hX d4_deriveFilter_12 rfl rfl ?_
      obtain ⟨hg3, h⟩ := x_gd h
      refine x_lald hX hg3.1 (x_kd hg3.2.1) (x_in hg3.2.2) d4_deriveFilter_13 ?_
      obtain ⟨x4, ex4, h⟩ := x_le h
      refine x_eql ex4.symm ?_
      refine x_lstore_n hX [(3, .long x4), (0, .ref (B + v0)), (1, .ref (B + v1)), (2, .int v2)] d4_deriveFilter_14 rfl (by decide) rfl ?_
      refine x_aload_n hX d4_deriveFilter_15 rfl rfl ?_
      refine x_iload_n hX d4_deriveFilter_16 rfl rfl ?_
      obtain ⟨x5, eb6, h⟩ := x_bd h
      refine x_callV hX hR (c_m3_holds (l := x_l X) (d := d + 0) eb6) kX4_78 kN3_holds kE3_holds xc3.1 hg1.1 hg1.2 rfl rfl (Nat.le_of_ble_eq_true rfl) ⟨Nat.le_refl 0, Nat.le_refl 0⟩ d4_deriveFilter_17 (x_kki ?_)
      refine x_if_eq (tgt := 50) hX d4_deriveFilter_20 (by decide) (fun hc => ?_) (fun hc => ?_)
      · rw [if_pos hc] at h
        obtain ⟨x7, ex7, h⟩ := x_le h
        refine x_iinc (j := 3) hX [(2, .int x7), (3, .long x4), (0, .ref (B + v0)), (1, .ref (B + v1))] d4_deriveFilter_50 rfl (by rw [ex7]; rfl) (by decide) rfl ?_
        refine x_goto (tgt := 2) hX d4_deriveFilter_53 (by decide) ?_
        refine x_sub [2, 3, 0] rfl ?_
        exact ih _ _ _ _ h
      · rw [if_neg hc] at h
        refine x_lload_n hX d4_deriveFilter_23 rfl rfl ?_
        refine x_aload_n hX d4_deriveFilter_24 rfl rfl ?_
        obtain ⟨hg8, h⟩ := x_gd h
        refine x_getJ (j := 3) hX xc4 hg8.1 hg8.2 (by decide) rfl kF4_21 d4_deriveFilter_25 ?_
        refine x_lif_lt (tgt := 50) hX d4_deriveFilter_28 d4_deriveFilter_29 (by decide) (fun hc => ?_) (fun hc => ?_)
        · rw [if_pos hc] at h
          obtain ⟨x9, ex9, h⟩ := x_le h
          refine x_iinc (j := 3) hX [(2, .int x9), (3, .long x4), (0, .ref (B + v0)), (1, .ref (B + v1))] d4_deriveFilter_50 rfl (by rw [ex9]; rfl) (by decide) rfl ?_
          refine x_goto (tgt := 2) hX d4_deriveFilter_53 (by decide) ?_
          refine x_sub [2, 3, 0] rfl ?_
          exact ih _ _ _ _ h
        · rw [if_neg hc] at h
          refine x_lload_n hX d4_deriveFilter_32 rfl rfl ?_
          refine x_aload_n hX d4_deriveFilter_33 rfl rfl ?_
          refine x_getJ (j := 4) hX xc4 hg8.1 hg8.2 (by decide) rfl kF4_25 d4_deriveFilter_34 ?_
          refine x_lif_gt (tgt := 50) hX d4_deriveFilter_37 d4_deriveFilter_38 (by decide) (fun hc => ?_) (fun hc => ?_)
          · rw [if_pos hc] at h
            obtain ⟨x10, ex10, h⟩ := x_le h
            refine x_iinc (j := 3) hX [(2, .int x10), (3, .long x4), (0, .ref (B + v0)), (1, .ref (B + v1))] d4_deriveFilter_50 rfl (by rw [ex10]; rfl) (by decide) rfl ?_
            refine x_goto (tgt := 2) hX d4_deriveFilter_53 (by decide) ?_
            refine x_sub [2, 3, 0] rfl ?_
            exact ih _ _ _ _ h
          · rw [if_neg hc] at h
            refine x_aload_n hX d4_deriveFilter_41 rfl rfl ?_
            obtain ⟨q11, eq11, h⟩ := x_bd h
            refine x_getF (j := 6) hX xc4 hg8.1 hg8.2 (by decide) rfl eq11 kF4_35 d4_deriveFilter_42 ?_
            refine x_iload_n hX d4_deriveFilter_45 rfl rfl ?_
            refine x_lload_n hX d4_deriveFilter_46 rfl rfl ?_
            obtain ⟨hg12, h⟩ := x_gd h
            obtain ⟨J13, eb14, h⟩ := x_bd h
            refine x_callV hX hR (c_m3_set (l := x_l X) (d := d + 0) eb14) kX4_82 kN3_set kE3_set xc3.1 hg12.1 hg12.2 rfl rfl (Nat.le_of_ble_eq_true rfl) ⟨Nat.le_refl 0, Nat.le_refl 0⟩ d4_deriveFilter_47 (x_kkv ?_)
            obtain ⟨x15, ex15, h⟩ := x_le h
            refine x_iinc (j := 3) hX [(2, .int x15), (3, .long x4), (0, .ref (B + v0)), (1, .ref (B + v1))] d4_deriveFilter_50 rfl (by rw [ex15]; rfl) (by decide) rfl ?_
            refine x_goto (tgt := 2) hX d4_deriveFilter_53 (by decide) ?_
            refine x_sub [2, 3, 0] rfl ?_
            exact ih _ _ _ _ h
set_option maxRecDepth 100000 in
set_option maxHeartbeats 4000000 in
theorem c_m4_deriveFilter {l : Launch} {B d : Nat} {g : xG} {N : Nat} {K : Nat → Nat × Nat} {F : Nat → Nat → Option Nat} {I : (Nat → Nat → Int32)} {J : (Nat → Nat → Int64)} {a0 : Nat} {a1 : Nat} {J' : (Nat → Nat → Int64)} (h : m4_deriveFilter N K F I J a0 a1 = some J') : xC l g B (d + 1) 0 0 y4_deriveFilter c4_deriveFilter 5 none [.ref (B + a0), .ref (B + a1)] (xP g B N K I J F) (xq none (xP g B N K I J' F)) := by
  refine xC_of (by decide) (Nat.le_of_ble_eq_true rfl) (fun X hl hR hr _ hX => ?_)
  refine x_sub (L' := [(0, .ref (B + a0)), (1, .ref (B + a1))]) [0, 1] rfl ?_
  unfold m4_deriveFilter at h
  refine x_iconst (v := 0) hX d4_deriveFilter_0 (by decide) ?_
  refine x_istore_n hX [(2, .int (0 : Int32)), (0, .ref (B + a0)), (1, .ref (B + a1))] d4_deriveFilter_1 rfl (by decide) rfl ?_
  refine x_sub [1, 2, 0] rfl ?_
  exact t_m4_deriveFilter_L2 hX hR hr _ _ _ _ _ h

def m4_deriveMap_L2 (N : Nat) (K : Nat → Nat × Nat) (F : Nat → Nat → Option Nat) (I : (Nat → Nat → Int32)) : Nat → (Nat → Nat → Int64) → Nat → Nat → Int32 → Option ((Nat → Nat → Int64))
  | 0, _, _, _, _ => none
  | n + 1, J, v0, v1, v2 => if (64 : Int32) ≤ v2 then (some J) else (if v1 < N ∧ K v1 = (0, 3) then (xb (m3_holds N K F I J v1 v2) fun x2 => if x2 = 0 then (xlet (v2 + (1 : Int32)) fun x4 => m4_deriveMap_L2 N K F I n J v0 v1 x4) else (if v0 < N ∧ K v0 = (0, 4) then (xb (F v0 6) fun q6 => xb (F v1 1) fun q7 => if q7 < N ∧ (K q7).1 = 2 ∧ xinb v2 (K q7).2 then (if q6 < N ∧ K q6 = (0, 3) then (xb (m3_set N K F I J q6 v2 (((J v0 3) * (J q7 (v2.toNatClampNeg))) + (J v0 4))) fun J10 => xlet (v2 + (1 : Int32)) fun x12 => m4_deriveMap_L2 N K F I n J10 v0 v1 x12) else none) else none) else none)) else none)
def m4_deriveMap (N : Nat) (K : Nat → Nat × Nat) (F : Nat → Nat → Option Nat) (I : (Nat → Nat → Int32)) (J : (Nat → Nat → Int64)) (a0 : Nat) (a1 : Nat) : Option ((Nat → Nat → Int64)) :=
  m4_deriveMap_L2 N K F I xFu J a0 a1 (0 : Int32)
set_option maxRecDepth 100000 in
set_option maxHeartbeats 4000000 in
theorem t_m4_deriveMap_L2 {X : xX} {B d : Nat} {g : xG} {N : Nat} {K : Nat → Nat × Nat} {F : Nat → Nat → Option Nat} {I : (Nat → Nat → Int32)} {J' : (Nat → Nat → Int64)} (hX : xO X c4_deriveMap "ChangeRows$Table" 3 B g) (hR : x_R X = xrm (d + 1) 0 0) (hr : (x_meth X).sig.returnType = none) : ∀ (n : Nat) (J : (Nat → Nat → Int64)) (v0 : Nat) (v1 : Nat) (v2 : Int32), m4_deriveMap_L2 N K F I n J v0 v1 v2 = some J' → xV X B 3 (xZ X B 0 0 (xq none (xP g B N K I J' F))) 0 0 (xP g B N K I J F) 2 [(0, .ref (B + v0)), (1, .ref (B + v1)), (2, .int v2)] [] := by
  intro n
  induction n with
  | zero =>
    intro J v0 v1 v2 h
    cases h
  | succ n ih =>
    intro J v0 v1 v2 h
    rw [m4_deriveMap_L2] at h
    refine x_iload_n hX d4_deriveMap_2 rfl rfl ?_
    refine x_bipush (v := 64) hX d4_deriveMap_3 (by decide) ?_
    refine x_icmp_ge (tgt := 46) hX d4_deriveMap_5 (by decide) (fun hc => ?_) (fun hc => ?_)
    · rw [if_pos hc] at h
      cases h
      exact x_vret hX hr d4_deriveMap_46 (fun H hP => ⟨rfl, hP⟩)
    · rw [if_neg hc] at h
      refine x_aload_n hX d4_deriveMap_8 rfl rfl ?_
      refine x_iload_n hX d4_deriveMap_9 rfl rfl ?_
      obtain ⟨hg1, h⟩ := x_gd h
      obtain ⟨x2, eb3, h⟩ := x_bd h
      refine x_callV hX hR (c_m3_holds (l := x_l X) (d := d + 0) eb3) kX4_78 kN3_holds kE3_holds xc3.1 hg1.1 hg1.2 rfl rfl (Nat.le_of_ble_eq_true rfl) ⟨Nat.le_refl 0, Nat.le_refl 0⟩ d4_deriveMap_10 (x_kki ?_)
      refine x_if_eq (tgt := 40) hX d4_deriveMap_13 (by decide) (fun hc => ?_) (fun hc => ?_)
      · rw [if_pos hc] at h
        obtain ⟨x4, ex4, h⟩ := x_le h
        refine x_iinc (j := 2) hX [(2, .int x4), (0, .ref (B + v0)), (1, .ref (B + v1))] d4_deriveMap_40 rfl (by rw [ex4]; rfl) (by decide) rfl ?_
        refine x_goto (tgt := 2) hX d4_deriveMap_43 (by decide) ?_
        refine x_sub [1, 2, 0] rfl ?_
        exact ih _ _ _ _ h
      · rw [if_neg hc] at h
        refine x_aload_n hX d4_deriveMap_16 rfl rfl ?_
        obtain ⟨hg5, h⟩ := x_gd h
        obtain ⟨q6, eq6, h⟩ := x_bd h
        refine x_getF (j := 6) hX xc4 hg5.1 hg5.2 (by decide) rfl eq6 kF4_35 d4_deriveMap_17 ?_
        refine x_iload_n hX d4_deriveMap_20 rfl rfl ?_
        refine x_aload_n hX d4_deriveMap_21 rfl rfl ?_
        refine x_getJ (j := 3) hX xc4 hg5.1 hg5.2 (by decide) rfl kF4_21 d4_deriveMap_22 ?_
        refine x_aload_n hX d4_deriveMap_25 rfl rfl ?_
        obtain ⟨q7, eq7, h⟩ := x_bd h
        refine x_getF (j := 1) hX xc3 hg1.1 hg1.2 (by decide) rfl eq7 kF4_74 d4_deriveMap_26 ?_
        refine x_iload_n hX d4_deriveMap_29 rfl rfl ?_
        obtain ⟨hg8, h⟩ := x_gd h
        refine x_lald hX hg8.1 (x_kd hg8.2.1) (x_in hg8.2.2) d4_deriveMap_30 ?_
        refine x_lmul hX d4_deriveMap_31 ?_
        refine x_aload_n hX d4_deriveMap_32 rfl rfl ?_
        refine x_getJ (j := 4) hX xc4 hg5.1 hg5.2 (by decide) rfl kF4_25 d4_deriveMap_33 ?_
        refine x_ladd hX d4_deriveMap_36 ?_
        obtain ⟨hg9, h⟩ := x_gd h
        obtain ⟨J10, eb11, h⟩ := x_bd h
        refine x_callV hX hR (c_m3_set (l := x_l X) (d := d + 0) eb11) kX4_82 kN3_set kE3_set xc3.1 hg9.1 hg9.2 rfl rfl (Nat.le_of_ble_eq_true rfl) ⟨Nat.le_refl 0, Nat.le_refl 0⟩ d4_deriveMap_37 (x_kkv ?_)
        obtain ⟨x12, ex12, h⟩ := x_le h
        refine x_iinc (j := 2) hX [(2, .int x12), (0, .ref (B + v0)), (1, .ref (B + v1))] d4_deriveMap_40 rfl (by rw [ex12]; rfl) (by decide) rfl ?_
        refine x_goto (tgt := 2) hX d4_deriveMap_43 (by decide) ?_
        refine x_sub [1, 2, 0] rfl ?_
        exact ih _ _ _ _ h
set_option maxRecDepth 100000 in
set_option maxHeartbeats 4000000 in
theorem c_m4_deriveMap {l : Launch} {B d : Nat} {g : xG} {N : Nat} {K : Nat → Nat × Nat} {F : Nat → Nat → Option Nat} {I : (Nat → Nat → Int32)} {J : (Nat → Nat → Int64)} {a0 : Nat} {a1 : Nat} {J' : (Nat → Nat → Int64)} (h : m4_deriveMap N K F I J a0 a1 = some J') : xC l g B (d + 1) 0 0 y4_deriveMap c4_deriveMap 3 none [.ref (B + a0), .ref (B + a1)] (xP g B N K I J F) (xq none (xP g B N K I J' F)) := by
  refine xC_of (by decide) (Nat.le_of_ble_eq_true rfl) (fun X hl hR hr _ hX => ?_)
  refine x_sub (L' := [(0, .ref (B + a0)), (1, .ref (B + a1))]) [0, 1] rfl ?_
  unfold m4_deriveMap at h
  refine x_iconst (v := 0) hX d4_deriveMap_0 (by decide) ?_
  refine x_istore_n hX [(2, .int (0 : Int32)), (0, .ref (B + a0)), (1, .ref (B + a1))] d4_deriveMap_1 rfl (by decide) rfl ?_
  refine x_sub [1, 2, 0] rfl ?_
  exact t_m4_deriveMap_L2 hX hR hr _ _ _ _ _ h

def m4_folded (N : Nat) (K : Nat → Nat × Nat) (F : Nat → Nat → Option Nat) (I : (Nat → Nat → Int32)) (J : (Nat → Nat → Int64)) (a0 : Nat) (a1 : Int32) (a2 : Int64) (a3 : Int32) (a4 : Int64) : Option (Int64) :=
  if a0 < N ∧ K a0 = (0, 4) then (if ((J a0 3).toInt32) = 0 then (some (a2 + (1 : Int64))) else (if ((J a0 3).toInt32) = 1 then (some (a2 + a4)) else (if ((J a0 3).toInt32) = 2 then (if a1 = 0 then (some (if a4 < a2 then a4 else a2)) else (some a4)) else (if ((J a0 3).toInt32) = 3 then (if a1 = 0 then (some (if a4 < a2 then a2 else a4)) else (some a4)) else (some (a3.toInt64)))))) else none
set_option maxRecDepth 100000 in
set_option maxHeartbeats 4000000 in
theorem c_m4_folded {l : Launch} {B d : Nat} {g : xG} {N : Nat} {K : Nat → Nat × Nat} {F : Nat → Nat → Option Nat} {I : (Nat → Nat → Int32)} {J : (Nat → Nat → Int64)} {a0 : Nat} {a1 : Int32} {a2 : Int64} {a3 : Int32} {a4 : Int64} {rv : Int64} (h : m4_folded N K F I J a0 a1 a2 a3 a4 = some rv) : xC l g B (d + 1) 0 0 y4_folded c4_folded 7 (some .long) [.ref (B + a0), .int a1, .long a2, .int a3, .long a4] (xP g B N K I J F) (xq (some (.long rv)) (xP g B N K I J F)) := by
  refine xC_of (by decide) (Nat.le_of_ble_eq_true rfl) (fun X hl hR hr _ hX => ?_)
  refine x_sub (L' := [(0, .ref (B + a0)), (1, .int a1), (2, .long a2), (4, .int a3), (5, .long a4)]) [0, 1, 2, 3, 4] rfl ?_
  unfold m4_folded at h
  refine x_aload_n hX d4_folded_0 rfl rfl ?_
  obtain ⟨hg1, h⟩ := x_gd h
  refine x_getJ (j := 3) hX xc4 hg1.1 hg1.2 (by decide) rfl kF4_21 d4_folded_1 ?_
  refine x_l2i hX d4_folded_4 ?_
  by_cases hs1000 : ((J a0 3).toInt32) = 0
  · rw [if_pos hs1000] at h
    refine x_tableIn (off := 31) (tgt := 36) hX d4_folded_5 (by rw [hs1000]; decide) (by rw [hs1000]; decide) (by rw [hs1000]; rfl) (by decide) ?_
    refine x_lload_n hX d4_folded_36 rfl rfl ?_
    refine x_lconst (v := 1) hX d4_folded_37 (by decide) ?_
    refine x_ladd hX d4_folded_38 ?_
    cases h
    exact x_lret hX hr d4_folded_39 (fun H hP => ⟨rfl, hP⟩)
  · rw [if_neg hs1000] at h
    by_cases hs1001 : ((J a0 3).toInt32) = 1
    · rw [if_pos hs1001] at h
      refine x_tableIn (off := 35) (tgt := 40) hX d4_folded_5 (by rw [hs1001]; decide) (by rw [hs1001]; decide) (by rw [hs1001]; rfl) (by decide) ?_
      refine x_lload_n hX d4_folded_40 rfl rfl ?_
      refine x_lload hX d4_folded_41 rfl ?_
      refine x_ladd hX d4_folded_43 ?_
      cases h
      exact x_lret hX hr d4_folded_44 (fun H hP => ⟨rfl, hP⟩)
    · rw [if_neg hs1001] at h
      by_cases hs1002 : ((J a0 3).toInt32) = 2
      · rw [if_pos hs1002] at h
        refine x_tableIn (off := 40) (tgt := 45) hX d4_folded_5 (by rw [hs1002]; decide) (by rw [hs1002]; decide) (by rw [hs1002]; rfl) (by decide) ?_
        refine x_iload_n hX d4_folded_45 rfl rfl ?_
        refine x_if_eq (tgt := 54) hX d4_folded_46 (by decide) (fun hc => ?_) (fun hc => ?_)
        · rw [if_pos hc] at h
          refine x_lload_n hX d4_folded_54 rfl rfl ?_
          refine x_lload hX d4_folded_55 rfl ?_
          refine x_mminJ hX hR kM4_90 kSMathminJ kIM kDMathminJ (Nat.le_of_ble_eq_true rfl) d4_folded_57 ?_
          cases h
          exact x_lret hX hr d4_folded_60 (fun H hP => ⟨rfl, hP⟩)
        · rw [if_neg hc] at h
          refine x_lload hX d4_folded_49 rfl ?_
          refine x_goto (tgt := 60) hX d4_folded_51 (by decide) ?_
          cases h
          exact x_lret hX hr d4_folded_60 (fun H hP => ⟨rfl, hP⟩)
      · rw [if_neg hs1002] at h
        by_cases hs1003 : ((J a0 3).toInt32) = 3
        · rw [if_pos hs1003] at h
          refine x_tableIn (off := 56) (tgt := 61) hX d4_folded_5 (by rw [hs1003]; decide) (by rw [hs1003]; decide) (by rw [hs1003]; rfl) (by decide) ?_
          refine x_iload_n hX d4_folded_61 rfl rfl ?_
          refine x_if_eq (tgt := 70) hX d4_folded_62 (by decide) (fun hc => ?_) (fun hc => ?_)
          · rw [if_pos hc] at h
            refine x_lload_n hX d4_folded_70 rfl rfl ?_
            refine x_lload hX d4_folded_71 rfl ?_
            refine x_mmaxJ hX hR kM4_96 kSMathmaxJ kIM kDMathmaxJ (Nat.le_of_ble_eq_true rfl) d4_folded_73 ?_
            cases h
            exact x_lret hX hr d4_folded_76 (fun H hP => ⟨rfl, hP⟩)
          · rw [if_neg hc] at h
            refine x_lload hX d4_folded_65 rfl ?_
            refine x_goto (tgt := 76) hX d4_folded_67 (by decide) ?_
            cases h
            exact x_lret hX hr d4_folded_76 (fun H hP => ⟨rfl, hP⟩)
        · rw [if_neg hs1003] at h
          refine x_tableOut (tgt := 77) hX d4_folded_5 (x_tout_0_3 hs1000 hs1001 hs1002 hs1003) (by decide) ?_
          refine x_iload hX d4_folded_77 rfl ?_
          refine x_i2l hX d4_folded_79 ?_
          cases h
          exact x_lret hX hr d4_folded_80 (fun H hP => ⟨rfl, hP⟩)

def m4_deriveFold_B62 (N : Nat) (K : Nat → Nat × Nat) (F : Nat → Nat → Option Nat) (I : (Nat → Nat → Int32)) (k4 : (Nat → Nat → Int64) → Nat → Nat → Int32 → Int32 → Option ((Nat → Nat → Int64))) (J : (Nat → Nat → Int64)) (v0 : Nat) (v1 : Nat) (v2 : Int32) (v3 : Int32) : Option ((Nat → Nat → Int64)) :=
  if v0 < N ∧ K v0 = (0, 4) then (if (J v0 4) ≤ ((v2 + (1 : Int32)).toInt64) then (xlet (v3 + (1 : Int32)) fun x2 => k4 J v0 v1 (0 : Int32) x2) else (xlet ((v2 + (1 : Int32))) fun x3 => xlet (v3 + (1 : Int32)) fun x4 => k4 J v0 v1 x3 x4)) else none
def m4_deriveFold_B40 (N : Nat) (K : Nat → Nat × Nat) (F : Nat → Nat → Option Nat) (I : (Nat → Nat → Int32)) (k4 : (Nat → Nat → Int64) → Nat → Nat → Int32 → Int32 → Option ((Nat → Nat → Int64))) (J : (Nat → Nat → Int64)) (v0 : Nat) (v1 : Nat) (v2 : Int32) (v3 : Int32) (w0 : Nat) (w1 : Int32) (w2 : Nat) (w3 : Int32) : Option ((Nat → Nat → Int64)) :=
  if v0 < N ∧ K v0 = (0, 4) then (xb (F v0 6) fun q2 => if q2 < N ∧ K q2 = (0, 3) then (xb (F q2 1) fun q4 => if q4 < N ∧ (K q4).1 = 2 ∧ xinb v2 (K q4).2 then (if v1 < N ∧ K v1 = (0, 3) then (xb (F v1 1) fun q7 => if q7 < N ∧ (K q7).1 = 2 ∧ xinb v3 (K q7).2 then (if w2 < N ∧ K w2 = (0, 4) then (xb (m4_folded N K F I J w2 w3 (J q4 (v2.toNatClampNeg)) v3 (J q7 (v3.toNatClampNeg))) fun x10 => if w0 < N ∧ K w0 = (0, 3) then (xb (m3_set N K F I J w0 w1 x10) fun J13 => m4_deriveFold_B62 N K F I k4 J13 v0 v1 v2 v3) else none) else none) else none) else none) else none) else none) else none
def m4_deriveFold_L4 (N : Nat) (K : Nat → Nat × Nat) (F : Nat → Nat → Option Nat) (I : (Nat → Nat → Int32)) : Nat → (Nat → Nat → Int64) → Nat → Nat → Int32 → Int32 → Option ((Nat → Nat → Int64))
  | 0, _, _, _, _, _ => none
  | n + 1, J, v0, v1, v2, v3 => if (64 : Int32) ≤ v3 then (some J) else (if v1 < N ∧ K v1 = (0, 3) then (xb (m3_holds N K F I J v1 v3) fun x2 => if x2 = 0 then (m4_deriveFold_B62 N K F I (m4_deriveFold_L4 N K F I n) J v0 v1 v2 v3) else (if v0 < N ∧ K v0 = (0, 4) then (xb (F v0 6) fun q5 => if q5 < N ∧ K q5 = (0, 3) then (xb (m3_holds N K F I J q5 v2) fun x7 => if ¬ x7 = 0 then (m4_deriveFold_B40 N K F I (m4_deriveFold_L4 N K F I n) J v0 v1 v2 v3 q5 v2 v0 (0 : Int32)) else (m4_deriveFold_B40 N K F I (m4_deriveFold_L4 N K F I n) J v0 v1 v2 v3 q5 v2 v0 (1 : Int32))) else none) else none)) else none)
def m4_deriveFold (N : Nat) (K : Nat → Nat × Nat) (F : Nat → Nat → Option Nat) (I : (Nat → Nat → Int32)) (J : (Nat → Nat → Int64)) (a0 : Nat) (a1 : Nat) : Option ((Nat → Nat → Int64)) :=
  m4_deriveFold_L4 N K F I xFu J a0 a1 (0 : Int32) (0 : Int32)
set_option maxRecDepth 100000 in
set_option maxHeartbeats 4000000 in
theorem t_m4_deriveFold_B62 {X : xX} {B d : Nat} {g : xG} {N : Nat} {K : Nat → Nat × Nat} {F : Nat → Nat → Option Nat} {I : (Nat → Nat → Int32)} {J' : (Nat → Nat → Int64)} {k4 : (Nat → Nat → Int64) → Nat → Nat → Int32 → Int32 → Option ((Nat → Nat → Int64))} (hX : xO X c4_deriveFold "ChangeRows$Table" 4 B g) (hR : x_R X = xrm (d + 2) 0 0) (hr : (x_meth X).sig.returnType = none) (hk4 : ∀ (J : (Nat → Nat → Int64)) (v0 : Nat) (v1 : Nat) (v2 : Int32) (v3 : Int32), k4 J v0 v1 v2 v3 = some J' → xV X B 4 (xZ X B 0 0 (xq none (xP g B N K I J' F))) 0 0 (xP g B N K I J F) 4 [(0, .ref (B + v0)), (1, .ref (B + v1)), (2, .int v2), (3, .int v3)] []) (J : (Nat → Nat → Int64)) (v0 : Nat) (v1 : Nat) (v2 : Int32) (v3 : Int32) (h : m4_deriveFold_B62 N K F I k4 J v0 v1 v2 v3 = some J') : xV X B 4 (xZ X B 0 0 (xq none (xP g B N K I J' F))) 0 0 (xP g B N K I J F) 62 [(0, .ref (B + v0)), (1, .ref (B + v1)), (2, .int v2), (3, .int v3)] [] := by
  unfold m4_deriveFold_B62 at h
  refine x_iload_n hX d4_deriveFold_62 rfl rfl ?_
  refine x_iconst (v := 1) hX d4_deriveFold_63 (by decide) ?_
  refine x_iadd hX d4_deriveFold_64 ?_
  refine x_i2l hX d4_deriveFold_65 ?_
  refine x_aload_n hX d4_deriveFold_66 rfl rfl ?_
  obtain ⟨hg1, h⟩ := x_gd h
  refine x_getJ (j := 4) hX xc4 hg1.1 hg1.2 (by decide) rfl kF4_25 d4_deriveFold_67 ?_
  refine x_lif_ge (tgt := 80) hX d4_deriveFold_70 d4_deriveFold_71 (by decide) (fun hc => ?_) (fun hc => ?_)
  · rw [if_pos hc] at h
    refine x_iconst (v := 0) hX d4_deriveFold_80 (by decide) ?_
    refine x_istore_n hX [(2, .int (0 : Int32)), (0, .ref (B + v0)), (1, .ref (B + v1)), (3, .int v3)] d4_deriveFold_81 rfl (by decide) rfl ?_
    obtain ⟨x2, ex2, h⟩ := x_le h
    refine x_iinc (j := 3) hX [(3, .int x2), (2, .int (0 : Int32)), (0, .ref (B + v0)), (1, .ref (B + v1))] d4_deriveFold_82 rfl (by rw [ex2]; rfl) (by decide) rfl ?_
    refine x_goto (tgt := 4) hX d4_deriveFold_85 (by decide) ?_
    refine x_sub [2, 3, 1, 0] rfl ?_
    exact hk4 _ _ _ _ _ h
  · rw [if_neg hc] at h
    refine x_iload_n hX d4_deriveFold_74 rfl rfl ?_
    refine x_iconst (v := 1) hX d4_deriveFold_75 (by decide) ?_
    refine x_iadd hX d4_deriveFold_76 ?_
    refine x_goto (tgt := 81) hX d4_deriveFold_77 (by decide) ?_
    obtain ⟨x3, ex3, h⟩ := x_le h
    refine x_eqi ex3.symm ?_
    refine x_istore_n hX [(2, .int x3), (0, .ref (B + v0)), (1, .ref (B + v1)), (3, .int v3)] d4_deriveFold_81 rfl (by decide) rfl ?_
    obtain ⟨x4, ex4, h⟩ := x_le h
    refine x_iinc (j := 3) hX [(3, .int x4), (2, .int x3), (0, .ref (B + v0)), (1, .ref (B + v1))] d4_deriveFold_82 rfl (by rw [ex4]; rfl) (by decide) rfl ?_
    refine x_goto (tgt := 4) hX d4_deriveFold_85 (by decide) ?_
    refine x_sub [2, 3, 1, 0] rfl ?_
    exact hk4 _ _ _ _ _ h
set_option maxRecDepth 100000 in
set_option maxHeartbeats 4000000 in
theorem t_m4_deriveFold_B40 {X : xX} {B d : Nat} {g : xG} {N : Nat} {K : Nat → Nat × Nat} {F : Nat → Nat → Option Nat} {I : (Nat → Nat → Int32)} {J' : (Nat → Nat → Int64)} {k4 : (Nat → Nat → Int64) → Nat → Nat → Int32 → Int32 → Option ((Nat → Nat → Int64))} (hX : xO X c4_deriveFold "ChangeRows$Table" 4 B g) (hR : x_R X = xrm (d + 2) 0 0) (hr : (x_meth X).sig.returnType = none) (hk4 : ∀ (J : (Nat → Nat → Int64)) (v0 : Nat) (v1 : Nat) (v2 : Int32) (v3 : Int32), k4 J v0 v1 v2 v3 = some J' → xV X B 4 (xZ X B 0 0 (xq none (xP g B N K I J' F))) 0 0 (xP g B N K I J F) 4 [(0, .ref (B + v0)), (1, .ref (B + v1)), (2, .int v2), (3, .int v3)] []) (J : (Nat → Nat → Int64)) (v0 : Nat) (v1 : Nat) (v2 : Int32) (v3 : Int32) (w0 : Nat) (w1 : Int32) (w2 : Nat) (w3 : Int32) (h : m4_deriveFold_B40 N K F I k4 J v0 v1 v2 v3 w0 w1 w2 w3 = some J') : xV X B 4 (xZ X B 0 0 (xq none (xP g B N K I J' F))) 0 0 (xP g B N K I J F) 40 [(0, .ref (B + v0)), (1, .ref (B + v1)), (2, .int v2), (3, .int v3)] [.int w3, .ref (B + w2), .int w1, .ref (B + w0)] := by
  unfold m4_deriveFold_B40 at h
  refine x_aload_n hX d4_deriveFold_40 rfl rfl ?_
  obtain ⟨hg1, h⟩ := x_gd h
  obtain ⟨q2, eq2, h⟩ := x_bd h
  refine x_getF (j := 6) hX xc4 hg1.1 hg1.2 (by decide) rfl eq2 kF4_35 d4_deriveFold_41 ?_
  obtain ⟨hg3, h⟩ := x_gd h
  obtain ⟨q4, eq4, h⟩ := x_bd h
  refine x_getF (j := 1) hX xc3 hg3.1 hg3.2 (by decide) rfl eq4 kF4_74 d4_deriveFold_44 ?_
  refine x_iload_n hX d4_deriveFold_47 rfl rfl ?_
  obtain ⟨hg5, h⟩ := x_gd h
  refine x_lald hX hg5.1 (x_kd hg5.2.1) (x_in hg5.2.2) d4_deriveFold_48 ?_
  refine x_iload_n hX d4_deriveFold_49 rfl rfl ?_
  refine x_aload_n hX d4_deriveFold_50 rfl rfl ?_
  obtain ⟨hg6, h⟩ := x_gd h
  obtain ⟨q7, eq7, h⟩ := x_bd h
  refine x_getF (j := 1) hX xc3 hg6.1 hg6.2 (by decide) rfl eq7 kF4_74 d4_deriveFold_51 ?_
  refine x_iload_n hX d4_deriveFold_54 rfl rfl ?_
  obtain ⟨hg8, h⟩ := x_gd h
  refine x_lald hX hg8.1 (x_kd hg8.2.1) (x_in hg8.2.2) d4_deriveFold_55 ?_
  obtain ⟨hg9, h⟩ := x_gd h
  obtain ⟨x10, eb11, h⟩ := x_bd h
  refine x_callV hX hR (c_m4_folded (l := x_l X) (d := d + 0) eb11) kX4_86 kN4_folded kE4_folded xc4.1 hg9.1 hg9.2 rfl rfl (Nat.le_of_ble_eq_true rfl) ⟨Nat.le_refl 0, Nat.le_refl 0⟩ d4_deriveFold_56 (x_kkl ?_)
  obtain ⟨hg12, h⟩ := x_gd h
  obtain ⟨J13, eb14, h⟩ := x_bd h
  refine x_callV hX hR (c_m3_set (l := x_l X) (d := d + 1) eb14) kX4_82 kN3_set kE3_set xc3.1 hg12.1 hg12.2 rfl rfl (Nat.le_of_ble_eq_true rfl) ⟨Nat.le_refl 0, Nat.le_refl 0⟩ d4_deriveFold_59 (x_kkv ?_)
  exact t_m4_deriveFold_B62 hX hR hr hk4 _ _ _ _ _ h
set_option maxRecDepth 100000 in
set_option maxHeartbeats 4000000 in
theorem t_m4_deriveFold_L4 {X : xX} {B d : Nat} {g : xG} {N : Nat} {K : Nat → Nat × Nat} {F : Nat → Nat → Option Nat} {I : (Nat → Nat → Int32)} {J' : (Nat → Nat → Int64)} (hX : xO X c4_deriveFold "ChangeRows$Table" 4 B g) (hR : x_R X = xrm (d + 2) 0 0) (hr : (x_meth X).sig.returnType = none) : ∀ (n : Nat) (J : (Nat → Nat → Int64)) (v0 : Nat) (v1 : Nat) (v2 : Int32) (v3 : Int32), m4_deriveFold_L4 N K F I n J v0 v1 v2 v3 = some J' → xV X B 4 (xZ X B 0 0 (xq none (xP g B N K I J' F))) 0 0 (xP g B N K I J F) 4 [(0, .ref (B + v0)), (1, .ref (B + v1)), (2, .int v2), (3, .int v3)] [] := by
  intro n
  induction n with
  | zero =>
    intro J v0 v1 v2 v3 h
    cases h
  | succ n ih =>
    intro J v0 v1 v2 v3 h
    rw [m4_deriveFold_L4] at h
    refine x_iload_n hX d4_deriveFold_4 rfl rfl ?_
    refine x_bipush (v := 64) hX d4_deriveFold_5 (by decide) ?_
    refine x_icmp_ge (tgt := 88) hX d4_deriveFold_7 (by decide) (fun hc => ?_) (fun hc => ?_)
    · rw [if_pos hc] at h
      cases h
      exact x_vret hX hr d4_deriveFold_88 (fun H hP => ⟨rfl, hP⟩)
    · rw [if_neg hc] at h
      refine x_aload_n hX d4_deriveFold_10 rfl rfl ?_
      refine x_iload_n hX d4_deriveFold_11 rfl rfl ?_
      obtain ⟨hg1, h⟩ := x_gd h
      obtain ⟨x2, eb3, h⟩ := x_bd h
      refine x_callV hX hR (c_m3_holds (l := x_l X) (d := d + 1) eb3) kX4_78 kN3_holds kE3_holds xc3.1 hg1.1 hg1.2 rfl rfl (Nat.le_of_ble_eq_true rfl) ⟨Nat.le_refl 0, Nat.le_refl 0⟩ d4_deriveFold_12 (x_kki ?_)
      refine x_if_eq (tgt := 62) hX d4_deriveFold_15 (by decide) (fun hc => ?_) (fun hc => ?_)
      · rw [if_pos hc] at h
        exact t_m4_deriveFold_B62 hX hR hr ih _ _ _ _ _ h
      · rw [if_neg hc] at h
        refine x_aload_n hX d4_deriveFold_18 rfl rfl ?_
        obtain ⟨hg4, h⟩ := x_gd h
        obtain ⟨q5, eq5, h⟩ := x_bd h
        refine x_getF (j := 6) hX xc4 hg4.1 hg4.2 (by decide) rfl eq5 kF4_35 d4_deriveFold_19 ?_
        refine x_iload_n hX d4_deriveFold_22 rfl rfl ?_
        refine x_aload_n hX d4_deriveFold_23 rfl rfl ?_
        refine x_aload_n hX d4_deriveFold_24 rfl rfl ?_
        refine x_getF (j := 6) hX xc4 hg4.1 hg4.2 (by decide) rfl eq5 kF4_35 d4_deriveFold_25 ?_
        refine x_iload_n hX d4_deriveFold_28 rfl rfl ?_
        obtain ⟨hg6, h⟩ := x_gd h
        obtain ⟨x7, eb8, h⟩ := x_bd h
        refine x_callV hX hR (c_m3_holds (l := x_l X) (d := d + 1) eb8) kX4_78 kN3_holds kE3_holds xc3.1 hg6.1 hg6.2 rfl rfl (Nat.le_of_ble_eq_true rfl) ⟨Nat.le_refl 0, Nat.le_refl 0⟩ d4_deriveFold_29 (x_kki ?_)
        refine x_if_ne (tgt := 39) hX d4_deriveFold_32 (by decide) (fun hc => ?_) (fun hc => ?_)
        · rw [if_pos hc] at h
          refine x_iconst (v := 0) hX d4_deriveFold_39 (by decide) ?_
          exact t_m4_deriveFold_B40 hX hR hr ih _ _ _ _ _ _ _ _ _ h
        · rw [if_neg (x_nn hc)] at h
          refine x_iconst (v := 1) hX d4_deriveFold_35 (by decide) ?_
          refine x_goto (tgt := 40) hX d4_deriveFold_36 (by decide) ?_
          exact t_m4_deriveFold_B40 hX hR hr ih _ _ _ _ _ _ _ _ _ h
set_option maxRecDepth 100000 in
set_option maxHeartbeats 4000000 in
theorem c_m4_deriveFold {l : Launch} {B d : Nat} {g : xG} {N : Nat} {K : Nat → Nat × Nat} {F : Nat → Nat → Option Nat} {I : (Nat → Nat → Int32)} {J : (Nat → Nat → Int64)} {a0 : Nat} {a1 : Nat} {J' : (Nat → Nat → Int64)} (h : m4_deriveFold N K F I J a0 a1 = some J') : xC l g B (d + 2) 0 0 y4_deriveFold c4_deriveFold 4 none [.ref (B + a0), .ref (B + a1)] (xP g B N K I J F) (xq none (xP g B N K I J' F)) := by
  refine xC_of (by decide) (Nat.le_of_ble_eq_true rfl) (fun X hl hR hr _ hX => ?_)
  refine x_sub (L' := [(0, .ref (B + a0)), (1, .ref (B + a1))]) [0, 1] rfl ?_
  unfold m4_deriveFold at h
  refine x_iconst (v := 0) hX d4_deriveFold_0 (by decide) ?_
  refine x_istore_n hX [(2, .int (0 : Int32)), (0, .ref (B + a0)), (1, .ref (B + a1))] d4_deriveFold_1 rfl (by decide) rfl ?_
  refine x_iconst (v := 0) hX d4_deriveFold_2 (by decide) ?_
  refine x_istore_n hX [(3, .int (0 : Int32)), (2, .int (0 : Int32)), (0, .ref (B + a0)), (1, .ref (B + a1))] d4_deriveFold_3 rfl (by decide) rfl ?_
  refine x_sub [2, 3, 1, 0] rfl ?_
  exact t_m4_deriveFold_L4 hX hR hr _ _ _ _ _ _ h

def m4_deriveJoin_B33 (N : Nat) (K : Nat → Nat × Nat) (F : Nat → Nat → Option Nat) (I : (Nat → Nat → Int32)) (k2 : (Nat → Nat → Int64) → Nat → Nat → Nat → Int32 → Option ((Nat → Nat → Int64))) (J : (Nat → Nat → Int64)) (v0 : Nat) (v1 : Nat) (v2 : Nat) (v3 : Int32) : Option ((Nat → Nat → Int64)) :=
  if v0 < N ∧ K v0 = (0, 4) then (xb (F v0 6) fun q2 => if v1 < N ∧ K v1 = (0, 3) then (xb (F v1 1) fun q4 => if q4 < N ∧ (K q4).1 = 2 ∧ xinb v3 (K q4).2 then (if v2 < N ∧ K v2 = (0, 3) then (xb (F v2 1) fun q7 => if q7 < N ∧ (K q7).1 = 2 ∧ xinb v3 (K q7).2 then (if q2 < N ∧ K q2 = (0, 3) then (xb (m3_set N K F I J q2 v3 ((J q4 (v3.toNatClampNeg)) + (J q7 (v3.toNatClampNeg)))) fun J10 => xlet (v3 + (1 : Int32)) fun x12 => k2 J10 v0 v1 v2 x12) else none) else none) else none) else none) else none) else none
def m4_deriveJoin_L2 (N : Nat) (K : Nat → Nat × Nat) (F : Nat → Nat → Option Nat) (I : (Nat → Nat → Int32)) : Nat → (Nat → Nat → Int64) → Nat → Nat → Nat → Int32 → Option ((Nat → Nat → Int64))
  | 0, _, _, _, _, _ => none
  | n + 1, J, v0, v1, v2, v3 => if (64 : Int32) ≤ v3 then (some J) else (if v1 < N ∧ K v1 = (0, 3) then (xb (m3_holds N K F I J v1 v3) fun x2 => if x2 = 0 then (xlet (v3 + (1 : Int32)) fun x4 => m4_deriveJoin_L2 N K F I n J v0 v1 v2 x4) else (if v2 < N ∧ K v2 = (0, 3) then (xb (m3_holds N K F I J v2 v3) fun x6 => if ¬ x6 = 0 then (m4_deriveJoin_B33 N K F I (m4_deriveJoin_L2 N K F I n) J v0 v1 v2 v3) else (if v0 < N ∧ K v0 = (0, 4) then (if ¬ (J v0 3) = (1 : Int64) then (xlet (v3 + (1 : Int32)) fun x9 => m4_deriveJoin_L2 N K F I n J v0 v1 v2 x9) else (m4_deriveJoin_B33 N K F I (m4_deriveJoin_L2 N K F I n) J v0 v1 v2 v3)) else none)) else none)) else none)
def m4_deriveJoin (N : Nat) (K : Nat → Nat × Nat) (F : Nat → Nat → Option Nat) (I : (Nat → Nat → Int32)) (J : (Nat → Nat → Int64)) (a0 : Nat) (a1 : Nat) (a2 : Nat) : Option ((Nat → Nat → Int64)) :=
  m4_deriveJoin_L2 N K F I xFu J a0 a1 a2 (0 : Int32)
set_option maxRecDepth 100000 in
set_option maxHeartbeats 4000000 in
theorem t_m4_deriveJoin_B33 {X : xX} {B d : Nat} {g : xG} {N : Nat} {K : Nat → Nat × Nat} {F : Nat → Nat → Option Nat} {I : (Nat → Nat → Int32)} {J' : (Nat → Nat → Int64)} {k2 : (Nat → Nat → Int64) → Nat → Nat → Nat → Int32 → Option ((Nat → Nat → Int64))} (hX : xO X c4_deriveJoin "ChangeRows$Table" 4 B g) (hR : x_R X = xrm (d + 1) 0 0) (hr : (x_meth X).sig.returnType = none) (hk2 : ∀ (J : (Nat → Nat → Int64)) (v0 : Nat) (v1 : Nat) (v2 : Nat) (v3 : Int32), k2 J v0 v1 v2 v3 = some J' → xV X B 4 (xZ X B 0 0 (xq none (xP g B N K I J' F))) 0 0 (xP g B N K I J F) 2 [(0, .ref (B + v0)), (1, .ref (B + v1)), (2, .ref (B + v2)), (3, .int v3)] []) (J : (Nat → Nat → Int64)) (v0 : Nat) (v1 : Nat) (v2 : Nat) (v3 : Int32) (h : m4_deriveJoin_B33 N K F I k2 J v0 v1 v2 v3 = some J') : xV X B 4 (xZ X B 0 0 (xq none (xP g B N K I J' F))) 0 0 (xP g B N K I J F) 33 [(0, .ref (B + v0)), (1, .ref (B + v1)), (2, .ref (B + v2)), (3, .int v3)] [] := by
  unfold m4_deriveJoin_B33 at h
  refine x_aload_n hX d4_deriveJoin_33 rfl rfl ?_
  obtain ⟨hg1, h⟩ := x_gd h
  obtain ⟨q2, eq2, h⟩ := x_bd h
  refine x_getF (j := 6) hX xc4 hg1.1 hg1.2 (by decide) rfl eq2 kF4_35 d4_deriveJoin_34 ?_
  refine x_iload_n hX d4_deriveJoin_37 rfl rfl ?_
  refine x_aload_n hX d4_deriveJoin_38 rfl rfl ?_
  obtain ⟨hg3, h⟩ := x_gd h
  obtain ⟨q4, eq4, h⟩ := x_bd h
  refine x_getF (j := 1) hX xc3 hg3.1 hg3.2 (by decide) rfl eq4 kF4_74 d4_deriveJoin_39 ?_
  refine x_iload_n hX d4_deriveJoin_42 rfl rfl ?_
  obtain ⟨hg5, h⟩ := x_gd h
  refine x_lald hX hg5.1 (x_kd hg5.2.1) (x_in hg5.2.2) d4_deriveJoin_43 ?_
  refine x_aload_n hX d4_deriveJoin_44 rfl rfl ?_
  obtain ⟨hg6, h⟩ := x_gd h
  obtain ⟨q7, eq7, h⟩ := x_bd h
  refine x_getF (j := 1) hX xc3 hg6.1 hg6.2 (by decide) rfl eq7 kF4_74 d4_deriveJoin_45 ?_
  refine x_iload_n hX d4_deriveJoin_48 rfl rfl ?_
  obtain ⟨hg8, h⟩ := x_gd h
  refine x_lald hX hg8.1 (x_kd hg8.2.1) (x_in hg8.2.2) d4_deriveJoin_49 ?_
  refine x_ladd hX d4_deriveJoin_50 ?_
  obtain ⟨hg9, h⟩ := x_gd h
  obtain ⟨J10, eb11, h⟩ := x_bd h
  refine x_callV hX hR (c_m3_set (l := x_l X) (d := d + 0) eb11) kX4_82 kN3_set kE3_set xc3.1 hg9.1 hg9.2 rfl rfl (Nat.le_of_ble_eq_true rfl) ⟨Nat.le_refl 0, Nat.le_refl 0⟩ d4_deriveJoin_51 (x_kkv ?_)
  obtain ⟨x12, ex12, h⟩ := x_le h
  refine x_iinc (j := 3) hX [(3, .int x12), (0, .ref (B + v0)), (1, .ref (B + v1)), (2, .ref (B + v2))] d4_deriveJoin_54 rfl (by rw [ex12]; rfl) (by decide) rfl ?_
  refine x_goto (tgt := 2) hX d4_deriveJoin_57 (by decide) ?_
  refine x_sub [1, 2, 3, 0] rfl ?_
  exact hk2 _ _ _ _ _ h
set_option maxRecDepth 100000 in
set_option maxHeartbeats 4000000 in
theorem t_m4_deriveJoin_L2 {X : xX} {B d : Nat} {g : xG} {N : Nat} {K : Nat → Nat × Nat} {F : Nat → Nat → Option Nat} {I : (Nat → Nat → Int32)} {J' : (Nat → Nat → Int64)} (hX : xO X c4_deriveJoin "ChangeRows$Table" 4 B g) (hR : x_R X = xrm (d + 1) 0 0) (hr : (x_meth X).sig.returnType = none) : ∀ (n : Nat) (J : (Nat → Nat → Int64)) (v0 : Nat) (v1 : Nat) (v2 : Nat) (v3 : Int32), m4_deriveJoin_L2 N K F I n J v0 v1 v2 v3 = some J' → xV X B 4 (xZ X B 0 0 (xq none (xP g B N K I J' F))) 0 0 (xP g B N K I J F) 2 [(0, .ref (B + v0)), (1, .ref (B + v1)), (2, .ref (B + v2)), (3, .int v3)] [] := by
  intro n
  induction n with
  | zero =>
    intro J v0 v1 v2 v3 h
    cases h
  | succ n ih =>
    intro J v0 v1 v2 v3 h
    rw [m4_deriveJoin_L2] at h
    refine x_iload_n hX d4_deriveJoin_2 rfl rfl ?_
    refine x_bipush (v := 64) hX d4_deriveJoin_3 (by decide) ?_
    refine x_icmp_ge (tgt := 60) hX d4_deriveJoin_5 (by decide) (fun hc => ?_) (fun hc => ?_)
    · rw [if_pos hc] at h
      cases h
      exact x_vret hX hr d4_deriveJoin_60 (fun H hP => ⟨rfl, hP⟩)
    · rw [if_neg hc] at h
      refine x_aload_n hX d4_deriveJoin_8 rfl rfl ?_
      refine x_iload_n hX d4_deriveJoin_9 rfl rfl ?_
      obtain ⟨hg1, h⟩ := x_gd h
      obtain ⟨x2, eb3, h⟩ := x_bd h
      refine x_callV hX hR (c_m3_holds (l := x_l X) (d := d + 0) eb3) kX4_78 kN3_holds kE3_holds xc3.1 hg1.1 hg1.2 rfl rfl (Nat.le_of_ble_eq_true rfl) ⟨Nat.le_refl 0, Nat.le_refl 0⟩ d4_deriveJoin_10 (x_kki ?_)
      refine x_if_eq (tgt := 54) hX d4_deriveJoin_13 (by decide) (fun hc => ?_) (fun hc => ?_)
      · rw [if_pos hc] at h
        obtain ⟨x4, ex4, h⟩ := x_le h
        refine x_iinc (j := 3) hX [(3, .int x4), (0, .ref (B + v0)), (1, .ref (B + v1)), (2, .ref (B + v2))] d4_deriveJoin_54 rfl (by rw [ex4]; rfl) (by decide) rfl ?_
        refine x_goto (tgt := 2) hX d4_deriveJoin_57 (by decide) ?_
        refine x_sub [1, 2, 3, 0] rfl ?_
        exact ih _ _ _ _ _ h
      · rw [if_neg hc] at h
        refine x_aload_n hX d4_deriveJoin_16 rfl rfl ?_
        refine x_iload_n hX d4_deriveJoin_17 rfl rfl ?_
        obtain ⟨hg5, h⟩ := x_gd h
        obtain ⟨x6, eb7, h⟩ := x_bd h
        refine x_callV hX hR (c_m3_holds (l := x_l X) (d := d + 0) eb7) kX4_78 kN3_holds kE3_holds xc3.1 hg5.1 hg5.2 rfl rfl (Nat.le_of_ble_eq_true rfl) ⟨Nat.le_refl 0, Nat.le_refl 0⟩ d4_deriveJoin_18 (x_kki ?_)
        refine x_if_ne (tgt := 33) hX d4_deriveJoin_21 (by decide) (fun hc => ?_) (fun hc => ?_)
        · rw [if_pos hc] at h
          exact t_m4_deriveJoin_B33 hX hR hr ih _ _ _ _ _ h
        · rw [if_neg (x_nn hc)] at h
          refine x_aload_n hX d4_deriveJoin_24 rfl rfl ?_
          obtain ⟨hg8, h⟩ := x_gd h
          refine x_getJ (j := 3) hX xc4 hg8.1 hg8.2 (by decide) rfl kF4_21 d4_deriveJoin_25 ?_
          refine x_lconst (v := 1) hX d4_deriveJoin_28 (by decide) ?_
          refine x_lif_ne (tgt := 54) hX d4_deriveJoin_29 d4_deriveJoin_30 (by decide) (fun hc => ?_) (fun hc => ?_)
          · rw [if_pos hc] at h
            obtain ⟨x9, ex9, h⟩ := x_le h
            refine x_iinc (j := 3) hX [(3, .int x9), (0, .ref (B + v0)), (1, .ref (B + v1)), (2, .ref (B + v2))] d4_deriveJoin_54 rfl (by rw [ex9]; rfl) (by decide) rfl ?_
            refine x_goto (tgt := 2) hX d4_deriveJoin_57 (by decide) ?_
            refine x_sub [1, 2, 3, 0] rfl ?_
            exact ih _ _ _ _ _ h
          · rw [if_neg (x_nn hc)] at h
            exact t_m4_deriveJoin_B33 hX hR hr ih _ _ _ _ _ h
set_option maxRecDepth 100000 in
set_option maxHeartbeats 4000000 in
theorem c_m4_deriveJoin {l : Launch} {B d : Nat} {g : xG} {N : Nat} {K : Nat → Nat × Nat} {F : Nat → Nat → Option Nat} {I : (Nat → Nat → Int32)} {J : (Nat → Nat → Int64)} {a0 : Nat} {a1 : Nat} {a2 : Nat} {J' : (Nat → Nat → Int64)} (h : m4_deriveJoin N K F I J a0 a1 a2 = some J') : xC l g B (d + 1) 0 0 y4_deriveJoin c4_deriveJoin 4 none [.ref (B + a0), .ref (B + a1), .ref (B + a2)] (xP g B N K I J F) (xq none (xP g B N K I J' F)) := by
  refine xC_of (by decide) (Nat.le_of_ble_eq_true rfl) (fun X hl hR hr _ hX => ?_)
  refine x_sub (L' := [(0, .ref (B + a0)), (1, .ref (B + a1)), (2, .ref (B + a2))]) [0, 1, 2] rfl ?_
  unfold m4_deriveJoin at h
  refine x_iconst (v := 0) hX d4_deriveJoin_0 (by decide) ?_
  refine x_istore_n hX [(3, .int (0 : Int32)), (0, .ref (B + a0)), (1, .ref (B + a1)), (2, .ref (B + a2))] d4_deriveJoin_1 rfl (by decide) rfl ?_
  refine x_sub [1, 2, 3, 0] rfl ?_
  exact t_m4_deriveJoin_L2 hX hR hr _ _ _ _ _ _ h

def m4_deriveMerge_L2 (N : Nat) (K : Nat → Nat × Nat) (F : Nat → Nat → Option Nat) (I : (Nat → Nat → Int32)) : Nat → (Nat → Nat → Int64) → Nat → Nat → Nat → Int32 → Option ((Nat → Nat → Int64))
  | 0, _, _, _, _, _ => none
  | n + 1, J, v0, v1, v2, v3 => if (64 : Int32) ≤ v3 then (some J) else (if v1 < N ∧ K v1 = (0, 3) then (xb (m3_holds N K F I J v1 v3) fun x2 => if x2 = 0 then (if v2 < N ∧ K v2 = (0, 3) then (xb (m3_holds N K F I J v2 v3) fun x5 => if x5 = 0 then (xlet (v3 + (1 : Int32)) fun x7 => m4_deriveMerge_L2 N K F I n J v0 v1 v2 x7) else (if v0 < N ∧ K v0 = (0, 4) then (xb (F v0 6) fun q9 => xb (F v2 1) fun q10 => if q10 < N ∧ (K q10).1 = 2 ∧ xinb v3 (K q10).2 then (if q9 < N ∧ K q9 = (0, 3) then (xb (m3_set N K F I J q9 v3 (J q10 (v3.toNatClampNeg))) fun J13 => xlet (v3 + (1 : Int32)) fun x15 => m4_deriveMerge_L2 N K F I n J13 v0 v1 v2 x15) else none) else none) else none)) else none) else (if v0 < N ∧ K v0 = (0, 4) then (xb (F v0 6) fun q17 => xb (F v1 1) fun q18 => if q18 < N ∧ (K q18).1 = 2 ∧ xinb v3 (K q18).2 then (if q17 < N ∧ K q17 = (0, 3) then (xb (m3_set N K F I J q17 v3 (J q18 (v3.toNatClampNeg))) fun J21 => xlet (v3 + (1 : Int32)) fun x23 => m4_deriveMerge_L2 N K F I n J21 v0 v1 v2 x23) else none) else none) else none)) else none)
def m4_deriveMerge (N : Nat) (K : Nat → Nat × Nat) (F : Nat → Nat → Option Nat) (I : (Nat → Nat → Int32)) (J : (Nat → Nat → Int64)) (a0 : Nat) (a1 : Nat) (a2 : Nat) : Option ((Nat → Nat → Int64)) :=
  m4_deriveMerge_L2 N K F I xFu J a0 a1 a2 (0 : Int32)
set_option maxRecDepth 100000 in
set_option maxHeartbeats 4000000 in
theorem t_m4_deriveMerge_L2 {X : xX} {B d : Nat} {g : xG} {N : Nat} {K : Nat → Nat × Nat} {F : Nat → Nat → Option Nat} {I : (Nat → Nat → Int32)} {J' : (Nat → Nat → Int64)} (hX : xO X c4_deriveMerge "ChangeRows$Table" 4 B g) (hR : x_R X = xrm (d + 1) 0 0) (hr : (x_meth X).sig.returnType = none) : ∀ (n : Nat) (J : (Nat → Nat → Int64)) (v0 : Nat) (v1 : Nat) (v2 : Nat) (v3 : Int32), m4_deriveMerge_L2 N K F I n J v0 v1 v2 v3 = some J' → xV X B 4 (xZ X B 0 0 (xq none (xP g B N K I J' F))) 0 0 (xP g B N K I J F) 2 [(0, .ref (B + v0)), (1, .ref (B + v1)), (2, .ref (B + v2)), (3, .int v3)] [] := by
  intro n
  induction n with
  | zero =>
    intro J v0 v1 v2 v3 h
    cases h
  | succ n ih =>
    intro J v0 v1 v2 v3 h
    rw [m4_deriveMerge_L2] at h
    refine x_iload_n hX d4_deriveMerge_2 rfl rfl ?_
    refine x_bipush (v := 64) hX d4_deriveMerge_3 (by decide) ?_
    refine x_icmp_ge (tgt := 61) hX d4_deriveMerge_5 (by decide) (fun hc => ?_) (fun hc => ?_)
    · rw [if_pos hc] at h
      cases h
      exact x_vret hX hr d4_deriveMerge_61 (fun H hP => ⟨rfl, hP⟩)
    · rw [if_neg hc] at h
      refine x_aload_n hX d4_deriveMerge_8 rfl rfl ?_
      refine x_iload_n hX d4_deriveMerge_9 rfl rfl ?_
      obtain ⟨hg1, h⟩ := x_gd h
      obtain ⟨x2, eb3, h⟩ := x_bd h
      refine x_callV hX hR (c_m3_holds (l := x_l X) (d := d + 0) eb3) kX4_78 kN3_holds kE3_holds xc3.1 hg1.1 hg1.2 rfl rfl (Nat.le_of_ble_eq_true rfl) ⟨Nat.le_refl 0, Nat.le_refl 0⟩ d4_deriveMerge_10 (x_kki ?_)
      refine x_if_eq (tgt := 33) hX d4_deriveMerge_13 (by decide) (fun hc => ?_) (fun hc => ?_)
      · rw [if_pos hc] at h
        refine x_aload_n hX d4_deriveMerge_33 rfl rfl ?_
        refine x_iload_n hX d4_deriveMerge_34 rfl rfl ?_
        obtain ⟨hg4, h⟩ := x_gd h
        obtain ⟨x5, eb6, h⟩ := x_bd h
        refine x_callV hX hR (c_m3_holds (l := x_l X) (d := d + 0) eb6) kX4_78 kN3_holds kE3_holds xc3.1 hg4.1 hg4.2 rfl rfl (Nat.le_of_ble_eq_true rfl) ⟨Nat.le_refl 0, Nat.le_refl 0⟩ d4_deriveMerge_35 (x_kki ?_)
        refine x_if_eq (tgt := 55) hX d4_deriveMerge_38 (by decide) (fun hc => ?_) (fun hc => ?_)
        · rw [if_pos hc] at h
          obtain ⟨x7, ex7, h⟩ := x_le h
          refine x_iinc (j := 3) hX [(3, .int x7), (0, .ref (B + v0)), (1, .ref (B + v1)), (2, .ref (B + v2))] d4_deriveMerge_55 rfl (by rw [ex7]; rfl) (by decide) rfl ?_
          refine x_goto (tgt := 2) hX d4_deriveMerge_58 (by decide) ?_
          refine x_sub [1, 2, 3, 0] rfl ?_
          exact ih _ _ _ _ _ h
        · rw [if_neg hc] at h
          refine x_aload_n hX d4_deriveMerge_41 rfl rfl ?_
          obtain ⟨hg8, h⟩ := x_gd h
          obtain ⟨q9, eq9, h⟩ := x_bd h
          refine x_getF (j := 6) hX xc4 hg8.1 hg8.2 (by decide) rfl eq9 kF4_35 d4_deriveMerge_42 ?_
          refine x_iload_n hX d4_deriveMerge_45 rfl rfl ?_
          refine x_aload_n hX d4_deriveMerge_46 rfl rfl ?_
          obtain ⟨q10, eq10, h⟩ := x_bd h
          refine x_getF (j := 1) hX xc3 hg4.1 hg4.2 (by decide) rfl eq10 kF4_74 d4_deriveMerge_47 ?_
          refine x_iload_n hX d4_deriveMerge_50 rfl rfl ?_
          obtain ⟨hg11, h⟩ := x_gd h
          refine x_lald hX hg11.1 (x_kd hg11.2.1) (x_in hg11.2.2) d4_deriveMerge_51 ?_
          obtain ⟨hg12, h⟩ := x_gd h
          obtain ⟨J13, eb14, h⟩ := x_bd h
          refine x_callV hX hR (c_m3_set (l := x_l X) (d := d + 0) eb14) kX4_82 kN3_set kE3_set xc3.1 hg12.1 hg12.2 rfl rfl (Nat.le_of_ble_eq_true rfl) ⟨Nat.le_refl 0, Nat.le_refl 0⟩ d4_deriveMerge_52 (x_kkv ?_)
          obtain ⟨x15, ex15, h⟩ := x_le h
          refine x_iinc (j := 3) hX [(3, .int x15), (0, .ref (B + v0)), (1, .ref (B + v1)), (2, .ref (B + v2))] d4_deriveMerge_55 rfl (by rw [ex15]; rfl) (by decide) rfl ?_
          refine x_goto (tgt := 2) hX d4_deriveMerge_58 (by decide) ?_
          refine x_sub [1, 2, 3, 0] rfl ?_
          exact ih _ _ _ _ _ h
      · rw [if_neg hc] at h
        refine x_aload_n hX d4_deriveMerge_16 rfl rfl ?_
        obtain ⟨hg16, h⟩ := x_gd h
        obtain ⟨q17, eq17, h⟩ := x_bd h
        refine x_getF (j := 6) hX xc4 hg16.1 hg16.2 (by decide) rfl eq17 kF4_35 d4_deriveMerge_17 ?_
        refine x_iload_n hX d4_deriveMerge_20 rfl rfl ?_
        refine x_aload_n hX d4_deriveMerge_21 rfl rfl ?_
        obtain ⟨q18, eq18, h⟩ := x_bd h
        refine x_getF (j := 1) hX xc3 hg1.1 hg1.2 (by decide) rfl eq18 kF4_74 d4_deriveMerge_22 ?_
        refine x_iload_n hX d4_deriveMerge_25 rfl rfl ?_
        obtain ⟨hg19, h⟩ := x_gd h
        refine x_lald hX hg19.1 (x_kd hg19.2.1) (x_in hg19.2.2) d4_deriveMerge_26 ?_
        obtain ⟨hg20, h⟩ := x_gd h
        obtain ⟨J21, eb22, h⟩ := x_bd h
        refine x_callV hX hR (c_m3_set (l := x_l X) (d := d + 0) eb22) kX4_82 kN3_set kE3_set xc3.1 hg20.1 hg20.2 rfl rfl (Nat.le_of_ble_eq_true rfl) ⟨Nat.le_refl 0, Nat.le_refl 0⟩ d4_deriveMerge_27 (x_kkv ?_)
        refine x_goto (tgt := 55) hX d4_deriveMerge_30 (by decide) ?_
        obtain ⟨x23, ex23, h⟩ := x_le h
        refine x_iinc (j := 3) hX [(3, .int x23), (0, .ref (B + v0)), (1, .ref (B + v1)), (2, .ref (B + v2))] d4_deriveMerge_55 rfl (by rw [ex23]; rfl) (by decide) rfl ?_
        refine x_goto (tgt := 2) hX d4_deriveMerge_58 (by decide) ?_
        refine x_sub [1, 2, 3, 0] rfl ?_
        exact ih _ _ _ _ _ h
set_option maxRecDepth 100000 in
set_option maxHeartbeats 4000000 in
theorem c_m4_deriveMerge {l : Launch} {B d : Nat} {g : xG} {N : Nat} {K : Nat → Nat × Nat} {F : Nat → Nat → Option Nat} {I : (Nat → Nat → Int32)} {J : (Nat → Nat → Int64)} {a0 : Nat} {a1 : Nat} {a2 : Nat} {J' : (Nat → Nat → Int64)} (h : m4_deriveMerge N K F I J a0 a1 a2 = some J') : xC l g B (d + 1) 0 0 y4_deriveMerge c4_deriveMerge 4 none [.ref (B + a0), .ref (B + a1), .ref (B + a2)] (xP g B N K I J F) (xq none (xP g B N K I J' F)) := by
  refine xC_of (by decide) (Nat.le_of_ble_eq_true rfl) (fun X hl hR hr _ hX => ?_)
  refine x_sub (L' := [(0, .ref (B + a0)), (1, .ref (B + a1)), (2, .ref (B + a2))]) [0, 1, 2] rfl ?_
  unfold m4_deriveMerge at h
  refine x_iconst (v := 0) hX d4_deriveMerge_0 (by decide) ?_
  refine x_istore_n hX [(3, .int (0 : Int32)), (0, .ref (B + a0)), (1, .ref (B + a1)), (2, .ref (B + a2))] d4_deriveMerge_1 rfl (by decide) rfl ?_
  refine x_sub [1, 2, 3, 0] rfl ?_
  exact t_m4_deriveMerge_L2 hX hR hr _ _ _ _ _ _ h

def m4_insertKey_L3 (N : Nat) (K : Nat → Nat × Nat) (F : Nat → Nat → Option Nat) (J : (Nat → Nat → Int64)) : Nat → (Nat → Nat → Int32) → Nat → Int32 → Nat → Int32 → Option ((Nat → Nat → Int32))
  | 0, _, _, _, _, _ => none
  | n + 1, I, v0, v1, v2, v4 => if v4 ≤ 0 then (if v0 < N ∧ K v0 = (0, 4) then (xb (F v0 8) fun q2 => if q2 < N ∧ (K q2).1 = 1 ∧ xinb v4 (K q2).2 then (xlet (xu I q2 (v4.toNatClampNeg) v1) fun I4 => some I4) else none) else none) else (if v0 < N ∧ K v0 = (0, 4) then (xb (F v0 8) fun q6 => if q6 < N ∧ (K q6).1 = 1 ∧ xinb (v4 - (1 : Int32)) (K q6).2 then (if v2 < N ∧ (K v2).1 = 2 ∧ xinb (I q6 ((v4 - (1 : Int32)).toNatClampNeg)) (K v2).2 then (if v2 < N ∧ (K v2).1 = 2 ∧ xinb v1 (K v2).2 then (if (J v2 (v1.toNatClampNeg)) ≤ (J v2 ((I q6 ((v4 - (1 : Int32)).toNatClampNeg)).toNatClampNeg)) then (if q6 < N ∧ (K q6).1 = 1 ∧ xinb v4 (K q6).2 then (xlet (xu I q6 (v4.toNatClampNeg) v1) fun I11 => some I11) else none) else (if q6 < N ∧ (K q6).1 = 1 ∧ xinb v4 (K q6).2 then (xlet (xu I q6 (v4.toNatClampNeg) (I q6 ((v4 - (1 : Int32)).toNatClampNeg))) fun I13 => xlet (v4 + (-1 : Int32)) fun x14 => m4_insertKey_L3 N K F J n I13 v0 v1 v2 x14) else none)) else none) else none) else none) else none)
def m4_insertKey (N : Nat) (K : Nat → Nat × Nat) (F : Nat → Nat → Option Nat) (I : (Nat → Nat → Int32)) (J : (Nat → Nat → Int64)) (a0 : Nat) (a1 : Int32) (a2 : Nat) (a3 : Int32) : Option ((Nat → Nat → Int32)) :=
  m4_insertKey_L3 N K F J xFu I a0 a1 a2 a3
set_option maxRecDepth 100000 in
set_option maxHeartbeats 4000000 in
theorem t_m4_insertKey_L3 {X : xX} {B d : Nat} {g : xG} {N : Nat} {K : Nat → Nat × Nat} {F : Nat → Nat → Option Nat} {J : (Nat → Nat → Int64)} {I' : (Nat → Nat → Int32)} (hX : xO X c4_insertKey "ChangeRows$Table" 5 B g) (hR : x_R X = xrm (d + 0) 0 0) (hr : (x_meth X).sig.returnType = none) : ∀ (n : Nat) (I : (Nat → Nat → Int32)) (v0 : Nat) (v1 : Int32) (v2 : Nat) (v4 : Int32), m4_insertKey_L3 N K F J n I v0 v1 v2 v4 = some I' → xV X B 5 (xZ X B 0 0 (xq none (xP g B N K I' J F))) 0 0 (xP g B N K I J F) 3 [(0, .ref (B + v0)), (1, .int v1), (2, .ref (B + v2)), (4, .int v4)] [] := by
  intro n
  induction n with
  | zero =>
    intro I v0 v1 v2 v4 h
    cases h
  | succ n ih =>
    intro I v0 v1 v2 v4 h
    rw [m4_insertKey_L3] at h
    refine x_iload hX d4_insertKey_3 rfl ?_
    refine x_if_le (tgt := 48) hX d4_insertKey_5 (by decide) (fun hc => ?_) (fun hc => ?_)
    · rw [if_pos hc] at h
      refine x_aload_n hX d4_insertKey_48 rfl rfl ?_
      obtain ⟨hg1, h⟩ := x_gd h
      obtain ⟨q2, eq2, h⟩ := x_bd h
      refine x_getF (j := 8) hX xc4 hg1.1 hg1.2 (by decide) rfl eq2 kF4_41 d4_insertKey_49 ?_
      refine x_iload hX d4_insertKey_52 rfl ?_
      refine x_iload_n hX d4_insertKey_54 rfl rfl ?_
      obtain ⟨hg3, h⟩ := x_gd h
      refine x_iast hX hg3.1 (x_kd hg3.2.1) (x_in hg3.2.2) d4_insertKey_55 ?_
      obtain ⟨I4, eI4, h⟩ := x_le h
      rw [← eI4]
      cases h
      exact x_vret hX hr d4_insertKey_56 (fun H hP => ⟨rfl, hP⟩)
    · rw [if_neg hc] at h
      refine x_aload_n hX d4_insertKey_8 rfl rfl ?_
      refine x_aload_n hX d4_insertKey_9 rfl rfl ?_
      obtain ⟨hg5, h⟩ := x_gd h
      obtain ⟨q6, eq6, h⟩ := x_bd h
      refine x_getF (j := 8) hX xc4 hg5.1 hg5.2 (by decide) rfl eq6 kF4_41 d4_insertKey_10 ?_
      refine x_iload hX d4_insertKey_13 rfl ?_
      refine x_iconst (v := 1) hX d4_insertKey_15 (by decide) ?_
      refine x_isub hX d4_insertKey_16 ?_
      obtain ⟨hg7, h⟩ := x_gd h
      refine x_iald hX hg7.1 (x_kd hg7.2.1) (x_in hg7.2.2) d4_insertKey_17 ?_
      obtain ⟨hg8, h⟩ := x_gd h
      refine x_lald hX hg8.1 (x_kd hg8.2.1) (x_in hg8.2.2) d4_insertKey_18 ?_
      refine x_aload_n hX d4_insertKey_19 rfl rfl ?_
      refine x_iload_n hX d4_insertKey_20 rfl rfl ?_
      obtain ⟨hg9, h⟩ := x_gd h
      refine x_lald hX hg9.1 (x_kd hg9.2.1) (x_in hg9.2.2) d4_insertKey_21 ?_
      refine x_lif_ge (tgt := 48) hX d4_insertKey_22 d4_insertKey_23 (by decide) (fun hc => ?_) (fun hc => ?_)
      · rw [if_pos hc] at h
        refine x_aload_n hX d4_insertKey_48 rfl rfl ?_
        refine x_getF (j := 8) hX xc4 hg5.1 hg5.2 (by decide) rfl eq6 kF4_41 d4_insertKey_49 ?_
        refine x_iload hX d4_insertKey_52 rfl ?_
        refine x_iload_n hX d4_insertKey_54 rfl rfl ?_
        obtain ⟨hg10, h⟩ := x_gd h
        refine x_iast hX hg10.1 (x_kd hg10.2.1) (x_in hg10.2.2) d4_insertKey_55 ?_
        obtain ⟨I11, eI11, h⟩ := x_le h
        rw [← eI11]
        cases h
        exact x_vret hX hr d4_insertKey_56 (fun H hP => ⟨rfl, hP⟩)
      · rw [if_neg hc] at h
        refine x_aload_n hX d4_insertKey_26 rfl rfl ?_
        refine x_getF (j := 8) hX xc4 hg5.1 hg5.2 (by decide) rfl eq6 kF4_41 d4_insertKey_27 ?_
        refine x_iload hX d4_insertKey_30 rfl ?_
        refine x_aload_n hX d4_insertKey_32 rfl rfl ?_
        refine x_getF (j := 8) hX xc4 hg5.1 hg5.2 (by decide) rfl eq6 kF4_41 d4_insertKey_33 ?_
        refine x_iload hX d4_insertKey_36 rfl ?_
        refine x_iconst (v := 1) hX d4_insertKey_38 (by decide) ?_
        refine x_isub hX d4_insertKey_39 ?_
        refine x_iald hX hg7.1 (x_kd hg7.2.1) (x_in hg7.2.2) d4_insertKey_40 ?_
        obtain ⟨hg12, h⟩ := x_gd h
        refine x_iast hX hg12.1 (x_kd hg12.2.1) (x_in hg12.2.2) d4_insertKey_41 ?_
        obtain ⟨I13, eI13, h⟩ := x_le h
        rw [← eI13]
        obtain ⟨x14, ex14, h⟩ := x_le h
        refine x_iinc (j := 3) hX [(4, .int x14), (0, .ref (B + v0)), (1, .int v1), (2, .ref (B + v2))] d4_insertKey_42 rfl (by rw [ex14]; rfl) (by decide) rfl ?_
        refine x_goto (tgt := 3) hX d4_insertKey_45 (by decide) ?_
        refine x_sub [1, 2, 3, 0] rfl ?_
        exact ih _ _ _ _ _ h
set_option maxRecDepth 100000 in
set_option maxHeartbeats 4000000 in
theorem c_m4_insertKey {l : Launch} {B d : Nat} {g : xG} {N : Nat} {K : Nat → Nat × Nat} {F : Nat → Nat → Option Nat} {I : (Nat → Nat → Int32)} {J : (Nat → Nat → Int64)} {a0 : Nat} {a1 : Int32} {a2 : Nat} {a3 : Int32} {I' : (Nat → Nat → Int32)} (h : m4_insertKey N K F I J a0 a1 a2 a3 = some I') : xC l g B (d + 0) 0 0 y4_insertKey c4_insertKey 5 none [.ref (B + a0), .int a1, .ref (B + a2), .int a3] (xP g B N K I J F) (xq none (xP g B N K I' J F)) := by
  refine xC_of (by decide) (Nat.le_of_ble_eq_true rfl) (fun X hl hR hr _ hX => ?_)
  refine x_sub (L' := [(0, .ref (B + a0)), (1, .int a1), (2, .ref (B + a2)), (3, .int a3)]) [0, 1, 2, 3] rfl ?_
  unfold m4_insertKey at h
  refine x_iload_n hX d4_insertKey_0 rfl rfl ?_
  refine x_istore hX [(4, .int a3), (0, .ref (B + a0)), (1, .int a1), (2, .ref (B + a2)), (3, .int a3)] d4_insertKey_1 (by decide) rfl ?_
  refine x_sub [1, 2, 3, 0] rfl ?_
  exact t_m4_insertKey_L3 hX hR hr _ _ _ _ _ _ h

def m4_deriveBest_L39 (N : Nat) (K : Nat → Nat × Nat) (F : Nat → Nat → Option Nat) : Nat → (Nat → Nat → Int32) → (Nat → Nat → Int64) → Nat → Nat → Int32 → Int32 → Option ((Nat → Nat → Int32) × (Nat → Nat → Int64))
  | 0, _, _, _, _, _, _ => none
  | n + 1, I, J, v0, v1, v2, v3 => if v2 ≤ v3 then (some (I, J)) else (if v0 < N ∧ K v0 = (0, 4) then (if (J v0 3) ≤ (v3.toInt64) then (some (I, J)) else (xb (F v0 6) fun q2 => xb (F v0 8) fun q3 => if q3 < N ∧ (K q3).1 = 1 ∧ xinb v3 (K q3).2 then (if v1 < N ∧ K v1 = (0, 3) then (xb (F v1 1) fun q6 => if q6 < N ∧ (K q6).1 = 2 ∧ xinb (I q3 (v3.toNatClampNeg)) (K q6).2 then (if q2 < N ∧ K q2 = (0, 3) then (xb (m3_set N K F I J q2 (I q3 (v3.toNatClampNeg)) (J q6 ((I q3 (v3.toNatClampNeg)).toNatClampNeg))) fun J9 => xlet (v3 + (1 : Int32)) fun x11 => m4_deriveBest_L39 N K F n I J9 v0 v1 v2 x11) else none) else none) else none) else none)) else none)
def m4_deriveBest_L4 (N : Nat) (K : Nat → Nat × Nat) (F : Nat → Nat → Option Nat) : Nat → (Nat → Nat → Int32) → (Nat → Nat → Int64) → Nat → Nat → Int32 → Int32 → Option ((Nat → Nat → Int32) × (Nat → Nat → Int64))
  | 0, _, _, _, _, _, _ => none
  | n + 1, I, J, v0, v1, v2, v3 => if (64 : Int32) ≤ v3 then (m4_deriveBest_L39 N K F xFu I J v0 v1 v2 (0 : Int32)) else (if v1 < N ∧ K v1 = (0, 3) then (xb (m3_holds N K F I J v1 v3) fun x2 => if x2 = 0 then (xlet (v3 + (1 : Int32)) fun x4 => m4_deriveBest_L4 N K F n I J v0 v1 v2 x4) else (xb (F v1 1) fun q5 => if v0 < N ∧ K v0 = (0, 4) then (xb (m4_insertKey N K F I J v0 v3 q5 v2) fun I7 => xlet (v2 + (1 : Int32)) fun x9 => xlet (v3 + (1 : Int32)) fun x10 => m4_deriveBest_L4 N K F n I7 J v0 v1 x9 x10) else none)) else none)
def m4_deriveBest (N : Nat) (K : Nat → Nat × Nat) (F : Nat → Nat → Option Nat) (I : (Nat → Nat → Int32)) (J : (Nat → Nat → Int64)) (a0 : Nat) (a1 : Nat) : Option ((Nat → Nat → Int32) × (Nat → Nat → Int64)) :=
  m4_deriveBest_L4 N K F xFu I J a0 a1 (0 : Int32) (0 : Int32)
set_option maxRecDepth 100000 in
set_option maxHeartbeats 4000000 in
theorem t_m4_deriveBest_L39 {X : xX} {B d : Nat} {g : xG} {N : Nat} {K : Nat → Nat × Nat} {F : Nat → Nat → Option Nat} {I' : (Nat → Nat → Int32)} {J' : (Nat → Nat → Int64)} (hX : xO X c4_deriveBest "ChangeRows$Table" 4 B g) (hR : x_R X = xrm (d + 1) 0 0) (hr : (x_meth X).sig.returnType = none) : ∀ (n : Nat) (I : (Nat → Nat → Int32)) (J : (Nat → Nat → Int64)) (v0 : Nat) (v1 : Nat) (v2 : Int32) (v3 : Int32), m4_deriveBest_L39 N K F n I J v0 v1 v2 v3 = some (I', J') → xV X B 4 (xZ X B 0 0 (xq none (xP g B N K I' J' F))) 0 0 (xP g B N K I J F) 39 [(0, .ref (B + v0)), (1, .ref (B + v1)), (2, .int v2), (3, .int v3)] [] := by
  intro n
  induction n with
  | zero =>
    intro I J v0 v1 v2 v3 h
    cases h
  | succ n ih =>
    intro I J v0 v1 v2 v3 h
    rw [m4_deriveBest_L39] at h
    refine x_iload_n hX d4_deriveBest_39 rfl rfl ?_
    refine x_iload_n hX d4_deriveBest_40 rfl rfl ?_
    refine x_icmp_ge (tgt := 84) hX d4_deriveBest_41 (by decide) (fun hc => ?_) (fun hc => ?_)
    · rw [if_pos hc] at h
      cases h
      exact x_vret hX hr d4_deriveBest_84 (fun H hP => ⟨rfl, hP⟩)
    · rw [if_neg hc] at h
      refine x_iload_n hX d4_deriveBest_44 rfl rfl ?_
      refine x_i2l hX d4_deriveBest_45 ?_
      refine x_aload_n hX d4_deriveBest_46 rfl rfl ?_
      obtain ⟨hg1, h⟩ := x_gd h
      refine x_getJ (j := 3) hX xc4 hg1.1 hg1.2 (by decide) rfl kF4_21 d4_deriveBest_47 ?_
      refine x_lif_ge (tgt := 84) hX d4_deriveBest_50 d4_deriveBest_51 (by decide) (fun hc => ?_) (fun hc => ?_)
      · rw [if_pos hc] at h
        cases h
        exact x_vret hX hr d4_deriveBest_84 (fun H hP => ⟨rfl, hP⟩)
      · rw [if_neg hc] at h
        refine x_aload_n hX d4_deriveBest_54 rfl rfl ?_
        obtain ⟨q2, eq2, h⟩ := x_bd h
        refine x_getF (j := 6) hX xc4 hg1.1 hg1.2 (by decide) rfl eq2 kF4_35 d4_deriveBest_55 ?_
        refine x_aload_n hX d4_deriveBest_58 rfl rfl ?_
        obtain ⟨q3, eq3, h⟩ := x_bd h
        refine x_getF (j := 8) hX xc4 hg1.1 hg1.2 (by decide) rfl eq3 kF4_41 d4_deriveBest_59 ?_
        refine x_iload_n hX d4_deriveBest_62 rfl rfl ?_
        obtain ⟨hg4, h⟩ := x_gd h
        refine x_iald hX hg4.1 (x_kd hg4.2.1) (x_in hg4.2.2) d4_deriveBest_63 ?_
        refine x_aload_n hX d4_deriveBest_64 rfl rfl ?_
        obtain ⟨hg5, h⟩ := x_gd h
        obtain ⟨q6, eq6, h⟩ := x_bd h
        refine x_getF (j := 1) hX xc3 hg5.1 hg5.2 (by decide) rfl eq6 kF4_74 d4_deriveBest_65 ?_
        refine x_aload_n hX d4_deriveBest_68 rfl rfl ?_
        refine x_getF (j := 8) hX xc4 hg1.1 hg1.2 (by decide) rfl eq3 kF4_41 d4_deriveBest_69 ?_
        refine x_iload_n hX d4_deriveBest_72 rfl rfl ?_
        refine x_iald hX hg4.1 (x_kd hg4.2.1) (x_in hg4.2.2) d4_deriveBest_73 ?_
        obtain ⟨hg7, h⟩ := x_gd h
        refine x_lald hX hg7.1 (x_kd hg7.2.1) (x_in hg7.2.2) d4_deriveBest_74 ?_
        obtain ⟨hg8, h⟩ := x_gd h
        obtain ⟨J9, eb10, h⟩ := x_bd h
        refine x_callV hX hR (c_m3_set (l := x_l X) (d := d + 0) eb10) kX4_82 kN3_set kE3_set xc3.1 hg8.1 hg8.2 rfl rfl (Nat.le_of_ble_eq_true rfl) ⟨Nat.le_refl 0, Nat.le_refl 0⟩ d4_deriveBest_75 (x_kkv ?_)
        obtain ⟨x11, ex11, h⟩ := x_le h
        refine x_iinc (j := 3) hX [(3, .int x11), (0, .ref (B + v0)), (1, .ref (B + v1)), (2, .int v2)] d4_deriveBest_78 rfl (by rw [ex11]; rfl) (by decide) rfl ?_
        refine x_goto (tgt := 39) hX d4_deriveBest_81 (by decide) ?_
        refine x_sub [1, 2, 3, 0] rfl ?_
        exact ih _ _ _ _ _ _ h
set_option maxRecDepth 100000 in
set_option maxHeartbeats 4000000 in
theorem t_m4_deriveBest_L4 {X : xX} {B d : Nat} {g : xG} {N : Nat} {K : Nat → Nat × Nat} {F : Nat → Nat → Option Nat} {I' : (Nat → Nat → Int32)} {J' : (Nat → Nat → Int64)} (hX : xO X c4_deriveBest "ChangeRows$Table" 4 B g) (hR : x_R X = xrm (d + 1) 0 0) (hr : (x_meth X).sig.returnType = none) : ∀ (n : Nat) (I : (Nat → Nat → Int32)) (J : (Nat → Nat → Int64)) (v0 : Nat) (v1 : Nat) (v2 : Int32) (v3 : Int32), m4_deriveBest_L4 N K F n I J v0 v1 v2 v3 = some (I', J') → xV X B 4 (xZ X B 0 0 (xq none (xP g B N K I' J' F))) 0 0 (xP g B N K I J F) 4 [(0, .ref (B + v0)), (1, .ref (B + v1)), (2, .int v2), (3, .int v3)] [] := by
  intro n
  induction n with
  | zero =>
    intro I J v0 v1 v2 v3 h
    cases h
  | succ n ih =>
    intro I J v0 v1 v2 v3 h
    rw [m4_deriveBest_L4] at h
    refine x_iload_n hX d4_deriveBest_4 rfl rfl ?_
    refine x_bipush (v := 64) hX d4_deriveBest_5 (by decide) ?_
    refine x_icmp_ge (tgt := 37) hX d4_deriveBest_7 (by decide) (fun hc => ?_) (fun hc => ?_)
    · rw [if_pos hc] at h
      refine x_iconst (v := 0) hX d4_deriveBest_37 (by decide) ?_
      refine x_istore_n hX [(3, .int (0 : Int32)), (0, .ref (B + v0)), (1, .ref (B + v1)), (2, .int v2)] d4_deriveBest_38 rfl (by decide) rfl ?_
      refine x_sub [1, 2, 3, 0] rfl ?_
      exact t_m4_deriveBest_L39 hX hR hr _ _ _ _ _ _ _ h
    · rw [if_neg hc] at h
      refine x_aload_n hX d4_deriveBest_10 rfl rfl ?_
      refine x_iload_n hX d4_deriveBest_11 rfl rfl ?_
      obtain ⟨hg1, h⟩ := x_gd h
      obtain ⟨x2, eb3, h⟩ := x_bd h
      refine x_callV hX hR (c_m3_holds (l := x_l X) (d := d + 0) eb3) kX4_78 kN3_holds kE3_holds xc3.1 hg1.1 hg1.2 rfl rfl (Nat.le_of_ble_eq_true rfl) ⟨Nat.le_refl 0, Nat.le_refl 0⟩ d4_deriveBest_12 (x_kki ?_)
      refine x_if_eq (tgt := 31) hX d4_deriveBest_15 (by decide) (fun hc => ?_) (fun hc => ?_)
      · rw [if_pos hc] at h
        obtain ⟨x4, ex4, h⟩ := x_le h
        refine x_iinc (j := 3) hX [(3, .int x4), (0, .ref (B + v0)), (1, .ref (B + v1)), (2, .int v2)] d4_deriveBest_31 rfl (by rw [ex4]; rfl) (by decide) rfl ?_
        refine x_goto (tgt := 4) hX d4_deriveBest_34 (by decide) ?_
        refine x_sub [1, 2, 3, 0] rfl ?_
        exact ih _ _ _ _ _ _ h
      · rw [if_neg hc] at h
        refine x_aload_n hX d4_deriveBest_18 rfl rfl ?_
        refine x_iload_n hX d4_deriveBest_19 rfl rfl ?_
        refine x_aload_n hX d4_deriveBest_20 rfl rfl ?_
        obtain ⟨q5, eq5, h⟩ := x_bd h
        refine x_getF (j := 1) hX xc3 hg1.1 hg1.2 (by decide) rfl eq5 kF4_74 d4_deriveBest_21 ?_
        refine x_iload_n hX d4_deriveBest_24 rfl rfl ?_
        obtain ⟨hg6, h⟩ := x_gd h
        obtain ⟨I7, eb8, h⟩ := x_bd h
        refine x_callV hX hR (c_m4_insertKey (l := x_l X) (d := d + 0) eb8) kX4_99 kN4_insertKey kE4_insertKey xc4.1 hg6.1 hg6.2 rfl rfl (Nat.le_of_ble_eq_true rfl) ⟨Nat.le_refl 0, Nat.le_refl 0⟩ d4_deriveBest_25 (x_kkv ?_)
        obtain ⟨x9, ex9, h⟩ := x_le h
        refine x_iinc (j := 2) hX [(2, .int x9), (0, .ref (B + v0)), (1, .ref (B + v1)), (3, .int v3)] d4_deriveBest_28 rfl (by rw [ex9]; rfl) (by decide) rfl ?_
        obtain ⟨x10, ex10, h⟩ := x_le h
        refine x_iinc (j := 3) hX [(3, .int x10), (2, .int x9), (0, .ref (B + v0)), (1, .ref (B + v1))] d4_deriveBest_31 rfl (by rw [ex10]; rfl) (by decide) rfl ?_
        refine x_goto (tgt := 4) hX d4_deriveBest_34 (by decide) ?_
        refine x_sub [2, 3, 1, 0] rfl ?_
        exact ih _ _ _ _ _ _ h
set_option maxRecDepth 100000 in
set_option maxHeartbeats 4000000 in
theorem c_m4_deriveBest {l : Launch} {B d : Nat} {g : xG} {N : Nat} {K : Nat → Nat × Nat} {F : Nat → Nat → Option Nat} {I : (Nat → Nat → Int32)} {J : (Nat → Nat → Int64)} {a0 : Nat} {a1 : Nat} {I' : (Nat → Nat → Int32)} {J' : (Nat → Nat → Int64)} (h : m4_deriveBest N K F I J a0 a1 = some (I', J')) : xC l g B (d + 1) 0 0 y4_deriveBest c4_deriveBest 4 none [.ref (B + a0), .ref (B + a1)] (xP g B N K I J F) (xq none (xP g B N K I' J' F)) := by
  refine xC_of (by decide) (Nat.le_of_ble_eq_true rfl) (fun X hl hR hr _ hX => ?_)
  refine x_sub (L' := [(0, .ref (B + a0)), (1, .ref (B + a1))]) [0, 1] rfl ?_
  unfold m4_deriveBest at h
  refine x_iconst (v := 0) hX d4_deriveBest_0 (by decide) ?_
  refine x_istore_n hX [(2, .int (0 : Int32)), (0, .ref (B + a0)), (1, .ref (B + a1))] d4_deriveBest_1 rfl (by decide) rfl ?_
  refine x_iconst (v := 0) hX d4_deriveBest_2 (by decide) ?_
  refine x_istore_n hX [(3, .int (0 : Int32)), (2, .int (0 : Int32)), (0, .ref (B + a0)), (1, .ref (B + a1))] d4_deriveBest_3 rfl (by decide) rfl ?_
  refine x_sub [2, 3, 1, 0] rfl ?_
  exact t_m4_deriveBest_L4 hX hR hr _ _ _ _ _ _ _ h

def m4_deriveLook_L2 (N : Nat) (K : Nat → Nat × Nat) (F : Nat → Nat → Option Nat) (I : (Nat → Nat → Int32)) : Nat → (Nat → Nat → Int64) → Nat → Nat → Nat → Int32 → Option ((Nat → Nat → Int64))
  | 0, _, _, _, _, _ => none
  | n + 1, J, v0, v1, v2, v3 => if (64 : Int32) ≤ v3 then (some J) else (if v1 < N ∧ K v1 = (0, 3) then (xb (F v1 1) fun q2 => if q2 < N ∧ (K q2).1 = 2 ∧ xinb v3 (K q2).2 then (xlet ((((J q2 (v3.toNatClampNeg)) &&& (63 : Int64)).toInt32)) fun x4 => xb (m3_holds N K F I J v1 v3) fun x5 => if x5 = 0 then (xlet (v3 + (1 : Int32)) fun x7 => m4_deriveLook_L2 N K F I n J v0 v1 v2 x7) else (if v2 < N ∧ K v2 = (0, 3) then (xb (m3_holds N K F I J v2 x4) fun x9 => if x9 = 0 then (xlet (v3 + (1 : Int32)) fun x11 => m4_deriveLook_L2 N K F I n J v0 v1 v2 x11) else (if v0 < N ∧ K v0 = (0, 4) then (xb (F v0 6) fun q13 => xb (F v2 1) fun q14 => if q14 < N ∧ (K q14).1 = 2 ∧ xinb x4 (K q14).2 then (if q13 < N ∧ K q13 = (0, 3) then (xb (m3_set N K F I J q13 v3 (J q14 (x4.toNatClampNeg))) fun J17 => xlet (v3 + (1 : Int32)) fun x19 => m4_deriveLook_L2 N K F I n J17 v0 v1 v2 x19) else none) else none) else none)) else none)) else none) else none)
def m4_deriveLook (N : Nat) (K : Nat → Nat × Nat) (F : Nat → Nat → Option Nat) (I : (Nat → Nat → Int32)) (J : (Nat → Nat → Int64)) (a0 : Nat) (a1 : Nat) (a2 : Nat) : Option ((Nat → Nat → Int64)) :=
  m4_deriveLook_L2 N K F I xFu J a0 a1 a2 (0 : Int32)
set_option maxRecDepth 100000 in
set_option maxHeartbeats 4000000 in
theorem t_m4_deriveLook_L2 {X : xX} {B d : Nat} {g : xG} {N : Nat} {K : Nat → Nat × Nat} {F : Nat → Nat → Option Nat} {I : (Nat → Nat → Int32)} {J' : (Nat → Nat → Int64)} (hX : xO X c4_deriveLook "ChangeRows$Table" 5 B g) (hR : x_R X = xrm (d + 1) 0 0) (hr : (x_meth X).sig.returnType = none) : ∀ (n : Nat) (J : (Nat → Nat → Int64)) (v0 : Nat) (v1 : Nat) (v2 : Nat) (v3 : Int32), m4_deriveLook_L2 N K F I n J v0 v1 v2 v3 = some J' → xV X B 5 (xZ X B 0 0 (xq none (xP g B N K I J' F))) 0 0 (xP g B N K I J F) 2 [(0, .ref (B + v0)), (1, .ref (B + v1)), (2, .ref (B + v2)), (3, .int v3)] [] := by
  intro n
  induction n with
  | zero =>
    intro J v0 v1 v2 v3 h
    cases h
  | succ n ih =>
    intro J v0 v1 v2 v3 h
    rw [m4_deriveLook_L2] at h
    refine x_iload_n hX d4_deriveLook_2 rfl rfl ?_
    refine x_bipush (v := 64) hX d4_deriveLook_3 (by decide) ?_
    refine x_icmp_ge (tgt := 59) hX d4_deriveLook_5 (by decide) (fun hc => ?_) (fun hc => ?_)
    · rw [if_pos hc] at h
      cases h
      exact x_vret hX hr d4_deriveLook_59 (fun H hP => ⟨rfl, hP⟩)
    · rw [if_neg hc] at h
      refine x_aload_n hX d4_deriveLook_8 rfl rfl ?_
      obtain ⟨hg1, h⟩ := x_gd h
      obtain ⟨q2, eq2, h⟩ := x_bd h
      refine x_getF (j := 1) hX xc3 hg1.1 hg1.2 (by decide) rfl eq2 kF4_74 d4_deriveLook_9 ?_
      refine x_iload_n hX d4_deriveLook_12 rfl rfl ?_
      obtain ⟨hg3, h⟩ := x_gd h
      refine x_lald hX hg3.1 (x_kd hg3.2.1) (x_in hg3.2.2) d4_deriveLook_13 ?_
      refine x_ldc2 (v := 63) hX kC4_103 d4_deriveLook_14 ?_
      refine x_land hX d4_deriveLook_17 ?_
      refine x_l2i hX d4_deriveLook_18 ?_
      obtain ⟨x4, ex4, h⟩ := x_le h
      refine x_eqi ex4.symm ?_
      refine x_istore hX [(4, .int x4), (0, .ref (B + v0)), (1, .ref (B + v1)), (2, .ref (B + v2)), (3, .int v3)] d4_deriveLook_19 (by decide) rfl ?_
      refine x_aload_n hX d4_deriveLook_21 rfl rfl ?_
      refine x_iload_n hX d4_deriveLook_22 rfl rfl ?_
      obtain ⟨x5, eb6, h⟩ := x_bd h
      refine x_callV hX hR (c_m3_holds (l := x_l X) (d := d + 0) eb6) kX4_78 kN3_holds kE3_holds xc3.1 hg1.1 hg1.2 rfl rfl (Nat.le_of_ble_eq_true rfl) ⟨Nat.le_refl 0, Nat.le_refl 0⟩ d4_deriveLook_23 (x_kki ?_)
      refine x_if_eq (tgt := 53) hX d4_deriveLook_26 (by decide) (fun hc => ?_) (fun hc => ?_)
      · rw [if_pos hc] at h
        obtain ⟨x7, ex7, h⟩ := x_le h
        refine x_iinc (j := 4) hX [(3, .int x7), (4, .int x4), (0, .ref (B + v0)), (1, .ref (B + v1)), (2, .ref (B + v2))] d4_deriveLook_53 rfl (by rw [ex7]; rfl) (by decide) rfl ?_
        refine x_goto (tgt := 2) hX d4_deriveLook_56 (by decide) ?_
        refine x_sub [2, 3, 4, 0] rfl ?_
        exact ih _ _ _ _ _ h
      · rw [if_neg hc] at h
        refine x_aload_n hX d4_deriveLook_29 rfl rfl ?_
        refine x_iload hX d4_deriveLook_30 rfl ?_
        obtain ⟨hg8, h⟩ := x_gd h
        obtain ⟨x9, eb10, h⟩ := x_bd h
        refine x_callV hX hR (c_m3_holds (l := x_l X) (d := d + 0) eb10) kX4_78 kN3_holds kE3_holds xc3.1 hg8.1 hg8.2 rfl rfl (Nat.le_of_ble_eq_true rfl) ⟨Nat.le_refl 0, Nat.le_refl 0⟩ d4_deriveLook_32 (x_kki ?_)
        refine x_if_eq (tgt := 53) hX d4_deriveLook_35 (by decide) (fun hc => ?_) (fun hc => ?_)
        · rw [if_pos hc] at h
          obtain ⟨x11, ex11, h⟩ := x_le h
          refine x_iinc (j := 4) hX [(3, .int x11), (4, .int x4), (0, .ref (B + v0)), (1, .ref (B + v1)), (2, .ref (B + v2))] d4_deriveLook_53 rfl (by rw [ex11]; rfl) (by decide) rfl ?_
          refine x_goto (tgt := 2) hX d4_deriveLook_56 (by decide) ?_
          refine x_sub [2, 3, 4, 0] rfl ?_
          exact ih _ _ _ _ _ h
        · rw [if_neg hc] at h
          refine x_aload_n hX d4_deriveLook_38 rfl rfl ?_
          obtain ⟨hg12, h⟩ := x_gd h
          obtain ⟨q13, eq13, h⟩ := x_bd h
          refine x_getF (j := 6) hX xc4 hg12.1 hg12.2 (by decide) rfl eq13 kF4_35 d4_deriveLook_39 ?_
          refine x_iload_n hX d4_deriveLook_42 rfl rfl ?_
          refine x_aload_n hX d4_deriveLook_43 rfl rfl ?_
          obtain ⟨q14, eq14, h⟩ := x_bd h
          refine x_getF (j := 1) hX xc3 hg8.1 hg8.2 (by decide) rfl eq14 kF4_74 d4_deriveLook_44 ?_
          refine x_iload hX d4_deriveLook_47 rfl ?_
          obtain ⟨hg15, h⟩ := x_gd h
          refine x_lald hX hg15.1 (x_kd hg15.2.1) (x_in hg15.2.2) d4_deriveLook_49 ?_
          obtain ⟨hg16, h⟩ := x_gd h
          obtain ⟨J17, eb18, h⟩ := x_bd h
          refine x_callV hX hR (c_m3_set (l := x_l X) (d := d + 0) eb18) kX4_82 kN3_set kE3_set xc3.1 hg16.1 hg16.2 rfl rfl (Nat.le_of_ble_eq_true rfl) ⟨Nat.le_refl 0, Nat.le_refl 0⟩ d4_deriveLook_50 (x_kkv ?_)
          obtain ⟨x19, ex19, h⟩ := x_le h
          refine x_iinc (j := 4) hX [(3, .int x19), (4, .int x4), (0, .ref (B + v0)), (1, .ref (B + v1)), (2, .ref (B + v2))] d4_deriveLook_53 rfl (by rw [ex19]; rfl) (by decide) rfl ?_
          refine x_goto (tgt := 2) hX d4_deriveLook_56 (by decide) ?_
          refine x_sub [2, 3, 4, 0] rfl ?_
          exact ih _ _ _ _ _ h
set_option maxRecDepth 100000 in
set_option maxHeartbeats 4000000 in
theorem c_m4_deriveLook {l : Launch} {B d : Nat} {g : xG} {N : Nat} {K : Nat → Nat × Nat} {F : Nat → Nat → Option Nat} {I : (Nat → Nat → Int32)} {J : (Nat → Nat → Int64)} {a0 : Nat} {a1 : Nat} {a2 : Nat} {J' : (Nat → Nat → Int64)} (h : m4_deriveLook N K F I J a0 a1 a2 = some J') : xC l g B (d + 1) 0 0 y4_deriveLook c4_deriveLook 5 none [.ref (B + a0), .ref (B + a1), .ref (B + a2)] (xP g B N K I J F) (xq none (xP g B N K I J' F)) := by
  refine xC_of (by decide) (Nat.le_of_ble_eq_true rfl) (fun X hl hR hr _ hX => ?_)
  refine x_sub (L' := [(0, .ref (B + a0)), (1, .ref (B + a1)), (2, .ref (B + a2))]) [0, 1, 2] rfl ?_
  unfold m4_deriveLook at h
  refine x_iconst (v := 0) hX d4_deriveLook_0 (by decide) ?_
  refine x_istore_n hX [(3, .int (0 : Int32)), (0, .ref (B + a0)), (1, .ref (B + a1)), (2, .ref (B + a2))] d4_deriveLook_1 rfl (by decide) rfl ?_
  refine x_sub [1, 2, 3, 0] rfl ?_
  exact t_m4_deriveLook_L2 hX hR hr _ _ _ _ _ _ h

def m4_derive (N : Nat) (K : Nat → Nat × Nat) (F : Nat → Nat → Option Nat) (I : (Nat → Nat → Int32)) (J : (Nat → Nat → Int64)) (a0 : Nat) (a1 : Nat) (a2 : Nat) : Option ((Nat → Nat → Int32) × (Nat → Nat → Int64)) :=
  if a0 < N ∧ K a0 = (0, 4) then (xb (F a0 6) fun q2 => if q2 < N ∧ K q2 = (0, 3) then (xb (m3_reset N K F I J q2) fun J4 => if (I a0 0) = 1 then (xb (m4_deriveFilter N K F I J4 a0 a1) fun J6 => some (I, J6)) else (if (I a0 0) = 2 then (xb (m4_deriveMap N K F I J4 a0 a1) fun J8 => some (I, J8)) else (if (I a0 0) = 3 then (xb (m4_deriveFold N K F I J4 a0 a1) fun J10 => some (I, J10)) else (if (I a0 0) = 4 then (xb (m4_deriveJoin N K F I J4 a0 a1 a2) fun J12 => some (I, J12)) else (if (I a0 0) = 5 then (xb (m4_deriveMerge N K F I J4 a0 a1 a2) fun J14 => some (I, J14)) else (if (I a0 0) = 6 then (xb (m4_deriveBest N K F I J4 a0 a1) fun (I16, J17) => some (I16, J17)) else (if (I a0 0) = 7 then (xb (m4_deriveLook N K F I J4 a0 a1 a2) fun J19 => some (I, J19)) else (some (I, J4))))))))) else none) else none
set_option maxRecDepth 100000 in
set_option maxHeartbeats 4000000 in
theorem c_m4_derive {l : Launch} {B d : Nat} {g : xG} {N : Nat} {K : Nat → Nat × Nat} {F : Nat → Nat → Option Nat} {I : (Nat → Nat → Int32)} {J : (Nat → Nat → Int64)} {a0 : Nat} {a1 : Nat} {a2 : Nat} {I' : (Nat → Nat → Int32)} {J' : (Nat → Nat → Int64)} (h : m4_derive N K F I J a0 a1 a2 = some (I', J')) : xC l g B (d + 3) 0 0 y4_derive c4_derive 3 none [.ref (B + a0), .ref (B + a1), .ref (B + a2)] (xP g B N K I J F) (xq none (xP g B N K I' J' F)) := by
  refine xC_of (by decide) (Nat.le_of_ble_eq_true rfl) (fun X hl hR hr _ hX => ?_)
  refine x_sub (L' := [(0, .ref (B + a0)), (1, .ref (B + a1)), (2, .ref (B + a2))]) [0, 1, 2] rfl ?_
  unfold m4_derive at h
  refine x_aload_n hX d4_derive_0 rfl rfl ?_
  obtain ⟨hg1, h⟩ := x_gd h
  obtain ⟨q2, eq2, h⟩ := x_bd h
  refine x_getF (j := 6) hX xc4 hg1.1 hg1.2 (by decide) rfl eq2 kF4_35 d4_derive_1 ?_
  obtain ⟨hg3, h⟩ := x_gd h
  obtain ⟨J4, eb5, h⟩ := x_bd h
  refine x_callV hX hR (c_m3_reset (l := x_l X) (d := d + 1) eb5) kX4_48 kN3_reset kE3_reset xc3.1 hg3.1 hg3.2 rfl rfl (Nat.le_of_ble_eq_true rfl) ⟨Nat.le_refl 0, Nat.le_refl 0⟩ d4_derive_4 (x_kkv ?_)
  refine x_aload_n hX d4_derive_7 rfl rfl ?_
  refine x_getI (j := 0) hX xc4 hg1.1 hg1.2 (by decide) rfl kF4_9 d4_derive_8 ?_
  by_cases hs1001 : (I a0 0) = 1
  · rw [if_pos hs1001] at h
    refine x_tableIn (off := 41) (tgt := 52) hX d4_derive_11 (by rw [hs1001]; decide) (by rw [hs1001]; decide) (by rw [hs1001]; rfl) (by decide) ?_
    refine x_aload_n hX d4_derive_52 rfl rfl ?_
    refine x_aload_n hX d4_derive_53 rfl rfl ?_
    obtain ⟨J6, eb7, h⟩ := x_bd h
    refine x_callV hX hR (c_m4_deriveFilter (l := x_l X) (d := d + 1) eb7) kX4_51 kN4_deriveFilter kE4_deriveFilter xc4.1 hg1.1 hg1.2 rfl rfl (Nat.le_of_ble_eq_true rfl) ⟨Nat.le_refl 0, Nat.le_refl 0⟩ d4_derive_54 (x_kkv ?_)
    refine x_goto (tgt := 111) hX d4_derive_57 (by decide) ?_
    cases h
    exact x_vret hX hr d4_derive_111 (fun H hP => ⟨rfl, hP⟩)
  · rw [if_neg hs1001] at h
    by_cases hs1002 : (I a0 0) = 2
    · rw [if_pos hs1002] at h
      refine x_tableIn (off := 49) (tgt := 60) hX d4_derive_11 (by rw [hs1002]; decide) (by rw [hs1002]; decide) (by rw [hs1002]; rfl) (by decide) ?_
      refine x_aload_n hX d4_derive_60 rfl rfl ?_
      refine x_aload_n hX d4_derive_61 rfl rfl ?_
      obtain ⟨J8, eb9, h⟩ := x_bd h
      refine x_callV hX hR (c_m4_deriveMap (l := x_l X) (d := d + 1) eb9) kX4_55 kN4_deriveMap kE4_deriveMap xc4.1 hg1.1 hg1.2 rfl rfl (Nat.le_of_ble_eq_true rfl) ⟨Nat.le_refl 0, Nat.le_refl 0⟩ d4_derive_62 (x_kkv ?_)
      refine x_goto (tgt := 111) hX d4_derive_65 (by decide) ?_
      cases h
      exact x_vret hX hr d4_derive_111 (fun H hP => ⟨rfl, hP⟩)
    · rw [if_neg hs1002] at h
      by_cases hs1003 : (I a0 0) = 3
      · rw [if_pos hs1003] at h
        refine x_tableIn (off := 57) (tgt := 68) hX d4_derive_11 (by rw [hs1003]; decide) (by rw [hs1003]; decide) (by rw [hs1003]; rfl) (by decide) ?_
        refine x_aload_n hX d4_derive_68 rfl rfl ?_
        refine x_aload_n hX d4_derive_69 rfl rfl ?_
        obtain ⟨J10, eb11, h⟩ := x_bd h
        refine x_callV hX hR (c_m4_deriveFold (l := x_l X) (d := d + 0) eb11) kX4_58 kN4_deriveFold kE4_deriveFold xc4.1 hg1.1 hg1.2 rfl rfl (Nat.le_of_ble_eq_true rfl) ⟨Nat.le_refl 0, Nat.le_refl 0⟩ d4_derive_70 (x_kkv ?_)
        refine x_goto (tgt := 111) hX d4_derive_73 (by decide) ?_
        cases h
        exact x_vret hX hr d4_derive_111 (fun H hP => ⟨rfl, hP⟩)
      · rw [if_neg hs1003] at h
        by_cases hs1004 : (I a0 0) = 4
        · rw [if_pos hs1004] at h
          refine x_tableIn (off := 65) (tgt := 76) hX d4_derive_11 (by rw [hs1004]; decide) (by rw [hs1004]; decide) (by rw [hs1004]; rfl) (by decide) ?_
          refine x_aload_n hX d4_derive_76 rfl rfl ?_
          refine x_aload_n hX d4_derive_77 rfl rfl ?_
          refine x_aload_n hX d4_derive_78 rfl rfl ?_
          obtain ⟨J12, eb13, h⟩ := x_bd h
          refine x_callV hX hR (c_m4_deriveJoin (l := x_l X) (d := d + 1) eb13) kX4_61 kN4_deriveJoin kE4_deriveJoin xc4.1 hg1.1 hg1.2 rfl rfl (Nat.le_of_ble_eq_true rfl) ⟨Nat.le_refl 0, Nat.le_refl 0⟩ d4_derive_79 (x_kkv ?_)
          refine x_goto (tgt := 111) hX d4_derive_82 (by decide) ?_
          cases h
          exact x_vret hX hr d4_derive_111 (fun H hP => ⟨rfl, hP⟩)
        · rw [if_neg hs1004] at h
          by_cases hs1005 : (I a0 0) = 5
          · rw [if_pos hs1005] at h
            refine x_tableIn (off := 74) (tgt := 85) hX d4_derive_11 (by rw [hs1005]; decide) (by rw [hs1005]; decide) (by rw [hs1005]; rfl) (by decide) ?_
            refine x_aload_n hX d4_derive_85 rfl rfl ?_
            refine x_aload_n hX d4_derive_86 rfl rfl ?_
            refine x_aload_n hX d4_derive_87 rfl rfl ?_
            obtain ⟨J14, eb15, h⟩ := x_bd h
            refine x_callV hX hR (c_m4_deriveMerge (l := x_l X) (d := d + 1) eb15) kX4_65 kN4_deriveMerge kE4_deriveMerge xc4.1 hg1.1 hg1.2 rfl rfl (Nat.le_of_ble_eq_true rfl) ⟨Nat.le_refl 0, Nat.le_refl 0⟩ d4_derive_88 (x_kkv ?_)
            refine x_goto (tgt := 111) hX d4_derive_91 (by decide) ?_
            cases h
            exact x_vret hX hr d4_derive_111 (fun H hP => ⟨rfl, hP⟩)
          · rw [if_neg hs1005] at h
            by_cases hs1006 : (I a0 0) = 6
            · rw [if_pos hs1006] at h
              refine x_tableIn (off := 83) (tgt := 94) hX d4_derive_11 (by rw [hs1006]; decide) (by rw [hs1006]; decide) (by rw [hs1006]; rfl) (by decide) ?_
              refine x_aload_n hX d4_derive_94 rfl rfl ?_
              refine x_aload_n hX d4_derive_95 rfl rfl ?_
              obtain ⟨⟨I16, J17⟩, eb18, h⟩ := x_bd h
              dsimp only at h
              refine x_callV hX hR (c_m4_deriveBest (l := x_l X) (d := d + 1) eb18) kX4_68 kN4_deriveBest kE4_deriveBest xc4.1 hg1.1 hg1.2 rfl rfl (Nat.le_of_ble_eq_true rfl) ⟨Nat.le_refl 0, Nat.le_refl 0⟩ d4_derive_96 (x_kkv ?_)
              refine x_goto (tgt := 111) hX d4_derive_99 (by decide) ?_
              cases h
              exact x_vret hX hr d4_derive_111 (fun H hP => ⟨rfl, hP⟩)
            · rw [if_neg hs1006] at h
              by_cases hs1007 : (I a0 0) = 7
              · rw [if_pos hs1007] at h
                refine x_tableIn (off := 91) (tgt := 102) hX d4_derive_11 (by rw [hs1007]; decide) (by rw [hs1007]; decide) (by rw [hs1007]; rfl) (by decide) ?_
                refine x_aload_n hX d4_derive_102 rfl rfl ?_
                refine x_aload_n hX d4_derive_103 rfl rfl ?_
                refine x_aload_n hX d4_derive_104 rfl rfl ?_
                obtain ⟨J19, eb20, h⟩ := x_bd h
                refine x_callV hX hR (c_m4_deriveLook (l := x_l X) (d := d + 1) eb20) kX4_71 kN4_deriveLook kE4_deriveLook xc4.1 hg1.1 hg1.2 rfl rfl (Nat.le_of_ble_eq_true rfl) ⟨Nat.le_refl 0, Nat.le_refl 0⟩ d4_derive_105 (x_kkv ?_)
                refine x_goto (tgt := 111) hX d4_derive_108 (by decide) ?_
                cases h
                exact x_vret hX hr d4_derive_111 (fun H hP => ⟨rfl, hP⟩)
              · rw [if_neg hs1007] at h
                refine x_tableOut (tgt := 111) hX d4_derive_11 (x_tout_1_7 hs1001 hs1002 hs1003 hs1004 hs1005 hs1006 hs1007) (by decide) ?_
                cases h
                exact x_vret hX hr d4_derive_111 (fun H hP => ⟨rfl, hP⟩)

def m3_become (N : Nat) (K : Nat → Nat × Nat) (F : Nat → Nat → Option Nat) (I : (Nat → Nat → Int32)) (J : (Nat → Nat → Int64)) (a0 : Nat) (a1 : Nat) : Option ((Nat → Nat → Int64)) :=
  if a1 < N ∧ K a1 = (0, 3) then (if a0 < N ∧ K a0 = (0, 3) then (xlet (xu J a0 0 (J a1 0)) fun J3 => xb (F a1 1) fun q4 => xb (F a0 1) fun q5 => if q4 < N ∧ (K q4).1 = 2 ∧ q5 < N ∧ (K q5).1 = 2 ∧ ¬ (0 : Int32) < 0 ∧ ¬ (0 : Int32) < 0 ∧ ¬ (64 : Int32) < 0 ∧ (0 : Int32).toNatClampNeg + (64 : Int32).toNatClampNeg ≤ (K q4).2 ∧ (0 : Int32).toNatClampNeg + (64 : Int32).toNatClampNeg ≤ (K q5).2 then (xlet (va_up J3 q5 (va_cpy (J3 q4) (J3 q5) (0 : Int32).toNatClampNeg (0 : Int32).toNatClampNeg (64 : Int32).toNatClampNeg)) fun J7 => some J7) else none) else none) else none
set_option maxRecDepth 100000 in
set_option maxHeartbeats 4000000 in
theorem c_m3_become {l : Launch} {B d : Nat} {g : xG} {N : Nat} {K : Nat → Nat × Nat} {F : Nat → Nat → Option Nat} {I : (Nat → Nat → Int32)} {J : (Nat → Nat → Int64)} {a0 : Nat} {a1 : Nat} {J' : (Nat → Nat → Int64)} (h : m3_become N K F I J a0 a1 = some J') : xC l g B (d + 1) 0 0 y3_become c3_become 2 none [.ref (B + a0), .ref (B + a1)] (xP g B N K I J F) (xq none (xP g B N K I J' F)) := by
  refine xC_of (by decide) (Nat.le_of_ble_eq_true rfl) (fun X hl hR hr _ hX => ?_)
  refine x_sub (L' := [(0, .ref (B + a0)), (1, .ref (B + a1))]) [0, 1] rfl ?_
  unfold m3_become at h
  refine x_aload_n hX d3_become_0 rfl rfl ?_
  refine x_aload_n hX d3_become_1 rfl rfl ?_
  obtain ⟨hg1, h⟩ := x_gd h
  refine x_getJ (j := 0) hX xc3 hg1.1 hg1.2 (by decide) rfl kF3_9 d3_become_2 ?_
  obtain ⟨hg2, h⟩ := x_gd h
  refine x_putJ (j := 0) hX xc3 hg2.1 hg2.2 (by decide) rfl kF3_9 (Or.inl rfl) rfl rfl d3_become_5 ?_
  obtain ⟨J3, eJ3, h⟩ := x_le h
  rw [← eJ3]
  refine x_aload_n hX d3_become_8 rfl rfl ?_
  obtain ⟨q4, eq4, h⟩ := x_bd h
  refine x_getF (j := 1) hX xc3 hg1.1 hg1.2 (by decide) rfl eq4 kF3_15 d3_become_9 ?_
  refine x_iconst (v := 0) hX d3_become_12 (by decide) ?_
  refine x_aload_n hX d3_become_13 rfl rfl ?_
  obtain ⟨q5, eq5, h⟩ := x_bd h
  refine x_getF (j := 1) hX xc3 hg2.1 hg2.2 (by decide) rfl eq5 kF3_15 d3_become_14 ?_
  refine x_iconst (v := 0) hX d3_become_17 (by decide) ?_
  refine x_bipush (v := 64) hX d3_become_18 (by decide) ?_
  obtain ⟨hg6, h⟩ := x_gd h
  refine x_copyJ hX hR kM3_31 kNarraycopy kSarraycopy kIS hg6.1 (x_kd hg6.2.1) hg6.2.2.1 (x_kd hg6.2.2.2.1) hg6.2.2.2.2.1 hg6.2.2.2.2.2.1 hg6.2.2.2.2.2.2.1 rfl rfl rfl hg6.2.2.2.2.2.2.2.1 hg6.2.2.2.2.2.2.2.2 (by decide) d3_become_20 ?_
  obtain ⟨J7, eJ7, h⟩ := x_le h
  rw [← eJ7]
  cases h
  exact x_vret hX hr d3_become_23 (fun H hP => ⟨rfl, hP⟩)

def m1_gather (N : Nat) (K : Nat → Nat × Nat) (F : Nat → Nat → Option Nat) (I : (Nat → Nat → Int32)) (J : (Nat → Nat → Int64)) (a0 : Nat) (a1 : Int32) (a2 : Int32) (a3 : Int32) (a4 : Int64) : Option (Int32 × (Nat → Nat → Int32) × (Nat → Nat → Int64)) :=
  if a0 < N ∧ K a0 = (0, 1) then (if (I a0 1) < (40 : Int32) then (xb (F a0 2) fun q2 => if q2 < N ∧ (K q2).1 = 1 ∧ xinb (I a0 1) (K q2).2 then (xlet (xu I q2 ((I a0 1).toNatClampNeg) a1) fun I4 => xb (F a0 3) fun q5 => if q5 < N ∧ (K q5).1 = 1 ∧ xinb (I4 a0 1) (K q5).2 then (xlet (xu I4 q5 ((I4 a0 1).toNatClampNeg) a2) fun I7 => xb (F a0 4) fun q8 => if q8 < N ∧ (K q8).1 = 3 ∧ xinb (I7 a0 1) (K q8).2 then (if a3 = 0 ∨ a3 = 1 then (xlet (xu I7 q8 ((I7 a0 1).toNatClampNeg) a3) fun I11 => xb (F a0 5) fun q12 => if q12 < N ∧ (K q12).1 = 2 ∧ xinb (I11 a0 1) (K q12).2 then (xlet (xu J q12 ((I11 a0 1).toNatClampNeg) a4) fun J14 => xlet (xu I11 a0 1 ((I11 a0 1) + (1 : Int32))) fun I15 => some ((I15 a0 1), I15, J14)) else none) else none) else none) else none) else none) else (some ((-3 : Int32), I, J))) else none
set_option maxRecDepth 100000 in
set_option maxHeartbeats 4000000 in
theorem c_m1_gather {l : Launch} {B d : Nat} {g : xG} {N : Nat} {K : Nat → Nat × Nat} {F : Nat → Nat → Option Nat} {I : (Nat → Nat → Int32)} {J : (Nat → Nat → Int64)} {a0 : Nat} {a1 : Int32} {a2 : Int32} {a3 : Int32} {a4 : Int64} {rv : Int32} {I' : (Nat → Nat → Int32)} {J' : (Nat → Nat → Int64)} (h : m1_gather N K F I J a0 a1 a2 a3 a4 = some (rv, I', J')) : xC l g B (d + 0) 0 0 y1_gather c1_gather 6 (some .int) [.ref (B + a0), .int a1, .int a2, .int a3, .long a4] (xP g B N K I J F) (xq (some (.int rv)) (xP g B N K I' J' F)) := by
  refine xC_of (by decide) (Nat.le_of_ble_eq_true rfl) (fun X hl hR hr _ hX => ?_)
  refine x_sub (L' := [(0, .ref (B + a0)), (1, .int a1), (2, .int a2), (3, .int a3), (4, .long a4)]) [0, 1, 2, 3, 4] rfl ?_
  unfold m1_gather at h
  refine x_aload_n hX d1_gather_0 rfl rfl ?_
  obtain ⟨hg1, h⟩ := x_gd h
  refine x_getI (j := 1) hX xc1 hg1.1 hg1.2 (by decide) rfl kF1_15 d1_gather_1 ?_
  refine x_bipush (v := 40) hX d1_gather_4 (by decide) ?_
  refine x_icmp_lt (tgt := 12) hX d1_gather_6 (by decide) (fun hc => ?_) (fun hc => ?_)
  · rw [if_pos hc] at h
    refine x_aload_n hX d1_gather_12 rfl rfl ?_
    obtain ⟨q2, eq2, h⟩ := x_bd h
    refine x_getF (j := 2) hX xc1 hg1.1 hg1.2 (by decide) rfl eq2 kF1_19 d1_gather_13 ?_
    refine x_aload_n hX d1_gather_16 rfl rfl ?_
    refine x_getI (j := 1) hX xc1 hg1.1 hg1.2 (by decide) rfl kF1_15 d1_gather_17 ?_
    refine x_iload_n hX d1_gather_20 rfl rfl ?_
    obtain ⟨hg3, h⟩ := x_gd h
    refine x_iast hX hg3.1 (x_kd hg3.2.1) (x_in hg3.2.2) d1_gather_21 ?_
    obtain ⟨I4, eI4, h⟩ := x_le h
    rw [← eI4]
    refine x_aload_n hX d1_gather_22 rfl rfl ?_
    obtain ⟨q5, eq5, h⟩ := x_bd h
    refine x_getF (j := 3) hX xc1 hg1.1 hg1.2 (by decide) rfl eq5 kF1_23 d1_gather_23 ?_
    refine x_aload_n hX d1_gather_26 rfl rfl ?_
    refine x_getI (j := 1) hX xc1 hg1.1 hg1.2 (by decide) rfl kF1_15 d1_gather_27 ?_
    refine x_iload_n hX d1_gather_30 rfl rfl ?_
    obtain ⟨hg6, h⟩ := x_gd h
    refine x_iast hX hg6.1 (x_kd hg6.2.1) (x_in hg6.2.2) d1_gather_31 ?_
    obtain ⟨I7, eI7, h⟩ := x_le h
    rw [← eI7]
    refine x_aload_n hX d1_gather_32 rfl rfl ?_
    obtain ⟨q8, eq8, h⟩ := x_bd h
    refine x_getF (j := 4) hX xc1 hg1.1 hg1.2 (by decide) rfl eq8 kF1_26 d1_gather_33 ?_
    refine x_aload_n hX d1_gather_36 rfl rfl ?_
    refine x_getI (j := 1) hX xc1 hg1.1 hg1.2 (by decide) rfl kF1_15 d1_gather_37 ?_
    refine x_iload_n hX d1_gather_40 rfl rfl ?_
    obtain ⟨hg9, h⟩ := x_gd h
    obtain ⟨hg10, h⟩ := x_gd h
    refine x_zast hX hg9.1 (x_kd hg9.2.1) (x_in hg9.2.2) (x_nbool hg10) d1_gather_41 ?_
    obtain ⟨I11, eI11, h⟩ := x_le h
    rw [← eI11]
    refine x_aload_n hX d1_gather_42 rfl rfl ?_
    obtain ⟨q12, eq12, h⟩ := x_bd h
    refine x_getF (j := 5) hX xc1 hg1.1 hg1.2 (by decide) rfl eq12 kF1_30 d1_gather_43 ?_
    refine x_aload_n hX d1_gather_46 rfl rfl ?_
    refine x_getI (j := 1) hX xc1 hg1.1 hg1.2 (by decide) rfl kF1_15 d1_gather_47 ?_
    refine x_lload hX d1_gather_50 rfl ?_
    obtain ⟨hg13, h⟩ := x_gd h
    refine x_last hX hg13.1 (x_kd hg13.2.1) (x_in hg13.2.2) d1_gather_52 ?_
    obtain ⟨J14, eJ14, h⟩ := x_le h
    rw [← eJ14]
    refine x_aload_n hX d1_gather_53 rfl rfl ?_
    refine x_dup hX d1_gather_54 rfl ?_
    refine x_getI (j := 1) hX xc1 hg1.1 hg1.2 (by decide) rfl kF1_15 d1_gather_55 ?_
    refine x_iconst (v := 1) hX d1_gather_58 (by decide) ?_
    refine x_iadd hX d1_gather_59 ?_
    refine x_putI (j := 1) hX xc1 hg1.1 hg1.2 (by decide) rfl kF1_15 (Or.inl rfl) rfl rfl d1_gather_60 ?_
    obtain ⟨I15, eI15, h⟩ := x_le h
    rw [← eI15]
    refine x_aload_n hX d1_gather_63 rfl rfl ?_
    refine x_getI (j := 1) hX xc1 hg1.1 hg1.2 (by decide) rfl kF1_15 d1_gather_64 ?_
    cases h
    exact x_iret hX hr d1_gather_67 (fun H hP => ⟨rfl, hP⟩)
  · rw [if_neg hc] at h
    refine x_bipush (v := -3) hX d1_gather_9 (by decide) ?_
    cases h
    exact x_iret hX hr d1_gather_11 (fun H hP => ⟨rfl, hP⟩)

def m3_write (N : Nat) (K : Nat → Nat × Nat) (F : Nat → Nat → Option Nat) (I : (Nat → Nat → Int32)) (J : (Nat → Nat → Int64)) (a0 : Nat) (a1 : Int32) (a2 : Int32) (a3 : Int64) : Option ((Nat → Nat → Int64)) :=
  if a2 = 0 then (if a0 < N ∧ K a0 = (0, 3) then (xlet (xu J a0 0 ((J a0 0) &&& (((1 : Int64) <<< (a1.toInt64 &&& 63)) ^^^ ((-1) : Int64)))) fun J2 => xb (F a0 1) fun q3 => if q3 < N ∧ (K q3).1 = 2 ∧ xinb a1 (K q3).2 then (xlet (xu J2 q3 (a1.toNatClampNeg) (0 : Int64)) fun J5 => some J5) else none) else none) else (if a0 < N ∧ K a0 = (0, 3) then (xb (m3_set N K F I J a0 a1 a3) fun J7 => some J7) else none)
set_option maxRecDepth 100000 in
set_option maxHeartbeats 4000000 in
theorem c_m3_write {l : Launch} {B d : Nat} {g : xG} {N : Nat} {K : Nat → Nat × Nat} {F : Nat → Nat → Option Nat} {I : (Nat → Nat → Int32)} {J : (Nat → Nat → Int64)} {a0 : Nat} {a1 : Int32} {a2 : Int32} {a3 : Int64} {J' : (Nat → Nat → Int64)} (h : m3_write N K F I J a0 a1 a2 a3 = some J') : xC l g B (d + 1) 0 0 y3_write c3_write 5 none [.ref (B + a0), .int a1, .int a2, .long a3] (xP g B N K I J F) (xq none (xP g B N K I J' F)) := by
  refine xC_of (by decide) (Nat.le_of_ble_eq_true rfl) (fun X hl hR hr _ hX => ?_)
  refine x_sub (L' := [(0, .ref (B + a0)), (1, .int a1), (2, .int a2), (3, .long a3)]) [0, 1, 2, 3] rfl ?_
  unfold m3_write at h
  refine x_iload_n hX d3_write_0 rfl rfl ?_
  refine x_if_eq (tgt := 13) hX d3_write_1 (by decide) (fun hc => ?_) (fun hc => ?_)
  · rw [if_pos hc] at h
    refine x_aload_n hX d3_write_13 rfl rfl ?_
    refine x_dup hX d3_write_14 rfl ?_
    obtain ⟨hg1, h⟩ := x_gd h
    refine x_getJ (j := 0) hX xc3 hg1.1 hg1.2 (by decide) rfl kF3_9 d3_write_15 ?_
    refine x_lconst (v := 1) hX d3_write_18 (by decide) ?_
    refine x_iload_n hX d3_write_19 rfl rfl ?_
    refine x_lshl hX d3_write_20 ?_
    refine x_ldc2 (v := (-1)) hX kC3_41 d3_write_21 ?_
    refine x_lxor hX d3_write_24 ?_
    refine x_land hX d3_write_25 ?_
    refine x_putJ (j := 0) hX xc3 hg1.1 hg1.2 (by decide) rfl kF3_9 (Or.inl rfl) rfl rfl d3_write_26 ?_
    obtain ⟨J2, eJ2, h⟩ := x_le h
    rw [← eJ2]
    refine x_aload_n hX d3_write_29 rfl rfl ?_
    obtain ⟨q3, eq3, h⟩ := x_bd h
    refine x_getF (j := 1) hX xc3 hg1.1 hg1.2 (by decide) rfl eq3 kF3_15 d3_write_30 ?_
    refine x_iload_n hX d3_write_33 rfl rfl ?_
    refine x_lconst (v := 0) hX d3_write_34 (by decide) ?_
    obtain ⟨hg4, h⟩ := x_gd h
    refine x_last hX hg4.1 (x_kd hg4.2.1) (x_in hg4.2.2) d3_write_35 ?_
    obtain ⟨J5, eJ5, h⟩ := x_le h
    rw [← eJ5]
    cases h
    exact x_vret hX hr d3_write_36 (fun H hP => ⟨rfl, hP⟩)
  · rw [if_neg hc] at h
    refine x_aload_n hX d3_write_4 rfl rfl ?_
    refine x_iload_n hX d3_write_5 rfl rfl ?_
    refine x_lload_n hX d3_write_6 rfl rfl ?_
    obtain ⟨hg6, h⟩ := x_gd h
    obtain ⟨J7, eb8, h⟩ := x_bd h
    refine x_callV hX hR (c_m3_set (l := x_l X) (d := d + 0) eb8) kX3_37 kN3_set kE3_set xc3.1 hg6.1 hg6.2 rfl rfl (Nat.le_of_ble_eq_true rfl) ⟨Nat.le_refl 0, Nat.le_refl 0⟩ d3_write_7 (x_kkv ?_)
    refine x_goto (tgt := 36) hX d3_write_10 (by decide) ?_
    cases h
    exact x_vret hX hr d3_write_36 (fun H hP => ⟨rfl, hP⟩)

def m3_differing_L13 (N : Nat) (K : Nat → Nat × Nat) (F : Nat → Nat → Option Nat) (I : (Nat → Nat → Int32)) (J : (Nat → Nat → Int64)) : Nat → Nat → Nat → Int64 → Int32 → Option (Int64)
  | 0, _, _, _, _ => none
  | n + 1, v0, v1, v2, v4 => if (64 : Int32) ≤ v4 then (some v2) else (if v0 < N ∧ K v0 = (0, 3) then (xb (F v0 1) fun q2 => if q2 < N ∧ (K q2).1 = 2 ∧ xinb v4 (K q2).2 then (if v1 < N ∧ K v1 = (0, 3) then (xb (F v1 1) fun q5 => if q5 < N ∧ (K q5).1 = 2 ∧ xinb v4 (K q5).2 then (if (J q2 (v4.toNatClampNeg)) = (J q5 (v4.toNatClampNeg)) then (xlet (v4 + (1 : Int32)) fun x7 => m3_differing_L13 N K F I J n v0 v1 v2 x7) else (xlet ((v2 ||| ((1 : Int64) <<< (v4.toInt64 &&& 63)))) fun x8 => xlet (v4 + (1 : Int32)) fun x9 => m3_differing_L13 N K F I J n v0 v1 x8 x9)) else none) else none) else none) else none)
def m3_differing (N : Nat) (K : Nat → Nat × Nat) (F : Nat → Nat → Option Nat) (I : (Nat → Nat → Int32)) (J : (Nat → Nat → Int64)) (a0 : Nat) (a1 : Nat) : Option (Int64) :=
  if a0 < N ∧ K a0 = (0, 3) then (if a1 < N ∧ K a1 = (0, 3) then (xlet (((J a0 0) ^^^ (J a1 0))) fun x3 => m3_differing_L13 N K F I J xFu a0 a1 x3 (0 : Int32)) else none) else none
set_option maxRecDepth 100000 in
set_option maxHeartbeats 4000000 in
theorem t_m3_differing_L13 {X : xX} {B d : Nat} {g : xG} {N : Nat} {K : Nat → Nat × Nat} {F : Nat → Nat → Option Nat} {I : (Nat → Nat → Int32)} {J : (Nat → Nat → Int64)} {rv : Int64} (hX : xO X c3_differing "ChangeRows$Rows" 5 B g) (hR : x_R X = xrm (d + 0) 0 0) (hr : (x_meth X).sig.returnType = (some .long)) : ∀ (n : Nat) (v0 : Nat) (v1 : Nat) (v2 : Int64) (v4 : Int32), m3_differing_L13 N K F I J n v0 v1 v2 v4 = some rv → xV X B 5 (xZ X B 0 0 (xq (some (.long rv)) (xP g B N K I J F))) 0 0 (xP g B N K I J F) 13 [(0, .ref (B + v0)), (1, .ref (B + v1)), (2, .long v2), (4, .int v4)] [] := by
  intro n
  induction n with
  | zero =>
    intro v0 v1 v2 v4 h
    cases h
  | succ n ih =>
    intro v0 v1 v2 v4 h
    rw [m3_differing_L13] at h
    refine x_iload hX d3_differing_13 rfl ?_
    refine x_bipush (v := 64) hX d3_differing_15 (by decide) ?_
    refine x_icmp_ge (tgt := 51) hX d3_differing_17 (by decide) (fun hc => ?_) (fun hc => ?_)
    · rw [if_pos hc] at h
      refine x_lload_n hX d3_differing_51 rfl rfl ?_
      cases h
      exact x_lret hX hr d3_differing_52 (fun H hP => ⟨rfl, hP⟩)
    · rw [if_neg hc] at h
      refine x_aload_n hX d3_differing_20 rfl rfl ?_
      obtain ⟨hg1, h⟩ := x_gd h
      obtain ⟨q2, eq2, h⟩ := x_bd h
      refine x_getF (j := 1) hX xc3 hg1.1 hg1.2 (by decide) rfl eq2 kF3_15 d3_differing_21 ?_
      refine x_iload hX d3_differing_24 rfl ?_
      obtain ⟨hg3, h⟩ := x_gd h
      refine x_lald hX hg3.1 (x_kd hg3.2.1) (x_in hg3.2.2) d3_differing_26 ?_
      refine x_aload_n hX d3_differing_27 rfl rfl ?_
      obtain ⟨hg4, h⟩ := x_gd h
      obtain ⟨q5, eq5, h⟩ := x_bd h
      refine x_getF (j := 1) hX xc3 hg4.1 hg4.2 (by decide) rfl eq5 kF3_15 d3_differing_28 ?_
      refine x_iload hX d3_differing_31 rfl ?_
      obtain ⟨hg6, h⟩ := x_gd h
      refine x_lald hX hg6.1 (x_kd hg6.2.1) (x_in hg6.2.2) d3_differing_33 ?_
      refine x_lif_eq (tgt := 45) hX d3_differing_34 d3_differing_35 (by decide) (fun hc => ?_) (fun hc => ?_)
      · rw [if_pos hc] at h
        obtain ⟨x7, ex7, h⟩ := x_le h
        refine x_iinc (j := 3) hX [(4, .int x7), (0, .ref (B + v0)), (1, .ref (B + v1)), (2, .long v2)] d3_differing_45 rfl (by rw [ex7]; rfl) (by decide) rfl ?_
        refine x_goto (tgt := 13) hX d3_differing_48 (by decide) ?_
        refine x_sub [1, 2, 3, 0] rfl ?_
        exact ih _ _ _ _ h
      · rw [if_neg hc] at h
        refine x_lload_n hX d3_differing_38 rfl rfl ?_
        refine x_lconst (v := 1) hX d3_differing_39 (by decide) ?_
        refine x_iload hX d3_differing_40 rfl ?_
        refine x_lshl hX d3_differing_42 ?_
        refine x_lor hX d3_differing_43 ?_
        obtain ⟨x8, ex8, h⟩ := x_le h
        refine x_eql ex8.symm ?_
        refine x_lstore_n hX [(2, .long x8), (0, .ref (B + v0)), (1, .ref (B + v1)), (4, .int v4)] d3_differing_44 rfl (by decide) rfl ?_
        obtain ⟨x9, ex9, h⟩ := x_le h
        refine x_iinc (j := 3) hX [(4, .int x9), (2, .long x8), (0, .ref (B + v0)), (1, .ref (B + v1))] d3_differing_45 rfl (by rw [ex9]; rfl) (by decide) rfl ?_
        refine x_goto (tgt := 13) hX d3_differing_48 (by decide) ?_
        refine x_sub [2, 3, 1, 0] rfl ?_
        exact ih _ _ _ _ h
set_option maxRecDepth 100000 in
set_option maxHeartbeats 4000000 in
theorem c_m3_differing {l : Launch} {B d : Nat} {g : xG} {N : Nat} {K : Nat → Nat × Nat} {F : Nat → Nat → Option Nat} {I : (Nat → Nat → Int32)} {J : (Nat → Nat → Int64)} {a0 : Nat} {a1 : Nat} {rv : Int64} (h : m3_differing N K F I J a0 a1 = some rv) : xC l g B (d + 0) 0 0 y3_differing c3_differing 5 (some .long) [.ref (B + a0), .ref (B + a1)] (xP g B N K I J F) (xq (some (.long rv)) (xP g B N K I J F)) := by
  refine xC_of (by decide) (Nat.le_of_ble_eq_true rfl) (fun X hl hR hr _ hX => ?_)
  refine x_sub (L' := [(0, .ref (B + a0)), (1, .ref (B + a1))]) [0, 1] rfl ?_
  unfold m3_differing at h
  refine x_aload_n hX d3_differing_0 rfl rfl ?_
  obtain ⟨hg1, h⟩ := x_gd h
  refine x_getJ (j := 0) hX xc3 hg1.1 hg1.2 (by decide) rfl kF3_9 d3_differing_1 ?_
  refine x_aload_n hX d3_differing_4 rfl rfl ?_
  obtain ⟨hg2, h⟩ := x_gd h
  refine x_getJ (j := 0) hX xc3 hg2.1 hg2.2 (by decide) rfl kF3_9 d3_differing_5 ?_
  refine x_lxor hX d3_differing_8 ?_
  obtain ⟨x3, ex3, h⟩ := x_le h
  refine x_eql ex3.symm ?_
  refine x_lstore_n hX [(2, .long x3), (0, .ref (B + a0)), (1, .ref (B + a1))] d3_differing_9 rfl (by decide) rfl ?_
  refine x_iconst (v := 0) hX d3_differing_10 (by decide) ?_
  refine x_istore hX [(4, .int (0 : Int32)), (2, .long x3), (0, .ref (B + a0)), (1, .ref (B + a1))] d3_differing_11 (by decide) rfl ?_
  refine x_sub [2, 3, 1, 0] rfl ?_
  exact t_m3_differing_L13 hX hR hr _ _ _ _ _ h

def mL_bitCount (N : Nat) (K : Nat → Nat × Nat) (F : Nat → Nat → Option Nat) (I : (Nat → Nat → Int32)) (J : (Nat → Nat → Int64)) (a0 : Int64) : Option (Int32) :=
  xlet ((a0 - (((a0.toUInt64 >>> ((1 : Int32).toInt64.toUInt64 &&& Int64.toUInt64 63)).toInt64) &&& (6148914691236517205 : Int64)))) fun x1 => xlet (((x1 &&& (3689348814741910323 : Int64)) + (((x1.toUInt64 >>> ((2 : Int32).toInt64.toUInt64 &&& Int64.toUInt64 63)).toInt64) &&& (3689348814741910323 : Int64)))) fun x2 => xlet (((x2 + ((x2.toUInt64 >>> ((4 : Int32).toInt64.toUInt64 &&& Int64.toUInt64 63)).toInt64)) &&& (1085102592571150095 : Int64))) fun x3 => xlet ((x3 + ((x3.toUInt64 >>> ((8 : Int32).toInt64.toUInt64 &&& Int64.toUInt64 63)).toInt64))) fun x4 => xlet ((x4 + ((x4.toUInt64 >>> ((16 : Int32).toInt64.toUInt64 &&& Int64.toUInt64 63)).toInt64))) fun x5 => xlet ((x5 + ((x5.toUInt64 >>> ((32 : Int32).toInt64.toUInt64 &&& Int64.toUInt64 63)).toInt64))) fun x6 => some ((x6.toInt32) &&& (127 : Int32))
set_option maxRecDepth 100000 in
set_option maxHeartbeats 4000000 in
theorem c_mL_bitCount {l : Launch} {B d : Nat} {g : xG} {N : Nat} {K : Nat → Nat × Nat} {F : Nat → Nat → Option Nat} {I : (Nat → Nat → Int32)} {J : (Nat → Nat → Int64)} {a0 : Int64} {rv : Int32} (h : mL_bitCount N K F I J a0 = some rv) : xC l g B (d + 0) 0 0 yL_bitCount cL_bitCount 2 (some .int) [.long a0] (xP g B N K I J F) (xq (some (.int rv)) (xP g B N K I J F)) := by
  refine xC_of (by decide) (Nat.le_of_ble_eq_true rfl) (fun X hl hR hr _ hX => ?_)
  refine x_sub (L' := [(0, .long a0)]) [0] rfl ?_
  unfold mL_bitCount at h
  refine x_lload_n hX dL_bitCount_0 rfl rfl ?_
  refine x_lload_n hX dL_bitCount_1 rfl rfl ?_
  refine x_iconst (v := 1) hX dL_bitCount_2 (by decide) ?_
  refine x_lushr hX dL_bitCount_3 ?_
  refine x_ldc2 (v := 6148914691236517205) hX kCL_314 dL_bitCount_4 ?_
  refine x_land hX dL_bitCount_7 ?_
  refine x_lsub hX dL_bitCount_8 ?_
  obtain ⟨x1, ex1, h⟩ := x_le h
  refine x_eql ex1.symm ?_
  refine x_lstore_n hX [(0, .long x1)] dL_bitCount_9 rfl (by decide) rfl ?_
  refine x_lload_n hX dL_bitCount_10 rfl rfl ?_
  refine x_ldc2 (v := 3689348814741910323) hX kCL_316 dL_bitCount_11 ?_
  refine x_land hX dL_bitCount_14 ?_
  refine x_lload_n hX dL_bitCount_15 rfl rfl ?_
  refine x_iconst (v := 2) hX dL_bitCount_16 (by decide) ?_
  refine x_lushr hX dL_bitCount_17 ?_
  refine x_ldc2 (v := 3689348814741910323) hX kCL_316 dL_bitCount_18 ?_
  refine x_land hX dL_bitCount_21 ?_
  refine x_ladd hX dL_bitCount_22 ?_
  obtain ⟨x2, ex2, h⟩ := x_le h
  refine x_eql ex2.symm ?_
  refine x_lstore_n hX [(0, .long x2)] dL_bitCount_23 rfl (by decide) rfl ?_
  refine x_lload_n hX dL_bitCount_24 rfl rfl ?_
  refine x_lload_n hX dL_bitCount_25 rfl rfl ?_
  refine x_iconst (v := 4) hX dL_bitCount_26 (by decide) ?_
  refine x_lushr hX dL_bitCount_27 ?_
  refine x_ladd hX dL_bitCount_28 ?_
  refine x_ldc2 (v := 1085102592571150095) hX kCL_318 dL_bitCount_29 ?_
  refine x_land hX dL_bitCount_32 ?_
  obtain ⟨x3, ex3, h⟩ := x_le h
  refine x_eql ex3.symm ?_
  refine x_lstore_n hX [(0, .long x3)] dL_bitCount_33 rfl (by decide) rfl ?_
  refine x_lload_n hX dL_bitCount_34 rfl rfl ?_
  refine x_lload_n hX dL_bitCount_35 rfl rfl ?_
  refine x_bipush (v := 8) hX dL_bitCount_36 (by decide) ?_
  refine x_lushr hX dL_bitCount_38 ?_
  refine x_ladd hX dL_bitCount_39 ?_
  obtain ⟨x4, ex4, h⟩ := x_le h
  refine x_eql ex4.symm ?_
  refine x_lstore_n hX [(0, .long x4)] dL_bitCount_40 rfl (by decide) rfl ?_
  refine x_lload_n hX dL_bitCount_41 rfl rfl ?_
  refine x_lload_n hX dL_bitCount_42 rfl rfl ?_
  refine x_bipush (v := 16) hX dL_bitCount_43 (by decide) ?_
  refine x_lushr hX dL_bitCount_45 ?_
  refine x_ladd hX dL_bitCount_46 ?_
  obtain ⟨x5, ex5, h⟩ := x_le h
  refine x_eql ex5.symm ?_
  refine x_lstore_n hX [(0, .long x5)] dL_bitCount_47 rfl (by decide) rfl ?_
  refine x_lload_n hX dL_bitCount_48 rfl rfl ?_
  refine x_lload_n hX dL_bitCount_49 rfl rfl ?_
  refine x_bipush (v := 32) hX dL_bitCount_50 (by decide) ?_
  refine x_lushr hX dL_bitCount_52 ?_
  refine x_ladd hX dL_bitCount_53 ?_
  obtain ⟨x6, ex6, h⟩ := x_le h
  refine x_eql ex6.symm ?_
  refine x_lstore_n hX [(0, .long x6)] dL_bitCount_54 rfl (by decide) rfl ?_
  refine x_lload_n hX dL_bitCount_55 rfl rfl ?_
  refine x_l2i hX dL_bitCount_56 ?_
  refine x_bipush (v := 127) hX dL_bitCount_57 (by decide) ?_
  refine x_iand hX dL_bitCount_59 ?_
  cases h
  exact x_iret hX hr dL_bitCount_60 (fun H hP => ⟨rfl, hP⟩)

def m2_addSteps_B61 (N : Nat) (K : Nat → Nat × Nat) (F : Nat → Nat → Option Nat) (k3 : (Nat → Nat → Int32) → (Nat → Nat → Int64) → Nat → Int32 → Nat → Nat → Int64 → Int32 → Option ((Nat → Nat → Int32) × (Nat → Nat → Int64))) (I : (Nat → Nat → Int32)) (J : (Nat → Nat → Int64)) (v0 : Nat) (v1 : Int32) (v2 : Nat) (v3 : Nat) (v4 : Int64) (v6 : Int32) (w0 : Int32) : Option ((Nat → Nat → Int32) × (Nat → Nat → Int64)) :=
  if v0 < N ∧ K v0 = (0, 2) then (xb (F v0 1) fun q2 => if q2 < N ∧ (K q2).1 = 1 ∧ xinb (I v0 0) (K q2).2 then (xlet (xu I q2 ((I v0 0).toNatClampNeg) (((v1 <<< ((8 : Int32) &&& 31)) ||| (w0 <<< ((6 : Int32) &&& 31))) ||| v6)) fun I4 => xb (F v0 2) fun q5 => if v2 < N ∧ K v2 = (0, 3) then (xb (F v2 1) fun q7 => if q7 < N ∧ (K q7).1 = 2 ∧ xinb v6 (K q7).2 then (if q5 < N ∧ (K q5).1 = 2 ∧ xinb (I4 v0 0) (K q5).2 then (xlet (xu J q5 ((I4 v0 0).toNatClampNeg) (J q7 (v6.toNatClampNeg))) fun J10 => xb (F v0 3) fun q11 => if v3 < N ∧ K v3 = (0, 3) then (xb (F v3 1) fun q13 => if q13 < N ∧ (K q13).1 = 2 ∧ xinb v6 (K q13).2 then (if q11 < N ∧ (K q11).1 = 2 ∧ xinb (I4 v0 0) (K q11).2 then (xlet (xu J10 q11 ((I4 v0 0).toNatClampNeg) (J10 q13 (v6.toNatClampNeg))) fun J16 => xlet (xu I4 v0 0 ((I4 v0 0) + (1 : Int32))) fun I17 => xlet (v6 + (1 : Int32)) fun x18 => k3 I17 J16 v0 v1 v2 v3 v4 x18) else none) else none) else none) else none) else none) else none) else none) else none
def m2_addSteps_L3 (N : Nat) (K : Nat → Nat × Nat) (F : Nat → Nat → Option Nat) : Nat → (Nat → Nat → Int32) → (Nat → Nat → Int64) → Nat → Int32 → Nat → Nat → Int64 → Int32 → Option ((Nat → Nat → Int32) × (Nat → Nat → Int64))
  | 0, _, _, _, _, _, _, _, _ => none
  | n + 1, I, J, v0, v1, v2, v3, v4, v6 => if (64 : Int32) ≤ v6 then (some (I, J)) else (if (((v4.toUInt64 >>> (v6.toInt64.toUInt64 &&& Int64.toUInt64 63)).toInt64) &&& (1 : Int64)) = (0 : Int64) then (xlet (v6 + (1 : Int32)) fun x1 => m2_addSteps_L3 N K F n I J v0 v1 v2 v3 v4 x1) else (if v0 < N ∧ K v0 = (0, 2) then (xb (F v0 1) fun q3 => if q3 < N ∧ (K q3).1 = 1 then (if (nI (K q3).2) ≤ (I v0 0) then (xlet (v6 + (1 : Int32)) fun x5 => m2_addSteps_L3 N K F n I J v0 v1 v2 v3 v4 x5) else (if v2 < N ∧ K v2 = (0, 3) then (xb (m3_holds N K F I J v2 v6) fun x7 => if ¬ x7 = 0 then (if v3 < N ∧ K v3 = (0, 3) then (xb (m3_holds N K F I J v3 v6) fun x10 => if x10 = 0 then (m2_addSteps_B61 N K F (m2_addSteps_L3 N K F n) I J v0 v1 v2 v3 v4 v6 (2 : Int32)) else (m2_addSteps_B61 N K F (m2_addSteps_L3 N K F n) I J v0 v1 v2 v3 v4 v6 (1 : Int32))) else none) else (m2_addSteps_B61 N K F (m2_addSteps_L3 N K F n) I J v0 v1 v2 v3 v4 v6 (0 : Int32))) else none)) else none) else none))
def m2_addSteps (N : Nat) (K : Nat → Nat × Nat) (F : Nat → Nat → Option Nat) (I : (Nat → Nat → Int32)) (J : (Nat → Nat → Int64)) (a0 : Nat) (a1 : Int32) (a2 : Nat) (a3 : Nat) (a4 : Int64) : Option ((Nat → Nat → Int32) × (Nat → Nat → Int64)) :=
  m2_addSteps_L3 N K F xFu I J a0 a1 a2 a3 a4 (0 : Int32)
set_option maxRecDepth 100000 in
set_option maxHeartbeats 4000000 in
theorem t_m2_addSteps_B61 {X : xX} {B d : Nat} {g : xG} {N : Nat} {K : Nat → Nat × Nat} {F : Nat → Nat → Option Nat} {I' : (Nat → Nat → Int32)} {J' : (Nat → Nat → Int64)} {k3 : (Nat → Nat → Int32) → (Nat → Nat → Int64) → Nat → Int32 → Nat → Nat → Int64 → Int32 → Option ((Nat → Nat → Int32) × (Nat → Nat → Int64))} (hX : xO X c2_addSteps "ChangeRows$Changes" 8 B g) (hR : x_R X = xrm (d + 1) 0 0) (hr : (x_meth X).sig.returnType = none) (hk3 : ∀ (I : (Nat → Nat → Int32)) (J : (Nat → Nat → Int64)) (v0 : Nat) (v1 : Int32) (v2 : Nat) (v3 : Nat) (v4 : Int64) (v6 : Int32), k3 I J v0 v1 v2 v3 v4 v6 = some (I', J') → xV X B 8 (xZ X B 0 0 (xq none (xP g B N K I' J' F))) 0 0 (xP g B N K I J F) 3 [(0, .ref (B + v0)), (1, .int v1), (2, .ref (B + v2)), (3, .ref (B + v3)), (4, .long v4), (6, .int v6)] []) (I : (Nat → Nat → Int32)) (J : (Nat → Nat → Int64)) (v0 : Nat) (v1 : Int32) (v2 : Nat) (v3 : Nat) (v4 : Int64) (v6 : Int32) (w0 : Int32) (h : m2_addSteps_B61 N K F k3 I J v0 v1 v2 v3 v4 v6 w0 = some (I', J')) : xV X B 8 (xZ X B 0 0 (xq none (xP g B N K I' J' F))) 0 0 (xP g B N K I J F) 61 [(0, .ref (B + v0)), (1, .int v1), (2, .ref (B + v2)), (3, .ref (B + v3)), (4, .long v4), (6, .int v6)] [.int w0] := by
  unfold m2_addSteps_B61 at h
  refine x_istore hX [(7, .int w0), (0, .ref (B + v0)), (1, .int v1), (2, .ref (B + v2)), (3, .ref (B + v3)), (4, .long v4), (6, .int v6)] d2_addSteps_61 (by decide) rfl ?_
  refine x_aload_n hX d2_addSteps_63 rfl rfl ?_
  obtain ⟨hg1, h⟩ := x_gd h
  obtain ⟨q2, eq2, h⟩ := x_bd h
  refine x_getF (j := 1) hX xc2 hg1.1 hg1.2 (by decide) rfl eq2 kF2_21 d2_addSteps_64 ?_
  refine x_aload_n hX d2_addSteps_67 rfl rfl ?_
  refine x_getI (j := 0) hX xc2 hg1.1 hg1.2 (by decide) rfl kF2_9 d2_addSteps_68 ?_
  refine x_iload_n hX d2_addSteps_71 rfl rfl ?_
  refine x_bipush (v := 8) hX d2_addSteps_72 (by decide) ?_
  refine x_ishl hX d2_addSteps_74 ?_
  refine x_iload hX d2_addSteps_75 rfl ?_
  refine x_bipush (v := 6) hX d2_addSteps_77 (by decide) ?_
  refine x_ishl hX d2_addSteps_79 ?_
  refine x_ior hX d2_addSteps_80 ?_
  refine x_iload hX d2_addSteps_81 rfl ?_
  refine x_ior hX d2_addSteps_83 ?_
  obtain ⟨hg3, h⟩ := x_gd h
  refine x_iast hX hg3.1 (x_kd hg3.2.1) (x_in hg3.2.2) d2_addSteps_84 ?_
  obtain ⟨I4, eI4, h⟩ := x_le h
  rw [← eI4]
  refine x_aload_n hX d2_addSteps_85 rfl rfl ?_
  obtain ⟨q5, eq5, h⟩ := x_bd h
  refine x_getF (j := 2) hX xc2 hg1.1 hg1.2 (by decide) rfl eq5 kF2_25 d2_addSteps_86 ?_
  refine x_aload_n hX d2_addSteps_89 rfl rfl ?_
  refine x_getI (j := 0) hX xc2 hg1.1 hg1.2 (by decide) rfl kF2_9 d2_addSteps_90 ?_
  refine x_aload_n hX d2_addSteps_93 rfl rfl ?_
  obtain ⟨hg6, h⟩ := x_gd h
  obtain ⟨q7, eq7, h⟩ := x_bd h
  refine x_getF (j := 1) hX xc3 hg6.1 hg6.2 (by decide) rfl eq7 kF2_38 d2_addSteps_94 ?_
  refine x_iload hX d2_addSteps_97 rfl ?_
  obtain ⟨hg8, h⟩ := x_gd h
  refine x_lald hX hg8.1 (x_kd hg8.2.1) (x_in hg8.2.2) d2_addSteps_99 ?_
  obtain ⟨hg9, h⟩ := x_gd h
  refine x_last hX hg9.1 (x_kd hg9.2.1) (x_in hg9.2.2) d2_addSteps_100 ?_
  obtain ⟨J10, eJ10, h⟩ := x_le h
  rw [← eJ10]
  refine x_aload_n hX d2_addSteps_101 rfl rfl ?_
  obtain ⟨q11, eq11, h⟩ := x_bd h
  refine x_getF (j := 3) hX xc2 hg1.1 hg1.2 (by decide) rfl eq11 kF2_29 d2_addSteps_102 ?_
  refine x_aload_n hX d2_addSteps_105 rfl rfl ?_
  refine x_getI (j := 0) hX xc2 hg1.1 hg1.2 (by decide) rfl kF2_9 d2_addSteps_106 ?_
  refine x_aload_n hX d2_addSteps_109 rfl rfl ?_
  obtain ⟨hg12, h⟩ := x_gd h
  obtain ⟨q13, eq13, h⟩ := x_bd h
  refine x_getF (j := 1) hX xc3 hg12.1 hg12.2 (by decide) rfl eq13 kF2_38 d2_addSteps_110 ?_
  refine x_iload hX d2_addSteps_113 rfl ?_
  obtain ⟨hg14, h⟩ := x_gd h
  refine x_lald hX hg14.1 (x_kd hg14.2.1) (x_in hg14.2.2) d2_addSteps_115 ?_
  obtain ⟨hg15, h⟩ := x_gd h
  refine x_last hX hg15.1 (x_kd hg15.2.1) (x_in hg15.2.2) d2_addSteps_116 ?_
  obtain ⟨J16, eJ16, h⟩ := x_le h
  rw [← eJ16]
  refine x_aload_n hX d2_addSteps_117 rfl rfl ?_
  refine x_dup hX d2_addSteps_118 rfl ?_
  refine x_getI (j := 0) hX xc2 hg1.1 hg1.2 (by decide) rfl kF2_9 d2_addSteps_119 ?_
  refine x_iconst (v := 1) hX d2_addSteps_122 (by decide) ?_
  refine x_iadd hX d2_addSteps_123 ?_
  refine x_putI (j := 0) hX xc2 hg1.1 hg1.2 (by decide) rfl kF2_9 (Or.inl rfl) rfl rfl d2_addSteps_124 ?_
  obtain ⟨I17, eI17, h⟩ := x_le h
  rw [← eI17]
  obtain ⟨x18, ex18, h⟩ := x_le h
  refine x_iinc (j := 6) hX [(6, .int x18), (7, .int w0), (0, .ref (B + v0)), (1, .int v1), (2, .ref (B + v2)), (3, .ref (B + v3)), (4, .long v4)] d2_addSteps_127 rfl (by rw [ex18]; rfl) (by decide) rfl ?_
  refine x_goto (tgt := 3) hX d2_addSteps_130 (by decide) ?_
  refine x_sub [2, 3, 4, 5, 6, 0] rfl ?_
  exact hk3 _ _ _ _ _ _ _ _ h
set_option maxRecDepth 100000 in
set_option maxHeartbeats 4000000 in
theorem t_m2_addSteps_L3 {X : xX} {B d : Nat} {g : xG} {N : Nat} {K : Nat → Nat × Nat} {F : Nat → Nat → Option Nat} {I' : (Nat → Nat → Int32)} {J' : (Nat → Nat → Int64)} (hX : xO X c2_addSteps "ChangeRows$Changes" 8 B g) (hR : x_R X = xrm (d + 1) 0 0) (hr : (x_meth X).sig.returnType = none) : ∀ (n : Nat) (I : (Nat → Nat → Int32)) (J : (Nat → Nat → Int64)) (v0 : Nat) (v1 : Int32) (v2 : Nat) (v3 : Nat) (v4 : Int64) (v6 : Int32), m2_addSteps_L3 N K F n I J v0 v1 v2 v3 v4 v6 = some (I', J') → xV X B 8 (xZ X B 0 0 (xq none (xP g B N K I' J' F))) 0 0 (xP g B N K I J F) 3 [(0, .ref (B + v0)), (1, .int v1), (2, .ref (B + v2)), (3, .ref (B + v3)), (4, .long v4), (6, .int v6)] [] := by
  intro n
  induction n with
  | zero =>
    intro I J v0 v1 v2 v3 v4 v6 h
    cases h
  | succ n ih =>
    intro I J v0 v1 v2 v3 v4 v6 h
    rw [m2_addSteps_L3] at h
    refine x_iload hX d2_addSteps_3 rfl ?_
    refine x_bipush (v := 64) hX d2_addSteps_5 (by decide) ?_
    refine x_icmp_ge (tgt := 133) hX d2_addSteps_7 (by decide) (fun hc => ?_) (fun hc => ?_)
    · rw [if_pos hc] at h
      cases h
      exact x_vret hX hr d2_addSteps_133 (fun H hP => ⟨rfl, hP⟩)
    · rw [if_neg hc] at h
      refine x_lload hX d2_addSteps_10 rfl ?_
      refine x_iload hX d2_addSteps_12 rfl ?_
      refine x_lushr hX d2_addSteps_14 ?_
      refine x_lconst (v := 1) hX d2_addSteps_15 (by decide) ?_
      refine x_land hX d2_addSteps_16 ?_
      refine x_lconst (v := 0) hX d2_addSteps_17 (by decide) ?_
      refine x_lif_eq (tgt := 127) hX d2_addSteps_18 d2_addSteps_19 (by decide) (fun hc => ?_) (fun hc => ?_)
      · rw [if_pos hc] at h
        obtain ⟨x1, ex1, h⟩ := x_le h
        refine x_iinc (j := 5) hX [(6, .int x1), (0, .ref (B + v0)), (1, .int v1), (2, .ref (B + v2)), (3, .ref (B + v3)), (4, .long v4)] d2_addSteps_127 rfl (by rw [ex1]; rfl) (by decide) rfl ?_
        refine x_goto (tgt := 3) hX d2_addSteps_130 (by decide) ?_
        refine x_sub [1, 2, 3, 4, 5, 0] rfl ?_
        exact ih _ _ _ _ _ _ _ _ h
      · rw [if_neg hc] at h
        refine x_aload_n hX d2_addSteps_22 rfl rfl ?_
        obtain ⟨hg2, h⟩ := x_gd h
        refine x_getI (j := 0) hX xc2 hg2.1 hg2.2 (by decide) rfl kF2_9 d2_addSteps_23 ?_
        refine x_aload_n hX d2_addSteps_26 rfl rfl ?_
        obtain ⟨q3, eq3, h⟩ := x_bd h
        refine x_getF (j := 1) hX xc2 hg2.1 hg2.2 (by decide) rfl eq3 kF2_21 d2_addSteps_27 ?_
        obtain ⟨hg4, h⟩ := x_gd h
        refine x_alen (t := 0) hX hg4.1 (x_kd hg4.2) (by decide) d2_addSteps_30 ?_
        refine x_icmp_ge (tgt := 127) hX d2_addSteps_31 (by decide) (fun hc => ?_) (fun hc => ?_)
        · rw [if_pos hc] at h
          obtain ⟨x5, ex5, h⟩ := x_le h
          refine x_iinc (j := 5) hX [(6, .int x5), (0, .ref (B + v0)), (1, .int v1), (2, .ref (B + v2)), (3, .ref (B + v3)), (4, .long v4)] d2_addSteps_127 rfl (by rw [ex5]; rfl) (by decide) rfl ?_
          refine x_goto (tgt := 3) hX d2_addSteps_130 (by decide) ?_
          refine x_sub [1, 2, 3, 4, 5, 0] rfl ?_
          exact ih _ _ _ _ _ _ _ _ h
        · rw [if_neg hc] at h
          refine x_aload_n hX d2_addSteps_34 rfl rfl ?_
          refine x_iload hX d2_addSteps_35 rfl ?_
          obtain ⟨hg6, h⟩ := x_gd h
          obtain ⟨x7, eb8, h⟩ := x_bd h
          refine x_callV hX hR (c_m3_holds (l := x_l X) (d := d + 0) eb8) kX2_32 kN3_holds kE3_holds xc3.1 hg6.1 hg6.2 rfl rfl (Nat.le_of_ble_eq_true rfl) ⟨Nat.le_refl 0, Nat.le_refl 0⟩ d2_addSteps_37 (x_kki ?_)
          refine x_if_ne (tgt := 47) hX d2_addSteps_40 (by decide) (fun hc => ?_) (fun hc => ?_)
          · rw [if_pos hc] at h
            refine x_aload_n hX d2_addSteps_47 rfl rfl ?_
            refine x_iload hX d2_addSteps_48 rfl ?_
            obtain ⟨hg9, h⟩ := x_gd h
            obtain ⟨x10, eb11, h⟩ := x_bd h
            refine x_callV hX hR (c_m3_holds (l := x_l X) (d := d + 0) eb11) kX2_32 kN3_holds kE3_holds xc3.1 hg9.1 hg9.2 rfl rfl (Nat.le_of_ble_eq_true rfl) ⟨Nat.le_refl 0, Nat.le_refl 0⟩ d2_addSteps_50 (x_kki ?_)
            refine x_if_eq (tgt := 60) hX d2_addSteps_53 (by decide) (fun hc => ?_) (fun hc => ?_)
            · rw [if_pos hc] at h
              refine x_iconst (v := 2) hX d2_addSteps_60 (by decide) ?_
              exact t_m2_addSteps_B61 hX hR hr ih _ _ _ _ _ _ _ _ _ h
            · rw [if_neg hc] at h
              refine x_iconst (v := 1) hX d2_addSteps_56 (by decide) ?_
              refine x_goto (tgt := 61) hX d2_addSteps_57 (by decide) ?_
              exact t_m2_addSteps_B61 hX hR hr ih _ _ _ _ _ _ _ _ _ h
          · rw [if_neg (x_nn hc)] at h
            refine x_iconst (v := 0) hX d2_addSteps_43 (by decide) ?_
            refine x_goto (tgt := 61) hX d2_addSteps_44 (by decide) ?_
            exact t_m2_addSteps_B61 hX hR hr ih _ _ _ _ _ _ _ _ _ h
set_option maxRecDepth 100000 in
set_option maxHeartbeats 4000000 in
theorem c_m2_addSteps {l : Launch} {B d : Nat} {g : xG} {N : Nat} {K : Nat → Nat × Nat} {F : Nat → Nat → Option Nat} {I : (Nat → Nat → Int32)} {J : (Nat → Nat → Int64)} {a0 : Nat} {a1 : Int32} {a2 : Nat} {a3 : Nat} {a4 : Int64} {I' : (Nat → Nat → Int32)} {J' : (Nat → Nat → Int64)} (h : m2_addSteps N K F I J a0 a1 a2 a3 a4 = some (I', J')) : xC l g B (d + 1) 0 0 y2_addSteps c2_addSteps 8 none [.ref (B + a0), .int a1, .ref (B + a2), .ref (B + a3), .long a4] (xP g B N K I J F) (xq none (xP g B N K I' J' F)) := by
  refine xC_of (by decide) (Nat.le_of_ble_eq_true rfl) (fun X hl hR hr _ hX => ?_)
  refine x_sub (L' := [(0, .ref (B + a0)), (1, .int a1), (2, .ref (B + a2)), (3, .ref (B + a3)), (4, .long a4)]) [0, 1, 2, 3, 4] rfl ?_
  unfold m2_addSteps at h
  refine x_iconst (v := 0) hX d2_addSteps_0 (by decide) ?_
  refine x_istore hX [(6, .int (0 : Int32)), (0, .ref (B + a0)), (1, .int a1), (2, .ref (B + a2)), (3, .ref (B + a3)), (4, .long a4)] d2_addSteps_1 (by decide) rfl ?_
  refine x_sub [1, 2, 3, 4, 5, 0] rfl ?_
  exact t_m2_addSteps_L3 hX hR hr _ _ _ _ _ _ _ _ _ h

def m2_addAll (N : Nat) (K : Nat → Nat × Nat) (F : Nat → Nat → Option Nat) (I : (Nat → Nat → Int32)) (J : (Nat → Nat → Int64)) (a0 : Nat) (a1 : Nat) : Option ((Nat → Nat → Int32) × (Nat → Nat → Int64)) :=
  if a1 < N ∧ K a1 = (0, 2) then (if a0 < N ∧ K a0 = (0, 2) then (xb (F a0 1) fun q3 => if q3 < N ∧ (K q3).1 = 1 then (xlet ((if ((nI (K q3).2) - (I a0 0)) < (I a1 0) then ((nI (K q3).2) - (I a0 0)) else (I a1 0))) fun x5 => xb (F a1 1) fun q6 => if q6 < N ∧ (K q6).1 = 1 ∧ q3 < N ∧ (K q3).1 = 1 ∧ ¬ (0 : Int32) < 0 ∧ ¬ (I a0 0) < 0 ∧ ¬ x5 < 0 ∧ (0 : Int32).toNatClampNeg + x5.toNatClampNeg ≤ (K q6).2 ∧ (I a0 0).toNatClampNeg + x5.toNatClampNeg ≤ (K q3).2 then (xlet (va_up I q3 (va_cpy (I q6) (I q3) (0 : Int32).toNatClampNeg (I a0 0).toNatClampNeg x5.toNatClampNeg)) fun I8 => xb (F a1 2) fun q9 => xb (F a0 2) fun q10 => if q9 < N ∧ (K q9).1 = 2 ∧ q10 < N ∧ (K q10).1 = 2 ∧ ¬ (0 : Int32) < 0 ∧ ¬ (I8 a0 0) < 0 ∧ ¬ x5 < 0 ∧ (0 : Int32).toNatClampNeg + x5.toNatClampNeg ≤ (K q9).2 ∧ (I8 a0 0).toNatClampNeg + x5.toNatClampNeg ≤ (K q10).2 then (xlet (va_up J q10 (va_cpy (J q9) (J q10) (0 : Int32).toNatClampNeg (I8 a0 0).toNatClampNeg x5.toNatClampNeg)) fun J12 => xb (F a1 3) fun q13 => xb (F a0 3) fun q14 => if q13 < N ∧ (K q13).1 = 2 ∧ q14 < N ∧ (K q14).1 = 2 ∧ ¬ (0 : Int32) < 0 ∧ ¬ (I8 a0 0) < 0 ∧ ¬ x5 < 0 ∧ (0 : Int32).toNatClampNeg + x5.toNatClampNeg ≤ (K q13).2 ∧ (I8 a0 0).toNatClampNeg + x5.toNatClampNeg ≤ (K q14).2 then (xlet (va_up J12 q14 (va_cpy (J12 q13) (J12 q14) (0 : Int32).toNatClampNeg (I8 a0 0).toNatClampNeg x5.toNatClampNeg)) fun J16 => xlet (xu I8 a0 0 ((I8 a0 0) + x5)) fun I17 => some (I17, J16)) else none) else none) else none) else none) else none) else none
set_option maxRecDepth 100000 in
set_option maxHeartbeats 4000000 in
theorem c_m2_addAll {l : Launch} {B d : Nat} {g : xG} {N : Nat} {K : Nat → Nat × Nat} {F : Nat → Nat → Option Nat} {I : (Nat → Nat → Int32)} {J : (Nat → Nat → Int64)} {a0 : Nat} {a1 : Nat} {I' : (Nat → Nat → Int32)} {J' : (Nat → Nat → Int64)} (h : m2_addAll N K F I J a0 a1 = some (I', J')) : xC l g B (d + 1) 0 0 y2_addAll c2_addAll 3 none [.ref (B + a0), .ref (B + a1)] (xP g B N K I J F) (xq none (xP g B N K I' J' F)) := by
  refine xC_of (by decide) (Nat.le_of_ble_eq_true rfl) (fun X hl hR hr _ hX => ?_)
  refine x_sub (L' := [(0, .ref (B + a0)), (1, .ref (B + a1))]) [0, 1] rfl ?_
  unfold m2_addAll at h
  refine x_aload_n hX d2_addAll_0 rfl rfl ?_
  obtain ⟨hg1, h⟩ := x_gd h
  refine x_getI (j := 0) hX xc2 hg1.1 hg1.2 (by decide) rfl kF2_9 d2_addAll_1 ?_
  refine x_aload_n hX d2_addAll_4 rfl rfl ?_
  obtain ⟨hg2, h⟩ := x_gd h
  obtain ⟨q3, eq3, h⟩ := x_bd h
  refine x_getF (j := 1) hX xc2 hg2.1 hg2.2 (by decide) rfl eq3 kF2_21 d2_addAll_5 ?_
  obtain ⟨hg4, h⟩ := x_gd h
  refine x_alen (t := 0) hX hg4.1 (x_kd hg4.2) (by decide) d2_addAll_8 ?_
  refine x_aload_n hX d2_addAll_9 rfl rfl ?_
  refine x_getI (j := 0) hX xc2 hg2.1 hg2.2 (by decide) rfl kF2_9 d2_addAll_10 ?_
  refine x_isub hX d2_addAll_13 ?_
  refine x_mminI hX hR kM2_41 kSMathminI kIM kDMathminI (Nat.le_of_ble_eq_true rfl) d2_addAll_14 ?_
  obtain ⟨x5, ex5, h⟩ := x_le h
  refine x_eqi ex5.symm ?_
  refine x_istore_n hX [(2, .int x5), (0, .ref (B + a0)), (1, .ref (B + a1))] d2_addAll_17 rfl (by decide) rfl ?_
  refine x_aload_n hX d2_addAll_18 rfl rfl ?_
  obtain ⟨q6, eq6, h⟩ := x_bd h
  refine x_getF (j := 1) hX xc2 hg1.1 hg1.2 (by decide) rfl eq6 kF2_21 d2_addAll_19 ?_
  refine x_iconst (v := 0) hX d2_addAll_22 (by decide) ?_
  refine x_aload_n hX d2_addAll_23 rfl rfl ?_
  refine x_getF (j := 1) hX xc2 hg2.1 hg2.2 (by decide) rfl eq3 kF2_21 d2_addAll_24 ?_
  refine x_aload_n hX d2_addAll_27 rfl rfl ?_
  refine x_getI (j := 0) hX xc2 hg2.1 hg2.2 (by decide) rfl kF2_9 d2_addAll_28 ?_
  refine x_iload_n hX d2_addAll_31 rfl rfl ?_
  obtain ⟨hg7, h⟩ := x_gd h
  refine x_copyI hX hR kM2_44 kNarraycopy kSarraycopy kIS hg7.1 (x_kd hg7.2.1) hg7.2.2.1 (x_kd hg7.2.2.2.1) hg7.2.2.2.2.1 hg7.2.2.2.2.2.1 hg7.2.2.2.2.2.2.1 rfl rfl rfl hg7.2.2.2.2.2.2.2.1 hg7.2.2.2.2.2.2.2.2 (by decide) d2_addAll_32 ?_
  obtain ⟨I8, eI8, h⟩ := x_le h
  rw [← eI8]
  refine x_aload_n hX d2_addAll_35 rfl rfl ?_
  obtain ⟨q9, eq9, h⟩ := x_bd h
  refine x_getF (j := 2) hX xc2 hg1.1 hg1.2 (by decide) rfl eq9 kF2_25 d2_addAll_36 ?_
  refine x_iconst (v := 0) hX d2_addAll_39 (by decide) ?_
  refine x_aload_n hX d2_addAll_40 rfl rfl ?_
  obtain ⟨q10, eq10, h⟩ := x_bd h
  refine x_getF (j := 2) hX xc2 hg2.1 hg2.2 (by decide) rfl eq10 kF2_25 d2_addAll_41 ?_
  refine x_aload_n hX d2_addAll_44 rfl rfl ?_
  refine x_getI (j := 0) hX xc2 hg2.1 hg2.2 (by decide) rfl kF2_9 d2_addAll_45 ?_
  refine x_iload_n hX d2_addAll_48 rfl rfl ?_
  obtain ⟨hg11, h⟩ := x_gd h
  refine x_copyJ hX hR kM2_44 kNarraycopy kSarraycopy kIS hg11.1 (x_kd hg11.2.1) hg11.2.2.1 (x_kd hg11.2.2.2.1) hg11.2.2.2.2.1 hg11.2.2.2.2.2.1 hg11.2.2.2.2.2.2.1 rfl rfl rfl hg11.2.2.2.2.2.2.2.1 hg11.2.2.2.2.2.2.2.2 (by decide) d2_addAll_49 ?_
  obtain ⟨J12, eJ12, h⟩ := x_le h
  rw [← eJ12]
  refine x_aload_n hX d2_addAll_52 rfl rfl ?_
  obtain ⟨q13, eq13, h⟩ := x_bd h
  refine x_getF (j := 3) hX xc2 hg1.1 hg1.2 (by decide) rfl eq13 kF2_29 d2_addAll_53 ?_
  refine x_iconst (v := 0) hX d2_addAll_56 (by decide) ?_
  refine x_aload_n hX d2_addAll_57 rfl rfl ?_
  obtain ⟨q14, eq14, h⟩ := x_bd h
  refine x_getF (j := 3) hX xc2 hg2.1 hg2.2 (by decide) rfl eq14 kF2_29 d2_addAll_58 ?_
  refine x_aload_n hX d2_addAll_61 rfl rfl ?_
  refine x_getI (j := 0) hX xc2 hg2.1 hg2.2 (by decide) rfl kF2_9 d2_addAll_62 ?_
  refine x_iload_n hX d2_addAll_65 rfl rfl ?_
  obtain ⟨hg15, h⟩ := x_gd h
  refine x_copyJ hX hR kM2_44 kNarraycopy kSarraycopy kIS hg15.1 (x_kd hg15.2.1) hg15.2.2.1 (x_kd hg15.2.2.2.1) hg15.2.2.2.2.1 hg15.2.2.2.2.2.1 hg15.2.2.2.2.2.2.1 rfl rfl rfl hg15.2.2.2.2.2.2.2.1 hg15.2.2.2.2.2.2.2.2 (by decide) d2_addAll_66 ?_
  obtain ⟨J16, eJ16, h⟩ := x_le h
  rw [← eJ16]
  refine x_aload_n hX d2_addAll_69 rfl rfl ?_
  refine x_dup hX d2_addAll_70 rfl ?_
  refine x_getI (j := 0) hX xc2 hg2.1 hg2.2 (by decide) rfl kF2_9 d2_addAll_71 ?_
  refine x_iload_n hX d2_addAll_74 rfl rfl ?_
  refine x_iadd hX d2_addAll_75 ?_
  refine x_putI (j := 0) hX xc2 hg2.1 hg2.2 (by decide) rfl kF2_9 (Or.inl rfl) rfl rfl d2_addAll_76 ?_
  obtain ⟨I17, eI17, h⟩ := x_le h
  rw [← eI17]
  cases h
  exact x_vret hX hr d2_addAll_79 (fun H hP => ⟨rfl, hP⟩)

def m1_open (N : Nat) (K : Nat → Nat × Nat) (F : Nat → Nat → Option Nat) (I : (Nat → Nat → Int32)) (J : (Nat → Nat → Int64)) (a0 : Nat) : Option ((Nat → Nat → Int32)) :=
  if a0 < N ∧ K a0 = (0, 1) then (xlet (xu I a0 0 (1 : Int32)) fun I2 => xlet (xu I2 a0 1 (0 : Int32)) fun I3 => some I3) else none
set_option maxRecDepth 100000 in
set_option maxHeartbeats 4000000 in
theorem c_m1_open {l : Launch} {B d : Nat} {g : xG} {N : Nat} {K : Nat → Nat × Nat} {F : Nat → Nat → Option Nat} {I : (Nat → Nat → Int32)} {J : (Nat → Nat → Int64)} {a0 : Nat} {I' : (Nat → Nat → Int32)} (h : m1_open N K F I J a0 = some I') : xC l g B (d + 0) 0 0 y1_open c1_open 1 none [.ref (B + a0)] (xP g B N K I J F) (xq none (xP g B N K I' J F)) := by
  refine xC_of (by decide) (Nat.le_of_ble_eq_true rfl) (fun X hl hR hr _ hX => ?_)
  refine x_sub (L' := [(0, .ref (B + a0))]) [0] rfl ?_
  unfold m1_open at h
  refine x_aload_n hX d1_open_0 rfl rfl ?_
  refine x_iconst (v := 1) hX d1_open_1 (by decide) ?_
  obtain ⟨hg1, h⟩ := x_gd h
  refine x_putI (j := 0) hX xc1 hg1.1 hg1.2 (by decide) rfl kF1_9 (Or.inl rfl) rfl rfl d1_open_2 ?_
  obtain ⟨I2, eI2, h⟩ := x_le h
  rw [← eI2]
  refine x_aload_n hX d1_open_5 rfl rfl ?_
  refine x_iconst (v := 0) hX d1_open_6 (by decide) ?_
  refine x_putI (j := 1) hX xc1 hg1.1 hg1.2 (by decide) rfl kF1_15 (Or.inl rfl) rfl rfl d1_open_7 ?_
  obtain ⟨I3, eI3, h⟩ := x_le h
  rw [← eI3]
  cases h
  exact x_vret hX hr d1_open_10 (fun H hP => ⟨rfl, hP⟩)

def m2_tableOf (N : Nat) (K : Nat → Nat × Nat) (F : Nat → Nat → Option Nat) (I : (Nat → Nat → Int32)) (J : (Nat → Nat → Int64)) (a0 : Nat) (a1 : Int32) : Option (Int32) :=
  if a0 < N ∧ K a0 = (0, 2) then (xb (F a0 1) fun q2 => if q2 < N ∧ (K q2).1 = 1 ∧ xinb a1 (K q2).2 then (some ((I q2 (a1.toNatClampNeg)) >>> ((8 : Int32) &&& 31))) else none) else none
set_option maxRecDepth 100000 in
set_option maxHeartbeats 4000000 in
theorem c_m2_tableOf {l : Launch} {B d : Nat} {g : xG} {N : Nat} {K : Nat → Nat × Nat} {F : Nat → Nat → Option Nat} {I : (Nat → Nat → Int32)} {J : (Nat → Nat → Int64)} {a0 : Nat} {a1 : Int32} {rv : Int32} (h : m2_tableOf N K F I J a0 a1 = some rv) : xC l g B (d + 0) 0 0 y2_tableOf c2_tableOf 2 (some .int) [.ref (B + a0), .int a1] (xP g B N K I J F) (xq (some (.int rv)) (xP g B N K I J F)) := by
  refine xC_of (by decide) (Nat.le_of_ble_eq_true rfl) (fun X hl hR hr _ hX => ?_)
  refine x_sub (L' := [(0, .ref (B + a0)), (1, .int a1)]) [0, 1] rfl ?_
  unfold m2_tableOf at h
  refine x_aload_n hX d2_tableOf_0 rfl rfl ?_
  obtain ⟨hg1, h⟩ := x_gd h
  obtain ⟨q2, eq2, h⟩ := x_bd h
  refine x_getF (j := 1) hX xc2 hg1.1 hg1.2 (by decide) rfl eq2 kF2_21 d2_tableOf_1 ?_
  refine x_iload_n hX d2_tableOf_4 rfl rfl ?_
  obtain ⟨hg3, h⟩ := x_gd h
  refine x_iald hX hg3.1 (x_kd hg3.2.1) (x_in hg3.2.2) d2_tableOf_5 ?_
  refine x_bipush (v := 8) hX d2_tableOf_6 (by decide) ?_
  refine x_ishr hX d2_tableOf_8 ?_
  cases h
  exact x_iret hX hr d2_tableOf_9 (fun H hP => ⟨rfl, hP⟩)

def m2_sortOf (N : Nat) (K : Nat → Nat × Nat) (F : Nat → Nat → Option Nat) (I : (Nat → Nat → Int32)) (J : (Nat → Nat → Int64)) (a0 : Nat) (a1 : Int32) : Option (Int32) :=
  if a0 < N ∧ K a0 = (0, 2) then (xb (F a0 1) fun q2 => if q2 < N ∧ (K q2).1 = 1 ∧ xinb a1 (K q2).2 then (some (((I q2 (a1.toNatClampNeg)) >>> ((6 : Int32) &&& 31)) &&& (3 : Int32))) else none) else none
set_option maxRecDepth 100000 in
set_option maxHeartbeats 4000000 in
theorem c_m2_sortOf {l : Launch} {B d : Nat} {g : xG} {N : Nat} {K : Nat → Nat × Nat} {F : Nat → Nat → Option Nat} {I : (Nat → Nat → Int32)} {J : (Nat → Nat → Int64)} {a0 : Nat} {a1 : Int32} {rv : Int32} (h : m2_sortOf N K F I J a0 a1 = some rv) : xC l g B (d + 0) 0 0 y2_sortOf c2_sortOf 2 (some .int) [.ref (B + a0), .int a1] (xP g B N K I J F) (xq (some (.int rv)) (xP g B N K I J F)) := by
  refine xC_of (by decide) (Nat.le_of_ble_eq_true rfl) (fun X hl hR hr _ hX => ?_)
  refine x_sub (L' := [(0, .ref (B + a0)), (1, .int a1)]) [0, 1] rfl ?_
  unfold m2_sortOf at h
  refine x_aload_n hX d2_sortOf_0 rfl rfl ?_
  obtain ⟨hg1, h⟩ := x_gd h
  obtain ⟨q2, eq2, h⟩ := x_bd h
  refine x_getF (j := 1) hX xc2 hg1.1 hg1.2 (by decide) rfl eq2 kF2_21 d2_sortOf_1 ?_
  refine x_iload_n hX d2_sortOf_4 rfl rfl ?_
  obtain ⟨hg3, h⟩ := x_gd h
  refine x_iald hX hg3.1 (x_kd hg3.2.1) (x_in hg3.2.2) d2_sortOf_5 ?_
  refine x_bipush (v := 6) hX d2_sortOf_6 (by decide) ?_
  refine x_ishr hX d2_sortOf_8 ?_
  refine x_iconst (v := 3) hX d2_sortOf_9 (by decide) ?_
  refine x_iand hX d2_sortOf_10 ?_
  cases h
  exact x_iret hX hr d2_sortOf_11 (fun H hP => ⟨rfl, hP⟩)

def m2_keyOf (N : Nat) (K : Nat → Nat × Nat) (F : Nat → Nat → Option Nat) (I : (Nat → Nat → Int32)) (J : (Nat → Nat → Int64)) (a0 : Nat) (a1 : Int32) : Option (Int32) :=
  if a0 < N ∧ K a0 = (0, 2) then (xb (F a0 1) fun q2 => if q2 < N ∧ (K q2).1 = 1 ∧ xinb a1 (K q2).2 then (some ((I q2 (a1.toNatClampNeg)) &&& (63 : Int32))) else none) else none
set_option maxRecDepth 100000 in
set_option maxHeartbeats 4000000 in
theorem c_m2_keyOf {l : Launch} {B d : Nat} {g : xG} {N : Nat} {K : Nat → Nat × Nat} {F : Nat → Nat → Option Nat} {I : (Nat → Nat → Int32)} {J : (Nat → Nat → Int64)} {a0 : Nat} {a1 : Int32} {rv : Int32} (h : m2_keyOf N K F I J a0 a1 = some rv) : xC l g B (d + 0) 0 0 y2_keyOf c2_keyOf 2 (some .int) [.ref (B + a0), .int a1] (xP g B N K I J F) (xq (some (.int rv)) (xP g B N K I J F)) := by
  refine xC_of (by decide) (Nat.le_of_ble_eq_true rfl) (fun X hl hR hr _ hX => ?_)
  refine x_sub (L' := [(0, .ref (B + a0)), (1, .int a1)]) [0, 1] rfl ?_
  unfold m2_keyOf at h
  refine x_aload_n hX d2_keyOf_0 rfl rfl ?_
  obtain ⟨hg1, h⟩ := x_gd h
  obtain ⟨q2, eq2, h⟩ := x_bd h
  refine x_getF (j := 1) hX xc2 hg1.1 hg1.2 (by decide) rfl eq2 kF2_21 d2_keyOf_1 ?_
  refine x_iload_n hX d2_keyOf_4 rfl rfl ?_
  obtain ⟨hg3, h⟩ := x_gd h
  refine x_iald hX hg3.1 (x_kd hg3.2.1) (x_in hg3.2.2) d2_keyOf_5 ?_
  refine x_bipush (v := 63) hX d2_keyOf_6 (by decide) ?_
  refine x_iand hX d2_keyOf_8 ?_
  cases h
  exact x_iret hX hr d2_keyOf_9 (fun H hP => ⟨rfl, hP⟩)

def m3_size (N : Nat) (K : Nat → Nat × Nat) (F : Nat → Nat → Option Nat) (I : (Nat → Nat → Int32)) (J : (Nat → Nat → Int64)) (a0 : Nat) : Option (Int32) :=
  if a0 < N ∧ K a0 = (0, 3) then (xb (mL_bitCount N K F I J (J a0 0)) fun x2 => some x2) else none
set_option maxRecDepth 100000 in
set_option maxHeartbeats 4000000 in
theorem c_m3_size {l : Launch} {B d : Nat} {g : xG} {N : Nat} {K : Nat → Nat × Nat} {F : Nat → Nat → Option Nat} {I : (Nat → Nat → Int32)} {J : (Nat → Nat → Int64)} {a0 : Nat} {rv : Int32} (h : m3_size N K F I J a0 = some rv) : xC l g B (d + 1) 0 0 y3_size c3_size 1 (some .int) [.ref (B + a0)] (xP g B N K I J F) (xq (some (.int rv)) (xP g B N K I J F)) := by
  refine xC_of (by decide) (Nat.le_of_ble_eq_true rfl) (fun X hl hR hr _ hX => ?_)
  refine x_sub (L' := [(0, .ref (B + a0))]) [0] rfl ?_
  unfold m3_size at h
  refine x_aload_n hX d3_size_0 rfl rfl ?_
  obtain ⟨hg1, h⟩ := x_gd h
  refine x_getJ (j := 0) hX xc3 hg1.1 hg1.2 (by decide) rfl kF3_9 d3_size_1 ?_
  obtain ⟨x2, eb3, h⟩ := x_bd h
  refine x_callS hX hR (c_mL_bitCount (l := x_l X) (d := d + 0) eb3) kX3_19 kSL_bitCount rfl rfl (Nat.le_of_ble_eq_true rfl) ⟨Nat.le_refl 0, Nat.le_refl 0⟩ d3_size_4 (x_kki ?_)
  cases h
  exact x_iret hX hr d3_size_7 (fun H hP => ⟨rfl, hP⟩)
end
