section
-- ===== PART A: goes FIRST, ahead of the names: the tables' words, and 'selects' of the private methods out of them =====
/-- a private method of a class that the tables say can be made, by its rows of tables_1 -/
def lw_okq (q : MethodName × Nat) : Prop := (q.1.cls ≠ "java/lang/invoke/MethodHandle" ∧ q.1.cls ≠ "java/lang/invoke/VarHandle") ∧ Cond.instantiable q.1.cls q.2 ∈ tables_1 ∧ Cond.privateMethod q.1 ∈ tables_1 ∧ Cond.instanceMethod q.1 ∈ tables_1
theorem lw_p0 : lw_okq (⟨"PlainPort$ActRow", "isFull", "()Z"⟩, 6) := ⟨⟨by decide +kernel, by decide +kernel⟩, List.mem_of_getElem? (i := 25) (by decide +kernel), List.mem_of_getElem? (i := 164) (by decide +kernel), List.mem_of_getElem? (i := 165) (by decide +kernel)⟩
theorem lw_p1 : lw_okq (⟨"PlainPort$ActRow", "canTell", "(III)Z"⟩, 6) := ⟨⟨by decide +kernel, by decide +kernel⟩, List.mem_of_getElem? (i := 25) (by decide +kernel), List.mem_of_getElem? (i := 174) (by decide +kernel), List.mem_of_getElem? (i := 175) (by decide +kernel)⟩
theorem lw_p2 : lw_okq (⟨"PlainPort$ActRow", "has", "(I)Z"⟩, 6) := ⟨⟨by decide +kernel, by decide +kernel⟩, List.mem_of_getElem? (i := 25) (by decide +kernel), List.mem_of_getElem? (i := 181) (by decide +kernel), List.mem_of_getElem? (i := 182) (by decide +kernel)⟩
theorem lw_p3 : lw_okq (⟨"PlainPort$ActRow", "append", "(IIIII)I"⟩, 6) := ⟨⟨by decide +kernel, by decide +kernel⟩, List.mem_of_getElem? (i := 25) (by decide +kernel), List.mem_of_getElem? (i := 185) (by decide +kernel), List.mem_of_getElem? (i := 186) (by decide +kernel)⟩
theorem lw_p4 : lw_okq (⟨"PlainPort$ActRow", "voidsAsKnown", "(I)I"⟩, 6) := ⟨⟨by decide +kernel, by decide +kernel⟩, List.mem_of_getElem? (i := 25) (by decide +kernel), List.mem_of_getElem? (i := 198) (by decide +kernel), List.mem_of_getElem? (i := 199) (by decide +kernel)⟩
theorem lw_p5 : lw_okq (⟨"PlainPort$ActRow", "isVoid", "(II)Z"⟩, 6) := ⟨⟨by decide +kernel, by decide +kernel⟩, List.mem_of_getElem? (i := 25) (by decide +kernel), List.mem_of_getElem? (i := 202) (by decide +kernel), List.mem_of_getElem? (i := 203) (by decide +kernel)⟩
theorem lw_p6 : lw_okq (⟨"java/lang/Throwable", "fillInStackTrace", "(I)Ljava/lang/Throwable;"⟩, 6) := ⟨⟨by decide +kernel, by decide +kernel⟩, List.mem_of_getElem? (i := 254) (by decide +kernel), List.mem_of_getElem? (i := 252) (by decide +kernel), List.mem_of_getElem? (i := 253) (by decide +kernel)⟩
theorem lw_p7 : lw_okq (⟨"PlainPort", "draw", "(LPlainPort$Picture;II)V"⟩, 8) := ⟨⟨by decide +kernel, by decide +kernel⟩, List.mem_of_getElem? (i := 17) (by decide +kernel), List.mem_of_getElem? (i := 284) (by decide +kernel), List.mem_of_getElem? (i := 285) (by decide +kernel)⟩
theorem lw_p8 : lw_okq (⟨"PlainPort", "gather", "(II)V"⟩, 8) := ⟨⟨by decide +kernel, by decide +kernel⟩, List.mem_of_getElem? (i := 17) (by decide +kernel), List.mem_of_getElem? (i := 288) (by decide +kernel), List.mem_of_getElem? (i := 289) (by decide +kernel)⟩
theorem lw_p9 : lw_okq (⟨"PlainPort$Order", "gather", "(LPlainPort$ActRow;II)V"⟩, 2) := ⟨⟨by decide +kernel, by decide +kernel⟩, List.mem_of_getElem? (i := 65) (by decide +kernel), List.mem_of_getElem? (i := 293) (by decide +kernel), List.mem_of_getElem? (i := 294) (by decide +kernel)⟩
theorem lw_p10 : lw_okq (⟨"PlainPort$ActRow", "holds", "(III)Z"⟩, 6) := ⟨⟨by decide +kernel, by decide +kernel⟩, List.mem_of_getElem? (i := 25) (by decide +kernel), List.mem_of_getElem? (i := 297) (by decide +kernel), List.mem_of_getElem? (i := 298) (by decide +kernel)⟩
theorem lw_p11 : lw_okq (⟨"PlainPort$Order", "insert", "(LPlainPort$ActRow;I)V"⟩, 2) := ⟨⟨by decide +kernel, by decide +kernel⟩, List.mem_of_getElem? (i := 65) (by decide +kernel), List.mem_of_getElem? (i := 301) (by decide +kernel), List.mem_of_getElem? (i := 302) (by decide +kernel)⟩
theorem lw_p12 : lw_okq (⟨"PlainPort$ActRow", "goesAhead", "(II)Z"⟩, 6) := ⟨⟨by decide +kernel, by decide +kernel⟩, List.mem_of_getElem? (i := 25) (by decide +kernel), List.mem_of_getElem? (i := 305) (by decide +kernel), List.mem_of_getElem? (i := 306) (by decide +kernel)⟩
theorem lw_p13 : lw_okq (⟨"PlainPort$Picture", "draw", "(LPlainPort$ActRow;LPlainPort$Order;)V"⟩, 3) := ⟨⟨by decide +kernel, by decide +kernel⟩, List.mem_of_getElem? (i := 82) (by decide +kernel), List.mem_of_getElem? (i := 309) (by decide +kernel), List.mem_of_getElem? (i := 310) (by decide +kernel)⟩
theorem lw_p14 : lw_okq (⟨"PlainPort$Picture", "apply", "(III)V"⟩, 3) := ⟨⟨by decide +kernel, by decide +kernel⟩, List.mem_of_getElem? (i := 82) (by decide +kernel), List.mem_of_getElem? (i := 316) (by decide +kernel), List.mem_of_getElem? (i := 317) (by decide +kernel)⟩
theorem lw_p15 : lw_okq (⟨"PlainPort$Picture", "boxIn", "(I)I"⟩, 3) := ⟨⟨by decide +kernel, by decide +kernel⟩, List.mem_of_getElem? (i := 82) (by decide +kernel), List.mem_of_getElem? (i := 320) (by decide +kernel), List.mem_of_getElem? (i := 321) (by decide +kernel)⟩
def lw_privs_1 : List (MethodName × Nat) := [(⟨"PlainPort$ActRow", "isFull", "()Z"⟩, 6), (⟨"PlainPort$ActRow", "canTell", "(III)Z"⟩, 6), (⟨"PlainPort$ActRow", "has", "(I)Z"⟩, 6), (⟨"PlainPort$ActRow", "append", "(IIIII)I"⟩, 6), (⟨"PlainPort$ActRow", "voidsAsKnown", "(I)I"⟩, 6), (⟨"PlainPort$ActRow", "isVoid", "(II)Z"⟩, 6), (⟨"java/lang/Throwable", "fillInStackTrace", "(I)Ljava/lang/Throwable;"⟩, 6), (⟨"PlainPort", "draw", "(LPlainPort$Picture;II)V"⟩, 8), (⟨"PlainPort", "gather", "(II)V"⟩, 8), (⟨"PlainPort$Order", "gather", "(LPlainPort$ActRow;II)V"⟩, 2), (⟨"PlainPort$ActRow", "holds", "(III)Z"⟩, 6), (⟨"PlainPort$Order", "insert", "(LPlainPort$ActRow;I)V"⟩, 2), (⟨"PlainPort$ActRow", "goesAhead", "(II)Z"⟩, 6), (⟨"PlainPort$Picture", "draw", "(LPlainPort$ActRow;LPlainPort$Order;)V"⟩, 3), (⟨"PlainPort$Picture", "apply", "(III)V"⟩, 3), (⟨"PlainPort$Picture", "boxIn", "(I)I"⟩, 3)]
theorem lw_r1 : ∀ q ∈ lw_privs_1, lw_okq q := List.forall_mem_cons.mpr ⟨lw_p0, List.forall_mem_cons.mpr ⟨lw_p1, List.forall_mem_cons.mpr ⟨lw_p2, List.forall_mem_cons.mpr ⟨lw_p3, List.forall_mem_cons.mpr ⟨lw_p4, List.forall_mem_cons.mpr ⟨lw_p5, List.forall_mem_cons.mpr ⟨lw_p6, List.forall_mem_cons.mpr ⟨lw_p7, List.forall_mem_cons.mpr ⟨lw_p8, List.forall_mem_cons.mpr ⟨lw_p9, List.forall_mem_cons.mpr ⟨lw_p10, List.forall_mem_cons.mpr ⟨lw_p11, List.forall_mem_cons.mpr ⟨lw_p12, List.forall_mem_cons.mpr ⟨lw_p13, List.forall_mem_cons.mpr ⟨lw_p14, List.forall_mem_cons.mpr ⟨lw_p15, fun _ h => absurd h List.not_mem_nil⟩⟩⟩⟩⟩⟩⟩⟩⟩⟩⟩⟩⟩⟩⟩⟩
theorem lw_p16 : lw_okq (⟨"PlainPort$Shares", "serveAll", "(LPlainPort$ActRow;LPlainPort$Order;)V"⟩, 3) := ⟨⟨by decide +kernel, by decide +kernel⟩, List.mem_of_getElem? (i := 102) (by decide +kernel), List.mem_of_getElem? (i := 356) (by decide +kernel), List.mem_of_getElem? (i := 357) (by decide +kernel)⟩
theorem lw_p17 : lw_okq (⟨"PlainPort$Shares", "gatherAsks", "(LPlainPort$ActRow;LPlainPort$Order;)V"⟩, 3) := ⟨⟨by decide +kernel, by decide +kernel⟩, List.mem_of_getElem? (i := 102) (by decide +kernel), List.mem_of_getElem? (i := 361) (by decide +kernel), List.mem_of_getElem? (i := 362) (by decide +kernel)⟩
theorem lw_p18 : lw_okq (⟨"PlainPort$Shares", "startsTime", "(LPlainPort$ActRow;I)Z"⟩, 3) := ⟨⟨by decide +kernel, by decide +kernel⟩, List.mem_of_getElem? (i := 102) (by decide +kernel), List.mem_of_getElem? (i := 365) (by decide +kernel), List.mem_of_getElem? (i := 366) (by decide +kernel)⟩
theorem lw_p19 : lw_okq (⟨"PlainPort$Shares", "endOfTime", "(LPlainPort$ActRow;I)I"⟩, 3) := ⟨⟨by decide +kernel, by decide +kernel⟩, List.mem_of_getElem? (i := 102) (by decide +kernel), List.mem_of_getElem? (i := 369) (by decide +kernel), List.mem_of_getElem? (i := 370) (by decide +kernel)⟩
theorem lw_p20 : lw_okq (⟨"PlainPort$Shares", "serveTime", "(LPlainPort$ActRow;III)I"⟩, 3) := ⟨⟨by decide +kernel, by decide +kernel⟩, List.mem_of_getElem? (i := 102) (by decide +kernel), List.mem_of_getElem? (i := 373) (by decide +kernel), List.mem_of_getElem? (i := 374) (by decide +kernel)⟩
theorem lw_p21 : lw_okq (⟨"PlainPort$Bringing", "leastWay", "(LPlainPort$Picture;)I"⟩, 3) := ⟨⟨by decide +kernel, by decide +kernel⟩, List.mem_of_getElem? (i := 119) (by decide +kernel), List.mem_of_getElem? (i := 403) (by decide +kernel), List.mem_of_getElem? (i := 404) (by decide +kernel)⟩
theorem lw_p22 : lw_okq (⟨"PlainPort$Bringing", "gatherBoxes", "(LPlainPort$Picture;)Z"⟩, 3) := ⟨⟨by decide +kernel, by decide +kernel⟩, List.mem_of_getElem? (i := 119) (by decide +kernel), List.mem_of_getElem? (i := 407) (by decide +kernel), List.mem_of_getElem? (i := 408) (by decide +kernel)⟩
theorem lw_p23 : lw_okq (⟨"PlainPort$Bringing", "leastFor", "(I)I"⟩, 3) := ⟨⟨by decide +kernel, by decide +kernel⟩, List.mem_of_getElem? (i := 119) (by decide +kernel), List.mem_of_getElem? (i := 411) (by decide +kernel), List.mem_of_getElem? (i := 412) (by decide +kernel)⟩
theorem lw_p24 : lw_okq (⟨"PlainPort$Picture", "differencesFrom", "(LPlainPort$Picture;)I"⟩, 3) := ⟨⟨by decide +kernel, by decide +kernel⟩, List.mem_of_getElem? (i := 82) (by decide +kernel), List.mem_of_getElem? (i := 458) (by decide +kernel), List.mem_of_getElem? (i := 459) (by decide +kernel)⟩
theorem lw_p25 : lw_okq (⟨"PlainPortModel", "fits", "(III)Z"⟩, 14) := ⟨⟨by decide +kernel, by decide +kernel⟩, List.mem_of_getElem? (i := 462) (by decide +kernel), List.mem_of_getElem? (i := 519) (by decide +kernel), List.mem_of_getElem? (i := 520) (by decide +kernel)⟩
theorem lw_p26 : lw_okq (⟨"PlainPortModel", "isAsked", "(ZII)Z"⟩, 14) := ⟨⟨by decide +kernel, by decide +kernel⟩, List.mem_of_getElem? (i := 462) (by decide +kernel), List.mem_of_getElem? (i := 539) (by decide +kernel), List.mem_of_getElem? (i := 540) (by decide +kernel)⟩
theorem lw_p27 : lw_okq (⟨"PlainPortModel", "finds", "(II)V"⟩, 14) := ⟨⟨by decide +kernel, by decide +kernel⟩, List.mem_of_getElem? (i := 462) (by decide +kernel), List.mem_of_getElem? (i := 543) (by decide +kernel), List.mem_of_getElem? (i := 544) (by decide +kernel)⟩
theorem lw_p28 : lw_okq (⟨"PlainPortModel", "next", "(III)I"⟩, 14) := ⟨⟨by decide +kernel, by decide +kernel⟩, List.mem_of_getElem? (i := 462) (by decide +kernel), List.mem_of_getElem? (i := 547) (by decide +kernel), List.mem_of_getElem? (i := 548) (by decide +kernel)⟩
theorem lw_p29 : lw_okq (⟨"PlainPortModel", "counts", "(III)Z"⟩, 14) := ⟨⟨by decide +kernel, by decide +kernel⟩, List.mem_of_getElem? (i := 462) (by decide +kernel), List.mem_of_getElem? (i := 551) (by decide +kernel), List.mem_of_getElem? (i := 552) (by decide +kernel)⟩
theorem lw_p30 : lw_okq (⟨"PlainPortModel", "isVoid", "(II)Z"⟩, 14) := ⟨⟨by decide +kernel, by decide +kernel⟩, List.mem_of_getElem? (i := 462) (by decide +kernel), List.mem_of_getElem? (i := 555) (by decide +kernel), List.mem_of_getElem? (i := 556) (by decide +kernel)⟩
theorem lw_p31 : lw_okq (⟨"PlainPortModel", "order", "(I)I"⟩, 14) := ⟨⟨by decide +kernel, by decide +kernel⟩, List.mem_of_getElem? (i := 462) (by decide +kernel), List.mem_of_getElem? (i := 559) (by decide +kernel), List.mem_of_getElem? (i := 560) (by decide +kernel)⟩
def lw_privs_2 : List (MethodName × Nat) := [(⟨"PlainPort$Shares", "serveAll", "(LPlainPort$ActRow;LPlainPort$Order;)V"⟩, 3), (⟨"PlainPort$Shares", "gatherAsks", "(LPlainPort$ActRow;LPlainPort$Order;)V"⟩, 3), (⟨"PlainPort$Shares", "startsTime", "(LPlainPort$ActRow;I)Z"⟩, 3), (⟨"PlainPort$Shares", "endOfTime", "(LPlainPort$ActRow;I)I"⟩, 3), (⟨"PlainPort$Shares", "serveTime", "(LPlainPort$ActRow;III)I"⟩, 3), (⟨"PlainPort$Bringing", "leastWay", "(LPlainPort$Picture;)I"⟩, 3), (⟨"PlainPort$Bringing", "gatherBoxes", "(LPlainPort$Picture;)Z"⟩, 3), (⟨"PlainPort$Bringing", "leastFor", "(I)I"⟩, 3), (⟨"PlainPort$Picture", "differencesFrom", "(LPlainPort$Picture;)I"⟩, 3), (⟨"PlainPortModel", "fits", "(III)Z"⟩, 14), (⟨"PlainPortModel", "isAsked", "(ZII)Z"⟩, 14), (⟨"PlainPortModel", "finds", "(II)V"⟩, 14), (⟨"PlainPortModel", "next", "(III)I"⟩, 14), (⟨"PlainPortModel", "counts", "(III)Z"⟩, 14), (⟨"PlainPortModel", "isVoid", "(II)Z"⟩, 14), (⟨"PlainPortModel", "order", "(I)I"⟩, 14)]
theorem lw_r2 : ∀ q ∈ lw_privs_2, lw_okq q := List.forall_mem_cons.mpr ⟨lw_p16, List.forall_mem_cons.mpr ⟨lw_p17, List.forall_mem_cons.mpr ⟨lw_p18, List.forall_mem_cons.mpr ⟨lw_p19, List.forall_mem_cons.mpr ⟨lw_p20, List.forall_mem_cons.mpr ⟨lw_p21, List.forall_mem_cons.mpr ⟨lw_p22, List.forall_mem_cons.mpr ⟨lw_p23, List.forall_mem_cons.mpr ⟨lw_p24, List.forall_mem_cons.mpr ⟨lw_p25, List.forall_mem_cons.mpr ⟨lw_p26, List.forall_mem_cons.mpr ⟨lw_p27, List.forall_mem_cons.mpr ⟨lw_p28, List.forall_mem_cons.mpr ⟨lw_p29, List.forall_mem_cons.mpr ⟨lw_p30, List.forall_mem_cons.mpr ⟨lw_p31, fun _ h => absurd h List.not_mem_nil⟩⟩⟩⟩⟩⟩⟩⟩⟩⟩⟩⟩⟩⟩⟩⟩
theorem lw_p32 : lw_okq (⟨"PlainPortModel", "holds", "(I)V"⟩, 14) := ⟨⟨by decide +kernel, by decide +kernel⟩, List.mem_of_getElem? (i := 462) (by decide +kernel), List.mem_of_getElem? (i := 563) (by decide +kernel), List.mem_of_getElem? (i := 564) (by decide +kernel)⟩
theorem lw_p33 : lw_okq (⟨"PlainPortModel", "boxAt", "(I)I"⟩, 14) := ⟨⟨by decide +kernel, by decide +kernel⟩, List.mem_of_getElem? (i := 462) (by decide +kernel), List.mem_of_getElem? (i := 567) (by decide +kernel), List.mem_of_getElem? (i := 568) (by decide +kernel)⟩
theorem lw_p34 : lw_okq (⟨"PlainPortModel", "serves", "(IIII)I"⟩, 14) := ⟨⟨by decide +kernel, by decide +kernel⟩, List.mem_of_getElem? (i := 462) (by decide +kernel), List.mem_of_getElem? (i := 587) (by decide +kernel), List.mem_of_getElem? (i := 588) (by decide +kernel)⟩
theorem lw_p35 : lw_okq (⟨"PlainPortModel", "asks", "(IIII)Z"⟩, 14) := ⟨⟨by decide +kernel, by decide +kernel⟩, List.mem_of_getElem? (i := 462) (by decide +kernel), List.mem_of_getElem? (i := 591) (by decide +kernel), List.mem_of_getElem? (i := 592) (by decide +kernel)⟩
theorem lw_p36 : lw_okq (⟨"PlainPortModel", "leastOf", "(I)I"⟩, 14) := ⟨⟨by decide +kernel, by decide +kernel⟩, List.mem_of_getElem? (i := 462) (by decide +kernel), List.mem_of_getElem? (i := 609) (by decide +kernel), List.mem_of_getElem? (i := 610) (by decide +kernel)⟩
theorem lw_p37 : lw_okq (⟨"PlainPortModel", "lying", "(I)I"⟩, 14) := ⟨⟨by decide +kernel, by decide +kernel⟩, List.mem_of_getElem? (i := 462) (by decide +kernel), List.mem_of_getElem? (i := 616) (by decide +kernel), List.mem_of_getElem? (i := 617) (by decide +kernel)⟩
theorem lw_p38 : lw_okq (⟨"PlainPortModel", "refuse", "(I)I"⟩, 14) := ⟨⟨by decide +kernel, by decide +kernel⟩, List.mem_of_getElem? (i := 462) (by decide +kernel), List.mem_of_getElem? (i := 625) (by decide +kernel), List.mem_of_getElem? (i := 626) (by decide +kernel)⟩
def lw_privs_3 : List (MethodName × Nat) := [(⟨"PlainPortModel", "holds", "(I)V"⟩, 14), (⟨"PlainPortModel", "boxAt", "(I)I"⟩, 14), (⟨"PlainPortModel", "serves", "(IIII)I"⟩, 14), (⟨"PlainPortModel", "asks", "(IIII)Z"⟩, 14), (⟨"PlainPortModel", "leastOf", "(I)I"⟩, 14), (⟨"PlainPortModel", "lying", "(I)I"⟩, 14), (⟨"PlainPortModel", "refuse", "(I)I"⟩, 14)]
theorem lw_r3 : ∀ q ∈ lw_privs_3, lw_okq q := List.forall_mem_cons.mpr ⟨lw_p32, List.forall_mem_cons.mpr ⟨lw_p33, List.forall_mem_cons.mpr ⟨lw_p34, List.forall_mem_cons.mpr ⟨lw_p35, List.forall_mem_cons.mpr ⟨lw_p36, List.forall_mem_cons.mpr ⟨lw_p37, List.forall_mem_cons.mpr ⟨lw_p38, fun _ h => absurd h List.not_mem_nil⟩⟩⟩⟩⟩⟩⟩
def lw_privs : List (MethodName × Nat) := lw_privs_1 ++ (lw_privs_2 ++ (lw_privs_3))
def lw_tbl : List Cond := k2_sels lw_privs ++ tables_1
theorem lw_privs_ok : ∀ q ∈ lw_privs, lw_okq q := by
  show ∀ q ∈ lw_privs_1 ++ (lw_privs_2 ++ (lw_privs_3)), lw_okq q
  exact List.forall_mem_append.mpr ⟨lw_r1, List.forall_mem_append.mpr ⟨lw_r2, lw_r3⟩⟩
end
section
/-! Names: classes, fields, methods (written by wip/whole/gen/names.py out of the claim) -/
def R_A : String := "PlainPort$ActRow"
def R_B : String := "PlainPort$Bringing"
def R_O : String := "PlainPort$Order"
def R_P : String := "PlainPort$Picture"
def R_S : String := "PlainPort$Shares"
def R_X : String := "PlainPort"
def R_M : String := "PlainPortModel"
def R_L : String := "PlainPortLaw"
def R_Ar : String := "java/util/Arrays"
def R_In : String := "java/lang/Integer"
def R_Ma : String := "java/lang/Math"
def T_A : u_T := fun k => match k with
  | 0 => ("PlainPort$ActRow", "kinds", "[I", true)
  | 1 => ("PlainPort$ActRow", "as", "[I", true)
  | 2 => ("PlainPort$ActRow", "bs", "[I", true)
  | 3 => ("PlainPort$ActRow", "valids", "[I", true)
  | 4 => ("PlainPort$ActRow", "knowns", "[I", true)
  | _ => ("PlainPort$ActRow", "size", "I", false)
def ty_A : Nat → FieldType := fun k => match k with
  | 0 => .array .int
  | 1 => .array .int
  | 2 => .array .int
  | 3 => .array .int
  | 4 => .array .int
  | _ => .int
theorem nm_A : ∀ a, a < 6 → ∀ b, b < 6 → a ≠ b → (T_A a).2.1 ≠ (T_A b).2.1 := by decide +kernel
theorem tk_A : ∀ k, k < 6 → parseFieldDescriptor (T_A k).2.2.1 = some (ty_A k) := by decide +kernel
def T_B : u_T := fun k => match k with
  | 0 => ("PlainPort$Bringing", "from", "[I", true)
  | 1 => ("PlainPort$Bringing", "costs", "[I", true)
  | _ => ("PlainPort$Bringing", "size", "I", false)
def ty_B : Nat → FieldType := fun k => match k with
  | 0 => .array .int
  | 1 => .array .int
  | _ => .int
theorem nm_B : ∀ a, a < 3 → ∀ b, b < 3 → a ≠ b → (T_B a).2.1 ≠ (T_B b).2.1 := by decide +kernel
theorem tk_B : ∀ k, k < 3 → parseFieldDescriptor (T_B k).2.2.1 = some (ty_B k) := by decide +kernel
def T_O : u_T := fun k => match k with
  | 0 => ("PlainPort$Order", "numbers", "[I", true)
  | _ => ("PlainPort$Order", "size", "I", false)
def ty_O : Nat → FieldType := fun k => match k with
  | 0 => .array .int
  | _ => .int
theorem nm_O : ∀ a, a < 2 → ∀ b, b < 2 → a ≠ b → (T_O a).2.1 ≠ (T_O b).2.1 := by decide +kernel
theorem tk_O : ∀ k, k < 2 → parseFieldDescriptor (T_O k).2.2.1 = some (ty_O k) := by decide +kernel
def T_P : u_T := fun k => match k with
  | 0 => ("PlainPort$Picture", "slots", "[I", true)
  | 1 => ("PlainPort$Picture", "states", "[I", true)
  | _ => ("PlainPort$Picture", "sums", "[I", true)
def ty_P : Nat → FieldType := fun k => match k with
  | 0 => .array .int
  | 1 => .array .int
  | _ => .array .int
theorem nm_P : ∀ a, a < 3 → ∀ b, b < 3 → a ≠ b → (T_P a).2.1 ≠ (T_P b).2.1 := by decide +kernel
theorem tk_P : ∀ k, k < 3 → parseFieldDescriptor (T_P k).2.2.1 = some (ty_P k) := by decide +kernel
def T_S : u_T := fun k => match k with
  | 0 => ("PlainPort$Shares", "given", "[I", true)
  | 1 => ("PlainPort$Shares", "asks", "[I", true)
  | _ => ("PlainPort$Shares", "size", "I", false)
def ty_S : Nat → FieldType := fun k => match k with
  | 0 => .array .int
  | 1 => .array .int
  | _ => .int
theorem nm_S : ∀ a, a < 3 → ∀ b, b < 3 → a ≠ b → (T_S a).2.1 ≠ (T_S b).2.1 := by decide +kernel
theorem tk_S : ∀ k, k < 3 → parseFieldDescriptor (T_S k).2.2.1 = some (ty_S k) := by decide +kernel
def T_X : u_T := fun k => match k with
  | 0 => ("PlainPort", "acts", "LPlainPort$ActRow;", true)
  | 1 => ("PlainPort", "order", "LPlainPort$Order;", true)
  | 2 => ("PlainPort", "picture", "LPlainPort$Picture;", true)
  | 3 => ("PlainPort", "otherPicture", "LPlainPort$Picture;", true)
  | 4 => ("PlainPort", "shares", "LPlainPort$Shares;", true)
  | 5 => ("PlainPort", "bringing", "LPlainPort$Bringing;", true)
  | 6 => ("PlainPort", "now", "I", false)
  | _ => ("PlainPort", "refused", "I", false)
def ty_X : Nat → FieldType := fun k => match k with
  | 0 => .object "PlainPort$ActRow"
  | 1 => .object "PlainPort$Order"
  | 2 => .object "PlainPort$Picture"
  | 3 => .object "PlainPort$Picture"
  | 4 => .object "PlainPort$Shares"
  | 5 => .object "PlainPort$Bringing"
  | 6 => .int
  | _ => .int
theorem nm_X : ∀ a, a < 8 → ∀ b, b < 8 → a ≠ b → (T_X a).2.1 ≠ (T_X b).2.1 := by decide +kernel
theorem tk_X : ∀ k, k < 8 → parseFieldDescriptor (T_X k).2.2.1 = some (ty_X k) := by decide +kernel
def T_M : u_T := fun k => match k with
  | 0 => ("PlainPortModel", "thrown", "I", false)
  | 1 => ("PlainPortModel", "now", "I", false)
  | 2 => ("PlainPortModel", "acts", "I", false)
  | 3 => ("PlainPortModel", "refused", "I", false)
  | 4 => ("PlainPortModel", "kind", "[I", true)
  | 5 => ("PlainPortModel", "first", "[I", true)
  | 6 => ("PlainPortModel", "second", "[I", true)
  | 7 => ("PlainPortModel", "valid", "[I", true)
  | 8 => ("PlainPortModel", "told", "[I", true)
  | 9 => ("PlainPortModel", "slotOf", "[I", true)
  | 10 => ("PlainPortModel", "states", "[I", true)
  | 11 => ("PlainPortModel", "sums", "[I", true)
  | 12 => ("PlainPortModel", "has", "[I", true)
  | _ => ("PlainPortModel", "leastTo", "[I", true)
def ty_M : Nat → FieldType := fun k => match k with
  | 0 => .int
  | 1 => .int
  | 2 => .int
  | 3 => .int
  | 4 => .array .int
  | 5 => .array .int
  | 6 => .array .int
  | 7 => .array .int
  | 8 => .array .int
  | 9 => .array .int
  | 10 => .array .int
  | 11 => .array .int
  | 12 => .array .int
  | _ => .array .int
theorem nm_M : ∀ a, a < 14 → ∀ b, b < 14 → a ≠ b → (T_M a).2.1 ≠ (T_M b).2.1 := by decide +kernel
theorem tk_M : ∀ k, k < 14 → parseFieldDescriptor (T_M k).2.2.1 = some (ty_M k) := by decide +kernel
abbrev vwCl : List vw_C := [(R_A, T_A, 6), (R_B, T_B, 3), (R_O, T_O, 2), (R_P, T_P, 3), (R_S, T_S, 3), (R_X, T_X, 8), (R_M, T_M, 14)]
abbrev c_X_init : ByteArray := prog_1_method_1_code
def y_X_init : MethodName := ⟨R_X, "<init>", "()V"⟩
abbrev c_A_init : ByteArray := prog_2_method_1_code
def y_A_init : MethodName := ⟨R_A, "<init>", "()V"⟩
abbrev c_O_init : ByteArray := prog_4_method_1_code
def y_O_init : MethodName := ⟨R_O, "<init>", "()V"⟩
abbrev c_P_init : ByteArray := prog_5_method_1_code
def y_P_init : MethodName := ⟨R_P, "<init>", "()V"⟩
abbrev c_S_init : ByteArray := prog_6_method_1_code
def y_S_init : MethodName := ⟨R_S, "<init>", "()V"⟩
abbrev c_B_init : ByteArray := prog_3_method_1_code
def y_B_init : MethodName := ⟨R_B, "<init>", "()V"⟩
abbrev c_X_event : ByteArray := prog_1_method_2_code
def y_X_event : MethodName := ⟨R_X, "event", "(IIII)I"⟩
abbrev c_A_isFull : ByteArray := prog_2_method_2_code
def y_A_isFull : MethodName := ⟨R_A, "isFull", "()Z"⟩
abbrev c_X_isTime : ByteArray := prog_1_method_16_code
def y_X_isTime : MethodName := ⟨R_X, "isTime", "(I)Z"⟩
abbrev c_X_isWithin : ByteArray := prog_1_method_17_code
def y_X_isWithin : MethodName := ⟨R_X, "isWithin", "(III)Z"⟩
abbrev c_A_canTell : ByteArray := prog_2_method_4_code
def y_A_canTell : MethodName := ⟨R_A, "canTell", "(III)Z"⟩
abbrev c_A_has : ByteArray := prog_2_method_3_code
def y_A_has : MethodName := ⟨R_A, "has", "(I)Z"⟩
abbrev c_A_append : ByteArray := prog_2_method_5_code
def y_A_append : MethodName := ⟨R_A, "append", "(IIIII)I"⟩
abbrev c_X_known : ByteArray := prog_1_method_3_code
def y_X_known : MethodName := ⟨R_X, "known", "(I)Z"⟩
abbrev c_X_count : ByteArray := prog_1_method_13_code
def y_X_count : MethodName := ⟨R_X, "count", "(I)I"⟩
abbrev c_A_voidsAsKnown : ByteArray := prog_2_method_7_code
def y_A_voidsAsKnown : MethodName := ⟨R_A, "voidsAsKnown", "(I)I"⟩
abbrev c_A_isVoid : ByteArray := prog_2_method_6_code
def y_A_isVoid : MethodName := ⟨R_A, "isVoid", "(II)Z"⟩
abbrev c_L_place : ByteArray := method_3_code
def y_L_place : MethodName := ⟨R_L, "place", "(LPlainPort;III[J)I"⟩
abbrev c_X_place : ByteArray := prog_1_method_4_code
def y_X_place : MethodName := ⟨R_X, "place", "(III)I"⟩
abbrev c_X_requireBelow : ByteArray := prog_1_method_18_code
def y_X_requireBelow : MethodName := ⟨R_X, "requireBelow", "(II)V"⟩
abbrev c_X_draw : ByteArray := prog_1_method_14_code
def y_X_draw : MethodName := ⟨R_X, "draw", "(LPlainPort$Picture;II)V"⟩
abbrev c_X_gather : ByteArray := prog_1_method_15_code
def y_X_gather : MethodName := ⟨R_X, "gather", "(II)V"⟩
abbrev c_O_gather : ByteArray := prog_4_method_2_code
def y_O_gather : MethodName := ⟨R_O, "gather", "(LPlainPort$ActRow;II)V"⟩
abbrev c_A_holds : ByteArray := prog_2_method_8_code
def y_A_holds : MethodName := ⟨R_A, "holds", "(III)Z"⟩
abbrev c_O_insert : ByteArray := prog_4_method_3_code
def y_O_insert : MethodName := ⟨R_O, "insert", "(LPlainPort$ActRow;I)V"⟩
abbrev c_A_goesAhead : ByteArray := prog_2_method_9_code
def y_A_goesAhead : MethodName := ⟨R_A, "goesAhead", "(II)Z"⟩
abbrev c_P_draw : ByteArray := prog_5_method_2_code
def y_P_draw : MethodName := ⟨R_P, "draw", "(LPlainPort$ActRow;LPlainPort$Order;)V"⟩
abbrev c_Ar_fill : ByteArray := prog_17_method_103_code
def y_Ar_fill : MethodName := ⟨R_Ar, "fill", "([II)V"⟩
abbrev c_P_apply : ByteArray := prog_5_method_3_code
def y_P_apply : MethodName := ⟨R_P, "apply", "(III)V"⟩
abbrev c_P_boxIn : ByteArray := prog_5_method_4_code
def y_P_boxIn : MethodName := ⟨R_P, "boxIn", "(I)I"⟩
abbrev c_Ma_max : ByteArray := prog_13_method_65_code
def y_Ma_max : MethodName := ⟨R_Ma, "max", "(II)I"⟩
abbrev c_L_at : ByteArray := method_4_code
def y_L_at : MethodName := ⟨R_L, "at", "(LPlainPort;III[J)I"⟩
abbrev c_X_at : ByteArray := prog_1_method_5_code
def y_X_at : MethodName := ⟨R_X, "at", "(III)I"⟩
abbrev c_L_state : ByteArray := method_5_code
def y_L_state : MethodName := ⟨R_L, "state", "(LPlainPort;III[J)I"⟩
abbrev c_X_state : ByteArray := prog_1_method_6_code
def y_X_state : MethodName := ⟨R_X, "state", "(III)I"⟩
abbrev c_L_sum : ByteArray := method_6_code
def y_L_sum : MethodName := ⟨R_L, "sum", "(LPlainPort;III[J)I"⟩
abbrev c_X_sum : ByteArray := prog_1_method_7_code
def y_X_sum : MethodName := ⟨R_X, "sum", "(III)I"⟩
abbrev c_L_quota : ByteArray := method_7_code
def y_L_quota : MethodName := ⟨R_L, "quota", "(LPlainPort;III[J)I"⟩
abbrev c_X_quota : ByteArray := prog_1_method_8_code
def y_X_quota : MethodName := ⟨R_X, "quota", "(III)I"⟩
abbrev c_S_serveAll : ByteArray := prog_6_method_2_code
def y_S_serveAll : MethodName := ⟨R_S, "serveAll", "(LPlainPort$ActRow;LPlainPort$Order;)V"⟩
abbrev c_S_gatherAsks : ByteArray := prog_6_method_3_code
def y_S_gatherAsks : MethodName := ⟨R_S, "gatherAsks", "(LPlainPort$ActRow;LPlainPort$Order;)V"⟩
abbrev c_S_startsTime : ByteArray := prog_6_method_4_code
def y_S_startsTime : MethodName := ⟨R_S, "startsTime", "(LPlainPort$ActRow;I)Z"⟩
abbrev c_S_endOfTime : ByteArray := prog_6_method_5_code
def y_S_endOfTime : MethodName := ⟨R_S, "endOfTime", "(LPlainPort$ActRow;I)I"⟩
abbrev c_S_serveTime : ByteArray := prog_6_method_6_code
def y_S_serveTime : MethodName := ⟨R_S, "serveTime", "(LPlainPort$ActRow;III)I"⟩
abbrev c_S_share : ByteArray := prog_6_method_7_code
def y_S_share : MethodName := ⟨R_S, "share", "(III)I"⟩
abbrev c_Ma_min : ByteArray := prog_13_method_69_code
def y_Ma_min : MethodName := ⟨R_Ma, "min", "(II)I"⟩
abbrev c_L_apart : ByteArray := method_8_code
def y_L_apart : MethodName := ⟨R_L, "apart", "(LPlainPort;IIII[J)I"⟩
abbrev c_X_apart : ByteArray := prog_1_method_9_code
def y_X_apart : MethodName := ⟨R_X, "apart", "(IIII)I"⟩
abbrev c_X_distance : ByteArray := prog_1_method_19_code
def y_X_distance : MethodName := ⟨R_X, "distance", "(II)I"⟩
abbrev c_Ma_abs : ByteArray := prog_13_method_59_code
def y_Ma_abs : MethodName := ⟨R_Ma, "abs", "(I)I"⟩
abbrev c_L_least : ByteArray := method_9_code
def y_L_least : MethodName := ⟨R_L, "least", "(LPlainPort;II[J)I"⟩
abbrev c_X_least : ByteArray := prog_1_method_10_code
def y_X_least : MethodName := ⟨R_X, "least", "(II)I"⟩
abbrev c_B_leastWay : ByteArray := prog_3_method_2_code
def y_B_leastWay : MethodName := ⟨R_B, "leastWay", "(LPlainPort$Picture;)I"⟩
abbrev c_B_gatherBoxes : ByteArray := prog_3_method_3_code
def y_B_gatherBoxes : MethodName := ⟨R_B, "gatherBoxes", "(LPlainPort$Picture;)Z"⟩
abbrev c_B_leastFor : ByteArray := prog_3_method_4_code
def y_B_leastFor : MethodName := ⟨R_B, "leastFor", "(I)I"⟩
abbrev c_In_bitCount : ByteArray := prog_12_method_49_code
def y_In_bitCount : MethodName := ⟨R_In, "bitCount", "(I)I"⟩
abbrev c_L_look : ByteArray := method_10_code
def y_L_look : MethodName := ⟨R_L, "look", "(LPlainPort;II[J)I"⟩
abbrev c_X_look : ByteArray := prog_1_method_11_code
def y_X_look : MethodName := ⟨R_X, "look", "(II)I"⟩
abbrev c_L_changed : ByteArray := method_11_code
def y_L_changed : MethodName := ⟨R_L, "changed", "(LPlainPort;III[J)I"⟩
abbrev c_X_changed : ByteArray := prog_1_method_12_code
def y_X_changed : MethodName := ⟨R_X, "changed", "(III)I"⟩
abbrev c_P_differencesFrom : ByteArray := prog_5_method_5_code
def y_P_differencesFrom : MethodName := ⟨R_P, "differencesFrom", "(LPlainPort$Picture;)I"⟩
abbrev c_M_init : ByteArray := prog_8_method_1_code
def y_M_init : MethodName := ⟨R_M, "<init>", "()V"⟩
abbrev c_M_thrown : ByteArray := prog_8_method_2_code
def y_M_thrown : MethodName := ⟨R_M, "thrown", "()I"⟩
abbrev c_M_event : ByteArray := prog_8_method_7_code
def y_M_event : MethodName := ⟨R_M, "event", "(IIII)I"⟩
abbrev c_M_fits : ByteArray := prog_8_method_6_code
def y_M_fits : MethodName := ⟨R_M, "fits", "(III)Z"⟩
abbrev c_M_in : ByteArray := prog_8_method_4_code
def y_M_in : MethodName := ⟨R_M, "in", "(III)Z"⟩
abbrev c_M_isTime : ByteArray := prog_8_method_5_code
def y_M_isTime : MethodName := ⟨R_M, "isTime", "(I)Z"⟩
abbrev c_M_known : ByteArray := prog_8_method_8_code
def y_M_known : MethodName := ⟨R_M, "known", "(I)Z"⟩
abbrev c_M_place : ByteArray := prog_8_method_17_code
def y_M_place : MethodName := ⟨R_M, "place", "(III)I"⟩
abbrev c_M_isAsked : ByteArray := prog_8_method_16_code
def y_M_isAsked : MethodName := ⟨R_M, "isAsked", "(ZII)Z"⟩
abbrev c_M_finds : ByteArray := prog_8_method_15_code
def y_M_finds : MethodName := ⟨R_M, "finds", "(II)V"⟩
abbrev c_M_next : ByteArray := prog_8_method_12_code
def y_M_next : MethodName := ⟨R_M, "next", "(III)I"⟩
abbrev c_M_counts : ByteArray := prog_8_method_10_code
def y_M_counts : MethodName := ⟨R_M, "counts", "(III)Z"⟩
abbrev c_M_isVoid : ByteArray := prog_8_method_9_code
def y_M_isVoid : MethodName := ⟨R_M, "isVoid", "(II)Z"⟩
abbrev c_M_order : ByteArray := prog_8_method_11_code
def y_M_order : MethodName := ⟨R_M, "order", "(I)I"⟩
abbrev c_M_holds : ByteArray := prog_8_method_14_code
def y_M_holds : MethodName := ⟨R_M, "holds", "(I)V"⟩
abbrev c_M_boxAt : ByteArray := prog_8_method_13_code
def y_M_boxAt : MethodName := ⟨R_M, "boxAt", "(I)I"⟩
abbrev c_M_at : ByteArray := prog_8_method_18_code
def y_M_at : MethodName := ⟨R_M, "at", "(III)I"⟩
abbrev c_M_state : ByteArray := prog_8_method_19_code
def y_M_state : MethodName := ⟨R_M, "state", "(III)I"⟩
abbrev c_M_sum : ByteArray := prog_8_method_20_code
def y_M_sum : MethodName := ⟨R_M, "sum", "(III)I"⟩
abbrev c_M_quota : ByteArray := prog_8_method_23_code
def y_M_quota : MethodName := ⟨R_M, "quota", "(III)I"⟩
abbrev c_M_serves : ByteArray := prog_8_method_22_code
def y_M_serves : MethodName := ⟨R_M, "serves", "(IIII)I"⟩
abbrev c_M_asks : ByteArray := prog_8_method_21_code
def y_M_asks : MethodName := ⟨R_M, "asks", "(IIII)Z"⟩
abbrev c_M_apart : ByteArray := prog_8_method_26_code
def y_M_apart : MethodName := ⟨R_M, "apart", "(IIII)I"⟩
abbrev c_M_distance : ByteArray := prog_8_method_25_code
def y_M_distance : MethodName := ⟨R_M, "distance", "(II)I"⟩
abbrev c_M_far : ByteArray := prog_8_method_24_code
def y_M_far : MethodName := ⟨R_M, "far", "(I)I"⟩
abbrev c_M_least : ByteArray := prog_8_method_30_code
def y_M_least : MethodName := ⟨R_M, "least", "(II)I"⟩
abbrev c_M_leastOf : ByteArray := prog_8_method_29_code
def y_M_leastOf : MethodName := ⟨R_M, "leastOf", "(I)I"⟩
abbrev c_M_ones : ByteArray := prog_8_method_28_code
def y_M_ones : MethodName := ⟨R_M, "ones", "(I)I"⟩
abbrev c_M_lying : ByteArray := prog_8_method_27_code
def y_M_lying : MethodName := ⟨R_M, "lying", "(I)I"⟩
abbrev c_M_look : ByteArray := prog_8_method_31_code
def y_M_look : MethodName := ⟨R_M, "look", "(II)I"⟩
abbrev c_M_refuse : ByteArray := prog_8_method_3_code
def y_M_refuse : MethodName := ⟨R_M, "refuse", "(I)I"⟩
abbrev c_M_changed : ByteArray := prog_8_method_32_code
def y_M_changed : MethodName := ⟨R_M, "changed", "(III)I"⟩
abbrev c_M_count : ByteArray := prog_8_method_33_code
def y_M_count : MethodName := ⟨R_M, "count", "(I)I"⟩
abbrev c_L_law : ByteArray := code
def y_L_law : MethodName := ⟨R_L, "law", "([I)Z"⟩
/-- the words that every method of the claim stands on: those of the tables that no step can take away -/
def WD : List Cond := lw_tbl.filter goodWord
theorem wd_of {w : Cond} (i : Nat) (h : tables_1[i]? = some w) (g : goodWord w = true) : w ∈ WD := List.mem_filter.mpr ⟨List.mem_append_right _ (List.mem_of_getElem? h), g⟩
theorem wd_sel {y : MethodName} {n : Nat} (i : Nat) (h : lw_privs[i]? = some (y, n)) (g : goodWord (Cond.selects y.cls y y) = true) : Cond.selects y.cls y y ∈ WD := List.mem_filter.mpr ⟨List.mem_append_left _ (List.mem_map.mpr ⟨(y, n), List.mem_of_getElem? h, rfl⟩), g⟩
theorem wd_tb {w : Cond} (h : w ∈ WD) : w ∈ lw_tbl := (List.mem_filter.mp h).1
theorem wd_good {w : Cond} (h : w ∈ WD) : goodWord w = true := (List.mem_filter.mp h).2
theorem wm {x w : Cond} (h : w ∈ WD) : w ∈ x :: WD := List.mem_cons_of_mem _ h
theorem gd {x w : Cond} (h : w ∈ WD) : GoodIn (x :: WD) (w :: WD) := by
  intro v hv
  rcases List.mem_cons.mp hv with e | e
  · subst e; exact ⟨wm h, good_of_word (wd_good h)⟩
  · exact ⟨wm e, good_of_word (wd_good e)⟩
def nws : List Cond := tables_1.filter (fun w => match w with | .fieldLinkNest _ _ _ _ _ _ => true | .methodLinkNest _ _ _ _ => true | .castable _ _ => true | .declares _ => true | _ => false)
end
section
theorem k_0 : Cond.initialized "PlainPortLaw" ∈ WD := wd_of 0 rfl rfl
theorem k_1 : Cond.initialized "PlainPort" ∈ WD := wd_of 1 rfl rfl
theorem k_2 : Cond.initialized "PlainPort$ActRow" ∈ WD := wd_of 2 rfl rfl
theorem k_3 : Cond.initialized "PlainPort$Order" ∈ WD := wd_of 3 rfl rfl
theorem k_4 : Cond.initialized "PlainPort$Picture" ∈ WD := wd_of 4 rfl rfl
theorem k_5 : Cond.initialized "PlainPort$Shares" ∈ WD := wd_of 5 rfl rfl
theorem k_6 : Cond.initialized "PlainPort$Bringing" ∈ WD := wd_of 6 rfl rfl
theorem k_7 : Cond.initialized "PlainPortModel" ∈ WD := wd_of 7 rfl rfl
theorem k_8 : Cond.initialized "java/lang/Throwable" ∈ WD := wd_of 8 rfl rfl
theorem k_9 : Cond.initialized "java/lang/Exception" ∈ WD := wd_of 9 rfl rfl
theorem k_10 : Cond.initialized "java/lang/RuntimeException" ∈ WD := wd_of 10 rfl rfl
theorem k_11 : Cond.initialized "java/lang/IllegalArgumentException" ∈ WD := wd_of 11 rfl rfl
theorem k_12 : Cond.initialized "java/util/Arrays" ∈ WD := wd_of 12 rfl rfl
theorem k_13 : Cond.initialized "java/lang/Math" ∈ WD := wd_of 13 rfl rfl
theorem k_14 : Cond.initialized "java/lang/Integer" ∈ WD := wd_of 14 rfl rfl
theorem k_15 : Cond.initialized "java/lang/IndexOutOfBoundsException" ∈ WD := wd_of 15 rfl rfl
theorem k_16 : Cond.classLink "PlainPortLaw" 8 "PlainPort" ∈ WD := wd_of 16 rfl rfl
theorem k_17 : Cond.instantiable "PlainPort" 8 ∈ WD := wd_of 17 rfl rfl
theorem k_18 : Cond.methodLink "PlainPortLaw" 43 y_X_init ∈ WD := wd_of 18 rfl rfl
theorem k_19 : Cond.instanceMethod y_X_init ∈ WD := wd_of 19 rfl rfl
theorem k_20 : Cond.code y_X_init prog_1_method_1_code 1 none ∈ WD := wd_of 20 rfl rfl
theorem k_21 : Cond.methodLink "PlainPort" 1 ⟨"java/lang/Object", "<init>", "()V"⟩ ∈ WD := wd_of 21 rfl rfl
theorem k_22 : Cond.instanceMethod ⟨"java/lang/Object", "<init>", "()V"⟩ ∈ WD := wd_of 22 rfl rfl
theorem k_23 : Cond.code ⟨"java/lang/Object", "<init>", "()V"⟩ object_method_1_code 1 none ∈ WD := wd_of 23 rfl rfl
theorem k_24 : Cond.classLink "PlainPort" 7 "PlainPort$ActRow" ∈ WD := wd_of 24 rfl rfl
theorem k_25 : Cond.instantiable "PlainPort$ActRow" 6 ∈ WD := wd_of 25 rfl rfl
theorem n_26 : Cond.methodLinkNest "PlainPort" 9 y_A_init "PlainPort" ∈ nws := List.mem_filter.mpr ⟨List.mem_of_getElem? (i := 26) rfl, rfl⟩
theorem k_27 : Cond.instanceMethod y_A_init ∈ WD := wd_of 27 rfl rfl
theorem k_28 : Cond.code y_A_init prog_2_method_1_code 1 none ∈ WD := wd_of 28 rfl rfl
theorem k_29 : Cond.methodLink "PlainPort$ActRow" 3 ⟨"java/lang/Object", "<init>", "()V"⟩ ∈ WD := wd_of 29 rfl rfl
theorem k_30 : Cond.fieldLink "PlainPort$ActRow" 9 "PlainPort$ActRow" "kinds" "[I" ∈ WD := wd_of 30 rfl rfl
theorem n_31 : Cond.fieldLinkNest "PlainPort$Picture" 36 "PlainPort$ActRow" "kinds" "[I" "PlainPort" ∈ nws := List.mem_filter.mpr ⟨List.mem_of_getElem? (i := 31) rfl, rfl⟩
theorem n_32 : Cond.fieldLinkNest "PlainPort$Shares" 47 "PlainPort$ActRow" "kinds" "[I" "PlainPort" ∈ nws := List.mem_filter.mpr ⟨List.mem_of_getElem? (i := 32) rfl, rfl⟩
theorem n_33 : Cond.fieldLinkNest "PlainPort" 120 "PlainPort$ActRow" "kinds" "[I" "PlainPort" ∈ nws := List.mem_filter.mpr ⟨List.mem_of_getElem? (i := 33) rfl, rfl⟩
theorem k_34 : Cond.fieldLink "PlainPort$ActRow" 15 "PlainPort$ActRow" "as" "[I" ∈ WD := wd_of 34 rfl rfl
theorem n_35 : Cond.fieldLinkNest "PlainPort$Picture" 41 "PlainPort$ActRow" "as" "[I" "PlainPort" ∈ nws := List.mem_filter.mpr ⟨List.mem_of_getElem? (i := 35) rfl, rfl⟩
theorem n_36 : Cond.fieldLinkNest "PlainPort$Shares" 65 "PlainPort$ActRow" "as" "[I" "PlainPort" ∈ nws := List.mem_filter.mpr ⟨List.mem_of_getElem? (i := 36) rfl, rfl⟩
theorem n_37 : Cond.fieldLinkNest "PlainPort" 123 "PlainPort$ActRow" "as" "[I" "PlainPort" ∈ nws := List.mem_filter.mpr ⟨List.mem_of_getElem? (i := 37) rfl, rfl⟩
theorem k_38 : Cond.fieldLink "PlainPort$ActRow" 18 "PlainPort$ActRow" "bs" "[I" ∈ WD := wd_of 38 rfl rfl
theorem n_39 : Cond.fieldLinkNest "PlainPort$Picture" 44 "PlainPort$ActRow" "bs" "[I" "PlainPort" ∈ nws := List.mem_filter.mpr ⟨List.mem_of_getElem? (i := 39) rfl, rfl⟩
theorem n_40 : Cond.fieldLinkNest "PlainPort$Shares" 58 "PlainPort$ActRow" "bs" "[I" "PlainPort" ∈ nws := List.mem_filter.mpr ⟨List.mem_of_getElem? (i := 40) rfl, rfl⟩
theorem n_41 : Cond.fieldLinkNest "PlainPort" 126 "PlainPort$ActRow" "bs" "[I" "PlainPort" ∈ nws := List.mem_filter.mpr ⟨List.mem_of_getElem? (i := 41) rfl, rfl⟩
theorem k_42 : Cond.fieldLink "PlainPort$ActRow" 21 "PlainPort$ActRow" "valids" "[I" ∈ WD := wd_of 42 rfl rfl
theorem n_43 : Cond.fieldLinkNest "PlainPort$Shares" 55 "PlainPort$ActRow" "valids" "[I" "PlainPort" ∈ nws := List.mem_filter.mpr ⟨List.mem_of_getElem? (i := 43) rfl, rfl⟩
theorem n_44 : Cond.fieldLinkNest "PlainPort" 129 "PlainPort$ActRow" "valids" "[I" "PlainPort" ∈ nws := List.mem_filter.mpr ⟨List.mem_of_getElem? (i := 44) rfl, rfl⟩
theorem k_45 : Cond.fieldLink "PlainPort$ActRow" 24 "PlainPort$ActRow" "knowns" "[I" ∈ WD := wd_of 45 rfl rfl
theorem n_46 : Cond.fieldLinkNest "PlainPort" 132 "PlainPort$ActRow" "knowns" "[I" "PlainPort" ∈ nws := List.mem_filter.mpr ⟨List.mem_of_getElem? (i := 46) rfl, rfl⟩
theorem k_47 : Cond.fieldLink "PlainPort$ActRow" 27 "PlainPort$ActRow" "size" "I" ∈ WD := wd_of 47 rfl rfl
theorem n_48 : Cond.fieldLinkNest "PlainPort$Order" 19 "PlainPort$ActRow" "size" "I" "PlainPort" ∈ nws := List.mem_filter.mpr ⟨List.mem_of_getElem? (i := 48) rfl, rfl⟩
theorem n_49 : Cond.fieldLinkNest "PlainPort" 144 "PlainPort$ActRow" "size" "I" "PlainPort" ∈ nws := List.mem_filter.mpr ⟨List.mem_of_getElem? (i := 49) rfl, rfl⟩
theorem k_50 : Cond.laysFinal "PlainPort$ActRow" "PlainPort$ActRow" "kinds" "[I" ∈ WD := wd_of 50 rfl rfl
theorem k_52 : Cond.laysFinal "PlainPort$ActRow" "PlainPort$ActRow" "as" "[I" ∈ WD := wd_of 52 rfl rfl
theorem k_54 : Cond.laysFinal "PlainPort$ActRow" "PlainPort$ActRow" "bs" "[I" ∈ WD := wd_of 54 rfl rfl
theorem k_56 : Cond.laysFinal "PlainPort$ActRow" "PlainPort$ActRow" "valids" "[I" ∈ WD := wd_of 56 rfl rfl
theorem k_58 : Cond.laysFinal "PlainPort$ActRow" "PlainPort$ActRow" "knowns" "[I" ∈ WD := wd_of 58 rfl rfl
theorem k_60 : Cond.lays "PlainPort$ActRow" "PlainPort$ActRow" "size" "I" ∈ WD := wd_of 60 rfl rfl
theorem k_62 : Cond.superclass "PlainPort$ActRow" "java/lang/Object" ∈ WD := wd_of 62 rfl rfl
theorem k_63 : Cond.arrayClass .int ∈ WD := wd_of 63 rfl rfl
theorem k_64 : Cond.classLink "PlainPort" 16 "PlainPort$Order" ∈ WD := wd_of 64 rfl rfl
theorem k_65 : Cond.instantiable "PlainPort$Order" 2 ∈ WD := wd_of 65 rfl rfl
theorem n_66 : Cond.methodLinkNest "PlainPort" 18 y_O_init "PlainPort" ∈ nws := List.mem_filter.mpr ⟨List.mem_of_getElem? (i := 66) rfl, rfl⟩
theorem k_67 : Cond.instanceMethod y_O_init ∈ WD := wd_of 67 rfl rfl
theorem k_68 : Cond.code y_O_init prog_4_method_1_code 1 none ∈ WD := wd_of 68 rfl rfl
theorem k_69 : Cond.methodLink "PlainPort$Order" 3 ⟨"java/lang/Object", "<init>", "()V"⟩ ∈ WD := wd_of 69 rfl rfl
theorem k_70 : Cond.fieldLink "PlainPort$Order" 9 "PlainPort$Order" "numbers" "[I" ∈ WD := wd_of 70 rfl rfl
theorem n_71 : Cond.fieldLinkNest "PlainPort$Picture" 33 "PlainPort$Order" "numbers" "[I" "PlainPort" ∈ nws := List.mem_filter.mpr ⟨List.mem_of_getElem? (i := 71) rfl, rfl⟩
theorem n_72 : Cond.fieldLinkNest "PlainPort$Shares" 52 "PlainPort$Order" "numbers" "[I" "PlainPort" ∈ nws := List.mem_filter.mpr ⟨List.mem_of_getElem? (i := 72) rfl, rfl⟩
theorem k_73 : Cond.fieldLink "PlainPort$Order" 15 "PlainPort$Order" "size" "I" ∈ WD := wd_of 73 rfl rfl
theorem n_74 : Cond.fieldLinkNest "PlainPort$Picture" 27 "PlainPort$Order" "size" "I" "PlainPort" ∈ nws := List.mem_filter.mpr ⟨List.mem_of_getElem? (i := 74) rfl, rfl⟩
theorem n_75 : Cond.fieldLinkNest "PlainPort$Shares" 44 "PlainPort$Order" "size" "I" "PlainPort" ∈ nws := List.mem_filter.mpr ⟨List.mem_of_getElem? (i := 75) rfl, rfl⟩
theorem k_76 : Cond.laysFinal "PlainPort$Order" "PlainPort$Order" "numbers" "[I" ∈ WD := wd_of 76 rfl rfl
theorem k_78 : Cond.lays "PlainPort$Order" "PlainPort$Order" "size" "I" ∈ WD := wd_of 78 rfl rfl
theorem k_80 : Cond.superclass "PlainPort$Order" "java/lang/Object" ∈ WD := wd_of 80 rfl rfl
theorem k_81 : Cond.classLink "PlainPort" 23 "PlainPort$Picture" ∈ WD := wd_of 81 rfl rfl
theorem k_82 : Cond.instantiable "PlainPort$Picture" 3 ∈ WD := wd_of 82 rfl rfl
theorem n_83 : Cond.methodLinkNest "PlainPort" 25 y_P_init "PlainPort" ∈ nws := List.mem_filter.mpr ⟨List.mem_of_getElem? (i := 83) rfl, rfl⟩
theorem k_84 : Cond.instanceMethod y_P_init ∈ WD := wd_of 84 rfl rfl
theorem k_85 : Cond.code y_P_init prog_5_method_1_code 1 none ∈ WD := wd_of 85 rfl rfl
theorem k_86 : Cond.methodLink "PlainPort$Picture" 3 ⟨"java/lang/Object", "<init>", "()V"⟩ ∈ WD := wd_of 86 rfl rfl
theorem k_87 : Cond.fieldLink "PlainPort$Picture" 9 "PlainPort$Picture" "slots" "[I" ∈ WD := wd_of 87 rfl rfl
theorem n_88 : Cond.fieldLinkNest "PlainPort$Bringing" 30 "PlainPort$Picture" "slots" "[I" "PlainPort" ∈ nws := List.mem_filter.mpr ⟨List.mem_of_getElem? (i := 88) rfl, rfl⟩
theorem n_89 : Cond.fieldLinkNest "PlainPort" 78 "PlainPort$Picture" "slots" "[I" "PlainPort" ∈ nws := List.mem_filter.mpr ⟨List.mem_of_getElem? (i := 89) rfl, rfl⟩
theorem k_90 : Cond.fieldLink "PlainPort$Picture" 15 "PlainPort$Picture" "states" "[I" ∈ WD := wd_of 90 rfl rfl
theorem n_91 : Cond.fieldLinkNest "PlainPort" 86 "PlainPort$Picture" "states" "[I" "PlainPort" ∈ nws := List.mem_filter.mpr ⟨List.mem_of_getElem? (i := 91) rfl, rfl⟩
theorem k_92 : Cond.fieldLink "PlainPort$Picture" 18 "PlainPort$Picture" "sums" "[I" ∈ WD := wd_of 92 rfl rfl
theorem n_93 : Cond.fieldLinkNest "PlainPort" 89 "PlainPort$Picture" "sums" "[I" "PlainPort" ∈ nws := List.mem_filter.mpr ⟨List.mem_of_getElem? (i := 93) rfl, rfl⟩
theorem k_94 : Cond.laysFinal "PlainPort$Picture" "PlainPort$Picture" "slots" "[I" ∈ WD := wd_of 94 rfl rfl
theorem k_96 : Cond.laysFinal "PlainPort$Picture" "PlainPort$Picture" "states" "[I" ∈ WD := wd_of 96 rfl rfl
theorem k_98 : Cond.laysFinal "PlainPort$Picture" "PlainPort$Picture" "sums" "[I" ∈ WD := wd_of 98 rfl rfl
theorem k_100 : Cond.superclass "PlainPort$Picture" "java/lang/Object" ∈ WD := wd_of 100 rfl rfl
theorem k_101 : Cond.classLink "PlainPort" 33 "PlainPort$Shares" ∈ WD := wd_of 101 rfl rfl
theorem k_102 : Cond.instantiable "PlainPort$Shares" 3 ∈ WD := wd_of 102 rfl rfl
theorem n_103 : Cond.methodLinkNest "PlainPort" 35 y_S_init "PlainPort" ∈ nws := List.mem_filter.mpr ⟨List.mem_of_getElem? (i := 103) rfl, rfl⟩
theorem k_104 : Cond.instanceMethod y_S_init ∈ WD := wd_of 104 rfl rfl
theorem k_105 : Cond.code y_S_init prog_6_method_1_code 1 none ∈ WD := wd_of 105 rfl rfl
theorem k_106 : Cond.methodLink "PlainPort$Shares" 3 ⟨"java/lang/Object", "<init>", "()V"⟩ ∈ WD := wd_of 106 rfl rfl
theorem k_107 : Cond.fieldLink "PlainPort$Shares" 9 "PlainPort$Shares" "given" "[I" ∈ WD := wd_of 107 rfl rfl
theorem n_108 : Cond.fieldLinkNest "PlainPort" 99 "PlainPort$Shares" "given" "[I" "PlainPort" ∈ nws := List.mem_filter.mpr ⟨List.mem_of_getElem? (i := 108) rfl, rfl⟩
theorem k_109 : Cond.fieldLink "PlainPort$Shares" 15 "PlainPort$Shares" "asks" "[I" ∈ WD := wd_of 109 rfl rfl
theorem k_110 : Cond.fieldLink "PlainPort$Shares" 18 "PlainPort$Shares" "size" "I" ∈ WD := wd_of 110 rfl rfl
theorem k_111 : Cond.laysFinal "PlainPort$Shares" "PlainPort$Shares" "given" "[I" ∈ WD := wd_of 111 rfl rfl
theorem k_113 : Cond.laysFinal "PlainPort$Shares" "PlainPort$Shares" "asks" "[I" ∈ WD := wd_of 113 rfl rfl
theorem k_115 : Cond.lays "PlainPort$Shares" "PlainPort$Shares" "size" "I" ∈ WD := wd_of 115 rfl rfl
theorem k_117 : Cond.superclass "PlainPort$Shares" "java/lang/Object" ∈ WD := wd_of 117 rfl rfl
theorem k_118 : Cond.classLink "PlainPort" 40 "PlainPort$Bringing" ∈ WD := wd_of 118 rfl rfl
theorem k_119 : Cond.instantiable "PlainPort$Bringing" 3 ∈ WD := wd_of 119 rfl rfl
theorem n_120 : Cond.methodLinkNest "PlainPort" 42 y_B_init "PlainPort" ∈ nws := List.mem_filter.mpr ⟨List.mem_of_getElem? (i := 120) rfl, rfl⟩
theorem k_121 : Cond.instanceMethod y_B_init ∈ WD := wd_of 121 rfl rfl
theorem k_122 : Cond.code y_B_init prog_3_method_1_code 1 none ∈ WD := wd_of 122 rfl rfl
theorem k_123 : Cond.methodLink "PlainPort$Bringing" 3 ⟨"java/lang/Object", "<init>", "()V"⟩ ∈ WD := wd_of 123 rfl rfl
theorem k_124 : Cond.fieldLink "PlainPort$Bringing" 9 "PlainPort$Bringing" "from" "[I" ∈ WD := wd_of 124 rfl rfl
theorem k_125 : Cond.fieldLink "PlainPort$Bringing" 15 "PlainPort$Bringing" "costs" "[I" ∈ WD := wd_of 125 rfl rfl
theorem k_126 : Cond.fieldLink "PlainPort$Bringing" 18 "PlainPort$Bringing" "size" "I" ∈ WD := wd_of 126 rfl rfl
theorem k_127 : Cond.laysFinal "PlainPort$Bringing" "PlainPort$Bringing" "from" "[I" ∈ WD := wd_of 127 rfl rfl
theorem k_129 : Cond.laysFinal "PlainPort$Bringing" "PlainPort$Bringing" "costs" "[I" ∈ WD := wd_of 129 rfl rfl
theorem k_131 : Cond.lays "PlainPort$Bringing" "PlainPort$Bringing" "size" "I" ∈ WD := wd_of 131 rfl rfl
theorem k_133 : Cond.superclass "PlainPort$Bringing" "java/lang/Object" ∈ WD := wd_of 133 rfl rfl
theorem k_134 : Cond.fieldLink "PlainPort" 10 "PlainPort" "acts" "LPlainPort$ActRow;" ∈ WD := wd_of 134 rfl rfl
theorem k_135 : Cond.fieldLink "PlainPort" 19 "PlainPort" "order" "LPlainPort$Order;" ∈ WD := wd_of 135 rfl rfl
theorem k_136 : Cond.fieldLink "PlainPort" 26 "PlainPort" "picture" "LPlainPort$Picture;" ∈ WD := wd_of 136 rfl rfl
theorem k_137 : Cond.fieldLink "PlainPort" 30 "PlainPort" "otherPicture" "LPlainPort$Picture;" ∈ WD := wd_of 137 rfl rfl
theorem k_138 : Cond.fieldLink "PlainPort" 36 "PlainPort" "shares" "LPlainPort$Shares;" ∈ WD := wd_of 138 rfl rfl
theorem k_139 : Cond.fieldLink "PlainPort" 43 "PlainPort" "bringing" "LPlainPort$Bringing;" ∈ WD := wd_of 139 rfl rfl
theorem k_140 : Cond.fieldLink "PlainPort" 47 "PlainPort" "now" "I" ∈ WD := wd_of 140 rfl rfl
theorem k_141 : Cond.fieldLink "PlainPort" 51 "PlainPort" "refused" "I" ∈ WD := wd_of 141 rfl rfl
theorem k_142 : Cond.laysFinal "PlainPort" "PlainPort" "acts" "LPlainPort$ActRow;" ∈ WD := wd_of 142 rfl rfl
theorem k_144 : Cond.laysFinal "PlainPort" "PlainPort" "order" "LPlainPort$Order;" ∈ WD := wd_of 144 rfl rfl
theorem k_146 : Cond.laysFinal "PlainPort" "PlainPort" "picture" "LPlainPort$Picture;" ∈ WD := wd_of 146 rfl rfl
theorem k_148 : Cond.laysFinal "PlainPort" "PlainPort" "otherPicture" "LPlainPort$Picture;" ∈ WD := wd_of 148 rfl rfl
theorem k_150 : Cond.laysFinal "PlainPort" "PlainPort" "shares" "LPlainPort$Shares;" ∈ WD := wd_of 150 rfl rfl
theorem k_152 : Cond.laysFinal "PlainPort" "PlainPort" "bringing" "LPlainPort$Bringing;" ∈ WD := wd_of 152 rfl rfl
theorem k_154 : Cond.lays "PlainPort" "PlainPort" "now" "I" ∈ WD := wd_of 154 rfl rfl
theorem k_156 : Cond.lays "PlainPort" "PlainPort" "refused" "I" ∈ WD := wd_of 156 rfl rfl
theorem k_158 : Cond.superclass "PlainPort" "java/lang/Object" ∈ WD := wd_of 158 rfl rfl
theorem k_159 : Cond.methodLink "PlainPortLaw" 47 y_X_event ∈ WD := wd_of 159 rfl rfl
theorem k_160 : Cond.instanceMethod y_X_event ∈ WD := wd_of 160 rfl rfl
theorem k_161 : Cond.selects "PlainPort" y_X_event y_X_event ∈ WD := wd_of 161 rfl rfl
theorem k_162 : Cond.code y_X_event prog_1_method_2_code 5 (some .int) ∈ WD := wd_of 162 rfl rfl
theorem n_163 : Cond.methodLinkNest "PlainPort" 54 y_A_isFull "PlainPort" ∈ nws := List.mem_filter.mpr ⟨List.mem_of_getElem? (i := 163) rfl, rfl⟩
theorem k_165 : Cond.instanceMethod y_A_isFull ∈ WD := wd_of 165 rfl rfl
theorem k_166 : Cond.code y_A_isFull prog_2_method_2_code 1 (some .boolean) ∈ WD := wd_of 166 rfl rfl
theorem k_167 : Cond.methodLink "PlainPort" 58 y_X_isTime ∈ WD := wd_of 167 rfl rfl
theorem k_168 : Cond.static y_X_isTime ∈ WD := wd_of 168 rfl rfl
theorem k_169 : Cond.code y_X_isTime prog_1_method_16_code 1 (some .boolean) ∈ WD := wd_of 169 rfl rfl
theorem k_170 : Cond.methodLink "PlainPort" 160 y_X_isWithin ∈ WD := wd_of 170 rfl rfl
theorem k_171 : Cond.static y_X_isWithin ∈ WD := wd_of 171 rfl rfl
theorem k_172 : Cond.code y_X_isWithin prog_1_method_17_code 3 (some .boolean) ∈ WD := wd_of 172 rfl rfl
theorem n_173 : Cond.methodLinkNest "PlainPort" 62 y_A_canTell "PlainPort" ∈ nws := List.mem_filter.mpr ⟨List.mem_of_getElem? (i := 173) rfl, rfl⟩
theorem k_175 : Cond.instanceMethod y_A_canTell ∈ WD := wd_of 175 rfl rfl
theorem k_176 : Cond.code y_A_canTell prog_2_method_4_code 4 (some .boolean) ∈ WD := wd_of 176 rfl rfl
theorem n_177 : Cond.methodLinkNest "PlainPort$ActRow" 31 y_X_isWithin "PlainPort" ∈ nws := List.mem_filter.mpr ⟨List.mem_of_getElem? (i := 177) rfl, rfl⟩
theorem k_178 : Cond.constant "PlainPort$ActRow" 35 (-1000000 : Int32) ∈ WD := wd_of 178 rfl rfl
theorem k_179 : Cond.constant "PlainPort$ActRow" 36 (1000000 : Int32) ∈ WD := wd_of 179 rfl rfl
theorem k_180 : Cond.methodLink "PlainPort$ActRow" 37 y_A_has ∈ WD := wd_of 180 rfl rfl
theorem k_182 : Cond.instanceMethod y_A_has ∈ WD := wd_of 182 rfl rfl
theorem k_183 : Cond.code y_A_has prog_2_method_3_code 2 (some .boolean) ∈ WD := wd_of 183 rfl rfl
theorem n_184 : Cond.methodLinkNest "PlainPort" 66 y_A_append "PlainPort" ∈ nws := List.mem_filter.mpr ⟨List.mem_of_getElem? (i := 184) rfl, rfl⟩
theorem k_186 : Cond.instanceMethod y_A_append ∈ WD := wd_of 186 rfl rfl
theorem k_187 : Cond.code y_A_append prog_2_method_5_code 7 (some .int) ∈ WD := wd_of 187 rfl rfl
theorem k_188 : Cond.methodLink "PlainPort$ActRow" 41 y_A_isFull ∈ WD := wd_of 188 rfl rfl
theorem k_189 : Cond.methodLink "PlainPortLaw" 51 y_X_known ∈ WD := wd_of 189 rfl rfl
theorem k_190 : Cond.instanceMethod y_X_known ∈ WD := wd_of 190 rfl rfl
theorem k_191 : Cond.selects "PlainPort" y_X_known y_X_known ∈ WD := wd_of 191 rfl rfl
theorem k_192 : Cond.code y_X_known prog_1_method_3_code 2 (some .boolean) ∈ WD := wd_of 192 rfl rfl
theorem k_193 : Cond.methodLink "PlainPortLaw" 92 y_X_count ∈ WD := wd_of 193 rfl rfl
theorem k_194 : Cond.instanceMethod y_X_count ∈ WD := wd_of 194 rfl rfl
theorem k_195 : Cond.selects "PlainPort" y_X_count y_X_count ∈ WD := wd_of 195 rfl rfl
theorem k_196 : Cond.code y_X_count prog_1_method_13_code 2 (some .int) ∈ WD := wd_of 196 rfl rfl
theorem n_197 : Cond.methodLinkNest "PlainPort" 147 y_A_voidsAsKnown "PlainPort" ∈ nws := List.mem_filter.mpr ⟨List.mem_of_getElem? (i := 197) rfl, rfl⟩
theorem k_199 : Cond.instanceMethod y_A_voidsAsKnown ∈ WD := wd_of 199 rfl rfl
theorem k_200 : Cond.code y_A_voidsAsKnown prog_2_method_7_code 4 (some .int) ∈ WD := wd_of 200 rfl rfl
theorem k_201 : Cond.methodLink "PlainPort$ActRow" 45 y_A_isVoid ∈ WD := wd_of 201 rfl rfl
theorem k_203 : Cond.instanceMethod y_A_isVoid ∈ WD := wd_of 203 rfl rfl
theorem k_204 : Cond.code y_A_isVoid prog_2_method_6_code 4 (some .boolean) ∈ WD := wd_of 204 rfl rfl
theorem k_205 : Cond.methodLink "PlainPortLaw" 56 y_L_place ∈ WD := wd_of 205 rfl rfl
theorem k_206 : Cond.static y_L_place ∈ WD := wd_of 206 rfl rfl
theorem k_207 : Cond.codeWith y_L_place method_3_code 6 (some .int) [(0, 12, 15, 13)] ∈ WD := wd_of 207 rfl rfl
theorem k_208 : Cond.classLink "PlainPortLaw" 13 "java/lang/IllegalArgumentException" ∈ WD := wd_of 208 rfl rfl
theorem k_209 : Cond.methodLink "PlainPortLaw" 7 y_X_place ∈ WD := wd_of 209 rfl rfl
theorem k_210 : Cond.instanceMethod y_X_place ∈ WD := wd_of 210 rfl rfl
theorem k_211 : Cond.selects "PlainPort" y_X_place y_X_place ∈ WD := wd_of 211 rfl rfl
theorem k_212 : Cond.code y_X_place prog_1_method_4_code 4 (some .int) ∈ WD := wd_of 212 rfl rfl
theorem k_213 : Cond.methodLink "PlainPort" 70 y_X_requireBelow ∈ WD := wd_of 213 rfl rfl
theorem k_214 : Cond.static y_X_requireBelow ∈ WD := wd_of 214 rfl rfl
theorem k_215 : Cond.code y_X_requireBelow prog_1_method_18_code 2 none ∈ WD := wd_of 215 rfl rfl
theorem k_216 : Cond.classLink "PlainPort" 152 "java/lang/IllegalArgumentException" ∈ WD := wd_of 216 rfl rfl
theorem k_217 : Cond.instantiable "java/lang/IllegalArgumentException" 6 ∈ WD := wd_of 217 rfl rfl
theorem n_218 : Cond.castable "java/lang/IllegalArgumentException" "java/lang/IllegalArgumentException" ∈ nws := List.mem_filter.mpr ⟨List.mem_of_getElem? (i := 218) rfl, rfl⟩
theorem n_219 : Cond.declares ⟨"java/lang/RuntimeException", "<init>", "()V"⟩ ∈ nws := List.mem_filter.mpr ⟨List.mem_of_getElem? (i := 219) rfl, rfl⟩
theorem n_220 : Cond.declares ⟨"java/lang/RuntimeException", "<init>", "(Ljava/lang/String;)V"⟩ ∈ nws := List.mem_filter.mpr ⟨List.mem_of_getElem? (i := 220) rfl, rfl⟩
theorem n_221 : Cond.declares ⟨"java/lang/Exception", "<init>", "()V"⟩ ∈ nws := List.mem_filter.mpr ⟨List.mem_of_getElem? (i := 221) rfl, rfl⟩
theorem n_222 : Cond.declares ⟨"java/lang/Exception", "<init>", "(Ljava/lang/String;)V"⟩ ∈ nws := List.mem_filter.mpr ⟨List.mem_of_getElem? (i := 222) rfl, rfl⟩
theorem n_223 : Cond.declares ⟨"java/lang/Throwable", "<init>", "()V"⟩ ∈ nws := List.mem_filter.mpr ⟨List.mem_of_getElem? (i := 223) rfl, rfl⟩
theorem n_224 : Cond.declares ⟨"java/lang/Throwable", "<init>", "(Ljava/lang/String;)V"⟩ ∈ nws := List.mem_filter.mpr ⟨List.mem_of_getElem? (i := 224) rfl, rfl⟩
theorem k_225 : Cond.selects "java/lang/IllegalArgumentException" ⟨"java/lang/Throwable", "fillInStackTrace", "(I)Ljava/lang/Throwable;"⟩ ⟨"java/lang/Throwable", "fillInStackTrace", "(I)Ljava/lang/Throwable;"⟩ ∈ WD := wd_of 225 rfl rfl
theorem k_226 : Cond.selects "java/lang/IllegalArgumentException" ⟨"java/lang/Throwable", "fillInStackTrace", "()Ljava/lang/Throwable;"⟩ ⟨"java/lang/Throwable", "fillInStackTrace", "()Ljava/lang/Throwable;"⟩ ∈ WD := wd_of 226 rfl rfl
theorem k_227 : Cond.lays "java/lang/IllegalArgumentException" "java/lang/Throwable" "cause" "Ljava/lang/Throwable;" ∈ WD := wd_of 227 rfl rfl
theorem k_228 : Cond.lays "java/lang/Throwable" "java/lang/Throwable" "cause" "Ljava/lang/Throwable;" ∈ WD := wd_of 228 rfl rfl
theorem k_229 : Cond.lays "java/lang/IllegalArgumentException" "java/lang/Throwable" "stackTrace" "[Ljava/lang/StackTraceElement;" ∈ WD := wd_of 229 rfl rfl
theorem k_230 : Cond.lays "java/lang/Throwable" "java/lang/Throwable" "stackTrace" "[Ljava/lang/StackTraceElement;" ∈ WD := wd_of 230 rfl rfl
theorem k_231 : Cond.lays "java/lang/IllegalArgumentException" "java/lang/Throwable" "suppressedExceptions" "Ljava/util/List;" ∈ WD := wd_of 231 rfl rfl
theorem k_232 : Cond.lays "java/lang/Throwable" "java/lang/Throwable" "suppressedExceptions" "Ljava/util/List;" ∈ WD := wd_of 232 rfl rfl
theorem k_233 : Cond.lays "java/lang/IllegalArgumentException" "java/lang/Throwable" "detailMessage" "Ljava/lang/String;" ∈ WD := wd_of 233 rfl rfl
theorem k_234 : Cond.lays "java/lang/Throwable" "java/lang/Throwable" "detailMessage" "Ljava/lang/String;" ∈ WD := wd_of 234 rfl rfl
theorem k_235 : Cond.lays "java/lang/IllegalArgumentException" "java/lang/Throwable" "backtrace" "Ljava/lang/Object;" ∈ WD := wd_of 235 rfl rfl
theorem k_236 : Cond.lays "java/lang/Throwable" "java/lang/Throwable" "backtrace" "Ljava/lang/Object;" ∈ WD := wd_of 236 rfl rfl
theorem k_237 : Cond.fieldLink "java/lang/Throwable" 198 "java/lang/Throwable" "backtrace" "Ljava/lang/Object;" ∈ WD := wd_of 237 rfl rfl
theorem k_238 : Cond.superclass "java/lang/Throwable" "java/lang/Object" ∈ WD := wd_of 238 rfl rfl
theorem k_239 : Cond.instanceMethod ⟨"java/lang/Throwable", "<init>", "()V"⟩ ∈ WD := wd_of 239 rfl rfl
theorem k_240 : Cond.code ⟨"java/lang/Throwable", "<init>", "()V"⟩ prog_16_method_1_code 1 none ∈ WD := wd_of 240 rfl rfl
theorem k_241 : Cond.methodLink "java/lang/Throwable" 1 ⟨"java/lang/Object", "<init>", "()V"⟩ ∈ WD := wd_of 241 rfl rfl
theorem k_242 : Cond.fieldLink "java/lang/Throwable" 13 "java/lang/Throwable" "UNASSIGNED_STACK" "[Ljava/lang/StackTraceElement;" ∈ WD := wd_of 242 rfl rfl
theorem k_244 : Cond.fieldLink "java/lang/Throwable" 20 "java/lang/Throwable" "SUPPRESSED_SENTINEL" "Ljava/util/List;" ∈ WD := wd_of 244 rfl rfl
theorem k_246 : Cond.methodLink "java/lang/Throwable" 27 ⟨"java/lang/Throwable", "fillInStackTrace", "()Ljava/lang/Throwable;"⟩ ∈ WD := wd_of 246 rfl rfl
theorem k_247 : Cond.instanceMethod ⟨"java/lang/Throwable", "fillInStackTrace", "()Ljava/lang/Throwable;"⟩ ∈ WD := wd_of 247 rfl rfl
theorem k_248 : Cond.sameMethod "java/lang/Throwable" "java/lang/Throwable" "fillInStackTrace" "()Ljava/lang/Throwable;" ∈ WD := wd_of 248 rfl rfl
theorem k_249 : Cond.selects "java/lang/IndexOutOfBoundsException" ⟨"java/lang/Throwable", "fillInStackTrace", "()Ljava/lang/Throwable;"⟩ ⟨"java/lang/Throwable", "fillInStackTrace", "()Ljava/lang/Throwable;"⟩ ∈ WD := wd_of 249 rfl rfl
theorem k_251 : Cond.methodLink "java/lang/Throwable" 202 ⟨"java/lang/Throwable", "fillInStackTrace", "(I)Ljava/lang/Throwable;"⟩ ∈ WD := wd_of 251 rfl rfl
theorem k_253 : Cond.instanceMethod ⟨"java/lang/Throwable", "fillInStackTrace", "(I)Ljava/lang/Throwable;"⟩ ∈ WD := wd_of 253 rfl rfl
theorem k_254 : Cond.instantiable "java/lang/Throwable" 6 ∈ WD := wd_of 254 rfl rfl
theorem k_257 : Cond.methodLink "PlainPort" 156 ⟨"java/lang/IllegalArgumentException", "<init>", "(Ljava/lang/String;)V"⟩ ∈ WD := wd_of 257 rfl rfl
theorem k_258 : Cond.instanceMethod ⟨"java/lang/IllegalArgumentException", "<init>", "(Ljava/lang/String;)V"⟩ ∈ WD := wd_of 258 rfl rfl
theorem k_259 : Cond.code ⟨"java/lang/IllegalArgumentException", "<init>", "(Ljava/lang/String;)V"⟩ prog_10_method_2_code 2 none ∈ WD := wd_of 259 rfl rfl
theorem k_260 : Cond.methodLink "java/lang/IllegalArgumentException" 7 ⟨"java/lang/RuntimeException", "<init>", "(Ljava/lang/String;)V"⟩ ∈ WD := wd_of 260 rfl rfl
theorem k_261 : Cond.instanceMethod ⟨"java/lang/RuntimeException", "<init>", "(Ljava/lang/String;)V"⟩ ∈ WD := wd_of 261 rfl rfl
theorem k_262 : Cond.code ⟨"java/lang/RuntimeException", "<init>", "(Ljava/lang/String;)V"⟩ prog_14_method_2_code 2 none ∈ WD := wd_of 262 rfl rfl
theorem k_263 : Cond.methodLink "java/lang/RuntimeException" 7 ⟨"java/lang/Exception", "<init>", "(Ljava/lang/String;)V"⟩ ∈ WD := wd_of 263 rfl rfl
theorem k_264 : Cond.instanceMethod ⟨"java/lang/Exception", "<init>", "(Ljava/lang/String;)V"⟩ ∈ WD := wd_of 264 rfl rfl
theorem k_265 : Cond.code ⟨"java/lang/Exception", "<init>", "(Ljava/lang/String;)V"⟩ prog_9_method_2_code 2 none ∈ WD := wd_of 265 rfl rfl
theorem k_266 : Cond.methodLink "java/lang/Exception" 7 ⟨"java/lang/Throwable", "<init>", "(Ljava/lang/String;)V"⟩ ∈ WD := wd_of 266 rfl rfl
theorem k_267 : Cond.instanceMethod ⟨"java/lang/Throwable", "<init>", "(Ljava/lang/String;)V"⟩ ∈ WD := wd_of 267 rfl rfl
theorem k_268 : Cond.code ⟨"java/lang/Throwable", "<init>", "(Ljava/lang/String;)V"⟩ prog_16_method_2_code 2 none ∈ WD := wd_of 268 rfl rfl
theorem k_269 : Cond.fieldLink "java/lang/Throwable" 198 "java/lang/Throwable" "backtrace" "Ljava/lang/Object;" ∈ WD := wd_of 269 rfl rfl
theorem k_270 : Cond.fieldLink "java/lang/Throwable" 31 "java/lang/Throwable" "detailMessage" "Ljava/lang/String;" ∈ WD := wd_of 270 rfl rfl
theorem k_271 : Cond.fieldLink "java/lang/Throwable" 7 "java/lang/Throwable" "cause" "Ljava/lang/Throwable;" ∈ WD := wd_of 271 rfl rfl
theorem k_272 : Cond.fieldLink "java/lang/Throwable" 17 "java/lang/Throwable" "stackTrace" "[Ljava/lang/StackTraceElement;" ∈ WD := wd_of 272 rfl rfl
theorem k_273 : Cond.fieldLink "java/lang/Throwable" 24 "java/lang/Throwable" "suppressedExceptions" "Ljava/util/List;" ∈ WD := wd_of 273 rfl rfl
theorem k_278 : Cond.lays "java/lang/IllegalArgumentException" "java/lang/Throwable" "depth" "I" ∈ WD := wd_of 278 rfl rfl
theorem k_281 : Cond.superclass "java/lang/IllegalArgumentException" "java/lang/RuntimeException" ∈ WD := wd_of 281 rfl rfl
theorem k_282 : Cond.arrayClass .byte ∈ WD := wd_of 282 rfl rfl
theorem k_283 : Cond.methodLink "PlainPort" 74 y_X_draw ∈ WD := wd_of 283 rfl rfl
theorem k_285 : Cond.instanceMethod y_X_draw ∈ WD := wd_of 285 rfl rfl
theorem k_286 : Cond.code y_X_draw prog_1_method_14_code 4 none ∈ WD := wd_of 286 rfl rfl
theorem k_287 : Cond.methodLink "PlainPort" 92 y_X_gather ∈ WD := wd_of 287 rfl rfl
theorem k_289 : Cond.instanceMethod y_X_gather ∈ WD := wd_of 289 rfl rfl
theorem k_290 : Cond.code y_X_gather prog_1_method_15_code 3 none ∈ WD := wd_of 290 rfl rfl
theorem n_292 : Cond.methodLinkNest "PlainPort" 157 y_O_gather "PlainPort" ∈ nws := List.mem_filter.mpr ⟨List.mem_of_getElem? (i := 292) rfl, rfl⟩
theorem k_294 : Cond.instanceMethod y_O_gather ∈ WD := wd_of 294 rfl rfl
theorem k_295 : Cond.code y_O_gather prog_4_method_2_code 5 none ∈ WD := wd_of 295 rfl rfl
theorem n_296 : Cond.methodLinkNest "PlainPort$Order" 22 y_A_holds "PlainPort" ∈ nws := List.mem_filter.mpr ⟨List.mem_of_getElem? (i := 296) rfl, rfl⟩
theorem k_298 : Cond.instanceMethod y_A_holds ∈ WD := wd_of 298 rfl rfl
theorem k_299 : Cond.code y_A_holds prog_2_method_8_code 4 (some .boolean) ∈ WD := wd_of 299 rfl rfl
theorem k_300 : Cond.methodLink "PlainPort$Order" 26 y_O_insert ∈ WD := wd_of 300 rfl rfl
set_option maxRecDepth 20000 in
theorem k_302 : Cond.instanceMethod y_O_insert ∈ WD := wd_of 302 rfl rfl
set_option maxRecDepth 20000 in
theorem k_303 : Cond.code y_O_insert prog_4_method_3_code 4 none ∈ WD := wd_of 303 rfl rfl
set_option maxRecDepth 20000 in
theorem n_304 : Cond.methodLinkNest "PlainPort$Order" 30 y_A_goesAhead "PlainPort" ∈ nws := List.mem_filter.mpr ⟨List.mem_of_getElem? (i := 304) rfl, rfl⟩
set_option maxRecDepth 20000 in
theorem k_306 : Cond.instanceMethod y_A_goesAhead ∈ WD := wd_of 306 rfl rfl
set_option maxRecDepth 20000 in
theorem k_307 : Cond.code y_A_goesAhead prog_2_method_9_code 3 (some .boolean) ∈ WD := wd_of 307 rfl rfl
set_option maxRecDepth 20000 in
theorem n_308 : Cond.methodLinkNest "PlainPort" 150 y_P_draw "PlainPort" ∈ nws := List.mem_filter.mpr ⟨List.mem_of_getElem? (i := 308) rfl, rfl⟩
set_option maxRecDepth 20000 in
theorem k_310 : Cond.instanceMethod y_P_draw ∈ WD := wd_of 310 rfl rfl
set_option maxRecDepth 20000 in
theorem k_311 : Cond.code y_P_draw prog_5_method_2_code 5 none ∈ WD := wd_of 311 rfl rfl
set_option maxRecDepth 20000 in
theorem k_312 : Cond.methodLink "PlainPort$Picture" 21 y_Ar_fill ∈ WD := wd_of 312 rfl rfl
set_option maxRecDepth 20000 in
theorem k_313 : Cond.static y_Ar_fill ∈ WD := wd_of 313 rfl rfl
set_option maxRecDepth 20000 in
theorem k_314 : Cond.code y_Ar_fill prog_17_method_103_code 4 none ∈ WD := wd_of 314 rfl rfl
set_option maxRecDepth 20000 in
theorem k_315 : Cond.methodLink "PlainPort$Picture" 47 y_P_apply ∈ WD := wd_of 315 rfl rfl
set_option maxRecDepth 20000 in
theorem k_317 : Cond.instanceMethod y_P_apply ∈ WD := wd_of 317 rfl rfl
set_option maxRecDepth 20000 in
theorem k_318 : Cond.code y_P_apply prog_5_method_3_code 4 none ∈ WD := wd_of 318 rfl rfl
set_option maxRecDepth 20000 in
theorem k_319 : Cond.methodLink "PlainPort$Picture" 51 y_P_boxIn ∈ WD := wd_of 319 rfl rfl
set_option maxRecDepth 20000 in
theorem k_321 : Cond.instanceMethod y_P_boxIn ∈ WD := wd_of 321 rfl rfl
set_option maxRecDepth 20000 in
theorem k_322 : Cond.code y_P_boxIn prog_5_method_4_code 3 (some .int) ∈ WD := wd_of 322 rfl rfl
set_option maxRecDepth 20000 in
theorem k_323 : Cond.methodLink "PlainPort$Picture" 55 y_Ma_max ∈ WD := wd_of 323 rfl rfl
set_option maxRecDepth 20000 in
theorem k_324 : Cond.static y_Ma_max ∈ WD := wd_of 324 rfl rfl
set_option maxRecDepth 20000 in
theorem k_325 : Cond.code y_Ma_max prog_13_method_65_code 2 (some .int) ∈ WD := wd_of 325 rfl rfl
set_option maxRecDepth 20000 in
theorem k_326 : Cond.methodLink "PlainPortLaw" 66 y_L_at ∈ WD := wd_of 326 rfl rfl
set_option maxRecDepth 20000 in
theorem k_327 : Cond.static y_L_at ∈ WD := wd_of 327 rfl rfl
set_option maxRecDepth 20000 in
theorem k_328 : Cond.codeWith y_L_at method_4_code 6 (some .int) [(0, 12, 15, 13)] ∈ WD := wd_of 328 rfl rfl
set_option maxRecDepth 20000 in
theorem k_329 : Cond.methodLink "PlainPortLaw" 15 y_X_at ∈ WD := wd_of 329 rfl rfl
set_option maxRecDepth 20000 in
theorem k_330 : Cond.instanceMethod y_X_at ∈ WD := wd_of 330 rfl rfl
set_option maxRecDepth 20000 in
theorem k_331 : Cond.selects "PlainPort" y_X_at y_X_at ∈ WD := wd_of 331 rfl rfl
set_option maxRecDepth 20000 in
theorem k_332 : Cond.code y_X_at prog_1_method_5_code 4 (some .int) ∈ WD := wd_of 332 rfl rfl
set_option maxRecDepth 20000 in
theorem n_333 : Cond.methodLinkNest "PlainPort" 82 y_P_boxIn "PlainPort" ∈ nws := List.mem_filter.mpr ⟨List.mem_of_getElem? (i := 333) rfl, rfl⟩
set_option maxRecDepth 20000 in
theorem k_334 : Cond.methodLink "PlainPortLaw" 69 y_L_state ∈ WD := wd_of 334 rfl rfl
set_option maxRecDepth 20000 in
theorem k_335 : Cond.static y_L_state ∈ WD := wd_of 335 rfl rfl
set_option maxRecDepth 20000 in
theorem k_336 : Cond.codeWith y_L_state method_5_code 6 (some .int) [(0, 12, 15, 13)] ∈ WD := wd_of 336 rfl rfl
set_option maxRecDepth 20000 in
theorem k_337 : Cond.methodLink "PlainPortLaw" 18 y_X_state ∈ WD := wd_of 337 rfl rfl
set_option maxRecDepth 20000 in
theorem k_338 : Cond.instanceMethod y_X_state ∈ WD := wd_of 338 rfl rfl
set_option maxRecDepth 20000 in
theorem k_339 : Cond.selects "PlainPort" y_X_state y_X_state ∈ WD := wd_of 339 rfl rfl
set_option maxRecDepth 20000 in
theorem k_340 : Cond.code y_X_state prog_1_method_6_code 4 (some .int) ∈ WD := wd_of 340 rfl rfl
set_option maxRecDepth 20000 in
theorem k_341 : Cond.methodLink "PlainPortLaw" 72 y_L_sum ∈ WD := wd_of 341 rfl rfl
set_option maxRecDepth 20000 in
theorem k_342 : Cond.static y_L_sum ∈ WD := wd_of 342 rfl rfl
set_option maxRecDepth 20000 in
theorem k_343 : Cond.codeWith y_L_sum method_6_code 6 (some .int) [(0, 12, 15, 13)] ∈ WD := wd_of 343 rfl rfl
set_option maxRecDepth 20000 in
theorem k_344 : Cond.methodLink "PlainPortLaw" 21 y_X_sum ∈ WD := wd_of 344 rfl rfl
set_option maxRecDepth 20000 in
theorem k_345 : Cond.instanceMethod y_X_sum ∈ WD := wd_of 345 rfl rfl
set_option maxRecDepth 20000 in
theorem k_346 : Cond.selects "PlainPort" y_X_sum y_X_sum ∈ WD := wd_of 346 rfl rfl
set_option maxRecDepth 20000 in
theorem k_347 : Cond.code y_X_sum prog_1_method_7_code 4 (some .int) ∈ WD := wd_of 347 rfl rfl
set_option maxRecDepth 20000 in
theorem k_348 : Cond.methodLink "PlainPortLaw" 75 y_L_quota ∈ WD := wd_of 348 rfl rfl
set_option maxRecDepth 20000 in
theorem k_349 : Cond.static y_L_quota ∈ WD := wd_of 349 rfl rfl
set_option maxRecDepth 20000 in
theorem k_350 : Cond.codeWith y_L_quota method_7_code 6 (some .int) [(0, 12, 15, 13)] ∈ WD := wd_of 350 rfl rfl
set_option maxRecDepth 20000 in
theorem k_351 : Cond.methodLink "PlainPortLaw" 24 y_X_quota ∈ WD := wd_of 351 rfl rfl
set_option maxRecDepth 20000 in
theorem k_352 : Cond.instanceMethod y_X_quota ∈ WD := wd_of 352 rfl rfl
set_option maxRecDepth 20000 in
theorem k_353 : Cond.selects "PlainPort" y_X_quota y_X_quota ∈ WD := wd_of 353 rfl rfl
set_option maxRecDepth 20000 in
theorem k_354 : Cond.code y_X_quota prog_1_method_8_code 4 (some .int) ∈ WD := wd_of 354 rfl rfl
set_option maxRecDepth 20000 in
theorem n_355 : Cond.methodLinkNest "PlainPort" 95 y_S_serveAll "PlainPort" ∈ nws := List.mem_filter.mpr ⟨List.mem_of_getElem? (i := 355) rfl, rfl⟩
set_option maxRecDepth 20000 in
theorem k_357 : Cond.instanceMethod y_S_serveAll ∈ WD := wd_of 357 rfl rfl
set_option maxRecDepth 20000 in
theorem k_358 : Cond.code y_S_serveAll prog_6_method_2_code 5 none ∈ WD := wd_of 358 rfl rfl
set_option maxRecDepth 20000 in
theorem k_359 : Cond.methodLink "PlainPort$Shares" 22 y_Ar_fill ∈ WD := wd_of 359 rfl rfl
set_option maxRecDepth 20000 in
theorem k_360 : Cond.methodLink "PlainPort$Shares" 28 y_S_gatherAsks ∈ WD := wd_of 360 rfl rfl
set_option maxRecDepth 20000 in
theorem k_362 : Cond.instanceMethod y_S_gatherAsks ∈ WD := wd_of 362 rfl rfl
set_option maxRecDepth 20000 in
theorem k_363 : Cond.code y_S_gatherAsks prog_6_method_3_code 4 none ∈ WD := wd_of 363 rfl rfl
set_option maxRecDepth 20000 in
theorem k_364 : Cond.methodLink "PlainPort$Shares" 32 y_S_startsTime ∈ WD := wd_of 364 rfl rfl
set_option maxRecDepth 20000 in
theorem k_366 : Cond.instanceMethod y_S_startsTime ∈ WD := wd_of 366 rfl rfl
set_option maxRecDepth 20000 in
theorem k_367 : Cond.code y_S_startsTime prog_6_method_4_code 3 (some .boolean) ∈ WD := wd_of 367 rfl rfl
set_option maxRecDepth 20000 in
theorem k_368 : Cond.methodLink "PlainPort$Shares" 36 y_S_endOfTime ∈ WD := wd_of 368 rfl rfl
set_option maxRecDepth 20000 in
theorem k_370 : Cond.instanceMethod y_S_endOfTime ∈ WD := wd_of 370 rfl rfl
set_option maxRecDepth 20000 in
theorem k_371 : Cond.code y_S_endOfTime prog_6_method_5_code 4 (some .int) ∈ WD := wd_of 371 rfl rfl
set_option maxRecDepth 20000 in
theorem k_372 : Cond.methodLink "PlainPort$Shares" 40 y_S_serveTime ∈ WD := wd_of 372 rfl rfl
set_option maxRecDepth 20000 in
theorem k_374 : Cond.instanceMethod y_S_serveTime ∈ WD := wd_of 374 rfl rfl
set_option maxRecDepth 20000 in
theorem k_375 : Cond.code y_S_serveTime prog_6_method_6_code 9 (some .int) ∈ WD := wd_of 375 rfl rfl
set_option maxRecDepth 20000 in
theorem k_376 : Cond.methodLink "PlainPort$Shares" 61 y_S_share ∈ WD := wd_of 376 rfl rfl
set_option maxRecDepth 20000 in
theorem k_377 : Cond.static y_S_share ∈ WD := wd_of 377 rfl rfl
set_option maxRecDepth 20000 in
theorem k_378 : Cond.code y_S_share prog_6_method_7_code 3 (some .int) ∈ WD := wd_of 378 rfl rfl
set_option maxRecDepth 20000 in
theorem k_379 : Cond.methodLink "PlainPort$Shares" 68 y_Ma_min ∈ WD := wd_of 379 rfl rfl
set_option maxRecDepth 20000 in
theorem k_380 : Cond.static y_Ma_min ∈ WD := wd_of 380 rfl rfl
set_option maxRecDepth 20000 in
theorem k_381 : Cond.code y_Ma_min prog_13_method_69_code 2 (some .int) ∈ WD := wd_of 381 rfl rfl
set_option maxRecDepth 20000 in
theorem k_382 : Cond.methodLink "PlainPortLaw" 78 y_L_apart ∈ WD := wd_of 382 rfl rfl
set_option maxRecDepth 20000 in
theorem k_383 : Cond.static y_L_apart ∈ WD := wd_of 383 rfl rfl
set_option maxRecDepth 20000 in
theorem k_384 : Cond.codeWith y_L_apart method_8_code 7 (some .int) [(0, 14, 17, 13)] ∈ WD := wd_of 384 rfl rfl
set_option maxRecDepth 20000 in
theorem k_385 : Cond.methodLink "PlainPortLaw" 27 y_X_apart ∈ WD := wd_of 385 rfl rfl
set_option maxRecDepth 20000 in
theorem k_386 : Cond.instanceMethod y_X_apart ∈ WD := wd_of 386 rfl rfl
set_option maxRecDepth 20000 in
theorem k_387 : Cond.selects "PlainPort" y_X_apart y_X_apart ∈ WD := wd_of 387 rfl rfl
set_option maxRecDepth 20000 in
theorem k_388 : Cond.code y_X_apart prog_1_method_9_code 7 (some .int) ∈ WD := wd_of 388 rfl rfl
set_option maxRecDepth 20000 in
theorem k_389 : Cond.methodLink "PlainPort" 102 y_X_distance ∈ WD := wd_of 389 rfl rfl
set_option maxRecDepth 20000 in
theorem k_390 : Cond.static y_X_distance ∈ WD := wd_of 390 rfl rfl
set_option maxRecDepth 20000 in
theorem k_391 : Cond.code y_X_distance prog_1_method_19_code 2 (some .int) ∈ WD := wd_of 391 rfl rfl
set_option maxRecDepth 20000 in
theorem k_392 : Cond.methodLink "PlainPort" 165 y_Ma_abs ∈ WD := wd_of 392 rfl rfl
set_option maxRecDepth 20000 in
theorem k_393 : Cond.static y_Ma_abs ∈ WD := wd_of 393 rfl rfl
set_option maxRecDepth 20000 in
theorem k_394 : Cond.code y_Ma_abs prog_13_method_59_code 1 (some .int) ∈ WD := wd_of 394 rfl rfl
set_option maxRecDepth 20000 in
theorem k_395 : Cond.methodLink "PlainPortLaw" 82 y_L_least ∈ WD := wd_of 395 rfl rfl
set_option maxRecDepth 20000 in
theorem k_396 : Cond.static y_L_least ∈ WD := wd_of 396 rfl rfl
set_option maxRecDepth 20000 in
theorem k_397 : Cond.codeWith y_L_least method_9_code 5 (some .int) [(0, 10, 13, 13)] ∈ WD := wd_of 397 rfl rfl
set_option maxRecDepth 20000 in
theorem k_398 : Cond.methodLink "PlainPortLaw" 31 y_X_least ∈ WD := wd_of 398 rfl rfl
set_option maxRecDepth 20000 in
theorem k_399 : Cond.instanceMethod y_X_least ∈ WD := wd_of 399 rfl rfl
set_option maxRecDepth 20000 in
theorem k_400 : Cond.selects "PlainPort" y_X_least y_X_least ∈ WD := wd_of 400 rfl rfl
set_option maxRecDepth 20000 in
theorem k_401 : Cond.code y_X_least prog_1_method_10_code 3 (some .int) ∈ WD := wd_of 401 rfl rfl
set_option maxRecDepth 20000 in
theorem n_402 : Cond.methodLinkNest "PlainPort" 106 y_B_leastWay "PlainPort" ∈ nws := List.mem_filter.mpr ⟨List.mem_of_getElem? (i := 402) rfl, rfl⟩
set_option maxRecDepth 20000 in
theorem k_404 : Cond.instanceMethod y_B_leastWay ∈ WD := wd_of 404 rfl rfl
set_option maxRecDepth 20000 in
theorem k_405 : Cond.code y_B_leastWay prog_3_method_2_code 4 (some .int) ∈ WD := wd_of 405 rfl rfl
set_option maxRecDepth 20000 in
theorem k_406 : Cond.methodLink "PlainPort$Bringing" 22 y_B_gatherBoxes ∈ WD := wd_of 406 rfl rfl
set_option maxRecDepth 20000 in
theorem k_408 : Cond.instanceMethod y_B_gatherBoxes ∈ WD := wd_of 408 rfl rfl
set_option maxRecDepth 20000 in
theorem k_409 : Cond.code y_B_gatherBoxes prog_3_method_3_code 3 (some .boolean) ∈ WD := wd_of 409 rfl rfl
set_option maxRecDepth 20000 in
theorem k_410 : Cond.methodLink "PlainPort$Bringing" 26 y_B_leastFor ∈ WD := wd_of 410 rfl rfl
set_option maxRecDepth 20000 in
theorem k_412 : Cond.instanceMethod y_B_leastFor ∈ WD := wd_of 412 rfl rfl
set_option maxRecDepth 20000 in
theorem k_413 : Cond.code y_B_leastFor prog_3_method_4_code 6 (some .int) ∈ WD := wd_of 413 rfl rfl
set_option maxRecDepth 20000 in
theorem k_414 : Cond.methodLink "PlainPort$Bringing" 35 y_In_bitCount ∈ WD := wd_of 414 rfl rfl
set_option maxRecDepth 20000 in
theorem k_415 : Cond.static y_In_bitCount ∈ WD := wd_of 415 rfl rfl
set_option maxRecDepth 20000 in
theorem k_416 : Cond.code y_In_bitCount prog_12_method_49_code 1 (some .int) ∈ WD := wd_of 416 rfl rfl
set_option maxRecDepth 20000 in
theorem k_417 : Cond.constant "java/lang/Integer" 265 (1431655765 : Int32) ∈ WD := wd_of 417 rfl rfl
set_option maxRecDepth 20000 in
theorem k_418 : Cond.constant "java/lang/Integer" 266 (858993459 : Int32) ∈ WD := wd_of 418 rfl rfl
set_option maxRecDepth 20000 in
theorem k_419 : Cond.constant "java/lang/Integer" 267 (252645135 : Int32) ∈ WD := wd_of 419 rfl rfl
set_option maxRecDepth 20000 in
theorem k_420 : Cond.constant "PlainPort$Bringing" 40 (2147483647 : Int32) ∈ WD := wd_of 420 rfl rfl
set_option maxRecDepth 20000 in
theorem n_421 : Cond.methodLinkNest "PlainPort$Bringing" 41 y_X_distance "PlainPort" ∈ nws := List.mem_filter.mpr ⟨List.mem_of_getElem? (i := 421) rfl, rfl⟩
set_option maxRecDepth 20000 in
theorem k_422 : Cond.methodLink "PlainPort$Bringing" 45 y_Ma_min ∈ WD := wd_of 422 rfl rfl
set_option maxRecDepth 20000 in
theorem k_423 : Cond.methodLink "PlainPortLaw" 86 y_L_look ∈ WD := wd_of 423 rfl rfl
set_option maxRecDepth 20000 in
theorem k_424 : Cond.static y_L_look ∈ WD := wd_of 424 rfl rfl
set_option maxRecDepth 20000 in
theorem k_425 : Cond.codeWith y_L_look method_10_code 5 (some .int) [(0, 10, 13, 38)] ∈ WD := wd_of 425 rfl rfl
set_option maxRecDepth 20000 in
theorem k_426 : Cond.classLink "PlainPortLaw" 38 "java/lang/IndexOutOfBoundsException" ∈ WD := wd_of 426 rfl rfl
set_option maxRecDepth 20000 in
theorem k_427 : Cond.methodLink "PlainPortLaw" 35 y_X_look ∈ WD := wd_of 427 rfl rfl
set_option maxRecDepth 20000 in
theorem k_428 : Cond.instanceMethod y_X_look ∈ WD := wd_of 428 rfl rfl
set_option maxRecDepth 20000 in
theorem k_429 : Cond.selects "PlainPort" y_X_look y_X_look ∈ WD := wd_of 429 rfl rfl
set_option maxRecDepth 20000 in
theorem k_430 : Cond.code y_X_look prog_1_method_11_code 3 (some .int) ∈ WD := wd_of 430 rfl rfl
set_option maxRecDepth 20000 in
theorem n_431 : Cond.methodLinkNest "PlainPort" 110 y_A_has "PlainPort" ∈ nws := List.mem_filter.mpr ⟨List.mem_of_getElem? (i := 431) rfl, rfl⟩
set_option maxRecDepth 20000 in
theorem k_432 : Cond.classLink "PlainPort" 113 "java/lang/IndexOutOfBoundsException" ∈ WD := wd_of 432 rfl rfl
set_option maxRecDepth 20000 in
theorem k_433 : Cond.instantiable "java/lang/IndexOutOfBoundsException" 6 ∈ WD := wd_of 433 rfl rfl
set_option maxRecDepth 20000 in
theorem n_434 : Cond.castable "java/lang/IndexOutOfBoundsException" "java/lang/IndexOutOfBoundsException" ∈ nws := List.mem_filter.mpr ⟨List.mem_of_getElem? (i := 434) rfl, rfl⟩
set_option maxRecDepth 20000 in
theorem k_435 : Cond.selects "java/lang/IndexOutOfBoundsException" ⟨"java/lang/Throwable", "fillInStackTrace", "(I)Ljava/lang/Throwable;"⟩ ⟨"java/lang/Throwable", "fillInStackTrace", "(I)Ljava/lang/Throwable;"⟩ ∈ WD := wd_of 435 rfl rfl
set_option maxRecDepth 20000 in
theorem k_436 : Cond.lays "java/lang/IndexOutOfBoundsException" "java/lang/Throwable" "cause" "Ljava/lang/Throwable;" ∈ WD := wd_of 436 rfl rfl
set_option maxRecDepth 20000 in
theorem k_437 : Cond.lays "java/lang/IndexOutOfBoundsException" "java/lang/Throwable" "stackTrace" "[Ljava/lang/StackTraceElement;" ∈ WD := wd_of 437 rfl rfl
set_option maxRecDepth 20000 in
theorem k_438 : Cond.lays "java/lang/IndexOutOfBoundsException" "java/lang/Throwable" "suppressedExceptions" "Ljava/util/List;" ∈ WD := wd_of 438 rfl rfl
set_option maxRecDepth 20000 in
theorem k_439 : Cond.lays "java/lang/IndexOutOfBoundsException" "java/lang/Throwable" "detailMessage" "Ljava/lang/String;" ∈ WD := wd_of 439 rfl rfl
set_option maxRecDepth 20000 in
theorem k_440 : Cond.lays "java/lang/IndexOutOfBoundsException" "java/lang/Throwable" "backtrace" "Ljava/lang/Object;" ∈ WD := wd_of 440 rfl rfl
set_option maxRecDepth 20000 in
theorem k_442 : Cond.methodLink "PlainPort" 117 ⟨"java/lang/IndexOutOfBoundsException", "<init>", "(Ljava/lang/String;)V"⟩ ∈ WD := wd_of 442 rfl rfl
set_option maxRecDepth 20000 in
theorem k_443 : Cond.instanceMethod ⟨"java/lang/IndexOutOfBoundsException", "<init>", "(Ljava/lang/String;)V"⟩ ∈ WD := wd_of 443 rfl rfl
set_option maxRecDepth 20000 in
theorem k_444 : Cond.code ⟨"java/lang/IndexOutOfBoundsException", "<init>", "(Ljava/lang/String;)V"⟩ prog_11_method_2_code 2 none ∈ WD := wd_of 444 rfl rfl
set_option maxRecDepth 20000 in
theorem k_445 : Cond.methodLink "java/lang/IndexOutOfBoundsException" 7 ⟨"java/lang/RuntimeException", "<init>", "(Ljava/lang/String;)V"⟩ ∈ WD := wd_of 445 rfl rfl
set_option maxRecDepth 20000 in
theorem k_446 : Cond.lays "java/lang/IndexOutOfBoundsException" "java/lang/Throwable" "depth" "I" ∈ WD := wd_of 446 rfl rfl
set_option maxRecDepth 20000 in
theorem k_447 : Cond.superclass "java/lang/IndexOutOfBoundsException" "java/lang/RuntimeException" ∈ WD := wd_of 447 rfl rfl
set_option maxRecDepth 20000 in
theorem n_448 : Cond.methodLinkNest "PlainPort" 135 y_A_isVoid "PlainPort" ∈ nws := List.mem_filter.mpr ⟨List.mem_of_getElem? (i := 448) rfl, rfl⟩
set_option maxRecDepth 20000 in
theorem k_450 : Cond.methodLink "PlainPortLaw" 89 y_L_changed ∈ WD := wd_of 450 rfl rfl
set_option maxRecDepth 20000 in
theorem k_451 : Cond.static y_L_changed ∈ WD := wd_of 451 rfl rfl
set_option maxRecDepth 20000 in
theorem k_452 : Cond.codeWith y_L_changed method_11_code 6 (some .int) [(0, 12, 15, 13)] ∈ WD := wd_of 452 rfl rfl
set_option maxRecDepth 20000 in
theorem k_453 : Cond.methodLink "PlainPortLaw" 40 y_X_changed ∈ WD := wd_of 453 rfl rfl
set_option maxRecDepth 20000 in
theorem k_454 : Cond.instanceMethod y_X_changed ∈ WD := wd_of 454 rfl rfl
set_option maxRecDepth 20000 in
theorem k_455 : Cond.selects "PlainPort" y_X_changed y_X_changed ∈ WD := wd_of 455 rfl rfl
set_option maxRecDepth 20000 in
theorem k_456 : Cond.code y_X_changed prog_1_method_12_code 4 (some .int) ∈ WD := wd_of 456 rfl rfl
set_option maxRecDepth 20000 in
theorem n_457 : Cond.methodLinkNest "PlainPort" 141 y_P_differencesFrom "PlainPort" ∈ nws := List.mem_filter.mpr ⟨List.mem_of_getElem? (i := 457) rfl, rfl⟩
set_option maxRecDepth 20000 in
theorem k_459 : Cond.instanceMethod y_P_differencesFrom ∈ WD := wd_of 459 rfl rfl
set_option maxRecDepth 20000 in
theorem k_460 : Cond.code y_P_differencesFrom prog_5_method_5_code 4 (some .int) ∈ WD := wd_of 460 rfl rfl
set_option maxRecDepth 20000 in
theorem k_461 : Cond.classLink "PlainPortLaw" 44 "PlainPortModel" ∈ WD := wd_of 461 rfl rfl
set_option maxRecDepth 20000 in
theorem k_462 : Cond.instantiable "PlainPortModel" 14 ∈ WD := wd_of 462 rfl rfl
set_option maxRecDepth 20000 in
theorem k_463 : Cond.methodLink "PlainPortLaw" 46 y_M_init ∈ WD := wd_of 463 rfl rfl
set_option maxRecDepth 20000 in
theorem k_464 : Cond.instanceMethod y_M_init ∈ WD := wd_of 464 rfl rfl
set_option maxRecDepth 20000 in
theorem k_465 : Cond.code y_M_init prog_8_method_1_code 1 none ∈ WD := wd_of 465 rfl rfl
set_option maxRecDepth 20000 in
theorem k_466 : Cond.methodLink "PlainPortModel" 1 ⟨"java/lang/Object", "<init>", "()V"⟩ ∈ WD := wd_of 466 rfl rfl
set_option maxRecDepth 20000 in
theorem k_467 : Cond.fieldLink "PlainPortModel" 40 "PlainPortModel" "thrown" "I" ∈ WD := wd_of 467 rfl rfl
set_option maxRecDepth 20000 in
theorem k_468 : Cond.fieldLink "PlainPortModel" 63 "PlainPortModel" "now" "I" ∈ WD := wd_of 468 rfl rfl
set_option maxRecDepth 20000 in
theorem k_469 : Cond.fieldLink "PlainPortModel" 50 "PlainPortModel" "acts" "I" ∈ WD := wd_of 469 rfl rfl
set_option maxRecDepth 20000 in
theorem k_470 : Cond.fieldLink "PlainPortModel" 60 "PlainPortModel" "refused" "I" ∈ WD := wd_of 470 rfl rfl
set_option maxRecDepth 20000 in
theorem k_471 : Cond.fieldLink "PlainPortModel" 7 "PlainPortModel" "kind" "[I" ∈ WD := wd_of 471 rfl rfl
set_option maxRecDepth 20000 in
theorem k_472 : Cond.fieldLink "PlainPortModel" 13 "PlainPortModel" "first" "[I" ∈ WD := wd_of 472 rfl rfl
set_option maxRecDepth 20000 in
theorem k_473 : Cond.fieldLink "PlainPortModel" 16 "PlainPortModel" "second" "[I" ∈ WD := wd_of 473 rfl rfl
set_option maxRecDepth 20000 in
theorem k_474 : Cond.fieldLink "PlainPortModel" 19 "PlainPortModel" "valid" "[I" ∈ WD := wd_of 474 rfl rfl
set_option maxRecDepth 20000 in
theorem k_475 : Cond.fieldLink "PlainPortModel" 22 "PlainPortModel" "told" "[I" ∈ WD := wd_of 475 rfl rfl
set_option maxRecDepth 20000 in
theorem k_476 : Cond.fieldLink "PlainPortModel" 25 "PlainPortModel" "slotOf" "[I" ∈ WD := wd_of 476 rfl rfl
set_option maxRecDepth 20000 in
theorem k_477 : Cond.fieldLink "PlainPortModel" 28 "PlainPortModel" "states" "[I" ∈ WD := wd_of 477 rfl rfl
set_option maxRecDepth 20000 in
theorem k_478 : Cond.fieldLink "PlainPortModel" 31 "PlainPortModel" "sums" "[I" ∈ WD := wd_of 478 rfl rfl
set_option maxRecDepth 20000 in
theorem k_479 : Cond.fieldLink "PlainPortModel" 34 "PlainPortModel" "has" "[I" ∈ WD := wd_of 479 rfl rfl
set_option maxRecDepth 20000 in
theorem k_480 : Cond.fieldLink "PlainPortModel" 37 "PlainPortModel" "leastTo" "[I" ∈ WD := wd_of 480 rfl rfl
set_option maxRecDepth 20000 in
theorem k_481 : Cond.lays "PlainPortModel" "PlainPortModel" "thrown" "I" ∈ WD := wd_of 481 rfl rfl
set_option maxRecDepth 20000 in
theorem k_483 : Cond.lays "PlainPortModel" "PlainPortModel" "now" "I" ∈ WD := wd_of 483 rfl rfl
set_option maxRecDepth 20000 in
theorem k_485 : Cond.lays "PlainPortModel" "PlainPortModel" "acts" "I" ∈ WD := wd_of 485 rfl rfl
set_option maxRecDepth 20000 in
theorem k_487 : Cond.lays "PlainPortModel" "PlainPortModel" "refused" "I" ∈ WD := wd_of 487 rfl rfl
set_option maxRecDepth 20000 in
theorem k_489 : Cond.laysFinal "PlainPortModel" "PlainPortModel" "kind" "[I" ∈ WD := wd_of 489 rfl rfl
set_option maxRecDepth 20000 in
theorem k_491 : Cond.laysFinal "PlainPortModel" "PlainPortModel" "first" "[I" ∈ WD := wd_of 491 rfl rfl
set_option maxRecDepth 20000 in
theorem k_493 : Cond.laysFinal "PlainPortModel" "PlainPortModel" "second" "[I" ∈ WD := wd_of 493 rfl rfl
set_option maxRecDepth 20000 in
theorem k_495 : Cond.laysFinal "PlainPortModel" "PlainPortModel" "valid" "[I" ∈ WD := wd_of 495 rfl rfl
set_option maxRecDepth 20000 in
theorem k_497 : Cond.laysFinal "PlainPortModel" "PlainPortModel" "told" "[I" ∈ WD := wd_of 497 rfl rfl
set_option maxRecDepth 20000 in
theorem k_499 : Cond.laysFinal "PlainPortModel" "PlainPortModel" "slotOf" "[I" ∈ WD := wd_of 499 rfl rfl
set_option maxRecDepth 20000 in
theorem k_501 : Cond.laysFinal "PlainPortModel" "PlainPortModel" "states" "[I" ∈ WD := wd_of 501 rfl rfl
set_option maxRecDepth 20000 in
theorem k_503 : Cond.laysFinal "PlainPortModel" "PlainPortModel" "sums" "[I" ∈ WD := wd_of 503 rfl rfl
set_option maxRecDepth 20000 in
theorem k_505 : Cond.laysFinal "PlainPortModel" "PlainPortModel" "has" "[I" ∈ WD := wd_of 505 rfl rfl
set_option maxRecDepth 20000 in
theorem k_507 : Cond.laysFinal "PlainPortModel" "PlainPortModel" "leastTo" "[I" ∈ WD := wd_of 507 rfl rfl
set_option maxRecDepth 20000 in
theorem k_509 : Cond.superclass "PlainPortModel" "java/lang/Object" ∈ WD := wd_of 509 rfl rfl
set_option maxRecDepth 20000 in
theorem k_510 : Cond.methodLink "PlainPortLaw" 62 y_M_thrown ∈ WD := wd_of 510 rfl rfl
set_option maxRecDepth 20000 in
theorem k_511 : Cond.instanceMethod y_M_thrown ∈ WD := wd_of 511 rfl rfl
set_option maxRecDepth 20000 in
theorem k_512 : Cond.selects "PlainPortModel" y_M_thrown y_M_thrown ∈ WD := wd_of 512 rfl rfl
set_option maxRecDepth 20000 in
theorem k_513 : Cond.code y_M_thrown prog_8_method_2_code 1 (some .int) ∈ WD := wd_of 513 rfl rfl
set_option maxRecDepth 20000 in
theorem k_514 : Cond.methodLink "PlainPortLaw" 50 y_M_event ∈ WD := wd_of 514 rfl rfl
set_option maxRecDepth 20000 in
theorem k_515 : Cond.instanceMethod y_M_event ∈ WD := wd_of 515 rfl rfl
set_option maxRecDepth 20000 in
theorem k_516 : Cond.selects "PlainPortModel" y_M_event y_M_event ∈ WD := wd_of 516 rfl rfl
set_option maxRecDepth 20000 in
theorem k_517 : Cond.code y_M_event prog_8_method_7_code 5 (some .int) ∈ WD := wd_of 517 rfl rfl
set_option maxRecDepth 20000 in
theorem k_518 : Cond.methodLink "PlainPortModel" 53 y_M_fits ∈ WD := wd_of 518 rfl rfl
set_option maxRecDepth 20000 in
theorem k_520 : Cond.instanceMethod y_M_fits ∈ WD := wd_of 520 rfl rfl
set_option maxRecDepth 20000 in
theorem k_521 : Cond.code y_M_fits prog_8_method_6_code 4 (some .boolean) ∈ WD := wd_of 521 rfl rfl
set_option maxRecDepth 20000 in
theorem k_522 : Cond.methodLink "PlainPortModel" 44 y_M_in ∈ WD := wd_of 522 rfl rfl
set_option maxRecDepth 20000 in
theorem k_523 : Cond.static y_M_in ∈ WD := wd_of 523 rfl rfl
set_option maxRecDepth 20000 in
theorem k_524 : Cond.code y_M_in prog_8_method_4_code 3 (some .boolean) ∈ WD := wd_of 524 rfl rfl
set_option maxRecDepth 20000 in
theorem k_525 : Cond.constant "PlainPortModel" 48 (-1000000 : Int32) ∈ WD := wd_of 525 rfl rfl
set_option maxRecDepth 20000 in
theorem k_526 : Cond.constant "PlainPortModel" 49 (1000000 : Int32) ∈ WD := wd_of 526 rfl rfl
set_option maxRecDepth 20000 in
theorem k_527 : Cond.methodLink "PlainPortModel" 56 y_M_isTime ∈ WD := wd_of 527 rfl rfl
set_option maxRecDepth 20000 in
theorem k_528 : Cond.static y_M_isTime ∈ WD := wd_of 528 rfl rfl
set_option maxRecDepth 20000 in
theorem k_529 : Cond.code y_M_isTime prog_8_method_5_code 1 (some .boolean) ∈ WD := wd_of 529 rfl rfl
set_option maxRecDepth 20000 in
theorem k_530 : Cond.methodLink "PlainPortLaw" 55 y_M_known ∈ WD := wd_of 530 rfl rfl
set_option maxRecDepth 20000 in
theorem k_531 : Cond.instanceMethod y_M_known ∈ WD := wd_of 531 rfl rfl
set_option maxRecDepth 20000 in
theorem k_532 : Cond.selects "PlainPortModel" y_M_known y_M_known ∈ WD := wd_of 532 rfl rfl
set_option maxRecDepth 20000 in
theorem k_533 : Cond.code y_M_known prog_8_method_8_code 2 (some .boolean) ∈ WD := wd_of 533 rfl rfl
set_option maxRecDepth 20000 in
theorem k_534 : Cond.methodLink "PlainPortLaw" 61 y_M_place ∈ WD := wd_of 534 rfl rfl
set_option maxRecDepth 20000 in
theorem k_535 : Cond.instanceMethod y_M_place ∈ WD := wd_of 535 rfl rfl
set_option maxRecDepth 20000 in
theorem k_536 : Cond.selects "PlainPortModel" y_M_place y_M_place ∈ WD := wd_of 536 rfl rfl
set_option maxRecDepth 20000 in
theorem k_537 : Cond.code y_M_place prog_8_method_17_code 4 (some .int) ∈ WD := wd_of 537 rfl rfl
set_option maxRecDepth 20000 in
theorem k_538 : Cond.methodLink "PlainPortModel" 88 y_M_isAsked ∈ WD := wd_of 538 rfl rfl
set_option maxRecDepth 20000 in
theorem k_540 : Cond.instanceMethod y_M_isAsked ∈ WD := wd_of 540 rfl rfl
set_option maxRecDepth 20000 in
theorem k_541 : Cond.code y_M_isAsked prog_8_method_16_code 4 (some .boolean) ∈ WD := wd_of 541 rfl rfl
set_option maxRecDepth 20000 in
theorem k_542 : Cond.methodLink "PlainPortModel" 92 y_M_finds ∈ WD := wd_of 542 rfl rfl
set_option maxRecDepth 20000 in
theorem k_544 : Cond.instanceMethod y_M_finds ∈ WD := wd_of 544 rfl rfl
set_option maxRecDepth 20000 in
theorem k_545 : Cond.code y_M_finds prog_8_method_15_code 4 none ∈ WD := wd_of 545 rfl rfl
set_option maxRecDepth 20000 in
theorem k_546 : Cond.methodLink "PlainPortModel" 80 y_M_next ∈ WD := wd_of 546 rfl rfl
set_option maxRecDepth 20000 in
theorem k_548 : Cond.instanceMethod y_M_next ∈ WD := wd_of 548 rfl rfl
set_option maxRecDepth 20000 in
theorem k_549 : Cond.code y_M_next prog_8_method_12_code 7 (some .int) ∈ WD := wd_of 549 rfl rfl
set_option maxRecDepth 20000 in
theorem k_550 : Cond.methodLink "PlainPortModel" 70 y_M_counts ∈ WD := wd_of 550 rfl rfl
set_option maxRecDepth 20000 in
theorem k_552 : Cond.instanceMethod y_M_counts ∈ WD := wd_of 552 rfl rfl
set_option maxRecDepth 20000 in
theorem k_553 : Cond.code y_M_counts prog_8_method_10_code 4 (some .boolean) ∈ WD := wd_of 553 rfl rfl
set_option maxRecDepth 20000 in
theorem k_554 : Cond.methodLink "PlainPortModel" 66 y_M_isVoid ∈ WD := wd_of 554 rfl rfl
set_option maxRecDepth 20000 in
theorem k_556 : Cond.instanceMethod y_M_isVoid ∈ WD := wd_of 556 rfl rfl
set_option maxRecDepth 20000 in
theorem k_557 : Cond.code y_M_isVoid prog_8_method_9_code 5 (some .boolean) ∈ WD := wd_of 557 rfl rfl
set_option maxRecDepth 20000 in
theorem k_558 : Cond.methodLink "PlainPortModel" 73 y_M_order ∈ WD := wd_of 558 rfl rfl
set_option maxRecDepth 20000 in
theorem k_560 : Cond.instanceMethod y_M_order ∈ WD := wd_of 560 rfl rfl
set_option maxRecDepth 20000 in
theorem k_561 : Cond.code y_M_order prog_8_method_11_code 2 (some .int) ∈ WD := wd_of 561 rfl rfl
set_option maxRecDepth 20000 in
theorem k_562 : Cond.methodLink "PlainPortModel" 84 y_M_holds ∈ WD := wd_of 562 rfl rfl
set_option maxRecDepth 20000 in
theorem k_564 : Cond.instanceMethod y_M_holds ∈ WD := wd_of 564 rfl rfl
set_option maxRecDepth 20000 in
theorem k_565 : Cond.code y_M_holds prog_8_method_14_code 4 none ∈ WD := wd_of 565 rfl rfl
set_option maxRecDepth 20000 in
theorem k_566 : Cond.methodLink "PlainPortModel" 77 y_M_boxAt ∈ WD := wd_of 566 rfl rfl
set_option maxRecDepth 20000 in
theorem k_568 : Cond.instanceMethod y_M_boxAt ∈ WD := wd_of 568 rfl rfl
set_option maxRecDepth 20000 in
theorem k_569 : Cond.code y_M_boxAt prog_8_method_13_code 4 (some .int) ∈ WD := wd_of 569 rfl rfl
set_option maxRecDepth 20000 in
theorem k_570 : Cond.methodLink "PlainPortLaw" 68 y_M_at ∈ WD := wd_of 570 rfl rfl
set_option maxRecDepth 20000 in
theorem k_571 : Cond.instanceMethod y_M_at ∈ WD := wd_of 571 rfl rfl
set_option maxRecDepth 20000 in
theorem k_572 : Cond.selects "PlainPortModel" y_M_at y_M_at ∈ WD := wd_of 572 rfl rfl
set_option maxRecDepth 20000 in
theorem k_573 : Cond.code y_M_at prog_8_method_18_code 4 (some .int) ∈ WD := wd_of 573 rfl rfl
set_option maxRecDepth 20000 in
theorem k_574 : Cond.methodLink "PlainPortLaw" 71 y_M_state ∈ WD := wd_of 574 rfl rfl
set_option maxRecDepth 20000 in
theorem k_575 : Cond.instanceMethod y_M_state ∈ WD := wd_of 575 rfl rfl
set_option maxRecDepth 20000 in
theorem k_576 : Cond.selects "PlainPortModel" y_M_state y_M_state ∈ WD := wd_of 576 rfl rfl
set_option maxRecDepth 20000 in
theorem k_577 : Cond.code y_M_state prog_8_method_19_code 4 (some .int) ∈ WD := wd_of 577 rfl rfl
set_option maxRecDepth 20000 in
theorem k_578 : Cond.methodLink "PlainPortLaw" 74 y_M_sum ∈ WD := wd_of 578 rfl rfl
set_option maxRecDepth 20000 in
theorem k_579 : Cond.instanceMethod y_M_sum ∈ WD := wd_of 579 rfl rfl
set_option maxRecDepth 20000 in
theorem k_580 : Cond.selects "PlainPortModel" y_M_sum y_M_sum ∈ WD := wd_of 580 rfl rfl
set_option maxRecDepth 20000 in
theorem k_581 : Cond.code y_M_sum prog_8_method_20_code 4 (some .int) ∈ WD := wd_of 581 rfl rfl
set_option maxRecDepth 20000 in
theorem k_582 : Cond.methodLink "PlainPortLaw" 77 y_M_quota ∈ WD := wd_of 582 rfl rfl
set_option maxRecDepth 20000 in
theorem k_583 : Cond.instanceMethod y_M_quota ∈ WD := wd_of 583 rfl rfl
set_option maxRecDepth 20000 in
theorem k_584 : Cond.selects "PlainPortModel" y_M_quota y_M_quota ∈ WD := wd_of 584 rfl rfl
set_option maxRecDepth 20000 in
theorem k_585 : Cond.code y_M_quota prog_8_method_23_code 7 (some .int) ∈ WD := wd_of 585 rfl rfl
set_option maxRecDepth 20000 in
theorem k_586 : Cond.methodLink "PlainPortModel" 100 y_M_serves ∈ WD := wd_of 586 rfl rfl
set_option maxRecDepth 20000 in
theorem k_588 : Cond.instanceMethod y_M_serves ∈ WD := wd_of 588 rfl rfl
set_option maxRecDepth 20000 in
theorem k_589 : Cond.code y_M_serves prog_8_method_22_code 9 (some .int) ∈ WD := wd_of 589 rfl rfl
set_option maxRecDepth 20000 in
theorem k_590 : Cond.methodLink "PlainPortModel" 96 y_M_asks ∈ WD := wd_of 590 rfl rfl
set_option maxRecDepth 20000 in
theorem k_592 : Cond.instanceMethod y_M_asks ∈ WD := wd_of 592 rfl rfl
set_option maxRecDepth 20000 in
theorem k_593 : Cond.code y_M_asks prog_8_method_21_code 5 (some .boolean) ∈ WD := wd_of 593 rfl rfl
set_option maxRecDepth 20000 in
theorem k_594 : Cond.methodLink "PlainPortLaw" 81 y_M_apart ∈ WD := wd_of 594 rfl rfl
set_option maxRecDepth 20000 in
theorem k_595 : Cond.instanceMethod y_M_apart ∈ WD := wd_of 595 rfl rfl
set_option maxRecDepth 20000 in
theorem k_596 : Cond.selects "PlainPortModel" y_M_apart y_M_apart ∈ WD := wd_of 596 rfl rfl
set_option maxRecDepth 20000 in
theorem k_597 : Cond.code y_M_apart prog_8_method_26_code 5 (some .int) ∈ WD := wd_of 597 rfl rfl
set_option maxRecDepth 20000 in
theorem k_598 : Cond.methodLink "PlainPortModel" 107 y_M_distance ∈ WD := wd_of 598 rfl rfl
set_option maxRecDepth 20000 in
theorem k_599 : Cond.static y_M_distance ∈ WD := wd_of 599 rfl rfl
set_option maxRecDepth 20000 in
theorem k_600 : Cond.code y_M_distance prog_8_method_25_code 2 (some .int) ∈ WD := wd_of 600 rfl rfl
set_option maxRecDepth 20000 in
theorem k_601 : Cond.methodLink "PlainPortModel" 104 y_M_far ∈ WD := wd_of 601 rfl rfl
set_option maxRecDepth 20000 in
theorem k_602 : Cond.static y_M_far ∈ WD := wd_of 602 rfl rfl
set_option maxRecDepth 20000 in
theorem k_603 : Cond.code y_M_far prog_8_method_24_code 1 (some .int) ∈ WD := wd_of 603 rfl rfl
set_option maxRecDepth 20000 in
theorem k_604 : Cond.methodLink "PlainPortLaw" 85 y_M_least ∈ WD := wd_of 604 rfl rfl
set_option maxRecDepth 20000 in
theorem k_605 : Cond.instanceMethod y_M_least ∈ WD := wd_of 605 rfl rfl
set_option maxRecDepth 20000 in
theorem k_606 : Cond.selects "PlainPortModel" y_M_least y_M_least ∈ WD := wd_of 606 rfl rfl
set_option maxRecDepth 20000 in
theorem k_607 : Cond.code y_M_least prog_8_method_30_code 5 (some .int) ∈ WD := wd_of 607 rfl rfl
set_option maxRecDepth 20000 in
theorem k_608 : Cond.methodLink "PlainPortModel" 118 y_M_leastOf ∈ WD := wd_of 608 rfl rfl
set_option maxRecDepth 20000 in
theorem k_610 : Cond.instanceMethod y_M_leastOf ∈ WD := wd_of 610 rfl rfl
set_option maxRecDepth 20000 in
theorem k_611 : Cond.code y_M_leastOf prog_8_method_29_code 6 (some .int) ∈ WD := wd_of 611 rfl rfl
set_option maxRecDepth 20000 in
theorem k_612 : Cond.methodLink "PlainPortModel" 111 y_M_ones ∈ WD := wd_of 612 rfl rfl
set_option maxRecDepth 20000 in
theorem k_613 : Cond.static y_M_ones ∈ WD := wd_of 613 rfl rfl
set_option maxRecDepth 20000 in
theorem k_614 : Cond.code y_M_ones prog_8_method_28_code 3 (some .int) ∈ WD := wd_of 614 rfl rfl
set_option maxRecDepth 20000 in
theorem k_615 : Cond.methodLink "PlainPortModel" 114 y_M_lying ∈ WD := wd_of 615 rfl rfl
set_option maxRecDepth 20000 in
theorem k_617 : Cond.instanceMethod y_M_lying ∈ WD := wd_of 617 rfl rfl
set_option maxRecDepth 20000 in
theorem k_618 : Cond.code y_M_lying prog_8_method_27_code 4 (some .int) ∈ WD := wd_of 618 rfl rfl
set_option maxRecDepth 20000 in
theorem k_619 : Cond.constant "PlainPortModel" 117 (100000 : Int32) ∈ WD := wd_of 619 rfl rfl
set_option maxRecDepth 20000 in
theorem k_620 : Cond.methodLink "PlainPortLaw" 88 y_M_look ∈ WD := wd_of 620 rfl rfl
set_option maxRecDepth 20000 in
theorem k_621 : Cond.instanceMethod y_M_look ∈ WD := wd_of 621 rfl rfl
set_option maxRecDepth 20000 in
theorem k_622 : Cond.selects "PlainPortModel" y_M_look y_M_look ∈ WD := wd_of 622 rfl rfl
set_option maxRecDepth 20000 in
theorem k_623 : Cond.code y_M_look prog_8_method_31_code 3 (some .int) ∈ WD := wd_of 623 rfl rfl
set_option maxRecDepth 20000 in
theorem k_624 : Cond.methodLink "PlainPortModel" 121 y_M_refuse ∈ WD := wd_of 624 rfl rfl
set_option maxRecDepth 20000 in
theorem k_626 : Cond.instanceMethod y_M_refuse ∈ WD := wd_of 626 rfl rfl
set_option maxRecDepth 20000 in
theorem k_627 : Cond.code y_M_refuse prog_8_method_3_code 2 (some .int) ∈ WD := wd_of 627 rfl rfl
set_option maxRecDepth 20000 in
theorem k_628 : Cond.methodLink "PlainPortLaw" 91 y_M_changed ∈ WD := wd_of 628 rfl rfl
set_option maxRecDepth 20000 in
theorem k_629 : Cond.instanceMethod y_M_changed ∈ WD := wd_of 629 rfl rfl
set_option maxRecDepth 20000 in
theorem k_630 : Cond.selects "PlainPortModel" y_M_changed y_M_changed ∈ WD := wd_of 630 rfl rfl
set_option maxRecDepth 20000 in
theorem k_631 : Cond.code y_M_changed prog_8_method_32_code 8 (some .int) ∈ WD := wd_of 631 rfl rfl
set_option maxRecDepth 20000 in
theorem k_632 : Cond.methodLink "PlainPortLaw" 96 y_M_count ∈ WD := wd_of 632 rfl rfl
set_option maxRecDepth 20000 in
theorem k_633 : Cond.instanceMethod y_M_count ∈ WD := wd_of 633 rfl rfl
set_option maxRecDepth 20000 in
theorem k_634 : Cond.selects "PlainPortModel" y_M_count y_M_count ∈ WD := wd_of 634 rfl rfl
set_option maxRecDepth 20000 in
theorem k_635 : Cond.code y_M_count prog_8_method_33_code 4 (some .int) ∈ WD := wd_of 635 rfl rfl
set_option maxRecDepth 20000 in
theorem k_636 : Cond.arrayClass .long ∈ WD := wd_of 636 rfl rfl
set_option maxRecDepth 20000 in
theorem k_637 : Cond.sameMethod "java/lang/Throwable" "java/lang/Throwable" "fillInStackTrace" "(I)Ljava/lang/Throwable;" ∈ WD := wd_of 637 rfl rfl
theorem ks_0 : Cond.selects y_A_isFull.cls y_A_isFull y_A_isFull ∈ WD := wd_sel (n := 6) 0 rfl rfl
theorem ks_1 : Cond.selects y_A_canTell.cls y_A_canTell y_A_canTell ∈ WD := wd_sel (n := 6) 1 rfl rfl
theorem ks_2 : Cond.selects y_A_has.cls y_A_has y_A_has ∈ WD := wd_sel (n := 6) 2 rfl rfl
theorem ks_3 : Cond.selects y_A_append.cls y_A_append y_A_append ∈ WD := wd_sel (n := 6) 3 rfl rfl
theorem ks_4 : Cond.selects y_A_voidsAsKnown.cls y_A_voidsAsKnown y_A_voidsAsKnown ∈ WD := wd_sel (n := 6) 4 rfl rfl
theorem ks_5 : Cond.selects y_A_isVoid.cls y_A_isVoid y_A_isVoid ∈ WD := wd_sel (n := 6) 5 rfl rfl
theorem ks_7 : Cond.selects y_X_draw.cls y_X_draw y_X_draw ∈ WD := wd_sel (n := 8) 7 rfl rfl
theorem ks_8 : Cond.selects y_X_gather.cls y_X_gather y_X_gather ∈ WD := wd_sel (n := 8) 8 rfl rfl
theorem ks_9 : Cond.selects y_O_gather.cls y_O_gather y_O_gather ∈ WD := wd_sel (n := 2) 9 rfl rfl
theorem ks_10 : Cond.selects y_A_holds.cls y_A_holds y_A_holds ∈ WD := wd_sel (n := 6) 10 rfl rfl
theorem ks_11 : Cond.selects y_O_insert.cls y_O_insert y_O_insert ∈ WD := wd_sel (n := 2) 11 rfl rfl
theorem ks_12 : Cond.selects y_A_goesAhead.cls y_A_goesAhead y_A_goesAhead ∈ WD := wd_sel (n := 6) 12 rfl rfl
theorem ks_13 : Cond.selects y_P_draw.cls y_P_draw y_P_draw ∈ WD := wd_sel (n := 3) 13 rfl rfl
theorem ks_14 : Cond.selects y_P_apply.cls y_P_apply y_P_apply ∈ WD := wd_sel (n := 3) 14 rfl rfl
theorem ks_15 : Cond.selects y_P_boxIn.cls y_P_boxIn y_P_boxIn ∈ WD := wd_sel (n := 3) 15 rfl rfl
theorem ks_16 : Cond.selects y_S_serveAll.cls y_S_serveAll y_S_serveAll ∈ WD := wd_sel (n := 3) 16 rfl rfl
theorem ks_17 : Cond.selects y_S_gatherAsks.cls y_S_gatherAsks y_S_gatherAsks ∈ WD := wd_sel (n := 3) 17 rfl rfl
theorem ks_18 : Cond.selects y_S_startsTime.cls y_S_startsTime y_S_startsTime ∈ WD := wd_sel (n := 3) 18 rfl rfl
theorem ks_19 : Cond.selects y_S_endOfTime.cls y_S_endOfTime y_S_endOfTime ∈ WD := wd_sel (n := 3) 19 rfl rfl
theorem ks_20 : Cond.selects y_S_serveTime.cls y_S_serveTime y_S_serveTime ∈ WD := wd_sel (n := 3) 20 rfl rfl
theorem ks_21 : Cond.selects y_B_leastWay.cls y_B_leastWay y_B_leastWay ∈ WD := wd_sel (n := 3) 21 rfl rfl
theorem ks_22 : Cond.selects y_B_gatherBoxes.cls y_B_gatherBoxes y_B_gatherBoxes ∈ WD := wd_sel (n := 3) 22 rfl rfl
theorem ks_23 : Cond.selects y_B_leastFor.cls y_B_leastFor y_B_leastFor ∈ WD := wd_sel (n := 3) 23 rfl rfl
theorem ks_24 : Cond.selects y_P_differencesFrom.cls y_P_differencesFrom y_P_differencesFrom ∈ WD := wd_sel (n := 3) 24 rfl rfl
theorem ks_25 : Cond.selects y_M_fits.cls y_M_fits y_M_fits ∈ WD := wd_sel (n := 14) 25 rfl rfl
theorem ks_26 : Cond.selects y_M_isAsked.cls y_M_isAsked y_M_isAsked ∈ WD := wd_sel (n := 14) 26 rfl rfl
theorem ks_27 : Cond.selects y_M_finds.cls y_M_finds y_M_finds ∈ WD := wd_sel (n := 14) 27 rfl rfl
theorem ks_28 : Cond.selects y_M_next.cls y_M_next y_M_next ∈ WD := wd_sel (n := 14) 28 rfl rfl
theorem ks_29 : Cond.selects y_M_counts.cls y_M_counts y_M_counts ∈ WD := wd_sel (n := 14) 29 rfl rfl
theorem ks_30 : Cond.selects y_M_isVoid.cls y_M_isVoid y_M_isVoid ∈ WD := wd_sel (n := 14) 30 rfl rfl
theorem ks_31 : Cond.selects y_M_order.cls y_M_order y_M_order ∈ WD := wd_sel (n := 14) 31 rfl rfl
theorem ks_32 : Cond.selects y_M_holds.cls y_M_holds y_M_holds ∈ WD := wd_sel (n := 14) 32 rfl rfl
theorem ks_33 : Cond.selects y_M_boxAt.cls y_M_boxAt y_M_boxAt ∈ WD := wd_sel (n := 14) 33 rfl rfl
theorem ks_34 : Cond.selects y_M_serves.cls y_M_serves y_M_serves ∈ WD := wd_sel (n := 14) 34 rfl rfl
theorem ks_35 : Cond.selects y_M_asks.cls y_M_asks y_M_asks ∈ WD := wd_sel (n := 14) 35 rfl rfl
theorem ks_36 : Cond.selects y_M_leastOf.cls y_M_leastOf y_M_leastOf ∈ WD := wd_sel (n := 14) 36 rfl rfl
theorem ks_37 : Cond.selects y_M_lying.cls y_M_lying y_M_lying ∈ WD := wd_sel (n := 14) 37 rfl rfl
theorem ks_38 : Cond.selects y_M_refuse.cls y_M_refuse y_M_refuse ∈ WD := wd_sel (n := 14) 38 rfl rfl
theorem in_A {x : Cond} : ∀ w ∈ u_ws R_A T_A 6, w ∈ x :: WD := by
  have h : ∀ w ∈ u_ws R_A T_A 6, w ∈ WD := List.forall_mem_cons.mpr ⟨k_50, List.forall_mem_cons.mpr ⟨k_52, List.forall_mem_cons.mpr ⟨k_54, List.forall_mem_cons.mpr ⟨k_56, List.forall_mem_cons.mpr ⟨k_58, List.forall_mem_cons.mpr ⟨k_60, fun _ h => absurd h List.not_mem_nil⟩⟩⟩⟩⟩⟩
  exact fun w hw => wm (h w hw)
theorem in_B {x : Cond} : ∀ w ∈ u_ws R_B T_B 3, w ∈ x :: WD := by
  have h : ∀ w ∈ u_ws R_B T_B 3, w ∈ WD := List.forall_mem_cons.mpr ⟨k_127, List.forall_mem_cons.mpr ⟨k_129, List.forall_mem_cons.mpr ⟨k_131, fun _ h => absurd h List.not_mem_nil⟩⟩⟩
  exact fun w hw => wm (h w hw)
theorem in_O {x : Cond} : ∀ w ∈ u_ws R_O T_O 2, w ∈ x :: WD := by
  have h : ∀ w ∈ u_ws R_O T_O 2, w ∈ WD := List.forall_mem_cons.mpr ⟨k_76, List.forall_mem_cons.mpr ⟨k_78, fun _ h => absurd h List.not_mem_nil⟩⟩
  exact fun w hw => wm (h w hw)
theorem in_P {x : Cond} : ∀ w ∈ u_ws R_P T_P 3, w ∈ x :: WD := by
  have h : ∀ w ∈ u_ws R_P T_P 3, w ∈ WD := List.forall_mem_cons.mpr ⟨k_94, List.forall_mem_cons.mpr ⟨k_96, List.forall_mem_cons.mpr ⟨k_98, fun _ h => absurd h List.not_mem_nil⟩⟩⟩
  exact fun w hw => wm (h w hw)
theorem in_S {x : Cond} : ∀ w ∈ u_ws R_S T_S 3, w ∈ x :: WD := by
  have h : ∀ w ∈ u_ws R_S T_S 3, w ∈ WD := List.forall_mem_cons.mpr ⟨k_111, List.forall_mem_cons.mpr ⟨k_113, List.forall_mem_cons.mpr ⟨k_115, fun _ h => absurd h List.not_mem_nil⟩⟩⟩
  exact fun w hw => wm (h w hw)
theorem in_X {x : Cond} : ∀ w ∈ u_ws R_X T_X 8, w ∈ x :: WD := by
  have h : ∀ w ∈ u_ws R_X T_X 8, w ∈ WD := List.forall_mem_cons.mpr ⟨k_142, List.forall_mem_cons.mpr ⟨k_144, List.forall_mem_cons.mpr ⟨k_146, List.forall_mem_cons.mpr ⟨k_148, List.forall_mem_cons.mpr ⟨k_150, List.forall_mem_cons.mpr ⟨k_152, List.forall_mem_cons.mpr ⟨k_154, List.forall_mem_cons.mpr ⟨k_156, fun _ h => absurd h List.not_mem_nil⟩⟩⟩⟩⟩⟩⟩⟩
  exact fun w hw => wm (h w hw)
theorem in_M {x : Cond} : ∀ w ∈ u_ws R_M T_M 14, w ∈ x :: WD := by
  have h : ∀ w ∈ u_ws R_M T_M 14, w ∈ WD := List.forall_mem_cons.mpr ⟨k_481, List.forall_mem_cons.mpr ⟨k_483, List.forall_mem_cons.mpr ⟨k_485, List.forall_mem_cons.mpr ⟨k_487, List.forall_mem_cons.mpr ⟨k_489, List.forall_mem_cons.mpr ⟨k_491, List.forall_mem_cons.mpr ⟨k_493, List.forall_mem_cons.mpr ⟨k_495, List.forall_mem_cons.mpr ⟨k_497, List.forall_mem_cons.mpr ⟨k_499, List.forall_mem_cons.mpr ⟨k_501, List.forall_mem_cons.mpr ⟨k_503, List.forall_mem_cons.mpr ⟨k_505, List.forall_mem_cons.mpr ⟨k_507, fun _ h => absurd h List.not_mem_nil⟩⟩⟩⟩⟩⟩⟩⟩⟩⟩⟩⟩⟩⟩
  exact fun w hw => wm (h w hw)
end
section
theorem d_X_init_0 : decode c_X_init 0 = .ok (.aload_n 0, 1) := by decide +kernel
theorem d_X_init_1 : decode c_X_init 1 = .ok (.invokespecial 1, 3) := by decide +kernel
theorem d_X_init_4 : decode c_X_init 4 = .ok (.aload_n 0, 1) := by decide +kernel
theorem d_X_init_5 : decode c_X_init 5 = .ok (.new 7, 3) := by decide +kernel
theorem d_X_init_8 : decode c_X_init 8 = .ok (.dup, 1) := by decide +kernel
theorem d_X_init_9 : decode c_X_init 9 = .ok (.invokespecial 9, 3) := by decide +kernel
theorem d_X_init_12 : decode c_X_init 12 = .ok (.putfield 10, 3) := by decide +kernel
theorem d_X_init_15 : decode c_X_init 15 = .ok (.aload_n 0, 1) := by decide +kernel
theorem d_X_init_16 : decode c_X_init 16 = .ok (.new 16, 3) := by decide +kernel
theorem d_X_init_19 : decode c_X_init 19 = .ok (.dup, 1) := by decide +kernel
theorem d_X_init_20 : decode c_X_init 20 = .ok (.invokespecial 18, 3) := by decide +kernel
theorem d_X_init_23 : decode c_X_init 23 = .ok (.putfield 19, 3) := by decide +kernel
theorem d_X_init_26 : decode c_X_init 26 = .ok (.aload_n 0, 1) := by decide +kernel
theorem d_X_init_27 : decode c_X_init 27 = .ok (.new 23, 3) := by decide +kernel
theorem d_X_init_30 : decode c_X_init 30 = .ok (.dup, 1) := by decide +kernel
theorem d_X_init_31 : decode c_X_init 31 = .ok (.invokespecial 25, 3) := by decide +kernel
theorem d_X_init_34 : decode c_X_init 34 = .ok (.putfield 26, 3) := by decide +kernel
theorem d_X_init_37 : decode c_X_init 37 = .ok (.aload_n 0, 1) := by decide +kernel
theorem d_X_init_38 : decode c_X_init 38 = .ok (.new 23, 3) := by decide +kernel
theorem d_X_init_41 : decode c_X_init 41 = .ok (.dup, 1) := by decide +kernel
theorem d_X_init_42 : decode c_X_init 42 = .ok (.invokespecial 25, 3) := by decide +kernel
theorem d_X_init_45 : decode c_X_init 45 = .ok (.putfield 30, 3) := by decide +kernel
theorem d_X_init_48 : decode c_X_init 48 = .ok (.aload_n 0, 1) := by decide +kernel
theorem d_X_init_49 : decode c_X_init 49 = .ok (.new 33, 3) := by decide +kernel
theorem d_X_init_52 : decode c_X_init 52 = .ok (.dup, 1) := by decide +kernel
theorem d_X_init_53 : decode c_X_init 53 = .ok (.invokespecial 35, 3) := by decide +kernel
theorem d_X_init_56 : decode c_X_init 56 = .ok (.putfield 36, 3) := by decide +kernel
theorem d_X_init_59 : decode c_X_init 59 = .ok (.aload_n 0, 1) := by decide +kernel
theorem d_X_init_60 : decode c_X_init 60 = .ok (.new 40, 3) := by decide +kernel
theorem d_X_init_63 : decode c_X_init 63 = .ok (.dup, 1) := by decide +kernel
theorem d_X_init_64 : decode c_X_init 64 = .ok (.invokespecial 42, 3) := by decide +kernel
theorem d_X_init_67 : decode c_X_init 67 = .ok (.putfield 43, 3) := by decide +kernel
theorem d_X_init_70 : decode c_X_init 70 = .ok (.aload_n 0, 1) := by decide +kernel
theorem d_X_init_71 : decode c_X_init 71 = .ok (.iconst 0, 1) := by decide +kernel
theorem d_X_init_72 : decode c_X_init 72 = .ok (.putfield 47, 3) := by decide +kernel
theorem d_X_init_75 : decode c_X_init 75 = .ok (.aload_n 0, 1) := by decide +kernel
theorem d_X_init_76 : decode c_X_init 76 = .ok (.iconst 0, 1) := by decide +kernel
theorem d_X_init_77 : decode c_X_init 77 = .ok (.putfield 51, 3) := by decide +kernel
theorem d_X_init_80 : decode c_X_init 80 = .ok (.return_, 1) := by decide +kernel
theorem d_A_init_0 : decode c_A_init 0 = .ok (.aload_n 0, 1) := by decide +kernel
theorem d_A_init_1 : decode c_A_init 1 = .ok (.invokespecial 3, 3) := by decide +kernel
theorem d_A_init_4 : decode c_A_init 4 = .ok (.aload_n 0, 1) := by decide +kernel
theorem d_A_init_5 : decode c_A_init 5 = .ok (.bipush 80, 2) := by decide +kernel
theorem d_A_init_7 : decode c_A_init 7 = .ok (.newarray .int, 2) := by decide +kernel
theorem d_A_init_9 : decode c_A_init 9 = .ok (.putfield 9, 3) := by decide +kernel
theorem d_A_init_12 : decode c_A_init 12 = .ok (.aload_n 0, 1) := by decide +kernel
theorem d_A_init_13 : decode c_A_init 13 = .ok (.bipush 80, 2) := by decide +kernel
theorem d_A_init_15 : decode c_A_init 15 = .ok (.newarray .int, 2) := by decide +kernel
theorem d_A_init_17 : decode c_A_init 17 = .ok (.putfield 15, 3) := by decide +kernel
theorem d_A_init_20 : decode c_A_init 20 = .ok (.aload_n 0, 1) := by decide +kernel
theorem d_A_init_21 : decode c_A_init 21 = .ok (.bipush 80, 2) := by decide +kernel
theorem d_A_init_23 : decode c_A_init 23 = .ok (.newarray .int, 2) := by decide +kernel
theorem d_A_init_25 : decode c_A_init 25 = .ok (.putfield 18, 3) := by decide +kernel
theorem d_A_init_28 : decode c_A_init 28 = .ok (.aload_n 0, 1) := by decide +kernel
theorem d_A_init_29 : decode c_A_init 29 = .ok (.bipush 80, 2) := by decide +kernel
theorem d_A_init_31 : decode c_A_init 31 = .ok (.newarray .int, 2) := by decide +kernel
theorem d_A_init_33 : decode c_A_init 33 = .ok (.putfield 21, 3) := by decide +kernel
theorem d_A_init_36 : decode c_A_init 36 = .ok (.aload_n 0, 1) := by decide +kernel
theorem d_A_init_37 : decode c_A_init 37 = .ok (.bipush 80, 2) := by decide +kernel
theorem d_A_init_39 : decode c_A_init 39 = .ok (.newarray .int, 2) := by decide +kernel
theorem d_A_init_41 : decode c_A_init 41 = .ok (.putfield 24, 3) := by decide +kernel
theorem d_A_init_44 : decode c_A_init 44 = .ok (.aload_n 0, 1) := by decide +kernel
theorem d_A_init_45 : decode c_A_init 45 = .ok (.iconst 0, 1) := by decide +kernel
theorem d_A_init_46 : decode c_A_init 46 = .ok (.putfield 27, 3) := by decide +kernel
theorem d_A_init_49 : decode c_A_init 49 = .ok (.return_, 1) := by decide +kernel
theorem d_O_init_0 : decode c_O_init 0 = .ok (.aload_n 0, 1) := by decide +kernel
theorem d_O_init_1 : decode c_O_init 1 = .ok (.invokespecial 3, 3) := by decide +kernel
theorem d_O_init_4 : decode c_O_init 4 = .ok (.aload_n 0, 1) := by decide +kernel
theorem d_O_init_5 : decode c_O_init 5 = .ok (.bipush 80, 2) := by decide +kernel
theorem d_O_init_7 : decode c_O_init 7 = .ok (.newarray .int, 2) := by decide +kernel
theorem d_O_init_9 : decode c_O_init 9 = .ok (.putfield 9, 3) := by decide +kernel
theorem d_O_init_12 : decode c_O_init 12 = .ok (.aload_n 0, 1) := by decide +kernel
theorem d_O_init_13 : decode c_O_init 13 = .ok (.iconst 0, 1) := by decide +kernel
theorem d_O_init_14 : decode c_O_init 14 = .ok (.putfield 15, 3) := by decide +kernel
theorem d_O_init_17 : decode c_O_init 17 = .ok (.return_, 1) := by decide +kernel
theorem d_P_init_0 : decode c_P_init 0 = .ok (.aload_n 0, 1) := by decide +kernel
theorem d_P_init_1 : decode c_P_init 1 = .ok (.invokespecial 3, 3) := by decide +kernel
theorem d_P_init_4 : decode c_P_init 4 = .ok (.aload_n 0, 1) := by decide +kernel
theorem d_P_init_5 : decode c_P_init 5 = .ok (.bipush 20, 2) := by decide +kernel
theorem d_P_init_7 : decode c_P_init 7 = .ok (.newarray .int, 2) := by decide +kernel
theorem d_P_init_9 : decode c_P_init 9 = .ok (.putfield 9, 3) := by decide +kernel
theorem d_P_init_12 : decode c_P_init 12 = .ok (.aload_n 0, 1) := by decide +kernel
theorem d_P_init_13 : decode c_P_init 13 = .ok (.bipush 10, 2) := by decide +kernel
theorem d_P_init_15 : decode c_P_init 15 = .ok (.newarray .int, 2) := by decide +kernel
theorem d_P_init_17 : decode c_P_init 17 = .ok (.putfield 15, 3) := by decide +kernel
theorem d_P_init_20 : decode c_P_init 20 = .ok (.aload_n 0, 1) := by decide +kernel
theorem d_P_init_21 : decode c_P_init 21 = .ok (.bipush 10, 2) := by decide +kernel
theorem d_P_init_23 : decode c_P_init 23 = .ok (.newarray .int, 2) := by decide +kernel
theorem d_P_init_25 : decode c_P_init 25 = .ok (.putfield 18, 3) := by decide +kernel
theorem d_P_init_28 : decode c_P_init 28 = .ok (.return_, 1) := by decide +kernel
theorem d_S_init_0 : decode c_S_init 0 = .ok (.aload_n 0, 1) := by decide +kernel
theorem d_S_init_1 : decode c_S_init 1 = .ok (.invokespecial 3, 3) := by decide +kernel
theorem d_S_init_4 : decode c_S_init 4 = .ok (.aload_n 0, 1) := by decide +kernel
theorem d_S_init_5 : decode c_S_init 5 = .ok (.bipush 10, 2) := by decide +kernel
theorem d_S_init_7 : decode c_S_init 7 = .ok (.newarray .int, 2) := by decide +kernel
theorem d_S_init_9 : decode c_S_init 9 = .ok (.putfield 9, 3) := by decide +kernel
theorem d_S_init_12 : decode c_S_init 12 = .ok (.aload_n 0, 1) := by decide +kernel
theorem d_S_init_13 : decode c_S_init 13 = .ok (.bipush 80, 2) := by decide +kernel
theorem d_S_init_15 : decode c_S_init 15 = .ok (.newarray .int, 2) := by decide +kernel
theorem d_S_init_17 : decode c_S_init 17 = .ok (.putfield 15, 3) := by decide +kernel
theorem d_S_init_20 : decode c_S_init 20 = .ok (.aload_n 0, 1) := by decide +kernel
theorem d_S_init_21 : decode c_S_init 21 = .ok (.iconst 0, 1) := by decide +kernel
theorem d_S_init_22 : decode c_S_init 22 = .ok (.putfield 18, 3) := by decide +kernel
theorem d_S_init_25 : decode c_S_init 25 = .ok (.return_, 1) := by decide +kernel
theorem d_B_init_0 : decode c_B_init 0 = .ok (.aload_n 0, 1) := by decide +kernel
theorem d_B_init_1 : decode c_B_init 1 = .ok (.invokespecial 3, 3) := by decide +kernel
theorem d_B_init_4 : decode c_B_init 4 = .ok (.aload_n 0, 1) := by decide +kernel
theorem d_B_init_5 : decode c_B_init 5 = .ok (.bipush 6, 2) := by decide +kernel
theorem d_B_init_7 : decode c_B_init 7 = .ok (.newarray .int, 2) := by decide +kernel
theorem d_B_init_9 : decode c_B_init 9 = .ok (.putfield 9, 3) := by decide +kernel
theorem d_B_init_12 : decode c_B_init 12 = .ok (.aload_n 0, 1) := by decide +kernel
theorem d_B_init_13 : decode c_B_init 13 = .ok (.bipush 64, 2) := by decide +kernel
theorem d_B_init_15 : decode c_B_init 15 = .ok (.newarray .int, 2) := by decide +kernel
theorem d_B_init_17 : decode c_B_init 17 = .ok (.putfield 15, 3) := by decide +kernel
theorem d_B_init_20 : decode c_B_init 20 = .ok (.aload_n 0, 1) := by decide +kernel
theorem d_B_init_21 : decode c_B_init 21 = .ok (.iconst 0, 1) := by decide +kernel
theorem d_B_init_22 : decode c_B_init 22 = .ok (.putfield 18, 3) := by decide +kernel
theorem d_B_init_25 : decode c_B_init 25 = .ok (.return_, 1) := by decide +kernel
theorem d_X_event_0 : decode c_X_event 0 = .ok (.aload_n 0, 1) := by decide +kernel
theorem d_X_event_1 : decode c_X_event 1 = .ok (.getfield 10, 3) := by decide +kernel
theorem d_X_event_4 : decode c_X_event 4 = .ok (.invokevirtual 54, 3) := by decide +kernel
theorem d_X_event_7 : decode c_X_event 7 = .ok (.ifCond .ne 24, 3) := by decide +kernel
theorem d_X_event_10 : decode c_X_event 10 = .ok (.iload 4, 2) := by decide +kernel
theorem d_X_event_12 : decode c_X_event 12 = .ok (.invokestatic 58, 3) := by decide +kernel
theorem d_X_event_15 : decode c_X_event 15 = .ok (.ifCond .eq 16, 3) := by decide +kernel
theorem d_X_event_18 : decode c_X_event 18 = .ok (.aload_n 0, 1) := by decide +kernel
theorem d_X_event_19 : decode c_X_event 19 = .ok (.getfield 10, 3) := by decide +kernel
theorem d_X_event_22 : decode c_X_event 22 = .ok (.iload_n 1, 1) := by decide +kernel
theorem d_X_event_23 : decode c_X_event 23 = .ok (.iload_n 2, 1) := by decide +kernel
theorem d_X_event_24 : decode c_X_event 24 = .ok (.iload_n 3, 1) := by decide +kernel
theorem d_X_event_25 : decode c_X_event 25 = .ok (.invokevirtual 62, 3) := by decide +kernel
theorem d_X_event_28 : decode c_X_event 28 = .ok (.ifCond .ne 15, 3) := by decide +kernel
theorem d_X_event_31 : decode c_X_event 31 = .ok (.aload_n 0, 1) := by decide +kernel
theorem d_X_event_32 : decode c_X_event 32 = .ok (.dup, 1) := by decide +kernel
theorem d_X_event_33 : decode c_X_event 33 = .ok (.getfield 51, 3) := by decide +kernel
theorem d_X_event_36 : decode c_X_event 36 = .ok (.iconst 1, 1) := by decide +kernel
theorem d_X_event_37 : decode c_X_event 37 = .ok (.iadd, 1) := by decide +kernel
theorem d_X_event_38 : decode c_X_event 38 = .ok (.putfield 51, 3) := by decide +kernel
theorem d_X_event_41 : decode c_X_event 41 = .ok (.iconst (-1), 1) := by decide +kernel
theorem d_X_event_42 : decode c_X_event 42 = .ok (.ireturn, 1) := by decide +kernel
theorem d_X_event_43 : decode c_X_event 43 = .ok (.aload_n 0, 1) := by decide +kernel
theorem d_X_event_44 : decode c_X_event 44 = .ok (.getfield 10, 3) := by decide +kernel
theorem d_X_event_47 : decode c_X_event 47 = .ok (.iload_n 1, 1) := by decide +kernel
theorem d_X_event_48 : decode c_X_event 48 = .ok (.iload_n 2, 1) := by decide +kernel
theorem d_X_event_49 : decode c_X_event 49 = .ok (.iload_n 3, 1) := by decide +kernel
theorem d_X_event_50 : decode c_X_event 50 = .ok (.iload 4, 2) := by decide +kernel
theorem d_X_event_52 : decode c_X_event 52 = .ok (.aload_n 0, 1) := by decide +kernel
theorem d_X_event_53 : decode c_X_event 53 = .ok (.getfield 47, 3) := by decide +kernel
theorem d_X_event_56 : decode c_X_event 56 = .ok (.invokevirtual 66, 3) := by decide +kernel
theorem d_X_event_59 : decode c_X_event 59 = .ok (.ireturn, 1) := by decide +kernel
theorem d_A_isFull_0 : decode c_A_isFull 0 = .ok (.aload_n 0, 1) := by decide +kernel
theorem d_A_isFull_1 : decode c_A_isFull 1 = .ok (.getfield 27, 3) := by decide +kernel
theorem d_A_isFull_4 : decode c_A_isFull 4 = .ok (.bipush 80, 2) := by decide +kernel
theorem d_A_isFull_6 : decode c_A_isFull 6 = .ok (.if_icmp .lt 7, 3) := by decide +kernel
theorem d_A_isFull_9 : decode c_A_isFull 9 = .ok (.iconst 1, 1) := by decide +kernel
theorem d_A_isFull_10 : decode c_A_isFull 10 = .ok (.goto 4, 3) := by decide +kernel
theorem d_A_isFull_13 : decode c_A_isFull 13 = .ok (.iconst 0, 1) := by decide +kernel
theorem d_A_isFull_14 : decode c_A_isFull 14 = .ok (.ireturn, 1) := by decide +kernel
theorem d_X_isTime_0 : decode c_X_isTime 0 = .ok (.iload_n 0, 1) := by decide +kernel
theorem d_X_isTime_1 : decode c_X_isTime 1 = .ok (.iconst 0, 1) := by decide +kernel
theorem d_X_isTime_2 : decode c_X_isTime 2 = .ok (.sipush 10000, 3) := by decide +kernel
theorem d_X_isTime_5 : decode c_X_isTime 5 = .ok (.invokestatic 160, 3) := by decide +kernel
theorem d_X_isTime_8 : decode c_X_isTime 8 = .ok (.ireturn, 1) := by decide +kernel
theorem d_X_isWithin_0 : decode c_X_isWithin 0 = .ok (.iload_n 0, 1) := by decide +kernel
theorem d_X_isWithin_1 : decode c_X_isWithin 1 = .ok (.iload_n 1, 1) := by decide +kernel
theorem d_X_isWithin_2 : decode c_X_isWithin 2 = .ok (.if_icmp .lt 12, 3) := by decide +kernel
theorem d_X_isWithin_5 : decode c_X_isWithin 5 = .ok (.iload_n 0, 1) := by decide +kernel
theorem d_X_isWithin_6 : decode c_X_isWithin 6 = .ok (.iload_n 2, 1) := by decide +kernel
theorem d_X_isWithin_7 : decode c_X_isWithin 7 = .ok (.if_icmp .gt 7, 3) := by decide +kernel
theorem d_X_isWithin_10 : decode c_X_isWithin 10 = .ok (.iconst 1, 1) := by decide +kernel
theorem d_X_isWithin_11 : decode c_X_isWithin 11 = .ok (.goto 4, 3) := by decide +kernel
theorem d_X_isWithin_14 : decode c_X_isWithin 14 = .ok (.iconst 0, 1) := by decide +kernel
theorem d_X_isWithin_15 : decode c_X_isWithin 15 = .ok (.ireturn, 1) := by decide +kernel
theorem d_A_canTell_0 : decode c_A_canTell 0 = .ok (.iload_n 1, 1) := by decide +kernel
theorem d_A_canTell_1 : decode c_A_canTell 1 = .ok (.tableswitch 192 0 5 #[39, 65, 85, 110, 137, 164], 39) := by decide +kernel
theorem d_A_canTell_40 : decode c_A_canTell 40 = .ok (.iload_n 2, 1) := by decide +kernel
theorem d_A_canTell_41 : decode c_A_canTell 41 = .ok (.iconst 0, 1) := by decide +kernel
theorem d_A_canTell_42 : decode c_A_canTell 42 = .ok (.bipush 19, 2) := by decide +kernel
theorem d_A_canTell_44 : decode c_A_canTell 44 = .ok (.invokestatic 31, 3) := by decide +kernel
theorem d_A_canTell_47 : decode c_A_canTell 47 = .ok (.ifCond .eq 17, 3) := by decide +kernel
theorem d_A_canTell_50 : decode c_A_canTell 50 = .ok (.iload_n 3, 1) := by decide +kernel
theorem d_A_canTell_51 : decode c_A_canTell 51 = .ok (.iconst 0, 1) := by decide +kernel
theorem d_A_canTell_52 : decode c_A_canTell 52 = .ok (.bipush 99, 2) := by decide +kernel
theorem d_A_canTell_54 : decode c_A_canTell 54 = .ok (.invokestatic 31, 3) := by decide +kernel
theorem d_A_canTell_57 : decode c_A_canTell 57 = .ok (.ifCond .eq 7, 3) := by decide +kernel
theorem d_A_canTell_60 : decode c_A_canTell 60 = .ok (.iconst 1, 1) := by decide +kernel
theorem d_A_canTell_61 : decode c_A_canTell 61 = .ok (.goto 4, 3) := by decide +kernel
theorem d_A_canTell_64 : decode c_A_canTell 64 = .ok (.iconst 0, 1) := by decide +kernel
theorem d_A_canTell_65 : decode c_A_canTell 65 = .ok (.ireturn, 1) := by decide +kernel
theorem d_A_canTell_66 : decode c_A_canTell 66 = .ok (.iload_n 2, 1) := by decide +kernel
theorem d_A_canTell_67 : decode c_A_canTell 67 = .ok (.iconst 0, 1) := by decide +kernel
theorem d_A_canTell_68 : decode c_A_canTell 68 = .ok (.bipush 19, 2) := by decide +kernel
theorem d_A_canTell_70 : decode c_A_canTell 70 = .ok (.invokestatic 31, 3) := by decide +kernel
theorem d_A_canTell_73 : decode c_A_canTell 73 = .ok (.ifCond .eq 11, 3) := by decide +kernel
theorem d_A_canTell_76 : decode c_A_canTell 76 = .ok (.iload_n 3, 1) := by decide +kernel
theorem d_A_canTell_77 : decode c_A_canTell 77 = .ok (.ifCond .ne 7, 3) := by decide +kernel
theorem d_A_canTell_80 : decode c_A_canTell 80 = .ok (.iconst 1, 1) := by decide +kernel
theorem d_A_canTell_81 : decode c_A_canTell 81 = .ok (.goto 4, 3) := by decide +kernel
theorem d_A_canTell_84 : decode c_A_canTell 84 = .ok (.iconst 0, 1) := by decide +kernel
theorem d_A_canTell_85 : decode c_A_canTell 85 = .ok (.ireturn, 1) := by decide +kernel
theorem d_A_canTell_86 : decode c_A_canTell 86 = .ok (.iload_n 2, 1) := by decide +kernel
theorem d_A_canTell_87 : decode c_A_canTell 87 = .ok (.iconst 0, 1) := by decide +kernel
theorem d_A_canTell_88 : decode c_A_canTell 88 = .ok (.bipush 9, 2) := by decide +kernel
theorem d_A_canTell_90 : decode c_A_canTell 90 = .ok (.invokestatic 31, 3) := by decide +kernel
theorem d_A_canTell_93 : decode c_A_canTell 93 = .ok (.ifCond .eq 16, 3) := by decide +kernel
theorem d_A_canTell_96 : decode c_A_canTell 96 = .ok (.iload_n 3, 1) := by decide +kernel
theorem d_A_canTell_97 : decode c_A_canTell 97 = .ok (.iconst 0, 1) := by decide +kernel
theorem d_A_canTell_98 : decode c_A_canTell 98 = .ok (.iconst 5, 1) := by decide +kernel
theorem d_A_canTell_99 : decode c_A_canTell 99 = .ok (.invokestatic 31, 3) := by decide +kernel
theorem d_A_canTell_102 : decode c_A_canTell 102 = .ok (.ifCond .eq 7, 3) := by decide +kernel
theorem d_A_canTell_105 : decode c_A_canTell 105 = .ok (.iconst 1, 1) := by decide +kernel
theorem d_A_canTell_106 : decode c_A_canTell 106 = .ok (.goto 4, 3) := by decide +kernel
theorem d_A_canTell_109 : decode c_A_canTell 109 = .ok (.iconst 0, 1) := by decide +kernel
theorem d_A_canTell_110 : decode c_A_canTell 110 = .ok (.ireturn, 1) := by decide +kernel
theorem d_A_canTell_111 : decode c_A_canTell 111 = .ok (.iload_n 2, 1) := by decide +kernel
theorem d_A_canTell_112 : decode c_A_canTell 112 = .ok (.iconst 0, 1) := by decide +kernel
theorem d_A_canTell_113 : decode c_A_canTell 113 = .ok (.bipush 9, 2) := by decide +kernel
theorem d_A_canTell_115 : decode c_A_canTell 115 = .ok (.invokestatic 31, 3) := by decide +kernel
theorem d_A_canTell_118 : decode c_A_canTell 118 = .ok (.ifCond .eq 18, 3) := by decide +kernel
theorem d_A_canTell_121 : decode c_A_canTell 121 = .ok (.iload_n 3, 1) := by decide +kernel
theorem d_A_canTell_122 : decode c_A_canTell 122 = .ok (.ldc 35, 2) := by decide +kernel
theorem d_A_canTell_124 : decode c_A_canTell 124 = .ok (.ldc 36, 2) := by decide +kernel
theorem d_A_canTell_126 : decode c_A_canTell 126 = .ok (.invokestatic 31, 3) := by decide +kernel
theorem d_A_canTell_129 : decode c_A_canTell 129 = .ok (.ifCond .eq 7, 3) := by decide +kernel
theorem d_A_canTell_132 : decode c_A_canTell 132 = .ok (.iconst 1, 1) := by decide +kernel
theorem d_A_canTell_133 : decode c_A_canTell 133 = .ok (.goto 4, 3) := by decide +kernel
theorem d_A_canTell_136 : decode c_A_canTell 136 = .ok (.iconst 0, 1) := by decide +kernel
theorem d_A_canTell_137 : decode c_A_canTell 137 = .ok (.ireturn, 1) := by decide +kernel
theorem d_A_canTell_138 : decode c_A_canTell 138 = .ok (.iload_n 2, 1) := by decide +kernel
theorem d_A_canTell_139 : decode c_A_canTell 139 = .ok (.iconst 0, 1) := by decide +kernel
theorem d_A_canTell_140 : decode c_A_canTell 140 = .ok (.bipush 9, 2) := by decide +kernel
theorem d_A_canTell_142 : decode c_A_canTell 142 = .ok (.invokestatic 31, 3) := by decide +kernel
theorem d_A_canTell_145 : decode c_A_canTell 145 = .ok (.ifCond .eq 18, 3) := by decide +kernel
theorem d_A_canTell_148 : decode c_A_canTell 148 = .ok (.iload_n 3, 1) := by decide +kernel
theorem d_A_canTell_149 : decode c_A_canTell 149 = .ok (.iconst 1, 1) := by decide +kernel
theorem d_A_canTell_150 : decode c_A_canTell 150 = .ok (.sipush 1000, 3) := by decide +kernel
theorem d_A_canTell_153 : decode c_A_canTell 153 = .ok (.invokestatic 31, 3) := by decide +kernel
theorem d_A_canTell_156 : decode c_A_canTell 156 = .ok (.ifCond .eq 7, 3) := by decide +kernel
theorem d_A_canTell_159 : decode c_A_canTell 159 = .ok (.iconst 1, 1) := by decide +kernel
theorem d_A_canTell_160 : decode c_A_canTell 160 = .ok (.goto 4, 3) := by decide +kernel
theorem d_A_canTell_163 : decode c_A_canTell 163 = .ok (.iconst 0, 1) := by decide +kernel
theorem d_A_canTell_164 : decode c_A_canTell 164 = .ok (.ireturn, 1) := by decide +kernel
theorem d_A_canTell_165 : decode c_A_canTell 165 = .ok (.aload_n 0, 1) := by decide +kernel
theorem d_A_canTell_166 : decode c_A_canTell 166 = .ok (.iload_n 2, 1) := by decide +kernel
theorem d_A_canTell_167 : decode c_A_canTell 167 = .ok (.invokevirtual 37, 3) := by decide +kernel
theorem d_A_canTell_170 : decode c_A_canTell 170 = .ok (.ifCond .eq 21, 3) := by decide +kernel
theorem d_A_canTell_173 : decode c_A_canTell 173 = .ok (.aload_n 0, 1) := by decide +kernel
theorem d_A_canTell_174 : decode c_A_canTell 174 = .ok (.getfield 9, 3) := by decide +kernel
theorem d_A_canTell_177 : decode c_A_canTell 177 = .ok (.iload_n 2, 1) := by decide +kernel
theorem d_A_canTell_178 : decode c_A_canTell 178 = .ok (.iaload, 1) := by decide +kernel
theorem d_A_canTell_179 : decode c_A_canTell 179 = .ok (.iconst 5, 1) := by decide +kernel
theorem d_A_canTell_180 : decode c_A_canTell 180 = .ok (.if_icmp .eq 11, 3) := by decide +kernel
theorem d_A_canTell_183 : decode c_A_canTell 183 = .ok (.iload_n 3, 1) := by decide +kernel
theorem d_A_canTell_184 : decode c_A_canTell 184 = .ok (.ifCond .ne 7, 3) := by decide +kernel
theorem d_A_canTell_187 : decode c_A_canTell 187 = .ok (.iconst 1, 1) := by decide +kernel
theorem d_A_canTell_188 : decode c_A_canTell 188 = .ok (.goto 4, 3) := by decide +kernel
theorem d_A_canTell_191 : decode c_A_canTell 191 = .ok (.iconst 0, 1) := by decide +kernel
theorem d_A_canTell_192 : decode c_A_canTell 192 = .ok (.ireturn, 1) := by decide +kernel
theorem d_A_canTell_193 : decode c_A_canTell 193 = .ok (.iconst 0, 1) := by decide +kernel
theorem d_A_canTell_194 : decode c_A_canTell 194 = .ok (.ireturn, 1) := by decide +kernel
theorem d_A_has_0 : decode c_A_has 0 = .ok (.iload_n 1, 1) := by decide +kernel
theorem d_A_has_1 : decode c_A_has 1 = .ok (.ifCond .lt 15, 3) := by decide +kernel
theorem d_A_has_4 : decode c_A_has 4 = .ok (.iload_n 1, 1) := by decide +kernel
theorem d_A_has_5 : decode c_A_has 5 = .ok (.aload_n 0, 1) := by decide +kernel
theorem d_A_has_6 : decode c_A_has 6 = .ok (.getfield 27, 3) := by decide +kernel
theorem d_A_has_9 : decode c_A_has 9 = .ok (.if_icmp .ge 7, 3) := by decide +kernel
theorem d_A_has_12 : decode c_A_has 12 = .ok (.iconst 1, 1) := by decide +kernel
theorem d_A_has_13 : decode c_A_has 13 = .ok (.goto 4, 3) := by decide +kernel
theorem d_A_has_16 : decode c_A_has 16 = .ok (.iconst 0, 1) := by decide +kernel
theorem d_A_has_17 : decode c_A_has 17 = .ok (.ireturn, 1) := by decide +kernel
theorem d_A_append_0 : decode c_A_append 0 = .ok (.aload_n 0, 1) := by decide +kernel
theorem d_A_append_1 : decode c_A_append 1 = .ok (.invokevirtual 41, 3) := by decide +kernel
theorem d_A_append_4 : decode c_A_append 4 = .ok (.ifCond .eq 5, 3) := by decide +kernel
theorem d_A_append_7 : decode c_A_append 7 = .ok (.iconst (-1), 1) := by decide +kernel
theorem d_A_append_8 : decode c_A_append 8 = .ok (.ireturn, 1) := by decide +kernel
theorem d_A_append_9 : decode c_A_append 9 = .ok (.aload_n 0, 1) := by decide +kernel
theorem d_A_append_10 : decode c_A_append 10 = .ok (.getfield 27, 3) := by decide +kernel
theorem d_A_append_13 : decode c_A_append 13 = .ok (.istore 6, 2) := by decide +kernel
theorem d_A_append_15 : decode c_A_append 15 = .ok (.aload_n 0, 1) := by decide +kernel
theorem d_A_append_16 : decode c_A_append 16 = .ok (.getfield 9, 3) := by decide +kernel
theorem d_A_append_19 : decode c_A_append 19 = .ok (.iload 6, 2) := by decide +kernel
theorem d_A_append_21 : decode c_A_append 21 = .ok (.iload_n 1, 1) := by decide +kernel
theorem d_A_append_22 : decode c_A_append 22 = .ok (.iastore, 1) := by decide +kernel
theorem d_A_append_23 : decode c_A_append 23 = .ok (.aload_n 0, 1) := by decide +kernel
theorem d_A_append_24 : decode c_A_append 24 = .ok (.getfield 15, 3) := by decide +kernel
theorem d_A_append_27 : decode c_A_append 27 = .ok (.iload 6, 2) := by decide +kernel
theorem d_A_append_29 : decode c_A_append 29 = .ok (.iload_n 2, 1) := by decide +kernel
theorem d_A_append_30 : decode c_A_append 30 = .ok (.iastore, 1) := by decide +kernel
theorem d_A_append_31 : decode c_A_append 31 = .ok (.aload_n 0, 1) := by decide +kernel
theorem d_A_append_32 : decode c_A_append 32 = .ok (.getfield 18, 3) := by decide +kernel
theorem d_A_append_35 : decode c_A_append 35 = .ok (.iload 6, 2) := by decide +kernel
theorem d_A_append_37 : decode c_A_append 37 = .ok (.iload_n 3, 1) := by decide +kernel
theorem d_A_append_38 : decode c_A_append 38 = .ok (.iastore, 1) := by decide +kernel
theorem d_A_append_39 : decode c_A_append 39 = .ok (.aload_n 0, 1) := by decide +kernel
theorem d_A_append_40 : decode c_A_append 40 = .ok (.getfield 21, 3) := by decide +kernel
theorem d_A_append_43 : decode c_A_append 43 = .ok (.iload 6, 2) := by decide +kernel
theorem d_A_append_45 : decode c_A_append 45 = .ok (.iload 4, 2) := by decide +kernel
theorem d_A_append_47 : decode c_A_append 47 = .ok (.iastore, 1) := by decide +kernel
theorem d_A_append_48 : decode c_A_append 48 = .ok (.aload_n 0, 1) := by decide +kernel
theorem d_A_append_49 : decode c_A_append 49 = .ok (.getfield 24, 3) := by decide +kernel
theorem d_A_append_52 : decode c_A_append 52 = .ok (.iload 6, 2) := by decide +kernel
theorem d_A_append_54 : decode c_A_append 54 = .ok (.iload 5, 2) := by decide +kernel
theorem d_A_append_56 : decode c_A_append 56 = .ok (.iastore, 1) := by decide +kernel
theorem d_A_append_57 : decode c_A_append 57 = .ok (.aload_n 0, 1) := by decide +kernel
theorem d_A_append_58 : decode c_A_append 58 = .ok (.iload 6, 2) := by decide +kernel
theorem d_A_append_60 : decode c_A_append 60 = .ok (.iconst 1, 1) := by decide +kernel
theorem d_A_append_61 : decode c_A_append 61 = .ok (.iadd, 1) := by decide +kernel
theorem d_A_append_62 : decode c_A_append 62 = .ok (.putfield 27, 3) := by decide +kernel
theorem d_A_append_65 : decode c_A_append 65 = .ok (.iload 6, 2) := by decide +kernel
theorem d_A_append_67 : decode c_A_append 67 = .ok (.ireturn, 1) := by decide +kernel
theorem d_X_known_0 : decode c_X_known 0 = .ok (.iload_n 1, 1) := by decide +kernel
theorem d_X_known_1 : decode c_X_known 1 = .ok (.invokestatic 58, 3) := by decide +kernel
theorem d_X_known_4 : decode c_X_known 4 = .ok (.ifCond .eq 11, 3) := by decide +kernel
theorem d_X_known_7 : decode c_X_known 7 = .ok (.iload_n 1, 1) := by decide +kernel
theorem d_X_known_8 : decode c_X_known 8 = .ok (.aload_n 0, 1) := by decide +kernel
theorem d_X_known_9 : decode c_X_known 9 = .ok (.getfield 47, 3) := by decide +kernel
theorem d_X_known_12 : decode c_X_known 12 = .ok (.if_icmp .ge 15, 3) := by decide +kernel
theorem d_X_known_15 : decode c_X_known 15 = .ok (.aload_n 0, 1) := by decide +kernel
theorem d_X_known_16 : decode c_X_known 16 = .ok (.dup, 1) := by decide +kernel
theorem d_X_known_17 : decode c_X_known 17 = .ok (.getfield 51, 3) := by decide +kernel
theorem d_X_known_20 : decode c_X_known 20 = .ok (.iconst 1, 1) := by decide +kernel
theorem d_X_known_21 : decode c_X_known 21 = .ok (.iadd, 1) := by decide +kernel
theorem d_X_known_22 : decode c_X_known 22 = .ok (.putfield 51, 3) := by decide +kernel
theorem d_X_known_25 : decode c_X_known 25 = .ok (.iconst 0, 1) := by decide +kernel
theorem d_X_known_26 : decode c_X_known 26 = .ok (.ireturn, 1) := by decide +kernel
theorem d_X_known_27 : decode c_X_known 27 = .ok (.aload_n 0, 1) := by decide +kernel
theorem d_X_known_28 : decode c_X_known 28 = .ok (.iload_n 1, 1) := by decide +kernel
theorem d_X_known_29 : decode c_X_known 29 = .ok (.putfield 47, 3) := by decide +kernel
theorem d_X_known_32 : decode c_X_known 32 = .ok (.iconst 1, 1) := by decide +kernel
theorem d_X_known_33 : decode c_X_known 33 = .ok (.ireturn, 1) := by decide +kernel
theorem d_X_count_0 : decode c_X_count 0 = .ok (.iload_n 1, 1) := by decide +kernel
theorem d_X_count_1 : decode c_X_count 1 = .ok (.tableswitch 61 0 3 #[31, 39, 44, 49], 31) := by decide +kernel
theorem d_X_count_32 : decode c_X_count 32 = .ok (.aload_n 0, 1) := by decide +kernel
theorem d_X_count_33 : decode c_X_count 33 = .ok (.getfield 10, 3) := by decide +kernel
theorem d_X_count_36 : decode c_X_count 36 = .ok (.getfield 144, 3) := by decide +kernel
theorem d_X_count_39 : decode c_X_count 39 = .ok (.ireturn, 1) := by decide +kernel
theorem d_X_count_40 : decode c_X_count 40 = .ok (.aload_n 0, 1) := by decide +kernel
theorem d_X_count_41 : decode c_X_count 41 = .ok (.getfield 47, 3) := by decide +kernel
theorem d_X_count_44 : decode c_X_count 44 = .ok (.ireturn, 1) := by decide +kernel
theorem d_X_count_45 : decode c_X_count 45 = .ok (.aload_n 0, 1) := by decide +kernel
theorem d_X_count_46 : decode c_X_count 46 = .ok (.getfield 51, 3) := by decide +kernel
theorem d_X_count_49 : decode c_X_count 49 = .ok (.ireturn, 1) := by decide +kernel
theorem d_X_count_50 : decode c_X_count 50 = .ok (.aload_n 0, 1) := by decide +kernel
theorem d_X_count_51 : decode c_X_count 51 = .ok (.getfield 10, 3) := by decide +kernel
theorem d_X_count_54 : decode c_X_count 54 = .ok (.aload_n 0, 1) := by decide +kernel
theorem d_X_count_55 : decode c_X_count 55 = .ok (.getfield 47, 3) := by decide +kernel
theorem d_X_count_58 : decode c_X_count 58 = .ok (.invokevirtual 147, 3) := by decide +kernel
theorem d_X_count_61 : decode c_X_count 61 = .ok (.ireturn, 1) := by decide +kernel
theorem d_X_count_62 : decode c_X_count 62 = .ok (.iconst (-1), 1) := by decide +kernel
theorem d_X_count_63 : decode c_X_count 63 = .ok (.ireturn, 1) := by decide +kernel
theorem d_A_voidsAsKnown_0 : decode c_A_voidsAsKnown 0 = .ok (.iconst 0, 1) := by decide +kernel
theorem d_A_voidsAsKnown_1 : decode c_A_voidsAsKnown 1 = .ok (.istore_n 2, 1) := by decide +kernel
theorem d_A_voidsAsKnown_2 : decode c_A_voidsAsKnown 2 = .ok (.iconst 0, 1) := by decide +kernel
theorem d_A_voidsAsKnown_3 : decode c_A_voidsAsKnown 3 = .ok (.istore_n 3, 1) := by decide +kernel
theorem d_A_voidsAsKnown_4 : decode c_A_voidsAsKnown 4 = .ok (.iload_n 3, 1) := by decide +kernel
theorem d_A_voidsAsKnown_5 : decode c_A_voidsAsKnown 5 = .ok (.aload_n 0, 1) := by decide +kernel
theorem d_A_voidsAsKnown_6 : decode c_A_voidsAsKnown 6 = .ok (.getfield 27, 3) := by decide +kernel
theorem d_A_voidsAsKnown_9 : decode c_A_voidsAsKnown 9 = .ok (.if_icmp .ge 21, 3) := by decide +kernel
theorem d_A_voidsAsKnown_12 : decode c_A_voidsAsKnown 12 = .ok (.aload_n 0, 1) := by decide +kernel
theorem d_A_voidsAsKnown_13 : decode c_A_voidsAsKnown 13 = .ok (.iload_n 3, 1) := by decide +kernel
theorem d_A_voidsAsKnown_14 : decode c_A_voidsAsKnown 14 = .ok (.iload_n 1, 1) := by decide +kernel
theorem d_A_voidsAsKnown_15 : decode c_A_voidsAsKnown 15 = .ok (.invokevirtual 45, 3) := by decide +kernel
theorem d_A_voidsAsKnown_18 : decode c_A_voidsAsKnown 18 = .ok (.ifCond .eq 6, 3) := by decide +kernel
theorem d_A_voidsAsKnown_21 : decode c_A_voidsAsKnown 21 = .ok (.iinc 2 1, 3) := by decide +kernel
theorem d_A_voidsAsKnown_24 : decode c_A_voidsAsKnown 24 = .ok (.iinc 3 1, 3) := by decide +kernel
theorem d_A_voidsAsKnown_27 : decode c_A_voidsAsKnown 27 = .ok (.goto (-23), 3) := by decide +kernel
theorem d_A_voidsAsKnown_30 : decode c_A_voidsAsKnown 30 = .ok (.iload_n 2, 1) := by decide +kernel
theorem d_A_voidsAsKnown_31 : decode c_A_voidsAsKnown 31 = .ok (.ireturn, 1) := by decide +kernel
theorem d_A_isVoid_0 : decode c_A_isVoid 0 = .ok (.iload_n 1, 1) := by decide +kernel
theorem d_A_isVoid_1 : decode c_A_isVoid 1 = .ok (.iconst 1, 1) := by decide +kernel
theorem d_A_isVoid_2 : decode c_A_isVoid 2 = .ok (.iadd, 1) := by decide +kernel
theorem d_A_isVoid_3 : decode c_A_isVoid 3 = .ok (.istore_n 3, 1) := by decide +kernel
theorem d_A_isVoid_4 : decode c_A_isVoid 4 = .ok (.iload_n 3, 1) := by decide +kernel
theorem d_A_isVoid_5 : decode c_A_isVoid 5 = .ok (.aload_n 0, 1) := by decide +kernel
theorem d_A_isVoid_6 : decode c_A_isVoid 6 = .ok (.getfield 27, 3) := by decide +kernel
theorem d_A_isVoid_9 : decode c_A_isVoid 9 = .ok (.if_icmp .ge 41, 3) := by decide +kernel
theorem d_A_isVoid_12 : decode c_A_isVoid 12 = .ok (.aload_n 0, 1) := by decide +kernel
theorem d_A_isVoid_13 : decode c_A_isVoid 13 = .ok (.getfield 9, 3) := by decide +kernel
theorem d_A_isVoid_16 : decode c_A_isVoid 16 = .ok (.iload_n 3, 1) := by decide +kernel
theorem d_A_isVoid_17 : decode c_A_isVoid 17 = .ok (.iaload, 1) := by decide +kernel
theorem d_A_isVoid_18 : decode c_A_isVoid 18 = .ok (.iconst 5, 1) := by decide +kernel
theorem d_A_isVoid_19 : decode c_A_isVoid 19 = .ok (.if_icmp .ne 25, 3) := by decide +kernel
theorem d_A_isVoid_22 : decode c_A_isVoid 22 = .ok (.aload_n 0, 1) := by decide +kernel
theorem d_A_isVoid_23 : decode c_A_isVoid 23 = .ok (.getfield 15, 3) := by decide +kernel
theorem d_A_isVoid_26 : decode c_A_isVoid 26 = .ok (.iload_n 3, 1) := by decide +kernel
theorem d_A_isVoid_27 : decode c_A_isVoid 27 = .ok (.iaload, 1) := by decide +kernel
theorem d_A_isVoid_28 : decode c_A_isVoid 28 = .ok (.iload_n 1, 1) := by decide +kernel
theorem d_A_isVoid_29 : decode c_A_isVoid 29 = .ok (.if_icmp .ne 15, 3) := by decide +kernel
theorem d_A_isVoid_32 : decode c_A_isVoid 32 = .ok (.aload_n 0, 1) := by decide +kernel
theorem d_A_isVoid_33 : decode c_A_isVoid 33 = .ok (.getfield 24, 3) := by decide +kernel
theorem d_A_isVoid_36 : decode c_A_isVoid 36 = .ok (.iload_n 3, 1) := by decide +kernel
theorem d_A_isVoid_37 : decode c_A_isVoid 37 = .ok (.iaload, 1) := by decide +kernel
theorem d_A_isVoid_38 : decode c_A_isVoid 38 = .ok (.iload_n 2, 1) := by decide +kernel
theorem d_A_isVoid_39 : decode c_A_isVoid 39 = .ok (.if_icmp .gt 5, 3) := by decide +kernel
theorem d_A_isVoid_42 : decode c_A_isVoid 42 = .ok (.iconst 1, 1) := by decide +kernel
theorem d_A_isVoid_43 : decode c_A_isVoid 43 = .ok (.ireturn, 1) := by decide +kernel
theorem d_A_isVoid_44 : decode c_A_isVoid 44 = .ok (.iinc 3 1, 3) := by decide +kernel
theorem d_A_isVoid_47 : decode c_A_isVoid 47 = .ok (.goto (-43), 3) := by decide +kernel
theorem d_A_isVoid_50 : decode c_A_isVoid 50 = .ok (.iconst 0, 1) := by decide +kernel
theorem d_A_isVoid_51 : decode c_A_isVoid 51 = .ok (.ireturn, 1) := by decide +kernel
theorem d_L_place_0 : decode c_L_place 0 = .ok (.aload 4, 2) := by decide +kernel
theorem d_L_place_2 : decode c_L_place 2 = .ok (.iconst 0, 1) := by decide +kernel
theorem d_L_place_3 : decode c_L_place 3 = .ok (.aload_n 0, 1) := by decide +kernel
theorem d_L_place_4 : decode c_L_place 4 = .ok (.iload_n 1, 1) := by decide +kernel
theorem d_L_place_5 : decode c_L_place 5 = .ok (.iload_n 2, 1) := by decide +kernel
theorem d_L_place_6 : decode c_L_place 6 = .ok (.iload_n 3, 1) := by decide +kernel
theorem d_L_place_7 : decode c_L_place 7 = .ok (.invokevirtual 7, 3) := by decide +kernel
theorem d_L_place_10 : decode c_L_place 10 = .ok (.i2l, 1) := by decide +kernel
theorem d_L_place_11 : decode c_L_place 11 = .ok (.lastore, 1) := by decide +kernel
theorem d_L_place_12 : decode c_L_place 12 = .ok (.goto 7, 3) := by decide +kernel
theorem d_L_place_15 : decode c_L_place 15 = .ok (.astore 5, 2) := by decide +kernel
theorem d_L_place_17 : decode c_L_place 17 = .ok (.iconst 1, 1) := by decide +kernel
theorem d_L_place_18 : decode c_L_place 18 = .ok (.ireturn, 1) := by decide +kernel
theorem d_L_place_19 : decode c_L_place 19 = .ok (.iconst 0, 1) := by decide +kernel
theorem d_L_place_20 : decode c_L_place 20 = .ok (.ireturn, 1) := by decide +kernel
theorem d_X_place_0 : decode c_X_place 0 = .ok (.iload_n 1, 1) := by decide +kernel
theorem d_X_place_1 : decode c_X_place 1 = .ok (.bipush 20, 2) := by decide +kernel
theorem d_X_place_3 : decode c_X_place 3 = .ok (.invokestatic 70, 3) := by decide +kernel
theorem d_X_place_6 : decode c_X_place 6 = .ok (.aload_n 0, 1) := by decide +kernel
theorem d_X_place_7 : decode c_X_place 7 = .ok (.aload_n 0, 1) := by decide +kernel
end
section
theorem d_X_place_8 : decode c_X_place 8 = .ok (.getfield 26, 3) := by decide +kernel
theorem d_X_place_11 : decode c_X_place 11 = .ok (.iload_n 2, 1) := by decide +kernel
theorem d_X_place_12 : decode c_X_place 12 = .ok (.iload_n 3, 1) := by decide +kernel
theorem d_X_place_13 : decode c_X_place 13 = .ok (.invokevirtual 74, 3) := by decide +kernel
theorem d_X_place_16 : decode c_X_place 16 = .ok (.aload_n 0, 1) := by decide +kernel
theorem d_X_place_17 : decode c_X_place 17 = .ok (.getfield 26, 3) := by decide +kernel
theorem d_X_place_20 : decode c_X_place 20 = .ok (.getfield 78, 3) := by decide +kernel
theorem d_X_place_23 : decode c_X_place 23 = .ok (.iload_n 1, 1) := by decide +kernel
theorem d_X_place_24 : decode c_X_place 24 = .ok (.iaload, 1) := by decide +kernel
theorem d_X_place_25 : decode c_X_place 25 = .ok (.ireturn, 1) := by decide +kernel
theorem d_X_requireBelow_0 : decode c_X_requireBelow 0 = .ok (.iload_n 0, 1) := by decide +kernel
theorem d_X_requireBelow_1 : decode c_X_requireBelow 1 = .ok (.iconst 0, 1) := by decide +kernel
theorem d_X_requireBelow_2 : decode c_X_requireBelow 2 = .ok (.iload_n 1, 1) := by decide +kernel
theorem d_X_requireBelow_3 : decode c_X_requireBelow 3 = .ok (.iconst 1, 1) := by decide +kernel
theorem d_X_requireBelow_4 : decode c_X_requireBelow 4 = .ok (.isub, 1) := by decide +kernel
theorem d_X_requireBelow_5 : decode c_X_requireBelow 5 = .ok (.invokestatic 160, 3) := by decide +kernel
theorem d_X_requireBelow_8 : decode c_X_requireBelow 8 = .ok (.ifCond .ne 13, 3) := by decide +kernel
theorem d_X_requireBelow_11 : decode c_X_requireBelow 11 = .ok (.new 152, 3) := by decide +kernel
theorem d_X_requireBelow_14 : decode c_X_requireBelow 14 = .ok (.dup, 1) := by decide +kernel
theorem d_X_requireBelow_15 : decode c_X_requireBelow 15 = .ok (.ldc 163, 2) := by decide +kernel
theorem d_X_requireBelow_17 : decode c_X_requireBelow 17 = .ok (.invokespecial 156, 3) := by decide +kernel
theorem d_X_requireBelow_20 : decode c_X_requireBelow 20 = .ok (.athrow, 1) := by decide +kernel
theorem d_X_requireBelow_21 : decode c_X_requireBelow 21 = .ok (.return_, 1) := by decide +kernel
theorem d_X_draw_0 : decode c_X_draw 0 = .ok (.aload_n 0, 1) := by decide +kernel
theorem d_X_draw_1 : decode c_X_draw 1 = .ok (.iload_n 2, 1) := by decide +kernel
theorem d_X_draw_2 : decode c_X_draw 2 = .ok (.iload_n 3, 1) := by decide +kernel
theorem d_X_draw_3 : decode c_X_draw 3 = .ok (.invokevirtual 92, 3) := by decide +kernel
theorem d_X_draw_6 : decode c_X_draw 6 = .ok (.aload_n 1, 1) := by decide +kernel
theorem d_X_draw_7 : decode c_X_draw 7 = .ok (.aload_n 0, 1) := by decide +kernel
theorem d_X_draw_8 : decode c_X_draw 8 = .ok (.getfield 10, 3) := by decide +kernel
theorem d_X_draw_11 : decode c_X_draw 11 = .ok (.aload_n 0, 1) := by decide +kernel
theorem d_X_draw_12 : decode c_X_draw 12 = .ok (.getfield 19, 3) := by decide +kernel
theorem d_X_draw_15 : decode c_X_draw 15 = .ok (.invokevirtual 150, 3) := by decide +kernel
theorem d_X_draw_18 : decode c_X_draw 18 = .ok (.return_, 1) := by decide +kernel
theorem d_X_gather_0 : decode c_X_gather 0 = .ok (.iload_n 1, 1) := by decide +kernel
theorem d_X_gather_1 : decode c_X_gather 1 = .ok (.invokestatic 58, 3) := by decide +kernel
theorem d_X_gather_4 : decode c_X_gather 4 = .ok (.ifCond .eq 10, 3) := by decide +kernel
theorem d_X_gather_7 : decode c_X_gather 7 = .ok (.iload_n 2, 1) := by decide +kernel
theorem d_X_gather_8 : decode c_X_gather 8 = .ok (.invokestatic 58, 3) := by decide +kernel
theorem d_X_gather_11 : decode c_X_gather 11 = .ok (.ifCond .ne 13, 3) := by decide +kernel
theorem d_X_gather_14 : decode c_X_gather 14 = .ok (.new 152, 3) := by decide +kernel
theorem d_X_gather_17 : decode c_X_gather 17 = .ok (.dup, 1) := by decide +kernel
theorem d_X_gather_18 : decode c_X_gather 18 = .ok (.ldc 154, 2) := by decide +kernel
theorem d_X_gather_20 : decode c_X_gather 20 = .ok (.invokespecial 156, 3) := by decide +kernel
theorem d_X_gather_23 : decode c_X_gather 23 = .ok (.athrow, 1) := by decide +kernel
theorem d_X_gather_24 : decode c_X_gather 24 = .ok (.aload_n 0, 1) := by decide +kernel
theorem d_X_gather_25 : decode c_X_gather 25 = .ok (.getfield 19, 3) := by decide +kernel
theorem d_X_gather_28 : decode c_X_gather 28 = .ok (.aload_n 0, 1) := by decide +kernel
theorem d_X_gather_29 : decode c_X_gather 29 = .ok (.getfield 10, 3) := by decide +kernel
theorem d_X_gather_32 : decode c_X_gather 32 = .ok (.iload_n 1, 1) := by decide +kernel
theorem d_X_gather_33 : decode c_X_gather 33 = .ok (.iload_n 2, 1) := by decide +kernel
theorem d_X_gather_34 : decode c_X_gather 34 = .ok (.invokevirtual 157, 3) := by decide +kernel
theorem d_X_gather_37 : decode c_X_gather 37 = .ok (.return_, 1) := by decide +kernel
theorem d_O_gather_0 : decode c_O_gather 0 = .ok (.aload_n 0, 1) := by decide +kernel
theorem d_O_gather_1 : decode c_O_gather 1 = .ok (.iconst 0, 1) := by decide +kernel
theorem d_O_gather_2 : decode c_O_gather 2 = .ok (.putfield 15, 3) := by decide +kernel
theorem d_O_gather_5 : decode c_O_gather 5 = .ok (.iconst 0, 1) := by decide +kernel
theorem d_O_gather_6 : decode c_O_gather 6 = .ok (.istore 4, 2) := by decide +kernel
theorem d_O_gather_8 : decode c_O_gather 8 = .ok (.iload 4, 2) := by decide +kernel
theorem d_O_gather_10 : decode c_O_gather 10 = .ok (.aload_n 1, 1) := by decide +kernel
theorem d_O_gather_11 : decode c_O_gather 11 = .ok (.getfield 19, 3) := by decide +kernel
theorem d_O_gather_14 : decode c_O_gather 14 = .ok (.if_icmp .ge 27, 3) := by decide +kernel
theorem d_O_gather_17 : decode c_O_gather 17 = .ok (.aload_n 1, 1) := by decide +kernel
theorem d_O_gather_18 : decode c_O_gather 18 = .ok (.iload 4, 2) := by decide +kernel
theorem d_O_gather_20 : decode c_O_gather 20 = .ok (.iload_n 2, 1) := by decide +kernel
theorem d_O_gather_21 : decode c_O_gather 21 = .ok (.iload_n 3, 1) := by decide +kernel
theorem d_O_gather_22 : decode c_O_gather 22 = .ok (.invokevirtual 22, 3) := by decide +kernel
theorem d_O_gather_25 : decode c_O_gather 25 = .ok (.ifCond .eq 10, 3) := by decide +kernel
theorem d_O_gather_28 : decode c_O_gather 28 = .ok (.aload_n 0, 1) := by decide +kernel
theorem d_O_gather_29 : decode c_O_gather 29 = .ok (.aload_n 1, 1) := by decide +kernel
theorem d_O_gather_30 : decode c_O_gather 30 = .ok (.iload 4, 2) := by decide +kernel
theorem d_O_gather_32 : decode c_O_gather 32 = .ok (.invokevirtual 26, 3) := by decide +kernel
theorem d_O_gather_35 : decode c_O_gather 35 = .ok (.iinc 4 1, 3) := by decide +kernel
theorem d_O_gather_38 : decode c_O_gather 38 = .ok (.goto (-30), 3) := by decide +kernel
theorem d_O_gather_41 : decode c_O_gather 41 = .ok (.return_, 1) := by decide +kernel
theorem d_A_holds_0 : decode c_A_holds 0 = .ok (.aload_n 0, 1) := by decide +kernel
theorem d_A_holds_1 : decode c_A_holds 1 = .ok (.getfield 9, 3) := by decide +kernel
theorem d_A_holds_4 : decode c_A_holds 4 = .ok (.iload_n 1, 1) := by decide +kernel
theorem d_A_holds_5 : decode c_A_holds 5 = .ok (.iaload, 1) := by decide +kernel
theorem d_A_holds_6 : decode c_A_holds 6 = .ok (.iconst 5, 1) := by decide +kernel
theorem d_A_holds_7 : decode c_A_holds 7 = .ok (.if_icmp .eq 36, 3) := by decide +kernel
theorem d_A_holds_10 : decode c_A_holds 10 = .ok (.aload_n 0, 1) := by decide +kernel
theorem d_A_holds_11 : decode c_A_holds 11 = .ok (.getfield 21, 3) := by decide +kernel
theorem d_A_holds_14 : decode c_A_holds 14 = .ok (.iload_n 1, 1) := by decide +kernel
theorem d_A_holds_15 : decode c_A_holds 15 = .ok (.iaload, 1) := by decide +kernel
theorem d_A_holds_16 : decode c_A_holds 16 = .ok (.iload_n 2, 1) := by decide +kernel
theorem d_A_holds_17 : decode c_A_holds 17 = .ok (.if_icmp .gt 26, 3) := by decide +kernel
theorem d_A_holds_20 : decode c_A_holds 20 = .ok (.aload_n 0, 1) := by decide +kernel
theorem d_A_holds_21 : decode c_A_holds 21 = .ok (.getfield 24, 3) := by decide +kernel
theorem d_A_holds_24 : decode c_A_holds 24 = .ok (.iload_n 1, 1) := by decide +kernel
theorem d_A_holds_25 : decode c_A_holds 25 = .ok (.iaload, 1) := by decide +kernel
theorem d_A_holds_26 : decode c_A_holds 26 = .ok (.iload_n 3, 1) := by decide +kernel
theorem d_A_holds_27 : decode c_A_holds 27 = .ok (.if_icmp .gt 16, 3) := by decide +kernel
theorem d_A_holds_30 : decode c_A_holds 30 = .ok (.aload_n 0, 1) := by decide +kernel
theorem d_A_holds_31 : decode c_A_holds 31 = .ok (.iload_n 1, 1) := by decide +kernel
theorem d_A_holds_32 : decode c_A_holds 32 = .ok (.iload_n 3, 1) := by decide +kernel
theorem d_A_holds_33 : decode c_A_holds 33 = .ok (.invokevirtual 45, 3) := by decide +kernel
theorem d_A_holds_36 : decode c_A_holds 36 = .ok (.ifCond .ne 7, 3) := by decide +kernel
theorem d_A_holds_39 : decode c_A_holds 39 = .ok (.iconst 1, 1) := by decide +kernel
theorem d_A_holds_40 : decode c_A_holds 40 = .ok (.goto 4, 3) := by decide +kernel
theorem d_A_holds_43 : decode c_A_holds 43 = .ok (.iconst 0, 1) := by decide +kernel
theorem d_A_holds_44 : decode c_A_holds 44 = .ok (.ireturn, 1) := by decide +kernel
theorem d_O_insert_0 : decode c_O_insert 0 = .ok (.aload_n 0, 1) := by decide +kernel
theorem d_O_insert_1 : decode c_O_insert 1 = .ok (.getfield 15, 3) := by decide +kernel
theorem d_O_insert_4 : decode c_O_insert 4 = .ok (.istore_n 3, 1) := by decide +kernel
theorem d_O_insert_5 : decode c_O_insert 5 = .ok (.iload_n 3, 1) := by decide +kernel
theorem d_O_insert_6 : decode c_O_insert 6 = .ok (.ifCond .le 39, 3) := by decide +kernel
theorem d_O_insert_9 : decode c_O_insert 9 = .ok (.aload_n 1, 1) := by decide +kernel
theorem d_O_insert_10 : decode c_O_insert 10 = .ok (.iload_n 2, 1) := by decide +kernel
theorem d_O_insert_11 : decode c_O_insert 11 = .ok (.aload_n 0, 1) := by decide +kernel
theorem d_O_insert_12 : decode c_O_insert 12 = .ok (.getfield 9, 3) := by decide +kernel
theorem d_O_insert_15 : decode c_O_insert 15 = .ok (.iload_n 3, 1) := by decide +kernel
theorem d_O_insert_16 : decode c_O_insert 16 = .ok (.iconst 1, 1) := by decide +kernel
theorem d_O_insert_17 : decode c_O_insert 17 = .ok (.isub, 1) := by decide +kernel
theorem d_O_insert_18 : decode c_O_insert 18 = .ok (.iaload, 1) := by decide +kernel
theorem d_O_insert_19 : decode c_O_insert 19 = .ok (.invokevirtual 30, 3) := by decide +kernel
theorem d_O_insert_22 : decode c_O_insert 22 = .ok (.ifCond .eq 23, 3) := by decide +kernel
theorem d_O_insert_25 : decode c_O_insert 25 = .ok (.aload_n 0, 1) := by decide +kernel
theorem d_O_insert_26 : decode c_O_insert 26 = .ok (.getfield 9, 3) := by decide +kernel
theorem d_O_insert_29 : decode c_O_insert 29 = .ok (.iload_n 3, 1) := by decide +kernel
theorem d_O_insert_30 : decode c_O_insert 30 = .ok (.aload_n 0, 1) := by decide +kernel
theorem d_O_insert_31 : decode c_O_insert 31 = .ok (.getfield 9, 3) := by decide +kernel
theorem d_O_insert_34 : decode c_O_insert 34 = .ok (.iload_n 3, 1) := by decide +kernel
theorem d_O_insert_35 : decode c_O_insert 35 = .ok (.iconst 1, 1) := by decide +kernel
theorem d_O_insert_36 : decode c_O_insert 36 = .ok (.isub, 1) := by decide +kernel
theorem d_O_insert_37 : decode c_O_insert 37 = .ok (.iaload, 1) := by decide +kernel
theorem d_O_insert_38 : decode c_O_insert 38 = .ok (.iastore, 1) := by decide +kernel
theorem d_O_insert_39 : decode c_O_insert 39 = .ok (.iinc 3 (-1), 3) := by decide +kernel
theorem d_O_insert_42 : decode c_O_insert 42 = .ok (.goto (-37), 3) := by decide +kernel
theorem d_O_insert_45 : decode c_O_insert 45 = .ok (.aload_n 0, 1) := by decide +kernel
theorem d_O_insert_46 : decode c_O_insert 46 = .ok (.getfield 9, 3) := by decide +kernel
theorem d_O_insert_49 : decode c_O_insert 49 = .ok (.iload_n 3, 1) := by decide +kernel
theorem d_O_insert_50 : decode c_O_insert 50 = .ok (.iload_n 2, 1) := by decide +kernel
theorem d_O_insert_51 : decode c_O_insert 51 = .ok (.iastore, 1) := by decide +kernel
theorem d_O_insert_52 : decode c_O_insert 52 = .ok (.aload_n 0, 1) := by decide +kernel
theorem d_O_insert_53 : decode c_O_insert 53 = .ok (.dup, 1) := by decide +kernel
theorem d_O_insert_54 : decode c_O_insert 54 = .ok (.getfield 15, 3) := by decide +kernel
theorem d_O_insert_57 : decode c_O_insert 57 = .ok (.iconst 1, 1) := by decide +kernel
theorem d_O_insert_58 : decode c_O_insert 58 = .ok (.iadd, 1) := by decide +kernel
theorem d_O_insert_59 : decode c_O_insert 59 = .ok (.putfield 15, 3) := by decide +kernel
theorem d_O_insert_62 : decode c_O_insert 62 = .ok (.return_, 1) := by decide +kernel
theorem d_A_goesAhead_0 : decode c_A_goesAhead 0 = .ok (.aload_n 0, 1) := by decide +kernel
theorem d_A_goesAhead_1 : decode c_A_goesAhead 1 = .ok (.getfield 21, 3) := by decide +kernel
theorem d_A_goesAhead_4 : decode c_A_goesAhead 4 = .ok (.iload_n 1, 1) := by decide +kernel
theorem d_A_goesAhead_5 : decode c_A_goesAhead 5 = .ok (.iaload, 1) := by decide +kernel
theorem d_A_goesAhead_6 : decode c_A_goesAhead 6 = .ok (.aload_n 0, 1) := by decide +kernel
theorem d_A_goesAhead_7 : decode c_A_goesAhead 7 = .ok (.getfield 21, 3) := by decide +kernel
theorem d_A_goesAhead_10 : decode c_A_goesAhead 10 = .ok (.iload_n 2, 1) := by decide +kernel
theorem d_A_goesAhead_11 : decode c_A_goesAhead 11 = .ok (.iaload, 1) := by decide +kernel
theorem d_A_goesAhead_12 : decode c_A_goesAhead 12 = .ok (.if_icmp .eq 24, 3) := by decide +kernel
theorem d_A_goesAhead_15 : decode c_A_goesAhead 15 = .ok (.aload_n 0, 1) := by decide +kernel
theorem d_A_goesAhead_16 : decode c_A_goesAhead 16 = .ok (.getfield 21, 3) := by decide +kernel
theorem d_A_goesAhead_19 : decode c_A_goesAhead 19 = .ok (.iload_n 1, 1) := by decide +kernel
theorem d_A_goesAhead_20 : decode c_A_goesAhead 20 = .ok (.iaload, 1) := by decide +kernel
theorem d_A_goesAhead_21 : decode c_A_goesAhead 21 = .ok (.aload_n 0, 1) := by decide +kernel
theorem d_A_goesAhead_22 : decode c_A_goesAhead 22 = .ok (.getfield 21, 3) := by decide +kernel
theorem d_A_goesAhead_25 : decode c_A_goesAhead 25 = .ok (.iload_n 2, 1) := by decide +kernel
theorem d_A_goesAhead_26 : decode c_A_goesAhead 26 = .ok (.iaload, 1) := by decide +kernel
theorem d_A_goesAhead_27 : decode c_A_goesAhead 27 = .ok (.if_icmp .ge 7, 3) := by decide +kernel
theorem d_A_goesAhead_30 : decode c_A_goesAhead 30 = .ok (.iconst 1, 1) := by decide +kernel
theorem d_A_goesAhead_31 : decode c_A_goesAhead 31 = .ok (.goto 4, 3) := by decide +kernel
theorem d_A_goesAhead_34 : decode c_A_goesAhead 34 = .ok (.iconst 0, 1) := by decide +kernel
theorem d_A_goesAhead_35 : decode c_A_goesAhead 35 = .ok (.ireturn, 1) := by decide +kernel
theorem d_A_goesAhead_36 : decode c_A_goesAhead 36 = .ok (.aload_n 0, 1) := by decide +kernel
theorem d_A_goesAhead_37 : decode c_A_goesAhead 37 = .ok (.getfield 9, 3) := by decide +kernel
theorem d_A_goesAhead_40 : decode c_A_goesAhead 40 = .ok (.iload_n 1, 1) := by decide +kernel
theorem d_A_goesAhead_41 : decode c_A_goesAhead 41 = .ok (.iaload, 1) := by decide +kernel
theorem d_A_goesAhead_42 : decode c_A_goesAhead 42 = .ok (.aload_n 0, 1) := by decide +kernel
theorem d_A_goesAhead_43 : decode c_A_goesAhead 43 = .ok (.getfield 9, 3) := by decide +kernel
theorem d_A_goesAhead_46 : decode c_A_goesAhead 46 = .ok (.iload_n 2, 1) := by decide +kernel
theorem d_A_goesAhead_47 : decode c_A_goesAhead 47 = .ok (.iaload, 1) := by decide +kernel
theorem d_A_goesAhead_48 : decode c_A_goesAhead 48 = .ok (.if_icmp .ge 7, 3) := by decide +kernel
theorem d_A_goesAhead_51 : decode c_A_goesAhead 51 = .ok (.iconst 1, 1) := by decide +kernel
theorem d_A_goesAhead_52 : decode c_A_goesAhead 52 = .ok (.goto 4, 3) := by decide +kernel
theorem d_A_goesAhead_55 : decode c_A_goesAhead 55 = .ok (.iconst 0, 1) := by decide +kernel
theorem d_A_goesAhead_56 : decode c_A_goesAhead 56 = .ok (.ireturn, 1) := by decide +kernel
theorem d_P_draw_0 : decode c_P_draw 0 = .ok (.aload_n 0, 1) := by decide +kernel
theorem d_P_draw_1 : decode c_P_draw 1 = .ok (.getfield 9, 3) := by decide +kernel
theorem d_P_draw_4 : decode c_P_draw 4 = .ok (.iconst (-1), 1) := by decide +kernel
theorem d_P_draw_5 : decode c_P_draw 5 = .ok (.invokestatic 21, 3) := by decide +kernel
theorem d_P_draw_8 : decode c_P_draw 8 = .ok (.aload_n 0, 1) := by decide +kernel
theorem d_P_draw_9 : decode c_P_draw 9 = .ok (.getfield 15, 3) := by decide +kernel
theorem d_P_draw_12 : decode c_P_draw 12 = .ok (.iconst 0, 1) := by decide +kernel
theorem d_P_draw_13 : decode c_P_draw 13 = .ok (.invokestatic 21, 3) := by decide +kernel
theorem d_P_draw_16 : decode c_P_draw 16 = .ok (.aload_n 0, 1) := by decide +kernel
theorem d_P_draw_17 : decode c_P_draw 17 = .ok (.getfield 18, 3) := by decide +kernel
theorem d_P_draw_20 : decode c_P_draw 20 = .ok (.iconst 0, 1) := by decide +kernel
theorem d_P_draw_21 : decode c_P_draw 21 = .ok (.invokestatic 21, 3) := by decide +kernel
theorem d_P_draw_24 : decode c_P_draw 24 = .ok (.iconst 0, 1) := by decide +kernel
theorem d_P_draw_25 : decode c_P_draw 25 = .ok (.istore_n 3, 1) := by decide +kernel
theorem d_P_draw_26 : decode c_P_draw 26 = .ok (.iload_n 3, 1) := by decide +kernel
theorem d_P_draw_27 : decode c_P_draw 27 = .ok (.aload_n 2, 1) := by decide +kernel
theorem d_P_draw_28 : decode c_P_draw 28 = .ok (.getfield 27, 3) := by decide +kernel
theorem d_P_draw_31 : decode c_P_draw 31 = .ok (.if_icmp .ge 42, 3) := by decide +kernel
theorem d_P_draw_34 : decode c_P_draw 34 = .ok (.aload_n 2, 1) := by decide +kernel
theorem d_P_draw_35 : decode c_P_draw 35 = .ok (.getfield 33, 3) := by decide +kernel
theorem d_P_draw_38 : decode c_P_draw 38 = .ok (.iload_n 3, 1) := by decide +kernel
theorem d_P_draw_39 : decode c_P_draw 39 = .ok (.iaload, 1) := by decide +kernel
theorem d_P_draw_40 : decode c_P_draw 40 = .ok (.istore 4, 2) := by decide +kernel
theorem d_P_draw_42 : decode c_P_draw 42 = .ok (.aload_n 0, 1) := by decide +kernel
theorem d_P_draw_43 : decode c_P_draw 43 = .ok (.aload_n 1, 1) := by decide +kernel
theorem d_P_draw_44 : decode c_P_draw 44 = .ok (.getfield 36, 3) := by decide +kernel
theorem d_P_draw_47 : decode c_P_draw 47 = .ok (.iload 4, 2) := by decide +kernel
theorem d_P_draw_49 : decode c_P_draw 49 = .ok (.iaload, 1) := by decide +kernel
theorem d_P_draw_50 : decode c_P_draw 50 = .ok (.aload_n 1, 1) := by decide +kernel
theorem d_P_draw_51 : decode c_P_draw 51 = .ok (.getfield 41, 3) := by decide +kernel
theorem d_P_draw_54 : decode c_P_draw 54 = .ok (.iload 4, 2) := by decide +kernel
theorem d_P_draw_56 : decode c_P_draw 56 = .ok (.iaload, 1) := by decide +kernel
theorem d_P_draw_57 : decode c_P_draw 57 = .ok (.aload_n 1, 1) := by decide +kernel
theorem d_P_draw_58 : decode c_P_draw 58 = .ok (.getfield 44, 3) := by decide +kernel
theorem d_P_draw_61 : decode c_P_draw 61 = .ok (.iload 4, 2) := by decide +kernel
theorem d_P_draw_63 : decode c_P_draw 63 = .ok (.iaload, 1) := by decide +kernel
theorem d_P_draw_64 : decode c_P_draw 64 = .ok (.invokevirtual 47, 3) := by decide +kernel
theorem d_P_draw_67 : decode c_P_draw 67 = .ok (.iinc 3 1, 3) := by decide +kernel
theorem d_P_draw_70 : decode c_P_draw 70 = .ok (.goto (-44), 3) := by decide +kernel
theorem d_P_draw_73 : decode c_P_draw 73 = .ok (.return_, 1) := by decide +kernel
theorem d_Ar_fill_0 : decode c_Ar_fill 0 = .ok (.iconst 0, 1) := by decide +kernel
theorem d_Ar_fill_1 : decode c_Ar_fill 1 = .ok (.istore_n 2, 1) := by decide +kernel
theorem d_Ar_fill_2 : decode c_Ar_fill 2 = .ok (.aload_n 0, 1) := by decide +kernel
theorem d_Ar_fill_3 : decode c_Ar_fill 3 = .ok (.arraylength, 1) := by decide +kernel
theorem d_Ar_fill_4 : decode c_Ar_fill 4 = .ok (.istore_n 3, 1) := by decide +kernel
theorem d_Ar_fill_5 : decode c_Ar_fill 5 = .ok (.iload_n 2, 1) := by decide +kernel
theorem d_Ar_fill_6 : decode c_Ar_fill 6 = .ok (.iload_n 3, 1) := by decide +kernel
theorem d_Ar_fill_7 : decode c_Ar_fill 7 = .ok (.if_icmp .ge 13, 3) := by decide +kernel
theorem d_Ar_fill_10 : decode c_Ar_fill 10 = .ok (.aload_n 0, 1) := by decide +kernel
theorem d_Ar_fill_11 : decode c_Ar_fill 11 = .ok (.iload_n 2, 1) := by decide +kernel
theorem d_Ar_fill_12 : decode c_Ar_fill 12 = .ok (.iload_n 1, 1) := by decide +kernel
theorem d_Ar_fill_13 : decode c_Ar_fill 13 = .ok (.iastore, 1) := by decide +kernel
theorem d_Ar_fill_14 : decode c_Ar_fill 14 = .ok (.iinc 2 1, 3) := by decide +kernel
theorem d_Ar_fill_17 : decode c_Ar_fill 17 = .ok (.goto (-12), 3) := by decide +kernel
theorem d_Ar_fill_20 : decode c_Ar_fill 20 = .ok (.return_, 1) := by decide +kernel
theorem d_P_apply_0 : decode c_P_apply 0 = .ok (.iload_n 1, 1) := by decide +kernel
theorem d_P_apply_1 : decode c_P_apply 1 = .ok (.tableswitch 92 0 3 #[31, 50, 60, 79], 31) := by decide +kernel
theorem d_P_apply_32 : decode c_P_apply 32 = .ok (.aload_n 0, 1) := by decide +kernel
theorem d_P_apply_33 : decode c_P_apply 33 = .ok (.iload_n 3, 1) := by decide +kernel
theorem d_P_apply_34 : decode c_P_apply 34 = .ok (.invokevirtual 51, 3) := by decide +kernel
theorem d_P_apply_37 : decode c_P_apply 37 = .ok (.iconst (-1), 1) := by decide +kernel
theorem d_P_apply_38 : decode c_P_apply 38 = .ok (.if_icmp .ne 55, 3) := by decide +kernel
theorem d_P_apply_41 : decode c_P_apply 41 = .ok (.aload_n 0, 1) := by decide +kernel
theorem d_P_apply_42 : decode c_P_apply 42 = .ok (.getfield 9, 3) := by decide +kernel
theorem d_P_apply_45 : decode c_P_apply 45 = .ok (.iload_n 2, 1) := by decide +kernel
theorem d_P_apply_46 : decode c_P_apply 46 = .ok (.iload_n 3, 1) := by decide +kernel
theorem d_P_apply_47 : decode c_P_apply 47 = .ok (.iastore, 1) := by decide +kernel
theorem d_P_apply_48 : decode c_P_apply 48 = .ok (.goto 45, 3) := by decide +kernel
theorem d_P_apply_51 : decode c_P_apply 51 = .ok (.aload_n 0, 1) := by decide +kernel
theorem d_P_apply_52 : decode c_P_apply 52 = .ok (.getfield 9, 3) := by decide +kernel
theorem d_P_apply_55 : decode c_P_apply 55 = .ok (.iload_n 2, 1) := by decide +kernel
theorem d_P_apply_56 : decode c_P_apply 56 = .ok (.iconst (-1), 1) := by decide +kernel
theorem d_P_apply_57 : decode c_P_apply 57 = .ok (.iastore, 1) := by decide +kernel
theorem d_P_apply_58 : decode c_P_apply 58 = .ok (.goto 35, 3) := by decide +kernel
theorem d_P_apply_61 : decode c_P_apply 61 = .ok (.aload_n 0, 1) := by decide +kernel
theorem d_P_apply_62 : decode c_P_apply 62 = .ok (.getfield 15, 3) := by decide +kernel
theorem d_P_apply_65 : decode c_P_apply 65 = .ok (.iload_n 2, 1) := by decide +kernel
theorem d_P_apply_66 : decode c_P_apply 66 = .ok (.aload_n 0, 1) := by decide +kernel
theorem d_P_apply_67 : decode c_P_apply 67 = .ok (.getfield 15, 3) := by decide +kernel
theorem d_P_apply_70 : decode c_P_apply 70 = .ok (.iload_n 2, 1) := by decide +kernel
theorem d_P_apply_71 : decode c_P_apply 71 = .ok (.iaload, 1) := by decide +kernel
theorem d_P_apply_72 : decode c_P_apply 72 = .ok (.iload_n 3, 1) := by decide +kernel
theorem d_P_apply_73 : decode c_P_apply 73 = .ok (.invokestatic 55, 3) := by decide +kernel
theorem d_P_apply_76 : decode c_P_apply 76 = .ok (.iastore, 1) := by decide +kernel
theorem d_P_apply_77 : decode c_P_apply 77 = .ok (.goto 16, 3) := by decide +kernel
theorem d_P_apply_80 : decode c_P_apply 80 = .ok (.aload_n 0, 1) := by decide +kernel
theorem d_P_apply_81 : decode c_P_apply 81 = .ok (.getfield 18, 3) := by decide +kernel
theorem d_P_apply_84 : decode c_P_apply 84 = .ok (.iload_n 2, 1) := by decide +kernel
theorem d_P_apply_85 : decode c_P_apply 85 = .ok (.dup2, 1) := by decide +kernel
theorem d_P_apply_86 : decode c_P_apply 86 = .ok (.iaload, 1) := by decide +kernel
theorem d_P_apply_87 : decode c_P_apply 87 = .ok (.iload_n 3, 1) := by decide +kernel
theorem d_P_apply_88 : decode c_P_apply 88 = .ok (.iadd, 1) := by decide +kernel
theorem d_P_apply_89 : decode c_P_apply 89 = .ok (.iastore, 1) := by decide +kernel
theorem d_P_apply_90 : decode c_P_apply 90 = .ok (.goto 3, 3) := by decide +kernel
theorem d_P_apply_93 : decode c_P_apply 93 = .ok (.return_, 1) := by decide +kernel
theorem d_P_boxIn_0 : decode c_P_boxIn 0 = .ok (.iconst 0, 1) := by decide +kernel
theorem d_P_boxIn_1 : decode c_P_boxIn 1 = .ok (.istore_n 2, 1) := by decide +kernel
theorem d_P_boxIn_2 : decode c_P_boxIn 2 = .ok (.iload_n 2, 1) := by decide +kernel
theorem d_P_boxIn_3 : decode c_P_boxIn 3 = .ok (.bipush 20, 2) := by decide +kernel
theorem d_P_boxIn_5 : decode c_P_boxIn 5 = .ok (.if_icmp .ge 21, 3) := by decide +kernel
theorem d_P_boxIn_8 : decode c_P_boxIn 8 = .ok (.aload_n 0, 1) := by decide +kernel
theorem d_P_boxIn_9 : decode c_P_boxIn 9 = .ok (.getfield 9, 3) := by decide +kernel
theorem d_P_boxIn_12 : decode c_P_boxIn 12 = .ok (.iload_n 2, 1) := by decide +kernel
theorem d_P_boxIn_13 : decode c_P_boxIn 13 = .ok (.iaload, 1) := by decide +kernel
theorem d_P_boxIn_14 : decode c_P_boxIn 14 = .ok (.iload_n 1, 1) := by decide +kernel
theorem d_P_boxIn_15 : decode c_P_boxIn 15 = .ok (.if_icmp .ne 5, 3) := by decide +kernel
theorem d_P_boxIn_18 : decode c_P_boxIn 18 = .ok (.iload_n 2, 1) := by decide +kernel
theorem d_P_boxIn_19 : decode c_P_boxIn 19 = .ok (.ireturn, 1) := by decide +kernel
theorem d_P_boxIn_20 : decode c_P_boxIn 20 = .ok (.iinc 2 1, 3) := by decide +kernel
theorem d_P_boxIn_23 : decode c_P_boxIn 23 = .ok (.goto (-21), 3) := by decide +kernel
theorem d_P_boxIn_26 : decode c_P_boxIn 26 = .ok (.iconst (-1), 1) := by decide +kernel
theorem d_P_boxIn_27 : decode c_P_boxIn 27 = .ok (.ireturn, 1) := by decide +kernel
theorem d_Ma_max_0 : decode c_Ma_max 0 = .ok (.iload_n 0, 1) := by decide +kernel
theorem d_Ma_max_1 : decode c_Ma_max 1 = .ok (.iload_n 1, 1) := by decide +kernel
theorem d_Ma_max_2 : decode c_Ma_max 2 = .ok (.if_icmp .lt 7, 3) := by decide +kernel
theorem d_Ma_max_5 : decode c_Ma_max 5 = .ok (.iload_n 0, 1) := by decide +kernel
theorem d_Ma_max_6 : decode c_Ma_max 6 = .ok (.goto 4, 3) := by decide +kernel
theorem d_Ma_max_9 : decode c_Ma_max 9 = .ok (.iload_n 1, 1) := by decide +kernel
theorem d_Ma_max_10 : decode c_Ma_max 10 = .ok (.ireturn, 1) := by decide +kernel
theorem d_L_at_0 : decode c_L_at 0 = .ok (.aload 4, 2) := by decide +kernel
theorem d_L_at_2 : decode c_L_at 2 = .ok (.iconst 0, 1) := by decide +kernel
theorem d_L_at_3 : decode c_L_at 3 = .ok (.aload_n 0, 1) := by decide +kernel
theorem d_L_at_4 : decode c_L_at 4 = .ok (.iload_n 1, 1) := by decide +kernel
theorem d_L_at_5 : decode c_L_at 5 = .ok (.iload_n 2, 1) := by decide +kernel
theorem d_L_at_6 : decode c_L_at 6 = .ok (.iload_n 3, 1) := by decide +kernel
theorem d_L_at_7 : decode c_L_at 7 = .ok (.invokevirtual 15, 3) := by decide +kernel
theorem d_L_at_10 : decode c_L_at 10 = .ok (.i2l, 1) := by decide +kernel
theorem d_L_at_11 : decode c_L_at 11 = .ok (.lastore, 1) := by decide +kernel
theorem d_L_at_12 : decode c_L_at 12 = .ok (.goto 7, 3) := by decide +kernel
theorem d_L_at_15 : decode c_L_at 15 = .ok (.astore 5, 2) := by decide +kernel
theorem d_L_at_17 : decode c_L_at 17 = .ok (.iconst 1, 1) := by decide +kernel
theorem d_L_at_18 : decode c_L_at 18 = .ok (.ireturn, 1) := by decide +kernel
theorem d_L_at_19 : decode c_L_at 19 = .ok (.iconst 0, 1) := by decide +kernel
theorem d_L_at_20 : decode c_L_at 20 = .ok (.ireturn, 1) := by decide +kernel
theorem d_X_at_0 : decode c_X_at 0 = .ok (.iload_n 1, 1) := by decide +kernel
theorem d_X_at_1 : decode c_X_at 1 = .ok (.bipush 100, 2) := by decide +kernel
theorem d_X_at_3 : decode c_X_at 3 = .ok (.invokestatic 70, 3) := by decide +kernel
theorem d_X_at_6 : decode c_X_at 6 = .ok (.aload_n 0, 1) := by decide +kernel
theorem d_X_at_7 : decode c_X_at 7 = .ok (.aload_n 0, 1) := by decide +kernel
theorem d_X_at_8 : decode c_X_at 8 = .ok (.getfield 26, 3) := by decide +kernel
theorem d_X_at_11 : decode c_X_at 11 = .ok (.iload_n 2, 1) := by decide +kernel
theorem d_X_at_12 : decode c_X_at 12 = .ok (.iload_n 3, 1) := by decide +kernel
theorem d_X_at_13 : decode c_X_at 13 = .ok (.invokevirtual 74, 3) := by decide +kernel
theorem d_X_at_16 : decode c_X_at 16 = .ok (.aload_n 0, 1) := by decide +kernel
theorem d_X_at_17 : decode c_X_at 17 = .ok (.getfield 26, 3) := by decide +kernel
theorem d_X_at_20 : decode c_X_at 20 = .ok (.iload_n 1, 1) := by decide +kernel
theorem d_X_at_21 : decode c_X_at 21 = .ok (.invokevirtual 82, 3) := by decide +kernel
theorem d_X_at_24 : decode c_X_at 24 = .ok (.ireturn, 1) := by decide +kernel
theorem d_L_state_0 : decode c_L_state 0 = .ok (.aload 4, 2) := by decide +kernel
theorem d_L_state_2 : decode c_L_state 2 = .ok (.iconst 0, 1) := by decide +kernel
theorem d_L_state_3 : decode c_L_state 3 = .ok (.aload_n 0, 1) := by decide +kernel
theorem d_L_state_4 : decode c_L_state 4 = .ok (.iload_n 1, 1) := by decide +kernel
theorem d_L_state_5 : decode c_L_state 5 = .ok (.iload_n 2, 1) := by decide +kernel
theorem d_L_state_6 : decode c_L_state 6 = .ok (.iload_n 3, 1) := by decide +kernel
theorem d_L_state_7 : decode c_L_state 7 = .ok (.invokevirtual 18, 3) := by decide +kernel
theorem d_L_state_10 : decode c_L_state 10 = .ok (.i2l, 1) := by decide +kernel
theorem d_L_state_11 : decode c_L_state 11 = .ok (.lastore, 1) := by decide +kernel
theorem d_L_state_12 : decode c_L_state 12 = .ok (.goto 7, 3) := by decide +kernel
theorem d_L_state_15 : decode c_L_state 15 = .ok (.astore 5, 2) := by decide +kernel
theorem d_L_state_17 : decode c_L_state 17 = .ok (.iconst 1, 1) := by decide +kernel
theorem d_L_state_18 : decode c_L_state 18 = .ok (.ireturn, 1) := by decide +kernel
theorem d_L_state_19 : decode c_L_state 19 = .ok (.iconst 0, 1) := by decide +kernel
theorem d_L_state_20 : decode c_L_state 20 = .ok (.ireturn, 1) := by decide +kernel
theorem d_X_state_0 : decode c_X_state 0 = .ok (.iload_n 1, 1) := by decide +kernel
theorem d_X_state_1 : decode c_X_state 1 = .ok (.bipush 10, 2) := by decide +kernel
theorem d_X_state_3 : decode c_X_state 3 = .ok (.invokestatic 70, 3) := by decide +kernel
theorem d_X_state_6 : decode c_X_state 6 = .ok (.aload_n 0, 1) := by decide +kernel
theorem d_X_state_7 : decode c_X_state 7 = .ok (.aload_n 0, 1) := by decide +kernel
theorem d_X_state_8 : decode c_X_state 8 = .ok (.getfield 26, 3) := by decide +kernel
theorem d_X_state_11 : decode c_X_state 11 = .ok (.iload_n 2, 1) := by decide +kernel
theorem d_X_state_12 : decode c_X_state 12 = .ok (.iload_n 3, 1) := by decide +kernel
theorem d_X_state_13 : decode c_X_state 13 = .ok (.invokevirtual 74, 3) := by decide +kernel
theorem d_X_state_16 : decode c_X_state 16 = .ok (.aload_n 0, 1) := by decide +kernel
theorem d_X_state_17 : decode c_X_state 17 = .ok (.getfield 26, 3) := by decide +kernel
theorem d_X_state_20 : decode c_X_state 20 = .ok (.getfield 86, 3) := by decide +kernel
theorem d_X_state_23 : decode c_X_state 23 = .ok (.iload_n 1, 1) := by decide +kernel
theorem d_X_state_24 : decode c_X_state 24 = .ok (.iaload, 1) := by decide +kernel
theorem d_X_state_25 : decode c_X_state 25 = .ok (.ireturn, 1) := by decide +kernel
theorem d_L_sum_0 : decode c_L_sum 0 = .ok (.aload 4, 2) := by decide +kernel
theorem d_L_sum_2 : decode c_L_sum 2 = .ok (.iconst 0, 1) := by decide +kernel
theorem d_L_sum_3 : decode c_L_sum 3 = .ok (.aload_n 0, 1) := by decide +kernel
theorem d_L_sum_4 : decode c_L_sum 4 = .ok (.iload_n 1, 1) := by decide +kernel
theorem d_L_sum_5 : decode c_L_sum 5 = .ok (.iload_n 2, 1) := by decide +kernel
theorem d_L_sum_6 : decode c_L_sum 6 = .ok (.iload_n 3, 1) := by decide +kernel
theorem d_L_sum_7 : decode c_L_sum 7 = .ok (.invokevirtual 21, 3) := by decide +kernel
theorem d_L_sum_10 : decode c_L_sum 10 = .ok (.i2l, 1) := by decide +kernel
theorem d_L_sum_11 : decode c_L_sum 11 = .ok (.lastore, 1) := by decide +kernel
theorem d_L_sum_12 : decode c_L_sum 12 = .ok (.goto 7, 3) := by decide +kernel
theorem d_L_sum_15 : decode c_L_sum 15 = .ok (.astore 5, 2) := by decide +kernel
theorem d_L_sum_17 : decode c_L_sum 17 = .ok (.iconst 1, 1) := by decide +kernel
theorem d_L_sum_18 : decode c_L_sum 18 = .ok (.ireturn, 1) := by decide +kernel
theorem d_L_sum_19 : decode c_L_sum 19 = .ok (.iconst 0, 1) := by decide +kernel
theorem d_L_sum_20 : decode c_L_sum 20 = .ok (.ireturn, 1) := by decide +kernel
theorem d_X_sum_0 : decode c_X_sum 0 = .ok (.iload_n 1, 1) := by decide +kernel
theorem d_X_sum_1 : decode c_X_sum 1 = .ok (.bipush 10, 2) := by decide +kernel
theorem d_X_sum_3 : decode c_X_sum 3 = .ok (.invokestatic 70, 3) := by decide +kernel
theorem d_X_sum_6 : decode c_X_sum 6 = .ok (.aload_n 0, 1) := by decide +kernel
theorem d_X_sum_7 : decode c_X_sum 7 = .ok (.aload_n 0, 1) := by decide +kernel
theorem d_X_sum_8 : decode c_X_sum 8 = .ok (.getfield 26, 3) := by decide +kernel
theorem d_X_sum_11 : decode c_X_sum 11 = .ok (.iload_n 2, 1) := by decide +kernel
theorem d_X_sum_12 : decode c_X_sum 12 = .ok (.iload_n 3, 1) := by decide +kernel
theorem d_X_sum_13 : decode c_X_sum 13 = .ok (.invokevirtual 74, 3) := by decide +kernel
theorem d_X_sum_16 : decode c_X_sum 16 = .ok (.aload_n 0, 1) := by decide +kernel
theorem d_X_sum_17 : decode c_X_sum 17 = .ok (.getfield 26, 3) := by decide +kernel
theorem d_X_sum_20 : decode c_X_sum 20 = .ok (.getfield 89, 3) := by decide +kernel
theorem d_X_sum_23 : decode c_X_sum 23 = .ok (.iload_n 1, 1) := by decide +kernel
theorem d_X_sum_24 : decode c_X_sum 24 = .ok (.iaload, 1) := by decide +kernel
theorem d_X_sum_25 : decode c_X_sum 25 = .ok (.ireturn, 1) := by decide +kernel
theorem d_L_quota_0 : decode c_L_quota 0 = .ok (.aload 4, 2) := by decide +kernel
theorem d_L_quota_2 : decode c_L_quota 2 = .ok (.iconst 0, 1) := by decide +kernel
theorem d_L_quota_3 : decode c_L_quota 3 = .ok (.aload_n 0, 1) := by decide +kernel
theorem d_L_quota_4 : decode c_L_quota 4 = .ok (.iload_n 1, 1) := by decide +kernel
theorem d_L_quota_5 : decode c_L_quota 5 = .ok (.iload_n 2, 1) := by decide +kernel
theorem d_L_quota_6 : decode c_L_quota 6 = .ok (.iload_n 3, 1) := by decide +kernel
theorem d_L_quota_7 : decode c_L_quota 7 = .ok (.invokevirtual 24, 3) := by decide +kernel
theorem d_L_quota_10 : decode c_L_quota 10 = .ok (.i2l, 1) := by decide +kernel
theorem d_L_quota_11 : decode c_L_quota 11 = .ok (.lastore, 1) := by decide +kernel
theorem d_L_quota_12 : decode c_L_quota 12 = .ok (.goto 7, 3) := by decide +kernel
theorem d_L_quota_15 : decode c_L_quota 15 = .ok (.astore 5, 2) := by decide +kernel
theorem d_L_quota_17 : decode c_L_quota 17 = .ok (.iconst 1, 1) := by decide +kernel
theorem d_L_quota_18 : decode c_L_quota 18 = .ok (.ireturn, 1) := by decide +kernel
theorem d_L_quota_19 : decode c_L_quota 19 = .ok (.iconst 0, 1) := by decide +kernel
theorem d_L_quota_20 : decode c_L_quota 20 = .ok (.ireturn, 1) := by decide +kernel
theorem d_X_quota_0 : decode c_X_quota 0 = .ok (.iload_n 1, 1) := by decide +kernel
theorem d_X_quota_1 : decode c_X_quota 1 = .ok (.bipush 10, 2) := by decide +kernel
theorem d_X_quota_3 : decode c_X_quota 3 = .ok (.invokestatic 70, 3) := by decide +kernel
theorem d_X_quota_6 : decode c_X_quota 6 = .ok (.aload_n 0, 1) := by decide +kernel
theorem d_X_quota_7 : decode c_X_quota 7 = .ok (.iload_n 2, 1) := by decide +kernel
theorem d_X_quota_8 : decode c_X_quota 8 = .ok (.iload_n 3, 1) := by decide +kernel
theorem d_X_quota_9 : decode c_X_quota 9 = .ok (.invokevirtual 92, 3) := by decide +kernel
theorem d_X_quota_12 : decode c_X_quota 12 = .ok (.aload_n 0, 1) := by decide +kernel
theorem d_X_quota_13 : decode c_X_quota 13 = .ok (.getfield 36, 3) := by decide +kernel
theorem d_X_quota_16 : decode c_X_quota 16 = .ok (.aload_n 0, 1) := by decide +kernel
theorem d_X_quota_17 : decode c_X_quota 17 = .ok (.getfield 10, 3) := by decide +kernel
theorem d_X_quota_20 : decode c_X_quota 20 = .ok (.aload_n 0, 1) := by decide +kernel
theorem d_X_quota_21 : decode c_X_quota 21 = .ok (.getfield 19, 3) := by decide +kernel
theorem d_X_quota_24 : decode c_X_quota 24 = .ok (.invokevirtual 95, 3) := by decide +kernel
theorem d_X_quota_27 : decode c_X_quota 27 = .ok (.aload_n 0, 1) := by decide +kernel
theorem d_X_quota_28 : decode c_X_quota 28 = .ok (.getfield 36, 3) := by decide +kernel
theorem d_X_quota_31 : decode c_X_quota 31 = .ok (.getfield 99, 3) := by decide +kernel
theorem d_X_quota_34 : decode c_X_quota 34 = .ok (.iload_n 1, 1) := by decide +kernel
theorem d_X_quota_35 : decode c_X_quota 35 = .ok (.iaload, 1) := by decide +kernel
theorem d_X_quota_36 : decode c_X_quota 36 = .ok (.ireturn, 1) := by decide +kernel
theorem d_S_serveAll_0 : decode c_S_serveAll 0 = .ok (.aload_n 0, 1) := by decide +kernel
end
section
theorem d_S_serveAll_1 : decode c_S_serveAll 1 = .ok (.getfield 9, 3) := by decide +kernel
theorem d_S_serveAll_4 : decode c_S_serveAll 4 = .ok (.iconst 0, 1) := by decide +kernel
theorem d_S_serveAll_5 : decode c_S_serveAll 5 = .ok (.invokestatic 22, 3) := by decide +kernel
theorem d_S_serveAll_8 : decode c_S_serveAll 8 = .ok (.aload_n 0, 1) := by decide +kernel
theorem d_S_serveAll_9 : decode c_S_serveAll 9 = .ok (.aload_n 1, 1) := by decide +kernel
theorem d_S_serveAll_10 : decode c_S_serveAll 10 = .ok (.aload_n 2, 1) := by decide +kernel
theorem d_S_serveAll_11 : decode c_S_serveAll 11 = .ok (.invokevirtual 28, 3) := by decide +kernel
theorem d_S_serveAll_14 : decode c_S_serveAll 14 = .ok (.sipush 1000, 3) := by decide +kernel
theorem d_S_serveAll_17 : decode c_S_serveAll 17 = .ok (.istore_n 3, 1) := by decide +kernel
theorem d_S_serveAll_18 : decode c_S_serveAll 18 = .ok (.iconst 0, 1) := by decide +kernel
theorem d_S_serveAll_19 : decode c_S_serveAll 19 = .ok (.istore 4, 2) := by decide +kernel
theorem d_S_serveAll_21 : decode c_S_serveAll 21 = .ok (.iload 4, 2) := by decide +kernel
theorem d_S_serveAll_23 : decode c_S_serveAll 23 = .ok (.aload_n 0, 1) := by decide +kernel
theorem d_S_serveAll_24 : decode c_S_serveAll 24 = .ok (.getfield 18, 3) := by decide +kernel
theorem d_S_serveAll_27 : decode c_S_serveAll 27 = .ok (.if_icmp .ge 37, 3) := by decide +kernel
theorem d_S_serveAll_30 : decode c_S_serveAll 30 = .ok (.aload_n 0, 1) := by decide +kernel
theorem d_S_serveAll_31 : decode c_S_serveAll 31 = .ok (.aload_n 1, 1) := by decide +kernel
theorem d_S_serveAll_32 : decode c_S_serveAll 32 = .ok (.iload 4, 2) := by decide +kernel
theorem d_S_serveAll_34 : decode c_S_serveAll 34 = .ok (.invokevirtual 32, 3) := by decide +kernel
theorem d_S_serveAll_37 : decode c_S_serveAll 37 = .ok (.ifCond .eq 21, 3) := by decide +kernel
theorem d_S_serveAll_40 : decode c_S_serveAll 40 = .ok (.iload_n 3, 1) := by decide +kernel
theorem d_S_serveAll_41 : decode c_S_serveAll 41 = .ok (.aload_n 0, 1) := by decide +kernel
theorem d_S_serveAll_42 : decode c_S_serveAll 42 = .ok (.aload_n 1, 1) := by decide +kernel
theorem d_S_serveAll_43 : decode c_S_serveAll 43 = .ok (.iload 4, 2) := by decide +kernel
theorem d_S_serveAll_45 : decode c_S_serveAll 45 = .ok (.aload_n 0, 1) := by decide +kernel
theorem d_S_serveAll_46 : decode c_S_serveAll 46 = .ok (.aload_n 1, 1) := by decide +kernel
theorem d_S_serveAll_47 : decode c_S_serveAll 47 = .ok (.iload 4, 2) := by decide +kernel
theorem d_S_serveAll_49 : decode c_S_serveAll 49 = .ok (.invokevirtual 36, 3) := by decide +kernel
theorem d_S_serveAll_52 : decode c_S_serveAll 52 = .ok (.iload_n 3, 1) := by decide +kernel
theorem d_S_serveAll_53 : decode c_S_serveAll 53 = .ok (.invokevirtual 40, 3) := by decide +kernel
theorem d_S_serveAll_56 : decode c_S_serveAll 56 = .ok (.isub, 1) := by decide +kernel
theorem d_S_serveAll_57 : decode c_S_serveAll 57 = .ok (.istore_n 3, 1) := by decide +kernel
theorem d_S_serveAll_58 : decode c_S_serveAll 58 = .ok (.iinc 4 1, 3) := by decide +kernel
theorem d_S_serveAll_61 : decode c_S_serveAll 61 = .ok (.goto (-40), 3) := by decide +kernel
theorem d_S_serveAll_64 : decode c_S_serveAll 64 = .ok (.return_, 1) := by decide +kernel
theorem d_S_gatherAsks_0 : decode c_S_gatherAsks 0 = .ok (.aload_n 0, 1) := by decide +kernel
theorem d_S_gatherAsks_1 : decode c_S_gatherAsks 1 = .ok (.iconst 0, 1) := by decide +kernel
theorem d_S_gatherAsks_2 : decode c_S_gatherAsks 2 = .ok (.putfield 18, 3) := by decide +kernel
theorem d_S_gatherAsks_5 : decode c_S_gatherAsks 5 = .ok (.iconst 0, 1) := by decide +kernel
theorem d_S_gatherAsks_6 : decode c_S_gatherAsks 6 = .ok (.istore_n 3, 1) := by decide +kernel
theorem d_S_gatherAsks_7 : decode c_S_gatherAsks 7 = .ok (.iload_n 3, 1) := by decide +kernel
theorem d_S_gatherAsks_8 : decode c_S_gatherAsks 8 = .ok (.aload_n 2, 1) := by decide +kernel
theorem d_S_gatherAsks_9 : decode c_S_gatherAsks 9 = .ok (.getfield 44, 3) := by decide +kernel
theorem d_S_gatherAsks_12 : decode c_S_gatherAsks 12 = .ok (.if_icmp .ge 49, 3) := by decide +kernel
theorem d_S_gatherAsks_15 : decode c_S_gatherAsks 15 = .ok (.aload_n 1, 1) := by decide +kernel
theorem d_S_gatherAsks_16 : decode c_S_gatherAsks 16 = .ok (.getfield 47, 3) := by decide +kernel
theorem d_S_gatherAsks_19 : decode c_S_gatherAsks 19 = .ok (.aload_n 2, 1) := by decide +kernel
theorem d_S_gatherAsks_20 : decode c_S_gatherAsks 20 = .ok (.getfield 52, 3) := by decide +kernel
theorem d_S_gatherAsks_23 : decode c_S_gatherAsks 23 = .ok (.iload_n 3, 1) := by decide +kernel
theorem d_S_gatherAsks_24 : decode c_S_gatherAsks 24 = .ok (.iaload, 1) := by decide +kernel
theorem d_S_gatherAsks_25 : decode c_S_gatherAsks 25 = .ok (.iaload, 1) := by decide +kernel
theorem d_S_gatherAsks_26 : decode c_S_gatherAsks 26 = .ok (.iconst 4, 1) := by decide +kernel
theorem d_S_gatherAsks_27 : decode c_S_gatherAsks 27 = .ok (.if_icmp .ne 28, 3) := by decide +kernel
theorem d_S_gatherAsks_30 : decode c_S_gatherAsks 30 = .ok (.aload_n 0, 1) := by decide +kernel
theorem d_S_gatherAsks_31 : decode c_S_gatherAsks 31 = .ok (.getfield 15, 3) := by decide +kernel
theorem d_S_gatherAsks_34 : decode c_S_gatherAsks 34 = .ok (.aload_n 0, 1) := by decide +kernel
theorem d_S_gatherAsks_35 : decode c_S_gatherAsks 35 = .ok (.getfield 18, 3) := by decide +kernel
theorem d_S_gatherAsks_38 : decode c_S_gatherAsks 38 = .ok (.aload_n 2, 1) := by decide +kernel
theorem d_S_gatherAsks_39 : decode c_S_gatherAsks 39 = .ok (.getfield 52, 3) := by decide +kernel
theorem d_S_gatherAsks_42 : decode c_S_gatherAsks 42 = .ok (.iload_n 3, 1) := by decide +kernel
theorem d_S_gatherAsks_43 : decode c_S_gatherAsks 43 = .ok (.iaload, 1) := by decide +kernel
theorem d_S_gatherAsks_44 : decode c_S_gatherAsks 44 = .ok (.iastore, 1) := by decide +kernel
theorem d_S_gatherAsks_45 : decode c_S_gatherAsks 45 = .ok (.aload_n 0, 1) := by decide +kernel
theorem d_S_gatherAsks_46 : decode c_S_gatherAsks 46 = .ok (.dup, 1) := by decide +kernel
theorem d_S_gatherAsks_47 : decode c_S_gatherAsks 47 = .ok (.getfield 18, 3) := by decide +kernel
theorem d_S_gatherAsks_50 : decode c_S_gatherAsks 50 = .ok (.iconst 1, 1) := by decide +kernel
theorem d_S_gatherAsks_51 : decode c_S_gatherAsks 51 = .ok (.iadd, 1) := by decide +kernel
theorem d_S_gatherAsks_52 : decode c_S_gatherAsks 52 = .ok (.putfield 18, 3) := by decide +kernel
theorem d_S_gatherAsks_55 : decode c_S_gatherAsks 55 = .ok (.iinc 3 1, 3) := by decide +kernel
theorem d_S_gatherAsks_58 : decode c_S_gatherAsks 58 = .ok (.goto (-51), 3) := by decide +kernel
theorem d_S_gatherAsks_61 : decode c_S_gatherAsks 61 = .ok (.return_, 1) := by decide +kernel
theorem d_S_startsTime_0 : decode c_S_startsTime 0 = .ok (.iload_n 2, 1) := by decide +kernel
theorem d_S_startsTime_1 : decode c_S_startsTime 1 = .ok (.ifCond .eq 30, 3) := by decide +kernel
theorem d_S_startsTime_4 : decode c_S_startsTime 4 = .ok (.aload_n 1, 1) := by decide +kernel
theorem d_S_startsTime_5 : decode c_S_startsTime 5 = .ok (.getfield 55, 3) := by decide +kernel
theorem d_S_startsTime_8 : decode c_S_startsTime 8 = .ok (.aload_n 0, 1) := by decide +kernel
theorem d_S_startsTime_9 : decode c_S_startsTime 9 = .ok (.getfield 15, 3) := by decide +kernel
theorem d_S_startsTime_12 : decode c_S_startsTime 12 = .ok (.iload_n 2, 1) := by decide +kernel
theorem d_S_startsTime_13 : decode c_S_startsTime 13 = .ok (.iaload, 1) := by decide +kernel
theorem d_S_startsTime_14 : decode c_S_startsTime 14 = .ok (.iaload, 1) := by decide +kernel
theorem d_S_startsTime_15 : decode c_S_startsTime 15 = .ok (.aload_n 1, 1) := by decide +kernel
theorem d_S_startsTime_16 : decode c_S_startsTime 16 = .ok (.getfield 55, 3) := by decide +kernel
theorem d_S_startsTime_19 : decode c_S_startsTime 19 = .ok (.aload_n 0, 1) := by decide +kernel
theorem d_S_startsTime_20 : decode c_S_startsTime 20 = .ok (.getfield 15, 3) := by decide +kernel
theorem d_S_startsTime_23 : decode c_S_startsTime 23 = .ok (.iload_n 2, 1) := by decide +kernel
theorem d_S_startsTime_24 : decode c_S_startsTime 24 = .ok (.iconst 1, 1) := by decide +kernel
theorem d_S_startsTime_25 : decode c_S_startsTime 25 = .ok (.isub, 1) := by decide +kernel
theorem d_S_startsTime_26 : decode c_S_startsTime 26 = .ok (.iaload, 1) := by decide +kernel
theorem d_S_startsTime_27 : decode c_S_startsTime 27 = .ok (.iaload, 1) := by decide +kernel
theorem d_S_startsTime_28 : decode c_S_startsTime 28 = .ok (.if_icmp .eq 7, 3) := by decide +kernel
theorem d_S_startsTime_31 : decode c_S_startsTime 31 = .ok (.iconst 1, 1) := by decide +kernel
theorem d_S_startsTime_32 : decode c_S_startsTime 32 = .ok (.goto 4, 3) := by decide +kernel
theorem d_S_startsTime_35 : decode c_S_startsTime 35 = .ok (.iconst 0, 1) := by decide +kernel
theorem d_S_startsTime_36 : decode c_S_startsTime 36 = .ok (.ireturn, 1) := by decide +kernel
theorem d_S_endOfTime_0 : decode c_S_endOfTime 0 = .ok (.iload_n 2, 1) := by decide +kernel
theorem d_S_endOfTime_1 : decode c_S_endOfTime 1 = .ok (.iconst 1, 1) := by decide +kernel
theorem d_S_endOfTime_2 : decode c_S_endOfTime 2 = .ok (.iadd, 1) := by decide +kernel
theorem d_S_endOfTime_3 : decode c_S_endOfTime 3 = .ok (.istore_n 3, 1) := by decide +kernel
theorem d_S_endOfTime_4 : decode c_S_endOfTime 4 = .ok (.iload_n 3, 1) := by decide +kernel
theorem d_S_endOfTime_5 : decode c_S_endOfTime 5 = .ok (.aload_n 0, 1) := by decide +kernel
theorem d_S_endOfTime_6 : decode c_S_endOfTime 6 = .ok (.getfield 18, 3) := by decide +kernel
theorem d_S_endOfTime_9 : decode c_S_endOfTime 9 = .ok (.if_icmp .ge 18, 3) := by decide +kernel
theorem d_S_endOfTime_12 : decode c_S_endOfTime 12 = .ok (.aload_n 0, 1) := by decide +kernel
theorem d_S_endOfTime_13 : decode c_S_endOfTime 13 = .ok (.aload_n 1, 1) := by decide +kernel
theorem d_S_endOfTime_14 : decode c_S_endOfTime 14 = .ok (.iload_n 3, 1) := by decide +kernel
theorem d_S_endOfTime_15 : decode c_S_endOfTime 15 = .ok (.invokevirtual 32, 3) := by decide +kernel
theorem d_S_endOfTime_18 : decode c_S_endOfTime 18 = .ok (.ifCond .ne 9, 3) := by decide +kernel
theorem d_S_endOfTime_21 : decode c_S_endOfTime 21 = .ok (.iinc 3 1, 3) := by decide +kernel
theorem d_S_endOfTime_24 : decode c_S_endOfTime 24 = .ok (.goto (-20), 3) := by decide +kernel
theorem d_S_endOfTime_27 : decode c_S_endOfTime 27 = .ok (.iload_n 3, 1) := by decide +kernel
theorem d_S_endOfTime_28 : decode c_S_endOfTime 28 = .ok (.ireturn, 1) := by decide +kernel
theorem d_S_serveTime_0 : decode c_S_serveTime 0 = .ok (.iconst 0, 1) := by decide +kernel
theorem d_S_serveTime_1 : decode c_S_serveTime 1 = .ok (.istore 5, 2) := by decide +kernel
theorem d_S_serveTime_3 : decode c_S_serveTime 3 = .ok (.iload_n 2, 1) := by decide +kernel
theorem d_S_serveTime_4 : decode c_S_serveTime 4 = .ok (.istore 6, 2) := by decide +kernel
theorem d_S_serveTime_6 : decode c_S_serveTime 6 = .ok (.iload 6, 2) := by decide +kernel
theorem d_S_serveTime_8 : decode c_S_serveTime 8 = .ok (.iload_n 3, 1) := by decide +kernel
theorem d_S_serveTime_9 : decode c_S_serveTime 9 = .ok (.if_icmp .ge 26, 3) := by decide +kernel
theorem d_S_serveTime_12 : decode c_S_serveTime 12 = .ok (.iload 5, 2) := by decide +kernel
theorem d_S_serveTime_14 : decode c_S_serveTime 14 = .ok (.aload_n 1, 1) := by decide +kernel
theorem d_S_serveTime_15 : decode c_S_serveTime 15 = .ok (.getfield 58, 3) := by decide +kernel
theorem d_S_serveTime_18 : decode c_S_serveTime 18 = .ok (.aload_n 0, 1) := by decide +kernel
theorem d_S_serveTime_19 : decode c_S_serveTime 19 = .ok (.getfield 15, 3) := by decide +kernel
theorem d_S_serveTime_22 : decode c_S_serveTime 22 = .ok (.iload 6, 2) := by decide +kernel
theorem d_S_serveTime_24 : decode c_S_serveTime 24 = .ok (.iaload, 1) := by decide +kernel
theorem d_S_serveTime_25 : decode c_S_serveTime 25 = .ok (.iaload, 1) := by decide +kernel
theorem d_S_serveTime_26 : decode c_S_serveTime 26 = .ok (.iadd, 1) := by decide +kernel
theorem d_S_serveTime_27 : decode c_S_serveTime 27 = .ok (.istore 5, 2) := by decide +kernel
theorem d_S_serveTime_29 : decode c_S_serveTime 29 = .ok (.iinc 6 1, 3) := by decide +kernel
theorem d_S_serveTime_32 : decode c_S_serveTime 32 = .ok (.goto (-26), 3) := by decide +kernel
theorem d_S_serveTime_35 : decode c_S_serveTime 35 = .ok (.iconst 0, 1) := by decide +kernel
theorem d_S_serveTime_36 : decode c_S_serveTime 36 = .ok (.istore 6, 2) := by decide +kernel
theorem d_S_serveTime_38 : decode c_S_serveTime 38 = .ok (.iload_n 2, 1) := by decide +kernel
theorem d_S_serveTime_39 : decode c_S_serveTime 39 = .ok (.istore 7, 2) := by decide +kernel
theorem d_S_serveTime_41 : decode c_S_serveTime 41 = .ok (.iload 7, 2) := by decide +kernel
theorem d_S_serveTime_43 : decode c_S_serveTime 43 = .ok (.iload_n 3, 1) := by decide +kernel
theorem d_S_serveTime_44 : decode c_S_serveTime 44 = .ok (.if_icmp .ge 59, 3) := by decide +kernel
theorem d_S_serveTime_47 : decode c_S_serveTime 47 = .ok (.aload_n 1, 1) := by decide +kernel
theorem d_S_serveTime_48 : decode c_S_serveTime 48 = .ok (.getfield 58, 3) := by decide +kernel
theorem d_S_serveTime_51 : decode c_S_serveTime 51 = .ok (.aload_n 0, 1) := by decide +kernel
theorem d_S_serveTime_52 : decode c_S_serveTime 52 = .ok (.getfield 15, 3) := by decide +kernel
theorem d_S_serveTime_55 : decode c_S_serveTime 55 = .ok (.iload 7, 2) := by decide +kernel
theorem d_S_serveTime_57 : decode c_S_serveTime 57 = .ok (.iaload, 1) := by decide +kernel
theorem d_S_serveTime_58 : decode c_S_serveTime 58 = .ok (.iaload, 1) := by decide +kernel
theorem d_S_serveTime_59 : decode c_S_serveTime 59 = .ok (.iload 4, 2) := by decide +kernel
theorem d_S_serveTime_61 : decode c_S_serveTime 61 = .ok (.iload 5, 2) := by decide +kernel
theorem d_S_serveTime_63 : decode c_S_serveTime 63 = .ok (.invokestatic 61, 3) := by decide +kernel
theorem d_S_serveTime_66 : decode c_S_serveTime 66 = .ok (.istore 8, 2) := by decide +kernel
theorem d_S_serveTime_68 : decode c_S_serveTime 68 = .ok (.aload_n 0, 1) := by decide +kernel
theorem d_S_serveTime_69 : decode c_S_serveTime 69 = .ok (.getfield 9, 3) := by decide +kernel
theorem d_S_serveTime_72 : decode c_S_serveTime 72 = .ok (.aload_n 1, 1) := by decide +kernel
theorem d_S_serveTime_73 : decode c_S_serveTime 73 = .ok (.getfield 65, 3) := by decide +kernel
theorem d_S_serveTime_76 : decode c_S_serveTime 76 = .ok (.aload_n 0, 1) := by decide +kernel
theorem d_S_serveTime_77 : decode c_S_serveTime 77 = .ok (.getfield 15, 3) := by decide +kernel
theorem d_S_serveTime_80 : decode c_S_serveTime 80 = .ok (.iload 7, 2) := by decide +kernel
theorem d_S_serveTime_82 : decode c_S_serveTime 82 = .ok (.iaload, 1) := by decide +kernel
theorem d_S_serveTime_83 : decode c_S_serveTime 83 = .ok (.iaload, 1) := by decide +kernel
theorem d_S_serveTime_84 : decode c_S_serveTime 84 = .ok (.dup2, 1) := by decide +kernel
theorem d_S_serveTime_85 : decode c_S_serveTime 85 = .ok (.iaload, 1) := by decide +kernel
theorem d_S_serveTime_86 : decode c_S_serveTime 86 = .ok (.iload 8, 2) := by decide +kernel
theorem d_S_serveTime_88 : decode c_S_serveTime 88 = .ok (.iadd, 1) := by decide +kernel
theorem d_S_serveTime_89 : decode c_S_serveTime 89 = .ok (.iastore, 1) := by decide +kernel
theorem d_S_serveTime_90 : decode c_S_serveTime 90 = .ok (.iload 6, 2) := by decide +kernel
theorem d_S_serveTime_92 : decode c_S_serveTime 92 = .ok (.iload 8, 2) := by decide +kernel
theorem d_S_serveTime_94 : decode c_S_serveTime 94 = .ok (.iadd, 1) := by decide +kernel
theorem d_S_serveTime_95 : decode c_S_serveTime 95 = .ok (.istore 6, 2) := by decide +kernel
theorem d_S_serveTime_97 : decode c_S_serveTime 97 = .ok (.iinc 7 1, 3) := by decide +kernel
theorem d_S_serveTime_100 : decode c_S_serveTime 100 = .ok (.goto (-59), 3) := by decide +kernel
theorem d_S_serveTime_103 : decode c_S_serveTime 103 = .ok (.iload 4, 2) := by decide +kernel
theorem d_S_serveTime_105 : decode c_S_serveTime 105 = .ok (.iload 5, 2) := by decide +kernel
theorem d_S_serveTime_107 : decode c_S_serveTime 107 = .ok (.invokestatic 68, 3) := by decide +kernel
theorem d_S_serveTime_110 : decode c_S_serveTime 110 = .ok (.istore 7, 2) := by decide +kernel
theorem d_S_serveTime_112 : decode c_S_serveTime 112 = .ok (.iload_n 2, 1) := by decide +kernel
theorem d_S_serveTime_113 : decode c_S_serveTime 113 = .ok (.istore 8, 2) := by decide +kernel
theorem d_S_serveTime_115 : decode c_S_serveTime 115 = .ok (.iload 8, 2) := by decide +kernel
theorem d_S_serveTime_117 : decode c_S_serveTime 117 = .ok (.iload_n 3, 1) := by decide +kernel
theorem d_S_serveTime_118 : decode c_S_serveTime 118 = .ok (.if_icmp .ge 40, 3) := by decide +kernel
theorem d_S_serveTime_121 : decode c_S_serveTime 121 = .ok (.iload 6, 2) := by decide +kernel
theorem d_S_serveTime_123 : decode c_S_serveTime 123 = .ok (.iload 7, 2) := by decide +kernel
theorem d_S_serveTime_125 : decode c_S_serveTime 125 = .ok (.if_icmp .ge 33, 3) := by decide +kernel
theorem d_S_serveTime_128 : decode c_S_serveTime 128 = .ok (.aload_n 0, 1) := by decide +kernel
theorem d_S_serveTime_129 : decode c_S_serveTime 129 = .ok (.getfield 9, 3) := by decide +kernel
theorem d_S_serveTime_132 : decode c_S_serveTime 132 = .ok (.aload_n 1, 1) := by decide +kernel
theorem d_S_serveTime_133 : decode c_S_serveTime 133 = .ok (.getfield 65, 3) := by decide +kernel
theorem d_S_serveTime_136 : decode c_S_serveTime 136 = .ok (.aload_n 0, 1) := by decide +kernel
theorem d_S_serveTime_137 : decode c_S_serveTime 137 = .ok (.getfield 15, 3) := by decide +kernel
theorem d_S_serveTime_140 : decode c_S_serveTime 140 = .ok (.iload 8, 2) := by decide +kernel
theorem d_S_serveTime_142 : decode c_S_serveTime 142 = .ok (.iaload, 1) := by decide +kernel
theorem d_S_serveTime_143 : decode c_S_serveTime 143 = .ok (.iaload, 1) := by decide +kernel
theorem d_S_serveTime_144 : decode c_S_serveTime 144 = .ok (.dup2, 1) := by decide +kernel
theorem d_S_serveTime_145 : decode c_S_serveTime 145 = .ok (.iaload, 1) := by decide +kernel
theorem d_S_serveTime_146 : decode c_S_serveTime 146 = .ok (.iconst 1, 1) := by decide +kernel
theorem d_S_serveTime_147 : decode c_S_serveTime 147 = .ok (.iadd, 1) := by decide +kernel
theorem d_S_serveTime_148 : decode c_S_serveTime 148 = .ok (.iastore, 1) := by decide +kernel
theorem d_S_serveTime_149 : decode c_S_serveTime 149 = .ok (.iinc 6 1, 3) := by decide +kernel
theorem d_S_serveTime_152 : decode c_S_serveTime 152 = .ok (.iinc 8 1, 3) := by decide +kernel
theorem d_S_serveTime_155 : decode c_S_serveTime 155 = .ok (.goto (-40), 3) := by decide +kernel
theorem d_S_serveTime_158 : decode c_S_serveTime 158 = .ok (.iload 6, 2) := by decide +kernel
theorem d_S_serveTime_160 : decode c_S_serveTime 160 = .ok (.ireturn, 1) := by decide +kernel
theorem d_S_share_0 : decode c_S_share 0 = .ok (.iload_n 2, 1) := by decide +kernel
theorem d_S_share_1 : decode c_S_share 1 = .ok (.iload_n 1, 1) := by decide +kernel
theorem d_S_share_2 : decode c_S_share 2 = .ok (.if_icmp .le 7, 3) := by decide +kernel
theorem d_S_share_5 : decode c_S_share 5 = .ok (.iload_n 2, 1) := by decide +kernel
theorem d_S_share_6 : decode c_S_share 6 = .ok (.ifCond .gt 5, 3) := by decide +kernel
theorem d_S_share_9 : decode c_S_share 9 = .ok (.iload_n 0, 1) := by decide +kernel
theorem d_S_share_10 : decode c_S_share 10 = .ok (.ireturn, 1) := by decide +kernel
theorem d_S_share_11 : decode c_S_share 11 = .ok (.iload_n 0, 1) := by decide +kernel
theorem d_S_share_12 : decode c_S_share 12 = .ok (.iload_n 1, 1) := by decide +kernel
theorem d_S_share_13 : decode c_S_share 13 = .ok (.imul, 1) := by decide +kernel
theorem d_S_share_14 : decode c_S_share 14 = .ok (.iload_n 2, 1) := by decide +kernel
theorem d_S_share_15 : decode c_S_share 15 = .ok (.idiv, 1) := by decide +kernel
theorem d_S_share_16 : decode c_S_share 16 = .ok (.ireturn, 1) := by decide +kernel
theorem d_Ma_min_0 : decode c_Ma_min 0 = .ok (.iload_n 0, 1) := by decide +kernel
theorem d_Ma_min_1 : decode c_Ma_min 1 = .ok (.iload_n 1, 1) := by decide +kernel
theorem d_Ma_min_2 : decode c_Ma_min 2 = .ok (.if_icmp .gt 7, 3) := by decide +kernel
theorem d_Ma_min_5 : decode c_Ma_min 5 = .ok (.iload_n 0, 1) := by decide +kernel
theorem d_Ma_min_6 : decode c_Ma_min 6 = .ok (.goto 4, 3) := by decide +kernel
theorem d_Ma_min_9 : decode c_Ma_min 9 = .ok (.iload_n 1, 1) := by decide +kernel
theorem d_Ma_min_10 : decode c_Ma_min 10 = .ok (.ireturn, 1) := by decide +kernel
theorem d_L_apart_0 : decode c_L_apart 0 = .ok (.aload 5, 2) := by decide +kernel
theorem d_L_apart_2 : decode c_L_apart 2 = .ok (.iconst 0, 1) := by decide +kernel
theorem d_L_apart_3 : decode c_L_apart 3 = .ok (.aload_n 0, 1) := by decide +kernel
theorem d_L_apart_4 : decode c_L_apart 4 = .ok (.iload_n 1, 1) := by decide +kernel
theorem d_L_apart_5 : decode c_L_apart 5 = .ok (.iload_n 2, 1) := by decide +kernel
theorem d_L_apart_6 : decode c_L_apart 6 = .ok (.iload_n 3, 1) := by decide +kernel
theorem d_L_apart_7 : decode c_L_apart 7 = .ok (.iload 4, 2) := by decide +kernel
theorem d_L_apart_9 : decode c_L_apart 9 = .ok (.invokevirtual 27, 3) := by decide +kernel
theorem d_L_apart_12 : decode c_L_apart 12 = .ok (.i2l, 1) := by decide +kernel
theorem d_L_apart_13 : decode c_L_apart 13 = .ok (.lastore, 1) := by decide +kernel
theorem d_L_apart_14 : decode c_L_apart 14 = .ok (.goto 7, 3) := by decide +kernel
theorem d_L_apart_17 : decode c_L_apart 17 = .ok (.astore 6, 2) := by decide +kernel
theorem d_L_apart_19 : decode c_L_apart 19 = .ok (.iconst 1, 1) := by decide +kernel
theorem d_L_apart_20 : decode c_L_apart 20 = .ok (.ireturn, 1) := by decide +kernel
theorem d_L_apart_21 : decode c_L_apart 21 = .ok (.iconst 0, 1) := by decide +kernel
theorem d_L_apart_22 : decode c_L_apart 22 = .ok (.ireturn, 1) := by decide +kernel
theorem d_X_apart_0 : decode c_X_apart 0 = .ok (.iload_n 1, 1) := by decide +kernel
theorem d_X_apart_1 : decode c_X_apart 1 = .ok (.bipush 20, 2) := by decide +kernel
theorem d_X_apart_3 : decode c_X_apart 3 = .ok (.invokestatic 70, 3) := by decide +kernel
theorem d_X_apart_6 : decode c_X_apart 6 = .ok (.iload_n 2, 1) := by decide +kernel
theorem d_X_apart_7 : decode c_X_apart 7 = .ok (.bipush 20, 2) := by decide +kernel
theorem d_X_apart_9 : decode c_X_apart 9 = .ok (.invokestatic 70, 3) := by decide +kernel
theorem d_X_apart_12 : decode c_X_apart 12 = .ok (.aload_n 0, 1) := by decide +kernel
theorem d_X_apart_13 : decode c_X_apart 13 = .ok (.aload_n 0, 1) := by decide +kernel
theorem d_X_apart_14 : decode c_X_apart 14 = .ok (.getfield 26, 3) := by decide +kernel
theorem d_X_apart_17 : decode c_X_apart 17 = .ok (.iload_n 3, 1) := by decide +kernel
theorem d_X_apart_18 : decode c_X_apart 18 = .ok (.iload 4, 2) := by decide +kernel
theorem d_X_apart_20 : decode c_X_apart 20 = .ok (.invokevirtual 74, 3) := by decide +kernel
theorem d_X_apart_23 : decode c_X_apart 23 = .ok (.aload_n 0, 1) := by decide +kernel
theorem d_X_apart_24 : decode c_X_apart 24 = .ok (.getfield 26, 3) := by decide +kernel
theorem d_X_apart_27 : decode c_X_apart 27 = .ok (.getfield 78, 3) := by decide +kernel
theorem d_X_apart_30 : decode c_X_apart 30 = .ok (.iload_n 1, 1) := by decide +kernel
theorem d_X_apart_31 : decode c_X_apart 31 = .ok (.iaload, 1) := by decide +kernel
theorem d_X_apart_32 : decode c_X_apart 32 = .ok (.istore 5, 2) := by decide +kernel
theorem d_X_apart_34 : decode c_X_apart 34 = .ok (.aload_n 0, 1) := by decide +kernel
theorem d_X_apart_35 : decode c_X_apart 35 = .ok (.getfield 26, 3) := by decide +kernel
theorem d_X_apart_38 : decode c_X_apart 38 = .ok (.getfield 78, 3) := by decide +kernel
theorem d_X_apart_41 : decode c_X_apart 41 = .ok (.iload_n 2, 1) := by decide +kernel
theorem d_X_apart_42 : decode c_X_apart 42 = .ok (.iaload, 1) := by decide +kernel
theorem d_X_apart_43 : decode c_X_apart 43 = .ok (.istore 6, 2) := by decide +kernel
theorem d_X_apart_45 : decode c_X_apart 45 = .ok (.iload 5, 2) := by decide +kernel
theorem d_X_apart_47 : decode c_X_apart 47 = .ok (.iconst (-1), 1) := by decide +kernel
theorem d_X_apart_48 : decode c_X_apart 48 = .ok (.if_icmp .eq 9, 3) := by decide +kernel
theorem d_X_apart_51 : decode c_X_apart 51 = .ok (.iload 6, 2) := by decide +kernel
theorem d_X_apart_53 : decode c_X_apart 53 = .ok (.iconst (-1), 1) := by decide +kernel
theorem d_X_apart_54 : decode c_X_apart 54 = .ok (.if_icmp .ne 7, 3) := by decide +kernel
theorem d_X_apart_57 : decode c_X_apart 57 = .ok (.iconst (-1), 1) := by decide +kernel
theorem d_X_apart_58 : decode c_X_apart 58 = .ok (.goto 10, 3) := by decide +kernel
theorem d_X_apart_61 : decode c_X_apart 61 = .ok (.iload 5, 2) := by decide +kernel
theorem d_X_apart_63 : decode c_X_apart 63 = .ok (.iload 6, 2) := by decide +kernel
theorem d_X_apart_65 : decode c_X_apart 65 = .ok (.invokestatic 102, 3) := by decide +kernel
theorem d_X_apart_68 : decode c_X_apart 68 = .ok (.ireturn, 1) := by decide +kernel
theorem d_X_distance_0 : decode c_X_distance 0 = .ok (.iload_n 0, 1) := by decide +kernel
theorem d_X_distance_1 : decode c_X_distance 1 = .ok (.bipush 10, 2) := by decide +kernel
theorem d_X_distance_3 : decode c_X_distance 3 = .ok (.idiv, 1) := by decide +kernel
theorem d_X_distance_4 : decode c_X_distance 4 = .ok (.iload_n 1, 1) := by decide +kernel
theorem d_X_distance_5 : decode c_X_distance 5 = .ok (.bipush 10, 2) := by decide +kernel
theorem d_X_distance_7 : decode c_X_distance 7 = .ok (.idiv, 1) := by decide +kernel
theorem d_X_distance_8 : decode c_X_distance 8 = .ok (.isub, 1) := by decide +kernel
theorem d_X_distance_9 : decode c_X_distance 9 = .ok (.invokestatic 165, 3) := by decide +kernel
theorem d_X_distance_12 : decode c_X_distance 12 = .ok (.iload_n 0, 1) := by decide +kernel
theorem d_X_distance_13 : decode c_X_distance 13 = .ok (.bipush 10, 2) := by decide +kernel
theorem d_X_distance_15 : decode c_X_distance 15 = .ok (.irem, 1) := by decide +kernel
theorem d_X_distance_16 : decode c_X_distance 16 = .ok (.iload_n 1, 1) := by decide +kernel
theorem d_X_distance_17 : decode c_X_distance 17 = .ok (.bipush 10, 2) := by decide +kernel
theorem d_X_distance_19 : decode c_X_distance 19 = .ok (.irem, 1) := by decide +kernel
theorem d_X_distance_20 : decode c_X_distance 20 = .ok (.isub, 1) := by decide +kernel
theorem d_X_distance_21 : decode c_X_distance 21 = .ok (.invokestatic 165, 3) := by decide +kernel
theorem d_X_distance_24 : decode c_X_distance 24 = .ok (.iadd, 1) := by decide +kernel
theorem d_X_distance_25 : decode c_X_distance 25 = .ok (.ireturn, 1) := by decide +kernel
theorem d_Ma_abs_0 : decode c_Ma_abs 0 = .ok (.iload_n 0, 1) := by decide +kernel
theorem d_Ma_abs_1 : decode c_Ma_abs 1 = .ok (.ifCond .ge 8, 3) := by decide +kernel
theorem d_Ma_abs_4 : decode c_Ma_abs 4 = .ok (.iload_n 0, 1) := by decide +kernel
theorem d_Ma_abs_5 : decode c_Ma_abs 5 = .ok (.ineg, 1) := by decide +kernel
theorem d_Ma_abs_6 : decode c_Ma_abs 6 = .ok (.goto 4, 3) := by decide +kernel
theorem d_Ma_abs_9 : decode c_Ma_abs 9 = .ok (.iload_n 0, 1) := by decide +kernel
theorem d_Ma_abs_10 : decode c_Ma_abs 10 = .ok (.ireturn, 1) := by decide +kernel
theorem d_L_least_0 : decode c_L_least 0 = .ok (.aload_n 3, 1) := by decide +kernel
theorem d_L_least_1 : decode c_L_least 1 = .ok (.iconst 0, 1) := by decide +kernel
theorem d_L_least_2 : decode c_L_least 2 = .ok (.aload_n 0, 1) := by decide +kernel
theorem d_L_least_3 : decode c_L_least 3 = .ok (.iload_n 1, 1) := by decide +kernel
theorem d_L_least_4 : decode c_L_least 4 = .ok (.iload_n 2, 1) := by decide +kernel
theorem d_L_least_5 : decode c_L_least 5 = .ok (.invokevirtual 31, 3) := by decide +kernel
theorem d_L_least_8 : decode c_L_least 8 = .ok (.i2l, 1) := by decide +kernel
theorem d_L_least_9 : decode c_L_least 9 = .ok (.lastore, 1) := by decide +kernel
theorem d_L_least_10 : decode c_L_least 10 = .ok (.goto 7, 3) := by decide +kernel
theorem d_L_least_13 : decode c_L_least 13 = .ok (.astore 4, 2) := by decide +kernel
theorem d_L_least_15 : decode c_L_least 15 = .ok (.iconst 1, 1) := by decide +kernel
theorem d_L_least_16 : decode c_L_least 16 = .ok (.ireturn, 1) := by decide +kernel
theorem d_L_least_17 : decode c_L_least 17 = .ok (.iconst 0, 1) := by decide +kernel
theorem d_L_least_18 : decode c_L_least 18 = .ok (.ireturn, 1) := by decide +kernel
theorem d_X_least_0 : decode c_X_least 0 = .ok (.aload_n 0, 1) := by decide +kernel
theorem d_X_least_1 : decode c_X_least 1 = .ok (.aload_n 0, 1) := by decide +kernel
theorem d_X_least_2 : decode c_X_least 2 = .ok (.getfield 26, 3) := by decide +kernel
theorem d_X_least_5 : decode c_X_least 5 = .ok (.iload_n 1, 1) := by decide +kernel
theorem d_X_least_6 : decode c_X_least 6 = .ok (.iload_n 2, 1) := by decide +kernel
theorem d_X_least_7 : decode c_X_least 7 = .ok (.invokevirtual 74, 3) := by decide +kernel
theorem d_X_least_10 : decode c_X_least 10 = .ok (.aload_n 0, 1) := by decide +kernel
theorem d_X_least_11 : decode c_X_least 11 = .ok (.getfield 43, 3) := by decide +kernel
theorem d_X_least_14 : decode c_X_least 14 = .ok (.aload_n 0, 1) := by decide +kernel
theorem d_X_least_15 : decode c_X_least 15 = .ok (.getfield 26, 3) := by decide +kernel
theorem d_X_least_18 : decode c_X_least 18 = .ok (.invokevirtual 106, 3) := by decide +kernel
theorem d_X_least_21 : decode c_X_least 21 = .ok (.ireturn, 1) := by decide +kernel
theorem d_B_leastWay_0 : decode c_B_leastWay 0 = .ok (.aload_n 0, 1) := by decide +kernel
theorem d_B_leastWay_1 : decode c_B_leastWay 1 = .ok (.aload_n 1, 1) := by decide +kernel
theorem d_B_leastWay_2 : decode c_B_leastWay 2 = .ok (.invokevirtual 22, 3) := by decide +kernel
theorem d_B_leastWay_5 : decode c_B_leastWay 5 = .ok (.ifCond .ne 5, 3) := by decide +kernel
theorem d_B_leastWay_8 : decode c_B_leastWay 8 = .ok (.iconst (-1), 1) := by decide +kernel
theorem d_B_leastWay_9 : decode c_B_leastWay 9 = .ok (.ireturn, 1) := by decide +kernel
theorem d_B_leastWay_10 : decode c_B_leastWay 10 = .ok (.iconst 1, 1) := by decide +kernel
theorem d_B_leastWay_11 : decode c_B_leastWay 11 = .ok (.aload_n 0, 1) := by decide +kernel
theorem d_B_leastWay_12 : decode c_B_leastWay 12 = .ok (.getfield 18, 3) := by decide +kernel
theorem d_B_leastWay_15 : decode c_B_leastWay 15 = .ok (.ishl, 1) := by decide +kernel
theorem d_B_leastWay_16 : decode c_B_leastWay 16 = .ok (.iconst 1, 1) := by decide +kernel
theorem d_B_leastWay_17 : decode c_B_leastWay 17 = .ok (.isub, 1) := by decide +kernel
theorem d_B_leastWay_18 : decode c_B_leastWay 18 = .ok (.istore_n 2, 1) := by decide +kernel
theorem d_B_leastWay_19 : decode c_B_leastWay 19 = .ok (.aload_n 0, 1) := by decide +kernel
theorem d_B_leastWay_20 : decode c_B_leastWay 20 = .ok (.getfield 15, 3) := by decide +kernel
theorem d_B_leastWay_23 : decode c_B_leastWay 23 = .ok (.iconst 0, 1) := by decide +kernel
theorem d_B_leastWay_24 : decode c_B_leastWay 24 = .ok (.iconst 0, 1) := by decide +kernel
theorem d_B_leastWay_25 : decode c_B_leastWay 25 = .ok (.iastore, 1) := by decide +kernel
theorem d_B_leastWay_26 : decode c_B_leastWay 26 = .ok (.iconst 1, 1) := by decide +kernel
theorem d_B_leastWay_27 : decode c_B_leastWay 27 = .ok (.istore_n 3, 1) := by decide +kernel
theorem d_B_leastWay_28 : decode c_B_leastWay 28 = .ok (.iload_n 3, 1) := by decide +kernel
theorem d_B_leastWay_29 : decode c_B_leastWay 29 = .ok (.iload_n 2, 1) := by decide +kernel
theorem d_B_leastWay_30 : decode c_B_leastWay 30 = .ok (.if_icmp .gt 20, 3) := by decide +kernel
theorem d_B_leastWay_33 : decode c_B_leastWay 33 = .ok (.aload_n 0, 1) := by decide +kernel
theorem d_B_leastWay_34 : decode c_B_leastWay 34 = .ok (.getfield 15, 3) := by decide +kernel
theorem d_B_leastWay_37 : decode c_B_leastWay 37 = .ok (.iload_n 3, 1) := by decide +kernel
theorem d_B_leastWay_38 : decode c_B_leastWay 38 = .ok (.aload_n 0, 1) := by decide +kernel
theorem d_B_leastWay_39 : decode c_B_leastWay 39 = .ok (.iload_n 3, 1) := by decide +kernel
theorem d_B_leastWay_40 : decode c_B_leastWay 40 = .ok (.invokevirtual 26, 3) := by decide +kernel
theorem d_B_leastWay_43 : decode c_B_leastWay 43 = .ok (.iastore, 1) := by decide +kernel
theorem d_B_leastWay_44 : decode c_B_leastWay 44 = .ok (.iinc 3 1, 3) := by decide +kernel
theorem d_B_leastWay_47 : decode c_B_leastWay 47 = .ok (.goto (-19), 3) := by decide +kernel
theorem d_B_leastWay_50 : decode c_B_leastWay 50 = .ok (.aload_n 0, 1) := by decide +kernel
theorem d_B_leastWay_51 : decode c_B_leastWay 51 = .ok (.getfield 15, 3) := by decide +kernel
theorem d_B_leastWay_54 : decode c_B_leastWay 54 = .ok (.iload_n 2, 1) := by decide +kernel
theorem d_B_leastWay_55 : decode c_B_leastWay 55 = .ok (.iaload, 1) := by decide +kernel
theorem d_B_leastWay_56 : decode c_B_leastWay 56 = .ok (.ireturn, 1) := by decide +kernel
theorem d_B_gatherBoxes_0 : decode c_B_gatherBoxes 0 = .ok (.aload_n 0, 1) := by decide +kernel
theorem d_B_gatherBoxes_1 : decode c_B_gatherBoxes 1 = .ok (.iconst 0, 1) := by decide +kernel
theorem d_B_gatherBoxes_2 : decode c_B_gatherBoxes 2 = .ok (.putfield 18, 3) := by decide +kernel
theorem d_B_gatherBoxes_5 : decode c_B_gatherBoxes 5 = .ok (.iconst 0, 1) := by decide +kernel
theorem d_B_gatherBoxes_6 : decode c_B_gatherBoxes 6 = .ok (.istore_n 2, 1) := by decide +kernel
theorem d_B_gatherBoxes_7 : decode c_B_gatherBoxes 7 = .ok (.iload_n 2, 1) := by decide +kernel
theorem d_B_gatherBoxes_8 : decode c_B_gatherBoxes 8 = .ok (.bipush 20, 2) := by decide +kernel
theorem d_B_gatherBoxes_10 : decode c_B_gatherBoxes 10 = .ok (.if_icmp .ge 55, 3) := by decide +kernel
theorem d_B_gatherBoxes_13 : decode c_B_gatherBoxes 13 = .ok (.aload_n 1, 1) := by decide +kernel
theorem d_B_gatherBoxes_14 : decode c_B_gatherBoxes 14 = .ok (.getfield 30, 3) := by decide +kernel
theorem d_B_gatherBoxes_17 : decode c_B_gatherBoxes 17 = .ok (.iload_n 2, 1) := by decide +kernel
theorem d_B_gatherBoxes_18 : decode c_B_gatherBoxes 18 = .ok (.iaload, 1) := by decide +kernel
theorem d_B_gatherBoxes_19 : decode c_B_gatherBoxes 19 = .ok (.iconst (-1), 1) := by decide +kernel
theorem d_B_gatherBoxes_20 : decode c_B_gatherBoxes 20 = .ok (.if_icmp .eq 39, 3) := by decide +kernel
theorem d_B_gatherBoxes_23 : decode c_B_gatherBoxes 23 = .ok (.aload_n 0, 1) := by decide +kernel
theorem d_B_gatherBoxes_24 : decode c_B_gatherBoxes 24 = .ok (.getfield 18, 3) := by decide +kernel
theorem d_B_gatherBoxes_27 : decode c_B_gatherBoxes 27 = .ok (.bipush 6, 2) := by decide +kernel
theorem d_B_gatherBoxes_29 : decode c_B_gatherBoxes 29 = .ok (.if_icmp .lt 5, 3) := by decide +kernel
theorem d_B_gatherBoxes_32 : decode c_B_gatherBoxes 32 = .ok (.iconst 0, 1) := by decide +kernel
theorem d_B_gatherBoxes_33 : decode c_B_gatherBoxes 33 = .ok (.ireturn, 1) := by decide +kernel
theorem d_B_gatherBoxes_34 : decode c_B_gatherBoxes 34 = .ok (.aload_n 0, 1) := by decide +kernel
theorem d_B_gatherBoxes_35 : decode c_B_gatherBoxes 35 = .ok (.getfield 9, 3) := by decide +kernel
theorem d_B_gatherBoxes_38 : decode c_B_gatherBoxes 38 = .ok (.aload_n 0, 1) := by decide +kernel
theorem d_B_gatherBoxes_39 : decode c_B_gatherBoxes 39 = .ok (.getfield 18, 3) := by decide +kernel
theorem d_B_gatherBoxes_42 : decode c_B_gatherBoxes 42 = .ok (.aload_n 1, 1) := by decide +kernel
theorem d_B_gatherBoxes_43 : decode c_B_gatherBoxes 43 = .ok (.getfield 30, 3) := by decide +kernel
theorem d_B_gatherBoxes_46 : decode c_B_gatherBoxes 46 = .ok (.iload_n 2, 1) := by decide +kernel
theorem d_B_gatherBoxes_47 : decode c_B_gatherBoxes 47 = .ok (.iaload, 1) := by decide +kernel
theorem d_B_gatherBoxes_48 : decode c_B_gatherBoxes 48 = .ok (.iastore, 1) := by decide +kernel
theorem d_B_gatherBoxes_49 : decode c_B_gatherBoxes 49 = .ok (.aload_n 0, 1) := by decide +kernel
theorem d_B_gatherBoxes_50 : decode c_B_gatherBoxes 50 = .ok (.dup, 1) := by decide +kernel
theorem d_B_gatherBoxes_51 : decode c_B_gatherBoxes 51 = .ok (.getfield 18, 3) := by decide +kernel
theorem d_B_gatherBoxes_54 : decode c_B_gatherBoxes 54 = .ok (.iconst 1, 1) := by decide +kernel
theorem d_B_gatherBoxes_55 : decode c_B_gatherBoxes 55 = .ok (.iadd, 1) := by decide +kernel
theorem d_B_gatherBoxes_56 : decode c_B_gatherBoxes 56 = .ok (.putfield 18, 3) := by decide +kernel
theorem d_B_gatherBoxes_59 : decode c_B_gatherBoxes 59 = .ok (.iinc 2 1, 3) := by decide +kernel
theorem d_B_gatherBoxes_62 : decode c_B_gatherBoxes 62 = .ok (.goto (-55), 3) := by decide +kernel
theorem d_B_gatherBoxes_65 : decode c_B_gatherBoxes 65 = .ok (.iconst 1, 1) := by decide +kernel
theorem d_B_gatherBoxes_66 : decode c_B_gatherBoxes 66 = .ok (.ireturn, 1) := by decide +kernel
theorem d_B_leastFor_0 : decode c_B_leastFor 0 = .ok (.iload_n 1, 1) := by decide +kernel
theorem d_B_leastFor_1 : decode c_B_leastFor 1 = .ok (.invokestatic 35, 3) := by decide +kernel
theorem d_B_leastFor_4 : decode c_B_leastFor 4 = .ok (.iconst 1, 1) := by decide +kernel
theorem d_B_leastFor_5 : decode c_B_leastFor 5 = .ok (.isub, 1) := by decide +kernel
theorem d_B_leastFor_6 : decode c_B_leastFor 6 = .ok (.istore_n 2, 1) := by decide +kernel
theorem d_B_leastFor_7 : decode c_B_leastFor 7 = .ok (.ldc 40, 2) := by decide +kernel
theorem d_B_leastFor_9 : decode c_B_leastFor 9 = .ok (.istore_n 3, 1) := by decide +kernel
theorem d_B_leastFor_10 : decode c_B_leastFor 10 = .ok (.iconst 0, 1) := by decide +kernel
theorem d_B_leastFor_11 : decode c_B_leastFor 11 = .ok (.istore 4, 2) := by decide +kernel
theorem d_B_leastFor_13 : decode c_B_leastFor 13 = .ok (.iload 4, 2) := by decide +kernel
theorem d_B_leastFor_15 : decode c_B_leastFor 15 = .ok (.aload_n 0, 1) := by decide +kernel
theorem d_B_leastFor_16 : decode c_B_leastFor 16 = .ok (.getfield 18, 3) := by decide +kernel
theorem d_B_leastFor_19 : decode c_B_leastFor 19 = .ok (.if_icmp .ge 48, 3) := by decide +kernel
theorem d_B_leastFor_22 : decode c_B_leastFor 22 = .ok (.iconst 1, 1) := by decide +kernel
theorem d_B_leastFor_23 : decode c_B_leastFor 23 = .ok (.iload 4, 2) := by decide +kernel
theorem d_B_leastFor_25 : decode c_B_leastFor 25 = .ok (.ishl, 1) := by decide +kernel
theorem d_B_leastFor_26 : decode c_B_leastFor 26 = .ok (.istore 5, 2) := by decide +kernel
theorem d_B_leastFor_28 : decode c_B_leastFor 28 = .ok (.iload_n 1, 1) := by decide +kernel
theorem d_B_leastFor_29 : decode c_B_leastFor 29 = .ok (.iload 5, 2) := by decide +kernel
theorem d_B_leastFor_31 : decode c_B_leastFor 31 = .ok (.iand, 1) := by decide +kernel
theorem d_B_leastFor_32 : decode c_B_leastFor 32 = .ok (.ifCond .eq 29, 3) := by decide +kernel
theorem d_B_leastFor_35 : decode c_B_leastFor 35 = .ok (.iload_n 3, 1) := by decide +kernel
end
section
theorem d_B_leastFor_36 : decode c_B_leastFor 36 = .ok (.aload_n 0, 1) := by decide +kernel
theorem d_B_leastFor_37 : decode c_B_leastFor 37 = .ok (.getfield 15, 3) := by decide +kernel
theorem d_B_leastFor_40 : decode c_B_leastFor 40 = .ok (.iload_n 1, 1) := by decide +kernel
theorem d_B_leastFor_41 : decode c_B_leastFor 41 = .ok (.iload 5, 2) := by decide +kernel
theorem d_B_leastFor_43 : decode c_B_leastFor 43 = .ok (.ixor, 1) := by decide +kernel
theorem d_B_leastFor_44 : decode c_B_leastFor 44 = .ok (.iaload, 1) := by decide +kernel
theorem d_B_leastFor_45 : decode c_B_leastFor 45 = .ok (.aload_n 0, 1) := by decide +kernel
theorem d_B_leastFor_46 : decode c_B_leastFor 46 = .ok (.getfield 9, 3) := by decide +kernel
theorem d_B_leastFor_49 : decode c_B_leastFor 49 = .ok (.iload_n 2, 1) := by decide +kernel
theorem d_B_leastFor_50 : decode c_B_leastFor 50 = .ok (.iaload, 1) := by decide +kernel
theorem d_B_leastFor_51 : decode c_B_leastFor 51 = .ok (.iload 4, 2) := by decide +kernel
theorem d_B_leastFor_53 : decode c_B_leastFor 53 = .ok (.invokestatic 41, 3) := by decide +kernel
theorem d_B_leastFor_56 : decode c_B_leastFor 56 = .ok (.iadd, 1) := by decide +kernel
theorem d_B_leastFor_57 : decode c_B_leastFor 57 = .ok (.invokestatic 45, 3) := by decide +kernel
theorem d_B_leastFor_60 : decode c_B_leastFor 60 = .ok (.istore_n 3, 1) := by decide +kernel
theorem d_B_leastFor_61 : decode c_B_leastFor 61 = .ok (.iinc 4 1, 3) := by decide +kernel
theorem d_B_leastFor_64 : decode c_B_leastFor 64 = .ok (.goto (-51), 3) := by decide +kernel
theorem d_B_leastFor_67 : decode c_B_leastFor 67 = .ok (.iload_n 3, 1) := by decide +kernel
theorem d_B_leastFor_68 : decode c_B_leastFor 68 = .ok (.ireturn, 1) := by decide +kernel
theorem d_In_bitCount_0 : decode c_In_bitCount 0 = .ok (.iload_n 0, 1) := by decide +kernel
theorem d_In_bitCount_1 : decode c_In_bitCount 1 = .ok (.iload_n 0, 1) := by decide +kernel
theorem d_In_bitCount_2 : decode c_In_bitCount 2 = .ok (.iconst 1, 1) := by decide +kernel
theorem d_In_bitCount_3 : decode c_In_bitCount 3 = .ok (.iushr, 1) := by decide +kernel
theorem d_In_bitCount_4 : decode c_In_bitCount 4 = .ok (.ldc_w 265, 3) := by decide +kernel
theorem d_In_bitCount_7 : decode c_In_bitCount 7 = .ok (.iand, 1) := by decide +kernel
theorem d_In_bitCount_8 : decode c_In_bitCount 8 = .ok (.isub, 1) := by decide +kernel
theorem d_In_bitCount_9 : decode c_In_bitCount 9 = .ok (.istore_n 0, 1) := by decide +kernel
theorem d_In_bitCount_10 : decode c_In_bitCount 10 = .ok (.iload_n 0, 1) := by decide +kernel
theorem d_In_bitCount_11 : decode c_In_bitCount 11 = .ok (.ldc_w 266, 3) := by decide +kernel
theorem d_In_bitCount_14 : decode c_In_bitCount 14 = .ok (.iand, 1) := by decide +kernel
theorem d_In_bitCount_15 : decode c_In_bitCount 15 = .ok (.iload_n 0, 1) := by decide +kernel
theorem d_In_bitCount_16 : decode c_In_bitCount 16 = .ok (.iconst 2, 1) := by decide +kernel
theorem d_In_bitCount_17 : decode c_In_bitCount 17 = .ok (.iushr, 1) := by decide +kernel
theorem d_In_bitCount_18 : decode c_In_bitCount 18 = .ok (.ldc_w 266, 3) := by decide +kernel
theorem d_In_bitCount_21 : decode c_In_bitCount 21 = .ok (.iand, 1) := by decide +kernel
theorem d_In_bitCount_22 : decode c_In_bitCount 22 = .ok (.iadd, 1) := by decide +kernel
theorem d_In_bitCount_23 : decode c_In_bitCount 23 = .ok (.istore_n 0, 1) := by decide +kernel
theorem d_In_bitCount_24 : decode c_In_bitCount 24 = .ok (.iload_n 0, 1) := by decide +kernel
theorem d_In_bitCount_25 : decode c_In_bitCount 25 = .ok (.iload_n 0, 1) := by decide +kernel
theorem d_In_bitCount_26 : decode c_In_bitCount 26 = .ok (.iconst 4, 1) := by decide +kernel
theorem d_In_bitCount_27 : decode c_In_bitCount 27 = .ok (.iushr, 1) := by decide +kernel
theorem d_In_bitCount_28 : decode c_In_bitCount 28 = .ok (.iadd, 1) := by decide +kernel
theorem d_In_bitCount_29 : decode c_In_bitCount 29 = .ok (.ldc_w 267, 3) := by decide +kernel
theorem d_In_bitCount_32 : decode c_In_bitCount 32 = .ok (.iand, 1) := by decide +kernel
theorem d_In_bitCount_33 : decode c_In_bitCount 33 = .ok (.istore_n 0, 1) := by decide +kernel
theorem d_In_bitCount_34 : decode c_In_bitCount 34 = .ok (.iload_n 0, 1) := by decide +kernel
theorem d_In_bitCount_35 : decode c_In_bitCount 35 = .ok (.iload_n 0, 1) := by decide +kernel
theorem d_In_bitCount_36 : decode c_In_bitCount 36 = .ok (.bipush 8, 2) := by decide +kernel
theorem d_In_bitCount_38 : decode c_In_bitCount 38 = .ok (.iushr, 1) := by decide +kernel
theorem d_In_bitCount_39 : decode c_In_bitCount 39 = .ok (.iadd, 1) := by decide +kernel
theorem d_In_bitCount_40 : decode c_In_bitCount 40 = .ok (.istore_n 0, 1) := by decide +kernel
theorem d_In_bitCount_41 : decode c_In_bitCount 41 = .ok (.iload_n 0, 1) := by decide +kernel
theorem d_In_bitCount_42 : decode c_In_bitCount 42 = .ok (.iload_n 0, 1) := by decide +kernel
theorem d_In_bitCount_43 : decode c_In_bitCount 43 = .ok (.bipush 16, 2) := by decide +kernel
theorem d_In_bitCount_45 : decode c_In_bitCount 45 = .ok (.iushr, 1) := by decide +kernel
theorem d_In_bitCount_46 : decode c_In_bitCount 46 = .ok (.iadd, 1) := by decide +kernel
theorem d_In_bitCount_47 : decode c_In_bitCount 47 = .ok (.istore_n 0, 1) := by decide +kernel
theorem d_In_bitCount_48 : decode c_In_bitCount 48 = .ok (.iload_n 0, 1) := by decide +kernel
theorem d_In_bitCount_49 : decode c_In_bitCount 49 = .ok (.bipush 63, 2) := by decide +kernel
theorem d_In_bitCount_51 : decode c_In_bitCount 51 = .ok (.iand, 1) := by decide +kernel
theorem d_In_bitCount_52 : decode c_In_bitCount 52 = .ok (.ireturn, 1) := by decide +kernel
theorem d_L_look_0 : decode c_L_look 0 = .ok (.aload_n 3, 1) := by decide +kernel
theorem d_L_look_1 : decode c_L_look 1 = .ok (.iconst 0, 1) := by decide +kernel
theorem d_L_look_2 : decode c_L_look 2 = .ok (.aload_n 0, 1) := by decide +kernel
theorem d_L_look_3 : decode c_L_look 3 = .ok (.iload_n 1, 1) := by decide +kernel
theorem d_L_look_4 : decode c_L_look 4 = .ok (.iload_n 2, 1) := by decide +kernel
theorem d_L_look_5 : decode c_L_look 5 = .ok (.invokevirtual 35, 3) := by decide +kernel
theorem d_L_look_8 : decode c_L_look 8 = .ok (.i2l, 1) := by decide +kernel
theorem d_L_look_9 : decode c_L_look 9 = .ok (.lastore, 1) := by decide +kernel
theorem d_L_look_10 : decode c_L_look 10 = .ok (.goto 7, 3) := by decide +kernel
theorem d_L_look_13 : decode c_L_look 13 = .ok (.astore 4, 2) := by decide +kernel
theorem d_L_look_15 : decode c_L_look 15 = .ok (.iconst 1, 1) := by decide +kernel
theorem d_L_look_16 : decode c_L_look 16 = .ok (.ireturn, 1) := by decide +kernel
theorem d_L_look_17 : decode c_L_look 17 = .ok (.iconst 0, 1) := by decide +kernel
theorem d_L_look_18 : decode c_L_look 18 = .ok (.ireturn, 1) := by decide +kernel
theorem d_X_look_0 : decode c_X_look 0 = .ok (.aload_n 0, 1) := by decide +kernel
theorem d_X_look_1 : decode c_X_look 1 = .ok (.getfield 10, 3) := by decide +kernel
theorem d_X_look_4 : decode c_X_look 4 = .ok (.iload_n 1, 1) := by decide +kernel
theorem d_X_look_5 : decode c_X_look 5 = .ok (.invokevirtual 110, 3) := by decide +kernel
theorem d_X_look_8 : decode c_X_look 8 = .ok (.ifCond .ne 13, 3) := by decide +kernel
theorem d_X_look_11 : decode c_X_look 11 = .ok (.new 113, 3) := by decide +kernel
theorem d_X_look_14 : decode c_X_look 14 = .ok (.dup, 1) := by decide +kernel
theorem d_X_look_15 : decode c_X_look 15 = .ok (.ldc 115, 2) := by decide +kernel
theorem d_X_look_17 : decode c_X_look 17 = .ok (.invokespecial 117, 3) := by decide +kernel
theorem d_X_look_20 : decode c_X_look 20 = .ok (.athrow, 1) := by decide +kernel
theorem d_X_look_21 : decode c_X_look 21 = .ok (.iload_n 2, 1) := by decide +kernel
theorem d_X_look_22 : decode c_X_look 22 = .ok (.tableswitch 109 0 5 #[38, 48, 58, 68, 78, 88], 38) := by decide +kernel
theorem d_X_look_60 : decode c_X_look 60 = .ok (.aload_n 0, 1) := by decide +kernel
theorem d_X_look_61 : decode c_X_look 61 = .ok (.getfield 10, 3) := by decide +kernel
theorem d_X_look_64 : decode c_X_look 64 = .ok (.getfield 120, 3) := by decide +kernel
theorem d_X_look_67 : decode c_X_look 67 = .ok (.iload_n 1, 1) := by decide +kernel
theorem d_X_look_68 : decode c_X_look 68 = .ok (.iaload, 1) := by decide +kernel
theorem d_X_look_69 : decode c_X_look 69 = .ok (.ireturn, 1) := by decide +kernel
theorem d_X_look_70 : decode c_X_look 70 = .ok (.aload_n 0, 1) := by decide +kernel
theorem d_X_look_71 : decode c_X_look 71 = .ok (.getfield 10, 3) := by decide +kernel
theorem d_X_look_74 : decode c_X_look 74 = .ok (.getfield 123, 3) := by decide +kernel
theorem d_X_look_77 : decode c_X_look 77 = .ok (.iload_n 1, 1) := by decide +kernel
theorem d_X_look_78 : decode c_X_look 78 = .ok (.iaload, 1) := by decide +kernel
theorem d_X_look_79 : decode c_X_look 79 = .ok (.ireturn, 1) := by decide +kernel
theorem d_X_look_80 : decode c_X_look 80 = .ok (.aload_n 0, 1) := by decide +kernel
theorem d_X_look_81 : decode c_X_look 81 = .ok (.getfield 10, 3) := by decide +kernel
theorem d_X_look_84 : decode c_X_look 84 = .ok (.getfield 126, 3) := by decide +kernel
theorem d_X_look_87 : decode c_X_look 87 = .ok (.iload_n 1, 1) := by decide +kernel
theorem d_X_look_88 : decode c_X_look 88 = .ok (.iaload, 1) := by decide +kernel
theorem d_X_look_89 : decode c_X_look 89 = .ok (.ireturn, 1) := by decide +kernel
theorem d_X_look_90 : decode c_X_look 90 = .ok (.aload_n 0, 1) := by decide +kernel
theorem d_X_look_91 : decode c_X_look 91 = .ok (.getfield 10, 3) := by decide +kernel
theorem d_X_look_94 : decode c_X_look 94 = .ok (.getfield 129, 3) := by decide +kernel
theorem d_X_look_97 : decode c_X_look 97 = .ok (.iload_n 1, 1) := by decide +kernel
theorem d_X_look_98 : decode c_X_look 98 = .ok (.iaload, 1) := by decide +kernel
theorem d_X_look_99 : decode c_X_look 99 = .ok (.ireturn, 1) := by decide +kernel
theorem d_X_look_100 : decode c_X_look 100 = .ok (.aload_n 0, 1) := by decide +kernel
theorem d_X_look_101 : decode c_X_look 101 = .ok (.getfield 10, 3) := by decide +kernel
theorem d_X_look_104 : decode c_X_look 104 = .ok (.getfield 132, 3) := by decide +kernel
theorem d_X_look_107 : decode c_X_look 107 = .ok (.iload_n 1, 1) := by decide +kernel
theorem d_X_look_108 : decode c_X_look 108 = .ok (.iaload, 1) := by decide +kernel
theorem d_X_look_109 : decode c_X_look 109 = .ok (.ireturn, 1) := by decide +kernel
theorem d_X_look_110 : decode c_X_look 110 = .ok (.aload_n 0, 1) := by decide +kernel
theorem d_X_look_111 : decode c_X_look 111 = .ok (.getfield 10, 3) := by decide +kernel
theorem d_X_look_114 : decode c_X_look 114 = .ok (.iload_n 1, 1) := by decide +kernel
theorem d_X_look_115 : decode c_X_look 115 = .ok (.aload_n 0, 1) := by decide +kernel
theorem d_X_look_116 : decode c_X_look 116 = .ok (.getfield 47, 3) := by decide +kernel
theorem d_X_look_119 : decode c_X_look 119 = .ok (.invokevirtual 135, 3) := by decide +kernel
theorem d_X_look_122 : decode c_X_look 122 = .ok (.ifCond .eq 7, 3) := by decide +kernel
theorem d_X_look_125 : decode c_X_look 125 = .ok (.iconst 1, 1) := by decide +kernel
theorem d_X_look_126 : decode c_X_look 126 = .ok (.goto 4, 3) := by decide +kernel
theorem d_X_look_129 : decode c_X_look 129 = .ok (.iconst 0, 1) := by decide +kernel
theorem d_X_look_130 : decode c_X_look 130 = .ok (.ireturn, 1) := by decide +kernel
theorem d_X_look_131 : decode c_X_look 131 = .ok (.new 113, 3) := by decide +kernel
theorem d_X_look_134 : decode c_X_look 134 = .ok (.dup, 1) := by decide +kernel
theorem d_X_look_135 : decode c_X_look 135 = .ok (.ldc 139, 2) := by decide +kernel
theorem d_X_look_137 : decode c_X_look 137 = .ok (.invokespecial 117, 3) := by decide +kernel
theorem d_X_look_140 : decode c_X_look 140 = .ok (.athrow, 1) := by decide +kernel
theorem d_L_changed_0 : decode c_L_changed 0 = .ok (.aload 4, 2) := by decide +kernel
theorem d_L_changed_2 : decode c_L_changed 2 = .ok (.iconst 0, 1) := by decide +kernel
theorem d_L_changed_3 : decode c_L_changed 3 = .ok (.aload_n 0, 1) := by decide +kernel
theorem d_L_changed_4 : decode c_L_changed 4 = .ok (.iload_n 1, 1) := by decide +kernel
theorem d_L_changed_5 : decode c_L_changed 5 = .ok (.iload_n 2, 1) := by decide +kernel
theorem d_L_changed_6 : decode c_L_changed 6 = .ok (.iload_n 3, 1) := by decide +kernel
theorem d_L_changed_7 : decode c_L_changed 7 = .ok (.invokevirtual 40, 3) := by decide +kernel
theorem d_L_changed_10 : decode c_L_changed 10 = .ok (.i2l, 1) := by decide +kernel
theorem d_L_changed_11 : decode c_L_changed 11 = .ok (.lastore, 1) := by decide +kernel
theorem d_L_changed_12 : decode c_L_changed 12 = .ok (.goto 7, 3) := by decide +kernel
theorem d_L_changed_15 : decode c_L_changed 15 = .ok (.astore 5, 2) := by decide +kernel
theorem d_L_changed_17 : decode c_L_changed 17 = .ok (.iconst 1, 1) := by decide +kernel
theorem d_L_changed_18 : decode c_L_changed 18 = .ok (.ireturn, 1) := by decide +kernel
theorem d_L_changed_19 : decode c_L_changed 19 = .ok (.iconst 0, 1) := by decide +kernel
theorem d_L_changed_20 : decode c_L_changed 20 = .ok (.ireturn, 1) := by decide +kernel
theorem d_X_changed_0 : decode c_X_changed 0 = .ok (.aload_n 0, 1) := by decide +kernel
theorem d_X_changed_1 : decode c_X_changed 1 = .ok (.aload_n 0, 1) := by decide +kernel
theorem d_X_changed_2 : decode c_X_changed 2 = .ok (.getfield 26, 3) := by decide +kernel
theorem d_X_changed_5 : decode c_X_changed 5 = .ok (.iload_n 1, 1) := by decide +kernel
theorem d_X_changed_6 : decode c_X_changed 6 = .ok (.iload_n 2, 1) := by decide +kernel
theorem d_X_changed_7 : decode c_X_changed 7 = .ok (.invokevirtual 74, 3) := by decide +kernel
theorem d_X_changed_10 : decode c_X_changed 10 = .ok (.aload_n 0, 1) := by decide +kernel
theorem d_X_changed_11 : decode c_X_changed 11 = .ok (.aload_n 0, 1) := by decide +kernel
theorem d_X_changed_12 : decode c_X_changed 12 = .ok (.getfield 30, 3) := by decide +kernel
theorem d_X_changed_15 : decode c_X_changed 15 = .ok (.iload_n 1, 1) := by decide +kernel
theorem d_X_changed_16 : decode c_X_changed 16 = .ok (.iload_n 3, 1) := by decide +kernel
theorem d_X_changed_17 : decode c_X_changed 17 = .ok (.invokevirtual 74, 3) := by decide +kernel
theorem d_X_changed_20 : decode c_X_changed 20 = .ok (.aload_n 0, 1) := by decide +kernel
theorem d_X_changed_21 : decode c_X_changed 21 = .ok (.getfield 26, 3) := by decide +kernel
theorem d_X_changed_24 : decode c_X_changed 24 = .ok (.aload_n 0, 1) := by decide +kernel
theorem d_X_changed_25 : decode c_X_changed 25 = .ok (.getfield 30, 3) := by decide +kernel
theorem d_X_changed_28 : decode c_X_changed 28 = .ok (.invokevirtual 141, 3) := by decide +kernel
theorem d_X_changed_31 : decode c_X_changed 31 = .ok (.ireturn, 1) := by decide +kernel
theorem d_P_differencesFrom_0 : decode c_P_differencesFrom 0 = .ok (.iconst 0, 1) := by decide +kernel
theorem d_P_differencesFrom_1 : decode c_P_differencesFrom 1 = .ok (.istore_n 2, 1) := by decide +kernel
theorem d_P_differencesFrom_2 : decode c_P_differencesFrom 2 = .ok (.iconst 0, 1) := by decide +kernel
theorem d_P_differencesFrom_3 : decode c_P_differencesFrom 3 = .ok (.istore_n 3, 1) := by decide +kernel
theorem d_P_differencesFrom_4 : decode c_P_differencesFrom 4 = .ok (.iload_n 3, 1) := by decide +kernel
theorem d_P_differencesFrom_5 : decode c_P_differencesFrom 5 = .ok (.bipush 20, 2) := by decide +kernel
theorem d_P_differencesFrom_7 : decode c_P_differencesFrom 7 = .ok (.if_icmp .ge 27, 3) := by decide +kernel
theorem d_P_differencesFrom_10 : decode c_P_differencesFrom 10 = .ok (.aload_n 0, 1) := by decide +kernel
theorem d_P_differencesFrom_11 : decode c_P_differencesFrom 11 = .ok (.getfield 9, 3) := by decide +kernel
theorem d_P_differencesFrom_14 : decode c_P_differencesFrom 14 = .ok (.iload_n 3, 1) := by decide +kernel
theorem d_P_differencesFrom_15 : decode c_P_differencesFrom 15 = .ok (.iaload, 1) := by decide +kernel
theorem d_P_differencesFrom_16 : decode c_P_differencesFrom 16 = .ok (.aload_n 1, 1) := by decide +kernel
theorem d_P_differencesFrom_17 : decode c_P_differencesFrom 17 = .ok (.getfield 9, 3) := by decide +kernel
theorem d_P_differencesFrom_20 : decode c_P_differencesFrom 20 = .ok (.iload_n 3, 1) := by decide +kernel
theorem d_P_differencesFrom_21 : decode c_P_differencesFrom 21 = .ok (.iaload, 1) := by decide +kernel
theorem d_P_differencesFrom_22 : decode c_P_differencesFrom 22 = .ok (.if_icmp .eq 6, 3) := by decide +kernel
theorem d_P_differencesFrom_25 : decode c_P_differencesFrom 25 = .ok (.iinc 2 1, 3) := by decide +kernel
theorem d_P_differencesFrom_28 : decode c_P_differencesFrom 28 = .ok (.iinc 3 1, 3) := by decide +kernel
theorem d_P_differencesFrom_31 : decode c_P_differencesFrom 31 = .ok (.goto (-27), 3) := by decide +kernel
theorem d_P_differencesFrom_34 : decode c_P_differencesFrom 34 = .ok (.iconst 0, 1) := by decide +kernel
theorem d_P_differencesFrom_35 : decode c_P_differencesFrom 35 = .ok (.istore_n 3, 1) := by decide +kernel
theorem d_P_differencesFrom_36 : decode c_P_differencesFrom 36 = .ok (.iload_n 3, 1) := by decide +kernel
theorem d_P_differencesFrom_37 : decode c_P_differencesFrom 37 = .ok (.bipush 10, 2) := by decide +kernel
theorem d_P_differencesFrom_39 : decode c_P_differencesFrom 39 = .ok (.if_icmp .ge 42, 3) := by decide +kernel
theorem d_P_differencesFrom_42 : decode c_P_differencesFrom 42 = .ok (.aload_n 0, 1) := by decide +kernel
theorem d_P_differencesFrom_43 : decode c_P_differencesFrom 43 = .ok (.getfield 15, 3) := by decide +kernel
theorem d_P_differencesFrom_46 : decode c_P_differencesFrom 46 = .ok (.iload_n 3, 1) := by decide +kernel
theorem d_P_differencesFrom_47 : decode c_P_differencesFrom 47 = .ok (.iaload, 1) := by decide +kernel
theorem d_P_differencesFrom_48 : decode c_P_differencesFrom 48 = .ok (.aload_n 1, 1) := by decide +kernel
theorem d_P_differencesFrom_49 : decode c_P_differencesFrom 49 = .ok (.getfield 15, 3) := by decide +kernel
theorem d_P_differencesFrom_52 : decode c_P_differencesFrom 52 = .ok (.iload_n 3, 1) := by decide +kernel
theorem d_P_differencesFrom_53 : decode c_P_differencesFrom 53 = .ok (.iaload, 1) := by decide +kernel
theorem d_P_differencesFrom_54 : decode c_P_differencesFrom 54 = .ok (.if_icmp .ne 18, 3) := by decide +kernel
theorem d_P_differencesFrom_57 : decode c_P_differencesFrom 57 = .ok (.aload_n 0, 1) := by decide +kernel
theorem d_P_differencesFrom_58 : decode c_P_differencesFrom 58 = .ok (.getfield 18, 3) := by decide +kernel
theorem d_P_differencesFrom_61 : decode c_P_differencesFrom 61 = .ok (.iload_n 3, 1) := by decide +kernel
theorem d_P_differencesFrom_62 : decode c_P_differencesFrom 62 = .ok (.iaload, 1) := by decide +kernel
theorem d_P_differencesFrom_63 : decode c_P_differencesFrom 63 = .ok (.aload_n 1, 1) := by decide +kernel
theorem d_P_differencesFrom_64 : decode c_P_differencesFrom 64 = .ok (.getfield 18, 3) := by decide +kernel
theorem d_P_differencesFrom_67 : decode c_P_differencesFrom 67 = .ok (.iload_n 3, 1) := by decide +kernel
theorem d_P_differencesFrom_68 : decode c_P_differencesFrom 68 = .ok (.iaload, 1) := by decide +kernel
theorem d_P_differencesFrom_69 : decode c_P_differencesFrom 69 = .ok (.if_icmp .eq 6, 3) := by decide +kernel
theorem d_P_differencesFrom_72 : decode c_P_differencesFrom 72 = .ok (.iinc 2 1, 3) := by decide +kernel
theorem d_P_differencesFrom_75 : decode c_P_differencesFrom 75 = .ok (.iinc 3 1, 3) := by decide +kernel
theorem d_P_differencesFrom_78 : decode c_P_differencesFrom 78 = .ok (.goto (-42), 3) := by decide +kernel
theorem d_P_differencesFrom_81 : decode c_P_differencesFrom 81 = .ok (.iload_n 2, 1) := by decide +kernel
theorem d_P_differencesFrom_82 : decode c_P_differencesFrom 82 = .ok (.ireturn, 1) := by decide +kernel
theorem d_M_init_0 : decode c_M_init 0 = .ok (.aload_n 0, 1) := by decide +kernel
theorem d_M_init_1 : decode c_M_init 1 = .ok (.invokespecial 1, 3) := by decide +kernel
theorem d_M_init_4 : decode c_M_init 4 = .ok (.aload_n 0, 1) := by decide +kernel
theorem d_M_init_5 : decode c_M_init 5 = .ok (.bipush 80, 2) := by decide +kernel
theorem d_M_init_7 : decode c_M_init 7 = .ok (.newarray .int, 2) := by decide +kernel
theorem d_M_init_9 : decode c_M_init 9 = .ok (.putfield 7, 3) := by decide +kernel
theorem d_M_init_12 : decode c_M_init 12 = .ok (.aload_n 0, 1) := by decide +kernel
theorem d_M_init_13 : decode c_M_init 13 = .ok (.bipush 80, 2) := by decide +kernel
theorem d_M_init_15 : decode c_M_init 15 = .ok (.newarray .int, 2) := by decide +kernel
theorem d_M_init_17 : decode c_M_init 17 = .ok (.putfield 13, 3) := by decide +kernel
theorem d_M_init_20 : decode c_M_init 20 = .ok (.aload_n 0, 1) := by decide +kernel
theorem d_M_init_21 : decode c_M_init 21 = .ok (.bipush 80, 2) := by decide +kernel
theorem d_M_init_23 : decode c_M_init 23 = .ok (.newarray .int, 2) := by decide +kernel
theorem d_M_init_25 : decode c_M_init 25 = .ok (.putfield 16, 3) := by decide +kernel
theorem d_M_init_28 : decode c_M_init 28 = .ok (.aload_n 0, 1) := by decide +kernel
theorem d_M_init_29 : decode c_M_init 29 = .ok (.bipush 80, 2) := by decide +kernel
theorem d_M_init_31 : decode c_M_init 31 = .ok (.newarray .int, 2) := by decide +kernel
theorem d_M_init_33 : decode c_M_init 33 = .ok (.putfield 19, 3) := by decide +kernel
theorem d_M_init_36 : decode c_M_init 36 = .ok (.aload_n 0, 1) := by decide +kernel
theorem d_M_init_37 : decode c_M_init 37 = .ok (.bipush 80, 2) := by decide +kernel
theorem d_M_init_39 : decode c_M_init 39 = .ok (.newarray .int, 2) := by decide +kernel
theorem d_M_init_41 : decode c_M_init 41 = .ok (.putfield 22, 3) := by decide +kernel
theorem d_M_init_44 : decode c_M_init 44 = .ok (.aload_n 0, 1) := by decide +kernel
theorem d_M_init_45 : decode c_M_init 45 = .ok (.bipush 20, 2) := by decide +kernel
theorem d_M_init_47 : decode c_M_init 47 = .ok (.newarray .int, 2) := by decide +kernel
theorem d_M_init_49 : decode c_M_init 49 = .ok (.putfield 25, 3) := by decide +kernel
theorem d_M_init_52 : decode c_M_init 52 = .ok (.aload_n 0, 1) := by decide +kernel
theorem d_M_init_53 : decode c_M_init 53 = .ok (.bipush 10, 2) := by decide +kernel
theorem d_M_init_55 : decode c_M_init 55 = .ok (.newarray .int, 2) := by decide +kernel
theorem d_M_init_57 : decode c_M_init 57 = .ok (.putfield 28, 3) := by decide +kernel
theorem d_M_init_60 : decode c_M_init 60 = .ok (.aload_n 0, 1) := by decide +kernel
theorem d_M_init_61 : decode c_M_init 61 = .ok (.bipush 10, 2) := by decide +kernel
theorem d_M_init_63 : decode c_M_init 63 = .ok (.newarray .int, 2) := by decide +kernel
theorem d_M_init_65 : decode c_M_init 65 = .ok (.putfield 31, 3) := by decide +kernel
theorem d_M_init_68 : decode c_M_init 68 = .ok (.aload_n 0, 1) := by decide +kernel
theorem d_M_init_69 : decode c_M_init 69 = .ok (.bipush 10, 2) := by decide +kernel
theorem d_M_init_71 : decode c_M_init 71 = .ok (.newarray .int, 2) := by decide +kernel
theorem d_M_init_73 : decode c_M_init 73 = .ok (.putfield 34, 3) := by decide +kernel
theorem d_M_init_76 : decode c_M_init 76 = .ok (.aload_n 0, 1) := by decide +kernel
theorem d_M_init_77 : decode c_M_init 77 = .ok (.bipush 64, 2) := by decide +kernel
theorem d_M_init_79 : decode c_M_init 79 = .ok (.newarray .int, 2) := by decide +kernel
theorem d_M_init_81 : decode c_M_init 81 = .ok (.putfield 37, 3) := by decide +kernel
theorem d_M_init_84 : decode c_M_init 84 = .ok (.return_, 1) := by decide +kernel
theorem d_M_thrown_0 : decode c_M_thrown 0 = .ok (.aload_n 0, 1) := by decide +kernel
theorem d_M_thrown_1 : decode c_M_thrown 1 = .ok (.getfield 40, 3) := by decide +kernel
theorem d_M_thrown_4 : decode c_M_thrown 4 = .ok (.ireturn, 1) := by decide +kernel
theorem d_M_event_0 : decode c_M_event 0 = .ok (.aload_n 0, 1) := by decide +kernel
theorem d_M_event_1 : decode c_M_event 1 = .ok (.iconst 0, 1) := by decide +kernel
theorem d_M_event_2 : decode c_M_event 2 = .ok (.putfield 40, 3) := by decide +kernel
theorem d_M_event_5 : decode c_M_event 5 = .ok (.aload_n 0, 1) := by decide +kernel
theorem d_M_event_6 : decode c_M_event 6 = .ok (.iload_n 1, 1) := by decide +kernel
theorem d_M_event_7 : decode c_M_event 7 = .ok (.iload_n 2, 1) := by decide +kernel
theorem d_M_event_8 : decode c_M_event 8 = .ok (.iload_n 3, 1) := by decide +kernel
theorem d_M_event_9 : decode c_M_event 9 = .ok (.invokevirtual 53, 3) := by decide +kernel
theorem d_M_event_12 : decode c_M_event 12 = .ok (.ifCond .eq 20, 3) := by decide +kernel
theorem d_M_event_15 : decode c_M_event 15 = .ok (.iload 4, 2) := by decide +kernel
theorem d_M_event_17 : decode c_M_event 17 = .ok (.invokestatic 56, 3) := by decide +kernel
theorem d_M_event_20 : decode c_M_event 20 = .ok (.ifCond .eq 12, 3) := by decide +kernel
theorem d_M_event_23 : decode c_M_event 23 = .ok (.aload_n 0, 1) := by decide +kernel
theorem d_M_event_24 : decode c_M_event 24 = .ok (.getfield 50, 3) := by decide +kernel
theorem d_M_event_27 : decode c_M_event 27 = .ok (.bipush 80, 2) := by decide +kernel
theorem d_M_event_29 : decode c_M_event 29 = .ok (.if_icmp .ne 15, 3) := by decide +kernel
theorem d_M_event_32 : decode c_M_event 32 = .ok (.aload_n 0, 1) := by decide +kernel
theorem d_M_event_33 : decode c_M_event 33 = .ok (.dup, 1) := by decide +kernel
theorem d_M_event_34 : decode c_M_event 34 = .ok (.getfield 60, 3) := by decide +kernel
theorem d_M_event_37 : decode c_M_event 37 = .ok (.iconst 1, 1) := by decide +kernel
theorem d_M_event_38 : decode c_M_event 38 = .ok (.iadd, 1) := by decide +kernel
theorem d_M_event_39 : decode c_M_event 39 = .ok (.putfield 60, 3) := by decide +kernel
theorem d_M_event_42 : decode c_M_event 42 = .ok (.iconst (-1), 1) := by decide +kernel
theorem d_M_event_43 : decode c_M_event 43 = .ok (.ireturn, 1) := by decide +kernel
theorem d_M_event_44 : decode c_M_event 44 = .ok (.aload_n 0, 1) := by decide +kernel
theorem d_M_event_45 : decode c_M_event 45 = .ok (.getfield 7, 3) := by decide +kernel
theorem d_M_event_48 : decode c_M_event 48 = .ok (.aload_n 0, 1) := by decide +kernel
theorem d_M_event_49 : decode c_M_event 49 = .ok (.getfield 50, 3) := by decide +kernel
theorem d_M_event_52 : decode c_M_event 52 = .ok (.iload_n 1, 1) := by decide +kernel
theorem d_M_event_53 : decode c_M_event 53 = .ok (.iastore, 1) := by decide +kernel
theorem d_M_event_54 : decode c_M_event 54 = .ok (.aload_n 0, 1) := by decide +kernel
theorem d_M_event_55 : decode c_M_event 55 = .ok (.getfield 13, 3) := by decide +kernel
theorem d_M_event_58 : decode c_M_event 58 = .ok (.aload_n 0, 1) := by decide +kernel
theorem d_M_event_59 : decode c_M_event 59 = .ok (.getfield 50, 3) := by decide +kernel
theorem d_M_event_62 : decode c_M_event 62 = .ok (.iload_n 2, 1) := by decide +kernel
theorem d_M_event_63 : decode c_M_event 63 = .ok (.iastore, 1) := by decide +kernel
theorem d_M_event_64 : decode c_M_event 64 = .ok (.aload_n 0, 1) := by decide +kernel
theorem d_M_event_65 : decode c_M_event 65 = .ok (.getfield 16, 3) := by decide +kernel
theorem d_M_event_68 : decode c_M_event 68 = .ok (.aload_n 0, 1) := by decide +kernel
theorem d_M_event_69 : decode c_M_event 69 = .ok (.getfield 50, 3) := by decide +kernel
theorem d_M_event_72 : decode c_M_event 72 = .ok (.iload_n 3, 1) := by decide +kernel
theorem d_M_event_73 : decode c_M_event 73 = .ok (.iastore, 1) := by decide +kernel
theorem d_M_event_74 : decode c_M_event 74 = .ok (.aload_n 0, 1) := by decide +kernel
theorem d_M_event_75 : decode c_M_event 75 = .ok (.getfield 19, 3) := by decide +kernel
theorem d_M_event_78 : decode c_M_event 78 = .ok (.aload_n 0, 1) := by decide +kernel
theorem d_M_event_79 : decode c_M_event 79 = .ok (.getfield 50, 3) := by decide +kernel
theorem d_M_event_82 : decode c_M_event 82 = .ok (.iload 4, 2) := by decide +kernel
theorem d_M_event_84 : decode c_M_event 84 = .ok (.iastore, 1) := by decide +kernel
theorem d_M_event_85 : decode c_M_event 85 = .ok (.aload_n 0, 1) := by decide +kernel
theorem d_M_event_86 : decode c_M_event 86 = .ok (.getfield 22, 3) := by decide +kernel
theorem d_M_event_89 : decode c_M_event 89 = .ok (.aload_n 0, 1) := by decide +kernel
theorem d_M_event_90 : decode c_M_event 90 = .ok (.getfield 50, 3) := by decide +kernel
theorem d_M_event_93 : decode c_M_event 93 = .ok (.aload_n 0, 1) := by decide +kernel
theorem d_M_event_94 : decode c_M_event 94 = .ok (.getfield 63, 3) := by decide +kernel
theorem d_M_event_97 : decode c_M_event 97 = .ok (.iastore, 1) := by decide +kernel
theorem d_M_event_98 : decode c_M_event 98 = .ok (.aload_n 0, 1) := by decide +kernel
theorem d_M_event_99 : decode c_M_event 99 = .ok (.dup, 1) := by decide +kernel
theorem d_M_event_100 : decode c_M_event 100 = .ok (.getfield 50, 3) := by decide +kernel
theorem d_M_event_103 : decode c_M_event 103 = .ok (.iconst 1, 1) := by decide +kernel
theorem d_M_event_104 : decode c_M_event 104 = .ok (.iadd, 1) := by decide +kernel
theorem d_M_event_105 : decode c_M_event 105 = .ok (.putfield 50, 3) := by decide +kernel
theorem d_M_event_108 : decode c_M_event 108 = .ok (.aload_n 0, 1) := by decide +kernel
theorem d_M_event_109 : decode c_M_event 109 = .ok (.getfield 50, 3) := by decide +kernel
theorem d_M_event_112 : decode c_M_event 112 = .ok (.iconst 1, 1) := by decide +kernel
theorem d_M_event_113 : decode c_M_event 113 = .ok (.isub, 1) := by decide +kernel
theorem d_M_event_114 : decode c_M_event 114 = .ok (.ireturn, 1) := by decide +kernel
theorem d_M_fits_0 : decode c_M_fits 0 = .ok (.iload_n 1, 1) := by decide +kernel
theorem d_M_fits_1 : decode c_M_fits 1 = .ok (.tableswitch 212 0 5 #[39, 65, 85, 110, 137, 164], 39) := by decide +kernel
theorem d_M_fits_40 : decode c_M_fits 40 = .ok (.iload_n 2, 1) := by decide +kernel
theorem d_M_fits_41 : decode c_M_fits 41 = .ok (.iconst 0, 1) := by decide +kernel
theorem d_M_fits_42 : decode c_M_fits 42 = .ok (.bipush 19, 2) := by decide +kernel
theorem d_M_fits_44 : decode c_M_fits 44 = .ok (.invokestatic 44, 3) := by decide +kernel
theorem d_M_fits_47 : decode c_M_fits 47 = .ok (.ifCond .eq 17, 3) := by decide +kernel
theorem d_M_fits_50 : decode c_M_fits 50 = .ok (.iload_n 3, 1) := by decide +kernel
theorem d_M_fits_51 : decode c_M_fits 51 = .ok (.iconst 0, 1) := by decide +kernel
theorem d_M_fits_52 : decode c_M_fits 52 = .ok (.bipush 99, 2) := by decide +kernel
theorem d_M_fits_54 : decode c_M_fits 54 = .ok (.invokestatic 44, 3) := by decide +kernel
theorem d_M_fits_57 : decode c_M_fits 57 = .ok (.ifCond .eq 7, 3) := by decide +kernel
theorem d_M_fits_60 : decode c_M_fits 60 = .ok (.iconst 1, 1) := by decide +kernel
theorem d_M_fits_61 : decode c_M_fits 61 = .ok (.goto 4, 3) := by decide +kernel
theorem d_M_fits_64 : decode c_M_fits 64 = .ok (.iconst 0, 1) := by decide +kernel
theorem d_M_fits_65 : decode c_M_fits 65 = .ok (.ireturn, 1) := by decide +kernel
theorem d_M_fits_66 : decode c_M_fits 66 = .ok (.iload_n 2, 1) := by decide +kernel
theorem d_M_fits_67 : decode c_M_fits 67 = .ok (.iconst 0, 1) := by decide +kernel
theorem d_M_fits_68 : decode c_M_fits 68 = .ok (.bipush 19, 2) := by decide +kernel
theorem d_M_fits_70 : decode c_M_fits 70 = .ok (.invokestatic 44, 3) := by decide +kernel
theorem d_M_fits_73 : decode c_M_fits 73 = .ok (.ifCond .eq 11, 3) := by decide +kernel
theorem d_M_fits_76 : decode c_M_fits 76 = .ok (.iload_n 3, 1) := by decide +kernel
theorem d_M_fits_77 : decode c_M_fits 77 = .ok (.ifCond .ne 7, 3) := by decide +kernel
theorem d_M_fits_80 : decode c_M_fits 80 = .ok (.iconst 1, 1) := by decide +kernel
theorem d_M_fits_81 : decode c_M_fits 81 = .ok (.goto 4, 3) := by decide +kernel
theorem d_M_fits_84 : decode c_M_fits 84 = .ok (.iconst 0, 1) := by decide +kernel
theorem d_M_fits_85 : decode c_M_fits 85 = .ok (.ireturn, 1) := by decide +kernel
theorem d_M_fits_86 : decode c_M_fits 86 = .ok (.iload_n 2, 1) := by decide +kernel
theorem d_M_fits_87 : decode c_M_fits 87 = .ok (.iconst 0, 1) := by decide +kernel
theorem d_M_fits_88 : decode c_M_fits 88 = .ok (.bipush 9, 2) := by decide +kernel
theorem d_M_fits_90 : decode c_M_fits 90 = .ok (.invokestatic 44, 3) := by decide +kernel
theorem d_M_fits_93 : decode c_M_fits 93 = .ok (.ifCond .eq 16, 3) := by decide +kernel
theorem d_M_fits_96 : decode c_M_fits 96 = .ok (.iload_n 3, 1) := by decide +kernel
theorem d_M_fits_97 : decode c_M_fits 97 = .ok (.iconst 0, 1) := by decide +kernel
theorem d_M_fits_98 : decode c_M_fits 98 = .ok (.iconst 5, 1) := by decide +kernel
theorem d_M_fits_99 : decode c_M_fits 99 = .ok (.invokestatic 44, 3) := by decide +kernel
theorem d_M_fits_102 : decode c_M_fits 102 = .ok (.ifCond .eq 7, 3) := by decide +kernel
theorem d_M_fits_105 : decode c_M_fits 105 = .ok (.iconst 1, 1) := by decide +kernel
theorem d_M_fits_106 : decode c_M_fits 106 = .ok (.goto 4, 3) := by decide +kernel
theorem d_M_fits_109 : decode c_M_fits 109 = .ok (.iconst 0, 1) := by decide +kernel
theorem d_M_fits_110 : decode c_M_fits 110 = .ok (.ireturn, 1) := by decide +kernel
theorem d_M_fits_111 : decode c_M_fits 111 = .ok (.iload_n 2, 1) := by decide +kernel
theorem d_M_fits_112 : decode c_M_fits 112 = .ok (.iconst 0, 1) := by decide +kernel
theorem d_M_fits_113 : decode c_M_fits 113 = .ok (.bipush 9, 2) := by decide +kernel
theorem d_M_fits_115 : decode c_M_fits 115 = .ok (.invokestatic 44, 3) := by decide +kernel
theorem d_M_fits_118 : decode c_M_fits 118 = .ok (.ifCond .eq 18, 3) := by decide +kernel
theorem d_M_fits_121 : decode c_M_fits 121 = .ok (.iload_n 3, 1) := by decide +kernel
theorem d_M_fits_122 : decode c_M_fits 122 = .ok (.ldc 48, 2) := by decide +kernel
theorem d_M_fits_124 : decode c_M_fits 124 = .ok (.ldc 49, 2) := by decide +kernel
theorem d_M_fits_126 : decode c_M_fits 126 = .ok (.invokestatic 44, 3) := by decide +kernel
theorem d_M_fits_129 : decode c_M_fits 129 = .ok (.ifCond .eq 7, 3) := by decide +kernel
theorem d_M_fits_132 : decode c_M_fits 132 = .ok (.iconst 1, 1) := by decide +kernel
theorem d_M_fits_133 : decode c_M_fits 133 = .ok (.goto 4, 3) := by decide +kernel
theorem d_M_fits_136 : decode c_M_fits 136 = .ok (.iconst 0, 1) := by decide +kernel
theorem d_M_fits_137 : decode c_M_fits 137 = .ok (.ireturn, 1) := by decide +kernel
theorem d_M_fits_138 : decode c_M_fits 138 = .ok (.iload_n 2, 1) := by decide +kernel
theorem d_M_fits_139 : decode c_M_fits 139 = .ok (.iconst 0, 1) := by decide +kernel
theorem d_M_fits_140 : decode c_M_fits 140 = .ok (.bipush 9, 2) := by decide +kernel
theorem d_M_fits_142 : decode c_M_fits 142 = .ok (.invokestatic 44, 3) := by decide +kernel
theorem d_M_fits_145 : decode c_M_fits 145 = .ok (.ifCond .eq 18, 3) := by decide +kernel
theorem d_M_fits_148 : decode c_M_fits 148 = .ok (.iload_n 3, 1) := by decide +kernel
theorem d_M_fits_149 : decode c_M_fits 149 = .ok (.iconst 1, 1) := by decide +kernel
theorem d_M_fits_150 : decode c_M_fits 150 = .ok (.sipush 1000, 3) := by decide +kernel
theorem d_M_fits_153 : decode c_M_fits 153 = .ok (.invokestatic 44, 3) := by decide +kernel
theorem d_M_fits_156 : decode c_M_fits 156 = .ok (.ifCond .eq 7, 3) := by decide +kernel
theorem d_M_fits_159 : decode c_M_fits 159 = .ok (.iconst 1, 1) := by decide +kernel
theorem d_M_fits_160 : decode c_M_fits 160 = .ok (.goto 4, 3) := by decide +kernel
theorem d_M_fits_163 : decode c_M_fits 163 = .ok (.iconst 0, 1) := by decide +kernel
theorem d_M_fits_164 : decode c_M_fits 164 = .ok (.ireturn, 1) := by decide +kernel
theorem d_M_fits_165 : decode c_M_fits 165 = .ok (.iload_n 2, 1) := by decide +kernel
theorem d_M_fits_166 : decode c_M_fits 166 = .ok (.ifCond .lt 45, 3) := by decide +kernel
theorem d_M_fits_169 : decode c_M_fits 169 = .ok (.iload_n 2, 1) := by decide +kernel
theorem d_M_fits_170 : decode c_M_fits 170 = .ok (.aload_n 0, 1) := by decide +kernel
theorem d_M_fits_171 : decode c_M_fits 171 = .ok (.getfield 50, 3) := by decide +kernel
theorem d_M_fits_174 : decode c_M_fits 174 = .ok (.if_icmp .ge 37, 3) := by decide +kernel
theorem d_M_fits_177 : decode c_M_fits 177 = .ok (.aload_n 0, 1) := by decide +kernel
theorem d_M_fits_178 : decode c_M_fits 178 = .ok (.getfield 7, 3) := by decide +kernel
theorem d_M_fits_181 : decode c_M_fits 181 = .ok (.iload_n 2, 1) := by decide +kernel
theorem d_M_fits_182 : decode c_M_fits 182 = .ok (.ifCond .lt 15, 3) := by decide +kernel
theorem d_M_fits_185 : decode c_M_fits 185 = .ok (.iload_n 2, 1) := by decide +kernel
theorem d_M_fits_186 : decode c_M_fits 186 = .ok (.aload_n 0, 1) := by decide +kernel
theorem d_M_fits_187 : decode c_M_fits 187 = .ok (.getfield 50, 3) := by decide +kernel
theorem d_M_fits_190 : decode c_M_fits 190 = .ok (.if_icmp .ge 7, 3) := by decide +kernel
theorem d_M_fits_193 : decode c_M_fits 193 = .ok (.iload_n 2, 1) := by decide +kernel
theorem d_M_fits_194 : decode c_M_fits 194 = .ok (.goto 4, 3) := by decide +kernel
theorem d_M_fits_197 : decode c_M_fits 197 = .ok (.iconst 0, 1) := by decide +kernel
theorem d_M_fits_198 : decode c_M_fits 198 = .ok (.iaload, 1) := by decide +kernel
theorem d_M_fits_199 : decode c_M_fits 199 = .ok (.iconst 5, 1) := by decide +kernel
theorem d_M_fits_200 : decode c_M_fits 200 = .ok (.if_icmp .eq 11, 3) := by decide +kernel
theorem d_M_fits_203 : decode c_M_fits 203 = .ok (.iload_n 3, 1) := by decide +kernel
theorem d_M_fits_204 : decode c_M_fits 204 = .ok (.ifCond .ne 7, 3) := by decide +kernel
theorem d_M_fits_207 : decode c_M_fits 207 = .ok (.iconst 1, 1) := by decide +kernel
theorem d_M_fits_208 : decode c_M_fits 208 = .ok (.goto 4, 3) := by decide +kernel
theorem d_M_fits_211 : decode c_M_fits 211 = .ok (.iconst 0, 1) := by decide +kernel
theorem d_M_fits_212 : decode c_M_fits 212 = .ok (.ireturn, 1) := by decide +kernel
end
section
theorem d_M_fits_213 : decode c_M_fits 213 = .ok (.iconst 0, 1) := by decide +kernel
theorem d_M_fits_214 : decode c_M_fits 214 = .ok (.ireturn, 1) := by decide +kernel
theorem d_M_in_0 : decode c_M_in 0 = .ok (.iload_n 0, 1) := by decide +kernel
theorem d_M_in_1 : decode c_M_in 1 = .ok (.iload_n 1, 1) := by decide +kernel
theorem d_M_in_2 : decode c_M_in 2 = .ok (.if_icmp .lt 12, 3) := by decide +kernel
theorem d_M_in_5 : decode c_M_in 5 = .ok (.iload_n 0, 1) := by decide +kernel
theorem d_M_in_6 : decode c_M_in 6 = .ok (.iload_n 2, 1) := by decide +kernel
theorem d_M_in_7 : decode c_M_in 7 = .ok (.if_icmp .gt 7, 3) := by decide +kernel
theorem d_M_in_10 : decode c_M_in 10 = .ok (.iconst 1, 1) := by decide +kernel
theorem d_M_in_11 : decode c_M_in 11 = .ok (.goto 4, 3) := by decide +kernel
theorem d_M_in_14 : decode c_M_in 14 = .ok (.iconst 0, 1) := by decide +kernel
theorem d_M_in_15 : decode c_M_in 15 = .ok (.ireturn, 1) := by decide +kernel
theorem d_M_isTime_0 : decode c_M_isTime 0 = .ok (.iload_n 0, 1) := by decide +kernel
theorem d_M_isTime_1 : decode c_M_isTime 1 = .ok (.ifCond .lt 14, 3) := by decide +kernel
theorem d_M_isTime_4 : decode c_M_isTime 4 = .ok (.iload_n 0, 1) := by decide +kernel
theorem d_M_isTime_5 : decode c_M_isTime 5 = .ok (.sipush 10000, 3) := by decide +kernel
theorem d_M_isTime_8 : decode c_M_isTime 8 = .ok (.if_icmp .gt 7, 3) := by decide +kernel
theorem d_M_isTime_11 : decode c_M_isTime 11 = .ok (.iconst 1, 1) := by decide +kernel
theorem d_M_isTime_12 : decode c_M_isTime 12 = .ok (.goto 4, 3) := by decide +kernel
theorem d_M_isTime_15 : decode c_M_isTime 15 = .ok (.iconst 0, 1) := by decide +kernel
theorem d_M_isTime_16 : decode c_M_isTime 16 = .ok (.ireturn, 1) := by decide +kernel
theorem d_M_known_0 : decode c_M_known 0 = .ok (.aload_n 0, 1) := by decide +kernel
theorem d_M_known_1 : decode c_M_known 1 = .ok (.iconst 0, 1) := by decide +kernel
theorem d_M_known_2 : decode c_M_known 2 = .ok (.putfield 40, 3) := by decide +kernel
theorem d_M_known_5 : decode c_M_known 5 = .ok (.iload_n 1, 1) := by decide +kernel
theorem d_M_known_6 : decode c_M_known 6 = .ok (.aload_n 0, 1) := by decide +kernel
theorem d_M_known_7 : decode c_M_known 7 = .ok (.getfield 63, 3) := by decide +kernel
theorem d_M_known_10 : decode c_M_known 10 = .ok (.sipush 10000, 3) := by decide +kernel
theorem d_M_known_13 : decode c_M_known 13 = .ok (.invokestatic 44, 3) := by decide +kernel
theorem d_M_known_16 : decode c_M_known 16 = .ok (.ifCond .ne 15, 3) := by decide +kernel
theorem d_M_known_19 : decode c_M_known 19 = .ok (.aload_n 0, 1) := by decide +kernel
theorem d_M_known_20 : decode c_M_known 20 = .ok (.dup, 1) := by decide +kernel
theorem d_M_known_21 : decode c_M_known 21 = .ok (.getfield 60, 3) := by decide +kernel
theorem d_M_known_24 : decode c_M_known 24 = .ok (.iconst 1, 1) := by decide +kernel
theorem d_M_known_25 : decode c_M_known 25 = .ok (.iadd, 1) := by decide +kernel
theorem d_M_known_26 : decode c_M_known 26 = .ok (.putfield 60, 3) := by decide +kernel
theorem d_M_known_29 : decode c_M_known 29 = .ok (.iconst 0, 1) := by decide +kernel
theorem d_M_known_30 : decode c_M_known 30 = .ok (.ireturn, 1) := by decide +kernel
theorem d_M_known_31 : decode c_M_known 31 = .ok (.aload_n 0, 1) := by decide +kernel
theorem d_M_known_32 : decode c_M_known 32 = .ok (.iload_n 1, 1) := by decide +kernel
theorem d_M_known_33 : decode c_M_known 33 = .ok (.putfield 63, 3) := by decide +kernel
theorem d_M_known_36 : decode c_M_known 36 = .ok (.iconst 1, 1) := by decide +kernel
theorem d_M_known_37 : decode c_M_known 37 = .ok (.ireturn, 1) := by decide +kernel
theorem d_M_place_0 : decode c_M_place 0 = .ok (.aload_n 0, 1) := by decide +kernel
theorem d_M_place_1 : decode c_M_place 1 = .ok (.iload_n 1, 1) := by decide +kernel
theorem d_M_place_2 : decode c_M_place 2 = .ok (.iconst 0, 1) := by decide +kernel
theorem d_M_place_3 : decode c_M_place 3 = .ok (.bipush 19, 2) := by decide +kernel
theorem d_M_place_5 : decode c_M_place 5 = .ok (.invokestatic 44, 3) := by decide +kernel
theorem d_M_place_8 : decode c_M_place 8 = .ok (.iload_n 2, 1) := by decide +kernel
theorem d_M_place_9 : decode c_M_place 9 = .ok (.iload_n 3, 1) := by decide +kernel
theorem d_M_place_10 : decode c_M_place 10 = .ok (.invokevirtual 88, 3) := by decide +kernel
theorem d_M_place_13 : decode c_M_place 13 = .ok (.ifCond .ne 5, 3) := by decide +kernel
theorem d_M_place_16 : decode c_M_place 16 = .ok (.iconst 0, 1) := by decide +kernel
theorem d_M_place_17 : decode c_M_place 17 = .ok (.ireturn, 1) := by decide +kernel
theorem d_M_place_18 : decode c_M_place 18 = .ok (.aload_n 0, 1) := by decide +kernel
theorem d_M_place_19 : decode c_M_place 19 = .ok (.iload_n 2, 1) := by decide +kernel
theorem d_M_place_20 : decode c_M_place 20 = .ok (.iload_n 3, 1) := by decide +kernel
theorem d_M_place_21 : decode c_M_place 21 = .ok (.invokevirtual 92, 3) := by decide +kernel
theorem d_M_place_24 : decode c_M_place 24 = .ok (.aload_n 0, 1) := by decide +kernel
theorem d_M_place_25 : decode c_M_place 25 = .ok (.getfield 25, 3) := by decide +kernel
theorem d_M_place_28 : decode c_M_place 28 = .ok (.iload_n 1, 1) := by decide +kernel
theorem d_M_place_29 : decode c_M_place 29 = .ok (.iaload, 1) := by decide +kernel
theorem d_M_place_30 : decode c_M_place 30 = .ok (.ireturn, 1) := by decide +kernel
theorem d_M_isAsked_0 : decode c_M_isAsked 0 = .ok (.aload_n 0, 1) := by decide +kernel
theorem d_M_isAsked_1 : decode c_M_isAsked 1 = .ok (.iload_n 1, 1) := by decide +kernel
theorem d_M_isAsked_2 : decode c_M_isAsked 2 = .ok (.ifCond .eq 21, 3) := by decide +kernel
theorem d_M_isAsked_5 : decode c_M_isAsked 5 = .ok (.iload_n 2, 1) := by decide +kernel
theorem d_M_isAsked_6 : decode c_M_isAsked 6 = .ok (.invokestatic 56, 3) := by decide +kernel
theorem d_M_isAsked_9 : decode c_M_isAsked 9 = .ok (.ifCond .eq 14, 3) := by decide +kernel
theorem d_M_isAsked_12 : decode c_M_isAsked 12 = .ok (.iload_n 3, 1) := by decide +kernel
theorem d_M_isAsked_13 : decode c_M_isAsked 13 = .ok (.invokestatic 56, 3) := by decide +kernel
theorem d_M_isAsked_16 : decode c_M_isAsked 16 = .ok (.ifCond .eq 7, 3) := by decide +kernel
theorem d_M_isAsked_19 : decode c_M_isAsked 19 = .ok (.iconst 0, 1) := by decide +kernel
theorem d_M_isAsked_20 : decode c_M_isAsked 20 = .ok (.goto 4, 3) := by decide +kernel
theorem d_M_isAsked_23 : decode c_M_isAsked 23 = .ok (.iconst 1, 1) := by decide +kernel
theorem d_M_isAsked_24 : decode c_M_isAsked 24 = .ok (.putfield 40, 3) := by decide +kernel
theorem d_M_isAsked_27 : decode c_M_isAsked 27 = .ok (.aload_n 0, 1) := by decide +kernel
theorem d_M_isAsked_28 : decode c_M_isAsked 28 = .ok (.getfield 40, 3) := by decide +kernel
theorem d_M_isAsked_31 : decode c_M_isAsked 31 = .ok (.ifCond .ne 7, 3) := by decide +kernel
theorem d_M_isAsked_34 : decode c_M_isAsked 34 = .ok (.iconst 1, 1) := by decide +kernel
theorem d_M_isAsked_35 : decode c_M_isAsked 35 = .ok (.goto 4, 3) := by decide +kernel
theorem d_M_isAsked_38 : decode c_M_isAsked 38 = .ok (.iconst 0, 1) := by decide +kernel
theorem d_M_isAsked_39 : decode c_M_isAsked 39 = .ok (.ireturn, 1) := by decide +kernel
theorem d_M_finds_0 : decode c_M_finds 0 = .ok (.iconst 0, 1) := by decide +kernel
theorem d_M_finds_1 : decode c_M_finds 1 = .ok (.istore_n 3, 1) := by decide +kernel
theorem d_M_finds_2 : decode c_M_finds 2 = .ok (.iload_n 3, 1) := by decide +kernel
theorem d_M_finds_3 : decode c_M_finds 3 = .ok (.bipush 20, 2) := by decide +kernel
theorem d_M_finds_5 : decode c_M_finds 5 = .ok (.if_icmp .ge 16, 3) := by decide +kernel
theorem d_M_finds_8 : decode c_M_finds 8 = .ok (.aload_n 0, 1) := by decide +kernel
theorem d_M_finds_9 : decode c_M_finds 9 = .ok (.getfield 25, 3) := by decide +kernel
theorem d_M_finds_12 : decode c_M_finds 12 = .ok (.iload_n 3, 1) := by decide +kernel
theorem d_M_finds_13 : decode c_M_finds 13 = .ok (.iconst (-1), 1) := by decide +kernel
theorem d_M_finds_14 : decode c_M_finds 14 = .ok (.iastore, 1) := by decide +kernel
theorem d_M_finds_15 : decode c_M_finds 15 = .ok (.iinc 3 1, 3) := by decide +kernel
theorem d_M_finds_18 : decode c_M_finds 18 = .ok (.goto (-16), 3) := by decide +kernel
theorem d_M_finds_21 : decode c_M_finds 21 = .ok (.iconst 0, 1) := by decide +kernel
theorem d_M_finds_22 : decode c_M_finds 22 = .ok (.istore_n 3, 1) := by decide +kernel
theorem d_M_finds_23 : decode c_M_finds 23 = .ok (.iload_n 3, 1) := by decide +kernel
theorem d_M_finds_24 : decode c_M_finds 24 = .ok (.bipush 10, 2) := by decide +kernel
theorem d_M_finds_26 : decode c_M_finds 26 = .ok (.if_icmp .ge 23, 3) := by decide +kernel
theorem d_M_finds_29 : decode c_M_finds 29 = .ok (.aload_n 0, 1) := by decide +kernel
theorem d_M_finds_30 : decode c_M_finds 30 = .ok (.getfield 28, 3) := by decide +kernel
theorem d_M_finds_33 : decode c_M_finds 33 = .ok (.iload_n 3, 1) := by decide +kernel
theorem d_M_finds_34 : decode c_M_finds 34 = .ok (.iconst 0, 1) := by decide +kernel
theorem d_M_finds_35 : decode c_M_finds 35 = .ok (.iastore, 1) := by decide +kernel
theorem d_M_finds_36 : decode c_M_finds 36 = .ok (.aload_n 0, 1) := by decide +kernel
theorem d_M_finds_37 : decode c_M_finds 37 = .ok (.getfield 31, 3) := by decide +kernel
theorem d_M_finds_40 : decode c_M_finds 40 = .ok (.iload_n 3, 1) := by decide +kernel
theorem d_M_finds_41 : decode c_M_finds 41 = .ok (.iconst 0, 1) := by decide +kernel
theorem d_M_finds_42 : decode c_M_finds 42 = .ok (.iastore, 1) := by decide +kernel
theorem d_M_finds_43 : decode c_M_finds 43 = .ok (.iinc 3 1, 3) := by decide +kernel
theorem d_M_finds_46 : decode c_M_finds 46 = .ok (.goto (-23), 3) := by decide +kernel
theorem d_M_finds_49 : decode c_M_finds 49 = .ok (.aload_n 0, 1) := by decide +kernel
theorem d_M_finds_50 : decode c_M_finds 50 = .ok (.iconst (-1), 1) := by decide +kernel
theorem d_M_finds_51 : decode c_M_finds 51 = .ok (.iload_n 1, 1) := by decide +kernel
theorem d_M_finds_52 : decode c_M_finds 52 = .ok (.iload_n 2, 1) := by decide +kernel
theorem d_M_finds_53 : decode c_M_finds 53 = .ok (.invokevirtual 80, 3) := by decide +kernel
theorem d_M_finds_56 : decode c_M_finds 56 = .ok (.istore_n 3, 1) := by decide +kernel
theorem d_M_finds_57 : decode c_M_finds 57 = .ok (.iload_n 3, 1) := by decide +kernel
theorem d_M_finds_58 : decode c_M_finds 58 = .ok (.ifCond .lt 23, 3) := by decide +kernel
theorem d_M_finds_61 : decode c_M_finds 61 = .ok (.aload_n 0, 1) := by decide +kernel
theorem d_M_finds_62 : decode c_M_finds 62 = .ok (.iload_n 3, 1) := by decide +kernel
theorem d_M_finds_63 : decode c_M_finds 63 = .ok (.invokevirtual 84, 3) := by decide +kernel
theorem d_M_finds_66 : decode c_M_finds 66 = .ok (.aload_n 0, 1) := by decide +kernel
theorem d_M_finds_67 : decode c_M_finds 67 = .ok (.aload_n 0, 1) := by decide +kernel
theorem d_M_finds_68 : decode c_M_finds 68 = .ok (.iload_n 3, 1) := by decide +kernel
theorem d_M_finds_69 : decode c_M_finds 69 = .ok (.invokevirtual 73, 3) := by decide +kernel
theorem d_M_finds_72 : decode c_M_finds 72 = .ok (.iload_n 1, 1) := by decide +kernel
theorem d_M_finds_73 : decode c_M_finds 73 = .ok (.iload_n 2, 1) := by decide +kernel
theorem d_M_finds_74 : decode c_M_finds 74 = .ok (.invokevirtual 80, 3) := by decide +kernel
theorem d_M_finds_77 : decode c_M_finds 77 = .ok (.istore_n 3, 1) := by decide +kernel
theorem d_M_finds_78 : decode c_M_finds 78 = .ok (.goto (-21), 3) := by decide +kernel
theorem d_M_finds_81 : decode c_M_finds 81 = .ok (.return_, 1) := by decide +kernel
theorem d_M_next_0 : decode c_M_next 0 = .ok (.iconst (-1), 1) := by decide +kernel
theorem d_M_next_1 : decode c_M_next 1 = .ok (.istore 4, 2) := by decide +kernel
theorem d_M_next_3 : decode c_M_next 3 = .ok (.iconst 0, 1) := by decide +kernel
theorem d_M_next_4 : decode c_M_next 4 = .ok (.istore 5, 2) := by decide +kernel
theorem d_M_next_6 : decode c_M_next 6 = .ok (.iload 5, 2) := by decide +kernel
theorem d_M_next_8 : decode c_M_next 8 = .ok (.aload_n 0, 1) := by decide +kernel
theorem d_M_next_9 : decode c_M_next 9 = .ok (.getfield 50, 3) := by decide +kernel
theorem d_M_next_12 : decode c_M_next 12 = .ok (.if_icmp .ge 73, 3) := by decide +kernel
theorem d_M_next_15 : decode c_M_next 15 = .ok (.iload 4, 2) := by decide +kernel
theorem d_M_next_17 : decode c_M_next 17 = .ok (.ifCond .ge 8, 3) := by decide +kernel
theorem d_M_next_20 : decode c_M_next 20 = .ok (.iload 5, 2) := by decide +kernel
theorem d_M_next_22 : decode c_M_next 22 = .ok (.goto 5, 3) := by decide +kernel
theorem d_M_next_25 : decode c_M_next 25 = .ok (.iload 4, 2) := by decide +kernel
theorem d_M_next_27 : decode c_M_next 27 = .ok (.istore 6, 2) := by decide +kernel
theorem d_M_next_29 : decode c_M_next 29 = .ok (.aload_n 0, 1) := by decide +kernel
theorem d_M_next_30 : decode c_M_next 30 = .ok (.iload 5, 2) := by decide +kernel
theorem d_M_next_32 : decode c_M_next 32 = .ok (.iload_n 2, 1) := by decide +kernel
theorem d_M_next_33 : decode c_M_next 33 = .ok (.iload_n 3, 1) := by decide +kernel
theorem d_M_next_34 : decode c_M_next 34 = .ok (.invokevirtual 70, 3) := by decide +kernel
theorem d_M_next_37 : decode c_M_next 37 = .ok (.ifCond .eq 38, 3) := by decide +kernel
theorem d_M_next_40 : decode c_M_next 40 = .ok (.aload_n 0, 1) := by decide +kernel
theorem d_M_next_41 : decode c_M_next 41 = .ok (.iload 5, 2) := by decide +kernel
theorem d_M_next_43 : decode c_M_next 43 = .ok (.invokevirtual 73, 3) := by decide +kernel
theorem d_M_next_46 : decode c_M_next 46 = .ok (.iload_n 1, 1) := by decide +kernel
theorem d_M_next_47 : decode c_M_next 47 = .ok (.if_icmp .le 28, 3) := by decide +kernel
theorem d_M_next_50 : decode c_M_next 50 = .ok (.iload 4, 2) := by decide +kernel
theorem d_M_next_52 : decode c_M_next 52 = .ok (.ifCond .lt 18, 3) := by decide +kernel
theorem d_M_next_55 : decode c_M_next 55 = .ok (.aload_n 0, 1) := by decide +kernel
theorem d_M_next_56 : decode c_M_next 56 = .ok (.iload 5, 2) := by decide +kernel
theorem d_M_next_58 : decode c_M_next 58 = .ok (.invokevirtual 73, 3) := by decide +kernel
theorem d_M_next_61 : decode c_M_next 61 = .ok (.aload_n 0, 1) := by decide +kernel
theorem d_M_next_62 : decode c_M_next 62 = .ok (.iload 6, 2) := by decide +kernel
theorem d_M_next_64 : decode c_M_next 64 = .ok (.invokevirtual 73, 3) := by decide +kernel
theorem d_M_next_67 : decode c_M_next 67 = .ok (.if_icmp .ge 8, 3) := by decide +kernel
theorem d_M_next_70 : decode c_M_next 70 = .ok (.iload 5, 2) := by decide +kernel
theorem d_M_next_72 : decode c_M_next 72 = .ok (.goto 5, 3) := by decide +kernel
theorem d_M_next_75 : decode c_M_next 75 = .ok (.iload 4, 2) := by decide +kernel
theorem d_M_next_77 : decode c_M_next 77 = .ok (.istore 4, 2) := by decide +kernel
theorem d_M_next_79 : decode c_M_next 79 = .ok (.iinc 5 1, 3) := by decide +kernel
theorem d_M_next_82 : decode c_M_next 82 = .ok (.goto (-76), 3) := by decide +kernel
theorem d_M_next_85 : decode c_M_next 85 = .ok (.iload 4, 2) := by decide +kernel
theorem d_M_next_87 : decode c_M_next 87 = .ok (.ireturn, 1) := by decide +kernel
theorem d_M_counts_0 : decode c_M_counts 0 = .ok (.aload_n 0, 1) := by decide +kernel
theorem d_M_counts_1 : decode c_M_counts 1 = .ok (.getfield 7, 3) := by decide +kernel
theorem d_M_counts_4 : decode c_M_counts 4 = .ok (.iload_n 1, 1) := by decide +kernel
theorem d_M_counts_5 : decode c_M_counts 5 = .ok (.iaload, 1) := by decide +kernel
theorem d_M_counts_6 : decode c_M_counts 6 = .ok (.iconst 5, 1) := by decide +kernel
theorem d_M_counts_7 : decode c_M_counts 7 = .ok (.if_icmp .eq 36, 3) := by decide +kernel
theorem d_M_counts_10 : decode c_M_counts 10 = .ok (.aload_n 0, 1) := by decide +kernel
theorem d_M_counts_11 : decode c_M_counts 11 = .ok (.getfield 19, 3) := by decide +kernel
theorem d_M_counts_14 : decode c_M_counts 14 = .ok (.iload_n 1, 1) := by decide +kernel
theorem d_M_counts_15 : decode c_M_counts 15 = .ok (.iaload, 1) := by decide +kernel
theorem d_M_counts_16 : decode c_M_counts 16 = .ok (.iload_n 2, 1) := by decide +kernel
theorem d_M_counts_17 : decode c_M_counts 17 = .ok (.if_icmp .gt 26, 3) := by decide +kernel
theorem d_M_counts_20 : decode c_M_counts 20 = .ok (.aload_n 0, 1) := by decide +kernel
theorem d_M_counts_21 : decode c_M_counts 21 = .ok (.getfield 22, 3) := by decide +kernel
theorem d_M_counts_24 : decode c_M_counts 24 = .ok (.iload_n 1, 1) := by decide +kernel
theorem d_M_counts_25 : decode c_M_counts 25 = .ok (.iaload, 1) := by decide +kernel
theorem d_M_counts_26 : decode c_M_counts 26 = .ok (.iload_n 3, 1) := by decide +kernel
theorem d_M_counts_27 : decode c_M_counts 27 = .ok (.if_icmp .gt 16, 3) := by decide +kernel
theorem d_M_counts_30 : decode c_M_counts 30 = .ok (.aload_n 0, 1) := by decide +kernel
theorem d_M_counts_31 : decode c_M_counts 31 = .ok (.iload_n 1, 1) := by decide +kernel
theorem d_M_counts_32 : decode c_M_counts 32 = .ok (.iload_n 3, 1) := by decide +kernel
theorem d_M_counts_33 : decode c_M_counts 33 = .ok (.invokevirtual 66, 3) := by decide +kernel
theorem d_M_counts_36 : decode c_M_counts 36 = .ok (.ifCond .ne 7, 3) := by decide +kernel
theorem d_M_counts_39 : decode c_M_counts 39 = .ok (.iconst 1, 1) := by decide +kernel
theorem d_M_counts_40 : decode c_M_counts 40 = .ok (.goto 4, 3) := by decide +kernel
theorem d_M_counts_43 : decode c_M_counts 43 = .ok (.iconst 0, 1) := by decide +kernel
theorem d_M_counts_44 : decode c_M_counts 44 = .ok (.ireturn, 1) := by decide +kernel
theorem d_M_isVoid_0 : decode c_M_isVoid 0 = .ok (.iconst 0, 1) := by decide +kernel
theorem d_M_isVoid_1 : decode c_M_isVoid 1 = .ok (.istore_n 3, 1) := by decide +kernel
theorem d_M_isVoid_2 : decode c_M_isVoid 2 = .ok (.iconst 0, 1) := by decide +kernel
theorem d_M_isVoid_3 : decode c_M_isVoid 3 = .ok (.istore 4, 2) := by decide +kernel
theorem d_M_isVoid_5 : decode c_M_isVoid 5 = .ok (.iload 4, 2) := by decide +kernel
theorem d_M_isVoid_7 : decode c_M_isVoid 7 = .ok (.aload_n 0, 1) := by decide +kernel
theorem d_M_isVoid_8 : decode c_M_isVoid 8 = .ok (.getfield 50, 3) := by decide +kernel
theorem d_M_isVoid_11 : decode c_M_isVoid 11 = .ok (.if_icmp .ge 52, 3) := by decide +kernel
theorem d_M_isVoid_14 : decode c_M_isVoid 14 = .ok (.iload_n 3, 1) := by decide +kernel
theorem d_M_isVoid_15 : decode c_M_isVoid 15 = .ok (.ifCond .ne 36, 3) := by decide +kernel
theorem d_M_isVoid_18 : decode c_M_isVoid 18 = .ok (.aload_n 0, 1) := by decide +kernel
theorem d_M_isVoid_19 : decode c_M_isVoid 19 = .ok (.getfield 7, 3) := by decide +kernel
theorem d_M_isVoid_22 : decode c_M_isVoid 22 = .ok (.iload 4, 2) := by decide +kernel
theorem d_M_isVoid_24 : decode c_M_isVoid 24 = .ok (.iaload, 1) := by decide +kernel
theorem d_M_isVoid_25 : decode c_M_isVoid 25 = .ok (.iconst 5, 1) := by decide +kernel
theorem d_M_isVoid_26 : decode c_M_isVoid 26 = .ok (.if_icmp .ne 29, 3) := by decide +kernel
theorem d_M_isVoid_29 : decode c_M_isVoid 29 = .ok (.aload_n 0, 1) := by decide +kernel
theorem d_M_isVoid_30 : decode c_M_isVoid 30 = .ok (.getfield 13, 3) := by decide +kernel
theorem d_M_isVoid_33 : decode c_M_isVoid 33 = .ok (.iload 4, 2) := by decide +kernel
theorem d_M_isVoid_35 : decode c_M_isVoid 35 = .ok (.iaload, 1) := by decide +kernel
theorem d_M_isVoid_36 : decode c_M_isVoid 36 = .ok (.iload_n 1, 1) := by decide +kernel
theorem d_M_isVoid_37 : decode c_M_isVoid 37 = .ok (.if_icmp .ne 18, 3) := by decide +kernel
theorem d_M_isVoid_40 : decode c_M_isVoid 40 = .ok (.aload_n 0, 1) := by decide +kernel
theorem d_M_isVoid_41 : decode c_M_isVoid 41 = .ok (.getfield 22, 3) := by decide +kernel
theorem d_M_isVoid_44 : decode c_M_isVoid 44 = .ok (.iload 4, 2) := by decide +kernel
theorem d_M_isVoid_46 : decode c_M_isVoid 46 = .ok (.iaload, 1) := by decide +kernel
theorem d_M_isVoid_47 : decode c_M_isVoid 47 = .ok (.iload_n 2, 1) := by decide +kernel
theorem d_M_isVoid_48 : decode c_M_isVoid 48 = .ok (.if_icmp .gt 7, 3) := by decide +kernel
theorem d_M_isVoid_51 : decode c_M_isVoid 51 = .ok (.iconst 1, 1) := by decide +kernel
theorem d_M_isVoid_52 : decode c_M_isVoid 52 = .ok (.goto 4, 3) := by decide +kernel
theorem d_M_isVoid_55 : decode c_M_isVoid 55 = .ok (.iconst 0, 1) := by decide +kernel
theorem d_M_isVoid_56 : decode c_M_isVoid 56 = .ok (.istore_n 3, 1) := by decide +kernel
theorem d_M_isVoid_57 : decode c_M_isVoid 57 = .ok (.iinc 4 1, 3) := by decide +kernel
theorem d_M_isVoid_60 : decode c_M_isVoid 60 = .ok (.goto (-55), 3) := by decide +kernel
theorem d_M_isVoid_63 : decode c_M_isVoid 63 = .ok (.iload_n 3, 1) := by decide +kernel
theorem d_M_isVoid_64 : decode c_M_isVoid 64 = .ok (.ireturn, 1) := by decide +kernel
theorem d_M_order_0 : decode c_M_order 0 = .ok (.aload_n 0, 1) := by decide +kernel
theorem d_M_order_1 : decode c_M_order 1 = .ok (.getfield 19, 3) := by decide +kernel
theorem d_M_order_4 : decode c_M_order 4 = .ok (.iload_n 1, 1) := by decide +kernel
theorem d_M_order_5 : decode c_M_order 5 = .ok (.iaload, 1) := by decide +kernel
theorem d_M_order_6 : decode c_M_order 6 = .ok (.bipush 8, 2) := by decide +kernel
theorem d_M_order_8 : decode c_M_order 8 = .ok (.imul, 1) := by decide +kernel
theorem d_M_order_9 : decode c_M_order 9 = .ok (.aload_n 0, 1) := by decide +kernel
theorem d_M_order_10 : decode c_M_order 10 = .ok (.getfield 7, 3) := by decide +kernel
theorem d_M_order_13 : decode c_M_order 13 = .ok (.iload_n 1, 1) := by decide +kernel
theorem d_M_order_14 : decode c_M_order 14 = .ok (.iaload, 1) := by decide +kernel
theorem d_M_order_15 : decode c_M_order 15 = .ok (.iadd, 1) := by decide +kernel
theorem d_M_order_16 : decode c_M_order 16 = .ok (.sipush 128, 3) := by decide +kernel
theorem d_M_order_19 : decode c_M_order 19 = .ok (.imul, 1) := by decide +kernel
theorem d_M_order_20 : decode c_M_order 20 = .ok (.iload_n 1, 1) := by decide +kernel
theorem d_M_order_21 : decode c_M_order 21 = .ok (.iadd, 1) := by decide +kernel
theorem d_M_order_22 : decode c_M_order 22 = .ok (.ireturn, 1) := by decide +kernel
theorem d_M_holds_0 : decode c_M_holds 0 = .ok (.aload_n 0, 1) := by decide +kernel
theorem d_M_holds_1 : decode c_M_holds 1 = .ok (.getfield 13, 3) := by decide +kernel
theorem d_M_holds_4 : decode c_M_holds 4 = .ok (.iload_n 1, 1) := by decide +kernel
theorem d_M_holds_5 : decode c_M_holds 5 = .ok (.iaload, 1) := by decide +kernel
theorem d_M_holds_6 : decode c_M_holds 6 = .ok (.istore_n 2, 1) := by decide +kernel
theorem d_M_holds_7 : decode c_M_holds 7 = .ok (.aload_n 0, 1) := by decide +kernel
theorem d_M_holds_8 : decode c_M_holds 8 = .ok (.getfield 16, 3) := by decide +kernel
theorem d_M_holds_11 : decode c_M_holds 11 = .ok (.iload_n 1, 1) := by decide +kernel
theorem d_M_holds_12 : decode c_M_holds 12 = .ok (.iaload, 1) := by decide +kernel
theorem d_M_holds_13 : decode c_M_holds 13 = .ok (.istore_n 3, 1) := by decide +kernel
theorem d_M_holds_14 : decode c_M_holds 14 = .ok (.aload_n 0, 1) := by decide +kernel
theorem d_M_holds_15 : decode c_M_holds 15 = .ok (.getfield 7, 3) := by decide +kernel
theorem d_M_holds_18 : decode c_M_holds 18 = .ok (.iload_n 1, 1) := by decide +kernel
theorem d_M_holds_19 : decode c_M_holds 19 = .ok (.iaload, 1) := by decide +kernel
theorem d_M_holds_20 : decode c_M_holds 20 = .ok (.tableswitch 111 0 3 #[32, 59, 69, 98], 32) := by decide +kernel
theorem d_M_holds_52 : decode c_M_holds 52 = .ok (.aload_n 0, 1) := by decide +kernel
theorem d_M_holds_53 : decode c_M_holds 53 = .ok (.getfield 25, 3) := by decide +kernel
theorem d_M_holds_56 : decode c_M_holds 56 = .ok (.iload_n 2, 1) := by decide +kernel
theorem d_M_holds_57 : decode c_M_holds 57 = .ok (.aload_n 0, 1) := by decide +kernel
theorem d_M_holds_58 : decode c_M_holds 58 = .ok (.iload_n 3, 1) := by decide +kernel
theorem d_M_holds_59 : decode c_M_holds 59 = .ok (.invokevirtual 77, 3) := by decide +kernel
theorem d_M_holds_62 : decode c_M_holds 62 = .ok (.ifCond .ge 7, 3) := by decide +kernel
theorem d_M_holds_65 : decode c_M_holds 65 = .ok (.iload_n 3, 1) := by decide +kernel
theorem d_M_holds_66 : decode c_M_holds 66 = .ok (.goto 9, 3) := by decide +kernel
theorem d_M_holds_69 : decode c_M_holds 69 = .ok (.aload_n 0, 1) := by decide +kernel
theorem d_M_holds_70 : decode c_M_holds 70 = .ok (.getfield 25, 3) := by decide +kernel
theorem d_M_holds_73 : decode c_M_holds 73 = .ok (.iload_n 2, 1) := by decide +kernel
theorem d_M_holds_74 : decode c_M_holds 74 = .ok (.iaload, 1) := by decide +kernel
theorem d_M_holds_75 : decode c_M_holds 75 = .ok (.iastore, 1) := by decide +kernel
theorem d_M_holds_76 : decode c_M_holds 76 = .ok (.goto 55, 3) := by decide +kernel
theorem d_M_holds_79 : decode c_M_holds 79 = .ok (.aload_n 0, 1) := by decide +kernel
theorem d_M_holds_80 : decode c_M_holds 80 = .ok (.getfield 25, 3) := by decide +kernel
theorem d_M_holds_83 : decode c_M_holds 83 = .ok (.iload_n 2, 1) := by decide +kernel
theorem d_M_holds_84 : decode c_M_holds 84 = .ok (.iconst (-1), 1) := by decide +kernel
theorem d_M_holds_85 : decode c_M_holds 85 = .ok (.iastore, 1) := by decide +kernel
theorem d_M_holds_86 : decode c_M_holds 86 = .ok (.goto 45, 3) := by decide +kernel
theorem d_M_holds_89 : decode c_M_holds 89 = .ok (.aload_n 0, 1) := by decide +kernel
theorem d_M_holds_90 : decode c_M_holds 90 = .ok (.getfield 28, 3) := by decide +kernel
theorem d_M_holds_93 : decode c_M_holds 93 = .ok (.iload_n 2, 1) := by decide +kernel
theorem d_M_holds_94 : decode c_M_holds 94 = .ok (.iload_n 3, 1) := by decide +kernel
theorem d_M_holds_95 : decode c_M_holds 95 = .ok (.aload_n 0, 1) := by decide +kernel
theorem d_M_holds_96 : decode c_M_holds 96 = .ok (.getfield 28, 3) := by decide +kernel
theorem d_M_holds_99 : decode c_M_holds 99 = .ok (.iload_n 2, 1) := by decide +kernel
theorem d_M_holds_100 : decode c_M_holds 100 = .ok (.iaload, 1) := by decide +kernel
theorem d_M_holds_101 : decode c_M_holds 101 = .ok (.if_icmp .le 7, 3) := by decide +kernel
theorem d_M_holds_104 : decode c_M_holds 104 = .ok (.iload_n 3, 1) := by decide +kernel
theorem d_M_holds_105 : decode c_M_holds 105 = .ok (.goto 9, 3) := by decide +kernel
theorem d_M_holds_108 : decode c_M_holds 108 = .ok (.aload_n 0, 1) := by decide +kernel
theorem d_M_holds_109 : decode c_M_holds 109 = .ok (.getfield 28, 3) := by decide +kernel
theorem d_M_holds_112 : decode c_M_holds 112 = .ok (.iload_n 2, 1) := by decide +kernel
theorem d_M_holds_113 : decode c_M_holds 113 = .ok (.iaload, 1) := by decide +kernel
theorem d_M_holds_114 : decode c_M_holds 114 = .ok (.iastore, 1) := by decide +kernel
theorem d_M_holds_115 : decode c_M_holds 115 = .ok (.goto 16, 3) := by decide +kernel
theorem d_M_holds_118 : decode c_M_holds 118 = .ok (.aload_n 0, 1) := by decide +kernel
theorem d_M_holds_119 : decode c_M_holds 119 = .ok (.getfield 31, 3) := by decide +kernel
theorem d_M_holds_122 : decode c_M_holds 122 = .ok (.iload_n 2, 1) := by decide +kernel
theorem d_M_holds_123 : decode c_M_holds 123 = .ok (.dup2, 1) := by decide +kernel
theorem d_M_holds_124 : decode c_M_holds 124 = .ok (.iaload, 1) := by decide +kernel
theorem d_M_holds_125 : decode c_M_holds 125 = .ok (.iload_n 3, 1) := by decide +kernel
theorem d_M_holds_126 : decode c_M_holds 126 = .ok (.iadd, 1) := by decide +kernel
theorem d_M_holds_127 : decode c_M_holds 127 = .ok (.iastore, 1) := by decide +kernel
theorem d_M_holds_128 : decode c_M_holds 128 = .ok (.goto 3, 3) := by decide +kernel
theorem d_M_holds_131 : decode c_M_holds 131 = .ok (.return_, 1) := by decide +kernel
theorem d_M_boxAt_0 : decode c_M_boxAt 0 = .ok (.iconst (-1), 1) := by decide +kernel
theorem d_M_boxAt_1 : decode c_M_boxAt 1 = .ok (.istore_n 2, 1) := by decide +kernel
theorem d_M_boxAt_2 : decode c_M_boxAt 2 = .ok (.iconst 0, 1) := by decide +kernel
theorem d_M_boxAt_3 : decode c_M_boxAt 3 = .ok (.istore_n 3, 1) := by decide +kernel
theorem d_M_boxAt_4 : decode c_M_boxAt 4 = .ok (.iload_n 3, 1) := by decide +kernel
theorem d_M_boxAt_5 : decode c_M_boxAt 5 = .ok (.bipush 20, 2) := by decide +kernel
theorem d_M_boxAt_7 : decode c_M_boxAt 7 = .ok (.if_icmp .ge 25, 3) := by decide +kernel
theorem d_M_boxAt_10 : decode c_M_boxAt 10 = .ok (.aload_n 0, 1) := by decide +kernel
theorem d_M_boxAt_11 : decode c_M_boxAt 11 = .ok (.getfield 25, 3) := by decide +kernel
theorem d_M_boxAt_14 : decode c_M_boxAt 14 = .ok (.iload_n 3, 1) := by decide +kernel
theorem d_M_boxAt_15 : decode c_M_boxAt 15 = .ok (.iaload, 1) := by decide +kernel
theorem d_M_boxAt_16 : decode c_M_boxAt 16 = .ok (.iload_n 1, 1) := by decide +kernel
theorem d_M_boxAt_17 : decode c_M_boxAt 17 = .ok (.if_icmp .ne 7, 3) := by decide +kernel
theorem d_M_boxAt_20 : decode c_M_boxAt 20 = .ok (.iload_n 3, 1) := by decide +kernel
theorem d_M_boxAt_21 : decode c_M_boxAt 21 = .ok (.goto 4, 3) := by decide +kernel
theorem d_M_boxAt_24 : decode c_M_boxAt 24 = .ok (.iload_n 2, 1) := by decide +kernel
theorem d_M_boxAt_25 : decode c_M_boxAt 25 = .ok (.istore_n 2, 1) := by decide +kernel
theorem d_M_boxAt_26 : decode c_M_boxAt 26 = .ok (.iinc 3 1, 3) := by decide +kernel
theorem d_M_boxAt_29 : decode c_M_boxAt 29 = .ok (.goto (-25), 3) := by decide +kernel
theorem d_M_boxAt_32 : decode c_M_boxAt 32 = .ok (.iload_n 2, 1) := by decide +kernel
theorem d_M_boxAt_33 : decode c_M_boxAt 33 = .ok (.ireturn, 1) := by decide +kernel
theorem d_M_at_0 : decode c_M_at 0 = .ok (.aload_n 0, 1) := by decide +kernel
theorem d_M_at_1 : decode c_M_at 1 = .ok (.iload_n 1, 1) := by decide +kernel
theorem d_M_at_2 : decode c_M_at 2 = .ok (.iconst 0, 1) := by decide +kernel
theorem d_M_at_3 : decode c_M_at 3 = .ok (.bipush 99, 2) := by decide +kernel
theorem d_M_at_5 : decode c_M_at 5 = .ok (.invokestatic 44, 3) := by decide +kernel
theorem d_M_at_8 : decode c_M_at 8 = .ok (.iload_n 2, 1) := by decide +kernel
theorem d_M_at_9 : decode c_M_at 9 = .ok (.iload_n 3, 1) := by decide +kernel
theorem d_M_at_10 : decode c_M_at 10 = .ok (.invokevirtual 88, 3) := by decide +kernel
theorem d_M_at_13 : decode c_M_at 13 = .ok (.ifCond .ne 5, 3) := by decide +kernel
theorem d_M_at_16 : decode c_M_at 16 = .ok (.iconst 0, 1) := by decide +kernel
theorem d_M_at_17 : decode c_M_at 17 = .ok (.ireturn, 1) := by decide +kernel
theorem d_M_at_18 : decode c_M_at 18 = .ok (.aload_n 0, 1) := by decide +kernel
theorem d_M_at_19 : decode c_M_at 19 = .ok (.iload_n 2, 1) := by decide +kernel
theorem d_M_at_20 : decode c_M_at 20 = .ok (.iload_n 3, 1) := by decide +kernel
theorem d_M_at_21 : decode c_M_at 21 = .ok (.invokevirtual 92, 3) := by decide +kernel
theorem d_M_at_24 : decode c_M_at 24 = .ok (.aload_n 0, 1) := by decide +kernel
theorem d_M_at_25 : decode c_M_at 25 = .ok (.iload_n 1, 1) := by decide +kernel
theorem d_M_at_26 : decode c_M_at 26 = .ok (.invokevirtual 77, 3) := by decide +kernel
theorem d_M_at_29 : decode c_M_at 29 = .ok (.ireturn, 1) := by decide +kernel
theorem d_M_state_0 : decode c_M_state 0 = .ok (.aload_n 0, 1) := by decide +kernel
theorem d_M_state_1 : decode c_M_state 1 = .ok (.iload_n 1, 1) := by decide +kernel
theorem d_M_state_2 : decode c_M_state 2 = .ok (.iconst 0, 1) := by decide +kernel
theorem d_M_state_3 : decode c_M_state 3 = .ok (.bipush 9, 2) := by decide +kernel
theorem d_M_state_5 : decode c_M_state 5 = .ok (.invokestatic 44, 3) := by decide +kernel
theorem d_M_state_8 : decode c_M_state 8 = .ok (.iload_n 2, 1) := by decide +kernel
theorem d_M_state_9 : decode c_M_state 9 = .ok (.iload_n 3, 1) := by decide +kernel
theorem d_M_state_10 : decode c_M_state 10 = .ok (.invokevirtual 88, 3) := by decide +kernel
theorem d_M_state_13 : decode c_M_state 13 = .ok (.ifCond .ne 5, 3) := by decide +kernel
theorem d_M_state_16 : decode c_M_state 16 = .ok (.iconst 0, 1) := by decide +kernel
theorem d_M_state_17 : decode c_M_state 17 = .ok (.ireturn, 1) := by decide +kernel
theorem d_M_state_18 : decode c_M_state 18 = .ok (.aload_n 0, 1) := by decide +kernel
theorem d_M_state_19 : decode c_M_state 19 = .ok (.iload_n 2, 1) := by decide +kernel
theorem d_M_state_20 : decode c_M_state 20 = .ok (.iload_n 3, 1) := by decide +kernel
theorem d_M_state_21 : decode c_M_state 21 = .ok (.invokevirtual 92, 3) := by decide +kernel
theorem d_M_state_24 : decode c_M_state 24 = .ok (.aload_n 0, 1) := by decide +kernel
theorem d_M_state_25 : decode c_M_state 25 = .ok (.getfield 28, 3) := by decide +kernel
theorem d_M_state_28 : decode c_M_state 28 = .ok (.iload_n 1, 1) := by decide +kernel
theorem d_M_state_29 : decode c_M_state 29 = .ok (.iaload, 1) := by decide +kernel
theorem d_M_state_30 : decode c_M_state 30 = .ok (.ireturn, 1) := by decide +kernel
theorem d_M_sum_0 : decode c_M_sum 0 = .ok (.aload_n 0, 1) := by decide +kernel
theorem d_M_sum_1 : decode c_M_sum 1 = .ok (.iload_n 1, 1) := by decide +kernel
theorem d_M_sum_2 : decode c_M_sum 2 = .ok (.iconst 0, 1) := by decide +kernel
theorem d_M_sum_3 : decode c_M_sum 3 = .ok (.bipush 9, 2) := by decide +kernel
theorem d_M_sum_5 : decode c_M_sum 5 = .ok (.invokestatic 44, 3) := by decide +kernel
theorem d_M_sum_8 : decode c_M_sum 8 = .ok (.iload_n 2, 1) := by decide +kernel
theorem d_M_sum_9 : decode c_M_sum 9 = .ok (.iload_n 3, 1) := by decide +kernel
theorem d_M_sum_10 : decode c_M_sum 10 = .ok (.invokevirtual 88, 3) := by decide +kernel
theorem d_M_sum_13 : decode c_M_sum 13 = .ok (.ifCond .ne 5, 3) := by decide +kernel
theorem d_M_sum_16 : decode c_M_sum 16 = .ok (.iconst 0, 1) := by decide +kernel
theorem d_M_sum_17 : decode c_M_sum 17 = .ok (.ireturn, 1) := by decide +kernel
theorem d_M_sum_18 : decode c_M_sum 18 = .ok (.aload_n 0, 1) := by decide +kernel
theorem d_M_sum_19 : decode c_M_sum 19 = .ok (.iload_n 2, 1) := by decide +kernel
theorem d_M_sum_20 : decode c_M_sum 20 = .ok (.iload_n 3, 1) := by decide +kernel
theorem d_M_sum_21 : decode c_M_sum 21 = .ok (.invokevirtual 92, 3) := by decide +kernel
theorem d_M_sum_24 : decode c_M_sum 24 = .ok (.aload_n 0, 1) := by decide +kernel
theorem d_M_sum_25 : decode c_M_sum 25 = .ok (.getfield 31, 3) := by decide +kernel
theorem d_M_sum_28 : decode c_M_sum 28 = .ok (.iload_n 1, 1) := by decide +kernel
theorem d_M_sum_29 : decode c_M_sum 29 = .ok (.iaload, 1) := by decide +kernel
theorem d_M_sum_30 : decode c_M_sum 30 = .ok (.ireturn, 1) := by decide +kernel
theorem d_M_quota_0 : decode c_M_quota 0 = .ok (.aload_n 0, 1) := by decide +kernel
theorem d_M_quota_1 : decode c_M_quota 1 = .ok (.iload_n 1, 1) := by decide +kernel
theorem d_M_quota_2 : decode c_M_quota 2 = .ok (.iconst 0, 1) := by decide +kernel
theorem d_M_quota_3 : decode c_M_quota 3 = .ok (.bipush 9, 2) := by decide +kernel
theorem d_M_quota_5 : decode c_M_quota 5 = .ok (.invokestatic 44, 3) := by decide +kernel
theorem d_M_quota_8 : decode c_M_quota 8 = .ok (.iload_n 2, 1) := by decide +kernel
theorem d_M_quota_9 : decode c_M_quota 9 = .ok (.iload_n 3, 1) := by decide +kernel
theorem d_M_quota_10 : decode c_M_quota 10 = .ok (.invokevirtual 88, 3) := by decide +kernel
theorem d_M_quota_13 : decode c_M_quota 13 = .ok (.ifCond .ne 5, 3) := by decide +kernel
theorem d_M_quota_16 : decode c_M_quota 16 = .ok (.iconst 0, 1) := by decide +kernel
theorem d_M_quota_17 : decode c_M_quota 17 = .ok (.ireturn, 1) := by decide +kernel
theorem d_M_quota_18 : decode c_M_quota 18 = .ok (.iconst 0, 1) := by decide +kernel
theorem d_M_quota_19 : decode c_M_quota 19 = .ok (.istore 4, 2) := by decide +kernel
theorem d_M_quota_21 : decode c_M_quota 21 = .ok (.iload 4, 2) := by decide +kernel
theorem d_M_quota_23 : decode c_M_quota 23 = .ok (.bipush 10, 2) := by decide +kernel
theorem d_M_quota_25 : decode c_M_quota 25 = .ok (.if_icmp .ge 17, 3) := by decide +kernel
theorem d_M_quota_28 : decode c_M_quota 28 = .ok (.aload_n 0, 1) := by decide +kernel
theorem d_M_quota_29 : decode c_M_quota 29 = .ok (.getfield 34, 3) := by decide +kernel
theorem d_M_quota_32 : decode c_M_quota 32 = .ok (.iload 4, 2) := by decide +kernel
theorem d_M_quota_34 : decode c_M_quota 34 = .ok (.iconst 0, 1) := by decide +kernel
theorem d_M_quota_35 : decode c_M_quota 35 = .ok (.iastore, 1) := by decide +kernel
theorem d_M_quota_36 : decode c_M_quota 36 = .ok (.iinc 4 1, 3) := by decide +kernel
theorem d_M_quota_39 : decode c_M_quota 39 = .ok (.goto (-18), 3) := by decide +kernel
end
section
theorem d_M_quota_42 : decode c_M_quota 42 = .ok (.sipush 1000, 3) := by decide +kernel
theorem d_M_quota_45 : decode c_M_quota 45 = .ok (.istore 4, 2) := by decide +kernel
theorem d_M_quota_47 : decode c_M_quota 47 = .ok (.aload_n 0, 1) := by decide +kernel
theorem d_M_quota_48 : decode c_M_quota 48 = .ok (.iconst (-1), 1) := by decide +kernel
theorem d_M_quota_49 : decode c_M_quota 49 = .ok (.iload_n 2, 1) := by decide +kernel
theorem d_M_quota_50 : decode c_M_quota 50 = .ok (.iload_n 3, 1) := by decide +kernel
theorem d_M_quota_51 : decode c_M_quota 51 = .ok (.invokevirtual 80, 3) := by decide +kernel
theorem d_M_quota_54 : decode c_M_quota 54 = .ok (.istore 5, 2) := by decide +kernel
theorem d_M_quota_56 : decode c_M_quota 56 = .ok (.iconst (-1), 1) := by decide +kernel
theorem d_M_quota_57 : decode c_M_quota 57 = .ok (.istore 6, 2) := by decide +kernel
theorem d_M_quota_59 : decode c_M_quota 59 = .ok (.iload 5, 2) := by decide +kernel
theorem d_M_quota_61 : decode c_M_quota 61 = .ok (.ifCond .lt 64, 3) := by decide +kernel
theorem d_M_quota_64 : decode c_M_quota 64 = .ok (.aload_n 0, 1) := by decide +kernel
theorem d_M_quota_65 : decode c_M_quota 65 = .ok (.getfield 7, 3) := by decide +kernel
theorem d_M_quota_68 : decode c_M_quota 68 = .ok (.iload 5, 2) := by decide +kernel
theorem d_M_quota_70 : decode c_M_quota 70 = .ok (.iaload, 1) := by decide +kernel
theorem d_M_quota_71 : decode c_M_quota 71 = .ok (.iconst 4, 1) := by decide +kernel
theorem d_M_quota_72 : decode c_M_quota 72 = .ok (.if_icmp .ne 36, 3) := by decide +kernel
theorem d_M_quota_75 : decode c_M_quota 75 = .ok (.aload_n 0, 1) := by decide +kernel
theorem d_M_quota_76 : decode c_M_quota 76 = .ok (.getfield 19, 3) := by decide +kernel
theorem d_M_quota_79 : decode c_M_quota 79 = .ok (.iload 5, 2) := by decide +kernel
theorem d_M_quota_81 : decode c_M_quota 81 = .ok (.iaload, 1) := by decide +kernel
theorem d_M_quota_82 : decode c_M_quota 82 = .ok (.iload 6, 2) := by decide +kernel
theorem d_M_quota_84 : decode c_M_quota 84 = .ok (.if_icmp .eq 24, 3) := by decide +kernel
theorem d_M_quota_87 : decode c_M_quota 87 = .ok (.aload_n 0, 1) := by decide +kernel
theorem d_M_quota_88 : decode c_M_quota 88 = .ok (.getfield 19, 3) := by decide +kernel
theorem d_M_quota_91 : decode c_M_quota 91 = .ok (.iload 5, 2) := by decide +kernel
theorem d_M_quota_93 : decode c_M_quota 93 = .ok (.iaload, 1) := by decide +kernel
theorem d_M_quota_94 : decode c_M_quota 94 = .ok (.istore 6, 2) := by decide +kernel
theorem d_M_quota_96 : decode c_M_quota 96 = .ok (.aload_n 0, 1) := by decide +kernel
theorem d_M_quota_97 : decode c_M_quota 97 = .ok (.iload 6, 2) := by decide +kernel
theorem d_M_quota_99 : decode c_M_quota 99 = .ok (.iload 4, 2) := by decide +kernel
theorem d_M_quota_101 : decode c_M_quota 101 = .ok (.iload_n 2, 1) := by decide +kernel
theorem d_M_quota_102 : decode c_M_quota 102 = .ok (.iload_n 3, 1) := by decide +kernel
theorem d_M_quota_103 : decode c_M_quota 103 = .ok (.invokevirtual 100, 3) := by decide +kernel
theorem d_M_quota_106 : decode c_M_quota 106 = .ok (.istore 4, 2) := by decide +kernel
theorem d_M_quota_108 : decode c_M_quota 108 = .ok (.aload_n 0, 1) := by decide +kernel
theorem d_M_quota_109 : decode c_M_quota 109 = .ok (.aload_n 0, 1) := by decide +kernel
theorem d_M_quota_110 : decode c_M_quota 110 = .ok (.iload 5, 2) := by decide +kernel
theorem d_M_quota_112 : decode c_M_quota 112 = .ok (.invokevirtual 73, 3) := by decide +kernel
theorem d_M_quota_115 : decode c_M_quota 115 = .ok (.iload_n 2, 1) := by decide +kernel
theorem d_M_quota_116 : decode c_M_quota 116 = .ok (.iload_n 3, 1) := by decide +kernel
theorem d_M_quota_117 : decode c_M_quota 117 = .ok (.invokevirtual 80, 3) := by decide +kernel
theorem d_M_quota_120 : decode c_M_quota 120 = .ok (.istore 5, 2) := by decide +kernel
theorem d_M_quota_122 : decode c_M_quota 122 = .ok (.goto (-63), 3) := by decide +kernel
theorem d_M_quota_125 : decode c_M_quota 125 = .ok (.aload_n 0, 1) := by decide +kernel
theorem d_M_quota_126 : decode c_M_quota 126 = .ok (.getfield 34, 3) := by decide +kernel
theorem d_M_quota_129 : decode c_M_quota 129 = .ok (.iload_n 1, 1) := by decide +kernel
theorem d_M_quota_130 : decode c_M_quota 130 = .ok (.iaload, 1) := by decide +kernel
theorem d_M_quota_131 : decode c_M_quota 131 = .ok (.ireturn, 1) := by decide +kernel
theorem d_M_serves_0 : decode c_M_serves 0 = .ok (.iconst 0, 1) := by decide +kernel
theorem d_M_serves_1 : decode c_M_serves 1 = .ok (.istore 5, 2) := by decide +kernel
theorem d_M_serves_3 : decode c_M_serves 3 = .ok (.iconst 0, 1) := by decide +kernel
theorem d_M_serves_4 : decode c_M_serves 4 = .ok (.istore 6, 2) := by decide +kernel
theorem d_M_serves_6 : decode c_M_serves 6 = .ok (.iload 6, 2) := by decide +kernel
theorem d_M_serves_8 : decode c_M_serves 8 = .ok (.aload_n 0, 1) := by decide +kernel
theorem d_M_serves_9 : decode c_M_serves 9 = .ok (.getfield 50, 3) := by decide +kernel
theorem d_M_serves_12 : decode c_M_serves 12 = .ok (.if_icmp .ge 38, 3) := by decide +kernel
theorem d_M_serves_15 : decode c_M_serves 15 = .ok (.iload 5, 2) := by decide +kernel
theorem d_M_serves_17 : decode c_M_serves 17 = .ok (.aload_n 0, 1) := by decide +kernel
theorem d_M_serves_18 : decode c_M_serves 18 = .ok (.iload 6, 2) := by decide +kernel
theorem d_M_serves_20 : decode c_M_serves 20 = .ok (.iload_n 1, 1) := by decide +kernel
theorem d_M_serves_21 : decode c_M_serves 21 = .ok (.iload_n 3, 1) := by decide +kernel
theorem d_M_serves_22 : decode c_M_serves 22 = .ok (.iload 4, 2) := by decide +kernel
theorem d_M_serves_24 : decode c_M_serves 24 = .ok (.invokevirtual 96, 3) := by decide +kernel
theorem d_M_serves_27 : decode c_M_serves 27 = .ok (.ifCond .eq 13, 3) := by decide +kernel
theorem d_M_serves_30 : decode c_M_serves 30 = .ok (.aload_n 0, 1) := by decide +kernel
theorem d_M_serves_31 : decode c_M_serves 31 = .ok (.getfield 16, 3) := by decide +kernel
theorem d_M_serves_34 : decode c_M_serves 34 = .ok (.iload 6, 2) := by decide +kernel
theorem d_M_serves_36 : decode c_M_serves 36 = .ok (.iaload, 1) := by decide +kernel
theorem d_M_serves_37 : decode c_M_serves 37 = .ok (.goto 4, 3) := by decide +kernel
theorem d_M_serves_40 : decode c_M_serves 40 = .ok (.iconst 0, 1) := by decide +kernel
theorem d_M_serves_41 : decode c_M_serves 41 = .ok (.iadd, 1) := by decide +kernel
theorem d_M_serves_42 : decode c_M_serves 42 = .ok (.istore 5, 2) := by decide +kernel
theorem d_M_serves_44 : decode c_M_serves 44 = .ok (.iinc 6 1, 3) := by decide +kernel
theorem d_M_serves_47 : decode c_M_serves 47 = .ok (.goto (-41), 3) := by decide +kernel
theorem d_M_serves_50 : decode c_M_serves 50 = .ok (.iconst 0, 1) := by decide +kernel
theorem d_M_serves_51 : decode c_M_serves 51 = .ok (.istore 6, 2) := by decide +kernel
theorem d_M_serves_53 : decode c_M_serves 53 = .ok (.iconst 0, 1) := by decide +kernel
theorem d_M_serves_54 : decode c_M_serves 54 = .ok (.istore 7, 2) := by decide +kernel
theorem d_M_serves_56 : decode c_M_serves 56 = .ok (.iload 7, 2) := by decide +kernel
theorem d_M_serves_58 : decode c_M_serves 58 = .ok (.aload_n 0, 1) := by decide +kernel
theorem d_M_serves_59 : decode c_M_serves 59 = .ok (.getfield 50, 3) := by decide +kernel
theorem d_M_serves_62 : decode c_M_serves 62 = .ok (.if_icmp .ge 59, 3) := by decide +kernel
theorem d_M_serves_65 : decode c_M_serves 65 = .ok (.iload 6, 2) := by decide +kernel
theorem d_M_serves_67 : decode c_M_serves 67 = .ok (.aload_n 0, 1) := by decide +kernel
theorem d_M_serves_68 : decode c_M_serves 68 = .ok (.iload 7, 2) := by decide +kernel
theorem d_M_serves_70 : decode c_M_serves 70 = .ok (.iload_n 1, 1) := by decide +kernel
theorem d_M_serves_71 : decode c_M_serves 71 = .ok (.iload_n 3, 1) := by decide +kernel
theorem d_M_serves_72 : decode c_M_serves 72 = .ok (.iload 4, 2) := by decide +kernel
theorem d_M_serves_74 : decode c_M_serves 74 = .ok (.invokevirtual 96, 3) := by decide +kernel
theorem d_M_serves_77 : decode c_M_serves 77 = .ok (.ifCond .ne 7, 3) := by decide +kernel
theorem d_M_serves_80 : decode c_M_serves 80 = .ok (.iconst 0, 1) := by decide +kernel
theorem d_M_serves_81 : decode c_M_serves 81 = .ok (.goto 31, 3) := by decide +kernel
theorem d_M_serves_84 : decode c_M_serves 84 = .ok (.iload 5, 2) := by decide +kernel
theorem d_M_serves_86 : decode c_M_serves 86 = .ok (.iload_n 2, 1) := by decide +kernel
theorem d_M_serves_87 : decode c_M_serves 87 = .ok (.if_icmp .gt 13, 3) := by decide +kernel
theorem d_M_serves_90 : decode c_M_serves 90 = .ok (.aload_n 0, 1) := by decide +kernel
theorem d_M_serves_91 : decode c_M_serves 91 = .ok (.getfield 16, 3) := by decide +kernel
theorem d_M_serves_94 : decode c_M_serves 94 = .ok (.iload 7, 2) := by decide +kernel
theorem d_M_serves_96 : decode c_M_serves 96 = .ok (.iaload, 1) := by decide +kernel
theorem d_M_serves_97 : decode c_M_serves 97 = .ok (.goto 15, 3) := by decide +kernel
theorem d_M_serves_100 : decode c_M_serves 100 = .ok (.aload_n 0, 1) := by decide +kernel
theorem d_M_serves_101 : decode c_M_serves 101 = .ok (.getfield 16, 3) := by decide +kernel
theorem d_M_serves_104 : decode c_M_serves 104 = .ok (.iload 7, 2) := by decide +kernel
theorem d_M_serves_106 : decode c_M_serves 106 = .ok (.iaload, 1) := by decide +kernel
theorem d_M_serves_107 : decode c_M_serves 107 = .ok (.iload_n 2, 1) := by decide +kernel
theorem d_M_serves_108 : decode c_M_serves 108 = .ok (.imul, 1) := by decide +kernel
theorem d_M_serves_109 : decode c_M_serves 109 = .ok (.iload 5, 2) := by decide +kernel
theorem d_M_serves_111 : decode c_M_serves 111 = .ok (.idiv, 1) := by decide +kernel
theorem d_M_serves_112 : decode c_M_serves 112 = .ok (.iadd, 1) := by decide +kernel
theorem d_M_serves_113 : decode c_M_serves 113 = .ok (.istore 6, 2) := by decide +kernel
theorem d_M_serves_115 : decode c_M_serves 115 = .ok (.iinc 7 1, 3) := by decide +kernel
theorem d_M_serves_118 : decode c_M_serves 118 = .ok (.goto (-62), 3) := by decide +kernel
theorem d_M_serves_121 : decode c_M_serves 121 = .ok (.iload 5, 2) := by decide +kernel
theorem d_M_serves_123 : decode c_M_serves 123 = .ok (.iload_n 2, 1) := by decide +kernel
theorem d_M_serves_124 : decode c_M_serves 124 = .ok (.if_icmp .gt 7, 3) := by decide +kernel
theorem d_M_serves_127 : decode c_M_serves 127 = .ok (.iconst 0, 1) := by decide +kernel
theorem d_M_serves_128 : decode c_M_serves 128 = .ok (.goto 7, 3) := by decide +kernel
theorem d_M_serves_131 : decode c_M_serves 131 = .ok (.iload_n 2, 1) := by decide +kernel
theorem d_M_serves_132 : decode c_M_serves 132 = .ok (.iload 6, 2) := by decide +kernel
theorem d_M_serves_134 : decode c_M_serves 134 = .ok (.isub, 1) := by decide +kernel
theorem d_M_serves_135 : decode c_M_serves 135 = .ok (.istore 7, 2) := by decide +kernel
theorem d_M_serves_137 : decode c_M_serves 137 = .ok (.iconst 0, 1) := by decide +kernel
theorem d_M_serves_138 : decode c_M_serves 138 = .ok (.istore 8, 2) := by decide +kernel
theorem d_M_serves_140 : decode c_M_serves 140 = .ok (.iload 8, 2) := by decide +kernel
theorem d_M_serves_142 : decode c_M_serves 142 = .ok (.aload_n 0, 1) := by decide +kernel
theorem d_M_serves_143 : decode c_M_serves 143 = .ok (.getfield 50, 3) := by decide +kernel
theorem d_M_serves_146 : decode c_M_serves 146 = .ok (.if_icmp .ge 91, 3) := by decide +kernel
theorem d_M_serves_149 : decode c_M_serves 149 = .ok (.aload_n 0, 1) := by decide +kernel
theorem d_M_serves_150 : decode c_M_serves 150 = .ok (.iload 8, 2) := by decide +kernel
theorem d_M_serves_152 : decode c_M_serves 152 = .ok (.iload_n 1, 1) := by decide +kernel
theorem d_M_serves_153 : decode c_M_serves 153 = .ok (.iload_n 3, 1) := by decide +kernel
theorem d_M_serves_154 : decode c_M_serves 154 = .ok (.iload 4, 2) := by decide +kernel
theorem d_M_serves_156 : decode c_M_serves 156 = .ok (.invokevirtual 96, 3) := by decide +kernel
theorem d_M_serves_159 : decode c_M_serves 159 = .ok (.ifCond .eq 72, 3) := by decide +kernel
theorem d_M_serves_162 : decode c_M_serves 162 = .ok (.aload_n 0, 1) := by decide +kernel
theorem d_M_serves_163 : decode c_M_serves 163 = .ok (.getfield 34, 3) := by decide +kernel
theorem d_M_serves_166 : decode c_M_serves 166 = .ok (.aload_n 0, 1) := by decide +kernel
theorem d_M_serves_167 : decode c_M_serves 167 = .ok (.getfield 13, 3) := by decide +kernel
theorem d_M_serves_170 : decode c_M_serves 170 = .ok (.iload 8, 2) := by decide +kernel
theorem d_M_serves_172 : decode c_M_serves 172 = .ok (.iaload, 1) := by decide +kernel
theorem d_M_serves_173 : decode c_M_serves 173 = .ok (.dup2, 1) := by decide +kernel
theorem d_M_serves_174 : decode c_M_serves 174 = .ok (.iaload, 1) := by decide +kernel
theorem d_M_serves_175 : decode c_M_serves 175 = .ok (.iload 5, 2) := by decide +kernel
theorem d_M_serves_177 : decode c_M_serves 177 = .ok (.iload_n 2, 1) := by decide +kernel
theorem d_M_serves_178 : decode c_M_serves 178 = .ok (.if_icmp .gt 13, 3) := by decide +kernel
theorem d_M_serves_181 : decode c_M_serves 181 = .ok (.aload_n 0, 1) := by decide +kernel
theorem d_M_serves_182 : decode c_M_serves 182 = .ok (.getfield 16, 3) := by decide +kernel
theorem d_M_serves_185 : decode c_M_serves 185 = .ok (.iload 8, 2) := by decide +kernel
theorem d_M_serves_187 : decode c_M_serves 187 = .ok (.iaload, 1) := by decide +kernel
theorem d_M_serves_188 : decode c_M_serves 188 = .ok (.goto 15, 3) := by decide +kernel
theorem d_M_serves_191 : decode c_M_serves 191 = .ok (.aload_n 0, 1) := by decide +kernel
theorem d_M_serves_192 : decode c_M_serves 192 = .ok (.getfield 16, 3) := by decide +kernel
theorem d_M_serves_195 : decode c_M_serves 195 = .ok (.iload 8, 2) := by decide +kernel
theorem d_M_serves_197 : decode c_M_serves 197 = .ok (.iaload, 1) := by decide +kernel
theorem d_M_serves_198 : decode c_M_serves 198 = .ok (.iload_n 2, 1) := by decide +kernel
theorem d_M_serves_199 : decode c_M_serves 199 = .ok (.imul, 1) := by decide +kernel
theorem d_M_serves_200 : decode c_M_serves 200 = .ok (.iload 5, 2) := by decide +kernel
theorem d_M_serves_202 : decode c_M_serves 202 = .ok (.idiv, 1) := by decide +kernel
theorem d_M_serves_203 : decode c_M_serves 203 = .ok (.iload 7, 2) := by decide +kernel
theorem d_M_serves_205 : decode c_M_serves 205 = .ok (.ifCond .le 7, 3) := by decide +kernel
theorem d_M_serves_208 : decode c_M_serves 208 = .ok (.iconst 1, 1) := by decide +kernel
theorem d_M_serves_209 : decode c_M_serves 209 = .ok (.goto 4, 3) := by decide +kernel
theorem d_M_serves_212 : decode c_M_serves 212 = .ok (.iconst 0, 1) := by decide +kernel
theorem d_M_serves_213 : decode c_M_serves 213 = .ok (.iadd, 1) := by decide +kernel
theorem d_M_serves_214 : decode c_M_serves 214 = .ok (.iadd, 1) := by decide +kernel
theorem d_M_serves_215 : decode c_M_serves 215 = .ok (.iastore, 1) := by decide +kernel
theorem d_M_serves_216 : decode c_M_serves 216 = .ok (.iload 7, 2) := by decide +kernel
theorem d_M_serves_218 : decode c_M_serves 218 = .ok (.iload 7, 2) := by decide +kernel
theorem d_M_serves_220 : decode c_M_serves 220 = .ok (.ifCond .le 7, 3) := by decide +kernel
theorem d_M_serves_223 : decode c_M_serves 223 = .ok (.iconst 1, 1) := by decide +kernel
theorem d_M_serves_224 : decode c_M_serves 224 = .ok (.goto 4, 3) := by decide +kernel
theorem d_M_serves_227 : decode c_M_serves 227 = .ok (.iconst 0, 1) := by decide +kernel
theorem d_M_serves_228 : decode c_M_serves 228 = .ok (.isub, 1) := by decide +kernel
theorem d_M_serves_229 : decode c_M_serves 229 = .ok (.istore 7, 2) := by decide +kernel
theorem d_M_serves_231 : decode c_M_serves 231 = .ok (.iinc 8 1, 3) := by decide +kernel
theorem d_M_serves_234 : decode c_M_serves 234 = .ok (.goto (-94), 3) := by decide +kernel
theorem d_M_serves_237 : decode c_M_serves 237 = .ok (.iload 5, 2) := by decide +kernel
theorem d_M_serves_239 : decode c_M_serves 239 = .ok (.iload_n 2, 1) := by decide +kernel
theorem d_M_serves_240 : decode c_M_serves 240 = .ok (.if_icmp .gt 10, 3) := by decide +kernel
theorem d_M_serves_243 : decode c_M_serves 243 = .ok (.iload_n 2, 1) := by decide +kernel
theorem d_M_serves_244 : decode c_M_serves 244 = .ok (.iload 5, 2) := by decide +kernel
theorem d_M_serves_246 : decode c_M_serves 246 = .ok (.isub, 1) := by decide +kernel
theorem d_M_serves_247 : decode c_M_serves 247 = .ok (.goto 4, 3) := by decide +kernel
theorem d_M_serves_250 : decode c_M_serves 250 = .ok (.iconst 0, 1) := by decide +kernel
theorem d_M_serves_251 : decode c_M_serves 251 = .ok (.ireturn, 1) := by decide +kernel
theorem d_M_asks_0 : decode c_M_asks 0 = .ok (.aload_n 0, 1) := by decide +kernel
theorem d_M_asks_1 : decode c_M_asks 1 = .ok (.getfield 7, 3) := by decide +kernel
theorem d_M_asks_4 : decode c_M_asks 4 = .ok (.iload_n 1, 1) := by decide +kernel
theorem d_M_asks_5 : decode c_M_asks 5 = .ok (.iaload, 1) := by decide +kernel
theorem d_M_asks_6 : decode c_M_asks 6 = .ok (.iconst 4, 1) := by decide +kernel
theorem d_M_asks_7 : decode c_M_asks 7 = .ok (.if_icmp .ne 28, 3) := by decide +kernel
theorem d_M_asks_10 : decode c_M_asks 10 = .ok (.aload_n 0, 1) := by decide +kernel
theorem d_M_asks_11 : decode c_M_asks 11 = .ok (.getfield 19, 3) := by decide +kernel
theorem d_M_asks_14 : decode c_M_asks 14 = .ok (.iload_n 1, 1) := by decide +kernel
theorem d_M_asks_15 : decode c_M_asks 15 = .ok (.iaload, 1) := by decide +kernel
theorem d_M_asks_16 : decode c_M_asks 16 = .ok (.iload_n 2, 1) := by decide +kernel
theorem d_M_asks_17 : decode c_M_asks 17 = .ok (.if_icmp .ne 18, 3) := by decide +kernel
theorem d_M_asks_20 : decode c_M_asks 20 = .ok (.aload_n 0, 1) := by decide +kernel
theorem d_M_asks_21 : decode c_M_asks 21 = .ok (.iload_n 1, 1) := by decide +kernel
theorem d_M_asks_22 : decode c_M_asks 22 = .ok (.iload_n 3, 1) := by decide +kernel
theorem d_M_asks_23 : decode c_M_asks 23 = .ok (.iload 4, 2) := by decide +kernel
theorem d_M_asks_25 : decode c_M_asks 25 = .ok (.invokevirtual 70, 3) := by decide +kernel
theorem d_M_asks_28 : decode c_M_asks 28 = .ok (.ifCond .eq 7, 3) := by decide +kernel
theorem d_M_asks_31 : decode c_M_asks 31 = .ok (.iconst 1, 1) := by decide +kernel
theorem d_M_asks_32 : decode c_M_asks 32 = .ok (.goto 4, 3) := by decide +kernel
theorem d_M_asks_35 : decode c_M_asks 35 = .ok (.iconst 0, 1) := by decide +kernel
theorem d_M_asks_36 : decode c_M_asks 36 = .ok (.ireturn, 1) := by decide +kernel
theorem d_M_apart_0 : decode c_M_apart 0 = .ok (.aload_n 0, 1) := by decide +kernel
theorem d_M_apart_1 : decode c_M_apart 1 = .ok (.iload_n 1, 1) := by decide +kernel
theorem d_M_apart_2 : decode c_M_apart 2 = .ok (.iconst 0, 1) := by decide +kernel
theorem d_M_apart_3 : decode c_M_apart 3 = .ok (.bipush 19, 2) := by decide +kernel
theorem d_M_apart_5 : decode c_M_apart 5 = .ok (.invokestatic 44, 3) := by decide +kernel
theorem d_M_apart_8 : decode c_M_apart 8 = .ok (.ifCond .eq 17, 3) := by decide +kernel
theorem d_M_apart_11 : decode c_M_apart 11 = .ok (.iload_n 2, 1) := by decide +kernel
theorem d_M_apart_12 : decode c_M_apart 12 = .ok (.iconst 0, 1) := by decide +kernel
theorem d_M_apart_13 : decode c_M_apart 13 = .ok (.bipush 19, 2) := by decide +kernel
theorem d_M_apart_15 : decode c_M_apart 15 = .ok (.invokestatic 44, 3) := by decide +kernel
theorem d_M_apart_18 : decode c_M_apart 18 = .ok (.ifCond .eq 7, 3) := by decide +kernel
theorem d_M_apart_21 : decode c_M_apart 21 = .ok (.iconst 1, 1) := by decide +kernel
theorem d_M_apart_22 : decode c_M_apart 22 = .ok (.goto 4, 3) := by decide +kernel
theorem d_M_apart_25 : decode c_M_apart 25 = .ok (.iconst 0, 1) := by decide +kernel
theorem d_M_apart_26 : decode c_M_apart 26 = .ok (.iload_n 3, 1) := by decide +kernel
theorem d_M_apart_27 : decode c_M_apart 27 = .ok (.iload 4, 2) := by decide +kernel
theorem d_M_apart_29 : decode c_M_apart 29 = .ok (.invokevirtual 88, 3) := by decide +kernel
theorem d_M_apart_32 : decode c_M_apart 32 = .ok (.ifCond .ne 5, 3) := by decide +kernel
theorem d_M_apart_35 : decode c_M_apart 35 = .ok (.iconst 0, 1) := by decide +kernel
theorem d_M_apart_36 : decode c_M_apart 36 = .ok (.ireturn, 1) := by decide +kernel
theorem d_M_apart_37 : decode c_M_apart 37 = .ok (.aload_n 0, 1) := by decide +kernel
theorem d_M_apart_38 : decode c_M_apart 38 = .ok (.iload_n 3, 1) := by decide +kernel
theorem d_M_apart_39 : decode c_M_apart 39 = .ok (.iload 4, 2) := by decide +kernel
theorem d_M_apart_41 : decode c_M_apart 41 = .ok (.invokevirtual 92, 3) := by decide +kernel
theorem d_M_apart_44 : decode c_M_apart 44 = .ok (.aload_n 0, 1) := by decide +kernel
theorem d_M_apart_45 : decode c_M_apart 45 = .ok (.getfield 25, 3) := by decide +kernel
theorem d_M_apart_48 : decode c_M_apart 48 = .ok (.iload_n 1, 1) := by decide +kernel
theorem d_M_apart_49 : decode c_M_apart 49 = .ok (.iaload, 1) := by decide +kernel
theorem d_M_apart_50 : decode c_M_apart 50 = .ok (.ifCond .lt 12, 3) := by decide +kernel
theorem d_M_apart_53 : decode c_M_apart 53 = .ok (.aload_n 0, 1) := by decide +kernel
theorem d_M_apart_54 : decode c_M_apart 54 = .ok (.getfield 25, 3) := by decide +kernel
theorem d_M_apart_57 : decode c_M_apart 57 = .ok (.iload_n 2, 1) := by decide +kernel
theorem d_M_apart_58 : decode c_M_apart 58 = .ok (.iaload, 1) := by decide +kernel
theorem d_M_apart_59 : decode c_M_apart 59 = .ok (.ifCond .ge 7, 3) := by decide +kernel
theorem d_M_apart_62 : decode c_M_apart 62 = .ok (.iconst (-1), 1) := by decide +kernel
theorem d_M_apart_63 : decode c_M_apart 63 = .ok (.goto 18, 3) := by decide +kernel
theorem d_M_apart_66 : decode c_M_apart 66 = .ok (.aload_n 0, 1) := by decide +kernel
theorem d_M_apart_67 : decode c_M_apart 67 = .ok (.getfield 25, 3) := by decide +kernel
theorem d_M_apart_70 : decode c_M_apart 70 = .ok (.iload_n 1, 1) := by decide +kernel
theorem d_M_apart_71 : decode c_M_apart 71 = .ok (.iaload, 1) := by decide +kernel
theorem d_M_apart_72 : decode c_M_apart 72 = .ok (.aload_n 0, 1) := by decide +kernel
theorem d_M_apart_73 : decode c_M_apart 73 = .ok (.getfield 25, 3) := by decide +kernel
theorem d_M_apart_76 : decode c_M_apart 76 = .ok (.iload_n 2, 1) := by decide +kernel
theorem d_M_apart_77 : decode c_M_apart 77 = .ok (.iaload, 1) := by decide +kernel
theorem d_M_apart_78 : decode c_M_apart 78 = .ok (.invokestatic 107, 3) := by decide +kernel
theorem d_M_apart_81 : decode c_M_apart 81 = .ok (.ireturn, 1) := by decide +kernel
theorem d_M_distance_0 : decode c_M_distance 0 = .ok (.iload_n 0, 1) := by decide +kernel
theorem d_M_distance_1 : decode c_M_distance 1 = .ok (.bipush 10, 2) := by decide +kernel
theorem d_M_distance_3 : decode c_M_distance 3 = .ok (.idiv, 1) := by decide +kernel
theorem d_M_distance_4 : decode c_M_distance 4 = .ok (.iload_n 1, 1) := by decide +kernel
theorem d_M_distance_5 : decode c_M_distance 5 = .ok (.bipush 10, 2) := by decide +kernel
theorem d_M_distance_7 : decode c_M_distance 7 = .ok (.idiv, 1) := by decide +kernel
theorem d_M_distance_8 : decode c_M_distance 8 = .ok (.isub, 1) := by decide +kernel
theorem d_M_distance_9 : decode c_M_distance 9 = .ok (.invokestatic 104, 3) := by decide +kernel
theorem d_M_distance_12 : decode c_M_distance 12 = .ok (.iload_n 0, 1) := by decide +kernel
theorem d_M_distance_13 : decode c_M_distance 13 = .ok (.bipush 10, 2) := by decide +kernel
theorem d_M_distance_15 : decode c_M_distance 15 = .ok (.irem, 1) := by decide +kernel
theorem d_M_distance_16 : decode c_M_distance 16 = .ok (.iload_n 1, 1) := by decide +kernel
theorem d_M_distance_17 : decode c_M_distance 17 = .ok (.bipush 10, 2) := by decide +kernel
theorem d_M_distance_19 : decode c_M_distance 19 = .ok (.irem, 1) := by decide +kernel
theorem d_M_distance_20 : decode c_M_distance 20 = .ok (.isub, 1) := by decide +kernel
theorem d_M_distance_21 : decode c_M_distance 21 = .ok (.invokestatic 104, 3) := by decide +kernel
theorem d_M_distance_24 : decode c_M_distance 24 = .ok (.iadd, 1) := by decide +kernel
theorem d_M_distance_25 : decode c_M_distance 25 = .ok (.ireturn, 1) := by decide +kernel
theorem d_M_far_0 : decode c_M_far 0 = .ok (.iload_n 0, 1) := by decide +kernel
theorem d_M_far_1 : decode c_M_far 1 = .ok (.ifCond .ge 8, 3) := by decide +kernel
theorem d_M_far_4 : decode c_M_far 4 = .ok (.iload_n 0, 1) := by decide +kernel
theorem d_M_far_5 : decode c_M_far 5 = .ok (.ineg, 1) := by decide +kernel
theorem d_M_far_6 : decode c_M_far 6 = .ok (.goto 4, 3) := by decide +kernel
theorem d_M_far_9 : decode c_M_far 9 = .ok (.iload_n 0, 1) := by decide +kernel
theorem d_M_far_10 : decode c_M_far 10 = .ok (.ireturn, 1) := by decide +kernel
theorem d_M_least_0 : decode c_M_least 0 = .ok (.aload_n 0, 1) := by decide +kernel
theorem d_M_least_1 : decode c_M_least 1 = .ok (.iconst 1, 1) := by decide +kernel
theorem d_M_least_2 : decode c_M_least 2 = .ok (.iload_n 1, 1) := by decide +kernel
theorem d_M_least_3 : decode c_M_least 3 = .ok (.iload_n 2, 1) := by decide +kernel
theorem d_M_least_4 : decode c_M_least 4 = .ok (.invokevirtual 88, 3) := by decide +kernel
theorem d_M_least_7 : decode c_M_least 7 = .ok (.ifCond .ne 5, 3) := by decide +kernel
theorem d_M_least_10 : decode c_M_least 10 = .ok (.iconst 0, 1) := by decide +kernel
theorem d_M_least_11 : decode c_M_least 11 = .ok (.ireturn, 1) := by decide +kernel
theorem d_M_least_12 : decode c_M_least 12 = .ok (.aload_n 0, 1) := by decide +kernel
theorem d_M_least_13 : decode c_M_least 13 = .ok (.iload_n 1, 1) := by decide +kernel
theorem d_M_least_14 : decode c_M_least 14 = .ok (.iload_n 2, 1) := by decide +kernel
theorem d_M_least_15 : decode c_M_least 15 = .ok (.invokevirtual 92, 3) := by decide +kernel
theorem d_M_least_18 : decode c_M_least 18 = .ok (.iconst 0, 1) := by decide +kernel
theorem d_M_least_19 : decode c_M_least 19 = .ok (.istore_n 3, 1) := by decide +kernel
theorem d_M_least_20 : decode c_M_least 20 = .ok (.iconst 0, 1) := by decide +kernel
theorem d_M_least_21 : decode c_M_least 21 = .ok (.istore 4, 2) := by decide +kernel
theorem d_M_least_23 : decode c_M_least 23 = .ok (.iload 4, 2) := by decide +kernel
theorem d_M_least_25 : decode c_M_least 25 = .ok (.bipush 20, 2) := by decide +kernel
theorem d_M_least_27 : decode c_M_least 27 = .ok (.if_icmp .ge 27, 3) := by decide +kernel
theorem d_M_least_30 : decode c_M_least 30 = .ok (.iload_n 3, 1) := by decide +kernel
theorem d_M_least_31 : decode c_M_least 31 = .ok (.aload_n 0, 1) := by decide +kernel
theorem d_M_least_32 : decode c_M_least 32 = .ok (.getfield 25, 3) := by decide +kernel
theorem d_M_least_35 : decode c_M_least 35 = .ok (.iload 4, 2) := by decide +kernel
theorem d_M_least_37 : decode c_M_least 37 = .ok (.iaload, 1) := by decide +kernel
theorem d_M_least_38 : decode c_M_least 38 = .ok (.ifCond .lt 7, 3) := by decide +kernel
theorem d_M_least_41 : decode c_M_least 41 = .ok (.iconst 1, 1) := by decide +kernel
theorem d_M_least_42 : decode c_M_least 42 = .ok (.goto 4, 3) := by decide +kernel
theorem d_M_least_45 : decode c_M_least 45 = .ok (.iconst 0, 1) := by decide +kernel
theorem d_M_least_46 : decode c_M_least 46 = .ok (.iadd, 1) := by decide +kernel
theorem d_M_least_47 : decode c_M_least 47 = .ok (.istore_n 3, 1) := by decide +kernel
theorem d_M_least_48 : decode c_M_least 48 = .ok (.iinc 4 1, 3) := by decide +kernel
theorem d_M_least_51 : decode c_M_least 51 = .ok (.goto (-28), 3) := by decide +kernel
theorem d_M_least_54 : decode c_M_least 54 = .ok (.iload_n 3, 1) := by decide +kernel
theorem d_M_least_55 : decode c_M_least 55 = .ok (.bipush 6, 2) := by decide +kernel
theorem d_M_least_57 : decode c_M_least 57 = .ok (.if_icmp .le 7, 3) := by decide +kernel
theorem d_M_least_60 : decode c_M_least 60 = .ok (.iconst (-1), 1) := by decide +kernel
theorem d_M_least_61 : decode c_M_least 61 = .ok (.goto 8, 3) := by decide +kernel
theorem d_M_least_64 : decode c_M_least 64 = .ok (.aload_n 0, 1) := by decide +kernel
theorem d_M_least_65 : decode c_M_least 65 = .ok (.iload_n 3, 1) := by decide +kernel
theorem d_M_least_66 : decode c_M_least 66 = .ok (.invokevirtual 118, 3) := by decide +kernel
theorem d_M_least_69 : decode c_M_least 69 = .ok (.ireturn, 1) := by decide +kernel
theorem d_M_leastOf_0 : decode c_M_leastOf 0 = .ok (.aload_n 0, 1) := by decide +kernel
theorem d_M_leastOf_1 : decode c_M_leastOf 1 = .ok (.getfield 37, 3) := by decide +kernel
theorem d_M_leastOf_4 : decode c_M_leastOf 4 = .ok (.iconst 0, 1) := by decide +kernel
theorem d_M_leastOf_5 : decode c_M_leastOf 5 = .ok (.iconst 0, 1) := by decide +kernel
theorem d_M_leastOf_6 : decode c_M_leastOf 6 = .ok (.iastore, 1) := by decide +kernel
theorem d_M_leastOf_7 : decode c_M_leastOf 7 = .ok (.iconst 1, 1) := by decide +kernel
theorem d_M_leastOf_8 : decode c_M_leastOf 8 = .ok (.istore_n 2, 1) := by decide +kernel
theorem d_M_leastOf_9 : decode c_M_leastOf 9 = .ok (.iload_n 2, 1) := by decide +kernel
theorem d_M_leastOf_10 : decode c_M_leastOf 10 = .ok (.iconst 1, 1) := by decide +kernel
theorem d_M_leastOf_11 : decode c_M_leastOf 11 = .ok (.iload_n 1, 1) := by decide +kernel
theorem d_M_leastOf_12 : decode c_M_leastOf 12 = .ok (.ishl, 1) := by decide +kernel
theorem d_M_leastOf_13 : decode c_M_leastOf 13 = .ok (.if_icmp .ge 106, 3) := by decide +kernel
theorem d_M_leastOf_16 : decode c_M_leastOf 16 = .ok (.aload_n 0, 1) := by decide +kernel
theorem d_M_leastOf_17 : decode c_M_leastOf 17 = .ok (.iload_n 2, 1) := by decide +kernel
theorem d_M_leastOf_18 : decode c_M_leastOf 18 = .ok (.invokestatic 111, 3) := by decide +kernel
theorem d_M_leastOf_21 : decode c_M_leastOf 21 = .ok (.iconst 1, 1) := by decide +kernel
theorem d_M_leastOf_22 : decode c_M_leastOf 22 = .ok (.isub, 1) := by decide +kernel
theorem d_M_leastOf_23 : decode c_M_leastOf 23 = .ok (.invokevirtual 114, 3) := by decide +kernel
theorem d_M_leastOf_26 : decode c_M_leastOf 26 = .ok (.istore_n 3, 1) := by decide +kernel
theorem d_M_leastOf_27 : decode c_M_leastOf 27 = .ok (.aload_n 0, 1) := by decide +kernel
theorem d_M_leastOf_28 : decode c_M_leastOf 28 = .ok (.getfield 37, 3) := by decide +kernel
theorem d_M_leastOf_31 : decode c_M_leastOf 31 = .ok (.iload_n 2, 1) := by decide +kernel
theorem d_M_leastOf_32 : decode c_M_leastOf 32 = .ok (.ldc 117, 2) := by decide +kernel
theorem d_M_leastOf_34 : decode c_M_leastOf 34 = .ok (.iastore, 1) := by decide +kernel
theorem d_M_leastOf_35 : decode c_M_leastOf 35 = .ok (.iconst 0, 1) := by decide +kernel
theorem d_M_leastOf_36 : decode c_M_leastOf 36 = .ok (.istore 4, 2) := by decide +kernel
theorem d_M_leastOf_38 : decode c_M_leastOf 38 = .ok (.iload 4, 2) := by decide +kernel
theorem d_M_leastOf_40 : decode c_M_leastOf 40 = .ok (.iload_n 1, 1) := by decide +kernel
theorem d_M_leastOf_41 : decode c_M_leastOf 41 = .ok (.if_icmp .ge 72, 3) := by decide +kernel
theorem d_M_leastOf_44 : decode c_M_leastOf 44 = .ok (.iload_n 2, 1) := by decide +kernel
theorem d_M_leastOf_45 : decode c_M_leastOf 45 = .ok (.iload 4, 2) := by decide +kernel
theorem d_M_leastOf_47 : decode c_M_leastOf 47 = .ok (.ishr, 1) := by decide +kernel
theorem d_M_leastOf_48 : decode c_M_leastOf 48 = .ok (.iconst 1, 1) := by decide +kernel
theorem d_M_leastOf_49 : decode c_M_leastOf 49 = .ok (.iand, 1) := by decide +kernel
theorem d_M_leastOf_50 : decode c_M_leastOf 50 = .ok (.iconst 1, 1) := by decide +kernel
theorem d_M_leastOf_51 : decode c_M_leastOf 51 = .ok (.if_icmp .ne 24, 3) := by decide +kernel
theorem d_M_leastOf_54 : decode c_M_leastOf 54 = .ok (.aload_n 0, 1) := by decide +kernel
theorem d_M_leastOf_55 : decode c_M_leastOf 55 = .ok (.getfield 37, 3) := by decide +kernel
theorem d_M_leastOf_58 : decode c_M_leastOf 58 = .ok (.iload_n 2, 1) := by decide +kernel
theorem d_M_leastOf_59 : decode c_M_leastOf 59 = .ok (.iconst 1, 1) := by decide +kernel
theorem d_M_leastOf_60 : decode c_M_leastOf 60 = .ok (.iload 4, 2) := by decide +kernel
theorem d_M_leastOf_62 : decode c_M_leastOf 62 = .ok (.ishl, 1) := by decide +kernel
theorem d_M_leastOf_63 : decode c_M_leastOf 63 = .ok (.isub, 1) := by decide +kernel
theorem d_M_leastOf_64 : decode c_M_leastOf 64 = .ok (.iaload, 1) := by decide +kernel
theorem d_M_leastOf_65 : decode c_M_leastOf 65 = .ok (.iload_n 3, 1) := by decide +kernel
theorem d_M_leastOf_66 : decode c_M_leastOf 66 = .ok (.iload 4, 2) := by decide +kernel
theorem d_M_leastOf_68 : decode c_M_leastOf 68 = .ok (.invokestatic 107, 3) := by decide +kernel
theorem d_M_leastOf_71 : decode c_M_leastOf 71 = .ok (.iadd, 1) := by decide +kernel
theorem d_M_leastOf_72 : decode c_M_leastOf 72 = .ok (.goto 5, 3) := by decide +kernel
theorem d_M_leastOf_75 : decode c_M_leastOf 75 = .ok (.ldc 117, 2) := by decide +kernel
theorem d_M_leastOf_77 : decode c_M_leastOf 77 = .ok (.istore 5, 2) := by decide +kernel
theorem d_M_leastOf_79 : decode c_M_leastOf 79 = .ok (.aload_n 0, 1) := by decide +kernel
theorem d_M_leastOf_80 : decode c_M_leastOf 80 = .ok (.getfield 37, 3) := by decide +kernel
theorem d_M_leastOf_83 : decode c_M_leastOf 83 = .ok (.iload_n 2, 1) := by decide +kernel
theorem d_M_leastOf_84 : decode c_M_leastOf 84 = .ok (.iload 5, 2) := by decide +kernel
theorem d_M_leastOf_86 : decode c_M_leastOf 86 = .ok (.aload_n 0, 1) := by decide +kernel
theorem d_M_leastOf_87 : decode c_M_leastOf 87 = .ok (.getfield 37, 3) := by decide +kernel
theorem d_M_leastOf_90 : decode c_M_leastOf 90 = .ok (.iload_n 2, 1) := by decide +kernel
theorem d_M_leastOf_91 : decode c_M_leastOf 91 = .ok (.iaload, 1) := by decide +kernel
theorem d_M_leastOf_92 : decode c_M_leastOf 92 = .ok (.if_icmp .ge 8, 3) := by decide +kernel
theorem d_M_leastOf_95 : decode c_M_leastOf 95 = .ok (.iload 5, 2) := by decide +kernel
theorem d_M_leastOf_97 : decode c_M_leastOf 97 = .ok (.goto 9, 3) := by decide +kernel
theorem d_M_leastOf_100 : decode c_M_leastOf 100 = .ok (.aload_n 0, 1) := by decide +kernel
theorem d_M_leastOf_101 : decode c_M_leastOf 101 = .ok (.getfield 37, 3) := by decide +kernel
theorem d_M_leastOf_104 : decode c_M_leastOf 104 = .ok (.iload_n 2, 1) := by decide +kernel
theorem d_M_leastOf_105 : decode c_M_leastOf 105 = .ok (.iaload, 1) := by decide +kernel
theorem d_M_leastOf_106 : decode c_M_leastOf 106 = .ok (.iastore, 1) := by decide +kernel
theorem d_M_leastOf_107 : decode c_M_leastOf 107 = .ok (.iinc 4 1, 3) := by decide +kernel
theorem d_M_leastOf_110 : decode c_M_leastOf 110 = .ok (.goto (-72), 3) := by decide +kernel
theorem d_M_leastOf_113 : decode c_M_leastOf 113 = .ok (.iinc 2 1, 3) := by decide +kernel
theorem d_M_leastOf_116 : decode c_M_leastOf 116 = .ok (.goto (-107), 3) := by decide +kernel
theorem d_M_leastOf_119 : decode c_M_leastOf 119 = .ok (.aload_n 0, 1) := by decide +kernel
theorem d_M_leastOf_120 : decode c_M_leastOf 120 = .ok (.getfield 37, 3) := by decide +kernel
theorem d_M_leastOf_123 : decode c_M_leastOf 123 = .ok (.iconst 1, 1) := by decide +kernel
theorem d_M_leastOf_124 : decode c_M_leastOf 124 = .ok (.iload_n 1, 1) := by decide +kernel
theorem d_M_leastOf_125 : decode c_M_leastOf 125 = .ok (.ishl, 1) := by decide +kernel
theorem d_M_leastOf_126 : decode c_M_leastOf 126 = .ok (.iconst 1, 1) := by decide +kernel
theorem d_M_leastOf_127 : decode c_M_leastOf 127 = .ok (.isub, 1) := by decide +kernel
theorem d_M_leastOf_128 : decode c_M_leastOf 128 = .ok (.iaload, 1) := by decide +kernel
theorem d_M_leastOf_129 : decode c_M_leastOf 129 = .ok (.ireturn, 1) := by decide +kernel
theorem d_M_ones_0 : decode c_M_ones 0 = .ok (.iconst 0, 1) := by decide +kernel
theorem d_M_ones_1 : decode c_M_ones 1 = .ok (.istore_n 1, 1) := by decide +kernel
theorem d_M_ones_2 : decode c_M_ones 2 = .ok (.iconst 0, 1) := by decide +kernel
theorem d_M_ones_3 : decode c_M_ones 3 = .ok (.istore_n 2, 1) := by decide +kernel
theorem d_M_ones_4 : decode c_M_ones 4 = .ok (.iload_n 2, 1) := by decide +kernel
theorem d_M_ones_5 : decode c_M_ones 5 = .ok (.bipush 6, 2) := by decide +kernel
theorem d_M_ones_7 : decode c_M_ones 7 = .ok (.if_icmp .ge 17, 3) := by decide +kernel
theorem d_M_ones_10 : decode c_M_ones 10 = .ok (.iload_n 1, 1) := by decide +kernel
theorem d_M_ones_11 : decode c_M_ones 11 = .ok (.iload_n 0, 1) := by decide +kernel
theorem d_M_ones_12 : decode c_M_ones 12 = .ok (.iload_n 2, 1) := by decide +kernel
theorem d_M_ones_13 : decode c_M_ones 13 = .ok (.ishr, 1) := by decide +kernel
theorem d_M_ones_14 : decode c_M_ones 14 = .ok (.iconst 1, 1) := by decide +kernel
theorem d_M_ones_15 : decode c_M_ones 15 = .ok (.iand, 1) := by decide +kernel
theorem d_M_ones_16 : decode c_M_ones 16 = .ok (.iadd, 1) := by decide +kernel
theorem d_M_ones_17 : decode c_M_ones 17 = .ok (.istore_n 1, 1) := by decide +kernel
theorem d_M_ones_18 : decode c_M_ones 18 = .ok (.iinc 2 1, 3) := by decide +kernel
theorem d_M_ones_21 : decode c_M_ones 21 = .ok (.goto (-17), 3) := by decide +kernel
theorem d_M_ones_24 : decode c_M_ones 24 = .ok (.iload_n 1, 1) := by decide +kernel
theorem d_M_ones_25 : decode c_M_ones 25 = .ok (.ireturn, 1) := by decide +kernel
end
section
theorem d_M_lying_0 : decode c_M_lying 0 = .ok (.iload_n 1, 1) := by decide +kernel
theorem d_M_lying_1 : decode c_M_lying 1 = .ok (.istore_n 2, 1) := by decide +kernel
theorem d_M_lying_2 : decode c_M_lying 2 = .ok (.iconst 0, 1) := by decide +kernel
theorem d_M_lying_3 : decode c_M_lying 3 = .ok (.istore_n 3, 1) := by decide +kernel
theorem d_M_lying_4 : decode c_M_lying 4 = .ok (.iload_n 3, 1) := by decide +kernel
theorem d_M_lying_5 : decode c_M_lying 5 = .ok (.bipush 20, 2) := by decide +kernel
theorem d_M_lying_7 : decode c_M_lying 7 = .ok (.if_icmp .ge 46, 3) := by decide +kernel
theorem d_M_lying_10 : decode c_M_lying 10 = .ok (.aload_n 0, 1) := by decide +kernel
theorem d_M_lying_11 : decode c_M_lying 11 = .ok (.getfield 25, 3) := by decide +kernel
theorem d_M_lying_14 : decode c_M_lying 14 = .ok (.iload_n 3, 1) := by decide +kernel
theorem d_M_lying_15 : decode c_M_lying 15 = .ok (.iaload, 1) := by decide +kernel
theorem d_M_lying_16 : decode c_M_lying 16 = .ok (.ifCond .lt 14, 3) := by decide +kernel
theorem d_M_lying_19 : decode c_M_lying 19 = .ok (.iload_n 2, 1) := by decide +kernel
theorem d_M_lying_20 : decode c_M_lying 20 = .ok (.ifCond .ne 10, 3) := by decide +kernel
theorem d_M_lying_23 : decode c_M_lying 23 = .ok (.aload_n 0, 1) := by decide +kernel
theorem d_M_lying_24 : decode c_M_lying 24 = .ok (.getfield 25, 3) := by decide +kernel
theorem d_M_lying_27 : decode c_M_lying 27 = .ok (.iload_n 3, 1) := by decide +kernel
theorem d_M_lying_28 : decode c_M_lying 28 = .ok (.iaload, 1) := by decide +kernel
theorem d_M_lying_29 : decode c_M_lying 29 = .ok (.ireturn, 1) := by decide +kernel
theorem d_M_lying_30 : decode c_M_lying 30 = .ok (.iload_n 2, 1) := by decide +kernel
theorem d_M_lying_31 : decode c_M_lying 31 = .ok (.aload_n 0, 1) := by decide +kernel
theorem d_M_lying_32 : decode c_M_lying 32 = .ok (.getfield 25, 3) := by decide +kernel
theorem d_M_lying_35 : decode c_M_lying 35 = .ok (.iload_n 3, 1) := by decide +kernel
theorem d_M_lying_36 : decode c_M_lying 36 = .ok (.iaload, 1) := by decide +kernel
theorem d_M_lying_37 : decode c_M_lying 37 = .ok (.ifCond .lt 7, 3) := by decide +kernel
theorem d_M_lying_40 : decode c_M_lying 40 = .ok (.iconst 1, 1) := by decide +kernel
theorem d_M_lying_41 : decode c_M_lying 41 = .ok (.goto 4, 3) := by decide +kernel
theorem d_M_lying_44 : decode c_M_lying 44 = .ok (.iconst 0, 1) := by decide +kernel
theorem d_M_lying_45 : decode c_M_lying 45 = .ok (.isub, 1) := by decide +kernel
theorem d_M_lying_46 : decode c_M_lying 46 = .ok (.istore_n 2, 1) := by decide +kernel
theorem d_M_lying_47 : decode c_M_lying 47 = .ok (.iinc 3 1, 3) := by decide +kernel
theorem d_M_lying_50 : decode c_M_lying 50 = .ok (.goto (-46), 3) := by decide +kernel
theorem d_M_lying_53 : decode c_M_lying 53 = .ok (.iconst (-1), 1) := by decide +kernel
theorem d_M_lying_54 : decode c_M_lying 54 = .ok (.ireturn, 1) := by decide +kernel
theorem d_M_look_0 : decode c_M_look 0 = .ok (.iload_n 1, 1) := by decide +kernel
theorem d_M_look_1 : decode c_M_look 1 = .ok (.ifCond .lt 20, 3) := by decide +kernel
theorem d_M_look_4 : decode c_M_look 4 = .ok (.iload_n 1, 1) := by decide +kernel
theorem d_M_look_5 : decode c_M_look 5 = .ok (.aload_n 0, 1) := by decide +kernel
theorem d_M_look_6 : decode c_M_look 6 = .ok (.getfield 50, 3) := by decide +kernel
theorem d_M_look_9 : decode c_M_look 9 = .ok (.if_icmp .ge 12, 3) := by decide +kernel
theorem d_M_look_12 : decode c_M_look 12 = .ok (.iload_n 2, 1) := by decide +kernel
theorem d_M_look_13 : decode c_M_look 13 = .ok (.iconst 0, 1) := by decide +kernel
theorem d_M_look_14 : decode c_M_look 14 = .ok (.iconst 5, 1) := by decide +kernel
theorem d_M_look_15 : decode c_M_look 15 = .ok (.invokestatic 44, 3) := by decide +kernel
theorem d_M_look_18 : decode c_M_look 18 = .ok (.ifCond .ne 9, 3) := by decide +kernel
theorem d_M_look_21 : decode c_M_look 21 = .ok (.aload_n 0, 1) := by decide +kernel
theorem d_M_look_22 : decode c_M_look 22 = .ok (.iconst 1, 1) := by decide +kernel
theorem d_M_look_23 : decode c_M_look 23 = .ok (.invokevirtual 121, 3) := by decide +kernel
theorem d_M_look_26 : decode c_M_look 26 = .ok (.ireturn, 1) := by decide +kernel
theorem d_M_look_27 : decode c_M_look 27 = .ok (.aload_n 0, 1) := by decide +kernel
theorem d_M_look_28 : decode c_M_look 28 = .ok (.iconst 0, 1) := by decide +kernel
theorem d_M_look_29 : decode c_M_look 29 = .ok (.putfield 40, 3) := by decide +kernel
theorem d_M_look_32 : decode c_M_look 32 = .ok (.iload_n 2, 1) := by decide +kernel
theorem d_M_look_33 : decode c_M_look 33 = .ok (.tableswitch 70 0 4 #[35, 42, 49, 56, 63], 35) := by decide +kernel
theorem d_M_look_68 : decode c_M_look 68 = .ok (.aload_n 0, 1) := by decide +kernel
theorem d_M_look_69 : decode c_M_look 69 = .ok (.getfield 7, 3) := by decide +kernel
theorem d_M_look_72 : decode c_M_look 72 = .ok (.iload_n 1, 1) := by decide +kernel
theorem d_M_look_73 : decode c_M_look 73 = .ok (.iaload, 1) := by decide +kernel
theorem d_M_look_74 : decode c_M_look 74 = .ok (.ireturn, 1) := by decide +kernel
theorem d_M_look_75 : decode c_M_look 75 = .ok (.aload_n 0, 1) := by decide +kernel
theorem d_M_look_76 : decode c_M_look 76 = .ok (.getfield 13, 3) := by decide +kernel
theorem d_M_look_79 : decode c_M_look 79 = .ok (.iload_n 1, 1) := by decide +kernel
theorem d_M_look_80 : decode c_M_look 80 = .ok (.iaload, 1) := by decide +kernel
theorem d_M_look_81 : decode c_M_look 81 = .ok (.ireturn, 1) := by decide +kernel
theorem d_M_look_82 : decode c_M_look 82 = .ok (.aload_n 0, 1) := by decide +kernel
theorem d_M_look_83 : decode c_M_look 83 = .ok (.getfield 16, 3) := by decide +kernel
theorem d_M_look_86 : decode c_M_look 86 = .ok (.iload_n 1, 1) := by decide +kernel
theorem d_M_look_87 : decode c_M_look 87 = .ok (.iaload, 1) := by decide +kernel
theorem d_M_look_88 : decode c_M_look 88 = .ok (.ireturn, 1) := by decide +kernel
theorem d_M_look_89 : decode c_M_look 89 = .ok (.aload_n 0, 1) := by decide +kernel
theorem d_M_look_90 : decode c_M_look 90 = .ok (.getfield 19, 3) := by decide +kernel
theorem d_M_look_93 : decode c_M_look 93 = .ok (.iload_n 1, 1) := by decide +kernel
theorem d_M_look_94 : decode c_M_look 94 = .ok (.iaload, 1) := by decide +kernel
theorem d_M_look_95 : decode c_M_look 95 = .ok (.ireturn, 1) := by decide +kernel
theorem d_M_look_96 : decode c_M_look 96 = .ok (.aload_n 0, 1) := by decide +kernel
theorem d_M_look_97 : decode c_M_look 97 = .ok (.getfield 22, 3) := by decide +kernel
theorem d_M_look_100 : decode c_M_look 100 = .ok (.iload_n 1, 1) := by decide +kernel
theorem d_M_look_101 : decode c_M_look 101 = .ok (.iaload, 1) := by decide +kernel
theorem d_M_look_102 : decode c_M_look 102 = .ok (.ireturn, 1) := by decide +kernel
theorem d_M_look_103 : decode c_M_look 103 = .ok (.aload_n 0, 1) := by decide +kernel
theorem d_M_look_104 : decode c_M_look 104 = .ok (.iload_n 1, 1) := by decide +kernel
theorem d_M_look_105 : decode c_M_look 105 = .ok (.aload_n 0, 1) := by decide +kernel
theorem d_M_look_106 : decode c_M_look 106 = .ok (.getfield 63, 3) := by decide +kernel
theorem d_M_look_109 : decode c_M_look 109 = .ok (.invokevirtual 66, 3) := by decide +kernel
theorem d_M_look_112 : decode c_M_look 112 = .ok (.ifCond .eq 7, 3) := by decide +kernel
theorem d_M_look_115 : decode c_M_look 115 = .ok (.iconst 1, 1) := by decide +kernel
theorem d_M_look_116 : decode c_M_look 116 = .ok (.goto 4, 3) := by decide +kernel
theorem d_M_look_119 : decode c_M_look 119 = .ok (.iconst 0, 1) := by decide +kernel
theorem d_M_look_120 : decode c_M_look 120 = .ok (.ireturn, 1) := by decide +kernel
theorem d_M_refuse_0 : decode c_M_refuse 0 = .ok (.aload_n 0, 1) := by decide +kernel
theorem d_M_refuse_1 : decode c_M_refuse 1 = .ok (.iload_n 1, 1) := by decide +kernel
theorem d_M_refuse_2 : decode c_M_refuse 2 = .ok (.putfield 40, 3) := by decide +kernel
theorem d_M_refuse_5 : decode c_M_refuse 5 = .ok (.iconst 0, 1) := by decide +kernel
theorem d_M_refuse_6 : decode c_M_refuse 6 = .ok (.ireturn, 1) := by decide +kernel
theorem d_M_changed_0 : decode c_M_changed 0 = .ok (.aload_n 0, 1) := by decide +kernel
theorem d_M_changed_1 : decode c_M_changed 1 = .ok (.iload_n 3, 1) := by decide +kernel
theorem d_M_changed_2 : decode c_M_changed 2 = .ok (.invokestatic 56, 3) := by decide +kernel
theorem d_M_changed_5 : decode c_M_changed 5 = .ok (.iload_n 1, 1) := by decide +kernel
theorem d_M_changed_6 : decode c_M_changed 6 = .ok (.iload_n 2, 1) := by decide +kernel
theorem d_M_changed_7 : decode c_M_changed 7 = .ok (.invokevirtual 88, 3) := by decide +kernel
theorem d_M_changed_10 : decode c_M_changed 10 = .ok (.ifCond .ne 5, 3) := by decide +kernel
theorem d_M_changed_13 : decode c_M_changed 13 = .ok (.iconst 0, 1) := by decide +kernel
theorem d_M_changed_14 : decode c_M_changed 14 = .ok (.ireturn, 1) := by decide +kernel
theorem d_M_changed_15 : decode c_M_changed 15 = .ok (.iconst 0, 1) := by decide +kernel
theorem d_M_changed_16 : decode c_M_changed 16 = .ok (.istore 4, 2) := by decide +kernel
theorem d_M_changed_18 : decode c_M_changed 18 = .ok (.iconst 0, 1) := by decide +kernel
theorem d_M_changed_19 : decode c_M_changed 19 = .ok (.istore 5, 2) := by decide +kernel
theorem d_M_changed_21 : decode c_M_changed 21 = .ok (.iload 5, 2) := by decide +kernel
theorem d_M_changed_23 : decode c_M_changed 23 = .ok (.bipush 20, 2) := by decide +kernel
theorem d_M_changed_25 : decode c_M_changed 25 = .ok (.if_icmp .ge 52, 3) := by decide +kernel
theorem d_M_changed_28 : decode c_M_changed 28 = .ok (.aload_n 0, 1) := by decide +kernel
theorem d_M_changed_29 : decode c_M_changed 29 = .ok (.iload_n 1, 1) := by decide +kernel
theorem d_M_changed_30 : decode c_M_changed 30 = .ok (.iload_n 2, 1) := by decide +kernel
theorem d_M_changed_31 : decode c_M_changed 31 = .ok (.invokevirtual 92, 3) := by decide +kernel
theorem d_M_changed_34 : decode c_M_changed 34 = .ok (.aload_n 0, 1) := by decide +kernel
theorem d_M_changed_35 : decode c_M_changed 35 = .ok (.getfield 25, 3) := by decide +kernel
theorem d_M_changed_38 : decode c_M_changed 38 = .ok (.iload 5, 2) := by decide +kernel
theorem d_M_changed_40 : decode c_M_changed 40 = .ok (.iaload, 1) := by decide +kernel
theorem d_M_changed_41 : decode c_M_changed 41 = .ok (.istore 6, 2) := by decide +kernel
theorem d_M_changed_43 : decode c_M_changed 43 = .ok (.aload_n 0, 1) := by decide +kernel
theorem d_M_changed_44 : decode c_M_changed 44 = .ok (.iload_n 1, 1) := by decide +kernel
theorem d_M_changed_45 : decode c_M_changed 45 = .ok (.iload_n 3, 1) := by decide +kernel
theorem d_M_changed_46 : decode c_M_changed 46 = .ok (.invokevirtual 92, 3) := by decide +kernel
theorem d_M_changed_49 : decode c_M_changed 49 = .ok (.iload 4, 2) := by decide +kernel
theorem d_M_changed_51 : decode c_M_changed 51 = .ok (.aload_n 0, 1) := by decide +kernel
theorem d_M_changed_52 : decode c_M_changed 52 = .ok (.getfield 25, 3) := by decide +kernel
theorem d_M_changed_55 : decode c_M_changed 55 = .ok (.iload 5, 2) := by decide +kernel
theorem d_M_changed_57 : decode c_M_changed 57 = .ok (.iaload, 1) := by decide +kernel
theorem d_M_changed_58 : decode c_M_changed 58 = .ok (.iload 6, 2) := by decide +kernel
theorem d_M_changed_60 : decode c_M_changed 60 = .ok (.if_icmp .eq 7, 3) := by decide +kernel
theorem d_M_changed_63 : decode c_M_changed 63 = .ok (.iconst 1, 1) := by decide +kernel
theorem d_M_changed_64 : decode c_M_changed 64 = .ok (.goto 4, 3) := by decide +kernel
theorem d_M_changed_67 : decode c_M_changed 67 = .ok (.iconst 0, 1) := by decide +kernel
theorem d_M_changed_68 : decode c_M_changed 68 = .ok (.iadd, 1) := by decide +kernel
theorem d_M_changed_69 : decode c_M_changed 69 = .ok (.istore 4, 2) := by decide +kernel
theorem d_M_changed_71 : decode c_M_changed 71 = .ok (.iinc 5 1, 3) := by decide +kernel
theorem d_M_changed_74 : decode c_M_changed 74 = .ok (.goto (-53), 3) := by decide +kernel
theorem d_M_changed_77 : decode c_M_changed 77 = .ok (.iconst 0, 1) := by decide +kernel
theorem d_M_changed_78 : decode c_M_changed 78 = .ok (.istore 5, 2) := by decide +kernel
theorem d_M_changed_80 : decode c_M_changed 80 = .ok (.iload 5, 2) := by decide +kernel
theorem d_M_changed_82 : decode c_M_changed 82 = .ok (.bipush 10, 2) := by decide +kernel
theorem d_M_changed_84 : decode c_M_changed 84 = .ok (.if_icmp .ge 73, 3) := by decide +kernel
theorem d_M_changed_87 : decode c_M_changed 87 = .ok (.aload_n 0, 1) := by decide +kernel
theorem d_M_changed_88 : decode c_M_changed 88 = .ok (.iload_n 1, 1) := by decide +kernel
theorem d_M_changed_89 : decode c_M_changed 89 = .ok (.iload_n 2, 1) := by decide +kernel
theorem d_M_changed_90 : decode c_M_changed 90 = .ok (.invokevirtual 92, 3) := by decide +kernel
theorem d_M_changed_93 : decode c_M_changed 93 = .ok (.aload_n 0, 1) := by decide +kernel
theorem d_M_changed_94 : decode c_M_changed 94 = .ok (.getfield 28, 3) := by decide +kernel
theorem d_M_changed_97 : decode c_M_changed 97 = .ok (.iload 5, 2) := by decide +kernel
theorem d_M_changed_99 : decode c_M_changed 99 = .ok (.iaload, 1) := by decide +kernel
theorem d_M_changed_100 : decode c_M_changed 100 = .ok (.istore 6, 2) := by decide +kernel
theorem d_M_changed_102 : decode c_M_changed 102 = .ok (.aload_n 0, 1) := by decide +kernel
theorem d_M_changed_103 : decode c_M_changed 103 = .ok (.getfield 31, 3) := by decide +kernel
theorem d_M_changed_106 : decode c_M_changed 106 = .ok (.iload 5, 2) := by decide +kernel
theorem d_M_changed_108 : decode c_M_changed 108 = .ok (.iaload, 1) := by decide +kernel
theorem d_M_changed_109 : decode c_M_changed 109 = .ok (.istore 7, 2) := by decide +kernel
theorem d_M_changed_111 : decode c_M_changed 111 = .ok (.aload_n 0, 1) := by decide +kernel
theorem d_M_changed_112 : decode c_M_changed 112 = .ok (.iload_n 1, 1) := by decide +kernel
theorem d_M_changed_113 : decode c_M_changed 113 = .ok (.iload_n 3, 1) := by decide +kernel
theorem d_M_changed_114 : decode c_M_changed 114 = .ok (.invokevirtual 92, 3) := by decide +kernel
theorem d_M_changed_117 : decode c_M_changed 117 = .ok (.iload 4, 2) := by decide +kernel
theorem d_M_changed_119 : decode c_M_changed 119 = .ok (.aload_n 0, 1) := by decide +kernel
theorem d_M_changed_120 : decode c_M_changed 120 = .ok (.getfield 28, 3) := by decide +kernel
theorem d_M_changed_123 : decode c_M_changed 123 = .ok (.iload 5, 2) := by decide +kernel
theorem d_M_changed_125 : decode c_M_changed 125 = .ok (.iaload, 1) := by decide +kernel
theorem d_M_changed_126 : decode c_M_changed 126 = .ok (.iload 6, 2) := by decide +kernel
theorem d_M_changed_128 : decode c_M_changed 128 = .ok (.if_icmp .ne 15, 3) := by decide +kernel
theorem d_M_changed_131 : decode c_M_changed 131 = .ok (.aload_n 0, 1) := by decide +kernel
theorem d_M_changed_132 : decode c_M_changed 132 = .ok (.getfield 31, 3) := by decide +kernel
theorem d_M_changed_135 : decode c_M_changed 135 = .ok (.iload 5, 2) := by decide +kernel
theorem d_M_changed_137 : decode c_M_changed 137 = .ok (.iaload, 1) := by decide +kernel
theorem d_M_changed_138 : decode c_M_changed 138 = .ok (.iload 7, 2) := by decide +kernel
theorem d_M_changed_140 : decode c_M_changed 140 = .ok (.if_icmp .eq 7, 3) := by decide +kernel
theorem d_M_changed_143 : decode c_M_changed 143 = .ok (.iconst 1, 1) := by decide +kernel
theorem d_M_changed_144 : decode c_M_changed 144 = .ok (.goto 4, 3) := by decide +kernel
theorem d_M_changed_147 : decode c_M_changed 147 = .ok (.iconst 0, 1) := by decide +kernel
theorem d_M_changed_148 : decode c_M_changed 148 = .ok (.iadd, 1) := by decide +kernel
theorem d_M_changed_149 : decode c_M_changed 149 = .ok (.istore 4, 2) := by decide +kernel
theorem d_M_changed_151 : decode c_M_changed 151 = .ok (.iinc 5 1, 3) := by decide +kernel
theorem d_M_changed_154 : decode c_M_changed 154 = .ok (.goto (-74), 3) := by decide +kernel
theorem d_M_changed_157 : decode c_M_changed 157 = .ok (.iload 4, 2) := by decide +kernel
theorem d_M_changed_159 : decode c_M_changed 159 = .ok (.ireturn, 1) := by decide +kernel
theorem d_M_count_0 : decode c_M_count 0 = .ok (.aload_n 0, 1) := by decide +kernel
theorem d_M_count_1 : decode c_M_count 1 = .ok (.iconst 0, 1) := by decide +kernel
theorem d_M_count_2 : decode c_M_count 2 = .ok (.putfield 40, 3) := by decide +kernel
theorem d_M_count_5 : decode c_M_count 5 = .ok (.iconst 0, 1) := by decide +kernel
theorem d_M_count_6 : decode c_M_count 6 = .ok (.istore_n 2, 1) := by decide +kernel
theorem d_M_count_7 : decode c_M_count 7 = .ok (.iconst 0, 1) := by decide +kernel
theorem d_M_count_8 : decode c_M_count 8 = .ok (.istore_n 3, 1) := by decide +kernel
theorem d_M_count_9 : decode c_M_count 9 = .ok (.iload_n 3, 1) := by decide +kernel
theorem d_M_count_10 : decode c_M_count 10 = .ok (.aload_n 0, 1) := by decide +kernel
theorem d_M_count_11 : decode c_M_count 11 = .ok (.getfield 50, 3) := by decide +kernel
theorem d_M_count_14 : decode c_M_count 14 = .ok (.if_icmp .ge 29, 3) := by decide +kernel
theorem d_M_count_17 : decode c_M_count 17 = .ok (.iload_n 2, 1) := by decide +kernel
theorem d_M_count_18 : decode c_M_count 18 = .ok (.aload_n 0, 1) := by decide +kernel
theorem d_M_count_19 : decode c_M_count 19 = .ok (.iload_n 3, 1) := by decide +kernel
theorem d_M_count_20 : decode c_M_count 20 = .ok (.aload_n 0, 1) := by decide +kernel
theorem d_M_count_21 : decode c_M_count 21 = .ok (.getfield 63, 3) := by decide +kernel
theorem d_M_count_24 : decode c_M_count 24 = .ok (.invokevirtual 66, 3) := by decide +kernel
theorem d_M_count_27 : decode c_M_count 27 = .ok (.ifCond .eq 7, 3) := by decide +kernel
theorem d_M_count_30 : decode c_M_count 30 = .ok (.iconst 1, 1) := by decide +kernel
theorem d_M_count_31 : decode c_M_count 31 = .ok (.goto 4, 3) := by decide +kernel
theorem d_M_count_34 : decode c_M_count 34 = .ok (.iconst 0, 1) := by decide +kernel
theorem d_M_count_35 : decode c_M_count 35 = .ok (.iadd, 1) := by decide +kernel
theorem d_M_count_36 : decode c_M_count 36 = .ok (.istore_n 2, 1) := by decide +kernel
theorem d_M_count_37 : decode c_M_count 37 = .ok (.iinc 3 1, 3) := by decide +kernel
theorem d_M_count_40 : decode c_M_count 40 = .ok (.goto (-31), 3) := by decide +kernel
theorem d_M_count_43 : decode c_M_count 43 = .ok (.iload_n 1, 1) := by decide +kernel
theorem d_M_count_44 : decode c_M_count 44 = .ok (.ifCond .ne 10, 3) := by decide +kernel
theorem d_M_count_47 : decode c_M_count 47 = .ok (.aload_n 0, 1) := by decide +kernel
theorem d_M_count_48 : decode c_M_count 48 = .ok (.getfield 50, 3) := by decide +kernel
theorem d_M_count_51 : decode c_M_count 51 = .ok (.goto 37, 3) := by decide +kernel
theorem d_M_count_54 : decode c_M_count 54 = .ok (.iload_n 1, 1) := by decide +kernel
theorem d_M_count_55 : decode c_M_count 55 = .ok (.iconst 1, 1) := by decide +kernel
theorem d_M_count_56 : decode c_M_count 56 = .ok (.if_icmp .ne 10, 3) := by decide +kernel
theorem d_M_count_59 : decode c_M_count 59 = .ok (.aload_n 0, 1) := by decide +kernel
theorem d_M_count_60 : decode c_M_count 60 = .ok (.getfield 63, 3) := by decide +kernel
theorem d_M_count_63 : decode c_M_count 63 = .ok (.goto 25, 3) := by decide +kernel
theorem d_M_count_66 : decode c_M_count 66 = .ok (.iload_n 1, 1) := by decide +kernel
theorem d_M_count_67 : decode c_M_count 67 = .ok (.iconst 2, 1) := by decide +kernel
theorem d_M_count_68 : decode c_M_count 68 = .ok (.if_icmp .ne 10, 3) := by decide +kernel
theorem d_M_count_71 : decode c_M_count 71 = .ok (.aload_n 0, 1) := by decide +kernel
theorem d_M_count_72 : decode c_M_count 72 = .ok (.getfield 60, 3) := by decide +kernel
theorem d_M_count_75 : decode c_M_count 75 = .ok (.goto 13, 3) := by decide +kernel
theorem d_M_count_78 : decode c_M_count 78 = .ok (.iload_n 1, 1) := by decide +kernel
theorem d_M_count_79 : decode c_M_count 79 = .ok (.iconst 3, 1) := by decide +kernel
theorem d_M_count_80 : decode c_M_count 80 = .ok (.if_icmp .ne 7, 3) := by decide +kernel
theorem d_M_count_83 : decode c_M_count 83 = .ok (.iload_n 2, 1) := by decide +kernel
theorem d_M_count_84 : decode c_M_count 84 = .ok (.goto 4, 3) := by decide +kernel
theorem d_M_count_87 : decode c_M_count 87 = .ok (.iconst (-1), 1) := by decide +kernel
theorem d_M_count_88 : decode c_M_count 88 = .ok (.ireturn, 1) := by decide +kernel
theorem d_L_law_0 : decode c_L_law 0 = .ok (.new 8, 3) := by decide +kernel
theorem d_L_law_3 : decode c_L_law 3 = .ok (.dup, 1) := by decide +kernel
theorem d_L_law_4 : decode c_L_law 4 = .ok (.invokespecial 43, 3) := by decide +kernel
theorem d_L_law_7 : decode c_L_law 7 = .ok (.astore_n 1, 1) := by decide +kernel
theorem d_L_law_8 : decode c_L_law 8 = .ok (.new 44, 3) := by decide +kernel
theorem d_L_law_11 : decode c_L_law 11 = .ok (.dup, 1) := by decide +kernel
theorem d_L_law_12 : decode c_L_law 12 = .ok (.invokespecial 46, 3) := by decide +kernel
theorem d_L_law_15 : decode c_L_law 15 = .ok (.astore_n 2, 1) := by decide +kernel
theorem d_L_law_16 : decode c_L_law 16 = .ok (.iconst 1, 1) := by decide +kernel
theorem d_L_law_17 : decode c_L_law 17 = .ok (.newarray .long, 2) := by decide +kernel
theorem d_L_law_19 : decode c_L_law 19 = .ok (.astore_n 3, 1) := by decide +kernel
theorem d_L_law_20 : decode c_L_law 20 = .ok (.iconst 0, 1) := by decide +kernel
theorem d_L_law_21 : decode c_L_law 21 = .ok (.istore 4, 2) := by decide +kernel
theorem d_L_law_23 : decode c_L_law 23 = .ok (.iload 4, 2) := by decide +kernel
theorem d_L_law_25 : decode c_L_law 25 = .ok (.aload_n 0, 1) := by decide +kernel
theorem d_L_law_26 : decode c_L_law 26 = .ok (.arraylength, 1) := by decide +kernel
theorem d_L_law_27 : decode c_L_law 27 = .ok (.iconst 5, 1) := by decide +kernel
theorem d_L_law_28 : decode c_L_law 28 = .ok (.isub, 1) := by decide +kernel
theorem d_L_law_29 : decode c_L_law 29 = .ok (.if_icmp .gt 896, 3) := by decide +kernel
theorem d_L_law_32 : decode c_L_law 32 = .ok (.aload_n 0, 1) := by decide +kernel
theorem d_L_law_33 : decode c_L_law 33 = .ok (.iload 4, 2) := by decide +kernel
theorem d_L_law_35 : decode c_L_law 35 = .ok (.iaload, 1) := by decide +kernel
theorem d_L_law_36 : decode c_L_law 36 = .ok (.bipush 15, 2) := by decide +kernel
theorem d_L_law_38 : decode c_L_law 38 = .ok (.iand, 1) := by decide +kernel
theorem d_L_law_39 : decode c_L_law 39 = .ok (.tableswitch 880 0 11 #[61, 122, 147, 227, 307, 387, 467, 547, 639, 707, 775, 855], 61) := by decide +kernel
theorem d_L_law_100 : decode c_L_law 100 = .ok (.aload_n 1, 1) := by decide +kernel
theorem d_L_law_101 : decode c_L_law 101 = .ok (.aload_n 0, 1) := by decide +kernel
theorem d_L_law_102 : decode c_L_law 102 = .ok (.iload 4, 2) := by decide +kernel
theorem d_L_law_104 : decode c_L_law 104 = .ok (.iconst 1, 1) := by decide +kernel
theorem d_L_law_105 : decode c_L_law 105 = .ok (.iadd, 1) := by decide +kernel
theorem d_L_law_106 : decode c_L_law 106 = .ok (.iaload, 1) := by decide +kernel
theorem d_L_law_107 : decode c_L_law 107 = .ok (.aload_n 0, 1) := by decide +kernel
theorem d_L_law_108 : decode c_L_law 108 = .ok (.iload 4, 2) := by decide +kernel
theorem d_L_law_110 : decode c_L_law 110 = .ok (.iconst 2, 1) := by decide +kernel
theorem d_L_law_111 : decode c_L_law 111 = .ok (.iadd, 1) := by decide +kernel
theorem d_L_law_112 : decode c_L_law 112 = .ok (.iaload, 1) := by decide +kernel
theorem d_L_law_113 : decode c_L_law 113 = .ok (.aload_n 0, 1) := by decide +kernel
theorem d_L_law_114 : decode c_L_law 114 = .ok (.iload 4, 2) := by decide +kernel
theorem d_L_law_116 : decode c_L_law 116 = .ok (.iconst 3, 1) := by decide +kernel
theorem d_L_law_117 : decode c_L_law 117 = .ok (.iadd, 1) := by decide +kernel
theorem d_L_law_118 : decode c_L_law 118 = .ok (.iaload, 1) := by decide +kernel
theorem d_L_law_119 : decode c_L_law 119 = .ok (.aload_n 0, 1) := by decide +kernel
theorem d_L_law_120 : decode c_L_law 120 = .ok (.iload 4, 2) := by decide +kernel
theorem d_L_law_122 : decode c_L_law 122 = .ok (.iconst 4, 1) := by decide +kernel
theorem d_L_law_123 : decode c_L_law 123 = .ok (.iadd, 1) := by decide +kernel
theorem d_L_law_124 : decode c_L_law 124 = .ok (.iaload, 1) := by decide +kernel
theorem d_L_law_125 : decode c_L_law 125 = .ok (.invokevirtual 47, 3) := by decide +kernel
theorem d_L_law_128 : decode c_L_law 128 = .ok (.aload_n 2, 1) := by decide +kernel
theorem d_L_law_129 : decode c_L_law 129 = .ok (.aload_n 0, 1) := by decide +kernel
theorem d_L_law_130 : decode c_L_law 130 = .ok (.iload 4, 2) := by decide +kernel
theorem d_L_law_132 : decode c_L_law 132 = .ok (.iconst 1, 1) := by decide +kernel
theorem d_L_law_133 : decode c_L_law 133 = .ok (.iadd, 1) := by decide +kernel
theorem d_L_law_134 : decode c_L_law 134 = .ok (.iaload, 1) := by decide +kernel
theorem d_L_law_135 : decode c_L_law 135 = .ok (.aload_n 0, 1) := by decide +kernel
theorem d_L_law_136 : decode c_L_law 136 = .ok (.iload 4, 2) := by decide +kernel
theorem d_L_law_138 : decode c_L_law 138 = .ok (.iconst 2, 1) := by decide +kernel
theorem d_L_law_139 : decode c_L_law 139 = .ok (.iadd, 1) := by decide +kernel
theorem d_L_law_140 : decode c_L_law 140 = .ok (.iaload, 1) := by decide +kernel
theorem d_L_law_141 : decode c_L_law 141 = .ok (.aload_n 0, 1) := by decide +kernel
theorem d_L_law_142 : decode c_L_law 142 = .ok (.iload 4, 2) := by decide +kernel
theorem d_L_law_144 : decode c_L_law 144 = .ok (.iconst 3, 1) := by decide +kernel
theorem d_L_law_145 : decode c_L_law 145 = .ok (.iadd, 1) := by decide +kernel
theorem d_L_law_146 : decode c_L_law 146 = .ok (.iaload, 1) := by decide +kernel
theorem d_L_law_147 : decode c_L_law 147 = .ok (.aload_n 0, 1) := by decide +kernel
theorem d_L_law_148 : decode c_L_law 148 = .ok (.iload 4, 2) := by decide +kernel
theorem d_L_law_150 : decode c_L_law 150 = .ok (.iconst 4, 1) := by decide +kernel
theorem d_L_law_151 : decode c_L_law 151 = .ok (.iadd, 1) := by decide +kernel
theorem d_L_law_152 : decode c_L_law 152 = .ok (.iaload, 1) := by decide +kernel
theorem d_L_law_153 : decode c_L_law 153 = .ok (.invokevirtual 50, 3) := by decide +kernel
theorem d_L_law_156 : decode c_L_law 156 = .ok (.if_icmp .eq 763, 3) := by decide +kernel
theorem d_L_law_159 : decode c_L_law 159 = .ok (.iconst 0, 1) := by decide +kernel
theorem d_L_law_160 : decode c_L_law 160 = .ok (.ireturn, 1) := by decide +kernel
theorem d_L_law_161 : decode c_L_law 161 = .ok (.aload_n 1, 1) := by decide +kernel
theorem d_L_law_162 : decode c_L_law 162 = .ok (.aload_n 0, 1) := by decide +kernel
theorem d_L_law_163 : decode c_L_law 163 = .ok (.iload 4, 2) := by decide +kernel
theorem d_L_law_165 : decode c_L_law 165 = .ok (.iconst 1, 1) := by decide +kernel
theorem d_L_law_166 : decode c_L_law 166 = .ok (.iadd, 1) := by decide +kernel
theorem d_L_law_167 : decode c_L_law 167 = .ok (.iaload, 1) := by decide +kernel
theorem d_L_law_168 : decode c_L_law 168 = .ok (.invokevirtual 51, 3) := by decide +kernel
theorem d_L_law_171 : decode c_L_law 171 = .ok (.aload_n 2, 1) := by decide +kernel
theorem d_L_law_172 : decode c_L_law 172 = .ok (.aload_n 0, 1) := by decide +kernel
theorem d_L_law_173 : decode c_L_law 173 = .ok (.iload 4, 2) := by decide +kernel
theorem d_L_law_175 : decode c_L_law 175 = .ok (.iconst 1, 1) := by decide +kernel
theorem d_L_law_176 : decode c_L_law 176 = .ok (.iadd, 1) := by decide +kernel
theorem d_L_law_177 : decode c_L_law 177 = .ok (.iaload, 1) := by decide +kernel
theorem d_L_law_178 : decode c_L_law 178 = .ok (.invokevirtual 55, 3) := by decide +kernel
theorem d_L_law_181 : decode c_L_law 181 = .ok (.if_icmp .eq 738, 3) := by decide +kernel
theorem d_L_law_184 : decode c_L_law 184 = .ok (.iconst 0, 1) := by decide +kernel
theorem d_L_law_185 : decode c_L_law 185 = .ok (.ireturn, 1) := by decide +kernel
theorem d_L_law_186 : decode c_L_law 186 = .ok (.aload_n 1, 1) := by decide +kernel
theorem d_L_law_187 : decode c_L_law 187 = .ok (.aload_n 0, 1) := by decide +kernel
theorem d_L_law_188 : decode c_L_law 188 = .ok (.iload 4, 2) := by decide +kernel
theorem d_L_law_190 : decode c_L_law 190 = .ok (.iconst 1, 1) := by decide +kernel
theorem d_L_law_191 : decode c_L_law 191 = .ok (.iadd, 1) := by decide +kernel
theorem d_L_law_192 : decode c_L_law 192 = .ok (.iaload, 1) := by decide +kernel
theorem d_L_law_193 : decode c_L_law 193 = .ok (.aload_n 0, 1) := by decide +kernel
theorem d_L_law_194 : decode c_L_law 194 = .ok (.iload 4, 2) := by decide +kernel
theorem d_L_law_196 : decode c_L_law 196 = .ok (.iconst 2, 1) := by decide +kernel
theorem d_L_law_197 : decode c_L_law 197 = .ok (.iadd, 1) := by decide +kernel
theorem d_L_law_198 : decode c_L_law 198 = .ok (.iaload, 1) := by decide +kernel
theorem d_L_law_199 : decode c_L_law 199 = .ok (.aload_n 0, 1) := by decide +kernel
theorem d_L_law_200 : decode c_L_law 200 = .ok (.iload 4, 2) := by decide +kernel
theorem d_L_law_202 : decode c_L_law 202 = .ok (.iconst 3, 1) := by decide +kernel
theorem d_L_law_203 : decode c_L_law 203 = .ok (.iadd, 1) := by decide +kernel
theorem d_L_law_204 : decode c_L_law 204 = .ok (.iaload, 1) := by decide +kernel
theorem d_L_law_205 : decode c_L_law 205 = .ok (.aload_n 3, 1) := by decide +kernel
theorem d_L_law_206 : decode c_L_law 206 = .ok (.invokestatic 56, 3) := by decide +kernel
theorem d_L_law_209 : decode c_L_law 209 = .ok (.istore 5, 2) := by decide +kernel
theorem d_L_law_211 : decode c_L_law 211 = .ok (.aload_n 2, 1) := by decide +kernel
theorem d_L_law_212 : decode c_L_law 212 = .ok (.aload_n 0, 1) := by decide +kernel
theorem d_L_law_213 : decode c_L_law 213 = .ok (.iload 4, 2) := by decide +kernel
theorem d_L_law_215 : decode c_L_law 215 = .ok (.iconst 1, 1) := by decide +kernel
theorem d_L_law_216 : decode c_L_law 216 = .ok (.iadd, 1) := by decide +kernel
theorem d_L_law_217 : decode c_L_law 217 = .ok (.iaload, 1) := by decide +kernel
theorem d_L_law_218 : decode c_L_law 218 = .ok (.aload_n 0, 1) := by decide +kernel
theorem d_L_law_219 : decode c_L_law 219 = .ok (.iload 4, 2) := by decide +kernel
theorem d_L_law_221 : decode c_L_law 221 = .ok (.iconst 2, 1) := by decide +kernel
theorem d_L_law_222 : decode c_L_law 222 = .ok (.iadd, 1) := by decide +kernel
theorem d_L_law_223 : decode c_L_law 223 = .ok (.iaload, 1) := by decide +kernel
theorem d_L_law_224 : decode c_L_law 224 = .ok (.aload_n 0, 1) := by decide +kernel
theorem d_L_law_225 : decode c_L_law 225 = .ok (.iload 4, 2) := by decide +kernel
theorem d_L_law_227 : decode c_L_law 227 = .ok (.iconst 3, 1) := by decide +kernel
theorem d_L_law_228 : decode c_L_law 228 = .ok (.iadd, 1) := by decide +kernel
theorem d_L_law_229 : decode c_L_law 229 = .ok (.iaload, 1) := by decide +kernel
theorem d_L_law_230 : decode c_L_law 230 = .ok (.invokevirtual 61, 3) := by decide +kernel
theorem d_L_law_233 : decode c_L_law 233 = .ok (.istore 6, 2) := by decide +kernel
theorem d_L_law_235 : decode c_L_law 235 = .ok (.aload_n 2, 1) := by decide +kernel
theorem d_L_law_236 : decode c_L_law 236 = .ok (.invokevirtual 62, 3) := by decide +kernel
theorem d_L_law_239 : decode c_L_law 239 = .ok (.iload 5, 2) := by decide +kernel
theorem d_L_law_241 : decode c_L_law 241 = .ok (.if_icmp .eq 5, 3) := by decide +kernel
theorem d_L_law_244 : decode c_L_law 244 = .ok (.iconst 0, 1) := by decide +kernel
theorem d_L_law_245 : decode c_L_law 245 = .ok (.ireturn, 1) := by decide +kernel
theorem d_L_law_246 : decode c_L_law 246 = .ok (.iload 5, 2) := by decide +kernel
theorem d_L_law_248 : decode c_L_law 248 = .ok (.ifCond .ne 15, 3) := by decide +kernel
theorem d_L_law_251 : decode c_L_law 251 = .ok (.aload_n 3, 1) := by decide +kernel
theorem d_L_law_252 : decode c_L_law 252 = .ok (.iconst 0, 1) := by decide +kernel
theorem d_L_law_253 : decode c_L_law 253 = .ok (.laload, 1) := by decide +kernel
theorem d_L_law_254 : decode c_L_law 254 = .ok (.iload 6, 2) := by decide +kernel
theorem d_L_law_256 : decode c_L_law 256 = .ok (.i2l, 1) := by decide +kernel
theorem d_L_law_257 : decode c_L_law 257 = .ok (.lcmp, 1) := by decide +kernel
theorem d_L_law_258 : decode c_L_law 258 = .ok (.ifCond .eq 5, 3) := by decide +kernel
theorem d_L_law_261 : decode c_L_law 261 = .ok (.iconst 0, 1) := by decide +kernel
theorem d_L_law_262 : decode c_L_law 262 = .ok (.ireturn, 1) := by decide +kernel
theorem d_L_law_263 : decode c_L_law 263 = .ok (.goto 656, 3) := by decide +kernel
theorem d_L_law_266 : decode c_L_law 266 = .ok (.aload_n 1, 1) := by decide +kernel
theorem d_L_law_267 : decode c_L_law 267 = .ok (.aload_n 0, 1) := by decide +kernel
theorem d_L_law_268 : decode c_L_law 268 = .ok (.iload 4, 2) := by decide +kernel
theorem d_L_law_270 : decode c_L_law 270 = .ok (.iconst 1, 1) := by decide +kernel
theorem d_L_law_271 : decode c_L_law 271 = .ok (.iadd, 1) := by decide +kernel
theorem d_L_law_272 : decode c_L_law 272 = .ok (.iaload, 1) := by decide +kernel
theorem d_L_law_273 : decode c_L_law 273 = .ok (.aload_n 0, 1) := by decide +kernel
theorem d_L_law_274 : decode c_L_law 274 = .ok (.iload 4, 2) := by decide +kernel
theorem d_L_law_276 : decode c_L_law 276 = .ok (.iconst 2, 1) := by decide +kernel
theorem d_L_law_277 : decode c_L_law 277 = .ok (.iadd, 1) := by decide +kernel
theorem d_L_law_278 : decode c_L_law 278 = .ok (.iaload, 1) := by decide +kernel
theorem d_L_law_279 : decode c_L_law 279 = .ok (.aload_n 0, 1) := by decide +kernel
theorem d_L_law_280 : decode c_L_law 280 = .ok (.iload 4, 2) := by decide +kernel
theorem d_L_law_282 : decode c_L_law 282 = .ok (.iconst 3, 1) := by decide +kernel
theorem d_L_law_283 : decode c_L_law 283 = .ok (.iadd, 1) := by decide +kernel
theorem d_L_law_284 : decode c_L_law 284 = .ok (.iaload, 1) := by decide +kernel
theorem d_L_law_285 : decode c_L_law 285 = .ok (.aload_n 3, 1) := by decide +kernel
theorem d_L_law_286 : decode c_L_law 286 = .ok (.invokestatic 66, 3) := by decide +kernel
theorem d_L_law_289 : decode c_L_law 289 = .ok (.istore 5, 2) := by decide +kernel
theorem d_L_law_291 : decode c_L_law 291 = .ok (.aload_n 2, 1) := by decide +kernel
theorem d_L_law_292 : decode c_L_law 292 = .ok (.aload_n 0, 1) := by decide +kernel
theorem d_L_law_293 : decode c_L_law 293 = .ok (.iload 4, 2) := by decide +kernel
theorem d_L_law_295 : decode c_L_law 295 = .ok (.iconst 1, 1) := by decide +kernel
theorem d_L_law_296 : decode c_L_law 296 = .ok (.iadd, 1) := by decide +kernel
theorem d_L_law_297 : decode c_L_law 297 = .ok (.iaload, 1) := by decide +kernel
theorem d_L_law_298 : decode c_L_law 298 = .ok (.aload_n 0, 1) := by decide +kernel
theorem d_L_law_299 : decode c_L_law 299 = .ok (.iload 4, 2) := by decide +kernel
theorem d_L_law_301 : decode c_L_law 301 = .ok (.iconst 2, 1) := by decide +kernel
theorem d_L_law_302 : decode c_L_law 302 = .ok (.iadd, 1) := by decide +kernel
theorem d_L_law_303 : decode c_L_law 303 = .ok (.iaload, 1) := by decide +kernel
theorem d_L_law_304 : decode c_L_law 304 = .ok (.aload_n 0, 1) := by decide +kernel
theorem d_L_law_305 : decode c_L_law 305 = .ok (.iload 4, 2) := by decide +kernel
theorem d_L_law_307 : decode c_L_law 307 = .ok (.iconst 3, 1) := by decide +kernel
theorem d_L_law_308 : decode c_L_law 308 = .ok (.iadd, 1) := by decide +kernel
theorem d_L_law_309 : decode c_L_law 309 = .ok (.iaload, 1) := by decide +kernel
theorem d_L_law_310 : decode c_L_law 310 = .ok (.invokevirtual 68, 3) := by decide +kernel
theorem d_L_law_313 : decode c_L_law 313 = .ok (.istore 6, 2) := by decide +kernel
theorem d_L_law_315 : decode c_L_law 315 = .ok (.aload_n 2, 1) := by decide +kernel
theorem d_L_law_316 : decode c_L_law 316 = .ok (.invokevirtual 62, 3) := by decide +kernel
theorem d_L_law_319 : decode c_L_law 319 = .ok (.iload 5, 2) := by decide +kernel
theorem d_L_law_321 : decode c_L_law 321 = .ok (.if_icmp .eq 5, 3) := by decide +kernel
theorem d_L_law_324 : decode c_L_law 324 = .ok (.iconst 0, 1) := by decide +kernel
theorem d_L_law_325 : decode c_L_law 325 = .ok (.ireturn, 1) := by decide +kernel
theorem d_L_law_326 : decode c_L_law 326 = .ok (.iload 5, 2) := by decide +kernel
theorem d_L_law_328 : decode c_L_law 328 = .ok (.ifCond .ne 15, 3) := by decide +kernel
end
section
theorem d_L_law_331 : decode c_L_law 331 = .ok (.aload_n 3, 1) := by decide +kernel
theorem d_L_law_332 : decode c_L_law 332 = .ok (.iconst 0, 1) := by decide +kernel
theorem d_L_law_333 : decode c_L_law 333 = .ok (.laload, 1) := by decide +kernel
theorem d_L_law_334 : decode c_L_law 334 = .ok (.iload 6, 2) := by decide +kernel
theorem d_L_law_336 : decode c_L_law 336 = .ok (.i2l, 1) := by decide +kernel
theorem d_L_law_337 : decode c_L_law 337 = .ok (.lcmp, 1) := by decide +kernel
theorem d_L_law_338 : decode c_L_law 338 = .ok (.ifCond .eq 5, 3) := by decide +kernel
theorem d_L_law_341 : decode c_L_law 341 = .ok (.iconst 0, 1) := by decide +kernel
theorem d_L_law_342 : decode c_L_law 342 = .ok (.ireturn, 1) := by decide +kernel
theorem d_L_law_343 : decode c_L_law 343 = .ok (.goto 576, 3) := by decide +kernel
theorem d_L_law_346 : decode c_L_law 346 = .ok (.aload_n 1, 1) := by decide +kernel
theorem d_L_law_347 : decode c_L_law 347 = .ok (.aload_n 0, 1) := by decide +kernel
theorem d_L_law_348 : decode c_L_law 348 = .ok (.iload 4, 2) := by decide +kernel
theorem d_L_law_350 : decode c_L_law 350 = .ok (.iconst 1, 1) := by decide +kernel
theorem d_L_law_351 : decode c_L_law 351 = .ok (.iadd, 1) := by decide +kernel
theorem d_L_law_352 : decode c_L_law 352 = .ok (.iaload, 1) := by decide +kernel
theorem d_L_law_353 : decode c_L_law 353 = .ok (.aload_n 0, 1) := by decide +kernel
theorem d_L_law_354 : decode c_L_law 354 = .ok (.iload 4, 2) := by decide +kernel
theorem d_L_law_356 : decode c_L_law 356 = .ok (.iconst 2, 1) := by decide +kernel
theorem d_L_law_357 : decode c_L_law 357 = .ok (.iadd, 1) := by decide +kernel
theorem d_L_law_358 : decode c_L_law 358 = .ok (.iaload, 1) := by decide +kernel
theorem d_L_law_359 : decode c_L_law 359 = .ok (.aload_n 0, 1) := by decide +kernel
theorem d_L_law_360 : decode c_L_law 360 = .ok (.iload 4, 2) := by decide +kernel
theorem d_L_law_362 : decode c_L_law 362 = .ok (.iconst 3, 1) := by decide +kernel
theorem d_L_law_363 : decode c_L_law 363 = .ok (.iadd, 1) := by decide +kernel
theorem d_L_law_364 : decode c_L_law 364 = .ok (.iaload, 1) := by decide +kernel
theorem d_L_law_365 : decode c_L_law 365 = .ok (.aload_n 3, 1) := by decide +kernel
theorem d_L_law_366 : decode c_L_law 366 = .ok (.invokestatic 69, 3) := by decide +kernel
theorem d_L_law_369 : decode c_L_law 369 = .ok (.istore 5, 2) := by decide +kernel
theorem d_L_law_371 : decode c_L_law 371 = .ok (.aload_n 2, 1) := by decide +kernel
theorem d_L_law_372 : decode c_L_law 372 = .ok (.aload_n 0, 1) := by decide +kernel
theorem d_L_law_373 : decode c_L_law 373 = .ok (.iload 4, 2) := by decide +kernel
theorem d_L_law_375 : decode c_L_law 375 = .ok (.iconst 1, 1) := by decide +kernel
theorem d_L_law_376 : decode c_L_law 376 = .ok (.iadd, 1) := by decide +kernel
theorem d_L_law_377 : decode c_L_law 377 = .ok (.iaload, 1) := by decide +kernel
theorem d_L_law_378 : decode c_L_law 378 = .ok (.aload_n 0, 1) := by decide +kernel
theorem d_L_law_379 : decode c_L_law 379 = .ok (.iload 4, 2) := by decide +kernel
theorem d_L_law_381 : decode c_L_law 381 = .ok (.iconst 2, 1) := by decide +kernel
theorem d_L_law_382 : decode c_L_law 382 = .ok (.iadd, 1) := by decide +kernel
theorem d_L_law_383 : decode c_L_law 383 = .ok (.iaload, 1) := by decide +kernel
theorem d_L_law_384 : decode c_L_law 384 = .ok (.aload_n 0, 1) := by decide +kernel
theorem d_L_law_385 : decode c_L_law 385 = .ok (.iload 4, 2) := by decide +kernel
theorem d_L_law_387 : decode c_L_law 387 = .ok (.iconst 3, 1) := by decide +kernel
theorem d_L_law_388 : decode c_L_law 388 = .ok (.iadd, 1) := by decide +kernel
theorem d_L_law_389 : decode c_L_law 389 = .ok (.iaload, 1) := by decide +kernel
theorem d_L_law_390 : decode c_L_law 390 = .ok (.invokevirtual 71, 3) := by decide +kernel
theorem d_L_law_393 : decode c_L_law 393 = .ok (.istore 6, 2) := by decide +kernel
theorem d_L_law_395 : decode c_L_law 395 = .ok (.aload_n 2, 1) := by decide +kernel
theorem d_L_law_396 : decode c_L_law 396 = .ok (.invokevirtual 62, 3) := by decide +kernel
theorem d_L_law_399 : decode c_L_law 399 = .ok (.iload 5, 2) := by decide +kernel
theorem d_L_law_401 : decode c_L_law 401 = .ok (.if_icmp .eq 5, 3) := by decide +kernel
theorem d_L_law_404 : decode c_L_law 404 = .ok (.iconst 0, 1) := by decide +kernel
theorem d_L_law_405 : decode c_L_law 405 = .ok (.ireturn, 1) := by decide +kernel
theorem d_L_law_406 : decode c_L_law 406 = .ok (.iload 5, 2) := by decide +kernel
theorem d_L_law_408 : decode c_L_law 408 = .ok (.ifCond .ne 15, 3) := by decide +kernel
theorem d_L_law_411 : decode c_L_law 411 = .ok (.aload_n 3, 1) := by decide +kernel
theorem d_L_law_412 : decode c_L_law 412 = .ok (.iconst 0, 1) := by decide +kernel
theorem d_L_law_413 : decode c_L_law 413 = .ok (.laload, 1) := by decide +kernel
theorem d_L_law_414 : decode c_L_law 414 = .ok (.iload 6, 2) := by decide +kernel
theorem d_L_law_416 : decode c_L_law 416 = .ok (.i2l, 1) := by decide +kernel
theorem d_L_law_417 : decode c_L_law 417 = .ok (.lcmp, 1) := by decide +kernel
theorem d_L_law_418 : decode c_L_law 418 = .ok (.ifCond .eq 5, 3) := by decide +kernel
theorem d_L_law_421 : decode c_L_law 421 = .ok (.iconst 0, 1) := by decide +kernel
theorem d_L_law_422 : decode c_L_law 422 = .ok (.ireturn, 1) := by decide +kernel
theorem d_L_law_423 : decode c_L_law 423 = .ok (.goto 496, 3) := by decide +kernel
theorem d_L_law_426 : decode c_L_law 426 = .ok (.aload_n 1, 1) := by decide +kernel
theorem d_L_law_427 : decode c_L_law 427 = .ok (.aload_n 0, 1) := by decide +kernel
theorem d_L_law_428 : decode c_L_law 428 = .ok (.iload 4, 2) := by decide +kernel
theorem d_L_law_430 : decode c_L_law 430 = .ok (.iconst 1, 1) := by decide +kernel
theorem d_L_law_431 : decode c_L_law 431 = .ok (.iadd, 1) := by decide +kernel
theorem d_L_law_432 : decode c_L_law 432 = .ok (.iaload, 1) := by decide +kernel
theorem d_L_law_433 : decode c_L_law 433 = .ok (.aload_n 0, 1) := by decide +kernel
theorem d_L_law_434 : decode c_L_law 434 = .ok (.iload 4, 2) := by decide +kernel
theorem d_L_law_436 : decode c_L_law 436 = .ok (.iconst 2, 1) := by decide +kernel
theorem d_L_law_437 : decode c_L_law 437 = .ok (.iadd, 1) := by decide +kernel
theorem d_L_law_438 : decode c_L_law 438 = .ok (.iaload, 1) := by decide +kernel
theorem d_L_law_439 : decode c_L_law 439 = .ok (.aload_n 0, 1) := by decide +kernel
theorem d_L_law_440 : decode c_L_law 440 = .ok (.iload 4, 2) := by decide +kernel
theorem d_L_law_442 : decode c_L_law 442 = .ok (.iconst 3, 1) := by decide +kernel
theorem d_L_law_443 : decode c_L_law 443 = .ok (.iadd, 1) := by decide +kernel
theorem d_L_law_444 : decode c_L_law 444 = .ok (.iaload, 1) := by decide +kernel
theorem d_L_law_445 : decode c_L_law 445 = .ok (.aload_n 3, 1) := by decide +kernel
theorem d_L_law_446 : decode c_L_law 446 = .ok (.invokestatic 72, 3) := by decide +kernel
theorem d_L_law_449 : decode c_L_law 449 = .ok (.istore 5, 2) := by decide +kernel
theorem d_L_law_451 : decode c_L_law 451 = .ok (.aload_n 2, 1) := by decide +kernel
theorem d_L_law_452 : decode c_L_law 452 = .ok (.aload_n 0, 1) := by decide +kernel
theorem d_L_law_453 : decode c_L_law 453 = .ok (.iload 4, 2) := by decide +kernel
theorem d_L_law_455 : decode c_L_law 455 = .ok (.iconst 1, 1) := by decide +kernel
theorem d_L_law_456 : decode c_L_law 456 = .ok (.iadd, 1) := by decide +kernel
theorem d_L_law_457 : decode c_L_law 457 = .ok (.iaload, 1) := by decide +kernel
theorem d_L_law_458 : decode c_L_law 458 = .ok (.aload_n 0, 1) := by decide +kernel
theorem d_L_law_459 : decode c_L_law 459 = .ok (.iload 4, 2) := by decide +kernel
theorem d_L_law_461 : decode c_L_law 461 = .ok (.iconst 2, 1) := by decide +kernel
theorem d_L_law_462 : decode c_L_law 462 = .ok (.iadd, 1) := by decide +kernel
theorem d_L_law_463 : decode c_L_law 463 = .ok (.iaload, 1) := by decide +kernel
theorem d_L_law_464 : decode c_L_law 464 = .ok (.aload_n 0, 1) := by decide +kernel
theorem d_L_law_465 : decode c_L_law 465 = .ok (.iload 4, 2) := by decide +kernel
theorem d_L_law_467 : decode c_L_law 467 = .ok (.iconst 3, 1) := by decide +kernel
theorem d_L_law_468 : decode c_L_law 468 = .ok (.iadd, 1) := by decide +kernel
theorem d_L_law_469 : decode c_L_law 469 = .ok (.iaload, 1) := by decide +kernel
theorem d_L_law_470 : decode c_L_law 470 = .ok (.invokevirtual 74, 3) := by decide +kernel
theorem d_L_law_473 : decode c_L_law 473 = .ok (.istore 6, 2) := by decide +kernel
theorem d_L_law_475 : decode c_L_law 475 = .ok (.aload_n 2, 1) := by decide +kernel
theorem d_L_law_476 : decode c_L_law 476 = .ok (.invokevirtual 62, 3) := by decide +kernel
theorem d_L_law_479 : decode c_L_law 479 = .ok (.iload 5, 2) := by decide +kernel
theorem d_L_law_481 : decode c_L_law 481 = .ok (.if_icmp .eq 5, 3) := by decide +kernel
theorem d_L_law_484 : decode c_L_law 484 = .ok (.iconst 0, 1) := by decide +kernel
theorem d_L_law_485 : decode c_L_law 485 = .ok (.ireturn, 1) := by decide +kernel
theorem d_L_law_486 : decode c_L_law 486 = .ok (.iload 5, 2) := by decide +kernel
theorem d_L_law_488 : decode c_L_law 488 = .ok (.ifCond .ne 15, 3) := by decide +kernel
theorem d_L_law_491 : decode c_L_law 491 = .ok (.aload_n 3, 1) := by decide +kernel
theorem d_L_law_492 : decode c_L_law 492 = .ok (.iconst 0, 1) := by decide +kernel
theorem d_L_law_493 : decode c_L_law 493 = .ok (.laload, 1) := by decide +kernel
theorem d_L_law_494 : decode c_L_law 494 = .ok (.iload 6, 2) := by decide +kernel
theorem d_L_law_496 : decode c_L_law 496 = .ok (.i2l, 1) := by decide +kernel
theorem d_L_law_497 : decode c_L_law 497 = .ok (.lcmp, 1) := by decide +kernel
theorem d_L_law_498 : decode c_L_law 498 = .ok (.ifCond .eq 5, 3) := by decide +kernel
theorem d_L_law_501 : decode c_L_law 501 = .ok (.iconst 0, 1) := by decide +kernel
theorem d_L_law_502 : decode c_L_law 502 = .ok (.ireturn, 1) := by decide +kernel
theorem d_L_law_503 : decode c_L_law 503 = .ok (.goto 416, 3) := by decide +kernel
theorem d_L_law_506 : decode c_L_law 506 = .ok (.aload_n 1, 1) := by decide +kernel
theorem d_L_law_507 : decode c_L_law 507 = .ok (.aload_n 0, 1) := by decide +kernel
theorem d_L_law_508 : decode c_L_law 508 = .ok (.iload 4, 2) := by decide +kernel
theorem d_L_law_510 : decode c_L_law 510 = .ok (.iconst 1, 1) := by decide +kernel
theorem d_L_law_511 : decode c_L_law 511 = .ok (.iadd, 1) := by decide +kernel
theorem d_L_law_512 : decode c_L_law 512 = .ok (.iaload, 1) := by decide +kernel
theorem d_L_law_513 : decode c_L_law 513 = .ok (.aload_n 0, 1) := by decide +kernel
theorem d_L_law_514 : decode c_L_law 514 = .ok (.iload 4, 2) := by decide +kernel
theorem d_L_law_516 : decode c_L_law 516 = .ok (.iconst 2, 1) := by decide +kernel
theorem d_L_law_517 : decode c_L_law 517 = .ok (.iadd, 1) := by decide +kernel
theorem d_L_law_518 : decode c_L_law 518 = .ok (.iaload, 1) := by decide +kernel
theorem d_L_law_519 : decode c_L_law 519 = .ok (.aload_n 0, 1) := by decide +kernel
theorem d_L_law_520 : decode c_L_law 520 = .ok (.iload 4, 2) := by decide +kernel
theorem d_L_law_522 : decode c_L_law 522 = .ok (.iconst 3, 1) := by decide +kernel
theorem d_L_law_523 : decode c_L_law 523 = .ok (.iadd, 1) := by decide +kernel
theorem d_L_law_524 : decode c_L_law 524 = .ok (.iaload, 1) := by decide +kernel
theorem d_L_law_525 : decode c_L_law 525 = .ok (.aload_n 3, 1) := by decide +kernel
theorem d_L_law_526 : decode c_L_law 526 = .ok (.invokestatic 75, 3) := by decide +kernel
theorem d_L_law_529 : decode c_L_law 529 = .ok (.istore 5, 2) := by decide +kernel
theorem d_L_law_531 : decode c_L_law 531 = .ok (.aload_n 2, 1) := by decide +kernel
theorem d_L_law_532 : decode c_L_law 532 = .ok (.aload_n 0, 1) := by decide +kernel
theorem d_L_law_533 : decode c_L_law 533 = .ok (.iload 4, 2) := by decide +kernel
theorem d_L_law_535 : decode c_L_law 535 = .ok (.iconst 1, 1) := by decide +kernel
theorem d_L_law_536 : decode c_L_law 536 = .ok (.iadd, 1) := by decide +kernel
theorem d_L_law_537 : decode c_L_law 537 = .ok (.iaload, 1) := by decide +kernel
theorem d_L_law_538 : decode c_L_law 538 = .ok (.aload_n 0, 1) := by decide +kernel
theorem d_L_law_539 : decode c_L_law 539 = .ok (.iload 4, 2) := by decide +kernel
theorem d_L_law_541 : decode c_L_law 541 = .ok (.iconst 2, 1) := by decide +kernel
theorem d_L_law_542 : decode c_L_law 542 = .ok (.iadd, 1) := by decide +kernel
theorem d_L_law_543 : decode c_L_law 543 = .ok (.iaload, 1) := by decide +kernel
theorem d_L_law_544 : decode c_L_law 544 = .ok (.aload_n 0, 1) := by decide +kernel
theorem d_L_law_545 : decode c_L_law 545 = .ok (.iload 4, 2) := by decide +kernel
theorem d_L_law_547 : decode c_L_law 547 = .ok (.iconst 3, 1) := by decide +kernel
theorem d_L_law_548 : decode c_L_law 548 = .ok (.iadd, 1) := by decide +kernel
theorem d_L_law_549 : decode c_L_law 549 = .ok (.iaload, 1) := by decide +kernel
theorem d_L_law_550 : decode c_L_law 550 = .ok (.invokevirtual 77, 3) := by decide +kernel
theorem d_L_law_553 : decode c_L_law 553 = .ok (.istore 6, 2) := by decide +kernel
theorem d_L_law_555 : decode c_L_law 555 = .ok (.aload_n 2, 1) := by decide +kernel
theorem d_L_law_556 : decode c_L_law 556 = .ok (.invokevirtual 62, 3) := by decide +kernel
theorem d_L_law_559 : decode c_L_law 559 = .ok (.iload 5, 2) := by decide +kernel
theorem d_L_law_561 : decode c_L_law 561 = .ok (.if_icmp .eq 5, 3) := by decide +kernel
theorem d_L_law_564 : decode c_L_law 564 = .ok (.iconst 0, 1) := by decide +kernel
theorem d_L_law_565 : decode c_L_law 565 = .ok (.ireturn, 1) := by decide +kernel
theorem d_L_law_566 : decode c_L_law 566 = .ok (.iload 5, 2) := by decide +kernel
theorem d_L_law_568 : decode c_L_law 568 = .ok (.ifCond .ne 15, 3) := by decide +kernel
theorem d_L_law_571 : decode c_L_law 571 = .ok (.aload_n 3, 1) := by decide +kernel
theorem d_L_law_572 : decode c_L_law 572 = .ok (.iconst 0, 1) := by decide +kernel
theorem d_L_law_573 : decode c_L_law 573 = .ok (.laload, 1) := by decide +kernel
theorem d_L_law_574 : decode c_L_law 574 = .ok (.iload 6, 2) := by decide +kernel
theorem d_L_law_576 : decode c_L_law 576 = .ok (.i2l, 1) := by decide +kernel
theorem d_L_law_577 : decode c_L_law 577 = .ok (.lcmp, 1) := by decide +kernel
theorem d_L_law_578 : decode c_L_law 578 = .ok (.ifCond .eq 5, 3) := by decide +kernel
theorem d_L_law_581 : decode c_L_law 581 = .ok (.iconst 0, 1) := by decide +kernel
theorem d_L_law_582 : decode c_L_law 582 = .ok (.ireturn, 1) := by decide +kernel
theorem d_L_law_583 : decode c_L_law 583 = .ok (.goto 336, 3) := by decide +kernel
theorem d_L_law_586 : decode c_L_law 586 = .ok (.aload_n 1, 1) := by decide +kernel
theorem d_L_law_587 : decode c_L_law 587 = .ok (.aload_n 0, 1) := by decide +kernel
theorem d_L_law_588 : decode c_L_law 588 = .ok (.iload 4, 2) := by decide +kernel
theorem d_L_law_590 : decode c_L_law 590 = .ok (.iconst 1, 1) := by decide +kernel
theorem d_L_law_591 : decode c_L_law 591 = .ok (.iadd, 1) := by decide +kernel
theorem d_L_law_592 : decode c_L_law 592 = .ok (.iaload, 1) := by decide +kernel
theorem d_L_law_593 : decode c_L_law 593 = .ok (.aload_n 0, 1) := by decide +kernel
theorem d_L_law_594 : decode c_L_law 594 = .ok (.iload 4, 2) := by decide +kernel
theorem d_L_law_596 : decode c_L_law 596 = .ok (.iconst 2, 1) := by decide +kernel
theorem d_L_law_597 : decode c_L_law 597 = .ok (.iadd, 1) := by decide +kernel
theorem d_L_law_598 : decode c_L_law 598 = .ok (.iaload, 1) := by decide +kernel
theorem d_L_law_599 : decode c_L_law 599 = .ok (.aload_n 0, 1) := by decide +kernel
theorem d_L_law_600 : decode c_L_law 600 = .ok (.iload 4, 2) := by decide +kernel
theorem d_L_law_602 : decode c_L_law 602 = .ok (.iconst 3, 1) := by decide +kernel
theorem d_L_law_603 : decode c_L_law 603 = .ok (.iadd, 1) := by decide +kernel
theorem d_L_law_604 : decode c_L_law 604 = .ok (.iaload, 1) := by decide +kernel
theorem d_L_law_605 : decode c_L_law 605 = .ok (.aload_n 0, 1) := by decide +kernel
theorem d_L_law_606 : decode c_L_law 606 = .ok (.iload 4, 2) := by decide +kernel
theorem d_L_law_608 : decode c_L_law 608 = .ok (.iconst 4, 1) := by decide +kernel
theorem d_L_law_609 : decode c_L_law 609 = .ok (.iadd, 1) := by decide +kernel
theorem d_L_law_610 : decode c_L_law 610 = .ok (.iaload, 1) := by decide +kernel
theorem d_L_law_611 : decode c_L_law 611 = .ok (.aload_n 3, 1) := by decide +kernel
theorem d_L_law_612 : decode c_L_law 612 = .ok (.invokestatic 78, 3) := by decide +kernel
theorem d_L_law_615 : decode c_L_law 615 = .ok (.istore 5, 2) := by decide +kernel
theorem d_L_law_617 : decode c_L_law 617 = .ok (.aload_n 2, 1) := by decide +kernel
theorem d_L_law_618 : decode c_L_law 618 = .ok (.aload_n 0, 1) := by decide +kernel
theorem d_L_law_619 : decode c_L_law 619 = .ok (.iload 4, 2) := by decide +kernel
theorem d_L_law_621 : decode c_L_law 621 = .ok (.iconst 1, 1) := by decide +kernel
theorem d_L_law_622 : decode c_L_law 622 = .ok (.iadd, 1) := by decide +kernel
theorem d_L_law_623 : decode c_L_law 623 = .ok (.iaload, 1) := by decide +kernel
theorem d_L_law_624 : decode c_L_law 624 = .ok (.aload_n 0, 1) := by decide +kernel
theorem d_L_law_625 : decode c_L_law 625 = .ok (.iload 4, 2) := by decide +kernel
theorem d_L_law_627 : decode c_L_law 627 = .ok (.iconst 2, 1) := by decide +kernel
theorem d_L_law_628 : decode c_L_law 628 = .ok (.iadd, 1) := by decide +kernel
theorem d_L_law_629 : decode c_L_law 629 = .ok (.iaload, 1) := by decide +kernel
theorem d_L_law_630 : decode c_L_law 630 = .ok (.aload_n 0, 1) := by decide +kernel
theorem d_L_law_631 : decode c_L_law 631 = .ok (.iload 4, 2) := by decide +kernel
theorem d_L_law_633 : decode c_L_law 633 = .ok (.iconst 3, 1) := by decide +kernel
theorem d_L_law_634 : decode c_L_law 634 = .ok (.iadd, 1) := by decide +kernel
theorem d_L_law_635 : decode c_L_law 635 = .ok (.iaload, 1) := by decide +kernel
theorem d_L_law_636 : decode c_L_law 636 = .ok (.aload_n 0, 1) := by decide +kernel
theorem d_L_law_637 : decode c_L_law 637 = .ok (.iload 4, 2) := by decide +kernel
theorem d_L_law_639 : decode c_L_law 639 = .ok (.iconst 4, 1) := by decide +kernel
theorem d_L_law_640 : decode c_L_law 640 = .ok (.iadd, 1) := by decide +kernel
theorem d_L_law_641 : decode c_L_law 641 = .ok (.iaload, 1) := by decide +kernel
theorem d_L_law_642 : decode c_L_law 642 = .ok (.invokevirtual 81, 3) := by decide +kernel
theorem d_L_law_645 : decode c_L_law 645 = .ok (.istore 6, 2) := by decide +kernel
theorem d_L_law_647 : decode c_L_law 647 = .ok (.aload_n 2, 1) := by decide +kernel
theorem d_L_law_648 : decode c_L_law 648 = .ok (.invokevirtual 62, 3) := by decide +kernel
theorem d_L_law_651 : decode c_L_law 651 = .ok (.iload 5, 2) := by decide +kernel
theorem d_L_law_653 : decode c_L_law 653 = .ok (.if_icmp .eq 5, 3) := by decide +kernel
theorem d_L_law_656 : decode c_L_law 656 = .ok (.iconst 0, 1) := by decide +kernel
theorem d_L_law_657 : decode c_L_law 657 = .ok (.ireturn, 1) := by decide +kernel
theorem d_L_law_658 : decode c_L_law 658 = .ok (.iload 5, 2) := by decide +kernel
theorem d_L_law_660 : decode c_L_law 660 = .ok (.ifCond .ne 15, 3) := by decide +kernel
theorem d_L_law_663 : decode c_L_law 663 = .ok (.aload_n 3, 1) := by decide +kernel
theorem d_L_law_664 : decode c_L_law 664 = .ok (.iconst 0, 1) := by decide +kernel
theorem d_L_law_665 : decode c_L_law 665 = .ok (.laload, 1) := by decide +kernel
theorem d_L_law_666 : decode c_L_law 666 = .ok (.iload 6, 2) := by decide +kernel
theorem d_L_law_668 : decode c_L_law 668 = .ok (.i2l, 1) := by decide +kernel
theorem d_L_law_669 : decode c_L_law 669 = .ok (.lcmp, 1) := by decide +kernel
theorem d_L_law_670 : decode c_L_law 670 = .ok (.ifCond .eq 5, 3) := by decide +kernel
theorem d_L_law_673 : decode c_L_law 673 = .ok (.iconst 0, 1) := by decide +kernel
theorem d_L_law_674 : decode c_L_law 674 = .ok (.ireturn, 1) := by decide +kernel
theorem d_L_law_675 : decode c_L_law 675 = .ok (.goto 244, 3) := by decide +kernel
theorem d_L_law_678 : decode c_L_law 678 = .ok (.aload_n 1, 1) := by decide +kernel
theorem d_L_law_679 : decode c_L_law 679 = .ok (.aload_n 0, 1) := by decide +kernel
theorem d_L_law_680 : decode c_L_law 680 = .ok (.iload 4, 2) := by decide +kernel
theorem d_L_law_682 : decode c_L_law 682 = .ok (.iconst 1, 1) := by decide +kernel
theorem d_L_law_683 : decode c_L_law 683 = .ok (.iadd, 1) := by decide +kernel
theorem d_L_law_684 : decode c_L_law 684 = .ok (.iaload, 1) := by decide +kernel
theorem d_L_law_685 : decode c_L_law 685 = .ok (.aload_n 0, 1) := by decide +kernel
theorem d_L_law_686 : decode c_L_law 686 = .ok (.iload 4, 2) := by decide +kernel
theorem d_L_law_688 : decode c_L_law 688 = .ok (.iconst 2, 1) := by decide +kernel
theorem d_L_law_689 : decode c_L_law 689 = .ok (.iadd, 1) := by decide +kernel
theorem d_L_law_690 : decode c_L_law 690 = .ok (.iaload, 1) := by decide +kernel
theorem d_L_law_691 : decode c_L_law 691 = .ok (.aload_n 3, 1) := by decide +kernel
theorem d_L_law_692 : decode c_L_law 692 = .ok (.invokestatic 82, 3) := by decide +kernel
theorem d_L_law_695 : decode c_L_law 695 = .ok (.istore 5, 2) := by decide +kernel
theorem d_L_law_697 : decode c_L_law 697 = .ok (.aload_n 2, 1) := by decide +kernel
theorem d_L_law_698 : decode c_L_law 698 = .ok (.aload_n 0, 1) := by decide +kernel
theorem d_L_law_699 : decode c_L_law 699 = .ok (.iload 4, 2) := by decide +kernel
theorem d_L_law_701 : decode c_L_law 701 = .ok (.iconst 1, 1) := by decide +kernel
theorem d_L_law_702 : decode c_L_law 702 = .ok (.iadd, 1) := by decide +kernel
theorem d_L_law_703 : decode c_L_law 703 = .ok (.iaload, 1) := by decide +kernel
theorem d_L_law_704 : decode c_L_law 704 = .ok (.aload_n 0, 1) := by decide +kernel
theorem d_L_law_705 : decode c_L_law 705 = .ok (.iload 4, 2) := by decide +kernel
theorem d_L_law_707 : decode c_L_law 707 = .ok (.iconst 2, 1) := by decide +kernel
theorem d_L_law_708 : decode c_L_law 708 = .ok (.iadd, 1) := by decide +kernel
theorem d_L_law_709 : decode c_L_law 709 = .ok (.iaload, 1) := by decide +kernel
theorem d_L_law_710 : decode c_L_law 710 = .ok (.invokevirtual 85, 3) := by decide +kernel
theorem d_L_law_713 : decode c_L_law 713 = .ok (.istore 6, 2) := by decide +kernel
theorem d_L_law_715 : decode c_L_law 715 = .ok (.aload_n 2, 1) := by decide +kernel
theorem d_L_law_716 : decode c_L_law 716 = .ok (.invokevirtual 62, 3) := by decide +kernel
theorem d_L_law_719 : decode c_L_law 719 = .ok (.iload 5, 2) := by decide +kernel
theorem d_L_law_721 : decode c_L_law 721 = .ok (.if_icmp .eq 5, 3) := by decide +kernel
theorem d_L_law_724 : decode c_L_law 724 = .ok (.iconst 0, 1) := by decide +kernel
theorem d_L_law_725 : decode c_L_law 725 = .ok (.ireturn, 1) := by decide +kernel
theorem d_L_law_726 : decode c_L_law 726 = .ok (.iload 5, 2) := by decide +kernel
theorem d_L_law_728 : decode c_L_law 728 = .ok (.ifCond .ne 15, 3) := by decide +kernel
theorem d_L_law_731 : decode c_L_law 731 = .ok (.aload_n 3, 1) := by decide +kernel
theorem d_L_law_732 : decode c_L_law 732 = .ok (.iconst 0, 1) := by decide +kernel
theorem d_L_law_733 : decode c_L_law 733 = .ok (.laload, 1) := by decide +kernel
theorem d_L_law_734 : decode c_L_law 734 = .ok (.iload 6, 2) := by decide +kernel
theorem d_L_law_736 : decode c_L_law 736 = .ok (.i2l, 1) := by decide +kernel
theorem d_L_law_737 : decode c_L_law 737 = .ok (.lcmp, 1) := by decide +kernel
theorem d_L_law_738 : decode c_L_law 738 = .ok (.ifCond .eq 5, 3) := by decide +kernel
theorem d_L_law_741 : decode c_L_law 741 = .ok (.iconst 0, 1) := by decide +kernel
theorem d_L_law_742 : decode c_L_law 742 = .ok (.ireturn, 1) := by decide +kernel
theorem d_L_law_743 : decode c_L_law 743 = .ok (.goto 176, 3) := by decide +kernel
theorem d_L_law_746 : decode c_L_law 746 = .ok (.aload_n 1, 1) := by decide +kernel
theorem d_L_law_747 : decode c_L_law 747 = .ok (.aload_n 0, 1) := by decide +kernel
theorem d_L_law_748 : decode c_L_law 748 = .ok (.iload 4, 2) := by decide +kernel
theorem d_L_law_750 : decode c_L_law 750 = .ok (.iconst 1, 1) := by decide +kernel
theorem d_L_law_751 : decode c_L_law 751 = .ok (.iadd, 1) := by decide +kernel
theorem d_L_law_752 : decode c_L_law 752 = .ok (.iaload, 1) := by decide +kernel
theorem d_L_law_753 : decode c_L_law 753 = .ok (.aload_n 0, 1) := by decide +kernel
theorem d_L_law_754 : decode c_L_law 754 = .ok (.iload 4, 2) := by decide +kernel
theorem d_L_law_756 : decode c_L_law 756 = .ok (.iconst 2, 1) := by decide +kernel
theorem d_L_law_757 : decode c_L_law 757 = .ok (.iadd, 1) := by decide +kernel
theorem d_L_law_758 : decode c_L_law 758 = .ok (.iaload, 1) := by decide +kernel
theorem d_L_law_759 : decode c_L_law 759 = .ok (.aload_n 3, 1) := by decide +kernel
theorem d_L_law_760 : decode c_L_law 760 = .ok (.invokestatic 86, 3) := by decide +kernel
theorem d_L_law_763 : decode c_L_law 763 = .ok (.istore 5, 2) := by decide +kernel
theorem d_L_law_765 : decode c_L_law 765 = .ok (.aload_n 2, 1) := by decide +kernel
theorem d_L_law_766 : decode c_L_law 766 = .ok (.aload_n 0, 1) := by decide +kernel
theorem d_L_law_767 : decode c_L_law 767 = .ok (.iload 4, 2) := by decide +kernel
theorem d_L_law_769 : decode c_L_law 769 = .ok (.iconst 1, 1) := by decide +kernel
theorem d_L_law_770 : decode c_L_law 770 = .ok (.iadd, 1) := by decide +kernel
theorem d_L_law_771 : decode c_L_law 771 = .ok (.iaload, 1) := by decide +kernel
theorem d_L_law_772 : decode c_L_law 772 = .ok (.aload_n 0, 1) := by decide +kernel
theorem d_L_law_773 : decode c_L_law 773 = .ok (.iload 4, 2) := by decide +kernel
theorem d_L_law_775 : decode c_L_law 775 = .ok (.iconst 2, 1) := by decide +kernel
theorem d_L_law_776 : decode c_L_law 776 = .ok (.iadd, 1) := by decide +kernel
theorem d_L_law_777 : decode c_L_law 777 = .ok (.iaload, 1) := by decide +kernel
theorem d_L_law_778 : decode c_L_law 778 = .ok (.invokevirtual 88, 3) := by decide +kernel
theorem d_L_law_781 : decode c_L_law 781 = .ok (.istore 6, 2) := by decide +kernel
theorem d_L_law_783 : decode c_L_law 783 = .ok (.aload_n 2, 1) := by decide +kernel
theorem d_L_law_784 : decode c_L_law 784 = .ok (.invokevirtual 62, 3) := by decide +kernel
theorem d_L_law_787 : decode c_L_law 787 = .ok (.iload 5, 2) := by decide +kernel
theorem d_L_law_789 : decode c_L_law 789 = .ok (.if_icmp .eq 5, 3) := by decide +kernel
theorem d_L_law_792 : decode c_L_law 792 = .ok (.iconst 0, 1) := by decide +kernel
theorem d_L_law_793 : decode c_L_law 793 = .ok (.ireturn, 1) := by decide +kernel
theorem d_L_law_794 : decode c_L_law 794 = .ok (.iload 5, 2) := by decide +kernel
theorem d_L_law_796 : decode c_L_law 796 = .ok (.ifCond .ne 15, 3) := by decide +kernel
theorem d_L_law_799 : decode c_L_law 799 = .ok (.aload_n 3, 1) := by decide +kernel
theorem d_L_law_800 : decode c_L_law 800 = .ok (.iconst 0, 1) := by decide +kernel
theorem d_L_law_801 : decode c_L_law 801 = .ok (.laload, 1) := by decide +kernel
theorem d_L_law_802 : decode c_L_law 802 = .ok (.iload 6, 2) := by decide +kernel
theorem d_L_law_804 : decode c_L_law 804 = .ok (.i2l, 1) := by decide +kernel
theorem d_L_law_805 : decode c_L_law 805 = .ok (.lcmp, 1) := by decide +kernel
theorem d_L_law_806 : decode c_L_law 806 = .ok (.ifCond .eq 5, 3) := by decide +kernel
theorem d_L_law_809 : decode c_L_law 809 = .ok (.iconst 0, 1) := by decide +kernel
theorem d_L_law_810 : decode c_L_law 810 = .ok (.ireturn, 1) := by decide +kernel
theorem d_L_law_811 : decode c_L_law 811 = .ok (.goto 108, 3) := by decide +kernel
theorem d_L_law_814 : decode c_L_law 814 = .ok (.aload_n 1, 1) := by decide +kernel
theorem d_L_law_815 : decode c_L_law 815 = .ok (.aload_n 0, 1) := by decide +kernel
theorem d_L_law_816 : decode c_L_law 816 = .ok (.iload 4, 2) := by decide +kernel
theorem d_L_law_818 : decode c_L_law 818 = .ok (.iconst 1, 1) := by decide +kernel
theorem d_L_law_819 : decode c_L_law 819 = .ok (.iadd, 1) := by decide +kernel
theorem d_L_law_820 : decode c_L_law 820 = .ok (.iaload, 1) := by decide +kernel
theorem d_L_law_821 : decode c_L_law 821 = .ok (.aload_n 0, 1) := by decide +kernel
theorem d_L_law_822 : decode c_L_law 822 = .ok (.iload 4, 2) := by decide +kernel
theorem d_L_law_824 : decode c_L_law 824 = .ok (.iconst 2, 1) := by decide +kernel
theorem d_L_law_825 : decode c_L_law 825 = .ok (.iadd, 1) := by decide +kernel
theorem d_L_law_826 : decode c_L_law 826 = .ok (.iaload, 1) := by decide +kernel
theorem d_L_law_827 : decode c_L_law 827 = .ok (.aload_n 0, 1) := by decide +kernel
theorem d_L_law_828 : decode c_L_law 828 = .ok (.iload 4, 2) := by decide +kernel
theorem d_L_law_830 : decode c_L_law 830 = .ok (.iconst 3, 1) := by decide +kernel
theorem d_L_law_831 : decode c_L_law 831 = .ok (.iadd, 1) := by decide +kernel
theorem d_L_law_832 : decode c_L_law 832 = .ok (.iaload, 1) := by decide +kernel
theorem d_L_law_833 : decode c_L_law 833 = .ok (.aload_n 3, 1) := by decide +kernel
theorem d_L_law_834 : decode c_L_law 834 = .ok (.invokestatic 89, 3) := by decide +kernel
theorem d_L_law_837 : decode c_L_law 837 = .ok (.istore 5, 2) := by decide +kernel
theorem d_L_law_839 : decode c_L_law 839 = .ok (.aload_n 2, 1) := by decide +kernel
theorem d_L_law_840 : decode c_L_law 840 = .ok (.aload_n 0, 1) := by decide +kernel
theorem d_L_law_841 : decode c_L_law 841 = .ok (.iload 4, 2) := by decide +kernel
theorem d_L_law_843 : decode c_L_law 843 = .ok (.iconst 1, 1) := by decide +kernel
theorem d_L_law_844 : decode c_L_law 844 = .ok (.iadd, 1) := by decide +kernel
theorem d_L_law_845 : decode c_L_law 845 = .ok (.iaload, 1) := by decide +kernel
theorem d_L_law_846 : decode c_L_law 846 = .ok (.aload_n 0, 1) := by decide +kernel
theorem d_L_law_847 : decode c_L_law 847 = .ok (.iload 4, 2) := by decide +kernel
theorem d_L_law_849 : decode c_L_law 849 = .ok (.iconst 2, 1) := by decide +kernel
theorem d_L_law_850 : decode c_L_law 850 = .ok (.iadd, 1) := by decide +kernel
theorem d_L_law_851 : decode c_L_law 851 = .ok (.iaload, 1) := by decide +kernel
theorem d_L_law_852 : decode c_L_law 852 = .ok (.aload_n 0, 1) := by decide +kernel
theorem d_L_law_853 : decode c_L_law 853 = .ok (.iload 4, 2) := by decide +kernel
theorem d_L_law_855 : decode c_L_law 855 = .ok (.iconst 3, 1) := by decide +kernel
theorem d_L_law_856 : decode c_L_law 856 = .ok (.iadd, 1) := by decide +kernel
theorem d_L_law_857 : decode c_L_law 857 = .ok (.iaload, 1) := by decide +kernel
theorem d_L_law_858 : decode c_L_law 858 = .ok (.invokevirtual 91, 3) := by decide +kernel
theorem d_L_law_861 : decode c_L_law 861 = .ok (.istore 6, 2) := by decide +kernel
theorem d_L_law_863 : decode c_L_law 863 = .ok (.aload_n 2, 1) := by decide +kernel
theorem d_L_law_864 : decode c_L_law 864 = .ok (.invokevirtual 62, 3) := by decide +kernel
theorem d_L_law_867 : decode c_L_law 867 = .ok (.iload 5, 2) := by decide +kernel
theorem d_L_law_869 : decode c_L_law 869 = .ok (.if_icmp .eq 5, 3) := by decide +kernel
theorem d_L_law_872 : decode c_L_law 872 = .ok (.iconst 0, 1) := by decide +kernel
theorem d_L_law_873 : decode c_L_law 873 = .ok (.ireturn, 1) := by decide +kernel
theorem d_L_law_874 : decode c_L_law 874 = .ok (.iload 5, 2) := by decide +kernel
theorem d_L_law_876 : decode c_L_law 876 = .ok (.ifCond .ne 15, 3) := by decide +kernel
theorem d_L_law_879 : decode c_L_law 879 = .ok (.aload_n 3, 1) := by decide +kernel
theorem d_L_law_880 : decode c_L_law 880 = .ok (.iconst 0, 1) := by decide +kernel
theorem d_L_law_881 : decode c_L_law 881 = .ok (.laload, 1) := by decide +kernel
theorem d_L_law_882 : decode c_L_law 882 = .ok (.iload 6, 2) := by decide +kernel
theorem d_L_law_884 : decode c_L_law 884 = .ok (.i2l, 1) := by decide +kernel
theorem d_L_law_885 : decode c_L_law 885 = .ok (.lcmp, 1) := by decide +kernel
theorem d_L_law_886 : decode c_L_law 886 = .ok (.ifCond .eq 5, 3) := by decide +kernel
theorem d_L_law_889 : decode c_L_law 889 = .ok (.iconst 0, 1) := by decide +kernel
theorem d_L_law_890 : decode c_L_law 890 = .ok (.ireturn, 1) := by decide +kernel
theorem d_L_law_891 : decode c_L_law 891 = .ok (.goto 28, 3) := by decide +kernel
theorem d_L_law_894 : decode c_L_law 894 = .ok (.aload_n 1, 1) := by decide +kernel
theorem d_L_law_895 : decode c_L_law 895 = .ok (.aload_n 0, 1) := by decide +kernel
theorem d_L_law_896 : decode c_L_law 896 = .ok (.iload 4, 2) := by decide +kernel
theorem d_L_law_898 : decode c_L_law 898 = .ok (.iconst 1, 1) := by decide +kernel
theorem d_L_law_899 : decode c_L_law 899 = .ok (.iadd, 1) := by decide +kernel
theorem d_L_law_900 : decode c_L_law 900 = .ok (.iaload, 1) := by decide +kernel
theorem d_L_law_901 : decode c_L_law 901 = .ok (.invokevirtual 92, 3) := by decide +kernel
theorem d_L_law_904 : decode c_L_law 904 = .ok (.aload_n 2, 1) := by decide +kernel
theorem d_L_law_905 : decode c_L_law 905 = .ok (.aload_n 0, 1) := by decide +kernel
theorem d_L_law_906 : decode c_L_law 906 = .ok (.iload 4, 2) := by decide +kernel
theorem d_L_law_908 : decode c_L_law 908 = .ok (.iconst 1, 1) := by decide +kernel
theorem d_L_law_909 : decode c_L_law 909 = .ok (.iadd, 1) := by decide +kernel
theorem d_L_law_910 : decode c_L_law 910 = .ok (.iaload, 1) := by decide +kernel
theorem d_L_law_911 : decode c_L_law 911 = .ok (.invokevirtual 96, 3) := by decide +kernel
theorem d_L_law_914 : decode c_L_law 914 = .ok (.if_icmp .eq 5, 3) := by decide +kernel
theorem d_L_law_917 : decode c_L_law 917 = .ok (.iconst 0, 1) := by decide +kernel
theorem d_L_law_918 : decode c_L_law 918 = .ok (.ireturn, 1) := by decide +kernel
theorem d_L_law_919 : decode c_L_law 919 = .ok (.iinc 4 5, 3) := by decide +kernel
theorem d_L_law_922 : decode c_L_law 922 = .ok (.goto (-899), 3) := by decide +kernel
theorem d_L_law_925 : decode c_L_law 925 = .ok (.iconst 1, 1) := by decide +kernel
theorem d_L_law_926 : decode c_L_law 926 = .ok (.ireturn, 1) := by decide +kernel
end
section
/-! Rows on numbers: nI n is the Int32 of a Nat; bI is a boolean's int. -/
def bI (b : Bool) : Int32 := cond b (nI 1) (nI 0)
theorem bI_t {b : Bool} (h : b = true) : nI 1 = bI b := by rw [h]; rfl
theorem bI_f {b : Bool} (h : b = false) : nI 0 = bI b := by rw [h]; rfl
theorem bI_0 {b : Bool} (h : bI b = nI 0) : b = false := by
  cases b
  · rfl
  · exact absurd h (by decide)
theorem bI_1 {b : Bool} (h : ¬ bI b = nI 0) : b = true := by
  cases b
  · exact absurd (by decide) h
  · rfl
theorem bI_nar (b : Bool) : narrow .boolean (.int (bI b)) = .int (bI b) := by cases b <;> rfl
theorem jn_inc (i : Nat) : nI i + Int32.ofInt 1 = nI (i + 1) := nI_1 i
theorem jn_m1 : Int32.ofInt (-1) = -1 := by decide
theorem jn_dec {i : Nat} (h : 0 < i) : nI i + Int32.ofInt (-1) = nI (i - 1) := by rw [jn_m1]; exact sb_m1 h
theorem jn_of {x : Int32} {k : Nat} (hk : k < 2147483648) (h : x.toInt = (k : Int)) : x = nI k := Int32.toInt_inj.mp (h.trans (nI_toInt hk).symm)
theorem jn_lt {x y : Int32} : x < y ↔ x.toInt < y.toInt := Int32.lt_iff_toInt_lt
theorem jn_le {x y : Int32} : x ≤ y ↔ x.toInt ≤ y.toInt := Int32.le_iff_toInt_le
theorem jn_nlt {x y : Int32} (h : ¬ x < y) : y ≤ x := by
  rw [jn_lt] at h
  rw [jn_le]
  omega
theorem jn_nle {x y : Int32} (h : ¬ x ≤ y) : y < x := by
  rw [jn_le] at h
  rw [jn_lt]
  omega
theorem jn_sw3 (x : Int32) : (x.toInt = 0 ∧ x = nI 0) ∨ (x.toInt = 1 ∧ x = nI 1) ∨ (x.toInt = 2 ∧ x = nI 2) ∨ (x.toInt = 3 ∧ x = nI 3) ∨ ((x.toInt < 0 ∨ 3 < x.toInt) ∧ ∀ k, k ≤ 3 → x ≠ nI k) := by
  by_cases h0 : x.toInt = 0
  · exact Or.inl ⟨h0, jn_of (by decide) h0⟩
  by_cases h1 : x.toInt = 1
  · exact Or.inr (Or.inl ⟨h1, jn_of (by decide) h1⟩)
  by_cases h2 : x.toInt = 2
  · exact Or.inr (Or.inr (Or.inl ⟨h2, jn_of (by decide) h2⟩))
  by_cases h3 : x.toInt = 3
  · exact Or.inr (Or.inr (Or.inr (Or.inl ⟨h3, jn_of (by decide) h3⟩)))
  refine Or.inr (Or.inr (Or.inr (Or.inr ⟨by omega, fun k hk e => ?_⟩)))
  have := nI_toInt (n := k) (by omega)
  rw [← e] at this
  omega
theorem jn_sw5 (x : Int32) : (x.toInt = 0 ∧ x = nI 0) ∨ (x.toInt = 1 ∧ x = nI 1) ∨ (x.toInt = 2 ∧ x = nI 2) ∨ (x.toInt = 3 ∧ x = nI 3) ∨ (x.toInt = 4 ∧ x = nI 4) ∨ (x.toInt = 5 ∧ x = nI 5) ∨ ((x.toInt < 0 ∨ 5 < x.toInt) ∧ ∀ k, k ≤ 5 → x ≠ nI k) := by
  by_cases h0 : x.toInt = 0
  · exact Or.inl ⟨h0, jn_of (by decide) h0⟩
  by_cases h1 : x.toInt = 1
  · exact Or.inr (Or.inl ⟨h1, jn_of (by decide) h1⟩)
  by_cases h2 : x.toInt = 2
  · exact Or.inr (Or.inr (Or.inl ⟨h2, jn_of (by decide) h2⟩))
  by_cases h3 : x.toInt = 3
  · exact Or.inr (Or.inr (Or.inr (Or.inl ⟨h3, jn_of (by decide) h3⟩)))
  by_cases h4 : x.toInt = 4
  · exact Or.inr (Or.inr (Or.inr (Or.inr (Or.inl ⟨h4, jn_of (by decide) h4⟩))))
  by_cases h5 : x.toInt = 5
  · exact Or.inr (Or.inr (Or.inr (Or.inr (Or.inr (Or.inl ⟨h5, jn_of (by decide) h5⟩)))))
  refine Or.inr (Or.inr (Or.inr (Or.inr (Or.inr (Or.inr ⟨by omega, fun k hk e => ?_⟩)))))
  have := nI_toInt (n := k) (by omega)
  rw [← e] at this
  omega
end
section
/-! A layer over the kit's rows: J says of a point (pc, stack) of a method that from every heap that holds the world ws, with locals lv, the machine comes to Q. -/
section JL
variable {p : Program} {l : Launch} {e : Env} {R : Room} {s : State} {m : MethodId} {args : Array Value} {below : List Frame} {meth : Method} {c : Code} {Q : State → Prop} {D : va_G} {cl : List vw_C} {tys : List (ClassId × FieldType)} {A : Nat → Prop} {H0 : Heap} {nL cells slots : Nat}
def J (p : Program) (l : Launch) (e : Env) (R : Room) (s : State) (m : MethodId) (args : Array Value) (below : List Frame) (meth : Method) (c : Code) (D : va_G) (cl : List vw_C) (A : Nat → Prop) (H0 : Heap) (nL cells slots : Nat) (Q : State → Prop) (ws : va_W) (lv : List (Nat × Value)) (pc : Nat) (st : List Value) : Prop :=
  ∀ (H : Heap) (locs : List Loc) (ls : Array Slot), va_P D cl ws H → va_D A ws → va_S A H0 H locs → lv_has ls nL lv → W p l e R s m args below meth c H locs cells slots Q (F0 m pc ls st)
variable {ws ws' : va_W} {lv lv' : List (Nat × Value)} {pc : Nat} {st : List Value} {cc : ByteArray} {Ts : List Cond} {own : String}
theorem j_lv (ks : List Nat) (hl : lv_pick lv ks = lv') (k : J p l e R s m args below meth c D cl A H0 nL cells slots Q ws lv' pc st) : J p l e R s m args below meth c D cl A H0 nL cells slots Q ws lv pc st := fun H locs ls hP hD hS h => k H locs ls hP hD hS (lv_sub h ks hl)
theorem j_ws (is : List Nat) (hn : va_nd is = true) (hs : is.map (fun i => ws[i]?) = ws'.map some) (k : J p l e R s m args below meth c D cl A H0 nL cells slots Q ws' lv pc st) : J p l e R s m args below meth c D cl A H0 nL cells slots Q ws lv pc st := by
  intro H locs ls hP hD hS h
  refine k H locs ls (hP.sub is ?_) (hD.sub is hn hs) hS h
  have h1 : (is.map (fun i => ws[i]?)).filterMap id = (ws'.map some).filterMap id := by rw [hs]
  rw [List.filterMap_map, List.filterMap_map] at h1
  have h2 : List.filterMap (id ∘ some) ws' = ws' := by
    have : (id ∘ (some : Nat × va_E → Option (Nat × va_E))) = some := rfl
    rw [this, List.filterMap_some]
  rw [h2] at h1
  exact h1
theorem j_top {x y : Int32} (h : x = y) (k : J p l e R s m args below meth c D cl A H0 nL cells slots Q ws lv pc (.int y :: st)) : J p l e R s m args below meth c D cl A H0 nL cells slots Q ws lv pc (.int x :: st) := h ▸ k
theorem j_world (h : ws = ws') (k : J p l e R s m args below meth c D cl A H0 nL cells slots Q ws' lv pc st) : J p l e R s m args below meth c D cl A H0 nL cells slots Q ws lv pc st := h ▸ k
theorem j_wide {k n : Nat} (h1 : cells ≤ k) (h2 : slots ≤ n) (kk : J p l e R s m args below meth c D cl A H0 nL k n Q ws lv pc st) : J p l e R s m args below meth c D cl A H0 nL cells slots Q ws lv pc st := fun H locs ls hP hD hS h => W.widen h1 h2 (kk H locs ls hP hD hS h)
theorem j_iconst (F : CallFix p m c cc nL s args Ts own) {n : Int} {v : Int32} (d : decode cc pc = .ok (.iconst n, 1)) (hv : Int32.ofInt n = v) (k : J p l e R s m args below meth c D cl A H0 nL cells slots Q ws lv (pc + 1) (.int v :: st)) : J p l e R s m args below meth c D cl A H0 nL cells slots Q ws lv pc st := fun H locs ls hP hD hS h => lv_iconst F.1 F.2.1 d hv (k H locs ls hP hD hS h)
theorem j_bipush (F : CallFix p m c cc nL s args Ts own) {n : Int} {v : Int32} (d : decode cc pc = .ok (.bipush n, 2)) (hv : (Int8.ofInt n).toInt32 = v) (k : J p l e R s m args below meth c D cl A H0 nL cells slots Q ws lv (pc + 2) (.int v :: st)) : J p l e R s m args below meth c D cl A H0 nL cells slots Q ws lv pc st := fun H locs ls hP hD hS h => lv_bipush F.1 F.2.1 d hv (k H locs ls hP hD hS h)
theorem j_sipush (F : CallFix p m c cc nL s args Ts own) {n : Int} {v : Int32} (d : decode cc pc = .ok (.sipush n, 3)) (hv : (Int16.ofInt n).toInt32 = v) (k : J p l e R s m args below meth c D cl A H0 nL cells slots Q ws lv (pc + 3) (.int v :: st)) : J p l e R s m args below meth c D cl A H0 nL cells slots Q ws lv pc st := fun H locs ls hP hD hS h => lv_sipush F.1 F.2.1 d hv (k H locs ls hP hD hS h)
theorem j_ldc (F : CallFix p m c cc nL s args Ts own) {index : Nat} {v : Int32} (hc : Jvm.Cond.constant own index v ∈ Ts) (d : decode cc pc = .ok (.ldc index, 2)) (k : J p l e R s m args below meth c D cl A H0 nL cells slots Q ws lv (pc + 2) (.int v :: st)) : J p l e R s m args below meth c D cl A H0 nL cells slots Q ws lv pc st := fun H locs ls hP hD hS h => lv_ldc F.1 F.2.1 F.2.2.2.1 (F.2.2.2.2 _ hc) d (k H locs ls hP hD hS h)
theorem j_iloadn (F : CallFix p m c cc nL s args Ts own) {k0 : Fin 4} {i : Nat} {x : Int32} (d : decode cc pc = .ok (.iload_n k0, 1)) (q : Nat) (hi : (k0 : Nat) = i) (hq : lv[q]? = some (i, .int x)) (k : J p l e R s m args below meth c D cl A H0 nL cells slots Q ws lv (pc + 1) (.int x :: st)) : J p l e R s m args below meth c D cl A H0 nL cells slots Q ws lv pc st := fun H locs ls hP hD hS h => lv_iload_n F.1 F.2.1 d hi (lv_at h q hq) (k H locs ls hP hD hS h)
theorem j_iload (F : CallFix p m c cc nL s args Ts own) {i : Nat} {x : Int32} (d : decode cc pc = .ok (.iload i, 2)) (q : Nat) (hq : lv[q]? = some (i, .int x)) (k : J p l e R s m args below meth c D cl A H0 nL cells slots Q ws lv (pc + 2) (.int x :: st)) : J p l e R s m args below meth c D cl A H0 nL cells slots Q ws lv pc st := fun H locs ls hP hD hS h => lv_iload F.1 F.2.1 d (lv_at h q hq) (k H locs ls hP hD hS h)
theorem j_aloadn (F : CallFix p m c cc nL s args Ts own) {k0 : Fin 4} {i x : Nat} (d : decode cc pc = .ok (.aload_n k0, 1)) (q : Nat) (hi : (k0 : Nat) = i) (hq : lv[q]? = some (i, .ref x)) (k : J p l e R s m args below meth c D cl A H0 nL cells slots Q ws lv (pc + 1) (.ref x :: st)) : J p l e R s m args below meth c D cl A H0 nL cells slots Q ws lv pc st := fun H locs ls hP hD hS h => lv_aload_n F.1 F.2.1 d hi (lv_at h q hq) (k H locs ls hP hD hS h)
theorem j_aload (F : CallFix p m c cc nL s args Ts own) {i x : Nat} (d : decode cc pc = .ok (.aload i, 2)) (q : Nat) (hq : lv[q]? = some (i, .ref x)) (k : J p l e R s m args below meth c D cl A H0 nL cells slots Q ws lv (pc + 2) (.ref x :: st)) : J p l e R s m args below meth c D cl A H0 nL cells slots Q ws lv pc st := fun H locs ls hP hD hS h => lv_aload F.1 F.2.1 d (lv_at h q hq) (k H locs ls hP hD hS h)
theorem j_istoren (F : CallFix p m c cc nL s args Ts own) {k0 : Fin 4} {i : Nat} {x : Int32} (d : decode cc pc = .ok (.istore_n k0, 1)) (hi : (k0 : Nat) = i) (hn : i < nL) (hl : (i, Value.int x) :: lv.filter (fun q => !(q.1 == i) && !(q.1 + 1 == i && q.2.category == 2)) = lv') (k : J p l e R s m args below meth c D cl A H0 nL cells slots Q ws lv' (pc + 1) st) : J p l e R s m args below meth c D cl A H0 nL cells slots Q ws lv pc (.int x :: st) := fun H locs ls hP hD hS h => lv_istore_n F.1 F.2.1 d hi h hn hl (fun ls' h' => k H locs ls' hP hD hS h')
theorem j_istore (F : CallFix p m c cc nL s args Ts own) {i : Nat} {x : Int32} (d : decode cc pc = .ok (.istore i, 2)) (hn : i < nL) (hl : (i, Value.int x) :: lv.filter (fun q => !(q.1 == i) && !(q.1 + 1 == i && q.2.category == 2)) = lv') (k : J p l e R s m args below meth c D cl A H0 nL cells slots Q ws lv' (pc + 2) st) : J p l e R s m args below meth c D cl A H0 nL cells slots Q ws lv pc (.int x :: st) := fun H locs ls hP hD hS h => lv_istore F.1 F.2.1 d h hn hl (fun ls' h' => k H locs ls' hP hD hS h')
theorem j_astoren (F : CallFix p m c cc nL s args Ts own) {k0 : Fin 4} {i x : Nat} (d : decode cc pc = .ok (.astore_n k0, 1)) (hi : (k0 : Nat) = i) (hn : i < nL) (hl : (i, Value.ref x) :: lv.filter (fun q => !(q.1 == i) && !(q.1 + 1 == i && q.2.category == 2)) = lv') (k : J p l e R s m args below meth c D cl A H0 nL cells slots Q ws lv' (pc + 1) st) : J p l e R s m args below meth c D cl A H0 nL cells slots Q ws lv pc (.ref x :: st) := fun H locs ls hP hD hS h => lv_astore_n F.1 F.2.1 d hi h hn hl (fun ls' h' => k H locs ls' hP hD hS h')
theorem j_astore (F : CallFix p m c cc nL s args Ts own) {i x : Nat} (d : decode cc pc = .ok (.astore i, 2)) (hn : i < nL) (hl : (i, Value.ref x) :: lv.filter (fun q => !(q.1 == i) && !(q.1 + 1 == i && q.2.category == 2)) = lv') (k : J p l e R s m args below meth c D cl A H0 nL cells slots Q ws lv' (pc + 2) st) : J p l e R s m args below meth c D cl A H0 nL cells slots Q ws lv pc (.ref x :: st) := fun H locs ls hP hD hS h => lv_astore F.1 F.2.1 d h hn hl (fun ls' h' => k H locs ls' hP hD hS h')
theorem j_iinc (F : CallFix p m c cc nL s args Ts own) {i : Nat} {n : Int} {x v : Int32} (d : decode cc pc = .ok (.iinc i n, 3)) (q : Nat) (hq : lv[q]? = some (i, .int x)) (hv : x + Int32.ofInt n = v) (hn : i < nL) (hl : (i, Value.int v) :: lv.filter (fun q => !(q.1 == i) && !(q.1 + 1 == i && q.2.category == 2)) = lv') (k : J p l e R s m args below meth c D cl A H0 nL cells slots Q ws lv' (pc + 3) st) : J p l e R s m args below meth c D cl A H0 nL cells slots Q ws lv pc st := fun H locs ls hP hD hS h => lv_iinc F.1 F.2.1 d h hq hv hn hl (fun ls' h' => k H locs ls' hP hD hS h')
theorem j_iadd (F : CallFix p m c cc nL s args Ts own) {x y v : Int32} (d : decode cc pc = .ok (.iadd, 1)) (hv : x + y = v) (k : J p l e R s m args below meth c D cl A H0 nL cells slots Q ws lv (pc + 1) (.int v :: st)) : J p l e R s m args below meth c D cl A H0 nL cells slots Q ws lv pc (.int y :: .int x :: st) := fun H locs ls hP hD hS h => lv_iadd F.1 F.2.1 d (hv ▸ k H locs ls hP hD hS h)
theorem j_isub (F : CallFix p m c cc nL s args Ts own) {x y v : Int32} (d : decode cc pc = .ok (.isub, 1)) (hv : x - y = v) (k : J p l e R s m args below meth c D cl A H0 nL cells slots Q ws lv (pc + 1) (.int v :: st)) : J p l e R s m args below meth c D cl A H0 nL cells slots Q ws lv pc (.int y :: .int x :: st) := fun H locs ls hP hD hS h => lv_isub F.1 F.2.1 d (hv ▸ k H locs ls hP hD hS h)
theorem j_imul (F : CallFix p m c cc nL s args Ts own) {x y v : Int32} (d : decode cc pc = .ok (.imul, 1)) (hv : x * y = v) (k : J p l e R s m args below meth c D cl A H0 nL cells slots Q ws lv (pc + 1) (.int v :: st)) : J p l e R s m args below meth c D cl A H0 nL cells slots Q ws lv pc (.int y :: .int x :: st) := fun H locs ls hP hD hS h => lv_imul F.1 F.2.1 d (hv ▸ k H locs ls hP hD hS h)
theorem j_idiv (F : CallFix p m c cc nL s args Ts own) {x y v : Int32} (d : decode cc pc = .ok (.idiv, 1)) (hne : ¬ y = 0) (hv : x / y = v) (k : J p l e R s m args below meth c D cl A H0 nL cells slots Q ws lv (pc + 1) (.int v :: st)) : J p l e R s m args below meth c D cl A H0 nL cells slots Q ws lv pc (.int y :: .int x :: st) := fun H locs ls hP hD hS h => lv_idiv F.1 F.2.1 d hne (hv ▸ k H locs ls hP hD hS h)
theorem j_irem (F : CallFix p m c cc nL s args Ts own) {x y v : Int32} (d : decode cc pc = .ok (.irem, 1)) (hne : ¬ y = 0) (hv : x - x / y * y = v) (k : J p l e R s m args below meth c D cl A H0 nL cells slots Q ws lv (pc + 1) (.int v :: st)) : J p l e R s m args below meth c D cl A H0 nL cells slots Q ws lv pc (.int y :: .int x :: st) := fun H locs ls hP hD hS h => lv_irem F.1 F.2.1 d hne (hv ▸ k H locs ls hP hD hS h)
theorem j_iand (F : CallFix p m c cc nL s args Ts own) {x y v : Int32} (d : decode cc pc = .ok (.iand, 1)) (hv : x &&& y = v) (k : J p l e R s m args below meth c D cl A H0 nL cells slots Q ws lv (pc + 1) (.int v :: st)) : J p l e R s m args below meth c D cl A H0 nL cells slots Q ws lv pc (.int y :: .int x :: st) := fun H locs ls hP hD hS h => lv_iand F.1 F.2.1 d (hv ▸ k H locs ls hP hD hS h)
theorem j_ixor (F : CallFix p m c cc nL s args Ts own) {x y v : Int32} (d : decode cc pc = .ok (.ixor, 1)) (hv : x ^^^ y = v) (k : J p l e R s m args below meth c D cl A H0 nL cells slots Q ws lv (pc + 1) (.int v :: st)) : J p l e R s m args below meth c D cl A H0 nL cells slots Q ws lv pc (.int y :: .int x :: st) := fun H locs ls hP hD hS h => lv_ixor F.1 F.2.1 d (hv ▸ k H locs ls hP hD hS h)
theorem j_ishl (F : CallFix p m c cc nL s args Ts own) {x y v : Int32} (d : decode cc pc = .ok (.ishl, 1)) (hv : x <<< (y &&& 31) = v) (k : J p l e R s m args below meth c D cl A H0 nL cells slots Q ws lv (pc + 1) (.int v :: st)) : J p l e R s m args below meth c D cl A H0 nL cells slots Q ws lv pc (.int y :: .int x :: st) := fun H locs ls hP hD hS h => lv_ishl F.1 F.2.1 d (hv ▸ k H locs ls hP hD hS h)
theorem j_ineg (F : CallFix p m c cc nL s args Ts own) {x v : Int32} (d : decode cc pc = .ok (.ineg, 1)) (hv : -x = v) (k : J p l e R s m args below meth c D cl A H0 nL cells slots Q ws lv (pc + 1) (.int v :: st)) : J p l e R s m args below meth c D cl A H0 nL cells slots Q ws lv pc (.int x :: st) := fun H locs ls hP hD hS h => lv_ineg F.1 F.2.1 d (hv ▸ k H locs ls hP hD hS h)
theorem j_dup (F : CallFix p m c cc nL s args Ts own) {v : Value} (d : decode cc pc = .ok (.dup, 1)) (hv : v.category = 1) (k : J p l e R s m args below meth c D cl A H0 nL cells slots Q ws lv (pc + 1) (v :: v :: st)) : J p l e R s m args below meth c D cl A H0 nL cells slots Q ws lv pc (v :: st) := fun H locs ls hP hD hS h => lv_dup F.1 F.2.1 d hv (k H locs ls hP hD hS h)
theorem j_dup2 (F : CallFix p m c cc nL s args Ts own) {v w : Value} (d : decode cc pc = .ok (.dup2, 1)) (hv : v.category = 1) (hw : w.category = 1) (k : J p l e R s m args below meth c D cl A H0 nL cells slots Q ws lv (pc + 1) (v :: w :: v :: w :: st)) : J p l e R s m args below meth c D cl A H0 nL cells slots Q ws lv pc (v :: w :: st) := fun H locs ls hP hD hS h => lv_dup2_11 F.1 F.2.1 d hv hw (k H locs ls hP hD hS h)
theorem j_dupx1 (F : CallFix p m c cc nL s args Ts own) {v w : Value} (d : decode cc pc = .ok (.dup_x1, 1)) (hv : v.category = 1) (hw : w.category = 1) (k : J p l e R s m args below meth c D cl A H0 nL cells slots Q ws lv (pc + 1) (v :: w :: v :: st)) : J p l e R s m args below meth c D cl A H0 nL cells slots Q ws lv pc (v :: w :: st) := fun H locs ls hP hD hS h => lv_dup_x1 F.1 F.2.1 d hv hw (k H locs ls hP hD hS h)
theorem j_pop (F : CallFix p m c cc nL s args Ts own) {v : Value} (d : decode cc pc = .ok (.pop, 1)) (hv : v.category = 1) (k : J p l e R s m args below meth c D cl A H0 nL cells slots Q ws lv (pc + 1) st) : J p l e R s m args below meth c D cl A H0 nL cells slots Q ws lv pc (v :: st) := fun H locs ls hP hD hS h => lv_pop F.1 F.2.1 d hv (k H locs ls hP hD hS h)
theorem j_goto (F : CallFix p m c cc nL s args Ts own) {off : Int} {tgt : Nat} (d : decode cc pc = .ok (.goto off, 3)) (ht : (pc : Int) + off = (tgt : Int)) (k : J p l e R s m args below meth c D cl A H0 nL cells slots Q ws lv tgt st) : J p l e R s m args below meth c D cl A H0 nL cells slots Q ws lv pc st := fun H locs ls hP hD hS h => lv_goto F.1 F.2.1 d ht (k H locs ls hP hD hS h)
theorem j_if_eq (F : CallFix p m c cc nL s args Ts own) {x : Int32} {off : Int} {tgt : Nat} (d : decode cc pc = .ok (.ifCond .eq off, 3)) (ht : (pc : Int) + off = (tgt : Int)) (kt : x = nI 0 → J p l e R s m args below meth c D cl A H0 nL cells slots Q ws lv tgt st) (kf : ¬ x = nI 0 → J p l e R s m args below meth c D cl A H0 nL cells slots Q ws lv (pc + 3) st) : J p l e R s m args below meth c D cl A H0 nL cells slots Q ws lv pc (.int x :: st) := fun H locs ls hP hD hS h => lv_if_eq F.1 F.2.1 d ht (fun q => kt (by rw [nI_0]; exact q) H locs ls hP hD hS h) (fun q => kf (by rw [nI_0]; exact q) H locs ls hP hD hS h)
theorem j_ic_eq (F : CallFix p m c cc nL s args Ts own) {x y : Int32} {off : Int} {tgt : Nat} (d : decode cc pc = .ok (.if_icmp .eq off, 3)) (ht : (pc : Int) + off = (tgt : Int)) (kt : x = y → J p l e R s m args below meth c D cl A H0 nL cells slots Q ws lv tgt st) (kf : ¬ x = y → J p l e R s m args below meth c D cl A H0 nL cells slots Q ws lv (pc + 3) st) : J p l e R s m args below meth c D cl A H0 nL cells slots Q ws lv pc (.int y :: .int x :: st) := fun H locs ls hP hD hS h => lv_icmp_eq F.1 F.2.1 d ht (fun q => kt q H locs ls hP hD hS h) (fun q => kf q H locs ls hP hD hS h)
theorem j_if_ne (F : CallFix p m c cc nL s args Ts own) {x : Int32} {off : Int} {tgt : Nat} (d : decode cc pc = .ok (.ifCond .ne off, 3)) (ht : (pc : Int) + off = (tgt : Int)) (kt : ¬ x = nI 0 → J p l e R s m args below meth c D cl A H0 nL cells slots Q ws lv tgt st) (kf : x = nI 0 → J p l e R s m args below meth c D cl A H0 nL cells slots Q ws lv (pc + 3) st) : J p l e R s m args below meth c D cl A H0 nL cells slots Q ws lv pc (.int x :: st) := fun H locs ls hP hD hS h => lv_if_ne F.1 F.2.1 d ht (fun q => kt (by rw [nI_0]; exact q) H locs ls hP hD hS h) (fun q => kf (by rw [nI_0]; exact q) H locs ls hP hD hS h)
theorem j_ic_ne (F : CallFix p m c cc nL s args Ts own) {x y : Int32} {off : Int} {tgt : Nat} (d : decode cc pc = .ok (.if_icmp .ne off, 3)) (ht : (pc : Int) + off = (tgt : Int)) (kt : ¬ x = y → J p l e R s m args below meth c D cl A H0 nL cells slots Q ws lv tgt st) (kf : x = y → J p l e R s m args below meth c D cl A H0 nL cells slots Q ws lv (pc + 3) st) : J p l e R s m args below meth c D cl A H0 nL cells slots Q ws lv pc (.int y :: .int x :: st) := fun H locs ls hP hD hS h => lv_icmp_ne F.1 F.2.1 d ht (fun q => kt q H locs ls hP hD hS h) (fun q => kf q H locs ls hP hD hS h)
theorem j_if_lt (F : CallFix p m c cc nL s args Ts own) {x : Int32} {off : Int} {tgt : Nat} (d : decode cc pc = .ok (.ifCond .lt off, 3)) (ht : (pc : Int) + off = (tgt : Int)) (kt : x < nI 0 → J p l e R s m args below meth c D cl A H0 nL cells slots Q ws lv tgt st) (kf : ¬ x < nI 0 → J p l e R s m args below meth c D cl A H0 nL cells slots Q ws lv (pc + 3) st) : J p l e R s m args below meth c D cl A H0 nL cells slots Q ws lv pc (.int x :: st) := fun H locs ls hP hD hS h => lv_if_lt F.1 F.2.1 d ht (fun q => kt (by rw [nI_0]; exact q) H locs ls hP hD hS h) (fun q => kf (by rw [nI_0]; exact q) H locs ls hP hD hS h)
theorem j_ic_lt (F : CallFix p m c cc nL s args Ts own) {x y : Int32} {off : Int} {tgt : Nat} (d : decode cc pc = .ok (.if_icmp .lt off, 3)) (ht : (pc : Int) + off = (tgt : Int)) (kt : x < y → J p l e R s m args below meth c D cl A H0 nL cells slots Q ws lv tgt st) (kf : ¬ x < y → J p l e R s m args below meth c D cl A H0 nL cells slots Q ws lv (pc + 3) st) : J p l e R s m args below meth c D cl A H0 nL cells slots Q ws lv pc (.int y :: .int x :: st) := fun H locs ls hP hD hS h => lv_icmp_lt F.1 F.2.1 d ht (fun q => kt q H locs ls hP hD hS h) (fun q => kf q H locs ls hP hD hS h)
theorem j_if_ge (F : CallFix p m c cc nL s args Ts own) {x : Int32} {off : Int} {tgt : Nat} (d : decode cc pc = .ok (.ifCond .ge off, 3)) (ht : (pc : Int) + off = (tgt : Int)) (kt : nI 0 ≤ x → J p l e R s m args below meth c D cl A H0 nL cells slots Q ws lv tgt st) (kf : ¬ nI 0 ≤ x → J p l e R s m args below meth c D cl A H0 nL cells slots Q ws lv (pc + 3) st) : J p l e R s m args below meth c D cl A H0 nL cells slots Q ws lv pc (.int x :: st) := fun H locs ls hP hD hS h => lv_if_ge F.1 F.2.1 d ht (fun q => kt (by rw [nI_0]; exact q) H locs ls hP hD hS h) (fun q => kf (by rw [nI_0]; exact q) H locs ls hP hD hS h)
theorem j_ic_ge (F : CallFix p m c cc nL s args Ts own) {x y : Int32} {off : Int} {tgt : Nat} (d : decode cc pc = .ok (.if_icmp .ge off, 3)) (ht : (pc : Int) + off = (tgt : Int)) (kt : y ≤ x → J p l e R s m args below meth c D cl A H0 nL cells slots Q ws lv tgt st) (kf : ¬ y ≤ x → J p l e R s m args below meth c D cl A H0 nL cells slots Q ws lv (pc + 3) st) : J p l e R s m args below meth c D cl A H0 nL cells slots Q ws lv pc (.int y :: .int x :: st) := fun H locs ls hP hD hS h => lv_icmp_ge F.1 F.2.1 d ht (fun q => kt q H locs ls hP hD hS h) (fun q => kf q H locs ls hP hD hS h)
theorem j_if_gt (F : CallFix p m c cc nL s args Ts own) {x : Int32} {off : Int} {tgt : Nat} (d : decode cc pc = .ok (.ifCond .gt off, 3)) (ht : (pc : Int) + off = (tgt : Int)) (kt : nI 0 < x → J p l e R s m args below meth c D cl A H0 nL cells slots Q ws lv tgt st) (kf : ¬ nI 0 < x → J p l e R s m args below meth c D cl A H0 nL cells slots Q ws lv (pc + 3) st) : J p l e R s m args below meth c D cl A H0 nL cells slots Q ws lv pc (.int x :: st) := fun H locs ls hP hD hS h => lv_if_gt F.1 F.2.1 d ht (fun q => kt (by rw [nI_0]; exact q) H locs ls hP hD hS h) (fun q => kf (by rw [nI_0]; exact q) H locs ls hP hD hS h)
theorem j_ic_gt (F : CallFix p m c cc nL s args Ts own) {x y : Int32} {off : Int} {tgt : Nat} (d : decode cc pc = .ok (.if_icmp .gt off, 3)) (ht : (pc : Int) + off = (tgt : Int)) (kt : y < x → J p l e R s m args below meth c D cl A H0 nL cells slots Q ws lv tgt st) (kf : ¬ y < x → J p l e R s m args below meth c D cl A H0 nL cells slots Q ws lv (pc + 3) st) : J p l e R s m args below meth c D cl A H0 nL cells slots Q ws lv pc (.int y :: .int x :: st) := fun H locs ls hP hD hS h => lv_icmp_gt F.1 F.2.1 d ht (fun q => kt q H locs ls hP hD hS h) (fun q => kf q H locs ls hP hD hS h)
theorem j_if_le (F : CallFix p m c cc nL s args Ts own) {x : Int32} {off : Int} {tgt : Nat} (d : decode cc pc = .ok (.ifCond .le off, 3)) (ht : (pc : Int) + off = (tgt : Int)) (kt : x ≤ nI 0 → J p l e R s m args below meth c D cl A H0 nL cells slots Q ws lv tgt st) (kf : ¬ x ≤ nI 0 → J p l e R s m args below meth c D cl A H0 nL cells slots Q ws lv (pc + 3) st) : J p l e R s m args below meth c D cl A H0 nL cells slots Q ws lv pc (.int x :: st) := fun H locs ls hP hD hS h => lv_if_le F.1 F.2.1 d ht (fun q => kt (by rw [nI_0]; exact q) H locs ls hP hD hS h) (fun q => kf (by rw [nI_0]; exact q) H locs ls hP hD hS h)
theorem j_ic_le (F : CallFix p m c cc nL s args Ts own) {x y : Int32} {off : Int} {tgt : Nat} (d : decode cc pc = .ok (.if_icmp .le off, 3)) (ht : (pc : Int) + off = (tgt : Int)) (kt : x ≤ y → J p l e R s m args below meth c D cl A H0 nL cells slots Q ws lv tgt st) (kf : ¬ x ≤ y → J p l e R s m args below meth c D cl A H0 nL cells slots Q ws lv (pc + 3) st) : J p l e R s m args below meth c D cl A H0 nL cells slots Q ws lv pc (.int y :: .int x :: st) := fun H locs ls hP hD hS h => lv_icmp_le F.1 F.2.1 d ht (fun q => kt q H locs ls hP hD hS h) (fun q => kf q H locs ls hP hD hS h)
theorem j_tabOut (F : CallFix p m c cc nL s args Ts own) {dflt lo hi : Int} {offs : Array Int} {len : Nat} {x : Int32} {tgt : Nat} (d : decode cc pc = .ok (.tableswitch dflt lo hi offs, len)) (h : x.toInt < lo ∨ hi < x.toInt) (ht : (pc : Int) + dflt = (tgt : Int)) (k : J p l e R s m args below meth c D cl A H0 nL cells slots Q ws lv tgt st) : J p l e R s m args below meth c D cl A H0 nL cells slots Q ws lv pc (.int x :: st) := fun H locs ls hP hD hS hl => lv_tableOut F.1 F.2.1 d h ht (k H locs ls hP hD hS hl)
theorem j_tabIn (F : CallFix p m c cc nL s args Ts own) {dflt lo hi : Int} {offs : Array Int} {len : Nat} {x : Int32} {off : Int} {tgt : Nat} (d : decode cc pc = .ok (.tableswitch dflt lo hi offs, len)) (z : Int) (hz : x.toInt = z) (h1 : ¬ z < lo) (h2 : ¬ hi < z) (ho : offs[(z - lo).toNat]? = some off) (ht : (pc : Int) + off = (tgt : Int)) (k : J p l e R s m args below meth c D cl A H0 nL cells slots Q ws lv tgt st) : J p l e R s m args below meth c D cl A H0 nL cells slots Q ws lv pc (.int x :: st) := fun H locs ls hP hD hS hl => lv_tableIn F.1 F.2.1 d (by rw [hz]; exact h1) (by rw [hz]; exact h2) (by rw [hz]; exact ho) ht (k H locs ls hP hD hS hl)
/-- the words of private members of nest mates -/
def j_nest : Cond → Bool
  | .fieldLinkNest _ _ _ _ _ _ => true
  | .methodLinkNest _ _ _ _ => true
  | .castable _ _ => true
  | .declares _ => true
  | _ => false
def NWs (nws : List Cond) (U : State) : Prop := ∀ w ∈ nws, va_Nw w U ∧ j_nest w = true
theorem NWs.warm {nws : List Cond} {s U : State} (hW : s.WarmedH U.vm) (h : NWs nws s) : NWs nws U := by
  intro w hw
  obtain ⟨h1, h2⟩ := h w hw
  refine ⟨?_, h2⟩
  cases w <;> first | exact va_Nw.warmF hW h1 | exact va_Nw.warmM hW h1 | exact va_Nw.warmC hW h1 | exact va_Nw.warmD hW h1 | (simp [j_nest] at h2; done)
theorem NWs.same {nws : List Cond} {s U : State} (hv : s.vm = U.vm) (h : NWs nws s) : NWs nws U := by
  intro w hw
  obtain ⟨h1, h2⟩ := h w hw
  refine ⟨?_, h2⟩
  cases w <;> first | exact va_Nw.same rfl hv h1 | (simp [j_nest] at h2; done)
theorem j_get (F : CallFix p m c cc nL s args Ts own) {C : String} {T : u_T} {N ci index : Nat} (hin : ∀ w ∈ u_ws C T N, w ∈ Ts) (hK : va_K D cl tys s) (q0 : Nat) {a : Nat} {fs : List Value} (he : ws[q0]? = some (a, .inr (ci, fs))) (hc : cl[ci]? = some (C, T, N)) (k0 : Nat) (hk : k0 < N) (hlink : Cond.fieldLink own index (T k0).1 (T k0).2.1 (T k0).2.2.1 ∈ Ts) {v : Value} (hv : fs[k0]? = some v) (d : decode cc pc = .ok (.getfield index, 3))
    (k : J p l e R s m args below meth c D cl A H0 nL cells slots Q ws lv (pc + 3) (v :: st)) : J p l e R s m args below meth c D cl A H0 nL cells slots Q ws lv pc (.ref a :: st) := fun H locs ls hP hD hS hl => va_get F.1 F.2.1 F.2.2.2.2 hin F.2.2.2.1 hK hP q0 he hc k0 hk (F.2.2.2.2 _ hlink) (fun _ h9 => h9) hv d (k H locs ls hP hD hS hl)
theorem j_getN (F : CallFix p m c cc nL s args Ts own) {C host : String} {T : u_T} {N ci index : Nat} {nws : List Cond} (hin : ∀ w ∈ u_ws C T N, w ∈ Ts) (hK : va_K D cl tys s) (hN : NWs nws s) (q0 : Nat) {a : Nat} {fs : List Value} (he : ws[q0]? = some (a, .inr (ci, fs))) (hc : cl[ci]? = some (C, T, N)) (k0 : Nat) (hk : k0 < N) (hlink : Cond.fieldLinkNest own index (T k0).1 (T k0).2.1 (T k0).2.2.1 host ∈ nws) {v : Value} (hv : fs[k0]? = some v) (d : decode cc pc = .ok (.getfield index, 3))
    (k : J p l e R s m args below meth c D cl A H0 nL cells slots Q ws lv (pc + 3) (v :: st)) : J p l e R s m args below meth c D cl A H0 nL cells slots Q ws lv pc (.ref a :: st) := fun H locs ls hP hD hS hl => va_getN F.1 F.2.1 F.2.2.2.2 hin F.2.2.2.1 hK hP q0 he hc k0 hk (va_Nw.use rfl (hN _ hlink).1) (fun _ h9 => h9) hv d (k H locs ls hP hD hS hl)
theorem j_put (F : CallFix p m c cc nL s args Ts own) {C : String} {T : u_T} {N ci index : Nat} (hin : ∀ w ∈ u_ws C T N, w ∈ Ts) (ty0 : Nat → FieldType) (hty : ∀ k, k < N → parseFieldDescriptor (T k).2.2.1 = some (ty0 k)) (hnm : ∀ a, a < N → ∀ b, b < N → a ≠ b → (T a).2.1 ≠ (T b).2.1) (hK : va_K D cl tys s) (q0 : Nat) {a : Nat} {fs : List Value} (he : ws[q0]? = some (a, .inr (ci, fs))) (hc : cl[ci]? = some (C, T, N)) (k0 : Nat) (hk : k0 < N) (hlink : Cond.fieldLink own index (T k0).1 (T k0).2.1 (T k0).2.2.1 ∈ Ts) (hfin : (T k0).2.2.2 = false) {ty : FieldType} {v : Value} (hd : parseFieldDescriptor (T k0).2.2.1 = some ty) (hn : narrow ty v = v) (hfit : fits ty v = true) (hl0 : k0 < fs.length) (d : decode cc pc = .ok (.putfield index, 3)) (hw : ws.set q0 (a, .inr (ci, fs.set k0 v)) = ws')
    (k : J p l e R s m args below meth c D cl A H0 nL cells slots Q ws' lv (pc + 3) st) : J p l e R s m args below meth c D cl A H0 nL cells slots Q ws lv pc (v :: .ref a :: st) := fun H locs ls hP hD hS hl => va_put F.1 F.2.1 F.2.2.2.2 hin ty0 hty hnm F.2.2.2.1 hK hP hD hS q0 he hc k0 hk (F.2.2.2.2 _ hlink) (fun _ h9 => h9) hfin hd hn hfit hl0 d (fun H1 locs1 hP1 hD1 hS1 => k H1 locs1 ls (by rw [← hw]; exact hP1) (by rw [← hw]; exact hD1) hS1 hl)
theorem j_putF (F : CallFix p m c cc nL s args Ts own) (hinit : meth.name = "<init>") {C : String} {T : u_T} {N ci index : Nat} (hin : ∀ w ∈ u_ws C T N, w ∈ Ts) (ty0 : Nat → FieldType) (hty : ∀ k, k < N → parseFieldDescriptor (T k).2.2.1 = some (ty0 k)) (hnm : ∀ a, a < N → ∀ b, b < N → a ≠ b → (T a).2.1 ≠ (T b).2.1) (hK : va_K D cl tys s) (q0 : Nat) {a : Nat} {fs : List Value} (he : ws[q0]? = some (a, .inr (ci, fs))) (hc : cl[ci]? = some (C, T, N)) (k0 : Nat) (hk : k0 < N) (hlink : Cond.fieldLink own index (T k0).1 (T k0).2.1 (T k0).2.2.1 ∈ Ts) (hfin : (T k0).2.2.2 = true) (hdecl : (T k0).1 = own) {ty : FieldType} {v : Value} (hd : parseFieldDescriptor (T k0).2.2.1 = some ty) (hn : narrow ty v = v) (hfit : fits ty v = true) (hl0 : k0 < fs.length) (d : decode cc pc = .ok (.putfield index, 3)) (hw : ws.set q0 (a, .inr (ci, fs.set k0 v)) = ws')
    (k : J p l e R s m args below meth c D cl A H0 nL cells slots Q ws' lv (pc + 3) st) : J p l e R s m args below meth c D cl A H0 nL cells slots Q ws lv pc (v :: .ref a :: st) := fun H locs ls hP hD hS hl => va_putF F.1 F.2.1 F.2.2.2.2 hin ty0 hty hnm F.2.2.2.1 hK hP hD hS q0 he hc k0 hk (F.2.2.2.2 _ hlink) (fun _ h9 => h9) hfin hinit hdecl hd hn hfit hl0 d (fun H1 locs1 hP1 hD1 hS1 => k H1 locs1 ls (by rw [← hw]; exact hP1) (by rw [← hw]; exact hD1) hS1 hl)
theorem j_iald (F : CallFix p m c cc nL s args Ts own) (hK : va_K D cl tys s) (q0 t0 : Nat) {a : Nat} {cA : ClassId} {n : Nat} {f : Nat → Int32} (ha : ws[q0]? = some (a, .inl (cA, n, .inl f))) (ht : tys[t0]? = some (cA, .int)) {i : Nat} {v : Int32} (hi : i < n) (hn : n < 2147483648) (d : decode cc pc = .ok (.iaload, 1)) (hv : f i = v)
    (k : J p l e R s m args below meth c D cl A H0 nL cells slots Q ws lv (pc + 1) (.int v :: st)) : J p l e R s m args below meth c D cl A H0 nL cells slots Q ws lv pc (.int (nI i) :: .ref a :: st) := fun H locs ls hP hD hS hl => va_iald F.1 F.2.1 hK hP q0 t0 ha ht (vp_in_nI hi hn) d (by rw [nI_clamp (Nat.lt_trans hi hn), hv]; exact k H locs ls hP hD hS hl)
theorem j_iast (F : CallFix p m c cc nL s args Ts own) (hK : va_K D cl tys s) (q0 t0 : Nat) {a : Nat} {cA : ClassId} {n : Nat} {f : Nat → Int32} (ha : ws[q0]? = some (a, .inl (cA, n, .inl f))) (ht : tys[t0]? = some (cA, .int)) {i : Nat} {x : Int32} (hi : i < n) (hn : n < 2147483648) (d : decode cc pc = .ok (.iastore, 1)) (hw : ws.set q0 (a, .inl (cA, n, .inl (upd f i x))) = ws')
    (k : J p l e R s m args below meth c D cl A H0 nL cells slots Q ws' lv (pc + 1) st) : J p l e R s m args below meth c D cl A H0 nL cells slots Q ws lv pc (.int x :: .int (nI i) :: .ref a :: st) := fun H locs ls hP hD hS hl => va_iast F.1 F.2.1 hK hP hD hS q0 t0 ha ht (vp_in_nI hi hn) d (by rw [nI_clamp (Nat.lt_trans hi hn), hw]; exact fun H1 locs1 hP1 hD1 hS1 => k H1 locs1 ls hP1 hD1 hS1 hl)
theorem j_newi (F : CallFix p m c cc nL s args Ts own) (hA : ∀ q, H0.size ≤ q → A q) (harr : Cond.arrayClass .int ∈ Ts) (hK : va_K D cl tys s) (t0 : Nat) {cA : ClassId} (ht : tys[t0]? = some (cA, .int)) {N : Nat} (hN : N < 1000000) (hcells : cells + 1 ≤ R.cells) (hslots : slots + N ≤ R.slots) (d : decode cc pc = .ok (.newarray .int, 2))
    (k : ∀ q : Nat, J p l e R s m args below meth c D cl A H0 nL (cells + 1) (slots + N) Q (ws ++ [(q, .inl (cA, N, .inl (fun _ => 0)))]) lv (pc + 2) (.ref q :: st)) : J p l e R s m args below meth c D cl A H0 nL cells slots Q ws lv pc (.int (nI N) :: st) := by
  intro H locs ls hP hD hS hl
  refine va_newa (atype := .int) (a0 := (N, .inl (fun _ => 0))) (N' := N) (ty := .int) F.1 F.2.1 (F.2.2.2.2 _ harr) rfl hK hP hD hS hA (fun cB => ?_) (nI_pos (by omega)) (nI_clamp (by omega)) ?_ hcells hslots d (fun q cB H1 hK1 hP1 hD1 hS1 => ?_)
  · rfl
  · show N * 4 ≤ 536870912
    omega
  · have e1 : s.vm.findClass ("[" ++ FieldType.int.toString) = some cA := (hK.2 t0 _ ht).2
    have e2 : s.vm.findClass ("[" ++ FieldType.int.toString) = some cB := (hK1.2 tys.length (cB, .int) (by simp)).2
    have e3 : cA = cB := Option.some.inj (e1.symm.trans e2)
    subst e3
    exact k q H1 locs ls hP1 hD1 hS1 hl
theorem j_new (F : CallFix p m c cc nL s args Ts own) (hA : ∀ q, H0.size ≤ q → A q) {C : String} {T : u_T} {N ci index : Nat} (hin : ∀ w ∈ u_ws C T N, w ∈ Ts) (ty : Nat → FieldType) (hty : ∀ k, k < N → parseFieldDescriptor (T k).2.2.1 = some (ty k)) (hcl : Cond.classLink own index C ∈ Ts) (hinst : Cond.instantiable C N ∈ Ts) (hini : Cond.initialized C ∈ Ts) (hK : va_K D cl tys s) (hc : cl[ci]? = some (C, T, N)) (fs : List Value) (hfs : ∀ j, j < N → defaultValue (ty j) = vp_V fs j) (hcells : cells + 1 ≤ R.cells) (hslots : slots + N ≤ R.slots) (d : decode cc pc = .ok (.new index, 3))
    (k : ∀ q : Nat, J p l e R s m args below meth c D cl A H0 nL (cells + 1) (slots + N) Q (ws ++ [(q, .inr (ci, fs))]) lv (pc + 3) (.ref q :: st)) : J p l e R s m args below meth c D cl A H0 nL cells slots Q ws lv pc st := fun H locs ls hP hD hS hl => va_new F.1 F.2.1 F.2.2.2.2 hin ty hty F.2.2.2.1 (F.2.2.2.2 _ hcl) (F.2.2.2.2 _ hinst) (F.2.2.2.2 _ hini) hK hP hD hS hA hc hfs hcells hslots d (fun q H1 hP1 hD1 hS1 => k q H1 locs ls hP1 hD1 hS1 hl)
/-- a contract: args As, the cells wc before, wn u behind, the answer -/
def CPre (D : va_G) (cl : List vw_C) (tys : List (ClassId × FieldType)) (nws : List Cond) (wc : va_W) (sz : Nat) (U : State) : Prop := U.heap.size = sz ∧ va_P D cl wc U.heap ∧ va_K D cl tys U ∧ va_D (fun _ => True) wc ∧ NWs nws U
def CEnd (D : va_G) (cl : List vw_C) (A : Nat → Prop) {S : Type} (wn : S → va_W) (u : S) (t : State) : Prop := va_P D cl (wn u) t.heap ∧ va_D A (wn u)
def Ci {S : Type} (l : Launch) (y : MethodName) (wy : List Cond) (rm : Room) (D : va_G) (cl : List vw_C) (tys : List (ClassId × FieldType)) (nws : List Cond) (As : List Value) (wc : va_W) (mc ms : Nat) (post : Int32 → S → Prop) (wn : S → va_W) : Prop :=
  ∀ sz, Met l y wy rm (va_Pc As (CPre D cl tys nws wc sz)) (va_Qi post (CEnd D cl (va_A wc sz) wn) (va_A wc sz)) mc ms (va_A wc sz)
def Cv {S : Type} (l : Launch) (y : MethodName) (wy : List Cond) (rm : Room) (D : va_G) (cl : List vw_C) (tys : List (ClassId × FieldType)) (nws : List Cond) (As : List Value) (wc : va_W) (mc ms : Nat) (post : S → Prop) (wn : S → va_W) : Prop :=
  ∀ sz, Met l y wy rm (va_Pc As (CPre D cl tys nws wc sz)) (va_Qv post (CEnd D cl (va_A wc sz) wn) (va_A wc sz)) mc ms (va_A wc sz)
theorem CPre.blind {nws : List Cond} {wc : va_W} {sz : Nat} {As : List Value} : FrameBlind (va_Pc As (CPre D cl tys nws wc sz)) := by
  intro a U g mk q
  obtain ⟨q0, q1, qP, qK, qD, qN⟩ := q
  exact ⟨q0, q1, qP, va_K.moved (u := U) (U := U.calling g mk a) (Vm.Alike.refl U.vm) qK, qD, NWs.same (s := U) (U := U.calling g mk a) rfl qN⟩
section Mk
variable {S : Type} {y : MethodName} {wy wy' : List Cond} {rm : Room} {nws : List Cond} {As : List Value} {wc : va_W} {mc ms : Nat} {ret : Option FieldType}
def RetI (p : Program) (l : Launch) (e : Env) (R : Room) (s : State) (m : MethodId) (args : Array Value) (below : List Frame) (meth : Method) (c : Code) (D : va_G) (cl : List vw_C) (A : Nat → Prop) (nL : Nat) (Q : State → Prop) (cc : ByteArray) (ty : FieldType) (mc ms : Nat) {S : Type} (post : Int32 → S → Prop) (wn : S → va_W) : Prop :=
  ∀ (ws : va_W) (lv : List (Nat × Value)) (pc cells slots : Nat) (v : Int32) (u : S), decode cc pc = .ok (.ireturn, 1) → narrow ty (.int v) = .int v → cells ≤ mc → slots ≤ ms → ws = wn u → post v u → J p l e R s m args below meth c D cl A s.heap nL cells slots Q ws lv pc [.int v]
def RetV (p : Program) (l : Launch) (e : Env) (R : Room) (s : State) (m : MethodId) (args : Array Value) (below : List Frame) (meth : Method) (c : Code) (D : va_G) (cl : List vw_C) (A : Nat → Prop) (nL : Nat) (Q : State → Prop) (cc : ByteArray) (mc ms : Nat) {S : Type} (post : S → Prop) (wn : S → va_W) : Prop :=
  ∀ (ws : va_W) (lv : List (Nat × Value)) (pc cells slots : Nat) (u : S), decode cc pc = .ok (.return_, 1) → cells ≤ mc → slots ≤ ms → ws = wn u → post u → J p l e R s m args below meth c D cl A s.heap nL cells slots Q ws lv pc []
theorem Ci.of {ty : FieldType} {post : Int32 → S → Prop} {wn : S → va_W} (hy : plainName y.cls = true) (hw : wy = Cond.code y cc nL (some ty) :: wy') (hlen : (lg_sl As).length ≤ nL) (hlv : lv_args 0 As = lv)
    (body : ∀ (p : Program) (e : Env) (s : State) (m : MethodId) (args : Array Value) (below : List Frame) (meth : Method) (c : Code) (A : Nat → Prop) (Q : State → Prop), CallFix p m c cc nL s args wy y.cls → va_K D cl tys s → NWs nws s → (∀ q, s.heap.size ≤ q → A q) →
      RetI p l e rm s m args below meth c D cl A nL Q cc ty mc ms post wn → J p l e rm s m args below meth c D cl A s.heap nL 0 0 Q wc lv 0 []) : Ci l y wy rm D cl tys nws As wc mc ms post wn := by
  intro sz
  refine Met.ofW (cc := cc) (maxL := nL) (ret := some ty) hy hw ?_
  intro p e s m args below meth c s₁ B hml hv
  obtain ⟨rfl, hsz, hP, hK, hD0, hN⟩ := hv
  subst hsz
  have h := lv_entry As (n := nL) hlen
  rw [lg_entry_eq]
  rw [hlv] at h
  have F : CallFix p m c cc nL s As.toArray wy y.cls := ⟨B.exec, B.bytes, hml, findClass_of_methodNamed B.named, atoms_spec (ws := wy) B.pre⟩
  have hr := B.returns
  have hlocks := B.notSynchronized
  refine body p e s m As.toArray below meth c (va_A wc s.heap.size) _ F hK hN (fun q h => Or.inr h) ?_ s.heap [] _ hP (hD0.self (sz := s.heap.size)) va_S.rf h
  intro ws lv pc cells slots v u d hn hc hs hws hpost H locs ls hP hD hS hl
  subst hws
  refine W.widen hc hs ?_
  exact W.zret F.1 F.2.1 hr hn (fun t ht hW => ⟨⟨v, u, rfl, hpost, by rw [ht]; exact hP, hD⟩, hS.F ht⟩) hS.2.2 d hlocks
theorem Cv.of {post : S → Prop} {wn : S → va_W} (hy : plainName y.cls = true) (hw : wy = Cond.code y cc nL none :: wy') (hlen : (lg_sl As).length ≤ nL) (hlv : lv_args 0 As = lv)
    (body : ∀ (p : Program) (e : Env) (s : State) (m : MethodId) (args : Array Value) (below : List Frame) (meth : Method) (c : Code) (A : Nat → Prop) (Q : State → Prop), CallFix p m c cc nL s args wy y.cls → va_K D cl tys s → NWs nws s → (∀ q, s.heap.size ≤ q → A q) → meth.name = y.name →
      RetV p l e rm s m args below meth c D cl A nL Q cc mc ms post wn → J p l e rm s m args below meth c D cl A s.heap nL 0 0 Q wc lv 0 []) : Cv l y wy rm D cl tys nws As wc mc ms post wn := by
  intro sz
  refine Met.ofW (cc := cc) (maxL := nL) (ret := none) hy hw ?_
  intro p e s m args below meth c s₁ B hml hv
  obtain ⟨rfl, hsz, hP, hK, hD0, hN⟩ := hv
  subst hsz
  have h := lv_entry As (n := nL) hlen
  rw [lg_entry_eq]
  rw [hlv] at h
  have F : CallFix p m c cc nL s As.toArray wy y.cls := ⟨B.exec, B.bytes, hml, findClass_of_methodNamed B.named, atoms_spec (ws := wy) B.pre⟩
  have hr := B.returns
  have hlocks := B.notSynchronized
  refine body p e s m As.toArray below meth c (va_A wc s.heap.size) _ F hK hN (fun q h => Or.inr h) (name_of_methodNamed B.named B.method).1 ?_ s.heap [] _ hP (hD0.self (sz := s.heap.size)) va_S.rf h
  intro ws lv pc cells slots u d hc hs hws hpost H locs ls hP hD hS hl
  subst hws
  refine W.widen hc hs ?_
  exact W.vret F.1 F.2.1 hr (fun t ht hW => ⟨⟨u, rfl, hpost, by rw [ht]; exact hP, hD⟩, hS.F ht⟩) hS.2.2 d hlocks
/-- a call, from its run -/
theorem j_goi {post : Int32 → S → Prop} {wn : S → va_W} {wr : va_W} {st0 : List Value} {a : Array Value} (hA : ∀ q, H0.size ≤ q → A q) (isC isR : List Nat) (hC : isC.map (fun i => ws[i]?) = wc.map some) (hR : isR.map (fun i => ws[i]?) = wr.map some) (hn : va_nd isR = true) (hdis : ∀ i ∈ isR, i ∉ isC)
    (run : ∀ (H : Heap) (locs : List Loc) (ls : Array Slot), va_P D cl ws H → va_D A ws → lv_has ls nL lv → va_Run p l e R s m args below meth c H locs cells slots mc ms (F0 m pc ls st0) st (va_Qi post (CEnd D cl (va_A wc H.size) wn) (va_A wc H.size) a) (va_A wc H.size))
    (k : ∀ (r : Int32) (u : S), post r u → J p l e R s m args below meth c D cl A H0 nL (cells + mc) (slots + ms) Q (wr ++ wn u) lv (pc + 3) (.int r :: st)) : J p l e R s m args below meth c D cl A H0 nL cells slots Q ws lv pc st0 := by
  intro H locs ls hP hD hS hl
  have hFc := va_free hD hS hA isC hC
  refine va_calli (run H locs ls hP hD hl) hS (fun q _ h => hFc q h) hFc (fun r u t H1 locs1 ht hvm hw hB hz1 hk1 hS1 => ?_)
  obtain ⟨hP1, hD1⟩ := hB
  rw [ht] at hP1
  obtain ⟨hP2, hD2⟩ := va_join hP hD isC isR hC hR hn hdis hk1 hFc hP1 hD1
  exact k r u hw H1 locs1 ls hP2 hD2 hS1 hl
theorem j_gov {post : S → Prop} {wn : S → va_W} {wr : va_W} {st0 : List Value} {a : Array Value} (hA : ∀ q, H0.size ≤ q → A q) (isC isR : List Nat) (hC : isC.map (fun i => ws[i]?) = wc.map some) (hR : isR.map (fun i => ws[i]?) = wr.map some) (hn : va_nd isR = true) (hdis : ∀ i ∈ isR, i ∉ isC)
    (run : ∀ (H : Heap) (locs : List Loc) (ls : Array Slot), va_P D cl ws H → va_D A ws → lv_has ls nL lv → va_Run p l e R s m args below meth c H locs cells slots mc ms (F0 m pc ls st0) st (va_Qv post (CEnd D cl (va_A wc H.size) wn) (va_A wc H.size) a) (va_A wc H.size))
    (k : ∀ (u : S), post u → J p l e R s m args below meth c D cl A H0 nL (cells + mc) (slots + ms) Q (wr ++ wn u) lv (pc + 3) st) : J p l e R s m args below meth c D cl A H0 nL cells slots Q ws lv pc st0 := by
  intro H locs ls hP hD hS hl
  have hFc := va_free hD hS hA isC hC
  refine va_callv (run H locs ls hP hD hl) hS (fun q _ h => hFc q h) hFc (fun u t H1 locs1 ht hvm hw hB hz1 hk1 hS1 => ?_)
  obtain ⟨hP1, hD1⟩ := hB
  rw [ht] at hP1
  obtain ⟨hP2, hD2⟩ := va_join hP hD isC isR hC hR hn hdis hk1 hFc hP1 hD1
  exact k u hw H1 locs1 ls hP2 hD2 hS1 hl
theorem sub_of {isC : List Nat} {wc : va_W} (hC : isC.map (fun i => ws[i]?) = wc.map some) : isC.filterMap (fun i => ws[i]?) = wc := by
  have h1 : (isC.map (fun i => ws[i]?)).filterMap id = (wc.map some).filterMap id := by rw [hC]
  rw [List.filterMap_map, List.filterMap_map] at h1
  have h2 : List.filterMap (id ∘ some) wc = wc := by
    have : (id ∘ (some : Nat × va_E → Option (Nat × va_E))) = some := rfl
    rw [this, List.filterMap_some]
  rw [h2] at h1
  exact h1
theorem pre_S (hK : va_K D cl tys s) (hN : NWs nws s) {H : Heap} (hP : va_P D cl ws H) (hD : va_D A ws) (isC : List Nat) (hC : isC.map (fun i => ws[i]?) = wc.map some) (hn : va_nd isC = true) : PreS s H (va_Pc As (CPre D cl tys nws wc H.size)) As :=
  ⟨CPre.blind, fun U hU hW => ⟨rfl, by rw [hU], by rw [hU]; exact hP.sub isC (sub_of hC), va_K.moved hW.alike hK, (hD.sub isC hn hC).weaken (fun _ _ _ _ => trivial), hN.warm hW⟩⟩
theorem pre_V {b : Nat} {As1 : List Value} (hAs : As = .ref b :: As1) (hK : va_K D cl tys s) (hN : NWs nws s) {H : Heap} (hP : va_P D cl ws H) (hD : va_D A ws) (isC : List Nat) (hC : isC.map (fun i => ws[i]?) = wc.map some) (hn : va_nd isC = true) (q0 : Nat) {ci : Nat} {fs : List Value} (he : ws[q0]? = some (b, .inr (ci, fs))) {C : String} {T : u_T} {N : Nat} (hc : cl[ci]? = some (C, T, N)) : PreV s H C b (va_Pc As (CPre D cl tys nws wc H.size)) As1 := by
  subst hAs
  exact ⟨CPre.blind, va_recv hK hP hc he, fun U hU hW => ⟨rfl, by rw [hU], by rw [hU]; exact hP.sub isC (sub_of hC), va_K.moved hW.alike hK, (hD.sub isC hn hC).weaken (fun _ _ _ _ => trivial), hN.warm hW⟩⟩
end Mk
end JL
section JM
variable {p : Program} {l : Launch} {e : Env} {R : Room} {s : State} {m : MethodId} {args : Array Value} {below : List Frame} {meth : Method} {c : Code} {Q : State → Prop} {D : va_G} {cl : List vw_C} {tys : List (ClassId × FieldType)} {A : Nat → Prop} {H0 : Heap} {nL cells slots : Nat}
variable {ws ws' : va_W} {lv lv' : List (Nat × Value)} {pc : Nat} {st : List Value} {cc : ByteArray} {Ts : List Cond} {own : String}
theorem j_mabs (F : CallFix p m c cc nL s args Ts own) {index : Nat} {x v : Int32} (h1 : Cond.methodLink own index Lib.Math.abs.name ∈ Ts) (h2 : Cond.static Lib.Math.abs.name ∈ Ts) (h3 : Cond.initialized "java/lang/Math" ∈ Ts) (h4 : Cond.code Lib.Math.abs.name Lib.Math.abs.code 1 (some .int) ∈ Ts) (hframes : 1 ≤ R.frames) (hlocals : (st.map fun v => v.category).sum + 13 ≤ R.locals) (hc : cells ≤ R.cells) (hs : slots ≤ R.slots) (d : decode cc pc = .ok (.invokestatic index, 3)) (hv : (if 0 ≤ x then x else 0 - x) = v)
    (k : J p l e R s m args below meth c D cl A H0 nL cells slots Q ws lv (pc + 3) (.int v :: st)) : J p l e R s m args below meth c D cl A H0 nL cells slots Q ws lv pc (.int x :: st) := fun H locs ls hP hD hS hl => va_mabs F.1 F.2.1 (F.2.2.1.trans hl.1.symm) F.2.2.2.1 (F.2.2.2.2 _ h1) (F.2.2.2.2 _ h2) (F.2.2.2.2 _ h3) (F.2.2.2.2 _ h4) hframes hlocals hc hs d (by rw [hv]; exact k H locs ls hP hD hS hl)
theorem j_mmax (F : CallFix p m c cc nL s args Ts own) {index : Nat} {x y v : Int32} (h1 : Cond.methodLink own index Lib.Math.max.name ∈ Ts) (h2 : Cond.static Lib.Math.max.name ∈ Ts) (h3 : Cond.initialized "java/lang/Math" ∈ Ts) (h4 : Cond.code Lib.Math.max.name Lib.Math.max.code 2 (some .int) ∈ Ts) (hframes : 1 ≤ R.frames) (hlocals : (st.map fun v => v.category).sum + 13 ≤ R.locals) (hc : cells ≤ R.cells) (hs : slots ≤ R.slots) (d : decode cc pc = .ok (.invokestatic index, 3)) (hv : (if x < y then y else x) = v)
    (k : J p l e R s m args below meth c D cl A H0 nL cells slots Q ws lv (pc + 3) (.int v :: st)) : J p l e R s m args below meth c D cl A H0 nL cells slots Q ws lv pc (.int y :: .int x :: st) := fun H locs ls hP hD hS hl => va_mmax F.1 F.2.1 (F.2.2.1.trans hl.1.symm) F.2.2.2.1 (F.2.2.2.2 _ h1) (F.2.2.2.2 _ h2) (F.2.2.2.2 _ h3) (F.2.2.2.2 _ h4) hframes hlocals hc hs d (by rw [hv]; exact k H locs ls hP hD hS hl)
theorem j_mmin (F : CallFix p m c cc nL s args Ts own) {index : Nat} {x y v : Int32} (h1 : Cond.methodLink own index Lib.Math.min.name ∈ Ts) (h2 : Cond.static Lib.Math.min.name ∈ Ts) (h3 : Cond.initialized "java/lang/Math" ∈ Ts) (h4 : Cond.code Lib.Math.min.name Lib.Math.min.code 2 (some .int) ∈ Ts) (hframes : 1 ≤ R.frames) (hlocals : (st.map fun v => v.category).sum + 13 ≤ R.locals) (hc : cells ≤ R.cells) (hs : slots ≤ R.slots) (d : decode cc pc = .ok (.invokestatic index, 3)) (hv : (if y < x then y else x) = v)
    (k : J p l e R s m args below meth c D cl A H0 nL cells slots Q ws lv (pc + 3) (.int v :: st)) : J p l e R s m args below meth c D cl A H0 nL cells slots Q ws lv pc (.int y :: .int x :: st) := fun H locs ls hP hD hS hl => va_mmin F.1 F.2.1 (F.2.2.1.trans hl.1.symm) F.2.2.2.1 (F.2.2.2.2 _ h1) (F.2.2.2.2 _ h2) (F.2.2.2.2 _ h3) (F.2.2.2.2 _ h4) hframes hlocals hc hs d (by rw [hv]; exact k H locs ls hP hD hS hl)
theorem j_obj (F : CallFix p m c cc nL s args Ts own) {index a : Nat} (h1 : Cond.methodLink own index Lib.objectInit ∈ Ts) (h2 : Cond.instanceMethod Lib.objectInit ∈ Ts) (h3 : Cond.code Lib.objectInit ⟨#[0xb1]⟩ 1 none ∈ Ts) (d : decode cc pc = .ok (.invokespecial index, 3)) (hframes : 1 ≤ R.frames) (hlocals : (st.map fun v => v.category).sum + 12 ≤ R.locals)
    (k : J p l e R s m args below meth c D cl A H0 nL cells slots Q ws lv (pc + 3) st) : J p l e R s m args below meth c D cl A H0 nL cells slots Q ws lv pc (.ref a :: st) := fun H locs ls hP hD hS hl => W.objInit F.1 F.2.1 F.2.2.2.1 (F.2.2.2.2 _ h1) (F.2.2.2.2 _ h2) (F.2.2.2.2 _ h3) rfl (hl.1.trans F.2.2.1.symm) rfl d hframes (by show 2 * 0 + _ + 12 ≤ _; omega) (W.eq (g2 := F0 m (pc + 3) ls st) rfl (k H locs ls hP hD hS hl))
end JM
end
section
/-! ===== BEGIN exceptions that leave a method, and their catching by the caller (launches without stack traces) ===== -/
section VXA
/-! The laws vx_back, vx_callV, vx_callS, vx_callSW, vx_throw0, vx_throwS follow proofs of the library, with one case more: JvmDerived/Free/Laws.lean (Back.of_free), Shelf42/LK1.lean (callV, callS), Shelf/KitTraced.lean (throwNew0V, throwNewS). -/
/-- where a method has thrown q: the class by its name, the cell, what was written, the world -/
def vx_T (XC : String → State → State → Prop) (st : State) (q : Addr) (t : State) (mc ms : Nat) (free : Addr → Prop) : Prop :=
  ∃ (E : String) (ce : Cell) (L : List Loc), XC E st t ∧ t.heap[q]? = some ce ∧ ce.vm = .none ∧ st.vm.findClass E = some ce.cls ∧ st.WarmedH t.vm ∧ st.sameButNew ({ t with vm := st.vm } : State) L mc ms ∧ ∀ z ∈ L, free z.base
def vx_Q (Qc : Array Value → State → Outcome → State → Prop) (XC : String → State → State → Prop) (mc ms : Nat) (free : Addr → Prop) : Array Value → State → Outcome → State → Prop := fun a st o t =>
  (Qc a st o t ∧ ∃ L, FrameEnd st o t L mc ms ∧ ∀ q ∈ L, free q.base) ∨ ∃ q, o = .threw q ∧ vx_T XC st q t mc ms free
/-- a callee that returns or throws -/
def vx_Met (l : Launch) (y : MethodName) (ws : List Cond) (rm : Room) (Pc : Array Value → State → Prop) (Qc : Array Value → State → Outcome → State → Prop) (XC : String → State → State → Prop) (mc ms : Nat) (free : Addr → Prop) : Prop :=
  MetFree l y (headSpec ws rm) Pc (fun _ _ _ _ _ => True) (vx_Q Qc XC mc ms free)
def vx_Post (XC : String → State → State → Prop) (mc ms : Nat) (free : Addr → Prop) : Pt → Array Value → Addr → Pt → Prop := fun A a q B =>
  ∃ (g : JFrame) (mk : MethodId) (t : State) (L : List Loc) (E : String) (ce : Cell), B.U.heap = t.heap ∧ B.U.vm = t.vm ∧ XC E (A.U.calling g mk a) t ∧ t.heap[q]? = some ce ∧ ce.vm = .none ∧ A.U.vm.findClass E = some ce.cls ∧ B.locs = A.locs ++ L ∧ (∀ z ∈ L, free z.base) ∧ B.cells = A.cells + mc ∧ B.slots = A.slots + ms
def vx_Back (l : Launch) (R : Room) (p : Program) (e : Env) (below : List Frame) (s : State) (sargs : Array Value) (y : MethodName) (len W9 : Nat)
    (Pre : Pt → Array Value → Prop) (Post : Pt → Array Value → Option Value → Pt → Prop) (PostX : Pt → Array Value → Addr → Pt → Prop) : Prop :=
  ∀ (m : MethodId) (meth : Method) (c : Code) (A : Pt) (g : JFrame) (ig : Instr) (mk : MethodId) (a : Array Value),
    Stand p l e R s m sargs below meth c A.U A.locs A.cells A.slots → g.method = m → g.locals.size = c.maxLocals → decode c.code g.pc = .ok (ig, len) →
    2 * g.monitorRoom + (g.stack.map fun v => v.category).sum ≤ W9 → A.U.methodNamed? y = some mk → Pre A a →
    (∃ (v : Option Value) (B : Pt), Stand p l e R s m sargs below meth c B.U B.locs B.cells B.slots ∧ Post A a v B ∧
      Steps p.tables e below (doInvoke e (A.U.setTop g) [] mk a).1 (B.U.setTop { g with pc := g.pc + len, stack := v.toList ++ g.stack })) ∨
    (∃ (q : Addr) (B : Pt), Stand p l e R s m sargs below meth c B.U B.locs B.cells B.slots ∧ PostX A a q B ∧
      Steps p.tables e below (doInvoke e (A.U.setTop g) [] mk a).1 ((B.U.setTop g).pushFrame (.throwing q)))
section Payer
variable {l : Launch} {R : Room} {p : Program} {e : Env} {below : List Frame} {s : State} {sargs : Array Value} {y : MethodName} {len W9 : Nat}
theorem vx_back {ws : List Cond} {rm : Room} {Pc : Array Value → State → Prop} {Qc : Array Value → State → Outcome → State → Prop} {XC : String → State → State → Prop} {mc ms : Nat} {free : Addr → Prop} {bytes : ByteArray} {maxL : Nat} {ret : Option FieldType}
    (hM : vx_Met l y ws rm Pc Qc XC mc ms free) (hblind : FrameBlind Pc) (hrc : rm.cells = mc) (hrs : rm.slots = ms)
    (hframes : rm.frames + 1 ≤ R.frames) (hlocals : W9 + (maxL + 11) + rm.locals ≤ R.locals)
    (hws : ∀ w ∈ ws, ∀ a' U, s.WarmedH U.vm → w.before a' U = true) (hcode : Cond.code y bytes maxL ret ∈ ws) (hinit : ∀ a' U, s.WarmedH U.vm → (Cond.initialized y.cls).before a' U = true) :
    vx_Back l R p e below s sargs y len W9 (PreOf R mc ms Pc) (PostOf Qc mc ms free) (vx_Post XC mc ms free) := by
  intro m meth c A g ig mk a X hg hsize hdg hW hn hp
  have h1 : (headSpec ws rm).pre.before a A.U = true := atoms_intro fun w hw => hws w hw _ _ X.warmed
  have h2 : (Cond.code y bytes maxL ret).before a A.U = true := hws _ hcode _ _ X.warmed
  have h3 : (Cond.initialized y.cls).before a A.U = true := hinit _ _ X.warmed
  have h4 : A.cells + (headSpec ws rm).room.cells ≤ R.cells := by rw [show (headSpec ws rm).room.cells = mc from hrc]; exact hp.1
  have h5 : A.slots + (headSpec ws rm).room.slots ≤ R.slots := by rw [show (headSpec ws rm).room.slots = ms from hrs]; exact hp.2.1
  have hPc : Pc a (A.U.calling g mk a) := hblind _ _ _ _ hp.2.2
  obtain ⟨U, Ls, c0, s0⟩ := A
  dsimp only [Pt.U, Pt.locs, Pt.cells, Pt.slots] at h1 h2 h3 h4 h5 X hn hPc ⊢
  obtain ⟨methY, cY, hmY, hcY, -, hlY, -, -, -, -⟩ := Cond.code_spec hn h2
  obtain ⟨kY, hkY, -⟩ := className_of_methodNamed hn
  have hinitY : kY.init = .initialized := Cond.initialized_spec (findClass_of_methodNamed hn) hkY h3
  have h : At U g.method c below := by rw [hg]; exact X.here
  have hlocals9 : W9 + (maxL + 11) + (headSpec ws rm).room.locals ≤ R.locals := hlocals
  have happ : (headSpec ws rm).appliesLoose y e.platform (U.calling g mk a) = true :=
    Spec.appliesLoose_calling (g := g) h hdg hn hkY hinitY
      (X.room_calling (g := g) (R' := (headSpec ws rm).room) hsize hmY hcY hframes (by rw [hlY]; omega) h4 h5) h1
  obtain ⟨mid, hmid⟩ := h.above
  have hfr : (U.setTop g).frames = (.java g :: mid) ++ below := by rw [State.frames_setTop' g h.top, hmid]; rfl
  obtain ⟨o, s₂, hsteps, -, hend, hq⟩ := Steps.callFree hM p X.admits X.cas X.clock (acts := []) hfr happ hPc trivial
  have hq' : vx_Q Qc XC mc ms free a (U.calling g mk a) o s₂ := hq
  rw [State.frames_setTop' g h.top] at hend
  obtain ⟨g₀, hg0⟩ := Option.isSome_iff_exists.mp h.top
  obtain ⟨r, hr⟩ := State.topJava?_eq_some.mp hg0
  have hr' : (({ U with heap := s₂.heap, slotsUsed := s₂.slotsUsed } : State).setVm s₂.vm).frames = .java g₀ :: r := hr
  rcases hq' with ⟨hqc, L, hfe, hL⟩ | ⟨q, rfl, E, ce, L, hx, hce, hcv, hcl, hW₂, hsm, hL⟩
  · obtain ⟨⟨v, rfl⟩, hW₂, e2, q2, q3, q4, q5, q6⟩ := id hfe
    have e3 : s₂ = ({ (U.calling g mk a).setFrames s₂.frames with heap := s₂.heap, slotsUsed := s₂.slotsUsed } : State).setVm s₂.vm := by
      have : s₂ = ({ s₂ with vm := (U.calling g mk a).vm } : State).setVm s₂.vm := rfl
      rw [e2] at this
      exact this
    obtain ⟨c₂, i₂, len₂, hc₂, hd₂, hf₂⟩ := hend
    have hW' : U.WarmedH s₂.vm := hW₂
    have hcc : c₂ = c := by
      have h1 : s₂.code? g.method = U.code? g.method := by
        rw [State.code?_eq, State.code?_eq, hW'.alike.method?]
      exact Option.some.inj (hc₂.symm.trans (h1.trans h.code))
    subst hcc
    have hlen : len₂ = len := by rw [hdg] at hd₂; cases hd₂; rfl
    subst hlen
    have hs₂ : s₂ = (({ U with heap := s₂.heap, slotsUsed := s₂.slotsUsed } : State).setVm s₂.vm).setTop { g with pc := g.pc + len₂, stack := v.toList ++ g.stack } := by
      refine e3.trans ?_
      rw [hf₂, State.calling_eq h.top, State.setFrames_setFrames, State.setTop_of_frames _ hr', hr]
      rfl
    have hsame : U.sameButNew ({ U with heap := s₂.heap, slotsUsed := s₂.slotsUsed } : State) L mc ms := by
      refine ⟨?_, q2, q3, q4, q5, q6⟩
      obtain ⟨t, ht, -⟩ := State.frames_cons hr
      show ({ U with heap := s₂.heap, slotsUsed := s₂.slotsUsed } : State) = { U.setFrames U.frames with heap := s₂.heap, slotsUsed := s₂.slotsUsed }
      rw [State.setFrames_self ht]
    subst hg
    refine Or.inl ⟨v, ⟨(({ U with heap := s₂.heap, slotsUsed := s₂.slotsUsed } : State).setVm s₂.vm), Ls ++ L, c0 + mc, s0 + ms⟩,
      ⟨X.admits, X.cas, X.clock, X.frames, X.room, X.hears, X.method, X.code, (X.here.setHeapUsed s₂.heap s₂.slotsUsed).setVm hW'.alike, X.tail, State.WarmedH.trans X.warmed hW', X.limits, X.bytes, X.same.trans (hsame.setVm s.vm)⟩,
      ⟨g, mk, s₂, L, rfl, rfl, hqc, rfl, hL, rfl, rfl⟩, ?_⟩
    show Steps p.tables e below _ ((({ U with heap := s₂.heap, slotsUsed := s₂.slotsUsed } : State).setVm s₂.vm).setTop { g with pc := g.pc + len₂, stack := v.toList ++ g.stack })
    rw [← hs₂]
    exact hsteps
  · obtain ⟨e2, q2, q3, q4, q5, q6⟩ := id hsm
    have e3 : s₂ = ({ (U.calling g mk a).setFrames s₂.frames with heap := s₂.heap, slotsUsed := s₂.slotsUsed } : State).setVm s₂.vm := by
      have : s₂ = ({ s₂ with vm := (U.calling g mk a).vm } : State).setVm s₂.vm := rfl
      rw [e2] at this
      exact this
    have hf₂ : s₂.frames = .throwing q :: .java g :: U.frames.tail := hend
    have hW' : U.WarmedH s₂.vm := hW₂
    have hs₂ : s₂ = ((({ U with heap := s₂.heap, slotsUsed := s₂.slotsUsed } : State).setVm s₂.vm).setTop g).pushFrame (.throwing q) := by
      refine e3.trans ?_
      rw [hf₂, State.calling_eq h.top, State.setFrames_setFrames, State.pushFrame, State.frames_setTop _ hr', State.setTop_of_frames _ hr', State.setFrames_setFrames, hr]
      rfl
    have hsame : U.sameButNew ({ U with heap := s₂.heap, slotsUsed := s₂.slotsUsed } : State) L mc ms := by
      refine ⟨?_, q2, q3, q4, q5, q6⟩
      obtain ⟨t, ht, -⟩ := State.frames_cons hr
      show ({ U with heap := s₂.heap, slotsUsed := s₂.slotsUsed } : State) = { U.setFrames U.frames with heap := s₂.heap, slotsUsed := s₂.slotsUsed }
      rw [State.setFrames_self ht]
    subst hg
    refine Or.inr ⟨q, ⟨(({ U with heap := s₂.heap, slotsUsed := s₂.slotsUsed } : State).setVm s₂.vm), Ls ++ L, c0 + mc, s0 + ms⟩,
      ⟨X.admits, X.cas, X.clock, X.frames, X.room, X.hears, X.method, X.code, (X.here.setHeapUsed s₂.heap s₂.slotsUsed).setVm hW'.alike, X.tail, State.WarmedH.trans X.warmed hW', X.limits, X.bytes, X.same.trans (hsame.setVm s.vm)⟩,
      ⟨g, mk, s₂, L, E, ce, rfl, rfl, hx, hce, hcv, hcl, rfl, hL, rfl, rfl⟩, ?_⟩
    show Steps p.tables e below _ (((({ U with heap := s₂.heap, slotsUsed := s₂.slotsUsed } : State).setVm s₂.vm).setTop g).pushFrame (.throwing q))
    rw [← hs₂]
    exact hsteps
end Payer
section Calls
variable {p : Program} {l : Launch} {e : Env} {R : Room} {s : State} {m : MethodId} {args : Array Value} {below : List Frame} {meth : Method} {c : Code} {T : State} {locs : List Loc} {cells slots : Nat}
theorem vx_callV (X : Stand p l e R s m args below meth c T locs cells slots) (hexec : p.tables.exec = Jvm.exec) {own C : String} {index : Nat} {y : MethodName} {bytes : ByteArray} {maxL : Nat} {ret : Option FieldType}
    (hown : s.vm.findClass own = some m.cls) (hlink : (Cond.methodLink own index y).before args s = true) (hinst : (Cond.instanceMethod y).before args s = true) (hsel : (Cond.selects C y y).before args s = true)
    (hcode : (Cond.code y bytes maxL ret).before args s = true) (hy : y.cls ≠ "java/lang/invoke/MethodHandle" ∧ y.cls ≠ "java/lang/invoke/VarHandle")
    {W9 : Nat} {Pre : Pt → Array Value → Prop} {Post : Pt → Array Value → Option Value → Pt → Prop} {PostX : Pt → Array Value → Addr → Pt → Prop} (hK : vx_Back l R p e below s args y 3 W9 Pre Post PostX)
    {b : Addr} {cellB : Cell} (hcell : T.heap[b]? = some cellB) (hobj : cellB.vm.isStatics = false) (hcls : s.vm.findClass C = some cellB.cls)
    {g : JFrame} (hg : g.method = m) (hsize : g.locals.size = c.maxLocals) {argsL rest : List Value} (hlen : ∀ sig, parseMethodDescriptor y.desc = some sig → argsL.length = sig.parameters.length)
    (hstack : g.stack = argsL.reverse ++ .ref b :: rest) (hW : 2 * g.monitorRoom + (rest.map fun v => v.category).sum ≤ W9) (hdg : decode c.code g.pc = .ok (.invokevirtual index, 3))
    (hpre : ∀ vm₁, s.WarmedH vm₁ → Pre ⟨T.setVm vm₁, locs, cells, slots⟩ (Value.ref b :: argsL).toArray) :
    (∃ (v : Option Value) (vm₁ : Vm) (B : Pt), s.WarmedH vm₁ ∧ Stand p l e R s m args below meth c B.U B.locs B.cells B.slots ∧ Post ⟨T.setVm vm₁, locs, cells, slots⟩ (Value.ref b :: argsL).toArray v B ∧
      ∀ target, Steps p.tables e below (B.U.setTop { g with pc := g.pc + 3, stack := v.toList ++ rest }) target → Steps p.tables e below (T.setTop g) target) ∨
    (∃ (q : Addr) (vm₁ : Vm) (B : Pt), s.WarmedH vm₁ ∧ Stand p l e R s m args below meth c B.U B.locs B.cells B.slots ∧ PostX ⟨T.setVm vm₁, locs, cells, slots⟩ (Value.ref b :: argsL).toArray q B ∧
      Steps p.tables e below (T.setTop g) ((B.U.setTop { g with stack := rest }).pushFrame (.throwing q))) := by
  obtain ⟨mk, methM, hnamed, hmethM, hstM, habM⟩ := Cond.instanceMethod_spec hinst
  obtain ⟨methM', cM, hmethM', -, -, -, -, -, -, hsigM⟩ := Cond.code_spec hnamed hcode
  cases hmethM.symm.trans hmethM'
  obtain ⟨c2, r2, m2, q1, q2, q3, q4, kP, hkP, hkPi⟩ := Cond.selects_spec hsel
  cases hcls.symm.trans q1
  cases (State.methodFound?_of_named hnamed hy).symm.trans q2
  cases hnamed.symm.trans q3
  have hselP : selectMethod e.platform s.vm cellB.cls mk = .method mk := by rw [Launch.admits_selectMethod X.admits]; exact q4
  obtain ⟨vm₁, X₁, hstep₁⟩ := X.invokevirtual hexec hown hlink hnamed hmethM hstM hkP hkPi hy (a := b) (cell := cellB) hcell
    (fun z h => by rw [h] at hobj; cases hobj) hselP hmethM habM hkP hkPi (g := g) hg (argsL := argsL) (rest := rest) (hlen _ hsigM) hstack hdg
  rcases hK m meth c ⟨T.setVm vm₁, locs, cells, slots⟩ { g with stack := rest } (.invokevirtual index) mk (Value.ref b :: argsL).toArray X₁ hg hsize hdg hW (X₁.named hnamed) (hpre vm₁ X₁.warmed) with ⟨v, B, X', hpost, hsteps⟩ | ⟨q, B, X', hpost, hsteps⟩
  · exact Or.inl ⟨v, vm₁, B, X₁.warmed, X', hpost, fun target h => hstep₁ _ fun acts => by rw [doInvoke_state]; exact hsteps.trans h⟩
  · exact Or.inr ⟨q, vm₁, B, X₁.warmed, X', hpost, hstep₁ _ fun acts => by rw [doInvoke_state]; exact hsteps⟩
theorem vx_callS (X : Stand p l e R s m args below meth c T locs cells slots) (hexec : p.tables.exec = Jvm.exec) {own : String} {index : Nat} {y : MethodName} {bytes : ByteArray} {maxL : Nat} {ret : Option FieldType}
    (hown : s.vm.findClass own = some m.cls) (hlink : (Cond.methodLink own index y).before args s = true) (hstat : (Cond.static y).before args s = true) (hinit : (Cond.initialized y.cls).before args s = true)
    (hcode : (Cond.code y bytes maxL ret).before args s = true) (hy : y.cls ≠ "java/lang/invoke/MethodHandle" ∧ y.cls ≠ "java/lang/invoke/VarHandle")
    {W9 : Nat} {Pre : Pt → Array Value → Prop} {Post : Pt → Array Value → Option Value → Pt → Prop} {PostX : Pt → Array Value → Addr → Pt → Prop} (hK : vx_Back l R p e below s args y 3 W9 Pre Post PostX)
    {g : JFrame} (hg : g.method = m) (hsize : g.locals.size = c.maxLocals) {argsL rest : List Value} (hlen : ∀ sig, parseMethodDescriptor y.desc = some sig → argsL.length = sig.parameters.length)
    (hstack : g.stack = argsL.reverse ++ rest) (hW : 2 * g.monitorRoom + (rest.map fun v => v.category).sum ≤ W9) (hdg : decode c.code g.pc = .ok (.invokestatic index, 3))
    (hpre : ∀ vm₁, s.WarmedH vm₁ → Pre ⟨T.setVm vm₁, locs, cells, slots⟩ argsL.toArray) :
    (∃ (v : Option Value) (vm₁ : Vm) (B : Pt), s.WarmedH vm₁ ∧ Stand p l e R s m args below meth c B.U B.locs B.cells B.slots ∧ Post ⟨T.setVm vm₁, locs, cells, slots⟩ argsL.toArray v B ∧
      ∀ target, Steps p.tables e below (B.U.setTop { g with pc := g.pc + 3, stack := v.toList ++ rest }) target → Steps p.tables e below (T.setTop g) target) ∨
    (∃ (q : Addr) (vm₁ : Vm) (B : Pt), s.WarmedH vm₁ ∧ Stand p l e R s m args below meth c B.U B.locs B.cells B.slots ∧ PostX ⟨T.setVm vm₁, locs, cells, slots⟩ argsL.toArray q B ∧
      Steps p.tables e below (T.setTop g) ((B.U.setTop { g with stack := rest }).pushFrame (.throwing q))) := by
  obtain ⟨mk, hnamed⟩ := Cond.code_named hcode
  obtain ⟨methM, cM, hmethM, -, -, -, -, -, -, hsigM⟩ := Cond.code_spec hnamed hcode
  have hstatic : methM.isStatic = true := Cond.static_spec hnamed hmethM hstat
  obtain ⟨kP, hkP, -⟩ := className_of_methodNamed hnamed
  have hinitP : kP.init = .initialized := Cond.initialized_spec (findClass_of_methodNamed hnamed) hkP hinit
  obtain ⟨vm₁, X₁, hstep₁⟩ := X.invokestatic hexec hown hlink hnamed hmethM hstatic hkP hinitP hy (g := g) hg (argsL := argsL) (rest := rest) (hlen _ hsigM) hstack hdg
  rcases hK m meth c ⟨T.setVm vm₁, locs, cells, slots⟩ { g with stack := rest } (.invokestatic index) mk argsL.toArray X₁ hg hsize hdg hW (X₁.named hnamed) (hpre vm₁ X₁.warmed) with ⟨v, B, X', hpost, hsteps⟩ | ⟨q, B, X', hpost, hsteps⟩
  · exact Or.inl ⟨v, vm₁, B, X₁.warmed, X', hpost, fun target h => hstep₁ _ fun acts => by rw [doInvoke_state]; exact hsteps.trans h⟩
  · exact Or.inr ⟨q, vm₁, B, X₁.warmed, X', hpost, hstep₁ _ fun acts => by rw [doInvoke_state]; exact hsteps⟩
end Calls
theorem vx_cls {s : State} {T : State} {vm₁ : Vm} {E : String} {k : ClassId} (hW : s.WarmedH vm₁) (h : (T.setVm vm₁).vm.findClass E = some k) : s.vm.findClass E = some k := by
  have h1 : vm₁.findClass E = some k := h
  rw [hW.alike.findClass] at h1
  exact h1
/-- the method's frame g, with q thrown over it -/
def vx_W (p : Program) (l : Launch) (e : Env) (R : Room) (s : State) (m : MethodId) (args : Array Value) (below : List Frame) (meth : Method) (c : Code) (H : Heap) (locs : List Loc) (cells slots : Nat) (Q : State → Prop) (g : JFrame) (q : Addr) : Prop :=
  ∀ T : State, T.heap = H → Stand p l e R s m args below meth c T locs cells slots → ∃ t, Steps p.tables e below ((T.setTop g).pushFrame (.throwing q)) t ∧ Q t
def vx_Run (p : Program) (l : Launch) (e : Env) (R : Room) (s : State) (m : MethodId) (args : Array Value) (below : List Frame) (meth : Method) (c : Code) (H : Heap) (locs : List Loc) (cells slots mc ms : Nat) (g : JFrame) (rest : List Value) (Qa : State → Outcome → State → Prop) (XC : String → State → State → Prop) (free : Addr → Prop) : Prop :=
  ∀ T : State, T.heap = H → Stand p l e R s m args below meth c T locs cells slots →
    (∃ (v : Option Value) (st₀ t T' : State) (L : List Loc), st₀.heap = H ∧ Stand p l e R s m args below meth c T' (locs ++ L) (cells + mc) (slots + ms) ∧ (∀ q ∈ L, free q.base) ∧ T'.heap = t.heap ∧ T'.vm = t.vm ∧ Qa st₀ (.returned v) t ∧
      Goes p e below T g T' { g with pc := g.pc + 3, stack := v.toList ++ rest }) ∨
    (∃ (q : Addr) (st₀ t T' : State) (L : List Loc) (E : String) (ce : Cell), st₀.heap = H ∧ Stand p l e R s m args below meth c T' (locs ++ L) (cells + mc) (slots + ms) ∧ (∀ z ∈ L, free z.base) ∧ T'.heap = t.heap ∧ T'.vm = t.vm ∧ XC E st₀ t ∧ t.heap[q]? = some ce ∧ ce.vm = .none ∧ s.vm.findClass E = some ce.cls ∧
      Steps p.tables e below (T.setTop g) ((T'.setTop { g with stack := rest }).pushFrame (.throwing q)))
def vx_X {S : Type} (px : S → Prop) (B : String → S → State → Prop) (A : Nat → Prop) : String → State → State → Prop := fun E st t => ∃ u : S, px u ∧ B E u t ∧ va_F A st t
section Runs
variable {p : Program} {l : Launch} {e : Env} {R : Room} {s : State} {m : MethodId} {args : Array Value} {below : List Frame} {meth : Method} {c : Code} {H : Heap} {locs : List Loc} {cells slots : Nat}
variable {y : MethodName} {bytes cc : ByteArray} {maxL nL mc ms n index : Nat} {ret : Option FieldType} {ws : List Cond} {rm : Room} {Pc : Array Value → State → Prop} {Qc : Array Value → State → Outcome → State → Prop} {XC : String → State → State → Prop} {free : Addr → Prop} {Ts : List Cond} {own C : String} {b : Addr} {As rest : List Value} {g : JFrame}
theorem vx_callBack (cb : CallB R s args own index y bytes maxL ret ws rm mc ms n) (hM : vx_Met l y ws rm Pc Qc XC mc ms free) (hbl : FrameBlind Pc) : vx_Back l R p e below s args y 3 8 (PreOf R mc ms Pc) (PostOf Qc mc ms free) (vx_Post XC mc ms free) := by
  obtain ⟨hrc, hrs, hfr, hlo, hws, hcw, -, hini, -⟩ := cb
  exact vx_back (bytes := bytes) (maxL := maxL) (ret := ret) hM hbl hrc hrs hfr hlo hws hcw (fun a' U hW => word_at hW (Or.inl (by first | rfl | simp [Cond.onTables, Cond.keeps, Cond.steady])) hini)
theorem vx_runV (S : CallFix p m c cc nL s args Ts own) (hM : vx_Met l y ws rm Pc Qc XC mc ms free) (cw : CallW R s args own C index y bytes maxL ret ws rm mc ms n) (hp : PreV s H C b Pc As)
    (hg : g.method = m) (hn : As.length = n) (hsize : g.locals.size = nL) (hstack : g.stack = As.reverse ++ .ref b :: rest) (hW : 2 * g.monitorRoom + (rest.map fun v => v.category).sum ≤ 8) (hdg : decode cc g.pc = .ok (.invokevirtual index, 3)) (hf : cells + mc ≤ R.cells ∧ slots + ms ≤ R.slots) :
    vx_Run p l e R s m args below meth c H locs cells slots mc ms g rest (Qc (Value.ref b :: As).toArray) XC free := by
  have hK : vx_Back l R p e below s args y 3 8 (PreOf R mc ms Pc) (PostOf Qc mc ms free) (vx_Post XC mc ms free) := vx_callBack cw.1 hM hp.1
  obtain ⟨⟨-, -, -, -, -, -, hcode, -, hy, hlen, hl⟩, hin, hse⟩ := cw
  obtain ⟨hx, hb, hml, ho, -⟩ := S
  obtain ⟨-, ⟨cellB, hcB, hoB, hclB⟩, hPc⟩ := hp
  intro T hT X
  rcases vx_callV X hx (C := C) (bytes := bytes) (maxL := maxL) (ret := ret) ho hl hin hse hcode hy hK (by rw [hT]; exact hcB) hoB hclB hg (hsize.trans hml.symm) (argsL := As) (rest := rest) (fun sig h => hn.trans (hlen sig h)) hstack hW (by rw [hb]; exact hdg)
    (fun vm₁ hW₁ => ⟨hf.1, hf.2, hPc (T.setVm vm₁) hT hW₁⟩) with ⟨v, vm₁, ⟨U', l2, c2, s2⟩, hW₁, X', ⟨g', mk, t, L, e1, e2, hq, h1, hL, h2, h3⟩, st⟩ | ⟨q, vm₁, ⟨U', l2, c2, s2⟩, hW₁, X', ⟨g', mk, t, L, E, ce, e1, e2, hq, hce, hcv, hcl, h1, hL, h2, h3⟩, st⟩
  · dsimp only [Pt.U, Pt.locs, Pt.cells, Pt.slots] at X' e1 e2 h1 h2 h3 st
    subst h1; subst h2; subst h3
    exact Or.inl ⟨v, (T.setVm vm₁).calling g' mk (Value.ref b :: As).toArray, t, U', L, hT, X', hL, e1, e2, hq, st⟩
  · dsimp only [Pt.U, Pt.locs, Pt.cells, Pt.slots] at X' e1 e2 h1 h2 h3 st hcl
    subst h1; subst h2; subst h3
    exact Or.inr ⟨q, (T.setVm vm₁).calling g' mk (Value.ref b :: As).toArray, t, U', L, E, ce, hT, X', hL, e1, e2, hq, hce, hcv, vx_cls hW₁ hcl, st⟩
theorem vx_runS (S : CallFix p m c cc nL s args Ts own) (hM : vx_Met l y ws rm Pc Qc XC mc ms free) (cw : CallB R s args own index y bytes maxL ret ws rm mc ms n ∧ (Cond.static y).before args s = true) (hp : PreS s H Pc As)
    (hg : g.method = m) (hn : As.length = n) (hsize : g.locals.size = nL) (hstack : g.stack = As.reverse ++ rest) (hW : 2 * g.monitorRoom + (rest.map fun v => v.category).sum ≤ 8) (hdg : decode cc g.pc = .ok (.invokestatic index, 3)) (hf : cells + mc ≤ R.cells ∧ slots + ms ≤ R.slots) :
    vx_Run p l e R s m args below meth c H locs cells slots mc ms g rest (Qc As.toArray) XC free := by
  have hK : vx_Back l R p e below s args y 3 8 (PreOf R mc ms Pc) (PostOf Qc mc ms free) (vx_Post XC mc ms free) := vx_callBack cw.1 hM hp.1
  obtain ⟨⟨-, -, -, -, -, -, hcode, hini, hy, hlen, hl⟩, hstt⟩ := cw
  obtain ⟨hx, hb, hml, ho, -⟩ := S
  intro T hT X
  rcases vx_callS X hx (bytes := bytes) (maxL := maxL) (ret := ret) ho hl hstt hini hcode hy hK hg (hsize.trans hml.symm) (argsL := As) (rest := rest) (fun sig h => hn.trans (hlen sig h)) hstack hW (by rw [hb]; exact hdg)
    (fun vm₁ hW₁ => ⟨hf.1, hf.2, hp.2 (T.setVm vm₁) hT hW₁⟩) with ⟨v, vm₁, ⟨U', l2, c2, s2⟩, hW₁, X', ⟨g', mk, t, L, e1, e2, hq, h1, hL, h2, h3⟩, st⟩ | ⟨q, vm₁, ⟨U', l2, c2, s2⟩, hW₁, X', ⟨g', mk, t, L, E, ce, e1, e2, hq, hce, hcv, hcl, h1, hL, h2, h3⟩, st⟩
  · dsimp only [Pt.U, Pt.locs, Pt.cells, Pt.slots] at X' e1 e2 h1 h2 h3 st
    subst h1; subst h2; subst h3
    exact Or.inl ⟨v, (T.setVm vm₁).calling g' mk As.toArray, t, U', L, hT, X', hL, e1, e2, hq, st⟩
  · dsimp only [Pt.U, Pt.locs, Pt.cells, Pt.slots] at X' e1 e2 h1 h2 h3 st hcl
    subst h1; subst h2; subst h3
    exact Or.inr ⟨q, (T.setVm vm₁).calling g' mk As.toArray, t, U', L, E, ce, hT, X', hL, e1, e2, hq, hce, hcv, vx_cls hW₁ hcl, st⟩
end Runs
section Rows
variable {p : Program} {l : Launch} {e : Env} {R : Room} {s : State} {m : MethodId} {args : Array Value} {below : List Frame} {meth : Method} {c : Code} {H : Heap} {locs : List Loc} {cells slots : Nat} {Q : State → Prop}
variable {mc ms : Nat} {free : Addr → Prop} {A0 A1 : Nat → Prop} {H0 : Heap} {a : Array Value} {pc : Nat} {ls : Array Slot} {st0 rest : List Value}
theorem vx_keep {st₀ t T' : State} {L : List Loc} (h0 : st₀.heap = H) (e1 : T'.heap = t.heap) (hS : va_S A0 H0 H locs) (hA : ∀ q, q < H.size → A1 q → A0 q) (hf : ∀ q, free q → A0 q) (hL : ∀ q ∈ L, free q.base) (hF : va_F A1 st₀ t) :
    H.size ≤ T'.heap.size ∧ (∀ q : Nat, q < H.size → ¬ A1 q → T'.heap[q]? = H[q]?) ∧ va_S A0 H0 T'.heap (locs ++ L) := by
  obtain ⟨hz, hk⟩ := hF
  rw [h0] at hz hk
  exact ⟨by rw [e1]; exact hz, fun q h1 h2 => by rw [e1]; exact hk q h1 h2,
    ⟨Nat.le_trans hS.1 (by rw [e1]; exact hz), fun q h1 h2 => by rw [e1, hk q (Nat.lt_of_lt_of_le h1 hS.1) (fun z => h2 (hA q (Nat.lt_of_lt_of_le h1 hS.1) z))]; exact hS.2.1 q h1 h2, fun q hq => by
      rcases List.mem_append.mp hq with h | h
      · exact hS.2.2 q h
      · exact hf _ (hL q h)⟩⟩
theorem vx_calli {S SX : Type} {post : Int32 → S → Prop} {px : SX → Prop} {B : S → State → Prop} {BX : String → SX → State → Prop} {AX : Nat → Prop} (hr : vx_Run p l e R s m args below meth c H locs cells slots mc ms (F0 m pc ls st0) rest (va_Qi post B A1 a) (vx_X px BX AX) free) (hS : va_S A0 H0 H locs) (hA : ∀ q, q < H.size → A1 q → A0 q) (hf : ∀ q, free q → A0 q) (hAX : ∀ q, q < H.size → AX q → A0 q)
    (kx : ∀ (E : String) (ce : Cell) (q9 : Addr) (u : SX) (t : State) (H1 : Heap) (locs1 : List Loc), t.heap = H1 → s.vm.Alike t.vm → px u → BX E u t → H.size ≤ H1.size → (∀ q : Nat, q < H.size → ¬ AX q → H1[q]? = H[q]?) → va_S A0 H0 H1 locs1 → H1[q9]? = some ce → ce.vm = .none → s.vm.findClass E = some ce.cls → vx_W p l e R s m args below meth c H1 locs1 (cells + mc) (slots + ms) Q (F0 m pc ls rest) q9)
    (kk : ∀ (r : Int32) (u : S) (t : State) (H1 : Heap) (locs1 : List Loc), t.heap = H1 → s.vm.Alike t.vm → post r u → B u t → H.size ≤ H1.size → (∀ q : Nat, q < H.size → ¬ A1 q → H1[q]? = H[q]?) → va_S A0 H0 H1 locs1 → W p l e R s m args below meth c H1 locs1 (cells + mc) (slots + ms) Q (F0 m (pc + 3) ls (.int r :: rest))) : W p l e R s m args below meth c H locs cells slots Q (F0 m pc ls st0) := by
  intro T hT X
  rcases hr T hT X with ⟨v, st₀, t, T', L, h0, X', hL, e1, e2, ⟨⟨r, u, hv, hp, hb⟩, hF⟩, st⟩ | ⟨q, st₀, t, T', L, E, ce, h0, X', hL, e1, e2, ⟨u, hp, hb, hF⟩, hce, hcv, hcl, st⟩
  · cases hv
    obtain ⟨k1, k2, k3⟩ := vx_keep h0 e1 hS hA hf hL hF
    obtain ⟨t2, a1, b1⟩ := kk r u t T'.heap (locs ++ L) e1.symm (by rw [← e2]; exact X'.warmed.alike) hp hb k1 k2 k3 T' rfl X'
    exact ⟨t2, st t2 a1, b1⟩
  · obtain ⟨k1, k2, k3⟩ := vx_keep h0 e1 hS hAX hf hL hF
    obtain ⟨t2, a1, b1⟩ := kx E ce q u t T'.heap (locs ++ L) e1.symm (by rw [← e2]; exact X'.warmed.alike) hp hb k1 k2 k3 (by rw [e1]; exact hce) hcv hcl T' rfl X'
    exact ⟨t2, st.trans a1, b1⟩
theorem vx_calll {S SX : Type} {post : Int64 → S → Prop} {px : SX → Prop} {B : S → State → Prop} {BX : String → SX → State → Prop} {AX : Nat → Prop} (hr : vx_Run p l e R s m args below meth c H locs cells slots mc ms (F0 m pc ls st0) rest (va_Ql post B A1 a) (vx_X px BX AX) free) (hS : va_S A0 H0 H locs) (hA : ∀ q, q < H.size → A1 q → A0 q) (hf : ∀ q, free q → A0 q) (hAX : ∀ q, q < H.size → AX q → A0 q)
    (kx : ∀ (E : String) (ce : Cell) (q9 : Addr) (u : SX) (t : State) (H1 : Heap) (locs1 : List Loc), t.heap = H1 → s.vm.Alike t.vm → px u → BX E u t → H.size ≤ H1.size → (∀ q : Nat, q < H.size → ¬ AX q → H1[q]? = H[q]?) → va_S A0 H0 H1 locs1 → H1[q9]? = some ce → ce.vm = .none → s.vm.findClass E = some ce.cls → vx_W p l e R s m args below meth c H1 locs1 (cells + mc) (slots + ms) Q (F0 m pc ls rest) q9)
    (kk : ∀ (r : Int64) (u : S) (t : State) (H1 : Heap) (locs1 : List Loc), t.heap = H1 → s.vm.Alike t.vm → post r u → B u t → H.size ≤ H1.size → (∀ q : Nat, q < H.size → ¬ A1 q → H1[q]? = H[q]?) → va_S A0 H0 H1 locs1 → W p l e R s m args below meth c H1 locs1 (cells + mc) (slots + ms) Q (F0 m (pc + 3) ls (.long r :: rest))) : W p l e R s m args below meth c H locs cells slots Q (F0 m pc ls st0) := by
  intro T hT X
  rcases hr T hT X with ⟨v, st₀, t, T', L, h0, X', hL, e1, e2, ⟨⟨r, u, hv, hp, hb⟩, hF⟩, st⟩ | ⟨q, st₀, t, T', L, E, ce, h0, X', hL, e1, e2, ⟨u, hp, hb, hF⟩, hce, hcv, hcl, st⟩
  · cases hv
    obtain ⟨k1, k2, k3⟩ := vx_keep h0 e1 hS hA hf hL hF
    obtain ⟨t2, a1, b1⟩ := kk r u t T'.heap (locs ++ L) e1.symm (by rw [← e2]; exact X'.warmed.alike) hp hb k1 k2 k3 T' rfl X'
    exact ⟨t2, st t2 a1, b1⟩
  · obtain ⟨k1, k2, k3⟩ := vx_keep h0 e1 hS hAX hf hL hF
    obtain ⟨t2, a1, b1⟩ := kx E ce q u t T'.heap (locs ++ L) e1.symm (by rw [← e2]; exact X'.warmed.alike) hp hb k1 k2 k3 (by rw [e1]; exact hce) hcv hcl T' rfl X'
    exact ⟨t2, st.trans a1, b1⟩
theorem vx_callf {S SX : Type} {post : UInt32 → S → Prop} {px : SX → Prop} {B : S → State → Prop} {BX : String → SX → State → Prop} {AX : Nat → Prop} (hr : vx_Run p l e R s m args below meth c H locs cells slots mc ms (F0 m pc ls st0) rest (va_Qf post B A1 a) (vx_X px BX AX) free) (hS : va_S A0 H0 H locs) (hA : ∀ q, q < H.size → A1 q → A0 q) (hf : ∀ q, free q → A0 q) (hAX : ∀ q, q < H.size → AX q → A0 q)
    (kx : ∀ (E : String) (ce : Cell) (q9 : Addr) (u : SX) (t : State) (H1 : Heap) (locs1 : List Loc), t.heap = H1 → s.vm.Alike t.vm → px u → BX E u t → H.size ≤ H1.size → (∀ q : Nat, q < H.size → ¬ AX q → H1[q]? = H[q]?) → va_S A0 H0 H1 locs1 → H1[q9]? = some ce → ce.vm = .none → s.vm.findClass E = some ce.cls → vx_W p l e R s m args below meth c H1 locs1 (cells + mc) (slots + ms) Q (F0 m pc ls rest) q9)
    (kk : ∀ (r : UInt32) (u : S) (t : State) (H1 : Heap) (locs1 : List Loc), t.heap = H1 → s.vm.Alike t.vm → post r u → B u t → H.size ≤ H1.size → (∀ q : Nat, q < H.size → ¬ A1 q → H1[q]? = H[q]?) → va_S A0 H0 H1 locs1 → W p l e R s m args below meth c H1 locs1 (cells + mc) (slots + ms) Q (F0 m (pc + 3) ls (.float r :: rest))) : W p l e R s m args below meth c H locs cells slots Q (F0 m pc ls st0) := by
  intro T hT X
  rcases hr T hT X with ⟨v, st₀, t, T', L, h0, X', hL, e1, e2, ⟨⟨r, u, hv, hp, hb⟩, hF⟩, st⟩ | ⟨q, st₀, t, T', L, E, ce, h0, X', hL, e1, e2, ⟨u, hp, hb, hF⟩, hce, hcv, hcl, st⟩
  · cases hv
    obtain ⟨k1, k2, k3⟩ := vx_keep h0 e1 hS hA hf hL hF
    obtain ⟨t2, a1, b1⟩ := kk r u t T'.heap (locs ++ L) e1.symm (by rw [← e2]; exact X'.warmed.alike) hp hb k1 k2 k3 T' rfl X'
    exact ⟨t2, st t2 a1, b1⟩
  · obtain ⟨k1, k2, k3⟩ := vx_keep h0 e1 hS hAX hf hL hF
    obtain ⟨t2, a1, b1⟩ := kx E ce q u t T'.heap (locs ++ L) e1.symm (by rw [← e2]; exact X'.warmed.alike) hp hb k1 k2 k3 (by rw [e1]; exact hce) hcv hcl T' rfl X'
    exact ⟨t2, st.trans a1, b1⟩
theorem vx_calld {S SX : Type} {post : UInt64 → S → Prop} {px : SX → Prop} {B : S → State → Prop} {BX : String → SX → State → Prop} {AX : Nat → Prop} (hr : vx_Run p l e R s m args below meth c H locs cells slots mc ms (F0 m pc ls st0) rest (va_Qd post B A1 a) (vx_X px BX AX) free) (hS : va_S A0 H0 H locs) (hA : ∀ q, q < H.size → A1 q → A0 q) (hf : ∀ q, free q → A0 q) (hAX : ∀ q, q < H.size → AX q → A0 q)
    (kx : ∀ (E : String) (ce : Cell) (q9 : Addr) (u : SX) (t : State) (H1 : Heap) (locs1 : List Loc), t.heap = H1 → s.vm.Alike t.vm → px u → BX E u t → H.size ≤ H1.size → (∀ q : Nat, q < H.size → ¬ AX q → H1[q]? = H[q]?) → va_S A0 H0 H1 locs1 → H1[q9]? = some ce → ce.vm = .none → s.vm.findClass E = some ce.cls → vx_W p l e R s m args below meth c H1 locs1 (cells + mc) (slots + ms) Q (F0 m pc ls rest) q9)
    (kk : ∀ (r : UInt64) (u : S) (t : State) (H1 : Heap) (locs1 : List Loc), t.heap = H1 → s.vm.Alike t.vm → post r u → B u t → H.size ≤ H1.size → (∀ q : Nat, q < H.size → ¬ A1 q → H1[q]? = H[q]?) → va_S A0 H0 H1 locs1 → W p l e R s m args below meth c H1 locs1 (cells + mc) (slots + ms) Q (F0 m (pc + 3) ls (.double r :: rest))) : W p l e R s m args below meth c H locs cells slots Q (F0 m pc ls st0) := by
  intro T hT X
  rcases hr T hT X with ⟨v, st₀, t, T', L, h0, X', hL, e1, e2, ⟨⟨r, u, hv, hp, hb⟩, hF⟩, st⟩ | ⟨q, st₀, t, T', L, E, ce, h0, X', hL, e1, e2, ⟨u, hp, hb, hF⟩, hce, hcv, hcl, st⟩
  · cases hv
    obtain ⟨k1, k2, k3⟩ := vx_keep h0 e1 hS hA hf hL hF
    obtain ⟨t2, a1, b1⟩ := kk r u t T'.heap (locs ++ L) e1.symm (by rw [← e2]; exact X'.warmed.alike) hp hb k1 k2 k3 T' rfl X'
    exact ⟨t2, st t2 a1, b1⟩
  · obtain ⟨k1, k2, k3⟩ := vx_keep h0 e1 hS hAX hf hL hF
    obtain ⟨t2, a1, b1⟩ := kx E ce q u t T'.heap (locs ++ L) e1.symm (by rw [← e2]; exact X'.warmed.alike) hp hb k1 k2 k3 (by rw [e1]; exact hce) hcv hcl T' rfl X'
    exact ⟨t2, st.trans a1, b1⟩
theorem vx_callv {S SX : Type} {post : S → Prop} {px : SX → Prop} {B : S → State → Prop} {BX : String → SX → State → Prop} {AX : Nat → Prop} (hr : vx_Run p l e R s m args below meth c H locs cells slots mc ms (F0 m pc ls st0) rest (va_Qv post B A1 a) (vx_X px BX AX) free) (hS : va_S A0 H0 H locs) (hA : ∀ q, q < H.size → A1 q → A0 q) (hf : ∀ q, free q → A0 q) (hAX : ∀ q, q < H.size → AX q → A0 q)
    (kx : ∀ (E : String) (ce : Cell) (q9 : Addr) (u : SX) (t : State) (H1 : Heap) (locs1 : List Loc), t.heap = H1 → s.vm.Alike t.vm → px u → BX E u t → H.size ≤ H1.size → (∀ q : Nat, q < H.size → ¬ AX q → H1[q]? = H[q]?) → va_S A0 H0 H1 locs1 → H1[q9]? = some ce → ce.vm = .none → s.vm.findClass E = some ce.cls → vx_W p l e R s m args below meth c H1 locs1 (cells + mc) (slots + ms) Q (F0 m pc ls rest) q9)
    (kk : ∀ (u : S) (t : State) (H1 : Heap) (locs1 : List Loc), t.heap = H1 → s.vm.Alike t.vm → post u → B u t → H.size ≤ H1.size → (∀ q : Nat, q < H.size → ¬ A1 q → H1[q]? = H[q]?) → va_S A0 H0 H1 locs1 → W p l e R s m args below meth c H1 locs1 (cells + mc) (slots + ms) Q (F0 m (pc + 3) ls (rest))) : W p l e R s m args below meth c H locs cells slots Q (F0 m pc ls st0) := by
  intro T hT X
  rcases hr T hT X with ⟨v, st₀, t, T', L, h0, X', hL, e1, e2, ⟨⟨u, hv, hp, hb⟩, hF⟩, st⟩ | ⟨q, st₀, t, T', L, E, ce, h0, X', hL, e1, e2, ⟨u, hp, hb, hF⟩, hce, hcv, hcl, st⟩
  · cases hv
    obtain ⟨k1, k2, k3⟩ := vx_keep h0 e1 hS hA hf hL hF
    obtain ⟨t2, a1, b1⟩ := kk u t T'.heap (locs ++ L) e1.symm (by rw [← e2]; exact X'.warmed.alike) hp hb k1 k2 k3 T' rfl X'
    exact ⟨t2, st t2 a1, b1⟩
  · obtain ⟨k1, k2, k3⟩ := vx_keep h0 e1 hS hAX hf hL hF
    obtain ⟨t2, a1, b1⟩ := kx E ce q u t T'.heap (locs ++ L) e1.symm (by rw [← e2]; exact X'.warmed.alike) hp hb k1 k2 k3 (by rw [e1]; exact hce) hcv hcl T' rfl X'
    exact ⟨t2, st.trans a1, b1⟩
/-- caught by the row x of this method's table; the rows ahead don't take it -/
theorem vx_catch {own name : String} {E : String} {ce : Cell} {q : Addr} (hown : s.vm.findClass own = some m.cls) (pre : List ExceptionTableEntry) (x : ExceptionTableEntry) (suf : List ExceptionTableEntry) (hsplit : c.exceptionTable.toList = pre ++ x :: suf)
    (hpass : ∀ z ∈ pre, covers z pc = false ∨ (z.catchType ≠ 0 ∧ ∃ nm : String, (Cond.classLink own z.catchType nm).before args s = true ∧ va_Nc E nm s)) (hx : covers x pc = true) (h0 : x.catchType ≠ 0)
    (hlink : (Cond.classLink own x.catchType name).before args s = true) (hcast : (Cond.castable E name).before args s = true) (hcell : H[q]? = some ce) (hv : ce.vm = .none) (hcl : s.vm.findClass E = some ce.cls)
    (kk : W p l e R s m args below meth c H locs cells slots Q (F0 m x.handlerPc ls [.ref q])) : vx_W p l e R s m args below meth c H locs cells slots Q (F0 m pc ls rest) q := by
  intro T hT X
  have hpl : e.platform.magicAccessors = ({} : Platform).magicAccessors := by rw [X.admits.platform]
  obtain ⟨c3, c4, hc3, hc4, hasg⟩ := Cond.castable_spec hcast
  cases Option.some.inj (hc3.symm.trans hcl)
  obtain ⟨c5, hc5, hcl5⟩ := Cond.classLink_spec hown hlink e.platform hpl
  cases Option.some.inj (hc4.symm.trans hc5)
  obtain ⟨vm', X', st⟩ := X.thenCaughtThrough q (g := F0 m pc ls rest) rfl (Steps.refl _) (by rw [hT]; exact hcell) (by rw [hv]; rfl) (by obtain ⟨k9, h9, -⟩ := Vm.findClass_spec hcl; exact ⟨k9, h9⟩) pre x suf hsplit
    (fun z hz => by
      rcases hpass z hz with h | ⟨hz0, nm, hl1, hn1⟩
      · exact Or.inl h
      · obtain ⟨c6, hc6, hcl6⟩ := Cond.classLink_spec hown hl1 e.platform hpl
        obtain ⟨a8, b8, h1, h2, h3⟩ := hn1
        cases Option.some.inj (h1.symm.trans hcl)
        cases Option.some.inj (h2.symm.trans hc6)
        exact Or.inr ⟨hz0, _, hcl6, h3⟩) hx (Or.inr ⟨h0, c4, hcl5, hasg⟩)
  obtain ⟨t, a1, b1⟩ := kk (T.setVm vm') hT X'
  exact ⟨t, st.trans a1, b1⟩
end Rows
section Ends
variable {p : Program} {l : Launch} {e : Env} {R : Room} {s : State} {m : MethodId} {args : Array Value} {below : List Frame} {meth : Method} {c : Code} {H : Heap} {locs : List Loc} {cells slots : Nat} {Q : State → Prop}
variable {mc ms : Nat} {free : Addr → Prop} {A0 A1 : Nat → Prop} {H0 : Heap} {a : Array Value} {ls : Array Slot} {st0 rest : List Value}
variable {Qc : Array Value → State → Outcome → State → Prop} {XC : String → State → State → Prop}
/-- what a body that may throw owes at its end -/
def vx_MQ (below : List Frame) (Qc : Array Value → State → Outcome → State → Prop) (XC : String → State → State → Prop) (a : Array Value) (s : State) (mc ms : Nat) (free : Addr → Prop) : State → Prop := fun t =>
  ∃ o, t.status = .running ∧ Ended t below o ∧ vx_Q Qc XC mc ms free a s o t
theorem vx_ret {g : JFrame} {mc ms : Nat} (k : W p l e R s m args below meth c H locs cells slots (MQ below Qc args s mc ms free) g) : W p l e R s m args below meth c H locs cells slots (vx_MQ below Qc XC args s mc ms free) g := by
  intro T hT X
  obtain ⟨t, a1, o, b1, b2, b3, b4⟩ := k T hT X
  exact ⟨t, a1, o, b1, b2, Or.inl ⟨b3, b4⟩⟩
/-- not caught here: it goes on to the caller -/
theorem vx_widen {g : JFrame} {q : Addr} {k n : Nat} (h1 : cells ≤ k) (h2 : slots ≤ n) (kk : vx_W p l e R s m args below meth c H locs k n Q g q) : vx_W p l e R s m args below meth c H locs cells slots Q g q := fun T hT X => kk T hT (stand_widen X h1 h2)
theorem vx_out {pc : Nat} {E : String} {ce : Cell} {q : Addr} {mc ms : Nat} (hout : ∀ x ∈ c.exceptionTable.toList, covers x pc = false) (hlocks : meth.locks = false) (hcell : H[q]? = some ce) (hv : ce.vm = .none) (hcl : s.vm.findClass E = some ce.cls)
    (hx : ∀ t : State, t.heap = H → s.vm.Alike t.vm → XC E s t) (hf : ∀ z ∈ locs, free z.base) (hc : cells ≤ mc) (hs : slots ≤ ms) :
    vx_W p l e R s m args below meth c H locs cells slots (vx_MQ below Qc XC args s mc ms free) (F0 m pc ls rest) q := by
  intro T hT X
  obtain ⟨st1, hrun, hend, hW, hsm⟩ := X.leaveThrown q (g := F0 m pc ls rest) rfl rfl rfl hout hlocks
  have hcell9 : (T.setFrames (.throwing q :: below)).heap[q]? = some ce := by
    show T.heap[q]? = some ce
    rw [hT]; exact hcell
  exact ⟨_, st1, .threw q, hrun, hend, Or.inr ⟨q, rfl, E, ce, locs, hx _ hT hW.alike, hcell9, hv, hcl, hW, hsm.mono hc hs, hf⟩⟩
theorem vx_frame {U : State} {k n : Nat} (h : s.sameButNew ({ U with vm := s.vm } : State) locs k n) : s.heap.size ≤ U.heap.size ∧ ∀ q : Nat, q < s.heap.size → (∀ z ∈ locs, z.base ≠ q) → U.heap[q]? = s.heap[q]? := by
  obtain ⟨-, h2, -, -, -, h6⟩ := h
  refine ⟨h2, fun q hq hz => ?_⟩
  obtain ⟨c9, e1, e2, e3, e4⟩ := h6 q _ (Array.getElem?_eq_getElem hq)
  have hs : c9.slots = (s.heap[q]).slots := Array.ext_getElem? fun i => e4 i fun hm => hz _ hm rfl
  have h9 : c9 = s.heap[q] := by
    rw [hs] at e2
    exact e2
  have e5 : U.heap[q]? = some c9 := e1
  rw [e5, h9, Array.getElem?_eq_getElem hq]
/-- the words of a throw but the four that speak of the heap -/
def vx_no (w : Cond) : Bool := decide (w ≠ .isRef (.static Bundle.tN "UNASSIGNED_STACK" Bundle.steD)) && decide (w ≠ .isRef (.static Bundle.tN "SUPPRESSED_SENTINEL" Bundle.listD)) && decide (w ≠ .laysStatic Bundle.tN "UNASSIGNED_STACK" Bundle.steD) && decide (w ≠ .laysStatic Bundle.tN "SUPPRESSED_SENTINEL" Bundle.listD)
def vx_at0 (own : String) (ic : Nat) (X : String) (names : List String) : List Cond := (Bundle.ownAtoms0 own ic X names).filter vx_no
def vx_atS (own : String) (ic : Nat) (X : String) (names : List String) : List Cond := (Bundle.ownAtoms own ic X names).filter vx_no
/-- a word that the tables alone decide, or a good one -/
def vx_ot (w : Cond) : Bool := w.onTables || goodWord w
theorem vx_ot_at {args a' : Array Value} {s U : State} {w : Cond} (hW : s.WarmedH U.vm) (hvm : s.vm = U.vm) (hg : vx_ot w = true) (h : w.before args s = true) : w.before a' U = true := by
  simp only [vx_ot, Bool.or_eq_true] at hg
  rcases hg with hg | hg
  · exact va_tabs hg hvm h
  · exact word_at hW (good_of_word hg) h
/-- a list's words: the good ones out of the method's own list, the others by premises of their own -/
theorem vx_hat {args : Array Value} {s : State} {L B : List Cond} (h1 : ∀ w ∈ L.filter goodWord, w.before args s = true) (h2 : ∀ w ∈ L.filter (fun w => !goodWord w), w ∈ B) (h3 : ∀ w ∈ B, w.before args s = true) : ∀ w ∈ L, w.before args s = true := by
  intro w hw
  by_cases g : goodWord w = true
  · exact h1 w (List.mem_filter.mpr ⟨hw, g⟩)
  · refine h3 w (h2 w (List.mem_filter.mpr ⟨hw, ?_⟩))
    show (!goodWord w) = true
    cases hgw : goodWord w
    · rfl
    · exact absurd hgw g
theorem vx_c {args : Array Value} {s : State} {w : Cond} {B : List Cond} (h : w.before args s = true) (t : ∀ w ∈ B, w.before args s = true) : ∀ w' ∈ w :: B, w'.before args s = true := fun w' h' => (List.mem_cons.mp h').elim (fun e => by rw [e]; exact h) (t w')
theorem vx_n {args : Array Value} {s : State} : ∀ w ∈ ([] : List Cond), w.before args s = true := fun _ h => nomatch h
theorem vx_own {args : Array Value} {s : State} {L : List Cond} (h1 : ∀ w ∈ L.filter vx_no, w.before args s = true)
    (hU : (Cond.isRef (.static Bundle.tN "UNASSIGNED_STACK" Bundle.steD)).before args s = true) (hN : (Cond.isRef (.static Bundle.tN "SUPPRESSED_SENTINEL" Bundle.listD)).before args s = true)
    (lU : (Cond.laysStatic Bundle.tN "UNASSIGNED_STACK" Bundle.steD).before args s = true) (lN : (Cond.laysStatic Bundle.tN "SUPPRESSED_SENTINEL" Bundle.listD).before args s = true) : ∀ w ∈ L, w.before args s = true := by
  intro w hw
  by_cases e1 : w = .isRef (.static Bundle.tN "UNASSIGNED_STACK" Bundle.steD)
  · rw [e1]; exact hU
  · by_cases e2 : w = .isRef (.static Bundle.tN "SUPPRESSED_SENTINEL" Bundle.listD)
    · rw [e2]; exact hN
    · by_cases e3 : w = .laysStatic Bundle.tN "UNASSIGNED_STACK" Bundle.steD
      · rw [e3]; exact lU
      · by_cases e4 : w = .laysStatic Bundle.tN "SUPPRESSED_SENTINEL" Bundle.listD
        · rw [e4]; exact lN
        · exact h1 w (List.mem_filter.mpr ⟨hw, by unfold vx_no; rw [decide_eq_true e1, decide_eq_true e2, decide_eq_true e3, decide_eq_true e4]; rfl⟩)
/-- where a static field lies, its class's statics cell in H -/
def vx_L (C n d : String) (A : Nat → Prop) (U : State) (H : Heap) : Prop := ∃ (c : ClassId) (k : Class) (i : Nat) (f : Field) (a : Nat) (cell : Cell), U.vm.findClass C = some c ∧ U.fieldFound? C n d = some (c, k, i, f) ∧ f.isStatic = true ∧ k.statics = some a ∧ H[a]? = some cell ∧ cell.vm.isStatics = true ∧ cell.cls = c ∧ f.slot < cell.slots.size ∧ k.staticTypes[f.slot]? = some f.type ∧ ¬ A a
theorem vx_L.moved {C n d : String} {A : Nat → Prop} {u U : State} {H : Heap} (hvm : u.vm.Alike U.vm) (h : vx_L C n d A u H) : vx_L C n d A U H := by
  obtain ⟨c, k, i, f, a, cell, h1, h2, h3, h4, h5, h6, h7, h8, h9, h10⟩ := h
  obtain ⟨k', hi', he⟩ := State.fieldFound?_setVm hvm h2
  exact ⟨c, k', i, f, a, cell, by rw [hvm.findClass]; exact h1, hi', h3, by rw [he]; exact h4, h5, h6, h7, h8, by rw [he]; exact h9, h10⟩
theorem vx_L.kept {C n d : String} {A : Nat → Prop} {U : State} {H H1 : Heap} (h : vx_L C n d A U H) (hq : ∀ a : Nat, a < H.size → ¬ A a → H1[a]? = H[a]?) : vx_L C n d A U H1 := by
  obtain ⟨c, k, i, f, a, cell, h1, h2, h3, h4, h5, h6, h7, h8, h9, h10⟩ := h
  exact ⟨c, k, i, f, a, cell, h1, h2, h3, h4, by rw [hq a (Array.getElem?_eq_some_iff.mp h5).1 h10]; exact h5, h6, h7, h8, h9, h10⟩
theorem vx_L.narrow {C n d : String} {A B : Nat → Prop} {U : State} {H : Heap} (h : vx_L C n d A U H) (hAB : ∀ q, B q → A q) : vx_L C n d B U H := by
  obtain ⟨c, k, i, f, a, cell, h1, h2, h3, h4, h5, h6, h7, h8, h9, h10⟩ := h
  exact ⟨c, k, i, f, a, cell, h1, h2, h3, h4, h5, h6, h7, h8, h9, fun z => h10 (hAB _ z)⟩
theorem vx_L.word {C n d : String} {A : Nat → Prop} {s : State} {args : Array Value} (h : vx_L C n d A s s.heap) : (Cond.laysStatic C n d).before args s = true := by
  obtain ⟨c, k, i, f, a, cell, h1, h2, h3, h4, h5, h6, h7, h8, h9, -⟩ := h
  show (Cond.laysStatic C n d).holds args s none s [] = true
  exact Cond.laysStatic_of h1 h2 h3 h4 h5 h6 h7 h8 h9
/-- .. and what it holds: null or some reference -/
def vx_Zq (C n d : String) (A : Nat → Prop) (U : State) (H : Heap) : Prop := va_Zq C n d A U H ∧ vx_L C n d A U H
theorem vx_Zq.moved {C n d : String} {A : Nat → Prop} {u U : State} {H : Heap} (hvm : u.vm.Alike U.vm) (h : vx_Zq C n d A u H) : vx_Zq C n d A U H := ⟨va_Zq.moved hvm h.1, vx_L.moved hvm h.2⟩
theorem vx_Zq.kept {C n d : String} {A : Nat → Prop} {U : State} {H H1 : Heap} (h : vx_Zq C n d A U H) (hq : ∀ a : Nat, a < H.size → ¬ A a → H1[a]? = H[a]?) : vx_Zq C n d A U H1 := ⟨va_Zq.kept h.1 hq, vx_L.kept h.2 hq⟩
theorem vx_Zq.narrow {C n d : String} {A B : Nat → Prop} {U : State} {H : Heap} (h : vx_Zq C n d A U H) (hAB : ∀ q, B q → A q) : vx_Zq C n d B U H := ⟨va_Zq.narrow h.1 hAB, vx_L.narrow h.2 hAB⟩
theorem vx_Zqof {args : Array Value} {s : State} {C n d : String} {A : Nat → Prop} (hl : (Cond.laysStatic C n d).before args s = true) (hini : (Cond.initialized C).before args s = true) (h : (Cond.isRef (.static C n d)).before args s = true) (hA : ∀ a : Nat, a < s.heap.size → ¬ A a) : vx_Zq C n d A s s.heap := by
  refine ⟨va_Zqof hl hini h hA, ?_⟩
  obtain ⟨c, k, i, f, a, cell, h1, h2, h3, h4, h5, h6, h7, h8, h9⟩ := Cond.laysStatic_spec hl
  exact ⟨c, k, i, f, a, cell, h1, h2, h3, h4, h5, h6, h7, h8, h9, hA a (Array.getElem?_eq_some_iff.mp h5).1⟩
theorem vx_isRef {C n d : String} {v : Value} {A : Nat → Prop} {s : State} {args : Array Value} (h : va_Z C n d v A s s.heap) (hv : v.isRef = true) : (Cond.isRef (.static C n d)).before args s = true := by
  obtain ⟨cf, kf, fi, f, a, cell, h1, h2, h3, h4, h5, h6, h7, -⟩ := h
  have he : (Term.static C n d).eval args s none [] s = some v := by
    simp [Term.eval, State.fieldNamed?, h1, h2, h4, h5, h6, h7]
  simp only [Cond.before, Cond.holds, Cond.value, he]
  cases v <;> simp_all [Value.isRef]
theorem vx_isRefq {C n d : String} {A : Nat → Prop} {s : State} {args : Array Value} (h : va_Zq C n d A s s.heap) : (Cond.isRef (.static C n d)).before args s = true := by
  rcases h with h | ⟨t, h⟩
  · exact vx_isRef h rfl
  · exact vx_isRef h rfl
/-- the same frame, seen from here: as if the method were called anew in this heap -/
theorem vx_rebase {T : State} (X : Stand p l e R s m args below meth c T locs cells slots) {R' : Room} (hf : R'.frames ≤ R.frames) (hl : R'.locals ≤ R.locals) (hc : cells + R'.cells ≤ R.cells) (hs : slots + R'.slots ≤ R.slots) :
    Stand p l e R' ((T.setVm s.vm).setFrames (.invoking m args :: below)) m args below meth c T [] 0 0 := by
  have htop : (T.setVm s.vm).topJava?.isSome := X.here.top
  have hF : ((T.setVm s.vm).setFrames (.invoking m args :: below)).frames = .invoking m args :: below := State.frames_setFrames _ (State.cur_lt_of_top htop)
  obtain ⟨g₀, hg0⟩ := Option.isSome_iff_exists.mp htop
  obtain ⟨r, hr⟩ := State.topJava?_eq_some.mp hg0
  have hl9 : e.platform.stackLimits (T.setVm s.vm).me = e.platform.stackLimits s.me := X.limits
  have hb9 : (T.setVm s.vm).me.stackBytes = s.me.stackBytes := X.bytes
  refine ⟨X.admits, X.cas, X.clock, hF, ?_, X.hears, X.method, X.code, X.here, X.tail, X.warmed, ?_, ?_, ?_⟩
  · have h := X.room
    have hU : ((T.setVm s.vm).setFrames (.invoking m args :: below)).localsInUse = s.localsInUse := by
      rw [State.localsInUse_invoking hF (meth := meth) (c := c) X.method X.code, State.localsInUse_invoking X.frames X.method X.code]
    simp only [State.hasRoom, Bool.and_eq_true, decide_eq_true_eq] at h ⊢
    obtain ⟨⟨⟨⟨h1, h2, h3, h4, h5, h6⟩, h7⟩, h8⟩, h9⟩ := h
    rw [X.frames, List.length_cons] at h2 h3
    have q1 := X.heapSize
    have q2 := X.used
    simp only [hF, hU, List.length_cons, State.stackLimits_setFrames, State.stackBytes_setFrames, hl9, hb9]
    refine ⟨⟨⟨⟨by omega, by omega, by omega, by omega, by omega, h6⟩, ?_⟩, ?_⟩, X.book⟩
    · show T.heap.size + R'.cells ≤ e.platform.maxCells
      omega
    · show T.slotsUsed + R'.slots ≤ e.platform.maxSlots
      omega
  · rw [State.stackLimits_setFrames]; rfl
  · rw [State.stackBytes_setFrames]; rfl
  · refine ⟨?_, Nat.le_refl _, Nat.le_refl _, ?_, ?_, fun a c9 h9 => ⟨c9, h9, rfl, rfl, fun _ _ => rfl⟩⟩
    · obtain ⟨t, ht, -⟩ := State.frames_cons hr
      show T.setVm s.vm = { ((T.setVm s.vm).setFrames (.invoking m args :: below)).setFrames (T.setVm s.vm).frames with heap := T.heap, slotsUsed := T.slotsUsed }
      rw [State.setFrames_setFrames, State.setFrames_self ht]
      rfl
    · show T.slotsUsed = T.slotsUsed + ((T.heap.toList.drop T.heap.size).map (·.slots.size)).sum
      rw [List.drop_eq_nil_of_le (Nat.le_of_eq Array.length_toList)]
      rfl
    · show ((T.heap.toList.drop T.heap.size).map (·.slots.size)).sum ≤ 0
      rw [List.drop_eq_nil_of_le (Nat.le_of_eq Array.length_toList)]
      exact Nat.le_refl _
/-- 'throw new E()': new; dup; invokespecial; athrow -/
theorem vx_throw0 {cc : ByteArray} {pc : Nat} (hexec : p.tables.exec = Jvm.exec) (hb : c.code = cc) (hl : l.stackTraces = false) {own cls : String} {names : List String} {ik ic mc ms : Nat} {A : Nat → Prop}
    (hown : s.vm.findClass own = some m.cls) (hcls : Bundle.fit cls = true) (hnames : ∀ n ∈ names, Bundle.fit n = true)
    (hk : (Cond.classLink own ik cls).before args s = true) (hini : (Cond.initialized cls).before args s = true) (hat : ∀ w ∈ vx_at0 own ic cls names, w.before args s = true)
    (hgood : ∀ w ∈ Cond.classLink own ik cls :: Cond.initialized cls :: vx_at0 own ic cls names, vx_ot w = true)
    (hU : vx_Zq Bundle.tN "UNASSIGNED_STACK" Bundle.steD A s s.heap) (hN : vx_Zq Bundle.tN "SUPPRESSED_SENTINEL" Bundle.listD A s s.heap) (hS : va_S A s.heap H locs) (hsize : ls.size = c.maxLocals)
    (d0 : decode cc pc = .ok (.new ik, 3)) (d3 : decode cc (pc + 3) = .ok (.dup, 1)) (d4 : decode cc (pc + 4) = .ok (.invokespecial ic, 3)) (d7 : decode cc (pc + 7) = .ok (.athrow, 1))
    (hout : ∀ x ∈ c.exceptionTable.toList, covers x (pc + 7) = false)
    (hRframes : names.length + 3 < R.frames) (hRlocals : (rest.map fun v => v.category).sum + (13 * (names.length + 1) + 42) ≤ R.locals) (hRcells : cells + 1 ≤ R.cells) (hRslots : slots + 6 ≤ R.slots) (hlocks : meth.locks = false)
    (hx : ∀ t : State, s.vm.Alike t.vm → H.size ≤ t.heap.size → (∀ q : Nat, q < H.size → t.heap[q]? = H[q]?) → XC cls s t)
    (hf : ∀ z ∈ locs, free z.base) (hc : cells + 1 ≤ mc) (hs : slots + 6 ≤ ms) :
    W p l e R s m args below meth c H locs cells slots (vx_MQ below Qc XC args s mc ms free) (F0 m pc ls rest) := by
  intro T hT X
  have htr : e.platform.stackTraces = false := (show e.platform.stackTraces = l.stackTraces by rw [X.admits.platform]).trans hl
  have Y := vx_rebase X (R' := { frames := R.frames, locals := R.locals, cells := 1, slots := 6 }) (Nat.le_refl _) (Nat.le_refl _) hRcells hRslots
  obtain ⟨s', hA⟩ : ∃ z, z = (T.setVm s.vm).setFrames (.invoking m args :: below) := ⟨_, rfl⟩
  rw [← hA] at Y
  have hvm : s'.vm = s.vm := by rw [hA]; rfl
  have hhp : s'.heap = H := by rw [hA]; exact hT
  have hW0 : s.WarmedH s'.vm := by rw [hvm]; exact State.WarmedH.refl s
  have hat' : ∀ w ∈ vx_at0 own ic cls names, w.before args s' = true := fun w hw => vx_ot_at hW0 hvm.symm (hgood w (List.mem_cons_of_mem _ (List.mem_cons_of_mem _ hw))) (hat w hw)
  have hk' : (Cond.classLink own ik cls).before args s' = true := vx_ot_at hW0 hvm.symm (hgood _ List.mem_cons_self) hk
  have hini' : (Cond.initialized cls).before args s' = true := vx_ot_at hW0 hvm.symm (hgood _ (List.mem_cons_of_mem _ List.mem_cons_self)) hini
  have hU' : vx_Zq Bundle.tN "UNASSIGNED_STACK" Bundle.steD A s' s'.heap := by rw [hhp]; exact vx_Zq.moved hW0.alike (hU.kept hS.2.1)
  have hN' : vx_Zq Bundle.tN "SUPPRESSED_SENTINEL" Bundle.listD A s' s'.heap := by rw [hhp]; exact vx_Zq.moved hW0.alike (hN.kept hS.2.1)
  have h : ∀ w ∈ Bundle.ownAtoms0 own ic cls names, w.before args s' = true := vx_own hat' (vx_isRefq hU'.1) (vx_isRefq hN'.1) hU'.2.word hN'.2.word
  have hown' : s'.vm.findClass own = some m.cls := by rw [hvm]; exact hown
  have hins : (Cond.instantiable cls 6).before args s' = true := h _ (by simp [Bundle.ownAtoms0])
  obtain ⟨vm₁, cX, kX, hfX, hkX, -, -, X₁, st1⟩ := Y.newCold hexec (own := own) (C := cls) (index := ik) (n := 6) hown' hk' hins hini'
    (g := F0 m pc ls rest) rfl (by rw [hb]; exact d0) (Nat.le_refl _) (Nat.le_refl _)
  generalize hT1 : (T.setVm vm₁).pushCell { cls := cX, slots := kX.instanceTypes.map defaultValue, vm := .none } = T1 at X₁ st1
  have hcat : (Value.ref T.heap.size).category = 1 := rfl
  have hcellA : T1.heap[T.heap.size]? = some (freshCell cX kX) := by rw [← hT1]; exact State.heap_pushCell_size _ _
  have d3' : decode c.code (pc + 3) = .ok (.dup, 1) := by rw [hb]; exact d3
  obtain ⟨U, hsteps, hrun, hend, hW, hsame, ce, hce, hO⟩ := X₁.ctorThrow0 hexec htr (own := own) (cls := cls) (names := names) (ic := ic) hown' hcls hnames h (fun x hx => nomatch hx) hfX hkX hcellA (by rw [hhp, hT]; exact Nat.le_refl _)
    (g := { method := m, pc := pc + 4, locals := ls, stack := .ref T.heap.size :: .ref T.heap.size :: rest, locked := none }) rfl hsize rfl rfl (rest := rest) rfl
    (by rw [hb]; exact d4) (by rw [hb]; exact d7) hout hRframes (by simp only [List.map_cons, List.sum_cons, hcat]; omega) hlocks
  obtain ⟨f1, f2⟩ := vx_frame hsame
  rw [hhp] at f1 f2
  have hWs : s.WarmedH U.vm := State.WarmedH.trans hW0 hW
  have hcl : s.vm.findClass cls = some ce.cls := by
    have h9 := hO.cls
    rw [hvm] at h9
    exact h9
  have hall : s.sameButNew ({ U with vm := s.vm } : State) locs mc ms := by
    subst hA
    obtain ⟨e1, e2⟩ := hsame
    rw [State.setFrames_setFrames] at e1
    have h2 : (T.setVm s.vm).sameButNew ({ U with vm := s.vm } : State) [] (0 + 1) (0 + 6) := ⟨e1, e2⟩
    have h3 := X.same.trans h2
    rw [List.append_nil] at h3
    exact h3.mono hc hs
  refine ⟨U, ?_, .threw T.heap.size, hrun, hend, Or.inr ⟨T.heap.size, rfl, cls, ce, locs, hx U hWs.alike f1 (fun q hq => f2 q hq (fun z hz => nomatch hz)), hce, hO.vm, hcl, hWs, hall, hf⟩⟩
  refine st1 _ ?_
  show Steps p.tables e below (T1.setTop { method := m, pc := pc + 3, locals := ls, stack := .ref T.heap.size :: rest, locked := none }) _
  jvm_step X₁.here [X₁.here.top, hexec, d3', Value.category]
  exact hsteps
/-- 'throw new E("text")': new; dup; ldc; invokespecial; athrow -/
theorem vx_throwS {cc : ByteArray} {pc : Nat} (hexec : p.tables.exec = Jvm.exec) (hb : c.code = cc) (hl : l.stackTraces = false) {own cls text : String} {names : List String} {ik is ic mc ms sa : Nat} {A : Nat → Prop}
    (hown : s.vm.findClass own = some m.cls) (hcls : Bundle.fit cls = true) (hnames : ∀ n ∈ names, Bundle.fit n = true)
    (hk : (Cond.classLink own ik cls).before args s = true) (hini : (Cond.initialized cls).before args s = true) (hstr : vk_R own is text sa s) (hat : ∀ w ∈ vx_atS own ic cls names, w.before args s = true)
    (hgood : ∀ w ∈ Cond.classLink own ik cls :: Cond.initialized cls :: vx_atS own ic cls names, vx_ot w = true)
    (hU : vx_Zq Bundle.tN "UNASSIGNED_STACK" Bundle.steD A s s.heap) (hN : vx_Zq Bundle.tN "SUPPRESSED_SENTINEL" Bundle.listD A s s.heap) (hS : va_S A s.heap H locs) (hsize : ls.size = c.maxLocals)
    (d0 : decode cc pc = .ok (.new ik, 3)) (d3 : decode cc (pc + 3) = .ok (.dup, 1)) (d4 : decode cc (pc + 4) = .ok (.ldc is, 2)) (d6 : decode cc (pc + 6) = .ok (.invokespecial ic, 3)) (d9 : decode cc (pc + 9) = .ok (.athrow, 1))
    (hout : ∀ x ∈ c.exceptionTable.toList, covers x (pc + 9) = false)
    (hRframes : names.length + 3 < R.frames) (hRlocals : (rest.map fun v => v.category).sum + (13 * (names.length + 1) + 43) ≤ R.locals) (hRcells : cells + 1 ≤ R.cells) (hRslots : slots + 6 ≤ R.slots) (hlocks : meth.locks = false)
    (hx : ∀ t : State, s.vm.Alike t.vm → H.size ≤ t.heap.size → (∀ q : Nat, q < H.size → t.heap[q]? = H[q]?) → XC cls s t)
    (hf : ∀ z ∈ locs, free z.base) (hc : cells + 1 ≤ mc) (hs : slots + 6 ≤ ms) :
    W p l e R s m args below meth c H locs cells slots (vx_MQ below Qc XC args s mc ms free) (F0 m pc ls rest) := by
  intro T hT X
  have htr : e.platform.stackTraces = false := (show e.platform.stackTraces = l.stackTraces by rw [X.admits.platform]).trans hl
  have Y := vx_rebase X (R' := { frames := R.frames, locals := R.locals, cells := 1, slots := 6 }) (Nat.le_refl _) (Nat.le_refl _) hRcells hRslots
  obtain ⟨s', hA⟩ : ∃ z, z = (T.setVm s.vm).setFrames (.invoking m args :: below) := ⟨_, rfl⟩
  rw [← hA] at Y
  have hvm : s'.vm = s.vm := by rw [hA]; rfl
  have hhp : s'.heap = H := by rw [hA]; exact hT
  have hW0 : s.WarmedH s'.vm := by rw [hvm]; exact State.WarmedH.refl s
  have hat' : ∀ w ∈ vx_atS own ic cls names, w.before args s' = true := fun w hw => vx_ot_at hW0 hvm.symm (hgood w (List.mem_cons_of_mem _ (List.mem_cons_of_mem _ hw))) (hat w hw)
  have hk' : (Cond.classLink own ik cls).before args s' = true := vx_ot_at hW0 hvm.symm (hgood _ List.mem_cons_self) hk
  have hini' : (Cond.initialized cls).before args s' = true := vx_ot_at hW0 hvm.symm (hgood _ (List.mem_cons_of_mem _ List.mem_cons_self)) hini
  have hU' : vx_Zq Bundle.tN "UNASSIGNED_STACK" Bundle.steD A s' s'.heap := by rw [hhp]; exact vx_Zq.moved hW0.alike (hU.kept hS.2.1)
  have hN' : vx_Zq Bundle.tN "SUPPRESSED_SENTINEL" Bundle.listD A s' s'.heap := by rw [hhp]; exact vx_Zq.moved hW0.alike (hN.kept hS.2.1)
  have h : ∀ w ∈ Bundle.ownAtoms own ic cls names, w.before args s' = true := vx_own hat' (vx_isRefq hU'.1) (vx_isRefq hN'.1) hU'.2.word hN'.2.word
  have hown' : s'.vm.findClass own = some m.cls := by rw [hvm]; exact hown
  have hins : (Cond.instantiable cls 6).before args s' = true := h _ (by simp [Bundle.ownAtoms])
  obtain ⟨vm₁, cX, kX, hfX, hkX, -, -, X₁, st1⟩ := Y.newCold hexec (own := own) (C := cls) (index := ik) (n := 6) hown' hk' hins hini'
    (g := F0 m pc ls rest) rfl (by rw [hb]; exact d0) (Nat.le_refl _) (Nat.le_refl _)
  generalize hT1 : (T.setVm vm₁).pushCell { cls := cX, slots := kX.instanceTypes.map defaultValue, vm := .none } = T1 at X₁ st1
  have hcat : (Value.ref T.heap.size).category = 1 := rfl
  have hcellA : T1.heap[T.heap.size]? = some (freshCell cX kX) := by rw [← hT1]; exact State.heap_pushCell_size _ _
  have d3' : decode c.code (pc + 3) = .ok (.dup, 1) := by rw [hb]; exact d3
  have d4' : decode c.code (pc + 4) = .ok (.ldc is, 2) := by rw [hb]; exact d4
  have hstr' : vk_R own is text sa s' := vk_R.warm hW0 hstr
  obtain ⟨U, hsteps, hrun, hend, hW, hsame, ce, hce, hO⟩ := X₁.ctorThrowS hexec htr (own := own) (cls := cls) (names := names) (ic := ic) hown' hcls hnames h (fun x hx => nomatch hx) hfX hkX hcellA (by rw [hhp, hT]; exact Nat.le_refl _) (msg := .ref sa) rfl
    (g := { method := m, pc := pc + 6, locals := ls, stack := .ref sa :: .ref T.heap.size :: .ref T.heap.size :: rest, locked := none }) rfl hsize rfl rfl (rest := rest) rfl
    (by rw [hb]; exact d6) (by rw [hb]; exact d9) hout hRframes (by simp only [List.map_cons, List.sum_cons, hcat]; omega) hlocks
  obtain ⟨f1, f2⟩ := vx_frame hsame
  rw [hhp] at f1 f2
  have hWs : s.WarmedH U.vm := State.WarmedH.trans hW0 hW
  have hcl : s.vm.findClass cls = some ce.cls := by
    have h9 := hO.cls
    rw [hvm] at h9
    exact h9
  have hall : s.sameButNew ({ U with vm := s.vm } : State) locs mc ms := by
    subst hA
    obtain ⟨e1, e2⟩ := hsame
    rw [State.setFrames_setFrames] at e1
    have h2 : (T.setVm s.vm).sameButNew ({ U with vm := s.vm } : State) [] (0 + 1) (0 + 6) := ⟨e1, e2⟩
    have h3 := X.same.trans h2
    rw [List.append_nil] at h3
    exact h3.mono hc hs
  refine ⟨U, ?_, .threw T.heap.size, hrun, hend, Or.inr ⟨T.heap.size, rfl, cls, ce, locs, hx U hWs.alike f1 (fun q hq => f2 q hq (fun z hz => nomatch hz)), hce, hO.vm, hcl, hWs, hall, hf⟩⟩
  refine st1 _ ?_
  show Steps p.tables e below (T1.setTop { method := m, pc := pc + 3, locals := ls, stack := .ref T.heap.size :: rest, locked := none }) _
  jvm_step X₁.here [X₁.here.top, hexec, d3', Value.category]
  exact X₁.ldcString hexec (own := own) (text := text) (index := is) (a := sa) hown' hstr'.1 hstr'.2
    (g := { method := m, pc := pc + 4, locals := ls, stack := .ref T.heap.size :: .ref T.heap.size :: rest, locked := none }) rfl d4' _ hsteps
/-- 'throw new E("text")', the text by a wide index -/
theorem vx_throwSW {cc : ByteArray} {pc : Nat} (hexec : p.tables.exec = Jvm.exec) (hb : c.code = cc) (hl : l.stackTraces = false) {own cls text : String} {names : List String} {ik is ic mc ms sa : Nat} {A : Nat → Prop}
    (hown : s.vm.findClass own = some m.cls) (hcls : Bundle.fit cls = true) (hnames : ∀ n ∈ names, Bundle.fit n = true)
    (hk : (Cond.classLink own ik cls).before args s = true) (hini : (Cond.initialized cls).before args s = true) (hstr : vk_R own is text sa s) (hat : ∀ w ∈ vx_atS own ic cls names, w.before args s = true)
    (hgood : ∀ w ∈ Cond.classLink own ik cls :: Cond.initialized cls :: vx_atS own ic cls names, vx_ot w = true)
    (hU : vx_Zq Bundle.tN "UNASSIGNED_STACK" Bundle.steD A s s.heap) (hN : vx_Zq Bundle.tN "SUPPRESSED_SENTINEL" Bundle.listD A s s.heap) (hS : va_S A s.heap H locs) (hsize : ls.size = c.maxLocals)
    (d0 : decode cc pc = .ok (.new ik, 3)) (d3 : decode cc (pc + 3) = .ok (.dup, 1)) (d4 : decode cc (pc + 4) = .ok (.ldc_w is, 3)) (d7 : decode cc (pc + 7) = .ok (.invokespecial ic, 3)) (d10 : decode cc (pc + 10) = .ok (.athrow, 1))
    (hout : ∀ x ∈ c.exceptionTable.toList, covers x (pc + 10) = false)
    (hRframes : names.length + 3 < R.frames) (hRlocals : (rest.map fun v => v.category).sum + (13 * (names.length + 1) + 43) ≤ R.locals) (hRcells : cells + 1 ≤ R.cells) (hRslots : slots + 6 ≤ R.slots) (hlocks : meth.locks = false)
    (hx : ∀ t : State, s.vm.Alike t.vm → H.size ≤ t.heap.size → (∀ q : Nat, q < H.size → t.heap[q]? = H[q]?) → XC cls s t)
    (hf : ∀ z ∈ locs, free z.base) (hc : cells + 1 ≤ mc) (hs : slots + 6 ≤ ms) :
    W p l e R s m args below meth c H locs cells slots (vx_MQ below Qc XC args s mc ms free) (F0 m pc ls rest) := by
  intro T hT X
  have htr : e.platform.stackTraces = false := (show e.platform.stackTraces = l.stackTraces by rw [X.admits.platform]).trans hl
  have Y := vx_rebase X (R' := { frames := R.frames, locals := R.locals, cells := 1, slots := 6 }) (Nat.le_refl _) (Nat.le_refl _) hRcells hRslots
  obtain ⟨s', hA⟩ : ∃ z, z = (T.setVm s.vm).setFrames (.invoking m args :: below) := ⟨_, rfl⟩
  rw [← hA] at Y
  have hvm : s'.vm = s.vm := by rw [hA]; rfl
  have hhp : s'.heap = H := by rw [hA]; exact hT
  have hW0 : s.WarmedH s'.vm := by rw [hvm]; exact State.WarmedH.refl s
  have hat' : ∀ w ∈ vx_atS own ic cls names, w.before args s' = true := fun w hw => vx_ot_at hW0 hvm.symm (hgood w (List.mem_cons_of_mem _ (List.mem_cons_of_mem _ hw))) (hat w hw)
  have hk' : (Cond.classLink own ik cls).before args s' = true := vx_ot_at hW0 hvm.symm (hgood _ List.mem_cons_self) hk
  have hini' : (Cond.initialized cls).before args s' = true := vx_ot_at hW0 hvm.symm (hgood _ (List.mem_cons_of_mem _ List.mem_cons_self)) hini
  have hU' : vx_Zq Bundle.tN "UNASSIGNED_STACK" Bundle.steD A s' s'.heap := by rw [hhp]; exact vx_Zq.moved hW0.alike (hU.kept hS.2.1)
  have hN' : vx_Zq Bundle.tN "SUPPRESSED_SENTINEL" Bundle.listD A s' s'.heap := by rw [hhp]; exact vx_Zq.moved hW0.alike (hN.kept hS.2.1)
  have h : ∀ w ∈ Bundle.ownAtoms own ic cls names, w.before args s' = true := vx_own hat' (vx_isRefq hU'.1) (vx_isRefq hN'.1) hU'.2.word hN'.2.word
  have hown' : s'.vm.findClass own = some m.cls := by rw [hvm]; exact hown
  have hins : (Cond.instantiable cls 6).before args s' = true := h _ (by simp [Bundle.ownAtoms])
  obtain ⟨vm₁, cX, kX, hfX, hkX, -, -, X₁, st1⟩ := Y.newCold hexec (own := own) (C := cls) (index := ik) (n := 6) hown' hk' hins hini'
    (g := F0 m pc ls rest) rfl (by rw [hb]; exact d0) (Nat.le_refl _) (Nat.le_refl _)
  generalize hT1 : (T.setVm vm₁).pushCell { cls := cX, slots := kX.instanceTypes.map defaultValue, vm := .none } = T1 at X₁ st1
  have hcat : (Value.ref T.heap.size).category = 1 := rfl
  have hcellA : T1.heap[T.heap.size]? = some (freshCell cX kX) := by rw [← hT1]; exact State.heap_pushCell_size _ _
  have d3' : decode c.code (pc + 3) = .ok (.dup, 1) := by rw [hb]; exact d3
  have d4' : decode c.code (pc + 4) = .ok (.ldc_w is, 3) := by rw [hb]; exact d4
  have hstr' : vk_R own is text sa s' := vk_R.warm hW0 hstr
  obtain ⟨U, hsteps, hrun, hend, hW, hsame, ce, hce, hO⟩ := X₁.ctorThrowS hexec htr (own := own) (cls := cls) (names := names) (ic := ic) hown' hcls hnames h (fun x hx => nomatch hx) hfX hkX hcellA (by rw [hhp, hT]; exact Nat.le_refl _) (msg := .ref sa) rfl
    (g := { method := m, pc := pc + 7, locals := ls, stack := .ref sa :: .ref T.heap.size :: .ref T.heap.size :: rest, locked := none }) rfl hsize rfl rfl (rest := rest) rfl
    (by rw [hb]; exact d7) (by rw [hb]; exact d10) hout hRframes (by simp only [List.map_cons, List.sum_cons, hcat]; omega) hlocks
  obtain ⟨f1, f2⟩ := vx_frame hsame
  rw [hhp] at f1 f2
  have hWs : s.WarmedH U.vm := State.WarmedH.trans hW0 hW
  have hcl : s.vm.findClass cls = some ce.cls := by
    have h9 := hO.cls
    rw [hvm] at h9
    exact h9
  have hall : s.sameButNew ({ U with vm := s.vm } : State) locs mc ms := by
    subst hA
    obtain ⟨e1, e2⟩ := hsame
    rw [State.setFrames_setFrames] at e1
    have h2 : (T.setVm s.vm).sameButNew ({ U with vm := s.vm } : State) [] (0 + 1) (0 + 6) := ⟨e1, e2⟩
    have h3 := X.same.trans h2
    rw [List.append_nil] at h3
    exact h3.mono hc hs
  refine ⟨U, ?_, .threw T.heap.size, hrun, hend, Or.inr ⟨T.heap.size, rfl, cls, ce, locs, hx U hWs.alike f1 (fun q hq => f2 q hq (fun z hz => nomatch hz)), hce, hO.vm, hcl, hWs, hall, hf⟩⟩
  refine st1 _ ?_
  show Steps p.tables e below (T1.setTop { method := m, pc := pc + 3, locals := ls, stack := .ref T.heap.size :: rest, locked := none }) _
  jvm_step X₁.here [X₁.here.top, hexec, d3', Value.category]
  exact X₁.ldcStringW hexec (own := own) (text := text) (index := is) (a := sa) hown' hstr'.1 hstr'.2
    (g := { method := m, pc := pc + 4, locals := ls, stack := .ref T.heap.size :: .ref T.heap.size :: rest, locked := none }) rfl d4' _ hsteps
end Ends
section Bodies
variable {l : Launch}
theorem vx_ofW {y : MethodName} {ws ws' : List Cond} {rm : Room} {Pc : Array Value → State → Prop} {Qc : Array Value → State → Outcome → State → Prop} {XC : String → State → State → Prop} {mc ms : Nat} {free : Addr → Prop} {cc : ByteArray} {maxL : Nat} {ret : Option FieldType}
    (hy : plainName y.cls = true) (hw : ws = Cond.code y cc maxL ret :: ws')
    (body : ∀ p e s m args below meth c s₁, BodyLoose p l y (headSpec ws rm) cc maxL ret e s m args below meth c s₁ → c.maxLocals = maxL → (∀ x ∈ c.exceptionTable.toList, False) → Pc args s →
      W p l e (headSpec ws rm).room s m args below meth c s.heap [] 0 0 (vx_MQ below Qc XC args s mc ms free) (entryFrame m args maxL)) : vx_Met l y ws rm Pc Qc XC mc ms free := by
  refine MetFree.of_bodyS (code := cc) (maxLocals := maxL) (ret := ret) hy ?_ ?_
  · intro args s m h hn
    obtain ⟨meth, c, h1, h2, h3, h4, h5, h6, -, -⟩ := Cond.code_spec hn (atoms_spec (ws := ws) h _ (by rw [hw]; exact List.mem_cons_self))
    exact ⟨meth, c, h1, h2, h3, h4, h5, h6⟩
  · intro p e s m args below meth c s₁ B hml hP _
    have hh0 : s₁.heap = s.heap := by rw [B.state]; rfl
    have ht : ∀ x ∈ c.exceptionTable.toList, False := by
      obtain ⟨meth9, c9, h1, h2, -, -, -, -, h7, -⟩ := Cond.code_spec B.named (atoms_spec (ws := ws) B.pre _ (by rw [hw]; exact List.mem_cons_self))
      cases Option.some.inj (h1.symm.trans B.method)
      cases Option.some.inj (h2.symm.trans (Stand.of_body B).code)
      intro x hx
      rw [Array.isEmpty_iff.mp h7] at hx
      cases hx
    obtain ⟨t, a1, o, b1, b2, b3⟩ := body p e s m args below meth c s₁ B hml ht hP s₁ hh0 (Stand.of_body B)
    exact ⟨t, o, a1, b1, b2, b3⟩
/-- the table of a body with handlers -/
theorem vx_table {p : Program} {x y : MethodName} {S : Spec} {cc bytes : ByteArray} {maxL maxL' : Nat} {ret ret' : Option FieldType} {e : Env} {s s₁ : State} {m : MethodId} {args : Array Value} {below : List Frame} {meth : Method} {c : Code} {hh : List (Nat × Nat × Nat × Nat)}
    (B : BodyLoose p l y S cc maxL ret e s m args below meth c s₁) (h : (Cond.codeWith y bytes maxL' ret' hh).before args s = true) : c.exceptionTable.toList = tableOf hh := by
  obtain ⟨m9, meth9, c9, hn9, h1, h2, -, -, h6, -⟩ := Cond.codeWith_spec h
  cases Option.some.inj (hn9.symm.trans B.named)
  cases Option.some.inj (h1.symm.trans B.method)
  cases Option.some.inj (h2.symm.trans (Stand.of_body B).code)
  rw [← h6, table_eq]
end Bodies
end VXA
/-! ===== END ===== -/
/-! ===== BEGIN a static call of a method with an exception table ===== -/
section VXS
variable {p : Program} {l : Launch} {e : Env} {R : Room} {s : State} {m : MethodId} {args : Array Value} {below : List Frame} {meth : Method} {c : Code} {T : State} {H : Heap} {locs : List Loc} {cells slots : Nat}
abbrev vx_CSW (R : Room) (s : State) (args : Array Value) (own : String) (index : Nat) (y : MethodName) (bytes : ByteArray) (maxL : Nat) (ret : Option FieldType) (hh : List (Nat × Nat × Nat × Nat)) (ws : List Cond) (rm : Room) (mc ms n : Nat) : Prop :=
  (rm.cells = mc ∧ rm.slots = ms ∧ rm.frames + 1 ≤ R.frames ∧ 8 + (maxL + 11) + rm.locals ≤ R.locals ∧ (∀ w ∈ ws, ∀ (a' : Array Value) (U : State), s.WarmedH U.vm → w.before a' U = true) ∧ Cond.codeWith y bytes maxL ret hh ∈ ws) ∧
  (Cond.codeWith y bytes maxL ret hh).before args s = true ∧ (Cond.initialized y.cls).before args s = true ∧ (y.cls ≠ "java/lang/invoke/MethodHandle" ∧ y.cls ≠ "java/lang/invoke/VarHandle") ∧
  (∀ sig, parseMethodDescriptor y.desc = some sig → n = sig.parameters.length) ∧ (Cond.methodLink own index y).before args s = true ∧ (Cond.static y).before args s = true
theorem vx_cwSW {own : String} {index maxL mc ms : Nat} {y : MethodName} {bytes : ByteArray} {ret : Option FieldType} {hh : List (Nat × Nat × Nat × Nat)} {Ts ws ws' : List Cond} {rm : Room} (n : Nat) (ht : ∀ w ∈ Ts, w.before args s = true) (hT : GoodIn Ts (va_wsS own index y ws)) (hw : ws = Cond.codeWith y bytes maxL ret hh :: ws') (hrc : rm.cells = mc) (hrs : rm.slots = ms)
    (hd : y.cls ≠ "java/lang/invoke/MethodHandle" ∧ y.cls ≠ "java/lang/invoke/VarHandle" ∧ (parseMethodDescriptor y.desc).map (fun d => d.parameters.length) = some n) (hR : rm.frames + 1 ≤ R.frames ∧ 8 + (maxL + 11) + rm.locals ≤ R.locals) :
    vx_CSW R s args own index y bytes maxL ret hh ws rm mc ms n := by
  have ok : ∀ w ∈ va_wsS own index y ws, w.before args s = true := fun w h => ht w (hT w h).1
  have hG : GoodIn Ts ws := fun w h => hT w (by unfold va_wsS; exact List.mem_append_right _ h)
  have hc : Cond.codeWith y bytes maxL ret hh ∈ ws := by rw [hw]; exact List.mem_cons_self
  refine ⟨⟨hrc, hrs, hR.1, hR.2, pay_in ht hG, hc⟩, ht _ (hG _ hc).1, ok _ (by simp [va_wsS]), ⟨hd.1, hd.2.1⟩, fun sig h => ?_, ok _ (by simp [va_wsS]), ok _ (by simp [va_wsS])⟩
  have h2 := hd.2.2
  rw [h] at h2
  exact (Option.some.inj h2).symm
theorem vx_callSW (X : Stand p l e R s m args below meth c T locs cells slots) (hexec : p.tables.exec = Jvm.exec) {own : String} {index : Nat} {y : MethodName} {bytes : ByteArray} {maxL : Nat} {ret : Option FieldType} {hh : List (Nat × Nat × Nat × Nat)}
    (hown : s.vm.findClass own = some m.cls) (hlink : (Cond.methodLink own index y).before args s = true) (hstat : (Cond.static y).before args s = true) (hinit : (Cond.initialized y.cls).before args s = true)
    (hcode : (Cond.codeWith y bytes maxL ret hh).before args s = true) (hy : y.cls ≠ "java/lang/invoke/MethodHandle" ∧ y.cls ≠ "java/lang/invoke/VarHandle")
    {W9 : Nat} {Pre : Pt → Array Value → Prop} {Post : Pt → Array Value → Option Value → Pt → Prop} (hK : Back l R p e below s args y 3 W9 Pre Post)
    {g : JFrame} (hg : g.method = m) (hsize : g.locals.size = c.maxLocals) {argsL rest : List Value} (hlen : ∀ sig, parseMethodDescriptor y.desc = some sig → argsL.length = sig.parameters.length)
    (hstack : g.stack = argsL.reverse ++ rest) (hW : 2 * g.monitorRoom + (rest.map fun v => v.category).sum ≤ W9) (hdg : decode c.code g.pc = .ok (.invokestatic index, 3))
    (hpre : ∀ vm₁, s.WarmedH vm₁ → Pre ⟨T.setVm vm₁, locs, cells, slots⟩ argsL.toArray) :
    ∃ (v : Option Value) (vm₁ : Vm) (B : Pt), s.WarmedH vm₁ ∧ Stand p l e R s m args below meth c B.U B.locs B.cells B.slots ∧ Post ⟨T.setVm vm₁, locs, cells, slots⟩ argsL.toArray v B ∧
      ∀ target, Steps p.tables e below (B.U.setTop { g with pc := g.pc + 3, stack := v.toList ++ rest }) target → Steps p.tables e below (T.setTop g) target := by
  obtain ⟨mk, methM, cM, hnamed, hmethM, -, -, -, -, -, -, hsigM⟩ := Cond.codeWith_spec hcode
  have hstatic : methM.isStatic = true := Cond.static_spec hnamed hmethM hstat
  obtain ⟨kP, hkP, -⟩ := className_of_methodNamed hnamed
  have hinitP : kP.init = .initialized := Cond.initialized_spec (findClass_of_methodNamed hnamed) hkP hinit
  obtain ⟨vm₁, X₁, hstep₁⟩ := X.invokestatic hexec hown hlink hnamed hmethM hstatic hkP hinitP hy (g := g) hg (argsL := argsL) (rest := rest) (hlen _ hsigM) hstack hdg
  obtain ⟨v, B, X', hpost, hsteps⟩ := hK m meth c ⟨T.setVm vm₁, locs, cells, slots⟩ { g with stack := rest } (.invokestatic index) mk argsL.toArray X₁ hg hsize hdg hW (X₁.named hnamed) (hpre vm₁ X₁.warmed)
  exact ⟨v, vm₁, B, X₁.warmed, X', hpost, fun target h => hstep₁ _ fun acts => by rw [doInvoke_state]; exact hsteps.trans h⟩
theorem vx_runSW {y : MethodName} {bytes cc : ByteArray} {maxL nL mc ms n index : Nat} {ret : Option FieldType} {hh : List (Nat × Nat × Nat × Nat)} {ws : List Cond} {rm : Room} {Pc : Array Value → State → Prop} {Qc : Array Value → State → Outcome → State → Prop} {free : Addr → Prop} {Ts : List Cond} {own : String} {As rest : List Value} {g : JFrame}
    (S : CallFix p m c cc nL s args Ts own) (hM : Met l y ws rm Pc Qc mc ms free) (cw : vx_CSW R s args own index y bytes maxL ret hh ws rm mc ms n) (hp : PreS s H Pc As)
    (hg : g.method = m) (hn : As.length = n) (hsize : g.locals.size = nL) (hstack : g.stack = As.reverse ++ rest) (hW : 2 * g.monitorRoom + (rest.map fun v => v.category).sum ≤ 8) (hdg : decode cc g.pc = .ok (.invokestatic index, 3)) (hf : cells + mc ≤ R.cells ∧ slots + ms ≤ R.slots) :
    va_Run p l e R s m args below meth c H locs cells slots mc ms g rest (Qc As.toArray) (free) := by
  obtain ⟨⟨hrc, hrs, hfr, hlo, hws, hcw⟩, hcode, hini, hy, hlen, hl, hstt⟩ := cw
  have hK : Back l R p e below s args y 3 8 (PreOf R mc ms Pc) (PostOf Qc mc ms free) := va_backW (hh := hh) (bytes := bytes) (maxL := maxL) (ret := ret) hM hp.1 hrc hrs hfr hlo hws hcw (fun a' U hW => word_at hW (Or.inl (by first | rfl | simp [Cond.onTables, Cond.keeps, Cond.steady])) hini)
  obtain ⟨hx, hb, hml, ho, -⟩ := S
  intro T hT X
  obtain ⟨v, vm₁, ⟨U', l2, c2, s2⟩, hW₁, X', ⟨g', mk, t, L, e1, e2, hq, h1, hL, h2, h3⟩, st⟩ := vx_callSW X hx (hh := hh) (bytes := bytes) (maxL := maxL) (ret := ret) ho hl hstt hini hcode hy hK hg (hsize.trans hml.symm) (argsL := As) (rest := rest) (fun sig h => hn.trans (hlen sig h)) hstack hW (by rw [hb]; exact hdg)
    (fun vm₁ hW₁ => ⟨hf.1, hf.2, hp.2 (T.setVm vm₁) hT hW₁⟩)
  dsimp only [Pt.U, Pt.locs, Pt.cells, Pt.slots] at X' e1 e2 h1 h2 h3 st
  subst h1; subst h2; subst h3
  exact ⟨v, (T.setVm vm₁).calling g' mk As.toArray, t, U', L, hT, X', hL, e1, e2, hq, st⟩
/-- not caught here, past rows that name other classes: it goes on to the caller -/
theorem vx_outP {p : Program} {l : Launch} {e : Env} {R : Room} {s : State} {m : MethodId} {args : Array Value} {below : List Frame} {meth : Method} {c : Code} {H : Heap} {locs : List Loc} {cells slots : Nat} {free : Addr → Prop} {ls : Array Slot} {rest : List Value} {Qc : Array Value → State → Outcome → State → Prop} {XC : String → State → State → Prop}
    {pc : Nat} {own E : String} {ce : Cell} {q : Addr} {mc ms : Nat} (hown : s.vm.findClass own = some m.cls) (hlocks : meth.locks = false)
    (hpass : ∀ z ∈ c.exceptionTable.toList, covers z pc = false ∨ (z.catchType ≠ 0 ∧ ∃ nm : String, (Cond.classLink own z.catchType nm).before args s = true ∧ va_Nc E nm s)) (hcell : H[q]? = some ce) (hv : ce.vm = .none) (hcl : s.vm.findClass E = some ce.cls)
    (hx : ∀ t : State, t.heap = H → s.vm.Alike t.vm → XC E s t) (hf : ∀ z ∈ locs, free z.base) (hc : cells ≤ mc) (hs : slots ≤ ms) :
    vx_W p l e R s m args below meth c H locs cells slots (vx_MQ below Qc XC args s mc ms free) (F0 m pc ls rest) q := by
  intro T hT X
  have hpl : e.platform.magicAccessors = ({} : Platform).magicAccessors := by rw [X.admits.platform]
  obtain ⟨vm', hW', X', st⟩ := X.outThrough hlocks q (g := F0 m pc ls rest) rfl rfl rfl (cell := ce) (by rw [hT]; exact hcell) (by rw [hv]; rfl)
    (by obtain ⟨k9, h9, -⟩ := Vm.findClass_spec hcl; exact ⟨k9, h9⟩) (fun z hz => by
      rcases hpass z hz with h | ⟨hz0, nm, hl1, hn1⟩
      · exact Or.inl h
      · obtain ⟨c6, hc6, hcl6⟩ := Cond.classLink_spec hown hl1 e.platform hpl
        obtain ⟨a8, b8, h1, h2, h3⟩ := hn1
        cases Option.some.inj (h1.symm.trans hcl)
        cases Option.some.inj (h2.symm.trans hc6)
        exact Or.inr ⟨hz0, _, hcl6, h3⟩)
  obtain ⟨g₀, hfr⟩ := X'.frames_eq
  have hcell9 : ((T.setVm vm').setFrames (.throwing q :: below)).heap[q]? = some ce := by
    show T.heap[q]? = some ce
    rw [hT]; exact hcell
  have hend : Ended ((T.setVm vm').setFrames (.throwing q :: below)) below (.threw q) := State.frames_setFrames _ (State.cur_lt_of_frames hfr)
  refine ⟨(T.setVm vm').setFrames (.throwing q :: below), ?_, .threw q, X'.here.running, hend, Or.inr ⟨q, rfl, E, ce, locs, hx _ hT (X'.ends _).1.alike, hcell9, hv, hcl, (X'.ends _).1, (X'.ends _).2.mono hc hs, hf⟩⟩
  rw [X.pushThrowing_eq]
  exact st
/-- a thing of a world lies in the heap -/
theorem vx_lt {D : va_G} {cl : List vw_C} {ws : va_W} {H1 : Heap} (h : va_P D cl ws H1) {k : Nat} {q : Nat × va_E} (hk : ws[k]? = some q) : q.1 < H1.size := (h k q hk).lt
end VXS
/-! ===== END ===== -/
end
section
/-! Methods that throw: the same layer for an exception in flight (JX), and the contract Cx of a method that throws E for sure. -/
section EXL
variable {p : Program} {l : Launch} {e : Env} {R : Room} {s : State} {m : MethodId} {args : Array Value} {below : List Frame} {meth : Method} {c : Code} {Q : State → Prop} {D : va_G} {cl : List vw_C} {tys : List (ClassId × FieldType)} {A : Nat → Prop} {H0 : Heap} {nL cells slots : Nat}
variable {ws ws' : va_W} {lv lv' : List (Nat × Value)} {pc : Nat} {st : List Value} {cc : ByteArray} {Ts : List Cond} {own : String}
def EX (A : Nat → Prop) (U : State) (H : Heap) : Prop := vx_Zq Bundle.tN "UNASSIGNED_STACK" Bundle.steD A U H ∧ vx_Zq Bundle.tN "SUPPRESSED_SENTINEL" Bundle.listD A U H ∧ (∃ z, vk_R R_X 163 "no such number" z U) ∧ (∃ z, vk_R R_X 154 "no such time" z U) ∧ (∃ z, vk_R R_X 115 "no such act" z U) ∧ ∃ z, vk_R R_X 139 "no such what" z U
theorem EX.call {B : Nat → Prop} {U : State} {H : Heap} {locs : List Loc} (h : EX A s s.heap) (hS : va_S A s.heap H locs) (hB : ∀ q, B q → A q) (hU : U.heap = H) (hW : s.WarmedH U.vm) : EX B U U.heap := by
  obtain ⟨h1, h2, ⟨z3, h3⟩, ⟨z4, h4⟩, ⟨z5, h5⟩, z6, h6⟩ := h
  rw [hU]
  exact ⟨vx_Zq.moved hW.alike ((h1.kept hS.2.1).narrow hB), vx_Zq.moved hW.alike ((h2.kept hS.2.1).narrow hB), ⟨z3, h3.warm hW⟩, ⟨z4, h4.warm hW⟩, ⟨z5, h5.warm hW⟩, z6, h6.warm hW⟩
theorem EX.same {U V : State} (hv : V.vm = U.vm) (hh : V.heap = U.heap) (h : EX A U U.heap) : EX A V V.heap := by
  obtain ⟨h1, h2, ⟨z3, h3⟩, ⟨z4, h4⟩, ⟨z5, h5⟩, z6, h6⟩ := h
  rw [hh]
  have ha : U.vm.Alike V.vm := by rw [hv]; exact Vm.Alike.refl U.vm
  exact ⟨vx_Zq.moved ha h1, vx_Zq.moved ha h2, ⟨z3, h3.same hv⟩, ⟨z4, h4.same hv⟩, ⟨z5, h5.same hv⟩, z6, h6.same hv⟩
def XPre (D : va_G) (cl : List vw_C) (tys : List (ClassId × FieldType)) (nws : List Cond) (wc : va_W) (sz : Nat) (U : State) : Prop := CPre D cl tys nws wc sz U ∧ EX (va_A wc sz) U U.heap
theorem XPre.blind {nws : List Cond} {wc : va_W} {sz : Nat} {As : List Value} : FrameBlind (va_Pc As (XPre D cl tys nws wc sz)) := by
  intro a U g mk q
  obtain ⟨q0, ⟨q1, qP, qK, qD, qN⟩, qE⟩ := q
  exact ⟨q0, ⟨q1, qP, va_K.moved (u := U) (U := U.calling g mk a) (Vm.Alike.refl U.vm) qK, qD, NWs.same (s := U) (U := U.calling g mk a) rfl qN⟩, EX.same (U := U) (V := U.calling g mk a) rfl rfl qE⟩
def XEnd (D : va_G) (cl : List vw_C) (A : Nat → Prop) (E : String) {S : Type} (wn : S → va_W) (E' : String) (u : S) (t : State) : Prop := E' = E ∧ CEnd D cl A wn u t
def Cx {S : Type} (l : Launch) (y : MethodName) (wy : List Cond) (rm : Room) (D : va_G) (cl : List vw_C) (tys : List (ClassId × FieldType)) (nws : List Cond) (As : List Value) (wc : va_W) (mc ms : Nat) (E : String) (post : S → Prop) (wn : S → va_W) : Prop :=
  ∀ sz, vx_Met l y wy rm (va_Pc As (XPre D cl tys nws wc sz)) (fun _ _ _ _ => False) (vx_X post (XEnd D cl (va_A wc sz) E wn) (va_A wc sz)) mc ms (va_A wc sz)
/-- an exception of class E in flight over the frame at pc -/
def JX (p : Program) (l : Launch) (e : Env) (R : Room) (s : State) (m : MethodId) (args : Array Value) (below : List Frame) (meth : Method) (c : Code) (D : va_G) (cl : List vw_C) (A : Nat → Prop) (H0 : Heap) (nL cells slots : Nat) (Q : State → Prop) (ws : va_W) (lv : List (Nat × Value)) (pc : Nat) (E : String) : Prop :=
  ∀ (H : Heap) (locs : List Loc) (ls : Array Slot) (rest : List Value) (q : Addr) (ce : Cell), va_P D cl ws H → va_D A ws → va_S A H0 H locs → lv_has ls nL lv → H[q]? = some ce → ce.vm = .none → s.vm.findClass E = some ce.cls → vx_W p l e R s m args below meth c H locs cells slots Q (F0 m pc ls rest) q
theorem jx_ws {E : String} (is : List Nat) (hn : va_nd is = true) (hs : is.map (fun i => ws[i]?) = ws'.map some) (k : JX p l e R s m args below meth c D cl A H0 nL cells slots Q ws' lv pc E) : JX p l e R s m args below meth c D cl A H0 nL cells slots Q ws lv pc E :=
  fun H locs ls rest q ce hP hD hS h => k H locs ls rest q ce (hP.sub is (sub_of hs)) (hD.sub is hn hs) hS h
def ThrH (p : Program) (l : Launch) (e : Env) (R : Room) (s : State) (m : MethodId) (args : Array Value) (below : List Frame) (meth : Method) (c : Code) (D : va_G) (cl : List vw_C) (A : Nat → Prop) (nL : Nat) (Q : State → Prop) (cc : ByteArray) (Ts : List Cond) (own : String) (mc ms : Nat) (E : String) {S : Type} (post : S → Prop) (wn : S → va_W) : Prop :=
  ∀ (ws : va_W) (lv : List (Nat × Value)) (pc cells slots : Nat) (st : List Value) (ik is ic : Nat) (text : String) (names : List String) (u : S), decode cc pc = .ok (.new ik, 3) → decode cc (pc + 3) = .ok (.dup, 1) → decode cc (pc + 4) = .ok (.ldc is, 2) → decode cc (pc + 6) = .ok (.invokespecial ic, 3) → decode cc (pc + 9) = .ok (.athrow, 1) →
    Bundle.fit E = true → (∀ n ∈ names, Bundle.fit n = true) → Cond.classLink own ik E ∈ Ts → Cond.initialized E ∈ Ts → (∃ z, vk_R own is text z s) → (∀ w ∈ vx_atS own ic E names, w.before args s = true) → (∀ w ∈ Cond.classLink own ik E :: Cond.initialized E :: vx_atS own ic E names, vx_ot w = true) →
    names.length + 3 < R.frames → (st.map fun v => v.category).sum + (13 * (names.length + 1) + 43) ≤ R.locals → cells + 1 ≤ R.cells → slots + 6 ≤ R.slots → cells + 1 ≤ mc → slots + 6 ≤ ms → ws = wn u → post u → J p l e R s m args below meth c D cl A s.heap nL cells slots Q ws lv pc st
def OutH (p : Program) (l : Launch) (e : Env) (R : Room) (s : State) (m : MethodId) (args : Array Value) (below : List Frame) (meth : Method) (c : Code) (D : va_G) (cl : List vw_C) (A : Nat → Prop) (nL : Nat) (Q : State → Prop) (mc ms : Nat) (E : String) {S : Type} (post : S → Prop) (wn : S → va_W) : Prop :=
  ∀ (ws : va_W) (lv : List (Nat × Value)) (pc cells slots : Nat) (u : S), cells ≤ mc → slots ≤ ms → ws = wn u → post u → JX p l e R s m args below meth c D cl A s.heap nL cells slots Q ws lv pc E
section MkX
variable {S : Type} {y : MethodName} {wy wy' : List Cond} {rm : Room} {nws : List Cond} {As : List Value} {wc : va_W} {mc ms : Nat} {ret : Option FieldType} {E : String}
theorem Cx.of {post : S → Prop} {wn : S → va_W} (hst : l.stackTraces = false) (hy : plainName y.cls = true) (hw : wy = Cond.code y cc nL ret :: wy') (hlen : (lg_sl As).length ≤ nL) (hlv : lv_args 0 As = lv)
    (body : ∀ (p : Program) (e : Env) (s : State) (m : MethodId) (args : Array Value) (below : List Frame) (meth : Method) (c : Code) (A : Nat → Prop) (Q : State → Prop), CallFix p m c cc nL s args wy y.cls → va_K D cl tys s → NWs nws s → EX A s s.heap → (∀ q, s.heap.size ≤ q → A q) →
      ThrH p l e rm s m args below meth c D cl A nL Q cc wy y.cls mc ms E post wn → OutH p l e rm s m args below meth c D cl A nL Q mc ms E post wn → J p l e rm s m args below meth c D cl A s.heap nL 0 0 Q wc lv 0 []) : Cx l y wy rm D cl tys nws As wc mc ms E post wn := by
  intro sz
  refine vx_ofW (cc := cc) (maxL := nL) (ret := ret) hy hw ?_
  intro p e s m args below meth c s₁ B hml ht hv
  obtain ⟨rfl, ⟨hsz, hP, hK, hD0, hN⟩, hE⟩ := hv
  subst hsz
  have h := lv_entry As (n := nL) hlen
  rw [lg_entry_eq]
  rw [hlv] at h
  have F : CallFix p m c cc nL s As.toArray wy y.cls := ⟨B.exec, B.bytes, hml, findClass_of_methodNamed B.named, atoms_spec (ws := wy) B.pre⟩
  have hlocks := B.notSynchronized
  refine body p e s m As.toArray below meth c (va_A wc s.heap.size) _ F hK hN hE (fun q h => Or.inr h) ?_ ?_ s.heap [] _ hP (hD0.self (sz := s.heap.size)) va_S.rf h
  · intro ws lv pc cells slots st ik is ic text names u d0 d3 d4 d6 d9 hfit hnames hk hini hstr hat hgood hRf hRl hRc hRs hc hs hws hpost H locs ls hP hD hS hl
    subst hws
    obtain ⟨z, hz⟩ := hstr
    refine vx_throwS F.1 F.2.1 hst F.2.2.2.1 hfit hnames (F.2.2.2.2 _ hk) (F.2.2.2.2 _ hini) hz hat hgood hE.1 hE.2.1 hS (hl.1.trans F.2.2.1.symm) d0 d3 d4 d6 d9 (fun x hx => (ht x hx).elim) hRf hRl hRc hRs hlocks (fun t ha h1 h2 => ?_) hS.2.2 hc hs
    exact ⟨u, hpost, ⟨rfl, hP.kept (fun k q hk => h2 q.1 (hP k q hk).lt), hD⟩, Nat.le_trans hS.1 h1, fun q hq hn => (h2 q (Nat.lt_of_lt_of_le hq hS.1)).trans (hS.2.1 q hq hn)⟩
  · intro ws lv pc cells slots u hc hs hws hpost H locs ls rest q ce hP hD hS hl hce hcv hcl
    subst hws
    exact vx_out (fun x hx => (ht x hx).elim) hlocks hce hcv hcl (fun t ht ha => ⟨u, hpost, ⟨rfl, by rw [ht]; exact hP, hD⟩, hS.F ht⟩) hS.2.2 hc hs
theorem j_goX {post : S → Prop} {wn : S → va_W} {wr : va_W} {st0 : List Value} {a : Array Value} (hA : ∀ q, s.heap.size ≤ q → A q) (isC isR : List Nat) (hC : isC.map (fun i => ws[i]?) = wc.map some) (hR : isR.map (fun i => ws[i]?) = wr.map some) (hn : va_nd isR = true) (hdis : ∀ i ∈ isR, i ∉ isC)
    (run : ∀ (H : Heap) (locs : List Loc) (ls : Array Slot), va_P D cl ws H → va_D A ws → va_S A s.heap H locs → lv_has ls nL lv → vx_Run p l e R s m args below meth c H locs cells slots mc ms (F0 m pc ls st0) st ((fun _ _ _ _ => False : Array Value → State → Outcome → State → Prop) a) (vx_X post (XEnd D cl (va_A wc H.size) E wn) (va_A wc H.size)) (va_A wc H.size))
    (k : ∀ (u : S), post u → JX p l e R s m args below meth c D cl A s.heap nL (cells + mc) (slots + ms) Q (wr ++ wn u) lv pc E) : J p l e R s m args below meth c D cl A s.heap nL cells slots Q ws lv pc st0 := by
  intro H locs ls hP hD hS hl
  have hFc := va_free hD hS hA isC hC
  intro T hT X
  rcases run H locs ls hP hD hS hl T hT X with ⟨v, st₀, t, T', L, h0, X', hL, e1, e2, hf, st⟩ | ⟨q, st₀, t, T', L, E', ce, h0, X', hL, e1, e2, ⟨u, hp, ⟨hE', hP1, hD1⟩, hF⟩, hce, hcv, hcl, st⟩
  · exact hf.elim
  · subst hE'
    obtain ⟨k1, k2, k3⟩ := vx_keep h0 e1 hS (fun q _ h => hFc q h) hFc hL hF
    rw [← e1] at hP1
    obtain ⟨hP2, hD2⟩ := va_join hP hD isC isR hC hR hn hdis k2 hFc hP1 hD1
    obtain ⟨t2, a1, b1⟩ := k u hp T'.heap (locs ++ L) ls _ q ce hP2 hD2 k3 hl (by rw [e1]; exact hce) hcv hcl T' rfl X'
    exact ⟨t2, st.trans a1, b1⟩
theorem pre_SX {H : Heap} {locs : List Loc} (hK : va_K D cl tys s) (hN : NWs nws s) (hE : EX A s s.heap) (hA : ∀ q, s.heap.size ≤ q → A q) (hP : va_P D cl ws H) (hD : va_D A ws) (hS : va_S A s.heap H locs) (isC : List Nat) (hC : isC.map (fun i => ws[i]?) = wc.map some) (hn : va_nd isC = true) : PreS s H (va_Pc As (XPre D cl tys nws wc H.size)) As :=
  ⟨XPre.blind, fun U hU hW => ⟨rfl, ⟨by rw [hU], by rw [hU]; exact hP.sub isC (sub_of hC), va_K.moved hW.alike hK, (hD.sub isC hn hC).weaken (fun _ _ _ _ => trivial), hN.warm hW⟩, hE.call hS (va_free hD hS hA isC hC) hU hW⟩⟩
theorem pre_VX {H : Heap} {locs : List Loc} {b : Nat} {As1 : List Value} (hAs : As = .ref b :: As1) (hK : va_K D cl tys s) (hN : NWs nws s) (hE : EX A s s.heap) (hA : ∀ q, s.heap.size ≤ q → A q) (hP : va_P D cl ws H) (hD : va_D A ws) (hS : va_S A s.heap H locs) (isC : List Nat) (hC : isC.map (fun i => ws[i]?) = wc.map some) (hn : va_nd isC = true) (q0 : Nat) {ci : Nat} {fs : List Value} (he : ws[q0]? = some (b, .inr (ci, fs))) {C : String} {T : u_T} {N : Nat} (hc : cl[ci]? = some (C, T, N)) : PreV s H C b (va_Pc As (XPre D cl tys nws wc H.size)) As1 := by
  subst hAs
  exact ⟨XPre.blind, va_recv hK hP hc he, fun U hU hW => ⟨rfl, ⟨by rw [hU], by rw [hU]; exact hP.sub isC (sub_of hC), va_K.moved hW.alike hK, (hD.sub isC hn hC).weaken (fun _ _ _ _ => trivial), hN.warm hW⟩, hE.call hS (va_free hD hS hA isC hC) hU hW⟩⟩
end MkX
end EXL
end
section
/-! The pure picture of the acts: X r i is the number in row r (0 kind, 1 a, 2 b, 3 VALID, 4 KNOWN) of act i; n acts. -/
abbrev AF : Type := Nat → Nat → Int32
def win (x lo hi : Int32) : Bool := decide (lo ≤ x) && decide (x ≤ hi)
/-- act i as it may have been told -/
def aok1 (X : AF) (i : Nat) : Prop :=
  (∃ v, v ≤ 10000 ∧ X 3 i = nI v) ∧ ((X 0 i = nI 0 ∧ (∃ a, a < 20 ∧ X 1 i = nI a) ∧ ∃ b, b < 100 ∧ X 2 i = nI b) ∨ (X 0 i = nI 1 ∧ ∃ a, a < 20 ∧ X 1 i = nI a) ∨ (X 0 i = nI 2 ∧ ∃ a, a < 10 ∧ X 1 i = nI a) ∨ (X 0 i = nI 3 ∧ ∃ a, a < 10 ∧ X 1 i = nI a) ∨
    (X 0 i = nI 4 ∧ (∃ a, a < 10 ∧ X 1 i = nI a) ∧ ∃ b, 1 ≤ b ∧ b ≤ 1000 ∧ X 2 i = nI b) ∨ (X 0 i = nI 5 ∧ ∃ a, a < i ∧ X 1 i = nI a))
def aok (X : AF) (n : Nat) : Prop := n ≤ 80 ∧ ∀ i, i < n → aok1 X i
/-- act j says that e is void, as known at k -/
def vdc (X : AF) (e : Nat) (k : Int32) (j : Nat) : Bool := decide (X 0 j = nI 5) && (decide (X 1 j = nI e) && decide (X 4 j ≤ k))
def vdB (X : AF) (n e : Nat) (k : Int32) : Bool := (List.range n).any (vdc X e k)
theorem vdB_t {X : AF} {n e : Nat} {k : Int32} {j : Nat} (hj : j < n) (h : vdc X e k j = true) : vdB X n e k = true := List.any_eq_true.mpr ⟨j, List.mem_range.mpr hj, h⟩
theorem vdB_f {X : AF} {n e : Nat} {k : Int32} (h : ∀ j, j < n → vdc X e k j = false) : vdB X n e k = false := by
  unfold vdB
  rw [List.any_eq_false]
  intro j hj
  rw [h j (List.mem_range.mp hj)]
  exact Bool.false_ne_true
theorem vdc_t {X : AF} {e : Nat} {k : Int32} {j : Nat} (h0 : X 0 j = nI 5) (h1 : X 1 j = nI e) (h4 : X 4 j ≤ k) : vdc X e k j = true := by
  unfold vdc; rw [decide_eq_true h0, decide_eq_true h1, decide_eq_true h4]; rfl
theorem vdc_f0 {X : AF} {e : Nat} {k : Int32} {j : Nat} (h0 : ¬ X 0 j = nI 5) : vdc X e k j = false := by
  unfold vdc; rw [decide_eq_false h0]; rfl
theorem vdc_f1 {X : AF} {e : Nat} {k : Int32} {j : Nat} (h0 : ¬ X 1 j = nI e) : vdc X e k j = false := by
  unfold vdc; rw [decide_eq_false h0, Bool.false_and, Bool.and_false]
theorem vdc_f4 {X : AF} {e : Nat} {k : Int32} {j : Nat} (h0 : ¬ X 4 j ≤ k) : vdc X e k j = false := by
  unfold vdc; rw [decide_eq_false h0, Bool.and_false, Bool.and_false]
/-- an act can only void an earlier one -/
theorem vdc_early {X : AF} {n e : Nat} {k : Int32} {j : Nat} (hA : aok X n) (hj : j < n) (hje : j ≤ e) (he : e < 2147483648) : vdc X e k j = false := by
  by_cases h5 : X 0 j = nI 5
  · obtain ⟨-, h⟩ := hA.2 j hj
    have h80 := hA.1
    rcases h with h | h | h | h | h | h
    · rw [h.1] at h5; exact absurd h5 (by decide)
    · rw [h.1] at h5; exact absurd h5 (by decide)
    · rw [h.1] at h5; exact absurd h5 (by decide)
    · rw [h.1] at h5; exact absurd h5 (by decide)
    · rw [h.1] at h5; exact absurd h5 (by decide)
    · obtain ⟨a, ha, e1⟩ := h.2
      refine vdc_f1 (fun e2 => ?_)
      rw [e1] at e2
      have := (nI_eq (a := a) (b := e) (by omega) he).mp e2
      omega
  · exact vdc_f0 h5
/-- act e is among those as of t and known at k -/
def hdB (X : AF) (n : Nat) (t k : Int32) (e : Nat) : Bool := !decide (X 0 e = nI 5) && (decide (X 3 e ≤ t) && (decide (X 4 e ≤ k) && !vdB X n e k))
/-- the order of two acts by VALID and KIND -/
def ahB (X : AF) (a b : Nat) : Bool := if X 3 a = X 3 b then decide (X 0 a < X 0 b) else decide (X 3 a < X 3 b)
/-- how many of 0 .. i - 1 are p -/
def cntB (p : Nat → Bool) : Nat → Nat
  | 0 => 0
  | i + 1 => cntB p i + cond (p i) 1 0
theorem cntB_le (p : Nat → Bool) (i : Nat) : cntB p i ≤ i := by
  induction i with
  | zero => exact Nat.le_refl _
  | succ i ih =>
    show cntB p i + cond (p i) 1 0 ≤ i + 1
    cases p i <;> simp <;> omega
/-- what can be told -/
def tellB (X : AF) (n : Nat) (kd a b : Int32) : Bool :=
  if kd = nI 0 then win a (nI 0) (nI 19) && win b (nI 0) (nI 99)
  else if kd = nI 1 then win a (nI 0) (nI 19) && decide (b = nI 0)
  else if kd = nI 2 then win a (nI 0) (nI 9) && win b (nI 0) (nI 5)
  else if kd = nI 3 then win a (nI 0) (nI 9) && win b (-1000000) 1000000
  else if kd = nI 4 then win a (nI 0) (nI 9) && win b (nI 1) (nI 1000)
  else if kd = nI 5 then (decide (nI 0 ≤ a) && decide (a < nI n)) && (!decide (X 0 a.toNatClampNeg = nI 5) && decide (b = nI 0))
  else false
end
section
theorem jn_no {x y : Int32} (h : x < y) (g : y ≤ x) : False := by
  rw [jn_lt] at h
  rw [jn_le] at g
  omega

def rm_X_isWithin : Room := { frames := 0, cells := 0, slots := 0, locals := 0 }
set_option maxHeartbeats 4000000 in
set_option maxRecDepth 100000 in
theorem ct_X_isWithin (l : Launch) (D : va_G) (cA : ClassId) (x lo hi : Int32) : Ci (S := Unit) l y_X_isWithin (Cond.code y_X_isWithin c_X_isWithin 3 (some .boolean) :: WD) rm_X_isWithin D vwCl [(cA, .int)] nws [.int x, .int lo, .int hi] [] 0 0 (fun r _ => r = bI (win x lo hi)) (fun _ => []) := by
  refine Ci.of (cc := c_X_isWithin) (nL := 3) (lv := [(0, .int x), (1, .int lo), (2, .int hi)]) (by decide) rfl (Nat.le_of_ble_eq_true rfl) rfl ?_
  intro p e s m args below meth cd A Q F hK hN hA ret
  refine j_iloadn F d_X_isWithin_0 0 rfl rfl ?_
  refine j_iloadn F d_X_isWithin_1 1 rfl rfl ?_
  refine j_ic_lt (tgt := 14) F d_X_isWithin_2 (by decide) (fun c_2 => ?_) (fun c_2 => ?_)
  · refine j_iconst (v := nI 0) F d_X_isWithin_14 (by decide) ?_
    exact ret _ _ _ _ _ _ () d_X_isWithin_15 rfl (by decide) (by decide) rfl (bI_f (by unfold win; rw [decide_eq_false (fun h => jn_no c_2 h)]; rfl))
  · refine j_iloadn F d_X_isWithin_5 0 rfl rfl ?_
    refine j_iloadn F d_X_isWithin_6 2 rfl rfl ?_
    refine j_ic_gt (tgt := 14) F d_X_isWithin_7 (by decide) (fun c_7 => ?_) (fun c_7 => ?_)
    · refine j_iconst (v := nI 0) F d_X_isWithin_14 (by decide) ?_
      exact ret _ _ _ _ _ _ () d_X_isWithin_15 rfl (by decide) (by decide) rfl (bI_f (by unfold win; rw [decide_eq_false (fun h => jn_no c_7 h), Bool.and_false]))
    · refine j_iconst (v := nI 1) F d_X_isWithin_10 (by decide) ?_
      refine j_goto (tgt := 15) F d_X_isWithin_11 (by decide) ?_
      exact ret _ _ _ _ _ _ () d_X_isWithin_15 rfl (by decide) (by decide) rfl (bI_t (by unfold win; rw [decide_eq_true (jn_nlt c_2), decide_eq_true (jn_nlt c_7)]; rfl))

def rm_X_isTime : Room := { frames := 1, cells := 0, slots := 0, locals := 22 }
set_option maxHeartbeats 4000000 in
set_option maxRecDepth 100000 in
theorem ct_X_isTime (l : Launch) (D : va_G) (cA : ClassId) (x : Int32) : Ci (S := Unit) l y_X_isTime (Cond.code y_X_isTime c_X_isTime 1 (some .boolean) :: WD) rm_X_isTime D vwCl [(cA, .int)] nws [.int x] [] 0 0 (fun r _ => r = bI (win x (nI 0) (nI 10000))) (fun _ => []) := by
  refine Ci.of (cc := c_X_isTime) (nL := 1) (lv := [(0, .int x)]) (by decide) rfl (Nat.le_of_ble_eq_true rfl) rfl ?_
  intro p e s m args below meth cd A Q F hK hN hA ret
  refine j_iloadn F d_X_isTime_0 0 rfl rfl ?_
  refine j_iconst (v := nI 0) F d_X_isTime_1 (by decide) ?_
  refine j_sipush (v := nI 10000) F d_X_isTime_2 (by decide) ?_
  refine j_goi (wc := []) (wr := []) hA [] [] rfl rfl (by decide) (by decide) (fun H locs ls hP hD hl => va_runS (As := [.int x, .int (nI 0), .int (nI 10000)]) (rest := []) F (ct_X_isWithin l D cA x (nI 0) (nI 10000) H.size) ⟨callB_of 3 F.2.2.2.2 (gd k_172) rfl rfl rfl (F.2.2.2.2 _ (wm k_1)) (F.2.2.2.2 _ (wm k_170)) (by decide +kernel) ⟨by decide, by decide⟩, F.2.2.2.2 _ (wm k_171)⟩ (pre_S hK hN hP hD [] rfl (by decide)) rfl rfl hl.1 rfl (lv_room (Nat.le_of_ble_eq_true rfl)) d_X_isTime_5 ⟨by decide, by decide⟩) (fun r5 u5 hw5 => ?_)
  subst hw5
  refine j_ws (ws' := []) [] (by decide) rfl ?_
  exact ret _ _ _ _ _ _ () d_X_isTime_8 (bI_nar _) (by decide) (by decide) rfl rfl

def rm_A_isFull : Room := { frames := 0, cells := 0, slots := 0, locals := 0 }
set_option maxHeartbeats 4000000 in
set_option maxRecDepth 100000 in
theorem ct_A_isFull (l : Launch) (D : va_G) (cA : ClassId) (a0 a1 a2 a3 a4 a5 : Nat) (X : AF) (n : Nat) (hn : n ≤ 80) : Ci (S := Unit) l y_A_isFull (Cond.code y_A_isFull c_A_isFull 1 (some .boolean) :: WD) rm_A_isFull D vwCl [(cA, .int)] nws [.ref a0] [(a0, .inr (0, [.ref a1, .ref a2, .ref a3, .ref a4, .ref a5, .int (nI n)])), (a1, .inl (cA, 80, .inl (X 0))), (a2, .inl (cA, 80, .inl (X 1))), (a3, .inl (cA, 80, .inl (X 2))), (a4, .inl (cA, 80, .inl (X 3))), (a5, .inl (cA, 80, .inl (X 4)))] 0 0 (fun r _ => r = bI (decide (80 ≤ n))) (fun _ => [(a0, .inr (0, [.ref a1, .ref a2, .ref a3, .ref a4, .ref a5, .int (nI n)])), (a1, .inl (cA, 80, .inl (X 0))), (a2, .inl (cA, 80, .inl (X 1))), (a3, .inl (cA, 80, .inl (X 2))), (a4, .inl (cA, 80, .inl (X 3))), (a5, .inl (cA, 80, .inl (X 4)))]) := by
  refine Ci.of (cc := c_A_isFull) (nL := 1) (lv := [(0, .ref a0)]) (by decide) rfl (Nat.le_of_ble_eq_true rfl) rfl ?_
  intro p e s m args below meth cd A Q F hK hN hA ret
  refine j_aloadn F d_A_isFull_0 0 rfl rfl ?_
  refine j_get (ci := 0) (v := .int (nI n)) F in_A hK 0 rfl rfl 5 (by decide) (wm k_47) rfl d_A_isFull_1 ?_
  refine j_bipush (v := nI 80) F d_A_isFull_4 (by decide) ?_
  refine j_ic_lt (tgt := 13) F d_A_isFull_6 (by decide) (fun c_6 => ?_) (fun c_6 => ?_)
  · have c_6 : n < 80 := (nI_ltI (by omega) (by omega)).mp c_6
    refine j_iconst (v := nI 0) F d_A_isFull_13 (by decide) ?_
    exact ret _ _ _ _ _ _ () d_A_isFull_14 rfl (by decide) (by decide) rfl (bI_f (decide_eq_false (by omega)))
  · have c_6 : ¬ n < 80 := fun h => c_6 ((nI_ltI (by omega) (by omega)).mpr h)
    refine j_iconst (v := nI 1) F d_A_isFull_9 (by decide) ?_
    refine j_goto (tgt := 14) F d_A_isFull_10 (by decide) ?_
    exact ret _ _ _ _ _ _ () d_A_isFull_14 rfl (by decide) (by decide) rfl (bI_t (decide_eq_true (by omega)))

def hasB (n : Nat) (a : Int32) : Bool := decide (nI 0 ≤ a) && decide (a < nI n)

def rm_A_has : Room := { frames := 0, cells := 0, slots := 0, locals := 0 }
set_option maxHeartbeats 4000000 in
set_option maxRecDepth 100000 in
theorem ct_A_has (l : Launch) (D : va_G) (cA : ClassId) (a0 a1 a2 a3 a4 a5 : Nat) (X : AF) (n : Nat) (hn : n ≤ 80) (x : Int32) : Ci (S := Unit) l y_A_has (Cond.code y_A_has c_A_has 2 (some .boolean) :: WD) rm_A_has D vwCl [(cA, .int)] nws [.ref a0, .int x] [(a0, .inr (0, [.ref a1, .ref a2, .ref a3, .ref a4, .ref a5, .int (nI n)])), (a1, .inl (cA, 80, .inl (X 0))), (a2, .inl (cA, 80, .inl (X 1))), (a3, .inl (cA, 80, .inl (X 2))), (a4, .inl (cA, 80, .inl (X 3))), (a5, .inl (cA, 80, .inl (X 4)))] 0 0 (fun r _ => r = bI (hasB n x)) (fun _ => [(a0, .inr (0, [.ref a1, .ref a2, .ref a3, .ref a4, .ref a5, .int (nI n)])), (a1, .inl (cA, 80, .inl (X 0))), (a2, .inl (cA, 80, .inl (X 1))), (a3, .inl (cA, 80, .inl (X 2))), (a4, .inl (cA, 80, .inl (X 3))), (a5, .inl (cA, 80, .inl (X 4)))]) := by
  refine Ci.of (cc := c_A_has) (nL := 2) (lv := [(0, .ref a0), (1, .int x)]) (by decide) rfl (Nat.le_of_ble_eq_true rfl) rfl ?_
  intro p e s m args below meth cd A Q F hK hN hA ret
  refine j_iloadn F d_A_has_0 1 rfl rfl ?_
  refine j_if_lt (tgt := 16) F d_A_has_1 (by decide) (fun c_1 => ?_) (fun c_1 => ?_)
  · refine j_iconst (v := nI 0) F d_A_has_16 (by decide) ?_
    exact ret _ _ _ _ _ _ () d_A_has_17 rfl (by decide) (by decide) rfl (bI_f (by unfold hasB; rw [decide_eq_false (fun h => jn_no c_1 h)]; rfl))
  · refine j_iloadn F d_A_has_4 1 rfl rfl ?_
    refine j_aloadn F d_A_has_5 0 rfl rfl ?_
    refine j_get (ci := 0) (v := .int (nI n)) F in_A hK 0 rfl rfl 5 (by decide) (wm k_47) rfl d_A_has_6 ?_
    refine j_ic_ge (tgt := 16) F d_A_has_9 (by decide) (fun c_9 => ?_) (fun c_9 => ?_)
    · refine j_iconst (v := nI 0) F d_A_has_16 (by decide) ?_
      exact ret _ _ _ _ _ _ () d_A_has_17 rfl (by decide) (by decide) rfl (bI_f (by unfold hasB; rw [decide_eq_false (fun h => jn_no h c_9), Bool.and_false]))
    · refine j_iconst (v := nI 1) F d_A_has_12 (by decide) ?_
      refine j_goto (tgt := 17) F d_A_has_13 (by decide) ?_
      exact ret _ _ _ _ _ _ () d_A_has_17 rfl (by decide) (by decide) rfl (bI_t (by unfold hasB; rw [decide_eq_true (jn_nlt c_1), decide_eq_true (jn_nle c_9)]; rfl))

def rm_A_isVoid : Room := { frames := 0, cells := 0, slots := 0, locals := 0 }
set_option maxHeartbeats 4000000 in
set_option maxRecDepth 100000 in
theorem ct_A_isVoid (l : Launch) (D : va_G) (cA : ClassId) (a0 a1 a2 a3 a4 a5 : Nat) (X : AF) (n : Nat) (hA0 : aok X n) (e0 : Nat) (he0 : e0 < n) (k : Int32) : Ci (S := Unit) l y_A_isVoid (Cond.code y_A_isVoid c_A_isVoid 4 (some .boolean) :: WD) rm_A_isVoid D vwCl [(cA, .int)] nws [.ref a0, .int (nI e0), .int k] [(a0, .inr (0, [.ref a1, .ref a2, .ref a3, .ref a4, .ref a5, .int (nI n)])), (a1, .inl (cA, 80, .inl (X 0))), (a2, .inl (cA, 80, .inl (X 1))), (a3, .inl (cA, 80, .inl (X 2))), (a4, .inl (cA, 80, .inl (X 3))), (a5, .inl (cA, 80, .inl (X 4)))] 0 0 (fun r _ => r = bI (vdB X n e0 k)) (fun _ => [(a0, .inr (0, [.ref a1, .ref a2, .ref a3, .ref a4, .ref a5, .int (nI n)])), (a1, .inl (cA, 80, .inl (X 0))), (a2, .inl (cA, 80, .inl (X 1))), (a3, .inl (cA, 80, .inl (X 2))), (a4, .inl (cA, 80, .inl (X 3))), (a5, .inl (cA, 80, .inl (X 4)))]) := by
  refine Ci.of (cc := c_A_isVoid) (nL := 4) (lv := [(0, .ref a0), (1, .int (nI e0)), (2, .int k)]) (by decide) rfl (Nat.le_of_ble_eq_true rfl) rfl ?_
  intro p e s m args below meth cd A Q F hK hN hA ret
  have h80 := hA0.1
  refine j_iloadn F d_A_isVoid_0 1 rfl rfl ?_
  refine j_iconst (v := nI 1) F d_A_isVoid_1 (by decide) ?_
  refine j_iadd (v := nI (e0 + 1)) F d_A_isVoid_2 (nI_add _ _) ?_
  refine j_istoren (lv' := [(3, .int (nI (e0 + 1))), (0, .ref a0), (1, .int (nI e0)), (2, .int k)]) F d_A_isVoid_3 rfl (by decide) rfl ?_
  have loop4 : ∀ (fuel : Nat) (j : Nat) (hfuel : n - j < fuel) (hj : e0 + 1 ≤ j) (hjn : j ≤ n) (hv : ∀ i, e0 < i → i < j → vdc X e0 k i = false), J p l e rm_A_isVoid s m args below meth cd D vwCl A s.heap 4 0 0 Q [(a0, .inr (0, [.ref a1, .ref a2, .ref a3, .ref a4, .ref a5, .int (nI n)])), (a1, .inl (cA, 80, .inl (X 0))), (a2, .inl (cA, 80, .inl (X 1))), (a3, .inl (cA, 80, .inl (X 2))), (a4, .inl (cA, 80, .inl (X 3))), (a5, .inl (cA, 80, .inl (X 4)))] [(0, .ref a0), (1, .int (nI e0)), (2, .int k), (3, .int (nI j))] 4 [] := by
    intro fuel
    induction fuel with
    | zero => intro j hfuel; exact absurd hfuel (Nat.not_lt_zero _)
    | succ fuel ih =>
      intro j hfuel hj hjn hv
      refine j_iloadn F d_A_isVoid_4 3 rfl rfl ?_
      refine j_aloadn F d_A_isVoid_5 0 rfl rfl ?_
      refine j_get (ci := 0) (v := .int (nI n)) F in_A hK 0 rfl rfl 5 (by decide) (wm k_47) rfl d_A_isVoid_6 ?_
      refine j_ic_ge (tgt := 50) F d_A_isVoid_9 (by decide) (fun c_9 => ?_) (fun c_9 => ?_)
      · have c_9 : n ≤ j := (nI_leI (by omega) (by omega)).mp c_9
        refine j_iconst (v := nI 0) F d_A_isVoid_50 (by decide) ?_
        exact ret _ _ _ _ _ _ () d_A_isVoid_51 rfl (by decide) (by decide) rfl (bI_f (vdB_f (fun i hi => by
          by_cases hie : i ≤ e0
          · exact vdc_early hA0 hi hie (by omega)
          · exact hv i (by omega) (by omega))))
      · have c_9 : ¬ n ≤ j := fun h => c_9 ((nI_leI (by omega) (by omega)).mpr h)
        refine j_aloadn F d_A_isVoid_12 0 rfl rfl ?_
        refine j_get (ci := 0) (v := .ref a1) F in_A hK 0 rfl rfl 0 (by decide) (wm k_30) rfl d_A_isVoid_13 ?_
        refine j_iloadn F d_A_isVoid_16 3 rfl rfl ?_
        refine j_iald (v := (X 0) j) F hK 1 0 rfl rfl (by omega) (by decide) d_A_isVoid_17 rfl ?_
        refine j_iconst (v := nI 5) F d_A_isVoid_18 (by decide) ?_
        refine j_ic_ne (tgt := 44) F d_A_isVoid_19 (by decide) (fun c_19 => ?_) (fun c_19 => ?_)
        · refine j_iinc (v := nI (j + 1)) (lv' := [(3, .int (nI (j + 1))), (0, .ref a0), (1, .int (nI e0)), (2, .int k)]) F d_A_isVoid_44 3 rfl (jn_inc j) (by decide) rfl ?_
          refine j_goto (tgt := 4) F d_A_isVoid_47 (by decide) ?_
          refine j_lv (lv' := [(0, .ref a0), (1, .int (nI e0)), (2, .int k), (3, .int (nI (j + 1)))]) [1, 2, 3, 0] rfl ?_
          exact ih (j + 1) (by omega) (by omega) (by omega) (fun i h1 h2 => by
            by_cases hij : i = j
            · subst hij; exact vdc_f0 c_19
            · exact hv i h1 (by omega))
        · refine j_aloadn F d_A_isVoid_22 0 rfl rfl ?_
          refine j_get (ci := 0) (v := .ref a2) F in_A hK 0 rfl rfl 1 (by decide) (wm k_34) rfl d_A_isVoid_23 ?_
          refine j_iloadn F d_A_isVoid_26 3 rfl rfl ?_
          refine j_iald (v := (X 1) j) F hK 2 0 rfl rfl (by omega) (by decide) d_A_isVoid_27 rfl ?_
          refine j_iloadn F d_A_isVoid_28 1 rfl rfl ?_
          refine j_ic_ne (tgt := 44) F d_A_isVoid_29 (by decide) (fun c_29 => ?_) (fun c_29 => ?_)
          · refine j_iinc (v := nI (j + 1)) (lv' := [(3, .int (nI (j + 1))), (0, .ref a0), (1, .int (nI e0)), (2, .int k)]) F d_A_isVoid_44 3 rfl (jn_inc j) (by decide) rfl ?_
            refine j_goto (tgt := 4) F d_A_isVoid_47 (by decide) ?_
            refine j_lv (lv' := [(0, .ref a0), (1, .int (nI e0)), (2, .int k), (3, .int (nI (j + 1)))]) [1, 2, 3, 0] rfl ?_
            exact ih (j + 1) (by omega) (by omega) (by omega) (fun i h1 h2 => by
              by_cases hij : i = j
              · subst hij; exact vdc_f1 c_29
              · exact hv i h1 (by omega))
          · refine j_aloadn F d_A_isVoid_32 0 rfl rfl ?_
            refine j_get (ci := 0) (v := .ref a5) F in_A hK 0 rfl rfl 4 (by decide) (wm k_45) rfl d_A_isVoid_33 ?_
            refine j_iloadn F d_A_isVoid_36 3 rfl rfl ?_
            refine j_iald (v := (X 4) j) F hK 5 0 rfl rfl (by omega) (by decide) d_A_isVoid_37 rfl ?_
            refine j_iloadn F d_A_isVoid_38 2 rfl rfl ?_
            refine j_ic_gt (tgt := 44) F d_A_isVoid_39 (by decide) (fun c_39 => ?_) (fun c_39 => ?_)
            · refine j_iinc (v := nI (j + 1)) (lv' := [(3, .int (nI (j + 1))), (0, .ref a0), (1, .int (nI e0)), (2, .int k)]) F d_A_isVoid_44 3 rfl (jn_inc j) (by decide) rfl ?_
              refine j_goto (tgt := 4) F d_A_isVoid_47 (by decide) ?_
              refine j_lv (lv' := [(0, .ref a0), (1, .int (nI e0)), (2, .int k), (3, .int (nI (j + 1)))]) [1, 2, 3, 0] rfl ?_
              exact ih (j + 1) (by omega) (by omega) (by omega) (fun i h1 h2 => by
                by_cases hij : i = j
                · subst hij; exact vdc_f4 (fun h => jn_no c_39 h)
                · exact hv i h1 (by omega))
            · refine j_iconst (v := nI 1) F d_A_isVoid_42 (by decide) ?_
              exact ret _ _ _ _ _ _ () d_A_isVoid_43 rfl (by decide) (by decide) rfl (bI_t (vdB_t (by omega) (vdc_t c_19 c_29 (jn_nlt c_39))))
  refine j_lv (lv' := [(0, .ref a0), (1, .int (nI e0)), (2, .int k), (3, .int (nI (e0 + 1)))]) [1, 2, 3, 0] rfl ?_
  exact loop4 (n - (e0 + 1) + 1) (e0 + 1) (by omega) (by omega) (by omega) (fun i h1 h2 => by omega)

def rm_A_voidsAsKnown : Room := { frames := 1, cells := 0, slots := 0, locals := 23 }
set_option maxHeartbeats 4000000 in
set_option maxRecDepth 100000 in
theorem ct_A_voidsAsKnown (l : Launch) (D : va_G) (cA : ClassId) (a0 a1 a2 a3 a4 a5 : Nat) (X : AF) (n : Nat) (hA0 : aok X n) (k : Int32) : Ci (S := Unit) l y_A_voidsAsKnown (Cond.code y_A_voidsAsKnown c_A_voidsAsKnown 4 (some .int) :: WD) rm_A_voidsAsKnown D vwCl [(cA, .int)] nws [.ref a0, .int k] [(a0, .inr (0, [.ref a1, .ref a2, .ref a3, .ref a4, .ref a5, .int (nI n)])), (a1, .inl (cA, 80, .inl (X 0))), (a2, .inl (cA, 80, .inl (X 1))), (a3, .inl (cA, 80, .inl (X 2))), (a4, .inl (cA, 80, .inl (X 3))), (a5, .inl (cA, 80, .inl (X 4)))] 0 0 (fun r _ => r = nI (cntB (fun j => vdB X n j k) n)) (fun _ => [(a0, .inr (0, [.ref a1, .ref a2, .ref a3, .ref a4, .ref a5, .int (nI n)])), (a1, .inl (cA, 80, .inl (X 0))), (a2, .inl (cA, 80, .inl (X 1))), (a3, .inl (cA, 80, .inl (X 2))), (a4, .inl (cA, 80, .inl (X 3))), (a5, .inl (cA, 80, .inl (X 4)))]) := by
  refine Ci.of (cc := c_A_voidsAsKnown) (nL := 4) (lv := [(0, .ref a0), (1, .int k)]) (by decide) rfl (Nat.le_of_ble_eq_true rfl) rfl ?_
  intro p e s m args below meth cd A Q F hK hN hA ret
  have h80 := hA0.1
  refine j_iconst (v := nI 0) F d_A_voidsAsKnown_0 (by decide) ?_
  refine j_istoren (lv' := [(2, .int (nI 0)), (0, .ref a0), (1, .int k)]) F d_A_voidsAsKnown_1 rfl (by decide) rfl ?_
  refine j_iconst (v := nI 0) F d_A_voidsAsKnown_2 (by decide) ?_
  refine j_istoren (lv' := [(3, .int (nI 0)), (2, .int (nI 0)), (0, .ref a0), (1, .int k)]) F d_A_voidsAsKnown_3 rfl (by decide) rfl ?_
  have loop4 : ∀ (fuel : Nat) (i : Nat) (hfuel : n - i < fuel) (hi : i ≤ n), J p l e rm_A_voidsAsKnown s m args below meth cd D vwCl A s.heap 4 0 0 Q [(a0, .inr (0, [.ref a1, .ref a2, .ref a3, .ref a4, .ref a5, .int (nI n)])), (a1, .inl (cA, 80, .inl (X 0))), (a2, .inl (cA, 80, .inl (X 1))), (a3, .inl (cA, 80, .inl (X 2))), (a4, .inl (cA, 80, .inl (X 3))), (a5, .inl (cA, 80, .inl (X 4)))] [(0, .ref a0), (1, .int k), (2, .int (nI (cntB (fun j => vdB X n j k) i))), (3, .int (nI i))] 4 [] := by
    intro fuel
    induction fuel with
    | zero => intro i hfuel; exact absurd hfuel (Nat.not_lt_zero _)
    | succ fuel ih =>
      intro i hfuel hi
      refine j_iloadn F d_A_voidsAsKnown_4 3 rfl rfl ?_
      refine j_aloadn F d_A_voidsAsKnown_5 0 rfl rfl ?_
      refine j_get (ci := 0) (v := .int (nI n)) F in_A hK 0 rfl rfl 5 (by decide) (wm k_47) rfl d_A_voidsAsKnown_6 ?_
      refine j_ic_ge (tgt := 30) F d_A_voidsAsKnown_9 (by decide) (fun c_9 => ?_) (fun c_9 => ?_)
      · have c_9 : n ≤ i := (nI_leI (by omega) (by omega)).mp c_9
        have hin : i = n := by omega
        subst hin
        refine j_iloadn F d_A_voidsAsKnown_30 2 rfl rfl ?_
        exact ret _ _ _ _ _ _ () d_A_voidsAsKnown_31 rfl (by decide) (by decide) rfl rfl
      · have c_9 : ¬ n ≤ i := fun h => c_9 ((nI_leI (by omega) (by omega)).mpr h)
        refine j_aloadn F d_A_voidsAsKnown_12 0 rfl rfl ?_
        refine j_iloadn F d_A_voidsAsKnown_13 3 rfl rfl ?_
        refine j_iloadn F d_A_voidsAsKnown_14 1 rfl rfl ?_
        refine j_goi (wc := [(a0, .inr (0, [.ref a1, .ref a2, .ref a3, .ref a4, .ref a5, .int (nI n)])), (a1, .inl (cA, 80, .inl (X 0))), (a2, .inl (cA, 80, .inl (X 1))), (a3, .inl (cA, 80, .inl (X 2))), (a4, .inl (cA, 80, .inl (X 3))), (a5, .inl (cA, 80, .inl (X 4)))]) (wr := []) hA [0, 1, 2, 3, 4, 5] [] rfl rfl (by decide) (by decide) (fun H locs ls hP hD hl => va_runV (As := [.int (nI i), .int k]) (rest := []) F (ct_A_isVoid l D cA a0 a1 a2 a3 a4 a5 X n hA0 i (by omega) k H.size) ⟨callB_of 2 F.2.2.2.2 (gd k_204) rfl rfl rfl (F.2.2.2.2 _ (wm k_2)) (F.2.2.2.2 _ (wm k_201)) (by decide +kernel) ⟨by decide, by decide⟩, F.2.2.2.2 _ (wm k_203), F.2.2.2.2 _ (wm ks_5)⟩ (pre_V rfl hK hN hP hD [0, 1, 2, 3, 4, 5] rfl (by decide) 0 rfl rfl) rfl rfl hl.1 rfl (lv_room (Nat.le_of_ble_eq_true rfl)) d_A_voidsAsKnown_15 ⟨by decide, by decide⟩) (fun r15 u15 hw15 => ?_)
        subst hw15
        refine j_ws (ws' := [(a0, .inr (0, [.ref a1, .ref a2, .ref a3, .ref a4, .ref a5, .int (nI n)])), (a1, .inl (cA, 80, .inl (X 0))), (a2, .inl (cA, 80, .inl (X 1))), (a3, .inl (cA, 80, .inl (X 2))), (a4, .inl (cA, 80, .inl (X 3))), (a5, .inl (cA, 80, .inl (X 4)))]) [0, 1, 2, 3, 4, 5] (by decide) rfl ?_
        refine j_if_eq (tgt := 24) F d_A_voidsAsKnown_18 (by decide) (fun c_18 => ?_) (fun c_18 => ?_)
        · have hb := bI_0 c_18
          have hc : cntB (fun j => vdB X n j k) (i + 1) = cntB (fun j => vdB X n j k) i := by show _ + cond (vdB X n i k) 1 0 = _; rw [hb]; rfl
          rw [← hc]
          refine j_iinc (v := nI (i + 1)) (lv' := [(3, .int (nI (i + 1))), (0, .ref a0), (1, .int k), (2, .int (nI (cntB (fun j => vdB X n j k) (i + 1))))]) F d_A_voidsAsKnown_24 3 rfl (jn_inc i) (by decide) rfl ?_
          refine j_goto (tgt := 4) F d_A_voidsAsKnown_27 (by decide) ?_
          refine j_lv (lv' := [(0, .ref a0), (1, .int k), (2, .int (nI (cntB (fun j => vdB X n j k) (i + 1)))), (3, .int (nI (i + 1)))]) [1, 2, 3, 0] rfl ?_
          exact ih (i + 1) (by omega) (by omega)
        · have hb := bI_1 c_18
          have hc : cntB (fun j => vdB X n j k) (i + 1) = cntB (fun j => vdB X n j k) i + 1 := by show _ + cond (vdB X n i k) 1 0 = _; rw [hb]; rfl
          refine j_iinc (v := nI (cntB (fun j => vdB X n j k) (i + 1))) (lv' := [(2, .int (nI (cntB (fun j => vdB X n j k) (i + 1)))), (0, .ref a0), (1, .int k), (3, .int (nI i))]) F d_A_voidsAsKnown_21 2 rfl (by rw [hc]; exact jn_inc _) (by decide) rfl ?_
          refine j_iinc (v := nI (i + 1)) (lv' := [(3, .int (nI (i + 1))), (2, .int (nI (cntB (fun j => vdB X n j k) (i + 1)))), (0, .ref a0), (1, .int k)]) F d_A_voidsAsKnown_24 3 rfl (jn_inc i) (by decide) rfl ?_
          refine j_goto (tgt := 4) F d_A_voidsAsKnown_27 (by decide) ?_
          refine j_lv (lv' := [(0, .ref a0), (1, .int k), (2, .int (nI (cntB (fun j => vdB X n j k) (i + 1)))), (3, .int (nI (i + 1)))]) [2, 3, 1, 0] rfl ?_
          exact ih (i + 1) (by omega) (by omega)
  refine j_lv (lv' := [(0, .ref a0), (1, .int k), (2, .int (nI 0)), (3, .int (nI 0))]) [2, 3, 1, 0] rfl ?_
  exact loop4 (n + 1) 0 (by omega) (by omega)

def rm_A_holds : Room := { frames := 1, cells := 0, slots := 0, locals := 23 }
set_option maxHeartbeats 4000000 in
set_option maxRecDepth 100000 in
theorem ct_A_holds (l : Launch) (D : va_G) (cA : ClassId) (a0 a1 a2 a3 a4 a5 : Nat) (X : AF) (n : Nat) (hA0 : aok X n) (e0 : Nat) (he0 : e0 < n) (t k : Int32) : Ci (S := Unit) l y_A_holds (Cond.code y_A_holds c_A_holds 4 (some .boolean) :: WD) rm_A_holds D vwCl [(cA, .int)] nws [.ref a0, .int (nI e0), .int t, .int k] [(a0, .inr (0, [.ref a1, .ref a2, .ref a3, .ref a4, .ref a5, .int (nI n)])), (a1, .inl (cA, 80, .inl (X 0))), (a2, .inl (cA, 80, .inl (X 1))), (a3, .inl (cA, 80, .inl (X 2))), (a4, .inl (cA, 80, .inl (X 3))), (a5, .inl (cA, 80, .inl (X 4)))] 0 0 (fun r _ => r = bI (hdB X n t k e0)) (fun _ => [(a0, .inr (0, [.ref a1, .ref a2, .ref a3, .ref a4, .ref a5, .int (nI n)])), (a1, .inl (cA, 80, .inl (X 0))), (a2, .inl (cA, 80, .inl (X 1))), (a3, .inl (cA, 80, .inl (X 2))), (a4, .inl (cA, 80, .inl (X 3))), (a5, .inl (cA, 80, .inl (X 4)))]) := by
  refine Ci.of (cc := c_A_holds) (nL := 4) (lv := [(0, .ref a0), (1, .int (nI e0)), (2, .int t), (3, .int k)]) (by decide) rfl (Nat.le_of_ble_eq_true rfl) rfl ?_
  intro p e s m args below meth cd A Q F hK hN hA ret
  have h80 := hA0.1
  refine j_aloadn F d_A_holds_0 0 rfl rfl ?_
  refine j_get (ci := 0) (v := .ref a1) F in_A hK 0 rfl rfl 0 (by decide) (wm k_30) rfl d_A_holds_1 ?_
  refine j_iloadn F d_A_holds_4 1 rfl rfl ?_
  refine j_iald (v := (X 0) e0) F hK 1 0 rfl rfl (by omega) (by decide) d_A_holds_5 rfl ?_
  refine j_iconst (v := nI 5) F d_A_holds_6 (by decide) ?_
  refine j_ic_eq (tgt := 43) F d_A_holds_7 (by decide) (fun c_7 => ?_) (fun c_7 => ?_)
  · refine j_iconst (v := nI 0) F d_A_holds_43 (by decide) ?_
    exact ret _ _ _ _ _ _ () d_A_holds_44 rfl (by decide) (by decide) rfl (bI_f (by unfold hdB; rw [decide_eq_true c_7]; rfl))
  · refine j_aloadn F d_A_holds_10 0 rfl rfl ?_
    refine j_get (ci := 0) (v := .ref a4) F in_A hK 0 rfl rfl 3 (by decide) (wm k_42) rfl d_A_holds_11 ?_
    refine j_iloadn F d_A_holds_14 1 rfl rfl ?_
    refine j_iald (v := (X 3) e0) F hK 4 0 rfl rfl (by omega) (by decide) d_A_holds_15 rfl ?_
    refine j_iloadn F d_A_holds_16 2 rfl rfl ?_
    refine j_ic_gt (tgt := 43) F d_A_holds_17 (by decide) (fun c_17 => ?_) (fun c_17 => ?_)
    · refine j_iconst (v := nI 0) F d_A_holds_43 (by decide) ?_
      exact ret _ _ _ _ _ _ () d_A_holds_44 rfl (by decide) (by decide) rfl (bI_f (by unfold hdB; rw [decide_eq_false (fun h => jn_no c_17 h), Bool.false_and, Bool.and_false]))
    · refine j_aloadn F d_A_holds_20 0 rfl rfl ?_
      refine j_get (ci := 0) (v := .ref a5) F in_A hK 0 rfl rfl 4 (by decide) (wm k_45) rfl d_A_holds_21 ?_
      refine j_iloadn F d_A_holds_24 1 rfl rfl ?_
      refine j_iald (v := (X 4) e0) F hK 5 0 rfl rfl (by omega) (by decide) d_A_holds_25 rfl ?_
      refine j_iloadn F d_A_holds_26 3 rfl rfl ?_
      refine j_ic_gt (tgt := 43) F d_A_holds_27 (by decide) (fun c_27 => ?_) (fun c_27 => ?_)
      · refine j_iconst (v := nI 0) F d_A_holds_43 (by decide) ?_
        exact ret _ _ _ _ _ _ () d_A_holds_44 rfl (by decide) (by decide) rfl (bI_f (by unfold hdB; rw [decide_eq_false (p := X 4 e0 ≤ k) (fun h => jn_no c_27 h), Bool.false_and, Bool.and_false, Bool.and_false]))
      · refine j_aloadn F d_A_holds_30 0 rfl rfl ?_
        refine j_iloadn F d_A_holds_31 1 rfl rfl ?_
        refine j_iloadn F d_A_holds_32 3 rfl rfl ?_
        refine j_goi (wc := [(a0, .inr (0, [.ref a1, .ref a2, .ref a3, .ref a4, .ref a5, .int (nI n)])), (a1, .inl (cA, 80, .inl (X 0))), (a2, .inl (cA, 80, .inl (X 1))), (a3, .inl (cA, 80, .inl (X 2))), (a4, .inl (cA, 80, .inl (X 3))), (a5, .inl (cA, 80, .inl (X 4)))]) (wr := []) hA [0, 1, 2, 3, 4, 5] [] rfl rfl (by decide) (by decide) (fun H locs ls hP hD hl => va_runV (As := [.int (nI e0), .int k]) (rest := []) F (ct_A_isVoid l D cA a0 a1 a2 a3 a4 a5 X n hA0 e0 (by omega) k H.size) ⟨callB_of 2 F.2.2.2.2 (gd k_204) rfl rfl rfl (F.2.2.2.2 _ (wm k_2)) (F.2.2.2.2 _ (wm k_201)) (by decide +kernel) ⟨by decide, by decide⟩, F.2.2.2.2 _ (wm k_203), F.2.2.2.2 _ (wm ks_5)⟩ (pre_V rfl hK hN hP hD [0, 1, 2, 3, 4, 5] rfl (by decide) 0 rfl rfl) rfl rfl hl.1 rfl (lv_room (Nat.le_of_ble_eq_true rfl)) d_A_holds_33 ⟨by decide, by decide⟩) (fun r33 u33 hw33 => ?_)
        subst hw33
        refine j_ws (ws' := [(a0, .inr (0, [.ref a1, .ref a2, .ref a3, .ref a4, .ref a5, .int (nI n)])), (a1, .inl (cA, 80, .inl (X 0))), (a2, .inl (cA, 80, .inl (X 1))), (a3, .inl (cA, 80, .inl (X 2))), (a4, .inl (cA, 80, .inl (X 3))), (a5, .inl (cA, 80, .inl (X 4)))]) [0, 1, 2, 3, 4, 5] (by decide) rfl ?_
        refine j_if_ne (tgt := 43) F d_A_holds_36 (by decide) (fun c_36 => ?_) (fun c_36 => ?_)
        · refine j_iconst (v := nI 0) F d_A_holds_43 (by decide) ?_
          exact ret _ _ _ _ _ _ () d_A_holds_44 rfl (by decide) (by decide) rfl (bI_f (by unfold hdB; rw [bI_1 c_36, Bool.not_true, Bool.and_false, Bool.and_false, Bool.and_false]))
        · refine j_iconst (v := nI 1) F d_A_holds_39 (by decide) ?_
          refine j_goto (tgt := 44) F d_A_holds_40 (by decide) ?_
          exact ret _ _ _ _ _ _ () d_A_holds_44 rfl (by decide) (by decide) rfl (bI_t (by unfold hdB; rw [decide_eq_false c_7, decide_eq_true (jn_nlt c_17), decide_eq_true (jn_nlt c_27), bI_0 c_36]; rfl))

def rm_A_goesAhead : Room := { frames := 0, cells := 0, slots := 0, locals := 0 }
set_option maxHeartbeats 4000000 in
set_option maxRecDepth 100000 in
theorem ct_A_goesAhead (l : Launch) (D : va_G) (cA : ClassId) (a0 a1 a2 a3 a4 a5 : Nat) (X : AF) (n : Nat) (hn : n ≤ 80) (x y : Nat) (hx : x < n) (hy : y < n) : Ci (S := Unit) l y_A_goesAhead (Cond.code y_A_goesAhead c_A_goesAhead 3 (some .boolean) :: WD) rm_A_goesAhead D vwCl [(cA, .int)] nws [.ref a0, .int (nI x), .int (nI y)] [(a0, .inr (0, [.ref a1, .ref a2, .ref a3, .ref a4, .ref a5, .int (nI n)])), (a1, .inl (cA, 80, .inl (X 0))), (a2, .inl (cA, 80, .inl (X 1))), (a3, .inl (cA, 80, .inl (X 2))), (a4, .inl (cA, 80, .inl (X 3))), (a5, .inl (cA, 80, .inl (X 4)))] 0 0 (fun r _ => r = bI (ahB X x y)) (fun _ => [(a0, .inr (0, [.ref a1, .ref a2, .ref a3, .ref a4, .ref a5, .int (nI n)])), (a1, .inl (cA, 80, .inl (X 0))), (a2, .inl (cA, 80, .inl (X 1))), (a3, .inl (cA, 80, .inl (X 2))), (a4, .inl (cA, 80, .inl (X 3))), (a5, .inl (cA, 80, .inl (X 4)))]) := by
  refine Ci.of (cc := c_A_goesAhead) (nL := 3) (lv := [(0, .ref a0), (1, .int (nI x)), (2, .int (nI y))]) (by decide) rfl (Nat.le_of_ble_eq_true rfl) rfl ?_
  intro p e s m args below meth cd A Q F hK hN hA ret
  refine j_aloadn F d_A_goesAhead_0 0 rfl rfl ?_
  refine j_get (ci := 0) (v := .ref a4) F in_A hK 0 rfl rfl 3 (by decide) (wm k_42) rfl d_A_goesAhead_1 ?_
  refine j_iloadn F d_A_goesAhead_4 1 rfl rfl ?_
  refine j_iald (v := (X 3) x) F hK 4 0 rfl rfl (by omega) (by decide) d_A_goesAhead_5 rfl ?_
  refine j_aloadn F d_A_goesAhead_6 0 rfl rfl ?_
  refine j_get (ci := 0) (v := .ref a4) F in_A hK 0 rfl rfl 3 (by decide) (wm k_42) rfl d_A_goesAhead_7 ?_
  refine j_iloadn F d_A_goesAhead_10 2 rfl rfl ?_
  refine j_iald (v := (X 3) y) F hK 4 0 rfl rfl (by omega) (by decide) d_A_goesAhead_11 rfl ?_
  refine j_ic_eq (tgt := 36) F d_A_goesAhead_12 (by decide) (fun c_12 => ?_) (fun c_12 => ?_)
  · refine j_aloadn F d_A_goesAhead_36 0 rfl rfl ?_
    refine j_get (ci := 0) (v := .ref a1) F in_A hK 0 rfl rfl 0 (by decide) (wm k_30) rfl d_A_goesAhead_37 ?_
    refine j_iloadn F d_A_goesAhead_40 1 rfl rfl ?_
    refine j_iald (v := (X 0) x) F hK 1 0 rfl rfl (by omega) (by decide) d_A_goesAhead_41 rfl ?_
    refine j_aloadn F d_A_goesAhead_42 0 rfl rfl ?_
    refine j_get (ci := 0) (v := .ref a1) F in_A hK 0 rfl rfl 0 (by decide) (wm k_30) rfl d_A_goesAhead_43 ?_
    refine j_iloadn F d_A_goesAhead_46 2 rfl rfl ?_
    refine j_iald (v := (X 0) y) F hK 1 0 rfl rfl (by omega) (by decide) d_A_goesAhead_47 rfl ?_
    refine j_ic_ge (tgt := 55) F d_A_goesAhead_48 (by decide) (fun c_48 => ?_) (fun c_48 => ?_)
    · refine j_iconst (v := nI 0) F d_A_goesAhead_55 (by decide) ?_
      exact ret _ _ _ _ _ _ () d_A_goesAhead_56 rfl (by decide) (by decide) rfl (bI_f (by unfold ahB; rw [if_pos c_12]; exact decide_eq_false (fun h => jn_no h c_48)))
    · refine j_iconst (v := nI 1) F d_A_goesAhead_51 (by decide) ?_
      refine j_goto (tgt := 56) F d_A_goesAhead_52 (by decide) ?_
      exact ret _ _ _ _ _ _ () d_A_goesAhead_56 rfl (by decide) (by decide) rfl (bI_t (by unfold ahB; rw [if_pos c_12]; exact decide_eq_true (jn_nle c_48)))
  · refine j_aloadn F d_A_goesAhead_15 0 rfl rfl ?_
    refine j_get (ci := 0) (v := .ref a4) F in_A hK 0 rfl rfl 3 (by decide) (wm k_42) rfl d_A_goesAhead_16 ?_
    refine j_iloadn F d_A_goesAhead_19 1 rfl rfl ?_
    refine j_iald (v := (X 3) x) F hK 4 0 rfl rfl (by omega) (by decide) d_A_goesAhead_20 rfl ?_
    refine j_aloadn F d_A_goesAhead_21 0 rfl rfl ?_
    refine j_get (ci := 0) (v := .ref a4) F in_A hK 0 rfl rfl 3 (by decide) (wm k_42) rfl d_A_goesAhead_22 ?_
    refine j_iloadn F d_A_goesAhead_25 2 rfl rfl ?_
    refine j_iald (v := (X 3) y) F hK 4 0 rfl rfl (by omega) (by decide) d_A_goesAhead_26 rfl ?_
    refine j_ic_ge (tgt := 34) F d_A_goesAhead_27 (by decide) (fun c_27 => ?_) (fun c_27 => ?_)
    · refine j_iconst (v := nI 0) F d_A_goesAhead_34 (by decide) ?_
      exact ret _ _ _ _ _ _ () d_A_goesAhead_35 rfl (by decide) (by decide) rfl (bI_f (by unfold ahB; rw [if_neg c_12]; exact decide_eq_false (fun h => jn_no h c_27)))
    · refine j_iconst (v := nI 1) F d_A_goesAhead_30 (by decide) ?_
      refine j_goto (tgt := 35) F d_A_goesAhead_31 (by decide) ?_
      exact ret _ _ _ _ _ _ () d_A_goesAhead_35 rfl (by decide) (by decide) rfl (bI_t (by unfold ahB; rw [if_neg c_12]; exact decide_eq_true (jn_nle c_27)))
end
section
theorem cell_ext {cA : ClassId} {n : Nat} {f g : Nat → Int32} (h : ∀ i, i < n → f i = g i) : vp_cell cA (n, .inl f) = vp_cell cA (n, .inl g) := by
  show arrV cA n (fun j => .int (f j)) = arrV cA n (fun j => .int (g j))
  unfold arrV
  have e : (fun j : Fin n => Value.int (f j.val)) = fun j : Fin n => Value.int (g j.val) := funext fun j => by rw [h j.val j.isLt]
  rw [e]
section JX
variable {p : Program} {l : Launch} {e : Env} {R : Room} {s : State} {m : MethodId} {args : Array Value} {below : List Frame} {meth : Method} {c : Code} {Q : State → Prop} {D : va_G} {cl : List vw_C} {A : Nat → Prop} {H0 : Heap} {nL cells slots : Nat}
variable {ws ws' : va_W} {lv : List (Nat × Value)} {pc : Nat} {st : List Value}
/-- an array's contents count below its length alone -/
theorem j_ext (q0 : Nat) {a : Nat} {cA : ClassId} {n : Nat} {f g : Nat → Int32} (he : ws[q0]? = some (a, .inl (cA, n, .inl f))) (h : ∀ i, i < n → f i = g i) (hw : ws.set q0 (a, .inl (cA, n, .inl g)) = ws')
    (k : J p l e R s m args below meth c D cl A H0 nL cells slots Q ws' lv pc st) : J p l e R s m args below meth c D cl A H0 nL cells slots Q ws lv pc st := by
  intro H locs ls hP hD hS hl
  refine k H locs ls ?_ (hw ▸ hD.set he) hS hl
  rw [← hw]
  refine hP.set hD he ?_ (fun _ _ => rfl)
  have h1 : H[a]? = some (vp_cell cA (n, .inl f)) := hP q0 _ he
  show H[a]? = some (vp_cell cA (n, .inl g))
  rw [← cell_ext h]
  exact h1
end JX
/-! what can be told, kind by kind -/
theorem tell0 {X : AF} {n : Nat} {kd a b : Int32} (h : kd = nI 0) : tellB X n kd a b = (win a (nI 0) (nI 19) && win b (nI 0) (nI 99)) := by unfold tellB; rw [if_pos h]
theorem tell1 {X : AF} {n : Nat} {kd a b : Int32} (h : kd = nI 1) : tellB X n kd a b = (win a (nI 0) (nI 19) && decide (b = nI 0)) := by unfold tellB; rw [if_neg (by rw [h]; decide), if_pos h]
theorem tell2 {X : AF} {n : Nat} {kd a b : Int32} (h : kd = nI 2) : tellB X n kd a b = (win a (nI 0) (nI 9) && win b (nI 0) (nI 5)) := by unfold tellB; rw [if_neg (by rw [h]; decide), if_neg (by rw [h]; decide), if_pos h]
theorem tell3 {X : AF} {n : Nat} {kd a b : Int32} (h : kd = nI 3) : tellB X n kd a b = (win a (nI 0) (nI 9) && win b (-1000000) 1000000) := by unfold tellB; rw [if_neg (by rw [h]; decide), if_neg (by rw [h]; decide), if_neg (by rw [h]; decide), if_pos h]
theorem tell4 {X : AF} {n : Nat} {kd a b : Int32} (h : kd = nI 4) : tellB X n kd a b = (win a (nI 0) (nI 9) && win b (nI 1) (nI 1000)) := by unfold tellB; rw [if_neg (by rw [h]; decide), if_neg (by rw [h]; decide), if_neg (by rw [h]; decide), if_neg (by rw [h]; decide), if_pos h]
theorem tell5 {X : AF} {n : Nat} {kd a b : Int32} (h : kd = nI 5) : tellB X n kd a b = ((decide (nI 0 ≤ a) && decide (a < nI n)) && (!decide (X 0 a.toNatClampNeg = nI 5) && decide (b = nI 0))) := by unfold tellB; rw [if_neg (by rw [h]; decide), if_neg (by rw [h]; decide), if_neg (by rw [h]; decide), if_neg (by rw [h]; decide), if_neg (by rw [h]; decide), if_pos h]
theorem tellN {X : AF} {n : Nat} {kd a b : Int32} (h : ∀ k, k ≤ 5 → kd ≠ nI k) : tellB X n kd a b = false := by unfold tellB; rw [if_neg (h 0 (by decide)), if_neg (h 1 (by decide)), if_neg (h 2 (by decide)), if_neg (h 3 (by decide)), if_neg (h 4 (by decide)), if_neg (h 5 (by decide))]
theorem win_nat {x : Int32} {lo hi : Nat} (hh : hi < 2147483648) (h : win x (nI lo) (nI hi) = true) (hl : lo < 2147483648) : ∃ j, lo ≤ j ∧ j ≤ hi ∧ x = nI j := by
  unfold win at h
  rw [Bool.and_eq_true, decide_eq_true_iff, decide_eq_true_iff] at h
  obtain ⟨h1, h2⟩ := h
  rw [jn_le, nI_toInt hl] at h1
  rw [jn_le, nI_toInt hh] at h2
  refine ⟨x.toInt.toNat, by omega, by omega, jn_of (by omega) (by omega)⟩
/-- the acts with one more -/
def apnd (X : AF) (n : Nat) (kd a b v k : Int32) : AF := fun r => match r with
  | 0 => upd (X 0) n kd
  | 1 => upd (X 1) n a
  | 2 => upd (X 2) n b
  | 3 => upd (X 3) n v
  | _ => upd (X 4) n k
theorem upd_eq {f : Nat → Int32} {k : Nat} {x : Int32} : upd f k x k = x := pk_us
theorem upd_ne {f : Nat → Int32} {k j : Nat} {x : Int32} (h : j ≠ k) : upd f k x j = f j := pk_un h
theorem upd_self {f : Nat → Int32} {k : Nat} : upd f k (f k) = f := funext fun j => by
  by_cases h : j = k
  · rw [h, upd_eq]
  · rw [upd_ne h]
theorem apnd_ok {X : AF} {n : Nat} {kd a b v k : Int32} (hA : aok X n) (hn : n < 80) (hv : win v (nI 0) (nI 10000) = true) (ht : tellB X n kd a b = true) : aok (apnd X n kd a b v k) (n + 1) := by
  refine ⟨by omega, fun i hi => ?_⟩
  by_cases hin : i = n
  · subst hin
    obtain ⟨v', -, hv1, hv2⟩ := win_nat (by decide) hv (by decide)
    refine ⟨⟨v', hv1, by show upd (X 3) i v i = _; rw [upd_eq]; exact hv2⟩, ?_⟩
    show (upd (X 0) i kd i = _ ∧ (∃ a', a' < 20 ∧ upd (X 1) i a i = nI a') ∧ ∃ b', b' < 100 ∧ upd (X 2) i b i = nI b') ∨ (upd (X 0) i kd i = _ ∧ ∃ a', a' < 20 ∧ upd (X 1) i a i = nI a') ∨ (upd (X 0) i kd i = _ ∧ ∃ a', a' < 10 ∧ upd (X 1) i a i = nI a') ∨ (upd (X 0) i kd i = _ ∧ ∃ a', a' < 10 ∧ upd (X 1) i a i = nI a') ∨ (upd (X 0) i kd i = _ ∧ (∃ a', a' < 10 ∧ upd (X 1) i a i = nI a') ∧ ∃ b', 1 ≤ b' ∧ b' ≤ 1000 ∧ upd (X 2) i b i = nI b') ∨ (upd (X 0) i kd i = _ ∧ ∃ a', a' < i ∧ upd (X 1) i a i = nI a')
    rw [upd_eq, upd_eq, upd_eq]
    rcases jn_sw5 kd with hz | hz | hz | hz | hz | hz | hz
    · rw [tell0 hz.2, Bool.and_eq_true] at ht
      obtain ⟨a', -, h1, h2⟩ := win_nat (by decide) ht.1 (by decide)
      obtain ⟨b', -, h3, h4⟩ := win_nat (by decide) ht.2 (by decide)
      exact Or.inl ⟨hz.2, ⟨a', by omega, h2⟩, b', by omega, h4⟩
    · rw [tell1 hz.2, Bool.and_eq_true] at ht
      obtain ⟨a', -, h1, h2⟩ := win_nat (by decide) ht.1 (by decide)
      exact Or.inr (Or.inl ⟨hz.2, a', by omega, h2⟩)
    · rw [tell2 hz.2, Bool.and_eq_true] at ht
      obtain ⟨a', -, h1, h2⟩ := win_nat (by decide) ht.1 (by decide)
      exact Or.inr (Or.inr (Or.inl ⟨hz.2, a', by omega, h2⟩))
    · rw [tell3 hz.2, Bool.and_eq_true] at ht
      obtain ⟨a', -, h1, h2⟩ := win_nat (by decide) ht.1 (by decide)
      exact Or.inr (Or.inr (Or.inr (Or.inl ⟨hz.2, a', by omega, h2⟩)))
    · rw [tell4 hz.2, Bool.and_eq_true] at ht
      obtain ⟨a', -, h1, h2⟩ := win_nat (by decide) ht.1 (by decide)
      obtain ⟨b', h5, h3, h4⟩ := win_nat (by decide) ht.2 (by decide)
      exact Or.inr (Or.inr (Or.inr (Or.inr (Or.inl ⟨hz.2, ⟨a', by omega, h2⟩, b', h5, h3, h4⟩))))
    · rw [tell5 hz.2, Bool.and_eq_true, Bool.and_eq_true, decide_eq_true_iff, decide_eq_true_iff] at ht
      obtain ⟨⟨h1, h2⟩, -⟩ := ht
      rw [jn_le, nI_toInt (by decide)] at h1
      rw [jn_lt, nI_toInt (by omega)] at h2
      exact Or.inr (Or.inr (Or.inr (Or.inr (Or.inr ⟨hz.2, a.toInt.toNat, by omega, jn_of (by omega) (by omega)⟩))))
    · rw [tellN hz.2] at ht
      cases ht
  · have h := hA.2 i (by omega)
    have e : ∀ r, r < 5 → apnd X n kd a b v k r i = X r i := by
      intro r hr
      rcases (show r = 0 ∨ r = 1 ∨ r = 2 ∨ r = 3 ∨ r = 4 by omega) with rfl | rfl | rfl | rfl | rfl <;> exact upd_ne hin
    unfold aok1 at h ⊢
    rw [e 0 (by decide), e 1 (by decide), e 2 (by decide), e 3 (by decide)]
    exact h
end
section
theorem has_nat {n : Nat} {a : Int32} (hn : n < 2147483648) (h : hasB n a = true) : ∃ j, j < n ∧ a = nI j := by
  unfold hasB at h
  rw [Bool.and_eq_true, decide_eq_true_iff, decide_eq_true_iff] at h
  obtain ⟨h1, h2⟩ := h
  rw [jn_le, nI_toInt (by decide)] at h1
  rw [jn_lt, nI_toInt hn] at h2
  exact ⟨a.toInt.toNat, by omega, jn_of (by omega) (by omega)⟩

def rm_A_canTell : Room := { frames := 1, cells := 0, slots := 0, locals := 22 }
set_option maxHeartbeats 4000000 in
set_option maxRecDepth 100000 in
theorem ct_A_canTell (l : Launch) (D : va_G) (cA : ClassId) (a0 a1 a2 a3 a4 a5 : Nat) (X : AF) (n : Nat) (hn : n ≤ 80) (kd a b : Int32) : Ci (S := Unit) l y_A_canTell (Cond.code y_A_canTell c_A_canTell 4 (some .boolean) :: WD) rm_A_canTell D vwCl [(cA, .int)] nws [.ref a0, .int kd, .int a, .int b] [(a0, .inr (0, [.ref a1, .ref a2, .ref a3, .ref a4, .ref a5, .int (nI n)])), (a1, .inl (cA, 80, .inl (X 0))), (a2, .inl (cA, 80, .inl (X 1))), (a3, .inl (cA, 80, .inl (X 2))), (a4, .inl (cA, 80, .inl (X 3))), (a5, .inl (cA, 80, .inl (X 4)))] 0 0 (fun r _ => r = bI (tellB X n kd a b)) (fun _ => [(a0, .inr (0, [.ref a1, .ref a2, .ref a3, .ref a4, .ref a5, .int (nI n)])), (a1, .inl (cA, 80, .inl (X 0))), (a2, .inl (cA, 80, .inl (X 1))), (a3, .inl (cA, 80, .inl (X 2))), (a4, .inl (cA, 80, .inl (X 3))), (a5, .inl (cA, 80, .inl (X 4)))]) := by
  refine Ci.of (cc := c_A_canTell) (nL := 4) (lv := [(0, .ref a0), (1, .int kd), (2, .int a), (3, .int b)]) (by decide) rfl (Nat.le_of_ble_eq_true rfl) rfl ?_
  intro p e s m args below meth cd A Q F hK hN hA ret
  refine j_iloadn F d_A_canTell_0 1 rfl rfl ?_
  have sw := jn_sw5 kd
  rcases sw with hz | hz | hz | hz | hz | hz | hz
  · refine j_tabIn (tgt := 40) F d_A_canTell_1 0 hz.1 (by decide) (by decide) rfl (by decide) ?_
    refine j_iloadn F d_A_canTell_40 2 rfl rfl ?_
    refine j_iconst (v := nI 0) F d_A_canTell_41 (by decide) ?_
    refine j_bipush (v := nI 19) F d_A_canTell_42 (by decide) ?_
    refine j_goi (wc := []) (wr := [(a0, .inr (0, [.ref a1, .ref a2, .ref a3, .ref a4, .ref a5, .int (nI n)])), (a1, .inl (cA, 80, .inl (X 0))), (a2, .inl (cA, 80, .inl (X 1))), (a3, .inl (cA, 80, .inl (X 2))), (a4, .inl (cA, 80, .inl (X 3))), (a5, .inl (cA, 80, .inl (X 4)))]) hA [] [0, 1, 2, 3, 4, 5] rfl rfl (by decide) (by decide) (fun H locs ls hP hD hl => va_runSN (As := [.int a, .int (nI 0), .int (nI 19)]) (rest := []) F (ct_X_isWithin l D cA a (nI 0) (nI 19) H.size) ⟨va_cnB 3 F.2.2.2.2 (gd k_172) rfl rfl rfl (hN _ n_177).1 (F.2.2.2.2 _ (wm k_1)) (by decide +kernel) ⟨by decide, by decide⟩, F.2.2.2.2 _ (wm k_171), trivial⟩ (pre_S hK hN hP hD [] rfl (by decide)) rfl rfl hl.1 rfl (lv_room (Nat.le_of_ble_eq_true rfl)) d_A_canTell_44 ⟨by decide, by decide⟩) (fun r44 u44 hw44 => ?_)
    subst hw44
    refine j_ws (ws' := [(a0, .inr (0, [.ref a1, .ref a2, .ref a3, .ref a4, .ref a5, .int (nI n)])), (a1, .inl (cA, 80, .inl (X 0))), (a2, .inl (cA, 80, .inl (X 1))), (a3, .inl (cA, 80, .inl (X 2))), (a4, .inl (cA, 80, .inl (X 3))), (a5, .inl (cA, 80, .inl (X 4)))]) [0, 1, 2, 3, 4, 5] (by decide) rfl ?_
    refine j_if_eq (tgt := 64) F d_A_canTell_47 (by decide) (fun c_47 => ?_) (fun c_47 => ?_)
    · refine j_iconst (v := nI 0) F d_A_canTell_64 (by decide) ?_
      exact ret _ _ _ _ _ _ () d_A_canTell_65 rfl (by decide) (by decide) rfl (bI_f (by rw [tell0 hz.2, bI_0 c_47]; rfl))
    · refine j_iloadn F d_A_canTell_50 3 rfl rfl ?_
      refine j_iconst (v := nI 0) F d_A_canTell_51 (by decide) ?_
      refine j_bipush (v := nI 99) F d_A_canTell_52 (by decide) ?_
      refine j_goi (wc := []) (wr := [(a0, .inr (0, [.ref a1, .ref a2, .ref a3, .ref a4, .ref a5, .int (nI n)])), (a1, .inl (cA, 80, .inl (X 0))), (a2, .inl (cA, 80, .inl (X 1))), (a3, .inl (cA, 80, .inl (X 2))), (a4, .inl (cA, 80, .inl (X 3))), (a5, .inl (cA, 80, .inl (X 4)))]) hA [] [0, 1, 2, 3, 4, 5] rfl rfl (by decide) (by decide) (fun H locs ls hP hD hl => va_runSN (As := [.int b, .int (nI 0), .int (nI 99)]) (rest := []) F (ct_X_isWithin l D cA b (nI 0) (nI 99) H.size) ⟨va_cnB 3 F.2.2.2.2 (gd k_172) rfl rfl rfl (hN _ n_177).1 (F.2.2.2.2 _ (wm k_1)) (by decide +kernel) ⟨by decide, by decide⟩, F.2.2.2.2 _ (wm k_171), trivial⟩ (pre_S hK hN hP hD [] rfl (by decide)) rfl rfl hl.1 rfl (lv_room (Nat.le_of_ble_eq_true rfl)) d_A_canTell_54 ⟨by decide, by decide⟩) (fun r54 u54 hw54 => ?_)
      subst hw54
      refine j_ws (ws' := [(a0, .inr (0, [.ref a1, .ref a2, .ref a3, .ref a4, .ref a5, .int (nI n)])), (a1, .inl (cA, 80, .inl (X 0))), (a2, .inl (cA, 80, .inl (X 1))), (a3, .inl (cA, 80, .inl (X 2))), (a4, .inl (cA, 80, .inl (X 3))), (a5, .inl (cA, 80, .inl (X 4)))]) [0, 1, 2, 3, 4, 5] (by decide) rfl ?_
      refine j_if_eq (tgt := 64) F d_A_canTell_57 (by decide) (fun c_57 => ?_) (fun c_57 => ?_)
      · refine j_iconst (v := nI 0) F d_A_canTell_64 (by decide) ?_
        exact ret _ _ _ _ _ _ () d_A_canTell_65 rfl (by decide) (by decide) rfl (bI_f (by rw [tell0 hz.2, bI_1 c_47, bI_0 c_57]; simp))
      · refine j_iconst (v := nI 1) F d_A_canTell_60 (by decide) ?_
        refine j_goto (tgt := 65) F d_A_canTell_61 (by decide) ?_
        exact ret _ _ _ _ _ _ () d_A_canTell_65 rfl (by decide) (by decide) rfl (bI_t (by rw [tell0 hz.2, bI_1 c_47, bI_1 c_57]; rfl))
  · refine j_tabIn (tgt := 66) F d_A_canTell_1 1 hz.1 (by decide) (by decide) rfl (by decide) ?_
    refine j_iloadn F d_A_canTell_66 2 rfl rfl ?_
    refine j_iconst (v := nI 0) F d_A_canTell_67 (by decide) ?_
    refine j_bipush (v := nI 19) F d_A_canTell_68 (by decide) ?_
    refine j_goi (wc := []) (wr := [(a0, .inr (0, [.ref a1, .ref a2, .ref a3, .ref a4, .ref a5, .int (nI n)])), (a1, .inl (cA, 80, .inl (X 0))), (a2, .inl (cA, 80, .inl (X 1))), (a3, .inl (cA, 80, .inl (X 2))), (a4, .inl (cA, 80, .inl (X 3))), (a5, .inl (cA, 80, .inl (X 4)))]) hA [] [0, 1, 2, 3, 4, 5] rfl rfl (by decide) (by decide) (fun H locs ls hP hD hl => va_runSN (As := [.int a, .int (nI 0), .int (nI 19)]) (rest := []) F (ct_X_isWithin l D cA a (nI 0) (nI 19) H.size) ⟨va_cnB 3 F.2.2.2.2 (gd k_172) rfl rfl rfl (hN _ n_177).1 (F.2.2.2.2 _ (wm k_1)) (by decide +kernel) ⟨by decide, by decide⟩, F.2.2.2.2 _ (wm k_171), trivial⟩ (pre_S hK hN hP hD [] rfl (by decide)) rfl rfl hl.1 rfl (lv_room (Nat.le_of_ble_eq_true rfl)) d_A_canTell_70 ⟨by decide, by decide⟩) (fun r70 u70 hw70 => ?_)
    subst hw70
    refine j_ws (ws' := [(a0, .inr (0, [.ref a1, .ref a2, .ref a3, .ref a4, .ref a5, .int (nI n)])), (a1, .inl (cA, 80, .inl (X 0))), (a2, .inl (cA, 80, .inl (X 1))), (a3, .inl (cA, 80, .inl (X 2))), (a4, .inl (cA, 80, .inl (X 3))), (a5, .inl (cA, 80, .inl (X 4)))]) [0, 1, 2, 3, 4, 5] (by decide) rfl ?_
    refine j_if_eq (tgt := 84) F d_A_canTell_73 (by decide) (fun c_73 => ?_) (fun c_73 => ?_)
    · refine j_iconst (v := nI 0) F d_A_canTell_84 (by decide) ?_
      exact ret _ _ _ _ _ _ () d_A_canTell_85 rfl (by decide) (by decide) rfl (bI_f (by rw [tell1 hz.2, bI_0 c_73]; rfl))
    · refine j_iloadn F d_A_canTell_76 3 rfl rfl ?_
      refine j_if_ne (tgt := 84) F d_A_canTell_77 (by decide) (fun c_77 => ?_) (fun c_77 => ?_)
      · refine j_iconst (v := nI 0) F d_A_canTell_84 (by decide) ?_
        exact ret _ _ _ _ _ _ () d_A_canTell_85 rfl (by decide) (by decide) rfl (bI_f (by rw [tell1 hz.2, bI_1 c_73, decide_eq_false c_77]; simp))
      · refine j_iconst (v := nI 1) F d_A_canTell_80 (by decide) ?_
        refine j_goto (tgt := 85) F d_A_canTell_81 (by decide) ?_
        exact ret _ _ _ _ _ _ () d_A_canTell_85 rfl (by decide) (by decide) rfl (bI_t (by rw [tell1 hz.2, bI_1 c_73, decide_eq_true c_77]; rfl))
  · refine j_tabIn (tgt := 86) F d_A_canTell_1 2 hz.1 (by decide) (by decide) rfl (by decide) ?_
    refine j_iloadn F d_A_canTell_86 2 rfl rfl ?_
    refine j_iconst (v := nI 0) F d_A_canTell_87 (by decide) ?_
    refine j_bipush (v := nI 9) F d_A_canTell_88 (by decide) ?_
    refine j_goi (wc := []) (wr := [(a0, .inr (0, [.ref a1, .ref a2, .ref a3, .ref a4, .ref a5, .int (nI n)])), (a1, .inl (cA, 80, .inl (X 0))), (a2, .inl (cA, 80, .inl (X 1))), (a3, .inl (cA, 80, .inl (X 2))), (a4, .inl (cA, 80, .inl (X 3))), (a5, .inl (cA, 80, .inl (X 4)))]) hA [] [0, 1, 2, 3, 4, 5] rfl rfl (by decide) (by decide) (fun H locs ls hP hD hl => va_runSN (As := [.int a, .int (nI 0), .int (nI 9)]) (rest := []) F (ct_X_isWithin l D cA a (nI 0) (nI 9) H.size) ⟨va_cnB 3 F.2.2.2.2 (gd k_172) rfl rfl rfl (hN _ n_177).1 (F.2.2.2.2 _ (wm k_1)) (by decide +kernel) ⟨by decide, by decide⟩, F.2.2.2.2 _ (wm k_171), trivial⟩ (pre_S hK hN hP hD [] rfl (by decide)) rfl rfl hl.1 rfl (lv_room (Nat.le_of_ble_eq_true rfl)) d_A_canTell_90 ⟨by decide, by decide⟩) (fun r90 u90 hw90 => ?_)
    subst hw90
    refine j_ws (ws' := [(a0, .inr (0, [.ref a1, .ref a2, .ref a3, .ref a4, .ref a5, .int (nI n)])), (a1, .inl (cA, 80, .inl (X 0))), (a2, .inl (cA, 80, .inl (X 1))), (a3, .inl (cA, 80, .inl (X 2))), (a4, .inl (cA, 80, .inl (X 3))), (a5, .inl (cA, 80, .inl (X 4)))]) [0, 1, 2, 3, 4, 5] (by decide) rfl ?_
    refine j_if_eq (tgt := 109) F d_A_canTell_93 (by decide) (fun c_93 => ?_) (fun c_93 => ?_)
    · refine j_iconst (v := nI 0) F d_A_canTell_109 (by decide) ?_
      exact ret _ _ _ _ _ _ () d_A_canTell_110 rfl (by decide) (by decide) rfl (bI_f (by rw [tell2 hz.2, bI_0 c_93]; rfl))
    · refine j_iloadn F d_A_canTell_96 3 rfl rfl ?_
      refine j_iconst (v := nI 0) F d_A_canTell_97 (by decide) ?_
      refine j_iconst (v := nI 5) F d_A_canTell_98 (by decide) ?_
      refine j_goi (wc := []) (wr := [(a0, .inr (0, [.ref a1, .ref a2, .ref a3, .ref a4, .ref a5, .int (nI n)])), (a1, .inl (cA, 80, .inl (X 0))), (a2, .inl (cA, 80, .inl (X 1))), (a3, .inl (cA, 80, .inl (X 2))), (a4, .inl (cA, 80, .inl (X 3))), (a5, .inl (cA, 80, .inl (X 4)))]) hA [] [0, 1, 2, 3, 4, 5] rfl rfl (by decide) (by decide) (fun H locs ls hP hD hl => va_runSN (As := [.int b, .int (nI 0), .int (nI 5)]) (rest := []) F (ct_X_isWithin l D cA b (nI 0) (nI 5) H.size) ⟨va_cnB 3 F.2.2.2.2 (gd k_172) rfl rfl rfl (hN _ n_177).1 (F.2.2.2.2 _ (wm k_1)) (by decide +kernel) ⟨by decide, by decide⟩, F.2.2.2.2 _ (wm k_171), trivial⟩ (pre_S hK hN hP hD [] rfl (by decide)) rfl rfl hl.1 rfl (lv_room (Nat.le_of_ble_eq_true rfl)) d_A_canTell_99 ⟨by decide, by decide⟩) (fun r99 u99 hw99 => ?_)
      subst hw99
      refine j_ws (ws' := [(a0, .inr (0, [.ref a1, .ref a2, .ref a3, .ref a4, .ref a5, .int (nI n)])), (a1, .inl (cA, 80, .inl (X 0))), (a2, .inl (cA, 80, .inl (X 1))), (a3, .inl (cA, 80, .inl (X 2))), (a4, .inl (cA, 80, .inl (X 3))), (a5, .inl (cA, 80, .inl (X 4)))]) [0, 1, 2, 3, 4, 5] (by decide) rfl ?_
      refine j_if_eq (tgt := 109) F d_A_canTell_102 (by decide) (fun c_102 => ?_) (fun c_102 => ?_)
      · refine j_iconst (v := nI 0) F d_A_canTell_109 (by decide) ?_
        exact ret _ _ _ _ _ _ () d_A_canTell_110 rfl (by decide) (by decide) rfl (bI_f (by rw [tell2 hz.2, bI_1 c_93, bI_0 c_102]; simp))
      · refine j_iconst (v := nI 1) F d_A_canTell_105 (by decide) ?_
        refine j_goto (tgt := 110) F d_A_canTell_106 (by decide) ?_
        exact ret _ _ _ _ _ _ () d_A_canTell_110 rfl (by decide) (by decide) rfl (bI_t (by rw [tell2 hz.2, bI_1 c_93, bI_1 c_102]; rfl))
  · refine j_tabIn (tgt := 111) F d_A_canTell_1 3 hz.1 (by decide) (by decide) rfl (by decide) ?_
    refine j_iloadn F d_A_canTell_111 2 rfl rfl ?_
    refine j_iconst (v := nI 0) F d_A_canTell_112 (by decide) ?_
    refine j_bipush (v := nI 9) F d_A_canTell_113 (by decide) ?_
    refine j_goi (wc := []) (wr := [(a0, .inr (0, [.ref a1, .ref a2, .ref a3, .ref a4, .ref a5, .int (nI n)])), (a1, .inl (cA, 80, .inl (X 0))), (a2, .inl (cA, 80, .inl (X 1))), (a3, .inl (cA, 80, .inl (X 2))), (a4, .inl (cA, 80, .inl (X 3))), (a5, .inl (cA, 80, .inl (X 4)))]) hA [] [0, 1, 2, 3, 4, 5] rfl rfl (by decide) (by decide) (fun H locs ls hP hD hl => va_runSN (As := [.int a, .int (nI 0), .int (nI 9)]) (rest := []) F (ct_X_isWithin l D cA a (nI 0) (nI 9) H.size) ⟨va_cnB 3 F.2.2.2.2 (gd k_172) rfl rfl rfl (hN _ n_177).1 (F.2.2.2.2 _ (wm k_1)) (by decide +kernel) ⟨by decide, by decide⟩, F.2.2.2.2 _ (wm k_171), trivial⟩ (pre_S hK hN hP hD [] rfl (by decide)) rfl rfl hl.1 rfl (lv_room (Nat.le_of_ble_eq_true rfl)) d_A_canTell_115 ⟨by decide, by decide⟩) (fun r115 u115 hw115 => ?_)
    subst hw115
    refine j_ws (ws' := [(a0, .inr (0, [.ref a1, .ref a2, .ref a3, .ref a4, .ref a5, .int (nI n)])), (a1, .inl (cA, 80, .inl (X 0))), (a2, .inl (cA, 80, .inl (X 1))), (a3, .inl (cA, 80, .inl (X 2))), (a4, .inl (cA, 80, .inl (X 3))), (a5, .inl (cA, 80, .inl (X 4)))]) [0, 1, 2, 3, 4, 5] (by decide) rfl ?_
    refine j_if_eq (tgt := 136) F d_A_canTell_118 (by decide) (fun c_118 => ?_) (fun c_118 => ?_)
    · refine j_iconst (v := nI 0) F d_A_canTell_136 (by decide) ?_
      exact ret _ _ _ _ _ _ () d_A_canTell_137 rfl (by decide) (by decide) rfl (bI_f (by rw [tell3 hz.2, bI_0 c_118]; rfl))
    · refine j_iloadn F d_A_canTell_121 3 rfl rfl ?_
      refine j_ldc (v := (-1000000)) F (wm k_178) d_A_canTell_122 ?_
      refine j_ldc (v := 1000000) F (wm k_179) d_A_canTell_124 ?_
      refine j_goi (wc := []) (wr := [(a0, .inr (0, [.ref a1, .ref a2, .ref a3, .ref a4, .ref a5, .int (nI n)])), (a1, .inl (cA, 80, .inl (X 0))), (a2, .inl (cA, 80, .inl (X 1))), (a3, .inl (cA, 80, .inl (X 2))), (a4, .inl (cA, 80, .inl (X 3))), (a5, .inl (cA, 80, .inl (X 4)))]) hA [] [0, 1, 2, 3, 4, 5] rfl rfl (by decide) (by decide) (fun H locs ls hP hD hl => va_runSN (As := [.int b, .int (-1000000), .int 1000000]) (rest := []) F (ct_X_isWithin l D cA b (-1000000) 1000000 H.size) ⟨va_cnB 3 F.2.2.2.2 (gd k_172) rfl rfl rfl (hN _ n_177).1 (F.2.2.2.2 _ (wm k_1)) (by decide +kernel) ⟨by decide, by decide⟩, F.2.2.2.2 _ (wm k_171), trivial⟩ (pre_S hK hN hP hD [] rfl (by decide)) rfl rfl hl.1 rfl (lv_room (Nat.le_of_ble_eq_true rfl)) d_A_canTell_126 ⟨by decide, by decide⟩) (fun r126 u126 hw126 => ?_)
      subst hw126
      refine j_ws (ws' := [(a0, .inr (0, [.ref a1, .ref a2, .ref a3, .ref a4, .ref a5, .int (nI n)])), (a1, .inl (cA, 80, .inl (X 0))), (a2, .inl (cA, 80, .inl (X 1))), (a3, .inl (cA, 80, .inl (X 2))), (a4, .inl (cA, 80, .inl (X 3))), (a5, .inl (cA, 80, .inl (X 4)))]) [0, 1, 2, 3, 4, 5] (by decide) rfl ?_
      refine j_if_eq (tgt := 136) F d_A_canTell_129 (by decide) (fun c_129 => ?_) (fun c_129 => ?_)
      · refine j_iconst (v := nI 0) F d_A_canTell_136 (by decide) ?_
        exact ret _ _ _ _ _ _ () d_A_canTell_137 rfl (by decide) (by decide) rfl (bI_f (by rw [tell3 hz.2, bI_1 c_118, bI_0 c_129]; simp))
      · refine j_iconst (v := nI 1) F d_A_canTell_132 (by decide) ?_
        refine j_goto (tgt := 137) F d_A_canTell_133 (by decide) ?_
        exact ret _ _ _ _ _ _ () d_A_canTell_137 rfl (by decide) (by decide) rfl (bI_t (by rw [tell3 hz.2, bI_1 c_118, bI_1 c_129]; rfl))
  · refine j_tabIn (tgt := 138) F d_A_canTell_1 4 hz.1 (by decide) (by decide) rfl (by decide) ?_
    refine j_iloadn F d_A_canTell_138 2 rfl rfl ?_
    refine j_iconst (v := nI 0) F d_A_canTell_139 (by decide) ?_
    refine j_bipush (v := nI 9) F d_A_canTell_140 (by decide) ?_
    refine j_goi (wc := []) (wr := [(a0, .inr (0, [.ref a1, .ref a2, .ref a3, .ref a4, .ref a5, .int (nI n)])), (a1, .inl (cA, 80, .inl (X 0))), (a2, .inl (cA, 80, .inl (X 1))), (a3, .inl (cA, 80, .inl (X 2))), (a4, .inl (cA, 80, .inl (X 3))), (a5, .inl (cA, 80, .inl (X 4)))]) hA [] [0, 1, 2, 3, 4, 5] rfl rfl (by decide) (by decide) (fun H locs ls hP hD hl => va_runSN (As := [.int a, .int (nI 0), .int (nI 9)]) (rest := []) F (ct_X_isWithin l D cA a (nI 0) (nI 9) H.size) ⟨va_cnB 3 F.2.2.2.2 (gd k_172) rfl rfl rfl (hN _ n_177).1 (F.2.2.2.2 _ (wm k_1)) (by decide +kernel) ⟨by decide, by decide⟩, F.2.2.2.2 _ (wm k_171), trivial⟩ (pre_S hK hN hP hD [] rfl (by decide)) rfl rfl hl.1 rfl (lv_room (Nat.le_of_ble_eq_true rfl)) d_A_canTell_142 ⟨by decide, by decide⟩) (fun r142 u142 hw142 => ?_)
    subst hw142
    refine j_ws (ws' := [(a0, .inr (0, [.ref a1, .ref a2, .ref a3, .ref a4, .ref a5, .int (nI n)])), (a1, .inl (cA, 80, .inl (X 0))), (a2, .inl (cA, 80, .inl (X 1))), (a3, .inl (cA, 80, .inl (X 2))), (a4, .inl (cA, 80, .inl (X 3))), (a5, .inl (cA, 80, .inl (X 4)))]) [0, 1, 2, 3, 4, 5] (by decide) rfl ?_
    refine j_if_eq (tgt := 163) F d_A_canTell_145 (by decide) (fun c_145 => ?_) (fun c_145 => ?_)
    · refine j_iconst (v := nI 0) F d_A_canTell_163 (by decide) ?_
      exact ret _ _ _ _ _ _ () d_A_canTell_164 rfl (by decide) (by decide) rfl (bI_f (by rw [tell4 hz.2, bI_0 c_145]; rfl))
    · refine j_iloadn F d_A_canTell_148 3 rfl rfl ?_
      refine j_iconst (v := nI 1) F d_A_canTell_149 (by decide) ?_
      refine j_sipush (v := nI 1000) F d_A_canTell_150 (by decide) ?_
      refine j_goi (wc := []) (wr := [(a0, .inr (0, [.ref a1, .ref a2, .ref a3, .ref a4, .ref a5, .int (nI n)])), (a1, .inl (cA, 80, .inl (X 0))), (a2, .inl (cA, 80, .inl (X 1))), (a3, .inl (cA, 80, .inl (X 2))), (a4, .inl (cA, 80, .inl (X 3))), (a5, .inl (cA, 80, .inl (X 4)))]) hA [] [0, 1, 2, 3, 4, 5] rfl rfl (by decide) (by decide) (fun H locs ls hP hD hl => va_runSN (As := [.int b, .int (nI 1), .int (nI 1000)]) (rest := []) F (ct_X_isWithin l D cA b (nI 1) (nI 1000) H.size) ⟨va_cnB 3 F.2.2.2.2 (gd k_172) rfl rfl rfl (hN _ n_177).1 (F.2.2.2.2 _ (wm k_1)) (by decide +kernel) ⟨by decide, by decide⟩, F.2.2.2.2 _ (wm k_171), trivial⟩ (pre_S hK hN hP hD [] rfl (by decide)) rfl rfl hl.1 rfl (lv_room (Nat.le_of_ble_eq_true rfl)) d_A_canTell_153 ⟨by decide, by decide⟩) (fun r153 u153 hw153 => ?_)
      subst hw153
      refine j_ws (ws' := [(a0, .inr (0, [.ref a1, .ref a2, .ref a3, .ref a4, .ref a5, .int (nI n)])), (a1, .inl (cA, 80, .inl (X 0))), (a2, .inl (cA, 80, .inl (X 1))), (a3, .inl (cA, 80, .inl (X 2))), (a4, .inl (cA, 80, .inl (X 3))), (a5, .inl (cA, 80, .inl (X 4)))]) [0, 1, 2, 3, 4, 5] (by decide) rfl ?_
      refine j_if_eq (tgt := 163) F d_A_canTell_156 (by decide) (fun c_156 => ?_) (fun c_156 => ?_)
      · refine j_iconst (v := nI 0) F d_A_canTell_163 (by decide) ?_
        exact ret _ _ _ _ _ _ () d_A_canTell_164 rfl (by decide) (by decide) rfl (bI_f (by rw [tell4 hz.2, bI_1 c_145, bI_0 c_156]; simp))
      · refine j_iconst (v := nI 1) F d_A_canTell_159 (by decide) ?_
        refine j_goto (tgt := 164) F d_A_canTell_160 (by decide) ?_
        exact ret _ _ _ _ _ _ () d_A_canTell_164 rfl (by decide) (by decide) rfl (bI_t (by rw [tell4 hz.2, bI_1 c_145, bI_1 c_156]; rfl))
  · refine j_tabIn (tgt := 165) F d_A_canTell_1 5 hz.1 (by decide) (by decide) rfl (by decide) ?_
    refine j_aloadn F d_A_canTell_165 0 rfl rfl ?_
    refine j_iloadn F d_A_canTell_166 2 rfl rfl ?_
    refine j_goi (wc := [(a0, .inr (0, [.ref a1, .ref a2, .ref a3, .ref a4, .ref a5, .int (nI n)])), (a1, .inl (cA, 80, .inl (X 0))), (a2, .inl (cA, 80, .inl (X 1))), (a3, .inl (cA, 80, .inl (X 2))), (a4, .inl (cA, 80, .inl (X 3))), (a5, .inl (cA, 80, .inl (X 4)))]) (wr := []) hA [0, 1, 2, 3, 4, 5] [] rfl rfl (by decide) (by decide) (fun H locs ls hP hD hl => va_runV (As := [.int a]) (rest := []) F (ct_A_has l D cA a0 a1 a2 a3 a4 a5 X n (by omega) a H.size) ⟨callB_of 1 F.2.2.2.2 (gd k_183) rfl rfl rfl (F.2.2.2.2 _ (wm k_2)) (F.2.2.2.2 _ (wm k_180)) (by decide +kernel) ⟨by decide, by decide⟩, F.2.2.2.2 _ (wm k_182), F.2.2.2.2 _ (wm ks_2)⟩ (pre_V rfl hK hN hP hD [0, 1, 2, 3, 4, 5] rfl (by decide) 0 rfl rfl) rfl rfl hl.1 rfl (lv_room (Nat.le_of_ble_eq_true rfl)) d_A_canTell_167 ⟨by decide, by decide⟩) (fun r167 u167 hw167 => ?_)
    subst hw167
    refine j_ws (ws' := [(a0, .inr (0, [.ref a1, .ref a2, .ref a3, .ref a4, .ref a5, .int (nI n)])), (a1, .inl (cA, 80, .inl (X 0))), (a2, .inl (cA, 80, .inl (X 1))), (a3, .inl (cA, 80, .inl (X 2))), (a4, .inl (cA, 80, .inl (X 3))), (a5, .inl (cA, 80, .inl (X 4)))]) [0, 1, 2, 3, 4, 5] (by decide) rfl ?_
    refine j_if_eq (tgt := 191) F d_A_canTell_170 (by decide) (fun c_170 => ?_) (fun c_170 => ?_)
    · refine j_iconst (v := nI 0) F d_A_canTell_191 (by decide) ?_
      exact ret _ _ _ _ _ _ () d_A_canTell_192 rfl (by decide) (by decide) rfl (bI_f (by rw [tell5 hz.2, show (decide (nI 0 ≤ a) && decide (a < nI n)) = false from bI_0 c_170]; rfl))
    · have hb := bI_1 c_170
      obtain ⟨j, hj, rfl⟩ := has_nat (by omega) hb
      refine j_aloadn F d_A_canTell_173 0 rfl rfl ?_
      refine j_get (ci := 0) (v := .ref a1) F in_A hK 0 rfl rfl 0 (by decide) (wm k_30) rfl d_A_canTell_174 ?_
      refine j_iloadn F d_A_canTell_177 2 rfl rfl ?_
      refine j_iald (v := (X 0) j) F hK 1 0 rfl rfl (by omega) (by decide) d_A_canTell_178 rfl ?_
      refine j_iconst (v := nI 5) F d_A_canTell_179 (by decide) ?_
      refine j_ic_eq (tgt := 191) F d_A_canTell_180 (by decide) (fun c_180 => ?_) (fun c_180 => ?_)
      · refine j_iconst (v := nI 0) F d_A_canTell_191 (by decide) ?_
        exact ret _ _ _ _ _ _ () d_A_canTell_192 rfl (by decide) (by decide) rfl (bI_f (by rw [tell5 hz.2, show (decide (nI 0 ≤ nI j) && decide (nI j < nI n)) = true from hb, show (!decide (X 0 (nI j).toNatClampNeg = nI 5)) = false by rw [nI_clamp (by omega), decide_eq_true c_180]; rfl]; rfl))
      · refine j_iloadn F d_A_canTell_183 3 rfl rfl ?_
        refine j_if_ne (tgt := 191) F d_A_canTell_184 (by decide) (fun c_184 => ?_) (fun c_184 => ?_)
        · refine j_iconst (v := nI 0) F d_A_canTell_191 (by decide) ?_
          exact ret _ _ _ _ _ _ () d_A_canTell_192 rfl (by decide) (by decide) rfl (bI_f (by rw [tell5 hz.2, show (decide (nI 0 ≤ nI j) && decide (nI j < nI n)) = true from hb, show (!decide (X 0 (nI j).toNatClampNeg = nI 5)) = true by rw [nI_clamp (by omega), decide_eq_false c_180]; rfl, decide_eq_false c_184]; rfl))
        · refine j_iconst (v := nI 1) F d_A_canTell_187 (by decide) ?_
          refine j_goto (tgt := 192) F d_A_canTell_188 (by decide) ?_
          exact ret _ _ _ _ _ _ () d_A_canTell_192 rfl (by decide) (by decide) rfl (bI_t (by rw [tell5 hz.2, show (decide (nI 0 ≤ nI j) && decide (nI j < nI n)) = true from hb, show (!decide (X 0 (nI j).toNatClampNeg = nI 5)) = true by rw [nI_clamp (by omega), decide_eq_false c_180]; rfl, decide_eq_true c_184]; rfl))
  · refine j_tabOut (tgt := 193) F d_A_canTell_1 hz.1 (by decide) ?_
    refine j_iconst (v := nI 0) F d_A_canTell_193 (by decide) ?_
    exact ret _ _ _ _ _ _ () d_A_canTell_194 rfl (by decide) (by decide) rfl (bI_f (tellN hz.2))

def rm_A_append : Room := { frames := 1, cells := 0, slots := 0, locals := 20 }
set_option maxHeartbeats 4000000 in
set_option maxRecDepth 100000 in
theorem ct_A_append (l : Launch) (D : va_G) (cA : ClassId) (a0 a1 a2 a3 a4 a5 : Nat) (X : AF) (n : Nat) (hn : n < 80) (kd a b v k : Int32) : Ci (S := Unit) l y_A_append (Cond.code y_A_append c_A_append 7 (some .int) :: WD) rm_A_append D vwCl [(cA, .int)] nws [.ref a0, .int kd, .int a, .int b, .int v, .int k] [(a0, .inr (0, [.ref a1, .ref a2, .ref a3, .ref a4, .ref a5, .int (nI n)])), (a1, .inl (cA, 80, .inl (X 0))), (a2, .inl (cA, 80, .inl (X 1))), (a3, .inl (cA, 80, .inl (X 2))), (a4, .inl (cA, 80, .inl (X 3))), (a5, .inl (cA, 80, .inl (X 4)))] 0 0 (fun r _ => r = nI n) (fun _ => [(a0, .inr (0, [.ref a1, .ref a2, .ref a3, .ref a4, .ref a5, .int (nI (n + 1))])), (a1, .inl (cA, 80, .inl ((apnd X n kd a b v k) 0))), (a2, .inl (cA, 80, .inl ((apnd X n kd a b v k) 1))), (a3, .inl (cA, 80, .inl ((apnd X n kd a b v k) 2))), (a4, .inl (cA, 80, .inl ((apnd X n kd a b v k) 3))), (a5, .inl (cA, 80, .inl ((apnd X n kd a b v k) 4)))]) := by
  refine Ci.of (cc := c_A_append) (nL := 7) (lv := [(0, .ref a0), (1, .int kd), (2, .int a), (3, .int b), (4, .int v), (5, .int k)]) (by decide) rfl (Nat.le_of_ble_eq_true rfl) rfl ?_
  intro p e s m args below meth cd A Q F hK hN hA ret
  refine j_aloadn F d_A_append_0 0 rfl rfl ?_
  refine j_goi (wc := [(a0, .inr (0, [.ref a1, .ref a2, .ref a3, .ref a4, .ref a5, .int (nI n)])), (a1, .inl (cA, 80, .inl (X 0))), (a2, .inl (cA, 80, .inl (X 1))), (a3, .inl (cA, 80, .inl (X 2))), (a4, .inl (cA, 80, .inl (X 3))), (a5, .inl (cA, 80, .inl (X 4)))]) (wr := []) hA [0, 1, 2, 3, 4, 5] [] rfl rfl (by decide) (by decide) (fun H locs ls hP hD hl => va_runV (As := []) (rest := []) F (ct_A_isFull l D cA a0 a1 a2 a3 a4 a5 X n (by omega) H.size) ⟨callB_of 0 F.2.2.2.2 (gd k_166) rfl rfl rfl (F.2.2.2.2 _ (wm k_2)) (F.2.2.2.2 _ (wm k_188)) (by decide +kernel) ⟨by decide, by decide⟩, F.2.2.2.2 _ (wm k_165), F.2.2.2.2 _ (wm ks_0)⟩ (pre_V rfl hK hN hP hD [0, 1, 2, 3, 4, 5] rfl (by decide) 0 rfl rfl) rfl rfl hl.1 rfl (lv_room (Nat.le_of_ble_eq_true rfl)) d_A_append_1 ⟨by decide, by decide⟩) (fun r1 u1 hw1 => ?_)
  subst hw1
  refine j_ws (ws' := [(a0, .inr (0, [.ref a1, .ref a2, .ref a3, .ref a4, .ref a5, .int (nI n)])), (a1, .inl (cA, 80, .inl (X 0))), (a2, .inl (cA, 80, .inl (X 1))), (a3, .inl (cA, 80, .inl (X 2))), (a4, .inl (cA, 80, .inl (X 3))), (a5, .inl (cA, 80, .inl (X 4)))]) [0, 1, 2, 3, 4, 5] (by decide) rfl ?_
  refine j_if_eq (tgt := 9) F d_A_append_4 (by decide) (fun c_4 => ?_) (fun c_4 => ?_)
  · refine j_aloadn F d_A_append_9 0 rfl rfl ?_
    refine j_get (ci := 0) (v := .int (nI n)) F in_A hK 0 rfl rfl 5 (by decide) (wm k_47) rfl d_A_append_10 ?_
    refine j_istore (lv' := [(6, .int (nI n)), (0, .ref a0), (1, .int kd), (2, .int a), (3, .int b), (4, .int v), (5, .int k)]) F d_A_append_13 (by decide) rfl ?_
    refine j_aloadn F d_A_append_15 1 rfl rfl ?_
    refine j_get (ci := 0) (v := .ref a1) F in_A hK 0 rfl rfl 0 (by decide) (wm k_30) rfl d_A_append_16 ?_
    refine j_iload F d_A_append_19 0 rfl ?_
    refine j_iloadn F d_A_append_21 2 rfl rfl ?_
    refine j_iast (ws' := [(a0, .inr (0, [.ref a1, .ref a2, .ref a3, .ref a4, .ref a5, .int (nI n)])), (a1, .inl (cA, 80, .inl (upd (X 0) n kd))), (a2, .inl (cA, 80, .inl (X 1))), (a3, .inl (cA, 80, .inl (X 2))), (a4, .inl (cA, 80, .inl (X 3))), (a5, .inl (cA, 80, .inl (X 4)))]) F hK 1 0 rfl rfl (by omega) (by decide) d_A_append_22 rfl ?_
    refine j_aloadn F d_A_append_23 1 rfl rfl ?_
    refine j_get (ci := 0) (v := .ref a2) F in_A hK 0 rfl rfl 1 (by decide) (wm k_34) rfl d_A_append_24 ?_
    refine j_iload F d_A_append_27 0 rfl ?_
    refine j_iloadn F d_A_append_29 3 rfl rfl ?_
    refine j_iast (ws' := [(a0, .inr (0, [.ref a1, .ref a2, .ref a3, .ref a4, .ref a5, .int (nI n)])), (a1, .inl (cA, 80, .inl (upd (X 0) n kd))), (a2, .inl (cA, 80, .inl (upd (X 1) n a))), (a3, .inl (cA, 80, .inl (X 2))), (a4, .inl (cA, 80, .inl (X 3))), (a5, .inl (cA, 80, .inl (X 4)))]) F hK 2 0 rfl rfl (by omega) (by decide) d_A_append_30 rfl ?_
    refine j_aloadn F d_A_append_31 1 rfl rfl ?_
    refine j_get (ci := 0) (v := .ref a3) F in_A hK 0 rfl rfl 2 (by decide) (wm k_38) rfl d_A_append_32 ?_
    refine j_iload F d_A_append_35 0 rfl ?_
    refine j_iloadn F d_A_append_37 4 rfl rfl ?_
    refine j_iast (ws' := [(a0, .inr (0, [.ref a1, .ref a2, .ref a3, .ref a4, .ref a5, .int (nI n)])), (a1, .inl (cA, 80, .inl (upd (X 0) n kd))), (a2, .inl (cA, 80, .inl (upd (X 1) n a))), (a3, .inl (cA, 80, .inl (upd (X 2) n b))), (a4, .inl (cA, 80, .inl (X 3))), (a5, .inl (cA, 80, .inl (X 4)))]) F hK 3 0 rfl rfl (by omega) (by decide) d_A_append_38 rfl ?_
    refine j_aloadn F d_A_append_39 1 rfl rfl ?_
    refine j_get (ci := 0) (v := .ref a4) F in_A hK 0 rfl rfl 3 (by decide) (wm k_42) rfl d_A_append_40 ?_
    refine j_iload F d_A_append_43 0 rfl ?_
    refine j_iload F d_A_append_45 5 rfl ?_
    refine j_iast (ws' := [(a0, .inr (0, [.ref a1, .ref a2, .ref a3, .ref a4, .ref a5, .int (nI n)])), (a1, .inl (cA, 80, .inl (upd (X 0) n kd))), (a2, .inl (cA, 80, .inl (upd (X 1) n a))), (a3, .inl (cA, 80, .inl (upd (X 2) n b))), (a4, .inl (cA, 80, .inl (upd (X 3) n v))), (a5, .inl (cA, 80, .inl (X 4)))]) F hK 4 0 rfl rfl (by omega) (by decide) d_A_append_47 rfl ?_
    refine j_aloadn F d_A_append_48 1 rfl rfl ?_
    refine j_get (ci := 0) (v := .ref a5) F in_A hK 0 rfl rfl 4 (by decide) (wm k_45) rfl d_A_append_49 ?_
    refine j_iload F d_A_append_52 0 rfl ?_
    refine j_iload F d_A_append_54 6 rfl ?_
    refine j_iast (ws' := [(a0, .inr (0, [.ref a1, .ref a2, .ref a3, .ref a4, .ref a5, .int (nI n)])), (a1, .inl (cA, 80, .inl (upd (X 0) n kd))), (a2, .inl (cA, 80, .inl (upd (X 1) n a))), (a3, .inl (cA, 80, .inl (upd (X 2) n b))), (a4, .inl (cA, 80, .inl (upd (X 3) n v))), (a5, .inl (cA, 80, .inl (upd (X 4) n k)))]) F hK 5 0 rfl rfl (by omega) (by decide) d_A_append_56 rfl ?_
    refine j_aloadn F d_A_append_57 1 rfl rfl ?_
    refine j_iload F d_A_append_58 0 rfl ?_
    refine j_iconst (v := nI 1) F d_A_append_60 (by decide) ?_
    refine j_iadd (v := nI (n + 1)) F d_A_append_61 (nI_add _ _) ?_
    refine j_put (ci := 0) (v := .int (nI (n + 1))) (ty := .int) (ws' := [(a0, .inr (0, [.ref a1, .ref a2, .ref a3, .ref a4, .ref a5, .int (nI (n + 1))])), (a1, .inl (cA, 80, .inl (upd (X 0) n kd))), (a2, .inl (cA, 80, .inl (upd (X 1) n a))), (a3, .inl (cA, 80, .inl (upd (X 2) n b))), (a4, .inl (cA, 80, .inl (upd (X 3) n v))), (a5, .inl (cA, 80, .inl (upd (X 4) n k)))]) F in_A ty_A tk_A nm_A hK 0 rfl rfl 5 (by decide) (wm k_47) rfl (by decide +kernel) rfl rfl (Nat.le_of_ble_eq_true rfl) d_A_append_62 rfl ?_
    refine j_iload F d_A_append_65 0 rfl ?_
    exact ret _ _ _ _ _ _ () d_A_append_67 rfl (by decide) (by decide) rfl rfl
  · exact absurd (of_decide_eq_true (bI_1 c_4)) (by omega)
end
section
section JY
variable {p : Program} {l : Launch} {e : Env} {R : Room} {s : State} {m : MethodId} {args : Array Value} {below : List Frame} {meth : Method} {c : Code} {Q : State → Prop} {D : va_G} {cl : List vw_C} {tys : List (ClassId × FieldType)} {A : Nat → Prop} {H0 : Heap} {nL cells slots : Nat}
variable {ws ws' : va_W} {lv : List (Nat × Value)} {pc : Nat} {st : List Value} {cc : ByteArray} {Ts : List Cond} {own : String}
theorem j_alen (F : CallFix p m c cc nL s args Ts own) (hK : va_K D cl tys s) (q0 t0 : Nat) {a : Nat} {cA : ClassId} {n : Nat} {f : Nat → Int32} (ha : ws[q0]? = some (a, .inl (cA, n, .inl f))) (ht : tys[t0]? = some (cA, .int)) (d : decode cc pc = .ok (.arraylength, 1))
    (k : J p l e R s m args below meth c D cl A H0 nL cells slots Q ws lv (pc + 1) (.int (nI n) :: st)) : J p l e R s m args below meth c D cl A H0 nL cells slots Q ws lv pc (.ref a :: st) := fun H locs ls hP hD hS hl => va_alen F.1 F.2.1 hK hP q0 t0 ha ht (v := nI n) rfl d (k H locs ls hP hD hS hl)
end JY
/-! the order: insertion by VALID and KIND, numbers ascending -/
def rowL (f : Nat → Int32) (L : List Nat) : Prop := ∀ i, i < L.length → f i = nI (L.getD i 0)
def insPos (X : AF) (L : List Nat) (x : Nat) : Nat → Nat
  | 0 => 0
  | k + 1 => cond (ahB X x (L.getD k 0)) (insPos X L x k) (k + 1)
def ins (X : AF) (L : List Nat) (x : Nat) : List Nat := L.take (insPos X L x L.length) ++ x :: L.drop (insPos X L x L.length)
theorem insPos_le (X : AF) (L : List Nat) (x k : Nat) : insPos X L x k ≤ k := by
  induction k with
  | zero => exact Nat.le_refl _
  | succ k ih =>
    show cond (ahB X x (L.getD k 0)) (insPos X L x k) (k + 1) ≤ k + 1
    cases ahB X x (L.getD k 0)
    · exact Nat.le_refl _
    · exact Nat.le_succ_of_le ih
theorem insPos_stop {X : AF} {L : List Nat} {x k : Nat} (h : 0 < k) (hb : ahB X x (L.getD (k - 1) 0) = false) : insPos X L x k = k := by
  obtain ⟨j, rfl⟩ : ∃ j, k = j + 1 := ⟨k - 1, by omega⟩
  rw [Nat.add_sub_cancel] at hb
  show cond (ahB X x (L.getD j 0)) (insPos X L x j) (j + 1) = j + 1
  rw [hb]; rfl
theorem insPos_go {X : AF} {L : List Nat} {x k : Nat} (h : 0 < k) (hb : ahB X x (L.getD (k - 1) 0) = true) : insPos X L x k = insPos X L x (k - 1) := by
  obtain ⟨j, rfl⟩ : ∃ j, k = j + 1 := ⟨k - 1, by omega⟩
  rw [Nat.add_sub_cancel] at hb ⊢
  show cond (ahB X x (L.getD j 0)) (insPos X L x j) (j + 1) = _
  rw [hb]; rfl
theorem ins_len (X : AF) (L : List Nat) (x : Nat) : (ins X L x).length = L.length + 1 := by
  have := insPos_le X L x L.length
  unfold ins
  rw [List.length_append, List.length_take, List.length_cons, List.length_drop]
  omega
theorem spl_getD (L : List Nat) (s x i : Nat) (hs : s ≤ L.length) : (L.take s ++ x :: L.drop s).getD i 0 = if i < s then L.getD i 0 else if i = s then x else L.getD (i - 1) 0 := by
  rw [List.getD_eq_getElem?_getD, List.getElem?_append, List.length_take, Nat.min_eq_left hs]
  by_cases h : i < s
  · rw [if_pos h, if_pos h, List.getElem?_take, if_pos h, List.getD_eq_getElem?_getD]
  · rw [if_neg h, if_neg h]
    by_cases h2 : i = s
    · rw [if_pos h2, h2, Nat.sub_self]; rfl
    · rw [if_neg h2]
      obtain ⟨j, hj⟩ : ∃ j, i - s = j + 1 := ⟨i - s - 1, by omega⟩
      rw [hj, List.getElem?_cons_succ, List.getElem?_drop, List.getD_eq_getElem?_getD, show s + j = i - 1 by omega]
theorem ins_row {X : AF} {L : List Nat} {x sp : Nat} {f g : Nat → Int32} (hsp : sp ≤ L.length) (hs : insPos X L x sp = insPos X L x L.length) (hst : insPos X L x sp = sp) (hL : rowL f L) (hlo : ∀ i, i < sp → g i = f i) (hhi : ∀ i, sp < i → i ≤ L.length → g i = f (i - 1)) : rowL (upd g sp (nI x)) (ins X L x) := by
  intro i hi
  rw [ins_len] at hi
  unfold ins
  rw [← hs, hst, spl_getD L sp x i hsp]
  by_cases h : i < sp
  · rw [if_pos h, upd_ne (by omega), hlo i h, hL i (by omega)]
  · rw [if_neg h]
    by_cases h2 : i = sp
    · rw [if_pos h2, h2, upd_eq]
    · rw [if_neg h2, upd_ne h2, hhi i (by omega) (by omega), hL (i - 1) (by omega)]
def ordTo (X : AF) (n : Nat) (t k : Int32) : Nat → List Nat
  | 0 => []
  | i + 1 => cond (hdB X n t k i) (ins X (ordTo X n t k i) i) (ordTo X n t k i)
theorem ordTo_f {X : AF} {n : Nat} {t k : Int32} {i : Nat} (h : hdB X n t k i = false) : ordTo X n t k (i + 1) = ordTo X n t k i := by
  show cond (hdB X n t k i) _ _ = _
  rw [h]; rfl
theorem ordTo_t {X : AF} {n : Nat} {t k : Int32} {i : Nat} (h : hdB X n t k i = true) : ordTo X n t k (i + 1) = ins X (ordTo X n t k i) i := by
  show cond (hdB X n t k i) _ _ = _
  rw [h]; rfl
theorem ins_mem {X : AF} {L : List Nat} {x y : Nat} : y ∈ ins X L x ↔ y = x ∨ y ∈ L := by
  unfold ins
  rw [List.mem_append, List.mem_cons]
  constructor
  · rintro (h | h | h)
    · exact Or.inr (List.mem_of_mem_take h)
    · exact Or.inl h
    · exact Or.inr (List.mem_of_mem_drop h)
  · rintro (h | h)
    · exact Or.inr (Or.inl h)
    · rw [← List.take_append_drop (insPos X L x L.length) L] at h
      rcases List.mem_append.mp h with h | h
      · exact Or.inl h
      · exact Or.inr (Or.inr h)
theorem ordTo_len (X : AF) (n : Nat) (t k : Int32) (i : Nat) : (ordTo X n t k i).length ≤ i := by
  induction i with
  | zero => exact Nat.le_refl _
  | succ i ih =>
    cases h : hdB X n t k i
    · rw [ordTo_f h]; omega
    · rw [ordTo_t h, ins_len]; omega
theorem ordTo_mem {X : AF} {n : Nat} {t k : Int32} {i y : Nat} : y ∈ ordTo X n t k i ↔ y < i ∧ hdB X n t k y = true := by
  induction i with
  | zero => exact ⟨fun h => absurd h List.not_mem_nil, fun h => absurd h.1 (Nat.not_lt_zero _)⟩
  | succ i ih =>
    cases h : hdB X n t k i
    · rw [ordTo_f h, ih]
      refine ⟨fun q => ⟨by omega, q.2⟩, fun q => ⟨?_, q.2⟩⟩
      by_cases e : y = i
      · rw [e, h] at q; exact absurd q.2 Bool.false_ne_true
      · omega
    · rw [ordTo_t h, ins_mem, ih]
      refine ⟨?_, ?_⟩
      · rintro (e | q)
        · rw [e]; exact ⟨by omega, h⟩
        · exact ⟨by omega, q.2⟩
      · intro q
        by_cases e : y = i
        · exact Or.inl e
        · exact Or.inr ⟨by omega, q.2⟩
theorem getD_mem {L : List Nat} {i : Nat} (h : i < L.length) : L.getD i 0 ∈ L := by
  rw [List.getD_eq_getElem?_getD, List.getElem?_eq_getElem h]
  exact List.getElem_mem h
theorem ordTo_lt {X : AF} {n : Nat} {t k : Int32} {i j : Nat} (h : j < (ordTo X n t k i).length) : (ordTo X n t k i).getD j 0 < i := (ordTo_mem.mp (getD_mem h)).1
def ordL (X : AF) (n : Nat) (t k : Int32) : List Nat := ordTo X n t k n
end
section
def rm_O_insert : Room := { frames := 1, cells := 0, slots := 0, locals := 22 }
set_option maxHeartbeats 4000000 in
set_option maxRecDepth 100000 in
theorem ct_O_insert (l : Launch) (D : va_G) (cA : ClassId) (o0 o1 : Nat) (f : Nat → Int32) (L : List Nat) (a0 a1 a2 a3 a4 a5 : Nat) (X : AF) (n : Nat) (hn : n ≤ 80) (hL : rowL f L) (hlen : L.length < 80) (hmem : ∀ i, i < L.length → L.getD i 0 < n) (x : Nat) (hx : x < n) : Cv (S := (Nat → Int32)) l y_O_insert (Cond.code y_O_insert c_O_insert 4 none :: WD) rm_O_insert D vwCl [(cA, .int)] nws [.ref o0, .ref a0, .int (nI x)] [(o0, .inr (2, [.ref o1, .int (nI L.length)])), (o1, .inl (cA, 80, .inl f)), (a0, .inr (0, [.ref a1, .ref a2, .ref a3, .ref a4, .ref a5, .int (nI n)])), (a1, .inl (cA, 80, .inl (X 0))), (a2, .inl (cA, 80, .inl (X 1))), (a3, .inl (cA, 80, .inl (X 2))), (a4, .inl (cA, 80, .inl (X 3))), (a5, .inl (cA, 80, .inl (X 4)))] 0 0 (fun u => rowL u (ins X L x)) (fun u => [(o0, .inr (2, [.ref o1, .int (nI (L.length + 1))])), (o1, .inl (cA, 80, .inl u)), (a0, .inr (0, [.ref a1, .ref a2, .ref a3, .ref a4, .ref a5, .int (nI n)])), (a1, .inl (cA, 80, .inl (X 0))), (a2, .inl (cA, 80, .inl (X 1))), (a3, .inl (cA, 80, .inl (X 2))), (a4, .inl (cA, 80, .inl (X 3))), (a5, .inl (cA, 80, .inl (X 4)))]) := by
  refine Cv.of (cc := c_O_insert) (nL := 4) (lv := [(0, .ref o0), (1, .ref a0), (2, .int (nI x))]) (by decide) rfl (Nat.le_of_ble_eq_true rfl) rfl ?_
  intro p e s m args below meth cd A Q F hK hN hA hinit ret
  refine j_aloadn F d_O_insert_0 0 rfl rfl ?_
  refine j_get (ci := 2) (v := .int (nI L.length)) F in_O hK 0 rfl rfl 1 (by decide) (wm k_73) rfl d_O_insert_1 ?_
  refine j_istoren (lv' := [(3, .int (nI L.length)), (0, .ref o0), (1, .ref a0), (2, .int (nI x))]) F d_O_insert_4 rfl (by decide) rfl ?_
  have loop5 : ∀ (fuel : Nat) (sp : Nat) (g : Nat → Int32) (hfuel : sp < fuel) (hsp : sp ≤ L.length) (hs : insPos X L x sp = insPos X L x L.length) (hlo : ∀ i, i < sp → g i = f i) (hhi : ∀ i, sp < i → i ≤ L.length → g i = f (i - 1)), J p l e rm_O_insert s m args below meth cd D vwCl A s.heap 4 0 0 Q [(o0, .inr (2, [.ref o1, .int (nI L.length)])), (o1, .inl (cA, 80, .inl g)), (a0, .inr (0, [.ref a1, .ref a2, .ref a3, .ref a4, .ref a5, .int (nI n)])), (a1, .inl (cA, 80, .inl (X 0))), (a2, .inl (cA, 80, .inl (X 1))), (a3, .inl (cA, 80, .inl (X 2))), (a4, .inl (cA, 80, .inl (X 3))), (a5, .inl (cA, 80, .inl (X 4)))] [(0, .ref o0), (1, .ref a0), (2, .int (nI x)), (3, .int (nI sp))] 5 [] := by
    intro fuel
    induction fuel with
    | zero => intro sp g hfuel; exact absurd hfuel (Nat.not_lt_zero _)
    | succ fuel ih =>
      intro sp g hfuel hsp hs hlo hhi
      refine j_iloadn F d_O_insert_5 3 rfl rfl ?_
      refine j_if_le (tgt := 45) F d_O_insert_6 (by decide) (fun c_6 => ?_) (fun c_6 => ?_)
      · have c_6 : sp ≤ 0 := (nI_leI (by omega) (by omega)).mp c_6
        refine j_aloadn F d_O_insert_45 0 rfl rfl ?_
        refine j_get (ci := 2) (v := .ref o1) F in_O hK 0 rfl rfl 0 (by decide) (wm k_70) rfl d_O_insert_46 ?_
        refine j_iloadn F d_O_insert_49 3 rfl rfl ?_
        refine j_iloadn F d_O_insert_50 2 rfl rfl ?_
        refine j_iast (ws' := [(o0, .inr (2, [.ref o1, .int (nI L.length)])), (o1, .inl (cA, 80, .inl (upd g sp (nI x)))), (a0, .inr (0, [.ref a1, .ref a2, .ref a3, .ref a4, .ref a5, .int (nI n)])), (a1, .inl (cA, 80, .inl (X 0))), (a2, .inl (cA, 80, .inl (X 1))), (a3, .inl (cA, 80, .inl (X 2))), (a4, .inl (cA, 80, .inl (X 3))), (a5, .inl (cA, 80, .inl (X 4)))]) F hK 1 0 rfl rfl (by omega) (by decide) d_O_insert_51 rfl ?_
        refine j_aloadn F d_O_insert_52 0 rfl rfl ?_
        refine j_dup F d_O_insert_53 rfl ?_
        refine j_get (ci := 2) (v := .int (nI L.length)) F in_O hK 0 rfl rfl 1 (by decide) (wm k_73) rfl d_O_insert_54 ?_
        refine j_iconst (v := nI 1) F d_O_insert_57 (by decide) ?_
        refine j_iadd (v := nI (L.length + 1)) F d_O_insert_58 (nI_add _ _) ?_
        refine j_put (ci := 2) (v := .int (nI (L.length + 1))) (ty := .int) (ws' := [(o0, .inr (2, [.ref o1, .int (nI (L.length + 1))])), (o1, .inl (cA, 80, .inl (upd g sp (nI x)))), (a0, .inr (0, [.ref a1, .ref a2, .ref a3, .ref a4, .ref a5, .int (nI n)])), (a1, .inl (cA, 80, .inl (X 0))), (a2, .inl (cA, 80, .inl (X 1))), (a3, .inl (cA, 80, .inl (X 2))), (a4, .inl (cA, 80, .inl (X 3))), (a5, .inl (cA, 80, .inl (X 4)))]) F in_O ty_O tk_O nm_O hK 0 rfl rfl 1 (by decide) (wm k_73) rfl (by decide +kernel) rfl rfl (Nat.le_of_ble_eq_true rfl) d_O_insert_59 rfl ?_
        exact ret _ _ _ _ _ (upd g sp (nI x)) d_O_insert_62 (by decide) (by decide) rfl (ins_row hsp hs (by have h0 : sp = 0 := (by omega); subst h0; rfl) hL hlo hhi)
      · have c_6 : ¬ sp ≤ 0 := fun h => c_6 ((nI_leI (by omega) (by omega)).mpr h)
        refine j_aloadn F d_O_insert_9 1 rfl rfl ?_
        refine j_iloadn F d_O_insert_10 2 rfl rfl ?_
        refine j_aloadn F d_O_insert_11 0 rfl rfl ?_
        refine j_get (ci := 2) (v := .ref o1) F in_O hK 0 rfl rfl 0 (by decide) (wm k_70) rfl d_O_insert_12 ?_
        refine j_iloadn F d_O_insert_15 3 rfl rfl ?_
        refine j_iconst (v := nI 1) F d_O_insert_16 (by decide) ?_
        refine j_isub (v := nI (sp - 1)) F d_O_insert_17 (pk_sub (by omega)) ?_
        refine j_iald (v := nI (L.getD (sp - 1) 0)) F hK 1 0 rfl rfl (by omega) (by decide) d_O_insert_18 (by rw [hlo _ (by omega)]; exact hL _ (by omega)) ?_
        have hm := hmem (sp - 1) (by omega)
        refine j_goi (wc := [(a0, .inr (0, [.ref a1, .ref a2, .ref a3, .ref a4, .ref a5, .int (nI n)])), (a1, .inl (cA, 80, .inl (X 0))), (a2, .inl (cA, 80, .inl (X 1))), (a3, .inl (cA, 80, .inl (X 2))), (a4, .inl (cA, 80, .inl (X 3))), (a5, .inl (cA, 80, .inl (X 4)))]) (wr := [(o0, .inr (2, [.ref o1, .int (nI L.length)])), (o1, .inl (cA, 80, .inl g))]) hA [2, 3, 4, 5, 6, 7] [0, 1] rfl rfl (by decide) (by decide) (fun H locs ls hP hD hl => va_runVN (As := [.int (nI x), .int (nI (L.getD (sp - 1) 0))]) (rest := []) F (ct_A_goesAhead l D cA a0 a1 a2 a3 a4 a5 X n (by omega) x (L.getD (sp - 1) 0) (by omega) (by omega) H.size) ⟨va_cnB 2 F.2.2.2.2 (gd k_307) rfl rfl rfl (hN _ n_304).1 (F.2.2.2.2 _ (wm k_2)) (by decide +kernel) ⟨by decide, by decide⟩, F.2.2.2.2 _ (wm k_306), F.2.2.2.2 _ (wm ks_12)⟩ (pre_V rfl hK hN hP hD [2, 3, 4, 5, 6, 7] rfl (by decide) 2 rfl rfl) rfl rfl hl.1 rfl (lv_room (Nat.le_of_ble_eq_true rfl)) d_O_insert_19 ⟨by decide, by decide⟩) (fun r19 u19 hw19 => ?_)
        subst hw19
        refine j_ws (ws' := [(o0, .inr (2, [.ref o1, .int (nI L.length)])), (o1, .inl (cA, 80, .inl g)), (a0, .inr (0, [.ref a1, .ref a2, .ref a3, .ref a4, .ref a5, .int (nI n)])), (a1, .inl (cA, 80, .inl (X 0))), (a2, .inl (cA, 80, .inl (X 1))), (a3, .inl (cA, 80, .inl (X 2))), (a4, .inl (cA, 80, .inl (X 3))), (a5, .inl (cA, 80, .inl (X 4)))]) [0, 1, 2, 3, 4, 5, 6, 7] (by decide) rfl ?_
        refine j_if_eq (tgt := 45) F d_O_insert_22 (by decide) (fun c_22 => ?_) (fun c_22 => ?_)
        · refine j_aloadn F d_O_insert_45 0 rfl rfl ?_
          refine j_get (ci := 2) (v := .ref o1) F in_O hK 0 rfl rfl 0 (by decide) (wm k_70) rfl d_O_insert_46 ?_
          refine j_iloadn F d_O_insert_49 3 rfl rfl ?_
          refine j_iloadn F d_O_insert_50 2 rfl rfl ?_
          refine j_iast (ws' := [(o0, .inr (2, [.ref o1, .int (nI L.length)])), (o1, .inl (cA, 80, .inl (upd g sp (nI x)))), (a0, .inr (0, [.ref a1, .ref a2, .ref a3, .ref a4, .ref a5, .int (nI n)])), (a1, .inl (cA, 80, .inl (X 0))), (a2, .inl (cA, 80, .inl (X 1))), (a3, .inl (cA, 80, .inl (X 2))), (a4, .inl (cA, 80, .inl (X 3))), (a5, .inl (cA, 80, .inl (X 4)))]) F hK 1 0 rfl rfl (by omega) (by decide) d_O_insert_51 rfl ?_
          refine j_aloadn F d_O_insert_52 0 rfl rfl ?_
          refine j_dup F d_O_insert_53 rfl ?_
          refine j_get (ci := 2) (v := .int (nI L.length)) F in_O hK 0 rfl rfl 1 (by decide) (wm k_73) rfl d_O_insert_54 ?_
          refine j_iconst (v := nI 1) F d_O_insert_57 (by decide) ?_
          refine j_iadd (v := nI (L.length + 1)) F d_O_insert_58 (nI_add _ _) ?_
          refine j_put (ci := 2) (v := .int (nI (L.length + 1))) (ty := .int) (ws' := [(o0, .inr (2, [.ref o1, .int (nI (L.length + 1))])), (o1, .inl (cA, 80, .inl (upd g sp (nI x)))), (a0, .inr (0, [.ref a1, .ref a2, .ref a3, .ref a4, .ref a5, .int (nI n)])), (a1, .inl (cA, 80, .inl (X 0))), (a2, .inl (cA, 80, .inl (X 1))), (a3, .inl (cA, 80, .inl (X 2))), (a4, .inl (cA, 80, .inl (X 3))), (a5, .inl (cA, 80, .inl (X 4)))]) F in_O ty_O tk_O nm_O hK 0 rfl rfl 1 (by decide) (wm k_73) rfl (by decide +kernel) rfl rfl (Nat.le_of_ble_eq_true rfl) d_O_insert_59 rfl ?_
          exact ret _ _ _ _ _ (upd g sp (nI x)) d_O_insert_62 (by decide) (by decide) rfl (ins_row hsp hs (insPos_stop (by omega) (bI_0 c_22)) hL hlo hhi)
        · refine j_aloadn F d_O_insert_25 0 rfl rfl ?_
          refine j_get (ci := 2) (v := .ref o1) F in_O hK 0 rfl rfl 0 (by decide) (wm k_70) rfl d_O_insert_26 ?_
          refine j_iloadn F d_O_insert_29 3 rfl rfl ?_
          refine j_aloadn F d_O_insert_30 0 rfl rfl ?_
          refine j_get (ci := 2) (v := .ref o1) F in_O hK 0 rfl rfl 0 (by decide) (wm k_70) rfl d_O_insert_31 ?_
          refine j_iloadn F d_O_insert_34 3 rfl rfl ?_
          refine j_iconst (v := nI 1) F d_O_insert_35 (by decide) ?_
          refine j_isub (v := nI (sp - 1)) F d_O_insert_36 (pk_sub (by omega)) ?_
          refine j_iald (v := g (sp - 1)) F hK 1 0 rfl rfl (by omega) (by decide) d_O_insert_37 rfl ?_
          refine j_iast (ws' := [(o0, .inr (2, [.ref o1, .int (nI L.length)])), (o1, .inl (cA, 80, .inl (upd g sp (g (sp - 1))))), (a0, .inr (0, [.ref a1, .ref a2, .ref a3, .ref a4, .ref a5, .int (nI n)])), (a1, .inl (cA, 80, .inl (X 0))), (a2, .inl (cA, 80, .inl (X 1))), (a3, .inl (cA, 80, .inl (X 2))), (a4, .inl (cA, 80, .inl (X 3))), (a5, .inl (cA, 80, .inl (X 4)))]) F hK 1 0 rfl rfl (by omega) (by decide) d_O_insert_38 rfl ?_
          refine j_iinc (v := nI (sp - 1)) (lv' := [(3, .int (nI (sp - 1))), (0, .ref o0), (1, .ref a0), (2, .int (nI x))]) F d_O_insert_39 3 rfl (jn_dec (by omega)) (by decide) rfl ?_
          refine j_goto (tgt := 5) F d_O_insert_42 (by decide) ?_
          refine j_lv (lv' := [(0, .ref o0), (1, .ref a0), (2, .int (nI x)), (3, .int (nI (sp - 1)))]) [1, 2, 3, 0] rfl ?_
          exact ih (sp - 1) (upd g sp (g (sp - 1))) (by omega) (by omega) (by rw [← insPos_go (by omega) (bI_1 c_22)]; exact hs) (fun i hi => by rw [upd_ne (by omega)]; exact hlo i (by omega)) (fun i h1 h2 => by
            by_cases e1 : i = sp
            · subst e1; rw [upd_eq, hlo (i - 1) (by omega)]
            · rw [upd_ne e1, hhi i (by omega) h2])
  refine j_lv (lv' := [(0, .ref o0), (1, .ref a0), (2, .int (nI x)), (3, .int (nI L.length))]) [1, 2, 3, 0] rfl ?_
  exact loop5 (L.length + 1) L.length f (by omega) (by omega) rfl (fun _ _ => rfl) (fun i h1 h2 => by omega)

def rm_O_gather : Room := { frames := 2, cells := 0, slots := 0, locals := 46 }
set_option maxHeartbeats 4000000 in
set_option maxRecDepth 100000 in
theorem ct_O_gather (l : Launch) (D : va_G) (cA : ClassId) (o0 o1 : Nat) (z : Int32) (f : Nat → Int32) (a0 a1 a2 a3 a4 a5 : Nat) (X : AF) (n : Nat) (hA0 : aok X n) (t k : Int32) : Cv (S := (Nat → Int32)) l y_O_gather (Cond.code y_O_gather c_O_gather 5 none :: WD) rm_O_gather D vwCl [(cA, .int)] nws [.ref o0, .ref a0, .int t, .int k] [(o0, .inr (2, [.ref o1, .int z])), (o1, .inl (cA, 80, .inl f)), (a0, .inr (0, [.ref a1, .ref a2, .ref a3, .ref a4, .ref a5, .int (nI n)])), (a1, .inl (cA, 80, .inl (X 0))), (a2, .inl (cA, 80, .inl (X 1))), (a3, .inl (cA, 80, .inl (X 2))), (a4, .inl (cA, 80, .inl (X 3))), (a5, .inl (cA, 80, .inl (X 4)))] 0 0 (fun u => rowL u (ordL X n t k)) (fun u => [(o0, .inr (2, [.ref o1, .int (nI ((ordL X n t k).length))])), (o1, .inl (cA, 80, .inl u)), (a0, .inr (0, [.ref a1, .ref a2, .ref a3, .ref a4, .ref a5, .int (nI n)])), (a1, .inl (cA, 80, .inl (X 0))), (a2, .inl (cA, 80, .inl (X 1))), (a3, .inl (cA, 80, .inl (X 2))), (a4, .inl (cA, 80, .inl (X 3))), (a5, .inl (cA, 80, .inl (X 4)))]) := by
  refine Cv.of (cc := c_O_gather) (nL := 5) (lv := [(0, .ref o0), (1, .ref a0), (2, .int t), (3, .int k)]) (by decide) rfl (Nat.le_of_ble_eq_true rfl) rfl ?_
  intro p e s m args below meth cd A Q F hK hN hA hinit ret
  have h80 := hA0.1
  refine j_aloadn F d_O_gather_0 0 rfl rfl ?_
  refine j_iconst (v := nI 0) F d_O_gather_1 (by decide) ?_
  refine j_put (ci := 2) (v := .int (nI 0)) (ty := .int) (ws' := [(o0, .inr (2, [.ref o1, .int (nI 0)])), (o1, .inl (cA, 80, .inl f)), (a0, .inr (0, [.ref a1, .ref a2, .ref a3, .ref a4, .ref a5, .int (nI n)])), (a1, .inl (cA, 80, .inl (X 0))), (a2, .inl (cA, 80, .inl (X 1))), (a3, .inl (cA, 80, .inl (X 2))), (a4, .inl (cA, 80, .inl (X 3))), (a5, .inl (cA, 80, .inl (X 4)))]) F in_O ty_O tk_O nm_O hK 0 rfl rfl 1 (by decide) (wm k_73) rfl (by decide +kernel) rfl rfl (Nat.le_of_ble_eq_true rfl) d_O_gather_2 rfl ?_
  refine j_iconst (v := nI 0) F d_O_gather_5 (by decide) ?_
  refine j_istore (lv' := [(4, .int (nI 0)), (0, .ref o0), (1, .ref a0), (2, .int t), (3, .int k)]) F d_O_gather_6 (by decide) rfl ?_
  have loop8 : ∀ (fuel : Nat) (i : Nat) (g : Nat → Int32) (hfuel : n - i < fuel) (hi : i ≤ n) (hg : rowL g (ordTo X n t k i)), J p l e rm_O_gather s m args below meth cd D vwCl A s.heap 5 0 0 Q [(o0, .inr (2, [.ref o1, .int (nI ((ordTo X n t k i).length))])), (o1, .inl (cA, 80, .inl g)), (a0, .inr (0, [.ref a1, .ref a2, .ref a3, .ref a4, .ref a5, .int (nI n)])), (a1, .inl (cA, 80, .inl (X 0))), (a2, .inl (cA, 80, .inl (X 1))), (a3, .inl (cA, 80, .inl (X 2))), (a4, .inl (cA, 80, .inl (X 3))), (a5, .inl (cA, 80, .inl (X 4)))] [(0, .ref o0), (1, .ref a0), (2, .int t), (3, .int k), (4, .int (nI i))] 8 [] := by
    intro fuel
    induction fuel with
    | zero => intro i g hfuel; exact absurd hfuel (Nat.not_lt_zero _)
    | succ fuel ih =>
      intro i g hfuel hi hg
      refine j_iload F d_O_gather_8 4 rfl ?_
      refine j_aloadn F d_O_gather_10 1 rfl rfl ?_
      refine j_getN (ci := 0) (v := .int (nI n)) F in_A hK hN 2 rfl rfl 5 (by decide) n_48 rfl d_O_gather_11 ?_
      refine j_ic_ge (tgt := 41) F d_O_gather_14 (by decide) (fun c_14 => ?_) (fun c_14 => ?_)
      · have c_14 : n ≤ i := (nI_leI (by omega) (by omega)).mp c_14
        have hin : i = n := by omega
        subst hin
        exact ret _ _ _ _ _ g d_O_gather_41 (by decide) (by decide) rfl hg
      · have c_14 : ¬ n ≤ i := fun h => c_14 ((nI_leI (by omega) (by omega)).mpr h)
        refine j_aloadn F d_O_gather_17 1 rfl rfl ?_
        refine j_iload F d_O_gather_18 4 rfl ?_
        refine j_iloadn F d_O_gather_20 2 rfl rfl ?_
        refine j_iloadn F d_O_gather_21 3 rfl rfl ?_
        refine j_goi (wc := [(a0, .inr (0, [.ref a1, .ref a2, .ref a3, .ref a4, .ref a5, .int (nI n)])), (a1, .inl (cA, 80, .inl (X 0))), (a2, .inl (cA, 80, .inl (X 1))), (a3, .inl (cA, 80, .inl (X 2))), (a4, .inl (cA, 80, .inl (X 3))), (a5, .inl (cA, 80, .inl (X 4)))]) (wr := [(o0, .inr (2, [.ref o1, .int (nI ((ordTo X n t k i).length))])), (o1, .inl (cA, 80, .inl g))]) hA [2, 3, 4, 5, 6, 7] [0, 1] rfl rfl (by decide) (by decide) (fun H locs ls hP hD hl => va_runVN (As := [.int (nI i), .int t, .int k]) (rest := []) F (ct_A_holds l D cA a0 a1 a2 a3 a4 a5 X n hA0 i (by omega) t k H.size) ⟨va_cnB 3 F.2.2.2.2 (gd k_299) rfl rfl rfl (hN _ n_296).1 (F.2.2.2.2 _ (wm k_2)) (by decide +kernel) ⟨by decide, by decide⟩, F.2.2.2.2 _ (wm k_298), F.2.2.2.2 _ (wm ks_10)⟩ (pre_V rfl hK hN hP hD [2, 3, 4, 5, 6, 7] rfl (by decide) 2 rfl rfl) rfl rfl hl.1 rfl (lv_room (Nat.le_of_ble_eq_true rfl)) d_O_gather_22 ⟨by decide, by decide⟩) (fun r22 u22 hw22 => ?_)
        subst hw22
        refine j_ws (ws' := [(o0, .inr (2, [.ref o1, .int (nI ((ordTo X n t k i).length))])), (o1, .inl (cA, 80, .inl g)), (a0, .inr (0, [.ref a1, .ref a2, .ref a3, .ref a4, .ref a5, .int (nI n)])), (a1, .inl (cA, 80, .inl (X 0))), (a2, .inl (cA, 80, .inl (X 1))), (a3, .inl (cA, 80, .inl (X 2))), (a4, .inl (cA, 80, .inl (X 3))), (a5, .inl (cA, 80, .inl (X 4)))]) [0, 1, 2, 3, 4, 5, 6, 7] (by decide) rfl ?_
        refine j_if_eq (tgt := 35) F d_O_gather_25 (by decide) (fun c_25 => ?_) (fun c_25 => ?_)
        · have ho : ordTo X n t k (i + 1) = ordTo X n t k i := ordTo_f (bI_0 c_25)
          rw [← ho] at hg ⊢
          refine j_iinc (v := nI (i + 1)) (lv' := [(4, .int (nI (i + 1))), (0, .ref o0), (1, .ref a0), (2, .int t), (3, .int k)]) F d_O_gather_35 4 rfl (jn_inc i) (by decide) rfl ?_
          refine j_goto (tgt := 8) F d_O_gather_38 (by decide) ?_
          refine j_lv (lv' := [(0, .ref o0), (1, .ref a0), (2, .int t), (3, .int k), (4, .int (nI (i + 1)))]) [1, 2, 3, 4, 0] rfl ?_
          exact ih (i + 1) g (by omega) (by omega) hg
        · refine j_aloadn F d_O_gather_28 0 rfl rfl ?_
          refine j_aloadn F d_O_gather_29 1 rfl rfl ?_
          refine j_iload F d_O_gather_30 4 rfl ?_
          refine j_gov (wc := [(o0, .inr (2, [.ref o1, .int (nI ((ordTo X n t k i).length))])), (o1, .inl (cA, 80, .inl g)), (a0, .inr (0, [.ref a1, .ref a2, .ref a3, .ref a4, .ref a5, .int (nI n)])), (a1, .inl (cA, 80, .inl (X 0))), (a2, .inl (cA, 80, .inl (X 1))), (a3, .inl (cA, 80, .inl (X 2))), (a4, .inl (cA, 80, .inl (X 3))), (a5, .inl (cA, 80, .inl (X 4)))]) (wr := []) hA [0, 1, 2, 3, 4, 5, 6, 7] [] rfl rfl (by decide) (by decide) (fun H locs ls hP hD hl => va_runV (As := [.ref a0, .int (nI i)]) (rest := []) F (ct_O_insert l D cA o0 o1 g (ordTo X n t k i) a0 a1 a2 a3 a4 a5 X n (by omega) hg (by have := ordTo_len X n t k i; omega) (fun j hj => by have := ordTo_lt hj; omega) i (by omega) H.size) ⟨callB_of 2 F.2.2.2.2 (gd k_303) rfl rfl rfl (F.2.2.2.2 _ (wm k_3)) (F.2.2.2.2 _ (wm k_300)) (by decide +kernel) ⟨by decide, by decide⟩, F.2.2.2.2 _ (wm k_302), F.2.2.2.2 _ (wm ks_11)⟩ (pre_V rfl hK hN hP hD [0, 1, 2, 3, 4, 5, 6, 7] rfl (by decide) 0 rfl rfl) rfl rfl hl.1 rfl (lv_room (Nat.le_of_ble_eq_true rfl)) d_O_gather_32 ⟨by decide, by decide⟩) (fun u32 hw32 => ?_)
          refine j_ws (ws' := [(o0, .inr (2, [.ref o1, .int (nI ((ordTo X n t k i).length + 1))])), (o1, .inl (cA, 80, .inl u32)), (a0, .inr (0, [.ref a1, .ref a2, .ref a3, .ref a4, .ref a5, .int (nI n)])), (a1, .inl (cA, 80, .inl (X 0))), (a2, .inl (cA, 80, .inl (X 1))), (a3, .inl (cA, 80, .inl (X 2))), (a4, .inl (cA, 80, .inl (X 3))), (a5, .inl (cA, 80, .inl (X 4)))]) [0, 1, 2, 3, 4, 5, 6, 7] (by decide) rfl ?_
          have ho : ordTo X n t k (i + 1) = ins X (ordTo X n t k i) i := ordTo_t (bI_1 c_25)
          have hl1 : (ordTo X n t k i).length + 1 = (ordTo X n t k (i + 1)).length := by rw [ho, ins_len]
          rw [hl1]
          rw [← ho] at hw32
          refine j_iinc (v := nI (i + 1)) (lv' := [(4, .int (nI (i + 1))), (0, .ref o0), (1, .ref a0), (2, .int t), (3, .int k)]) F d_O_gather_35 4 rfl (jn_inc i) (by decide) rfl ?_
          refine j_goto (tgt := 8) F d_O_gather_38 (by decide) ?_
          refine j_lv (lv' := [(0, .ref o0), (1, .ref a0), (2, .int t), (3, .int k), (4, .int (nI (i + 1)))]) [1, 2, 3, 4, 0] rfl ?_
          exact ih (i + 1) u32 (by omega) (by omega) hw32
  refine j_lv (lv' := [(0, .ref o0), (1, .ref a0), (2, .int t), (3, .int k), (4, .int (nI 0))]) [1, 2, 3, 4, 0] rfl ?_
  exact loop8 (n + 1) 0 f (by omega) (by omega) (fun j hj => absurd hj (Nat.not_lt_zero _))

def rm_Ar_fill : Room := { frames := 0, cells := 0, slots := 0, locals := 0 }
set_option maxHeartbeats 4000000 in
set_option maxRecDepth 100000 in
theorem ct_Ar_fill (l : Launch) (D : va_G) (cA : ClassId) (q n : Nat) (hn : n < 1000) (f : Nat → Int32) (v : Int32) : Cv (S := Unit) l y_Ar_fill (Cond.code y_Ar_fill c_Ar_fill 4 none :: WD) rm_Ar_fill D vwCl [(cA, .int)] nws [.ref q, .int v] [(q, .inl (cA, n, .inl f))] 0 0 (fun _ => True) (fun _ => [(q, .inl (cA, n, .inl (fun _ => v)))]) := by
  refine Cv.of (cc := c_Ar_fill) (nL := 4) (lv := [(0, .ref q), (1, .int v)]) (by decide) rfl (Nat.le_of_ble_eq_true rfl) rfl ?_
  intro p e s m args below meth cd A Q F hK hN hA hinit ret
  refine j_iconst (v := nI 0) F d_Ar_fill_0 (by decide) ?_
  refine j_istoren (lv' := [(2, .int (nI 0)), (0, .ref q), (1, .int v)]) F d_Ar_fill_1 rfl (by decide) rfl ?_
  refine j_aloadn F d_Ar_fill_2 1 rfl rfl ?_
  refine j_alen F hK 0 0 rfl rfl d_Ar_fill_3 ?_
  refine j_istoren (lv' := [(3, .int (nI n)), (2, .int (nI 0)), (0, .ref q), (1, .int v)]) F d_Ar_fill_4 rfl (by decide) rfl ?_
  have loop5 : ∀ (fuel : Nat) (i : Nat) (g : Nat → Int32) (hfuel : n - i < fuel) (hi : i ≤ n) (hg : ∀ j, j < i → g j = v), J p l e rm_Ar_fill s m args below meth cd D vwCl A s.heap 4 0 0 Q [(q, .inl (cA, n, .inl g))] [(0, .ref q), (1, .int v), (2, .int (nI i)), (3, .int (nI n))] 5 [] := by
    intro fuel
    induction fuel with
    | zero => intro i g hfuel; exact absurd hfuel (Nat.not_lt_zero _)
    | succ fuel ih =>
      intro i g hfuel hi hg
      refine j_iloadn F d_Ar_fill_5 2 rfl rfl ?_
      refine j_iloadn F d_Ar_fill_6 3 rfl rfl ?_
      refine j_ic_ge (tgt := 20) F d_Ar_fill_7 (by decide) (fun c_7 => ?_) (fun c_7 => ?_)
      · have c_7 : n ≤ i := (nI_leI (by omega) (by omega)).mp c_7
        refine j_ext (ws' := [(q, .inl (cA, n, .inl (fun _ => v)))]) 0 (g := fun _ => v) rfl (fun j hj => hg j (by omega)) rfl ?_
        exact ret _ _ _ _ _ () d_Ar_fill_20 (by decide) (by decide) rfl trivial
      · have c_7 : ¬ n ≤ i := fun h => c_7 ((nI_leI (by omega) (by omega)).mpr h)
        refine j_aloadn F d_Ar_fill_10 0 rfl rfl ?_
        refine j_iloadn F d_Ar_fill_11 2 rfl rfl ?_
        refine j_iloadn F d_Ar_fill_12 1 rfl rfl ?_
        refine j_iast (ws' := [(q, .inl (cA, n, .inl (upd g i v)))]) F hK 0 0 rfl rfl (by omega) (by omega) d_Ar_fill_13 rfl ?_
        refine j_iinc (v := nI (i + 1)) (lv' := [(2, .int (nI (i + 1))), (0, .ref q), (1, .int v), (3, .int (nI n))]) F d_Ar_fill_14 2 rfl (jn_inc i) (by decide) rfl ?_
        refine j_goto (tgt := 5) F d_Ar_fill_17 (by decide) ?_
        refine j_lv (lv' := [(0, .ref q), (1, .int v), (2, .int (nI (i + 1))), (3, .int (nI n))]) [1, 2, 0, 3] rfl ?_
        exact ih (i + 1) (upd g i v) (by omega) (by omega) (fun j hj => by
          by_cases e1 : j = i
          · rw [e1, upd_eq]
          · rw [upd_ne e1]; exact hg j (by omega))
  refine j_lv (lv' := [(0, .ref q), (1, .int v), (2, .int (nI 0)), (3, .int (nI n))]) [2, 3, 1, 0] rfl ?_
  exact loop5 (n + 1) 0 f (by omega) (by omega) (fun j hj => absurd hj (Nat.not_lt_zero _))
end
section
/-! the picture: where boxes lie (-1 is nowhere), how declarations stand, act after act -/
def freeB (sl : Nat → Int32) (x : Int32) : Bool := (List.range 20).all (fun i => !decide (sl i = x))
def bxP (sl : Nat → Int32) (x r : Int32) : Prop := (r = -1 ∧ ∀ i, i < 20 → ¬ sl i = x) ∨ ∃ b, b < 20 ∧ r = nI b ∧ sl b = x
theorem freeB_t {sl : Nat → Int32} {x : Int32} (h : ∀ i, i < 20 → ¬ sl i = x) : freeB sl x = true := by
  unfold freeB
  rw [List.all_eq_true]
  intro i hi
  rw [decide_eq_false (h i (List.mem_range.mp hi))]; rfl
theorem freeB_f {sl : Nat → Int32} {x : Int32} {b : Nat} (hb : b < 20) (h : sl b = x) : freeB sl x = false := by
  unfold freeB
  rw [List.all_eq_false]
  exact ⟨b, List.mem_range.mpr hb, by rw [decide_eq_true h]; exact Bool.false_ne_true⟩
theorem bxP_t {sl : Nat → Int32} {x r : Int32} (h : bxP sl x r) (hr : r = -1) : freeB sl x = true := by
  rcases h with h | ⟨b, hb, e, -⟩
  · exact freeB_t h.2
  · rw [e] at hr
    have h1 := nI_toInt (n := b) (by omega)
    rw [hr] at h1
    have h2 : ((-1 : Int32)).toInt = -1 := by decide
    omega
theorem bxP_f {sl : Nat → Int32} {x r : Int32} (h : bxP sl x r) (hr : ¬ r = -1) : freeB sl x = false := by
  rcases h with h | ⟨b, hb, e, hs⟩
  · exact absurd h.1 hr
  · exact freeB_f hb hs
def stS (X : AF) (e : Nat) (sl : Nat → Int32) : Nat → Int32 := if X 0 e = nI 0 then cond (freeB sl (X 2 e)) (upd sl (X 1 e).toNatClampNeg (X 2 e)) sl else if X 0 e = nI 1 then upd sl (X 1 e).toNatClampNeg (-1) else sl
def stT (X : AF) (e : Nat) (stt : Nat → Int32) : Nat → Int32 := if X 0 e = nI 2 then upd stt (X 1 e).toNatClampNeg (if stt (X 1 e).toNatClampNeg < X 2 e then X 2 e else stt (X 1 e).toNatClampNeg) else stt
def stM (X : AF) (e : Nat) (sm : Nat → Int32) : Nat → Int32 := if X 0 e = nI 3 then upd sm (X 1 e).toNatClampNeg (sm (X 1 e).toNatClampNeg + X 2 e) else sm
theorem stS_0t {X : AF} {e a : Nat} {sl : Nat → Int32} (h : X 0 e = nI 0) (ea : X 1 e = nI a) (ha : a < 20) (hf : freeB sl (X 2 e) = true) : stS X e sl = upd sl a (X 2 e) := by
  unfold stS; rw [if_pos h, hf, ea, nI_clamp (by omega)]; rfl
theorem stS_0f {X : AF} {e : Nat} {sl : Nat → Int32} (h : X 0 e = nI 0) (hf : freeB sl (X 2 e) = false) : stS X e sl = sl := by
  unfold stS; rw [if_pos h, hf]; rfl
theorem stS_1 {X : AF} {e a : Nat} {sl : Nat → Int32} (h : X 0 e = nI 1) (ea : X 1 e = nI a) (ha : a < 20) : stS X e sl = upd sl a (-1) := by
  unfold stS; rw [if_neg (by rw [h]; decide), if_pos h, ea, nI_clamp (by omega)]
theorem stS_n {X : AF} {e : Nat} {sl : Nat → Int32} (h : ¬ X 0 e = nI 0) (h1 : ¬ X 0 e = nI 1) : stS X e sl = sl := by
  unfold stS; rw [if_neg h, if_neg h1]
theorem stT_2 {X : AF} {e a : Nat} {stt : Nat → Int32} (h : X 0 e = nI 2) (ea : X 1 e = nI a) (ha : a < 10) : stT X e stt = upd stt a (if stt a < X 2 e then X 2 e else stt a) := by
  unfold stT; rw [if_pos h, ea, nI_clamp (by omega)]
theorem stT_n {X : AF} {e : Nat} {stt : Nat → Int32} (h : ¬ X 0 e = nI 2) : stT X e stt = stt := by
  unfold stT; rw [if_neg h]
theorem stM_3 {X : AF} {e a : Nat} {sm : Nat → Int32} (h : X 0 e = nI 3) (ea : X 1 e = nI a) (ha : a < 10) : stM X e sm = upd sm a (sm a + X 2 e) := by
  unfold stM; rw [if_pos h, ea, nI_clamp (by omega)]
theorem stM_n {X : AF} {e : Nat} {sm : Nat → Int32} (h : ¬ X 0 e = nI 3) : stM X e sm = sm := by
  unfold stM; rw [if_neg h]
theorem kne {x : Int32} {a b : Nat} (h : x = nI a) (ha : a < 10) (hb : b < 10) (hab : a ≠ b) : ¬ x = nI b := fun e => hab ((nI_eq (by omega) (by omega)).mp (h.symm.trans e))
theorem aok_0 {X : AF} {e : Nat} (h : aok1 X e) (hk : X 0 e = nI 0) : (∃ a, a < 20 ∧ X 1 e = nI a) ∧ ∃ b, b < 100 ∧ X 2 e = nI b := by
  rcases h.2 with h | h | h | h | h | h
  · exact h.2
  · exact absurd h.1 (kne hk (by decide) (by decide) (by decide))
  · exact absurd h.1 (kne hk (by decide) (by decide) (by decide))
  · exact absurd h.1 (kne hk (by decide) (by decide) (by decide))
  · exact absurd h.1 (kne hk (by decide) (by decide) (by decide))
  · exact absurd h.1 (kne hk (by decide) (by decide) (by decide))
theorem aok_1 {X : AF} {e : Nat} (h : aok1 X e) (hk : X 0 e = nI 1) : ∃ a, a < 20 ∧ X 1 e = nI a := by
  rcases h.2 with h | h | h | h | h | h
  · exact absurd h.1 (kne hk (by decide) (by decide) (by decide))
  · exact h.2
  · exact absurd h.1 (kne hk (by decide) (by decide) (by decide))
  · exact absurd h.1 (kne hk (by decide) (by decide) (by decide))
  · exact absurd h.1 (kne hk (by decide) (by decide) (by decide))
  · exact absurd h.1 (kne hk (by decide) (by decide) (by decide))
theorem aok_2 {X : AF} {e : Nat} (h : aok1 X e) (hk : X 0 e = nI 2) : ∃ a, a < 10 ∧ X 1 e = nI a := by
  rcases h.2 with h | h | h | h | h | h
  · exact absurd h.1 (kne hk (by decide) (by decide) (by decide))
  · exact absurd h.1 (kne hk (by decide) (by decide) (by decide))
  · exact h.2
  · exact absurd h.1 (kne hk (by decide) (by decide) (by decide))
  · exact absurd h.1 (kne hk (by decide) (by decide) (by decide))
  · exact absurd h.1 (kne hk (by decide) (by decide) (by decide))
theorem aok_3 {X : AF} {e : Nat} (h : aok1 X e) (hk : X 0 e = nI 3) : ∃ a, a < 10 ∧ X 1 e = nI a := by
  rcases h.2 with h | h | h | h | h | h
  · exact absurd h.1 (kne hk (by decide) (by decide) (by decide))
  · exact absurd h.1 (kne hk (by decide) (by decide) (by decide))
  · exact absurd h.1 (kne hk (by decide) (by decide) (by decide))
  · exact h.2
  · exact absurd h.1 (kne hk (by decide) (by decide) (by decide))
  · exact absurd h.1 (kne hk (by decide) (by decide) (by decide))
theorem aok_4 {X : AF} {e : Nat} (h : aok1 X e) (hk : X 0 e = nI 4) : (∃ a, a < 10 ∧ X 1 e = nI a) ∧ ∃ b, 1 ≤ b ∧ b ≤ 1000 ∧ X 2 e = nI b := by
  rcases h.2 with h | h | h | h | h | h
  · exact absurd h.1 (kne hk (by decide) (by decide) (by decide))
  · exact absurd h.1 (kne hk (by decide) (by decide) (by decide))
  · exact absurd h.1 (kne hk (by decide) (by decide) (by decide))
  · exact absurd h.1 (kne hk (by decide) (by decide) (by decide))
  · exact h.2
  · exact absurd h.1 (kne hk (by decide) (by decide) (by decide))
def slT (X : AF) (L : List Nat) : Nat → (Nat → Int32)
  | 0 => fun _ => -1
  | i + 1 => stS X (L.getD i 0) (slT X L i)
def ttT (X : AF) (L : List Nat) : Nat → (Nat → Int32)
  | 0 => fun _ => nI 0
  | i + 1 => stT X (L.getD i 0) (ttT X L i)
def smT (X : AF) (L : List Nat) : Nat → (Nat → Int32)
  | 0 => fun _ => nI 0
  | i + 1 => stM X (L.getD i 0) (smT X L i)
def slP (X : AF) (n : Nat) (t k : Int32) : Nat → Int32 := slT X (ordL X n t k) (ordL X n t k).length
def ttP (X : AF) (n : Nat) (t k : Int32) : Nat → Int32 := ttT X (ordL X n t k) (ordL X n t k).length
def smP (X : AF) (n : Nat) (t k : Int32) : Nat → Int32 := smT X (ordL X n t k) (ordL X n t k).length
def difS (sl sl2 : Nat → Int32) (b : Nat) : Bool := !decide (sl b = sl2 b)
def difD (tt tt2 sm sm2 : Nat → Int32) (d : Nat) : Bool := !(decide (tt d = tt2 d) && decide (sm d = sm2 d))
theorem cntB_t {p : Nat → Bool} {i : Nat} (h : p i = true) : cntB p (i + 1) = cntB p i + 1 := by
  show cntB p i + cond (p i) 1 0 = _
  rw [h]; rfl
theorem cntB_f {p : Nat → Bool} {i : Nat} (h : p i = false) : cntB p (i + 1) = cntB p i := by
  show cntB p i + cond (p i) 1 0 = _
  rw [h]; rfl
end
section
def rm_P_boxIn : Room := { frames := 0, cells := 0, slots := 0, locals := 0 }
set_option maxHeartbeats 4000000 in
set_option maxRecDepth 100000 in
theorem ct_P_boxIn (l : Launch) (D : va_G) (cA : ClassId) (p0 p1 p2 p3 : Nat) (sl tt sm : Nat → Int32) (x : Int32) : Ci (S := Unit) l y_P_boxIn (Cond.code y_P_boxIn c_P_boxIn 3 (some .int) :: WD) rm_P_boxIn D vwCl [(cA, .int)] nws [.ref p0, .int x] [(p0, .inr (3, [.ref p1, .ref p2, .ref p3])), (p1, .inl (cA, 20, .inl sl)), (p2, .inl (cA, 10, .inl tt)), (p3, .inl (cA, 10, .inl sm))] 0 0 (fun r _ => bxP sl x r) (fun _ => [(p0, .inr (3, [.ref p1, .ref p2, .ref p3])), (p1, .inl (cA, 20, .inl sl)), (p2, .inl (cA, 10, .inl tt)), (p3, .inl (cA, 10, .inl sm))]) := by
  refine Ci.of (cc := c_P_boxIn) (nL := 3) (lv := [(0, .ref p0), (1, .int x)]) (by decide) rfl (Nat.le_of_ble_eq_true rfl) rfl ?_
  intro p e s m args below meth cd A Q F hK hN hA ret
  refine j_iconst (v := nI 0) F d_P_boxIn_0 (by decide) ?_
  refine j_istoren (lv' := [(2, .int (nI 0)), (0, .ref p0), (1, .int x)]) F d_P_boxIn_1 rfl (by decide) rfl ?_
  have loop2 : ∀ (fuel : Nat) (j : Nat) (hfuel : 20 - j < fuel) (hj : j ≤ 20) (hv : ∀ i, i < j → ¬ sl i = x), J p l e rm_P_boxIn s m args below meth cd D vwCl A s.heap 3 0 0 Q [(p0, .inr (3, [.ref p1, .ref p2, .ref p3])), (p1, .inl (cA, 20, .inl sl)), (p2, .inl (cA, 10, .inl tt)), (p3, .inl (cA, 10, .inl sm))] [(0, .ref p0), (1, .int x), (2, .int (nI j))] 2 [] := by
    intro fuel
    induction fuel with
    | zero => intro j hfuel; exact absurd hfuel (Nat.not_lt_zero _)
    | succ fuel ih =>
      intro j hfuel hj hv
      refine j_iloadn F d_P_boxIn_2 2 rfl rfl ?_
      refine j_bipush (v := nI 20) F d_P_boxIn_3 (by decide) ?_
      refine j_ic_ge (tgt := 26) F d_P_boxIn_5 (by decide) (fun c_5 => ?_) (fun c_5 => ?_)
      · have c_5 : 20 ≤ j := (nI_leI (by omega) (by omega)).mp c_5
        refine j_iconst (v := (-1)) F d_P_boxIn_26 (by decide) ?_
        exact ret _ _ _ _ _ _ () d_P_boxIn_27 rfl (by decide) (by decide) rfl (Or.inl ⟨rfl, fun i hi => hv i (by omega)⟩)
      · have c_5 : ¬ 20 ≤ j := fun h => c_5 ((nI_leI (by omega) (by omega)).mpr h)
        refine j_aloadn F d_P_boxIn_8 0 rfl rfl ?_
        refine j_get (ci := 3) (v := .ref p1) F in_P hK 0 rfl rfl 0 (by decide) (wm k_87) rfl d_P_boxIn_9 ?_
        refine j_iloadn F d_P_boxIn_12 2 rfl rfl ?_
        refine j_iald (v := sl j) F hK 1 0 rfl rfl (by omega) (by decide) d_P_boxIn_13 rfl ?_
        refine j_iloadn F d_P_boxIn_14 1 rfl rfl ?_
        refine j_ic_ne (tgt := 20) F d_P_boxIn_15 (by decide) (fun c_15 => ?_) (fun c_15 => ?_)
        · refine j_iinc (v := nI (j + 1)) (lv' := [(2, .int (nI (j + 1))), (0, .ref p0), (1, .int x)]) F d_P_boxIn_20 2 rfl (jn_inc j) (by decide) rfl ?_
          refine j_goto (tgt := 2) F d_P_boxIn_23 (by decide) ?_
          refine j_lv (lv' := [(0, .ref p0), (1, .int x), (2, .int (nI (j + 1)))]) [1, 2, 0] rfl ?_
          exact ih (j + 1) (by omega) (by omega) (fun i hi => by
            by_cases e1 : i = j
            · rw [e1]; exact c_15
            · exact hv i (by omega))
        · refine j_iloadn F d_P_boxIn_18 2 rfl rfl ?_
          exact ret _ _ _ _ _ _ () d_P_boxIn_19 rfl (by decide) (by decide) rfl (Or.inr ⟨j, by omega, rfl, c_15⟩)
  refine j_lv (lv' := [(0, .ref p0), (1, .int x), (2, .int (nI 0))]) [1, 2, 0] rfl ?_
  exact loop2 (20 + 1) 0 (by omega) (by omega) (fun i hi => absurd hi (Nat.not_lt_zero _))

def rm_P_apply : Room := { frames := 1, cells := 0, slots := 0, locals := 24 }
set_option maxHeartbeats 4000000 in
set_option maxRecDepth 100000 in
theorem ct_P_apply (l : Launch) (D : va_G) (cA : ClassId) (p0 p1 p2 p3 : Nat) (sl tt sm : Nat → Int32) (X : AF) (e0 : Nat) (hk : aok1 X e0) : Cv (S := Unit) l y_P_apply (Cond.code y_P_apply c_P_apply 4 none :: WD) rm_P_apply D vwCl [(cA, .int)] nws [.ref p0, .int (X 0 e0), .int (X 1 e0), .int (X 2 e0)] [(p0, .inr (3, [.ref p1, .ref p2, .ref p3])), (p1, .inl (cA, 20, .inl sl)), (p2, .inl (cA, 10, .inl tt)), (p3, .inl (cA, 10, .inl sm))] 0 0 (fun _ => True) (fun _ => [(p0, .inr (3, [.ref p1, .ref p2, .ref p3])), (p1, .inl (cA, 20, .inl (stS X e0 sl))), (p2, .inl (cA, 10, .inl (stT X e0 tt))), (p3, .inl (cA, 10, .inl (stM X e0 sm)))]) := by
  refine Cv.of (cc := c_P_apply) (nL := 4) (lv := [(0, .ref p0), (1, .int (X 0 e0)), (2, .int (X 1 e0)), (3, .int (X 2 e0))]) (by decide) rfl (Nat.le_of_ble_eq_true rfl) rfl ?_
  intro p e s m args below meth cd A Q F hK hN hA hinit ret
  refine j_iloadn F d_P_apply_0 1 rfl rfl ?_
  have sw := jn_sw3 (X 0 e0)
  rcases sw with hz | hz | hz | hz | hz
  · refine j_tabIn (tgt := 32) F d_P_apply_1 0 hz.1 (by decide) (by decide) rfl (by decide) ?_
    obtain ⟨⟨a', ha', ea⟩, -⟩ := aok_0 hk hz.2
    rw [ea]
    refine j_aloadn F d_P_apply_32 0 rfl rfl ?_
    refine j_iloadn F d_P_apply_33 3 rfl rfl ?_
    refine j_goi (wc := [(p0, .inr (3, [.ref p1, .ref p2, .ref p3])), (p1, .inl (cA, 20, .inl sl)), (p2, .inl (cA, 10, .inl tt)), (p3, .inl (cA, 10, .inl sm))]) (wr := []) hA [0, 1, 2, 3] [] rfl rfl (by decide) (by decide) (fun H locs ls hP hD hl => va_runV (As := [.int (X 2 e0)]) (rest := []) F (ct_P_boxIn l D cA p0 p1 p2 p3 sl tt sm (X 2 e0) H.size) ⟨callB_of 1 F.2.2.2.2 (gd k_322) rfl rfl rfl (F.2.2.2.2 _ (wm k_4)) (F.2.2.2.2 _ (wm k_319)) (by decide +kernel) ⟨by decide, by decide⟩, F.2.2.2.2 _ (wm k_321), F.2.2.2.2 _ (wm ks_15)⟩ (pre_V rfl hK hN hP hD [0, 1, 2, 3] rfl (by decide) 0 rfl rfl) rfl rfl hl.1 rfl (lv_room (Nat.le_of_ble_eq_true rfl)) d_P_apply_34 ⟨by decide, by decide⟩) (fun r34 u34 hw34 => ?_)
    refine j_ws (ws' := [(p0, .inr (3, [.ref p1, .ref p2, .ref p3])), (p1, .inl (cA, 20, .inl sl)), (p2, .inl (cA, 10, .inl tt)), (p3, .inl (cA, 10, .inl sm))]) [0, 1, 2, 3] (by decide) rfl ?_
    refine j_iconst (v := (-1)) F d_P_apply_37 (by decide) ?_
    refine j_ic_ne (tgt := 93) F d_P_apply_38 (by decide) (fun c_38 => ?_) (fun c_38 => ?_)
    · exact ret _ _ _ _ _ () d_P_apply_93 (by decide) (by decide) (by dsimp only; rw [stS_0f hz.2 (bxP_f hw34 c_38), stT_n (kne hz.2 (by decide) (by decide) (by decide)), stM_n (kne hz.2 (by decide) (by decide) (by decide))]) trivial
    · refine j_aloadn F d_P_apply_41 0 rfl rfl ?_
      refine j_get (ci := 3) (v := .ref p1) F in_P hK 0 rfl rfl 0 (by decide) (wm k_87) rfl d_P_apply_42 ?_
      refine j_iloadn F d_P_apply_45 2 rfl rfl ?_
      refine j_iloadn F d_P_apply_46 3 rfl rfl ?_
      refine j_iast (ws' := [(p0, .inr (3, [.ref p1, .ref p2, .ref p3])), (p1, .inl (cA, 20, .inl (upd sl a' (X 2 e0)))), (p2, .inl (cA, 10, .inl tt)), (p3, .inl (cA, 10, .inl sm))]) F hK 1 0 rfl rfl (by omega) (by decide) d_P_apply_47 rfl ?_
      refine j_goto (tgt := 93) F d_P_apply_48 (by decide) ?_
      exact ret _ _ _ _ _ () d_P_apply_93 (by decide) (by decide) (by dsimp only; rw [stS_0t hz.2 ea ha' (bxP_t hw34 c_38), stT_n (kne hz.2 (by decide) (by decide) (by decide)), stM_n (kne hz.2 (by decide) (by decide) (by decide))]) trivial
  · refine j_tabIn (tgt := 51) F d_P_apply_1 1 hz.1 (by decide) (by decide) rfl (by decide) ?_
    obtain ⟨a', ha', ea⟩ := aok_1 hk hz.2
    rw [ea]
    refine j_aloadn F d_P_apply_51 0 rfl rfl ?_
    refine j_get (ci := 3) (v := .ref p1) F in_P hK 0 rfl rfl 0 (by decide) (wm k_87) rfl d_P_apply_52 ?_
    refine j_iloadn F d_P_apply_55 2 rfl rfl ?_
    refine j_iconst (v := (-1)) F d_P_apply_56 (by decide) ?_
    refine j_iast (ws' := [(p0, .inr (3, [.ref p1, .ref p2, .ref p3])), (p1, .inl (cA, 20, .inl (upd sl a' (-1)))), (p2, .inl (cA, 10, .inl tt)), (p3, .inl (cA, 10, .inl sm))]) F hK 1 0 rfl rfl (by omega) (by decide) d_P_apply_57 rfl ?_
    refine j_goto (tgt := 93) F d_P_apply_58 (by decide) ?_
    exact ret _ _ _ _ _ () d_P_apply_93 (by decide) (by decide) (by dsimp only; rw [stS_1 hz.2 ea ha', stT_n (kne hz.2 (by decide) (by decide) (by decide)), stM_n (kne hz.2 (by decide) (by decide) (by decide))]) trivial
  · refine j_tabIn (tgt := 61) F d_P_apply_1 2 hz.1 (by decide) (by decide) rfl (by decide) ?_
    obtain ⟨a', ha', ea⟩ := aok_2 hk hz.2
    rw [ea]
    refine j_aloadn F d_P_apply_61 0 rfl rfl ?_
    refine j_get (ci := 3) (v := .ref p2) F in_P hK 0 rfl rfl 1 (by decide) (wm k_90) rfl d_P_apply_62 ?_
    refine j_iloadn F d_P_apply_65 2 rfl rfl ?_
    refine j_aloadn F d_P_apply_66 0 rfl rfl ?_
    refine j_get (ci := 3) (v := .ref p2) F in_P hK 0 rfl rfl 1 (by decide) (wm k_90) rfl d_P_apply_67 ?_
    refine j_iloadn F d_P_apply_70 2 rfl rfl ?_
    refine j_iald (v := tt a') F hK 2 0 rfl rfl (by omega) (by decide) d_P_apply_71 rfl ?_
    refine j_iloadn F d_P_apply_72 3 rfl rfl ?_
    refine j_mmax (v := if (tt a') < (X 2 e0) then (X 2 e0) else (tt a')) F (wm k_323) (wm k_324) (wm k_13) (wm k_325) (by decide) (Nat.le_of_ble_eq_true rfl) (by decide) (by decide) d_P_apply_73 rfl ?_
    refine j_iast (ws' := [(p0, .inr (3, [.ref p1, .ref p2, .ref p3])), (p1, .inl (cA, 20, .inl sl)), (p2, .inl (cA, 10, .inl (upd tt a' (if (tt a') < (X 2 e0) then (X 2 e0) else (tt a'))))), (p3, .inl (cA, 10, .inl sm))]) F hK 2 0 rfl rfl (by omega) (by decide) d_P_apply_76 rfl ?_
    refine j_goto (tgt := 93) F d_P_apply_77 (by decide) ?_
    exact ret _ _ _ _ _ () d_P_apply_93 (by decide) (by decide) (by dsimp only; rw [stS_n (kne hz.2 (by decide) (by decide) (by decide)) (kne hz.2 (by decide) (by decide) (by decide)), stT_2 hz.2 ea ha', stM_n (kne hz.2 (by decide) (by decide) (by decide))]) trivial
  · refine j_tabIn (tgt := 80) F d_P_apply_1 3 hz.1 (by decide) (by decide) rfl (by decide) ?_
    obtain ⟨a', ha', ea⟩ := aok_3 hk hz.2
    rw [ea]
    refine j_aloadn F d_P_apply_80 0 rfl rfl ?_
    refine j_get (ci := 3) (v := .ref p3) F in_P hK 0 rfl rfl 2 (by decide) (wm k_92) rfl d_P_apply_81 ?_
    refine j_iloadn F d_P_apply_84 2 rfl rfl ?_
    refine j_dup2 F d_P_apply_85 rfl rfl ?_
    refine j_iald (v := sm a') F hK 3 0 rfl rfl (by omega) (by decide) d_P_apply_86 rfl ?_
    refine j_iloadn F d_P_apply_87 3 rfl rfl ?_
    refine j_iadd (v := (sm a') + (X 2 e0)) F d_P_apply_88 rfl ?_
    refine j_iast (ws' := [(p0, .inr (3, [.ref p1, .ref p2, .ref p3])), (p1, .inl (cA, 20, .inl sl)), (p2, .inl (cA, 10, .inl tt)), (p3, .inl (cA, 10, .inl (upd sm a' ((sm a') + (X 2 e0)))))]) F hK 3 0 rfl rfl (by omega) (by decide) d_P_apply_89 rfl ?_
    refine j_goto (tgt := 93) F d_P_apply_90 (by decide) ?_
    exact ret _ _ _ _ _ () d_P_apply_93 (by decide) (by decide) (by dsimp only; rw [stS_n (kne hz.2 (by decide) (by decide) (by decide)) (kne hz.2 (by decide) (by decide) (by decide)), stT_n (kne hz.2 (by decide) (by decide) (by decide)), stM_3 hz.2 ea ha']) trivial
  · refine j_tabOut (tgt := 93) F d_P_apply_1 hz.1 (by decide) ?_
    exact ret _ _ _ _ _ () d_P_apply_93 (by decide) (by decide) (by dsimp only; rw [stS_n (hz.2 0 (by decide)) (hz.2 1 (by decide)), stT_n (hz.2 2 (by decide)), stM_n (hz.2 3 (by decide))]) trivial

def rm_P_draw : Room := { frames := 2, cells := 0, slots := 0, locals := 47 }
set_option maxHeartbeats 4000000 in
set_option maxRecDepth 100000 in
theorem ct_P_draw (l : Launch) (D : va_G) (cA : ClassId) (p0 p1 p2 p3 : Nat) (sl tt sm : Nat → Int32) (o0 o1 : Nat) (g : Nat → Int32) (L : List Nat) (a0 a1 a2 a3 a4 a5 : Nat) (X : AF) (n : Nat) (hA0 : aok X n) (hL : rowL g L) (hlen : L.length ≤ 80) (hmem : ∀ i, i < L.length → L.getD i 0 < n) : Cv (S := Unit) l y_P_draw (Cond.code y_P_draw c_P_draw 5 none :: WD) rm_P_draw D vwCl [(cA, .int)] nws [.ref p0, .ref a0, .ref o0] [(p0, .inr (3, [.ref p1, .ref p2, .ref p3])), (p1, .inl (cA, 20, .inl sl)), (p2, .inl (cA, 10, .inl tt)), (p3, .inl (cA, 10, .inl sm)), (o0, .inr (2, [.ref o1, .int (nI L.length)])), (o1, .inl (cA, 80, .inl g)), (a0, .inr (0, [.ref a1, .ref a2, .ref a3, .ref a4, .ref a5, .int (nI n)])), (a1, .inl (cA, 80, .inl (X 0))), (a2, .inl (cA, 80, .inl (X 1))), (a3, .inl (cA, 80, .inl (X 2))), (a4, .inl (cA, 80, .inl (X 3))), (a5, .inl (cA, 80, .inl (X 4)))] 0 0 (fun _ => True) (fun _ => [(p0, .inr (3, [.ref p1, .ref p2, .ref p3])), (p1, .inl (cA, 20, .inl (slT X L L.length))), (p2, .inl (cA, 10, .inl (ttT X L L.length))), (p3, .inl (cA, 10, .inl (smT X L L.length))), (o0, .inr (2, [.ref o1, .int (nI L.length)])), (o1, .inl (cA, 80, .inl g)), (a0, .inr (0, [.ref a1, .ref a2, .ref a3, .ref a4, .ref a5, .int (nI n)])), (a1, .inl (cA, 80, .inl (X 0))), (a2, .inl (cA, 80, .inl (X 1))), (a3, .inl (cA, 80, .inl (X 2))), (a4, .inl (cA, 80, .inl (X 3))), (a5, .inl (cA, 80, .inl (X 4)))]) := by
  refine Cv.of (cc := c_P_draw) (nL := 5) (lv := [(0, .ref p0), (1, .ref a0), (2, .ref o0)]) (by decide) rfl (Nat.le_of_ble_eq_true rfl) rfl ?_
  intro p e s m args below meth cd A Q F hK hN hA hinit ret
  have h80 := hA0.1
  refine j_aloadn F d_P_draw_0 0 rfl rfl ?_
  refine j_get (ci := 3) (v := .ref p1) F in_P hK 0 rfl rfl 0 (by decide) (wm k_87) rfl d_P_draw_1 ?_
  refine j_iconst (v := (-1)) F d_P_draw_4 (by decide) ?_
  refine j_gov (wc := [(p1, .inl (cA, 20, .inl sl))]) (wr := [(p0, .inr (3, [.ref p1, .ref p2, .ref p3])), (p2, .inl (cA, 10, .inl tt)), (p3, .inl (cA, 10, .inl sm)), (o0, .inr (2, [.ref o1, .int (nI L.length)])), (o1, .inl (cA, 80, .inl g)), (a0, .inr (0, [.ref a1, .ref a2, .ref a3, .ref a4, .ref a5, .int (nI n)])), (a1, .inl (cA, 80, .inl (X 0))), (a2, .inl (cA, 80, .inl (X 1))), (a3, .inl (cA, 80, .inl (X 2))), (a4, .inl (cA, 80, .inl (X 3))), (a5, .inl (cA, 80, .inl (X 4)))]) hA [1] [0, 2, 3, 4, 5, 6, 7, 8, 9, 10, 11] rfl rfl (by decide) (by decide) (fun H locs ls hP hD hl => va_runS (As := [.ref p1, .int (-1)]) (rest := []) F (ct_Ar_fill l D cA p1 20 (by decide) sl (-1) H.size) ⟨callB_of 2 F.2.2.2.2 (gd k_314) rfl rfl rfl (F.2.2.2.2 _ (wm k_12)) (F.2.2.2.2 _ (wm k_312)) (by decide +kernel) ⟨by decide, by decide⟩, F.2.2.2.2 _ (wm k_313)⟩ (pre_S hK hN hP hD [1] rfl (by decide)) rfl rfl hl.1 rfl (lv_room (Nat.le_of_ble_eq_true rfl)) d_P_draw_5 ⟨by decide, by decide⟩) (fun u5 hw5 => ?_)
  refine j_ws (ws' := [(p0, .inr (3, [.ref p1, .ref p2, .ref p3])), (p1, .inl (cA, 20, .inl (fun _ => (-1)))), (p2, .inl (cA, 10, .inl tt)), (p3, .inl (cA, 10, .inl sm)), (o0, .inr (2, [.ref o1, .int (nI L.length)])), (o1, .inl (cA, 80, .inl g)), (a0, .inr (0, [.ref a1, .ref a2, .ref a3, .ref a4, .ref a5, .int (nI n)])), (a1, .inl (cA, 80, .inl (X 0))), (a2, .inl (cA, 80, .inl (X 1))), (a3, .inl (cA, 80, .inl (X 2))), (a4, .inl (cA, 80, .inl (X 3))), (a5, .inl (cA, 80, .inl (X 4)))]) [0, 11, 1, 2, 3, 4, 5, 6, 7, 8, 9, 10] (by decide) rfl ?_
  refine j_aloadn F d_P_draw_8 0 rfl rfl ?_
  refine j_get (ci := 3) (v := .ref p2) F in_P hK 0 rfl rfl 1 (by decide) (wm k_90) rfl d_P_draw_9 ?_
  refine j_iconst (v := nI 0) F d_P_draw_12 (by decide) ?_
  refine j_gov (wc := [(p2, .inl (cA, 10, .inl tt))]) (wr := [(p0, .inr (3, [.ref p1, .ref p2, .ref p3])), (p1, .inl (cA, 20, .inl (fun _ => (-1)))), (p3, .inl (cA, 10, .inl sm)), (o0, .inr (2, [.ref o1, .int (nI L.length)])), (o1, .inl (cA, 80, .inl g)), (a0, .inr (0, [.ref a1, .ref a2, .ref a3, .ref a4, .ref a5, .int (nI n)])), (a1, .inl (cA, 80, .inl (X 0))), (a2, .inl (cA, 80, .inl (X 1))), (a3, .inl (cA, 80, .inl (X 2))), (a4, .inl (cA, 80, .inl (X 3))), (a5, .inl (cA, 80, .inl (X 4)))]) hA [2] [0, 1, 3, 4, 5, 6, 7, 8, 9, 10, 11] rfl rfl (by decide) (by decide) (fun H locs ls hP hD hl => va_runS (As := [.ref p2, .int (nI 0)]) (rest := []) F (ct_Ar_fill l D cA p2 10 (by decide) tt (nI 0) H.size) ⟨callB_of 2 F.2.2.2.2 (gd k_314) rfl rfl rfl (F.2.2.2.2 _ (wm k_12)) (F.2.2.2.2 _ (wm k_312)) (by decide +kernel) ⟨by decide, by decide⟩, F.2.2.2.2 _ (wm k_313)⟩ (pre_S hK hN hP hD [2] rfl (by decide)) rfl rfl hl.1 rfl (lv_room (Nat.le_of_ble_eq_true rfl)) d_P_draw_13 ⟨by decide, by decide⟩) (fun u13 hw13 => ?_)
  refine j_ws (ws' := [(p0, .inr (3, [.ref p1, .ref p2, .ref p3])), (p1, .inl (cA, 20, .inl (fun _ => (-1)))), (p2, .inl (cA, 10, .inl (fun _ => nI 0))), (p3, .inl (cA, 10, .inl sm)), (o0, .inr (2, [.ref o1, .int (nI L.length)])), (o1, .inl (cA, 80, .inl g)), (a0, .inr (0, [.ref a1, .ref a2, .ref a3, .ref a4, .ref a5, .int (nI n)])), (a1, .inl (cA, 80, .inl (X 0))), (a2, .inl (cA, 80, .inl (X 1))), (a3, .inl (cA, 80, .inl (X 2))), (a4, .inl (cA, 80, .inl (X 3))), (a5, .inl (cA, 80, .inl (X 4)))]) [0, 1, 11, 2, 3, 4, 5, 6, 7, 8, 9, 10] (by decide) rfl ?_
  refine j_aloadn F d_P_draw_16 0 rfl rfl ?_
  refine j_get (ci := 3) (v := .ref p3) F in_P hK 0 rfl rfl 2 (by decide) (wm k_92) rfl d_P_draw_17 ?_
  refine j_iconst (v := nI 0) F d_P_draw_20 (by decide) ?_
  refine j_gov (wc := [(p3, .inl (cA, 10, .inl sm))]) (wr := [(p0, .inr (3, [.ref p1, .ref p2, .ref p3])), (p1, .inl (cA, 20, .inl (fun _ => (-1)))), (p2, .inl (cA, 10, .inl (fun _ => nI 0))), (o0, .inr (2, [.ref o1, .int (nI L.length)])), (o1, .inl (cA, 80, .inl g)), (a0, .inr (0, [.ref a1, .ref a2, .ref a3, .ref a4, .ref a5, .int (nI n)])), (a1, .inl (cA, 80, .inl (X 0))), (a2, .inl (cA, 80, .inl (X 1))), (a3, .inl (cA, 80, .inl (X 2))), (a4, .inl (cA, 80, .inl (X 3))), (a5, .inl (cA, 80, .inl (X 4)))]) hA [3] [0, 1, 2, 4, 5, 6, 7, 8, 9, 10, 11] rfl rfl (by decide) (by decide) (fun H locs ls hP hD hl => va_runS (As := [.ref p3, .int (nI 0)]) (rest := []) F (ct_Ar_fill l D cA p3 10 (by decide) sm (nI 0) H.size) ⟨callB_of 2 F.2.2.2.2 (gd k_314) rfl rfl rfl (F.2.2.2.2 _ (wm k_12)) (F.2.2.2.2 _ (wm k_312)) (by decide +kernel) ⟨by decide, by decide⟩, F.2.2.2.2 _ (wm k_313)⟩ (pre_S hK hN hP hD [3] rfl (by decide)) rfl rfl hl.1 rfl (lv_room (Nat.le_of_ble_eq_true rfl)) d_P_draw_21 ⟨by decide, by decide⟩) (fun u21 hw21 => ?_)
  refine j_ws (ws' := [(p0, .inr (3, [.ref p1, .ref p2, .ref p3])), (p1, .inl (cA, 20, .inl (fun _ => (-1)))), (p2, .inl (cA, 10, .inl (fun _ => nI 0))), (p3, .inl (cA, 10, .inl (fun _ => nI 0))), (o0, .inr (2, [.ref o1, .int (nI L.length)])), (o1, .inl (cA, 80, .inl g)), (a0, .inr (0, [.ref a1, .ref a2, .ref a3, .ref a4, .ref a5, .int (nI n)])), (a1, .inl (cA, 80, .inl (X 0))), (a2, .inl (cA, 80, .inl (X 1))), (a3, .inl (cA, 80, .inl (X 2))), (a4, .inl (cA, 80, .inl (X 3))), (a5, .inl (cA, 80, .inl (X 4)))]) [0, 1, 2, 11, 3, 4, 5, 6, 7, 8, 9, 10] (by decide) rfl ?_
  refine j_iconst (v := nI 0) F d_P_draw_24 (by decide) ?_
  refine j_istoren (lv' := [(3, .int (nI 0)), (0, .ref p0), (1, .ref a0), (2, .ref o0)]) F d_P_draw_25 rfl (by decide) rfl ?_
  have loop26 : ∀ (fuel : Nat) (i : Nat) (hfuel : L.length - i < fuel) (hi : i ≤ L.length), J p l e rm_P_draw s m args below meth cd D vwCl A s.heap 5 0 0 Q [(p0, .inr (3, [.ref p1, .ref p2, .ref p3])), (p1, .inl (cA, 20, .inl (slT X L i))), (p2, .inl (cA, 10, .inl (ttT X L i))), (p3, .inl (cA, 10, .inl (smT X L i))), (o0, .inr (2, [.ref o1, .int (nI L.length)])), (o1, .inl (cA, 80, .inl g)), (a0, .inr (0, [.ref a1, .ref a2, .ref a3, .ref a4, .ref a5, .int (nI n)])), (a1, .inl (cA, 80, .inl (X 0))), (a2, .inl (cA, 80, .inl (X 1))), (a3, .inl (cA, 80, .inl (X 2))), (a4, .inl (cA, 80, .inl (X 3))), (a5, .inl (cA, 80, .inl (X 4)))] [(0, .ref p0), (1, .ref a0), (2, .ref o0), (3, .int (nI i))] 26 [] := by
    intro fuel
    induction fuel with
    | zero => intro i hfuel; exact absurd hfuel (Nat.not_lt_zero _)
    | succ fuel ih =>
      intro i hfuel hi
      refine j_iloadn F d_P_draw_26 3 rfl rfl ?_
      refine j_aloadn F d_P_draw_27 2 rfl rfl ?_
      refine j_getN (ci := 2) (v := .int (nI L.length)) F in_O hK hN 4 rfl rfl 1 (by decide) n_74 rfl d_P_draw_28 ?_
      refine j_ic_ge (tgt := 73) F d_P_draw_31 (by decide) (fun c_31 => ?_) (fun c_31 => ?_)
      · have c_31 : L.length ≤ i := (nI_leI (by omega) (by omega)).mp c_31
        have hin : i = L.length := by omega
        subst hin
        exact ret _ _ _ _ _ () d_P_draw_73 (by decide) (by decide) rfl trivial
      · have c_31 : ¬ L.length ≤ i := fun h => c_31 ((nI_leI (by omega) (by omega)).mpr h)
        refine j_aloadn F d_P_draw_34 2 rfl rfl ?_
        refine j_getN (ci := 2) (v := .ref o1) F in_O hK hN 4 rfl rfl 0 (by decide) n_71 rfl d_P_draw_35 ?_
        refine j_iloadn F d_P_draw_38 3 rfl rfl ?_
        refine j_iald (v := nI (L.getD i 0)) F hK 5 0 rfl rfl (by omega) (by decide) d_P_draw_39 (hL i (by omega)) ?_
        refine j_istore (lv' := [(4, .int (nI (L.getD i 0))), (0, .ref p0), (1, .ref a0), (2, .ref o0), (3, .int (nI i))]) F d_P_draw_40 (by decide) rfl ?_
        have hm := hmem i (by omega)
        refine j_aloadn F d_P_draw_42 1 rfl rfl ?_
        refine j_aloadn F d_P_draw_43 2 rfl rfl ?_
        refine j_getN (ci := 0) (v := .ref a1) F in_A hK hN 6 rfl rfl 0 (by decide) n_31 rfl d_P_draw_44 ?_
        refine j_iload F d_P_draw_47 0 rfl ?_
        refine j_iald (v := (X 0) (L.getD i 0)) F hK 7 0 rfl rfl (by omega) (by decide) d_P_draw_49 rfl ?_
        refine j_aloadn F d_P_draw_50 2 rfl rfl ?_
        refine j_getN (ci := 0) (v := .ref a2) F in_A hK hN 6 rfl rfl 1 (by decide) n_35 rfl d_P_draw_51 ?_
        refine j_iload F d_P_draw_54 0 rfl ?_
        refine j_iald (v := (X 1) (L.getD i 0)) F hK 8 0 rfl rfl (by omega) (by decide) d_P_draw_56 rfl ?_
        refine j_aloadn F d_P_draw_57 2 rfl rfl ?_
        refine j_getN (ci := 0) (v := .ref a3) F in_A hK hN 6 rfl rfl 2 (by decide) n_39 rfl d_P_draw_58 ?_
        refine j_iload F d_P_draw_61 0 rfl ?_
        refine j_iald (v := (X 2) (L.getD i 0)) F hK 9 0 rfl rfl (by omega) (by decide) d_P_draw_63 rfl ?_
        refine j_gov (wc := [(p0, .inr (3, [.ref p1, .ref p2, .ref p3])), (p1, .inl (cA, 20, .inl (slT X L i))), (p2, .inl (cA, 10, .inl (ttT X L i))), (p3, .inl (cA, 10, .inl (smT X L i)))]) (wr := [(o0, .inr (2, [.ref o1, .int (nI L.length)])), (o1, .inl (cA, 80, .inl g)), (a0, .inr (0, [.ref a1, .ref a2, .ref a3, .ref a4, .ref a5, .int (nI n)])), (a1, .inl (cA, 80, .inl (X 0))), (a2, .inl (cA, 80, .inl (X 1))), (a3, .inl (cA, 80, .inl (X 2))), (a4, .inl (cA, 80, .inl (X 3))), (a5, .inl (cA, 80, .inl (X 4)))]) hA [0, 1, 2, 3] [4, 5, 6, 7, 8, 9, 10, 11] rfl rfl (by decide) (by decide) (fun H locs ls hP hD hl => va_runV (As := [.int ((X 0) (L.getD i 0)), .int ((X 1) (L.getD i 0)), .int ((X 2) (L.getD i 0))]) (rest := []) F (ct_P_apply l D cA p0 p1 p2 p3 (slT X L i) (ttT X L i) (smT X L i) X (L.getD i 0) (hA0.2 _ hm) H.size) ⟨callB_of 3 F.2.2.2.2 (gd k_318) rfl rfl rfl (F.2.2.2.2 _ (wm k_4)) (F.2.2.2.2 _ (wm k_315)) (by decide +kernel) ⟨by decide, by decide⟩, F.2.2.2.2 _ (wm k_317), F.2.2.2.2 _ (wm ks_14)⟩ (pre_V rfl hK hN hP hD [0, 1, 2, 3] rfl (by decide) 0 rfl rfl) rfl rfl hl.1 rfl (lv_room (Nat.le_of_ble_eq_true rfl)) d_P_draw_64 ⟨by decide, by decide⟩) (fun u64 hw64 => ?_)
        refine j_ws (ws' := [(p0, .inr (3, [.ref p1, .ref p2, .ref p3])), (p1, .inl (cA, 20, .inl (stS X (L.getD i 0) (slT X L i)))), (p2, .inl (cA, 10, .inl (stT X (L.getD i 0) (ttT X L i)))), (p3, .inl (cA, 10, .inl (stM X (L.getD i 0) (smT X L i)))), (o0, .inr (2, [.ref o1, .int (nI L.length)])), (o1, .inl (cA, 80, .inl g)), (a0, .inr (0, [.ref a1, .ref a2, .ref a3, .ref a4, .ref a5, .int (nI n)])), (a1, .inl (cA, 80, .inl (X 0))), (a2, .inl (cA, 80, .inl (X 1))), (a3, .inl (cA, 80, .inl (X 2))), (a4, .inl (cA, 80, .inl (X 3))), (a5, .inl (cA, 80, .inl (X 4)))]) [8, 9, 10, 11, 0, 1, 2, 3, 4, 5, 6, 7] (by decide) rfl ?_
        show J p l e rm_P_draw s m args below meth cd D vwCl A s.heap 5 0 0 Q [(p0, .inr (3, [.ref p1, .ref p2, .ref p3])), (p1, .inl (cA, 20, .inl (slT X L (i + 1)))), (p2, .inl (cA, 10, .inl (ttT X L (i + 1)))), (p3, .inl (cA, 10, .inl (smT X L (i + 1)))), (o0, .inr (2, [.ref o1, .int (nI L.length)])), (o1, .inl (cA, 80, .inl g)), (a0, .inr (0, [.ref a1, .ref a2, .ref a3, .ref a4, .ref a5, .int (nI n)])), (a1, .inl (cA, 80, .inl (X 0))), (a2, .inl (cA, 80, .inl (X 1))), (a3, .inl (cA, 80, .inl (X 2))), (a4, .inl (cA, 80, .inl (X 3))), (a5, .inl (cA, 80, .inl (X 4)))] [(4, .int (nI (L.getD i 0))), (0, .ref p0), (1, .ref a0), (2, .ref o0), (3, .int (nI i))] 67 []
        refine j_iinc (v := nI (i + 1)) (lv' := [(3, .int (nI (i + 1))), (4, .int (nI (L.getD i 0))), (0, .ref p0), (1, .ref a0), (2, .ref o0)]) F d_P_draw_67 4 rfl (jn_inc i) (by decide) rfl ?_
        refine j_goto (tgt := 26) F d_P_draw_70 (by decide) ?_
        refine j_lv (lv' := [(0, .ref p0), (1, .ref a0), (2, .ref o0), (3, .int (nI (i + 1)))]) [2, 3, 4, 0] rfl ?_
        exact ih (i + 1) (by omega) (by omega)
  refine j_lv (lv' := [(0, .ref p0), (1, .ref a0), (2, .ref o0), (3, .int (nI 0))]) [1, 2, 3, 0] rfl ?_
  exact loop26 (L.length + 1) 0 (by omega) (by omega)

def rm_P_differencesFrom : Room := { frames := 0, cells := 0, slots := 0, locals := 0 }
set_option maxHeartbeats 4000000 in
set_option maxRecDepth 100000 in
theorem ct_P_differencesFrom (l : Launch) (D : va_G) (cA : ClassId) (p0 p1 p2 p3 : Nat) (sl tt sm : Nat → Int32) (r0 r1 r2 r3 : Nat) (sl2 tt2 sm2 : Nat → Int32) : Ci (S := Unit) l y_P_differencesFrom (Cond.code y_P_differencesFrom c_P_differencesFrom 4 (some .int) :: WD) rm_P_differencesFrom D vwCl [(cA, .int)] nws [.ref p0, .ref r0] [(p0, .inr (3, [.ref p1, .ref p2, .ref p3])), (p1, .inl (cA, 20, .inl sl)), (p2, .inl (cA, 10, .inl tt)), (p3, .inl (cA, 10, .inl sm)), (r0, .inr (3, [.ref r1, .ref r2, .ref r3])), (r1, .inl (cA, 20, .inl sl2)), (r2, .inl (cA, 10, .inl tt2)), (r3, .inl (cA, 10, .inl sm2))] 0 0 (fun r _ => r = nI (cntB (difS sl sl2) 20 + cntB (difD tt tt2 sm sm2) 10)) (fun _ => [(p0, .inr (3, [.ref p1, .ref p2, .ref p3])), (p1, .inl (cA, 20, .inl sl)), (p2, .inl (cA, 10, .inl tt)), (p3, .inl (cA, 10, .inl sm)), (r0, .inr (3, [.ref r1, .ref r2, .ref r3])), (r1, .inl (cA, 20, .inl sl2)), (r2, .inl (cA, 10, .inl tt2)), (r3, .inl (cA, 10, .inl sm2))]) := by
  refine Ci.of (cc := c_P_differencesFrom) (nL := 4) (lv := [(0, .ref p0), (1, .ref r0)]) (by decide) rfl (Nat.le_of_ble_eq_true rfl) rfl ?_
  intro p e s m args below meth cd A Q F hK hN hA ret
  refine j_iconst (v := nI 0) F d_P_differencesFrom_0 (by decide) ?_
  refine j_istoren (lv' := [(2, .int (nI 0)), (0, .ref p0), (1, .ref r0)]) F d_P_differencesFrom_1 rfl (by decide) rfl ?_
  refine j_iconst (v := nI 0) F d_P_differencesFrom_2 (by decide) ?_
  refine j_istoren (lv' := [(3, .int (nI 0)), (2, .int (nI 0)), (0, .ref p0), (1, .ref r0)]) F d_P_differencesFrom_3 rfl (by decide) rfl ?_
  have loop4 : ∀ (fuel : Nat) (i : Nat) (hfuel : 20 - i < fuel) (hi : i ≤ 20) (hc1 : cntB (difS sl sl2) i ≤ i), J p l e rm_P_differencesFrom s m args below meth cd D vwCl A s.heap 4 0 0 Q [(p0, .inr (3, [.ref p1, .ref p2, .ref p3])), (p1, .inl (cA, 20, .inl sl)), (p2, .inl (cA, 10, .inl tt)), (p3, .inl (cA, 10, .inl sm)), (r0, .inr (3, [.ref r1, .ref r2, .ref r3])), (r1, .inl (cA, 20, .inl sl2)), (r2, .inl (cA, 10, .inl tt2)), (r3, .inl (cA, 10, .inl sm2))] [(0, .ref p0), (1, .ref r0), (2, .int (nI (cntB (difS sl sl2) i))), (3, .int (nI i))] 4 [] := by
    intro fuel
    induction fuel with
    | zero => intro i hfuel; exact absurd hfuel (Nat.not_lt_zero _)
    | succ fuel ih =>
      intro i hfuel hi hc1
      refine j_iloadn F d_P_differencesFrom_4 3 rfl rfl ?_
      refine j_bipush (v := nI 20) F d_P_differencesFrom_5 (by decide) ?_
      refine j_ic_ge (tgt := 34) F d_P_differencesFrom_7 (by decide) (fun c_7 => ?_) (fun c_7 => ?_)
      · have c_7 : 20 ≤ i := (nI_leI (by omega) (by omega)).mp c_7
        have hin : i = 20 := by omega
        subst hin
        refine j_iconst (v := nI 0) F d_P_differencesFrom_34 (by decide) ?_
        refine j_istoren (lv' := [(3, .int (nI 0)), (0, .ref p0), (1, .ref r0), (2, .int (nI (cntB (difS sl sl2) 20)))]) F d_P_differencesFrom_35 rfl (by decide) rfl ?_
        have loop36 : ∀ (fuel : Nat) (j : Nat) (hfuel : 10 - j < fuel) (hj : j ≤ 10) (hc2 : cntB (difD tt tt2 sm sm2) j ≤ j), J p l e rm_P_differencesFrom s m args below meth cd D vwCl A s.heap 4 0 0 Q [(p0, .inr (3, [.ref p1, .ref p2, .ref p3])), (p1, .inl (cA, 20, .inl sl)), (p2, .inl (cA, 10, .inl tt)), (p3, .inl (cA, 10, .inl sm)), (r0, .inr (3, [.ref r1, .ref r2, .ref r3])), (r1, .inl (cA, 20, .inl sl2)), (r2, .inl (cA, 10, .inl tt2)), (r3, .inl (cA, 10, .inl sm2))] [(0, .ref p0), (1, .ref r0), (2, .int (nI (cntB (difS sl sl2) 20 + cntB (difD tt tt2 sm sm2) j))), (3, .int (nI j))] 36 [] := by
          intro fuel
          induction fuel with
          | zero => intro j hfuel; exact absurd hfuel (Nat.not_lt_zero _)
          | succ fuel ih =>
            intro j hfuel hj hc2
            refine j_iloadn F d_P_differencesFrom_36 3 rfl rfl ?_
            refine j_bipush (v := nI 10) F d_P_differencesFrom_37 (by decide) ?_
            refine j_ic_ge (tgt := 81) F d_P_differencesFrom_39 (by decide) (fun c_39 => ?_) (fun c_39 => ?_)
            · have c_39 : 10 ≤ j := (nI_leI (by omega) (by omega)).mp c_39
              have hin : j = 10 := by omega
              subst hin
              refine j_iloadn F d_P_differencesFrom_81 2 rfl rfl ?_
              exact ret _ _ _ _ _ _ () d_P_differencesFrom_82 rfl (by decide) (by decide) rfl rfl
            · have c_39 : ¬ 10 ≤ j := fun h => c_39 ((nI_leI (by omega) (by omega)).mpr h)
              refine j_aloadn F d_P_differencesFrom_42 0 rfl rfl ?_
              refine j_get (ci := 3) (v := .ref p2) F in_P hK 0 rfl rfl 1 (by decide) (wm k_90) rfl d_P_differencesFrom_43 ?_
              refine j_iloadn F d_P_differencesFrom_46 3 rfl rfl ?_
              refine j_iald (v := tt j) F hK 2 0 rfl rfl (by omega) (by decide) d_P_differencesFrom_47 rfl ?_
              refine j_aloadn F d_P_differencesFrom_48 1 rfl rfl ?_
              refine j_get (ci := 3) (v := .ref r2) F in_P hK 4 rfl rfl 1 (by decide) (wm k_90) rfl d_P_differencesFrom_49 ?_
              refine j_iloadn F d_P_differencesFrom_52 3 rfl rfl ?_
              refine j_iald (v := tt2 j) F hK 6 0 rfl rfl (by omega) (by decide) d_P_differencesFrom_53 rfl ?_
              refine j_ic_ne (tgt := 72) F d_P_differencesFrom_54 (by decide) (fun c_54 => ?_) (fun c_54 => ?_)
              · refine j_iinc (v := nI (cntB (difS sl sl2) 20 + cntB (difD tt tt2 sm sm2) (j + 1))) (lv' := [(2, .int (nI (cntB (difS sl sl2) 20 + cntB (difD tt tt2 sm sm2) (j + 1)))), (0, .ref p0), (1, .ref r0), (3, .int (nI j))]) F d_P_differencesFrom_72 2 rfl (by rw [cntB_t (p := difD tt tt2 sm sm2) (show (!(decide (tt j = tt2 j) && decide (sm j = sm2 j))) = true by rw [decide_eq_false c_54]; rfl), jn_inc, Nat.add_assoc]) (by decide) rfl ?_
                refine j_iinc (v := nI (j + 1)) (lv' := [(3, .int (nI (j + 1))), (2, .int (nI (cntB (difS sl sl2) 20 + cntB (difD tt tt2 sm sm2) (j + 1)))), (0, .ref p0), (1, .ref r0)]) F d_P_differencesFrom_75 3 rfl (jn_inc j) (by decide) rfl ?_
                refine j_goto (tgt := 36) F d_P_differencesFrom_78 (by decide) ?_
                refine j_lv (lv' := [(0, .ref p0), (1, .ref r0), (2, .int (nI (cntB (difS sl sl2) 20 + cntB (difD tt tt2 sm sm2) (j + 1)))), (3, .int (nI (j + 1)))]) [2, 3, 1, 0] rfl ?_
                exact ih (j + 1) (by omega) (by omega) (cntB_le _ _)
              · refine j_aloadn F d_P_differencesFrom_57 0 rfl rfl ?_
                refine j_get (ci := 3) (v := .ref p3) F in_P hK 0 rfl rfl 2 (by decide) (wm k_92) rfl d_P_differencesFrom_58 ?_
                refine j_iloadn F d_P_differencesFrom_61 3 rfl rfl ?_
                refine j_iald (v := sm j) F hK 3 0 rfl rfl (by omega) (by decide) d_P_differencesFrom_62 rfl ?_
                refine j_aloadn F d_P_differencesFrom_63 1 rfl rfl ?_
                refine j_get (ci := 3) (v := .ref r3) F in_P hK 4 rfl rfl 2 (by decide) (wm k_92) rfl d_P_differencesFrom_64 ?_
                refine j_iloadn F d_P_differencesFrom_67 3 rfl rfl ?_
                refine j_iald (v := sm2 j) F hK 7 0 rfl rfl (by omega) (by decide) d_P_differencesFrom_68 rfl ?_
                refine j_ic_eq (tgt := 75) F d_P_differencesFrom_69 (by decide) (fun c_69 => ?_) (fun c_69 => ?_)
                · rw [← cntB_f (p := difD tt tt2 sm sm2) (show (!(decide (tt j = tt2 j) && decide (sm j = sm2 j))) = false by rw [decide_eq_true c_54, decide_eq_true c_69]; rfl)]
                  refine j_iinc (v := nI (j + 1)) (lv' := [(3, .int (nI (j + 1))), (0, .ref p0), (1, .ref r0), (2, .int (nI (cntB (difS sl sl2) 20 + cntB (difD tt tt2 sm sm2) (j + 1))))]) F d_P_differencesFrom_75 3 rfl (jn_inc j) (by decide) rfl ?_
                  refine j_goto (tgt := 36) F d_P_differencesFrom_78 (by decide) ?_
                  refine j_lv (lv' := [(0, .ref p0), (1, .ref r0), (2, .int (nI (cntB (difS sl sl2) 20 + cntB (difD tt tt2 sm sm2) (j + 1)))), (3, .int (nI (j + 1)))]) [1, 2, 3, 0] rfl ?_
                  exact ih (j + 1) (by omega) (by omega) (cntB_le _ _)
                · refine j_iinc (v := nI (cntB (difS sl sl2) 20 + cntB (difD tt tt2 sm sm2) (j + 1))) (lv' := [(2, .int (nI (cntB (difS sl sl2) 20 + cntB (difD tt tt2 sm sm2) (j + 1)))), (0, .ref p0), (1, .ref r0), (3, .int (nI j))]) F d_P_differencesFrom_72 2 rfl (by rw [cntB_t (p := difD tt tt2 sm sm2) (show (!(decide (tt j = tt2 j) && decide (sm j = sm2 j))) = true by rw [decide_eq_false c_69, Bool.and_false]; rfl), jn_inc, Nat.add_assoc]) (by decide) rfl ?_
                  refine j_iinc (v := nI (j + 1)) (lv' := [(3, .int (nI (j + 1))), (2, .int (nI (cntB (difS sl sl2) 20 + cntB (difD tt tt2 sm sm2) (j + 1)))), (0, .ref p0), (1, .ref r0)]) F d_P_differencesFrom_75 3 rfl (jn_inc j) (by decide) rfl ?_
                  refine j_goto (tgt := 36) F d_P_differencesFrom_78 (by decide) ?_
                  refine j_lv (lv' := [(0, .ref p0), (1, .ref r0), (2, .int (nI (cntB (difS sl sl2) 20 + cntB (difD tt tt2 sm sm2) (j + 1)))), (3, .int (nI (j + 1)))]) [2, 3, 1, 0] rfl ?_
                  exact ih (j + 1) (by omega) (by omega) (cntB_le _ _)
        refine j_lv (lv' := [(0, .ref p0), (1, .ref r0), (2, .int (nI (cntB (difS sl sl2) 20))), (3, .int (nI 0))]) [1, 2, 3, 0] rfl ?_
        exact loop36 (10 + 1) 0 (by omega) (by omega) (cntB_le _ _)
      · have c_7 : ¬ 20 ≤ i := fun h => c_7 ((nI_leI (by omega) (by omega)).mpr h)
        refine j_aloadn F d_P_differencesFrom_10 0 rfl rfl ?_
        refine j_get (ci := 3) (v := .ref p1) F in_P hK 0 rfl rfl 0 (by decide) (wm k_87) rfl d_P_differencesFrom_11 ?_
        refine j_iloadn F d_P_differencesFrom_14 3 rfl rfl ?_
        refine j_iald (v := sl i) F hK 1 0 rfl rfl (by omega) (by decide) d_P_differencesFrom_15 rfl ?_
        refine j_aloadn F d_P_differencesFrom_16 1 rfl rfl ?_
        refine j_get (ci := 3) (v := .ref r1) F in_P hK 4 rfl rfl 0 (by decide) (wm k_87) rfl d_P_differencesFrom_17 ?_
        refine j_iloadn F d_P_differencesFrom_20 3 rfl rfl ?_
        refine j_iald (v := sl2 i) F hK 5 0 rfl rfl (by omega) (by decide) d_P_differencesFrom_21 rfl ?_
        refine j_ic_eq (tgt := 28) F d_P_differencesFrom_22 (by decide) (fun c_22 => ?_) (fun c_22 => ?_)
        · rw [← cntB_f (p := difS sl sl2) (show (!decide (sl i = sl2 i)) = false by rw [decide_eq_true c_22]; rfl)]
          refine j_iinc (v := nI (i + 1)) (lv' := [(3, .int (nI (i + 1))), (0, .ref p0), (1, .ref r0), (2, .int (nI (cntB (difS sl sl2) (i + 1))))]) F d_P_differencesFrom_28 3 rfl (jn_inc i) (by decide) rfl ?_
          refine j_goto (tgt := 4) F d_P_differencesFrom_31 (by decide) ?_
          refine j_lv (lv' := [(0, .ref p0), (1, .ref r0), (2, .int (nI (cntB (difS sl sl2) (i + 1)))), (3, .int (nI (i + 1)))]) [1, 2, 3, 0] rfl ?_
          exact ih (i + 1) (by omega) (by omega) (cntB_le _ _)
        · refine j_iinc (v := nI (cntB (difS sl sl2) (i + 1))) (lv' := [(2, .int (nI (cntB (difS sl sl2) (i + 1)))), (0, .ref p0), (1, .ref r0), (3, .int (nI i))]) F d_P_differencesFrom_25 2 rfl (by rw [cntB_t (p := difS sl sl2) (show (!decide (sl i = sl2 i)) = true by rw [decide_eq_false c_22]; rfl), jn_inc]) (by decide) rfl ?_
          refine j_iinc (v := nI (i + 1)) (lv' := [(3, .int (nI (i + 1))), (2, .int (nI (cntB (difS sl sl2) (i + 1)))), (0, .ref p0), (1, .ref r0)]) F d_P_differencesFrom_28 3 rfl (jn_inc i) (by decide) rfl ?_
          refine j_goto (tgt := 4) F d_P_differencesFrom_31 (by decide) ?_
          refine j_lv (lv' := [(0, .ref p0), (1, .ref r0), (2, .int (nI (cntB (difS sl sl2) (i + 1)))), (3, .int (nI (i + 1)))]) [2, 3, 1, 0] rfl ?_
          exact ih (i + 1) (by omega) (by omega) (cntB_le _ _)
  refine j_lv (lv' := [(0, .ref p0), (1, .ref r0), (2, .int (nI 0)), (3, .int (nI 0))]) [2, 3, 1, 0] rfl ?_
  exact loop4 (20 + 1) 0 (by omega) (by omega) (cntB_le _ _)
end
section
def rm_A_init : Room := { frames := 1, cells := 5, slots := 400, locals := 24 }
set_option maxHeartbeats 4000000 in
set_option maxRecDepth 100000 in
theorem ct_A_init (l : Launch) (D : va_G) (cA : ClassId) (h0 : Nat) : Cv (S := (Nat → Nat)) l y_A_init (Cond.code y_A_init c_A_init 1 none :: WD) rm_A_init D vwCl [(cA, .int)] nws [.ref h0] [(h0, .inr (0, [.null, .null, .null, .null, .null, .int 0]))] 5 400 (fun _ => True) (fun u => [(h0, .inr (0, [.ref (u 1), .ref (u 2), .ref (u 3), .ref (u 4), .ref (u 5), .int (nI 0)])), ((u 1), .inl (cA, 80, .inl (fun _ => 0))), ((u 2), .inl (cA, 80, .inl (fun _ => 0))), ((u 3), .inl (cA, 80, .inl (fun _ => 0))), ((u 4), .inl (cA, 80, .inl (fun _ => 0))), ((u 5), .inl (cA, 80, .inl (fun _ => 0)))]) := by
  refine Cv.of (cc := c_A_init) (nL := 1) (lv := [(0, .ref h0)]) (by decide) rfl (Nat.le_of_ble_eq_true rfl) rfl ?_
  intro p e s m args below meth cd A Q F hK hN hA hinit ret
  refine j_aloadn F d_A_init_0 0 rfl rfl ?_
  refine j_obj F (wm k_29) (wm k_22) (wm k_23) d_A_init_1 (by decide) (Nat.le_of_ble_eq_true rfl) ?_
  refine j_aloadn F d_A_init_4 0 rfl rfl ?_
  refine j_bipush (v := nI 80) F d_A_init_5 (by decide) ?_
  refine j_newi F hA (wm k_63) hK 0 rfl (by decide) (by decide) (by decide) d_A_init_7 (fun q7 => ?_)
  refine j_putF (ci := 0) (v := .ref q7) (ty := (.array .int)) (ws' := [(h0, .inr (0, [.ref q7, .null, .null, .null, .null, .int 0])), (q7, .inl (cA, 80, .inl (fun _ => 0)))]) F hinit in_A ty_A tk_A nm_A hK 0 rfl rfl 0 (by decide) (wm k_30) rfl rfl (by decide +kernel) rfl rfl (Nat.le_of_ble_eq_true rfl) d_A_init_9 rfl ?_
  refine j_aloadn F d_A_init_12 0 rfl rfl ?_
  refine j_bipush (v := nI 80) F d_A_init_13 (by decide) ?_
  refine j_newi F hA (wm k_63) hK 0 rfl (by decide) (by decide) (by decide) d_A_init_15 (fun q15 => ?_)
  refine j_putF (ci := 0) (v := .ref q15) (ty := (.array .int)) (ws' := [(h0, .inr (0, [.ref q7, .ref q15, .null, .null, .null, .int 0])), (q7, .inl (cA, 80, .inl (fun _ => 0))), (q15, .inl (cA, 80, .inl (fun _ => 0)))]) F hinit in_A ty_A tk_A nm_A hK 0 rfl rfl 1 (by decide) (wm k_34) rfl rfl (by decide +kernel) rfl rfl (Nat.le_of_ble_eq_true rfl) d_A_init_17 rfl ?_
  refine j_aloadn F d_A_init_20 0 rfl rfl ?_
  refine j_bipush (v := nI 80) F d_A_init_21 (by decide) ?_
  refine j_newi F hA (wm k_63) hK 0 rfl (by decide) (by decide) (by decide) d_A_init_23 (fun q23 => ?_)
  refine j_putF (ci := 0) (v := .ref q23) (ty := (.array .int)) (ws' := [(h0, .inr (0, [.ref q7, .ref q15, .ref q23, .null, .null, .int 0])), (q7, .inl (cA, 80, .inl (fun _ => 0))), (q15, .inl (cA, 80, .inl (fun _ => 0))), (q23, .inl (cA, 80, .inl (fun _ => 0)))]) F hinit in_A ty_A tk_A nm_A hK 0 rfl rfl 2 (by decide) (wm k_38) rfl rfl (by decide +kernel) rfl rfl (Nat.le_of_ble_eq_true rfl) d_A_init_25 rfl ?_
  refine j_aloadn F d_A_init_28 0 rfl rfl ?_
  refine j_bipush (v := nI 80) F d_A_init_29 (by decide) ?_
  refine j_newi F hA (wm k_63) hK 0 rfl (by decide) (by decide) (by decide) d_A_init_31 (fun q31 => ?_)
  refine j_putF (ci := 0) (v := .ref q31) (ty := (.array .int)) (ws' := [(h0, .inr (0, [.ref q7, .ref q15, .ref q23, .ref q31, .null, .int 0])), (q7, .inl (cA, 80, .inl (fun _ => 0))), (q15, .inl (cA, 80, .inl (fun _ => 0))), (q23, .inl (cA, 80, .inl (fun _ => 0))), (q31, .inl (cA, 80, .inl (fun _ => 0)))]) F hinit in_A ty_A tk_A nm_A hK 0 rfl rfl 3 (by decide) (wm k_42) rfl rfl (by decide +kernel) rfl rfl (Nat.le_of_ble_eq_true rfl) d_A_init_33 rfl ?_
  refine j_aloadn F d_A_init_36 0 rfl rfl ?_
  refine j_bipush (v := nI 80) F d_A_init_37 (by decide) ?_
  refine j_newi F hA (wm k_63) hK 0 rfl (by decide) (by decide) (by decide) d_A_init_39 (fun q39 => ?_)
  refine j_putF (ci := 0) (v := .ref q39) (ty := (.array .int)) (ws' := [(h0, .inr (0, [.ref q7, .ref q15, .ref q23, .ref q31, .ref q39, .int 0])), (q7, .inl (cA, 80, .inl (fun _ => 0))), (q15, .inl (cA, 80, .inl (fun _ => 0))), (q23, .inl (cA, 80, .inl (fun _ => 0))), (q31, .inl (cA, 80, .inl (fun _ => 0))), (q39, .inl (cA, 80, .inl (fun _ => 0)))]) F hinit in_A ty_A tk_A nm_A hK 0 rfl rfl 4 (by decide) (wm k_45) rfl rfl (by decide +kernel) rfl rfl (Nat.le_of_ble_eq_true rfl) d_A_init_41 rfl ?_
  refine j_aloadn F d_A_init_44 0 rfl rfl ?_
  refine j_iconst (v := nI 0) F d_A_init_45 (by decide) ?_
  refine j_put (ci := 0) (v := .int (nI 0)) (ty := .int) (ws' := [(h0, .inr (0, [.ref q7, .ref q15, .ref q23, .ref q31, .ref q39, .int (nI 0)])), (q7, .inl (cA, 80, .inl (fun _ => 0))), (q15, .inl (cA, 80, .inl (fun _ => 0))), (q23, .inl (cA, 80, .inl (fun _ => 0))), (q31, .inl (cA, 80, .inl (fun _ => 0))), (q39, .inl (cA, 80, .inl (fun _ => 0)))]) F in_A ty_A tk_A nm_A hK 0 rfl rfl 5 (by decide) (wm k_47) rfl (by decide +kernel) rfl rfl (Nat.le_of_ble_eq_true rfl) d_A_init_46 rfl ?_
  exact ret _ _ _ _ _ (fun i => [0, q7, q15, q23, q31, q39].getD i 0) d_A_init_49 (by decide) (by decide) rfl trivial

def rm_B_init : Room := { frames := 1, cells := 2, slots := 70, locals := 24 }
set_option maxHeartbeats 4000000 in
set_option maxRecDepth 100000 in
theorem ct_B_init (l : Launch) (D : va_G) (cA : ClassId) (h0 : Nat) : Cv (S := (Nat → Nat)) l y_B_init (Cond.code y_B_init c_B_init 1 none :: WD) rm_B_init D vwCl [(cA, .int)] nws [.ref h0] [(h0, .inr (1, [.null, .null, .int 0]))] 2 70 (fun _ => True) (fun u => [(h0, .inr (1, [.ref (u 1), .ref (u 2), .int (nI 0)])), ((u 1), .inl (cA, 6, .inl (fun _ => 0))), ((u 2), .inl (cA, 64, .inl (fun _ => 0)))]) := by
  refine Cv.of (cc := c_B_init) (nL := 1) (lv := [(0, .ref h0)]) (by decide) rfl (Nat.le_of_ble_eq_true rfl) rfl ?_
  intro p e s m args below meth cd A Q F hK hN hA hinit ret
  refine j_aloadn F d_B_init_0 0 rfl rfl ?_
  refine j_obj F (wm k_123) (wm k_22) (wm k_23) d_B_init_1 (by decide) (Nat.le_of_ble_eq_true rfl) ?_
  refine j_aloadn F d_B_init_4 0 rfl rfl ?_
  refine j_bipush (v := nI 6) F d_B_init_5 (by decide) ?_
  refine j_newi F hA (wm k_63) hK 0 rfl (by decide) (by decide) (by decide) d_B_init_7 (fun q7 => ?_)
  refine j_putF (ci := 1) (v := .ref q7) (ty := (.array .int)) (ws' := [(h0, .inr (1, [.ref q7, .null, .int 0])), (q7, .inl (cA, 6, .inl (fun _ => 0)))]) F hinit in_B ty_B tk_B nm_B hK 0 rfl rfl 0 (by decide) (wm k_124) rfl rfl (by decide +kernel) rfl rfl (Nat.le_of_ble_eq_true rfl) d_B_init_9 rfl ?_
  refine j_aloadn F d_B_init_12 0 rfl rfl ?_
  refine j_bipush (v := nI 64) F d_B_init_13 (by decide) ?_
  refine j_newi F hA (wm k_63) hK 0 rfl (by decide) (by decide) (by decide) d_B_init_15 (fun q15 => ?_)
  refine j_putF (ci := 1) (v := .ref q15) (ty := (.array .int)) (ws' := [(h0, .inr (1, [.ref q7, .ref q15, .int 0])), (q7, .inl (cA, 6, .inl (fun _ => 0))), (q15, .inl (cA, 64, .inl (fun _ => 0)))]) F hinit in_B ty_B tk_B nm_B hK 0 rfl rfl 1 (by decide) (wm k_125) rfl rfl (by decide +kernel) rfl rfl (Nat.le_of_ble_eq_true rfl) d_B_init_17 rfl ?_
  refine j_aloadn F d_B_init_20 0 rfl rfl ?_
  refine j_iconst (v := nI 0) F d_B_init_21 (by decide) ?_
  refine j_put (ci := 1) (v := .int (nI 0)) (ty := .int) (ws' := [(h0, .inr (1, [.ref q7, .ref q15, .int (nI 0)])), (q7, .inl (cA, 6, .inl (fun _ => 0))), (q15, .inl (cA, 64, .inl (fun _ => 0)))]) F in_B ty_B tk_B nm_B hK 0 rfl rfl 2 (by decide) (wm k_126) rfl (by decide +kernel) rfl rfl (Nat.le_of_ble_eq_true rfl) d_B_init_22 rfl ?_
  exact ret _ _ _ _ _ (fun i => [0, q7, q15].getD i 0) d_B_init_25 (by decide) (by decide) rfl trivial

def rm_O_init : Room := { frames := 1, cells := 1, slots := 80, locals := 24 }
set_option maxHeartbeats 4000000 in
set_option maxRecDepth 100000 in
theorem ct_O_init (l : Launch) (D : va_G) (cA : ClassId) (h0 : Nat) : Cv (S := (Nat → Nat)) l y_O_init (Cond.code y_O_init c_O_init 1 none :: WD) rm_O_init D vwCl [(cA, .int)] nws [.ref h0] [(h0, .inr (2, [.null, .int 0]))] 1 80 (fun _ => True) (fun u => [(h0, .inr (2, [.ref (u 1), .int (nI 0)])), ((u 1), .inl (cA, 80, .inl (fun _ => 0)))]) := by
  refine Cv.of (cc := c_O_init) (nL := 1) (lv := [(0, .ref h0)]) (by decide) rfl (Nat.le_of_ble_eq_true rfl) rfl ?_
  intro p e s m args below meth cd A Q F hK hN hA hinit ret
  refine j_aloadn F d_O_init_0 0 rfl rfl ?_
  refine j_obj F (wm k_69) (wm k_22) (wm k_23) d_O_init_1 (by decide) (Nat.le_of_ble_eq_true rfl) ?_
  refine j_aloadn F d_O_init_4 0 rfl rfl ?_
  refine j_bipush (v := nI 80) F d_O_init_5 (by decide) ?_
  refine j_newi F hA (wm k_63) hK 0 rfl (by decide) (by decide) (by decide) d_O_init_7 (fun q7 => ?_)
  refine j_putF (ci := 2) (v := .ref q7) (ty := (.array .int)) (ws' := [(h0, .inr (2, [.ref q7, .int 0])), (q7, .inl (cA, 80, .inl (fun _ => 0)))]) F hinit in_O ty_O tk_O nm_O hK 0 rfl rfl 0 (by decide) (wm k_70) rfl rfl (by decide +kernel) rfl rfl (Nat.le_of_ble_eq_true rfl) d_O_init_9 rfl ?_
  refine j_aloadn F d_O_init_12 0 rfl rfl ?_
  refine j_iconst (v := nI 0) F d_O_init_13 (by decide) ?_
  refine j_put (ci := 2) (v := .int (nI 0)) (ty := .int) (ws' := [(h0, .inr (2, [.ref q7, .int (nI 0)])), (q7, .inl (cA, 80, .inl (fun _ => 0)))]) F in_O ty_O tk_O nm_O hK 0 rfl rfl 1 (by decide) (wm k_73) rfl (by decide +kernel) rfl rfl (Nat.le_of_ble_eq_true rfl) d_O_init_14 rfl ?_
  exact ret _ _ _ _ _ (fun i => [0, q7].getD i 0) d_O_init_17 (by decide) (by decide) rfl trivial

def rm_P_init : Room := { frames := 1, cells := 3, slots := 40, locals := 24 }
set_option maxHeartbeats 4000000 in
set_option maxRecDepth 100000 in
theorem ct_P_init (l : Launch) (D : va_G) (cA : ClassId) (h0 : Nat) : Cv (S := (Nat → Nat)) l y_P_init (Cond.code y_P_init c_P_init 1 none :: WD) rm_P_init D vwCl [(cA, .int)] nws [.ref h0] [(h0, .inr (3, [.null, .null, .null]))] 3 40 (fun _ => True) (fun u => [(h0, .inr (3, [.ref (u 1), .ref (u 2), .ref (u 3)])), ((u 1), .inl (cA, 20, .inl (fun _ => 0))), ((u 2), .inl (cA, 10, .inl (fun _ => 0))), ((u 3), .inl (cA, 10, .inl (fun _ => 0)))]) := by
  refine Cv.of (cc := c_P_init) (nL := 1) (lv := [(0, .ref h0)]) (by decide) rfl (Nat.le_of_ble_eq_true rfl) rfl ?_
  intro p e s m args below meth cd A Q F hK hN hA hinit ret
  refine j_aloadn F d_P_init_0 0 rfl rfl ?_
  refine j_obj F (wm k_86) (wm k_22) (wm k_23) d_P_init_1 (by decide) (Nat.le_of_ble_eq_true rfl) ?_
  refine j_aloadn F d_P_init_4 0 rfl rfl ?_
  refine j_bipush (v := nI 20) F d_P_init_5 (by decide) ?_
  refine j_newi F hA (wm k_63) hK 0 rfl (by decide) (by decide) (by decide) d_P_init_7 (fun q7 => ?_)
  refine j_putF (ci := 3) (v := .ref q7) (ty := (.array .int)) (ws' := [(h0, .inr (3, [.ref q7, .null, .null])), (q7, .inl (cA, 20, .inl (fun _ => 0)))]) F hinit in_P ty_P tk_P nm_P hK 0 rfl rfl 0 (by decide) (wm k_87) rfl rfl (by decide +kernel) rfl rfl (Nat.le_of_ble_eq_true rfl) d_P_init_9 rfl ?_
  refine j_aloadn F d_P_init_12 0 rfl rfl ?_
  refine j_bipush (v := nI 10) F d_P_init_13 (by decide) ?_
  refine j_newi F hA (wm k_63) hK 0 rfl (by decide) (by decide) (by decide) d_P_init_15 (fun q15 => ?_)
  refine j_putF (ci := 3) (v := .ref q15) (ty := (.array .int)) (ws' := [(h0, .inr (3, [.ref q7, .ref q15, .null])), (q7, .inl (cA, 20, .inl (fun _ => 0))), (q15, .inl (cA, 10, .inl (fun _ => 0)))]) F hinit in_P ty_P tk_P nm_P hK 0 rfl rfl 1 (by decide) (wm k_90) rfl rfl (by decide +kernel) rfl rfl (Nat.le_of_ble_eq_true rfl) d_P_init_17 rfl ?_
  refine j_aloadn F d_P_init_20 0 rfl rfl ?_
  refine j_bipush (v := nI 10) F d_P_init_21 (by decide) ?_
  refine j_newi F hA (wm k_63) hK 0 rfl (by decide) (by decide) (by decide) d_P_init_23 (fun q23 => ?_)
  refine j_putF (ci := 3) (v := .ref q23) (ty := (.array .int)) (ws' := [(h0, .inr (3, [.ref q7, .ref q15, .ref q23])), (q7, .inl (cA, 20, .inl (fun _ => 0))), (q15, .inl (cA, 10, .inl (fun _ => 0))), (q23, .inl (cA, 10, .inl (fun _ => 0)))]) F hinit in_P ty_P tk_P nm_P hK 0 rfl rfl 2 (by decide) (wm k_92) rfl rfl (by decide +kernel) rfl rfl (Nat.le_of_ble_eq_true rfl) d_P_init_25 rfl ?_
  exact ret _ _ _ _ _ (fun i => [0, q7, q15, q23].getD i 0) d_P_init_28 (by decide) (by decide) rfl trivial

def rm_S_init : Room := { frames := 1, cells := 2, slots := 90, locals := 24 }
set_option maxHeartbeats 4000000 in
set_option maxRecDepth 100000 in
theorem ct_S_init (l : Launch) (D : va_G) (cA : ClassId) (h0 : Nat) : Cv (S := (Nat → Nat)) l y_S_init (Cond.code y_S_init c_S_init 1 none :: WD) rm_S_init D vwCl [(cA, .int)] nws [.ref h0] [(h0, .inr (4, [.null, .null, .int 0]))] 2 90 (fun _ => True) (fun u => [(h0, .inr (4, [.ref (u 1), .ref (u 2), .int (nI 0)])), ((u 1), .inl (cA, 10, .inl (fun _ => 0))), ((u 2), .inl (cA, 80, .inl (fun _ => 0)))]) := by
  refine Cv.of (cc := c_S_init) (nL := 1) (lv := [(0, .ref h0)]) (by decide) rfl (Nat.le_of_ble_eq_true rfl) rfl ?_
  intro p e s m args below meth cd A Q F hK hN hA hinit ret
  refine j_aloadn F d_S_init_0 0 rfl rfl ?_
  refine j_obj F (wm k_106) (wm k_22) (wm k_23) d_S_init_1 (by decide) (Nat.le_of_ble_eq_true rfl) ?_
  refine j_aloadn F d_S_init_4 0 rfl rfl ?_
  refine j_bipush (v := nI 10) F d_S_init_5 (by decide) ?_
  refine j_newi F hA (wm k_63) hK 0 rfl (by decide) (by decide) (by decide) d_S_init_7 (fun q7 => ?_)
  refine j_putF (ci := 4) (v := .ref q7) (ty := (.array .int)) (ws' := [(h0, .inr (4, [.ref q7, .null, .int 0])), (q7, .inl (cA, 10, .inl (fun _ => 0)))]) F hinit in_S ty_S tk_S nm_S hK 0 rfl rfl 0 (by decide) (wm k_107) rfl rfl (by decide +kernel) rfl rfl (Nat.le_of_ble_eq_true rfl) d_S_init_9 rfl ?_
  refine j_aloadn F d_S_init_12 0 rfl rfl ?_
  refine j_bipush (v := nI 80) F d_S_init_13 (by decide) ?_
  refine j_newi F hA (wm k_63) hK 0 rfl (by decide) (by decide) (by decide) d_S_init_15 (fun q15 => ?_)
  refine j_putF (ci := 4) (v := .ref q15) (ty := (.array .int)) (ws' := [(h0, .inr (4, [.ref q7, .ref q15, .int 0])), (q7, .inl (cA, 10, .inl (fun _ => 0))), (q15, .inl (cA, 80, .inl (fun _ => 0)))]) F hinit in_S ty_S tk_S nm_S hK 0 rfl rfl 1 (by decide) (wm k_109) rfl rfl (by decide +kernel) rfl rfl (Nat.le_of_ble_eq_true rfl) d_S_init_17 rfl ?_
  refine j_aloadn F d_S_init_20 0 rfl rfl ?_
  refine j_iconst (v := nI 0) F d_S_init_21 (by decide) ?_
  refine j_put (ci := 4) (v := .int (nI 0)) (ty := .int) (ws' := [(h0, .inr (4, [.ref q7, .ref q15, .int (nI 0)])), (q7, .inl (cA, 10, .inl (fun _ => 0))), (q15, .inl (cA, 80, .inl (fun _ => 0)))]) F in_S ty_S tk_S nm_S hK 0 rfl rfl 2 (by decide) (wm k_110) rfl (by decide +kernel) rfl rfl (Nat.le_of_ble_eq_true rfl) d_S_init_22 rfl ?_
  exact ret _ _ _ _ _ (fun i => [0, q7, q15].getD i 0) d_S_init_25 (by decide) (by decide) rfl trivial

def rm_M_init : Room := { frames := 1, cells := 10, slots := 514, locals := 24 }
set_option maxHeartbeats 4000000 in
set_option maxRecDepth 100000 in
theorem ct_M_init (l : Launch) (D : va_G) (cA : ClassId) (h0 : Nat) : Cv (S := (Nat → Nat)) l y_M_init (Cond.code y_M_init c_M_init 1 none :: WD) rm_M_init D vwCl [(cA, .int)] nws [.ref h0] [(h0, .inr (6, [.int 0, .int 0, .int 0, .int 0, .null, .null, .null, .null, .null, .null, .null, .null, .null, .null]))] 10 514 (fun _ => True) (fun u => [(h0, .inr (6, [.int 0, .int 0, .int 0, .int 0, .ref (u 1), .ref (u 2), .ref (u 3), .ref (u 4), .ref (u 5), .ref (u 6), .ref (u 7), .ref (u 8), .ref (u 9), .ref (u 10)])), ((u 1), .inl (cA, 80, .inl (fun _ => 0))), ((u 2), .inl (cA, 80, .inl (fun _ => 0))), ((u 3), .inl (cA, 80, .inl (fun _ => 0))), ((u 4), .inl (cA, 80, .inl (fun _ => 0))), ((u 5), .inl (cA, 80, .inl (fun _ => 0))), ((u 6), .inl (cA, 20, .inl (fun _ => 0))), ((u 7), .inl (cA, 10, .inl (fun _ => 0))), ((u 8), .inl (cA, 10, .inl (fun _ => 0))), ((u 9), .inl (cA, 10, .inl (fun _ => 0))), ((u 10), .inl (cA, 64, .inl (fun _ => 0)))]) := by
  refine Cv.of (cc := c_M_init) (nL := 1) (lv := [(0, .ref h0)]) (by decide) rfl (Nat.le_of_ble_eq_true rfl) rfl ?_
  intro p e s m args below meth cd A Q F hK hN hA hinit ret
  refine j_aloadn F d_M_init_0 0 rfl rfl ?_
  refine j_obj F (wm k_466) (wm k_22) (wm k_23) d_M_init_1 (by decide) (Nat.le_of_ble_eq_true rfl) ?_
  refine j_aloadn F d_M_init_4 0 rfl rfl ?_
  refine j_bipush (v := nI 80) F d_M_init_5 (by decide) ?_
  refine j_newi F hA (wm k_63) hK 0 rfl (by decide) (by decide) (by decide) d_M_init_7 (fun q7 => ?_)
  refine j_putF (ci := 6) (v := .ref q7) (ty := (.array .int)) (ws' := [(h0, .inr (6, [.int 0, .int 0, .int 0, .int 0, .ref q7, .null, .null, .null, .null, .null, .null, .null, .null, .null])), (q7, .inl (cA, 80, .inl (fun _ => 0)))]) F hinit in_M ty_M tk_M nm_M hK 0 rfl rfl 4 (by decide) (wm k_471) rfl rfl (by decide +kernel) rfl rfl (Nat.le_of_ble_eq_true rfl) d_M_init_9 rfl ?_
  refine j_aloadn F d_M_init_12 0 rfl rfl ?_
  refine j_bipush (v := nI 80) F d_M_init_13 (by decide) ?_
  refine j_newi F hA (wm k_63) hK 0 rfl (by decide) (by decide) (by decide) d_M_init_15 (fun q15 => ?_)
  refine j_putF (ci := 6) (v := .ref q15) (ty := (.array .int)) (ws' := [(h0, .inr (6, [.int 0, .int 0, .int 0, .int 0, .ref q7, .ref q15, .null, .null, .null, .null, .null, .null, .null, .null])), (q7, .inl (cA, 80, .inl (fun _ => 0))), (q15, .inl (cA, 80, .inl (fun _ => 0)))]) F hinit in_M ty_M tk_M nm_M hK 0 rfl rfl 5 (by decide) (wm k_472) rfl rfl (by decide +kernel) rfl rfl (Nat.le_of_ble_eq_true rfl) d_M_init_17 rfl ?_
  refine j_aloadn F d_M_init_20 0 rfl rfl ?_
  refine j_bipush (v := nI 80) F d_M_init_21 (by decide) ?_
  refine j_newi F hA (wm k_63) hK 0 rfl (by decide) (by decide) (by decide) d_M_init_23 (fun q23 => ?_)
  refine j_putF (ci := 6) (v := .ref q23) (ty := (.array .int)) (ws' := [(h0, .inr (6, [.int 0, .int 0, .int 0, .int 0, .ref q7, .ref q15, .ref q23, .null, .null, .null, .null, .null, .null, .null])), (q7, .inl (cA, 80, .inl (fun _ => 0))), (q15, .inl (cA, 80, .inl (fun _ => 0))), (q23, .inl (cA, 80, .inl (fun _ => 0)))]) F hinit in_M ty_M tk_M nm_M hK 0 rfl rfl 6 (by decide) (wm k_473) rfl rfl (by decide +kernel) rfl rfl (Nat.le_of_ble_eq_true rfl) d_M_init_25 rfl ?_
  refine j_aloadn F d_M_init_28 0 rfl rfl ?_
  refine j_bipush (v := nI 80) F d_M_init_29 (by decide) ?_
  refine j_newi F hA (wm k_63) hK 0 rfl (by decide) (by decide) (by decide) d_M_init_31 (fun q31 => ?_)
  refine j_putF (ci := 6) (v := .ref q31) (ty := (.array .int)) (ws' := [(h0, .inr (6, [.int 0, .int 0, .int 0, .int 0, .ref q7, .ref q15, .ref q23, .ref q31, .null, .null, .null, .null, .null, .null])), (q7, .inl (cA, 80, .inl (fun _ => 0))), (q15, .inl (cA, 80, .inl (fun _ => 0))), (q23, .inl (cA, 80, .inl (fun _ => 0))), (q31, .inl (cA, 80, .inl (fun _ => 0)))]) F hinit in_M ty_M tk_M nm_M hK 0 rfl rfl 7 (by decide) (wm k_474) rfl rfl (by decide +kernel) rfl rfl (Nat.le_of_ble_eq_true rfl) d_M_init_33 rfl ?_
  refine j_aloadn F d_M_init_36 0 rfl rfl ?_
  refine j_bipush (v := nI 80) F d_M_init_37 (by decide) ?_
  refine j_newi F hA (wm k_63) hK 0 rfl (by decide) (by decide) (by decide) d_M_init_39 (fun q39 => ?_)
  refine j_putF (ci := 6) (v := .ref q39) (ty := (.array .int)) (ws' := [(h0, .inr (6, [.int 0, .int 0, .int 0, .int 0, .ref q7, .ref q15, .ref q23, .ref q31, .ref q39, .null, .null, .null, .null, .null])), (q7, .inl (cA, 80, .inl (fun _ => 0))), (q15, .inl (cA, 80, .inl (fun _ => 0))), (q23, .inl (cA, 80, .inl (fun _ => 0))), (q31, .inl (cA, 80, .inl (fun _ => 0))), (q39, .inl (cA, 80, .inl (fun _ => 0)))]) F hinit in_M ty_M tk_M nm_M hK 0 rfl rfl 8 (by decide) (wm k_475) rfl rfl (by decide +kernel) rfl rfl (Nat.le_of_ble_eq_true rfl) d_M_init_41 rfl ?_
  refine j_aloadn F d_M_init_44 0 rfl rfl ?_
  refine j_bipush (v := nI 20) F d_M_init_45 (by decide) ?_
  refine j_newi F hA (wm k_63) hK 0 rfl (by decide) (by decide) (by decide) d_M_init_47 (fun q47 => ?_)
  refine j_putF (ci := 6) (v := .ref q47) (ty := (.array .int)) (ws' := [(h0, .inr (6, [.int 0, .int 0, .int 0, .int 0, .ref q7, .ref q15, .ref q23, .ref q31, .ref q39, .ref q47, .null, .null, .null, .null])), (q7, .inl (cA, 80, .inl (fun _ => 0))), (q15, .inl (cA, 80, .inl (fun _ => 0))), (q23, .inl (cA, 80, .inl (fun _ => 0))), (q31, .inl (cA, 80, .inl (fun _ => 0))), (q39, .inl (cA, 80, .inl (fun _ => 0))), (q47, .inl (cA, 20, .inl (fun _ => 0)))]) F hinit in_M ty_M tk_M nm_M hK 0 rfl rfl 9 (by decide) (wm k_476) rfl rfl (by decide +kernel) rfl rfl (Nat.le_of_ble_eq_true rfl) d_M_init_49 rfl ?_
  refine j_aloadn F d_M_init_52 0 rfl rfl ?_
  refine j_bipush (v := nI 10) F d_M_init_53 (by decide) ?_
  refine j_newi F hA (wm k_63) hK 0 rfl (by decide) (by decide) (by decide) d_M_init_55 (fun q55 => ?_)
  refine j_putF (ci := 6) (v := .ref q55) (ty := (.array .int)) (ws' := [(h0, .inr (6, [.int 0, .int 0, .int 0, .int 0, .ref q7, .ref q15, .ref q23, .ref q31, .ref q39, .ref q47, .ref q55, .null, .null, .null])), (q7, .inl (cA, 80, .inl (fun _ => 0))), (q15, .inl (cA, 80, .inl (fun _ => 0))), (q23, .inl (cA, 80, .inl (fun _ => 0))), (q31, .inl (cA, 80, .inl (fun _ => 0))), (q39, .inl (cA, 80, .inl (fun _ => 0))), (q47, .inl (cA, 20, .inl (fun _ => 0))), (q55, .inl (cA, 10, .inl (fun _ => 0)))]) F hinit in_M ty_M tk_M nm_M hK 0 rfl rfl 10 (by decide) (wm k_477) rfl rfl (by decide +kernel) rfl rfl (Nat.le_of_ble_eq_true rfl) d_M_init_57 rfl ?_
  refine j_aloadn F d_M_init_60 0 rfl rfl ?_
  refine j_bipush (v := nI 10) F d_M_init_61 (by decide) ?_
  refine j_newi F hA (wm k_63) hK 0 rfl (by decide) (by decide) (by decide) d_M_init_63 (fun q63 => ?_)
  refine j_putF (ci := 6) (v := .ref q63) (ty := (.array .int)) (ws' := [(h0, .inr (6, [.int 0, .int 0, .int 0, .int 0, .ref q7, .ref q15, .ref q23, .ref q31, .ref q39, .ref q47, .ref q55, .ref q63, .null, .null])), (q7, .inl (cA, 80, .inl (fun _ => 0))), (q15, .inl (cA, 80, .inl (fun _ => 0))), (q23, .inl (cA, 80, .inl (fun _ => 0))), (q31, .inl (cA, 80, .inl (fun _ => 0))), (q39, .inl (cA, 80, .inl (fun _ => 0))), (q47, .inl (cA, 20, .inl (fun _ => 0))), (q55, .inl (cA, 10, .inl (fun _ => 0))), (q63, .inl (cA, 10, .inl (fun _ => 0)))]) F hinit in_M ty_M tk_M nm_M hK 0 rfl rfl 11 (by decide) (wm k_478) rfl rfl (by decide +kernel) rfl rfl (Nat.le_of_ble_eq_true rfl) d_M_init_65 rfl ?_
  refine j_aloadn F d_M_init_68 0 rfl rfl ?_
  refine j_bipush (v := nI 10) F d_M_init_69 (by decide) ?_
  refine j_newi F hA (wm k_63) hK 0 rfl (by decide) (by decide) (by decide) d_M_init_71 (fun q71 => ?_)
  refine j_putF (ci := 6) (v := .ref q71) (ty := (.array .int)) (ws' := [(h0, .inr (6, [.int 0, .int 0, .int 0, .int 0, .ref q7, .ref q15, .ref q23, .ref q31, .ref q39, .ref q47, .ref q55, .ref q63, .ref q71, .null])), (q7, .inl (cA, 80, .inl (fun _ => 0))), (q15, .inl (cA, 80, .inl (fun _ => 0))), (q23, .inl (cA, 80, .inl (fun _ => 0))), (q31, .inl (cA, 80, .inl (fun _ => 0))), (q39, .inl (cA, 80, .inl (fun _ => 0))), (q47, .inl (cA, 20, .inl (fun _ => 0))), (q55, .inl (cA, 10, .inl (fun _ => 0))), (q63, .inl (cA, 10, .inl (fun _ => 0))), (q71, .inl (cA, 10, .inl (fun _ => 0)))]) F hinit in_M ty_M tk_M nm_M hK 0 rfl rfl 12 (by decide) (wm k_479) rfl rfl (by decide +kernel) rfl rfl (Nat.le_of_ble_eq_true rfl) d_M_init_73 rfl ?_
  refine j_aloadn F d_M_init_76 0 rfl rfl ?_
  refine j_bipush (v := nI 64) F d_M_init_77 (by decide) ?_
  refine j_newi F hA (wm k_63) hK 0 rfl (by decide) (by decide) (by decide) d_M_init_79 (fun q79 => ?_)
  refine j_putF (ci := 6) (v := .ref q79) (ty := (.array .int)) (ws' := [(h0, .inr (6, [.int 0, .int 0, .int 0, .int 0, .ref q7, .ref q15, .ref q23, .ref q31, .ref q39, .ref q47, .ref q55, .ref q63, .ref q71, .ref q79])), (q7, .inl (cA, 80, .inl (fun _ => 0))), (q15, .inl (cA, 80, .inl (fun _ => 0))), (q23, .inl (cA, 80, .inl (fun _ => 0))), (q31, .inl (cA, 80, .inl (fun _ => 0))), (q39, .inl (cA, 80, .inl (fun _ => 0))), (q47, .inl (cA, 20, .inl (fun _ => 0))), (q55, .inl (cA, 10, .inl (fun _ => 0))), (q63, .inl (cA, 10, .inl (fun _ => 0))), (q71, .inl (cA, 10, .inl (fun _ => 0))), (q79, .inl (cA, 64, .inl (fun _ => 0)))]) F hinit in_M ty_M tk_M nm_M hK 0 rfl rfl 13 (by decide) (wm k_480) rfl rfl (by decide +kernel) rfl rfl (Nat.le_of_ble_eq_true rfl) d_M_init_81 rfl ?_
  exact ret _ _ _ _ _ (fun i => [0, q7, q15, q23, q31, q39, q47, q55, q63, q71, q79].getD i 0) d_M_init_84 (by decide) (by decide) rfl trivial

def rm_X_init : Room := { frames := 2, cells := 22, slots := 740, locals := 44 }
set_option maxHeartbeats 4000000 in
set_option maxRecDepth 100000 in
theorem ct_X_init (l : Launch) (D : va_G) (cA : ClassId) (h0 : Nat) : Cv (S := (Nat → Nat)) l y_X_init (Cond.code y_X_init c_X_init 1 none :: WD) rm_X_init D vwCl [(cA, .int)] nws [.ref h0] [(h0, .inr (5, [.null, .null, .null, .null, .null, .null, .int 0, .int 0]))] 22 740 (fun _ => True) (fun u => [(h0, .inr (5, [.ref (u 1), .ref (u 7), .ref (u 9), .ref (u 13), .ref (u 17), .ref (u 20), .int (nI 0), .int (nI 0)])), ((u 1), .inr (0, [.ref (u 2), .ref (u 3), .ref (u 4), .ref (u 5), .ref (u 6), .int (nI 0)])), ((u 2), .inl (cA, 80, .inl ((fun _ _ => 0 : AF) 0))), ((u 3), .inl (cA, 80, .inl ((fun _ _ => 0 : AF) 1))), ((u 4), .inl (cA, 80, .inl ((fun _ _ => 0 : AF) 2))), ((u 5), .inl (cA, 80, .inl ((fun _ _ => 0 : AF) 3))), ((u 6), .inl (cA, 80, .inl ((fun _ _ => 0 : AF) 4))), ((u 7), .inr (2, [.ref (u 8), .int ((fun _ => nI 0 : Nat → Int32) 0)])), ((u 8), .inl (cA, 80, .inl ((fun _ _ => 0 : AF) 0))), ((u 9), .inr (3, [.ref (u 10), .ref (u 11), .ref (u 12)])), ((u 10), .inl (cA, 20, .inl ((fun _ _ => 0 : AF) 1))), ((u 11), .inl (cA, 10, .inl ((fun _ _ => 0 : AF) 2))), ((u 12), .inl (cA, 10, .inl ((fun _ _ => 0 : AF) 3))), ((u 13), .inr (3, [.ref (u 14), .ref (u 15), .ref (u 16)])), ((u 14), .inl (cA, 20, .inl ((fun _ _ => 0 : AF) 4))), ((u 15), .inl (cA, 10, .inl ((fun _ _ => 0 : AF) 5))), ((u 16), .inl (cA, 10, .inl ((fun _ _ => 0 : AF) 6))), ((u 17), .inr (4, [.ref (u 18), .ref (u 19), .int ((fun _ => nI 0 : Nat → Int32) 1)])), ((u 18), .inl (cA, 10, .inl ((fun _ _ => 0 : AF) 7))), ((u 19), .inl (cA, 80, .inl ((fun _ _ => 0 : AF) 8))), ((u 20), .inr (1, [.ref (u 21), .ref (u 22), .int ((fun _ => nI 0 : Nat → Int32) 2)])), ((u 21), .inl (cA, 6, .inl ((fun _ _ => 0 : AF) 9))), ((u 22), .inl (cA, 64, .inl ((fun _ _ => 0 : AF) 10)))]) := by
  refine Cv.of (cc := c_X_init) (nL := 1) (lv := [(0, .ref h0)]) (by decide) rfl (Nat.le_of_ble_eq_true rfl) rfl ?_
  intro p e s m args below meth cd A Q F hK hN hA hinit ret
  refine j_aloadn F d_X_init_0 0 rfl rfl ?_
  refine j_obj F (wm k_21) (wm k_22) (wm k_23) d_X_init_1 (by decide) (Nat.le_of_ble_eq_true rfl) ?_
  refine j_aloadn F d_X_init_4 0 rfl rfl ?_
  refine j_new (ci := 0) F hA in_A ty_A tk_A (wm k_24) (wm k_25) (wm k_2) hK rfl [.null, .null, .null, .null, .null, .int 0] (by decide +kernel) (by decide) (by decide) d_X_init_5 (fun q5 => ?_)
  refine j_dup F d_X_init_8 rfl ?_
  refine j_gov (wc := [(q5, .inr (0, [.null, .null, .null, .null, .null, .int 0]))]) (wr := [(h0, .inr (5, [.null, .null, .null, .null, .null, .null, .int 0, .int 0]))]) hA [1] [0] rfl rfl (by decide) (by decide) (fun H locs ls hP hD hl => va_runIN (As := []) (rest := [.ref q5, .ref h0]) F (ct_A_init l D cA q5 H.size) ⟨va_cnB 0 F.2.2.2.2 (gd k_28) rfl rfl rfl (hN _ n_26).1 (F.2.2.2.2 _ (wm k_2)) (by decide +kernel) ⟨by decide, by decide⟩, rfl, F.2.2.2.2 _ (wm k_27)⟩ (pre_S hK hN hP hD [1] rfl (by decide)) rfl rfl hl.1 rfl (lv_room (Nat.le_of_ble_eq_true rfl)) d_X_init_9 ⟨by decide, by decide⟩) (fun u9 hw9 => ?_)
  refine j_ws (ws' := [(h0, .inr (5, [.null, .null, .null, .null, .null, .null, .int 0, .int 0])), (q5, .inr (0, [.ref (u9 1), .ref (u9 2), .ref (u9 3), .ref (u9 4), .ref (u9 5), .int (nI 0)])), ((u9 1), .inl (cA, 80, .inl (fun _ => 0))), ((u9 2), .inl (cA, 80, .inl (fun _ => 0))), ((u9 3), .inl (cA, 80, .inl (fun _ => 0))), ((u9 4), .inl (cA, 80, .inl (fun _ => 0))), ((u9 5), .inl (cA, 80, .inl (fun _ => 0)))]) [0, 1, 2, 3, 4, 5, 6] (by decide) rfl ?_
  refine j_putF (ci := 5) (v := .ref q5) (ty := (.object "PlainPort$ActRow")) (ws' := [(h0, .inr (5, [.ref q5, .null, .null, .null, .null, .null, .int 0, .int 0])), (q5, .inr (0, [.ref (u9 1), .ref (u9 2), .ref (u9 3), .ref (u9 4), .ref (u9 5), .int (nI 0)])), ((u9 1), .inl (cA, 80, .inl (fun _ => 0))), ((u9 2), .inl (cA, 80, .inl (fun _ => 0))), ((u9 3), .inl (cA, 80, .inl (fun _ => 0))), ((u9 4), .inl (cA, 80, .inl (fun _ => 0))), ((u9 5), .inl (cA, 80, .inl (fun _ => 0)))]) F hinit in_X ty_X tk_X nm_X hK 0 rfl rfl 0 (by decide) (wm k_134) rfl rfl (by decide +kernel) rfl rfl (Nat.le_of_ble_eq_true rfl) d_X_init_12 rfl ?_
  refine j_aloadn F d_X_init_15 0 rfl rfl ?_
  refine j_new (ci := 2) F hA in_O ty_O tk_O (wm k_64) (wm k_65) (wm k_3) hK rfl [.null, .int 0] (by decide +kernel) (by decide) (by decide) d_X_init_16 (fun q16 => ?_)
  refine j_dup F d_X_init_19 rfl ?_
  refine j_gov (wc := [(q16, .inr (2, [.null, .int 0]))]) (wr := [(h0, .inr (5, [.ref q5, .null, .null, .null, .null, .null, .int 0, .int 0])), (q5, .inr (0, [.ref (u9 1), .ref (u9 2), .ref (u9 3), .ref (u9 4), .ref (u9 5), .int (nI 0)])), ((u9 1), .inl (cA, 80, .inl (fun _ => 0))), ((u9 2), .inl (cA, 80, .inl (fun _ => 0))), ((u9 3), .inl (cA, 80, .inl (fun _ => 0))), ((u9 4), .inl (cA, 80, .inl (fun _ => 0))), ((u9 5), .inl (cA, 80, .inl (fun _ => 0)))]) hA [7] [0, 1, 2, 3, 4, 5, 6] rfl rfl (by decide) (by decide) (fun H locs ls hP hD hl => va_runIN (As := []) (rest := [.ref q16, .ref h0]) F (ct_O_init l D cA q16 H.size) ⟨va_cnB 0 F.2.2.2.2 (gd k_68) rfl rfl rfl (hN _ n_66).1 (F.2.2.2.2 _ (wm k_3)) (by decide +kernel) ⟨by decide, by decide⟩, rfl, F.2.2.2.2 _ (wm k_67)⟩ (pre_S hK hN hP hD [7] rfl (by decide)) rfl rfl hl.1 rfl (lv_room (Nat.le_of_ble_eq_true rfl)) d_X_init_20 ⟨by decide, by decide⟩) (fun u20 hw20 => ?_)
  refine j_ws (ws' := [(h0, .inr (5, [.ref q5, .null, .null, .null, .null, .null, .int 0, .int 0])), (q5, .inr (0, [.ref (u9 1), .ref (u9 2), .ref (u9 3), .ref (u9 4), .ref (u9 5), .int (nI 0)])), ((u9 1), .inl (cA, 80, .inl (fun _ => 0))), ((u9 2), .inl (cA, 80, .inl (fun _ => 0))), ((u9 3), .inl (cA, 80, .inl (fun _ => 0))), ((u9 4), .inl (cA, 80, .inl (fun _ => 0))), ((u9 5), .inl (cA, 80, .inl (fun _ => 0))), (q16, .inr (2, [.ref (u20 1), .int (nI 0)])), ((u20 1), .inl (cA, 80, .inl (fun _ => 0)))]) [0, 1, 2, 3, 4, 5, 6, 7, 8] (by decide) rfl ?_
  refine j_putF (ci := 5) (v := .ref q16) (ty := (.object "PlainPort$Order")) (ws' := [(h0, .inr (5, [.ref q5, .ref q16, .null, .null, .null, .null, .int 0, .int 0])), (q5, .inr (0, [.ref (u9 1), .ref (u9 2), .ref (u9 3), .ref (u9 4), .ref (u9 5), .int (nI 0)])), ((u9 1), .inl (cA, 80, .inl (fun _ => 0))), ((u9 2), .inl (cA, 80, .inl (fun _ => 0))), ((u9 3), .inl (cA, 80, .inl (fun _ => 0))), ((u9 4), .inl (cA, 80, .inl (fun _ => 0))), ((u9 5), .inl (cA, 80, .inl (fun _ => 0))), (q16, .inr (2, [.ref (u20 1), .int (nI 0)])), ((u20 1), .inl (cA, 80, .inl (fun _ => 0)))]) F hinit in_X ty_X tk_X nm_X hK 0 rfl rfl 1 (by decide) (wm k_135) rfl rfl (by decide +kernel) rfl rfl (Nat.le_of_ble_eq_true rfl) d_X_init_23 rfl ?_
  refine j_aloadn F d_X_init_26 0 rfl rfl ?_
  refine j_new (ci := 3) F hA in_P ty_P tk_P (wm k_81) (wm k_82) (wm k_4) hK rfl [.null, .null, .null] (by decide +kernel) (by decide) (by decide) d_X_init_27 (fun q27 => ?_)
  refine j_dup F d_X_init_30 rfl ?_
  refine j_gov (wc := [(q27, .inr (3, [.null, .null, .null]))]) (wr := [(h0, .inr (5, [.ref q5, .ref q16, .null, .null, .null, .null, .int 0, .int 0])), (q5, .inr (0, [.ref (u9 1), .ref (u9 2), .ref (u9 3), .ref (u9 4), .ref (u9 5), .int (nI 0)])), ((u9 1), .inl (cA, 80, .inl (fun _ => 0))), ((u9 2), .inl (cA, 80, .inl (fun _ => 0))), ((u9 3), .inl (cA, 80, .inl (fun _ => 0))), ((u9 4), .inl (cA, 80, .inl (fun _ => 0))), ((u9 5), .inl (cA, 80, .inl (fun _ => 0))), (q16, .inr (2, [.ref (u20 1), .int (nI 0)])), ((u20 1), .inl (cA, 80, .inl (fun _ => 0)))]) hA [9] [0, 1, 2, 3, 4, 5, 6, 7, 8] rfl rfl (by decide) (by decide) (fun H locs ls hP hD hl => va_runIN (As := []) (rest := [.ref q27, .ref h0]) F (ct_P_init l D cA q27 H.size) ⟨va_cnB 0 F.2.2.2.2 (gd k_85) rfl rfl rfl (hN _ n_83).1 (F.2.2.2.2 _ (wm k_4)) (by decide +kernel) ⟨by decide, by decide⟩, rfl, F.2.2.2.2 _ (wm k_84)⟩ (pre_S hK hN hP hD [9] rfl (by decide)) rfl rfl hl.1 rfl (lv_room (Nat.le_of_ble_eq_true rfl)) d_X_init_31 ⟨by decide, by decide⟩) (fun u31 hw31 => ?_)
  refine j_ws (ws' := [(h0, .inr (5, [.ref q5, .ref q16, .null, .null, .null, .null, .int 0, .int 0])), (q5, .inr (0, [.ref (u9 1), .ref (u9 2), .ref (u9 3), .ref (u9 4), .ref (u9 5), .int (nI 0)])), ((u9 1), .inl (cA, 80, .inl (fun _ => 0))), ((u9 2), .inl (cA, 80, .inl (fun _ => 0))), ((u9 3), .inl (cA, 80, .inl (fun _ => 0))), ((u9 4), .inl (cA, 80, .inl (fun _ => 0))), ((u9 5), .inl (cA, 80, .inl (fun _ => 0))), (q16, .inr (2, [.ref (u20 1), .int (nI 0)])), ((u20 1), .inl (cA, 80, .inl (fun _ => 0))), (q27, .inr (3, [.ref (u31 1), .ref (u31 2), .ref (u31 3)])), ((u31 1), .inl (cA, 20, .inl (fun _ => 0))), ((u31 2), .inl (cA, 10, .inl (fun _ => 0))), ((u31 3), .inl (cA, 10, .inl (fun _ => 0)))]) [0, 1, 2, 3, 4, 5, 6, 7, 8, 9, 10, 11, 12] (by decide) rfl ?_
  refine j_putF (ci := 5) (v := .ref q27) (ty := (.object "PlainPort$Picture")) (ws' := [(h0, .inr (5, [.ref q5, .ref q16, .ref q27, .null, .null, .null, .int 0, .int 0])), (q5, .inr (0, [.ref (u9 1), .ref (u9 2), .ref (u9 3), .ref (u9 4), .ref (u9 5), .int (nI 0)])), ((u9 1), .inl (cA, 80, .inl (fun _ => 0))), ((u9 2), .inl (cA, 80, .inl (fun _ => 0))), ((u9 3), .inl (cA, 80, .inl (fun _ => 0))), ((u9 4), .inl (cA, 80, .inl (fun _ => 0))), ((u9 5), .inl (cA, 80, .inl (fun _ => 0))), (q16, .inr (2, [.ref (u20 1), .int (nI 0)])), ((u20 1), .inl (cA, 80, .inl (fun _ => 0))), (q27, .inr (3, [.ref (u31 1), .ref (u31 2), .ref (u31 3)])), ((u31 1), .inl (cA, 20, .inl (fun _ => 0))), ((u31 2), .inl (cA, 10, .inl (fun _ => 0))), ((u31 3), .inl (cA, 10, .inl (fun _ => 0)))]) F hinit in_X ty_X tk_X nm_X hK 0 rfl rfl 2 (by decide) (wm k_136) rfl rfl (by decide +kernel) rfl rfl (Nat.le_of_ble_eq_true rfl) d_X_init_34 rfl ?_
  refine j_aloadn F d_X_init_37 0 rfl rfl ?_
  refine j_new (ci := 3) F hA in_P ty_P tk_P (wm k_81) (wm k_82) (wm k_4) hK rfl [.null, .null, .null] (by decide +kernel) (by decide) (by decide) d_X_init_38 (fun q38 => ?_)
  refine j_dup F d_X_init_41 rfl ?_
  refine j_gov (wc := [(q38, .inr (3, [.null, .null, .null]))]) (wr := [(h0, .inr (5, [.ref q5, .ref q16, .ref q27, .null, .null, .null, .int 0, .int 0])), (q5, .inr (0, [.ref (u9 1), .ref (u9 2), .ref (u9 3), .ref (u9 4), .ref (u9 5), .int (nI 0)])), ((u9 1), .inl (cA, 80, .inl (fun _ => 0))), ((u9 2), .inl (cA, 80, .inl (fun _ => 0))), ((u9 3), .inl (cA, 80, .inl (fun _ => 0))), ((u9 4), .inl (cA, 80, .inl (fun _ => 0))), ((u9 5), .inl (cA, 80, .inl (fun _ => 0))), (q16, .inr (2, [.ref (u20 1), .int (nI 0)])), ((u20 1), .inl (cA, 80, .inl (fun _ => 0))), (q27, .inr (3, [.ref (u31 1), .ref (u31 2), .ref (u31 3)])), ((u31 1), .inl (cA, 20, .inl (fun _ => 0))), ((u31 2), .inl (cA, 10, .inl (fun _ => 0))), ((u31 3), .inl (cA, 10, .inl (fun _ => 0)))]) hA [13] [0, 1, 2, 3, 4, 5, 6, 7, 8, 9, 10, 11, 12] rfl rfl (by decide) (by decide) (fun H locs ls hP hD hl => va_runIN (As := []) (rest := [.ref q38, .ref h0]) F (ct_P_init l D cA q38 H.size) ⟨va_cnB 0 F.2.2.2.2 (gd k_85) rfl rfl rfl (hN _ n_83).1 (F.2.2.2.2 _ (wm k_4)) (by decide +kernel) ⟨by decide, by decide⟩, rfl, F.2.2.2.2 _ (wm k_84)⟩ (pre_S hK hN hP hD [13] rfl (by decide)) rfl rfl hl.1 rfl (lv_room (Nat.le_of_ble_eq_true rfl)) d_X_init_42 ⟨by decide, by decide⟩) (fun u42 hw42 => ?_)
  refine j_ws (ws' := [(h0, .inr (5, [.ref q5, .ref q16, .ref q27, .null, .null, .null, .int 0, .int 0])), (q5, .inr (0, [.ref (u9 1), .ref (u9 2), .ref (u9 3), .ref (u9 4), .ref (u9 5), .int (nI 0)])), ((u9 1), .inl (cA, 80, .inl (fun _ => 0))), ((u9 2), .inl (cA, 80, .inl (fun _ => 0))), ((u9 3), .inl (cA, 80, .inl (fun _ => 0))), ((u9 4), .inl (cA, 80, .inl (fun _ => 0))), ((u9 5), .inl (cA, 80, .inl (fun _ => 0))), (q16, .inr (2, [.ref (u20 1), .int (nI 0)])), ((u20 1), .inl (cA, 80, .inl (fun _ => 0))), (q27, .inr (3, [.ref (u31 1), .ref (u31 2), .ref (u31 3)])), ((u31 1), .inl (cA, 20, .inl (fun _ => 0))), ((u31 2), .inl (cA, 10, .inl (fun _ => 0))), ((u31 3), .inl (cA, 10, .inl (fun _ => 0))), (q38, .inr (3, [.ref (u42 1), .ref (u42 2), .ref (u42 3)])), ((u42 1), .inl (cA, 20, .inl (fun _ => 0))), ((u42 2), .inl (cA, 10, .inl (fun _ => 0))), ((u42 3), .inl (cA, 10, .inl (fun _ => 0)))]) [0, 1, 2, 3, 4, 5, 6, 7, 8, 9, 10, 11, 12, 13, 14, 15, 16] (by decide) rfl ?_
  refine j_putF (ci := 5) (v := .ref q38) (ty := (.object "PlainPort$Picture")) (ws' := [(h0, .inr (5, [.ref q5, .ref q16, .ref q27, .ref q38, .null, .null, .int 0, .int 0])), (q5, .inr (0, [.ref (u9 1), .ref (u9 2), .ref (u9 3), .ref (u9 4), .ref (u9 5), .int (nI 0)])), ((u9 1), .inl (cA, 80, .inl (fun _ => 0))), ((u9 2), .inl (cA, 80, .inl (fun _ => 0))), ((u9 3), .inl (cA, 80, .inl (fun _ => 0))), ((u9 4), .inl (cA, 80, .inl (fun _ => 0))), ((u9 5), .inl (cA, 80, .inl (fun _ => 0))), (q16, .inr (2, [.ref (u20 1), .int (nI 0)])), ((u20 1), .inl (cA, 80, .inl (fun _ => 0))), (q27, .inr (3, [.ref (u31 1), .ref (u31 2), .ref (u31 3)])), ((u31 1), .inl (cA, 20, .inl (fun _ => 0))), ((u31 2), .inl (cA, 10, .inl (fun _ => 0))), ((u31 3), .inl (cA, 10, .inl (fun _ => 0))), (q38, .inr (3, [.ref (u42 1), .ref (u42 2), .ref (u42 3)])), ((u42 1), .inl (cA, 20, .inl (fun _ => 0))), ((u42 2), .inl (cA, 10, .inl (fun _ => 0))), ((u42 3), .inl (cA, 10, .inl (fun _ => 0)))]) F hinit in_X ty_X tk_X nm_X hK 0 rfl rfl 3 (by decide) (wm k_137) rfl rfl (by decide +kernel) rfl rfl (Nat.le_of_ble_eq_true rfl) d_X_init_45 rfl ?_
  refine j_aloadn F d_X_init_48 0 rfl rfl ?_
  refine j_new (ci := 4) F hA in_S ty_S tk_S (wm k_101) (wm k_102) (wm k_5) hK rfl [.null, .null, .int 0] (by decide +kernel) (by decide) (by decide) d_X_init_49 (fun q49 => ?_)
  refine j_dup F d_X_init_52 rfl ?_
  refine j_gov (wc := [(q49, .inr (4, [.null, .null, .int 0]))]) (wr := [(h0, .inr (5, [.ref q5, .ref q16, .ref q27, .ref q38, .null, .null, .int 0, .int 0])), (q5, .inr (0, [.ref (u9 1), .ref (u9 2), .ref (u9 3), .ref (u9 4), .ref (u9 5), .int (nI 0)])), ((u9 1), .inl (cA, 80, .inl (fun _ => 0))), ((u9 2), .inl (cA, 80, .inl (fun _ => 0))), ((u9 3), .inl (cA, 80, .inl (fun _ => 0))), ((u9 4), .inl (cA, 80, .inl (fun _ => 0))), ((u9 5), .inl (cA, 80, .inl (fun _ => 0))), (q16, .inr (2, [.ref (u20 1), .int (nI 0)])), ((u20 1), .inl (cA, 80, .inl (fun _ => 0))), (q27, .inr (3, [.ref (u31 1), .ref (u31 2), .ref (u31 3)])), ((u31 1), .inl (cA, 20, .inl (fun _ => 0))), ((u31 2), .inl (cA, 10, .inl (fun _ => 0))), ((u31 3), .inl (cA, 10, .inl (fun _ => 0))), (q38, .inr (3, [.ref (u42 1), .ref (u42 2), .ref (u42 3)])), ((u42 1), .inl (cA, 20, .inl (fun _ => 0))), ((u42 2), .inl (cA, 10, .inl (fun _ => 0))), ((u42 3), .inl (cA, 10, .inl (fun _ => 0)))]) hA [17] [0, 1, 2, 3, 4, 5, 6, 7, 8, 9, 10, 11, 12, 13, 14, 15, 16] rfl rfl (by decide) (by decide) (fun H locs ls hP hD hl => va_runIN (As := []) (rest := [.ref q49, .ref h0]) F (ct_S_init l D cA q49 H.size) ⟨va_cnB 0 F.2.2.2.2 (gd k_105) rfl rfl rfl (hN _ n_103).1 (F.2.2.2.2 _ (wm k_5)) (by decide +kernel) ⟨by decide, by decide⟩, rfl, F.2.2.2.2 _ (wm k_104)⟩ (pre_S hK hN hP hD [17] rfl (by decide)) rfl rfl hl.1 rfl (lv_room (Nat.le_of_ble_eq_true rfl)) d_X_init_53 ⟨by decide, by decide⟩) (fun u53 hw53 => ?_)
  refine j_ws (ws' := [(h0, .inr (5, [.ref q5, .ref q16, .ref q27, .ref q38, .null, .null, .int 0, .int 0])), (q5, .inr (0, [.ref (u9 1), .ref (u9 2), .ref (u9 3), .ref (u9 4), .ref (u9 5), .int (nI 0)])), ((u9 1), .inl (cA, 80, .inl (fun _ => 0))), ((u9 2), .inl (cA, 80, .inl (fun _ => 0))), ((u9 3), .inl (cA, 80, .inl (fun _ => 0))), ((u9 4), .inl (cA, 80, .inl (fun _ => 0))), ((u9 5), .inl (cA, 80, .inl (fun _ => 0))), (q16, .inr (2, [.ref (u20 1), .int (nI 0)])), ((u20 1), .inl (cA, 80, .inl (fun _ => 0))), (q27, .inr (3, [.ref (u31 1), .ref (u31 2), .ref (u31 3)])), ((u31 1), .inl (cA, 20, .inl (fun _ => 0))), ((u31 2), .inl (cA, 10, .inl (fun _ => 0))), ((u31 3), .inl (cA, 10, .inl (fun _ => 0))), (q38, .inr (3, [.ref (u42 1), .ref (u42 2), .ref (u42 3)])), ((u42 1), .inl (cA, 20, .inl (fun _ => 0))), ((u42 2), .inl (cA, 10, .inl (fun _ => 0))), ((u42 3), .inl (cA, 10, .inl (fun _ => 0))), (q49, .inr (4, [.ref (u53 1), .ref (u53 2), .int (nI 0)])), ((u53 1), .inl (cA, 10, .inl (fun _ => 0))), ((u53 2), .inl (cA, 80, .inl (fun _ => 0)))]) [0, 1, 2, 3, 4, 5, 6, 7, 8, 9, 10, 11, 12, 13, 14, 15, 16, 17, 18, 19] (by decide) rfl ?_
  refine j_putF (ci := 5) (v := .ref q49) (ty := (.object "PlainPort$Shares")) (ws' := [(h0, .inr (5, [.ref q5, .ref q16, .ref q27, .ref q38, .ref q49, .null, .int 0, .int 0])), (q5, .inr (0, [.ref (u9 1), .ref (u9 2), .ref (u9 3), .ref (u9 4), .ref (u9 5), .int (nI 0)])), ((u9 1), .inl (cA, 80, .inl (fun _ => 0))), ((u9 2), .inl (cA, 80, .inl (fun _ => 0))), ((u9 3), .inl (cA, 80, .inl (fun _ => 0))), ((u9 4), .inl (cA, 80, .inl (fun _ => 0))), ((u9 5), .inl (cA, 80, .inl (fun _ => 0))), (q16, .inr (2, [.ref (u20 1), .int (nI 0)])), ((u20 1), .inl (cA, 80, .inl (fun _ => 0))), (q27, .inr (3, [.ref (u31 1), .ref (u31 2), .ref (u31 3)])), ((u31 1), .inl (cA, 20, .inl (fun _ => 0))), ((u31 2), .inl (cA, 10, .inl (fun _ => 0))), ((u31 3), .inl (cA, 10, .inl (fun _ => 0))), (q38, .inr (3, [.ref (u42 1), .ref (u42 2), .ref (u42 3)])), ((u42 1), .inl (cA, 20, .inl (fun _ => 0))), ((u42 2), .inl (cA, 10, .inl (fun _ => 0))), ((u42 3), .inl (cA, 10, .inl (fun _ => 0))), (q49, .inr (4, [.ref (u53 1), .ref (u53 2), .int (nI 0)])), ((u53 1), .inl (cA, 10, .inl (fun _ => 0))), ((u53 2), .inl (cA, 80, .inl (fun _ => 0)))]) F hinit in_X ty_X tk_X nm_X hK 0 rfl rfl 4 (by decide) (wm k_138) rfl rfl (by decide +kernel) rfl rfl (Nat.le_of_ble_eq_true rfl) d_X_init_56 rfl ?_
  refine j_aloadn F d_X_init_59 0 rfl rfl ?_
  refine j_new (ci := 1) F hA in_B ty_B tk_B (wm k_118) (wm k_119) (wm k_6) hK rfl [.null, .null, .int 0] (by decide +kernel) (by decide) (by decide) d_X_init_60 (fun q60 => ?_)
  refine j_dup F d_X_init_63 rfl ?_
  refine j_gov (wc := [(q60, .inr (1, [.null, .null, .int 0]))]) (wr := [(h0, .inr (5, [.ref q5, .ref q16, .ref q27, .ref q38, .ref q49, .null, .int 0, .int 0])), (q5, .inr (0, [.ref (u9 1), .ref (u9 2), .ref (u9 3), .ref (u9 4), .ref (u9 5), .int (nI 0)])), ((u9 1), .inl (cA, 80, .inl (fun _ => 0))), ((u9 2), .inl (cA, 80, .inl (fun _ => 0))), ((u9 3), .inl (cA, 80, .inl (fun _ => 0))), ((u9 4), .inl (cA, 80, .inl (fun _ => 0))), ((u9 5), .inl (cA, 80, .inl (fun _ => 0))), (q16, .inr (2, [.ref (u20 1), .int (nI 0)])), ((u20 1), .inl (cA, 80, .inl (fun _ => 0))), (q27, .inr (3, [.ref (u31 1), .ref (u31 2), .ref (u31 3)])), ((u31 1), .inl (cA, 20, .inl (fun _ => 0))), ((u31 2), .inl (cA, 10, .inl (fun _ => 0))), ((u31 3), .inl (cA, 10, .inl (fun _ => 0))), (q38, .inr (3, [.ref (u42 1), .ref (u42 2), .ref (u42 3)])), ((u42 1), .inl (cA, 20, .inl (fun _ => 0))), ((u42 2), .inl (cA, 10, .inl (fun _ => 0))), ((u42 3), .inl (cA, 10, .inl (fun _ => 0))), (q49, .inr (4, [.ref (u53 1), .ref (u53 2), .int (nI 0)])), ((u53 1), .inl (cA, 10, .inl (fun _ => 0))), ((u53 2), .inl (cA, 80, .inl (fun _ => 0)))]) hA [20] [0, 1, 2, 3, 4, 5, 6, 7, 8, 9, 10, 11, 12, 13, 14, 15, 16, 17, 18, 19] rfl rfl (by decide) (by decide) (fun H locs ls hP hD hl => va_runIN (As := []) (rest := [.ref q60, .ref h0]) F (ct_B_init l D cA q60 H.size) ⟨va_cnB 0 F.2.2.2.2 (gd k_122) rfl rfl rfl (hN _ n_120).1 (F.2.2.2.2 _ (wm k_6)) (by decide +kernel) ⟨by decide, by decide⟩, rfl, F.2.2.2.2 _ (wm k_121)⟩ (pre_S hK hN hP hD [20] rfl (by decide)) rfl rfl hl.1 rfl (lv_room (Nat.le_of_ble_eq_true rfl)) d_X_init_64 ⟨by decide, by decide⟩) (fun u64 hw64 => ?_)
  refine j_ws (ws' := [(h0, .inr (5, [.ref q5, .ref q16, .ref q27, .ref q38, .ref q49, .null, .int 0, .int 0])), (q5, .inr (0, [.ref (u9 1), .ref (u9 2), .ref (u9 3), .ref (u9 4), .ref (u9 5), .int (nI 0)])), ((u9 1), .inl (cA, 80, .inl (fun _ => 0))), ((u9 2), .inl (cA, 80, .inl (fun _ => 0))), ((u9 3), .inl (cA, 80, .inl (fun _ => 0))), ((u9 4), .inl (cA, 80, .inl (fun _ => 0))), ((u9 5), .inl (cA, 80, .inl (fun _ => 0))), (q16, .inr (2, [.ref (u20 1), .int (nI 0)])), ((u20 1), .inl (cA, 80, .inl (fun _ => 0))), (q27, .inr (3, [.ref (u31 1), .ref (u31 2), .ref (u31 3)])), ((u31 1), .inl (cA, 20, .inl (fun _ => 0))), ((u31 2), .inl (cA, 10, .inl (fun _ => 0))), ((u31 3), .inl (cA, 10, .inl (fun _ => 0))), (q38, .inr (3, [.ref (u42 1), .ref (u42 2), .ref (u42 3)])), ((u42 1), .inl (cA, 20, .inl (fun _ => 0))), ((u42 2), .inl (cA, 10, .inl (fun _ => 0))), ((u42 3), .inl (cA, 10, .inl (fun _ => 0))), (q49, .inr (4, [.ref (u53 1), .ref (u53 2), .int (nI 0)])), ((u53 1), .inl (cA, 10, .inl (fun _ => 0))), ((u53 2), .inl (cA, 80, .inl (fun _ => 0))), (q60, .inr (1, [.ref (u64 1), .ref (u64 2), .int (nI 0)])), ((u64 1), .inl (cA, 6, .inl (fun _ => 0))), ((u64 2), .inl (cA, 64, .inl (fun _ => 0)))]) [0, 1, 2, 3, 4, 5, 6, 7, 8, 9, 10, 11, 12, 13, 14, 15, 16, 17, 18, 19, 20, 21, 22] (by decide) rfl ?_
  refine j_putF (ci := 5) (v := .ref q60) (ty := (.object "PlainPort$Bringing")) (ws' := [(h0, .inr (5, [.ref q5, .ref q16, .ref q27, .ref q38, .ref q49, .ref q60, .int 0, .int 0])), (q5, .inr (0, [.ref (u9 1), .ref (u9 2), .ref (u9 3), .ref (u9 4), .ref (u9 5), .int (nI 0)])), ((u9 1), .inl (cA, 80, .inl (fun _ => 0))), ((u9 2), .inl (cA, 80, .inl (fun _ => 0))), ((u9 3), .inl (cA, 80, .inl (fun _ => 0))), ((u9 4), .inl (cA, 80, .inl (fun _ => 0))), ((u9 5), .inl (cA, 80, .inl (fun _ => 0))), (q16, .inr (2, [.ref (u20 1), .int (nI 0)])), ((u20 1), .inl (cA, 80, .inl (fun _ => 0))), (q27, .inr (3, [.ref (u31 1), .ref (u31 2), .ref (u31 3)])), ((u31 1), .inl (cA, 20, .inl (fun _ => 0))), ((u31 2), .inl (cA, 10, .inl (fun _ => 0))), ((u31 3), .inl (cA, 10, .inl (fun _ => 0))), (q38, .inr (3, [.ref (u42 1), .ref (u42 2), .ref (u42 3)])), ((u42 1), .inl (cA, 20, .inl (fun _ => 0))), ((u42 2), .inl (cA, 10, .inl (fun _ => 0))), ((u42 3), .inl (cA, 10, .inl (fun _ => 0))), (q49, .inr (4, [.ref (u53 1), .ref (u53 2), .int (nI 0)])), ((u53 1), .inl (cA, 10, .inl (fun _ => 0))), ((u53 2), .inl (cA, 80, .inl (fun _ => 0))), (q60, .inr (1, [.ref (u64 1), .ref (u64 2), .int (nI 0)])), ((u64 1), .inl (cA, 6, .inl (fun _ => 0))), ((u64 2), .inl (cA, 64, .inl (fun _ => 0)))]) F hinit in_X ty_X tk_X nm_X hK 0 rfl rfl 5 (by decide) (wm k_139) rfl rfl (by decide +kernel) rfl rfl (Nat.le_of_ble_eq_true rfl) d_X_init_67 rfl ?_
  refine j_aloadn F d_X_init_70 0 rfl rfl ?_
  refine j_iconst (v := nI 0) F d_X_init_71 (by decide) ?_
  refine j_put (ci := 5) (v := .int (nI 0)) (ty := .int) (ws' := [(h0, .inr (5, [.ref q5, .ref q16, .ref q27, .ref q38, .ref q49, .ref q60, .int (nI 0), .int 0])), (q5, .inr (0, [.ref (u9 1), .ref (u9 2), .ref (u9 3), .ref (u9 4), .ref (u9 5), .int (nI 0)])), ((u9 1), .inl (cA, 80, .inl (fun _ => 0))), ((u9 2), .inl (cA, 80, .inl (fun _ => 0))), ((u9 3), .inl (cA, 80, .inl (fun _ => 0))), ((u9 4), .inl (cA, 80, .inl (fun _ => 0))), ((u9 5), .inl (cA, 80, .inl (fun _ => 0))), (q16, .inr (2, [.ref (u20 1), .int (nI 0)])), ((u20 1), .inl (cA, 80, .inl (fun _ => 0))), (q27, .inr (3, [.ref (u31 1), .ref (u31 2), .ref (u31 3)])), ((u31 1), .inl (cA, 20, .inl (fun _ => 0))), ((u31 2), .inl (cA, 10, .inl (fun _ => 0))), ((u31 3), .inl (cA, 10, .inl (fun _ => 0))), (q38, .inr (3, [.ref (u42 1), .ref (u42 2), .ref (u42 3)])), ((u42 1), .inl (cA, 20, .inl (fun _ => 0))), ((u42 2), .inl (cA, 10, .inl (fun _ => 0))), ((u42 3), .inl (cA, 10, .inl (fun _ => 0))), (q49, .inr (4, [.ref (u53 1), .ref (u53 2), .int (nI 0)])), ((u53 1), .inl (cA, 10, .inl (fun _ => 0))), ((u53 2), .inl (cA, 80, .inl (fun _ => 0))), (q60, .inr (1, [.ref (u64 1), .ref (u64 2), .int (nI 0)])), ((u64 1), .inl (cA, 6, .inl (fun _ => 0))), ((u64 2), .inl (cA, 64, .inl (fun _ => 0)))]) F in_X ty_X tk_X nm_X hK 0 rfl rfl 6 (by decide) (wm k_140) rfl (by decide +kernel) rfl rfl (Nat.le_of_ble_eq_true rfl) d_X_init_72 rfl ?_
  refine j_aloadn F d_X_init_75 0 rfl rfl ?_
  refine j_iconst (v := nI 0) F d_X_init_76 (by decide) ?_
  refine j_put (ci := 5) (v := .int (nI 0)) (ty := .int) (ws' := [(h0, .inr (5, [.ref q5, .ref q16, .ref q27, .ref q38, .ref q49, .ref q60, .int (nI 0), .int (nI 0)])), (q5, .inr (0, [.ref (u9 1), .ref (u9 2), .ref (u9 3), .ref (u9 4), .ref (u9 5), .int (nI 0)])), ((u9 1), .inl (cA, 80, .inl (fun _ => 0))), ((u9 2), .inl (cA, 80, .inl (fun _ => 0))), ((u9 3), .inl (cA, 80, .inl (fun _ => 0))), ((u9 4), .inl (cA, 80, .inl (fun _ => 0))), ((u9 5), .inl (cA, 80, .inl (fun _ => 0))), (q16, .inr (2, [.ref (u20 1), .int (nI 0)])), ((u20 1), .inl (cA, 80, .inl (fun _ => 0))), (q27, .inr (3, [.ref (u31 1), .ref (u31 2), .ref (u31 3)])), ((u31 1), .inl (cA, 20, .inl (fun _ => 0))), ((u31 2), .inl (cA, 10, .inl (fun _ => 0))), ((u31 3), .inl (cA, 10, .inl (fun _ => 0))), (q38, .inr (3, [.ref (u42 1), .ref (u42 2), .ref (u42 3)])), ((u42 1), .inl (cA, 20, .inl (fun _ => 0))), ((u42 2), .inl (cA, 10, .inl (fun _ => 0))), ((u42 3), .inl (cA, 10, .inl (fun _ => 0))), (q49, .inr (4, [.ref (u53 1), .ref (u53 2), .int (nI 0)])), ((u53 1), .inl (cA, 10, .inl (fun _ => 0))), ((u53 2), .inl (cA, 80, .inl (fun _ => 0))), (q60, .inr (1, [.ref (u64 1), .ref (u64 2), .int (nI 0)])), ((u64 1), .inl (cA, 6, .inl (fun _ => 0))), ((u64 2), .inl (cA, 64, .inl (fun _ => 0)))]) F in_X ty_X tk_X nm_X hK 0 rfl rfl 7 (by decide) (wm k_141) rfl (by decide +kernel) rfl rfl (Nat.le_of_ble_eq_true rfl) d_X_init_77 rfl ?_
  refine j_ws (ws' := [(h0, .inr (5, [.ref q5, .ref q16, .ref q27, .ref q38, .ref q49, .ref q60, .int (nI 0), .int (nI 0)])), (q5, .inr (0, [.ref (u9 1), .ref (u9 2), .ref (u9 3), .ref (u9 4), .ref (u9 5), .int (nI 0)])), ((u9 1), .inl (cA, 80, .inl (fun _ => 0))), ((u9 2), .inl (cA, 80, .inl (fun _ => 0))), ((u9 3), .inl (cA, 80, .inl (fun _ => 0))), ((u9 4), .inl (cA, 80, .inl (fun _ => 0))), ((u9 5), .inl (cA, 80, .inl (fun _ => 0))), (q16, .inr (2, [.ref (u20 1), .int (nI 0)])), ((u20 1), .inl (cA, 80, .inl (fun _ => 0))), (q27, .inr (3, [.ref (u31 1), .ref (u31 2), .ref (u31 3)])), ((u31 1), .inl (cA, 20, .inl (fun _ => 0))), ((u31 2), .inl (cA, 10, .inl (fun _ => 0))), ((u31 3), .inl (cA, 10, .inl (fun _ => 0))), (q38, .inr (3, [.ref (u42 1), .ref (u42 2), .ref (u42 3)])), ((u42 1), .inl (cA, 20, .inl (fun _ => 0))), ((u42 2), .inl (cA, 10, .inl (fun _ => 0))), ((u42 3), .inl (cA, 10, .inl (fun _ => 0))), (q49, .inr (4, [.ref (u53 1), .ref (u53 2), .int (nI 0)])), ((u53 1), .inl (cA, 10, .inl (fun _ => 0))), ((u53 2), .inl (cA, 80, .inl (fun _ => 0))), (q60, .inr (1, [.ref (u64 1), .ref (u64 2), .int (nI 0)])), ((u64 1), .inl (cA, 6, .inl (fun _ => 0))), ((u64 2), .inl (cA, 64, .inl (fun _ => 0)))]) [0, 1, 2, 3, 4, 5, 6, 7, 8, 9, 10, 11, 12, 13, 14, 15, 16, 17, 18, 19, 20, 21, 22] (by decide) rfl ?_
  exact ret _ _ _ _ _ (fun i => [0, q5, (u9 1), (u9 2), (u9 3), (u9 4), (u9 5), q16, (u20 1), q27, (u31 1), (u31 2), (u31 3), q38, (u42 1), (u42 2), (u42 3), q49, (u53 1), (u53 2), q60, (u64 1), (u64 2)].getD i 0) d_X_init_80 (by decide) (by decide) rfl trivial
end
section
/-! the quota, as the class serves it -/
def aN (X : AF) (e : Nat) : Nat := (X 1 e).toNatClampNeg
def bN (X : AF) (e : Nat) : Nat := (X 2 e).toNatClampNeg
def isAsk (X : AF) (e : Nat) : Prop := X 0 e = nI 4
theorem aN_eq {X : AF} {e : Nat} (h : aok1 X e) (hk : X 0 e = nI 4) : X 1 e = nI (aN X e) ∧ aN X e < 10 := by
  obtain ⟨⟨a, ha, e1⟩, -⟩ := aok_4 h hk
  unfold aN
  rw [e1, nI_clamp (by omega)]
  exact ⟨rfl, ha⟩
theorem bN_eq {X : AF} {e : Nat} (h : aok1 X e) (hk : X 0 e = nI 4) : X 2 e = nI (bN X e) ∧ 1 ≤ bN X e ∧ bN X e ≤ 1000 := by
  obtain ⟨-, b, hb, hb2, e1⟩ := aok_4 h hk
  unfold bN
  rw [e1, nI_clamp (by omega)]
  exact ⟨rfl, hb, hb2⟩
def sumR (f : Nat → Nat) : Nat → Nat
  | 0 => 0
  | c + 1 => sumR f c + f c
theorem sumR_le {f : Nat → Nat} {b c : Nat} (h : ∀ j, j < c → f j ≤ b) : sumR f c ≤ c * b := by
  induction c with
  | zero => exact Nat.zero_le _
  | succ c ih =>
    have h1 := ih (fun j hj => h j (by omega))
    have h2 := h c (by omega)
    show sumR f c + f c ≤ (c + 1) * b
    rw [Nat.succ_mul]
    omega
theorem sumR_congr {f g : Nat → Nat} {c : Nat} (h : ∀ j, j < c → f j = g j) : sumR f c = sumR g c := by
  induction c with
  | zero => rfl
  | succ c ih =>
    show sumR f c + f c = sumR g c + g c
    rw [ih (fun j hj => h j (by omega)), h c (by omega)]
/-- the asks of an order -/
def akT (X : AF) (L : List Nat) : Nat → List Nat
  | 0 => []
  | i + 1 => cond (decide (X 0 (L.getD i 0) = nI 4)) (akT X L i ++ [L.getD i 0]) (akT X L i)
def asksL (X : AF) (L : List Nat) : List Nat := akT X L L.length
theorem akT_t {X : AF} {L : List Nat} {i : Nat} (h : X 0 (L.getD i 0) = nI 4) : akT X L (i + 1) = akT X L i ++ [L.getD i 0] := by
  show cond (decide (X 0 (L.getD i 0) = nI 4)) _ _ = _
  rw [decide_eq_true h]; rfl
theorem akT_f {X : AF} {L : List Nat} {i : Nat} (h : ¬ X 0 (L.getD i 0) = nI 4) : akT X L (i + 1) = akT X L i := by
  show cond (decide (X 0 (L.getD i 0) = nI 4)) _ _ = _
  rw [decide_eq_false h]; rfl
theorem akT_len (X : AF) (L : List Nat) (i : Nat) : (akT X L i).length ≤ i := by
  induction i with
  | zero => exact Nat.le_refl _
  | succ i ih =>
    by_cases h : X 0 (L.getD i 0) = nI 4
    · rw [akT_t h, List.length_append]; simp; omega
    · rw [akT_f h]; omega
theorem akT_mem {X : AF} {L : List Nat} {i y : Nat} (hi : i ≤ L.length) (h : y ∈ akT X L i) : y ∈ L ∧ X 0 y = nI 4 := by
  induction i with
  | zero => exact absurd h List.not_mem_nil
  | succ i ih =>
    by_cases h4 : X 0 (L.getD i 0) = nI 4
    · rw [akT_t h4] at h
      rcases List.mem_append.mp h with h | h
      · exact ih (by omega) h
      · rw [List.mem_singleton.mp h]
        exact ⟨getD_mem (by omega), h4⟩
    · rw [akT_f h4] at h
      exact ih (by omega) h
theorem rowL_push {f : Nat → Int32} {L : List Nat} {x : Nat} (h : rowL f L) : rowL (upd f L.length (nI x)) (L ++ [x]) := by
  intro i hi
  rw [List.length_append] at hi
  have hi : i < L.length + 1 := hi
  by_cases e : i = L.length
  · subst e
    rw [upd_eq, List.getD_eq_getElem?_getD, List.getElem?_append_right (Nat.le_refl _), Nat.sub_self]; rfl
  · rw [upd_ne e, h i (by omega), List.getD_eq_getElem?_getD, List.getD_eq_getElem?_getD, List.getElem?_append_left (by omega)]
/-- a list of asks of these acts -/
def okK (X : AF) (n : Nat) (K : List Nat) : Prop := K.length ≤ 80 ∧ ∀ i, i < K.length → K.getD i 0 < n ∧ X 0 (K.getD i 0) = nI 4
def stB (X : AF) (K : List Nat) (i : Nat) : Bool := decide (i = 0) || !decide (X 3 (K.getD i 0) = X 3 (K.getD (i - 1) 0))
def eoF (X : AF) (K : List Nat) : Nat → Nat → Nat
  | 0, e => e
  | f + 1, e => cond (decide (e < K.length) && !stB X K e) (eoF X K f (e + 1)) e
def eoT (X : AF) (K : List Nat) (i : Nat) : Nat := eoF X K (K.length - (i + 1)) (i + 1)
theorem eoF_go {X : AF} {K : List Nat} {e : Nat} (h : e < K.length) (hs : stB X K e = false) : eoF X K (K.length - e) e = eoF X K (K.length - (e + 1)) (e + 1) := by
  obtain ⟨f, hf⟩ : ∃ f, K.length - e = f + 1 := ⟨K.length - e - 1, by omega⟩
  rw [hf, show K.length - (e + 1) = f by omega]
  show cond (decide (e < K.length) && !stB X K e) _ _ = _
  rw [decide_eq_true h, hs]; rfl
theorem eoF_st {X : AF} {K : List Nat} {e : Nat} (hs : stB X K e = true) (f : Nat) : eoF X K f e = e := by
  cases f with
  | zero => rfl
  | succ f =>
    show cond (decide (e < K.length) && !stB X K e) _ _ = _
    rw [hs]; simp
theorem eoF_end {X : AF} {K : List Nat} {e : Nat} (h : ¬ e < K.length) (f : Nat) : eoF X K f e = e := by
  cases f with
  | zero => rfl
  | succ f =>
    show cond (decide (e < K.length) && !stB X K e) _ _ = _
    rw [decide_eq_false h]; rfl
theorem eoF_in (X : AF) (K : List Nat) (f e : Nat) (he : e + f ≤ K.length ∨ f = 0) (h2 : e ≤ K.length) : e ≤ eoF X K f e ∧ eoF X K f e ≤ K.length := by
  induction f generalizing e with
  | zero => exact ⟨Nat.le_refl _, h2⟩
  | succ f ih =>
    show e ≤ cond (decide (e < K.length) && !stB X K e) _ _ ∧ cond (decide (e < K.length) && !stB X K e) _ _ ≤ _
    cases hb : (decide (e < K.length) && !stB X K e)
    · exact ⟨Nat.le_refl _, h2⟩
    · have := ih (e + 1) (by omega) (by omega)
      exact ⟨by simp; omega, by simp; omega⟩
theorem eoT_in {X : AF} {K : List Nat} {i : Nat} (h : i < K.length) : i + 1 ≤ eoT X K i ∧ eoT X K i ≤ K.length := eoF_in X K _ _ (by omega) (by omega)
/-- ask j of the group at fr -/
def gK (K : List Nat) (fr : Nat) (j : Nat) : Nat := K.getD (fr + j) 0
def wan (X : AF) (K : List Nat) (fr c : Nat) : Nat := sumR (fun j => bN X (gK K fr j)) c
def shr (b lf w : Nat) : Nat := if w ≤ lf then b else b * lf / w
def shX (X : AF) (K : List Nat) (fr lf w : Nat) (j : Nat) : Nat := shr (bN X (gK K fr j)) lf w
def spn (X : AF) (K : List Nat) (fr lf w c : Nat) : Nat := sumR (shX X K fr lf w) c
def accF (g0 : Nat → Int32) (al w : Nat → Nat) (c : Nat) : Nat → Int32 := fun i => g0 i + nI (sumR (fun j => if al j = i then w j else 0) c)
theorem accF_0 (g0 : Nat → Int32) (al w : Nat → Nat) : accF g0 al w 0 = g0 := funext fun i => by
  show g0 i + nI 0 = g0 i
  rw [nI_0, Int32.add_zero]
theorem accF_s (g0 : Nat → Int32) (al w : Nat → Nat) (c : Nat) : upd (accF g0 al w c) (al c) (accF g0 al w c (al c) + nI (w c)) = accF g0 al w (c + 1) := funext fun i => by
  by_cases h : i = al c
  · subst h
    rw [upd_eq]
    show g0 (al c) + nI _ + nI (w c) = g0 (al c) + nI (sumR _ c + if al c = al c then w c else 0)
    rw [if_pos rfl, ← nI_add, Int32.add_assoc]
  · rw [upd_ne h]
    show g0 i + nI _ = g0 i + nI (sumR _ c + if al c = i then w c else 0)
    rw [if_neg (Ne.symm h), Nat.add_zero]
def aG (X : AF) (K : List Nat) (fr : Nat) (j : Nat) : Nat := aN X (gK K fr j)
/-- what is given over to the first ones: how many -/
def mre (X : AF) (K : List Nat) (fr cnt lf : Nat) : Nat := min cnt (min lf (wan X K fr cnt) - spn X K fr lf (wan X K fr cnt) cnt)
def srvR (X : AF) (K : List Nat) (fr cnt lf : Nat) : Nat := spn X K fr lf (wan X K fr cnt) cnt + mre X K fr cnt lf
def srvG (g0 : Nat → Int32) (X : AF) (K : List Nat) (fr cnt lf : Nat) : Nat → Int32 := accF (accF g0 (aG X K fr) (shX X K fr lf (wan X K fr cnt)) cnt) (aG X K fr) (fun _ => 1) (mre X K fr cnt lf)
theorem sumR_mulr (f : Nat → Nat) (d c : Nat) : sumR (fun j => f j * d) c = sumR f c * d := by
  induction c with
  | zero => exact (Nat.zero_mul d).symm
  | succ c ih =>
    show sumR _ c + f c * d = (sumR f c + f c) * d
    rw [ih, Nat.add_mul]
theorem sumR_mono {f g : Nat → Nat} {c : Nat} (h : ∀ j, j < c → f j ≤ g j) : sumR f c ≤ sumR g c := by
  induction c with
  | zero => exact Nat.le_refl _
  | succ c ih =>
    have h1 := ih (fun j hj => h j (by omega))
    have h2 := h c (by omega)
    show sumR f c + f c ≤ sumR g c + g c
    omega
/-- shares never pass what is left, nor what is wanted -/
theorem spn_le (X : AF) (K : List Nat) (fr cnt lf : Nat) : spn X K fr lf (wan X K fr cnt) cnt ≤ min lf (wan X K fr cnt) := by
  generalize hw : wan X K fr cnt = w
  by_cases h : w ≤ lf
  · have e : spn X K fr lf w cnt = w := by
      unfold spn
      rw [← hw]
      exact sumR_congr (fun j _ => by unfold shX shr; rw [if_pos (by rw [hw]; exact h)])
    rw [e]
    omega
  · have h1 : spn X K fr lf w cnt * w ≤ w * lf := by
      unfold spn
      rw [← sumR_mulr]
      have h2 : sumR (fun j => shX X K fr lf w j * w) cnt ≤ sumR (fun j => bN X (gK K fr j) * lf) cnt := sumR_mono (fun j _ => by unfold shX shr; rw [if_neg h]; exact Nat.div_mul_le_self _ _)
      have h3 : sumR (fun j => bN X (gK K fr j)) cnt = w := hw
      rw [sumR_mulr (fun j => bN X (gK K fr j)) lf cnt, h3] at h2
      exact h2
    have hw0 : 0 < w := by omega
    have h4 : spn X K fr lf w cnt ≤ lf := Nat.le_of_mul_le_mul_right (by rw [Nat.mul_comm lf w]; exact h1) hw0
    omega
theorem srvR_le (X : AF) (K : List Nat) (fr cnt lf : Nat) : srvR X K fr cnt lf ≤ lf := by
  have := spn_le X K fr cnt lf
  unfold srvR mre
  omega
/-- all asks, time after time: what is left, what each has -/
def saT (X : AF) (K : List Nat) : Nat → Nat × (Nat → Int32)
  | 0 => (1000, fun _ => nI 0)
  | i + 1 => cond (stB X K i) ((saT X K i).1 - srvR X K i (eoT X K i - i) (saT X K i).1, srvG (saT X K i).2 X K i (eoT X K i - i) (saT X K i).1) (saT X K i)
theorem saT_t {X : AF} {K : List Nat} {i : Nat} (h : stB X K i = true) : saT X K (i + 1) = ((saT X K i).1 - srvR X K i (eoT X K i - i) (saT X K i).1, srvG (saT X K i).2 X K i (eoT X K i - i) (saT X K i).1) := by
  show cond (stB X K i) _ _ = _
  rw [h]; rfl
theorem saT_f {X : AF} {K : List Nat} {i : Nat} (h : stB X K i = false) : saT X K (i + 1) = saT X K i := by
  show cond (stB X K i) _ _ = _
  rw [h]; rfl
theorem saT_le (X : AF) (K : List Nat) (i : Nat) : (saT X K i).1 ≤ 1000 := by
  induction i with
  | zero => exact Nat.le_refl _
  | succ i ih =>
    cases h : stB X K i
    · rw [saT_f h]; exact ih
    · rw [saT_t h]
      show (saT X K i).1 - _ ≤ 1000
      omega
theorem wan_le {X : AF} {n : Nat} {K : List Nat} {fr c : Nat} (hA : aok X n) (hK : okK X n K) (h : fr + c ≤ K.length) : wan X K fr c ≤ c * 1000 := sumR_le (fun j hj => by
  have h1 := hK.2 (fr + j) (by omega)
  exact (bN_eq (hA.2 _ h1.1) h1.2).2.2)
theorem shr_le {b lf w : Nat} (hb : b ≤ 1000) (hl : lf ≤ 1000) : shr b lf w ≤ 1000000 := by
  unfold shr
  by_cases h : w ≤ lf
  · rw [if_pos h]; omega
  · rw [if_neg h]
    have h1 : b * lf ≤ 1000 * 1000 := Nat.mul_le_mul hb hl
    exact Nat.le_trans (Nat.div_le_self _ _) (by omega)
end
section
def rm_S_gatherAsks : Room := { frames := 0, cells := 0, slots := 0, locals := 0 }
set_option maxHeartbeats 4000000 in
set_option maxRecDepth 100000 in
theorem ct_S_gatherAsks (l : Launch) (D : va_G) (cA : ClassId) (s0 s1 s2 : Nat) (z : Int32) (gv ak : Nat → Int32) (o0 o1 : Nat) (g : Nat → Int32) (L : List Nat) (a0 a1 a2 a3 a4 a5 : Nat) (X : AF) (n : Nat) (hn : n ≤ 80) (hL : rowL g L) (hlen : L.length ≤ 80) (hmem : ∀ i, i < L.length → L.getD i 0 < n) : Cv (S := (Nat → Int32)) l y_S_gatherAsks (Cond.code y_S_gatherAsks c_S_gatherAsks 4 none :: WD) rm_S_gatherAsks D vwCl [(cA, .int)] nws [.ref s0, .ref a0, .ref o0] [(s0, .inr (4, [.ref s1, .ref s2, .int z])), (s1, .inl (cA, 10, .inl gv)), (s2, .inl (cA, 80, .inl ak)), (o0, .inr (2, [.ref o1, .int (nI L.length)])), (o1, .inl (cA, 80, .inl g)), (a0, .inr (0, [.ref a1, .ref a2, .ref a3, .ref a4, .ref a5, .int (nI n)])), (a1, .inl (cA, 80, .inl (X 0))), (a2, .inl (cA, 80, .inl (X 1))), (a3, .inl (cA, 80, .inl (X 2))), (a4, .inl (cA, 80, .inl (X 3))), (a5, .inl (cA, 80, .inl (X 4)))] 0 0 (fun u => rowL u (asksL X L)) (fun u => [(s0, .inr (4, [.ref s1, .ref s2, .int (nI ((asksL X L).length))])), (s1, .inl (cA, 10, .inl gv)), (s2, .inl (cA, 80, .inl u)), (o0, .inr (2, [.ref o1, .int (nI L.length)])), (o1, .inl (cA, 80, .inl g)), (a0, .inr (0, [.ref a1, .ref a2, .ref a3, .ref a4, .ref a5, .int (nI n)])), (a1, .inl (cA, 80, .inl (X 0))), (a2, .inl (cA, 80, .inl (X 1))), (a3, .inl (cA, 80, .inl (X 2))), (a4, .inl (cA, 80, .inl (X 3))), (a5, .inl (cA, 80, .inl (X 4)))]) := by
  refine Cv.of (cc := c_S_gatherAsks) (nL := 4) (lv := [(0, .ref s0), (1, .ref a0), (2, .ref o0)]) (by decide) rfl (Nat.le_of_ble_eq_true rfl) rfl ?_
  intro p e s m args below meth cd A Q F hK hN hA hinit ret
  refine j_aloadn F d_S_gatherAsks_0 0 rfl rfl ?_
  refine j_iconst (v := nI 0) F d_S_gatherAsks_1 (by decide) ?_
  refine j_put (ci := 4) (v := .int (nI 0)) (ty := .int) (ws' := [(s0, .inr (4, [.ref s1, .ref s2, .int (nI 0)])), (s1, .inl (cA, 10, .inl gv)), (s2, .inl (cA, 80, .inl ak)), (o0, .inr (2, [.ref o1, .int (nI L.length)])), (o1, .inl (cA, 80, .inl g)), (a0, .inr (0, [.ref a1, .ref a2, .ref a3, .ref a4, .ref a5, .int (nI n)])), (a1, .inl (cA, 80, .inl (X 0))), (a2, .inl (cA, 80, .inl (X 1))), (a3, .inl (cA, 80, .inl (X 2))), (a4, .inl (cA, 80, .inl (X 3))), (a5, .inl (cA, 80, .inl (X 4)))]) F in_S ty_S tk_S nm_S hK 0 rfl rfl 2 (by decide) (wm k_110) rfl (by decide +kernel) rfl rfl (Nat.le_of_ble_eq_true rfl) d_S_gatherAsks_2 rfl ?_
  refine j_iconst (v := nI 0) F d_S_gatherAsks_5 (by decide) ?_
  refine j_istoren (lv' := [(3, .int (nI 0)), (0, .ref s0), (1, .ref a0), (2, .ref o0)]) F d_S_gatherAsks_6 rfl (by decide) rfl ?_
  have loop7 : ∀ (fuel : Nat) (i : Nat) (h : Nat → Int32) (hfuel : L.length - i < fuel) (hi : i ≤ L.length) (hg : rowL h (akT X L i)), J p l e rm_S_gatherAsks s m args below meth cd D vwCl A s.heap 4 0 0 Q [(s0, .inr (4, [.ref s1, .ref s2, .int (nI ((akT X L i).length))])), (s1, .inl (cA, 10, .inl gv)), (s2, .inl (cA, 80, .inl h)), (o0, .inr (2, [.ref o1, .int (nI L.length)])), (o1, .inl (cA, 80, .inl g)), (a0, .inr (0, [.ref a1, .ref a2, .ref a3, .ref a4, .ref a5, .int (nI n)])), (a1, .inl (cA, 80, .inl (X 0))), (a2, .inl (cA, 80, .inl (X 1))), (a3, .inl (cA, 80, .inl (X 2))), (a4, .inl (cA, 80, .inl (X 3))), (a5, .inl (cA, 80, .inl (X 4)))] [(0, .ref s0), (1, .ref a0), (2, .ref o0), (3, .int (nI i))] 7 [] := by
    intro fuel
    induction fuel with
    | zero => intro i h hfuel; exact absurd hfuel (Nat.not_lt_zero _)
    | succ fuel ih =>
      intro i h hfuel hi hg
      have hal := akT_len X L i
      refine j_iloadn F d_S_gatherAsks_7 3 rfl rfl ?_
      refine j_aloadn F d_S_gatherAsks_8 2 rfl rfl ?_
      refine j_getN (ci := 2) (v := .int (nI L.length)) F in_O hK hN 3 rfl rfl 1 (by decide) n_75 rfl d_S_gatherAsks_9 ?_
      refine j_ic_ge (tgt := 61) F d_S_gatherAsks_12 (by decide) (fun c_12 => ?_) (fun c_12 => ?_)
      · have c_12 : L.length ≤ i := (nI_leI (by omega) (by omega)).mp c_12
        have hin : i = L.length := by omega
        subst hin
        exact ret _ _ _ _ _ h d_S_gatherAsks_61 (by decide) (by decide) rfl hg
      · have c_12 : ¬ L.length ≤ i := fun h => c_12 ((nI_leI (by omega) (by omega)).mpr h)
        refine j_aloadn F d_S_gatherAsks_15 1 rfl rfl ?_
        refine j_getN (ci := 0) (v := .ref a1) F in_A hK hN 5 rfl rfl 0 (by decide) n_32 rfl d_S_gatherAsks_16 ?_
        refine j_aloadn F d_S_gatherAsks_19 2 rfl rfl ?_
        refine j_getN (ci := 2) (v := .ref o1) F in_O hK hN 3 rfl rfl 0 (by decide) n_72 rfl d_S_gatherAsks_20 ?_
        refine j_iloadn F d_S_gatherAsks_23 3 rfl rfl ?_
        refine j_iald (v := nI (L.getD i 0)) F hK 4 0 rfl rfl (by omega) (by decide) d_S_gatherAsks_24 (hL i (by omega)) ?_
        have hm := hmem i (by omega)
        refine j_iald (v := (X 0) (L.getD i 0)) F hK 6 0 rfl rfl (by omega) (by decide) d_S_gatherAsks_25 rfl ?_
        refine j_iconst (v := nI 4) F d_S_gatherAsks_26 (by decide) ?_
        refine j_ic_ne (tgt := 55) F d_S_gatherAsks_27 (by decide) (fun c_27 => ?_) (fun c_27 => ?_)
        · have ho : akT X L (i + 1) = akT X L i := akT_f c_27
          rw [← ho] at hg ⊢
          refine j_iinc (v := nI (i + 1)) (lv' := [(3, .int (nI (i + 1))), (0, .ref s0), (1, .ref a0), (2, .ref o0)]) F d_S_gatherAsks_55 3 rfl (jn_inc i) (by decide) rfl ?_
          refine j_goto (tgt := 7) F d_S_gatherAsks_58 (by decide) ?_
          refine j_lv (lv' := [(0, .ref s0), (1, .ref a0), (2, .ref o0), (3, .int (nI (i + 1)))]) [1, 2, 3, 0] rfl ?_
          exact ih (i + 1) h (by omega) (by omega) hg
        · refine j_aloadn F d_S_gatherAsks_30 0 rfl rfl ?_
          refine j_get (ci := 4) (v := .ref s2) F in_S hK 0 rfl rfl 1 (by decide) (wm k_109) rfl d_S_gatherAsks_31 ?_
          refine j_aloadn F d_S_gatherAsks_34 0 rfl rfl ?_
          refine j_get (ci := 4) (v := .int (nI ((akT X L i).length))) F in_S hK 0 rfl rfl 2 (by decide) (wm k_110) rfl d_S_gatherAsks_35 ?_
          refine j_aloadn F d_S_gatherAsks_38 2 rfl rfl ?_
          refine j_getN (ci := 2) (v := .ref o1) F in_O hK hN 3 rfl rfl 0 (by decide) n_72 rfl d_S_gatherAsks_39 ?_
          refine j_iloadn F d_S_gatherAsks_42 3 rfl rfl ?_
          refine j_iald (v := nI (L.getD i 0)) F hK 4 0 rfl rfl (by omega) (by decide) d_S_gatherAsks_43 (hL i (by omega)) ?_
          refine j_iast (ws' := [(s0, .inr (4, [.ref s1, .ref s2, .int (nI ((akT X L i).length))])), (s1, .inl (cA, 10, .inl gv)), (s2, .inl (cA, 80, .inl (upd h ((akT X L i).length) (nI (L.getD i 0))))), (o0, .inr (2, [.ref o1, .int (nI L.length)])), (o1, .inl (cA, 80, .inl g)), (a0, .inr (0, [.ref a1, .ref a2, .ref a3, .ref a4, .ref a5, .int (nI n)])), (a1, .inl (cA, 80, .inl (X 0))), (a2, .inl (cA, 80, .inl (X 1))), (a3, .inl (cA, 80, .inl (X 2))), (a4, .inl (cA, 80, .inl (X 3))), (a5, .inl (cA, 80, .inl (X 4)))]) F hK 2 0 rfl rfl (by omega) (by decide) d_S_gatherAsks_44 rfl ?_
          refine j_aloadn F d_S_gatherAsks_45 0 rfl rfl ?_
          refine j_dup F d_S_gatherAsks_46 rfl ?_
          refine j_get (ci := 4) (v := .int (nI ((akT X L i).length))) F in_S hK 0 rfl rfl 2 (by decide) (wm k_110) rfl d_S_gatherAsks_47 ?_
          refine j_iconst (v := nI 1) F d_S_gatherAsks_50 (by decide) ?_
          refine j_iadd (v := nI (((akT X L i).length) + 1)) F d_S_gatherAsks_51 (nI_add _ _) ?_
          refine j_put (ci := 4) (v := .int (nI (((akT X L i).length) + 1))) (ty := .int) (ws' := [(s0, .inr (4, [.ref s1, .ref s2, .int (nI (((akT X L i).length) + 1))])), (s1, .inl (cA, 10, .inl gv)), (s2, .inl (cA, 80, .inl (upd h ((akT X L i).length) (nI (L.getD i 0))))), (o0, .inr (2, [.ref o1, .int (nI L.length)])), (o1, .inl (cA, 80, .inl g)), (a0, .inr (0, [.ref a1, .ref a2, .ref a3, .ref a4, .ref a5, .int (nI n)])), (a1, .inl (cA, 80, .inl (X 0))), (a2, .inl (cA, 80, .inl (X 1))), (a3, .inl (cA, 80, .inl (X 2))), (a4, .inl (cA, 80, .inl (X 3))), (a5, .inl (cA, 80, .inl (X 4)))]) F in_S ty_S tk_S nm_S hK 0 rfl rfl 2 (by decide) (wm k_110) rfl (by decide +kernel) rfl rfl (Nat.le_of_ble_eq_true rfl) d_S_gatherAsks_52 rfl ?_
          have ho : akT X L (i + 1) = akT X L i ++ [L.getD i 0] := akT_t c_27
          have hl1 : (akT X L i).length + 1 = (akT X L (i + 1)).length := by rw [ho, List.length_append]; rfl
          rw [hl1]
          have hg2 : rowL (upd h (akT X L i).length (nI (L.getD i 0))) (akT X L (i + 1)) := by rw [ho]; exact rowL_push hg
          refine j_iinc (v := nI (i + 1)) (lv' := [(3, .int (nI (i + 1))), (0, .ref s0), (1, .ref a0), (2, .ref o0)]) F d_S_gatherAsks_55 3 rfl (jn_inc i) (by decide) rfl ?_
          refine j_goto (tgt := 7) F d_S_gatherAsks_58 (by decide) ?_
          refine j_lv (lv' := [(0, .ref s0), (1, .ref a0), (2, .ref o0), (3, .int (nI (i + 1)))]) [1, 2, 3, 0] rfl ?_
          exact ih (i + 1) (upd h (akT X L i).length (nI (L.getD i 0))) (by omega) (by omega) hg2
  refine j_lv (lv' := [(0, .ref s0), (1, .ref a0), (2, .ref o0), (3, .int (nI 0))]) [1, 2, 3, 0] rfl ?_
  exact loop7 (L.length + 1) 0 ak (by omega) (by omega) (fun j hj => absurd hj (Nat.not_lt_zero _))

def rm_S_startsTime : Room := { frames := 0, cells := 0, slots := 0, locals := 0 }
set_option maxHeartbeats 4000000 in
set_option maxRecDepth 100000 in
theorem ct_S_startsTime (l : Launch) (D : va_G) (cA : ClassId) (s0 s1 s2 : Nat) (gv ak : Nat → Int32) (K : List Nat) (a0 a1 a2 a3 a4 a5 : Nat) (X : AF) (n : Nat) (hA0 : aok X n) (hKr : rowL ak K) (hKo : okK X n K) (i : Nat) (hi : i < K.length) : Ci (S := Unit) l y_S_startsTime (Cond.code y_S_startsTime c_S_startsTime 3 (some .boolean) :: WD) rm_S_startsTime D vwCl [(cA, .int)] nws [.ref s0, .ref a0, .int (nI i)] [(s0, .inr (4, [.ref s1, .ref s2, .int (nI K.length)])), (s1, .inl (cA, 10, .inl gv)), (s2, .inl (cA, 80, .inl ak)), (a0, .inr (0, [.ref a1, .ref a2, .ref a3, .ref a4, .ref a5, .int (nI n)])), (a1, .inl (cA, 80, .inl (X 0))), (a2, .inl (cA, 80, .inl (X 1))), (a3, .inl (cA, 80, .inl (X 2))), (a4, .inl (cA, 80, .inl (X 3))), (a5, .inl (cA, 80, .inl (X 4)))] 0 0 (fun r _ => r = bI (stB X K i)) (fun _ => [(s0, .inr (4, [.ref s1, .ref s2, .int (nI K.length)])), (s1, .inl (cA, 10, .inl gv)), (s2, .inl (cA, 80, .inl ak)), (a0, .inr (0, [.ref a1, .ref a2, .ref a3, .ref a4, .ref a5, .int (nI n)])), (a1, .inl (cA, 80, .inl (X 0))), (a2, .inl (cA, 80, .inl (X 1))), (a3, .inl (cA, 80, .inl (X 2))), (a4, .inl (cA, 80, .inl (X 3))), (a5, .inl (cA, 80, .inl (X 4)))]) := by
  refine Ci.of (cc := c_S_startsTime) (nL := 3) (lv := [(0, .ref s0), (1, .ref a0), (2, .int (nI i))]) (by decide) rfl (Nat.le_of_ble_eq_true rfl) rfl ?_
  intro p e s m args below meth cd A Q F hK hN hA ret
  have h80 := hA0.1
  have hk80 := hKo.1
  refine j_iloadn F d_S_startsTime_0 2 rfl rfl ?_
  refine j_if_eq (tgt := 31) F d_S_startsTime_1 (by decide) (fun c_1 => ?_) (fun c_1 => ?_)
  · have c_1 : i = 0 := (nI_eq (by omega) (by omega)).mp c_1
    refine j_iconst (v := nI 1) F d_S_startsTime_31 (by decide) ?_
    refine j_goto (tgt := 36) F d_S_startsTime_32 (by decide) ?_
    exact ret _ _ _ _ _ _ () d_S_startsTime_36 rfl (by decide) (by decide) rfl (bI_t (by unfold stB; rw [decide_eq_true c_1]; rfl))
  · have c_1 : ¬ i = 0 := fun h => c_1 ((nI_eq (by omega) (by omega)).mpr h)
    refine j_aloadn F d_S_startsTime_4 1 rfl rfl ?_
    refine j_getN (ci := 0) (v := .ref a4) F in_A hK hN 3 rfl rfl 3 (by decide) n_43 rfl d_S_startsTime_5 ?_
    refine j_aloadn F d_S_startsTime_8 0 rfl rfl ?_
    refine j_get (ci := 4) (v := .ref s2) F in_S hK 0 rfl rfl 1 (by decide) (wm k_109) rfl d_S_startsTime_9 ?_
    refine j_iloadn F d_S_startsTime_12 2 rfl rfl ?_
    have hm1 := (hKo.2 i hi).1
    have hm2 := (hKo.2 (i - 1) (by omega)).1
    refine j_iald (v := nI (K.getD i 0)) F hK 2 0 rfl rfl (by omega) (by decide) d_S_startsTime_13 (hKr i hi) ?_
    refine j_iald (v := (X 3) (K.getD i 0)) F hK 7 0 rfl rfl (by omega) (by decide) d_S_startsTime_14 rfl ?_
    refine j_aloadn F d_S_startsTime_15 1 rfl rfl ?_
    refine j_getN (ci := 0) (v := .ref a4) F in_A hK hN 3 rfl rfl 3 (by decide) n_43 rfl d_S_startsTime_16 ?_
    refine j_aloadn F d_S_startsTime_19 0 rfl rfl ?_
    refine j_get (ci := 4) (v := .ref s2) F in_S hK 0 rfl rfl 1 (by decide) (wm k_109) rfl d_S_startsTime_20 ?_
    refine j_iloadn F d_S_startsTime_23 2 rfl rfl ?_
    refine j_iconst (v := nI 1) F d_S_startsTime_24 (by decide) ?_
    refine j_isub (v := nI (i - 1)) F d_S_startsTime_25 (pk_sub (by omega)) ?_
    refine j_iald (v := nI (K.getD (i - 1) 0)) F hK 2 0 rfl rfl (by omega) (by decide) d_S_startsTime_26 (hKr (i - 1) (by omega)) ?_
    refine j_iald (v := (X 3) (K.getD (i - 1) 0)) F hK 7 0 rfl rfl (by omega) (by decide) d_S_startsTime_27 rfl ?_
    refine j_ic_eq (tgt := 35) F d_S_startsTime_28 (by decide) (fun c_28 => ?_) (fun c_28 => ?_)
    · refine j_iconst (v := nI 0) F d_S_startsTime_35 (by decide) ?_
      exact ret _ _ _ _ _ _ () d_S_startsTime_36 rfl (by decide) (by decide) rfl (bI_f (by unfold stB; rw [decide_eq_false c_1, decide_eq_true c_28]; rfl))
    · refine j_iconst (v := nI 1) F d_S_startsTime_31 (by decide) ?_
      refine j_goto (tgt := 36) F d_S_startsTime_32 (by decide) ?_
      exact ret _ _ _ _ _ _ () d_S_startsTime_36 rfl (by decide) (by decide) rfl (bI_t (by unfold stB; rw [decide_eq_false c_28]; simp))

def rm_S_endOfTime : Room := { frames := 1, cells := 0, slots := 0, locals := 22 }
set_option maxHeartbeats 4000000 in
set_option maxRecDepth 100000 in
theorem ct_S_endOfTime (l : Launch) (D : va_G) (cA : ClassId) (s0 s1 s2 : Nat) (gv ak : Nat → Int32) (K : List Nat) (a0 a1 a2 a3 a4 a5 : Nat) (X : AF) (n : Nat) (hA0 : aok X n) (hKr : rowL ak K) (hKo : okK X n K) (fr : Nat) (hfr : fr < K.length) : Ci (S := Unit) l y_S_endOfTime (Cond.code y_S_endOfTime c_S_endOfTime 4 (some .int) :: WD) rm_S_endOfTime D vwCl [(cA, .int)] nws [.ref s0, .ref a0, .int (nI fr)] [(s0, .inr (4, [.ref s1, .ref s2, .int (nI K.length)])), (s1, .inl (cA, 10, .inl gv)), (s2, .inl (cA, 80, .inl ak)), (a0, .inr (0, [.ref a1, .ref a2, .ref a3, .ref a4, .ref a5, .int (nI n)])), (a1, .inl (cA, 80, .inl (X 0))), (a2, .inl (cA, 80, .inl (X 1))), (a3, .inl (cA, 80, .inl (X 2))), (a4, .inl (cA, 80, .inl (X 3))), (a5, .inl (cA, 80, .inl (X 4)))] 0 0 (fun r _ => r = nI (eoT X K fr)) (fun _ => [(s0, .inr (4, [.ref s1, .ref s2, .int (nI K.length)])), (s1, .inl (cA, 10, .inl gv)), (s2, .inl (cA, 80, .inl ak)), (a0, .inr (0, [.ref a1, .ref a2, .ref a3, .ref a4, .ref a5, .int (nI n)])), (a1, .inl (cA, 80, .inl (X 0))), (a2, .inl (cA, 80, .inl (X 1))), (a3, .inl (cA, 80, .inl (X 2))), (a4, .inl (cA, 80, .inl (X 3))), (a5, .inl (cA, 80, .inl (X 4)))]) := by
  refine Ci.of (cc := c_S_endOfTime) (nL := 4) (lv := [(0, .ref s0), (1, .ref a0), (2, .int (nI fr))]) (by decide) rfl (Nat.le_of_ble_eq_true rfl) rfl ?_
  intro p e s m args below meth cd A Q F hK hN hA ret
  have h80 := hA0.1
  have hk80 := hKo.1
  refine j_iloadn F d_S_endOfTime_0 2 rfl rfl ?_
  refine j_iconst (v := nI 1) F d_S_endOfTime_1 (by decide) ?_
  refine j_iadd (v := nI (fr + 1)) F d_S_endOfTime_2 (nI_add _ _) ?_
  refine j_istoren (lv' := [(3, .int (nI (fr + 1))), (0, .ref s0), (1, .ref a0), (2, .int (nI fr))]) F d_S_endOfTime_3 rfl (by decide) rfl ?_
  have loop4 : ∀ (fuel : Nat) (e1 : Nat) (hfuel : K.length - e1 < fuel) (he1 : fr + 1 ≤ e1) (he2 : e1 ≤ K.length) (hev : eoT X K fr = eoF X K (K.length - e1) e1), J p l e rm_S_endOfTime s m args below meth cd D vwCl A s.heap 4 0 0 Q [(s0, .inr (4, [.ref s1, .ref s2, .int (nI K.length)])), (s1, .inl (cA, 10, .inl gv)), (s2, .inl (cA, 80, .inl ak)), (a0, .inr (0, [.ref a1, .ref a2, .ref a3, .ref a4, .ref a5, .int (nI n)])), (a1, .inl (cA, 80, .inl (X 0))), (a2, .inl (cA, 80, .inl (X 1))), (a3, .inl (cA, 80, .inl (X 2))), (a4, .inl (cA, 80, .inl (X 3))), (a5, .inl (cA, 80, .inl (X 4)))] [(0, .ref s0), (1, .ref a0), (2, .int (nI fr)), (3, .int (nI e1))] 4 [] := by
    intro fuel
    induction fuel with
    | zero => intro e1 hfuel; exact absurd hfuel (Nat.not_lt_zero _)
    | succ fuel ih =>
      intro e1 hfuel he1 he2 hev
      refine j_iloadn F d_S_endOfTime_4 3 rfl rfl ?_
      refine j_aloadn F d_S_endOfTime_5 0 rfl rfl ?_
      refine j_get (ci := 4) (v := .int (nI K.length)) F in_S hK 0 rfl rfl 2 (by decide) (wm k_110) rfl d_S_endOfTime_6 ?_
      refine j_ic_ge (tgt := 27) F d_S_endOfTime_9 (by decide) (fun c_9 => ?_) (fun c_9 => ?_)
      · have c_9 : K.length ≤ e1 := (nI_leI (by omega) (by omega)).mp c_9
        refine j_iloadn F d_S_endOfTime_27 3 rfl rfl ?_
        exact ret _ _ _ _ _ _ () d_S_endOfTime_28 rfl (by decide) (by decide) rfl (by rw [hev, eoF_end (by omega)])
      · have c_9 : ¬ K.length ≤ e1 := fun h => c_9 ((nI_leI (by omega) (by omega)).mpr h)
        refine j_aloadn F d_S_endOfTime_12 0 rfl rfl ?_
        refine j_aloadn F d_S_endOfTime_13 1 rfl rfl ?_
        refine j_iloadn F d_S_endOfTime_14 3 rfl rfl ?_
        refine j_goi (wc := [(s0, .inr (4, [.ref s1, .ref s2, .int (nI K.length)])), (s1, .inl (cA, 10, .inl gv)), (s2, .inl (cA, 80, .inl ak)), (a0, .inr (0, [.ref a1, .ref a2, .ref a3, .ref a4, .ref a5, .int (nI n)])), (a1, .inl (cA, 80, .inl (X 0))), (a2, .inl (cA, 80, .inl (X 1))), (a3, .inl (cA, 80, .inl (X 2))), (a4, .inl (cA, 80, .inl (X 3))), (a5, .inl (cA, 80, .inl (X 4)))]) (wr := []) hA [0, 1, 2, 3, 4, 5, 6, 7, 8] [] rfl rfl (by decide) (by decide) (fun H locs ls hP hD hl => va_runV (As := [.ref a0, .int (nI e1)]) (rest := []) F (ct_S_startsTime l D cA s0 s1 s2 gv ak K a0 a1 a2 a3 a4 a5 X n hA0 hKr hKo e1 (by omega) H.size) ⟨callB_of 2 F.2.2.2.2 (gd k_367) rfl rfl rfl (F.2.2.2.2 _ (wm k_5)) (F.2.2.2.2 _ (wm k_364)) (by decide +kernel) ⟨by decide, by decide⟩, F.2.2.2.2 _ (wm k_366), F.2.2.2.2 _ (wm ks_18)⟩ (pre_V rfl hK hN hP hD [0, 1, 2, 3, 4, 5, 6, 7, 8] rfl (by decide) 0 rfl rfl) rfl rfl hl.1 rfl (lv_room (Nat.le_of_ble_eq_true rfl)) d_S_endOfTime_15 ⟨by decide, by decide⟩) (fun r15 u15 hw15 => ?_)
        subst hw15
        refine j_ws (ws' := [(s0, .inr (4, [.ref s1, .ref s2, .int (nI K.length)])), (s1, .inl (cA, 10, .inl gv)), (s2, .inl (cA, 80, .inl ak)), (a0, .inr (0, [.ref a1, .ref a2, .ref a3, .ref a4, .ref a5, .int (nI n)])), (a1, .inl (cA, 80, .inl (X 0))), (a2, .inl (cA, 80, .inl (X 1))), (a3, .inl (cA, 80, .inl (X 2))), (a4, .inl (cA, 80, .inl (X 3))), (a5, .inl (cA, 80, .inl (X 4)))]) [0, 1, 2, 3, 4, 5, 6, 7, 8] (by decide) rfl ?_
        refine j_if_ne (tgt := 27) F d_S_endOfTime_18 (by decide) (fun c_18 => ?_) (fun c_18 => ?_)
        · refine j_iloadn F d_S_endOfTime_27 3 rfl rfl ?_
          exact ret _ _ _ _ _ _ () d_S_endOfTime_28 rfl (by decide) (by decide) rfl (by rw [hev, eoF_st (bI_1 c_18)])
        · refine j_iinc (v := nI (e1 + 1)) (lv' := [(3, .int (nI (e1 + 1))), (0, .ref s0), (1, .ref a0), (2, .int (nI fr))]) F d_S_endOfTime_21 3 rfl (jn_inc e1) (by decide) rfl ?_
          refine j_goto (tgt := 4) F d_S_endOfTime_24 (by decide) ?_
          refine j_lv (lv' := [(0, .ref s0), (1, .ref a0), (2, .int (nI fr)), (3, .int (nI (e1 + 1)))]) [1, 2, 3, 0] rfl ?_
          exact ih (e1 + 1) (by omega) (by omega) (by omega) (by rw [hev]; exact eoF_go (by omega) (bI_0 c_18))
  refine j_lv (lv' := [(0, .ref s0), (1, .ref a0), (2, .int (nI fr)), (3, .int (nI (fr + 1)))]) [1, 2, 3, 0] rfl ?_
  exact loop4 (K.length - (fr + 1) + 1) (fr + 1) (by omega) (by omega) (by omega) rfl

def rm_S_share : Room := { frames := 0, cells := 0, slots := 0, locals := 0 }
set_option maxHeartbeats 4000000 in
set_option maxRecDepth 100000 in
theorem ct_S_share (l : Launch) (D : va_G) (cA : ClassId) (b lf w : Nat) (hb : b ≤ 1000) (hl : lf ≤ 1000) (hw : w ≤ 100000) : Ci (S := Unit) l y_S_share (Cond.code y_S_share c_S_share 3 (some .int) :: WD) rm_S_share D vwCl [(cA, .int)] nws [.int (nI b), .int (nI lf), .int (nI w)] [] 0 0 (fun r _ => r = nI (shr b lf w)) (fun _ => []) := by
  refine Ci.of (cc := c_S_share) (nL := 3) (lv := [(0, .int (nI b)), (1, .int (nI lf)), (2, .int (nI w))]) (by decide) rfl (Nat.le_of_ble_eq_true rfl) rfl ?_
  intro p e s m args below meth cd A Q F hK hN hA ret
  refine j_iloadn F d_S_share_0 2 rfl rfl ?_
  refine j_iloadn F d_S_share_1 1 rfl rfl ?_
  refine j_ic_le (tgt := 9) F d_S_share_2 (by decide) (fun c_2 => ?_) (fun c_2 => ?_)
  · have c_2 : w ≤ lf := (nI_leI (by omega) (by omega)).mp c_2
    refine j_iloadn F d_S_share_9 0 rfl rfl ?_
    exact ret _ _ _ _ _ _ () d_S_share_10 rfl (by decide) (by decide) rfl (by unfold shr; rw [if_pos c_2])
  · have c_2 : ¬ w ≤ lf := fun h => c_2 ((nI_leI (by omega) (by omega)).mpr h)
    refine j_iloadn F d_S_share_5 2 rfl rfl ?_
    refine j_if_gt (tgt := 11) F d_S_share_6 (by decide) (fun c_6 => ?_) (fun c_6 => ?_)
    · have c_6 : 0 < w := (nI_ltI (by omega) (by omega)).mp c_6
      refine j_iloadn F d_S_share_11 0 rfl rfl ?_
      refine j_iloadn F d_S_share_12 1 rfl rfl ?_
      have hbl : b * lf ≤ 1000 * 1000 := Nat.mul_le_mul hb hl
      refine j_imul (v := nI (b * lf)) F d_S_share_13 (pk_mul _ _) ?_
      refine j_iloadn F d_S_share_14 2 rfl rfl ?_
      refine j_idiv (v := nI ((b * lf) / w)) F d_S_share_15 (nI_ne0 (by omega) (by omega)) (pk_div (by omega) (by omega) (by omega)) ?_
      exact ret _ _ _ _ _ _ () d_S_share_16 rfl (by decide) (by decide) rfl (by unfold shr; rw [if_neg c_2])
    · have c_6 : ¬ 0 < w := fun h => c_6 ((nI_ltI (by omega) (by omega)).mpr h)
      refine j_iloadn F d_S_share_9 0 rfl rfl ?_
      exact ret _ _ _ _ _ _ () d_S_share_10 rfl (by decide) (by decide) rfl (by unfold shr; rw [if_pos (by omega)])

theorem jn_min {a b : Nat} (ha : a < 2147483648) (hb : b < 2147483648) : (if nI b < nI a then nI b else nI a) = nI (min a b) := by
  by_cases h : b < a
  · rw [if_pos ((nI_ltI hb ha).mpr h), Nat.min_eq_right (by omega)]
  · rw [if_neg (fun g => h ((nI_ltI hb ha).mp g)), Nat.min_eq_left (by omega)]
theorem mem_idx {L : List Nat} {n : Nat} (h : ∀ i, i < L.length → L.getD i 0 < n) : ∀ y, y ∈ L → y < n := by
  intro y hy
  obtain ⟨i, hi, e⟩ := List.mem_iff_getElem.mp hy
  have := h i hi
  rw [List.getD_eq_getElem?_getD, List.getElem?_eq_getElem hi] at this
  rw [← e]; exact this
theorem asks_ok {X : AF} {n : Nat} {L : List Nat} (hlen : L.length ≤ 80) (hmem : ∀ i, i < L.length → L.getD i 0 < n) : okK X n (asksL X L) :=
  ⟨Nat.le_trans (akT_len X L L.length) hlen, fun i hi => by
    have h := akT_mem (Nat.le_refl _) (getD_mem hi)
    exact ⟨mem_idx hmem _ h.1, h.2⟩⟩

def rm_S_serveTime : Room := { frames := 1, cells := 0, slots := 0, locals := 24 }
set_option maxHeartbeats 4000000 in
set_option maxRecDepth 100000 in
theorem ct_S_serveTime (l : Launch) (D : va_G) (cA : ClassId) (s0 s1 s2 : Nat) (gv ak : Nat → Int32) (K : List Nat) (a0 a1 a2 a3 a4 a5 : Nat) (X : AF) (n : Nat) (hA0 : aok X n) (hKr : rowL ak K) (hKo : okK X n K) (fr en lf : Nat) (h1 : fr ≤ en) (h2 : en ≤ K.length) (hlf : lf ≤ 1000) : Ci (S := Unit) l y_S_serveTime (Cond.code y_S_serveTime c_S_serveTime 9 (some .int) :: WD) rm_S_serveTime D vwCl [(cA, .int)] nws [.ref s0, .ref a0, .int (nI fr), .int (nI en), .int (nI lf)] [(s0, .inr (4, [.ref s1, .ref s2, .int (nI K.length)])), (s1, .inl (cA, 10, .inl gv)), (s2, .inl (cA, 80, .inl ak)), (a0, .inr (0, [.ref a1, .ref a2, .ref a3, .ref a4, .ref a5, .int (nI n)])), (a1, .inl (cA, 80, .inl (X 0))), (a2, .inl (cA, 80, .inl (X 1))), (a3, .inl (cA, 80, .inl (X 2))), (a4, .inl (cA, 80, .inl (X 3))), (a5, .inl (cA, 80, .inl (X 4)))] 0 0 (fun r _ => r = nI (srvR X K fr (en - fr) lf)) (fun _ => [(s0, .inr (4, [.ref s1, .ref s2, .int (nI K.length)])), (s1, .inl (cA, 10, .inl (srvG gv X K fr (en - fr) lf))), (s2, .inl (cA, 80, .inl ak)), (a0, .inr (0, [.ref a1, .ref a2, .ref a3, .ref a4, .ref a5, .int (nI n)])), (a1, .inl (cA, 80, .inl (X 0))), (a2, .inl (cA, 80, .inl (X 1))), (a3, .inl (cA, 80, .inl (X 2))), (a4, .inl (cA, 80, .inl (X 3))), (a5, .inl (cA, 80, .inl (X 4)))]) := by
  refine Ci.of (cc := c_S_serveTime) (nL := 9) (lv := [(0, .ref s0), (1, .ref a0), (2, .int (nI fr)), (3, .int (nI en)), (4, .int (nI lf))]) (by decide) rfl (Nat.le_of_ble_eq_true rfl) rfl ?_
  intro p e s m args below meth cd A Q F hK hN hA ret
  have h80 := hA0.1
  have hk80 := hKo.1
  refine j_iconst (v := nI 0) F d_S_serveTime_0 (by decide) ?_
  refine j_istore (lv' := [(5, .int (nI 0)), (0, .ref s0), (1, .ref a0), (2, .int (nI fr)), (3, .int (nI en)), (4, .int (nI lf))]) F d_S_serveTime_1 (by decide) rfl ?_
  refine j_iloadn F d_S_serveTime_3 3 rfl rfl ?_
  refine j_istore (lv' := [(6, .int (nI fr)), (5, .int (nI 0)), (0, .ref s0), (1, .ref a0), (2, .int (nI fr)), (3, .int (nI en)), (4, .int (nI lf))]) F d_S_serveTime_4 (by decide) rfl ?_
  have loop6 : ∀ (fuel : Nat) (c : Nat) (hfuel : en - (fr + c) < fuel) (hc : fr + c ≤ en), J p l e rm_S_serveTime s m args below meth cd D vwCl A s.heap 9 0 0 Q [(s0, .inr (4, [.ref s1, .ref s2, .int (nI K.length)])), (s1, .inl (cA, 10, .inl gv)), (s2, .inl (cA, 80, .inl ak)), (a0, .inr (0, [.ref a1, .ref a2, .ref a3, .ref a4, .ref a5, .int (nI n)])), (a1, .inl (cA, 80, .inl (X 0))), (a2, .inl (cA, 80, .inl (X 1))), (a3, .inl (cA, 80, .inl (X 2))), (a4, .inl (cA, 80, .inl (X 3))), (a5, .inl (cA, 80, .inl (X 4)))] [(0, .ref s0), (1, .ref a0), (2, .int (nI fr)), (3, .int (nI en)), (4, .int (nI lf)), (5, .int (nI (wan X K fr c))), (6, .int (nI (fr + c)))] 6 [] := by
    intro fuel
    induction fuel with
    | zero => intro c hfuel; exact absurd hfuel (Nat.not_lt_zero _)
    | succ fuel ih =>
      intro c hfuel hc
      refine j_iload F d_S_serveTime_6 6 rfl ?_
      refine j_iloadn F d_S_serveTime_8 3 rfl rfl ?_
      refine j_ic_ge (tgt := 35) F d_S_serveTime_9 (by decide) (fun c_9 => ?_) (fun c_9 => ?_)
      · have c_9 : en ≤ (fr + c) := (nI_leI (by omega) (by omega)).mp c_9
        have hce : c = en - fr := by omega
        subst hce
        have hwl := wan_le hA0 hKo (fr := fr) (c := en - fr) (by omega)
        refine j_iconst (v := nI 0) F d_S_serveTime_35 (by decide) ?_
        refine j_istore (lv' := [(6, .int (nI 0)), (0, .ref s0), (1, .ref a0), (2, .int (nI fr)), (3, .int (nI en)), (4, .int (nI lf)), (5, .int (nI (wan X K fr (en - fr))))]) F d_S_serveTime_36 (by decide) rfl ?_
        refine j_iloadn F d_S_serveTime_38 3 rfl rfl ?_
        refine j_istore (lv' := [(7, .int (nI fr)), (6, .int (nI 0)), (0, .ref s0), (1, .ref a0), (2, .int (nI fr)), (3, .int (nI en)), (4, .int (nI lf)), (5, .int (nI (wan X K fr (en - fr))))]) F d_S_serveTime_39 (by decide) rfl ?_
        have loop41 : ∀ (fuel : Nat) (c : Nat) (hfuel : en - (fr + c) < fuel) (hc : fr + c ≤ en), J p l e rm_S_serveTime s m args below meth cd D vwCl A s.heap 9 0 0 Q [(s0, .inr (4, [.ref s1, .ref s2, .int (nI K.length)])), (s1, .inl (cA, 10, .inl (accF gv (aG X K fr) (shX X K fr lf (wan X K fr (en - fr))) c))), (s2, .inl (cA, 80, .inl ak)), (a0, .inr (0, [.ref a1, .ref a2, .ref a3, .ref a4, .ref a5, .int (nI n)])), (a1, .inl (cA, 80, .inl (X 0))), (a2, .inl (cA, 80, .inl (X 1))), (a3, .inl (cA, 80, .inl (X 2))), (a4, .inl (cA, 80, .inl (X 3))), (a5, .inl (cA, 80, .inl (X 4)))] [(0, .ref s0), (1, .ref a0), (2, .int (nI fr)), (3, .int (nI en)), (4, .int (nI lf)), (5, .int (nI (wan X K fr (en - fr)))), (6, .int (nI (spn X K fr lf (wan X K fr (en - fr)) c))), (7, .int (nI (fr + c)))] 41 [] := by
          intro fuel
          induction fuel with
          | zero => intro c hfuel; exact absurd hfuel (Nat.not_lt_zero _)
          | succ fuel ih =>
            intro c hfuel hc
            refine j_iload F d_S_serveTime_41 7 rfl ?_
            refine j_iloadn F d_S_serveTime_43 3 rfl rfl ?_
            refine j_ic_ge (tgt := 103) F d_S_serveTime_44 (by decide) (fun c_44 => ?_) (fun c_44 => ?_)
            · have c_44 : en ≤ (fr + c) := (nI_leI (by omega) (by omega)).mp c_44
              have hce : c = en - fr := by omega
              subst hce
              have hspn := spn_le X K fr (en - fr) lf
              refine j_iload F d_S_serveTime_103 4 rfl ?_
              refine j_iload F d_S_serveTime_105 5 rfl ?_
              refine j_mmin (v := nI (min lf (wan X K fr (en - fr)))) F (wm k_379) (wm k_380) (wm k_13) (wm k_381) (by decide) (Nat.le_of_ble_eq_true rfl) (by decide) (by decide) d_S_serveTime_107 (jn_min (by omega) (by omega)) ?_
              refine j_istore (lv' := [(7, .int (nI (min lf (wan X K fr (en - fr))))), (0, .ref s0), (1, .ref a0), (2, .int (nI fr)), (3, .int (nI en)), (4, .int (nI lf)), (5, .int (nI (wan X K fr (en - fr)))), (6, .int (nI (spn X K fr lf (wan X K fr (en - fr)) (en - fr))))]) F d_S_serveTime_110 (by decide) rfl ?_
              refine j_iloadn F d_S_serveTime_112 3 rfl rfl ?_
              refine j_istore (lv' := [(8, .int (nI fr)), (7, .int (nI (min lf (wan X K fr (en - fr))))), (0, .ref s0), (1, .ref a0), (2, .int (nI fr)), (3, .int (nI en)), (4, .int (nI lf)), (5, .int (nI (wan X K fr (en - fr)))), (6, .int (nI (spn X K fr lf (wan X K fr (en - fr)) (en - fr))))]) F d_S_serveTime_113 (by decide) rfl ?_
              have loop115 : ∀ (fuel : Nat) (c : Nat) (hfuel : en - (fr + c) < fuel) (hc : fr + c ≤ en) (hm : spn X K fr lf (wan X K fr (en - fr)) (en - fr) + c ≤ min lf (wan X K fr (en - fr))), J p l e rm_S_serveTime s m args below meth cd D vwCl A s.heap 9 0 0 Q [(s0, .inr (4, [.ref s1, .ref s2, .int (nI K.length)])), (s1, .inl (cA, 10, .inl (accF (accF gv (aG X K fr) (shX X K fr lf (wan X K fr (en - fr))) (en - fr)) (aG X K fr) (fun _ => 1) c))), (s2, .inl (cA, 80, .inl ak)), (a0, .inr (0, [.ref a1, .ref a2, .ref a3, .ref a4, .ref a5, .int (nI n)])), (a1, .inl (cA, 80, .inl (X 0))), (a2, .inl (cA, 80, .inl (X 1))), (a3, .inl (cA, 80, .inl (X 2))), (a4, .inl (cA, 80, .inl (X 3))), (a5, .inl (cA, 80, .inl (X 4)))] [(0, .ref s0), (1, .ref a0), (2, .int (nI fr)), (3, .int (nI en)), (4, .int (nI lf)), (5, .int (nI (wan X K fr (en - fr)))), (6, .int (nI (spn X K fr lf (wan X K fr (en - fr)) (en - fr) + c))), (7, .int (nI (min lf (wan X K fr (en - fr))))), (8, .int (nI (fr + c)))] 115 [] := by
                intro fuel
                induction fuel with
                | zero => intro c hfuel; exact absurd hfuel (Nat.not_lt_zero _)
                | succ fuel ih =>
                  intro c hfuel hc hm
                  refine j_iload F d_S_serveTime_115 8 rfl ?_
                  refine j_iloadn F d_S_serveTime_117 3 rfl rfl ?_
                  refine j_ic_ge (tgt := 158) F d_S_serveTime_118 (by decide) (fun c_118 => ?_) (fun c_118 => ?_)
                  · have c_118 : en ≤ (fr + c) := (nI_leI (by omega) (by omega)).mp c_118
                    have hcm : c = mre X K fr (en - fr) lf := by unfold mre; omega
                    subst hcm
                    refine j_iload F d_S_serveTime_158 6 rfl ?_
                    exact ret _ _ _ _ _ _ () d_S_serveTime_160 rfl (by decide) (by decide) rfl rfl
                  · have c_118 : ¬ en ≤ (fr + c) := fun h => c_118 ((nI_leI (by omega) (by omega)).mpr h)
                    refine j_iload F d_S_serveTime_121 6 rfl ?_
                    refine j_iload F d_S_serveTime_123 7 rfl ?_
                    refine j_ic_ge (tgt := 158) F d_S_serveTime_125 (by decide) (fun c_125 => ?_) (fun c_125 => ?_)
                    · have c_125 : (min lf (wan X K fr (en - fr))) ≤ (spn X K fr lf (wan X K fr (en - fr)) (en - fr) + c) := (nI_leI (by omega) (by omega)).mp c_125
                      have hcm : c = mre X K fr (en - fr) lf := by unfold mre; omega
                      subst hcm
                      refine j_iload F d_S_serveTime_158 6 rfl ?_
                      exact ret _ _ _ _ _ _ () d_S_serveTime_160 rfl (by decide) (by decide) rfl rfl
                    · have c_125 : ¬ (min lf (wan X K fr (en - fr))) ≤ (spn X K fr lf (wan X K fr (en - fr)) (en - fr) + c) := fun h => c_125 ((nI_leI (by omega) (by omega)).mpr h)
                      have hq := hKo.2 (fr + c) (by omega)
                      have hqa := hA0.2 _ hq.1
                      have hb1 : X 2 (K.getD (fr + c) 0) = nI (bN X (gK K fr c)) ∧ 1 ≤ bN X (gK K fr c) ∧ bN X (gK K fr c) ≤ 1000 := bN_eq hqa hq.2
                      have ha1 : X 1 (K.getD (fr + c) 0) = nI (aG X K fr c) ∧ aG X K fr c < 10 := aN_eq hqa hq.2
                      refine j_aloadn F d_S_serveTime_128 0 rfl rfl ?_
                      refine j_get (ci := 4) (v := .ref s1) F in_S hK 0 rfl rfl 0 (by decide) (wm k_107) rfl d_S_serveTime_129 ?_
                      refine j_aloadn F d_S_serveTime_132 1 rfl rfl ?_
                      refine j_getN (ci := 0) (v := .ref a2) F in_A hK hN 3 rfl rfl 1 (by decide) n_36 rfl d_S_serveTime_133 ?_
                      refine j_aloadn F d_S_serveTime_136 0 rfl rfl ?_
                      refine j_get (ci := 4) (v := .ref s2) F in_S hK 0 rfl rfl 1 (by decide) (wm k_109) rfl d_S_serveTime_137 ?_
                      refine j_iload F d_S_serveTime_140 8 rfl ?_
                      refine j_iald (v := nI (K.getD (fr + c) 0)) F hK 2 0 rfl rfl (by omega) (by decide) d_S_serveTime_142 (hKr _ (by omega)) ?_
                      refine j_iald (v := nI (aG X K fr c)) F hK 5 0 rfl rfl (by omega) (by decide) d_S_serveTime_143 ha1.1 ?_
                      refine j_dup2 F d_S_serveTime_144 rfl rfl ?_
                      refine j_iald (v := (accF (accF gv (aG X K fr) (shX X K fr lf (wan X K fr (en - fr))) (en - fr)) (aG X K fr) (fun _ => 1) c) (aG X K fr c)) F hK 1 0 rfl rfl (by omega) (by decide) d_S_serveTime_145 rfl ?_
                      refine j_iconst (v := nI 1) F d_S_serveTime_146 (by decide) ?_
                      refine j_iadd (v := ((accF (accF gv (aG X K fr) (shX X K fr lf (wan X K fr (en - fr))) (en - fr)) (aG X K fr) (fun _ => 1) c) (aG X K fr c)) + (nI 1)) F d_S_serveTime_147 rfl ?_
                      refine j_iast (ws' := [(s0, .inr (4, [.ref s1, .ref s2, .int (nI K.length)])), (s1, .inl (cA, 10, .inl (upd (accF (accF gv (aG X K fr) (shX X K fr lf (wan X K fr (en - fr))) (en - fr)) (aG X K fr) (fun _ => 1) c) (aG X K fr c) (((accF (accF gv (aG X K fr) (shX X K fr lf (wan X K fr (en - fr))) (en - fr)) (aG X K fr) (fun _ => 1) c) (aG X K fr c)) + (nI 1))))), (s2, .inl (cA, 80, .inl ak)), (a0, .inr (0, [.ref a1, .ref a2, .ref a3, .ref a4, .ref a5, .int (nI n)])), (a1, .inl (cA, 80, .inl (X 0))), (a2, .inl (cA, 80, .inl (X 1))), (a3, .inl (cA, 80, .inl (X 2))), (a4, .inl (cA, 80, .inl (X 3))), (a5, .inl (cA, 80, .inl (X 4)))]) F hK 1 0 rfl rfl (by omega) (by decide) d_S_serveTime_148 rfl ?_
                      refine j_ext (ws' := [(s0, .inr (4, [.ref s1, .ref s2, .int (nI K.length)])), (s1, .inl (cA, 10, .inl (accF (accF gv (aG X K fr) (shX X K fr lf (wan X K fr (en - fr))) (en - fr)) (aG X K fr) (fun _ => 1) (c + 1)))), (s2, .inl (cA, 80, .inl ak)), (a0, .inr (0, [.ref a1, .ref a2, .ref a3, .ref a4, .ref a5, .int (nI n)])), (a1, .inl (cA, 80, .inl (X 0))), (a2, .inl (cA, 80, .inl (X 1))), (a3, .inl (cA, 80, .inl (X 2))), (a4, .inl (cA, 80, .inl (X 3))), (a5, .inl (cA, 80, .inl (X 4)))]) 1 (g := accF (accF gv (aG X K fr) (shX X K fr lf (wan X K fr (en - fr))) (en - fr)) (aG X K fr) (fun _ => 1) (c + 1)) rfl (fun i _ => congrFun (accF_s (accF gv (aG X K fr) (shX X K fr lf (wan X K fr (en - fr))) (en - fr)) (aG X K fr) (fun _ => 1) c) i) rfl ?_
                      refine j_iinc (v := nI ((spn X K fr lf (wan X K fr (en - fr)) (en - fr) + c) + 1)) (lv' := [(6, .int (nI ((spn X K fr lf (wan X K fr (en - fr)) (en - fr) + c) + 1))), (0, .ref s0), (1, .ref a0), (2, .int (nI fr)), (3, .int (nI en)), (4, .int (nI lf)), (5, .int (nI (wan X K fr (en - fr)))), (7, .int (nI (min lf (wan X K fr (en - fr))))), (8, .int (nI (fr + c)))]) F d_S_serveTime_149 6 rfl (jn_inc (spn X K fr lf (wan X K fr (en - fr)) (en - fr) + c)) (by decide) rfl ?_
                      refine j_iinc (v := nI (fr + c + 1)) (lv' := [(8, .int (nI (fr + c + 1))), (6, .int (nI ((spn X K fr lf (wan X K fr (en - fr)) (en - fr) + c) + 1))), (0, .ref s0), (1, .ref a0), (2, .int (nI fr)), (3, .int (nI en)), (4, .int (nI lf)), (5, .int (nI (wan X K fr (en - fr)))), (7, .int (nI (min lf (wan X K fr (en - fr)))))]) F d_S_serveTime_152 8 rfl (jn_inc (fr + c)) (by decide) rfl ?_
                      refine j_goto (tgt := 115) F d_S_serveTime_155 (by decide) ?_
                      refine j_lv (lv' := [(0, .ref s0), (1, .ref a0), (2, .int (nI fr)), (3, .int (nI en)), (4, .int (nI lf)), (5, .int (nI (wan X K fr (en - fr)))), (6, .int (nI ((spn X K fr lf (wan X K fr (en - fr)) (en - fr) + c) + 1))), (7, .int (nI (min lf (wan X K fr (en - fr))))), (8, .int (nI (fr + c + 1)))]) [2, 3, 4, 5, 6, 7, 1, 8, 0] rfl ?_
                      exact ih (c + 1) (by omega) (by omega) (by omega)
              refine j_lv (lv' := [(0, .ref s0), (1, .ref a0), (2, .int (nI fr)), (3, .int (nI en)), (4, .int (nI lf)), (5, .int (nI (wan X K fr (en - fr)))), (6, .int (nI (spn X K fr lf (wan X K fr (en - fr)) (en - fr)))), (7, .int (nI (min lf (wan X K fr (en - fr))))), (8, .int (nI fr))]) [2, 3, 4, 5, 6, 7, 8, 1, 0] rfl ?_
              refine j_ext (ws' := [(s0, .inr (4, [.ref s1, .ref s2, .int (nI K.length)])), (s1, .inl (cA, 10, .inl (accF (accF gv (aG X K fr) (shX X K fr lf (wan X K fr (en - fr))) (en - fr)) (aG X K fr) (fun _ => 1) 0))), (s2, .inl (cA, 80, .inl ak)), (a0, .inr (0, [.ref a1, .ref a2, .ref a3, .ref a4, .ref a5, .int (nI n)])), (a1, .inl (cA, 80, .inl (X 0))), (a2, .inl (cA, 80, .inl (X 1))), (a3, .inl (cA, 80, .inl (X 2))), (a4, .inl (cA, 80, .inl (X 3))), (a5, .inl (cA, 80, .inl (X 4)))]) 1 (g := accF (accF gv (aG X K fr) (shX X K fr lf (wan X K fr (en - fr))) (en - fr)) (aG X K fr) (fun _ => 1) 0) rfl (fun i _ => (congrFun (accF_0 _ _ _) i).symm) rfl ?_
              exact loop115 (en - fr + 1) 0 (by omega) (by omega) hspn
            · have c_44 : ¬ en ≤ (fr + c) := fun h => c_44 ((nI_leI (by omega) (by omega)).mpr h)
              have hq := hKo.2 (fr + c) (by omega)
              have hqa := hA0.2 _ hq.1
              have hb1 : X 2 (K.getD (fr + c) 0) = nI (bN X (gK K fr c)) ∧ 1 ≤ bN X (gK K fr c) ∧ bN X (gK K fr c) ≤ 1000 := bN_eq hqa hq.2
              have ha1 : X 1 (K.getD (fr + c) 0) = nI (aG X K fr c) ∧ aG X K fr c < 10 := aN_eq hqa hq.2
              refine j_aloadn F d_S_serveTime_47 1 rfl rfl ?_
              refine j_getN (ci := 0) (v := .ref a3) F in_A hK hN 3 rfl rfl 2 (by decide) n_40 rfl d_S_serveTime_48 ?_
              refine j_aloadn F d_S_serveTime_51 0 rfl rfl ?_
              refine j_get (ci := 4) (v := .ref s2) F in_S hK 0 rfl rfl 1 (by decide) (wm k_109) rfl d_S_serveTime_52 ?_
              refine j_iload F d_S_serveTime_55 7 rfl ?_
              refine j_iald (v := nI (K.getD (fr + c) 0)) F hK 2 0 rfl rfl (by omega) (by decide) d_S_serveTime_57 (hKr _ (by omega)) ?_
              refine j_iald (v := nI (bN X (gK K fr c))) F hK 6 0 rfl rfl (by omega) (by decide) d_S_serveTime_58 hb1.1 ?_
              refine j_iload F d_S_serveTime_59 4 rfl ?_
              refine j_iload F d_S_serveTime_61 5 rfl ?_
              refine j_goi (wc := []) (wr := [(s0, .inr (4, [.ref s1, .ref s2, .int (nI K.length)])), (s1, .inl (cA, 10, .inl (accF gv (aG X K fr) (shX X K fr lf (wan X K fr (en - fr))) c))), (s2, .inl (cA, 80, .inl ak)), (a0, .inr (0, [.ref a1, .ref a2, .ref a3, .ref a4, .ref a5, .int (nI n)])), (a1, .inl (cA, 80, .inl (X 0))), (a2, .inl (cA, 80, .inl (X 1))), (a3, .inl (cA, 80, .inl (X 2))), (a4, .inl (cA, 80, .inl (X 3))), (a5, .inl (cA, 80, .inl (X 4)))]) hA [] [0, 1, 2, 3, 4, 5, 6, 7, 8] rfl rfl (by decide) (by decide) (fun H locs ls hP hD hl => va_runS (As := [.int (nI (bN X (gK K fr c))), .int (nI lf), .int (nI (wan X K fr (en - fr)))]) (rest := []) F (ct_S_share l D cA (bN X (gK K fr c)) lf (wan X K fr (en - fr)) (by omega) (by omega) (by omega) H.size) ⟨callB_of 3 F.2.2.2.2 (gd k_378) rfl rfl rfl (F.2.2.2.2 _ (wm k_5)) (F.2.2.2.2 _ (wm k_376)) (by decide +kernel) ⟨by decide, by decide⟩, F.2.2.2.2 _ (wm k_377)⟩ (pre_S hK hN hP hD [] rfl (by decide)) rfl rfl hl.1 rfl (lv_room (Nat.le_of_ble_eq_true rfl)) d_S_serveTime_63 ⟨by decide, by decide⟩) (fun r63 u63 hw63 => ?_)
              subst hw63
              refine j_ws (ws' := [(s0, .inr (4, [.ref s1, .ref s2, .int (nI K.length)])), (s1, .inl (cA, 10, .inl (accF gv (aG X K fr) (shX X K fr lf (wan X K fr (en - fr))) c))), (s2, .inl (cA, 80, .inl ak)), (a0, .inr (0, [.ref a1, .ref a2, .ref a3, .ref a4, .ref a5, .int (nI n)])), (a1, .inl (cA, 80, .inl (X 0))), (a2, .inl (cA, 80, .inl (X 1))), (a3, .inl (cA, 80, .inl (X 2))), (a4, .inl (cA, 80, .inl (X 3))), (a5, .inl (cA, 80, .inl (X 4)))]) [0, 1, 2, 3, 4, 5, 6, 7, 8] (by decide) rfl ?_
              refine j_istore (lv' := [(8, .int (nI (shr (bN X (gK K fr c)) lf (wan X K fr (en - fr))))), (0, .ref s0), (1, .ref a0), (2, .int (nI fr)), (3, .int (nI en)), (4, .int (nI lf)), (5, .int (nI (wan X K fr (en - fr)))), (6, .int (nI (spn X K fr lf (wan X K fr (en - fr)) c))), (7, .int (nI (fr + c)))]) F d_S_serveTime_66 (by decide) rfl ?_
              refine j_aloadn F d_S_serveTime_68 1 rfl rfl ?_
              refine j_get (ci := 4) (v := .ref s1) F in_S hK 0 rfl rfl 0 (by decide) (wm k_107) rfl d_S_serveTime_69 ?_
              refine j_aloadn F d_S_serveTime_72 2 rfl rfl ?_
              refine j_getN (ci := 0) (v := .ref a2) F in_A hK hN 3 rfl rfl 1 (by decide) n_36 rfl d_S_serveTime_73 ?_
              refine j_aloadn F d_S_serveTime_76 1 rfl rfl ?_
              refine j_get (ci := 4) (v := .ref s2) F in_S hK 0 rfl rfl 1 (by decide) (wm k_109) rfl d_S_serveTime_77 ?_
              refine j_iload F d_S_serveTime_80 8 rfl ?_
              refine j_iald (v := nI (K.getD (fr + c) 0)) F hK 2 0 rfl rfl (by omega) (by decide) d_S_serveTime_82 (hKr _ (by omega)) ?_
              refine j_iald (v := nI (aG X K fr c)) F hK 5 0 rfl rfl (by omega) (by decide) d_S_serveTime_83 ha1.1 ?_
              refine j_dup2 F d_S_serveTime_84 rfl rfl ?_
              refine j_iald (v := (accF gv (aG X K fr) (shX X K fr lf (wan X K fr (en - fr))) c) (aG X K fr c)) F hK 1 0 rfl rfl (by omega) (by decide) d_S_serveTime_85 rfl ?_
              refine j_iload F d_S_serveTime_86 0 rfl ?_
              refine j_iadd (v := ((accF gv (aG X K fr) (shX X K fr lf (wan X K fr (en - fr))) c) (aG X K fr c)) + (nI (shr (bN X (gK K fr c)) lf (wan X K fr (en - fr))))) F d_S_serveTime_88 rfl ?_
              refine j_iast (ws' := [(s0, .inr (4, [.ref s1, .ref s2, .int (nI K.length)])), (s1, .inl (cA, 10, .inl (upd (accF gv (aG X K fr) (shX X K fr lf (wan X K fr (en - fr))) c) (aG X K fr c) (((accF gv (aG X K fr) (shX X K fr lf (wan X K fr (en - fr))) c) (aG X K fr c)) + (nI (shr (bN X (gK K fr c)) lf (wan X K fr (en - fr)))))))), (s2, .inl (cA, 80, .inl ak)), (a0, .inr (0, [.ref a1, .ref a2, .ref a3, .ref a4, .ref a5, .int (nI n)])), (a1, .inl (cA, 80, .inl (X 0))), (a2, .inl (cA, 80, .inl (X 1))), (a3, .inl (cA, 80, .inl (X 2))), (a4, .inl (cA, 80, .inl (X 3))), (a5, .inl (cA, 80, .inl (X 4)))]) F hK 1 0 rfl rfl (by omega) (by decide) d_S_serveTime_89 rfl ?_
              refine j_ext (ws' := [(s0, .inr (4, [.ref s1, .ref s2, .int (nI K.length)])), (s1, .inl (cA, 10, .inl (accF gv (aG X K fr) (shX X K fr lf (wan X K fr (en - fr))) (c + 1)))), (s2, .inl (cA, 80, .inl ak)), (a0, .inr (0, [.ref a1, .ref a2, .ref a3, .ref a4, .ref a5, .int (nI n)])), (a1, .inl (cA, 80, .inl (X 0))), (a2, .inl (cA, 80, .inl (X 1))), (a3, .inl (cA, 80, .inl (X 2))), (a4, .inl (cA, 80, .inl (X 3))), (a5, .inl (cA, 80, .inl (X 4)))]) 1 (g := accF gv (aG X K fr) (shX X K fr lf (wan X K fr (en - fr))) (c + 1)) rfl (fun i _ => congrFun (accF_s gv (aG X K fr) (shX X K fr lf (wan X K fr (en - fr))) c) i) rfl ?_
              refine j_iload F d_S_serveTime_90 7 rfl ?_
              refine j_iload F d_S_serveTime_92 0 rfl ?_
              refine j_iadd (v := nI ((spn X K fr lf (wan X K fr (en - fr)) c) + (shr (bN X (gK K fr c)) lf (wan X K fr (en - fr))))) F d_S_serveTime_94 (nI_add _ _) ?_
              refine j_istore (lv' := [(6, .int (nI ((spn X K fr lf (wan X K fr (en - fr)) c) + (shr (bN X (gK K fr c)) lf (wan X K fr (en - fr)))))), (8, .int (nI (shr (bN X (gK K fr c)) lf (wan X K fr (en - fr))))), (0, .ref s0), (1, .ref a0), (2, .int (nI fr)), (3, .int (nI en)), (4, .int (nI lf)), (5, .int (nI (wan X K fr (en - fr)))), (7, .int (nI (fr + c)))]) F d_S_serveTime_95 (by decide) rfl ?_
              refine j_iinc (v := nI (fr + c + 1)) (lv' := [(7, .int (nI (fr + c + 1))), (6, .int (nI ((spn X K fr lf (wan X K fr (en - fr)) c) + (shr (bN X (gK K fr c)) lf (wan X K fr (en - fr)))))), (8, .int (nI (shr (bN X (gK K fr c)) lf (wan X K fr (en - fr))))), (0, .ref s0), (1, .ref a0), (2, .int (nI fr)), (3, .int (nI en)), (4, .int (nI lf)), (5, .int (nI (wan X K fr (en - fr))))]) F d_S_serveTime_97 8 rfl (jn_inc (fr + c)) (by decide) rfl ?_
              refine j_goto (tgt := 41) F d_S_serveTime_100 (by decide) ?_
              refine j_lv (lv' := [(0, .ref s0), (1, .ref a0), (2, .int (nI fr)), (3, .int (nI en)), (4, .int (nI lf)), (5, .int (nI (wan X K fr (en - fr)))), (6, .int (nI ((spn X K fr lf (wan X K fr (en - fr)) c) + (shr (bN X (gK K fr c)) lf (wan X K fr (en - fr)))))), (7, .int (nI (fr + c + 1)))]) [3, 4, 5, 6, 7, 8, 1, 0] rfl ?_
              exact ih (c + 1) (by omega) (by omega)
        refine j_lv (lv' := [(0, .ref s0), (1, .ref a0), (2, .int (nI fr)), (3, .int (nI en)), (4, .int (nI lf)), (5, .int (nI (wan X K fr (en - fr)))), (6, .int (nI 0)), (7, .int (nI fr))]) [2, 3, 4, 5, 6, 7, 1, 0] rfl ?_
        refine j_ext (ws' := [(s0, .inr (4, [.ref s1, .ref s2, .int (nI K.length)])), (s1, .inl (cA, 10, .inl (accF gv (aG X K fr) (shX X K fr lf (wan X K fr (en - fr))) 0))), (s2, .inl (cA, 80, .inl ak)), (a0, .inr (0, [.ref a1, .ref a2, .ref a3, .ref a4, .ref a5, .int (nI n)])), (a1, .inl (cA, 80, .inl (X 0))), (a2, .inl (cA, 80, .inl (X 1))), (a3, .inl (cA, 80, .inl (X 2))), (a4, .inl (cA, 80, .inl (X 3))), (a5, .inl (cA, 80, .inl (X 4)))]) 1 (g := accF gv (aG X K fr) (shX X K fr lf (wan X K fr (en - fr))) 0) rfl (fun i _ => (congrFun (accF_0 _ _ _) i).symm) rfl ?_
        exact loop41 (en - fr + 1) 0 (by omega) (by omega)
      · have c_9 : ¬ en ≤ (fr + c) := fun h => c_9 ((nI_leI (by omega) (by omega)).mpr h)
        have hq := hKo.2 (fr + c) (by omega)
        have hqa := hA0.2 _ hq.1
        have hb1 : X 2 (K.getD (fr + c) 0) = nI (bN X (gK K fr c)) ∧ 1 ≤ bN X (gK K fr c) ∧ bN X (gK K fr c) ≤ 1000 := bN_eq hqa hq.2
        have ha1 : X 1 (K.getD (fr + c) 0) = nI (aG X K fr c) ∧ aG X K fr c < 10 := aN_eq hqa hq.2
        have hwc := wan_le hA0 hKo (fr := fr) (c := c) (by omega)
        refine j_iload F d_S_serveTime_12 5 rfl ?_
        refine j_aloadn F d_S_serveTime_14 1 rfl rfl ?_
        refine j_getN (ci := 0) (v := .ref a3) F in_A hK hN 3 rfl rfl 2 (by decide) n_40 rfl d_S_serveTime_15 ?_
        refine j_aloadn F d_S_serveTime_18 0 rfl rfl ?_
        refine j_get (ci := 4) (v := .ref s2) F in_S hK 0 rfl rfl 1 (by decide) (wm k_109) rfl d_S_serveTime_19 ?_
        refine j_iload F d_S_serveTime_22 6 rfl ?_
        refine j_iald (v := nI (K.getD (fr + c) 0)) F hK 2 0 rfl rfl (by omega) (by decide) d_S_serveTime_24 (hKr _ (by omega)) ?_
        refine j_iald (v := nI (bN X (gK K fr c))) F hK 6 0 rfl rfl (by omega) (by decide) d_S_serveTime_25 hb1.1 ?_
        refine j_iadd (v := nI (wan X K fr c + (bN X (gK K fr c)))) F d_S_serveTime_26 (nI_add _ _) ?_
        refine j_istore (lv' := [(5, .int (nI (wan X K fr c + (bN X (gK K fr c))))), (0, .ref s0), (1, .ref a0), (2, .int (nI fr)), (3, .int (nI en)), (4, .int (nI lf)), (6, .int (nI (fr + c)))]) F d_S_serveTime_27 (by decide) rfl ?_
        refine j_iinc (v := nI (fr + c + 1)) (lv' := [(6, .int (nI (fr + c + 1))), (5, .int (nI (wan X K fr c + (bN X (gK K fr c))))), (0, .ref s0), (1, .ref a0), (2, .int (nI fr)), (3, .int (nI en)), (4, .int (nI lf))]) F d_S_serveTime_29 6 rfl (jn_inc (fr + c)) (by decide) rfl ?_
        refine j_goto (tgt := 6) F d_S_serveTime_32 (by decide) ?_
        refine j_lv (lv' := [(0, .ref s0), (1, .ref a0), (2, .int (nI fr)), (3, .int (nI en)), (4, .int (nI lf)), (5, .int (nI (wan X K fr c + (bN X (gK K fr c))))), (6, .int (nI (fr + c + 1)))]) [2, 3, 4, 5, 6, 1, 0] rfl ?_
        exact ih (c + 1) (by omega) (by omega)
  refine j_lv (lv' := [(0, .ref s0), (1, .ref a0), (2, .int (nI fr)), (3, .int (nI en)), (4, .int (nI lf)), (5, .int (nI 0)), (6, .int (nI fr))]) [2, 3, 4, 5, 6, 1, 0] rfl ?_
  exact loop6 (en - fr + 1) 0 (by omega) (by omega)

def rm_S_serveAll : Room := { frames := 2, cells := 0, slots := 0, locals := 52 }
set_option maxHeartbeats 4000000 in
set_option maxRecDepth 100000 in
theorem ct_S_serveAll (l : Launch) (D : va_G) (cA : ClassId) (s0 s1 s2 : Nat) (z : Int32) (gv ak : Nat → Int32) (o0 o1 : Nat) (g : Nat → Int32) (L : List Nat) (a0 a1 a2 a3 a4 a5 : Nat) (X : AF) (n : Nat) (hA0 : aok X n) (hL : rowL g L) (hlen : L.length ≤ 80) (hmem : ∀ i, i < L.length → L.getD i 0 < n) : Cv (S := (Nat → Int32)) l y_S_serveAll (Cond.code y_S_serveAll c_S_serveAll 5 none :: WD) rm_S_serveAll D vwCl [(cA, .int)] nws [.ref s0, .ref a0, .ref o0] [(s0, .inr (4, [.ref s1, .ref s2, .int z])), (s1, .inl (cA, 10, .inl gv)), (s2, .inl (cA, 80, .inl ak)), (o0, .inr (2, [.ref o1, .int (nI L.length)])), (o1, .inl (cA, 80, .inl g)), (a0, .inr (0, [.ref a1, .ref a2, .ref a3, .ref a4, .ref a5, .int (nI n)])), (a1, .inl (cA, 80, .inl (X 0))), (a2, .inl (cA, 80, .inl (X 1))), (a3, .inl (cA, 80, .inl (X 2))), (a4, .inl (cA, 80, .inl (X 3))), (a5, .inl (cA, 80, .inl (X 4)))] 0 0 (fun _ => True) (fun u => [(s0, .inr (4, [.ref s1, .ref s2, .int (nI ((asksL X L).length))])), (s1, .inl (cA, 10, .inl ((saT X (asksL X L) (asksL X L).length).2))), (s2, .inl (cA, 80, .inl u)), (o0, .inr (2, [.ref o1, .int (nI L.length)])), (o1, .inl (cA, 80, .inl g)), (a0, .inr (0, [.ref a1, .ref a2, .ref a3, .ref a4, .ref a5, .int (nI n)])), (a1, .inl (cA, 80, .inl (X 0))), (a2, .inl (cA, 80, .inl (X 1))), (a3, .inl (cA, 80, .inl (X 2))), (a4, .inl (cA, 80, .inl (X 3))), (a5, .inl (cA, 80, .inl (X 4)))]) := by
  refine Cv.of (cc := c_S_serveAll) (nL := 5) (lv := [(0, .ref s0), (1, .ref a0), (2, .ref o0)]) (by decide) rfl (Nat.le_of_ble_eq_true rfl) rfl ?_
  intro p e s m args below meth cd A Q F hK hN hA hinit ret
  have h80 := hA0.1
  refine j_aloadn F d_S_serveAll_0 0 rfl rfl ?_
  refine j_get (ci := 4) (v := .ref s1) F in_S hK 0 rfl rfl 0 (by decide) (wm k_107) rfl d_S_serveAll_1 ?_
  refine j_iconst (v := nI 0) F d_S_serveAll_4 (by decide) ?_
  refine j_gov (wc := [(s1, .inl (cA, 10, .inl gv))]) (wr := [(s0, .inr (4, [.ref s1, .ref s2, .int z])), (s2, .inl (cA, 80, .inl ak)), (o0, .inr (2, [.ref o1, .int (nI L.length)])), (o1, .inl (cA, 80, .inl g)), (a0, .inr (0, [.ref a1, .ref a2, .ref a3, .ref a4, .ref a5, .int (nI n)])), (a1, .inl (cA, 80, .inl (X 0))), (a2, .inl (cA, 80, .inl (X 1))), (a3, .inl (cA, 80, .inl (X 2))), (a4, .inl (cA, 80, .inl (X 3))), (a5, .inl (cA, 80, .inl (X 4)))]) hA [1] [0, 2, 3, 4, 5, 6, 7, 8, 9, 10] rfl rfl (by decide) (by decide) (fun H locs ls hP hD hl => va_runS (As := [.ref s1, .int (nI 0)]) (rest := []) F (ct_Ar_fill l D cA s1 10 (by decide) gv (nI 0) H.size) ⟨callB_of 2 F.2.2.2.2 (gd k_314) rfl rfl rfl (F.2.2.2.2 _ (wm k_12)) (F.2.2.2.2 _ (wm k_359)) (by decide +kernel) ⟨by decide, by decide⟩, F.2.2.2.2 _ (wm k_313)⟩ (pre_S hK hN hP hD [1] rfl (by decide)) rfl rfl hl.1 rfl (lv_room (Nat.le_of_ble_eq_true rfl)) d_S_serveAll_5 ⟨by decide, by decide⟩) (fun u5 hw5 => ?_)
  refine j_ws (ws' := [(s0, .inr (4, [.ref s1, .ref s2, .int z])), (s1, .inl (cA, 10, .inl (fun _ => nI 0))), (s2, .inl (cA, 80, .inl ak)), (o0, .inr (2, [.ref o1, .int (nI L.length)])), (o1, .inl (cA, 80, .inl g)), (a0, .inr (0, [.ref a1, .ref a2, .ref a3, .ref a4, .ref a5, .int (nI n)])), (a1, .inl (cA, 80, .inl (X 0))), (a2, .inl (cA, 80, .inl (X 1))), (a3, .inl (cA, 80, .inl (X 2))), (a4, .inl (cA, 80, .inl (X 3))), (a5, .inl (cA, 80, .inl (X 4)))]) [0, 10, 1, 2, 3, 4, 5, 6, 7, 8, 9] (by decide) rfl ?_
  refine j_aloadn F d_S_serveAll_8 0 rfl rfl ?_
  refine j_aloadn F d_S_serveAll_9 1 rfl rfl ?_
  refine j_aloadn F d_S_serveAll_10 2 rfl rfl ?_
  refine j_gov (wc := [(s0, .inr (4, [.ref s1, .ref s2, .int z])), (s1, .inl (cA, 10, .inl (fun _ => nI 0))), (s2, .inl (cA, 80, .inl ak)), (o0, .inr (2, [.ref o1, .int (nI L.length)])), (o1, .inl (cA, 80, .inl g)), (a0, .inr (0, [.ref a1, .ref a2, .ref a3, .ref a4, .ref a5, .int (nI n)])), (a1, .inl (cA, 80, .inl (X 0))), (a2, .inl (cA, 80, .inl (X 1))), (a3, .inl (cA, 80, .inl (X 2))), (a4, .inl (cA, 80, .inl (X 3))), (a5, .inl (cA, 80, .inl (X 4)))]) (wr := []) hA [0, 1, 2, 3, 4, 5, 6, 7, 8, 9, 10] [] rfl rfl (by decide) (by decide) (fun H locs ls hP hD hl => va_runV (As := [.ref a0, .ref o0]) (rest := []) F (ct_S_gatherAsks l D cA s0 s1 s2 z (fun _ => nI 0) ak o0 o1 g L a0 a1 a2 a3 a4 a5 X n (by omega) hL hlen hmem H.size) ⟨callB_of 2 F.2.2.2.2 (gd k_363) rfl rfl rfl (F.2.2.2.2 _ (wm k_5)) (F.2.2.2.2 _ (wm k_360)) (by decide +kernel) ⟨by decide, by decide⟩, F.2.2.2.2 _ (wm k_362), F.2.2.2.2 _ (wm ks_17)⟩ (pre_V rfl hK hN hP hD [0, 1, 2, 3, 4, 5, 6, 7, 8, 9, 10] rfl (by decide) 0 rfl rfl) rfl rfl hl.1 rfl (lv_room (Nat.le_of_ble_eq_true rfl)) d_S_serveAll_11 ⟨by decide, by decide⟩) (fun u11 hw11 => ?_)
  refine j_ws (ws' := [(s0, .inr (4, [.ref s1, .ref s2, .int (nI ((asksL X L).length))])), (s1, .inl (cA, 10, .inl (fun _ => nI 0))), (s2, .inl (cA, 80, .inl u11)), (o0, .inr (2, [.ref o1, .int (nI L.length)])), (o1, .inl (cA, 80, .inl g)), (a0, .inr (0, [.ref a1, .ref a2, .ref a3, .ref a4, .ref a5, .int (nI n)])), (a1, .inl (cA, 80, .inl (X 0))), (a2, .inl (cA, 80, .inl (X 1))), (a3, .inl (cA, 80, .inl (X 2))), (a4, .inl (cA, 80, .inl (X 3))), (a5, .inl (cA, 80, .inl (X 4)))]) [0, 1, 2, 3, 4, 5, 6, 7, 8, 9, 10] (by decide) rfl ?_
  obtain ⟨K, hKe⟩ : ∃ K, K = asksL X L := ⟨_, rfl⟩
  rw [← hKe] at hw11 ⊢
  have hKr := hw11
  have hKo : okK X n K := by rw [hKe]; exact asks_ok hlen hmem
  have hk80 := hKo.1
  refine j_sipush (v := nI 1000) F d_S_serveAll_14 (by decide) ?_
  refine j_istoren (lv' := [(3, .int (nI 1000)), (0, .ref s0), (1, .ref a0), (2, .ref o0)]) F d_S_serveAll_17 rfl (by decide) rfl ?_
  refine j_iconst (v := nI 0) F d_S_serveAll_18 (by decide) ?_
  refine j_istore (lv' := [(4, .int (nI 0)), (3, .int (nI 1000)), (0, .ref s0), (1, .ref a0), (2, .ref o0)]) F d_S_serveAll_19 (by decide) rfl ?_
  have loop21 : ∀ (fuel : Nat) (i : Nat) (hfuel : K.length - i < fuel) (hi : i ≤ K.length), J p l e rm_S_serveAll s m args below meth cd D vwCl A s.heap 5 0 0 Q [(s0, .inr (4, [.ref s1, .ref s2, .int (nI K.length)])), (s1, .inl (cA, 10, .inl ((saT X K i).2))), (s2, .inl (cA, 80, .inl u11)), (o0, .inr (2, [.ref o1, .int (nI L.length)])), (o1, .inl (cA, 80, .inl g)), (a0, .inr (0, [.ref a1, .ref a2, .ref a3, .ref a4, .ref a5, .int (nI n)])), (a1, .inl (cA, 80, .inl (X 0))), (a2, .inl (cA, 80, .inl (X 1))), (a3, .inl (cA, 80, .inl (X 2))), (a4, .inl (cA, 80, .inl (X 3))), (a5, .inl (cA, 80, .inl (X 4)))] [(0, .ref s0), (1, .ref a0), (2, .ref o0), (3, .int (nI ((saT X K i).1))), (4, .int (nI i))] 21 [] := by
    intro fuel
    induction fuel with
    | zero => intro i hfuel; exact absurd hfuel (Nat.not_lt_zero _)
    | succ fuel ih =>
      intro i hfuel hi
      refine j_iload F d_S_serveAll_21 4 rfl ?_
      refine j_aloadn F d_S_serveAll_23 0 rfl rfl ?_
      refine j_get (ci := 4) (v := .int (nI K.length)) F in_S hK 0 rfl rfl 2 (by decide) (wm k_110) rfl d_S_serveAll_24 ?_
      refine j_ic_ge (tgt := 64) F d_S_serveAll_27 (by decide) (fun c_27 => ?_) (fun c_27 => ?_)
      · have c_27 : K.length ≤ i := (nI_leI (by omega) (by omega)).mp c_27
        have hin : i = K.length := by omega
        subst hin
        subst hKe
        exact ret _ _ _ _ _ u11 d_S_serveAll_64 (by decide) (by decide) rfl trivial
      · have c_27 : ¬ K.length ≤ i := fun h => c_27 ((nI_leI (by omega) (by omega)).mpr h)
        refine j_aloadn F d_S_serveAll_30 0 rfl rfl ?_
        refine j_aloadn F d_S_serveAll_31 1 rfl rfl ?_
        refine j_iload F d_S_serveAll_32 4 rfl ?_
        refine j_goi (wc := [(s0, .inr (4, [.ref s1, .ref s2, .int (nI K.length)])), (s1, .inl (cA, 10, .inl ((saT X K i).2))), (s2, .inl (cA, 80, .inl u11)), (a0, .inr (0, [.ref a1, .ref a2, .ref a3, .ref a4, .ref a5, .int (nI n)])), (a1, .inl (cA, 80, .inl (X 0))), (a2, .inl (cA, 80, .inl (X 1))), (a3, .inl (cA, 80, .inl (X 2))), (a4, .inl (cA, 80, .inl (X 3))), (a5, .inl (cA, 80, .inl (X 4)))]) (wr := [(o0, .inr (2, [.ref o1, .int (nI L.length)])), (o1, .inl (cA, 80, .inl g))]) hA [0, 1, 2, 5, 6, 7, 8, 9, 10] [3, 4] rfl rfl (by decide) (by decide) (fun H locs ls hP hD hl => va_runV (As := [.ref a0, .int (nI i)]) (rest := []) F (ct_S_startsTime l D cA s0 s1 s2 ((saT X K i).2) u11 K a0 a1 a2 a3 a4 a5 X n hA0 hKr hKo i (by omega) H.size) ⟨callB_of 2 F.2.2.2.2 (gd k_367) rfl rfl rfl (F.2.2.2.2 _ (wm k_5)) (F.2.2.2.2 _ (wm k_364)) (by decide +kernel) ⟨by decide, by decide⟩, F.2.2.2.2 _ (wm k_366), F.2.2.2.2 _ (wm ks_18)⟩ (pre_V rfl hK hN hP hD [0, 1, 2, 5, 6, 7, 8, 9, 10] rfl (by decide) 0 rfl rfl) rfl rfl hl.1 rfl (lv_room (Nat.le_of_ble_eq_true rfl)) d_S_serveAll_34 ⟨by decide, by decide⟩) (fun r34 u34 hw34 => ?_)
        subst hw34
        refine j_ws (ws' := [(s0, .inr (4, [.ref s1, .ref s2, .int (nI K.length)])), (s1, .inl (cA, 10, .inl ((saT X K i).2))), (s2, .inl (cA, 80, .inl u11)), (o0, .inr (2, [.ref o1, .int (nI L.length)])), (o1, .inl (cA, 80, .inl g)), (a0, .inr (0, [.ref a1, .ref a2, .ref a3, .ref a4, .ref a5, .int (nI n)])), (a1, .inl (cA, 80, .inl (X 0))), (a2, .inl (cA, 80, .inl (X 1))), (a3, .inl (cA, 80, .inl (X 2))), (a4, .inl (cA, 80, .inl (X 3))), (a5, .inl (cA, 80, .inl (X 4)))]) [2, 3, 4, 0, 1, 5, 6, 7, 8, 9, 10] (by decide) rfl ?_
        refine j_if_eq (tgt := 58) F d_S_serveAll_37 (by decide) (fun c_37 => ?_) (fun c_37 => ?_)
        · have ho := saT_f (bI_0 c_37)
          rw [← ho]
          refine j_iinc (v := nI (i + 1)) (lv' := [(4, .int (nI (i + 1))), (0, .ref s0), (1, .ref a0), (2, .ref o0), (3, .int (nI ((saT X K (i + 1)).1)))]) F d_S_serveAll_58 4 rfl (jn_inc i) (by decide) rfl ?_
          refine j_goto (tgt := 21) F d_S_serveAll_61 (by decide) ?_
          refine j_lv (lv' := [(0, .ref s0), (1, .ref a0), (2, .ref o0), (3, .int (nI ((saT X K (i + 1)).1))), (4, .int (nI (i + 1)))]) [1, 2, 3, 4, 0] rfl ?_
          exact ih (i + 1) (by omega) (by omega)
        · refine j_iloadn F d_S_serveAll_40 3 rfl rfl ?_
          refine j_aloadn F d_S_serveAll_41 0 rfl rfl ?_
          refine j_aloadn F d_S_serveAll_42 1 rfl rfl ?_
          refine j_iload F d_S_serveAll_43 4 rfl ?_
          refine j_aloadn F d_S_serveAll_45 0 rfl rfl ?_
          refine j_aloadn F d_S_serveAll_46 1 rfl rfl ?_
          refine j_iload F d_S_serveAll_47 4 rfl ?_
          refine j_goi (wc := [(s0, .inr (4, [.ref s1, .ref s2, .int (nI K.length)])), (s1, .inl (cA, 10, .inl ((saT X K i).2))), (s2, .inl (cA, 80, .inl u11)), (a0, .inr (0, [.ref a1, .ref a2, .ref a3, .ref a4, .ref a5, .int (nI n)])), (a1, .inl (cA, 80, .inl (X 0))), (a2, .inl (cA, 80, .inl (X 1))), (a3, .inl (cA, 80, .inl (X 2))), (a4, .inl (cA, 80, .inl (X 3))), (a5, .inl (cA, 80, .inl (X 4)))]) (wr := [(o0, .inr (2, [.ref o1, .int (nI L.length)])), (o1, .inl (cA, 80, .inl g))]) hA [0, 1, 2, 5, 6, 7, 8, 9, 10] [3, 4] rfl rfl (by decide) (by decide) (fun H locs ls hP hD hl => va_runV (As := [.ref a0, .int (nI i)]) (rest := [.int (nI i), .ref a0, .ref s0, .int (nI ((saT X K i).1))]) F (ct_S_endOfTime l D cA s0 s1 s2 ((saT X K i).2) u11 K a0 a1 a2 a3 a4 a5 X n hA0 hKr hKo i (by omega) H.size) ⟨callB_of 2 F.2.2.2.2 (gd k_371) rfl rfl rfl (F.2.2.2.2 _ (wm k_5)) (F.2.2.2.2 _ (wm k_368)) (by decide +kernel) ⟨by decide, by decide⟩, F.2.2.2.2 _ (wm k_370), F.2.2.2.2 _ (wm ks_19)⟩ (pre_V rfl hK hN hP hD [0, 1, 2, 5, 6, 7, 8, 9, 10] rfl (by decide) 0 rfl rfl) rfl rfl hl.1 rfl (lv_room (Nat.le_of_ble_eq_true rfl)) d_S_serveAll_49 ⟨by decide, by decide⟩) (fun r49 u49 hw49 => ?_)
          subst hw49
          refine j_ws (ws' := [(s0, .inr (4, [.ref s1, .ref s2, .int (nI K.length)])), (s1, .inl (cA, 10, .inl ((saT X K i).2))), (s2, .inl (cA, 80, .inl u11)), (o0, .inr (2, [.ref o1, .int (nI L.length)])), (o1, .inl (cA, 80, .inl g)), (a0, .inr (0, [.ref a1, .ref a2, .ref a3, .ref a4, .ref a5, .int (nI n)])), (a1, .inl (cA, 80, .inl (X 0))), (a2, .inl (cA, 80, .inl (X 1))), (a3, .inl (cA, 80, .inl (X 2))), (a4, .inl (cA, 80, .inl (X 3))), (a5, .inl (cA, 80, .inl (X 4)))]) [2, 3, 4, 0, 1, 5, 6, 7, 8, 9, 10] (by decide) rfl ?_
          refine j_iloadn F d_S_serveAll_52 3 rfl rfl ?_
          have heo := eoT_in (X := X) (K := K) (i := i) (by omega)
          have hsl := saT_le X K i
          refine j_goi (wc := [(s0, .inr (4, [.ref s1, .ref s2, .int (nI K.length)])), (s1, .inl (cA, 10, .inl ((saT X K i).2))), (s2, .inl (cA, 80, .inl u11)), (a0, .inr (0, [.ref a1, .ref a2, .ref a3, .ref a4, .ref a5, .int (nI n)])), (a1, .inl (cA, 80, .inl (X 0))), (a2, .inl (cA, 80, .inl (X 1))), (a3, .inl (cA, 80, .inl (X 2))), (a4, .inl (cA, 80, .inl (X 3))), (a5, .inl (cA, 80, .inl (X 4)))]) (wr := [(o0, .inr (2, [.ref o1, .int (nI L.length)])), (o1, .inl (cA, 80, .inl g))]) hA [0, 1, 2, 5, 6, 7, 8, 9, 10] [3, 4] rfl rfl (by decide) (by decide) (fun H locs ls hP hD hl => va_runV (As := [.ref a0, .int (nI i), .int (nI (eoT X K i)), .int (nI ((saT X K i).1))]) (rest := [.int (nI ((saT X K i).1))]) F (ct_S_serveTime l D cA s0 s1 s2 ((saT X K i).2) u11 K a0 a1 a2 a3 a4 a5 X n hA0 hKr hKo i (eoT X K i) ((saT X K i).1) (by omega) (by omega) (by omega) H.size) ⟨callB_of 4 F.2.2.2.2 (gd k_375) rfl rfl rfl (F.2.2.2.2 _ (wm k_5)) (F.2.2.2.2 _ (wm k_372)) (by decide +kernel) ⟨by decide, by decide⟩, F.2.2.2.2 _ (wm k_374), F.2.2.2.2 _ (wm ks_20)⟩ (pre_V rfl hK hN hP hD [0, 1, 2, 5, 6, 7, 8, 9, 10] rfl (by decide) 0 rfl rfl) rfl rfl hl.1 rfl (lv_room (Nat.le_of_ble_eq_true rfl)) d_S_serveAll_53 ⟨by decide, by decide⟩) (fun r53 u53 hw53 => ?_)
          subst hw53
          refine j_ws (ws' := [(s0, .inr (4, [.ref s1, .ref s2, .int (nI K.length)])), (s1, .inl (cA, 10, .inl (srvG ((saT X K i).2) X K i (eoT X K i - i) ((saT X K i).1)))), (s2, .inl (cA, 80, .inl u11)), (o0, .inr (2, [.ref o1, .int (nI L.length)])), (o1, .inl (cA, 80, .inl g)), (a0, .inr (0, [.ref a1, .ref a2, .ref a3, .ref a4, .ref a5, .int (nI n)])), (a1, .inl (cA, 80, .inl (X 0))), (a2, .inl (cA, 80, .inl (X 1))), (a3, .inl (cA, 80, .inl (X 2))), (a4, .inl (cA, 80, .inl (X 3))), (a5, .inl (cA, 80, .inl (X 4)))]) [2, 3, 4, 0, 1, 5, 6, 7, 8, 9, 10] (by decide) rfl ?_
          refine j_isub (v := nI ((saT X K (i + 1)).1)) F d_S_serveAll_56 (by rw [saT_t (bI_1 c_37)]; exact pk_sub (srvR_le _ _ _ _ _)) ?_
          refine j_istoren (lv' := [(3, .int (nI ((saT X K (i + 1)).1))), (0, .ref s0), (1, .ref a0), (2, .ref o0), (4, .int (nI i))]) F d_S_serveAll_57 rfl (by decide) rfl ?_
          refine j_ext (ws' := [(s0, .inr (4, [.ref s1, .ref s2, .int (nI K.length)])), (s1, .inl (cA, 10, .inl ((saT X K (i + 1)).2))), (s2, .inl (cA, 80, .inl u11)), (o0, .inr (2, [.ref o1, .int (nI L.length)])), (o1, .inl (cA, 80, .inl g)), (a0, .inr (0, [.ref a1, .ref a2, .ref a3, .ref a4, .ref a5, .int (nI n)])), (a1, .inl (cA, 80, .inl (X 0))), (a2, .inl (cA, 80, .inl (X 1))), (a3, .inl (cA, 80, .inl (X 2))), (a4, .inl (cA, 80, .inl (X 3))), (a5, .inl (cA, 80, .inl (X 4)))]) 1 (g := (saT X K (i + 1)).2) rfl (fun j _ => congrFun (by rw [saT_t (bI_1 c_37)]) j) rfl ?_
          refine j_iinc (v := nI (i + 1)) (lv' := [(4, .int (nI (i + 1))), (3, .int (nI ((saT X K (i + 1)).1))), (0, .ref s0), (1, .ref a0), (2, .ref o0)]) F d_S_serveAll_58 4 rfl (jn_inc i) (by decide) rfl ?_
          refine j_goto (tgt := 21) F d_S_serveAll_61 (by decide) ?_
          refine j_lv (lv' := [(0, .ref s0), (1, .ref a0), (2, .ref o0), (3, .int (nI ((saT X K (i + 1)).1))), (4, .int (nI (i + 1)))]) [2, 3, 4, 1, 0] rfl ?_
          exact ih (i + 1) (by omega) (by omega)
  refine j_lv (lv' := [(0, .ref s0), (1, .ref a0), (2, .ref o0), (3, .int (nI 1000)), (4, .int (nI 0))]) [2, 3, 4, 1, 0] rfl ?_
  exact loop21 (K.length + 1) 0 (by omega) (by omega)
end
section
section JZ
variable {p : Program} {l : Launch} {e : Env} {R : Room} {s : State} {m : MethodId} {args : Array Value} {below : List Frame} {meth : Method} {c : Code} {Q : State → Prop} {D : va_G} {cl : List vw_C} {A : Nat → Prop} {H0 : Heap} {nL cells slots : Nat}
variable {ws : va_W} {lv : List (Nat × Value)} {pc : Nat} {st : List Value} {cc : ByteArray} {Ts : List Cond} {own : String}
theorem j_ldcw (F : CallFix p m c cc nL s args Ts own) {index : Nat} {v : Int32} (hc : Jvm.Cond.constant own index v ∈ Ts) (d : decode cc pc = .ok (.ldc_w index, 3)) (k : J p l e R s m args below meth c D cl A H0 nL cells slots Q ws lv (pc + 3) (.int v :: st)) : J p l e R s m args below meth c D cl A H0 nL cells slots Q ws lv pc st := fun H locs ls hP hD hS h => lv_ldcw F.1 F.2.1 F.2.2.2.1 (F.2.2.2.2 _ hc) d (k H locs ls hP hD hS h)
theorem j_iushr (F : CallFix p m c cc nL s args Ts own) {x y v : Int32} (d : decode cc pc = .ok (.iushr, 1)) (hv : (x.toUInt32 >>> (y.toUInt32 &&& Int32.toUInt32 31)).toInt32 = v) (k : J p l e R s m args below meth c D cl A H0 nL cells slots Q ws lv (pc + 1) (.int v :: st)) : J p l e R s m args below meth c D cl A H0 nL cells slots Q ws lv pc (.int y :: .int x :: st) := fun H locs ls hP hD hS h => lv_iushr F.1 F.2.1 d hv (k H locs ls hP hD hS h)
theorem j_ishr (F : CallFix p m c cc nL s args Ts own) {x y v : Int32} (d : decode cc pc = .ok (.ishr, 1)) (hv : x >>> (y &&& 31) = v) (k : J p l e R s m args below meth c D cl A H0 nL cells slots Q ws lv (pc + 1) (.int v :: st)) : J p l e R s m args below meth c D cl A H0 nL cells slots Q ws lv pc (.int y :: .int x :: st) := fun H locs ls hP hD hS h => lv_ishr F.1 F.2.1 d (hv ▸ k H locs ls hP hD hS h)
end JZ
/-! distances and the least way -/
def adf (a b : Nat) : Nat := (a - b) + (b - a)
theorem jn_abs {a b : Nat} (ha : a < 1000) (hb : b < 1000) : (if 0 ≤ nI a - nI b then nI a - nI b else 0 - (nI a - nI b)) = nI (adf a b) := by
  unfold adf
  by_cases h : b ≤ a
  · rw [pk_sub h, if_pos (nI_pos' (by omega)), show b - a = 0 by omega, Nat.add_zero]
  · rw [if_neg (fun g => jn_no (pk_sneg (a := a) (b := b) (by omega) (by omega)) g), Int32.zero_sub, Int32.neg_sub, pk_sub (by omega), show a - b = 0 by omega, Nat.zero_add]
def dst (s t : Nat) : Nat := adf (s / 10) (t / 10) + adf (s % 10) (t % 10)
theorem dst_le {s t : Nat} (hs : s < 100) (ht : t < 100) : dst s t ≤ 18 := by
  unfold dst adf
  omega
def pop (t : Nat) : Nat := t % 2 + t / 2 % 2 + t / 4 % 2 + t / 8 % 2 + t / 16 % 2 + t / 32 % 2
theorem pop_facts : ∀ m, m < 7 → ∀ t, t < 2 ^ m → pop t ≤ m ∧ (1 ≤ t → 1 ≤ pop t) := by decide +kernel
theorem bit_shl : ∀ s, s < 7 → (nI 1 <<< (nI s &&& 31)) = nI (2 ^ s) := by decide +kernel
theorem bit_and : ∀ t, t < 64 → ∀ s, s < 6 → (nI t &&& nI (2 ^ s)) = nI (t &&& 2 ^ s) := by decide +kernel
theorem bit_xor : ∀ t, t < 64 → ∀ s, s < 6 → (nI t ^^^ nI (2 ^ s)) = nI (t ^^^ 2 ^ s) := by decide +kernel
theorem bit_test : ∀ t, t < 64 → ∀ s, s < 6 → (t &&& 2 ^ s < 64) ∧ (t &&& 2 ^ s = 0 → t.testBit s = false) ∧ (¬ t &&& 2 ^ s = 0 → t.testBit s = true) := by decide +kernel
theorem bit_less : ∀ t, t < 64 → ∀ s, s < 6 → t.testBit s = true → t ^^^ 2 ^ s < t ∧ t ^^^ 2 ^ s = t - 2 ^ s := by decide +kernel
theorem bit_some : ∀ m, m < 7 → ∀ t, t < 2 ^ m → 1 ≤ t → ∃ s, s < m ∧ t.testBit s = true := by decide +kernel
theorem pow_le : ∀ m, m < 7 → 2 ^ m ≤ 64 ∧ 1 ≤ 2 ^ m := by decide
/-- the slots where boxes lie, by the boxes' numbers -/
def sN (sl : Nat → Int32) (b : Nat) : Nat := (sl b).toNatClampNeg
def lyT (sl : Nat → Int32) : Nat → List Nat
  | 0 => []
  | b + 1 => if sl b = -1 then lyT sl b else lyT sl b ++ [sN sl b]
theorem lyT_f {sl : Nat → Int32} {b : Nat} (h : sl b = -1) : lyT sl (b + 1) = lyT sl b := by
  show (if sl b = -1 then _ else _) = _
  rw [if_pos h]
theorem lyT_t {sl : Nat → Int32} {b : Nat} (h : ¬ sl b = -1) : lyT sl (b + 1) = lyT sl b ++ [sN sl b] := by
  show (if sl b = -1 then _ else _) = _
  rw [if_neg h]
theorem lyT_mono (sl : Nat → Int32) (a d : Nat) : (lyT sl a).length ≤ (lyT sl (a + d)).length := by
  induction d with
  | zero => exact Nat.le_refl _
  | succ d ih =>
    by_cases h : sl (a + d) = -1
    · rw [← Nat.add_assoc, lyT_f h]; exact ih
    · rw [← Nat.add_assoc, lyT_t h, List.length_append]; omega
/-- boxes lie at slots 0 .. 99, or nowhere -/
def slOk (sl : Nat → Int32) : Prop := ∀ b, b < 20 → sl b = -1 ∨ ∃ s, s < 100 ∧ sl b = nI s
theorem sN_eq {sl : Nat → Int32} (h : slOk sl) {b : Nat} (hb : b < 20) (hn : ¬ sl b = -1) : sl b = nI (sN sl b) ∧ sN sl b < 100 := by
  rcases h b hb with e | ⟨s, hs, e⟩
  · exact absurd e hn
  · unfold sN
    rw [e, nI_clamp (by omega)]
    exact ⟨rfl, hs⟩
theorem lyT_lt {sl : Nat → Int32} (h : slOk sl) {b : Nat} (hb : b ≤ 20) : ∀ y, y ∈ lyT sl b → y < 100 := by
  induction b with
  | zero => intro y hy; exact absurd hy List.not_mem_nil
  | succ b ih =>
    intro y hy
    by_cases e : sl b = -1
    · rw [lyT_f e] at hy; exact ih (by omega) y hy
    · rw [lyT_t e] at hy
      rcases List.mem_append.mp hy with hy | hy
      · exact ih (by omega) y hy
      · rw [List.mem_singleton.mp hy]; exact (sN_eq h (by omega) e).2
/-- the least over the slots below s that are in t -/
def bstT (F : List Nat) (C : Nat → Nat) (t : Nat) : Nat → Nat
  | 0 => 2147483647
  | s + 1 => cond (t.testBit s) (min (bstT F C t s) (C (t ^^^ 2 ^ s) + dst (F.getD (pop t - 1) 0) s)) (bstT F C t s)
theorem bstT_t {F : List Nat} {C : Nat → Nat} {t s : Nat} (h : t.testBit s = true) : bstT F C t (s + 1) = min (bstT F C t s) (C (t ^^^ 2 ^ s) + dst (F.getD (pop t - 1) 0) s) := by
  show cond (t.testBit s) _ _ = _
  rw [h]; rfl
theorem bstT_f {F : List Nat} {C : Nat → Nat} {t s : Nat} (h : t.testBit s = false) : bstT F C t (s + 1) = bstT F C t s := by
  show cond (t.testBit s) _ _ = _
  rw [h]; rfl
theorem bstT_le (F : List Nat) (C : Nat → Nat) (t s : Nat) : bstT F C t s ≤ 2147483647 := by
  induction s with
  | zero => exact Nat.le_refl _
  | succ s ih =>
    cases h : t.testBit s
    · rw [bstT_f h]; exact ih
    · rw [bstT_t h]; omega
theorem bstT_bit {F : List Nat} {C : Nat → Nat} {t s m : Nat} (h : t.testBit s = true) (hs : s < m) : bstT F C t m ≤ C (t ^^^ 2 ^ s) + dst (F.getD (pop t - 1) 0) s := by
  induction m with
  | zero => exact absurd hs (Nat.not_lt_zero _)
  | succ m ih =>
    by_cases e : s = m
    · subst e; rw [bstT_t h]; omega
    · have h1 := ih (by omega)
      cases h2 : t.testBit m
      · rw [bstT_f h2]; exact h1
      · rw [bstT_t h2]; omega
theorem bstT_congr {F : List Nat} {C C' : Nat → Nat} {t m : Nat} (hm : m ≤ 6) (ht : t < 64) (h : ∀ j, j < t → C j = C' j) : bstT F C t m = bstT F C' t m := by
  induction m with
  | zero => rfl
  | succ m ih =>
    have h1 := ih (by omega)
    cases h2 : t.testBit m
    · rw [bstT_f h2, bstT_f h2]; exact h1
    · rw [bstT_t h2, bstT_t h2, h1, h _ (bit_less t ht m (by omega) h2).1]
/-- the table, set by set -/
def ctb (F : List Nat) : Nat → Nat → Nat
  | 0 => fun _ => 0
  | k + 1 => fun j => if j = k then (if k = 0 then 0 else bstT F (ctb F k) k F.length) else ctb F k j
def cst (F : List Nat) (j : Nat) : Nat := ctb F (j + 1) j
theorem ctb_old {F : List Nat} {j k : Nat} (h : j < k) : ctb F k j = cst F j := by
  induction k with
  | zero => exact absurd h (Nat.not_lt_zero _)
  | succ k ih =>
    by_cases e : j = k
    · rw [e]; rfl
    · show (if j = k then _ else ctb F k j) = _
      rw [if_neg e]; exact ih (by omega)
theorem cst_0 (F : List Nat) : cst F 0 = 0 := rfl
theorem cst_s {F : List Nat} {k : Nat} (hk : 1 ≤ k) (hk2 : k < 64) (hF : F.length ≤ 6) : cst F k = bstT F (cst F) k F.length := by
  show (if k = k then (if k = 0 then 0 else bstT F (ctb F k) k F.length) else ctb F k k) = _
  rw [if_pos rfl, if_neg (by omega)]
  exact bstT_congr hF hk2 (fun j hj => ctb_old hj)
theorem cst_le {F : List Nat} (hF : F.length ≤ 6) (hm : ∀ y, y ∈ F → y < 100) (k : Nat) : k < 2 ^ F.length → cst F k ≤ 18 * k := by
  induction k using Nat.strongRecOn with
  | ind k ih =>
    intro hk
    have hp := (pow_le F.length (by omega)).1
    by_cases h0 : k = 0
    · subst h0; exact Nat.le_refl _
    · obtain ⟨s, hs, hb⟩ := bit_some F.length (by omega) k hk (by omega)
      have hl := bit_less k (by omega) s (by omega) hb
      rw [cst_s (by omega) (by omega) hF]
      have h1 := bstT_bit (F := F) (C := cst F) hb hs
      have h2 := ih _ hl.1 (by omega)
      have hpf := pop_facts F.length (by omega) k hk
      have h3 : F.getD (pop k - 1) 0 < 100 := hm _ (getD_mem (by have := hpf.2 (by omega); omega))
      have h4 := dst_le (s := F.getD (pop k - 1) 0) (t := s) h3 (by omega)
      omega
def lstP (sl : Nat → Int32) : Int32 := if (lyT sl 20).length ≤ 6 then nI (cst (lyT sl 20) (2 ^ (lyT sl 20).length - 1)) else -1
end
section
def rm_X_distance : Room := { frames := 1, cells := 0, slots := 0, locals := 24 }
set_option maxHeartbeats 4000000 in
set_option maxRecDepth 100000 in
theorem ct_X_distance (l : Launch) (D : va_G) (cA : ClassId) (f t : Nat) (hf : f < 100) (ht : t < 100) : Ci (S := Unit) l y_X_distance (Cond.code y_X_distance c_X_distance 2 (some .int) :: WD) rm_X_distance D vwCl [(cA, .int)] nws [.int (nI f), .int (nI t)] [] 0 0 (fun r _ => r = nI (dst f t)) (fun _ => []) := by
  refine Ci.of (cc := c_X_distance) (nL := 2) (lv := [(0, .int (nI f)), (1, .int (nI t))]) (by decide) rfl (Nat.le_of_ble_eq_true rfl) rfl ?_
  intro p e s m args below meth cd A Q F hK hN hA ret
  refine j_iloadn F d_X_distance_0 0 rfl rfl ?_
  refine j_bipush (v := nI 10) F d_X_distance_1 (by decide) ?_
  refine j_idiv (v := nI (f / 10)) F d_X_distance_3 (nI_ne0 (by omega) (by omega)) (pk_div (by omega) (by omega) (by omega)) ?_
  refine j_iloadn F d_X_distance_4 1 rfl rfl ?_
  refine j_bipush (v := nI 10) F d_X_distance_5 (by decide) ?_
  refine j_idiv (v := nI (t / 10)) F d_X_distance_7 (nI_ne0 (by omega) (by omega)) (pk_div (by omega) (by omega) (by omega)) ?_
  refine j_isub (v := nI (f / 10) - nI (t / 10)) F d_X_distance_8 rfl ?_
  refine j_mabs (v := nI (adf (f / 10) (t / 10))) F (wm k_392) (wm k_393) (wm k_13) (wm k_394) (by decide) (Nat.le_of_ble_eq_true rfl) (by decide) (by decide) d_X_distance_9 (jn_abs (by omega) (by omega)) ?_
  refine j_iloadn F d_X_distance_12 0 rfl rfl ?_
  refine j_bipush (v := nI 10) F d_X_distance_13 (by decide) ?_
  refine j_irem (v := nI (f % 10)) F d_X_distance_15 (nI_ne0 (by omega) (by omega)) (pk_rem (by omega) (by omega) (by omega)) ?_
  refine j_iloadn F d_X_distance_16 1 rfl rfl ?_
  refine j_bipush (v := nI 10) F d_X_distance_17 (by decide) ?_
  refine j_irem (v := nI (t % 10)) F d_X_distance_19 (nI_ne0 (by omega) (by omega)) (pk_rem (by omega) (by omega) (by omega)) ?_
  refine j_isub (v := nI (f % 10) - nI (t % 10)) F d_X_distance_20 rfl ?_
  refine j_mabs (v := nI (adf (f % 10) (t % 10))) F (wm k_392) (wm k_393) (wm k_13) (wm k_394) (by decide) (Nat.le_of_ble_eq_true rfl) (by decide) (by decide) d_X_distance_21 (jn_abs (by omega) (by omega)) ?_
  refine j_iadd (v := nI ((adf (f / 10) (t / 10)) + (adf (f % 10) (t % 10)))) F d_X_distance_24 (nI_add _ _) ?_
  exact ret _ _ _ _ _ _ () d_X_distance_25 rfl (by decide) (by decide) rfl rfl

theorem bc_fin : ∀ t, t < 64 → ((((((((nI t) - ((((nI t).toUInt32 >>> ((nI 1).toUInt32 &&& Int32.toUInt32 31)).toInt32) &&& 1431655765)) &&& 858993459) + (((((nI t) - ((((nI t).toUInt32 >>> ((nI 1).toUInt32 &&& Int32.toUInt32 31)).toInt32) &&& 1431655765)).toUInt32 >>> ((nI 2).toUInt32 &&& Int32.toUInt32 31)).toInt32) &&& 858993459)) + ((((((nI t) - ((((nI t).toUInt32 >>> ((nI 1).toUInt32 &&& Int32.toUInt32 31)).toInt32) &&& 1431655765)) &&& 858993459) + (((((nI t) - ((((nI t).toUInt32 >>> ((nI 1).toUInt32 &&& Int32.toUInt32 31)).toInt32) &&& 1431655765)).toUInt32 >>> ((nI 2).toUInt32 &&& Int32.toUInt32 31)).toInt32) &&& 858993459)).toUInt32 >>> ((nI 4).toUInt32 &&& Int32.toUInt32 31)).toInt32)) &&& 252645135) + ((((((((nI t) - ((((nI t).toUInt32 >>> ((nI 1).toUInt32 &&& Int32.toUInt32 31)).toInt32) &&& 1431655765)) &&& 858993459) + (((((nI t) - ((((nI t).toUInt32 >>> ((nI 1).toUInt32 &&& Int32.toUInt32 31)).toInt32) &&& 1431655765)).toUInt32 >>> ((nI 2).toUInt32 &&& Int32.toUInt32 31)).toInt32) &&& 858993459)) + ((((((nI t) - ((((nI t).toUInt32 >>> ((nI 1).toUInt32 &&& Int32.toUInt32 31)).toInt32) &&& 1431655765)) &&& 858993459) + (((((nI t) - ((((nI t).toUInt32 >>> ((nI 1).toUInt32 &&& Int32.toUInt32 31)).toInt32) &&& 1431655765)).toUInt32 >>> ((nI 2).toUInt32 &&& Int32.toUInt32 31)).toInt32) &&& 858993459)).toUInt32 >>> ((nI 4).toUInt32 &&& Int32.toUInt32 31)).toInt32)) &&& 252645135).toUInt32 >>> ((nI 8).toUInt32 &&& Int32.toUInt32 31)).toInt32)) + (((((((((nI t) - ((((nI t).toUInt32 >>> ((nI 1).toUInt32 &&& Int32.toUInt32 31)).toInt32) &&& 1431655765)) &&& 858993459) + (((((nI t) - ((((nI t).toUInt32 >>> ((nI 1).toUInt32 &&& Int32.toUInt32 31)).toInt32) &&& 1431655765)).toUInt32 >>> ((nI 2).toUInt32 &&& Int32.toUInt32 31)).toInt32) &&& 858993459)) + ((((((nI t) - ((((nI t).toUInt32 >>> ((nI 1).toUInt32 &&& Int32.toUInt32 31)).toInt32) &&& 1431655765)) &&& 858993459) + (((((nI t) - ((((nI t).toUInt32 >>> ((nI 1).toUInt32 &&& Int32.toUInt32 31)).toInt32) &&& 1431655765)).toUInt32 >>> ((nI 2).toUInt32 &&& Int32.toUInt32 31)).toInt32) &&& 858993459)).toUInt32 >>> ((nI 4).toUInt32 &&& Int32.toUInt32 31)).toInt32)) &&& 252645135) + ((((((((nI t) - ((((nI t).toUInt32 >>> ((nI 1).toUInt32 &&& Int32.toUInt32 31)).toInt32) &&& 1431655765)) &&& 858993459) + (((((nI t) - ((((nI t).toUInt32 >>> ((nI 1).toUInt32 &&& Int32.toUInt32 31)).toInt32) &&& 1431655765)).toUInt32 >>> ((nI 2).toUInt32 &&& Int32.toUInt32 31)).toInt32) &&& 858993459)) + ((((((nI t) - ((((nI t).toUInt32 >>> ((nI 1).toUInt32 &&& Int32.toUInt32 31)).toInt32) &&& 1431655765)) &&& 858993459) + (((((nI t) - ((((nI t).toUInt32 >>> ((nI 1).toUInt32 &&& Int32.toUInt32 31)).toInt32) &&& 1431655765)).toUInt32 >>> ((nI 2).toUInt32 &&& Int32.toUInt32 31)).toInt32) &&& 858993459)).toUInt32 >>> ((nI 4).toUInt32 &&& Int32.toUInt32 31)).toInt32)) &&& 252645135).toUInt32 >>> ((nI 8).toUInt32 &&& Int32.toUInt32 31)).toInt32)).toUInt32 >>> ((nI 16).toUInt32 &&& Int32.toUInt32 31)).toInt32)) &&& (nI 63) = nI (pop t) := by decide +kernel

def rm_In_bitCount : Room := { frames := 0, cells := 0, slots := 0, locals := 0 }
set_option maxHeartbeats 4000000 in
set_option maxRecDepth 100000 in
theorem ct_In_bitCount (l : Launch) (D : va_G) (cA : ClassId) (t : Nat) (ht : t < 64) : Ci (S := Unit) l y_In_bitCount (Cond.code y_In_bitCount c_In_bitCount 1 (some .int) :: WD) rm_In_bitCount D vwCl [(cA, .int)] nws [.int (nI t)] [] 0 0 (fun r _ => r = nI (pop t)) (fun _ => []) := by
  refine Ci.of (cc := c_In_bitCount) (nL := 1) (lv := [(0, .int (nI t))]) (by decide) rfl (Nat.le_of_ble_eq_true rfl) rfl ?_
  intro p e s m args below meth cd A Q F hK hN hA ret
  refine j_iloadn F d_In_bitCount_0 0 rfl rfl ?_
  refine j_iloadn F d_In_bitCount_1 0 rfl rfl ?_
  refine j_iconst (v := nI 1) F d_In_bitCount_2 (by decide) ?_
  refine j_iushr (v := ((nI t).toUInt32 >>> ((nI 1).toUInt32 &&& Int32.toUInt32 31)).toInt32) F d_In_bitCount_3 rfl ?_
  refine j_ldcw (v := 1431655765) F (wm k_417) d_In_bitCount_4 ?_
  refine j_iand (v := (((nI t).toUInt32 >>> ((nI 1).toUInt32 &&& Int32.toUInt32 31)).toInt32) &&& 1431655765) F d_In_bitCount_7 rfl ?_
  refine j_isub (v := (nI t) - ((((nI t).toUInt32 >>> ((nI 1).toUInt32 &&& Int32.toUInt32 31)).toInt32) &&& 1431655765)) F d_In_bitCount_8 rfl ?_
  refine j_istoren (lv' := [(0, .int ((nI t) - ((((nI t).toUInt32 >>> ((nI 1).toUInt32 &&& Int32.toUInt32 31)).toInt32) &&& 1431655765)))]) F d_In_bitCount_9 rfl (by decide) rfl ?_
  refine j_iloadn F d_In_bitCount_10 0 rfl rfl ?_
  refine j_ldcw (v := 858993459) F (wm k_418) d_In_bitCount_11 ?_
  refine j_iand (v := ((nI t) - ((((nI t).toUInt32 >>> ((nI 1).toUInt32 &&& Int32.toUInt32 31)).toInt32) &&& 1431655765)) &&& 858993459) F d_In_bitCount_14 rfl ?_
  refine j_iloadn F d_In_bitCount_15 0 rfl rfl ?_
  refine j_iconst (v := nI 2) F d_In_bitCount_16 (by decide) ?_
  refine j_iushr (v := (((nI t) - ((((nI t).toUInt32 >>> ((nI 1).toUInt32 &&& Int32.toUInt32 31)).toInt32) &&& 1431655765)).toUInt32 >>> ((nI 2).toUInt32 &&& Int32.toUInt32 31)).toInt32) F d_In_bitCount_17 rfl ?_
  refine j_ldcw (v := 858993459) F (wm k_418) d_In_bitCount_18 ?_
  refine j_iand (v := ((((nI t) - ((((nI t).toUInt32 >>> ((nI 1).toUInt32 &&& Int32.toUInt32 31)).toInt32) &&& 1431655765)).toUInt32 >>> ((nI 2).toUInt32 &&& Int32.toUInt32 31)).toInt32) &&& 858993459) F d_In_bitCount_21 rfl ?_
  refine j_iadd (v := (((nI t) - ((((nI t).toUInt32 >>> ((nI 1).toUInt32 &&& Int32.toUInt32 31)).toInt32) &&& 1431655765)) &&& 858993459) + (((((nI t) - ((((nI t).toUInt32 >>> ((nI 1).toUInt32 &&& Int32.toUInt32 31)).toInt32) &&& 1431655765)).toUInt32 >>> ((nI 2).toUInt32 &&& Int32.toUInt32 31)).toInt32) &&& 858993459)) F d_In_bitCount_22 rfl ?_
  refine j_istoren (lv' := [(0, .int ((((nI t) - ((((nI t).toUInt32 >>> ((nI 1).toUInt32 &&& Int32.toUInt32 31)).toInt32) &&& 1431655765)) &&& 858993459) + (((((nI t) - ((((nI t).toUInt32 >>> ((nI 1).toUInt32 &&& Int32.toUInt32 31)).toInt32) &&& 1431655765)).toUInt32 >>> ((nI 2).toUInt32 &&& Int32.toUInt32 31)).toInt32) &&& 858993459)))]) F d_In_bitCount_23 rfl (by decide) rfl ?_
  refine j_iloadn F d_In_bitCount_24 0 rfl rfl ?_
  refine j_iloadn F d_In_bitCount_25 0 rfl rfl ?_
  refine j_iconst (v := nI 4) F d_In_bitCount_26 (by decide) ?_
  refine j_iushr (v := (((((nI t) - ((((nI t).toUInt32 >>> ((nI 1).toUInt32 &&& Int32.toUInt32 31)).toInt32) &&& 1431655765)) &&& 858993459) + (((((nI t) - ((((nI t).toUInt32 >>> ((nI 1).toUInt32 &&& Int32.toUInt32 31)).toInt32) &&& 1431655765)).toUInt32 >>> ((nI 2).toUInt32 &&& Int32.toUInt32 31)).toInt32) &&& 858993459)).toUInt32 >>> ((nI 4).toUInt32 &&& Int32.toUInt32 31)).toInt32) F d_In_bitCount_27 rfl ?_
  refine j_iadd (v := ((((nI t) - ((((nI t).toUInt32 >>> ((nI 1).toUInt32 &&& Int32.toUInt32 31)).toInt32) &&& 1431655765)) &&& 858993459) + (((((nI t) - ((((nI t).toUInt32 >>> ((nI 1).toUInt32 &&& Int32.toUInt32 31)).toInt32) &&& 1431655765)).toUInt32 >>> ((nI 2).toUInt32 &&& Int32.toUInt32 31)).toInt32) &&& 858993459)) + ((((((nI t) - ((((nI t).toUInt32 >>> ((nI 1).toUInt32 &&& Int32.toUInt32 31)).toInt32) &&& 1431655765)) &&& 858993459) + (((((nI t) - ((((nI t).toUInt32 >>> ((nI 1).toUInt32 &&& Int32.toUInt32 31)).toInt32) &&& 1431655765)).toUInt32 >>> ((nI 2).toUInt32 &&& Int32.toUInt32 31)).toInt32) &&& 858993459)).toUInt32 >>> ((nI 4).toUInt32 &&& Int32.toUInt32 31)).toInt32)) F d_In_bitCount_28 rfl ?_
  refine j_ldcw (v := 252645135) F (wm k_419) d_In_bitCount_29 ?_
  refine j_iand (v := (((((nI t) - ((((nI t).toUInt32 >>> ((nI 1).toUInt32 &&& Int32.toUInt32 31)).toInt32) &&& 1431655765)) &&& 858993459) + (((((nI t) - ((((nI t).toUInt32 >>> ((nI 1).toUInt32 &&& Int32.toUInt32 31)).toInt32) &&& 1431655765)).toUInt32 >>> ((nI 2).toUInt32 &&& Int32.toUInt32 31)).toInt32) &&& 858993459)) + ((((((nI t) - ((((nI t).toUInt32 >>> ((nI 1).toUInt32 &&& Int32.toUInt32 31)).toInt32) &&& 1431655765)) &&& 858993459) + (((((nI t) - ((((nI t).toUInt32 >>> ((nI 1).toUInt32 &&& Int32.toUInt32 31)).toInt32) &&& 1431655765)).toUInt32 >>> ((nI 2).toUInt32 &&& Int32.toUInt32 31)).toInt32) &&& 858993459)).toUInt32 >>> ((nI 4).toUInt32 &&& Int32.toUInt32 31)).toInt32)) &&& 252645135) F d_In_bitCount_32 rfl ?_
  refine j_istoren (lv' := [(0, .int ((((((nI t) - ((((nI t).toUInt32 >>> ((nI 1).toUInt32 &&& Int32.toUInt32 31)).toInt32) &&& 1431655765)) &&& 858993459) + (((((nI t) - ((((nI t).toUInt32 >>> ((nI 1).toUInt32 &&& Int32.toUInt32 31)).toInt32) &&& 1431655765)).toUInt32 >>> ((nI 2).toUInt32 &&& Int32.toUInt32 31)).toInt32) &&& 858993459)) + ((((((nI t) - ((((nI t).toUInt32 >>> ((nI 1).toUInt32 &&& Int32.toUInt32 31)).toInt32) &&& 1431655765)) &&& 858993459) + (((((nI t) - ((((nI t).toUInt32 >>> ((nI 1).toUInt32 &&& Int32.toUInt32 31)).toInt32) &&& 1431655765)).toUInt32 >>> ((nI 2).toUInt32 &&& Int32.toUInt32 31)).toInt32) &&& 858993459)).toUInt32 >>> ((nI 4).toUInt32 &&& Int32.toUInt32 31)).toInt32)) &&& 252645135))]) F d_In_bitCount_33 rfl (by decide) rfl ?_
  refine j_iloadn F d_In_bitCount_34 0 rfl rfl ?_
  refine j_iloadn F d_In_bitCount_35 0 rfl rfl ?_
  refine j_bipush (v := nI 8) F d_In_bitCount_36 (by decide) ?_
  refine j_iushr (v := (((((((nI t) - ((((nI t).toUInt32 >>> ((nI 1).toUInt32 &&& Int32.toUInt32 31)).toInt32) &&& 1431655765)) &&& 858993459) + (((((nI t) - ((((nI t).toUInt32 >>> ((nI 1).toUInt32 &&& Int32.toUInt32 31)).toInt32) &&& 1431655765)).toUInt32 >>> ((nI 2).toUInt32 &&& Int32.toUInt32 31)).toInt32) &&& 858993459)) + ((((((nI t) - ((((nI t).toUInt32 >>> ((nI 1).toUInt32 &&& Int32.toUInt32 31)).toInt32) &&& 1431655765)) &&& 858993459) + (((((nI t) - ((((nI t).toUInt32 >>> ((nI 1).toUInt32 &&& Int32.toUInt32 31)).toInt32) &&& 1431655765)).toUInt32 >>> ((nI 2).toUInt32 &&& Int32.toUInt32 31)).toInt32) &&& 858993459)).toUInt32 >>> ((nI 4).toUInt32 &&& Int32.toUInt32 31)).toInt32)) &&& 252645135).toUInt32 >>> ((nI 8).toUInt32 &&& Int32.toUInt32 31)).toInt32) F d_In_bitCount_38 rfl ?_
  refine j_iadd (v := ((((((nI t) - ((((nI t).toUInt32 >>> ((nI 1).toUInt32 &&& Int32.toUInt32 31)).toInt32) &&& 1431655765)) &&& 858993459) + (((((nI t) - ((((nI t).toUInt32 >>> ((nI 1).toUInt32 &&& Int32.toUInt32 31)).toInt32) &&& 1431655765)).toUInt32 >>> ((nI 2).toUInt32 &&& Int32.toUInt32 31)).toInt32) &&& 858993459)) + ((((((nI t) - ((((nI t).toUInt32 >>> ((nI 1).toUInt32 &&& Int32.toUInt32 31)).toInt32) &&& 1431655765)) &&& 858993459) + (((((nI t) - ((((nI t).toUInt32 >>> ((nI 1).toUInt32 &&& Int32.toUInt32 31)).toInt32) &&& 1431655765)).toUInt32 >>> ((nI 2).toUInt32 &&& Int32.toUInt32 31)).toInt32) &&& 858993459)).toUInt32 >>> ((nI 4).toUInt32 &&& Int32.toUInt32 31)).toInt32)) &&& 252645135) + ((((((((nI t) - ((((nI t).toUInt32 >>> ((nI 1).toUInt32 &&& Int32.toUInt32 31)).toInt32) &&& 1431655765)) &&& 858993459) + (((((nI t) - ((((nI t).toUInt32 >>> ((nI 1).toUInt32 &&& Int32.toUInt32 31)).toInt32) &&& 1431655765)).toUInt32 >>> ((nI 2).toUInt32 &&& Int32.toUInt32 31)).toInt32) &&& 858993459)) + ((((((nI t) - ((((nI t).toUInt32 >>> ((nI 1).toUInt32 &&& Int32.toUInt32 31)).toInt32) &&& 1431655765)) &&& 858993459) + (((((nI t) - ((((nI t).toUInt32 >>> ((nI 1).toUInt32 &&& Int32.toUInt32 31)).toInt32) &&& 1431655765)).toUInt32 >>> ((nI 2).toUInt32 &&& Int32.toUInt32 31)).toInt32) &&& 858993459)).toUInt32 >>> ((nI 4).toUInt32 &&& Int32.toUInt32 31)).toInt32)) &&& 252645135).toUInt32 >>> ((nI 8).toUInt32 &&& Int32.toUInt32 31)).toInt32)) F d_In_bitCount_39 rfl ?_
  refine j_istoren (lv' := [(0, .int (((((((nI t) - ((((nI t).toUInt32 >>> ((nI 1).toUInt32 &&& Int32.toUInt32 31)).toInt32) &&& 1431655765)) &&& 858993459) + (((((nI t) - ((((nI t).toUInt32 >>> ((nI 1).toUInt32 &&& Int32.toUInt32 31)).toInt32) &&& 1431655765)).toUInt32 >>> ((nI 2).toUInt32 &&& Int32.toUInt32 31)).toInt32) &&& 858993459)) + ((((((nI t) - ((((nI t).toUInt32 >>> ((nI 1).toUInt32 &&& Int32.toUInt32 31)).toInt32) &&& 1431655765)) &&& 858993459) + (((((nI t) - ((((nI t).toUInt32 >>> ((nI 1).toUInt32 &&& Int32.toUInt32 31)).toInt32) &&& 1431655765)).toUInt32 >>> ((nI 2).toUInt32 &&& Int32.toUInt32 31)).toInt32) &&& 858993459)).toUInt32 >>> ((nI 4).toUInt32 &&& Int32.toUInt32 31)).toInt32)) &&& 252645135) + ((((((((nI t) - ((((nI t).toUInt32 >>> ((nI 1).toUInt32 &&& Int32.toUInt32 31)).toInt32) &&& 1431655765)) &&& 858993459) + (((((nI t) - ((((nI t).toUInt32 >>> ((nI 1).toUInt32 &&& Int32.toUInt32 31)).toInt32) &&& 1431655765)).toUInt32 >>> ((nI 2).toUInt32 &&& Int32.toUInt32 31)).toInt32) &&& 858993459)) + ((((((nI t) - ((((nI t).toUInt32 >>> ((nI 1).toUInt32 &&& Int32.toUInt32 31)).toInt32) &&& 1431655765)) &&& 858993459) + (((((nI t) - ((((nI t).toUInt32 >>> ((nI 1).toUInt32 &&& Int32.toUInt32 31)).toInt32) &&& 1431655765)).toUInt32 >>> ((nI 2).toUInt32 &&& Int32.toUInt32 31)).toInt32) &&& 858993459)).toUInt32 >>> ((nI 4).toUInt32 &&& Int32.toUInt32 31)).toInt32)) &&& 252645135).toUInt32 >>> ((nI 8).toUInt32 &&& Int32.toUInt32 31)).toInt32)))]) F d_In_bitCount_40 rfl (by decide) rfl ?_
  refine j_iloadn F d_In_bitCount_41 0 rfl rfl ?_
  refine j_iloadn F d_In_bitCount_42 0 rfl rfl ?_
  refine j_bipush (v := nI 16) F d_In_bitCount_43 (by decide) ?_
  refine j_iushr (v := ((((((((nI t) - ((((nI t).toUInt32 >>> ((nI 1).toUInt32 &&& Int32.toUInt32 31)).toInt32) &&& 1431655765)) &&& 858993459) + (((((nI t) - ((((nI t).toUInt32 >>> ((nI 1).toUInt32 &&& Int32.toUInt32 31)).toInt32) &&& 1431655765)).toUInt32 >>> ((nI 2).toUInt32 &&& Int32.toUInt32 31)).toInt32) &&& 858993459)) + ((((((nI t) - ((((nI t).toUInt32 >>> ((nI 1).toUInt32 &&& Int32.toUInt32 31)).toInt32) &&& 1431655765)) &&& 858993459) + (((((nI t) - ((((nI t).toUInt32 >>> ((nI 1).toUInt32 &&& Int32.toUInt32 31)).toInt32) &&& 1431655765)).toUInt32 >>> ((nI 2).toUInt32 &&& Int32.toUInt32 31)).toInt32) &&& 858993459)).toUInt32 >>> ((nI 4).toUInt32 &&& Int32.toUInt32 31)).toInt32)) &&& 252645135) + ((((((((nI t) - ((((nI t).toUInt32 >>> ((nI 1).toUInt32 &&& Int32.toUInt32 31)).toInt32) &&& 1431655765)) &&& 858993459) + (((((nI t) - ((((nI t).toUInt32 >>> ((nI 1).toUInt32 &&& Int32.toUInt32 31)).toInt32) &&& 1431655765)).toUInt32 >>> ((nI 2).toUInt32 &&& Int32.toUInt32 31)).toInt32) &&& 858993459)) + ((((((nI t) - ((((nI t).toUInt32 >>> ((nI 1).toUInt32 &&& Int32.toUInt32 31)).toInt32) &&& 1431655765)) &&& 858993459) + (((((nI t) - ((((nI t).toUInt32 >>> ((nI 1).toUInt32 &&& Int32.toUInt32 31)).toInt32) &&& 1431655765)).toUInt32 >>> ((nI 2).toUInt32 &&& Int32.toUInt32 31)).toInt32) &&& 858993459)).toUInt32 >>> ((nI 4).toUInt32 &&& Int32.toUInt32 31)).toInt32)) &&& 252645135).toUInt32 >>> ((nI 8).toUInt32 &&& Int32.toUInt32 31)).toInt32)).toUInt32 >>> ((nI 16).toUInt32 &&& Int32.toUInt32 31)).toInt32) F d_In_bitCount_45 rfl ?_
  refine j_iadd (v := (((((((nI t) - ((((nI t).toUInt32 >>> ((nI 1).toUInt32 &&& Int32.toUInt32 31)).toInt32) &&& 1431655765)) &&& 858993459) + (((((nI t) - ((((nI t).toUInt32 >>> ((nI 1).toUInt32 &&& Int32.toUInt32 31)).toInt32) &&& 1431655765)).toUInt32 >>> ((nI 2).toUInt32 &&& Int32.toUInt32 31)).toInt32) &&& 858993459)) + ((((((nI t) - ((((nI t).toUInt32 >>> ((nI 1).toUInt32 &&& Int32.toUInt32 31)).toInt32) &&& 1431655765)) &&& 858993459) + (((((nI t) - ((((nI t).toUInt32 >>> ((nI 1).toUInt32 &&& Int32.toUInt32 31)).toInt32) &&& 1431655765)).toUInt32 >>> ((nI 2).toUInt32 &&& Int32.toUInt32 31)).toInt32) &&& 858993459)).toUInt32 >>> ((nI 4).toUInt32 &&& Int32.toUInt32 31)).toInt32)) &&& 252645135) + ((((((((nI t) - ((((nI t).toUInt32 >>> ((nI 1).toUInt32 &&& Int32.toUInt32 31)).toInt32) &&& 1431655765)) &&& 858993459) + (((((nI t) - ((((nI t).toUInt32 >>> ((nI 1).toUInt32 &&& Int32.toUInt32 31)).toInt32) &&& 1431655765)).toUInt32 >>> ((nI 2).toUInt32 &&& Int32.toUInt32 31)).toInt32) &&& 858993459)) + ((((((nI t) - ((((nI t).toUInt32 >>> ((nI 1).toUInt32 &&& Int32.toUInt32 31)).toInt32) &&& 1431655765)) &&& 858993459) + (((((nI t) - ((((nI t).toUInt32 >>> ((nI 1).toUInt32 &&& Int32.toUInt32 31)).toInt32) &&& 1431655765)).toUInt32 >>> ((nI 2).toUInt32 &&& Int32.toUInt32 31)).toInt32) &&& 858993459)).toUInt32 >>> ((nI 4).toUInt32 &&& Int32.toUInt32 31)).toInt32)) &&& 252645135).toUInt32 >>> ((nI 8).toUInt32 &&& Int32.toUInt32 31)).toInt32)) + (((((((((nI t) - ((((nI t).toUInt32 >>> ((nI 1).toUInt32 &&& Int32.toUInt32 31)).toInt32) &&& 1431655765)) &&& 858993459) + (((((nI t) - ((((nI t).toUInt32 >>> ((nI 1).toUInt32 &&& Int32.toUInt32 31)).toInt32) &&& 1431655765)).toUInt32 >>> ((nI 2).toUInt32 &&& Int32.toUInt32 31)).toInt32) &&& 858993459)) + ((((((nI t) - ((((nI t).toUInt32 >>> ((nI 1).toUInt32 &&& Int32.toUInt32 31)).toInt32) &&& 1431655765)) &&& 858993459) + (((((nI t) - ((((nI t).toUInt32 >>> ((nI 1).toUInt32 &&& Int32.toUInt32 31)).toInt32) &&& 1431655765)).toUInt32 >>> ((nI 2).toUInt32 &&& Int32.toUInt32 31)).toInt32) &&& 858993459)).toUInt32 >>> ((nI 4).toUInt32 &&& Int32.toUInt32 31)).toInt32)) &&& 252645135) + ((((((((nI t) - ((((nI t).toUInt32 >>> ((nI 1).toUInt32 &&& Int32.toUInt32 31)).toInt32) &&& 1431655765)) &&& 858993459) + (((((nI t) - ((((nI t).toUInt32 >>> ((nI 1).toUInt32 &&& Int32.toUInt32 31)).toInt32) &&& 1431655765)).toUInt32 >>> ((nI 2).toUInt32 &&& Int32.toUInt32 31)).toInt32) &&& 858993459)) + ((((((nI t) - ((((nI t).toUInt32 >>> ((nI 1).toUInt32 &&& Int32.toUInt32 31)).toInt32) &&& 1431655765)) &&& 858993459) + (((((nI t) - ((((nI t).toUInt32 >>> ((nI 1).toUInt32 &&& Int32.toUInt32 31)).toInt32) &&& 1431655765)).toUInt32 >>> ((nI 2).toUInt32 &&& Int32.toUInt32 31)).toInt32) &&& 858993459)).toUInt32 >>> ((nI 4).toUInt32 &&& Int32.toUInt32 31)).toInt32)) &&& 252645135).toUInt32 >>> ((nI 8).toUInt32 &&& Int32.toUInt32 31)).toInt32)).toUInt32 >>> ((nI 16).toUInt32 &&& Int32.toUInt32 31)).toInt32)) F d_In_bitCount_46 rfl ?_
  refine j_istoren (lv' := [(0, .int ((((((((nI t) - ((((nI t).toUInt32 >>> ((nI 1).toUInt32 &&& Int32.toUInt32 31)).toInt32) &&& 1431655765)) &&& 858993459) + (((((nI t) - ((((nI t).toUInt32 >>> ((nI 1).toUInt32 &&& Int32.toUInt32 31)).toInt32) &&& 1431655765)).toUInt32 >>> ((nI 2).toUInt32 &&& Int32.toUInt32 31)).toInt32) &&& 858993459)) + ((((((nI t) - ((((nI t).toUInt32 >>> ((nI 1).toUInt32 &&& Int32.toUInt32 31)).toInt32) &&& 1431655765)) &&& 858993459) + (((((nI t) - ((((nI t).toUInt32 >>> ((nI 1).toUInt32 &&& Int32.toUInt32 31)).toInt32) &&& 1431655765)).toUInt32 >>> ((nI 2).toUInt32 &&& Int32.toUInt32 31)).toInt32) &&& 858993459)).toUInt32 >>> ((nI 4).toUInt32 &&& Int32.toUInt32 31)).toInt32)) &&& 252645135) + ((((((((nI t) - ((((nI t).toUInt32 >>> ((nI 1).toUInt32 &&& Int32.toUInt32 31)).toInt32) &&& 1431655765)) &&& 858993459) + (((((nI t) - ((((nI t).toUInt32 >>> ((nI 1).toUInt32 &&& Int32.toUInt32 31)).toInt32) &&& 1431655765)).toUInt32 >>> ((nI 2).toUInt32 &&& Int32.toUInt32 31)).toInt32) &&& 858993459)) + ((((((nI t) - ((((nI t).toUInt32 >>> ((nI 1).toUInt32 &&& Int32.toUInt32 31)).toInt32) &&& 1431655765)) &&& 858993459) + (((((nI t) - ((((nI t).toUInt32 >>> ((nI 1).toUInt32 &&& Int32.toUInt32 31)).toInt32) &&& 1431655765)).toUInt32 >>> ((nI 2).toUInt32 &&& Int32.toUInt32 31)).toInt32) &&& 858993459)).toUInt32 >>> ((nI 4).toUInt32 &&& Int32.toUInt32 31)).toInt32)) &&& 252645135).toUInt32 >>> ((nI 8).toUInt32 &&& Int32.toUInt32 31)).toInt32)) + (((((((((nI t) - ((((nI t).toUInt32 >>> ((nI 1).toUInt32 &&& Int32.toUInt32 31)).toInt32) &&& 1431655765)) &&& 858993459) + (((((nI t) - ((((nI t).toUInt32 >>> ((nI 1).toUInt32 &&& Int32.toUInt32 31)).toInt32) &&& 1431655765)).toUInt32 >>> ((nI 2).toUInt32 &&& Int32.toUInt32 31)).toInt32) &&& 858993459)) + ((((((nI t) - ((((nI t).toUInt32 >>> ((nI 1).toUInt32 &&& Int32.toUInt32 31)).toInt32) &&& 1431655765)) &&& 858993459) + (((((nI t) - ((((nI t).toUInt32 >>> ((nI 1).toUInt32 &&& Int32.toUInt32 31)).toInt32) &&& 1431655765)).toUInt32 >>> ((nI 2).toUInt32 &&& Int32.toUInt32 31)).toInt32) &&& 858993459)).toUInt32 >>> ((nI 4).toUInt32 &&& Int32.toUInt32 31)).toInt32)) &&& 252645135) + ((((((((nI t) - ((((nI t).toUInt32 >>> ((nI 1).toUInt32 &&& Int32.toUInt32 31)).toInt32) &&& 1431655765)) &&& 858993459) + (((((nI t) - ((((nI t).toUInt32 >>> ((nI 1).toUInt32 &&& Int32.toUInt32 31)).toInt32) &&& 1431655765)).toUInt32 >>> ((nI 2).toUInt32 &&& Int32.toUInt32 31)).toInt32) &&& 858993459)) + ((((((nI t) - ((((nI t).toUInt32 >>> ((nI 1).toUInt32 &&& Int32.toUInt32 31)).toInt32) &&& 1431655765)) &&& 858993459) + (((((nI t) - ((((nI t).toUInt32 >>> ((nI 1).toUInt32 &&& Int32.toUInt32 31)).toInt32) &&& 1431655765)).toUInt32 >>> ((nI 2).toUInt32 &&& Int32.toUInt32 31)).toInt32) &&& 858993459)).toUInt32 >>> ((nI 4).toUInt32 &&& Int32.toUInt32 31)).toInt32)) &&& 252645135).toUInt32 >>> ((nI 8).toUInt32 &&& Int32.toUInt32 31)).toInt32)).toUInt32 >>> ((nI 16).toUInt32 &&& Int32.toUInt32 31)).toInt32)))]) F d_In_bitCount_47 rfl (by decide) rfl ?_
  refine j_iloadn F d_In_bitCount_48 0 rfl rfl ?_
  refine j_bipush (v := nI 63) F d_In_bitCount_49 (by decide) ?_
  refine j_iand (v := ((((((((nI t) - ((((nI t).toUInt32 >>> ((nI 1).toUInt32 &&& Int32.toUInt32 31)).toInt32) &&& 1431655765)) &&& 858993459) + (((((nI t) - ((((nI t).toUInt32 >>> ((nI 1).toUInt32 &&& Int32.toUInt32 31)).toInt32) &&& 1431655765)).toUInt32 >>> ((nI 2).toUInt32 &&& Int32.toUInt32 31)).toInt32) &&& 858993459)) + ((((((nI t) - ((((nI t).toUInt32 >>> ((nI 1).toUInt32 &&& Int32.toUInt32 31)).toInt32) &&& 1431655765)) &&& 858993459) + (((((nI t) - ((((nI t).toUInt32 >>> ((nI 1).toUInt32 &&& Int32.toUInt32 31)).toInt32) &&& 1431655765)).toUInt32 >>> ((nI 2).toUInt32 &&& Int32.toUInt32 31)).toInt32) &&& 858993459)).toUInt32 >>> ((nI 4).toUInt32 &&& Int32.toUInt32 31)).toInt32)) &&& 252645135) + ((((((((nI t) - ((((nI t).toUInt32 >>> ((nI 1).toUInt32 &&& Int32.toUInt32 31)).toInt32) &&& 1431655765)) &&& 858993459) + (((((nI t) - ((((nI t).toUInt32 >>> ((nI 1).toUInt32 &&& Int32.toUInt32 31)).toInt32) &&& 1431655765)).toUInt32 >>> ((nI 2).toUInt32 &&& Int32.toUInt32 31)).toInt32) &&& 858993459)) + ((((((nI t) - ((((nI t).toUInt32 >>> ((nI 1).toUInt32 &&& Int32.toUInt32 31)).toInt32) &&& 1431655765)) &&& 858993459) + (((((nI t) - ((((nI t).toUInt32 >>> ((nI 1).toUInt32 &&& Int32.toUInt32 31)).toInt32) &&& 1431655765)).toUInt32 >>> ((nI 2).toUInt32 &&& Int32.toUInt32 31)).toInt32) &&& 858993459)).toUInt32 >>> ((nI 4).toUInt32 &&& Int32.toUInt32 31)).toInt32)) &&& 252645135).toUInt32 >>> ((nI 8).toUInt32 &&& Int32.toUInt32 31)).toInt32)) + (((((((((nI t) - ((((nI t).toUInt32 >>> ((nI 1).toUInt32 &&& Int32.toUInt32 31)).toInt32) &&& 1431655765)) &&& 858993459) + (((((nI t) - ((((nI t).toUInt32 >>> ((nI 1).toUInt32 &&& Int32.toUInt32 31)).toInt32) &&& 1431655765)).toUInt32 >>> ((nI 2).toUInt32 &&& Int32.toUInt32 31)).toInt32) &&& 858993459)) + ((((((nI t) - ((((nI t).toUInt32 >>> ((nI 1).toUInt32 &&& Int32.toUInt32 31)).toInt32) &&& 1431655765)) &&& 858993459) + (((((nI t) - ((((nI t).toUInt32 >>> ((nI 1).toUInt32 &&& Int32.toUInt32 31)).toInt32) &&& 1431655765)).toUInt32 >>> ((nI 2).toUInt32 &&& Int32.toUInt32 31)).toInt32) &&& 858993459)).toUInt32 >>> ((nI 4).toUInt32 &&& Int32.toUInt32 31)).toInt32)) &&& 252645135) + ((((((((nI t) - ((((nI t).toUInt32 >>> ((nI 1).toUInt32 &&& Int32.toUInt32 31)).toInt32) &&& 1431655765)) &&& 858993459) + (((((nI t) - ((((nI t).toUInt32 >>> ((nI 1).toUInt32 &&& Int32.toUInt32 31)).toInt32) &&& 1431655765)).toUInt32 >>> ((nI 2).toUInt32 &&& Int32.toUInt32 31)).toInt32) &&& 858993459)) + ((((((nI t) - ((((nI t).toUInt32 >>> ((nI 1).toUInt32 &&& Int32.toUInt32 31)).toInt32) &&& 1431655765)) &&& 858993459) + (((((nI t) - ((((nI t).toUInt32 >>> ((nI 1).toUInt32 &&& Int32.toUInt32 31)).toInt32) &&& 1431655765)).toUInt32 >>> ((nI 2).toUInt32 &&& Int32.toUInt32 31)).toInt32) &&& 858993459)).toUInt32 >>> ((nI 4).toUInt32 &&& Int32.toUInt32 31)).toInt32)) &&& 252645135).toUInt32 >>> ((nI 8).toUInt32 &&& Int32.toUInt32 31)).toInt32)).toUInt32 >>> ((nI 16).toUInt32 &&& Int32.toUInt32 31)).toInt32)) &&& (nI 63)) F d_In_bitCount_51 rfl ?_
  exact ret _ _ _ _ _ _ () d_In_bitCount_52 rfl (by decide) (by decide) rfl (bc_fin t ht)

def rm_B_gatherBoxes : Room := { frames := 0, cells := 0, slots := 0, locals := 0 }
set_option maxHeartbeats 4000000 in
set_option maxRecDepth 100000 in
theorem ct_B_gatherBoxes (l : Launch) (D : va_G) (cA : ClassId) (b0 b1 b2 : Nat) (z : Int32) (fr cs : Nat → Int32) (p0 p1 p2 p3 : Nat) (sl tt sm : Nat → Int32) (hsl : slOk sl) : Ci (S := ((Nat → Int32) × Int32)) l y_B_gatherBoxes (Cond.code y_B_gatherBoxes c_B_gatherBoxes 3 (some .boolean) :: WD) rm_B_gatherBoxes D vwCl [(cA, .int)] nws [.ref b0, .ref p0] [(b0, .inr (1, [.ref b1, .ref b2, .int z])), (b1, .inl (cA, 6, .inl fr)), (b2, .inl (cA, 64, .inl cs)), (p0, .inr (3, [.ref p1, .ref p2, .ref p3])), (p1, .inl (cA, 20, .inl sl)), (p2, .inl (cA, 10, .inl tt)), (p3, .inl (cA, 10, .inl sm))] 0 0 (fun r u => r = bI (decide ((lyT sl 20).length ≤ 6)) ∧ ((lyT sl 20).length ≤ 6 → rowL u.1 (lyT sl 20) ∧ u.2 = nI (lyT sl 20).length)) (fun u => [(b0, .inr (1, [.ref b1, .ref b2, .int u.2])), (b1, .inl (cA, 6, .inl u.1)), (b2, .inl (cA, 64, .inl cs)), (p0, .inr (3, [.ref p1, .ref p2, .ref p3])), (p1, .inl (cA, 20, .inl sl)), (p2, .inl (cA, 10, .inl tt)), (p3, .inl (cA, 10, .inl sm))]) := by
  refine Ci.of (cc := c_B_gatherBoxes) (nL := 3) (lv := [(0, .ref b0), (1, .ref p0)]) (by decide) rfl (Nat.le_of_ble_eq_true rfl) rfl ?_
  intro p e s m args below meth cd A Q F hK hN hA ret
  refine j_aloadn F d_B_gatherBoxes_0 0 rfl rfl ?_
  refine j_iconst (v := nI 0) F d_B_gatherBoxes_1 (by decide) ?_
  refine j_put (ci := 1) (v := .int (nI 0)) (ty := .int) (ws' := [(b0, .inr (1, [.ref b1, .ref b2, .int (nI 0)])), (b1, .inl (cA, 6, .inl fr)), (b2, .inl (cA, 64, .inl cs)), (p0, .inr (3, [.ref p1, .ref p2, .ref p3])), (p1, .inl (cA, 20, .inl sl)), (p2, .inl (cA, 10, .inl tt)), (p3, .inl (cA, 10, .inl sm))]) F in_B ty_B tk_B nm_B hK 0 rfl rfl 2 (by decide) (wm k_126) rfl (by decide +kernel) rfl rfl (Nat.le_of_ble_eq_true rfl) d_B_gatherBoxes_2 rfl ?_
  refine j_iconst (v := nI 0) F d_B_gatherBoxes_5 (by decide) ?_
  refine j_istoren (lv' := [(2, .int (nI 0)), (0, .ref b0), (1, .ref p0)]) F d_B_gatherBoxes_6 rfl (by decide) rfl ?_
  have loop7 : ∀ (fuel : Nat) (b : Nat) (g : Nat → Int32) (hfuel : 20 - b < fuel) (hb : b ≤ 20) (hlen : (lyT sl b).length ≤ 6) (hg : rowL g (lyT sl b)), J p l e rm_B_gatherBoxes s m args below meth cd D vwCl A s.heap 3 0 0 Q [(b0, .inr (1, [.ref b1, .ref b2, .int (nI ((lyT sl b).length))])), (b1, .inl (cA, 6, .inl g)), (b2, .inl (cA, 64, .inl cs)), (p0, .inr (3, [.ref p1, .ref p2, .ref p3])), (p1, .inl (cA, 20, .inl sl)), (p2, .inl (cA, 10, .inl tt)), (p3, .inl (cA, 10, .inl sm))] [(0, .ref b0), (1, .ref p0), (2, .int (nI b))] 7 [] := by
    intro fuel
    induction fuel with
    | zero => intro b g hfuel; exact absurd hfuel (Nat.not_lt_zero _)
    | succ fuel ih =>
      intro b g hfuel hb hlen hg
      refine j_iloadn F d_B_gatherBoxes_7 2 rfl rfl ?_
      refine j_bipush (v := nI 20) F d_B_gatherBoxes_8 (by decide) ?_
      refine j_ic_ge (tgt := 65) F d_B_gatherBoxes_10 (by decide) (fun c_10 => ?_) (fun c_10 => ?_)
      · have c_10 : 20 ≤ b := (nI_leI (by omega) (by omega)).mp c_10
        have hin : b = 20 := by omega
        subst hin
        refine j_iconst (v := nI 1) F d_B_gatherBoxes_65 (by decide) ?_
        exact ret _ _ _ _ _ _ (g, nI (lyT sl 20).length) d_B_gatherBoxes_66 rfl (by decide) (by decide) rfl ⟨bI_t (decide_eq_true hlen), fun _ => ⟨hg, rfl⟩⟩
      · have c_10 : ¬ 20 ≤ b := fun h => c_10 ((nI_leI (by omega) (by omega)).mpr h)
        refine j_aloadn F d_B_gatherBoxes_13 1 rfl rfl ?_
        refine j_getN (ci := 3) (v := .ref p1) F in_P hK hN 3 rfl rfl 0 (by decide) n_88 rfl d_B_gatherBoxes_14 ?_
        refine j_iloadn F d_B_gatherBoxes_17 2 rfl rfl ?_
        refine j_iald (v := sl b) F hK 4 0 rfl rfl (by omega) (by decide) d_B_gatherBoxes_18 rfl ?_
        refine j_iconst (v := (-1)) F d_B_gatherBoxes_19 (by decide) ?_
        refine j_ic_eq (tgt := 59) F d_B_gatherBoxes_20 (by decide) (fun c_20 => ?_) (fun c_20 => ?_)
        · have ho : lyT sl (b + 1) = lyT sl b := lyT_f c_20
          rw [← ho] at hg hlen ⊢
          refine j_iinc (v := nI (b + 1)) (lv' := [(2, .int (nI (b + 1))), (0, .ref b0), (1, .ref p0)]) F d_B_gatherBoxes_59 2 rfl (jn_inc b) (by decide) rfl ?_
          refine j_goto (tgt := 7) F d_B_gatherBoxes_62 (by decide) ?_
          refine j_lv (lv' := [(0, .ref b0), (1, .ref p0), (2, .int (nI (b + 1)))]) [1, 2, 0] rfl ?_
          exact ih (b + 1) g (by omega) (by omega) (by omega) hg
        · refine j_aloadn F d_B_gatherBoxes_23 0 rfl rfl ?_
          refine j_get (ci := 1) (v := .int (nI ((lyT sl b).length))) F in_B hK 0 rfl rfl 2 (by decide) (wm k_126) rfl d_B_gatherBoxes_24 ?_
          refine j_bipush (v := nI 6) F d_B_gatherBoxes_27 (by decide) ?_
          refine j_ic_lt (tgt := 34) F d_B_gatherBoxes_29 (by decide) (fun c_29 => ?_) (fun c_29 => ?_)
          · have c_29 : ((lyT sl b).length) < 6 := (nI_ltI (by omega) (by omega)).mp c_29
            refine j_aloadn F d_B_gatherBoxes_34 0 rfl rfl ?_
            refine j_get (ci := 1) (v := .ref b1) F in_B hK 0 rfl rfl 0 (by decide) (wm k_124) rfl d_B_gatherBoxes_35 ?_
            refine j_aloadn F d_B_gatherBoxes_38 0 rfl rfl ?_
            refine j_get (ci := 1) (v := .int (nI ((lyT sl b).length))) F in_B hK 0 rfl rfl 2 (by decide) (wm k_126) rfl d_B_gatherBoxes_39 ?_
            refine j_aloadn F d_B_gatherBoxes_42 1 rfl rfl ?_
            refine j_getN (ci := 3) (v := .ref p1) F in_P hK hN 3 rfl rfl 0 (by decide) n_88 rfl d_B_gatherBoxes_43 ?_
            refine j_iloadn F d_B_gatherBoxes_46 2 rfl rfl ?_
            refine j_iald (v := nI (sN sl b)) F hK 4 0 rfl rfl (by omega) (by decide) d_B_gatherBoxes_47 (sN_eq hsl (by omega) c_20).1 ?_
            refine j_iast (ws' := [(b0, .inr (1, [.ref b1, .ref b2, .int (nI ((lyT sl b).length))])), (b1, .inl (cA, 6, .inl (upd g ((lyT sl b).length) (nI (sN sl b))))), (b2, .inl (cA, 64, .inl cs)), (p0, .inr (3, [.ref p1, .ref p2, .ref p3])), (p1, .inl (cA, 20, .inl sl)), (p2, .inl (cA, 10, .inl tt)), (p3, .inl (cA, 10, .inl sm))]) F hK 1 0 rfl rfl (by omega) (by decide) d_B_gatherBoxes_48 rfl ?_
            refine j_aloadn F d_B_gatherBoxes_49 0 rfl rfl ?_
            refine j_dup F d_B_gatherBoxes_50 rfl ?_
            refine j_get (ci := 1) (v := .int (nI ((lyT sl b).length))) F in_B hK 0 rfl rfl 2 (by decide) (wm k_126) rfl d_B_gatherBoxes_51 ?_
            refine j_iconst (v := nI 1) F d_B_gatherBoxes_54 (by decide) ?_
            refine j_iadd (v := nI (((lyT sl b).length) + 1)) F d_B_gatherBoxes_55 (nI_add _ _) ?_
            refine j_put (ci := 1) (v := .int (nI (((lyT sl b).length) + 1))) (ty := .int) (ws' := [(b0, .inr (1, [.ref b1, .ref b2, .int (nI (((lyT sl b).length) + 1))])), (b1, .inl (cA, 6, .inl (upd g ((lyT sl b).length) (nI (sN sl b))))), (b2, .inl (cA, 64, .inl cs)), (p0, .inr (3, [.ref p1, .ref p2, .ref p3])), (p1, .inl (cA, 20, .inl sl)), (p2, .inl (cA, 10, .inl tt)), (p3, .inl (cA, 10, .inl sm))]) F in_B ty_B tk_B nm_B hK 0 rfl rfl 2 (by decide) (wm k_126) rfl (by decide +kernel) rfl rfl (Nat.le_of_ble_eq_true rfl) d_B_gatherBoxes_56 rfl ?_
            have ho : lyT sl (b + 1) = lyT sl b ++ [sN sl b] := lyT_t c_20
            have hl1 : (lyT sl b).length + 1 = (lyT sl (b + 1)).length := by rw [ho, List.length_append]; rfl
            rw [hl1]
            have hg2 : rowL (upd g (lyT sl b).length (nI (sN sl b))) (lyT sl (b + 1)) := by rw [ho]; exact rowL_push hg
            refine j_iinc (v := nI (b + 1)) (lv' := [(2, .int (nI (b + 1))), (0, .ref b0), (1, .ref p0)]) F d_B_gatherBoxes_59 2 rfl (jn_inc b) (by decide) rfl ?_
            refine j_goto (tgt := 7) F d_B_gatherBoxes_62 (by decide) ?_
            refine j_lv (lv' := [(0, .ref b0), (1, .ref p0), (2, .int (nI (b + 1)))]) [1, 2, 0] rfl ?_
            exact ih (b + 1) (upd g (lyT sl b).length (nI (sN sl b))) (by omega) (by omega) (by omega) hg2
          · have c_29 : ¬ ((lyT sl b).length) < 6 := fun h => c_29 ((nI_ltI (by omega) (by omega)).mpr h)
            refine j_iconst (v := nI 0) F d_B_gatherBoxes_32 (by decide) ?_
            exact ret _ _ _ _ _ _ (g, nI (lyT sl b).length) d_B_gatherBoxes_33 rfl (by decide) (by decide) rfl (by
              have h7 : 7 ≤ (lyT sl 20).length := by
                have h1 := lyT_mono sl (b + 1) (20 - (b + 1))
                rw [lyT_t c_20, List.length_append, show b + 1 + (20 - (b + 1)) = 20 by omega] at h1
                simp at h1
                omega
              exact ⟨bI_f (decide_eq_false (by omega)), fun h => absurd h (by omega)⟩)
  refine j_lv (lv' := [(0, .ref b0), (1, .ref p0), (2, .int (nI 0))]) [1, 2, 0] rfl ?_
  exact loop7 (20 + 1) 0 fr (by omega) (by omega) (Nat.zero_le _) (fun j hj => absurd hj (Nat.not_lt_zero _))

def rm_B_leastFor : Room := { frames := 2, cells := 0, slots := 0, locals := 45 }
set_option maxHeartbeats 4000000 in
set_option maxRecDepth 100000 in
theorem ct_B_leastFor (l : Launch) (D : va_G) (cA : ClassId) (b0 b1 b2 : Nat) (fr cs : Nat → Int32) (F0 : List Nat) (hFr : rowL fr F0) (hF6 : F0.length ≤ 6) (hF100 : ∀ y, y ∈ F0 → y < 100) (t : Nat) (h1 : 1 ≤ t) (ht : t < 2 ^ F0.length) (hC : ∀ j, j < t → cs j = nI (cst F0 j)) : Ci (S := Unit) l y_B_leastFor (Cond.code y_B_leastFor c_B_leastFor 6 (some .int) :: WD) rm_B_leastFor D vwCl [(cA, .int)] nws [.ref b0, .int (nI t)] [(b0, .inr (1, [.ref b1, .ref b2, .int (nI F0.length)])), (b1, .inl (cA, 6, .inl fr)), (b2, .inl (cA, 64, .inl cs))] 0 0 (fun r _ => r = nI (cst F0 t)) (fun _ => [(b0, .inr (1, [.ref b1, .ref b2, .int (nI F0.length)])), (b1, .inl (cA, 6, .inl fr)), (b2, .inl (cA, 64, .inl cs))]) := by
  refine Ci.of (cc := c_B_leastFor) (nL := 6) (lv := [(0, .ref b0), (1, .int (nI t))]) (by decide) rfl (Nat.le_of_ble_eq_true rfl) rfl ?_
  intro p e s m args below meth cd A Q F hK hN hA ret
  have hpw := pow_le F0.length (by omega)
  have ht64 : t < 64 := by omega
  have hpf := pop_facts F0.length (by omega) t ht
  have hpf1 := hpf.1
  have hpf2 := hpf.2 h1
  refine j_iloadn F d_B_leastFor_0 1 rfl rfl ?_
  refine j_goi (wc := []) (wr := [(b0, .inr (1, [.ref b1, .ref b2, .int (nI F0.length)])), (b1, .inl (cA, 6, .inl fr)), (b2, .inl (cA, 64, .inl cs))]) hA [] [0, 1, 2] rfl rfl (by decide) (by decide) (fun H locs ls hP hD hl => va_runS (As := [.int (nI t)]) (rest := []) F (ct_In_bitCount l D cA t (by omega) H.size) ⟨callB_of 1 F.2.2.2.2 (gd k_416) rfl rfl rfl (F.2.2.2.2 _ (wm k_14)) (F.2.2.2.2 _ (wm k_414)) (by decide +kernel) ⟨by decide, by decide⟩, F.2.2.2.2 _ (wm k_415)⟩ (pre_S hK hN hP hD [] rfl (by decide)) rfl rfl hl.1 rfl (lv_room (Nat.le_of_ble_eq_true rfl)) d_B_leastFor_1 ⟨by decide, by decide⟩) (fun r1 u1 hw1 => ?_)
  subst hw1
  refine j_ws (ws' := [(b0, .inr (1, [.ref b1, .ref b2, .int (nI F0.length)])), (b1, .inl (cA, 6, .inl fr)), (b2, .inl (cA, 64, .inl cs))]) [0, 1, 2] (by decide) rfl ?_
  refine j_iconst (v := nI 1) F d_B_leastFor_4 (by decide) ?_
  refine j_isub (v := nI ((pop t) - 1)) F d_B_leastFor_5 (pk_sub (by omega)) ?_
  refine j_istoren (lv' := [(2, .int (nI ((pop t) - 1))), (0, .ref b0), (1, .int (nI t))]) F d_B_leastFor_6 rfl (by decide) rfl ?_
  refine j_ldc (v := 2147483647) F (wm k_420) d_B_leastFor_7 ?_
  refine j_top (y := nI 2147483647) (by decide) ?_
  refine j_istoren (lv' := [(3, .int (nI 2147483647)), (2, .int (nI ((pop t) - 1))), (0, .ref b0), (1, .int (nI t))]) F d_B_leastFor_9 rfl (by decide) rfl ?_
  refine j_iconst (v := nI 0) F d_B_leastFor_10 (by decide) ?_
  refine j_istore (lv' := [(4, .int (nI 0)), (3, .int (nI 2147483647)), (2, .int (nI ((pop t) - 1))), (0, .ref b0), (1, .int (nI t))]) F d_B_leastFor_11 (by decide) rfl ?_
  have loop13 : ∀ (fuel : Nat) (s0 : Nat) (hfuel : F0.length - s0 < fuel) (hs : s0 ≤ F0.length), J p l e rm_B_leastFor s m args below meth cd D vwCl A s.heap 6 0 0 Q [(b0, .inr (1, [.ref b1, .ref b2, .int (nI F0.length)])), (b1, .inl (cA, 6, .inl fr)), (b2, .inl (cA, 64, .inl cs))] [(0, .ref b0), (1, .int (nI t)), (2, .int (nI ((pop t) - 1))), (3, .int (nI (bstT F0 (cst F0) t s0))), (4, .int (nI s0))] 13 [] := by
    intro fuel
    induction fuel with
    | zero => intro s0 hfuel; exact absurd hfuel (Nat.not_lt_zero _)
    | succ fuel ih =>
      intro s0 hfuel hs
      refine j_iload F d_B_leastFor_13 4 rfl ?_
      refine j_aloadn F d_B_leastFor_15 0 rfl rfl ?_
      refine j_get (ci := 1) (v := .int (nI F0.length)) F in_B hK 0 rfl rfl 2 (by decide) (wm k_126) rfl d_B_leastFor_16 ?_
      refine j_ic_ge (tgt := 67) F d_B_leastFor_19 (by decide) (fun c_19 => ?_) (fun c_19 => ?_)
      · have c_19 : F0.length ≤ s0 := (nI_leI (by omega) (by omega)).mp c_19
        have hin : s0 = F0.length := by omega
        subst hin
        refine j_iloadn F d_B_leastFor_67 3 rfl rfl ?_
        exact ret _ _ _ _ _ _ () d_B_leastFor_68 rfl (by decide) (by decide) rfl (by rw [cst_s h1 ht64 hF6])
      · have c_19 : ¬ F0.length ≤ s0 := fun h => c_19 ((nI_leI (by omega) (by omega)).mpr h)
        have hs6 : s0 < 6 := by omega
        have hbt := bit_test t ht64 s0 hs6
        refine j_iconst (v := nI 1) F d_B_leastFor_22 (by decide) ?_
        refine j_iload F d_B_leastFor_23 4 rfl ?_
        refine j_ishl (v := nI (2 ^ s0)) F d_B_leastFor_25 (bit_shl s0 (by omega)) ?_
        refine j_istore (lv' := [(5, .int (nI (2 ^ s0))), (0, .ref b0), (1, .int (nI t)), (2, .int (nI ((pop t) - 1))), (3, .int (nI (bstT F0 (cst F0) t s0))), (4, .int (nI s0))]) F d_B_leastFor_26 (by decide) rfl ?_
        refine j_iloadn F d_B_leastFor_28 2 rfl rfl ?_
        refine j_iload F d_B_leastFor_29 0 rfl ?_
        refine j_iand (v := nI (t &&& 2 ^ s0)) F d_B_leastFor_31 (bit_and t ht64 s0 hs6) ?_
        refine j_if_eq (tgt := 61) F d_B_leastFor_32 (by decide) (fun c_32 => ?_) (fun c_32 => ?_)
        · have c_32 : (t &&& 2 ^ s0) = 0 := (nI_eq (by omega) (by omega)).mp c_32
          have hb0 := hbt.2.1 c_32
          have ho := bstT_f (F := F0) (C := cst F0) hb0
          rw [← ho]
          refine j_iinc (v := nI (s0 + 1)) (lv' := [(4, .int (nI (s0 + 1))), (5, .int (nI (2 ^ s0))), (0, .ref b0), (1, .int (nI t)), (2, .int (nI ((pop t) - 1))), (3, .int (nI (bstT F0 (cst F0) t (s0 + 1))))]) F d_B_leastFor_61 5 rfl (jn_inc s0) (by decide) rfl ?_
          refine j_goto (tgt := 13) F d_B_leastFor_64 (by decide) ?_
          refine j_lv (lv' := [(0, .ref b0), (1, .int (nI t)), (2, .int (nI ((pop t) - 1))), (3, .int (nI (bstT F0 (cst F0) t (s0 + 1)))), (4, .int (nI (s0 + 1)))]) [2, 3, 4, 5, 0] rfl ?_
          exact ih (s0 + 1) (by omega) (by omega)
        · have c_32 : ¬ (t &&& 2 ^ s0) = 0 := fun h => c_32 ((nI_eq (by omega) (by omega)).mpr h)
          have hb1 := hbt.2.2 c_32
          have hbl := bit_less t ht64 s0 hs6 hb1
          have hcl := cst_le hF6 hF100 (t ^^^ 2 ^ s0) (by omega)
          have hF1 : F0.getD (pop t - 1) 0 < 100 := hF100 _ (getD_mem (by omega))
          have hd18 := dst_le (s := F0.getD (pop t - 1) 0) (t := s0) hF1 (by omega)
          have hbs := bstT_le F0 (cst F0) t s0
          refine j_iloadn F d_B_leastFor_35 4 rfl rfl ?_
          refine j_aloadn F d_B_leastFor_36 1 rfl rfl ?_
          refine j_get (ci := 1) (v := .ref b2) F in_B hK 0 rfl rfl 1 (by decide) (wm k_125) rfl d_B_leastFor_37 ?_
          refine j_iloadn F d_B_leastFor_40 2 rfl rfl ?_
          refine j_iload F d_B_leastFor_41 0 rfl ?_
          refine j_ixor (v := nI (t ^^^ 2 ^ s0)) F d_B_leastFor_43 (bit_xor t ht64 s0 hs6) ?_
          refine j_iald (v := nI (cst F0 (t ^^^ 2 ^ s0))) F hK 2 0 rfl rfl (by omega) (by decide) d_B_leastFor_44 (hC _ hbl.1) ?_
          refine j_aloadn F d_B_leastFor_45 1 rfl rfl ?_
          refine j_get (ci := 1) (v := .ref b1) F in_B hK 0 rfl rfl 0 (by decide) (wm k_124) rfl d_B_leastFor_46 ?_
          refine j_iloadn F d_B_leastFor_49 3 rfl rfl ?_
          refine j_iald (v := nI (F0.getD (pop t - 1) 0)) F hK 1 0 rfl rfl (by omega) (by decide) d_B_leastFor_50 (hFr _ (by omega)) ?_
          refine j_iload F d_B_leastFor_51 5 rfl ?_
          refine j_goi (wc := []) (wr := [(b0, .inr (1, [.ref b1, .ref b2, .int (nI F0.length)])), (b1, .inl (cA, 6, .inl fr)), (b2, .inl (cA, 64, .inl cs))]) hA [] [0, 1, 2] rfl rfl (by decide) (by decide) (fun H locs ls hP hD hl => va_runSN (As := [.int (nI (F0.getD (pop t - 1) 0)), .int (nI s0)]) (rest := [.int (nI (cst F0 (t ^^^ 2 ^ s0))), .int (nI (bstT F0 (cst F0) t s0))]) F (ct_X_distance l D cA (F0.getD (pop t - 1) 0) s0 (by omega) (by omega) H.size) ⟨va_cnB 2 F.2.2.2.2 (gd k_391) rfl rfl rfl (hN _ n_421).1 (F.2.2.2.2 _ (wm k_1)) (by decide +kernel) ⟨by decide, by decide⟩, F.2.2.2.2 _ (wm k_390), trivial⟩ (pre_S hK hN hP hD [] rfl (by decide)) rfl rfl hl.1 rfl (lv_room (Nat.le_of_ble_eq_true rfl)) d_B_leastFor_53 ⟨by decide, by decide⟩) (fun r53 u53 hw53 => ?_)
          subst hw53
          refine j_ws (ws' := [(b0, .inr (1, [.ref b1, .ref b2, .int (nI F0.length)])), (b1, .inl (cA, 6, .inl fr)), (b2, .inl (cA, 64, .inl cs))]) [0, 1, 2] (by decide) rfl ?_
          refine j_iadd (v := nI ((cst F0 (t ^^^ 2 ^ s0)) + (dst (F0.getD (pop t - 1) 0) s0))) F d_B_leastFor_56 (nI_add _ _) ?_
          refine j_mmin (v := nI (bstT F0 (cst F0) t (s0 + 1))) F (wm k_422) (wm k_380) (wm k_13) (wm k_381) (by decide) (Nat.le_of_ble_eq_true rfl) (by decide) (by decide) d_B_leastFor_57 (by rw [bstT_t hb1]; exact jn_min (by omega) (by omega)) ?_
          refine j_istoren (lv' := [(3, .int (nI (bstT F0 (cst F0) t (s0 + 1)))), (5, .int (nI (2 ^ s0))), (0, .ref b0), (1, .int (nI t)), (2, .int (nI ((pop t) - 1))), (4, .int (nI s0))]) F d_B_leastFor_60 rfl (by decide) rfl ?_
          refine j_iinc (v := nI (s0 + 1)) (lv' := [(4, .int (nI (s0 + 1))), (3, .int (nI (bstT F0 (cst F0) t (s0 + 1)))), (5, .int (nI (2 ^ s0))), (0, .ref b0), (1, .int (nI t)), (2, .int (nI ((pop t) - 1)))]) F d_B_leastFor_61 5 rfl (jn_inc s0) (by decide) rfl ?_
          refine j_goto (tgt := 13) F d_B_leastFor_64 (by decide) ?_
          refine j_lv (lv' := [(0, .ref b0), (1, .int (nI t)), (2, .int (nI ((pop t) - 1))), (3, .int (nI (bstT F0 (cst F0) t (s0 + 1)))), (4, .int (nI (s0 + 1)))]) [3, 4, 5, 1, 0] rfl ?_
          exact ih (s0 + 1) (by omega) (by omega)
  refine j_lv (lv' := [(0, .ref b0), (1, .int (nI t)), (2, .int (nI ((pop t) - 1))), (3, .int (nI 2147483647)), (4, .int (nI 0))]) [3, 4, 2, 1, 0] rfl ?_
  exact loop13 (F0.length + 1) 0 (by omega) (by omega)

def rm_B_leastWay : Room := { frames := 3, cells := 0, slots := 0, locals := 70 }
set_option maxHeartbeats 4000000 in
set_option maxRecDepth 100000 in
theorem ct_B_leastWay (l : Launch) (D : va_G) (cA : ClassId) (b0 b1 b2 : Nat) (z : Int32) (fr cs : Nat → Int32) (p0 p1 p2 p3 : Nat) (sl tt sm : Nat → Int32) (hsl : slOk sl) : Ci (S := (((Nat → Int32) × (Nat → Int32)) × Int32)) l y_B_leastWay (Cond.code y_B_leastWay c_B_leastWay 4 (some .int) :: WD) rm_B_leastWay D vwCl [(cA, .int)] nws [.ref b0, .ref p0] [(b0, .inr (1, [.ref b1, .ref b2, .int z])), (b1, .inl (cA, 6, .inl fr)), (b2, .inl (cA, 64, .inl cs)), (p0, .inr (3, [.ref p1, .ref p2, .ref p3])), (p1, .inl (cA, 20, .inl sl)), (p2, .inl (cA, 10, .inl tt)), (p3, .inl (cA, 10, .inl sm))] 0 0 (fun r _ => r = lstP sl) (fun u => [(b0, .inr (1, [.ref b1, .ref b2, .int u.2])), (b1, .inl (cA, 6, .inl u.1.1)), (b2, .inl (cA, 64, .inl u.1.2)), (p0, .inr (3, [.ref p1, .ref p2, .ref p3])), (p1, .inl (cA, 20, .inl sl)), (p2, .inl (cA, 10, .inl tt)), (p3, .inl (cA, 10, .inl sm))]) := by
  refine Ci.of (cc := c_B_leastWay) (nL := 4) (lv := [(0, .ref b0), (1, .ref p0)]) (by decide) rfl (Nat.le_of_ble_eq_true rfl) rfl ?_
  intro p e s m args below meth cd A Q F hK hN hA ret
  refine j_aloadn F d_B_leastWay_0 0 rfl rfl ?_
  refine j_aloadn F d_B_leastWay_1 1 rfl rfl ?_
  refine j_goi (wc := [(b0, .inr (1, [.ref b1, .ref b2, .int z])), (b1, .inl (cA, 6, .inl fr)), (b2, .inl (cA, 64, .inl cs)), (p0, .inr (3, [.ref p1, .ref p2, .ref p3])), (p1, .inl (cA, 20, .inl sl)), (p2, .inl (cA, 10, .inl tt)), (p3, .inl (cA, 10, .inl sm))]) (wr := []) hA [0, 1, 2, 3, 4, 5, 6] [] rfl rfl (by decide) (by decide) (fun H locs ls hP hD hl => va_runV (As := [.ref p0]) (rest := []) F (ct_B_gatherBoxes l D cA b0 b1 b2 z fr cs p0 p1 p2 p3 sl tt sm hsl H.size) ⟨callB_of 1 F.2.2.2.2 (gd k_409) rfl rfl rfl (F.2.2.2.2 _ (wm k_6)) (F.2.2.2.2 _ (wm k_406)) (by decide +kernel) ⟨by decide, by decide⟩, F.2.2.2.2 _ (wm k_408), F.2.2.2.2 _ (wm ks_22)⟩ (pre_V rfl hK hN hP hD [0, 1, 2, 3, 4, 5, 6] rfl (by decide) 0 rfl rfl) rfl rfl hl.1 rfl (lv_room (Nat.le_of_ble_eq_true rfl)) d_B_leastWay_2 ⟨by decide, by decide⟩) (fun r2 u2 hw2 => ?_)
  obtain ⟨hwa, hwb⟩ := hw2
  subst hwa
  refine j_ws (ws' := [(b0, .inr (1, [.ref b1, .ref b2, .int u2.2])), (b1, .inl (cA, 6, .inl u2.1)), (b2, .inl (cA, 64, .inl cs)), (p0, .inr (3, [.ref p1, .ref p2, .ref p3])), (p1, .inl (cA, 20, .inl sl)), (p2, .inl (cA, 10, .inl tt)), (p3, .inl (cA, 10, .inl sm))]) [0, 1, 2, 3, 4, 5, 6] (by decide) rfl ?_
  refine j_if_ne (tgt := 10) F d_B_leastWay_5 (by decide) (fun c_5 => ?_) (fun c_5 => ?_)
  · have hle : (lyT sl 20).length ≤ 6 := of_decide_eq_true (bI_1 c_5)
    obtain ⟨hFr, hsz⟩ := hwb hle
    have hF100 := lyT_lt hsl (b := 20) (Nat.le_refl _)
    obtain ⟨F1, hF1⟩ : ∃ F1, F1 = lyT sl 20 := ⟨_, rfl⟩
    rw [← hF1] at hle hFr hsz hF100
    rw [hsz]
    have hpw := pow_le F1.length (by omega)
    refine j_iconst (v := nI 1) F d_B_leastWay_10 (by decide) ?_
    refine j_aloadn F d_B_leastWay_11 0 rfl rfl ?_
    refine j_get (ci := 1) (v := .int (nI F1.length)) F in_B hK 0 rfl rfl 2 (by decide) (wm k_126) rfl d_B_leastWay_12 ?_
    refine j_ishl (v := nI (2 ^ F1.length)) F d_B_leastWay_15 (bit_shl F1.length (by omega)) ?_
    refine j_iconst (v := nI 1) F d_B_leastWay_16 (by decide) ?_
    refine j_isub (v := nI ((2 ^ F1.length) - 1)) F d_B_leastWay_17 (pk_sub (by omega)) ?_
    refine j_istoren (lv' := [(2, .int (nI ((2 ^ F1.length) - 1))), (0, .ref b0), (1, .ref p0)]) F d_B_leastWay_18 rfl (by decide) rfl ?_
    refine j_aloadn F d_B_leastWay_19 1 rfl rfl ?_
    refine j_get (ci := 1) (v := .ref b2) F in_B hK 0 rfl rfl 1 (by decide) (wm k_125) rfl d_B_leastWay_20 ?_
    refine j_iconst (v := nI 0) F d_B_leastWay_23 (by decide) ?_
    refine j_iconst (v := nI 0) F d_B_leastWay_24 (by decide) ?_
    refine j_iast (ws' := [(b0, .inr (1, [.ref b1, .ref b2, .int (nI F1.length)])), (b1, .inl (cA, 6, .inl u2.1)), (b2, .inl (cA, 64, .inl (upd cs 0 (nI 0)))), (p0, .inr (3, [.ref p1, .ref p2, .ref p3])), (p1, .inl (cA, 20, .inl sl)), (p2, .inl (cA, 10, .inl tt)), (p3, .inl (cA, 10, .inl sm))]) F hK 2 0 rfl rfl (by omega) (by decide) d_B_leastWay_25 rfl ?_
    refine j_iconst (v := nI 1) F d_B_leastWay_26 (by decide) ?_
    refine j_istoren (lv' := [(3, .int (nI 1)), (2, .int (nI ((2 ^ F1.length) - 1))), (0, .ref b0), (1, .ref p0)]) F d_B_leastWay_27 rfl (by decide) rfl ?_
    have loop28 : ∀ (fuel : Nat) (t : Nat) (g : Nat → Int32) (hfuel : 2 ^ F1.length - t < fuel) (ht1 : 1 ≤ t) (ht2 : t ≤ 2 ^ F1.length) (hC : ∀ j, j < t → g j = nI (cst F1 j)), J p l e rm_B_leastWay s m args below meth cd D vwCl A s.heap 4 0 0 Q [(b0, .inr (1, [.ref b1, .ref b2, .int (nI F1.length)])), (b1, .inl (cA, 6, .inl u2.1)), (b2, .inl (cA, 64, .inl g)), (p0, .inr (3, [.ref p1, .ref p2, .ref p3])), (p1, .inl (cA, 20, .inl sl)), (p2, .inl (cA, 10, .inl tt)), (p3, .inl (cA, 10, .inl sm))] [(0, .ref b0), (1, .ref p0), (2, .int (nI ((2 ^ F1.length) - 1))), (3, .int (nI t))] 28 [] := by
      intro fuel
      induction fuel with
      | zero => intro t g hfuel; exact absurd hfuel (Nat.not_lt_zero _)
      | succ fuel ih =>
        intro t g hfuel ht1 ht2 hC
        refine j_iloadn F d_B_leastWay_28 3 rfl rfl ?_
        refine j_iloadn F d_B_leastWay_29 2 rfl rfl ?_
        refine j_ic_gt (tgt := 50) F d_B_leastWay_30 (by decide) (fun c_30 => ?_) (fun c_30 => ?_)
        · have c_30 : ((2 ^ F1.length) - 1) < t := (nI_ltI (by omega) (by omega)).mp c_30
          refine j_aloadn F d_B_leastWay_50 0 rfl rfl ?_
          refine j_get (ci := 1) (v := .ref b2) F in_B hK 0 rfl rfl 1 (by decide) (wm k_125) rfl d_B_leastWay_51 ?_
          refine j_iloadn F d_B_leastWay_54 2 rfl rfl ?_
          refine j_iald (v := nI (cst F1 (2 ^ F1.length - 1))) F hK 2 0 rfl rfl (by omega) (by decide) d_B_leastWay_55 (hC _ (by omega)) ?_
          exact ret _ _ _ _ _ _ ((u2.1, g), nI F1.length) d_B_leastWay_56 rfl (by decide) (by decide) rfl (by subst hF1; unfold lstP; rw [if_pos hle])
        · have c_30 : ¬ ((2 ^ F1.length) - 1) < t := fun h => c_30 ((nI_ltI (by omega) (by omega)).mpr h)
          refine j_aloadn F d_B_leastWay_33 0 rfl rfl ?_
          refine j_get (ci := 1) (v := .ref b2) F in_B hK 0 rfl rfl 1 (by decide) (wm k_125) rfl d_B_leastWay_34 ?_
          refine j_iloadn F d_B_leastWay_37 3 rfl rfl ?_
          refine j_aloadn F d_B_leastWay_38 0 rfl rfl ?_
          refine j_iloadn F d_B_leastWay_39 3 rfl rfl ?_
          refine j_goi (wc := [(b0, .inr (1, [.ref b1, .ref b2, .int (nI F1.length)])), (b1, .inl (cA, 6, .inl u2.1)), (b2, .inl (cA, 64, .inl g))]) (wr := [(p0, .inr (3, [.ref p1, .ref p2, .ref p3])), (p1, .inl (cA, 20, .inl sl)), (p2, .inl (cA, 10, .inl tt)), (p3, .inl (cA, 10, .inl sm))]) hA [0, 1, 2] [3, 4, 5, 6] rfl rfl (by decide) (by decide) (fun H locs ls hP hD hl => va_runV (As := [.int (nI t)]) (rest := [.int (nI t), .ref b2]) F (ct_B_leastFor l D cA b0 b1 b2 u2.1 g F1 hFr hle hF100 t (by omega) (by omega) hC H.size) ⟨callB_of 1 F.2.2.2.2 (gd k_413) rfl rfl rfl (F.2.2.2.2 _ (wm k_6)) (F.2.2.2.2 _ (wm k_410)) (by decide +kernel) ⟨by decide, by decide⟩, F.2.2.2.2 _ (wm k_412), F.2.2.2.2 _ (wm ks_23)⟩ (pre_V rfl hK hN hP hD [0, 1, 2] rfl (by decide) 0 rfl rfl) rfl rfl hl.1 rfl (lv_room (Nat.le_of_ble_eq_true rfl)) d_B_leastWay_40 ⟨by decide, by decide⟩) (fun r40 u40 hw40 => ?_)
          subst hw40
          refine j_ws (ws' := [(b0, .inr (1, [.ref b1, .ref b2, .int (nI F1.length)])), (b1, .inl (cA, 6, .inl u2.1)), (b2, .inl (cA, 64, .inl g)), (p0, .inr (3, [.ref p1, .ref p2, .ref p3])), (p1, .inl (cA, 20, .inl sl)), (p2, .inl (cA, 10, .inl tt)), (p3, .inl (cA, 10, .inl sm))]) [4, 5, 6, 0, 1, 2, 3] (by decide) rfl ?_
          refine j_iast (ws' := [(b0, .inr (1, [.ref b1, .ref b2, .int (nI F1.length)])), (b1, .inl (cA, 6, .inl u2.1)), (b2, .inl (cA, 64, .inl (upd g t (nI (cst F1 t))))), (p0, .inr (3, [.ref p1, .ref p2, .ref p3])), (p1, .inl (cA, 20, .inl sl)), (p2, .inl (cA, 10, .inl tt)), (p3, .inl (cA, 10, .inl sm))]) F hK 2 0 rfl rfl (by omega) (by decide) d_B_leastWay_43 rfl ?_
          refine j_iinc (v := nI (t + 1)) (lv' := [(3, .int (nI (t + 1))), (0, .ref b0), (1, .ref p0), (2, .int (nI ((2 ^ F1.length) - 1)))]) F d_B_leastWay_44 3 rfl (jn_inc t) (by decide) rfl ?_
          refine j_goto (tgt := 28) F d_B_leastWay_47 (by decide) ?_
          refine j_lv (lv' := [(0, .ref b0), (1, .ref p0), (2, .int (nI ((2 ^ F1.length) - 1))), (3, .int (nI (t + 1)))]) [1, 2, 3, 0] rfl ?_
          exact ih (t + 1) (upd g t (nI (cst F1 t))) (by omega) (by omega) (by omega) (fun j hj => by
            by_cases e1 : j = t
            · rw [e1, upd_eq]
            · rw [upd_ne e1]; exact hC j (by omega))
    refine j_lv (lv' := [(0, .ref b0), (1, .ref p0), (2, .int (nI ((2 ^ F1.length) - 1))), (3, .int (nI 1))]) [2, 3, 1, 0] rfl ?_
    exact loop28 (2 ^ F1.length + 1) 1 (upd cs 0 (nI 0)) (by omega) (by omega) (by omega) (fun j hj => by
      have hj0 : j = 0 := by omega
      subst hj0; rw [upd_eq]; rfl)
  · refine j_iconst (v := (-1)) F d_B_leastWay_8 (by decide) ?_
    exact ret _ _ _ _ _ _ ((u2.1, cs), u2.2) d_B_leastWay_9 rfl (by decide) (by decide) rfl (by unfold lstP; rw [if_neg (of_decide_eq_false (bI_0 c_5))])
end
section
/-! boxes lie at slots 0 .. 99, no two at one -/
theorem stS_ok {X : AF} {e : Nat} {sl : Nat → Int32} (hk : aok1 X e) (h : slOk sl) : slOk (stS X e sl) := by
  by_cases h0 : X 0 e = nI 0
  · obtain ⟨⟨a, ha, ea⟩, b, hb, eb⟩ := aok_0 hk h0
    cases hf : freeB sl (X 2 e)
    · rw [stS_0f h0 hf]; exact h
    · rw [stS_0t h0 ea ha hf]
      intro i hi
      by_cases e1 : i = a
      · rw [e1, upd_eq]; exact Or.inr ⟨b, hb, eb⟩
      · rw [upd_ne e1]; exact h i hi
  · by_cases h1 : X 0 e = nI 1
    · obtain ⟨a, ha, ea⟩ := aok_1 hk h1
      rw [stS_1 h1 ea ha]
      intro i hi
      by_cases e1 : i = a
      · rw [e1, upd_eq]; exact Or.inl rfl
      · rw [upd_ne e1]; exact h i hi
    · rw [stS_n h0 h1]; exact h
def slInj (sl : Nat → Int32) : Prop := ∀ i j, i < 20 → j < 20 → sl i = sl j → sl i = -1 ∨ i = j
theorem freeB_ne {sl : Nat → Int32} {x : Int32} (h : freeB sl x = true) {i : Nat} (hi : i < 20) : ¬ sl i = x := fun e => by
  rw [freeB_f hi e] at h
  exact Bool.false_ne_true h
theorem stS_inj {X : AF} {e : Nat} {sl : Nat → Int32} (hk : aok1 X e) (h : slInj sl) : slInj (stS X e sl) := by
  by_cases h0 : X 0 e = nI 0
  · obtain ⟨⟨a, ha, ea⟩, b, hb, eb⟩ := aok_0 hk h0
    cases hf : freeB sl (X 2 e)
    · rw [stS_0f h0 hf]; exact h
    · rw [stS_0t h0 ea ha hf]
      intro i j hi hj e1
      by_cases ei : i = a
      · by_cases ej : j = a
        · exact Or.inr (ei.trans ej.symm)
        · rw [ei, upd_eq, upd_ne ej] at e1
          exact absurd e1.symm (freeB_ne hf hj)
      · by_cases ej : j = a
        · rw [ej, upd_eq, upd_ne ei] at e1
          exact absurd e1 (freeB_ne hf hi)
        · rw [upd_ne ei, upd_ne ej] at e1
          rw [upd_ne ei]
          exact h i j hi hj e1
  · by_cases h1 : X 0 e = nI 1
    · obtain ⟨a, ha, ea⟩ := aok_1 hk h1
      rw [stS_1 h1 ea ha]
      intro i j hi hj e1
      by_cases ei : i = a
      · rw [ei, upd_eq]; exact Or.inl rfl
      · by_cases ej : j = a
        · rw [ej, upd_eq] at e1
          exact Or.inl e1
        · rw [upd_ne ei, upd_ne ej] at e1
          rw [upd_ne ei]
          exact h i j hi hj e1
    · rw [stS_n h0 h1]; exact h
theorem slT_ok {X : AF} {n : Nat} (hA : aok X n) {L : List Nat} (hm : ∀ i, i < L.length → L.getD i 0 < n) (i : Nat) (hi : i ≤ L.length) : slOk (slT X L i) ∧ slInj (slT X L i) := by
  induction i with
  | zero => exact ⟨fun b _ => Or.inl rfl, fun i j _ _ _ => Or.inl rfl⟩
  | succ i ih =>
    have h := ih (by omega)
    have hk := hA.2 _ (hm i (by omega))
    exact ⟨stS_ok hk h.1, stS_inj hk h.2⟩
theorem ordL_lt {X : AF} {n : Nat} {t k : Int32} : ∀ i, i < (ordL X n t k).length → (ordL X n t k).getD i 0 < n := fun _ h => ordTo_lt h
theorem ordL_len {X : AF} {n : Nat} {t k : Int32} : (ordL X n t k).length ≤ n := ordTo_len X n t k n
theorem slP_ok {X : AF} {n : Nat} (hA : aok X n) (t k : Int32) : slOk (slP X n t k) := (slT_ok hA ordL_lt _ (Nat.le_refl _)).1
theorem slP_inj {X : AF} {n : Nat} (hA : aok X n) (t k : Int32) : slInj (slP X n t k) := (slT_ok hA ordL_lt _ (Nat.le_refl _)).2
/-- which box lies at a slot is one answer -/
theorem bxP_one {sl : Nat → Int32} {x r r2 : Int32} (hi : slInj sl) (hx : ¬ x = -1) (h : bxP sl x r) (h2 : bxP sl x r2) : r = r2 := by
  rcases h with h | ⟨b, hb, e, hs⟩
  · rcases h2 with h2 | ⟨c, hc, e2, hs2⟩
    · rw [h.1, h2.1]
    · exact absurd hs2 (h.2 c hc)
  · rcases h2 with h2 | ⟨c, hc, e2, hs2⟩
    · exact absurd hs (h2.2 b hb)
    · rcases hi b c hb hc (hs.trans hs2.symm) with h3 | h3
      · rw [hs] at h3; exact absurd h3 hx
      · rw [e, e2, h3]
def aptP (sl : Nat → Int32) (b c : Nat) : Int32 := if sl b = -1 ∨ sl c = -1 then -1 else nI (dst (sN sl b) (sN sl c))
def quoP (X : AF) (n : Nat) (t k : Int32) : Nat → Int32 := (saT X (asksL X (ordL X n t k)) (asksL X (ordL X n t k)).length).2
def cntP (X : AF) (n : Nat) (now rf w : Int32) : Int32 := if w = nI 0 then nI n else if w = nI 1 then now else if w = nI 2 then rf else if w = nI 3 then nI (cntB (fun j => vdB X n j now) n) else -1
def lkP (X : AF) (n : Nat) (now : Int32) (e : Nat) (w : Int32) : Int32 := if w = nI 0 then X 0 e else if w = nI 1 then X 1 e else if w = nI 2 then X 2 e else if w = nI 3 then X 3 e else if w = nI 4 then X 4 e else bI (vdB X n e now)
def chgP (X : AF) (n : Nat) (t k o : Int32) : Int32 := nI (cntB (difS (slP X n t k) (slP X n t o)) 20 + cntB (difD (ttP X n t k) (ttP X n t o) (smP X n t k) (smP X n t o)) 10)
/-! the words of a throw -/
def nmE : List String := ["java/lang/RuntimeException", "java/lang/Exception"]
theorem atA0 : ∀ w ∈ (vx_atS R_X 156 "java/lang/IllegalArgumentException" nmE).filter goodWord, w ∈ lw_tbl := by decide +kernel
theorem atI0 : ∀ w ∈ (vx_atS R_X 117 "java/lang/IndexOutOfBoundsException" nmE).filter goodWord, w ∈ lw_tbl := by decide +kernel
theorem gdA : ∀ w ∈ Cond.classLink R_X 152 "java/lang/IllegalArgumentException" :: Cond.initialized "java/lang/IllegalArgumentException" :: vx_atS R_X 156 "java/lang/IllegalArgumentException" nmE, vx_ot w = true := by decide +kernel
theorem gdI : ∀ w ∈ Cond.classLink R_X 113 "java/lang/IndexOutOfBoundsException" :: Cond.initialized "java/lang/IndexOutOfBoundsException" :: vx_atS R_X 117 "java/lang/IndexOutOfBoundsException" nmE, vx_ot w = true := by decide +kernel
theorem bdA : ∀ w ∈ (vx_atS R_X 156 "java/lang/IllegalArgumentException" nmE).filter (fun w => !goodWord w), w ∈ [Cond.castable "java/lang/IllegalArgumentException" "java/lang/IllegalArgumentException", Cond.declares ⟨"java/lang/RuntimeException", "<init>", "(Ljava/lang/String;)V"⟩, Cond.declares ⟨"java/lang/Exception", "<init>", "(Ljava/lang/String;)V"⟩, Cond.declares ⟨"java/lang/Throwable", "<init>", "(Ljava/lang/String;)V"⟩] := by decide +kernel
theorem bdI : ∀ w ∈ (vx_atS R_X 117 "java/lang/IndexOutOfBoundsException" nmE).filter (fun w => !goodWord w), w ∈ [Cond.castable "java/lang/IndexOutOfBoundsException" "java/lang/IndexOutOfBoundsException", Cond.declares ⟨"java/lang/RuntimeException", "<init>", "(Ljava/lang/String;)V"⟩, Cond.declares ⟨"java/lang/Exception", "<init>", "(Ljava/lang/String;)V"⟩, Cond.declares ⟨"java/lang/Throwable", "<init>", "(Ljava/lang/String;)V"⟩] := by decide +kernel
theorem hatA {s : State} {args : Array Value} {x : Cond} (hts : ∀ w ∈ x :: WD, w.before args s = true) (hN : NWs nws s) : ∀ w ∈ vx_atS R_X 156 "java/lang/IllegalArgumentException" nmE, w.before args s = true :=
  vx_hat (fun w hw => hts w (wm (List.mem_filter.mpr ⟨atA0 w hw, (List.mem_filter.mp hw).2⟩))) bdA (vx_c (va_Nw.use rfl (hN _ n_218).1) (vx_c (va_Nw.use rfl (hN _ n_220).1) (vx_c (va_Nw.use rfl (hN _ n_222).1) (vx_c (va_Nw.use rfl (hN _ n_224).1) vx_n))))
theorem hatI {s : State} {args : Array Value} {x : Cond} (hts : ∀ w ∈ x :: WD, w.before args s = true) (hN : NWs nws s) : ∀ w ∈ vx_atS R_X 117 "java/lang/IndexOutOfBoundsException" nmE, w.before args s = true :=
  vx_hat (fun w hw => hts w (wm (List.mem_filter.mpr ⟨atI0 w hw, (List.mem_filter.mp hw).2⟩))) bdI (vx_c (va_Nw.use rfl (hN _ n_434).1) (vx_c (va_Nw.use rfl (hN _ n_220).1) (vx_c (va_Nw.use rfl (hN _ n_222).1) (vx_c (va_Nw.use rfl (hN _ n_224).1) vx_n))))
end
section
theorem has_of {n e : Nat} (h : e < n) (hn : n < 2147483648) : hasB n (nI e) = true := by
  unfold hasB
  rw [decide_eq_true (nI_le (Nat.zero_le e) (by omega)), decide_eq_true ((nI_ltI (by omega) hn).mpr h)]; rfl
theorem win_of {x : Int32} {j hi : Nat} (e : x = nI j) (h : j ≤ hi) (hh : hi < 2147483648) : win x (nI 0) (nI hi) = true := by
  rw [e]
  unfold win
  rw [decide_eq_true (nI_le (Nat.zero_le j) (by omega)), decide_eq_true (nI_le h hh)]; rfl
def rm_X_requireBelow : Room := { frames := 6, cells := 0, slots := 0, locals := 92 }
set_option maxHeartbeats 4000000 in
set_option maxRecDepth 100000 in
theorem ct_X_requireBelow (l : Launch) (D : va_G) (cA : ClassId) (x : Int32) (bd : Nat) (hbd : 1 ≤ bd) (h : win x (nI 0) (nI (bd - 1)) = true) : Cv (S := Unit) l y_X_requireBelow (Cond.code y_X_requireBelow c_X_requireBelow 2 none :: WD) rm_X_requireBelow D vwCl [(cA, .int)] nws [.int x, .int (nI bd)] [] 0 0 (fun _ => True) (fun _ => []) := by
  refine Cv.of (cc := c_X_requireBelow) (nL := 2) (lv := [(0, .int x), (1, .int (nI bd))]) (by decide) rfl (Nat.le_of_ble_eq_true rfl) rfl ?_
  intro p e s m args below meth cd A Q F hK hN hA hinit ret
  refine j_iloadn F d_X_requireBelow_0 0 rfl rfl ?_
  refine j_iconst (v := nI 0) F d_X_requireBelow_1 (by decide) ?_
  refine j_iloadn F d_X_requireBelow_2 1 rfl rfl ?_
  refine j_iconst (v := nI 1) F d_X_requireBelow_3 (by decide) ?_
  refine j_isub (v := nI (bd - 1)) F d_X_requireBelow_4 (pk_sub (by omega)) ?_
  refine j_goi (wc := []) (wr := []) hA [] [] rfl rfl (by decide) (by decide) (fun H locs ls hP hD hl => va_runS (As := [.int x, .int (nI 0), .int (nI (bd - 1))]) (rest := []) F (ct_X_isWithin l D cA x (nI 0) (nI (bd - 1)) H.size) ⟨callB_of 3 F.2.2.2.2 (gd k_172) rfl rfl rfl (F.2.2.2.2 _ (wm k_1)) (F.2.2.2.2 _ (wm k_170)) (by decide +kernel) ⟨by decide, by decide⟩, F.2.2.2.2 _ (wm k_171)⟩ (pre_S hK hN hP hD [] rfl (by decide)) rfl rfl hl.1 rfl (lv_room (Nat.le_of_ble_eq_true rfl)) d_X_requireBelow_5 ⟨by decide, by decide⟩) (fun r5 u5 hw5 => ?_)
  subst hw5
  refine j_ws (ws' := []) [] (by decide) rfl ?_
  refine j_if_ne (tgt := 21) F d_X_requireBelow_8 (by decide) (fun c_8 => ?_) (fun c_8 => ?_)
  · exact ret _ _ _ _ _ () d_X_requireBelow_21 (by decide) (by decide) rfl trivial
  · exact absurd (bI_0 c_8) (by rw [h]; decide)

def rmx_X_requireBelow : Room := { frames := 6, cells := 1, slots := 6, locals := 92 }
set_option maxHeartbeats 4000000 in
set_option maxRecDepth 100000 in
theorem cx_X_requireBelow (l : Launch) (hst : l.stackTraces = false) (D : va_G) (cA : ClassId) (x : Int32) (bd : Nat) (hbd : 1 ≤ bd) (h : win x (nI 0) (nI (bd - 1)) = false) : Cx (S := Unit) l y_X_requireBelow (Cond.code y_X_requireBelow c_X_requireBelow 2 none :: WD) rmx_X_requireBelow D vwCl [(cA, .int)] nws [.int x, .int (nI bd)] [] 1 6 "java/lang/IllegalArgumentException" (fun _ => True) (fun _ => []) := by
  refine Cx.of (cc := c_X_requireBelow) (nL := 2) (ret := none) (lv := [(0, .int x), (1, .int (nI bd))]) hst (by decide) rfl (Nat.le_of_ble_eq_true rfl) rfl ?_
  intro p e s m args below meth cd A Q F hK hN hE hA thr out
  refine j_iloadn F d_X_requireBelow_0 0 rfl rfl ?_
  refine j_iconst (v := nI 0) F d_X_requireBelow_1 (by decide) ?_
  refine j_iloadn F d_X_requireBelow_2 1 rfl rfl ?_
  refine j_iconst (v := nI 1) F d_X_requireBelow_3 (by decide) ?_
  refine j_isub (v := nI (bd - 1)) F d_X_requireBelow_4 (pk_sub (by omega)) ?_
  refine j_goi (wc := []) (wr := []) hA [] [] rfl rfl (by decide) (by decide) (fun H locs ls hP hD hl => va_runS (As := [.int x, .int (nI 0), .int (nI (bd - 1))]) (rest := []) F (ct_X_isWithin l D cA x (nI 0) (nI (bd - 1)) H.size) ⟨callB_of 3 F.2.2.2.2 (gd k_172) rfl rfl rfl (F.2.2.2.2 _ (wm k_1)) (F.2.2.2.2 _ (wm k_170)) (by decide +kernel) ⟨by decide, by decide⟩, F.2.2.2.2 _ (wm k_171)⟩ (pre_S hK hN hP hD [] rfl (by decide)) rfl rfl hl.1 rfl (lv_room (Nat.le_of_ble_eq_true rfl)) d_X_requireBelow_5 ⟨by decide, by decide⟩) (fun r5 u5 hw5 => ?_)
  subst hw5
  refine j_ws (ws' := []) [] (by decide) rfl ?_
  refine j_if_ne (tgt := 21) F d_X_requireBelow_8 (by decide) (fun c_8 => ?_) (fun c_8 => ?_)
  · exact absurd (bI_1 c_8) (by rw [h]; decide)
  · exact thr _ _ _ _ _ _ 152 163 156 "no such number" nmE () d_X_requireBelow_11 d_X_requireBelow_14 d_X_requireBelow_15 d_X_requireBelow_17 d_X_requireBelow_20 (by decide +kernel) (by decide +kernel) (wm k_216) (wm k_11) hE.2.2.1 (hatA F.2.2.2.2 hN) gdA (by decide) (Nat.le_of_ble_eq_true rfl) (by decide) (by decide) (by decide) (by decide) rfl trivial

def rm_X_gather : Room := { frames := 6, cells := 0, slots := 0, locals := 92 }
set_option maxHeartbeats 4000000 in
set_option maxRecDepth 100000 in
theorem ct_X_gather (l : Launch) (D : va_G) (cA : ClassId) (x0 y2 y3 y4 y5 : Nat) (now rf : Int32) (o0 o1 : Nat) (z : Int32) (f : Nat → Int32) (a0 a1 a2 a3 a4 a5 : Nat) (X : AF) (n : Nat) (hA0 : aok X n) (t k : Int32) (ht : win t (nI 0) (nI 10000) = true) (hk : win k (nI 0) (nI 10000) = true) : Cv (S := (Nat → Int32)) l y_X_gather (Cond.code y_X_gather c_X_gather 3 none :: WD) rm_X_gather D vwCl [(cA, .int)] nws [.ref x0, .int t, .int k] [(x0, .inr (5, [.ref a0, .ref o0, .ref y2, .ref y3, .ref y4, .ref y5, .int now, .int rf])), (a0, .inr (0, [.ref a1, .ref a2, .ref a3, .ref a4, .ref a5, .int (nI n)])), (a1, .inl (cA, 80, .inl (X 0))), (a2, .inl (cA, 80, .inl (X 1))), (a3, .inl (cA, 80, .inl (X 2))), (a4, .inl (cA, 80, .inl (X 3))), (a5, .inl (cA, 80, .inl (X 4))), (o0, .inr (2, [.ref o1, .int z])), (o1, .inl (cA, 80, .inl f))] 0 0 (fun u => rowL u (ordL X n t k)) (fun u => [(x0, .inr (5, [.ref a0, .ref o0, .ref y2, .ref y3, .ref y4, .ref y5, .int now, .int rf])), (a0, .inr (0, [.ref a1, .ref a2, .ref a3, .ref a4, .ref a5, .int (nI n)])), (a1, .inl (cA, 80, .inl (X 0))), (a2, .inl (cA, 80, .inl (X 1))), (a3, .inl (cA, 80, .inl (X 2))), (a4, .inl (cA, 80, .inl (X 3))), (a5, .inl (cA, 80, .inl (X 4))), (o0, .inr (2, [.ref o1, .int (nI ((ordL X n t k).length))])), (o1, .inl (cA, 80, .inl u))]) := by
  refine Cv.of (cc := c_X_gather) (nL := 3) (lv := [(0, .ref x0), (1, .int t), (2, .int k)]) (by decide) rfl (Nat.le_of_ble_eq_true rfl) rfl ?_
  intro p e s m args below meth cd A Q F hK hN hA hinit ret
  refine j_iloadn F d_X_gather_0 1 rfl rfl ?_
  refine j_goi (wc := []) (wr := [(x0, .inr (5, [.ref a0, .ref o0, .ref y2, .ref y3, .ref y4, .ref y5, .int now, .int rf])), (a0, .inr (0, [.ref a1, .ref a2, .ref a3, .ref a4, .ref a5, .int (nI n)])), (a1, .inl (cA, 80, .inl (X 0))), (a2, .inl (cA, 80, .inl (X 1))), (a3, .inl (cA, 80, .inl (X 2))), (a4, .inl (cA, 80, .inl (X 3))), (a5, .inl (cA, 80, .inl (X 4))), (o0, .inr (2, [.ref o1, .int z])), (o1, .inl (cA, 80, .inl f))]) hA [] [0, 1, 2, 3, 4, 5, 6, 7, 8] rfl rfl (by decide) (by decide) (fun H locs ls hP hD hl => va_runS (As := [.int t]) (rest := []) F (ct_X_isTime l D cA t H.size) ⟨callB_of 1 F.2.2.2.2 (gd k_169) rfl rfl rfl (F.2.2.2.2 _ (wm k_1)) (F.2.2.2.2 _ (wm k_167)) (by decide +kernel) ⟨by decide, by decide⟩, F.2.2.2.2 _ (wm k_168)⟩ (pre_S hK hN hP hD [] rfl (by decide)) rfl rfl hl.1 rfl (lv_room (Nat.le_of_ble_eq_true rfl)) d_X_gather_1 ⟨by decide, by decide⟩) (fun r1 u1 hw1 => ?_)
  subst hw1
  refine j_ws (ws' := [(x0, .inr (5, [.ref a0, .ref o0, .ref y2, .ref y3, .ref y4, .ref y5, .int now, .int rf])), (a0, .inr (0, [.ref a1, .ref a2, .ref a3, .ref a4, .ref a5, .int (nI n)])), (a1, .inl (cA, 80, .inl (X 0))), (a2, .inl (cA, 80, .inl (X 1))), (a3, .inl (cA, 80, .inl (X 2))), (a4, .inl (cA, 80, .inl (X 3))), (a5, .inl (cA, 80, .inl (X 4))), (o0, .inr (2, [.ref o1, .int z])), (o1, .inl (cA, 80, .inl f))]) [0, 1, 2, 3, 4, 5, 6, 7, 8] (by decide) rfl ?_
  refine j_if_eq (tgt := 14) F d_X_gather_4 (by decide) (fun c_4 => ?_) (fun c_4 => ?_)
  · exact absurd (bI_0 c_4) (by rw [ht]; decide)
  · refine j_iloadn F d_X_gather_7 2 rfl rfl ?_
    refine j_goi (wc := []) (wr := [(x0, .inr (5, [.ref a0, .ref o0, .ref y2, .ref y3, .ref y4, .ref y5, .int now, .int rf])), (a0, .inr (0, [.ref a1, .ref a2, .ref a3, .ref a4, .ref a5, .int (nI n)])), (a1, .inl (cA, 80, .inl (X 0))), (a2, .inl (cA, 80, .inl (X 1))), (a3, .inl (cA, 80, .inl (X 2))), (a4, .inl (cA, 80, .inl (X 3))), (a5, .inl (cA, 80, .inl (X 4))), (o0, .inr (2, [.ref o1, .int z])), (o1, .inl (cA, 80, .inl f))]) hA [] [0, 1, 2, 3, 4, 5, 6, 7, 8] rfl rfl (by decide) (by decide) (fun H locs ls hP hD hl => va_runS (As := [.int k]) (rest := []) F (ct_X_isTime l D cA k H.size) ⟨callB_of 1 F.2.2.2.2 (gd k_169) rfl rfl rfl (F.2.2.2.2 _ (wm k_1)) (F.2.2.2.2 _ (wm k_167)) (by decide +kernel) ⟨by decide, by decide⟩, F.2.2.2.2 _ (wm k_168)⟩ (pre_S hK hN hP hD [] rfl (by decide)) rfl rfl hl.1 rfl (lv_room (Nat.le_of_ble_eq_true rfl)) d_X_gather_8 ⟨by decide, by decide⟩) (fun r8 u8 hw8 => ?_)
    subst hw8
    refine j_ws (ws' := [(x0, .inr (5, [.ref a0, .ref o0, .ref y2, .ref y3, .ref y4, .ref y5, .int now, .int rf])), (a0, .inr (0, [.ref a1, .ref a2, .ref a3, .ref a4, .ref a5, .int (nI n)])), (a1, .inl (cA, 80, .inl (X 0))), (a2, .inl (cA, 80, .inl (X 1))), (a3, .inl (cA, 80, .inl (X 2))), (a4, .inl (cA, 80, .inl (X 3))), (a5, .inl (cA, 80, .inl (X 4))), (o0, .inr (2, [.ref o1, .int z])), (o1, .inl (cA, 80, .inl f))]) [0, 1, 2, 3, 4, 5, 6, 7, 8] (by decide) rfl ?_
    refine j_if_ne (tgt := 24) F d_X_gather_11 (by decide) (fun c_11 => ?_) (fun c_11 => ?_)
    · refine j_aloadn F d_X_gather_24 0 rfl rfl ?_
      refine j_get (ci := 5) (v := .ref o0) F in_X hK 0 rfl rfl 1 (by decide) (wm k_135) rfl d_X_gather_25 ?_
      refine j_aloadn F d_X_gather_28 0 rfl rfl ?_
      refine j_get (ci := 5) (v := .ref a0) F in_X hK 0 rfl rfl 0 (by decide) (wm k_134) rfl d_X_gather_29 ?_
      refine j_iloadn F d_X_gather_32 1 rfl rfl ?_
      refine j_iloadn F d_X_gather_33 2 rfl rfl ?_
      refine j_gov (wc := [(o0, .inr (2, [.ref o1, .int z])), (o1, .inl (cA, 80, .inl f)), (a0, .inr (0, [.ref a1, .ref a2, .ref a3, .ref a4, .ref a5, .int (nI n)])), (a1, .inl (cA, 80, .inl (X 0))), (a2, .inl (cA, 80, .inl (X 1))), (a3, .inl (cA, 80, .inl (X 2))), (a4, .inl (cA, 80, .inl (X 3))), (a5, .inl (cA, 80, .inl (X 4)))]) (wr := [(x0, .inr (5, [.ref a0, .ref o0, .ref y2, .ref y3, .ref y4, .ref y5, .int now, .int rf]))]) hA [7, 8, 1, 2, 3, 4, 5, 6] [0] rfl rfl (by decide) (by decide) (fun H locs ls hP hD hl => va_runVN (As := [.ref a0, .int t, .int k]) (rest := []) F (ct_O_gather l D cA o0 o1 z f a0 a1 a2 a3 a4 a5 X n hA0 t k H.size) ⟨va_cnB 3 F.2.2.2.2 (gd k_295) rfl rfl rfl (hN _ n_292).1 (F.2.2.2.2 _ (wm k_3)) (by decide +kernel) ⟨by decide, by decide⟩, F.2.2.2.2 _ (wm k_294), F.2.2.2.2 _ (wm ks_9)⟩ (pre_V rfl hK hN hP hD [7, 8, 1, 2, 3, 4, 5, 6] rfl (by decide) 7 rfl rfl) rfl rfl hl.1 rfl (lv_room (Nat.le_of_ble_eq_true rfl)) d_X_gather_34 ⟨by decide, by decide⟩) (fun u34 hw34 => ?_)
      refine j_ws (ws' := [(x0, .inr (5, [.ref a0, .ref o0, .ref y2, .ref y3, .ref y4, .ref y5, .int now, .int rf])), (a0, .inr (0, [.ref a1, .ref a2, .ref a3, .ref a4, .ref a5, .int (nI n)])), (a1, .inl (cA, 80, .inl (X 0))), (a2, .inl (cA, 80, .inl (X 1))), (a3, .inl (cA, 80, .inl (X 2))), (a4, .inl (cA, 80, .inl (X 3))), (a5, .inl (cA, 80, .inl (X 4))), (o0, .inr (2, [.ref o1, .int (nI ((ordL X n t k).length))])), (o1, .inl (cA, 80, .inl u34))]) [0, 3, 4, 5, 6, 7, 8, 1, 2] (by decide) rfl ?_
      exact ret _ _ _ _ _ u34 d_X_gather_37 (by decide) (by decide) rfl hw34
    · exact absurd (bI_0 c_11) (by rw [hk]; decide)

def rmx_X_gather : Room := { frames := 6, cells := 1, slots := 6, locals := 92 }
set_option maxHeartbeats 4000000 in
set_option maxRecDepth 100000 in
theorem cx_X_gather (l : Launch) (hst : l.stackTraces = false) (D : va_G) (cA : ClassId) (x0 y2 y3 y4 y5 : Nat) (now rf : Int32) (o0 o1 : Nat) (z : Int32) (f : Nat → Int32) (a0 a1 a2 a3 a4 a5 : Nat) (X : AF) (n : Nat) (hA0 : aok X n) (t k : Int32) (hbad : (win t (nI 0) (nI 10000) && win k (nI 0) (nI 10000)) = false) : Cx (S := Unit) l y_X_gather (Cond.code y_X_gather c_X_gather 3 none :: WD) rmx_X_gather D vwCl [(cA, .int)] nws [.ref x0, .int t, .int k] [(x0, .inr (5, [.ref a0, .ref o0, .ref y2, .ref y3, .ref y4, .ref y5, .int now, .int rf])), (a0, .inr (0, [.ref a1, .ref a2, .ref a3, .ref a4, .ref a5, .int (nI n)])), (a1, .inl (cA, 80, .inl (X 0))), (a2, .inl (cA, 80, .inl (X 1))), (a3, .inl (cA, 80, .inl (X 2))), (a4, .inl (cA, 80, .inl (X 3))), (a5, .inl (cA, 80, .inl (X 4))), (o0, .inr (2, [.ref o1, .int z])), (o1, .inl (cA, 80, .inl f))] 1 6 "java/lang/IllegalArgumentException" (fun _ => True) (fun _ => [(x0, .inr (5, [.ref a0, .ref o0, .ref y2, .ref y3, .ref y4, .ref y5, .int now, .int rf])), (a0, .inr (0, [.ref a1, .ref a2, .ref a3, .ref a4, .ref a5, .int (nI n)])), (a1, .inl (cA, 80, .inl (X 0))), (a2, .inl (cA, 80, .inl (X 1))), (a3, .inl (cA, 80, .inl (X 2))), (a4, .inl (cA, 80, .inl (X 3))), (a5, .inl (cA, 80, .inl (X 4))), (o0, .inr (2, [.ref o1, .int z])), (o1, .inl (cA, 80, .inl f))]) := by
  refine Cx.of (cc := c_X_gather) (nL := 3) (ret := none) (lv := [(0, .ref x0), (1, .int t), (2, .int k)]) hst (by decide) rfl (Nat.le_of_ble_eq_true rfl) rfl ?_
  intro p e s m args below meth cd A Q F hK hN hE hA thr out
  refine j_iloadn F d_X_gather_0 1 rfl rfl ?_
  refine j_goi (wc := []) (wr := [(x0, .inr (5, [.ref a0, .ref o0, .ref y2, .ref y3, .ref y4, .ref y5, .int now, .int rf])), (a0, .inr (0, [.ref a1, .ref a2, .ref a3, .ref a4, .ref a5, .int (nI n)])), (a1, .inl (cA, 80, .inl (X 0))), (a2, .inl (cA, 80, .inl (X 1))), (a3, .inl (cA, 80, .inl (X 2))), (a4, .inl (cA, 80, .inl (X 3))), (a5, .inl (cA, 80, .inl (X 4))), (o0, .inr (2, [.ref o1, .int z])), (o1, .inl (cA, 80, .inl f))]) hA [] [0, 1, 2, 3, 4, 5, 6, 7, 8] rfl rfl (by decide) (by decide) (fun H locs ls hP hD hl => va_runS (As := [.int t]) (rest := []) F (ct_X_isTime l D cA t H.size) ⟨callB_of 1 F.2.2.2.2 (gd k_169) rfl rfl rfl (F.2.2.2.2 _ (wm k_1)) (F.2.2.2.2 _ (wm k_167)) (by decide +kernel) ⟨by decide, by decide⟩, F.2.2.2.2 _ (wm k_168)⟩ (pre_S hK hN hP hD [] rfl (by decide)) rfl rfl hl.1 rfl (lv_room (Nat.le_of_ble_eq_true rfl)) d_X_gather_1 ⟨by decide, by decide⟩) (fun r1 u1 hw1 => ?_)
  subst hw1
  refine j_ws (ws' := [(x0, .inr (5, [.ref a0, .ref o0, .ref y2, .ref y3, .ref y4, .ref y5, .int now, .int rf])), (a0, .inr (0, [.ref a1, .ref a2, .ref a3, .ref a4, .ref a5, .int (nI n)])), (a1, .inl (cA, 80, .inl (X 0))), (a2, .inl (cA, 80, .inl (X 1))), (a3, .inl (cA, 80, .inl (X 2))), (a4, .inl (cA, 80, .inl (X 3))), (a5, .inl (cA, 80, .inl (X 4))), (o0, .inr (2, [.ref o1, .int z])), (o1, .inl (cA, 80, .inl f))]) [0, 1, 2, 3, 4, 5, 6, 7, 8] (by decide) rfl ?_
  refine j_if_eq (tgt := 14) F d_X_gather_4 (by decide) (fun c_4 => ?_) (fun c_4 => ?_)
  · exact thr _ _ _ _ _ _ 152 154 156 "no such time" nmE () d_X_gather_14 d_X_gather_17 d_X_gather_18 d_X_gather_20 d_X_gather_23 (by decide +kernel) (by decide +kernel) (wm k_216) (wm k_11) hE.2.2.2.1 (hatA F.2.2.2.2 hN) gdA (by decide) (Nat.le_of_ble_eq_true rfl) (by decide) (by decide) (by decide) (by decide) rfl trivial
  · have c_4x := c_4
    refine j_iloadn F d_X_gather_7 2 rfl rfl ?_
    refine j_goi (wc := []) (wr := [(x0, .inr (5, [.ref a0, .ref o0, .ref y2, .ref y3, .ref y4, .ref y5, .int now, .int rf])), (a0, .inr (0, [.ref a1, .ref a2, .ref a3, .ref a4, .ref a5, .int (nI n)])), (a1, .inl (cA, 80, .inl (X 0))), (a2, .inl (cA, 80, .inl (X 1))), (a3, .inl (cA, 80, .inl (X 2))), (a4, .inl (cA, 80, .inl (X 3))), (a5, .inl (cA, 80, .inl (X 4))), (o0, .inr (2, [.ref o1, .int z])), (o1, .inl (cA, 80, .inl f))]) hA [] [0, 1, 2, 3, 4, 5, 6, 7, 8] rfl rfl (by decide) (by decide) (fun H locs ls hP hD hl => va_runS (As := [.int k]) (rest := []) F (ct_X_isTime l D cA k H.size) ⟨callB_of 1 F.2.2.2.2 (gd k_169) rfl rfl rfl (F.2.2.2.2 _ (wm k_1)) (F.2.2.2.2 _ (wm k_167)) (by decide +kernel) ⟨by decide, by decide⟩, F.2.2.2.2 _ (wm k_168)⟩ (pre_S hK hN hP hD [] rfl (by decide)) rfl rfl hl.1 rfl (lv_room (Nat.le_of_ble_eq_true rfl)) d_X_gather_8 ⟨by decide, by decide⟩) (fun r8 u8 hw8 => ?_)
    subst hw8
    refine j_ws (ws' := [(x0, .inr (5, [.ref a0, .ref o0, .ref y2, .ref y3, .ref y4, .ref y5, .int now, .int rf])), (a0, .inr (0, [.ref a1, .ref a2, .ref a3, .ref a4, .ref a5, .int (nI n)])), (a1, .inl (cA, 80, .inl (X 0))), (a2, .inl (cA, 80, .inl (X 1))), (a3, .inl (cA, 80, .inl (X 2))), (a4, .inl (cA, 80, .inl (X 3))), (a5, .inl (cA, 80, .inl (X 4))), (o0, .inr (2, [.ref o1, .int z])), (o1, .inl (cA, 80, .inl f))]) [0, 1, 2, 3, 4, 5, 6, 7, 8] (by decide) rfl ?_
    refine j_if_ne (tgt := 24) F d_X_gather_11 (by decide) (fun c_11 => ?_) (fun c_11 => ?_)
    · exact absurd hbad (by rw [bI_1 c_4x, bI_1 c_11]; decide)
    · exact thr _ _ _ _ _ _ 152 154 156 "no such time" nmE () d_X_gather_14 d_X_gather_17 d_X_gather_18 d_X_gather_20 d_X_gather_23 (by decide +kernel) (by decide +kernel) (wm k_216) (wm k_11) hE.2.2.2.1 (hatA F.2.2.2.2 hN) gdA (by decide) (Nat.le_of_ble_eq_true rfl) (by decide) (by decide) (by decide) (by decide) rfl trivial

def rm_X_draw : Room := { frames := 7, cells := 0, slots := 0, locals := 114 }
set_option maxHeartbeats 4000000 in
set_option maxRecDepth 100000 in
theorem ct_X_draw (l : Launch) (D : va_G) (cA : ClassId) (x0 y2 y3 y4 y5 : Nat) (now rf : Int32) (o0 o1 : Nat) (z : Int32) (f : Nat → Int32) (a0 a1 a2 a3 a4 a5 : Nat) (X : AF) (n : Nat) (hA0 : aok X n) (t k : Int32) (p0 p1 p2 p3 : Nat) (sl tt sm : Nat → Int32) (ht : win t (nI 0) (nI 10000) = true) (hk : win k (nI 0) (nI 10000) = true) : Cv (S := (Nat → Int32)) l y_X_draw (Cond.code y_X_draw c_X_draw 4 none :: WD) rm_X_draw D vwCl [(cA, .int)] nws [.ref x0, .ref p0, .int t, .int k] [(x0, .inr (5, [.ref a0, .ref o0, .ref y2, .ref y3, .ref y4, .ref y5, .int now, .int rf])), (a0, .inr (0, [.ref a1, .ref a2, .ref a3, .ref a4, .ref a5, .int (nI n)])), (a1, .inl (cA, 80, .inl (X 0))), (a2, .inl (cA, 80, .inl (X 1))), (a3, .inl (cA, 80, .inl (X 2))), (a4, .inl (cA, 80, .inl (X 3))), (a5, .inl (cA, 80, .inl (X 4))), (o0, .inr (2, [.ref o1, .int z])), (o1, .inl (cA, 80, .inl f)), (p0, .inr (3, [.ref p1, .ref p2, .ref p3])), (p1, .inl (cA, 20, .inl sl)), (p2, .inl (cA, 10, .inl tt)), (p3, .inl (cA, 10, .inl sm))] 0 0 (fun u => rowL u (ordL X n t k)) (fun u => [(x0, .inr (5, [.ref a0, .ref o0, .ref y2, .ref y3, .ref y4, .ref y5, .int now, .int rf])), (a0, .inr (0, [.ref a1, .ref a2, .ref a3, .ref a4, .ref a5, .int (nI n)])), (a1, .inl (cA, 80, .inl (X 0))), (a2, .inl (cA, 80, .inl (X 1))), (a3, .inl (cA, 80, .inl (X 2))), (a4, .inl (cA, 80, .inl (X 3))), (a5, .inl (cA, 80, .inl (X 4))), (o0, .inr (2, [.ref o1, .int (nI ((ordL X n t k).length))])), (o1, .inl (cA, 80, .inl u)), (p0, .inr (3, [.ref p1, .ref p2, .ref p3])), (p1, .inl (cA, 20, .inl (slP X n t k))), (p2, .inl (cA, 10, .inl (ttP X n t k))), (p3, .inl (cA, 10, .inl (smP X n t k)))]) := by
  refine Cv.of (cc := c_X_draw) (nL := 4) (lv := [(0, .ref x0), (1, .ref p0), (2, .int t), (3, .int k)]) (by decide) rfl (Nat.le_of_ble_eq_true rfl) rfl ?_
  intro p e s m args below meth cd A Q F hK hN hA hinit ret
  have h80 := hA0.1
  refine j_aloadn F d_X_draw_0 0 rfl rfl ?_
  refine j_iloadn F d_X_draw_1 2 rfl rfl ?_
  refine j_iloadn F d_X_draw_2 3 rfl rfl ?_
  refine j_gov (wc := [(x0, .inr (5, [.ref a0, .ref o0, .ref y2, .ref y3, .ref y4, .ref y5, .int now, .int rf])), (a0, .inr (0, [.ref a1, .ref a2, .ref a3, .ref a4, .ref a5, .int (nI n)])), (a1, .inl (cA, 80, .inl (X 0))), (a2, .inl (cA, 80, .inl (X 1))), (a3, .inl (cA, 80, .inl (X 2))), (a4, .inl (cA, 80, .inl (X 3))), (a5, .inl (cA, 80, .inl (X 4))), (o0, .inr (2, [.ref o1, .int z])), (o1, .inl (cA, 80, .inl f))]) (wr := [(p0, .inr (3, [.ref p1, .ref p2, .ref p3])), (p1, .inl (cA, 20, .inl sl)), (p2, .inl (cA, 10, .inl tt)), (p3, .inl (cA, 10, .inl sm))]) hA [0, 1, 2, 3, 4, 5, 6, 7, 8] [9, 10, 11, 12] rfl rfl (by decide) (by decide) (fun H locs ls hP hD hl => va_runV (As := [.int t, .int k]) (rest := []) F (ct_X_gather l D cA x0 y2 y3 y4 y5 now rf o0 o1 z f a0 a1 a2 a3 a4 a5 X n hA0 t k ht hk H.size) ⟨callB_of 2 F.2.2.2.2 (gd k_290) rfl rfl rfl (F.2.2.2.2 _ (wm k_1)) (F.2.2.2.2 _ (wm k_287)) (by decide +kernel) ⟨by decide, by decide⟩, F.2.2.2.2 _ (wm k_289), F.2.2.2.2 _ (wm ks_8)⟩ (pre_V rfl hK hN hP hD [0, 1, 2, 3, 4, 5, 6, 7, 8] rfl (by decide) 0 rfl rfl) rfl rfl hl.1 rfl (lv_room (Nat.le_of_ble_eq_true rfl)) d_X_draw_3 ⟨by decide, by decide⟩) (fun u3 hw3 => ?_)
  refine j_ws (ws' := [(x0, .inr (5, [.ref a0, .ref o0, .ref y2, .ref y3, .ref y4, .ref y5, .int now, .int rf])), (a0, .inr (0, [.ref a1, .ref a2, .ref a3, .ref a4, .ref a5, .int (nI n)])), (a1, .inl (cA, 80, .inl (X 0))), (a2, .inl (cA, 80, .inl (X 1))), (a3, .inl (cA, 80, .inl (X 2))), (a4, .inl (cA, 80, .inl (X 3))), (a5, .inl (cA, 80, .inl (X 4))), (o0, .inr (2, [.ref o1, .int (nI ((ordL X n t k).length))])), (o1, .inl (cA, 80, .inl u3)), (p0, .inr (3, [.ref p1, .ref p2, .ref p3])), (p1, .inl (cA, 20, .inl sl)), (p2, .inl (cA, 10, .inl tt)), (p3, .inl (cA, 10, .inl sm))]) [4, 5, 6, 7, 8, 9, 10, 11, 12, 0, 1, 2, 3] (by decide) rfl ?_
  refine j_aloadn F d_X_draw_6 1 rfl rfl ?_
  refine j_aloadn F d_X_draw_7 0 rfl rfl ?_
  refine j_get (ci := 5) (v := .ref a0) F in_X hK 0 rfl rfl 0 (by decide) (wm k_134) rfl d_X_draw_8 ?_
  refine j_aloadn F d_X_draw_11 0 rfl rfl ?_
  refine j_get (ci := 5) (v := .ref o0) F in_X hK 0 rfl rfl 1 (by decide) (wm k_135) rfl d_X_draw_12 ?_
  refine j_gov (wc := [(p0, .inr (3, [.ref p1, .ref p2, .ref p3])), (p1, .inl (cA, 20, .inl sl)), (p2, .inl (cA, 10, .inl tt)), (p3, .inl (cA, 10, .inl sm)), (o0, .inr (2, [.ref o1, .int (nI ((ordL X n t k).length))])), (o1, .inl (cA, 80, .inl u3)), (a0, .inr (0, [.ref a1, .ref a2, .ref a3, .ref a4, .ref a5, .int (nI n)])), (a1, .inl (cA, 80, .inl (X 0))), (a2, .inl (cA, 80, .inl (X 1))), (a3, .inl (cA, 80, .inl (X 2))), (a4, .inl (cA, 80, .inl (X 3))), (a5, .inl (cA, 80, .inl (X 4)))]) (wr := [(x0, .inr (5, [.ref a0, .ref o0, .ref y2, .ref y3, .ref y4, .ref y5, .int now, .int rf]))]) hA [9, 10, 11, 12, 7, 8, 1, 2, 3, 4, 5, 6] [0] rfl rfl (by decide) (by decide) (fun H locs ls hP hD hl => va_runVN (As := [.ref a0, .ref o0]) (rest := []) F (ct_P_draw l D cA p0 p1 p2 p3 sl tt sm o0 o1 u3 (ordL X n t k) a0 a1 a2 a3 a4 a5 X n hA0 hw3 (by have := ordL_len (X := X) (n := n) (t := t) (k := k); omega) ordL_lt H.size) ⟨va_cnB 2 F.2.2.2.2 (gd k_311) rfl rfl rfl (hN _ n_308).1 (F.2.2.2.2 _ (wm k_4)) (by decide +kernel) ⟨by decide, by decide⟩, F.2.2.2.2 _ (wm k_310), F.2.2.2.2 _ (wm ks_13)⟩ (pre_V rfl hK hN hP hD [9, 10, 11, 12, 7, 8, 1, 2, 3, 4, 5, 6] rfl (by decide) 9 rfl rfl) rfl rfl hl.1 rfl (lv_room (Nat.le_of_ble_eq_true rfl)) d_X_draw_15 ⟨by decide, by decide⟩) (fun u15 hw15 => ?_)
  refine j_ws (ws' := [(x0, .inr (5, [.ref a0, .ref o0, .ref y2, .ref y3, .ref y4, .ref y5, .int now, .int rf])), (a0, .inr (0, [.ref a1, .ref a2, .ref a3, .ref a4, .ref a5, .int (nI n)])), (a1, .inl (cA, 80, .inl (X 0))), (a2, .inl (cA, 80, .inl (X 1))), (a3, .inl (cA, 80, .inl (X 2))), (a4, .inl (cA, 80, .inl (X 3))), (a5, .inl (cA, 80, .inl (X 4))), (o0, .inr (2, [.ref o1, .int (nI ((ordL X n t k).length))])), (o1, .inl (cA, 80, .inl u3)), (p0, .inr (3, [.ref p1, .ref p2, .ref p3])), (p1, .inl (cA, 20, .inl (slP X n t k))), (p2, .inl (cA, 10, .inl (ttP X n t k))), (p3, .inl (cA, 10, .inl (smP X n t k)))]) [0, 7, 8, 9, 10, 11, 12, 5, 6, 1, 2, 3, 4] (by decide) rfl ?_
  exact ret _ _ _ _ _ u3 d_X_draw_18 (by decide) (by decide) rfl hw3

def rmx_X_draw : Room := { frames := 7, cells := 1, slots := 6, locals := 114 }
set_option maxHeartbeats 4000000 in
set_option maxRecDepth 100000 in
theorem cx_X_draw (l : Launch) (hst : l.stackTraces = false) (D : va_G) (cA : ClassId) (x0 y2 y3 y4 y5 : Nat) (now rf : Int32) (o0 o1 : Nat) (z : Int32) (f : Nat → Int32) (a0 a1 a2 a3 a4 a5 : Nat) (X : AF) (n : Nat) (hA0 : aok X n) (t k : Int32) (p0 p1 p2 p3 : Nat) (sl tt sm : Nat → Int32) (hbad : (win t (nI 0) (nI 10000) && win k (nI 0) (nI 10000)) = false) : Cx (S := Unit) l y_X_draw (Cond.code y_X_draw c_X_draw 4 none :: WD) rmx_X_draw D vwCl [(cA, .int)] nws [.ref x0, .ref p0, .int t, .int k] [(x0, .inr (5, [.ref a0, .ref o0, .ref y2, .ref y3, .ref y4, .ref y5, .int now, .int rf])), (a0, .inr (0, [.ref a1, .ref a2, .ref a3, .ref a4, .ref a5, .int (nI n)])), (a1, .inl (cA, 80, .inl (X 0))), (a2, .inl (cA, 80, .inl (X 1))), (a3, .inl (cA, 80, .inl (X 2))), (a4, .inl (cA, 80, .inl (X 3))), (a5, .inl (cA, 80, .inl (X 4))), (o0, .inr (2, [.ref o1, .int z])), (o1, .inl (cA, 80, .inl f)), (p0, .inr (3, [.ref p1, .ref p2, .ref p3])), (p1, .inl (cA, 20, .inl sl)), (p2, .inl (cA, 10, .inl tt)), (p3, .inl (cA, 10, .inl sm))] 1 6 "java/lang/IllegalArgumentException" (fun _ => True) (fun _ => [(x0, .inr (5, [.ref a0, .ref o0, .ref y2, .ref y3, .ref y4, .ref y5, .int now, .int rf])), (a0, .inr (0, [.ref a1, .ref a2, .ref a3, .ref a4, .ref a5, .int (nI n)])), (a1, .inl (cA, 80, .inl (X 0))), (a2, .inl (cA, 80, .inl (X 1))), (a3, .inl (cA, 80, .inl (X 2))), (a4, .inl (cA, 80, .inl (X 3))), (a5, .inl (cA, 80, .inl (X 4))), (o0, .inr (2, [.ref o1, .int z])), (o1, .inl (cA, 80, .inl f)), (p0, .inr (3, [.ref p1, .ref p2, .ref p3])), (p1, .inl (cA, 20, .inl sl)), (p2, .inl (cA, 10, .inl tt)), (p3, .inl (cA, 10, .inl sm))]) := by
  refine Cx.of (cc := c_X_draw) (nL := 4) (ret := none) (lv := [(0, .ref x0), (1, .ref p0), (2, .int t), (3, .int k)]) hst (by decide) rfl (Nat.le_of_ble_eq_true rfl) rfl ?_
  intro p e s m args below meth cd A Q F hK hN hE hA thr out
  refine j_aloadn F d_X_draw_0 0 rfl rfl ?_
  refine j_iloadn F d_X_draw_1 2 rfl rfl ?_
  refine j_iloadn F d_X_draw_2 3 rfl rfl ?_
  refine j_goX (a := #[]) (wc := [(x0, .inr (5, [.ref a0, .ref o0, .ref y2, .ref y3, .ref y4, .ref y5, .int now, .int rf])), (a0, .inr (0, [.ref a1, .ref a2, .ref a3, .ref a4, .ref a5, .int (nI n)])), (a1, .inl (cA, 80, .inl (X 0))), (a2, .inl (cA, 80, .inl (X 1))), (a3, .inl (cA, 80, .inl (X 2))), (a4, .inl (cA, 80, .inl (X 3))), (a5, .inl (cA, 80, .inl (X 4))), (o0, .inr (2, [.ref o1, .int z])), (o1, .inl (cA, 80, .inl f))]) (wr := [(p0, .inr (3, [.ref p1, .ref p2, .ref p3])), (p1, .inl (cA, 20, .inl sl)), (p2, .inl (cA, 10, .inl tt)), (p3, .inl (cA, 10, .inl sm))]) hA [0, 1, 2, 3, 4, 5, 6, 7, 8] [9, 10, 11, 12] rfl rfl (by decide) (by decide) (fun H locs ls hP hD hS hl => vx_runV (As := [.int t, .int k]) (rest := []) F (cx_X_gather l hst D cA x0 y2 y3 y4 y5 now rf o0 o1 z f a0 a1 a2 a3 a4 a5 X n hA0 t k hbad H.size) ⟨callB_of 2 F.2.2.2.2 (gd k_290) rfl rfl rfl (F.2.2.2.2 _ (wm k_1)) (F.2.2.2.2 _ (wm k_287)) (by decide +kernel) ⟨by decide, by decide⟩, F.2.2.2.2 _ (wm k_289), F.2.2.2.2 _ (wm ks_8)⟩ (pre_VX rfl hK hN hE hA hP hD hS [0, 1, 2, 3, 4, 5, 6, 7, 8] rfl (by decide) 0 rfl rfl) rfl rfl hl.1 rfl (lv_room (Nat.le_of_ble_eq_true rfl)) d_X_draw_3 ⟨by decide, by decide⟩) (fun u3 hw3 => ?_)
  refine jx_ws (ws' := [(x0, .inr (5, [.ref a0, .ref o0, .ref y2, .ref y3, .ref y4, .ref y5, .int now, .int rf])), (a0, .inr (0, [.ref a1, .ref a2, .ref a3, .ref a4, .ref a5, .int (nI n)])), (a1, .inl (cA, 80, .inl (X 0))), (a2, .inl (cA, 80, .inl (X 1))), (a3, .inl (cA, 80, .inl (X 2))), (a4, .inl (cA, 80, .inl (X 3))), (a5, .inl (cA, 80, .inl (X 4))), (o0, .inr (2, [.ref o1, .int z])), (o1, .inl (cA, 80, .inl f)), (p0, .inr (3, [.ref p1, .ref p2, .ref p3])), (p1, .inl (cA, 20, .inl sl)), (p2, .inl (cA, 10, .inl tt)), (p3, .inl (cA, 10, .inl sm))]) [4, 5, 6, 7, 8, 9, 10, 11, 12, 0, 1, 2, 3] (by decide) rfl ?_
  exact out _ _ _ _ _ () (by decide) (by decide) rfl trivial

def rm_X_event : Room := { frames := 2, cells := 0, slots := 0, locals := 46 }
set_option maxHeartbeats 4000000 in
set_option maxRecDepth 100000 in
theorem ct_X_event_ok (l : Launch) (D : va_G) (cA : ClassId) (x0 y1 y2 y3 y4 y5 : Nat) (now rf : Int32) (a0 a1 a2 a3 a4 a5 : Nat) (X : AF) (n : Nat) (hA0 : aok X n) (kd a b v : Int32) (hok : (decide (80 ≤ n) || (!win v (nI 0) (nI 10000) || !tellB X n kd a b)) = false) : Ci (S := Unit) l y_X_event (Cond.code y_X_event c_X_event 5 (some .int) :: WD) rm_X_event D vwCl [(cA, .int)] nws [.ref x0, .int kd, .int a, .int b, .int v] [(x0, .inr (5, [.ref a0, .ref y1, .ref y2, .ref y3, .ref y4, .ref y5, .int now, .int rf])), (a0, .inr (0, [.ref a1, .ref a2, .ref a3, .ref a4, .ref a5, .int (nI n)])), (a1, .inl (cA, 80, .inl (X 0))), (a2, .inl (cA, 80, .inl (X 1))), (a3, .inl (cA, 80, .inl (X 2))), (a4, .inl (cA, 80, .inl (X 3))), (a5, .inl (cA, 80, .inl (X 4)))] 0 0 (fun r _ => r = nI n) (fun _ => [(x0, .inr (5, [.ref a0, .ref y1, .ref y2, .ref y3, .ref y4, .ref y5, .int now, .int rf])), (a0, .inr (0, [.ref a1, .ref a2, .ref a3, .ref a4, .ref a5, .int (nI (n + 1))])), (a1, .inl (cA, 80, .inl ((apnd X n kd a b v now) 0))), (a2, .inl (cA, 80, .inl ((apnd X n kd a b v now) 1))), (a3, .inl (cA, 80, .inl ((apnd X n kd a b v now) 2))), (a4, .inl (cA, 80, .inl ((apnd X n kd a b v now) 3))), (a5, .inl (cA, 80, .inl ((apnd X n kd a b v now) 4)))]) := by
  refine Ci.of (cc := c_X_event) (nL := 5) (lv := [(0, .ref x0), (1, .int kd), (2, .int a), (3, .int b), (4, .int v)]) (by decide) rfl (Nat.le_of_ble_eq_true rfl) rfl ?_
  intro p e s m args below meth cd A Q F hK hN hA ret
  have h80 := hA0.1
  rw [Bool.or_eq_false_iff, Bool.or_eq_false_iff, Bool.not_eq_false', Bool.not_eq_false'] at hok
  obtain ⟨hok1, hok2, hok3⟩ := hok
  have hn8 : ¬ 80 ≤ n := of_decide_eq_false hok1
  refine j_aloadn F d_X_event_0 0 rfl rfl ?_
  refine j_get (ci := 5) (v := .ref a0) F in_X hK 0 rfl rfl 0 (by decide) (wm k_134) rfl d_X_event_1 ?_
  refine j_goi (wc := [(a0, .inr (0, [.ref a1, .ref a2, .ref a3, .ref a4, .ref a5, .int (nI n)])), (a1, .inl (cA, 80, .inl (X 0))), (a2, .inl (cA, 80, .inl (X 1))), (a3, .inl (cA, 80, .inl (X 2))), (a4, .inl (cA, 80, .inl (X 3))), (a5, .inl (cA, 80, .inl (X 4)))]) (wr := [(x0, .inr (5, [.ref a0, .ref y1, .ref y2, .ref y3, .ref y4, .ref y5, .int now, .int rf]))]) hA [1, 2, 3, 4, 5, 6] [0] rfl rfl (by decide) (by decide) (fun H locs ls hP hD hl => va_runVN (As := []) (rest := []) F (ct_A_isFull l D cA a0 a1 a2 a3 a4 a5 X n (by omega) H.size) ⟨va_cnB 0 F.2.2.2.2 (gd k_166) rfl rfl rfl (hN _ n_163).1 (F.2.2.2.2 _ (wm k_2)) (by decide +kernel) ⟨by decide, by decide⟩, F.2.2.2.2 _ (wm k_165), F.2.2.2.2 _ (wm ks_0)⟩ (pre_V rfl hK hN hP hD [1, 2, 3, 4, 5, 6] rfl (by decide) 1 rfl rfl) rfl rfl hl.1 rfl (lv_room (Nat.le_of_ble_eq_true rfl)) d_X_event_4 ⟨by decide, by decide⟩) (fun r4 u4 hw4 => ?_)
  subst hw4
  refine j_ws (ws' := [(x0, .inr (5, [.ref a0, .ref y1, .ref y2, .ref y3, .ref y4, .ref y5, .int now, .int rf])), (a0, .inr (0, [.ref a1, .ref a2, .ref a3, .ref a4, .ref a5, .int (nI n)])), (a1, .inl (cA, 80, .inl (X 0))), (a2, .inl (cA, 80, .inl (X 1))), (a3, .inl (cA, 80, .inl (X 2))), (a4, .inl (cA, 80, .inl (X 3))), (a5, .inl (cA, 80, .inl (X 4)))]) [0, 1, 2, 3, 4, 5, 6] (by decide) rfl ?_
  refine j_if_ne (tgt := 31) F d_X_event_7 (by decide) (fun c_7 => ?_) (fun c_7 => ?_)
  · exact absurd (bI_1 c_7) (by rw [hok1]; decide)
  · refine j_iload F d_X_event_10 4 rfl ?_
    refine j_goi (wc := []) (wr := [(x0, .inr (5, [.ref a0, .ref y1, .ref y2, .ref y3, .ref y4, .ref y5, .int now, .int rf])), (a0, .inr (0, [.ref a1, .ref a2, .ref a3, .ref a4, .ref a5, .int (nI n)])), (a1, .inl (cA, 80, .inl (X 0))), (a2, .inl (cA, 80, .inl (X 1))), (a3, .inl (cA, 80, .inl (X 2))), (a4, .inl (cA, 80, .inl (X 3))), (a5, .inl (cA, 80, .inl (X 4)))]) hA [] [0, 1, 2, 3, 4, 5, 6] rfl rfl (by decide) (by decide) (fun H locs ls hP hD hl => va_runS (As := [.int v]) (rest := []) F (ct_X_isTime l D cA v H.size) ⟨callB_of 1 F.2.2.2.2 (gd k_169) rfl rfl rfl (F.2.2.2.2 _ (wm k_1)) (F.2.2.2.2 _ (wm k_167)) (by decide +kernel) ⟨by decide, by decide⟩, F.2.2.2.2 _ (wm k_168)⟩ (pre_S hK hN hP hD [] rfl (by decide)) rfl rfl hl.1 rfl (lv_room (Nat.le_of_ble_eq_true rfl)) d_X_event_12 ⟨by decide, by decide⟩) (fun r12 u12 hw12 => ?_)
    subst hw12
    refine j_ws (ws' := [(x0, .inr (5, [.ref a0, .ref y1, .ref y2, .ref y3, .ref y4, .ref y5, .int now, .int rf])), (a0, .inr (0, [.ref a1, .ref a2, .ref a3, .ref a4, .ref a5, .int (nI n)])), (a1, .inl (cA, 80, .inl (X 0))), (a2, .inl (cA, 80, .inl (X 1))), (a3, .inl (cA, 80, .inl (X 2))), (a4, .inl (cA, 80, .inl (X 3))), (a5, .inl (cA, 80, .inl (X 4)))]) [0, 1, 2, 3, 4, 5, 6] (by decide) rfl ?_
    refine j_if_eq (tgt := 31) F d_X_event_15 (by decide) (fun c_15 => ?_) (fun c_15 => ?_)
    · exact absurd (bI_0 c_15) (by rw [hok2]; decide)
    · refine j_aloadn F d_X_event_18 0 rfl rfl ?_
      refine j_get (ci := 5) (v := .ref a0) F in_X hK 0 rfl rfl 0 (by decide) (wm k_134) rfl d_X_event_19 ?_
      refine j_iloadn F d_X_event_22 1 rfl rfl ?_
      refine j_iloadn F d_X_event_23 2 rfl rfl ?_
      refine j_iloadn F d_X_event_24 3 rfl rfl ?_
      refine j_goi (wc := [(a0, .inr (0, [.ref a1, .ref a2, .ref a3, .ref a4, .ref a5, .int (nI n)])), (a1, .inl (cA, 80, .inl (X 0))), (a2, .inl (cA, 80, .inl (X 1))), (a3, .inl (cA, 80, .inl (X 2))), (a4, .inl (cA, 80, .inl (X 3))), (a5, .inl (cA, 80, .inl (X 4)))]) (wr := [(x0, .inr (5, [.ref a0, .ref y1, .ref y2, .ref y3, .ref y4, .ref y5, .int now, .int rf]))]) hA [1, 2, 3, 4, 5, 6] [0] rfl rfl (by decide) (by decide) (fun H locs ls hP hD hl => va_runVN (As := [.int kd, .int a, .int b]) (rest := []) F (ct_A_canTell l D cA a0 a1 a2 a3 a4 a5 X n (by omega) kd a b H.size) ⟨va_cnB 3 F.2.2.2.2 (gd k_176) rfl rfl rfl (hN _ n_173).1 (F.2.2.2.2 _ (wm k_2)) (by decide +kernel) ⟨by decide, by decide⟩, F.2.2.2.2 _ (wm k_175), F.2.2.2.2 _ (wm ks_1)⟩ (pre_V rfl hK hN hP hD [1, 2, 3, 4, 5, 6] rfl (by decide) 1 rfl rfl) rfl rfl hl.1 rfl (lv_room (Nat.le_of_ble_eq_true rfl)) d_X_event_25 ⟨by decide, by decide⟩) (fun r25 u25 hw25 => ?_)
      subst hw25
      refine j_ws (ws' := [(x0, .inr (5, [.ref a0, .ref y1, .ref y2, .ref y3, .ref y4, .ref y5, .int now, .int rf])), (a0, .inr (0, [.ref a1, .ref a2, .ref a3, .ref a4, .ref a5, .int (nI n)])), (a1, .inl (cA, 80, .inl (X 0))), (a2, .inl (cA, 80, .inl (X 1))), (a3, .inl (cA, 80, .inl (X 2))), (a4, .inl (cA, 80, .inl (X 3))), (a5, .inl (cA, 80, .inl (X 4)))]) [0, 1, 2, 3, 4, 5, 6] (by decide) rfl ?_
      refine j_if_ne (tgt := 43) F d_X_event_28 (by decide) (fun c_28 => ?_) (fun c_28 => ?_)
      · refine j_aloadn F d_X_event_43 0 rfl rfl ?_
        refine j_get (ci := 5) (v := .ref a0) F in_X hK 0 rfl rfl 0 (by decide) (wm k_134) rfl d_X_event_44 ?_
        refine j_iloadn F d_X_event_47 1 rfl rfl ?_
        refine j_iloadn F d_X_event_48 2 rfl rfl ?_
        refine j_iloadn F d_X_event_49 3 rfl rfl ?_
        refine j_iload F d_X_event_50 4 rfl ?_
        refine j_aloadn F d_X_event_52 0 rfl rfl ?_
        refine j_get (ci := 5) (v := .int now) F in_X hK 0 rfl rfl 6 (by decide) (wm k_140) rfl d_X_event_53 ?_
        refine j_goi (wc := [(a0, .inr (0, [.ref a1, .ref a2, .ref a3, .ref a4, .ref a5, .int (nI n)])), (a1, .inl (cA, 80, .inl (X 0))), (a2, .inl (cA, 80, .inl (X 1))), (a3, .inl (cA, 80, .inl (X 2))), (a4, .inl (cA, 80, .inl (X 3))), (a5, .inl (cA, 80, .inl (X 4)))]) (wr := [(x0, .inr (5, [.ref a0, .ref y1, .ref y2, .ref y3, .ref y4, .ref y5, .int now, .int rf]))]) hA [1, 2, 3, 4, 5, 6] [0] rfl rfl (by decide) (by decide) (fun H locs ls hP hD hl => va_runVN (As := [.int kd, .int a, .int b, .int v, .int now]) (rest := []) F (ct_A_append l D cA a0 a1 a2 a3 a4 a5 X n (by omega) kd a b v now H.size) ⟨va_cnB 5 F.2.2.2.2 (gd k_187) rfl rfl rfl (hN _ n_184).1 (F.2.2.2.2 _ (wm k_2)) (by decide +kernel) ⟨by decide, by decide⟩, F.2.2.2.2 _ (wm k_186), F.2.2.2.2 _ (wm ks_3)⟩ (pre_V rfl hK hN hP hD [1, 2, 3, 4, 5, 6] rfl (by decide) 1 rfl rfl) rfl rfl hl.1 rfl (lv_room (Nat.le_of_ble_eq_true rfl)) d_X_event_56 ⟨by decide, by decide⟩) (fun r56 u56 hw56 => ?_)
        subst hw56
        refine j_ws (ws' := [(x0, .inr (5, [.ref a0, .ref y1, .ref y2, .ref y3, .ref y4, .ref y5, .int now, .int rf])), (a0, .inr (0, [.ref a1, .ref a2, .ref a3, .ref a4, .ref a5, .int (nI (n + 1))])), (a1, .inl (cA, 80, .inl ((apnd X n kd a b v now) 0))), (a2, .inl (cA, 80, .inl ((apnd X n kd a b v now) 1))), (a3, .inl (cA, 80, .inl ((apnd X n kd a b v now) 2))), (a4, .inl (cA, 80, .inl ((apnd X n kd a b v now) 3))), (a5, .inl (cA, 80, .inl ((apnd X n kd a b v now) 4)))]) [0, 1, 2, 3, 4, 5, 6] (by decide) rfl ?_
        exact ret _ _ _ _ _ _ () d_X_event_59 rfl (by decide) (by decide) rfl rfl
      · exact absurd (bI_0 c_28) (by rw [hok3]; decide)

set_option maxHeartbeats 4000000 in
set_option maxRecDepth 100000 in
theorem ct_X_event_no (l : Launch) (D : va_G) (cA : ClassId) (x0 y1 y2 y3 y4 y5 : Nat) (now rf : Int32) (a0 a1 a2 a3 a4 a5 : Nat) (X : AF) (n : Nat) (hA0 : aok X n) (kd a b v : Int32) (hok : (decide (80 ≤ n) || (!win v (nI 0) (nI 10000) || !tellB X n kd a b)) = true) : Ci (S := Unit) l y_X_event (Cond.code y_X_event c_X_event 5 (some .int) :: WD) rm_X_event D vwCl [(cA, .int)] nws [.ref x0, .int kd, .int a, .int b, .int v] [(x0, .inr (5, [.ref a0, .ref y1, .ref y2, .ref y3, .ref y4, .ref y5, .int now, .int rf])), (a0, .inr (0, [.ref a1, .ref a2, .ref a3, .ref a4, .ref a5, .int (nI n)])), (a1, .inl (cA, 80, .inl (X 0))), (a2, .inl (cA, 80, .inl (X 1))), (a3, .inl (cA, 80, .inl (X 2))), (a4, .inl (cA, 80, .inl (X 3))), (a5, .inl (cA, 80, .inl (X 4)))] 0 0 (fun r _ => r = -1) (fun _ => [(x0, .inr (5, [.ref a0, .ref y1, .ref y2, .ref y3, .ref y4, .ref y5, .int now, .int (rf + nI 1)])), (a0, .inr (0, [.ref a1, .ref a2, .ref a3, .ref a4, .ref a5, .int (nI n)])), (a1, .inl (cA, 80, .inl (X 0))), (a2, .inl (cA, 80, .inl (X 1))), (a3, .inl (cA, 80, .inl (X 2))), (a4, .inl (cA, 80, .inl (X 3))), (a5, .inl (cA, 80, .inl (X 4)))]) := by
  refine Ci.of (cc := c_X_event) (nL := 5) (lv := [(0, .ref x0), (1, .int kd), (2, .int a), (3, .int b), (4, .int v)]) (by decide) rfl (Nat.le_of_ble_eq_true rfl) rfl ?_
  intro p e s m args below meth cd A Q F hK hN hA ret
  have h80 := hA0.1
  refine j_aloadn F d_X_event_0 0 rfl rfl ?_
  refine j_get (ci := 5) (v := .ref a0) F in_X hK 0 rfl rfl 0 (by decide) (wm k_134) rfl d_X_event_1 ?_
  refine j_goi (wc := [(a0, .inr (0, [.ref a1, .ref a2, .ref a3, .ref a4, .ref a5, .int (nI n)])), (a1, .inl (cA, 80, .inl (X 0))), (a2, .inl (cA, 80, .inl (X 1))), (a3, .inl (cA, 80, .inl (X 2))), (a4, .inl (cA, 80, .inl (X 3))), (a5, .inl (cA, 80, .inl (X 4)))]) (wr := [(x0, .inr (5, [.ref a0, .ref y1, .ref y2, .ref y3, .ref y4, .ref y5, .int now, .int rf]))]) hA [1, 2, 3, 4, 5, 6] [0] rfl rfl (by decide) (by decide) (fun H locs ls hP hD hl => va_runVN (As := []) (rest := []) F (ct_A_isFull l D cA a0 a1 a2 a3 a4 a5 X n (by omega) H.size) ⟨va_cnB 0 F.2.2.2.2 (gd k_166) rfl rfl rfl (hN _ n_163).1 (F.2.2.2.2 _ (wm k_2)) (by decide +kernel) ⟨by decide, by decide⟩, F.2.2.2.2 _ (wm k_165), F.2.2.2.2 _ (wm ks_0)⟩ (pre_V rfl hK hN hP hD [1, 2, 3, 4, 5, 6] rfl (by decide) 1 rfl rfl) rfl rfl hl.1 rfl (lv_room (Nat.le_of_ble_eq_true rfl)) d_X_event_4 ⟨by decide, by decide⟩) (fun r4 u4 hw4 => ?_)
  subst hw4
  refine j_ws (ws' := [(x0, .inr (5, [.ref a0, .ref y1, .ref y2, .ref y3, .ref y4, .ref y5, .int now, .int rf])), (a0, .inr (0, [.ref a1, .ref a2, .ref a3, .ref a4, .ref a5, .int (nI n)])), (a1, .inl (cA, 80, .inl (X 0))), (a2, .inl (cA, 80, .inl (X 1))), (a3, .inl (cA, 80, .inl (X 2))), (a4, .inl (cA, 80, .inl (X 3))), (a5, .inl (cA, 80, .inl (X 4)))]) [0, 1, 2, 3, 4, 5, 6] (by decide) rfl ?_
  refine j_if_ne (tgt := 31) F d_X_event_7 (by decide) (fun c_7 => ?_) (fun c_7 => ?_)
  · refine j_aloadn F d_X_event_31 0 rfl rfl ?_
    refine j_dup F d_X_event_32 rfl ?_
    refine j_get (ci := 5) (v := .int rf) F in_X hK 0 rfl rfl 7 (by decide) (wm k_141) rfl d_X_event_33 ?_
    refine j_iconst (v := nI 1) F d_X_event_36 (by decide) ?_
    refine j_iadd (v := rf + (nI 1)) F d_X_event_37 rfl ?_
    refine j_put (ci := 5) (v := .int (rf + (nI 1))) (ty := .int) (ws' := [(x0, .inr (5, [.ref a0, .ref y1, .ref y2, .ref y3, .ref y4, .ref y5, .int now, .int (rf + (nI 1))])), (a0, .inr (0, [.ref a1, .ref a2, .ref a3, .ref a4, .ref a5, .int (nI n)])), (a1, .inl (cA, 80, .inl (X 0))), (a2, .inl (cA, 80, .inl (X 1))), (a3, .inl (cA, 80, .inl (X 2))), (a4, .inl (cA, 80, .inl (X 3))), (a5, .inl (cA, 80, .inl (X 4)))]) F in_X ty_X tk_X nm_X hK 0 rfl rfl 7 (by decide) (wm k_141) rfl (by decide +kernel) rfl rfl (Nat.le_of_ble_eq_true rfl) d_X_event_38 rfl ?_
    refine j_iconst (v := (-1)) F d_X_event_41 (by decide) ?_
    exact ret _ _ _ _ _ _ () d_X_event_42 rfl (by decide) (by decide) rfl rfl
  · have e1 := bI_0 c_7
    refine j_iload F d_X_event_10 4 rfl ?_
    refine j_goi (wc := []) (wr := [(x0, .inr (5, [.ref a0, .ref y1, .ref y2, .ref y3, .ref y4, .ref y5, .int now, .int rf])), (a0, .inr (0, [.ref a1, .ref a2, .ref a3, .ref a4, .ref a5, .int (nI n)])), (a1, .inl (cA, 80, .inl (X 0))), (a2, .inl (cA, 80, .inl (X 1))), (a3, .inl (cA, 80, .inl (X 2))), (a4, .inl (cA, 80, .inl (X 3))), (a5, .inl (cA, 80, .inl (X 4)))]) hA [] [0, 1, 2, 3, 4, 5, 6] rfl rfl (by decide) (by decide) (fun H locs ls hP hD hl => va_runS (As := [.int v]) (rest := []) F (ct_X_isTime l D cA v H.size) ⟨callB_of 1 F.2.2.2.2 (gd k_169) rfl rfl rfl (F.2.2.2.2 _ (wm k_1)) (F.2.2.2.2 _ (wm k_167)) (by decide +kernel) ⟨by decide, by decide⟩, F.2.2.2.2 _ (wm k_168)⟩ (pre_S hK hN hP hD [] rfl (by decide)) rfl rfl hl.1 rfl (lv_room (Nat.le_of_ble_eq_true rfl)) d_X_event_12 ⟨by decide, by decide⟩) (fun r12 u12 hw12 => ?_)
    subst hw12
    refine j_ws (ws' := [(x0, .inr (5, [.ref a0, .ref y1, .ref y2, .ref y3, .ref y4, .ref y5, .int now, .int rf])), (a0, .inr (0, [.ref a1, .ref a2, .ref a3, .ref a4, .ref a5, .int (nI n)])), (a1, .inl (cA, 80, .inl (X 0))), (a2, .inl (cA, 80, .inl (X 1))), (a3, .inl (cA, 80, .inl (X 2))), (a4, .inl (cA, 80, .inl (X 3))), (a5, .inl (cA, 80, .inl (X 4)))]) [0, 1, 2, 3, 4, 5, 6] (by decide) rfl ?_
    refine j_if_eq (tgt := 31) F d_X_event_15 (by decide) (fun c_15 => ?_) (fun c_15 => ?_)
    · refine j_aloadn F d_X_event_31 0 rfl rfl ?_
      refine j_dup F d_X_event_32 rfl ?_
      refine j_get (ci := 5) (v := .int rf) F in_X hK 0 rfl rfl 7 (by decide) (wm k_141) rfl d_X_event_33 ?_
      refine j_iconst (v := nI 1) F d_X_event_36 (by decide) ?_
      refine j_iadd (v := rf + (nI 1)) F d_X_event_37 rfl ?_
      refine j_put (ci := 5) (v := .int (rf + (nI 1))) (ty := .int) (ws' := [(x0, .inr (5, [.ref a0, .ref y1, .ref y2, .ref y3, .ref y4, .ref y5, .int now, .int (rf + (nI 1))])), (a0, .inr (0, [.ref a1, .ref a2, .ref a3, .ref a4, .ref a5, .int (nI n)])), (a1, .inl (cA, 80, .inl (X 0))), (a2, .inl (cA, 80, .inl (X 1))), (a3, .inl (cA, 80, .inl (X 2))), (a4, .inl (cA, 80, .inl (X 3))), (a5, .inl (cA, 80, .inl (X 4)))]) F in_X ty_X tk_X nm_X hK 0 rfl rfl 7 (by decide) (wm k_141) rfl (by decide +kernel) rfl rfl (Nat.le_of_ble_eq_true rfl) d_X_event_38 rfl ?_
      refine j_iconst (v := (-1)) F d_X_event_41 (by decide) ?_
      exact ret _ _ _ _ _ _ () d_X_event_42 rfl (by decide) (by decide) rfl rfl
    · have e2 := bI_1 c_15
      refine j_aloadn F d_X_event_18 0 rfl rfl ?_
      refine j_get (ci := 5) (v := .ref a0) F in_X hK 0 rfl rfl 0 (by decide) (wm k_134) rfl d_X_event_19 ?_
      refine j_iloadn F d_X_event_22 1 rfl rfl ?_
      refine j_iloadn F d_X_event_23 2 rfl rfl ?_
      refine j_iloadn F d_X_event_24 3 rfl rfl ?_
      refine j_goi (wc := [(a0, .inr (0, [.ref a1, .ref a2, .ref a3, .ref a4, .ref a5, .int (nI n)])), (a1, .inl (cA, 80, .inl (X 0))), (a2, .inl (cA, 80, .inl (X 1))), (a3, .inl (cA, 80, .inl (X 2))), (a4, .inl (cA, 80, .inl (X 3))), (a5, .inl (cA, 80, .inl (X 4)))]) (wr := [(x0, .inr (5, [.ref a0, .ref y1, .ref y2, .ref y3, .ref y4, .ref y5, .int now, .int rf]))]) hA [1, 2, 3, 4, 5, 6] [0] rfl rfl (by decide) (by decide) (fun H locs ls hP hD hl => va_runVN (As := [.int kd, .int a, .int b]) (rest := []) F (ct_A_canTell l D cA a0 a1 a2 a3 a4 a5 X n (by omega) kd a b H.size) ⟨va_cnB 3 F.2.2.2.2 (gd k_176) rfl rfl rfl (hN _ n_173).1 (F.2.2.2.2 _ (wm k_2)) (by decide +kernel) ⟨by decide, by decide⟩, F.2.2.2.2 _ (wm k_175), F.2.2.2.2 _ (wm ks_1)⟩ (pre_V rfl hK hN hP hD [1, 2, 3, 4, 5, 6] rfl (by decide) 1 rfl rfl) rfl rfl hl.1 rfl (lv_room (Nat.le_of_ble_eq_true rfl)) d_X_event_25 ⟨by decide, by decide⟩) (fun r25 u25 hw25 => ?_)
      subst hw25
      refine j_ws (ws' := [(x0, .inr (5, [.ref a0, .ref y1, .ref y2, .ref y3, .ref y4, .ref y5, .int now, .int rf])), (a0, .inr (0, [.ref a1, .ref a2, .ref a3, .ref a4, .ref a5, .int (nI n)])), (a1, .inl (cA, 80, .inl (X 0))), (a2, .inl (cA, 80, .inl (X 1))), (a3, .inl (cA, 80, .inl (X 2))), (a4, .inl (cA, 80, .inl (X 3))), (a5, .inl (cA, 80, .inl (X 4)))]) [0, 1, 2, 3, 4, 5, 6] (by decide) rfl ?_
      refine j_if_ne (tgt := 43) F d_X_event_28 (by decide) (fun c_28 => ?_) (fun c_28 => ?_)
      · exact absurd hok (by rw [e1, e2, bI_1 c_28]; decide)
      · refine j_aloadn F d_X_event_31 0 rfl rfl ?_
        refine j_dup F d_X_event_32 rfl ?_
        refine j_get (ci := 5) (v := .int rf) F in_X hK 0 rfl rfl 7 (by decide) (wm k_141) rfl d_X_event_33 ?_
        refine j_iconst (v := nI 1) F d_X_event_36 (by decide) ?_
        refine j_iadd (v := rf + (nI 1)) F d_X_event_37 rfl ?_
        refine j_put (ci := 5) (v := .int (rf + (nI 1))) (ty := .int) (ws' := [(x0, .inr (5, [.ref a0, .ref y1, .ref y2, .ref y3, .ref y4, .ref y5, .int now, .int (rf + (nI 1))])), (a0, .inr (0, [.ref a1, .ref a2, .ref a3, .ref a4, .ref a5, .int (nI n)])), (a1, .inl (cA, 80, .inl (X 0))), (a2, .inl (cA, 80, .inl (X 1))), (a3, .inl (cA, 80, .inl (X 2))), (a4, .inl (cA, 80, .inl (X 3))), (a5, .inl (cA, 80, .inl (X 4)))]) F in_X ty_X tk_X nm_X hK 0 rfl rfl 7 (by decide) (wm k_141) rfl (by decide +kernel) rfl rfl (Nat.le_of_ble_eq_true rfl) d_X_event_38 rfl ?_
        refine j_iconst (v := (-1)) F d_X_event_41 (by decide) ?_
        exact ret _ _ _ _ _ _ () d_X_event_42 rfl (by decide) (by decide) rfl rfl

def rm_X_known : Room := { frames := 2, cells := 0, slots := 0, locals := 42 }
set_option maxHeartbeats 4000000 in
set_option maxRecDepth 100000 in
theorem ct_X_known_ok (l : Launch) (D : va_G) (cA : ClassId) (x0 y1 y2 y3 y4 y5 : Nat) (now rf : Int32) (a0 a1 a2 a3 a4 a5 : Nat) (X : AF) (n : Nat) (hA0 : aok X n) (t : Int32) (hok : (win t (nI 0) (nI 10000) && decide (now ≤ t)) = true) : Ci (S := Unit) l y_X_known (Cond.code y_X_known c_X_known 2 (some .boolean) :: WD) rm_X_known D vwCl [(cA, .int)] nws [.ref x0, .int t] [(x0, .inr (5, [.ref a0, .ref y1, .ref y2, .ref y3, .ref y4, .ref y5, .int now, .int rf])), (a0, .inr (0, [.ref a1, .ref a2, .ref a3, .ref a4, .ref a5, .int (nI n)])), (a1, .inl (cA, 80, .inl (X 0))), (a2, .inl (cA, 80, .inl (X 1))), (a3, .inl (cA, 80, .inl (X 2))), (a4, .inl (cA, 80, .inl (X 3))), (a5, .inl (cA, 80, .inl (X 4)))] 0 0 (fun r _ => r = bI true) (fun _ => [(x0, .inr (5, [.ref a0, .ref y1, .ref y2, .ref y3, .ref y4, .ref y5, .int t, .int rf])), (a0, .inr (0, [.ref a1, .ref a2, .ref a3, .ref a4, .ref a5, .int (nI n)])), (a1, .inl (cA, 80, .inl (X 0))), (a2, .inl (cA, 80, .inl (X 1))), (a3, .inl (cA, 80, .inl (X 2))), (a4, .inl (cA, 80, .inl (X 3))), (a5, .inl (cA, 80, .inl (X 4)))]) := by
  refine Ci.of (cc := c_X_known) (nL := 2) (lv := [(0, .ref x0), (1, .int t)]) (by decide) rfl (Nat.le_of_ble_eq_true rfl) rfl ?_
  intro p e s m args below meth cd A Q F hK hN hA ret
  rw [Bool.and_eq_true] at hok
  refine j_iloadn F d_X_known_0 1 rfl rfl ?_
  refine j_goi (wc := []) (wr := [(x0, .inr (5, [.ref a0, .ref y1, .ref y2, .ref y3, .ref y4, .ref y5, .int now, .int rf])), (a0, .inr (0, [.ref a1, .ref a2, .ref a3, .ref a4, .ref a5, .int (nI n)])), (a1, .inl (cA, 80, .inl (X 0))), (a2, .inl (cA, 80, .inl (X 1))), (a3, .inl (cA, 80, .inl (X 2))), (a4, .inl (cA, 80, .inl (X 3))), (a5, .inl (cA, 80, .inl (X 4)))]) hA [] [0, 1, 2, 3, 4, 5, 6] rfl rfl (by decide) (by decide) (fun H locs ls hP hD hl => va_runS (As := [.int t]) (rest := []) F (ct_X_isTime l D cA t H.size) ⟨callB_of 1 F.2.2.2.2 (gd k_169) rfl rfl rfl (F.2.2.2.2 _ (wm k_1)) (F.2.2.2.2 _ (wm k_167)) (by decide +kernel) ⟨by decide, by decide⟩, F.2.2.2.2 _ (wm k_168)⟩ (pre_S hK hN hP hD [] rfl (by decide)) rfl rfl hl.1 rfl (lv_room (Nat.le_of_ble_eq_true rfl)) d_X_known_1 ⟨by decide, by decide⟩) (fun r1 u1 hw1 => ?_)
  subst hw1
  refine j_ws (ws' := [(x0, .inr (5, [.ref a0, .ref y1, .ref y2, .ref y3, .ref y4, .ref y5, .int now, .int rf])), (a0, .inr (0, [.ref a1, .ref a2, .ref a3, .ref a4, .ref a5, .int (nI n)])), (a1, .inl (cA, 80, .inl (X 0))), (a2, .inl (cA, 80, .inl (X 1))), (a3, .inl (cA, 80, .inl (X 2))), (a4, .inl (cA, 80, .inl (X 3))), (a5, .inl (cA, 80, .inl (X 4)))]) [0, 1, 2, 3, 4, 5, 6] (by decide) rfl ?_
  refine j_if_eq (tgt := 15) F d_X_known_4 (by decide) (fun c_4 => ?_) (fun c_4 => ?_)
  · exact absurd (bI_0 c_4) (by rw [hok.1]; decide)
  · refine j_iloadn F d_X_known_7 1 rfl rfl ?_
    refine j_aloadn F d_X_known_8 0 rfl rfl ?_
    refine j_get (ci := 5) (v := .int now) F in_X hK 0 rfl rfl 6 (by decide) (wm k_140) rfl d_X_known_9 ?_
    refine j_ic_ge (tgt := 27) F d_X_known_12 (by decide) (fun c_12 => ?_) (fun c_12 => ?_)
    · refine j_aloadn F d_X_known_27 0 rfl rfl ?_
      refine j_iloadn F d_X_known_28 1 rfl rfl ?_
      refine j_put (ci := 5) (v := .int t) (ty := .int) (ws' := [(x0, .inr (5, [.ref a0, .ref y1, .ref y2, .ref y3, .ref y4, .ref y5, .int t, .int rf])), (a0, .inr (0, [.ref a1, .ref a2, .ref a3, .ref a4, .ref a5, .int (nI n)])), (a1, .inl (cA, 80, .inl (X 0))), (a2, .inl (cA, 80, .inl (X 1))), (a3, .inl (cA, 80, .inl (X 2))), (a4, .inl (cA, 80, .inl (X 3))), (a5, .inl (cA, 80, .inl (X 4)))]) F in_X ty_X tk_X nm_X hK 0 rfl rfl 6 (by decide) (wm k_140) rfl (by decide +kernel) rfl rfl (Nat.le_of_ble_eq_true rfl) d_X_known_29 rfl ?_
      refine j_iconst (v := nI 1) F d_X_known_32 (by decide) ?_
      exact ret _ _ _ _ _ _ () d_X_known_33 rfl (by decide) (by decide) rfl rfl
    · exact absurd (of_decide_eq_true hok.2) c_12

set_option maxHeartbeats 4000000 in
set_option maxRecDepth 100000 in
theorem ct_X_known_no (l : Launch) (D : va_G) (cA : ClassId) (x0 y1 y2 y3 y4 y5 : Nat) (now rf : Int32) (a0 a1 a2 a3 a4 a5 : Nat) (X : AF) (n : Nat) (hA0 : aok X n) (t : Int32) (hok : (win t (nI 0) (nI 10000) && decide (now ≤ t)) = false) : Ci (S := Unit) l y_X_known (Cond.code y_X_known c_X_known 2 (some .boolean) :: WD) rm_X_known D vwCl [(cA, .int)] nws [.ref x0, .int t] [(x0, .inr (5, [.ref a0, .ref y1, .ref y2, .ref y3, .ref y4, .ref y5, .int now, .int rf])), (a0, .inr (0, [.ref a1, .ref a2, .ref a3, .ref a4, .ref a5, .int (nI n)])), (a1, .inl (cA, 80, .inl (X 0))), (a2, .inl (cA, 80, .inl (X 1))), (a3, .inl (cA, 80, .inl (X 2))), (a4, .inl (cA, 80, .inl (X 3))), (a5, .inl (cA, 80, .inl (X 4)))] 0 0 (fun r _ => r = bI false) (fun _ => [(x0, .inr (5, [.ref a0, .ref y1, .ref y2, .ref y3, .ref y4, .ref y5, .int now, .int (rf + nI 1)])), (a0, .inr (0, [.ref a1, .ref a2, .ref a3, .ref a4, .ref a5, .int (nI n)])), (a1, .inl (cA, 80, .inl (X 0))), (a2, .inl (cA, 80, .inl (X 1))), (a3, .inl (cA, 80, .inl (X 2))), (a4, .inl (cA, 80, .inl (X 3))), (a5, .inl (cA, 80, .inl (X 4)))]) := by
  refine Ci.of (cc := c_X_known) (nL := 2) (lv := [(0, .ref x0), (1, .int t)]) (by decide) rfl (Nat.le_of_ble_eq_true rfl) rfl ?_
  intro p e s m args below meth cd A Q F hK hN hA ret
  refine j_iloadn F d_X_known_0 1 rfl rfl ?_
  refine j_goi (wc := []) (wr := [(x0, .inr (5, [.ref a0, .ref y1, .ref y2, .ref y3, .ref y4, .ref y5, .int now, .int rf])), (a0, .inr (0, [.ref a1, .ref a2, .ref a3, .ref a4, .ref a5, .int (nI n)])), (a1, .inl (cA, 80, .inl (X 0))), (a2, .inl (cA, 80, .inl (X 1))), (a3, .inl (cA, 80, .inl (X 2))), (a4, .inl (cA, 80, .inl (X 3))), (a5, .inl (cA, 80, .inl (X 4)))]) hA [] [0, 1, 2, 3, 4, 5, 6] rfl rfl (by decide) (by decide) (fun H locs ls hP hD hl => va_runS (As := [.int t]) (rest := []) F (ct_X_isTime l D cA t H.size) ⟨callB_of 1 F.2.2.2.2 (gd k_169) rfl rfl rfl (F.2.2.2.2 _ (wm k_1)) (F.2.2.2.2 _ (wm k_167)) (by decide +kernel) ⟨by decide, by decide⟩, F.2.2.2.2 _ (wm k_168)⟩ (pre_S hK hN hP hD [] rfl (by decide)) rfl rfl hl.1 rfl (lv_room (Nat.le_of_ble_eq_true rfl)) d_X_known_1 ⟨by decide, by decide⟩) (fun r1 u1 hw1 => ?_)
  subst hw1
  refine j_ws (ws' := [(x0, .inr (5, [.ref a0, .ref y1, .ref y2, .ref y3, .ref y4, .ref y5, .int now, .int rf])), (a0, .inr (0, [.ref a1, .ref a2, .ref a3, .ref a4, .ref a5, .int (nI n)])), (a1, .inl (cA, 80, .inl (X 0))), (a2, .inl (cA, 80, .inl (X 1))), (a3, .inl (cA, 80, .inl (X 2))), (a4, .inl (cA, 80, .inl (X 3))), (a5, .inl (cA, 80, .inl (X 4)))]) [0, 1, 2, 3, 4, 5, 6] (by decide) rfl ?_
  refine j_if_eq (tgt := 15) F d_X_known_4 (by decide) (fun c_4 => ?_) (fun c_4 => ?_)
  · refine j_aloadn F d_X_known_15 0 rfl rfl ?_
    refine j_dup F d_X_known_16 rfl ?_
    refine j_get (ci := 5) (v := .int rf) F in_X hK 0 rfl rfl 7 (by decide) (wm k_141) rfl d_X_known_17 ?_
    refine j_iconst (v := nI 1) F d_X_known_20 (by decide) ?_
    refine j_iadd (v := rf + (nI 1)) F d_X_known_21 rfl ?_
    refine j_put (ci := 5) (v := .int (rf + (nI 1))) (ty := .int) (ws' := [(x0, .inr (5, [.ref a0, .ref y1, .ref y2, .ref y3, .ref y4, .ref y5, .int now, .int (rf + (nI 1))])), (a0, .inr (0, [.ref a1, .ref a2, .ref a3, .ref a4, .ref a5, .int (nI n)])), (a1, .inl (cA, 80, .inl (X 0))), (a2, .inl (cA, 80, .inl (X 1))), (a3, .inl (cA, 80, .inl (X 2))), (a4, .inl (cA, 80, .inl (X 3))), (a5, .inl (cA, 80, .inl (X 4)))]) F in_X ty_X tk_X nm_X hK 0 rfl rfl 7 (by decide) (wm k_141) rfl (by decide +kernel) rfl rfl (Nat.le_of_ble_eq_true rfl) d_X_known_22 rfl ?_
    refine j_iconst (v := nI 0) F d_X_known_25 (by decide) ?_
    exact ret _ _ _ _ _ _ () d_X_known_26 rfl (by decide) (by decide) rfl rfl
  · have e1 := bI_1 c_4
    refine j_iloadn F d_X_known_7 1 rfl rfl ?_
    refine j_aloadn F d_X_known_8 0 rfl rfl ?_
    refine j_get (ci := 5) (v := .int now) F in_X hK 0 rfl rfl 6 (by decide) (wm k_140) rfl d_X_known_9 ?_
    refine j_ic_ge (tgt := 27) F d_X_known_12 (by decide) (fun c_12 => ?_) (fun c_12 => ?_)
    · exact absurd hok (by rw [e1, decide_eq_true c_12]; decide)
    · refine j_aloadn F d_X_known_15 0 rfl rfl ?_
      refine j_dup F d_X_known_16 rfl ?_
      refine j_get (ci := 5) (v := .int rf) F in_X hK 0 rfl rfl 7 (by decide) (wm k_141) rfl d_X_known_17 ?_
      refine j_iconst (v := nI 1) F d_X_known_20 (by decide) ?_
      refine j_iadd (v := rf + (nI 1)) F d_X_known_21 rfl ?_
      refine j_put (ci := 5) (v := .int (rf + (nI 1))) (ty := .int) (ws' := [(x0, .inr (5, [.ref a0, .ref y1, .ref y2, .ref y3, .ref y4, .ref y5, .int now, .int (rf + (nI 1))])), (a0, .inr (0, [.ref a1, .ref a2, .ref a3, .ref a4, .ref a5, .int (nI n)])), (a1, .inl (cA, 80, .inl (X 0))), (a2, .inl (cA, 80, .inl (X 1))), (a3, .inl (cA, 80, .inl (X 2))), (a4, .inl (cA, 80, .inl (X 3))), (a5, .inl (cA, 80, .inl (X 4)))]) F in_X ty_X tk_X nm_X hK 0 rfl rfl 7 (by decide) (wm k_141) rfl (by decide +kernel) rfl rfl (Nat.le_of_ble_eq_true rfl) d_X_known_22 rfl ?_
      refine j_iconst (v := nI 0) F d_X_known_25 (by decide) ?_
      exact ret _ _ _ _ _ _ () d_X_known_26 rfl (by decide) (by decide) rfl rfl

def rm_X_count : Room := { frames := 2, cells := 0, slots := 0, locals := 46 }
set_option maxHeartbeats 4000000 in
set_option maxRecDepth 100000 in
theorem ct_X_count (l : Launch) (D : va_G) (cA : ClassId) (x0 y1 y2 y3 y4 y5 : Nat) (now rf : Int32) (a0 a1 a2 a3 a4 a5 : Nat) (X : AF) (n : Nat) (hA0 : aok X n) (w : Int32) : Ci (S := Unit) l y_X_count (Cond.code y_X_count c_X_count 2 (some .int) :: WD) rm_X_count D vwCl [(cA, .int)] nws [.ref x0, .int w] [(x0, .inr (5, [.ref a0, .ref y1, .ref y2, .ref y3, .ref y4, .ref y5, .int now, .int rf])), (a0, .inr (0, [.ref a1, .ref a2, .ref a3, .ref a4, .ref a5, .int (nI n)])), (a1, .inl (cA, 80, .inl (X 0))), (a2, .inl (cA, 80, .inl (X 1))), (a3, .inl (cA, 80, .inl (X 2))), (a4, .inl (cA, 80, .inl (X 3))), (a5, .inl (cA, 80, .inl (X 4)))] 0 0 (fun r _ => r = cntP X n now rf w) (fun _ => [(x0, .inr (5, [.ref a0, .ref y1, .ref y2, .ref y3, .ref y4, .ref y5, .int now, .int rf])), (a0, .inr (0, [.ref a1, .ref a2, .ref a3, .ref a4, .ref a5, .int (nI n)])), (a1, .inl (cA, 80, .inl (X 0))), (a2, .inl (cA, 80, .inl (X 1))), (a3, .inl (cA, 80, .inl (X 2))), (a4, .inl (cA, 80, .inl (X 3))), (a5, .inl (cA, 80, .inl (X 4)))]) := by
  refine Ci.of (cc := c_X_count) (nL := 2) (lv := [(0, .ref x0), (1, .int w)]) (by decide) rfl (Nat.le_of_ble_eq_true rfl) rfl ?_
  intro p e s m args below meth cd A Q F hK hN hA ret
  refine j_iloadn F d_X_count_0 1 rfl rfl ?_
  have sw := jn_sw3 w
  rcases sw with hz | hz | hz | hz | hz
  · refine j_tabIn (tgt := 32) F d_X_count_1 0 hz.1 (by decide) (by decide) rfl (by decide) ?_
    refine j_aloadn F d_X_count_32 0 rfl rfl ?_
    refine j_get (ci := 5) (v := .ref a0) F in_X hK 0 rfl rfl 0 (by decide) (wm k_134) rfl d_X_count_33 ?_
    refine j_getN (ci := 0) (v := .int (nI n)) F in_A hK hN 1 rfl rfl 5 (by decide) n_49 rfl d_X_count_36 ?_
    exact ret _ _ _ _ _ _ () d_X_count_39 rfl (by decide) (by decide) rfl (by unfold cntP; rw [if_pos hz.2])
  · refine j_tabIn (tgt := 40) F d_X_count_1 1 hz.1 (by decide) (by decide) rfl (by decide) ?_
    refine j_aloadn F d_X_count_40 0 rfl rfl ?_
    refine j_get (ci := 5) (v := .int now) F in_X hK 0 rfl rfl 6 (by decide) (wm k_140) rfl d_X_count_41 ?_
    exact ret _ _ _ _ _ _ () d_X_count_44 rfl (by decide) (by decide) rfl (by unfold cntP; rw [if_neg (kne hz.2 (by decide) (by decide) (by decide)), if_pos hz.2])
  · refine j_tabIn (tgt := 45) F d_X_count_1 2 hz.1 (by decide) (by decide) rfl (by decide) ?_
    refine j_aloadn F d_X_count_45 0 rfl rfl ?_
    refine j_get (ci := 5) (v := .int rf) F in_X hK 0 rfl rfl 7 (by decide) (wm k_141) rfl d_X_count_46 ?_
    exact ret _ _ _ _ _ _ () d_X_count_49 rfl (by decide) (by decide) rfl (by unfold cntP; rw [if_neg (kne hz.2 (by decide) (by decide) (by decide)), if_neg (kne hz.2 (by decide) (by decide) (by decide)), if_pos hz.2])
  · refine j_tabIn (tgt := 50) F d_X_count_1 3 hz.1 (by decide) (by decide) rfl (by decide) ?_
    refine j_aloadn F d_X_count_50 0 rfl rfl ?_
    refine j_get (ci := 5) (v := .ref a0) F in_X hK 0 rfl rfl 0 (by decide) (wm k_134) rfl d_X_count_51 ?_
    refine j_aloadn F d_X_count_54 0 rfl rfl ?_
    refine j_get (ci := 5) (v := .int now) F in_X hK 0 rfl rfl 6 (by decide) (wm k_140) rfl d_X_count_55 ?_
    refine j_goi (wc := [(a0, .inr (0, [.ref a1, .ref a2, .ref a3, .ref a4, .ref a5, .int (nI n)])), (a1, .inl (cA, 80, .inl (X 0))), (a2, .inl (cA, 80, .inl (X 1))), (a3, .inl (cA, 80, .inl (X 2))), (a4, .inl (cA, 80, .inl (X 3))), (a5, .inl (cA, 80, .inl (X 4)))]) (wr := [(x0, .inr (5, [.ref a0, .ref y1, .ref y2, .ref y3, .ref y4, .ref y5, .int now, .int rf]))]) hA [1, 2, 3, 4, 5, 6] [0] rfl rfl (by decide) (by decide) (fun H locs ls hP hD hl => va_runVN (As := [.int now]) (rest := []) F (ct_A_voidsAsKnown l D cA a0 a1 a2 a3 a4 a5 X n hA0 now H.size) ⟨va_cnB 1 F.2.2.2.2 (gd k_200) rfl rfl rfl (hN _ n_197).1 (F.2.2.2.2 _ (wm k_2)) (by decide +kernel) ⟨by decide, by decide⟩, F.2.2.2.2 _ (wm k_199), F.2.2.2.2 _ (wm ks_4)⟩ (pre_V rfl hK hN hP hD [1, 2, 3, 4, 5, 6] rfl (by decide) 1 rfl rfl) rfl rfl hl.1 rfl (lv_room (Nat.le_of_ble_eq_true rfl)) d_X_count_58 ⟨by decide, by decide⟩) (fun r58 u58 hw58 => ?_)
    subst hw58
    refine j_ws (ws' := [(x0, .inr (5, [.ref a0, .ref y1, .ref y2, .ref y3, .ref y4, .ref y5, .int now, .int rf])), (a0, .inr (0, [.ref a1, .ref a2, .ref a3, .ref a4, .ref a5, .int (nI n)])), (a1, .inl (cA, 80, .inl (X 0))), (a2, .inl (cA, 80, .inl (X 1))), (a3, .inl (cA, 80, .inl (X 2))), (a4, .inl (cA, 80, .inl (X 3))), (a5, .inl (cA, 80, .inl (X 4)))]) [0, 1, 2, 3, 4, 5, 6] (by decide) rfl ?_
    exact ret _ _ _ _ _ _ () d_X_count_61 rfl (by decide) (by decide) rfl (by unfold cntP; rw [if_neg (kne hz.2 (by decide) (by decide) (by decide)), if_neg (kne hz.2 (by decide) (by decide) (by decide)), if_neg (kne hz.2 (by decide) (by decide) (by decide)), if_pos hz.2])
  · refine j_tabOut (tgt := 62) F d_X_count_1 hz.1 (by decide) ?_
    refine j_iconst (v := (-1)) F d_X_count_62 (by decide) ?_
    exact ret _ _ _ _ _ _ () d_X_count_63 rfl (by decide) (by decide) rfl (by unfold cntP; rw [if_neg (hz.2 0 (by decide)), if_neg (hz.2 1 (by decide)), if_neg (hz.2 2 (by decide)), if_neg (hz.2 3 (by decide))])

def rm_X_look : Room := { frames := 6, cells := 0, slots := 0, locals := 92 }
set_option maxHeartbeats 4000000 in
set_option maxRecDepth 100000 in
theorem ct_X_look (l : Launch) (D : va_G) (cA : ClassId) (x0 y1 y2 y3 y4 y5 : Nat) (now rf : Int32) (a0 a1 a2 a3 a4 a5 : Nat) (X : AF) (n : Nat) (hA0 : aok X n) (e0 : Nat) (he0 : e0 < n) (w : Int32) (hw : win w (nI 0) (nI 5) = true) : Ci (S := Unit) l y_X_look (Cond.code y_X_look c_X_look 3 (some .int) :: WD) rm_X_look D vwCl [(cA, .int)] nws [.ref x0, .int (nI e0), .int w] [(x0, .inr (5, [.ref a0, .ref y1, .ref y2, .ref y3, .ref y4, .ref y5, .int now, .int rf])), (a0, .inr (0, [.ref a1, .ref a2, .ref a3, .ref a4, .ref a5, .int (nI n)])), (a1, .inl (cA, 80, .inl (X 0))), (a2, .inl (cA, 80, .inl (X 1))), (a3, .inl (cA, 80, .inl (X 2))), (a4, .inl (cA, 80, .inl (X 3))), (a5, .inl (cA, 80, .inl (X 4)))] 0 0 (fun r _ => r = lkP X n now e0 w) (fun _ => [(x0, .inr (5, [.ref a0, .ref y1, .ref y2, .ref y3, .ref y4, .ref y5, .int now, .int rf])), (a0, .inr (0, [.ref a1, .ref a2, .ref a3, .ref a4, .ref a5, .int (nI n)])), (a1, .inl (cA, 80, .inl (X 0))), (a2, .inl (cA, 80, .inl (X 1))), (a3, .inl (cA, 80, .inl (X 2))), (a4, .inl (cA, 80, .inl (X 3))), (a5, .inl (cA, 80, .inl (X 4)))]) := by
  refine Ci.of (cc := c_X_look) (nL := 3) (lv := [(0, .ref x0), (1, .int (nI e0)), (2, .int w)]) (by decide) rfl (Nat.le_of_ble_eq_true rfl) rfl ?_
  intro p e s m args below meth cd A Q F hK hN hA ret
  have h80 := hA0.1
  refine j_aloadn F d_X_look_0 0 rfl rfl ?_
  refine j_get (ci := 5) (v := .ref a0) F in_X hK 0 rfl rfl 0 (by decide) (wm k_134) rfl d_X_look_1 ?_
  refine j_iloadn F d_X_look_4 1 rfl rfl ?_
  refine j_goi (wc := [(a0, .inr (0, [.ref a1, .ref a2, .ref a3, .ref a4, .ref a5, .int (nI n)])), (a1, .inl (cA, 80, .inl (X 0))), (a2, .inl (cA, 80, .inl (X 1))), (a3, .inl (cA, 80, .inl (X 2))), (a4, .inl (cA, 80, .inl (X 3))), (a5, .inl (cA, 80, .inl (X 4)))]) (wr := [(x0, .inr (5, [.ref a0, .ref y1, .ref y2, .ref y3, .ref y4, .ref y5, .int now, .int rf]))]) hA [1, 2, 3, 4, 5, 6] [0] rfl rfl (by decide) (by decide) (fun H locs ls hP hD hl => va_runVN (As := [.int (nI e0)]) (rest := []) F (ct_A_has l D cA a0 a1 a2 a3 a4 a5 X n (by omega) (nI e0) H.size) ⟨va_cnB 1 F.2.2.2.2 (gd k_183) rfl rfl rfl (hN _ n_431).1 (F.2.2.2.2 _ (wm k_2)) (by decide +kernel) ⟨by decide, by decide⟩, F.2.2.2.2 _ (wm k_182), F.2.2.2.2 _ (wm ks_2)⟩ (pre_V rfl hK hN hP hD [1, 2, 3, 4, 5, 6] rfl (by decide) 1 rfl rfl) rfl rfl hl.1 rfl (lv_room (Nat.le_of_ble_eq_true rfl)) d_X_look_5 ⟨by decide, by decide⟩) (fun r5 u5 hw5 => ?_)
  subst hw5
  refine j_ws (ws' := [(x0, .inr (5, [.ref a0, .ref y1, .ref y2, .ref y3, .ref y4, .ref y5, .int now, .int rf])), (a0, .inr (0, [.ref a1, .ref a2, .ref a3, .ref a4, .ref a5, .int (nI n)])), (a1, .inl (cA, 80, .inl (X 0))), (a2, .inl (cA, 80, .inl (X 1))), (a3, .inl (cA, 80, .inl (X 2))), (a4, .inl (cA, 80, .inl (X 3))), (a5, .inl (cA, 80, .inl (X 4)))]) [0, 1, 2, 3, 4, 5, 6] (by decide) rfl ?_
  refine j_if_ne (tgt := 21) F d_X_look_8 (by decide) (fun c_8 => ?_) (fun c_8 => ?_)
  · refine j_iloadn F d_X_look_21 2 rfl rfl ?_
    have sw := jn_sw5 w
    rcases sw with hz | hz | hz | hz | hz | hz | hz
    · refine j_tabIn (tgt := 60) F d_X_look_22 0 hz.1 (by decide) (by decide) rfl (by decide) ?_
      refine j_aloadn F d_X_look_60 0 rfl rfl ?_
      refine j_get (ci := 5) (v := .ref a0) F in_X hK 0 rfl rfl 0 (by decide) (wm k_134) rfl d_X_look_61 ?_
      refine j_getN (ci := 0) (v := .ref a1) F in_A hK hN 1 rfl rfl 0 (by decide) n_33 rfl d_X_look_64 ?_
      refine j_iloadn F d_X_look_67 1 rfl rfl ?_
      refine j_iald (v := (X 0) e0) F hK 2 0 rfl rfl (by omega) (by decide) d_X_look_68 rfl ?_
      exact ret _ _ _ _ _ _ () d_X_look_69 rfl (by decide) (by decide) rfl (by unfold lkP; rw [if_pos hz.2])
    · refine j_tabIn (tgt := 70) F d_X_look_22 1 hz.1 (by decide) (by decide) rfl (by decide) ?_
      refine j_aloadn F d_X_look_70 0 rfl rfl ?_
      refine j_get (ci := 5) (v := .ref a0) F in_X hK 0 rfl rfl 0 (by decide) (wm k_134) rfl d_X_look_71 ?_
      refine j_getN (ci := 0) (v := .ref a2) F in_A hK hN 1 rfl rfl 1 (by decide) n_37 rfl d_X_look_74 ?_
      refine j_iloadn F d_X_look_77 1 rfl rfl ?_
      refine j_iald (v := (X 1) e0) F hK 3 0 rfl rfl (by omega) (by decide) d_X_look_78 rfl ?_
      exact ret _ _ _ _ _ _ () d_X_look_79 rfl (by decide) (by decide) rfl (by unfold lkP; rw [if_neg (kne hz.2 (by decide) (by decide) (by decide)), if_pos hz.2])
    · refine j_tabIn (tgt := 80) F d_X_look_22 2 hz.1 (by decide) (by decide) rfl (by decide) ?_
      refine j_aloadn F d_X_look_80 0 rfl rfl ?_
      refine j_get (ci := 5) (v := .ref a0) F in_X hK 0 rfl rfl 0 (by decide) (wm k_134) rfl d_X_look_81 ?_
      refine j_getN (ci := 0) (v := .ref a3) F in_A hK hN 1 rfl rfl 2 (by decide) n_41 rfl d_X_look_84 ?_
      refine j_iloadn F d_X_look_87 1 rfl rfl ?_
      refine j_iald (v := (X 2) e0) F hK 4 0 rfl rfl (by omega) (by decide) d_X_look_88 rfl ?_
      exact ret _ _ _ _ _ _ () d_X_look_89 rfl (by decide) (by decide) rfl (by unfold lkP; rw [if_neg (kne hz.2 (by decide) (by decide) (by decide)), if_neg (kne hz.2 (by decide) (by decide) (by decide)), if_pos hz.2])
    · refine j_tabIn (tgt := 90) F d_X_look_22 3 hz.1 (by decide) (by decide) rfl (by decide) ?_
      refine j_aloadn F d_X_look_90 0 rfl rfl ?_
      refine j_get (ci := 5) (v := .ref a0) F in_X hK 0 rfl rfl 0 (by decide) (wm k_134) rfl d_X_look_91 ?_
      refine j_getN (ci := 0) (v := .ref a4) F in_A hK hN 1 rfl rfl 3 (by decide) n_44 rfl d_X_look_94 ?_
      refine j_iloadn F d_X_look_97 1 rfl rfl ?_
      refine j_iald (v := (X 3) e0) F hK 5 0 rfl rfl (by omega) (by decide) d_X_look_98 rfl ?_
      exact ret _ _ _ _ _ _ () d_X_look_99 rfl (by decide) (by decide) rfl (by unfold lkP; rw [if_neg (kne hz.2 (by decide) (by decide) (by decide)), if_neg (kne hz.2 (by decide) (by decide) (by decide)), if_neg (kne hz.2 (by decide) (by decide) (by decide)), if_pos hz.2])
    · refine j_tabIn (tgt := 100) F d_X_look_22 4 hz.1 (by decide) (by decide) rfl (by decide) ?_
      refine j_aloadn F d_X_look_100 0 rfl rfl ?_
      refine j_get (ci := 5) (v := .ref a0) F in_X hK 0 rfl rfl 0 (by decide) (wm k_134) rfl d_X_look_101 ?_
      refine j_getN (ci := 0) (v := .ref a5) F in_A hK hN 1 rfl rfl 4 (by decide) n_46 rfl d_X_look_104 ?_
      refine j_iloadn F d_X_look_107 1 rfl rfl ?_
      refine j_iald (v := (X 4) e0) F hK 6 0 rfl rfl (by omega) (by decide) d_X_look_108 rfl ?_
      exact ret _ _ _ _ _ _ () d_X_look_109 rfl (by decide) (by decide) rfl (by unfold lkP; rw [if_neg (kne hz.2 (by decide) (by decide) (by decide)), if_neg (kne hz.2 (by decide) (by decide) (by decide)), if_neg (kne hz.2 (by decide) (by decide) (by decide)), if_neg (kne hz.2 (by decide) (by decide) (by decide)), if_pos hz.2])
    · refine j_tabIn (tgt := 110) F d_X_look_22 5 hz.1 (by decide) (by decide) rfl (by decide) ?_
      refine j_aloadn F d_X_look_110 0 rfl rfl ?_
      refine j_get (ci := 5) (v := .ref a0) F in_X hK 0 rfl rfl 0 (by decide) (wm k_134) rfl d_X_look_111 ?_
      refine j_iloadn F d_X_look_114 1 rfl rfl ?_
      refine j_aloadn F d_X_look_115 0 rfl rfl ?_
      refine j_get (ci := 5) (v := .int now) F in_X hK 0 rfl rfl 6 (by decide) (wm k_140) rfl d_X_look_116 ?_
      refine j_goi (wc := [(a0, .inr (0, [.ref a1, .ref a2, .ref a3, .ref a4, .ref a5, .int (nI n)])), (a1, .inl (cA, 80, .inl (X 0))), (a2, .inl (cA, 80, .inl (X 1))), (a3, .inl (cA, 80, .inl (X 2))), (a4, .inl (cA, 80, .inl (X 3))), (a5, .inl (cA, 80, .inl (X 4)))]) (wr := [(x0, .inr (5, [.ref a0, .ref y1, .ref y2, .ref y3, .ref y4, .ref y5, .int now, .int rf]))]) hA [1, 2, 3, 4, 5, 6] [0] rfl rfl (by decide) (by decide) (fun H locs ls hP hD hl => va_runVN (As := [.int (nI e0), .int now]) (rest := []) F (ct_A_isVoid l D cA a0 a1 a2 a3 a4 a5 X n hA0 e0 (by omega) now H.size) ⟨va_cnB 2 F.2.2.2.2 (gd k_204) rfl rfl rfl (hN _ n_448).1 (F.2.2.2.2 _ (wm k_2)) (by decide +kernel) ⟨by decide, by decide⟩, F.2.2.2.2 _ (wm k_203), F.2.2.2.2 _ (wm ks_5)⟩ (pre_V rfl hK hN hP hD [1, 2, 3, 4, 5, 6] rfl (by decide) 1 rfl rfl) rfl rfl hl.1 rfl (lv_room (Nat.le_of_ble_eq_true rfl)) d_X_look_119 ⟨by decide, by decide⟩) (fun r119 u119 hw119 => ?_)
      subst hw119
      refine j_ws (ws' := [(x0, .inr (5, [.ref a0, .ref y1, .ref y2, .ref y3, .ref y4, .ref y5, .int now, .int rf])), (a0, .inr (0, [.ref a1, .ref a2, .ref a3, .ref a4, .ref a5, .int (nI n)])), (a1, .inl (cA, 80, .inl (X 0))), (a2, .inl (cA, 80, .inl (X 1))), (a3, .inl (cA, 80, .inl (X 2))), (a4, .inl (cA, 80, .inl (X 3))), (a5, .inl (cA, 80, .inl (X 4)))]) [0, 1, 2, 3, 4, 5, 6] (by decide) rfl ?_
      refine j_if_eq (tgt := 129) F d_X_look_122 (by decide) (fun c_122 => ?_) (fun c_122 => ?_)
      · refine j_iconst (v := nI 0) F d_X_look_129 (by decide) ?_
        exact ret _ _ _ _ _ _ () d_X_look_130 rfl (by decide) (by decide) rfl (by unfold lkP; rw [if_neg (kne hz.2 (by decide) (by decide) (by decide)), if_neg (kne hz.2 (by decide) (by decide) (by decide)), if_neg (kne hz.2 (by decide) (by decide) (by decide)), if_neg (kne hz.2 (by decide) (by decide) (by decide)), if_neg (kne hz.2 (by decide) (by decide) (by decide))]; exact bI_f (bI_0 c_122))
      · refine j_iconst (v := nI 1) F d_X_look_125 (by decide) ?_
        refine j_goto (tgt := 130) F d_X_look_126 (by decide) ?_
        exact ret _ _ _ _ _ _ () d_X_look_130 rfl (by decide) (by decide) rfl (by unfold lkP; rw [if_neg (kne hz.2 (by decide) (by decide) (by decide)), if_neg (kne hz.2 (by decide) (by decide) (by decide)), if_neg (kne hz.2 (by decide) (by decide) (by decide)), if_neg (kne hz.2 (by decide) (by decide) (by decide)), if_neg (kne hz.2 (by decide) (by decide) (by decide))]; exact bI_t (bI_1 c_122))
    · refine j_tabOut (tgt := 131) F d_X_look_22 hz.1 (by decide) ?_
      obtain ⟨j, -, hj, ej⟩ := win_nat (by decide) hw (by decide)
      exact absurd ej (hz.2 j (by omega))
  · exact absurd (bI_0 c_8) (by rw [has_of he0 (by omega)]; decide)

def rmx_X_look : Room := { frames := 6, cells := 1, slots := 6, locals := 92 }
set_option maxHeartbeats 4000000 in
set_option maxRecDepth 100000 in
theorem cx_X_look (l : Launch) (hst : l.stackTraces = false) (D : va_G) (cA : ClassId) (x0 y1 y2 y3 y4 y5 : Nat) (now rf : Int32) (a0 a1 a2 a3 a4 a5 : Nat) (X : AF) (n : Nat) (hA0 : aok X n) (a w : Int32) (hbad : (hasB n a && win w (nI 0) (nI 5)) = false) : Cx (S := Unit) l y_X_look (Cond.code y_X_look c_X_look 3 (some .int) :: WD) rmx_X_look D vwCl [(cA, .int)] nws [.ref x0, .int a, .int w] [(x0, .inr (5, [.ref a0, .ref y1, .ref y2, .ref y3, .ref y4, .ref y5, .int now, .int rf])), (a0, .inr (0, [.ref a1, .ref a2, .ref a3, .ref a4, .ref a5, .int (nI n)])), (a1, .inl (cA, 80, .inl (X 0))), (a2, .inl (cA, 80, .inl (X 1))), (a3, .inl (cA, 80, .inl (X 2))), (a4, .inl (cA, 80, .inl (X 3))), (a5, .inl (cA, 80, .inl (X 4)))] 1 6 "java/lang/IndexOutOfBoundsException" (fun _ => True) (fun _ => [(x0, .inr (5, [.ref a0, .ref y1, .ref y2, .ref y3, .ref y4, .ref y5, .int now, .int rf])), (a0, .inr (0, [.ref a1, .ref a2, .ref a3, .ref a4, .ref a5, .int (nI n)])), (a1, .inl (cA, 80, .inl (X 0))), (a2, .inl (cA, 80, .inl (X 1))), (a3, .inl (cA, 80, .inl (X 2))), (a4, .inl (cA, 80, .inl (X 3))), (a5, .inl (cA, 80, .inl (X 4)))]) := by
  refine Cx.of (cc := c_X_look) (nL := 3) (ret := (some .int)) (lv := [(0, .ref x0), (1, .int a), (2, .int w)]) hst (by decide) rfl (Nat.le_of_ble_eq_true rfl) rfl ?_
  intro p e s m args below meth cd A Q F hK hN hE hA thr out
  have h80 := hA0.1
  refine j_aloadn F d_X_look_0 0 rfl rfl ?_
  refine j_get (ci := 5) (v := .ref a0) F in_X hK 0 rfl rfl 0 (by decide) (wm k_134) rfl d_X_look_1 ?_
  refine j_iloadn F d_X_look_4 1 rfl rfl ?_
  refine j_goi (wc := [(a0, .inr (0, [.ref a1, .ref a2, .ref a3, .ref a4, .ref a5, .int (nI n)])), (a1, .inl (cA, 80, .inl (X 0))), (a2, .inl (cA, 80, .inl (X 1))), (a3, .inl (cA, 80, .inl (X 2))), (a4, .inl (cA, 80, .inl (X 3))), (a5, .inl (cA, 80, .inl (X 4)))]) (wr := [(x0, .inr (5, [.ref a0, .ref y1, .ref y2, .ref y3, .ref y4, .ref y5, .int now, .int rf]))]) hA [1, 2, 3, 4, 5, 6] [0] rfl rfl (by decide) (by decide) (fun H locs ls hP hD hl => va_runVN (As := [.int a]) (rest := []) F (ct_A_has l D cA a0 a1 a2 a3 a4 a5 X n (by omega) a H.size) ⟨va_cnB 1 F.2.2.2.2 (gd k_183) rfl rfl rfl (hN _ n_431).1 (F.2.2.2.2 _ (wm k_2)) (by decide +kernel) ⟨by decide, by decide⟩, F.2.2.2.2 _ (wm k_182), F.2.2.2.2 _ (wm ks_2)⟩ (pre_V rfl hK hN hP hD [1, 2, 3, 4, 5, 6] rfl (by decide) 1 rfl rfl) rfl rfl hl.1 rfl (lv_room (Nat.le_of_ble_eq_true rfl)) d_X_look_5 ⟨by decide, by decide⟩) (fun r5 u5 hw5 => ?_)
  subst hw5
  refine j_ws (ws' := [(x0, .inr (5, [.ref a0, .ref y1, .ref y2, .ref y3, .ref y4, .ref y5, .int now, .int rf])), (a0, .inr (0, [.ref a1, .ref a2, .ref a3, .ref a4, .ref a5, .int (nI n)])), (a1, .inl (cA, 80, .inl (X 0))), (a2, .inl (cA, 80, .inl (X 1))), (a3, .inl (cA, 80, .inl (X 2))), (a4, .inl (cA, 80, .inl (X 3))), (a5, .inl (cA, 80, .inl (X 4)))]) [0, 1, 2, 3, 4, 5, 6] (by decide) rfl ?_
  refine j_if_ne (tgt := 21) F d_X_look_8 (by decide) (fun c_8 => ?_) (fun c_8 => ?_)
  · have e1 := bI_1 c_8
    rw [e1, Bool.true_and] at hbad
    refine j_iloadn F d_X_look_21 2 rfl rfl ?_
    have sw := jn_sw5 w
    rcases sw with hz | hz | hz | hz | hz | hz | hz
    · refine j_tabIn (tgt := 60) F d_X_look_22 0 hz.1 (by decide) (by decide) rfl (by decide) ?_
      exact absurd hbad (by rw [win_of hz.2 (by decide) (by decide)]; decide)
    · refine j_tabIn (tgt := 70) F d_X_look_22 1 hz.1 (by decide) (by decide) rfl (by decide) ?_
      exact absurd hbad (by rw [win_of hz.2 (by decide) (by decide)]; decide)
    · refine j_tabIn (tgt := 80) F d_X_look_22 2 hz.1 (by decide) (by decide) rfl (by decide) ?_
      exact absurd hbad (by rw [win_of hz.2 (by decide) (by decide)]; decide)
    · refine j_tabIn (tgt := 90) F d_X_look_22 3 hz.1 (by decide) (by decide) rfl (by decide) ?_
      exact absurd hbad (by rw [win_of hz.2 (by decide) (by decide)]; decide)
    · refine j_tabIn (tgt := 100) F d_X_look_22 4 hz.1 (by decide) (by decide) rfl (by decide) ?_
      exact absurd hbad (by rw [win_of hz.2 (by decide) (by decide)]; decide)
    · refine j_tabIn (tgt := 110) F d_X_look_22 5 hz.1 (by decide) (by decide) rfl (by decide) ?_
      exact absurd hbad (by rw [win_of hz.2 (by decide) (by decide)]; decide)
    · refine j_tabOut (tgt := 131) F d_X_look_22 hz.1 (by decide) ?_
      exact thr _ _ _ _ _ _ 113 139 117 "no such what" nmE () d_X_look_131 d_X_look_134 d_X_look_135 d_X_look_137 d_X_look_140 (by decide +kernel) (by decide +kernel) (wm k_432) (wm k_15) hE.2.2.2.2.2 (hatI F.2.2.2.2 hN) gdI (by decide) (Nat.le_of_ble_eq_true rfl) (by decide) (by decide) (by decide) (by decide) rfl trivial
  · exact thr _ _ _ _ _ _ 113 115 117 "no such act" nmE () d_X_look_11 d_X_look_14 d_X_look_15 d_X_look_17 d_X_look_20 (by decide +kernel) (by decide +kernel) (wm k_432) (wm k_15) hE.2.2.2.2.1 (hatI F.2.2.2.2 hN) gdI (by decide) (Nat.le_of_ble_eq_true rfl) (by decide) (by decide) (by decide) (by decide) rfl trivial
end
