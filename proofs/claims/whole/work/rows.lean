section
-- ===== PART A: goes FIRST, ahead of the names: the tables' words, and 'selects' of the private methods out of them =====
/-- a private method of a class that the tables say can be made, by its rows of tables_1 -/
def lw_okq (q : MethodName × Nat) : Prop := (q.1.cls ≠ "java/lang/invoke/MethodHandle" ∧ q.1.cls ≠ "java/lang/invoke/VarHandle") ∧ Cond.instantiable q.1.cls q.2 ∈ tables_1 ∧ Cond.privateMethod q.1 ∈ tables_1 ∧ Cond.instanceMethod q.1 ∈ tables_1
theorem lw_p0 : lw_okq (⟨"VeneerRows", "routineAt", "(I)LVeneerRows$Routine;"⟩, 14) := ⟨⟨by decide +kernel, by decide +kernel⟩, List.mem_of_getElem? (i := 20) (by decide +kernel), List.mem_of_getElem? (i := 187) (by decide +kernel), List.mem_of_getElem? (i := 188) (by decide +kernel)⟩
theorem lw_p1 : lw_okq (⟨"VeneerRows", "isNoneOrClass", "(I)Z"⟩, 14) := ⟨⟨by decide +kernel, by decide +kernel⟩, List.mem_of_getElem? (i := 20) (by decide +kernel), List.mem_of_getElem? (i := 199) (by decide +kernel), List.mem_of_getElem? (i := 200) (by decide +kernel)⟩
theorem lw_p2 : lw_okq (⟨"VeneerRows", "thingAt", "(I)LVeneerRows$Thing;"⟩, 14) := ⟨⟨by decide +kernel, by decide +kernel⟩, List.mem_of_getElem? (i := 20) (by decide +kernel), List.mem_of_getElem? (i := 207) (by decide +kernel), List.mem_of_getElem? (i := 208) (by decide +kernel)⟩
theorem lw_p3 : lw_okq (⟨"VeneerRows", "textAt", "(I)LVeneerRows$Text;"⟩, 14) := ⟨⟨by decide +kernel, by decide +kernel⟩, List.mem_of_getElem? (i := 20) (by decide +kernel), List.mem_of_getElem? (i := 211) (by decide +kernel), List.mem_of_getElem? (i := 212) (by decide +kernel)⟩
theorem lw_p4 : lw_okq (⟨"VeneerRows", "arrayAt", "(I)LVeneerRows$WordArray;"⟩, 14) := ⟨⟨by decide +kernel, by decide +kernel⟩, List.mem_of_getElem? (i := 20) (by decide +kernel), List.mem_of_getElem? (i := 215) (by decide +kernel), List.mem_of_getElem? (i := 216) (by decide +kernel)⟩
theorem lw_p5 : lw_okq (⟨"VeneerRows", "addLines", "(LVeneerRows$Line;II)V"⟩, 14) := ⟨⟨by decide +kernel, by decide +kernel⟩, List.mem_of_getElem? (i := 20) (by decide +kernel), List.mem_of_getElem? (i := 245) (by decide +kernel), List.mem_of_getElem? (i := 246) (by decide +kernel)⟩
theorem lw_p6 : lw_okq (⟨"VeneerRows", "addThing", "(LVeneerRows$Thing;)V"⟩, 14) := ⟨⟨by decide +kernel, by decide +kernel⟩, List.mem_of_getElem? (i := 20) (by decide +kernel), List.mem_of_getElem? (i := 298) (by decide +kernel), List.mem_of_getElem? (i := 299) (by decide +kernel)⟩
theorem lw_p7 : lw_okq (⟨"VeneerRows", "takeRowsOfLine", "(LVeneerRows$Thing;)V"⟩, 14) := ⟨⟨by decide +kernel, by decide +kernel⟩, List.mem_of_getElem? (i := 20) (by decide +kernel), List.mem_of_getElem? (i := 302) (by decide +kernel), List.mem_of_getElem? (i := 303) (by decide +kernel)⟩
theorem lw_p8 : lw_okq (⟨"VeneerRows$Rows", "addRow", "(LVeneerRows$Rows;I)V"⟩, 2) := ⟨⟨by decide +kernel, by decide +kernel⟩, List.mem_of_getElem? (i := 259) (by decide +kernel), List.mem_of_getElem? (i := 318) (by decide +kernel), List.mem_of_getElem? (i := 319) (by decide +kernel)⟩
theorem lw_p9 : lw_okq (⟨"VeneerRows$Rows", "has", "(II)Z"⟩, 2) := ⟨⟨by decide +kernel, by decide +kernel⟩, List.mem_of_getElem? (i := 259) (by decide +kernel), List.mem_of_getElem? (i := 333) (by decide +kernel), List.mem_of_getElem? (i := 334) (by decide +kernel)⟩
theorem lw_p10 : lw_okq (⟨"VeneerRows", "startActs", "()V"⟩, 14) := ⟨⟨by decide +kernel, by decide +kernel⟩, List.mem_of_getElem? (i := 20) (by decide +kernel), List.mem_of_getElem? (i := 381) (by decide +kernel), List.mem_of_getElem? (i := 382) (by decide +kernel)⟩
theorem lw_p11 : lw_okq (⟨"VeneerRows", "sendTo", "(IIII)I"⟩, 14) := ⟨⟨by decide +kernel, by decide +kernel⟩, List.mem_of_getElem? (i := 20) (by decide +kernel), List.mem_of_getElem? (i := 385) (by decide +kernel), List.mem_of_getElem? (i := 386) (by decide +kernel)⟩
theorem lw_p12 : lw_okq (⟨"VeneerRows", "answeringThing", "(I)LVeneerRows$Thing;"⟩, 14) := ⟨⟨by decide +kernel, by decide +kernel⟩, List.mem_of_getElem? (i := 20) (by decide +kernel), List.mem_of_getElem? (i := 389) (by decide +kernel), List.mem_of_getElem? (i := 390) (by decide +kernel)⟩
theorem lw_p13 : lw_okq (⟨"VeneerRows", "sendToClass", "(IIII)I"⟩, 14) := ⟨⟨by decide +kernel, by decide +kernel⟩, List.mem_of_getElem? (i := 20) (by decide +kernel), List.mem_of_getElem? (i := 397) (by decide +kernel), List.mem_of_getElem? (i := 398) (by decide +kernel)⟩
theorem lw_p14 : lw_okq (⟨"VeneerRows", "createOne", "(III)I"⟩, 14) := ⟨⟨by decide +kernel, by decide +kernel⟩, List.mem_of_getElem? (i := 20) (by decide +kernel), List.mem_of_getElem? (i := 401) (by decide +kernel), List.mem_of_getElem? (i := 402) (by decide +kernel)⟩
theorem lw_p15 : lw_okq (⟨"VeneerRows", "leastFree", "(I)I"⟩, 14) := ⟨⟨by decide +kernel, by decide +kernel⟩, List.mem_of_getElem? (i := 20) (by decide +kernel), List.mem_of_getElem? (i := 405) (by decide +kernel), List.mem_of_getElem? (i := 406) (by decide +kernel)⟩
def lw_privs_1 : List (MethodName × Nat) := [(⟨"VeneerRows", "routineAt", "(I)LVeneerRows$Routine;"⟩, 14), (⟨"VeneerRows", "isNoneOrClass", "(I)Z"⟩, 14), (⟨"VeneerRows", "thingAt", "(I)LVeneerRows$Thing;"⟩, 14), (⟨"VeneerRows", "textAt", "(I)LVeneerRows$Text;"⟩, 14), (⟨"VeneerRows", "arrayAt", "(I)LVeneerRows$WordArray;"⟩, 14), (⟨"VeneerRows", "addLines", "(LVeneerRows$Line;II)V"⟩, 14), (⟨"VeneerRows", "addThing", "(LVeneerRows$Thing;)V"⟩, 14), (⟨"VeneerRows", "takeRowsOfLine", "(LVeneerRows$Thing;)V"⟩, 14), (⟨"VeneerRows$Rows", "addRow", "(LVeneerRows$Rows;I)V"⟩, 2), (⟨"VeneerRows$Rows", "has", "(II)Z"⟩, 2), (⟨"VeneerRows", "startActs", "()V"⟩, 14), (⟨"VeneerRows", "sendTo", "(IIII)I"⟩, 14), (⟨"VeneerRows", "answeringThing", "(I)LVeneerRows$Thing;"⟩, 14), (⟨"VeneerRows", "sendToClass", "(IIII)I"⟩, 14), (⟨"VeneerRows", "createOne", "(III)I"⟩, 14), (⟨"VeneerRows", "leastFree", "(I)I"⟩, 14)]
theorem lw_r1 : ∀ q ∈ lw_privs_1, lw_okq q := List.forall_mem_cons.mpr ⟨lw_p0, List.forall_mem_cons.mpr ⟨lw_p1, List.forall_mem_cons.mpr ⟨lw_p2, List.forall_mem_cons.mpr ⟨lw_p3, List.forall_mem_cons.mpr ⟨lw_p4, List.forall_mem_cons.mpr ⟨lw_p5, List.forall_mem_cons.mpr ⟨lw_p6, List.forall_mem_cons.mpr ⟨lw_p7, List.forall_mem_cons.mpr ⟨lw_p8, List.forall_mem_cons.mpr ⟨lw_p9, List.forall_mem_cons.mpr ⟨lw_p10, List.forall_mem_cons.mpr ⟨lw_p11, List.forall_mem_cons.mpr ⟨lw_p12, List.forall_mem_cons.mpr ⟨lw_p13, List.forall_mem_cons.mpr ⟨lw_p14, List.forall_mem_cons.mpr ⟨lw_p15, fun _ h => absurd h List.not_mem_nil⟩⟩⟩⟩⟩⟩⟩⟩⟩⟩⟩⟩⟩⟩⟩⟩
theorem lw_p16 : lw_okq (⟨"VeneerRows", "sendIfProvided", "(LVeneerRows$Thing;IIII)V"⟩, 14) := ⟨⟨by decide +kernel, by decide +kernel⟩, List.mem_of_getElem? (i := 20) (by decide +kernel), List.mem_of_getElem? (i := 409) (by decide +kernel), List.mem_of_getElem? (i := 410) (by decide +kernel)⟩
theorem lw_p17 : lw_okq (⟨"VeneerRows", "destroyOne", "(III)I"⟩, 14) := ⟨⟨by decide +kernel, by decide +kernel⟩, List.mem_of_getElem? (i := 20) (by decide +kernel), List.mem_of_getElem? (i := 413) (by decide +kernel), List.mem_of_getElem? (i := 414) (by decide +kernel)⟩
theorem lw_p18 : lw_okq (⟨"VeneerRows", "thereInPool", "(II)LVeneerRows$Thing;"⟩, 14) := ⟨⟨by decide +kernel, by decide +kernel⟩, List.mem_of_getElem? (i := 20) (by decide +kernel), List.mem_of_getElem? (i := 417) (by decide +kernel), List.mem_of_getElem? (i := 418) (by decide +kernel)⟩
theorem lw_p19 : lw_okq (⟨"VeneerRows$Tree", "closeGap", "(II)V"⟩, 3) := ⟨⟨by decide +kernel, by decide +kernel⟩, List.mem_of_getElem? (i := 36) (by decide +kernel), List.mem_of_getElem? (i := 432) (by decide +kernel), List.mem_of_getElem? (i := 433) (by decide +kernel)⟩
theorem lw_p20 : lw_okq (⟨"VeneerRows", "freeOnes", "(I)I"⟩, 14) := ⟨⟨by decide +kernel, by decide +kernel⟩, List.mem_of_getElem? (i := 20) (by decide +kernel), List.mem_of_getElem? (i := 449) (by decide +kernel), List.mem_of_getElem? (i := 450) (by decide +kernel)⟩
theorem lw_p21 : lw_okq (⟨"VeneerRows", "recreateOne", "(III)I"⟩, 14) := ⟨⟨by decide +kernel, by decide +kernel⟩, List.mem_of_getElem? (i := 20) (by decide +kernel), List.mem_of_getElem? (i := 453) (by decide +kernel), List.mem_of_getElem? (i := 454) (by decide +kernel)⟩
theorem lw_p22 : lw_okq (⟨"VeneerRows", "answerOfRow", "(LVeneerRows$Rows;IIII)I"⟩, 14) := ⟨⟨by decide +kernel, by decide +kernel⟩, List.mem_of_getElem? (i := 20) (by decide +kernel), List.mem_of_getElem? (i := 457) (by decide +kernel), List.mem_of_getElem? (i := 458) (by decide +kernel)⟩
theorem lw_p23 : lw_okq (⟨"VeneerRows$Output", "add", "(C)V"⟩, 2) := ⟨⟨by decide +kernel, by decide +kernel⟩, List.mem_of_getElem? (i := 53) (by decide +kernel), List.mem_of_getElem? (i := 470) (by decide +kernel), List.mem_of_getElem? (i := 471) (by decide +kernel)⟩
theorem lw_p24 : lw_okq (⟨"VeneerRows", "run", "(IIII)I"⟩, 14) := ⟨⟨by decide +kernel, by decide +kernel⟩, List.mem_of_getElem? (i := 20) (by decide +kernel), List.mem_of_getElem? (i := 474) (by decide +kernel), List.mem_of_getElem? (i := 475) (by decide +kernel)⟩
theorem lw_p25 : lw_okq (⟨"VeneerRows", "mayAct", "(I)Z"⟩, 14) := ⟨⟨by decide +kernel, by decide +kernel⟩, List.mem_of_getElem? (i := 20) (by decide +kernel), List.mem_of_getElem? (i := 478) (by decide +kernel), List.mem_of_getElem? (i := 479) (by decide +kernel)⟩
theorem lw_p26 : lw_okq (⟨"VeneerRows", "perform", "(LVeneerRows$Routine;IIIII)I"⟩, 14) := ⟨⟨by decide +kernel, by decide +kernel⟩, List.mem_of_getElem? (i := 20) (by decide +kernel), List.mem_of_getElem? (i := 482) (by decide +kernel), List.mem_of_getElem? (i := 483) (by decide +kernel)⟩
theorem lw_p27 : lw_okq (⟨"VeneerRows$Routine", "has", "(I)Z"⟩, 4) := ⟨⟨by decide +kernel, by decide +kernel⟩, List.mem_of_getElem? (i := 163) (by decide +kernel), List.mem_of_getElem? (i := 490) (by decide +kernel), List.mem_of_getElem? (i := 491) (by decide +kernel)⟩
theorem lw_p28 : lw_okq (⟨"VeneerRows", "thingWithValue", "(III)LVeneerRows$Thing;"⟩, 14) := ⟨⟨by decide +kernel, by decide +kernel⟩, List.mem_of_getElem? (i := 20) (by decide +kernel), List.mem_of_getElem? (i := 506) (by decide +kernel), List.mem_of_getElem? (i := 507) (by decide +kernel)⟩
theorem lw_p29 : lw_okq (⟨"VeneerRows", "sendToAs", "(IIIII)I"⟩, 14) := ⟨⟨by decide +kernel, by decide +kernel⟩, List.mem_of_getElem? (i := 20) (by decide +kernel), List.mem_of_getElem? (i := 514) (by decide +kernel), List.mem_of_getElem? (i := 515) (by decide +kernel)⟩
theorem lw_p30 : lw_okq (⟨"VeneerRows", "sayName", "(LVeneerRows$Thing;II)V"⟩, 14) := ⟨⟨by decide +kernel, by decide +kernel⟩, List.mem_of_getElem? (i := 20) (by decide +kernel), List.mem_of_getElem? (i := 604) (by decide +kernel), List.mem_of_getElem? (i := 605) (by decide +kernel)⟩
theorem lw_p31 : lw_okq (⟨"VeneerRows", "arrayWithWord", "(III)LVeneerRows$WordArray;"⟩, 14) := ⟨⟨by decide +kernel, by decide +kernel⟩, List.mem_of_getElem? (i := 20) (by decide +kernel), List.mem_of_getElem? (i := 711) (by decide +kernel), List.mem_of_getElem? (i := 712) (by decide +kernel)⟩
def lw_privs_2 : List (MethodName × Nat) := [(⟨"VeneerRows", "sendIfProvided", "(LVeneerRows$Thing;IIII)V"⟩, 14), (⟨"VeneerRows", "destroyOne", "(III)I"⟩, 14), (⟨"VeneerRows", "thereInPool", "(II)LVeneerRows$Thing;"⟩, 14), (⟨"VeneerRows$Tree", "closeGap", "(II)V"⟩, 3), (⟨"VeneerRows", "freeOnes", "(I)I"⟩, 14), (⟨"VeneerRows", "recreateOne", "(III)I"⟩, 14), (⟨"VeneerRows", "answerOfRow", "(LVeneerRows$Rows;IIII)I"⟩, 14), (⟨"VeneerRows$Output", "add", "(C)V"⟩, 2), (⟨"VeneerRows", "run", "(IIII)I"⟩, 14), (⟨"VeneerRows", "mayAct", "(I)Z"⟩, 14), (⟨"VeneerRows", "perform", "(LVeneerRows$Routine;IIIII)I"⟩, 14), (⟨"VeneerRows$Routine", "has", "(I)Z"⟩, 4), (⟨"VeneerRows", "thingWithValue", "(III)LVeneerRows$Thing;"⟩, 14), (⟨"VeneerRows", "sendToAs", "(IIIII)I"⟩, 14), (⟨"VeneerRows", "sayName", "(LVeneerRows$Thing;II)V"⟩, 14), (⟨"VeneerRows", "arrayWithWord", "(III)LVeneerRows$WordArray;"⟩, 14)]
theorem lw_r2 : ∀ q ∈ lw_privs_2, lw_okq q := List.forall_mem_cons.mpr ⟨lw_p16, List.forall_mem_cons.mpr ⟨lw_p17, List.forall_mem_cons.mpr ⟨lw_p18, List.forall_mem_cons.mpr ⟨lw_p19, List.forall_mem_cons.mpr ⟨lw_p20, List.forall_mem_cons.mpr ⟨lw_p21, List.forall_mem_cons.mpr ⟨lw_p22, List.forall_mem_cons.mpr ⟨lw_p23, List.forall_mem_cons.mpr ⟨lw_p24, List.forall_mem_cons.mpr ⟨lw_p25, List.forall_mem_cons.mpr ⟨lw_p26, List.forall_mem_cons.mpr ⟨lw_p27, List.forall_mem_cons.mpr ⟨lw_p28, List.forall_mem_cons.mpr ⟨lw_p29, List.forall_mem_cons.mpr ⟨lw_p30, List.forall_mem_cons.mpr ⟨lw_p31, fun _ h => absurd h List.not_mem_nil⟩⟩⟩⟩⟩⟩⟩⟩⟩⟩⟩⟩⟩⟩⟩⟩
theorem lw_p32 : lw_okq (⟨"VeneerRowsModel", "isClass", "(I)Z"⟩, 43) := ⟨⟨by decide +kernel, by decide +kernel⟩, List.mem_of_getElem? (i := 770) (by decide +kernel), List.mem_of_getElem? (i := 938) (by decide +kernel), List.mem_of_getElem? (i := 939) (by decide +kernel)⟩
theorem lw_p33 : lw_okq (⟨"VeneerRowsModel", "newThing", "(Z)I"⟩, 43) := ⟨⟨by decide +kernel, by decide +kernel⟩, List.mem_of_getElem? (i := 770) (by decide +kernel), List.mem_of_getElem? (i := 942) (by decide +kernel), List.mem_of_getElem? (i := 943) (by decide +kernel)⟩
theorem lw_p34 : lw_okq (⟨"VeneerRowsModel", "addToLine", "(II)V"⟩, 43) := ⟨⟨by decide +kernel, by decide +kernel⟩, List.mem_of_getElem? (i := 770) (by decide +kernel), List.mem_of_getElem? (i := 946) (by decide +kernel), List.mem_of_getElem? (i := 947) (by decide +kernel)⟩
theorem lw_p35 : lw_okq (⟨"VeneerRowsModel", "joinLine", "(II)V"⟩, 43) := ⟨⟨by decide +kernel, by decide +kernel⟩, List.mem_of_getElem? (i := 770) (by decide +kernel), List.mem_of_getElem? (i := 950) (by decide +kernel), List.mem_of_getElem? (i := 951) (by decide +kernel)⟩
theorem lw_p36 : lw_okq (⟨"VeneerRowsModel", "rowsAnew", "(I)V"⟩, 43) := ⟨⟨by decide +kernel, by decide +kernel⟩, List.mem_of_getElem? (i := 770) (by decide +kernel), List.mem_of_getElem? (i := 954) (by decide +kernel), List.mem_of_getElem? (i := 955) (by decide +kernel)⟩
theorem lw_p37 : lw_okq (⟨"VeneerRowsModel", "say", "(I)V"⟩, 43) := ⟨⟨by decide +kernel, by decide +kernel⟩, List.mem_of_getElem? (i := 770) (by decide +kernel), List.mem_of_getElem? (i := 975) (by decide +kernel), List.mem_of_getElem? (i := 976) (by decide +kernel)⟩
theorem lw_p38 : lw_okq (⟨"VeneerRowsModel", "sayNumber", "(I)V"⟩, 43) := ⟨⟨by decide +kernel, by decide +kernel⟩, List.mem_of_getElem? (i := 770) (by decide +kernel), List.mem_of_getElem? (i := 979) (by decide +kernel), List.mem_of_getElem? (i := 980) (by decide +kernel)⟩
theorem lw_p39 : lw_okq (⟨"VeneerRowsModel", "sayArticle", "(II)V"⟩, 43) := ⟨⟨by decide +kernel, by decide +kernel⟩, List.mem_of_getElem? (i := 770) (by decide +kernel), List.mem_of_getElem? (i := 983) (by decide +kernel), List.mem_of_getElem? (i := 984) (by decide +kernel)⟩
theorem lw_p40 : lw_okq (⟨"VeneerRowsModel", "sayText", "(I)V"⟩, 43) := ⟨⟨by decide +kernel, by decide +kernel⟩, List.mem_of_getElem? (i := 770) (by decide +kernel), List.mem_of_getElem? (i := 990) (by decide +kernel), List.mem_of_getElem? (i := 991) (by decide +kernel)⟩
theorem lw_p41 : lw_okq (⟨"VeneerRowsModel", "wrong", "(III)I"⟩, 43) := ⟨⟨by decide +kernel, by decide +kernel⟩, List.mem_of_getElem? (i := 770) (by decide +kernel), List.mem_of_getElem? (i := 998) (by decide +kernel), List.mem_of_getElem? (i := 999) (by decide +kernel)⟩
theorem lw_p42 : lw_okq (⟨"VeneerRowsModel", "rowAt", "(II)I"⟩, 43) := ⟨⟨by decide +kernel, by decide +kernel⟩, List.mem_of_getElem? (i := 770) (by decide +kernel), List.mem_of_getElem? (i := 1002) (by decide +kernel), List.mem_of_getElem? (i := 1003) (by decide +kernel)⟩
theorem lw_p43 : lw_okq (⟨"VeneerRowsModel", "fails", "(III)I"⟩, 43) := ⟨⟨by decide +kernel, by decide +kernel⟩, List.mem_of_getElem? (i := 770) (by decide +kernel), List.mem_of_getElem? (i := 1006) (by decide +kernel), List.mem_of_getElem? (i := 1007) (by decide +kernel)⟩
theorem lw_p44 : lw_okq (⟨"VeneerRowsModel", "leave", "(I)V"⟩, 43) := ⟨⟨by decide +kernel, by decide +kernel⟩, List.mem_of_getElem? (i := 770) (by decide +kernel), List.mem_of_getElem? (i := 1018) (by decide +kernel), List.mem_of_getElem? (i := 1019) (by decide +kernel)⟩
theorem lw_p45 : lw_okq (⟨"VeneerRowsModel", "begins", "()V"⟩, 43) := ⟨⟨by decide +kernel, by decide +kernel⟩, List.mem_of_getElem? (i := 770) (by decide +kernel), List.mem_of_getElem? (i := 1038) (by decide +kernel), List.mem_of_getElem? (i := 1039) (by decide +kernel)⟩
theorem lw_p46 : lw_okq (⟨"VeneerRowsModel", "sends", "(III)V"⟩, 43) := ⟨⟨by decide +kernel, by decide +kernel⟩, List.mem_of_getElem? (i := 770) (by decide +kernel), List.mem_of_getElem? (i := 1042) (by decide +kernel), List.mem_of_getElem? (i := 1043) (by decide +kernel)⟩
theorem lw_p47 : lw_okq (⟨"VeneerRowsModel", "sendGroup", "(III)V"⟩, 43) := ⟨⟨by decide +kernel, by decide +kernel⟩, List.mem_of_getElem? (i := 770) (by decide +kernel), List.mem_of_getElem? (i := 1046) (by decide +kernel), List.mem_of_getElem? (i := 1047) (by decide +kernel)⟩
def lw_privs_3 : List (MethodName × Nat) := [(⟨"VeneerRowsModel", "isClass", "(I)Z"⟩, 43), (⟨"VeneerRowsModel", "newThing", "(Z)I"⟩, 43), (⟨"VeneerRowsModel", "addToLine", "(II)V"⟩, 43), (⟨"VeneerRowsModel", "joinLine", "(II)V"⟩, 43), (⟨"VeneerRowsModel", "rowsAnew", "(I)V"⟩, 43), (⟨"VeneerRowsModel", "say", "(I)V"⟩, 43), (⟨"VeneerRowsModel", "sayNumber", "(I)V"⟩, 43), (⟨"VeneerRowsModel", "sayArticle", "(II)V"⟩, 43), (⟨"VeneerRowsModel", "sayText", "(I)V"⟩, 43), (⟨"VeneerRowsModel", "wrong", "(III)I"⟩, 43), (⟨"VeneerRowsModel", "rowAt", "(II)I"⟩, 43), (⟨"VeneerRowsModel", "fails", "(III)I"⟩, 43), (⟨"VeneerRowsModel", "leave", "(I)V"⟩, 43), (⟨"VeneerRowsModel", "begins", "()V"⟩, 43), (⟨"VeneerRowsModel", "sends", "(III)V"⟩, 43), (⟨"VeneerRowsModel", "sendGroup", "(III)V"⟩, 43)]
theorem lw_r3 : ∀ q ∈ lw_privs_3, lw_okq q := List.forall_mem_cons.mpr ⟨lw_p32, List.forall_mem_cons.mpr ⟨lw_p33, List.forall_mem_cons.mpr ⟨lw_p34, List.forall_mem_cons.mpr ⟨lw_p35, List.forall_mem_cons.mpr ⟨lw_p36, List.forall_mem_cons.mpr ⟨lw_p37, List.forall_mem_cons.mpr ⟨lw_p38, List.forall_mem_cons.mpr ⟨lw_p39, List.forall_mem_cons.mpr ⟨lw_p40, List.forall_mem_cons.mpr ⟨lw_p41, List.forall_mem_cons.mpr ⟨lw_p42, List.forall_mem_cons.mpr ⟨lw_p43, List.forall_mem_cons.mpr ⟨lw_p44, List.forall_mem_cons.mpr ⟨lw_p45, List.forall_mem_cons.mpr ⟨lw_p46, List.forall_mem_cons.mpr ⟨lw_p47, fun _ h => absurd h List.not_mem_nil⟩⟩⟩⟩⟩⟩⟩⟩⟩⟩⟩⟩⟩⟩⟩⟩
theorem lw_p48 : lw_okq (⟨"VeneerRowsModel", "answers", "(I)V"⟩, 43) := ⟨⟨by decide +kernel, by decide +kernel⟩, List.mem_of_getElem? (i := 770) (by decide +kernel), List.mem_of_getElem? (i := 1050) (by decide +kernel), List.mem_of_getElem? (i := 1051) (by decide +kernel)⟩
theorem lw_p49 : lw_okq (⟨"VeneerRowsModel", "pile", "(II)V"⟩, 43) := ⟨⟨by decide +kernel, by decide +kernel⟩, List.mem_of_getElem? (i := 770) (by decide +kernel), List.mem_of_getElem? (i := 1054) (by decide +kernel), List.mem_of_getElem? (i := 1055) (by decide +kernel)⟩
theorem lw_p50 : lw_okq (⟨"VeneerRowsModel", "sendIfThere", "(III)V"⟩, 43) := ⟨⟨by decide +kernel, by decide +kernel⟩, List.mem_of_getElem? (i := 770) (by decide +kernel), List.mem_of_getElem? (i := 1058) (by decide +kernel), List.mem_of_getElem? (i := 1059) (by decide +kernel)⟩
theorem lw_p51 : lw_okq (⟨"VeneerRowsModel", "sendObject", "(III)V"⟩, 43) := ⟨⟨by decide +kernel, by decide +kernel⟩, List.mem_of_getElem? (i := 770) (by decide +kernel), List.mem_of_getElem? (i := 1062) (by decide +kernel), List.mem_of_getElem? (i := 1063) (by decide +kernel)⟩
theorem lw_p52 : lw_okq (⟨"VeneerRowsModel", "does", "(III)V"⟩, 43) := ⟨⟨by decide +kernel, by decide +kernel⟩, List.mem_of_getElem? (i := 770) (by decide +kernel), List.mem_of_getElem? (i := 1066) (by decide +kernel), List.mem_of_getElem? (i := 1067) (by decide +kernel)⟩
theorem lw_p53 : lw_okq (⟨"VeneerRowsModel", "runs", "(III)V"⟩, 43) := ⟨⟨by decide +kernel, by decide +kernel⟩, List.mem_of_getElem? (i := 770) (by decide +kernel), List.mem_of_getElem? (i := 1070) (by decide +kernel), List.mem_of_getElem? (i := 1071) (by decide +kernel)⟩
theorem lw_p54 : lw_okq (⟨"VeneerRowsModel", "goes", "()I"⟩, 43) := ⟨⟨by decide +kernel, by decide +kernel⟩, List.mem_of_getElem? (i := 770) (by decide +kernel), List.mem_of_getElem? (i := 1074) (by decide +kernel), List.mem_of_getElem? (i := 1075) (by decide +kernel)⟩
theorem lw_p55 : lw_okq (⟨"VeneerRowsModel", "take", "()V"⟩, 43) := ⟨⟨by decide +kernel, by decide +kernel⟩, List.mem_of_getElem? (i := 770) (by decide +kernel), List.mem_of_getElem? (i := 1078) (by decide +kernel), List.mem_of_getElem? (i := 1079) (by decide +kernel)⟩
theorem lw_p56 : lw_okq (⟨"VeneerRowsModel", "step", "()V"⟩, 43) := ⟨⟨by decide +kernel, by decide +kernel⟩, List.mem_of_getElem? (i := 770) (by decide +kernel), List.mem_of_getElem? (i := 1082) (by decide +kernel), List.mem_of_getElem? (i := 1083) (by decide +kernel)⟩
theorem lw_p57 : lw_okq (⟨"VeneerRowsModel", "ends", "(I)V"⟩, 43) := ⟨⟨by decide +kernel, by decide +kernel⟩, List.mem_of_getElem? (i := 770) (by decide +kernel), List.mem_of_getElem? (i := 1086) (by decide +kernel), List.mem_of_getElem? (i := 1087) (by decide +kernel)⟩
theorem lw_p58 : lw_okq (⟨"VeneerRowsModel", "doAct", "(IIII)V"⟩, 43) := ⟨⟨by decide +kernel, by decide +kernel⟩, List.mem_of_getElem? (i := 770) (by decide +kernel), List.mem_of_getElem? (i := 1090) (by decide +kernel), List.mem_of_getElem? (i := 1091) (by decide +kernel)⟩
theorem lw_p59 : lw_okq (⟨"VeneerRowsModel", "sendsAs", "(IIII)V"⟩, 43) := ⟨⟨by decide +kernel, by decide +kernel⟩, List.mem_of_getElem? (i := 770) (by decide +kernel), List.mem_of_getElem? (i := 1096) (by decide +kernel), List.mem_of_getElem? (i := 1097) (by decide +kernel)⟩
theorem lw_p60 : lw_okq (⟨"VeneerRowsModel", "isWrongWord", "(III)Z"⟩, 43) := ⟨⟨by decide +kernel, by decide +kernel⟩, List.mem_of_getElem? (i := 770) (by decide +kernel), List.mem_of_getElem? (i := 1116) (by decide +kernel), List.mem_of_getElem? (i := 1117) (by decide +kernel)⟩
def lw_privs_4 : List (MethodName × Nat) := [(⟨"VeneerRowsModel", "answers", "(I)V"⟩, 43), (⟨"VeneerRowsModel", "pile", "(II)V"⟩, 43), (⟨"VeneerRowsModel", "sendIfThere", "(III)V"⟩, 43), (⟨"VeneerRowsModel", "sendObject", "(III)V"⟩, 43), (⟨"VeneerRowsModel", "does", "(III)V"⟩, 43), (⟨"VeneerRowsModel", "runs", "(III)V"⟩, 43), (⟨"VeneerRowsModel", "goes", "()I"⟩, 43), (⟨"VeneerRowsModel", "take", "()V"⟩, 43), (⟨"VeneerRowsModel", "step", "()V"⟩, 43), (⟨"VeneerRowsModel", "ends", "(I)V"⟩, 43), (⟨"VeneerRowsModel", "doAct", "(IIII)V"⟩, 43), (⟨"VeneerRowsModel", "sendsAs", "(IIII)V"⟩, 43), (⟨"VeneerRowsModel", "isWrongWord", "(III)Z"⟩, 43)]
theorem lw_r4 : ∀ q ∈ lw_privs_4, lw_okq q := List.forall_mem_cons.mpr ⟨lw_p48, List.forall_mem_cons.mpr ⟨lw_p49, List.forall_mem_cons.mpr ⟨lw_p50, List.forall_mem_cons.mpr ⟨lw_p51, List.forall_mem_cons.mpr ⟨lw_p52, List.forall_mem_cons.mpr ⟨lw_p53, List.forall_mem_cons.mpr ⟨lw_p54, List.forall_mem_cons.mpr ⟨lw_p55, List.forall_mem_cons.mpr ⟨lw_p56, List.forall_mem_cons.mpr ⟨lw_p57, List.forall_mem_cons.mpr ⟨lw_p58, List.forall_mem_cons.mpr ⟨lw_p59, List.forall_mem_cons.mpr ⟨lw_p60, fun _ h => absurd h List.not_mem_nil⟩⟩⟩⟩⟩⟩⟩⟩⟩⟩⟩⟩⟩
def lw_privs : List (MethodName × Nat) := lw_privs_1 ++ (lw_privs_2 ++ (lw_privs_3 ++ (lw_privs_4)))
def lw_tbl : List Cond := k2_sels lw_privs ++ tables_1
theorem lw_privs_ok : ∀ q ∈ lw_privs, lw_okq q := by
  show ∀ q ∈ lw_privs_1 ++ (lw_privs_2 ++ (lw_privs_3 ++ (lw_privs_4))), lw_okq q
  exact List.forall_mem_append.mpr ⟨lw_r1, List.forall_mem_append.mpr ⟨lw_r2, List.forall_mem_append.mpr ⟨lw_r3, lw_r4⟩⟩⟩
def RX0 : String := "VeneerRows$FaultList"
def TX0 : u_T := fun k => match k with
  | 0 => ("VeneerRows$FaultList", "kinds", "[I", true)
  | 1 => ("VeneerRows$FaultList", "numbers", "[I", true)
  | 2 => ("VeneerRows$FaultList", "seconds", "[I", true)
  | 3 => ("VeneerRows$FaultList", "strict", "Z", true)
  | _ => ("VeneerRows$FaultList", "length", "I", false)
def tyX0 : Nat → FieldType := fun k => match k with
  | 0 => .array .int
  | 1 => .array .int
  | 2 => .array .int
  | 3 => .boolean
  | _ => .int
theorem nmX0 : ∀ a, a < 5 → ∀ b, b < 5 → a ≠ b → (TX0 a).2.1 ≠ (TX0 b).2.1 := by decide +kernel
theorem tyX0_ok : ∀ k, k < 5 → parseFieldDescriptor (TX0 k).2.2.1 = some (tyX0 k) := by decide +kernel
abbrev cX0_init : ByteArray := prog_2_method_1_code
def yX0_init : MethodName := ⟨RX0, "<init>", "(Z)V"⟩
abbrev cX0_tell : ByteArray := prog_2_method_2_code
def yX0_tell : MethodName := ⟨RX0, "tell", "(III)I"⟩
abbrev cX0_at : ByteArray := prog_2_method_3_code
def yX0_at : MethodName := ⟨RX0, "at", "(II)I"⟩
def RX1 : String := "VeneerRows$Line"
def TX1 : u_T := fun k => match k with
  | 0 => ("VeneerRows$Line", "groups", "[I", true)
  | _ => ("VeneerRows$Line", "length", "I", false)
def tyX1 : Nat → FieldType := fun k => match k with
  | 0 => .array .int
  | _ => .int
theorem nmX1 : ∀ a, a < 2 → ∀ b, b < 2 → a ≠ b → (TX1 a).2.1 ≠ (TX1 b).2.1 := by decide +kernel
theorem tyX1_ok : ∀ k, k < 2 → parseFieldDescriptor (TX1 k).2.2.1 = some (tyX1 k) := by decide +kernel
abbrev cX1_init : ByteArray := prog_3_method_1_code
def yX1_init : MethodName := ⟨RX1, "<init>", "()V"⟩
abbrev cX1_at : ByteArray := prog_3_method_2_code
def yX1_at : MethodName := ⟨RX1, "at", "(I)I"⟩
abbrev cX1_has : ByteArray := prog_3_method_3_code
def yX1_has : MethodName := ⟨RX1, "has", "(I)Z"⟩
abbrev cX1_add : ByteArray := prog_3_method_4_code
def yX1_add : MethodName := ⟨RX1, "add", "(I)V"⟩
abbrev cX1_addAll : ByteArray := prog_3_method_5_code
def yX1_addAll : MethodName := ⟨RX1, "addAll", "(LVeneerRows$Line;)V"⟩
def RX2 : String := "VeneerRows$Output"
def TX2 : u_T := fun k => match k with
  | 0 => ("VeneerRows$Output", "bytes", "[B", true)
  | _ => ("VeneerRows$Output", "length", "I", false)
def tyX2 : Nat → FieldType := fun k => match k with
  | 0 => .array .byte
  | _ => .int
theorem nmX2 : ∀ a, a < 2 → ∀ b, b < 2 → a ≠ b → (TX2 a).2.1 ≠ (TX2 b).2.1 := by decide +kernel
theorem tyX2_ok : ∀ k, k < 2 → parseFieldDescriptor (TX2 k).2.2.1 = some (tyX2 k) := by decide +kernel
abbrev cX2_init : ByteArray := prog_4_method_1_code
def yX2_init : MethodName := ⟨RX2, "<init>", "()V"⟩
abbrev cX2_at : ByteArray := prog_4_method_2_code
def yX2_at : MethodName := ⟨RX2, "at", "(I)I"⟩
abbrev cX2_add : ByteArray := prog_4_method_3_code
def yX2_add : MethodName := ⟨RX2, "add", "(C)V"⟩
abbrev cX2_say : ByteArray := prog_4_method_4_code
def yX2_say : MethodName := ⟨RX2, "say", "(Ljava/lang/String;)V"⟩
abbrev cX2_say_ : ByteArray := prog_4_method_5_code
def yX2_say_ : MethodName := ⟨RX2, "say", "(LVeneerRows$Text;)V"⟩
abbrev cX2_sayNumber : ByteArray := prog_4_method_6_code
def yX2_sayNumber : MethodName := ⟨RX2, "sayNumber", "(I)V"⟩
def RX3 : String := "VeneerRows$Routine"
def TX3 : u_T := fun k => match k with
  | 0 => ("VeneerRows$Routine", "ops", "[I", true)
  | 1 => ("VeneerRows$Routine", "firsts", "[I", true)
  | 2 => ("VeneerRows$Routine", "seconds", "[I", true)
  | _ => ("VeneerRows$Routine", "length", "I", false)
def tyX3 : Nat → FieldType := fun k => match k with
  | 0 => .array .int
  | 1 => .array .int
  | 2 => .array .int
  | _ => .int
theorem nmX3 : ∀ a, a < 4 → ∀ b, b < 4 → a ≠ b → (TX3 a).2.1 ≠ (TX3 b).2.1 := by decide +kernel
theorem tyX3_ok : ∀ k, k < 4 → parseFieldDescriptor (TX3 k).2.2.1 = some (tyX3 k) := by decide +kernel
abbrev cX3_init : ByteArray := prog_5_method_1_code
def yX3_init : MethodName := ⟨RX3, "<init>", "()V"⟩
abbrev cX3_add : ByteArray := prog_5_method_2_code
def yX3_add : MethodName := ⟨RX3, "add", "(III)V"⟩
abbrev cX3_has : ByteArray := prog_5_method_3_code
def yX3_has : MethodName := ⟨RX3, "has", "(I)Z"⟩
abbrev cX3_opAt : ByteArray := prog_5_method_4_code
def yX3_opAt : MethodName := ⟨RX3, "opAt", "(I)I"⟩
abbrev cX3_firstAt : ByteArray := prog_5_method_5_code
def yX3_firstAt : MethodName := ⟨RX3, "firstAt", "(I)I"⟩
abbrev cX3_secondAt : ByteArray := prog_5_method_6_code
def yX3_secondAt : MethodName := ⟨RX3, "secondAt", "(I)I"⟩
def RX4 : String := "VeneerRows$Rows"
def TX4 : u_T := fun k => match k with
  | 0 => ("VeneerRows$Rows", "lengths", "[I", true)
  | _ => ("VeneerRows$Rows", "values", "[I", true)
def tyX4 : Nat → FieldType := fun k => match k with
  | 0 => .array .int
  | _ => .array .int
theorem nmX4 : ∀ a, a < 2 → ∀ b, b < 2 → a ≠ b → (TX4 a).2.1 ≠ (TX4 b).2.1 := by decide +kernel
theorem tyX4_ok : ∀ k, k < 2 → parseFieldDescriptor (TX4 k).2.2.1 = some (tyX4 k) := by decide +kernel
abbrev cX4_init : ByteArray := prog_6_method_1_code
def yX4_init : MethodName := ⟨RX4, "<init>", "()V"⟩
abbrev cX4_isName : ByteArray := prog_6_method_2_code
def yX4_isName : MethodName := ⟨RX4, "isName", "(I)Z"⟩
abbrev cX4_lengthOf : ByteArray := prog_6_method_3_code
def yX4_lengthOf : MethodName := ⟨RX4, "lengthOf", "(I)I"⟩
abbrev cX4_has : ByteArray := prog_6_method_4_code
def yX4_has : MethodName := ⟨RX4, "has", "(II)Z"⟩
abbrev cX4_at : ByteArray := prog_6_method_5_code
def yX4_at : MethodName := ⟨RX4, "at", "(II)I"⟩
abbrev cX4_put : ByteArray := prog_6_method_6_code
def yX4_put : MethodName := ⟨RX4, "put", "(III)V"⟩
abbrev cX4_add : ByteArray := prog_6_method_7_code
def yX4_add : MethodName := ⟨RX4, "add", "(II)V"⟩
abbrev cX4_clearAll : ByteArray := prog_6_method_8_code
def yX4_clearAll : MethodName := ⟨RX4, "clearAll", "()V"⟩
abbrev cX4_inherit : ByteArray := prog_6_method_9_code
def yX4_inherit : MethodName := ⟨RX4, "inherit", "(LVeneerRows$Rows;)V"⟩
abbrev cX4_addRow : ByteArray := prog_6_method_10_code
def yX4_addRow : MethodName := ⟨RX4, "addRow", "(LVeneerRows$Rows;I)V"⟩
def RX5 : String := "VeneerRows$Text"
def TX5 : u_T := fun k => match k with
  | 0 => ("VeneerRows$Text", "letters", "[B", true)
  | _ => ("VeneerRows$Text", "length", "I", false)
def tyX5 : Nat → FieldType := fun k => match k with
  | 0 => .array .byte
  | _ => .int
theorem nmX5 : ∀ a, a < 2 → ∀ b, b < 2 → a ≠ b → (TX5 a).2.1 ≠ (TX5 b).2.1 := by decide +kernel
theorem tyX5_ok : ∀ k, k < 2 → parseFieldDescriptor (TX5 k).2.2.1 = some (tyX5 k) := by decide +kernel
abbrev cX5_init : ByteArray := prog_7_method_1_code
def yX5_init : MethodName := ⟨RX5, "<init>", "()V"⟩
abbrev cX5_add : ByteArray := prog_7_method_2_code
def yX5_add : MethodName := ⟨RX5, "add", "(B)V"⟩
abbrev cX5_at : ByteArray := prog_7_method_3_code
def yX5_at : MethodName := ⟨RX5, "at", "(I)C"⟩
abbrev cX5_beginsWithVowel : ByteArray := prog_7_method_4_code
def yX5_beginsWithVowel : MethodName := ⟨RX5, "beginsWithVowel", "()Z"⟩
def RX6 : String := "VeneerRows$Thing"
def TX6 : u_T := fun k => match k with
  | 0 => ("VeneerRows$Thing", "isClass", "Z", true)
  | 1 => ("VeneerRows$Thing", "line", "LVeneerRows$Line;", true)
  | 2 => ("VeneerRows$Thing", "pool", "I", true)
  | 3 => ("VeneerRows$Thing", "rows", "LVeneerRows$Rows;", true)
  | 4 => ("VeneerRows$Thing", "there", "Z", false)
  | 5 => ("VeneerRows$Thing", "text", "LVeneerRows$Text;", false)
  | _ => ("VeneerRows$Thing", "proper", "Z", false)
def tyX6 : Nat → FieldType := fun k => match k with
  | 0 => .boolean
  | 1 => .object "VeneerRows$Line"
  | 2 => .int
  | 3 => .object "VeneerRows$Rows"
  | 4 => .boolean
  | 5 => .object "VeneerRows$Text"
  | _ => .boolean
theorem nmX6 : ∀ a, a < 7 → ∀ b, b < 7 → a ≠ b → (TX6 a).2.1 ≠ (TX6 b).2.1 := by decide +kernel
theorem tyX6_ok : ∀ k, k < 7 → parseFieldDescriptor (TX6 k).2.2.1 = some (tyX6 k) := by decide +kernel
abbrev cX6_init : ByteArray := prog_8_method_1_code
def yX6_init : MethodName := ⟨RX6, "<init>", "(ZLVeneerRows$Line;I)V"⟩
def RX7 : String := "VeneerRows$Tree"
def TX7 : u_T := fun k => match k with
  | 0 => ("VeneerRows$Tree", "parents", "[I", true)
  | 1 => ("VeneerRows$Tree", "firstChildren", "[I", true)
  | _ => ("VeneerRows$Tree", "siblings", "[I", true)
def tyX7 : Nat → FieldType := fun k => match k with
  | 0 => .array .int
  | 1 => .array .int
  | _ => .array .int
theorem nmX7 : ∀ a, a < 3 → ∀ b, b < 3 → a ≠ b → (TX7 a).2.1 ≠ (TX7 b).2.1 := by decide +kernel
theorem tyX7_ok : ∀ k, k < 3 → parseFieldDescriptor (TX7 k).2.2.1 = some (tyX7 k) := by decide +kernel
abbrev cX7_init : ByteArray := prog_9_method_1_code
def yX7_init : MethodName := ⟨RX7, "<init>", "()V"⟩
abbrev cX7_holds : ByteArray := prog_9_method_2_code
def yX7_holds : MethodName := ⟨RX7, "holds", "(I)Z"⟩
abbrev cX7_parentOf : ByteArray := prog_9_method_3_code
def yX7_parentOf : MethodName := ⟨RX7, "parentOf", "(I)I"⟩
abbrev cX7_childOf : ByteArray := prog_9_method_4_code
def yX7_childOf : MethodName := ⟨RX7, "childOf", "(I)I"⟩
abbrev cX7_siblingOf : ByteArray := prog_9_method_5_code
def yX7_siblingOf : MethodName := ⟨RX7, "siblingOf", "(I)I"⟩
abbrev cX7_childrenOf : ByteArray := prog_9_method_6_code
def yX7_childrenOf : MethodName := ⟨RX7, "childrenOf", "(I)I"⟩
abbrev cX7_isInOrAt : ByteArray := prog_9_method_7_code
def yX7_isInOrAt : MethodName := ⟨RX7, "isInOrAt", "(II)Z"⟩
abbrev cX7_put : ByteArray := prog_9_method_8_code
def yX7_put : MethodName := ⟨RX7, "put", "(II)V"⟩
abbrev cX7_lift : ByteArray := prog_9_method_9_code
def yX7_lift : MethodName := ⟨RX7, "lift", "(I)V"⟩
abbrev cX7_closeGap : ByteArray := prog_9_method_10_code
def yX7_closeGap : MethodName := ⟨RX7, "closeGap", "(II)V"⟩
abbrev cX7_liftChildren : ByteArray := prog_9_method_11_code
def yX7_liftChildren : MethodName := ⟨RX7, "liftChildren", "(I)V"⟩
def RX8 : String := "VeneerRows$WordArray"
def TX8 : u_T := fun k => match k with
  | 0 => ("VeneerRows$WordArray", "words", "[I", true)
  | _ => ("VeneerRows$WordArray", "length", "I", true)
def tyX8 : Nat → FieldType := fun k => match k with
  | 0 => .array .int
  | _ => .int
theorem nmX8 : ∀ a, a < 2 → ∀ b, b < 2 → a ≠ b → (TX8 a).2.1 ≠ (TX8 b).2.1 := by decide +kernel
theorem tyX8_ok : ∀ k, k < 2 → parseFieldDescriptor (TX8 k).2.2.1 = some (tyX8 k) := by decide +kernel
abbrev cX8_init : ByteArray := prog_10_method_1_code
def yX8_init : MethodName := ⟨RX8, "<init>", "(I)V"⟩
abbrev cX8_has : ByteArray := prog_10_method_2_code
def yX8_has : MethodName := ⟨RX8, "has", "(I)Z"⟩
abbrev cX8_at : ByteArray := prog_10_method_3_code
def yX8_at : MethodName := ⟨RX8, "at", "(I)I"⟩
abbrev cX8_put : ByteArray := prog_10_method_4_code
def yX8_put : MethodName := ⟨RX8, "put", "(II)V"⟩
def RX9 : String := "VeneerRows"
def TX9 : u_T := fun k => match k with
  | 0 => ("VeneerRows", "things", "[LVeneerRows$Thing;", true)
  | 1 => ("VeneerRows", "texts", "[LVeneerRows$Text;", true)
  | 2 => ("VeneerRows", "routines", "[LVeneerRows$Routine;", true)
  | 3 => ("VeneerRows", "arrays", "[LVeneerRows$WordArray;", true)
  | 4 => ("VeneerRows", "forest", "LVeneerRows$Tree;", true)
  | 5 => ("VeneerRows", "output", "LVeneerRows$Output;", true)
  | 6 => ("VeneerRows", "faults", "LVeneerRows$FaultList;", true)
  | 7 => ("VeneerRows", "draft", "LVeneerRows$Text;", false)
  | 8 => ("VeneerRows", "thingCount", "I", false)
  | 9 => ("VeneerRows", "textCount", "I", false)
  | 10 => ("VeneerRows", "routineCount", "I", false)
  | 11 => ("VeneerRows", "arrayCount", "I", false)
  | 12 => ("VeneerRows", "actsDone", "I", false)
  | _ => ("VeneerRows", "actsFaultTold", "Z", false)
def tyX9 : Nat → FieldType := fun k => match k with
  | 0 => .array (.object "VeneerRows$Thing")
  | 1 => .array (.object "VeneerRows$Text")
  | 2 => .array (.object "VeneerRows$Routine")
  | 3 => .array (.object "VeneerRows$WordArray")
  | 4 => .object "VeneerRows$Tree"
  | 5 => .object "VeneerRows$Output"
  | 6 => .object "VeneerRows$FaultList"
  | 7 => .object "VeneerRows$Text"
  | 8 => .int
  | 9 => .int
  | 10 => .int
  | 11 => .int
  | 12 => .int
  | _ => .boolean
theorem nmX9 : ∀ a, a < 14 → ∀ b, b < 14 → a ≠ b → (TX9 a).2.1 ≠ (TX9 b).2.1 := by decide +kernel
theorem tyX9_ok : ∀ k, k < 14 → parseFieldDescriptor (TX9 k).2.2.1 = some (tyX9 k) := by decide +kernel
abbrev cX9_init : ByteArray := prog_1_method_1_code
def yX9_init : MethodName := ⟨RX9, "<init>", "(I)V"⟩
abbrev cX9_letter : ByteArray := prog_1_method_2_code
def yX9_letter : MethodName := ⟨RX9, "letter", "(I)I"⟩
abbrev cX9_text : ByteArray := prog_1_method_3_code
def yX9_text : MethodName := ⟨RX9, "text", "()I"⟩
abbrev cX9_routine : ByteArray := prog_1_method_4_code
def yX9_routine : MethodName := ⟨RX9, "routine", "()I"⟩
abbrev cX9_act : ByteArray := prog_1_method_5_code
def yX9_act : MethodName := ⟨RX9, "act", "(IIII)I"⟩
abbrev cX9_group : ByteArray := prog_1_method_6_code
def yX9_group : MethodName := ⟨RX9, "group", "(III)I"⟩
abbrev cX9_object : ByteArray := prog_1_method_7_code
def yX9_object : MethodName := ⟨RX9, "object", "(II)I"⟩
abbrev cX9_value : ByteArray := prog_1_method_8_code
def yX9_value : MethodName := ⟨RX9, "value", "(IIII)I"⟩
abbrev cX9_array : ByteArray := prog_1_method_9_code
def yX9_array : MethodName := ⟨RX9, "array", "(I)I"⟩
abbrev cX9_called : ByteArray := prog_1_method_10_code
def yX9_called : MethodName := ⟨RX9, "called", "(IIZ)I"⟩
abbrev cX9_send : ByteArray := prog_1_method_11_code
def yX9_send : MethodName := ⟨RX9, "send", "(III)I"⟩
abbrev cX9_sendAs : ByteArray := prog_1_method_12_code
def yX9_sendAs : MethodName := ⟨RX9, "sendAs", "(IIII)I"⟩
abbrev cX9_read : ByteArray := prog_1_method_13_code
def yX9_read : MethodName := ⟨RX9, "read", "(III)I"⟩
abbrev cX9_write : ByteArray := prog_1_method_14_code
def yX9_write : MethodName := ⟨RX9, "write", "(IIII)I"⟩
abbrev cX9_move : ByteArray := prog_1_method_15_code
def yX9_move : MethodName := ⟨RX9, "move", "(II)I"⟩
abbrev cX9_tree : ByteArray := prog_1_method_16_code
def yX9_tree : MethodName := ⟨RX9, "tree", "(II)I"⟩
abbrev cX9_loop : ByteArray := prog_1_method_17_code
def yX9_loop : MethodName := ⟨RX9, "loop", "(II)I"⟩
abbrev cX9_meta : ByteArray := prog_1_method_18_code
def yX9_meta : MethodName := ⟨RX9, "meta", "(I)I"⟩
abbrev cX9_isOf : ByteArray := prog_1_method_19_code
def yX9_isOf : MethodName := ⟨RX9, "isOf", "(II)I"⟩
abbrev cX9_provides : ByteArray := prog_1_method_20_code
def yX9_provides : MethodName := ⟨RX9, "provides", "(II)I"⟩
abbrev cX9_word : ByteArray := prog_1_method_21_code
def yX9_word : MethodName := ⟨RX9, "word", "(II)I"⟩
abbrev cX9_setWord : ByteArray := prog_1_method_22_code
def yX9_setWord : MethodName := ⟨RX9, "setWord", "(III)I"⟩
abbrev cX9_byteOf : ByteArray := prog_1_method_23_code
def yX9_byteOf : MethodName := ⟨RX9, "byteOf", "(II)I"⟩
abbrev cX9_name : ByteArray := prog_1_method_24_code
def yX9_name : MethodName := ⟨RX9, "name", "(II)I"⟩
abbrev cX9_out : ByteArray := prog_1_method_25_code
def yX9_out : MethodName := ⟨RX9, "out", "(I)I"⟩
abbrev cX9_clear : ByteArray := prog_1_method_26_code
def yX9_clear : MethodName := ⟨RX9, "clear", "()I"⟩
abbrev cX9_fault : ByteArray := prog_1_method_27_code
def yX9_fault : MethodName := ⟨RX9, "fault", "(II)I"⟩
abbrev cX9_count : ByteArray := prog_1_method_28_code
def yX9_count : MethodName := ⟨RX9, "count", "(I)I"⟩
abbrev cX9_thingAt : ByteArray := prog_1_method_29_code
def yX9_thingAt : MethodName := ⟨RX9, "thingAt", "(I)LVeneerRows$Thing;"⟩
abbrev cX9_textAt : ByteArray := prog_1_method_30_code
def yX9_textAt : MethodName := ⟨RX9, "textAt", "(I)LVeneerRows$Text;"⟩
abbrev cX9_routineAt : ByteArray := prog_1_method_31_code
def yX9_routineAt : MethodName := ⟨RX9, "routineAt", "(I)LVeneerRows$Routine;"⟩
abbrev cX9_arrayAt : ByteArray := prog_1_method_32_code
def yX9_arrayAt : MethodName := ⟨RX9, "arrayAt", "(I)LVeneerRows$WordArray;"⟩
abbrev cX9_answeringThing : ByteArray := prog_1_method_33_code
def yX9_answeringThing : MethodName := ⟨RX9, "answeringThing", "(I)LVeneerRows$Thing;"⟩
abbrev cX9_isNoneOrClass : ByteArray := prog_1_method_34_code
def yX9_isNoneOrClass : MethodName := ⟨RX9, "isNoneOrClass", "(I)Z"⟩
abbrev cX9_addThing : ByteArray := prog_1_method_35_code
def yX9_addThing : MethodName := ⟨RX9, "addThing", "(LVeneerRows$Thing;)V"⟩
abbrev cX9_addLines : ByteArray := prog_1_method_36_code
def yX9_addLines : MethodName := ⟨RX9, "addLines", "(LVeneerRows$Line;II)V"⟩
abbrev cX9_takeRowsOfLine : ByteArray := prog_1_method_37_code
def yX9_takeRowsOfLine : MethodName := ⟨RX9, "takeRowsOfLine", "(LVeneerRows$Thing;)V"⟩
abbrev cX9_thingWithValue : ByteArray := prog_1_method_38_code
def yX9_thingWithValue : MethodName := ⟨RX9, "thingWithValue", "(III)LVeneerRows$Thing;"⟩
abbrev cX9_arrayWithWord : ByteArray := prog_1_method_39_code
def yX9_arrayWithWord : MethodName := ⟨RX9, "arrayWithWord", "(III)LVeneerRows$WordArray;"⟩
abbrev cX9_startActs : ByteArray := prog_1_method_40_code
def yX9_startActs : MethodName := ⟨RX9, "startActs", "()V"⟩
abbrev cX9_sendTo : ByteArray := prog_1_method_41_code
def yX9_sendTo : MethodName := ⟨RX9, "sendTo", "(IIII)I"⟩
abbrev cX9_sendToClass : ByteArray := prog_1_method_42_code
def yX9_sendToClass : MethodName := ⟨RX9, "sendToClass", "(IIII)I"⟩
abbrev cX9_sendToAs : ByteArray := prog_1_method_43_code
def yX9_sendToAs : MethodName := ⟨RX9, "sendToAs", "(IIIII)I"⟩
abbrev cX9_answerOfRow : ByteArray := prog_1_method_44_code
def yX9_answerOfRow : MethodName := ⟨RX9, "answerOfRow", "(LVeneerRows$Rows;IIII)I"⟩
abbrev cX9_freeOnes : ByteArray := prog_1_method_45_code
def yX9_freeOnes : MethodName := ⟨RX9, "freeOnes", "(I)I"⟩
abbrev cX9_leastFree : ByteArray := prog_1_method_46_code
def yX9_leastFree : MethodName := ⟨RX9, "leastFree", "(I)I"⟩
abbrev cX9_thereInPool : ByteArray := prog_1_method_47_code
def yX9_thereInPool : MethodName := ⟨RX9, "thereInPool", "(II)LVeneerRows$Thing;"⟩
abbrev cX9_createOne : ByteArray := prog_1_method_48_code
def yX9_createOne : MethodName := ⟨RX9, "createOne", "(III)I"⟩
abbrev cX9_destroyOne : ByteArray := prog_1_method_49_code
def yX9_destroyOne : MethodName := ⟨RX9, "destroyOne", "(III)I"⟩
abbrev cX9_recreateOne : ByteArray := prog_1_method_50_code
def yX9_recreateOne : MethodName := ⟨RX9, "recreateOne", "(III)I"⟩
abbrev cX9_sendIfProvided : ByteArray := prog_1_method_51_code
def yX9_sendIfProvided : MethodName := ⟨RX9, "sendIfProvided", "(LVeneerRows$Thing;IIII)V"⟩
abbrev cX9_run : ByteArray := prog_1_method_52_code
def yX9_run : MethodName := ⟨RX9, "run", "(IIII)I"⟩
abbrev cX9_mayAct : ByteArray := prog_1_method_53_code
def yX9_mayAct : MethodName := ⟨RX9, "mayAct", "(I)Z"⟩
abbrev cX9_endsBehind : ByteArray := prog_1_method_54_code
def yX9_endsBehind : MethodName := ⟨RX9, "endsBehind", "(II)Z"⟩
abbrev cX9_perform : ByteArray := prog_1_method_55_code
def yX9_perform : MethodName := ⟨RX9, "perform", "(LVeneerRows$Routine;IIIII)I"⟩
abbrev cX9_sayName : ByteArray := prog_1_method_56_code
def yX9_sayName : MethodName := ⟨RX9, "sayName", "(LVeneerRows$Thing;II)V"⟩
abbrev cX9_articleOf : ByteArray := prog_1_method_57_code
def yX9_articleOf : MethodName := ⟨RX9, "articleOf", "(LVeneerRows$Text;I)Ljava/lang/String;"⟩
def RX10 : String := "VeneerRowsModel"
def TX10 : u_T := fun k => match k with
  | 0 => ("VeneerRowsModel", "strict", "Z", true)
  | 1 => ("VeneerRowsModel", "drafted", "I", false)
  | 2 => ("VeneerRowsModel", "draft", "[I", true)
  | 3 => ("VeneerRowsModel", "texts", "I", false)
  | 4 => ("VeneerRowsModel", "textSize", "[I", true)
  | 5 => ("VeneerRowsModel", "textByte", "[I", true)
  | 6 => ("VeneerRowsModel", "routines", "I", false)
  | 7 => ("VeneerRowsModel", "actMany", "[I", true)
  | 8 => ("VeneerRowsModel", "op", "[I", true)
  | 9 => ("VeneerRowsModel", "actA", "[I", true)
  | 10 => ("VeneerRowsModel", "actB", "[I", true)
  | 11 => ("VeneerRowsModel", "arrays", "I", false)
  | 12 => ("VeneerRowsModel", "arraySize", "[I", true)
  | 13 => ("VeneerRowsModel", "arrayWord", "[I", true)
  | 14 => ("VeneerRowsModel", "things", "I", false)
  | 15 => ("VeneerRowsModel", "isGroup", "[Z", true)
  | 16 => ("VeneerRowsModel", "isThere", "[Z", true)
  | 17 => ("VeneerRowsModel", "poolSize", "[I", true)
  | 18 => ("VeneerRowsModel", "lineMany", "[I", true)
  | 19 => ("VeneerRowsModel", "line", "[I", true)
  | 20 => ("VeneerRowsModel", "rowMany", "[I", true)
  | 21 => ("VeneerRowsModel", "row", "[I", true)
  | 22 => ("VeneerRowsModel", "textOf", "[I", true)
  | 23 => ("VeneerRowsModel", "isProper", "[Z", true)
  | 24 => ("VeneerRowsModel", "parent", "[I", true)
  | 25 => ("VeneerRowsModel", "firstChild", "[I", true)
  | 26 => ("VeneerRowsModel", "sibling", "[I", true)
  | 27 => ("VeneerRowsModel", "faults", "I", false)
  | 28 => ("VeneerRowsModel", "fault", "[I", true)
  | 29 => ("VeneerRowsModel", "outSize", "I", false)
  | 30 => ("VeneerRowsModel", "out", "[I", true)
  | 31 => ("VeneerRowsModel", "top", "I", false)
  | 32 => ("VeneerRowsModel", "depth", "I", false)
  | 33 => ("VeneerRowsModel", "sort", "[I", true)
  | 34 => ("VeneerRowsModel", "routineOf", "[I", true)
  | 35 => ("VeneerRowsModel", "next", "[I", true)
  | 36 => ("VeneerRowsModel", "self", "[I", true)
  | 37 => ("VeneerRowsModel", "argument", "[I", true)
  | 38 => ("VeneerRowsModel", "result", "[I", true)
  | 39 => ("VeneerRowsModel", "ready", "Z", false)
  | 40 => ("VeneerRowsModel", "answer", "I", false)
  | 41 => ("VeneerRowsModel", "acts", "I", false)
  | _ => ("VeneerRowsModel", "isSpent", "Z", false)
def tyX10 : Nat → FieldType := fun k => match k with
  | 0 => .boolean
  | 1 => .int
  | 2 => .array .int
  | 3 => .int
  | 4 => .array .int
  | 5 => .array .int
  | 6 => .int
  | 7 => .array .int
  | 8 => .array .int
  | 9 => .array .int
  | 10 => .array .int
  | 11 => .int
  | 12 => .array .int
  | 13 => .array .int
  | 14 => .int
  | 15 => .array .boolean
  | 16 => .array .boolean
  | 17 => .array .int
  | 18 => .array .int
  | 19 => .array .int
  | 20 => .array .int
  | 21 => .array .int
  | 22 => .array .int
  | 23 => .array .boolean
  | 24 => .array .int
  | 25 => .array .int
  | 26 => .array .int
  | 27 => .int
  | 28 => .array .int
  | 29 => .int
  | 30 => .array .int
  | 31 => .int
  | 32 => .int
  | 33 => .array .int
  | 34 => .array .int
  | 35 => .array .int
  | 36 => .array .int
  | 37 => .array .int
  | 38 => .array .int
  | 39 => .boolean
  | 40 => .int
  | 41 => .int
  | _ => .boolean
theorem nmX10 : ∀ a, a < 43 → ∀ b, b < 43 → a ≠ b → (TX10 a).2.1 ≠ (TX10 b).2.1 := by decide +kernel
theorem tyX10_ok : ∀ k, k < 43 → parseFieldDescriptor (TX10 k).2.2.1 = some (tyX10 k) := by decide +kernel
abbrev cX10_init : ByteArray := prog_12_method_1_code
def yX10_init : MethodName := ⟨RX10, "<init>", "(I)V"⟩
abbrev cX10_in : ByteArray := prog_12_method_2_code
def yX10_in : MethodName := ⟨RX10, "in", "(III)Z"⟩
abbrev cX10_letter : ByteArray := prog_12_method_3_code
def yX10_letter : MethodName := ⟨RX10, "letter", "(I)I"⟩
abbrev cX10_text : ByteArray := prog_12_method_4_code
def yX10_text : MethodName := ⟨RX10, "text", "()I"⟩
abbrev cX10_routine : ByteArray := prog_12_method_5_code
def yX10_routine : MethodName := ⟨RX10, "routine", "()I"⟩
abbrev cX10_act : ByteArray := prog_12_method_6_code
def yX10_act : MethodName := ⟨RX10, "act", "(IIII)I"⟩
abbrev cX10_array : ByteArray := prog_12_method_7_code
def yX10_array : MethodName := ⟨RX10, "array", "(I)I"⟩
abbrev cX10_isClass : ByteArray := prog_12_method_8_code
def yX10_isClass : MethodName := ⟨RX10, "isClass", "(I)Z"⟩
abbrev cX10_meta : ByteArray := prog_12_method_9_code
def yX10_meta : MethodName := ⟨RX10, "meta", "(I)I"⟩
abbrev cX10_joinLine : ByteArray := prog_12_method_10_code
def yX10_joinLine : MethodName := ⟨RX10, "joinLine", "(II)V"⟩
abbrev cX10_addToLine : ByteArray := prog_12_method_11_code
def yX10_addToLine : MethodName := ⟨RX10, "addToLine", "(II)V"⟩
abbrev cX10_newThing : ByteArray := prog_12_method_12_code
def yX10_newThing : MethodName := ⟨RX10, "newThing", "(Z)I"⟩
abbrev cX10_group : ByteArray := prog_12_method_13_code
def yX10_group : MethodName := ⟨RX10, "group", "(III)I"⟩
abbrev cX10_object : ByteArray := prog_12_method_14_code
def yX10_object : MethodName := ⟨RX10, "object", "(II)I"⟩
abbrev cX10_rowsAnew : ByteArray := prog_12_method_15_code
def yX10_rowsAnew : MethodName := ⟨RX10, "rowsAnew", "(I)V"⟩
abbrev cX10_value : ByteArray := prog_12_method_16_code
def yX10_value : MethodName := ⟨RX10, "value", "(IIII)I"⟩
abbrev cX10_called : ByteArray := prog_12_method_17_code
def yX10_called : MethodName := ⟨RX10, "called", "(IIZ)I"⟩
abbrev cX10_fails : ByteArray := prog_12_method_18_code
def yX10_fails : MethodName := ⟨RX10, "fails", "(III)I"⟩
abbrev cX10_say : ByteArray := prog_12_method_19_code
def yX10_say : MethodName := ⟨RX10, "say", "(I)V"⟩
abbrev cX10_sayText : ByteArray := prog_12_method_20_code
def yX10_sayText : MethodName := ⟨RX10, "sayText", "(I)V"⟩
abbrev cX10_sayNumber : ByteArray := prog_12_method_21_code
def yX10_sayNumber : MethodName := ⟨RX10, "sayNumber", "(I)V"⟩
abbrev cX10_isVowel : ByteArray := prog_12_method_22_code
def yX10_isVowel : MethodName := ⟨RX10, "isVowel", "(I)Z"⟩
abbrev cX10_sayArticle : ByteArray := prog_12_method_23_code
def yX10_sayArticle : MethodName := ⟨RX10, "sayArticle", "(II)V"⟩
abbrev cX10_name : ByteArray := prog_12_method_24_code
def yX10_name : MethodName := ⟨RX10, "name", "(II)I"⟩
abbrev cX10_rowAt : ByteArray := prog_12_method_25_code
def yX10_rowAt : MethodName := ⟨RX10, "rowAt", "(II)I"⟩
abbrev cX10_wrong : ByteArray := prog_12_method_26_code
def yX10_wrong : MethodName := ⟨RX10, "wrong", "(III)I"⟩
abbrev cX10_read : ByteArray := prog_12_method_27_code
def yX10_read : MethodName := ⟨RX10, "read", "(III)I"⟩
abbrev cX10_write : ByteArray := prog_12_method_28_code
def yX10_write : MethodName := ⟨RX10, "write", "(IIII)I"⟩
abbrev cX10_leave : ByteArray := prog_12_method_29_code
def yX10_leave : MethodName := ⟨RX10, "leave", "(I)V"⟩
abbrev cX10_move : ByteArray := prog_12_method_30_code
def yX10_move : MethodName := ⟨RX10, "move", "(II)I"⟩
abbrev cX10_tree : ByteArray := prog_12_method_31_code
def yX10_tree : MethodName := ⟨RX10, "tree", "(II)I"⟩
abbrev cX10_isOf : ByteArray := prog_12_method_32_code
def yX10_isOf : MethodName := ⟨RX10, "isOf", "(II)I"⟩
abbrev cX10_provides : ByteArray := prog_12_method_33_code
def yX10_provides : MethodName := ⟨RX10, "provides", "(II)I"⟩
abbrev cX10_answers : ByteArray := prog_12_method_34_code
def yX10_answers : MethodName := ⟨RX10, "answers", "(I)V"⟩
abbrev cX10_pile : ByteArray := prog_12_method_35_code
def yX10_pile : MethodName := ⟨RX10, "pile", "(II)V"⟩
abbrev cX10_runs : ByteArray := prog_12_method_36_code
def yX10_runs : MethodName := ⟨RX10, "runs", "(III)V"⟩
abbrev cX10_does : ByteArray := prog_12_method_37_code
def yX10_does : MethodName := ⟨RX10, "does", "(III)V"⟩
abbrev cX10_sendObject : ByteArray := prog_12_method_38_code
def yX10_sendObject : MethodName := ⟨RX10, "sendObject", "(III)V"⟩
abbrev cX10_sendGroup : ByteArray := prog_12_method_39_code
def yX10_sendGroup : MethodName := ⟨RX10, "sendGroup", "(III)V"⟩
abbrev cX10_sendIfThere : ByteArray := prog_12_method_40_code
def yX10_sendIfThere : MethodName := ⟨RX10, "sendIfThere", "(III)V"⟩
abbrev cX10_sends : ByteArray := prog_12_method_41_code
def yX10_sends : MethodName := ⟨RX10, "sends", "(III)V"⟩
abbrev cX10_sendsAs : ByteArray := prog_12_method_42_code
def yX10_sendsAs : MethodName := ⟨RX10, "sendsAs", "(IIII)V"⟩
abbrev cX10_take : ByteArray := prog_12_method_43_code
def yX10_take : MethodName := ⟨RX10, "take", "()V"⟩
abbrev cX10_ends : ByteArray := prog_12_method_44_code
def yX10_ends : MethodName := ⟨RX10, "ends", "(I)V"⟩
abbrev cX10_step : ByteArray := prog_12_method_45_code
def yX10_step : MethodName := ⟨RX10, "step", "()V"⟩
abbrev cX10_doAct : ByteArray := prog_12_method_46_code
def yX10_doAct : MethodName := ⟨RX10, "doAct", "(IIII)V"⟩
abbrev cX10_begins : ByteArray := prog_12_method_47_code
def yX10_begins : MethodName := ⟨RX10, "begins", "()V"⟩
abbrev cX10_goes : ByteArray := prog_12_method_48_code
def yX10_goes : MethodName := ⟨RX10, "goes", "()I"⟩
abbrev cX10_send : ByteArray := prog_12_method_49_code
def yX10_send : MethodName := ⟨RX10, "send", "(III)I"⟩
abbrev cX10_sendAs : ByteArray := prog_12_method_50_code
def yX10_sendAs : MethodName := ⟨RX10, "sendAs", "(IIII)I"⟩
abbrev cX10_loop : ByteArray := prog_12_method_51_code
def yX10_loop : MethodName := ⟨RX10, "loop", "(II)I"⟩
abbrev cX10_isWrongWord : ByteArray := prog_12_method_52_code
def yX10_isWrongWord : MethodName := ⟨RX10, "isWrongWord", "(III)Z"⟩
abbrev cX10_word : ByteArray := prog_12_method_53_code
def yX10_word : MethodName := ⟨RX10, "word", "(II)I"⟩
abbrev cX10_setWord : ByteArray := prog_12_method_54_code
def yX10_setWord : MethodName := ⟨RX10, "setWord", "(III)I"⟩
abbrev cX10_byteOf : ByteArray := prog_12_method_55_code
def yX10_byteOf : MethodName := ⟨RX10, "byteOf", "(II)I"⟩
abbrev cX10_out : ByteArray := prog_12_method_56_code
def yX10_out : MethodName := ⟨RX10, "out", "(I)I"⟩
abbrev cX10_clear : ByteArray := prog_12_method_57_code
def yX10_clear : MethodName := ⟨RX10, "clear", "()I"⟩
abbrev cX10_fault : ByteArray := prog_12_method_58_code
def yX10_fault : MethodName := ⟨RX10, "fault", "(II)I"⟩
abbrev cX10_count : ByteArray := prog_12_method_59_code
def yX10_count : MethodName := ⟨RX10, "count", "(I)I"⟩
def RJ11 : String := "java/lang/Character"
abbrev cJ11_isValidCodePoint_9a6ad : ByteArray := prog_13_method_11_code
def yJ11_isValidCodePoint_9a6ad : MethodName := ⟨RJ11, "isValidCodePoint", "(I)Z"⟩
abbrev cJ11_highSurrogate_5068e : ByteArray := prog_13_method_28_code
def yJ11_highSurrogate_5068e : MethodName := ⟨RJ11, "highSurrogate", "(I)C"⟩
abbrev cJ11_lowSurrogate_5068e : ByteArray := prog_13_method_29_code
def yJ11_lowSurrogate_5068e : MethodName := ⟨RJ11, "lowSurrogate", "(I)C"⟩
def RJ9 : String := "java/lang/Math"
abbrev cJ9_floorDiv_7cf53 : ByteArray := prog_14_method_47_code
def yJ9_floorDiv_7cf53 : MethodName := ⟨RJ9, "floorDiv", "(II)I"⟩
abbrev cJ9_floorMod_7cf53 : ByteArray := prog_14_method_50_code
def yJ9_floorMod_7cf53 : MethodName := ⟨RJ9, "floorMod", "(II)I"⟩
abbrev cJ9_max_7cf53 : ByteArray := prog_14_method_65_code
def yJ9_max_7cf53 : MethodName := ⟨RJ9, "max", "(II)I"⟩
abbrev cJ9_min_7cf53 : ByteArray := prog_14_method_69_code
def yJ9_min_7cf53 : MethodName := ⟨RJ9, "min", "(II)I"⟩
def RJ0 : String := "java/lang/String"
abbrev cJ0_length_8abf5 : ByteArray := prog_15_method_54_code
def yJ0_length_8abf5 : MethodName := ⟨RJ0, "length", "()I"⟩
abbrev cJ0_charAt_5068e : ByteArray := prog_15_method_56_code
def yJ0_charAt_5068e : MethodName := ⟨RJ0, "charAt", "(I)C"⟩
abbrev cJ0_indexOf_0f7a4 : ByteArray := prog_15_method_79_code
def yJ0_indexOf_0f7a4 : MethodName := ⟨RJ0, "indexOf", "(I)I"⟩
abbrev cJ0_indexOf_7cf53 : ByteArray := prog_15_method_80_code
def yJ0_indexOf_7cf53 : MethodName := ⟨RJ0, "indexOf", "(II)I"⟩
abbrev cJ0_coder_7d493 : ByteArray := prog_15_method_152_code
def yJ0_coder_7d493 : MethodName := ⟨RJ0, "coder", "()B"⟩
abbrev cJ0_isLatin1_aae02 : ByteArray := prog_15_method_154_code
def yJ0_isLatin1_aae02 : MethodName := ⟨RJ0, "isLatin1", "()Z"⟩
abbrev cJ0_checkIndex_df160 : ByteArray := prog_15_method_155_code
def yJ0_checkIndex_df160 : MethodName := ⟨RJ0, "checkIndex", "(II)V"⟩
abbrev cJ0_checkBoundsBeginEnd_23922 : ByteArray := prog_15_method_158_code
def yJ0_checkBoundsBeginEnd_23922 : MethodName := ⟨RJ0, "checkBoundsBeginEnd", "(III)V"⟩
def RJ1 : String := "java/lang/StringLatin1"
abbrev cJ1_charAt_3b067 : ByteArray := prog_16_method_2_code
def yJ1_charAt_3b067 : MethodName := ⟨RJ1, "charAt", "([BI)C"⟩
abbrev cJ1_canEncode_9a6ad : ByteArray := prog_16_method_4_code
def yJ1_canEncode_9a6ad : MethodName := ⟨RJ1, "canEncode", "(I)Z"⟩
abbrev cJ1_indexOf_4cfef : ByteArray := prog_16_method_22_code
def yJ1_indexOf_4cfef : MethodName := ⟨RJ1, "indexOf", "([BIII)I"⟩
abbrev cJ1_indexOfChar_4cfef : ByteArray := prog_16_method_23_code
def yJ1_indexOfChar_4cfef : MethodName := ⟨RJ1, "indexOfChar", "([BIII)I"⟩
def RJ2 : String := "java/lang/StringUTF16"
abbrev cJ2_getChar_3b067 : ByteArray := prog_17_method_5_code
def yJ2_getChar_3b067 : MethodName := ⟨RJ2, "getChar", "([BI)C"⟩
abbrev cJ2_length_9d52b : ByteArray := prog_17_method_6_code
def yJ2_length_9d52b : MethodName := ⟨RJ2, "length", "([B)I"⟩
abbrev cJ2_indexOf_4cfef : ByteArray := prog_17_method_40_code
def yJ2_indexOf_4cfef : MethodName := ⟨RJ2, "indexOf", "([BIII)I"⟩
abbrev cJ2_indexOfChar_4cfef : ByteArray := prog_17_method_47_code
def yJ2_indexOfChar_4cfef : MethodName := ⟨RJ2, "indexOfChar", "([BIII)I"⟩
abbrev cJ2_indexOfCharUnsafe_4cfef : ByteArray := prog_17_method_48_code
def yJ2_indexOfCharUnsafe_4cfef : MethodName := ⟨RJ2, "indexOfCharUnsafe", "([BIII)I"⟩
abbrev cJ2_indexOfSupplementary_4cfef : ByteArray := prog_17_method_49_code
def yJ2_indexOfSupplementary_4cfef : MethodName := ⟨RJ2, "indexOfSupplementary", "([BIII)I"⟩
abbrev cJ2_charAt_3b067 : ByteArray := prog_17_method_83_code
def yJ2_charAt_3b067 : MethodName := ⟨RJ2, "charAt", "([BI)C"⟩
abbrev cJ2_checkIndex_2214a : ByteArray := prog_17_method_91_code
def yJ2_checkIndex_2214a : MethodName := ⟨RJ2, "checkIndex", "(I[B)V"⟩
abbrev cJ2_checkBoundsBeginEnd_d044e : ByteArray := prog_17_method_93_code
def yJ2_checkBoundsBeginEnd_d044e : MethodName := ⟨RJ2, "checkBoundsBeginEnd", "(II[B)V"⟩
def RJ7 : String := "java/util/Arrays"
abbrev cJ7_fill_53178 : ByteArray := prog_18_method_103_code
def yJ7_fill_53178 : MethodName := ⟨RJ7, "fill", "([II)V"⟩
def RJ3 : String := "jdk/internal/util/Preconditions"
abbrev cJ3_checkIndex_8e157 : ByteArray := prog_19_method_11_code
def yJ3_checkIndex_8e157 : MethodName := ⟨RJ3, "checkIndex", "(IILjava/util/function/BiFunction;)I"⟩
abbrev cJ3_checkFromToIndex_8c36e : ByteArray := prog_19_method_12_code
def yJ3_checkFromToIndex_8c36e : MethodName := ⟨RJ3, "checkFromToIndex", "(IIILjava/util/function/BiFunction;)I"⟩
def RL : String := "VeneerRowsLaw"
abbrev cL_cell : ByteArray := method_2_code
def yL_cell : MethodName := ⟨RL, "cell", "([II)I"⟩
abbrev cL_law : ByteArray := code
def yL_law : MethodName := ⟨RL, "law", "([I)Z"⟩
abbrev vwCl : List vw_C := [(RX0, TX0, 5), (RX1, TX1, 2), (RX2, TX2, 2), (RX3, TX3, 4), (RX4, TX4, 2), (RX5, TX5, 2), (RX6, TX6, 7), (RX7, TX7, 3), (RX8, TX8, 2), (RX9, TX9, 14), (RX10, TX10, 43)]
end
section
theorem dX0_init_0 : decode cX0_init 0 = .ok (.aload_n 0, 1) := by decide +kernel
theorem dX0_init_1 : decode cX0_init 1 = .ok (.invokespecial 3, 3) := by decide +kernel
theorem dX0_init_4 : decode cX0_init 4 = .ok (.aload_n 0, 1) := by decide +kernel
theorem dX0_init_5 : decode cX0_init 5 = .ok (.bipush 30, 2) := by decide +kernel
theorem dX0_init_7 : decode cX0_init 7 = .ok (.newarray .int, 2) := by decide +kernel
theorem dX0_init_9 : decode cX0_init 9 = .ok (.putfield 9, 3) := by decide +kernel
theorem dX0_init_12 : decode cX0_init 12 = .ok (.aload_n 0, 1) := by decide +kernel
theorem dX0_init_13 : decode cX0_init 13 = .ok (.bipush 30, 2) := by decide +kernel
theorem dX0_init_15 : decode cX0_init 15 = .ok (.newarray .int, 2) := by decide +kernel
theorem dX0_init_17 : decode cX0_init 17 = .ok (.putfield 15, 3) := by decide +kernel
theorem dX0_init_20 : decode cX0_init 20 = .ok (.aload_n 0, 1) := by decide +kernel
theorem dX0_init_21 : decode cX0_init 21 = .ok (.bipush 30, 2) := by decide +kernel
theorem dX0_init_23 : decode cX0_init 23 = .ok (.newarray .int, 2) := by decide +kernel
theorem dX0_init_25 : decode cX0_init 25 = .ok (.putfield 18, 3) := by decide +kernel
theorem dX0_init_28 : decode cX0_init 28 = .ok (.aload_n 0, 1) := by decide +kernel
theorem dX0_init_29 : decode cX0_init 29 = .ok (.iload_n 1, 1) := by decide +kernel
theorem dX0_init_30 : decode cX0_init 30 = .ok (.putfield 21, 3) := by decide +kernel
theorem dX0_init_33 : decode cX0_init 33 = .ok (.return_, 1) := by decide +kernel
theorem dX0_tell_0 : decode cX0_tell 0 = .ok (.aload_n 0, 1) := by decide +kernel
theorem dX0_tell_1 : decode cX0_tell 1 = .ok (.getfield 21, 3) := by decide +kernel
theorem dX0_tell_4 : decode cX0_tell 4 = .ok (.ifCond .eq 59, 3) := by decide +kernel
theorem dX0_tell_7 : decode cX0_tell 7 = .ok (.aload_n 0, 1) := by decide +kernel
theorem dX0_tell_8 : decode cX0_tell 8 = .ok (.getfield 25, 3) := by decide +kernel
theorem dX0_tell_11 : decode cX0_tell 11 = .ok (.ifCond .lt 52, 3) := by decide +kernel
theorem dX0_tell_14 : decode cX0_tell 14 = .ok (.aload_n 0, 1) := by decide +kernel
theorem dX0_tell_15 : decode cX0_tell 15 = .ok (.getfield 25, 3) := by decide +kernel
theorem dX0_tell_18 : decode cX0_tell 18 = .ok (.bipush 30, 2) := by decide +kernel
theorem dX0_tell_20 : decode cX0_tell 20 = .ok (.if_icmp .ge 43, 3) := by decide +kernel
theorem dX0_tell_23 : decode cX0_tell 23 = .ok (.aload_n 0, 1) := by decide +kernel
theorem dX0_tell_24 : decode cX0_tell 24 = .ok (.getfield 9, 3) := by decide +kernel
theorem dX0_tell_27 : decode cX0_tell 27 = .ok (.aload_n 0, 1) := by decide +kernel
theorem dX0_tell_28 : decode cX0_tell 28 = .ok (.getfield 25, 3) := by decide +kernel
theorem dX0_tell_31 : decode cX0_tell 31 = .ok (.iload_n 1, 1) := by decide +kernel
theorem dX0_tell_32 : decode cX0_tell 32 = .ok (.iastore, 1) := by decide +kernel
theorem dX0_tell_33 : decode cX0_tell 33 = .ok (.aload_n 0, 1) := by decide +kernel
theorem dX0_tell_34 : decode cX0_tell 34 = .ok (.getfield 15, 3) := by decide +kernel
theorem dX0_tell_37 : decode cX0_tell 37 = .ok (.aload_n 0, 1) := by decide +kernel
theorem dX0_tell_38 : decode cX0_tell 38 = .ok (.getfield 25, 3) := by decide +kernel
theorem dX0_tell_41 : decode cX0_tell 41 = .ok (.iload_n 2, 1) := by decide +kernel
theorem dX0_tell_42 : decode cX0_tell 42 = .ok (.iastore, 1) := by decide +kernel
theorem dX0_tell_43 : decode cX0_tell 43 = .ok (.aload_n 0, 1) := by decide +kernel
theorem dX0_tell_44 : decode cX0_tell 44 = .ok (.getfield 18, 3) := by decide +kernel
theorem dX0_tell_47 : decode cX0_tell 47 = .ok (.aload_n 0, 1) := by decide +kernel
theorem dX0_tell_48 : decode cX0_tell 48 = .ok (.getfield 25, 3) := by decide +kernel
theorem dX0_tell_51 : decode cX0_tell 51 = .ok (.iload_n 3, 1) := by decide +kernel
theorem dX0_tell_52 : decode cX0_tell 52 = .ok (.iastore, 1) := by decide +kernel
theorem dX0_tell_53 : decode cX0_tell 53 = .ok (.aload_n 0, 1) := by decide +kernel
theorem dX0_tell_54 : decode cX0_tell 54 = .ok (.dup, 1) := by decide +kernel
theorem dX0_tell_55 : decode cX0_tell 55 = .ok (.getfield 25, 3) := by decide +kernel
theorem dX0_tell_58 : decode cX0_tell 58 = .ok (.iconst 1, 1) := by decide +kernel
theorem dX0_tell_59 : decode cX0_tell 59 = .ok (.iadd, 1) := by decide +kernel
theorem dX0_tell_60 : decode cX0_tell 60 = .ok (.putfield 25, 3) := by decide +kernel
theorem dX0_tell_63 : decode cX0_tell 63 = .ok (.iconst 0, 1) := by decide +kernel
theorem dX0_tell_64 : decode cX0_tell 64 = .ok (.ireturn, 1) := by decide +kernel
theorem dX0_at_0 : decode cX0_at 0 = .ok (.iload_n 1, 1) := by decide +kernel
theorem dX0_at_1 : decode cX0_at 1 = .ok (.ifCond .lt 17, 3) := by decide +kernel
theorem dX0_at_4 : decode cX0_at 4 = .ok (.iload_n 1, 1) := by decide +kernel
theorem dX0_at_5 : decode cX0_at 5 = .ok (.aload_n 0, 1) := by decide +kernel
theorem dX0_at_6 : decode cX0_at 6 = .ok (.getfield 25, 3) := by decide +kernel
theorem dX0_at_9 : decode cX0_at 9 = .ok (.if_icmp .ge 9, 3) := by decide +kernel
theorem dX0_at_12 : decode cX0_at 12 = .ok (.iload_n 1, 1) := by decide +kernel
theorem dX0_at_13 : decode cX0_at 13 = .ok (.bipush 30, 2) := by decide +kernel
theorem dX0_at_15 : decode cX0_at 15 = .ok (.if_icmp .lt 5, 3) := by decide +kernel
theorem dX0_at_18 : decode cX0_at 18 = .ok (.iconst (-1), 1) := by decide +kernel
theorem dX0_at_19 : decode cX0_at 19 = .ok (.ireturn, 1) := by decide +kernel
theorem dX0_at_20 : decode cX0_at 20 = .ok (.iload_n 2, 1) := by decide +kernel
theorem dX0_at_21 : decode cX0_at 21 = .ok (.tableswitch 48 0 2 #[27, 34, 41], 27) := by decide +kernel
theorem dX0_at_48 : decode cX0_at 48 = .ok (.aload_n 0, 1) := by decide +kernel
theorem dX0_at_49 : decode cX0_at 49 = .ok (.getfield 9, 3) := by decide +kernel
theorem dX0_at_52 : decode cX0_at 52 = .ok (.iload_n 1, 1) := by decide +kernel
theorem dX0_at_53 : decode cX0_at 53 = .ok (.iaload, 1) := by decide +kernel
theorem dX0_at_54 : decode cX0_at 54 = .ok (.ireturn, 1) := by decide +kernel
theorem dX0_at_55 : decode cX0_at 55 = .ok (.aload_n 0, 1) := by decide +kernel
theorem dX0_at_56 : decode cX0_at 56 = .ok (.getfield 15, 3) := by decide +kernel
theorem dX0_at_59 : decode cX0_at 59 = .ok (.iload_n 1, 1) := by decide +kernel
theorem dX0_at_60 : decode cX0_at 60 = .ok (.iaload, 1) := by decide +kernel
theorem dX0_at_61 : decode cX0_at 61 = .ok (.ireturn, 1) := by decide +kernel
theorem dX0_at_62 : decode cX0_at 62 = .ok (.aload_n 0, 1) := by decide +kernel
theorem dX0_at_63 : decode cX0_at 63 = .ok (.getfield 18, 3) := by decide +kernel
theorem dX0_at_66 : decode cX0_at 66 = .ok (.iload_n 1, 1) := by decide +kernel
theorem dX0_at_67 : decode cX0_at 67 = .ok (.iaload, 1) := by decide +kernel
theorem dX0_at_68 : decode cX0_at 68 = .ok (.ireturn, 1) := by decide +kernel
theorem dX0_at_69 : decode cX0_at 69 = .ok (.iconst (-1), 1) := by decide +kernel
theorem dX0_at_70 : decode cX0_at 70 = .ok (.ireturn, 1) := by decide +kernel
theorem dX1_init_0 : decode cX1_init 0 = .ok (.aload_n 0, 1) := by decide +kernel
theorem dX1_init_1 : decode cX1_init 1 = .ok (.invokespecial 3, 3) := by decide +kernel
theorem dX1_init_4 : decode cX1_init 4 = .ok (.aload_n 0, 1) := by decide +kernel
theorem dX1_init_5 : decode cX1_init 5 = .ok (.bipush 40, 2) := by decide +kernel
theorem dX1_init_7 : decode cX1_init 7 = .ok (.newarray .int, 2) := by decide +kernel
theorem dX1_init_9 : decode cX1_init 9 = .ok (.putfield 9, 3) := by decide +kernel
theorem dX1_init_12 : decode cX1_init 12 = .ok (.return_, 1) := by decide +kernel
theorem dX1_at_0 : decode cX1_at 0 = .ok (.iload_n 1, 1) := by decide +kernel
theorem dX1_at_1 : decode cX1_at 1 = .ok (.ifCond .lt 26, 3) := by decide +kernel
theorem dX1_at_4 : decode cX1_at 4 = .ok (.iload_n 1, 1) := by decide +kernel
theorem dX1_at_5 : decode cX1_at 5 = .ok (.aload_n 0, 1) := by decide +kernel
theorem dX1_at_6 : decode cX1_at 6 = .ok (.getfield 15, 3) := by decide +kernel
theorem dX1_at_9 : decode cX1_at 9 = .ok (.if_icmp .ge 18, 3) := by decide +kernel
theorem dX1_at_12 : decode cX1_at 12 = .ok (.iload_n 1, 1) := by decide +kernel
theorem dX1_at_13 : decode cX1_at 13 = .ok (.bipush 40, 2) := by decide +kernel
theorem dX1_at_15 : decode cX1_at 15 = .ok (.if_icmp .ge 12, 3) := by decide +kernel
theorem dX1_at_18 : decode cX1_at 18 = .ok (.aload_n 0, 1) := by decide +kernel
theorem dX1_at_19 : decode cX1_at 19 = .ok (.getfield 9, 3) := by decide +kernel
theorem dX1_at_22 : decode cX1_at 22 = .ok (.iload_n 1, 1) := by decide +kernel
theorem dX1_at_23 : decode cX1_at 23 = .ok (.iaload, 1) := by decide +kernel
theorem dX1_at_24 : decode cX1_at 24 = .ok (.goto 4, 3) := by decide +kernel
theorem dX1_at_27 : decode cX1_at 27 = .ok (.iconst 0, 1) := by decide +kernel
theorem dX1_at_28 : decode cX1_at 28 = .ok (.ireturn, 1) := by decide +kernel
theorem dX1_has_0 : decode cX1_has 0 = .ok (.iconst 0, 1) := by decide +kernel
theorem dX1_has_1 : decode cX1_has 1 = .ok (.istore_n 2, 1) := by decide +kernel
theorem dX1_has_2 : decode cX1_has 2 = .ok (.iload_n 2, 1) := by decide +kernel
theorem dX1_has_3 : decode cX1_has 3 = .ok (.aload_n 0, 1) := by decide +kernel
theorem dX1_has_4 : decode cX1_has 4 = .ok (.getfield 15, 3) := by decide +kernel
theorem dX1_has_7 : decode cX1_has 7 = .ok (.if_icmp .ge 20, 3) := by decide +kernel
theorem dX1_has_10 : decode cX1_has 10 = .ok (.aload_n 0, 1) := by decide +kernel
theorem dX1_has_11 : decode cX1_has 11 = .ok (.iload_n 2, 1) := by decide +kernel
theorem dX1_has_12 : decode cX1_has 12 = .ok (.invokevirtual 19, 3) := by decide +kernel
theorem dX1_has_15 : decode cX1_has 15 = .ok (.iload_n 1, 1) := by decide +kernel
theorem dX1_has_16 : decode cX1_has 16 = .ok (.if_icmp .ne 5, 3) := by decide +kernel
theorem dX1_has_19 : decode cX1_has 19 = .ok (.iconst 1, 1) := by decide +kernel
theorem dX1_has_20 : decode cX1_has 20 = .ok (.ireturn, 1) := by decide +kernel
theorem dX1_has_21 : decode cX1_has 21 = .ok (.iinc 2 1, 3) := by decide +kernel
theorem dX1_has_24 : decode cX1_has 24 = .ok (.goto (-22), 3) := by decide +kernel
theorem dX1_has_27 : decode cX1_has 27 = .ok (.iconst 0, 1) := by decide +kernel
theorem dX1_has_28 : decode cX1_has 28 = .ok (.ireturn, 1) := by decide +kernel
theorem dX1_add_0 : decode cX1_add 0 = .ok (.aload_n 0, 1) := by decide +kernel
theorem dX1_add_1 : decode cX1_add 1 = .ok (.getfield 15, 3) := by decide +kernel
theorem dX1_add_4 : decode cX1_add 4 = .ok (.ifCond .lt 40, 3) := by decide +kernel
theorem dX1_add_7 : decode cX1_add 7 = .ok (.aload_n 0, 1) := by decide +kernel
theorem dX1_add_8 : decode cX1_add 8 = .ok (.getfield 15, 3) := by decide +kernel
theorem dX1_add_11 : decode cX1_add 11 = .ok (.bipush 40, 2) := by decide +kernel
theorem dX1_add_13 : decode cX1_add 13 = .ok (.if_icmp .ge 31, 3) := by decide +kernel
theorem dX1_add_16 : decode cX1_add 16 = .ok (.aload_n 0, 1) := by decide +kernel
theorem dX1_add_17 : decode cX1_add 17 = .ok (.iload_n 1, 1) := by decide +kernel
theorem dX1_add_18 : decode cX1_add 18 = .ok (.invokevirtual 23, 3) := by decide +kernel
theorem dX1_add_21 : decode cX1_add 21 = .ok (.ifCond .ne 23, 3) := by decide +kernel
theorem dX1_add_24 : decode cX1_add 24 = .ok (.aload_n 0, 1) := by decide +kernel
theorem dX1_add_25 : decode cX1_add 25 = .ok (.getfield 9, 3) := by decide +kernel
theorem dX1_add_28 : decode cX1_add 28 = .ok (.aload_n 0, 1) := by decide +kernel
theorem dX1_add_29 : decode cX1_add 29 = .ok (.getfield 15, 3) := by decide +kernel
theorem dX1_add_32 : decode cX1_add 32 = .ok (.iload_n 1, 1) := by decide +kernel
theorem dX1_add_33 : decode cX1_add 33 = .ok (.iastore, 1) := by decide +kernel
theorem dX1_add_34 : decode cX1_add 34 = .ok (.aload_n 0, 1) := by decide +kernel
theorem dX1_add_35 : decode cX1_add 35 = .ok (.dup, 1) := by decide +kernel
theorem dX1_add_36 : decode cX1_add 36 = .ok (.getfield 15, 3) := by decide +kernel
theorem dX1_add_39 : decode cX1_add 39 = .ok (.iconst 1, 1) := by decide +kernel
theorem dX1_add_40 : decode cX1_add 40 = .ok (.iadd, 1) := by decide +kernel
theorem dX1_add_41 : decode cX1_add 41 = .ok (.putfield 15, 3) := by decide +kernel
theorem dX1_add_44 : decode cX1_add 44 = .ok (.return_, 1) := by decide +kernel
theorem dX1_addAll_0 : decode cX1_addAll 0 = .ok (.iconst 0, 1) := by decide +kernel
theorem dX1_addAll_1 : decode cX1_addAll 1 = .ok (.istore_n 2, 1) := by decide +kernel
theorem dX1_addAll_2 : decode cX1_addAll 2 = .ok (.iload_n 2, 1) := by decide +kernel
theorem dX1_addAll_3 : decode cX1_addAll 3 = .ok (.aload_n 1, 1) := by decide +kernel
theorem dX1_addAll_4 : decode cX1_addAll 4 = .ok (.getfield 15, 3) := by decide +kernel
theorem dX1_addAll_7 : decode cX1_addAll 7 = .ok (.if_icmp .ge 18, 3) := by decide +kernel
theorem dX1_addAll_10 : decode cX1_addAll 10 = .ok (.aload_n 0, 1) := by decide +kernel
theorem dX1_addAll_11 : decode cX1_addAll 11 = .ok (.aload_n 1, 1) := by decide +kernel
theorem dX1_addAll_12 : decode cX1_addAll 12 = .ok (.iload_n 2, 1) := by decide +kernel
theorem dX1_addAll_13 : decode cX1_addAll 13 = .ok (.invokevirtual 19, 3) := by decide +kernel
theorem dX1_addAll_16 : decode cX1_addAll 16 = .ok (.invokevirtual 27, 3) := by decide +kernel
theorem dX1_addAll_19 : decode cX1_addAll 19 = .ok (.iinc 2 1, 3) := by decide +kernel
theorem dX1_addAll_22 : decode cX1_addAll 22 = .ok (.goto (-20), 3) := by decide +kernel
theorem dX1_addAll_25 : decode cX1_addAll 25 = .ok (.return_, 1) := by decide +kernel
theorem dX2_init_0 : decode cX2_init 0 = .ok (.aload_n 0, 1) := by decide +kernel
theorem dX2_init_1 : decode cX2_init 1 = .ok (.invokespecial 3, 3) := by decide +kernel
theorem dX2_init_4 : decode cX2_init 4 = .ok (.aload_n 0, 1) := by decide +kernel
theorem dX2_init_5 : decode cX2_init 5 = .ok (.sipush 400, 3) := by decide +kernel
theorem dX2_init_8 : decode cX2_init 8 = .ok (.newarray .byte, 2) := by decide +kernel
theorem dX2_init_10 : decode cX2_init 10 = .ok (.putfield 9, 3) := by decide +kernel
theorem dX2_init_13 : decode cX2_init 13 = .ok (.return_, 1) := by decide +kernel
theorem dX2_at_0 : decode cX2_at 0 = .ok (.iload_n 1, 1) := by decide +kernel
theorem dX2_at_1 : decode cX2_at 1 = .ok (.ifCond .lt 27, 3) := by decide +kernel
theorem dX2_at_4 : decode cX2_at 4 = .ok (.iload_n 1, 1) := by decide +kernel
theorem dX2_at_5 : decode cX2_at 5 = .ok (.aload_n 0, 1) := by decide +kernel
theorem dX2_at_6 : decode cX2_at 6 = .ok (.getfield 15, 3) := by decide +kernel
theorem dX2_at_9 : decode cX2_at 9 = .ok (.if_icmp .ge 19, 3) := by decide +kernel
theorem dX2_at_12 : decode cX2_at 12 = .ok (.iload_n 1, 1) := by decide +kernel
theorem dX2_at_13 : decode cX2_at 13 = .ok (.sipush 400, 3) := by decide +kernel
theorem dX2_at_16 : decode cX2_at 16 = .ok (.if_icmp .ge 12, 3) := by decide +kernel
theorem dX2_at_19 : decode cX2_at 19 = .ok (.aload_n 0, 1) := by decide +kernel
theorem dX2_at_20 : decode cX2_at 20 = .ok (.getfield 9, 3) := by decide +kernel
theorem dX2_at_23 : decode cX2_at 23 = .ok (.iload_n 1, 1) := by decide +kernel
theorem dX2_at_24 : decode cX2_at 24 = .ok (.baload, 1) := by decide +kernel
theorem dX2_at_25 : decode cX2_at 25 = .ok (.goto 4, 3) := by decide +kernel
theorem dX2_at_28 : decode cX2_at 28 = .ok (.iconst (-1), 1) := by decide +kernel
theorem dX2_at_29 : decode cX2_at 29 = .ok (.ireturn, 1) := by decide +kernel
theorem dX2_add_0 : decode cX2_add 0 = .ok (.aload_n 0, 1) := by decide +kernel
theorem dX2_add_1 : decode cX2_add 1 = .ok (.getfield 15, 3) := by decide +kernel
theorem dX2_add_4 : decode cX2_add 4 = .ok (.ifCond .lt 34, 3) := by decide +kernel
theorem dX2_add_7 : decode cX2_add 7 = .ok (.aload_n 0, 1) := by decide +kernel
theorem dX2_add_8 : decode cX2_add 8 = .ok (.getfield 15, 3) := by decide +kernel
theorem dX2_add_11 : decode cX2_add 11 = .ok (.sipush 400, 3) := by decide +kernel
theorem dX2_add_14 : decode cX2_add 14 = .ok (.if_icmp .ge 24, 3) := by decide +kernel
theorem dX2_add_17 : decode cX2_add 17 = .ok (.aload_n 0, 1) := by decide +kernel
theorem dX2_add_18 : decode cX2_add 18 = .ok (.getfield 9, 3) := by decide +kernel
theorem dX2_add_21 : decode cX2_add 21 = .ok (.aload_n 0, 1) := by decide +kernel
theorem dX2_add_22 : decode cX2_add 22 = .ok (.getfield 15, 3) := by decide +kernel
theorem dX2_add_25 : decode cX2_add 25 = .ok (.iload_n 1, 1) := by decide +kernel
theorem dX2_add_26 : decode cX2_add 26 = .ok (.i2b, 1) := by decide +kernel
theorem dX2_add_27 : decode cX2_add 27 = .ok (.bastore, 1) := by decide +kernel
theorem dX2_add_28 : decode cX2_add 28 = .ok (.aload_n 0, 1) := by decide +kernel
theorem dX2_add_29 : decode cX2_add 29 = .ok (.dup, 1) := by decide +kernel
theorem dX2_add_30 : decode cX2_add 30 = .ok (.getfield 15, 3) := by decide +kernel
theorem dX2_add_33 : decode cX2_add 33 = .ok (.iconst 1, 1) := by decide +kernel
theorem dX2_add_34 : decode cX2_add 34 = .ok (.iadd, 1) := by decide +kernel
theorem dX2_add_35 : decode cX2_add 35 = .ok (.putfield 15, 3) := by decide +kernel
theorem dX2_add_38 : decode cX2_add 38 = .ok (.return_, 1) := by decide +kernel
theorem dX2_say_0 : decode cX2_say 0 = .ok (.iconst 0, 1) := by decide +kernel
theorem dX2_say_1 : decode cX2_say 1 = .ok (.istore_n 2, 1) := by decide +kernel
theorem dX2_say_2 : decode cX2_say 2 = .ok (.iload_n 2, 1) := by decide +kernel
theorem dX2_say_3 : decode cX2_say 3 = .ok (.aload_n 1, 1) := by decide +kernel
theorem dX2_say_4 : decode cX2_say 4 = .ok (.invokevirtual 19, 3) := by decide +kernel
theorem dX2_say_7 : decode cX2_say 7 = .ok (.if_icmp .ge 18, 3) := by decide +kernel
theorem dX2_say_10 : decode cX2_say 10 = .ok (.aload_n 0, 1) := by decide +kernel
theorem dX2_say_11 : decode cX2_say 11 = .ok (.aload_n 1, 1) := by decide +kernel
theorem dX2_say_12 : decode cX2_say 12 = .ok (.iload_n 2, 1) := by decide +kernel
theorem dX2_say_13 : decode cX2_say 13 = .ok (.invokevirtual 24, 3) := by decide +kernel
theorem dX2_say_16 : decode cX2_say 16 = .ok (.invokevirtual 28, 3) := by decide +kernel
theorem dX2_say_19 : decode cX2_say 19 = .ok (.iinc 2 1, 3) := by decide +kernel
theorem dX2_say_22 : decode cX2_say 22 = .ok (.goto (-20), 3) := by decide +kernel
theorem dX2_say_25 : decode cX2_say 25 = .ok (.return_, 1) := by decide +kernel
theorem dX2_say__0 : decode cX2_say_ 0 = .ok (.iconst 0, 1) := by decide +kernel
theorem dX2_say__1 : decode cX2_say_ 1 = .ok (.istore_n 2, 1) := by decide +kernel
theorem dX2_say__2 : decode cX2_say_ 2 = .ok (.iload_n 2, 1) := by decide +kernel
theorem dX2_say__3 : decode cX2_say_ 3 = .ok (.aload_n 1, 1) := by decide +kernel
theorem dX2_say__4 : decode cX2_say_ 4 = .ok (.getfield 32, 3) := by decide +kernel
theorem dX2_say__7 : decode cX2_say_ 7 = .ok (.if_icmp .ge 18, 3) := by decide +kernel
theorem dX2_say__10 : decode cX2_say_ 10 = .ok (.aload_n 0, 1) := by decide +kernel
theorem dX2_say__11 : decode cX2_say_ 11 = .ok (.aload_n 1, 1) := by decide +kernel
theorem dX2_say__12 : decode cX2_say_ 12 = .ok (.iload_n 2, 1) := by decide +kernel
theorem dX2_say__13 : decode cX2_say_ 13 = .ok (.invokevirtual 35, 3) := by decide +kernel
theorem dX2_say__16 : decode cX2_say_ 16 = .ok (.invokevirtual 28, 3) := by decide +kernel
theorem dX2_say__19 : decode cX2_say_ 19 = .ok (.iinc 2 1, 3) := by decide +kernel
theorem dX2_say__22 : decode cX2_say_ 22 = .ok (.goto (-20), 3) := by decide +kernel
theorem dX2_say__25 : decode cX2_say_ 25 = .ok (.return_, 1) := by decide +kernel
theorem dX2_sayNumber_0 : decode cX2_sayNumber 0 = .ok (.aload_n 0, 1) := by decide +kernel
theorem dX2_sayNumber_1 : decode cX2_sayNumber 1 = .ok (.bipush 40, 2) := by decide +kernel
theorem dX2_sayNumber_3 : decode cX2_sayNumber 3 = .ok (.invokevirtual 28, 3) := by decide +kernel
theorem dX2_sayNumber_6 : decode cX2_sayNumber 6 = .ok (.iload_n 1, 1) := by decide +kernel
theorem dX2_sayNumber_7 : decode cX2_sayNumber 7 = .ok (.bipush 10, 2) := by decide +kernel
theorem dX2_sayNumber_9 : decode cX2_sayNumber 9 = .ok (.if_icmp .lt 15, 3) := by decide +kernel
theorem dX2_sayNumber_12 : decode cX2_sayNumber 12 = .ok (.aload_n 0, 1) := by decide +kernel
theorem dX2_sayNumber_13 : decode cX2_sayNumber 13 = .ok (.bipush 48, 2) := by decide +kernel
theorem dX2_sayNumber_15 : decode cX2_sayNumber 15 = .ok (.iload_n 1, 1) := by decide +kernel
theorem dX2_sayNumber_16 : decode cX2_sayNumber 16 = .ok (.bipush 10, 2) := by decide +kernel
theorem dX2_sayNumber_18 : decode cX2_sayNumber 18 = .ok (.idiv, 1) := by decide +kernel
theorem dX2_sayNumber_19 : decode cX2_sayNumber 19 = .ok (.iadd, 1) := by decide +kernel
theorem dX2_sayNumber_20 : decode cX2_sayNumber 20 = .ok (.i2c, 1) := by decide +kernel
theorem dX2_sayNumber_21 : decode cX2_sayNumber 21 = .ok (.invokevirtual 28, 3) := by decide +kernel
theorem dX2_sayNumber_24 : decode cX2_sayNumber 24 = .ok (.aload_n 0, 1) := by decide +kernel
theorem dX2_sayNumber_25 : decode cX2_sayNumber 25 = .ok (.bipush 48, 2) := by decide +kernel
theorem dX2_sayNumber_27 : decode cX2_sayNumber 27 = .ok (.iload_n 1, 1) := by decide +kernel
theorem dX2_sayNumber_28 : decode cX2_sayNumber 28 = .ok (.bipush 10, 2) := by decide +kernel
theorem dX2_sayNumber_30 : decode cX2_sayNumber 30 = .ok (.irem, 1) := by decide +kernel
theorem dX2_sayNumber_31 : decode cX2_sayNumber 31 = .ok (.iadd, 1) := by decide +kernel
theorem dX2_sayNumber_32 : decode cX2_sayNumber 32 = .ok (.i2c, 1) := by decide +kernel
theorem dX2_sayNumber_33 : decode cX2_sayNumber 33 = .ok (.invokevirtual 28, 3) := by decide +kernel
theorem dX2_sayNumber_36 : decode cX2_sayNumber 36 = .ok (.aload_n 0, 1) := by decide +kernel
theorem dX2_sayNumber_37 : decode cX2_sayNumber 37 = .ok (.bipush 41, 2) := by decide +kernel
theorem dX2_sayNumber_39 : decode cX2_sayNumber 39 = .ok (.invokevirtual 28, 3) := by decide +kernel
theorem dX2_sayNumber_42 : decode cX2_sayNumber 42 = .ok (.return_, 1) := by decide +kernel
theorem dX3_init_0 : decode cX3_init 0 = .ok (.aload_n 0, 1) := by decide +kernel
theorem dX3_init_1 : decode cX3_init 1 = .ok (.invokespecial 3, 3) := by decide +kernel
theorem dX3_init_4 : decode cX3_init 4 = .ok (.aload_n 0, 1) := by decide +kernel
theorem dX3_init_5 : decode cX3_init 5 = .ok (.bipush 8, 2) := by decide +kernel
theorem dX3_init_7 : decode cX3_init 7 = .ok (.newarray .int, 2) := by decide +kernel
theorem dX3_init_9 : decode cX3_init 9 = .ok (.putfield 9, 3) := by decide +kernel
theorem dX3_init_12 : decode cX3_init 12 = .ok (.aload_n 0, 1) := by decide +kernel
theorem dX3_init_13 : decode cX3_init 13 = .ok (.bipush 8, 2) := by decide +kernel
theorem dX3_init_15 : decode cX3_init 15 = .ok (.newarray .int, 2) := by decide +kernel
theorem dX3_init_17 : decode cX3_init 17 = .ok (.putfield 15, 3) := by decide +kernel
theorem dX3_init_20 : decode cX3_init 20 = .ok (.aload_n 0, 1) := by decide +kernel
theorem dX3_init_21 : decode cX3_init 21 = .ok (.bipush 8, 2) := by decide +kernel
theorem dX3_init_23 : decode cX3_init 23 = .ok (.newarray .int, 2) := by decide +kernel
theorem dX3_init_25 : decode cX3_init 25 = .ok (.putfield 18, 3) := by decide +kernel
theorem dX3_init_28 : decode cX3_init 28 = .ok (.return_, 1) := by decide +kernel
theorem dX3_add_0 : decode cX3_add 0 = .ok (.aload_n 0, 1) := by decide +kernel
theorem dX3_add_1 : decode cX3_add 1 = .ok (.getfield 21, 3) := by decide +kernel
theorem dX3_add_4 : decode cX3_add 4 = .ok (.ifCond .lt 52, 3) := by decide +kernel
theorem dX3_add_7 : decode cX3_add 7 = .ok (.aload_n 0, 1) := by decide +kernel
theorem dX3_add_8 : decode cX3_add 8 = .ok (.getfield 21, 3) := by decide +kernel
theorem dX3_add_11 : decode cX3_add 11 = .ok (.bipush 8, 2) := by decide +kernel
theorem dX3_add_13 : decode cX3_add 13 = .ok (.if_icmp .ge 43, 3) := by decide +kernel
theorem dX3_add_16 : decode cX3_add 16 = .ok (.aload_n 0, 1) := by decide +kernel
theorem dX3_add_17 : decode cX3_add 17 = .ok (.getfield 9, 3) := by decide +kernel
theorem dX3_add_20 : decode cX3_add 20 = .ok (.aload_n 0, 1) := by decide +kernel
theorem dX3_add_21 : decode cX3_add 21 = .ok (.getfield 21, 3) := by decide +kernel
theorem dX3_add_24 : decode cX3_add 24 = .ok (.iload_n 1, 1) := by decide +kernel
theorem dX3_add_25 : decode cX3_add 25 = .ok (.iastore, 1) := by decide +kernel
theorem dX3_add_26 : decode cX3_add 26 = .ok (.aload_n 0, 1) := by decide +kernel
theorem dX3_add_27 : decode cX3_add 27 = .ok (.getfield 15, 3) := by decide +kernel
theorem dX3_add_30 : decode cX3_add 30 = .ok (.aload_n 0, 1) := by decide +kernel
theorem dX3_add_31 : decode cX3_add 31 = .ok (.getfield 21, 3) := by decide +kernel
theorem dX3_add_34 : decode cX3_add 34 = .ok (.iload_n 2, 1) := by decide +kernel
theorem dX3_add_35 : decode cX3_add 35 = .ok (.iastore, 1) := by decide +kernel
theorem dX3_add_36 : decode cX3_add 36 = .ok (.aload_n 0, 1) := by decide +kernel
theorem dX3_add_37 : decode cX3_add 37 = .ok (.getfield 18, 3) := by decide +kernel
theorem dX3_add_40 : decode cX3_add 40 = .ok (.aload_n 0, 1) := by decide +kernel
theorem dX3_add_41 : decode cX3_add 41 = .ok (.getfield 21, 3) := by decide +kernel
theorem dX3_add_44 : decode cX3_add 44 = .ok (.iload_n 3, 1) := by decide +kernel
theorem dX3_add_45 : decode cX3_add 45 = .ok (.iastore, 1) := by decide +kernel
theorem dX3_add_46 : decode cX3_add 46 = .ok (.aload_n 0, 1) := by decide +kernel
theorem dX3_add_47 : decode cX3_add 47 = .ok (.dup, 1) := by decide +kernel
theorem dX3_add_48 : decode cX3_add 48 = .ok (.getfield 21, 3) := by decide +kernel
theorem dX3_add_51 : decode cX3_add 51 = .ok (.iconst 1, 1) := by decide +kernel
theorem dX3_add_52 : decode cX3_add 52 = .ok (.iadd, 1) := by decide +kernel
theorem dX3_add_53 : decode cX3_add 53 = .ok (.putfield 21, 3) := by decide +kernel
theorem dX3_add_56 : decode cX3_add 56 = .ok (.return_, 1) := by decide +kernel
theorem dX3_has_0 : decode cX3_has 0 = .ok (.iload_n 1, 1) := by decide +kernel
theorem dX3_has_1 : decode cX3_has 1 = .ok (.ifCond .lt 21, 3) := by decide +kernel
theorem dX3_has_4 : decode cX3_has 4 = .ok (.iload_n 1, 1) := by decide +kernel
theorem dX3_has_5 : decode cX3_has 5 = .ok (.aload_n 0, 1) := by decide +kernel
theorem dX3_has_6 : decode cX3_has 6 = .ok (.getfield 21, 3) := by decide +kernel
theorem dX3_has_9 : decode cX3_has 9 = .ok (.if_icmp .ge 13, 3) := by decide +kernel
theorem dX3_has_12 : decode cX3_has 12 = .ok (.iload_n 1, 1) := by decide +kernel
theorem dX3_has_13 : decode cX3_has 13 = .ok (.bipush 8, 2) := by decide +kernel
theorem dX3_has_15 : decode cX3_has 15 = .ok (.if_icmp .ge 7, 3) := by decide +kernel
theorem dX3_has_18 : decode cX3_has 18 = .ok (.iconst 1, 1) := by decide +kernel
theorem dX3_has_19 : decode cX3_has 19 = .ok (.goto 4, 3) := by decide +kernel
theorem dX3_has_22 : decode cX3_has 22 = .ok (.iconst 0, 1) := by decide +kernel
theorem dX3_has_23 : decode cX3_has 23 = .ok (.ireturn, 1) := by decide +kernel
theorem dX3_opAt_0 : decode cX3_opAt 0 = .ok (.aload_n 0, 1) := by decide +kernel
theorem dX3_opAt_1 : decode cX3_opAt 1 = .ok (.iload_n 1, 1) := by decide +kernel
theorem dX3_opAt_2 : decode cX3_opAt 2 = .ok (.invokevirtual 25, 3) := by decide +kernel
theorem dX3_opAt_5 : decode cX3_opAt 5 = .ok (.ifCond .eq 12, 3) := by decide +kernel
theorem dX3_opAt_8 : decode cX3_opAt 8 = .ok (.aload_n 0, 1) := by decide +kernel
theorem dX3_opAt_9 : decode cX3_opAt 9 = .ok (.getfield 9, 3) := by decide +kernel
theorem dX3_opAt_12 : decode cX3_opAt 12 = .ok (.iload_n 1, 1) := by decide +kernel
theorem dX3_opAt_13 : decode cX3_opAt 13 = .ok (.iaload, 1) := by decide +kernel
theorem dX3_opAt_14 : decode cX3_opAt 14 = .ok (.goto 4, 3) := by decide +kernel
theorem dX3_opAt_17 : decode cX3_opAt 17 = .ok (.iconst (-1), 1) := by decide +kernel
theorem dX3_opAt_18 : decode cX3_opAt 18 = .ok (.ireturn, 1) := by decide +kernel
theorem dX3_firstAt_0 : decode cX3_firstAt 0 = .ok (.aload_n 0, 1) := by decide +kernel
theorem dX3_firstAt_1 : decode cX3_firstAt 1 = .ok (.iload_n 1, 1) := by decide +kernel
theorem dX3_firstAt_2 : decode cX3_firstAt 2 = .ok (.invokevirtual 25, 3) := by decide +kernel
theorem dX3_firstAt_5 : decode cX3_firstAt 5 = .ok (.ifCond .eq 12, 3) := by decide +kernel
theorem dX3_firstAt_8 : decode cX3_firstAt 8 = .ok (.aload_n 0, 1) := by decide +kernel
theorem dX3_firstAt_9 : decode cX3_firstAt 9 = .ok (.getfield 15, 3) := by decide +kernel
theorem dX3_firstAt_12 : decode cX3_firstAt 12 = .ok (.iload_n 1, 1) := by decide +kernel
theorem dX3_firstAt_13 : decode cX3_firstAt 13 = .ok (.iaload, 1) := by decide +kernel
theorem dX3_firstAt_14 : decode cX3_firstAt 14 = .ok (.goto 4, 3) := by decide +kernel
theorem dX3_firstAt_17 : decode cX3_firstAt 17 = .ok (.iconst 0, 1) := by decide +kernel
theorem dX3_firstAt_18 : decode cX3_firstAt 18 = .ok (.ireturn, 1) := by decide +kernel
theorem dX3_secondAt_0 : decode cX3_secondAt 0 = .ok (.aload_n 0, 1) := by decide +kernel
theorem dX3_secondAt_1 : decode cX3_secondAt 1 = .ok (.iload_n 1, 1) := by decide +kernel
theorem dX3_secondAt_2 : decode cX3_secondAt 2 = .ok (.invokevirtual 25, 3) := by decide +kernel
theorem dX3_secondAt_5 : decode cX3_secondAt 5 = .ok (.ifCond .eq 12, 3) := by decide +kernel
theorem dX3_secondAt_8 : decode cX3_secondAt 8 = .ok (.aload_n 0, 1) := by decide +kernel
theorem dX3_secondAt_9 : decode cX3_secondAt 9 = .ok (.getfield 18, 3) := by decide +kernel
theorem dX3_secondAt_12 : decode cX3_secondAt 12 = .ok (.iload_n 1, 1) := by decide +kernel
theorem dX3_secondAt_13 : decode cX3_secondAt 13 = .ok (.iaload, 1) := by decide +kernel
theorem dX3_secondAt_14 : decode cX3_secondAt 14 = .ok (.goto 4, 3) := by decide +kernel
theorem dX3_secondAt_17 : decode cX3_secondAt 17 = .ok (.iconst 0, 1) := by decide +kernel
theorem dX3_secondAt_18 : decode cX3_secondAt 18 = .ok (.ireturn, 1) := by decide +kernel
theorem dX4_init_0 : decode cX4_init 0 = .ok (.aload_n 0, 1) := by decide +kernel
theorem dX4_init_1 : decode cX4_init 1 = .ok (.invokespecial 3, 3) := by decide +kernel
theorem dX4_init_4 : decode cX4_init 4 = .ok (.aload_n 0, 1) := by decide +kernel
theorem dX4_init_5 : decode cX4_init 5 = .ok (.bipush 12, 2) := by decide +kernel
theorem dX4_init_7 : decode cX4_init 7 = .ok (.newarray .int, 2) := by decide +kernel
theorem dX4_init_9 : decode cX4_init 9 = .ok (.putfield 9, 3) := by decide +kernel
theorem dX4_init_12 : decode cX4_init 12 = .ok (.aload_n 0, 1) := by decide +kernel
theorem dX4_init_13 : decode cX4_init 13 = .ok (.bipush 48, 2) := by decide +kernel
theorem dX4_init_15 : decode cX4_init 15 = .ok (.newarray .int, 2) := by decide +kernel
theorem dX4_init_17 : decode cX4_init 17 = .ok (.putfield 15, 3) := by decide +kernel
theorem dX4_init_20 : decode cX4_init 20 = .ok (.return_, 1) := by decide +kernel
theorem dX4_isName_0 : decode cX4_isName 0 = .ok (.iload_n 0, 1) := by decide +kernel
theorem dX4_isName_1 : decode cX4_isName 1 = .ok (.ifCond .lt 13, 3) := by decide +kernel
theorem dX4_isName_4 : decode cX4_isName 4 = .ok (.iload_n 0, 1) := by decide +kernel
theorem dX4_isName_5 : decode cX4_isName 5 = .ok (.bipush 12, 2) := by decide +kernel
theorem dX4_isName_7 : decode cX4_isName 7 = .ok (.if_icmp .ge 7, 3) := by decide +kernel
theorem dX4_isName_10 : decode cX4_isName 10 = .ok (.iconst 1, 1) := by decide +kernel
theorem dX4_isName_11 : decode cX4_isName 11 = .ok (.goto 4, 3) := by decide +kernel
theorem dX4_isName_14 : decode cX4_isName 14 = .ok (.iconst 0, 1) := by decide +kernel
theorem dX4_isName_15 : decode cX4_isName 15 = .ok (.ireturn, 1) := by decide +kernel
theorem dX4_lengthOf_0 : decode cX4_lengthOf 0 = .ok (.iload_n 1, 1) := by decide +kernel
theorem dX4_lengthOf_1 : decode cX4_lengthOf 1 = .ok (.invokestatic 18, 3) := by decide +kernel
theorem dX4_lengthOf_4 : decode cX4_lengthOf 4 = .ok (.ifCond .eq 12, 3) := by decide +kernel
theorem dX4_lengthOf_7 : decode cX4_lengthOf 7 = .ok (.aload_n 0, 1) := by decide +kernel
theorem dX4_lengthOf_8 : decode cX4_lengthOf 8 = .ok (.getfield 9, 3) := by decide +kernel
theorem dX4_lengthOf_11 : decode cX4_lengthOf 11 = .ok (.iload_n 1, 1) := by decide +kernel
theorem dX4_lengthOf_12 : decode cX4_lengthOf 12 = .ok (.iaload, 1) := by decide +kernel
theorem dX4_lengthOf_13 : decode cX4_lengthOf 13 = .ok (.goto 4, 3) := by decide +kernel
theorem dX4_lengthOf_16 : decode cX4_lengthOf 16 = .ok (.iconst 0, 1) := by decide +kernel
theorem dX4_lengthOf_17 : decode cX4_lengthOf 17 = .ok (.ireturn, 1) := by decide +kernel
theorem dX4_has_0 : decode cX4_has 0 = .ok (.iload_n 1, 1) := by decide +kernel
theorem dX4_has_1 : decode cX4_has 1 = .ok (.invokestatic 18, 3) := by decide +kernel
theorem dX4_has_4 : decode cX4_has 4 = .ok (.ifCond .eq 26, 3) := by decide +kernel
theorem dX4_has_7 : decode cX4_has 7 = .ok (.iload_n 2, 1) := by decide +kernel
theorem dX4_has_8 : decode cX4_has 8 = .ok (.ifCond .lt 22, 3) := by decide +kernel
theorem dX4_has_11 : decode cX4_has 11 = .ok (.iload_n 2, 1) := by decide +kernel
theorem dX4_has_12 : decode cX4_has 12 = .ok (.aload_n 0, 1) := by decide +kernel
theorem dX4_has_13 : decode cX4_has 13 = .ok (.getfield 9, 3) := by decide +kernel
theorem dX4_has_16 : decode cX4_has 16 = .ok (.iload_n 1, 1) := by decide +kernel
theorem dX4_has_17 : decode cX4_has 17 = .ok (.iaload, 1) := by decide +kernel
theorem dX4_has_18 : decode cX4_has 18 = .ok (.if_icmp .ge 12, 3) := by decide +kernel
theorem dX4_has_21 : decode cX4_has 21 = .ok (.iload_n 2, 1) := by decide +kernel
theorem dX4_has_22 : decode cX4_has 22 = .ok (.iconst 4, 1) := by decide +kernel
theorem dX4_has_23 : decode cX4_has 23 = .ok (.if_icmp .ge 7, 3) := by decide +kernel
theorem dX4_has_26 : decode cX4_has 26 = .ok (.iconst 1, 1) := by decide +kernel
theorem dX4_has_27 : decode cX4_has 27 = .ok (.goto 4, 3) := by decide +kernel
theorem dX4_has_30 : decode cX4_has 30 = .ok (.iconst 0, 1) := by decide +kernel
theorem dX4_has_31 : decode cX4_has 31 = .ok (.ireturn, 1) := by decide +kernel
theorem dX4_at_0 : decode cX4_at 0 = .ok (.aload_n 0, 1) := by decide +kernel
theorem dX4_at_1 : decode cX4_at 1 = .ok (.iload_n 1, 1) := by decide +kernel
theorem dX4_at_2 : decode cX4_at 2 = .ok (.iload_n 2, 1) := by decide +kernel
theorem dX4_at_3 : decode cX4_at 3 = .ok (.invokevirtual 22, 3) := by decide +kernel
theorem dX4_at_6 : decode cX4_at 6 = .ok (.ifCond .eq 16, 3) := by decide +kernel
theorem dX4_at_9 : decode cX4_at 9 = .ok (.aload_n 0, 1) := by decide +kernel
theorem dX4_at_10 : decode cX4_at 10 = .ok (.getfield 15, 3) := by decide +kernel
theorem dX4_at_13 : decode cX4_at 13 = .ok (.iload_n 1, 1) := by decide +kernel
theorem dX4_at_14 : decode cX4_at 14 = .ok (.iconst 4, 1) := by decide +kernel
theorem dX4_at_15 : decode cX4_at 15 = .ok (.imul, 1) := by decide +kernel
theorem dX4_at_16 : decode cX4_at 16 = .ok (.iload_n 2, 1) := by decide +kernel
theorem dX4_at_17 : decode cX4_at 17 = .ok (.iadd, 1) := by decide +kernel
theorem dX4_at_18 : decode cX4_at 18 = .ok (.iaload, 1) := by decide +kernel
theorem dX4_at_19 : decode cX4_at 19 = .ok (.goto 4, 3) := by decide +kernel
theorem dX4_at_22 : decode cX4_at 22 = .ok (.iconst 0, 1) := by decide +kernel
theorem dX4_at_23 : decode cX4_at 23 = .ok (.ireturn, 1) := by decide +kernel
theorem dX4_put_0 : decode cX4_put 0 = .ok (.aload_n 0, 1) := by decide +kernel
theorem dX4_put_1 : decode cX4_put 1 = .ok (.iload_n 1, 1) := by decide +kernel
theorem dX4_put_2 : decode cX4_put 2 = .ok (.iload_n 2, 1) := by decide +kernel
theorem dX4_put_3 : decode cX4_put 3 = .ok (.invokevirtual 22, 3) := by decide +kernel
theorem dX4_put_6 : decode cX4_put 6 = .ok (.ifCond .eq 14, 3) := by decide +kernel
theorem dX4_put_9 : decode cX4_put 9 = .ok (.aload_n 0, 1) := by decide +kernel
theorem dX4_put_10 : decode cX4_put 10 = .ok (.getfield 15, 3) := by decide +kernel
theorem dX4_put_13 : decode cX4_put 13 = .ok (.iload_n 1, 1) := by decide +kernel
theorem dX4_put_14 : decode cX4_put 14 = .ok (.iconst 4, 1) := by decide +kernel
theorem dX4_put_15 : decode cX4_put 15 = .ok (.imul, 1) := by decide +kernel
theorem dX4_put_16 : decode cX4_put 16 = .ok (.iload_n 2, 1) := by decide +kernel
theorem dX4_put_17 : decode cX4_put 17 = .ok (.iadd, 1) := by decide +kernel
theorem dX4_put_18 : decode cX4_put 18 = .ok (.iload_n 3, 1) := by decide +kernel
theorem dX4_put_19 : decode cX4_put 19 = .ok (.iastore, 1) := by decide +kernel
theorem dX4_put_20 : decode cX4_put 20 = .ok (.return_, 1) := by decide +kernel
theorem dX4_add_0 : decode cX4_add 0 = .ok (.iload_n 1, 1) := by decide +kernel
theorem dX4_add_1 : decode cX4_add 1 = .ok (.invokestatic 18, 3) := by decide +kernel
theorem dX4_add_4 : decode cX4_add 4 = .ok (.ifCond .eq 37, 3) := by decide +kernel
theorem dX4_add_7 : decode cX4_add 7 = .ok (.aload_n 0, 1) := by decide +kernel
theorem dX4_add_8 : decode cX4_add 8 = .ok (.getfield 9, 3) := by decide +kernel
theorem dX4_add_11 : decode cX4_add 11 = .ok (.iload_n 1, 1) := by decide +kernel
theorem dX4_add_12 : decode cX4_add 12 = .ok (.iaload, 1) := by decide +kernel
theorem dX4_add_13 : decode cX4_add 13 = .ok (.iconst 4, 1) := by decide +kernel
theorem dX4_add_14 : decode cX4_add 14 = .ok (.if_icmp .ge 27, 3) := by decide +kernel
theorem dX4_add_17 : decode cX4_add 17 = .ok (.aload_n 0, 1) := by decide +kernel
theorem dX4_add_18 : decode cX4_add 18 = .ok (.getfield 9, 3) := by decide +kernel
theorem dX4_add_21 : decode cX4_add 21 = .ok (.iload_n 1, 1) := by decide +kernel
theorem dX4_add_22 : decode cX4_add 22 = .ok (.dup2, 1) := by decide +kernel
theorem dX4_add_23 : decode cX4_add 23 = .ok (.iaload, 1) := by decide +kernel
theorem dX4_add_24 : decode cX4_add 24 = .ok (.iconst 1, 1) := by decide +kernel
theorem dX4_add_25 : decode cX4_add 25 = .ok (.iadd, 1) := by decide +kernel
theorem dX4_add_26 : decode cX4_add 26 = .ok (.iastore, 1) := by decide +kernel
theorem dX4_add_27 : decode cX4_add 27 = .ok (.aload_n 0, 1) := by decide +kernel
theorem dX4_add_28 : decode cX4_add 28 = .ok (.iload_n 1, 1) := by decide +kernel
theorem dX4_add_29 : decode cX4_add 29 = .ok (.aload_n 0, 1) := by decide +kernel
theorem dX4_add_30 : decode cX4_add 30 = .ok (.getfield 9, 3) := by decide +kernel
theorem dX4_add_33 : decode cX4_add 33 = .ok (.iload_n 1, 1) := by decide +kernel
theorem dX4_add_34 : decode cX4_add 34 = .ok (.iaload, 1) := by decide +kernel
theorem dX4_add_35 : decode cX4_add 35 = .ok (.iconst 1, 1) := by decide +kernel
theorem dX4_add_36 : decode cX4_add 36 = .ok (.isub, 1) := by decide +kernel
theorem dX4_add_37 : decode cX4_add 37 = .ok (.iload_n 2, 1) := by decide +kernel
theorem dX4_add_38 : decode cX4_add 38 = .ok (.invokevirtual 26, 3) := by decide +kernel
theorem dX4_add_41 : decode cX4_add 41 = .ok (.return_, 1) := by decide +kernel
theorem dX4_clearAll_0 : decode cX4_clearAll 0 = .ok (.aload_n 0, 1) := by decide +kernel
theorem dX4_clearAll_1 : decode cX4_clearAll 1 = .ok (.getfield 9, 3) := by decide +kernel
theorem dX4_clearAll_4 : decode cX4_clearAll 4 = .ok (.iconst 0, 1) := by decide +kernel
theorem dX4_clearAll_5 : decode cX4_clearAll 5 = .ok (.invokestatic 30, 3) := by decide +kernel
theorem dX4_clearAll_8 : decode cX4_clearAll 8 = .ok (.return_, 1) := by decide +kernel
theorem dX4_inherit_0 : decode cX4_inherit 0 = .ok (.iconst 0, 1) := by decide +kernel
theorem dX4_inherit_1 : decode cX4_inherit 1 = .ok (.istore_n 2, 1) := by decide +kernel
theorem dX4_inherit_2 : decode cX4_inherit 2 = .ok (.iload_n 2, 1) := by decide +kernel
theorem dX4_inherit_3 : decode cX4_inherit 3 = .ok (.bipush 12, 2) := by decide +kernel
theorem dX4_inherit_5 : decode cX4_inherit 5 = .ok (.if_icmp .ge 28, 3) := by decide +kernel
theorem dX4_inherit_8 : decode cX4_inherit 8 = .ok (.iload_n 2, 1) := by decide +kernel
theorem dX4_inherit_9 : decode cX4_inherit 9 = .ok (.ifCond .eq 12, 3) := by decide +kernel
theorem dX4_inherit_12 : decode cX4_inherit 12 = .ok (.aload_n 0, 1) := by decide +kernel
theorem dX4_inherit_13 : decode cX4_inherit 13 = .ok (.getfield 9, 3) := by decide +kernel
theorem dX4_inherit_16 : decode cX4_inherit 16 = .ok (.iload_n 2, 1) := by decide +kernel
theorem dX4_inherit_17 : decode cX4_inherit 17 = .ok (.iaload, 1) := by decide +kernel
theorem dX4_inherit_18 : decode cX4_inherit 18 = .ok (.ifCond .ne 9, 3) := by decide +kernel
theorem dX4_inherit_21 : decode cX4_inherit 21 = .ok (.aload_n 0, 1) := by decide +kernel
theorem dX4_inherit_22 : decode cX4_inherit 22 = .ok (.aload_n 1, 1) := by decide +kernel
theorem dX4_inherit_23 : decode cX4_inherit 23 = .ok (.iload_n 2, 1) := by decide +kernel
theorem dX4_inherit_24 : decode cX4_inherit 24 = .ok (.invokevirtual 36, 3) := by decide +kernel
theorem dX4_inherit_27 : decode cX4_inherit 27 = .ok (.iinc 2 1, 3) := by decide +kernel
theorem dX4_inherit_30 : decode cX4_inherit 30 = .ok (.goto (-28), 3) := by decide +kernel
theorem dX4_inherit_33 : decode cX4_inherit 33 = .ok (.return_, 1) := by decide +kernel
theorem dX4_addRow_0 : decode cX4_addRow 0 = .ok (.iconst 0, 1) := by decide +kernel
theorem dX4_addRow_1 : decode cX4_addRow 1 = .ok (.istore_n 3, 1) := by decide +kernel
theorem dX4_addRow_2 : decode cX4_addRow 2 = .ok (.iload_n 3, 1) := by decide +kernel
theorem dX4_addRow_3 : decode cX4_addRow 3 = .ok (.aload_n 1, 1) := by decide +kernel
theorem dX4_addRow_4 : decode cX4_addRow 4 = .ok (.iload_n 2, 1) := by decide +kernel
theorem dX4_addRow_5 : decode cX4_addRow 5 = .ok (.invokevirtual 40, 3) := by decide +kernel
theorem dX4_addRow_8 : decode cX4_addRow 8 = .ok (.if_icmp .ge 20, 3) := by decide +kernel
theorem dX4_addRow_11 : decode cX4_addRow 11 = .ok (.aload_n 0, 1) := by decide +kernel
theorem dX4_addRow_12 : decode cX4_addRow 12 = .ok (.iload_n 2, 1) := by decide +kernel
theorem dX4_addRow_13 : decode cX4_addRow 13 = .ok (.aload_n 1, 1) := by decide +kernel
theorem dX4_addRow_14 : decode cX4_addRow 14 = .ok (.iload_n 2, 1) := by decide +kernel
theorem dX4_addRow_15 : decode cX4_addRow 15 = .ok (.iload_n 3, 1) := by decide +kernel
theorem dX4_addRow_16 : decode cX4_addRow 16 = .ok (.invokevirtual 44, 3) := by decide +kernel
theorem dX4_addRow_19 : decode cX4_addRow 19 = .ok (.invokevirtual 48, 3) := by decide +kernel
theorem dX4_addRow_22 : decode cX4_addRow 22 = .ok (.iinc 3 1, 3) := by decide +kernel
theorem dX4_addRow_25 : decode cX4_addRow 25 = .ok (.goto (-23), 3) := by decide +kernel
theorem dX4_addRow_28 : decode cX4_addRow 28 = .ok (.return_, 1) := by decide +kernel
theorem dX5_init_0 : decode cX5_init 0 = .ok (.aload_n 0, 1) := by decide +kernel
theorem dX5_init_1 : decode cX5_init 1 = .ok (.invokespecial 3, 3) := by decide +kernel
theorem dX5_init_4 : decode cX5_init 4 = .ok (.aload_n 0, 1) := by decide +kernel
theorem dX5_init_5 : decode cX5_init 5 = .ok (.bipush 20, 2) := by decide +kernel
theorem dX5_init_7 : decode cX5_init 7 = .ok (.newarray .byte, 2) := by decide +kernel
theorem dX5_init_9 : decode cX5_init 9 = .ok (.putfield 9, 3) := by decide +kernel
theorem dX5_init_12 : decode cX5_init 12 = .ok (.return_, 1) := by decide +kernel
theorem dX5_add_0 : decode cX5_add 0 = .ok (.aload_n 0, 1) := by decide +kernel
theorem dX5_add_1 : decode cX5_add 1 = .ok (.getfield 15, 3) := by decide +kernel
theorem dX5_add_4 : decode cX5_add 4 = .ok (.ifCond .lt 32, 3) := by decide +kernel
theorem dX5_add_7 : decode cX5_add 7 = .ok (.aload_n 0, 1) := by decide +kernel
theorem dX5_add_8 : decode cX5_add 8 = .ok (.getfield 15, 3) := by decide +kernel
theorem dX5_add_11 : decode cX5_add 11 = .ok (.bipush 20, 2) := by decide +kernel
theorem dX5_add_13 : decode cX5_add 13 = .ok (.if_icmp .ge 23, 3) := by decide +kernel
theorem dX5_add_16 : decode cX5_add 16 = .ok (.aload_n 0, 1) := by decide +kernel
theorem dX5_add_17 : decode cX5_add 17 = .ok (.getfield 9, 3) := by decide +kernel
theorem dX5_add_20 : decode cX5_add 20 = .ok (.aload_n 0, 1) := by decide +kernel
theorem dX5_add_21 : decode cX5_add 21 = .ok (.getfield 15, 3) := by decide +kernel
theorem dX5_add_24 : decode cX5_add 24 = .ok (.iload_n 1, 1) := by decide +kernel
theorem dX5_add_25 : decode cX5_add 25 = .ok (.bastore, 1) := by decide +kernel
theorem dX5_add_26 : decode cX5_add 26 = .ok (.aload_n 0, 1) := by decide +kernel
theorem dX5_add_27 : decode cX5_add 27 = .ok (.dup, 1) := by decide +kernel
theorem dX5_add_28 : decode cX5_add 28 = .ok (.getfield 15, 3) := by decide +kernel
theorem dX5_add_31 : decode cX5_add 31 = .ok (.iconst 1, 1) := by decide +kernel
theorem dX5_add_32 : decode cX5_add 32 = .ok (.iadd, 1) := by decide +kernel
theorem dX5_add_33 : decode cX5_add 33 = .ok (.putfield 15, 3) := by decide +kernel
theorem dX5_add_36 : decode cX5_add 36 = .ok (.return_, 1) := by decide +kernel
theorem dX5_at_0 : decode cX5_at 0 = .ok (.iload_n 1, 1) := by decide +kernel
theorem dX5_at_1 : decode cX5_at 1 = .ok (.ifCond .lt 27, 3) := by decide +kernel
theorem dX5_at_4 : decode cX5_at 4 = .ok (.iload_n 1, 1) := by decide +kernel
theorem dX5_at_5 : decode cX5_at 5 = .ok (.aload_n 0, 1) := by decide +kernel
theorem dX5_at_6 : decode cX5_at 6 = .ok (.getfield 15, 3) := by decide +kernel
theorem dX5_at_9 : decode cX5_at 9 = .ok (.if_icmp .ge 19, 3) := by decide +kernel
theorem dX5_at_12 : decode cX5_at 12 = .ok (.iload_n 1, 1) := by decide +kernel
theorem dX5_at_13 : decode cX5_at 13 = .ok (.bipush 20, 2) := by decide +kernel
theorem dX5_at_15 : decode cX5_at 15 = .ok (.if_icmp .ge 13, 3) := by decide +kernel
theorem dX5_at_18 : decode cX5_at 18 = .ok (.aload_n 0, 1) := by decide +kernel
theorem dX5_at_19 : decode cX5_at 19 = .ok (.getfield 9, 3) := by decide +kernel
theorem dX5_at_22 : decode cX5_at 22 = .ok (.iload_n 1, 1) := by decide +kernel
theorem dX5_at_23 : decode cX5_at 23 = .ok (.baload, 1) := by decide +kernel
theorem dX5_at_24 : decode cX5_at 24 = .ok (.i2c, 1) := by decide +kernel
theorem dX5_at_25 : decode cX5_at 25 = .ok (.goto 5, 3) := by decide +kernel
theorem dX5_at_28 : decode cX5_at 28 = .ok (.bipush 32, 2) := by decide +kernel
theorem dX5_at_30 : decode cX5_at 30 = .ok (.ireturn, 1) := by decide +kernel
theorem dX5_beginsWithVowel_0 : decode cX5_beginsWithVowel 0 = .ok (.aload_n 0, 1) := by decide +kernel
theorem dX5_beginsWithVowel_1 : decode cX5_beginsWithVowel 1 = .ok (.getfield 15, 3) := by decide +kernel
theorem dX5_beginsWithVowel_4 : decode cX5_beginsWithVowel 4 = .ok (.ifCond .le 20, 3) := by decide +kernel
theorem dX5_beginsWithVowel_7 : decode cX5_beginsWithVowel 7 = .ok (.ldc 19, 2) := by decide +kernel
theorem dX5_beginsWithVowel_9 : decode cX5_beginsWithVowel 9 = .ok (.aload_n 0, 1) := by decide +kernel
theorem dX5_beginsWithVowel_10 : decode cX5_beginsWithVowel 10 = .ok (.iconst 0, 1) := by decide +kernel
theorem dX5_beginsWithVowel_11 : decode cX5_beginsWithVowel 11 = .ok (.invokevirtual 21, 3) := by decide +kernel
theorem dX5_beginsWithVowel_14 : decode cX5_beginsWithVowel 14 = .ok (.invokevirtual 25, 3) := by decide +kernel
theorem dX5_beginsWithVowel_17 : decode cX5_beginsWithVowel 17 = .ok (.ifCond .lt 7, 3) := by decide +kernel
theorem dX5_beginsWithVowel_20 : decode cX5_beginsWithVowel 20 = .ok (.iconst 1, 1) := by decide +kernel
theorem dX5_beginsWithVowel_21 : decode cX5_beginsWithVowel 21 = .ok (.goto 4, 3) := by decide +kernel
theorem dX5_beginsWithVowel_24 : decode cX5_beginsWithVowel 24 = .ok (.iconst 0, 1) := by decide +kernel
theorem dX5_beginsWithVowel_25 : decode cX5_beginsWithVowel 25 = .ok (.ireturn, 1) := by decide +kernel
theorem dX6_init_0 : decode cX6_init 0 = .ok (.aload_n 0, 1) := by decide +kernel
theorem dX6_init_1 : decode cX6_init 1 = .ok (.invokespecial 1, 3) := by decide +kernel
theorem dX6_init_4 : decode cX6_init 4 = .ok (.aload_n 0, 1) := by decide +kernel
theorem dX6_init_5 : decode cX6_init 5 = .ok (.new 7, 3) := by decide +kernel
theorem dX6_init_8 : decode cX6_init 8 = .ok (.dup, 1) := by decide +kernel
theorem dX6_init_9 : decode cX6_init 9 = .ok (.invokespecial 9, 3) := by decide +kernel
theorem dX6_init_12 : decode cX6_init 12 = .ok (.putfield 10, 3) := by decide +kernel
theorem dX6_init_15 : decode cX6_init 15 = .ok (.aload_n 0, 1) := by decide +kernel
theorem dX6_init_16 : decode cX6_init 16 = .ok (.iload_n 1, 1) := by decide +kernel
theorem dX6_init_17 : decode cX6_init 17 = .ok (.putfield 16, 3) := by decide +kernel
theorem dX6_init_20 : decode cX6_init 20 = .ok (.aload_n 0, 1) := by decide +kernel
theorem dX6_init_21 : decode cX6_init 21 = .ok (.aload_n 2, 1) := by decide +kernel
theorem dX6_init_22 : decode cX6_init 22 = .ok (.putfield 20, 3) := by decide +kernel
theorem dX6_init_25 : decode cX6_init 25 = .ok (.aload_n 0, 1) := by decide +kernel
theorem dX6_init_26 : decode cX6_init 26 = .ok (.iload_n 3, 1) := by decide +kernel
theorem dX6_init_27 : decode cX6_init 27 = .ok (.putfield 24, 3) := by decide +kernel
theorem dX6_init_30 : decode cX6_init 30 = .ok (.return_, 1) := by decide +kernel
theorem dX7_init_0 : decode cX7_init 0 = .ok (.aload_n 0, 1) := by decide +kernel
theorem dX7_init_1 : decode cX7_init 1 = .ok (.invokespecial 3, 3) := by decide +kernel
theorem dX7_init_4 : decode cX7_init 4 = .ok (.aload_n 0, 1) := by decide +kernel
theorem dX7_init_5 : decode cX7_init 5 = .ok (.bipush 41, 2) := by decide +kernel
theorem dX7_init_7 : decode cX7_init 7 = .ok (.newarray .int, 2) := by decide +kernel
theorem dX7_init_9 : decode cX7_init 9 = .ok (.putfield 9, 3) := by decide +kernel
theorem dX7_init_12 : decode cX7_init 12 = .ok (.aload_n 0, 1) := by decide +kernel
theorem dX7_init_13 : decode cX7_init 13 = .ok (.bipush 41, 2) := by decide +kernel
theorem dX7_init_15 : decode cX7_init 15 = .ok (.newarray .int, 2) := by decide +kernel
theorem dX7_init_17 : decode cX7_init 17 = .ok (.putfield 15, 3) := by decide +kernel
theorem dX7_init_20 : decode cX7_init 20 = .ok (.aload_n 0, 1) := by decide +kernel
theorem dX7_init_21 : decode cX7_init 21 = .ok (.bipush 41, 2) := by decide +kernel
theorem dX7_init_23 : decode cX7_init 23 = .ok (.newarray .int, 2) := by decide +kernel
theorem dX7_init_25 : decode cX7_init 25 = .ok (.putfield 18, 3) := by decide +kernel
theorem dX7_init_28 : decode cX7_init 28 = .ok (.return_, 1) := by decide +kernel
theorem dX7_holds_0 : decode cX7_holds 0 = .ok (.iload_n 0, 1) := by decide +kernel
theorem dX7_holds_1 : decode cX7_holds 1 = .ok (.iconst 1, 1) := by decide +kernel
theorem dX7_holds_2 : decode cX7_holds 2 = .ok (.if_icmp .lt 13, 3) := by decide +kernel
theorem dX7_holds_5 : decode cX7_holds 5 = .ok (.iload_n 0, 1) := by decide +kernel
theorem dX7_holds_6 : decode cX7_holds 6 = .ok (.bipush 40, 2) := by decide +kernel
theorem dX7_holds_8 : decode cX7_holds 8 = .ok (.if_icmp .gt 7, 3) := by decide +kernel
theorem dX7_holds_11 : decode cX7_holds 11 = .ok (.iconst 1, 1) := by decide +kernel
theorem dX7_holds_12 : decode cX7_holds 12 = .ok (.goto 4, 3) := by decide +kernel
theorem dX7_holds_15 : decode cX7_holds 15 = .ok (.iconst 0, 1) := by decide +kernel
theorem dX7_holds_16 : decode cX7_holds 16 = .ok (.ireturn, 1) := by decide +kernel
theorem dX7_parentOf_0 : decode cX7_parentOf 0 = .ok (.iload_n 1, 1) := by decide +kernel
theorem dX7_parentOf_1 : decode cX7_parentOf 1 = .ok (.invokestatic 21, 3) := by decide +kernel
theorem dX7_parentOf_4 : decode cX7_parentOf 4 = .ok (.ifCond .eq 12, 3) := by decide +kernel
theorem dX7_parentOf_7 : decode cX7_parentOf 7 = .ok (.aload_n 0, 1) := by decide +kernel
theorem dX7_parentOf_8 : decode cX7_parentOf 8 = .ok (.getfield 9, 3) := by decide +kernel
theorem dX7_parentOf_11 : decode cX7_parentOf 11 = .ok (.iload_n 1, 1) := by decide +kernel
theorem dX7_parentOf_12 : decode cX7_parentOf 12 = .ok (.iaload, 1) := by decide +kernel
theorem dX7_parentOf_13 : decode cX7_parentOf 13 = .ok (.goto 4, 3) := by decide +kernel
theorem dX7_parentOf_16 : decode cX7_parentOf 16 = .ok (.iconst 0, 1) := by decide +kernel
theorem dX7_parentOf_17 : decode cX7_parentOf 17 = .ok (.ireturn, 1) := by decide +kernel
theorem dX7_childOf_0 : decode cX7_childOf 0 = .ok (.iload_n 1, 1) := by decide +kernel
theorem dX7_childOf_1 : decode cX7_childOf 1 = .ok (.invokestatic 21, 3) := by decide +kernel
theorem dX7_childOf_4 : decode cX7_childOf 4 = .ok (.ifCond .eq 12, 3) := by decide +kernel
theorem dX7_childOf_7 : decode cX7_childOf 7 = .ok (.aload_n 0, 1) := by decide +kernel
theorem dX7_childOf_8 : decode cX7_childOf 8 = .ok (.getfield 15, 3) := by decide +kernel
theorem dX7_childOf_11 : decode cX7_childOf 11 = .ok (.iload_n 1, 1) := by decide +kernel
theorem dX7_childOf_12 : decode cX7_childOf 12 = .ok (.iaload, 1) := by decide +kernel
theorem dX7_childOf_13 : decode cX7_childOf 13 = .ok (.goto 4, 3) := by decide +kernel
theorem dX7_childOf_16 : decode cX7_childOf 16 = .ok (.iconst 0, 1) := by decide +kernel
theorem dX7_childOf_17 : decode cX7_childOf 17 = .ok (.ireturn, 1) := by decide +kernel
theorem dX7_siblingOf_0 : decode cX7_siblingOf 0 = .ok (.iload_n 1, 1) := by decide +kernel
theorem dX7_siblingOf_1 : decode cX7_siblingOf 1 = .ok (.invokestatic 21, 3) := by decide +kernel
theorem dX7_siblingOf_4 : decode cX7_siblingOf 4 = .ok (.ifCond .eq 12, 3) := by decide +kernel
theorem dX7_siblingOf_7 : decode cX7_siblingOf 7 = .ok (.aload_n 0, 1) := by decide +kernel
theorem dX7_siblingOf_8 : decode cX7_siblingOf 8 = .ok (.getfield 18, 3) := by decide +kernel
theorem dX7_siblingOf_11 : decode cX7_siblingOf 11 = .ok (.iload_n 1, 1) := by decide +kernel
theorem dX7_siblingOf_12 : decode cX7_siblingOf 12 = .ok (.iaload, 1) := by decide +kernel
theorem dX7_siblingOf_13 : decode cX7_siblingOf 13 = .ok (.goto 4, 3) := by decide +kernel
theorem dX7_siblingOf_16 : decode cX7_siblingOf 16 = .ok (.iconst 0, 1) := by decide +kernel
theorem dX7_siblingOf_17 : decode cX7_siblingOf 17 = .ok (.ireturn, 1) := by decide +kernel
theorem dX7_childrenOf_0 : decode cX7_childrenOf 0 = .ok (.iconst 0, 1) := by decide +kernel
theorem dX7_childrenOf_1 : decode cX7_childrenOf 1 = .ok (.istore_n 2, 1) := by decide +kernel
theorem dX7_childrenOf_2 : decode cX7_childrenOf 2 = .ok (.aload_n 0, 1) := by decide +kernel
theorem dX7_childrenOf_3 : decode cX7_childrenOf 3 = .ok (.iload_n 1, 1) := by decide +kernel
theorem dX7_childrenOf_4 : decode cX7_childrenOf 4 = .ok (.invokevirtual 25, 3) := by decide +kernel
theorem dX7_childrenOf_7 : decode cX7_childrenOf 7 = .ok (.istore_n 3, 1) := by decide +kernel
theorem dX7_childrenOf_8 : decode cX7_childrenOf 8 = .ok (.iload_n 3, 1) := by decide +kernel
theorem dX7_childrenOf_9 : decode cX7_childrenOf 9 = .ok (.ifCond .eq 21, 3) := by decide +kernel
theorem dX7_childrenOf_12 : decode cX7_childrenOf 12 = .ok (.iload_n 2, 1) := by decide +kernel
theorem dX7_childrenOf_13 : decode cX7_childrenOf 13 = .ok (.bipush 40, 2) := by decide +kernel
theorem dX7_childrenOf_15 : decode cX7_childrenOf 15 = .ok (.if_icmp .ge 15, 3) := by decide +kernel
theorem dX7_childrenOf_18 : decode cX7_childrenOf 18 = .ok (.iinc 2 1, 3) := by decide +kernel
theorem dX7_childrenOf_21 : decode cX7_childrenOf 21 = .ok (.aload_n 0, 1) := by decide +kernel
theorem dX7_childrenOf_22 : decode cX7_childrenOf 22 = .ok (.iload_n 3, 1) := by decide +kernel
theorem dX7_childrenOf_23 : decode cX7_childrenOf 23 = .ok (.invokevirtual 29, 3) := by decide +kernel
theorem dX7_childrenOf_26 : decode cX7_childrenOf 26 = .ok (.istore_n 3, 1) := by decide +kernel
theorem dX7_childrenOf_27 : decode cX7_childrenOf 27 = .ok (.goto (-19), 3) := by decide +kernel
theorem dX7_childrenOf_30 : decode cX7_childrenOf 30 = .ok (.iload_n 2, 1) := by decide +kernel
theorem dX7_childrenOf_31 : decode cX7_childrenOf 31 = .ok (.ireturn, 1) := by decide +kernel
theorem dX7_isInOrAt_0 : decode cX7_isInOrAt 0 = .ok (.iload_n 1, 1) := by decide +kernel
theorem dX7_isInOrAt_1 : decode cX7_isInOrAt 1 = .ok (.istore_n 3, 1) := by decide +kernel
theorem dX7_isInOrAt_2 : decode cX7_isInOrAt 2 = .ok (.iconst 0, 1) := by decide +kernel
theorem dX7_isInOrAt_3 : decode cX7_isInOrAt 3 = .ok (.istore 4, 2) := by decide +kernel
theorem dX7_isInOrAt_5 : decode cX7_isInOrAt 5 = .ok (.iload_n 3, 1) := by decide +kernel
theorem dX7_isInOrAt_6 : decode cX7_isInOrAt 6 = .ok (.ifCond .eq 29, 3) := by decide +kernel
theorem dX7_isInOrAt_9 : decode cX7_isInOrAt 9 = .ok (.iload 4, 2) := by decide +kernel
theorem dX7_isInOrAt_11 : decode cX7_isInOrAt 11 = .ok (.bipush 40, 2) := by decide +kernel
theorem dX7_isInOrAt_13 : decode cX7_isInOrAt 13 = .ok (.if_icmp .gt 22, 3) := by decide +kernel
theorem dX7_isInOrAt_16 : decode cX7_isInOrAt 16 = .ok (.iload_n 3, 1) := by decide +kernel
theorem dX7_isInOrAt_17 : decode cX7_isInOrAt 17 = .ok (.iload_n 2, 1) := by decide +kernel
theorem dX7_isInOrAt_18 : decode cX7_isInOrAt 18 = .ok (.if_icmp .ne 5, 3) := by decide +kernel
theorem dX7_isInOrAt_21 : decode cX7_isInOrAt 21 = .ok (.iconst 1, 1) := by decide +kernel
theorem dX7_isInOrAt_22 : decode cX7_isInOrAt 22 = .ok (.ireturn, 1) := by decide +kernel
theorem dX7_isInOrAt_23 : decode cX7_isInOrAt 23 = .ok (.aload_n 0, 1) := by decide +kernel
theorem dX7_isInOrAt_24 : decode cX7_isInOrAt 24 = .ok (.iload_n 3, 1) := by decide +kernel
theorem dX7_isInOrAt_25 : decode cX7_isInOrAt 25 = .ok (.invokevirtual 32, 3) := by decide +kernel
theorem dX7_isInOrAt_28 : decode cX7_isInOrAt 28 = .ok (.istore_n 3, 1) := by decide +kernel
theorem dX7_isInOrAt_29 : decode cX7_isInOrAt 29 = .ok (.iinc 4 1, 3) := by decide +kernel
theorem dX7_isInOrAt_32 : decode cX7_isInOrAt 32 = .ok (.goto (-27), 3) := by decide +kernel
theorem dX7_isInOrAt_35 : decode cX7_isInOrAt 35 = .ok (.iconst 0, 1) := by decide +kernel
theorem dX7_isInOrAt_36 : decode cX7_isInOrAt 36 = .ok (.ireturn, 1) := by decide +kernel
theorem dX7_put_0 : decode cX7_put 0 = .ok (.iload_n 1, 1) := by decide +kernel
theorem dX7_put_1 : decode cX7_put 1 = .ok (.invokestatic 21, 3) := by decide +kernel
theorem dX7_put_4 : decode cX7_put 4 = .ok (.ifCond .eq 36, 3) := by decide +kernel
theorem dX7_put_7 : decode cX7_put 7 = .ok (.iload_n 2, 1) := by decide +kernel
theorem dX7_put_8 : decode cX7_put 8 = .ok (.invokestatic 21, 3) := by decide +kernel
theorem dX7_put_11 : decode cX7_put 11 = .ok (.ifCond .eq 29, 3) := by decide +kernel
theorem dX7_put_14 : decode cX7_put 14 = .ok (.aload_n 0, 1) := by decide +kernel
theorem dX7_put_15 : decode cX7_put 15 = .ok (.getfield 9, 3) := by decide +kernel
theorem dX7_put_18 : decode cX7_put 18 = .ok (.iload_n 1, 1) := by decide +kernel
theorem dX7_put_19 : decode cX7_put 19 = .ok (.iload_n 2, 1) := by decide +kernel
theorem dX7_put_20 : decode cX7_put 20 = .ok (.iastore, 1) := by decide +kernel
theorem dX7_put_21 : decode cX7_put 21 = .ok (.aload_n 0, 1) := by decide +kernel
theorem dX7_put_22 : decode cX7_put 22 = .ok (.getfield 18, 3) := by decide +kernel
theorem dX7_put_25 : decode cX7_put 25 = .ok (.iload_n 1, 1) := by decide +kernel
theorem dX7_put_26 : decode cX7_put 26 = .ok (.aload_n 0, 1) := by decide +kernel
theorem dX7_put_27 : decode cX7_put 27 = .ok (.getfield 15, 3) := by decide +kernel
theorem dX7_put_30 : decode cX7_put 30 = .ok (.iload_n 2, 1) := by decide +kernel
theorem dX7_put_31 : decode cX7_put 31 = .ok (.iaload, 1) := by decide +kernel
theorem dX7_put_32 : decode cX7_put 32 = .ok (.iastore, 1) := by decide +kernel
theorem dX7_put_33 : decode cX7_put 33 = .ok (.aload_n 0, 1) := by decide +kernel
theorem dX7_put_34 : decode cX7_put 34 = .ok (.getfield 15, 3) := by decide +kernel
theorem dX7_put_37 : decode cX7_put 37 = .ok (.iload_n 2, 1) := by decide +kernel
theorem dX7_put_38 : decode cX7_put 38 = .ok (.iload_n 1, 1) := by decide +kernel
theorem dX7_put_39 : decode cX7_put 39 = .ok (.iastore, 1) := by decide +kernel
theorem dX7_put_40 : decode cX7_put 40 = .ok (.return_, 1) := by decide +kernel
theorem dX7_lift_0 : decode cX7_lift 0 = .ok (.aload_n 0, 1) := by decide +kernel
theorem dX7_lift_1 : decode cX7_lift 1 = .ok (.iload_n 1, 1) := by decide +kernel
theorem dX7_lift_2 : decode cX7_lift 2 = .ok (.invokevirtual 32, 3) := by decide +kernel
theorem dX7_lift_5 : decode cX7_lift 5 = .ok (.istore_n 2, 1) := by decide +kernel
theorem dX7_lift_6 : decode cX7_lift 6 = .ok (.iload_n 1, 1) := by decide +kernel
theorem dX7_lift_7 : decode cX7_lift 7 = .ok (.invokestatic 21, 3) := by decide +kernel
theorem dX7_lift_10 : decode cX7_lift 10 = .ok (.ifCond .eq 10, 3) := by decide +kernel
theorem dX7_lift_13 : decode cX7_lift 13 = .ok (.iload_n 2, 1) := by decide +kernel
theorem dX7_lift_14 : decode cX7_lift 14 = .ok (.invokestatic 21, 3) := by decide +kernel
theorem dX7_lift_17 : decode cX7_lift 17 = .ok (.ifCond .ne 4, 3) := by decide +kernel
theorem dX7_lift_20 : decode cX7_lift 20 = .ok (.return_, 1) := by decide +kernel
theorem dX7_lift_21 : decode cX7_lift 21 = .ok (.aload_n 0, 1) := by decide +kernel
theorem dX7_lift_22 : decode cX7_lift 22 = .ok (.getfield 15, 3) := by decide +kernel
theorem dX7_lift_25 : decode cX7_lift 25 = .ok (.iload_n 2, 1) := by decide +kernel
theorem dX7_lift_26 : decode cX7_lift 26 = .ok (.iaload, 1) := by decide +kernel
theorem dX7_lift_27 : decode cX7_lift 27 = .ok (.iload_n 1, 1) := by decide +kernel
theorem dX7_lift_28 : decode cX7_lift 28 = .ok (.if_icmp .ne 18, 3) := by decide +kernel
theorem dX7_lift_31 : decode cX7_lift 31 = .ok (.aload_n 0, 1) := by decide +kernel
theorem dX7_lift_32 : decode cX7_lift 32 = .ok (.getfield 15, 3) := by decide +kernel
theorem dX7_lift_35 : decode cX7_lift 35 = .ok (.iload_n 2, 1) := by decide +kernel
theorem dX7_lift_36 : decode cX7_lift 36 = .ok (.aload_n 0, 1) := by decide +kernel
theorem dX7_lift_37 : decode cX7_lift 37 = .ok (.getfield 18, 3) := by decide +kernel
theorem dX7_lift_40 : decode cX7_lift 40 = .ok (.iload_n 1, 1) := by decide +kernel
theorem dX7_lift_41 : decode cX7_lift 41 = .ok (.iaload, 1) := by decide +kernel
theorem dX7_lift_42 : decode cX7_lift 42 = .ok (.iastore, 1) := by decide +kernel
theorem dX7_lift_43 : decode cX7_lift 43 = .ok (.goto 14, 3) := by decide +kernel
theorem dX7_lift_46 : decode cX7_lift 46 = .ok (.aload_n 0, 1) := by decide +kernel
theorem dX7_lift_47 : decode cX7_lift 47 = .ok (.aload_n 0, 1) := by decide +kernel
theorem dX7_lift_48 : decode cX7_lift 48 = .ok (.getfield 15, 3) := by decide +kernel
theorem dX7_lift_51 : decode cX7_lift 51 = .ok (.iload_n 2, 1) := by decide +kernel
theorem dX7_lift_52 : decode cX7_lift 52 = .ok (.iaload, 1) := by decide +kernel
theorem dX7_lift_53 : decode cX7_lift 53 = .ok (.iload_n 1, 1) := by decide +kernel
theorem dX7_lift_54 : decode cX7_lift 54 = .ok (.invokevirtual 35, 3) := by decide +kernel
theorem dX7_lift_57 : decode cX7_lift 57 = .ok (.aload_n 0, 1) := by decide +kernel
theorem dX7_lift_58 : decode cX7_lift 58 = .ok (.getfield 9, 3) := by decide +kernel
theorem dX7_lift_61 : decode cX7_lift 61 = .ok (.iload_n 1, 1) := by decide +kernel
theorem dX7_lift_62 : decode cX7_lift 62 = .ok (.iconst 0, 1) := by decide +kernel
theorem dX7_lift_63 : decode cX7_lift 63 = .ok (.iastore, 1) := by decide +kernel
theorem dX7_lift_64 : decode cX7_lift 64 = .ok (.aload_n 0, 1) := by decide +kernel
theorem dX7_lift_65 : decode cX7_lift 65 = .ok (.getfield 18, 3) := by decide +kernel
theorem dX7_lift_68 : decode cX7_lift 68 = .ok (.iload_n 1, 1) := by decide +kernel
theorem dX7_lift_69 : decode cX7_lift 69 = .ok (.iconst 0, 1) := by decide +kernel
theorem dX7_lift_70 : decode cX7_lift 70 = .ok (.iastore, 1) := by decide +kernel
theorem dX7_lift_71 : decode cX7_lift 71 = .ok (.return_, 1) := by decide +kernel
theorem dX7_closeGap_0 : decode cX7_closeGap 0 = .ok (.iload_n 1, 1) := by decide +kernel
theorem dX7_closeGap_1 : decode cX7_closeGap 1 = .ok (.istore_n 3, 1) := by decide +kernel
theorem dX7_closeGap_2 : decode cX7_closeGap 2 = .ok (.iconst 0, 1) := by decide +kernel
theorem dX7_closeGap_3 : decode cX7_closeGap 3 = .ok (.istore 4, 2) := by decide +kernel
theorem dX7_closeGap_5 : decode cX7_closeGap 5 = .ok (.iload_n 3, 1) := by decide +kernel
theorem dX7_closeGap_6 : decode cX7_closeGap 6 = .ok (.invokestatic 21, 3) := by decide +kernel
theorem dX7_closeGap_9 : decode cX7_closeGap 9 = .ok (.ifCond .eq 45, 3) := by decide +kernel
theorem dX7_closeGap_12 : decode cX7_closeGap 12 = .ok (.iload 4, 2) := by decide +kernel
theorem dX7_closeGap_14 : decode cX7_closeGap 14 = .ok (.bipush 40, 2) := by decide +kernel
theorem dX7_closeGap_16 : decode cX7_closeGap 16 = .ok (.if_icmp .ge 38, 3) := by decide +kernel
theorem dX7_closeGap_19 : decode cX7_closeGap 19 = .ok (.aload_n 0, 1) := by decide +kernel
theorem dX7_closeGap_20 : decode cX7_closeGap 20 = .ok (.getfield 18, 3) := by decide +kernel
theorem dX7_closeGap_23 : decode cX7_closeGap 23 = .ok (.iload_n 3, 1) := by decide +kernel
theorem dX7_closeGap_24 : decode cX7_closeGap 24 = .ok (.iaload, 1) := by decide +kernel
theorem dX7_closeGap_25 : decode cX7_closeGap 25 = .ok (.iload_n 2, 1) := by decide +kernel
theorem dX7_closeGap_26 : decode cX7_closeGap 26 = .ok (.if_icmp .ne 15, 3) := by decide +kernel
theorem dX7_closeGap_29 : decode cX7_closeGap 29 = .ok (.aload_n 0, 1) := by decide +kernel
theorem dX7_closeGap_30 : decode cX7_closeGap 30 = .ok (.getfield 18, 3) := by decide +kernel
theorem dX7_closeGap_33 : decode cX7_closeGap 33 = .ok (.iload_n 3, 1) := by decide +kernel
theorem dX7_closeGap_34 : decode cX7_closeGap 34 = .ok (.aload_n 0, 1) := by decide +kernel
theorem dX7_closeGap_35 : decode cX7_closeGap 35 = .ok (.iload_n 2, 1) := by decide +kernel
theorem dX7_closeGap_36 : decode cX7_closeGap 36 = .ok (.invokevirtual 29, 3) := by decide +kernel
theorem dX7_closeGap_39 : decode cX7_closeGap 39 = .ok (.iastore, 1) := by decide +kernel
theorem dX7_closeGap_40 : decode cX7_closeGap 40 = .ok (.return_, 1) := by decide +kernel
theorem dX7_closeGap_41 : decode cX7_closeGap 41 = .ok (.aload_n 0, 1) := by decide +kernel
theorem dX7_closeGap_42 : decode cX7_closeGap 42 = .ok (.getfield 18, 3) := by decide +kernel
theorem dX7_closeGap_45 : decode cX7_closeGap 45 = .ok (.iload_n 3, 1) := by decide +kernel
theorem dX7_closeGap_46 : decode cX7_closeGap 46 = .ok (.iaload, 1) := by decide +kernel
theorem dX7_closeGap_47 : decode cX7_closeGap 47 = .ok (.istore_n 3, 1) := by decide +kernel
theorem dX7_closeGap_48 : decode cX7_closeGap 48 = .ok (.iinc 4 1, 3) := by decide +kernel
theorem dX7_closeGap_51 : decode cX7_closeGap 51 = .ok (.goto (-46), 3) := by decide +kernel
theorem dX7_closeGap_54 : decode cX7_closeGap 54 = .ok (.return_, 1) := by decide +kernel
theorem dX7_liftChildren_0 : decode cX7_liftChildren 0 = .ok (.iconst 0, 1) := by decide +kernel
theorem dX7_liftChildren_1 : decode cX7_liftChildren 1 = .ok (.istore_n 2, 1) := by decide +kernel
theorem dX7_liftChildren_2 : decode cX7_liftChildren 2 = .ok (.aload_n 0, 1) := by decide +kernel
theorem dX7_liftChildren_3 : decode cX7_liftChildren 3 = .ok (.iload_n 1, 1) := by decide +kernel
theorem dX7_liftChildren_4 : decode cX7_liftChildren 4 = .ok (.invokevirtual 25, 3) := by decide +kernel
theorem dX7_liftChildren_7 : decode cX7_liftChildren 7 = .ok (.ifCond .eq 24, 3) := by decide +kernel
theorem dX7_liftChildren_10 : decode cX7_liftChildren 10 = .ok (.iload_n 2, 1) := by decide +kernel
theorem dX7_liftChildren_11 : decode cX7_liftChildren 11 = .ok (.bipush 40, 2) := by decide +kernel
theorem dX7_liftChildren_13 : decode cX7_liftChildren 13 = .ok (.if_icmp .ge 18, 3) := by decide +kernel
theorem dX7_liftChildren_16 : decode cX7_liftChildren 16 = .ok (.aload_n 0, 1) := by decide +kernel
theorem dX7_liftChildren_17 : decode cX7_liftChildren 17 = .ok (.aload_n 0, 1) := by decide +kernel
theorem dX7_liftChildren_18 : decode cX7_liftChildren 18 = .ok (.iload_n 1, 1) := by decide +kernel
theorem dX7_liftChildren_19 : decode cX7_liftChildren 19 = .ok (.invokevirtual 25, 3) := by decide +kernel
theorem dX7_liftChildren_22 : decode cX7_liftChildren 22 = .ok (.invokevirtual 39, 3) := by decide +kernel
theorem dX7_liftChildren_25 : decode cX7_liftChildren 25 = .ok (.iinc 2 1, 3) := by decide +kernel
theorem dX7_liftChildren_28 : decode cX7_liftChildren 28 = .ok (.goto (-26), 3) := by decide +kernel
theorem dX7_liftChildren_31 : decode cX7_liftChildren 31 = .ok (.return_, 1) := by decide +kernel
theorem dX8_init_0 : decode cX8_init 0 = .ok (.aload_n 0, 1) := by decide +kernel
theorem dX8_init_1 : decode cX8_init 1 = .ok (.invokespecial 3, 3) := by decide +kernel
theorem dX8_init_4 : decode cX8_init 4 = .ok (.aload_n 0, 1) := by decide +kernel
theorem dX8_init_5 : decode cX8_init 5 = .ok (.bipush 10, 2) := by decide +kernel
theorem dX8_init_7 : decode cX8_init 7 = .ok (.newarray .int, 2) := by decide +kernel
theorem dX8_init_9 : decode cX8_init 9 = .ok (.putfield 9, 3) := by decide +kernel
theorem dX8_init_12 : decode cX8_init 12 = .ok (.aload_n 0, 1) := by decide +kernel
theorem dX8_init_13 : decode cX8_init 13 = .ok (.iload_n 1, 1) := by decide +kernel
theorem dX8_init_14 : decode cX8_init 14 = .ok (.putfield 15, 3) := by decide +kernel
theorem dX8_init_17 : decode cX8_init 17 = .ok (.return_, 1) := by decide +kernel
theorem dX8_has_0 : decode cX8_has 0 = .ok (.iload_n 1, 1) := by decide +kernel
theorem dX8_has_1 : decode cX8_has 1 = .ok (.ifCond .lt 21, 3) := by decide +kernel
theorem dX8_has_4 : decode cX8_has 4 = .ok (.iload_n 1, 1) := by decide +kernel
theorem dX8_has_5 : decode cX8_has 5 = .ok (.aload_n 0, 1) := by decide +kernel
theorem dX8_has_6 : decode cX8_has 6 = .ok (.getfield 15, 3) := by decide +kernel
theorem dX8_has_9 : decode cX8_has 9 = .ok (.if_icmp .ge 13, 3) := by decide +kernel
theorem dX8_has_12 : decode cX8_has 12 = .ok (.iload_n 1, 1) := by decide +kernel
theorem dX8_has_13 : decode cX8_has 13 = .ok (.bipush 10, 2) := by decide +kernel
theorem dX8_has_15 : decode cX8_has 15 = .ok (.if_icmp .ge 7, 3) := by decide +kernel
theorem dX8_has_18 : decode cX8_has 18 = .ok (.iconst 1, 1) := by decide +kernel
theorem dX8_has_19 : decode cX8_has 19 = .ok (.goto 4, 3) := by decide +kernel
theorem dX8_has_22 : decode cX8_has 22 = .ok (.iconst 0, 1) := by decide +kernel
theorem dX8_has_23 : decode cX8_has 23 = .ok (.ireturn, 1) := by decide +kernel
theorem dX8_at_0 : decode cX8_at 0 = .ok (.aload_n 0, 1) := by decide +kernel
theorem dX8_at_1 : decode cX8_at 1 = .ok (.iload_n 1, 1) := by decide +kernel
theorem dX8_at_2 : decode cX8_at 2 = .ok (.invokevirtual 19, 3) := by decide +kernel
theorem dX8_at_5 : decode cX8_at 5 = .ok (.ifCond .eq 12, 3) := by decide +kernel
theorem dX8_at_8 : decode cX8_at 8 = .ok (.aload_n 0, 1) := by decide +kernel
theorem dX8_at_9 : decode cX8_at 9 = .ok (.getfield 9, 3) := by decide +kernel
theorem dX8_at_12 : decode cX8_at 12 = .ok (.iload_n 1, 1) := by decide +kernel
theorem dX8_at_13 : decode cX8_at 13 = .ok (.iaload, 1) := by decide +kernel
theorem dX8_at_14 : decode cX8_at 14 = .ok (.goto 4, 3) := by decide +kernel
theorem dX8_at_17 : decode cX8_at 17 = .ok (.iconst 0, 1) := by decide +kernel
theorem dX8_at_18 : decode cX8_at 18 = .ok (.ireturn, 1) := by decide +kernel
theorem dX8_put_0 : decode cX8_put 0 = .ok (.aload_n 0, 1) := by decide +kernel
theorem dX8_put_1 : decode cX8_put 1 = .ok (.iload_n 1, 1) := by decide +kernel
theorem dX8_put_2 : decode cX8_put 2 = .ok (.invokevirtual 19, 3) := by decide +kernel
theorem dX8_put_5 : decode cX8_put 5 = .ok (.ifCond .eq 10, 3) := by decide +kernel
theorem dX8_put_8 : decode cX8_put 8 = .ok (.aload_n 0, 1) := by decide +kernel
theorem dX8_put_9 : decode cX8_put 9 = .ok (.getfield 9, 3) := by decide +kernel
theorem dX8_put_12 : decode cX8_put 12 = .ok (.iload_n 1, 1) := by decide +kernel
theorem dX8_put_13 : decode cX8_put 13 = .ok (.iload_n 2, 1) := by decide +kernel
theorem dX8_put_14 : decode cX8_put 14 = .ok (.iastore, 1) := by decide +kernel
theorem dX8_put_15 : decode cX8_put 15 = .ok (.return_, 1) := by decide +kernel
theorem dX9_init_0 : decode cX9_init 0 = .ok (.aload_n 0, 1) := by decide +kernel
theorem dX9_init_1 : decode cX9_init 1 = .ok (.invokespecial 1, 3) := by decide +kernel
theorem dX9_init_4 : decode cX9_init 4 = .ok (.aload_n 0, 1) := by decide +kernel
theorem dX9_init_5 : decode cX9_init 5 = .ok (.bipush 40, 2) := by decide +kernel
theorem dX9_init_7 : decode cX9_init 7 = .ok (.anewarray 9, 3) := by decide +kernel
theorem dX9_init_10 : decode cX9_init 10 = .ok (.putfield 11, 3) := by decide +kernel
theorem dX9_init_13 : decode cX9_init 13 = .ok (.aload_n 0, 1) := by decide +kernel
theorem dX9_init_14 : decode cX9_init 14 = .ok (.bipush 20, 2) := by decide +kernel
theorem dX9_init_16 : decode cX9_init 16 = .ok (.anewarray 15, 3) := by decide +kernel
theorem dX9_init_19 : decode cX9_init 19 = .ok (.putfield 17, 3) := by decide +kernel
theorem dX9_init_22 : decode cX9_init 22 = .ok (.aload_n 0, 1) := by decide +kernel
theorem dX9_init_23 : decode cX9_init 23 = .ok (.bipush 20, 2) := by decide +kernel
theorem dX9_init_25 : decode cX9_init 25 = .ok (.anewarray 21, 3) := by decide +kernel
theorem dX9_init_28 : decode cX9_init 28 = .ok (.putfield 23, 3) := by decide +kernel
theorem dX9_init_31 : decode cX9_init 31 = .ok (.aload_n 0, 1) := by decide +kernel
theorem dX9_init_32 : decode cX9_init 32 = .ok (.bipush 10, 2) := by decide +kernel
theorem dX9_init_34 : decode cX9_init 34 = .ok (.anewarray 27, 3) := by decide +kernel
theorem dX9_init_37 : decode cX9_init 37 = .ok (.putfield 29, 3) := by decide +kernel
theorem dX9_init_40 : decode cX9_init 40 = .ok (.aload_n 0, 1) := by decide +kernel
theorem dX9_init_41 : decode cX9_init 41 = .ok (.new 33, 3) := by decide +kernel
theorem dX9_init_44 : decode cX9_init 44 = .ok (.dup, 1) := by decide +kernel
theorem dX9_init_45 : decode cX9_init 45 = .ok (.invokespecial 35, 3) := by decide +kernel
theorem dX9_init_48 : decode cX9_init 48 = .ok (.putfield 36, 3) := by decide +kernel
theorem dX9_init_51 : decode cX9_init 51 = .ok (.aload_n 0, 1) := by decide +kernel
theorem dX9_init_52 : decode cX9_init 52 = .ok (.new 40, 3) := by decide +kernel
theorem dX9_init_55 : decode cX9_init 55 = .ok (.dup, 1) := by decide +kernel
theorem dX9_init_56 : decode cX9_init 56 = .ok (.invokespecial 42, 3) := by decide +kernel
theorem dX9_init_59 : decode cX9_init 59 = .ok (.putfield 43, 3) := by decide +kernel
theorem dX9_init_62 : decode cX9_init 62 = .ok (.aload_n 0, 1) := by decide +kernel
theorem dX9_init_63 : decode cX9_init 63 = .ok (.new 15, 3) := by decide +kernel
theorem dX9_init_66 : decode cX9_init 66 = .ok (.dup, 1) := by decide +kernel
theorem dX9_init_67 : decode cX9_init 67 = .ok (.invokespecial 47, 3) := by decide +kernel
theorem dX9_init_70 : decode cX9_init 70 = .ok (.putfield 48, 3) := by decide +kernel
theorem dX9_init_73 : decode cX9_init 73 = .ok (.aload_n 0, 1) := by decide +kernel
theorem dX9_init_74 : decode cX9_init 74 = .ok (.new 52, 3) := by decide +kernel
theorem dX9_init_77 : decode cX9_init 77 = .ok (.dup, 1) := by decide +kernel
theorem dX9_init_78 : decode cX9_init 78 = .ok (.iload_n 1, 1) := by decide +kernel
theorem dX9_init_79 : decode cX9_init 79 = .ok (.ifCond .eq 7, 3) := by decide +kernel
theorem dX9_init_82 : decode cX9_init 82 = .ok (.iconst 1, 1) := by decide +kernel
theorem dX9_init_83 : decode cX9_init 83 = .ok (.goto 4, 3) := by decide +kernel
theorem dX9_init_86 : decode cX9_init 86 = .ok (.iconst 0, 1) := by decide +kernel
theorem dX9_init_87 : decode cX9_init 87 = .ok (.invokespecial 54, 3) := by decide +kernel
theorem dX9_init_90 : decode cX9_init 90 = .ok (.putfield 57, 3) := by decide +kernel
theorem dX9_init_93 : decode cX9_init 93 = .ok (.return_, 1) := by decide +kernel
theorem dX9_letter_0 : decode cX9_letter 0 = .ok (.iload_n 1, 1) := by decide +kernel
theorem dX9_letter_1 : decode cX9_letter 1 = .ok (.bipush 32, 2) := by decide +kernel
theorem dX9_letter_3 : decode cX9_letter 3 = .ok (.if_icmp .lt 9, 3) := by decide +kernel
theorem dX9_letter_6 : decode cX9_letter 6 = .ok (.iload_n 1, 1) := by decide +kernel
theorem dX9_letter_7 : decode cX9_letter 7 = .ok (.bipush 126, 2) := by decide +kernel
theorem dX9_letter_9 : decode cX9_letter 9 = .ok (.if_icmp .le 6, 3) := by decide +kernel
theorem dX9_letter_12 : decode cX9_letter 12 = .ok (.bipush (-3), 2) := by decide +kernel
theorem dX9_letter_14 : decode cX9_letter 14 = .ok (.ireturn, 1) := by decide +kernel
theorem dX9_letter_15 : decode cX9_letter 15 = .ok (.aload_n 0, 1) := by decide +kernel
theorem dX9_letter_16 : decode cX9_letter 16 = .ok (.getfield 48, 3) := by decide +kernel
theorem dX9_letter_19 : decode cX9_letter 19 = .ok (.getfield 61, 3) := by decide +kernel
theorem dX9_letter_22 : decode cX9_letter 22 = .ok (.bipush 20, 2) := by decide +kernel
theorem dX9_letter_24 : decode cX9_letter 24 = .ok (.if_icmp .lt 6, 3) := by decide +kernel
theorem dX9_letter_27 : decode cX9_letter 27 = .ok (.bipush (-4), 2) := by decide +kernel
theorem dX9_letter_29 : decode cX9_letter 29 = .ok (.ireturn, 1) := by decide +kernel
theorem dX9_letter_30 : decode cX9_letter 30 = .ok (.aload_n 0, 1) := by decide +kernel
theorem dX9_letter_31 : decode cX9_letter 31 = .ok (.getfield 48, 3) := by decide +kernel
theorem dX9_letter_34 : decode cX9_letter 34 = .ok (.iload_n 1, 1) := by decide +kernel
theorem dX9_letter_35 : decode cX9_letter 35 = .ok (.i2b, 1) := by decide +kernel
theorem dX9_letter_36 : decode cX9_letter 36 = .ok (.invokevirtual 65, 3) := by decide +kernel
theorem dX9_letter_39 : decode cX9_letter 39 = .ok (.aload_n 0, 1) := by decide +kernel
theorem dX9_letter_40 : decode cX9_letter 40 = .ok (.getfield 48, 3) := by decide +kernel
theorem dX9_letter_43 : decode cX9_letter 43 = .ok (.getfield 61, 3) := by decide +kernel
theorem dX9_letter_46 : decode cX9_letter 46 = .ok (.ireturn, 1) := by decide +kernel
theorem dX9_text_0 : decode cX9_text 0 = .ok (.aload_n 0, 1) := by decide +kernel
theorem dX9_text_1 : decode cX9_text 1 = .ok (.getfield 69, 3) := by decide +kernel
theorem dX9_text_4 : decode cX9_text 4 = .ok (.ifCond .lt 12, 3) := by decide +kernel
theorem dX9_text_7 : decode cX9_text 7 = .ok (.aload_n 0, 1) := by decide +kernel
theorem dX9_text_8 : decode cX9_text 8 = .ok (.getfield 69, 3) := by decide +kernel
theorem dX9_text_11 : decode cX9_text 11 = .ok (.bipush 20, 2) := by decide +kernel
theorem dX9_text_13 : decode cX9_text 13 = .ok (.if_icmp .lt 6, 3) := by decide +kernel
theorem dX9_text_16 : decode cX9_text 16 = .ok (.bipush (-4), 2) := by decide +kernel
theorem dX9_text_18 : decode cX9_text 18 = .ok (.ireturn, 1) := by decide +kernel
theorem dX9_text_19 : decode cX9_text 19 = .ok (.aload_n 0, 1) := by decide +kernel
theorem dX9_text_20 : decode cX9_text 20 = .ok (.getfield 17, 3) := by decide +kernel
theorem dX9_text_23 : decode cX9_text 23 = .ok (.aload_n 0, 1) := by decide +kernel
theorem dX9_text_24 : decode cX9_text 24 = .ok (.getfield 69, 3) := by decide +kernel
theorem dX9_text_27 : decode cX9_text 27 = .ok (.aload_n 0, 1) := by decide +kernel
theorem dX9_text_28 : decode cX9_text 28 = .ok (.getfield 48, 3) := by decide +kernel
theorem dX9_text_31 : decode cX9_text 31 = .ok (.aastore, 1) := by decide +kernel
theorem dX9_text_32 : decode cX9_text 32 = .ok (.aload_n 0, 1) := by decide +kernel
theorem dX9_text_33 : decode cX9_text 33 = .ok (.new 15, 3) := by decide +kernel
theorem dX9_text_36 : decode cX9_text 36 = .ok (.dup, 1) := by decide +kernel
theorem dX9_text_37 : decode cX9_text 37 = .ok (.invokespecial 47, 3) := by decide +kernel
theorem dX9_text_40 : decode cX9_text 40 = .ok (.putfield 48, 3) := by decide +kernel
theorem dX9_text_43 : decode cX9_text 43 = .ok (.aload_n 0, 1) := by decide +kernel
theorem dX9_text_44 : decode cX9_text 44 = .ok (.dup, 1) := by decide +kernel
theorem dX9_text_45 : decode cX9_text 45 = .ok (.getfield 69, 3) := by decide +kernel
theorem dX9_text_48 : decode cX9_text 48 = .ok (.iconst 1, 1) := by decide +kernel
theorem dX9_text_49 : decode cX9_text 49 = .ok (.iadd, 1) := by decide +kernel
theorem dX9_text_50 : decode cX9_text 50 = .ok (.putfield 69, 3) := by decide +kernel
theorem dX9_text_53 : decode cX9_text 53 = .ok (.bipush 101, 2) := by decide +kernel
theorem dX9_text_55 : decode cX9_text 55 = .ok (.aload_n 0, 1) := by decide +kernel
theorem dX9_text_56 : decode cX9_text 56 = .ok (.getfield 69, 3) := by decide +kernel
theorem dX9_text_59 : decode cX9_text 59 = .ok (.iadd, 1) := by decide +kernel
theorem dX9_text_60 : decode cX9_text 60 = .ok (.iconst 1, 1) := by decide +kernel
theorem dX9_text_61 : decode cX9_text 61 = .ok (.isub, 1) := by decide +kernel
theorem dX9_text_62 : decode cX9_text 62 = .ok (.ireturn, 1) := by decide +kernel
theorem dX9_routine_0 : decode cX9_routine 0 = .ok (.aload_n 0, 1) := by decide +kernel
theorem dX9_routine_1 : decode cX9_routine 1 = .ok (.getfield 72, 3) := by decide +kernel
theorem dX9_routine_4 : decode cX9_routine 4 = .ok (.ifCond .lt 12, 3) := by decide +kernel
theorem dX9_routine_7 : decode cX9_routine 7 = .ok (.aload_n 0, 1) := by decide +kernel
theorem dX9_routine_8 : decode cX9_routine 8 = .ok (.getfield 72, 3) := by decide +kernel
theorem dX9_routine_11 : decode cX9_routine 11 = .ok (.bipush 20, 2) := by decide +kernel
theorem dX9_routine_13 : decode cX9_routine 13 = .ok (.if_icmp .lt 6, 3) := by decide +kernel
theorem dX9_routine_16 : decode cX9_routine 16 = .ok (.bipush (-4), 2) := by decide +kernel
theorem dX9_routine_18 : decode cX9_routine 18 = .ok (.ireturn, 1) := by decide +kernel
theorem dX9_routine_19 : decode cX9_routine 19 = .ok (.aload_n 0, 1) := by decide +kernel
theorem dX9_routine_20 : decode cX9_routine 20 = .ok (.getfield 23, 3) := by decide +kernel
theorem dX9_routine_23 : decode cX9_routine 23 = .ok (.aload_n 0, 1) := by decide +kernel
theorem dX9_routine_24 : decode cX9_routine 24 = .ok (.getfield 72, 3) := by decide +kernel
theorem dX9_routine_27 : decode cX9_routine 27 = .ok (.new 21, 3) := by decide +kernel
theorem dX9_routine_30 : decode cX9_routine 30 = .ok (.dup, 1) := by decide +kernel
theorem dX9_routine_31 : decode cX9_routine 31 = .ok (.invokespecial 75, 3) := by decide +kernel
theorem dX9_routine_34 : decode cX9_routine 34 = .ok (.aastore, 1) := by decide +kernel
theorem dX9_routine_35 : decode cX9_routine 35 = .ok (.aload_n 0, 1) := by decide +kernel
theorem dX9_routine_36 : decode cX9_routine 36 = .ok (.dup, 1) := by decide +kernel
theorem dX9_routine_37 : decode cX9_routine 37 = .ok (.getfield 72, 3) := by decide +kernel
theorem dX9_routine_40 : decode cX9_routine 40 = .ok (.iconst 1, 1) := by decide +kernel
theorem dX9_routine_41 : decode cX9_routine 41 = .ok (.iadd, 1) := by decide +kernel
theorem dX9_routine_42 : decode cX9_routine 42 = .ok (.putfield 72, 3) := by decide +kernel
theorem dX9_routine_45 : decode cX9_routine 45 = .ok (.sipush 201, 3) := by decide +kernel
theorem dX9_routine_48 : decode cX9_routine 48 = .ok (.aload_n 0, 1) := by decide +kernel
theorem dX9_routine_49 : decode cX9_routine 49 = .ok (.getfield 72, 3) := by decide +kernel
theorem dX9_routine_52 : decode cX9_routine 52 = .ok (.iadd, 1) := by decide +kernel
theorem dX9_routine_53 : decode cX9_routine 53 = .ok (.iconst 1, 1) := by decide +kernel
theorem dX9_routine_54 : decode cX9_routine 54 = .ok (.isub, 1) := by decide +kernel
theorem dX9_routine_55 : decode cX9_routine 55 = .ok (.ireturn, 1) := by decide +kernel
theorem dX9_act_0 : decode cX9_act 0 = .ok (.aload_n 0, 1) := by decide +kernel
theorem dX9_act_1 : decode cX9_act 1 = .ok (.iload_n 1, 1) := by decide +kernel
theorem dX9_act_2 : decode cX9_act 2 = .ok (.invokevirtual 76, 3) := by decide +kernel
theorem dX9_act_5 : decode cX9_act 5 = .ok (.astore 5, 2) := by decide +kernel
theorem dX9_act_7 : decode cX9_act 7 = .ok (.aload 5, 2) := by decide +kernel
theorem dX9_act_9 : decode cX9_act 9 = .ok (.ifnonnull 6, 3) := by decide +kernel
theorem dX9_act_12 : decode cX9_act 12 = .ok (.bipush (-2), 2) := by decide +kernel
theorem dX9_act_14 : decode cX9_act 14 = .ok (.ireturn, 1) := by decide +kernel
theorem dX9_act_15 : decode cX9_act 15 = .ok (.iload_n 2, 1) := by decide +kernel
theorem dX9_act_16 : decode cX9_act 16 = .ok (.ifCond .lt 9, 3) := by decide +kernel
theorem dX9_act_19 : decode cX9_act 19 = .ok (.iload_n 2, 1) := by decide +kernel
theorem dX9_act_20 : decode cX9_act 20 = .ok (.bipush 14, 2) := by decide +kernel
theorem dX9_act_22 : decode cX9_act 22 = .ok (.if_icmp .le 6, 3) := by decide +kernel
theorem dX9_act_25 : decode cX9_act 25 = .ok (.bipush (-3), 2) := by decide +kernel
theorem dX9_act_27 : decode cX9_act 27 = .ok (.ireturn, 1) := by decide +kernel
theorem dX9_act_28 : decode cX9_act 28 = .ok (.aload 5, 2) := by decide +kernel
theorem dX9_act_30 : decode cX9_act 30 = .ok (.getfield 80, 3) := by decide +kernel
theorem dX9_act_33 : decode cX9_act 33 = .ok (.bipush 8, 2) := by decide +kernel
theorem dX9_act_35 : decode cX9_act 35 = .ok (.if_icmp .lt 6, 3) := by decide +kernel
theorem dX9_act_38 : decode cX9_act 38 = .ok (.bipush (-4), 2) := by decide +kernel
theorem dX9_act_40 : decode cX9_act 40 = .ok (.ireturn, 1) := by decide +kernel
theorem dX9_act_41 : decode cX9_act 41 = .ok (.aload 5, 2) := by decide +kernel
theorem dX9_act_43 : decode cX9_act 43 = .ok (.iload_n 2, 1) := by decide +kernel
theorem dX9_act_44 : decode cX9_act 44 = .ok (.iload_n 3, 1) := by decide +kernel
theorem dX9_act_45 : decode cX9_act 45 = .ok (.iload 4, 2) := by decide +kernel
theorem dX9_act_47 : decode cX9_act 47 = .ok (.invokevirtual 81, 3) := by decide +kernel
theorem dX9_act_50 : decode cX9_act 50 = .ok (.aload 5, 2) := by decide +kernel
theorem dX9_act_52 : decode cX9_act 52 = .ok (.getfield 80, 3) := by decide +kernel
theorem dX9_act_55 : decode cX9_act 55 = .ok (.ireturn, 1) := by decide +kernel
theorem dX9_group_0 : decode cX9_group 0 = .ok (.aload_n 0, 1) := by decide +kernel
theorem dX9_group_1 : decode cX9_group 1 = .ok (.iload_n 1, 1) := by decide +kernel
theorem dX9_group_2 : decode cX9_group 2 = .ok (.invokevirtual 84, 3) := by decide +kernel
theorem dX9_group_5 : decode cX9_group 5 = .ok (.ifCond .eq 11, 3) := by decide +kernel
theorem dX9_group_8 : decode cX9_group 8 = .ok (.aload_n 0, 1) := by decide +kernel
theorem dX9_group_9 : decode cX9_group 9 = .ok (.iload_n 2, 1) := by decide +kernel
theorem dX9_group_10 : decode cX9_group 10 = .ok (.invokevirtual 84, 3) := by decide +kernel
theorem dX9_group_13 : decode cX9_group 13 = .ok (.ifCond .ne 6, 3) := by decide +kernel
theorem dX9_group_16 : decode cX9_group 16 = .ok (.bipush (-2), 2) := by decide +kernel
theorem dX9_group_18 : decode cX9_group 18 = .ok (.ireturn, 1) := by decide +kernel
theorem dX9_group_19 : decode cX9_group 19 = .ok (.iload_n 3, 1) := by decide +kernel
theorem dX9_group_20 : decode cX9_group 20 = .ok (.ifCond .lt 9, 3) := by decide +kernel
theorem dX9_group_23 : decode cX9_group 23 = .ok (.iload_n 3, 1) := by decide +kernel
theorem dX9_group_24 : decode cX9_group 24 = .ok (.bipush 6, 2) := by decide +kernel
theorem dX9_group_26 : decode cX9_group 26 = .ok (.if_icmp .le 6, 3) := by decide +kernel
theorem dX9_group_29 : decode cX9_group 29 = .ok (.bipush (-3), 2) := by decide +kernel
theorem dX9_group_31 : decode cX9_group 31 = .ok (.ireturn, 1) := by decide +kernel
theorem dX9_group_32 : decode cX9_group 32 = .ok (.aload_n 0, 1) := by decide +kernel
theorem dX9_group_33 : decode cX9_group 33 = .ok (.getfield 88, 3) := by decide +kernel
theorem dX9_group_36 : decode cX9_group 36 = .ok (.iconst 1, 1) := by decide +kernel
theorem dX9_group_37 : decode cX9_group 37 = .ok (.iadd, 1) := by decide +kernel
theorem dX9_group_38 : decode cX9_group 38 = .ok (.iload_n 3, 1) := by decide +kernel
theorem dX9_group_39 : decode cX9_group 39 = .ok (.iadd, 1) := by decide +kernel
theorem dX9_group_40 : decode cX9_group 40 = .ok (.bipush 40, 2) := by decide +kernel
theorem dX9_group_42 : decode cX9_group 42 = .ok (.if_icmp .le 6, 3) := by decide +kernel
theorem dX9_group_45 : decode cX9_group 45 = .ok (.bipush (-4), 2) := by decide +kernel
theorem dX9_group_47 : decode cX9_group 47 = .ok (.ireturn, 1) := by decide +kernel
theorem dX9_group_48 : decode cX9_group 48 = .ok (.aload_n 0, 1) := by decide +kernel
theorem dX9_group_49 : decode cX9_group 49 = .ok (.getfield 88, 3) := by decide +kernel
theorem dX9_group_52 : decode cX9_group 52 = .ok (.iconst 1, 1) := by decide +kernel
theorem dX9_group_53 : decode cX9_group 53 = .ok (.iadd, 1) := by decide +kernel
theorem dX9_group_54 : decode cX9_group 54 = .ok (.istore 4, 2) := by decide +kernel
theorem dX9_group_56 : decode cX9_group 56 = .ok (.new 91, 3) := by decide +kernel
theorem dX9_group_59 : decode cX9_group 59 = .ok (.dup, 1) := by decide +kernel
theorem dX9_group_60 : decode cX9_group 60 = .ok (.invokespecial 93, 3) := by decide +kernel
theorem dX9_group_63 : decode cX9_group 63 = .ok (.astore 5, 2) := by decide +kernel
theorem dX9_group_65 : decode cX9_group 65 = .ok (.aload 5, 2) := by decide +kernel
theorem dX9_group_67 : decode cX9_group 67 = .ok (.iload 4, 2) := by decide +kernel
theorem dX9_group_69 : decode cX9_group 69 = .ok (.invokevirtual 94, 3) := by decide +kernel
theorem dX9_group_72 : decode cX9_group 72 = .ok (.aload_n 0, 1) := by decide +kernel
theorem dX9_group_73 : decode cX9_group 73 = .ok (.aload 5, 2) := by decide +kernel
theorem dX9_group_75 : decode cX9_group 75 = .ok (.iload_n 1, 1) := by decide +kernel
theorem dX9_group_76 : decode cX9_group 76 = .ok (.iload_n 2, 1) := by decide +kernel
theorem dX9_group_77 : decode cX9_group 77 = .ok (.invokevirtual 97, 3) := by decide +kernel
theorem dX9_group_80 : decode cX9_group 80 = .ok (.aload_n 0, 1) := by decide +kernel
theorem dX9_group_81 : decode cX9_group 81 = .ok (.new 9, 3) := by decide +kernel
theorem dX9_group_84 : decode cX9_group 84 = .ok (.dup, 1) := by decide +kernel
theorem dX9_group_85 : decode cX9_group 85 = .ok (.iconst 1, 1) := by decide +kernel
theorem dX9_group_86 : decode cX9_group 86 = .ok (.aload 5, 2) := by decide +kernel
theorem dX9_group_88 : decode cX9_group 88 = .ok (.iload_n 3, 1) := by decide +kernel
theorem dX9_group_89 : decode cX9_group 89 = .ok (.invokespecial 101, 3) := by decide +kernel
theorem dX9_group_92 : decode cX9_group 92 = .ok (.invokevirtual 104, 3) := by decide +kernel
theorem dX9_group_95 : decode cX9_group 95 = .ok (.iconst 0, 1) := by decide +kernel
theorem dX9_group_96 : decode cX9_group 96 = .ok (.istore 6, 2) := by decide +kernel
theorem dX9_group_98 : decode cX9_group 98 = .ok (.iload 6, 2) := by decide +kernel
theorem dX9_group_100 : decode cX9_group 100 = .ok (.iload_n 3, 1) := by decide +kernel
theorem dX9_group_101 : decode cX9_group 101 = .ok (.if_icmp .ge 34, 3) := by decide +kernel
theorem dX9_group_104 : decode cX9_group 104 = .ok (.new 9, 3) := by decide +kernel
theorem dX9_group_107 : decode cX9_group 107 = .ok (.dup, 1) := by decide +kernel
theorem dX9_group_108 : decode cX9_group 108 = .ok (.iconst 0, 1) := by decide +kernel
theorem dX9_group_109 : decode cX9_group 109 = .ok (.aload 5, 2) := by decide +kernel
theorem dX9_group_111 : decode cX9_group 111 = .ok (.iconst 0, 1) := by decide +kernel
theorem dX9_group_112 : decode cX9_group 112 = .ok (.invokespecial 101, 3) := by decide +kernel
theorem dX9_group_115 : decode cX9_group 115 = .ok (.astore 7, 2) := by decide +kernel
theorem dX9_group_117 : decode cX9_group 117 = .ok (.aload_n 0, 1) := by decide +kernel
theorem dX9_group_118 : decode cX9_group 118 = .ok (.aload 7, 2) := by decide +kernel
theorem dX9_group_120 : decode cX9_group 120 = .ok (.invokevirtual 108, 3) := by decide +kernel
theorem dX9_group_123 : decode cX9_group 123 = .ok (.aload_n 0, 1) := by decide +kernel
theorem dX9_group_124 : decode cX9_group 124 = .ok (.aload 7, 2) := by decide +kernel
theorem dX9_group_126 : decode cX9_group 126 = .ok (.invokevirtual 104, 3) := by decide +kernel
theorem dX9_group_129 : decode cX9_group 129 = .ok (.iinc 6 1, 3) := by decide +kernel
theorem dX9_group_132 : decode cX9_group 132 = .ok (.goto (-34), 3) := by decide +kernel
theorem dX9_group_135 : decode cX9_group 135 = .ok (.iload 4, 2) := by decide +kernel
theorem dX9_group_137 : decode cX9_group 137 = .ok (.ireturn, 1) := by decide +kernel
theorem dX9_object_0 : decode cX9_object 0 = .ok (.aload_n 0, 1) := by decide +kernel
theorem dX9_object_1 : decode cX9_object 1 = .ok (.iload_n 1, 1) := by decide +kernel
theorem dX9_object_2 : decode cX9_object 2 = .ok (.invokevirtual 84, 3) := by decide +kernel
theorem dX9_object_5 : decode cX9_object 5 = .ok (.ifCond .eq 11, 3) := by decide +kernel
theorem dX9_object_8 : decode cX9_object 8 = .ok (.aload_n 0, 1) := by decide +kernel
theorem dX9_object_9 : decode cX9_object 9 = .ok (.iload_n 2, 1) := by decide +kernel
theorem dX9_object_10 : decode cX9_object 10 = .ok (.invokevirtual 84, 3) := by decide +kernel
theorem dX9_object_13 : decode cX9_object 13 = .ok (.ifCond .ne 6, 3) := by decide +kernel
theorem dX9_object_16 : decode cX9_object 16 = .ok (.bipush (-2), 2) := by decide +kernel
theorem dX9_object_18 : decode cX9_object 18 = .ok (.ireturn, 1) := by decide +kernel
theorem dX9_object_19 : decode cX9_object 19 = .ok (.aload_n 0, 1) := by decide +kernel
theorem dX9_object_20 : decode cX9_object 20 = .ok (.getfield 88, 3) := by decide +kernel
theorem dX9_object_23 : decode cX9_object 23 = .ok (.bipush 40, 2) := by decide +kernel
theorem dX9_object_25 : decode cX9_object 25 = .ok (.if_icmp .lt 6, 3) := by decide +kernel
theorem dX9_object_28 : decode cX9_object 28 = .ok (.bipush (-4), 2) := by decide +kernel
theorem dX9_object_30 : decode cX9_object 30 = .ok (.ireturn, 1) := by decide +kernel
theorem dX9_object_31 : decode cX9_object 31 = .ok (.new 91, 3) := by decide +kernel
theorem dX9_object_34 : decode cX9_object 34 = .ok (.dup, 1) := by decide +kernel
theorem dX9_object_35 : decode cX9_object 35 = .ok (.invokespecial 93, 3) := by decide +kernel
theorem dX9_object_38 : decode cX9_object 38 = .ok (.astore_n 3, 1) := by decide +kernel
theorem dX9_object_39 : decode cX9_object 39 = .ok (.aload_n 0, 1) := by decide +kernel
theorem dX9_object_40 : decode cX9_object 40 = .ok (.aload_n 3, 1) := by decide +kernel
theorem dX9_object_41 : decode cX9_object 41 = .ok (.iload_n 1, 1) := by decide +kernel
theorem dX9_object_42 : decode cX9_object 42 = .ok (.iload_n 2, 1) := by decide +kernel
theorem dX9_object_43 : decode cX9_object 43 = .ok (.invokevirtual 97, 3) := by decide +kernel
theorem dX9_object_46 : decode cX9_object 46 = .ok (.new 9, 3) := by decide +kernel
theorem dX9_object_49 : decode cX9_object 49 = .ok (.dup, 1) := by decide +kernel
theorem dX9_object_50 : decode cX9_object 50 = .ok (.iconst 0, 1) := by decide +kernel
theorem dX9_object_51 : decode cX9_object 51 = .ok (.aload_n 3, 1) := by decide +kernel
theorem dX9_object_52 : decode cX9_object 52 = .ok (.iconst 0, 1) := by decide +kernel
theorem dX9_object_53 : decode cX9_object 53 = .ok (.invokespecial 101, 3) := by decide +kernel
theorem dX9_object_56 : decode cX9_object 56 = .ok (.astore 4, 2) := by decide +kernel
theorem dX9_object_58 : decode cX9_object 58 = .ok (.aload 4, 2) := by decide +kernel
theorem dX9_object_60 : decode cX9_object 60 = .ok (.iconst 1, 1) := by decide +kernel
theorem dX9_object_61 : decode cX9_object 61 = .ok (.putfield 111, 3) := by decide +kernel
theorem dX9_object_64 : decode cX9_object 64 = .ok (.aload_n 0, 1) := by decide +kernel
theorem dX9_object_65 : decode cX9_object 65 = .ok (.aload 4, 2) := by decide +kernel
theorem dX9_object_67 : decode cX9_object 67 = .ok (.invokevirtual 108, 3) := by decide +kernel
theorem dX9_object_70 : decode cX9_object 70 = .ok (.aload_n 0, 1) := by decide +kernel
theorem dX9_object_71 : decode cX9_object 71 = .ok (.aload 4, 2) := by decide +kernel
theorem dX9_object_73 : decode cX9_object 73 = .ok (.invokevirtual 104, 3) := by decide +kernel
theorem dX9_object_76 : decode cX9_object 76 = .ok (.aload_n 0, 1) := by decide +kernel
theorem dX9_object_77 : decode cX9_object 77 = .ok (.getfield 88, 3) := by decide +kernel
theorem dX9_object_80 : decode cX9_object 80 = .ok (.ireturn, 1) := by decide +kernel
theorem dX9_value_0 : decode cX9_value 0 = .ok (.aload_n 0, 1) := by decide +kernel
theorem dX9_value_1 : decode cX9_value 1 = .ok (.iload_n 1, 1) := by decide +kernel
theorem dX9_value_2 : decode cX9_value 2 = .ok (.invokevirtual 115, 3) := by decide +kernel
theorem dX9_value_5 : decode cX9_value 5 = .ok (.astore 5, 2) := by decide +kernel
theorem dX9_value_7 : decode cX9_value 7 = .ok (.aload 5, 2) := by decide +kernel
theorem dX9_value_9 : decode cX9_value 9 = .ok (.ifnonnull 6, 3) := by decide +kernel
theorem dX9_value_12 : decode cX9_value 12 = .ok (.bipush (-2), 2) := by decide +kernel
theorem dX9_value_14 : decode cX9_value 14 = .ok (.ireturn, 1) := by decide +kernel
theorem dX9_value_15 : decode cX9_value 15 = .ok (.iload_n 2, 1) := by decide +kernel
theorem dX9_value_16 : decode cX9_value 16 = .ok (.invokestatic 119, 3) := by decide +kernel
theorem dX9_value_19 : decode cX9_value 19 = .ok (.ifCond .eq 25, 3) := by decide +kernel
theorem dX9_value_22 : decode cX9_value 22 = .ok (.iload_n 3, 1) := by decide +kernel
theorem dX9_value_23 : decode cX9_value 23 = .ok (.ifCond .lt 21, 3) := by decide +kernel
theorem dX9_value_26 : decode cX9_value 26 = .ok (.iload_n 3, 1) := by decide +kernel
theorem dX9_value_27 : decode cX9_value 27 = .ok (.iconst 4, 1) := by decide +kernel
theorem dX9_value_28 : decode cX9_value 28 = .ok (.if_icmp .ge 16, 3) := by decide +kernel
theorem dX9_value_31 : decode cX9_value 31 = .ok (.iload_n 3, 1) := by decide +kernel
theorem dX9_value_32 : decode cX9_value 32 = .ok (.aload 5, 2) := by decide +kernel
theorem dX9_value_34 : decode cX9_value 34 = .ok (.getfield 124, 3) := by decide +kernel
theorem dX9_value_37 : decode cX9_value 37 = .ok (.iload_n 2, 1) := by decide +kernel
theorem dX9_value_38 : decode cX9_value 38 = .ok (.invokevirtual 128, 3) := by decide +kernel
theorem dX9_value_41 : decode cX9_value 41 = .ok (.if_icmp .le 6, 3) := by decide +kernel
theorem dX9_value_44 : decode cX9_value 44 = .ok (.bipush (-3), 2) := by decide +kernel
theorem dX9_value_46 : decode cX9_value 46 = .ok (.ireturn, 1) := by decide +kernel
theorem dX9_value_47 : decode cX9_value 47 = .ok (.iload_n 3, 1) := by decide +kernel
theorem dX9_value_48 : decode cX9_value 48 = .ok (.aload 5, 2) := by decide +kernel
theorem dX9_value_50 : decode cX9_value 50 = .ok (.getfield 124, 3) := by decide +kernel
theorem dX9_value_53 : decode cX9_value 53 = .ok (.iload_n 2, 1) := by decide +kernel
theorem dX9_value_54 : decode cX9_value 54 = .ok (.invokevirtual 128, 3) := by decide +kernel
theorem dX9_value_57 : decode cX9_value 57 = .ok (.if_icmp .ne 17, 3) := by decide +kernel
theorem dX9_value_60 : decode cX9_value 60 = .ok (.aload 5, 2) := by decide +kernel
theorem dX9_value_62 : decode cX9_value 62 = .ok (.getfield 124, 3) := by decide +kernel
theorem dX9_value_65 : decode cX9_value 65 = .ok (.iload_n 2, 1) := by decide +kernel
theorem dX9_value_66 : decode cX9_value 66 = .ok (.iload 4, 2) := by decide +kernel
theorem dX9_value_68 : decode cX9_value 68 = .ok (.invokevirtual 132, 3) := by decide +kernel
theorem dX9_value_71 : decode cX9_value 71 = .ok (.goto 15, 3) := by decide +kernel
theorem dX9_value_74 : decode cX9_value 74 = .ok (.aload 5, 2) := by decide +kernel
theorem dX9_value_76 : decode cX9_value 76 = .ok (.getfield 124, 3) := by decide +kernel
theorem dX9_value_79 : decode cX9_value 79 = .ok (.iload_n 2, 1) := by decide +kernel
theorem dX9_value_80 : decode cX9_value 80 = .ok (.iload_n 3, 1) := by decide +kernel
theorem dX9_value_81 : decode cX9_value 81 = .ok (.iload 4, 2) := by decide +kernel
theorem dX9_value_83 : decode cX9_value 83 = .ok (.invokevirtual 135, 3) := by decide +kernel
theorem dX9_value_86 : decode cX9_value 86 = .ok (.aload 5, 2) := by decide +kernel
theorem dX9_value_88 : decode cX9_value 88 = .ok (.getfield 124, 3) := by decide +kernel
theorem dX9_value_91 : decode cX9_value 91 = .ok (.iload_n 2, 1) := by decide +kernel
theorem dX9_value_92 : decode cX9_value 92 = .ok (.invokevirtual 128, 3) := by decide +kernel
theorem dX9_value_95 : decode cX9_value 95 = .ok (.ireturn, 1) := by decide +kernel
theorem dX9_array_0 : decode cX9_array 0 = .ok (.iload_n 1, 1) := by decide +kernel
theorem dX9_array_1 : decode cX9_array 1 = .ok (.iconst 1, 1) := by decide +kernel
theorem dX9_array_2 : decode cX9_array 2 = .ok (.if_icmp .lt 9, 3) := by decide +kernel
theorem dX9_array_5 : decode cX9_array 5 = .ok (.iload_n 1, 1) := by decide +kernel
theorem dX9_array_6 : decode cX9_array 6 = .ok (.bipush 10, 2) := by decide +kernel
theorem dX9_array_8 : decode cX9_array 8 = .ok (.if_icmp .le 6, 3) := by decide +kernel
theorem dX9_array_11 : decode cX9_array 11 = .ok (.bipush (-3), 2) := by decide +kernel
theorem dX9_array_13 : decode cX9_array 13 = .ok (.ireturn, 1) := by decide +kernel
theorem dX9_array_14 : decode cX9_array 14 = .ok (.aload_n 0, 1) := by decide +kernel
theorem dX9_array_15 : decode cX9_array 15 = .ok (.getfield 138, 3) := by decide +kernel
theorem dX9_array_18 : decode cX9_array 18 = .ok (.ifCond .lt 12, 3) := by decide +kernel
theorem dX9_array_21 : decode cX9_array 21 = .ok (.aload_n 0, 1) := by decide +kernel
theorem dX9_array_22 : decode cX9_array 22 = .ok (.getfield 138, 3) := by decide +kernel
theorem dX9_array_25 : decode cX9_array 25 = .ok (.bipush 10, 2) := by decide +kernel
theorem dX9_array_27 : decode cX9_array 27 = .ok (.if_icmp .lt 6, 3) := by decide +kernel
theorem dX9_array_30 : decode cX9_array 30 = .ok (.bipush (-4), 2) := by decide +kernel
theorem dX9_array_32 : decode cX9_array 32 = .ok (.ireturn, 1) := by decide +kernel
theorem dX9_array_33 : decode cX9_array 33 = .ok (.aload_n 0, 1) := by decide +kernel
theorem dX9_array_34 : decode cX9_array 34 = .ok (.getfield 29, 3) := by decide +kernel
theorem dX9_array_37 : decode cX9_array 37 = .ok (.aload_n 0, 1) := by decide +kernel
theorem dX9_array_38 : decode cX9_array 38 = .ok (.getfield 138, 3) := by decide +kernel
theorem dX9_array_41 : decode cX9_array 41 = .ok (.new 27, 3) := by decide +kernel
theorem dX9_array_44 : decode cX9_array 44 = .ok (.dup, 1) := by decide +kernel
theorem dX9_array_45 : decode cX9_array 45 = .ok (.iload_n 1, 1) := by decide +kernel
theorem dX9_array_46 : decode cX9_array 46 = .ok (.invokespecial 141, 3) := by decide +kernel
theorem dX9_array_49 : decode cX9_array 49 = .ok (.aastore, 1) := by decide +kernel
theorem dX9_array_50 : decode cX9_array 50 = .ok (.aload_n 0, 1) := by decide +kernel
theorem dX9_array_51 : decode cX9_array 51 = .ok (.dup, 1) := by decide +kernel
theorem dX9_array_52 : decode cX9_array 52 = .ok (.getfield 138, 3) := by decide +kernel
theorem dX9_array_55 : decode cX9_array 55 = .ok (.iconst 1, 1) := by decide +kernel
theorem dX9_array_56 : decode cX9_array 56 = .ok (.iadd, 1) := by decide +kernel
theorem dX9_array_57 : decode cX9_array 57 = .ok (.putfield 138, 3) := by decide +kernel
theorem dX9_array_60 : decode cX9_array 60 = .ok (.sipush 301, 3) := by decide +kernel
theorem dX9_array_63 : decode cX9_array 63 = .ok (.aload_n 0, 1) := by decide +kernel
theorem dX9_array_64 : decode cX9_array 64 = .ok (.getfield 138, 3) := by decide +kernel
theorem dX9_array_67 : decode cX9_array 67 = .ok (.iadd, 1) := by decide +kernel
theorem dX9_array_68 : decode cX9_array 68 = .ok (.iconst 1, 1) := by decide +kernel
theorem dX9_array_69 : decode cX9_array 69 = .ok (.isub, 1) := by decide +kernel
theorem dX9_array_70 : decode cX9_array 70 = .ok (.ireturn, 1) := by decide +kernel
theorem dX9_called_0 : decode cX9_called 0 = .ok (.aload_n 0, 1) := by decide +kernel
theorem dX9_called_1 : decode cX9_called 1 = .ok (.iload_n 1, 1) := by decide +kernel
theorem dX9_called_2 : decode cX9_called 2 = .ok (.invokevirtual 115, 3) := by decide +kernel
theorem dX9_called_5 : decode cX9_called 5 = .ok (.astore 4, 2) := by decide +kernel
theorem dX9_called_7 : decode cX9_called 7 = .ok (.aload_n 0, 1) := by decide +kernel
theorem dX9_called_8 : decode cX9_called 8 = .ok (.iload_n 2, 1) := by decide +kernel
theorem dX9_called_9 : decode cX9_called 9 = .ok (.invokevirtual 143, 3) := by decide +kernel
theorem dX9_called_12 : decode cX9_called 12 = .ok (.astore 5, 2) := by decide +kernel
theorem dX9_called_14 : decode cX9_called 14 = .ok (.aload 4, 2) := by decide +kernel
theorem dX9_called_16 : decode cX9_called 16 = .ok (.ifnull 12, 3) := by decide +kernel
theorem dX9_called_19 : decode cX9_called 19 = .ok (.iload_n 2, 1) := by decide +kernel
theorem dX9_called_20 : decode cX9_called 20 = .ok (.ifCond .eq 11, 3) := by decide +kernel
theorem dX9_called_23 : decode cX9_called 23 = .ok (.aload 5, 2) := by decide +kernel
theorem dX9_called_25 : decode cX9_called 25 = .ok (.ifnonnull 6, 3) := by decide +kernel
theorem dX9_called_28 : decode cX9_called 28 = .ok (.bipush (-2), 2) := by decide +kernel
theorem dX9_called_30 : decode cX9_called 30 = .ok (.ireturn, 1) := by decide +kernel
theorem dX9_called_31 : decode cX9_called 31 = .ok (.aload 4, 2) := by decide +kernel
theorem dX9_called_33 : decode cX9_called 33 = .ok (.aload 5, 2) := by decide +kernel
theorem dX9_called_35 : decode cX9_called 35 = .ok (.putfield 147, 3) := by decide +kernel
theorem dX9_called_38 : decode cX9_called 38 = .ok (.aload 4, 2) := by decide +kernel
theorem dX9_called_40 : decode cX9_called 40 = .ok (.iload_n 3, 1) := by decide +kernel
theorem dX9_called_41 : decode cX9_called 41 = .ok (.putfield 150, 3) := by decide +kernel
theorem dX9_called_44 : decode cX9_called 44 = .ok (.iconst 1, 1) := by decide +kernel
theorem dX9_called_45 : decode cX9_called 45 = .ok (.ireturn, 1) := by decide +kernel
theorem dX9_send_0 : decode cX9_send 0 = .ok (.aload_n 0, 1) := by decide +kernel
theorem dX9_send_1 : decode cX9_send 1 = .ok (.invokevirtual 153, 3) := by decide +kernel
theorem dX9_send_4 : decode cX9_send 4 = .ok (.aload_n 0, 1) := by decide +kernel
theorem dX9_send_5 : decode cX9_send 5 = .ok (.iload_n 1, 1) := by decide +kernel
theorem dX9_send_6 : decode cX9_send 6 = .ok (.iload_n 2, 1) := by decide +kernel
theorem dX9_send_7 : decode cX9_send 7 = .ok (.iload_n 3, 1) := by decide +kernel
theorem dX9_send_8 : decode cX9_send 8 = .ok (.iconst 0, 1) := by decide +kernel
theorem dX9_send_9 : decode cX9_send 9 = .ok (.invokevirtual 156, 3) := by decide +kernel
theorem dX9_send_12 : decode cX9_send 12 = .ok (.ireturn, 1) := by decide +kernel
theorem dX9_sendAs_0 : decode cX9_sendAs 0 = .ok (.aload_n 0, 1) := by decide +kernel
theorem dX9_sendAs_1 : decode cX9_sendAs 1 = .ok (.invokevirtual 153, 3) := by decide +kernel
theorem dX9_sendAs_4 : decode cX9_sendAs 4 = .ok (.aload_n 0, 1) := by decide +kernel
theorem dX9_sendAs_5 : decode cX9_sendAs 5 = .ok (.iload_n 1, 1) := by decide +kernel
theorem dX9_sendAs_6 : decode cX9_sendAs 6 = .ok (.iload_n 2, 1) := by decide +kernel
theorem dX9_sendAs_7 : decode cX9_sendAs 7 = .ok (.iload_n 3, 1) := by decide +kernel
theorem dX9_sendAs_8 : decode cX9_sendAs 8 = .ok (.iload 4, 2) := by decide +kernel
theorem dX9_sendAs_10 : decode cX9_sendAs 10 = .ok (.iconst 0, 1) := by decide +kernel
theorem dX9_sendAs_11 : decode cX9_sendAs 11 = .ok (.invokevirtual 160, 3) := by decide +kernel
theorem dX9_sendAs_14 : decode cX9_sendAs 14 = .ok (.ireturn, 1) := by decide +kernel
theorem dX9_read_0 : decode cX9_read 0 = .ok (.aload_n 0, 1) := by decide +kernel
theorem dX9_read_1 : decode cX9_read 1 = .ok (.iload_n 1, 1) := by decide +kernel
theorem dX9_read_2 : decode cX9_read 2 = .ok (.iload_n 2, 1) := by decide +kernel
theorem dX9_read_3 : decode cX9_read 3 = .ok (.iload_n 3, 1) := by decide +kernel
theorem dX9_read_4 : decode cX9_read 4 = .ok (.invokevirtual 164, 3) := by decide +kernel
theorem dX9_read_7 : decode cX9_read 7 = .ok (.astore 4, 2) := by decide +kernel
theorem dX9_read_9 : decode cX9_read 9 = .ok (.aload 4, 2) := by decide +kernel
theorem dX9_read_11 : decode cX9_read 11 = .ok (.ifnonnull 7, 3) := by decide +kernel
theorem dX9_read_14 : decode cX9_read 14 = .ok (.iconst 0, 1) := by decide +kernel
theorem dX9_read_15 : decode cX9_read 15 = .ok (.goto 13, 3) := by decide +kernel
theorem dX9_read_18 : decode cX9_read 18 = .ok (.aload 4, 2) := by decide +kernel
theorem dX9_read_20 : decode cX9_read 20 = .ok (.getfield 124, 3) := by decide +kernel
theorem dX9_read_23 : decode cX9_read 23 = .ok (.iload_n 2, 1) := by decide +kernel
theorem dX9_read_24 : decode cX9_read 24 = .ok (.iload_n 3, 1) := by decide +kernel
theorem dX9_read_25 : decode cX9_read 25 = .ok (.invokevirtual 168, 3) := by decide +kernel
theorem dX9_read_28 : decode cX9_read 28 = .ok (.ireturn, 1) := by decide +kernel
theorem dX9_write_0 : decode cX9_write 0 = .ok (.aload_n 0, 1) := by decide +kernel
theorem dX9_write_1 : decode cX9_write 1 = .ok (.iload_n 1, 1) := by decide +kernel
theorem dX9_write_2 : decode cX9_write 2 = .ok (.iload_n 2, 1) := by decide +kernel
theorem dX9_write_3 : decode cX9_write 3 = .ok (.iload_n 3, 1) := by decide +kernel
theorem dX9_write_4 : decode cX9_write 4 = .ok (.invokevirtual 164, 3) := by decide +kernel
theorem dX9_write_7 : decode cX9_write 7 = .ok (.astore 5, 2) := by decide +kernel
theorem dX9_write_9 : decode cX9_write 9 = .ok (.aload 5, 2) := by decide +kernel
theorem dX9_write_11 : decode cX9_write 11 = .ok (.ifnonnull 5, 3) := by decide +kernel
theorem dX9_write_14 : decode cX9_write 14 = .ok (.iconst 0, 1) := by decide +kernel
theorem dX9_write_15 : decode cX9_write 15 = .ok (.ireturn, 1) := by decide +kernel
theorem dX9_write_16 : decode cX9_write 16 = .ok (.aload 5, 2) := by decide +kernel
theorem dX9_write_18 : decode cX9_write 18 = .ok (.getfield 124, 3) := by decide +kernel
theorem dX9_write_21 : decode cX9_write 21 = .ok (.iload_n 2, 1) := by decide +kernel
theorem dX9_write_22 : decode cX9_write 22 = .ok (.iload_n 3, 1) := by decide +kernel
theorem dX9_write_23 : decode cX9_write 23 = .ok (.iload 4, 2) := by decide +kernel
theorem dX9_write_25 : decode cX9_write 25 = .ok (.invokevirtual 135, 3) := by decide +kernel
theorem dX9_write_28 : decode cX9_write 28 = .ok (.iload 4, 2) := by decide +kernel
theorem dX9_write_30 : decode cX9_write 30 = .ok (.ireturn, 1) := by decide +kernel
theorem dX9_move_0 : decode cX9_move 0 = .ok (.aload_n 0, 1) := by decide +kernel
theorem dX9_move_1 : decode cX9_move 1 = .ok (.iload_n 1, 1) := by decide +kernel
theorem dX9_move_2 : decode cX9_move 2 = .ok (.invokevirtual 172, 3) := by decide +kernel
theorem dX9_move_5 : decode cX9_move 5 = .ok (.iconst 2, 1) := by decide +kernel
theorem dX9_move_6 : decode cX9_move 6 = .ok (.if_icmp .ne 16, 3) := by decide +kernel
theorem dX9_move_9 : decode cX9_move 9 = .ok (.iload_n 2, 1) := by decide +kernel
theorem dX9_move_10 : decode cX9_move 10 = .ok (.ifCond .eq 24, 3) := by decide +kernel
theorem dX9_move_13 : decode cX9_move 13 = .ok (.aload_n 0, 1) := by decide +kernel
theorem dX9_move_14 : decode cX9_move 14 = .ok (.iload_n 2, 1) := by decide +kernel
theorem dX9_move_15 : decode cX9_move 15 = .ok (.invokevirtual 172, 3) := by decide +kernel
theorem dX9_move_18 : decode cX9_move 18 = .ok (.iconst 2, 1) := by decide +kernel
theorem dX9_move_19 : decode cX9_move 19 = .ok (.if_icmp .eq 15, 3) := by decide +kernel
theorem dX9_move_22 : decode cX9_move 22 = .ok (.aload_n 0, 1) := by decide +kernel
theorem dX9_move_23 : decode cX9_move 23 = .ok (.getfield 57, 3) := by decide +kernel
theorem dX9_move_26 : decode cX9_move 26 = .ok (.bipush 6, 2) := by decide +kernel
theorem dX9_move_28 : decode cX9_move 28 = .ok (.iload_n 1, 1) := by decide +kernel
theorem dX9_move_29 : decode cX9_move 29 = .ok (.iload_n 2, 1) := by decide +kernel
theorem dX9_move_30 : decode cX9_move 30 = .ok (.invokevirtual 175, 3) := by decide +kernel
theorem dX9_move_33 : decode cX9_move 33 = .ok (.ireturn, 1) := by decide +kernel
theorem dX9_move_34 : decode cX9_move 34 = .ok (.aload_n 0, 1) := by decide +kernel
theorem dX9_move_35 : decode cX9_move 35 = .ok (.getfield 36, 3) := by decide +kernel
theorem dX9_move_38 : decode cX9_move 38 = .ok (.iload_n 2, 1) := by decide +kernel
theorem dX9_move_39 : decode cX9_move 39 = .ok (.iload_n 1, 1) := by decide +kernel
theorem dX9_move_40 : decode cX9_move 40 = .ok (.invokevirtual 179, 3) := by decide +kernel
theorem dX9_move_43 : decode cX9_move 43 = .ok (.ifCond .eq 15, 3) := by decide +kernel
theorem dX9_move_46 : decode cX9_move 46 = .ok (.aload_n 0, 1) := by decide +kernel
theorem dX9_move_47 : decode cX9_move 47 = .ok (.getfield 57, 3) := by decide +kernel
theorem dX9_move_50 : decode cX9_move 50 = .ok (.bipush 7, 2) := by decide +kernel
theorem dX9_move_52 : decode cX9_move 52 = .ok (.iload_n 1, 1) := by decide +kernel
theorem dX9_move_53 : decode cX9_move 53 = .ok (.iload_n 2, 1) := by decide +kernel
theorem dX9_move_54 : decode cX9_move 54 = .ok (.invokevirtual 175, 3) := by decide +kernel
theorem dX9_move_57 : decode cX9_move 57 = .ok (.ireturn, 1) := by decide +kernel
theorem dX9_move_58 : decode cX9_move 58 = .ok (.aload_n 0, 1) := by decide +kernel
theorem dX9_move_59 : decode cX9_move 59 = .ok (.getfield 36, 3) := by decide +kernel
theorem dX9_move_62 : decode cX9_move 62 = .ok (.iload_n 1, 1) := by decide +kernel
theorem dX9_move_63 : decode cX9_move 63 = .ok (.invokevirtual 183, 3) := by decide +kernel
theorem dX9_move_66 : decode cX9_move 66 = .ok (.aload_n 0, 1) := by decide +kernel
theorem dX9_move_67 : decode cX9_move 67 = .ok (.getfield 36, 3) := by decide +kernel
theorem dX9_move_70 : decode cX9_move 70 = .ok (.iload_n 1, 1) := by decide +kernel
theorem dX9_move_71 : decode cX9_move 71 = .ok (.iload_n 2, 1) := by decide +kernel
theorem dX9_move_72 : decode cX9_move 72 = .ok (.invokevirtual 186, 3) := by decide +kernel
theorem dX9_move_75 : decode cX9_move 75 = .ok (.iconst 1, 1) := by decide +kernel
theorem dX9_move_76 : decode cX9_move 76 = .ok (.ireturn, 1) := by decide +kernel
theorem dX9_tree_0 : decode cX9_tree 0 = .ok (.aload_n 0, 1) := by decide +kernel
theorem dX9_tree_1 : decode cX9_tree 1 = .ok (.iload_n 1, 1) := by decide +kernel
theorem dX9_tree_2 : decode cX9_tree 2 = .ok (.invokevirtual 172, 3) := by decide +kernel
theorem dX9_tree_5 : decode cX9_tree 5 = .ok (.iconst 2, 1) := by decide +kernel
theorem dX9_tree_6 : decode cX9_tree 6 = .ok (.if_icmp .eq 15, 3) := by decide +kernel
theorem dX9_tree_9 : decode cX9_tree 9 = .ok (.aload_n 0, 1) := by decide +kernel
theorem dX9_tree_10 : decode cX9_tree 10 = .ok (.getfield 57, 3) := by decide +kernel
theorem dX9_tree_13 : decode cX9_tree 13 = .ok (.bipush 6, 2) := by decide +kernel
theorem dX9_tree_15 : decode cX9_tree 15 = .ok (.iload_n 1, 1) := by decide +kernel
theorem dX9_tree_16 : decode cX9_tree 16 = .ok (.iconst 0, 1) := by decide +kernel
theorem dX9_tree_17 : decode cX9_tree 17 = .ok (.invokevirtual 175, 3) := by decide +kernel
theorem dX9_tree_20 : decode cX9_tree 20 = .ok (.ireturn, 1) := by decide +kernel
theorem dX9_tree_21 : decode cX9_tree 21 = .ok (.iload_n 2, 1) := by decide +kernel
theorem dX9_tree_22 : decode cX9_tree 22 = .ok (.tableswitch 53 0 2 #[26, 35, 44], 26) := by decide +kernel
theorem dX9_tree_48 : decode cX9_tree 48 = .ok (.aload_n 0, 1) := by decide +kernel
theorem dX9_tree_49 : decode cX9_tree 49 = .ok (.getfield 36, 3) := by decide +kernel
theorem dX9_tree_52 : decode cX9_tree 52 = .ok (.iload_n 1, 1) := by decide +kernel
theorem dX9_tree_53 : decode cX9_tree 53 = .ok (.invokevirtual 188, 3) := by decide +kernel
theorem dX9_tree_56 : decode cX9_tree 56 = .ok (.ireturn, 1) := by decide +kernel
theorem dX9_tree_57 : decode cX9_tree 57 = .ok (.aload_n 0, 1) := by decide +kernel
theorem dX9_tree_58 : decode cX9_tree 58 = .ok (.getfield 36, 3) := by decide +kernel
theorem dX9_tree_61 : decode cX9_tree 61 = .ok (.iload_n 1, 1) := by decide +kernel
theorem dX9_tree_62 : decode cX9_tree 62 = .ok (.invokevirtual 191, 3) := by decide +kernel
theorem dX9_tree_65 : decode cX9_tree 65 = .ok (.ireturn, 1) := by decide +kernel
theorem dX9_tree_66 : decode cX9_tree 66 = .ok (.aload_n 0, 1) := by decide +kernel
theorem dX9_tree_67 : decode cX9_tree 67 = .ok (.getfield 36, 3) := by decide +kernel
theorem dX9_tree_70 : decode cX9_tree 70 = .ok (.iload_n 1, 1) := by decide +kernel
theorem dX9_tree_71 : decode cX9_tree 71 = .ok (.invokevirtual 194, 3) := by decide +kernel
theorem dX9_tree_74 : decode cX9_tree 74 = .ok (.ireturn, 1) := by decide +kernel
theorem dX9_tree_75 : decode cX9_tree 75 = .ok (.aload_n 0, 1) := by decide +kernel
theorem dX9_tree_76 : decode cX9_tree 76 = .ok (.getfield 36, 3) := by decide +kernel
theorem dX9_tree_79 : decode cX9_tree 79 = .ok (.iload_n 1, 1) := by decide +kernel
theorem dX9_tree_80 : decode cX9_tree 80 = .ok (.invokevirtual 197, 3) := by decide +kernel
theorem dX9_tree_83 : decode cX9_tree 83 = .ok (.ireturn, 1) := by decide +kernel
theorem dX9_loop_0 : decode cX9_loop 0 = .ok (.aload_n 0, 1) := by decide +kernel
theorem dX9_loop_1 : decode cX9_loop 1 = .ok (.invokevirtual 153, 3) := by decide +kernel
theorem dX9_loop_4 : decode cX9_loop 4 = .ok (.aload_n 0, 1) := by decide +kernel
theorem dX9_loop_5 : decode cX9_loop 5 = .ok (.iload_n 1, 1) := by decide +kernel
theorem dX9_loop_6 : decode cX9_loop 6 = .ok (.invokevirtual 172, 3) := by decide +kernel
theorem dX9_loop_9 : decode cX9_loop 9 = .ok (.iconst 2, 1) := by decide +kernel
theorem dX9_loop_10 : decode cX9_loop 10 = .ok (.if_icmp .eq 15, 3) := by decide +kernel
theorem dX9_loop_13 : decode cX9_loop 13 = .ok (.aload_n 0, 1) := by decide +kernel
theorem dX9_loop_14 : decode cX9_loop 14 = .ok (.getfield 57, 3) := by decide +kernel
theorem dX9_loop_17 : decode cX9_loop 17 = .ok (.bipush 6, 2) := by decide +kernel
theorem dX9_loop_19 : decode cX9_loop 19 = .ok (.iload_n 1, 1) := by decide +kernel
theorem dX9_loop_20 : decode cX9_loop 20 = .ok (.iconst 0, 1) := by decide +kernel
theorem dX9_loop_21 : decode cX9_loop 21 = .ok (.invokevirtual 175, 3) := by decide +kernel
theorem dX9_loop_24 : decode cX9_loop 24 = .ok (.ireturn, 1) := by decide +kernel
theorem dX9_loop_25 : decode cX9_loop 25 = .ok (.aload_n 0, 1) := by decide +kernel
theorem dX9_loop_26 : decode cX9_loop 26 = .ok (.iload_n 2, 1) := by decide +kernel
theorem dX9_loop_27 : decode cX9_loop 27 = .ok (.invokevirtual 172, 3) := by decide +kernel
theorem dX9_loop_30 : decode cX9_loop 30 = .ok (.iconst 4, 1) := by decide +kernel
theorem dX9_loop_31 : decode cX9_loop 31 = .ok (.if_icmp .eq 15, 3) := by decide +kernel
theorem dX9_loop_34 : decode cX9_loop 34 = .ok (.aload_n 0, 1) := by decide +kernel
theorem dX9_loop_35 : decode cX9_loop 35 = .ok (.getfield 57, 3) := by decide +kernel
theorem dX9_loop_38 : decode cX9_loop 38 = .ok (.bipush 13, 2) := by decide +kernel
theorem dX9_loop_40 : decode cX9_loop 40 = .ok (.iload_n 1, 1) := by decide +kernel
theorem dX9_loop_41 : decode cX9_loop 41 = .ok (.iload_n 2, 1) := by decide +kernel
theorem dX9_loop_42 : decode cX9_loop 42 = .ok (.invokevirtual 175, 3) := by decide +kernel
theorem dX9_loop_45 : decode cX9_loop 45 = .ok (.ireturn, 1) := by decide +kernel
theorem dX9_loop_46 : decode cX9_loop 46 = .ok (.aload_n 0, 1) := by decide +kernel
theorem dX9_loop_47 : decode cX9_loop 47 = .ok (.getfield 36, 3) := by decide +kernel
theorem dX9_loop_50 : decode cX9_loop 50 = .ok (.iload_n 1, 1) := by decide +kernel
theorem dX9_loop_51 : decode cX9_loop 51 = .ok (.invokevirtual 191, 3) := by decide +kernel
theorem dX9_loop_54 : decode cX9_loop 54 = .ok (.istore_n 3, 1) := by decide +kernel
theorem dX9_loop_55 : decode cX9_loop 55 = .ok (.iconst 0, 1) := by decide +kernel
theorem dX9_loop_56 : decode cX9_loop 56 = .ok (.istore 4, 2) := by decide +kernel
theorem dX9_loop_58 : decode cX9_loop 58 = .ok (.iload_n 3, 1) := by decide +kernel
theorem dX9_loop_59 : decode cX9_loop 59 = .ok (.ifCond .eq 72, 3) := by decide +kernel
theorem dX9_loop_62 : decode cX9_loop 62 = .ok (.iload 4, 2) := by decide +kernel
theorem dX9_loop_64 : decode cX9_loop 64 = .ok (.bipush 40, 2) := by decide +kernel
theorem dX9_loop_66 : decode cX9_loop 66 = .ok (.if_icmp .ge 65, 3) := by decide +kernel
theorem dX9_loop_69 : decode cX9_loop 69 = .ok (.aload_n 0, 1) := by decide +kernel
theorem dX9_loop_70 : decode cX9_loop 70 = .ok (.getfield 36, 3) := by decide +kernel
theorem dX9_loop_73 : decode cX9_loop 73 = .ok (.iload_n 3, 1) := by decide +kernel
theorem dX9_loop_74 : decode cX9_loop 74 = .ok (.invokevirtual 194, 3) := by decide +kernel
theorem dX9_loop_77 : decode cX9_loop 77 = .ok (.istore 5, 2) := by decide +kernel
theorem dX9_loop_79 : decode cX9_loop 79 = .ok (.aload_n 0, 1) := by decide +kernel
theorem dX9_loop_80 : decode cX9_loop 80 = .ok (.iload_n 2, 1) := by decide +kernel
theorem dX9_loop_81 : decode cX9_loop 81 = .ok (.iload_n 3, 1) := by decide +kernel
theorem dX9_loop_82 : decode cX9_loop 82 = .ok (.iload_n 1, 1) := by decide +kernel
theorem dX9_loop_83 : decode cX9_loop 83 = .ok (.iconst 0, 1) := by decide +kernel
end
section
theorem dX9_loop_84 : decode cX9_loop 84 = .ok (.invokevirtual 200, 3) := by decide +kernel
theorem dX9_loop_87 : decode cX9_loop 87 = .ok (.pop, 1) := by decide +kernel
theorem dX9_loop_88 : decode cX9_loop 88 = .ok (.iinc 4 1, 3) := by decide +kernel
theorem dX9_loop_91 : decode cX9_loop 91 = .ok (.iload 5, 2) := by decide +kernel
theorem dX9_loop_93 : decode cX9_loop 93 = .ok (.ifCond .eq 32, 3) := by decide +kernel
theorem dX9_loop_96 : decode cX9_loop 96 = .ok (.aload_n 0, 1) := by decide +kernel
theorem dX9_loop_97 : decode cX9_loop 97 = .ok (.getfield 36, 3) := by decide +kernel
theorem dX9_loop_100 : decode cX9_loop 100 = .ok (.iload 5, 2) := by decide +kernel
theorem dX9_loop_102 : decode cX9_loop 102 = .ok (.invokevirtual 188, 3) := by decide +kernel
theorem dX9_loop_105 : decode cX9_loop 105 = .ok (.iload_n 1, 1) := by decide +kernel
theorem dX9_loop_106 : decode cX9_loop 106 = .ok (.if_icmp .eq 19, 3) := by decide +kernel
theorem dX9_loop_109 : decode cX9_loop 109 = .ok (.aload_n 0, 1) := by decide +kernel
theorem dX9_loop_110 : decode cX9_loop 110 = .ok (.getfield 57, 3) := by decide +kernel
theorem dX9_loop_113 : decode cX9_loop 113 = .ok (.bipush 11, 2) := by decide +kernel
theorem dX9_loop_115 : decode cX9_loop 115 = .ok (.iload 5, 2) := by decide +kernel
theorem dX9_loop_117 : decode cX9_loop 117 = .ok (.iconst 0, 1) := by decide +kernel
theorem dX9_loop_118 : decode cX9_loop 118 = .ok (.invokevirtual 175, 3) := by decide +kernel
theorem dX9_loop_121 : decode cX9_loop 121 = .ok (.pop, 1) := by decide +kernel
theorem dX9_loop_122 : decode cX9_loop 122 = .ok (.iload 4, 2) := by decide +kernel
theorem dX9_loop_124 : decode cX9_loop 124 = .ok (.ireturn, 1) := by decide +kernel
theorem dX9_loop_125 : decode cX9_loop 125 = .ok (.iload 5, 2) := by decide +kernel
theorem dX9_loop_127 : decode cX9_loop 127 = .ok (.istore_n 3, 1) := by decide +kernel
theorem dX9_loop_128 : decode cX9_loop 128 = .ok (.goto (-70), 3) := by decide +kernel
theorem dX9_loop_131 : decode cX9_loop 131 = .ok (.iload 4, 2) := by decide +kernel
theorem dX9_loop_133 : decode cX9_loop 133 = .ok (.ireturn, 1) := by decide +kernel
theorem dX9_meta_0 : decode cX9_meta 0 = .ok (.aload_n 0, 1) := by decide +kernel
theorem dX9_meta_1 : decode cX9_meta 1 = .ok (.iload_n 1, 1) := by decide +kernel
theorem dX9_meta_2 : decode cX9_meta 2 = .ok (.invokevirtual 115, 3) := by decide +kernel
theorem dX9_meta_5 : decode cX9_meta 5 = .ok (.astore_n 2, 1) := by decide +kernel
theorem dX9_meta_6 : decode cX9_meta 6 = .ok (.aload_n 2, 1) := by decide +kernel
theorem dX9_meta_7 : decode cX9_meta 7 = .ok (.ifnull 27, 3) := by decide +kernel
theorem dX9_meta_10 : decode cX9_meta 10 = .ok (.aload_n 2, 1) := by decide +kernel
theorem dX9_meta_11 : decode cX9_meta 11 = .ok (.getfield 203, 3) := by decide +kernel
theorem dX9_meta_14 : decode cX9_meta 14 = .ok (.ifCond .eq 7, 3) := by decide +kernel
theorem dX9_meta_17 : decode cX9_meta 17 = .ok (.iconst 1, 1) := by decide +kernel
theorem dX9_meta_18 : decode cX9_meta 18 = .ok (.goto 15, 3) := by decide +kernel
theorem dX9_meta_21 : decode cX9_meta 21 = .ok (.aload_n 2, 1) := by decide +kernel
theorem dX9_meta_22 : decode cX9_meta 22 = .ok (.getfield 111, 3) := by decide +kernel
theorem dX9_meta_25 : decode cX9_meta 25 = .ok (.ifCond .eq 7, 3) := by decide +kernel
theorem dX9_meta_28 : decode cX9_meta 28 = .ok (.iconst 2, 1) := by decide +kernel
theorem dX9_meta_29 : decode cX9_meta 29 = .ok (.goto 4, 3) := by decide +kernel
theorem dX9_meta_32 : decode cX9_meta 32 = .ok (.iconst 0, 1) := by decide +kernel
theorem dX9_meta_33 : decode cX9_meta 33 = .ok (.ireturn, 1) := by decide +kernel
theorem dX9_meta_34 : decode cX9_meta 34 = .ok (.aload_n 0, 1) := by decide +kernel
theorem dX9_meta_35 : decode cX9_meta 35 = .ok (.iload_n 1, 1) := by decide +kernel
theorem dX9_meta_36 : decode cX9_meta 36 = .ok (.invokevirtual 143, 3) := by decide +kernel
theorem dX9_meta_39 : decode cX9_meta 39 = .ok (.ifnull 5, 3) := by decide +kernel
theorem dX9_meta_42 : decode cX9_meta 42 = .ok (.iconst 3, 1) := by decide +kernel
theorem dX9_meta_43 : decode cX9_meta 43 = .ok (.ireturn, 1) := by decide +kernel
theorem dX9_meta_44 : decode cX9_meta 44 = .ok (.aload_n 0, 1) := by decide +kernel
theorem dX9_meta_45 : decode cX9_meta 45 = .ok (.iload_n 1, 1) := by decide +kernel
theorem dX9_meta_46 : decode cX9_meta 46 = .ok (.invokevirtual 76, 3) := by decide +kernel
theorem dX9_meta_49 : decode cX9_meta 49 = .ok (.ifnull 5, 3) := by decide +kernel
theorem dX9_meta_52 : decode cX9_meta 52 = .ok (.iconst 4, 1) := by decide +kernel
theorem dX9_meta_53 : decode cX9_meta 53 = .ok (.ireturn, 1) := by decide +kernel
theorem dX9_meta_54 : decode cX9_meta 54 = .ok (.aload_n 0, 1) := by decide +kernel
theorem dX9_meta_55 : decode cX9_meta 55 = .ok (.iload_n 1, 1) := by decide +kernel
theorem dX9_meta_56 : decode cX9_meta 56 = .ok (.invokevirtual 206, 3) := by decide +kernel
theorem dX9_meta_59 : decode cX9_meta 59 = .ok (.ifnull 7, 3) := by decide +kernel
theorem dX9_meta_62 : decode cX9_meta 62 = .ok (.iconst 5, 1) := by decide +kernel
theorem dX9_meta_63 : decode cX9_meta 63 = .ok (.goto 4, 3) := by decide +kernel
theorem dX9_meta_66 : decode cX9_meta 66 = .ok (.iconst 0, 1) := by decide +kernel
theorem dX9_meta_67 : decode cX9_meta 67 = .ok (.ireturn, 1) := by decide +kernel
theorem dX9_isOf_0 : decode cX9_isOf 0 = .ok (.aload_n 0, 1) := by decide +kernel
theorem dX9_isOf_1 : decode cX9_isOf 1 = .ok (.iload_n 1, 1) := by decide +kernel
theorem dX9_isOf_2 : decode cX9_isOf 2 = .ok (.invokevirtual 115, 3) := by decide +kernel
theorem dX9_isOf_5 : decode cX9_isOf 5 = .ok (.astore_n 3, 1) := by decide +kernel
theorem dX9_isOf_6 : decode cX9_isOf 6 = .ok (.aload_n 3, 1) := by decide +kernel
theorem dX9_isOf_7 : decode cX9_isOf 7 = .ok (.ifnull 32, 3) := by decide +kernel
theorem dX9_isOf_10 : decode cX9_isOf 10 = .ok (.aload_n 3, 1) := by decide +kernel
theorem dX9_isOf_11 : decode cX9_isOf 11 = .ok (.getfield 203, 3) := by decide +kernel
theorem dX9_isOf_14 : decode cX9_isOf 14 = .ok (.ifCond .ne 25, 3) := by decide +kernel
theorem dX9_isOf_17 : decode cX9_isOf 17 = .ok (.aload_n 3, 1) := by decide +kernel
theorem dX9_isOf_18 : decode cX9_isOf 18 = .ok (.getfield 111, 3) := by decide +kernel
theorem dX9_isOf_21 : decode cX9_isOf 21 = .ok (.ifCond .eq 18, 3) := by decide +kernel
theorem dX9_isOf_24 : decode cX9_isOf 24 = .ok (.aload_n 3, 1) := by decide +kernel
theorem dX9_isOf_25 : decode cX9_isOf 25 = .ok (.getfield 210, 3) := by decide +kernel
theorem dX9_isOf_28 : decode cX9_isOf 28 = .ok (.iload_n 2, 1) := by decide +kernel
theorem dX9_isOf_29 : decode cX9_isOf 29 = .ok (.invokevirtual 214, 3) := by decide +kernel
theorem dX9_isOf_32 : decode cX9_isOf 32 = .ok (.ifCond .eq 7, 3) := by decide +kernel
theorem dX9_isOf_35 : decode cX9_isOf 35 = .ok (.iconst 1, 1) := by decide +kernel
theorem dX9_isOf_36 : decode cX9_isOf 36 = .ok (.goto 4, 3) := by decide +kernel
theorem dX9_isOf_39 : decode cX9_isOf 39 = .ok (.iconst 0, 1) := by decide +kernel
theorem dX9_isOf_40 : decode cX9_isOf 40 = .ok (.ireturn, 1) := by decide +kernel
theorem dX9_provides_0 : decode cX9_provides 0 = .ok (.aload_n 0, 1) := by decide +kernel
theorem dX9_provides_1 : decode cX9_provides 1 = .ok (.iload_n 1, 1) := by decide +kernel
theorem dX9_provides_2 : decode cX9_provides 2 = .ok (.invokevirtual 217, 3) := by decide +kernel
theorem dX9_provides_5 : decode cX9_provides 5 = .ok (.astore_n 3, 1) := by decide +kernel
theorem dX9_provides_6 : decode cX9_provides 6 = .ok (.aload_n 3, 1) := by decide +kernel
theorem dX9_provides_7 : decode cX9_provides 7 = .ok (.ifnonnull 7, 3) := by decide +kernel
theorem dX9_provides_10 : decode cX9_provides 10 = .ok (.iconst 0, 1) := by decide +kernel
theorem dX9_provides_11 : decode cX9_provides 11 = .ok (.goto 11, 3) := by decide +kernel
theorem dX9_provides_14 : decode cX9_provides 14 = .ok (.aload_n 3, 1) := by decide +kernel
theorem dX9_provides_15 : decode cX9_provides 15 = .ok (.getfield 124, 3) := by decide +kernel
theorem dX9_provides_18 : decode cX9_provides 18 = .ok (.iload_n 2, 1) := by decide +kernel
theorem dX9_provides_19 : decode cX9_provides 19 = .ok (.invokevirtual 128, 3) := by decide +kernel
theorem dX9_provides_22 : decode cX9_provides 22 = .ok (.ireturn, 1) := by decide +kernel
theorem dX9_word_0 : decode cX9_word 0 = .ok (.aload_n 0, 1) := by decide +kernel
theorem dX9_word_1 : decode cX9_word 1 = .ok (.iload_n 1, 1) := by decide +kernel
theorem dX9_word_2 : decode cX9_word 2 = .ok (.iload_n 2, 1) := by decide +kernel
theorem dX9_word_3 : decode cX9_word 3 = .ok (.iload_n 2, 1) := by decide +kernel
theorem dX9_word_4 : decode cX9_word 4 = .ok (.invokevirtual 220, 3) := by decide +kernel
theorem dX9_word_7 : decode cX9_word 7 = .ok (.astore_n 3, 1) := by decide +kernel
theorem dX9_word_8 : decode cX9_word 8 = .ok (.aload_n 3, 1) := by decide +kernel
theorem dX9_word_9 : decode cX9_word 9 = .ok (.ifnonnull 7, 3) := by decide +kernel
theorem dX9_word_12 : decode cX9_word 12 = .ok (.iconst 0, 1) := by decide +kernel
theorem dX9_word_13 : decode cX9_word 13 = .ok (.goto 8, 3) := by decide +kernel
theorem dX9_word_16 : decode cX9_word 16 = .ok (.aload_n 3, 1) := by decide +kernel
theorem dX9_word_17 : decode cX9_word 17 = .ok (.iload_n 2, 1) := by decide +kernel
theorem dX9_word_18 : decode cX9_word 18 = .ok (.invokevirtual 224, 3) := by decide +kernel
theorem dX9_word_21 : decode cX9_word 21 = .ok (.ireturn, 1) := by decide +kernel
theorem dX9_setWord_0 : decode cX9_setWord 0 = .ok (.aload_n 0, 1) := by decide +kernel
theorem dX9_setWord_1 : decode cX9_setWord 1 = .ok (.iload_n 1, 1) := by decide +kernel
theorem dX9_setWord_2 : decode cX9_setWord 2 = .ok (.iload_n 2, 1) := by decide +kernel
theorem dX9_setWord_3 : decode cX9_setWord 3 = .ok (.iload_n 2, 1) := by decide +kernel
theorem dX9_setWord_4 : decode cX9_setWord 4 = .ok (.invokevirtual 220, 3) := by decide +kernel
theorem dX9_setWord_7 : decode cX9_setWord 7 = .ok (.astore 4, 2) := by decide +kernel
theorem dX9_setWord_9 : decode cX9_setWord 9 = .ok (.aload 4, 2) := by decide +kernel
theorem dX9_setWord_11 : decode cX9_setWord 11 = .ok (.ifnonnull 5, 3) := by decide +kernel
theorem dX9_setWord_14 : decode cX9_setWord 14 = .ok (.iconst 0, 1) := by decide +kernel
theorem dX9_setWord_15 : decode cX9_setWord 15 = .ok (.ireturn, 1) := by decide +kernel
theorem dX9_setWord_16 : decode cX9_setWord 16 = .ok (.aload 4, 2) := by decide +kernel
theorem dX9_setWord_18 : decode cX9_setWord 18 = .ok (.iload_n 2, 1) := by decide +kernel
theorem dX9_setWord_19 : decode cX9_setWord 19 = .ok (.iload_n 3, 1) := by decide +kernel
theorem dX9_setWord_20 : decode cX9_setWord 20 = .ok (.invokevirtual 226, 3) := by decide +kernel
theorem dX9_setWord_23 : decode cX9_setWord 23 = .ok (.iload_n 3, 1) := by decide +kernel
theorem dX9_setWord_24 : decode cX9_setWord 24 = .ok (.ireturn, 1) := by decide +kernel
theorem dX9_byteOf_0 : decode cX9_byteOf 0 = .ok (.iload_n 2, 1) := by decide +kernel
theorem dX9_byteOf_1 : decode cX9_byteOf 1 = .ok (.iconst 4, 1) := by decide +kernel
theorem dX9_byteOf_2 : decode cX9_byteOf 2 = .ok (.invokestatic 227, 3) := by decide +kernel
theorem dX9_byteOf_5 : decode cX9_byteOf 5 = .ok (.istore_n 3, 1) := by decide +kernel
theorem dX9_byteOf_6 : decode cX9_byteOf 6 = .ok (.aload_n 0, 1) := by decide +kernel
theorem dX9_byteOf_7 : decode cX9_byteOf 7 = .ok (.iload_n 1, 1) := by decide +kernel
theorem dX9_byteOf_8 : decode cX9_byteOf 8 = .ok (.iload_n 3, 1) := by decide +kernel
theorem dX9_byteOf_9 : decode cX9_byteOf 9 = .ok (.iload_n 2, 1) := by decide +kernel
theorem dX9_byteOf_10 : decode cX9_byteOf 10 = .ok (.invokevirtual 220, 3) := by decide +kernel
theorem dX9_byteOf_13 : decode cX9_byteOf 13 = .ok (.astore 4, 2) := by decide +kernel
theorem dX9_byteOf_15 : decode cX9_byteOf 15 = .ok (.aload 4, 2) := by decide +kernel
theorem dX9_byteOf_17 : decode cX9_byteOf 17 = .ok (.ifnonnull 7, 3) := by decide +kernel
theorem dX9_byteOf_20 : decode cX9_byteOf 20 = .ok (.iconst 0, 1) := by decide +kernel
theorem dX9_byteOf_21 : decode cX9_byteOf 21 = .ok (.goto 25, 3) := by decide +kernel
theorem dX9_byteOf_24 : decode cX9_byteOf 24 = .ok (.aload 4, 2) := by decide +kernel
theorem dX9_byteOf_26 : decode cX9_byteOf 26 = .ok (.iload_n 3, 1) := by decide +kernel
theorem dX9_byteOf_27 : decode cX9_byteOf 27 = .ok (.invokevirtual 224, 3) := by decide +kernel
theorem dX9_byteOf_30 : decode cX9_byteOf 30 = .ok (.bipush 24, 2) := by decide +kernel
theorem dX9_byteOf_32 : decode cX9_byteOf 32 = .ok (.bipush 8, 2) := by decide +kernel
theorem dX9_byteOf_34 : decode cX9_byteOf 34 = .ok (.iload_n 2, 1) := by decide +kernel
theorem dX9_byteOf_35 : decode cX9_byteOf 35 = .ok (.iconst 4, 1) := by decide +kernel
theorem dX9_byteOf_36 : decode cX9_byteOf 36 = .ok (.invokestatic 232, 3) := by decide +kernel
theorem dX9_byteOf_39 : decode cX9_byteOf 39 = .ok (.imul, 1) := by decide +kernel
theorem dX9_byteOf_40 : decode cX9_byteOf 40 = .ok (.isub, 1) := by decide +kernel
theorem dX9_byteOf_41 : decode cX9_byteOf 41 = .ok (.iushr, 1) := by decide +kernel
theorem dX9_byteOf_42 : decode cX9_byteOf 42 = .ok (.sipush 255, 3) := by decide +kernel
theorem dX9_byteOf_45 : decode cX9_byteOf 45 = .ok (.iand, 1) := by decide +kernel
theorem dX9_byteOf_46 : decode cX9_byteOf 46 = .ok (.ireturn, 1) := by decide +kernel
theorem dX9_name_0 : decode cX9_name 0 = .ok (.aload_n 0, 1) := by decide +kernel
theorem dX9_name_1 : decode cX9_name 1 = .ok (.iload_n 1, 1) := by decide +kernel
theorem dX9_name_2 : decode cX9_name 2 = .ok (.invokevirtual 217, 3) := by decide +kernel
theorem dX9_name_5 : decode cX9_name 5 = .ok (.astore_n 3, 1) := by decide +kernel
theorem dX9_name_6 : decode cX9_name 6 = .ok (.aload_n 3, 1) := by decide +kernel
theorem dX9_name_7 : decode cX9_name 7 = .ok (.ifnonnull 24, 3) := by decide +kernel
theorem dX9_name_10 : decode cX9_name 10 = .ok (.aload_n 0, 1) := by decide +kernel
theorem dX9_name_11 : decode cX9_name 11 = .ok (.getfield 43, 3) := by decide +kernel
theorem dX9_name_14 : decode cX9_name 14 = .ok (.iload_n 1, 1) := by decide +kernel
theorem dX9_name_15 : decode cX9_name 15 = .ok (.ifCond .ne 8, 3) := by decide +kernel
theorem dX9_name_18 : decode cX9_name 18 = .ok (.ldc 235, 2) := by decide +kernel
theorem dX9_name_20 : decode cX9_name 20 = .ok (.goto 5, 3) := by decide +kernel
theorem dX9_name_23 : decode cX9_name 23 = .ok (.ldc 237, 2) := by decide +kernel
theorem dX9_name_25 : decode cX9_name 25 = .ok (.invokevirtual 239, 3) := by decide +kernel
theorem dX9_name_28 : decode cX9_name 28 = .ok (.goto 10, 3) := by decide +kernel
theorem dX9_name_31 : decode cX9_name 31 = .ok (.aload_n 0, 1) := by decide +kernel
theorem dX9_name_32 : decode cX9_name 32 = .ok (.aload_n 3, 1) := by decide +kernel
theorem dX9_name_33 : decode cX9_name 33 = .ok (.iload_n 1, 1) := by decide +kernel
theorem dX9_name_34 : decode cX9_name 34 = .ok (.iload_n 2, 1) := by decide +kernel
theorem dX9_name_35 : decode cX9_name 35 = .ok (.invokevirtual 243, 3) := by decide +kernel
theorem dX9_name_38 : decode cX9_name 38 = .ok (.aload_n 0, 1) := by decide +kernel
theorem dX9_name_39 : decode cX9_name 39 = .ok (.getfield 43, 3) := by decide +kernel
theorem dX9_name_42 : decode cX9_name 42 = .ok (.getfield 247, 3) := by decide +kernel
theorem dX9_name_45 : decode cX9_name 45 = .ok (.ireturn, 1) := by decide +kernel
theorem dX9_out_0 : decode cX9_out 0 = .ok (.aload_n 0, 1) := by decide +kernel
theorem dX9_out_1 : decode cX9_out 1 = .ok (.getfield 43, 3) := by decide +kernel
theorem dX9_out_4 : decode cX9_out 4 = .ok (.iload_n 1, 1) := by decide +kernel
theorem dX9_out_5 : decode cX9_out 5 = .ok (.invokevirtual 248, 3) := by decide +kernel
theorem dX9_out_8 : decode cX9_out 8 = .ok (.ireturn, 1) := by decide +kernel
theorem dX9_clear_0 : decode cX9_clear 0 = .ok (.aload_n 0, 1) := by decide +kernel
theorem dX9_clear_1 : decode cX9_clear 1 = .ok (.getfield 43, 3) := by decide +kernel
theorem dX9_clear_4 : decode cX9_clear 4 = .ok (.getfield 247, 3) := by decide +kernel
theorem dX9_clear_7 : decode cX9_clear 7 = .ok (.istore_n 1, 1) := by decide +kernel
theorem dX9_clear_8 : decode cX9_clear 8 = .ok (.aload_n 0, 1) := by decide +kernel
theorem dX9_clear_9 : decode cX9_clear 9 = .ok (.getfield 43, 3) := by decide +kernel
theorem dX9_clear_12 : decode cX9_clear 12 = .ok (.iconst 0, 1) := by decide +kernel
theorem dX9_clear_13 : decode cX9_clear 13 = .ok (.putfield 247, 3) := by decide +kernel
theorem dX9_clear_16 : decode cX9_clear 16 = .ok (.iload_n 1, 1) := by decide +kernel
theorem dX9_clear_17 : decode cX9_clear 17 = .ok (.ireturn, 1) := by decide +kernel
theorem dX9_fault_0 : decode cX9_fault 0 = .ok (.aload_n 0, 1) := by decide +kernel
theorem dX9_fault_1 : decode cX9_fault 1 = .ok (.getfield 57, 3) := by decide +kernel
theorem dX9_fault_4 : decode cX9_fault 4 = .ok (.iload_n 1, 1) := by decide +kernel
theorem dX9_fault_5 : decode cX9_fault 5 = .ok (.iload_n 2, 1) := by decide +kernel
theorem dX9_fault_6 : decode cX9_fault 6 = .ok (.invokevirtual 249, 3) := by decide +kernel
theorem dX9_fault_9 : decode cX9_fault 9 = .ok (.ireturn, 1) := by decide +kernel
theorem dX9_count_0 : decode cX9_count 0 = .ok (.iload_n 1, 1) := by decide +kernel
theorem dX9_count_1 : decode cX9_count 1 = .ok (.tableswitch 96 0 7 #[47, 52, 57, 62, 67, 75, 83, 88], 47) := by decide +kernel
theorem dX9_count_48 : decode cX9_count 48 = .ok (.aload_n 0, 1) := by decide +kernel
theorem dX9_count_49 : decode cX9_count 49 = .ok (.getfield 88, 3) := by decide +kernel
theorem dX9_count_52 : decode cX9_count 52 = .ok (.ireturn, 1) := by decide +kernel
theorem dX9_count_53 : decode cX9_count 53 = .ok (.aload_n 0, 1) := by decide +kernel
theorem dX9_count_54 : decode cX9_count 54 = .ok (.getfield 69, 3) := by decide +kernel
theorem dX9_count_57 : decode cX9_count 57 = .ok (.ireturn, 1) := by decide +kernel
theorem dX9_count_58 : decode cX9_count 58 = .ok (.aload_n 0, 1) := by decide +kernel
theorem dX9_count_59 : decode cX9_count 59 = .ok (.getfield 72, 3) := by decide +kernel
theorem dX9_count_62 : decode cX9_count 62 = .ok (.ireturn, 1) := by decide +kernel
theorem dX9_count_63 : decode cX9_count 63 = .ok (.aload_n 0, 1) := by decide +kernel
theorem dX9_count_64 : decode cX9_count 64 = .ok (.getfield 138, 3) := by decide +kernel
theorem dX9_count_67 : decode cX9_count 67 = .ok (.ireturn, 1) := by decide +kernel
theorem dX9_count_68 : decode cX9_count 68 = .ok (.aload_n 0, 1) := by decide +kernel
theorem dX9_count_69 : decode cX9_count 69 = .ok (.getfield 57, 3) := by decide +kernel
theorem dX9_count_72 : decode cX9_count 72 = .ok (.getfield 250, 3) := by decide +kernel
theorem dX9_count_75 : decode cX9_count 75 = .ok (.ireturn, 1) := by decide +kernel
theorem dX9_count_76 : decode cX9_count 76 = .ok (.aload_n 0, 1) := by decide +kernel
theorem dX9_count_77 : decode cX9_count 77 = .ok (.getfield 43, 3) := by decide +kernel
theorem dX9_count_80 : decode cX9_count 80 = .ok (.getfield 247, 3) := by decide +kernel
theorem dX9_count_83 : decode cX9_count 83 = .ok (.ireturn, 1) := by decide +kernel
theorem dX9_count_84 : decode cX9_count 84 = .ok (.aload_n 0, 1) := by decide +kernel
theorem dX9_count_85 : decode cX9_count 85 = .ok (.getfield 251, 3) := by decide +kernel
theorem dX9_count_88 : decode cX9_count 88 = .ok (.ireturn, 1) := by decide +kernel
theorem dX9_count_89 : decode cX9_count 89 = .ok (.aload_n 0, 1) := by decide +kernel
theorem dX9_count_90 : decode cX9_count 90 = .ok (.getfield 48, 3) := by decide +kernel
theorem dX9_count_93 : decode cX9_count 93 = .ok (.getfield 61, 3) := by decide +kernel
theorem dX9_count_96 : decode cX9_count 96 = .ok (.ireturn, 1) := by decide +kernel
theorem dX9_count_97 : decode cX9_count 97 = .ok (.iconst (-1), 1) := by decide +kernel
theorem dX9_count_98 : decode cX9_count 98 = .ok (.ireturn, 1) := by decide +kernel
theorem dX9_thingAt_0 : decode cX9_thingAt 0 = .ok (.iload_n 1, 1) := by decide +kernel
theorem dX9_thingAt_1 : decode cX9_thingAt 1 = .ok (.iconst 1, 1) := by decide +kernel
theorem dX9_thingAt_2 : decode cX9_thingAt 2 = .ok (.if_icmp .lt 28, 3) := by decide +kernel
theorem dX9_thingAt_5 : decode cX9_thingAt 5 = .ok (.iload_n 1, 1) := by decide +kernel
theorem dX9_thingAt_6 : decode cX9_thingAt 6 = .ok (.aload_n 0, 1) := by decide +kernel
theorem dX9_thingAt_7 : decode cX9_thingAt 7 = .ok (.getfield 88, 3) := by decide +kernel
theorem dX9_thingAt_10 : decode cX9_thingAt 10 = .ok (.if_icmp .gt 20, 3) := by decide +kernel
theorem dX9_thingAt_13 : decode cX9_thingAt 13 = .ok (.iload_n 1, 1) := by decide +kernel
theorem dX9_thingAt_14 : decode cX9_thingAt 14 = .ok (.bipush 40, 2) := by decide +kernel
theorem dX9_thingAt_16 : decode cX9_thingAt 16 = .ok (.if_icmp .gt 14, 3) := by decide +kernel
theorem dX9_thingAt_19 : decode cX9_thingAt 19 = .ok (.aload_n 0, 1) := by decide +kernel
theorem dX9_thingAt_20 : decode cX9_thingAt 20 = .ok (.getfield 11, 3) := by decide +kernel
theorem dX9_thingAt_23 : decode cX9_thingAt 23 = .ok (.iload_n 1, 1) := by decide +kernel
theorem dX9_thingAt_24 : decode cX9_thingAt 24 = .ok (.iconst 1, 1) := by decide +kernel
theorem dX9_thingAt_25 : decode cX9_thingAt 25 = .ok (.isub, 1) := by decide +kernel
theorem dX9_thingAt_26 : decode cX9_thingAt 26 = .ok (.aaload, 1) := by decide +kernel
theorem dX9_thingAt_27 : decode cX9_thingAt 27 = .ok (.goto 4, 3) := by decide +kernel
theorem dX9_thingAt_30 : decode cX9_thingAt 30 = .ok (.aconst_null, 1) := by decide +kernel
theorem dX9_thingAt_31 : decode cX9_thingAt 31 = .ok (.areturn, 1) := by decide +kernel
theorem dX9_textAt_0 : decode cX9_textAt 0 = .ok (.iload_n 1, 1) := by decide +kernel
theorem dX9_textAt_1 : decode cX9_textAt 1 = .ok (.bipush 101, 2) := by decide +kernel
theorem dX9_textAt_3 : decode cX9_textAt 3 = .ok (.if_icmp .lt 32, 3) := by decide +kernel
theorem dX9_textAt_6 : decode cX9_textAt 6 = .ok (.iload_n 1, 1) := by decide +kernel
theorem dX9_textAt_7 : decode cX9_textAt 7 = .ok (.bipush 101, 2) := by decide +kernel
theorem dX9_textAt_9 : decode cX9_textAt 9 = .ok (.aload_n 0, 1) := by decide +kernel
theorem dX9_textAt_10 : decode cX9_textAt 10 = .ok (.getfield 69, 3) := by decide +kernel
theorem dX9_textAt_13 : decode cX9_textAt 13 = .ok (.iadd, 1) := by decide +kernel
theorem dX9_textAt_14 : decode cX9_textAt 14 = .ok (.if_icmp .ge 21, 3) := by decide +kernel
theorem dX9_textAt_17 : decode cX9_textAt 17 = .ok (.iload_n 1, 1) := by decide +kernel
theorem dX9_textAt_18 : decode cX9_textAt 18 = .ok (.bipush 121, 2) := by decide +kernel
theorem dX9_textAt_20 : decode cX9_textAt 20 = .ok (.if_icmp .ge 15, 3) := by decide +kernel
theorem dX9_textAt_23 : decode cX9_textAt 23 = .ok (.aload_n 0, 1) := by decide +kernel
theorem dX9_textAt_24 : decode cX9_textAt 24 = .ok (.getfield 17, 3) := by decide +kernel
theorem dX9_textAt_27 : decode cX9_textAt 27 = .ok (.iload_n 1, 1) := by decide +kernel
theorem dX9_textAt_28 : decode cX9_textAt 28 = .ok (.bipush 101, 2) := by decide +kernel
theorem dX9_textAt_30 : decode cX9_textAt 30 = .ok (.isub, 1) := by decide +kernel
theorem dX9_textAt_31 : decode cX9_textAt 31 = .ok (.aaload, 1) := by decide +kernel
theorem dX9_textAt_32 : decode cX9_textAt 32 = .ok (.goto 4, 3) := by decide +kernel
theorem dX9_textAt_35 : decode cX9_textAt 35 = .ok (.aconst_null, 1) := by decide +kernel
theorem dX9_textAt_36 : decode cX9_textAt 36 = .ok (.areturn, 1) := by decide +kernel
theorem dX9_routineAt_0 : decode cX9_routineAt 0 = .ok (.iload_n 1, 1) := by decide +kernel
theorem dX9_routineAt_1 : decode cX9_routineAt 1 = .ok (.sipush 201, 3) := by decide +kernel
theorem dX9_routineAt_4 : decode cX9_routineAt 4 = .ok (.if_icmp .lt 35, 3) := by decide +kernel
theorem dX9_routineAt_7 : decode cX9_routineAt 7 = .ok (.iload_n 1, 1) := by decide +kernel
theorem dX9_routineAt_8 : decode cX9_routineAt 8 = .ok (.sipush 201, 3) := by decide +kernel
theorem dX9_routineAt_11 : decode cX9_routineAt 11 = .ok (.aload_n 0, 1) := by decide +kernel
theorem dX9_routineAt_12 : decode cX9_routineAt 12 = .ok (.getfield 72, 3) := by decide +kernel
theorem dX9_routineAt_15 : decode cX9_routineAt 15 = .ok (.iadd, 1) := by decide +kernel
theorem dX9_routineAt_16 : decode cX9_routineAt 16 = .ok (.if_icmp .ge 23, 3) := by decide +kernel
theorem dX9_routineAt_19 : decode cX9_routineAt 19 = .ok (.iload_n 1, 1) := by decide +kernel
theorem dX9_routineAt_20 : decode cX9_routineAt 20 = .ok (.sipush 221, 3) := by decide +kernel
theorem dX9_routineAt_23 : decode cX9_routineAt 23 = .ok (.if_icmp .ge 16, 3) := by decide +kernel
theorem dX9_routineAt_26 : decode cX9_routineAt 26 = .ok (.aload_n 0, 1) := by decide +kernel
theorem dX9_routineAt_27 : decode cX9_routineAt 27 = .ok (.getfield 23, 3) := by decide +kernel
theorem dX9_routineAt_30 : decode cX9_routineAt 30 = .ok (.iload_n 1, 1) := by decide +kernel
theorem dX9_routineAt_31 : decode cX9_routineAt 31 = .ok (.sipush 201, 3) := by decide +kernel
theorem dX9_routineAt_34 : decode cX9_routineAt 34 = .ok (.isub, 1) := by decide +kernel
theorem dX9_routineAt_35 : decode cX9_routineAt 35 = .ok (.aaload, 1) := by decide +kernel
theorem dX9_routineAt_36 : decode cX9_routineAt 36 = .ok (.goto 4, 3) := by decide +kernel
theorem dX9_routineAt_39 : decode cX9_routineAt 39 = .ok (.aconst_null, 1) := by decide +kernel
theorem dX9_routineAt_40 : decode cX9_routineAt 40 = .ok (.areturn, 1) := by decide +kernel
theorem dX9_arrayAt_0 : decode cX9_arrayAt 0 = .ok (.iload_n 1, 1) := by decide +kernel
theorem dX9_arrayAt_1 : decode cX9_arrayAt 1 = .ok (.sipush 301, 3) := by decide +kernel
theorem dX9_arrayAt_4 : decode cX9_arrayAt 4 = .ok (.if_icmp .lt 35, 3) := by decide +kernel
theorem dX9_arrayAt_7 : decode cX9_arrayAt 7 = .ok (.iload_n 1, 1) := by decide +kernel
theorem dX9_arrayAt_8 : decode cX9_arrayAt 8 = .ok (.sipush 301, 3) := by decide +kernel
theorem dX9_arrayAt_11 : decode cX9_arrayAt 11 = .ok (.aload_n 0, 1) := by decide +kernel
theorem dX9_arrayAt_12 : decode cX9_arrayAt 12 = .ok (.getfield 138, 3) := by decide +kernel
theorem dX9_arrayAt_15 : decode cX9_arrayAt 15 = .ok (.iadd, 1) := by decide +kernel
theorem dX9_arrayAt_16 : decode cX9_arrayAt 16 = .ok (.if_icmp .ge 23, 3) := by decide +kernel
theorem dX9_arrayAt_19 : decode cX9_arrayAt 19 = .ok (.iload_n 1, 1) := by decide +kernel
theorem dX9_arrayAt_20 : decode cX9_arrayAt 20 = .ok (.sipush 311, 3) := by decide +kernel
theorem dX9_arrayAt_23 : decode cX9_arrayAt 23 = .ok (.if_icmp .ge 16, 3) := by decide +kernel
theorem dX9_arrayAt_26 : decode cX9_arrayAt 26 = .ok (.aload_n 0, 1) := by decide +kernel
theorem dX9_arrayAt_27 : decode cX9_arrayAt 27 = .ok (.getfield 29, 3) := by decide +kernel
theorem dX9_arrayAt_30 : decode cX9_arrayAt 30 = .ok (.iload_n 1, 1) := by decide +kernel
theorem dX9_arrayAt_31 : decode cX9_arrayAt 31 = .ok (.sipush 301, 3) := by decide +kernel
theorem dX9_arrayAt_34 : decode cX9_arrayAt 34 = .ok (.isub, 1) := by decide +kernel
theorem dX9_arrayAt_35 : decode cX9_arrayAt 35 = .ok (.aaload, 1) := by decide +kernel
theorem dX9_arrayAt_36 : decode cX9_arrayAt 36 = .ok (.goto 4, 3) := by decide +kernel
theorem dX9_arrayAt_39 : decode cX9_arrayAt 39 = .ok (.aconst_null, 1) := by decide +kernel
theorem dX9_arrayAt_40 : decode cX9_arrayAt 40 = .ok (.areturn, 1) := by decide +kernel
theorem dX9_answeringThing_0 : decode cX9_answeringThing 0 = .ok (.aload_n 0, 1) := by decide +kernel
theorem dX9_answeringThing_1 : decode cX9_answeringThing 1 = .ok (.iload_n 1, 1) := by decide +kernel
theorem dX9_answeringThing_2 : decode cX9_answeringThing 2 = .ok (.invokevirtual 115, 3) := by decide +kernel
theorem dX9_answeringThing_5 : decode cX9_answeringThing 5 = .ok (.astore_n 2, 1) := by decide +kernel
theorem dX9_answeringThing_6 : decode cX9_answeringThing 6 = .ok (.aload_n 2, 1) := by decide +kernel
theorem dX9_answeringThing_7 : decode cX9_answeringThing 7 = .ok (.ifnull 21, 3) := by decide +kernel
theorem dX9_answeringThing_10 : decode cX9_answeringThing 10 = .ok (.aload_n 2, 1) := by decide +kernel
theorem dX9_answeringThing_11 : decode cX9_answeringThing 11 = .ok (.getfield 203, 3) := by decide +kernel
theorem dX9_answeringThing_14 : decode cX9_answeringThing 14 = .ok (.ifCond .ne 10, 3) := by decide +kernel
theorem dX9_answeringThing_17 : decode cX9_answeringThing 17 = .ok (.aload_n 2, 1) := by decide +kernel
theorem dX9_answeringThing_18 : decode cX9_answeringThing 18 = .ok (.getfield 111, 3) := by decide +kernel
theorem dX9_answeringThing_21 : decode cX9_answeringThing 21 = .ok (.ifCond .eq 7, 3) := by decide +kernel
theorem dX9_answeringThing_24 : decode cX9_answeringThing 24 = .ok (.aload_n 2, 1) := by decide +kernel
theorem dX9_answeringThing_25 : decode cX9_answeringThing 25 = .ok (.goto 4, 3) := by decide +kernel
theorem dX9_answeringThing_28 : decode cX9_answeringThing 28 = .ok (.aconst_null, 1) := by decide +kernel
theorem dX9_answeringThing_29 : decode cX9_answeringThing 29 = .ok (.areturn, 1) := by decide +kernel
theorem dX9_isNoneOrClass_0 : decode cX9_isNoneOrClass 0 = .ok (.iload_n 1, 1) := by decide +kernel
theorem dX9_isNoneOrClass_1 : decode cX9_isNoneOrClass 1 = .ok (.ifCond .eq 12, 3) := by decide +kernel
theorem dX9_isNoneOrClass_4 : decode cX9_isNoneOrClass 4 = .ok (.aload_n 0, 1) := by decide +kernel
theorem dX9_isNoneOrClass_5 : decode cX9_isNoneOrClass 5 = .ok (.iload_n 1, 1) := by decide +kernel
theorem dX9_isNoneOrClass_6 : decode cX9_isNoneOrClass 6 = .ok (.invokevirtual 172, 3) := by decide +kernel
theorem dX9_isNoneOrClass_9 : decode cX9_isNoneOrClass 9 = .ok (.iconst 1, 1) := by decide +kernel
theorem dX9_isNoneOrClass_10 : decode cX9_isNoneOrClass 10 = .ok (.if_icmp .ne 7, 3) := by decide +kernel
theorem dX9_isNoneOrClass_13 : decode cX9_isNoneOrClass 13 = .ok (.iconst 1, 1) := by decide +kernel
theorem dX9_isNoneOrClass_14 : decode cX9_isNoneOrClass 14 = .ok (.goto 4, 3) := by decide +kernel
theorem dX9_isNoneOrClass_17 : decode cX9_isNoneOrClass 17 = .ok (.iconst 0, 1) := by decide +kernel
theorem dX9_isNoneOrClass_18 : decode cX9_isNoneOrClass 18 = .ok (.ireturn, 1) := by decide +kernel
theorem dX9_addThing_0 : decode cX9_addThing 0 = .ok (.aload_n 0, 1) := by decide +kernel
theorem dX9_addThing_1 : decode cX9_addThing 1 = .ok (.getfield 88, 3) := by decide +kernel
theorem dX9_addThing_4 : decode cX9_addThing 4 = .ok (.ifCond .lt 32, 3) := by decide +kernel
theorem dX9_addThing_7 : decode cX9_addThing 7 = .ok (.aload_n 0, 1) := by decide +kernel
theorem dX9_addThing_8 : decode cX9_addThing 8 = .ok (.getfield 88, 3) := by decide +kernel
theorem dX9_addThing_11 : decode cX9_addThing 11 = .ok (.bipush 40, 2) := by decide +kernel
theorem dX9_addThing_13 : decode cX9_addThing 13 = .ok (.if_icmp .ge 23, 3) := by decide +kernel
theorem dX9_addThing_16 : decode cX9_addThing 16 = .ok (.aload_n 0, 1) := by decide +kernel
theorem dX9_addThing_17 : decode cX9_addThing 17 = .ok (.getfield 11, 3) := by decide +kernel
theorem dX9_addThing_20 : decode cX9_addThing 20 = .ok (.aload_n 0, 1) := by decide +kernel
theorem dX9_addThing_21 : decode cX9_addThing 21 = .ok (.getfield 88, 3) := by decide +kernel
theorem dX9_addThing_24 : decode cX9_addThing 24 = .ok (.aload_n 1, 1) := by decide +kernel
theorem dX9_addThing_25 : decode cX9_addThing 25 = .ok (.aastore, 1) := by decide +kernel
theorem dX9_addThing_26 : decode cX9_addThing 26 = .ok (.aload_n 0, 1) := by decide +kernel
theorem dX9_addThing_27 : decode cX9_addThing 27 = .ok (.dup, 1) := by decide +kernel
theorem dX9_addThing_28 : decode cX9_addThing 28 = .ok (.getfield 88, 3) := by decide +kernel
theorem dX9_addThing_31 : decode cX9_addThing 31 = .ok (.iconst 1, 1) := by decide +kernel
theorem dX9_addThing_32 : decode cX9_addThing 32 = .ok (.iadd, 1) := by decide +kernel
theorem dX9_addThing_33 : decode cX9_addThing 33 = .ok (.putfield 88, 3) := by decide +kernel
theorem dX9_addThing_36 : decode cX9_addThing 36 = .ok (.return_, 1) := by decide +kernel
theorem dX9_addLines_0 : decode cX9_addLines 0 = .ok (.aload_n 0, 1) := by decide +kernel
theorem dX9_addLines_1 : decode cX9_addLines 1 = .ok (.iload_n 2, 1) := by decide +kernel
theorem dX9_addLines_2 : decode cX9_addLines 2 = .ok (.invokevirtual 115, 3) := by decide +kernel
theorem dX9_addLines_5 : decode cX9_addLines 5 = .ok (.astore 4, 2) := by decide +kernel
theorem dX9_addLines_7 : decode cX9_addLines 7 = .ok (.aload 4, 2) := by decide +kernel
theorem dX9_addLines_9 : decode cX9_addLines 9 = .ok (.ifnull 12, 3) := by decide +kernel
theorem dX9_addLines_12 : decode cX9_addLines 12 = .ok (.aload_n 1, 1) := by decide +kernel
theorem dX9_addLines_13 : decode cX9_addLines 13 = .ok (.aload 4, 2) := by decide +kernel
theorem dX9_addLines_15 : decode cX9_addLines 15 = .ok (.getfield 210, 3) := by decide +kernel
theorem dX9_addLines_18 : decode cX9_addLines 18 = .ok (.invokevirtual 254, 3) := by decide +kernel
theorem dX9_addLines_21 : decode cX9_addLines 21 = .ok (.aload_n 0, 1) := by decide +kernel
theorem dX9_addLines_22 : decode cX9_addLines 22 = .ok (.iload_n 3, 1) := by decide +kernel
theorem dX9_addLines_23 : decode cX9_addLines 23 = .ok (.invokevirtual 115, 3) := by decide +kernel
theorem dX9_addLines_26 : decode cX9_addLines 26 = .ok (.astore 5, 2) := by decide +kernel
theorem dX9_addLines_28 : decode cX9_addLines 28 = .ok (.aload 5, 2) := by decide +kernel
theorem dX9_addLines_30 : decode cX9_addLines 30 = .ok (.ifnull 12, 3) := by decide +kernel
theorem dX9_addLines_33 : decode cX9_addLines 33 = .ok (.aload_n 1, 1) := by decide +kernel
theorem dX9_addLines_34 : decode cX9_addLines 34 = .ok (.aload 5, 2) := by decide +kernel
theorem dX9_addLines_36 : decode cX9_addLines 36 = .ok (.getfield 210, 3) := by decide +kernel
theorem dX9_addLines_39 : decode cX9_addLines 39 = .ok (.invokevirtual 254, 3) := by decide +kernel
theorem dX9_addLines_42 : decode cX9_addLines 42 = .ok (.return_, 1) := by decide +kernel
theorem dX9_takeRowsOfLine_0 : decode cX9_takeRowsOfLine 0 = .ok (.aload_n 1, 1) := by decide +kernel
theorem dX9_takeRowsOfLine_1 : decode cX9_takeRowsOfLine 1 = .ok (.getfield 124, 3) := by decide +kernel
theorem dX9_takeRowsOfLine_4 : decode cX9_takeRowsOfLine 4 = .ok (.invokevirtual 258, 3) := by decide +kernel
theorem dX9_takeRowsOfLine_7 : decode cX9_takeRowsOfLine 7 = .ok (.iconst 0, 1) := by decide +kernel
theorem dX9_takeRowsOfLine_8 : decode cX9_takeRowsOfLine 8 = .ok (.istore_n 2, 1) := by decide +kernel
theorem dX9_takeRowsOfLine_9 : decode cX9_takeRowsOfLine 9 = .ok (.iload_n 2, 1) := by decide +kernel
theorem dX9_takeRowsOfLine_10 : decode cX9_takeRowsOfLine 10 = .ok (.aload_n 1, 1) := by decide +kernel
theorem dX9_takeRowsOfLine_11 : decode cX9_takeRowsOfLine 11 = .ok (.getfield 210, 3) := by decide +kernel
theorem dX9_takeRowsOfLine_14 : decode cX9_takeRowsOfLine 14 = .ok (.getfield 261, 3) := by decide +kernel
theorem dX9_takeRowsOfLine_17 : decode cX9_takeRowsOfLine 17 = .ok (.if_icmp .ge 37, 3) := by decide +kernel
theorem dX9_takeRowsOfLine_20 : decode cX9_takeRowsOfLine 20 = .ok (.aload_n 0, 1) := by decide +kernel
theorem dX9_takeRowsOfLine_21 : decode cX9_takeRowsOfLine 21 = .ok (.aload_n 1, 1) := by decide +kernel
theorem dX9_takeRowsOfLine_22 : decode cX9_takeRowsOfLine 22 = .ok (.getfield 210, 3) := by decide +kernel
theorem dX9_takeRowsOfLine_25 : decode cX9_takeRowsOfLine 25 = .ok (.iload_n 2, 1) := by decide +kernel
theorem dX9_takeRowsOfLine_26 : decode cX9_takeRowsOfLine 26 = .ok (.invokevirtual 262, 3) := by decide +kernel
theorem dX9_takeRowsOfLine_29 : decode cX9_takeRowsOfLine 29 = .ok (.invokevirtual 115, 3) := by decide +kernel
theorem dX9_takeRowsOfLine_32 : decode cX9_takeRowsOfLine 32 = .ok (.astore_n 3, 1) := by decide +kernel
theorem dX9_takeRowsOfLine_33 : decode cX9_takeRowsOfLine 33 = .ok (.aload_n 3, 1) := by decide +kernel
theorem dX9_takeRowsOfLine_34 : decode cX9_takeRowsOfLine 34 = .ok (.ifnull 14, 3) := by decide +kernel
theorem dX9_takeRowsOfLine_37 : decode cX9_takeRowsOfLine 37 = .ok (.aload_n 1, 1) := by decide +kernel
theorem dX9_takeRowsOfLine_38 : decode cX9_takeRowsOfLine 38 = .ok (.getfield 124, 3) := by decide +kernel
theorem dX9_takeRowsOfLine_41 : decode cX9_takeRowsOfLine 41 = .ok (.aload_n 3, 1) := by decide +kernel
theorem dX9_takeRowsOfLine_42 : decode cX9_takeRowsOfLine 42 = .ok (.getfield 124, 3) := by decide +kernel
theorem dX9_takeRowsOfLine_45 : decode cX9_takeRowsOfLine 45 = .ok (.invokevirtual 263, 3) := by decide +kernel
theorem dX9_takeRowsOfLine_48 : decode cX9_takeRowsOfLine 48 = .ok (.iinc 2 1, 3) := by decide +kernel
theorem dX9_takeRowsOfLine_51 : decode cX9_takeRowsOfLine 51 = .ok (.goto (-42), 3) := by decide +kernel
theorem dX9_takeRowsOfLine_54 : decode cX9_takeRowsOfLine 54 = .ok (.return_, 1) := by decide +kernel
theorem dX9_thingWithValue_0 : decode cX9_thingWithValue 0 = .ok (.aload_n 0, 1) := by decide +kernel
theorem dX9_thingWithValue_1 : decode cX9_thingWithValue 1 = .ok (.iload_n 1, 1) := by decide +kernel
theorem dX9_thingWithValue_2 : decode cX9_thingWithValue 2 = .ok (.invokevirtual 217, 3) := by decide +kernel
theorem dX9_thingWithValue_5 : decode cX9_thingWithValue 5 = .ok (.astore 4, 2) := by decide +kernel
theorem dX9_thingWithValue_7 : decode cX9_thingWithValue 7 = .ok (.aload 4, 2) := by decide +kernel
theorem dX9_thingWithValue_9 : decode cX9_thingWithValue 9 = .ok (.ifnonnull 16, 3) := by decide +kernel
theorem dX9_thingWithValue_12 : decode cX9_thingWithValue 12 = .ok (.aload_n 0, 1) := by decide +kernel
theorem dX9_thingWithValue_13 : decode cX9_thingWithValue 13 = .ok (.getfield 57, 3) := by decide +kernel
theorem dX9_thingWithValue_16 : decode cX9_thingWithValue 16 = .ok (.iconst 1, 1) := by decide +kernel
theorem dX9_thingWithValue_17 : decode cX9_thingWithValue 17 = .ok (.iload_n 1, 1) := by decide +kernel
theorem dX9_thingWithValue_18 : decode cX9_thingWithValue 18 = .ok (.iload_n 2, 1) := by decide +kernel
theorem dX9_thingWithValue_19 : decode cX9_thingWithValue 19 = .ok (.invokevirtual 175, 3) := by decide +kernel
theorem dX9_thingWithValue_22 : decode cX9_thingWithValue 22 = .ok (.pop, 1) := by decide +kernel
theorem dX9_thingWithValue_23 : decode cX9_thingWithValue 23 = .ok (.aconst_null, 1) := by decide +kernel
theorem dX9_thingWithValue_24 : decode cX9_thingWithValue 24 = .ok (.areturn, 1) := by decide +kernel
theorem dX9_thingWithValue_25 : decode cX9_thingWithValue 25 = .ok (.aload 4, 2) := by decide +kernel
theorem dX9_thingWithValue_27 : decode cX9_thingWithValue 27 = .ok (.getfield 124, 3) := by decide +kernel
theorem dX9_thingWithValue_30 : decode cX9_thingWithValue 30 = .ok (.iload_n 2, 1) := by decide +kernel
theorem dX9_thingWithValue_31 : decode cX9_thingWithValue 31 = .ok (.invokevirtual 128, 3) := by decide +kernel
theorem dX9_thingWithValue_34 : decode cX9_thingWithValue 34 = .ok (.istore 5, 2) := by decide +kernel
theorem dX9_thingWithValue_36 : decode cX9_thingWithValue 36 = .ok (.iload_n 3, 1) := by decide +kernel
theorem dX9_thingWithValue_37 : decode cX9_thingWithValue 37 = .ok (.ifCond .lt 12, 3) := by decide +kernel
theorem dX9_thingWithValue_40 : decode cX9_thingWithValue 40 = .ok (.iload_n 3, 1) := by decide +kernel
theorem dX9_thingWithValue_41 : decode cX9_thingWithValue 41 = .ok (.iload 5, 2) := by decide +kernel
theorem dX9_thingWithValue_43 : decode cX9_thingWithValue 43 = .ok (.if_icmp .ge 6, 3) := by decide +kernel
theorem dX9_thingWithValue_46 : decode cX9_thingWithValue 46 = .ok (.aload 4, 2) := by decide +kernel
theorem dX9_thingWithValue_48 : decode cX9_thingWithValue 48 = .ok (.areturn, 1) := by decide +kernel
theorem dX9_thingWithValue_49 : decode cX9_thingWithValue 49 = .ok (.aload_n 0, 1) := by decide +kernel
theorem dX9_thingWithValue_50 : decode cX9_thingWithValue 50 = .ok (.getfield 57, 3) := by decide +kernel
theorem dX9_thingWithValue_53 : decode cX9_thingWithValue 53 = .ok (.iload 5, 2) := by decide +kernel
theorem dX9_thingWithValue_55 : decode cX9_thingWithValue 55 = .ok (.ifCond .ne 7, 3) := by decide +kernel
theorem dX9_thingWithValue_58 : decode cX9_thingWithValue 58 = .ok (.iconst 3, 1) := by decide +kernel
theorem dX9_thingWithValue_59 : decode cX9_thingWithValue 59 = .ok (.goto 4, 3) := by decide +kernel
theorem dX9_thingWithValue_62 : decode cX9_thingWithValue 62 = .ok (.iconst 5, 1) := by decide +kernel
theorem dX9_thingWithValue_63 : decode cX9_thingWithValue 63 = .ok (.iload_n 1, 1) := by decide +kernel
theorem dX9_thingWithValue_64 : decode cX9_thingWithValue 64 = .ok (.iload_n 2, 1) := by decide +kernel
theorem dX9_thingWithValue_65 : decode cX9_thingWithValue 65 = .ok (.invokevirtual 175, 3) := by decide +kernel
theorem dX9_thingWithValue_68 : decode cX9_thingWithValue 68 = .ok (.pop, 1) := by decide +kernel
theorem dX9_thingWithValue_69 : decode cX9_thingWithValue 69 = .ok (.aconst_null, 1) := by decide +kernel
theorem dX9_thingWithValue_70 : decode cX9_thingWithValue 70 = .ok (.areturn, 1) := by decide +kernel
theorem dX9_arrayWithWord_0 : decode cX9_arrayWithWord 0 = .ok (.aload_n 0, 1) := by decide +kernel
theorem dX9_arrayWithWord_1 : decode cX9_arrayWithWord 1 = .ok (.iload_n 1, 1) := by decide +kernel
theorem dX9_arrayWithWord_2 : decode cX9_arrayWithWord 2 = .ok (.invokevirtual 206, 3) := by decide +kernel
theorem dX9_arrayWithWord_5 : decode cX9_arrayWithWord 5 = .ok (.astore 4, 2) := by decide +kernel
theorem dX9_arrayWithWord_7 : decode cX9_arrayWithWord 7 = .ok (.aload 4, 2) := by decide +kernel
theorem dX9_arrayWithWord_9 : decode cX9_arrayWithWord 9 = .ok (.ifnull 15, 3) := by decide +kernel
theorem dX9_arrayWithWord_12 : decode cX9_arrayWithWord 12 = .ok (.aload 4, 2) := by decide +kernel
theorem dX9_arrayWithWord_14 : decode cX9_arrayWithWord 14 = .ok (.iload_n 2, 1) := by decide +kernel
theorem dX9_arrayWithWord_15 : decode cX9_arrayWithWord 15 = .ok (.invokevirtual 267, 3) := by decide +kernel
theorem dX9_arrayWithWord_18 : decode cX9_arrayWithWord 18 = .ok (.ifCond .eq 6, 3) := by decide +kernel
theorem dX9_arrayWithWord_21 : decode cX9_arrayWithWord 21 = .ok (.aload 4, 2) := by decide +kernel
theorem dX9_arrayWithWord_23 : decode cX9_arrayWithWord 23 = .ok (.areturn, 1) := by decide +kernel
theorem dX9_arrayWithWord_24 : decode cX9_arrayWithWord 24 = .ok (.aload_n 0, 1) := by decide +kernel
theorem dX9_arrayWithWord_25 : decode cX9_arrayWithWord 25 = .ok (.getfield 57, 3) := by decide +kernel
theorem dX9_arrayWithWord_28 : decode cX9_arrayWithWord 28 = .ok (.aload 4, 2) := by decide +kernel
theorem dX9_arrayWithWord_30 : decode cX9_arrayWithWord 30 = .ok (.ifnonnull 8, 3) := by decide +kernel
theorem dX9_arrayWithWord_33 : decode cX9_arrayWithWord 33 = .ok (.bipush 14, 2) := by decide +kernel
theorem dX9_arrayWithWord_35 : decode cX9_arrayWithWord 35 = .ok (.goto 5, 3) := by decide +kernel
theorem dX9_arrayWithWord_38 : decode cX9_arrayWithWord 38 = .ok (.bipush 12, 2) := by decide +kernel
theorem dX9_arrayWithWord_40 : decode cX9_arrayWithWord 40 = .ok (.iload_n 1, 1) := by decide +kernel
theorem dX9_arrayWithWord_41 : decode cX9_arrayWithWord 41 = .ok (.iload_n 3, 1) := by decide +kernel
theorem dX9_arrayWithWord_42 : decode cX9_arrayWithWord 42 = .ok (.invokevirtual 175, 3) := by decide +kernel
theorem dX9_arrayWithWord_45 : decode cX9_arrayWithWord 45 = .ok (.pop, 1) := by decide +kernel
theorem dX9_arrayWithWord_46 : decode cX9_arrayWithWord 46 = .ok (.aconst_null, 1) := by decide +kernel
theorem dX9_arrayWithWord_47 : decode cX9_arrayWithWord 47 = .ok (.areturn, 1) := by decide +kernel
theorem dX9_startActs_0 : decode cX9_startActs 0 = .ok (.aload_n 0, 1) := by decide +kernel
theorem dX9_startActs_1 : decode cX9_startActs 1 = .ok (.iconst 0, 1) := by decide +kernel
theorem dX9_startActs_2 : decode cX9_startActs 2 = .ok (.putfield 251, 3) := by decide +kernel
theorem dX9_startActs_5 : decode cX9_startActs 5 = .ok (.aload_n 0, 1) := by decide +kernel
theorem dX9_startActs_6 : decode cX9_startActs 6 = .ok (.iconst 0, 1) := by decide +kernel
theorem dX9_startActs_7 : decode cX9_startActs 7 = .ok (.putfield 268, 3) := by decide +kernel
theorem dX9_startActs_10 : decode cX9_startActs 10 = .ok (.return_, 1) := by decide +kernel
theorem dX9_sendTo_0 : decode cX9_sendTo 0 = .ok (.aload_n 0, 1) := by decide +kernel
theorem dX9_sendTo_1 : decode cX9_sendTo 1 = .ok (.iload_n 1, 1) := by decide +kernel
theorem dX9_sendTo_2 : decode cX9_sendTo 2 = .ok (.invokevirtual 217, 3) := by decide +kernel
theorem dX9_sendTo_5 : decode cX9_sendTo 5 = .ok (.astore 5, 2) := by decide +kernel
theorem dX9_sendTo_7 : decode cX9_sendTo 7 = .ok (.aload 5, 2) := by decide +kernel
theorem dX9_sendTo_9 : decode cX9_sendTo 9 = .ok (.ifnonnull 14, 3) := by decide +kernel
theorem dX9_sendTo_12 : decode cX9_sendTo 12 = .ok (.aload_n 0, 1) := by decide +kernel
theorem dX9_sendTo_13 : decode cX9_sendTo 13 = .ok (.getfield 57, 3) := by decide +kernel
theorem dX9_sendTo_16 : decode cX9_sendTo 16 = .ok (.iconst 1, 1) := by decide +kernel
theorem dX9_sendTo_17 : decode cX9_sendTo 17 = .ok (.iload_n 1, 1) := by decide +kernel
theorem dX9_sendTo_18 : decode cX9_sendTo 18 = .ok (.iload_n 2, 1) := by decide +kernel
theorem dX9_sendTo_19 : decode cX9_sendTo 19 = .ok (.invokevirtual 175, 3) := by decide +kernel
theorem dX9_sendTo_22 : decode cX9_sendTo 22 = .ok (.ireturn, 1) := by decide +kernel
theorem dX9_sendTo_23 : decode cX9_sendTo 23 = .ok (.aload 5, 2) := by decide +kernel
theorem dX9_sendTo_25 : decode cX9_sendTo 25 = .ok (.getfield 203, 3) := by decide +kernel
theorem dX9_sendTo_28 : decode cX9_sendTo 28 = .ok (.ifCond .eq 13, 3) := by decide +kernel
theorem dX9_sendTo_31 : decode cX9_sendTo 31 = .ok (.aload_n 0, 1) := by decide +kernel
theorem dX9_sendTo_32 : decode cX9_sendTo 32 = .ok (.iload_n 1, 1) := by decide +kernel
theorem dX9_sendTo_33 : decode cX9_sendTo 33 = .ok (.iload_n 2, 1) := by decide +kernel
theorem dX9_sendTo_34 : decode cX9_sendTo 34 = .ok (.iload_n 3, 1) := by decide +kernel
theorem dX9_sendTo_35 : decode cX9_sendTo 35 = .ok (.iload 4, 2) := by decide +kernel
theorem dX9_sendTo_37 : decode cX9_sendTo 37 = .ok (.invokevirtual 271, 3) := by decide +kernel
theorem dX9_sendTo_40 : decode cX9_sendTo 40 = .ok (.ireturn, 1) := by decide +kernel
theorem dX9_sendTo_41 : decode cX9_sendTo 41 = .ok (.aload_n 0, 1) := by decide +kernel
theorem dX9_sendTo_42 : decode cX9_sendTo 42 = .ok (.aload 5, 2) := by decide +kernel
theorem dX9_sendTo_44 : decode cX9_sendTo 44 = .ok (.getfield 124, 3) := by decide +kernel
theorem dX9_sendTo_47 : decode cX9_sendTo 47 = .ok (.iload_n 1, 1) := by decide +kernel
theorem dX9_sendTo_48 : decode cX9_sendTo 48 = .ok (.iload_n 2, 1) := by decide +kernel
theorem dX9_sendTo_49 : decode cX9_sendTo 49 = .ok (.iload_n 3, 1) := by decide +kernel
theorem dX9_sendTo_50 : decode cX9_sendTo 50 = .ok (.iload 4, 2) := by decide +kernel
theorem dX9_sendTo_52 : decode cX9_sendTo 52 = .ok (.invokevirtual 274, 3) := by decide +kernel
theorem dX9_sendTo_55 : decode cX9_sendTo 55 = .ok (.ireturn, 1) := by decide +kernel
theorem dX9_sendToClass_0 : decode cX9_sendToClass 0 = .ok (.iload_n 2, 1) := by decide +kernel
theorem dX9_sendToClass_1 : decode cX9_sendToClass 1 = .ok (.tableswitch 64 12 15 #[31, 40, 49, 55], 31) := by decide +kernel
theorem dX9_sendToClass_32 : decode cX9_sendToClass 32 = .ok (.aload_n 0, 1) := by decide +kernel
theorem dX9_sendToClass_33 : decode cX9_sendToClass 33 = .ok (.iload_n 1, 1) := by decide +kernel
theorem dX9_sendToClass_34 : decode cX9_sendToClass 34 = .ok (.iload_n 3, 1) := by decide +kernel
theorem dX9_sendToClass_35 : decode cX9_sendToClass 35 = .ok (.iload 4, 2) := by decide +kernel
theorem dX9_sendToClass_37 : decode cX9_sendToClass 37 = .ok (.invokevirtual 278, 3) := by decide +kernel
theorem dX9_sendToClass_40 : decode cX9_sendToClass 40 = .ok (.ireturn, 1) := by decide +kernel
theorem dX9_sendToClass_41 : decode cX9_sendToClass 41 = .ok (.aload_n 0, 1) := by decide +kernel
theorem dX9_sendToClass_42 : decode cX9_sendToClass 42 = .ok (.iload_n 1, 1) := by decide +kernel
theorem dX9_sendToClass_43 : decode cX9_sendToClass 43 = .ok (.iload_n 3, 1) := by decide +kernel
theorem dX9_sendToClass_44 : decode cX9_sendToClass 44 = .ok (.iload 4, 2) := by decide +kernel
theorem dX9_sendToClass_46 : decode cX9_sendToClass 46 = .ok (.invokevirtual 281, 3) := by decide +kernel
theorem dX9_sendToClass_49 : decode cX9_sendToClass 49 = .ok (.ireturn, 1) := by decide +kernel
theorem dX9_sendToClass_50 : decode cX9_sendToClass 50 = .ok (.aload_n 0, 1) := by decide +kernel
theorem dX9_sendToClass_51 : decode cX9_sendToClass 51 = .ok (.iload_n 1, 1) := by decide +kernel
theorem dX9_sendToClass_52 : decode cX9_sendToClass 52 = .ok (.invokevirtual 284, 3) := by decide +kernel
theorem dX9_sendToClass_55 : decode cX9_sendToClass 55 = .ok (.ireturn, 1) := by decide +kernel
theorem dX9_sendToClass_56 : decode cX9_sendToClass 56 = .ok (.aload_n 0, 1) := by decide +kernel
theorem dX9_sendToClass_57 : decode cX9_sendToClass 57 = .ok (.iload_n 1, 1) := by decide +kernel
theorem dX9_sendToClass_58 : decode cX9_sendToClass 58 = .ok (.iload_n 3, 1) := by decide +kernel
theorem dX9_sendToClass_59 : decode cX9_sendToClass 59 = .ok (.iload 4, 2) := by decide +kernel
theorem dX9_sendToClass_61 : decode cX9_sendToClass 61 = .ok (.invokevirtual 287, 3) := by decide +kernel
theorem dX9_sendToClass_64 : decode cX9_sendToClass 64 = .ok (.ireturn, 1) := by decide +kernel
theorem dX9_sendToClass_65 : decode cX9_sendToClass 65 = .ok (.aload_n 0, 1) := by decide +kernel
theorem dX9_sendToClass_66 : decode cX9_sendToClass 66 = .ok (.getfield 57, 3) := by decide +kernel
theorem dX9_sendToClass_69 : decode cX9_sendToClass 69 = .ok (.iconst 2, 1) := by decide +kernel
theorem dX9_sendToClass_70 : decode cX9_sendToClass 70 = .ok (.iload_n 1, 1) := by decide +kernel
theorem dX9_sendToClass_71 : decode cX9_sendToClass 71 = .ok (.iload_n 2, 1) := by decide +kernel
theorem dX9_sendToClass_72 : decode cX9_sendToClass 72 = .ok (.invokevirtual 175, 3) := by decide +kernel
theorem dX9_sendToClass_75 : decode cX9_sendToClass 75 = .ok (.ireturn, 1) := by decide +kernel
theorem dX9_sendToAs_0 : decode cX9_sendToAs 0 = .ok (.aload_n 0, 1) := by decide +kernel
theorem dX9_sendToAs_1 : decode cX9_sendToAs 1 = .ok (.iload_n 2, 1) := by decide +kernel
theorem dX9_sendToAs_2 : decode cX9_sendToAs 2 = .ok (.invokevirtual 172, 3) := by decide +kernel
theorem dX9_sendToAs_5 : decode cX9_sendToAs 5 = .ok (.iconst 2, 1) := by decide +kernel
theorem dX9_sendToAs_6 : decode cX9_sendToAs 6 = .ok (.if_icmp .eq 14, 3) := by decide +kernel
theorem dX9_sendToAs_9 : decode cX9_sendToAs 9 = .ok (.aload_n 0, 1) := by decide +kernel
theorem dX9_sendToAs_10 : decode cX9_sendToAs 10 = .ok (.getfield 57, 3) := by decide +kernel
theorem dX9_sendToAs_13 : decode cX9_sendToAs 13 = .ok (.iconst 1, 1) := by decide +kernel
theorem dX9_sendToAs_14 : decode cX9_sendToAs 14 = .ok (.iload_n 2, 1) := by decide +kernel
theorem dX9_sendToAs_15 : decode cX9_sendToAs 15 = .ok (.iload_n 3, 1) := by decide +kernel
theorem dX9_sendToAs_16 : decode cX9_sendToAs 16 = .ok (.invokevirtual 175, 3) := by decide +kernel
theorem dX9_sendToAs_19 : decode cX9_sendToAs 19 = .ok (.ireturn, 1) := by decide +kernel
theorem dX9_sendToAs_20 : decode cX9_sendToAs 20 = .ok (.aload_n 0, 1) := by decide +kernel
theorem dX9_sendToAs_21 : decode cX9_sendToAs 21 = .ok (.iload_n 1, 1) := by decide +kernel
theorem dX9_sendToAs_22 : decode cX9_sendToAs 22 = .ok (.invokevirtual 115, 3) := by decide +kernel
theorem dX9_sendToAs_25 : decode cX9_sendToAs 25 = .ok (.astore 6, 2) := by decide +kernel
theorem dX9_sendToAs_27 : decode cX9_sendToAs 27 = .ok (.aload 6, 2) := by decide +kernel
theorem dX9_sendToAs_29 : decode cX9_sendToAs 29 = .ok (.ifnull 12, 3) := by decide +kernel
theorem dX9_sendToAs_32 : decode cX9_sendToAs 32 = .ok (.aload_n 0, 1) := by decide +kernel
theorem dX9_sendToAs_33 : decode cX9_sendToAs 33 = .ok (.iload_n 2, 1) := by decide +kernel
theorem dX9_sendToAs_34 : decode cX9_sendToAs 34 = .ok (.iload_n 1, 1) := by decide +kernel
theorem dX9_sendToAs_35 : decode cX9_sendToAs 35 = .ok (.invokevirtual 290, 3) := by decide +kernel
theorem dX9_sendToAs_38 : decode cX9_sendToAs 38 = .ok (.ifCond .ne 14, 3) := by decide +kernel
theorem dX9_sendToAs_41 : decode cX9_sendToAs 41 = .ok (.aload_n 0, 1) := by decide +kernel
theorem dX9_sendToAs_42 : decode cX9_sendToAs 42 = .ok (.getfield 57, 3) := by decide +kernel
theorem dX9_sendToAs_45 : decode cX9_sendToAs 45 = .ok (.iconst 4, 1) := by decide +kernel
theorem dX9_sendToAs_46 : decode cX9_sendToAs 46 = .ok (.iload_n 2, 1) := by decide +kernel
theorem dX9_sendToAs_47 : decode cX9_sendToAs 47 = .ok (.iload_n 3, 1) := by decide +kernel
theorem dX9_sendToAs_48 : decode cX9_sendToAs 48 = .ok (.invokevirtual 175, 3) := by decide +kernel
theorem dX9_sendToAs_51 : decode cX9_sendToAs 51 = .ok (.ireturn, 1) := by decide +kernel
theorem dX9_sendToAs_52 : decode cX9_sendToAs 52 = .ok (.aload_n 0, 1) := by decide +kernel
theorem dX9_sendToAs_53 : decode cX9_sendToAs 53 = .ok (.aload 6, 2) := by decide +kernel
theorem dX9_sendToAs_55 : decode cX9_sendToAs 55 = .ok (.getfield 124, 3) := by decide +kernel
theorem dX9_sendToAs_58 : decode cX9_sendToAs 58 = .ok (.iload_n 2, 1) := by decide +kernel
theorem dX9_sendToAs_59 : decode cX9_sendToAs 59 = .ok (.iload_n 3, 1) := by decide +kernel
theorem dX9_sendToAs_60 : decode cX9_sendToAs 60 = .ok (.iload 4, 2) := by decide +kernel
theorem dX9_sendToAs_62 : decode cX9_sendToAs 62 = .ok (.iload 5, 2) := by decide +kernel
theorem dX9_sendToAs_64 : decode cX9_sendToAs 64 = .ok (.invokevirtual 274, 3) := by decide +kernel
theorem dX9_sendToAs_67 : decode cX9_sendToAs 67 = .ok (.ireturn, 1) := by decide +kernel
theorem dX9_answerOfRow_0 : decode cX9_answerOfRow 0 = .ok (.aload_n 1, 1) := by decide +kernel
theorem dX9_answerOfRow_1 : decode cX9_answerOfRow 1 = .ok (.iload_n 3, 1) := by decide +kernel
theorem dX9_answerOfRow_2 : decode cX9_answerOfRow 2 = .ok (.invokevirtual 128, 3) := by decide +kernel
theorem dX9_answerOfRow_5 : decode cX9_answerOfRow 5 = .ok (.ifCond .ne 14, 3) := by decide +kernel
theorem dX9_answerOfRow_8 : decode cX9_answerOfRow 8 = .ok (.aload_n 0, 1) := by decide +kernel
theorem dX9_answerOfRow_9 : decode cX9_answerOfRow 9 = .ok (.getfield 57, 3) := by decide +kernel
theorem dX9_answerOfRow_12 : decode cX9_answerOfRow 12 = .ok (.iconst 3, 1) := by decide +kernel
theorem dX9_answerOfRow_13 : decode cX9_answerOfRow 13 = .ok (.iload_n 2, 1) := by decide +kernel
theorem dX9_answerOfRow_14 : decode cX9_answerOfRow 14 = .ok (.iload_n 3, 1) := by decide +kernel
theorem dX9_answerOfRow_15 : decode cX9_answerOfRow 15 = .ok (.invokevirtual 175, 3) := by decide +kernel
theorem dX9_answerOfRow_18 : decode cX9_answerOfRow 18 = .ok (.ireturn, 1) := by decide +kernel
theorem dX9_answerOfRow_19 : decode cX9_answerOfRow 19 = .ok (.aload_n 1, 1) := by decide +kernel
theorem dX9_answerOfRow_20 : decode cX9_answerOfRow 20 = .ok (.iload_n 3, 1) := by decide +kernel
theorem dX9_answerOfRow_21 : decode cX9_answerOfRow 21 = .ok (.iconst 0, 1) := by decide +kernel
theorem dX9_answerOfRow_22 : decode cX9_answerOfRow 22 = .ok (.invokevirtual 168, 3) := by decide +kernel
theorem dX9_answerOfRow_25 : decode cX9_answerOfRow 25 = .ok (.istore 6, 2) := by decide +kernel
theorem dX9_answerOfRow_27 : decode cX9_answerOfRow 27 = .ok (.aload_n 0, 1) := by decide +kernel
theorem dX9_answerOfRow_28 : decode cX9_answerOfRow 28 = .ok (.iload 6, 2) := by decide +kernel
theorem dX9_answerOfRow_30 : decode cX9_answerOfRow 30 = .ok (.invokevirtual 143, 3) := by decide +kernel
theorem dX9_answerOfRow_33 : decode cX9_answerOfRow 33 = .ok (.astore 7, 2) := by decide +kernel
theorem dX9_answerOfRow_35 : decode cX9_answerOfRow 35 = .ok (.aload 7, 2) := by decide +kernel
theorem dX9_answerOfRow_37 : decode cX9_answerOfRow 37 = .ok (.ifnull 14, 3) := by decide +kernel
theorem dX9_answerOfRow_40 : decode cX9_answerOfRow 40 = .ok (.aload_n 0, 1) := by decide +kernel
theorem dX9_answerOfRow_41 : decode cX9_answerOfRow 41 = .ok (.getfield 43, 3) := by decide +kernel
theorem dX9_answerOfRow_44 : decode cX9_answerOfRow 44 = .ok (.aload 7, 2) := by decide +kernel
theorem dX9_answerOfRow_46 : decode cX9_answerOfRow 46 = .ok (.invokevirtual 293, 3) := by decide +kernel
theorem dX9_answerOfRow_49 : decode cX9_answerOfRow 49 = .ok (.iconst 1, 1) := by decide +kernel
theorem dX9_answerOfRow_50 : decode cX9_answerOfRow 50 = .ok (.ireturn, 1) := by decide +kernel
theorem dX9_answerOfRow_51 : decode cX9_answerOfRow 51 = .ok (.aload_n 0, 1) := by decide +kernel
theorem dX9_answerOfRow_52 : decode cX9_answerOfRow 52 = .ok (.iload 6, 2) := by decide +kernel
theorem dX9_answerOfRow_54 : decode cX9_answerOfRow 54 = .ok (.invokevirtual 76, 3) := by decide +kernel
theorem dX9_answerOfRow_57 : decode cX9_answerOfRow 57 = .ok (.ifnull 17, 3) := by decide +kernel
theorem dX9_answerOfRow_60 : decode cX9_answerOfRow 60 = .ok (.aload_n 0, 1) := by decide +kernel
theorem dX9_answerOfRow_61 : decode cX9_answerOfRow 61 = .ok (.iload 6, 2) := by decide +kernel
theorem dX9_answerOfRow_63 : decode cX9_answerOfRow 63 = .ok (.iload_n 2, 1) := by decide +kernel
theorem dX9_answerOfRow_64 : decode cX9_answerOfRow 64 = .ok (.iload 4, 2) := by decide +kernel
theorem dX9_answerOfRow_66 : decode cX9_answerOfRow 66 = .ok (.iload 5, 2) := by decide +kernel
theorem dX9_answerOfRow_68 : decode cX9_answerOfRow 68 = .ok (.invokevirtual 200, 3) := by decide +kernel
theorem dX9_answerOfRow_71 : decode cX9_answerOfRow 71 = .ok (.goto 5, 3) := by decide +kernel
theorem dX9_answerOfRow_74 : decode cX9_answerOfRow 74 = .ok (.iload 6, 2) := by decide +kernel
theorem dX9_answerOfRow_76 : decode cX9_answerOfRow 76 = .ok (.ireturn, 1) := by decide +kernel
theorem dX9_freeOnes_0 : decode cX9_freeOnes 0 = .ok (.aload_n 0, 1) := by decide +kernel
theorem dX9_freeOnes_1 : decode cX9_freeOnes 1 = .ok (.iload_n 1, 1) := by decide +kernel
theorem dX9_freeOnes_2 : decode cX9_freeOnes 2 = .ok (.invokevirtual 115, 3) := by decide +kernel
theorem dX9_freeOnes_5 : decode cX9_freeOnes 5 = .ok (.astore_n 2, 1) := by decide +kernel
theorem dX9_freeOnes_6 : decode cX9_freeOnes 6 = .ok (.iconst 0, 1) := by decide +kernel
theorem dX9_freeOnes_7 : decode cX9_freeOnes 7 = .ok (.istore_n 3, 1) := by decide +kernel
theorem dX9_freeOnes_8 : decode cX9_freeOnes 8 = .ok (.iconst 1, 1) := by decide +kernel
theorem dX9_freeOnes_9 : decode cX9_freeOnes 9 = .ok (.istore 4, 2) := by decide +kernel
theorem dX9_freeOnes_11 : decode cX9_freeOnes 11 = .ok (.aload_n 2, 1) := by decide +kernel
theorem dX9_freeOnes_12 : decode cX9_freeOnes 12 = .ok (.ifnull 38, 3) := by decide +kernel
theorem dX9_freeOnes_15 : decode cX9_freeOnes 15 = .ok (.iload 4, 2) := by decide +kernel
theorem dX9_freeOnes_17 : decode cX9_freeOnes 17 = .ok (.aload_n 2, 1) := by decide +kernel
theorem dX9_freeOnes_18 : decode cX9_freeOnes 18 = .ok (.getfield 296, 3) := by decide +kernel
theorem dX9_freeOnes_21 : decode cX9_freeOnes 21 = .ok (.if_icmp .gt 29, 3) := by decide +kernel
theorem dX9_freeOnes_24 : decode cX9_freeOnes 24 = .ok (.iload_n 3, 1) := by decide +kernel
theorem dX9_freeOnes_25 : decode cX9_freeOnes 25 = .ok (.aload_n 0, 1) := by decide +kernel
theorem dX9_freeOnes_26 : decode cX9_freeOnes 26 = .ok (.iload_n 1, 1) := by decide +kernel
theorem dX9_freeOnes_27 : decode cX9_freeOnes 27 = .ok (.iload 4, 2) := by decide +kernel
theorem dX9_freeOnes_29 : decode cX9_freeOnes 29 = .ok (.iadd, 1) := by decide +kernel
theorem dX9_freeOnes_30 : decode cX9_freeOnes 30 = .ok (.invokevirtual 172, 3) := by decide +kernel
theorem dX9_freeOnes_33 : decode cX9_freeOnes 33 = .ok (.iconst 2, 1) := by decide +kernel
theorem dX9_freeOnes_34 : decode cX9_freeOnes 34 = .ok (.if_icmp .ne 7, 3) := by decide +kernel
theorem dX9_freeOnes_37 : decode cX9_freeOnes 37 = .ok (.iconst 0, 1) := by decide +kernel
theorem dX9_freeOnes_38 : decode cX9_freeOnes 38 = .ok (.goto 4, 3) := by decide +kernel
theorem dX9_freeOnes_41 : decode cX9_freeOnes 41 = .ok (.iconst 1, 1) := by decide +kernel
theorem dX9_freeOnes_42 : decode cX9_freeOnes 42 = .ok (.iadd, 1) := by decide +kernel
theorem dX9_freeOnes_43 : decode cX9_freeOnes 43 = .ok (.istore_n 3, 1) := by decide +kernel
theorem dX9_freeOnes_44 : decode cX9_freeOnes 44 = .ok (.iinc 4 1, 3) := by decide +kernel
theorem dX9_freeOnes_47 : decode cX9_freeOnes 47 = .ok (.goto (-36), 3) := by decide +kernel
theorem dX9_freeOnes_50 : decode cX9_freeOnes 50 = .ok (.iload_n 3, 1) := by decide +kernel
theorem dX9_freeOnes_51 : decode cX9_freeOnes 51 = .ok (.ireturn, 1) := by decide +kernel
theorem dX9_leastFree_0 : decode cX9_leastFree 0 = .ok (.aload_n 0, 1) := by decide +kernel
theorem dX9_leastFree_1 : decode cX9_leastFree 1 = .ok (.iload_n 1, 1) := by decide +kernel
theorem dX9_leastFree_2 : decode cX9_leastFree 2 = .ok (.invokevirtual 115, 3) := by decide +kernel
theorem dX9_leastFree_5 : decode cX9_leastFree 5 = .ok (.astore_n 2, 1) := by decide +kernel
theorem dX9_leastFree_6 : decode cX9_leastFree 6 = .ok (.iconst 1, 1) := by decide +kernel
theorem dX9_leastFree_7 : decode cX9_leastFree 7 = .ok (.istore_n 3, 1) := by decide +kernel
theorem dX9_leastFree_8 : decode cX9_leastFree 8 = .ok (.aload_n 2, 1) := by decide +kernel
theorem dX9_leastFree_9 : decode cX9_leastFree 9 = .ok (.ifnull 32, 3) := by decide +kernel
theorem dX9_leastFree_12 : decode cX9_leastFree 12 = .ok (.iload_n 3, 1) := by decide +kernel
theorem dX9_leastFree_13 : decode cX9_leastFree 13 = .ok (.aload_n 2, 1) := by decide +kernel
theorem dX9_leastFree_14 : decode cX9_leastFree 14 = .ok (.getfield 296, 3) := by decide +kernel
theorem dX9_leastFree_17 : decode cX9_leastFree 17 = .ok (.if_icmp .gt 24, 3) := by decide +kernel
theorem dX9_leastFree_20 : decode cX9_leastFree 20 = .ok (.aload_n 0, 1) := by decide +kernel
theorem dX9_leastFree_21 : decode cX9_leastFree 21 = .ok (.iload_n 1, 1) := by decide +kernel
theorem dX9_leastFree_22 : decode cX9_leastFree 22 = .ok (.iload_n 3, 1) := by decide +kernel
theorem dX9_leastFree_23 : decode cX9_leastFree 23 = .ok (.iadd, 1) := by decide +kernel
theorem dX9_leastFree_24 : decode cX9_leastFree 24 = .ok (.invokevirtual 172, 3) := by decide +kernel
theorem dX9_leastFree_27 : decode cX9_leastFree 27 = .ok (.iconst 2, 1) := by decide +kernel
theorem dX9_leastFree_28 : decode cX9_leastFree 28 = .ok (.if_icmp .eq 7, 3) := by decide +kernel
theorem dX9_leastFree_31 : decode cX9_leastFree 31 = .ok (.iload_n 1, 1) := by decide +kernel
theorem dX9_leastFree_32 : decode cX9_leastFree 32 = .ok (.iload_n 3, 1) := by decide +kernel
theorem dX9_leastFree_33 : decode cX9_leastFree 33 = .ok (.iadd, 1) := by decide +kernel
theorem dX9_leastFree_34 : decode cX9_leastFree 34 = .ok (.ireturn, 1) := by decide +kernel
theorem dX9_leastFree_35 : decode cX9_leastFree 35 = .ok (.iinc 3 1, 3) := by decide +kernel
theorem dX9_leastFree_38 : decode cX9_leastFree 38 = .ok (.goto (-30), 3) := by decide +kernel
theorem dX9_leastFree_41 : decode cX9_leastFree 41 = .ok (.iconst 0, 1) := by decide +kernel
theorem dX9_leastFree_42 : decode cX9_leastFree 42 = .ok (.ireturn, 1) := by decide +kernel
theorem dX9_thereInPool_0 : decode cX9_thereInPool 0 = .ok (.aload_n 0, 1) := by decide +kernel
theorem dX9_thereInPool_1 : decode cX9_thereInPool 1 = .ok (.iload_n 1, 1) := by decide +kernel
theorem dX9_thereInPool_2 : decode cX9_thereInPool 2 = .ok (.invokevirtual 115, 3) := by decide +kernel
theorem dX9_thereInPool_5 : decode cX9_thereInPool 5 = .ok (.astore_n 3, 1) := by decide +kernel
theorem dX9_thereInPool_6 : decode cX9_thereInPool 6 = .ok (.aload_n 0, 1) := by decide +kernel
theorem dX9_thereInPool_7 : decode cX9_thereInPool 7 = .ok (.iload_n 2, 1) := by decide +kernel
theorem dX9_thereInPool_8 : decode cX9_thereInPool 8 = .ok (.invokevirtual 115, 3) := by decide +kernel
theorem dX9_thereInPool_11 : decode cX9_thereInPool 11 = .ok (.astore 4, 2) := by decide +kernel
theorem dX9_thereInPool_13 : decode cX9_thereInPool 13 = .ok (.aload_n 3, 1) := by decide +kernel
theorem dX9_thereInPool_14 : decode cX9_thereInPool 14 = .ok (.ifnull 34, 3) := by decide +kernel
theorem dX9_thereInPool_17 : decode cX9_thereInPool 17 = .ok (.aload 4, 2) := by decide +kernel
theorem dX9_thereInPool_19 : decode cX9_thereInPool 19 = .ok (.ifnull 29, 3) := by decide +kernel
theorem dX9_thereInPool_22 : decode cX9_thereInPool 22 = .ok (.aload 4, 2) := by decide +kernel
theorem dX9_thereInPool_24 : decode cX9_thereInPool 24 = .ok (.getfield 111, 3) := by decide +kernel
theorem dX9_thereInPool_27 : decode cX9_thereInPool 27 = .ok (.ifCond .eq 21, 3) := by decide +kernel
theorem dX9_thereInPool_30 : decode cX9_thereInPool 30 = .ok (.iload_n 2, 1) := by decide +kernel
theorem dX9_thereInPool_31 : decode cX9_thereInPool 31 = .ok (.iload_n 1, 1) := by decide +kernel
theorem dX9_thereInPool_32 : decode cX9_thereInPool 32 = .ok (.if_icmp .le 16, 3) := by decide +kernel
theorem dX9_thereInPool_35 : decode cX9_thereInPool 35 = .ok (.iload_n 2, 1) := by decide +kernel
theorem dX9_thereInPool_36 : decode cX9_thereInPool 36 = .ok (.iload_n 1, 1) := by decide +kernel
theorem dX9_thereInPool_37 : decode cX9_thereInPool 37 = .ok (.aload_n 3, 1) := by decide +kernel
theorem dX9_thereInPool_38 : decode cX9_thereInPool 38 = .ok (.getfield 296, 3) := by decide +kernel
theorem dX9_thereInPool_41 : decode cX9_thereInPool 41 = .ok (.iadd, 1) := by decide +kernel
theorem dX9_thereInPool_42 : decode cX9_thereInPool 42 = .ok (.if_icmp .gt 6, 3) := by decide +kernel
theorem dX9_thereInPool_45 : decode cX9_thereInPool 45 = .ok (.aload 4, 2) := by decide +kernel
theorem dX9_thereInPool_47 : decode cX9_thereInPool 47 = .ok (.areturn, 1) := by decide +kernel
theorem dX9_thereInPool_48 : decode cX9_thereInPool 48 = .ok (.aload_n 0, 1) := by decide +kernel
theorem dX9_thereInPool_49 : decode cX9_thereInPool 49 = .ok (.getfield 57, 3) := by decide +kernel
theorem dX9_thereInPool_52 : decode cX9_thereInPool 52 = .ok (.bipush 8, 2) := by decide +kernel
theorem dX9_thereInPool_54 : decode cX9_thereInPool 54 = .ok (.iload_n 1, 1) := by decide +kernel
theorem dX9_thereInPool_55 : decode cX9_thereInPool 55 = .ok (.iload_n 2, 1) := by decide +kernel
theorem dX9_thereInPool_56 : decode cX9_thereInPool 56 = .ok (.invokevirtual 175, 3) := by decide +kernel
theorem dX9_thereInPool_59 : decode cX9_thereInPool 59 = .ok (.pop, 1) := by decide +kernel
theorem dX9_thereInPool_60 : decode cX9_thereInPool 60 = .ok (.aconst_null, 1) := by decide +kernel
theorem dX9_thereInPool_61 : decode cX9_thereInPool 61 = .ok (.areturn, 1) := by decide +kernel
theorem dX9_createOne_0 : decode cX9_createOne 0 = .ok (.aload_n 0, 1) := by decide +kernel
theorem dX9_createOne_1 : decode cX9_createOne 1 = .ok (.iload_n 1, 1) := by decide +kernel
theorem dX9_createOne_2 : decode cX9_createOne 2 = .ok (.invokevirtual 299, 3) := by decide +kernel
theorem dX9_createOne_5 : decode cX9_createOne 5 = .ok (.istore 4, 2) := by decide +kernel
theorem dX9_createOne_7 : decode cX9_createOne 7 = .ok (.aload_n 0, 1) := by decide +kernel
theorem dX9_createOne_8 : decode cX9_createOne 8 = .ok (.iload 4, 2) := by decide +kernel
theorem dX9_createOne_10 : decode cX9_createOne 10 = .ok (.invokevirtual 115, 3) := by decide +kernel
theorem dX9_createOne_13 : decode cX9_createOne 13 = .ok (.astore 5, 2) := by decide +kernel
theorem dX9_createOne_15 : decode cX9_createOne 15 = .ok (.aload 5, 2) := by decide +kernel
theorem dX9_createOne_17 : decode cX9_createOne 17 = .ok (.ifnonnull 5, 3) := by decide +kernel
theorem dX9_createOne_20 : decode cX9_createOne 20 = .ok (.iconst 0, 1) := by decide +kernel
theorem dX9_createOne_21 : decode cX9_createOne 21 = .ok (.ireturn, 1) := by decide +kernel
theorem dX9_createOne_22 : decode cX9_createOne 22 = .ok (.aload 5, 2) := by decide +kernel
theorem dX9_createOne_24 : decode cX9_createOne 24 = .ok (.iconst 1, 1) := by decide +kernel
theorem dX9_createOne_25 : decode cX9_createOne 25 = .ok (.putfield 111, 3) := by decide +kernel
theorem dX9_createOne_28 : decode cX9_createOne 28 = .ok (.aload_n 0, 1) := by decide +kernel
theorem dX9_createOne_29 : decode cX9_createOne 29 = .ok (.aload 5, 2) := by decide +kernel
theorem dX9_createOne_31 : decode cX9_createOne 31 = .ok (.invokevirtual 108, 3) := by decide +kernel
theorem dX9_createOne_34 : decode cX9_createOne 34 = .ok (.aload_n 0, 1) := by decide +kernel
theorem dX9_createOne_35 : decode cX9_createOne 35 = .ok (.aload 5, 2) := by decide +kernel
theorem dX9_createOne_37 : decode cX9_createOne 37 = .ok (.iload 4, 2) := by decide +kernel
theorem dX9_createOne_39 : decode cX9_createOne 39 = .ok (.iconst 1, 1) := by decide +kernel
theorem dX9_createOne_40 : decode cX9_createOne 40 = .ok (.iload_n 2, 1) := by decide +kernel
theorem dX9_createOne_41 : decode cX9_createOne 41 = .ok (.iload_n 3, 1) := by decide +kernel
theorem dX9_createOne_42 : decode cX9_createOne 42 = .ok (.invokevirtual 302, 3) := by decide +kernel
theorem dX9_createOne_45 : decode cX9_createOne 45 = .ok (.iload 4, 2) := by decide +kernel
theorem dX9_createOne_47 : decode cX9_createOne 47 = .ok (.ireturn, 1) := by decide +kernel
theorem dX9_destroyOne_0 : decode cX9_destroyOne 0 = .ok (.aload_n 0, 1) := by decide +kernel
theorem dX9_destroyOne_1 : decode cX9_destroyOne 1 = .ok (.iload_n 1, 1) := by decide +kernel
theorem dX9_destroyOne_2 : decode cX9_destroyOne 2 = .ok (.iload_n 2, 1) := by decide +kernel
theorem dX9_destroyOne_3 : decode cX9_destroyOne 3 = .ok (.invokevirtual 306, 3) := by decide +kernel
theorem dX9_destroyOne_6 : decode cX9_destroyOne 6 = .ok (.astore 4, 2) := by decide +kernel
theorem dX9_destroyOne_8 : decode cX9_destroyOne 8 = .ok (.aload 4, 2) := by decide +kernel
theorem dX9_destroyOne_10 : decode cX9_destroyOne 10 = .ok (.ifnonnull 5, 3) := by decide +kernel
theorem dX9_destroyOne_13 : decode cX9_destroyOne 13 = .ok (.iconst 0, 1) := by decide +kernel
theorem dX9_destroyOne_14 : decode cX9_destroyOne 14 = .ok (.ireturn, 1) := by decide +kernel
theorem dX9_destroyOne_15 : decode cX9_destroyOne 15 = .ok (.aload_n 0, 1) := by decide +kernel
theorem dX9_destroyOne_16 : decode cX9_destroyOne 16 = .ok (.aload 4, 2) := by decide +kernel
theorem dX9_destroyOne_18 : decode cX9_destroyOne 18 = .ok (.iload_n 2, 1) := by decide +kernel
theorem dX9_destroyOne_19 : decode cX9_destroyOne 19 = .ok (.iconst 2, 1) := by decide +kernel
theorem dX9_destroyOne_20 : decode cX9_destroyOne 20 = .ok (.iconst 0, 1) := by decide +kernel
theorem dX9_destroyOne_21 : decode cX9_destroyOne 21 = .ok (.iload_n 3, 1) := by decide +kernel
theorem dX9_destroyOne_22 : decode cX9_destroyOne 22 = .ok (.invokevirtual 302, 3) := by decide +kernel
theorem dX9_destroyOne_25 : decode cX9_destroyOne 25 = .ok (.aload 4, 2) := by decide +kernel
theorem dX9_destroyOne_27 : decode cX9_destroyOne 27 = .ok (.getfield 111, 3) := by decide +kernel
theorem dX9_destroyOne_30 : decode cX9_destroyOne 30 = .ok (.ifCond .eq 25, 3) := by decide +kernel
theorem dX9_destroyOne_33 : decode cX9_destroyOne 33 = .ok (.aload_n 0, 1) := by decide +kernel
theorem dX9_destroyOne_34 : decode cX9_destroyOne 34 = .ok (.getfield 36, 3) := by decide +kernel
theorem dX9_destroyOne_37 : decode cX9_destroyOne 37 = .ok (.iload_n 2, 1) := by decide +kernel
theorem dX9_destroyOne_38 : decode cX9_destroyOne 38 = .ok (.invokevirtual 183, 3) := by decide +kernel
theorem dX9_destroyOne_41 : decode cX9_destroyOne 41 = .ok (.aload_n 0, 1) := by decide +kernel
theorem dX9_destroyOne_42 : decode cX9_destroyOne 42 = .ok (.getfield 36, 3) := by decide +kernel
theorem dX9_destroyOne_45 : decode cX9_destroyOne 45 = .ok (.iload_n 2, 1) := by decide +kernel
theorem dX9_destroyOne_46 : decode cX9_destroyOne 46 = .ok (.invokevirtual 310, 3) := by decide +kernel
theorem dX9_destroyOne_49 : decode cX9_destroyOne 49 = .ok (.aload 4, 2) := by decide +kernel
theorem dX9_destroyOne_51 : decode cX9_destroyOne 51 = .ok (.iconst 0, 1) := by decide +kernel
theorem dX9_destroyOne_52 : decode cX9_destroyOne 52 = .ok (.putfield 111, 3) := by decide +kernel
theorem dX9_destroyOne_55 : decode cX9_destroyOne 55 = .ok (.iconst 1, 1) := by decide +kernel
theorem dX9_destroyOne_56 : decode cX9_destroyOne 56 = .ok (.ireturn, 1) := by decide +kernel
theorem dX9_recreateOne_0 : decode cX9_recreateOne 0 = .ok (.aload_n 0, 1) := by decide +kernel
theorem dX9_recreateOne_1 : decode cX9_recreateOne 1 = .ok (.iload_n 1, 1) := by decide +kernel
theorem dX9_recreateOne_2 : decode cX9_recreateOne 2 = .ok (.iload_n 2, 1) := by decide +kernel
theorem dX9_recreateOne_3 : decode cX9_recreateOne 3 = .ok (.invokevirtual 306, 3) := by decide +kernel
theorem dX9_recreateOne_6 : decode cX9_recreateOne 6 = .ok (.astore 4, 2) := by decide +kernel
theorem dX9_recreateOne_8 : decode cX9_recreateOne 8 = .ok (.aload 4, 2) := by decide +kernel
theorem dX9_recreateOne_10 : decode cX9_recreateOne 10 = .ok (.ifnonnull 5, 3) := by decide +kernel
theorem dX9_recreateOne_13 : decode cX9_recreateOne 13 = .ok (.iconst 0, 1) := by decide +kernel
theorem dX9_recreateOne_14 : decode cX9_recreateOne 14 = .ok (.ireturn, 1) := by decide +kernel
theorem dX9_recreateOne_15 : decode cX9_recreateOne 15 = .ok (.aload_n 0, 1) := by decide +kernel
theorem dX9_recreateOne_16 : decode cX9_recreateOne 16 = .ok (.aload 4, 2) := by decide +kernel
theorem dX9_recreateOne_18 : decode cX9_recreateOne 18 = .ok (.iload_n 2, 1) := by decide +kernel
theorem dX9_recreateOne_19 : decode cX9_recreateOne 19 = .ok (.iconst 2, 1) := by decide +kernel
theorem dX9_recreateOne_20 : decode cX9_recreateOne 20 = .ok (.iconst 0, 1) := by decide +kernel
theorem dX9_recreateOne_21 : decode cX9_recreateOne 21 = .ok (.iload_n 3, 1) := by decide +kernel
theorem dX9_recreateOne_22 : decode cX9_recreateOne 22 = .ok (.invokevirtual 302, 3) := by decide +kernel
theorem dX9_recreateOne_25 : decode cX9_recreateOne 25 = .ok (.aload 4, 2) := by decide +kernel
theorem dX9_recreateOne_27 : decode cX9_recreateOne 27 = .ok (.getfield 111, 3) := by decide +kernel
theorem dX9_recreateOne_30 : decode cX9_recreateOne 30 = .ok (.ifCond .eq 19, 3) := by decide +kernel
theorem dX9_recreateOne_33 : decode cX9_recreateOne 33 = .ok (.aload_n 0, 1) := by decide +kernel
theorem dX9_recreateOne_34 : decode cX9_recreateOne 34 = .ok (.aload 4, 2) := by decide +kernel
theorem dX9_recreateOne_36 : decode cX9_recreateOne 36 = .ok (.invokevirtual 108, 3) := by decide +kernel
theorem dX9_recreateOne_39 : decode cX9_recreateOne 39 = .ok (.aload_n 0, 1) := by decide +kernel
theorem dX9_recreateOne_40 : decode cX9_recreateOne 40 = .ok (.aload 4, 2) := by decide +kernel
theorem dX9_recreateOne_42 : decode cX9_recreateOne 42 = .ok (.iload_n 2, 1) := by decide +kernel
theorem dX9_recreateOne_43 : decode cX9_recreateOne 43 = .ok (.iconst 1, 1) := by decide +kernel
theorem dX9_recreateOne_44 : decode cX9_recreateOne 44 = .ok (.iconst 0, 1) := by decide +kernel
theorem dX9_recreateOne_45 : decode cX9_recreateOne 45 = .ok (.iload_n 3, 1) := by decide +kernel
theorem dX9_recreateOne_46 : decode cX9_recreateOne 46 = .ok (.invokevirtual 302, 3) := by decide +kernel
theorem dX9_recreateOne_49 : decode cX9_recreateOne 49 = .ok (.iconst 1, 1) := by decide +kernel
theorem dX9_recreateOne_50 : decode cX9_recreateOne 50 = .ok (.ireturn, 1) := by decide +kernel
theorem dX9_sendIfProvided_0 : decode cX9_sendIfProvided 0 = .ok (.aload_n 1, 1) := by decide +kernel
theorem dX9_sendIfProvided_1 : decode cX9_sendIfProvided 1 = .ok (.getfield 124, 3) := by decide +kernel
theorem dX9_sendIfProvided_4 : decode cX9_sendIfProvided 4 = .ok (.iload_n 3, 1) := by decide +kernel
theorem dX9_sendIfProvided_5 : decode cX9_sendIfProvided 5 = .ok (.invokevirtual 128, 3) := by decide +kernel
theorem dX9_sendIfProvided_8 : decode cX9_sendIfProvided 8 = .ok (.ifCond .le 14, 3) := by decide +kernel
theorem dX9_sendIfProvided_11 : decode cX9_sendIfProvided 11 = .ok (.aload_n 0, 1) := by decide +kernel
theorem dX9_sendIfProvided_12 : decode cX9_sendIfProvided 12 = .ok (.iload_n 2, 1) := by decide +kernel
theorem dX9_sendIfProvided_13 : decode cX9_sendIfProvided 13 = .ok (.iload_n 3, 1) := by decide +kernel
theorem dX9_sendIfProvided_14 : decode cX9_sendIfProvided 14 = .ok (.iload 4, 2) := by decide +kernel
theorem dX9_sendIfProvided_16 : decode cX9_sendIfProvided 16 = .ok (.iload 5, 2) := by decide +kernel
theorem dX9_sendIfProvided_18 : decode cX9_sendIfProvided 18 = .ok (.invokevirtual 156, 3) := by decide +kernel
theorem dX9_sendIfProvided_21 : decode cX9_sendIfProvided 21 = .ok (.pop, 1) := by decide +kernel
theorem dX9_sendIfProvided_22 : decode cX9_sendIfProvided 22 = .ok (.return_, 1) := by decide +kernel
theorem dX9_run_0 : decode cX9_run 0 = .ok (.iload 4, 2) := by decide +kernel
theorem dX9_run_2 : decode cX9_run 2 = .ok (.bipush 12, 2) := by decide +kernel
theorem dX9_run_4 : decode cX9_run 4 = .ok (.if_icmp .lt 15, 3) := by decide +kernel
theorem dX9_run_7 : decode cX9_run 7 = .ok (.aload_n 0, 1) := by decide +kernel
theorem dX9_run_8 : decode cX9_run 8 = .ok (.getfield 57, 3) := by decide +kernel
theorem dX9_run_11 : decode cX9_run 11 = .ok (.bipush 9, 2) := by decide +kernel
theorem dX9_run_13 : decode cX9_run 13 = .ok (.iload_n 2, 1) := by decide +kernel
theorem dX9_run_14 : decode cX9_run 14 = .ok (.iconst 0, 1) := by decide +kernel
theorem dX9_run_15 : decode cX9_run 15 = .ok (.invokevirtual 175, 3) := by decide +kernel
theorem dX9_run_18 : decode cX9_run 18 = .ok (.ireturn, 1) := by decide +kernel
theorem dX9_run_19 : decode cX9_run 19 = .ok (.aload_n 0, 1) := by decide +kernel
theorem dX9_run_20 : decode cX9_run 20 = .ok (.iload_n 1, 1) := by decide +kernel
theorem dX9_run_21 : decode cX9_run 21 = .ok (.invokevirtual 76, 3) := by decide +kernel
theorem dX9_run_24 : decode cX9_run 24 = .ok (.astore 5, 2) := by decide +kernel
theorem dX9_run_26 : decode cX9_run 26 = .ok (.iconst 0, 1) := by decide +kernel
theorem dX9_run_27 : decode cX9_run 27 = .ok (.istore 6, 2) := by decide +kernel
theorem dX9_run_29 : decode cX9_run 29 = .ok (.iconst 0, 1) := by decide +kernel
theorem dX9_run_30 : decode cX9_run 30 = .ok (.istore 7, 2) := by decide +kernel
theorem dX9_run_32 : decode cX9_run 32 = .ok (.aload 5, 2) := by decide +kernel
theorem dX9_run_34 : decode cX9_run 34 = .ok (.ifnull 63, 3) := by decide +kernel
theorem dX9_run_37 : decode cX9_run 37 = .ok (.iload 7, 2) := by decide +kernel
theorem dX9_run_39 : decode cX9_run 39 = .ok (.aload 5, 2) := by decide +kernel
theorem dX9_run_41 : decode cX9_run 41 = .ok (.getfield 80, 3) := by decide +kernel
theorem dX9_run_44 : decode cX9_run 44 = .ok (.if_icmp .ge 53, 3) := by decide +kernel
theorem dX9_run_47 : decode cX9_run 47 = .ok (.aload_n 0, 1) := by decide +kernel
theorem dX9_run_48 : decode cX9_run 48 = .ok (.iload_n 2, 1) := by decide +kernel
theorem dX9_run_49 : decode cX9_run 49 = .ok (.invokevirtual 313, 3) := by decide +kernel
theorem dX9_run_52 : decode cX9_run 52 = .ok (.ifCond .eq 45, 3) := by decide +kernel
theorem dX9_run_55 : decode cX9_run 55 = .ok (.aload_n 0, 1) := by decide +kernel
theorem dX9_run_56 : decode cX9_run 56 = .ok (.aload 5, 2) := by decide +kernel
theorem dX9_run_58 : decode cX9_run 58 = .ok (.iload 7, 2) := by decide +kernel
theorem dX9_run_60 : decode cX9_run 60 = .ok (.iload 6, 2) := by decide +kernel
theorem dX9_run_62 : decode cX9_run 62 = .ok (.iload_n 2, 1) := by decide +kernel
theorem dX9_run_63 : decode cX9_run 63 = .ok (.iload_n 3, 1) := by decide +kernel
theorem dX9_run_64 : decode cX9_run 64 = .ok (.iload 4, 2) := by decide +kernel
theorem dX9_run_66 : decode cX9_run 66 = .ok (.iconst 1, 1) := by decide +kernel
theorem dX9_run_67 : decode cX9_run 67 = .ok (.iadd, 1) := by decide +kernel
theorem dX9_run_68 : decode cX9_run 68 = .ok (.invokevirtual 316, 3) := by decide +kernel
theorem dX9_run_71 : decode cX9_run 71 = .ok (.istore 6, 2) := by decide +kernel
theorem dX9_run_73 : decode cX9_run 73 = .ok (.aload 5, 2) := by decide +kernel
theorem dX9_run_75 : decode cX9_run 75 = .ok (.iload 7, 2) := by decide +kernel
theorem dX9_run_77 : decode cX9_run 77 = .ok (.invokevirtual 320, 3) := by decide +kernel
theorem dX9_run_80 : decode cX9_run 80 = .ok (.iload 6, 2) := by decide +kernel
theorem dX9_run_82 : decode cX9_run 82 = .ok (.invokestatic 323, 3) := by decide +kernel
theorem dX9_run_85 : decode cX9_run 85 = .ok (.ifCond .eq 6, 3) := by decide +kernel
theorem dX9_run_88 : decode cX9_run 88 = .ok (.iload 6, 2) := by decide +kernel
theorem dX9_run_90 : decode cX9_run 90 = .ok (.ireturn, 1) := by decide +kernel
theorem dX9_run_91 : decode cX9_run 91 = .ok (.iinc 7 1, 3) := by decide +kernel
theorem dX9_run_94 : decode cX9_run 94 = .ok (.goto (-62), 3) := by decide +kernel
theorem dX9_run_97 : decode cX9_run 97 = .ok (.iload 6, 2) := by decide +kernel
theorem dX9_run_99 : decode cX9_run 99 = .ok (.ireturn, 1) := by decide +kernel
theorem dX9_mayAct_0 : decode cX9_mayAct 0 = .ok (.aload_n 0, 1) := by decide +kernel
theorem dX9_mayAct_1 : decode cX9_mayAct 1 = .ok (.getfield 251, 3) := by decide +kernel
theorem dX9_mayAct_4 : decode cX9_mayAct 4 = .ok (.sipush 200, 3) := by decide +kernel
theorem dX9_mayAct_7 : decode cX9_mayAct 7 = .ok (.if_icmp .ge 15, 3) := by decide +kernel
theorem dX9_mayAct_10 : decode cX9_mayAct 10 = .ok (.aload_n 0, 1) := by decide +kernel
theorem dX9_mayAct_11 : decode cX9_mayAct 11 = .ok (.dup, 1) := by decide +kernel
theorem dX9_mayAct_12 : decode cX9_mayAct 12 = .ok (.getfield 251, 3) := by decide +kernel
theorem dX9_mayAct_15 : decode cX9_mayAct 15 = .ok (.iconst 1, 1) := by decide +kernel
theorem dX9_mayAct_16 : decode cX9_mayAct 16 = .ok (.iadd, 1) := by decide +kernel
theorem dX9_mayAct_17 : decode cX9_mayAct 17 = .ok (.putfield 251, 3) := by decide +kernel
theorem dX9_mayAct_20 : decode cX9_mayAct 20 = .ok (.iconst 1, 1) := by decide +kernel
theorem dX9_mayAct_21 : decode cX9_mayAct 21 = .ok (.ireturn, 1) := by decide +kernel
theorem dX9_mayAct_22 : decode cX9_mayAct 22 = .ok (.aload_n 0, 1) := by decide +kernel
theorem dX9_mayAct_23 : decode cX9_mayAct 23 = .ok (.getfield 268, 3) := by decide +kernel
theorem dX9_mayAct_26 : decode cX9_mayAct 26 = .ok (.ifCond .ne 20, 3) := by decide +kernel
theorem dX9_mayAct_29 : decode cX9_mayAct 29 = .ok (.aload_n 0, 1) := by decide +kernel
theorem dX9_mayAct_30 : decode cX9_mayAct 30 = .ok (.iconst 1, 1) := by decide +kernel
theorem dX9_mayAct_31 : decode cX9_mayAct 31 = .ok (.putfield 268, 3) := by decide +kernel
theorem dX9_mayAct_34 : decode cX9_mayAct 34 = .ok (.aload_n 0, 1) := by decide +kernel
theorem dX9_mayAct_35 : decode cX9_mayAct 35 = .ok (.getfield 57, 3) := by decide +kernel
theorem dX9_mayAct_38 : decode cX9_mayAct 38 = .ok (.bipush 10, 2) := by decide +kernel
theorem dX9_mayAct_40 : decode cX9_mayAct 40 = .ok (.iload_n 1, 1) := by decide +kernel
theorem dX9_mayAct_41 : decode cX9_mayAct 41 = .ok (.iconst 0, 1) := by decide +kernel
theorem dX9_mayAct_42 : decode cX9_mayAct 42 = .ok (.invokevirtual 175, 3) := by decide +kernel
theorem dX9_mayAct_45 : decode cX9_mayAct 45 = .ok (.pop, 1) := by decide +kernel
theorem dX9_mayAct_46 : decode cX9_mayAct 46 = .ok (.iconst 0, 1) := by decide +kernel
theorem dX9_mayAct_47 : decode cX9_mayAct 47 = .ok (.ireturn, 1) := by decide +kernel
theorem dX9_endsBehind_0 : decode cX9_endsBehind 0 = .ok (.iload_n 0, 1) := by decide +kernel
theorem dX9_endsBehind_1 : decode cX9_endsBehind 1 = .ok (.bipush 12, 2) := by decide +kernel
theorem dX9_endsBehind_3 : decode cX9_endsBehind 3 = .ok (.if_icmp .ne 7, 3) := by decide +kernel
theorem dX9_endsBehind_6 : decode cX9_endsBehind 6 = .ok (.iload_n 1, 1) := by decide +kernel
theorem dX9_endsBehind_7 : decode cX9_endsBehind 7 = .ok (.ifCond .eq 13, 3) := by decide +kernel
theorem dX9_endsBehind_10 : decode cX9_endsBehind 10 = .ok (.iload_n 0, 1) := by decide +kernel
theorem dX9_endsBehind_11 : decode cX9_endsBehind 11 = .ok (.bipush 14, 2) := by decide +kernel
theorem dX9_endsBehind_13 : decode cX9_endsBehind 13 = .ok (.if_icmp .ne 11, 3) := by decide +kernel
theorem dX9_endsBehind_16 : decode cX9_endsBehind 16 = .ok (.iload_n 1, 1) := by decide +kernel
theorem dX9_endsBehind_17 : decode cX9_endsBehind 17 = .ok (.ifCond .eq 7, 3) := by decide +kernel
theorem dX9_endsBehind_20 : decode cX9_endsBehind 20 = .ok (.iconst 1, 1) := by decide +kernel
theorem dX9_endsBehind_21 : decode cX9_endsBehind 21 = .ok (.goto 4, 3) := by decide +kernel
theorem dX9_endsBehind_24 : decode cX9_endsBehind 24 = .ok (.iconst 0, 1) := by decide +kernel
theorem dX9_endsBehind_25 : decode cX9_endsBehind 25 = .ok (.ireturn, 1) := by decide +kernel
theorem dX9_perform_0 : decode cX9_perform 0 = .ok (.aload_n 1, 1) := by decide +kernel
theorem dX9_perform_1 : decode cX9_perform 1 = .ok (.iload_n 2, 1) := by decide +kernel
theorem dX9_perform_2 : decode cX9_perform 2 = .ok (.invokevirtual 326, 3) := by decide +kernel
theorem dX9_perform_5 : decode cX9_perform 5 = .ok (.istore 7, 2) := by decide +kernel
theorem dX9_perform_7 : decode cX9_perform 7 = .ok (.aload_n 1, 1) := by decide +kernel
theorem dX9_perform_8 : decode cX9_perform 8 = .ok (.iload_n 2, 1) := by decide +kernel
theorem dX9_perform_9 : decode cX9_perform 9 = .ok (.invokevirtual 329, 3) := by decide +kernel
theorem dX9_perform_12 : decode cX9_perform 12 = .ok (.istore 8, 2) := by decide +kernel
theorem dX9_perform_14 : decode cX9_perform 14 = .ok (.aload_n 1, 1) := by decide +kernel
theorem dX9_perform_15 : decode cX9_perform 15 = .ok (.iload_n 2, 1) := by decide +kernel
theorem dX9_perform_16 : decode cX9_perform 16 = .ok (.invokevirtual 320, 3) := by decide +kernel
theorem dX9_perform_19 : decode cX9_perform 19 = .ok (.tableswitch 188 0 14 #[73, 76, 79, 82, 87, 98, 112, 124, 139, 149, 156, 163, 188, 170, 180], 73) := by decide +kernel
theorem dX9_perform_92 : decode cX9_perform 92 = .ok (.iload 7, 2) := by decide +kernel
theorem dX9_perform_94 : decode cX9_perform 94 = .ok (.ireturn, 1) := by decide +kernel
theorem dX9_perform_95 : decode cX9_perform 95 = .ok (.iload 5, 2) := by decide +kernel
theorem dX9_perform_97 : decode cX9_perform 97 = .ok (.ireturn, 1) := by decide +kernel
theorem dX9_perform_98 : decode cX9_perform 98 = .ok (.iload 4, 2) := by decide +kernel
theorem dX9_perform_100 : decode cX9_perform 100 = .ok (.ireturn, 1) := by decide +kernel
theorem dX9_perform_101 : decode cX9_perform 101 = .ok (.iload_n 3, 1) := by decide +kernel
theorem dX9_perform_102 : decode cX9_perform 102 = .ok (.iload 7, 2) := by decide +kernel
theorem dX9_perform_104 : decode cX9_perform 104 = .ok (.iadd, 1) := by decide +kernel
theorem dX9_perform_105 : decode cX9_perform 105 = .ok (.ireturn, 1) := by decide +kernel
theorem dX9_perform_106 : decode cX9_perform 106 = .ok (.aload_n 0, 1) := by decide +kernel
theorem dX9_perform_107 : decode cX9_perform 107 = .ok (.iload 4, 2) := by decide +kernel
theorem dX9_perform_109 : decode cX9_perform 109 = .ok (.iload 7, 2) := by decide +kernel
theorem dX9_perform_111 : decode cX9_perform 111 = .ok (.iload 8, 2) := by decide +kernel
theorem dX9_perform_113 : decode cX9_perform 113 = .ok (.invokevirtual 332, 3) := by decide +kernel
theorem dX9_perform_116 : decode cX9_perform 116 = .ok (.ireturn, 1) := by decide +kernel
theorem dX9_perform_117 : decode cX9_perform 117 = .ok (.aload_n 0, 1) := by decide +kernel
theorem dX9_perform_118 : decode cX9_perform 118 = .ok (.iload 4, 2) := by decide +kernel
theorem dX9_perform_120 : decode cX9_perform 120 = .ok (.iload 7, 2) := by decide +kernel
theorem dX9_perform_122 : decode cX9_perform 122 = .ok (.iload 8, 2) := by decide +kernel
theorem dX9_perform_124 : decode cX9_perform 124 = .ok (.iload_n 3, 1) := by decide +kernel
theorem dX9_perform_125 : decode cX9_perform 125 = .ok (.invokevirtual 335, 3) := by decide +kernel
theorem dX9_perform_128 : decode cX9_perform 128 = .ok (.pop, 1) := by decide +kernel
theorem dX9_perform_129 : decode cX9_perform 129 = .ok (.iload_n 3, 1) := by decide +kernel
theorem dX9_perform_130 : decode cX9_perform 130 = .ok (.ireturn, 1) := by decide +kernel
theorem dX9_perform_131 : decode cX9_perform 131 = .ok (.aload_n 0, 1) := by decide +kernel
theorem dX9_perform_132 : decode cX9_perform 132 = .ok (.iload_n 3, 1) := by decide +kernel
theorem dX9_perform_133 : decode cX9_perform 133 = .ok (.iload 7, 2) := by decide +kernel
theorem dX9_perform_135 : decode cX9_perform 135 = .ok (.iload 8, 2) := by decide +kernel
theorem dX9_perform_137 : decode cX9_perform 137 = .ok (.iload 6, 2) := by decide +kernel
theorem dX9_perform_139 : decode cX9_perform 139 = .ok (.invokevirtual 156, 3) := by decide +kernel
theorem dX9_perform_142 : decode cX9_perform 142 = .ok (.ireturn, 1) := by decide +kernel
theorem dX9_perform_143 : decode cX9_perform 143 = .ok (.aload_n 0, 1) := by decide +kernel
theorem dX9_perform_144 : decode cX9_perform 144 = .ok (.iload 8, 2) := by decide +kernel
theorem dX9_perform_146 : decode cX9_perform 146 = .ok (.iload 4, 2) := by decide +kernel
theorem dX9_perform_148 : decode cX9_perform 148 = .ok (.iload 7, 2) := by decide +kernel
theorem dX9_perform_150 : decode cX9_perform 150 = .ok (.iload 5, 2) := by decide +kernel
theorem dX9_perform_152 : decode cX9_perform 152 = .ok (.iload 6, 2) := by decide +kernel
theorem dX9_perform_154 : decode cX9_perform 154 = .ok (.invokevirtual 160, 3) := by decide +kernel
theorem dX9_perform_157 : decode cX9_perform 157 = .ok (.ireturn, 1) := by decide +kernel
theorem dX9_perform_158 : decode cX9_perform 158 = .ok (.aload_n 0, 1) := by decide +kernel
theorem dX9_perform_159 : decode cX9_perform 159 = .ok (.iload 4, 2) := by decide +kernel
theorem dX9_perform_161 : decode cX9_perform 161 = .ok (.iload_n 3, 1) := by decide +kernel
theorem dX9_perform_162 : decode cX9_perform 162 = .ok (.invokevirtual 338, 3) := by decide +kernel
theorem dX9_perform_165 : decode cX9_perform 165 = .ok (.pop, 1) := by decide +kernel
theorem dX9_perform_166 : decode cX9_perform 166 = .ok (.iload_n 3, 1) := by decide +kernel
theorem dX9_perform_167 : decode cX9_perform 167 = .ok (.ireturn, 1) := by decide +kernel
theorem dX9_perform_168 : decode cX9_perform 168 = .ok (.aload_n 0, 1) := by decide +kernel
theorem dX9_perform_169 : decode cX9_perform 169 = .ok (.iload_n 3, 1) := by decide +kernel
theorem dX9_perform_170 : decode cX9_perform 170 = .ok (.iconst 0, 1) := by decide +kernel
theorem dX9_perform_171 : decode cX9_perform 171 = .ok (.invokevirtual 341, 3) := by decide +kernel
theorem dX9_perform_174 : decode cX9_perform 174 = .ok (.ireturn, 1) := by decide +kernel
theorem dX9_perform_175 : decode cX9_perform 175 = .ok (.aload_n 0, 1) := by decide +kernel
theorem dX9_perform_176 : decode cX9_perform 176 = .ok (.iload_n 3, 1) := by decide +kernel
theorem dX9_perform_177 : decode cX9_perform 177 = .ok (.iconst 1, 1) := by decide +kernel
theorem dX9_perform_178 : decode cX9_perform 178 = .ok (.invokevirtual 341, 3) := by decide +kernel
theorem dX9_perform_181 : decode cX9_perform 181 = .ok (.ireturn, 1) := by decide +kernel
theorem dX9_perform_182 : decode cX9_perform 182 = .ok (.aload_n 0, 1) := by decide +kernel
theorem dX9_perform_183 : decode cX9_perform 183 = .ok (.iload_n 3, 1) := by decide +kernel
theorem dX9_perform_184 : decode cX9_perform 184 = .ok (.iconst 2, 1) := by decide +kernel
theorem dX9_perform_185 : decode cX9_perform 185 = .ok (.invokevirtual 341, 3) := by decide +kernel
theorem dX9_perform_188 : decode cX9_perform 188 = .ok (.ireturn, 1) := by decide +kernel
theorem dX9_perform_189 : decode cX9_perform 189 = .ok (.aload_n 0, 1) := by decide +kernel
theorem dX9_perform_190 : decode cX9_perform 190 = .ok (.iload_n 3, 1) := by decide +kernel
theorem dX9_perform_191 : decode cX9_perform 191 = .ok (.iload 7, 2) := by decide +kernel
theorem dX9_perform_193 : decode cX9_perform 193 = .ok (.invokevirtual 344, 3) := by decide +kernel
theorem dX9_perform_196 : decode cX9_perform 196 = .ok (.pop, 1) := by decide +kernel
theorem dX9_perform_197 : decode cX9_perform 197 = .ok (.iload_n 3, 1) := by decide +kernel
theorem dX9_perform_198 : decode cX9_perform 198 = .ok (.ireturn, 1) := by decide +kernel
theorem dX9_perform_199 : decode cX9_perform 199 = .ok (.aload_n 0, 1) := by decide +kernel
theorem dX9_perform_200 : decode cX9_perform 200 = .ok (.iload_n 3, 1) := by decide +kernel
theorem dX9_perform_201 : decode cX9_perform 201 = .ok (.iload 7, 2) := by decide +kernel
theorem dX9_perform_203 : decode cX9_perform 203 = .ok (.invokevirtual 290, 3) := by decide +kernel
theorem dX9_perform_206 : decode cX9_perform 206 = .ok (.ireturn, 1) := by decide +kernel
theorem dX9_perform_207 : decode cX9_perform 207 = .ok (.iload_n 3, 1) := by decide +kernel
theorem dX9_perform_208 : decode cX9_perform 208 = .ok (.ireturn, 1) := by decide +kernel
theorem dX9_sayName_0 : decode cX9_sayName 0 = .ok (.aload_n 1, 1) := by decide +kernel
theorem dX9_sayName_1 : decode cX9_sayName 1 = .ok (.getfield 203, 3) := by decide +kernel
theorem dX9_sayName_4 : decode cX9_sayName 4 = .ok (.ifCond .eq 13, 3) := by decide +kernel
theorem dX9_sayName_7 : decode cX9_sayName 7 = .ok (.aload_n 0, 1) := by decide +kernel
theorem dX9_sayName_8 : decode cX9_sayName 8 = .ok (.getfield 43, 3) := by decide +kernel
theorem dX9_sayName_11 : decode cX9_sayName 11 = .ok (.ldc_w 347, 3) := by decide +kernel
theorem dX9_sayName_14 : decode cX9_sayName 14 = .ok (.invokevirtual 239, 3) := by decide +kernel
theorem dX9_sayName_17 : decode cX9_sayName 17 = .ok (.aload_n 1, 1) := by decide +kernel
theorem dX9_sayName_18 : decode cX9_sayName 18 = .ok (.getfield 147, 3) := by decide +kernel
theorem dX9_sayName_21 : decode cX9_sayName 21 = .ok (.ifnonnull 12, 3) := by decide +kernel
theorem dX9_sayName_24 : decode cX9_sayName 24 = .ok (.aload_n 0, 1) := by decide +kernel
theorem dX9_sayName_25 : decode cX9_sayName 25 = .ok (.getfield 43, 3) := by decide +kernel
theorem dX9_sayName_28 : decode cX9_sayName 28 = .ok (.iload_n 2, 1) := by decide +kernel
theorem dX9_sayName_29 : decode cX9_sayName 29 = .ok (.invokevirtual 349, 3) := by decide +kernel
theorem dX9_sayName_32 : decode cX9_sayName 32 = .ok (.return_, 1) := by decide +kernel
theorem dX9_sayName_33 : decode cX9_sayName 33 = .ok (.aload_n 1, 1) := by decide +kernel
theorem dX9_sayName_34 : decode cX9_sayName 34 = .ok (.getfield 203, 3) := by decide +kernel
theorem dX9_sayName_37 : decode cX9_sayName 37 = .ok (.ifCond .ne 25, 3) := by decide +kernel
theorem dX9_sayName_40 : decode cX9_sayName 40 = .ok (.aload_n 1, 1) := by decide +kernel
theorem dX9_sayName_41 : decode cX9_sayName 41 = .ok (.getfield 150, 3) := by decide +kernel
theorem dX9_sayName_44 : decode cX9_sayName 44 = .ok (.ifCond .ne 18, 3) := by decide +kernel
theorem dX9_sayName_47 : decode cX9_sayName 47 = .ok (.aload_n 0, 1) := by decide +kernel
theorem dX9_sayName_48 : decode cX9_sayName 48 = .ok (.getfield 43, 3) := by decide +kernel
theorem dX9_sayName_51 : decode cX9_sayName 51 = .ok (.aload_n 1, 1) := by decide +kernel
theorem dX9_sayName_52 : decode cX9_sayName 52 = .ok (.getfield 147, 3) := by decide +kernel
theorem dX9_sayName_55 : decode cX9_sayName 55 = .ok (.iload_n 3, 1) := by decide +kernel
theorem dX9_sayName_56 : decode cX9_sayName 56 = .ok (.invokestatic 352, 3) := by decide +kernel
theorem dX9_sayName_59 : decode cX9_sayName 59 = .ok (.invokevirtual 239, 3) := by decide +kernel
theorem dX9_sayName_62 : decode cX9_sayName 62 = .ok (.aload_n 0, 1) := by decide +kernel
theorem dX9_sayName_63 : decode cX9_sayName 63 = .ok (.getfield 43, 3) := by decide +kernel
theorem dX9_sayName_66 : decode cX9_sayName 66 = .ok (.aload_n 1, 1) := by decide +kernel
theorem dX9_sayName_67 : decode cX9_sayName 67 = .ok (.getfield 147, 3) := by decide +kernel
theorem dX9_sayName_70 : decode cX9_sayName 70 = .ok (.invokevirtual 293, 3) := by decide +kernel
theorem dX9_sayName_73 : decode cX9_sayName 73 = .ok (.return_, 1) := by decide +kernel
theorem dX9_articleOf_0 : decode cX9_articleOf 0 = .ok (.iload_n 1, 1) := by decide +kernel
theorem dX9_articleOf_1 : decode cX9_articleOf 1 = .ok (.tableswitch 52 1 3 #[27, 31, 48], 27) := by decide +kernel
theorem dX9_articleOf_28 : decode cX9_articleOf 28 = .ok (.ldc_w 356, 3) := by decide +kernel
theorem dX9_articleOf_31 : decode cX9_articleOf 31 = .ok (.areturn, 1) := by decide +kernel
theorem dX9_articleOf_32 : decode cX9_articleOf 32 = .ok (.aload_n 0, 1) := by decide +kernel
theorem dX9_articleOf_33 : decode cX9_articleOf 33 = .ok (.invokevirtual 358, 3) := by decide +kernel
theorem dX9_articleOf_36 : decode cX9_articleOf 36 = .ok (.ifCond .eq 9, 3) := by decide +kernel
theorem dX9_articleOf_39 : decode cX9_articleOf 39 = .ok (.ldc_w 362, 3) := by decide +kernel
theorem dX9_articleOf_42 : decode cX9_articleOf 42 = .ok (.goto 6, 3) := by decide +kernel
theorem dX9_articleOf_45 : decode cX9_articleOf 45 = .ok (.ldc_w 364, 3) := by decide +kernel
theorem dX9_articleOf_48 : decode cX9_articleOf 48 = .ok (.areturn, 1) := by decide +kernel
theorem dX9_articleOf_49 : decode cX9_articleOf 49 = .ok (.ldc_w 366, 3) := by decide +kernel
theorem dX9_articleOf_52 : decode cX9_articleOf 52 = .ok (.areturn, 1) := by decide +kernel
theorem dX9_articleOf_53 : decode cX9_articleOf 53 = .ok (.ldc_w 368, 3) := by decide +kernel
theorem dX9_articleOf_56 : decode cX9_articleOf 56 = .ok (.areturn, 1) := by decide +kernel
theorem dX10_init_0 : decode cX10_init 0 = .ok (.aload_n 0, 1) := by decide +kernel
theorem dX10_init_1 : decode cX10_init 1 = .ok (.invokespecial 1, 3) := by decide +kernel
theorem dX10_init_4 : decode cX10_init 4 = .ok (.aload_n 0, 1) := by decide +kernel
theorem dX10_init_5 : decode cX10_init 5 = .ok (.bipush 20, 2) := by decide +kernel
theorem dX10_init_7 : decode cX10_init 7 = .ok (.newarray .int, 2) := by decide +kernel
theorem dX10_init_9 : decode cX10_init 9 = .ok (.putfield 7, 3) := by decide +kernel
theorem dX10_init_12 : decode cX10_init 12 = .ok (.aload_n 0, 1) := by decide +kernel
theorem dX10_init_13 : decode cX10_init 13 = .ok (.bipush 20, 2) := by decide +kernel
theorem dX10_init_15 : decode cX10_init 15 = .ok (.newarray .int, 2) := by decide +kernel
theorem dX10_init_17 : decode cX10_init 17 = .ok (.putfield 13, 3) := by decide +kernel
theorem dX10_init_20 : decode cX10_init 20 = .ok (.aload_n 0, 1) := by decide +kernel
theorem dX10_init_21 : decode cX10_init 21 = .ok (.sipush 400, 3) := by decide +kernel
theorem dX10_init_24 : decode cX10_init 24 = .ok (.newarray .int, 2) := by decide +kernel
theorem dX10_init_26 : decode cX10_init 26 = .ok (.putfield 16, 3) := by decide +kernel
theorem dX10_init_29 : decode cX10_init 29 = .ok (.aload_n 0, 1) := by decide +kernel
theorem dX10_init_30 : decode cX10_init 30 = .ok (.bipush 20, 2) := by decide +kernel
theorem dX10_init_32 : decode cX10_init 32 = .ok (.newarray .int, 2) := by decide +kernel
theorem dX10_init_34 : decode cX10_init 34 = .ok (.putfield 19, 3) := by decide +kernel
theorem dX10_init_37 : decode cX10_init 37 = .ok (.aload_n 0, 1) := by decide +kernel
theorem dX10_init_38 : decode cX10_init 38 = .ok (.sipush 160, 3) := by decide +kernel
theorem dX10_init_41 : decode cX10_init 41 = .ok (.newarray .int, 2) := by decide +kernel
theorem dX10_init_43 : decode cX10_init 43 = .ok (.putfield 22, 3) := by decide +kernel
theorem dX10_init_46 : decode cX10_init 46 = .ok (.aload_n 0, 1) := by decide +kernel
theorem dX10_init_47 : decode cX10_init 47 = .ok (.sipush 160, 3) := by decide +kernel
theorem dX10_init_50 : decode cX10_init 50 = .ok (.newarray .int, 2) := by decide +kernel
theorem dX10_init_52 : decode cX10_init 52 = .ok (.putfield 25, 3) := by decide +kernel
theorem dX10_init_55 : decode cX10_init 55 = .ok (.aload_n 0, 1) := by decide +kernel
theorem dX10_init_56 : decode cX10_init 56 = .ok (.sipush 160, 3) := by decide +kernel
theorem dX10_init_59 : decode cX10_init 59 = .ok (.newarray .int, 2) := by decide +kernel
theorem dX10_init_61 : decode cX10_init 61 = .ok (.putfield 28, 3) := by decide +kernel
theorem dX10_init_64 : decode cX10_init 64 = .ok (.aload_n 0, 1) := by decide +kernel
theorem dX10_init_65 : decode cX10_init 65 = .ok (.bipush 10, 2) := by decide +kernel
theorem dX10_init_67 : decode cX10_init 67 = .ok (.newarray .int, 2) := by decide +kernel
theorem dX10_init_69 : decode cX10_init 69 = .ok (.putfield 31, 3) := by decide +kernel
theorem dX10_init_72 : decode cX10_init 72 = .ok (.aload_n 0, 1) := by decide +kernel
theorem dX10_init_73 : decode cX10_init 73 = .ok (.bipush 100, 2) := by decide +kernel
theorem dX10_init_75 : decode cX10_init 75 = .ok (.newarray .int, 2) := by decide +kernel
theorem dX10_init_77 : decode cX10_init 77 = .ok (.putfield 34, 3) := by decide +kernel
theorem dX10_init_80 : decode cX10_init 80 = .ok (.aload_n 0, 1) := by decide +kernel
theorem dX10_init_81 : decode cX10_init 81 = .ok (.bipush 41, 2) := by decide +kernel
theorem dX10_init_83 : decode cX10_init 83 = .ok (.newarray .boolean, 2) := by decide +kernel
theorem dX10_init_85 : decode cX10_init 85 = .ok (.putfield 37, 3) := by decide +kernel
theorem dX10_init_88 : decode cX10_init 88 = .ok (.aload_n 0, 1) := by decide +kernel
theorem dX10_init_89 : decode cX10_init 89 = .ok (.bipush 41, 2) := by decide +kernel
theorem dX10_init_91 : decode cX10_init 91 = .ok (.newarray .boolean, 2) := by decide +kernel
theorem dX10_init_93 : decode cX10_init 93 = .ok (.putfield 41, 3) := by decide +kernel
theorem dX10_init_96 : decode cX10_init 96 = .ok (.aload_n 0, 1) := by decide +kernel
theorem dX10_init_97 : decode cX10_init 97 = .ok (.bipush 41, 2) := by decide +kernel
theorem dX10_init_99 : decode cX10_init 99 = .ok (.newarray .int, 2) := by decide +kernel
theorem dX10_init_101 : decode cX10_init 101 = .ok (.putfield 44, 3) := by decide +kernel
theorem dX10_init_104 : decode cX10_init 104 = .ok (.aload_n 0, 1) := by decide +kernel
theorem dX10_init_105 : decode cX10_init 105 = .ok (.bipush 41, 2) := by decide +kernel
theorem dX10_init_107 : decode cX10_init 107 = .ok (.newarray .int, 2) := by decide +kernel
theorem dX10_init_109 : decode cX10_init 109 = .ok (.putfield 47, 3) := by decide +kernel
theorem dX10_init_112 : decode cX10_init 112 = .ok (.aload_n 0, 1) := by decide +kernel
theorem dX10_init_113 : decode cX10_init 113 = .ok (.sipush 1681, 3) := by decide +kernel
theorem dX10_init_116 : decode cX10_init 116 = .ok (.newarray .int, 2) := by decide +kernel
theorem dX10_init_118 : decode cX10_init 118 = .ok (.putfield 50, 3) := by decide +kernel
theorem dX10_init_121 : decode cX10_init 121 = .ok (.aload_n 0, 1) := by decide +kernel
theorem dX10_init_122 : decode cX10_init 122 = .ok (.sipush 492, 3) := by decide +kernel
theorem dX10_init_125 : decode cX10_init 125 = .ok (.newarray .int, 2) := by decide +kernel
theorem dX10_init_127 : decode cX10_init 127 = .ok (.putfield 53, 3) := by decide +kernel
theorem dX10_init_130 : decode cX10_init 130 = .ok (.aload_n 0, 1) := by decide +kernel
theorem dX10_init_131 : decode cX10_init 131 = .ok (.sipush 1968, 3) := by decide +kernel
theorem dX10_init_134 : decode cX10_init 134 = .ok (.newarray .int, 2) := by decide +kernel
theorem dX10_init_136 : decode cX10_init 136 = .ok (.putfield 56, 3) := by decide +kernel
theorem dX10_init_139 : decode cX10_init 139 = .ok (.aload_n 0, 1) := by decide +kernel
theorem dX10_init_140 : decode cX10_init 140 = .ok (.bipush 41, 2) := by decide +kernel
theorem dX10_init_142 : decode cX10_init 142 = .ok (.newarray .int, 2) := by decide +kernel
theorem dX10_init_144 : decode cX10_init 144 = .ok (.putfield 59, 3) := by decide +kernel
theorem dX10_init_147 : decode cX10_init 147 = .ok (.aload_n 0, 1) := by decide +kernel
theorem dX10_init_148 : decode cX10_init 148 = .ok (.bipush 41, 2) := by decide +kernel
theorem dX10_init_150 : decode cX10_init 150 = .ok (.newarray .boolean, 2) := by decide +kernel
theorem dX10_init_152 : decode cX10_init 152 = .ok (.putfield 62, 3) := by decide +kernel
theorem dX10_init_155 : decode cX10_init 155 = .ok (.aload_n 0, 1) := by decide +kernel
theorem dX10_init_156 : decode cX10_init 156 = .ok (.bipush 41, 2) := by decide +kernel
theorem dX10_init_158 : decode cX10_init 158 = .ok (.newarray .int, 2) := by decide +kernel
theorem dX10_init_160 : decode cX10_init 160 = .ok (.putfield 65, 3) := by decide +kernel
theorem dX10_init_163 : decode cX10_init 163 = .ok (.aload_n 0, 1) := by decide +kernel
theorem dX10_init_164 : decode cX10_init 164 = .ok (.bipush 41, 2) := by decide +kernel
theorem dX10_init_166 : decode cX10_init 166 = .ok (.newarray .int, 2) := by decide +kernel
theorem dX10_init_168 : decode cX10_init 168 = .ok (.putfield 68, 3) := by decide +kernel
theorem dX10_init_171 : decode cX10_init 171 = .ok (.aload_n 0, 1) := by decide +kernel
theorem dX10_init_172 : decode cX10_init 172 = .ok (.bipush 41, 2) := by decide +kernel
theorem dX10_init_174 : decode cX10_init 174 = .ok (.newarray .int, 2) := by decide +kernel
theorem dX10_init_176 : decode cX10_init 176 = .ok (.putfield 71, 3) := by decide +kernel
theorem dX10_init_179 : decode cX10_init 179 = .ok (.aload_n 0, 1) := by decide +kernel
theorem dX10_init_180 : decode cX10_init 180 = .ok (.bipush 90, 2) := by decide +kernel
theorem dX10_init_182 : decode cX10_init 182 = .ok (.newarray .int, 2) := by decide +kernel
theorem dX10_init_184 : decode cX10_init 184 = .ok (.putfield 74, 3) := by decide +kernel
theorem dX10_init_187 : decode cX10_init 187 = .ok (.aload_n 0, 1) := by decide +kernel
theorem dX10_init_188 : decode cX10_init 188 = .ok (.sipush 400, 3) := by decide +kernel
theorem dX10_init_191 : decode cX10_init 191 = .ok (.newarray .int, 2) := by decide +kernel
theorem dX10_init_193 : decode cX10_init 193 = .ok (.putfield 77, 3) := by decide +kernel
theorem dX10_init_196 : decode cX10_init 196 = .ok (.aload_n 0, 1) := by decide +kernel
theorem dX10_init_197 : decode cX10_init 197 = .ok (.bipush 40, 2) := by decide +kernel
theorem dX10_init_199 : decode cX10_init 199 = .ok (.newarray .int, 2) := by decide +kernel
theorem dX10_init_201 : decode cX10_init 201 = .ok (.putfield 80, 3) := by decide +kernel
theorem dX10_init_204 : decode cX10_init 204 = .ok (.aload_n 0, 1) := by decide +kernel
theorem dX10_init_205 : decode cX10_init 205 = .ok (.bipush 40, 2) := by decide +kernel
theorem dX10_init_207 : decode cX10_init 207 = .ok (.newarray .int, 2) := by decide +kernel
theorem dX10_init_209 : decode cX10_init 209 = .ok (.putfield 83, 3) := by decide +kernel
theorem dX10_init_212 : decode cX10_init 212 = .ok (.aload_n 0, 1) := by decide +kernel
theorem dX10_init_213 : decode cX10_init 213 = .ok (.bipush 40, 2) := by decide +kernel
theorem dX10_init_215 : decode cX10_init 215 = .ok (.newarray .int, 2) := by decide +kernel
theorem dX10_init_217 : decode cX10_init 217 = .ok (.putfield 86, 3) := by decide +kernel
theorem dX10_init_220 : decode cX10_init 220 = .ok (.aload_n 0, 1) := by decide +kernel
theorem dX10_init_221 : decode cX10_init 221 = .ok (.bipush 40, 2) := by decide +kernel
theorem dX10_init_223 : decode cX10_init 223 = .ok (.newarray .int, 2) := by decide +kernel
theorem dX10_init_225 : decode cX10_init 225 = .ok (.putfield 89, 3) := by decide +kernel
theorem dX10_init_228 : decode cX10_init 228 = .ok (.aload_n 0, 1) := by decide +kernel
theorem dX10_init_229 : decode cX10_init 229 = .ok (.bipush 40, 2) := by decide +kernel
theorem dX10_init_231 : decode cX10_init 231 = .ok (.newarray .int, 2) := by decide +kernel
theorem dX10_init_233 : decode cX10_init 233 = .ok (.putfield 92, 3) := by decide +kernel
theorem dX10_init_236 : decode cX10_init 236 = .ok (.aload_n 0, 1) := by decide +kernel
theorem dX10_init_237 : decode cX10_init 237 = .ok (.bipush 40, 2) := by decide +kernel
theorem dX10_init_239 : decode cX10_init 239 = .ok (.newarray .int, 2) := by decide +kernel
theorem dX10_init_241 : decode cX10_init 241 = .ok (.putfield 95, 3) := by decide +kernel
theorem dX10_init_244 : decode cX10_init 244 = .ok (.aload_n 0, 1) := by decide +kernel
theorem dX10_init_245 : decode cX10_init 245 = .ok (.iload_n 1, 1) := by decide +kernel
theorem dX10_init_246 : decode cX10_init 246 = .ok (.ifCond .eq 7, 3) := by decide +kernel
theorem dX10_init_249 : decode cX10_init 249 = .ok (.iconst 1, 1) := by decide +kernel
theorem dX10_init_250 : decode cX10_init 250 = .ok (.goto 4, 3) := by decide +kernel
theorem dX10_init_253 : decode cX10_init 253 = .ok (.iconst 0, 1) := by decide +kernel
theorem dX10_init_254 : decode cX10_init 254 = .ok (.putfield 98, 3) := by decide +kernel
theorem dX10_init_257 : decode cX10_init 257 = .ok (.return_, 1) := by decide +kernel
theorem dX10_in_0 : decode cX10_in 0 = .ok (.iload_n 0, 1) := by decide +kernel
theorem dX10_in_1 : decode cX10_in 1 = .ok (.iload_n 1, 1) := by decide +kernel
theorem dX10_in_2 : decode cX10_in 2 = .ok (.if_icmp .lt 12, 3) := by decide +kernel
theorem dX10_in_5 : decode cX10_in 5 = .ok (.iload_n 0, 1) := by decide +kernel
theorem dX10_in_6 : decode cX10_in 6 = .ok (.iload_n 2, 1) := by decide +kernel
theorem dX10_in_7 : decode cX10_in 7 = .ok (.if_icmp .gt 7, 3) := by decide +kernel
theorem dX10_in_10 : decode cX10_in 10 = .ok (.iconst 1, 1) := by decide +kernel
theorem dX10_in_11 : decode cX10_in 11 = .ok (.goto 4, 3) := by decide +kernel
theorem dX10_in_14 : decode cX10_in 14 = .ok (.iconst 0, 1) := by decide +kernel
theorem dX10_in_15 : decode cX10_in 15 = .ok (.ireturn, 1) := by decide +kernel
theorem dX10_letter_0 : decode cX10_letter 0 = .ok (.iload_n 1, 1) := by decide +kernel
theorem dX10_letter_1 : decode cX10_letter 1 = .ok (.bipush 32, 2) := by decide +kernel
theorem dX10_letter_3 : decode cX10_letter 3 = .ok (.bipush 126, 2) := by decide +kernel
theorem dX10_letter_5 : decode cX10_letter 5 = .ok (.invokestatic 102, 3) := by decide +kernel
theorem dX10_letter_8 : decode cX10_letter 8 = .ok (.ifCond .ne 6, 3) := by decide +kernel
theorem dX10_letter_11 : decode cX10_letter 11 = .ok (.bipush (-3), 2) := by decide +kernel
theorem dX10_letter_13 : decode cX10_letter 13 = .ok (.ireturn, 1) := by decide +kernel
theorem dX10_letter_14 : decode cX10_letter 14 = .ok (.aload_n 0, 1) := by decide +kernel
theorem dX10_letter_15 : decode cX10_letter 15 = .ok (.getfield 106, 3) := by decide +kernel
theorem dX10_letter_18 : decode cX10_letter 18 = .ok (.bipush 20, 2) := by decide +kernel
theorem dX10_letter_20 : decode cX10_letter 20 = .ok (.if_icmp .ne 6, 3) := by decide +kernel
theorem dX10_letter_23 : decode cX10_letter 23 = .ok (.bipush (-4), 2) := by decide +kernel
theorem dX10_letter_25 : decode cX10_letter 25 = .ok (.ireturn, 1) := by decide +kernel
theorem dX10_letter_26 : decode cX10_letter 26 = .ok (.aload_n 0, 1) := by decide +kernel
theorem dX10_letter_27 : decode cX10_letter 27 = .ok (.getfield 7, 3) := by decide +kernel
theorem dX10_letter_30 : decode cX10_letter 30 = .ok (.aload_n 0, 1) := by decide +kernel
theorem dX10_letter_31 : decode cX10_letter 31 = .ok (.getfield 106, 3) := by decide +kernel
theorem dX10_letter_34 : decode cX10_letter 34 = .ok (.iload_n 1, 1) := by decide +kernel
theorem dX10_letter_35 : decode cX10_letter 35 = .ok (.iastore, 1) := by decide +kernel
theorem dX10_letter_36 : decode cX10_letter 36 = .ok (.aload_n 0, 1) := by decide +kernel
theorem dX10_letter_37 : decode cX10_letter 37 = .ok (.dup, 1) := by decide +kernel
theorem dX10_letter_38 : decode cX10_letter 38 = .ok (.getfield 106, 3) := by decide +kernel
theorem dX10_letter_41 : decode cX10_letter 41 = .ok (.iconst 1, 1) := by decide +kernel
theorem dX10_letter_42 : decode cX10_letter 42 = .ok (.iadd, 1) := by decide +kernel
theorem dX10_letter_43 : decode cX10_letter 43 = .ok (.putfield 106, 3) := by decide +kernel
theorem dX10_letter_46 : decode cX10_letter 46 = .ok (.aload_n 0, 1) := by decide +kernel
theorem dX10_letter_47 : decode cX10_letter 47 = .ok (.getfield 106, 3) := by decide +kernel
theorem dX10_letter_50 : decode cX10_letter 50 = .ok (.ireturn, 1) := by decide +kernel
theorem dX10_text_0 : decode cX10_text 0 = .ok (.aload_n 0, 1) := by decide +kernel
theorem dX10_text_1 : decode cX10_text 1 = .ok (.getfield 110, 3) := by decide +kernel
theorem dX10_text_4 : decode cX10_text 4 = .ok (.bipush 20, 2) := by decide +kernel
theorem dX10_text_6 : decode cX10_text 6 = .ok (.if_icmp .ne 6, 3) := by decide +kernel
theorem dX10_text_9 : decode cX10_text 9 = .ok (.bipush (-4), 2) := by decide +kernel
theorem dX10_text_11 : decode cX10_text 11 = .ok (.ireturn, 1) := by decide +kernel
theorem dX10_text_12 : decode cX10_text 12 = .ok (.iconst 0, 1) := by decide +kernel
theorem dX10_text_13 : decode cX10_text 13 = .ok (.istore_n 1, 1) := by decide +kernel
theorem dX10_text_14 : decode cX10_text 14 = .ok (.iload_n 1, 1) := by decide +kernel
theorem dX10_text_15 : decode cX10_text 15 = .ok (.aload_n 0, 1) := by decide +kernel
theorem dX10_text_16 : decode cX10_text 16 = .ok (.getfield 106, 3) := by decide +kernel
theorem dX10_text_19 : decode cX10_text 19 = .ok (.if_icmp .ge 29, 3) := by decide +kernel
theorem dX10_text_22 : decode cX10_text 22 = .ok (.aload_n 0, 1) := by decide +kernel
theorem dX10_text_23 : decode cX10_text 23 = .ok (.getfield 16, 3) := by decide +kernel
theorem dX10_text_26 : decode cX10_text 26 = .ok (.bipush 20, 2) := by decide +kernel
theorem dX10_text_28 : decode cX10_text 28 = .ok (.aload_n 0, 1) := by decide +kernel
theorem dX10_text_29 : decode cX10_text 29 = .ok (.getfield 110, 3) := by decide +kernel
theorem dX10_text_32 : decode cX10_text 32 = .ok (.imul, 1) := by decide +kernel
theorem dX10_text_33 : decode cX10_text 33 = .ok (.iload_n 1, 1) := by decide +kernel
theorem dX10_text_34 : decode cX10_text 34 = .ok (.iadd, 1) := by decide +kernel
theorem dX10_text_35 : decode cX10_text 35 = .ok (.aload_n 0, 1) := by decide +kernel
theorem dX10_text_36 : decode cX10_text 36 = .ok (.getfield 7, 3) := by decide +kernel
theorem dX10_text_39 : decode cX10_text 39 = .ok (.iload_n 1, 1) := by decide +kernel
theorem dX10_text_40 : decode cX10_text 40 = .ok (.iaload, 1) := by decide +kernel
theorem dX10_text_41 : decode cX10_text 41 = .ok (.iastore, 1) := by decide +kernel
theorem dX10_text_42 : decode cX10_text 42 = .ok (.iinc 1 1, 3) := by decide +kernel
theorem dX10_text_45 : decode cX10_text 45 = .ok (.goto (-31), 3) := by decide +kernel
theorem dX10_text_48 : decode cX10_text 48 = .ok (.aload_n 0, 1) := by decide +kernel
theorem dX10_text_49 : decode cX10_text 49 = .ok (.getfield 13, 3) := by decide +kernel
theorem dX10_text_52 : decode cX10_text 52 = .ok (.aload_n 0, 1) := by decide +kernel
theorem dX10_text_53 : decode cX10_text 53 = .ok (.getfield 110, 3) := by decide +kernel
theorem dX10_text_56 : decode cX10_text 56 = .ok (.aload_n 0, 1) := by decide +kernel
theorem dX10_text_57 : decode cX10_text 57 = .ok (.getfield 106, 3) := by decide +kernel
theorem dX10_text_60 : decode cX10_text 60 = .ok (.iastore, 1) := by decide +kernel
theorem dX10_text_61 : decode cX10_text 61 = .ok (.aload_n 0, 1) := by decide +kernel
theorem dX10_text_62 : decode cX10_text 62 = .ok (.iconst 0, 1) := by decide +kernel
theorem dX10_text_63 : decode cX10_text 63 = .ok (.putfield 106, 3) := by decide +kernel
theorem dX10_text_66 : decode cX10_text 66 = .ok (.aload_n 0, 1) := by decide +kernel
theorem dX10_text_67 : decode cX10_text 67 = .ok (.dup, 1) := by decide +kernel
theorem dX10_text_68 : decode cX10_text 68 = .ok (.getfield 110, 3) := by decide +kernel
theorem dX10_text_71 : decode cX10_text 71 = .ok (.iconst 1, 1) := by decide +kernel
theorem dX10_text_72 : decode cX10_text 72 = .ok (.iadd, 1) := by decide +kernel
theorem dX10_text_73 : decode cX10_text 73 = .ok (.putfield 110, 3) := by decide +kernel
theorem dX10_text_76 : decode cX10_text 76 = .ok (.bipush 100, 2) := by decide +kernel
theorem dX10_text_78 : decode cX10_text 78 = .ok (.aload_n 0, 1) := by decide +kernel
theorem dX10_text_79 : decode cX10_text 79 = .ok (.getfield 110, 3) := by decide +kernel
theorem dX10_text_82 : decode cX10_text 82 = .ok (.iadd, 1) := by decide +kernel
theorem dX10_text_83 : decode cX10_text 83 = .ok (.ireturn, 1) := by decide +kernel
theorem dX10_routine_0 : decode cX10_routine 0 = .ok (.aload_n 0, 1) := by decide +kernel
theorem dX10_routine_1 : decode cX10_routine 1 = .ok (.getfield 113, 3) := by decide +kernel
theorem dX10_routine_4 : decode cX10_routine 4 = .ok (.bipush 20, 2) := by decide +kernel
theorem dX10_routine_6 : decode cX10_routine 6 = .ok (.if_icmp .ne 6, 3) := by decide +kernel
theorem dX10_routine_9 : decode cX10_routine 9 = .ok (.bipush (-4), 2) := by decide +kernel
theorem dX10_routine_11 : decode cX10_routine 11 = .ok (.ireturn, 1) := by decide +kernel
theorem dX10_routine_12 : decode cX10_routine 12 = .ok (.aload_n 0, 1) := by decide +kernel
theorem dX10_routine_13 : decode cX10_routine 13 = .ok (.dup, 1) := by decide +kernel
theorem dX10_routine_14 : decode cX10_routine 14 = .ok (.getfield 113, 3) := by decide +kernel
theorem dX10_routine_17 : decode cX10_routine 17 = .ok (.iconst 1, 1) := by decide +kernel
theorem dX10_routine_18 : decode cX10_routine 18 = .ok (.iadd, 1) := by decide +kernel
theorem dX10_routine_19 : decode cX10_routine 19 = .ok (.putfield 113, 3) := by decide +kernel
theorem dX10_routine_22 : decode cX10_routine 22 = .ok (.sipush 200, 3) := by decide +kernel
theorem dX10_routine_25 : decode cX10_routine 25 = .ok (.aload_n 0, 1) := by decide +kernel
theorem dX10_routine_26 : decode cX10_routine 26 = .ok (.getfield 113, 3) := by decide +kernel
theorem dX10_routine_29 : decode cX10_routine 29 = .ok (.iadd, 1) := by decide +kernel
theorem dX10_routine_30 : decode cX10_routine 30 = .ok (.ireturn, 1) := by decide +kernel
theorem dX10_act_0 : decode cX10_act 0 = .ok (.iload_n 1, 1) := by decide +kernel
theorem dX10_act_1 : decode cX10_act 1 = .ok (.sipush 201, 3) := by decide +kernel
theorem dX10_act_4 : decode cX10_act 4 = .ok (.isub, 1) := by decide +kernel
theorem dX10_act_5 : decode cX10_act 5 = .ok (.istore 5, 2) := by decide +kernel
theorem dX10_act_7 : decode cX10_act 7 = .ok (.iload 5, 2) := by decide +kernel
theorem dX10_act_9 : decode cX10_act 9 = .ok (.iconst 0, 1) := by decide +kernel
theorem dX10_act_10 : decode cX10_act 10 = .ok (.aload_n 0, 1) := by decide +kernel
theorem dX10_act_11 : decode cX10_act 11 = .ok (.getfield 113, 3) := by decide +kernel
theorem dX10_act_14 : decode cX10_act 14 = .ok (.iconst 1, 1) := by decide +kernel
theorem dX10_act_15 : decode cX10_act 15 = .ok (.isub, 1) := by decide +kernel
theorem dX10_act_16 : decode cX10_act 16 = .ok (.invokestatic 102, 3) := by decide +kernel
theorem dX10_act_19 : decode cX10_act 19 = .ok (.ifCond .ne 6, 3) := by decide +kernel
theorem dX10_act_22 : decode cX10_act 22 = .ok (.bipush (-2), 2) := by decide +kernel
theorem dX10_act_24 : decode cX10_act 24 = .ok (.ireturn, 1) := by decide +kernel
theorem dX10_act_25 : decode cX10_act 25 = .ok (.iload_n 2, 1) := by decide +kernel
theorem dX10_act_26 : decode cX10_act 26 = .ok (.iconst 0, 1) := by decide +kernel
theorem dX10_act_27 : decode cX10_act 27 = .ok (.bipush 14, 2) := by decide +kernel
theorem dX10_act_29 : decode cX10_act 29 = .ok (.invokestatic 102, 3) := by decide +kernel
theorem dX10_act_32 : decode cX10_act 32 = .ok (.ifCond .ne 6, 3) := by decide +kernel
theorem dX10_act_35 : decode cX10_act 35 = .ok (.bipush (-3), 2) := by decide +kernel
theorem dX10_act_37 : decode cX10_act 37 = .ok (.ireturn, 1) := by decide +kernel
theorem dX10_act_38 : decode cX10_act 38 = .ok (.aload_n 0, 1) := by decide +kernel
theorem dX10_act_39 : decode cX10_act 39 = .ok (.getfield 19, 3) := by decide +kernel
theorem dX10_act_42 : decode cX10_act 42 = .ok (.iload 5, 2) := by decide +kernel
theorem dX10_act_44 : decode cX10_act 44 = .ok (.iaload, 1) := by decide +kernel
theorem dX10_act_45 : decode cX10_act 45 = .ok (.bipush 8, 2) := by decide +kernel
theorem dX10_act_47 : decode cX10_act 47 = .ok (.if_icmp .ne 6, 3) := by decide +kernel
theorem dX10_act_50 : decode cX10_act 50 = .ok (.bipush (-4), 2) := by decide +kernel
theorem dX10_act_52 : decode cX10_act 52 = .ok (.ireturn, 1) := by decide +kernel
theorem dX10_act_53 : decode cX10_act 53 = .ok (.bipush 8, 2) := by decide +kernel
theorem dX10_act_55 : decode cX10_act 55 = .ok (.iload 5, 2) := by decide +kernel
theorem dX10_act_57 : decode cX10_act 57 = .ok (.imul, 1) := by decide +kernel
theorem dX10_act_58 : decode cX10_act 58 = .ok (.aload_n 0, 1) := by decide +kernel
theorem dX10_act_59 : decode cX10_act 59 = .ok (.getfield 19, 3) := by decide +kernel
theorem dX10_act_62 : decode cX10_act 62 = .ok (.iload 5, 2) := by decide +kernel
theorem dX10_act_64 : decode cX10_act 64 = .ok (.iaload, 1) := by decide +kernel
theorem dX10_act_65 : decode cX10_act 65 = .ok (.iadd, 1) := by decide +kernel
theorem dX10_act_66 : decode cX10_act 66 = .ok (.istore 6, 2) := by decide +kernel
theorem dX10_act_68 : decode cX10_act 68 = .ok (.aload_n 0, 1) := by decide +kernel
theorem dX10_act_69 : decode cX10_act 69 = .ok (.getfield 22, 3) := by decide +kernel
theorem dX10_act_72 : decode cX10_act 72 = .ok (.iload 6, 2) := by decide +kernel
theorem dX10_act_74 : decode cX10_act 74 = .ok (.iload_n 2, 1) := by decide +kernel
theorem dX10_act_75 : decode cX10_act 75 = .ok (.iastore, 1) := by decide +kernel
theorem dX10_act_76 : decode cX10_act 76 = .ok (.aload_n 0, 1) := by decide +kernel
theorem dX10_act_77 : decode cX10_act 77 = .ok (.getfield 25, 3) := by decide +kernel
theorem dX10_act_80 : decode cX10_act 80 = .ok (.iload 6, 2) := by decide +kernel
theorem dX10_act_82 : decode cX10_act 82 = .ok (.iload_n 3, 1) := by decide +kernel
theorem dX10_act_83 : decode cX10_act 83 = .ok (.iastore, 1) := by decide +kernel
theorem dX10_act_84 : decode cX10_act 84 = .ok (.aload_n 0, 1) := by decide +kernel
theorem dX10_act_85 : decode cX10_act 85 = .ok (.getfield 28, 3) := by decide +kernel
theorem dX10_act_88 : decode cX10_act 88 = .ok (.iload 6, 2) := by decide +kernel
theorem dX10_act_90 : decode cX10_act 90 = .ok (.iload 4, 2) := by decide +kernel
theorem dX10_act_92 : decode cX10_act 92 = .ok (.iastore, 1) := by decide +kernel
theorem dX10_act_93 : decode cX10_act 93 = .ok (.aload_n 0, 1) := by decide +kernel
theorem dX10_act_94 : decode cX10_act 94 = .ok (.getfield 19, 3) := by decide +kernel
theorem dX10_act_97 : decode cX10_act 97 = .ok (.iload 5, 2) := by decide +kernel
theorem dX10_act_99 : decode cX10_act 99 = .ok (.dup2, 1) := by decide +kernel
theorem dX10_act_100 : decode cX10_act 100 = .ok (.iaload, 1) := by decide +kernel
theorem dX10_act_101 : decode cX10_act 101 = .ok (.iconst 1, 1) := by decide +kernel
theorem dX10_act_102 : decode cX10_act 102 = .ok (.iadd, 1) := by decide +kernel
theorem dX10_act_103 : decode cX10_act 103 = .ok (.iastore, 1) := by decide +kernel
theorem dX10_act_104 : decode cX10_act 104 = .ok (.aload_n 0, 1) := by decide +kernel
theorem dX10_act_105 : decode cX10_act 105 = .ok (.getfield 19, 3) := by decide +kernel
theorem dX10_act_108 : decode cX10_act 108 = .ok (.iload 5, 2) := by decide +kernel
theorem dX10_act_110 : decode cX10_act 110 = .ok (.iaload, 1) := by decide +kernel
theorem dX10_act_111 : decode cX10_act 111 = .ok (.ireturn, 1) := by decide +kernel
theorem dX10_array_0 : decode cX10_array 0 = .ok (.iload_n 1, 1) := by decide +kernel
theorem dX10_array_1 : decode cX10_array 1 = .ok (.iconst 1, 1) := by decide +kernel
theorem dX10_array_2 : decode cX10_array 2 = .ok (.bipush 10, 2) := by decide +kernel
theorem dX10_array_4 : decode cX10_array 4 = .ok (.invokestatic 102, 3) := by decide +kernel
theorem dX10_array_7 : decode cX10_array 7 = .ok (.ifCond .ne 6, 3) := by decide +kernel
theorem dX10_array_10 : decode cX10_array 10 = .ok (.bipush (-3), 2) := by decide +kernel
theorem dX10_array_12 : decode cX10_array 12 = .ok (.ireturn, 1) := by decide +kernel
theorem dX10_array_13 : decode cX10_array 13 = .ok (.aload_n 0, 1) := by decide +kernel
theorem dX10_array_14 : decode cX10_array 14 = .ok (.getfield 116, 3) := by decide +kernel
theorem dX10_array_17 : decode cX10_array 17 = .ok (.bipush 10, 2) := by decide +kernel
theorem dX10_array_19 : decode cX10_array 19 = .ok (.if_icmp .ne 6, 3) := by decide +kernel
theorem dX10_array_22 : decode cX10_array 22 = .ok (.bipush (-4), 2) := by decide +kernel
theorem dX10_array_24 : decode cX10_array 24 = .ok (.ireturn, 1) := by decide +kernel
theorem dX10_array_25 : decode cX10_array 25 = .ok (.aload_n 0, 1) := by decide +kernel
theorem dX10_array_26 : decode cX10_array 26 = .ok (.getfield 31, 3) := by decide +kernel
theorem dX10_array_29 : decode cX10_array 29 = .ok (.aload_n 0, 1) := by decide +kernel
theorem dX10_array_30 : decode cX10_array 30 = .ok (.getfield 116, 3) := by decide +kernel
theorem dX10_array_33 : decode cX10_array 33 = .ok (.iload_n 1, 1) := by decide +kernel
theorem dX10_array_34 : decode cX10_array 34 = .ok (.iastore, 1) := by decide +kernel
theorem dX10_array_35 : decode cX10_array 35 = .ok (.aload_n 0, 1) := by decide +kernel
theorem dX10_array_36 : decode cX10_array 36 = .ok (.dup, 1) := by decide +kernel
theorem dX10_array_37 : decode cX10_array 37 = .ok (.getfield 116, 3) := by decide +kernel
theorem dX10_array_40 : decode cX10_array 40 = .ok (.iconst 1, 1) := by decide +kernel
theorem dX10_array_41 : decode cX10_array 41 = .ok (.iadd, 1) := by decide +kernel
theorem dX10_array_42 : decode cX10_array 42 = .ok (.putfield 116, 3) := by decide +kernel
theorem dX10_array_45 : decode cX10_array 45 = .ok (.sipush 300, 3) := by decide +kernel
theorem dX10_array_48 : decode cX10_array 48 = .ok (.aload_n 0, 1) := by decide +kernel
theorem dX10_array_49 : decode cX10_array 49 = .ok (.getfield 116, 3) := by decide +kernel
theorem dX10_array_52 : decode cX10_array 52 = .ok (.iadd, 1) := by decide +kernel
theorem dX10_array_53 : decode cX10_array 53 = .ok (.ireturn, 1) := by decide +kernel
theorem dX10_isClass_0 : decode cX10_isClass 0 = .ok (.iload_n 1, 1) := by decide +kernel
theorem dX10_isClass_1 : decode cX10_isClass 1 = .ok (.iconst 1, 1) := by decide +kernel
theorem dX10_isClass_2 : decode cX10_isClass 2 = .ok (.aload_n 0, 1) := by decide +kernel
theorem dX10_isClass_3 : decode cX10_isClass 3 = .ok (.getfield 119, 3) := by decide +kernel
theorem dX10_isClass_6 : decode cX10_isClass 6 = .ok (.invokestatic 102, 3) := by decide +kernel
theorem dX10_isClass_9 : decode cX10_isClass 9 = .ok (.ifCond .eq 16, 3) := by decide +kernel
theorem dX10_isClass_12 : decode cX10_isClass 12 = .ok (.aload_n 0, 1) := by decide +kernel
theorem dX10_isClass_13 : decode cX10_isClass 13 = .ok (.getfield 37, 3) := by decide +kernel
theorem dX10_isClass_16 : decode cX10_isClass 16 = .ok (.iload_n 1, 1) := by decide +kernel
theorem dX10_isClass_17 : decode cX10_isClass 17 = .ok (.baload, 1) := by decide +kernel
theorem dX10_isClass_18 : decode cX10_isClass 18 = .ok (.ifCond .eq 7, 3) := by decide +kernel
theorem dX10_isClass_21 : decode cX10_isClass 21 = .ok (.iconst 1, 1) := by decide +kernel
theorem dX10_isClass_22 : decode cX10_isClass 22 = .ok (.goto 4, 3) := by decide +kernel
theorem dX10_isClass_25 : decode cX10_isClass 25 = .ok (.iconst 0, 1) := by decide +kernel
theorem dX10_isClass_26 : decode cX10_isClass 26 = .ok (.ireturn, 1) := by decide +kernel
theorem dX10_meta_0 : decode cX10_meta 0 = .ok (.iload_n 1, 1) := by decide +kernel
theorem dX10_meta_1 : decode cX10_meta 1 = .ok (.iconst 1, 1) := by decide +kernel
theorem dX10_meta_2 : decode cX10_meta 2 = .ok (.aload_n 0, 1) := by decide +kernel
theorem dX10_meta_3 : decode cX10_meta 3 = .ok (.getfield 119, 3) := by decide +kernel
theorem dX10_meta_6 : decode cX10_meta 6 = .ok (.invokestatic 102, 3) := by decide +kernel
theorem dX10_meta_9 : decode cX10_meta 9 = .ok (.ifCond .eq 31, 3) := by decide +kernel
theorem dX10_meta_12 : decode cX10_meta 12 = .ok (.aload_n 0, 1) := by decide +kernel
theorem dX10_meta_13 : decode cX10_meta 13 = .ok (.getfield 37, 3) := by decide +kernel
theorem dX10_meta_16 : decode cX10_meta 16 = .ok (.iload_n 1, 1) := by decide +kernel
theorem dX10_meta_17 : decode cX10_meta 17 = .ok (.baload, 1) := by decide +kernel
theorem dX10_meta_18 : decode cX10_meta 18 = .ok (.ifCond .eq 7, 3) := by decide +kernel
theorem dX10_meta_21 : decode cX10_meta 21 = .ok (.iconst 1, 1) := by decide +kernel
end
section
theorem dX10_meta_22 : decode cX10_meta 22 = .ok (.goto 17, 3) := by decide +kernel
theorem dX10_meta_25 : decode cX10_meta 25 = .ok (.aload_n 0, 1) := by decide +kernel
theorem dX10_meta_26 : decode cX10_meta 26 = .ok (.getfield 41, 3) := by decide +kernel
theorem dX10_meta_29 : decode cX10_meta 29 = .ok (.iload_n 1, 1) := by decide +kernel
theorem dX10_meta_30 : decode cX10_meta 30 = .ok (.baload, 1) := by decide +kernel
theorem dX10_meta_31 : decode cX10_meta 31 = .ok (.ifCond .eq 7, 3) := by decide +kernel
theorem dX10_meta_34 : decode cX10_meta 34 = .ok (.iconst 2, 1) := by decide +kernel
theorem dX10_meta_35 : decode cX10_meta 35 = .ok (.goto 4, 3) := by decide +kernel
theorem dX10_meta_38 : decode cX10_meta 38 = .ok (.iconst 0, 1) := by decide +kernel
theorem dX10_meta_39 : decode cX10_meta 39 = .ok (.ireturn, 1) := by decide +kernel
theorem dX10_meta_40 : decode cX10_meta 40 = .ok (.iload_n 1, 1) := by decide +kernel
theorem dX10_meta_41 : decode cX10_meta 41 = .ok (.bipush 101, 2) := by decide +kernel
theorem dX10_meta_43 : decode cX10_meta 43 = .ok (.bipush 100, 2) := by decide +kernel
theorem dX10_meta_45 : decode cX10_meta 45 = .ok (.aload_n 0, 1) := by decide +kernel
theorem dX10_meta_46 : decode cX10_meta 46 = .ok (.getfield 110, 3) := by decide +kernel
theorem dX10_meta_49 : decode cX10_meta 49 = .ok (.iadd, 1) := by decide +kernel
theorem dX10_meta_50 : decode cX10_meta 50 = .ok (.invokestatic 102, 3) := by decide +kernel
theorem dX10_meta_53 : decode cX10_meta 53 = .ok (.ifCond .eq 7, 3) := by decide +kernel
theorem dX10_meta_56 : decode cX10_meta 56 = .ok (.iconst 3, 1) := by decide +kernel
theorem dX10_meta_57 : decode cX10_meta 57 = .ok (.goto 48, 3) := by decide +kernel
theorem dX10_meta_60 : decode cX10_meta 60 = .ok (.iload_n 1, 1) := by decide +kernel
theorem dX10_meta_61 : decode cX10_meta 61 = .ok (.sipush 201, 3) := by decide +kernel
theorem dX10_meta_64 : decode cX10_meta 64 = .ok (.sipush 200, 3) := by decide +kernel
theorem dX10_meta_67 : decode cX10_meta 67 = .ok (.aload_n 0, 1) := by decide +kernel
theorem dX10_meta_68 : decode cX10_meta 68 = .ok (.getfield 113, 3) := by decide +kernel
theorem dX10_meta_71 : decode cX10_meta 71 = .ok (.iadd, 1) := by decide +kernel
theorem dX10_meta_72 : decode cX10_meta 72 = .ok (.invokestatic 102, 3) := by decide +kernel
theorem dX10_meta_75 : decode cX10_meta 75 = .ok (.ifCond .eq 7, 3) := by decide +kernel
theorem dX10_meta_78 : decode cX10_meta 78 = .ok (.iconst 4, 1) := by decide +kernel
theorem dX10_meta_79 : decode cX10_meta 79 = .ok (.goto 26, 3) := by decide +kernel
theorem dX10_meta_82 : decode cX10_meta 82 = .ok (.iload_n 1, 1) := by decide +kernel
theorem dX10_meta_83 : decode cX10_meta 83 = .ok (.sipush 301, 3) := by decide +kernel
theorem dX10_meta_86 : decode cX10_meta 86 = .ok (.sipush 300, 3) := by decide +kernel
theorem dX10_meta_89 : decode cX10_meta 89 = .ok (.aload_n 0, 1) := by decide +kernel
theorem dX10_meta_90 : decode cX10_meta 90 = .ok (.getfield 116, 3) := by decide +kernel
theorem dX10_meta_93 : decode cX10_meta 93 = .ok (.iadd, 1) := by decide +kernel
theorem dX10_meta_94 : decode cX10_meta 94 = .ok (.invokestatic 102, 3) := by decide +kernel
theorem dX10_meta_97 : decode cX10_meta 97 = .ok (.ifCond .eq 7, 3) := by decide +kernel
theorem dX10_meta_100 : decode cX10_meta 100 = .ok (.iconst 5, 1) := by decide +kernel
theorem dX10_meta_101 : decode cX10_meta 101 = .ok (.goto 4, 3) := by decide +kernel
theorem dX10_meta_104 : decode cX10_meta 104 = .ok (.iconst 0, 1) := by decide +kernel
theorem dX10_meta_105 : decode cX10_meta 105 = .ok (.ireturn, 1) := by decide +kernel
theorem dX10_joinLine_0 : decode cX10_joinLine 0 = .ok (.iconst 0, 1) := by decide +kernel
theorem dX10_joinLine_1 : decode cX10_joinLine 1 = .ok (.istore_n 3, 1) := by decide +kernel
theorem dX10_joinLine_2 : decode cX10_joinLine 2 = .ok (.iload_n 2, 1) := by decide +kernel
theorem dX10_joinLine_3 : decode cX10_joinLine 3 = .ok (.ifCond .eq 35, 3) := by decide +kernel
theorem dX10_joinLine_6 : decode cX10_joinLine 6 = .ok (.iload_n 3, 1) := by decide +kernel
theorem dX10_joinLine_7 : decode cX10_joinLine 7 = .ok (.aload_n 0, 1) := by decide +kernel
theorem dX10_joinLine_8 : decode cX10_joinLine 8 = .ok (.getfield 47, 3) := by decide +kernel
theorem dX10_joinLine_11 : decode cX10_joinLine 11 = .ok (.iload_n 2, 1) := by decide +kernel
theorem dX10_joinLine_12 : decode cX10_joinLine 12 = .ok (.iaload, 1) := by decide +kernel
theorem dX10_joinLine_13 : decode cX10_joinLine 13 = .ok (.if_icmp .ge 25, 3) := by decide +kernel
theorem dX10_joinLine_16 : decode cX10_joinLine 16 = .ok (.aload_n 0, 1) := by decide +kernel
theorem dX10_joinLine_17 : decode cX10_joinLine 17 = .ok (.iload_n 1, 1) := by decide +kernel
theorem dX10_joinLine_18 : decode cX10_joinLine 18 = .ok (.aload_n 0, 1) := by decide +kernel
theorem dX10_joinLine_19 : decode cX10_joinLine 19 = .ok (.getfield 50, 3) := by decide +kernel
theorem dX10_joinLine_22 : decode cX10_joinLine 22 = .ok (.bipush 41, 2) := by decide +kernel
theorem dX10_joinLine_24 : decode cX10_joinLine 24 = .ok (.iload_n 2, 1) := by decide +kernel
theorem dX10_joinLine_25 : decode cX10_joinLine 25 = .ok (.imul, 1) := by decide +kernel
theorem dX10_joinLine_26 : decode cX10_joinLine 26 = .ok (.iload_n 3, 1) := by decide +kernel
theorem dX10_joinLine_27 : decode cX10_joinLine 27 = .ok (.iadd, 1) := by decide +kernel
theorem dX10_joinLine_28 : decode cX10_joinLine 28 = .ok (.iaload, 1) := by decide +kernel
theorem dX10_joinLine_29 : decode cX10_joinLine 29 = .ok (.invokevirtual 122, 3) := by decide +kernel
theorem dX10_joinLine_32 : decode cX10_joinLine 32 = .ok (.iinc 3 1, 3) := by decide +kernel
theorem dX10_joinLine_35 : decode cX10_joinLine 35 = .ok (.goto (-33), 3) := by decide +kernel
theorem dX10_joinLine_38 : decode cX10_joinLine 38 = .ok (.return_, 1) := by decide +kernel
theorem dX10_addToLine_0 : decode cX10_addToLine 0 = .ok (.iconst 0, 1) := by decide +kernel
theorem dX10_addToLine_1 : decode cX10_addToLine 1 = .ok (.istore_n 3, 1) := by decide +kernel
theorem dX10_addToLine_2 : decode cX10_addToLine 2 = .ok (.iload_n 3, 1) := by decide +kernel
theorem dX10_addToLine_3 : decode cX10_addToLine 3 = .ok (.aload_n 0, 1) := by decide +kernel
theorem dX10_addToLine_4 : decode cX10_addToLine 4 = .ok (.getfield 47, 3) := by decide +kernel
theorem dX10_addToLine_7 : decode cX10_addToLine 7 = .ok (.iload_n 1, 1) := by decide +kernel
theorem dX10_addToLine_8 : decode cX10_addToLine 8 = .ok (.iaload, 1) := by decide +kernel
theorem dX10_addToLine_9 : decode cX10_addToLine 9 = .ok (.if_icmp .ge 25, 3) := by decide +kernel
theorem dX10_addToLine_12 : decode cX10_addToLine 12 = .ok (.aload_n 0, 1) := by decide +kernel
theorem dX10_addToLine_13 : decode cX10_addToLine 13 = .ok (.getfield 50, 3) := by decide +kernel
theorem dX10_addToLine_16 : decode cX10_addToLine 16 = .ok (.bipush 41, 2) := by decide +kernel
theorem dX10_addToLine_18 : decode cX10_addToLine 18 = .ok (.iload_n 1, 1) := by decide +kernel
theorem dX10_addToLine_19 : decode cX10_addToLine 19 = .ok (.imul, 1) := by decide +kernel
theorem dX10_addToLine_20 : decode cX10_addToLine 20 = .ok (.iload_n 3, 1) := by decide +kernel
theorem dX10_addToLine_21 : decode cX10_addToLine 21 = .ok (.iadd, 1) := by decide +kernel
theorem dX10_addToLine_22 : decode cX10_addToLine 22 = .ok (.iaload, 1) := by decide +kernel
theorem dX10_addToLine_23 : decode cX10_addToLine 23 = .ok (.iload_n 2, 1) := by decide +kernel
theorem dX10_addToLine_24 : decode cX10_addToLine 24 = .ok (.if_icmp .ne 4, 3) := by decide +kernel
theorem dX10_addToLine_27 : decode cX10_addToLine 27 = .ok (.return_, 1) := by decide +kernel
theorem dX10_addToLine_28 : decode cX10_addToLine 28 = .ok (.iinc 3 1, 3) := by decide +kernel
theorem dX10_addToLine_31 : decode cX10_addToLine 31 = .ok (.goto (-29), 3) := by decide +kernel
theorem dX10_addToLine_34 : decode cX10_addToLine 34 = .ok (.aload_n 0, 1) := by decide +kernel
theorem dX10_addToLine_35 : decode cX10_addToLine 35 = .ok (.getfield 50, 3) := by decide +kernel
theorem dX10_addToLine_38 : decode cX10_addToLine 38 = .ok (.bipush 41, 2) := by decide +kernel
theorem dX10_addToLine_40 : decode cX10_addToLine 40 = .ok (.iload_n 1, 1) := by decide +kernel
theorem dX10_addToLine_41 : decode cX10_addToLine 41 = .ok (.imul, 1) := by decide +kernel
theorem dX10_addToLine_42 : decode cX10_addToLine 42 = .ok (.aload_n 0, 1) := by decide +kernel
theorem dX10_addToLine_43 : decode cX10_addToLine 43 = .ok (.getfield 47, 3) := by decide +kernel
theorem dX10_addToLine_46 : decode cX10_addToLine 46 = .ok (.iload_n 1, 1) := by decide +kernel
theorem dX10_addToLine_47 : decode cX10_addToLine 47 = .ok (.iaload, 1) := by decide +kernel
theorem dX10_addToLine_48 : decode cX10_addToLine 48 = .ok (.iadd, 1) := by decide +kernel
theorem dX10_addToLine_49 : decode cX10_addToLine 49 = .ok (.iload_n 2, 1) := by decide +kernel
theorem dX10_addToLine_50 : decode cX10_addToLine 50 = .ok (.iastore, 1) := by decide +kernel
theorem dX10_addToLine_51 : decode cX10_addToLine 51 = .ok (.aload_n 0, 1) := by decide +kernel
theorem dX10_addToLine_52 : decode cX10_addToLine 52 = .ok (.getfield 47, 3) := by decide +kernel
theorem dX10_addToLine_55 : decode cX10_addToLine 55 = .ok (.iload_n 1, 1) := by decide +kernel
theorem dX10_addToLine_56 : decode cX10_addToLine 56 = .ok (.dup2, 1) := by decide +kernel
theorem dX10_addToLine_57 : decode cX10_addToLine 57 = .ok (.iaload, 1) := by decide +kernel
theorem dX10_addToLine_58 : decode cX10_addToLine 58 = .ok (.iconst 1, 1) := by decide +kernel
theorem dX10_addToLine_59 : decode cX10_addToLine 59 = .ok (.iadd, 1) := by decide +kernel
theorem dX10_addToLine_60 : decode cX10_addToLine 60 = .ok (.iastore, 1) := by decide +kernel
theorem dX10_addToLine_61 : decode cX10_addToLine 61 = .ok (.return_, 1) := by decide +kernel
theorem dX10_newThing_0 : decode cX10_newThing 0 = .ok (.aload_n 0, 1) := by decide +kernel
theorem dX10_newThing_1 : decode cX10_newThing 1 = .ok (.dup, 1) := by decide +kernel
theorem dX10_newThing_2 : decode cX10_newThing 2 = .ok (.getfield 119, 3) := by decide +kernel
theorem dX10_newThing_5 : decode cX10_newThing 5 = .ok (.iconst 1, 1) := by decide +kernel
theorem dX10_newThing_6 : decode cX10_newThing 6 = .ok (.iadd, 1) := by decide +kernel
theorem dX10_newThing_7 : decode cX10_newThing 7 = .ok (.putfield 119, 3) := by decide +kernel
theorem dX10_newThing_10 : decode cX10_newThing 10 = .ok (.aload_n 0, 1) := by decide +kernel
theorem dX10_newThing_11 : decode cX10_newThing 11 = .ok (.getfield 37, 3) := by decide +kernel
theorem dX10_newThing_14 : decode cX10_newThing 14 = .ok (.aload_n 0, 1) := by decide +kernel
theorem dX10_newThing_15 : decode cX10_newThing 15 = .ok (.getfield 119, 3) := by decide +kernel
theorem dX10_newThing_18 : decode cX10_newThing 18 = .ok (.iload_n 1, 1) := by decide +kernel
theorem dX10_newThing_19 : decode cX10_newThing 19 = .ok (.bastore, 1) := by decide +kernel
theorem dX10_newThing_20 : decode cX10_newThing 20 = .ok (.aload_n 0, 1) := by decide +kernel
theorem dX10_newThing_21 : decode cX10_newThing 21 = .ok (.getfield 119, 3) := by decide +kernel
theorem dX10_newThing_24 : decode cX10_newThing 24 = .ok (.ireturn, 1) := by decide +kernel
theorem dX10_group_0 : decode cX10_group 0 = .ok (.iload_n 1, 1) := by decide +kernel
theorem dX10_group_1 : decode cX10_group 1 = .ok (.ifCond .eq 11, 3) := by decide +kernel
theorem dX10_group_4 : decode cX10_group 4 = .ok (.aload_n 0, 1) := by decide +kernel
theorem dX10_group_5 : decode cX10_group 5 = .ok (.iload_n 1, 1) := by decide +kernel
theorem dX10_group_6 : decode cX10_group 6 = .ok (.invokevirtual 126, 3) := by decide +kernel
theorem dX10_group_9 : decode cX10_group 9 = .ok (.ifCond .eq 15, 3) := by decide +kernel
theorem dX10_group_12 : decode cX10_group 12 = .ok (.iload_n 2, 1) := by decide +kernel
theorem dX10_group_13 : decode cX10_group 13 = .ok (.ifCond .eq 14, 3) := by decide +kernel
theorem dX10_group_16 : decode cX10_group 16 = .ok (.aload_n 0, 1) := by decide +kernel
theorem dX10_group_17 : decode cX10_group 17 = .ok (.iload_n 2, 1) := by decide +kernel
theorem dX10_group_18 : decode cX10_group 18 = .ok (.invokevirtual 126, 3) := by decide +kernel
theorem dX10_group_21 : decode cX10_group 21 = .ok (.ifCond .ne 6, 3) := by decide +kernel
theorem dX10_group_24 : decode cX10_group 24 = .ok (.bipush (-2), 2) := by decide +kernel
theorem dX10_group_26 : decode cX10_group 26 = .ok (.ireturn, 1) := by decide +kernel
theorem dX10_group_27 : decode cX10_group 27 = .ok (.iload_n 3, 1) := by decide +kernel
theorem dX10_group_28 : decode cX10_group 28 = .ok (.iconst 0, 1) := by decide +kernel
theorem dX10_group_29 : decode cX10_group 29 = .ok (.bipush 6, 2) := by decide +kernel
theorem dX10_group_31 : decode cX10_group 31 = .ok (.invokestatic 102, 3) := by decide +kernel
theorem dX10_group_34 : decode cX10_group 34 = .ok (.ifCond .ne 6, 3) := by decide +kernel
theorem dX10_group_37 : decode cX10_group 37 = .ok (.bipush (-3), 2) := by decide +kernel
theorem dX10_group_39 : decode cX10_group 39 = .ok (.ireturn, 1) := by decide +kernel
theorem dX10_group_40 : decode cX10_group 40 = .ok (.aload_n 0, 1) := by decide +kernel
theorem dX10_group_41 : decode cX10_group 41 = .ok (.getfield 119, 3) := by decide +kernel
theorem dX10_group_44 : decode cX10_group 44 = .ok (.iconst 1, 1) := by decide +kernel
theorem dX10_group_45 : decode cX10_group 45 = .ok (.iadd, 1) := by decide +kernel
theorem dX10_group_46 : decode cX10_group 46 = .ok (.iload_n 3, 1) := by decide +kernel
theorem dX10_group_47 : decode cX10_group 47 = .ok (.iadd, 1) := by decide +kernel
theorem dX10_group_48 : decode cX10_group 48 = .ok (.bipush 40, 2) := by decide +kernel
theorem dX10_group_50 : decode cX10_group 50 = .ok (.if_icmp .le 6, 3) := by decide +kernel
theorem dX10_group_53 : decode cX10_group 53 = .ok (.bipush (-4), 2) := by decide +kernel
theorem dX10_group_55 : decode cX10_group 55 = .ok (.ireturn, 1) := by decide +kernel
theorem dX10_group_56 : decode cX10_group 56 = .ok (.aload_n 0, 1) := by decide +kernel
theorem dX10_group_57 : decode cX10_group 57 = .ok (.iconst 1, 1) := by decide +kernel
theorem dX10_group_58 : decode cX10_group 58 = .ok (.invokevirtual 130, 3) := by decide +kernel
theorem dX10_group_61 : decode cX10_group 61 = .ok (.istore 4, 2) := by decide +kernel
theorem dX10_group_63 : decode cX10_group 63 = .ok (.aload_n 0, 1) := by decide +kernel
theorem dX10_group_64 : decode cX10_group 64 = .ok (.iload 4, 2) := by decide +kernel
theorem dX10_group_66 : decode cX10_group 66 = .ok (.iload 4, 2) := by decide +kernel
theorem dX10_group_68 : decode cX10_group 68 = .ok (.invokevirtual 122, 3) := by decide +kernel
theorem dX10_group_71 : decode cX10_group 71 = .ok (.aload_n 0, 1) := by decide +kernel
theorem dX10_group_72 : decode cX10_group 72 = .ok (.iload 4, 2) := by decide +kernel
theorem dX10_group_74 : decode cX10_group 74 = .ok (.iload_n 1, 1) := by decide +kernel
theorem dX10_group_75 : decode cX10_group 75 = .ok (.invokevirtual 134, 3) := by decide +kernel
theorem dX10_group_78 : decode cX10_group 78 = .ok (.aload_n 0, 1) := by decide +kernel
theorem dX10_group_79 : decode cX10_group 79 = .ok (.iload 4, 2) := by decide +kernel
theorem dX10_group_81 : decode cX10_group 81 = .ok (.iload_n 2, 1) := by decide +kernel
theorem dX10_group_82 : decode cX10_group 82 = .ok (.invokevirtual 134, 3) := by decide +kernel
theorem dX10_group_85 : decode cX10_group 85 = .ok (.aload_n 0, 1) := by decide +kernel
theorem dX10_group_86 : decode cX10_group 86 = .ok (.getfield 44, 3) := by decide +kernel
theorem dX10_group_89 : decode cX10_group 89 = .ok (.iload 4, 2) := by decide +kernel
theorem dX10_group_91 : decode cX10_group 91 = .ok (.iload_n 3, 1) := by decide +kernel
theorem dX10_group_92 : decode cX10_group 92 = .ok (.iastore, 1) := by decide +kernel
theorem dX10_group_93 : decode cX10_group 93 = .ok (.iconst 0, 1) := by decide +kernel
theorem dX10_group_94 : decode cX10_group 94 = .ok (.istore 5, 2) := by decide +kernel
theorem dX10_group_96 : decode cX10_group 96 = .ok (.iload 5, 2) := by decide +kernel
theorem dX10_group_98 : decode cX10_group 98 = .ok (.iload_n 3, 1) := by decide +kernel
theorem dX10_group_99 : decode cX10_group 99 = .ok (.if_icmp .ge 30, 3) := by decide +kernel
theorem dX10_group_102 : decode cX10_group 102 = .ok (.aload_n 0, 1) := by decide +kernel
theorem dX10_group_103 : decode cX10_group 103 = .ok (.iconst 0, 1) := by decide +kernel
theorem dX10_group_104 : decode cX10_group 104 = .ok (.invokevirtual 130, 3) := by decide +kernel
theorem dX10_group_107 : decode cX10_group 107 = .ok (.istore 6, 2) := by decide +kernel
theorem dX10_group_109 : decode cX10_group 109 = .ok (.aload_n 0, 1) := by decide +kernel
theorem dX10_group_110 : decode cX10_group 110 = .ok (.iload 6, 2) := by decide +kernel
theorem dX10_group_112 : decode cX10_group 112 = .ok (.iload 4, 2) := by decide +kernel
theorem dX10_group_114 : decode cX10_group 114 = .ok (.invokevirtual 134, 3) := by decide +kernel
theorem dX10_group_117 : decode cX10_group 117 = .ok (.aload_n 0, 1) := by decide +kernel
theorem dX10_group_118 : decode cX10_group 118 = .ok (.iload 6, 2) := by decide +kernel
theorem dX10_group_120 : decode cX10_group 120 = .ok (.invokevirtual 137, 3) := by decide +kernel
theorem dX10_group_123 : decode cX10_group 123 = .ok (.iinc 5 1, 3) := by decide +kernel
theorem dX10_group_126 : decode cX10_group 126 = .ok (.goto (-30), 3) := by decide +kernel
theorem dX10_group_129 : decode cX10_group 129 = .ok (.iload 4, 2) := by decide +kernel
theorem dX10_group_131 : decode cX10_group 131 = .ok (.ireturn, 1) := by decide +kernel
theorem dX10_object_0 : decode cX10_object 0 = .ok (.iload_n 1, 1) := by decide +kernel
theorem dX10_object_1 : decode cX10_object 1 = .ok (.ifCond .eq 11, 3) := by decide +kernel
theorem dX10_object_4 : decode cX10_object 4 = .ok (.aload_n 0, 1) := by decide +kernel
theorem dX10_object_5 : decode cX10_object 5 = .ok (.iload_n 1, 1) := by decide +kernel
theorem dX10_object_6 : decode cX10_object 6 = .ok (.invokevirtual 126, 3) := by decide +kernel
theorem dX10_object_9 : decode cX10_object 9 = .ok (.ifCond .eq 15, 3) := by decide +kernel
theorem dX10_object_12 : decode cX10_object 12 = .ok (.iload_n 2, 1) := by decide +kernel
theorem dX10_object_13 : decode cX10_object 13 = .ok (.ifCond .eq 14, 3) := by decide +kernel
theorem dX10_object_16 : decode cX10_object 16 = .ok (.aload_n 0, 1) := by decide +kernel
theorem dX10_object_17 : decode cX10_object 17 = .ok (.iload_n 2, 1) := by decide +kernel
theorem dX10_object_18 : decode cX10_object 18 = .ok (.invokevirtual 126, 3) := by decide +kernel
theorem dX10_object_21 : decode cX10_object 21 = .ok (.ifCond .ne 6, 3) := by decide +kernel
theorem dX10_object_24 : decode cX10_object 24 = .ok (.bipush (-2), 2) := by decide +kernel
theorem dX10_object_26 : decode cX10_object 26 = .ok (.ireturn, 1) := by decide +kernel
theorem dX10_object_27 : decode cX10_object 27 = .ok (.aload_n 0, 1) := by decide +kernel
theorem dX10_object_28 : decode cX10_object 28 = .ok (.getfield 119, 3) := by decide +kernel
theorem dX10_object_31 : decode cX10_object 31 = .ok (.bipush 40, 2) := by decide +kernel
theorem dX10_object_33 : decode cX10_object 33 = .ok (.if_icmp .ne 6, 3) := by decide +kernel
theorem dX10_object_36 : decode cX10_object 36 = .ok (.bipush (-4), 2) := by decide +kernel
theorem dX10_object_38 : decode cX10_object 38 = .ok (.ireturn, 1) := by decide +kernel
theorem dX10_object_39 : decode cX10_object 39 = .ok (.aload_n 0, 1) := by decide +kernel
theorem dX10_object_40 : decode cX10_object 40 = .ok (.iconst 0, 1) := by decide +kernel
theorem dX10_object_41 : decode cX10_object 41 = .ok (.invokevirtual 130, 3) := by decide +kernel
theorem dX10_object_44 : decode cX10_object 44 = .ok (.istore_n 3, 1) := by decide +kernel
theorem dX10_object_45 : decode cX10_object 45 = .ok (.aload_n 0, 1) := by decide +kernel
theorem dX10_object_46 : decode cX10_object 46 = .ok (.getfield 41, 3) := by decide +kernel
theorem dX10_object_49 : decode cX10_object 49 = .ok (.iload_n 3, 1) := by decide +kernel
theorem dX10_object_50 : decode cX10_object 50 = .ok (.iconst 1, 1) := by decide +kernel
theorem dX10_object_51 : decode cX10_object 51 = .ok (.bastore, 1) := by decide +kernel
theorem dX10_object_52 : decode cX10_object 52 = .ok (.aload_n 0, 1) := by decide +kernel
theorem dX10_object_53 : decode cX10_object 53 = .ok (.iload_n 3, 1) := by decide +kernel
theorem dX10_object_54 : decode cX10_object 54 = .ok (.iload_n 1, 1) := by decide +kernel
theorem dX10_object_55 : decode cX10_object 55 = .ok (.invokevirtual 134, 3) := by decide +kernel
theorem dX10_object_58 : decode cX10_object 58 = .ok (.aload_n 0, 1) := by decide +kernel
theorem dX10_object_59 : decode cX10_object 59 = .ok (.iload_n 3, 1) := by decide +kernel
theorem dX10_object_60 : decode cX10_object 60 = .ok (.iload_n 2, 1) := by decide +kernel
theorem dX10_object_61 : decode cX10_object 61 = .ok (.invokevirtual 134, 3) := by decide +kernel
theorem dX10_object_64 : decode cX10_object 64 = .ok (.aload_n 0, 1) := by decide +kernel
theorem dX10_object_65 : decode cX10_object 65 = .ok (.iload_n 3, 1) := by decide +kernel
theorem dX10_object_66 : decode cX10_object 66 = .ok (.invokevirtual 137, 3) := by decide +kernel
theorem dX10_object_69 : decode cX10_object 69 = .ok (.iload_n 3, 1) := by decide +kernel
theorem dX10_object_70 : decode cX10_object 70 = .ok (.ireturn, 1) := by decide +kernel
theorem dX10_rowsAnew_0 : decode cX10_rowsAnew 0 = .ok (.iconst 0, 1) := by decide +kernel
theorem dX10_rowsAnew_1 : decode cX10_rowsAnew 1 = .ok (.istore_n 2, 1) := by decide +kernel
theorem dX10_rowsAnew_2 : decode cX10_rowsAnew 2 = .ok (.iload_n 2, 1) := by decide +kernel
theorem dX10_rowsAnew_3 : decode cX10_rowsAnew 3 = .ok (.bipush 12, 2) := by decide +kernel
theorem dX10_rowsAnew_5 : decode cX10_rowsAnew 5 = .ok (.if_icmp .ge 143, 3) := by decide +kernel
theorem dX10_rowsAnew_8 : decode cX10_rowsAnew 8 = .ok (.bipush 12, 2) := by decide +kernel
theorem dX10_rowsAnew_10 : decode cX10_rowsAnew 10 = .ok (.iload_n 1, 1) := by decide +kernel
theorem dX10_rowsAnew_11 : decode cX10_rowsAnew 11 = .ok (.imul, 1) := by decide +kernel
theorem dX10_rowsAnew_12 : decode cX10_rowsAnew 12 = .ok (.iload_n 2, 1) := by decide +kernel
theorem dX10_rowsAnew_13 : decode cX10_rowsAnew 13 = .ok (.iadd, 1) := by decide +kernel
theorem dX10_rowsAnew_14 : decode cX10_rowsAnew 14 = .ok (.istore_n 3, 1) := by decide +kernel
theorem dX10_rowsAnew_15 : decode cX10_rowsAnew 15 = .ok (.aload_n 0, 1) := by decide +kernel
theorem dX10_rowsAnew_16 : decode cX10_rowsAnew 16 = .ok (.getfield 53, 3) := by decide +kernel
theorem dX10_rowsAnew_19 : decode cX10_rowsAnew 19 = .ok (.iload_n 3, 1) := by decide +kernel
theorem dX10_rowsAnew_20 : decode cX10_rowsAnew 20 = .ok (.iconst 0, 1) := by decide +kernel
theorem dX10_rowsAnew_21 : decode cX10_rowsAnew 21 = .ok (.iastore, 1) := by decide +kernel
theorem dX10_rowsAnew_22 : decode cX10_rowsAnew 22 = .ok (.iconst 0, 1) := by decide +kernel
theorem dX10_rowsAnew_23 : decode cX10_rowsAnew 23 = .ok (.istore 4, 2) := by decide +kernel
theorem dX10_rowsAnew_25 : decode cX10_rowsAnew 25 = .ok (.iload 4, 2) := by decide +kernel
theorem dX10_rowsAnew_27 : decode cX10_rowsAnew 27 = .ok (.aload_n 0, 1) := by decide +kernel
theorem dX10_rowsAnew_28 : decode cX10_rowsAnew 28 = .ok (.getfield 47, 3) := by decide +kernel
theorem dX10_rowsAnew_31 : decode cX10_rowsAnew 31 = .ok (.iload_n 1, 1) := by decide +kernel
theorem dX10_rowsAnew_32 : decode cX10_rowsAnew 32 = .ok (.iaload, 1) := by decide +kernel
theorem dX10_rowsAnew_33 : decode cX10_rowsAnew 33 = .ok (.if_icmp .ge 109, 3) := by decide +kernel
theorem dX10_rowsAnew_36 : decode cX10_rowsAnew 36 = .ok (.bipush 12, 2) := by decide +kernel
theorem dX10_rowsAnew_38 : decode cX10_rowsAnew 38 = .ok (.aload_n 0, 1) := by decide +kernel
theorem dX10_rowsAnew_39 : decode cX10_rowsAnew 39 = .ok (.getfield 50, 3) := by decide +kernel
theorem dX10_rowsAnew_42 : decode cX10_rowsAnew 42 = .ok (.bipush 41, 2) := by decide +kernel
theorem dX10_rowsAnew_44 : decode cX10_rowsAnew 44 = .ok (.iload_n 1, 1) := by decide +kernel
theorem dX10_rowsAnew_45 : decode cX10_rowsAnew 45 = .ok (.imul, 1) := by decide +kernel
theorem dX10_rowsAnew_46 : decode cX10_rowsAnew 46 = .ok (.iload 4, 2) := by decide +kernel
theorem dX10_rowsAnew_48 : decode cX10_rowsAnew 48 = .ok (.iadd, 1) := by decide +kernel
theorem dX10_rowsAnew_49 : decode cX10_rowsAnew 49 = .ok (.iaload, 1) := by decide +kernel
theorem dX10_rowsAnew_50 : decode cX10_rowsAnew 50 = .ok (.imul, 1) := by decide +kernel
theorem dX10_rowsAnew_51 : decode cX10_rowsAnew 51 = .ok (.iload_n 2, 1) := by decide +kernel
theorem dX10_rowsAnew_52 : decode cX10_rowsAnew 52 = .ok (.iadd, 1) := by decide +kernel
theorem dX10_rowsAnew_53 : decode cX10_rowsAnew 53 = .ok (.istore 5, 2) := by decide +kernel
theorem dX10_rowsAnew_55 : decode cX10_rowsAnew 55 = .ok (.iload_n 2, 1) := by decide +kernel
theorem dX10_rowsAnew_56 : decode cX10_rowsAnew 56 = .ok (.ifCond .eq 12, 3) := by decide +kernel
theorem dX10_rowsAnew_59 : decode cX10_rowsAnew 59 = .ok (.aload_n 0, 1) := by decide +kernel
theorem dX10_rowsAnew_60 : decode cX10_rowsAnew 60 = .ok (.getfield 53, 3) := by decide +kernel
theorem dX10_rowsAnew_63 : decode cX10_rowsAnew 63 = .ok (.iload_n 3, 1) := by decide +kernel
theorem dX10_rowsAnew_64 : decode cX10_rowsAnew 64 = .ok (.iaload, 1) := by decide +kernel
theorem dX10_rowsAnew_65 : decode cX10_rowsAnew 65 = .ok (.ifCond .ne 71, 3) := by decide +kernel
theorem dX10_rowsAnew_68 : decode cX10_rowsAnew 68 = .ok (.iconst 0, 1) := by decide +kernel
theorem dX10_rowsAnew_69 : decode cX10_rowsAnew 69 = .ok (.istore 6, 2) := by decide +kernel
theorem dX10_rowsAnew_71 : decode cX10_rowsAnew 71 = .ok (.iload 6, 2) := by decide +kernel
theorem dX10_rowsAnew_73 : decode cX10_rowsAnew 73 = .ok (.aload_n 0, 1) := by decide +kernel
theorem dX10_rowsAnew_74 : decode cX10_rowsAnew 74 = .ok (.getfield 53, 3) := by decide +kernel
theorem dX10_rowsAnew_77 : decode cX10_rowsAnew 77 = .ok (.iload 5, 2) := by decide +kernel
theorem dX10_rowsAnew_79 : decode cX10_rowsAnew 79 = .ok (.iaload, 1) := by decide +kernel
theorem dX10_rowsAnew_80 : decode cX10_rowsAnew 80 = .ok (.if_icmp .ge 56, 3) := by decide +kernel
theorem dX10_rowsAnew_83 : decode cX10_rowsAnew 83 = .ok (.aload_n 0, 1) := by decide +kernel
theorem dX10_rowsAnew_84 : decode cX10_rowsAnew 84 = .ok (.getfield 53, 3) := by decide +kernel
theorem dX10_rowsAnew_87 : decode cX10_rowsAnew 87 = .ok (.iload_n 3, 1) := by decide +kernel
theorem dX10_rowsAnew_88 : decode cX10_rowsAnew 88 = .ok (.iaload, 1) := by decide +kernel
theorem dX10_rowsAnew_89 : decode cX10_rowsAnew 89 = .ok (.iconst 4, 1) := by decide +kernel
theorem dX10_rowsAnew_90 : decode cX10_rowsAnew 90 = .ok (.if_icmp .ge 46, 3) := by decide +kernel
theorem dX10_rowsAnew_93 : decode cX10_rowsAnew 93 = .ok (.aload_n 0, 1) := by decide +kernel
theorem dX10_rowsAnew_94 : decode cX10_rowsAnew 94 = .ok (.getfield 56, 3) := by decide +kernel
theorem dX10_rowsAnew_97 : decode cX10_rowsAnew 97 = .ok (.iconst 4, 1) := by decide +kernel
theorem dX10_rowsAnew_98 : decode cX10_rowsAnew 98 = .ok (.iload_n 3, 1) := by decide +kernel
theorem dX10_rowsAnew_99 : decode cX10_rowsAnew 99 = .ok (.imul, 1) := by decide +kernel
theorem dX10_rowsAnew_100 : decode cX10_rowsAnew 100 = .ok (.aload_n 0, 1) := by decide +kernel
theorem dX10_rowsAnew_101 : decode cX10_rowsAnew 101 = .ok (.getfield 53, 3) := by decide +kernel
theorem dX10_rowsAnew_104 : decode cX10_rowsAnew 104 = .ok (.iload_n 3, 1) := by decide +kernel
theorem dX10_rowsAnew_105 : decode cX10_rowsAnew 105 = .ok (.iaload, 1) := by decide +kernel
theorem dX10_rowsAnew_106 : decode cX10_rowsAnew 106 = .ok (.iadd, 1) := by decide +kernel
theorem dX10_rowsAnew_107 : decode cX10_rowsAnew 107 = .ok (.aload_n 0, 1) := by decide +kernel
theorem dX10_rowsAnew_108 : decode cX10_rowsAnew 108 = .ok (.getfield 56, 3) := by decide +kernel
theorem dX10_rowsAnew_111 : decode cX10_rowsAnew 111 = .ok (.iconst 4, 1) := by decide +kernel
theorem dX10_rowsAnew_112 : decode cX10_rowsAnew 112 = .ok (.iload 5, 2) := by decide +kernel
theorem dX10_rowsAnew_114 : decode cX10_rowsAnew 114 = .ok (.imul, 1) := by decide +kernel
theorem dX10_rowsAnew_115 : decode cX10_rowsAnew 115 = .ok (.iload 6, 2) := by decide +kernel
theorem dX10_rowsAnew_117 : decode cX10_rowsAnew 117 = .ok (.iadd, 1) := by decide +kernel
theorem dX10_rowsAnew_118 : decode cX10_rowsAnew 118 = .ok (.iaload, 1) := by decide +kernel
theorem dX10_rowsAnew_119 : decode cX10_rowsAnew 119 = .ok (.iastore, 1) := by decide +kernel
theorem dX10_rowsAnew_120 : decode cX10_rowsAnew 120 = .ok (.aload_n 0, 1) := by decide +kernel
theorem dX10_rowsAnew_121 : decode cX10_rowsAnew 121 = .ok (.getfield 53, 3) := by decide +kernel
theorem dX10_rowsAnew_124 : decode cX10_rowsAnew 124 = .ok (.iload_n 3, 1) := by decide +kernel
theorem dX10_rowsAnew_125 : decode cX10_rowsAnew 125 = .ok (.dup2, 1) := by decide +kernel
theorem dX10_rowsAnew_126 : decode cX10_rowsAnew 126 = .ok (.iaload, 1) := by decide +kernel
theorem dX10_rowsAnew_127 : decode cX10_rowsAnew 127 = .ok (.iconst 1, 1) := by decide +kernel
theorem dX10_rowsAnew_128 : decode cX10_rowsAnew 128 = .ok (.iadd, 1) := by decide +kernel
theorem dX10_rowsAnew_129 : decode cX10_rowsAnew 129 = .ok (.iastore, 1) := by decide +kernel
theorem dX10_rowsAnew_130 : decode cX10_rowsAnew 130 = .ok (.iinc 6 1, 3) := by decide +kernel
theorem dX10_rowsAnew_133 : decode cX10_rowsAnew 133 = .ok (.goto (-62), 3) := by decide +kernel
theorem dX10_rowsAnew_136 : decode cX10_rowsAnew 136 = .ok (.iinc 4 1, 3) := by decide +kernel
theorem dX10_rowsAnew_139 : decode cX10_rowsAnew 139 = .ok (.goto (-114), 3) := by decide +kernel
theorem dX10_rowsAnew_142 : decode cX10_rowsAnew 142 = .ok (.iinc 2 1, 3) := by decide +kernel
theorem dX10_rowsAnew_145 : decode cX10_rowsAnew 145 = .ok (.goto (-143), 3) := by decide +kernel
theorem dX10_rowsAnew_148 : decode cX10_rowsAnew 148 = .ok (.return_, 1) := by decide +kernel
theorem dX10_value_0 : decode cX10_value 0 = .ok (.iload_n 1, 1) := by decide +kernel
theorem dX10_value_1 : decode cX10_value 1 = .ok (.iconst 1, 1) := by decide +kernel
theorem dX10_value_2 : decode cX10_value 2 = .ok (.aload_n 0, 1) := by decide +kernel
theorem dX10_value_3 : decode cX10_value 3 = .ok (.getfield 119, 3) := by decide +kernel
theorem dX10_value_6 : decode cX10_value 6 = .ok (.invokestatic 102, 3) := by decide +kernel
theorem dX10_value_9 : decode cX10_value 9 = .ok (.ifCond .ne 6, 3) := by decide +kernel
theorem dX10_value_12 : decode cX10_value 12 = .ok (.bipush (-2), 2) := by decide +kernel
theorem dX10_value_14 : decode cX10_value 14 = .ok (.ireturn, 1) := by decide +kernel
theorem dX10_value_15 : decode cX10_value 15 = .ok (.iload_n 2, 1) := by decide +kernel
theorem dX10_value_16 : decode cX10_value 16 = .ok (.iconst 0, 1) := by decide +kernel
theorem dX10_value_17 : decode cX10_value 17 = .ok (.bipush 11, 2) := by decide +kernel
theorem dX10_value_19 : decode cX10_value 19 = .ok (.invokestatic 102, 3) := by decide +kernel
theorem dX10_value_22 : decode cX10_value 22 = .ok (.ifCond .eq 27, 3) := by decide +kernel
theorem dX10_value_25 : decode cX10_value 25 = .ok (.iload_n 3, 1) := by decide +kernel
theorem dX10_value_26 : decode cX10_value 26 = .ok (.iconst 0, 1) := by decide +kernel
theorem dX10_value_27 : decode cX10_value 27 = .ok (.iconst 3, 1) := by decide +kernel
theorem dX10_value_28 : decode cX10_value 28 = .ok (.invokestatic 102, 3) := by decide +kernel
theorem dX10_value_31 : decode cX10_value 31 = .ok (.ifCond .eq 18, 3) := by decide +kernel
theorem dX10_value_34 : decode cX10_value 34 = .ok (.iload_n 3, 1) := by decide +kernel
theorem dX10_value_35 : decode cX10_value 35 = .ok (.aload_n 0, 1) := by decide +kernel
theorem dX10_value_36 : decode cX10_value 36 = .ok (.getfield 53, 3) := by decide +kernel
theorem dX10_value_39 : decode cX10_value 39 = .ok (.bipush 12, 2) := by decide +kernel
theorem dX10_value_41 : decode cX10_value 41 = .ok (.iload_n 1, 1) := by decide +kernel
theorem dX10_value_42 : decode cX10_value 42 = .ok (.imul, 1) := by decide +kernel
theorem dX10_value_43 : decode cX10_value 43 = .ok (.iload_n 2, 1) := by decide +kernel
theorem dX10_value_44 : decode cX10_value 44 = .ok (.iadd, 1) := by decide +kernel
theorem dX10_value_45 : decode cX10_value 45 = .ok (.iaload, 1) := by decide +kernel
theorem dX10_value_46 : decode cX10_value 46 = .ok (.if_icmp .le 6, 3) := by decide +kernel
theorem dX10_value_49 : decode cX10_value 49 = .ok (.bipush (-3), 2) := by decide +kernel
theorem dX10_value_51 : decode cX10_value 51 = .ok (.ireturn, 1) := by decide +kernel
theorem dX10_value_52 : decode cX10_value 52 = .ok (.bipush 12, 2) := by decide +kernel
theorem dX10_value_54 : decode cX10_value 54 = .ok (.iload_n 1, 1) := by decide +kernel
theorem dX10_value_55 : decode cX10_value 55 = .ok (.imul, 1) := by decide +kernel
theorem dX10_value_56 : decode cX10_value 56 = .ok (.iload_n 2, 1) := by decide +kernel
theorem dX10_value_57 : decode cX10_value 57 = .ok (.iadd, 1) := by decide +kernel
theorem dX10_value_58 : decode cX10_value 58 = .ok (.istore 5, 2) := by decide +kernel
theorem dX10_value_60 : decode cX10_value 60 = .ok (.aload_n 0, 1) := by decide +kernel
theorem dX10_value_61 : decode cX10_value 61 = .ok (.getfield 56, 3) := by decide +kernel
theorem dX10_value_64 : decode cX10_value 64 = .ok (.iconst 4, 1) := by decide +kernel
theorem dX10_value_65 : decode cX10_value 65 = .ok (.iload 5, 2) := by decide +kernel
theorem dX10_value_67 : decode cX10_value 67 = .ok (.imul, 1) := by decide +kernel
theorem dX10_value_68 : decode cX10_value 68 = .ok (.iload_n 3, 1) := by decide +kernel
theorem dX10_value_69 : decode cX10_value 69 = .ok (.iadd, 1) := by decide +kernel
theorem dX10_value_70 : decode cX10_value 70 = .ok (.iload 4, 2) := by decide +kernel
theorem dX10_value_72 : decode cX10_value 72 = .ok (.iastore, 1) := by decide +kernel
theorem dX10_value_73 : decode cX10_value 73 = .ok (.aload_n 0, 1) := by decide +kernel
theorem dX10_value_74 : decode cX10_value 74 = .ok (.getfield 53, 3) := by decide +kernel
theorem dX10_value_77 : decode cX10_value 77 = .ok (.iload 5, 2) := by decide +kernel
theorem dX10_value_79 : decode cX10_value 79 = .ok (.iload_n 3, 1) := by decide +kernel
theorem dX10_value_80 : decode cX10_value 80 = .ok (.aload_n 0, 1) := by decide +kernel
theorem dX10_value_81 : decode cX10_value 81 = .ok (.getfield 53, 3) := by decide +kernel
theorem dX10_value_84 : decode cX10_value 84 = .ok (.iload 5, 2) := by decide +kernel
theorem dX10_value_86 : decode cX10_value 86 = .ok (.iaload, 1) := by decide +kernel
theorem dX10_value_87 : decode cX10_value 87 = .ok (.if_icmp .ne 9, 3) := by decide +kernel
theorem dX10_value_90 : decode cX10_value 90 = .ok (.iload_n 3, 1) := by decide +kernel
theorem dX10_value_91 : decode cX10_value 91 = .ok (.iconst 1, 1) := by decide +kernel
theorem dX10_value_92 : decode cX10_value 92 = .ok (.iadd, 1) := by decide +kernel
theorem dX10_value_93 : decode cX10_value 93 = .ok (.goto 10, 3) := by decide +kernel
theorem dX10_value_96 : decode cX10_value 96 = .ok (.aload_n 0, 1) := by decide +kernel
theorem dX10_value_97 : decode cX10_value 97 = .ok (.getfield 53, 3) := by decide +kernel
theorem dX10_value_100 : decode cX10_value 100 = .ok (.iload 5, 2) := by decide +kernel
theorem dX10_value_102 : decode cX10_value 102 = .ok (.iaload, 1) := by decide +kernel
theorem dX10_value_103 : decode cX10_value 103 = .ok (.iastore, 1) := by decide +kernel
theorem dX10_value_104 : decode cX10_value 104 = .ok (.aload_n 0, 1) := by decide +kernel
theorem dX10_value_105 : decode cX10_value 105 = .ok (.getfield 53, 3) := by decide +kernel
theorem dX10_value_108 : decode cX10_value 108 = .ok (.iload 5, 2) := by decide +kernel
theorem dX10_value_110 : decode cX10_value 110 = .ok (.iaload, 1) := by decide +kernel
theorem dX10_value_111 : decode cX10_value 111 = .ok (.ireturn, 1) := by decide +kernel
theorem dX10_called_0 : decode cX10_called 0 = .ok (.iload_n 1, 1) := by decide +kernel
theorem dX10_called_1 : decode cX10_called 1 = .ok (.iconst 1, 1) := by decide +kernel
theorem dX10_called_2 : decode cX10_called 2 = .ok (.aload_n 0, 1) := by decide +kernel
theorem dX10_called_3 : decode cX10_called 3 = .ok (.getfield 119, 3) := by decide +kernel
theorem dX10_called_6 : decode cX10_called 6 = .ok (.invokestatic 102, 3) := by decide +kernel
theorem dX10_called_9 : decode cX10_called 9 = .ok (.ifCond .eq 16, 3) := by decide +kernel
theorem dX10_called_12 : decode cX10_called 12 = .ok (.iload_n 2, 1) := by decide +kernel
theorem dX10_called_13 : decode cX10_called 13 = .ok (.ifCond .eq 15, 3) := by decide +kernel
theorem dX10_called_16 : decode cX10_called 16 = .ok (.aload_n 0, 1) := by decide +kernel
theorem dX10_called_17 : decode cX10_called 17 = .ok (.iload_n 2, 1) := by decide +kernel
theorem dX10_called_18 : decode cX10_called 18 = .ok (.invokevirtual 141, 3) := by decide +kernel
theorem dX10_called_21 : decode cX10_called 21 = .ok (.iconst 3, 1) := by decide +kernel
theorem dX10_called_22 : decode cX10_called 22 = .ok (.if_icmp .eq 6, 3) := by decide +kernel
theorem dX10_called_25 : decode cX10_called 25 = .ok (.bipush (-2), 2) := by decide +kernel
theorem dX10_called_27 : decode cX10_called 27 = .ok (.ireturn, 1) := by decide +kernel
theorem dX10_called_28 : decode cX10_called 28 = .ok (.aload_n 0, 1) := by decide +kernel
theorem dX10_called_29 : decode cX10_called 29 = .ok (.getfield 59, 3) := by decide +kernel
theorem dX10_called_32 : decode cX10_called 32 = .ok (.iload_n 1, 1) := by decide +kernel
theorem dX10_called_33 : decode cX10_called 33 = .ok (.iload_n 2, 1) := by decide +kernel
theorem dX10_called_34 : decode cX10_called 34 = .ok (.iastore, 1) := by decide +kernel
theorem dX10_called_35 : decode cX10_called 35 = .ok (.aload_n 0, 1) := by decide +kernel
theorem dX10_called_36 : decode cX10_called 36 = .ok (.getfield 62, 3) := by decide +kernel
theorem dX10_called_39 : decode cX10_called 39 = .ok (.iload_n 1, 1) := by decide +kernel
theorem dX10_called_40 : decode cX10_called 40 = .ok (.iload_n 3, 1) := by decide +kernel
theorem dX10_called_41 : decode cX10_called 41 = .ok (.bastore, 1) := by decide +kernel
theorem dX10_called_42 : decode cX10_called 42 = .ok (.iconst 1, 1) := by decide +kernel
theorem dX10_called_43 : decode cX10_called 43 = .ok (.ireturn, 1) := by decide +kernel
theorem dX10_fails_0 : decode cX10_fails 0 = .ok (.aload_n 0, 1) := by decide +kernel
theorem dX10_fails_1 : decode cX10_fails 1 = .ok (.getfield 98, 3) := by decide +kernel
theorem dX10_fails_4 : decode cX10_fails 4 = .ok (.ifCond .eq 62, 3) := by decide +kernel
theorem dX10_fails_7 : decode cX10_fails 7 = .ok (.aload_n 0, 1) := by decide +kernel
theorem dX10_fails_8 : decode cX10_fails 8 = .ok (.getfield 145, 3) := by decide +kernel
theorem dX10_fails_11 : decode cX10_fails 11 = .ok (.bipush 30, 2) := by decide +kernel
theorem dX10_fails_13 : decode cX10_fails 13 = .ok (.if_icmp .ge 53, 3) := by decide +kernel
theorem dX10_fails_16 : decode cX10_fails 16 = .ok (.aload_n 0, 1) := by decide +kernel
theorem dX10_fails_17 : decode cX10_fails 17 = .ok (.getfield 74, 3) := by decide +kernel
theorem dX10_fails_20 : decode cX10_fails 20 = .ok (.iconst 3, 1) := by decide +kernel
theorem dX10_fails_21 : decode cX10_fails 21 = .ok (.aload_n 0, 1) := by decide +kernel
theorem dX10_fails_22 : decode cX10_fails 22 = .ok (.getfield 145, 3) := by decide +kernel
theorem dX10_fails_25 : decode cX10_fails 25 = .ok (.imul, 1) := by decide +kernel
theorem dX10_fails_26 : decode cX10_fails 26 = .ok (.iload_n 1, 1) := by decide +kernel
theorem dX10_fails_27 : decode cX10_fails 27 = .ok (.iastore, 1) := by decide +kernel
theorem dX10_fails_28 : decode cX10_fails 28 = .ok (.aload_n 0, 1) := by decide +kernel
theorem dX10_fails_29 : decode cX10_fails 29 = .ok (.getfield 74, 3) := by decide +kernel
theorem dX10_fails_32 : decode cX10_fails 32 = .ok (.iconst 3, 1) := by decide +kernel
theorem dX10_fails_33 : decode cX10_fails 33 = .ok (.aload_n 0, 1) := by decide +kernel
theorem dX10_fails_34 : decode cX10_fails 34 = .ok (.getfield 145, 3) := by decide +kernel
theorem dX10_fails_37 : decode cX10_fails 37 = .ok (.imul, 1) := by decide +kernel
theorem dX10_fails_38 : decode cX10_fails 38 = .ok (.iconst 1, 1) := by decide +kernel
theorem dX10_fails_39 : decode cX10_fails 39 = .ok (.iadd, 1) := by decide +kernel
theorem dX10_fails_40 : decode cX10_fails 40 = .ok (.iload_n 2, 1) := by decide +kernel
theorem dX10_fails_41 : decode cX10_fails 41 = .ok (.iastore, 1) := by decide +kernel
theorem dX10_fails_42 : decode cX10_fails 42 = .ok (.aload_n 0, 1) := by decide +kernel
theorem dX10_fails_43 : decode cX10_fails 43 = .ok (.getfield 74, 3) := by decide +kernel
theorem dX10_fails_46 : decode cX10_fails 46 = .ok (.iconst 3, 1) := by decide +kernel
theorem dX10_fails_47 : decode cX10_fails 47 = .ok (.aload_n 0, 1) := by decide +kernel
theorem dX10_fails_48 : decode cX10_fails 48 = .ok (.getfield 145, 3) := by decide +kernel
theorem dX10_fails_51 : decode cX10_fails 51 = .ok (.imul, 1) := by decide +kernel
theorem dX10_fails_52 : decode cX10_fails 52 = .ok (.iconst 2, 1) := by decide +kernel
theorem dX10_fails_53 : decode cX10_fails 53 = .ok (.iadd, 1) := by decide +kernel
theorem dX10_fails_54 : decode cX10_fails 54 = .ok (.iload_n 3, 1) := by decide +kernel
theorem dX10_fails_55 : decode cX10_fails 55 = .ok (.iastore, 1) := by decide +kernel
theorem dX10_fails_56 : decode cX10_fails 56 = .ok (.aload_n 0, 1) := by decide +kernel
theorem dX10_fails_57 : decode cX10_fails 57 = .ok (.dup, 1) := by decide +kernel
theorem dX10_fails_58 : decode cX10_fails 58 = .ok (.getfield 145, 3) := by decide +kernel
theorem dX10_fails_61 : decode cX10_fails 61 = .ok (.iconst 1, 1) := by decide +kernel
theorem dX10_fails_62 : decode cX10_fails 62 = .ok (.iadd, 1) := by decide +kernel
theorem dX10_fails_63 : decode cX10_fails 63 = .ok (.putfield 145, 3) := by decide +kernel
theorem dX10_fails_66 : decode cX10_fails 66 = .ok (.iconst 0, 1) := by decide +kernel
theorem dX10_fails_67 : decode cX10_fails 67 = .ok (.ireturn, 1) := by decide +kernel
theorem dX10_say_0 : decode cX10_say 0 = .ok (.aload_n 0, 1) := by decide +kernel
theorem dX10_say_1 : decode cX10_say 1 = .ok (.getfield 148, 3) := by decide +kernel
theorem dX10_say_4 : decode cX10_say 4 = .ok (.sipush 400, 3) := by decide +kernel
theorem dX10_say_7 : decode cX10_say 7 = .ok (.if_icmp .ge 23, 3) := by decide +kernel
theorem dX10_say_10 : decode cX10_say 10 = .ok (.aload_n 0, 1) := by decide +kernel
theorem dX10_say_11 : decode cX10_say 11 = .ok (.getfield 77, 3) := by decide +kernel
theorem dX10_say_14 : decode cX10_say 14 = .ok (.aload_n 0, 1) := by decide +kernel
theorem dX10_say_15 : decode cX10_say 15 = .ok (.getfield 148, 3) := by decide +kernel
theorem dX10_say_18 : decode cX10_say 18 = .ok (.iload_n 1, 1) := by decide +kernel
theorem dX10_say_19 : decode cX10_say 19 = .ok (.iastore, 1) := by decide +kernel
theorem dX10_say_20 : decode cX10_say 20 = .ok (.aload_n 0, 1) := by decide +kernel
theorem dX10_say_21 : decode cX10_say 21 = .ok (.dup, 1) := by decide +kernel
theorem dX10_say_22 : decode cX10_say 22 = .ok (.getfield 148, 3) := by decide +kernel
theorem dX10_say_25 : decode cX10_say 25 = .ok (.iconst 1, 1) := by decide +kernel
theorem dX10_say_26 : decode cX10_say 26 = .ok (.iadd, 1) := by decide +kernel
theorem dX10_say_27 : decode cX10_say 27 = .ok (.putfield 148, 3) := by decide +kernel
theorem dX10_say_30 : decode cX10_say 30 = .ok (.return_, 1) := by decide +kernel
theorem dX10_sayText_0 : decode cX10_sayText 0 = .ok (.iload_n 1, 1) := by decide +kernel
theorem dX10_sayText_1 : decode cX10_sayText 1 = .ok (.bipush 101, 2) := by decide +kernel
theorem dX10_sayText_3 : decode cX10_sayText 3 = .ok (.isub, 1) := by decide +kernel
theorem dX10_sayText_4 : decode cX10_sayText 4 = .ok (.istore_n 2, 1) := by decide +kernel
theorem dX10_sayText_5 : decode cX10_sayText 5 = .ok (.iconst 0, 1) := by decide +kernel
theorem dX10_sayText_6 : decode cX10_sayText 6 = .ok (.istore_n 3, 1) := by decide +kernel
theorem dX10_sayText_7 : decode cX10_sayText 7 = .ok (.iload_n 3, 1) := by decide +kernel
theorem dX10_sayText_8 : decode cX10_sayText 8 = .ok (.aload_n 0, 1) := by decide +kernel
theorem dX10_sayText_9 : decode cX10_sayText 9 = .ok (.getfield 13, 3) := by decide +kernel
theorem dX10_sayText_12 : decode cX10_sayText 12 = .ok (.iload_n 2, 1) := by decide +kernel
theorem dX10_sayText_13 : decode cX10_sayText 13 = .ok (.iaload, 1) := by decide +kernel
theorem dX10_sayText_14 : decode cX10_sayText 14 = .ok (.if_icmp .ge 24, 3) := by decide +kernel
theorem dX10_sayText_17 : decode cX10_sayText 17 = .ok (.aload_n 0, 1) := by decide +kernel
theorem dX10_sayText_18 : decode cX10_sayText 18 = .ok (.aload_n 0, 1) := by decide +kernel
theorem dX10_sayText_19 : decode cX10_sayText 19 = .ok (.getfield 16, 3) := by decide +kernel
theorem dX10_sayText_22 : decode cX10_sayText 22 = .ok (.bipush 20, 2) := by decide +kernel
theorem dX10_sayText_24 : decode cX10_sayText 24 = .ok (.iload_n 2, 1) := by decide +kernel
theorem dX10_sayText_25 : decode cX10_sayText 25 = .ok (.imul, 1) := by decide +kernel
theorem dX10_sayText_26 : decode cX10_sayText 26 = .ok (.iload_n 3, 1) := by decide +kernel
theorem dX10_sayText_27 : decode cX10_sayText 27 = .ok (.iadd, 1) := by decide +kernel
theorem dX10_sayText_28 : decode cX10_sayText 28 = .ok (.iaload, 1) := by decide +kernel
theorem dX10_sayText_29 : decode cX10_sayText 29 = .ok (.invokevirtual 151, 3) := by decide +kernel
theorem dX10_sayText_32 : decode cX10_sayText 32 = .ok (.iinc 3 1, 3) := by decide +kernel
theorem dX10_sayText_35 : decode cX10_sayText 35 = .ok (.goto (-28), 3) := by decide +kernel
theorem dX10_sayText_38 : decode cX10_sayText 38 = .ok (.return_, 1) := by decide +kernel
theorem dX10_sayNumber_0 : decode cX10_sayNumber 0 = .ok (.aload_n 0, 1) := by decide +kernel
theorem dX10_sayNumber_1 : decode cX10_sayNumber 1 = .ok (.bipush 40, 2) := by decide +kernel
theorem dX10_sayNumber_3 : decode cX10_sayNumber 3 = .ok (.invokevirtual 151, 3) := by decide +kernel
theorem dX10_sayNumber_6 : decode cX10_sayNumber 6 = .ok (.iload_n 1, 1) := by decide +kernel
theorem dX10_sayNumber_7 : decode cX10_sayNumber 7 = .ok (.bipush 9, 2) := by decide +kernel
theorem dX10_sayNumber_9 : decode cX10_sayNumber 9 = .ok (.if_icmp .le 14, 3) := by decide +kernel
theorem dX10_sayNumber_12 : decode cX10_sayNumber 12 = .ok (.aload_n 0, 1) := by decide +kernel
theorem dX10_sayNumber_13 : decode cX10_sayNumber 13 = .ok (.bipush 48, 2) := by decide +kernel
theorem dX10_sayNumber_15 : decode cX10_sayNumber 15 = .ok (.iload_n 1, 1) := by decide +kernel
theorem dX10_sayNumber_16 : decode cX10_sayNumber 16 = .ok (.bipush 10, 2) := by decide +kernel
theorem dX10_sayNumber_18 : decode cX10_sayNumber 18 = .ok (.idiv, 1) := by decide +kernel
theorem dX10_sayNumber_19 : decode cX10_sayNumber 19 = .ok (.iadd, 1) := by decide +kernel
theorem dX10_sayNumber_20 : decode cX10_sayNumber 20 = .ok (.invokevirtual 151, 3) := by decide +kernel
theorem dX10_sayNumber_23 : decode cX10_sayNumber 23 = .ok (.aload_n 0, 1) := by decide +kernel
theorem dX10_sayNumber_24 : decode cX10_sayNumber 24 = .ok (.bipush 48, 2) := by decide +kernel
theorem dX10_sayNumber_26 : decode cX10_sayNumber 26 = .ok (.iload_n 1, 1) := by decide +kernel
theorem dX10_sayNumber_27 : decode cX10_sayNumber 27 = .ok (.bipush 10, 2) := by decide +kernel
theorem dX10_sayNumber_29 : decode cX10_sayNumber 29 = .ok (.irem, 1) := by decide +kernel
theorem dX10_sayNumber_30 : decode cX10_sayNumber 30 = .ok (.iadd, 1) := by decide +kernel
theorem dX10_sayNumber_31 : decode cX10_sayNumber 31 = .ok (.invokevirtual 151, 3) := by decide +kernel
theorem dX10_sayNumber_34 : decode cX10_sayNumber 34 = .ok (.aload_n 0, 1) := by decide +kernel
theorem dX10_sayNumber_35 : decode cX10_sayNumber 35 = .ok (.bipush 41, 2) := by decide +kernel
theorem dX10_sayNumber_37 : decode cX10_sayNumber 37 = .ok (.invokevirtual 151, 3) := by decide +kernel
theorem dX10_sayNumber_40 : decode cX10_sayNumber 40 = .ok (.return_, 1) := by decide +kernel
theorem dX10_isVowel_0 : decode cX10_isVowel 0 = .ok (.iload_n 0, 1) := by decide +kernel
theorem dX10_isVowel_1 : decode cX10_isVowel 1 = .ok (.bipush 97, 2) := by decide +kernel
theorem dX10_isVowel_3 : decode cX10_isVowel 3 = .ok (.if_icmp .eq 57, 3) := by decide +kernel
theorem dX10_isVowel_6 : decode cX10_isVowel 6 = .ok (.iload_n 0, 1) := by decide +kernel
theorem dX10_isVowel_7 : decode cX10_isVowel 7 = .ok (.bipush 101, 2) := by decide +kernel
theorem dX10_isVowel_9 : decode cX10_isVowel 9 = .ok (.if_icmp .eq 51, 3) := by decide +kernel
theorem dX10_isVowel_12 : decode cX10_isVowel 12 = .ok (.iload_n 0, 1) := by decide +kernel
theorem dX10_isVowel_13 : decode cX10_isVowel 13 = .ok (.bipush 105, 2) := by decide +kernel
theorem dX10_isVowel_15 : decode cX10_isVowel 15 = .ok (.if_icmp .eq 45, 3) := by decide +kernel
theorem dX10_isVowel_18 : decode cX10_isVowel 18 = .ok (.iload_n 0, 1) := by decide +kernel
theorem dX10_isVowel_19 : decode cX10_isVowel 19 = .ok (.bipush 111, 2) := by decide +kernel
theorem dX10_isVowel_21 : decode cX10_isVowel 21 = .ok (.if_icmp .eq 39, 3) := by decide +kernel
theorem dX10_isVowel_24 : decode cX10_isVowel 24 = .ok (.iload_n 0, 1) := by decide +kernel
theorem dX10_isVowel_25 : decode cX10_isVowel 25 = .ok (.bipush 117, 2) := by decide +kernel
theorem dX10_isVowel_27 : decode cX10_isVowel 27 = .ok (.if_icmp .eq 33, 3) := by decide +kernel
theorem dX10_isVowel_30 : decode cX10_isVowel 30 = .ok (.iload_n 0, 1) := by decide +kernel
theorem dX10_isVowel_31 : decode cX10_isVowel 31 = .ok (.bipush 65, 2) := by decide +kernel
theorem dX10_isVowel_33 : decode cX10_isVowel 33 = .ok (.if_icmp .eq 27, 3) := by decide +kernel
theorem dX10_isVowel_36 : decode cX10_isVowel 36 = .ok (.iload_n 0, 1) := by decide +kernel
theorem dX10_isVowel_37 : decode cX10_isVowel 37 = .ok (.bipush 69, 2) := by decide +kernel
theorem dX10_isVowel_39 : decode cX10_isVowel 39 = .ok (.if_icmp .eq 21, 3) := by decide +kernel
theorem dX10_isVowel_42 : decode cX10_isVowel 42 = .ok (.iload_n 0, 1) := by decide +kernel
theorem dX10_isVowel_43 : decode cX10_isVowel 43 = .ok (.bipush 73, 2) := by decide +kernel
theorem dX10_isVowel_45 : decode cX10_isVowel 45 = .ok (.if_icmp .eq 15, 3) := by decide +kernel
theorem dX10_isVowel_48 : decode cX10_isVowel 48 = .ok (.iload_n 0, 1) := by decide +kernel
theorem dX10_isVowel_49 : decode cX10_isVowel 49 = .ok (.bipush 79, 2) := by decide +kernel
theorem dX10_isVowel_51 : decode cX10_isVowel 51 = .ok (.if_icmp .eq 9, 3) := by decide +kernel
theorem dX10_isVowel_54 : decode cX10_isVowel 54 = .ok (.iload_n 0, 1) := by decide +kernel
theorem dX10_isVowel_55 : decode cX10_isVowel 55 = .ok (.bipush 85, 2) := by decide +kernel
theorem dX10_isVowel_57 : decode cX10_isVowel 57 = .ok (.if_icmp .ne 7, 3) := by decide +kernel
theorem dX10_isVowel_60 : decode cX10_isVowel 60 = .ok (.iconst 1, 1) := by decide +kernel
theorem dX10_isVowel_61 : decode cX10_isVowel 61 = .ok (.goto 4, 3) := by decide +kernel
theorem dX10_isVowel_64 : decode cX10_isVowel 64 = .ok (.iconst 0, 1) := by decide +kernel
theorem dX10_isVowel_65 : decode cX10_isVowel 65 = .ok (.ireturn, 1) := by decide +kernel
theorem dX10_sayArticle_0 : decode cX10_sayArticle 0 = .ok (.iload_n 2, 1) := by decide +kernel
theorem dX10_sayArticle_1 : decode cX10_sayArticle 1 = .ok (.iconst 2, 1) := by decide +kernel
theorem dX10_sayArticle_2 : decode cX10_sayArticle 2 = .ok (.if_icmp .ne 53, 3) := by decide +kernel
theorem dX10_sayArticle_5 : decode cX10_sayArticle 5 = .ok (.iload_n 1, 1) := by decide +kernel
theorem dX10_sayArticle_6 : decode cX10_sayArticle 6 = .ok (.bipush 101, 2) := by decide +kernel
theorem dX10_sayArticle_8 : decode cX10_sayArticle 8 = .ok (.isub, 1) := by decide +kernel
theorem dX10_sayArticle_9 : decode cX10_sayArticle 9 = .ok (.istore_n 3, 1) := by decide +kernel
theorem dX10_sayArticle_10 : decode cX10_sayArticle 10 = .ok (.aload_n 0, 1) := by decide +kernel
theorem dX10_sayArticle_11 : decode cX10_sayArticle 11 = .ok (.bipush 97, 2) := by decide +kernel
theorem dX10_sayArticle_13 : decode cX10_sayArticle 13 = .ok (.invokevirtual 151, 3) := by decide +kernel
theorem dX10_sayArticle_16 : decode cX10_sayArticle 16 = .ok (.aload_n 0, 1) := by decide +kernel
theorem dX10_sayArticle_17 : decode cX10_sayArticle 17 = .ok (.getfield 13, 3) := by decide +kernel
theorem dX10_sayArticle_20 : decode cX10_sayArticle 20 = .ok (.iload_n 3, 1) := by decide +kernel
theorem dX10_sayArticle_21 : decode cX10_sayArticle 21 = .ok (.iaload, 1) := by decide +kernel
theorem dX10_sayArticle_22 : decode cX10_sayArticle 22 = .ok (.ifCond .le 24, 3) := by decide +kernel
theorem dX10_sayArticle_25 : decode cX10_sayArticle 25 = .ok (.aload_n 0, 1) := by decide +kernel
theorem dX10_sayArticle_26 : decode cX10_sayArticle 26 = .ok (.getfield 16, 3) := by decide +kernel
theorem dX10_sayArticle_29 : decode cX10_sayArticle 29 = .ok (.bipush 20, 2) := by decide +kernel
theorem dX10_sayArticle_31 : decode cX10_sayArticle 31 = .ok (.iload_n 3, 1) := by decide +kernel
theorem dX10_sayArticle_32 : decode cX10_sayArticle 32 = .ok (.imul, 1) := by decide +kernel
theorem dX10_sayArticle_33 : decode cX10_sayArticle 33 = .ok (.iaload, 1) := by decide +kernel
theorem dX10_sayArticle_34 : decode cX10_sayArticle 34 = .ok (.invokestatic 154, 3) := by decide +kernel
theorem dX10_sayArticle_37 : decode cX10_sayArticle 37 = .ok (.ifCond .eq 9, 3) := by decide +kernel
theorem dX10_sayArticle_40 : decode cX10_sayArticle 40 = .ok (.aload_n 0, 1) := by decide +kernel
theorem dX10_sayArticle_41 : decode cX10_sayArticle 41 = .ok (.bipush 110, 2) := by decide +kernel
theorem dX10_sayArticle_43 : decode cX10_sayArticle 43 = .ok (.invokevirtual 151, 3) := by decide +kernel
theorem dX10_sayArticle_46 : decode cX10_sayArticle 46 = .ok (.aload_n 0, 1) := by decide +kernel
theorem dX10_sayArticle_47 : decode cX10_sayArticle 47 = .ok (.bipush 32, 2) := by decide +kernel
theorem dX10_sayArticle_49 : decode cX10_sayArticle 49 = .ok (.invokevirtual 151, 3) := by decide +kernel
theorem dX10_sayArticle_52 : decode cX10_sayArticle 52 = .ok (.goto 47, 3) := by decide +kernel
theorem dX10_sayArticle_55 : decode cX10_sayArticle 55 = .ok (.iload_n 2, 1) := by decide +kernel
theorem dX10_sayArticle_56 : decode cX10_sayArticle 56 = .ok (.iconst 1, 1) := by decide +kernel
theorem dX10_sayArticle_57 : decode cX10_sayArticle 57 = .ok (.if_icmp .eq 8, 3) := by decide +kernel
theorem dX10_sayArticle_60 : decode cX10_sayArticle 60 = .ok (.iload_n 2, 1) := by decide +kernel
theorem dX10_sayArticle_61 : decode cX10_sayArticle 61 = .ok (.iconst 3, 1) := by decide +kernel
theorem dX10_sayArticle_62 : decode cX10_sayArticle 62 = .ok (.if_icmp .ne 37, 3) := by decide +kernel
theorem dX10_sayArticle_65 : decode cX10_sayArticle 65 = .ok (.aload_n 0, 1) := by decide +kernel
theorem dX10_sayArticle_66 : decode cX10_sayArticle 66 = .ok (.iload_n 2, 1) := by decide +kernel
theorem dX10_sayArticle_67 : decode cX10_sayArticle 67 = .ok (.iconst 1, 1) := by decide +kernel
theorem dX10_sayArticle_68 : decode cX10_sayArticle 68 = .ok (.if_icmp .ne 8, 3) := by decide +kernel
theorem dX10_sayArticle_71 : decode cX10_sayArticle 71 = .ok (.bipush 116, 2) := by decide +kernel
theorem dX10_sayArticle_73 : decode cX10_sayArticle 73 = .ok (.goto 5, 3) := by decide +kernel
theorem dX10_sayArticle_76 : decode cX10_sayArticle 76 = .ok (.bipush 84, 2) := by decide +kernel
theorem dX10_sayArticle_78 : decode cX10_sayArticle 78 = .ok (.invokevirtual 151, 3) := by decide +kernel
theorem dX10_sayArticle_81 : decode cX10_sayArticle 81 = .ok (.aload_n 0, 1) := by decide +kernel
theorem dX10_sayArticle_82 : decode cX10_sayArticle 82 = .ok (.bipush 104, 2) := by decide +kernel
theorem dX10_sayArticle_84 : decode cX10_sayArticle 84 = .ok (.invokevirtual 151, 3) := by decide +kernel
theorem dX10_sayArticle_87 : decode cX10_sayArticle 87 = .ok (.aload_n 0, 1) := by decide +kernel
theorem dX10_sayArticle_88 : decode cX10_sayArticle 88 = .ok (.bipush 101, 2) := by decide +kernel
theorem dX10_sayArticle_90 : decode cX10_sayArticle 90 = .ok (.invokevirtual 151, 3) := by decide +kernel
theorem dX10_sayArticle_93 : decode cX10_sayArticle 93 = .ok (.aload_n 0, 1) := by decide +kernel
theorem dX10_sayArticle_94 : decode cX10_sayArticle 94 = .ok (.bipush 32, 2) := by decide +kernel
theorem dX10_sayArticle_96 : decode cX10_sayArticle 96 = .ok (.invokevirtual 151, 3) := by decide +kernel
theorem dX10_sayArticle_99 : decode cX10_sayArticle 99 = .ok (.return_, 1) := by decide +kernel
theorem dX10_name_0 : decode cX10_name 0 = .ok (.aload_n 0, 1) := by decide +kernel
theorem dX10_name_1 : decode cX10_name 1 = .ok (.iload_n 1, 1) := by decide +kernel
theorem dX10_name_2 : decode cX10_name 2 = .ok (.invokevirtual 141, 3) := by decide +kernel
theorem dX10_name_5 : decode cX10_name 5 = .ok (.istore_n 3, 1) := by decide +kernel
theorem dX10_name_6 : decode cX10_name 6 = .ok (.iload_n 1, 1) := by decide +kernel
theorem dX10_name_7 : decode cX10_name 7 = .ok (.ifCond .ne 48, 3) := by decide +kernel
theorem dX10_name_10 : decode cX10_name 10 = .ok (.aload_n 0, 1) := by decide +kernel
theorem dX10_name_11 : decode cX10_name 11 = .ok (.bipush 110, 2) := by decide +kernel
theorem dX10_name_13 : decode cX10_name 13 = .ok (.invokevirtual 151, 3) := by decide +kernel
theorem dX10_name_16 : decode cX10_name 16 = .ok (.aload_n 0, 1) := by decide +kernel
theorem dX10_name_17 : decode cX10_name 17 = .ok (.bipush 111, 2) := by decide +kernel
theorem dX10_name_19 : decode cX10_name 19 = .ok (.invokevirtual 151, 3) := by decide +kernel
theorem dX10_name_22 : decode cX10_name 22 = .ok (.aload_n 0, 1) := by decide +kernel
theorem dX10_name_23 : decode cX10_name 23 = .ok (.bipush 116, 2) := by decide +kernel
theorem dX10_name_25 : decode cX10_name 25 = .ok (.invokevirtual 151, 3) := by decide +kernel
theorem dX10_name_28 : decode cX10_name 28 = .ok (.aload_n 0, 1) := by decide +kernel
theorem dX10_name_29 : decode cX10_name 29 = .ok (.bipush 104, 2) := by decide +kernel
theorem dX10_name_31 : decode cX10_name 31 = .ok (.invokevirtual 151, 3) := by decide +kernel
theorem dX10_name_34 : decode cX10_name 34 = .ok (.aload_n 0, 1) := by decide +kernel
theorem dX10_name_35 : decode cX10_name 35 = .ok (.bipush 105, 2) := by decide +kernel
theorem dX10_name_37 : decode cX10_name 37 = .ok (.invokevirtual 151, 3) := by decide +kernel
theorem dX10_name_40 : decode cX10_name 40 = .ok (.aload_n 0, 1) := by decide +kernel
theorem dX10_name_41 : decode cX10_name 41 = .ok (.bipush 110, 2) := by decide +kernel
theorem dX10_name_43 : decode cX10_name 43 = .ok (.invokevirtual 151, 3) := by decide +kernel
theorem dX10_name_46 : decode cX10_name 46 = .ok (.aload_n 0, 1) := by decide +kernel
theorem dX10_name_47 : decode cX10_name 47 = .ok (.bipush 103, 2) := by decide +kernel
theorem dX10_name_49 : decode cX10_name 49 = .ok (.invokevirtual 151, 3) := by decide +kernel
theorem dX10_name_52 : decode cX10_name 52 = .ok (.goto 145, 3) := by decide +kernel
theorem dX10_name_55 : decode cX10_name 55 = .ok (.iload_n 3, 1) := by decide +kernel
theorem dX10_name_56 : decode cX10_name 56 = .ok (.iconst 1, 1) := by decide +kernel
theorem dX10_name_57 : decode cX10_name 57 = .ok (.if_icmp .eq 47, 3) := by decide +kernel
theorem dX10_name_60 : decode cX10_name 60 = .ok (.iload_n 3, 1) := by decide +kernel
theorem dX10_name_61 : decode cX10_name 61 = .ok (.iconst 2, 1) := by decide +kernel
theorem dX10_name_62 : decode cX10_name 62 = .ok (.if_icmp .eq 42, 3) := by decide +kernel
theorem dX10_name_65 : decode cX10_name 65 = .ok (.aload_n 0, 1) := by decide +kernel
theorem dX10_name_66 : decode cX10_name 66 = .ok (.bipush 40, 2) := by decide +kernel
theorem dX10_name_68 : decode cX10_name 68 = .ok (.invokevirtual 151, 3) := by decide +kernel
theorem dX10_name_71 : decode cX10_name 71 = .ok (.aload_n 0, 1) := by decide +kernel
theorem dX10_name_72 : decode cX10_name 72 = .ok (.bipush 110, 2) := by decide +kernel
theorem dX10_name_74 : decode cX10_name 74 = .ok (.invokevirtual 151, 3) := by decide +kernel
theorem dX10_name_77 : decode cX10_name 77 = .ok (.aload_n 0, 1) := by decide +kernel
theorem dX10_name_78 : decode cX10_name 78 = .ok (.bipush 111, 2) := by decide +kernel
theorem dX10_name_80 : decode cX10_name 80 = .ok (.invokevirtual 151, 3) := by decide +kernel
theorem dX10_name_83 : decode cX10_name 83 = .ok (.aload_n 0, 1) := by decide +kernel
theorem dX10_name_84 : decode cX10_name 84 = .ok (.bipush 110, 2) := by decide +kernel
theorem dX10_name_86 : decode cX10_name 86 = .ok (.invokevirtual 151, 3) := by decide +kernel
theorem dX10_name_89 : decode cX10_name 89 = .ok (.aload_n 0, 1) := by decide +kernel
theorem dX10_name_90 : decode cX10_name 90 = .ok (.bipush 101, 2) := by decide +kernel
theorem dX10_name_92 : decode cX10_name 92 = .ok (.invokevirtual 151, 3) := by decide +kernel
theorem dX10_name_95 : decode cX10_name 95 = .ok (.aload_n 0, 1) := by decide +kernel
theorem dX10_name_96 : decode cX10_name 96 = .ok (.bipush 41, 2) := by decide +kernel
theorem dX10_name_98 : decode cX10_name 98 = .ok (.invokevirtual 151, 3) := by decide +kernel
theorem dX10_name_101 : decode cX10_name 101 = .ok (.goto 96, 3) := by decide +kernel
theorem dX10_name_104 : decode cX10_name 104 = .ok (.iload_n 3, 1) := by decide +kernel
theorem dX10_name_105 : decode cX10_name 105 = .ok (.iconst 1, 1) := by decide +kernel
theorem dX10_name_106 : decode cX10_name 106 = .ok (.if_icmp .ne 39, 3) := by decide +kernel
theorem dX10_name_109 : decode cX10_name 109 = .ok (.aload_n 0, 1) := by decide +kernel
theorem dX10_name_110 : decode cX10_name 110 = .ok (.bipush 99, 2) := by decide +kernel
theorem dX10_name_112 : decode cX10_name 112 = .ok (.invokevirtual 151, 3) := by decide +kernel
theorem dX10_name_115 : decode cX10_name 115 = .ok (.aload_n 0, 1) := by decide +kernel
theorem dX10_name_116 : decode cX10_name 116 = .ok (.bipush 108, 2) := by decide +kernel
theorem dX10_name_118 : decode cX10_name 118 = .ok (.invokevirtual 151, 3) := by decide +kernel
theorem dX10_name_121 : decode cX10_name 121 = .ok (.aload_n 0, 1) := by decide +kernel
theorem dX10_name_122 : decode cX10_name 122 = .ok (.bipush 97, 2) := by decide +kernel
theorem dX10_name_124 : decode cX10_name 124 = .ok (.invokevirtual 151, 3) := by decide +kernel
theorem dX10_name_127 : decode cX10_name 127 = .ok (.aload_n 0, 1) := by decide +kernel
theorem dX10_name_128 : decode cX10_name 128 = .ok (.bipush 115, 2) := by decide +kernel
theorem dX10_name_130 : decode cX10_name 130 = .ok (.invokevirtual 151, 3) := by decide +kernel
theorem dX10_name_133 : decode cX10_name 133 = .ok (.aload_n 0, 1) := by decide +kernel
theorem dX10_name_134 : decode cX10_name 134 = .ok (.bipush 115, 2) := by decide +kernel
theorem dX10_name_136 : decode cX10_name 136 = .ok (.invokevirtual 151, 3) := by decide +kernel
theorem dX10_name_139 : decode cX10_name 139 = .ok (.aload_n 0, 1) := by decide +kernel
theorem dX10_name_140 : decode cX10_name 140 = .ok (.bipush 32, 2) := by decide +kernel
theorem dX10_name_142 : decode cX10_name 142 = .ok (.invokevirtual 151, 3) := by decide +kernel
theorem dX10_name_145 : decode cX10_name 145 = .ok (.aload_n 0, 1) := by decide +kernel
theorem dX10_name_146 : decode cX10_name 146 = .ok (.getfield 59, 3) := by decide +kernel
theorem dX10_name_149 : decode cX10_name 149 = .ok (.iload_n 1, 1) := by decide +kernel
theorem dX10_name_150 : decode cX10_name 150 = .ok (.iaload, 1) := by decide +kernel
theorem dX10_name_151 : decode cX10_name 151 = .ok (.ifCond .ne 11, 3) := by decide +kernel
theorem dX10_name_154 : decode cX10_name 154 = .ok (.aload_n 0, 1) := by decide +kernel
theorem dX10_name_155 : decode cX10_name 155 = .ok (.iload_n 1, 1) := by decide +kernel
theorem dX10_name_156 : decode cX10_name 156 = .ok (.invokevirtual 157, 3) := by decide +kernel
theorem dX10_name_159 : decode cX10_name 159 = .ok (.goto 38, 3) := by decide +kernel
theorem dX10_name_162 : decode cX10_name 162 = .ok (.iload_n 3, 1) := by decide +kernel
theorem dX10_name_163 : decode cX10_name 163 = .ok (.iconst 2, 1) := by decide +kernel
theorem dX10_name_164 : decode cX10_name 164 = .ok (.if_icmp .ne 23, 3) := by decide +kernel
theorem dX10_name_167 : decode cX10_name 167 = .ok (.aload_n 0, 1) := by decide +kernel
theorem dX10_name_168 : decode cX10_name 168 = .ok (.getfield 62, 3) := by decide +kernel
theorem dX10_name_171 : decode cX10_name 171 = .ok (.iload_n 1, 1) := by decide +kernel
theorem dX10_name_172 : decode cX10_name 172 = .ok (.baload, 1) := by decide +kernel
theorem dX10_name_173 : decode cX10_name 173 = .ok (.ifCond .ne 14, 3) := by decide +kernel
theorem dX10_name_176 : decode cX10_name 176 = .ok (.aload_n 0, 1) := by decide +kernel
theorem dX10_name_177 : decode cX10_name 177 = .ok (.aload_n 0, 1) := by decide +kernel
theorem dX10_name_178 : decode cX10_name 178 = .ok (.getfield 59, 3) := by decide +kernel
theorem dX10_name_181 : decode cX10_name 181 = .ok (.iload_n 1, 1) := by decide +kernel
theorem dX10_name_182 : decode cX10_name 182 = .ok (.iaload, 1) := by decide +kernel
theorem dX10_name_183 : decode cX10_name 183 = .ok (.iload_n 2, 1) := by decide +kernel
theorem dX10_name_184 : decode cX10_name 184 = .ok (.invokevirtual 160, 3) := by decide +kernel
theorem dX10_name_187 : decode cX10_name 187 = .ok (.aload_n 0, 1) := by decide +kernel
theorem dX10_name_188 : decode cX10_name 188 = .ok (.aload_n 0, 1) := by decide +kernel
theorem dX10_name_189 : decode cX10_name 189 = .ok (.getfield 59, 3) := by decide +kernel
theorem dX10_name_192 : decode cX10_name 192 = .ok (.iload_n 1, 1) := by decide +kernel
theorem dX10_name_193 : decode cX10_name 193 = .ok (.iaload, 1) := by decide +kernel
theorem dX10_name_194 : decode cX10_name 194 = .ok (.invokevirtual 163, 3) := by decide +kernel
theorem dX10_name_197 : decode cX10_name 197 = .ok (.aload_n 0, 1) := by decide +kernel
theorem dX10_name_198 : decode cX10_name 198 = .ok (.getfield 148, 3) := by decide +kernel
theorem dX10_name_201 : decode cX10_name 201 = .ok (.ireturn, 1) := by decide +kernel
theorem dX10_rowAt_0 : decode cX10_rowAt 0 = .ok (.iload_n 2, 1) := by decide +kernel
theorem dX10_rowAt_1 : decode cX10_rowAt 1 = .ok (.iconst 0, 1) := by decide +kernel
theorem dX10_rowAt_2 : decode cX10_rowAt 2 = .ok (.bipush 11, 2) := by decide +kernel
theorem dX10_rowAt_4 : decode cX10_rowAt 4 = .ok (.invokestatic 102, 3) := by decide +kernel
theorem dX10_rowAt_7 : decode cX10_rowAt 7 = .ok (.ifCond .eq 17, 3) := by decide +kernel
theorem dX10_rowAt_10 : decode cX10_rowAt 10 = .ok (.aload_n 0, 1) := by decide +kernel
theorem dX10_rowAt_11 : decode cX10_rowAt 11 = .ok (.getfield 53, 3) := by decide +kernel
theorem dX10_rowAt_14 : decode cX10_rowAt 14 = .ok (.bipush 12, 2) := by decide +kernel
theorem dX10_rowAt_16 : decode cX10_rowAt 16 = .ok (.iload_n 1, 1) := by decide +kernel
theorem dX10_rowAt_17 : decode cX10_rowAt 17 = .ok (.imul, 1) := by decide +kernel
theorem dX10_rowAt_18 : decode cX10_rowAt 18 = .ok (.iload_n 2, 1) := by decide +kernel
theorem dX10_rowAt_19 : decode cX10_rowAt 19 = .ok (.iadd, 1) := by decide +kernel
theorem dX10_rowAt_20 : decode cX10_rowAt 20 = .ok (.iaload, 1) := by decide +kernel
theorem dX10_rowAt_21 : decode cX10_rowAt 21 = .ok (.goto 4, 3) := by decide +kernel
theorem dX10_rowAt_24 : decode cX10_rowAt 24 = .ok (.iconst 0, 1) := by decide +kernel
theorem dX10_rowAt_25 : decode cX10_rowAt 25 = .ok (.ireturn, 1) := by decide +kernel
theorem dX10_wrong_0 : decode cX10_wrong 0 = .ok (.aload_n 0, 1) := by decide +kernel
theorem dX10_wrong_1 : decode cX10_wrong 1 = .ok (.iload_n 1, 1) := by decide +kernel
theorem dX10_wrong_2 : decode cX10_wrong 2 = .ok (.invokevirtual 141, 3) := by decide +kernel
theorem dX10_wrong_5 : decode cX10_wrong 5 = .ok (.istore 4, 2) := by decide +kernel
theorem dX10_wrong_7 : decode cX10_wrong 7 = .ok (.iload 4, 2) := by decide +kernel
theorem dX10_wrong_9 : decode cX10_wrong 9 = .ok (.iconst 1, 1) := by decide +kernel
theorem dX10_wrong_10 : decode cX10_wrong 10 = .ok (.if_icmp .eq 13, 3) := by decide +kernel
theorem dX10_wrong_13 : decode cX10_wrong 13 = .ok (.iload 4, 2) := by decide +kernel
theorem dX10_wrong_15 : decode cX10_wrong 15 = .ok (.iconst 2, 1) := by decide +kernel
theorem dX10_wrong_16 : decode cX10_wrong 16 = .ok (.if_icmp .eq 7, 3) := by decide +kernel
theorem dX10_wrong_19 : decode cX10_wrong 19 = .ok (.iconst 1, 1) := by decide +kernel
theorem dX10_wrong_20 : decode cX10_wrong 20 = .ok (.goto 37, 3) := by decide +kernel
theorem dX10_wrong_23 : decode cX10_wrong 23 = .ok (.aload_n 0, 1) := by decide +kernel
theorem dX10_wrong_24 : decode cX10_wrong 24 = .ok (.iload_n 1, 1) := by decide +kernel
theorem dX10_wrong_25 : decode cX10_wrong 25 = .ok (.iload_n 2, 1) := by decide +kernel
theorem dX10_wrong_26 : decode cX10_wrong 26 = .ok (.invokevirtual 166, 3) := by decide +kernel
theorem dX10_wrong_29 : decode cX10_wrong 29 = .ok (.ifCond .ne 7, 3) := by decide +kernel
theorem dX10_wrong_32 : decode cX10_wrong 32 = .ok (.iconst 3, 1) := by decide +kernel
theorem dX10_wrong_33 : decode cX10_wrong 33 = .ok (.goto 24, 3) := by decide +kernel
theorem dX10_wrong_36 : decode cX10_wrong 36 = .ok (.iload_n 3, 1) := by decide +kernel
theorem dX10_wrong_37 : decode cX10_wrong 37 = .ok (.iconst 0, 1) := by decide +kernel
theorem dX10_wrong_38 : decode cX10_wrong 38 = .ok (.aload_n 0, 1) := by decide +kernel
theorem dX10_wrong_39 : decode cX10_wrong 39 = .ok (.iload_n 1, 1) := by decide +kernel
theorem dX10_wrong_40 : decode cX10_wrong 40 = .ok (.iload_n 2, 1) := by decide +kernel
theorem dX10_wrong_41 : decode cX10_wrong 41 = .ok (.invokevirtual 166, 3) := by decide +kernel
theorem dX10_wrong_44 : decode cX10_wrong 44 = .ok (.iconst 1, 1) := by decide +kernel
theorem dX10_wrong_45 : decode cX10_wrong 45 = .ok (.isub, 1) := by decide +kernel
theorem dX10_wrong_46 : decode cX10_wrong 46 = .ok (.invokestatic 102, 3) := by decide +kernel
theorem dX10_wrong_49 : decode cX10_wrong 49 = .ok (.ifCond .ne 7, 3) := by decide +kernel
theorem dX10_wrong_52 : decode cX10_wrong 52 = .ok (.iconst 5, 1) := by decide +kernel
theorem dX10_wrong_53 : decode cX10_wrong 53 = .ok (.goto 4, 3) := by decide +kernel
theorem dX10_wrong_56 : decode cX10_wrong 56 = .ok (.iconst 0, 1) := by decide +kernel
theorem dX10_wrong_57 : decode cX10_wrong 57 = .ok (.ireturn, 1) := by decide +kernel
theorem dX10_read_0 : decode cX10_read 0 = .ok (.aload_n 0, 1) := by decide +kernel
theorem dX10_read_1 : decode cX10_read 1 = .ok (.iload_n 1, 1) := by decide +kernel
theorem dX10_read_2 : decode cX10_read 2 = .ok (.iload_n 2, 1) := by decide +kernel
theorem dX10_read_3 : decode cX10_read 3 = .ok (.iload_n 3, 1) := by decide +kernel
theorem dX10_read_4 : decode cX10_read 4 = .ok (.invokevirtual 170, 3) := by decide +kernel
theorem dX10_read_7 : decode cX10_read 7 = .ok (.istore 4, 2) := by decide +kernel
theorem dX10_read_9 : decode cX10_read 9 = .ok (.iload 4, 2) := by decide +kernel
theorem dX10_read_11 : decode cX10_read 11 = .ok (.ifCond .le 14, 3) := by decide +kernel
theorem dX10_read_14 : decode cX10_read 14 = .ok (.aload_n 0, 1) := by decide +kernel
theorem dX10_read_15 : decode cX10_read 15 = .ok (.iload 4, 2) := by decide +kernel
theorem dX10_read_17 : decode cX10_read 17 = .ok (.iload_n 1, 1) := by decide +kernel
theorem dX10_read_18 : decode cX10_read 18 = .ok (.iload_n 2, 1) := by decide +kernel
theorem dX10_read_19 : decode cX10_read 19 = .ok (.invokevirtual 174, 3) := by decide +kernel
theorem dX10_read_22 : decode cX10_read 22 = .ok (.goto 18, 3) := by decide +kernel
theorem dX10_read_25 : decode cX10_read 25 = .ok (.aload_n 0, 1) := by decide +kernel
theorem dX10_read_26 : decode cX10_read 26 = .ok (.getfield 56, 3) := by decide +kernel
theorem dX10_read_29 : decode cX10_read 29 = .ok (.iconst 4, 1) := by decide +kernel
theorem dX10_read_30 : decode cX10_read 30 = .ok (.bipush 12, 2) := by decide +kernel
theorem dX10_read_32 : decode cX10_read 32 = .ok (.iload_n 1, 1) := by decide +kernel
theorem dX10_read_33 : decode cX10_read 33 = .ok (.imul, 1) := by decide +kernel
theorem dX10_read_34 : decode cX10_read 34 = .ok (.iload_n 2, 1) := by decide +kernel
theorem dX10_read_35 : decode cX10_read 35 = .ok (.iadd, 1) := by decide +kernel
theorem dX10_read_36 : decode cX10_read 36 = .ok (.imul, 1) := by decide +kernel
theorem dX10_read_37 : decode cX10_read 37 = .ok (.iload_n 3, 1) := by decide +kernel
theorem dX10_read_38 : decode cX10_read 38 = .ok (.iadd, 1) := by decide +kernel
theorem dX10_read_39 : decode cX10_read 39 = .ok (.iaload, 1) := by decide +kernel
theorem dX10_read_40 : decode cX10_read 40 = .ok (.ireturn, 1) := by decide +kernel
theorem dX10_write_0 : decode cX10_write 0 = .ok (.aload_n 0, 1) := by decide +kernel
theorem dX10_write_1 : decode cX10_write 1 = .ok (.iload_n 1, 1) := by decide +kernel
theorem dX10_write_2 : decode cX10_write 2 = .ok (.iload_n 2, 1) := by decide +kernel
theorem dX10_write_3 : decode cX10_write 3 = .ok (.iload_n 3, 1) := by decide +kernel
theorem dX10_write_4 : decode cX10_write 4 = .ok (.invokevirtual 170, 3) := by decide +kernel
theorem dX10_write_7 : decode cX10_write 7 = .ok (.istore 5, 2) := by decide +kernel
theorem dX10_write_9 : decode cX10_write 9 = .ok (.iload 5, 2) := by decide +kernel
theorem dX10_write_11 : decode cX10_write 11 = .ok (.ifCond .le 12, 3) := by decide +kernel
theorem dX10_write_14 : decode cX10_write 14 = .ok (.aload_n 0, 1) := by decide +kernel
theorem dX10_write_15 : decode cX10_write 15 = .ok (.iload 5, 2) := by decide +kernel
theorem dX10_write_17 : decode cX10_write 17 = .ok (.iload_n 1, 1) := by decide +kernel
theorem dX10_write_18 : decode cX10_write 18 = .ok (.iload_n 2, 1) := by decide +kernel
theorem dX10_write_19 : decode cX10_write 19 = .ok (.invokevirtual 174, 3) := by decide +kernel
theorem dX10_write_22 : decode cX10_write 22 = .ok (.ireturn, 1) := by decide +kernel
theorem dX10_write_23 : decode cX10_write 23 = .ok (.aload_n 0, 1) := by decide +kernel
theorem dX10_write_24 : decode cX10_write 24 = .ok (.getfield 56, 3) := by decide +kernel
theorem dX10_write_27 : decode cX10_write 27 = .ok (.iconst 4, 1) := by decide +kernel
theorem dX10_write_28 : decode cX10_write 28 = .ok (.bipush 12, 2) := by decide +kernel
theorem dX10_write_30 : decode cX10_write 30 = .ok (.iload_n 1, 1) := by decide +kernel
theorem dX10_write_31 : decode cX10_write 31 = .ok (.imul, 1) := by decide +kernel
theorem dX10_write_32 : decode cX10_write 32 = .ok (.iload_n 2, 1) := by decide +kernel
theorem dX10_write_33 : decode cX10_write 33 = .ok (.iadd, 1) := by decide +kernel
theorem dX10_write_34 : decode cX10_write 34 = .ok (.imul, 1) := by decide +kernel
theorem dX10_write_35 : decode cX10_write 35 = .ok (.iload_n 3, 1) := by decide +kernel
theorem dX10_write_36 : decode cX10_write 36 = .ok (.iadd, 1) := by decide +kernel
theorem dX10_write_37 : decode cX10_write 37 = .ok (.iload 4, 2) := by decide +kernel
theorem dX10_write_39 : decode cX10_write 39 = .ok (.iastore, 1) := by decide +kernel
theorem dX10_write_40 : decode cX10_write 40 = .ok (.iload 4, 2) := by decide +kernel
theorem dX10_write_42 : decode cX10_write 42 = .ok (.ireturn, 1) := by decide +kernel
theorem dX10_leave_0 : decode cX10_leave 0 = .ok (.aload_n 0, 1) := by decide +kernel
theorem dX10_leave_1 : decode cX10_leave 1 = .ok (.getfield 65, 3) := by decide +kernel
theorem dX10_leave_4 : decode cX10_leave 4 = .ok (.iload_n 1, 1) := by decide +kernel
theorem dX10_leave_5 : decode cX10_leave 5 = .ok (.iaload, 1) := by decide +kernel
theorem dX10_leave_6 : decode cX10_leave 6 = .ok (.istore_n 2, 1) := by decide +kernel
theorem dX10_leave_7 : decode cX10_leave 7 = .ok (.iload_n 2, 1) := by decide +kernel
theorem dX10_leave_8 : decode cX10_leave 8 = .ok (.ifCond .ne 4, 3) := by decide +kernel
theorem dX10_leave_11 : decode cX10_leave 11 = .ok (.return_, 1) := by decide +kernel
theorem dX10_leave_12 : decode cX10_leave 12 = .ok (.aload_n 0, 1) := by decide +kernel
theorem dX10_leave_13 : decode cX10_leave 13 = .ok (.getfield 68, 3) := by decide +kernel
theorem dX10_leave_16 : decode cX10_leave 16 = .ok (.iload_n 2, 1) := by decide +kernel
theorem dX10_leave_17 : decode cX10_leave 17 = .ok (.iaload, 1) := by decide +kernel
theorem dX10_leave_18 : decode cX10_leave 18 = .ok (.iload_n 1, 1) := by decide +kernel
theorem dX10_leave_19 : decode cX10_leave 19 = .ok (.if_icmp .ne 18, 3) := by decide +kernel
theorem dX10_leave_22 : decode cX10_leave 22 = .ok (.aload_n 0, 1) := by decide +kernel
theorem dX10_leave_23 : decode cX10_leave 23 = .ok (.getfield 68, 3) := by decide +kernel
theorem dX10_leave_26 : decode cX10_leave 26 = .ok (.iload_n 2, 1) := by decide +kernel
theorem dX10_leave_27 : decode cX10_leave 27 = .ok (.aload_n 0, 1) := by decide +kernel
theorem dX10_leave_28 : decode cX10_leave 28 = .ok (.getfield 71, 3) := by decide +kernel
theorem dX10_leave_31 : decode cX10_leave 31 = .ok (.iload_n 1, 1) := by decide +kernel
theorem dX10_leave_32 : decode cX10_leave 32 = .ok (.iaload, 1) := by decide +kernel
theorem dX10_leave_33 : decode cX10_leave 33 = .ok (.iastore, 1) := by decide +kernel
theorem dX10_leave_34 : decode cX10_leave 34 = .ok (.goto 42, 3) := by decide +kernel
theorem dX10_leave_37 : decode cX10_leave 37 = .ok (.aload_n 0, 1) := by decide +kernel
theorem dX10_leave_38 : decode cX10_leave 38 = .ok (.getfield 68, 3) := by decide +kernel
theorem dX10_leave_41 : decode cX10_leave 41 = .ok (.iload_n 2, 1) := by decide +kernel
theorem dX10_leave_42 : decode cX10_leave 42 = .ok (.iaload, 1) := by decide +kernel
theorem dX10_leave_43 : decode cX10_leave 43 = .ok (.istore_n 3, 1) := by decide +kernel
theorem dX10_leave_44 : decode cX10_leave 44 = .ok (.aload_n 0, 1) := by decide +kernel
theorem dX10_leave_45 : decode cX10_leave 45 = .ok (.getfield 71, 3) := by decide +kernel
theorem dX10_leave_48 : decode cX10_leave 48 = .ok (.iload_n 3, 1) := by decide +kernel
theorem dX10_leave_49 : decode cX10_leave 49 = .ok (.iaload, 1) := by decide +kernel
theorem dX10_leave_50 : decode cX10_leave 50 = .ok (.iload_n 1, 1) := by decide +kernel
theorem dX10_leave_51 : decode cX10_leave 51 = .ok (.if_icmp .eq 13, 3) := by decide +kernel
theorem dX10_leave_54 : decode cX10_leave 54 = .ok (.aload_n 0, 1) := by decide +kernel
theorem dX10_leave_55 : decode cX10_leave 55 = .ok (.getfield 71, 3) := by decide +kernel
theorem dX10_leave_58 : decode cX10_leave 58 = .ok (.iload_n 3, 1) := by decide +kernel
theorem dX10_leave_59 : decode cX10_leave 59 = .ok (.iaload, 1) := by decide +kernel
theorem dX10_leave_60 : decode cX10_leave 60 = .ok (.istore_n 3, 1) := by decide +kernel
theorem dX10_leave_61 : decode cX10_leave 61 = .ok (.goto (-17), 3) := by decide +kernel
theorem dX10_leave_64 : decode cX10_leave 64 = .ok (.aload_n 0, 1) := by decide +kernel
theorem dX10_leave_65 : decode cX10_leave 65 = .ok (.getfield 71, 3) := by decide +kernel
theorem dX10_leave_68 : decode cX10_leave 68 = .ok (.iload_n 3, 1) := by decide +kernel
theorem dX10_leave_69 : decode cX10_leave 69 = .ok (.aload_n 0, 1) := by decide +kernel
theorem dX10_leave_70 : decode cX10_leave 70 = .ok (.getfield 71, 3) := by decide +kernel
theorem dX10_leave_73 : decode cX10_leave 73 = .ok (.iload_n 1, 1) := by decide +kernel
theorem dX10_leave_74 : decode cX10_leave 74 = .ok (.iaload, 1) := by decide +kernel
theorem dX10_leave_75 : decode cX10_leave 75 = .ok (.iastore, 1) := by decide +kernel
theorem dX10_leave_76 : decode cX10_leave 76 = .ok (.aload_n 0, 1) := by decide +kernel
theorem dX10_leave_77 : decode cX10_leave 77 = .ok (.getfield 65, 3) := by decide +kernel
theorem dX10_leave_80 : decode cX10_leave 80 = .ok (.iload_n 1, 1) := by decide +kernel
theorem dX10_leave_81 : decode cX10_leave 81 = .ok (.iconst 0, 1) := by decide +kernel
theorem dX10_leave_82 : decode cX10_leave 82 = .ok (.iastore, 1) := by decide +kernel
theorem dX10_leave_83 : decode cX10_leave 83 = .ok (.aload_n 0, 1) := by decide +kernel
theorem dX10_leave_84 : decode cX10_leave 84 = .ok (.getfield 71, 3) := by decide +kernel
theorem dX10_leave_87 : decode cX10_leave 87 = .ok (.iload_n 1, 1) := by decide +kernel
theorem dX10_leave_88 : decode cX10_leave 88 = .ok (.iconst 0, 1) := by decide +kernel
theorem dX10_leave_89 : decode cX10_leave 89 = .ok (.iastore, 1) := by decide +kernel
theorem dX10_leave_90 : decode cX10_leave 90 = .ok (.return_, 1) := by decide +kernel
theorem dX10_move_0 : decode cX10_move 0 = .ok (.aload_n 0, 1) := by decide +kernel
theorem dX10_move_1 : decode cX10_move 1 = .ok (.iload_n 1, 1) := by decide +kernel
theorem dX10_move_2 : decode cX10_move 2 = .ok (.invokevirtual 141, 3) := by decide +kernel
theorem dX10_move_5 : decode cX10_move 5 = .ok (.iconst 2, 1) := by decide +kernel
theorem dX10_move_6 : decode cX10_move 6 = .ok (.if_icmp .ne 16, 3) := by decide +kernel
theorem dX10_move_9 : decode cX10_move 9 = .ok (.iload_n 2, 1) := by decide +kernel
theorem dX10_move_10 : decode cX10_move 10 = .ok (.ifCond .eq 21, 3) := by decide +kernel
theorem dX10_move_13 : decode cX10_move 13 = .ok (.aload_n 0, 1) := by decide +kernel
theorem dX10_move_14 : decode cX10_move 14 = .ok (.iload_n 2, 1) := by decide +kernel
theorem dX10_move_15 : decode cX10_move 15 = .ok (.invokevirtual 141, 3) := by decide +kernel
theorem dX10_move_18 : decode cX10_move 18 = .ok (.iconst 2, 1) := by decide +kernel
theorem dX10_move_19 : decode cX10_move 19 = .ok (.if_icmp .eq 12, 3) := by decide +kernel
theorem dX10_move_22 : decode cX10_move 22 = .ok (.aload_n 0, 1) := by decide +kernel
theorem dX10_move_23 : decode cX10_move 23 = .ok (.bipush 6, 2) := by decide +kernel
theorem dX10_move_25 : decode cX10_move 25 = .ok (.iload_n 1, 1) := by decide +kernel
theorem dX10_move_26 : decode cX10_move 26 = .ok (.iload_n 2, 1) := by decide +kernel
theorem dX10_move_27 : decode cX10_move 27 = .ok (.invokevirtual 174, 3) := by decide +kernel
theorem dX10_move_30 : decode cX10_move 30 = .ok (.ireturn, 1) := by decide +kernel
theorem dX10_move_31 : decode cX10_move 31 = .ok (.iload_n 2, 1) := by decide +kernel
theorem dX10_move_32 : decode cX10_move 32 = .ok (.istore_n 3, 1) := by decide +kernel
theorem dX10_move_33 : decode cX10_move 33 = .ok (.iload_n 3, 1) := by decide +kernel
theorem dX10_move_34 : decode cX10_move 34 = .ok (.ifCond .eq 27, 3) := by decide +kernel
theorem dX10_move_37 : decode cX10_move 37 = .ok (.iload_n 3, 1) := by decide +kernel
theorem dX10_move_38 : decode cX10_move 38 = .ok (.iload_n 1, 1) := by decide +kernel
theorem dX10_move_39 : decode cX10_move 39 = .ok (.if_icmp .ne 12, 3) := by decide +kernel
theorem dX10_move_42 : decode cX10_move 42 = .ok (.aload_n 0, 1) := by decide +kernel
theorem dX10_move_43 : decode cX10_move 43 = .ok (.bipush 7, 2) := by decide +kernel
theorem dX10_move_45 : decode cX10_move 45 = .ok (.iload_n 1, 1) := by decide +kernel
theorem dX10_move_46 : decode cX10_move 46 = .ok (.iload_n 2, 1) := by decide +kernel
theorem dX10_move_47 : decode cX10_move 47 = .ok (.invokevirtual 174, 3) := by decide +kernel
theorem dX10_move_50 : decode cX10_move 50 = .ok (.ireturn, 1) := by decide +kernel
theorem dX10_move_51 : decode cX10_move 51 = .ok (.aload_n 0, 1) := by decide +kernel
theorem dX10_move_52 : decode cX10_move 52 = .ok (.getfield 65, 3) := by decide +kernel
theorem dX10_move_55 : decode cX10_move 55 = .ok (.iload_n 3, 1) := by decide +kernel
theorem dX10_move_56 : decode cX10_move 56 = .ok (.iaload, 1) := by decide +kernel
theorem dX10_move_57 : decode cX10_move 57 = .ok (.istore_n 3, 1) := by decide +kernel
theorem dX10_move_58 : decode cX10_move 58 = .ok (.goto (-25), 3) := by decide +kernel
theorem dX10_move_61 : decode cX10_move 61 = .ok (.aload_n 0, 1) := by decide +kernel
theorem dX10_move_62 : decode cX10_move 62 = .ok (.iload_n 1, 1) := by decide +kernel
theorem dX10_move_63 : decode cX10_move 63 = .ok (.invokevirtual 177, 3) := by decide +kernel
theorem dX10_move_66 : decode cX10_move 66 = .ok (.iload_n 2, 1) := by decide +kernel
theorem dX10_move_67 : decode cX10_move 67 = .ok (.ifCond .eq 29, 3) := by decide +kernel
theorem dX10_move_70 : decode cX10_move 70 = .ok (.aload_n 0, 1) := by decide +kernel
theorem dX10_move_71 : decode cX10_move 71 = .ok (.getfield 65, 3) := by decide +kernel
theorem dX10_move_74 : decode cX10_move 74 = .ok (.iload_n 1, 1) := by decide +kernel
theorem dX10_move_75 : decode cX10_move 75 = .ok (.iload_n 2, 1) := by decide +kernel
theorem dX10_move_76 : decode cX10_move 76 = .ok (.iastore, 1) := by decide +kernel
theorem dX10_move_77 : decode cX10_move 77 = .ok (.aload_n 0, 1) := by decide +kernel
theorem dX10_move_78 : decode cX10_move 78 = .ok (.getfield 71, 3) := by decide +kernel
theorem dX10_move_81 : decode cX10_move 81 = .ok (.iload_n 1, 1) := by decide +kernel
theorem dX10_move_82 : decode cX10_move 82 = .ok (.aload_n 0, 1) := by decide +kernel
theorem dX10_move_83 : decode cX10_move 83 = .ok (.getfield 68, 3) := by decide +kernel
theorem dX10_move_86 : decode cX10_move 86 = .ok (.iload_n 2, 1) := by decide +kernel
theorem dX10_move_87 : decode cX10_move 87 = .ok (.iaload, 1) := by decide +kernel
theorem dX10_move_88 : decode cX10_move 88 = .ok (.iastore, 1) := by decide +kernel
theorem dX10_move_89 : decode cX10_move 89 = .ok (.aload_n 0, 1) := by decide +kernel
theorem dX10_move_90 : decode cX10_move 90 = .ok (.getfield 68, 3) := by decide +kernel
theorem dX10_move_93 : decode cX10_move 93 = .ok (.iload_n 2, 1) := by decide +kernel
theorem dX10_move_94 : decode cX10_move 94 = .ok (.iload_n 1, 1) := by decide +kernel
theorem dX10_move_95 : decode cX10_move 95 = .ok (.iastore, 1) := by decide +kernel
theorem dX10_move_96 : decode cX10_move 96 = .ok (.iconst 1, 1) := by decide +kernel
theorem dX10_move_97 : decode cX10_move 97 = .ok (.ireturn, 1) := by decide +kernel
theorem dX10_tree_0 : decode cX10_tree 0 = .ok (.aload_n 0, 1) := by decide +kernel
theorem dX10_tree_1 : decode cX10_tree 1 = .ok (.iload_n 1, 1) := by decide +kernel
theorem dX10_tree_2 : decode cX10_tree 2 = .ok (.invokevirtual 141, 3) := by decide +kernel
theorem dX10_tree_5 : decode cX10_tree 5 = .ok (.iconst 2, 1) := by decide +kernel
theorem dX10_tree_6 : decode cX10_tree 6 = .ok (.if_icmp .eq 12, 3) := by decide +kernel
theorem dX10_tree_9 : decode cX10_tree 9 = .ok (.aload_n 0, 1) := by decide +kernel
theorem dX10_tree_10 : decode cX10_tree 10 = .ok (.bipush 6, 2) := by decide +kernel
theorem dX10_tree_12 : decode cX10_tree 12 = .ok (.iload_n 1, 1) := by decide +kernel
theorem dX10_tree_13 : decode cX10_tree 13 = .ok (.iconst 0, 1) := by decide +kernel
theorem dX10_tree_14 : decode cX10_tree 14 = .ok (.invokevirtual 174, 3) := by decide +kernel
theorem dX10_tree_17 : decode cX10_tree 17 = .ok (.ireturn, 1) := by decide +kernel
theorem dX10_tree_18 : decode cX10_tree 18 = .ok (.iload_n 2, 1) := by decide +kernel
theorem dX10_tree_19 : decode cX10_tree 19 = .ok (.iconst 0, 1) := by decide +kernel
theorem dX10_tree_20 : decode cX10_tree 20 = .ok (.iconst 2, 1) := by decide +kernel
theorem dX10_tree_21 : decode cX10_tree 21 = .ok (.invokestatic 102, 3) := by decide +kernel
theorem dX10_tree_24 : decode cX10_tree 24 = .ok (.ifCond .eq 37, 3) := by decide +kernel
theorem dX10_tree_27 : decode cX10_tree 27 = .ok (.iload_n 2, 1) := by decide +kernel
theorem dX10_tree_28 : decode cX10_tree 28 = .ok (.ifCond .ne 12, 3) := by decide +kernel
theorem dX10_tree_31 : decode cX10_tree 31 = .ok (.aload_n 0, 1) := by decide +kernel
theorem dX10_tree_32 : decode cX10_tree 32 = .ok (.getfield 65, 3) := by decide +kernel
theorem dX10_tree_35 : decode cX10_tree 35 = .ok (.iload_n 1, 1) := by decide +kernel
theorem dX10_tree_36 : decode cX10_tree 36 = .ok (.iaload, 1) := by decide +kernel
theorem dX10_tree_37 : decode cX10_tree 37 = .ok (.goto 23, 3) := by decide +kernel
theorem dX10_tree_40 : decode cX10_tree 40 = .ok (.iload_n 2, 1) := by decide +kernel
theorem dX10_tree_41 : decode cX10_tree 41 = .ok (.iconst 1, 1) := by decide +kernel
theorem dX10_tree_42 : decode cX10_tree 42 = .ok (.if_icmp .ne 12, 3) := by decide +kernel
theorem dX10_tree_45 : decode cX10_tree 45 = .ok (.aload_n 0, 1) := by decide +kernel
theorem dX10_tree_46 : decode cX10_tree 46 = .ok (.getfield 68, 3) := by decide +kernel
theorem dX10_tree_49 : decode cX10_tree 49 = .ok (.iload_n 1, 1) := by decide +kernel
theorem dX10_tree_50 : decode cX10_tree 50 = .ok (.iaload, 1) := by decide +kernel
theorem dX10_tree_51 : decode cX10_tree 51 = .ok (.goto 9, 3) := by decide +kernel
theorem dX10_tree_54 : decode cX10_tree 54 = .ok (.aload_n 0, 1) := by decide +kernel
theorem dX10_tree_55 : decode cX10_tree 55 = .ok (.getfield 71, 3) := by decide +kernel
theorem dX10_tree_58 : decode cX10_tree 58 = .ok (.iload_n 1, 1) := by decide +kernel
theorem dX10_tree_59 : decode cX10_tree 59 = .ok (.iaload, 1) := by decide +kernel
theorem dX10_tree_60 : decode cX10_tree 60 = .ok (.ireturn, 1) := by decide +kernel
theorem dX10_tree_61 : decode cX10_tree 61 = .ok (.iconst 0, 1) := by decide +kernel
theorem dX10_tree_62 : decode cX10_tree 62 = .ok (.istore_n 3, 1) := by decide +kernel
theorem dX10_tree_63 : decode cX10_tree 63 = .ok (.aload_n 0, 1) := by decide +kernel
theorem dX10_tree_64 : decode cX10_tree 64 = .ok (.getfield 68, 3) := by decide +kernel
theorem dX10_tree_67 : decode cX10_tree 67 = .ok (.iload_n 1, 1) := by decide +kernel
theorem dX10_tree_68 : decode cX10_tree 68 = .ok (.iaload, 1) := by decide +kernel
theorem dX10_tree_69 : decode cX10_tree 69 = .ok (.istore 4, 2) := by decide +kernel
theorem dX10_tree_71 : decode cX10_tree 71 = .ok (.iload 4, 2) := by decide +kernel
theorem dX10_tree_73 : decode cX10_tree 73 = .ok (.ifCond .eq 18, 3) := by decide +kernel
theorem dX10_tree_76 : decode cX10_tree 76 = .ok (.iinc 3 1, 3) := by decide +kernel
theorem dX10_tree_79 : decode cX10_tree 79 = .ok (.aload_n 0, 1) := by decide +kernel
theorem dX10_tree_80 : decode cX10_tree 80 = .ok (.getfield 71, 3) := by decide +kernel
theorem dX10_tree_83 : decode cX10_tree 83 = .ok (.iload 4, 2) := by decide +kernel
theorem dX10_tree_85 : decode cX10_tree 85 = .ok (.iaload, 1) := by decide +kernel
theorem dX10_tree_86 : decode cX10_tree 86 = .ok (.istore 4, 2) := by decide +kernel
theorem dX10_tree_88 : decode cX10_tree 88 = .ok (.goto (-17), 3) := by decide +kernel
theorem dX10_tree_91 : decode cX10_tree 91 = .ok (.iload_n 3, 1) := by decide +kernel
theorem dX10_tree_92 : decode cX10_tree 92 = .ok (.ireturn, 1) := by decide +kernel
theorem dX10_isOf_0 : decode cX10_isOf 0 = .ok (.iconst 0, 1) := by decide +kernel
theorem dX10_isOf_1 : decode cX10_isOf 1 = .ok (.istore_n 3, 1) := by decide +kernel
theorem dX10_isOf_2 : decode cX10_isOf 2 = .ok (.iconst 0, 1) := by decide +kernel
theorem dX10_isOf_3 : decode cX10_isOf 3 = .ok (.istore 4, 2) := by decide +kernel
theorem dX10_isOf_5 : decode cX10_isOf 5 = .ok (.aload_n 0, 1) := by decide +kernel
theorem dX10_isOf_6 : decode cX10_isOf 6 = .ok (.iload_n 1, 1) := by decide +kernel
theorem dX10_isOf_7 : decode cX10_isOf 7 = .ok (.invokevirtual 141, 3) := by decide +kernel
theorem dX10_isOf_10 : decode cX10_isOf 10 = .ok (.iconst 2, 1) := by decide +kernel
theorem dX10_isOf_11 : decode cX10_isOf 11 = .ok (.if_icmp .ne 46, 3) := by decide +kernel
theorem dX10_isOf_14 : decode cX10_isOf 14 = .ok (.iload 4, 2) := by decide +kernel
theorem dX10_isOf_16 : decode cX10_isOf 16 = .ok (.aload_n 0, 1) := by decide +kernel
theorem dX10_isOf_17 : decode cX10_isOf 17 = .ok (.getfield 47, 3) := by decide +kernel
theorem dX10_isOf_20 : decode cX10_isOf 20 = .ok (.iload_n 1, 1) := by decide +kernel
theorem dX10_isOf_21 : decode cX10_isOf 21 = .ok (.iaload, 1) := by decide +kernel
theorem dX10_isOf_22 : decode cX10_isOf 22 = .ok (.if_icmp .ge 35, 3) := by decide +kernel
theorem dX10_isOf_25 : decode cX10_isOf 25 = .ok (.iload_n 3, 1) := by decide +kernel
theorem dX10_isOf_26 : decode cX10_isOf 26 = .ok (.ifCond .ne 19, 3) := by decide +kernel
theorem dX10_isOf_29 : decode cX10_isOf 29 = .ok (.aload_n 0, 1) := by decide +kernel
theorem dX10_isOf_30 : decode cX10_isOf 30 = .ok (.getfield 50, 3) := by decide +kernel
theorem dX10_isOf_33 : decode cX10_isOf 33 = .ok (.bipush 41, 2) := by decide +kernel
theorem dX10_isOf_35 : decode cX10_isOf 35 = .ok (.iload_n 1, 1) := by decide +kernel
theorem dX10_isOf_36 : decode cX10_isOf 36 = .ok (.imul, 1) := by decide +kernel
theorem dX10_isOf_37 : decode cX10_isOf 37 = .ok (.iload 4, 2) := by decide +kernel
theorem dX10_isOf_39 : decode cX10_isOf 39 = .ok (.iadd, 1) := by decide +kernel
theorem dX10_isOf_40 : decode cX10_isOf 40 = .ok (.iaload, 1) := by decide +kernel
theorem dX10_isOf_41 : decode cX10_isOf 41 = .ok (.iload_n 2, 1) := by decide +kernel
theorem dX10_isOf_42 : decode cX10_isOf 42 = .ok (.if_icmp .ne 7, 3) := by decide +kernel
theorem dX10_isOf_45 : decode cX10_isOf 45 = .ok (.iconst 1, 1) := by decide +kernel
theorem dX10_isOf_46 : decode cX10_isOf 46 = .ok (.goto 4, 3) := by decide +kernel
theorem dX10_isOf_49 : decode cX10_isOf 49 = .ok (.iconst 0, 1) := by decide +kernel
theorem dX10_isOf_50 : decode cX10_isOf 50 = .ok (.istore_n 3, 1) := by decide +kernel
theorem dX10_isOf_51 : decode cX10_isOf 51 = .ok (.iinc 4 1, 3) := by decide +kernel
theorem dX10_isOf_54 : decode cX10_isOf 54 = .ok (.goto (-49), 3) := by decide +kernel
theorem dX10_isOf_57 : decode cX10_isOf 57 = .ok (.iload_n 3, 1) := by decide +kernel
theorem dX10_isOf_58 : decode cX10_isOf 58 = .ok (.ifCond .eq 7, 3) := by decide +kernel
theorem dX10_isOf_61 : decode cX10_isOf 61 = .ok (.iconst 1, 1) := by decide +kernel
theorem dX10_isOf_62 : decode cX10_isOf 62 = .ok (.goto 4, 3) := by decide +kernel
theorem dX10_isOf_65 : decode cX10_isOf 65 = .ok (.iconst 0, 1) := by decide +kernel
theorem dX10_isOf_66 : decode cX10_isOf 66 = .ok (.ireturn, 1) := by decide +kernel
theorem dX10_provides_0 : decode cX10_provides 0 = .ok (.aload_n 0, 1) := by decide +kernel
theorem dX10_provides_1 : decode cX10_provides 1 = .ok (.iload_n 1, 1) := by decide +kernel
theorem dX10_provides_2 : decode cX10_provides 2 = .ok (.invokevirtual 141, 3) := by decide +kernel
theorem dX10_provides_5 : decode cX10_provides 5 = .ok (.istore_n 3, 1) := by decide +kernel
theorem dX10_provides_6 : decode cX10_provides 6 = .ok (.iload_n 3, 1) := by decide +kernel
theorem dX10_provides_7 : decode cX10_provides 7 = .ok (.iconst 1, 1) := by decide +kernel
theorem dX10_provides_8 : decode cX10_provides 8 = .ok (.if_icmp .eq 8, 3) := by decide +kernel
theorem dX10_provides_11 : decode cX10_provides 11 = .ok (.iload_n 3, 1) := by decide +kernel
theorem dX10_provides_12 : decode cX10_provides 12 = .ok (.iconst 2, 1) := by decide +kernel
theorem dX10_provides_13 : decode cX10_provides 13 = .ok (.if_icmp .ne 12, 3) := by decide +kernel
theorem dX10_provides_16 : decode cX10_provides 16 = .ok (.aload_n 0, 1) := by decide +kernel
theorem dX10_provides_17 : decode cX10_provides 17 = .ok (.iload_n 1, 1) := by decide +kernel
theorem dX10_provides_18 : decode cX10_provides 18 = .ok (.iload_n 2, 1) := by decide +kernel
theorem dX10_provides_19 : decode cX10_provides 19 = .ok (.invokevirtual 166, 3) := by decide +kernel
theorem dX10_provides_22 : decode cX10_provides 22 = .ok (.goto 4, 3) := by decide +kernel
theorem dX10_provides_25 : decode cX10_provides 25 = .ok (.iconst 0, 1) := by decide +kernel
theorem dX10_provides_26 : decode cX10_provides 26 = .ok (.ireturn, 1) := by decide +kernel
theorem dX10_answers_0 : decode cX10_answers 0 = .ok (.aload_n 0, 1) := by decide +kernel
theorem dX10_answers_1 : decode cX10_answers 1 = .ok (.iconst 1, 1) := by decide +kernel
theorem dX10_answers_2 : decode cX10_answers 2 = .ok (.putfield 180, 3) := by decide +kernel
theorem dX10_answers_5 : decode cX10_answers 5 = .ok (.aload_n 0, 1) := by decide +kernel
theorem dX10_answers_6 : decode cX10_answers 6 = .ok (.iload_n 1, 1) := by decide +kernel
theorem dX10_answers_7 : decode cX10_answers 7 = .ok (.putfield 183, 3) := by decide +kernel
theorem dX10_answers_10 : decode cX10_answers 10 = .ok (.return_, 1) := by decide +kernel
theorem dX10_pile_0 : decode cX10_pile 0 = .ok (.aload_n 0, 1) := by decide +kernel
theorem dX10_pile_1 : decode cX10_pile 1 = .ok (.getfield 80, 3) := by decide +kernel
theorem dX10_pile_4 : decode cX10_pile 4 = .ok (.aload_n 0, 1) := by decide +kernel
theorem dX10_pile_5 : decode cX10_pile 5 = .ok (.getfield 186, 3) := by decide +kernel
theorem dX10_pile_8 : decode cX10_pile 8 = .ok (.iload_n 1, 1) := by decide +kernel
theorem dX10_pile_9 : decode cX10_pile 9 = .ok (.iastore, 1) := by decide +kernel
theorem dX10_pile_10 : decode cX10_pile 10 = .ok (.aload_n 0, 1) := by decide +kernel
theorem dX10_pile_11 : decode cX10_pile 11 = .ok (.getfield 89, 3) := by decide +kernel
theorem dX10_pile_14 : decode cX10_pile 14 = .ok (.aload_n 0, 1) := by decide +kernel
theorem dX10_pile_15 : decode cX10_pile 15 = .ok (.getfield 186, 3) := by decide +kernel
theorem dX10_pile_18 : decode cX10_pile 18 = .ok (.iload_n 2, 1) := by decide +kernel
theorem dX10_pile_19 : decode cX10_pile 19 = .ok (.iastore, 1) := by decide +kernel
theorem dX10_pile_20 : decode cX10_pile 20 = .ok (.aload_n 0, 1) := by decide +kernel
theorem dX10_pile_21 : decode cX10_pile 21 = .ok (.dup, 1) := by decide +kernel
theorem dX10_pile_22 : decode cX10_pile 22 = .ok (.getfield 186, 3) := by decide +kernel
theorem dX10_pile_25 : decode cX10_pile 25 = .ok (.iconst 1, 1) := by decide +kernel
theorem dX10_pile_26 : decode cX10_pile 26 = .ok (.iadd, 1) := by decide +kernel
theorem dX10_pile_27 : decode cX10_pile 27 = .ok (.putfield 186, 3) := by decide +kernel
theorem dX10_pile_30 : decode cX10_pile 30 = .ok (.return_, 1) := by decide +kernel
theorem dX10_runs_0 : decode cX10_runs 0 = .ok (.aload_n 0, 1) := by decide +kernel
theorem dX10_runs_1 : decode cX10_runs 1 = .ok (.getfield 189, 3) := by decide +kernel
theorem dX10_runs_4 : decode cX10_runs 4 = .ok (.bipush 12, 2) := by decide +kernel
theorem dX10_runs_6 : decode cX10_runs 6 = .ok (.if_icmp .ne 16, 3) := by decide +kernel
theorem dX10_runs_9 : decode cX10_runs 9 = .ok (.aload_n 0, 1) := by decide +kernel
theorem dX10_runs_10 : decode cX10_runs 10 = .ok (.aload_n 0, 1) := by decide +kernel
theorem dX10_runs_11 : decode cX10_runs 11 = .ok (.bipush 9, 2) := by decide +kernel
theorem dX10_runs_13 : decode cX10_runs 13 = .ok (.iload_n 2, 1) := by decide +kernel
theorem dX10_runs_14 : decode cX10_runs 14 = .ok (.iconst 0, 1) := by decide +kernel
theorem dX10_runs_15 : decode cX10_runs 15 = .ok (.invokevirtual 174, 3) := by decide +kernel
theorem dX10_runs_18 : decode cX10_runs 18 = .ok (.invokevirtual 192, 3) := by decide +kernel
theorem dX10_runs_21 : decode cX10_runs 21 = .ok (.return_, 1) := by decide +kernel
theorem dX10_runs_22 : decode cX10_runs 22 = .ok (.aload_n 0, 1) := by decide +kernel
theorem dX10_runs_23 : decode cX10_runs 23 = .ok (.getfield 83, 3) := by decide +kernel
theorem dX10_runs_26 : decode cX10_runs 26 = .ok (.aload_n 0, 1) := by decide +kernel
theorem dX10_runs_27 : decode cX10_runs 27 = .ok (.getfield 186, 3) := by decide +kernel
theorem dX10_runs_30 : decode cX10_runs 30 = .ok (.iload_n 1, 1) := by decide +kernel
theorem dX10_runs_31 : decode cX10_runs 31 = .ok (.sipush 201, 3) := by decide +kernel
theorem dX10_runs_34 : decode cX10_runs 34 = .ok (.isub, 1) := by decide +kernel
theorem dX10_runs_35 : decode cX10_runs 35 = .ok (.iastore, 1) := by decide +kernel
theorem dX10_runs_36 : decode cX10_runs 36 = .ok (.aload_n 0, 1) := by decide +kernel
theorem dX10_runs_37 : decode cX10_runs 37 = .ok (.getfield 86, 3) := by decide +kernel
theorem dX10_runs_40 : decode cX10_runs 40 = .ok (.aload_n 0, 1) := by decide +kernel
theorem dX10_runs_41 : decode cX10_runs 41 = .ok (.getfield 186, 3) := by decide +kernel
theorem dX10_runs_44 : decode cX10_runs 44 = .ok (.iconst 0, 1) := by decide +kernel
theorem dX10_runs_45 : decode cX10_runs 45 = .ok (.iastore, 1) := by decide +kernel
theorem dX10_runs_46 : decode cX10_runs 46 = .ok (.aload_n 0, 1) := by decide +kernel
theorem dX10_runs_47 : decode cX10_runs 47 = .ok (.getfield 92, 3) := by decide +kernel
theorem dX10_runs_50 : decode cX10_runs 50 = .ok (.aload_n 0, 1) := by decide +kernel
theorem dX10_runs_51 : decode cX10_runs 51 = .ok (.getfield 186, 3) := by decide +kernel
theorem dX10_runs_54 : decode cX10_runs 54 = .ok (.iload_n 3, 1) := by decide +kernel
theorem dX10_runs_55 : decode cX10_runs 55 = .ok (.iastore, 1) := by decide +kernel
theorem dX10_runs_56 : decode cX10_runs 56 = .ok (.aload_n 0, 1) := by decide +kernel
theorem dX10_runs_57 : decode cX10_runs 57 = .ok (.getfield 95, 3) := by decide +kernel
theorem dX10_runs_60 : decode cX10_runs 60 = .ok (.aload_n 0, 1) := by decide +kernel
theorem dX10_runs_61 : decode cX10_runs 61 = .ok (.getfield 186, 3) := by decide +kernel
theorem dX10_runs_64 : decode cX10_runs 64 = .ok (.iconst 0, 1) := by decide +kernel
theorem dX10_runs_65 : decode cX10_runs 65 = .ok (.iastore, 1) := by decide +kernel
theorem dX10_runs_66 : decode cX10_runs 66 = .ok (.aload_n 0, 1) := by decide +kernel
theorem dX10_runs_67 : decode cX10_runs 67 = .ok (.dup, 1) := by decide +kernel
theorem dX10_runs_68 : decode cX10_runs 68 = .ok (.getfield 189, 3) := by decide +kernel
theorem dX10_runs_71 : decode cX10_runs 71 = .ok (.iconst 1, 1) := by decide +kernel
theorem dX10_runs_72 : decode cX10_runs 72 = .ok (.iadd, 1) := by decide +kernel
theorem dX10_runs_73 : decode cX10_runs 73 = .ok (.putfield 189, 3) := by decide +kernel
theorem dX10_runs_76 : decode cX10_runs 76 = .ok (.aload_n 0, 1) := by decide +kernel
theorem dX10_runs_77 : decode cX10_runs 77 = .ok (.iconst 0, 1) := by decide +kernel
theorem dX10_runs_78 : decode cX10_runs 78 = .ok (.iload_n 2, 1) := by decide +kernel
theorem dX10_runs_79 : decode cX10_runs 79 = .ok (.invokevirtual 195, 3) := by decide +kernel
theorem dX10_runs_82 : decode cX10_runs 82 = .ok (.return_, 1) := by decide +kernel
theorem dX10_does_0 : decode cX10_does 0 = .ok (.aload_n 0, 1) := by decide +kernel
theorem dX10_does_1 : decode cX10_does 1 = .ok (.iload_n 1, 1) := by decide +kernel
theorem dX10_does_2 : decode cX10_does 2 = .ok (.invokevirtual 141, 3) := by decide +kernel
theorem dX10_does_5 : decode cX10_does 5 = .ok (.istore 4, 2) := by decide +kernel
theorem dX10_does_7 : decode cX10_does 7 = .ok (.iload 4, 2) := by decide +kernel
theorem dX10_does_9 : decode cX10_does 9 = .ok (.iconst 4, 1) := by decide +kernel
theorem dX10_does_10 : decode cX10_does 10 = .ok (.if_icmp .ne 13, 3) := by decide +kernel
theorem dX10_does_13 : decode cX10_does 13 = .ok (.aload_n 0, 1) := by decide +kernel
theorem dX10_does_14 : decode cX10_does 14 = .ok (.iload_n 1, 1) := by decide +kernel
theorem dX10_does_15 : decode cX10_does 15 = .ok (.iload_n 2, 1) := by decide +kernel
theorem dX10_does_16 : decode cX10_does 16 = .ok (.iload_n 3, 1) := by decide +kernel
theorem dX10_does_17 : decode cX10_does 17 = .ok (.invokevirtual 198, 3) := by decide +kernel
theorem dX10_does_20 : decode cX10_does 20 = .ok (.goto 27, 3) := by decide +kernel
theorem dX10_does_23 : decode cX10_does 23 = .ok (.iload 4, 2) := by decide +kernel
theorem dX10_does_25 : decode cX10_does 25 = .ok (.iconst 3, 1) := by decide +kernel
theorem dX10_does_26 : decode cX10_does 26 = .ok (.if_icmp .ne 16, 3) := by decide +kernel
theorem dX10_does_29 : decode cX10_does 29 = .ok (.aload_n 0, 1) := by decide +kernel
theorem dX10_does_30 : decode cX10_does 30 = .ok (.iload_n 1, 1) := by decide +kernel
theorem dX10_does_31 : decode cX10_does 31 = .ok (.invokevirtual 163, 3) := by decide +kernel
theorem dX10_does_34 : decode cX10_does 34 = .ok (.aload_n 0, 1) := by decide +kernel
theorem dX10_does_35 : decode cX10_does 35 = .ok (.iconst 1, 1) := by decide +kernel
theorem dX10_does_36 : decode cX10_does 36 = .ok (.invokevirtual 192, 3) := by decide +kernel
theorem dX10_does_39 : decode cX10_does 39 = .ok (.goto 8, 3) := by decide +kernel
theorem dX10_does_42 : decode cX10_does 42 = .ok (.aload_n 0, 1) := by decide +kernel
theorem dX10_does_43 : decode cX10_does 43 = .ok (.iload_n 1, 1) := by decide +kernel
theorem dX10_does_44 : decode cX10_does 44 = .ok (.invokevirtual 192, 3) := by decide +kernel
theorem dX10_does_47 : decode cX10_does 47 = .ok (.return_, 1) := by decide +kernel
theorem dX10_sendObject_0 : decode cX10_sendObject 0 = .ok (.aload_n 0, 1) := by decide +kernel
theorem dX10_sendObject_1 : decode cX10_sendObject 1 = .ok (.iload_n 1, 1) := by decide +kernel
theorem dX10_sendObject_2 : decode cX10_sendObject 2 = .ok (.iload_n 2, 1) := by decide +kernel
theorem dX10_sendObject_3 : decode cX10_sendObject 3 = .ok (.invokevirtual 166, 3) := by decide +kernel
theorem dX10_sendObject_6 : decode cX10_sendObject 6 = .ok (.ifCond .ne 17, 3) := by decide +kernel
theorem dX10_sendObject_9 : decode cX10_sendObject 9 = .ok (.aload_n 0, 1) := by decide +kernel
theorem dX10_sendObject_10 : decode cX10_sendObject 10 = .ok (.aload_n 0, 1) := by decide +kernel
theorem dX10_sendObject_11 : decode cX10_sendObject 11 = .ok (.iconst 3, 1) := by decide +kernel
theorem dX10_sendObject_12 : decode cX10_sendObject 12 = .ok (.iload_n 1, 1) := by decide +kernel
theorem dX10_sendObject_13 : decode cX10_sendObject 13 = .ok (.iload_n 2, 1) := by decide +kernel
theorem dX10_sendObject_14 : decode cX10_sendObject 14 = .ok (.invokevirtual 174, 3) := by decide +kernel
theorem dX10_sendObject_17 : decode cX10_sendObject 17 = .ok (.invokevirtual 192, 3) := by decide +kernel
theorem dX10_sendObject_20 : decode cX10_sendObject 20 = .ok (.goto 22, 3) := by decide +kernel
theorem dX10_sendObject_23 : decode cX10_sendObject 23 = .ok (.aload_n 0, 1) := by decide +kernel
theorem dX10_sendObject_24 : decode cX10_sendObject 24 = .ok (.aload_n 0, 1) := by decide +kernel
theorem dX10_sendObject_25 : decode cX10_sendObject 25 = .ok (.getfield 56, 3) := by decide +kernel
theorem dX10_sendObject_28 : decode cX10_sendObject 28 = .ok (.iconst 4, 1) := by decide +kernel
theorem dX10_sendObject_29 : decode cX10_sendObject 29 = .ok (.bipush 12, 2) := by decide +kernel
theorem dX10_sendObject_31 : decode cX10_sendObject 31 = .ok (.iload_n 1, 1) := by decide +kernel
theorem dX10_sendObject_32 : decode cX10_sendObject 32 = .ok (.imul, 1) := by decide +kernel
theorem dX10_sendObject_33 : decode cX10_sendObject 33 = .ok (.iload_n 2, 1) := by decide +kernel
theorem dX10_sendObject_34 : decode cX10_sendObject 34 = .ok (.iadd, 1) := by decide +kernel
theorem dX10_sendObject_35 : decode cX10_sendObject 35 = .ok (.imul, 1) := by decide +kernel
theorem dX10_sendObject_36 : decode cX10_sendObject 36 = .ok (.iaload, 1) := by decide +kernel
theorem dX10_sendObject_37 : decode cX10_sendObject 37 = .ok (.iload_n 1, 1) := by decide +kernel
theorem dX10_sendObject_38 : decode cX10_sendObject 38 = .ok (.iload_n 3, 1) := by decide +kernel
theorem dX10_sendObject_39 : decode cX10_sendObject 39 = .ok (.invokevirtual 202, 3) := by decide +kernel
theorem dX10_sendObject_42 : decode cX10_sendObject 42 = .ok (.return_, 1) := by decide +kernel
theorem dX10_sendGroup_0 : decode cX10_sendGroup 0 = .ok (.iconst 0, 1) := by decide +kernel
theorem dX10_sendGroup_1 : decode cX10_sendGroup 1 = .ok (.istore 4, 2) := by decide +kernel
theorem dX10_sendGroup_3 : decode cX10_sendGroup 3 = .ok (.iconst 0, 1) := by decide +kernel
theorem dX10_sendGroup_4 : decode cX10_sendGroup 4 = .ok (.istore 5, 2) := by decide +kernel
theorem dX10_sendGroup_6 : decode cX10_sendGroup 6 = .ok (.iload_n 1, 1) := by decide +kernel
theorem dX10_sendGroup_7 : decode cX10_sendGroup 7 = .ok (.aload_n 0, 1) := by decide +kernel
theorem dX10_sendGroup_8 : decode cX10_sendGroup 8 = .ok (.getfield 44, 3) := by decide +kernel
theorem dX10_sendGroup_11 : decode cX10_sendGroup 11 = .ok (.iload_n 1, 1) := by decide +kernel
theorem dX10_sendGroup_12 : decode cX10_sendGroup 12 = .ok (.iaload, 1) := by decide +kernel
theorem dX10_sendGroup_13 : decode cX10_sendGroup 13 = .ok (.iadd, 1) := by decide +kernel
theorem dX10_sendGroup_14 : decode cX10_sendGroup 14 = .ok (.istore 6, 2) := by decide +kernel
theorem dX10_sendGroup_16 : decode cX10_sendGroup 16 = .ok (.iload 6, 2) := by decide +kernel
theorem dX10_sendGroup_18 : decode cX10_sendGroup 18 = .ok (.iload_n 1, 1) := by decide +kernel
theorem dX10_sendGroup_19 : decode cX10_sendGroup 19 = .ok (.if_icmp .le 48, 3) := by decide +kernel
theorem dX10_sendGroup_22 : decode cX10_sendGroup 22 = .ok (.aload_n 0, 1) := by decide +kernel
theorem dX10_sendGroup_23 : decode cX10_sendGroup 23 = .ok (.getfield 41, 3) := by decide +kernel
theorem dX10_sendGroup_26 : decode cX10_sendGroup 26 = .ok (.iload 6, 2) := by decide +kernel
theorem dX10_sendGroup_28 : decode cX10_sendGroup 28 = .ok (.baload, 1) := by decide +kernel
theorem dX10_sendGroup_29 : decode cX10_sendGroup 29 = .ok (.ifCond .eq 8, 3) := by decide +kernel
theorem dX10_sendGroup_32 : decode cX10_sendGroup 32 = .ok (.iload 4, 2) := by decide +kernel
theorem dX10_sendGroup_34 : decode cX10_sendGroup 34 = .ok (.goto 5, 3) := by decide +kernel
theorem dX10_sendGroup_37 : decode cX10_sendGroup 37 = .ok (.iload 6, 2) := by decide +kernel
theorem dX10_sendGroup_39 : decode cX10_sendGroup 39 = .ok (.istore 4, 2) := by decide +kernel
theorem dX10_sendGroup_41 : decode cX10_sendGroup 41 = .ok (.iload 5, 2) := by decide +kernel
theorem dX10_sendGroup_43 : decode cX10_sendGroup 43 = .ok (.aload_n 0, 1) := by decide +kernel
theorem dX10_sendGroup_44 : decode cX10_sendGroup 44 = .ok (.getfield 41, 3) := by decide +kernel
theorem dX10_sendGroup_47 : decode cX10_sendGroup 47 = .ok (.iload 6, 2) := by decide +kernel
theorem dX10_sendGroup_49 : decode cX10_sendGroup 49 = .ok (.baload, 1) := by decide +kernel
theorem dX10_sendGroup_50 : decode cX10_sendGroup 50 = .ok (.ifCond .eq 7, 3) := by decide +kernel
theorem dX10_sendGroup_53 : decode cX10_sendGroup 53 = .ok (.iconst 0, 1) := by decide +kernel
theorem dX10_sendGroup_54 : decode cX10_sendGroup 54 = .ok (.goto 4, 3) := by decide +kernel
theorem dX10_sendGroup_57 : decode cX10_sendGroup 57 = .ok (.iconst 1, 1) := by decide +kernel
theorem dX10_sendGroup_58 : decode cX10_sendGroup 58 = .ok (.iadd, 1) := by decide +kernel
theorem dX10_sendGroup_59 : decode cX10_sendGroup 59 = .ok (.istore 5, 2) := by decide +kernel
theorem dX10_sendGroup_61 : decode cX10_sendGroup 61 = .ok (.iinc 6 (-1), 3) := by decide +kernel
theorem dX10_sendGroup_64 : decode cX10_sendGroup 64 = .ok (.goto (-48), 3) := by decide +kernel
theorem dX10_sendGroup_67 : decode cX10_sendGroup 67 = .ok (.iload_n 2, 1) := by decide +kernel
theorem dX10_sendGroup_68 : decode cX10_sendGroup 68 = .ok (.bipush 14, 2) := by decide +kernel
theorem dX10_sendGroup_70 : decode cX10_sendGroup 70 = .ok (.if_icmp .ne 12, 3) := by decide +kernel
theorem dX10_sendGroup_73 : decode cX10_sendGroup 73 = .ok (.aload_n 0, 1) := by decide +kernel
theorem dX10_sendGroup_74 : decode cX10_sendGroup 74 = .ok (.iload 5, 2) := by decide +kernel
theorem dX10_sendGroup_76 : decode cX10_sendGroup 76 = .ok (.invokevirtual 192, 3) := by decide +kernel
theorem dX10_sendGroup_79 : decode cX10_sendGroup 79 = .ok (.goto 143, 3) := by decide +kernel
theorem dX10_sendGroup_82 : decode cX10_sendGroup 82 = .ok (.iload_n 2, 1) := by decide +kernel
theorem dX10_sendGroup_83 : decode cX10_sendGroup 83 = .ok (.bipush 12, 2) := by decide +kernel
theorem dX10_sendGroup_85 : decode cX10_sendGroup 85 = .ok (.if_icmp .ne 46, 3) := by decide +kernel
theorem dX10_sendGroup_88 : decode cX10_sendGroup 88 = .ok (.iload 4, 2) := by decide +kernel
theorem dX10_sendGroup_90 : decode cX10_sendGroup 90 = .ok (.ifCond .ne 9, 3) := by decide +kernel
theorem dX10_sendGroup_93 : decode cX10_sendGroup 93 = .ok (.aload_n 0, 1) := by decide +kernel
theorem dX10_sendGroup_94 : decode cX10_sendGroup 94 = .ok (.iconst 0, 1) := by decide +kernel
theorem dX10_sendGroup_95 : decode cX10_sendGroup 95 = .ok (.invokevirtual 192, 3) := by decide +kernel
theorem dX10_sendGroup_98 : decode cX10_sendGroup 98 = .ok (.return_, 1) := by decide +kernel
theorem dX10_sendGroup_99 : decode cX10_sendGroup 99 = .ok (.aload_n 0, 1) := by decide +kernel
theorem dX10_sendGroup_100 : decode cX10_sendGroup 100 = .ok (.getfield 41, 3) := by decide +kernel
theorem dX10_sendGroup_103 : decode cX10_sendGroup 103 = .ok (.iload 4, 2) := by decide +kernel
theorem dX10_sendGroup_105 : decode cX10_sendGroup 105 = .ok (.iconst 1, 1) := by decide +kernel
theorem dX10_sendGroup_106 : decode cX10_sendGroup 106 = .ok (.bastore, 1) := by decide +kernel
theorem dX10_sendGroup_107 : decode cX10_sendGroup 107 = .ok (.aload_n 0, 1) := by decide +kernel
theorem dX10_sendGroup_108 : decode cX10_sendGroup 108 = .ok (.iload 4, 2) := by decide +kernel
theorem dX10_sendGroup_110 : decode cX10_sendGroup 110 = .ok (.invokevirtual 137, 3) := by decide +kernel
theorem dX10_sendGroup_113 : decode cX10_sendGroup 113 = .ok (.aload_n 0, 1) := by decide +kernel
theorem dX10_sendGroup_114 : decode cX10_sendGroup 114 = .ok (.iconst 1, 1) := by decide +kernel
theorem dX10_sendGroup_115 : decode cX10_sendGroup 115 = .ok (.iload 4, 2) := by decide +kernel
theorem dX10_sendGroup_117 : decode cX10_sendGroup 117 = .ok (.invokevirtual 195, 3) := by decide +kernel
theorem dX10_sendGroup_120 : decode cX10_sendGroup 120 = .ok (.aload_n 0, 1) := by decide +kernel
theorem dX10_sendGroup_121 : decode cX10_sendGroup 121 = .ok (.iload 4, 2) := by decide +kernel
theorem dX10_sendGroup_123 : decode cX10_sendGroup 123 = .ok (.iconst 1, 1) := by decide +kernel
theorem dX10_sendGroup_124 : decode cX10_sendGroup 124 = .ok (.iload_n 3, 1) := by decide +kernel
theorem dX10_sendGroup_125 : decode cX10_sendGroup 125 = .ok (.invokevirtual 205, 3) := by decide +kernel
theorem dX10_sendGroup_128 : decode cX10_sendGroup 128 = .ok (.goto 94, 3) := by decide +kernel
theorem dX10_sendGroup_131 : decode cX10_sendGroup 131 = .ok (.iload_n 2, 1) := by decide +kernel
theorem dX10_sendGroup_132 : decode cX10_sendGroup 132 = .ok (.bipush 13, 2) := by decide +kernel
theorem dX10_sendGroup_134 : decode cX10_sendGroup 134 = .ok (.if_icmp .eq 23, 3) := by decide +kernel
theorem dX10_sendGroup_137 : decode cX10_sendGroup 137 = .ok (.iload_n 2, 1) := by decide +kernel
theorem dX10_sendGroup_138 : decode cX10_sendGroup 138 = .ok (.bipush 15, 2) := by decide +kernel
theorem dX10_sendGroup_140 : decode cX10_sendGroup 140 = .ok (.if_icmp .eq 17, 3) := by decide +kernel
theorem dX10_sendGroup_143 : decode cX10_sendGroup 143 = .ok (.aload_n 0, 1) := by decide +kernel
theorem dX10_sendGroup_144 : decode cX10_sendGroup 144 = .ok (.aload_n 0, 1) := by decide +kernel
theorem dX10_sendGroup_145 : decode cX10_sendGroup 145 = .ok (.iconst 2, 1) := by decide +kernel
theorem dX10_sendGroup_146 : decode cX10_sendGroup 146 = .ok (.iload_n 1, 1) := by decide +kernel
theorem dX10_sendGroup_147 : decode cX10_sendGroup 147 = .ok (.iload_n 2, 1) := by decide +kernel
theorem dX10_sendGroup_148 : decode cX10_sendGroup 148 = .ok (.invokevirtual 174, 3) := by decide +kernel
theorem dX10_sendGroup_151 : decode cX10_sendGroup 151 = .ok (.invokevirtual 192, 3) := by decide +kernel
theorem dX10_sendGroup_154 : decode cX10_sendGroup 154 = .ok (.goto 68, 3) := by decide +kernel
theorem dX10_sendGroup_157 : decode cX10_sendGroup 157 = .ok (.iload_n 3, 1) := by decide +kernel
theorem dX10_sendGroup_158 : decode cX10_sendGroup 158 = .ok (.iload_n 1, 1) := by decide +kernel
theorem dX10_sendGroup_159 : decode cX10_sendGroup 159 = .ok (.iconst 1, 1) := by decide +kernel
theorem dX10_sendGroup_160 : decode cX10_sendGroup 160 = .ok (.iadd, 1) := by decide +kernel
theorem dX10_sendGroup_161 : decode cX10_sendGroup 161 = .ok (.iload_n 1, 1) := by decide +kernel
theorem dX10_sendGroup_162 : decode cX10_sendGroup 162 = .ok (.aload_n 0, 1) := by decide +kernel
theorem dX10_sendGroup_163 : decode cX10_sendGroup 163 = .ok (.getfield 44, 3) := by decide +kernel
theorem dX10_sendGroup_166 : decode cX10_sendGroup 166 = .ok (.iload_n 1, 1) := by decide +kernel
theorem dX10_sendGroup_167 : decode cX10_sendGroup 167 = .ok (.iaload, 1) := by decide +kernel
theorem dX10_sendGroup_168 : decode cX10_sendGroup 168 = .ok (.iadd, 1) := by decide +kernel
theorem dX10_sendGroup_169 : decode cX10_sendGroup 169 = .ok (.invokestatic 102, 3) := by decide +kernel
theorem dX10_sendGroup_172 : decode cX10_sendGroup 172 = .ok (.ifCond .eq 12, 3) := by decide +kernel
theorem dX10_sendGroup_175 : decode cX10_sendGroup 175 = .ok (.aload_n 0, 1) := by decide +kernel
theorem dX10_sendGroup_176 : decode cX10_sendGroup 176 = .ok (.getfield 41, 3) := by decide +kernel
theorem dX10_sendGroup_179 : decode cX10_sendGroup 179 = .ok (.iload_n 3, 1) := by decide +kernel
theorem dX10_sendGroup_180 : decode cX10_sendGroup 180 = .ok (.baload, 1) := by decide +kernel
theorem dX10_sendGroup_181 : decode cX10_sendGroup 181 = .ok (.ifCond .ne 18, 3) := by decide +kernel
theorem dX10_sendGroup_184 : decode cX10_sendGroup 184 = .ok (.aload_n 0, 1) := by decide +kernel
theorem dX10_sendGroup_185 : decode cX10_sendGroup 185 = .ok (.aload_n 0, 1) := by decide +kernel
theorem dX10_sendGroup_186 : decode cX10_sendGroup 186 = .ok (.bipush 8, 2) := by decide +kernel
theorem dX10_sendGroup_188 : decode cX10_sendGroup 188 = .ok (.iload_n 1, 1) := by decide +kernel
theorem dX10_sendGroup_189 : decode cX10_sendGroup 189 = .ok (.iload_n 3, 1) := by decide +kernel
theorem dX10_sendGroup_190 : decode cX10_sendGroup 190 = .ok (.invokevirtual 174, 3) := by decide +kernel
theorem dX10_sendGroup_193 : decode cX10_sendGroup 193 = .ok (.invokevirtual 192, 3) := by decide +kernel
theorem dX10_sendGroup_196 : decode cX10_sendGroup 196 = .ok (.goto 26, 3) := by decide +kernel
theorem dX10_sendGroup_199 : decode cX10_sendGroup 199 = .ok (.aload_n 0, 1) := by decide +kernel
theorem dX10_sendGroup_200 : decode cX10_sendGroup 200 = .ok (.iload_n 2, 1) := by decide +kernel
theorem dX10_sendGroup_201 : decode cX10_sendGroup 201 = .ok (.bipush 13, 2) := by decide +kernel
theorem dX10_sendGroup_203 : decode cX10_sendGroup 203 = .ok (.if_icmp .ne 7, 3) := by decide +kernel
theorem dX10_sendGroup_206 : decode cX10_sendGroup 206 = .ok (.iconst 2, 1) := by decide +kernel
theorem dX10_sendGroup_207 : decode cX10_sendGroup 207 = .ok (.goto 4, 3) := by decide +kernel
theorem dX10_sendGroup_210 : decode cX10_sendGroup 210 = .ok (.iconst 3, 1) := by decide +kernel
theorem dX10_sendGroup_211 : decode cX10_sendGroup 211 = .ok (.iload_n 3, 1) := by decide +kernel
theorem dX10_sendGroup_212 : decode cX10_sendGroup 212 = .ok (.invokevirtual 195, 3) := by decide +kernel
theorem dX10_sendGroup_215 : decode cX10_sendGroup 215 = .ok (.aload_n 0, 1) := by decide +kernel
theorem dX10_sendGroup_216 : decode cX10_sendGroup 216 = .ok (.iload_n 3, 1) := by decide +kernel
theorem dX10_sendGroup_217 : decode cX10_sendGroup 217 = .ok (.iconst 2, 1) := by decide +kernel
theorem dX10_sendGroup_218 : decode cX10_sendGroup 218 = .ok (.iconst 0, 1) := by decide +kernel
theorem dX10_sendGroup_219 : decode cX10_sendGroup 219 = .ok (.invokevirtual 205, 3) := by decide +kernel
theorem dX10_sendGroup_222 : decode cX10_sendGroup 222 = .ok (.return_, 1) := by decide +kernel
theorem dX10_sendIfThere_0 : decode cX10_sendIfThere 0 = .ok (.aload_n 0, 1) := by decide +kernel
theorem dX10_sendIfThere_1 : decode cX10_sendIfThere 1 = .ok (.iload_n 1, 1) := by decide +kernel
theorem dX10_sendIfThere_2 : decode cX10_sendIfThere 2 = .ok (.iload_n 2, 1) := by decide +kernel
theorem dX10_sendIfThere_3 : decode cX10_sendIfThere 3 = .ok (.invokevirtual 166, 3) := by decide +kernel
theorem dX10_sendIfThere_6 : decode cX10_sendIfThere 6 = .ok (.ifCond .le 13, 3) := by decide +kernel
theorem dX10_sendIfThere_9 : decode cX10_sendIfThere 9 = .ok (.aload_n 0, 1) := by decide +kernel
theorem dX10_sendIfThere_10 : decode cX10_sendIfThere 10 = .ok (.iload_n 1, 1) := by decide +kernel
theorem dX10_sendIfThere_11 : decode cX10_sendIfThere 11 = .ok (.iload_n 2, 1) := by decide +kernel
theorem dX10_sendIfThere_12 : decode cX10_sendIfThere 12 = .ok (.iload_n 3, 1) := by decide +kernel
theorem dX10_sendIfThere_13 : decode cX10_sendIfThere 13 = .ok (.invokevirtual 208, 3) := by decide +kernel
theorem dX10_sendIfThere_16 : decode cX10_sendIfThere 16 = .ok (.goto 8, 3) := by decide +kernel
theorem dX10_sendIfThere_19 : decode cX10_sendIfThere 19 = .ok (.aload_n 0, 1) := by decide +kernel
theorem dX10_sendIfThere_20 : decode cX10_sendIfThere 20 = .ok (.iconst 0, 1) := by decide +kernel
theorem dX10_sendIfThere_21 : decode cX10_sendIfThere 21 = .ok (.invokevirtual 192, 3) := by decide +kernel
theorem dX10_sendIfThere_24 : decode cX10_sendIfThere 24 = .ok (.return_, 1) := by decide +kernel
theorem dX10_sends_0 : decode cX10_sends 0 = .ok (.aload_n 0, 1) := by decide +kernel
theorem dX10_sends_1 : decode cX10_sends 1 = .ok (.iload_n 1, 1) := by decide +kernel
theorem dX10_sends_2 : decode cX10_sends 2 = .ok (.invokevirtual 141, 3) := by decide +kernel
theorem dX10_sends_5 : decode cX10_sends 5 = .ok (.istore 4, 2) := by decide +kernel
theorem dX10_sends_7 : decode cX10_sends 7 = .ok (.iload 4, 2) := by decide +kernel
theorem dX10_sends_9 : decode cX10_sends 9 = .ok (.iconst 1, 1) := by decide +kernel
theorem dX10_sends_10 : decode cX10_sends 10 = .ok (.if_icmp .ne 13, 3) := by decide +kernel
theorem dX10_sends_13 : decode cX10_sends 13 = .ok (.aload_n 0, 1) := by decide +kernel
theorem dX10_sends_14 : decode cX10_sends 14 = .ok (.iload_n 1, 1) := by decide +kernel
theorem dX10_sends_15 : decode cX10_sends 15 = .ok (.iload_n 2, 1) := by decide +kernel
theorem dX10_sends_16 : decode cX10_sends 16 = .ok (.iload_n 3, 1) := by decide +kernel
theorem dX10_sends_17 : decode cX10_sends 17 = .ok (.invokevirtual 211, 3) := by decide +kernel
theorem dX10_sends_20 : decode cX10_sends 20 = .ok (.goto 30, 3) := by decide +kernel
theorem dX10_sends_23 : decode cX10_sends 23 = .ok (.iload 4, 2) := by decide +kernel
theorem dX10_sends_25 : decode cX10_sends 25 = .ok (.iconst 2, 1) := by decide +kernel
theorem dX10_sends_26 : decode cX10_sends 26 = .ok (.if_icmp .ne 13, 3) := by decide +kernel
theorem dX10_sends_29 : decode cX10_sends 29 = .ok (.aload_n 0, 1) := by decide +kernel
theorem dX10_sends_30 : decode cX10_sends 30 = .ok (.iload_n 1, 1) := by decide +kernel
theorem dX10_sends_31 : decode cX10_sends 31 = .ok (.iload_n 2, 1) := by decide +kernel
theorem dX10_sends_32 : decode cX10_sends 32 = .ok (.iload_n 3, 1) := by decide +kernel
theorem dX10_sends_33 : decode cX10_sends 33 = .ok (.invokevirtual 208, 3) := by decide +kernel
theorem dX10_sends_36 : decode cX10_sends 36 = .ok (.goto 14, 3) := by decide +kernel
theorem dX10_sends_39 : decode cX10_sends 39 = .ok (.aload_n 0, 1) := by decide +kernel
theorem dX10_sends_40 : decode cX10_sends 40 = .ok (.aload_n 0, 1) := by decide +kernel
theorem dX10_sends_41 : decode cX10_sends 41 = .ok (.iconst 1, 1) := by decide +kernel
theorem dX10_sends_42 : decode cX10_sends 42 = .ok (.iload_n 1, 1) := by decide +kernel
theorem dX10_sends_43 : decode cX10_sends 43 = .ok (.iload_n 2, 1) := by decide +kernel
theorem dX10_sends_44 : decode cX10_sends 44 = .ok (.invokevirtual 174, 3) := by decide +kernel
theorem dX10_sends_47 : decode cX10_sends 47 = .ok (.invokevirtual 192, 3) := by decide +kernel
theorem dX10_sends_50 : decode cX10_sends 50 = .ok (.return_, 1) := by decide +kernel
theorem dX10_sendsAs_0 : decode cX10_sendsAs 0 = .ok (.aload_n 0, 1) := by decide +kernel
theorem dX10_sendsAs_1 : decode cX10_sendsAs 1 = .ok (.iload_n 2, 1) := by decide +kernel
theorem dX10_sendsAs_2 : decode cX10_sendsAs 2 = .ok (.invokevirtual 141, 3) := by decide +kernel
theorem dX10_sendsAs_5 : decode cX10_sendsAs 5 = .ok (.iconst 2, 1) := by decide +kernel
theorem dX10_sendsAs_6 : decode cX10_sendsAs 6 = .ok (.if_icmp .eq 17, 3) := by decide +kernel
theorem dX10_sendsAs_9 : decode cX10_sendsAs 9 = .ok (.aload_n 0, 1) := by decide +kernel
theorem dX10_sendsAs_10 : decode cX10_sendsAs 10 = .ok (.aload_n 0, 1) := by decide +kernel
theorem dX10_sendsAs_11 : decode cX10_sendsAs 11 = .ok (.iconst 1, 1) := by decide +kernel
theorem dX10_sendsAs_12 : decode cX10_sendsAs 12 = .ok (.iload_n 2, 1) := by decide +kernel
theorem dX10_sendsAs_13 : decode cX10_sendsAs 13 = .ok (.iload_n 3, 1) := by decide +kernel
theorem dX10_sendsAs_14 : decode cX10_sendsAs 14 = .ok (.invokevirtual 174, 3) := by decide +kernel
theorem dX10_sendsAs_17 : decode cX10_sendsAs 17 = .ok (.invokevirtual 192, 3) := by decide +kernel
theorem dX10_sendsAs_20 : decode cX10_sendsAs 20 = .ok (.goto 69, 3) := by decide +kernel
theorem dX10_sendsAs_23 : decode cX10_sendsAs 23 = .ok (.aload_n 0, 1) := by decide +kernel
theorem dX10_sendsAs_24 : decode cX10_sendsAs 24 = .ok (.iload_n 2, 1) := by decide +kernel
theorem dX10_sendsAs_25 : decode cX10_sendsAs 25 = .ok (.iload_n 1, 1) := by decide +kernel
theorem dX10_sendsAs_26 : decode cX10_sendsAs 26 = .ok (.invokevirtual 214, 3) := by decide +kernel
theorem dX10_sendsAs_29 : decode cX10_sendsAs 29 = .ok (.ifCond .ne 17, 3) := by decide +kernel
theorem dX10_sendsAs_32 : decode cX10_sendsAs 32 = .ok (.aload_n 0, 1) := by decide +kernel
theorem dX10_sendsAs_33 : decode cX10_sendsAs 33 = .ok (.aload_n 0, 1) := by decide +kernel
theorem dX10_sendsAs_34 : decode cX10_sendsAs 34 = .ok (.iconst 4, 1) := by decide +kernel
theorem dX10_sendsAs_35 : decode cX10_sendsAs 35 = .ok (.iload_n 2, 1) := by decide +kernel
theorem dX10_sendsAs_36 : decode cX10_sendsAs 36 = .ok (.iload_n 3, 1) := by decide +kernel
theorem dX10_sendsAs_37 : decode cX10_sendsAs 37 = .ok (.invokevirtual 174, 3) := by decide +kernel
theorem dX10_sendsAs_40 : decode cX10_sendsAs 40 = .ok (.invokevirtual 192, 3) := by decide +kernel
theorem dX10_sendsAs_43 : decode cX10_sendsAs 43 = .ok (.goto 46, 3) := by decide +kernel
theorem dX10_sendsAs_46 : decode cX10_sendsAs 46 = .ok (.aload_n 0, 1) := by decide +kernel
theorem dX10_sendsAs_47 : decode cX10_sendsAs 47 = .ok (.iload_n 1, 1) := by decide +kernel
theorem dX10_sendsAs_48 : decode cX10_sendsAs 48 = .ok (.iload_n 3, 1) := by decide +kernel
theorem dX10_sendsAs_49 : decode cX10_sendsAs 49 = .ok (.invokevirtual 166, 3) := by decide +kernel
theorem dX10_sendsAs_52 : decode cX10_sendsAs 52 = .ok (.ifCond .ne 17, 3) := by decide +kernel
theorem dX10_sendsAs_55 : decode cX10_sendsAs 55 = .ok (.aload_n 0, 1) := by decide +kernel
theorem dX10_sendsAs_56 : decode cX10_sendsAs 56 = .ok (.aload_n 0, 1) := by decide +kernel
theorem dX10_sendsAs_57 : decode cX10_sendsAs 57 = .ok (.iconst 3, 1) := by decide +kernel
theorem dX10_sendsAs_58 : decode cX10_sendsAs 58 = .ok (.iload_n 2, 1) := by decide +kernel
theorem dX10_sendsAs_59 : decode cX10_sendsAs 59 = .ok (.iload_n 3, 1) := by decide +kernel
theorem dX10_sendsAs_60 : decode cX10_sendsAs 60 = .ok (.invokevirtual 174, 3) := by decide +kernel
end
section
theorem dX10_sendsAs_63 : decode cX10_sendsAs 63 = .ok (.invokevirtual 192, 3) := by decide +kernel
theorem dX10_sendsAs_66 : decode cX10_sendsAs 66 = .ok (.goto 23, 3) := by decide +kernel
theorem dX10_sendsAs_69 : decode cX10_sendsAs 69 = .ok (.aload_n 0, 1) := by decide +kernel
theorem dX10_sendsAs_70 : decode cX10_sendsAs 70 = .ok (.aload_n 0, 1) := by decide +kernel
theorem dX10_sendsAs_71 : decode cX10_sendsAs 71 = .ok (.getfield 56, 3) := by decide +kernel
theorem dX10_sendsAs_74 : decode cX10_sendsAs 74 = .ok (.iconst 4, 1) := by decide +kernel
theorem dX10_sendsAs_75 : decode cX10_sendsAs 75 = .ok (.bipush 12, 2) := by decide +kernel
theorem dX10_sendsAs_77 : decode cX10_sendsAs 77 = .ok (.iload_n 1, 1) := by decide +kernel
theorem dX10_sendsAs_78 : decode cX10_sendsAs 78 = .ok (.imul, 1) := by decide +kernel
theorem dX10_sendsAs_79 : decode cX10_sendsAs 79 = .ok (.iload_n 3, 1) := by decide +kernel
theorem dX10_sendsAs_80 : decode cX10_sendsAs 80 = .ok (.iadd, 1) := by decide +kernel
theorem dX10_sendsAs_81 : decode cX10_sendsAs 81 = .ok (.imul, 1) := by decide +kernel
theorem dX10_sendsAs_82 : decode cX10_sendsAs 82 = .ok (.iaload, 1) := by decide +kernel
theorem dX10_sendsAs_83 : decode cX10_sendsAs 83 = .ok (.iload_n 2, 1) := by decide +kernel
theorem dX10_sendsAs_84 : decode cX10_sendsAs 84 = .ok (.iload 4, 2) := by decide +kernel
theorem dX10_sendsAs_86 : decode cX10_sendsAs 86 = .ok (.invokevirtual 202, 3) := by decide +kernel
theorem dX10_sendsAs_89 : decode cX10_sendsAs 89 = .ok (.return_, 1) := by decide +kernel
theorem dX10_take_0 : decode cX10_take 0 = .ok (.aload_n 0, 1) := by decide +kernel
theorem dX10_take_1 : decode cX10_take 1 = .ok (.getfield 186, 3) := by decide +kernel
theorem dX10_take_4 : decode cX10_take 4 = .ok (.iconst 1, 1) := by decide +kernel
theorem dX10_take_5 : decode cX10_take 5 = .ok (.isub, 1) := by decide +kernel
theorem dX10_take_6 : decode cX10_take 6 = .ok (.istore_n 1, 1) := by decide +kernel
theorem dX10_take_7 : decode cX10_take 7 = .ok (.aload_n 0, 1) := by decide +kernel
theorem dX10_take_8 : decode cX10_take 8 = .ok (.getfield 89, 3) := by decide +kernel
theorem dX10_take_11 : decode cX10_take 11 = .ok (.iload_n 1, 1) := by decide +kernel
theorem dX10_take_12 : decode cX10_take 12 = .ok (.iaload, 1) := by decide +kernel
theorem dX10_take_13 : decode cX10_take 13 = .ok (.istore_n 2, 1) := by decide +kernel
theorem dX10_take_14 : decode cX10_take 14 = .ok (.aload_n 0, 1) := by decide +kernel
theorem dX10_take_15 : decode cX10_take 15 = .ok (.getfield 80, 3) := by decide +kernel
theorem dX10_take_18 : decode cX10_take 18 = .ok (.iload_n 1, 1) := by decide +kernel
theorem dX10_take_19 : decode cX10_take 19 = .ok (.iaload, 1) := by decide +kernel
theorem dX10_take_20 : decode cX10_take 20 = .ok (.ifCond .ne 19, 3) := by decide +kernel
theorem dX10_take_23 : decode cX10_take 23 = .ok (.aload_n 0, 1) := by decide +kernel
theorem dX10_take_24 : decode cX10_take 24 = .ok (.getfield 95, 3) := by decide +kernel
theorem dX10_take_27 : decode cX10_take 27 = .ok (.iload_n 1, 1) := by decide +kernel
theorem dX10_take_28 : decode cX10_take 28 = .ok (.aload_n 0, 1) := by decide +kernel
theorem dX10_take_29 : decode cX10_take 29 = .ok (.getfield 183, 3) := by decide +kernel
theorem dX10_take_32 : decode cX10_take 32 = .ok (.iastore, 1) := by decide +kernel
theorem dX10_take_33 : decode cX10_take 33 = .ok (.aload_n 0, 1) := by decide +kernel
theorem dX10_take_34 : decode cX10_take 34 = .ok (.iconst 0, 1) := by decide +kernel
theorem dX10_take_35 : decode cX10_take 35 = .ok (.putfield 180, 3) := by decide +kernel
theorem dX10_take_38 : decode cX10_take 38 = .ok (.return_, 1) := by decide +kernel
theorem dX10_take_39 : decode cX10_take 39 = .ok (.aload_n 0, 1) := by decide +kernel
theorem dX10_take_40 : decode cX10_take 40 = .ok (.getfield 80, 3) := by decide +kernel
theorem dX10_take_43 : decode cX10_take 43 = .ok (.iload_n 1, 1) := by decide +kernel
theorem dX10_take_44 : decode cX10_take 44 = .ok (.iaload, 1) := by decide +kernel
theorem dX10_take_45 : decode cX10_take 45 = .ok (.iconst 3, 1) := by decide +kernel
theorem dX10_take_46 : decode cX10_take 46 = .ok (.if_icmp .ne 37, 3) := by decide +kernel
theorem dX10_take_49 : decode cX10_take 49 = .ok (.aload_n 0, 1) := by decide +kernel
theorem dX10_take_50 : decode cX10_take 50 = .ok (.getfield 41, 3) := by decide +kernel
theorem dX10_take_53 : decode cX10_take 53 = .ok (.iload_n 2, 1) := by decide +kernel
theorem dX10_take_54 : decode cX10_take 54 = .ok (.baload, 1) := by decide +kernel
theorem dX10_take_55 : decode cX10_take 55 = .ok (.ifCond .eq 28, 3) := by decide +kernel
theorem dX10_take_58 : decode cX10_take 58 = .ok (.aload_n 0, 1) := by decide +kernel
theorem dX10_take_59 : decode cX10_take 59 = .ok (.iload_n 2, 1) := by decide +kernel
theorem dX10_take_60 : decode cX10_take 60 = .ok (.invokevirtual 137, 3) := by decide +kernel
theorem dX10_take_63 : decode cX10_take 63 = .ok (.aload_n 0, 1) := by decide +kernel
theorem dX10_take_64 : decode cX10_take 64 = .ok (.getfield 80, 3) := by decide +kernel
theorem dX10_take_67 : decode cX10_take 67 = .ok (.iload_n 1, 1) := by decide +kernel
theorem dX10_take_68 : decode cX10_take 68 = .ok (.iconst 4, 1) := by decide +kernel
theorem dX10_take_69 : decode cX10_take 69 = .ok (.iastore, 1) := by decide +kernel
theorem dX10_take_70 : decode cX10_take 70 = .ok (.aload_n 0, 1) := by decide +kernel
theorem dX10_take_71 : decode cX10_take 71 = .ok (.iconst 0, 1) := by decide +kernel
theorem dX10_take_72 : decode cX10_take 72 = .ok (.putfield 180, 3) := by decide +kernel
theorem dX10_take_75 : decode cX10_take 75 = .ok (.aload_n 0, 1) := by decide +kernel
theorem dX10_take_76 : decode cX10_take 76 = .ok (.iload_n 2, 1) := by decide +kernel
theorem dX10_take_77 : decode cX10_take 77 = .ok (.iconst 1, 1) := by decide +kernel
theorem dX10_take_78 : decode cX10_take 78 = .ok (.iconst 0, 1) := by decide +kernel
theorem dX10_take_79 : decode cX10_take 79 = .ok (.invokevirtual 205, 3) := by decide +kernel
theorem dX10_take_82 : decode cX10_take 82 = .ok (.return_, 1) := by decide +kernel
theorem dX10_take_83 : decode cX10_take 83 = .ok (.aload_n 0, 1) := by decide +kernel
theorem dX10_take_84 : decode cX10_take 84 = .ok (.dup, 1) := by decide +kernel
theorem dX10_take_85 : decode cX10_take 85 = .ok (.getfield 186, 3) := by decide +kernel
theorem dX10_take_88 : decode cX10_take 88 = .ok (.iconst 1, 1) := by decide +kernel
theorem dX10_take_89 : decode cX10_take 89 = .ok (.isub, 1) := by decide +kernel
theorem dX10_take_90 : decode cX10_take 90 = .ok (.putfield 186, 3) := by decide +kernel
theorem dX10_take_93 : decode cX10_take 93 = .ok (.aload_n 0, 1) := by decide +kernel
theorem dX10_take_94 : decode cX10_take 94 = .ok (.aload_n 0, 1) := by decide +kernel
theorem dX10_take_95 : decode cX10_take 95 = .ok (.getfield 80, 3) := by decide +kernel
theorem dX10_take_98 : decode cX10_take 98 = .ok (.iload_n 1, 1) := by decide +kernel
theorem dX10_take_99 : decode cX10_take 99 = .ok (.iaload, 1) := by decide +kernel
theorem dX10_take_100 : decode cX10_take 100 = .ok (.iconst 1, 1) := by decide +kernel
theorem dX10_take_101 : decode cX10_take 101 = .ok (.if_icmp .ne 7, 3) := by decide +kernel
theorem dX10_take_104 : decode cX10_take 104 = .ok (.iload_n 2, 1) := by decide +kernel
theorem dX10_take_105 : decode cX10_take 105 = .ok (.goto 4, 3) := by decide +kernel
theorem dX10_take_108 : decode cX10_take 108 = .ok (.iconst 1, 1) := by decide +kernel
theorem dX10_take_109 : decode cX10_take 109 = .ok (.putfield 183, 3) := by decide +kernel
theorem dX10_take_112 : decode cX10_take 112 = .ok (.aload_n 0, 1) := by decide +kernel
theorem dX10_take_113 : decode cX10_take 113 = .ok (.getfield 80, 3) := by decide +kernel
theorem dX10_take_116 : decode cX10_take 116 = .ok (.iload_n 1, 1) := by decide +kernel
theorem dX10_take_117 : decode cX10_take 117 = .ok (.iaload, 1) := by decide +kernel
theorem dX10_take_118 : decode cX10_take 118 = .ok (.iconst 2, 1) := by decide +kernel
theorem dX10_take_119 : decode cX10_take 119 = .ok (.if_icmp .ne 46, 3) := by decide +kernel
theorem dX10_take_122 : decode cX10_take 122 = .ok (.aload_n 0, 1) := by decide +kernel
theorem dX10_take_123 : decode cX10_take 123 = .ok (.getfield 41, 3) := by decide +kernel
theorem dX10_take_126 : decode cX10_take 126 = .ok (.iload_n 2, 1) := by decide +kernel
theorem dX10_take_127 : decode cX10_take 127 = .ok (.baload, 1) := by decide +kernel
theorem dX10_take_128 : decode cX10_take 128 = .ok (.ifCond .eq 37, 3) := by decide +kernel
theorem dX10_take_131 : decode cX10_take 131 = .ok (.aload_n 0, 1) := by decide +kernel
theorem dX10_take_132 : decode cX10_take 132 = .ok (.iload_n 2, 1) := by decide +kernel
theorem dX10_take_133 : decode cX10_take 133 = .ok (.invokevirtual 177, 3) := by decide +kernel
theorem dX10_take_136 : decode cX10_take 136 = .ok (.aload_n 0, 1) := by decide +kernel
theorem dX10_take_137 : decode cX10_take 137 = .ok (.getfield 68, 3) := by decide +kernel
theorem dX10_take_140 : decode cX10_take 140 = .ok (.iload_n 2, 1) := by decide +kernel
theorem dX10_take_141 : decode cX10_take 141 = .ok (.iaload, 1) := by decide +kernel
theorem dX10_take_142 : decode cX10_take 142 = .ok (.ifCond .eq 16, 3) := by decide +kernel
theorem dX10_take_145 : decode cX10_take 145 = .ok (.aload_n 0, 1) := by decide +kernel
theorem dX10_take_146 : decode cX10_take 146 = .ok (.aload_n 0, 1) := by decide +kernel
theorem dX10_take_147 : decode cX10_take 147 = .ok (.getfield 68, 3) := by decide +kernel
theorem dX10_take_150 : decode cX10_take 150 = .ok (.iload_n 2, 1) := by decide +kernel
theorem dX10_take_151 : decode cX10_take 151 = .ok (.iaload, 1) := by decide +kernel
theorem dX10_take_152 : decode cX10_take 152 = .ok (.invokevirtual 177, 3) := by decide +kernel
theorem dX10_take_155 : decode cX10_take 155 = .ok (.goto (-19), 3) := by decide +kernel
theorem dX10_take_158 : decode cX10_take 158 = .ok (.aload_n 0, 1) := by decide +kernel
theorem dX10_take_159 : decode cX10_take 159 = .ok (.getfield 41, 3) := by decide +kernel
theorem dX10_take_162 : decode cX10_take 162 = .ok (.iload_n 2, 1) := by decide +kernel
theorem dX10_take_163 : decode cX10_take 163 = .ok (.iconst 0, 1) := by decide +kernel
theorem dX10_take_164 : decode cX10_take 164 = .ok (.bastore, 1) := by decide +kernel
theorem dX10_take_165 : decode cX10_take 165 = .ok (.return_, 1) := by decide +kernel
theorem dX10_ends_0 : decode cX10_ends 0 = .ok (.aload_n 0, 1) := by decide +kernel
theorem dX10_ends_1 : decode cX10_ends 1 = .ok (.dup, 1) := by decide +kernel
theorem dX10_ends_2 : decode cX10_ends 2 = .ok (.getfield 186, 3) := by decide +kernel
theorem dX10_ends_5 : decode cX10_ends 5 = .ok (.iconst 1, 1) := by decide +kernel
theorem dX10_ends_6 : decode cX10_ends 6 = .ok (.isub, 1) := by decide +kernel
theorem dX10_ends_7 : decode cX10_ends 7 = .ok (.putfield 186, 3) := by decide +kernel
theorem dX10_ends_10 : decode cX10_ends 10 = .ok (.aload_n 0, 1) := by decide +kernel
theorem dX10_ends_11 : decode cX10_ends 11 = .ok (.dup, 1) := by decide +kernel
theorem dX10_ends_12 : decode cX10_ends 12 = .ok (.getfield 189, 3) := by decide +kernel
theorem dX10_ends_15 : decode cX10_ends 15 = .ok (.iconst 1, 1) := by decide +kernel
theorem dX10_ends_16 : decode cX10_ends 16 = .ok (.isub, 1) := by decide +kernel
theorem dX10_ends_17 : decode cX10_ends 17 = .ok (.putfield 189, 3) := by decide +kernel
theorem dX10_ends_20 : decode cX10_ends 20 = .ok (.aload_n 0, 1) := by decide +kernel
theorem dX10_ends_21 : decode cX10_ends 21 = .ok (.aload_n 0, 1) := by decide +kernel
theorem dX10_ends_22 : decode cX10_ends 22 = .ok (.getfield 95, 3) := by decide +kernel
theorem dX10_ends_25 : decode cX10_ends 25 = .ok (.iload_n 1, 1) := by decide +kernel
theorem dX10_ends_26 : decode cX10_ends 26 = .ok (.iaload, 1) := by decide +kernel
theorem dX10_ends_27 : decode cX10_ends 27 = .ok (.invokevirtual 192, 3) := by decide +kernel
theorem dX10_ends_30 : decode cX10_ends 30 = .ok (.return_, 1) := by decide +kernel
theorem dX10_step_0 : decode cX10_step 0 = .ok (.aload_n 0, 1) := by decide +kernel
theorem dX10_step_1 : decode cX10_step 1 = .ok (.getfield 186, 3) := by decide +kernel
theorem dX10_step_4 : decode cX10_step 4 = .ok (.iconst 1, 1) := by decide +kernel
theorem dX10_step_5 : decode cX10_step 5 = .ok (.isub, 1) := by decide +kernel
theorem dX10_step_6 : decode cX10_step 6 = .ok (.istore_n 1, 1) := by decide +kernel
theorem dX10_step_7 : decode cX10_step 7 = .ok (.aload_n 0, 1) := by decide +kernel
theorem dX10_step_8 : decode cX10_step 8 = .ok (.getfield 83, 3) := by decide +kernel
theorem dX10_step_11 : decode cX10_step 11 = .ok (.iload_n 1, 1) := by decide +kernel
theorem dX10_step_12 : decode cX10_step 12 = .ok (.iaload, 1) := by decide +kernel
theorem dX10_step_13 : decode cX10_step 13 = .ok (.istore_n 2, 1) := by decide +kernel
theorem dX10_step_14 : decode cX10_step 14 = .ok (.aload_n 0, 1) := by decide +kernel
theorem dX10_step_15 : decode cX10_step 15 = .ok (.getfield 86, 3) := by decide +kernel
theorem dX10_step_18 : decode cX10_step 18 = .ok (.iload_n 1, 1) := by decide +kernel
theorem dX10_step_19 : decode cX10_step 19 = .ok (.iaload, 1) := by decide +kernel
theorem dX10_step_20 : decode cX10_step 20 = .ok (.aload_n 0, 1) := by decide +kernel
theorem dX10_step_21 : decode cX10_step 21 = .ok (.getfield 19, 3) := by decide +kernel
theorem dX10_step_24 : decode cX10_step 24 = .ok (.iload_n 2, 1) := by decide +kernel
theorem dX10_step_25 : decode cX10_step 25 = .ok (.iaload, 1) := by decide +kernel
theorem dX10_step_26 : decode cX10_step 26 = .ok (.if_icmp .ne 9, 3) := by decide +kernel
theorem dX10_step_29 : decode cX10_step 29 = .ok (.aload_n 0, 1) := by decide +kernel
theorem dX10_step_30 : decode cX10_step 30 = .ok (.iload_n 1, 1) := by decide +kernel
theorem dX10_step_31 : decode cX10_step 31 = .ok (.invokevirtual 217, 3) := by decide +kernel
theorem dX10_step_34 : decode cX10_step 34 = .ok (.return_, 1) := by decide +kernel
theorem dX10_step_35 : decode cX10_step 35 = .ok (.aload_n 0, 1) := by decide +kernel
theorem dX10_step_36 : decode cX10_step 36 = .ok (.getfield 220, 3) := by decide +kernel
theorem dX10_step_39 : decode cX10_step 39 = .ok (.sipush 200, 3) := by decide +kernel
theorem dX10_step_42 : decode cX10_step 42 = .ok (.if_icmp .ne 35, 3) := by decide +kernel
theorem dX10_step_45 : decode cX10_step 45 = .ok (.aload_n 0, 1) := by decide +kernel
theorem dX10_step_46 : decode cX10_step 46 = .ok (.getfield 223, 3) := by decide +kernel
theorem dX10_step_49 : decode cX10_step 49 = .ok (.ifCond .ne 22, 3) := by decide +kernel
theorem dX10_step_52 : decode cX10_step 52 = .ok (.aload_n 0, 1) := by decide +kernel
theorem dX10_step_53 : decode cX10_step 53 = .ok (.bipush 10, 2) := by decide +kernel
theorem dX10_step_55 : decode cX10_step 55 = .ok (.aload_n 0, 1) := by decide +kernel
theorem dX10_step_56 : decode cX10_step 56 = .ok (.getfield 89, 3) := by decide +kernel
theorem dX10_step_59 : decode cX10_step 59 = .ok (.iload_n 1, 1) := by decide +kernel
theorem dX10_step_60 : decode cX10_step 60 = .ok (.iaload, 1) := by decide +kernel
theorem dX10_step_61 : decode cX10_step 61 = .ok (.iconst 0, 1) := by decide +kernel
theorem dX10_step_62 : decode cX10_step 62 = .ok (.invokevirtual 174, 3) := by decide +kernel
theorem dX10_step_65 : decode cX10_step 65 = .ok (.istore_n 3, 1) := by decide +kernel
theorem dX10_step_66 : decode cX10_step 66 = .ok (.aload_n 0, 1) := by decide +kernel
theorem dX10_step_67 : decode cX10_step 67 = .ok (.iconst 1, 1) := by decide +kernel
theorem dX10_step_68 : decode cX10_step 68 = .ok (.putfield 223, 3) := by decide +kernel
theorem dX10_step_71 : decode cX10_step 71 = .ok (.aload_n 0, 1) := by decide +kernel
theorem dX10_step_72 : decode cX10_step 72 = .ok (.iload_n 1, 1) := by decide +kernel
theorem dX10_step_73 : decode cX10_step 73 = .ok (.invokevirtual 217, 3) := by decide +kernel
theorem dX10_step_76 : decode cX10_step 76 = .ok (.return_, 1) := by decide +kernel
theorem dX10_step_77 : decode cX10_step 77 = .ok (.aload_n 0, 1) := by decide +kernel
theorem dX10_step_78 : decode cX10_step 78 = .ok (.dup, 1) := by decide +kernel
theorem dX10_step_79 : decode cX10_step 79 = .ok (.getfield 220, 3) := by decide +kernel
theorem dX10_step_82 : decode cX10_step 82 = .ok (.iconst 1, 1) := by decide +kernel
theorem dX10_step_83 : decode cX10_step 83 = .ok (.iadd, 1) := by decide +kernel
theorem dX10_step_84 : decode cX10_step 84 = .ok (.putfield 220, 3) := by decide +kernel
theorem dX10_step_87 : decode cX10_step 87 = .ok (.bipush 8, 2) := by decide +kernel
theorem dX10_step_89 : decode cX10_step 89 = .ok (.iload_n 2, 1) := by decide +kernel
theorem dX10_step_90 : decode cX10_step 90 = .ok (.imul, 1) := by decide +kernel
theorem dX10_step_91 : decode cX10_step 91 = .ok (.aload_n 0, 1) := by decide +kernel
theorem dX10_step_92 : decode cX10_step 92 = .ok (.getfield 86, 3) := by decide +kernel
theorem dX10_step_95 : decode cX10_step 95 = .ok (.iload_n 1, 1) := by decide +kernel
theorem dX10_step_96 : decode cX10_step 96 = .ok (.iaload, 1) := by decide +kernel
theorem dX10_step_97 : decode cX10_step 97 = .ok (.iadd, 1) := by decide +kernel
theorem dX10_step_98 : decode cX10_step 98 = .ok (.istore_n 3, 1) := by decide +kernel
theorem dX10_step_99 : decode cX10_step 99 = .ok (.aload_n 0, 1) := by decide +kernel
theorem dX10_step_100 : decode cX10_step 100 = .ok (.getfield 86, 3) := by decide +kernel
theorem dX10_step_103 : decode cX10_step 103 = .ok (.iload_n 1, 1) := by decide +kernel
theorem dX10_step_104 : decode cX10_step 104 = .ok (.dup2, 1) := by decide +kernel
theorem dX10_step_105 : decode cX10_step 105 = .ok (.iaload, 1) := by decide +kernel
theorem dX10_step_106 : decode cX10_step 106 = .ok (.iconst 1, 1) := by decide +kernel
theorem dX10_step_107 : decode cX10_step 107 = .ok (.iadd, 1) := by decide +kernel
theorem dX10_step_108 : decode cX10_step 108 = .ok (.iastore, 1) := by decide +kernel
theorem dX10_step_109 : decode cX10_step 109 = .ok (.aload_n 0, 1) := by decide +kernel
theorem dX10_step_110 : decode cX10_step 110 = .ok (.iload_n 1, 1) := by decide +kernel
theorem dX10_step_111 : decode cX10_step 111 = .ok (.aload_n 0, 1) := by decide +kernel
theorem dX10_step_112 : decode cX10_step 112 = .ok (.getfield 22, 3) := by decide +kernel
theorem dX10_step_115 : decode cX10_step 115 = .ok (.iload_n 3, 1) := by decide +kernel
theorem dX10_step_116 : decode cX10_step 116 = .ok (.iaload, 1) := by decide +kernel
theorem dX10_step_117 : decode cX10_step 117 = .ok (.aload_n 0, 1) := by decide +kernel
theorem dX10_step_118 : decode cX10_step 118 = .ok (.getfield 25, 3) := by decide +kernel
theorem dX10_step_121 : decode cX10_step 121 = .ok (.iload_n 3, 1) := by decide +kernel
theorem dX10_step_122 : decode cX10_step 122 = .ok (.iaload, 1) := by decide +kernel
theorem dX10_step_123 : decode cX10_step 123 = .ok (.aload_n 0, 1) := by decide +kernel
theorem dX10_step_124 : decode cX10_step 124 = .ok (.getfield 28, 3) := by decide +kernel
theorem dX10_step_127 : decode cX10_step 127 = .ok (.iload_n 3, 1) := by decide +kernel
theorem dX10_step_128 : decode cX10_step 128 = .ok (.iaload, 1) := by decide +kernel
theorem dX10_step_129 : decode cX10_step 129 = .ok (.invokevirtual 226, 3) := by decide +kernel
theorem dX10_step_132 : decode cX10_step 132 = .ok (.return_, 1) := by decide +kernel
theorem dX10_doAct_0 : decode cX10_doAct 0 = .ok (.iload_n 2, 1) := by decide +kernel
theorem dX10_doAct_1 : decode cX10_doAct 1 = .ok (.tableswitch 285 0 13 #[71, 81, 96, 111, 124, 146, 170, 186, 208, 229, 229, 229, 252, 269], 71) := by decide +kernel
theorem dX10_doAct_72 : decode cX10_doAct 72 = .ok (.aload_n 0, 1) := by decide +kernel
theorem dX10_doAct_73 : decode cX10_doAct 73 = .ok (.getfield 95, 3) := by decide +kernel
theorem dX10_doAct_76 : decode cX10_doAct 76 = .ok (.iload_n 1, 1) := by decide +kernel
theorem dX10_doAct_77 : decode cX10_doAct 77 = .ok (.iload_n 3, 1) := by decide +kernel
theorem dX10_doAct_78 : decode cX10_doAct 78 = .ok (.iastore, 1) := by decide +kernel
theorem dX10_doAct_79 : decode cX10_doAct 79 = .ok (.goto 239, 3) := by decide +kernel
theorem dX10_doAct_82 : decode cX10_doAct 82 = .ok (.aload_n 0, 1) := by decide +kernel
theorem dX10_doAct_83 : decode cX10_doAct 83 = .ok (.getfield 95, 3) := by decide +kernel
theorem dX10_doAct_86 : decode cX10_doAct 86 = .ok (.iload_n 1, 1) := by decide +kernel
theorem dX10_doAct_87 : decode cX10_doAct 87 = .ok (.aload_n 0, 1) := by decide +kernel
theorem dX10_doAct_88 : decode cX10_doAct 88 = .ok (.getfield 92, 3) := by decide +kernel
theorem dX10_doAct_91 : decode cX10_doAct 91 = .ok (.iload_n 1, 1) := by decide +kernel
theorem dX10_doAct_92 : decode cX10_doAct 92 = .ok (.iaload, 1) := by decide +kernel
theorem dX10_doAct_93 : decode cX10_doAct 93 = .ok (.iastore, 1) := by decide +kernel
theorem dX10_doAct_94 : decode cX10_doAct 94 = .ok (.goto 224, 3) := by decide +kernel
theorem dX10_doAct_97 : decode cX10_doAct 97 = .ok (.aload_n 0, 1) := by decide +kernel
theorem dX10_doAct_98 : decode cX10_doAct 98 = .ok (.getfield 95, 3) := by decide +kernel
theorem dX10_doAct_101 : decode cX10_doAct 101 = .ok (.iload_n 1, 1) := by decide +kernel
theorem dX10_doAct_102 : decode cX10_doAct 102 = .ok (.aload_n 0, 1) := by decide +kernel
theorem dX10_doAct_103 : decode cX10_doAct 103 = .ok (.getfield 89, 3) := by decide +kernel
theorem dX10_doAct_106 : decode cX10_doAct 106 = .ok (.iload_n 1, 1) := by decide +kernel
theorem dX10_doAct_107 : decode cX10_doAct 107 = .ok (.iaload, 1) := by decide +kernel
theorem dX10_doAct_108 : decode cX10_doAct 108 = .ok (.iastore, 1) := by decide +kernel
theorem dX10_doAct_109 : decode cX10_doAct 109 = .ok (.goto 209, 3) := by decide +kernel
theorem dX10_doAct_112 : decode cX10_doAct 112 = .ok (.aload_n 0, 1) := by decide +kernel
theorem dX10_doAct_113 : decode cX10_doAct 113 = .ok (.getfield 95, 3) := by decide +kernel
theorem dX10_doAct_116 : decode cX10_doAct 116 = .ok (.iload_n 1, 1) := by decide +kernel
theorem dX10_doAct_117 : decode cX10_doAct 117 = .ok (.dup2, 1) := by decide +kernel
theorem dX10_doAct_118 : decode cX10_doAct 118 = .ok (.iaload, 1) := by decide +kernel
theorem dX10_doAct_119 : decode cX10_doAct 119 = .ok (.iload_n 3, 1) := by decide +kernel
theorem dX10_doAct_120 : decode cX10_doAct 120 = .ok (.iadd, 1) := by decide +kernel
theorem dX10_doAct_121 : decode cX10_doAct 121 = .ok (.iastore, 1) := by decide +kernel
theorem dX10_doAct_122 : decode cX10_doAct 122 = .ok (.goto 196, 3) := by decide +kernel
theorem dX10_doAct_125 : decode cX10_doAct 125 = .ok (.aload_n 0, 1) := by decide +kernel
theorem dX10_doAct_126 : decode cX10_doAct 126 = .ok (.getfield 95, 3) := by decide +kernel
theorem dX10_doAct_129 : decode cX10_doAct 129 = .ok (.iload_n 1, 1) := by decide +kernel
theorem dX10_doAct_130 : decode cX10_doAct 130 = .ok (.aload_n 0, 1) := by decide +kernel
theorem dX10_doAct_131 : decode cX10_doAct 131 = .ok (.aload_n 0, 1) := by decide +kernel
theorem dX10_doAct_132 : decode cX10_doAct 132 = .ok (.getfield 89, 3) := by decide +kernel
theorem dX10_doAct_135 : decode cX10_doAct 135 = .ok (.iload_n 1, 1) := by decide +kernel
theorem dX10_doAct_136 : decode cX10_doAct 136 = .ok (.iaload, 1) := by decide +kernel
theorem dX10_doAct_137 : decode cX10_doAct 137 = .ok (.iload_n 3, 1) := by decide +kernel
theorem dX10_doAct_138 : decode cX10_doAct 138 = .ok (.iload 4, 2) := by decide +kernel
theorem dX10_doAct_140 : decode cX10_doAct 140 = .ok (.invokevirtual 230, 3) := by decide +kernel
theorem dX10_doAct_143 : decode cX10_doAct 143 = .ok (.iastore, 1) := by decide +kernel
theorem dX10_doAct_144 : decode cX10_doAct 144 = .ok (.goto 174, 3) := by decide +kernel
theorem dX10_doAct_147 : decode cX10_doAct 147 = .ok (.aload_n 0, 1) := by decide +kernel
theorem dX10_doAct_148 : decode cX10_doAct 148 = .ok (.aload_n 0, 1) := by decide +kernel
theorem dX10_doAct_149 : decode cX10_doAct 149 = .ok (.getfield 89, 3) := by decide +kernel
theorem dX10_doAct_152 : decode cX10_doAct 152 = .ok (.iload_n 1, 1) := by decide +kernel
theorem dX10_doAct_153 : decode cX10_doAct 153 = .ok (.iaload, 1) := by decide +kernel
theorem dX10_doAct_154 : decode cX10_doAct 154 = .ok (.iload_n 3, 1) := by decide +kernel
theorem dX10_doAct_155 : decode cX10_doAct 155 = .ok (.iload 4, 2) := by decide +kernel
theorem dX10_doAct_157 : decode cX10_doAct 157 = .ok (.aload_n 0, 1) := by decide +kernel
theorem dX10_doAct_158 : decode cX10_doAct 158 = .ok (.getfield 95, 3) := by decide +kernel
theorem dX10_doAct_161 : decode cX10_doAct 161 = .ok (.iload_n 1, 1) := by decide +kernel
theorem dX10_doAct_162 : decode cX10_doAct 162 = .ok (.iaload, 1) := by decide +kernel
theorem dX10_doAct_163 : decode cX10_doAct 163 = .ok (.invokevirtual 233, 3) := by decide +kernel
theorem dX10_doAct_166 : decode cX10_doAct 166 = .ok (.istore 5, 2) := by decide +kernel
theorem dX10_doAct_168 : decode cX10_doAct 168 = .ok (.goto 150, 3) := by decide +kernel
theorem dX10_doAct_171 : decode cX10_doAct 171 = .ok (.aload_n 0, 1) := by decide +kernel
theorem dX10_doAct_172 : decode cX10_doAct 172 = .ok (.aload_n 0, 1) := by decide +kernel
theorem dX10_doAct_173 : decode cX10_doAct 173 = .ok (.getfield 95, 3) := by decide +kernel
theorem dX10_doAct_176 : decode cX10_doAct 176 = .ok (.iload_n 1, 1) := by decide +kernel
theorem dX10_doAct_177 : decode cX10_doAct 177 = .ok (.iaload, 1) := by decide +kernel
theorem dX10_doAct_178 : decode cX10_doAct 178 = .ok (.iload_n 3, 1) := by decide +kernel
theorem dX10_doAct_179 : decode cX10_doAct 179 = .ok (.iload 4, 2) := by decide +kernel
theorem dX10_doAct_181 : decode cX10_doAct 181 = .ok (.invokevirtual 237, 3) := by decide +kernel
theorem dX10_doAct_184 : decode cX10_doAct 184 = .ok (.goto 134, 3) := by decide +kernel
theorem dX10_doAct_187 : decode cX10_doAct 187 = .ok (.aload_n 0, 1) := by decide +kernel
theorem dX10_doAct_188 : decode cX10_doAct 188 = .ok (.iload 4, 2) := by decide +kernel
theorem dX10_doAct_190 : decode cX10_doAct 190 = .ok (.aload_n 0, 1) := by decide +kernel
theorem dX10_doAct_191 : decode cX10_doAct 191 = .ok (.getfield 89, 3) := by decide +kernel
theorem dX10_doAct_194 : decode cX10_doAct 194 = .ok (.iload_n 1, 1) := by decide +kernel
theorem dX10_doAct_195 : decode cX10_doAct 195 = .ok (.iaload, 1) := by decide +kernel
theorem dX10_doAct_196 : decode cX10_doAct 196 = .ok (.iload_n 3, 1) := by decide +kernel
theorem dX10_doAct_197 : decode cX10_doAct 197 = .ok (.aload_n 0, 1) := by decide +kernel
theorem dX10_doAct_198 : decode cX10_doAct 198 = .ok (.getfield 92, 3) := by decide +kernel
theorem dX10_doAct_201 : decode cX10_doAct 201 = .ok (.iload_n 1, 1) := by decide +kernel
theorem dX10_doAct_202 : decode cX10_doAct 202 = .ok (.iaload, 1) := by decide +kernel
theorem dX10_doAct_203 : decode cX10_doAct 203 = .ok (.invokevirtual 240, 3) := by decide +kernel
theorem dX10_doAct_206 : decode cX10_doAct 206 = .ok (.goto 112, 3) := by decide +kernel
theorem dX10_doAct_209 : decode cX10_doAct 209 = .ok (.aload_n 0, 1) := by decide +kernel
theorem dX10_doAct_210 : decode cX10_doAct 210 = .ok (.aload_n 0, 1) := by decide +kernel
theorem dX10_doAct_211 : decode cX10_doAct 211 = .ok (.getfield 89, 3) := by decide +kernel
theorem dX10_doAct_214 : decode cX10_doAct 214 = .ok (.iload_n 1, 1) := by decide +kernel
theorem dX10_doAct_215 : decode cX10_doAct 215 = .ok (.iaload, 1) := by decide +kernel
theorem dX10_doAct_216 : decode cX10_doAct 216 = .ok (.aload_n 0, 1) := by decide +kernel
theorem dX10_doAct_217 : decode cX10_doAct 217 = .ok (.getfield 95, 3) := by decide +kernel
theorem dX10_doAct_220 : decode cX10_doAct 220 = .ok (.iload_n 1, 1) := by decide +kernel
theorem dX10_doAct_221 : decode cX10_doAct 221 = .ok (.iaload, 1) := by decide +kernel
theorem dX10_doAct_222 : decode cX10_doAct 222 = .ok (.invokevirtual 243, 3) := by decide +kernel
theorem dX10_doAct_225 : decode cX10_doAct 225 = .ok (.istore 6, 2) := by decide +kernel
theorem dX10_doAct_227 : decode cX10_doAct 227 = .ok (.goto 91, 3) := by decide +kernel
theorem dX10_doAct_230 : decode cX10_doAct 230 = .ok (.aload_n 0, 1) := by decide +kernel
theorem dX10_doAct_231 : decode cX10_doAct 231 = .ok (.getfield 95, 3) := by decide +kernel
theorem dX10_doAct_234 : decode cX10_doAct 234 = .ok (.iload_n 1, 1) := by decide +kernel
theorem dX10_doAct_235 : decode cX10_doAct 235 = .ok (.aload_n 0, 1) := by decide +kernel
theorem dX10_doAct_236 : decode cX10_doAct 236 = .ok (.aload_n 0, 1) := by decide +kernel
theorem dX10_doAct_237 : decode cX10_doAct 237 = .ok (.getfield 95, 3) := by decide +kernel
theorem dX10_doAct_240 : decode cX10_doAct 240 = .ok (.iload_n 1, 1) := by decide +kernel
theorem dX10_doAct_241 : decode cX10_doAct 241 = .ok (.iaload, 1) := by decide +kernel
theorem dX10_doAct_242 : decode cX10_doAct 242 = .ok (.iload_n 2, 1) := by decide +kernel
theorem dX10_doAct_243 : decode cX10_doAct 243 = .ok (.bipush 9, 2) := by decide +kernel
theorem dX10_doAct_245 : decode cX10_doAct 245 = .ok (.isub, 1) := by decide +kernel
theorem dX10_doAct_246 : decode cX10_doAct 246 = .ok (.invokevirtual 246, 3) := by decide +kernel
theorem dX10_doAct_249 : decode cX10_doAct 249 = .ok (.iastore, 1) := by decide +kernel
theorem dX10_doAct_250 : decode cX10_doAct 250 = .ok (.goto 68, 3) := by decide +kernel
theorem dX10_doAct_253 : decode cX10_doAct 253 = .ok (.aload_n 0, 1) := by decide +kernel
theorem dX10_doAct_254 : decode cX10_doAct 254 = .ok (.getfield 95, 3) := by decide +kernel
theorem dX10_doAct_257 : decode cX10_doAct 257 = .ok (.iload_n 1, 1) := by decide +kernel
theorem dX10_doAct_258 : decode cX10_doAct 258 = .ok (.iaload, 1) := by decide +kernel
theorem dX10_doAct_259 : decode cX10_doAct 259 = .ok (.ifCond .ne 59, 3) := by decide +kernel
theorem dX10_doAct_262 : decode cX10_doAct 262 = .ok (.aload_n 0, 1) := by decide +kernel
theorem dX10_doAct_263 : decode cX10_doAct 263 = .ok (.iload_n 1, 1) := by decide +kernel
theorem dX10_doAct_264 : decode cX10_doAct 264 = .ok (.invokevirtual 217, 3) := by decide +kernel
theorem dX10_doAct_267 : decode cX10_doAct 267 = .ok (.goto 51, 3) := by decide +kernel
theorem dX10_doAct_270 : decode cX10_doAct 270 = .ok (.aload_n 0, 1) := by decide +kernel
theorem dX10_doAct_271 : decode cX10_doAct 271 = .ok (.aload_n 0, 1) := by decide +kernel
theorem dX10_doAct_272 : decode cX10_doAct 272 = .ok (.getfield 95, 3) := by decide +kernel
theorem dX10_doAct_275 : decode cX10_doAct 275 = .ok (.iload_n 1, 1) := by decide +kernel
theorem dX10_doAct_276 : decode cX10_doAct 276 = .ok (.iaload, 1) := by decide +kernel
theorem dX10_doAct_277 : decode cX10_doAct 277 = .ok (.iload_n 3, 1) := by decide +kernel
theorem dX10_doAct_278 : decode cX10_doAct 278 = .ok (.invokevirtual 249, 3) := by decide +kernel
theorem dX10_doAct_281 : decode cX10_doAct 281 = .ok (.istore 7, 2) := by decide +kernel
theorem dX10_doAct_283 : decode cX10_doAct 283 = .ok (.goto 35, 3) := by decide +kernel
theorem dX10_doAct_286 : decode cX10_doAct 286 = .ok (.aload_n 0, 1) := by decide +kernel
theorem dX10_doAct_287 : decode cX10_doAct 287 = .ok (.getfield 95, 3) := by decide +kernel
theorem dX10_doAct_290 : decode cX10_doAct 290 = .ok (.iload_n 1, 1) := by decide +kernel
theorem dX10_doAct_291 : decode cX10_doAct 291 = .ok (.aload_n 0, 1) := by decide +kernel
theorem dX10_doAct_292 : decode cX10_doAct 292 = .ok (.aload_n 0, 1) := by decide +kernel
theorem dX10_doAct_293 : decode cX10_doAct 293 = .ok (.getfield 95, 3) := by decide +kernel
theorem dX10_doAct_296 : decode cX10_doAct 296 = .ok (.iload_n 1, 1) := by decide +kernel
theorem dX10_doAct_297 : decode cX10_doAct 297 = .ok (.iaload, 1) := by decide +kernel
theorem dX10_doAct_298 : decode cX10_doAct 298 = .ok (.iload_n 3, 1) := by decide +kernel
theorem dX10_doAct_299 : decode cX10_doAct 299 = .ok (.invokevirtual 214, 3) := by decide +kernel
theorem dX10_doAct_302 : decode cX10_doAct 302 = .ok (.iastore, 1) := by decide +kernel
theorem dX10_doAct_303 : decode cX10_doAct 303 = .ok (.aload_n 0, 1) := by decide +kernel
theorem dX10_doAct_304 : decode cX10_doAct 304 = .ok (.getfield 95, 3) := by decide +kernel
theorem dX10_doAct_307 : decode cX10_doAct 307 = .ok (.iload_n 1, 1) := by decide +kernel
theorem dX10_doAct_308 : decode cX10_doAct 308 = .ok (.iaload, 1) := by decide +kernel
theorem dX10_doAct_309 : decode cX10_doAct 309 = .ok (.iconst 1, 1) := by decide +kernel
theorem dX10_doAct_310 : decode cX10_doAct 310 = .ok (.if_icmp .ne 8, 3) := by decide +kernel
theorem dX10_doAct_313 : decode cX10_doAct 313 = .ok (.aload_n 0, 1) := by decide +kernel
theorem dX10_doAct_314 : decode cX10_doAct 314 = .ok (.iload_n 1, 1) := by decide +kernel
theorem dX10_doAct_315 : decode cX10_doAct 315 = .ok (.invokevirtual 217, 3) := by decide +kernel
theorem dX10_doAct_318 : decode cX10_doAct 318 = .ok (.return_, 1) := by decide +kernel
theorem dX10_begins_0 : decode cX10_begins 0 = .ok (.aload_n 0, 1) := by decide +kernel
theorem dX10_begins_1 : decode cX10_begins 1 = .ok (.iconst 0, 1) := by decide +kernel
theorem dX10_begins_2 : decode cX10_begins 2 = .ok (.putfield 186, 3) := by decide +kernel
theorem dX10_begins_5 : decode cX10_begins 5 = .ok (.aload_n 0, 1) := by decide +kernel
theorem dX10_begins_6 : decode cX10_begins 6 = .ok (.iconst 0, 1) := by decide +kernel
theorem dX10_begins_7 : decode cX10_begins 7 = .ok (.putfield 189, 3) := by decide +kernel
theorem dX10_begins_10 : decode cX10_begins 10 = .ok (.aload_n 0, 1) := by decide +kernel
theorem dX10_begins_11 : decode cX10_begins 11 = .ok (.iconst 0, 1) := by decide +kernel
theorem dX10_begins_12 : decode cX10_begins 12 = .ok (.putfield 220, 3) := by decide +kernel
theorem dX10_begins_15 : decode cX10_begins 15 = .ok (.aload_n 0, 1) := by decide +kernel
theorem dX10_begins_16 : decode cX10_begins 16 = .ok (.iconst 0, 1) := by decide +kernel
theorem dX10_begins_17 : decode cX10_begins 17 = .ok (.putfield 223, 3) := by decide +kernel
theorem dX10_begins_20 : decode cX10_begins 20 = .ok (.aload_n 0, 1) := by decide +kernel
theorem dX10_begins_21 : decode cX10_begins 21 = .ok (.iconst 0, 1) := by decide +kernel
theorem dX10_begins_22 : decode cX10_begins 22 = .ok (.putfield 180, 3) := by decide +kernel
theorem dX10_begins_25 : decode cX10_begins 25 = .ok (.return_, 1) := by decide +kernel
theorem dX10_goes_0 : decode cX10_goes 0 = .ok (.aload_n 0, 1) := by decide +kernel
theorem dX10_goes_1 : decode cX10_goes 1 = .ok (.getfield 180, 3) := by decide +kernel
theorem dX10_goes_4 : decode cX10_goes 4 = .ok (.ifCond .eq 10, 3) := by decide +kernel
theorem dX10_goes_7 : decode cX10_goes 7 = .ok (.aload_n 0, 1) := by decide +kernel
theorem dX10_goes_8 : decode cX10_goes 8 = .ok (.getfield 186, 3) := by decide +kernel
theorem dX10_goes_11 : decode cX10_goes 11 = .ok (.ifCond .le 24, 3) := by decide +kernel
theorem dX10_goes_14 : decode cX10_goes 14 = .ok (.aload_n 0, 1) := by decide +kernel
theorem dX10_goes_15 : decode cX10_goes 15 = .ok (.getfield 180, 3) := by decide +kernel
theorem dX10_goes_18 : decode cX10_goes 18 = .ok (.ifCond .eq 10, 3) := by decide +kernel
theorem dX10_goes_21 : decode cX10_goes 21 = .ok (.aload_n 0, 1) := by decide +kernel
theorem dX10_goes_22 : decode cX10_goes 22 = .ok (.invokevirtual 252, 3) := by decide +kernel
theorem dX10_goes_25 : decode cX10_goes 25 = .ok (.goto (-25), 3) := by decide +kernel
theorem dX10_goes_28 : decode cX10_goes 28 = .ok (.aload_n 0, 1) := by decide +kernel
theorem dX10_goes_29 : decode cX10_goes 29 = .ok (.invokevirtual 255, 3) := by decide +kernel
theorem dX10_goes_32 : decode cX10_goes 32 = .ok (.goto (-32), 3) := by decide +kernel
theorem dX10_goes_35 : decode cX10_goes 35 = .ok (.aload_n 0, 1) := by decide +kernel
theorem dX10_goes_36 : decode cX10_goes 36 = .ok (.getfield 183, 3) := by decide +kernel
theorem dX10_goes_39 : decode cX10_goes 39 = .ok (.ireturn, 1) := by decide +kernel
theorem dX10_send_0 : decode cX10_send 0 = .ok (.aload_n 0, 1) := by decide +kernel
theorem dX10_send_1 : decode cX10_send 1 = .ok (.invokevirtual 258, 3) := by decide +kernel
theorem dX10_send_4 : decode cX10_send 4 = .ok (.aload_n 0, 1) := by decide +kernel
theorem dX10_send_5 : decode cX10_send 5 = .ok (.iload_n 1, 1) := by decide +kernel
theorem dX10_send_6 : decode cX10_send 6 = .ok (.iload_n 2, 1) := by decide +kernel
theorem dX10_send_7 : decode cX10_send 7 = .ok (.iload_n 3, 1) := by decide +kernel
theorem dX10_send_8 : decode cX10_send 8 = .ok (.invokevirtual 237, 3) := by decide +kernel
theorem dX10_send_11 : decode cX10_send 11 = .ok (.aload_n 0, 1) := by decide +kernel
theorem dX10_send_12 : decode cX10_send 12 = .ok (.invokevirtual 261, 3) := by decide +kernel
theorem dX10_send_15 : decode cX10_send 15 = .ok (.ireturn, 1) := by decide +kernel
theorem dX10_sendAs_0 : decode cX10_sendAs 0 = .ok (.aload_n 0, 1) := by decide +kernel
theorem dX10_sendAs_1 : decode cX10_sendAs 1 = .ok (.invokevirtual 258, 3) := by decide +kernel
theorem dX10_sendAs_4 : decode cX10_sendAs 4 = .ok (.aload_n 0, 1) := by decide +kernel
theorem dX10_sendAs_5 : decode cX10_sendAs 5 = .ok (.iload_n 1, 1) := by decide +kernel
theorem dX10_sendAs_6 : decode cX10_sendAs 6 = .ok (.iload_n 2, 1) := by decide +kernel
theorem dX10_sendAs_7 : decode cX10_sendAs 7 = .ok (.iload_n 3, 1) := by decide +kernel
theorem dX10_sendAs_8 : decode cX10_sendAs 8 = .ok (.iload 4, 2) := by decide +kernel
theorem dX10_sendAs_10 : decode cX10_sendAs 10 = .ok (.invokevirtual 240, 3) := by decide +kernel
theorem dX10_sendAs_13 : decode cX10_sendAs 13 = .ok (.aload_n 0, 1) := by decide +kernel
theorem dX10_sendAs_14 : decode cX10_sendAs 14 = .ok (.invokevirtual 261, 3) := by decide +kernel
theorem dX10_sendAs_17 : decode cX10_sendAs 17 = .ok (.ireturn, 1) := by decide +kernel
theorem dX10_loop_0 : decode cX10_loop 0 = .ok (.aload_n 0, 1) := by decide +kernel
theorem dX10_loop_1 : decode cX10_loop 1 = .ok (.invokevirtual 258, 3) := by decide +kernel
theorem dX10_loop_4 : decode cX10_loop 4 = .ok (.aload_n 0, 1) := by decide +kernel
theorem dX10_loop_5 : decode cX10_loop 5 = .ok (.iload_n 1, 1) := by decide +kernel
theorem dX10_loop_6 : decode cX10_loop 6 = .ok (.invokevirtual 141, 3) := by decide +kernel
theorem dX10_loop_9 : decode cX10_loop 9 = .ok (.iconst 2, 1) := by decide +kernel
theorem dX10_loop_10 : decode cX10_loop 10 = .ok (.if_icmp .eq 12, 3) := by decide +kernel
theorem dX10_loop_13 : decode cX10_loop 13 = .ok (.aload_n 0, 1) := by decide +kernel
theorem dX10_loop_14 : decode cX10_loop 14 = .ok (.bipush 6, 2) := by decide +kernel
theorem dX10_loop_16 : decode cX10_loop 16 = .ok (.iload_n 1, 1) := by decide +kernel
theorem dX10_loop_17 : decode cX10_loop 17 = .ok (.iconst 0, 1) := by decide +kernel
theorem dX10_loop_18 : decode cX10_loop 18 = .ok (.invokevirtual 174, 3) := by decide +kernel
theorem dX10_loop_21 : decode cX10_loop 21 = .ok (.ireturn, 1) := by decide +kernel
theorem dX10_loop_22 : decode cX10_loop 22 = .ok (.aload_n 0, 1) := by decide +kernel
theorem dX10_loop_23 : decode cX10_loop 23 = .ok (.iload_n 2, 1) := by decide +kernel
theorem dX10_loop_24 : decode cX10_loop 24 = .ok (.invokevirtual 141, 3) := by decide +kernel
theorem dX10_loop_27 : decode cX10_loop 27 = .ok (.iconst 4, 1) := by decide +kernel
theorem dX10_loop_28 : decode cX10_loop 28 = .ok (.if_icmp .eq 12, 3) := by decide +kernel
theorem dX10_loop_31 : decode cX10_loop 31 = .ok (.aload_n 0, 1) := by decide +kernel
theorem dX10_loop_32 : decode cX10_loop 32 = .ok (.bipush 13, 2) := by decide +kernel
theorem dX10_loop_34 : decode cX10_loop 34 = .ok (.iload_n 1, 1) := by decide +kernel
theorem dX10_loop_35 : decode cX10_loop 35 = .ok (.iload_n 2, 1) := by decide +kernel
theorem dX10_loop_36 : decode cX10_loop 36 = .ok (.invokevirtual 174, 3) := by decide +kernel
theorem dX10_loop_39 : decode cX10_loop 39 = .ok (.ireturn, 1) := by decide +kernel
theorem dX10_loop_40 : decode cX10_loop 40 = .ok (.iconst 0, 1) := by decide +kernel
theorem dX10_loop_41 : decode cX10_loop 41 = .ok (.istore_n 3, 1) := by decide +kernel
theorem dX10_loop_42 : decode cX10_loop 42 = .ok (.aload_n 0, 1) := by decide +kernel
theorem dX10_loop_43 : decode cX10_loop 43 = .ok (.getfield 68, 3) := by decide +kernel
theorem dX10_loop_46 : decode cX10_loop 46 = .ok (.iload_n 1, 1) := by decide +kernel
theorem dX10_loop_47 : decode cX10_loop 47 = .ok (.iaload, 1) := by decide +kernel
theorem dX10_loop_48 : decode cX10_loop 48 = .ok (.istore 4, 2) := by decide +kernel
theorem dX10_loop_50 : decode cX10_loop 50 = .ok (.iload 4, 2) := by decide +kernel
theorem dX10_loop_52 : decode cX10_loop 52 = .ok (.ifCond .eq 77, 3) := by decide +kernel
theorem dX10_loop_55 : decode cX10_loop 55 = .ok (.iload_n 3, 1) := by decide +kernel
theorem dX10_loop_56 : decode cX10_loop 56 = .ok (.bipush 40, 2) := by decide +kernel
theorem dX10_loop_58 : decode cX10_loop 58 = .ok (.if_icmp .ge 71, 3) := by decide +kernel
theorem dX10_loop_61 : decode cX10_loop 61 = .ok (.aload_n 0, 1) := by decide +kernel
theorem dX10_loop_62 : decode cX10_loop 62 = .ok (.getfield 71, 3) := by decide +kernel
theorem dX10_loop_65 : decode cX10_loop 65 = .ok (.iload 4, 2) := by decide +kernel
theorem dX10_loop_67 : decode cX10_loop 67 = .ok (.iaload, 1) := by decide +kernel
theorem dX10_loop_68 : decode cX10_loop 68 = .ok (.istore 5, 2) := by decide +kernel
theorem dX10_loop_70 : decode cX10_loop 70 = .ok (.aload_n 0, 1) := by decide +kernel
theorem dX10_loop_71 : decode cX10_loop 71 = .ok (.iconst 0, 1) := by decide +kernel
theorem dX10_loop_72 : decode cX10_loop 72 = .ok (.putfield 180, 3) := by decide +kernel
theorem dX10_loop_75 : decode cX10_loop 75 = .ok (.aload_n 0, 1) := by decide +kernel
theorem dX10_loop_76 : decode cX10_loop 76 = .ok (.iload_n 2, 1) := by decide +kernel
theorem dX10_loop_77 : decode cX10_loop 77 = .ok (.iload 4, 2) := by decide +kernel
theorem dX10_loop_79 : decode cX10_loop 79 = .ok (.iload_n 1, 1) := by decide +kernel
theorem dX10_loop_80 : decode cX10_loop 80 = .ok (.invokevirtual 198, 3) := by decide +kernel
theorem dX10_loop_83 : decode cX10_loop 83 = .ok (.aload_n 0, 1) := by decide +kernel
theorem dX10_loop_84 : decode cX10_loop 84 = .ok (.invokevirtual 261, 3) := by decide +kernel
theorem dX10_loop_87 : decode cX10_loop 87 = .ok (.istore 6, 2) := by decide +kernel
theorem dX10_loop_89 : decode cX10_loop 89 = .ok (.iinc 3 1, 3) := by decide +kernel
theorem dX10_loop_92 : decode cX10_loop 92 = .ok (.iload 5, 2) := by decide +kernel
theorem dX10_loop_94 : decode cX10_loop 94 = .ok (.ifCond .eq 28, 3) := by decide +kernel
theorem dX10_loop_97 : decode cX10_loop 97 = .ok (.aload_n 0, 1) := by decide +kernel
theorem dX10_loop_98 : decode cX10_loop 98 = .ok (.getfield 65, 3) := by decide +kernel
theorem dX10_loop_101 : decode cX10_loop 101 = .ok (.iload 5, 2) := by decide +kernel
theorem dX10_loop_103 : decode cX10_loop 103 = .ok (.iaload, 1) := by decide +kernel
theorem dX10_loop_104 : decode cX10_loop 104 = .ok (.iload_n 1, 1) := by decide +kernel
theorem dX10_loop_105 : decode cX10_loop 105 = .ok (.if_icmp .eq 17, 3) := by decide +kernel
theorem dX10_loop_108 : decode cX10_loop 108 = .ok (.aload_n 0, 1) := by decide +kernel
theorem dX10_loop_109 : decode cX10_loop 109 = .ok (.bipush 11, 2) := by decide +kernel
theorem dX10_loop_111 : decode cX10_loop 111 = .ok (.iload 5, 2) := by decide +kernel
theorem dX10_loop_113 : decode cX10_loop 113 = .ok (.iconst 0, 1) := by decide +kernel
theorem dX10_loop_114 : decode cX10_loop 114 = .ok (.invokevirtual 174, 3) := by decide +kernel
theorem dX10_loop_117 : decode cX10_loop 117 = .ok (.istore 7, 2) := by decide +kernel
theorem dX10_loop_119 : decode cX10_loop 119 = .ok (.iconst 0, 1) := by decide +kernel
theorem dX10_loop_120 : decode cX10_loop 120 = .ok (.istore 5, 2) := by decide +kernel
theorem dX10_loop_122 : decode cX10_loop 122 = .ok (.iload 5, 2) := by decide +kernel
theorem dX10_loop_124 : decode cX10_loop 124 = .ok (.istore 4, 2) := by decide +kernel
theorem dX10_loop_126 : decode cX10_loop 126 = .ok (.goto (-76), 3) := by decide +kernel
theorem dX10_loop_129 : decode cX10_loop 129 = .ok (.iload_n 3, 1) := by decide +kernel
theorem dX10_loop_130 : decode cX10_loop 130 = .ok (.ireturn, 1) := by decide +kernel
theorem dX10_isWrongWord_0 : decode cX10_isWrongWord 0 = .ok (.aload_n 0, 1) := by decide +kernel
theorem dX10_isWrongWord_1 : decode cX10_isWrongWord 1 = .ok (.iload_n 1, 1) := by decide +kernel
theorem dX10_isWrongWord_2 : decode cX10_isWrongWord 2 = .ok (.invokevirtual 141, 3) := by decide +kernel
theorem dX10_isWrongWord_5 : decode cX10_isWrongWord 5 = .ok (.iconst 5, 1) := by decide +kernel
theorem dX10_isWrongWord_6 : decode cX10_isWrongWord 6 = .ok (.if_icmp .eq 20, 3) := by decide +kernel
theorem dX10_isWrongWord_9 : decode cX10_isWrongWord 9 = .ok (.aload_n 0, 1) := by decide +kernel
theorem dX10_isWrongWord_10 : decode cX10_isWrongWord 10 = .ok (.bipush 14, 2) := by decide +kernel
theorem dX10_isWrongWord_12 : decode cX10_isWrongWord 12 = .ok (.iload_n 1, 1) := by decide +kernel
theorem dX10_isWrongWord_13 : decode cX10_isWrongWord 13 = .ok (.iload_n 2, 1) := by decide +kernel
theorem dX10_isWrongWord_14 : decode cX10_isWrongWord 14 = .ok (.invokevirtual 174, 3) := by decide +kernel
theorem dX10_isWrongWord_17 : decode cX10_isWrongWord 17 = .ok (.ifCond .ne 7, 3) := by decide +kernel
theorem dX10_isWrongWord_20 : decode cX10_isWrongWord 20 = .ok (.iconst 1, 1) := by decide +kernel
theorem dX10_isWrongWord_21 : decode cX10_isWrongWord 21 = .ok (.goto 4, 3) := by decide +kernel
theorem dX10_isWrongWord_24 : decode cX10_isWrongWord 24 = .ok (.iconst 0, 1) := by decide +kernel
theorem dX10_isWrongWord_25 : decode cX10_isWrongWord 25 = .ok (.ireturn, 1) := by decide +kernel
theorem dX10_isWrongWord_26 : decode cX10_isWrongWord 26 = .ok (.iload_n 2, 1) := by decide +kernel
theorem dX10_isWrongWord_27 : decode cX10_isWrongWord 27 = .ok (.iconst 0, 1) := by decide +kernel
theorem dX10_isWrongWord_28 : decode cX10_isWrongWord 28 = .ok (.iload_n 3, 1) := by decide +kernel
theorem dX10_isWrongWord_29 : decode cX10_isWrongWord 29 = .ok (.aload_n 0, 1) := by decide +kernel
theorem dX10_isWrongWord_30 : decode cX10_isWrongWord 30 = .ok (.getfield 31, 3) := by decide +kernel
theorem dX10_isWrongWord_33 : decode cX10_isWrongWord 33 = .ok (.iload_n 1, 1) := by decide +kernel
theorem dX10_isWrongWord_34 : decode cX10_isWrongWord 34 = .ok (.sipush 301, 3) := by decide +kernel
theorem dX10_isWrongWord_37 : decode cX10_isWrongWord 37 = .ok (.isub, 1) := by decide +kernel
theorem dX10_isWrongWord_38 : decode cX10_isWrongWord 38 = .ok (.iaload, 1) := by decide +kernel
theorem dX10_isWrongWord_39 : decode cX10_isWrongWord 39 = .ok (.imul, 1) := by decide +kernel
theorem dX10_isWrongWord_40 : decode cX10_isWrongWord 40 = .ok (.iconst 1, 1) := by decide +kernel
theorem dX10_isWrongWord_41 : decode cX10_isWrongWord 41 = .ok (.isub, 1) := by decide +kernel
theorem dX10_isWrongWord_42 : decode cX10_isWrongWord 42 = .ok (.invokestatic 102, 3) := by decide +kernel
theorem dX10_isWrongWord_45 : decode cX10_isWrongWord 45 = .ok (.ifCond .ne 18, 3) := by decide +kernel
theorem dX10_isWrongWord_48 : decode cX10_isWrongWord 48 = .ok (.aload_n 0, 1) := by decide +kernel
theorem dX10_isWrongWord_49 : decode cX10_isWrongWord 49 = .ok (.bipush 12, 2) := by decide +kernel
theorem dX10_isWrongWord_51 : decode cX10_isWrongWord 51 = .ok (.iload_n 1, 1) := by decide +kernel
theorem dX10_isWrongWord_52 : decode cX10_isWrongWord 52 = .ok (.iload_n 2, 1) := by decide +kernel
theorem dX10_isWrongWord_53 : decode cX10_isWrongWord 53 = .ok (.invokevirtual 174, 3) := by decide +kernel
theorem dX10_isWrongWord_56 : decode cX10_isWrongWord 56 = .ok (.ifCond .ne 7, 3) := by decide +kernel
theorem dX10_isWrongWord_59 : decode cX10_isWrongWord 59 = .ok (.iconst 1, 1) := by decide +kernel
theorem dX10_isWrongWord_60 : decode cX10_isWrongWord 60 = .ok (.goto 4, 3) := by decide +kernel
theorem dX10_isWrongWord_63 : decode cX10_isWrongWord 63 = .ok (.iconst 0, 1) := by decide +kernel
theorem dX10_isWrongWord_64 : decode cX10_isWrongWord 64 = .ok (.ireturn, 1) := by decide +kernel
theorem dX10_word_0 : decode cX10_word 0 = .ok (.aload_n 0, 1) := by decide +kernel
theorem dX10_word_1 : decode cX10_word 1 = .ok (.iload_n 1, 1) := by decide +kernel
theorem dX10_word_2 : decode cX10_word 2 = .ok (.iload_n 2, 1) := by decide +kernel
theorem dX10_word_3 : decode cX10_word 3 = .ok (.iconst 1, 1) := by decide +kernel
theorem dX10_word_4 : decode cX10_word 4 = .ok (.invokevirtual 265, 3) := by decide +kernel
theorem dX10_word_7 : decode cX10_word 7 = .ok (.ifCond .eq 7, 3) := by decide +kernel
theorem dX10_word_10 : decode cX10_word 10 = .ok (.iconst 0, 1) := by decide +kernel
theorem dX10_word_11 : decode cX10_word 11 = .ok (.goto 18, 3) := by decide +kernel
theorem dX10_word_14 : decode cX10_word 14 = .ok (.aload_n 0, 1) := by decide +kernel
theorem dX10_word_15 : decode cX10_word 15 = .ok (.getfield 34, 3) := by decide +kernel
theorem dX10_word_18 : decode cX10_word 18 = .ok (.bipush 10, 2) := by decide +kernel
theorem dX10_word_20 : decode cX10_word 20 = .ok (.iload_n 1, 1) := by decide +kernel
theorem dX10_word_21 : decode cX10_word 21 = .ok (.sipush 301, 3) := by decide +kernel
theorem dX10_word_24 : decode cX10_word 24 = .ok (.isub, 1) := by decide +kernel
theorem dX10_word_25 : decode cX10_word 25 = .ok (.imul, 1) := by decide +kernel
theorem dX10_word_26 : decode cX10_word 26 = .ok (.iload_n 2, 1) := by decide +kernel
theorem dX10_word_27 : decode cX10_word 27 = .ok (.iadd, 1) := by decide +kernel
theorem dX10_word_28 : decode cX10_word 28 = .ok (.iaload, 1) := by decide +kernel
theorem dX10_word_29 : decode cX10_word 29 = .ok (.ireturn, 1) := by decide +kernel
theorem dX10_setWord_0 : decode cX10_setWord 0 = .ok (.aload_n 0, 1) := by decide +kernel
theorem dX10_setWord_1 : decode cX10_setWord 1 = .ok (.iload_n 1, 1) := by decide +kernel
theorem dX10_setWord_2 : decode cX10_setWord 2 = .ok (.iload_n 2, 1) := by decide +kernel
theorem dX10_setWord_3 : decode cX10_setWord 3 = .ok (.iconst 1, 1) := by decide +kernel
theorem dX10_setWord_4 : decode cX10_setWord 4 = .ok (.invokevirtual 265, 3) := by decide +kernel
theorem dX10_setWord_7 : decode cX10_setWord 7 = .ok (.ifCond .eq 5, 3) := by decide +kernel
theorem dX10_setWord_10 : decode cX10_setWord 10 = .ok (.iconst 0, 1) := by decide +kernel
theorem dX10_setWord_11 : decode cX10_setWord 11 = .ok (.ireturn, 1) := by decide +kernel
theorem dX10_setWord_12 : decode cX10_setWord 12 = .ok (.aload_n 0, 1) := by decide +kernel
theorem dX10_setWord_13 : decode cX10_setWord 13 = .ok (.getfield 34, 3) := by decide +kernel
theorem dX10_setWord_16 : decode cX10_setWord 16 = .ok (.bipush 10, 2) := by decide +kernel
theorem dX10_setWord_18 : decode cX10_setWord 18 = .ok (.iload_n 1, 1) := by decide +kernel
theorem dX10_setWord_19 : decode cX10_setWord 19 = .ok (.sipush 301, 3) := by decide +kernel
theorem dX10_setWord_22 : decode cX10_setWord 22 = .ok (.isub, 1) := by decide +kernel
theorem dX10_setWord_23 : decode cX10_setWord 23 = .ok (.imul, 1) := by decide +kernel
theorem dX10_setWord_24 : decode cX10_setWord 24 = .ok (.iload_n 2, 1) := by decide +kernel
theorem dX10_setWord_25 : decode cX10_setWord 25 = .ok (.iadd, 1) := by decide +kernel
theorem dX10_setWord_26 : decode cX10_setWord 26 = .ok (.iload_n 3, 1) := by decide +kernel
theorem dX10_setWord_27 : decode cX10_setWord 27 = .ok (.iastore, 1) := by decide +kernel
theorem dX10_setWord_28 : decode cX10_setWord 28 = .ok (.iload_n 3, 1) := by decide +kernel
theorem dX10_setWord_29 : decode cX10_setWord 29 = .ok (.ireturn, 1) := by decide +kernel
theorem dX10_byteOf_0 : decode cX10_byteOf 0 = .ok (.aload_n 0, 1) := by decide +kernel
theorem dX10_byteOf_1 : decode cX10_byteOf 1 = .ok (.iload_n 1, 1) := by decide +kernel
theorem dX10_byteOf_2 : decode cX10_byteOf 2 = .ok (.iload_n 2, 1) := by decide +kernel
theorem dX10_byteOf_3 : decode cX10_byteOf 3 = .ok (.iconst 4, 1) := by decide +kernel
theorem dX10_byteOf_4 : decode cX10_byteOf 4 = .ok (.invokevirtual 265, 3) := by decide +kernel
theorem dX10_byteOf_7 : decode cX10_byteOf 7 = .ok (.ifCond .eq 7, 3) := by decide +kernel
theorem dX10_byteOf_10 : decode cX10_byteOf 10 = .ok (.iconst 0, 1) := by decide +kernel
theorem dX10_byteOf_11 : decode cX10_byteOf 11 = .ok (.goto 34, 3) := by decide +kernel
theorem dX10_byteOf_14 : decode cX10_byteOf 14 = .ok (.aload_n 0, 1) := by decide +kernel
theorem dX10_byteOf_15 : decode cX10_byteOf 15 = .ok (.getfield 34, 3) := by decide +kernel
theorem dX10_byteOf_18 : decode cX10_byteOf 18 = .ok (.bipush 10, 2) := by decide +kernel
theorem dX10_byteOf_20 : decode cX10_byteOf 20 = .ok (.iload_n 1, 1) := by decide +kernel
theorem dX10_byteOf_21 : decode cX10_byteOf 21 = .ok (.sipush 301, 3) := by decide +kernel
theorem dX10_byteOf_24 : decode cX10_byteOf 24 = .ok (.isub, 1) := by decide +kernel
theorem dX10_byteOf_25 : decode cX10_byteOf 25 = .ok (.imul, 1) := by decide +kernel
theorem dX10_byteOf_26 : decode cX10_byteOf 26 = .ok (.iload_n 2, 1) := by decide +kernel
theorem dX10_byteOf_27 : decode cX10_byteOf 27 = .ok (.iconst 4, 1) := by decide +kernel
theorem dX10_byteOf_28 : decode cX10_byteOf 28 = .ok (.idiv, 1) := by decide +kernel
theorem dX10_byteOf_29 : decode cX10_byteOf 29 = .ok (.iadd, 1) := by decide +kernel
theorem dX10_byteOf_30 : decode cX10_byteOf 30 = .ok (.iaload, 1) := by decide +kernel
theorem dX10_byteOf_31 : decode cX10_byteOf 31 = .ok (.bipush 24, 2) := by decide +kernel
theorem dX10_byteOf_33 : decode cX10_byteOf 33 = .ok (.bipush 8, 2) := by decide +kernel
theorem dX10_byteOf_35 : decode cX10_byteOf 35 = .ok (.iload_n 2, 1) := by decide +kernel
theorem dX10_byteOf_36 : decode cX10_byteOf 36 = .ok (.iconst 4, 1) := by decide +kernel
theorem dX10_byteOf_37 : decode cX10_byteOf 37 = .ok (.irem, 1) := by decide +kernel
theorem dX10_byteOf_38 : decode cX10_byteOf 38 = .ok (.imul, 1) := by decide +kernel
theorem dX10_byteOf_39 : decode cX10_byteOf 39 = .ok (.isub, 1) := by decide +kernel
theorem dX10_byteOf_40 : decode cX10_byteOf 40 = .ok (.ishr, 1) := by decide +kernel
theorem dX10_byteOf_41 : decode cX10_byteOf 41 = .ok (.sipush 255, 3) := by decide +kernel
theorem dX10_byteOf_44 : decode cX10_byteOf 44 = .ok (.iand, 1) := by decide +kernel
theorem dX10_byteOf_45 : decode cX10_byteOf 45 = .ok (.ireturn, 1) := by decide +kernel
theorem dX10_out_0 : decode cX10_out 0 = .ok (.iload_n 1, 1) := by decide +kernel
theorem dX10_out_1 : decode cX10_out 1 = .ok (.iconst 0, 1) := by decide +kernel
theorem dX10_out_2 : decode cX10_out 2 = .ok (.aload_n 0, 1) := by decide +kernel
theorem dX10_out_3 : decode cX10_out 3 = .ok (.getfield 148, 3) := by decide +kernel
theorem dX10_out_6 : decode cX10_out 6 = .ok (.iconst 1, 1) := by decide +kernel
theorem dX10_out_7 : decode cX10_out 7 = .ok (.isub, 1) := by decide +kernel
theorem dX10_out_8 : decode cX10_out 8 = .ok (.invokestatic 102, 3) := by decide +kernel
theorem dX10_out_11 : decode cX10_out 11 = .ok (.ifCond .eq 12, 3) := by decide +kernel
theorem dX10_out_14 : decode cX10_out 14 = .ok (.aload_n 0, 1) := by decide +kernel
theorem dX10_out_15 : decode cX10_out 15 = .ok (.getfield 77, 3) := by decide +kernel
theorem dX10_out_18 : decode cX10_out 18 = .ok (.iload_n 1, 1) := by decide +kernel
theorem dX10_out_19 : decode cX10_out 19 = .ok (.iaload, 1) := by decide +kernel
theorem dX10_out_20 : decode cX10_out 20 = .ok (.goto 4, 3) := by decide +kernel
theorem dX10_out_23 : decode cX10_out 23 = .ok (.iconst (-1), 1) := by decide +kernel
theorem dX10_out_24 : decode cX10_out 24 = .ok (.ireturn, 1) := by decide +kernel
theorem dX10_clear_0 : decode cX10_clear 0 = .ok (.aload_n 0, 1) := by decide +kernel
theorem dX10_clear_1 : decode cX10_clear 1 = .ok (.getfield 148, 3) := by decide +kernel
theorem dX10_clear_4 : decode cX10_clear 4 = .ok (.istore_n 1, 1) := by decide +kernel
theorem dX10_clear_5 : decode cX10_clear 5 = .ok (.aload_n 0, 1) := by decide +kernel
theorem dX10_clear_6 : decode cX10_clear 6 = .ok (.iconst 0, 1) := by decide +kernel
theorem dX10_clear_7 : decode cX10_clear 7 = .ok (.putfield 148, 3) := by decide +kernel
theorem dX10_clear_10 : decode cX10_clear 10 = .ok (.iload_n 1, 1) := by decide +kernel
theorem dX10_clear_11 : decode cX10_clear 11 = .ok (.ireturn, 1) := by decide +kernel
theorem dX10_fault_0 : decode cX10_fault 0 = .ok (.iload_n 1, 1) := by decide +kernel
theorem dX10_fault_1 : decode cX10_fault 1 = .ok (.iconst 0, 1) := by decide +kernel
theorem dX10_fault_2 : decode cX10_fault 2 = .ok (.aload_n 0, 1) := by decide +kernel
theorem dX10_fault_3 : decode cX10_fault 3 = .ok (.getfield 145, 3) := by decide +kernel
theorem dX10_fault_6 : decode cX10_fault 6 = .ok (.iconst 1, 1) := by decide +kernel
theorem dX10_fault_7 : decode cX10_fault 7 = .ok (.isub, 1) := by decide +kernel
theorem dX10_fault_8 : decode cX10_fault 8 = .ok (.invokestatic 102, 3) := by decide +kernel
theorem dX10_fault_11 : decode cX10_fault 11 = .ok (.ifCond .eq 25, 3) := by decide +kernel
theorem dX10_fault_14 : decode cX10_fault 14 = .ok (.iload_n 2, 1) := by decide +kernel
theorem dX10_fault_15 : decode cX10_fault 15 = .ok (.iconst 0, 1) := by decide +kernel
theorem dX10_fault_16 : decode cX10_fault 16 = .ok (.iconst 2, 1) := by decide +kernel
theorem dX10_fault_17 : decode cX10_fault 17 = .ok (.invokestatic 102, 3) := by decide +kernel
theorem dX10_fault_20 : decode cX10_fault 20 = .ok (.ifCond .eq 16, 3) := by decide +kernel
theorem dX10_fault_23 : decode cX10_fault 23 = .ok (.aload_n 0, 1) := by decide +kernel
theorem dX10_fault_24 : decode cX10_fault 24 = .ok (.getfield 74, 3) := by decide +kernel
theorem dX10_fault_27 : decode cX10_fault 27 = .ok (.iconst 3, 1) := by decide +kernel
theorem dX10_fault_28 : decode cX10_fault 28 = .ok (.iload_n 1, 1) := by decide +kernel
theorem dX10_fault_29 : decode cX10_fault 29 = .ok (.imul, 1) := by decide +kernel
theorem dX10_fault_30 : decode cX10_fault 30 = .ok (.iload_n 2, 1) := by decide +kernel
theorem dX10_fault_31 : decode cX10_fault 31 = .ok (.iadd, 1) := by decide +kernel
theorem dX10_fault_32 : decode cX10_fault 32 = .ok (.iaload, 1) := by decide +kernel
theorem dX10_fault_33 : decode cX10_fault 33 = .ok (.goto 4, 3) := by decide +kernel
theorem dX10_fault_36 : decode cX10_fault 36 = .ok (.iconst (-1), 1) := by decide +kernel
theorem dX10_fault_37 : decode cX10_fault 37 = .ok (.ireturn, 1) := by decide +kernel
theorem dX10_count_0 : decode cX10_count 0 = .ok (.iload_n 1, 1) := by decide +kernel
theorem dX10_count_1 : decode cX10_count 1 = .ok (.tableswitch 87 0 7 #[47, 52, 57, 62, 67, 72, 77, 82], 47) := by decide +kernel
theorem dX10_count_48 : decode cX10_count 48 = .ok (.aload_n 0, 1) := by decide +kernel
theorem dX10_count_49 : decode cX10_count 49 = .ok (.getfield 119, 3) := by decide +kernel
theorem dX10_count_52 : decode cX10_count 52 = .ok (.ireturn, 1) := by decide +kernel
theorem dX10_count_53 : decode cX10_count 53 = .ok (.aload_n 0, 1) := by decide +kernel
theorem dX10_count_54 : decode cX10_count 54 = .ok (.getfield 110, 3) := by decide +kernel
theorem dX10_count_57 : decode cX10_count 57 = .ok (.ireturn, 1) := by decide +kernel
theorem dX10_count_58 : decode cX10_count 58 = .ok (.aload_n 0, 1) := by decide +kernel
theorem dX10_count_59 : decode cX10_count 59 = .ok (.getfield 113, 3) := by decide +kernel
theorem dX10_count_62 : decode cX10_count 62 = .ok (.ireturn, 1) := by decide +kernel
theorem dX10_count_63 : decode cX10_count 63 = .ok (.aload_n 0, 1) := by decide +kernel
theorem dX10_count_64 : decode cX10_count 64 = .ok (.getfield 116, 3) := by decide +kernel
theorem dX10_count_67 : decode cX10_count 67 = .ok (.ireturn, 1) := by decide +kernel
theorem dX10_count_68 : decode cX10_count 68 = .ok (.aload_n 0, 1) := by decide +kernel
theorem dX10_count_69 : decode cX10_count 69 = .ok (.getfield 145, 3) := by decide +kernel
theorem dX10_count_72 : decode cX10_count 72 = .ok (.ireturn, 1) := by decide +kernel
theorem dX10_count_73 : decode cX10_count 73 = .ok (.aload_n 0, 1) := by decide +kernel
theorem dX10_count_74 : decode cX10_count 74 = .ok (.getfield 148, 3) := by decide +kernel
theorem dX10_count_77 : decode cX10_count 77 = .ok (.ireturn, 1) := by decide +kernel
theorem dX10_count_78 : decode cX10_count 78 = .ok (.aload_n 0, 1) := by decide +kernel
theorem dX10_count_79 : decode cX10_count 79 = .ok (.getfield 220, 3) := by decide +kernel
theorem dX10_count_82 : decode cX10_count 82 = .ok (.ireturn, 1) := by decide +kernel
theorem dX10_count_83 : decode cX10_count 83 = .ok (.aload_n 0, 1) := by decide +kernel
theorem dX10_count_84 : decode cX10_count 84 = .ok (.getfield 106, 3) := by decide +kernel
theorem dX10_count_87 : decode cX10_count 87 = .ok (.ireturn, 1) := by decide +kernel
theorem dX10_count_88 : decode cX10_count 88 = .ok (.iconst (-1), 1) := by decide +kernel
theorem dX10_count_89 : decode cX10_count 89 = .ok (.ireturn, 1) := by decide +kernel
theorem dJ9_floorDiv_7cf53_0 : decode cJ9_floorDiv_7cf53 0 = .ok (.iload_n 0, 1) := by decide +kernel
theorem dJ9_floorDiv_7cf53_1 : decode cJ9_floorDiv_7cf53 1 = .ok (.iload_n 1, 1) := by decide +kernel
theorem dJ9_floorDiv_7cf53_2 : decode cJ9_floorDiv_7cf53 2 = .ok (.idiv, 1) := by decide +kernel
theorem dJ9_floorDiv_7cf53_3 : decode cJ9_floorDiv_7cf53 3 = .ok (.istore_n 2, 1) := by decide +kernel
theorem dJ9_floorDiv_7cf53_4 : decode cJ9_floorDiv_7cf53 4 = .ok (.iload_n 0, 1) := by decide +kernel
theorem dJ9_floorDiv_7cf53_5 : decode cJ9_floorDiv_7cf53 5 = .ok (.iload_n 1, 1) := by decide +kernel
theorem dJ9_floorDiv_7cf53_6 : decode cJ9_floorDiv_7cf53 6 = .ok (.ixor, 1) := by decide +kernel
theorem dJ9_floorDiv_7cf53_7 : decode cJ9_floorDiv_7cf53 7 = .ok (.ifCond .ge 14, 3) := by decide +kernel
theorem dJ9_floorDiv_7cf53_10 : decode cJ9_floorDiv_7cf53 10 = .ok (.iload_n 2, 1) := by decide +kernel
theorem dJ9_floorDiv_7cf53_11 : decode cJ9_floorDiv_7cf53 11 = .ok (.iload_n 1, 1) := by decide +kernel
theorem dJ9_floorDiv_7cf53_12 : decode cJ9_floorDiv_7cf53 12 = .ok (.imul, 1) := by decide +kernel
theorem dJ9_floorDiv_7cf53_13 : decode cJ9_floorDiv_7cf53 13 = .ok (.iload_n 0, 1) := by decide +kernel
theorem dJ9_floorDiv_7cf53_14 : decode cJ9_floorDiv_7cf53 14 = .ok (.if_icmp .eq 7, 3) := by decide +kernel
theorem dJ9_floorDiv_7cf53_17 : decode cJ9_floorDiv_7cf53 17 = .ok (.iload_n 2, 1) := by decide +kernel
theorem dJ9_floorDiv_7cf53_18 : decode cJ9_floorDiv_7cf53 18 = .ok (.iconst 1, 1) := by decide +kernel
theorem dJ9_floorDiv_7cf53_19 : decode cJ9_floorDiv_7cf53 19 = .ok (.isub, 1) := by decide +kernel
theorem dJ9_floorDiv_7cf53_20 : decode cJ9_floorDiv_7cf53 20 = .ok (.ireturn, 1) := by decide +kernel
theorem dJ9_floorDiv_7cf53_21 : decode cJ9_floorDiv_7cf53 21 = .ok (.iload_n 2, 1) := by decide +kernel
theorem dJ9_floorDiv_7cf53_22 : decode cJ9_floorDiv_7cf53 22 = .ok (.ireturn, 1) := by decide +kernel
theorem dJ9_floorMod_7cf53_0 : decode cJ9_floorMod_7cf53 0 = .ok (.iload_n 0, 1) := by decide +kernel
theorem dJ9_floorMod_7cf53_1 : decode cJ9_floorMod_7cf53 1 = .ok (.iload_n 1, 1) := by decide +kernel
theorem dJ9_floorMod_7cf53_2 : decode cJ9_floorMod_7cf53 2 = .ok (.irem, 1) := by decide +kernel
theorem dJ9_floorMod_7cf53_3 : decode cJ9_floorMod_7cf53 3 = .ok (.istore_n 2, 1) := by decide +kernel
theorem dJ9_floorMod_7cf53_4 : decode cJ9_floorMod_7cf53 4 = .ok (.iload_n 0, 1) := by decide +kernel
theorem dJ9_floorMod_7cf53_5 : decode cJ9_floorMod_7cf53 5 = .ok (.iload_n 1, 1) := by decide +kernel
theorem dJ9_floorMod_7cf53_6 : decode cJ9_floorMod_7cf53 6 = .ok (.ixor, 1) := by decide +kernel
theorem dJ9_floorMod_7cf53_7 : decode cJ9_floorMod_7cf53 7 = .ok (.ifCond .ge 11, 3) := by decide +kernel
theorem dJ9_floorMod_7cf53_10 : decode cJ9_floorMod_7cf53 10 = .ok (.iload_n 2, 1) := by decide +kernel
theorem dJ9_floorMod_7cf53_11 : decode cJ9_floorMod_7cf53 11 = .ok (.ifCond .eq 7, 3) := by decide +kernel
theorem dJ9_floorMod_7cf53_14 : decode cJ9_floorMod_7cf53 14 = .ok (.iload_n 2, 1) := by decide +kernel
theorem dJ9_floorMod_7cf53_15 : decode cJ9_floorMod_7cf53 15 = .ok (.iload_n 1, 1) := by decide +kernel
theorem dJ9_floorMod_7cf53_16 : decode cJ9_floorMod_7cf53 16 = .ok (.iadd, 1) := by decide +kernel
theorem dJ9_floorMod_7cf53_17 : decode cJ9_floorMod_7cf53 17 = .ok (.ireturn, 1) := by decide +kernel
theorem dJ9_floorMod_7cf53_18 : decode cJ9_floorMod_7cf53 18 = .ok (.iload_n 2, 1) := by decide +kernel
theorem dJ9_floorMod_7cf53_19 : decode cJ9_floorMod_7cf53 19 = .ok (.ireturn, 1) := by decide +kernel
theorem dJ0_length_8abf5_0 : decode cJ0_length_8abf5 0 = .ok (.aload_n 0, 1) := by decide +kernel
theorem dJ0_length_8abf5_1 : decode cJ0_length_8abf5 1 = .ok (.getfield 9, 3) := by decide +kernel
theorem dJ0_length_8abf5_4 : decode cJ0_length_8abf5 4 = .ok (.arraylength, 1) := by decide +kernel
theorem dJ0_length_8abf5_5 : decode cJ0_length_8abf5 5 = .ok (.aload_n 0, 1) := by decide +kernel
theorem dJ0_length_8abf5_6 : decode cJ0_length_8abf5 6 = .ok (.invokevirtual 335, 3) := by decide +kernel
theorem dJ0_length_8abf5_9 : decode cJ0_length_8abf5 9 = .ok (.ishr, 1) := by decide +kernel
theorem dJ0_length_8abf5_10 : decode cJ0_length_8abf5 10 = .ok (.ireturn, 1) := by decide +kernel
theorem dJ0_charAt_5068e_0 : decode cJ0_charAt_5068e 0 = .ok (.aload_n 0, 1) := by decide +kernel
theorem dJ0_charAt_5068e_1 : decode cJ0_charAt_5068e 1 = .ok (.invokevirtual 492, 3) := by decide +kernel
theorem dJ0_charAt_5068e_4 : decode cJ0_charAt_5068e 4 = .ok (.ifCond .eq 12, 3) := by decide +kernel
theorem dJ0_charAt_5068e_7 : decode cJ0_charAt_5068e 7 = .ok (.aload_n 0, 1) := by decide +kernel
theorem dJ0_charAt_5068e_8 : decode cJ0_charAt_5068e 8 = .ok (.getfield 9, 3) := by decide +kernel
theorem dJ0_charAt_5068e_11 : decode cJ0_charAt_5068e 11 = .ok (.iload_n 1, 1) := by decide +kernel
theorem dJ0_charAt_5068e_12 : decode cJ0_charAt_5068e 12 = .ok (.invokestatic 495, 3) := by decide +kernel
theorem dJ0_charAt_5068e_15 : decode cJ0_charAt_5068e 15 = .ok (.ireturn, 1) := by decide +kernel
theorem dJ0_charAt_5068e_16 : decode cJ0_charAt_5068e 16 = .ok (.aload_n 0, 1) := by decide +kernel
theorem dJ0_charAt_5068e_17 : decode cJ0_charAt_5068e 17 = .ok (.getfield 9, 3) := by decide +kernel
theorem dJ0_charAt_5068e_20 : decode cJ0_charAt_5068e 20 = .ok (.iload_n 1, 1) := by decide +kernel
theorem dJ0_charAt_5068e_21 : decode cJ0_charAt_5068e 21 = .ok (.invokestatic 498, 3) := by decide +kernel
theorem dJ0_charAt_5068e_24 : decode cJ0_charAt_5068e 24 = .ok (.ireturn, 1) := by decide +kernel
theorem dJ0_indexOf_0f7a4_0 : decode cJ0_indexOf_0f7a4 0 = .ok (.aload_n 0, 1) := by decide +kernel
theorem dJ0_indexOf_0f7a4_1 : decode cJ0_indexOf_0f7a4 1 = .ok (.iload_n 1, 1) := by decide +kernel
theorem dJ0_indexOf_0f7a4_2 : decode cJ0_indexOf_0f7a4 2 = .ok (.iconst 0, 1) := by decide +kernel
theorem dJ0_indexOf_0f7a4_3 : decode cJ0_indexOf_0f7a4 3 = .ok (.invokevirtual 633, 3) := by decide +kernel
theorem dJ0_indexOf_0f7a4_6 : decode cJ0_indexOf_0f7a4 6 = .ok (.ireturn, 1) := by decide +kernel
theorem dJ0_indexOf_7cf53_0 : decode cJ0_indexOf_7cf53 0 = .ok (.aload_n 0, 1) := by decide +kernel
theorem dJ0_indexOf_7cf53_1 : decode cJ0_indexOf_7cf53 1 = .ok (.invokevirtual 492, 3) := by decide +kernel
theorem dJ0_indexOf_7cf53_4 : decode cJ0_indexOf_7cf53 4 = .ok (.ifCond .eq 19, 3) := by decide +kernel
theorem dJ0_indexOf_7cf53_7 : decode cJ0_indexOf_7cf53 7 = .ok (.aload_n 0, 1) := by decide +kernel
theorem dJ0_indexOf_7cf53_8 : decode cJ0_indexOf_7cf53 8 = .ok (.getfield 9, 3) := by decide +kernel
theorem dJ0_indexOf_7cf53_11 : decode cJ0_indexOf_7cf53 11 = .ok (.iload_n 1, 1) := by decide +kernel
theorem dJ0_indexOf_7cf53_12 : decode cJ0_indexOf_7cf53 12 = .ok (.iload_n 2, 1) := by decide +kernel
theorem dJ0_indexOf_7cf53_13 : decode cJ0_indexOf_7cf53 13 = .ok (.aload_n 0, 1) := by decide +kernel
theorem dJ0_indexOf_7cf53_14 : decode cJ0_indexOf_7cf53 14 = .ok (.invokevirtual 505, 3) := by decide +kernel
theorem dJ0_indexOf_7cf53_17 : decode cJ0_indexOf_7cf53 17 = .ok (.invokestatic 637, 3) := by decide +kernel
theorem dJ0_indexOf_7cf53_20 : decode cJ0_indexOf_7cf53 20 = .ok (.goto 16, 3) := by decide +kernel
theorem dJ0_indexOf_7cf53_23 : decode cJ0_indexOf_7cf53 23 = .ok (.aload_n 0, 1) := by decide +kernel
theorem dJ0_indexOf_7cf53_24 : decode cJ0_indexOf_7cf53 24 = .ok (.getfield 9, 3) := by decide +kernel
theorem dJ0_indexOf_7cf53_27 : decode cJ0_indexOf_7cf53 27 = .ok (.iload_n 1, 1) := by decide +kernel
theorem dJ0_indexOf_7cf53_28 : decode cJ0_indexOf_7cf53 28 = .ok (.iload_n 2, 1) := by decide +kernel
theorem dJ0_indexOf_7cf53_29 : decode cJ0_indexOf_7cf53 29 = .ok (.aload_n 0, 1) := by decide +kernel
theorem dJ0_indexOf_7cf53_30 : decode cJ0_indexOf_7cf53 30 = .ok (.invokevirtual 505, 3) := by decide +kernel
theorem dJ0_indexOf_7cf53_33 : decode cJ0_indexOf_7cf53 33 = .ok (.invokestatic 640, 3) := by decide +kernel
theorem dJ0_indexOf_7cf53_36 : decode cJ0_indexOf_7cf53 36 = .ok (.ireturn, 1) := by decide +kernel
theorem dJ0_coder_7d493_0 : decode cJ0_coder_7d493 0 = .ok (.getstatic 38, 3) := by decide +kernel
theorem dJ0_coder_7d493_3 : decode cJ0_coder_7d493 3 = .ok (.ifCond .eq 10, 3) := by decide +kernel
theorem dJ0_coder_7d493_6 : decode cJ0_coder_7d493 6 = .ok (.aload_n 0, 1) := by decide +kernel
theorem dJ0_coder_7d493_7 : decode cJ0_coder_7d493 7 = .ok (.getfield 15, 3) := by decide +kernel
theorem dJ0_coder_7d493_10 : decode cJ0_coder_7d493 10 = .ok (.goto 4, 3) := by decide +kernel
theorem dJ0_coder_7d493_13 : decode cJ0_coder_7d493 13 = .ok (.iconst 1, 1) := by decide +kernel
theorem dJ0_coder_7d493_14 : decode cJ0_coder_7d493 14 = .ok (.ireturn, 1) := by decide +kernel
theorem dJ0_isLatin1_aae02_0 : decode cJ0_isLatin1_aae02 0 = .ok (.getstatic 38, 3) := by decide +kernel
theorem dJ0_isLatin1_aae02_3 : decode cJ0_isLatin1_aae02 3 = .ok (.ifCond .eq 14, 3) := by decide +kernel
theorem dJ0_isLatin1_aae02_6 : decode cJ0_isLatin1_aae02 6 = .ok (.aload_n 0, 1) := by decide +kernel
theorem dJ0_isLatin1_aae02_7 : decode cJ0_isLatin1_aae02 7 = .ok (.getfield 15, 3) := by decide +kernel
theorem dJ0_isLatin1_aae02_10 : decode cJ0_isLatin1_aae02 10 = .ok (.ifCond .ne 7, 3) := by decide +kernel
theorem dJ0_isLatin1_aae02_13 : decode cJ0_isLatin1_aae02 13 = .ok (.iconst 1, 1) := by decide +kernel
theorem dJ0_isLatin1_aae02_14 : decode cJ0_isLatin1_aae02 14 = .ok (.goto 4, 3) := by decide +kernel
theorem dJ0_isLatin1_aae02_17 : decode cJ0_isLatin1_aae02 17 = .ok (.iconst 0, 1) := by decide +kernel
theorem dJ0_isLatin1_aae02_18 : decode cJ0_isLatin1_aae02 18 = .ok (.ireturn, 1) := by decide +kernel
theorem dJ0_checkIndex_df160_0 : decode cJ0_checkIndex_df160 0 = .ok (.iload_n 0, 1) := by decide +kernel
theorem dJ0_checkIndex_df160_1 : decode cJ0_checkIndex_df160 1 = .ok (.iload_n 1, 1) := by decide +kernel
theorem dJ0_checkIndex_df160_2 : decode cJ0_checkIndex_df160 2 = .ok (.getstatic 1053, 3) := by decide +kernel
theorem dJ0_checkIndex_df160_5 : decode cJ0_checkIndex_df160 5 = .ok (.invokestatic 1059, 3) := by decide +kernel
theorem dJ0_checkIndex_df160_8 : decode cJ0_checkIndex_df160 8 = .ok (.pop, 1) := by decide +kernel
theorem dJ0_checkIndex_df160_9 : decode cJ0_checkIndex_df160 9 = .ok (.return_, 1) := by decide +kernel
theorem dJ1_charAt_3b067_0 : decode cJ1_charAt_3b067 0 = .ok (.iload_n 1, 1) := by decide +kernel
theorem dJ1_charAt_3b067_1 : decode cJ1_charAt_3b067 1 = .ok (.aload_n 0, 1) := by decide +kernel
theorem dJ1_charAt_3b067_2 : decode cJ1_charAt_3b067 2 = .ok (.arraylength, 1) := by decide +kernel
theorem dJ1_charAt_3b067_3 : decode cJ1_charAt_3b067 3 = .ok (.invokestatic 9, 3) := by decide +kernel
theorem dJ1_charAt_3b067_6 : decode cJ1_charAt_3b067 6 = .ok (.aload_n 0, 1) := by decide +kernel
theorem dJ1_charAt_3b067_7 : decode cJ1_charAt_3b067 7 = .ok (.iload_n 1, 1) := by decide +kernel
theorem dJ1_charAt_3b067_8 : decode cJ1_charAt_3b067 8 = .ok (.baload, 1) := by decide +kernel
theorem dJ1_charAt_3b067_9 : decode cJ1_charAt_3b067 9 = .ok (.sipush 255, 3) := by decide +kernel
theorem dJ1_charAt_3b067_12 : decode cJ1_charAt_3b067 12 = .ok (.iand, 1) := by decide +kernel
theorem dJ1_charAt_3b067_13 : decode cJ1_charAt_3b067 13 = .ok (.i2c, 1) := by decide +kernel
theorem dJ1_charAt_3b067_14 : decode cJ1_charAt_3b067 14 = .ok (.ireturn, 1) := by decide +kernel
theorem dJ1_canEncode_9a6ad_0 : decode cJ1_canEncode_9a6ad 0 = .ok (.iload_n 0, 1) := by decide +kernel
theorem dJ1_canEncode_9a6ad_1 : decode cJ1_canEncode_9a6ad 1 = .ok (.ifCond .lt 14, 3) := by decide +kernel
theorem dJ1_canEncode_9a6ad_4 : decode cJ1_canEncode_9a6ad 4 = .ok (.iload_n 0, 1) := by decide +kernel
theorem dJ1_canEncode_9a6ad_5 : decode cJ1_canEncode_9a6ad 5 = .ok (.sipush 255, 3) := by decide +kernel
theorem dJ1_canEncode_9a6ad_8 : decode cJ1_canEncode_9a6ad 8 = .ok (.if_icmp .gt 7, 3) := by decide +kernel
theorem dJ1_canEncode_9a6ad_11 : decode cJ1_canEncode_9a6ad 11 = .ok (.iconst 1, 1) := by decide +kernel
theorem dJ1_canEncode_9a6ad_12 : decode cJ1_canEncode_9a6ad 12 = .ok (.goto 4, 3) := by decide +kernel
theorem dJ1_canEncode_9a6ad_15 : decode cJ1_canEncode_9a6ad 15 = .ok (.iconst 0, 1) := by decide +kernel
theorem dJ1_canEncode_9a6ad_16 : decode cJ1_canEncode_9a6ad 16 = .ok (.ireturn, 1) := by decide +kernel
theorem dJ1_indexOf_4cfef_0 : decode cJ1_indexOf_4cfef 0 = .ok (.iload_n 1, 1) := by decide +kernel
theorem dJ1_indexOf_4cfef_1 : decode cJ1_indexOf_4cfef 1 = .ok (.invokestatic 88, 3) := by decide +kernel
theorem dJ1_indexOf_4cfef_4 : decode cJ1_indexOf_4cfef 4 = .ok (.ifCond .ne 5, 3) := by decide +kernel
theorem dJ1_indexOf_4cfef_7 : decode cJ1_indexOf_4cfef 7 = .ok (.iconst (-1), 1) := by decide +kernel
theorem dJ1_indexOf_4cfef_8 : decode cJ1_indexOf_4cfef 8 = .ok (.ireturn, 1) := by decide +kernel
theorem dJ1_indexOf_4cfef_9 : decode cJ1_indexOf_4cfef 9 = .ok (.iload_n 2, 1) := by decide +kernel
theorem dJ1_indexOf_4cfef_10 : decode cJ1_indexOf_4cfef 10 = .ok (.iconst 0, 1) := by decide +kernel
theorem dJ1_indexOf_4cfef_11 : decode cJ1_indexOf_4cfef 11 = .ok (.invokestatic 92, 3) := by decide +kernel
theorem dJ1_indexOf_4cfef_14 : decode cJ1_indexOf_4cfef 14 = .ok (.istore_n 2, 1) := by decide +kernel
theorem dJ1_indexOf_4cfef_15 : decode cJ1_indexOf_4cfef 15 = .ok (.iload_n 3, 1) := by decide +kernel
theorem dJ1_indexOf_4cfef_16 : decode cJ1_indexOf_4cfef 16 = .ok (.aload_n 0, 1) := by decide +kernel
theorem dJ1_indexOf_4cfef_17 : decode cJ1_indexOf_4cfef 17 = .ok (.arraylength, 1) := by decide +kernel
theorem dJ1_indexOf_4cfef_18 : decode cJ1_indexOf_4cfef 18 = .ok (.invokestatic 38, 3) := by decide +kernel
theorem dJ1_indexOf_4cfef_21 : decode cJ1_indexOf_4cfef 21 = .ok (.istore_n 3, 1) := by decide +kernel
theorem dJ1_indexOf_4cfef_22 : decode cJ1_indexOf_4cfef 22 = .ok (.iload_n 2, 1) := by decide +kernel
theorem dJ1_indexOf_4cfef_23 : decode cJ1_indexOf_4cfef 23 = .ok (.iload_n 3, 1) := by decide +kernel
theorem dJ1_indexOf_4cfef_24 : decode cJ1_indexOf_4cfef 24 = .ok (.if_icmp .lt 5, 3) := by decide +kernel
theorem dJ1_indexOf_4cfef_27 : decode cJ1_indexOf_4cfef 27 = .ok (.iconst (-1), 1) := by decide +kernel
theorem dJ1_indexOf_4cfef_28 : decode cJ1_indexOf_4cfef 28 = .ok (.ireturn, 1) := by decide +kernel
theorem dJ1_indexOf_4cfef_29 : decode cJ1_indexOf_4cfef 29 = .ok (.aload_n 0, 1) := by decide +kernel
theorem dJ1_indexOf_4cfef_30 : decode cJ1_indexOf_4cfef 30 = .ok (.iload_n 1, 1) := by decide +kernel
theorem dJ1_indexOf_4cfef_31 : decode cJ1_indexOf_4cfef 31 = .ok (.iload_n 2, 1) := by decide +kernel
theorem dJ1_indexOf_4cfef_32 : decode cJ1_indexOf_4cfef 32 = .ok (.iload_n 3, 1) := by decide +kernel
theorem dJ1_indexOf_4cfef_33 : decode cJ1_indexOf_4cfef 33 = .ok (.invokestatic 95, 3) := by decide +kernel
theorem dJ1_indexOf_4cfef_36 : decode cJ1_indexOf_4cfef 36 = .ok (.ireturn, 1) := by decide +kernel
theorem dJ1_indexOfChar_4cfef_0 : decode cJ1_indexOfChar_4cfef 0 = .ok (.iload_n 1, 1) := by decide +kernel
theorem dJ1_indexOfChar_4cfef_1 : decode cJ1_indexOfChar_4cfef 1 = .ok (.i2b, 1) := by decide +kernel
theorem dJ1_indexOfChar_4cfef_2 : decode cJ1_indexOfChar_4cfef 2 = .ok (.istore 4, 2) := by decide +kernel
theorem dJ1_indexOfChar_4cfef_4 : decode cJ1_indexOfChar_4cfef 4 = .ok (.iload_n 2, 1) := by decide +kernel
theorem dJ1_indexOfChar_4cfef_5 : decode cJ1_indexOfChar_4cfef 5 = .ok (.istore 5, 2) := by decide +kernel
theorem dJ1_indexOfChar_4cfef_7 : decode cJ1_indexOfChar_4cfef 7 = .ok (.iload 5, 2) := by decide +kernel
theorem dJ1_indexOfChar_4cfef_9 : decode cJ1_indexOfChar_4cfef 9 = .ok (.iload_n 3, 1) := by decide +kernel
theorem dJ1_indexOfChar_4cfef_10 : decode cJ1_indexOfChar_4cfef 10 = .ok (.if_icmp .ge 21, 3) := by decide +kernel
theorem dJ1_indexOfChar_4cfef_13 : decode cJ1_indexOfChar_4cfef 13 = .ok (.aload_n 0, 1) := by decide +kernel
theorem dJ1_indexOfChar_4cfef_14 : decode cJ1_indexOfChar_4cfef 14 = .ok (.iload 5, 2) := by decide +kernel
theorem dJ1_indexOfChar_4cfef_16 : decode cJ1_indexOfChar_4cfef 16 = .ok (.baload, 1) := by decide +kernel
theorem dJ1_indexOfChar_4cfef_17 : decode cJ1_indexOfChar_4cfef 17 = .ok (.iload 4, 2) := by decide +kernel
theorem dJ1_indexOfChar_4cfef_19 : decode cJ1_indexOfChar_4cfef 19 = .ok (.if_icmp .ne 6, 3) := by decide +kernel
theorem dJ1_indexOfChar_4cfef_22 : decode cJ1_indexOfChar_4cfef 22 = .ok (.iload 5, 2) := by decide +kernel
theorem dJ1_indexOfChar_4cfef_24 : decode cJ1_indexOfChar_4cfef 24 = .ok (.ireturn, 1) := by decide +kernel
theorem dJ1_indexOfChar_4cfef_25 : decode cJ1_indexOfChar_4cfef 25 = .ok (.iinc 5 1, 3) := by decide +kernel
theorem dJ1_indexOfChar_4cfef_28 : decode cJ1_indexOfChar_4cfef 28 = .ok (.goto (-21), 3) := by decide +kernel
theorem dJ1_indexOfChar_4cfef_31 : decode cJ1_indexOfChar_4cfef 31 = .ok (.iconst (-1), 1) := by decide +kernel
theorem dJ1_indexOfChar_4cfef_32 : decode cJ1_indexOfChar_4cfef 32 = .ok (.ireturn, 1) := by decide +kernel
theorem dJ7_fill_53178_0 : decode cJ7_fill_53178 0 = .ok (.iconst 0, 1) := by decide +kernel
theorem dJ7_fill_53178_1 : decode cJ7_fill_53178 1 = .ok (.istore_n 2, 1) := by decide +kernel
theorem dJ7_fill_53178_2 : decode cJ7_fill_53178 2 = .ok (.aload_n 0, 1) := by decide +kernel
theorem dJ7_fill_53178_3 : decode cJ7_fill_53178 3 = .ok (.arraylength, 1) := by decide +kernel
theorem dJ7_fill_53178_4 : decode cJ7_fill_53178 4 = .ok (.istore_n 3, 1) := by decide +kernel
theorem dJ7_fill_53178_5 : decode cJ7_fill_53178 5 = .ok (.iload_n 2, 1) := by decide +kernel
theorem dJ7_fill_53178_6 : decode cJ7_fill_53178 6 = .ok (.iload_n 3, 1) := by decide +kernel
theorem dJ7_fill_53178_7 : decode cJ7_fill_53178 7 = .ok (.if_icmp .ge 13, 3) := by decide +kernel
theorem dJ7_fill_53178_10 : decode cJ7_fill_53178 10 = .ok (.aload_n 0, 1) := by decide +kernel
theorem dJ7_fill_53178_11 : decode cJ7_fill_53178 11 = .ok (.iload_n 2, 1) := by decide +kernel
theorem dJ7_fill_53178_12 : decode cJ7_fill_53178 12 = .ok (.iload_n 1, 1) := by decide +kernel
theorem dJ7_fill_53178_13 : decode cJ7_fill_53178 13 = .ok (.iastore, 1) := by decide +kernel
theorem dJ7_fill_53178_14 : decode cJ7_fill_53178 14 = .ok (.iinc 2 1, 3) := by decide +kernel
theorem dJ7_fill_53178_17 : decode cJ7_fill_53178 17 = .ok (.goto (-12), 3) := by decide +kernel
theorem dJ7_fill_53178_20 : decode cJ7_fill_53178 20 = .ok (.return_, 1) := by decide +kernel
theorem dJ3_checkIndex_8e157_0 : decode cJ3_checkIndex_8e157 0 = .ok (.iload_n 0, 1) := by decide +kernel
theorem dJ3_checkIndex_8e157_1 : decode cJ3_checkIndex_8e157 1 = .ok (.ifCond .lt 8, 3) := by decide +kernel
theorem dJ3_checkIndex_8e157_4 : decode cJ3_checkIndex_8e157 4 = .ok (.iload_n 0, 1) := by decide +kernel
theorem dJ3_checkIndex_8e157_5 : decode cJ3_checkIndex_8e157 5 = .ok (.iload_n 1, 1) := by decide +kernel
theorem dJ3_checkIndex_8e157_6 : decode cJ3_checkIndex_8e157 6 = .ok (.if_icmp .lt 10, 3) := by decide +kernel
theorem dJ3_checkIndex_8e157_9 : decode cJ3_checkIndex_8e157 9 = .ok (.aload_n 2, 1) := by decide +kernel
theorem dJ3_checkIndex_8e157_10 : decode cJ3_checkIndex_8e157 10 = .ok (.iload_n 0, 1) := by decide +kernel
theorem dJ3_checkIndex_8e157_11 : decode cJ3_checkIndex_8e157 11 = .ok (.iload_n 1, 1) := by decide +kernel
theorem dJ3_checkIndex_8e157_12 : decode cJ3_checkIndex_8e157 12 = .ok (.invokestatic 95, 3) := by decide +kernel
theorem dJ3_checkIndex_8e157_15 : decode cJ3_checkIndex_8e157 15 = .ok (.athrow, 1) := by decide +kernel
theorem dJ3_checkIndex_8e157_16 : decode cJ3_checkIndex_8e157 16 = .ok (.iload_n 0, 1) := by decide +kernel
theorem dJ3_checkIndex_8e157_17 : decode cJ3_checkIndex_8e157 17 = .ok (.ireturn, 1) := by decide +kernel
theorem dL_cell_0 : decode cL_cell 0 = .ok (.iload_n 1, 1) := by decide +kernel
theorem dL_cell_1 : decode cL_cell 1 = .ok (.aload_n 0, 1) := by decide +kernel
theorem dL_cell_2 : decode cL_cell 2 = .ok (.arraylength, 1) := by decide +kernel
theorem dL_cell_3 : decode cL_cell 3 = .ok (.if_icmp .ge 9, 3) := by decide +kernel
theorem dL_cell_6 : decode cL_cell 6 = .ok (.aload_n 0, 1) := by decide +kernel
theorem dL_cell_7 : decode cL_cell 7 = .ok (.iload_n 1, 1) := by decide +kernel
theorem dL_cell_8 : decode cL_cell 8 = .ok (.iaload, 1) := by decide +kernel
theorem dL_cell_9 : decode cL_cell 9 = .ok (.goto 4, 3) := by decide +kernel
theorem dL_cell_12 : decode cL_cell 12 = .ok (.iconst 0, 1) := by decide +kernel
theorem dL_cell_13 : decode cL_cell 13 = .ok (.ireturn, 1) := by decide +kernel
theorem dL_law_0 : decode cL_law 0 = .ok (.new 7, 3) := by decide +kernel
theorem dL_law_3 : decode cL_law 3 = .ok (.dup, 1) := by decide +kernel
theorem dL_law_4 : decode cL_law 4 = .ok (.aload_n 0, 1) := by decide +kernel
theorem dL_law_5 : decode cL_law 5 = .ok (.iconst 0, 1) := by decide +kernel
theorem dL_law_6 : decode cL_law 6 = .ok (.invokestatic 9, 3) := by decide +kernel
theorem dL_law_9 : decode cL_law 9 = .ok (.invokespecial 15, 3) := by decide +kernel
theorem dL_law_12 : decode cL_law 12 = .ok (.astore_n 1, 1) := by decide +kernel
theorem dL_law_13 : decode cL_law 13 = .ok (.new 18, 3) := by decide +kernel
theorem dL_law_16 : decode cL_law 16 = .ok (.dup, 1) := by decide +kernel
theorem dL_law_17 : decode cL_law 17 = .ok (.aload_n 0, 1) := by decide +kernel
theorem dL_law_18 : decode cL_law 18 = .ok (.iconst 0, 1) := by decide +kernel
theorem dL_law_19 : decode cL_law 19 = .ok (.invokestatic 9, 3) := by decide +kernel
theorem dL_law_22 : decode cL_law 22 = .ok (.invokespecial 20, 3) := by decide +kernel
theorem dL_law_25 : decode cL_law 25 = .ok (.astore_n 2, 1) := by decide +kernel
theorem dL_law_26 : decode cL_law 26 = .ok (.iconst 1, 1) := by decide +kernel
theorem dL_law_27 : decode cL_law 27 = .ok (.istore_n 3, 1) := by decide +kernel
theorem dL_law_28 : decode cL_law 28 = .ok (.iload_n 3, 1) := by decide +kernel
theorem dL_law_29 : decode cL_law 29 = .ok (.aload_n 0, 1) := by decide +kernel
theorem dL_law_30 : decode cL_law 30 = .ok (.arraylength, 1) := by decide +kernel
theorem dL_law_31 : decode cL_law 31 = .ok (.iconst 5, 1) := by decide +kernel
theorem dL_law_32 : decode cL_law 32 = .ok (.isub, 1) := by decide +kernel
theorem dL_law_33 : decode cL_law 33 = .ok (.if_icmp .gt 1064, 3) := by decide +kernel
theorem dL_law_36 : decode cL_law 36 = .ok (.aload_n 0, 1) := by decide +kernel
theorem dL_law_37 : decode cL_law 37 = .ok (.iload_n 3, 1) := by decide +kernel
theorem dL_law_38 : decode cL_law 38 = .ok (.iaload, 1) := by decide +kernel
theorem dL_law_39 : decode cL_law 39 = .ok (.bipush 31, 2) := by decide +kernel
theorem dL_law_41 : decode cL_law 41 = .ok (.iand, 1) := by decide +kernel
theorem dL_law_42 : decode cL_law 42 = .ok (.tableswitch 1049 0 26 #[122, 145, 158, 171, 224, 267, 300, 353, 376, 435, 478, 531, 574, 627, 660, 693, 726, 749, 782, 815, 848, 891, 924, 957, 980, 993, 1026], 122) := by decide +kernel
theorem dL_law_164 : decode cL_law 164 = .ok (.aload_n 1, 1) := by decide +kernel
theorem dL_law_165 : decode cL_law 165 = .ok (.aload_n 0, 1) := by decide +kernel
theorem dL_law_166 : decode cL_law 166 = .ok (.iload_n 3, 1) := by decide +kernel
theorem dL_law_167 : decode cL_law 167 = .ok (.iconst 1, 1) := by decide +kernel
theorem dL_law_168 : decode cL_law 168 = .ok (.iadd, 1) := by decide +kernel
theorem dL_law_169 : decode cL_law 169 = .ok (.iaload, 1) := by decide +kernel
theorem dL_law_170 : decode cL_law 170 = .ok (.invokevirtual 21, 3) := by decide +kernel
theorem dL_law_173 : decode cL_law 173 = .ok (.aload_n 2, 1) := by decide +kernel
theorem dL_law_174 : decode cL_law 174 = .ok (.aload_n 0, 1) := by decide +kernel
theorem dL_law_175 : decode cL_law 175 = .ok (.iload_n 3, 1) := by decide +kernel
theorem dL_law_176 : decode cL_law 176 = .ok (.iconst 1, 1) := by decide +kernel
theorem dL_law_177 : decode cL_law 177 = .ok (.iadd, 1) := by decide +kernel
theorem dL_law_178 : decode cL_law 178 = .ok (.iaload, 1) := by decide +kernel
theorem dL_law_179 : decode cL_law 179 = .ok (.invokevirtual 25, 3) := by decide +kernel
theorem dL_law_182 : decode cL_law 182 = .ok (.if_icmp .eq 909, 3) := by decide +kernel
theorem dL_law_185 : decode cL_law 185 = .ok (.iconst 0, 1) := by decide +kernel
theorem dL_law_186 : decode cL_law 186 = .ok (.ireturn, 1) := by decide +kernel
theorem dL_law_187 : decode cL_law 187 = .ok (.aload_n 1, 1) := by decide +kernel
theorem dL_law_188 : decode cL_law 188 = .ok (.invokevirtual 26, 3) := by decide +kernel
theorem dL_law_191 : decode cL_law 191 = .ok (.aload_n 2, 1) := by decide +kernel
theorem dL_law_192 : decode cL_law 192 = .ok (.invokevirtual 30, 3) := by decide +kernel
theorem dL_law_195 : decode cL_law 195 = .ok (.if_icmp .eq 896, 3) := by decide +kernel
theorem dL_law_198 : decode cL_law 198 = .ok (.iconst 0, 1) := by decide +kernel
theorem dL_law_199 : decode cL_law 199 = .ok (.ireturn, 1) := by decide +kernel
theorem dL_law_200 : decode cL_law 200 = .ok (.aload_n 1, 1) := by decide +kernel
theorem dL_law_201 : decode cL_law 201 = .ok (.invokevirtual 31, 3) := by decide +kernel
theorem dL_law_204 : decode cL_law 204 = .ok (.aload_n 2, 1) := by decide +kernel
theorem dL_law_205 : decode cL_law 205 = .ok (.invokevirtual 34, 3) := by decide +kernel
theorem dL_law_208 : decode cL_law 208 = .ok (.if_icmp .eq 883, 3) := by decide +kernel
theorem dL_law_211 : decode cL_law 211 = .ok (.iconst 0, 1) := by decide +kernel
theorem dL_law_212 : decode cL_law 212 = .ok (.ireturn, 1) := by decide +kernel
theorem dL_law_213 : decode cL_law 213 = .ok (.aload_n 1, 1) := by decide +kernel
theorem dL_law_214 : decode cL_law 214 = .ok (.aload_n 0, 1) := by decide +kernel
theorem dL_law_215 : decode cL_law 215 = .ok (.iload_n 3, 1) := by decide +kernel
theorem dL_law_216 : decode cL_law 216 = .ok (.iconst 1, 1) := by decide +kernel
theorem dL_law_217 : decode cL_law 217 = .ok (.iadd, 1) := by decide +kernel
theorem dL_law_218 : decode cL_law 218 = .ok (.iaload, 1) := by decide +kernel
theorem dL_law_219 : decode cL_law 219 = .ok (.aload_n 0, 1) := by decide +kernel
theorem dL_law_220 : decode cL_law 220 = .ok (.iload_n 3, 1) := by decide +kernel
theorem dL_law_221 : decode cL_law 221 = .ok (.iconst 2, 1) := by decide +kernel
theorem dL_law_222 : decode cL_law 222 = .ok (.iadd, 1) := by decide +kernel
theorem dL_law_223 : decode cL_law 223 = .ok (.iaload, 1) := by decide +kernel
theorem dL_law_224 : decode cL_law 224 = .ok (.aload_n 0, 1) := by decide +kernel
theorem dL_law_225 : decode cL_law 225 = .ok (.iload_n 3, 1) := by decide +kernel
theorem dL_law_226 : decode cL_law 226 = .ok (.iconst 3, 1) := by decide +kernel
theorem dL_law_227 : decode cL_law 227 = .ok (.iadd, 1) := by decide +kernel
theorem dL_law_228 : decode cL_law 228 = .ok (.iaload, 1) := by decide +kernel
theorem dL_law_229 : decode cL_law 229 = .ok (.aload_n 0, 1) := by decide +kernel
theorem dL_law_230 : decode cL_law 230 = .ok (.iload_n 3, 1) := by decide +kernel
theorem dL_law_231 : decode cL_law 231 = .ok (.iconst 4, 1) := by decide +kernel
theorem dL_law_232 : decode cL_law 232 = .ok (.iadd, 1) := by decide +kernel
theorem dL_law_233 : decode cL_law 233 = .ok (.iaload, 1) := by decide +kernel
theorem dL_law_234 : decode cL_law 234 = .ok (.invokevirtual 35, 3) := by decide +kernel
theorem dL_law_237 : decode cL_law 237 = .ok (.aload_n 2, 1) := by decide +kernel
theorem dL_law_238 : decode cL_law 238 = .ok (.aload_n 0, 1) := by decide +kernel
theorem dL_law_239 : decode cL_law 239 = .ok (.iload_n 3, 1) := by decide +kernel
theorem dL_law_240 : decode cL_law 240 = .ok (.iconst 1, 1) := by decide +kernel
theorem dL_law_241 : decode cL_law 241 = .ok (.iadd, 1) := by decide +kernel
theorem dL_law_242 : decode cL_law 242 = .ok (.iaload, 1) := by decide +kernel
theorem dL_law_243 : decode cL_law 243 = .ok (.aload_n 0, 1) := by decide +kernel
theorem dL_law_244 : decode cL_law 244 = .ok (.iload_n 3, 1) := by decide +kernel
theorem dL_law_245 : decode cL_law 245 = .ok (.iconst 2, 1) := by decide +kernel
theorem dL_law_246 : decode cL_law 246 = .ok (.iadd, 1) := by decide +kernel
theorem dL_law_247 : decode cL_law 247 = .ok (.iaload, 1) := by decide +kernel
theorem dL_law_248 : decode cL_law 248 = .ok (.aload_n 0, 1) := by decide +kernel
theorem dL_law_249 : decode cL_law 249 = .ok (.iload_n 3, 1) := by decide +kernel
theorem dL_law_250 : decode cL_law 250 = .ok (.iconst 3, 1) := by decide +kernel
theorem dL_law_251 : decode cL_law 251 = .ok (.iadd, 1) := by decide +kernel
theorem dL_law_252 : decode cL_law 252 = .ok (.iaload, 1) := by decide +kernel
theorem dL_law_253 : decode cL_law 253 = .ok (.aload_n 0, 1) := by decide +kernel
theorem dL_law_254 : decode cL_law 254 = .ok (.iload_n 3, 1) := by decide +kernel
theorem dL_law_255 : decode cL_law 255 = .ok (.iconst 4, 1) := by decide +kernel
theorem dL_law_256 : decode cL_law 256 = .ok (.iadd, 1) := by decide +kernel
theorem dL_law_257 : decode cL_law 257 = .ok (.iaload, 1) := by decide +kernel
theorem dL_law_258 : decode cL_law 258 = .ok (.invokevirtual 39, 3) := by decide +kernel
theorem dL_law_261 : decode cL_law 261 = .ok (.if_icmp .eq 830, 3) := by decide +kernel
theorem dL_law_264 : decode cL_law 264 = .ok (.iconst 0, 1) := by decide +kernel
theorem dL_law_265 : decode cL_law 265 = .ok (.ireturn, 1) := by decide +kernel
theorem dL_law_266 : decode cL_law 266 = .ok (.aload_n 1, 1) := by decide +kernel
theorem dL_law_267 : decode cL_law 267 = .ok (.aload_n 0, 1) := by decide +kernel
theorem dL_law_268 : decode cL_law 268 = .ok (.iload_n 3, 1) := by decide +kernel
theorem dL_law_269 : decode cL_law 269 = .ok (.iconst 1, 1) := by decide +kernel
theorem dL_law_270 : decode cL_law 270 = .ok (.iadd, 1) := by decide +kernel
theorem dL_law_271 : decode cL_law 271 = .ok (.iaload, 1) := by decide +kernel
theorem dL_law_272 : decode cL_law 272 = .ok (.aload_n 0, 1) := by decide +kernel
theorem dL_law_273 : decode cL_law 273 = .ok (.iload_n 3, 1) := by decide +kernel
theorem dL_law_274 : decode cL_law 274 = .ok (.iconst 2, 1) := by decide +kernel
theorem dL_law_275 : decode cL_law 275 = .ok (.iadd, 1) := by decide +kernel
theorem dL_law_276 : decode cL_law 276 = .ok (.iaload, 1) := by decide +kernel
theorem dL_law_277 : decode cL_law 277 = .ok (.aload_n 0, 1) := by decide +kernel
theorem dL_law_278 : decode cL_law 278 = .ok (.iload_n 3, 1) := by decide +kernel
theorem dL_law_279 : decode cL_law 279 = .ok (.iconst 3, 1) := by decide +kernel
theorem dL_law_280 : decode cL_law 280 = .ok (.iadd, 1) := by decide +kernel
theorem dL_law_281 : decode cL_law 281 = .ok (.iaload, 1) := by decide +kernel
theorem dL_law_282 : decode cL_law 282 = .ok (.invokevirtual 40, 3) := by decide +kernel
theorem dL_law_285 : decode cL_law 285 = .ok (.aload_n 2, 1) := by decide +kernel
theorem dL_law_286 : decode cL_law 286 = .ok (.aload_n 0, 1) := by decide +kernel
theorem dL_law_287 : decode cL_law 287 = .ok (.iload_n 3, 1) := by decide +kernel
theorem dL_law_288 : decode cL_law 288 = .ok (.iconst 1, 1) := by decide +kernel
theorem dL_law_289 : decode cL_law 289 = .ok (.iadd, 1) := by decide +kernel
theorem dL_law_290 : decode cL_law 290 = .ok (.iaload, 1) := by decide +kernel
theorem dL_law_291 : decode cL_law 291 = .ok (.aload_n 0, 1) := by decide +kernel
theorem dL_law_292 : decode cL_law 292 = .ok (.iload_n 3, 1) := by decide +kernel
theorem dL_law_293 : decode cL_law 293 = .ok (.iconst 2, 1) := by decide +kernel
theorem dL_law_294 : decode cL_law 294 = .ok (.iadd, 1) := by decide +kernel
theorem dL_law_295 : decode cL_law 295 = .ok (.iaload, 1) := by decide +kernel
theorem dL_law_296 : decode cL_law 296 = .ok (.aload_n 0, 1) := by decide +kernel
theorem dL_law_297 : decode cL_law 297 = .ok (.iload_n 3, 1) := by decide +kernel
theorem dL_law_298 : decode cL_law 298 = .ok (.iconst 3, 1) := by decide +kernel
theorem dL_law_299 : decode cL_law 299 = .ok (.iadd, 1) := by decide +kernel
theorem dL_law_300 : decode cL_law 300 = .ok (.iaload, 1) := by decide +kernel
theorem dL_law_301 : decode cL_law 301 = .ok (.invokevirtual 44, 3) := by decide +kernel
theorem dL_law_304 : decode cL_law 304 = .ok (.if_icmp .eq 787, 3) := by decide +kernel
theorem dL_law_307 : decode cL_law 307 = .ok (.iconst 0, 1) := by decide +kernel
theorem dL_law_308 : decode cL_law 308 = .ok (.ireturn, 1) := by decide +kernel
theorem dL_law_309 : decode cL_law 309 = .ok (.aload_n 1, 1) := by decide +kernel
theorem dL_law_310 : decode cL_law 310 = .ok (.aload_n 0, 1) := by decide +kernel
theorem dL_law_311 : decode cL_law 311 = .ok (.iload_n 3, 1) := by decide +kernel
theorem dL_law_312 : decode cL_law 312 = .ok (.iconst 1, 1) := by decide +kernel
theorem dL_law_313 : decode cL_law 313 = .ok (.iadd, 1) := by decide +kernel
theorem dL_law_314 : decode cL_law 314 = .ok (.iaload, 1) := by decide +kernel
theorem dL_law_315 : decode cL_law 315 = .ok (.aload_n 0, 1) := by decide +kernel
theorem dL_law_316 : decode cL_law 316 = .ok (.iload_n 3, 1) := by decide +kernel
theorem dL_law_317 : decode cL_law 317 = .ok (.iconst 2, 1) := by decide +kernel
theorem dL_law_318 : decode cL_law 318 = .ok (.iadd, 1) := by decide +kernel
theorem dL_law_319 : decode cL_law 319 = .ok (.iaload, 1) := by decide +kernel
theorem dL_law_320 : decode cL_law 320 = .ok (.invokevirtual 45, 3) := by decide +kernel
theorem dL_law_323 : decode cL_law 323 = .ok (.aload_n 2, 1) := by decide +kernel
theorem dL_law_324 : decode cL_law 324 = .ok (.aload_n 0, 1) := by decide +kernel
theorem dL_law_325 : decode cL_law 325 = .ok (.iload_n 3, 1) := by decide +kernel
theorem dL_law_326 : decode cL_law 326 = .ok (.iconst 1, 1) := by decide +kernel
theorem dL_law_327 : decode cL_law 327 = .ok (.iadd, 1) := by decide +kernel
theorem dL_law_328 : decode cL_law 328 = .ok (.iaload, 1) := by decide +kernel
theorem dL_law_329 : decode cL_law 329 = .ok (.aload_n 0, 1) := by decide +kernel
theorem dL_law_330 : decode cL_law 330 = .ok (.iload_n 3, 1) := by decide +kernel
theorem dL_law_331 : decode cL_law 331 = .ok (.iconst 2, 1) := by decide +kernel
theorem dL_law_332 : decode cL_law 332 = .ok (.iadd, 1) := by decide +kernel
theorem dL_law_333 : decode cL_law 333 = .ok (.iaload, 1) := by decide +kernel
theorem dL_law_334 : decode cL_law 334 = .ok (.invokevirtual 49, 3) := by decide +kernel
theorem dL_law_337 : decode cL_law 337 = .ok (.if_icmp .eq 754, 3) := by decide +kernel
theorem dL_law_340 : decode cL_law 340 = .ok (.iconst 0, 1) := by decide +kernel
theorem dL_law_341 : decode cL_law 341 = .ok (.ireturn, 1) := by decide +kernel
theorem dL_law_342 : decode cL_law 342 = .ok (.aload_n 1, 1) := by decide +kernel
theorem dL_law_343 : decode cL_law 343 = .ok (.aload_n 0, 1) := by decide +kernel
theorem dL_law_344 : decode cL_law 344 = .ok (.iload_n 3, 1) := by decide +kernel
theorem dL_law_345 : decode cL_law 345 = .ok (.iconst 1, 1) := by decide +kernel
theorem dL_law_346 : decode cL_law 346 = .ok (.iadd, 1) := by decide +kernel
theorem dL_law_347 : decode cL_law 347 = .ok (.iaload, 1) := by decide +kernel
theorem dL_law_348 : decode cL_law 348 = .ok (.aload_n 0, 1) := by decide +kernel
theorem dL_law_349 : decode cL_law 349 = .ok (.iload_n 3, 1) := by decide +kernel
theorem dL_law_350 : decode cL_law 350 = .ok (.iconst 2, 1) := by decide +kernel
theorem dL_law_351 : decode cL_law 351 = .ok (.iadd, 1) := by decide +kernel
theorem dL_law_352 : decode cL_law 352 = .ok (.iaload, 1) := by decide +kernel
theorem dL_law_353 : decode cL_law 353 = .ok (.aload_n 0, 1) := by decide +kernel
theorem dL_law_354 : decode cL_law 354 = .ok (.iload_n 3, 1) := by decide +kernel
theorem dL_law_355 : decode cL_law 355 = .ok (.iconst 3, 1) := by decide +kernel
theorem dL_law_356 : decode cL_law 356 = .ok (.iadd, 1) := by decide +kernel
theorem dL_law_357 : decode cL_law 357 = .ok (.iaload, 1) := by decide +kernel
theorem dL_law_358 : decode cL_law 358 = .ok (.aload_n 0, 1) := by decide +kernel
theorem dL_law_359 : decode cL_law 359 = .ok (.iload_n 3, 1) := by decide +kernel
theorem dL_law_360 : decode cL_law 360 = .ok (.iconst 4, 1) := by decide +kernel
theorem dL_law_361 : decode cL_law 361 = .ok (.iadd, 1) := by decide +kernel
theorem dL_law_362 : decode cL_law 362 = .ok (.iaload, 1) := by decide +kernel
theorem dL_law_363 : decode cL_law 363 = .ok (.invokevirtual 50, 3) := by decide +kernel
theorem dL_law_366 : decode cL_law 366 = .ok (.aload_n 2, 1) := by decide +kernel
theorem dL_law_367 : decode cL_law 367 = .ok (.aload_n 0, 1) := by decide +kernel
theorem dL_law_368 : decode cL_law 368 = .ok (.iload_n 3, 1) := by decide +kernel
theorem dL_law_369 : decode cL_law 369 = .ok (.iconst 1, 1) := by decide +kernel
theorem dL_law_370 : decode cL_law 370 = .ok (.iadd, 1) := by decide +kernel
theorem dL_law_371 : decode cL_law 371 = .ok (.iaload, 1) := by decide +kernel
theorem dL_law_372 : decode cL_law 372 = .ok (.aload_n 0, 1) := by decide +kernel
theorem dL_law_373 : decode cL_law 373 = .ok (.iload_n 3, 1) := by decide +kernel
theorem dL_law_374 : decode cL_law 374 = .ok (.iconst 2, 1) := by decide +kernel
theorem dL_law_375 : decode cL_law 375 = .ok (.iadd, 1) := by decide +kernel
theorem dL_law_376 : decode cL_law 376 = .ok (.iaload, 1) := by decide +kernel
theorem dL_law_377 : decode cL_law 377 = .ok (.aload_n 0, 1) := by decide +kernel
theorem dL_law_378 : decode cL_law 378 = .ok (.iload_n 3, 1) := by decide +kernel
theorem dL_law_379 : decode cL_law 379 = .ok (.iconst 3, 1) := by decide +kernel
theorem dL_law_380 : decode cL_law 380 = .ok (.iadd, 1) := by decide +kernel
theorem dL_law_381 : decode cL_law 381 = .ok (.iaload, 1) := by decide +kernel
theorem dL_law_382 : decode cL_law 382 = .ok (.aload_n 0, 1) := by decide +kernel
theorem dL_law_383 : decode cL_law 383 = .ok (.iload_n 3, 1) := by decide +kernel
theorem dL_law_384 : decode cL_law 384 = .ok (.iconst 4, 1) := by decide +kernel
theorem dL_law_385 : decode cL_law 385 = .ok (.iadd, 1) := by decide +kernel
theorem dL_law_386 : decode cL_law 386 = .ok (.iaload, 1) := by decide +kernel
theorem dL_law_387 : decode cL_law 387 = .ok (.invokevirtual 53, 3) := by decide +kernel
theorem dL_law_390 : decode cL_law 390 = .ok (.if_icmp .eq 701, 3) := by decide +kernel
theorem dL_law_393 : decode cL_law 393 = .ok (.iconst 0, 1) := by decide +kernel
theorem dL_law_394 : decode cL_law 394 = .ok (.ireturn, 1) := by decide +kernel
theorem dL_law_395 : decode cL_law 395 = .ok (.aload_n 1, 1) := by decide +kernel
theorem dL_law_396 : decode cL_law 396 = .ok (.aload_n 0, 1) := by decide +kernel
theorem dL_law_397 : decode cL_law 397 = .ok (.iload_n 3, 1) := by decide +kernel
theorem dL_law_398 : decode cL_law 398 = .ok (.iconst 1, 1) := by decide +kernel
theorem dL_law_399 : decode cL_law 399 = .ok (.iadd, 1) := by decide +kernel
theorem dL_law_400 : decode cL_law 400 = .ok (.iaload, 1) := by decide +kernel
theorem dL_law_401 : decode cL_law 401 = .ok (.invokevirtual 54, 3) := by decide +kernel
theorem dL_law_404 : decode cL_law 404 = .ok (.aload_n 2, 1) := by decide +kernel
theorem dL_law_405 : decode cL_law 405 = .ok (.aload_n 0, 1) := by decide +kernel
theorem dL_law_406 : decode cL_law 406 = .ok (.iload_n 3, 1) := by decide +kernel
theorem dL_law_407 : decode cL_law 407 = .ok (.iconst 1, 1) := by decide +kernel
theorem dL_law_408 : decode cL_law 408 = .ok (.iadd, 1) := by decide +kernel
theorem dL_law_409 : decode cL_law 409 = .ok (.iaload, 1) := by decide +kernel
theorem dL_law_410 : decode cL_law 410 = .ok (.invokevirtual 57, 3) := by decide +kernel
theorem dL_law_413 : decode cL_law 413 = .ok (.if_icmp .eq 678, 3) := by decide +kernel
theorem dL_law_416 : decode cL_law 416 = .ok (.iconst 0, 1) := by decide +kernel
theorem dL_law_417 : decode cL_law 417 = .ok (.ireturn, 1) := by decide +kernel
theorem dL_law_418 : decode cL_law 418 = .ok (.aload_n 1, 1) := by decide +kernel
theorem dL_law_419 : decode cL_law 419 = .ok (.aload_n 0, 1) := by decide +kernel
theorem dL_law_420 : decode cL_law 420 = .ok (.iload_n 3, 1) := by decide +kernel
theorem dL_law_421 : decode cL_law 421 = .ok (.iconst 1, 1) := by decide +kernel
theorem dL_law_422 : decode cL_law 422 = .ok (.iadd, 1) := by decide +kernel
theorem dL_law_423 : decode cL_law 423 = .ok (.iaload, 1) := by decide +kernel
theorem dL_law_424 : decode cL_law 424 = .ok (.aload_n 0, 1) := by decide +kernel
theorem dL_law_425 : decode cL_law 425 = .ok (.iload_n 3, 1) := by decide +kernel
theorem dL_law_426 : decode cL_law 426 = .ok (.iconst 2, 1) := by decide +kernel
theorem dL_law_427 : decode cL_law 427 = .ok (.iadd, 1) := by decide +kernel
theorem dL_law_428 : decode cL_law 428 = .ok (.iaload, 1) := by decide +kernel
theorem dL_law_429 : decode cL_law 429 = .ok (.aload_n 0, 1) := by decide +kernel
theorem dL_law_430 : decode cL_law 430 = .ok (.iload_n 3, 1) := by decide +kernel
theorem dL_law_431 : decode cL_law 431 = .ok (.iconst 3, 1) := by decide +kernel
theorem dL_law_432 : decode cL_law 432 = .ok (.iadd, 1) := by decide +kernel
theorem dL_law_433 : decode cL_law 433 = .ok (.iaload, 1) := by decide +kernel
theorem dL_law_434 : decode cL_law 434 = .ok (.ifCond .eq 7, 3) := by decide +kernel
theorem dL_law_437 : decode cL_law 437 = .ok (.iconst 1, 1) := by decide +kernel
theorem dL_law_438 : decode cL_law 438 = .ok (.goto 4, 3) := by decide +kernel
theorem dL_law_441 : decode cL_law 441 = .ok (.iconst 0, 1) := by decide +kernel
theorem dL_law_442 : decode cL_law 442 = .ok (.invokevirtual 58, 3) := by decide +kernel
theorem dL_law_445 : decode cL_law 445 = .ok (.aload_n 2, 1) := by decide +kernel
theorem dL_law_446 : decode cL_law 446 = .ok (.aload_n 0, 1) := by decide +kernel
theorem dL_law_447 : decode cL_law 447 = .ok (.iload_n 3, 1) := by decide +kernel
theorem dL_law_448 : decode cL_law 448 = .ok (.iconst 1, 1) := by decide +kernel
theorem dL_law_449 : decode cL_law 449 = .ok (.iadd, 1) := by decide +kernel
theorem dL_law_450 : decode cL_law 450 = .ok (.iaload, 1) := by decide +kernel
theorem dL_law_451 : decode cL_law 451 = .ok (.aload_n 0, 1) := by decide +kernel
theorem dL_law_452 : decode cL_law 452 = .ok (.iload_n 3, 1) := by decide +kernel
theorem dL_law_453 : decode cL_law 453 = .ok (.iconst 2, 1) := by decide +kernel
theorem dL_law_454 : decode cL_law 454 = .ok (.iadd, 1) := by decide +kernel
theorem dL_law_455 : decode cL_law 455 = .ok (.iaload, 1) := by decide +kernel
theorem dL_law_456 : decode cL_law 456 = .ok (.aload_n 0, 1) := by decide +kernel
theorem dL_law_457 : decode cL_law 457 = .ok (.iload_n 3, 1) := by decide +kernel
theorem dL_law_458 : decode cL_law 458 = .ok (.iconst 3, 1) := by decide +kernel
theorem dL_law_459 : decode cL_law 459 = .ok (.iadd, 1) := by decide +kernel
theorem dL_law_460 : decode cL_law 460 = .ok (.iaload, 1) := by decide +kernel
theorem dL_law_461 : decode cL_law 461 = .ok (.ifCond .eq 7, 3) := by decide +kernel
theorem dL_law_464 : decode cL_law 464 = .ok (.iconst 1, 1) := by decide +kernel
theorem dL_law_465 : decode cL_law 465 = .ok (.goto 4, 3) := by decide +kernel
theorem dL_law_468 : decode cL_law 468 = .ok (.iconst 0, 1) := by decide +kernel
theorem dL_law_469 : decode cL_law 469 = .ok (.invokevirtual 62, 3) := by decide +kernel
theorem dL_law_472 : decode cL_law 472 = .ok (.if_icmp .eq 619, 3) := by decide +kernel
theorem dL_law_475 : decode cL_law 475 = .ok (.iconst 0, 1) := by decide +kernel
theorem dL_law_476 : decode cL_law 476 = .ok (.ireturn, 1) := by decide +kernel
theorem dL_law_477 : decode cL_law 477 = .ok (.aload_n 1, 1) := by decide +kernel
theorem dL_law_478 : decode cL_law 478 = .ok (.aload_n 0, 1) := by decide +kernel
theorem dL_law_479 : decode cL_law 479 = .ok (.iload_n 3, 1) := by decide +kernel
theorem dL_law_480 : decode cL_law 480 = .ok (.iconst 1, 1) := by decide +kernel
theorem dL_law_481 : decode cL_law 481 = .ok (.iadd, 1) := by decide +kernel
theorem dL_law_482 : decode cL_law 482 = .ok (.iaload, 1) := by decide +kernel
theorem dL_law_483 : decode cL_law 483 = .ok (.aload_n 0, 1) := by decide +kernel
theorem dL_law_484 : decode cL_law 484 = .ok (.iload_n 3, 1) := by decide +kernel
theorem dL_law_485 : decode cL_law 485 = .ok (.iconst 2, 1) := by decide +kernel
theorem dL_law_486 : decode cL_law 486 = .ok (.iadd, 1) := by decide +kernel
theorem dL_law_487 : decode cL_law 487 = .ok (.iaload, 1) := by decide +kernel
theorem dL_law_488 : decode cL_law 488 = .ok (.aload_n 0, 1) := by decide +kernel
theorem dL_law_489 : decode cL_law 489 = .ok (.iload_n 3, 1) := by decide +kernel
theorem dL_law_490 : decode cL_law 490 = .ok (.iconst 3, 1) := by decide +kernel
theorem dL_law_491 : decode cL_law 491 = .ok (.iadd, 1) := by decide +kernel
theorem dL_law_492 : decode cL_law 492 = .ok (.iaload, 1) := by decide +kernel
theorem dL_law_493 : decode cL_law 493 = .ok (.invokevirtual 63, 3) := by decide +kernel
theorem dL_law_496 : decode cL_law 496 = .ok (.aload_n 2, 1) := by decide +kernel
theorem dL_law_497 : decode cL_law 497 = .ok (.aload_n 0, 1) := by decide +kernel
theorem dL_law_498 : decode cL_law 498 = .ok (.iload_n 3, 1) := by decide +kernel
theorem dL_law_499 : decode cL_law 499 = .ok (.iconst 1, 1) := by decide +kernel
theorem dL_law_500 : decode cL_law 500 = .ok (.iadd, 1) := by decide +kernel
theorem dL_law_501 : decode cL_law 501 = .ok (.iaload, 1) := by decide +kernel
theorem dL_law_502 : decode cL_law 502 = .ok (.aload_n 0, 1) := by decide +kernel
theorem dL_law_503 : decode cL_law 503 = .ok (.iload_n 3, 1) := by decide +kernel
theorem dL_law_504 : decode cL_law 504 = .ok (.iconst 2, 1) := by decide +kernel
theorem dL_law_505 : decode cL_law 505 = .ok (.iadd, 1) := by decide +kernel
theorem dL_law_506 : decode cL_law 506 = .ok (.iaload, 1) := by decide +kernel
theorem dL_law_507 : decode cL_law 507 = .ok (.aload_n 0, 1) := by decide +kernel
theorem dL_law_508 : decode cL_law 508 = .ok (.iload_n 3, 1) := by decide +kernel
theorem dL_law_509 : decode cL_law 509 = .ok (.iconst 3, 1) := by decide +kernel
theorem dL_law_510 : decode cL_law 510 = .ok (.iadd, 1) := by decide +kernel
theorem dL_law_511 : decode cL_law 511 = .ok (.iaload, 1) := by decide +kernel
theorem dL_law_512 : decode cL_law 512 = .ok (.invokevirtual 66, 3) := by decide +kernel
theorem dL_law_515 : decode cL_law 515 = .ok (.if_icmp .eq 576, 3) := by decide +kernel
theorem dL_law_518 : decode cL_law 518 = .ok (.iconst 0, 1) := by decide +kernel
theorem dL_law_519 : decode cL_law 519 = .ok (.ireturn, 1) := by decide +kernel
theorem dL_law_520 : decode cL_law 520 = .ok (.aload_n 1, 1) := by decide +kernel
theorem dL_law_521 : decode cL_law 521 = .ok (.aload_n 0, 1) := by decide +kernel
theorem dL_law_522 : decode cL_law 522 = .ok (.iload_n 3, 1) := by decide +kernel
theorem dL_law_523 : decode cL_law 523 = .ok (.iconst 1, 1) := by decide +kernel
theorem dL_law_524 : decode cL_law 524 = .ok (.iadd, 1) := by decide +kernel
theorem dL_law_525 : decode cL_law 525 = .ok (.iaload, 1) := by decide +kernel
theorem dL_law_526 : decode cL_law 526 = .ok (.aload_n 0, 1) := by decide +kernel
theorem dL_law_527 : decode cL_law 527 = .ok (.iload_n 3, 1) := by decide +kernel
theorem dL_law_528 : decode cL_law 528 = .ok (.iconst 2, 1) := by decide +kernel
theorem dL_law_529 : decode cL_law 529 = .ok (.iadd, 1) := by decide +kernel
theorem dL_law_530 : decode cL_law 530 = .ok (.iaload, 1) := by decide +kernel
theorem dL_law_531 : decode cL_law 531 = .ok (.aload_n 0, 1) := by decide +kernel
theorem dL_law_532 : decode cL_law 532 = .ok (.iload_n 3, 1) := by decide +kernel
theorem dL_law_533 : decode cL_law 533 = .ok (.iconst 3, 1) := by decide +kernel
theorem dL_law_534 : decode cL_law 534 = .ok (.iadd, 1) := by decide +kernel
theorem dL_law_535 : decode cL_law 535 = .ok (.iaload, 1) := by decide +kernel
theorem dL_law_536 : decode cL_law 536 = .ok (.aload_n 0, 1) := by decide +kernel
theorem dL_law_537 : decode cL_law 537 = .ok (.iload_n 3, 1) := by decide +kernel
theorem dL_law_538 : decode cL_law 538 = .ok (.iconst 4, 1) := by decide +kernel
theorem dL_law_539 : decode cL_law 539 = .ok (.iadd, 1) := by decide +kernel
theorem dL_law_540 : decode cL_law 540 = .ok (.iaload, 1) := by decide +kernel
theorem dL_law_541 : decode cL_law 541 = .ok (.invokevirtual 67, 3) := by decide +kernel
theorem dL_law_544 : decode cL_law 544 = .ok (.aload_n 2, 1) := by decide +kernel
theorem dL_law_545 : decode cL_law 545 = .ok (.aload_n 0, 1) := by decide +kernel
theorem dL_law_546 : decode cL_law 546 = .ok (.iload_n 3, 1) := by decide +kernel
theorem dL_law_547 : decode cL_law 547 = .ok (.iconst 1, 1) := by decide +kernel
theorem dL_law_548 : decode cL_law 548 = .ok (.iadd, 1) := by decide +kernel
theorem dL_law_549 : decode cL_law 549 = .ok (.iaload, 1) := by decide +kernel
theorem dL_law_550 : decode cL_law 550 = .ok (.aload_n 0, 1) := by decide +kernel
theorem dL_law_551 : decode cL_law 551 = .ok (.iload_n 3, 1) := by decide +kernel
theorem dL_law_552 : decode cL_law 552 = .ok (.iconst 2, 1) := by decide +kernel
theorem dL_law_553 : decode cL_law 553 = .ok (.iadd, 1) := by decide +kernel
theorem dL_law_554 : decode cL_law 554 = .ok (.iaload, 1) := by decide +kernel
theorem dL_law_555 : decode cL_law 555 = .ok (.aload_n 0, 1) := by decide +kernel
theorem dL_law_556 : decode cL_law 556 = .ok (.iload_n 3, 1) := by decide +kernel
theorem dL_law_557 : decode cL_law 557 = .ok (.iconst 3, 1) := by decide +kernel
theorem dL_law_558 : decode cL_law 558 = .ok (.iadd, 1) := by decide +kernel
theorem dL_law_559 : decode cL_law 559 = .ok (.iaload, 1) := by decide +kernel
theorem dL_law_560 : decode cL_law 560 = .ok (.aload_n 0, 1) := by decide +kernel
theorem dL_law_561 : decode cL_law 561 = .ok (.iload_n 3, 1) := by decide +kernel
theorem dL_law_562 : decode cL_law 562 = .ok (.iconst 4, 1) := by decide +kernel
theorem dL_law_563 : decode cL_law 563 = .ok (.iadd, 1) := by decide +kernel
theorem dL_law_564 : decode cL_law 564 = .ok (.iaload, 1) := by decide +kernel
theorem dL_law_565 : decode cL_law 565 = .ok (.invokevirtual 70, 3) := by decide +kernel
theorem dL_law_568 : decode cL_law 568 = .ok (.if_icmp .eq 523, 3) := by decide +kernel
theorem dL_law_571 : decode cL_law 571 = .ok (.iconst 0, 1) := by decide +kernel
theorem dL_law_572 : decode cL_law 572 = .ok (.ireturn, 1) := by decide +kernel
theorem dL_law_573 : decode cL_law 573 = .ok (.aload_n 1, 1) := by decide +kernel
theorem dL_law_574 : decode cL_law 574 = .ok (.aload_n 0, 1) := by decide +kernel
theorem dL_law_575 : decode cL_law 575 = .ok (.iload_n 3, 1) := by decide +kernel
theorem dL_law_576 : decode cL_law 576 = .ok (.iconst 1, 1) := by decide +kernel
theorem dL_law_577 : decode cL_law 577 = .ok (.iadd, 1) := by decide +kernel
theorem dL_law_578 : decode cL_law 578 = .ok (.iaload, 1) := by decide +kernel
theorem dL_law_579 : decode cL_law 579 = .ok (.aload_n 0, 1) := by decide +kernel
theorem dL_law_580 : decode cL_law 580 = .ok (.iload_n 3, 1) := by decide +kernel
theorem dL_law_581 : decode cL_law 581 = .ok (.iconst 2, 1) := by decide +kernel
theorem dL_law_582 : decode cL_law 582 = .ok (.iadd, 1) := by decide +kernel
theorem dL_law_583 : decode cL_law 583 = .ok (.iaload, 1) := by decide +kernel
theorem dL_law_584 : decode cL_law 584 = .ok (.aload_n 0, 1) := by decide +kernel
theorem dL_law_585 : decode cL_law 585 = .ok (.iload_n 3, 1) := by decide +kernel
theorem dL_law_586 : decode cL_law 586 = .ok (.iconst 3, 1) := by decide +kernel
theorem dL_law_587 : decode cL_law 587 = .ok (.iadd, 1) := by decide +kernel
theorem dL_law_588 : decode cL_law 588 = .ok (.iaload, 1) := by decide +kernel
theorem dL_law_589 : decode cL_law 589 = .ok (.invokevirtual 71, 3) := by decide +kernel
theorem dL_law_592 : decode cL_law 592 = .ok (.aload_n 2, 1) := by decide +kernel
theorem dL_law_593 : decode cL_law 593 = .ok (.aload_n 0, 1) := by decide +kernel
theorem dL_law_594 : decode cL_law 594 = .ok (.iload_n 3, 1) := by decide +kernel
theorem dL_law_595 : decode cL_law 595 = .ok (.iconst 1, 1) := by decide +kernel
theorem dL_law_596 : decode cL_law 596 = .ok (.iadd, 1) := by decide +kernel
theorem dL_law_597 : decode cL_law 597 = .ok (.iaload, 1) := by decide +kernel
theorem dL_law_598 : decode cL_law 598 = .ok (.aload_n 0, 1) := by decide +kernel
theorem dL_law_599 : decode cL_law 599 = .ok (.iload_n 3, 1) := by decide +kernel
theorem dL_law_600 : decode cL_law 600 = .ok (.iconst 2, 1) := by decide +kernel
theorem dL_law_601 : decode cL_law 601 = .ok (.iadd, 1) := by decide +kernel
theorem dL_law_602 : decode cL_law 602 = .ok (.iaload, 1) := by decide +kernel
theorem dL_law_603 : decode cL_law 603 = .ok (.aload_n 0, 1) := by decide +kernel
theorem dL_law_604 : decode cL_law 604 = .ok (.iload_n 3, 1) := by decide +kernel
theorem dL_law_605 : decode cL_law 605 = .ok (.iconst 3, 1) := by decide +kernel
theorem dL_law_606 : decode cL_law 606 = .ok (.iadd, 1) := by decide +kernel
theorem dL_law_607 : decode cL_law 607 = .ok (.iaload, 1) := by decide +kernel
theorem dL_law_608 : decode cL_law 608 = .ok (.invokevirtual 74, 3) := by decide +kernel
theorem dL_law_611 : decode cL_law 611 = .ok (.if_icmp .eq 480, 3) := by decide +kernel
theorem dL_law_614 : decode cL_law 614 = .ok (.iconst 0, 1) := by decide +kernel
theorem dL_law_615 : decode cL_law 615 = .ok (.ireturn, 1) := by decide +kernel
theorem dL_law_616 : decode cL_law 616 = .ok (.aload_n 1, 1) := by decide +kernel
theorem dL_law_617 : decode cL_law 617 = .ok (.aload_n 0, 1) := by decide +kernel
theorem dL_law_618 : decode cL_law 618 = .ok (.iload_n 3, 1) := by decide +kernel
theorem dL_law_619 : decode cL_law 619 = .ok (.iconst 1, 1) := by decide +kernel
theorem dL_law_620 : decode cL_law 620 = .ok (.iadd, 1) := by decide +kernel
theorem dL_law_621 : decode cL_law 621 = .ok (.iaload, 1) := by decide +kernel
theorem dL_law_622 : decode cL_law 622 = .ok (.aload_n 0, 1) := by decide +kernel
theorem dL_law_623 : decode cL_law 623 = .ok (.iload_n 3, 1) := by decide +kernel
theorem dL_law_624 : decode cL_law 624 = .ok (.iconst 2, 1) := by decide +kernel
theorem dL_law_625 : decode cL_law 625 = .ok (.iadd, 1) := by decide +kernel
theorem dL_law_626 : decode cL_law 626 = .ok (.iaload, 1) := by decide +kernel
theorem dL_law_627 : decode cL_law 627 = .ok (.aload_n 0, 1) := by decide +kernel
theorem dL_law_628 : decode cL_law 628 = .ok (.iload_n 3, 1) := by decide +kernel
theorem dL_law_629 : decode cL_law 629 = .ok (.iconst 3, 1) := by decide +kernel
theorem dL_law_630 : decode cL_law 630 = .ok (.iadd, 1) := by decide +kernel
theorem dL_law_631 : decode cL_law 631 = .ok (.iaload, 1) := by decide +kernel
theorem dL_law_632 : decode cL_law 632 = .ok (.aload_n 0, 1) := by decide +kernel
theorem dL_law_633 : decode cL_law 633 = .ok (.iload_n 3, 1) := by decide +kernel
theorem dL_law_634 : decode cL_law 634 = .ok (.iconst 4, 1) := by decide +kernel
theorem dL_law_635 : decode cL_law 635 = .ok (.iadd, 1) := by decide +kernel
theorem dL_law_636 : decode cL_law 636 = .ok (.iaload, 1) := by decide +kernel
theorem dL_law_637 : decode cL_law 637 = .ok (.invokevirtual 75, 3) := by decide +kernel
theorem dL_law_640 : decode cL_law 640 = .ok (.aload_n 2, 1) := by decide +kernel
theorem dL_law_641 : decode cL_law 641 = .ok (.aload_n 0, 1) := by decide +kernel
theorem dL_law_642 : decode cL_law 642 = .ok (.iload_n 3, 1) := by decide +kernel
theorem dL_law_643 : decode cL_law 643 = .ok (.iconst 1, 1) := by decide +kernel
theorem dL_law_644 : decode cL_law 644 = .ok (.iadd, 1) := by decide +kernel
theorem dL_law_645 : decode cL_law 645 = .ok (.iaload, 1) := by decide +kernel
theorem dL_law_646 : decode cL_law 646 = .ok (.aload_n 0, 1) := by decide +kernel
theorem dL_law_647 : decode cL_law 647 = .ok (.iload_n 3, 1) := by decide +kernel
theorem dL_law_648 : decode cL_law 648 = .ok (.iconst 2, 1) := by decide +kernel
theorem dL_law_649 : decode cL_law 649 = .ok (.iadd, 1) := by decide +kernel
theorem dL_law_650 : decode cL_law 650 = .ok (.iaload, 1) := by decide +kernel
theorem dL_law_651 : decode cL_law 651 = .ok (.aload_n 0, 1) := by decide +kernel
theorem dL_law_652 : decode cL_law 652 = .ok (.iload_n 3, 1) := by decide +kernel
theorem dL_law_653 : decode cL_law 653 = .ok (.iconst 3, 1) := by decide +kernel
theorem dL_law_654 : decode cL_law 654 = .ok (.iadd, 1) := by decide +kernel
theorem dL_law_655 : decode cL_law 655 = .ok (.iaload, 1) := by decide +kernel
theorem dL_law_656 : decode cL_law 656 = .ok (.aload_n 0, 1) := by decide +kernel
theorem dL_law_657 : decode cL_law 657 = .ok (.iload_n 3, 1) := by decide +kernel
theorem dL_law_658 : decode cL_law 658 = .ok (.iconst 4, 1) := by decide +kernel
theorem dL_law_659 : decode cL_law 659 = .ok (.iadd, 1) := by decide +kernel
theorem dL_law_660 : decode cL_law 660 = .ok (.iaload, 1) := by decide +kernel
theorem dL_law_661 : decode cL_law 661 = .ok (.invokevirtual 78, 3) := by decide +kernel
theorem dL_law_664 : decode cL_law 664 = .ok (.if_icmp .eq 427, 3) := by decide +kernel
theorem dL_law_667 : decode cL_law 667 = .ok (.iconst 0, 1) := by decide +kernel
theorem dL_law_668 : decode cL_law 668 = .ok (.ireturn, 1) := by decide +kernel
theorem dL_law_669 : decode cL_law 669 = .ok (.aload_n 1, 1) := by decide +kernel
theorem dL_law_670 : decode cL_law 670 = .ok (.aload_n 0, 1) := by decide +kernel
theorem dL_law_671 : decode cL_law 671 = .ok (.iload_n 3, 1) := by decide +kernel
theorem dL_law_672 : decode cL_law 672 = .ok (.iconst 1, 1) := by decide +kernel
theorem dL_law_673 : decode cL_law 673 = .ok (.iadd, 1) := by decide +kernel
theorem dL_law_674 : decode cL_law 674 = .ok (.iaload, 1) := by decide +kernel
theorem dL_law_675 : decode cL_law 675 = .ok (.aload_n 0, 1) := by decide +kernel
theorem dL_law_676 : decode cL_law 676 = .ok (.iload_n 3, 1) := by decide +kernel
theorem dL_law_677 : decode cL_law 677 = .ok (.iconst 2, 1) := by decide +kernel
theorem dL_law_678 : decode cL_law 678 = .ok (.iadd, 1) := by decide +kernel
theorem dL_law_679 : decode cL_law 679 = .ok (.iaload, 1) := by decide +kernel
theorem dL_law_680 : decode cL_law 680 = .ok (.invokevirtual 79, 3) := by decide +kernel
theorem dL_law_683 : decode cL_law 683 = .ok (.aload_n 2, 1) := by decide +kernel
theorem dL_law_684 : decode cL_law 684 = .ok (.aload_n 0, 1) := by decide +kernel
theorem dL_law_685 : decode cL_law 685 = .ok (.iload_n 3, 1) := by decide +kernel
theorem dL_law_686 : decode cL_law 686 = .ok (.iconst 1, 1) := by decide +kernel
theorem dL_law_687 : decode cL_law 687 = .ok (.iadd, 1) := by decide +kernel
theorem dL_law_688 : decode cL_law 688 = .ok (.iaload, 1) := by decide +kernel
theorem dL_law_689 : decode cL_law 689 = .ok (.aload_n 0, 1) := by decide +kernel
theorem dL_law_690 : decode cL_law 690 = .ok (.iload_n 3, 1) := by decide +kernel
theorem dL_law_691 : decode cL_law 691 = .ok (.iconst 2, 1) := by decide +kernel
theorem dL_law_692 : decode cL_law 692 = .ok (.iadd, 1) := by decide +kernel
theorem dL_law_693 : decode cL_law 693 = .ok (.iaload, 1) := by decide +kernel
theorem dL_law_694 : decode cL_law 694 = .ok (.invokevirtual 82, 3) := by decide +kernel
theorem dL_law_697 : decode cL_law 697 = .ok (.if_icmp .eq 394, 3) := by decide +kernel
theorem dL_law_700 : decode cL_law 700 = .ok (.iconst 0, 1) := by decide +kernel
theorem dL_law_701 : decode cL_law 701 = .ok (.ireturn, 1) := by decide +kernel
theorem dL_law_702 : decode cL_law 702 = .ok (.aload_n 1, 1) := by decide +kernel
theorem dL_law_703 : decode cL_law 703 = .ok (.aload_n 0, 1) := by decide +kernel
theorem dL_law_704 : decode cL_law 704 = .ok (.iload_n 3, 1) := by decide +kernel
theorem dL_law_705 : decode cL_law 705 = .ok (.iconst 1, 1) := by decide +kernel
theorem dL_law_706 : decode cL_law 706 = .ok (.iadd, 1) := by decide +kernel
theorem dL_law_707 : decode cL_law 707 = .ok (.iaload, 1) := by decide +kernel
theorem dL_law_708 : decode cL_law 708 = .ok (.aload_n 0, 1) := by decide +kernel
theorem dL_law_709 : decode cL_law 709 = .ok (.iload_n 3, 1) := by decide +kernel
theorem dL_law_710 : decode cL_law 710 = .ok (.iconst 2, 1) := by decide +kernel
theorem dL_law_711 : decode cL_law 711 = .ok (.iadd, 1) := by decide +kernel
theorem dL_law_712 : decode cL_law 712 = .ok (.iaload, 1) := by decide +kernel
theorem dL_law_713 : decode cL_law 713 = .ok (.invokevirtual 83, 3) := by decide +kernel
theorem dL_law_716 : decode cL_law 716 = .ok (.aload_n 2, 1) := by decide +kernel
theorem dL_law_717 : decode cL_law 717 = .ok (.aload_n 0, 1) := by decide +kernel
theorem dL_law_718 : decode cL_law 718 = .ok (.iload_n 3, 1) := by decide +kernel
theorem dL_law_719 : decode cL_law 719 = .ok (.iconst 1, 1) := by decide +kernel
theorem dL_law_720 : decode cL_law 720 = .ok (.iadd, 1) := by decide +kernel
theorem dL_law_721 : decode cL_law 721 = .ok (.iaload, 1) := by decide +kernel
theorem dL_law_722 : decode cL_law 722 = .ok (.aload_n 0, 1) := by decide +kernel
theorem dL_law_723 : decode cL_law 723 = .ok (.iload_n 3, 1) := by decide +kernel
theorem dL_law_724 : decode cL_law 724 = .ok (.iconst 2, 1) := by decide +kernel
theorem dL_law_725 : decode cL_law 725 = .ok (.iadd, 1) := by decide +kernel
theorem dL_law_726 : decode cL_law 726 = .ok (.iaload, 1) := by decide +kernel
theorem dL_law_727 : decode cL_law 727 = .ok (.invokevirtual 86, 3) := by decide +kernel
theorem dL_law_730 : decode cL_law 730 = .ok (.if_icmp .eq 361, 3) := by decide +kernel
theorem dL_law_733 : decode cL_law 733 = .ok (.iconst 0, 1) := by decide +kernel
theorem dL_law_734 : decode cL_law 734 = .ok (.ireturn, 1) := by decide +kernel
theorem dL_law_735 : decode cL_law 735 = .ok (.aload_n 1, 1) := by decide +kernel
theorem dL_law_736 : decode cL_law 736 = .ok (.aload_n 0, 1) := by decide +kernel
theorem dL_law_737 : decode cL_law 737 = .ok (.iload_n 3, 1) := by decide +kernel
theorem dL_law_738 : decode cL_law 738 = .ok (.iconst 1, 1) := by decide +kernel
theorem dL_law_739 : decode cL_law 739 = .ok (.iadd, 1) := by decide +kernel
theorem dL_law_740 : decode cL_law 740 = .ok (.iaload, 1) := by decide +kernel
theorem dL_law_741 : decode cL_law 741 = .ok (.aload_n 0, 1) := by decide +kernel
theorem dL_law_742 : decode cL_law 742 = .ok (.iload_n 3, 1) := by decide +kernel
theorem dL_law_743 : decode cL_law 743 = .ok (.iconst 2, 1) := by decide +kernel
theorem dL_law_744 : decode cL_law 744 = .ok (.iadd, 1) := by decide +kernel
theorem dL_law_745 : decode cL_law 745 = .ok (.iaload, 1) := by decide +kernel
end
section
theorem dL_law_746 : decode cL_law 746 = .ok (.invokevirtual 87, 3) := by decide +kernel
theorem dL_law_749 : decode cL_law 749 = .ok (.aload_n 2, 1) := by decide +kernel
theorem dL_law_750 : decode cL_law 750 = .ok (.aload_n 0, 1) := by decide +kernel
theorem dL_law_751 : decode cL_law 751 = .ok (.iload_n 3, 1) := by decide +kernel
theorem dL_law_752 : decode cL_law 752 = .ok (.iconst 1, 1) := by decide +kernel
theorem dL_law_753 : decode cL_law 753 = .ok (.iadd, 1) := by decide +kernel
theorem dL_law_754 : decode cL_law 754 = .ok (.iaload, 1) := by decide +kernel
theorem dL_law_755 : decode cL_law 755 = .ok (.aload_n 0, 1) := by decide +kernel
theorem dL_law_756 : decode cL_law 756 = .ok (.iload_n 3, 1) := by decide +kernel
theorem dL_law_757 : decode cL_law 757 = .ok (.iconst 2, 1) := by decide +kernel
theorem dL_law_758 : decode cL_law 758 = .ok (.iadd, 1) := by decide +kernel
theorem dL_law_759 : decode cL_law 759 = .ok (.iaload, 1) := by decide +kernel
theorem dL_law_760 : decode cL_law 760 = .ok (.invokevirtual 90, 3) := by decide +kernel
theorem dL_law_763 : decode cL_law 763 = .ok (.if_icmp .eq 328, 3) := by decide +kernel
theorem dL_law_766 : decode cL_law 766 = .ok (.iconst 0, 1) := by decide +kernel
theorem dL_law_767 : decode cL_law 767 = .ok (.ireturn, 1) := by decide +kernel
theorem dL_law_768 : decode cL_law 768 = .ok (.aload_n 1, 1) := by decide +kernel
theorem dL_law_769 : decode cL_law 769 = .ok (.aload_n 0, 1) := by decide +kernel
theorem dL_law_770 : decode cL_law 770 = .ok (.iload_n 3, 1) := by decide +kernel
theorem dL_law_771 : decode cL_law 771 = .ok (.iconst 1, 1) := by decide +kernel
theorem dL_law_772 : decode cL_law 772 = .ok (.iadd, 1) := by decide +kernel
theorem dL_law_773 : decode cL_law 773 = .ok (.iaload, 1) := by decide +kernel
theorem dL_law_774 : decode cL_law 774 = .ok (.invokevirtual 91, 3) := by decide +kernel
theorem dL_law_777 : decode cL_law 777 = .ok (.aload_n 2, 1) := by decide +kernel
theorem dL_law_778 : decode cL_law 778 = .ok (.aload_n 0, 1) := by decide +kernel
theorem dL_law_779 : decode cL_law 779 = .ok (.iload_n 3, 1) := by decide +kernel
theorem dL_law_780 : decode cL_law 780 = .ok (.iconst 1, 1) := by decide +kernel
theorem dL_law_781 : decode cL_law 781 = .ok (.iadd, 1) := by decide +kernel
theorem dL_law_782 : decode cL_law 782 = .ok (.iaload, 1) := by decide +kernel
theorem dL_law_783 : decode cL_law 783 = .ok (.invokevirtual 94, 3) := by decide +kernel
theorem dL_law_786 : decode cL_law 786 = .ok (.if_icmp .eq 305, 3) := by decide +kernel
theorem dL_law_789 : decode cL_law 789 = .ok (.iconst 0, 1) := by decide +kernel
theorem dL_law_790 : decode cL_law 790 = .ok (.ireturn, 1) := by decide +kernel
theorem dL_law_791 : decode cL_law 791 = .ok (.aload_n 1, 1) := by decide +kernel
theorem dL_law_792 : decode cL_law 792 = .ok (.aload_n 0, 1) := by decide +kernel
theorem dL_law_793 : decode cL_law 793 = .ok (.iload_n 3, 1) := by decide +kernel
theorem dL_law_794 : decode cL_law 794 = .ok (.iconst 1, 1) := by decide +kernel
theorem dL_law_795 : decode cL_law 795 = .ok (.iadd, 1) := by decide +kernel
theorem dL_law_796 : decode cL_law 796 = .ok (.iaload, 1) := by decide +kernel
theorem dL_law_797 : decode cL_law 797 = .ok (.aload_n 0, 1) := by decide +kernel
theorem dL_law_798 : decode cL_law 798 = .ok (.iload_n 3, 1) := by decide +kernel
theorem dL_law_799 : decode cL_law 799 = .ok (.iconst 2, 1) := by decide +kernel
theorem dL_law_800 : decode cL_law 800 = .ok (.iadd, 1) := by decide +kernel
theorem dL_law_801 : decode cL_law 801 = .ok (.iaload, 1) := by decide +kernel
theorem dL_law_802 : decode cL_law 802 = .ok (.invokevirtual 95, 3) := by decide +kernel
theorem dL_law_805 : decode cL_law 805 = .ok (.aload_n 2, 1) := by decide +kernel
theorem dL_law_806 : decode cL_law 806 = .ok (.aload_n 0, 1) := by decide +kernel
theorem dL_law_807 : decode cL_law 807 = .ok (.iload_n 3, 1) := by decide +kernel
theorem dL_law_808 : decode cL_law 808 = .ok (.iconst 1, 1) := by decide +kernel
theorem dL_law_809 : decode cL_law 809 = .ok (.iadd, 1) := by decide +kernel
theorem dL_law_810 : decode cL_law 810 = .ok (.iaload, 1) := by decide +kernel
theorem dL_law_811 : decode cL_law 811 = .ok (.aload_n 0, 1) := by decide +kernel
theorem dL_law_812 : decode cL_law 812 = .ok (.iload_n 3, 1) := by decide +kernel
theorem dL_law_813 : decode cL_law 813 = .ok (.iconst 2, 1) := by decide +kernel
theorem dL_law_814 : decode cL_law 814 = .ok (.iadd, 1) := by decide +kernel
theorem dL_law_815 : decode cL_law 815 = .ok (.iaload, 1) := by decide +kernel
theorem dL_law_816 : decode cL_law 816 = .ok (.invokevirtual 98, 3) := by decide +kernel
theorem dL_law_819 : decode cL_law 819 = .ok (.if_icmp .eq 272, 3) := by decide +kernel
theorem dL_law_822 : decode cL_law 822 = .ok (.iconst 0, 1) := by decide +kernel
theorem dL_law_823 : decode cL_law 823 = .ok (.ireturn, 1) := by decide +kernel
theorem dL_law_824 : decode cL_law 824 = .ok (.aload_n 1, 1) := by decide +kernel
theorem dL_law_825 : decode cL_law 825 = .ok (.aload_n 0, 1) := by decide +kernel
theorem dL_law_826 : decode cL_law 826 = .ok (.iload_n 3, 1) := by decide +kernel
theorem dL_law_827 : decode cL_law 827 = .ok (.iconst 1, 1) := by decide +kernel
theorem dL_law_828 : decode cL_law 828 = .ok (.iadd, 1) := by decide +kernel
theorem dL_law_829 : decode cL_law 829 = .ok (.iaload, 1) := by decide +kernel
theorem dL_law_830 : decode cL_law 830 = .ok (.aload_n 0, 1) := by decide +kernel
theorem dL_law_831 : decode cL_law 831 = .ok (.iload_n 3, 1) := by decide +kernel
theorem dL_law_832 : decode cL_law 832 = .ok (.iconst 2, 1) := by decide +kernel
theorem dL_law_833 : decode cL_law 833 = .ok (.iadd, 1) := by decide +kernel
theorem dL_law_834 : decode cL_law 834 = .ok (.iaload, 1) := by decide +kernel
theorem dL_law_835 : decode cL_law 835 = .ok (.invokevirtual 99, 3) := by decide +kernel
theorem dL_law_838 : decode cL_law 838 = .ok (.aload_n 2, 1) := by decide +kernel
theorem dL_law_839 : decode cL_law 839 = .ok (.aload_n 0, 1) := by decide +kernel
theorem dL_law_840 : decode cL_law 840 = .ok (.iload_n 3, 1) := by decide +kernel
theorem dL_law_841 : decode cL_law 841 = .ok (.iconst 1, 1) := by decide +kernel
theorem dL_law_842 : decode cL_law 842 = .ok (.iadd, 1) := by decide +kernel
theorem dL_law_843 : decode cL_law 843 = .ok (.iaload, 1) := by decide +kernel
theorem dL_law_844 : decode cL_law 844 = .ok (.aload_n 0, 1) := by decide +kernel
theorem dL_law_845 : decode cL_law 845 = .ok (.iload_n 3, 1) := by decide +kernel
theorem dL_law_846 : decode cL_law 846 = .ok (.iconst 2, 1) := by decide +kernel
theorem dL_law_847 : decode cL_law 847 = .ok (.iadd, 1) := by decide +kernel
theorem dL_law_848 : decode cL_law 848 = .ok (.iaload, 1) := by decide +kernel
theorem dL_law_849 : decode cL_law 849 = .ok (.invokevirtual 102, 3) := by decide +kernel
theorem dL_law_852 : decode cL_law 852 = .ok (.if_icmp .eq 239, 3) := by decide +kernel
theorem dL_law_855 : decode cL_law 855 = .ok (.iconst 0, 1) := by decide +kernel
theorem dL_law_856 : decode cL_law 856 = .ok (.ireturn, 1) := by decide +kernel
theorem dL_law_857 : decode cL_law 857 = .ok (.aload_n 1, 1) := by decide +kernel
theorem dL_law_858 : decode cL_law 858 = .ok (.aload_n 0, 1) := by decide +kernel
theorem dL_law_859 : decode cL_law 859 = .ok (.iload_n 3, 1) := by decide +kernel
theorem dL_law_860 : decode cL_law 860 = .ok (.iconst 1, 1) := by decide +kernel
theorem dL_law_861 : decode cL_law 861 = .ok (.iadd, 1) := by decide +kernel
theorem dL_law_862 : decode cL_law 862 = .ok (.iaload, 1) := by decide +kernel
theorem dL_law_863 : decode cL_law 863 = .ok (.aload_n 0, 1) := by decide +kernel
theorem dL_law_864 : decode cL_law 864 = .ok (.iload_n 3, 1) := by decide +kernel
theorem dL_law_865 : decode cL_law 865 = .ok (.iconst 2, 1) := by decide +kernel
theorem dL_law_866 : decode cL_law 866 = .ok (.iadd, 1) := by decide +kernel
theorem dL_law_867 : decode cL_law 867 = .ok (.iaload, 1) := by decide +kernel
theorem dL_law_868 : decode cL_law 868 = .ok (.invokevirtual 103, 3) := by decide +kernel
theorem dL_law_871 : decode cL_law 871 = .ok (.aload_n 2, 1) := by decide +kernel
theorem dL_law_872 : decode cL_law 872 = .ok (.aload_n 0, 1) := by decide +kernel
theorem dL_law_873 : decode cL_law 873 = .ok (.iload_n 3, 1) := by decide +kernel
theorem dL_law_874 : decode cL_law 874 = .ok (.iconst 1, 1) := by decide +kernel
theorem dL_law_875 : decode cL_law 875 = .ok (.iadd, 1) := by decide +kernel
theorem dL_law_876 : decode cL_law 876 = .ok (.iaload, 1) := by decide +kernel
theorem dL_law_877 : decode cL_law 877 = .ok (.aload_n 0, 1) := by decide +kernel
theorem dL_law_878 : decode cL_law 878 = .ok (.iload_n 3, 1) := by decide +kernel
theorem dL_law_879 : decode cL_law 879 = .ok (.iconst 2, 1) := by decide +kernel
theorem dL_law_880 : decode cL_law 880 = .ok (.iadd, 1) := by decide +kernel
theorem dL_law_881 : decode cL_law 881 = .ok (.iaload, 1) := by decide +kernel
theorem dL_law_882 : decode cL_law 882 = .ok (.invokevirtual 106, 3) := by decide +kernel
theorem dL_law_885 : decode cL_law 885 = .ok (.if_icmp .eq 206, 3) := by decide +kernel
theorem dL_law_888 : decode cL_law 888 = .ok (.iconst 0, 1) := by decide +kernel
theorem dL_law_889 : decode cL_law 889 = .ok (.ireturn, 1) := by decide +kernel
theorem dL_law_890 : decode cL_law 890 = .ok (.aload_n 1, 1) := by decide +kernel
theorem dL_law_891 : decode cL_law 891 = .ok (.aload_n 0, 1) := by decide +kernel
theorem dL_law_892 : decode cL_law 892 = .ok (.iload_n 3, 1) := by decide +kernel
theorem dL_law_893 : decode cL_law 893 = .ok (.iconst 1, 1) := by decide +kernel
theorem dL_law_894 : decode cL_law 894 = .ok (.iadd, 1) := by decide +kernel
theorem dL_law_895 : decode cL_law 895 = .ok (.iaload, 1) := by decide +kernel
theorem dL_law_896 : decode cL_law 896 = .ok (.aload_n 0, 1) := by decide +kernel
theorem dL_law_897 : decode cL_law 897 = .ok (.iload_n 3, 1) := by decide +kernel
theorem dL_law_898 : decode cL_law 898 = .ok (.iconst 2, 1) := by decide +kernel
theorem dL_law_899 : decode cL_law 899 = .ok (.iadd, 1) := by decide +kernel
theorem dL_law_900 : decode cL_law 900 = .ok (.iaload, 1) := by decide +kernel
theorem dL_law_901 : decode cL_law 901 = .ok (.aload_n 0, 1) := by decide +kernel
theorem dL_law_902 : decode cL_law 902 = .ok (.iload_n 3, 1) := by decide +kernel
theorem dL_law_903 : decode cL_law 903 = .ok (.iconst 3, 1) := by decide +kernel
theorem dL_law_904 : decode cL_law 904 = .ok (.iadd, 1) := by decide +kernel
theorem dL_law_905 : decode cL_law 905 = .ok (.iaload, 1) := by decide +kernel
theorem dL_law_906 : decode cL_law 906 = .ok (.invokevirtual 107, 3) := by decide +kernel
theorem dL_law_909 : decode cL_law 909 = .ok (.aload_n 2, 1) := by decide +kernel
theorem dL_law_910 : decode cL_law 910 = .ok (.aload_n 0, 1) := by decide +kernel
theorem dL_law_911 : decode cL_law 911 = .ok (.iload_n 3, 1) := by decide +kernel
theorem dL_law_912 : decode cL_law 912 = .ok (.iconst 1, 1) := by decide +kernel
theorem dL_law_913 : decode cL_law 913 = .ok (.iadd, 1) := by decide +kernel
theorem dL_law_914 : decode cL_law 914 = .ok (.iaload, 1) := by decide +kernel
theorem dL_law_915 : decode cL_law 915 = .ok (.aload_n 0, 1) := by decide +kernel
theorem dL_law_916 : decode cL_law 916 = .ok (.iload_n 3, 1) := by decide +kernel
theorem dL_law_917 : decode cL_law 917 = .ok (.iconst 2, 1) := by decide +kernel
theorem dL_law_918 : decode cL_law 918 = .ok (.iadd, 1) := by decide +kernel
theorem dL_law_919 : decode cL_law 919 = .ok (.iaload, 1) := by decide +kernel
theorem dL_law_920 : decode cL_law 920 = .ok (.aload_n 0, 1) := by decide +kernel
theorem dL_law_921 : decode cL_law 921 = .ok (.iload_n 3, 1) := by decide +kernel
theorem dL_law_922 : decode cL_law 922 = .ok (.iconst 3, 1) := by decide +kernel
theorem dL_law_923 : decode cL_law 923 = .ok (.iadd, 1) := by decide +kernel
theorem dL_law_924 : decode cL_law 924 = .ok (.iaload, 1) := by decide +kernel
theorem dL_law_925 : decode cL_law 925 = .ok (.invokevirtual 110, 3) := by decide +kernel
theorem dL_law_928 : decode cL_law 928 = .ok (.if_icmp .eq 163, 3) := by decide +kernel
theorem dL_law_931 : decode cL_law 931 = .ok (.iconst 0, 1) := by decide +kernel
theorem dL_law_932 : decode cL_law 932 = .ok (.ireturn, 1) := by decide +kernel
theorem dL_law_933 : decode cL_law 933 = .ok (.aload_n 1, 1) := by decide +kernel
theorem dL_law_934 : decode cL_law 934 = .ok (.aload_n 0, 1) := by decide +kernel
theorem dL_law_935 : decode cL_law 935 = .ok (.iload_n 3, 1) := by decide +kernel
theorem dL_law_936 : decode cL_law 936 = .ok (.iconst 1, 1) := by decide +kernel
theorem dL_law_937 : decode cL_law 937 = .ok (.iadd, 1) := by decide +kernel
theorem dL_law_938 : decode cL_law 938 = .ok (.iaload, 1) := by decide +kernel
theorem dL_law_939 : decode cL_law 939 = .ok (.aload_n 0, 1) := by decide +kernel
theorem dL_law_940 : decode cL_law 940 = .ok (.iload_n 3, 1) := by decide +kernel
theorem dL_law_941 : decode cL_law 941 = .ok (.iconst 2, 1) := by decide +kernel
theorem dL_law_942 : decode cL_law 942 = .ok (.iadd, 1) := by decide +kernel
theorem dL_law_943 : decode cL_law 943 = .ok (.iaload, 1) := by decide +kernel
theorem dL_law_944 : decode cL_law 944 = .ok (.invokevirtual 111, 3) := by decide +kernel
theorem dL_law_947 : decode cL_law 947 = .ok (.aload_n 2, 1) := by decide +kernel
theorem dL_law_948 : decode cL_law 948 = .ok (.aload_n 0, 1) := by decide +kernel
theorem dL_law_949 : decode cL_law 949 = .ok (.iload_n 3, 1) := by decide +kernel
theorem dL_law_950 : decode cL_law 950 = .ok (.iconst 1, 1) := by decide +kernel
theorem dL_law_951 : decode cL_law 951 = .ok (.iadd, 1) := by decide +kernel
theorem dL_law_952 : decode cL_law 952 = .ok (.iaload, 1) := by decide +kernel
theorem dL_law_953 : decode cL_law 953 = .ok (.aload_n 0, 1) := by decide +kernel
theorem dL_law_954 : decode cL_law 954 = .ok (.iload_n 3, 1) := by decide +kernel
theorem dL_law_955 : decode cL_law 955 = .ok (.iconst 2, 1) := by decide +kernel
theorem dL_law_956 : decode cL_law 956 = .ok (.iadd, 1) := by decide +kernel
theorem dL_law_957 : decode cL_law 957 = .ok (.iaload, 1) := by decide +kernel
theorem dL_law_958 : decode cL_law 958 = .ok (.invokevirtual 114, 3) := by decide +kernel
theorem dL_law_961 : decode cL_law 961 = .ok (.if_icmp .eq 130, 3) := by decide +kernel
theorem dL_law_964 : decode cL_law 964 = .ok (.iconst 0, 1) := by decide +kernel
theorem dL_law_965 : decode cL_law 965 = .ok (.ireturn, 1) := by decide +kernel
theorem dL_law_966 : decode cL_law 966 = .ok (.aload_n 1, 1) := by decide +kernel
theorem dL_law_967 : decode cL_law 967 = .ok (.aload_n 0, 1) := by decide +kernel
theorem dL_law_968 : decode cL_law 968 = .ok (.iload_n 3, 1) := by decide +kernel
theorem dL_law_969 : decode cL_law 969 = .ok (.iconst 1, 1) := by decide +kernel
theorem dL_law_970 : decode cL_law 970 = .ok (.iadd, 1) := by decide +kernel
theorem dL_law_971 : decode cL_law 971 = .ok (.iaload, 1) := by decide +kernel
theorem dL_law_972 : decode cL_law 972 = .ok (.aload_n 0, 1) := by decide +kernel
theorem dL_law_973 : decode cL_law 973 = .ok (.iload_n 3, 1) := by decide +kernel
theorem dL_law_974 : decode cL_law 974 = .ok (.iconst 2, 1) := by decide +kernel
theorem dL_law_975 : decode cL_law 975 = .ok (.iadd, 1) := by decide +kernel
theorem dL_law_976 : decode cL_law 976 = .ok (.iaload, 1) := by decide +kernel
theorem dL_law_977 : decode cL_law 977 = .ok (.invokevirtual 115, 3) := by decide +kernel
theorem dL_law_980 : decode cL_law 980 = .ok (.aload_n 2, 1) := by decide +kernel
theorem dL_law_981 : decode cL_law 981 = .ok (.aload_n 0, 1) := by decide +kernel
theorem dL_law_982 : decode cL_law 982 = .ok (.iload_n 3, 1) := by decide +kernel
theorem dL_law_983 : decode cL_law 983 = .ok (.iconst 1, 1) := by decide +kernel
theorem dL_law_984 : decode cL_law 984 = .ok (.iadd, 1) := by decide +kernel
theorem dL_law_985 : decode cL_law 985 = .ok (.iaload, 1) := by decide +kernel
theorem dL_law_986 : decode cL_law 986 = .ok (.aload_n 0, 1) := by decide +kernel
theorem dL_law_987 : decode cL_law 987 = .ok (.iload_n 3, 1) := by decide +kernel
theorem dL_law_988 : decode cL_law 988 = .ok (.iconst 2, 1) := by decide +kernel
theorem dL_law_989 : decode cL_law 989 = .ok (.iadd, 1) := by decide +kernel
theorem dL_law_990 : decode cL_law 990 = .ok (.iaload, 1) := by decide +kernel
theorem dL_law_991 : decode cL_law 991 = .ok (.invokevirtual 118, 3) := by decide +kernel
theorem dL_law_994 : decode cL_law 994 = .ok (.if_icmp .eq 97, 3) := by decide +kernel
theorem dL_law_997 : decode cL_law 997 = .ok (.iconst 0, 1) := by decide +kernel
theorem dL_law_998 : decode cL_law 998 = .ok (.ireturn, 1) := by decide +kernel
theorem dL_law_999 : decode cL_law 999 = .ok (.aload_n 1, 1) := by decide +kernel
theorem dL_law_1000 : decode cL_law 1000 = .ok (.aload_n 0, 1) := by decide +kernel
theorem dL_law_1001 : decode cL_law 1001 = .ok (.iload_n 3, 1) := by decide +kernel
theorem dL_law_1002 : decode cL_law 1002 = .ok (.iconst 1, 1) := by decide +kernel
theorem dL_law_1003 : decode cL_law 1003 = .ok (.iadd, 1) := by decide +kernel
theorem dL_law_1004 : decode cL_law 1004 = .ok (.iaload, 1) := by decide +kernel
theorem dL_law_1005 : decode cL_law 1005 = .ok (.invokevirtual 119, 3) := by decide +kernel
theorem dL_law_1008 : decode cL_law 1008 = .ok (.aload_n 2, 1) := by decide +kernel
theorem dL_law_1009 : decode cL_law 1009 = .ok (.aload_n 0, 1) := by decide +kernel
theorem dL_law_1010 : decode cL_law 1010 = .ok (.iload_n 3, 1) := by decide +kernel
theorem dL_law_1011 : decode cL_law 1011 = .ok (.iconst 1, 1) := by decide +kernel
theorem dL_law_1012 : decode cL_law 1012 = .ok (.iadd, 1) := by decide +kernel
theorem dL_law_1013 : decode cL_law 1013 = .ok (.iaload, 1) := by decide +kernel
theorem dL_law_1014 : decode cL_law 1014 = .ok (.invokevirtual 122, 3) := by decide +kernel
theorem dL_law_1017 : decode cL_law 1017 = .ok (.if_icmp .eq 74, 3) := by decide +kernel
theorem dL_law_1020 : decode cL_law 1020 = .ok (.iconst 0, 1) := by decide +kernel
theorem dL_law_1021 : decode cL_law 1021 = .ok (.ireturn, 1) := by decide +kernel
theorem dL_law_1022 : decode cL_law 1022 = .ok (.aload_n 1, 1) := by decide +kernel
theorem dL_law_1023 : decode cL_law 1023 = .ok (.invokevirtual 123, 3) := by decide +kernel
theorem dL_law_1026 : decode cL_law 1026 = .ok (.aload_n 2, 1) := by decide +kernel
theorem dL_law_1027 : decode cL_law 1027 = .ok (.invokevirtual 126, 3) := by decide +kernel
theorem dL_law_1030 : decode cL_law 1030 = .ok (.if_icmp .eq 61, 3) := by decide +kernel
theorem dL_law_1033 : decode cL_law 1033 = .ok (.iconst 0, 1) := by decide +kernel
theorem dL_law_1034 : decode cL_law 1034 = .ok (.ireturn, 1) := by decide +kernel
theorem dL_law_1035 : decode cL_law 1035 = .ok (.aload_n 1, 1) := by decide +kernel
theorem dL_law_1036 : decode cL_law 1036 = .ok (.aload_n 0, 1) := by decide +kernel
theorem dL_law_1037 : decode cL_law 1037 = .ok (.iload_n 3, 1) := by decide +kernel
theorem dL_law_1038 : decode cL_law 1038 = .ok (.iconst 1, 1) := by decide +kernel
theorem dL_law_1039 : decode cL_law 1039 = .ok (.iadd, 1) := by decide +kernel
theorem dL_law_1040 : decode cL_law 1040 = .ok (.iaload, 1) := by decide +kernel
theorem dL_law_1041 : decode cL_law 1041 = .ok (.aload_n 0, 1) := by decide +kernel
theorem dL_law_1042 : decode cL_law 1042 = .ok (.iload_n 3, 1) := by decide +kernel
theorem dL_law_1043 : decode cL_law 1043 = .ok (.iconst 2, 1) := by decide +kernel
theorem dL_law_1044 : decode cL_law 1044 = .ok (.iadd, 1) := by decide +kernel
theorem dL_law_1045 : decode cL_law 1045 = .ok (.iaload, 1) := by decide +kernel
theorem dL_law_1046 : decode cL_law 1046 = .ok (.invokevirtual 127, 3) := by decide +kernel
theorem dL_law_1049 : decode cL_law 1049 = .ok (.aload_n 2, 1) := by decide +kernel
theorem dL_law_1050 : decode cL_law 1050 = .ok (.aload_n 0, 1) := by decide +kernel
theorem dL_law_1051 : decode cL_law 1051 = .ok (.iload_n 3, 1) := by decide +kernel
theorem dL_law_1052 : decode cL_law 1052 = .ok (.iconst 1, 1) := by decide +kernel
theorem dL_law_1053 : decode cL_law 1053 = .ok (.iadd, 1) := by decide +kernel
theorem dL_law_1054 : decode cL_law 1054 = .ok (.iaload, 1) := by decide +kernel
theorem dL_law_1055 : decode cL_law 1055 = .ok (.aload_n 0, 1) := by decide +kernel
theorem dL_law_1056 : decode cL_law 1056 = .ok (.iload_n 3, 1) := by decide +kernel
theorem dL_law_1057 : decode cL_law 1057 = .ok (.iconst 2, 1) := by decide +kernel
theorem dL_law_1058 : decode cL_law 1058 = .ok (.iadd, 1) := by decide +kernel
theorem dL_law_1059 : decode cL_law 1059 = .ok (.iaload, 1) := by decide +kernel
theorem dL_law_1060 : decode cL_law 1060 = .ok (.invokevirtual 130, 3) := by decide +kernel
theorem dL_law_1063 : decode cL_law 1063 = .ok (.if_icmp .eq 28, 3) := by decide +kernel
theorem dL_law_1066 : decode cL_law 1066 = .ok (.iconst 0, 1) := by decide +kernel
theorem dL_law_1067 : decode cL_law 1067 = .ok (.ireturn, 1) := by decide +kernel
theorem dL_law_1068 : decode cL_law 1068 = .ok (.aload_n 1, 1) := by decide +kernel
theorem dL_law_1069 : decode cL_law 1069 = .ok (.aload_n 0, 1) := by decide +kernel
theorem dL_law_1070 : decode cL_law 1070 = .ok (.iload_n 3, 1) := by decide +kernel
theorem dL_law_1071 : decode cL_law 1071 = .ok (.iconst 1, 1) := by decide +kernel
theorem dL_law_1072 : decode cL_law 1072 = .ok (.iadd, 1) := by decide +kernel
theorem dL_law_1073 : decode cL_law 1073 = .ok (.iaload, 1) := by decide +kernel
theorem dL_law_1074 : decode cL_law 1074 = .ok (.invokevirtual 131, 3) := by decide +kernel
theorem dL_law_1077 : decode cL_law 1077 = .ok (.aload_n 2, 1) := by decide +kernel
theorem dL_law_1078 : decode cL_law 1078 = .ok (.aload_n 0, 1) := by decide +kernel
theorem dL_law_1079 : decode cL_law 1079 = .ok (.iload_n 3, 1) := by decide +kernel
theorem dL_law_1080 : decode cL_law 1080 = .ok (.iconst 1, 1) := by decide +kernel
theorem dL_law_1081 : decode cL_law 1081 = .ok (.iadd, 1) := by decide +kernel
theorem dL_law_1082 : decode cL_law 1082 = .ok (.iaload, 1) := by decide +kernel
theorem dL_law_1083 : decode cL_law 1083 = .ok (.invokevirtual 134, 3) := by decide +kernel
theorem dL_law_1086 : decode cL_law 1086 = .ok (.if_icmp .eq 5, 3) := by decide +kernel
theorem dL_law_1089 : decode cL_law 1089 = .ok (.iconst 0, 1) := by decide +kernel
theorem dL_law_1090 : decode cL_law 1090 = .ok (.ireturn, 1) := by decide +kernel
theorem dL_law_1091 : decode cL_law 1091 = .ok (.iinc 3 5, 3) := by decide +kernel
theorem dL_law_1094 : decode cL_law 1094 = .ok (.goto (-1066), 3) := by decide +kernel
theorem dL_law_1097 : decode cL_law 1097 = .ok (.iconst 1, 1) := by decide +kernel
theorem dL_law_1098 : decode cL_law 1098 = .ok (.ireturn, 1) := by decide +kernel
end
section
/-! ===== THE PURE HEAP: cells by number, 'ad' ties numbers to the machine's addresses ===== -/
abbrev xG : Type := Nat × (Nat → Nat × Nat)
abbrev xD : Type := Nat → Nat → Int32
abbrev xR : Type := Nat → Nat → Option Nat
abbrev xMt : Type := MethodName × ByteArray × Nat × Option FieldType
abbrev xGm : Type := va_G × (Nat → ClassId) × (Nat → Nat) × (Nat → Nat)
def xTy : Nat → Nat → FieldType
  | 0 => tyX0
  | 1 => tyX1
  | 2 => tyX2
  | 3 => tyX3
  | 4 => tyX4
  | 5 => tyX5
  | 6 => tyX6
  | 7 => tyX7
  | 8 => tyX8
  | 9 => tyX9
  | _ => tyX10
def xnf : Nat → Nat
  | 0 => 5
  | 1 => 2
  | 2 => 2
  | 3 => 4
  | 4 => 2
  | 5 => 2
  | 6 => 7
  | 7 => 3
  | 8 => 2
  | 9 => 14
  | _ => 43
def xisRf : FieldType → Bool
  | .array _ => true
  | .object _ => true
  | _ => false
def xAt : Nat → FieldType
  | 0 => .int
  | 1 => .byte
  | 2 => .boolean
  | 3 => .object RX6
  | 4 => .object RX5
  | 5 => .object RX3
  | _ => .object RX8
def xtv (ad : Nat → Nat) : Value → Value
  | .ref q => .ref (ad q)
  | v => v
def xrv : Option Nat → Value
  | none => .null
  | some q => .ref q
def xfv (ad : Nat → Nat) (c : Nat) (d : Nat → Int32) (r : Nat → Option Nat) (j : Nat) : Value := if xisRf (xTy c j) = true then va_rf ((r j).map ad) else .int (d j)
def xcell (tA : Nat → ClassId) (ad : Nat → Nat) (k : Nat × Nat) (d : Nat → Int32) (r : Nat → Option Nat) : va_E :=
  if k.1 < 16 then .inr (k.1, (List.range (xnf k.1)).map (xfv ad k.1 d r))
  else if k.1 < 19 then .inl (tA (k.1 - 16), k.2, .inl d)
  else .inl (tA (k.1 - 16), k.2, .inr (.inr (.inr (.inr (fun j => (r j).map ad)))))
def xW (tA : Nat → ClassId) (ad : Nat → Nat) (G : xG) (D : xD) (R : xR) : va_W := (List.range G.1).map (fun q => (ad q, xcell tA ad (G.2 q) (D q) (R q)))
def xdu (D : xD) (q k : Nat) (x : Int32) : xD := fun q' => if q' = q then upd (D q) k x else D q'
def xru (R : xR) (q k : Nat) (o : Option Nat) : xR := fun q' => if q' = q then va_up (R q) k o else R q'
/-- a value that may lie on the stack: an int, null, a cell's number, a text constant's number -/
def xok (G : xG) : Value → Prop
  | .int _ => True
  | .null => True
  | .ref q => q < G.1 ∨ 1000000 ≤ q
  | _ => False
def xwf (G : xG) (R : xR) : Prop := ∀ q k r : Nat, R q k = some r → r < G.1
def xag (G : xG) (ad ad' : Nat → Nat) : Prop := ∀ q : Nat, q < G.1 ∨ 1000000 ≤ q → ad' q = ad q
theorem xW_at (tA : Nat → ClassId) (ad : Nat → Nat) {G : xG} (D : xD) (R : xR) {q : Nat} (h : q < G.1) : (xW tA ad G D R)[q]? = some (ad q, xcell tA ad (G.2 q) (D q) (R q)) := by
  simp [xW, h]
theorem xW_set {tA : Nat → ClassId} {ad : Nat → Nat} {G : xG} {D D' : xD} {R R' : xR} {q : Nat} (h : q < G.1) (ho : ∀ i, i ≠ q → D' i = D i ∧ R' i = R i) {e : va_E} (he : e = xcell tA ad (G.2 q) (D' q) (R' q)) : (xW tA ad G D R).set q (ad q, e) = xW tA ad G D' R' := by
  subst he
  apply List.ext_getElem?
  intro i
  simp only [xW, List.getElem?_set, List.getElem?_map, List.length_map, List.length_range]
  by_cases hi : q = i
  · subst hi
    simp [h]
  · rw [if_neg hi]
    by_cases h2 : i < G.1
    · simp [List.getElem?_range h2, (ho i (Ne.symm hi)).1, (ho i (Ne.symm hi)).2]
    · simp [List.getElem?_eq_none, h2]
theorem xfv_ag {ad ad' : Nat → Nat} {c : Nat} {d : Nat → Int32} {r : Nat → Option Nat} (h : ∀ k q, r k = some q → ad' q = ad q) : xfv ad' c d r = xfv ad c d r := by
  funext j
  unfold xfv
  cases hr : r j with
  | none => rfl
  | some q => simp [h j q hr]
theorem xcell_ag {tA : Nat → ClassId} {ad ad' : Nat → Nat} {k : Nat × Nat} {d : Nat → Int32} {r : Nat → Option Nat} (h : ∀ k q, r k = some q → ad' q = ad q) : xcell tA ad' k d r = xcell tA ad k d r := by
  unfold xcell
  rw [xfv_ag h]
  have e : (fun j => (r j).map ad') = (fun j => (r j).map ad) := by
    funext j
    cases hr : r j with
    | none => rfl
    | some q => simp [h j q hr]
  rw [e]
theorem xW_ag {tA : Nat → ClassId} {ad ad' : Nat → Nat} {G : xG} {D : xD} {R : xR} (hw : xwf G R) (h : xag G ad ad') : xW tA ad' G D R = xW tA ad G D R := by
  unfold xW
  apply List.map_congr_left
  intro q hq
  have hq : q < G.1 := List.mem_range.mp hq
  rw [h q (Or.inl hq), xcell_ag (fun k r hr => h r (Or.inl (hw q k r hr)))]
theorem xtv_ag {G : xG} {ad ad' : Nat → Nat} (h : xag G ad ad') {v : Value} (hv : xok G v) : xtv ad' v = xtv ad v := by
  cases v with
  | ref q => simp only [xtv]; rw [h q hv]
  | _ => rfl
theorem xtvs_ag {G : xG} {ad ad' : Nat → Nat} (h : xag G ad ad') {st : List Value} (hv : ∀ v ∈ st, xok G v) : st.map (xtv ad') = st.map (xtv ad) := List.map_congr_left fun v hm => xtv_ag h (hv v hm)
theorem xok_mono {G G' : xG} (h : G.1 ≤ G'.1) {v : Value} (hv : xok G v) : xok G' v := by
  cases v with
  | ref q => exact hv.imp (fun z => Nat.lt_of_lt_of_le z h) id
  | int _ => trivial
  | null => trivial
  | _ => exact hv
theorem xok_cat {G : xG} {v : Value} (hv : xok G v) (ad : Nat → Nat) : (xtv ad v).category = 1 := by
  cases v with
  | ref q => rfl
  | int _ => rfl
  | null => rfl
  | _ => exact hv.elim
theorem xok_rv {G : xG} {R : xR} (hw : xwf G R) (q k : Nat) : xok G (xrv (R q k)) := by
  cases h : R q k with
  | none => trivial
  | some r => exact Or.inl (hw q k r h)
theorem xtv_rv (ad : Nat → Nat) (o : Option Nat) : xtv ad (xrv o) = va_rf (o.map ad) := by cases o <;> rfl
theorem xpush {tA : Nat → ClassId} {ad : Nat → Nat} {G : xG} {D : xD} {R : xR} (hw : xwf G R) (hG : G.1 < 1000000) (a : Nat) (k : Nat × Nat) (d : Nat → Int32) (r : Nat → Option Nat) (hr : ∀ j q, r j = some q → q < G.1) {e : va_E} (he : e = xcell tA ad k d r) :
    xW tA ad G D R ++ [(a, e)] = xW tA (va_up ad G.1 a) (G.1 + 1, va_up G.2 G.1 k) (va_up D G.1 d) (va_up R G.1 r) ∧ xag G ad (va_up ad G.1 a) ∧ xwf (G.1 + 1, va_up G.2 G.1 k) (va_up R G.1 r) := by
  have hag : xag G ad (va_up ad G.1 a) := fun q hq => va_up_ne _ _ (by omega)
  refine ⟨?_, hag, fun q j x hx => ?_⟩
  · unfold xW
    rw [List.range_succ, List.map_append]
    congr 1
    · apply List.map_congr_left
      intro q hq
      have hq : q < G.1 := List.mem_range.mp hq
      have hn : q ≠ G.1 := by omega
      simp only [va_up_ne _ _ hn]
      rw [xcell_ag (fun k x hx => hag x (Or.inl (hw q k x hx)))]
    · simp only [List.map_cons, List.map_nil, va_up_self]
      rw [he, xcell_ag (fun j q h => hag q (Or.inl (hr j q h)))]
  · show x < G.1 + 1
    by_cases hq : q = G.1
    · subst hq
      rw [va_up_self] at hx
      exact Nat.lt_succ_of_lt (hr j x hx)
    · rw [va_up_ne _ _ hq] at hx
      exact Nat.lt_succ_of_lt (hw q j x hx)
theorem xfs_at (ad : Nat → Nat) (c : Nat) (d : Nat → Int32) (r : Nat → Option Nat) {k : Nat} (h : k < xnf c) : ((List.range (xnf c)).map (xfv ad c d r))[k]? = some (xfv ad c d r k) := by simp [h]
theorem xfs_set {ad : Nat → Nat} {c : Nat} {d d' : Nat → Int32} {r r' : Nat → Option Nat} {k : Nat} {v : Value} (ho : ∀ j, j ≠ k → d' j = d j ∧ r' j = r j) (hv : v = xfv ad c d' r' k) : ((List.range (xnf c)).map (xfv ad c d r)).set k v = (List.range (xnf c)).map (xfv ad c d' r') := by
  subst hv
  apply List.ext_getElem?
  intro i
  simp only [List.getElem?_set, List.getElem?_map, List.length_map, List.length_range]
  by_cases hi : k = i
  · subst hi
    by_cases h2 : k < xnf c
    · simp [h2]
    · simp [h2, List.getElem?_eq_none]
  · rw [if_neg hi]
    by_cases h2 : i < xnf c
    · simp only [List.getElem?_range h2, Option.map_some, xfv, (ho i (Ne.symm hi)).1, (ho i (Ne.symm hi)).2]
    · simp [List.getElem?_eq_none, h2]
theorem xcell_o {tA : Nat → ClassId} {ad : Nat → Nat} {k : Nat × Nat} (h : k.1 < 16) (d : Nat → Int32) (r : Nat → Option Nat) : xcell tA ad k d r = .inr (k.1, (List.range (xnf k.1)).map (xfv ad k.1 d r)) := if_pos h
theorem xcell_i {tA : Nat → ClassId} {ad : Nat → Nat} (t n : Nat) (h : t < 3) (d : Nat → Int32) (r : Nat → Option Nat) : xcell tA ad (16 + t, n) d r = .inl (tA t, n, .inl d) := by
  unfold xcell
  rw [if_neg (by simp), if_pos (by simp; omega)]
  simp
theorem xcell_q {tA : Nat → ClassId} {ad : Nat → Nat} (t n : Nat) (h : 3 ≤ t) (d : Nat → Int32) (r : Nat → Option Nat) : xcell tA ad (16 + t, n) d r = .inl (tA t, n, .inr (.inr (.inr (.inr (fun j => (r j).map ad))))) := by
  unfold xcell
  rw [if_neg (by simp), if_neg (by simp; omega)]
  simp
/-! ===== THE WORDS: one list for all methods ===== -/
def xT : List Cond := lw_tbl.filter goodWord
theorem xw (i : Nat) {w : Cond} (h : tables_1[i]? = some w) (g : goodWord w = true) : w ∈ xT := List.mem_filter.mpr ⟨List.mem_append_right _ (List.mem_of_getElem? h), g⟩
theorem xws (i : Nat) {w : Cond} (h : (k2_sels lw_privs)[i]? = some w) (g : goodWord w = true) : w ∈ xT := List.mem_filter.mpr ⟨List.mem_append_left _ (List.mem_of_getElem? h), g⟩
def xWs (μ : xMt) : List Cond := Cond.code μ.1 μ.2.1 μ.2.2.1 μ.2.2.2 :: xT
theorem xgood {μ : xMt} (h : Cond.code μ.1 μ.2.1 μ.2.2.1 μ.2.2.2 ∈ xT) : GoodIn xT (xWs μ) := by
  intro w hw
  have hm : w ∈ xT := by
    rcases List.mem_cons.mp hw with rfl | hw
    · exact h
    · exact hw
  exact ⟨hm, good_of_word (List.mem_filter.mp hm).2⟩
/-! ===== what lies outside: nest mates' constructors, arrays of references, text constants, two statics ===== -/
def xNest : List (String × Nat × MethodName × String) := [("VeneerRows", 35, ⟨"VeneerRows$Tree", "<init>", "()V"⟩, "VeneerRows"), ("VeneerRows", 42, ⟨"VeneerRows$Output", "<init>", "()V"⟩, "VeneerRows"), ("VeneerRows", 47, ⟨"VeneerRows$Text", "<init>", "()V"⟩, "VeneerRows"), ("VeneerRows", 75, ⟨"VeneerRows$Routine", "<init>", "()V"⟩, "VeneerRows"), ("VeneerRows", 93, ⟨"VeneerRows$Line", "<init>", "()V"⟩, "VeneerRows"), ("VeneerRows$Thing", 9, ⟨"VeneerRows$Rows", "<init>", "()V"⟩, "VeneerRows")]
def xOv : List String := [RX6, RX5, RX3, RX8]
def xStr : List (String × Nat × String) := [("VeneerRows", 235, "nothing"), ("VeneerRows", 237, "(none)"), ("VeneerRows", 347, "class "), ("VeneerRows", 356, "the "), ("VeneerRows$Text", 19, "aeiouAEIOU"), ("VeneerRows", 362, "an "), ("VeneerRows", 364, "a "), ("VeneerRows", 366, "The "), ("VeneerRows", 368, "")]
def xLen : List Nat := [7, 6, 6, 4, 10, 3, 2, 4, 0]
def xByt : List (List Int32) := [[110, 111, 116, 104, 105, 110, 103], [40, 110, 111, 110, 101, 41], [99, 108, 97, 115, 115, 32], [116, 104, 101, 32], [97, 101, 105, 111, 117, 65, 69, 73, 79, 85], [97, 110, 32], [97, 32], [84, 104, 101, 32], []]
def xK (Γ : xGm) (U : State) : Prop := va_K Γ.1 vwCl ((List.range 7).map (fun t => (Γ.2.1 t, xAt t))) U
def xE (Γ : xGm) (A : Nat → Prop) (U : State) (H : Heap) : Prop := (∀ w ∈ xNest, va_Nw (.methodLinkNest w.1 w.2.1 w.2.2.1 w.2.2.2) U) ∧ (∀ C ∈ xOv, va_AO C U) ∧ (∀ (k : Nat) (w : String × Nat × String), xStr[k]? = some w → vk_R w.1 w.2.1 w.2.2 (Γ.2.2.1 k) U) ∧ vk_S 9 xLen xByt Γ.2.2.1 Γ.2.2.2 A U H ∧ va_Z "java/lang/String" "COMPACT_STRINGS" "Z" (.int 1) A U H ∧ va_Zq "jdk/internal/util/Preconditions" "SIOOBE_FORMATTER" "Ljava/util/function/BiFunction;" A U H
theorem xE.moved {Γ : xGm} {A : Nat → Prop} {s U : State} {H : Heap} (hW : s.WarmedH U.vm) (h : xE Γ A s H) : xE Γ A U H := ⟨fun w hw => va_Nw.warmM hW (h.1 w hw), fun C hC => (h.2.1 C hC).moved hW.alike, fun k w hk => (h.2.2.1 k w hk).warm hW, h.2.2.2.1.moved hW.alike, h.2.2.2.2.1.moved hW.alike, h.2.2.2.2.2.moved hW.alike⟩
theorem xE.kept {Γ : xGm} {A : Nat → Prop} {U : State} {H H1 : Heap} (h : xE Γ A U H) (hq : ∀ a : Nat, a < H.size → ¬ A a → H1[a]? = H[a]?) : xE Γ A U H1 := ⟨h.1, h.2.1, h.2.2.1, h.2.2.2.1.kept hq, h.2.2.2.2.1.kept hq, h.2.2.2.2.2.kept hq⟩
theorem xE.narrow {Γ : xGm} {A B : Nat → Prop} {U : State} {H : Heap} (h : xE Γ A U H) (hAB : ∀ q, B q → A q) : xE Γ B U H := ⟨h.1, h.2.1, h.2.2.1, h.2.2.2.1.narrow hAB, h.2.2.2.2.1.narrow hAB, h.2.2.2.2.2.narrow hAB⟩
theorem xE.blind {Γ : xGm} {A : Nat → Prop} {U : State} {H : Heap} {g : JFrame} {mk : MethodId} {a : Array Value} (h : xE Γ A U H) : xE Γ A (U.calling g mk a) H := h.moved (s := U) (State.WarmedH.refl U)
/-! ===== A METHOD'S FRAME, THE STATE OF A WALK, ITS END ===== -/
def xF (Γ : xGm) (μ : xMt) (p : Program) (s : State) (m : MethodId) (args : Array Value) (meth : Method) (c : Code) (A : Nat → Prop) : Prop :=
  p.tables.exec = Jvm.exec ∧ c.code = μ.2.1 ∧ c.maxLocals = μ.2.2.1 ∧ s.vm.findClass μ.1.cls = some m.cls ∧ (∀ w ∈ xT, w.before args s = true) ∧ meth.locks = false ∧ meth.sig.returnType = μ.2.2.2 ∧ meth.name = μ.1.name ∧ xK Γ s ∧ xE Γ A s s.heap ∧ ∀ q, s.heap.size ≤ q → A q
def xL (ls : Array Slot) (n : Nat) (ad : Nat → Nat) (L : List (Option Value)) : Prop := ls.size = n ∧ lv_wf ls ∧ L.length = n ∧ ∀ (i : Nat) (v : Value), L[i]? = some (some v) → ls[i]? = some (.val (xtv ad v))
def xS (Γ : xGm) (μ : xMt) (s : State) (A : Nat → Prop) (ad : Nat → Nat) (L : List (Option Value)) (st : List Value) (G : xG) (D : xD) (R : xR) (H : Heap) (locs : List Loc) (ls : Array Slot) (cells slots C S kc kw : Nat) : Prop :=
  (va_P Γ.1 vwCl (xW Γ.2.1 ad G D R) H ∧ va_D A (xW Γ.2.1 ad G D R) ∧ va_S A s.heap H locs) ∧ (∀ k, ad (1000000 + k) = Γ.2.2.1 k) ∧ xwf G R ∧ xL ls μ.2.2.1 ad L ∧ (∀ v, some v ∈ L → xok G v) ∧ (∀ v ∈ st, xok G v) ∧ G.1 + kc ≤ 1000000 ∧ cells + kc ≤ C ∧ slots + kw ≤ S
def xQ (Γ : xGm) (s : State) (A : Nat → Prop) (args : Array Value) (Qc : Array Value → State → Outcome → State → Prop) (ad : Nat → Nat) (G : xG) (kc : Nat) (Q : Option Value → xG → xD → xR → Prop) : Prop :=
  ∀ (ad' : Nat → Nat) (v : Option Value) (G' : xG) (D' : xD) (R' : xR) (t : State), xag G ad ad' → G.1 ≤ G'.1 → G'.1 ≤ G.1 + kc → (∀ w, v = some w → xok G' w) → xwf G' R' → Q v G' D' R' → va_P Γ.1 vwCl (xW Γ.2.1 ad' G' D' R') t.heap → va_D A (xW Γ.2.1 ad' G' D' R') → va_F A s t → Qc args s (.returned (v.map (xtv ad'))) t
def xRm (f kc kw : Nat) : Room := { frames := f, cells := kc, slots := kw, locals := 100 * f }
/-- FROM HERE ON: method μ at pc with locals L, stack st and heap (G, D, R) comes to its end with Q, making kc cells of kw slots at most, with f frames above it -/
def Ex (Γ : xGm) (l : Launch) (f : Nat) (μ : xMt) (pc : Nat) (L : List (Option Value)) (st : List Value) (G : xG) (D : xD) (R : xR) (kc kw : Nat) (Q : Option Value → xG → xD → xR → Prop) : Prop :=
  ∀ (p : Program) (e : Env) (s : State) (m : MethodId) (args : Array Value) (below : List Frame) (meth : Method) (c : Code) (A : Nat → Prop) (Qc : Array Value → State → Outcome → State → Prop) (H : Heap) (locs : List Loc) (ls : Array Slot) (cells slots C S : Nat) (ad : Nat → Nat),
    xF Γ μ p s m args meth c A → xS Γ μ s A ad L st G D R H locs ls cells slots C S kc kw → xQ Γ s A args Qc ad G kc Q →
    W p l e (xRm f C S) s m args below meth c H locs cells slots (MQ below Qc args s C S A) (F0 m pc ls (st.map (xtv ad)))
def xPre (Γ : xGm) (vs : List Value) (ad : Nat → Nat) (G : xG) (D : xD) (R : xR) (sz : Nat) : Array Value → State → Prop := va_Pc (vs.map (xtv ad)) (fun U => U.heap.size = sz ∧ va_P Γ.1 vwCl (xW Γ.2.1 ad G D R) U.heap ∧ xK Γ U ∧ va_D (fun _ => True) (xW Γ.2.1 ad G D R) ∧ xE Γ (va_A (xW Γ.2.1 ad G D R) sz) U U.heap)
def xPost (Γ : xGm) (ad : Nat → Nat) (G : xG) (D : xD) (R : xR) (sz kc : Nat) (Q : Option Value → xG → xD → xR → Prop) : Array Value → State → Outcome → State → Prop := fun _ st oc t =>
  ∃ (ad' : Nat → Nat) (v : Option Value) (G' : xG) (D' : xD) (R' : xR), (xag G ad ad' ∧ G.1 ≤ G'.1 ∧ G'.1 ≤ G.1 + kc ∧ (∀ w, v = some w → xok G' w) ∧ xwf G' R') ∧ Q v G' D' R' ∧ oc = .returned (v.map (xtv ad')) ∧ va_P Γ.1 vwCl (xW Γ.2.1 ad' G' D' R') t.heap ∧ va_D (va_A (xW Γ.2.1 ad G D R) sz) (xW Γ.2.1 ad' G' D' R') ∧ va_F (va_A (xW Γ.2.1 ad G D R) sz) st t
/-- method μ's contract at these arguments and this heap -/
def Cn (Γ : xGm) (l : Launch) (f : Nat) (μ : xMt) (vs : List Value) (G : xG) (D : xD) (R : xR) (kc kw : Nat) (Q : Option Value → xG → xD → xR → Prop) : Prop :=
  G.1 + kc ≤ 1000000 → xwf G R → (∀ v ∈ vs, xok G v) → ∀ (ad : Nat → Nat) (sz : Nat), (∀ k, ad (1000000 + k) = Γ.2.2.1 k) → Met l μ.1 (xWs μ) (xRm f kc kw) (xPre Γ vs ad G D R sz) (xPost Γ ad G D R sz kc Q) kc kw (va_A (xW Γ.2.1 ad G D R) sz)
end
section
/-! ===== ROWS OF THE PURE WALK: what touches no cell ===== -/
section XR
variable {Γ : xGm} {l : Launch} {f : Nat} {μ : xMt} {pc : Nat} {L : List (Option Value)} {st : List Value} {G : xG} {D : xD} {R : xR} {kc kw : Nat} {Q : Option Value → xG → xD → xR → Prop}
theorem xS.ps {s : State} {A : Nat → Prop} {ad : Nat → Nat} {H : Heap} {locs : List Loc} {ls : Array Slot} {cells slots C S : Nat} {st' : List Value} (h : xS Γ μ s A ad L st G D R H locs ls cells slots C S kc kw) (h' : ∀ v ∈ st', xok G v) : xS Γ μ s A ad L st' G D R H locs ls cells slots C S kc kw := ⟨h.1, h.2.1, h.2.2.1, h.2.2.2.1, h.2.2.2.2.1, h', h.2.2.2.2.2.2⟩
theorem xS.ok {s : State} {A : Nat → Prop} {ad : Nat → Nat} {H : Heap} {locs : List Loc} {ls : Array Slot} {cells slots C S : Nat} (h : xS Γ μ s A ad L st G D R H locs ls cells slots C S kc kw) : ∀ v ∈ st, xok G v := h.2.2.2.2.2.1
theorem xo_t {a : Value} (h : ∀ v ∈ a :: st, xok G v) : ∀ v ∈ st, xok G v := fun v hv => h v (List.mem_cons_of_mem _ hv)
theorem xo_h {a : Value} (h : ∀ v ∈ a :: st, xok G v) : xok G a := h a List.mem_cons_self
theorem xo_c {a : Value} (ha : xok G a) (h : ∀ v ∈ st, xok G v) : ∀ v ∈ a :: st, xok G v := fun v hv => by
  rcases List.mem_cons.mp hv with rfl | hv
  · exact ha
  · exact h v hv
theorem xo_i {x : Int32} (h : ∀ v ∈ st, xok G v) : ∀ v ∈ Value.int x :: st, xok G v := xo_c trivial h
theorem xrv_ne (o : Option Nat) : ∀ x : Int32, xrv o ≠ .int x := by intro x; cases o <;> nofun
theorem ex_iconst {n : Int} {v : Int32} (hd : decode μ.2.1 pc = .ok (.iconst n, 1)) (hv : Int32.ofInt n = v) (k : Ex Γ l f μ (pc + 1) L (.int v :: st) G D R kc kw Q) : Ex Γ l f μ pc L st G D R kc kw Q := by
  intro p e s m args below meth c A Qc H locs ls cells slots C S ad hF hS hQ
  exact lv_iconst hF.1 hF.2.1 hd hv (k p e s m args below meth c A Qc H locs ls cells slots C S ad hF (hS.ps (xo_i hS.ok)) hQ)
theorem ex_bipush {n : Int} {v : Int32} (hd : decode μ.2.1 pc = .ok (.bipush n, 2)) (hv : (Int8.ofInt n).toInt32 = v) (k : Ex Γ l f μ (pc + 2) L (.int v :: st) G D R kc kw Q) : Ex Γ l f μ pc L st G D R kc kw Q := by
  intro p e s m args below meth c A Qc H locs ls cells slots C S ad hF hS hQ
  exact lv_bipush hF.1 hF.2.1 hd hv (k p e s m args below meth c A Qc H locs ls cells slots C S ad hF (hS.ps (xo_i hS.ok)) hQ)
theorem ex_sipush {n : Int} {v : Int32} (hd : decode μ.2.1 pc = .ok (.sipush n, 3)) (hv : (Int16.ofInt n).toInt32 = v) (k : Ex Γ l f μ (pc + 3) L (.int v :: st) G D R kc kw Q) : Ex Γ l f μ pc L st G D R kc kw Q := by
  intro p e s m args below meth c A Qc H locs ls cells slots C S ad hF hS hQ
  exact lv_sipush hF.1 hF.2.1 hd hv (k p e s m args below meth c A Qc H locs ls cells slots C S ad hF (hS.ps (xo_i hS.ok)) hQ)
theorem ex_null (hd : decode μ.2.1 pc = .ok (.aconst_null, 1)) (k : Ex Γ l f μ (pc + 1) L (.null :: st) G D R kc kw Q) : Ex Γ l f μ pc L st G D R kc kw Q := by
  intro p e s m args below meth c A Qc H locs ls cells slots C S ad hF hS hQ
  exact lv_null hF.1 hF.2.1 hd (k p e s m args below meth c A Qc H locs ls cells slots C S ad hF (hS.ps (xo_c trivial hS.ok)) hQ)
theorem ex_iadd {x y : Int32} (hd : decode μ.2.1 pc = .ok (.iadd, 1)) (k : Ex Γ l f μ (pc + 1) L (.int (x + y) :: st) G D R kc kw Q) : Ex Γ l f μ pc L (.int y :: .int x :: st) G D R kc kw Q := by
  intro p e s m args below meth c A Qc H locs ls cells slots C S ad hF hS hQ
  exact lv_iadd hF.1 hF.2.1 hd (k p e s m args below meth c A Qc H locs ls cells slots C S ad hF (hS.ps (xo_i (xo_t (xo_t hS.ok)))) hQ)
theorem ex_isub {x y : Int32} (hd : decode μ.2.1 pc = .ok (.isub, 1)) (k : Ex Γ l f μ (pc + 1) L (.int (x - y) :: st) G D R kc kw Q) : Ex Γ l f μ pc L (.int y :: .int x :: st) G D R kc kw Q := by
  intro p e s m args below meth c A Qc H locs ls cells slots C S ad hF hS hQ
  exact lv_isub hF.1 hF.2.1 hd (k p e s m args below meth c A Qc H locs ls cells slots C S ad hF (hS.ps (xo_i (xo_t (xo_t hS.ok)))) hQ)
theorem ex_imul {x y : Int32} (hd : decode μ.2.1 pc = .ok (.imul, 1)) (k : Ex Γ l f μ (pc + 1) L (.int (x * y) :: st) G D R kc kw Q) : Ex Γ l f μ pc L (.int y :: .int x :: st) G D R kc kw Q := by
  intro p e s m args below meth c A Qc H locs ls cells slots C S ad hF hS hQ
  exact lv_imul hF.1 hF.2.1 hd (k p e s m args below meth c A Qc H locs ls cells slots C S ad hF (hS.ps (xo_i (xo_t (xo_t hS.ok)))) hQ)
theorem ex_iand {x y : Int32} (hd : decode μ.2.1 pc = .ok (.iand, 1)) (k : Ex Γ l f μ (pc + 1) L (.int (x &&& y) :: st) G D R kc kw Q) : Ex Γ l f μ pc L (.int y :: .int x :: st) G D R kc kw Q := by
  intro p e s m args below meth c A Qc H locs ls cells slots C S ad hF hS hQ
  exact lv_iand hF.1 hF.2.1 hd (k p e s m args below meth c A Qc H locs ls cells slots C S ad hF (hS.ps (xo_i (xo_t (xo_t hS.ok)))) hQ)
theorem ex_ixor {x y : Int32} (hd : decode μ.2.1 pc = .ok (.ixor, 1)) (k : Ex Γ l f μ (pc + 1) L (.int (x ^^^ y) :: st) G D R kc kw Q) : Ex Γ l f μ pc L (.int y :: .int x :: st) G D R kc kw Q := by
  intro p e s m args below meth c A Qc H locs ls cells slots C S ad hF hS hQ
  exact lv_ixor hF.1 hF.2.1 hd (k p e s m args below meth c A Qc H locs ls cells slots C S ad hF (hS.ps (xo_i (xo_t (xo_t hS.ok)))) hQ)
theorem ex_ishr {x y : Int32} (hd : decode μ.2.1 pc = .ok (.ishr, 1)) (k : Ex Γ l f μ (pc + 1) L (.int (x >>> (y &&& 31)) :: st) G D R kc kw Q) : Ex Γ l f μ pc L (.int y :: .int x :: st) G D R kc kw Q := by
  intro p e s m args below meth c A Qc H locs ls cells slots C S ad hF hS hQ
  exact lv_ishr hF.1 hF.2.1 hd (k p e s m args below meth c A Qc H locs ls cells slots C S ad hF (hS.ps (xo_i (xo_t (xo_t hS.ok)))) hQ)
theorem ex_iushr {x y : Int32} (hd : decode μ.2.1 pc = .ok (.iushr, 1)) (k : Ex Γ l f μ (pc + 1) L (.int (x.toUInt32 >>> (y.toUInt32 &&& Int32.toUInt32 31)).toInt32 :: st) G D R kc kw Q) : Ex Γ l f μ pc L (.int y :: .int x :: st) G D R kc kw Q := by
  intro p e s m args below meth c A Qc H locs ls cells slots C S ad hF hS hQ
  exact lv_iushr hF.1 hF.2.1 hd rfl (k p e s m args below meth c A Qc H locs ls cells slots C S ad hF (hS.ps (xo_i (xo_t (xo_t hS.ok)))) hQ)
theorem ex_idiv {x y : Int32} (hd : decode μ.2.1 pc = .ok (.idiv, 1)) (hne : ¬ y = 0) (k : Ex Γ l f μ (pc + 1) L (.int (x / y) :: st) G D R kc kw Q) : Ex Γ l f μ pc L (.int y :: .int x :: st) G D R kc kw Q := by
  intro p e s m args below meth c A Qc H locs ls cells slots C S ad hF hS hQ
  exact lv_idiv hF.1 hF.2.1 hd hne (k p e s m args below meth c A Qc H locs ls cells slots C S ad hF (hS.ps (xo_i (xo_t (xo_t hS.ok)))) hQ)
theorem ex_irem {x y : Int32} (hd : decode μ.2.1 pc = .ok (.irem, 1)) (hne : ¬ y = 0) (k : Ex Γ l f μ (pc + 1) L (.int (x - x / y * y) :: st) G D R kc kw Q) : Ex Γ l f μ pc L (.int y :: .int x :: st) G D R kc kw Q := by
  intro p e s m args below meth c A Qc H locs ls cells slots C S ad hF hS hQ
  exact lv_irem hF.1 hF.2.1 hd hne (k p e s m args below meth c A Qc H locs ls cells slots C S ad hF (hS.ps (xo_i (xo_t (xo_t hS.ok)))) hQ)
theorem ex_i2b {x : Int32} (hd : decode μ.2.1 pc = .ok (.i2b, 1)) (k : Ex Γ l f μ (pc + 1) L (.int x.toInt8.toInt32 :: st) G D R kc kw Q) : Ex Γ l f μ pc L (.int x :: st) G D R kc kw Q := by
  intro p e s m args below meth c A Qc H locs ls cells slots C S ad hF hS hQ
  exact lv_i2b hF.1 hF.2.1 hd rfl (k p e s m args below meth c A Qc H locs ls cells slots C S ad hF (hS.ps (xo_i (xo_t hS.ok))) hQ)
theorem ex_i2c {x : Int32} (hd : decode μ.2.1 pc = .ok (.i2c, 1)) (k : Ex Γ l f μ (pc + 1) L (.int (x.toUInt32 % 65536).toInt32 :: st) G D R kc kw Q) : Ex Γ l f μ pc L (.int x :: st) G D R kc kw Q := by
  intro p e s m args below meth c A Qc H locs ls cells slots C S ad hF hS hQ
  exact lv_i2c hF.1 hF.2.1 hd rfl (k p e s m args below meth c A Qc H locs ls cells slots C S ad hF (hS.ps (xo_i (xo_t hS.ok))) hQ)
theorem ex_dup {v : Value} (hd : decode μ.2.1 pc = .ok (.dup, 1)) (k : Ex Γ l f μ (pc + 1) L (v :: v :: st) G D R kc kw Q) : Ex Γ l f μ pc L (v :: st) G D R kc kw Q := by
  intro p e s m args below meth c A Qc H locs ls cells slots C S ad hF hS hQ
  exact lv_dup hF.1 hF.2.1 hd (xok_cat (xo_h hS.ok) ad) (k p e s m args below meth c A Qc H locs ls cells slots C S ad hF (hS.ps (xo_c (xo_h hS.ok) hS.ok)) hQ)
theorem ex_dup2 {v w : Value} (hd : decode μ.2.1 pc = .ok (.dup2, 1)) (k : Ex Γ l f μ (pc + 1) L (v :: w :: v :: w :: st) G D R kc kw Q) : Ex Γ l f μ pc L (v :: w :: st) G D R kc kw Q := by
  intro p e s m args below meth c A Qc H locs ls cells slots C S ad hF hS hQ
  exact lv_dup2_11 hF.1 hF.2.1 hd (xok_cat (xo_h hS.ok) ad) (xok_cat (xo_h (xo_t hS.ok)) ad) (k p e s m args below meth c A Qc H locs ls cells slots C S ad hF (hS.ps (xo_c (xo_h hS.ok) (xo_c (xo_h (xo_t hS.ok)) hS.ok))) hQ)
theorem ex_pop {v : Value} (hd : decode μ.2.1 pc = .ok (.pop, 1)) (k : Ex Γ l f μ (pc + 1) L st G D R kc kw Q) : Ex Γ l f μ pc L (v :: st) G D R kc kw Q := by
  intro p e s m args below meth c A Qc H locs ls cells slots C S ad hF hS hQ
  exact lv_pop hF.1 hF.2.1 hd (xok_cat (xo_h hS.ok) ad) (k p e s m args below meth c A Qc H locs ls cells slots C S ad hF (hS.ps (xo_t hS.ok)) hQ)
theorem ex_goto {off : Int} (tgt : Nat) (hd : decode μ.2.1 pc = .ok (.goto off, 3)) (ht : (pc : Int) + off = (tgt : Int)) (k : Ex Γ l f μ tgt L st G D R kc kw Q) : Ex Γ l f μ pc L st G D R kc kw Q := by
  intro p e s m args below meth c A Qc H locs ls cells slots C S ad hF hS hQ
  exact lv_goto hF.1 hF.2.1 hd ht (k p e s m args below meth c A Qc H locs ls cells slots C S ad hF hS hQ)
theorem ex_if_eq {x : Int32} {off : Int} (tgt : Nat) (hd : decode μ.2.1 pc = .ok (.ifCond .eq off, 3)) (ht : (pc : Int) + off = (tgt : Int)) (kt : x = 0 → Ex Γ l f μ tgt L st G D R kc kw Q) (kf : ¬ (x = 0) → Ex Γ l f μ (pc + 3) L st G D R kc kw Q) : Ex Γ l f μ pc L (.int x :: st) G D R kc kw Q := by
  intro p e s m args below meth c A Qc H locs ls cells slots C S ad hF hS hQ
  exact lv_if_eq hF.1 hF.2.1 hd ht (fun h => kt (by simpa using h) p e s m args below meth c A Qc H locs ls cells slots C S ad hF (hS.ps (xo_t hS.ok)) hQ) (fun h => kf (by simpa using h) p e s m args below meth c A Qc H locs ls cells slots C S ad hF (hS.ps (xo_t hS.ok)) hQ)
theorem ex_icmp_eq {x y : Int32} {off : Int} (tgt : Nat) (hd : decode μ.2.1 pc = .ok (.if_icmp .eq off, 3)) (ht : (pc : Int) + off = (tgt : Int)) (kt : x = y → Ex Γ l f μ tgt L st G D R kc kw Q) (kf : ¬ (x = y) → Ex Γ l f μ (pc + 3) L st G D R kc kw Q) : Ex Γ l f μ pc L (.int y :: .int x :: st) G D R kc kw Q := by
  intro p e s m args below meth c A Qc H locs ls cells slots C S ad hF hS hQ
  exact lv_icmp_eq hF.1 hF.2.1 hd ht (fun h => kt (by simpa using h) p e s m args below meth c A Qc H locs ls cells slots C S ad hF (hS.ps (xo_t (xo_t hS.ok))) hQ) (fun h => kf (by simpa using h) p e s m args below meth c A Qc H locs ls cells slots C S ad hF (hS.ps (xo_t (xo_t hS.ok))) hQ)
theorem ex_if_ne {x : Int32} {off : Int} (tgt : Nat) (hd : decode μ.2.1 pc = .ok (.ifCond .ne off, 3)) (ht : (pc : Int) + off = (tgt : Int)) (kt : ¬ x = 0 → Ex Γ l f μ tgt L st G D R kc kw Q) (kf : ¬ (¬ x = 0) → Ex Γ l f μ (pc + 3) L st G D R kc kw Q) : Ex Γ l f μ pc L (.int x :: st) G D R kc kw Q := by
  intro p e s m args below meth c A Qc H locs ls cells slots C S ad hF hS hQ
  exact lv_if_ne hF.1 hF.2.1 hd ht (fun h => kt (by simpa using h) p e s m args below meth c A Qc H locs ls cells slots C S ad hF (hS.ps (xo_t hS.ok)) hQ) (fun h => kf (by simpa using h) p e s m args below meth c A Qc H locs ls cells slots C S ad hF (hS.ps (xo_t hS.ok)) hQ)
theorem ex_icmp_ne {x y : Int32} {off : Int} (tgt : Nat) (hd : decode μ.2.1 pc = .ok (.if_icmp .ne off, 3)) (ht : (pc : Int) + off = (tgt : Int)) (kt : ¬ x = y → Ex Γ l f μ tgt L st G D R kc kw Q) (kf : ¬ (¬ x = y) → Ex Γ l f μ (pc + 3) L st G D R kc kw Q) : Ex Γ l f μ pc L (.int y :: .int x :: st) G D R kc kw Q := by
  intro p e s m args below meth c A Qc H locs ls cells slots C S ad hF hS hQ
  exact lv_icmp_ne hF.1 hF.2.1 hd ht (fun h => kt (by simpa using h) p e s m args below meth c A Qc H locs ls cells slots C S ad hF (hS.ps (xo_t (xo_t hS.ok))) hQ) (fun h => kf (by simpa using h) p e s m args below meth c A Qc H locs ls cells slots C S ad hF (hS.ps (xo_t (xo_t hS.ok))) hQ)
theorem ex_if_lt {x : Int32} {off : Int} (tgt : Nat) (hd : decode μ.2.1 pc = .ok (.ifCond .lt off, 3)) (ht : (pc : Int) + off = (tgt : Int)) (kt : x < 0 → Ex Γ l f μ tgt L st G D R kc kw Q) (kf : ¬ (x < 0) → Ex Γ l f μ (pc + 3) L st G D R kc kw Q) : Ex Γ l f μ pc L (.int x :: st) G D R kc kw Q := by
  intro p e s m args below meth c A Qc H locs ls cells slots C S ad hF hS hQ
  exact lv_if_lt hF.1 hF.2.1 hd ht (fun h => kt (by simpa using h) p e s m args below meth c A Qc H locs ls cells slots C S ad hF (hS.ps (xo_t hS.ok)) hQ) (fun h => kf (by simpa using h) p e s m args below meth c A Qc H locs ls cells slots C S ad hF (hS.ps (xo_t hS.ok)) hQ)
theorem ex_icmp_lt {x y : Int32} {off : Int} (tgt : Nat) (hd : decode μ.2.1 pc = .ok (.if_icmp .lt off, 3)) (ht : (pc : Int) + off = (tgt : Int)) (kt : x < y → Ex Γ l f μ tgt L st G D R kc kw Q) (kf : ¬ (x < y) → Ex Γ l f μ (pc + 3) L st G D R kc kw Q) : Ex Γ l f μ pc L (.int y :: .int x :: st) G D R kc kw Q := by
  intro p e s m args below meth c A Qc H locs ls cells slots C S ad hF hS hQ
  exact lv_icmp_lt hF.1 hF.2.1 hd ht (fun h => kt (by simpa using h) p e s m args below meth c A Qc H locs ls cells slots C S ad hF (hS.ps (xo_t (xo_t hS.ok))) hQ) (fun h => kf (by simpa using h) p e s m args below meth c A Qc H locs ls cells slots C S ad hF (hS.ps (xo_t (xo_t hS.ok))) hQ)
theorem ex_if_ge {x : Int32} {off : Int} (tgt : Nat) (hd : decode μ.2.1 pc = .ok (.ifCond .ge off, 3)) (ht : (pc : Int) + off = (tgt : Int)) (kt : 0 ≤ x → Ex Γ l f μ tgt L st G D R kc kw Q) (kf : ¬ (0 ≤ x) → Ex Γ l f μ (pc + 3) L st G D R kc kw Q) : Ex Γ l f μ pc L (.int x :: st) G D R kc kw Q := by
  intro p e s m args below meth c A Qc H locs ls cells slots C S ad hF hS hQ
  exact lv_if_ge hF.1 hF.2.1 hd ht (fun h => kt (by simpa using h) p e s m args below meth c A Qc H locs ls cells slots C S ad hF (hS.ps (xo_t hS.ok)) hQ) (fun h => kf (by simpa using h) p e s m args below meth c A Qc H locs ls cells slots C S ad hF (hS.ps (xo_t hS.ok)) hQ)
theorem ex_icmp_ge {x y : Int32} {off : Int} (tgt : Nat) (hd : decode μ.2.1 pc = .ok (.if_icmp .ge off, 3)) (ht : (pc : Int) + off = (tgt : Int)) (kt : y ≤ x → Ex Γ l f μ tgt L st G D R kc kw Q) (kf : ¬ (y ≤ x) → Ex Γ l f μ (pc + 3) L st G D R kc kw Q) : Ex Γ l f μ pc L (.int y :: .int x :: st) G D R kc kw Q := by
  intro p e s m args below meth c A Qc H locs ls cells slots C S ad hF hS hQ
  exact lv_icmp_ge hF.1 hF.2.1 hd ht (fun h => kt (by simpa using h) p e s m args below meth c A Qc H locs ls cells slots C S ad hF (hS.ps (xo_t (xo_t hS.ok))) hQ) (fun h => kf (by simpa using h) p e s m args below meth c A Qc H locs ls cells slots C S ad hF (hS.ps (xo_t (xo_t hS.ok))) hQ)
theorem ex_if_gt {x : Int32} {off : Int} (tgt : Nat) (hd : decode μ.2.1 pc = .ok (.ifCond .gt off, 3)) (ht : (pc : Int) + off = (tgt : Int)) (kt : 0 < x → Ex Γ l f μ tgt L st G D R kc kw Q) (kf : ¬ (0 < x) → Ex Γ l f μ (pc + 3) L st G D R kc kw Q) : Ex Γ l f μ pc L (.int x :: st) G D R kc kw Q := by
  intro p e s m args below meth c A Qc H locs ls cells slots C S ad hF hS hQ
  exact lv_if_gt hF.1 hF.2.1 hd ht (fun h => kt (by simpa using h) p e s m args below meth c A Qc H locs ls cells slots C S ad hF (hS.ps (xo_t hS.ok)) hQ) (fun h => kf (by simpa using h) p e s m args below meth c A Qc H locs ls cells slots C S ad hF (hS.ps (xo_t hS.ok)) hQ)
theorem ex_icmp_gt {x y : Int32} {off : Int} (tgt : Nat) (hd : decode μ.2.1 pc = .ok (.if_icmp .gt off, 3)) (ht : (pc : Int) + off = (tgt : Int)) (kt : y < x → Ex Γ l f μ tgt L st G D R kc kw Q) (kf : ¬ (y < x) → Ex Γ l f μ (pc + 3) L st G D R kc kw Q) : Ex Γ l f μ pc L (.int y :: .int x :: st) G D R kc kw Q := by
  intro p e s m args below meth c A Qc H locs ls cells slots C S ad hF hS hQ
  exact lv_icmp_gt hF.1 hF.2.1 hd ht (fun h => kt (by simpa using h) p e s m args below meth c A Qc H locs ls cells slots C S ad hF (hS.ps (xo_t (xo_t hS.ok))) hQ) (fun h => kf (by simpa using h) p e s m args below meth c A Qc H locs ls cells slots C S ad hF (hS.ps (xo_t (xo_t hS.ok))) hQ)
theorem ex_if_le {x : Int32} {off : Int} (tgt : Nat) (hd : decode μ.2.1 pc = .ok (.ifCond .le off, 3)) (ht : (pc : Int) + off = (tgt : Int)) (kt : x ≤ 0 → Ex Γ l f μ tgt L st G D R kc kw Q) (kf : ¬ (x ≤ 0) → Ex Γ l f μ (pc + 3) L st G D R kc kw Q) : Ex Γ l f μ pc L (.int x :: st) G D R kc kw Q := by
  intro p e s m args below meth c A Qc H locs ls cells slots C S ad hF hS hQ
  exact lv_if_le hF.1 hF.2.1 hd ht (fun h => kt (by simpa using h) p e s m args below meth c A Qc H locs ls cells slots C S ad hF (hS.ps (xo_t hS.ok)) hQ) (fun h => kf (by simpa using h) p e s m args below meth c A Qc H locs ls cells slots C S ad hF (hS.ps (xo_t hS.ok)) hQ)
theorem ex_icmp_le {x y : Int32} {off : Int} (tgt : Nat) (hd : decode μ.2.1 pc = .ok (.if_icmp .le off, 3)) (ht : (pc : Int) + off = (tgt : Int)) (kt : x ≤ y → Ex Γ l f μ tgt L st G D R kc kw Q) (kf : ¬ (x ≤ y) → Ex Γ l f μ (pc + 3) L st G D R kc kw Q) : Ex Γ l f μ pc L (.int y :: .int x :: st) G D R kc kw Q := by
  intro p e s m args below meth c A Qc H locs ls cells slots C S ad hF hS hQ
  exact lv_icmp_le hF.1 hF.2.1 hd ht (fun h => kt (by simpa using h) p e s m args below meth c A Qc H locs ls cells slots C S ad hF (hS.ps (xo_t (xo_t hS.ok))) hQ) (fun h => kf (by simpa using h) p e s m args below meth c A Qc H locs ls cells slots C S ad hF (hS.ps (xo_t (xo_t hS.ok))) hQ)
theorem ex_ifnull {q : Nat} {off : Int} (hd : decode μ.2.1 pc = .ok (.ifnull off, 3)) (k : Ex Γ l f μ (pc + 3) L st G D R kc kw Q) : Ex Γ l f μ pc L (.ref q :: st) G D R kc kw Q := by
  intro p e s m args below meth c A Qc H locs ls cells slots C S ad hF hS hQ
  exact lv_ifnull hF.1 hF.2.1 hd (k p e s m args below meth c A Qc H locs ls cells slots C S ad hF (hS.ps (xo_t hS.ok)) hQ)
theorem ex_ifnullN {off : Int} (tgt : Nat) (hd : decode μ.2.1 pc = .ok (.ifnull off, 3)) (ht : (pc : Int) + off = (tgt : Int)) (k : Ex Γ l f μ tgt L st G D R kc kw Q) : Ex Γ l f μ pc L (.null :: st) G D R kc kw Q := by
  intro p e s m args below meth c A Qc H locs ls cells slots C S ad hF hS hQ
  exact lv_ifnullN hF.1 hF.2.1 hd ht (k p e s m args below meth c A Qc H locs ls cells slots C S ad hF (hS.ps (xo_t hS.ok)) hQ)
theorem ex_ifnonnull {q : Nat} {off : Int} (tgt : Nat) (hd : decode μ.2.1 pc = .ok (.ifnonnull off, 3)) (ht : (pc : Int) + off = (tgt : Int)) (k : Ex Γ l f μ tgt L st G D R kc kw Q) : Ex Γ l f μ pc L (.ref q :: st) G D R kc kw Q := by
  intro p e s m args below meth c A Qc H locs ls cells slots C S ad hF hS hQ
  exact lv_ifnonnull hF.1 hF.2.1 hd ht (k p e s m args below meth c A Qc H locs ls cells slots C S ad hF (hS.ps (xo_t hS.ok)) hQ)
theorem ex_ifnonnullN {off : Int} (hd : decode μ.2.1 pc = .ok (.ifnonnull off, 3)) (k : Ex Γ l f μ (pc + 3) L st G D R kc kw Q) : Ex Γ l f μ pc L (.null :: st) G D R kc kw Q := by
  intro p e s m args below meth c A Qc H locs ls cells slots C S ad hF hS hQ
  exact lv_ifnonnullN hF.1 hF.2.1 hd (k p e s m args below meth c A Qc H locs ls cells slots C S ad hF (hS.ps (xo_t hS.ok)) hQ)
theorem ex_tableOut {dflt lo hi : Int} {offs : Array Int} {len : Nat} {x : Int32} (tgt : Nat) (hd : decode μ.2.1 pc = .ok (.tableswitch dflt lo hi offs, len)) (h : x.toInt < lo ∨ hi < x.toInt) (ht : (pc : Int) + dflt = (tgt : Int)) (k : Ex Γ l f μ tgt L st G D R kc kw Q) : Ex Γ l f μ pc L (.int x :: st) G D R kc kw Q := by
  intro p e s m args below meth c A Qc H locs ls cells slots C S ad hF hS hQ
  exact lv_tableOut hF.1 hF.2.1 hd h ht (k p e s m args below meth c A Qc H locs ls cells slots C S ad hF (hS.ps (xo_t hS.ok)) hQ)
theorem ex_tableIn {dflt lo hi : Int} {offs : Array Int} {len : Nat} {x : Int32} {off : Int} (tgt : Nat) (hd : decode μ.2.1 pc = .ok (.tableswitch dflt lo hi offs, len)) (h1 : ¬ x.toInt < lo) (h2 : ¬ hi < x.toInt) (ho : offs[(x.toInt - lo).toNat]? = some off) (ht : (pc : Int) + off = (tgt : Int)) (k : Ex Γ l f μ tgt L st G D R kc kw Q) : Ex Γ l f μ pc L (.int x :: st) G D R kc kw Q := by
  intro p e s m args below meth c A Qc H locs ls cells slots C S ad hF hS hQ
  exact lv_tableIn hF.1 hF.2.1 hd h1 h2 ho ht (k p e s m args below meth c A Qc H locs ls cells slots C S ad hF (hS.ps (xo_t hS.ok)) hQ)
/-! locals -/
theorem xL.has {ls : Array Slot} {n : Nat} {ad : Nat → Nat} (h : xL ls n ad L) {i : Nat} {v : Value} (hi : L[i]? = some (some v)) : ls[i]? = some (.val (xtv ad v)) := h.2.2.2 i v hi
def xLa (ad : Nat → Nat) (L : List (Option Value)) : List (Nat × Value) := (List.range L.length).filterMap (fun i => match L[i]? with | some (some v) => some (i, xtv ad v) | _ => none)
theorem xLa_in {ad : Nat → Nat} {i : Nat} {v : Value} (h : L[i]? = some (some v)) : (i, xtv ad v) ∈ xLa ad L := by
  refine List.mem_filterMap.mpr ⟨i, List.mem_range.mpr (List.getElem?_eq_some_iff.mp h).1, ?_⟩
  rw [h]
theorem xLa_of {ad : Nat → Nat} {q : Nat × Value} (h : q ∈ xLa ad L) : ∃ v, L[q.1]? = some (some v) ∧ q.2 = xtv ad v := by
  obtain ⟨i, -, hi⟩ := List.mem_filterMap.mp h
  split at hi
  next v hv =>
    cases hi
    exact ⟨v, hv, rfl⟩
  next => cases hi
theorem xL.to {ls : Array Slot} {n : Nat} {ad : Nat → Nat} (h : xL ls n ad L) : lv_has ls n (xLa ad L) := ⟨h.1, h.2.1, fun q hq => by
  obtain ⟨v, h1, h2⟩ := xLa_of hq
  rw [h2]
  exact h.2.2.2 _ v h1⟩
theorem xL.store {ls ls' : Array Slot} {n : Nat} {ad : Nat → Nat} {i : Nat} {v : Value} (h : xL ls n ad L) (hok : ∀ v, some v ∈ L → xok G v) (h' : lv_has ls' n ((i, xtv ad v) :: (xLa ad L).filter (fun q => !(q.1 == i) && !(q.1 + 1 == i && q.2.category == 2)))) : xL ls' n ad (L.set i (some v)) := by
  refine ⟨h'.1, h'.2.1, by rw [List.length_set]; exact h.2.2.1, fun j w hj => ?_⟩
  rw [List.getElem?_set] at hj
  by_cases hij : i = j
  · subst hij
    rw [if_pos rfl] at hj
    split at hj
    next =>
      cases hj
      exact h'.2.2 (i, xtv ad v) List.mem_cons_self
    next => cases hj
  · rw [if_neg hij] at hj
    refine h'.2.2 (j, xtv ad w) (List.mem_cons_of_mem _ (List.mem_filter.mpr ⟨xLa_in hj, ?_⟩))
    have hc := xok_cat (hok w (List.mem_of_getElem? hj)) ad
    simp [hc, Ne.symm hij]
theorem xS.lset {s : State} {A : Nat → Prop} {ad : Nat → Nat} {H : Heap} {locs : List Loc} {ls ls' : Array Slot} {cells slots C S : Nat} {i : Nat} {v : Value} (h : xS Γ μ s A ad L (v :: st) G D R H locs ls cells slots C S kc kw) (h' : lv_has ls' μ.2.2.1 ((i, xtv ad v) :: (xLa ad L).filter (fun q => !(q.1 == i) && !(q.1 + 1 == i && q.2.category == 2)))) : xS Γ μ s A ad (L.set i (some v)) st G D R H locs ls' cells slots C S kc kw :=
  ⟨h.1, h.2.1, h.2.2.1, h.2.2.2.1.store h.2.2.2.2.1 h', fun w hw => by
    rcases List.mem_or_eq_of_mem_set hw with hw | hw
    · exact h.2.2.2.2.1 w hw
    · cases hw
      exact xo_h h.ok, xo_t h.ok, h.2.2.2.2.2.2⟩
theorem ex_iload_n {k : Fin 4} {x : Int32} (hd : decode μ.2.1 pc = .ok (.iload_n k, 1)) (hl : L[(k : Nat)]? = some (some (.int x))) (kk : Ex Γ l f μ (pc + 1) L (.int x :: st) G D R kc kw Q) : Ex Γ l f μ pc L st G D R kc kw Q := by
  intro p e s m args below meth c A Qc H locs ls cells slots C S ad hF hS hQ
  exact lv_iload_n hF.1 hF.2.1 hd rfl (hS.2.2.2.1.has hl) (kk p e s m args below meth c A Qc H locs ls cells slots C S ad hF (hS.ps (xo_i hS.ok)) hQ)
theorem ex_iload {i : Nat} {x : Int32} (hd : decode μ.2.1 pc = .ok (.iload i, 2)) (hl : L[i]? = some (some (.int x))) (kk : Ex Γ l f μ (pc + 2) L (.int x :: st) G D R kc kw Q) : Ex Γ l f μ pc L st G D R kc kw Q := by
  intro p e s m args below meth c A Qc H locs ls cells slots C S ad hF hS hQ
  exact lv_iload hF.1 hF.2.1 hd (hS.2.2.2.1.has hl) (kk p e s m args below meth c A Qc H locs ls cells slots C S ad hF (hS.ps (xo_i hS.ok)) hQ)
theorem ex_aload_n {k : Fin 4} {v : Value} (hd : decode μ.2.1 pc = .ok (.aload_n k, 1)) (hl : L[(k : Nat)]? = some (some v)) (hv : ∀ x : Int32, v ≠ .int x) (kk : Ex Γ l f μ (pc + 1) L (v :: st) G D R kc kw Q) : Ex Γ l f μ pc L st G D R kc kw Q := by
  intro p e s m args below meth c A Qc H locs ls cells slots C S ad hF hS hQ
  have hok : xok G v := hS.2.2.2.2.1 v (List.mem_of_getElem? hl)
  have h1 := hS.2.2.2.1.has hl
  have h2 := kk p e s m args below meth c A Qc H locs ls cells slots C S ad hF (hS.ps (xo_c hok hS.ok)) hQ
  cases v with
  | ref q => exact lv_aload_n hF.1 hF.2.1 hd rfl h1 h2
  | null => exact lv_aload_nN hF.1 hF.2.1 hd rfl h1 h2
  | int x => exact absurd rfl (hv x)
  | _ => exact hok.elim
theorem ex_aload {i : Nat} {v : Value} (hd : decode μ.2.1 pc = .ok (.aload i, 2)) (hl : L[i]? = some (some v)) (hv : ∀ x : Int32, v ≠ .int x) (kk : Ex Γ l f μ (pc + 2) L (v :: st) G D R kc kw Q) : Ex Γ l f μ pc L st G D R kc kw Q := by
  intro p e s m args below meth c A Qc H locs ls cells slots C S ad hF hS hQ
  have hok : xok G v := hS.2.2.2.2.1 v (List.mem_of_getElem? hl)
  have h1 := hS.2.2.2.1.has hl
  have h2 := kk p e s m args below meth c A Qc H locs ls cells slots C S ad hF (hS.ps (xo_c hok hS.ok)) hQ
  cases v with
  | ref q => exact lv_aload hF.1 hF.2.1 hd h1 h2
  | null => exact lv_aloadN hF.1 hF.2.1 hd h1 h2
  | int x => exact absurd rfl (hv x)
  | _ => exact hok.elim
theorem xS.lt {s : State} {A : Nat → Prop} {ad : Nat → Nat} {H : Heap} {locs : List Loc} {ls : Array Slot} {cells slots C S : Nat} (h : xS Γ μ s A ad L st G D R H locs ls cells slots C S kc kw) {i : Nat} (hi : i < L.length) : i < μ.2.2.1 := by rw [← h.2.2.2.1.2.2.1]; exact hi
theorem ex_istore_n {k : Fin 4} {x : Int32} (hd : decode μ.2.1 pc = .ok (.istore_n k, 1)) (hi : (k : Nat) < L.length) (kk : Ex Γ l f μ (pc + 1) (L.set (k : Nat) (some (.int x))) st G D R kc kw Q) : Ex Γ l f μ pc L (.int x :: st) G D R kc kw Q := by
  intro p e s m args below meth c A Qc H locs ls cells slots C S ad hF hS hQ
  exact lv_istore_n hF.1 hF.2.1 hd rfl hS.2.2.2.1.to (hS.lt hi) rfl (fun ls' h' => kk p e s m args below meth c A Qc H locs ls' cells slots C S ad hF (hS.lset (v := .int x) h') hQ)
theorem ex_istore {i : Nat} {x : Int32} (hd : decode μ.2.1 pc = .ok (.istore i, 2)) (hi : i < L.length) (kk : Ex Γ l f μ (pc + 2) (L.set i (some (.int x))) st G D R kc kw Q) : Ex Γ l f μ pc L (.int x :: st) G D R kc kw Q := by
  intro p e s m args below meth c A Qc H locs ls cells slots C S ad hF hS hQ
  exact lv_istore hF.1 hF.2.1 hd hS.2.2.2.1.to (hS.lt hi) rfl (fun ls' h' => kk p e s m args below meth c A Qc H locs ls' cells slots C S ad hF (hS.lset (v := .int x) h') hQ)
theorem ex_astore_n {k : Fin 4} {v : Value} (hd : decode μ.2.1 pc = .ok (.astore_n k, 1)) (hi : (k : Nat) < L.length) (hv : ∀ x : Int32, v ≠ .int x) (kk : Ex Γ l f μ (pc + 1) (L.set (k : Nat) (some v)) st G D R kc kw Q) : Ex Γ l f μ pc L (v :: st) G D R kc kw Q := by
  intro p e s m args below meth c A Qc H locs ls cells slots C S ad hF hS hQ
  have hok : xok G v := xo_h hS.ok
  cases v with
  | ref q => exact lv_astore_n hF.1 hF.2.1 hd rfl hS.2.2.2.1.to (hS.lt hi) rfl (fun ls' h' => kk p e s m args below meth c A Qc H locs ls' cells slots C S ad hF (hS.lset (v := .ref q) h') hQ)
  | null => exact lv_astore_nN hF.1 hF.2.1 hd rfl hS.2.2.2.1.to (hS.lt hi) rfl (fun ls' h' => kk p e s m args below meth c A Qc H locs ls' cells slots C S ad hF (hS.lset (v := .null) h') hQ)
  | int x => exact absurd rfl (hv x)
  | _ => exact hok.elim
theorem ex_astore {i : Nat} {v : Value} (hd : decode μ.2.1 pc = .ok (.astore i, 2)) (hi : i < L.length) (hv : ∀ x : Int32, v ≠ .int x) (kk : Ex Γ l f μ (pc + 2) (L.set i (some v)) st G D R kc kw Q) : Ex Γ l f μ pc L (v :: st) G D R kc kw Q := by
  intro p e s m args below meth c A Qc H locs ls cells slots C S ad hF hS hQ
  have hok : xok G v := xo_h hS.ok
  cases v with
  | ref q => exact lv_astore hF.1 hF.2.1 hd hS.2.2.2.1.to (hS.lt hi) rfl (fun ls' h' => kk p e s m args below meth c A Qc H locs ls' cells slots C S ad hF (hS.lset (v := .ref q) h') hQ)
  | null => exact lv_astoreN hF.1 hF.2.1 hd hS.2.2.2.1.to (hS.lt hi) rfl (fun ls' h' => kk p e s m args below meth c A Qc H locs ls' cells slots C S ad hF (hS.lset (v := .null) h') hQ)
  | int x => exact absurd rfl (hv x)
  | _ => exact hok.elim
theorem xo_lset {i : Nat} {v : Value} (hv : xok G v) (h : ∀ v, some v ∈ L → xok G v) : ∀ w, some w ∈ L.set i (some v) → xok G w := fun w hw => by
  rcases List.mem_or_eq_of_mem_set hw with hw | hw
  · exact h w hw
  · cases hw
    exact hv
theorem ex_iinc {i : Nat} {n : Int} {x v : Int32} (hd : decode μ.2.1 pc = .ok (.iinc i n, 3)) (hl : L[i]? = some (some (.int x))) (hv : x + Int32.ofInt n = v) (kk : Ex Γ l f μ (pc + 3) (L.set i (some (.int v))) st G D R kc kw Q) : Ex Γ l f μ pc L st G D R kc kw Q := by
  intro p e s m args below meth c A Qc H locs ls cells slots C S ad hF hS hQ
  obtain ⟨j, hj⟩ := List.getElem?_of_mem (xLa_in (ad := ad) hl)
  have hlt : i < μ.2.2.1 := hS.lt (List.getElem?_eq_some_iff.mp hl).1
  exact lv_iinc hF.1 hF.2.1 hd hS.2.2.2.1.to hj hv hlt rfl (fun ls' h' => kk p e s m args below meth c A Qc H locs ls' cells slots C S ad hF ((hS.ps (xo_i hS.ok) (st' := .int v :: st)).lset (v := .int v) h') hQ)
/-! ends -/
theorem xS.fin {s : State} {A : Nat → Prop} {ad : Nat → Nat} {H : Heap} {locs : List Loc} {ls : Array Slot} {cells slots C S : Nat} {args : Array Value} {Qc : Array Value → State → Outcome → State → Prop} {v : Option Value} (h : xS Γ μ s A ad L st G D R H locs ls cells slots C S kc kw) (hQ : xQ Γ s A args Qc ad G kc Q) (hv : ∀ w, v = some w → xok G w) (hq : Q v G D R) : ∀ t : State, t.heap = H → s.WarmedH t.vm → Qc args s (.returned (v.map (xtv ad))) t := fun t ht _ =>
  hQ ad v G D R t (fun _ _ => rfl) (Nat.le_refl _) (Nat.le_add_right _ _) hv h.2.2.1 hq (by rw [ht]; exact h.1.1) h.1.2.1 (h.1.2.2.F ht)
theorem ex_iret {x : Int32} (hd : decode μ.2.1 pc = .ok (.ireturn, 1)) (hr : μ.2.2.2 = some .int) (hq : Q (some (.int x)) G D R) : Ex Γ l f μ pc L [.int x] G D R kc kw Q := by
  intro p e s m args below meth c A Qc H locs ls cells slots C S ad hF hS hQ
  have hlocks := hF.2.2.2.2.2.1
  exact W.widen (Nat.le_trans (Nat.le_add_right _ _) hS.2.2.2.2.2.2.2.1) (Nat.le_trans (Nat.le_add_right _ _) hS.2.2.2.2.2.2.2.2) (W.iret hF.1 hF.2.1 (hF.2.2.2.2.2.2.1.trans hr) (hS.fin hQ (v := some (.int x)) (fun w h => by cases h; trivial) hq) hS.1.2.2.2.2 hd)
theorem ex_zret {x : Int32} {ty : FieldType} (hd : decode μ.2.1 pc = .ok (.ireturn, 1)) (hr : μ.2.2.2 = some ty) (hn : narrow ty (.int x) = .int x) (hq : Q (some (.int x)) G D R) : Ex Γ l f μ pc L [.int x] G D R kc kw Q := by
  intro p e s m args below meth c A Qc H locs ls cells slots C S ad hF hS hQ
  have hlocks := hF.2.2.2.2.2.1
  exact W.widen (Nat.le_trans (Nat.le_add_right _ _) hS.2.2.2.2.2.2.2.1) (Nat.le_trans (Nat.le_add_right _ _) hS.2.2.2.2.2.2.2.2) (W.zret hF.1 hF.2.1 (hF.2.2.2.2.2.2.1.trans hr) hn (hS.fin hQ (v := some (.int x)) (fun w h => by cases h; trivial) hq) hS.1.2.2.2.2 hd)
theorem ex_vret (hd : decode μ.2.1 pc = .ok (.return_, 1)) (hr : μ.2.2.2 = none) (hq : Q none G D R) : Ex Γ l f μ pc L [] G D R kc kw Q := by
  intro p e s m args below meth c A Qc H locs ls cells slots C S ad hF hS hQ
  have hlocks := hF.2.2.2.2.2.1
  exact W.widen (Nat.le_trans (Nat.le_add_right _ _) hS.2.2.2.2.2.2.2.1) (Nat.le_trans (Nat.le_add_right _ _) hS.2.2.2.2.2.2.2.2) (W.vret hF.1 hF.2.1 (hF.2.2.2.2.2.2.1.trans hr) (hS.fin hQ (v := none) (fun w h => by cases h) hq) hS.1.2.2.2.2 hd)
theorem ex_aret {v : Value} {n : String} (hd : decode μ.2.1 pc = .ok (.areturn, 1)) (hr : μ.2.2.2 = some (.object n)) (hv : ∀ x : Int32, v ≠ .int x) (hq : Q (some v) G D R) : Ex Γ l f μ pc L [v] G D R kc kw Q := by
  intro p e s m args below meth c A Qc H locs ls cells slots C S ad hF hS hQ
  have hlocks := hF.2.2.2.2.2.1
  have hok : xok G v := xo_h hS.ok
  refine W.widen (Nat.le_trans (Nat.le_add_right _ _) hS.2.2.2.2.2.2.2.1) (Nat.le_trans (Nat.le_add_right _ _) hS.2.2.2.2.2.2.2.2) (W.aret hF.1 hF.2.1 (hF.2.2.2.2.2.2.1.trans hr) (Or.inl ⟨n, rfl⟩) ?_ (hS.fin hQ (v := some v) (fun w h => by cases h; exact hok) hq) hS.1.2.2.2.2 hd)
  cases v with
  | ref q => exact Or.inr ⟨_, rfl⟩
  | null => exact Or.inl rfl
  | int x => exact absurd rfl (hv x)
  | _ => exact hok.elim
end XR
end
section
/-! ===== ROWS OF THE PURE WALK: fields, arrays, new cells ===== -/
def xis (G : xG) (q c : Nat) : Prop := q < G.1 ∧ G.2 q = (c, 0)
def xia (G : xG) (q t n : Nat) : Prop := q < G.1 ∧ G.2 q = (16 + t, n)
theorem upd_self (d : Nat → Int32) (k : Nat) (x : Int32) : upd d k x k = x := by simp [upd]
theorem upd_ne (d : Nat → Int32) {k j : Nat} (x : Int32) (h : j ≠ k) : upd d k x j = d j := by simp [upd, h]
theorem xdu_self (D : xD) (q k : Nat) (x : Int32) : xdu D q k x q = upd (D q) k x := by simp [xdu]
theorem xdu_ne (D : xD) {q q' : Nat} (k : Nat) (x : Int32) (h : q' ≠ q) : xdu D q k x q' = D q' := by simp [xdu, h]
theorem xru_self (R : xR) (q k : Nat) (o : Option Nat) : xru R q k o q = va_up (R q) k o := by simp [xru]
theorem xru_ne (R : xR) {q q' : Nat} (k : Nat) (o : Option Nat) (h : q' ≠ q) : xru R q k o q' = R q' := by simp [xru, h]
section XC
variable {Γ : xGm} {l : Launch} {f : Nat} {μ : xMt} {pc : Nat} {L : List (Option Value)} {st : List Value} {G : xG} {D : xD} {R : xR} {kc kw : Nat} {Q : Option Value → xG → xD → xR → Prop}
theorem xis_cell {tA : Nat → ClassId} {ad : Nat → Nat} {q c : Nat} (h : xis G q c) (hc : c < 16) : (xW tA ad G D R)[q]? = some (ad q, .inr (c, (List.range (xnf c)).map (xfv ad c (D q) (R q)))) := by
  rw [xW_at tA ad D R h.1, h.2, xcell_o (k := (c, 0)) hc]
theorem xia_i {tA : Nat → ClassId} {ad : Nat → Nat} {q t n : Nat} (h : xia G q t n) (ht : t < 3) : (xW tA ad G D R)[q]? = some (ad q, .inl (tA t, n, .inl (D q))) := by
  rw [xW_at tA ad D R h.1, h.2, xcell_i t n ht]
theorem xia_q {tA : Nat → ClassId} {ad : Nat → Nat} {q t n : Nat} (h : xia G q t n) (ht : 3 ≤ t) : (xW tA ad G D R)[q]? = some (ad q, .inl (tA t, n, .inr (.inr (.inr (.inr (fun j => (R q j).map ad)))))) := by
  rw [xW_at tA ad D R h.1, h.2, xcell_q t n ht]
theorem xtys (Γ : xGm) {t : Nat} (h : t < 7) : ((List.range 7).map (fun t => (Γ.2.1 t, xAt t)))[t]? = some (Γ.2.1 t, xAt t) := by simp [h]
/-- getfield of a number -/
theorem ex_geti {q idx c k : Nat} {C : String} {T : u_T} {N : Nat} (hd : decode μ.2.1 pc = .ok (.getfield idx, 3)) (hc : vwCl[c]? = some (C, T, N)) (hin : ∀ w ∈ u_ws C T N, w ∈ xT) (hk : k < N) (hN : N = xnf c) (hc16 : c < 16) (hl : Cond.fieldLink μ.1.cls idx (T k).1 (T k).2.1 (T k).2.2.1 ∈ xT) (hr : xisRf (xTy c k) = false) (hq : xis G q c)
    (kk : Ex Γ l f μ (pc + 3) L (.int (D q k) :: st) G D R kc kw Q) : Ex Γ l f μ pc L (.ref q :: st) G D R kc kw Q := by
  intro p e s m args below meth c0 A Qc H locs ls cells slots C0 S ad hF hS hQ
  obtain ⟨hx, hb, hml, hown, hts, hlk, hrt, hnm, hK, hE, hA⟩ := id hF
  refine va_get hx hb hts hin hown hK hS.1.1 q (xis_cell hq hc16) hc k hk (hts _ hl) (fun _ h => h) (v := .int (D q k)) ?_ hd (kk p e s m args below meth c0 A Qc H locs ls cells slots C0 S ad hF (hS.ps (xo_i (xo_t hS.ok))) hQ)
  rw [xfs_at ad c (D q) (R q) (by omega)]
  simp [xfv, hr]
/-- getfield of a reference -/
theorem ex_getr {q idx c k : Nat} {C : String} {T : u_T} {N : Nat} (hd : decode μ.2.1 pc = .ok (.getfield idx, 3)) (hc : vwCl[c]? = some (C, T, N)) (hin : ∀ w ∈ u_ws C T N, w ∈ xT) (hk : k < N) (hN : N = xnf c) (hc16 : c < 16) (hl : Cond.fieldLink μ.1.cls idx (T k).1 (T k).2.1 (T k).2.2.1 ∈ xT) (hr : xisRf (xTy c k) = true) {o : Option Nat} (ho : R q k = o) (hq : xis G q c)
    (kk : Ex Γ l f μ (pc + 3) L (xrv o :: st) G D R kc kw Q) : Ex Γ l f μ pc L (.ref q :: st) G D R kc kw Q := by
  intro p e s m args below meth c0 A Qc H locs ls cells slots C0 S ad hF hS hQ
  obtain ⟨hx, hb, hml, hown, hts, hlk, hrt, hnm, hK, hE, hA⟩ := id hF
  subst ho
  refine va_get hx hb hts hin hown hK hS.1.1 q (xis_cell hq hc16) hc k hk (hts _ hl) (fun _ h => h) (v := xtv ad (xrv (R q k))) ?_ hd (kk p e s m args below meth c0 A Qc H locs ls cells slots C0 S ad hF (hS.ps (xo_c (xok_rv hS.2.2.1 q k) (xo_t hS.ok))) hQ)
  rw [xfs_at ad c (D q) (R q) (by omega)]
  simp [xfv, hr, xtv_rv]
theorem xset_o {tA : Nat → ClassId} {ad : Nat → Nat} {q c k : Nat} {v : Value} {D' : xD} {R' : xR} (hq : xis G q c) (hc : c < 16) (hoD : ∀ i, i ≠ q → D' i = D i ∧ R' i = R i) (hoF : ∀ j, j ≠ k → D' q j = D q j ∧ R' q j = R q j) (hv : v = xfv ad c (D' q) (R' q) k) : (xW tA ad G D R).set q (ad q, .inr (c, ((List.range (xnf c)).map (xfv ad c (D q) (R q))).set k v)) = xW tA ad G D' R' := by
  refine xW_set hq.1 hoD ?_
  rw [hq.2, xcell_o (k := (c, 0)) hc, xfs_set hoF hv]
theorem xdu_o (D : xD) (R : xR) (q k : Nat) (x : Int32) : (∀ i, i ≠ q → xdu D q k x i = D i ∧ R i = R i) ∧ ∀ j, j ≠ k → xdu D q k x q j = D q j ∧ R q j = R q j := ⟨fun i h => ⟨xdu_ne D k x h, rfl⟩, fun j h => ⟨by rw [xdu_self, upd_ne _ _ h], rfl⟩⟩
theorem xru_o (D : xD) (R : xR) (q k : Nat) (o : Option Nat) : (∀ i, i ≠ q → D i = D i ∧ xru R q k o i = R i) ∧ ∀ j, j ≠ k → D q j = D q j ∧ xru R q k o q j = R q j := ⟨fun i h => ⟨rfl, xru_ne R k o h⟩, fun j h => ⟨rfl, by rw [xru_self, va_up_ne _ _ h]⟩⟩
theorem xru_wf {q k : Nat} {o : Option Nat} (hw : xwf G R) (ho : ∀ r, o = some r → r < G.1) : xwf G (xru R q k o) := fun q' k' r h => by
  by_cases hq : q' = q
  · subst hq
    rw [xru_self] at h
    by_cases hk : k' = k
    · subst hk
      rw [va_up_self] at h
      exact ho r h
    · rw [va_up_ne _ _ hk] at h
      exact hw _ _ _ h
  · rw [xru_ne R k o hq] at h
    exact hw _ _ _ h
theorem xS.put {s : State} {A : Nat → Prop} {ad : Nat → Nat} {H H1 : Heap} {locs locs1 : List Loc} {ls : Array Slot} {cells slots C S : Nat} {st' : List Value} {D' : xD} {R' : xR} (h : xS Γ μ s A ad L st G D R H locs ls cells slots C S kc kw) (h1 : va_P Γ.1 vwCl (xW Γ.2.1 ad G D' R') H1) (h2 : va_D A (xW Γ.2.1 ad G D' R')) (h3 : va_S A s.heap H1 locs1) (hw : xwf G R') (h' : ∀ v ∈ st', xok G v) : xS Γ μ s A ad L st' G D' R' H1 locs1 ls cells slots C S kc kw := ⟨⟨h1, h2, h3⟩, h.2.1, hw, h.2.2.2.1, h.2.2.2.2.1, h', h.2.2.2.2.2.2⟩
/-- putfield of a number -/
theorem ex_puti {q idx c k : Nat} {x : Int32} {C : String} {T : u_T} {N : Nat} {ty : Nat → FieldType} (hd : decode μ.2.1 pc = .ok (.putfield idx, 3)) (hc : vwCl[c]? = some (C, T, N)) (hin : ∀ w ∈ u_ws C T N, w ∈ xT) (hty : ∀ k, k < N → parseFieldDescriptor (T k).2.2.1 = some (ty k)) (hnm : ∀ a, a < N → ∀ b, b < N → a ≠ b → (T a).2.1 ≠ (T b).2.1) (hk : k < N) (hN : N = xnf c) (hc16 : c < 16) (hl : Cond.fieldLink μ.1.cls idx (T k).1 (T k).2.1 (T k).2.2.1 ∈ xT) (hfin : (T k).2.2.2 = false ∨ ((T k).2.2.2 = true ∧ μ.1.name = "<init>" ∧ (T k).1 = μ.1.cls)) (hr : xisRf (xTy c k) = false) (hn : narrow (ty k) (.int x) = .int x) (hf : fits (ty k) (.int x) = true) (hq : xis G q c)
    (kk : Ex Γ l f μ (pc + 3) L st G (xdu D q k x) R kc kw Q) : Ex Γ l f μ pc L (.int x :: .ref q :: st) G D R kc kw Q := by
  intro p e s m args below meth c0 A Qc H locs ls cells slots C0 S ad hF hS hQ
  obtain ⟨hx, hb, hml, hown, hts, hlk, hrt, hnm2, hK, hE, hA⟩ := id hF
  have hset := xset_o (tA := Γ.2.1) (ad := ad) (R' := R) (v := .int x) hq hc16 (xdu_o D R q k x).1 (xdu_o D R q k x).2 (by simp [xfv, hr, xdu_self, upd_self])
  have hlen : k < ((List.range (xnf c)).map (xfv ad c (D q) (R q))).length := by simp; omega
  rcases hfin with h0 | ⟨h0, h1, h2⟩
  · refine va_put (v := .int x) hx hb hts hin ty hty hnm hown hK hS.1.1 hS.1.2.1 hS.1.2.2 q (xis_cell hq hc16) hc k hk (hts _ hl) (fun _ h => h) h0 (hty k hk) hn hf hlen hd (fun H1 locs1 hP1 hD1 hS1 => ?_)
    rw [hset] at hP1 hD1
    exact kk p e s m args below meth c0 A Qc H1 locs1 ls cells slots C0 S ad hF (hS.put hP1 hD1 hS1 hS.2.2.1 (xo_t (xo_t hS.ok))) hQ
  · refine va_putF (v := .int x) hx hb hts hin ty hty hnm hown hK hS.1.1 hS.1.2.1 hS.1.2.2 q (xis_cell hq hc16) hc k hk (hts _ hl) (fun _ h => h) h0 (hnm2.trans h1) h2 (hty k hk) hn hf hlen hd (fun H1 locs1 hP1 hD1 hS1 => ?_)
    rw [hset] at hP1 hD1
    exact kk p e s m args below meth c0 A Qc H1 locs1 ls cells slots C0 S ad hF (hS.put hP1 hD1 hS1 hS.2.2.1 (xo_t (xo_t hS.ok))) hQ
/-- putfield of a reference -/
theorem ex_putr {q idx c k : Nat} {v : Value} (o : Option Nat) {C : String} {T : u_T} {N : Nat} {ty : Nat → FieldType} (hd : decode μ.2.1 pc = .ok (.putfield idx, 3)) (hc : vwCl[c]? = some (C, T, N)) (hin : ∀ w ∈ u_ws C T N, w ∈ xT) (hty : ∀ k, k < N → parseFieldDescriptor (T k).2.2.1 = some (ty k)) (hnm : ∀ a, a < N → ∀ b, b < N → a ≠ b → (T a).2.1 ≠ (T b).2.1) (hk : k < N) (hN : N = xnf c) (hc16 : c < 16) (hl : Cond.fieldLink μ.1.cls idx (T k).1 (T k).2.1 (T k).2.2.1 ∈ xT) (hfin : (T k).2.2.2 = false ∨ ((T k).2.2.2 = true ∧ μ.1.name = "<init>" ∧ (T k).1 = μ.1.cls)) (hr : xisRf (xTy c k) = true) (hn : ∀ w : Option Nat, narrow (ty k) (va_rf w) = va_rf w ∧ fits (ty k) (va_rf w) = true) (hv : v = xrv o) (ho : ∀ r, o = some r → r < G.1) (hq : xis G q c)
    (kk : Ex Γ l f μ (pc + 3) L st G D (xru R q k o) kc kw Q) : Ex Γ l f μ pc L (v :: .ref q :: st) G D R kc kw Q := by
  intro p e s m args below meth c0 A Qc H locs ls cells slots C0 S ad hF hS hQ
  obtain ⟨hx, hb, hml, hown, hts, hlk, hrt, hnm2, hK, hE, hA⟩ := id hF
  subst hv
  have hset := xset_o (tA := Γ.2.1) (ad := ad) (D' := D) (v := va_rf (o.map ad)) hq hc16 (xru_o D R q k o).1 (xru_o D R q k o).2 (by simp [xfv, hr, xru_self, va_up_self])
  have hlen : k < ((List.range (xnf c)).map (xfv ad c (D q) (R q))).length := by simp; omega
  refine W.eq (g2 := F0 m pc ls (va_rf (o.map ad) :: .ref (ad q) :: st.map (xtv ad))) (by rw [← xtv_rv]; rfl) ?_
  rcases hfin with h0 | ⟨h0, h1, h2⟩
  · refine va_put hx hb hts hin ty hty hnm hown hK hS.1.1 hS.1.2.1 hS.1.2.2 q (xis_cell hq hc16) hc k hk (hts _ hl) (fun _ h => h) h0 (hty k hk) (hn _).1 (hn _).2 hlen hd (fun H1 locs1 hP1 hD1 hS1 => ?_)
    rw [hset] at hP1 hD1
    exact kk p e s m args below meth c0 A Qc H1 locs1 ls cells slots C0 S ad hF (hS.put hP1 hD1 hS1 (xru_wf hS.2.2.1 ho) (xo_t (xo_t hS.ok))) hQ
  · refine va_putF hx hb hts hin ty hty hnm hown hK hS.1.1 hS.1.2.1 hS.1.2.2 q (xis_cell hq hc16) hc k hk (hts _ hl) (fun _ h => h) h0 (hnm2.trans h1) h2 (hty k hk) (hn _).1 (hn _).2 hlen hd (fun H1 locs1 hP1 hD1 hS1 => ?_)
    rw [hset] at hP1 hD1
    exact kk p e s m args below meth c0 A Qc H1 locs1 ls cells slots C0 S ad hF (hS.put hP1 hD1 hS1 (xru_wf hS.2.2.1 ho) (xo_t (xo_t hS.ok))) hQ
/-! arrays -/
theorem ex_iald {q n : Nat} {i : Int32} (hd : decode μ.2.1 pc = .ok (.iaload, 1)) (hq : xia G q 0 n) (hi : vp_in i n) (kk : Ex Γ l f μ (pc + 1) L (.int (D q i.toNatClampNeg) :: st) G D R kc kw Q) : Ex Γ l f μ pc L (.int i :: .ref q :: st) G D R kc kw Q := by
  intro p e s m args below meth c0 A Qc H locs ls cells slots C0 S ad hF hS hQ
  obtain ⟨hx, hb, hml, hown, hts, hlk, hrt, hnm, hK, hE, hA⟩ := id hF
  exact va_iald hx hb hK hS.1.1 q 0 (xia_i hq (by decide)) (xtys Γ (by decide)) hi hd (kk p e s m args below meth c0 A Qc H locs ls cells slots C0 S ad hF (hS.ps (xo_i (xo_t (xo_t hS.ok)))) hQ)
theorem ex_bald {q n : Nat} {i : Int32} (hd : decode μ.2.1 pc = .ok (.baload, 1)) (hq : xia G q 1 n) (hi : vp_in i n) (kk : Ex Γ l f μ (pc + 1) L (.int (D q i.toNatClampNeg) :: st) G D R kc kw Q) : Ex Γ l f μ pc L (.int i :: .ref q :: st) G D R kc kw Q := by
  intro p e s m args below meth c0 A Qc H locs ls cells slots C0 S ad hF hS hQ
  obtain ⟨hx, hb, hml, hown, hts, hlk, hrt, hnm, hK, hE, hA⟩ := id hF
  exact va_bald hx hb hK hS.1.1 q 1 (xia_i hq (by decide)) (xtys Γ (by decide)) hi hd (kk p e s m args below meth c0 A Qc H locs ls cells slots C0 S ad hF (hS.ps (xo_i (xo_t (xo_t hS.ok)))) hQ)
theorem ex_zald {q n : Nat} {i : Int32} (hd : decode μ.2.1 pc = .ok (.baload, 1)) (hq : xia G q 2 n) (hi : vp_in i n) (kk : Ex Γ l f μ (pc + 1) L (.int (D q i.toNatClampNeg) :: st) G D R kc kw Q) : Ex Γ l f μ pc L (.int i :: .ref q :: st) G D R kc kw Q := by
  intro p e s m args below meth c0 A Qc H locs ls cells slots C0 S ad hF hS hQ
  obtain ⟨hx, hb, hml, hown, hts, hlk, hrt, hnm, hK, hE, hA⟩ := id hF
  exact va_zald hx hb hK hS.1.1 q 2 (xia_i hq (by decide)) (xtys Γ (by decide)) hi hd (kk p e s m args below meth c0 A Qc H locs ls cells slots C0 S ad hF (hS.ps (xo_i (xo_t (xo_t hS.ok)))) hQ)
theorem ex_aald {q t n : Nat} {i : Int32} {o : Option Nat} (hd : decode μ.2.1 pc = .ok (.aaload, 1)) (hq : xia G q t n) (h3 : 3 ≤ t) (h7 : t < 7) (hi : vp_in i n) (ho : R q i.toNatClampNeg = o) (kk : Ex Γ l f μ (pc + 1) L (xrv o :: st) G D R kc kw Q) : Ex Γ l f μ pc L (.int i :: .ref q :: st) G D R kc kw Q := by
  intro p e s m args below meth c0 A Qc H locs ls cells slots C0 S ad hF hS hQ
  obtain ⟨hx, hb, hml, hown, hts, hlk, hrt, hnm, hK, hE, hA⟩ := id hF
  subst ho
  have hk := kk p e s m args below meth c0 A Qc H locs ls cells slots C0 S ad hF (hS.ps (xo_c (xok_rv hS.2.2.1 q _) (xo_t (xo_t hS.ok)))) hQ
  have hk : W p l e (xRm f C0 S) s m args below meth c0 H locs cells slots (MQ below Qc args s C0 S A) (F0 m (pc + 1) ls (va_rf ((R q i.toNatClampNeg).map ad) :: st.map (xtv ad))) := by
    rw [← xtv_rv]
    exact hk
  obtain ⟨C, hC⟩ : ∃ C, xAt t = .object C := by
    match t, h3, h7 with
    | 3, _, _ => exact ⟨_, rfl⟩
    | 4, _, _ => exact ⟨_, rfl⟩
    | 5, _, _ => exact ⟨_, rfl⟩
    | 6, _, _ => exact ⟨_, rfl⟩
  exact va_aldq hx hb hK hS.1.1 q t (xia_q hq h3) (by rw [xtys Γ h7, hC]) hi hd hk
theorem ex_alen {q t n : Nat} (hd : decode μ.2.1 pc = .ok (.arraylength, 1)) (hq : xia G q t n) (h7 : t < 7) (kk : Ex Γ l f μ (pc + 1) L (.int (Int32.ofNat n) :: st) G D R kc kw Q) : Ex Γ l f μ pc L (.ref q :: st) G D R kc kw Q := by
  intro p e s m args below meth c0 A Qc H locs ls cells slots C0 S ad hF hS hQ
  obtain ⟨hx, hb, hml, hown, hts, hlk, hrt, hnm, hK, hE, hA⟩ := id hF
  have hk := kk p e s m args below meth c0 A Qc H locs ls cells slots C0 S ad hF (hS.ps (xo_i (xo_t hS.ok))) hQ
  by_cases h3 : t < 3
  · exact va_alen hx hb hK hS.1.1 q t (xia_i hq h3) (xtys Γ h7) rfl hd hk
  · exact va_alen hx hb hK hS.1.1 q t (xia_q hq (by omega)) (xtys Γ h7) rfl hd hk
theorem xset_i {tA : Nat → ClassId} {ad : Nat → Nat} {q t n k : Nat} {x : Int32} (hq : xia G q t n) (ht : t < 3) : (xW tA ad G D R).set q (ad q, .inl (tA t, n, .inl (upd (D q) k x))) = xW tA ad G (xdu D q k x) R := by
  refine xW_set hq.1 (xdu_o D R q k x).1 ?_
  rw [hq.2, xcell_i t n ht, xdu_self]
theorem xset_q {tA : Nat → ClassId} {ad : Nat → Nat} {q t n k : Nat} {o : Option Nat} (hq : xia G q t n) (ht : 3 ≤ t) : (xW tA ad G D R).set q (ad q, .inl (tA t, n, .inr (.inr (.inr (.inr (va_up (fun j => (R q j).map ad) k (o.map ad))))))) = xW tA ad G D (xru R q k o) := by
  refine xW_set hq.1 (xru_o D R q k o).1 ?_
  rw [hq.2, xcell_q t n ht, xru_self]
  congr
  funext j
  by_cases h : j = k
  · subst h; simp [va_up_self]
  · simp [va_up_ne _ _ h]
theorem ex_iast {q n : Nat} {i x : Int32} (hd : decode μ.2.1 pc = .ok (.iastore, 1)) (hq : xia G q 0 n) (hi : vp_in i n) (kk : Ex Γ l f μ (pc + 1) L st G (xdu D q i.toNatClampNeg x) R kc kw Q) : Ex Γ l f μ pc L (.int x :: .int i :: .ref q :: st) G D R kc kw Q := by
  intro p e s m args below meth c0 A Qc H locs ls cells slots C0 S ad hF hS hQ
  obtain ⟨hx, hb, hml, hown, hts, hlk, hrt, hnm, hK, hE, hA⟩ := id hF
  refine va_iast hx hb hK hS.1.1 hS.1.2.1 hS.1.2.2 q 0 (xia_i hq (by decide)) (xtys Γ (by decide)) hi hd (fun H1 locs1 hP1 hD1 hS1 => ?_)
  rw [xset_i hq (by decide)] at hP1 hD1
  exact kk p e s m args below meth c0 A Qc H1 locs1 ls cells slots C0 S ad hF (hS.put hP1 hD1 hS1 hS.2.2.1 (xo_t (xo_t (xo_t hS.ok)))) hQ
theorem ex_bast {q n : Nat} {i x : Int32} (hd : decode μ.2.1 pc = .ok (.bastore, 1)) (hq : xia G q 1 n) (hi : vp_in i n) (kk : Ex Γ l f μ (pc + 1) L st G (xdu D q i.toNatClampNeg (vp_nar .byte x)) R kc kw Q) : Ex Γ l f μ pc L (.int x :: .int i :: .ref q :: st) G D R kc kw Q := by
  intro p e s m args below meth c0 A Qc H locs ls cells slots C0 S ad hF hS hQ
  obtain ⟨hx, hb, hml, hown, hts, hlk, hrt, hnm, hK, hE, hA⟩ := id hF
  refine va_bast hx hb hK hS.1.1 hS.1.2.1 hS.1.2.2 q 1 (xia_i hq (by decide)) (xtys Γ (by decide)) hi hd (fun H1 locs1 hP1 hD1 hS1 => ?_)
  rw [xset_i hq (by decide)] at hP1 hD1
  exact kk p e s m args below meth c0 A Qc H1 locs1 ls cells slots C0 S ad hF (hS.put hP1 hD1 hS1 hS.2.2.1 (xo_t (xo_t (xo_t hS.ok)))) hQ
theorem ex_zast {q n : Nat} {i x : Int32} (hd : decode μ.2.1 pc = .ok (.bastore, 1)) (hq : xia G q 2 n) (hi : vp_in i n) (kk : Ex Γ l f μ (pc + 1) L st G (xdu D q i.toNatClampNeg (vp_nar .boolean x)) R kc kw Q) : Ex Γ l f μ pc L (.int x :: .int i :: .ref q :: st) G D R kc kw Q := by
  intro p e s m args below meth c0 A Qc H locs ls cells slots C0 S ad hF hS hQ
  obtain ⟨hx, hb, hml, hown, hts, hlk, hrt, hnm, hK, hE, hA⟩ := id hF
  refine va_zast hx hb hK hS.1.1 hS.1.2.1 hS.1.2.2 q 2 (xia_i hq (by decide)) (xtys Γ (by decide)) hi hd (fun H1 locs1 hP1 hD1 hS1 => ?_)
  rw [xset_i hq (by decide)] at hP1 hD1
  exact kk p e s m args below meth c0 A Qc H1 locs1 ls cells slots C0 S ad hF (hS.put hP1 hD1 hS1 hS.2.2.1 (xo_t (xo_t (xo_t hS.ok)))) hQ
/-- aastore of an object of the array's own class (which is number c of the classes, place t of the array classes) -/
theorem ex_aast {q t n q' c : Nat} {i : Int32} {r : vw_C} (hd : decode μ.2.1 pc = .ok (.aastore, 1)) (hq : xia G q t n) (h3 : 3 ≤ t) (h7 : t < 7) (hi : vp_in i n) (hc : vwCl[c]? = some r) (hc16 : c < 16) (ht : xAt t = .object r.1) (hq' : xis G q' c) (kk : Ex Γ l f μ (pc + 1) L st G D (xru R q i.toNatClampNeg (some q')) kc kw Q) : Ex Γ l f μ pc L (.ref q' :: .int i :: .ref q :: st) G D R kc kw Q := by
  intro p e s m args below meth c0 A Qc H locs ls cells slots C0 S ad hF hS hQ
  obtain ⟨hx, hb, hml, hown, hts, hlk, hrt, hnm, hK, hE, hA⟩ := id hF
  refine va_astq hx hb hK hS.1.1 hS.1.2.1 hS.1.2.2 q t q' c (xia_q hq h3) (by rw [xtys Γ h7, ht]) (xis_cell hq' hc16) hc hi hd (fun H1 locs1 hP1 hD1 hS1 => ?_)
  have e9 := xset_q (tA := Γ.2.1) (ad := ad) (D := D) (R := R) (k := i.toNatClampNeg) (o := some q') hq h3
  rw [Option.map_some] at e9
  rw [e9] at hP1 hD1
  exact kk p e s m args below meth c0 A Qc H1 locs1 ls cells slots C0 S ad hF (hS.put hP1 hD1 hS1 (xru_wf hS.2.2.1 (fun r h => by cases h; exact hq'.1)) (xo_t (xo_t (xo_t hS.ok)))) hQ
/-! new cells -/
theorem xQ.grow {s : State} {A : Nat → Prop} {args : Array Value} {Qc : Array Value → State → Outcome → State → Prop} {ad ad1 : Nat → Nat} {G1 : xG} {kc1 : Nat} (hQ : xQ Γ s A args Qc ad G kc Q) (ha : xag G ad ad1) (h1 : G.1 ≤ G1.1) (h2 : G1.1 + kc1 ≤ G.1 + kc) : xQ Γ s A args Qc ad1 G1 kc1 Q := fun ad' v G' D' R' t h3 h4 h5 h6 h7 h8 h9 h10 h11 =>
  hQ ad' v G' D' R' t (fun q hq => (h3 q (hq.imp (fun z => Nat.lt_of_lt_of_le z h1) id)).trans (ha q hq)) (Nat.le_trans h1 h4) (by omega) h6 h7 h8 h9 h10 h11
theorem xL.ag {ls : Array Slot} {n : Nat} {ad ad' : Nat → Nat} (h : xL ls n ad L) (hag : xag G ad ad') (hok : ∀ v, some v ∈ L → xok G v) : xL ls n ad' L := ⟨h.1, h.2.1, h.2.2.1, fun i v hi => by rw [xtv_ag hag (hok v (List.mem_of_getElem? hi))]; exact h.2.2.2 i v hi⟩
theorem xS.push {s : State} {A : Nat → Prop} {ad : Nat → Nat} {H H1 : Heap} {locs locs1 : List Loc} {ls : Array Slot} {cells slots C S : Nat} {st' : List Value} {a : Nat} {k : Nat × Nat} {N kc1 kw1 : Nat} {e : va_E} (h : xS Γ μ s A ad L st G D R H locs ls cells slots C S kc kw) (he : e = xcell Γ.2.1 ad k (fun _ => 0) (fun _ => none)) (h1 : va_P Γ.1 vwCl (xW Γ.2.1 ad G D R ++ [(a, e)]) H1) (h2 : va_D A (xW Γ.2.1 ad G D R ++ [(a, e)])) (h3 : va_S A s.heap H1 locs1) (hkc : kc1 + 1 ≤ kc) (hkw : kw1 + N ≤ kw) (h' : ∀ v ∈ st', xok G v) :
    xS Γ μ s A (va_up ad G.1 a) L (.ref G.1 :: st') (G.1 + 1, va_up G.2 G.1 k) (va_up D G.1 (fun _ => 0)) (va_up R G.1 (fun _ => none)) H1 locs1 ls (cells + 1) (slots + N) C S kc1 kw1 ∧ xag G ad (va_up ad G.1 a) := by
  have hb : G.1 < 1000000 := by have := h.2.2.2.2.2.2.1; omega
  obtain ⟨e1, e2, e3⟩ := xpush (tA := Γ.2.1) (ad := ad) (G := G) (D := D) (R := R) h.2.2.1 hb a k (fun _ => 0) (fun _ => none) (fun _ _ h => by cases h) he
  rw [e1] at h1 h2
  refine ⟨⟨⟨h1, h2, h3⟩, fun k => ?_, e3, h.2.2.2.1.ag e2 h.2.2.2.2.1, fun v hv => xok_mono (Nat.le_succ _) (h.2.2.2.2.1 v hv), xo_c (Or.inl (Nat.lt_succ_self _)) (fun v hv => xok_mono (Nat.le_succ _) (h' v hv)), ?_, ?_, ?_⟩, e2⟩
  · rw [e2 _ (Or.inr (Nat.le_add_right _ _))]
    exact h.2.1 k
  · have := h.2.2.2.2.2.2.1
    show G.1 + 1 + kc1 ≤ 1000000
    omega
  · have := h.2.2.2.2.2.2.2.1; omega
  · have := h.2.2.2.2.2.2.2.2; omega
theorem xpush_w {ad : Nat → Nat} {a : Nat} {w : List Value} (hag : xag G ad (va_up ad G.1 a)) (h : ∀ v ∈ w, xok G v) : Value.ref a :: w.map (xtv ad) = (Value.ref G.1 :: w).map (xtv (va_up ad G.1 a)) := by
  rw [List.map_cons, xtvs_ag hag h]
  simp [xtv, va_up_self]
theorem ex_new {idx c kc1 kw1 : Nat} {C : String} {T : u_T} {N : Nat} {ty : Nat → FieldType} (hd : decode μ.2.1 pc = .ok (.new idx, 3)) (hc : vwCl[c]? = some (C, T, N)) (hin : ∀ w ∈ u_ws C T N, w ∈ xT) (hty : ∀ k, k < N → parseFieldDescriptor (T k).2.2.1 = some (ty k)) (hN : N = xnf c) (hc16 : c < 16) (hdef : ∀ j, j < N → defaultValue (ty j) = if xisRf (xTy c j) = true then .null else .int 0) (hl : Cond.classLink μ.1.cls idx C ∈ xT) (hi : Cond.instantiable C N ∈ xT) (hini : Cond.initialized C ∈ xT) (hkc : kc1 + 1 ≤ kc) (hkw : kw1 + N ≤ kw)
    (kk : Ex Γ l f μ (pc + 3) L (.ref G.1 :: st) (G.1 + 1, va_up G.2 G.1 (c, 0)) (va_up D G.1 (fun _ => 0)) (va_up R G.1 (fun _ => none)) kc1 kw1 Q) : Ex Γ l f μ pc L st G D R kc kw Q := by
  intro p e s m args below meth c0 A Qc H locs ls cells slots C0 S ad hF hS hQ
  obtain ⟨hx, hb, hml, hown, hts, hlk, hrt, hnm, hK, hE, hA⟩ := id hF
  have hcS := hS.2.2.2.2.2.2.2
  refine va_new (fs := (List.range (xnf c)).map (xfv ad c (fun _ => 0) (fun _ => none))) hx hb hts hin ty hty hown (hts _ hl) (hts _ hi) (hts _ hini) hK hS.1.1 hS.1.2.1 hS.1.2.2 hA hc (fun j hj => ?_) (by show _ ≤ C0; omega) (by show _ ≤ S; omega) hd (fun q H1 hP1 hD1 hS1 => ?_)
  · rw [hdef j hj]
    simp only [vp_V, List.getD_eq_getElem?_getD]
    rw [xfs_at _ _ _ _ (by omega)]
    simp only [xfv, Option.getD_some]
    split <;> rfl
  · obtain ⟨hS2, hag⟩ := hS.push (k := (c, 0)) (xcell_o (k := (c, 0)) hc16 _ _).symm hP1 hD1 hS1 hkc hkw hS.ok
    rw [xpush_w hag hS.ok]
    exact kk p e s m args below meth c0 A Qc H1 locs ls (cells + 1) (slots + N) C0 S (va_up ad G.1 q) hF hS2 (hQ.grow hag (Nat.le_succ _) (by show G.1 + 1 + kc1 ≤ _; omega))
theorem ex_newa {t n kc1 kw1 : Nat} {x : Int32} {at0 : ArrayType} (hd : decode μ.2.1 pc = .ok (.newarray at0, 2)) (hty : newarray.typeOf at0 = xAt t) (h3 : t < 3) (hl : Cond.arrayClass (xAt t) ∈ xT) (hx0 : ¬ x < 0) (hn : x.toNatClampNeg = n) (hb8 : n * 8 ≤ 536870912) (hkc : kc1 + 1 ≤ kc) (hkw : kw1 + n ≤ kw)
    (kk : Ex Γ l f μ (pc + 2) L (.ref G.1 :: st) (G.1 + 1, va_up G.2 G.1 (16 + t, n)) (va_up D G.1 (fun _ => 0)) (va_up R G.1 (fun _ => none)) kc1 kw1 Q) : Ex Γ l f μ pc L (.int x :: st) G D R kc kw Q := by
  intro p e s m args below meth c0 A Qc H locs ls cells slots C0 S ad hF hS hQ
  obtain ⟨hx, hb, hml, hown, hts, hlk, hrt, hnm, hK, hE, hA⟩ := id hF
  have hcS := hS.2.2.2.2.2.2.2
  have hdv : defaultValue (xAt t) = .int 0 := by
    match t, h3 with
    | 0, _ => rfl
    | 1, _ => rfl
    | 2, _ => rfl
  have hcb : n * componentBytes (xAt t) ≤ 536870912 := by
    match t, h3 with
    | 0, _ => simp only [xAt, componentBytes]; omega
    | 1, _ => simp only [xAt, componentBytes]; omega
    | 2, _ => simp only [xAt, componentBytes]; omega
  refine va_newa (a0 := (n, .inl (fun _ => 0))) hx hb (by rw [hty]; exact hts _ hl) hty hK hS.1.1 hS.1.2.1 hS.1.2.2 hA (fun cA => by rw [vp_cell_i, hdv]) hx0 hn hcb (by show _ ≤ C0; omega) (by show _ ≤ S; omega) hd (fun q cA H1 hK1 hP1 hD1 hS1 => ?_)
  have hcA : cA = Γ.2.1 t := by
    have g1 := (hK1.2 7 (cA, xAt t) (by simp)).2
    have g2 := (hK.2 t (Γ.2.1 t, xAt t) (xtys Γ (by omega))).2
    match t, h3, g1, g2 with
    | 0, _, g1, g2 => exact Option.some.inj (g1.symm.trans g2)
    | 1, _, g1, g2 => exact Option.some.inj (g1.symm.trans g2)
    | 2, _, g1, g2 => exact Option.some.inj (g1.symm.trans g2)
  subst hcA
  obtain ⟨hS2, hag⟩ := hS.push (k := (16 + t, n)) (xcell_i t n h3 _ _).symm hP1 hD1 hS1 hkc hkw (xo_t hS.ok)
  rw [xpush_w hag (xo_t hS.ok)]
  exact kk p e s m args below meth c0 A Qc H1 locs ls (cells + 1) (slots + n) C0 S (va_up ad G.1 q) hF hS2 (hQ.grow hag (Nat.le_succ _) (by show G.1 + 1 + kc1 ≤ _; omega))
theorem ex_anewa {idx t n kc1 kw1 : Nat} {x : Int32} {C : String} (hd : decode μ.2.1 pc = .ok (.anewarray idx, 3)) (hty : xAt t = .object C) (h3 : 3 ≤ t) (h7 : t < 7) (hC : C ∈ xOv) (hl : Cond.classLink μ.1.cls idx C ∈ xT) (hx0 : ¬ x < 0) (hn : x.toNatClampNeg = n) (hb8 : n * 4 ≤ 536870912) (hkc : kc1 + 1 ≤ kc) (hkw : kw1 + n ≤ kw)
    (kk : Ex Γ l f μ (pc + 3) L (.ref G.1 :: st) (G.1 + 1, va_up G.2 G.1 (16 + t, n)) (va_up D G.1 (fun _ => 0)) (va_up R G.1 (fun _ => none)) kc1 kw1 Q) : Ex Γ l f μ pc L (.int x :: st) G D R kc kw Q := by
  intro p e s m args below meth c0 A Qc H locs ls cells slots C0 S ad hF hS hQ
  obtain ⟨hx, hb, hml, hown, hts, hlk, hrt, hnm, hK, hE, hA⟩ := id hF
  have hcS := hS.2.2.2.2.2.2.2
  refine va_newq hx hb hown (hts _ hl) (hE.2.1 C hC) hK hS.1.1 hS.1.2.1 hS.1.2.2 hA hx0 hn hb8 (by show _ ≤ C0; omega) (by show _ ≤ S; omega) hd (fun q cA H1 hK1 hP1 hD1 hS1 => ?_)
  have hcA : cA = Γ.2.1 t := by
    have g1 := (hK1.2 7 (cA, .object C) (by simp)).2
    have g2 := (hK.2 t (Γ.2.1 t, xAt t) (xtys Γ (by omega))).2
    rw [hty] at g2
    obtain ⟨_, _, _, _, _, g1⟩ := g1
    obtain ⟨_, _, _, _, _, g2⟩ := g2
    exact Option.some.inj (g1.symm.trans g2)
  subst hcA
  obtain ⟨hS2, hag⟩ := hS.push (k := (16 + t, n)) (e := .inl (Γ.2.1 t, n, .inr (.inr (.inr (.inr (fun _ => none)))))) (by rw [xcell_q t n h3]; rfl) hP1 hD1 hS1 hkc hkw (xo_t hS.ok)
  rw [xpush_w hag (xo_t hS.ok)]
  exact kk p e s m args below meth c0 A Qc H1 locs ls (cells + 1) (slots + n) C0 S (va_up ad G.1 q) hF hS2 (hQ.grow hag (Nat.le_succ _) (by show G.1 + 1 + kc1 ≤ _; omega))
/-- a text constant -/
theorem ex_ldcS {i idx : Nat} {w : String × Nat × String} (hd : decode μ.2.1 pc = .ok (.ldc idx, 2)) (hw : xStr[i]? = some w) (h1 : w.1 = μ.1.cls) (h2 : w.2.1 = idx) (kk : Ex Γ l f μ (pc + 2) L (.ref (1000000 + i) :: st) G D R kc kw Q) : Ex Γ l f μ pc L st G D R kc kw Q := by
  intro p e s m args below meth c0 A Qc H locs ls cells slots C0 S ad hF hS hQ
  obtain ⟨hx, hb, hml, hown, hts, hlk, hrt, hnm, hK, hE, hA⟩ := id hF
  have hk := kk p e s m args below meth c0 A Qc H locs ls cells slots C0 S ad hF (hS.ps (xo_c (Or.inr (Nat.le_add_right _ _)) hS.ok)) hQ
  have hR := hE.2.2.1 i w hw
  rw [h1, h2] at hR
  refine va_ldcS hx hb hown hR hd ?_
  rw [← hS.2.1 i]
  exact hk
end XC
end
section
/-! ===== CALLS ===== -/
/-- what is asked of a method's names: its code is among the words, its class is initialised and plain, its parameters are n -/
def xOk (μ : xMt) (n : Nat) : Prop := Cond.code μ.1 μ.2.1 μ.2.2.1 μ.2.2.2 ∈ xT ∧ Cond.initialized μ.1.cls ∈ xT ∧ plainName μ.1.cls = true ∧ (μ.1.cls ≠ "java/lang/invoke/MethodHandle" ∧ μ.1.cls ≠ "java/lang/invoke/VarHandle" ∧ (parseMethodDescriptor μ.1.desc).map (fun d => d.parameters.length) = some n) ∧ μ.2.2.1 ≤ 80
theorem xsl {vs : List Value} (h : ∀ v ∈ vs, v.category = 1) : (lg_sl vs).length = vs.length := by
  induction vs with
  | nil => rfl
  | cons v t ih =>
    have h1 := h v List.mem_cons_self
    have h2 := ih fun w hw => h w (List.mem_cons_of_mem _ hw)
    simp only [lg_sl, List.flatMap_cons, List.length_append, List.length_cons] at h2 ⊢
    rw [if_neg (by omega), h2]
    simp; omega
theorem xargs {vs : List Value} (h : ∀ v ∈ vs, v.category = 1) : ∀ (b i : Nat) (v : Value), vs[i]? = some v → (b + i, v) ∈ lv_args b vs := by
  induction vs with
  | nil => intro b i v hi; simp at hi
  | cons w t ih =>
    intro b i v hi
    have h1 := h w List.mem_cons_self
    cases i with
    | zero =>
      simp at hi
      subst hi
      exact List.mem_cons_self
    | succ i =>
      simp at hi
      have h2 := ih (fun w hw => h w (List.mem_cons_of_mem _ hw)) (b + 1) i v hi
      simp only [lv_args]
      rw [if_neg (by omega)]
      refine List.mem_cons_of_mem _ ?_
      rw [show b + (i + 1) = b + 1 + i by omega]
      exact h2
section XM
variable {Γ : xGm} {l : Launch} {f f' : Nat} {μ μ' : xMt} {pc : Nat} {L : List (Option Value)} {st rest : List Value} {G : xG} {D : xD} {R : xR} {kc kw kc' kw' n idx : Nat} {Q Q' : Option Value → xG → xD → xR → Prop}
/-- a method's contract out of the walk of its body -/
theorem cn_of {vs : List Value} (hok : xOk μ n) (hlen : vs.length ≤ μ.2.2.1) (k : Ex Γ l f μ 0 (vs.map some ++ List.replicate (μ.2.2.1 - vs.length) none) [] G D R kc kw Q) : Cn Γ l f μ vs G D R kc kw Q := by
  intro hG hw hvs ad sz had
  refine Met.ofW (cc := μ.2.1) (maxL := μ.2.2.1) (ret := μ.2.2.2) hok.2.2.1 rfl ?_
  intro p e s m args below meth c s₁ B hml hv
  obtain ⟨rfl, hsz, hP, hK, hD0, hE⟩ := hv
  have hts := atoms_spec (ws := xWs μ) B.pre
  have hown : s.vm.findClass μ.1.cls = some m.cls := findClass_of_methodNamed B.named
  have hin : meth.name = μ.1.name := (name_of_methodNamed B.named B.method).1
  subst hsz
  have hcat : ∀ v ∈ vs.map (xtv ad), v.category = 1 := fun v hv => by
    obtain ⟨w, hw, rfl⟩ := List.mem_map.mp hv
    exact xok_cat (hvs w hw) ad
  have hl := lv_entry (vs.map (xtv ad)) (n := μ.2.2.1) (by rw [xsl hcat, List.length_map]; exact hlen)
  rw [lg_entry_eq]
  generalize (lg_sl (vs.map (xtv ad)) ++ List.replicate (μ.2.2.1 - (lg_sl (vs.map (xtv ad))).length) Slot.unset).toArray = ls at hl ⊢
  refine k p e s m (vs.map (xtv ad)).toArray below meth c (va_A (xW Γ.2.1 ad G D R) s.heap.size) _ s.heap [] ls 0 0 kc kw ad ⟨B.exec, B.bytes, hml, hown, fun w hw => hts w (List.mem_cons_of_mem _ hw), B.notSynchronized, B.returns, hin, hK, hE, fun q h => Or.inr h⟩ ⟨⟨hP, hD0.self, va_S.rf⟩, had, hw, ⟨hl.1, hl.2.1, by simp; omega, fun i v hi => ?_⟩, fun v hv => ?_, fun v hv => by simp at hv, hG, by omega, by omega⟩ ?_
  · by_cases hi2 : i < vs.length
    · rw [List.getElem?_append_left (by simpa using hi2), List.getElem?_map] at hi
      have hv : vs[i]? = some v := by
        cases hx : vs[i]? with
        | none => rw [hx] at hi; cases hi
        | some w => rw [hx] at hi; simp at hi; rw [hi]
      have := xargs hcat 0 i (xtv ad v) (by rw [List.getElem?_map, hv]; rfl)
      rw [Nat.zero_add] at this
      exact hl.2.2 _ this
    · rw [List.getElem?_append_right (by simp; omega), List.getElem?_replicate] at hi
      split at hi <;> cases hi
  · rcases List.mem_append.mp hv with hv | hv
    · obtain ⟨w, hw, hwv⟩ := List.mem_map.mp hv
      cases hwv
      exact hvs _ hw
    · cases (List.mem_replicate.mp hv).2
  · intro ad' v G' D' R' t h1 h2 h3 h4 h5 h6 h7 h8 h9
    exact ⟨ad', v, G', D', R', ⟨h1, h2, h3, h4, h5⟩, h6, rfl, h7, h8, h9⟩
theorem xblind {vs : List Value} {ad : Nat → Nat} {sz : Nat} : FrameBlind (xPre Γ vs ad G D R sz) := fun a U g mk q => by
  obtain ⟨q0, q1, qP, qK, qD, qE⟩ := q
  exact ⟨q0, q1, qP, va_K.moved (u := U) (U := U.calling g mk a) (Vm.Alike.refl U.vm) qK, qD, qE.blind⟩
theorem xpre {s : State} {A : Nat → Prop} {ad : Nat → Nat} {H : Heap} {locs : List Loc} {ls : Array Slot} {cells slots C S : Nat} {p : Program} {m : MethodId} {args : Array Value} {meth : Method} {c : Code} {vs : List Value} (hF : xF Γ μ p s m args meth c A) (hS : xS Γ μ s A ad L st G D R H locs ls cells slots C S kc kw) :
    (∀ q, va_A (xW Γ.2.1 ad G D R) H.size q → A q) ∧ ∀ U : State, U.heap = H → s.WarmedH U.vm → xPre Γ vs ad G D R H.size (vs.map (xtv ad)).toArray U := by
  have hf : ∀ q, va_A (xW Γ.2.1 ad G D R) H.size q → A q := fun q hq => by
    rcases hq with ⟨k, e, hk⟩ | hq
    · exact hS.1.2.1.2 k _ hk
    · exact hF.2.2.2.2.2.2.2.2.2.2 q (Nat.le_trans hS.1.2.2.1 hq)
  refine ⟨hf, fun U hU hW => ⟨rfl, by rw [hU], by rw [hU]; exact hS.1.1, va_K.moved hW.alike hF.2.2.2.2.2.2.2.2.1, hS.1.2.1.weaken (fun _ _ _ _ => trivial), ?_⟩⟩
  rw [hU]
  exact ((hF.2.2.2.2.2.2.2.2.2.1.kept hS.1.2.2.2.1).narrow hf).moved hW
theorem xback {p : Program} {e : Env} {s : State} {m : MethodId} {args : Array Value} {below : List Frame} {meth : Method} {c : Code} {A : Nat → Prop} {Qc : Array Value → State → Outcome → State → Prop} {H : Heap} {locs : List Loc} {ls : Array Slot} {cells slots C S : Nat} {ad : Nat → Nat} {a : Array Value} {st0 : List Value}
    (hF : xF Γ μ p s m args meth c A) (hS : xS Γ μ s A ad L st G D R H locs ls cells slots C S kc kw) (hQ : xQ Γ s A args Qc ad G kc Q) (hst : ∀ v ∈ rest, xok G v) (hkc : kc' ≤ kc) (hkw : kw' ≤ kw)
    (hr : va_Run p l e (xRm f C S) s m args below meth c H locs cells slots kc' kw' (F0 m pc ls st0) (rest.map (xtv ad)) (xPost Γ ad G D R H.size kc' Q' a) (va_A (xW Γ.2.1 ad G D R) H.size))
    (kk : ∀ (v : Option Value) (G' : xG) (D' : xD) (R' : xR), Q' v G' D' R' → Ex Γ l f μ (pc + 3) L (v.toList ++ rest) G' D' R' (kc - kc') (kw - kw') Q) :
    W p l e (xRm f C S) s m args below meth c H locs cells slots (MQ below Qc args s C S A) (F0 m pc ls st0) := by
  have hfr := (xpre (vs := []) hF hS).1
  intro T hT X
  obtain ⟨v, s0, t, T', L1, h0, X', hL, e1, e2, ⟨ad', w, G', D', R', ⟨g1, g2, g3, g4, g5⟩, hq, hv, hP', hD', hz, hk⟩, stp⟩ := hr T hT X
  cases hv
  rw [h0] at hz hk
  have hb := hS.2.2.2.2.2.2
  obtain ⟨t2, a1, b1⟩ := kk w G' D' R' hq p e s m args below meth c A Qc T'.heap (locs ++ L1) ls (cells + kc') (slots + kw') C S ad' hF
    ⟨⟨by rw [e1]; exact hP', hD'.weaken (fun _ q _ h => hfr q.1 h), Nat.le_trans hS.1.2.2.1 (by rw [e1]; exact hz), fun q h1 h2 => by rw [e1, hk q (Nat.lt_of_lt_of_le h1 hS.1.2.2.1) (fun z => h2 (hfr q z))]; exact hS.1.2.2.2.1 q h1 h2, fun q hq => by
      rcases List.mem_append.mp hq with h | h
      · exact hS.1.2.2.2.2 q h
      · exact hfr _ (hL q h)⟩, fun k => by rw [g1 _ (Or.inr (Nat.le_add_right _ _))]; exact hS.2.1 k, g5, hS.2.2.2.1.ag g1 hS.2.2.2.2.1, fun v hv => xok_mono g2 (hS.2.2.2.2.1 v hv), fun v hv => by
      rcases List.mem_append.mp hv with h | h
      · cases w with
        | none => cases h
        | some y =>
          rw [Option.toList_some, List.mem_singleton] at h
          exact g4 v (by rw [h])
      · exact xok_mono g2 (hst v h), by omega, by omega, by omega⟩ (hQ.grow g1 g2 (by omega)) T' rfl X'
  refine ⟨t2, stp t2 ?_, b1⟩
  have e3 : (w.toList ++ rest).map (xtv ad') = (w.map (xtv ad')).toList ++ rest.map (xtv ad) := by
    rw [List.map_append, xtvs_ag g1 hst]
    cases w <;> rfl
  rw [e3] at a1
  exact a1
theorem xcats {ad : Nat → Nat} : ∀ {rest : List Value}, (∀ v ∈ rest, xok G v) → ((rest.map (xtv ad)).map fun v => v.category).sum = rest.length
  | [], _ => rfl
  | v :: r, h => by
    rw [List.map_cons, List.map_cons, List.sum_cons, xcats (xo_t h), xok_cat (xo_h h) ad, List.length_cons]
    omega
theorem xrest {As : List Value} {b : Value} (h : ∀ v ∈ As.reverse ++ b :: rest, xok G v) : (∀ v ∈ rest, xok G v) ∧ ∀ v ∈ b :: As, xok G v := ⟨fun v hv => h v (List.mem_append_right _ (List.mem_cons_of_mem _ hv)), fun v hv => by
  rcases List.mem_cons.mp hv with rfl | hv
  · exact h _ (List.mem_append_right _ List.mem_cons_self)
  · exact h _ (List.mem_append_left _ (List.mem_reverse.mpr hv))⟩
theorem xstk {ad : Nat → Nat} {As : List Value} {b : Nat} (h : st = As.reverse ++ .ref b :: rest) : st.map (xtv ad) = (As.map (xtv ad)).reverse ++ .ref (ad b) :: rest.map (xtv ad) := by
  subst h
  rw [List.map_append, List.map_reverse]
  rfl
/-- invokevirtual of a method of the receiver's own class (number c) -/
theorem ex_callV (As : List Value) (rest : List Value) {b c : Nat} {r : vw_C} (hd : decode μ.2.1 pc = .ok (.invokevirtual idx, 3)) (hok : xOk μ' n) (hi : Cond.instanceMethod μ'.1 ∈ xT) (hs : Cond.selects μ'.1.cls μ'.1 μ'.1 ∈ xT) (hl : Cond.methodLink μ.1.cls idx μ'.1 ∈ xT) (hst : st = As.reverse ++ .ref b :: rest) (hn : As.length = n) (hrest : rest.length ≤ 8) (hc : vwCl[c]? = some r) (hr : r.1 = μ'.1.cls) (hc16 : c < 16) (hq : xis G b c) (hf : f' + 1 ≤ f) (hkc : kc' ≤ kc) (hkw : kw' ≤ kw) (hC : Cn Γ l f' μ' (.ref b :: As) G D R kc' kw' Q')
    (kk : ∀ (v : Option Value) (G' : xG) (D' : xD) (R' : xR), Q' v G' D' R' → Ex Γ l f μ (pc + 3) L (v.toList ++ rest) G' D' R' (kc - kc') (kw - kw') Q) : Ex Γ l f μ pc L st G D R kc kw Q := by
  intro p e s m args below meth c0 A Qc H locs ls cells slots C0 S ad hF hS hQ
  obtain ⟨hx, hb, hml, hown, hts, hlk, hrt, hnm, hK, hE, hA⟩ := id hF
  have hbd := hS.2.2.2.2.2.2
  have hoks := xrest (rest := rest) (by rw [← hst]; exact hS.ok)
  have hM := hC (by omega) hS.2.2.1 hoks.2 ad H.size hS.2.1
  obtain ⟨-, hpr⟩ := xpre (vs := .ref b :: As) hF hS
  have hcw : CallW (xRm f C0 S) s args μ.1.cls μ'.1.cls idx μ'.1 μ'.2.1 μ'.2.2.1 μ'.2.2.2 (xWs μ') (xRm f' kc' kw') kc' kw' n := ⟨callB_of n hts (xgood hok.1) rfl rfl rfl (hts _ hok.2.1) (hts _ hl) hok.2.2.2.1 ⟨hf, by have := hok.2.2.2.2; show 8 + (_ + 11) + 100 * f' ≤ 100 * f; omega⟩, hts _ hi, hts _ hs⟩
  have hrec := va_recv hK hS.1.1 hc (xis_cell hq hc16)
  rw [hr] at hrec
  exact xback hF hS hQ hoks.1 hkc hkw (va_runV (As := As.map (xtv ad)) (b := ad b) (rest := rest.map (xtv ad)) ⟨hx, hb, hml, hown, hts⟩ hM hcw ⟨xblind, hrec, hpr⟩ rfl (by rw [List.length_map]; exact hn) hS.2.2.2.1.1 (xstk hst) (lv_room (by rw [xcats hoks.1]; exact hrest)) hd ⟨by show _ ≤ C0; omega, by show _ ≤ S; omega⟩) kk
/-- invokestatic -/
theorem ex_callS (As : List Value) (rest : List Value) (hd : decode μ.2.1 pc = .ok (.invokestatic idx, 3)) (hok : xOk μ' n) (hi : Cond.static μ'.1 ∈ xT) (hl : Cond.methodLink μ.1.cls idx μ'.1 ∈ xT) (hst : st = As.reverse ++ rest) (hn : As.length = n) (hrest : rest.length ≤ 8) (hf : f' + 1 ≤ f) (hkc : kc' ≤ kc) (hkw : kw' ≤ kw) (hC : Cn Γ l f' μ' As G D R kc' kw' Q')
    (kk : ∀ (v : Option Value) (G' : xG) (D' : xD) (R' : xR), Q' v G' D' R' → Ex Γ l f μ (pc + 3) L (v.toList ++ rest) G' D' R' (kc - kc') (kw - kw') Q) : Ex Γ l f μ pc L st G D R kc kw Q := by
  intro p e s m args below meth c0 A Qc H locs ls cells slots C0 S ad hF hS hQ
  obtain ⟨hx, hb, hml, hown, hts, hlk, hrt, hnm, hK, hE, hA⟩ := id hF
  have hbd := hS.2.2.2.2.2.2
  have hok1 : ∀ v ∈ rest, xok G v := fun v hv => hS.ok v (by rw [hst]; exact List.mem_append_right _ hv)
  have hok2 : ∀ v ∈ As, xok G v := fun v hv => hS.ok v (by rw [hst]; exact List.mem_append_left _ (List.mem_reverse.mpr hv))
  have hM := hC (by omega) hS.2.2.1 hok2 ad H.size hS.2.1
  obtain ⟨-, hpr⟩ := xpre (vs := As) hF hS
  have hcw : CallB (xRm f C0 S) s args μ.1.cls idx μ'.1 μ'.2.1 μ'.2.2.1 μ'.2.2.2 (xWs μ') (xRm f' kc' kw') kc' kw' n ∧ (Cond.static μ'.1).before args s = true := ⟨callB_of n hts (xgood hok.1) rfl rfl rfl (hts _ hok.2.1) (hts _ hl) hok.2.2.2.1 ⟨hf, by have := hok.2.2.2.2; show 8 + (_ + 11) + 100 * f' ≤ 100 * f; omega⟩, hts _ hi⟩
  exact xback hF hS hQ hok1 hkc hkw (va_runS (As := As.map (xtv ad)) (rest := rest.map (xtv ad)) ⟨hx, hb, hml, hown, hts⟩ hM hcw ⟨xblind, hpr⟩ rfl (by rw [List.length_map]; exact hn) hS.2.2.2.1.1 (by show st.map (xtv ad) = _; rw [hst, List.map_append, List.map_reverse]) (lv_room (by rw [xcats hok1]; exact hrest)) hd ⟨by show _ ≤ C0; omega, by show _ ≤ S; omega⟩) kk
/-- invokespecial of a constructor -/
theorem ex_callI (As : List Value) (rest : List Value) {b : Nat} (hd : decode μ.2.1 pc = .ok (.invokespecial idx, 3)) (hok : xOk μ' n) (hret : μ'.2.2.2 = none) (hnm1 : μ'.1.name = "<init>") (hi : Cond.instanceMethod μ'.1 ∈ xT) (hl : Cond.methodLink μ.1.cls idx μ'.1 ∈ xT) (hst : st = As.reverse ++ .ref b :: rest) (hn : As.length = n) (hrest : rest.length ≤ 8) (hf : f' + 1 ≤ f) (hkc : kc' ≤ kc) (hkw : kw' ≤ kw) (hC : Cn Γ l f' μ' (.ref b :: As) G D R kc' kw' Q')
    (kk : ∀ (v : Option Value) (G' : xG) (D' : xD) (R' : xR), Q' v G' D' R' → Ex Γ l f μ (pc + 3) L (v.toList ++ rest) G' D' R' (kc - kc') (kw - kw') Q) : Ex Γ l f μ pc L st G D R kc kw Q := by
  intro p e s m args below meth c0 A Qc H locs ls cells slots C0 S ad hF hS hQ
  obtain ⟨hx, hb, hml, hown, hts, hlk, hrt, hnm, hK, hE, hA⟩ := id hF
  have hbd := hS.2.2.2.2.2.2
  have hoks := xrest (rest := rest) (by rw [← hst]; exact hS.ok)
  have hM := hC (by omega) hS.2.2.1 hoks.2 ad H.size hS.2.1
  obtain ⟨-, hpr⟩ := xpre (vs := .ref b :: As) hF hS
  have hw : xWs μ' = Cond.code μ'.1 μ'.2.1 μ'.2.2.1 none :: xT := by unfold xWs; rw [hret]
  have hcw : CallB (xRm f C0 S) s args μ.1.cls idx μ'.1 μ'.2.1 μ'.2.2.1 none (xWs μ') (xRm f' kc' kw') kc' kw' n ∧ μ'.1.name = "<init>" ∧ (Cond.instanceMethod μ'.1).before args s = true := ⟨callB_of n hts (xgood hok.1) hw rfl rfl (hts _ hok.2.1) (hts _ hl) hok.2.2.2.1 ⟨hf, by have := hok.2.2.2.2; show 8 + (_ + 11) + 100 * f' ≤ 100 * f; omega⟩, hnm1, hts _ hi⟩
  exact xback hF hS hQ hoks.1 hkc hkw (va_runI (As := As.map (xtv ad)) (b := ad b) (rest := rest.map (xtv ad)) ⟨hx, hb, hml, hown, hts⟩ hM hcw ⟨xblind, hpr⟩ rfl (by rw [List.length_map]; exact hn) hS.2.2.2.1.1 (xstk hst) (lv_room (by rw [xcats hoks.1]; exact hrest)) hd ⟨by show _ ≤ C0; omega, by show _ ≤ S; omega⟩) kk
/-- invokespecial of a nest mate's private constructor -/
theorem ex_callIN (As : List Value) (rest : List Value) {b : Nat} {host : String} (hd : decode μ.2.1 pc = .ok (.invokespecial idx, 3)) (hok : xOk μ' n) (hret : μ'.2.2.2 = none) (hnm1 : μ'.1.name = "<init>") (hi : Cond.instanceMethod μ'.1 ∈ xT) (hl : (μ.1.cls, idx, μ'.1, host) ∈ xNest) (hst : st = As.reverse ++ .ref b :: rest) (hn : As.length = n) (hrest : rest.length ≤ 8) (hf : f' + 1 ≤ f) (hkc : kc' ≤ kc) (hkw : kw' ≤ kw) (hC : Cn Γ l f' μ' (.ref b :: As) G D R kc' kw' Q')
    (kk : ∀ (v : Option Value) (G' : xG) (D' : xD) (R' : xR), Q' v G' D' R' → Ex Γ l f μ (pc + 3) L (v.toList ++ rest) G' D' R' (kc - kc') (kw - kw') Q) : Ex Γ l f μ pc L st G D R kc kw Q := by
  intro p e s m args below meth c0 A Qc H locs ls cells slots C0 S ad hF hS hQ
  obtain ⟨hx, hb, hml, hown, hts, hlk, hrt, hnm, hK, hE, hA⟩ := id hF
  have hbd := hS.2.2.2.2.2.2
  have hoks := xrest (rest := rest) (by rw [← hst]; exact hS.ok)
  have hM := hC (by omega) hS.2.2.1 hoks.2 ad H.size hS.2.1
  obtain ⟨-, hpr⟩ := xpre (vs := .ref b :: As) hF hS
  have hw : xWs μ' = Cond.code μ'.1 μ'.2.1 μ'.2.2.1 none :: xT := by unfold xWs; rw [hret]
  have hcw : va_CN (xRm f C0 S) s args μ.1.cls idx μ'.1 host μ'.2.1 μ'.2.2.1 none (xWs μ') (xRm f' kc' kw') kc' kw' n ∧ μ'.1.name = "<init>" ∧ (Cond.instanceMethod μ'.1).before args s = true := ⟨va_cnB n hts (xgood hok.1) hw rfl rfl (hE.1 _ hl) (hts _ hok.2.1) hok.2.2.2.1 ⟨hf, by have := hok.2.2.2.2; show 8 + (_ + 11) + 100 * f' ≤ 100 * f; omega⟩, hnm1, hts _ hi⟩
  exact xback hF hS hQ hoks.1 hkc hkw (va_runIN (As := As.map (xtv ad)) (b := ad b) (rest := rest.map (xtv ad)) ⟨hx, hb, hml, hown, hts⟩ hM hcw ⟨xblind, hpr⟩ rfl (by rw [List.length_map]; exact hn) hS.2.2.2.1.1 (xstk hst) (lv_room (by rw [xcats hoks.1]; exact hrest)) hd ⟨by show _ ≤ C0; omega, by show _ ≤ S; omega⟩) kk
/-- Object's constructor -/
theorem ex_objInit {q : Nat} (hd : decode μ.2.1 pc = .ok (.invokespecial idx, 3)) (hl : Cond.methodLink μ.1.cls idx Lib.objectInit ∈ xT) (hi : Cond.instanceMethod Lib.objectInit ∈ xT) (hc : Cond.code Lib.objectInit ⟨#[0xb1]⟩ 1 none ∈ xT) (hst : st.length ≤ 8) (hf : 1 ≤ f) (kk : Ex Γ l f μ (pc + 3) L st G D R kc kw Q) : Ex Γ l f μ pc L (.ref q :: st) G D R kc kw Q := by
  intro p e s m args below meth c0 A Qc H locs ls cells slots C0 S ad hF hS hQ
  obtain ⟨hx, hb, hml, hown, hts, hlk, hrt, hnm, hK, hE, hA⟩ := id hF
  have hk := kk p e s m args below meth c0 A Qc H locs ls cells slots C0 S ad hF (hS.ps (xo_t hS.ok)) hQ
  have hrm := lv_room (m := m) (pc := pc) (ls := ls) (rest := (Value.ref q :: st).map (xtv ad)) (st := st.map (xtv ad)) (by rw [xcats (xo_t hS.ok)]; exact hst)
  exact W.objInit hx hb hown (hts _ hl) (hts _ hi) (hts _ hc) rfl (by rw [hml]; exact hS.2.2.2.1.1) (a := ad q) (rest := st.map (xtv ad)) rfl hd hf (by show _ + 12 ≤ 100 * f; omega) hk
end XM
end
