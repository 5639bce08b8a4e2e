-- ===== PART A: goes FIRST, ahead of the names: the tables' words, and 'selects' of the private methods out of them =====
/-- a private method of a class that the tables say can be made, by its rows of tables_1 -/
def lw_okq (q : MethodName × Nat) : Prop := (q.1.cls ≠ "java/lang/invoke/MethodHandle" ∧ q.1.cls ≠ "java/lang/invoke/VarHandle") ∧ Cond.instantiable q.1.cls q.2 ∈ tables_1 ∧ Cond.privateMethod q.1 ∈ tables_1 ∧ Cond.instanceMethod q.1 ∈ tables_1
theorem lw_p0 : lw_okq (⟨"VeneerRows", "routineAt", "(I)LVeneerRows$Routine;"⟩, 14) := ⟨⟨by decide +kernel, by decide +kernel⟩, List.mem_of_getElem? (i := 20) (by decide +kernel), List.mem_of_getElem? (i := 187) (by decide +kernel), List.mem_of_getElem? (i := 188) (by decide +kernel)⟩
theorem lw_p1 : lw_okq (⟨"VeneerRows", "isNoneOrClass", "(I)Z"⟩, 14) := ⟨⟨by decide +kernel, by decide +kernel⟩, List.mem_of_getElem? (i := 20) (by decide +kernel), List.mem_of_getElem? (i := 199) (by decide +kernel), List.mem_of_getElem? (i := 200) (by decide +kernel)⟩
theorem lw_p2 : lw_okq (⟨"VeneerRows", "thingAt", "(I)LVeneerRows$Thing;"⟩, 14) := ⟨⟨by decide +kernel, by decide +kernel⟩, List.mem_of_getElem? (i := 20) (by decide +kernel), List.mem_of_getElem? (i := 207) (by decide +kernel), List.mem_of_getElem? (i := 208) (by decide +kernel)⟩
theorem lw_p3 : lw_okq (⟨"VeneerRows", "textAt", "(I)LVeneerRows$Text;"⟩, 14) := ⟨⟨by decide +kernel, by decide +kernel⟩, List.mem_of_getElem? (i := 20) (by decide +kernel), List.mem_of_getElem? (i := 211) (by decide +kernel), List.mem_of_getElem? (i := 212) (by decide +kernel)⟩
theorem lw_p4 : lw_okq (⟨"VeneerRows", "arrayAt", "(I)LVeneerRows$WordArray;"⟩, 14) := ⟨⟨by decide +kernel, by decide +kernel⟩, List.mem_of_getElem? (i := 20) (by decide +kernel), List.mem_of_getElem? (i := 215) (by decide +kernel), List.mem_of_getElem? (i := 216) (by decide +kernel)⟩
theorem lw_p5 : lw_okq (⟨"VeneerRows", "addLines", "(LVeneerRows$Line;II)V"⟩, 14) := ⟨⟨by decide +kernel, by decide +kernel⟩, List.mem_of_getElem? (i := 20) (by decide +kernel), List.mem_of_getElem? (i := 245) (by decide +kernel), List.mem_of_getElem? (i := 246) (by decide +kernel)⟩
theorem lw_p6 : lw_okq (⟨"VeneerRows", "addThing", "(LVeneerRows$Thing;)V"⟩, 14) := ⟨⟨by decide +kernel, by decide +kernel⟩, List.mem_of_getElem? (i := 20) (by decide +kernel), List.mem_of_getElem? (i := 298) (by decide +kernel), List.mem_of_getElem? (i := 299) (by decide +kernel)⟩
theorem lw_p7 : lw_okq (⟨"VeneerRows", "takeRowsOfLine", "(LVeneerRows$Thing;)V"⟩, 14) := ⟨⟨by decide +kernel, by decide +kernel⟩, List.mem_of_getElem? (i := 20) (by decide +kernel), List.mem_of_getElem? (i := 302) (by decide +kernel), List.mem_of_getElem? (i := 303) (by decide +kernel)⟩
theorem lw_p8 : lw_okq (⟨"VeneerRows$Rows", "addRow", "(LVeneerRows$Rows;I)V"⟩, 2) := ⟨⟨by decide +kernel, by decide +kernel⟩, List.mem_of_getElem? (i := 259) (by decide +kernel), List.mem_of_getElem? (i := 318) (by decide +kernel), List.mem_of_getElem? (i := 319) (by decide +kernel)⟩
theorem lw_p9 : lw_okq (⟨"VeneerRows$Rows", "has", "(II)Z"⟩, 2) := ⟨⟨by decide +kernel, by decide +kernel⟩, List.mem_of_getElem? (i := 259) (by decide +kernel), List.mem_of_getElem? (i := 333) (by decide +kernel), List.mem_of_getElem? (i := 334) (by decide +kernel)⟩
theorem lw_p10 : lw_okq (⟨"VeneerRows", "startActs", "()V"⟩, 14) := ⟨⟨by decide +kernel, by decide +kernel⟩, List.mem_of_getElem? (i := 20) (by decide +kernel), List.mem_of_getElem? (i := 381) (by decide +kernel), List.mem_of_getElem? (i := 382) (by decide +kernel)⟩
theorem lw_p11 : lw_okq (⟨"VeneerRows", "sendTo", "(IIII)I"⟩, 14) := ⟨⟨by decide +kernel, by decide +kernel⟩, List.mem_of_getElem? (i := 20) (by decide +kernel), List.mem_of_getElem? (i := 385) (by decide +kernel), List.mem_of_getElem? (i := 386) (by decide +kernel)⟩
theorem lw_p12 : lw_okq (⟨"VeneerRows", "answeringThing", "(I)LVeneerRows$Thing;"⟩, 14) := ⟨⟨by decide +kernel, by decide +kernel⟩, List.mem_of_getElem? (i := 20) (by decide +kernel), List.mem_of_getElem? (i := 389) (by decide +kernel), List.mem_of_getElem? (i := 390) (by decide +kernel)⟩
theorem lw_p13 : lw_okq (⟨"VeneerRows", "sendToClass", "(IIII)I"⟩, 14) := ⟨⟨by decide +kernel, by decide +kernel⟩, List.mem_of_getElem? (i := 20) (by decide +kernel), List.mem_of_getElem? (i := 397) (by decide +kernel), List.mem_of_getElem? (i := 398) (by decide +kernel)⟩
theorem lw_p14 : lw_okq (⟨"VeneerRows", "createOne", "(III)I"⟩, 14) := ⟨⟨by decide +kernel, by decide +kernel⟩, List.mem_of_getElem? (i := 20) (by decide +kernel), List.mem_of_getElem? (i := 401) (by decide +kernel), List.mem_of_getElem? (i := 402) (by decide +kernel)⟩
theorem lw_p15 : lw_okq (⟨"VeneerRows", "leastFree", "(I)I"⟩, 14) := ⟨⟨by decide +kernel, by decide +kernel⟩, List.mem_of_getElem? (i := 20) (by decide +kernel), List.mem_of_getElem? (i := 405) (by decide +kernel), List.mem_of_getElem? (i := 406) (by decide +kernel)⟩
def lw_privs_1 : List (MethodName × Nat) := [(⟨"VeneerRows", "routineAt", "(I)LVeneerRows$Routine;"⟩, 14), (⟨"VeneerRows", "isNoneOrClass", "(I)Z"⟩, 14), (⟨"VeneerRows", "thingAt", "(I)LVeneerRows$Thing;"⟩, 14), (⟨"VeneerRows", "textAt", "(I)LVeneerRows$Text;"⟩, 14), (⟨"VeneerRows", "arrayAt", "(I)LVeneerRows$WordArray;"⟩, 14), (⟨"VeneerRows", "addLines", "(LVeneerRows$Line;II)V"⟩, 14), (⟨"VeneerRows", "addThing", "(LVeneerRows$Thing;)V"⟩, 14), (⟨"VeneerRows", "takeRowsOfLine", "(LVeneerRows$Thing;)V"⟩, 14), (⟨"VeneerRows$Rows", "addRow", "(LVeneerRows$Rows;I)V"⟩, 2), (⟨"VeneerRows$Rows", "has", "(II)Z"⟩, 2), (⟨"VeneerRows", "startActs", "()V"⟩, 14), (⟨"VeneerRows", "sendTo", "(IIII)I"⟩, 14), (⟨"VeneerRows", "answeringThing", "(I)LVeneerRows$Thing;"⟩, 14), (⟨"VeneerRows", "sendToClass", "(IIII)I"⟩, 14), (⟨"VeneerRows", "createOne", "(III)I"⟩, 14), (⟨"VeneerRows", "leastFree", "(I)I"⟩, 14)]
theorem lw_r1 : ∀ q ∈ lw_privs_1, lw_okq q := List.forall_mem_cons.mpr ⟨lw_p0, List.forall_mem_cons.mpr ⟨lw_p1, List.forall_mem_cons.mpr ⟨lw_p2, List.forall_mem_cons.mpr ⟨lw_p3, List.forall_mem_cons.mpr ⟨lw_p4, List.forall_mem_cons.mpr ⟨lw_p5, List.forall_mem_cons.mpr ⟨lw_p6, List.forall_mem_cons.mpr ⟨lw_p7, List.forall_mem_cons.mpr ⟨lw_p8, List.forall_mem_cons.mpr ⟨lw_p9, List.forall_mem_cons.mpr ⟨lw_p10, List.forall_mem_cons.mpr ⟨lw_p11, List.forall_mem_cons.mpr ⟨lw_p12, List.forall_mem_cons.mpr ⟨lw_p13, List.forall_mem_cons.mpr ⟨lw_p14, List.forall_mem_cons.mpr ⟨lw_p15, fun _ h => absurd h List.not_mem_nil⟩⟩⟩⟩⟩⟩⟩⟩⟩⟩⟩⟩⟩⟩⟩⟩
theorem lw_p16 : lw_okq (⟨"VeneerRows", "sendIfProvided", "(LVeneerRows$Thing;IIII)V"⟩, 14) := ⟨⟨by decide +kernel, by decide +kernel⟩, List.mem_of_getElem? (i := 20) (by decide +kernel), List.mem_of_getElem? (i := 409) (by decide +kernel), List.mem_of_getElem? (i := 410) (by decide +kernel)⟩
theorem lw_p17 : lw_okq (⟨"VeneerRows", "destroyOne", "(III)I"⟩, 14) := ⟨⟨by decide +kernel, by decide +kernel⟩, List.mem_of_getElem? (i := 20) (by decide +kernel), List.mem_of_getElem? (i := 413) (by decide +kernel), List.mem_of_getElem? (i := 414) (by decide +kernel)⟩
theorem lw_p18 : lw_okq (⟨"VeneerRows", "thereInPool", "(II)LVeneerRows$Thing;"⟩, 14) := ⟨⟨by decide +kernel, by decide +kernel⟩, List.mem_of_getElem? (i := 20) (by decide +kernel), List.mem_of_getElem? (i := 417) (by decide +kernel), List.mem_of_getElem? (i := 418) (by decide +kernel)⟩
theorem lw_p19 : lw_okq (⟨"VeneerRows$Tree", "closeGap", "(II)V"⟩, 3) := ⟨⟨by decide +kernel, by decide +kernel⟩, List.mem_of_getElem? (i := 36) (by decide +kernel), List.mem_of_getElem? (i := 432) (by decide +kernel), List.mem_of_getElem? (i := 433) (by decide +kernel)⟩
theorem lw_p20 : lw_okq (⟨"VeneerRows", "freeOnes", "(I)I"⟩, 14) := ⟨⟨by decide +kernel, by decide +kernel⟩, List.mem_of_getElem? (i := 20) (by decide +kernel), List.mem_of_getElem? (i := 449) (by decide +kernel), List.mem_of_getElem? (i := 450) (by decide +kernel)⟩
theorem lw_p21 : lw_okq (⟨"VeneerRows", "recreateOne", "(III)I"⟩, 14) := ⟨⟨by decide +kernel, by decide +kernel⟩, List.mem_of_getElem? (i := 20) (by decide +kernel), List.mem_of_getElem? (i := 453) (by decide +kernel), List.mem_of_getElem? (i := 454) (by decide +kernel)⟩
theorem lw_p22 : lw_okq (⟨"VeneerRows", "answerOfRow", "(LVeneerRows$Rows;IIII)I"⟩, 14) := ⟨⟨by decide +kernel, by decide +kernel⟩, List.mem_of_getElem? (i := 20) (by decide +kernel), List.mem_of_getElem? (i := 457) (by decide +kernel), List.mem_of_getElem? (i := 458) (by decide +kernel)⟩
theorem lw_p23 : lw_okq (⟨"VeneerRows$Output", "add", "(C)V"⟩, 2) := ⟨⟨by decide +kernel, by decide +kernel⟩, List.mem_of_getElem? (i := 53) (by decide +kernel), List.mem_of_getElem? (i := 470) (by decide +kernel), List.mem_of_getElem? (i := 471) (by decide +kernel)⟩
theorem lw_p24 : lw_okq (⟨"VeneerRows", "run", "(IIII)I"⟩, 14) := ⟨⟨by decide +kernel, by decide +kernel⟩, List.mem_of_getElem? (i := 20) (by decide +kernel), List.mem_of_getElem? (i := 474) (by decide +kernel), List.mem_of_getElem? (i := 475) (by decide +kernel)⟩
theorem lw_p25 : lw_okq (⟨"VeneerRows", "mayAct", "(I)Z"⟩, 14) := ⟨⟨by decide +kernel, by decide +kernel⟩, List.mem_of_getElem? (i := 20) (by decide +kernel), List.mem_of_getElem? (i := 478) (by decide +kernel), List.mem_of_getElem? (i := 479) (by decide +kernel)⟩
theorem lw_p26 : lw_okq (⟨"VeneerRows", "perform", "(LVeneerRows$Routine;IIIII)I"⟩, 14) := ⟨⟨by decide +kernel, by decide +kernel⟩, List.mem_of_getElem? (i := 20) (by decide +kernel), List.mem_of_getElem? (i := 482) (by decide +kernel), List.mem_of_getElem? (i := 483) (by decide +kernel)⟩
theorem lw_p27 : lw_okq (⟨"VeneerRows$Routine", "has", "(I)Z"⟩, 4) := ⟨⟨by decide +kernel, by decide +kernel⟩, List.mem_of_getElem? (i := 163) (by decide +kernel), List.mem_of_getElem? (i := 490) (by decide +kernel), List.mem_of_getElem? (i := 491) (by decide +kernel)⟩
theorem lw_p28 : lw_okq (⟨"VeneerRows", "thingWithValue", "(III)LVeneerRows$Thing;"⟩, 14) := ⟨⟨by decide +kernel, by decide +kernel⟩, List.mem_of_getElem? (i := 20) (by decide +kernel), List.mem_of_getElem? (i := 506) (by decide +kernel), List.mem_of_getElem? (i := 507) (by decide +kernel)⟩
theorem lw_p29 : lw_okq (⟨"VeneerRows", "sendToAs", "(IIIII)I"⟩, 14) := ⟨⟨by decide +kernel, by decide +kernel⟩, List.mem_of_getElem? (i := 20) (by decide +kernel), List.mem_of_getElem? (i := 514) (by decide +kernel), List.mem_of_getElem? (i := 515) (by decide +kernel)⟩
theorem lw_p30 : lw_okq (⟨"VeneerRows", "sayName", "(LVeneerRows$Thing;II)V"⟩, 14) := ⟨⟨by decide +kernel, by decide +kernel⟩, List.mem_of_getElem? (i := 20) (by decide +kernel), List.mem_of_getElem? (i := 604) (by decide +kernel), List.mem_of_getElem? (i := 605) (by decide +kernel)⟩
theorem lw_p31 : lw_okq (⟨"VeneerRows", "arrayWithWord", "(III)LVeneerRows$WordArray;"⟩, 14) := ⟨⟨by decide +kernel, by decide +kernel⟩, List.mem_of_getElem? (i := 20) (by decide +kernel), List.mem_of_getElem? (i := 711) (by decide +kernel), List.mem_of_getElem? (i := 712) (by decide +kernel)⟩
def lw_privs_2 : List (MethodName × Nat) := [(⟨"VeneerRows", "sendIfProvided", "(LVeneerRows$Thing;IIII)V"⟩, 14), (⟨"VeneerRows", "destroyOne", "(III)I"⟩, 14), (⟨"VeneerRows", "thereInPool", "(II)LVeneerRows$Thing;"⟩, 14), (⟨"VeneerRows$Tree", "closeGap", "(II)V"⟩, 3), (⟨"VeneerRows", "freeOnes", "(I)I"⟩, 14), (⟨"VeneerRows", "recreateOne", "(III)I"⟩, 14), (⟨"VeneerRows", "answerOfRow", "(LVeneerRows$Rows;IIII)I"⟩, 14), (⟨"VeneerRows$Output", "add", "(C)V"⟩, 2), (⟨"VeneerRows", "run", "(IIII)I"⟩, 14), (⟨"VeneerRows", "mayAct", "(I)Z"⟩, 14), (⟨"VeneerRows", "perform", "(LVeneerRows$Routine;IIIII)I"⟩, 14), (⟨"VeneerRows$Routine", "has", "(I)Z"⟩, 4), (⟨"VeneerRows", "thingWithValue", "(III)LVeneerRows$Thing;"⟩, 14), (⟨"VeneerRows", "sendToAs", "(IIIII)I"⟩, 14), (⟨"VeneerRows", "sayName", "(LVeneerRows$Thing;II)V"⟩, 14), (⟨"VeneerRows", "arrayWithWord", "(III)LVeneerRows$WordArray;"⟩, 14)]
theorem lw_r2 : ∀ q ∈ lw_privs_2, lw_okq q := List.forall_mem_cons.mpr ⟨lw_p16, List.forall_mem_cons.mpr ⟨lw_p17, List.forall_mem_cons.mpr ⟨lw_p18, List.forall_mem_cons.mpr ⟨lw_p19, List.forall_mem_cons.mpr ⟨lw_p20, List.forall_mem_cons.mpr ⟨lw_p21, List.forall_mem_cons.mpr ⟨lw_p22, List.forall_mem_cons.mpr ⟨lw_p23, List.forall_mem_cons.mpr ⟨lw_p24, List.forall_mem_cons.mpr ⟨lw_p25, List.forall_mem_cons.mpr ⟨lw_p26, List.forall_mem_cons.mpr ⟨lw_p27, List.forall_mem_cons.mpr ⟨lw_p28, List.forall_mem_cons.mpr ⟨lw_p29, List.forall_mem_cons.mpr ⟨lw_p30, List.forall_mem_cons.mpr ⟨lw_p31, fun _ h => absurd h List.not_mem_nil⟩⟩⟩⟩⟩⟩⟩⟩⟩⟩⟩⟩⟩⟩⟩⟩
theorem lw_p32 : lw_okq (⟨"VeneerRowsModel", "isClass", "(I)Z"⟩, 43) := ⟨⟨by decide +kernel, by decide +kernel⟩, List.mem_of_getElem? (i := 770) (by decide +kernel), List.mem_of_getElem? (i := 938) (by decide +kernel), List.mem_of_getElem? (i := 939) (by decide +kernel)⟩
theorem lw_p33 : lw_okq (⟨"VeneerRowsModel", "newThing", "(Z)I"⟩, 43) := ⟨⟨by decide +kernel, by decide +kernel⟩, List.mem_of_getElem? (i := 770) (by decide +kernel), List.mem_of_getElem? (i := 942) (by decide +kernel), List.mem_of_getElem? (i := 943) (by decide +kernel)⟩
theorem lw_p34 : lw_okq (⟨"VeneerRowsModel", "addToLine", "(II)V"⟩, 43) := ⟨⟨by decide +kernel, by decide +kernel⟩, List.mem_of_getElem? (i := 770) (by decide +kernel), List.mem_of_getElem? (i := 946) (by decide +kernel), List.mem_of_getElem? (i := 947) (by decide +kernel)⟩
theorem lw_p35 : lw_okq (⟨"VeneerRowsModel", "joinLine", "(II)V"⟩, 43) := ⟨⟨by decide +kernel, by decide +kernel⟩, List.mem_of_getElem? (i := 770) (by decide +kernel), List.mem_of_getElem? (i := 950) (by decide +kernel), List.mem_of_getElem? (i := 951) (by decide +kernel)⟩
theorem lw_p36 : lw_okq (⟨"VeneerRowsModel", "rowsAnew", "(I)V"⟩, 43) := ⟨⟨by decide +kernel, by decide +kernel⟩, List.mem_of_getElem? (i := 770) (by decide +kernel), List.mem_of_getElem? (i := 954) (by decide +kernel), List.mem_of_getElem? (i := 955) (by decide +kernel)⟩
theorem lw_p37 : lw_okq (⟨"VeneerRowsModel", "say", "(I)V"⟩, 43) := ⟨⟨by decide +kernel, by decide +kernel⟩, List.mem_of_getElem? (i := 770) (by decide +kernel), List.mem_of_getElem? (i := 975) (by decide +kernel), List.mem_of_getElem? (i := 976) (by decide +kernel)⟩
theorem lw_p38 : lw_okq (⟨"VeneerRowsModel", "sayNumber", "(I)V"⟩, 43) := ⟨⟨by decide +kernel, by decide +kernel⟩, List.mem_of_getElem? (i := 770) (by decide +kernel), List.mem_of_getElem? (i := 979) (by decide +kernel), List.mem_of_getElem? (i := 980) (by decide +kernel)⟩
theorem lw_p39 : lw_okq (⟨"VeneerRowsModel", "sayArticle", "(II)V"⟩, 43) := ⟨⟨by decide +kernel, by decide +kernel⟩, List.mem_of_getElem? (i := 770) (by decide +kernel), List.mem_of_getElem? (i := 983) (by decide +kernel), List.mem_of_getElem? (i := 984) (by decide +kernel)⟩
theorem lw_p40 : lw_okq (⟨"VeneerRowsModel", "sayText", "(I)V"⟩, 43) := ⟨⟨by decide +kernel, by decide +kernel⟩, List.mem_of_getElem? (i := 770) (by decide +kernel), List.mem_of_getElem? (i := 990) (by decide +kernel), List.mem_of_getElem? (i := 991) (by decide +kernel)⟩
theorem lw_p41 : lw_okq (⟨"VeneerRowsModel", "wrong", "(III)I"⟩, 43) := ⟨⟨by decide +kernel, by decide +kernel⟩, List.mem_of_getElem? (i := 770) (by decide +kernel), List.mem_of_getElem? (i := 998) (by decide +kernel), List.mem_of_getElem? (i := 999) (by decide +kernel)⟩
theorem lw_p42 : lw_okq (⟨"VeneerRowsModel", "rowAt", "(II)I"⟩, 43) := ⟨⟨by decide +kernel, by decide +kernel⟩, List.mem_of_getElem? (i := 770) (by decide +kernel), List.mem_of_getElem? (i := 1002) (by decide +kernel), List.mem_of_getElem? (i := 1003) (by decide +kernel)⟩
theorem lw_p43 : lw_okq (⟨"VeneerRowsModel", "fails", "(III)I"⟩, 43) := ⟨⟨by decide +kernel, by decide +kernel⟩, List.mem_of_getElem? (i := 770) (by decide +kernel), List.mem_of_getElem? (i := 1006) (by decide +kernel), List.mem_of_getElem? (i := 1007) (by decide +kernel)⟩
theorem lw_p44 : lw_okq (⟨"VeneerRowsModel", "leave", "(I)V"⟩, 43) := ⟨⟨by decide +kernel, by decide +kernel⟩, List.mem_of_getElem? (i := 770) (by decide +kernel), List.mem_of_getElem? (i := 1018) (by decide +kernel), List.mem_of_getElem? (i := 1019) (by decide +kernel)⟩
theorem lw_p45 : lw_okq (⟨"VeneerRowsModel", "begins", "()V"⟩, 43) := ⟨⟨by decide +kernel, by decide +kernel⟩, List.mem_of_getElem? (i := 770) (by decide +kernel), List.mem_of_getElem? (i := 1038) (by decide +kernel), List.mem_of_getElem? (i := 1039) (by decide +kernel)⟩
theorem lw_p46 : lw_okq (⟨"VeneerRowsModel", "sends", "(III)V"⟩, 43) := ⟨⟨by decide +kernel, by decide +kernel⟩, List.mem_of_getElem? (i := 770) (by decide +kernel), List.mem_of_getElem? (i := 1042) (by decide +kernel), List.mem_of_getElem? (i := 1043) (by decide +kernel)⟩
theorem lw_p47 : lw_okq (⟨"VeneerRowsModel", "sendGroup", "(III)V"⟩, 43) := ⟨⟨by decide +kernel, by decide +kernel⟩, List.mem_of_getElem? (i := 770) (by decide +kernel), List.mem_of_getElem? (i := 1046) (by decide +kernel), List.mem_of_getElem? (i := 1047) (by decide +kernel)⟩
def lw_privs_3 : List (MethodName × Nat) := [(⟨"VeneerRowsModel", "isClass", "(I)Z"⟩, 43), (⟨"VeneerRowsModel", "newThing", "(Z)I"⟩, 43), (⟨"VeneerRowsModel", "addToLine", "(II)V"⟩, 43), (⟨"VeneerRowsModel", "joinLine", "(II)V"⟩, 43), (⟨"VeneerRowsModel", "rowsAnew", "(I)V"⟩, 43), (⟨"VeneerRowsModel", "say", "(I)V"⟩, 43), (⟨"VeneerRowsModel", "sayNumber", "(I)V"⟩, 43), (⟨"VeneerRowsModel", "sayArticle", "(II)V"⟩, 43), (⟨"VeneerRowsModel", "sayText", "(I)V"⟩, 43), (⟨"VeneerRowsModel", "wrong", "(III)I"⟩, 43), (⟨"VeneerRowsModel", "rowAt", "(II)I"⟩, 43), (⟨"VeneerRowsModel", "fails", "(III)I"⟩, 43), (⟨"VeneerRowsModel", "leave", "(I)V"⟩, 43), (⟨"VeneerRowsModel", "begins", "()V"⟩, 43), (⟨"VeneerRowsModel", "sends", "(III)V"⟩, 43), (⟨"VeneerRowsModel", "sendGroup", "(III)V"⟩, 43)]
theorem lw_r3 : ∀ q ∈ lw_privs_3, lw_okq q := List.forall_mem_cons.mpr ⟨lw_p32, List.forall_mem_cons.mpr ⟨lw_p33, List.forall_mem_cons.mpr ⟨lw_p34, List.forall_mem_cons.mpr ⟨lw_p35, List.forall_mem_cons.mpr ⟨lw_p36, List.forall_mem_cons.mpr ⟨lw_p37, List.forall_mem_cons.mpr ⟨lw_p38, List.forall_mem_cons.mpr ⟨lw_p39, List.forall_mem_cons.mpr ⟨lw_p40, List.forall_mem_cons.mpr ⟨lw_p41, List.forall_mem_cons.mpr ⟨lw_p42, List.forall_mem_cons.mpr ⟨lw_p43, List.forall_mem_cons.mpr ⟨lw_p44, List.forall_mem_cons.mpr ⟨lw_p45, List.forall_mem_cons.mpr ⟨lw_p46, List.forall_mem_cons.mpr ⟨lw_p47, fun _ h => absurd h List.not_mem_nil⟩⟩⟩⟩⟩⟩⟩⟩⟩⟩⟩⟩⟩⟩⟩⟩
theorem lw_p48 : lw_okq (⟨"VeneerRowsModel", "answers", "(I)V"⟩, 43) := ⟨⟨by decide +kernel, by decide +kernel⟩, List.mem_of_getElem? (i := 770) (by decide +kernel), List.mem_of_getElem? (i := 1050) (by decide +kernel), List.mem_of_getElem? (i := 1051) (by decide +kernel)⟩
theorem lw_p49 : lw_okq (⟨"VeneerRowsModel", "pile", "(II)V"⟩, 43) := ⟨⟨by decide +kernel, by decide +kernel⟩, List.mem_of_getElem? (i := 770) (by decide +kernel), List.mem_of_getElem? (i := 1054) (by decide +kernel), List.mem_of_getElem? (i := 1055) (by decide +kernel)⟩
theorem lw_p50 : lw_okq (⟨"VeneerRowsModel", "sendIfThere", "(III)V"⟩, 43) := ⟨⟨by decide +kernel, by decide +kernel⟩, List.mem_of_getElem? (i := 770) (by decide +kernel), List.mem_of_getElem? (i := 1058) (by decide +kernel), List.mem_of_getElem? (i := 1059) (by decide +kernel)⟩
theorem lw_p51 : lw_okq (⟨"VeneerRowsModel", "sendObject", "(III)V"⟩, 43) := ⟨⟨by decide +kernel, by decide +kernel⟩, List.mem_of_getElem? (i := 770) (by decide +kernel), List.mem_of_getElem? (i := 1062) (by decide +kernel), List.mem_of_getElem? (i := 1063) (by decide +kernel)⟩
theorem lw_p52 : lw_okq (⟨"VeneerRowsModel", "does", "(III)V"⟩, 43) := ⟨⟨by decide +kernel, by decide +kernel⟩, List.mem_of_getElem? (i := 770) (by decide +kernel), List.mem_of_getElem? (i := 1066) (by decide +kernel), List.mem_of_getElem? (i := 1067) (by decide +kernel)⟩
theorem lw_p53 : lw_okq (⟨"VeneerRowsModel", "runs", "(III)V"⟩, 43) := ⟨⟨by decide +kernel, by decide +kernel⟩, List.mem_of_getElem? (i := 770) (by decide +kernel), List.mem_of_getElem? (i := 1070) (by decide +kernel), List.mem_of_getElem? (i := 1071) (by decide +kernel)⟩
theorem lw_p54 : lw_okq (⟨"VeneerRowsModel", "goes", "()I"⟩, 43) := ⟨⟨by decide +kernel, by decide +kernel⟩, List.mem_of_getElem? (i := 770) (by decide +kernel), List.mem_of_getElem? (i := 1074) (by decide +kernel), List.mem_of_getElem? (i := 1075) (by decide +kernel)⟩
theorem lw_p55 : lw_okq (⟨"VeneerRowsModel", "take", "()V"⟩, 43) := ⟨⟨by decide +kernel, by decide +kernel⟩, List.mem_of_getElem? (i := 770) (by decide +kernel), List.mem_of_getElem? (i := 1078) (by decide +kernel), List.mem_of_getElem? (i := 1079) (by decide +kernel)⟩
theorem lw_p56 : lw_okq (⟨"VeneerRowsModel", "step", "()V"⟩, 43) := ⟨⟨by decide +kernel, by decide +kernel⟩, List.mem_of_getElem? (i := 770) (by decide +kernel), List.mem_of_getElem? (i := 1082) (by decide +kernel), List.mem_of_getElem? (i := 1083) (by decide +kernel)⟩
theorem lw_p57 : lw_okq (⟨"VeneerRowsModel", "ends", "(I)V"⟩, 43) := ⟨⟨by decide +kernel, by decide +kernel⟩, List.mem_of_getElem? (i := 770) (by decide +kernel), List.mem_of_getElem? (i := 1086) (by decide +kernel), List.mem_of_getElem? (i := 1087) (by decide +kernel)⟩
theorem lw_p58 : lw_okq (⟨"VeneerRowsModel", "doAct", "(IIII)V"⟩, 43) := ⟨⟨by decide +kernel, by decide +kernel⟩, List.mem_of_getElem? (i := 770) (by decide +kernel), List.mem_of_getElem? (i := 1090) (by decide +kernel), List.mem_of_getElem? (i := 1091) (by decide +kernel)⟩
theorem lw_p59 : lw_okq (⟨"VeneerRowsModel", "sendsAs", "(IIII)V"⟩, 43) := ⟨⟨by decide +kernel, by decide +kernel⟩, List.mem_of_getElem? (i := 770) (by decide +kernel), List.mem_of_getElem? (i := 1096) (by decide +kernel), List.mem_of_getElem? (i := 1097) (by decide +kernel)⟩
theorem lw_p60 : lw_okq (⟨"VeneerRowsModel", "isWrongWord", "(III)Z"⟩, 43) := ⟨⟨by decide +kernel, by decide +kernel⟩, List.mem_of_getElem? (i := 770) (by decide +kernel), List.mem_of_getElem? (i := 1116) (by decide +kernel), List.mem_of_getElem? (i := 1117) (by decide +kernel)⟩
def lw_privs_4 : List (MethodName × Nat) := [(⟨"VeneerRowsModel", "answers", "(I)V"⟩, 43), (⟨"VeneerRowsModel", "pile", "(II)V"⟩, 43), (⟨"VeneerRowsModel", "sendIfThere", "(III)V"⟩, 43), (⟨"VeneerRowsModel", "sendObject", "(III)V"⟩, 43), (⟨"VeneerRowsModel", "does", "(III)V"⟩, 43), (⟨"VeneerRowsModel", "runs", "(III)V"⟩, 43), (⟨"VeneerRowsModel", "goes", "()I"⟩, 43), (⟨"VeneerRowsModel", "take", "()V"⟩, 43), (⟨"VeneerRowsModel", "step", "()V"⟩, 43), (⟨"VeneerRowsModel", "ends", "(I)V"⟩, 43), (⟨"VeneerRowsModel", "doAct", "(IIII)V"⟩, 43), (⟨"VeneerRowsModel", "sendsAs", "(IIII)V"⟩, 43), (⟨"VeneerRowsModel", "isWrongWord", "(III)Z"⟩, 43)]
theorem lw_r4 : ∀ q ∈ lw_privs_4, lw_okq q := List.forall_mem_cons.mpr ⟨lw_p48, List.forall_mem_cons.mpr ⟨lw_p49, List.forall_mem_cons.mpr ⟨lw_p50, List.forall_mem_cons.mpr ⟨lw_p51, List.forall_mem_cons.mpr ⟨lw_p52, List.forall_mem_cons.mpr ⟨lw_p53, List.forall_mem_cons.mpr ⟨lw_p54, List.forall_mem_cons.mpr ⟨lw_p55, List.forall_mem_cons.mpr ⟨lw_p56, List.forall_mem_cons.mpr ⟨lw_p57, List.forall_mem_cons.mpr ⟨lw_p58, List.forall_mem_cons.mpr ⟨lw_p59, List.forall_mem_cons.mpr ⟨lw_p60, fun _ h => absurd h List.not_mem_nil⟩⟩⟩⟩⟩⟩⟩⟩⟩⟩⟩⟩⟩
def lw_privs : List (MethodName × Nat) := lw_privs_1 ++ (lw_privs_2 ++ (lw_privs_3 ++ (lw_privs_4)))
def lw_tbl : List Cond := k2_sels lw_privs ++ tables_1
theorem lw_privs_ok : ∀ q ∈ lw_privs, lw_okq q := by
  show ∀ q ∈ lw_privs_1 ++ (lw_privs_2 ++ (lw_privs_3 ++ (lw_privs_4))), lw_okq q
  exact List.forall_mem_append.mpr ⟨lw_r1, List.forall_mem_append.mpr ⟨lw_r2, List.forall_mem_append.mpr ⟨lw_r3, lw_r4⟩⟩⟩
def RX0 : String := "VeneerRows$FaultList"
def TX0 : u_T := fun k => match k with
  | 0 => ("VeneerRows$FaultList", "kinds", "[I", true)
  | 1 => ("VeneerRows$FaultList", "numbers", "[I", true)
  | 2 => ("VeneerRows$FaultList", "seconds", "[I", true)
  | 3 => ("VeneerRows$FaultList", "strict", "Z", true)
  | _ => ("VeneerRows$FaultList", "length", "I", false)
def tyX0 : Nat → FieldType := fun k => match k with
  | 0 => .array .int
  | 1 => .array .int
  | 2 => .array .int
  | 3 => .boolean
  | _ => .int
theorem nmX0 : ∀ a, a < 5 → ∀ b, b < 5 → a ≠ b → (TX0 a).2.1 ≠ (TX0 b).2.1 := by decide +kernel
theorem tyX0_ok : ∀ k, k < 5 → parseFieldDescriptor (TX0 k).2.2.1 = some (tyX0 k) := by decide +kernel
abbrev cX0_init : ByteArray := prog_2_method_1_code
def yX0_init : MethodName := ⟨RX0, "<init>", "(Z)V"⟩
abbrev cX0_tell : ByteArray := prog_2_method_2_code
def yX0_tell : MethodName := ⟨RX0, "tell", "(III)I"⟩
abbrev cX0_at : ByteArray := prog_2_method_3_code
def yX0_at : MethodName := ⟨RX0, "at", "(II)I"⟩
def RX1 : String := "VeneerRows$Line"
def TX1 : u_T := fun k => match k with
  | 0 => ("VeneerRows$Line", "groups", "[I", true)
  | _ => ("VeneerRows$Line", "length", "I", false)
def tyX1 : Nat → FieldType := fun k => match k with
  | 0 => .array .int
  | _ => .int
theorem nmX1 : ∀ a, a < 2 → ∀ b, b < 2 → a ≠ b → (TX1 a).2.1 ≠ (TX1 b).2.1 := by decide +kernel
theorem tyX1_ok : ∀ k, k < 2 → parseFieldDescriptor (TX1 k).2.2.1 = some (tyX1 k) := by decide +kernel
abbrev cX1_init : ByteArray := prog_3_method_1_code
def yX1_init : MethodName := ⟨RX1, "<init>", "()V"⟩
abbrev cX1_at : ByteArray := prog_3_method_2_code
def yX1_at : MethodName := ⟨RX1, "at", "(I)I"⟩
abbrev cX1_has : ByteArray := prog_3_method_3_code
def yX1_has : MethodName := ⟨RX1, "has", "(I)Z"⟩
abbrev cX1_add : ByteArray := prog_3_method_4_code
def yX1_add : MethodName := ⟨RX1, "add", "(I)V"⟩
abbrev cX1_addAll : ByteArray := prog_3_method_5_code
def yX1_addAll : MethodName := ⟨RX1, "addAll", "(LVeneerRows$Line;)V"⟩
def RX2 : String := "VeneerRows$Output"
def TX2 : u_T := fun k => match k with
  | 0 => ("VeneerRows$Output", "bytes", "[B", true)
  | _ => ("VeneerRows$Output", "length", "I", false)
def tyX2 : Nat → FieldType := fun k => match k with
  | 0 => .array .byte
  | _ => .int
theorem nmX2 : ∀ a, a < 2 → ∀ b, b < 2 → a ≠ b → (TX2 a).2.1 ≠ (TX2 b).2.1 := by decide +kernel
theorem tyX2_ok : ∀ k, k < 2 → parseFieldDescriptor (TX2 k).2.2.1 = some (tyX2 k) := by decide +kernel
abbrev cX2_init : ByteArray := prog_4_method_1_code
def yX2_init : MethodName := ⟨RX2, "<init>", "()V"⟩
abbrev cX2_at : ByteArray := prog_4_method_2_code
def yX2_at : MethodName := ⟨RX2, "at", "(I)I"⟩
abbrev cX2_add : ByteArray := prog_4_method_3_code
def yX2_add : MethodName := ⟨RX2, "add", "(C)V"⟩
abbrev cX2_say : ByteArray := prog_4_method_4_code
def yX2_say : MethodName := ⟨RX2, "say", "(Ljava/lang/String;)V"⟩
abbrev cX2_say_ : ByteArray := prog_4_method_5_code
def yX2_say_ : MethodName := ⟨RX2, "say", "(LVeneerRows$Text;)V"⟩
abbrev cX2_sayNumber : ByteArray := prog_4_method_6_code
def yX2_sayNumber : MethodName := ⟨RX2, "sayNumber", "(I)V"⟩
def RX3 : String := "VeneerRows$Routine"
def TX3 : u_T := fun k => match k with
  | 0 => ("VeneerRows$Routine", "ops", "[I", true)
  | 1 => ("VeneerRows$Routine", "firsts", "[I", true)
  | 2 => ("VeneerRows$Routine", "seconds", "[I", true)
  | _ => ("VeneerRows$Routine", "length", "I", false)
def tyX3 : Nat → FieldType := fun k => match k with
  | 0 => .array .int
  | 1 => .array .int
  | 2 => .array .int
  | _ => .int
theorem nmX3 : ∀ a, a < 4 → ∀ b, b < 4 → a ≠ b → (TX3 a).2.1 ≠ (TX3 b).2.1 := by decide +kernel
theorem tyX3_ok : ∀ k, k < 4 → parseFieldDescriptor (TX3 k).2.2.1 = some (tyX3 k) := by decide +kernel
abbrev cX3_init : ByteArray := prog_5_method_1_code
def yX3_init : MethodName := ⟨RX3, "<init>", "()V"⟩
abbrev cX3_add : ByteArray := prog_5_method_2_code
def yX3_add : MethodName := ⟨RX3, "add", "(III)V"⟩
abbrev cX3_has : ByteArray := prog_5_method_3_code
def yX3_has : MethodName := ⟨RX3, "has", "(I)Z"⟩
abbrev cX3_opAt : ByteArray := prog_5_method_4_code
def yX3_opAt : MethodName := ⟨RX3, "opAt", "(I)I"⟩
abbrev cX3_firstAt : ByteArray := prog_5_method_5_code
def yX3_firstAt : MethodName := ⟨RX3, "firstAt", "(I)I"⟩
abbrev cX3_secondAt : ByteArray := prog_5_method_6_code
def yX3_secondAt : MethodName := ⟨RX3, "secondAt", "(I)I"⟩
def RX4 : String := "VeneerRows$Rows"
def TX4 : u_T := fun k => match k with
  | 0 => ("VeneerRows$Rows", "lengths", "[I", true)
  | _ => ("VeneerRows$Rows", "values", "[I", true)
def tyX4 : Nat → FieldType := fun k => match k with
  | 0 => .array .int
  | _ => .array .int
theorem nmX4 : ∀ a, a < 2 → ∀ b, b < 2 → a ≠ b → (TX4 a).2.1 ≠ (TX4 b).2.1 := by decide +kernel
theorem tyX4_ok : ∀ k, k < 2 → parseFieldDescriptor (TX4 k).2.2.1 = some (tyX4 k) := by decide +kernel
abbrev cX4_init : ByteArray := prog_6_method_1_code
def yX4_init : MethodName := ⟨RX4, "<init>", "()V"⟩
abbrev cX4_isName : ByteArray := prog_6_method_2_code
def yX4_isName : MethodName := ⟨RX4, "isName", "(I)Z"⟩
abbrev cX4_lengthOf : ByteArray := prog_6_method_3_code
def yX4_lengthOf : MethodName := ⟨RX4, "lengthOf", "(I)I"⟩
abbrev cX4_has : ByteArray := prog_6_method_4_code
def yX4_has : MethodName := ⟨RX4, "has", "(II)Z"⟩
abbrev cX4_at : ByteArray := prog_6_method_5_code
def yX4_at : MethodName := ⟨RX4, "at", "(II)I"⟩
abbrev cX4_put : ByteArray := prog_6_method_6_code
def yX4_put : MethodName := ⟨RX4, "put", "(III)V"⟩
abbrev cX4_add : ByteArray := prog_6_method_7_code
def yX4_add : MethodName := ⟨RX4, "add", "(II)V"⟩
abbrev cX4_clearAll : ByteArray := prog_6_method_8_code
def yX4_clearAll : MethodName := ⟨RX4, "clearAll", "()V"⟩
abbrev cX4_inherit : ByteArray := prog_6_method_9_code
def yX4_inherit : MethodName := ⟨RX4, "inherit", "(LVeneerRows$Rows;)V"⟩
abbrev cX4_addRow : ByteArray := prog_6_method_10_code
def yX4_addRow : MethodName := ⟨RX4, "addRow", "(LVeneerRows$Rows;I)V"⟩
def RX5 : String := "VeneerRows$Text"
def TX5 : u_T := fun k => match k with
  | 0 => ("VeneerRows$Text", "letters", "[B", true)
  | _ => ("VeneerRows$Text", "length", "I", false)
def tyX5 : Nat → FieldType := fun k => match k with
  | 0 => .array .byte
  | _ => .int
theorem nmX5 : ∀ a, a < 2 → ∀ b, b < 2 → a ≠ b → (TX5 a).2.1 ≠ (TX5 b).2.1 := by decide +kernel
theorem tyX5_ok : ∀ k, k < 2 → parseFieldDescriptor (TX5 k).2.2.1 = some (tyX5 k) := by decide +kernel
abbrev cX5_init : ByteArray := prog_7_method_1_code
def yX5_init : MethodName := ⟨RX5, "<init>", "()V"⟩
abbrev cX5_add : ByteArray := prog_7_method_2_code
def yX5_add : MethodName := ⟨RX5, "add", "(B)V"⟩
abbrev cX5_at : ByteArray := prog_7_method_3_code
def yX5_at : MethodName := ⟨RX5, "at", "(I)C"⟩
abbrev cX5_beginsWithVowel : ByteArray := prog_7_method_4_code
def yX5_beginsWithVowel : MethodName := ⟨RX5, "beginsWithVowel", "()Z"⟩
def RX6 : String := "VeneerRows$Thing"
def TX6 : u_T := fun k => match k with
  | 0 => ("VeneerRows$Thing", "isClass", "Z", true)
  | 1 => ("VeneerRows$Thing", "line", "LVeneerRows$Line;", true)
  | 2 => ("VeneerRows$Thing", "pool", "I", true)
  | 3 => ("VeneerRows$Thing", "rows", "LVeneerRows$Rows;", true)
  | 4 => ("VeneerRows$Thing", "there", "Z", false)
  | 5 => ("VeneerRows$Thing", "text", "LVeneerRows$Text;", false)
  | _ => ("VeneerRows$Thing", "proper", "Z", false)
def tyX6 : Nat → FieldType := fun k => match k with
  | 0 => .boolean
  | 1 => .object "VeneerRows$Line"
  | 2 => .int
  | 3 => .object "VeneerRows$Rows"
  | 4 => .boolean
  | 5 => .object "VeneerRows$Text"
  | _ => .boolean
theorem nmX6 : ∀ a, a < 7 → ∀ b, b < 7 → a ≠ b → (TX6 a).2.1 ≠ (TX6 b).2.1 := by decide +kernel
theorem tyX6_ok : ∀ k, k < 7 → parseFieldDescriptor (TX6 k).2.2.1 = some (tyX6 k) := by decide +kernel
abbrev cX6_init : ByteArray := prog_8_method_1_code
def yX6_init : MethodName := ⟨RX6, "<init>", "(ZLVeneerRows$Line;I)V"⟩
def RX7 : String := "VeneerRows$Tree"
def TX7 : u_T := fun k => match k with
  | 0 => ("VeneerRows$Tree", "parents", "[I", true)
  | 1 => ("VeneerRows$Tree", "firstChildren", "[I", true)
  | _ => ("VeneerRows$Tree", "siblings", "[I", true)
def tyX7 : Nat → FieldType := fun k => match k with
  | 0 => .array .int
  | 1 => .array .int
  | _ => .array .int
theorem nmX7 : ∀ a, a < 3 → ∀ b, b < 3 → a ≠ b → (TX7 a).2.1 ≠ (TX7 b).2.1 := by decide +kernel
theorem tyX7_ok : ∀ k, k < 3 → parseFieldDescriptor (TX7 k).2.2.1 = some (tyX7 k) := by decide +kernel
abbrev cX7_init : ByteArray := prog_9_method_1_code
def yX7_init : MethodName := ⟨RX7, "<init>", "()V"⟩
abbrev cX7_holds : ByteArray := prog_9_method_2_code
def yX7_holds : MethodName := ⟨RX7, "holds", "(I)Z"⟩
abbrev cX7_parentOf : ByteArray := prog_9_method_3_code
def yX7_parentOf : MethodName := ⟨RX7, "parentOf", "(I)I"⟩
abbrev cX7_childOf : ByteArray := prog_9_method_4_code
def yX7_childOf : MethodName := ⟨RX7, "childOf", "(I)I"⟩
abbrev cX7_siblingOf : ByteArray := prog_9_method_5_code
def yX7_siblingOf : MethodName := ⟨RX7, "siblingOf", "(I)I"⟩
abbrev cX7_childrenOf : ByteArray := prog_9_method_6_code
def yX7_childrenOf : MethodName := ⟨RX7, "childrenOf", "(I)I"⟩
abbrev cX7_isInOrAt : ByteArray := prog_9_method_7_code
def yX7_isInOrAt : MethodName := ⟨RX7, "isInOrAt", "(II)Z"⟩
abbrev cX7_put : ByteArray := prog_9_method_8_code
def yX7_put : MethodName := ⟨RX7, "put", "(II)V"⟩
abbrev cX7_lift : ByteArray := prog_9_method_9_code
def yX7_lift : MethodName := ⟨RX7, "lift", "(I)V"⟩
abbrev cX7_closeGap : ByteArray := prog_9_method_10_code
def yX7_closeGap : MethodName := ⟨RX7, "closeGap", "(II)V"⟩
abbrev cX7_liftChildren : ByteArray := prog_9_method_11_code
def yX7_liftChildren : MethodName := ⟨RX7, "liftChildren", "(I)V"⟩
def RX8 : String := "VeneerRows$WordArray"
def TX8 : u_T := fun k => match k with
  | 0 => ("VeneerRows$WordArray", "words", "[I", true)
  | _ => ("VeneerRows$WordArray", "length", "I", true)
def tyX8 : Nat → FieldType := fun k => match k with
  | 0 => .array .int
  | _ => .int
theorem nmX8 : ∀ a, a < 2 → ∀ b, b < 2 → a ≠ b → (TX8 a).2.1 ≠ (TX8 b).2.1 := by decide +kernel
theorem tyX8_ok : ∀ k, k < 2 → parseFieldDescriptor (TX8 k).2.2.1 = some (tyX8 k) := by decide +kernel
abbrev cX8_init : ByteArray := prog_10_method_1_code
def yX8_init : MethodName := ⟨RX8, "<init>", "(I)V"⟩
abbrev cX8_has : ByteArray := prog_10_method_2_code
def yX8_has : MethodName := ⟨RX8, "has", "(I)Z"⟩
abbrev cX8_at : ByteArray := prog_10_method_3_code
def yX8_at : MethodName := ⟨RX8, "at", "(I)I"⟩
abbrev cX8_put : ByteArray := prog_10_method_4_code
def yX8_put : MethodName := ⟨RX8, "put", "(II)V"⟩
def RX9 : String := "VeneerRows"
def TX9 : u_T := fun k => match k with
  | 0 => ("VeneerRows", "things", "[LVeneerRows$Thing;", true)
  | 1 => ("VeneerRows", "texts", "[LVeneerRows$Text;", true)
  | 2 => ("VeneerRows", "routines", "[LVeneerRows$Routine;", true)
  | 3 => ("VeneerRows", "arrays", "[LVeneerRows$WordArray;", true)
  | 4 => ("VeneerRows", "forest", "LVeneerRows$Tree;", true)
  | 5 => ("VeneerRows", "output", "LVeneerRows$Output;", true)
  | 6 => ("VeneerRows", "faults", "LVeneerRows$FaultList;", true)
  | 7 => ("VeneerRows", "draft", "LVeneerRows$Text;", false)
  | 8 => ("VeneerRows", "thingCount", "I", false)
  | 9 => ("VeneerRows", "textCount", "I", false)
  | 10 => ("VeneerRows", "routineCount", "I", false)
  | 11 => ("VeneerRows", "arrayCount", "I", false)
  | 12 => ("VeneerRows", "actsDone", "I", false)
  | _ => ("VeneerRows", "actsFaultTold", "Z", false)
def tyX9 : Nat → FieldType := fun k => match k with
  | 0 => .array (.object "VeneerRows$Thing")
  | 1 => .array (.object "VeneerRows$Text")
  | 2 => .array (.object "VeneerRows$Routine")
  | 3 => .array (.object "VeneerRows$WordArray")
  | 4 => .object "VeneerRows$Tree"
  | 5 => .object "VeneerRows$Output"
  | 6 => .object "VeneerRows$FaultList"
  | 7 => .object "VeneerRows$Text"
  | 8 => .int
  | 9 => .int
  | 10 => .int
  | 11 => .int
  | 12 => .int
  | _ => .boolean
theorem nmX9 : ∀ a, a < 14 → ∀ b, b < 14 → a ≠ b → (TX9 a).2.1 ≠ (TX9 b).2.1 := by decide +kernel
theorem tyX9_ok : ∀ k, k < 14 → parseFieldDescriptor (TX9 k).2.2.1 = some (tyX9 k) := by decide +kernel
abbrev cX9_init : ByteArray := prog_1_method_1_code
def yX9_init : MethodName := ⟨RX9, "<init>", "(I)V"⟩
abbrev cX9_letter : ByteArray := prog_1_method_2_code
def yX9_letter : MethodName := ⟨RX9, "letter", "(I)I"⟩
abbrev cX9_text : ByteArray := prog_1_method_3_code
def yX9_text : MethodName := ⟨RX9, "text", "()I"⟩
abbrev cX9_routine : ByteArray := prog_1_method_4_code
def yX9_routine : MethodName := ⟨RX9, "routine", "()I"⟩
abbrev cX9_act : ByteArray := prog_1_method_5_code
def yX9_act : MethodName := ⟨RX9, "act", "(IIII)I"⟩
abbrev cX9_group : ByteArray := prog_1_method_6_code
def yX9_group : MethodName := ⟨RX9, "group", "(III)I"⟩
abbrev cX9_object : ByteArray := prog_1_method_7_code
def yX9_object : MethodName := ⟨RX9, "object", "(II)I"⟩
abbrev cX9_value : ByteArray := prog_1_method_8_code
def yX9_value : MethodName := ⟨RX9, "value", "(IIII)I"⟩
abbrev cX9_array : ByteArray := prog_1_method_9_code
def yX9_array : MethodName := ⟨RX9, "array", "(I)I"⟩
abbrev cX9_called : ByteArray := prog_1_method_10_code
def yX9_called : MethodName := ⟨RX9, "called", "(IIZ)I"⟩
abbrev cX9_send : ByteArray := prog_1_method_11_code
def yX9_send : MethodName := ⟨RX9, "send", "(III)I"⟩
abbrev cX9_sendAs : ByteArray := prog_1_method_12_code
def yX9_sendAs : MethodName := ⟨RX9, "sendAs", "(IIII)I"⟩
abbrev cX9_read : ByteArray := prog_1_method_13_code
def yX9_read : MethodName := ⟨RX9, "read", "(III)I"⟩
abbrev cX9_write : ByteArray := prog_1_method_14_code
def yX9_write : MethodName := ⟨RX9, "write", "(IIII)I"⟩
abbrev cX9_move : ByteArray := prog_1_method_15_code
def yX9_move : MethodName := ⟨RX9, "move", "(II)I"⟩
abbrev cX9_tree : ByteArray := prog_1_method_16_code
def yX9_tree : MethodName := ⟨RX9, "tree", "(II)I"⟩
abbrev cX9_loop : ByteArray := prog_1_method_17_code
def yX9_loop : MethodName := ⟨RX9, "loop", "(II)I"⟩
abbrev cX9_meta : ByteArray := prog_1_method_18_code
def yX9_meta : MethodName := ⟨RX9, "meta", "(I)I"⟩
abbrev cX9_isOf : ByteArray := prog_1_method_19_code
def yX9_isOf : MethodName := ⟨RX9, "isOf", "(II)I"⟩
abbrev cX9_provides : ByteArray := prog_1_method_20_code
def yX9_provides : MethodName := ⟨RX9, "provides", "(II)I"⟩
abbrev cX9_word : ByteArray := prog_1_method_21_code
def yX9_word : MethodName := ⟨RX9, "word", "(II)I"⟩
abbrev cX9_setWord : ByteArray := prog_1_method_22_code
def yX9_setWord : MethodName := ⟨RX9, "setWord", "(III)I"⟩
abbrev cX9_byteOf : ByteArray := prog_1_method_23_code
def yX9_byteOf : MethodName := ⟨RX9, "byteOf", "(II)I"⟩
abbrev cX9_name : ByteArray := prog_1_method_24_code
def yX9_name : MethodName := ⟨RX9, "name", "(II)I"⟩
abbrev cX9_out : ByteArray := prog_1_method_25_code
def yX9_out : MethodName := ⟨RX9, "out", "(I)I"⟩
abbrev cX9_clear : ByteArray := prog_1_method_26_code
def yX9_clear : MethodName := ⟨RX9, "clear", "()I"⟩
abbrev cX9_fault : ByteArray := prog_1_method_27_code
def yX9_fault : MethodName := ⟨RX9, "fault", "(II)I"⟩
abbrev cX9_count : ByteArray := prog_1_method_28_code
def yX9_count : MethodName := ⟨RX9, "count", "(I)I"⟩
abbrev cX9_thingAt : ByteArray := prog_1_method_29_code
def yX9_thingAt : MethodName := ⟨RX9, "thingAt", "(I)LVeneerRows$Thing;"⟩
abbrev cX9_textAt : ByteArray := prog_1_method_30_code
def yX9_textAt : MethodName := ⟨RX9, "textAt", "(I)LVeneerRows$Text;"⟩
abbrev cX9_routineAt : ByteArray := prog_1_method_31_code
def yX9_routineAt : MethodName := ⟨RX9, "routineAt", "(I)LVeneerRows$Routine;"⟩
abbrev cX9_arrayAt : ByteArray := prog_1_method_32_code
def yX9_arrayAt : MethodName := ⟨RX9, "arrayAt", "(I)LVeneerRows$WordArray;"⟩
abbrev cX9_answeringThing : ByteArray := prog_1_method_33_code
def yX9_answeringThing : MethodName := ⟨RX9, "answeringThing", "(I)LVeneerRows$Thing;"⟩
abbrev cX9_isNoneOrClass : ByteArray := prog_1_method_34_code
def yX9_isNoneOrClass : MethodName := ⟨RX9, "isNoneOrClass", "(I)Z"⟩
abbrev cX9_addThing : ByteArray := prog_1_method_35_code
def yX9_addThing : MethodName := ⟨RX9, "addThing", "(LVeneerRows$Thing;)V"⟩
abbrev cX9_addLines : ByteArray := prog_1_method_36_code
def yX9_addLines : MethodName := ⟨RX9, "addLines", "(LVeneerRows$Line;II)V"⟩
abbrev cX9_takeRowsOfLine : ByteArray := prog_1_method_37_code
def yX9_takeRowsOfLine : MethodName := ⟨RX9, "takeRowsOfLine", "(LVeneerRows$Thing;)V"⟩
abbrev cX9_thingWithValue : ByteArray := prog_1_method_38_code
def yX9_thingWithValue : MethodName := ⟨RX9, "thingWithValue", "(III)LVeneerRows$Thing;"⟩
abbrev cX9_arrayWithWord : ByteArray := prog_1_method_39_code
def yX9_arrayWithWord : MethodName := ⟨RX9, "arrayWithWord", "(III)LVeneerRows$WordArray;"⟩
abbrev cX9_startActs : ByteArray := prog_1_method_40_code
def yX9_startActs : MethodName := ⟨RX9, "startActs", "()V"⟩
abbrev cX9_sendTo : ByteArray := prog_1_method_41_code
def yX9_sendTo : MethodName := ⟨RX9, "sendTo", "(IIII)I"⟩
abbrev cX9_sendToClass : ByteArray := prog_1_method_42_code
def yX9_sendToClass : MethodName := ⟨RX9, "sendToClass", "(IIII)I"⟩
abbrev cX9_sendToAs : ByteArray := prog_1_method_43_code
def yX9_sendToAs : MethodName := ⟨RX9, "sendToAs", "(IIIII)I"⟩
abbrev cX9_answerOfRow : ByteArray := prog_1_method_44_code
def yX9_answerOfRow : MethodName := ⟨RX9, "answerOfRow", "(LVeneerRows$Rows;IIII)I"⟩
abbrev cX9_freeOnes : ByteArray := prog_1_method_45_code
def yX9_freeOnes : MethodName := ⟨RX9, "freeOnes", "(I)I"⟩
abbrev cX9_leastFree : ByteArray := prog_1_method_46_code
def yX9_leastFree : MethodName := ⟨RX9, "leastFree", "(I)I"⟩
abbrev cX9_thereInPool : ByteArray := prog_1_method_47_code
def yX9_thereInPool : MethodName := ⟨RX9, "thereInPool", "(II)LVeneerRows$Thing;"⟩
abbrev cX9_createOne : ByteArray := prog_1_method_48_code
def yX9_createOne : MethodName := ⟨RX9, "createOne", "(III)I"⟩
abbrev cX9_destroyOne : ByteArray := prog_1_method_49_code
def yX9_destroyOne : MethodName := ⟨RX9, "destroyOne", "(III)I"⟩
abbrev cX9_recreateOne : ByteArray := prog_1_method_50_code
def yX9_recreateOne : MethodName := ⟨RX9, "recreateOne", "(III)I"⟩
abbrev cX9_sendIfProvided : ByteArray := prog_1_method_51_code
def yX9_sendIfProvided : MethodName := ⟨RX9, "sendIfProvided", "(LVeneerRows$Thing;IIII)V"⟩
abbrev cX9_run : ByteArray := prog_1_method_52_code
def yX9_run : MethodName := ⟨RX9, "run", "(IIII)I"⟩
abbrev cX9_mayAct : ByteArray := prog_1_method_53_code
def yX9_mayAct : MethodName := ⟨RX9, "mayAct", "(I)Z"⟩
abbrev cX9_endsBehind : ByteArray := prog_1_method_54_code
def yX9_endsBehind : MethodName := ⟨RX9, "endsBehind", "(II)Z"⟩
abbrev cX9_perform : ByteArray := prog_1_method_55_code
def yX9_perform : MethodName := ⟨RX9, "perform", "(LVeneerRows$Routine;IIIII)I"⟩
abbrev cX9_sayName : ByteArray := prog_1_method_56_code
def yX9_sayName : MethodName := ⟨RX9, "sayName", "(LVeneerRows$Thing;II)V"⟩
abbrev cX9_articleOf : ByteArray := prog_1_method_57_code
def yX9_articleOf : MethodName := ⟨RX9, "articleOf", "(LVeneerRows$Text;I)Ljava/lang/String;"⟩
def RX10 : String := "VeneerRowsModel"
def TX10 : u_T := fun k => match k with
  | 0 => ("VeneerRowsModel", "strict", "Z", true)
  | 1 => ("VeneerRowsModel", "drafted", "I", false)
  | 2 => ("VeneerRowsModel", "draft", "[I", true)
  | 3 => ("VeneerRowsModel", "texts", "I", false)
  | 4 => ("VeneerRowsModel", "textSize", "[I", true)
  | 5 => ("VeneerRowsModel", "textByte", "[I", true)
  | 6 => ("VeneerRowsModel", "routines", "I", false)
  | 7 => ("VeneerRowsModel", "actMany", "[I", true)
  | 8 => ("VeneerRowsModel", "op", "[I", true)
  | 9 => ("VeneerRowsModel", "actA", "[I", true)
  | 10 => ("VeneerRowsModel", "actB", "[I", true)
  | 11 => ("VeneerRowsModel", "arrays", "I", false)
  | 12 => ("VeneerRowsModel", "arraySize", "[I", true)
  | 13 => ("VeneerRowsModel", "arrayWord", "[I", true)
  | 14 => ("VeneerRowsModel", "things", "I", false)
  | 15 => ("VeneerRowsModel", "isGroup", "[Z", true)
  | 16 => ("VeneerRowsModel", "isThere", "[Z", true)
  | 17 => ("VeneerRowsModel", "poolSize", "[I", true)
  | 18 => ("VeneerRowsModel", "lineMany", "[I", true)
  | 19 => ("VeneerRowsModel", "line", "[I", true)
  | 20 => ("VeneerRowsModel", "rowMany", "[I", true)
  | 21 => ("VeneerRowsModel", "row", "[I", true)
  | 22 => ("VeneerRowsModel", "textOf", "[I", true)
  | 23 => ("VeneerRowsModel", "isProper", "[Z", true)
  | 24 => ("VeneerRowsModel", "parent", "[I", true)
  | 25 => ("VeneerRowsModel", "firstChild", "[I", true)
  | 26 => ("VeneerRowsModel", "sibling", "[I", true)
  | 27 => ("VeneerRowsModel", "faults", "I", false)
  | 28 => ("VeneerRowsModel", "fault", "[I", true)
  | 29 => ("VeneerRowsModel", "outSize", "I", false)
  | 30 => ("VeneerRowsModel", "out", "[I", true)
  | 31 => ("VeneerRowsModel", "top", "I", false)
  | 32 => ("VeneerRowsModel", "depth", "I", false)
  | 33 => ("VeneerRowsModel", "sort", "[I", true)
  | 34 => ("VeneerRowsModel", "routineOf", "[I", true)
  | 35 => ("VeneerRowsModel", "next", "[I", true)
  | 36 => ("VeneerRowsModel", "self", "[I", true)
  | 37 => ("VeneerRowsModel", "argument", "[I", true)
  | 38 => ("VeneerRowsModel", "result", "[I", true)
  | 39 => ("VeneerRowsModel", "ready", "Z", false)
  | 40 => ("VeneerRowsModel", "answer", "I", false)
  | 41 => ("VeneerRowsModel", "acts", "I", false)
  | _ => ("VeneerRowsModel", "isSpent", "Z", false)
def tyX10 : Nat → FieldType := fun k => match k with
  | 0 => .boolean
  | 1 => .int
  | 2 => .array .int
  | 3 => .int
  | 4 => .array .int
  | 5 => .array .int
  | 6 => .int
  | 7 => .array .int
  | 8 => .array .int
  | 9 => .array .int
  | 10 => .array .int
  | 11 => .int
  | 12 => .array .int
  | 13 => .array .int
  | 14 => .int
  | 15 => .array .boolean
  | 16 => .array .boolean
  | 17 => .array .int
  | 18 => .array .int
  | 19 => .array .int
  | 20 => .array .int
  | 21 => .array .int
  | 22 => .array .int
  | 23 => .array .boolean
  | 24 => .array .int
  | 25 => .array .int
  | 26 => .array .int
  | 27 => .int
  | 28 => .array .int
  | 29 => .int
  | 30 => .array .int
  | 31 => .int
  | 32 => .int
  | 33 => .array .int
  | 34 => .array .int
  | 35 => .array .int
  | 36 => .array .int
  | 37 => .array .int
  | 38 => .array .int
  | 39 => .boolean
  | 40 => .int
  | 41 => .int
  | _ => .boolean
theorem nmX10 : ∀ a, a < 43 → ∀ b, b < 43 → a ≠ b → (TX10 a).2.1 ≠ (TX10 b).2.1 := by decide +kernel
theorem tyX10_ok : ∀ k, k < 43 → parseFieldDescriptor (TX10 k).2.2.1 = some (tyX10 k) := by decide +kernel
abbrev cX10_init : ByteArray := prog_12_method_1_code
def yX10_init : MethodName := ⟨RX10, "<init>", "(I)V"⟩
abbrev cX10_in : ByteArray := prog_12_method_2_code
def yX10_in : MethodName := ⟨RX10, "in", "(III)Z"⟩
abbrev cX10_letter : ByteArray := prog_12_method_3_code
def yX10_letter : MethodName := ⟨RX10, "letter", "(I)I"⟩
abbrev cX10_text : ByteArray := prog_12_method_4_code
def yX10_text : MethodName := ⟨RX10, "text", "()I"⟩
abbrev cX10_routine : ByteArray := prog_12_method_5_code
def yX10_routine : MethodName := ⟨RX10, "routine", "()I"⟩
abbrev cX10_act : ByteArray := prog_12_method_6_code
def yX10_act : MethodName := ⟨RX10, "act", "(IIII)I"⟩
abbrev cX10_array : ByteArray := prog_12_method_7_code
def yX10_array : MethodName := ⟨RX10, "array", "(I)I"⟩
abbrev cX10_isClass : ByteArray := prog_12_method_8_code
def yX10_isClass : MethodName := ⟨RX10, "isClass", "(I)Z"⟩
abbrev cX10_meta : ByteArray := prog_12_method_9_code
def yX10_meta : MethodName := ⟨RX10, "meta", "(I)I"⟩
abbrev cX10_joinLine : ByteArray := prog_12_method_10_code
def yX10_joinLine : MethodName := ⟨RX10, "joinLine", "(II)V"⟩
abbrev cX10_addToLine : ByteArray := prog_12_method_11_code
def yX10_addToLine : MethodName := ⟨RX10, "addToLine", "(II)V"⟩
abbrev cX10_newThing : ByteArray := prog_12_method_12_code
def yX10_newThing : MethodName := ⟨RX10, "newThing", "(Z)I"⟩
abbrev cX10_group : ByteArray := prog_12_method_13_code
def yX10_group : MethodName := ⟨RX10, "group", "(III)I"⟩
abbrev cX10_object : ByteArray := prog_12_method_14_code
def yX10_object : MethodName := ⟨RX10, "object", "(II)I"⟩
abbrev cX10_rowsAnew : ByteArray := prog_12_method_15_code
def yX10_rowsAnew : MethodName := ⟨RX10, "rowsAnew", "(I)V"⟩
abbrev cX10_value : ByteArray := prog_12_method_16_code
def yX10_value : MethodName := ⟨RX10, "value", "(IIII)I"⟩
abbrev cX10_called : ByteArray := prog_12_method_17_code
def yX10_called : MethodName := ⟨RX10, "called", "(IIZ)I"⟩
abbrev cX10_fails : ByteArray := prog_12_method_18_code
def yX10_fails : MethodName := ⟨RX10, "fails", "(III)I"⟩
abbrev cX10_say : ByteArray := prog_12_method_19_code
def yX10_say : MethodName := ⟨RX10, "say", "(I)V"⟩
abbrev cX10_sayText : ByteArray := prog_12_method_20_code
def yX10_sayText : MethodName := ⟨RX10, "sayText", "(I)V"⟩
abbrev cX10_sayNumber : ByteArray := prog_12_method_21_code
def yX10_sayNumber : MethodName := ⟨RX10, "sayNumber", "(I)V"⟩
abbrev cX10_isVowel : ByteArray := prog_12_method_22_code
def yX10_isVowel : MethodName := ⟨RX10, "isVowel", "(I)Z"⟩
abbrev cX10_sayArticle : ByteArray := prog_12_method_23_code
def yX10_sayArticle : MethodName := ⟨RX10, "sayArticle", "(II)V"⟩
abbrev cX10_name : ByteArray := prog_12_method_24_code
def yX10_name : MethodName := ⟨RX10, "name", "(II)I"⟩
abbrev cX10_rowAt : ByteArray := prog_12_method_25_code
def yX10_rowAt : MethodName := ⟨RX10, "rowAt", "(II)I"⟩
abbrev cX10_wrong : ByteArray := prog_12_method_26_code
def yX10_wrong : MethodName := ⟨RX10, "wrong", "(III)I"⟩
abbrev cX10_read : ByteArray := prog_12_method_27_code
def yX10_read : MethodName := ⟨RX10, "read", "(III)I"⟩
abbrev cX10_write : ByteArray := prog_12_method_28_code
def yX10_write : MethodName := ⟨RX10, "write", "(IIII)I"⟩
abbrev cX10_leave : ByteArray := prog_12_method_29_code
def yX10_leave : MethodName := ⟨RX10, "leave", "(I)V"⟩
abbrev cX10_move : ByteArray := prog_12_method_30_code
def yX10_move : MethodName := ⟨RX10, "move", "(II)I"⟩
abbrev cX10_tree : ByteArray := prog_12_method_31_code
def yX10_tree : MethodName := ⟨RX10, "tree", "(II)I"⟩
abbrev cX10_isOf : ByteArray := prog_12_method_32_code
def yX10_isOf : MethodName := ⟨RX10, "isOf", "(II)I"⟩
abbrev cX10_provides : ByteArray := prog_12_method_33_code
def yX10_provides : MethodName := ⟨RX10, "provides", "(II)I"⟩
abbrev cX10_answers : ByteArray := prog_12_method_34_code
def yX10_answers : MethodName := ⟨RX10, "answers", "(I)V"⟩
abbrev cX10_pile : ByteArray := prog_12_method_35_code
def yX10_pile : MethodName := ⟨RX10, "pile", "(II)V"⟩
abbrev cX10_runs : ByteArray := prog_12_method_36_code
def yX10_runs : MethodName := ⟨RX10, "runs", "(III)V"⟩
abbrev cX10_does : ByteArray := prog_12_method_37_code
def yX10_does : MethodName := ⟨RX10, "does", "(III)V"⟩
abbrev cX10_sendObject : ByteArray := prog_12_method_38_code
def yX10_sendObject : MethodName := ⟨RX10, "sendObject", "(III)V"⟩
abbrev cX10_sendGroup : ByteArray := prog_12_method_39_code
def yX10_sendGroup : MethodName := ⟨RX10, "sendGroup", "(III)V"⟩
abbrev cX10_sendIfThere : ByteArray := prog_12_method_40_code
def yX10_sendIfThere : MethodName := ⟨RX10, "sendIfThere", "(III)V"⟩
abbrev cX10_sends : ByteArray := prog_12_method_41_code
def yX10_sends : MethodName := ⟨RX10, "sends", "(III)V"⟩
abbrev cX10_sendsAs : ByteArray := prog_12_method_42_code
def yX10_sendsAs : MethodName := ⟨RX10, "sendsAs", "(IIII)V"⟩
abbrev cX10_take : ByteArray := prog_12_method_43_code
def yX10_take : MethodName := ⟨RX10, "take", "()V"⟩
abbrev cX10_ends : ByteArray := prog_12_method_44_code
def yX10_ends : MethodName := ⟨RX10, "ends", "(I)V"⟩
abbrev cX10_step : ByteArray := prog_12_method_45_code
def yX10_step : MethodName := ⟨RX10, "step", "()V"⟩
abbrev cX10_doAct : ByteArray := prog_12_method_46_code
def yX10_doAct : MethodName := ⟨RX10, "doAct", "(IIII)V"⟩
abbrev cX10_begins : ByteArray := prog_12_method_47_code
def yX10_begins : MethodName := ⟨RX10, "begins", "()V"⟩
abbrev cX10_goes : ByteArray := prog_12_method_48_code
def yX10_goes : MethodName := ⟨RX10, "goes", "()I"⟩
abbrev cX10_send : ByteArray := prog_12_method_49_code
def yX10_send : MethodName := ⟨RX10, "send", "(III)I"⟩
abbrev cX10_sendAs : ByteArray := prog_12_method_50_code
def yX10_sendAs : MethodName := ⟨RX10, "sendAs", "(IIII)I"⟩
abbrev cX10_loop : ByteArray := prog_12_method_51_code
def yX10_loop : MethodName := ⟨RX10, "loop", "(II)I"⟩
abbrev cX10_isWrongWord : ByteArray := prog_12_method_52_code
def yX10_isWrongWord : MethodName := ⟨RX10, "isWrongWord", "(III)Z"⟩
abbrev cX10_word : ByteArray := prog_12_method_53_code
def yX10_word : MethodName := ⟨RX10, "word", "(II)I"⟩
abbrev cX10_setWord : ByteArray := prog_12_method_54_code
def yX10_setWord : MethodName := ⟨RX10, "setWord", "(III)I"⟩
abbrev cX10_byteOf : ByteArray := prog_12_method_55_code
def yX10_byteOf : MethodName := ⟨RX10, "byteOf", "(II)I"⟩
abbrev cX10_out : ByteArray := prog_12_method_56_code
def yX10_out : MethodName := ⟨RX10, "out", "(I)I"⟩
abbrev cX10_clear : ByteArray := prog_12_method_57_code
def yX10_clear : MethodName := ⟨RX10, "clear", "()I"⟩
abbrev cX10_fault : ByteArray := prog_12_method_58_code
def yX10_fault : MethodName := ⟨RX10, "fault", "(II)I"⟩
abbrev cX10_count : ByteArray := prog_12_method_59_code
def yX10_count : MethodName := ⟨RX10, "count", "(I)I"⟩
def RJ11 : String := "java/lang/Character"
abbrev cJ11_isValidCodePoint_9a6ad : ByteArray := prog_13_method_11_code
def yJ11_isValidCodePoint_9a6ad : MethodName := ⟨RJ11, "isValidCodePoint", "(I)Z"⟩
abbrev cJ11_highSurrogate_5068e : ByteArray := prog_13_method_28_code
def yJ11_highSurrogate_5068e : MethodName := ⟨RJ11, "highSurrogate", "(I)C"⟩
abbrev cJ11_lowSurrogate_5068e : ByteArray := prog_13_method_29_code
def yJ11_lowSurrogate_5068e : MethodName := ⟨RJ11, "lowSurrogate", "(I)C"⟩
def RJ9 : String := "java/lang/Math"
abbrev cJ9_floorDiv_7cf53 : ByteArray := prog_14_method_47_code
def yJ9_floorDiv_7cf53 : MethodName := ⟨RJ9, "floorDiv", "(II)I"⟩
abbrev cJ9_floorMod_7cf53 : ByteArray := prog_14_method_50_code
def yJ9_floorMod_7cf53 : MethodName := ⟨RJ9, "floorMod", "(II)I"⟩
abbrev cJ9_max_7cf53 : ByteArray := prog_14_method_65_code
def yJ9_max_7cf53 : MethodName := ⟨RJ9, "max", "(II)I"⟩
abbrev cJ9_min_7cf53 : ByteArray := prog_14_method_69_code
def yJ9_min_7cf53 : MethodName := ⟨RJ9, "min", "(II)I"⟩
def RJ0 : String := "java/lang/String"
abbrev cJ0_length_8abf5 : ByteArray := prog_15_method_54_code
def yJ0_length_8abf5 : MethodName := ⟨RJ0, "length", "()I"⟩
abbrev cJ0_charAt_5068e : ByteArray := prog_15_method_56_code
def yJ0_charAt_5068e : MethodName := ⟨RJ0, "charAt", "(I)C"⟩
abbrev cJ0_indexOf_0f7a4 : ByteArray := prog_15_method_79_code
def yJ0_indexOf_0f7a4 : MethodName := ⟨RJ0, "indexOf", "(I)I"⟩
abbrev cJ0_indexOf_7cf53 : ByteArray := prog_15_method_80_code
def yJ0_indexOf_7cf53 : MethodName := ⟨RJ0, "indexOf", "(II)I"⟩
abbrev cJ0_coder_7d493 : ByteArray := prog_15_method_152_code
def yJ0_coder_7d493 : MethodName := ⟨RJ0, "coder", "()B"⟩
abbrev cJ0_isLatin1_aae02 : ByteArray := prog_15_method_154_code
def yJ0_isLatin1_aae02 : MethodName := ⟨RJ0, "isLatin1", "()Z"⟩
abbrev cJ0_checkIndex_df160 : ByteArray := prog_15_method_155_code
def yJ0_checkIndex_df160 : MethodName := ⟨RJ0, "checkIndex", "(II)V"⟩
abbrev cJ0_checkBoundsBeginEnd_23922 : ByteArray := prog_15_method_158_code
def yJ0_checkBoundsBeginEnd_23922 : MethodName := ⟨RJ0, "checkBoundsBeginEnd", "(III)V"⟩
def RJ1 : String := "java/lang/StringLatin1"
abbrev cJ1_charAt_3b067 : ByteArray := prog_16_method_2_code
def yJ1_charAt_3b067 : MethodName := ⟨RJ1, "charAt", "([BI)C"⟩
abbrev cJ1_canEncode_9a6ad : ByteArray := prog_16_method_4_code
def yJ1_canEncode_9a6ad : MethodName := ⟨RJ1, "canEncode", "(I)Z"⟩
abbrev cJ1_indexOf_4cfef : ByteArray := prog_16_method_22_code
def yJ1_indexOf_4cfef : MethodName := ⟨RJ1, "indexOf", "([BIII)I"⟩
abbrev cJ1_indexOfChar_4cfef : ByteArray := prog_16_method_23_code
def yJ1_indexOfChar_4cfef : MethodName := ⟨RJ1, "indexOfChar", "([BIII)I"⟩
def RJ2 : String := "java/lang/StringUTF16"
abbrev cJ2_getChar_3b067 : ByteArray := prog_17_method_5_code
def yJ2_getChar_3b067 : MethodName := ⟨RJ2, "getChar", "([BI)C"⟩
abbrev cJ2_length_9d52b : ByteArray := prog_17_method_6_code
def yJ2_length_9d52b : MethodName := ⟨RJ2, "length", "([B)I"⟩
abbrev cJ2_indexOf_4cfef : ByteArray := prog_17_method_40_code
def yJ2_indexOf_4cfef : MethodName := ⟨RJ2, "indexOf", "([BIII)I"⟩
abbrev cJ2_indexOfChar_4cfef : ByteArray := prog_17_method_47_code
def yJ2_indexOfChar_4cfef : MethodName := ⟨RJ2, "indexOfChar", "([BIII)I"⟩
abbrev cJ2_indexOfCharUnsafe_4cfef : ByteArray := prog_17_method_48_code
def yJ2_indexOfCharUnsafe_4cfef : MethodName := ⟨RJ2, "indexOfCharUnsafe", "([BIII)I"⟩
abbrev cJ2_indexOfSupplementary_4cfef : ByteArray := prog_17_method_49_code
def yJ2_indexOfSupplementary_4cfef : MethodName := ⟨RJ2, "indexOfSupplementary", "([BIII)I"⟩
abbrev cJ2_charAt_3b067 : ByteArray := prog_17_method_83_code
def yJ2_charAt_3b067 : MethodName := ⟨RJ2, "charAt", "([BI)C"⟩
abbrev cJ2_checkIndex_2214a : ByteArray := prog_17_method_91_code
def yJ2_checkIndex_2214a : MethodName := ⟨RJ2, "checkIndex", "(I[B)V"⟩
abbrev cJ2_checkBoundsBeginEnd_d044e : ByteArray := prog_17_method_93_code
def yJ2_checkBoundsBeginEnd_d044e : MethodName := ⟨RJ2, "checkBoundsBeginEnd", "(II[B)V"⟩
def RJ7 : String := "java/util/Arrays"
abbrev cJ7_fill_53178 : ByteArray := prog_18_method_103_code
def yJ7_fill_53178 : MethodName := ⟨RJ7, "fill", "([II)V"⟩
def RJ3 : String := "jdk/internal/util/Preconditions"
abbrev cJ3_checkIndex_8e157 : ByteArray := prog_19_method_11_code
def yJ3_checkIndex_8e157 : MethodName := ⟨RJ3, "checkIndex", "(IILjava/util/function/BiFunction;)I"⟩
abbrev cJ3_checkFromToIndex_8c36e : ByteArray := prog_19_method_12_code
def yJ3_checkFromToIndex_8c36e : MethodName := ⟨RJ3, "checkFromToIndex", "(IIILjava/util/function/BiFunction;)I"⟩
def RL : String := "VeneerRowsLaw"
abbrev cL_cell : ByteArray := method_2_code
def yL_cell : MethodName := ⟨RL, "cell", "([II)I"⟩
abbrev cL_law : ByteArray := code
def yL_law : MethodName := ⟨RL, "law", "([I)Z"⟩
abbrev vwCl : List vw_C := [(RX0, TX0, 5), (RX1, TX1, 2), (RX2, TX2, 2), (RX3, TX3, 4), (RX4, TX4, 2), (RX5, TX5, 2), (RX6, TX6, 7), (RX7, TX7, 3), (RX8, TX8, 2), (RX9, TX9, 14), (RX10, TX10, 43)]
