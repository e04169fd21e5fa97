section
-- ===== PART A: goes FIRST, ahead of the names: the tables' words, and 'selects' of the private methods out of them =====
/-- a private method of a class that the tables say can be made, by its rows of tables_1 -/
def lw_okq (q : MethodName × Nat) : Prop := (q.1.cls ≠ "java/lang/invoke/MethodHandle" ∧ q.1.cls ≠ "java/lang/invoke/VarHandle") ∧ Cond.instantiable q.1.cls q.2 ∈ tables_1 ∧ Cond.privateMethod q.1 ∈ tables_1 ∧ Cond.instanceMethod q.1 ∈ tables_1
theorem lw_p0 : lw_okq (⟨"TrainingBook$Tape", "append", "(I)V"⟩, 6) := ⟨⟨by decide +kernel, by decide +kernel⟩, List.mem_of_getElem? (i := 86) (by decide +kernel), List.mem_of_getElem? (i := 231) (by decide +kernel), List.mem_of_getElem? (i := 232) (by decide +kernel)⟩
theorem lw_p1 : lw_okq (⟨"TrainingBook$Tape", "split", "()V"⟩, 6) := ⟨⟨by decide +kernel, by decide +kernel⟩, List.mem_of_getElem? (i := 86) (by decide +kernel), List.mem_of_getElem? (i := 243) (by decide +kernel), List.mem_of_getElem? (i := 244) (by decide +kernel)⟩
theorem lw_p2 : lw_okq (⟨"TrainingBook$Tape", "endOfWord", "(I)I"⟩, 6) := ⟨⟨by decide +kernel, by decide +kernel⟩, List.mem_of_getElem? (i := 86) (by decide +kernel), List.mem_of_getElem? (i := 250) (by decide +kernel), List.mem_of_getElem? (i := 251) (by decide +kernel)⟩
theorem lw_p3 : lw_okq (⟨"TrainingBook$Tape", "wordAt", "(II)I"⟩, 6) := ⟨⟨by decide +kernel, by decide +kernel⟩, List.mem_of_getElem? (i := 86) (by decide +kernel), List.mem_of_getElem? (i := 254) (by decide +kernel), List.mem_of_getElem? (i := 255) (by decide +kernel)⟩
theorem lw_p4 : lw_okq (⟨"TrainingBook$Tape", "isTextAt", "(Ljava/lang/String;II)Z"⟩, 6) := ⟨⟨by decide +kernel, by decide +kernel⟩, List.mem_of_getElem? (i := 86) (by decide +kernel), List.mem_of_getElem? (i := 273) (by decide +kernel), List.mem_of_getElem? (i := 274) (by decide +kernel)⟩
theorem lw_p5 : lw_okq (⟨"TrainingBook$Tape", "note", "(III)V"⟩, 6) := ⟨⟨by decide +kernel, by decide +kernel⟩, List.mem_of_getElem? (i := 86) (by decide +kernel), List.mem_of_getElem? (i := 325) (by decide +kernel), List.mem_of_getElem? (i := 326) (by decide +kernel)⟩
theorem lw_p6 : lw_okq (⟨"TrainingBook$Tape", "endOfInt", "(I)I"⟩, 6) := ⟨⟨by decide +kernel, by decide +kernel⟩, List.mem_of_getElem? (i := 86) (by decide +kernel), List.mem_of_getElem? (i := 332) (by decide +kernel), List.mem_of_getElem? (i := 333) (by decide +kernel)⟩
theorem lw_p7 : lw_okq (⟨"TrainingBook$Tape", "numberAt", "(II)I"⟩, 6) := ⟨⟨by decide +kernel, by decide +kernel⟩, List.mem_of_getElem? (i := 86) (by decide +kernel), List.mem_of_getElem? (i := 336) (by decide +kernel), List.mem_of_getElem? (i := 337) (by decide +kernel)⟩
theorem lw_p8 : lw_okq (⟨"TrainingBook$Teller", "readText", "(LTrainingBook$Told;)I"⟩, 9) := ⟨⟨by decide +kernel, by decide +kernel⟩, List.mem_of_getElem? (i := 80) (by decide +kernel), List.mem_of_getElem? (i := 346) (by decide +kernel), List.mem_of_getElem? (i := 347) (by decide +kernel)⟩
theorem lw_p9 : lw_okq (⟨"TrainingBook$Told", "copyFrom", "(LTrainingBook$Told;)V"⟩, 9) := ⟨⟨by decide +kernel, by decide +kernel⟩, List.mem_of_getElem? (i := 26) (by decide +kernel), List.mem_of_getElem? (i := 350) (by decide +kernel), List.mem_of_getElem? (i := 351) (by decide +kernel)⟩
theorem lw_p10 : lw_okq (⟨"TrainingBook$Teller", "token", "()I"⟩, 9) := ⟨⟨by decide +kernel, by decide +kernel⟩, List.mem_of_getElem? (i := 80) (by decide +kernel), List.mem_of_getElem? (i := 357) (by decide +kernel), List.mem_of_getElem? (i := 358) (by decide +kernel)⟩
theorem lw_p11 : lw_okq (⟨"TrainingBook$Teller", "readStatement", "()Z"⟩, 9) := ⟨⟨by decide +kernel, by decide +kernel⟩, List.mem_of_getElem? (i := 80) (by decide +kernel), List.mem_of_getElem? (i := 361) (by decide +kernel), List.mem_of_getElem? (i := 362) (by decide +kernel)⟩
theorem lw_p12 : lw_okq (⟨"TrainingBook$Teller", "readGroup", "()Z"⟩, 9) := ⟨⟨by decide +kernel, by decide +kernel⟩, List.mem_of_getElem? (i := 80) (by decide +kernel), List.mem_of_getElem? (i := 365) (by decide +kernel), List.mem_of_getElem? (i := 366) (by decide +kernel)⟩
theorem lw_p13 : lw_okq (⟨"TrainingBook$Teller", "fail", "(I)Z"⟩, 9) := ⟨⟨by decide +kernel, by decide +kernel⟩, List.mem_of_getElem? (i := 80) (by decide +kernel), List.mem_of_getElem? (i := 369) (by decide +kernel), List.mem_of_getElem? (i := 370) (by decide +kernel)⟩
theorem lw_p14 : lw_okq (⟨"TrainingBook$Teller", "step", "()V"⟩, 9) := ⟨⟨by decide +kernel, by decide +kernel⟩, List.mem_of_getElem? (i := 80) (by decide +kernel), List.mem_of_getElem? (i := 373) (by decide +kernel), List.mem_of_getElem? (i := 374) (by decide +kernel)⟩
theorem lw_p15 : lw_okq (⟨"TrainingBook$Teller", "takeInt", "(II)I"⟩, 9) := ⟨⟨by decide +kernel, by decide +kernel⟩, List.mem_of_getElem? (i := 80) (by decide +kernel), List.mem_of_getElem? (i := 377) (by decide +kernel), List.mem_of_getElem? (i := 378) (by decide +kernel)⟩
def lw_privs_1 : List (MethodName × Nat) := [(⟨"TrainingBook$Tape", "append", "(I)V"⟩, 6), (⟨"TrainingBook$Tape", "split", "()V"⟩, 6), (⟨"TrainingBook$Tape", "endOfWord", "(I)I"⟩, 6), (⟨"TrainingBook$Tape", "wordAt", "(II)I"⟩, 6), (⟨"TrainingBook$Tape", "isTextAt", "(Ljava/lang/String;II)Z"⟩, 6), (⟨"TrainingBook$Tape", "note", "(III)V"⟩, 6), (⟨"TrainingBook$Tape", "endOfInt", "(I)I"⟩, 6), (⟨"TrainingBook$Tape", "numberAt", "(II)I"⟩, 6), (⟨"TrainingBook$Teller", "readText", "(LTrainingBook$Told;)I"⟩, 9), (⟨"TrainingBook$Told", "copyFrom", "(LTrainingBook$Told;)V"⟩, 9), (⟨"TrainingBook$Teller", "token", "()I"⟩, 9), (⟨"TrainingBook$Teller", "readStatement", "()Z"⟩, 9), (⟨"TrainingBook$Teller", "readGroup", "()Z"⟩, 9), (⟨"TrainingBook$Teller", "fail", "(I)Z"⟩, 9), (⟨"TrainingBook$Teller", "step", "()V"⟩, 9), (⟨"TrainingBook$Teller", "takeInt", "(II)I"⟩, 9)]
theorem lw_r1 : ∀ q ∈ lw_privs_1, lw_okq q := List.forall_mem_cons.mpr ⟨lw_p0, List.forall_mem_cons.mpr ⟨lw_p1, List.forall_mem_cons.mpr ⟨lw_p2, List.forall_mem_cons.mpr ⟨lw_p3, List.forall_mem_cons.mpr ⟨lw_p4, List.forall_mem_cons.mpr ⟨lw_p5, List.forall_mem_cons.mpr ⟨lw_p6, List.forall_mem_cons.mpr ⟨lw_p7, List.forall_mem_cons.mpr ⟨lw_p8, List.forall_mem_cons.mpr ⟨lw_p9, List.forall_mem_cons.mpr ⟨lw_p10, List.forall_mem_cons.mpr ⟨lw_p11, List.forall_mem_cons.mpr ⟨lw_p12, List.forall_mem_cons.mpr ⟨lw_p13, List.forall_mem_cons.mpr ⟨lw_p14, List.forall_mem_cons.mpr ⟨lw_p15, fun _ h => absurd h List.not_mem_nil⟩⟩⟩⟩⟩⟩⟩⟩⟩⟩⟩⟩⟩⟩⟩⟩
theorem lw_p16 : lw_okq (⟨"TrainingBook$Told", "addGroup", "(II)V"⟩, 9) := ⟨⟨by decide +kernel, by decide +kernel⟩, List.mem_of_getElem? (i := 26) (by decide +kernel), List.mem_of_getElem? (i := 381) (by decide +kernel), List.mem_of_getElem? (i := 382) (by decide +kernel)⟩
theorem lw_p17 : lw_okq (⟨"TrainingBook$Teller", "readLoad", "()Z"⟩, 9) := ⟨⟨by decide +kernel, by decide +kernel⟩, List.mem_of_getElem? (i := 80) (by decide +kernel), List.mem_of_getElem? (i := 385) (by decide +kernel), List.mem_of_getElem? (i := 386) (by decide +kernel)⟩
theorem lw_p18 : lw_okq (⟨"TrainingBook$Teller", "readCamp", "()Z"⟩, 9) := ⟨⟨by decide +kernel, by decide +kernel⟩, List.mem_of_getElem? (i := 80) (by decide +kernel), List.mem_of_getElem? (i := 389) (by decide +kernel), List.mem_of_getElem? (i := 390) (by decide +kernel)⟩
theorem lw_p19 : lw_okq (⟨"TrainingBook$Told", "addCamp", "(II)V"⟩, 9) := ⟨⟨by decide +kernel, by decide +kernel⟩, List.mem_of_getElem? (i := 26) (by decide +kernel), List.mem_of_getElem? (i := 393) (by decide +kernel), List.mem_of_getElem? (i := 394) (by decide +kernel)⟩
theorem lw_p20 : lw_okq (⟨"TrainingBook$Teller", "readSetting", "()Z"⟩, 9) := ⟨⟨by decide +kernel, by decide +kernel⟩, List.mem_of_getElem? (i := 80) (by decide +kernel), List.mem_of_getElem? (i := 397) (by decide +kernel), List.mem_of_getElem? (i := 398) (by decide +kernel)⟩
theorem lw_p21 : lw_okq (⟨"TrainingBook$Teller", "readPlan", "()Z"⟩, 9) := ⟨⟨by decide +kernel, by decide +kernel⟩, List.mem_of_getElem? (i := 80) (by decide +kernel), List.mem_of_getElem? (i := 405) (by decide +kernel), List.mem_of_getElem? (i := 406) (by decide +kernel)⟩
theorem lw_p22 : lw_okq (⟨"TrainingBook$Teller", "openAgain", "()Z"⟩, 9) := ⟨⟨by decide +kernel, by decide +kernel⟩, List.mem_of_getElem? (i := 80) (by decide +kernel), List.mem_of_getElem? (i := 409) (by decide +kernel), List.mem_of_getElem? (i := 410) (by decide +kernel)⟩
theorem lw_p23 : lw_okq (⟨"TrainingBook$Teller", "take", "(I)Z"⟩, 9) := ⟨⟨by decide +kernel, by decide +kernel⟩, List.mem_of_getElem? (i := 80) (by decide +kernel), List.mem_of_getElem? (i := 413) (by decide +kernel), List.mem_of_getElem? (i := 414) (by decide +kernel)⟩
theorem lw_p24 : lw_okq (⟨"TrainingBook$Teller", "closeAgain", "()Z"⟩, 9) := ⟨⟨by decide +kernel, by decide +kernel⟩, List.mem_of_getElem? (i := 80) (by decide +kernel), List.mem_of_getElem? (i := 417) (by decide +kernel), List.mem_of_getElem? (i := 418) (by decide +kernel)⟩
theorem lw_p25 : lw_okq (⟨"TrainingBook$Told", "repeatKinds", "(IIII)V"⟩, 9) := ⟨⟨by decide +kernel, by decide +kernel⟩, List.mem_of_getElem? (i := 26) (by decide +kernel), List.mem_of_getElem? (i := 421) (by decide +kernel), List.mem_of_getElem? (i := 422) (by decide +kernel)⟩
theorem lw_p26 : lw_okq (⟨"TrainingBook$Teller", "readDays", "()Z"⟩, 9) := ⟨⟨by decide +kernel, by decide +kernel⟩, List.mem_of_getElem? (i := 80) (by decide +kernel), List.mem_of_getElem? (i := 425) (by decide +kernel), List.mem_of_getElem? (i := 426) (by decide +kernel)⟩
theorem lw_p27 : lw_okq (⟨"TrainingBook$Told", "fillKinds", "(IIII)V"⟩, 9) := ⟨⟨by decide +kernel, by decide +kernel⟩, List.mem_of_getElem? (i := 26) (by decide +kernel), List.mem_of_getElem? (i := 429) (by decide +kernel), List.mem_of_getElem? (i := 430) (by decide +kernel)⟩
theorem lw_p28 : lw_okq (⟨"TrainingBook", "remember", "()V"⟩, 8) := ⟨⟨by decide +kernel, by decide +kernel⟩, List.mem_of_getElem? (i := 18) (by decide +kernel), List.mem_of_getElem? (i := 433) (by decide +kernel), List.mem_of_getElem? (i := 434) (by decide +kernel)⟩
theorem lw_p29 : lw_okq (⟨"TrainingBook$Told", "hasCamp", "(I)Z"⟩, 9) := ⟨⟨by decide +kernel, by decide +kernel⟩, List.mem_of_getElem? (i := 26) (by decide +kernel), List.mem_of_getElem? (i := 481) (by decide +kernel), List.mem_of_getElem? (i := 482) (by decide +kernel)⟩
theorem lw_p30 : lw_okq (⟨"TrainingBook$Told", "dropCamp", "(I)V"⟩, 9) := ⟨⟨by decide +kernel, by decide +kernel⟩, List.mem_of_getElem? (i := 26) (by decide +kernel), List.mem_of_getElem? (i := 485) (by decide +kernel), List.mem_of_getElem? (i := 486) (by decide +kernel)⟩
theorem lw_p31 : lw_okq (⟨"TrainingBook$Told", "hasGroup", "(I)Z"⟩, 9) := ⟨⟨by decide +kernel, by decide +kernel⟩, List.mem_of_getElem? (i := 26) (by decide +kernel), List.mem_of_getElem? (i := 493) (by decide +kernel), List.mem_of_getElem? (i := 494) (by decide +kernel)⟩
def lw_privs_2 : List (MethodName × Nat) := [(⟨"TrainingBook$Told", "addGroup", "(II)V"⟩, 9), (⟨"TrainingBook$Teller", "readLoad", "()Z"⟩, 9), (⟨"TrainingBook$Teller", "readCamp", "()Z"⟩, 9), (⟨"TrainingBook$Told", "addCamp", "(II)V"⟩, 9), (⟨"TrainingBook$Teller", "readSetting", "()Z"⟩, 9), (⟨"TrainingBook$Teller", "readPlan", "()Z"⟩, 9), (⟨"TrainingBook$Teller", "openAgain", "()Z"⟩, 9), (⟨"TrainingBook$Teller", "take", "(I)Z"⟩, 9), (⟨"TrainingBook$Teller", "closeAgain", "()Z"⟩, 9), (⟨"TrainingBook$Told", "repeatKinds", "(IIII)V"⟩, 9), (⟨"TrainingBook$Teller", "readDays", "()Z"⟩, 9), (⟨"TrainingBook$Told", "fillKinds", "(IIII)V"⟩, 9), (⟨"TrainingBook", "remember", "()V"⟩, 8), (⟨"TrainingBook$Told", "hasCamp", "(I)Z"⟩, 9), (⟨"TrainingBook$Told", "dropCamp", "(I)V"⟩, 9), (⟨"TrainingBook$Told", "hasGroup", "(I)Z"⟩, 9)]
theorem lw_r2 : ∀ q ∈ lw_privs_2, lw_okq q := List.forall_mem_cons.mpr ⟨lw_p16, List.forall_mem_cons.mpr ⟨lw_p17, List.forall_mem_cons.mpr ⟨lw_p18, List.forall_mem_cons.mpr ⟨lw_p19, List.forall_mem_cons.mpr ⟨lw_p20, List.forall_mem_cons.mpr ⟨lw_p21, List.forall_mem_cons.mpr ⟨lw_p22, List.forall_mem_cons.mpr ⟨lw_p23, List.forall_mem_cons.mpr ⟨lw_p24, List.forall_mem_cons.mpr ⟨lw_p25, List.forall_mem_cons.mpr ⟨lw_p26, List.forall_mem_cons.mpr ⟨lw_p27, List.forall_mem_cons.mpr ⟨lw_p28, List.forall_mem_cons.mpr ⟨lw_p29, List.forall_mem_cons.mpr ⟨lw_p30, List.forall_mem_cons.mpr ⟨lw_p31, fun _ h => absurd h List.not_mem_nil⟩⟩⟩⟩⟩⟩⟩⟩⟩⟩⟩⟩⟩⟩⟩⟩
theorem lw_p32 : lw_okq (⟨"TrainingBook$Told", "countOthers", "(IIII)I"⟩, 9) := ⟨⟨by decide +kernel, by decide +kernel⟩, List.mem_of_getElem? (i := 26) (by decide +kernel), List.mem_of_getElem? (i := 497) (by decide +kernel), List.mem_of_getElem? (i := 498) (by decide +kernel)⟩
theorem lw_p33 : lw_okq (⟨"TrainingBook", "countNumber", "(I)I"⟩, 8) := ⟨⟨by decide +kernel, by decide +kernel⟩, List.mem_of_getElem? (i := 18) (by decide +kernel), List.mem_of_getElem? (i := 510) (by decide +kernel), List.mem_of_getElem? (i := 511) (by decide +kernel)⟩
theorem lw_p34 : lw_okq (⟨"TrainingBook$Course", "follow", "(LTrainingBook$Told;III)V"⟩, 12) := ⟨⟨by decide +kernel, by decide +kernel⟩, List.mem_of_getElem? (i := 150) (by decide +kernel), List.mem_of_getElem? (i := 518) (by decide +kernel), List.mem_of_getElem? (i := 519) (by decide +kernel)⟩
theorem lw_p35 : lw_okq (⟨"TrainingBook$Course", "pitch", "(II)V"⟩, 12) := ⟨⟨by decide +kernel, by decide +kernel⟩, List.mem_of_getElem? (i := 150) (by decide +kernel), List.mem_of_getElem? (i := 523) (by decide +kernel), List.mem_of_getElem? (i := 524) (by decide +kernel)⟩
theorem lw_p36 : lw_okq (⟨"TrainingBook$Course", "live", "(II)V"⟩, 12) := ⟨⟨by decide +kernel, by decide +kernel⟩, List.mem_of_getElem? (i := 150) (by decide +kernel), List.mem_of_getElem? (i := 527) (by decide +kernel), List.mem_of_getElem? (i := 528) (by decide +kernel)⟩
theorem lw_p37 : lw_okq (⟨"TrainingBook$Course", "liveDay", "(II)V"⟩, 12) := ⟨⟨by decide +kernel, by decide +kernel⟩, List.mem_of_getElem? (i := 150) (by decide +kernel), List.mem_of_getElem? (i := 531) (by decide +kernel), List.mem_of_getElem? (i := 532) (by decide +kernel)⟩
theorem lw_p38 : lw_okq (⟨"TrainingBook$Course", "isHurt", "(I)Z"⟩, 12) := ⟨⟨by decide +kernel, by decide +kernel⟩, List.mem_of_getElem? (i := 150) (by decide +kernel), List.mem_of_getElem? (i := 535) (by decide +kernel), List.mem_of_getElem? (i := 536) (by decide +kernel)⟩
theorem lw_p39 : lw_okq (⟨"TrainingBook$Course", "held", "(II)I"⟩, 12) := ⟨⟨by decide +kernel, by decide +kernel⟩, List.mem_of_getElem? (i := 150) (by decide +kernel), List.mem_of_getElem? (i := 539) (by decide +kernel), List.mem_of_getElem? (i := 540) (by decide +kernel)⟩
theorem lw_p40 : lw_okq (⟨"TrainingBook$Course", "isTooMuch", "(I)Z"⟩, 12) := ⟨⟨by decide +kernel, by decide +kernel⟩, List.mem_of_getElem? (i := 150) (by decide +kernel), List.mem_of_getElem? (i := 547) (by decide +kernel), List.mem_of_getElem? (i := 548) (by decide +kernel)⟩
theorem lw_p41 : lw_okq (⟨"TrainingBook$Course", "acute", "(I)I"⟩, 12) := ⟨⟨by decide +kernel, by decide +kernel⟩, List.mem_of_getElem? (i := 150) (by decide +kernel), List.mem_of_getElem? (i := 551) (by decide +kernel), List.mem_of_getElem? (i := 552) (by decide +kernel)⟩
theorem lw_p42 : lw_okq (⟨"TrainingBook$Course", "chronic", "(I)I"⟩, 12) := ⟨⟨by decide +kernel, by decide +kernel⟩, List.mem_of_getElem? (i := 150) (by decide +kernel), List.mem_of_getElem? (i := 558) (by decide +kernel), List.mem_of_getElem? (i := 559) (by decide +kernel)⟩
theorem lw_p43 : lw_okq (⟨"TrainingBook", "formAsTold", "(II)I"⟩, 8) := ⟨⟨by decide +kernel, by decide +kernel⟩, List.mem_of_getElem? (i := 18) (by decide +kernel), List.mem_of_getElem? (i := 570) (by decide +kernel), List.mem_of_getElem? (i := 571) (by decide +kernel)⟩
theorem lw_p44 : lw_okq (⟨"TrainingBook$Course", "formOf", "(I)I"⟩, 12) := ⟨⟨by decide +kernel, by decide +kernel⟩, List.mem_of_getElem? (i := 150) (by decide +kernel), List.mem_of_getElem? (i := 574) (by decide +kernel), List.mem_of_getElem? (i := 575) (by decide +kernel)⟩
theorem lw_p45 : lw_okq (⟨"TrainingBook$Course", "tryRows", "(III)V"⟩, 12) := ⟨⟨by decide +kernel, by decide +kernel⟩, List.mem_of_getElem? (i := 150) (by decide +kernel), List.mem_of_getElem? (i := 599) (by decide +kernel), List.mem_of_getElem? (i := 600) (by decide +kernel)⟩
theorem lw_p46 : lw_okq (⟨"TrainingBook$Course", "keepIfBetter", "(II)V"⟩, 12) := ⟨⟨by decide +kernel, by decide +kernel⟩, List.mem_of_getElem? (i := 150) (by decide +kernel), List.mem_of_getElem? (i := 603) (by decide +kernel), List.mem_of_getElem? (i := 604) (by decide +kernel)⟩
theorem lw_p47 : lw_okq (⟨"TrainingBook", "greatestBeside", "(I)I"⟩, 8) := ⟨⟨by decide +kernel, by decide +kernel⟩, List.mem_of_getElem? (i := 18) (by decide +kernel), List.mem_of_getElem? (i := 613) (by decide +kernel), List.mem_of_getElem? (i := 614) (by decide +kernel)⟩
def lw_privs_3 : List (MethodName × Nat) := [(⟨"TrainingBook$Told", "countOthers", "(IIII)I"⟩, 9), (⟨"TrainingBook", "countNumber", "(I)I"⟩, 8), (⟨"TrainingBook$Course", "follow", "(LTrainingBook$Told;III)V"⟩, 12), (⟨"TrainingBook$Course", "pitch", "(II)V"⟩, 12), (⟨"TrainingBook$Course", "live", "(II)V"⟩, 12), (⟨"TrainingBook$Course", "liveDay", "(II)V"⟩, 12), (⟨"TrainingBook$Course", "isHurt", "(I)Z"⟩, 12), (⟨"TrainingBook$Course", "held", "(II)I"⟩, 12), (⟨"TrainingBook$Course", "isTooMuch", "(I)Z"⟩, 12), (⟨"TrainingBook$Course", "acute", "(I)I"⟩, 12), (⟨"TrainingBook$Course", "chronic", "(I)I"⟩, 12), (⟨"TrainingBook", "formAsTold", "(II)I"⟩, 8), (⟨"TrainingBook$Course", "formOf", "(I)I"⟩, 12), (⟨"TrainingBook$Course", "tryRows", "(III)V"⟩, 12), (⟨"TrainingBook$Course", "keepIfBetter", "(II)V"⟩, 12), (⟨"TrainingBook", "greatestBeside", "(I)I"⟩, 8)]
theorem lw_r3 : ∀ q ∈ lw_privs_3, lw_okq q := List.forall_mem_cons.mpr ⟨lw_p32, List.forall_mem_cons.mpr ⟨lw_p33, List.forall_mem_cons.mpr ⟨lw_p34, List.forall_mem_cons.mpr ⟨lw_p35, List.forall_mem_cons.mpr ⟨lw_p36, List.forall_mem_cons.mpr ⟨lw_p37, List.forall_mem_cons.mpr ⟨lw_p38, List.forall_mem_cons.mpr ⟨lw_p39, List.forall_mem_cons.mpr ⟨lw_p40, List.forall_mem_cons.mpr ⟨lw_p41, List.forall_mem_cons.mpr ⟨lw_p42, List.forall_mem_cons.mpr ⟨lw_p43, List.forall_mem_cons.mpr ⟨lw_p44, List.forall_mem_cons.mpr ⟨lw_p45, List.forall_mem_cons.mpr ⟨lw_p46, List.forall_mem_cons.mpr ⟨lw_p47, fun _ h => absurd h List.not_mem_nil⟩⟩⟩⟩⟩⟩⟩⟩⟩⟩⟩⟩⟩⟩⟩⟩
theorem lw_p48 : lw_okq (⟨"java/lang/Throwable", "fillInStackTrace", "(I)Ljava/lang/Throwable;"⟩, 6) := ⟨⟨by decide +kernel, by decide +kernel⟩, List.mem_of_getElem? (i := 683) (by decide +kernel), List.mem_of_getElem? (i := 681) (by decide +kernel), List.mem_of_getElem? (i := 682) (by decide +kernel)⟩
theorem lw_p49 : lw_okq (⟨"TrainingBookModel", "groups", "()I"⟩, 27) := ⟨⟨by decide +kernel, by decide +kernel⟩, List.mem_of_getElem? (i := 712) (by decide +kernel), List.mem_of_getElem? (i := 811) (by decide +kernel), List.mem_of_getElem? (i := 812) (by decide +kernel)⟩
theorem lw_p50 : lw_okq (⟨"TrainingBookModel", "keeps", "([I)V"⟩, 27) := ⟨⟨by decide +kernel, by decide +kernel⟩, List.mem_of_getElem? (i := 712) (by decide +kernel), List.mem_of_getElem? (i := 815) (by decide +kernel), List.mem_of_getElem? (i := 816) (by decide +kernel)⟩
theorem lw_p51 : lw_okq (⟨"TrainingBookModel", "comes", "(II)V"⟩, 27) := ⟨⟨by decide +kernel, by decide +kernel⟩, List.mem_of_getElem? (i := 712) (by decide +kernel), List.mem_of_getElem? (i := 819) (by decide +kernel), List.mem_of_getElem? (i := 820) (by decide +kernel)⟩
theorem lw_p52 : lw_okq (⟨"TrainingBookModel", "of", "(I)I"⟩, 27) := ⟨⟨by decide +kernel, by decide +kernel⟩, List.mem_of_getElem? (i := 712) (by decide +kernel), List.mem_of_getElem? (i := 834) (by decide +kernel), List.mem_of_getElem? (i := 835) (by decide +kernel)⟩
theorem lw_p53 : lw_okq (⟨"TrainingBookModel", "camps", "()I"⟩, 27) := ⟨⟨by decide +kernel, by decide +kernel⟩, List.mem_of_getElem? (i := 712) (by decide +kernel), List.mem_of_getElem? (i := 845) (by decide +kernel), List.mem_of_getElem? (i := 846) (by decide +kernel)⟩
theorem lw_p54 : lw_okq (⟨"TrainingBookModel", "campComes", "(II)V"⟩, 27) := ⟨⟨by decide +kernel, by decide +kernel⟩, List.mem_of_getElem? (i := 712) (by decide +kernel), List.mem_of_getElem? (i := 849) (by decide +kernel), List.mem_of_getElem? (i := 850) (by decide +kernel)⟩
theorem lw_p55 : lw_okq (⟨"TrainingBookModel", "strikes", "(I)V"⟩, 27) := ⟨⟨by decide +kernel, by decide +kernel⟩, List.mem_of_getElem? (i := 712) (by decide +kernel), List.mem_of_getElem? (i := 857) (by decide +kernel), List.mem_of_getElem? (i := 858) (by decide +kernel)⟩
theorem lw_p56 : lw_okq (⟨"TrainingBookModel", "areDays", "(III)Z"⟩, 27) := ⟨⟨by decide +kernel, by decide +kernel⟩, List.mem_of_getElem? (i := 712) (by decide +kernel), List.mem_of_getElem? (i := 865) (by decide +kernel), List.mem_of_getElem? (i := 866) (by decide +kernel)⟩
theorem lw_p57 : lw_okq (⟨"TrainingBookModel", "isOne", "(II)Z"⟩, 27) := ⟨⟨by decide +kernel, by decide +kernel⟩, List.mem_of_getElem? (i := 712) (by decide +kernel), List.mem_of_getElem? (i := 869) (by decide +kernel), List.mem_of_getElem? (i := 870) (by decide +kernel)⟩
theorem lw_p58 : lw_okq (⟨"TrainingBookModel", "isGroup", "(I)Z"⟩, 27) := ⟨⟨by decide +kernel, by decide +kernel⟩, List.mem_of_getElem? (i := 712) (by decide +kernel), List.mem_of_getElem? (i := 873) (by decide +kernel), List.mem_of_getElem? (i := 874) (by decide +kernel)⟩
theorem lw_p59 : lw_okq (⟨"TrainingBookModel", "kindOf", "(II)I"⟩, 27) := ⟨⟨by decide +kernel, by decide +kernel⟩, List.mem_of_getElem? (i := 712) (by decide +kernel), List.mem_of_getElem? (i := 877) (by decide +kernel), List.mem_of_getElem? (i := 878) (by decide +kernel)⟩
theorem lw_p60 : lw_okq (⟨"TrainingBookModel", "put", "(I)V"⟩, 27) := ⟨⟨by decide +kernel, by decide +kernel⟩, List.mem_of_getElem? (i := 712) (by decide +kernel), List.mem_of_getElem? (i := 897) (by decide +kernel), List.mem_of_getElem? (i := 898) (by decide +kernel)⟩
theorem lw_p61 : lw_okq (⟨"TrainingBookModel", "here", "()I"⟩, 27) := ⟨⟨by decide +kernel, by decide +kernel⟩, List.mem_of_getElem? (i := 712) (by decide +kernel), List.mem_of_getElem? (i := 909) (by decide +kernel), List.mem_of_getElem? (i := 910) (by decide +kernel)⟩
theorem lw_p62 : lw_okq (⟨"TrainingBookModel", "statement", "()V"⟩, 27) := ⟨⟨by decide +kernel, by decide +kernel⟩, List.mem_of_getElem? (i := 712) (by decide +kernel), List.mem_of_getElem? (i := 913) (by decide +kernel), List.mem_of_getElem? (i := 914) (by decide +kernel)⟩
theorem lw_p63 : lw_okq (⟨"TrainingBookModel", "word", "()I"⟩, 27) := ⟨⟨by decide +kernel, by decide +kernel⟩, List.mem_of_getElem? (i := 712) (by decide +kernel), List.mem_of_getElem? (i := 917) (by decide +kernel), List.mem_of_getElem? (i := 918) (by decide +kernel)⟩
def lw_privs_4 : List (MethodName × Nat) := [(⟨"java/lang/Throwable", "fillInStackTrace", "(I)Ljava/lang/Throwable;"⟩, 6), (⟨"TrainingBookModel", "groups", "()I"⟩, 27), (⟨"TrainingBookModel", "keeps", "([I)V"⟩, 27), (⟨"TrainingBookModel", "comes", "(II)V"⟩, 27), (⟨"TrainingBookModel", "of", "(I)I"⟩, 27), (⟨"TrainingBookModel", "camps", "()I"⟩, 27), (⟨"TrainingBookModel", "campComes", "(II)V"⟩, 27), (⟨"TrainingBookModel", "strikes", "(I)V"⟩, 27), (⟨"TrainingBookModel", "areDays", "(III)Z"⟩, 27), (⟨"TrainingBookModel", "isOne", "(II)Z"⟩, 27), (⟨"TrainingBookModel", "isGroup", "(I)Z"⟩, 27), (⟨"TrainingBookModel", "kindOf", "(II)I"⟩, 27), (⟨"TrainingBookModel", "put", "(I)V"⟩, 27), (⟨"TrainingBookModel", "here", "()I"⟩, 27), (⟨"TrainingBookModel", "statement", "()V"⟩, 27), (⟨"TrainingBookModel", "word", "()I"⟩, 27)]
theorem lw_r4 : ∀ q ∈ lw_privs_4, lw_okq q := List.forall_mem_cons.mpr ⟨lw_p48, List.forall_mem_cons.mpr ⟨lw_p49, List.forall_mem_cons.mpr ⟨lw_p50, List.forall_mem_cons.mpr ⟨lw_p51, List.forall_mem_cons.mpr ⟨lw_p52, List.forall_mem_cons.mpr ⟨lw_p53, List.forall_mem_cons.mpr ⟨lw_p54, List.forall_mem_cons.mpr ⟨lw_p55, List.forall_mem_cons.mpr ⟨lw_p56, List.forall_mem_cons.mpr ⟨lw_p57, List.forall_mem_cons.mpr ⟨lw_p58, List.forall_mem_cons.mpr ⟨lw_p59, List.forall_mem_cons.mpr ⟨lw_p60, List.forall_mem_cons.mpr ⟨lw_p61, List.forall_mem_cons.mpr ⟨lw_p62, List.forall_mem_cons.mpr ⟨lw_p63, fun _ h => absurd h List.not_mem_nil⟩⟩⟩⟩⟩⟩⟩⟩⟩⟩⟩⟩⟩⟩⟩⟩
theorem lw_p64 : lw_okq (⟨"TrainingBookModel", "fails", "(II)V"⟩, 27) := ⟨⟨by decide +kernel, by decide +kernel⟩, List.mem_of_getElem? (i := 712) (by decide +kernel), List.mem_of_getElem? (i := 924) (by decide +kernel), List.mem_of_getElem? (i := 925) (by decide +kernel)⟩
theorem lw_p65 : lw_okq (⟨"TrainingBookModel", "number", "(II)I"⟩, 27) := ⟨⟨by decide +kernel, by decide +kernel⟩, List.mem_of_getElem? (i := 712) (by decide +kernel), List.mem_of_getElem? (i := 928) (by decide +kernel), List.mem_of_getElem? (i := 929) (by decide +kernel)⟩
theorem lw_p66 : lw_okq (⟨"TrainingBookModel", "isNumber", "()Z"⟩, 27) := ⟨⟨by decide +kernel, by decide +kernel⟩, List.mem_of_getElem? (i := 712) (by decide +kernel), List.mem_of_getElem? (i := 932) (by decide +kernel), List.mem_of_getElem? (i := 933) (by decide +kernel)⟩
theorem lw_p67 : lw_okq (⟨"TrainingBookModel", "planTold", "()V"⟩, 27) := ⟨⟨by decide +kernel, by decide +kernel⟩, List.mem_of_getElem? (i := 712) (by decide +kernel), List.mem_of_getElem? (i := 939) (by decide +kernel), List.mem_of_getElem? (i := 940) (by decide +kernel)⟩
theorem lw_p68 : lw_okq (⟨"TrainingBookModel", "closes", "()V"⟩, 27) := ⟨⟨by decide +kernel, by decide +kernel⟩, List.mem_of_getElem? (i := 712) (by decide +kernel), List.mem_of_getElem? (i := 943) (by decide +kernel), List.mem_of_getElem? (i := 944) (by decide +kernel)⟩
theorem lw_p69 : lw_okq (⟨"TrainingBookModel", "item", "()V"⟩, 27) := ⟨⟨by decide +kernel, by decide +kernel⟩, List.mem_of_getElem? (i := 712) (by decide +kernel), List.mem_of_getElem? (i := 947) (by decide +kernel), List.mem_of_getElem? (i := 948) (by decide +kernel)⟩
theorem lw_p70 : lw_okq (⟨"TrainingBookModel", "named", "(II)V"⟩, 27) := ⟨⟨by decide +kernel, by decide +kernel⟩, List.mem_of_getElem? (i := 712) (by decide +kernel), List.mem_of_getElem? (i := 951) (by decide +kernel), List.mem_of_getElem? (i := 952) (by decide +kernel)⟩
theorem lw_p71 : lw_okq (⟨"TrainingBookModel", "goes", "(II)V"⟩, 27) := ⟨⟨by decide +kernel, by decide +kernel⟩, List.mem_of_getElem? (i := 712) (by decide +kernel), List.mem_of_getElem? (i := 963) (by decide +kernel), List.mem_of_getElem? (i := 964) (by decide +kernel)⟩
theorem lw_p72 : lw_okq (⟨"TrainingBookModel", "isCamp", "(I)Z"⟩, 27) := ⟨⟨by decide +kernel, by decide +kernel⟩, List.mem_of_getElem? (i := 712) (by decide +kernel), List.mem_of_getElem? (i := 967) (by decide +kernel), List.mem_of_getElem? (i := 968) (by decide +kernel)⟩
theorem lw_p73 : lw_okq (⟨"TrainingBookModel", "acute", "(I)I"⟩, 27) := ⟨⟨by decide +kernel, by decide +kernel⟩, List.mem_of_getElem? (i := 712) (by decide +kernel), List.mem_of_getElem? (i := 971) (by decide +kernel), List.mem_of_getElem? (i := 972) (by decide +kernel)⟩
theorem lw_p74 : lw_okq (⟨"TrainingBookModel", "chronic", "(I)I"⟩, 27) := ⟨⟨by decide +kernel, by decide +kernel⟩, List.mem_of_getElem? (i := 712) (by decide +kernel), List.mem_of_getElem? (i := 975) (by decide +kernel), List.mem_of_getElem? (i := 976) (by decide +kernel)⟩
theorem lw_p75 : lw_okq (⟨"TrainingBookModel", "formOf", "(II)I"⟩, 27) := ⟨⟨by decide +kernel, by decide +kernel⟩, List.mem_of_getElem? (i := 712) (by decide +kernel), List.mem_of_getElem? (i := 983) (by decide +kernel), List.mem_of_getElem? (i := 984) (by decide +kernel)⟩
theorem lw_p76 : lw_okq (⟨"TrainingBookModel", "formAt", "(I)I"⟩, 27) := ⟨⟨by decide +kernel, by decide +kernel⟩, List.mem_of_getElem? (i := 712) (by decide +kernel), List.mem_of_getElem? (i := 987) (by decide +kernel), List.mem_of_getElem? (i := 988) (by decide +kernel)⟩
theorem lw_p77 : lw_okq (⟨"TrainingBookModel", "remembers", "(I)V"⟩, 27) := ⟨⟨by decide +kernel, by decide +kernel⟩, List.mem_of_getElem? (i := 712) (by decide +kernel), List.mem_of_getElem? (i := 1008) (by decide +kernel), List.mem_of_getElem? (i := 1009) (by decide +kernel)⟩
theorem lw_p78 : lw_okq (⟨"TrainingBookModel", "comesBack", "(I)V"⟩, 27) := ⟨⟨by decide +kernel, by decide +kernel⟩, List.mem_of_getElem? (i := 712) (by decide +kernel), List.mem_of_getElem? (i := 1012) (by decide +kernel), List.mem_of_getElem? (i := 1013) (by decide +kernel)⟩
theorem lw_p79 : lw_okq (⟨"TrainingBookModel", "isHale", "(II)Z"⟩, 27) := ⟨⟨by decide +kernel, by decide +kernel⟩, List.mem_of_getElem? (i := 712) (by decide +kernel), List.mem_of_getElem? (i := 1020) (by decide +kernel), List.mem_of_getElem? (i := 1021) (by decide +kernel)⟩
def lw_privs_5 : List (MethodName × Nat) := [(⟨"TrainingBookModel", "fails", "(II)V"⟩, 27), (⟨"TrainingBookModel", "number", "(II)I"⟩, 27), (⟨"TrainingBookModel", "isNumber", "()Z"⟩, 27), (⟨"TrainingBookModel", "planTold", "()V"⟩, 27), (⟨"TrainingBookModel", "closes", "()V"⟩, 27), (⟨"TrainingBookModel", "item", "()V"⟩, 27), (⟨"TrainingBookModel", "named", "(II)V"⟩, 27), (⟨"TrainingBookModel", "goes", "(II)V"⟩, 27), (⟨"TrainingBookModel", "isCamp", "(I)Z"⟩, 27), (⟨"TrainingBookModel", "acute", "(I)I"⟩, 27), (⟨"TrainingBookModel", "chronic", "(I)I"⟩, 27), (⟨"TrainingBookModel", "formOf", "(II)I"⟩, 27), (⟨"TrainingBookModel", "formAt", "(I)I"⟩, 27), (⟨"TrainingBookModel", "remembers", "(I)V"⟩, 27), (⟨"TrainingBookModel", "comesBack", "(I)V"⟩, 27), (⟨"TrainingBookModel", "isHale", "(II)Z"⟩, 27)]
theorem lw_r5 : ∀ q ∈ lw_privs_5, lw_okq q := List.forall_mem_cons.mpr ⟨lw_p64, List.forall_mem_cons.mpr ⟨lw_p65, List.forall_mem_cons.mpr ⟨lw_p66, List.forall_mem_cons.mpr ⟨lw_p67, List.forall_mem_cons.mpr ⟨lw_p68, List.forall_mem_cons.mpr ⟨lw_p69, List.forall_mem_cons.mpr ⟨lw_p70, List.forall_mem_cons.mpr ⟨lw_p71, List.forall_mem_cons.mpr ⟨lw_p72, List.forall_mem_cons.mpr ⟨lw_p73, List.forall_mem_cons.mpr ⟨lw_p74, List.forall_mem_cons.mpr ⟨lw_p75, List.forall_mem_cons.mpr ⟨lw_p76, List.forall_mem_cons.mpr ⟨lw_p77, List.forall_mem_cons.mpr ⟨lw_p78, List.forall_mem_cons.mpr ⟨lw_p79, fun _ h => absurd h List.not_mem_nil⟩⟩⟩⟩⟩⟩⟩⟩⟩⟩⟩⟩⟩⟩⟩⟩
def lw_privs : List (MethodName × Nat) := lw_privs_1 ++ (lw_privs_2 ++ (lw_privs_3 ++ (lw_privs_4 ++ (lw_privs_5))))
def lw_tbl : List Cond := k2_sels lw_privs ++ tables_1
theorem lw_privs_ok : ∀ q ∈ lw_privs, lw_okq q := by
  show ∀ q ∈ lw_privs_1 ++ (lw_privs_2 ++ (lw_privs_3 ++ (lw_privs_4 ++ (lw_privs_5)))), lw_okq q
  exact List.forall_mem_append.mpr ⟨lw_r1, List.forall_mem_append.mpr ⟨lw_r2, List.forall_mem_append.mpr ⟨lw_r3, List.forall_mem_append.mpr ⟨lw_r4, lw_r5⟩⟩⟩⟩
end
section
def RX0 : String := "TrainingBook$Course"
def TX0 : u_T := fun k => match k with
  | 0 => ("TrainingBook$Course", "settings", "[I", true)
  | 1 => ("TrainingBook$Course", "kindLoads", "[I", true)
  | 2 => ("TrainingBook$Course", "kinds", "[I", true)
  | 3 => ("TrainingBook$Course", "inCamp", "[Z", true)
  | 4 => ("TrainingBook$Course", "loads", "[I", true)
  | 5 => ("TrainingBook$Course", "fits", "[I", true)
  | 6 => ("TrainingBook$Course", "tireds", "[I", true)
  | 7 => ("TrainingBook$Course", "sums", "[I", true)
  | 8 => ("TrainingBook$Course", "healed", "[I", true)
  | 9 => ("TrainingBook$Course", "hurting", "[Z", true)
  | 10 => ("TrainingBook$Course", "bestForm", "I", false)
  | _ => ("TrainingBook$Course", "bestRow", "I", false)
def tyX0 : Nat → FieldType := fun k => match k with
  | 0 => .array .int
  | 1 => .array .int
  | 2 => .array .int
  | 3 => .array .boolean
  | 4 => .array .int
  | 5 => .array .int
  | 6 => .array .int
  | 7 => .array .int
  | 8 => .array .int
  | 9 => .array .boolean
  | 10 => .int
  | _ => .int
abbrev wsX00 : List Cond := u_ws RX0 TX0 12
theorem nmX0 : ∀ a, a < 12 → ∀ b, b < 12 → a ≠ b → (TX0 a).2.1 ≠ (TX0 b).2.1 := by decide +kernel
theorem tyX0_ok : ∀ k, k < 12 → parseFieldDescriptor (TX0 k).2.2.1 = some (tyX0 k) := by decide +kernel
abbrev cX0_init : ByteArray := prog_2_method_1_code
def yX0_init : MethodName := ⟨RX0, "<init>", "()V"⟩
abbrev cX0_follow : ByteArray := prog_2_method_2_code
def yX0_follow : MethodName := ⟨RX0, "follow", "(LTrainingBook$Told;III)V"⟩
abbrev cX0_pitch : ByteArray := prog_2_method_3_code
def yX0_pitch : MethodName := ⟨RX0, "pitch", "(II)V"⟩
abbrev cX0_live : ByteArray := prog_2_method_4_code
def yX0_live : MethodName := ⟨RX0, "live", "(II)V"⟩
abbrev cX0_liveDay : ByteArray := prog_2_method_5_code
def yX0_liveDay : MethodName := ⟨RX0, "liveDay", "(II)V"⟩
abbrev cX0_held : ByteArray := prog_2_method_6_code
def yX0_held : MethodName := ⟨RX0, "held", "(II)I"⟩
abbrev cX0_decayed : ByteArray := prog_2_method_7_code
def yX0_decayed : MethodName := ⟨RX0, "decayed", "(II)I"⟩
abbrev cX0_isHurt : ByteArray := prog_2_method_8_code
def yX0_isHurt : MethodName := ⟨RX0, "isHurt", "(I)Z"⟩
abbrev cX0_isTooMuch : ByteArray := prog_2_method_9_code
def yX0_isTooMuch : MethodName := ⟨RX0, "isTooMuch", "(I)Z"⟩
abbrev cX0_acute : ByteArray := prog_2_method_10_code
def yX0_acute : MethodName := ⟨RX0, "acute", "(I)I"⟩
abbrev cX0_chronic : ByteArray := prog_2_method_11_code
def yX0_chronic : MethodName := ⟨RX0, "chronic", "(I)I"⟩
abbrev cX0_formOf : ByteArray := prog_2_method_12_code
def yX0_formOf : MethodName := ⟨RX0, "formOf", "(I)I"⟩
abbrev cX0_tryRows : ByteArray := prog_2_method_13_code
def yX0_tryRows : MethodName := ⟨RX0, "tryRows", "(III)V"⟩
abbrev cX0_keepIfBetter : ByteArray := prog_2_method_14_code
def yX0_keepIfBetter : MethodName := ⟨RX0, "keepIfBetter", "(II)V"⟩
def RX1 : String := "TrainingBook$Tape"
def TX1 : u_T := fun k => match k with
  | 0 => ("TrainingBook$Tape", "bytes", "[B", true)
  | 1 => ("TrainingBook$Tape", "length", "I", false)
  | 2 => ("TrainingBook$Tape", "tokens", "[I", true)
  | 3 => ("TrainingBook$Tape", "places", "[I", true)
  | 4 => ("TrainingBook$Tape", "numbers", "[I", true)
  | _ => ("TrainingBook$Tape", "size", "I", false)
def tyX1 : Nat → FieldType := fun k => match k with
  | 0 => .array .byte
  | 1 => .int
  | 2 => .array .int
  | 3 => .array .int
  | 4 => .array .int
  | _ => .int
abbrev wsX10 : List Cond := u_ws RX1 TX1 6
theorem nmX1 : ∀ a, a < 6 → ∀ b, b < 6 → a ≠ b → (TX1 a).2.1 ≠ (TX1 b).2.1 := by decide +kernel
theorem tyX1_ok : ∀ k, k < 6 → parseFieldDescriptor (TX1 k).2.2.1 = some (tyX1 k) := by decide +kernel
abbrev cX1_init : ByteArray := prog_3_method_1_code
def yX1_init : MethodName := ⟨RX1, "<init>", "()V"⟩
abbrev cX1_append : ByteArray := prog_3_method_2_code
def yX1_append : MethodName := ⟨RX1, "append", "(I)V"⟩
abbrev cX1_split : ByteArray := prog_3_method_3_code
def yX1_split : MethodName := ⟨RX1, "split", "()V"⟩
abbrev cX1_note : ByteArray := prog_3_method_4_code
def yX1_note : MethodName := ⟨RX1, "note", "(III)V"⟩
abbrev cX1_endOfWord : ByteArray := prog_3_method_5_code
def yX1_endOfWord : MethodName := ⟨RX1, "endOfWord", "(I)I"⟩
abbrev cX1_endOfInt : ByteArray := prog_3_method_6_code
def yX1_endOfInt : MethodName := ⟨RX1, "endOfInt", "(I)I"⟩
abbrev cX1_wordAt : ByteArray := prog_3_method_7_code
def yX1_wordAt : MethodName := ⟨RX1, "wordAt", "(II)I"⟩
abbrev cX1_isTextAt : ByteArray := prog_3_method_8_code
def yX1_isTextAt : MethodName := ⟨RX1, "isTextAt", "(Ljava/lang/String;II)Z"⟩
abbrev cX1_numberAt : ByteArray := prog_3_method_9_code
def yX1_numberAt : MethodName := ⟨RX1, "numberAt", "(II)I"⟩
abbrev cX1_isLetter : ByteArray := prog_3_method_10_code
def yX1_isLetter : MethodName := ⟨RX1, "isLetter", "(I)Z"⟩
abbrev cX1_isDigit : ByteArray := prog_3_method_11_code
def yX1_isDigit : MethodName := ⟨RX1, "isDigit", "(I)Z"⟩
abbrev cX1_isBlank : ByteArray := prog_3_method_12_code
def yX1_isBlank : MethodName := ⟨RX1, "isBlank", "(I)Z"⟩
abbrev cX1_signOf : ByteArray := prog_3_method_13_code
def yX1_signOf : MethodName := ⟨RX1, "signOf", "(I)I"⟩
abbrev cX1_textOf : ByteArray := prog_3_method_14_code
def yX1_textOf : MethodName := ⟨RX1, "textOf", "(I)Ljava/lang/String;"⟩
def RX2 : String := "TrainingBook$Teller"
def TX2 : u_T := fun k => match k with
  | 0 => ("TrainingBook$Teller", "tape", "LTrainingBook$Tape;", true)
  | 1 => ("TrainingBook$Teller", "draft", "LTrainingBook$Told;", true)
  | 2 => ("TrainingBook$Teller", "at", "I", false)
  | 3 => ("TrainingBook$Teller", "found", "I", false)
  | 4 => ("TrainingBook$Teller", "planned", "I", false)
  | 5 => ("TrainingBook$Teller", "nextDay", "I", false)
  | 6 => ("TrainingBook$Teller", "agains", "I", false)
  | 7 => ("TrainingBook$Teller", "againDays", "[I", true)
  | _ => ("TrainingBook$Teller", "againTimes", "[I", true)
def tyX2 : Nat → FieldType := fun k => match k with
  | 0 => .object "TrainingBook$Tape"
  | 1 => .object "TrainingBook$Told"
  | 2 => .int
  | 3 => .int
  | 4 => .int
  | 5 => .int
  | 6 => .int
  | 7 => .array .int
  | _ => .array .int
abbrev wsX20 : List Cond := u_ws RX2 TX2 9
theorem nmX2 : ∀ a, a < 9 → ∀ b, b < 9 → a ≠ b → (TX2 a).2.1 ≠ (TX2 b).2.1 := by decide +kernel
theorem tyX2_ok : ∀ k, k < 9 → parseFieldDescriptor (TX2 k).2.2.1 = some (tyX2 k) := by decide +kernel
abbrev cX2_init : ByteArray := prog_4_method_1_code
def yX2_init : MethodName := ⟨RX2, "<init>", "()V"⟩
abbrev cX2_readText : ByteArray := prog_4_method_2_code
def yX2_readText : MethodName := ⟨RX2, "readText", "(LTrainingBook$Told;)I"⟩
abbrev cX2_readStatement : ByteArray := prog_4_method_3_code
def yX2_readStatement : MethodName := ⟨RX2, "readStatement", "()Z"⟩
abbrev cX2_readGroup : ByteArray := prog_4_method_4_code
def yX2_readGroup : MethodName := ⟨RX2, "readGroup", "()Z"⟩
abbrev cX2_readLoad : ByteArray := prog_4_method_5_code
def yX2_readLoad : MethodName := ⟨RX2, "readLoad", "()Z"⟩
abbrev cX2_readCamp : ByteArray := prog_4_method_6_code
def yX2_readCamp : MethodName := ⟨RX2, "readCamp", "()Z"⟩
abbrev cX2_readSetting : ByteArray := prog_4_method_7_code
def yX2_readSetting : MethodName := ⟨RX2, "readSetting", "()Z"⟩
abbrev cX2_readPlan : ByteArray := prog_4_method_8_code
def yX2_readPlan : MethodName := ⟨RX2, "readPlan", "()Z"⟩
abbrev cX2_openAgain : ByteArray := prog_4_method_9_code
def yX2_openAgain : MethodName := ⟨RX2, "openAgain", "()Z"⟩
abbrev cX2_closeAgain : ByteArray := prog_4_method_10_code
def yX2_closeAgain : MethodName := ⟨RX2, "closeAgain", "()Z"⟩
abbrev cX2_readDays : ByteArray := prog_4_method_11_code
def yX2_readDays : MethodName := ⟨RX2, "readDays", "()Z"⟩
abbrev cX2_token : ByteArray := prog_4_method_12_code
def yX2_token : MethodName := ⟨RX2, "token", "()I"⟩
abbrev cX2_step : ByteArray := prog_4_method_13_code
def yX2_step : MethodName := ⟨RX2, "step", "()V"⟩
abbrev cX2_take : ByteArray := prog_4_method_14_code
def yX2_take : MethodName := ⟨RX2, "take", "(I)Z"⟩
abbrev cX2_takeInt : ByteArray := prog_4_method_15_code
def yX2_takeInt : MethodName := ⟨RX2, "takeInt", "(II)I"⟩
abbrev cX2_fail : ByteArray := prog_4_method_16_code
def yX2_fail : MethodName := ⟨RX2, "fail", "(I)Z"⟩
def RX3 : String := "TrainingBook$Told"
def TX3 : u_T := fun k => match k with
  | 0 => ("TrainingBook$Told", "groups", "I", false)
  | 1 => ("TrainingBook$Told", "firstFits", "[I", true)
  | 2 => ("TrainingBook$Told", "firstTireds", "[I", true)
  | 3 => ("TrainingBook$Told", "kinds", "[I", true)
  | 4 => ("TrainingBook$Told", "camps", "I", false)
  | 5 => ("TrainingBook$Told", "campFirsts", "[I", true)
  | 6 => ("TrainingBook$Told", "campLasts", "[I", true)
  | 7 => ("TrainingBook$Told", "loads", "[I", true)
  | _ => ("TrainingBook$Told", "settings", "[I", true)
def tyX3 : Nat → FieldType := fun k => match k with
  | 0 => .int
  | 1 => .array .int
  | 2 => .array .int
  | 3 => .array .int
  | 4 => .int
  | 5 => .array .int
  | 6 => .array .int
  | 7 => .array .int
  | _ => .array .int
abbrev wsX30 : List Cond := u_ws RX3 TX3 9
theorem nmX3 : ∀ a, a < 9 → ∀ b, b < 9 → a ≠ b → (TX3 a).2.1 ≠ (TX3 b).2.1 := by decide +kernel
theorem tyX3_ok : ∀ k, k < 9 → parseFieldDescriptor (TX3 k).2.2.1 = some (tyX3 k) := by decide +kernel
abbrev cX3_init : ByteArray := prog_5_method_1_code
def yX3_init : MethodName := ⟨RX3, "<init>", "()V"⟩
abbrev cX3_copyFrom : ByteArray := prog_5_method_2_code
def yX3_copyFrom : MethodName := ⟨RX3, "copyFrom", "(LTrainingBook$Told;)V"⟩
abbrev cX3_hasGroup : ByteArray := prog_5_method_3_code
def yX3_hasGroup : MethodName := ⟨RX3, "hasGroup", "(I)Z"⟩
abbrev cX3_hasCamp : ByteArray := prog_5_method_4_code
def yX3_hasCamp : MethodName := ⟨RX3, "hasCamp", "(I)Z"⟩
abbrev cX3_addGroup : ByteArray := prog_5_method_5_code
def yX3_addGroup : MethodName := ⟨RX3, "addGroup", "(II)V"⟩
abbrev cX3_addCamp : ByteArray := prog_5_method_6_code
def yX3_addCamp : MethodName := ⟨RX3, "addCamp", "(II)V"⟩
abbrev cX3_dropCamp : ByteArray := prog_5_method_7_code
def yX3_dropCamp : MethodName := ⟨RX3, "dropCamp", "(I)V"⟩
abbrev cX3_countOthers : ByteArray := prog_5_method_8_code
def yX3_countOthers : MethodName := ⟨RX3, "countOthers", "(IIII)I"⟩
abbrev cX3_fillKinds : ByteArray := prog_5_method_9_code
def yX3_fillKinds : MethodName := ⟨RX3, "fillKinds", "(IIII)V"⟩
abbrev cX3_repeatKinds : ByteArray := prog_5_method_10_code
def yX3_repeatKinds : MethodName := ⟨RX3, "repeatKinds", "(IIII)V"⟩
def RX4 : String := "TrainingBook"
def TX4 : u_T := fun k => match k with
  | 0 => ("TrainingBook", "told", "LTrainingBook$Told;", true)
  | 1 => ("TrainingBook", "past", "[LTrainingBook$Told;", true)
  | 2 => ("TrainingBook", "undos", "I", false)
  | 3 => ("TrainingBook", "nextPast", "I", false)
  | 4 => ("TrainingBook", "teller", "LTrainingBook$Teller;", true)
  | 5 => ("TrainingBook", "course", "LTrainingBook$Course;", true)
  | 6 => ("TrainingBook", "otherCourse", "LTrainingBook$Course;", true)
  | _ => ("TrainingBook", "forms", "[I", true)
def tyX4 : Nat → FieldType := fun k => match k with
  | 0 => .object "TrainingBook$Told"
  | 1 => .array (.object "TrainingBook$Told")
  | 2 => .int
  | 3 => .int
  | 4 => .object "TrainingBook$Teller"
  | 5 => .object "TrainingBook$Course"
  | 6 => .object "TrainingBook$Course"
  | _ => .array .int
abbrev wsX40 : List Cond := u_ws RX4 TX4 8
theorem nmX4 : ∀ a, a < 8 → ∀ b, b < 8 → a ≠ b → (TX4 a).2.1 ≠ (TX4 b).2.1 := by decide +kernel
theorem tyX4_ok : ∀ k, k < 8 → parseFieldDescriptor (TX4 k).2.2.1 = some (tyX4 k) := by decide +kernel
abbrev cX4_init : ByteArray := prog_1_method_1_code
def yX4_init : MethodName := ⟨RX4, "<init>", "()V"⟩
abbrev cX4_feed : ByteArray := prog_1_method_2_code
def yX4_feed : MethodName := ⟨RX4, "feed", "(IIIII)I"⟩
abbrev cX4_end : ByteArray := prog_1_method_3_code
def yX4_end : MethodName := ⟨RX4, "end", "(I)Z"⟩
abbrev cX4_tell : ByteArray := prog_1_method_4_code
def yX4_tell : MethodName := ⟨RX4, "tell", "()I"⟩
abbrev cX4_fault : ByteArray := prog_1_method_5_code
def yX4_fault : MethodName := ⟨RX4, "fault", "()I"⟩
abbrev cX4_group : ByteArray := prog_1_method_6_code
def yX4_group : MethodName := ⟨RX4, "group", "(II)I"⟩
abbrev cX4_load : ByteArray := prog_1_method_7_code
def yX4_load : MethodName := ⟨RX4, "load", "(II)Z"⟩
abbrev cX4_set : ByteArray := prog_1_method_8_code
def yX4_set : MethodName := ⟨RX4, "set", "(II)Z"⟩
abbrev cX4_camp : ByteArray := prog_1_method_9_code
def yX4_camp : MethodName := ⟨RX4, "camp", "(II)I"⟩
abbrev cX4_strike : ByteArray := prog_1_method_10_code
def yX4_strike : MethodName := ⟨RX4, "strike", "(I)I"⟩
abbrev cX4_plan : ByteArray := prog_1_method_11_code
def yX4_plan : MethodName := ⟨RX4, "plan", "(IIII)I"⟩
abbrev cX4_undo : ByteArray := prog_1_method_12_code
def yX4_undo : MethodName := ⟨RX4, "undo", "()I"⟩
abbrev cX4_count : ByteArray := prog_1_method_13_code
def yX4_count : MethodName := ⟨RX4, "count", "(I)I"⟩
abbrev cX4_camped : ByteArray := prog_1_method_14_code
def yX4_camped : MethodName := ⟨RX4, "camped", "(IZ)I"⟩
abbrev cX4_day : ByteArray := prog_1_method_15_code
def yX4_day : MethodName := ⟨RX4, "day", "(III)I"⟩
abbrev cX4_form : ByteArray := prog_1_method_16_code
def yX4_form : MethodName := ⟨RX4, "form", "(II)I"⟩
abbrev cX4_week : ByteArray := prog_1_method_17_code
def yX4_week : MethodName := ⟨RX4, "week", "(II)I"⟩
abbrev cX4_injured : ByteArray := prog_1_method_18_code
def yX4_injured : MethodName := ⟨RX4, "injured", "(III)I"⟩
abbrev cX4_peak : ByteArray := prog_1_method_19_code
def yX4_peak : MethodName := ⟨RX4, "peak", "(III)I"⟩
abbrev cX4_taper : ByteArray := prog_1_method_20_code
def yX4_taper : MethodName := ⟨RX4, "taper", "(II)I"⟩
abbrev cX4_best : ByteArray := prog_1_method_21_code
def yX4_best : MethodName := ⟨RX4, "best", "(IIII)I"⟩
abbrev cX4_team : ByteArray := prog_1_method_22_code
def yX4_team : MethodName := ⟨RX4, "team", "(II)I"⟩
abbrev cX4_safe : ByteArray := prog_1_method_23_code
def yX4_safe : MethodName := ⟨RX4, "safe", "(II)I"⟩
abbrev cX4_row : ByteArray := prog_1_method_24_code
def yX4_row : MethodName := ⟨RX4, "row", "(III)I"⟩
abbrev cX4_swap : ByteArray := prog_1_method_25_code
def yX4_swap : MethodName := ⟨RX4, "swap", "(IIII)I"⟩
abbrev cX4_without : ByteArray := prog_1_method_26_code
def yX4_without : MethodName := ⟨RX4, "without", "(III)I"⟩
abbrev cX4_ahead : ByteArray := prog_1_method_27_code
def yX4_ahead : MethodName := ⟨RX4, "ahead", "(III)I"⟩
abbrev cX4_isDay : ByteArray := prog_1_method_28_code
def yX4_isDay : MethodName := ⟨RX4, "isDay", "(I)Z"⟩
abbrev cX4_areDays : ByteArray := prog_1_method_29_code
def yX4_areDays : MethodName := ⟨RX4, "areDays", "(II)Z"⟩
abbrev cX4_canBeAtFirst : ByteArray := prog_1_method_30_code
def yX4_canBeAtFirst : MethodName := ⟨RX4, "canBeAtFirst", "(I)Z"⟩
abbrev cX4_canBeSetting : ByteArray := prog_1_method_31_code
def yX4_canBeSetting : MethodName := ⟨RX4, "canBeSetting", "(II)Z"⟩
abbrev cX4_countNumber : ByteArray := prog_1_method_32_code
def yX4_countNumber : MethodName := ⟨RX4, "countNumber", "(I)I"⟩
abbrev cX4_remember : ByteArray := prog_1_method_33_code
def yX4_remember : MethodName := ⟨RX4, "remember", "()V"⟩
abbrev cX4_formAsTold : ByteArray := prog_1_method_34_code
def yX4_formAsTold : MethodName := ⟨RX4, "formAsTold", "(II)I"⟩
abbrev cX4_greatestBeside : ByteArray := prog_1_method_35_code
def yX4_greatestBeside : MethodName := ⟨RX4, "greatestBeside", "(I)I"⟩
def RX5 : String := "TrainingBookModel"
def TX5 : u_T := fun k => match k with
  | 0 => ("TrainingBookModel", "thrown", "I", false)
  | 1 => ("TrainingBookModel", "now", "[I", true)
  | 2 => ("TrainingBookModel", "kept", "[I", true)
  | 3 => ("TrainingBookModel", "aside", "[I", true)
  | 4 => ("TrainingBookModel", "keeps", "I", false)
  | 5 => ("TrainingBookModel", "tape", "[B", true)
  | 6 => ("TrainingBookModel", "taped", "I", false)
  | 7 => ("TrainingBookModel", "fault", "I", false)
  | 8 => ("TrainingBookModel", "length", "I", false)
  | 9 => ("TrainingBookModel", "at", "I", false)
  | 10 => ("TrainingBookModel", "from", "I", false)
  | 11 => ("TrainingBookModel", "row", "[I", true)
  | 12 => ("TrainingBookModel", "begins", "[I", true)
  | 13 => ("TrainingBookModel", "times", "[I", true)
  | 14 => ("TrainingBookModel", "many", "I", false)
  | 15 => ("TrainingBookModel", "open", "I", false)
  | 16 => ("TrainingBookModel", "room", "I", false)
  | 17 => ("TrainingBookModel", "load", "[I", true)
  | 18 => ("TrainingBookModel", "fit", "[I", true)
  | 19 => ("TrainingBookModel", "tired", "[I", true)
  | 20 => ("TrainingBookModel", "sums", "[I", true)
  | 21 => ("TrainingBookModel", "hurt", "[Z", true)
  | 22 => ("TrainingBookModel", "injured", "[Z", true)
  | 23 => ("TrainingBookModel", "noCamp", "I", false)
  | 24 => ("TrainingBookModel", "otherDay", "I", false)
  | 25 => ("TrainingBookModel", "otherLoad", "I", false)
  | _ => ("TrainingBookModel", "were", "[I", true)
def tyX5 : Nat → FieldType := fun k => match k with
  | 0 => .int
  | 1 => .array .int
  | 2 => .array .int
  | 3 => .array .int
  | 4 => .int
  | 5 => .array .byte
  | 6 => .int
  | 7 => .int
  | 8 => .int
  | 9 => .int
  | 10 => .int
  | 11 => .array .int
  | 12 => .array .int
  | 13 => .array .int
  | 14 => .int
  | 15 => .int
  | 16 => .int
  | 17 => .array .int
  | 18 => .array .int
  | 19 => .array .int
  | 20 => .array .int
  | 21 => .array .boolean
  | 22 => .array .boolean
  | 23 => .int
  | 24 => .int
  | 25 => .int
  | _ => .array .int
abbrev wsX50 : List Cond := u_ws RX5 TX5 27
theorem nmX5 : ∀ a, a < 27 → ∀ b, b < 27 → a ≠ b → (TX5 a).2.1 ≠ (TX5 b).2.1 := by decide +kernel
theorem tyX5_ok : ∀ k, k < 27 → parseFieldDescriptor (TX5 k).2.2.1 = some (tyX5 k) := by decide +kernel
abbrev cX5_init : ByteArray := prog_7_method_1_code
def yX5_init : MethodName := ⟨RX5, "<init>", "()V"⟩
abbrev cX5_thrown : ByteArray := prog_7_method_2_code
def yX5_thrown : MethodName := ⟨RX5, "thrown", "()I"⟩
abbrev cX5_isIn : ByteArray := prog_7_method_3_code
def yX5_isIn : MethodName := ⟨RX5, "isIn", "(III)Z"⟩
abbrev cX5_of : ByteArray := prog_7_method_4_code
def yX5_of : MethodName := ⟨RX5, "of", "(I)I"⟩
abbrev cX5_groups : ByteArray := prog_7_method_5_code
def yX5_groups : MethodName := ⟨RX5, "groups", "()I"⟩
abbrev cX5_camps : ByteArray := prog_7_method_6_code
def yX5_camps : MethodName := ⟨RX5, "camps", "()I"⟩
abbrev cX5_kindOf : ByteArray := prog_7_method_7_code
def yX5_kindOf : MethodName := ⟨RX5, "kindOf", "(II)I"⟩
abbrev cX5_isGroup : ByteArray := prog_7_method_8_code
def yX5_isGroup : MethodName := ⟨RX5, "isGroup", "(I)Z"⟩
abbrev cX5_isDay : ByteArray := prog_7_method_9_code
def yX5_isDay : MethodName := ⟨RX5, "isDay", "(I)Z"⟩
abbrev cX5_isOne : ByteArray := prog_7_method_10_code
def yX5_isOne : MethodName := ⟨RX5, "isOne", "(II)Z"⟩
abbrev cX5_areDays : ByteArray := prog_7_method_11_code
def yX5_areDays : MethodName := ⟨RX5, "areDays", "(III)Z"⟩
abbrev cX5_keeps : ByteArray := prog_7_method_12_code
def yX5_keeps : MethodName := ⟨RX5, "keeps", "([I)V"⟩
abbrev cX5_maySet : ByteArray := prog_7_method_13_code
def yX5_maySet : MethodName := ⟨RX5, "maySet", "(II)Z"⟩
abbrev cX5_comes : ByteArray := prog_7_method_14_code
def yX5_comes : MethodName := ⟨RX5, "comes", "(II)V"⟩
abbrev cX5_campComes : ByteArray := prog_7_method_15_code
def yX5_campComes : MethodName := ⟨RX5, "campComes", "(II)V"⟩
abbrev cX5_group : ByteArray := prog_7_method_16_code
def yX5_group : MethodName := ⟨RX5, "group", "(II)I"⟩
abbrev cX5_load : ByteArray := prog_7_method_17_code
def yX5_load : MethodName := ⟨RX5, "load", "(II)Z"⟩
abbrev cX5_set : ByteArray := prog_7_method_18_code
def yX5_set : MethodName := ⟨RX5, "set", "(II)Z"⟩
abbrev cX5_camp : ByteArray := prog_7_method_19_code
def yX5_camp : MethodName := ⟨RX5, "camp", "(II)I"⟩
abbrev cX5_strikes : ByteArray := prog_7_method_20_code
def yX5_strikes : MethodName := ⟨RX5, "strikes", "(I)V"⟩
abbrev cX5_strike : ByteArray := prog_7_method_21_code
def yX5_strike : MethodName := ⟨RX5, "strike", "(I)I"⟩
abbrev cX5_plan : ByteArray := prog_7_method_22_code
def yX5_plan : MethodName := ⟨RX5, "plan", "(IIII)I"⟩
abbrev cX5_undo : ByteArray := prog_7_method_23_code
def yX5_undo : MethodName := ⟨RX5, "undo", "()I"⟩
abbrev cX5_count : ByteArray := prog_7_method_24_code
def yX5_count : MethodName := ⟨RX5, "count", "(I)I"⟩
abbrev cX5_camped : ByteArray := prog_7_method_25_code
def yX5_camped : MethodName := ⟨RX5, "camped", "(IZ)I"⟩
abbrev cX5_put : ByteArray := prog_7_method_26_code
def yX5_put : MethodName := ⟨RX5, "put", "(I)V"⟩
abbrev cX5_feed : ByteArray := prog_7_method_27_code
def yX5_feed : MethodName := ⟨RX5, "feed", "(IIIII)I"⟩
abbrev cX5_end : ByteArray := prog_7_method_28_code
def yX5_end : MethodName := ⟨RX5, "end", "(I)Z"⟩
abbrev cX5_here : ByteArray := prog_7_method_29_code
def yX5_here : MethodName := ⟨RX5, "here", "()I"⟩
abbrev cX5_fails : ByteArray := prog_7_method_30_code
def yX5_fails : MethodName := ⟨RX5, "fails", "(II)V"⟩
abbrev cX5_isNumber : ByteArray := prog_7_method_31_code
def yX5_isNumber : MethodName := ⟨RX5, "isNumber", "()Z"⟩
abbrev cX5_number : ByteArray := prog_7_method_32_code
def yX5_number : MethodName := ⟨RX5, "number", "(II)I"⟩
abbrev cX5_word : ByteArray := prog_7_method_33_code
def yX5_word : MethodName := ⟨RX5, "word", "()I"⟩
abbrev cX5_letters : ByteArray := prog_7_method_34_code
def yX5_letters : MethodName := ⟨RX5, "letters", "(IIIIII)I"⟩
abbrev cX5_kindBy : ByteArray := prog_7_method_35_code
def yX5_kindBy : MethodName := ⟨RX5, "kindBy", "(I)I"⟩
abbrev cX5_named : ByteArray := prog_7_method_36_code
def yX5_named : MethodName := ⟨RX5, "named", "(II)V"⟩
abbrev cX5_closes : ByteArray := prog_7_method_37_code
def yX5_closes : MethodName := ⟨RX5, "closes", "()V"⟩
abbrev cX5_item : ByteArray := prog_7_method_38_code
def yX5_item : MethodName := ⟨RX5, "item", "()V"⟩
abbrev cX5_planTold : ByteArray := prog_7_method_39_code
def yX5_planTold : MethodName := ⟨RX5, "planTold", "()V"⟩
abbrev cX5_statement : ByteArray := prog_7_method_40_code
def yX5_statement : MethodName := ⟨RX5, "statement", "()V"⟩
abbrev cX5_tell : ByteArray := prog_7_method_41_code
def yX5_tell : MethodName := ⟨RX5, "tell", "()I"⟩
abbrev cX5_fault : ByteArray := prog_7_method_42_code
def yX5_fault : MethodName := ⟨RX5, "fault", "()I"⟩
abbrev cX5_isCamp : ByteArray := prog_7_method_43_code
def yX5_isCamp : MethodName := ⟨RX5, "isCamp", "(I)Z"⟩
abbrev cX5_acute : ByteArray := prog_7_method_44_code
def yX5_acute : MethodName := ⟨RX5, "acute", "(I)I"⟩
abbrev cX5_chronic : ByteArray := prog_7_method_45_code
def yX5_chronic : MethodName := ⟨RX5, "chronic", "(I)I"⟩
abbrev cX5_goes : ByteArray := prog_7_method_46_code
def yX5_goes : MethodName := ⟨RX5, "goes", "(II)V"⟩
abbrev cX5_formAt : ByteArray := prog_7_method_47_code
def yX5_formAt : MethodName := ⟨RX5, "formAt", "(I)I"⟩
abbrev cX5_formOf : ByteArray := prog_7_method_48_code
def yX5_formOf : MethodName := ⟨RX5, "formOf", "(II)I"⟩
abbrev cX5_day : ByteArray := prog_7_method_49_code
def yX5_day : MethodName := ⟨RX5, "day", "(III)I"⟩
abbrev cX5_form : ByteArray := prog_7_method_50_code
def yX5_form : MethodName := ⟨RX5, "form", "(II)I"⟩
abbrev cX5_week : ByteArray := prog_7_method_51_code
def yX5_week : MethodName := ⟨RX5, "week", "(II)I"⟩
abbrev cX5_injured : ByteArray := prog_7_method_52_code
def yX5_injured : MethodName := ⟨RX5, "injured", "(III)I"⟩
abbrev cX5_peak : ByteArray := prog_7_method_53_code
def yX5_peak : MethodName := ⟨RX5, "peak", "(III)I"⟩
abbrev cX5_remembers : ByteArray := prog_7_method_54_code
def yX5_remembers : MethodName := ⟨RX5, "remembers", "(I)V"⟩
abbrev cX5_comesBack : ByteArray := prog_7_method_55_code
def yX5_comesBack : MethodName := ⟨RX5, "comesBack", "(I)V"⟩
abbrev cX5_taper : ByteArray := prog_7_method_56_code
def yX5_taper : MethodName := ⟨RX5, "taper", "(II)I"⟩
abbrev cX5_isHale : ByteArray := prog_7_method_57_code
def yX5_isHale : MethodName := ⟨RX5, "isHale", "(II)Z"⟩
abbrev cX5_best : ByteArray := prog_7_method_58_code
def yX5_best : MethodName := ⟨RX5, "best", "(IIII)I"⟩
abbrev cX5_team : ByteArray := prog_7_method_59_code
def yX5_team : MethodName := ⟨RX5, "team", "(II)I"⟩
abbrev cX5_safe : ByteArray := prog_7_method_60_code
def yX5_safe : MethodName := ⟨RX5, "safe", "(II)I"⟩
abbrev cX5_row : ByteArray := prog_7_method_61_code
def yX5_row : MethodName := ⟨RX5, "row", "(III)I"⟩
abbrev cX5_swap : ByteArray := prog_7_method_62_code
def yX5_swap : MethodName := ⟨RX5, "swap", "(IIII)I"⟩
abbrev cX5_without : ByteArray := prog_7_method_63_code
def yX5_without : MethodName := ⟨RX5, "without", "(III)I"⟩
abbrev cX5_ahead : ByteArray := prog_7_method_64_code
def yX5_ahead : MethodName := ⟨RX5, "ahead", "(III)I"⟩
def RL : String := "TrainingBookLaw"
abbrev cL_camped : ByteArray := method_3_code
def yL_camped : MethodName := ⟨RL, "camped", "(LTrainingBook;IZ[J)I"⟩
abbrev cL_law : ByteArray := code
def yL_law : MethodName := ⟨RL, "law", "([I)Z"⟩
abbrev mCl : List vw_C := [(RX0, TX0, 12), (RX1, TX1, 6), (RX2, TX2, 9), (RX3, TX3, 9), (RX4, TX4, 8), (RX5, TX5, 27)]
end
section
/-! ===== the small machine: its tables (methods, fields, calls by pool entries) ===== -/
/-- a method: its name, bytes, number of locals, result, class (by number), number of parameters -/
abbrev mI : Type := MethodName × ByteArray × Nat × Option FieldType × Nat × Nat
def mX0_init : mI := (yX0_init, cX0_init, 1, none, 0, 0)
def mX0_follow : mI := (yX0_follow, cX0_follow, 6, none, 0, 4)
def mX0_pitch : mI := (yX0_pitch, cX0_pitch, 4, none, 0, 2)
def mX0_live : mI := (yX0_live, cX0_live, 4, none, 0, 2)
def mX0_liveDay : mI := (yX0_liveDay, cX0_liveDay, 4, none, 0, 2)
def mX0_held : mI := (yX0_held, cX0_held, 5, some .int, 0, 2)
def mX0_decayed : mI := (yX0_decayed, cX0_decayed, 2, some .int, 0, 2)
def mX0_isHurt : mI := (yX0_isHurt, cX0_isHurt, 2, some .boolean, 0, 1)
def mX0_isTooMuch : mI := (yX0_isTooMuch, cX0_isTooMuch, 2, some .boolean, 0, 1)
def mX0_acute : mI := (yX0_acute, cX0_acute, 2, some .int, 0, 1)
def mX0_chronic : mI := (yX0_chronic, cX0_chronic, 2, some .int, 0, 1)
def mX0_formOf : mI := (yX0_formOf, cX0_formOf, 2, some .int, 0, 1)
def mX0_tryRows : mI := (yX0_tryRows, cX0_tryRows, 6, none, 0, 3)
def mX0_keepIfBetter : mI := (yX0_keepIfBetter, cX0_keepIfBetter, 3, none, 0, 2)
def mX1_init : mI := (yX1_init, cX1_init, 1, none, 1, 0)
def mX1_append : mI := (yX1_append, cX1_append, 3, none, 1, 1)
def mX1_split : mI := (yX1_split, cX1_split, 4, none, 1, 0)
def mX1_note : mI := (yX1_note, cX1_note, 4, none, 1, 3)
def mX1_endOfWord : mI := (yX1_endOfWord, cX1_endOfWord, 3, some .int, 1, 1)
def mX1_endOfInt : mI := (yX1_endOfInt, cX1_endOfInt, 3, some .int, 1, 1)
def mX1_wordAt : mI := (yX1_wordAt, cX1_wordAt, 4, some .int, 1, 2)
def mX1_isTextAt : mI := (yX1_isTextAt, cX1_isTextAt, 5, some .boolean, 1, 3)
def mX1_numberAt : mI := (yX1_numberAt, cX1_numberAt, 5, some .int, 1, 2)
def mX1_isLetter : mI := (yX1_isLetter, cX1_isLetter, 1, some .boolean, 1, 1)
def mX1_isDigit : mI := (yX1_isDigit, cX1_isDigit, 1, some .boolean, 1, 1)
def mX1_isBlank : mI := (yX1_isBlank, cX1_isBlank, 1, some .boolean, 1, 1)
def mX1_signOf : mI := (yX1_signOf, cX1_signOf, 1, some .int, 1, 1)
def mX1_textOf : mI := (yX1_textOf, cX1_textOf, 1, some (.object "java/lang/String"), 1, 1)
def mX2_init : mI := (yX2_init, cX2_init, 1, none, 2, 0)
def mX2_readText : mI := (yX2_readText, cX2_readText, 3, some .int, 2, 1)
def mX2_readStatement : mI := (yX2_readStatement, cX2_readStatement, 1, some .boolean, 2, 0)
def mX2_readGroup : mI := (yX2_readGroup, cX2_readGroup, 3, some .boolean, 2, 0)
def mX2_readLoad : mI := (yX2_readLoad, cX2_readLoad, 3, some .boolean, 2, 0)
def mX2_readCamp : mI := (yX2_readCamp, cX2_readCamp, 3, some .boolean, 2, 0)
def mX2_readSetting : mI := (yX2_readSetting, cX2_readSetting, 3, some .boolean, 2, 0)
def mX2_readPlan : mI := (yX2_readPlan, cX2_readPlan, 3, some .boolean, 2, 0)
def mX2_openAgain : mI := (yX2_openAgain, cX2_openAgain, 2, some .boolean, 2, 0)
def mX2_closeAgain : mI := (yX2_closeAgain, cX2_closeAgain, 4, some .boolean, 2, 0)
def mX2_readDays : mI := (yX2_readDays, cX2_readDays, 3, some .boolean, 2, 0)
def mX2_token : mI := (yX2_token, cX2_token, 1, some .int, 2, 0)
def mX2_step : mI := (yX2_step, cX2_step, 1, none, 2, 0)
def mX2_take : mI := (yX2_take, cX2_take, 2, some .boolean, 2, 1)
def mX2_takeInt : mI := (yX2_takeInt, cX2_takeInt, 4, some .int, 2, 2)
def mX2_fail : mI := (yX2_fail, cX2_fail, 2, some .boolean, 2, 1)
def mX3_init : mI := (yX3_init, cX3_init, 1, none, 3, 0)
def mX3_copyFrom : mI := (yX3_copyFrom, cX3_copyFrom, 2, none, 3, 1)
def mX3_hasGroup : mI := (yX3_hasGroup, cX3_hasGroup, 2, some .boolean, 3, 1)
def mX3_hasCamp : mI := (yX3_hasCamp, cX3_hasCamp, 2, some .boolean, 3, 1)
def mX3_addGroup : mI := (yX3_addGroup, cX3_addGroup, 3, none, 3, 2)
def mX3_addCamp : mI := (yX3_addCamp, cX3_addCamp, 3, none, 3, 2)
def mX3_dropCamp : mI := (yX3_dropCamp, cX3_dropCamp, 3, none, 3, 1)
def mX3_countOthers : mI := (yX3_countOthers, cX3_countOthers, 7, some .int, 3, 4)
def mX3_fillKinds : mI := (yX3_fillKinds, cX3_fillKinds, 6, none, 3, 4)
def mX3_repeatKinds : mI := (yX3_repeatKinds, cX3_repeatKinds, 6, none, 3, 4)
def mX4_init : mI := (yX4_init, cX4_init, 2, none, 4, 0)
def mX4_feed : mI := (yX4_feed, cX4_feed, 7, some .int, 4, 5)
def mX4_end : mI := (yX4_end, cX4_end, 2, some .boolean, 4, 1)
def mX4_tell : mI := (yX4_tell, cX4_tell, 2, some .int, 4, 0)
def mX4_fault : mI := (yX4_fault, cX4_fault, 1, some .int, 4, 0)
def mX4_group : mI := (yX4_group, cX4_group, 3, some .int, 4, 2)
def mX4_load : mI := (yX4_load, cX4_load, 3, some .boolean, 4, 2)
def mX4_set : mI := (yX4_set, cX4_set, 3, some .boolean, 4, 2)
def mX4_camp : mI := (yX4_camp, cX4_camp, 3, some .int, 4, 2)
def mX4_strike : mI := (yX4_strike, cX4_strike, 2, some .int, 4, 1)
def mX4_plan : mI := (yX4_plan, cX4_plan, 6, some .int, 4, 4)
def mX4_undo : mI := (yX4_undo, cX4_undo, 1, some .int, 4, 0)
def mX4_count : mI := (yX4_count, cX4_count, 2, some .int, 4, 1)
def mX4_camped : mI := (yX4_camped, cX4_camped, 3, some .int, 4, 2)
def mX4_day : mI := (yX4_day, cX4_day, 4, some .int, 4, 3)
def mX4_form : mI := (yX4_form, cX4_form, 3, some .int, 4, 2)
def mX4_week : mI := (yX4_week, cX4_week, 4, some .int, 4, 2)
def mX4_injured : mI := (yX4_injured, cX4_injured, 6, some .int, 4, 3)
def mX4_peak : mI := (yX4_peak, cX4_peak, 6, some .int, 4, 3)
def mX4_taper : mI := (yX4_taper, cX4_taper, 7, some .int, 4, 2)
def mX4_best : mI := (yX4_best, cX4_best, 5, some .int, 4, 4)
def mX4_team : mI := (yX4_team, cX4_team, 5, some .int, 4, 2)
def mX4_safe : mI := (yX4_safe, cX4_safe, 4, some .int, 4, 2)
def mX4_row : mI := (yX4_row, cX4_row, 7, some .int, 4, 3)
def mX4_swap : mI := (yX4_swap, cX4_swap, 7, some .int, 4, 4)
def mX4_without : mI := (yX4_without, cX4_without, 5, some .int, 4, 3)
def mX4_ahead : mI := (yX4_ahead, cX4_ahead, 5, some .int, 4, 3)
def mX4_isDay : mI := (yX4_isDay, cX4_isDay, 1, some .boolean, 4, 1)
def mX4_areDays : mI := (yX4_areDays, cX4_areDays, 2, some .boolean, 4, 2)
def mX4_canBeAtFirst : mI := (yX4_canBeAtFirst, cX4_canBeAtFirst, 1, some .boolean, 4, 1)
def mX4_canBeSetting : mI := (yX4_canBeSetting, cX4_canBeSetting, 2, some .boolean, 4, 2)
def mX4_countNumber : mI := (yX4_countNumber, cX4_countNumber, 2, some .int, 4, 1)
def mX4_remember : mI := (yX4_remember, cX4_remember, 1, none, 4, 0)
def mX4_formAsTold : mI := (yX4_formAsTold, cX4_formAsTold, 3, some .int, 4, 2)
def mX4_greatestBeside : mI := (yX4_greatestBeside, cX4_greatestBeside, 5, some .int, 4, 1)
def mX5_init : mI := (yX5_init, cX5_init, 3, none, 5, 0)
def mX5_thrown : mI := (yX5_thrown, cX5_thrown, 1, some .int, 5, 0)
def mX5_isIn : mI := (yX5_isIn, cX5_isIn, 3, some .boolean, 5, 3)
def mX5_of : mI := (yX5_of, cX5_of, 2, some .int, 5, 1)
def mX5_groups : mI := (yX5_groups, cX5_groups, 1, some .int, 5, 0)
def mX5_camps : mI := (yX5_camps, cX5_camps, 1, some .int, 5, 0)
def mX5_kindOf : mI := (yX5_kindOf, cX5_kindOf, 3, some .int, 5, 2)
def mX5_isGroup : mI := (yX5_isGroup, cX5_isGroup, 2, some .boolean, 5, 1)
def mX5_isDay : mI := (yX5_isDay, cX5_isDay, 1, some .boolean, 5, 1)
def mX5_isOne : mI := (yX5_isOne, cX5_isOne, 3, some .boolean, 5, 2)
def mX5_areDays : mI := (yX5_areDays, cX5_areDays, 4, some .boolean, 5, 3)
def mX5_keeps : mI := (yX5_keeps, cX5_keeps, 3, none, 5, 1)
def mX5_maySet : mI := (yX5_maySet, cX5_maySet, 2, some .boolean, 5, 2)
def mX5_comes : mI := (yX5_comes, cX5_comes, 5, none, 5, 2)
def mX5_campComes : mI := (yX5_campComes, cX5_campComes, 3, none, 5, 2)
def mX5_group : mI := (yX5_group, cX5_group, 3, some .int, 5, 2)
def mX5_load : mI := (yX5_load, cX5_load, 3, some .boolean, 5, 2)
def mX5_set : mI := (yX5_set, cX5_set, 3, some .boolean, 5, 2)
def mX5_camp : mI := (yX5_camp, cX5_camp, 3, some .int, 5, 2)
def mX5_strikes : mI := (yX5_strikes, cX5_strikes, 3, none, 5, 1)
def mX5_strike : mI := (yX5_strike, cX5_strike, 2, some .int, 5, 1)
def mX5_plan : mI := (yX5_plan, cX5_plan, 7, some .int, 5, 4)
def mX5_undo : mI := (yX5_undo, cX5_undo, 2, some .int, 5, 0)
def mX5_count : mI := (yX5_count, cX5_count, 2, some .int, 5, 1)
def mX5_camped : mI := (yX5_camped, cX5_camped, 3, some .int, 5, 2)
def mX5_put : mI := (yX5_put, cX5_put, 3, none, 5, 1)
def mX5_feed : mI := (yX5_feed, cX5_feed, 6, some .int, 5, 5)
def mX5_end : mI := (yX5_end, cX5_end, 2, some .boolean, 5, 1)
def mX5_here : mI := (yX5_here, cX5_here, 1, some .int, 5, 0)
def mX5_fails : mI := (yX5_fails, cX5_fails, 3, none, 5, 2)
def mX5_isNumber : mI := (yX5_isNumber, cX5_isNumber, 1, some .boolean, 5, 0)
def mX5_number : mI := (yX5_number, cX5_number, 5, some .int, 5, 2)
def mX5_word : mI := (yX5_word, cX5_word, 2, some .int, 5, 0)
def mX5_letters : mI := (yX5_letters, cX5_letters, 6, some .int, 5, 6)
def mX5_kindBy : mI := (yX5_kindBy, cX5_kindBy, 1, some .int, 5, 1)
def mX5_named : mI := (yX5_named, cX5_named, 4, none, 5, 2)
def mX5_closes : mI := (yX5_closes, cX5_closes, 4, none, 5, 0)
def mX5_item : mI := (yX5_item, cX5_item, 6, none, 5, 0)
def mX5_planTold : mI := (yX5_planTold, cX5_planTold, 4, none, 5, 0)
def mX5_statement : mI := (yX5_statement, cX5_statement, 4, none, 5, 0)
def mX5_tell : mI := (yX5_tell, cX5_tell, 3, some .int, 5, 0)
def mX5_fault : mI := (yX5_fault, cX5_fault, 1, some .int, 5, 0)
def mX5_isCamp : mI := (yX5_isCamp, cX5_isCamp, 3, some .boolean, 5, 1)
def mX5_acute : mI := (yX5_acute, cX5_acute, 2, some .int, 5, 1)
def mX5_chronic : mI := (yX5_chronic, cX5_chronic, 2, some .int, 5, 1)
def mX5_goes : mI := (yX5_goes, cX5_goes, 9, none, 5, 2)
def mX5_formAt : mI := (yX5_formAt, cX5_formAt, 2, some .int, 5, 1)
def mX5_formOf : mI := (yX5_formOf, cX5_formOf, 3, some .int, 5, 2)
def mX5_day : mI := (yX5_day, cX5_day, 4, some .int, 5, 3)
def mX5_form : mI := (yX5_form, cX5_form, 3, some .int, 5, 2)
def mX5_week : mI := (yX5_week, cX5_week, 3, some .int, 5, 2)
def mX5_injured : mI := (yX5_injured, cX5_injured, 6, some .int, 5, 3)
def mX5_peak : mI := (yX5_peak, cX5_peak, 6, some .int, 5, 3)
def mX5_remembers : mI := (yX5_remembers, cX5_remembers, 3, none, 5, 1)
def mX5_comesBack : mI := (yX5_comesBack, cX5_comesBack, 3, none, 5, 1)
def mX5_taper : mI := (yX5_taper, cX5_taper, 7, some .int, 5, 2)
def mX5_isHale : mI := (yX5_isHale, cX5_isHale, 4, some .boolean, 5, 2)
def mX5_best : mI := (yX5_best, cX5_best, 13, some .int, 5, 4)
def mX5_team : mI := (yX5_team, cX5_team, 7, some .int, 5, 2)
def mX5_safe : mI := (yX5_safe, cX5_safe, 3, some .int, 5, 2)
def mX5_row : mI := (yX5_row, cX5_row, 7, some .int, 5, 3)
def mX5_swap : mI := (yX5_swap, cX5_swap, 7, some .int, 5, 4)
def mX5_without : mI := (yX5_without, cX5_without, 6, some .int, 5, 3)
def mX5_ahead : mI := (yX5_ahead, cX5_ahead, 5, some .int, 5, 3)
def mL_camped : mI := (yL_camped, cL_camped, 5, some .int, 6, 4)
def mL_law : mI := (yL_law, cL_law, 7, some .boolean, 6, 1)
def mOwn : List String := [RX0, RX1, RX2, RX3, RX4, RX5, RL]
/-- fields: pool entry, class, place, of a nest mate -/
def mFl : Nat → List (Nat × Nat × Nat × Bool) := fun o => match o with
  | 0 => [(68, 3, 1, true), (71, 3, 2, true), (53, 3, 3, true), (54, 3, 4, true), (58, 3, 5, true), (61, 3, 6, true), (52, 3, 7, true), (43, 3, 8, true), (9, 0, 0, false), (15, 0, 1, false), (18, 0, 2, false), (21, 0, 3, false), (25, 0, 4, false), (28, 0, 5, false), (31, 0, 6, false), (34, 0, 7, false), (37, 0, 8, false), (40, 0, 9, false), (119, 0, 10, false), (122, 0, 11, false)]
  | 1 => [(9, 1, 0, false), (25, 1, 1, false), (15, 1, 2, false), (19, 1, 3, false), (22, 1, 4, false), (29, 1, 5, false)]
  | 2 => [(73, 3, 0, true), (90, 3, 4, true), (87, 3, 7, true), (102, 3, 8, true), (130, 1, 2, true), (139, 1, 3, true), (136, 1, 4, true), (133, 1, 5, true), (12, 2, 0, false), (21, 2, 1, false), (36, 2, 2, false), (40, 2, 3, false), (105, 2, 4, false), (108, 2, 5, false), (111, 2, 6, false), (25, 2, 7, false), (29, 2, 8, false)]
  | 3 => [(33, 3, 0, false), (9, 3, 1, false), (15, 3, 2, false), (18, 3, 3, false), (43, 3, 4, false), (21, 3, 5, false), (24, 3, 6, false), (27, 3, 7, false), (30, 3, 8, false)]
  | 4 => [(79, 3, 0, true), (99, 3, 4, true), (142, 3, 5, true), (139, 3, 6, true), (86, 3, 7, true), (93, 3, 8, true), (45, 1, 1, true), (41, 2, 0, true), (65, 2, 1, true), (72, 2, 3, true), (152, 0, 2, true), (155, 0, 4, true), (156, 0, 5, true), (159, 0, 6, true), (180, 0, 7, true), (165, 0, 9, true), (194, 0, 10, true), (197, 0, 11, true), (10, 4, 0, false), (16, 4, 1, false), (122, 4, 2, false), (125, 4, 3, false), (23, 4, 4, false), (30, 4, 5, false), (34, 4, 6, false), (37, 4, 7, false)]
  | 5 => [(61, 5, 0, false), (7, 5, 1, false), (13, 5, 2, false), (16, 5, 3, false), (83, 5, 4, false), (19, 5, 5, false), (117, 5, 6, false), (129, 5, 7, false), (126, 5, 8, false), (123, 5, 9, false), (139, 5, 10, false), (23, 5, 11, false), (26, 5, 12, false), (29, 5, 13, false), (149, 5, 14, false), (155, 5, 15, false), (152, 5, 16, false), (32, 5, 17, false), (35, 5, 18, false), (38, 5, 19, false), (41, 5, 20, false), (44, 5, 21, false), (48, 5, 22, false), (51, 5, 23, false), (55, 5, 24, false), (182, 5, 25, false), (58, 5, 26, false)]
  | _ => []
/-- calls: pool entry, kind (0 static, 1 virtual, 2 init; 4, 5 of a nest mate), method -/
def mCa : Nat → List (Nat × Nat × mI) := fun o => match o with
  | 0 => [(64, 1, mX0_pitch), (74, 1, mX0_live), (77, 1, mX0_liveDay), (80, 1, mX0_isHurt), (84, 1, mX0_held), (88, 0, mX0_decayed), (91, 1, mX0_isTooMuch), (99, 1, mX0_acute), (103, 1, mX0_chronic), (109, 1, mX0_keepIfBetter), (116, 1, mX0_formOf), (112, 1, mX0_tryRows)]
  | 1 => [(32, 0, mX1_isLetter), (36, 1, mX1_endOfWord), (40, 1, mX1_wordAt), (63, 0, mX1_textOf), (67, 1, mX1_isTextAt), (44, 1, mX1_note), (48, 0, mX1_isDigit), (51, 1, mX1_endOfInt), (54, 1, mX1_numberAt), (57, 0, mX1_isBlank), (60, 0, mX1_signOf)]
  | 2 => [(11, 5, mX1_init), (20, 5, mX3_init), (32, 4, mX3_copyFrom), (43, 1, mX2_token), (47, 1, mX2_readStatement), (55, 1, mX2_readGroup), (70, 1, mX2_fail), (76, 1, mX2_step), (79, 1, mX2_takeInt), (83, 4, mX3_addGroup), (58, 1, mX2_readLoad), (61, 1, mX2_readCamp), (93, 4, mX3_addCamp), (64, 1, mX2_readSetting), (67, 1, mX2_readPlan), (114, 1, mX2_openAgain), (51, 1, mX2_take), (117, 1, mX2_closeAgain), (123, 4, mX3_repeatKinds), (120, 1, mX2_readDays), (127, 4, mX3_fillKinds)]
  | 3 => []
  | 4 => [(9, 5, mX3_init), (22, 5, mX2_init), (29, 5, mX0_init), (51, 4, mX1_append), (55, 4, mX1_split), (58, 4, mX2_readText), (62, 1, mX4_remember), (68, 4, mX3_copyFrom), (75, 0, mX4_canBeAtFirst), (82, 4, mX3_addGroup), (89, 0, mX4_canBeSetting), (96, 0, mX4_areDays), (145, 0, mX4_isDay), (102, 4, mX3_addCamp), (105, 4, mX3_hasCamp), (108, 4, mX3_dropCamp), (111, 4, mX3_hasGroup), (114, 4, mX3_countOthers), (118, 4, mX3_fillKinds), (128, 1, mX4_countNumber), (148, 4, mX0_follow), (162, 4, mX0_isHurt), (169, 4, mX0_acute), (172, 4, mX0_chronic), (176, 1, mX4_formAsTold), (183, 4, mX0_formOf), (191, 4, mX0_live), (200, 4, mX0_tryRows), (204, 1, mX4_greatestBeside), (207, 4, mX0_liveDay)]
  | 5 => [(68, 0, mX5_isIn), (64, 1, mX5_groups), (89, 1, mX5_keeps), (92, 1, mX5_comes), (96, 0, mX5_maySet), (99, 1, mX5_of), (76, 0, mX5_isDay), (86, 1, mX5_camps), (103, 1, mX5_campComes), (106, 1, mX5_strikes), (110, 1, mX5_areDays), (79, 1, mX5_isOne), (72, 1, mX5_isGroup), (113, 1, mX5_kindOf), (120, 1, mX5_put), (132, 1, mX5_here), (179, 1, mX5_statement), (161, 1, mX5_word), (145, 0, mX5_letters), (142, 1, mX5_fails), (158, 1, mX5_number), (135, 1, mX5_isNumber), (164, 0, mX5_kindBy), (176, 1, mX5_planTold), (170, 1, mX5_closes), (173, 1, mX5_item), (167, 1, mX5_named), (194, 1, mX5_goes), (185, 1, mX5_isCamp), (188, 1, mX5_acute), (191, 1, mX5_chronic), (200, 1, mX5_formOf), (197, 1, mX5_formAt), (204, 1, mX5_remembers), (207, 1, mX5_comesBack), (210, 1, mX5_isHale)]
  | 6 => [(15, 2, mX4_init), (19, 1, mX4_feed), (24, 1, mX4_end), (29, 1, mX4_tell), (34, 1, mX4_fault), (38, 1, mX4_group), (43, 1, mX4_load), (48, 1, mX4_set), (52, 1, mX4_camp), (56, 1, mX4_strike), (61, 1, mX4_plan), (66, 1, mX4_undo), (70, 1, mX4_count), (83, 1, mX4_day), (88, 1, mX4_form), (92, 1, mX4_week), (96, 1, mX4_injured), (100, 1, mX4_peak), (104, 1, mX4_taper), (108, 1, mX4_best), (112, 1, mX4_team), (116, 1, mX4_safe), (120, 1, mX4_row), (124, 1, mX4_swap), (128, 1, mX4_without), (132, 1, mX4_ahead), (7, 1, mX4_camped), (18, 2, mX5_init), (80, 1, mX5_thrown), (42, 1, mX5_group), (47, 1, mX5_load), (51, 1, mX5_set), (55, 1, mX5_camp), (60, 1, mX5_strike), (65, 1, mX5_plan), (69, 1, mX5_undo), (73, 1, mX5_count), (79, 1, mX5_camped), (23, 1, mX5_feed), (28, 1, mX5_end), (33, 1, mX5_tell), (37, 1, mX5_fault), (87, 1, mX5_day), (91, 1, mX5_form), (95, 1, mX5_week), (99, 1, mX5_injured), (103, 1, mX5_peak), (107, 1, mX5_taper), (111, 1, mX5_best), (115, 1, mX5_team), (119, 1, mX5_safe), (123, 1, mX5_row), (127, 1, mX5_swap), (131, 1, mX5_without), (135, 1, mX5_ahead)]
  | _ => []
/-- the library: pool entry, 0 Object.<init>, 1 min, 2 max, 3 arraycopy -/
def mLi : Nat → List (Nat × Nat) := fun o => match o with
  | 0 => [(3, 0), (46, 3), (94, 1), (106, 2)]
  | 1 => [(3, 0)]
  | 2 => [(3, 0)]
  | 3 => [(3, 0), (37, 3)]
  | 4 => [(1, 0), (186, 1), (210, 2)]
  | 5 => [(1, 0)]
  | _ => []
def mCo : Nat → List (Nat × Int32) := fun o => match o with
  | 4 => [(175, -1000000000)]
  | 5 => [(203, -1000000000)]
  | _ => []
/-- classes to be made (or arrays of them): pool entry, class -/
def mNw : Nat → List (Nat × Nat) := fun o => match o with
  | 2 => [(9, 1), (18, 3)]
  | 4 => [(7, 3), (20, 2), (27, 0)]
  | 6 => [(8, 4), (16, 5)]
  | _ => []
/-- the two static rows: pool entry, which, of a nest mate -/
def mGs : Nat → List (Nat × Nat × Bool) := fun o => match o with
  | 2 => [(96, 0, true), (99, 1, true)]
  | 4 => [(213, 0, false), (216, 1, false)]
  | _ => []
end
section
/-! ===== the small machine: what a place of a method's walk says, for every machine state that it stands for ===== -/
/-- launch; classes and slots; array classes by tag; base; places of the three rows from outside; the script -/
abbrev mG : Type := Launch × va_G × (Nat → ClassId) × Nat × (Nat → Nat) × Nat × (Nat → Int32)
abbrev gL (G : mG) : Launch := G.1
abbrev gD (G : mG) : va_G := G.2.1
abbrev gC (G : mG) : Nat → ClassId := G.2.2.1
abbrev gB (G : mG) : Nat := G.2.2.2.1
abbrev gX (G : mG) : Nat → Nat := G.2.2.2.2.1
abbrev gN (G : mG) : Nat := G.2.2.2.2.2.1
abbrev gS (G : mG) : Nat → Int32 := G.2.2.2.2.2.2
abbrev mA (G : mG) : Nat → Prop := fun q => gB G ≤ q
def mAd (G : mG) (a : Nat) : Nat := if a < 3 then gX G a else gB G + (a - 3)
def mTr (G : mG) : Value → Value
  | .ref a => .ref (mAd G a)
  | v => v
def mTrC (G : mG) : ((Nat → Int32) ⊕ (Nat → Int64) ⊕ (Nat → UInt32) ⊕ (Nat → UInt64) ⊕ (Nat → Option Nat)) → ((Nat → Int32) ⊕ (Nat → Int64) ⊕ (Nat → UInt32) ⊕ (Nat → UInt64) ⊕ (Nat → Option Nat))
  | .inr (.inr (.inr (.inr f))) => .inr (.inr (.inr (.inr (fun j => (f j).map (mAd G)))))
  | c => c
def mTrE (G : mG) : va_E → va_E
  | .inl (t, n, c) => .inl (gC G t, n, mTrC G c)
  | .inr (ci, fs) => .inr (ci, fs.map (mTr G))
def mWs (G : mG) (μ : List va_E) : va_W := μ.mapIdx (fun k e => (gB G + k, mTrE G e))
def mPr (G : mG) (lo : List (Option Value)) : List (Nat × Value) := (lo.zipIdx).filterMap (fun q => q.1.map (fun v => (q.2, mTr G v)))
def mTys (G : mG) : List (ClassId × FieldType) := [(gC G 0, .int), (gC G 1, .byte), (gC G 2, .boolean), (gC G 3, .long), (gC G 4, .object RX3)]
def mGood : List Cond := lw_tbl.filter goodWord
def mIsNest : Cond → Bool
  | .fieldLinkNest .. => true
  | .methodLinkNest .. => true
  | _ => false
def mLeast : List Int32 := [2, 2, 1, 1, 100, 1, 0, 100]
def mMost : List Int32 := [99, 99, 9, 9, 400, 14, 2100, 300]
/-- what is known of the world at a method's entry -/
def mWd (G : mG) (U : State) : Prop :=
  va_K (gD G) mCl (mTys G) U ∧ (∀ w ∈ tables_1, mIsNest w = true → va_Nw w U) ∧ gB G ≤ U.heap.size ∧ va_AO RX3 U ∧
  (va_Z RX4 "LEAST_SETTINGS" "[I" (.ref (gX G 0)) (mA G) U U.heap ∧ va_T .int (gX G 0) 8 (fun j => .int (mLeast.getD j 0)) (mA G) U U.heap) ∧
  (va_Z RX4 "MOST_SETTINGS" "[I" (.ref (gX G 1)) (mA G) U U.heap ∧ va_T .int (gX G 1) 8 (fun j => .int (mMost.getD j 0)) (mA G) U U.heap) ∧
  (va_X (gX G 2) (gN G) (gS G) U U.heap ∧ gX G 2 < gB G ∧ gN G < 2 ^ 31)
def mRoom (d mc ms : Nat) : Room := { frames := d + 1, cells := mc, slots := ms, locals := 60 * (d + 1) }
abbrev mQ : Type := Option Value → List va_E → Bool → Prop
def mQc (G : mG) (Q : mQ) : Array Value → State → Outcome → State → Prop := fun _ st o t =>
  (∃ (r : Option Value) (μ : List va_E) (ex : Bool), Q r μ ex ∧ o = .returned (r.map (mTr G)) ∧ va_P (gD G) mCl (mWs G μ) t.heap ∧ (ex = true → t.heap.size = gB G + μ.length)) ∧ va_F (mA G) st t
def mFix (G : mG) (I : mI) (p : Program) (s : State) (m : MethodId) (args : Array Value) (meth : Method) (c : Code) : Prop :=
  p.tables.exec = Jvm.exec ∧ c.code = I.2.1 ∧ meth.sig.returnType = I.2.2.2.1 ∧ meth.locks = false ∧ c.maxLocals = I.2.2.1 ∧ s.vm.findClass I.1.cls = some m.cls ∧ meth.name = I.1.name ∧ (∀ w ∈ mGood, w.before args s = true) ∧ mWd G s
/-- at pc of the method I, with these locals and this stack, over this memory: the method comes to its end, with Q; d calls deep, mc cells of ms slots at the most -/
def mT (G : mG) (I : mI) (d mc ms pc : Nat) (lo : List (Option Value)) (st : List Value) (μ : List va_E) (ex : Bool) (nc ns : Nat) (Q : mQ) : Prop :=
  ∀ (p : Program) (e : Env) (s : State) (m : MethodId) (args : Array Value) (below : List Frame) (meth : Method) (c : Code) (H : Heap) (locs : List Loc) (ls : Array Slot),
    mFix G I p s m args meth c → va_P (gD G) mCl (mWs G μ) H → va_S (mA G) s.heap H locs → (ex = true → H.size = gB G + μ.length ∧ H.size = s.heap.size + nc) → lv_has ls I.2.2.1 (mPr G lo) → lo.length = I.2.2.1 → (∀ v, some v ∈ lo → v.category = 1) →
    W p (gL G) e (mRoom d mc ms) s m args below meth c H locs nc ns (MQ below (mQc G Q) args s mc ms (mA G)) (F0 m pc ls (st.map (mTr G)))
/-- where a method begins -/
def mLo (I : mI) (as : List Value) : List (Option Value) := as.map some ++ List.replicate (I.2.2.1 - as.length) none
def mC (G : mG) (I : mI) (d mc ms : Nat) (as : List Value) (μ : List va_E) (ex : Bool) (Q : mQ) : Prop := mT G I d mc ms 0 (mLo I as) [] μ ex 0 0 Q
-- the memory's rows
theorem mWs_get (G : mG) (μ : List va_E) (k : Nat) : (mWs G μ)[k]? = (μ[k]?).map (fun e => (gB G + k, mTrE G e)) := by
  simp [mWs, List.getElem?_mapIdx]
theorem mWs_at {G : mG} {μ : List va_E} {k : Nat} {e : va_E} (h : μ[k]? = some e) : (mWs G μ)[k]? = some (gB G + k, mTrE G e) := by
  rw [mWs_get, h]; rfl
theorem mWs_len (G : mG) (μ : List va_E) : (mWs G μ).length = μ.length := by simp [mWs]
theorem mWs_set (G : mG) (μ : List va_E) (k : Nat) (e : va_E) : mWs G (μ.set k e) = (mWs G μ).set k (gB G + k, mTrE G e) := by
  apply List.ext_getElem?
  intro j
  rw [mWs_get, List.getElem?_set, List.getElem?_set, mWs_get, mWs_len]
  by_cases h : k = j
  · subst h
    by_cases hl : k < μ.length
    · simp [hl]
    · simp [hl]
  · simp [h]
theorem mWs_push (G : mG) (μ : List va_E) (e : va_E) : mWs G (μ ++ [e]) = mWs G μ ++ [(gB G + μ.length, mTrE G e)] := by
  simp [mWs, List.mapIdx_append]
theorem mWs_D (G : mG) (μ : List va_E) : va_D (mA G) (mWs G μ) := by
  refine ⟨fun i j x y hi hj hxy => ?_, fun k q hk => ?_⟩
  · rw [mWs_get] at hi hj
    obtain ⟨a, -, rfl⟩ := Option.map_eq_some_iff.mp hi
    obtain ⟨b, -, rfl⟩ := Option.map_eq_some_iff.mp hj
    have : gB G + i = gB G + j := hxy
    omega
  · rw [mWs_get] at hk
    obtain ⟨a, -, rfl⟩ := Option.map_eq_some_iff.mp hk
    exact Nat.le_add_right _ _
theorem mAd_c (G : mG) (k : Nat) : mAd G (k + 3) = gB G + k := by
  unfold mAd
  rw [if_neg (by omega)]
  rfl
theorem mPr_mem {G : mG} {lo : List (Option Value)} {i : Nat} {v : Value} (h : lo[i]? = some (some v)) : (i, mTr G v) ∈ mPr G lo := by
  refine List.mem_filterMap.mpr ⟨(some v, i), ?_, rfl⟩
  exact List.mk_mem_zipIdx_iff_getElem?.mpr h
theorem mPr_inv {G : mG} {lo : List (Option Value)} {q : Nat × Value} (h : q ∈ mPr G lo) : ∃ v, lo[q.1]? = some (some v) ∧ q.2 = mTr G v := by
  obtain ⟨⟨o, i⟩, h1, h2⟩ := List.mem_filterMap.mp h
  have h3 := List.mk_mem_zipIdx_iff_getElem?.mp h1
  cases o with
  | none => cases h2
  | some v =>
    cases h2
    exact ⟨v, h3, rfl⟩
theorem mPr_at {G : mG} {lo : List (Option Value)} {ls : Array Slot} {nL i : Nat} {v : Value} (h : lv_has ls nL (mPr G lo)) (hi : lo[i]? = some (some v)) : ls[i]? = some (.val (mTr G v)) := h.2.2 (i, mTr G v) (mPr_mem hi)
theorem mTr_cat (G : mG) (v : Value) : (mTr G v).category = v.category := by cases v <;> rfl
/-- storing into a local -/
theorem mPr_set {G : mG} {lo : List (Option Value)} {ls : Array Slot} {nL i : Nat} {v : Value} (hc : ∀ v, some v ∈ lo → v.category = 1) (hi : i < lo.length) (h : lv_has ls nL ((i, mTr G v) :: (mPr G lo).filter (fun q => !(q.1 == i) && !(q.1 + 1 == i && q.2.category == 2)))) : lv_has ls nL (mPr G (lo.set i (some v))) := by
  refine ⟨h.1, h.2.1, fun q hq => ?_⟩
  obtain ⟨w, h1, h2⟩ := mPr_inv hq
  rw [List.getElem?_set] at h1
  by_cases hqi : i = q.1
  · rw [if_pos hqi, if_pos (by omega)] at h1
    cases h1
    have := h.2.2 (i, mTr G v) List.mem_cons_self
    rw [← hqi, h2]
    exact this
  · rw [if_neg hqi] at h1
    have hm : (q.1, mTr G w) ∈ mPr G lo := mPr_mem h1
    have hcat : (mTr G w).category = 1 := by rw [mTr_cat]; exact hc w (List.mem_of_getElem? h1)
    have hf : (q.1, mTr G w) ∈ (mPr G lo).filter (fun q => !(q.1 == i) && !(q.1 + 1 == i && q.2.category == 2)) := by
      refine List.mem_filter.mpr ⟨hm, ?_⟩
      have h9 : ¬ q.1 = i := fun z => hqi z.symm
      simp [hcat, h9]
    rw [h2]
    exact h.2.2 _ (List.mem_cons_of_mem _ hf)
theorem mCat_set {lo : List (Option Value)} {i : Nat} {v : Value} (hc : ∀ v, some v ∈ lo → v.category = 1) (hv : v.category = 1) : ∀ w, some w ∈ lo.set i (some v) → w.category = 1 := by
  intro w hw
  rcases List.mem_or_eq_of_mem_set hw with h | h
  · exact hc w h
  · cases h; exact hv
end
section
/-! ===== the small machine's tables are those of the Statement ===== -/
theorem mG_t {w : Cond} (hg : goodWord w = true) (h : w ∈ tables_1) : w ∈ mGood := List.mem_filter.mpr ⟨List.mem_append_right _ h, hg⟩
theorem mG_s {w : Cond} (hg : goodWord w = true) (h : w ∈ k2_sels lw_privs) : w ∈ mGood := List.mem_filter.mpr ⟨List.mem_append_left _ h, hg⟩
theorem mLay0 : ∀ k, k < 12 → u_lay RX0 TX0 k ∈ tables_1 := fun k hk => match k, hk with
  | 0, _ => List.mem_of_getElem? (i := 175) (by decide +kernel)
  | 1, _ => List.mem_of_getElem? (i := 177) (by decide +kernel)
  | 2, _ => List.mem_of_getElem? (i := 179) (by decide +kernel)
  | 3, _ => List.mem_of_getElem? (i := 181) (by decide +kernel)
  | 4, _ => List.mem_of_getElem? (i := 183) (by decide +kernel)
  | 5, _ => List.mem_of_getElem? (i := 185) (by decide +kernel)
  | 6, _ => List.mem_of_getElem? (i := 187) (by decide +kernel)
  | 7, _ => List.mem_of_getElem? (i := 189) (by decide +kernel)
  | 8, _ => List.mem_of_getElem? (i := 191) (by decide +kernel)
  | 9, _ => List.mem_of_getElem? (i := 193) (by decide +kernel)
  | 10, _ => List.mem_of_getElem? (i := 195) (by decide +kernel)
  | 11, _ => List.mem_of_getElem? (i := 197) (by decide +kernel)
  | n + 12, h => absurd h (by omega)
theorem mLay1 : ∀ k, k < 6 → u_lay RX1 TX1 k ∈ tables_1 := fun k hk => match k, hk with
  | 0, _ => List.mem_of_getElem? (i := 102) (by decide +kernel)
  | 1, _ => List.mem_of_getElem? (i := 104) (by decide +kernel)
  | 2, _ => List.mem_of_getElem? (i := 106) (by decide +kernel)
  | 3, _ => List.mem_of_getElem? (i := 108) (by decide +kernel)
  | 4, _ => List.mem_of_getElem? (i := 110) (by decide +kernel)
  | 5, _ => List.mem_of_getElem? (i := 112) (by decide +kernel)
  | n + 6, h => absurd h (by omega)
theorem mLay2 : ∀ k, k < 9 → u_lay RX2 TX2 k ∈ tables_1 := fun k hk => match k, hk with
  | 0, _ => List.mem_of_getElem? (i := 130) (by decide +kernel)
  | 1, _ => List.mem_of_getElem? (i := 132) (by decide +kernel)
  | 2, _ => List.mem_of_getElem? (i := 134) (by decide +kernel)
  | 3, _ => List.mem_of_getElem? (i := 136) (by decide +kernel)
  | 4, _ => List.mem_of_getElem? (i := 138) (by decide +kernel)
  | 5, _ => List.mem_of_getElem? (i := 140) (by decide +kernel)
  | 6, _ => List.mem_of_getElem? (i := 142) (by decide +kernel)
  | 7, _ => List.mem_of_getElem? (i := 144) (by decide +kernel)
  | 8, _ => List.mem_of_getElem? (i := 146) (by decide +kernel)
  | n + 9, h => absurd h (by omega)
theorem mLay3 : ∀ k, k < 9 → u_lay RX3 TX3 k ∈ tables_1 := fun k hk => match k, hk with
  | 0, _ => List.mem_of_getElem? (i := 58) (by decide +kernel)
  | 1, _ => List.mem_of_getElem? (i := 60) (by decide +kernel)
  | 2, _ => List.mem_of_getElem? (i := 62) (by decide +kernel)
  | 3, _ => List.mem_of_getElem? (i := 64) (by decide +kernel)
  | 4, _ => List.mem_of_getElem? (i := 66) (by decide +kernel)
  | 5, _ => List.mem_of_getElem? (i := 68) (by decide +kernel)
  | 6, _ => List.mem_of_getElem? (i := 70) (by decide +kernel)
  | 7, _ => List.mem_of_getElem? (i := 72) (by decide +kernel)
  | 8, _ => List.mem_of_getElem? (i := 74) (by decide +kernel)
  | n + 9, h => absurd h (by omega)
theorem mLay4 : ∀ k, k < 8 → u_lay RX4 TX4 k ∈ tables_1 := fun k hk => match k, hk with
  | 0, _ => List.mem_of_getElem? (i := 209) (by decide +kernel)
  | 1, _ => List.mem_of_getElem? (i := 211) (by decide +kernel)
  | 2, _ => List.mem_of_getElem? (i := 213) (by decide +kernel)
  | 3, _ => List.mem_of_getElem? (i := 215) (by decide +kernel)
  | 4, _ => List.mem_of_getElem? (i := 217) (by decide +kernel)
  | 5, _ => List.mem_of_getElem? (i := 219) (by decide +kernel)
  | 6, _ => List.mem_of_getElem? (i := 221) (by decide +kernel)
  | 7, _ => List.mem_of_getElem? (i := 223) (by decide +kernel)
  | n + 8, h => absurd h (by omega)
theorem mLay5 : ∀ k, k < 27 → u_lay RX5 TX5 k ∈ tables_1 := fun k hk => match k, hk with
  | 0, _ => List.mem_of_getElem? (i := 744) (by decide +kernel)
  | 1, _ => List.mem_of_getElem? (i := 746) (by decide +kernel)
  | 2, _ => List.mem_of_getElem? (i := 748) (by decide +kernel)
  | 3, _ => List.mem_of_getElem? (i := 750) (by decide +kernel)
  | 4, _ => List.mem_of_getElem? (i := 752) (by decide +kernel)
  | 5, _ => List.mem_of_getElem? (i := 754) (by decide +kernel)
  | 6, _ => List.mem_of_getElem? (i := 756) (by decide +kernel)
  | 7, _ => List.mem_of_getElem? (i := 758) (by decide +kernel)
  | 8, _ => List.mem_of_getElem? (i := 760) (by decide +kernel)
  | 9, _ => List.mem_of_getElem? (i := 762) (by decide +kernel)
  | 10, _ => List.mem_of_getElem? (i := 764) (by decide +kernel)
  | 11, _ => List.mem_of_getElem? (i := 766) (by decide +kernel)
  | 12, _ => List.mem_of_getElem? (i := 768) (by decide +kernel)
  | 13, _ => List.mem_of_getElem? (i := 770) (by decide +kernel)
  | 14, _ => List.mem_of_getElem? (i := 772) (by decide +kernel)
  | 15, _ => List.mem_of_getElem? (i := 774) (by decide +kernel)
  | 16, _ => List.mem_of_getElem? (i := 776) (by decide +kernel)
  | 17, _ => List.mem_of_getElem? (i := 778) (by decide +kernel)
  | 18, _ => List.mem_of_getElem? (i := 780) (by decide +kernel)
  | 19, _ => List.mem_of_getElem? (i := 782) (by decide +kernel)
  | 20, _ => List.mem_of_getElem? (i := 784) (by decide +kernel)
  | 21, _ => List.mem_of_getElem? (i := 786) (by decide +kernel)
  | 22, _ => List.mem_of_getElem? (i := 788) (by decide +kernel)
  | 23, _ => List.mem_of_getElem? (i := 790) (by decide +kernel)
  | 24, _ => List.mem_of_getElem? (i := 792) (by decide +kernel)
  | 25, _ => List.mem_of_getElem? (i := 794) (by decide +kernel)
  | 26, _ => List.mem_of_getElem? (i := 796) (by decide +kernel)
  | n + 27, h => absurd h (by omega)
/-- a class of the worlds: its words, the types of its fields, their names -/
def mClOk (r : vw_C) : Prop := (∀ w ∈ u_ws r.1 r.2.1 r.2.2, w ∈ mGood) ∧ ∃ ty0 : Nat → FieldType, (∀ k, k < r.2.2 → parseFieldDescriptor (r.2.1 k).2.2.1 = some (ty0 k)) ∧ ∀ a, a < r.2.2 → ∀ b, b < r.2.2 → a ≠ b → (r.2.1 a).2.1 ≠ (r.2.1 b).2.1
theorem mClOk_of {C : String} {T : u_T} {N : Nat} (h : ∀ k, k < N → u_lay C T k ∈ tables_1) (ty0 : Nat → FieldType) (hty : ∀ k, k < N → parseFieldDescriptor (T k).2.2.1 = some (ty0 k)) (hnm : ∀ a, a < N → ∀ b, b < N → a ≠ b → (T a).2.1 ≠ (T b).2.1) : mClOk (C, T, N) := by
  refine ⟨fun w hw => ?_, ty0, hty, hnm⟩
  obtain ⟨k, hk, rfl⟩ := List.mem_map.mp hw
  have h1 := h k (List.mem_range.mp hk)
  refine mG_t ?_ h1
  unfold u_lay
  split <;> rfl
theorem mCl_ok : ∀ (ci : Nat) (r : vw_C), mCl[ci]? = some r → mClOk r := fun ci r h => match ci, h with
  | 0, h => by cases h; exact mClOk_of mLay0 tyX0 tyX0_ok nmX0
  | 1, h => by cases h; exact mClOk_of mLay1 tyX1 tyX1_ok nmX1
  | 2, h => by cases h; exact mClOk_of mLay2 tyX2 tyX2_ok nmX2
  | 3, h => by cases h; exact mClOk_of mLay3 tyX3 tyX3_ok nmX3
  | 4, h => by cases h; exact mClOk_of mLay4 tyX4 tyX4_ok nmX4
  | 5, h => by cases h; exact mClOk_of mLay5 tyX5 tyX5_ok nmX5
  | n + 6, h => by simp at h
def mFlOk (o : Nat) (q : Nat × Nat × Nat × Bool) : Prop := ∃ r : vw_C, mCl[q.2.1]? = some r ∧ q.2.2.1 < r.2.2 ∧ (if q.2.2.2 = true then Cond.fieldLinkNest (mOwn.getD o "") q.1 (r.2.1 q.2.2.1).1 (r.2.1 q.2.2.1).2.1 (r.2.1 q.2.2.1).2.2.1 RX4 ∈ tables_1 else Cond.fieldLink (mOwn.getD o "") q.1 (r.2.1 q.2.2.1).1 (r.2.1 q.2.2.1).2.1 (r.2.1 q.2.2.1).2.2.1 ∈ tables_1)
theorem mFl0_0 : mFlOk 0 (68, 3, 1, true) := ⟨_, rfl, by decide, List.mem_of_getElem? (i := 35) (by decide +kernel)⟩
theorem mFl0_1 : mFlOk 0 (71, 3, 2, true) := ⟨_, rfl, by decide, List.mem_of_getElem? (i := 37) (by decide +kernel)⟩
theorem mFl0_2 : mFlOk 0 (53, 3, 3, true) := ⟨_, rfl, by decide, List.mem_of_getElem? (i := 39) (by decide +kernel)⟩
theorem mFl0_3 : mFlOk 0 (54, 3, 4, true) := ⟨_, rfl, by decide, List.mem_of_getElem? (i := 41) (by decide +kernel)⟩
theorem mFl0_4 : mFlOk 0 (58, 3, 5, true) := ⟨_, rfl, by decide, List.mem_of_getElem? (i := 45) (by decide +kernel)⟩
theorem mFl0_5 : mFlOk 0 (61, 3, 6, true) := ⟨_, rfl, by decide, List.mem_of_getElem? (i := 48) (by decide +kernel)⟩
theorem mFl0_6 : mFlOk 0 (52, 3, 7, true) := ⟨_, rfl, by decide, List.mem_of_getElem? (i := 51) (by decide +kernel)⟩
theorem mFl0_7 : mFlOk 0 (43, 3, 8, true) := ⟨_, rfl, by decide, List.mem_of_getElem? (i := 55) (by decide +kernel)⟩
theorem mFl0_8 : mFlOk 0 (9, 0, 0, false) := ⟨_, rfl, by decide, List.mem_of_getElem? (i := 155) (by decide +kernel)⟩
theorem mFl0_9 : mFlOk 0 (15, 0, 1, false) := ⟨_, rfl, by decide, List.mem_of_getElem? (i := 156) (by decide +kernel)⟩
theorem mFl0_10 : mFlOk 0 (18, 0, 2, false) := ⟨_, rfl, by decide, List.mem_of_getElem? (i := 157) (by decide +kernel)⟩
theorem mFl0_11 : mFlOk 0 (21, 0, 3, false) := ⟨_, rfl, by decide, List.mem_of_getElem? (i := 159) (by decide +kernel)⟩
theorem mFl0_12 : mFlOk 0 (25, 0, 4, false) := ⟨_, rfl, by decide, List.mem_of_getElem? (i := 160) (by decide +kernel)⟩
theorem mFl0_13 : mFlOk 0 (28, 0, 5, false) := ⟨_, rfl, by decide, List.mem_of_getElem? (i := 162) (by decide +kernel)⟩
theorem mFl0_14 : mFlOk 0 (31, 0, 6, false) := ⟨_, rfl, by decide, List.mem_of_getElem? (i := 164) (by decide +kernel)⟩
theorem mFl0_15 : mFlOk 0 (34, 0, 7, false) := ⟨_, rfl, by decide, List.mem_of_getElem? (i := 166) (by decide +kernel)⟩
theorem mFl0_16 : mFlOk 0 (37, 0, 8, false) := ⟨_, rfl, by decide, List.mem_of_getElem? (i := 168) (by decide +kernel)⟩
theorem mFl0_17 : mFlOk 0 (40, 0, 9, false) := ⟨_, rfl, by decide, List.mem_of_getElem? (i := 169) (by decide +kernel)⟩
theorem mFl0_18 : mFlOk 0 (119, 0, 10, false) := ⟨_, rfl, by decide, List.mem_of_getElem? (i := 171) (by decide +kernel)⟩
theorem mFl0_19 : mFlOk 0 (122, 0, 11, false) := ⟨_, rfl, by decide, List.mem_of_getElem? (i := 173) (by decide +kernel)⟩
theorem mFlA0 : ∀ q ∈ mFl 0, mFlOk 0 q := List.forall_mem_cons.mpr ⟨mFl0_0, List.forall_mem_cons.mpr ⟨mFl0_1, List.forall_mem_cons.mpr ⟨mFl0_2, List.forall_mem_cons.mpr ⟨mFl0_3, List.forall_mem_cons.mpr ⟨mFl0_4, List.forall_mem_cons.mpr ⟨mFl0_5, List.forall_mem_cons.mpr ⟨mFl0_6, List.forall_mem_cons.mpr ⟨mFl0_7, List.forall_mem_cons.mpr ⟨mFl0_8, List.forall_mem_cons.mpr ⟨mFl0_9, List.forall_mem_cons.mpr ⟨mFl0_10, List.forall_mem_cons.mpr ⟨mFl0_11, List.forall_mem_cons.mpr ⟨mFl0_12, List.forall_mem_cons.mpr ⟨mFl0_13, List.forall_mem_cons.mpr ⟨mFl0_14, List.forall_mem_cons.mpr ⟨mFl0_15, List.forall_mem_cons.mpr ⟨mFl0_16, List.forall_mem_cons.mpr ⟨mFl0_17, List.forall_mem_cons.mpr ⟨mFl0_18, List.forall_mem_cons.mpr ⟨mFl0_19, fun _ h => absurd h List.not_mem_nil⟩⟩⟩⟩⟩⟩⟩⟩⟩⟩⟩⟩⟩⟩⟩⟩⟩⟩⟩⟩
theorem mFl1_0 : mFlOk 1 (9, 1, 0, false) := ⟨_, rfl, by decide, List.mem_of_getElem? (i := 91) (by decide +kernel)⟩
theorem mFl1_1 : mFlOk 1 (25, 1, 1, false) := ⟨_, rfl, by decide, List.mem_of_getElem? (i := 92) (by decide +kernel)⟩
theorem mFl1_2 : mFlOk 1 (15, 1, 2, false) := ⟨_, rfl, by decide, List.mem_of_getElem? (i := 94) (by decide +kernel)⟩
theorem mFl1_3 : mFlOk 1 (19, 1, 3, false) := ⟨_, rfl, by decide, List.mem_of_getElem? (i := 96) (by decide +kernel)⟩
theorem mFl1_4 : mFlOk 1 (22, 1, 4, false) := ⟨_, rfl, by decide, List.mem_of_getElem? (i := 98) (by decide +kernel)⟩
theorem mFl1_5 : mFlOk 1 (29, 1, 5, false) := ⟨_, rfl, by decide, List.mem_of_getElem? (i := 100) (by decide +kernel)⟩
theorem mFlA1 : ∀ q ∈ mFl 1, mFlOk 1 q := List.forall_mem_cons.mpr ⟨mFl1_0, List.forall_mem_cons.mpr ⟨mFl1_1, List.forall_mem_cons.mpr ⟨mFl1_2, List.forall_mem_cons.mpr ⟨mFl1_3, List.forall_mem_cons.mpr ⟨mFl1_4, List.forall_mem_cons.mpr ⟨mFl1_5, fun _ h => absurd h List.not_mem_nil⟩⟩⟩⟩⟩⟩
theorem mFl2_0 : mFlOk 2 (73, 3, 0, true) := ⟨_, rfl, by decide, List.mem_of_getElem? (i := 32) (by decide +kernel)⟩
theorem mFl2_1 : mFlOk 2 (90, 3, 4, true) := ⟨_, rfl, by decide, List.mem_of_getElem? (i := 42) (by decide +kernel)⟩
theorem mFl2_2 : mFlOk 2 (87, 3, 7, true) := ⟨_, rfl, by decide, List.mem_of_getElem? (i := 52) (by decide +kernel)⟩
theorem mFl2_3 : mFlOk 2 (102, 3, 8, true) := ⟨_, rfl, by decide, List.mem_of_getElem? (i := 56) (by decide +kernel)⟩
theorem mFl2_4 : mFlOk 2 (130, 1, 2, true) := ⟨_, rfl, by decide, List.mem_of_getElem? (i := 95) (by decide +kernel)⟩
theorem mFl2_5 : mFlOk 2 (139, 1, 3, true) := ⟨_, rfl, by decide, List.mem_of_getElem? (i := 97) (by decide +kernel)⟩
theorem mFl2_6 : mFlOk 2 (136, 1, 4, true) := ⟨_, rfl, by decide, List.mem_of_getElem? (i := 99) (by decide +kernel)⟩
theorem mFl2_7 : mFlOk 2 (133, 1, 5, true) := ⟨_, rfl, by decide, List.mem_of_getElem? (i := 101) (by decide +kernel)⟩
theorem mFl2_8 : mFlOk 2 (12, 2, 0, false) := ⟨_, rfl, by decide, List.mem_of_getElem? (i := 118) (by decide +kernel)⟩
theorem mFl2_9 : mFlOk 2 (21, 2, 1, false) := ⟨_, rfl, by decide, List.mem_of_getElem? (i := 120) (by decide +kernel)⟩
theorem mFl2_10 : mFlOk 2 (36, 2, 2, false) := ⟨_, rfl, by decide, List.mem_of_getElem? (i := 122) (by decide +kernel)⟩
theorem mFl2_11 : mFlOk 2 (40, 2, 3, false) := ⟨_, rfl, by decide, List.mem_of_getElem? (i := 123) (by decide +kernel)⟩
theorem mFl2_12 : mFlOk 2 (105, 2, 4, false) := ⟨_, rfl, by decide, List.mem_of_getElem? (i := 125) (by decide +kernel)⟩
theorem mFl2_13 : mFlOk 2 (108, 2, 5, false) := ⟨_, rfl, by decide, List.mem_of_getElem? (i := 126) (by decide +kernel)⟩
theorem mFl2_14 : mFlOk 2 (111, 2, 6, false) := ⟨_, rfl, by decide, List.mem_of_getElem? (i := 127) (by decide +kernel)⟩
theorem mFl2_15 : mFlOk 2 (25, 2, 7, false) := ⟨_, rfl, by decide, List.mem_of_getElem? (i := 128) (by decide +kernel)⟩
theorem mFl2_16 : mFlOk 2 (29, 2, 8, false) := ⟨_, rfl, by decide, List.mem_of_getElem? (i := 129) (by decide +kernel)⟩
theorem mFlA2 : ∀ q ∈ mFl 2, mFlOk 2 q := List.forall_mem_cons.mpr ⟨mFl2_0, List.forall_mem_cons.mpr ⟨mFl2_1, List.forall_mem_cons.mpr ⟨mFl2_2, List.forall_mem_cons.mpr ⟨mFl2_3, List.forall_mem_cons.mpr ⟨mFl2_4, List.forall_mem_cons.mpr ⟨mFl2_5, List.forall_mem_cons.mpr ⟨mFl2_6, List.forall_mem_cons.mpr ⟨mFl2_7, List.forall_mem_cons.mpr ⟨mFl2_8, List.forall_mem_cons.mpr ⟨mFl2_9, List.forall_mem_cons.mpr ⟨mFl2_10, List.forall_mem_cons.mpr ⟨mFl2_11, List.forall_mem_cons.mpr ⟨mFl2_12, List.forall_mem_cons.mpr ⟨mFl2_13, List.forall_mem_cons.mpr ⟨mFl2_14, List.forall_mem_cons.mpr ⟨mFl2_15, List.forall_mem_cons.mpr ⟨mFl2_16, fun _ h => absurd h List.not_mem_nil⟩⟩⟩⟩⟩⟩⟩⟩⟩⟩⟩⟩⟩⟩⟩⟩⟩
theorem mFl3_0 : mFlOk 3 (33, 3, 0, false) := ⟨_, rfl, by decide, List.mem_of_getElem? (i := 31) (by decide +kernel)⟩
theorem mFl3_1 : mFlOk 3 (9, 3, 1, false) := ⟨_, rfl, by decide, List.mem_of_getElem? (i := 34) (by decide +kernel)⟩
theorem mFl3_2 : mFlOk 3 (15, 3, 2, false) := ⟨_, rfl, by decide, List.mem_of_getElem? (i := 36) (by decide +kernel)⟩
theorem mFl3_3 : mFlOk 3 (18, 3, 3, false) := ⟨_, rfl, by decide, List.mem_of_getElem? (i := 38) (by decide +kernel)⟩
theorem mFl3_4 : mFlOk 3 (43, 3, 4, false) := ⟨_, rfl, by decide, List.mem_of_getElem? (i := 40) (by decide +kernel)⟩
theorem mFl3_5 : mFlOk 3 (21, 3, 5, false) := ⟨_, rfl, by decide, List.mem_of_getElem? (i := 44) (by decide +kernel)⟩
theorem mFl3_6 : mFlOk 3 (24, 3, 6, false) := ⟨_, rfl, by decide, List.mem_of_getElem? (i := 47) (by decide +kernel)⟩
theorem mFl3_7 : mFlOk 3 (27, 3, 7, false) := ⟨_, rfl, by decide, List.mem_of_getElem? (i := 50) (by decide +kernel)⟩
theorem mFl3_8 : mFlOk 3 (30, 3, 8, false) := ⟨_, rfl, by decide, List.mem_of_getElem? (i := 54) (by decide +kernel)⟩
theorem mFlA3 : ∀ q ∈ mFl 3, mFlOk 3 q := List.forall_mem_cons.mpr ⟨mFl3_0, List.forall_mem_cons.mpr ⟨mFl3_1, List.forall_mem_cons.mpr ⟨mFl3_2, List.forall_mem_cons.mpr ⟨mFl3_3, List.forall_mem_cons.mpr ⟨mFl3_4, List.forall_mem_cons.mpr ⟨mFl3_5, List.forall_mem_cons.mpr ⟨mFl3_6, List.forall_mem_cons.mpr ⟨mFl3_7, List.forall_mem_cons.mpr ⟨mFl3_8, fun _ h => absurd h List.not_mem_nil⟩⟩⟩⟩⟩⟩⟩⟩⟩
theorem mFl4_0 : mFlOk 4 (79, 3, 0, true) := ⟨_, rfl, by decide, List.mem_of_getElem? (i := 33) (by decide +kernel)⟩
theorem mFl4_1 : mFlOk 4 (99, 3, 4, true) := ⟨_, rfl, by decide, List.mem_of_getElem? (i := 43) (by decide +kernel)⟩
theorem mFl4_2 : mFlOk 4 (142, 3, 5, true) := ⟨_, rfl, by decide, List.mem_of_getElem? (i := 46) (by decide +kernel)⟩
theorem mFl4_3 : mFlOk 4 (139, 3, 6, true) := ⟨_, rfl, by decide, List.mem_of_getElem? (i := 49) (by decide +kernel)⟩
theorem mFl4_4 : mFlOk 4 (86, 3, 7, true) := ⟨_, rfl, by decide, List.mem_of_getElem? (i := 53) (by decide +kernel)⟩
theorem mFl4_5 : mFlOk 4 (93, 3, 8, true) := ⟨_, rfl, by decide, List.mem_of_getElem? (i := 57) (by decide +kernel)⟩
theorem mFl4_6 : mFlOk 4 (45, 1, 1, true) := ⟨_, rfl, by decide, List.mem_of_getElem? (i := 93) (by decide +kernel)⟩
theorem mFl4_7 : mFlOk 4 (41, 2, 0, true) := ⟨_, rfl, by decide, List.mem_of_getElem? (i := 119) (by decide +kernel)⟩
theorem mFl4_8 : mFlOk 4 (65, 2, 1, true) := ⟨_, rfl, by decide, List.mem_of_getElem? (i := 121) (by decide +kernel)⟩
theorem mFl4_9 : mFlOk 4 (72, 2, 3, true) := ⟨_, rfl, by decide, List.mem_of_getElem? (i := 124) (by decide +kernel)⟩
theorem mFl4_10 : mFlOk 4 (152, 0, 2, true) := ⟨_, rfl, by decide, List.mem_of_getElem? (i := 158) (by decide +kernel)⟩
theorem mFl4_11 : mFlOk 4 (155, 0, 4, true) := ⟨_, rfl, by decide, List.mem_of_getElem? (i := 161) (by decide +kernel)⟩
theorem mFl4_12 : mFlOk 4 (156, 0, 5, true) := ⟨_, rfl, by decide, List.mem_of_getElem? (i := 163) (by decide +kernel)⟩
theorem mFl4_13 : mFlOk 4 (159, 0, 6, true) := ⟨_, rfl, by decide, List.mem_of_getElem? (i := 165) (by decide +kernel)⟩
theorem mFl4_14 : mFlOk 4 (180, 0, 7, true) := ⟨_, rfl, by decide, List.mem_of_getElem? (i := 167) (by decide +kernel)⟩
theorem mFl4_15 : mFlOk 4 (165, 0, 9, true) := ⟨_, rfl, by decide, List.mem_of_getElem? (i := 170) (by decide +kernel)⟩
theorem mFl4_16 : mFlOk 4 (194, 0, 10, true) := ⟨_, rfl, by decide, List.mem_of_getElem? (i := 172) (by decide +kernel)⟩
theorem mFl4_17 : mFlOk 4 (197, 0, 11, true) := ⟨_, rfl, by decide, List.mem_of_getElem? (i := 174) (by decide +kernel)⟩
theorem mFl4_18 : mFlOk 4 (10, 4, 0, false) := ⟨_, rfl, by decide, List.mem_of_getElem? (i := 201) (by decide +kernel)⟩
theorem mFl4_19 : mFlOk 4 (16, 4, 1, false) := ⟨_, rfl, by decide, List.mem_of_getElem? (i := 202) (by decide +kernel)⟩
theorem mFl4_20 : mFlOk 4 (122, 4, 2, false) := ⟨_, rfl, by decide, List.mem_of_getElem? (i := 203) (by decide +kernel)⟩
theorem mFl4_21 : mFlOk 4 (125, 4, 3, false) := ⟨_, rfl, by decide, List.mem_of_getElem? (i := 204) (by decide +kernel)⟩
theorem mFl4_22 : mFlOk 4 (23, 4, 4, false) := ⟨_, rfl, by decide, List.mem_of_getElem? (i := 205) (by decide +kernel)⟩
theorem mFl4_23 : mFlOk 4 (30, 4, 5, false) := ⟨_, rfl, by decide, List.mem_of_getElem? (i := 206) (by decide +kernel)⟩
theorem mFl4_24 : mFlOk 4 (34, 4, 6, false) := ⟨_, rfl, by decide, List.mem_of_getElem? (i := 207) (by decide +kernel)⟩
theorem mFl4_25 : mFlOk 4 (37, 4, 7, false) := ⟨_, rfl, by decide, List.mem_of_getElem? (i := 208) (by decide +kernel)⟩
theorem mFlA4 : ∀ q ∈ mFl 4, mFlOk 4 q := List.forall_mem_cons.mpr ⟨mFl4_0, List.forall_mem_cons.mpr ⟨mFl4_1, List.forall_mem_cons.mpr ⟨mFl4_2, List.forall_mem_cons.mpr ⟨mFl4_3, List.forall_mem_cons.mpr ⟨mFl4_4, List.forall_mem_cons.mpr ⟨mFl4_5, List.forall_mem_cons.mpr ⟨mFl4_6, List.forall_mem_cons.mpr ⟨mFl4_7, List.forall_mem_cons.mpr ⟨mFl4_8, List.forall_mem_cons.mpr ⟨mFl4_9, List.forall_mem_cons.mpr ⟨mFl4_10, List.forall_mem_cons.mpr ⟨mFl4_11, List.forall_mem_cons.mpr ⟨mFl4_12, List.forall_mem_cons.mpr ⟨mFl4_13, List.forall_mem_cons.mpr ⟨mFl4_14, List.forall_mem_cons.mpr ⟨mFl4_15, List.forall_mem_cons.mpr ⟨mFl4_16, List.forall_mem_cons.mpr ⟨mFl4_17, List.forall_mem_cons.mpr ⟨mFl4_18, List.forall_mem_cons.mpr ⟨mFl4_19, List.forall_mem_cons.mpr ⟨mFl4_20, List.forall_mem_cons.mpr ⟨mFl4_21, List.forall_mem_cons.mpr ⟨mFl4_22, List.forall_mem_cons.mpr ⟨mFl4_23, List.forall_mem_cons.mpr ⟨mFl4_24, List.forall_mem_cons.mpr ⟨mFl4_25, fun _ h => absurd h List.not_mem_nil⟩⟩⟩⟩⟩⟩⟩⟩⟩⟩⟩⟩⟩⟩⟩⟩⟩⟩⟩⟩⟩⟩⟩⟩⟩⟩
theorem mFl5_0 : mFlOk 5 (61, 5, 0, false) := ⟨_, rfl, by decide, List.mem_of_getElem? (i := 717) (by decide +kernel)⟩
theorem mFl5_1 : mFlOk 5 (7, 5, 1, false) := ⟨_, rfl, by decide, List.mem_of_getElem? (i := 718) (by decide +kernel)⟩
theorem mFl5_2 : mFlOk 5 (13, 5, 2, false) := ⟨_, rfl, by decide, List.mem_of_getElem? (i := 719) (by decide +kernel)⟩
theorem mFl5_3 : mFlOk 5 (16, 5, 3, false) := ⟨_, rfl, by decide, List.mem_of_getElem? (i := 720) (by decide +kernel)⟩
theorem mFl5_4 : mFlOk 5 (83, 5, 4, false) := ⟨_, rfl, by decide, List.mem_of_getElem? (i := 721) (by decide +kernel)⟩
theorem mFl5_5 : mFlOk 5 (19, 5, 5, false) := ⟨_, rfl, by decide, List.mem_of_getElem? (i := 722) (by decide +kernel)⟩
theorem mFl5_6 : mFlOk 5 (117, 5, 6, false) := ⟨_, rfl, by decide, List.mem_of_getElem? (i := 723) (by decide +kernel)⟩
theorem mFl5_7 : mFlOk 5 (129, 5, 7, false) := ⟨_, rfl, by decide, List.mem_of_getElem? (i := 724) (by decide +kernel)⟩
theorem mFl5_8 : mFlOk 5 (126, 5, 8, false) := ⟨_, rfl, by decide, List.mem_of_getElem? (i := 725) (by decide +kernel)⟩
theorem mFl5_9 : mFlOk 5 (123, 5, 9, false) := ⟨_, rfl, by decide, List.mem_of_getElem? (i := 726) (by decide +kernel)⟩
theorem mFl5_10 : mFlOk 5 (139, 5, 10, false) := ⟨_, rfl, by decide, List.mem_of_getElem? (i := 727) (by decide +kernel)⟩
theorem mFl5_11 : mFlOk 5 (23, 5, 11, false) := ⟨_, rfl, by decide, List.mem_of_getElem? (i := 728) (by decide +kernel)⟩
theorem mFl5_12 : mFlOk 5 (26, 5, 12, false) := ⟨_, rfl, by decide, List.mem_of_getElem? (i := 729) (by decide +kernel)⟩
theorem mFl5_13 : mFlOk 5 (29, 5, 13, false) := ⟨_, rfl, by decide, List.mem_of_getElem? (i := 730) (by decide +kernel)⟩
theorem mFl5_14 : mFlOk 5 (149, 5, 14, false) := ⟨_, rfl, by decide, List.mem_of_getElem? (i := 731) (by decide +kernel)⟩
theorem mFl5_15 : mFlOk 5 (155, 5, 15, false) := ⟨_, rfl, by decide, List.mem_of_getElem? (i := 732) (by decide +kernel)⟩
theorem mFl5_16 : mFlOk 5 (152, 5, 16, false) := ⟨_, rfl, by decide, List.mem_of_getElem? (i := 733) (by decide +kernel)⟩
theorem mFl5_17 : mFlOk 5 (32, 5, 17, false) := ⟨_, rfl, by decide, List.mem_of_getElem? (i := 734) (by decide +kernel)⟩
theorem mFl5_18 : mFlOk 5 (35, 5, 18, false) := ⟨_, rfl, by decide, List.mem_of_getElem? (i := 735) (by decide +kernel)⟩
theorem mFl5_19 : mFlOk 5 (38, 5, 19, false) := ⟨_, rfl, by decide, List.mem_of_getElem? (i := 736) (by decide +kernel)⟩
theorem mFl5_20 : mFlOk 5 (41, 5, 20, false) := ⟨_, rfl, by decide, List.mem_of_getElem? (i := 737) (by decide +kernel)⟩
theorem mFl5_21 : mFlOk 5 (44, 5, 21, false) := ⟨_, rfl, by decide, List.mem_of_getElem? (i := 738) (by decide +kernel)⟩
theorem mFl5_22 : mFlOk 5 (48, 5, 22, false) := ⟨_, rfl, by decide, List.mem_of_getElem? (i := 739) (by decide +kernel)⟩
theorem mFl5_23 : mFlOk 5 (51, 5, 23, false) := ⟨_, rfl, by decide, List.mem_of_getElem? (i := 740) (by decide +kernel)⟩
theorem mFl5_24 : mFlOk 5 (55, 5, 24, false) := ⟨_, rfl, by decide, List.mem_of_getElem? (i := 741) (by decide +kernel)⟩
theorem mFl5_25 : mFlOk 5 (182, 5, 25, false) := ⟨_, rfl, by decide, List.mem_of_getElem? (i := 742) (by decide +kernel)⟩
theorem mFl5_26 : mFlOk 5 (58, 5, 26, false) := ⟨_, rfl, by decide, List.mem_of_getElem? (i := 743) (by decide +kernel)⟩
theorem mFlA5 : ∀ q ∈ mFl 5, mFlOk 5 q := List.forall_mem_cons.mpr ⟨mFl5_0, List.forall_mem_cons.mpr ⟨mFl5_1, List.forall_mem_cons.mpr ⟨mFl5_2, List.forall_mem_cons.mpr ⟨mFl5_3, List.forall_mem_cons.mpr ⟨mFl5_4, List.forall_mem_cons.mpr ⟨mFl5_5, List.forall_mem_cons.mpr ⟨mFl5_6, List.forall_mem_cons.mpr ⟨mFl5_7, List.forall_mem_cons.mpr ⟨mFl5_8, List.forall_mem_cons.mpr ⟨mFl5_9, List.forall_mem_cons.mpr ⟨mFl5_10, List.forall_mem_cons.mpr ⟨mFl5_11, List.forall_mem_cons.mpr ⟨mFl5_12, List.forall_mem_cons.mpr ⟨mFl5_13, List.forall_mem_cons.mpr ⟨mFl5_14, List.forall_mem_cons.mpr ⟨mFl5_15, List.forall_mem_cons.mpr ⟨mFl5_16, List.forall_mem_cons.mpr ⟨mFl5_17, List.forall_mem_cons.mpr ⟨mFl5_18, List.forall_mem_cons.mpr ⟨mFl5_19, List.forall_mem_cons.mpr ⟨mFl5_20, List.forall_mem_cons.mpr ⟨mFl5_21, List.forall_mem_cons.mpr ⟨mFl5_22, List.forall_mem_cons.mpr ⟨mFl5_23, List.forall_mem_cons.mpr ⟨mFl5_24, List.forall_mem_cons.mpr ⟨mFl5_25, List.forall_mem_cons.mpr ⟨mFl5_26, fun _ h => absurd h List.not_mem_nil⟩⟩⟩⟩⟩⟩⟩⟩⟩⟩⟩⟩⟩⟩⟩⟩⟩⟩⟩⟩⟩⟩⟩⟩⟩⟩⟩
theorem mFl_ok : ∀ (o : Nat), ∀ q ∈ mFl o, mFlOk o q := fun o => match o with
  | 0 => mFlA0
  | 1 => mFlA1
  | 2 => mFlA2
  | 3 => mFlA3
  | 4 => mFlA4
  | 5 => mFlA5
  | n + 6 => fun _ h => absurd h List.not_mem_nil
/-- a method that is called: its code, its class, its parameters, its result -/
def mJOk (J : mI) : Prop := Cond.code J.1 J.2.1 J.2.2.1 J.2.2.2.1 ∈ mGood ∧ Cond.initialized J.1.cls ∈ mGood ∧ (J.1.cls ≠ "java/lang/invoke/MethodHandle" ∧ J.1.cls ≠ "java/lang/invoke/VarHandle" ∧ (parseMethodDescriptor J.1.desc).map (fun d => d.parameters.length) = some J.2.2.2.2.2) ∧ plainName J.1.cls = true ∧ mOwn.getD J.2.2.2.2.1 "" = J.1.cls
theorem mJ_X0_pitch : mJOk mX0_pitch := ⟨mG_t (by decide +kernel) (List.mem_of_getElem? (i := 525) (by decide +kernel)), mG_t (by decide +kernel) (List.mem_of_getElem? (i := 5) (by decide +kernel)), ⟨by decide +kernel, by decide +kernel, by decide +kernel⟩, by decide, rfl⟩
theorem mJ_X0_live : mJOk mX0_live := ⟨mG_t (by decide +kernel) (List.mem_of_getElem? (i := 529) (by decide +kernel)), mG_t (by decide +kernel) (List.mem_of_getElem? (i := 5) (by decide +kernel)), ⟨by decide +kernel, by decide +kernel, by decide +kernel⟩, by decide, rfl⟩
theorem mJ_X0_liveDay : mJOk mX0_liveDay := ⟨mG_t (by decide +kernel) (List.mem_of_getElem? (i := 533) (by decide +kernel)), mG_t (by decide +kernel) (List.mem_of_getElem? (i := 5) (by decide +kernel)), ⟨by decide +kernel, by decide +kernel, by decide +kernel⟩, by decide, rfl⟩
theorem mJ_X0_isHurt : mJOk mX0_isHurt := ⟨mG_t (by decide +kernel) (List.mem_of_getElem? (i := 537) (by decide +kernel)), mG_t (by decide +kernel) (List.mem_of_getElem? (i := 5) (by decide +kernel)), ⟨by decide +kernel, by decide +kernel, by decide +kernel⟩, by decide, rfl⟩
theorem mJ_X0_held : mJOk mX0_held := ⟨mG_t (by decide +kernel) (List.mem_of_getElem? (i := 541) (by decide +kernel)), mG_t (by decide +kernel) (List.mem_of_getElem? (i := 5) (by decide +kernel)), ⟨by decide +kernel, by decide +kernel, by decide +kernel⟩, by decide, rfl⟩
theorem mJ_X0_decayed : mJOk mX0_decayed := ⟨mG_t (by decide +kernel) (List.mem_of_getElem? (i := 545) (by decide +kernel)), mG_t (by decide +kernel) (List.mem_of_getElem? (i := 5) (by decide +kernel)), ⟨by decide +kernel, by decide +kernel, by decide +kernel⟩, by decide, rfl⟩
theorem mJ_X0_isTooMuch : mJOk mX0_isTooMuch := ⟨mG_t (by decide +kernel) (List.mem_of_getElem? (i := 549) (by decide +kernel)), mG_t (by decide +kernel) (List.mem_of_getElem? (i := 5) (by decide +kernel)), ⟨by decide +kernel, by decide +kernel, by decide +kernel⟩, by decide, rfl⟩
theorem mJ_X0_acute : mJOk mX0_acute := ⟨mG_t (by decide +kernel) (List.mem_of_getElem? (i := 553) (by decide +kernel)), mG_t (by decide +kernel) (List.mem_of_getElem? (i := 5) (by decide +kernel)), ⟨by decide +kernel, by decide +kernel, by decide +kernel⟩, by decide, rfl⟩
theorem mJ_X0_chronic : mJOk mX0_chronic := ⟨mG_t (by decide +kernel) (List.mem_of_getElem? (i := 560) (by decide +kernel)), mG_t (by decide +kernel) (List.mem_of_getElem? (i := 5) (by decide +kernel)), ⟨by decide +kernel, by decide +kernel, by decide +kernel⟩, by decide, rfl⟩
theorem mJ_X0_keepIfBetter : mJOk mX0_keepIfBetter := ⟨mG_t (by decide +kernel) (List.mem_of_getElem? (i := 605) (by decide +kernel)), mG_t (by decide +kernel) (List.mem_of_getElem? (i := 5) (by decide +kernel)), ⟨by decide +kernel, by decide +kernel, by decide +kernel⟩, by decide, rfl⟩
theorem mJ_X0_formOf : mJOk mX0_formOf := ⟨mG_t (by decide +kernel) (List.mem_of_getElem? (i := 576) (by decide +kernel)), mG_t (by decide +kernel) (List.mem_of_getElem? (i := 5) (by decide +kernel)), ⟨by decide +kernel, by decide +kernel, by decide +kernel⟩, by decide, rfl⟩
theorem mJ_X0_tryRows : mJOk mX0_tryRows := ⟨mG_t (by decide +kernel) (List.mem_of_getElem? (i := 601) (by decide +kernel)), mG_t (by decide +kernel) (List.mem_of_getElem? (i := 5) (by decide +kernel)), ⟨by decide +kernel, by decide +kernel, by decide +kernel⟩, by decide, rfl⟩
theorem mJ_X1_isLetter : mJOk mX1_isLetter := ⟨mG_t (by decide +kernel) (List.mem_of_getElem? (i := 248) (by decide +kernel)), mG_t (by decide +kernel) (List.mem_of_getElem? (i := 4) (by decide +kernel)), ⟨by decide +kernel, by decide +kernel, by decide +kernel⟩, by decide, rfl⟩
theorem mJ_X1_endOfWord : mJOk mX1_endOfWord := ⟨mG_t (by decide +kernel) (List.mem_of_getElem? (i := 252) (by decide +kernel)), mG_t (by decide +kernel) (List.mem_of_getElem? (i := 4) (by decide +kernel)), ⟨by decide +kernel, by decide +kernel, by decide +kernel⟩, by decide, rfl⟩
theorem mJ_X1_wordAt : mJOk mX1_wordAt := ⟨mG_t (by decide +kernel) (List.mem_of_getElem? (i := 256) (by decide +kernel)), mG_t (by decide +kernel) (List.mem_of_getElem? (i := 4) (by decide +kernel)), ⟨by decide +kernel, by decide +kernel, by decide +kernel⟩, by decide, rfl⟩
theorem mJ_X1_textOf : mJOk mX1_textOf := ⟨mG_t (by decide +kernel) (List.mem_of_getElem? (i := 259) (by decide +kernel)), mG_t (by decide +kernel) (List.mem_of_getElem? (i := 4) (by decide +kernel)), ⟨by decide +kernel, by decide +kernel, by decide +kernel⟩, by decide, rfl⟩
theorem mJ_X1_isTextAt : mJOk mX1_isTextAt := ⟨mG_t (by decide +kernel) (List.mem_of_getElem? (i := 275) (by decide +kernel)), mG_t (by decide +kernel) (List.mem_of_getElem? (i := 4) (by decide +kernel)), ⟨by decide +kernel, by decide +kernel, by decide +kernel⟩, by decide, rfl⟩
theorem mJ_X1_note : mJOk mX1_note := ⟨mG_t (by decide +kernel) (List.mem_of_getElem? (i := 327) (by decide +kernel)), mG_t (by decide +kernel) (List.mem_of_getElem? (i := 4) (by decide +kernel)), ⟨by decide +kernel, by decide +kernel, by decide +kernel⟩, by decide, rfl⟩
theorem mJ_X1_isDigit : mJOk mX1_isDigit := ⟨mG_t (by decide +kernel) (List.mem_of_getElem? (i := 330) (by decide +kernel)), mG_t (by decide +kernel) (List.mem_of_getElem? (i := 4) (by decide +kernel)), ⟨by decide +kernel, by decide +kernel, by decide +kernel⟩, by decide, rfl⟩
theorem mJ_X1_endOfInt : mJOk mX1_endOfInt := ⟨mG_t (by decide +kernel) (List.mem_of_getElem? (i := 334) (by decide +kernel)), mG_t (by decide +kernel) (List.mem_of_getElem? (i := 4) (by decide +kernel)), ⟨by decide +kernel, by decide +kernel, by decide +kernel⟩, by decide, rfl⟩
theorem mJ_X1_numberAt : mJOk mX1_numberAt := ⟨mG_t (by decide +kernel) (List.mem_of_getElem? (i := 338) (by decide +kernel)), mG_t (by decide +kernel) (List.mem_of_getElem? (i := 4) (by decide +kernel)), ⟨by decide +kernel, by decide +kernel, by decide +kernel⟩, by decide, rfl⟩
theorem mJ_X1_isBlank : mJOk mX1_isBlank := ⟨mG_t (by decide +kernel) (List.mem_of_getElem? (i := 341) (by decide +kernel)), mG_t (by decide +kernel) (List.mem_of_getElem? (i := 4) (by decide +kernel)), ⟨by decide +kernel, by decide +kernel, by decide +kernel⟩, by decide, rfl⟩
theorem mJ_X1_signOf : mJOk mX1_signOf := ⟨mG_t (by decide +kernel) (List.mem_of_getElem? (i := 344) (by decide +kernel)), mG_t (by decide +kernel) (List.mem_of_getElem? (i := 4) (by decide +kernel)), ⟨by decide +kernel, by decide +kernel, by decide +kernel⟩, by decide, rfl⟩
theorem mJ_X1_init : mJOk mX1_init := ⟨mG_t (by decide +kernel) (List.mem_of_getElem? (i := 89) (by decide +kernel)), mG_t (by decide +kernel) (List.mem_of_getElem? (i := 4) (by decide +kernel)), ⟨by decide +kernel, by decide +kernel, by decide +kernel⟩, by decide, rfl⟩
theorem mJ_X3_init : mJOk mX3_init := ⟨mG_t (by decide +kernel) (List.mem_of_getElem? (i := 29) (by decide +kernel)), mG_t (by decide +kernel) (List.mem_of_getElem? (i := 2) (by decide +kernel)), ⟨by decide +kernel, by decide +kernel, by decide +kernel⟩, by decide, rfl⟩
theorem mJ_X3_copyFrom : mJOk mX3_copyFrom := ⟨mG_t (by decide +kernel) (List.mem_of_getElem? (i := 352) (by decide +kernel)), mG_t (by decide +kernel) (List.mem_of_getElem? (i := 2) (by decide +kernel)), ⟨by decide +kernel, by decide +kernel, by decide +kernel⟩, by decide, rfl⟩
theorem mJ_X2_token : mJOk mX2_token := ⟨mG_t (by decide +kernel) (List.mem_of_getElem? (i := 359) (by decide +kernel)), mG_t (by decide +kernel) (List.mem_of_getElem? (i := 3) (by decide +kernel)), ⟨by decide +kernel, by decide +kernel, by decide +kernel⟩, by decide, rfl⟩
theorem mJ_X2_readStatement : mJOk mX2_readStatement := ⟨mG_t (by decide +kernel) (List.mem_of_getElem? (i := 363) (by decide +kernel)), mG_t (by decide +kernel) (List.mem_of_getElem? (i := 3) (by decide +kernel)), ⟨by decide +kernel, by decide +kernel, by decide +kernel⟩, by decide, rfl⟩
theorem mJ_X2_readGroup : mJOk mX2_readGroup := ⟨mG_t (by decide +kernel) (List.mem_of_getElem? (i := 367) (by decide +kernel)), mG_t (by decide +kernel) (List.mem_of_getElem? (i := 3) (by decide +kernel)), ⟨by decide +kernel, by decide +kernel, by decide +kernel⟩, by decide, rfl⟩
theorem mJ_X2_fail : mJOk mX2_fail := ⟨mG_t (by decide +kernel) (List.mem_of_getElem? (i := 371) (by decide +kernel)), mG_t (by decide +kernel) (List.mem_of_getElem? (i := 3) (by decide +kernel)), ⟨by decide +kernel, by decide +kernel, by decide +kernel⟩, by decide, rfl⟩
theorem mJ_X2_step : mJOk mX2_step := ⟨mG_t (by decide +kernel) (List.mem_of_getElem? (i := 375) (by decide +kernel)), mG_t (by decide +kernel) (List.mem_of_getElem? (i := 3) (by decide +kernel)), ⟨by decide +kernel, by decide +kernel, by decide +kernel⟩, by decide, rfl⟩
theorem mJ_X2_takeInt : mJOk mX2_takeInt := ⟨mG_t (by decide +kernel) (List.mem_of_getElem? (i := 379) (by decide +kernel)), mG_t (by decide +kernel) (List.mem_of_getElem? (i := 3) (by decide +kernel)), ⟨by decide +kernel, by decide +kernel, by decide +kernel⟩, by decide, rfl⟩
theorem mJ_X3_addGroup : mJOk mX3_addGroup := ⟨mG_t (by decide +kernel) (List.mem_of_getElem? (i := 383) (by decide +kernel)), mG_t (by decide +kernel) (List.mem_of_getElem? (i := 2) (by decide +kernel)), ⟨by decide +kernel, by decide +kernel, by decide +kernel⟩, by decide, rfl⟩
theorem mJ_X2_readLoad : mJOk mX2_readLoad := ⟨mG_t (by decide +kernel) (List.mem_of_getElem? (i := 387) (by decide +kernel)), mG_t (by decide +kernel) (List.mem_of_getElem? (i := 3) (by decide +kernel)), ⟨by decide +kernel, by decide +kernel, by decide +kernel⟩, by decide, rfl⟩
theorem mJ_X2_readCamp : mJOk mX2_readCamp := ⟨mG_t (by decide +kernel) (List.mem_of_getElem? (i := 391) (by decide +kernel)), mG_t (by decide +kernel) (List.mem_of_getElem? (i := 3) (by decide +kernel)), ⟨by decide +kernel, by decide +kernel, by decide +kernel⟩, by decide, rfl⟩
theorem mJ_X3_addCamp : mJOk mX3_addCamp := ⟨mG_t (by decide +kernel) (List.mem_of_getElem? (i := 395) (by decide +kernel)), mG_t (by decide +kernel) (List.mem_of_getElem? (i := 2) (by decide +kernel)), ⟨by decide +kernel, by decide +kernel, by decide +kernel⟩, by decide, rfl⟩
theorem mJ_X2_readSetting : mJOk mX2_readSetting := ⟨mG_t (by decide +kernel) (List.mem_of_getElem? (i := 399) (by decide +kernel)), mG_t (by decide +kernel) (List.mem_of_getElem? (i := 3) (by decide +kernel)), ⟨by decide +kernel, by decide +kernel, by decide +kernel⟩, by decide, rfl⟩
theorem mJ_X2_readPlan : mJOk mX2_readPlan := ⟨mG_t (by decide +kernel) (List.mem_of_getElem? (i := 407) (by decide +kernel)), mG_t (by decide +kernel) (List.mem_of_getElem? (i := 3) (by decide +kernel)), ⟨by decide +kernel, by decide +kernel, by decide +kernel⟩, by decide, rfl⟩
theorem mJ_X2_openAgain : mJOk mX2_openAgain := ⟨mG_t (by decide +kernel) (List.mem_of_getElem? (i := 411) (by decide +kernel)), mG_t (by decide +kernel) (List.mem_of_getElem? (i := 3) (by decide +kernel)), ⟨by decide +kernel, by decide +kernel, by decide +kernel⟩, by decide, rfl⟩
theorem mJ_X2_take : mJOk mX2_take := ⟨mG_t (by decide +kernel) (List.mem_of_getElem? (i := 415) (by decide +kernel)), mG_t (by decide +kernel) (List.mem_of_getElem? (i := 3) (by decide +kernel)), ⟨by decide +kernel, by decide +kernel, by decide +kernel⟩, by decide, rfl⟩
theorem mJ_X2_closeAgain : mJOk mX2_closeAgain := ⟨mG_t (by decide +kernel) (List.mem_of_getElem? (i := 419) (by decide +kernel)), mG_t (by decide +kernel) (List.mem_of_getElem? (i := 3) (by decide +kernel)), ⟨by decide +kernel, by decide +kernel, by decide +kernel⟩, by decide, rfl⟩
theorem mJ_X3_repeatKinds : mJOk mX3_repeatKinds := ⟨mG_t (by decide +kernel) (List.mem_of_getElem? (i := 423) (by decide +kernel)), mG_t (by decide +kernel) (List.mem_of_getElem? (i := 2) (by decide +kernel)), ⟨by decide +kernel, by decide +kernel, by decide +kernel⟩, by decide, rfl⟩
theorem mJ_X2_readDays : mJOk mX2_readDays := ⟨mG_t (by decide +kernel) (List.mem_of_getElem? (i := 427) (by decide +kernel)), mG_t (by decide +kernel) (List.mem_of_getElem? (i := 3) (by decide +kernel)), ⟨by decide +kernel, by decide +kernel, by decide +kernel⟩, by decide, rfl⟩
theorem mJ_X3_fillKinds : mJOk mX3_fillKinds := ⟨mG_t (by decide +kernel) (List.mem_of_getElem? (i := 431) (by decide +kernel)), mG_t (by decide +kernel) (List.mem_of_getElem? (i := 2) (by decide +kernel)), ⟨by decide +kernel, by decide +kernel, by decide +kernel⟩, by decide, rfl⟩
theorem mJ_X2_init : mJOk mX2_init := ⟨mG_t (by decide +kernel) (List.mem_of_getElem? (i := 83) (by decide +kernel)), mG_t (by decide +kernel) (List.mem_of_getElem? (i := 3) (by decide +kernel)), ⟨by decide +kernel, by decide +kernel, by decide +kernel⟩, by decide, rfl⟩
theorem mJ_X0_init : mJOk mX0_init := ⟨mG_t (by decide +kernel) (List.mem_of_getElem? (i := 153) (by decide +kernel)), mG_t (by decide +kernel) (List.mem_of_getElem? (i := 5) (by decide +kernel)), ⟨by decide +kernel, by decide +kernel, by decide +kernel⟩, by decide, rfl⟩
theorem mJ_X1_append : mJOk mX1_append := ⟨mG_t (by decide +kernel) (List.mem_of_getElem? (i := 233) (by decide +kernel)), mG_t (by decide +kernel) (List.mem_of_getElem? (i := 4) (by decide +kernel)), ⟨by decide +kernel, by decide +kernel, by decide +kernel⟩, by decide, rfl⟩
theorem mJ_X1_split : mJOk mX1_split := ⟨mG_t (by decide +kernel) (List.mem_of_getElem? (i := 245) (by decide +kernel)), mG_t (by decide +kernel) (List.mem_of_getElem? (i := 4) (by decide +kernel)), ⟨by decide +kernel, by decide +kernel, by decide +kernel⟩, by decide, rfl⟩
theorem mJ_X2_readText : mJOk mX2_readText := ⟨mG_t (by decide +kernel) (List.mem_of_getElem? (i := 348) (by decide +kernel)), mG_t (by decide +kernel) (List.mem_of_getElem? (i := 3) (by decide +kernel)), ⟨by decide +kernel, by decide +kernel, by decide +kernel⟩, by decide, rfl⟩
theorem mJ_X4_remember : mJOk mX4_remember := ⟨mG_t (by decide +kernel) (List.mem_of_getElem? (i := 435) (by decide +kernel)), mG_t (by decide +kernel) (List.mem_of_getElem? (i := 1) (by decide +kernel)), ⟨by decide +kernel, by decide +kernel, by decide +kernel⟩, by decide, rfl⟩
theorem mJ_X4_canBeAtFirst : mJOk mX4_canBeAtFirst := ⟨mG_t (by decide +kernel) (List.mem_of_getElem? (i := 450) (by decide +kernel)), mG_t (by decide +kernel) (List.mem_of_getElem? (i := 1) (by decide +kernel)), ⟨by decide +kernel, by decide +kernel, by decide +kernel⟩, by decide, rfl⟩
theorem mJ_X4_canBeSetting : mJOk mX4_canBeSetting := ⟨mG_t (by decide +kernel) (List.mem_of_getElem? (i := 462) (by decide +kernel)), mG_t (by decide +kernel) (List.mem_of_getElem? (i := 1) (by decide +kernel)), ⟨by decide +kernel, by decide +kernel, by decide +kernel⟩, by decide, rfl⟩
theorem mJ_X4_areDays : mJOk mX4_areDays := ⟨mG_t (by decide +kernel) (List.mem_of_getElem? (i := 471) (by decide +kernel)), mG_t (by decide +kernel) (List.mem_of_getElem? (i := 1) (by decide +kernel)), ⟨by decide +kernel, by decide +kernel, by decide +kernel⟩, by decide, rfl⟩
theorem mJ_X4_isDay : mJOk mX4_isDay := ⟨mG_t (by decide +kernel) (List.mem_of_getElem? (i := 474) (by decide +kernel)), mG_t (by decide +kernel) (List.mem_of_getElem? (i := 1) (by decide +kernel)), ⟨by decide +kernel, by decide +kernel, by decide +kernel⟩, by decide, rfl⟩
theorem mJ_X3_hasCamp : mJOk mX3_hasCamp := ⟨mG_t (by decide +kernel) (List.mem_of_getElem? (i := 483) (by decide +kernel)), mG_t (by decide +kernel) (List.mem_of_getElem? (i := 2) (by decide +kernel)), ⟨by decide +kernel, by decide +kernel, by decide +kernel⟩, by decide, rfl⟩
theorem mJ_X3_dropCamp : mJOk mX3_dropCamp := ⟨mG_t (by decide +kernel) (List.mem_of_getElem? (i := 487) (by decide +kernel)), mG_t (by decide +kernel) (List.mem_of_getElem? (i := 2) (by decide +kernel)), ⟨by decide +kernel, by decide +kernel, by decide +kernel⟩, by decide, rfl⟩
theorem mJ_X3_hasGroup : mJOk mX3_hasGroup := ⟨mG_t (by decide +kernel) (List.mem_of_getElem? (i := 495) (by decide +kernel)), mG_t (by decide +kernel) (List.mem_of_getElem? (i := 2) (by decide +kernel)), ⟨by decide +kernel, by decide +kernel, by decide +kernel⟩, by decide, rfl⟩
theorem mJ_X3_countOthers : mJOk mX3_countOthers := ⟨mG_t (by decide +kernel) (List.mem_of_getElem? (i := 499) (by decide +kernel)), mG_t (by decide +kernel) (List.mem_of_getElem? (i := 2) (by decide +kernel)), ⟨by decide +kernel, by decide +kernel, by decide +kernel⟩, by decide, rfl⟩
theorem mJ_X4_countNumber : mJOk mX4_countNumber := ⟨mG_t (by decide +kernel) (List.mem_of_getElem? (i := 512) (by decide +kernel)), mG_t (by decide +kernel) (List.mem_of_getElem? (i := 1) (by decide +kernel)), ⟨by decide +kernel, by decide +kernel, by decide +kernel⟩, by decide, rfl⟩
theorem mJ_X0_follow : mJOk mX0_follow := ⟨mG_t (by decide +kernel) (List.mem_of_getElem? (i := 520) (by decide +kernel)), mG_t (by decide +kernel) (List.mem_of_getElem? (i := 5) (by decide +kernel)), ⟨by decide +kernel, by decide +kernel, by decide +kernel⟩, by decide, rfl⟩
theorem mJ_X4_formAsTold : mJOk mX4_formAsTold := ⟨mG_t (by decide +kernel) (List.mem_of_getElem? (i := 572) (by decide +kernel)), mG_t (by decide +kernel) (List.mem_of_getElem? (i := 1) (by decide +kernel)), ⟨by decide +kernel, by decide +kernel, by decide +kernel⟩, by decide, rfl⟩
theorem mJ_X4_greatestBeside : mJOk mX4_greatestBeside := ⟨mG_t (by decide +kernel) (List.mem_of_getElem? (i := 615) (by decide +kernel)), mG_t (by decide +kernel) (List.mem_of_getElem? (i := 1) (by decide +kernel)), ⟨by decide +kernel, by decide +kernel, by decide +kernel⟩, by decide, rfl⟩
theorem mJ_X5_isIn : mJOk mX5_isIn := ⟨mG_t (by decide +kernel) (List.mem_of_getElem? (i := 809) (by decide +kernel)), mG_t (by decide +kernel) (List.mem_of_getElem? (i := 6) (by decide +kernel)), ⟨by decide +kernel, by decide +kernel, by decide +kernel⟩, by decide, rfl⟩
theorem mJ_X5_groups : mJOk mX5_groups := ⟨mG_t (by decide +kernel) (List.mem_of_getElem? (i := 813) (by decide +kernel)), mG_t (by decide +kernel) (List.mem_of_getElem? (i := 6) (by decide +kernel)), ⟨by decide +kernel, by decide +kernel, by decide +kernel⟩, by decide, rfl⟩
theorem mJ_X5_keeps : mJOk mX5_keeps := ⟨mG_t (by decide +kernel) (List.mem_of_getElem? (i := 817) (by decide +kernel)), mG_t (by decide +kernel) (List.mem_of_getElem? (i := 6) (by decide +kernel)), ⟨by decide +kernel, by decide +kernel, by decide +kernel⟩, by decide, rfl⟩
theorem mJ_X5_comes : mJOk mX5_comes := ⟨mG_t (by decide +kernel) (List.mem_of_getElem? (i := 821) (by decide +kernel)), mG_t (by decide +kernel) (List.mem_of_getElem? (i := 6) (by decide +kernel)), ⟨by decide +kernel, by decide +kernel, by decide +kernel⟩, by decide, rfl⟩
theorem mJ_X5_maySet : mJOk mX5_maySet := ⟨mG_t (by decide +kernel) (List.mem_of_getElem? (i := 832) (by decide +kernel)), mG_t (by decide +kernel) (List.mem_of_getElem? (i := 6) (by decide +kernel)), ⟨by decide +kernel, by decide +kernel, by decide +kernel⟩, by decide, rfl⟩
theorem mJ_X5_of : mJOk mX5_of := ⟨mG_t (by decide +kernel) (List.mem_of_getElem? (i := 836) (by decide +kernel)), mG_t (by decide +kernel) (List.mem_of_getElem? (i := 6) (by decide +kernel)), ⟨by decide +kernel, by decide +kernel, by decide +kernel⟩, by decide, rfl⟩
theorem mJ_X5_isDay : mJOk mX5_isDay := ⟨mG_t (by decide +kernel) (List.mem_of_getElem? (i := 843) (by decide +kernel)), mG_t (by decide +kernel) (List.mem_of_getElem? (i := 6) (by decide +kernel)), ⟨by decide +kernel, by decide +kernel, by decide +kernel⟩, by decide, rfl⟩
theorem mJ_X5_camps : mJOk mX5_camps := ⟨mG_t (by decide +kernel) (List.mem_of_getElem? (i := 847) (by decide +kernel)), mG_t (by decide +kernel) (List.mem_of_getElem? (i := 6) (by decide +kernel)), ⟨by decide +kernel, by decide +kernel, by decide +kernel⟩, by decide, rfl⟩
theorem mJ_X5_campComes : mJOk mX5_campComes := ⟨mG_t (by decide +kernel) (List.mem_of_getElem? (i := 851) (by decide +kernel)), mG_t (by decide +kernel) (List.mem_of_getElem? (i := 6) (by decide +kernel)), ⟨by decide +kernel, by decide +kernel, by decide +kernel⟩, by decide, rfl⟩
theorem mJ_X5_strikes : mJOk mX5_strikes := ⟨mG_t (by decide +kernel) (List.mem_of_getElem? (i := 859) (by decide +kernel)), mG_t (by decide +kernel) (List.mem_of_getElem? (i := 6) (by decide +kernel)), ⟨by decide +kernel, by decide +kernel, by decide +kernel⟩, by decide, rfl⟩
theorem mJ_X5_areDays : mJOk mX5_areDays := ⟨mG_t (by decide +kernel) (List.mem_of_getElem? (i := 867) (by decide +kernel)), mG_t (by decide +kernel) (List.mem_of_getElem? (i := 6) (by decide +kernel)), ⟨by decide +kernel, by decide +kernel, by decide +kernel⟩, by decide, rfl⟩
theorem mJ_X5_isOne : mJOk mX5_isOne := ⟨mG_t (by decide +kernel) (List.mem_of_getElem? (i := 871) (by decide +kernel)), mG_t (by decide +kernel) (List.mem_of_getElem? (i := 6) (by decide +kernel)), ⟨by decide +kernel, by decide +kernel, by decide +kernel⟩, by decide, rfl⟩
theorem mJ_X5_isGroup : mJOk mX5_isGroup := ⟨mG_t (by decide +kernel) (List.mem_of_getElem? (i := 875) (by decide +kernel)), mG_t (by decide +kernel) (List.mem_of_getElem? (i := 6) (by decide +kernel)), ⟨by decide +kernel, by decide +kernel, by decide +kernel⟩, by decide, rfl⟩
theorem mJ_X5_kindOf : mJOk mX5_kindOf := ⟨mG_t (by decide +kernel) (List.mem_of_getElem? (i := 879) (by decide +kernel)), mG_t (by decide +kernel) (List.mem_of_getElem? (i := 6) (by decide +kernel)), ⟨by decide +kernel, by decide +kernel, by decide +kernel⟩, by decide, rfl⟩
theorem mJ_X5_put : mJOk mX5_put := ⟨mG_t (by decide +kernel) (List.mem_of_getElem? (i := 899) (by decide +kernel)), mG_t (by decide +kernel) (List.mem_of_getElem? (i := 6) (by decide +kernel)), ⟨by decide +kernel, by decide +kernel, by decide +kernel⟩, by decide, rfl⟩
theorem mJ_X5_here : mJOk mX5_here := ⟨mG_t (by decide +kernel) (List.mem_of_getElem? (i := 911) (by decide +kernel)), mG_t (by decide +kernel) (List.mem_of_getElem? (i := 6) (by decide +kernel)), ⟨by decide +kernel, by decide +kernel, by decide +kernel⟩, by decide, rfl⟩
theorem mJ_X5_statement : mJOk mX5_statement := ⟨mG_t (by decide +kernel) (List.mem_of_getElem? (i := 915) (by decide +kernel)), mG_t (by decide +kernel) (List.mem_of_getElem? (i := 6) (by decide +kernel)), ⟨by decide +kernel, by decide +kernel, by decide +kernel⟩, by decide, rfl⟩
theorem mJ_X5_word : mJOk mX5_word := ⟨mG_t (by decide +kernel) (List.mem_of_getElem? (i := 919) (by decide +kernel)), mG_t (by decide +kernel) (List.mem_of_getElem? (i := 6) (by decide +kernel)), ⟨by decide +kernel, by decide +kernel, by decide +kernel⟩, by decide, rfl⟩
theorem mJ_X5_letters : mJOk mX5_letters := ⟨mG_t (by decide +kernel) (List.mem_of_getElem? (i := 922) (by decide +kernel)), mG_t (by decide +kernel) (List.mem_of_getElem? (i := 6) (by decide +kernel)), ⟨by decide +kernel, by decide +kernel, by decide +kernel⟩, by decide, rfl⟩
theorem mJ_X5_fails : mJOk mX5_fails := ⟨mG_t (by decide +kernel) (List.mem_of_getElem? (i := 926) (by decide +kernel)), mG_t (by decide +kernel) (List.mem_of_getElem? (i := 6) (by decide +kernel)), ⟨by decide +kernel, by decide +kernel, by decide +kernel⟩, by decide, rfl⟩
theorem mJ_X5_number : mJOk mX5_number := ⟨mG_t (by decide +kernel) (List.mem_of_getElem? (i := 930) (by decide +kernel)), mG_t (by decide +kernel) (List.mem_of_getElem? (i := 6) (by decide +kernel)), ⟨by decide +kernel, by decide +kernel, by decide +kernel⟩, by decide, rfl⟩
theorem mJ_X5_isNumber : mJOk mX5_isNumber := ⟨mG_t (by decide +kernel) (List.mem_of_getElem? (i := 934) (by decide +kernel)), mG_t (by decide +kernel) (List.mem_of_getElem? (i := 6) (by decide +kernel)), ⟨by decide +kernel, by decide +kernel, by decide +kernel⟩, by decide, rfl⟩
theorem mJ_X5_kindBy : mJOk mX5_kindBy := ⟨mG_t (by decide +kernel) (List.mem_of_getElem? (i := 937) (by decide +kernel)), mG_t (by decide +kernel) (List.mem_of_getElem? (i := 6) (by decide +kernel)), ⟨by decide +kernel, by decide +kernel, by decide +kernel⟩, by decide, rfl⟩
theorem mJ_X5_planTold : mJOk mX5_planTold := ⟨mG_t (by decide +kernel) (List.mem_of_getElem? (i := 941) (by decide +kernel)), mG_t (by decide +kernel) (List.mem_of_getElem? (i := 6) (by decide +kernel)), ⟨by decide +kernel, by decide +kernel, by decide +kernel⟩, by decide, rfl⟩
theorem mJ_X5_closes : mJOk mX5_closes := ⟨mG_t (by decide +kernel) (List.mem_of_getElem? (i := 945) (by decide +kernel)), mG_t (by decide +kernel) (List.mem_of_getElem? (i := 6) (by decide +kernel)), ⟨by decide +kernel, by decide +kernel, by decide +kernel⟩, by decide, rfl⟩
theorem mJ_X5_item : mJOk mX5_item := ⟨mG_t (by decide +kernel) (List.mem_of_getElem? (i := 949) (by decide +kernel)), mG_t (by decide +kernel) (List.mem_of_getElem? (i := 6) (by decide +kernel)), ⟨by decide +kernel, by decide +kernel, by decide +kernel⟩, by decide, rfl⟩
theorem mJ_X5_named : mJOk mX5_named := ⟨mG_t (by decide +kernel) (List.mem_of_getElem? (i := 953) (by decide +kernel)), mG_t (by decide +kernel) (List.mem_of_getElem? (i := 6) (by decide +kernel)), ⟨by decide +kernel, by decide +kernel, by decide +kernel⟩, by decide, rfl⟩
theorem mJ_X5_goes : mJOk mX5_goes := ⟨mG_t (by decide +kernel) (List.mem_of_getElem? (i := 965) (by decide +kernel)), mG_t (by decide +kernel) (List.mem_of_getElem? (i := 6) (by decide +kernel)), ⟨by decide +kernel, by decide +kernel, by decide +kernel⟩, by decide, rfl⟩
theorem mJ_X5_isCamp : mJOk mX5_isCamp := ⟨mG_t (by decide +kernel) (List.mem_of_getElem? (i := 969) (by decide +kernel)), mG_t (by decide +kernel) (List.mem_of_getElem? (i := 6) (by decide +kernel)), ⟨by decide +kernel, by decide +kernel, by decide +kernel⟩, by decide, rfl⟩
theorem mJ_X5_acute : mJOk mX5_acute := ⟨mG_t (by decide +kernel) (List.mem_of_getElem? (i := 973) (by decide +kernel)), mG_t (by decide +kernel) (List.mem_of_getElem? (i := 6) (by decide +kernel)), ⟨by decide +kernel, by decide +kernel, by decide +kernel⟩, by decide, rfl⟩
theorem mJ_X5_chronic : mJOk mX5_chronic := ⟨mG_t (by decide +kernel) (List.mem_of_getElem? (i := 977) (by decide +kernel)), mG_t (by decide +kernel) (List.mem_of_getElem? (i := 6) (by decide +kernel)), ⟨by decide +kernel, by decide +kernel, by decide +kernel⟩, by decide, rfl⟩
theorem mJ_X5_formOf : mJOk mX5_formOf := ⟨mG_t (by decide +kernel) (List.mem_of_getElem? (i := 985) (by decide +kernel)), mG_t (by decide +kernel) (List.mem_of_getElem? (i := 6) (by decide +kernel)), ⟨by decide +kernel, by decide +kernel, by decide +kernel⟩, by decide, rfl⟩
theorem mJ_X5_formAt : mJOk mX5_formAt := ⟨mG_t (by decide +kernel) (List.mem_of_getElem? (i := 989) (by decide +kernel)), mG_t (by decide +kernel) (List.mem_of_getElem? (i := 6) (by decide +kernel)), ⟨by decide +kernel, by decide +kernel, by decide +kernel⟩, by decide, rfl⟩
theorem mJ_X5_remembers : mJOk mX5_remembers := ⟨mG_t (by decide +kernel) (List.mem_of_getElem? (i := 1010) (by decide +kernel)), mG_t (by decide +kernel) (List.mem_of_getElem? (i := 6) (by decide +kernel)), ⟨by decide +kernel, by decide +kernel, by decide +kernel⟩, by decide, rfl⟩
theorem mJ_X5_comesBack : mJOk mX5_comesBack := ⟨mG_t (by decide +kernel) (List.mem_of_getElem? (i := 1014) (by decide +kernel)), mG_t (by decide +kernel) (List.mem_of_getElem? (i := 6) (by decide +kernel)), ⟨by decide +kernel, by decide +kernel, by decide +kernel⟩, by decide, rfl⟩
theorem mJ_X5_isHale : mJOk mX5_isHale := ⟨mG_t (by decide +kernel) (List.mem_of_getElem? (i := 1022) (by decide +kernel)), mG_t (by decide +kernel) (List.mem_of_getElem? (i := 6) (by decide +kernel)), ⟨by decide +kernel, by decide +kernel, by decide +kernel⟩, by decide, rfl⟩
theorem mJ_X4_init : mJOk mX4_init := ⟨mG_t (by decide +kernel) (List.mem_of_getElem? (i := 21) (by decide +kernel)), mG_t (by decide +kernel) (List.mem_of_getElem? (i := 1) (by decide +kernel)), ⟨by decide +kernel, by decide +kernel, by decide +kernel⟩, by decide, rfl⟩
theorem mJ_X4_feed : mJOk mX4_feed := ⟨mG_t (by decide +kernel) (List.mem_of_getElem? (i := 229) (by decide +kernel)), mG_t (by decide +kernel) (List.mem_of_getElem? (i := 1) (by decide +kernel)), ⟨by decide +kernel, by decide +kernel, by decide +kernel⟩, by decide, rfl⟩
theorem mJ_X4_end : mJOk mX4_end := ⟨mG_t (by decide +kernel) (List.mem_of_getElem? (i := 237) (by decide +kernel)), mG_t (by decide +kernel) (List.mem_of_getElem? (i := 1) (by decide +kernel)), ⟨by decide +kernel, by decide +kernel, by decide +kernel⟩, by decide, rfl⟩
theorem mJ_X4_tell : mJOk mX4_tell := ⟨mG_t (by decide +kernel) (List.mem_of_getElem? (i := 241) (by decide +kernel)), mG_t (by decide +kernel) (List.mem_of_getElem? (i := 1) (by decide +kernel)), ⟨by decide +kernel, by decide +kernel, by decide +kernel⟩, by decide, rfl⟩
theorem mJ_X4_fault : mJOk mX4_fault := ⟨mG_t (by decide +kernel) (List.mem_of_getElem? (i := 443) (by decide +kernel)), mG_t (by decide +kernel) (List.mem_of_getElem? (i := 1) (by decide +kernel)), ⟨by decide +kernel, by decide +kernel, by decide +kernel⟩, by decide, rfl⟩
theorem mJ_X4_group : mJOk mX4_group := ⟨mG_t (by decide +kernel) (List.mem_of_getElem? (i := 447) (by decide +kernel)), mG_t (by decide +kernel) (List.mem_of_getElem? (i := 1) (by decide +kernel)), ⟨by decide +kernel, by decide +kernel, by decide +kernel⟩, by decide, rfl⟩
theorem mJ_X4_load : mJOk mX4_load := ⟨mG_t (by decide +kernel) (List.mem_of_getElem? (i := 455) (by decide +kernel)), mG_t (by decide +kernel) (List.mem_of_getElem? (i := 1) (by decide +kernel)), ⟨by decide +kernel, by decide +kernel, by decide +kernel⟩, by decide, rfl⟩
theorem mJ_X4_set : mJOk mX4_set := ⟨mG_t (by decide +kernel) (List.mem_of_getElem? (i := 459) (by decide +kernel)), mG_t (by decide +kernel) (List.mem_of_getElem? (i := 1) (by decide +kernel)), ⟨by decide +kernel, by decide +kernel, by decide +kernel⟩, by decide, rfl⟩
theorem mJ_X4_camp : mJOk mX4_camp := ⟨mG_t (by decide +kernel) (List.mem_of_getElem? (i := 468) (by decide +kernel)), mG_t (by decide +kernel) (List.mem_of_getElem? (i := 1) (by decide +kernel)), ⟨by decide +kernel, by decide +kernel, by decide +kernel⟩, by decide, rfl⟩
theorem mJ_X4_strike : mJOk mX4_strike := ⟨mG_t (by decide +kernel) (List.mem_of_getElem? (i := 479) (by decide +kernel)), mG_t (by decide +kernel) (List.mem_of_getElem? (i := 1) (by decide +kernel)), ⟨by decide +kernel, by decide +kernel, by decide +kernel⟩, by decide, rfl⟩
theorem mJ_X4_plan : mJOk mX4_plan := ⟨mG_t (by decide +kernel) (List.mem_of_getElem? (i := 491) (by decide +kernel)), mG_t (by decide +kernel) (List.mem_of_getElem? (i := 1) (by decide +kernel)), ⟨by decide +kernel, by decide +kernel, by decide +kernel⟩, by decide, rfl⟩
theorem mJ_X4_undo : mJOk mX4_undo := ⟨mG_t (by decide +kernel) (List.mem_of_getElem? (i := 504) (by decide +kernel)), mG_t (by decide +kernel) (List.mem_of_getElem? (i := 1) (by decide +kernel)), ⟨by decide +kernel, by decide +kernel, by decide +kernel⟩, by decide, rfl⟩
theorem mJ_X4_count : mJOk mX4_count := ⟨mG_t (by decide +kernel) (List.mem_of_getElem? (i := 508) (by decide +kernel)), mG_t (by decide +kernel) (List.mem_of_getElem? (i := 1) (by decide +kernel)), ⟨by decide +kernel, by decide +kernel, by decide +kernel⟩, by decide, rfl⟩
theorem mJ_X4_day : mJOk mX4_day := ⟨mG_t (by decide +kernel) (List.mem_of_getElem? (i := 516) (by decide +kernel)), mG_t (by decide +kernel) (List.mem_of_getElem? (i := 1) (by decide +kernel)), ⟨by decide +kernel, by decide +kernel, by decide +kernel⟩, by decide, rfl⟩
theorem mJ_X4_form : mJOk mX4_form := ⟨mG_t (by decide +kernel) (List.mem_of_getElem? (i := 567) (by decide +kernel)), mG_t (by decide +kernel) (List.mem_of_getElem? (i := 1) (by decide +kernel)), ⟨by decide +kernel, by decide +kernel, by decide +kernel⟩, by decide, rfl⟩
theorem mJ_X4_week : mJOk mX4_week := ⟨mG_t (by decide +kernel) (List.mem_of_getElem? (i := 580) (by decide +kernel)), mG_t (by decide +kernel) (List.mem_of_getElem? (i := 1) (by decide +kernel)), ⟨by decide +kernel, by decide +kernel, by decide +kernel⟩, by decide, rfl⟩
theorem mJ_X4_injured : mJOk mX4_injured := ⟨mG_t (by decide +kernel) (List.mem_of_getElem? (i := 584) (by decide +kernel)), mG_t (by decide +kernel) (List.mem_of_getElem? (i := 1) (by decide +kernel)), ⟨by decide +kernel, by decide +kernel, by decide +kernel⟩, by decide, rfl⟩
theorem mJ_X4_peak : mJOk mX4_peak := ⟨mG_t (by decide +kernel) (List.mem_of_getElem? (i := 588) (by decide +kernel)), mG_t (by decide +kernel) (List.mem_of_getElem? (i := 1) (by decide +kernel)), ⟨by decide +kernel, by decide +kernel, by decide +kernel⟩, by decide, rfl⟩
theorem mJ_X4_taper : mJOk mX4_taper := ⟨mG_t (by decide +kernel) (List.mem_of_getElem? (i := 592) (by decide +kernel)), mG_t (by decide +kernel) (List.mem_of_getElem? (i := 1) (by decide +kernel)), ⟨by decide +kernel, by decide +kernel, by decide +kernel⟩, by decide, rfl⟩
theorem mJ_X4_best : mJOk mX4_best := ⟨mG_t (by decide +kernel) (List.mem_of_getElem? (i := 597) (by decide +kernel)), mG_t (by decide +kernel) (List.mem_of_getElem? (i := 1) (by decide +kernel)), ⟨by decide +kernel, by decide +kernel, by decide +kernel⟩, by decide, rfl⟩
theorem mJ_X4_team : mJOk mX4_team := ⟨mG_t (by decide +kernel) (List.mem_of_getElem? (i := 611) (by decide +kernel)), mG_t (by decide +kernel) (List.mem_of_getElem? (i := 1) (by decide +kernel)), ⟨by decide +kernel, by decide +kernel, by decide +kernel⟩, by decide, rfl⟩
theorem mJ_X4_safe : mJOk mX4_safe := ⟨mG_t (by decide +kernel) (List.mem_of_getElem? (i := 619) (by decide +kernel)), mG_t (by decide +kernel) (List.mem_of_getElem? (i := 1) (by decide +kernel)), ⟨by decide +kernel, by decide +kernel, by decide +kernel⟩, by decide, rfl⟩
theorem mJ_X4_row : mJOk mX4_row := ⟨mG_t (by decide +kernel) (List.mem_of_getElem? (i := 624) (by decide +kernel)), mG_t (by decide +kernel) (List.mem_of_getElem? (i := 1) (by decide +kernel)), ⟨by decide +kernel, by decide +kernel, by decide +kernel⟩, by decide, rfl⟩
theorem mJ_X4_swap : mJOk mX4_swap := ⟨mG_t (by decide +kernel) (List.mem_of_getElem? (i := 629) (by decide +kernel)), mG_t (by decide +kernel) (List.mem_of_getElem? (i := 1) (by decide +kernel)), ⟨by decide +kernel, by decide +kernel, by decide +kernel⟩, by decide, rfl⟩
theorem mJ_X4_without : mJOk mX4_without := ⟨mG_t (by decide +kernel) (List.mem_of_getElem? (i := 633) (by decide +kernel)), mG_t (by decide +kernel) (List.mem_of_getElem? (i := 1) (by decide +kernel)), ⟨by decide +kernel, by decide +kernel, by decide +kernel⟩, by decide, rfl⟩
theorem mJ_X4_ahead : mJOk mX4_ahead := ⟨mG_t (by decide +kernel) (List.mem_of_getElem? (i := 637) (by decide +kernel)), mG_t (by decide +kernel) (List.mem_of_getElem? (i := 1) (by decide +kernel)), ⟨by decide +kernel, by decide +kernel, by decide +kernel⟩, by decide, rfl⟩
theorem mJ_X4_camped : mJOk mX4_camped := ⟨mG_t (by decide +kernel) (List.mem_of_getElem? (i := 645) (by decide +kernel)), mG_t (by decide +kernel) (List.mem_of_getElem? (i := 1) (by decide +kernel)), ⟨by decide +kernel, by decide +kernel, by decide +kernel⟩, by decide, rfl⟩
theorem mJ_X5_init : mJOk mX5_init := ⟨mG_t (by decide +kernel) (List.mem_of_getElem? (i := 715) (by decide +kernel)), mG_t (by decide +kernel) (List.mem_of_getElem? (i := 6) (by decide +kernel)), ⟨by decide +kernel, by decide +kernel, by decide +kernel⟩, by decide, rfl⟩
theorem mJ_X5_thrown : mJOk mX5_thrown := ⟨mG_t (by decide +kernel) (List.mem_of_getElem? (i := 802) (by decide +kernel)), mG_t (by decide +kernel) (List.mem_of_getElem? (i := 6) (by decide +kernel)), ⟨by decide +kernel, by decide +kernel, by decide +kernel⟩, by decide, rfl⟩
theorem mJ_X5_group : mJOk mX5_group := ⟨mG_t (by decide +kernel) (List.mem_of_getElem? (i := 806) (by decide +kernel)), mG_t (by decide +kernel) (List.mem_of_getElem? (i := 6) (by decide +kernel)), ⟨by decide +kernel, by decide +kernel, by decide +kernel⟩, by decide, rfl⟩
theorem mJ_X5_load : mJOk mX5_load := ⟨mG_t (by decide +kernel) (List.mem_of_getElem? (i := 825) (by decide +kernel)), mG_t (by decide +kernel) (List.mem_of_getElem? (i := 6) (by decide +kernel)), ⟨by decide +kernel, by decide +kernel, by decide +kernel⟩, by decide, rfl⟩
theorem mJ_X5_set : mJOk mX5_set := ⟨mG_t (by decide +kernel) (List.mem_of_getElem? (i := 829) (by decide +kernel)), mG_t (by decide +kernel) (List.mem_of_getElem? (i := 6) (by decide +kernel)), ⟨by decide +kernel, by decide +kernel, by decide +kernel⟩, by decide, rfl⟩
theorem mJ_X5_camp : mJOk mX5_camp := ⟨mG_t (by decide +kernel) (List.mem_of_getElem? (i := 840) (by decide +kernel)), mG_t (by decide +kernel) (List.mem_of_getElem? (i := 6) (by decide +kernel)), ⟨by decide +kernel, by decide +kernel, by decide +kernel⟩, by decide, rfl⟩
theorem mJ_X5_strike : mJOk mX5_strike := ⟨mG_t (by decide +kernel) (List.mem_of_getElem? (i := 855) (by decide +kernel)), mG_t (by decide +kernel) (List.mem_of_getElem? (i := 6) (by decide +kernel)), ⟨by decide +kernel, by decide +kernel, by decide +kernel⟩, by decide, rfl⟩
theorem mJ_X5_plan : mJOk mX5_plan := ⟨mG_t (by decide +kernel) (List.mem_of_getElem? (i := 863) (by decide +kernel)), mG_t (by decide +kernel) (List.mem_of_getElem? (i := 6) (by decide +kernel)), ⟨by decide +kernel, by decide +kernel, by decide +kernel⟩, by decide, rfl⟩
theorem mJ_X5_undo : mJOk mX5_undo := ⟨mG_t (by decide +kernel) (List.mem_of_getElem? (i := 883) (by decide +kernel)), mG_t (by decide +kernel) (List.mem_of_getElem? (i := 6) (by decide +kernel)), ⟨by decide +kernel, by decide +kernel, by decide +kernel⟩, by decide, rfl⟩
theorem mJ_X5_count : mJOk mX5_count := ⟨mG_t (by decide +kernel) (List.mem_of_getElem? (i := 887) (by decide +kernel)), mG_t (by decide +kernel) (List.mem_of_getElem? (i := 6) (by decide +kernel)), ⟨by decide +kernel, by decide +kernel, by decide +kernel⟩, by decide, rfl⟩
theorem mJ_X5_camped : mJOk mX5_camped := ⟨mG_t (by decide +kernel) (List.mem_of_getElem? (i := 891) (by decide +kernel)), mG_t (by decide +kernel) (List.mem_of_getElem? (i := 6) (by decide +kernel)), ⟨by decide +kernel, by decide +kernel, by decide +kernel⟩, by decide, rfl⟩
theorem mJ_X5_feed : mJOk mX5_feed := ⟨mG_t (by decide +kernel) (List.mem_of_getElem? (i := 895) (by decide +kernel)), mG_t (by decide +kernel) (List.mem_of_getElem? (i := 6) (by decide +kernel)), ⟨by decide +kernel, by decide +kernel, by decide +kernel⟩, by decide, rfl⟩
theorem mJ_X5_end : mJOk mX5_end := ⟨mG_t (by decide +kernel) (List.mem_of_getElem? (i := 903) (by decide +kernel)), mG_t (by decide +kernel) (List.mem_of_getElem? (i := 6) (by decide +kernel)), ⟨by decide +kernel, by decide +kernel, by decide +kernel⟩, by decide, rfl⟩
theorem mJ_X5_tell : mJOk mX5_tell := ⟨mG_t (by decide +kernel) (List.mem_of_getElem? (i := 907) (by decide +kernel)), mG_t (by decide +kernel) (List.mem_of_getElem? (i := 6) (by decide +kernel)), ⟨by decide +kernel, by decide +kernel, by decide +kernel⟩, by decide, rfl⟩
theorem mJ_X5_fault : mJOk mX5_fault := ⟨mG_t (by decide +kernel) (List.mem_of_getElem? (i := 957) (by decide +kernel)), mG_t (by decide +kernel) (List.mem_of_getElem? (i := 6) (by decide +kernel)), ⟨by decide +kernel, by decide +kernel, by decide +kernel⟩, by decide, rfl⟩
theorem mJ_X5_day : mJOk mX5_day := ⟨mG_t (by decide +kernel) (List.mem_of_getElem? (i := 961) (by decide +kernel)), mG_t (by decide +kernel) (List.mem_of_getElem? (i := 6) (by decide +kernel)), ⟨by decide +kernel, by decide +kernel, by decide +kernel⟩, by decide, rfl⟩
theorem mJ_X5_form : mJOk mX5_form := ⟨mG_t (by decide +kernel) (List.mem_of_getElem? (i := 981) (by decide +kernel)), mG_t (by decide +kernel) (List.mem_of_getElem? (i := 6) (by decide +kernel)), ⟨by decide +kernel, by decide +kernel, by decide +kernel⟩, by decide, rfl⟩
theorem mJ_X5_week : mJOk mX5_week := ⟨mG_t (by decide +kernel) (List.mem_of_getElem? (i := 994) (by decide +kernel)), mG_t (by decide +kernel) (List.mem_of_getElem? (i := 6) (by decide +kernel)), ⟨by decide +kernel, by decide +kernel, by decide +kernel⟩, by decide, rfl⟩
theorem mJ_X5_injured : mJOk mX5_injured := ⟨mG_t (by decide +kernel) (List.mem_of_getElem? (i := 998) (by decide +kernel)), mG_t (by decide +kernel) (List.mem_of_getElem? (i := 6) (by decide +kernel)), ⟨by decide +kernel, by decide +kernel, by decide +kernel⟩, by decide, rfl⟩
theorem mJ_X5_peak : mJOk mX5_peak := ⟨mG_t (by decide +kernel) (List.mem_of_getElem? (i := 1002) (by decide +kernel)), mG_t (by decide +kernel) (List.mem_of_getElem? (i := 6) (by decide +kernel)), ⟨by decide +kernel, by decide +kernel, by decide +kernel⟩, by decide, rfl⟩
theorem mJ_X5_taper : mJOk mX5_taper := ⟨mG_t (by decide +kernel) (List.mem_of_getElem? (i := 1006) (by decide +kernel)), mG_t (by decide +kernel) (List.mem_of_getElem? (i := 6) (by decide +kernel)), ⟨by decide +kernel, by decide +kernel, by decide +kernel⟩, by decide, rfl⟩
theorem mJ_X5_best : mJOk mX5_best := ⟨mG_t (by decide +kernel) (List.mem_of_getElem? (i := 1018) (by decide +kernel)), mG_t (by decide +kernel) (List.mem_of_getElem? (i := 6) (by decide +kernel)), ⟨by decide +kernel, by decide +kernel, by decide +kernel⟩, by decide, rfl⟩
theorem mJ_X5_team : mJOk mX5_team := ⟨mG_t (by decide +kernel) (List.mem_of_getElem? (i := 1026) (by decide +kernel)), mG_t (by decide +kernel) (List.mem_of_getElem? (i := 6) (by decide +kernel)), ⟨by decide +kernel, by decide +kernel, by decide +kernel⟩, by decide, rfl⟩
theorem mJ_X5_safe : mJOk mX5_safe := ⟨mG_t (by decide +kernel) (List.mem_of_getElem? (i := 1030) (by decide +kernel)), mG_t (by decide +kernel) (List.mem_of_getElem? (i := 6) (by decide +kernel)), ⟨by decide +kernel, by decide +kernel, by decide +kernel⟩, by decide, rfl⟩
theorem mJ_X5_row : mJOk mX5_row := ⟨mG_t (by decide +kernel) (List.mem_of_getElem? (i := 1034) (by decide +kernel)), mG_t (by decide +kernel) (List.mem_of_getElem? (i := 6) (by decide +kernel)), ⟨by decide +kernel, by decide +kernel, by decide +kernel⟩, by decide, rfl⟩
theorem mJ_X5_swap : mJOk mX5_swap := ⟨mG_t (by decide +kernel) (List.mem_of_getElem? (i := 1038) (by decide +kernel)), mG_t (by decide +kernel) (List.mem_of_getElem? (i := 6) (by decide +kernel)), ⟨by decide +kernel, by decide +kernel, by decide +kernel⟩, by decide, rfl⟩
theorem mJ_X5_without : mJOk mX5_without := ⟨mG_t (by decide +kernel) (List.mem_of_getElem? (i := 1042) (by decide +kernel)), mG_t (by decide +kernel) (List.mem_of_getElem? (i := 6) (by decide +kernel)), ⟨by decide +kernel, by decide +kernel, by decide +kernel⟩, by decide, rfl⟩
theorem mJ_X5_ahead : mJOk mX5_ahead := ⟨mG_t (by decide +kernel) (List.mem_of_getElem? (i := 1046) (by decide +kernel)), mG_t (by decide +kernel) (List.mem_of_getElem? (i := 6) (by decide +kernel)), ⟨by decide +kernel, by decide +kernel, by decide +kernel⟩, by decide, rfl⟩
def mCaOk (o : Nat) (q : Nat × Nat × mI) : Prop := mJOk q.2.2 ∧ match q.2.1 with
  | 0 => Cond.methodLink (mOwn.getD o "") q.1 q.2.2.1 ∈ mGood ∧ Cond.static q.2.2.1 ∈ mGood
  | 1 => Cond.methodLink (mOwn.getD o "") q.1 q.2.2.1 ∈ mGood ∧ Cond.instanceMethod q.2.2.1 ∈ mGood ∧ Cond.selects q.2.2.1.cls q.2.2.1 q.2.2.1 ∈ mGood
  | 2 => Cond.methodLink (mOwn.getD o "") q.1 q.2.2.1 ∈ mGood ∧ Cond.instanceMethod q.2.2.1 ∈ mGood ∧ q.2.2.1.name = "<init>"
  | 4 => Cond.methodLinkNest (mOwn.getD o "") q.1 q.2.2.1 RX4 ∈ tables_1 ∧ Cond.instanceMethod q.2.2.1 ∈ mGood ∧ Cond.selects q.2.2.1.cls q.2.2.1 q.2.2.1 ∈ mGood
  | 5 => Cond.methodLinkNest (mOwn.getD o "") q.1 q.2.2.1 RX4 ∈ tables_1 ∧ Cond.instanceMethod q.2.2.1 ∈ mGood ∧ q.2.2.1.name = "<init>"
  | _ => False
theorem mCa0_0 : mCaOk 0 (64, 1, mX0_pitch) := ⟨mJ_X0_pitch, ⟨mG_t (by decide +kernel) (List.mem_of_getElem? (i := 522) (by decide +kernel)), mG_t (by decide +kernel) (List.mem_of_getElem? (i := 524) (by decide +kernel)), mG_s (by decide +kernel) (List.mem_of_getElem? (i := 35) (by decide +kernel))⟩⟩
theorem mCa0_1 : mCaOk 0 (74, 1, mX0_live) := ⟨mJ_X0_live, ⟨mG_t (by decide +kernel) (List.mem_of_getElem? (i := 526) (by decide +kernel)), mG_t (by decide +kernel) (List.mem_of_getElem? (i := 528) (by decide +kernel)), mG_s (by decide +kernel) (List.mem_of_getElem? (i := 36) (by decide +kernel))⟩⟩
theorem mCa0_2 : mCaOk 0 (77, 1, mX0_liveDay) := ⟨mJ_X0_liveDay, ⟨mG_t (by decide +kernel) (List.mem_of_getElem? (i := 530) (by decide +kernel)), mG_t (by decide +kernel) (List.mem_of_getElem? (i := 532) (by decide +kernel)), mG_s (by decide +kernel) (List.mem_of_getElem? (i := 37) (by decide +kernel))⟩⟩
theorem mCa0_3 : mCaOk 0 (80, 1, mX0_isHurt) := ⟨mJ_X0_isHurt, ⟨mG_t (by decide +kernel) (List.mem_of_getElem? (i := 534) (by decide +kernel)), mG_t (by decide +kernel) (List.mem_of_getElem? (i := 536) (by decide +kernel)), mG_s (by decide +kernel) (List.mem_of_getElem? (i := 38) (by decide +kernel))⟩⟩
theorem mCa0_4 : mCaOk 0 (84, 1, mX0_held) := ⟨mJ_X0_held, ⟨mG_t (by decide +kernel) (List.mem_of_getElem? (i := 538) (by decide +kernel)), mG_t (by decide +kernel) (List.mem_of_getElem? (i := 540) (by decide +kernel)), mG_s (by decide +kernel) (List.mem_of_getElem? (i := 39) (by decide +kernel))⟩⟩
theorem mCa0_5 : mCaOk 0 (88, 0, mX0_decayed) := ⟨mJ_X0_decayed, ⟨mG_t (by decide +kernel) (List.mem_of_getElem? (i := 543) (by decide +kernel)), mG_t (by decide +kernel) (List.mem_of_getElem? (i := 544) (by decide +kernel))⟩⟩
theorem mCa0_6 : mCaOk 0 (91, 1, mX0_isTooMuch) := ⟨mJ_X0_isTooMuch, ⟨mG_t (by decide +kernel) (List.mem_of_getElem? (i := 546) (by decide +kernel)), mG_t (by decide +kernel) (List.mem_of_getElem? (i := 548) (by decide +kernel)), mG_s (by decide +kernel) (List.mem_of_getElem? (i := 40) (by decide +kernel))⟩⟩
theorem mCa0_7 : mCaOk 0 (99, 1, mX0_acute) := ⟨mJ_X0_acute, ⟨mG_t (by decide +kernel) (List.mem_of_getElem? (i := 550) (by decide +kernel)), mG_t (by decide +kernel) (List.mem_of_getElem? (i := 552) (by decide +kernel)), mG_s (by decide +kernel) (List.mem_of_getElem? (i := 41) (by decide +kernel))⟩⟩
theorem mCa0_8 : mCaOk 0 (103, 1, mX0_chronic) := ⟨mJ_X0_chronic, ⟨mG_t (by decide +kernel) (List.mem_of_getElem? (i := 557) (by decide +kernel)), mG_t (by decide +kernel) (List.mem_of_getElem? (i := 559) (by decide +kernel)), mG_s (by decide +kernel) (List.mem_of_getElem? (i := 42) (by decide +kernel))⟩⟩
theorem mCa0_9 : mCaOk 0 (109, 1, mX0_keepIfBetter) := ⟨mJ_X0_keepIfBetter, ⟨mG_t (by decide +kernel) (List.mem_of_getElem? (i := 602) (by decide +kernel)), mG_t (by decide +kernel) (List.mem_of_getElem? (i := 604) (by decide +kernel)), mG_s (by decide +kernel) (List.mem_of_getElem? (i := 46) (by decide +kernel))⟩⟩
theorem mCa0_10 : mCaOk 0 (116, 1, mX0_formOf) := ⟨mJ_X0_formOf, ⟨mG_t (by decide +kernel) (List.mem_of_getElem? (i := 606) (by decide +kernel)), mG_t (by decide +kernel) (List.mem_of_getElem? (i := 575) (by decide +kernel)), mG_s (by decide +kernel) (List.mem_of_getElem? (i := 44) (by decide +kernel))⟩⟩
theorem mCa0_11 : mCaOk 0 (112, 1, mX0_tryRows) := ⟨mJ_X0_tryRows, ⟨mG_t (by decide +kernel) (List.mem_of_getElem? (i := 607) (by decide +kernel)), mG_t (by decide +kernel) (List.mem_of_getElem? (i := 600) (by decide +kernel)), mG_s (by decide +kernel) (List.mem_of_getElem? (i := 45) (by decide +kernel))⟩⟩
theorem mCaA0 : ∀ q ∈ mCa 0, mCaOk 0 q := List.forall_mem_cons.mpr ⟨mCa0_0, List.forall_mem_cons.mpr ⟨mCa0_1, List.forall_mem_cons.mpr ⟨mCa0_2, List.forall_mem_cons.mpr ⟨mCa0_3, List.forall_mem_cons.mpr ⟨mCa0_4, List.forall_mem_cons.mpr ⟨mCa0_5, List.forall_mem_cons.mpr ⟨mCa0_6, List.forall_mem_cons.mpr ⟨mCa0_7, List.forall_mem_cons.mpr ⟨mCa0_8, List.forall_mem_cons.mpr ⟨mCa0_9, List.forall_mem_cons.mpr ⟨mCa0_10, List.forall_mem_cons.mpr ⟨mCa0_11, fun _ h => absurd h List.not_mem_nil⟩⟩⟩⟩⟩⟩⟩⟩⟩⟩⟩⟩
theorem mCa1_0 : mCaOk 1 (32, 0, mX1_isLetter) := ⟨mJ_X1_isLetter, ⟨mG_t (by decide +kernel) (List.mem_of_getElem? (i := 246) (by decide +kernel)), mG_t (by decide +kernel) (List.mem_of_getElem? (i := 247) (by decide +kernel))⟩⟩
theorem mCa1_1 : mCaOk 1 (36, 1, mX1_endOfWord) := ⟨mJ_X1_endOfWord, ⟨mG_t (by decide +kernel) (List.mem_of_getElem? (i := 249) (by decide +kernel)), mG_t (by decide +kernel) (List.mem_of_getElem? (i := 251) (by decide +kernel)), mG_s (by decide +kernel) (List.mem_of_getElem? (i := 2) (by decide +kernel))⟩⟩
theorem mCa1_2 : mCaOk 1 (40, 1, mX1_wordAt) := ⟨mJ_X1_wordAt, ⟨mG_t (by decide +kernel) (List.mem_of_getElem? (i := 253) (by decide +kernel)), mG_t (by decide +kernel) (List.mem_of_getElem? (i := 255) (by decide +kernel)), mG_s (by decide +kernel) (List.mem_of_getElem? (i := 3) (by decide +kernel))⟩⟩
theorem mCa1_3 : mCaOk 1 (63, 0, mX1_textOf) := ⟨mJ_X1_textOf, ⟨mG_t (by decide +kernel) (List.mem_of_getElem? (i := 257) (by decide +kernel)), mG_t (by decide +kernel) (List.mem_of_getElem? (i := 258) (by decide +kernel))⟩⟩
theorem mCa1_4 : mCaOk 1 (67, 1, mX1_isTextAt) := ⟨mJ_X1_isTextAt, ⟨mG_t (by decide +kernel) (List.mem_of_getElem? (i := 272) (by decide +kernel)), mG_t (by decide +kernel) (List.mem_of_getElem? (i := 274) (by decide +kernel)), mG_s (by decide +kernel) (List.mem_of_getElem? (i := 4) (by decide +kernel))⟩⟩
theorem mCa1_5 : mCaOk 1 (44, 1, mX1_note) := ⟨mJ_X1_note, ⟨mG_t (by decide +kernel) (List.mem_of_getElem? (i := 324) (by decide +kernel)), mG_t (by decide +kernel) (List.mem_of_getElem? (i := 326) (by decide +kernel)), mG_s (by decide +kernel) (List.mem_of_getElem? (i := 5) (by decide +kernel))⟩⟩
theorem mCa1_6 : mCaOk 1 (48, 0, mX1_isDigit) := ⟨mJ_X1_isDigit, ⟨mG_t (by decide +kernel) (List.mem_of_getElem? (i := 328) (by decide +kernel)), mG_t (by decide +kernel) (List.mem_of_getElem? (i := 329) (by decide +kernel))⟩⟩
theorem mCa1_7 : mCaOk 1 (51, 1, mX1_endOfInt) := ⟨mJ_X1_endOfInt, ⟨mG_t (by decide +kernel) (List.mem_of_getElem? (i := 331) (by decide +kernel)), mG_t (by decide +kernel) (List.mem_of_getElem? (i := 333) (by decide +kernel)), mG_s (by decide +kernel) (List.mem_of_getElem? (i := 6) (by decide +kernel))⟩⟩
theorem mCa1_8 : mCaOk 1 (54, 1, mX1_numberAt) := ⟨mJ_X1_numberAt, ⟨mG_t (by decide +kernel) (List.mem_of_getElem? (i := 335) (by decide +kernel)), mG_t (by decide +kernel) (List.mem_of_getElem? (i := 337) (by decide +kernel)), mG_s (by decide +kernel) (List.mem_of_getElem? (i := 7) (by decide +kernel))⟩⟩
theorem mCa1_9 : mCaOk 1 (57, 0, mX1_isBlank) := ⟨mJ_X1_isBlank, ⟨mG_t (by decide +kernel) (List.mem_of_getElem? (i := 339) (by decide +kernel)), mG_t (by decide +kernel) (List.mem_of_getElem? (i := 340) (by decide +kernel))⟩⟩
theorem mCa1_10 : mCaOk 1 (60, 0, mX1_signOf) := ⟨mJ_X1_signOf, ⟨mG_t (by decide +kernel) (List.mem_of_getElem? (i := 342) (by decide +kernel)), mG_t (by decide +kernel) (List.mem_of_getElem? (i := 343) (by decide +kernel))⟩⟩
theorem mCaA1 : ∀ q ∈ mCa 1, mCaOk 1 q := List.forall_mem_cons.mpr ⟨mCa1_0, List.forall_mem_cons.mpr ⟨mCa1_1, List.forall_mem_cons.mpr ⟨mCa1_2, List.forall_mem_cons.mpr ⟨mCa1_3, List.forall_mem_cons.mpr ⟨mCa1_4, List.forall_mem_cons.mpr ⟨mCa1_5, List.forall_mem_cons.mpr ⟨mCa1_6, List.forall_mem_cons.mpr ⟨mCa1_7, List.forall_mem_cons.mpr ⟨mCa1_8, List.forall_mem_cons.mpr ⟨mCa1_9, List.forall_mem_cons.mpr ⟨mCa1_10, fun _ h => absurd h List.not_mem_nil⟩⟩⟩⟩⟩⟩⟩⟩⟩⟩⟩
theorem mCa2_0 : mCaOk 2 (11, 5, mX1_init) := ⟨mJ_X1_init, ⟨List.mem_of_getElem? (i := 87) (by decide +kernel), mG_t (by decide +kernel) (List.mem_of_getElem? (i := 88) (by decide +kernel)), rfl⟩⟩
theorem mCa2_1 : mCaOk 2 (20, 5, mX3_init) := ⟨mJ_X3_init, ⟨List.mem_of_getElem? (i := 117) (by decide +kernel), mG_t (by decide +kernel) (List.mem_of_getElem? (i := 28) (by decide +kernel)), rfl⟩⟩
theorem mCa2_2 : mCaOk 2 (32, 4, mX3_copyFrom) := ⟨mJ_X3_copyFrom, ⟨List.mem_of_getElem? (i := 349) (by decide +kernel), mG_t (by decide +kernel) (List.mem_of_getElem? (i := 351) (by decide +kernel)), mG_s (by decide +kernel) (List.mem_of_getElem? (i := 9) (by decide +kernel))⟩⟩
theorem mCa2_3 : mCaOk 2 (43, 1, mX2_token) := ⟨mJ_X2_token, ⟨mG_t (by decide +kernel) (List.mem_of_getElem? (i := 356) (by decide +kernel)), mG_t (by decide +kernel) (List.mem_of_getElem? (i := 358) (by decide +kernel)), mG_s (by decide +kernel) (List.mem_of_getElem? (i := 10) (by decide +kernel))⟩⟩
theorem mCa2_4 : mCaOk 2 (47, 1, mX2_readStatement) := ⟨mJ_X2_readStatement, ⟨mG_t (by decide +kernel) (List.mem_of_getElem? (i := 360) (by decide +kernel)), mG_t (by decide +kernel) (List.mem_of_getElem? (i := 362) (by decide +kernel)), mG_s (by decide +kernel) (List.mem_of_getElem? (i := 11) (by decide +kernel))⟩⟩
theorem mCa2_5 : mCaOk 2 (55, 1, mX2_readGroup) := ⟨mJ_X2_readGroup, ⟨mG_t (by decide +kernel) (List.mem_of_getElem? (i := 364) (by decide +kernel)), mG_t (by decide +kernel) (List.mem_of_getElem? (i := 366) (by decide +kernel)), mG_s (by decide +kernel) (List.mem_of_getElem? (i := 12) (by decide +kernel))⟩⟩
theorem mCa2_6 : mCaOk 2 (70, 1, mX2_fail) := ⟨mJ_X2_fail, ⟨mG_t (by decide +kernel) (List.mem_of_getElem? (i := 368) (by decide +kernel)), mG_t (by decide +kernel) (List.mem_of_getElem? (i := 370) (by decide +kernel)), mG_s (by decide +kernel) (List.mem_of_getElem? (i := 13) (by decide +kernel))⟩⟩
theorem mCa2_7 : mCaOk 2 (76, 1, mX2_step) := ⟨mJ_X2_step, ⟨mG_t (by decide +kernel) (List.mem_of_getElem? (i := 372) (by decide +kernel)), mG_t (by decide +kernel) (List.mem_of_getElem? (i := 374) (by decide +kernel)), mG_s (by decide +kernel) (List.mem_of_getElem? (i := 14) (by decide +kernel))⟩⟩
theorem mCa2_8 : mCaOk 2 (79, 1, mX2_takeInt) := ⟨mJ_X2_takeInt, ⟨mG_t (by decide +kernel) (List.mem_of_getElem? (i := 376) (by decide +kernel)), mG_t (by decide +kernel) (List.mem_of_getElem? (i := 378) (by decide +kernel)), mG_s (by decide +kernel) (List.mem_of_getElem? (i := 15) (by decide +kernel))⟩⟩
theorem mCa2_9 : mCaOk 2 (83, 4, mX3_addGroup) := ⟨mJ_X3_addGroup, ⟨List.mem_of_getElem? (i := 380) (by decide +kernel), mG_t (by decide +kernel) (List.mem_of_getElem? (i := 382) (by decide +kernel)), mG_s (by decide +kernel) (List.mem_of_getElem? (i := 16) (by decide +kernel))⟩⟩
theorem mCa2_10 : mCaOk 2 (58, 1, mX2_readLoad) := ⟨mJ_X2_readLoad, ⟨mG_t (by decide +kernel) (List.mem_of_getElem? (i := 384) (by decide +kernel)), mG_t (by decide +kernel) (List.mem_of_getElem? (i := 386) (by decide +kernel)), mG_s (by decide +kernel) (List.mem_of_getElem? (i := 17) (by decide +kernel))⟩⟩
theorem mCa2_11 : mCaOk 2 (61, 1, mX2_readCamp) := ⟨mJ_X2_readCamp, ⟨mG_t (by decide +kernel) (List.mem_of_getElem? (i := 388) (by decide +kernel)), mG_t (by decide +kernel) (List.mem_of_getElem? (i := 390) (by decide +kernel)), mG_s (by decide +kernel) (List.mem_of_getElem? (i := 18) (by decide +kernel))⟩⟩
theorem mCa2_12 : mCaOk 2 (93, 4, mX3_addCamp) := ⟨mJ_X3_addCamp, ⟨List.mem_of_getElem? (i := 392) (by decide +kernel), mG_t (by decide +kernel) (List.mem_of_getElem? (i := 394) (by decide +kernel)), mG_s (by decide +kernel) (List.mem_of_getElem? (i := 19) (by decide +kernel))⟩⟩
theorem mCa2_13 : mCaOk 2 (64, 1, mX2_readSetting) := ⟨mJ_X2_readSetting, ⟨mG_t (by decide +kernel) (List.mem_of_getElem? (i := 396) (by decide +kernel)), mG_t (by decide +kernel) (List.mem_of_getElem? (i := 398) (by decide +kernel)), mG_s (by decide +kernel) (List.mem_of_getElem? (i := 20) (by decide +kernel))⟩⟩
theorem mCa2_14 : mCaOk 2 (67, 1, mX2_readPlan) := ⟨mJ_X2_readPlan, ⟨mG_t (by decide +kernel) (List.mem_of_getElem? (i := 404) (by decide +kernel)), mG_t (by decide +kernel) (List.mem_of_getElem? (i := 406) (by decide +kernel)), mG_s (by decide +kernel) (List.mem_of_getElem? (i := 21) (by decide +kernel))⟩⟩
theorem mCa2_15 : mCaOk 2 (114, 1, mX2_openAgain) := ⟨mJ_X2_openAgain, ⟨mG_t (by decide +kernel) (List.mem_of_getElem? (i := 408) (by decide +kernel)), mG_t (by decide +kernel) (List.mem_of_getElem? (i := 410) (by decide +kernel)), mG_s (by decide +kernel) (List.mem_of_getElem? (i := 22) (by decide +kernel))⟩⟩
theorem mCa2_16 : mCaOk 2 (51, 1, mX2_take) := ⟨mJ_X2_take, ⟨mG_t (by decide +kernel) (List.mem_of_getElem? (i := 412) (by decide +kernel)), mG_t (by decide +kernel) (List.mem_of_getElem? (i := 414) (by decide +kernel)), mG_s (by decide +kernel) (List.mem_of_getElem? (i := 23) (by decide +kernel))⟩⟩
theorem mCa2_17 : mCaOk 2 (117, 1, mX2_closeAgain) := ⟨mJ_X2_closeAgain, ⟨mG_t (by decide +kernel) (List.mem_of_getElem? (i := 416) (by decide +kernel)), mG_t (by decide +kernel) (List.mem_of_getElem? (i := 418) (by decide +kernel)), mG_s (by decide +kernel) (List.mem_of_getElem? (i := 24) (by decide +kernel))⟩⟩
theorem mCa2_18 : mCaOk 2 (123, 4, mX3_repeatKinds) := ⟨mJ_X3_repeatKinds, ⟨List.mem_of_getElem? (i := 420) (by decide +kernel), mG_t (by decide +kernel) (List.mem_of_getElem? (i := 422) (by decide +kernel)), mG_s (by decide +kernel) (List.mem_of_getElem? (i := 25) (by decide +kernel))⟩⟩
theorem mCa2_19 : mCaOk 2 (120, 1, mX2_readDays) := ⟨mJ_X2_readDays, ⟨mG_t (by decide +kernel) (List.mem_of_getElem? (i := 424) (by decide +kernel)), mG_t (by decide +kernel) (List.mem_of_getElem? (i := 426) (by decide +kernel)), mG_s (by decide +kernel) (List.mem_of_getElem? (i := 26) (by decide +kernel))⟩⟩
theorem mCa2_20 : mCaOk 2 (127, 4, mX3_fillKinds) := ⟨mJ_X3_fillKinds, ⟨List.mem_of_getElem? (i := 428) (by decide +kernel), mG_t (by decide +kernel) (List.mem_of_getElem? (i := 430) (by decide +kernel)), mG_s (by decide +kernel) (List.mem_of_getElem? (i := 27) (by decide +kernel))⟩⟩
theorem mCaA2 : ∀ q ∈ mCa 2, mCaOk 2 q := List.forall_mem_cons.mpr ⟨mCa2_0, List.forall_mem_cons.mpr ⟨mCa2_1, List.forall_mem_cons.mpr ⟨mCa2_2, List.forall_mem_cons.mpr ⟨mCa2_3, List.forall_mem_cons.mpr ⟨mCa2_4, List.forall_mem_cons.mpr ⟨mCa2_5, List.forall_mem_cons.mpr ⟨mCa2_6, List.forall_mem_cons.mpr ⟨mCa2_7, List.forall_mem_cons.mpr ⟨mCa2_8, List.forall_mem_cons.mpr ⟨mCa2_9, List.forall_mem_cons.mpr ⟨mCa2_10, List.forall_mem_cons.mpr ⟨mCa2_11, List.forall_mem_cons.mpr ⟨mCa2_12, List.forall_mem_cons.mpr ⟨mCa2_13, List.forall_mem_cons.mpr ⟨mCa2_14, List.forall_mem_cons.mpr ⟨mCa2_15, List.forall_mem_cons.mpr ⟨mCa2_16, List.forall_mem_cons.mpr ⟨mCa2_17, List.forall_mem_cons.mpr ⟨mCa2_18, List.forall_mem_cons.mpr ⟨mCa2_19, List.forall_mem_cons.mpr ⟨mCa2_20, fun _ h => absurd h List.not_mem_nil⟩⟩⟩⟩⟩⟩⟩⟩⟩⟩⟩⟩⟩⟩⟩⟩⟩⟩⟩⟩⟩
theorem mCa4_0 : mCaOk 4 (9, 5, mX3_init) := ⟨mJ_X3_init, ⟨List.mem_of_getElem? (i := 27) (by decide +kernel), mG_t (by decide +kernel) (List.mem_of_getElem? (i := 28) (by decide +kernel)), rfl⟩⟩
theorem mCa4_1 : mCaOk 4 (22, 5, mX2_init) := ⟨mJ_X2_init, ⟨List.mem_of_getElem? (i := 81) (by decide +kernel), mG_t (by decide +kernel) (List.mem_of_getElem? (i := 82) (by decide +kernel)), rfl⟩⟩
theorem mCa4_2 : mCaOk 4 (29, 5, mX0_init) := ⟨mJ_X0_init, ⟨List.mem_of_getElem? (i := 151) (by decide +kernel), mG_t (by decide +kernel) (List.mem_of_getElem? (i := 152) (by decide +kernel)), rfl⟩⟩
theorem mCa4_3 : mCaOk 4 (51, 4, mX1_append) := ⟨mJ_X1_append, ⟨List.mem_of_getElem? (i := 230) (by decide +kernel), mG_t (by decide +kernel) (List.mem_of_getElem? (i := 232) (by decide +kernel)), mG_s (by decide +kernel) (List.mem_of_getElem? (i := 0) (by decide +kernel))⟩⟩
theorem mCa4_4 : mCaOk 4 (55, 4, mX1_split) := ⟨mJ_X1_split, ⟨List.mem_of_getElem? (i := 242) (by decide +kernel), mG_t (by decide +kernel) (List.mem_of_getElem? (i := 244) (by decide +kernel)), mG_s (by decide +kernel) (List.mem_of_getElem? (i := 1) (by decide +kernel))⟩⟩
theorem mCa4_5 : mCaOk 4 (58, 4, mX2_readText) := ⟨mJ_X2_readText, ⟨List.mem_of_getElem? (i := 345) (by decide +kernel), mG_t (by decide +kernel) (List.mem_of_getElem? (i := 347) (by decide +kernel)), mG_s (by decide +kernel) (List.mem_of_getElem? (i := 8) (by decide +kernel))⟩⟩
theorem mCa4_6 : mCaOk 4 (62, 1, mX4_remember) := ⟨mJ_X4_remember, ⟨mG_t (by decide +kernel) (List.mem_of_getElem? (i := 432) (by decide +kernel)), mG_t (by decide +kernel) (List.mem_of_getElem? (i := 434) (by decide +kernel)), mG_s (by decide +kernel) (List.mem_of_getElem? (i := 28) (by decide +kernel))⟩⟩
theorem mCa4_7 : mCaOk 4 (68, 4, mX3_copyFrom) := ⟨mJ_X3_copyFrom, ⟨List.mem_of_getElem? (i := 436) (by decide +kernel), mG_t (by decide +kernel) (List.mem_of_getElem? (i := 351) (by decide +kernel)), mG_s (by decide +kernel) (List.mem_of_getElem? (i := 9) (by decide +kernel))⟩⟩
theorem mCa4_8 : mCaOk 4 (75, 0, mX4_canBeAtFirst) := ⟨mJ_X4_canBeAtFirst, ⟨mG_t (by decide +kernel) (List.mem_of_getElem? (i := 448) (by decide +kernel)), mG_t (by decide +kernel) (List.mem_of_getElem? (i := 449) (by decide +kernel))⟩⟩
theorem mCa4_9 : mCaOk 4 (82, 4, mX3_addGroup) := ⟨mJ_X3_addGroup, ⟨List.mem_of_getElem? (i := 451) (by decide +kernel), mG_t (by decide +kernel) (List.mem_of_getElem? (i := 382) (by decide +kernel)), mG_s (by decide +kernel) (List.mem_of_getElem? (i := 16) (by decide +kernel))⟩⟩
theorem mCa4_10 : mCaOk 4 (89, 0, mX4_canBeSetting) := ⟨mJ_X4_canBeSetting, ⟨mG_t (by decide +kernel) (List.mem_of_getElem? (i := 460) (by decide +kernel)), mG_t (by decide +kernel) (List.mem_of_getElem? (i := 461) (by decide +kernel))⟩⟩
theorem mCa4_11 : mCaOk 4 (96, 0, mX4_areDays) := ⟨mJ_X4_areDays, ⟨mG_t (by decide +kernel) (List.mem_of_getElem? (i := 469) (by decide +kernel)), mG_t (by decide +kernel) (List.mem_of_getElem? (i := 470) (by decide +kernel))⟩⟩
theorem mCa4_12 : mCaOk 4 (145, 0, mX4_isDay) := ⟨mJ_X4_isDay, ⟨mG_t (by decide +kernel) (List.mem_of_getElem? (i := 472) (by decide +kernel)), mG_t (by decide +kernel) (List.mem_of_getElem? (i := 473) (by decide +kernel))⟩⟩
theorem mCa4_13 : mCaOk 4 (102, 4, mX3_addCamp) := ⟨mJ_X3_addCamp, ⟨List.mem_of_getElem? (i := 475) (by decide +kernel), mG_t (by decide +kernel) (List.mem_of_getElem? (i := 394) (by decide +kernel)), mG_s (by decide +kernel) (List.mem_of_getElem? (i := 19) (by decide +kernel))⟩⟩
theorem mCa4_14 : mCaOk 4 (105, 4, mX3_hasCamp) := ⟨mJ_X3_hasCamp, ⟨List.mem_of_getElem? (i := 480) (by decide +kernel), mG_t (by decide +kernel) (List.mem_of_getElem? (i := 482) (by decide +kernel)), mG_s (by decide +kernel) (List.mem_of_getElem? (i := 29) (by decide +kernel))⟩⟩
theorem mCa4_15 : mCaOk 4 (108, 4, mX3_dropCamp) := ⟨mJ_X3_dropCamp, ⟨List.mem_of_getElem? (i := 484) (by decide +kernel), mG_t (by decide +kernel) (List.mem_of_getElem? (i := 486) (by decide +kernel)), mG_s (by decide +kernel) (List.mem_of_getElem? (i := 30) (by decide +kernel))⟩⟩
theorem mCa4_16 : mCaOk 4 (111, 4, mX3_hasGroup) := ⟨mJ_X3_hasGroup, ⟨List.mem_of_getElem? (i := 492) (by decide +kernel), mG_t (by decide +kernel) (List.mem_of_getElem? (i := 494) (by decide +kernel)), mG_s (by decide +kernel) (List.mem_of_getElem? (i := 31) (by decide +kernel))⟩⟩
theorem mCa4_17 : mCaOk 4 (114, 4, mX3_countOthers) := ⟨mJ_X3_countOthers, ⟨List.mem_of_getElem? (i := 496) (by decide +kernel), mG_t (by decide +kernel) (List.mem_of_getElem? (i := 498) (by decide +kernel)), mG_s (by decide +kernel) (List.mem_of_getElem? (i := 32) (by decide +kernel))⟩⟩
theorem mCa4_18 : mCaOk 4 (118, 4, mX3_fillKinds) := ⟨mJ_X3_fillKinds, ⟨List.mem_of_getElem? (i := 500) (by decide +kernel), mG_t (by decide +kernel) (List.mem_of_getElem? (i := 430) (by decide +kernel)), mG_s (by decide +kernel) (List.mem_of_getElem? (i := 27) (by decide +kernel))⟩⟩
theorem mCa4_19 : mCaOk 4 (128, 1, mX4_countNumber) := ⟨mJ_X4_countNumber, ⟨mG_t (by decide +kernel) (List.mem_of_getElem? (i := 509) (by decide +kernel)), mG_t (by decide +kernel) (List.mem_of_getElem? (i := 511) (by decide +kernel)), mG_s (by decide +kernel) (List.mem_of_getElem? (i := 33) (by decide +kernel))⟩⟩
theorem mCa4_20 : mCaOk 4 (148, 4, mX0_follow) := ⟨mJ_X0_follow, ⟨List.mem_of_getElem? (i := 517) (by decide +kernel), mG_t (by decide +kernel) (List.mem_of_getElem? (i := 519) (by decide +kernel)), mG_s (by decide +kernel) (List.mem_of_getElem? (i := 34) (by decide +kernel))⟩⟩
theorem mCa4_21 : mCaOk 4 (162, 4, mX0_isHurt) := ⟨mJ_X0_isHurt, ⟨List.mem_of_getElem? (i := 561) (by decide +kernel), mG_t (by decide +kernel) (List.mem_of_getElem? (i := 536) (by decide +kernel)), mG_s (by decide +kernel) (List.mem_of_getElem? (i := 38) (by decide +kernel))⟩⟩
theorem mCa4_22 : mCaOk 4 (169, 4, mX0_acute) := ⟨mJ_X0_acute, ⟨List.mem_of_getElem? (i := 562) (by decide +kernel), mG_t (by decide +kernel) (List.mem_of_getElem? (i := 552) (by decide +kernel)), mG_s (by decide +kernel) (List.mem_of_getElem? (i := 41) (by decide +kernel))⟩⟩
theorem mCa4_23 : mCaOk 4 (172, 4, mX0_chronic) := ⟨mJ_X0_chronic, ⟨List.mem_of_getElem? (i := 563) (by decide +kernel), mG_t (by decide +kernel) (List.mem_of_getElem? (i := 559) (by decide +kernel)), mG_s (by decide +kernel) (List.mem_of_getElem? (i := 42) (by decide +kernel))⟩⟩
theorem mCa4_24 : mCaOk 4 (176, 1, mX4_formAsTold) := ⟨mJ_X4_formAsTold, ⟨mG_t (by decide +kernel) (List.mem_of_getElem? (i := 569) (by decide +kernel)), mG_t (by decide +kernel) (List.mem_of_getElem? (i := 571) (by decide +kernel)), mG_s (by decide +kernel) (List.mem_of_getElem? (i := 43) (by decide +kernel))⟩⟩
theorem mCa4_25 : mCaOk 4 (183, 4, mX0_formOf) := ⟨mJ_X0_formOf, ⟨List.mem_of_getElem? (i := 573) (by decide +kernel), mG_t (by decide +kernel) (List.mem_of_getElem? (i := 575) (by decide +kernel)), mG_s (by decide +kernel) (List.mem_of_getElem? (i := 44) (by decide +kernel))⟩⟩
theorem mCa4_26 : mCaOk 4 (191, 4, mX0_live) := ⟨mJ_X0_live, ⟨List.mem_of_getElem? (i := 593) (by decide +kernel), mG_t (by decide +kernel) (List.mem_of_getElem? (i := 528) (by decide +kernel)), mG_s (by decide +kernel) (List.mem_of_getElem? (i := 36) (by decide +kernel))⟩⟩
theorem mCa4_27 : mCaOk 4 (200, 4, mX0_tryRows) := ⟨mJ_X0_tryRows, ⟨List.mem_of_getElem? (i := 598) (by decide +kernel), mG_t (by decide +kernel) (List.mem_of_getElem? (i := 600) (by decide +kernel)), mG_s (by decide +kernel) (List.mem_of_getElem? (i := 45) (by decide +kernel))⟩⟩
theorem mCa4_28 : mCaOk 4 (204, 1, mX4_greatestBeside) := ⟨mJ_X4_greatestBeside, ⟨mG_t (by decide +kernel) (List.mem_of_getElem? (i := 612) (by decide +kernel)), mG_t (by decide +kernel) (List.mem_of_getElem? (i := 614) (by decide +kernel)), mG_s (by decide +kernel) (List.mem_of_getElem? (i := 47) (by decide +kernel))⟩⟩
theorem mCa4_29 : mCaOk 4 (207, 4, mX0_liveDay) := ⟨mJ_X0_liveDay, ⟨List.mem_of_getElem? (i := 620) (by decide +kernel), mG_t (by decide +kernel) (List.mem_of_getElem? (i := 532) (by decide +kernel)), mG_s (by decide +kernel) (List.mem_of_getElem? (i := 37) (by decide +kernel))⟩⟩
theorem mCaA4 : ∀ q ∈ mCa 4, mCaOk 4 q := List.forall_mem_cons.mpr ⟨mCa4_0, List.forall_mem_cons.mpr ⟨mCa4_1, List.forall_mem_cons.mpr ⟨mCa4_2, List.forall_mem_cons.mpr ⟨mCa4_3, List.forall_mem_cons.mpr ⟨mCa4_4, List.forall_mem_cons.mpr ⟨mCa4_5, List.forall_mem_cons.mpr ⟨mCa4_6, List.forall_mem_cons.mpr ⟨mCa4_7, List.forall_mem_cons.mpr ⟨mCa4_8, List.forall_mem_cons.mpr ⟨mCa4_9, List.forall_mem_cons.mpr ⟨mCa4_10, List.forall_mem_cons.mpr ⟨mCa4_11, List.forall_mem_cons.mpr ⟨mCa4_12, List.forall_mem_cons.mpr ⟨mCa4_13, List.forall_mem_cons.mpr ⟨mCa4_14, List.forall_mem_cons.mpr ⟨mCa4_15, List.forall_mem_cons.mpr ⟨mCa4_16, List.forall_mem_cons.mpr ⟨mCa4_17, List.forall_mem_cons.mpr ⟨mCa4_18, List.forall_mem_cons.mpr ⟨mCa4_19, List.forall_mem_cons.mpr ⟨mCa4_20, List.forall_mem_cons.mpr ⟨mCa4_21, List.forall_mem_cons.mpr ⟨mCa4_22, List.forall_mem_cons.mpr ⟨mCa4_23, List.forall_mem_cons.mpr ⟨mCa4_24, List.forall_mem_cons.mpr ⟨mCa4_25, List.forall_mem_cons.mpr ⟨mCa4_26, List.forall_mem_cons.mpr ⟨mCa4_27, List.forall_mem_cons.mpr ⟨mCa4_28, List.forall_mem_cons.mpr ⟨mCa4_29, fun _ h => absurd h List.not_mem_nil⟩⟩⟩⟩⟩⟩⟩⟩⟩⟩⟩⟩⟩⟩⟩⟩⟩⟩⟩⟩⟩⟩⟩⟩⟩⟩⟩⟩⟩⟩
theorem mCa5_0 : mCaOk 5 (68, 0, mX5_isIn) := ⟨mJ_X5_isIn, ⟨mG_t (by decide +kernel) (List.mem_of_getElem? (i := 807) (by decide +kernel)), mG_t (by decide +kernel) (List.mem_of_getElem? (i := 808) (by decide +kernel))⟩⟩
theorem mCa5_1 : mCaOk 5 (64, 1, mX5_groups) := ⟨mJ_X5_groups, ⟨mG_t (by decide +kernel) (List.mem_of_getElem? (i := 810) (by decide +kernel)), mG_t (by decide +kernel) (List.mem_of_getElem? (i := 812) (by decide +kernel)), mG_s (by decide +kernel) (List.mem_of_getElem? (i := 49) (by decide +kernel))⟩⟩
theorem mCa5_2 : mCaOk 5 (89, 1, mX5_keeps) := ⟨mJ_X5_keeps, ⟨mG_t (by decide +kernel) (List.mem_of_getElem? (i := 814) (by decide +kernel)), mG_t (by decide +kernel) (List.mem_of_getElem? (i := 816) (by decide +kernel)), mG_s (by decide +kernel) (List.mem_of_getElem? (i := 50) (by decide +kernel))⟩⟩
theorem mCa5_3 : mCaOk 5 (92, 1, mX5_comes) := ⟨mJ_X5_comes, ⟨mG_t (by decide +kernel) (List.mem_of_getElem? (i := 818) (by decide +kernel)), mG_t (by decide +kernel) (List.mem_of_getElem? (i := 820) (by decide +kernel)), mG_s (by decide +kernel) (List.mem_of_getElem? (i := 51) (by decide +kernel))⟩⟩
theorem mCa5_4 : mCaOk 5 (96, 0, mX5_maySet) := ⟨mJ_X5_maySet, ⟨mG_t (by decide +kernel) (List.mem_of_getElem? (i := 830) (by decide +kernel)), mG_t (by decide +kernel) (List.mem_of_getElem? (i := 831) (by decide +kernel))⟩⟩
theorem mCa5_5 : mCaOk 5 (99, 1, mX5_of) := ⟨mJ_X5_of, ⟨mG_t (by decide +kernel) (List.mem_of_getElem? (i := 833) (by decide +kernel)), mG_t (by decide +kernel) (List.mem_of_getElem? (i := 835) (by decide +kernel)), mG_s (by decide +kernel) (List.mem_of_getElem? (i := 52) (by decide +kernel))⟩⟩
theorem mCa5_6 : mCaOk 5 (76, 0, mX5_isDay) := ⟨mJ_X5_isDay, ⟨mG_t (by decide +kernel) (List.mem_of_getElem? (i := 841) (by decide +kernel)), mG_t (by decide +kernel) (List.mem_of_getElem? (i := 842) (by decide +kernel))⟩⟩
theorem mCa5_7 : mCaOk 5 (86, 1, mX5_camps) := ⟨mJ_X5_camps, ⟨mG_t (by decide +kernel) (List.mem_of_getElem? (i := 844) (by decide +kernel)), mG_t (by decide +kernel) (List.mem_of_getElem? (i := 846) (by decide +kernel)), mG_s (by decide +kernel) (List.mem_of_getElem? (i := 53) (by decide +kernel))⟩⟩
theorem mCa5_8 : mCaOk 5 (103, 1, mX5_campComes) := ⟨mJ_X5_campComes, ⟨mG_t (by decide +kernel) (List.mem_of_getElem? (i := 848) (by decide +kernel)), mG_t (by decide +kernel) (List.mem_of_getElem? (i := 850) (by decide +kernel)), mG_s (by decide +kernel) (List.mem_of_getElem? (i := 54) (by decide +kernel))⟩⟩
theorem mCa5_9 : mCaOk 5 (106, 1, mX5_strikes) := ⟨mJ_X5_strikes, ⟨mG_t (by decide +kernel) (List.mem_of_getElem? (i := 856) (by decide +kernel)), mG_t (by decide +kernel) (List.mem_of_getElem? (i := 858) (by decide +kernel)), mG_s (by decide +kernel) (List.mem_of_getElem? (i := 55) (by decide +kernel))⟩⟩
theorem mCa5_10 : mCaOk 5 (110, 1, mX5_areDays) := ⟨mJ_X5_areDays, ⟨mG_t (by decide +kernel) (List.mem_of_getElem? (i := 864) (by decide +kernel)), mG_t (by decide +kernel) (List.mem_of_getElem? (i := 866) (by decide +kernel)), mG_s (by decide +kernel) (List.mem_of_getElem? (i := 56) (by decide +kernel))⟩⟩
theorem mCa5_11 : mCaOk 5 (79, 1, mX5_isOne) := ⟨mJ_X5_isOne, ⟨mG_t (by decide +kernel) (List.mem_of_getElem? (i := 868) (by decide +kernel)), mG_t (by decide +kernel) (List.mem_of_getElem? (i := 870) (by decide +kernel)), mG_s (by decide +kernel) (List.mem_of_getElem? (i := 57) (by decide +kernel))⟩⟩
theorem mCa5_12 : mCaOk 5 (72, 1, mX5_isGroup) := ⟨mJ_X5_isGroup, ⟨mG_t (by decide +kernel) (List.mem_of_getElem? (i := 872) (by decide +kernel)), mG_t (by decide +kernel) (List.mem_of_getElem? (i := 874) (by decide +kernel)), mG_s (by decide +kernel) (List.mem_of_getElem? (i := 58) (by decide +kernel))⟩⟩
theorem mCa5_13 : mCaOk 5 (113, 1, mX5_kindOf) := ⟨mJ_X5_kindOf, ⟨mG_t (by decide +kernel) (List.mem_of_getElem? (i := 876) (by decide +kernel)), mG_t (by decide +kernel) (List.mem_of_getElem? (i := 878) (by decide +kernel)), mG_s (by decide +kernel) (List.mem_of_getElem? (i := 59) (by decide +kernel))⟩⟩
theorem mCa5_14 : mCaOk 5 (120, 1, mX5_put) := ⟨mJ_X5_put, ⟨mG_t (by decide +kernel) (List.mem_of_getElem? (i := 896) (by decide +kernel)), mG_t (by decide +kernel) (List.mem_of_getElem? (i := 898) (by decide +kernel)), mG_s (by decide +kernel) (List.mem_of_getElem? (i := 60) (by decide +kernel))⟩⟩
theorem mCa5_15 : mCaOk 5 (132, 1, mX5_here) := ⟨mJ_X5_here, ⟨mG_t (by decide +kernel) (List.mem_of_getElem? (i := 908) (by decide +kernel)), mG_t (by decide +kernel) (List.mem_of_getElem? (i := 910) (by decide +kernel)), mG_s (by decide +kernel) (List.mem_of_getElem? (i := 61) (by decide +kernel))⟩⟩
theorem mCa5_16 : mCaOk 5 (179, 1, mX5_statement) := ⟨mJ_X5_statement, ⟨mG_t (by decide +kernel) (List.mem_of_getElem? (i := 912) (by decide +kernel)), mG_t (by decide +kernel) (List.mem_of_getElem? (i := 914) (by decide +kernel)), mG_s (by decide +kernel) (List.mem_of_getElem? (i := 62) (by decide +kernel))⟩⟩
theorem mCa5_17 : mCaOk 5 (161, 1, mX5_word) := ⟨mJ_X5_word, ⟨mG_t (by decide +kernel) (List.mem_of_getElem? (i := 916) (by decide +kernel)), mG_t (by decide +kernel) (List.mem_of_getElem? (i := 918) (by decide +kernel)), mG_s (by decide +kernel) (List.mem_of_getElem? (i := 63) (by decide +kernel))⟩⟩
theorem mCa5_18 : mCaOk 5 (145, 0, mX5_letters) := ⟨mJ_X5_letters, ⟨mG_t (by decide +kernel) (List.mem_of_getElem? (i := 920) (by decide +kernel)), mG_t (by decide +kernel) (List.mem_of_getElem? (i := 921) (by decide +kernel))⟩⟩
theorem mCa5_19 : mCaOk 5 (142, 1, mX5_fails) := ⟨mJ_X5_fails, ⟨mG_t (by decide +kernel) (List.mem_of_getElem? (i := 923) (by decide +kernel)), mG_t (by decide +kernel) (List.mem_of_getElem? (i := 925) (by decide +kernel)), mG_s (by decide +kernel) (List.mem_of_getElem? (i := 64) (by decide +kernel))⟩⟩
theorem mCa5_20 : mCaOk 5 (158, 1, mX5_number) := ⟨mJ_X5_number, ⟨mG_t (by decide +kernel) (List.mem_of_getElem? (i := 927) (by decide +kernel)), mG_t (by decide +kernel) (List.mem_of_getElem? (i := 929) (by decide +kernel)), mG_s (by decide +kernel) (List.mem_of_getElem? (i := 65) (by decide +kernel))⟩⟩
theorem mCa5_21 : mCaOk 5 (135, 1, mX5_isNumber) := ⟨mJ_X5_isNumber, ⟨mG_t (by decide +kernel) (List.mem_of_getElem? (i := 931) (by decide +kernel)), mG_t (by decide +kernel) (List.mem_of_getElem? (i := 933) (by decide +kernel)), mG_s (by decide +kernel) (List.mem_of_getElem? (i := 66) (by decide +kernel))⟩⟩
theorem mCa5_22 : mCaOk 5 (164, 0, mX5_kindBy) := ⟨mJ_X5_kindBy, ⟨mG_t (by decide +kernel) (List.mem_of_getElem? (i := 935) (by decide +kernel)), mG_t (by decide +kernel) (List.mem_of_getElem? (i := 936) (by decide +kernel))⟩⟩
theorem mCa5_23 : mCaOk 5 (176, 1, mX5_planTold) := ⟨mJ_X5_planTold, ⟨mG_t (by decide +kernel) (List.mem_of_getElem? (i := 938) (by decide +kernel)), mG_t (by decide +kernel) (List.mem_of_getElem? (i := 940) (by decide +kernel)), mG_s (by decide +kernel) (List.mem_of_getElem? (i := 67) (by decide +kernel))⟩⟩
theorem mCa5_24 : mCaOk 5 (170, 1, mX5_closes) := ⟨mJ_X5_closes, ⟨mG_t (by decide +kernel) (List.mem_of_getElem? (i := 942) (by decide +kernel)), mG_t (by decide +kernel) (List.mem_of_getElem? (i := 944) (by decide +kernel)), mG_s (by decide +kernel) (List.mem_of_getElem? (i := 68) (by decide +kernel))⟩⟩
theorem mCa5_25 : mCaOk 5 (173, 1, mX5_item) := ⟨mJ_X5_item, ⟨mG_t (by decide +kernel) (List.mem_of_getElem? (i := 946) (by decide +kernel)), mG_t (by decide +kernel) (List.mem_of_getElem? (i := 948) (by decide +kernel)), mG_s (by decide +kernel) (List.mem_of_getElem? (i := 69) (by decide +kernel))⟩⟩
theorem mCa5_26 : mCaOk 5 (167, 1, mX5_named) := ⟨mJ_X5_named, ⟨mG_t (by decide +kernel) (List.mem_of_getElem? (i := 950) (by decide +kernel)), mG_t (by decide +kernel) (List.mem_of_getElem? (i := 952) (by decide +kernel)), mG_s (by decide +kernel) (List.mem_of_getElem? (i := 70) (by decide +kernel))⟩⟩
theorem mCa5_27 : mCaOk 5 (194, 1, mX5_goes) := ⟨mJ_X5_goes, ⟨mG_t (by decide +kernel) (List.mem_of_getElem? (i := 962) (by decide +kernel)), mG_t (by decide +kernel) (List.mem_of_getElem? (i := 964) (by decide +kernel)), mG_s (by decide +kernel) (List.mem_of_getElem? (i := 71) (by decide +kernel))⟩⟩
theorem mCa5_28 : mCaOk 5 (185, 1, mX5_isCamp) := ⟨mJ_X5_isCamp, ⟨mG_t (by decide +kernel) (List.mem_of_getElem? (i := 966) (by decide +kernel)), mG_t (by decide +kernel) (List.mem_of_getElem? (i := 968) (by decide +kernel)), mG_s (by decide +kernel) (List.mem_of_getElem? (i := 72) (by decide +kernel))⟩⟩
theorem mCa5_29 : mCaOk 5 (188, 1, mX5_acute) := ⟨mJ_X5_acute, ⟨mG_t (by decide +kernel) (List.mem_of_getElem? (i := 970) (by decide +kernel)), mG_t (by decide +kernel) (List.mem_of_getElem? (i := 972) (by decide +kernel)), mG_s (by decide +kernel) (List.mem_of_getElem? (i := 73) (by decide +kernel))⟩⟩
theorem mCa5_30 : mCaOk 5 (191, 1, mX5_chronic) := ⟨mJ_X5_chronic, ⟨mG_t (by decide +kernel) (List.mem_of_getElem? (i := 974) (by decide +kernel)), mG_t (by decide +kernel) (List.mem_of_getElem? (i := 976) (by decide +kernel)), mG_s (by decide +kernel) (List.mem_of_getElem? (i := 74) (by decide +kernel))⟩⟩
theorem mCa5_31 : mCaOk 5 (200, 1, mX5_formOf) := ⟨mJ_X5_formOf, ⟨mG_t (by decide +kernel) (List.mem_of_getElem? (i := 982) (by decide +kernel)), mG_t (by decide +kernel) (List.mem_of_getElem? (i := 984) (by decide +kernel)), mG_s (by decide +kernel) (List.mem_of_getElem? (i := 75) (by decide +kernel))⟩⟩
theorem mCa5_32 : mCaOk 5 (197, 1, mX5_formAt) := ⟨mJ_X5_formAt, ⟨mG_t (by decide +kernel) (List.mem_of_getElem? (i := 986) (by decide +kernel)), mG_t (by decide +kernel) (List.mem_of_getElem? (i := 988) (by decide +kernel)), mG_s (by decide +kernel) (List.mem_of_getElem? (i := 76) (by decide +kernel))⟩⟩
theorem mCa5_33 : mCaOk 5 (204, 1, mX5_remembers) := ⟨mJ_X5_remembers, ⟨mG_t (by decide +kernel) (List.mem_of_getElem? (i := 1007) (by decide +kernel)), mG_t (by decide +kernel) (List.mem_of_getElem? (i := 1009) (by decide +kernel)), mG_s (by decide +kernel) (List.mem_of_getElem? (i := 77) (by decide +kernel))⟩⟩
theorem mCa5_34 : mCaOk 5 (207, 1, mX5_comesBack) := ⟨mJ_X5_comesBack, ⟨mG_t (by decide +kernel) (List.mem_of_getElem? (i := 1011) (by decide +kernel)), mG_t (by decide +kernel) (List.mem_of_getElem? (i := 1013) (by decide +kernel)), mG_s (by decide +kernel) (List.mem_of_getElem? (i := 78) (by decide +kernel))⟩⟩
theorem mCa5_35 : mCaOk 5 (210, 1, mX5_isHale) := ⟨mJ_X5_isHale, ⟨mG_t (by decide +kernel) (List.mem_of_getElem? (i := 1019) (by decide +kernel)), mG_t (by decide +kernel) (List.mem_of_getElem? (i := 1021) (by decide +kernel)), mG_s (by decide +kernel) (List.mem_of_getElem? (i := 79) (by decide +kernel))⟩⟩
theorem mCaA5 : ∀ q ∈ mCa 5, mCaOk 5 q := List.forall_mem_cons.mpr ⟨mCa5_0, List.forall_mem_cons.mpr ⟨mCa5_1, List.forall_mem_cons.mpr ⟨mCa5_2, List.forall_mem_cons.mpr ⟨mCa5_3, List.forall_mem_cons.mpr ⟨mCa5_4, List.forall_mem_cons.mpr ⟨mCa5_5, List.forall_mem_cons.mpr ⟨mCa5_6, List.forall_mem_cons.mpr ⟨mCa5_7, List.forall_mem_cons.mpr ⟨mCa5_8, List.forall_mem_cons.mpr ⟨mCa5_9, List.forall_mem_cons.mpr ⟨mCa5_10, List.forall_mem_cons.mpr ⟨mCa5_11, List.forall_mem_cons.mpr ⟨mCa5_12, List.forall_mem_cons.mpr ⟨mCa5_13, List.forall_mem_cons.mpr ⟨mCa5_14, List.forall_mem_cons.mpr ⟨mCa5_15, List.forall_mem_cons.mpr ⟨mCa5_16, List.forall_mem_cons.mpr ⟨mCa5_17, List.forall_mem_cons.mpr ⟨mCa5_18, List.forall_mem_cons.mpr ⟨mCa5_19, List.forall_mem_cons.mpr ⟨mCa5_20, List.forall_mem_cons.mpr ⟨mCa5_21, List.forall_mem_cons.mpr ⟨mCa5_22, List.forall_mem_cons.mpr ⟨mCa5_23, List.forall_mem_cons.mpr ⟨mCa5_24, List.forall_mem_cons.mpr ⟨mCa5_25, List.forall_mem_cons.mpr ⟨mCa5_26, List.forall_mem_cons.mpr ⟨mCa5_27, List.forall_mem_cons.mpr ⟨mCa5_28, List.forall_mem_cons.mpr ⟨mCa5_29, List.forall_mem_cons.mpr ⟨mCa5_30, List.forall_mem_cons.mpr ⟨mCa5_31, List.forall_mem_cons.mpr ⟨mCa5_32, List.forall_mem_cons.mpr ⟨mCa5_33, List.forall_mem_cons.mpr ⟨mCa5_34, List.forall_mem_cons.mpr ⟨mCa5_35, fun _ h => absurd h List.not_mem_nil⟩⟩⟩⟩⟩⟩⟩⟩⟩⟩⟩⟩⟩⟩⟩⟩⟩⟩⟩⟩⟩⟩⟩⟩⟩⟩⟩⟩⟩⟩⟩⟩⟩⟩⟩⟩
theorem mCa6_0 : mCaOk 6 (15, 2, mX4_init) := ⟨mJ_X4_init, ⟨mG_t (by decide +kernel) (List.mem_of_getElem? (i := 19) (by decide +kernel)), mG_t (by decide +kernel) (List.mem_of_getElem? (i := 20) (by decide +kernel)), rfl⟩⟩
theorem mCa6_1 : mCaOk 6 (19, 1, mX4_feed) := ⟨mJ_X4_feed, ⟨mG_t (by decide +kernel) (List.mem_of_getElem? (i := 226) (by decide +kernel)), mG_t (by decide +kernel) (List.mem_of_getElem? (i := 227) (by decide +kernel)), mG_t (by decide +kernel) (List.mem_of_getElem? (i := 228) (by decide +kernel))⟩⟩
theorem mCa6_2 : mCaOk 6 (24, 1, mX4_end) := ⟨mJ_X4_end, ⟨mG_t (by decide +kernel) (List.mem_of_getElem? (i := 234) (by decide +kernel)), mG_t (by decide +kernel) (List.mem_of_getElem? (i := 235) (by decide +kernel)), mG_t (by decide +kernel) (List.mem_of_getElem? (i := 236) (by decide +kernel))⟩⟩
theorem mCa6_3 : mCaOk 6 (29, 1, mX4_tell) := ⟨mJ_X4_tell, ⟨mG_t (by decide +kernel) (List.mem_of_getElem? (i := 238) (by decide +kernel)), mG_t (by decide +kernel) (List.mem_of_getElem? (i := 239) (by decide +kernel)), mG_t (by decide +kernel) (List.mem_of_getElem? (i := 240) (by decide +kernel))⟩⟩
theorem mCa6_4 : mCaOk 6 (34, 1, mX4_fault) := ⟨mJ_X4_fault, ⟨mG_t (by decide +kernel) (List.mem_of_getElem? (i := 440) (by decide +kernel)), mG_t (by decide +kernel) (List.mem_of_getElem? (i := 441) (by decide +kernel)), mG_t (by decide +kernel) (List.mem_of_getElem? (i := 442) (by decide +kernel))⟩⟩
theorem mCa6_5 : mCaOk 6 (38, 1, mX4_group) := ⟨mJ_X4_group, ⟨mG_t (by decide +kernel) (List.mem_of_getElem? (i := 444) (by decide +kernel)), mG_t (by decide +kernel) (List.mem_of_getElem? (i := 445) (by decide +kernel)), mG_t (by decide +kernel) (List.mem_of_getElem? (i := 446) (by decide +kernel))⟩⟩
theorem mCa6_6 : mCaOk 6 (43, 1, mX4_load) := ⟨mJ_X4_load, ⟨mG_t (by decide +kernel) (List.mem_of_getElem? (i := 452) (by decide +kernel)), mG_t (by decide +kernel) (List.mem_of_getElem? (i := 453) (by decide +kernel)), mG_t (by decide +kernel) (List.mem_of_getElem? (i := 454) (by decide +kernel))⟩⟩
theorem mCa6_7 : mCaOk 6 (48, 1, mX4_set) := ⟨mJ_X4_set, ⟨mG_t (by decide +kernel) (List.mem_of_getElem? (i := 456) (by decide +kernel)), mG_t (by decide +kernel) (List.mem_of_getElem? (i := 457) (by decide +kernel)), mG_t (by decide +kernel) (List.mem_of_getElem? (i := 458) (by decide +kernel))⟩⟩
theorem mCa6_8 : mCaOk 6 (52, 1, mX4_camp) := ⟨mJ_X4_camp, ⟨mG_t (by decide +kernel) (List.mem_of_getElem? (i := 465) (by decide +kernel)), mG_t (by decide +kernel) (List.mem_of_getElem? (i := 466) (by decide +kernel)), mG_t (by decide +kernel) (List.mem_of_getElem? (i := 467) (by decide +kernel))⟩⟩
theorem mCa6_9 : mCaOk 6 (56, 1, mX4_strike) := ⟨mJ_X4_strike, ⟨mG_t (by decide +kernel) (List.mem_of_getElem? (i := 476) (by decide +kernel)), mG_t (by decide +kernel) (List.mem_of_getElem? (i := 477) (by decide +kernel)), mG_t (by decide +kernel) (List.mem_of_getElem? (i := 478) (by decide +kernel))⟩⟩
theorem mCa6_10 : mCaOk 6 (61, 1, mX4_plan) := ⟨mJ_X4_plan, ⟨mG_t (by decide +kernel) (List.mem_of_getElem? (i := 488) (by decide +kernel)), mG_t (by decide +kernel) (List.mem_of_getElem? (i := 489) (by decide +kernel)), mG_t (by decide +kernel) (List.mem_of_getElem? (i := 490) (by decide +kernel))⟩⟩
theorem mCa6_11 : mCaOk 6 (66, 1, mX4_undo) := ⟨mJ_X4_undo, ⟨mG_t (by decide +kernel) (List.mem_of_getElem? (i := 501) (by decide +kernel)), mG_t (by decide +kernel) (List.mem_of_getElem? (i := 502) (by decide +kernel)), mG_t (by decide +kernel) (List.mem_of_getElem? (i := 503) (by decide +kernel))⟩⟩
theorem mCa6_12 : mCaOk 6 (70, 1, mX4_count) := ⟨mJ_X4_count, ⟨mG_t (by decide +kernel) (List.mem_of_getElem? (i := 505) (by decide +kernel)), mG_t (by decide +kernel) (List.mem_of_getElem? (i := 506) (by decide +kernel)), mG_t (by decide +kernel) (List.mem_of_getElem? (i := 507) (by decide +kernel))⟩⟩
theorem mCa6_13 : mCaOk 6 (83, 1, mX4_day) := ⟨mJ_X4_day, ⟨mG_t (by decide +kernel) (List.mem_of_getElem? (i := 513) (by decide +kernel)), mG_t (by decide +kernel) (List.mem_of_getElem? (i := 514) (by decide +kernel)), mG_t (by decide +kernel) (List.mem_of_getElem? (i := 515) (by decide +kernel))⟩⟩
theorem mCa6_14 : mCaOk 6 (88, 1, mX4_form) := ⟨mJ_X4_form, ⟨mG_t (by decide +kernel) (List.mem_of_getElem? (i := 564) (by decide +kernel)), mG_t (by decide +kernel) (List.mem_of_getElem? (i := 565) (by decide +kernel)), mG_t (by decide +kernel) (List.mem_of_getElem? (i := 566) (by decide +kernel))⟩⟩
theorem mCa6_15 : mCaOk 6 (92, 1, mX4_week) := ⟨mJ_X4_week, ⟨mG_t (by decide +kernel) (List.mem_of_getElem? (i := 577) (by decide +kernel)), mG_t (by decide +kernel) (List.mem_of_getElem? (i := 578) (by decide +kernel)), mG_t (by decide +kernel) (List.mem_of_getElem? (i := 579) (by decide +kernel))⟩⟩
theorem mCa6_16 : mCaOk 6 (96, 1, mX4_injured) := ⟨mJ_X4_injured, ⟨mG_t (by decide +kernel) (List.mem_of_getElem? (i := 581) (by decide +kernel)), mG_t (by decide +kernel) (List.mem_of_getElem? (i := 582) (by decide +kernel)), mG_t (by decide +kernel) (List.mem_of_getElem? (i := 583) (by decide +kernel))⟩⟩
theorem mCa6_17 : mCaOk 6 (100, 1, mX4_peak) := ⟨mJ_X4_peak, ⟨mG_t (by decide +kernel) (List.mem_of_getElem? (i := 585) (by decide +kernel)), mG_t (by decide +kernel) (List.mem_of_getElem? (i := 586) (by decide +kernel)), mG_t (by decide +kernel) (List.mem_of_getElem? (i := 587) (by decide +kernel))⟩⟩
theorem mCa6_18 : mCaOk 6 (104, 1, mX4_taper) := ⟨mJ_X4_taper, ⟨mG_t (by decide +kernel) (List.mem_of_getElem? (i := 589) (by decide +kernel)), mG_t (by decide +kernel) (List.mem_of_getElem? (i := 590) (by decide +kernel)), mG_t (by decide +kernel) (List.mem_of_getElem? (i := 591) (by decide +kernel))⟩⟩
theorem mCa6_19 : mCaOk 6 (108, 1, mX4_best) := ⟨mJ_X4_best, ⟨mG_t (by decide +kernel) (List.mem_of_getElem? (i := 594) (by decide +kernel)), mG_t (by decide +kernel) (List.mem_of_getElem? (i := 595) (by decide +kernel)), mG_t (by decide +kernel) (List.mem_of_getElem? (i := 596) (by decide +kernel))⟩⟩
theorem mCa6_20 : mCaOk 6 (112, 1, mX4_team) := ⟨mJ_X4_team, ⟨mG_t (by decide +kernel) (List.mem_of_getElem? (i := 608) (by decide +kernel)), mG_t (by decide +kernel) (List.mem_of_getElem? (i := 609) (by decide +kernel)), mG_t (by decide +kernel) (List.mem_of_getElem? (i := 610) (by decide +kernel))⟩⟩
theorem mCa6_21 : mCaOk 6 (116, 1, mX4_safe) := ⟨mJ_X4_safe, ⟨mG_t (by decide +kernel) (List.mem_of_getElem? (i := 616) (by decide +kernel)), mG_t (by decide +kernel) (List.mem_of_getElem? (i := 617) (by decide +kernel)), mG_t (by decide +kernel) (List.mem_of_getElem? (i := 618) (by decide +kernel))⟩⟩
theorem mCa6_22 : mCaOk 6 (120, 1, mX4_row) := ⟨mJ_X4_row, ⟨mG_t (by decide +kernel) (List.mem_of_getElem? (i := 621) (by decide +kernel)), mG_t (by decide +kernel) (List.mem_of_getElem? (i := 622) (by decide +kernel)), mG_t (by decide +kernel) (List.mem_of_getElem? (i := 623) (by decide +kernel))⟩⟩
theorem mCa6_23 : mCaOk 6 (124, 1, mX4_swap) := ⟨mJ_X4_swap, ⟨mG_t (by decide +kernel) (List.mem_of_getElem? (i := 626) (by decide +kernel)), mG_t (by decide +kernel) (List.mem_of_getElem? (i := 627) (by decide +kernel)), mG_t (by decide +kernel) (List.mem_of_getElem? (i := 628) (by decide +kernel))⟩⟩
theorem mCa6_24 : mCaOk 6 (128, 1, mX4_without) := ⟨mJ_X4_without, ⟨mG_t (by decide +kernel) (List.mem_of_getElem? (i := 630) (by decide +kernel)), mG_t (by decide +kernel) (List.mem_of_getElem? (i := 631) (by decide +kernel)), mG_t (by decide +kernel) (List.mem_of_getElem? (i := 632) (by decide +kernel))⟩⟩
theorem mCa6_25 : mCaOk 6 (132, 1, mX4_ahead) := ⟨mJ_X4_ahead, ⟨mG_t (by decide +kernel) (List.mem_of_getElem? (i := 634) (by decide +kernel)), mG_t (by decide +kernel) (List.mem_of_getElem? (i := 635) (by decide +kernel)), mG_t (by decide +kernel) (List.mem_of_getElem? (i := 636) (by decide +kernel))⟩⟩
theorem mCa6_26 : mCaOk 6 (7, 1, mX4_camped) := ⟨mJ_X4_camped, ⟨mG_t (by decide +kernel) (List.mem_of_getElem? (i := 642) (by decide +kernel)), mG_t (by decide +kernel) (List.mem_of_getElem? (i := 643) (by decide +kernel)), mG_t (by decide +kernel) (List.mem_of_getElem? (i := 644) (by decide +kernel))⟩⟩
theorem mCa6_27 : mCaOk 6 (18, 2, mX5_init) := ⟨mJ_X5_init, ⟨mG_t (by decide +kernel) (List.mem_of_getElem? (i := 713) (by decide +kernel)), mG_t (by decide +kernel) (List.mem_of_getElem? (i := 714) (by decide +kernel)), rfl⟩⟩
theorem mCa6_28 : mCaOk 6 (80, 1, mX5_thrown) := ⟨mJ_X5_thrown, ⟨mG_t (by decide +kernel) (List.mem_of_getElem? (i := 799) (by decide +kernel)), mG_t (by decide +kernel) (List.mem_of_getElem? (i := 800) (by decide +kernel)), mG_t (by decide +kernel) (List.mem_of_getElem? (i := 801) (by decide +kernel))⟩⟩
theorem mCa6_29 : mCaOk 6 (42, 1, mX5_group) := ⟨mJ_X5_group, ⟨mG_t (by decide +kernel) (List.mem_of_getElem? (i := 803) (by decide +kernel)), mG_t (by decide +kernel) (List.mem_of_getElem? (i := 804) (by decide +kernel)), mG_t (by decide +kernel) (List.mem_of_getElem? (i := 805) (by decide +kernel))⟩⟩
theorem mCa6_30 : mCaOk 6 (47, 1, mX5_load) := ⟨mJ_X5_load, ⟨mG_t (by decide +kernel) (List.mem_of_getElem? (i := 822) (by decide +kernel)), mG_t (by decide +kernel) (List.mem_of_getElem? (i := 823) (by decide +kernel)), mG_t (by decide +kernel) (List.mem_of_getElem? (i := 824) (by decide +kernel))⟩⟩
theorem mCa6_31 : mCaOk 6 (51, 1, mX5_set) := ⟨mJ_X5_set, ⟨mG_t (by decide +kernel) (List.mem_of_getElem? (i := 826) (by decide +kernel)), mG_t (by decide +kernel) (List.mem_of_getElem? (i := 827) (by decide +kernel)), mG_t (by decide +kernel) (List.mem_of_getElem? (i := 828) (by decide +kernel))⟩⟩
theorem mCa6_32 : mCaOk 6 (55, 1, mX5_camp) := ⟨mJ_X5_camp, ⟨mG_t (by decide +kernel) (List.mem_of_getElem? (i := 837) (by decide +kernel)), mG_t (by decide +kernel) (List.mem_of_getElem? (i := 838) (by decide +kernel)), mG_t (by decide +kernel) (List.mem_of_getElem? (i := 839) (by decide +kernel))⟩⟩
theorem mCa6_33 : mCaOk 6 (60, 1, mX5_strike) := ⟨mJ_X5_strike, ⟨mG_t (by decide +kernel) (List.mem_of_getElem? (i := 852) (by decide +kernel)), mG_t (by decide +kernel) (List.mem_of_getElem? (i := 853) (by decide +kernel)), mG_t (by decide +kernel) (List.mem_of_getElem? (i := 854) (by decide +kernel))⟩⟩
theorem mCa6_34 : mCaOk 6 (65, 1, mX5_plan) := ⟨mJ_X5_plan, ⟨mG_t (by decide +kernel) (List.mem_of_getElem? (i := 860) (by decide +kernel)), mG_t (by decide +kernel) (List.mem_of_getElem? (i := 861) (by decide +kernel)), mG_t (by decide +kernel) (List.mem_of_getElem? (i := 862) (by decide +kernel))⟩⟩
theorem mCa6_35 : mCaOk 6 (69, 1, mX5_undo) := ⟨mJ_X5_undo, ⟨mG_t (by decide +kernel) (List.mem_of_getElem? (i := 880) (by decide +kernel)), mG_t (by decide +kernel) (List.mem_of_getElem? (i := 881) (by decide +kernel)), mG_t (by decide +kernel) (List.mem_of_getElem? (i := 882) (by decide +kernel))⟩⟩
theorem mCa6_36 : mCaOk 6 (73, 1, mX5_count) := ⟨mJ_X5_count, ⟨mG_t (by decide +kernel) (List.mem_of_getElem? (i := 884) (by decide +kernel)), mG_t (by decide +kernel) (List.mem_of_getElem? (i := 885) (by decide +kernel)), mG_t (by decide +kernel) (List.mem_of_getElem? (i := 886) (by decide +kernel))⟩⟩
theorem mCa6_37 : mCaOk 6 (79, 1, mX5_camped) := ⟨mJ_X5_camped, ⟨mG_t (by decide +kernel) (List.mem_of_getElem? (i := 888) (by decide +kernel)), mG_t (by decide +kernel) (List.mem_of_getElem? (i := 889) (by decide +kernel)), mG_t (by decide +kernel) (List.mem_of_getElem? (i := 890) (by decide +kernel))⟩⟩
theorem mCa6_38 : mCaOk 6 (23, 1, mX5_feed) := ⟨mJ_X5_feed, ⟨mG_t (by decide +kernel) (List.mem_of_getElem? (i := 892) (by decide +kernel)), mG_t (by decide +kernel) (List.mem_of_getElem? (i := 893) (by decide +kernel)), mG_t (by decide +kernel) (List.mem_of_getElem? (i := 894) (by decide +kernel))⟩⟩
theorem mCa6_39 : mCaOk 6 (28, 1, mX5_end) := ⟨mJ_X5_end, ⟨mG_t (by decide +kernel) (List.mem_of_getElem? (i := 900) (by decide +kernel)), mG_t (by decide +kernel) (List.mem_of_getElem? (i := 901) (by decide +kernel)), mG_t (by decide +kernel) (List.mem_of_getElem? (i := 902) (by decide +kernel))⟩⟩
theorem mCa6_40 : mCaOk 6 (33, 1, mX5_tell) := ⟨mJ_X5_tell, ⟨mG_t (by decide +kernel) (List.mem_of_getElem? (i := 904) (by decide +kernel)), mG_t (by decide +kernel) (List.mem_of_getElem? (i := 905) (by decide +kernel)), mG_t (by decide +kernel) (List.mem_of_getElem? (i := 906) (by decide +kernel))⟩⟩
theorem mCa6_41 : mCaOk 6 (37, 1, mX5_fault) := ⟨mJ_X5_fault, ⟨mG_t (by decide +kernel) (List.mem_of_getElem? (i := 954) (by decide +kernel)), mG_t (by decide +kernel) (List.mem_of_getElem? (i := 955) (by decide +kernel)), mG_t (by decide +kernel) (List.mem_of_getElem? (i := 956) (by decide +kernel))⟩⟩
theorem mCa6_42 : mCaOk 6 (87, 1, mX5_day) := ⟨mJ_X5_day, ⟨mG_t (by decide +kernel) (List.mem_of_getElem? (i := 958) (by decide +kernel)), mG_t (by decide +kernel) (List.mem_of_getElem? (i := 959) (by decide +kernel)), mG_t (by decide +kernel) (List.mem_of_getElem? (i := 960) (by decide +kernel))⟩⟩
theorem mCa6_43 : mCaOk 6 (91, 1, mX5_form) := ⟨mJ_X5_form, ⟨mG_t (by decide +kernel) (List.mem_of_getElem? (i := 978) (by decide +kernel)), mG_t (by decide +kernel) (List.mem_of_getElem? (i := 979) (by decide +kernel)), mG_t (by decide +kernel) (List.mem_of_getElem? (i := 980) (by decide +kernel))⟩⟩
theorem mCa6_44 : mCaOk 6 (95, 1, mX5_week) := ⟨mJ_X5_week, ⟨mG_t (by decide +kernel) (List.mem_of_getElem? (i := 991) (by decide +kernel)), mG_t (by decide +kernel) (List.mem_of_getElem? (i := 992) (by decide +kernel)), mG_t (by decide +kernel) (List.mem_of_getElem? (i := 993) (by decide +kernel))⟩⟩
theorem mCa6_45 : mCaOk 6 (99, 1, mX5_injured) := ⟨mJ_X5_injured, ⟨mG_t (by decide +kernel) (List.mem_of_getElem? (i := 995) (by decide +kernel)), mG_t (by decide +kernel) (List.mem_of_getElem? (i := 996) (by decide +kernel)), mG_t (by decide +kernel) (List.mem_of_getElem? (i := 997) (by decide +kernel))⟩⟩
theorem mCa6_46 : mCaOk 6 (103, 1, mX5_peak) := ⟨mJ_X5_peak, ⟨mG_t (by decide +kernel) (List.mem_of_getElem? (i := 999) (by decide +kernel)), mG_t (by decide +kernel) (List.mem_of_getElem? (i := 1000) (by decide +kernel)), mG_t (by decide +kernel) (List.mem_of_getElem? (i := 1001) (by decide +kernel))⟩⟩
theorem mCa6_47 : mCaOk 6 (107, 1, mX5_taper) := ⟨mJ_X5_taper, ⟨mG_t (by decide +kernel) (List.mem_of_getElem? (i := 1003) (by decide +kernel)), mG_t (by decide +kernel) (List.mem_of_getElem? (i := 1004) (by decide +kernel)), mG_t (by decide +kernel) (List.mem_of_getElem? (i := 1005) (by decide +kernel))⟩⟩
theorem mCa6_48 : mCaOk 6 (111, 1, mX5_best) := ⟨mJ_X5_best, ⟨mG_t (by decide +kernel) (List.mem_of_getElem? (i := 1015) (by decide +kernel)), mG_t (by decide +kernel) (List.mem_of_getElem? (i := 1016) (by decide +kernel)), mG_t (by decide +kernel) (List.mem_of_getElem? (i := 1017) (by decide +kernel))⟩⟩
theorem mCa6_49 : mCaOk 6 (115, 1, mX5_team) := ⟨mJ_X5_team, ⟨mG_t (by decide +kernel) (List.mem_of_getElem? (i := 1023) (by decide +kernel)), mG_t (by decide +kernel) (List.mem_of_getElem? (i := 1024) (by decide +kernel)), mG_t (by decide +kernel) (List.mem_of_getElem? (i := 1025) (by decide +kernel))⟩⟩
theorem mCa6_50 : mCaOk 6 (119, 1, mX5_safe) := ⟨mJ_X5_safe, ⟨mG_t (by decide +kernel) (List.mem_of_getElem? (i := 1027) (by decide +kernel)), mG_t (by decide +kernel) (List.mem_of_getElem? (i := 1028) (by decide +kernel)), mG_t (by decide +kernel) (List.mem_of_getElem? (i := 1029) (by decide +kernel))⟩⟩
theorem mCa6_51 : mCaOk 6 (123, 1, mX5_row) := ⟨mJ_X5_row, ⟨mG_t (by decide +kernel) (List.mem_of_getElem? (i := 1031) (by decide +kernel)), mG_t (by decide +kernel) (List.mem_of_getElem? (i := 1032) (by decide +kernel)), mG_t (by decide +kernel) (List.mem_of_getElem? (i := 1033) (by decide +kernel))⟩⟩
theorem mCa6_52 : mCaOk 6 (127, 1, mX5_swap) := ⟨mJ_X5_swap, ⟨mG_t (by decide +kernel) (List.mem_of_getElem? (i := 1035) (by decide +kernel)), mG_t (by decide +kernel) (List.mem_of_getElem? (i := 1036) (by decide +kernel)), mG_t (by decide +kernel) (List.mem_of_getElem? (i := 1037) (by decide +kernel))⟩⟩
theorem mCa6_53 : mCaOk 6 (131, 1, mX5_without) := ⟨mJ_X5_without, ⟨mG_t (by decide +kernel) (List.mem_of_getElem? (i := 1039) (by decide +kernel)), mG_t (by decide +kernel) (List.mem_of_getElem? (i := 1040) (by decide +kernel)), mG_t (by decide +kernel) (List.mem_of_getElem? (i := 1041) (by decide +kernel))⟩⟩
theorem mCa6_54 : mCaOk 6 (135, 1, mX5_ahead) := ⟨mJ_X5_ahead, ⟨mG_t (by decide +kernel) (List.mem_of_getElem? (i := 1043) (by decide +kernel)), mG_t (by decide +kernel) (List.mem_of_getElem? (i := 1044) (by decide +kernel)), mG_t (by decide +kernel) (List.mem_of_getElem? (i := 1045) (by decide +kernel))⟩⟩
theorem mCaA6 : ∀ q ∈ mCa 6, mCaOk 6 q := List.forall_mem_cons.mpr ⟨mCa6_0, List.forall_mem_cons.mpr ⟨mCa6_1, List.forall_mem_cons.mpr ⟨mCa6_2, List.forall_mem_cons.mpr ⟨mCa6_3, List.forall_mem_cons.mpr ⟨mCa6_4, List.forall_mem_cons.mpr ⟨mCa6_5, List.forall_mem_cons.mpr ⟨mCa6_6, List.forall_mem_cons.mpr ⟨mCa6_7, List.forall_mem_cons.mpr ⟨mCa6_8, List.forall_mem_cons.mpr ⟨mCa6_9, List.forall_mem_cons.mpr ⟨mCa6_10, List.forall_mem_cons.mpr ⟨mCa6_11, List.forall_mem_cons.mpr ⟨mCa6_12, List.forall_mem_cons.mpr ⟨mCa6_13, List.forall_mem_cons.mpr ⟨mCa6_14, List.forall_mem_cons.mpr ⟨mCa6_15, List.forall_mem_cons.mpr ⟨mCa6_16, List.forall_mem_cons.mpr ⟨mCa6_17, List.forall_mem_cons.mpr ⟨mCa6_18, List.forall_mem_cons.mpr ⟨mCa6_19, List.forall_mem_cons.mpr ⟨mCa6_20, List.forall_mem_cons.mpr ⟨mCa6_21, List.forall_mem_cons.mpr ⟨mCa6_22, List.forall_mem_cons.mpr ⟨mCa6_23, List.forall_mem_cons.mpr ⟨mCa6_24, List.forall_mem_cons.mpr ⟨mCa6_25, List.forall_mem_cons.mpr ⟨mCa6_26, List.forall_mem_cons.mpr ⟨mCa6_27, List.forall_mem_cons.mpr ⟨mCa6_28, List.forall_mem_cons.mpr ⟨mCa6_29, List.forall_mem_cons.mpr ⟨mCa6_30, List.forall_mem_cons.mpr ⟨mCa6_31, List.forall_mem_cons.mpr ⟨mCa6_32, List.forall_mem_cons.mpr ⟨mCa6_33, List.forall_mem_cons.mpr ⟨mCa6_34, List.forall_mem_cons.mpr ⟨mCa6_35, List.forall_mem_cons.mpr ⟨mCa6_36, List.forall_mem_cons.mpr ⟨mCa6_37, List.forall_mem_cons.mpr ⟨mCa6_38, List.forall_mem_cons.mpr ⟨mCa6_39, List.forall_mem_cons.mpr ⟨mCa6_40, List.forall_mem_cons.mpr ⟨mCa6_41, List.forall_mem_cons.mpr ⟨mCa6_42, List.forall_mem_cons.mpr ⟨mCa6_43, List.forall_mem_cons.mpr ⟨mCa6_44, List.forall_mem_cons.mpr ⟨mCa6_45, List.forall_mem_cons.mpr ⟨mCa6_46, List.forall_mem_cons.mpr ⟨mCa6_47, List.forall_mem_cons.mpr ⟨mCa6_48, List.forall_mem_cons.mpr ⟨mCa6_49, List.forall_mem_cons.mpr ⟨mCa6_50, List.forall_mem_cons.mpr ⟨mCa6_51, List.forall_mem_cons.mpr ⟨mCa6_52, List.forall_mem_cons.mpr ⟨mCa6_53, List.forall_mem_cons.mpr ⟨mCa6_54, fun _ h => absurd h List.not_mem_nil⟩⟩⟩⟩⟩⟩⟩⟩⟩⟩⟩⟩⟩⟩⟩⟩⟩⟩⟩⟩⟩⟩⟩⟩⟩⟩⟩⟩⟩⟩⟩⟩⟩⟩⟩⟩⟩⟩⟩⟩⟩⟩⟩⟩⟩⟩⟩⟩⟩⟩⟩⟩⟩⟩⟩
theorem mCa_ok : ∀ (o : Nat), ∀ q ∈ mCa o, mCaOk o q := fun o => match o with
  | 0 => mCaA0
  | 1 => mCaA1
  | 2 => mCaA2
  | 3 => fun _ h => absurd h List.not_mem_nil
  | 4 => mCaA4
  | 5 => mCaA5
  | 6 => mCaA6
  | n + 7 => fun _ h => absurd h List.not_mem_nil
def mLiOk (o : Nat) (q : Nat × Nat) : Prop := match q.2 with
  | 0 => Cond.methodLink (mOwn.getD o "") q.1 Lib.objectInit ∈ mGood
  | 1 => Cond.methodLink (mOwn.getD o "") q.1 Lib.Math.min.name ∈ mGood
  | 2 => Cond.methodLink (mOwn.getD o "") q.1 Lib.Math.max.name ∈ mGood
  | 3 => Cond.methodLink (mOwn.getD o "") q.1 arraycopyName ∈ mGood
  | _ => False
theorem mLi0_0 : mLiOk 0 (3, 0) := mG_t (by decide +kernel) (List.mem_of_getElem? (i := 154) (by decide +kernel))
theorem mLi0_1 : mLiOk 0 (46, 3) := mG_t (by decide +kernel) (List.mem_of_getElem? (i := 521) (by decide +kernel))
theorem mLi0_2 : mLiOk 0 (94, 1) := mG_t (by decide +kernel) (List.mem_of_getElem? (i := 542) (by decide +kernel))
theorem mLi0_3 : mLiOk 0 (106, 2) := mG_t (by decide +kernel) (List.mem_of_getElem? (i := 554) (by decide +kernel))
theorem mLiA0 : ∀ q ∈ mLi 0, mLiOk 0 q := List.forall_mem_cons.mpr ⟨mLi0_0, List.forall_mem_cons.mpr ⟨mLi0_1, List.forall_mem_cons.mpr ⟨mLi0_2, List.forall_mem_cons.mpr ⟨mLi0_3, fun _ h => absurd h List.not_mem_nil⟩⟩⟩⟩
theorem mLi1_0 : mLiOk 1 (3, 0) := mG_t (by decide +kernel) (List.mem_of_getElem? (i := 90) (by decide +kernel))
theorem mLiA1 : ∀ q ∈ mLi 1, mLiOk 1 q := List.forall_mem_cons.mpr ⟨mLi1_0, fun _ h => absurd h List.not_mem_nil⟩
theorem mLi2_0 : mLiOk 2 (3, 0) := mG_t (by decide +kernel) (List.mem_of_getElem? (i := 84) (by decide +kernel))
theorem mLiA2 : ∀ q ∈ mLi 2, mLiOk 2 q := List.forall_mem_cons.mpr ⟨mLi2_0, fun _ h => absurd h List.not_mem_nil⟩
theorem mLi3_0 : mLiOk 3 (3, 0) := mG_t (by decide +kernel) (List.mem_of_getElem? (i := 30) (by decide +kernel))
theorem mLi3_1 : mLiOk 3 (37, 3) := mG_t (by decide +kernel) (List.mem_of_getElem? (i := 353) (by decide +kernel))
theorem mLiA3 : ∀ q ∈ mLi 3, mLiOk 3 q := List.forall_mem_cons.mpr ⟨mLi3_0, List.forall_mem_cons.mpr ⟨mLi3_1, fun _ h => absurd h List.not_mem_nil⟩⟩
theorem mLi4_0 : mLiOk 4 (1, 0) := mG_t (by decide +kernel) (List.mem_of_getElem? (i := 22) (by decide +kernel))
theorem mLi4_1 : mLiOk 4 (186, 1) := mG_t (by decide +kernel) (List.mem_of_getElem? (i := 437) (by decide +kernel))
theorem mLi4_2 : mLiOk 4 (210, 2) := mG_t (by decide +kernel) (List.mem_of_getElem? (i := 625) (by decide +kernel))
theorem mLiA4 : ∀ q ∈ mLi 4, mLiOk 4 q := List.forall_mem_cons.mpr ⟨mLi4_0, List.forall_mem_cons.mpr ⟨mLi4_1, List.forall_mem_cons.mpr ⟨mLi4_2, fun _ h => absurd h List.not_mem_nil⟩⟩⟩
theorem mLi5_0 : mLiOk 5 (1, 0) := mG_t (by decide +kernel) (List.mem_of_getElem? (i := 716) (by decide +kernel))
theorem mLiA5 : ∀ q ∈ mLi 5, mLiOk 5 q := List.forall_mem_cons.mpr ⟨mLi5_0, fun _ h => absurd h List.not_mem_nil⟩
theorem mLi_ok : ∀ (o : Nat), ∀ q ∈ mLi o, mLiOk o q := fun o => match o with
  | 0 => mLiA0
  | 1 => mLiA1
  | 2 => mLiA2
  | 3 => mLiA3
  | 4 => mLiA4
  | 5 => mLiA5
  | n + 6 => fun _ h => absurd h List.not_mem_nil
theorem mW_oi : Cond.instanceMethod Lib.objectInit ∈ mGood := mG_t (by decide +kernel) (List.mem_of_getElem? (i := 23) (by decide +kernel))
theorem mW_oc : Cond.code Lib.objectInit ⟨#[0xb1]⟩ 1 none ∈ mGood := mG_t (by decide +kernel) (List.mem_of_getElem? (i := 24) (by decide +kernel))
theorem mW_mins : Cond.static Lib.Math.min.name ∈ mGood := mG_t (by decide +kernel) (List.mem_of_getElem? (i := 438) (by decide +kernel))
theorem mW_minc : Cond.code Lib.Math.min.name Lib.Math.min.code 2 (some .int) ∈ mGood := mG_t (by decide +kernel) (List.mem_of_getElem? (i := 439) (by decide +kernel))
theorem mW_maxs : Cond.static Lib.Math.max.name ∈ mGood := mG_t (by decide +kernel) (List.mem_of_getElem? (i := 555) (by decide +kernel))
theorem mW_maxc : Cond.code Lib.Math.max.name Lib.Math.max.code 2 (some .int) ∈ mGood := mG_t (by decide +kernel) (List.mem_of_getElem? (i := 556) (by decide +kernel))
theorem mW_math : Cond.initialized "java/lang/Math" ∈ mGood := mG_t (by decide +kernel) (List.mem_of_getElem? (i := 12) (by decide +kernel))
theorem mW_sys : Cond.initialized "java/lang/System" ∈ mGood := mG_t (by decide +kernel) (List.mem_of_getElem? (i := 11) (by decide +kernel))
theorem mW_acn : Cond.native arraycopyName ∈ mGood := mG_t (by decide +kernel) (List.mem_of_getElem? (i := 355) (by decide +kernel))
theorem mW_acs : Cond.static arraycopyName ∈ mGood := mG_t (by decide +kernel) (List.mem_of_getElem? (i := 354) (by decide +kernel))
theorem mW_aint : Cond.arrayClass .int ∈ mGood := mG_t (by decide +kernel) (List.mem_of_getElem? (i := 77) (by decide +kernel))
theorem mW_abyte : Cond.arrayClass .byte ∈ mGood := mG_t (by decide +kernel) (List.mem_of_getElem? (i := 115) (by decide +kernel))
theorem mW_aboolean : Cond.arrayClass .boolean ∈ mGood := mG_t (by decide +kernel) (List.mem_of_getElem? (i := 200) (by decide +kernel))
theorem mW_along : Cond.arrayClass .long ∈ mGood := mG_t (by decide +kernel) (List.mem_of_getElem? (i := 1047) (by decide +kernel))
theorem mCo_ok : ∀ (o : Nat), ∀ q ∈ mCo o, Cond.constant (mOwn.getD o "") q.1 q.2 ∈ mGood := fun o => match o with
  | 0 => fun _ h => absurd h List.not_mem_nil
  | 1 => fun _ h => absurd h List.not_mem_nil
  | 2 => fun _ h => absurd h List.not_mem_nil
  | 3 => fun _ h => absurd h List.not_mem_nil
  | 4 => List.forall_mem_cons.mpr ⟨mG_t (by decide +kernel) (List.mem_of_getElem? (i := 568) (by decide +kernel)), fun _ h => absurd h List.not_mem_nil⟩
  | 5 => List.forall_mem_cons.mpr ⟨mG_t (by decide +kernel) (List.mem_of_getElem? (i := 990) (by decide +kernel)), fun _ h => absurd h List.not_mem_nil⟩
  | n + 6 => fun _ h => absurd h List.not_mem_nil
def mNwOk (o : Nat) (q : Nat × Nat) : Prop := ∃ r : vw_C, mCl[q.2]? = some r ∧ Cond.classLink (mOwn.getD o "") q.1 r.1 ∈ mGood ∧ Cond.instantiable r.1 r.2.2 ∈ mGood ∧ Cond.initialized r.1 ∈ mGood
theorem mNw2_0 : mNwOk 2 (9, 1) := ⟨_, rfl, mG_t (by decide +kernel) (List.mem_of_getElem? (i := 85) (by decide +kernel)), mG_t (by decide +kernel) (List.mem_of_getElem? (i := 86) (by decide +kernel)), mG_t (by decide +kernel) (List.mem_of_getElem? (i := 4) (by decide +kernel))⟩
theorem mNw2_1 : mNwOk 2 (18, 3) := ⟨_, rfl, mG_t (by decide +kernel) (List.mem_of_getElem? (i := 116) (by decide +kernel)), mG_t (by decide +kernel) (List.mem_of_getElem? (i := 26) (by decide +kernel)), mG_t (by decide +kernel) (List.mem_of_getElem? (i := 2) (by decide +kernel))⟩
theorem mNwA2 : ∀ q ∈ mNw 2, mNwOk 2 q := List.forall_mem_cons.mpr ⟨mNw2_0, List.forall_mem_cons.mpr ⟨mNw2_1, fun _ h => absurd h List.not_mem_nil⟩⟩
theorem mNw4_0 : mNwOk 4 (7, 3) := ⟨_, rfl, mG_t (by decide +kernel) (List.mem_of_getElem? (i := 25) (by decide +kernel)), mG_t (by decide +kernel) (List.mem_of_getElem? (i := 26) (by decide +kernel)), mG_t (by decide +kernel) (List.mem_of_getElem? (i := 2) (by decide +kernel))⟩
theorem mNw4_1 : mNwOk 4 (20, 2) := ⟨_, rfl, mG_t (by decide +kernel) (List.mem_of_getElem? (i := 79) (by decide +kernel)), mG_t (by decide +kernel) (List.mem_of_getElem? (i := 80) (by decide +kernel)), mG_t (by decide +kernel) (List.mem_of_getElem? (i := 3) (by decide +kernel))⟩
theorem mNw4_2 : mNwOk 4 (27, 0) := ⟨_, rfl, mG_t (by decide +kernel) (List.mem_of_getElem? (i := 149) (by decide +kernel)), mG_t (by decide +kernel) (List.mem_of_getElem? (i := 150) (by decide +kernel)), mG_t (by decide +kernel) (List.mem_of_getElem? (i := 5) (by decide +kernel))⟩
theorem mNwA4 : ∀ q ∈ mNw 4, mNwOk 4 q := List.forall_mem_cons.mpr ⟨mNw4_0, List.forall_mem_cons.mpr ⟨mNw4_1, List.forall_mem_cons.mpr ⟨mNw4_2, fun _ h => absurd h List.not_mem_nil⟩⟩⟩
theorem mNw6_0 : mNwOk 6 (8, 4) := ⟨_, rfl, mG_t (by decide +kernel) (List.mem_of_getElem? (i := 17) (by decide +kernel)), mG_t (by decide +kernel) (List.mem_of_getElem? (i := 18) (by decide +kernel)), mG_t (by decide +kernel) (List.mem_of_getElem? (i := 1) (by decide +kernel))⟩
theorem mNw6_1 : mNwOk 6 (16, 5) := ⟨_, rfl, mG_t (by decide +kernel) (List.mem_of_getElem? (i := 711) (by decide +kernel)), mG_t (by decide +kernel) (List.mem_of_getElem? (i := 712) (by decide +kernel)), mG_t (by decide +kernel) (List.mem_of_getElem? (i := 6) (by decide +kernel))⟩
theorem mNwA6 : ∀ q ∈ mNw 6, mNwOk 6 q := List.forall_mem_cons.mpr ⟨mNw6_0, List.forall_mem_cons.mpr ⟨mNw6_1, fun _ h => absurd h List.not_mem_nil⟩⟩
theorem mNw_ok : ∀ (o : Nat), ∀ q ∈ mNw o, mNwOk o q := fun o => match o with
  | 0 => fun _ h => absurd h List.not_mem_nil
  | 1 => fun _ h => absurd h List.not_mem_nil
  | 2 => mNwA2
  | 3 => fun _ h => absurd h List.not_mem_nil
  | 4 => mNwA4
  | 5 => fun _ h => absurd h List.not_mem_nil
  | 6 => mNwA6
  | n + 7 => fun _ h => absurd h List.not_mem_nil
def mGsN : Nat → String := fun k => if k = 0 then "LEAST_SETTINGS" else "MOST_SETTINGS"
def mGsOk (o : Nat) (q : Nat × Nat × Bool) : Prop := q.2.1 < 2 ∧ if q.2.2 = true then Cond.fieldLinkNest (mOwn.getD o "") q.1 RX4 (mGsN q.2.1) "[I" RX4 ∈ tables_1 else Cond.fieldLink (mOwn.getD o "") q.1 RX4 (mGsN q.2.1) "[I" ∈ tables_1
theorem mGs_ok : ∀ (o : Nat), ∀ q ∈ mGs o, mGsOk o q := fun o => match o with
  | 0 => fun _ h => absurd h List.not_mem_nil
  | 1 => fun _ h => absurd h List.not_mem_nil
  | 2 => List.forall_mem_cons.mpr ⟨⟨by decide, List.mem_of_getElem? (i := 400) (by decide +kernel)⟩, List.forall_mem_cons.mpr ⟨⟨by decide, List.mem_of_getElem? (i := 402) (by decide +kernel)⟩, fun _ h => absurd h List.not_mem_nil⟩⟩
  | 3 => fun _ h => absurd h List.not_mem_nil
  | 4 => List.forall_mem_cons.mpr ⟨⟨by decide, List.mem_of_getElem? (i := 463) (by decide +kernel)⟩, List.forall_mem_cons.mpr ⟨⟨by decide, List.mem_of_getElem? (i := 464) (by decide +kernel)⟩, fun _ h => absurd h List.not_mem_nil⟩⟩
  | 5 => fun _ h => absurd h List.not_mem_nil
  | 6 => fun _ h => absurd h List.not_mem_nil
  | n + 7 => fun _ h => absurd h List.not_mem_nil
end
section
/-! ===== the small machine: a rule an instruction ===== -/
section RU
variable {G : mG} {I : mI} {d mc ms pc : Nat} {lo : List (Option Value)} {st : List Value} {μ : List va_E} {ex : Bool} {nc ns : Nat} {Q : mQ}
theorem T_iconst {n : Int} {v : Int32} (hd : decode I.2.1 pc = .ok (.iconst n, 1)) (hv : Int32.ofInt n = v) (k : mT G I d mc ms (pc + 1) lo (.int v :: st) μ ex nc ns Q) : mT G I d mc ms pc lo st μ ex nc ns Q := by
  intro p e s m args below meth c H locs ls F hP hS hX hl hn hc
  exact lv_iconst F.1 F.2.1 hd hv (k p e s m args below meth c H locs ls F hP hS hX hl hn hc)
theorem T_bipush {n : Int} {v : Int32} (hd : decode I.2.1 pc = .ok (.bipush n, 2)) (hv : (Int8.ofInt n).toInt32 = v) (k : mT G I d mc ms (pc + 2) lo (.int v :: st) μ ex nc ns Q) : mT G I d mc ms pc lo st μ ex nc ns Q := by
  intro p e s m args below meth c H locs ls F hP hS hX hl hn hc
  exact lv_bipush F.1 F.2.1 hd hv (k p e s m args below meth c H locs ls F hP hS hX hl hn hc)
theorem T_sipush {n : Int} {v : Int32} (hd : decode I.2.1 pc = .ok (.sipush n, 3)) (hv : (Int16.ofInt n).toInt32 = v) (k : mT G I d mc ms (pc + 3) lo (.int v :: st) μ ex nc ns Q) : mT G I d mc ms pc lo st μ ex nc ns Q := by
  intro p e s m args below meth c H locs ls F hP hS hX hl hn hc
  exact lv_sipush F.1 F.2.1 hd hv (k p e s m args below meth c H locs ls F hP hS hX hl hn hc)
theorem T_iload_n {k0 : Fin 4} {x : Int32} (hd : decode I.2.1 pc = .ok (.iload_n k0, 1)) (hx : lo[(k0 : Nat)]? = some (some (.int x))) (k : mT G I d mc ms (pc + 1) lo (.int x :: st) μ ex nc ns Q) : mT G I d mc ms pc lo st μ ex nc ns Q := by
  intro p e s m args below meth c H locs ls F hP hS hX hl hn hc
  exact lv_iload_n F.1 F.2.1 hd rfl (mPr_at hl hx) (k p e s m args below meth c H locs ls F hP hS hX hl hn hc)
theorem T_iload {i : Nat} {x : Int32} (hd : decode I.2.1 pc = .ok (.iload i, 2)) (hx : lo[i]? = some (some (.int x))) (k : mT G I d mc ms (pc + 2) lo (.int x :: st) μ ex nc ns Q) : mT G I d mc ms pc lo st μ ex nc ns Q := by
  intro p e s m args below meth c H locs ls F hP hS hX hl hn hc
  exact lv_iload F.1 F.2.1 hd (mPr_at hl hx) (k p e s m args below meth c H locs ls F hP hS hX hl hn hc)
theorem T_aload_n {k0 : Fin 4} {x : Nat} (hd : decode I.2.1 pc = .ok (.aload_n k0, 1)) (hx : lo[(k0 : Nat)]? = some (some (.ref x))) (k : mT G I d mc ms (pc + 1) lo (.ref x :: st) μ ex nc ns Q) : mT G I d mc ms pc lo st μ ex nc ns Q := by
  intro p e s m args below meth c H locs ls F hP hS hX hl hn hc
  exact lv_aload_n F.1 F.2.1 hd rfl (mPr_at hl hx) (k p e s m args below meth c H locs ls F hP hS hX hl hn hc)
theorem T_aload {i : Nat} {x : Nat} (hd : decode I.2.1 pc = .ok (.aload i, 2)) (hx : lo[i]? = some (some (.ref x))) (k : mT G I d mc ms (pc + 2) lo (.ref x :: st) μ ex nc ns Q) : mT G I d mc ms pc lo st μ ex nc ns Q := by
  intro p e s m args below meth c H locs ls F hP hS hX hl hn hc
  exact lv_aload F.1 F.2.1 hd (mPr_at hl hx) (k p e s m args below meth c H locs ls F hP hS hX hl hn hc)
theorem T_iadd {x y : Int32} (hd : decode I.2.1 pc = .ok (.iadd, 1))  (k : mT G I d mc ms (pc + 1) lo (.int (x + y) :: st) μ ex nc ns Q) : mT G I d mc ms pc lo (.int y :: .int x :: st) μ ex nc ns Q := by
  intro p e s m args below meth c H locs ls F hP hS hX hl hn hc
  exact lv_iadd F.1 F.2.1 hd (k p e s m args below meth c H locs ls F hP hS hX hl hn hc)
theorem T_isub {x y : Int32} (hd : decode I.2.1 pc = .ok (.isub, 1))  (k : mT G I d mc ms (pc + 1) lo (.int (x - y) :: st) μ ex nc ns Q) : mT G I d mc ms pc lo (.int y :: .int x :: st) μ ex nc ns Q := by
  intro p e s m args below meth c H locs ls F hP hS hX hl hn hc
  exact lv_isub F.1 F.2.1 hd (k p e s m args below meth c H locs ls F hP hS hX hl hn hc)
theorem T_imul {x y : Int32} (hd : decode I.2.1 pc = .ok (.imul, 1))  (k : mT G I d mc ms (pc + 1) lo (.int (x * y) :: st) μ ex nc ns Q) : mT G I d mc ms pc lo (.int y :: .int x :: st) μ ex nc ns Q := by
  intro p e s m args below meth c H locs ls F hP hS hX hl hn hc
  exact lv_imul F.1 F.2.1 hd (k p e s m args below meth c H locs ls F hP hS hX hl hn hc)
theorem T_iand {x y : Int32} (hd : decode I.2.1 pc = .ok (.iand, 1))  (k : mT G I d mc ms (pc + 1) lo (.int (x &&& y) :: st) μ ex nc ns Q) : mT G I d mc ms pc lo (.int y :: .int x :: st) μ ex nc ns Q := by
  intro p e s m args below meth c H locs ls F hP hS hX hl hn hc
  exact lv_iand F.1 F.2.1 hd (k p e s m args below meth c H locs ls F hP hS hX hl hn hc)
theorem T_ior {x y : Int32} (hd : decode I.2.1 pc = .ok (.ior, 1))  (k : mT G I d mc ms (pc + 1) lo (.int (x ||| y) :: st) μ ex nc ns Q) : mT G I d mc ms pc lo (.int y :: .int x :: st) μ ex nc ns Q := by
  intro p e s m args below meth c H locs ls F hP hS hX hl hn hc
  exact lv_ior F.1 F.2.1 hd (k p e s m args below meth c H locs ls F hP hS hX hl hn hc)
theorem T_ishl {x y : Int32} (hd : decode I.2.1 pc = .ok (.ishl, 1))  (k : mT G I d mc ms (pc + 1) lo (.int (x <<< (y &&& 31)) :: st) μ ex nc ns Q) : mT G I d mc ms pc lo (.int y :: .int x :: st) μ ex nc ns Q := by
  intro p e s m args below meth c H locs ls F hP hS hX hl hn hc
  exact lv_ishl F.1 F.2.1 hd (k p e s m args below meth c H locs ls F hP hS hX hl hn hc)
theorem T_ishr {x y : Int32} (hd : decode I.2.1 pc = .ok (.ishr, 1))  (k : mT G I d mc ms (pc + 1) lo (.int (x >>> (y &&& 31)) :: st) μ ex nc ns Q) : mT G I d mc ms pc lo (.int y :: .int x :: st) μ ex nc ns Q := by
  intro p e s m args below meth c H locs ls F hP hS hX hl hn hc
  exact lv_ishr F.1 F.2.1 hd (k p e s m args below meth c H locs ls F hP hS hX hl hn hc)
theorem T_idiv {x y : Int32} (hd : decode I.2.1 pc = .ok (.idiv, 1)) (hne : ¬ y = 0) (k : mT G I d mc ms (pc + 1) lo (.int (x / y) :: st) μ ex nc ns Q) : mT G I d mc ms pc lo (.int y :: .int x :: st) μ ex nc ns Q := by
  intro p e s m args below meth c H locs ls F hP hS hX hl hn hc
  exact lv_idiv F.1 F.2.1 hd hne (k p e s m args below meth c H locs ls F hP hS hX hl hn hc)
theorem T_irem {x y : Int32} (hd : decode I.2.1 pc = .ok (.irem, 1)) (hne : ¬ y = 0) (k : mT G I d mc ms (pc + 1) lo (.int (x - x / y * y) :: st) μ ex nc ns Q) : mT G I d mc ms pc lo (.int y :: .int x :: st) μ ex nc ns Q := by
  intro p e s m args below meth c H locs ls F hP hS hX hl hn hc
  exact lv_irem F.1 F.2.1 hd hne (k p e s m args below meth c H locs ls F hP hS hX hl hn hc)
theorem T_i2b {x : Int32} (hd : decode I.2.1 pc = .ok (.i2b, 1))  (k : mT G I d mc ms (pc + 1) lo (.int x.toInt8.toInt32 :: st) μ ex nc ns Q) : mT G I d mc ms pc lo (.int x :: st) μ ex nc ns Q := by
  intro p e s m args below meth c H locs ls F hP hS hX hl hn hc
  exact lv_i2b F.1 F.2.1 hd rfl (k p e s m args below meth c H locs ls F hP hS hX hl hn hc)
theorem T_i2l {x : Int32} (hd : decode I.2.1 pc = .ok (.i2l, 1))  (k : mT G I d mc ms (pc + 1) lo (.long x.toInt64 :: st) μ ex nc ns Q) : mT G I d mc ms pc lo (.int x :: st) μ ex nc ns Q := by
  intro p e s m args below meth c H locs ls F hP hS hX hl hn hc
  exact lv_i2l F.1 F.2.1 hd rfl (k p e s m args below meth c H locs ls F hP hS hX hl hn hc)
theorem T_lcmp {x y : Int64} (hd : decode I.2.1 pc = .ok (.lcmp, 1)) (k : mT G I d mc ms (pc + 1) lo (.int (lg_cmp x y) :: st) μ ex nc ns Q) : mT G I d mc ms pc lo (.long y :: .long x :: st) μ ex nc ns Q := by
  intro p e s m args below meth c H locs ls F hP hS hX hl hn hc
  exact W.lcmp F.1 F.2.1 hd (k p e s m args below meth c H locs ls F hP hS hX hl hn hc)
theorem T_dup {v : Value} (hd : decode I.2.1 pc = .ok (.dup, 1)) (hv : v.category = 1) (k : mT G I d mc ms (pc + 1) lo (v :: v :: st) μ ex nc ns Q) : mT G I d mc ms pc lo (v :: st) μ ex nc ns Q := by
  intro p e s m args below meth c H locs ls F hP hS hX hl hn hc
  exact lv_dup F.1 F.2.1 hd ((mTr_cat G v).trans hv) (k p e s m args below meth c H locs ls F hP hS hX hl hn hc)
theorem T_dup2 {v w : Value} (hd : decode I.2.1 pc = .ok (.dup2, 1)) (hv : v.category = 1) (hw : w.category = 1) (k : mT G I d mc ms (pc + 1) lo (v :: w :: v :: w :: st) μ ex nc ns Q) : mT G I d mc ms pc lo (v :: w :: st) μ ex nc ns Q := by
  intro p e s m args below meth c H locs ls F hP hS hX hl hn hc
  exact lv_dup2_11 F.1 F.2.1 hd ((mTr_cat G v).trans hv) ((mTr_cat G w).trans hw) (k p e s m args below meth c H locs ls F hP hS hX hl hn hc)
theorem T_pop {v : Value} (hd : decode I.2.1 pc = .ok (.pop, 1)) (hv : v.category = 1) (k : mT G I d mc ms (pc + 1) lo st μ ex nc ns Q) : mT G I d mc ms pc lo (v :: st) μ ex nc ns Q := by
  intro p e s m args below meth c H locs ls F hP hS hX hl hn hc
  exact lv_pop F.1 F.2.1 hd ((mTr_cat G v).trans hv) (k p e s m args below meth c H locs ls F hP hS hX hl hn hc)
theorem T_istore_n {k0 : Fin 4} {x : Int32} (hd : decode I.2.1 pc = .ok (.istore_n k0, 1)) (hi : (k0 : Nat) < lo.length) (k : mT G I d mc ms (pc + 1) (lo.set (k0 : Nat) (some (.int x))) st μ ex nc ns Q) : mT G I d mc ms pc lo (.int x :: st) μ ex nc ns Q := by
  intro p e s m args below meth c H locs ls F hP hS hX hl hn hc
  exact lv_istore_n F.1 F.2.1 hd rfl hl (by rw [← hn]; exact hi) rfl (fun ls2 hl2 => k p e s m args below meth c H locs ls2 F hP hS hX (mPr_set hc hi hl2) (by rw [List.length_set]; exact hn) (mCat_set hc rfl))
theorem T_istore {i : Nat} {x : Int32} (hd : decode I.2.1 pc = .ok (.istore i, 2)) (hi : i < lo.length) (k : mT G I d mc ms (pc + 2) (lo.set i (some (.int x))) st μ ex nc ns Q) : mT G I d mc ms pc lo (.int x :: st) μ ex nc ns Q := by
  intro p e s m args below meth c H locs ls F hP hS hX hl hn hc
  exact lv_istore F.1 F.2.1 hd hl (by rw [← hn]; exact hi) rfl (fun ls2 hl2 => k p e s m args below meth c H locs ls2 F hP hS hX (mPr_set hc hi hl2) (by rw [List.length_set]; exact hn) (mCat_set hc rfl))
theorem T_astore_n {k0 : Fin 4} {x : Nat} (hd : decode I.2.1 pc = .ok (.astore_n k0, 1)) (hi : (k0 : Nat) < lo.length) (k : mT G I d mc ms (pc + 1) (lo.set (k0 : Nat) (some (.ref x))) st μ ex nc ns Q) : mT G I d mc ms pc lo (.ref x :: st) μ ex nc ns Q := by
  intro p e s m args below meth c H locs ls F hP hS hX hl hn hc
  exact lv_astore_n F.1 F.2.1 hd rfl hl (by rw [← hn]; exact hi) rfl (fun ls2 hl2 => k p e s m args below meth c H locs ls2 F hP hS hX (mPr_set hc hi hl2) (by rw [List.length_set]; exact hn) (mCat_set hc rfl))
theorem T_astore {i : Nat} {x : Nat} (hd : decode I.2.1 pc = .ok (.astore i, 2)) (hi : i < lo.length) (k : mT G I d mc ms (pc + 2) (lo.set i (some (.ref x))) st μ ex nc ns Q) : mT G I d mc ms pc lo (.ref x :: st) μ ex nc ns Q := by
  intro p e s m args below meth c H locs ls F hP hS hX hl hn hc
  exact lv_astore F.1 F.2.1 hd hl (by rw [← hn]; exact hi) rfl (fun ls2 hl2 => k p e s m args below meth c H locs ls2 F hP hS hX (mPr_set hc hi hl2) (by rw [List.length_set]; exact hn) (mCat_set hc rfl))
theorem T_iinc {i : Nat} {n : Int} {x v : Int32} (hd : decode I.2.1 pc = .ok (.iinc i n, 3)) (hx : lo[i]? = some (some (.int x))) (hv : x + Int32.ofInt n = v) (k : mT G I d mc ms (pc + 3) (lo.set i (some (.int v))) st μ ex nc ns Q) : mT G I d mc ms pc lo st μ ex nc ns Q := by
  intro p e s m args below meth c H locs ls F hP hS hX hl hn hc
  have hi : i < lo.length := (List.getElem?_eq_some_iff.mp hx).1
  obtain ⟨j, hj⟩ := List.getElem?_of_mem (mPr_mem (G := G) hx)
  exact lv_iinc F.1 F.2.1 hd hl hj hv (by rw [← hn]; exact hi) rfl (fun ls2 hl2 => k p e s m args below meth c H locs ls2 F hP hS hX (mPr_set hc hi hl2) (by rw [List.length_set]; exact hn) (mCat_set hc rfl))
theorem T_goto {off : Int} {tgt : Nat} (hd : decode I.2.1 pc = .ok (.goto off, 3)) (ht : (pc : Int) + off = (tgt : Int)) (k : mT G I d mc ms tgt lo st μ ex nc ns Q) : mT G I d mc ms pc lo st μ ex nc ns Q := by
  intro p e s m args below meth c H locs ls F hP hS hX hl hn hc
  exact lv_goto F.1 F.2.1 hd ht (k p e s m args below meth c H locs ls F hP hS hX hl hn hc)
theorem T_icmp_eq {x y : Int32} {off : Int} {tgt : Nat} (hd : decode I.2.1 pc = .ok (.if_icmp .eq off, 3)) (ht : (pc : Int) + off = (tgt : Int)) (kt : x = y → mT G I d mc ms tgt lo st μ ex nc ns Q) (kf : ¬ x = y → mT G I d mc ms (pc + 3) lo st μ ex nc ns Q) : mT G I d mc ms pc lo (.int y :: .int x :: st) μ ex nc ns Q := by
  intro p e s m args below meth c H locs ls F hP hS hX hl hn hc
  exact lv_icmp_eq F.1 F.2.1 hd ht (fun h => kt h p e s m args below meth c H locs ls F hP hS hX hl hn hc) (fun h => kf h p e s m args below meth c H locs ls F hP hS hX hl hn hc)
theorem T_if_eq {x : Int32} {off : Int} {tgt : Nat} (hd : decode I.2.1 pc = .ok (.ifCond .eq off, 3)) (ht : (pc : Int) + off = (tgt : Int)) (kt : x = 0 → mT G I d mc ms tgt lo st μ ex nc ns Q) (kf : ¬ x = 0 → mT G I d mc ms (pc + 3) lo st μ ex nc ns Q) : mT G I d mc ms pc lo (.int x :: st) μ ex nc ns Q := by
  intro p e s m args below meth c H locs ls F hP hS hX hl hn hc
  exact lv_if_eq F.1 F.2.1 hd ht (fun h => kt h p e s m args below meth c H locs ls F hP hS hX hl hn hc) (fun h => kf h p e s m args below meth c H locs ls F hP hS hX hl hn hc)
theorem T_icmp_ne {x y : Int32} {off : Int} {tgt : Nat} (hd : decode I.2.1 pc = .ok (.if_icmp .ne off, 3)) (ht : (pc : Int) + off = (tgt : Int)) (kt : ¬ x = y → mT G I d mc ms tgt lo st μ ex nc ns Q) (kf : x = y → mT G I d mc ms (pc + 3) lo st μ ex nc ns Q) : mT G I d mc ms pc lo (.int y :: .int x :: st) μ ex nc ns Q := by
  intro p e s m args below meth c H locs ls F hP hS hX hl hn hc
  exact lv_icmp_ne F.1 F.2.1 hd ht (fun h => kt h p e s m args below meth c H locs ls F hP hS hX hl hn hc) (fun h => kf h p e s m args below meth c H locs ls F hP hS hX hl hn hc)
theorem T_if_ne {x : Int32} {off : Int} {tgt : Nat} (hd : decode I.2.1 pc = .ok (.ifCond .ne off, 3)) (ht : (pc : Int) + off = (tgt : Int)) (kt : ¬ x = 0 → mT G I d mc ms tgt lo st μ ex nc ns Q) (kf : x = 0 → mT G I d mc ms (pc + 3) lo st μ ex nc ns Q) : mT G I d mc ms pc lo (.int x :: st) μ ex nc ns Q := by
  intro p e s m args below meth c H locs ls F hP hS hX hl hn hc
  exact lv_if_ne F.1 F.2.1 hd ht (fun h => kt h p e s m args below meth c H locs ls F hP hS hX hl hn hc) (fun h => kf h p e s m args below meth c H locs ls F hP hS hX hl hn hc)
theorem T_icmp_lt {x y : Int32} {off : Int} {tgt : Nat} (hd : decode I.2.1 pc = .ok (.if_icmp .lt off, 3)) (ht : (pc : Int) + off = (tgt : Int)) (kt : x < y → mT G I d mc ms tgt lo st μ ex nc ns Q) (kf : ¬ x < y → mT G I d mc ms (pc + 3) lo st μ ex nc ns Q) : mT G I d mc ms pc lo (.int y :: .int x :: st) μ ex nc ns Q := by
  intro p e s m args below meth c H locs ls F hP hS hX hl hn hc
  exact lv_icmp_lt F.1 F.2.1 hd ht (fun h => kt h p e s m args below meth c H locs ls F hP hS hX hl hn hc) (fun h => kf h p e s m args below meth c H locs ls F hP hS hX hl hn hc)
theorem T_if_lt {x : Int32} {off : Int} {tgt : Nat} (hd : decode I.2.1 pc = .ok (.ifCond .lt off, 3)) (ht : (pc : Int) + off = (tgt : Int)) (kt : x < 0 → mT G I d mc ms tgt lo st μ ex nc ns Q) (kf : ¬ x < 0 → mT G I d mc ms (pc + 3) lo st μ ex nc ns Q) : mT G I d mc ms pc lo (.int x :: st) μ ex nc ns Q := by
  intro p e s m args below meth c H locs ls F hP hS hX hl hn hc
  exact lv_if_lt F.1 F.2.1 hd ht (fun h => kt h p e s m args below meth c H locs ls F hP hS hX hl hn hc) (fun h => kf h p e s m args below meth c H locs ls F hP hS hX hl hn hc)
theorem T_icmp_ge {x y : Int32} {off : Int} {tgt : Nat} (hd : decode I.2.1 pc = .ok (.if_icmp .ge off, 3)) (ht : (pc : Int) + off = (tgt : Int)) (kt : y ≤ x → mT G I d mc ms tgt lo st μ ex nc ns Q) (kf : ¬ y ≤ x → mT G I d mc ms (pc + 3) lo st μ ex nc ns Q) : mT G I d mc ms pc lo (.int y :: .int x :: st) μ ex nc ns Q := by
  intro p e s m args below meth c H locs ls F hP hS hX hl hn hc
  exact lv_icmp_ge F.1 F.2.1 hd ht (fun h => kt h p e s m args below meth c H locs ls F hP hS hX hl hn hc) (fun h => kf h p e s m args below meth c H locs ls F hP hS hX hl hn hc)
theorem T_if_ge {x : Int32} {off : Int} {tgt : Nat} (hd : decode I.2.1 pc = .ok (.ifCond .ge off, 3)) (ht : (pc : Int) + off = (tgt : Int)) (kt : 0 ≤ x → mT G I d mc ms tgt lo st μ ex nc ns Q) (kf : ¬ 0 ≤ x → mT G I d mc ms (pc + 3) lo st μ ex nc ns Q) : mT G I d mc ms pc lo (.int x :: st) μ ex nc ns Q := by
  intro p e s m args below meth c H locs ls F hP hS hX hl hn hc
  exact lv_if_ge F.1 F.2.1 hd ht (fun h => kt h p e s m args below meth c H locs ls F hP hS hX hl hn hc) (fun h => kf h p e s m args below meth c H locs ls F hP hS hX hl hn hc)
theorem T_icmp_gt {x y : Int32} {off : Int} {tgt : Nat} (hd : decode I.2.1 pc = .ok (.if_icmp .gt off, 3)) (ht : (pc : Int) + off = (tgt : Int)) (kt : y < x → mT G I d mc ms tgt lo st μ ex nc ns Q) (kf : ¬ y < x → mT G I d mc ms (pc + 3) lo st μ ex nc ns Q) : mT G I d mc ms pc lo (.int y :: .int x :: st) μ ex nc ns Q := by
  intro p e s m args below meth c H locs ls F hP hS hX hl hn hc
  exact lv_icmp_gt F.1 F.2.1 hd ht (fun h => kt h p e s m args below meth c H locs ls F hP hS hX hl hn hc) (fun h => kf h p e s m args below meth c H locs ls F hP hS hX hl hn hc)
theorem T_if_gt {x : Int32} {off : Int} {tgt : Nat} (hd : decode I.2.1 pc = .ok (.ifCond .gt off, 3)) (ht : (pc : Int) + off = (tgt : Int)) (kt : 0 < x → mT G I d mc ms tgt lo st μ ex nc ns Q) (kf : ¬ 0 < x → mT G I d mc ms (pc + 3) lo st μ ex nc ns Q) : mT G I d mc ms pc lo (.int x :: st) μ ex nc ns Q := by
  intro p e s m args below meth c H locs ls F hP hS hX hl hn hc
  exact lv_if_gt F.1 F.2.1 hd ht (fun h => kt h p e s m args below meth c H locs ls F hP hS hX hl hn hc) (fun h => kf h p e s m args below meth c H locs ls F hP hS hX hl hn hc)
theorem T_icmp_le {x y : Int32} {off : Int} {tgt : Nat} (hd : decode I.2.1 pc = .ok (.if_icmp .le off, 3)) (ht : (pc : Int) + off = (tgt : Int)) (kt : x ≤ y → mT G I d mc ms tgt lo st μ ex nc ns Q) (kf : ¬ x ≤ y → mT G I d mc ms (pc + 3) lo st μ ex nc ns Q) : mT G I d mc ms pc lo (.int y :: .int x :: st) μ ex nc ns Q := by
  intro p e s m args below meth c H locs ls F hP hS hX hl hn hc
  exact lv_icmp_le F.1 F.2.1 hd ht (fun h => kt h p e s m args below meth c H locs ls F hP hS hX hl hn hc) (fun h => kf h p e s m args below meth c H locs ls F hP hS hX hl hn hc)
theorem T_if_le {x : Int32} {off : Int} {tgt : Nat} (hd : decode I.2.1 pc = .ok (.ifCond .le off, 3)) (ht : (pc : Int) + off = (tgt : Int)) (kt : x ≤ 0 → mT G I d mc ms tgt lo st μ ex nc ns Q) (kf : ¬ x ≤ 0 → mT G I d mc ms (pc + 3) lo st μ ex nc ns Q) : mT G I d mc ms pc lo (.int x :: st) μ ex nc ns Q := by
  intro p e s m args below meth c H locs ls F hP hS hX hl hn hc
  exact lv_if_le F.1 F.2.1 hd ht (fun h => kt h p e s m args below meth c H locs ls F hP hS hX hl hn hc) (fun h => kf h p e s m args below meth c H locs ls F hP hS hX hl hn hc)
theorem T_tableIn {dflt l0 hi : Int} {offs : Array Int} {len : Nat} {x : Int32} {off : Int} {tgt : Nat} (hd : decode I.2.1 pc = .ok (.tableswitch dflt l0 hi offs, len)) (h1 : ¬ x.toInt < l0) (h2 : ¬ hi < x.toInt) (ho : offs[(x.toInt - l0).toNat]? = some off) (ht : (pc : Int) + off = (tgt : Int)) (k : mT G I d mc ms tgt lo st μ ex nc ns Q) : mT G I d mc ms pc lo (.int x :: st) μ ex nc ns Q := by
  intro p e s m args below meth c H locs ls F hP hS hX hl hn hc
  exact lv_tableIn F.1 F.2.1 hd h1 h2 ho ht (k p e s m args below meth c H locs ls F hP hS hX hl hn hc)
theorem T_tableOut {dflt l0 hi : Int} {offs : Array Int} {len : Nat} {x : Int32} {tgt : Nat} (hd : decode I.2.1 pc = .ok (.tableswitch dflt l0 hi offs, len)) (h : x.toInt < l0 ∨ hi < x.toInt) (ht : (pc : Int) + dflt = (tgt : Int)) (k : mT G I d mc ms tgt lo st μ ex nc ns Q) : mT G I d mc ms pc lo (.int x :: st) μ ex nc ns Q := by
  intro p e s m args below meth c H locs ls F hP hS hX hl hn hc
  exact lv_tableOut F.1 F.2.1 hd h ht (k p e s m args below meth c H locs ls F hP hS hX hl hn hc)
theorem T_lookup {dflt : Int} {ps : Array (Int × Int)} {len : Nat} {x : Int32} {off : Int} {tgt : Nat} (hd : decode I.2.1 pc = .ok (.lookupswitch dflt ps, len)) (hp : (ps.toList.zip (ps.toList.drop 1)).all (fun (a, next) => a.1 < next.1) = true) (ho : Op.lookupswitch.offset ps.toList dflt x.toInt = off) (ht : (pc : Int) + off = (tgt : Int)) (k : mT G I d mc ms tgt lo st μ ex nc ns Q) : mT G I d mc ms pc lo (.int x :: st) μ ex nc ns Q := by
  intro p e s m args below meth c H locs ls F hP hS hX hl hn hc
  exact lv_lookup F.1 F.2.1 hd hp ho ht (k p e s m args below meth c H locs ls F hP hS hX hl hn hc)
theorem mFix.own {p : Program} {s : State} {m : MethodId} {args : Array Value} {meth : Method} {c : Code} (F : mFix G I p s m args meth c) (ho : mOwn.getD I.2.2.2.2.1 "" = I.1.cls) : s.vm.findClass (mOwn.getD I.2.2.2.2.1 "") = some m.cls := by rw [ho]; exact F.2.2.2.2.2.1
theorem mFix.ts {p : Program} {s : State} {m : MethodId} {args : Array Value} {meth : Method} {c : Code} (F : mFix G I p s m args meth c) : ∀ w ∈ mGood, w.before args s = true := F.2.2.2.2.2.2.2.1
theorem mFix.wd {p : Program} {s : State} {m : MethodId} {args : Array Value} {meth : Method} {c : Code} (F : mFix G I p s m args meth c) : mWd G s := F.2.2.2.2.2.2.2.2
theorem mFix.nest {p : Program} {s : State} {m : MethodId} {args : Array Value} {meth : Method} {c : Code} (F : mFix G I p s m args meth c) {w : Cond} (h : w ∈ tables_1) (hw : mIsNest w = true) (ht : w.onTables = true) : w.before args s = true := va_Nw.use ht (F.wd.2.1 w h hw)
theorem mLk {α : Type} {l : List (Nat × α)} {i : Nat} {x : α} (h : l.lookup i = some x) : (i, x) ∈ l := by
  induction l with
  | nil => simp at h
  | cons a t ih =>
    obtain ⟨j, y⟩ := a
    by_cases hj : i = j
    · subst hj
      simp at h
      subst h
      exact List.mem_cons_self
    · have hb : (i == j) = false := by simp [hj]
      rw [List.lookup_cons, hb] at h
      exact List.mem_cons_of_mem _ (ih h)
theorem T_ldc {i : Nat} {v : Int32} (hd : decode I.2.1 pc = .ok (.ldc i, 2)) (ho : mOwn.getD I.2.2.2.2.1 "" = I.1.cls) (hf : (mCo I.2.2.2.2.1).lookup i = some v) (k : mT G I d mc ms (pc + 2) lo (.int v :: st) μ ex nc ns Q) : mT G I d mc ms pc lo st μ ex nc ns Q := by
  intro p e s m args below meth c H locs ls F hP hS hX hl hn hc
  exact lv_ldc F.1 F.2.1 (F.own ho) (F.ts _ (mCo_ok _ _ (mLk hf))) hd (k p e s m args below meth c H locs ls F hP hS hX hl hn hc)
theorem T_get {a i ci k0 : Nat} {nest : Bool} {fs : List Value} {v : Value} (hd : decode I.2.1 pc = .ok (.getfield i, 3)) (ho : mOwn.getD I.2.2.2.2.1 "" = I.1.cls) (hf : (mFl I.2.2.2.2.1).lookup i = some (ci, k0, nest)) (ha : μ[a]? = some (.inr (ci, fs))) (hv : fs[k0]? = some v) (k : mT G I d mc ms (pc + 3) lo (v :: st) μ ex nc ns Q) : mT G I d mc ms pc lo (.ref (a + 3) :: st) μ ex nc ns Q := by
  intro p e s m args below meth c H locs ls F hP hS hX hl hn hc
  obtain ⟨r, hr, hk, hw⟩ := mFl_ok _ _ (mLk hf)
  obtain ⟨hin, -⟩ := mCl_ok _ _ hr
  have he : (mWs G μ)[a]? = some (mAd G (a + 3), .inr (ci, fs.map (mTr G))) := by rw [mAd_c]; exact mWs_at ha
  have hv' : (fs.map (mTr G))[k0]? = some (mTr G v) := by rw [List.getElem?_map, hv]; rfl
  cases nest with
  | false => exact va_get F.1 F.2.1 F.ts hin (F.own ho) F.wd.1 hP a he hr k0 hk (F.ts _ (mG_t rfl hw)) (fun _ h9 => h9) hv' hd (k p e s m args below meth c H locs ls F hP hS hX hl hn hc)
  | true => exact va_getN F.1 F.2.1 F.ts hin (F.own ho) F.wd.1 hP a he hr k0 hk (F.nest hw rfl rfl) (fun _ h9 => h9) hv' hd (k p e s m args below meth c H locs ls F hP hS hX hl hn hc)
theorem mSetP {a : Nat} {e : va_E} {H : Heap} (h : va_P (gD G) mCl ((mWs G μ).set a (mAd G (a + 3), mTrE G e)) H) : va_P (gD G) mCl (mWs G (μ.set a e)) H := by rw [mWs_set, ← mAd_c]; exact h
theorem mHS {A : Nat → Prop} {H0 H : Heap} {locs : List Loc} (hS : va_S A H0 H locs) : va_S A H H locs := ⟨Nat.le_refl _, fun _ _ _ => rfl, hS.2.2⟩
theorem mHS2 {A : Nat → Prop} {H0 H H1 : Heap} {locs locs1 : List Loc} (hS : va_S A H0 H locs) (h : va_S A H H1 locs1) : va_S A H0 H1 locs1 := ⟨Nat.le_trans hS.1 h.1, fun q h1 h2 => (h.2.1 q (Nat.lt_of_lt_of_le h1 hS.1) h2).trans (hS.2.1 q h1 h2), h.2.2⟩
theorem mWsz {p : Program} {l : Launch} {e : Env} {R : Room} {s : State} {m : MethodId} {args : Array Value} {below : List Frame} {meth : Method} {c : Code} {H : Heap} {locs : List Loc} {cells slots : Nat} {Qs : State → Prop} {g : JFrame} (k : H.size ≤ s.heap.size + cells → W p l e R s m args below meth c H locs cells slots Qs g) : W p l e R s m args below meth c H locs cells slots Qs g := fun T hT X => k (hT ▸ X.heapSize) T hT X
theorem mSz {s : State} {H H1 : Heap} {locs1 : List Loc} {n1 : Nat} (hX : ex = true → H.size = gB G + μ.length ∧ H.size = s.heap.size + nc) (h1 : va_S (mA G) H H1 locs1) (hz : H1.size ≤ s.heap.size + nc) (hn1 : n1 = μ.length) : ex = true → H1.size = gB G + n1 ∧ H1.size = s.heap.size + nc := fun h => by
  have a := hX h
  have b := h1.1
  subst hn1
  omega
/-- a field of a number -/
theorem T_put {a i ci k0 : Nat} {nest : Bool} {fs : List Value} {x : Int32} {r : vw_C} (hd : decode I.2.1 pc = .ok (.putfield i, 3)) (ho : mOwn.getD I.2.2.2.2.1 "" = I.1.cls) (hf : (mFl I.2.2.2.2.1).lookup i = some (ci, k0, nest)) (hr : mCl[ci]? = some r) (hfi : (r.2.1 k0).2.2.2 = false) (hty : (r.2.1 k0).2.2.1 = "I") (ha : μ[a]? = some (.inr (ci, fs))) (hv : k0 < fs.length) (k : mT G I d mc ms (pc + 3) lo st (μ.set a (.inr (ci, fs.set k0 (.int x)))) ex nc ns Q) : mT G I d mc ms pc lo (.int x :: .ref (a + 3) :: st) μ ex nc ns Q := by
  intro p e s m args below meth c H locs ls F hP hS hX hl hn hc
  obtain ⟨r2, hr2, hk, hw⟩ := mFl_ok _ _ (mLk hf)
  cases hr.symm.trans hr2
  obtain ⟨hin, ty0, hty0, hnm⟩ := mCl_ok _ _ hr
  have he : (mWs G μ)[a]? = some (mAd G (a + 3), .inr (ci, fs.map (mTr G))) := by rw [mAd_c]; exact mWs_at ha
  have hl2 : k0 < (fs.map (mTr G)).length := by rw [List.length_map]; exact hv
  have hd9 : parseFieldDescriptor (r.2.1 k0).2.2.1 = some (ty0 k0) := hty0 k0 hk
  have key : ∀ (H1 : Heap) (locs1 : List Loc), va_P (gD G) mCl ((mWs G μ).set a (mAd G (a + 3), .inr (ci, (fs.map (mTr G)).set k0 (.int x)))) H1 → va_D (mA G) ((mWs G μ).set a (mAd G (a + 3), .inr (ci, (fs.map (mTr G)).set k0 (.int x)))) → va_S (mA G) H H1 locs1 → W p (gL G) e (mRoom d mc ms) s m args below meth c H1 locs1 nc ns (MQ below (mQc G Q) args s mc ms (mA G)) (F0 m (pc + 3) ls (st.map (mTr G))) := fun H1 locs1 hP1 _ hS1 => mWsz fun hz => k p e s m args below meth c H1 locs1 ls F (mSetP (by rw [show mTrE G (.inr (ci, fs.set k0 (.int x))) = .inr (ci, (fs.map (mTr G)).set k0 (.int x)) by simp [mTrE, List.map_set, mTr]]; exact hP1)) (mHS2 hS hS1) (mSz hX hS1 hz (List.length_set ..)) hl hn hc
  cases nest with
  | false => exact va_put F.1 F.2.1 F.ts hin ty0 hty0 hnm (F.own ho) F.wd.1 hP (mWs_D G μ) (mHS hS) a he hr k0 hk (F.ts _ (mG_t rfl hw)) (fun _ h9 => h9) hfi (ty := .int) (by rw [hty]; decide +kernel) rfl rfl hl2 hd key
  | true => exact va_putN F.1 F.2.1 F.ts hin ty0 hty0 hnm (F.own ho) F.wd.1 hP (mWs_D G μ) (mHS hS) a he hr k0 hk (F.nest hw rfl rfl) (fun _ h9 => h9) hfi (ty := .int) (by rw [hty]; decide +kernel) rfl rfl hl2 hd key
/-- a final field of a reference, in its constructor -/
theorem T_putF {a i ci k0 q : Nat} {fs : List Value} {r : vw_C} {ty : FieldType} (hd : decode I.2.1 pc = .ok (.putfield i, 3)) (ho : mOwn.getD I.2.2.2.2.1 "" = I.1.cls) (hf : (mFl I.2.2.2.2.1).lookup i = some (ci, k0, false)) (hr : mCl[ci]? = some r) (hfi : (r.2.1 k0).2.2.2 = true) (hnm0 : I.1.name = "<init>") (hdc : (r.2.1 k0).1 = I.1.cls) (hty : parseFieldDescriptor (r.2.1 k0).2.2.1 = some ty) (hrt : (∃ n, ty = .object n) ∨ ∃ t, ty = .array t) (ha : μ[a]? = some (.inr (ci, fs))) (hv : k0 < fs.length) (k : mT G I d mc ms (pc + 3) lo st (μ.set a (.inr (ci, fs.set k0 (.ref q)))) ex nc ns Q) : mT G I d mc ms pc lo (.ref q :: .ref (a + 3) :: st) μ ex nc ns Q := by
  intro p e s m args below meth c H locs ls F hP hS hX hl hn hc
  obtain ⟨r2, hr2, hk, hw⟩ := mFl_ok _ _ (mLk hf)
  cases hr.symm.trans hr2
  obtain ⟨hin, ty0, hty0, hnm⟩ := mCl_ok _ _ hr
  have he : (mWs G μ)[a]? = some (mAd G (a + 3), .inr (ci, fs.map (mTr G))) := by rw [mAd_c]; exact mWs_at ha
  have hl2 : k0 < (fs.map (mTr G)).length := by rw [List.length_map]; exact hv
  have hd9 : parseFieldDescriptor (r.2.1 k0).2.2.1 = some (ty0 k0) := hty0 k0 hk
  have key : ∀ (H1 : Heap) (locs1 : List Loc), va_P (gD G) mCl ((mWs G μ).set a (mAd G (a + 3), .inr (ci, (fs.map (mTr G)).set k0 (.ref (mAd G q))))) H1 → va_D (mA G) ((mWs G μ).set a (mAd G (a + 3), .inr (ci, (fs.map (mTr G)).set k0 (.ref (mAd G q))))) → va_S (mA G) H H1 locs1 → W p (gL G) e (mRoom d mc ms) s m args below meth c H1 locs1 nc ns (MQ below (mQc G Q) args s mc ms (mA G)) (F0 m (pc + 3) ls (st.map (mTr G))) := fun H1 locs1 hP1 _ hS1 => mWsz fun hz => k p e s m args below meth c H1 locs1 ls F (mSetP (by rw [show mTrE G (.inr (ci, fs.set k0 (.ref q))) = .inr (ci, (fs.map (mTr G)).set k0 (.ref (mAd G q))) by simp [mTrE, List.map_set, mTr]]; exact hP1)) (mHS2 hS hS1) (mSz hX hS1 hz (List.length_set ..)) hl hn hc
  have hn9 : narrow ty (.ref (mAd G q)) = .ref (mAd G q) := by rcases hrt with ⟨n, rfl⟩ | ⟨t, rfl⟩ <;> rfl
  have hf9 : fits ty (.ref (mAd G q)) = true := by rcases hrt with ⟨n, rfl⟩ | ⟨t, rfl⟩ <;> rfl
  exact va_putF F.1 F.2.1 F.ts hin ty0 hty0 hnm (F.own ho) F.wd.1 hP (mWs_D G μ) (mHS hS) a he hr k0 hk (F.ts _ (mG_t rfl hw)) (fun _ h9 => h9) hfi (F.2.2.2.2.2.2.1.trans hnm0) (hdc.trans ho.symm) hty hn9 hf9 hl2 hd key
theorem T_getstatic {i q : Nat} {nest : Bool} (hd : decode I.2.1 pc = .ok (.getstatic i, 3)) (ho : mOwn.getD I.2.2.2.2.1 "" = I.1.cls) (hf : (mGs I.2.2.2.2.1).lookup i = some (q, nest)) (k : mT G I d mc ms (pc + 3) lo (.ref q :: st) μ ex nc ns Q) : mT G I d mc ms pc lo st μ ex nc ns Q := by
  intro p e s m args below meth c H locs ls F hP hS hX hl hn hc
  obtain ⟨hq, hw⟩ := mGs_ok _ _ (mLk hf)
  have hq : q < 2 := hq
  have hZ : va_Z RX4 (mGsN q) "[I" (.ref (gX G q)) (mA G) s s.heap := by
    rcases (show q = 0 ∨ q = 1 by omega) with h | h
    · subst h; exact F.wd.2.2.2.2.1.1
    · subst h; exact F.wd.2.2.2.2.2.1.1
  have hk := k p e s m args below meth c H locs ls F hP hS hX hl hn hc
  have hq3 : mAd G q = gX G q := by unfold mAd; rw [if_pos (by omega)]
  have hk2 : W p (gL G) e (mRoom d mc ms) s m args below meth c H locs nc ns (MQ below (mQc G Q) args s mc ms (mA G)) (F0 m (pc + 3) ls (.ref (gX G q) :: st.map (mTr G))) := by rw [← hq3]; exact hk
  cases nest with
  | false => exact va_gets F.1 F.2.1 hZ hS (F.own ho) (F.ts _ (mG_t rfl hw)) (fun _ h9 => h9) hd hk2
  | true => exact va_getsN F.1 F.2.1 hZ hS (F.own ho) (F.nest hw rfl rfl) (fun _ h9 => h9) hd hk2
theorem T_iaload {a n : Nat} {f : Nat → Int32} {i : Int32} (hd : decode I.2.1 pc = .ok (.iaload, 1)) (ha : μ[a]? = some (.inl (0, n, .inl f))) (hi : vp_in i n) (k : mT G I d mc ms (pc + 1) lo (.int (f i.toNatClampNeg) :: st) μ ex nc ns Q) : mT G I d mc ms pc lo (.int i :: .ref (a + 3) :: st) μ ex nc ns Q := by
  intro p e s m args below meth c H locs ls F hP hS hX hl hn hc
  have he : (mWs G μ)[a]? = some (mAd G (a + 3), .inl (gC G 0, n, .inl f)) := by rw [mAd_c]; exact mWs_at ha
  exact va_iald F.1 F.2.1 F.wd.1 hP a 0 he rfl hi hd (k p e s m args below meth c H locs ls F hP hS hX hl hn hc)
theorem T_baload {a n : Nat} {f : Nat → Int32} {i : Int32} (hd : decode I.2.1 pc = .ok (.baload, 1)) (ha : μ[a]? = some (.inl (1, n, .inl f))) (hi : vp_in i n) (k : mT G I d mc ms (pc + 1) lo (.int (f i.toNatClampNeg) :: st) μ ex nc ns Q) : mT G I d mc ms pc lo (.int i :: .ref (a + 3) :: st) μ ex nc ns Q := by
  intro p e s m args below meth c H locs ls F hP hS hX hl hn hc
  have he : (mWs G μ)[a]? = some (mAd G (a + 3), .inl (gC G 1, n, .inl f)) := by rw [mAd_c]; exact mWs_at ha
  exact va_bald F.1 F.2.1 F.wd.1 hP a 1 he rfl hi hd (k p e s m args below meth c H locs ls F hP hS hX hl hn hc)
theorem T_zaload {a n : Nat} {f : Nat → Int32} {i : Int32} (hd : decode I.2.1 pc = .ok (.baload, 1)) (ha : μ[a]? = some (.inl (2, n, .inl f))) (hi : vp_in i n) (k : mT G I d mc ms (pc + 1) lo (.int (f i.toNatClampNeg) :: st) μ ex nc ns Q) : mT G I d mc ms pc lo (.int i :: .ref (a + 3) :: st) μ ex nc ns Q := by
  intro p e s m args below meth c H locs ls F hP hS hX hl hn hc
  have he : (mWs G μ)[a]? = some (mAd G (a + 3), .inl (gC G 2, n, .inl f)) := by rw [mAd_c]; exact mWs_at ha
  exact va_zald F.1 F.2.1 F.wd.1 hP a 2 he rfl hi hd (k p e s m args below meth c H locs ls F hP hS hX hl hn hc)
theorem T_laload {a n : Nat} {f : Nat → Int64} {i : Int32} (hd : decode I.2.1 pc = .ok (.laload, 1)) (ha : μ[a]? = some (.inl (3, n, .inr (.inl f)))) (hi : vp_in i n) (k : mT G I d mc ms (pc + 1) lo (.long (f i.toNatClampNeg) :: st) μ ex nc ns Q) : mT G I d mc ms pc lo (.int i :: .ref (a + 3) :: st) μ ex nc ns Q := by
  intro p e s m args below meth c H locs ls F hP hS hX hl hn hc
  have he : (mWs G μ)[a]? = some (mAd G (a + 3), .inl (gC G 3, n, .inr (.inl f))) := by rw [mAd_c]; exact mWs_at ha
  exact va_lald F.1 F.2.1 F.wd.1 hP a 3 he rfl hi hd (k p e s m args below meth c H locs ls F hP hS hX hl hn hc)
theorem T_aaload {a n q : Nat} {f : Nat → Option Nat} {i : Int32} (hd : decode I.2.1 pc = .ok (.aaload, 1)) (ha : μ[a]? = some (.inl (4, n, .inr (.inr (.inr (.inr f)))))) (hi : vp_in i n) (hq : f i.toNatClampNeg = some q) (k : mT G I d mc ms (pc + 1) lo (.ref q :: st) μ ex nc ns Q) : mT G I d mc ms pc lo (.int i :: .ref (a + 3) :: st) μ ex nc ns Q := by
  intro p e s m args below meth c H locs ls F hP hS hX hl hn hc
  have he : (mWs G μ)[a]? = some (mAd G (a + 3), .inl (gC G 4, n, .inr (.inr (.inr (.inr (fun j => (f j).map (mAd G))))))) := by rw [mAd_c]; exact mWs_at ha
  refine va_aldq F.1 F.2.1 F.wd.1 hP a 4 he rfl hi hd ?_
  rw [show va_rf ((f i.toNatClampNeg).map (mAd G)) = mTr G (.ref q) by rw [hq]; rfl]
  exact (k p e s m args below meth c H locs ls F hP hS hX hl hn hc)
theorem T_iastore {a n : Nat} {f : Nat → Int32} {i : Int32} {x : Int32} (hd : decode I.2.1 pc = .ok (.iastore, 1)) (ha : μ[a]? = some (.inl (0, n, .inl f))) (hi : vp_in i n) (k : mT G I d mc ms (pc + 1) lo st (μ.set a (.inl (0, n, .inl (upd f i.toNatClampNeg x)))) ex nc ns Q) : mT G I d mc ms pc lo (.int x :: .int i :: .ref (a + 3) :: st) μ ex nc ns Q := by
  intro p e s m args below meth c H locs ls F hP hS hX hl hn hc
  have he : (mWs G μ)[a]? = some (mAd G (a + 3), .inl (gC G 0, n, .inl f)) := by rw [mAd_c]; exact mWs_at ha
  exact va_iast F.1 F.2.1 F.wd.1 hP (mWs_D G μ) (mHS hS) a 0 he rfl hi hd (fun H1 locs1 hP1 _ hS1 => mWsz fun hz => k p e s m args below meth c H1 locs1 ls F (mSetP hP1) (mHS2 hS hS1) (mSz hX hS1 hz (List.length_set ..)) hl hn hc)
theorem T_bastore {a n : Nat} {f : Nat → Int32} {i : Int32} {x : Int32} (hd : decode I.2.1 pc = .ok (.bastore, 1)) (ha : μ[a]? = some (.inl (1, n, .inl f))) (hi : vp_in i n) (k : mT G I d mc ms (pc + 1) lo st (μ.set a (.inl (1, n, .inl (upd f i.toNatClampNeg (vp_nar .byte x))))) ex nc ns Q) : mT G I d mc ms pc lo (.int x :: .int i :: .ref (a + 3) :: st) μ ex nc ns Q := by
  intro p e s m args below meth c H locs ls F hP hS hX hl hn hc
  have he : (mWs G μ)[a]? = some (mAd G (a + 3), .inl (gC G 1, n, .inl f)) := by rw [mAd_c]; exact mWs_at ha
  exact va_bast F.1 F.2.1 F.wd.1 hP (mWs_D G μ) (mHS hS) a 1 he rfl hi hd (fun H1 locs1 hP1 _ hS1 => mWsz fun hz => k p e s m args below meth c H1 locs1 ls F (mSetP hP1) (mHS2 hS hS1) (mSz hX hS1 hz (List.length_set ..)) hl hn hc)
theorem T_zastore {a n : Nat} {f : Nat → Int32} {i : Int32} {x : Int32} (hd : decode I.2.1 pc = .ok (.bastore, 1)) (ha : μ[a]? = some (.inl (2, n, .inl f))) (hi : vp_in i n) (k : mT G I d mc ms (pc + 1) lo st (μ.set a (.inl (2, n, .inl (upd f i.toNatClampNeg (vp_nar .boolean x))))) ex nc ns Q) : mT G I d mc ms pc lo (.int x :: .int i :: .ref (a + 3) :: st) μ ex nc ns Q := by
  intro p e s m args below meth c H locs ls F hP hS hX hl hn hc
  have he : (mWs G μ)[a]? = some (mAd G (a + 3), .inl (gC G 2, n, .inl f)) := by rw [mAd_c]; exact mWs_at ha
  exact va_zast F.1 F.2.1 F.wd.1 hP (mWs_D G μ) (mHS hS) a 2 he rfl hi hd (fun H1 locs1 hP1 _ hS1 => mWsz fun hz => k p e s m args below meth c H1 locs1 ls F (mSetP hP1) (mHS2 hS hS1) (mSz hX hS1 hz (List.length_set ..)) hl hn hc)
theorem T_lastore {a n : Nat} {f : Nat → Int64} {i : Int32} {x : Int64} (hd : decode I.2.1 pc = .ok (.lastore, 1)) (ha : μ[a]? = some (.inl (3, n, .inr (.inl f)))) (hi : vp_in i n) (k : mT G I d mc ms (pc + 1) lo st (μ.set a (.inl (3, n, .inr (.inl (vp_updL f i.toNatClampNeg x))))) ex nc ns Q) : mT G I d mc ms pc lo (.long x :: .int i :: .ref (a + 3) :: st) μ ex nc ns Q := by
  intro p e s m args below meth c H locs ls F hP hS hX hl hn hc
  have he : (mWs G μ)[a]? = some (mAd G (a + 3), .inl (gC G 3, n, .inr (.inl f))) := by rw [mAd_c]; exact mWs_at ha
  exact va_last F.1 F.2.1 F.wd.1 hP (mWs_D G μ) (mHS hS) a 3 he rfl hi hd (fun H1 locs1 hP1 _ hS1 => mWsz fun hz => k p e s m args below meth c H1 locs1 ls F (mSetP hP1) (mHS2 hS hS1) (mSz hX hS1 hz (List.length_set ..)) hl hn hc)
theorem T_aastore {a b n : Nat} {vs : List Value} {f : Nat → Option Nat} {i : Int32} (hd : decode I.2.1 pc = .ok (.aastore, 1)) (ha : μ[a]? = some (.inl (4, n, .inr (.inr (.inr (.inr f)))))) (hb : μ[b]? = some (.inr (3, vs))) (hi : vp_in i n) (k : mT G I d mc ms (pc + 1) lo st (μ.set a (.inl (4, n, .inr (.inr (.inr (.inr (va_up f i.toNatClampNeg (some (b + 3))))))))) ex nc ns Q) : mT G I d mc ms pc lo (.ref (b + 3) :: .int i :: .ref (a + 3) :: st) μ ex nc ns Q := by
  intro p e s m args below meth c H locs ls F hP hS hX hl hn hc
  have he : (mWs G μ)[a]? = some (mAd G (a + 3), .inl (gC G 4, n, .inr (.inr (.inr (.inr (fun j => (f j).map (mAd G))))))) := by rw [mAd_c]; exact mWs_at ha
  have he2 : (mWs G μ)[b]? = some (mAd G (b + 3), .inr (3, vs.map (mTr G))) := by rw [mAd_c]; exact mWs_at hb
  refine va_astq F.1 F.2.1 F.wd.1 hP (mWs_D G μ) (mHS hS) a 4 b 3 (r := (RX3, TX3, 9)) he rfl he2 rfl hi hd (fun H1 locs1 hP1 _ hS1 => mWsz fun hz => k p e s m args below meth c H1 locs1 ls F (mSetP ?_) (mHS2 hS hS1) (mSz hX hS1 hz (List.length_set ..)) hl hn hc)
  have e9 : (fun j => (va_up f i.toNatClampNeg (some (b + 3)) j).map (mAd G)) = va_up (fun j => (f j).map (mAd G)) i.toNatClampNeg (some (mAd G (b + 3))) := by
    funext j
    simp only [va_up]
    split <;> rfl
  rw [show mTrE G (.inl (4, n, .inr (.inr (.inr (.inr (va_up f i.toNatClampNeg (some (b + 3)))))))) = .inl (gC G 4, n, .inr (.inr (.inr (.inr (fun j => (va_up f i.toNatClampNeg (some (b + 3)) j).map (mAd G)))))) from rfl, e9]
  exact hP1
/-- what the three rows from outside hold -/
def mXr (G : mG) (a : Nat) : Nat × (Nat → Int32) := if a = 0 then (8, fun j => mLeast.getD j 0) else if a = 1 then (8, fun j => mMost.getD j 0) else (gN G, gS G)
theorem T_ialoadX {a : Nat} {i : Int32} (hd : decode I.2.1 pc = .ok (.iaload, 1)) (ha : a < 3) (hi : vp_in i (mXr G a).1) (k : mT G I d mc ms (pc + 1) lo (.int ((mXr G a).2 i.toNatClampNeg) :: st) μ ex nc ns Q) : mT G I d mc ms pc lo (.int i :: .ref a :: st) μ ex nc ns Q := by
  intro p e s m args below meth c H locs ls F hP hS hX hl hn hc
  have hk := (k p e s m args below meth c H locs ls F hP hS hX hl hn hc)
  have hq3 : mAd G a = gX G a := by unfold mAd; rw [if_pos ha]
  show W p (gL G) e (mRoom d mc ms) s m args below meth c H locs nc ns (MQ below (mQc G Q) args s mc ms (mA G)) (F0 m pc ls (.int i :: .ref (mAd G a) :: st.map (mTr G)))
  rw [hq3]
  rcases (show a = 0 ∨ a = 1 ∨ a = 2 by omega) with h | h | h
  · subst h; exact va_ti F.1 F.2.1 F.wd.2.2.2.2.1.2 hS hi rfl hd hk
  · subst h; exact va_ti F.1 F.2.1 F.wd.2.2.2.2.2.1.2 hS hi rfl hd hk
  · subst h
    have hx := F.wd.2.2.2.2.2.2
    exact va_sld F.1 F.2.1 hx.1 (Nat.lt_of_lt_of_le hx.2.1 F.wd.2.2.1) (Nat.not_le.mpr hx.2.1) hS hi hd hk
theorem T_alenX (hd : decode I.2.1 pc = .ok (.arraylength, 1)) (k : mT G I d mc ms (pc + 1) lo (.int (Int32.ofNat (gN G)) :: st) μ ex nc ns Q) : mT G I d mc ms pc lo (.ref 2 :: st) μ ex nc ns Q := by
  intro p e s m args below meth c H locs ls F hP hS hX hl hn hc
  have hx := F.wd.2.2.2.2.2.2
  exact va_slen F.1 F.2.1 hx.1 (Nat.lt_of_lt_of_le hx.2.1 F.wd.2.2.1) (Nat.not_le.mpr hx.2.1) hS hd (k p e s m args below meth c H locs ls F hP hS hX hl hn hc)
theorem mQc_of {args : Array Value} {s t : State} {H : Heap} {locs : List Loc} {r : Option Value} (hq : Q r μ ex) (hP : va_P (gD G) mCl (mWs G μ) H) (hS : va_S (mA G) s.heap H locs) (hX : ex = true → H.size = gB G + μ.length ∧ H.size = s.heap.size + nc) (ht : t.heap = H) : mQc G Q args s (.returned (r.map (mTr G))) t := ⟨⟨r, μ, ex, hq, rfl, by rw [ht]; exact hP, fun h => by rw [ht]; exact (hX h).1⟩, hS.F ht⟩
theorem T_iret {v : Int32} (hd : decode I.2.1 pc = .ok (.ireturn, 1)) (hr : I.2.2.2.1 = some .int) (hc1 : nc ≤ mc) (hs1 : ns ≤ ms) (hq : Q (some (.int v)) μ ex) : mT G I d mc ms pc lo [.int v] μ ex nc ns Q := by
  intro p e s m args below meth c H locs ls F hP hS hX hl hn hc
  refine W.widen hc1 hs1 ?_
  exact W.iret (v := v) F.1 F.2.1 (F.2.2.1.trans hr) (fun t ht _ => mQc_of (r := some (.int v)) hq hP hS hX ht) hS.2.2 hd F.2.2.2.1
theorem T_zret {v : Int32} (hd : decode I.2.1 pc = .ok (.ireturn, 1)) (hr : I.2.2.2.1 = some .boolean) (hv : v = 0 ∨ v = 1) (hc1 : nc ≤ mc) (hs1 : ns ≤ ms) (hq : Q (some (.int v)) μ ex) : mT G I d mc ms pc lo [.int v] μ ex nc ns Q := by
  intro p e s m args below meth c H locs ls F hP hS hX hl hn hc
  refine W.widen hc1 hs1 ?_
  exact W.zret (v := v) (ty := .boolean) F.1 F.2.1 (F.2.2.1.trans hr) (by rcases hv with rfl | rfl <;> rfl) (fun t ht _ => mQc_of (r := some (.int v)) hq hP hS hX ht) hS.2.2 hd F.2.2.2.1
theorem T_vret (hd : decode I.2.1 pc = .ok (.return_, 1)) (hr : I.2.2.2.1 = none) (hc1 : nc ≤ mc) (hs1 : ns ≤ ms) (hq : Q none μ ex) : mT G I d mc ms pc lo [] μ ex nc ns Q := by
  intro p e s m args below meth c H locs ls F hP hS hX hl hn hc
  refine W.widen hc1 hs1 ?_
  exact W.vret F.1 F.2.1 (F.2.2.1.trans hr) (fun t ht _ => mQc_of (r := none) hq hP hS hX ht) hS.2.2 hd F.2.2.2.1
end RU
end
section
/-! ===== the small machine: the library, new cells, calls ===== -/
section CA
variable {G : mG} {I : mI} {d mc ms pc : Nat} {lo : List (Option Value)} {st : List Value} {μ : List va_E} {ex : Bool} {nc ns : Nat} {Q : mQ}
theorem mCatSum (G : mG) (st : List Value) : ((st.map (mTr G)).map fun v => v.category).sum = (st.map fun v => v.category).sum := by
  rw [List.map_map]
  congr 1
  exact List.map_congr_left (fun v _ => mTr_cat G v)
theorem T_objInit {i a : Nat} (hd : decode I.2.1 pc = .ok (.invokespecial i, 3)) (ho : mOwn.getD I.2.2.2.2.1 "" = I.1.cls) (hf : (mLi I.2.2.2.2.1).lookup i = some 0) (hst : (st.map fun v => v.category).sum ≤ 8) (k : mT G I d mc ms (pc + 3) lo st μ ex nc ns Q) : mT G I d mc ms pc lo (.ref a :: st) μ ex nc ns Q := by
  intro p e s m args below meth c H locs ls F hP hS hX hl hn hc
  exact W.objInit F.1 F.2.1 (F.own ho) (F.ts _ (mLi_ok _ _ (mLk hf))) (F.ts _ mW_oi) (F.ts _ mW_oc) rfl (by rw [F.2.2.2.2.1]; exact hl.1) rfl hd (by simp [mRoom]) (by rw [mCatSum]; show 2 * 0 + _ + 12 ≤ 60 * (d + 1); omega) (k p e s m args below meth c H locs ls F hP hS hX hl hn hc)
theorem T_min {i : Nat} {x y : Int32} (hd : decode I.2.1 pc = .ok (.invokestatic i, 3)) (ho : mOwn.getD I.2.2.2.2.1 "" = I.1.cls) (hf : (mLi I.2.2.2.2.1).lookup i = some 1) (hst : (st.map fun v => v.category).sum ≤ 8) (hc1 : nc ≤ mc) (hs1 : ns ≤ ms) (k : mT G I d mc ms (pc + 3) lo (.int (if y < x then y else x) :: st) μ ex nc ns Q) : mT G I d mc ms pc lo (.int y :: .int x :: st) μ ex nc ns Q := by
  intro p e s m args below meth c H locs ls F hP hS hX hl hn hc
  exact va_mmin F.1 F.2.1 (by rw [F.2.2.2.2.1]; exact hl.1.symm) (F.own ho) (F.ts _ (mLi_ok _ _ (mLk hf))) (F.ts _ mW_mins) (F.ts _ mW_math) (F.ts _ mW_minc) (by simp [mRoom]) (by rw [mCatSum]; show _ + 13 ≤ 60 * (d + 1); omega) hc1 hs1 hd (k p e s m args below meth c H locs ls F hP hS hX hl hn hc)
theorem T_max {i : Nat} {x y : Int32} (hd : decode I.2.1 pc = .ok (.invokestatic i, 3)) (ho : mOwn.getD I.2.2.2.2.1 "" = I.1.cls) (hf : (mLi I.2.2.2.2.1).lookup i = some 2) (hst : (st.map fun v => v.category).sum ≤ 8) (hc1 : nc ≤ mc) (hs1 : ns ≤ ms) (k : mT G I d mc ms (pc + 3) lo (.int (if x < y then y else x) :: st) μ ex nc ns Q) : mT G I d mc ms pc lo (.int y :: .int x :: st) μ ex nc ns Q := by
  intro p e s m args below meth c H locs ls F hP hS hX hl hn hc
  exact va_mmax F.1 F.2.1 (by rw [F.2.2.2.2.1]; exact hl.1.symm) (F.own ho) (F.ts _ (mLi_ok _ _ (mLk hf))) (F.ts _ mW_maxs) (F.ts _ mW_math) (F.ts _ mW_maxc) (by simp [mRoom]) (by rw [mCatSum]; show _ + 13 ≤ 60 * (d + 1); omega) hc1 hs1 hd (k p e s m args below meth c H locs ls F hP hS hX hl hn hc)
theorem T_copy {i a b n0 n1 : Nat} {f g : Nat → Int32} {sp dp n : Int32} (hd : decode I.2.1 pc = .ok (.invokestatic i, 3)) (ho : mOwn.getD I.2.2.2.2.1 "" = I.1.cls) (hf : (mLi I.2.2.2.2.1).lookup i = some 3) (hst : (st.map fun v => v.category).sum ≤ 8) (ha : μ[a]? = some (.inl (0, n0, .inl f))) (hb : μ[b]? = some (.inl (0, n1, .inl g))) (h1 : ¬ sp < 0) (h2 : ¬ dp < 0) (h3 : ¬ n < 0) (h4 : sp.toNatClampNeg + n.toNatClampNeg ≤ n0) (h5 : dp.toNatClampNeg + n.toNatClampNeg ≤ n1) (k : mT G I d mc ms (pc + 3) lo st (μ.set b (.inl (0, n1, .inl (va_cpy f g sp.toNatClampNeg dp.toNatClampNeg n.toNatClampNeg)))) ex nc ns Q) : mT G I d mc ms pc lo (.int n :: .int dp :: .ref (b + 3) :: .int sp :: .ref (a + 3) :: st) μ ex nc ns Q := by
  intro p e s m args below meth c H locs ls F hP hS hX hl hn hc
  have he : (mWs G μ)[a]? = some (mAd G (a + 3), .inl (gC G 0, n0, .inl f)) := by rw [mAd_c]; exact mWs_at ha
  have he2 : (mWs G μ)[b]? = some (mAd G (b + 3), .inl (gC G 0, n1, .inl g)) := by rw [mAd_c]; exact mWs_at hb
  have h9 : nativeFrameWords "java/lang/System" "arraycopy" 5 + 11 ≤ 40 := by decide +kernel
  have h8 : ((st.map (mTr G)).map fun v => v.category).sum + (nativeFrameWords "java/lang/System" "arraycopy" 5 + 11) ≤ (mRoom d mc ms).locals := by
    rw [mCatSum]
    show _ + _ ≤ 60 * (d + 1)
    omega
  have h7 : 1 ≤ (mRoom d mc ms).frames := Nat.le_add_left 1 d
  exact va_copyi F.1 F.2.1 (by rw [F.2.2.2.2.1]; exact hl.1.symm) (F.own ho) (F.ts _ (mLi_ok _ _ (mLk hf))) (F.ts _ mW_acn) (F.ts _ mW_acs) (F.ts _ mW_sys) F.wd.1 hP (mWs_D G μ) (mHS hS) a b 0 0 he he2 rfl rfl rfl h1 h2 h3 h4 h5 (fun _ _ => rfl) h7 h8 hd (fun H1 locs1 hP1 _ hS1 => mWsz fun hz => k p e s m args below meth c H1 locs1 ls F (mSetP hP1) (mHS2 hS hS1) (mSz hX hS1 hz (List.length_set ..)) hl hn hc)
/-- a new cell lies at the end -/
theorem mNew {s : State} {H H1 : Heap} {q : Nat} {e : va_E} {n0 : Nat} (hX : H.size = gB G + μ.length ∧ H.size = s.heap.size + n0) (hP1 : va_P (gD G) mCl (mWs G μ ++ [(q, e)]) H1) (hD1 : va_D (mA G) (mWs G μ ++ [(q, e)])) (hz : H1.size ≤ s.heap.size + (n0 + 1)) : q = mAd G (μ.length + 3) ∧ H1.size = gB G + (μ.length + 1) ∧ H1.size = s.heap.size + (n0 + 1) := by
  have hq : (mWs G μ ++ [(q, e)])[μ.length]? = some (q, e) := by rw [List.getElem?_append_right (by rw [mWs_len]; exact Nat.le_refl _), mWs_len]; simp
  have h1 : q < H1.size := (hP1 _ _ hq).lt
  have h2 : gB G ≤ q := hD1.2 _ _ hq
  rw [mAd_c]
  have h3 : ¬ q < gB G + μ.length := by
    intro h
    have hk : q - gB G < μ.length := by omega
    have h4 : (mWs G μ ++ [(q, e)])[q - gB G]? = some (gB G + (q - gB G), mTrE G μ[q - gB G]) := by
      rw [List.getElem?_append_left (by rw [mWs_len]; exact hk)]
      exact mWs_at (List.getElem?_eq_getElem hk)
    have h5 := hD1.1 _ _ _ _ h4 hq (show gB G + (q - gB G) = q by omega)
    omega
  omega
theorem mNewP {H1 : Heap} {q : Nat} {e : va_E} (hq : q = mAd G (μ.length + 3)) (hP1 : va_P (gD G) mCl (mWs G μ ++ [(q, mTrE G e)]) H1) : va_P (gD G) mCl (mWs G (μ ++ [e])) H1 := by
  rw [mWs_push, ← mAd_c, ← hq]
  exact hP1
theorem T_new_int {n : Int32} {N : Nat} (hd : decode I.2.1 pc = .ok (.newarray .int, 2)) (hx : ex = true) (hn0 : ¬ n < 0) (hN : n.toNatClampNeg = N) (hb : N ≤ 100000) (hc1 : nc + 1 ≤ mc) (hs1 : ns + N ≤ ms) (k : mT G I d mc ms (pc + 2) lo (.ref (μ.length + 3) :: st) (μ ++ [.inl (0, N, .inl (fun _ => 0))]) ex (nc + 1) (ns + N) Q) : mT G I d mc ms pc lo (.int n :: st) μ ex nc ns Q := by
  intro p e s m args below meth c H locs ls F hP hS hX hl hn hc
  refine va_newa (atype := .int) F.1 F.2.1 (F.ts _ mW_aint) (ty := .int) rfl F.wd.1 hP (mWs_D G μ) (mHS hS) (fun q h => Nat.le_trans (by rw [(hX hx).1]; exact Nat.le_add_right _ _) h) (a0 := (N, .inl (fun _ => 0))) (fun _ => rfl) hn0 hN (by show N * 4 ≤ 536870912; omega) hc1 hs1 hd (fun q cA H1 hK1 hP1 hD1 hS1 => mWsz fun hz => ?_)
  have hcA : cA = gC G 0 := by
    have h1 := (hK1.2 5 (cA, .int) rfl).2
    have h2 := (F.wd.1.2 0 (gC G 0, .int) rfl).2
    exact Option.some.inj (h1.symm.trans h2)
  subst hcA
  obtain ⟨hq, hz1, hz2⟩ := mNew (n0 := nc) (hX hx) hP1 hD1 hz
  have hk := k p e s m args below meth c H1 locs ls F (mNewP (e := .inl (0, N, .inl (fun _ => 0))) hq hP1) (mHS2 hS hS1) (fun _ => by rw [List.length_append]; exact ⟨hz1, hz2⟩) hl hn hc
  rw [hq]
  exact hk
theorem T_new_byte {n : Int32} {N : Nat} (hd : decode I.2.1 pc = .ok (.newarray .byte, 2)) (hx : ex = true) (hn0 : ¬ n < 0) (hN : n.toNatClampNeg = N) (hb : N ≤ 100000) (hc1 : nc + 1 ≤ mc) (hs1 : ns + N ≤ ms) (k : mT G I d mc ms (pc + 2) lo (.ref (μ.length + 3) :: st) (μ ++ [.inl (1, N, .inl (fun _ => 0))]) ex (nc + 1) (ns + N) Q) : mT G I d mc ms pc lo (.int n :: st) μ ex nc ns Q := by
  intro p e s m args below meth c H locs ls F hP hS hX hl hn hc
  refine va_newa (atype := .byte) F.1 F.2.1 (F.ts _ mW_abyte) (ty := .byte) rfl F.wd.1 hP (mWs_D G μ) (mHS hS) (fun q h => Nat.le_trans (by rw [(hX hx).1]; exact Nat.le_add_right _ _) h) (a0 := (N, .inl (fun _ => 0))) (fun _ => rfl) hn0 hN (by show N * 1 ≤ 536870912; omega) hc1 hs1 hd (fun q cA H1 hK1 hP1 hD1 hS1 => mWsz fun hz => ?_)
  have hcA : cA = gC G 1 := by
    have h1 := (hK1.2 5 (cA, .byte) rfl).2
    have h2 := (F.wd.1.2 1 (gC G 1, .byte) rfl).2
    exact Option.some.inj (h1.symm.trans h2)
  subst hcA
  obtain ⟨hq, hz1, hz2⟩ := mNew (n0 := nc) (hX hx) hP1 hD1 hz
  have hk := k p e s m args below meth c H1 locs ls F (mNewP (e := .inl (1, N, .inl (fun _ => 0))) hq hP1) (mHS2 hS hS1) (fun _ => by rw [List.length_append]; exact ⟨hz1, hz2⟩) hl hn hc
  rw [hq]
  exact hk
theorem T_new_boolean {n : Int32} {N : Nat} (hd : decode I.2.1 pc = .ok (.newarray .boolean, 2)) (hx : ex = true) (hn0 : ¬ n < 0) (hN : n.toNatClampNeg = N) (hb : N ≤ 100000) (hc1 : nc + 1 ≤ mc) (hs1 : ns + N ≤ ms) (k : mT G I d mc ms (pc + 2) lo (.ref (μ.length + 3) :: st) (μ ++ [.inl (2, N, .inl (fun _ => 0))]) ex (nc + 1) (ns + N) Q) : mT G I d mc ms pc lo (.int n :: st) μ ex nc ns Q := by
  intro p e s m args below meth c H locs ls F hP hS hX hl hn hc
  refine va_newa (atype := .boolean) F.1 F.2.1 (F.ts _ mW_aboolean) (ty := .boolean) rfl F.wd.1 hP (mWs_D G μ) (mHS hS) (fun q h => Nat.le_trans (by rw [(hX hx).1]; exact Nat.le_add_right _ _) h) (a0 := (N, .inl (fun _ => 0))) (fun _ => rfl) hn0 hN (by show N * 1 ≤ 536870912; omega) hc1 hs1 hd (fun q cA H1 hK1 hP1 hD1 hS1 => mWsz fun hz => ?_)
  have hcA : cA = gC G 2 := by
    have h1 := (hK1.2 5 (cA, .boolean) rfl).2
    have h2 := (F.wd.1.2 2 (gC G 2, .boolean) rfl).2
    exact Option.some.inj (h1.symm.trans h2)
  subst hcA
  obtain ⟨hq, hz1, hz2⟩ := mNew (n0 := nc) (hX hx) hP1 hD1 hz
  have hk := k p e s m args below meth c H1 locs ls F (mNewP (e := .inl (2, N, .inl (fun _ => 0))) hq hP1) (mHS2 hS hS1) (fun _ => by rw [List.length_append]; exact ⟨hz1, hz2⟩) hl hn hc
  rw [hq]
  exact hk
theorem T_new_long {n : Int32} {N : Nat} (hd : decode I.2.1 pc = .ok (.newarray .long, 2)) (hx : ex = true) (hn0 : ¬ n < 0) (hN : n.toNatClampNeg = N) (hb : N ≤ 100000) (hc1 : nc + 1 ≤ mc) (hs1 : ns + N ≤ ms) (k : mT G I d mc ms (pc + 2) lo (.ref (μ.length + 3) :: st) (μ ++ [.inl (3, N, .inr (.inl (fun _ => 0)))]) ex (nc + 1) (ns + N) Q) : mT G I d mc ms pc lo (.int n :: st) μ ex nc ns Q := by
  intro p e s m args below meth c H locs ls F hP hS hX hl hn hc
  refine va_newa (atype := .long) F.1 F.2.1 (F.ts _ mW_along) (ty := .long) rfl F.wd.1 hP (mWs_D G μ) (mHS hS) (fun q h => Nat.le_trans (by rw [(hX hx).1]; exact Nat.le_add_right _ _) h) (a0 := (N, .inr (.inl (fun _ => 0)))) (fun _ => rfl) hn0 hN (by show N * 8 ≤ 536870912; omega) hc1 hs1 hd (fun q cA H1 hK1 hP1 hD1 hS1 => mWsz fun hz => ?_)
  have hcA : cA = gC G 3 := by
    have h1 := (hK1.2 5 (cA, .long) rfl).2
    have h2 := (F.wd.1.2 3 (gC G 3, .long) rfl).2
    exact Option.some.inj (h1.symm.trans h2)
  subst hcA
  obtain ⟨hq, hz1, hz2⟩ := mNew (n0 := nc) (hX hx) hP1 hD1 hz
  have hk := k p e s m args below meth c H1 locs ls F (mNewP (e := .inl (3, N, .inr (.inl (fun _ => 0)))) hq hP1) (mHS2 hS hS1) (fun _ => by rw [List.length_append]; exact ⟨hz1, hz2⟩) hl hn hc
  rw [hq]
  exact hk
theorem T_new_told {i : Nat} {n : Int32} {N : Nat} (hd : decode I.2.1 pc = .ok (.anewarray i, 3)) (ho : mOwn.getD I.2.2.2.2.1 "" = I.1.cls) (hf : (mNw I.2.2.2.2.1).lookup i = some 3) (hx : ex = true) (hn0 : ¬ n < 0) (hN : n.toNatClampNeg = N) (hb : N ≤ 100000) (hc1 : nc + 1 ≤ mc) (hs1 : ns + N ≤ ms) (k : mT G I d mc ms (pc + 3) lo (.ref (μ.length + 3) :: st) (μ ++ [.inl (4, N, .inr (.inr (.inr (.inr (fun _ => none)))))]) ex (nc + 1) (ns + N) Q) : mT G I d mc ms pc lo (.int n :: st) μ ex nc ns Q := by
  intro p e s m args below meth c H locs ls F hP hS hX hl hn hc
  obtain ⟨r, hr, hw, -⟩ := mNw_ok _ _ (mLk hf)
  have hr : r = (RX3, TX3, 9) := (Option.some.inj hr).symm
  subst hr
  refine va_newq F.1 F.2.1 (F.own ho) (F.ts _ hw) F.wd.2.2.2.1 F.wd.1 hP (mWs_D G μ) (mHS hS) (fun q h => Nat.le_trans (by rw [(hX hx).1]; exact Nat.le_add_right _ _) h) hn0 hN (by omega) hc1 hs1 hd (fun q cA H1 hK1 hP1 hD1 hS1 => mWsz fun hz => ?_)
  have hcA : cA = gC G 4 := by
    obtain ⟨_, _, -, -, -, h1⟩ := (hK1.2 5 (cA, .object RX3) rfl).2
    obtain ⟨_, _, -, -, -, h2⟩ := (F.wd.1.2 4 (gC G 4, .object RX3) rfl).2
    exact Option.some.inj (h1.symm.trans h2)
  subst hcA
  obtain ⟨hq, hz1, hz2⟩ := mNew (n0 := nc) (hX hx) hP1 hD1 hz
  have hk := k p e s m args below meth c H1 locs ls F (mNewP (e := .inl (4, N, .inr (.inr (.inr (.inr (fun _ => none)))))) hq hP1) (mHS2 hS hS1) (fun _ => by rw [List.length_append]; exact ⟨hz1, hz2⟩) hl hn hc
  rw [hq]
  exact hk
theorem T_new {i ci : Nat} {r : vw_C} {ty : Nat → FieldType} {fs : List Value} (hd : decode I.2.1 pc = .ok (.new i, 3)) (ho : mOwn.getD I.2.2.2.2.1 "" = I.1.cls) (hf : (mNw I.2.2.2.2.1).lookup i = some ci) (hr : mCl[ci]? = some r) (hty : ∀ k, k < r.2.2 → parseFieldDescriptor (r.2.1 k).2.2.1 = some (ty k)) (hfs : ∀ j, j < r.2.2 → defaultValue (ty j) = vp_V fs j) (hfn : fs.map (mTr G) = fs) (hx : ex = true) (hc1 : nc + 1 ≤ mc) (hs1 : ns + r.2.2 ≤ ms) (k : mT G I d mc ms (pc + 3) lo (.ref (μ.length + 3) :: st) (μ ++ [.inr (ci, fs)]) ex (nc + 1) (ns + r.2.2) Q) : mT G I d mc ms pc lo st μ ex nc ns Q := by
  intro p e s m args below meth c H locs ls F hP hS hX hl hn hc
  obtain ⟨r2, hr2, hw, hw2, hw3⟩ := mNw_ok _ _ (mLk hf)
  cases hr.symm.trans hr2
  obtain ⟨hin, -⟩ := mCl_ok _ _ hr
  refine va_new (C := r.1) (T := r.2.1) (N := r.2.2) F.1 F.2.1 F.ts hin ty hty (F.own ho) (F.ts _ hw) (F.ts _ hw2) (F.ts _ hw3) F.wd.1 hP (mWs_D G μ) (mHS hS) (fun q h => Nat.le_trans (by rw [(hX hx).1]; exact Nat.le_add_right _ _) h) hr hfs hc1 hs1 hd (fun q H1 hP1 hD1 hS1 => mWsz fun hz => ?_)
  obtain ⟨hq, hz1, hz2⟩ := mNew (n0 := nc) (hX hx) hP1 hD1 hz
  have hk := k p e s m args below meth c H1 locs ls F (mNewP (e := .inr (ci, fs)) hq (by show va_P _ _ (_ ++ [(q, .inr (ci, fs.map (mTr G)))]) _; rw [hfn]; exact hP1)) (mHS2 hS hS1) (fun _ => by rw [List.length_append]; exact ⟨hz1, hz2⟩) hl hn hc
  rw [hq]
  exact hk
theorem mWd_moved {s U : State} {H : Heap} {locs : List Loc} (h : mWd G s) (hW : s.WarmedH U.vm) (hU : U.heap = H) (hS : va_S (mA G) s.heap H locs) : mWd G U := by
  obtain ⟨h1, h2, h3, h4, ⟨h5, h6⟩, ⟨h7, h8⟩, h9, h10, h11⟩ := h
  subst hU
  refine ⟨va_K.moved hW.alike h1, fun w hw hn => ?_, Nat.le_trans h3 hS.1, va_AO.moved hW.alike h4, ⟨va_Z.moved hW.alike (h5.kept hS.2.1), va_T.moved hW.alike (h6.kept hS.2.1)⟩, ⟨va_Z.moved hW.alike (h7.kept hS.2.1), va_T.moved hW.alike (h8.kept hS.2.1)⟩, va_X.moved hW.alike (h9.kept (hS.2.1 _ (Nat.lt_of_lt_of_le h10 h3) (Nat.not_le.mpr h10))), h10, h11⟩
  have h0 := h2 w hw hn
  cases w <;> first | exact va_Nw.warmF hW h0 | exact va_Nw.warmM hW h0 | exact absurd hn (by simp [mIsNest])
def mPc (G : mG) (as : List Value) (μ : List va_E) (ex : Bool) : Array Value → State → Prop := fun v U => v = (as.map (mTr G)).toArray ∧ mWd G U ∧ va_P (gD G) mCl (mWs G μ) U.heap ∧ (ex = true → U.heap.size = gB G + μ.length)
def mWsJ (J : mI) : List Cond := .code J.1 J.2.1 J.2.2.1 J.2.2.2.1 :: mGood
theorem mPc_blind {as : List Value} : FrameBlind (mPc G as μ ex) := by
  intro a U g mk h
  obtain ⟨h1, h2, h3, h4⟩ := h
  exact ⟨h1, mWd_moved (U := U.calling g mk a) (H := U.heap) h2 (State.WarmedH.refl U) rfl va_S.rf, h3, h4⟩
theorem mArgs {vs : List Value} (hc : ∀ v ∈ vs, v.category = 1) : ∀ (k i : Nat) (v : Value), vs[i]? = some v → (k + i, v) ∈ lv_args k vs := by
  induction vs with
  | nil => intro k i v h; simp at h
  | cons w t ih =>
    intro k i v h
    have hw : w.category = 1 := hc w List.mem_cons_self
    have he : lv_args k (w :: t) = (k, w) :: lv_args (k + 1) t := by simp [lv_args, hw]
    rw [he]
    cases i with
    | zero =>
      cases h
      exact List.mem_cons_self
    | succ i =>
      have := ih (fun v hv => hc v (List.mem_cons_of_mem _ hv)) (k + 1) i v h
      rw [show k + (i + 1) = k + 1 + i by omega]
      exact List.mem_cons_of_mem _ this
theorem mSl {vs : List Value} (hc : ∀ v ∈ vs, v.category = 1) : (lg_sl vs).length = vs.length := by
  induction vs with
  | nil => rfl
  | cons w t ih =>
    have hw : w.category = 1 := hc w List.mem_cons_self
    have := ih (fun v hv => hc v (List.mem_cons_of_mem _ hv))
    simp only [lg_sl, List.flatMap_cons, hw] at this ⊢
    simp [this]
theorem mLo_get {J : mI} {as : List Value} {i : Nat} {v : Value} (h : (mLo J as)[i]? = some (some v)) : as[i]? = some v := by
  unfold mLo at h
  by_cases hi : i < (as.map some).length
  · rw [List.getElem?_append_left hi, List.getElem?_map] at h
    obtain ⟨w, hw, hv⟩ := Option.map_eq_some_iff.mp h
    cases hv
    exact hw
  · rw [List.getElem?_append_right (by omega)] at h
    have := List.mem_of_getElem? h
    rw [List.mem_replicate] at this
    exact absurd this.2 (by simp)
theorem mGood_in {J : mI} (hJ : mJOk J) : GoodIn mGood (mWsJ J) := by
  intro w hw
  have h1 : w ∈ mGood := by
    rcases List.mem_cons.mp hw with rfl | h
    · exact hJ.1
    · exact h
  exact ⟨h1, good_of_word (List.mem_filter.mp h1).2⟩
/-- a walk from the method's first place is a contract -/
theorem mMet {J : mI} {as : List Value} (hJ : plainName J.1.cls = true) (hlen : as.length ≤ J.2.2.1) (hcat : ∀ v ∈ as, v.category = 1) (h : mC G J d mc ms as μ ex Q) : Met (gL G) J.1 (mWsJ J) (mRoom d mc ms) (mPc G as μ ex) (mQc G Q) mc ms (mA G) := by
  refine Met.ofW (cc := J.2.1) (maxL := J.2.2.1) (ret := J.2.2.2.1) hJ rfl ?_
  intro p e s m args below meth c s₁ B hml hv
  obtain ⟨rfl, hwd, hP, hX⟩ := hv
  have hts := atoms_spec (ws := mWsJ J) B.pre
  have hcv : ∀ v ∈ as.map (mTr G), v.category = 1 := by
    intro v hv
    obtain ⟨w, hw, rfl⟩ := List.mem_map.mp hv
    rw [mTr_cat]; exact hcat w hw
  have hsl := mSl hcv
  have hl := lv_entry (as.map (mTr G)) (n := J.2.2.1) (by rw [hsl, List.length_map]; exact hlen)
  rw [lg_entry_eq]
  refine h p e s m _ below meth c s.heap [] _ ⟨B.exec, B.bytes, B.returns, B.notSynchronized, hml, findClass_of_methodNamed B.named, (name_of_methodNamed B.named B.method).1, fun w hw => hts w (List.mem_cons_of_mem _ hw), hwd⟩ hP va_S.rf (fun h => ⟨hX h, rfl⟩) ⟨hl.1, hl.2.1, fun q hq => ?_⟩ ?_ ?_
  · obtain ⟨v, h1, h2⟩ := mPr_inv hq
    have h3 := mLo_get h1
    have h4 : (as.map (mTr G))[q.1]? = some (mTr G v) := by rw [List.getElem?_map, h3]; rfl
    have h5 := mArgs hcv 0 q.1 _ h4
    rw [Nat.zero_add] at h5
    rw [h2]
    exact hl.2.2 _ h5
  · simp [mLo]; omega
  · intro v hv
    obtain ⟨i, hi⟩ := List.getElem?_of_mem hv
    exact hcat v (List.mem_of_getElem? (mLo_get hi))
/-- behind a call -/
theorem mGo {p : Program} {e : Env} {s : State} {m : MethodId} {args : Array Value} {below : List Frame} {meth : Method} {c : Code} {H : Heap} {locs : List Loc} {ls : Array Slot} {st0 rest : List Value} {mc' ms' : Nat} {a : Array Value} {Q' : mQ} {Qs : State → Prop} {R : Room} {l : Launch}
    (hr : va_Run p l e R s m args below meth c H locs nc ns mc' ms' (F0 m pc ls st0) rest (mQc G Q' a) (mA G)) (hS : va_S (mA G) s.heap H locs)
    (kk : ∀ (r : Option Value) (μ' : List va_E) (ex' : Bool) (H1 : Heap) (locs1 : List Loc), Q' r μ' ex' → va_P (gD G) mCl (mWs G μ') H1 → va_S (mA G) s.heap H1 locs1 → (ex' = true → H1.size = gB G + μ'.length) → W p l e R s m args below meth c H1 locs1 (nc + mc') (ns + ms') Qs (F0 m (pc + 3) ls ((r.map (mTr G)).toList ++ rest))) :
    W p l e R s m args below meth c H locs nc ns Qs (F0 m pc ls st0) := by
  intro T hT X
  obtain ⟨v, st₀, t, T', L, h0, X', hL, e1, e2, ⟨⟨r, μ', ex', hq, hv, hp, hx⟩, hz, hk⟩, stp⟩ := hr T hT X
  cases hv
  rw [h0] at hz hk
  obtain ⟨t2, a1, b1⟩ := kk r μ' ex' t.heap (locs ++ L) hq hp ⟨Nat.le_trans hS.1 hz, fun q h1 h2 => (hk q (Nat.lt_of_lt_of_le h1 hS.1) h2).trans (hS.2.1 q h1 h2), fun q hq => (List.mem_append.mp hq).elim (hS.2.2 q) (hL q)⟩ hx T' e1 X'
  exact ⟨t2, stp t2 a1, b1⟩
theorem mSig {J : mI} (hJ : mJOk J) : ∀ sig, parseMethodDescriptor J.1.desc = some sig → J.2.2.2.2.2 = sig.parameters.length := by
  intro sig h
  have h2 := hJ.2.2.1.2.2
  rw [h] at h2
  exact (Option.some.inj h2).symm
theorem mRest (G : mG) (pc : Nat) (ls : Array Slot) (m : MethodId) (s0 st : List Value) (h : (st.map fun v => v.category).sum ≤ 8) : 2 * (F0 m pc ls s0).monitorRoom + ((st.map (mTr G)).map fun v => v.category).sum ≤ 8 := by
  rw [mCatSum]
  show 2 * 0 + _ ≤ 8
  omega
theorem T_callV {a ci kd : Nat} {i d1 mc1 ms1 : Nat} {as : List Value} {J : mI} {Q1 : mQ} {fs : List Value} {r0 : vw_C} (hd : decode I.2.1 pc = .ok (.invokevirtual i, 3)) (ho : mOwn.getD I.2.2.2.2.1 "" = I.1.cls) (hf : (mCa I.2.2.2.2.1).lookup i = some (kd, J)) (hkd : kd = 1 ∨ kd = 4) (ha : μ[a]? = some (.inr (ci, fs))) (hci : mCl[ci]? = some r0) (hcl : r0.1 = J.1.cls) (hnp : as.length = J.2.2.2.2.2) (hml : as.length + 1 ≤ J.2.2.1 ∧ J.2.2.1 ≤ 40) (hcat : ∀ v ∈ as, v.category = 1) (hst : (st.map fun v => v.category).sum ≤ 8) (hdd : d1 < d) (hmc : nc + mc1 ≤ mc) (hms : ns + ms1 ≤ ms) (hC : mC G J d1 mc1 ms1 (.ref (a + 3) :: as) μ ex Q1) (hex : ∀ r μ1 ex1, Q1 r μ1 ex1 → ex1 = true → ex = true ∧ μ1.length = μ.length + mc1) (k : ∀ r μ1 ex1, Q1 r μ1 ex1 → mT G I d mc ms (pc + 3) lo (r.toList ++ st) μ1 ex1 (nc + mc1) (ns + ms1) Q) : mT G I d mc ms pc lo (as.reverse ++ .ref (a + 3) :: st) μ ex nc ns Q := by
  intro p e s m args below meth c H locs ls F hP hS hX hl hn hc
  obtain ⟨hJ, hw⟩ := mCa_ok _ _ (mLk hf)
  have hgi := mGood_in hJ
  have hrm : (mRoom d1 mc1 ms1).frames + 1 ≤ (mRoom d mc ms).frames ∧ 8 + (J.2.2.1 + 11) + (mRoom d1 mc1 ms1).locals ≤ (mRoom d mc ms).locals := ⟨by show d1 + 1 + 1 ≤ d + 1; omega, by show 8 + (J.2.2.1 + 11) + 60 * (d1 + 1) ≤ 60 * (d + 1); omega⟩
  have hcb : (Cond.code J.1 J.2.1 J.2.2.1 J.2.2.2.1).before args s = true := F.ts _ hJ.1
  have hib : (Cond.initialized J.1.cls).before args s = true := F.ts _ hJ.2.1
  have hM := mMet hJ.2.2.2.1 (by exact hml.1) (fun v hv => (List.mem_cons.mp hv).elim (fun h => by rw [h]; rfl) (hcat v)) hC
  have he : (mWs G μ)[a]? = some (mAd G (a + 3), .inr (ci, fs.map (mTr G))) := by rw [mAd_c]; exact mWs_at ha
  have hrecv := va_recv F.wd.1 hP hci he
  rw [hcl] at hrecv
  have hpre : PreV s H J.1.cls (mAd G (a + 3)) (mPc G (.ref (a + 3) :: as) μ ex) (as.map (mTr G)) := ⟨mPc_blind, hrecv, fun U hU hW => ⟨rfl, mWd_moved F.wd hW hU hS, by rw [hU]; exact hP, fun h => by rw [hU]; exact (hX h).1⟩⟩
  have hrun : va_Run p (gL G) e (mRoom d mc ms) s m args below meth c H locs nc ns mc1 ms1 (F0 m pc ls ((as.reverse ++ .ref (a + 3) :: st).map (mTr G))) (st.map (mTr G)) (mQc G Q1 (Value.ref (mAd G (a + 3)) :: as.map (mTr G)).toArray) (mA G) := by
    rcases hkd with rfl | rfl
    · exact va_runV ⟨F.1, F.2.1, F.2.2.2.2.1, F.own ho, F.ts⟩ hM (n := J.2.2.2.2.2) ⟨⟨rfl, rfl, hrm.1, hrm.2, pay_in F.ts hgi, List.mem_cons_self, hcb, hib, ⟨hJ.2.2.1.1, hJ.2.2.1.2.1⟩, mSig hJ, F.ts _ hw.1⟩, F.ts _ hw.2.1, F.ts _ hw.2.2⟩ hpre rfl (by rw [List.length_map]; exact hnp) hl.1 (by simp [mTr]) (mRest G _ _ _ _ _ hst) hd ⟨hmc, hms⟩
    · exact va_runVN ⟨F.1, F.2.1, F.2.2.2.2.1, F.own ho, F.ts⟩ hM (n := J.2.2.2.2.2) ⟨⟨⟨rfl, rfl, hrm.1, hrm.2, pay_in F.ts hgi, List.mem_cons_self⟩, hcb, hib, ⟨hJ.2.2.1.1, hJ.2.2.1.2.1⟩, mSig hJ, F.nest hw.1 rfl rfl⟩, F.ts _ hw.2.1, F.ts _ hw.2.2⟩ hpre rfl (by rw [List.length_map]; exact hnp) hl.1 (by simp [mTr]) (mRest G _ _ _ _ _ hst) hd ⟨hmc, hms⟩
  refine mGo (Q' := Q1) hrun hS (fun r μ1 ex1 H1 locs1 hq hP1 hS1 hx1 => ?_)
  have hk := k r μ1 ex1 hq p e s m args below meth c H1 locs1 ls F hP1 hS1 (fun h => by
    have a1 := hx1 h
    obtain ⟨a2, a3⟩ := hex r μ1 ex1 hq h
    have a4 := hX a2
    exact ⟨a1, by omega⟩) hl hn hc
  have e9 : (r.toList ++ st).map (mTr G) = (r.map (mTr G)).toList ++ st.map (mTr G) := by cases r <;> rfl
  rw [e9] at hk
  exact hk
theorem T_callS {i d1 mc1 ms1 : Nat} {as : List Value} {J : mI} {Q1 : mQ} (hd : decode I.2.1 pc = .ok (.invokestatic i, 3)) (ho : mOwn.getD I.2.2.2.2.1 "" = I.1.cls) (hf : (mCa I.2.2.2.2.1).lookup i = some (0, J)) (hnp : as.length = J.2.2.2.2.2) (hml : as.length ≤ J.2.2.1 ∧ J.2.2.1 ≤ 40) (hcat : ∀ v ∈ as, v.category = 1) (hst : (st.map fun v => v.category).sum ≤ 8) (hdd : d1 < d) (hmc : nc + mc1 ≤ mc) (hms : ns + ms1 ≤ ms) (hC : mC G J d1 mc1 ms1 as μ ex Q1) (hex : ∀ r μ1 ex1, Q1 r μ1 ex1 → ex1 = true → ex = true ∧ μ1.length = μ.length + mc1) (k : ∀ r μ1 ex1, Q1 r μ1 ex1 → mT G I d mc ms (pc + 3) lo (r.toList ++ st) μ1 ex1 (nc + mc1) (ns + ms1) Q) : mT G I d mc ms pc lo (as.reverse ++ st) μ ex nc ns Q := by
  intro p e s m args below meth c H locs ls F hP hS hX hl hn hc
  obtain ⟨hJ, hw⟩ := mCa_ok _ _ (mLk hf)
  have hgi := mGood_in hJ
  have hrm : (mRoom d1 mc1 ms1).frames + 1 ≤ (mRoom d mc ms).frames ∧ 8 + (J.2.2.1 + 11) + (mRoom d1 mc1 ms1).locals ≤ (mRoom d mc ms).locals := ⟨by show d1 + 1 + 1 ≤ d + 1; omega, by show 8 + (J.2.2.1 + 11) + 60 * (d1 + 1) ≤ 60 * (d + 1); omega⟩
  have hcb : (Cond.code J.1 J.2.1 J.2.2.1 J.2.2.2.1).before args s = true := F.ts _ hJ.1
  have hib : (Cond.initialized J.1.cls).before args s = true := F.ts _ hJ.2.1
  have hM := mMet hJ.2.2.2.1 hml.1 hcat hC
  have hpre : PreS s H (mPc G as μ ex) (as.map (mTr G)) := ⟨mPc_blind, fun U hU hW => ⟨rfl, mWd_moved F.wd hW hU hS, by rw [hU]; exact hP, fun h => by rw [hU]; exact (hX h).1⟩⟩
  have hrun : va_Run p (gL G) e (mRoom d mc ms) s m args below meth c H locs nc ns mc1 ms1 (F0 m pc ls ((as.reverse ++ st).map (mTr G))) (st.map (mTr G)) (mQc G Q1 (as.map (mTr G)).toArray) (mA G) :=
    va_runS ⟨F.1, F.2.1, F.2.2.2.2.1, F.own ho, F.ts⟩ hM (n := J.2.2.2.2.2) ⟨⟨rfl, rfl, hrm.1, hrm.2, pay_in F.ts hgi, List.mem_cons_self, hcb, hib, ⟨hJ.2.2.1.1, hJ.2.2.1.2.1⟩, mSig hJ, F.ts _ hw.1⟩, F.ts _ hw.2⟩ hpre rfl (by rw [List.length_map]; exact hnp) hl.1 (by simp) (mRest G _ _ _ _ _ hst) hd ⟨hmc, hms⟩
  refine mGo (Q' := Q1) hrun hS (fun r μ1 ex1 H1 locs1 hq hP1 hS1 hx1 => ?_)
  have hk := k r μ1 ex1 hq p e s m args below meth c H1 locs1 ls F hP1 hS1 (fun h => by
    have a1 := hx1 h
    obtain ⟨a2, a3⟩ := hex r μ1 ex1 hq h
    have a4 := hX a2
    exact ⟨a1, by omega⟩) hl hn hc
  have e9 : (r.toList ++ st).map (mTr G) = (r.map (mTr G)).toList ++ st.map (mTr G) := by cases r <;> rfl
  rw [e9] at hk
  exact hk
theorem T_callI {q kd : Nat} {i d1 mc1 ms1 : Nat} {as : List Value} {J : mI} {Q1 : mQ} (hd : decode I.2.1 pc = .ok (.invokespecial i, 3)) (ho : mOwn.getD I.2.2.2.2.1 "" = I.1.cls) (hf : (mCa I.2.2.2.2.1).lookup i = some (kd, J)) (hkd : kd = 2 ∨ kd = 5) (hrt : J.2.2.2.1 = none) (hnp : as.length = J.2.2.2.2.2) (hml : as.length + 1 ≤ J.2.2.1 ∧ J.2.2.1 ≤ 40) (hcat : ∀ v ∈ as, v.category = 1) (hst : (st.map fun v => v.category).sum ≤ 8) (hdd : d1 < d) (hmc : nc + mc1 ≤ mc) (hms : ns + ms1 ≤ ms) (hC : mC G J d1 mc1 ms1 (.ref q :: as) μ ex Q1) (hex : ∀ r μ1 ex1, Q1 r μ1 ex1 → ex1 = true → ex = true ∧ μ1.length = μ.length + mc1) (k : ∀ r μ1 ex1, Q1 r μ1 ex1 → mT G I d mc ms (pc + 3) lo (r.toList ++ st) μ1 ex1 (nc + mc1) (ns + ms1) Q) : mT G I d mc ms pc lo (as.reverse ++ .ref q :: st) μ ex nc ns Q := by
  intro p e s m args below meth c H locs ls F hP hS hX hl hn hc
  obtain ⟨hJ, hw⟩ := mCa_ok _ _ (mLk hf)
  have hgi := mGood_in hJ
  have hrm : (mRoom d1 mc1 ms1).frames + 1 ≤ (mRoom d mc ms).frames ∧ 8 + (J.2.2.1 + 11) + (mRoom d1 mc1 ms1).locals ≤ (mRoom d mc ms).locals := ⟨by show d1 + 1 + 1 ≤ d + 1; omega, by show 8 + (J.2.2.1 + 11) + 60 * (d1 + 1) ≤ 60 * (d + 1); omega⟩
  have hcb : (Cond.code J.1 J.2.1 J.2.2.1 J.2.2.2.1).before args s = true := F.ts _ hJ.1
  have hib : (Cond.initialized J.1.cls).before args s = true := F.ts _ hJ.2.1
  have hM := mMet hJ.2.2.2.1 (by exact hml.1) (fun v hv => (List.mem_cons.mp hv).elim (fun h => by rw [h]; rfl) (hcat v)) hC
  have hpre : PreS s H (mPc G (.ref q :: as) μ ex) (Value.ref (mAd G q) :: as.map (mTr G)) := ⟨mPc_blind, fun U hU hW => ⟨rfl, mWd_moved F.wd hW hU hS, by rw [hU]; exact hP, fun h => by rw [hU]; exact (hX h).1⟩⟩
  obtain ⟨y, bytes, maxL, ret, own, np⟩ := J
  have hrt : ret = none := hrt
  subst hrt
  have hrun : va_Run p (gL G) e (mRoom d mc ms) s m args below meth c H locs nc ns mc1 ms1 (F0 m pc ls ((as.reverse ++ .ref q :: st).map (mTr G))) (st.map (mTr G)) (mQc G Q1 (Value.ref (mAd G q) :: as.map (mTr G)).toArray) (mA G) := by
    rcases hkd with rfl | rfl
    · exact va_runI ⟨F.1, F.2.1, F.2.2.2.2.1, F.own ho, F.ts⟩ hM (n := np) ⟨⟨rfl, rfl, hrm.1, hrm.2, pay_in F.ts hgi, List.mem_cons_self, hcb, hib, ⟨hJ.2.2.1.1, hJ.2.2.1.2.1⟩, mSig hJ, F.ts _ hw.1⟩, hw.2.2, F.ts _ hw.2.1⟩ hpre rfl (by rw [List.length_map]; exact hnp) hl.1 (by simp [mTr]) (mRest G _ _ _ _ _ hst) hd ⟨hmc, hms⟩
    · exact va_runIN ⟨F.1, F.2.1, F.2.2.2.2.1, F.own ho, F.ts⟩ hM (n := np) ⟨⟨⟨rfl, rfl, hrm.1, hrm.2, pay_in F.ts hgi, List.mem_cons_self⟩, hcb, hib, ⟨hJ.2.2.1.1, hJ.2.2.1.2.1⟩, mSig hJ, F.nest hw.1 rfl rfl⟩, hw.2.2, F.ts _ hw.2.1⟩ hpre rfl (by rw [List.length_map]; exact hnp) hl.1 (by simp [mTr]) (mRest G _ _ _ _ _ hst) hd ⟨hmc, hms⟩
  refine mGo (Q' := Q1) hrun hS (fun r μ1 ex1 H1 locs1 hq hP1 hS1 hx1 => ?_)
  have hk := k r μ1 ex1 hq p e s m args below meth c H1 locs1 ls F hP1 hS1 (fun h => by
    have a1 := hx1 h
    obtain ⟨a2, a3⟩ := hex r μ1 ex1 hq h
    have a4 := hX a2
    exact ⟨a1, by omega⟩) hl hn hc
  have e9 : (r.toList ++ st).map (mTr G) = (r.map (mTr G)).toList ++ st.map (mTr G) := by cases r <;> rfl
  rw [e9] at hk
  exact hk
end CA
end
section
/-! ===== the memory once all objects are made: only numbers change ===== -/
abbrev mS : Type := Nat → Nat → Int32
/-- an object: its class, its fields (a number, or a reference that stays); an array of numbers: its tag, its length; the row of references -/
abbrev mSE : Type := (Nat × List (Option Nat)) ⊕ (Nat × Nat) ⊕ (List Nat)
def mSh : List mSE := [
  .inl (4, [some 4, some 12, none, none, some 13, some 29, some 40, some 51]),
  .inl (3, [none, some 5, some 6, some 7, none, some 8, some 9, some 10, some 11]),
  .inr (.inl (0, 6)),
  .inr (.inl (0, 6)),
  .inr (.inl (0, 420)),
  .inr (.inl (0, 4)),
  .inr (.inl (0, 4)),
  .inr (.inl (0, 6)),
  .inr (.inl (0, 8)),
  .inr (.inr [52, 60, 68, 76, 84, 92, 100, 108]),
  .inl (2, [some 14, some 19, none, none, none, none, none, some 27, some 28]),
  .inl (1, [some 15, none, some 16, some 17, some 18, none]),
  .inr (.inl (1, 400)),
  .inr (.inl (0, 401)),
  .inr (.inl (0, 401)),
  .inr (.inl (0, 401)),
  .inl (3, [none, some 20, some 21, some 22, none, some 23, some 24, some 25, some 26]),
  .inr (.inl (0, 6)),
  .inr (.inl (0, 6)),
  .inr (.inl (0, 420)),
  .inr (.inl (0, 4)),
  .inr (.inl (0, 4)),
  .inr (.inl (0, 6)),
  .inr (.inl (0, 8)),
  .inr (.inl (0, 4)),
  .inr (.inl (0, 4)),
  .inl (0, [some 30, some 31, some 32, some 33, some 34, some 35, some 36, some 37, some 38, some 39, none, none]),
  .inr (.inl (0, 8)),
  .inr (.inl (0, 6)),
  .inr (.inl (0, 70)),
  .inr (.inl (2, 70)),
  .inr (.inl (0, 70)),
  .inr (.inl (0, 71)),
  .inr (.inl (0, 71)),
  .inr (.inl (0, 71)),
  .inr (.inl (0, 71)),
  .inr (.inl (2, 70)),
  .inl (0, [some 41, some 42, some 43, some 44, some 45, some 46, some 47, some 48, some 49, some 50, none, none]),
  .inr (.inl (0, 8)),
  .inr (.inl (0, 6)),
  .inr (.inl (0, 70)),
  .inr (.inl (2, 70)),
  .inr (.inl (0, 70)),
  .inr (.inl (0, 71)),
  .inr (.inl (0, 71)),
  .inr (.inl (0, 71)),
  .inr (.inl (0, 71)),
  .inr (.inl (2, 70)),
  .inr (.inl (0, 6)),
  .inl (3, [none, some 53, some 54, some 55, none, some 56, some 57, some 58, some 59]),
  .inr (.inl (0, 6)),
  .inr (.inl (0, 6)),
  .inr (.inl (0, 420)),
  .inr (.inl (0, 4)),
  .inr (.inl (0, 4)),
  .inr (.inl (0, 6)),
  .inr (.inl (0, 8)),
  .inl (3, [none, some 61, some 62, some 63, none, some 64, some 65, some 66, some 67]),
  .inr (.inl (0, 6)),
  .inr (.inl (0, 6)),
  .inr (.inl (0, 420)),
  .inr (.inl (0, 4)),
  .inr (.inl (0, 4)),
  .inr (.inl (0, 6)),
  .inr (.inl (0, 8)),
  .inl (3, [none, some 69, some 70, some 71, none, some 72, some 73, some 74, some 75]),
  .inr (.inl (0, 6)),
  .inr (.inl (0, 6)),
  .inr (.inl (0, 420)),
  .inr (.inl (0, 4)),
  .inr (.inl (0, 4)),
  .inr (.inl (0, 6)),
  .inr (.inl (0, 8)),
  .inl (3, [none, some 77, some 78, some 79, none, some 80, some 81, some 82, some 83]),
  .inr (.inl (0, 6)),
  .inr (.inl (0, 6)),
  .inr (.inl (0, 420)),
  .inr (.inl (0, 4)),
  .inr (.inl (0, 4)),
  .inr (.inl (0, 6)),
  .inr (.inl (0, 8)),
  .inl (3, [none, some 85, some 86, some 87, none, some 88, some 89, some 90, some 91]),
  .inr (.inl (0, 6)),
  .inr (.inl (0, 6)),
  .inr (.inl (0, 420)),
  .inr (.inl (0, 4)),
  .inr (.inl (0, 4)),
  .inr (.inl (0, 6)),
  .inr (.inl (0, 8)),
  .inl (3, [none, some 93, some 94, some 95, none, some 96, some 97, some 98, some 99]),
  .inr (.inl (0, 6)),
  .inr (.inl (0, 6)),
  .inr (.inl (0, 420)),
  .inr (.inl (0, 4)),
  .inr (.inl (0, 4)),
  .inr (.inl (0, 6)),
  .inr (.inl (0, 8)),
  .inl (3, [none, some 101, some 102, some 103, none, some 104, some 105, some 106, some 107]),
  .inr (.inl (0, 6)),
  .inr (.inl (0, 6)),
  .inr (.inl (0, 420)),
  .inr (.inl (0, 4)),
  .inr (.inl (0, 4)),
  .inr (.inl (0, 6)),
  .inr (.inl (0, 8)),
  .inl (3, [none, some 109, some 110, some 111, none, some 112, some 113, some 114, some 115]),
  .inr (.inl (0, 6)),
  .inr (.inl (0, 6)),
  .inr (.inl (0, 420)),
  .inr (.inl (0, 4)),
  .inr (.inl (0, 4)),
  .inr (.inl (0, 6)),
  .inr (.inl (0, 8)),
  .inl (5, [none, some 117, some 118, some 119, none, some 120, none, none, none, none, none, some 121, some 122, some 123, none, none, none, some 124, some 125, some 126, some 127, some 128, some 129, none, none, none, some 130]),
  .inr (.inl (0, 460)),
  .inr (.inl (0, 3680)),
  .inr (.inl (0, 460)),
  .inr (.inl (1, 400)),
  .inr (.inl (0, 70)),
  .inr (.inl (0, 5)),
  .inr (.inl (0, 5)),
  .inr (.inl (0, 70)),
  .inr (.inl (0, 70)),
  .inr (.inl (0, 70)),
  .inr (.inl (0, 71)),
  .inr (.inl (2, 70)),
  .inr (.inl (2, 70)),
  .inr (.inl (0, 70)),
  .inr (.inl (0, 14)),
  .inr (.inl (3, 1))]
def sh (a : Nat) : Option mSE := if a < 3 then none else mSh[a - 3]?
def mCell (σ : mS) (a : Nat) : mSE → va_E
  | .inl (ci, fs) => .inr (ci, fs.mapIdx (fun i f => match f with | none => .int (σ a i) | some r => .ref r))
  | .inr (.inl (t, n)) => if t = 3 then .inl (3, n, .inr (.inl (fun j => (σ a j).toInt64))) else .inl (t, n, .inl (σ a))
  | .inr (.inr rs) => .inl (4, rs.length, .inr (.inr (.inr (.inr (fun j => rs[j]?)))))
def mFz (σ : mS) : List va_E := mSh.mapIdx (fun k e => mCell σ (k + 3) e)
def upR (σ : mS) (a : Nat) (f : Nat → Int32) : mS := fun b => if b = a then f else σ b
def up (σ : mS) (a i : Nat) (v : Int32) : mS := upR σ a (upd (σ a) i v)
theorem upR_s (σ : mS) (a : Nat) (f : Nat → Int32) : upR σ a f a = f := by simp [upR]
theorem upR_n (σ : mS) {a b : Nat} (f : Nat → Int32) (h : b ≠ a) : upR σ a f b = σ b := by simp [upR, h]
theorem up_s (σ : mS) (a i : Nat) (v : Int32) : up σ a i v a i = v := by simp [up, upR, upd]
theorem up_r (σ : mS) (a : Nat) (v : Int32) {i j : Nat} (h : j ≠ i) : up σ a i v a j = σ a j := by simp [up, upR, upd, h]
theorem up_n (σ : mS) {a b : Nat} (i : Nat) (v : Int32) (h : b ≠ a) : up σ a i v b = σ b := by simp [up, upR, h]
theorem sh_c {a : Nat} {e : mSE} (h : sh a = some e) : ∃ k, a = k + 3 ∧ mSh[k]? = some e := by
  unfold sh at h
  split at h
  · cases h
  · exact ⟨a - 3, by omega, h⟩
theorem mFz_get {σ : mS} {k : Nat} {e : mSE} (h : mSh[k]? = some e) : (mFz σ)[k]? = some (mCell σ (k + 3) e) := by
  simp [mFz, List.getElem?_mapIdx, h]
theorem mFz_set {σ : mS} {k : Nat} {e : mSE} (h : mSh[k]? = some e) (f : Nat → Int32) : (mFz σ).set k (mCell (upR σ (k + 3) f) (k + 3) e) = mFz (upR σ (k + 3) f) := by
  have hk : k < mSh.length := (List.getElem?_eq_some_iff.mp h).1
  apply List.ext_getElem?
  intro j
  rw [List.getElem?_set]
  by_cases hj : k = j
  · subst hj
    rw [if_pos rfl, mFz_get h, if_pos (by simp [mFz, hk])]
  · rw [if_neg hj]
    have hc : ∀ e : mSE, mCell (upR σ (k + 3) f) (j + 3) e = mCell σ (j + 3) e := by
      intro e
      have hr : upR σ (k + 3) f (j + 3) = σ (j + 3) := upR_n σ f (by omega)
      unfold mCell
      rw [hr]
    simp only [mFz, List.getElem?_mapIdx]
    cases mSh[j]? with
    | none => rfl
    | some e => simp [hc e]
/-- the walk over such a memory -/
def mF (G : mG) (I : mI) (d pc : Nat) (lo : List (Option Value)) (st : List Value) (σ : mS) (Q : Option Value → mS → Prop) : Prop := mT G I d 0 0 pc lo st (mFz σ) false 0 0 (fun r μ ex => ex = false ∧ ∃ σ' : mS, μ = mFz σ' ∧ Q r σ')
/-- the method J, called with as over σ, answers r and leaves σ1 -/
def mV (G : mG) (J : mI) (d : Nat) (as : List Value) (σ : mS) (r : Option Value) (σ1 : mS) : Prop := mF G J d 0 (mLo J as) [] σ (fun r' σ' => r' = r ∧ σ' = σ1)
theorem nI_mul (a b : Nat) : nI a * nI b = nI (a * b) := by simp [nI, Int32.ofNat_mul]
theorem nI_sub {a b : Nat} (h : b ≤ a) : nI a - nI b = nI (a - b) := by
  have : nI (a - b) + nI b = nI a := by rw [nI_add]; congr 1; omega
  rw [← this]
  exact Int32.add_sub_cancel _ _
theorem nI_inj {a b : Nat} (ha : a < 2 ^ 31) (hb : b < 2 ^ 31) (h : nI a = nI b) : a = b := by
  have := congrArg Int32.toNatClampNeg h
  rwa [nI_clamp ha, nI_clamp hb] at this
theorem nI_le_iff {a b : Nat} (ha : a < 2 ^ 31) (hb : b < 2 ^ 31) : nI a ≤ nI b ↔ a ≤ b := by
  rw [Int32.le_iff_toInt_le, nI_toInt ha, nI_toInt hb]; omega
theorem nI_lt_iff {a b : Nat} (ha : a < 2 ^ 31) (hb : b < 2 ^ 31) : nI a < nI b ↔ a < b := by
  rw [Int32.lt_iff_toInt_lt, nI_toInt ha, nI_toInt hb]; omega
theorem nI_eq_iff {a b : Nat} (ha : a < 2 ^ 31) (hb : b < 2 ^ 31) : nI a = nI b ↔ a = b := ⟨nI_inj ha hb, fun h => by rw [h]⟩
theorem nI_in2 {j n : Nat} (h : j < n) (hn : n < 2 ^ 31) : vp_in (nI j) n := vp_in_nI h (by omega)
section FR
variable {G : mG} {I : mI} {d pc : Nat} {lo : List (Option Value)} {st : List Value} {σ : mS} {Q : Option Value → mS → Prop}
theorem F_iconst {n : Int} {v : Int32} (hd : decode I.2.1 pc = .ok (.iconst n, 1)) (hv : Int32.ofInt n = v) (k : mF G I d (pc + 1) lo (.int v :: st) σ Q) : mF G I d pc lo st σ Q := T_iconst hd hv k
theorem F_bipush {n : Int} {v : Int32} (hd : decode I.2.1 pc = .ok (.bipush n, 2)) (hv : (Int8.ofInt n).toInt32 = v) (k : mF G I d (pc + 2) lo (.int v :: st) σ Q) : mF G I d pc lo st σ Q := T_bipush hd hv k
theorem F_sipush {n : Int} {v : Int32} (hd : decode I.2.1 pc = .ok (.sipush n, 3)) (hv : (Int16.ofInt n).toInt32 = v) (k : mF G I d (pc + 3) lo (.int v :: st) σ Q) : mF G I d pc lo st σ Q := T_sipush hd hv k
theorem F_iload_n {k0 : Fin 4} {x : Int32} (hd : decode I.2.1 pc = .ok (.iload_n k0, 1)) (hx : lo[(k0 : Nat)]? = some (some (.int x))) (k : mF G I d (pc + 1) lo (.int x :: st) σ Q) : mF G I d pc lo st σ Q := T_iload_n hd hx k
theorem F_iload {i : Nat} {x : Int32} (hd : decode I.2.1 pc = .ok (.iload i, 2)) (hx : lo[i]? = some (some (.int x))) (k : mF G I d (pc + 2) lo (.int x :: st) σ Q) : mF G I d pc lo st σ Q := T_iload hd hx k
theorem F_aload_n {k0 : Fin 4} {x : Nat} (hd : decode I.2.1 pc = .ok (.aload_n k0, 1)) (hx : lo[(k0 : Nat)]? = some (some (.ref x))) (k : mF G I d (pc + 1) lo (.ref x :: st) σ Q) : mF G I d pc lo st σ Q := T_aload_n hd hx k
theorem F_aload {i : Nat} {x : Nat} (hd : decode I.2.1 pc = .ok (.aload i, 2)) (hx : lo[i]? = some (some (.ref x))) (k : mF G I d (pc + 2) lo (.ref x :: st) σ Q) : mF G I d pc lo st σ Q := T_aload hd hx k
theorem F_iadd {x y : Int32} (hd : decode I.2.1 pc = .ok (.iadd, 1))  (k : mF G I d (pc + 1) lo (.int (x + y) :: st) σ Q) : mF G I d pc lo (.int y :: .int x :: st) σ Q := T_iadd hd k
theorem F_isub {x y : Int32} (hd : decode I.2.1 pc = .ok (.isub, 1))  (k : mF G I d (pc + 1) lo (.int (x - y) :: st) σ Q) : mF G I d pc lo (.int y :: .int x :: st) σ Q := T_isub hd k
theorem F_imul {x y : Int32} (hd : decode I.2.1 pc = .ok (.imul, 1))  (k : mF G I d (pc + 1) lo (.int (x * y) :: st) σ Q) : mF G I d pc lo (.int y :: .int x :: st) σ Q := T_imul hd k
theorem F_iand {x y : Int32} (hd : decode I.2.1 pc = .ok (.iand, 1))  (k : mF G I d (pc + 1) lo (.int (x &&& y) :: st) σ Q) : mF G I d pc lo (.int y :: .int x :: st) σ Q := T_iand hd k
theorem F_ior {x y : Int32} (hd : decode I.2.1 pc = .ok (.ior, 1))  (k : mF G I d (pc + 1) lo (.int (x ||| y) :: st) σ Q) : mF G I d pc lo (.int y :: .int x :: st) σ Q := T_ior hd k
theorem F_ishl {x y : Int32} (hd : decode I.2.1 pc = .ok (.ishl, 1))  (k : mF G I d (pc + 1) lo (.int (x <<< (y &&& 31)) :: st) σ Q) : mF G I d pc lo (.int y :: .int x :: st) σ Q := T_ishl hd k
theorem F_ishr {x y : Int32} (hd : decode I.2.1 pc = .ok (.ishr, 1))  (k : mF G I d (pc + 1) lo (.int (x >>> (y &&& 31)) :: st) σ Q) : mF G I d pc lo (.int y :: .int x :: st) σ Q := T_ishr hd k
theorem F_idiv {x y : Int32} (hd : decode I.2.1 pc = .ok (.idiv, 1)) (hne : ¬ y = 0) (k : mF G I d (pc + 1) lo (.int (x / y) :: st) σ Q) : mF G I d pc lo (.int y :: .int x :: st) σ Q := T_idiv hd hne k
theorem F_irem {x y : Int32} (hd : decode I.2.1 pc = .ok (.irem, 1)) (hne : ¬ y = 0) (k : mF G I d (pc + 1) lo (.int (x - x / y * y) :: st) σ Q) : mF G I d pc lo (.int y :: .int x :: st) σ Q := T_irem hd hne k
theorem F_i2b {x : Int32} (hd : decode I.2.1 pc = .ok (.i2b, 1))  (k : mF G I d (pc + 1) lo (.int x.toInt8.toInt32 :: st) σ Q) : mF G I d pc lo (.int x :: st) σ Q := T_i2b hd k
theorem F_i2l {x : Int32} (hd : decode I.2.1 pc = .ok (.i2l, 1))  (k : mF G I d (pc + 1) lo (.long x.toInt64 :: st) σ Q) : mF G I d pc lo (.int x :: st) σ Q := T_i2l hd k
theorem F_lcmp {x y : Int64} (hd : decode I.2.1 pc = .ok (.lcmp, 1))  (k : mF G I d (pc + 1) lo (.int (lg_cmp x y) :: st) σ Q) : mF G I d pc lo (.long y :: .long x :: st) σ Q := T_lcmp hd k
theorem F_dup {v : Value} (hd : decode I.2.1 pc = .ok (.dup, 1)) (hv : v.category = 1) (k : mF G I d (pc + 1) lo (v :: v :: st) σ Q) : mF G I d pc lo (v :: st) σ Q := T_dup hd hv k
theorem F_dup2 {v w : Value} (hd : decode I.2.1 pc = .ok (.dup2, 1)) (hv : v.category = 1) (hw : w.category = 1) (k : mF G I d (pc + 1) lo (v :: w :: v :: w :: st) σ Q) : mF G I d pc lo (v :: w :: st) σ Q := T_dup2 hd hv hw k
theorem F_pop {v : Value} (hd : decode I.2.1 pc = .ok (.pop, 1)) (hv : v.category = 1) (k : mF G I d (pc + 1) lo st σ Q) : mF G I d pc lo (v :: st) σ Q := T_pop hd hv k
theorem F_istore_n {k0 : Fin 4} {x : Int32} (hd : decode I.2.1 pc = .ok (.istore_n k0, 1)) (hi : (k0 : Nat) < lo.length) (k : mF G I d (pc + 1) (lo.set (k0 : Nat) (some (.int x))) st σ Q) : mF G I d pc lo (.int x :: st) σ Q := T_istore_n hd hi k
theorem F_istore {i : Nat} {x : Int32} (hd : decode I.2.1 pc = .ok (.istore i, 2)) (hi : i < lo.length) (k : mF G I d (pc + 2) (lo.set i (some (.int x))) st σ Q) : mF G I d pc lo (.int x :: st) σ Q := T_istore hd hi k
theorem F_astore_n {k0 : Fin 4} {x : Nat} (hd : decode I.2.1 pc = .ok (.astore_n k0, 1)) (hi : (k0 : Nat) < lo.length) (k : mF G I d (pc + 1) (lo.set (k0 : Nat) (some (.ref x))) st σ Q) : mF G I d pc lo (.ref x :: st) σ Q := T_astore_n hd hi k
theorem F_astore {i : Nat} {x : Nat} (hd : decode I.2.1 pc = .ok (.astore i, 2)) (hi : i < lo.length) (k : mF G I d (pc + 2) (lo.set i (some (.ref x))) st σ Q) : mF G I d pc lo (.ref x :: st) σ Q := T_astore hd hi k
theorem F_iinc {i : Nat} {n : Int} {x v : Int32} (hd : decode I.2.1 pc = .ok (.iinc i n, 3)) (hx : lo[i]? = some (some (.int x))) (hv : x + Int32.ofInt n = v) (k : mF G I d (pc + 3) (lo.set i (some (.int v))) st σ Q) : mF G I d pc lo st σ Q := T_iinc hd hx hv k
theorem F_iincN {i x : Nat} (hd : decode I.2.1 pc = .ok (.iinc i 1, 3)) (hx : lo[i]? = some (some (.int (nI x)))) (k : mF G I d (pc + 3) (lo.set i (some (.int (nI (x + 1))))) st σ Q) : mF G I d pc lo st σ Q := T_iinc hd hx (by rw [nI_succ]; rfl) k
theorem F_goto {off : Int} {tgt : Nat} (hd : decode I.2.1 pc = .ok (.goto off, 3)) (ht : (pc : Int) + off = (tgt : Int)) (k : mF G I d tgt lo st σ Q) : mF G I d pc lo st σ Q := T_goto hd ht k
theorem F_icmp_eq {x y : Int32} {off : Int} {tgt : Nat} (hd : decode I.2.1 pc = .ok (.if_icmp .eq off, 3)) (ht : (pc : Int) + off = (tgt : Int)) (kt : x = y → mF G I d tgt lo st σ Q) (kf : ¬ x = y → mF G I d (pc + 3) lo st σ Q) : mF G I d pc lo (.int y :: .int x :: st) σ Q := T_icmp_eq hd ht kt kf
theorem F_icmp_eqN {x y : Nat} {off : Int} {tgt : Nat} (hd : decode I.2.1 pc = .ok (.if_icmp .eq off, 3)) (ht : (pc : Int) + off = (tgt : Int)) (hx : x < 2 ^ 31) (hy : y < 2 ^ 31) (kt : x = y → mF G I d tgt lo st σ Q) (kf : ¬ (x = y) → mF G I d (pc + 3) lo st σ Q) : mF G I d pc lo (.int (nI y) :: .int (nI x) :: st) σ Q := by
  exact T_icmp_eq hd ht (fun h => kt ((nI_eq_iff hx hy).mp h)) (fun h => kf (fun z => h ((nI_eq_iff hx hy).mpr z)))
theorem F_if_eq {x : Int32} {off : Int} {tgt : Nat} (hd : decode I.2.1 pc = .ok (.ifCond .eq off, 3)) (ht : (pc : Int) + off = (tgt : Int)) (kt : x = 0 → mF G I d tgt lo st σ Q) (kf : ¬ x = 0 → mF G I d (pc + 3) lo st σ Q) : mF G I d pc lo (.int x :: st) σ Q := T_if_eq hd ht kt kf
theorem F_icmp_ne {x y : Int32} {off : Int} {tgt : Nat} (hd : decode I.2.1 pc = .ok (.if_icmp .ne off, 3)) (ht : (pc : Int) + off = (tgt : Int)) (kt : ¬ x = y → mF G I d tgt lo st σ Q) (kf : x = y → mF G I d (pc + 3) lo st σ Q) : mF G I d pc lo (.int y :: .int x :: st) σ Q := T_icmp_ne hd ht kt kf
theorem F_icmp_neN {x y : Nat} {off : Int} {tgt : Nat} (hd : decode I.2.1 pc = .ok (.if_icmp .ne off, 3)) (ht : (pc : Int) + off = (tgt : Int)) (hx : x < 2 ^ 31) (hy : y < 2 ^ 31) (kt : ¬ x = y → mF G I d tgt lo st σ Q) (kf : ¬ (¬ x = y) → mF G I d (pc + 3) lo st σ Q) : mF G I d pc lo (.int (nI y) :: .int (nI x) :: st) σ Q := by
  exact T_icmp_ne hd ht (fun h => kt (fun z => h ((nI_eq_iff hx hy).mpr z))) (fun h => kf (fun z => z ((nI_eq_iff hx hy).mp h)))
theorem F_if_ne {x : Int32} {off : Int} {tgt : Nat} (hd : decode I.2.1 pc = .ok (.ifCond .ne off, 3)) (ht : (pc : Int) + off = (tgt : Int)) (kt : ¬ x = 0 → mF G I d tgt lo st σ Q) (kf : x = 0 → mF G I d (pc + 3) lo st σ Q) : mF G I d pc lo (.int x :: st) σ Q := T_if_ne hd ht kt kf
theorem F_icmp_lt {x y : Int32} {off : Int} {tgt : Nat} (hd : decode I.2.1 pc = .ok (.if_icmp .lt off, 3)) (ht : (pc : Int) + off = (tgt : Int)) (kt : x < y → mF G I d tgt lo st σ Q) (kf : ¬ x < y → mF G I d (pc + 3) lo st σ Q) : mF G I d pc lo (.int y :: .int x :: st) σ Q := T_icmp_lt hd ht kt kf
theorem F_icmp_ltN {x y : Nat} {off : Int} {tgt : Nat} (hd : decode I.2.1 pc = .ok (.if_icmp .lt off, 3)) (ht : (pc : Int) + off = (tgt : Int)) (hx : x < 2 ^ 31) (hy : y < 2 ^ 31) (kt : x < y → mF G I d tgt lo st σ Q) (kf : ¬ (x < y) → mF G I d (pc + 3) lo st σ Q) : mF G I d pc lo (.int (nI y) :: .int (nI x) :: st) σ Q := by
  exact T_icmp_lt hd ht (fun h => kt ((nI_lt_iff hx hy).mp h)) (fun h => kf (fun z => h ((nI_lt_iff hx hy).mpr z)))
theorem F_if_lt {x : Int32} {off : Int} {tgt : Nat} (hd : decode I.2.1 pc = .ok (.ifCond .lt off, 3)) (ht : (pc : Int) + off = (tgt : Int)) (kt : x < 0 → mF G I d tgt lo st σ Q) (kf : ¬ x < 0 → mF G I d (pc + 3) lo st σ Q) : mF G I d pc lo (.int x :: st) σ Q := T_if_lt hd ht kt kf
theorem F_icmp_ge {x y : Int32} {off : Int} {tgt : Nat} (hd : decode I.2.1 pc = .ok (.if_icmp .ge off, 3)) (ht : (pc : Int) + off = (tgt : Int)) (kt : y ≤ x → mF G I d tgt lo st σ Q) (kf : ¬ y ≤ x → mF G I d (pc + 3) lo st σ Q) : mF G I d pc lo (.int y :: .int x :: st) σ Q := T_icmp_ge hd ht kt kf
theorem F_icmp_geN {x y : Nat} {off : Int} {tgt : Nat} (hd : decode I.2.1 pc = .ok (.if_icmp .ge off, 3)) (ht : (pc : Int) + off = (tgt : Int)) (hx : x < 2 ^ 31) (hy : y < 2 ^ 31) (kt : y ≤ x → mF G I d tgt lo st σ Q) (kf : ¬ (y ≤ x) → mF G I d (pc + 3) lo st σ Q) : mF G I d pc lo (.int (nI y) :: .int (nI x) :: st) σ Q := by
  exact T_icmp_ge hd ht (fun h => kt ((nI_le_iff hy hx).mp h)) (fun h => kf (fun z => h ((nI_le_iff hy hx).mpr z)))
theorem F_if_ge {x : Int32} {off : Int} {tgt : Nat} (hd : decode I.2.1 pc = .ok (.ifCond .ge off, 3)) (ht : (pc : Int) + off = (tgt : Int)) (kt : 0 ≤ x → mF G I d tgt lo st σ Q) (kf : ¬ 0 ≤ x → mF G I d (pc + 3) lo st σ Q) : mF G I d pc lo (.int x :: st) σ Q := T_if_ge hd ht kt kf
theorem F_icmp_gt {x y : Int32} {off : Int} {tgt : Nat} (hd : decode I.2.1 pc = .ok (.if_icmp .gt off, 3)) (ht : (pc : Int) + off = (tgt : Int)) (kt : y < x → mF G I d tgt lo st σ Q) (kf : ¬ y < x → mF G I d (pc + 3) lo st σ Q) : mF G I d pc lo (.int y :: .int x :: st) σ Q := T_icmp_gt hd ht kt kf
theorem F_icmp_gtN {x y : Nat} {off : Int} {tgt : Nat} (hd : decode I.2.1 pc = .ok (.if_icmp .gt off, 3)) (ht : (pc : Int) + off = (tgt : Int)) (hx : x < 2 ^ 31) (hy : y < 2 ^ 31) (kt : y < x → mF G I d tgt lo st σ Q) (kf : ¬ (y < x) → mF G I d (pc + 3) lo st σ Q) : mF G I d pc lo (.int (nI y) :: .int (nI x) :: st) σ Q := by
  exact T_icmp_gt hd ht (fun h => kt ((nI_lt_iff hy hx).mp h)) (fun h => kf (fun z => h ((nI_lt_iff hy hx).mpr z)))
theorem F_if_gt {x : Int32} {off : Int} {tgt : Nat} (hd : decode I.2.1 pc = .ok (.ifCond .gt off, 3)) (ht : (pc : Int) + off = (tgt : Int)) (kt : 0 < x → mF G I d tgt lo st σ Q) (kf : ¬ 0 < x → mF G I d (pc + 3) lo st σ Q) : mF G I d pc lo (.int x :: st) σ Q := T_if_gt hd ht kt kf
theorem F_icmp_le {x y : Int32} {off : Int} {tgt : Nat} (hd : decode I.2.1 pc = .ok (.if_icmp .le off, 3)) (ht : (pc : Int) + off = (tgt : Int)) (kt : x ≤ y → mF G I d tgt lo st σ Q) (kf : ¬ x ≤ y → mF G I d (pc + 3) lo st σ Q) : mF G I d pc lo (.int y :: .int x :: st) σ Q := T_icmp_le hd ht kt kf
theorem F_icmp_leN {x y : Nat} {off : Int} {tgt : Nat} (hd : decode I.2.1 pc = .ok (.if_icmp .le off, 3)) (ht : (pc : Int) + off = (tgt : Int)) (hx : x < 2 ^ 31) (hy : y < 2 ^ 31) (kt : x ≤ y → mF G I d tgt lo st σ Q) (kf : ¬ (x ≤ y) → mF G I d (pc + 3) lo st σ Q) : mF G I d pc lo (.int (nI y) :: .int (nI x) :: st) σ Q := by
  exact T_icmp_le hd ht (fun h => kt ((nI_le_iff hx hy).mp h)) (fun h => kf (fun z => h ((nI_le_iff hx hy).mpr z)))
theorem F_if_le {x : Int32} {off : Int} {tgt : Nat} (hd : decode I.2.1 pc = .ok (.ifCond .le off, 3)) (ht : (pc : Int) + off = (tgt : Int)) (kt : x ≤ 0 → mF G I d tgt lo st σ Q) (kf : ¬ x ≤ 0 → mF G I d (pc + 3) lo st σ Q) : mF G I d pc lo (.int x :: st) σ Q := T_if_le hd ht kt kf
theorem F_if_eqN {x : Nat} {off : Int} {tgt : Nat} (hd : decode I.2.1 pc = .ok (.ifCond .eq off, 3)) (ht : (pc : Int) + off = (tgt : Int)) (hx : x < 2 ^ 31) (kt : x = 0 → mF G I d tgt lo st σ Q) (kf : ¬ x = 0 → mF G I d (pc + 3) lo st σ Q) : mF G I d pc lo (.int (nI x) :: st) σ Q := T_if_eq hd ht (fun h => kt ((nI_eq_iff hx (by omega)).mp h)) (fun h => kf (fun z => h (by rw [z]; rfl)))
theorem F_if_neN {x : Nat} {off : Int} {tgt : Nat} (hd : decode I.2.1 pc = .ok (.ifCond .ne off, 3)) (ht : (pc : Int) + off = (tgt : Int)) (hx : x < 2 ^ 31) (kt : ¬ x = 0 → mF G I d tgt lo st σ Q) (kf : x = 0 → mF G I d (pc + 3) lo st σ Q) : mF G I d pc lo (.int (nI x) :: st) σ Q := T_if_ne hd ht (fun h => kt (fun z => h (by rw [z]; rfl))) (fun h => kf ((nI_eq_iff hx (by omega)).mp h))
theorem F_if_gtN {x : Nat} {off : Int} {tgt : Nat} (hd : decode I.2.1 pc = .ok (.ifCond .gt off, 3)) (ht : (pc : Int) + off = (tgt : Int)) (hx : x < 2 ^ 31) (kt : 0 < x → mF G I d tgt lo st σ Q) (kf : x = 0 → mF G I d (pc + 3) lo st σ Q) : mF G I d pc lo (.int (nI x) :: st) σ Q := T_if_gt hd ht (fun h => kt ((nI_lt_iff (a := 0) (by decide) hx).mp h)) (fun h => kf (Nat.eq_zero_of_not_pos fun z => h ((nI_lt_iff (a := 0) (by decide) hx).mpr z)))
theorem F_if_leN {x : Nat} {off : Int} {tgt : Nat} (hd : decode I.2.1 pc = .ok (.ifCond .le off, 3)) (ht : (pc : Int) + off = (tgt : Int)) (hx : x < 2 ^ 31) (kt : x = 0 → mF G I d tgt lo st σ Q) (kf : 0 < x → mF G I d (pc + 3) lo st σ Q) : mF G I d pc lo (.int (nI x) :: st) σ Q := T_if_le hd ht (fun h => kt (Nat.le_zero.mp ((nI_le_iff (b := 0) hx (by decide)).mp h))) (fun h => kf (Nat.pos_of_ne_zero fun z => h ((nI_le_iff (b := 0) hx (by decide)).mpr (by omega))))
theorem F_if_ltN {x : Nat} {off : Int} {tgt : Nat} (hd : decode I.2.1 pc = .ok (.ifCond .lt off, 3)) (ht : (pc : Int) + off = (tgt : Int)) (hx : x < 2 ^ 31) (kf : mF G I d (pc + 3) lo st σ Q) : mF G I d pc lo (.int (nI x) :: st) σ Q := T_if_lt hd ht (fun h => absurd h (nI_pos hx)) (fun _ => kf)
theorem F_if_geN {x : Nat} {off : Int} {tgt : Nat} (hd : decode I.2.1 pc = .ok (.ifCond .ge off, 3)) (ht : (pc : Int) + off = (tgt : Int)) (hx : x < 2 ^ 31) (kt : mF G I d tgt lo st σ Q) : mF G I d pc lo (.int (nI x) :: st) σ Q := T_if_ge hd ht (fun _ => kt) (fun h => absurd (nI_pos' hx) h)
theorem F_iaddN {x y : Nat} (hd : decode I.2.1 pc = .ok (.iadd, 1)) (k : mF G I d (pc + 1) lo (.int (nI (x + y)) :: st) σ Q) : mF G I d pc lo (.int (nI y) :: .int (nI x) :: st) σ Q := T_iadd hd (by rw [nI_add]; exact k)
theorem F_imulN {x y : Nat} (hd : decode I.2.1 pc = .ok (.imul, 1)) (k : mF G I d (pc + 1) lo (.int (nI (x * y)) :: st) σ Q) : mF G I d pc lo (.int (nI y) :: .int (nI x) :: st) σ Q := T_imul hd (by rw [nI_mul]; exact k)
theorem F_isubN {x y : Nat} (hd : decode I.2.1 pc = .ok (.isub, 1)) (h : y ≤ x) (k : mF G I d (pc + 1) lo (.int (nI (x - y)) :: st) σ Q) : mF G I d pc lo (.int (nI y) :: .int (nI x) :: st) σ Q := T_isub hd (by rw [nI_sub h]; exact k)
theorem F_top {x y : Int32} (h : x = y) (k : mF G I d pc lo (.int y :: st) σ Q) : mF G I d pc lo (.int x :: st) σ Q := by rw [h]; exact k
theorem F_lo {lo2 : List (Option Value)} (h : lo = lo2) (k : mF G I d pc lo2 st σ Q) : mF G I d pc lo st σ Q := by rw [h]; exact k
theorem F_sg {σ2 : mS} (h : σ = σ2) (k : mF G I d pc lo st σ2 Q) : mF G I d pc lo st σ Q := by rw [h]; exact k
theorem F_q {Q2 : Option Value → mS → Prop} (h : ∀ r σ1, Q2 r σ1 → Q r σ1) (k : mF G I d pc lo st σ Q2) : mF G I d pc lo st σ Q := by
  intro p e s m args below meth c H locs ls F hP hS hX hl hn hc T hT X
  obtain ⟨t, h1, o, h2, h3, h4, h5⟩ := k p e s m args below meth c H locs ls F hP hS hX hl hn hc T hT X
  refine ⟨t, h1, o, h2, h3, ?_, h5⟩
  obtain ⟨⟨r, μ, ex, ⟨hex, σ1, hμ, hq⟩, h6⟩, h7⟩ := h4
  exact ⟨⟨r, μ, ex, ⟨hex, σ1, hμ, h r σ1 hq⟩, h6⟩, h7⟩
theorem F_tableIn {dflt l0 hi : Int} {offs : Array Int} {len : Nat} {x : Int32} {off : Int} {tgt : Nat} (hd : decode I.2.1 pc = .ok (.tableswitch dflt l0 hi offs, len)) (h1 : ¬ x.toInt < l0) (h2 : ¬ hi < x.toInt) (ho : offs[(x.toInt - l0).toNat]? = some off) (ht : (pc : Int) + off = (tgt : Int)) (k : mF G I d tgt lo st σ Q) : mF G I d pc lo (.int x :: st) σ Q := T_tableIn hd h1 h2 ho ht k
theorem F_tableOut {dflt l0 hi : Int} {offs : Array Int} {len : Nat} {x : Int32} {tgt : Nat} (hd : decode I.2.1 pc = .ok (.tableswitch dflt l0 hi offs, len)) (h : x.toInt < l0 ∨ hi < x.toInt) (ht : (pc : Int) + dflt = (tgt : Int)) (k : mF G I d tgt lo st σ Q) : mF G I d pc lo (.int x :: st) σ Q := T_tableOut hd h ht k
theorem F_lookup {dflt : Int} {ps : Array (Int × Int)} {len : Nat} {x : Int32} {off : Int} {tgt : Nat} (hd : decode I.2.1 pc = .ok (.lookupswitch dflt ps, len)) (hp : (ps.toList.zip (ps.toList.drop 1)).all (fun (a, next) => a.1 < next.1) = true) (ho : Op.lookupswitch.offset ps.toList dflt x.toInt = off) (ht : (pc : Int) + off = (tgt : Int)) (k : mF G I d tgt lo st σ Q) : mF G I d pc lo (.int x :: st) σ Q := T_lookup hd hp ho ht k
theorem F_ldc {i : Nat} {v : Int32} (hd : decode I.2.1 pc = .ok (.ldc i, 2)) (ho : mOwn.getD I.2.2.2.2.1 "" = I.1.cls) (hf : (mCo I.2.2.2.2.1).lookup i = some v) (k : mF G I d (pc + 2) lo (.int v :: st) σ Q) : mF G I d pc lo st σ Q := T_ldc hd ho hf k
theorem F_getstatic {i q : Nat} {nest : Bool} (hd : decode I.2.1 pc = .ok (.getstatic i, 3)) (ho : mOwn.getD I.2.2.2.2.1 "" = I.1.cls) (hf : (mGs I.2.2.2.2.1).lookup i = some (q, nest)) (k : mF G I d (pc + 3) lo (.ref q :: st) σ Q) : mF G I d pc lo st σ Q := T_getstatic hd ho hf k
theorem F_geti {a i ci k0 : Nat} {nest : Bool} {fs : List (Option Nat)} (hd : decode I.2.1 pc = .ok (.getfield i, 3)) (ho : mOwn.getD I.2.2.2.2.1 "" = I.1.cls) (hf : (mFl I.2.2.2.2.1).lookup i = some (ci, k0, nest)) (hs : sh a = some (.inl (ci, fs))) (hk : fs[k0]? = some none) (k : mF G I d (pc + 3) lo (.int (σ a k0) :: st) σ Q) : mF G I d pc lo (.ref a :: st) σ Q := by
  obtain ⟨n, rfl, hn⟩ := sh_c hs
  exact T_get hd ho hf (mFz_get hn) (v := .int (σ (n + 3) k0)) (by rw [List.getElem?_mapIdx, hk]; rfl) k
theorem F_getr {r a i ci k0 : Nat} {nest : Bool} {fs : List (Option Nat)} (hd : decode I.2.1 pc = .ok (.getfield i, 3)) (ho : mOwn.getD I.2.2.2.2.1 "" = I.1.cls) (hf : (mFl I.2.2.2.2.1).lookup i = some (ci, k0, nest)) (hs : sh a = some (.inl (ci, fs))) (hk : fs[k0]? = some (some r)) (k : mF G I d (pc + 3) lo (.ref r :: st) σ Q) : mF G I d pc lo (.ref a :: st) σ Q := by
  obtain ⟨n, rfl, hn⟩ := sh_c hs
  exact T_get hd ho hf (mFz_get hn) (v := .ref r) (by rw [List.getElem?_mapIdx, hk]; rfl) k
theorem F_put {a i ci k0 : Nat} {nest : Bool} {fs : List (Option Nat)} {x : Int32} {r : vw_C} (hd : decode I.2.1 pc = .ok (.putfield i, 3)) (ho : mOwn.getD I.2.2.2.2.1 "" = I.1.cls) (hf : (mFl I.2.2.2.2.1).lookup i = some (ci, k0, nest)) (hs : sh a = some (.inl (ci, fs))) (hr : mCl[ci]? = some r) (hfi : (r.2.1 k0).2.2.2 = false) (hty : (r.2.1 k0).2.2.1 = "I") (hk : fs[k0]? = some none) (k : mF G I d (pc + 3) lo st (up σ a k0 x) Q) : mF G I d pc lo (.int x :: .ref a :: st) σ Q := by
  obtain ⟨n, rfl, hn⟩ := sh_c hs
  have hk2 : k0 < fs.length := (List.getElem?_eq_some_iff.mp hk).1
  refine T_put hd ho hf hr hfi hty (mFz_get hn) (by simp [hk2]) ?_
  have e9 : (.inr (ci, (fs.mapIdx (fun i f => match f with | none => Value.int (σ (n + 3) i) | some r => .ref r)).set k0 (.int x)) : va_E) = mCell (upR σ (n + 3) (upd (σ (n + 3)) k0 x)) (n + 3) (.inl (ci, fs)) := by
    simp only [mCell]
    congr 2
    apply List.ext_getElem?
    intro j
    rw [List.getElem?_set, List.getElem?_mapIdx, List.getElem?_mapIdx, upR_s]
    by_cases hj : k0 = j
    · subst hj
      rw [if_pos rfl, if_pos (by simp [hk2]), hk]
      simp [upd]
    · rw [if_neg hj]
      cases fs[j]? with
      | none => rfl
      | some f =>
        cases f with
        | none => simp [upd, Ne.symm hj]
        | some r => rfl
  rw [e9, mFz_set hn]
  exact k
theorem F_iald {a n j : Nat} (hd : decode I.2.1 pc = .ok (.iaload, 1)) (hs : sh a = some (.inr (.inl (0, n)))) (hn : n < 2 ^ 31) (hj : j < n) (k : mF G I d (pc + 1) lo (.int (σ a j) :: st) σ Q) : mF G I d pc lo (.int (nI j) :: .ref a :: st) σ Q := by
  obtain ⟨m, rfl, hm⟩ := sh_c hs
  refine T_iaload hd (mFz_get hm) (nI_in2 hj hn) ?_
  rw [nI_clamp (by omega)]
  exact k
theorem F_bald {a n j : Nat} (hd : decode I.2.1 pc = .ok (.baload, 1)) (hs : sh a = some (.inr (.inl (1, n)))) (hn : n < 2 ^ 31) (hj : j < n) (k : mF G I d (pc + 1) lo (.int (σ a j) :: st) σ Q) : mF G I d pc lo (.int (nI j) :: .ref a :: st) σ Q := by
  obtain ⟨m, rfl, hm⟩ := sh_c hs
  refine T_baload hd (mFz_get hm) (nI_in2 hj hn) ?_
  rw [nI_clamp (by omega)]
  exact k
theorem F_zald {a n j : Nat} (hd : decode I.2.1 pc = .ok (.baload, 1)) (hs : sh a = some (.inr (.inl (2, n)))) (hn : n < 2 ^ 31) (hj : j < n) (k : mF G I d (pc + 1) lo (.int (σ a j) :: st) σ Q) : mF G I d pc lo (.int (nI j) :: .ref a :: st) σ Q := by
  obtain ⟨m, rfl, hm⟩ := sh_c hs
  refine T_zaload hd (mFz_get hm) (nI_in2 hj hn) ?_
  rw [nI_clamp (by omega)]
  exact k
theorem F_lald {a n j : Nat} (hd : decode I.2.1 pc = .ok (.laload, 1)) (hs : sh a = some (.inr (.inl (3, n)))) (hn : n < 2 ^ 31) (hj : j < n) (k : mF G I d (pc + 1) lo (.long (σ a j).toInt64 :: st) σ Q) : mF G I d pc lo (.int (nI j) :: .ref a :: st) σ Q := by
  obtain ⟨m, rfl, hm⟩ := sh_c hs
  refine T_laload hd (mFz_get hm) (nI_in2 hj hn) ?_
  rw [nI_clamp (by omega)]
  exact k
theorem F_aald {a j q : Nat} {rs : List Nat} (hd : decode I.2.1 pc = .ok (.aaload, 1)) (hs : sh a = some (.inr (.inr rs))) (hn : rs.length < 2 ^ 31) (hj : rs[j]? = some q) (k : mF G I d (pc + 1) lo (.ref q :: st) σ Q) : mF G I d pc lo (.int (nI j) :: .ref a :: st) σ Q := by
  obtain ⟨m, rfl, hm⟩ := sh_c hs
  have hl : j < rs.length := (List.getElem?_eq_some_iff.mp hj).1
  exact T_aaload hd (mFz_get hm) (nI_in2 hl hn) (by rw [nI_clamp (by omega)]; exact hj) k
theorem F_iast {a n j : Nat} {x : Int32} (hd : decode I.2.1 pc = .ok (.iastore, 1)) (hs : sh a = some (.inr (.inl (0, n)))) (hn : n < 2 ^ 31) (hj : j < n) (k : mF G I d (pc + 1) lo st (up σ a j x) Q) : mF G I d pc lo (.int x :: .int (nI j) :: .ref a :: st) σ Q := by
  obtain ⟨m, rfl, hm⟩ := sh_c hs
  refine T_iastore hd (mFz_get hm) (nI_in2 hj hn) ?_
  rw [nI_clamp (by omega)]
  have e9 : (.inl (0, n, .inl (upd (σ (m + 3)) j x)) : va_E) = mCell (upR σ (m + 3) (upd (σ (m + 3)) j x)) (m + 3) (.inr (.inl (0, n))) := by
    simp only [mCell, upR_s]
    rfl
  rw [e9, mFz_set hm]
  exact k
theorem F_bast {a n j : Nat} {x : Int32} (hd : decode I.2.1 pc = .ok (.bastore, 1)) (hs : sh a = some (.inr (.inl (1, n)))) (hn : n < 2 ^ 31) (hj : j < n) (k : mF G I d (pc + 1) lo st (up σ a j (vp_nar .byte x)) Q) : mF G I d pc lo (.int x :: .int (nI j) :: .ref a :: st) σ Q := by
  obtain ⟨m, rfl, hm⟩ := sh_c hs
  refine T_bastore hd (mFz_get hm) (nI_in2 hj hn) ?_
  rw [nI_clamp (by omega)]
  have e9 : (.inl (1, n, .inl (upd (σ (m + 3)) j (vp_nar .byte x))) : va_E) = mCell (upR σ (m + 3) (upd (σ (m + 3)) j (vp_nar .byte x))) (m + 3) (.inr (.inl (1, n))) := by
    simp only [mCell, upR_s]
    rfl
  rw [e9, mFz_set hm]
  exact k
theorem F_zast {a n j : Nat} {x : Int32} (hd : decode I.2.1 pc = .ok (.bastore, 1)) (hs : sh a = some (.inr (.inl (2, n)))) (hn : n < 2 ^ 31) (hj : j < n) (k : mF G I d (pc + 1) lo st (up σ a j (vp_nar .boolean x)) Q) : mF G I d pc lo (.int x :: .int (nI j) :: .ref a :: st) σ Q := by
  obtain ⟨m, rfl, hm⟩ := sh_c hs
  refine T_zastore hd (mFz_get hm) (nI_in2 hj hn) ?_
  rw [nI_clamp (by omega)]
  have e9 : (.inl (2, n, .inl (upd (σ (m + 3)) j (vp_nar .boolean x))) : va_E) = mCell (upR σ (m + 3) (upd (σ (m + 3)) j (vp_nar .boolean x))) (m + 3) (.inr (.inl (2, n))) := by
    simp only [mCell, upR_s]
    rfl
  rw [e9, mFz_set hm]
  exact k
theorem F_copy {i a b n0 n1 sp dp n : Nat} (hd : decode I.2.1 pc = .ok (.invokestatic i, 3)) (ho : mOwn.getD I.2.2.2.2.1 "" = I.1.cls) (hf : (mLi I.2.2.2.2.1).lookup i = some 3) (hst : (st.map fun v => v.category).sum ≤ 8) (hs : sh a = some (.inr (.inl (0, n0)))) (hs2 : sh b = some (.inr (.inl (0, n1)))) (hn0 : n0 < 2 ^ 31) (hn1 : n1 < 2 ^ 31) (h4 : sp + n ≤ n0) (h5 : dp + n ≤ n1) (k : mF G I d (pc + 3) lo st (upR σ b (va_cpy (σ a) (σ b) sp dp n)) Q) : mF G I d pc lo (.int (nI n) :: .int (nI dp) :: .ref b :: .int (nI sp) :: .ref a :: st) σ Q := by
  obtain ⟨m, rfl, hm⟩ := sh_c hs
  obtain ⟨m2, rfl, hm2⟩ := sh_c hs2
  refine T_copy hd ho hf hst (mFz_get hm) (mFz_get hm2) (nI_pos (by omega)) (nI_pos (by omega)) (nI_pos (by omega)) (by rw [nI_clamp (by omega), nI_clamp (by omega)]; exact h4) (by rw [nI_clamp (by omega), nI_clamp (by omega)]; exact h5) ?_
  rw [nI_clamp (by omega), nI_clamp (by omega), nI_clamp (by omega)]
  have e9 : (.inl (0, n1, .inl (va_cpy (σ (m + 3)) (σ (m2 + 3)) sp dp n)) : va_E) = mCell (upR σ (m2 + 3) (va_cpy (σ (m + 3)) (σ (m2 + 3)) sp dp n)) (m2 + 3) (.inr (.inl (0, n1))) := by
    simp only [mCell, upR_s]
    rfl
  rw [e9, mFz_set hm2]
  exact k
theorem F_getE {a i ci k0 : Nat} {nest : Bool} {v : Int32} {fs : List (Option Nat)} (hd : decode I.2.1 pc = .ok (.getfield i, 3)) (ho : mOwn.getD I.2.2.2.2.1 "" = I.1.cls) (hf : (mFl I.2.2.2.2.1).lookup i = some (ci, k0, nest)) (hs : sh a = some (.inl (ci, fs))) (hk : fs[k0]? = some none) (he : σ a k0 = v) (k : mF G I d (pc + 3) lo (.int v :: st) σ Q) : mF G I d pc lo (.ref a :: st) σ Q := F_geti hd ho hf hs hk (by rw [he]; exact k)
theorem F_ialdE {a n j : Nat} {v : Int32} (hd : decode I.2.1 pc = .ok (.iaload, 1)) (hs : sh a = some (.inr (.inl (0, n)))) (hn : n < 2 ^ 31) (hj : j < n) (he : σ a j = v) (k : mF G I d (pc + 1) lo (.int v :: st) σ Q) : mF G I d pc lo (.int (nI j) :: .ref a :: st) σ Q := F_iald hd hs hn hj (by rw [he]; exact k)
theorem F_baldE {a n j : Nat} {v : Int32} (hd : decode I.2.1 pc = .ok (.baload, 1)) (hs : sh a = some (.inr (.inl (1, n)))) (hn : n < 2 ^ 31) (hj : j < n) (he : σ a j = v) (k : mF G I d (pc + 1) lo (.int v :: st) σ Q) : mF G I d pc lo (.int (nI j) :: .ref a :: st) σ Q := F_bald hd hs hn hj (by rw [he]; exact k)
theorem F_zaldE {a n j : Nat} {v : Int32} (hd : decode I.2.1 pc = .ok (.baload, 1)) (hs : sh a = some (.inr (.inl (2, n)))) (hn : n < 2 ^ 31) (hj : j < n) (he : σ a j = v) (k : mF G I d (pc + 1) lo (.int v :: st) σ Q) : mF G I d pc lo (.int (nI j) :: .ref a :: st) σ Q := F_zald hd hs hn hj (by rw [he]; exact k)
theorem F_ialdX {a j : Nat} (hd : decode I.2.1 pc = .ok (.iaload, 1)) (ha : a < 3) (hj : j < (mXr G a).1) (hn : (mXr G a).1 < 2 ^ 31) (k : mF G I d (pc + 1) lo (.int ((mXr G a).2 j) :: st) σ Q) : mF G I d pc lo (.int (nI j) :: .ref a :: st) σ Q := T_ialoadX hd ha (nI_in2 hj hn) (by rw [nI_clamp (by omega)]; exact k)
theorem F_alenX (hd : decode I.2.1 pc = .ok (.arraylength, 1)) (k : mF G I d (pc + 1) lo (.int (nI (gN G)) :: st) σ Q) : mF G I d pc lo (.ref 2 :: st) σ Q := T_alenX hd k
theorem F_min {i : Nat} {x y : Int32} (hd : decode I.2.1 pc = .ok (.invokestatic i, 3)) (ho : mOwn.getD I.2.2.2.2.1 "" = I.1.cls) (hf : (mLi I.2.2.2.2.1).lookup i = some 1) (hst : (st.map fun v => v.category).sum ≤ 8) (k : mF G I d (pc + 3) lo (.int (if y < x then y else x) :: st) σ Q) : mF G I d pc lo (.int y :: .int x :: st) σ Q := T_min hd ho hf hst (Nat.le_refl 0) (Nat.le_refl 0) k
theorem F_max {i : Nat} {x y : Int32} (hd : decode I.2.1 pc = .ok (.invokestatic i, 3)) (ho : mOwn.getD I.2.2.2.2.1 "" = I.1.cls) (hf : (mLi I.2.2.2.2.1).lookup i = some 2) (hst : (st.map fun v => v.category).sum ≤ 8) (k : mF G I d (pc + 3) lo (.int (if x < y then y else x) :: st) σ Q) : mF G I d pc lo (.int y :: .int x :: st) σ Q := T_max hd ho hf hst (Nat.le_refl 0) (Nat.le_refl 0) k
theorem F_iret {v : Int32} (hd : decode I.2.1 pc = .ok (.ireturn, 1)) (hr : I.2.2.2.1 = some .int) (hq : Q (some (.int v)) σ) : mF G I d pc lo [.int v] σ Q := T_iret hd hr (Nat.le_refl 0) (Nat.le_refl 0) ⟨rfl, σ, rfl, hq⟩
theorem F_zret {v : Int32} (hd : decode I.2.1 pc = .ok (.ireturn, 1)) (hr : I.2.2.2.1 = some .boolean) (hv : v = 0 ∨ v = 1) (hq : Q (some (.int v)) σ) : mF G I d pc lo [.int v] σ Q := T_zret hd hr hv (Nat.le_refl 0) (Nat.le_refl 0) ⟨rfl, σ, rfl, hq⟩
theorem F_vret (hd : decode I.2.1 pc = .ok (.return_, 1)) (hr : I.2.2.2.1 = none) (hq : Q none σ) : mF G I d pc lo [] σ Q := T_vret hd hr (Nat.le_refl 0) (Nat.le_refl 0) ⟨rfl, σ, rfl, hq⟩
theorem F_callV {a ci kd i d1 : Nat} {as : List Value} {J : mI} {fs : List (Option Nat)} {r0 : vw_C} {r : Option Value} {σ1 : mS} (hC : mV G J d1 (.ref a :: as) σ r σ1) (hd : decode I.2.1 pc = .ok (.invokevirtual i, 3)) (ho : mOwn.getD I.2.2.2.2.1 "" = I.1.cls) (hf : (mCa I.2.2.2.2.1).lookup i = some (kd, J)) (hkd : kd = 1 ∨ kd = 4) (hs : sh a = some (.inl (ci, fs))) (hci : mCl[ci]? = some r0) (hcl : r0.1 = J.1.cls) (hnp : as.length = J.2.2.2.2.2) (hml : as.length + 1 ≤ J.2.2.1 ∧ J.2.2.1 ≤ 40) (hcat : ∀ v ∈ as, v.category = 1) (hst : (st.map fun v => v.category).sum ≤ 8) (hdd : d1 < d) (k : mF G I d (pc + 3) lo (r.toList ++ st) σ1 Q) : mF G I d pc lo (as.reverse ++ .ref a :: st) σ Q := by
  obtain ⟨n, rfl, hn⟩ := sh_c hs
  refine T_callV hd ho hf hkd (mFz_get hn) hci hcl hnp hml hcat hst hdd (Nat.le_refl 0) (Nat.le_refl 0) hC ?_ ?_
  · intro r1 μ1 ex1 h1 h2
    rw [h1.1] at h2
    cases h2
  · intro r1 μ1 ex1 h1
    obtain ⟨h2, σ2, h3, h4, h5⟩ := h1
    rw [h2, h3, h4, h5]
    exact k
theorem F_callS {i d1 : Nat} {as : List Value} {J : mI} {r : Option Value} {σ1 : mS} (hC : mV G J d1 as σ r σ1) (hd : decode I.2.1 pc = .ok (.invokestatic i, 3)) (ho : mOwn.getD I.2.2.2.2.1 "" = I.1.cls) (hf : (mCa I.2.2.2.2.1).lookup i = some (0, J)) (hnp : as.length = J.2.2.2.2.2) (hml : as.length ≤ J.2.2.1 ∧ J.2.2.1 ≤ 40) (hcat : ∀ v ∈ as, v.category = 1) (hst : (st.map fun v => v.category).sum ≤ 8) (hdd : d1 < d) (k : mF G I d (pc + 3) lo (r.toList ++ st) σ1 Q) : mF G I d pc lo (as.reverse ++ st) σ Q := by
  refine T_callS hd ho hf hnp hml hcat hst hdd (Nat.le_refl 0) (Nat.le_refl 0) hC ?_ ?_
  · intro r1 μ1 ex1 h1 h2
    rw [h1.1] at h2
    cases h2
  · intro r1 μ1 ex1 h1
    obtain ⟨h2, σ2, h3, h4, h5⟩ := h1
    rw [h2, h3, h4, h5]
    exact k
theorem F_cV0i {a ci kd i d1 : Nat}  {J : mI} {fs : List (Option Nat)} {r0 : vw_C} {v : Value} {σ1 : mS} (hC : mV G J d1 (.ref a :: []) σ (some v) σ1) (hd : decode I.2.1 pc = .ok (.invokevirtual i, 3)) (ho : mOwn.getD I.2.2.2.2.1 "" = I.1.cls) (hf : (mCa I.2.2.2.2.1).lookup i = some (kd, J)) (hkd : kd = 1 ∨ kd = 4) (hs : sh a = some (.inl (ci, fs))) (hci : mCl[ci]? = some r0) (hcl : r0.1 = J.1.cls) (hnp : 0 = J.2.2.2.2.2) (hml : 0 + 1 ≤ J.2.2.1 ∧ J.2.2.1 ≤ 40) (hst : (st.map fun v => v.category).sum ≤ 8) (hdd : d1 < d) (k : mF G I d (pc + 3) lo (v :: st) σ1 Q) : mF G I d pc lo (.ref a :: st) σ Q := F_callV hC hd ho hf hkd hs hci hcl hnp hml (by intro v hv; cases hv) hst hdd k
theorem F_cV0v {a ci kd i d1 : Nat}  {J : mI} {fs : List (Option Nat)} {r0 : vw_C}  {σ1 : mS} (hC : mV G J d1 (.ref a :: []) σ none σ1) (hd : decode I.2.1 pc = .ok (.invokevirtual i, 3)) (ho : mOwn.getD I.2.2.2.2.1 "" = I.1.cls) (hf : (mCa I.2.2.2.2.1).lookup i = some (kd, J)) (hkd : kd = 1 ∨ kd = 4) (hs : sh a = some (.inl (ci, fs))) (hci : mCl[ci]? = some r0) (hcl : r0.1 = J.1.cls) (hnp : 0 = J.2.2.2.2.2) (hml : 0 + 1 ≤ J.2.2.1 ∧ J.2.2.1 ≤ 40) (hst : (st.map fun v => v.category).sum ≤ 8) (hdd : d1 < d) (k : mF G I d (pc + 3) lo st σ1 Q) : mF G I d pc lo (.ref a :: st) σ Q := F_callV hC hd ho hf hkd hs hci hcl hnp hml (by intro v hv; cases hv) hst hdd k
theorem F_cV1i {a ci kd i d1 : Nat} {x1 : Int32} {J : mI} {fs : List (Option Nat)} {r0 : vw_C} {v : Value} {σ1 : mS} (hC : mV G J d1 (.ref a :: [.int x1]) σ (some v) σ1) (hd : decode I.2.1 pc = .ok (.invokevirtual i, 3)) (ho : mOwn.getD I.2.2.2.2.1 "" = I.1.cls) (hf : (mCa I.2.2.2.2.1).lookup i = some (kd, J)) (hkd : kd = 1 ∨ kd = 4) (hs : sh a = some (.inl (ci, fs))) (hci : mCl[ci]? = some r0) (hcl : r0.1 = J.1.cls) (hnp : 1 = J.2.2.2.2.2) (hml : 1 + 1 ≤ J.2.2.1 ∧ J.2.2.1 ≤ 40) (hst : (st.map fun v => v.category).sum ≤ 8) (hdd : d1 < d) (k : mF G I d (pc + 3) lo (v :: st) σ1 Q) : mF G I d pc lo (.int x1 :: .ref a :: st) σ Q := F_callV hC hd ho hf hkd hs hci hcl hnp hml (by intro v hv; simp at hv; rw [hv]; rfl) hst hdd k
theorem F_cV1v {a ci kd i d1 : Nat} {x1 : Int32} {J : mI} {fs : List (Option Nat)} {r0 : vw_C}  {σ1 : mS} (hC : mV G J d1 (.ref a :: [.int x1]) σ none σ1) (hd : decode I.2.1 pc = .ok (.invokevirtual i, 3)) (ho : mOwn.getD I.2.2.2.2.1 "" = I.1.cls) (hf : (mCa I.2.2.2.2.1).lookup i = some (kd, J)) (hkd : kd = 1 ∨ kd = 4) (hs : sh a = some (.inl (ci, fs))) (hci : mCl[ci]? = some r0) (hcl : r0.1 = J.1.cls) (hnp : 1 = J.2.2.2.2.2) (hml : 1 + 1 ≤ J.2.2.1 ∧ J.2.2.1 ≤ 40) (hst : (st.map fun v => v.category).sum ≤ 8) (hdd : d1 < d) (k : mF G I d (pc + 3) lo st σ1 Q) : mF G I d pc lo (.int x1 :: .ref a :: st) σ Q := F_callV hC hd ho hf hkd hs hci hcl hnp hml (by intro v hv; simp at hv; rw [hv]; rfl) hst hdd k
theorem F_cV2i {a ci kd i d1 : Nat} {x1 x2 : Int32} {J : mI} {fs : List (Option Nat)} {r0 : vw_C} {v : Value} {σ1 : mS} (hC : mV G J d1 (.ref a :: [.int x1, .int x2]) σ (some v) σ1) (hd : decode I.2.1 pc = .ok (.invokevirtual i, 3)) (ho : mOwn.getD I.2.2.2.2.1 "" = I.1.cls) (hf : (mCa I.2.2.2.2.1).lookup i = some (kd, J)) (hkd : kd = 1 ∨ kd = 4) (hs : sh a = some (.inl (ci, fs))) (hci : mCl[ci]? = some r0) (hcl : r0.1 = J.1.cls) (hnp : 2 = J.2.2.2.2.2) (hml : 2 + 1 ≤ J.2.2.1 ∧ J.2.2.1 ≤ 40) (hst : (st.map fun v => v.category).sum ≤ 8) (hdd : d1 < d) (k : mF G I d (pc + 3) lo (v :: st) σ1 Q) : mF G I d pc lo (.int x2 :: .int x1 :: .ref a :: st) σ Q := F_callV hC hd ho hf hkd hs hci hcl hnp hml (by intro v hv; simp at hv; rcases hv with rfl | rfl <;> rfl) hst hdd k
theorem F_cV2v {a ci kd i d1 : Nat} {x1 x2 : Int32} {J : mI} {fs : List (Option Nat)} {r0 : vw_C}  {σ1 : mS} (hC : mV G J d1 (.ref a :: [.int x1, .int x2]) σ none σ1) (hd : decode I.2.1 pc = .ok (.invokevirtual i, 3)) (ho : mOwn.getD I.2.2.2.2.1 "" = I.1.cls) (hf : (mCa I.2.2.2.2.1).lookup i = some (kd, J)) (hkd : kd = 1 ∨ kd = 4) (hs : sh a = some (.inl (ci, fs))) (hci : mCl[ci]? = some r0) (hcl : r0.1 = J.1.cls) (hnp : 2 = J.2.2.2.2.2) (hml : 2 + 1 ≤ J.2.2.1 ∧ J.2.2.1 ≤ 40) (hst : (st.map fun v => v.category).sum ≤ 8) (hdd : d1 < d) (k : mF G I d (pc + 3) lo st σ1 Q) : mF G I d pc lo (.int x2 :: .int x1 :: .ref a :: st) σ Q := F_callV hC hd ho hf hkd hs hci hcl hnp hml (by intro v hv; simp at hv; rcases hv with rfl | rfl <;> rfl) hst hdd k
theorem F_cV3i {a ci kd i d1 : Nat} {x1 x2 x3 : Int32} {J : mI} {fs : List (Option Nat)} {r0 : vw_C} {v : Value} {σ1 : mS} (hC : mV G J d1 (.ref a :: [.int x1, .int x2, .int x3]) σ (some v) σ1) (hd : decode I.2.1 pc = .ok (.invokevirtual i, 3)) (ho : mOwn.getD I.2.2.2.2.1 "" = I.1.cls) (hf : (mCa I.2.2.2.2.1).lookup i = some (kd, J)) (hkd : kd = 1 ∨ kd = 4) (hs : sh a = some (.inl (ci, fs))) (hci : mCl[ci]? = some r0) (hcl : r0.1 = J.1.cls) (hnp : 3 = J.2.2.2.2.2) (hml : 3 + 1 ≤ J.2.2.1 ∧ J.2.2.1 ≤ 40) (hst : (st.map fun v => v.category).sum ≤ 8) (hdd : d1 < d) (k : mF G I d (pc + 3) lo (v :: st) σ1 Q) : mF G I d pc lo (.int x3 :: .int x2 :: .int x1 :: .ref a :: st) σ Q := F_callV hC hd ho hf hkd hs hci hcl hnp hml (by intro v hv; simp at hv; rcases hv with rfl | rfl | rfl <;> rfl) hst hdd k
theorem F_cV3v {a ci kd i d1 : Nat} {x1 x2 x3 : Int32} {J : mI} {fs : List (Option Nat)} {r0 : vw_C}  {σ1 : mS} (hC : mV G J d1 (.ref a :: [.int x1, .int x2, .int x3]) σ none σ1) (hd : decode I.2.1 pc = .ok (.invokevirtual i, 3)) (ho : mOwn.getD I.2.2.2.2.1 "" = I.1.cls) (hf : (mCa I.2.2.2.2.1).lookup i = some (kd, J)) (hkd : kd = 1 ∨ kd = 4) (hs : sh a = some (.inl (ci, fs))) (hci : mCl[ci]? = some r0) (hcl : r0.1 = J.1.cls) (hnp : 3 = J.2.2.2.2.2) (hml : 3 + 1 ≤ J.2.2.1 ∧ J.2.2.1 ≤ 40) (hst : (st.map fun v => v.category).sum ≤ 8) (hdd : d1 < d) (k : mF G I d (pc + 3) lo st σ1 Q) : mF G I d pc lo (.int x3 :: .int x2 :: .int x1 :: .ref a :: st) σ Q := F_callV hC hd ho hf hkd hs hci hcl hnp hml (by intro v hv; simp at hv; rcases hv with rfl | rfl | rfl <;> rfl) hst hdd k
theorem F_cV4i {a ci kd i d1 : Nat} {x1 x2 x3 x4 : Int32} {J : mI} {fs : List (Option Nat)} {r0 : vw_C} {v : Value} {σ1 : mS} (hC : mV G J d1 (.ref a :: [.int x1, .int x2, .int x3, .int x4]) σ (some v) σ1) (hd : decode I.2.1 pc = .ok (.invokevirtual i, 3)) (ho : mOwn.getD I.2.2.2.2.1 "" = I.1.cls) (hf : (mCa I.2.2.2.2.1).lookup i = some (kd, J)) (hkd : kd = 1 ∨ kd = 4) (hs : sh a = some (.inl (ci, fs))) (hci : mCl[ci]? = some r0) (hcl : r0.1 = J.1.cls) (hnp : 4 = J.2.2.2.2.2) (hml : 4 + 1 ≤ J.2.2.1 ∧ J.2.2.1 ≤ 40) (hst : (st.map fun v => v.category).sum ≤ 8) (hdd : d1 < d) (k : mF G I d (pc + 3) lo (v :: st) σ1 Q) : mF G I d pc lo (.int x4 :: .int x3 :: .int x2 :: .int x1 :: .ref a :: st) σ Q := F_callV hC hd ho hf hkd hs hci hcl hnp hml (by intro v hv; simp at hv; rcases hv with rfl | rfl | rfl | rfl <;> rfl) hst hdd k
theorem F_cV4v {a ci kd i d1 : Nat} {x1 x2 x3 x4 : Int32} {J : mI} {fs : List (Option Nat)} {r0 : vw_C}  {σ1 : mS} (hC : mV G J d1 (.ref a :: [.int x1, .int x2, .int x3, .int x4]) σ none σ1) (hd : decode I.2.1 pc = .ok (.invokevirtual i, 3)) (ho : mOwn.getD I.2.2.2.2.1 "" = I.1.cls) (hf : (mCa I.2.2.2.2.1).lookup i = some (kd, J)) (hkd : kd = 1 ∨ kd = 4) (hs : sh a = some (.inl (ci, fs))) (hci : mCl[ci]? = some r0) (hcl : r0.1 = J.1.cls) (hnp : 4 = J.2.2.2.2.2) (hml : 4 + 1 ≤ J.2.2.1 ∧ J.2.2.1 ≤ 40) (hst : (st.map fun v => v.category).sum ≤ 8) (hdd : d1 < d) (k : mF G I d (pc + 3) lo st σ1 Q) : mF G I d pc lo (.int x4 :: .int x3 :: .int x2 :: .int x1 :: .ref a :: st) σ Q := F_callV hC hd ho hf hkd hs hci hcl hnp hml (by intro v hv; simp at hv; rcases hv with rfl | rfl | rfl | rfl <;> rfl) hst hdd k
theorem F_cV5i {a ci kd i d1 : Nat} {x1 x2 x3 x4 x5 : Int32} {J : mI} {fs : List (Option Nat)} {r0 : vw_C} {v : Value} {σ1 : mS} (hC : mV G J d1 (.ref a :: [.int x1, .int x2, .int x3, .int x4, .int x5]) σ (some v) σ1) (hd : decode I.2.1 pc = .ok (.invokevirtual i, 3)) (ho : mOwn.getD I.2.2.2.2.1 "" = I.1.cls) (hf : (mCa I.2.2.2.2.1).lookup i = some (kd, J)) (hkd : kd = 1 ∨ kd = 4) (hs : sh a = some (.inl (ci, fs))) (hci : mCl[ci]? = some r0) (hcl : r0.1 = J.1.cls) (hnp : 5 = J.2.2.2.2.2) (hml : 5 + 1 ≤ J.2.2.1 ∧ J.2.2.1 ≤ 40) (hst : (st.map fun v => v.category).sum ≤ 8) (hdd : d1 < d) (k : mF G I d (pc + 3) lo (v :: st) σ1 Q) : mF G I d pc lo (.int x5 :: .int x4 :: .int x3 :: .int x2 :: .int x1 :: .ref a :: st) σ Q := F_callV hC hd ho hf hkd hs hci hcl hnp hml (by intro v hv; simp at hv; rcases hv with rfl | rfl | rfl | rfl | rfl <;> rfl) hst hdd k
theorem F_cV5v {a ci kd i d1 : Nat} {x1 x2 x3 x4 x5 : Int32} {J : mI} {fs : List (Option Nat)} {r0 : vw_C}  {σ1 : mS} (hC : mV G J d1 (.ref a :: [.int x1, .int x2, .int x3, .int x4, .int x5]) σ none σ1) (hd : decode I.2.1 pc = .ok (.invokevirtual i, 3)) (ho : mOwn.getD I.2.2.2.2.1 "" = I.1.cls) (hf : (mCa I.2.2.2.2.1).lookup i = some (kd, J)) (hkd : kd = 1 ∨ kd = 4) (hs : sh a = some (.inl (ci, fs))) (hci : mCl[ci]? = some r0) (hcl : r0.1 = J.1.cls) (hnp : 5 = J.2.2.2.2.2) (hml : 5 + 1 ≤ J.2.2.1 ∧ J.2.2.1 ≤ 40) (hst : (st.map fun v => v.category).sum ≤ 8) (hdd : d1 < d) (k : mF G I d (pc + 3) lo st σ1 Q) : mF G I d pc lo (.int x5 :: .int x4 :: .int x3 :: .int x2 :: .int x1 :: .ref a :: st) σ Q := F_callV hC hd ho hf hkd hs hci hcl hnp hml (by intro v hv; simp at hv; rcases hv with rfl | rfl | rfl | rfl | rfl <;> rfl) hst hdd k
theorem F_cS1i {i d1 : Nat} {x1 : Int32} {J : mI} {v : Value} {σ1 : mS} (hC : mV G J d1 [.int x1] σ (some v) σ1) (hd : decode I.2.1 pc = .ok (.invokestatic i, 3)) (ho : mOwn.getD I.2.2.2.2.1 "" = I.1.cls) (hf : (mCa I.2.2.2.2.1).lookup i = some (0, J)) (hnp : 1 = J.2.2.2.2.2) (hml : 1 ≤ J.2.2.1 ∧ J.2.2.1 ≤ 40) (hst : (st.map fun v => v.category).sum ≤ 8) (hdd : d1 < d) (k : mF G I d (pc + 3) lo (v :: st) σ1 Q) : mF G I d pc lo (.int x1 :: st) σ Q := F_callS hC hd ho hf hnp hml (by intro v hv; simp at hv; rw [hv]; rfl) hst hdd k
theorem F_cS2i {i d1 : Nat} {x1 x2 : Int32} {J : mI} {v : Value} {σ1 : mS} (hC : mV G J d1 [.int x1, .int x2] σ (some v) σ1) (hd : decode I.2.1 pc = .ok (.invokestatic i, 3)) (ho : mOwn.getD I.2.2.2.2.1 "" = I.1.cls) (hf : (mCa I.2.2.2.2.1).lookup i = some (0, J)) (hnp : 2 = J.2.2.2.2.2) (hml : 2 ≤ J.2.2.1 ∧ J.2.2.1 ≤ 40) (hst : (st.map fun v => v.category).sum ≤ 8) (hdd : d1 < d) (k : mF G I d (pc + 3) lo (v :: st) σ1 Q) : mF G I d pc lo (.int x2 :: .int x1 :: st) σ Q := F_callS hC hd ho hf hnp hml (by intro v hv; simp at hv; rcases hv with rfl | rfl <;> rfl) hst hdd k
theorem F_cS3i {i d1 : Nat} {x1 x2 x3 : Int32} {J : mI} {v : Value} {σ1 : mS} (hC : mV G J d1 [.int x1, .int x2, .int x3] σ (some v) σ1) (hd : decode I.2.1 pc = .ok (.invokestatic i, 3)) (ho : mOwn.getD I.2.2.2.2.1 "" = I.1.cls) (hf : (mCa I.2.2.2.2.1).lookup i = some (0, J)) (hnp : 3 = J.2.2.2.2.2) (hml : 3 ≤ J.2.2.1 ∧ J.2.2.1 ≤ 40) (hst : (st.map fun v => v.category).sum ≤ 8) (hdd : d1 < d) (k : mF G I d (pc + 3) lo (v :: st) σ1 Q) : mF G I d pc lo (.int x3 :: .int x2 :: .int x1 :: st) σ Q := F_callS hC hd ho hf hnp hml (by intro v hv; simp at hv; rcases hv with rfl | rfl | rfl <;> rfl) hst hdd k
theorem F_cS4i {i d1 : Nat} {x1 x2 x3 x4 : Int32} {J : mI} {v : Value} {σ1 : mS} (hC : mV G J d1 [.int x1, .int x2, .int x3, .int x4] σ (some v) σ1) (hd : decode I.2.1 pc = .ok (.invokestatic i, 3)) (ho : mOwn.getD I.2.2.2.2.1 "" = I.1.cls) (hf : (mCa I.2.2.2.2.1).lookup i = some (0, J)) (hnp : 4 = J.2.2.2.2.2) (hml : 4 ≤ J.2.2.1 ∧ J.2.2.1 ≤ 40) (hst : (st.map fun v => v.category).sum ≤ 8) (hdd : d1 < d) (k : mF G I d (pc + 3) lo (v :: st) σ1 Q) : mF G I d pc lo (.int x4 :: .int x3 :: .int x2 :: .int x1 :: st) σ Q := F_callS hC hd ho hf hnp hml (by intro v hv; simp at hv; rcases hv with rfl | rfl | rfl | rfl <;> rfl) hst hdd k
theorem F_cS5i {i d1 : Nat} {x1 x2 x3 x4 x5 : Int32} {J : mI} {v : Value} {σ1 : mS} (hC : mV G J d1 [.int x1, .int x2, .int x3, .int x4, .int x5] σ (some v) σ1) (hd : decode I.2.1 pc = .ok (.invokestatic i, 3)) (ho : mOwn.getD I.2.2.2.2.1 "" = I.1.cls) (hf : (mCa I.2.2.2.2.1).lookup i = some (0, J)) (hnp : 5 = J.2.2.2.2.2) (hml : 5 ≤ J.2.2.1 ∧ J.2.2.1 ≤ 40) (hst : (st.map fun v => v.category).sum ≤ 8) (hdd : d1 < d) (k : mF G I d (pc + 3) lo (v :: st) σ1 Q) : mF G I d pc lo (.int x5 :: .int x4 :: .int x3 :: .int x2 :: .int x1 :: st) σ Q := F_callS hC hd ho hf hnp hml (by intro v hv; simp at hv; rcases hv with rfl | rfl | rfl | rfl | rfl <;> rfl) hst hdd k
theorem F_cS6i {i d1 : Nat} {x1 x2 x3 x4 x5 x6 : Int32} {J : mI} {v : Value} {σ1 : mS} (hC : mV G J d1 [.int x1, .int x2, .int x3, .int x4, .int x5, .int x6] σ (some v) σ1) (hd : decode I.2.1 pc = .ok (.invokestatic i, 3)) (ho : mOwn.getD I.2.2.2.2.1 "" = I.1.cls) (hf : (mCa I.2.2.2.2.1).lookup i = some (0, J)) (hnp : 6 = J.2.2.2.2.2) (hml : 6 ≤ J.2.2.1 ∧ J.2.2.1 ≤ 40) (hst : (st.map fun v => v.category).sum ≤ 8) (hdd : d1 < d) (k : mF G I d (pc + 3) lo (v :: st) σ1 Q) : mF G I d pc lo (.int x6 :: .int x5 :: .int x4 :: .int x3 :: .int x2 :: .int x1 :: st) σ Q := F_callS hC hd ho hf hnp hml (by intro v hv; simp at hv; rcases hv with rfl | rfl | rfl | rfl | rfl | rfl <;> rfl) hst hdd k
end FR
theorem mV_of {G : mG} {J : mI} {d : Nat} {as : List Value} {σ σ1 : mS} {r : Option Value} (h : ∀ Q : Option Value → mS → Prop, Q r σ1 → mF G J d 0 (mLo J as) [] σ Q) : mV G J d as σ r σ1 := h _ ⟨rfl, rfl⟩
end
section

/-! ===== truth values, ends ===== -/
def bI (b : Bool) : Int32 := if b = true then 1 else 0
theorem bI_t : bI true = nI 1 := rfl
theorem bI_f : bI false = nI 0 := rfl
theorem bI_01 (b : Bool) : bI b = 0 ∨ bI b = 1 := by cases b <;> simp [bI]
theorem bI_0 {b : Bool} : bI b = 0 ↔ b = false := by cases b <;> simp [bI]
section EN
variable {G : mG} {I : mI} {d pc : Nat} {lo : List (Option Value)} {st : List Value} {σ σ2 : mS} {Q : Option Value → mS → Prop}
theorem F_if_eqB {b : Bool} {off : Int} {tgt : Nat} (hd : decode I.2.1 pc = .ok (.ifCond .eq off, 3)) (ht : (pc : Int) + off = (tgt : Int)) (kt : b = false → mF G I d tgt lo st σ Q) (kf : b = true → mF G I d (pc + 3) lo st σ Q) : mF G I d pc lo (.int (bI b) :: st) σ Q := F_if_eq hd ht (fun h => kt (bI_0.mp h)) (fun h => kf (by cases b with | true => rfl | false => exact absurd rfl h))
theorem F_if_neB {b : Bool} {off : Int} {tgt : Nat} (hd : decode I.2.1 pc = .ok (.ifCond .ne off, 3)) (ht : (pc : Int) + off = (tgt : Int)) (kt : b = true → mF G I d tgt lo st σ Q) (kf : b = false → mF G I d (pc + 3) lo st σ Q) : mF G I d pc lo (.int (bI b) :: st) σ Q := F_if_ne hd ht (fun h => kt (by cases b with | true => rfl | false => exact absurd rfl h)) (fun h => kf (bI_0.mp h))
theorem Qr {v w : Int32} (hQ : Q (some (.int v)) σ) (h : w = v) (hs : σ2 = σ) : Q (some (.int w)) σ2 := by rw [h, hs]; exact hQ
theorem Qb1 {b : Bool} (hQ : Q (some (.int (bI b))) σ) (h : b = true) : Q (some (.int (nI 1))) σ := by rw [h] at hQ; exact hQ
theorem Qb0 {b : Bool} (hQ : Q (some (.int (bI b))) σ) (h : b = false) : Q (some (.int (nI 0))) σ := by rw [h] at hQ; exact hQ
theorem Qn {r : Option Value} (hQ : Q r σ) (hs : σ2 = σ) : Q r σ2 := by rw [hs]; exact hQ
theorem Qv {r r2 : Option Value} (hQ : Q r σ) (hr : r2 = r) (hs : σ2 = σ) : Q r2 σ2 := by rw [hr, hs]; exact hQ
end EN
def inR (v a b : Int32) : Bool := decide (a ≤ v) && decide (v ≤ b)
theorem nI_ex {x : Int32} {n : Nat} (hn : n < 2 ^ 31) (h0 : nI 0 ≤ x) (h1 : x ≤ nI n) : ∃ j, j ≤ n ∧ x = nI j := by
  refine nI_of2 (M := nI n) (nI_toInt hn) ?_ h1
  rw [Int32.not_lt]; exact h0
theorem inR_n {v : Int32} {n : Nat} (hn : n < 2 ^ 31) (h : inR v (nI 0) (nI n) = true) : ∃ j, j ≤ n ∧ v = nI j := by
  simp only [inR, Bool.and_eq_true, decide_eq_true_eq] at h
  exact nI_ex hn h.1 h.2
theorem inR_nI {a b j : Nat} (hb : b < 2 ^ 31) (ha : a < 2 ^ 31) (hj : j < 2 ^ 31) : inR (nI j) (nI a) (nI b) = (decide (a ≤ j) && decide (j ≤ b)) := by
  simp only [inR]
  rw [decide_eq_decide.mpr (nI_le_iff ha hj), decide_eq_decide.mpr (nI_le_iff hj hb)]
theorem lt_nI {x : Int32} {n : Nat} (hn : n + 1 < 2 ^ 31) : x < nI (n + 1) ↔ x ≤ nI n := by
  rw [Int32.lt_iff_toInt_lt, Int32.le_iff_toInt_le, nI_toInt hn, nI_toInt (by omega)]; omega

section CR
variable {G : mG} {I : mI} {d pc : Nat} {lo : List (Option Value)} {st : List Value} {σ : mS} {Q : Option Value → mS → Prop}
theorem F_cV_r_v {a ci kd i d1 : Nat} {x1 : Nat} {J : mI} {fs : List (Option Nat)} {r0 : vw_C}  {σ1 : mS} (hC : mV G J d1 (.ref a :: [.ref x1]) σ none σ1) (hd : decode I.2.1 pc = .ok (.invokevirtual i, 3)) (ho : mOwn.getD I.2.2.2.2.1 "" = I.1.cls) (hf : (mCa I.2.2.2.2.1).lookup i = some (kd, J)) (hkd : kd = 1 ∨ kd = 4) (hs : sh a = some (.inl (ci, fs))) (hci : mCl[ci]? = some r0) (hcl : r0.1 = J.1.cls) (hnp : 1 = J.2.2.2.2.2) (hml : 1 + 1 ≤ J.2.2.1 ∧ J.2.2.1 ≤ 40) (hst : (st.map fun v => v.category).sum ≤ 8) (hdd : d1 < d) (k : mF G I d (pc + 3) lo st σ1 Q) : mF G I d pc lo (.ref x1 :: .ref a :: st) σ Q := F_callV hC hd ho hf hkd hs hci hcl hnp hml (by intro v hv; simp at hv; rw [hv]; rfl) hst hdd k
theorem F_cV_r_i {a ci kd i d1 : Nat} {x1 : Nat} {J : mI} {fs : List (Option Nat)} {r0 : vw_C} {v : Value} {σ1 : mS} (hC : mV G J d1 (.ref a :: [.ref x1]) σ (some v) σ1) (hd : decode I.2.1 pc = .ok (.invokevirtual i, 3)) (ho : mOwn.getD I.2.2.2.2.1 "" = I.1.cls) (hf : (mCa I.2.2.2.2.1).lookup i = some (kd, J)) (hkd : kd = 1 ∨ kd = 4) (hs : sh a = some (.inl (ci, fs))) (hci : mCl[ci]? = some r0) (hcl : r0.1 = J.1.cls) (hnp : 1 = J.2.2.2.2.2) (hml : 1 + 1 ≤ J.2.2.1 ∧ J.2.2.1 ≤ 40) (hst : (st.map fun v => v.category).sum ≤ 8) (hdd : d1 < d) (k : mF G I d (pc + 3) lo (v :: st) σ1 Q) : mF G I d pc lo (.ref x1 :: .ref a :: st) σ Q := F_callV hC hd ho hf hkd hs hci hcl hnp hml (by intro v hv; simp at hv; rw [hv]; rfl) hst hdd k
theorem F_cV_riii_v {a ci kd i d1 : Nat} {x1 : Nat} {x2 : Int32} {x3 : Int32} {x4 : Int32} {J : mI} {fs : List (Option Nat)} {r0 : vw_C}  {σ1 : mS} (hC : mV G J d1 (.ref a :: [.ref x1, .int x2, .int x3, .int x4]) σ none σ1) (hd : decode I.2.1 pc = .ok (.invokevirtual i, 3)) (ho : mOwn.getD I.2.2.2.2.1 "" = I.1.cls) (hf : (mCa I.2.2.2.2.1).lookup i = some (kd, J)) (hkd : kd = 1 ∨ kd = 4) (hs : sh a = some (.inl (ci, fs))) (hci : mCl[ci]? = some r0) (hcl : r0.1 = J.1.cls) (hnp : 4 = J.2.2.2.2.2) (hml : 4 + 1 ≤ J.2.2.1 ∧ J.2.2.1 ≤ 40) (hst : (st.map fun v => v.category).sum ≤ 8) (hdd : d1 < d) (k : mF G I d (pc + 3) lo st σ1 Q) : mF G I d pc lo (.int x4 :: .int x3 :: .int x2 :: .ref x1 :: .ref a :: st) σ Q := F_callV hC hd ho hf hkd hs hci hcl hnp hml (by intro v hv; simp at hv; rcases hv with rfl | rfl | rfl | rfl <;> rfl) hst hdd k
end CR
theorem cpy0 (f g : Nat → Int32) (sp dp : Nat) : va_cpy f g sp dp 0 = g := by
  funext j; simp only [va_cpy]; rw [if_neg (by omega)]
theorem cpyS (f g : Nat → Int32) (sp dp n : Nat) : upd (va_cpy f g sp dp n) (dp + n) (f (sp + n)) = va_cpy f g sp dp (n + 1) := by
  funext j; simp only [va_cpy, upd]
  by_cases h1 : j = dp + n
  · rw [if_pos h1, if_pos (by omega)]; congr 1; omega
  · rw [if_neg h1]
    by_cases h2 : dp ≤ j ∧ j < dp + n
    · rw [if_pos h2, if_pos (by omega)]
    · rw [if_neg h2, if_neg (by omega)]
end
section
/-! ===== Told: its methods ===== -/
theorem dX3_copyFrom_0 : decode cX3_copyFrom 0 = .ok (.aload_n 0, 1) := by decide +kernel
theorem dX3_copyFrom_1 : decode cX3_copyFrom 1 = .ok (.aload_n 1, 1) := by decide +kernel
theorem dX3_copyFrom_2 : decode cX3_copyFrom 2 = .ok (.getfield 33, 3) := by decide +kernel
theorem dX3_copyFrom_5 : decode cX3_copyFrom 5 = .ok (.putfield 33, 3) := by decide +kernel
theorem dX3_copyFrom_8 : decode cX3_copyFrom 8 = .ok (.aload_n 1, 1) := by decide +kernel
theorem dX3_copyFrom_9 : decode cX3_copyFrom 9 = .ok (.getfield 9, 3) := by decide +kernel
theorem dX3_copyFrom_12 : decode cX3_copyFrom 12 = .ok (.iconst 0, 1) := by decide +kernel
theorem dX3_copyFrom_13 : decode cX3_copyFrom 13 = .ok (.aload_n 0, 1) := by decide +kernel
theorem dX3_copyFrom_14 : decode cX3_copyFrom 14 = .ok (.getfield 9, 3) := by decide +kernel
theorem dX3_copyFrom_17 : decode cX3_copyFrom 17 = .ok (.iconst 0, 1) := by decide +kernel
theorem dX3_copyFrom_18 : decode cX3_copyFrom 18 = .ok (.bipush 6, 2) := by decide +kernel
theorem dX3_copyFrom_20 : decode cX3_copyFrom 20 = .ok (.invokestatic 37, 3) := by decide +kernel
theorem dX3_copyFrom_23 : decode cX3_copyFrom 23 = .ok (.aload_n 1, 1) := by decide +kernel
theorem dX3_copyFrom_24 : decode cX3_copyFrom 24 = .ok (.getfield 15, 3) := by decide +kernel
theorem dX3_copyFrom_27 : decode cX3_copyFrom 27 = .ok (.iconst 0, 1) := by decide +kernel
theorem dX3_copyFrom_28 : decode cX3_copyFrom 28 = .ok (.aload_n 0, 1) := by decide +kernel
theorem dX3_copyFrom_29 : decode cX3_copyFrom 29 = .ok (.getfield 15, 3) := by decide +kernel
theorem dX3_copyFrom_32 : decode cX3_copyFrom 32 = .ok (.iconst 0, 1) := by decide +kernel
theorem dX3_copyFrom_33 : decode cX3_copyFrom 33 = .ok (.bipush 6, 2) := by decide +kernel
theorem dX3_copyFrom_35 : decode cX3_copyFrom 35 = .ok (.invokestatic 37, 3) := by decide +kernel
theorem dX3_copyFrom_38 : decode cX3_copyFrom 38 = .ok (.aload_n 1, 1) := by decide +kernel
theorem dX3_copyFrom_39 : decode cX3_copyFrom 39 = .ok (.getfield 18, 3) := by decide +kernel
theorem dX3_copyFrom_42 : decode cX3_copyFrom 42 = .ok (.iconst 0, 1) := by decide +kernel
theorem dX3_copyFrom_43 : decode cX3_copyFrom 43 = .ok (.aload_n 0, 1) := by decide +kernel
theorem dX3_copyFrom_44 : decode cX3_copyFrom 44 = .ok (.getfield 18, 3) := by decide +kernel
theorem dX3_copyFrom_47 : decode cX3_copyFrom 47 = .ok (.iconst 0, 1) := by decide +kernel
theorem dX3_copyFrom_48 : decode cX3_copyFrom 48 = .ok (.sipush 420, 3) := by decide +kernel
theorem dX3_copyFrom_51 : decode cX3_copyFrom 51 = .ok (.invokestatic 37, 3) := by decide +kernel
theorem dX3_copyFrom_54 : decode cX3_copyFrom 54 = .ok (.aload_n 0, 1) := by decide +kernel
theorem dX3_copyFrom_55 : decode cX3_copyFrom 55 = .ok (.aload_n 1, 1) := by decide +kernel
theorem dX3_copyFrom_56 : decode cX3_copyFrom 56 = .ok (.getfield 43, 3) := by decide +kernel
theorem dX3_copyFrom_59 : decode cX3_copyFrom 59 = .ok (.putfield 43, 3) := by decide +kernel
theorem dX3_copyFrom_62 : decode cX3_copyFrom 62 = .ok (.aload_n 1, 1) := by decide +kernel
theorem dX3_copyFrom_63 : decode cX3_copyFrom 63 = .ok (.getfield 21, 3) := by decide +kernel
theorem dX3_copyFrom_66 : decode cX3_copyFrom 66 = .ok (.iconst 0, 1) := by decide +kernel
theorem dX3_copyFrom_67 : decode cX3_copyFrom 67 = .ok (.aload_n 0, 1) := by decide +kernel
theorem dX3_copyFrom_68 : decode cX3_copyFrom 68 = .ok (.getfield 21, 3) := by decide +kernel
theorem dX3_copyFrom_71 : decode cX3_copyFrom 71 = .ok (.iconst 0, 1) := by decide +kernel
theorem dX3_copyFrom_72 : decode cX3_copyFrom 72 = .ok (.iconst 4, 1) := by decide +kernel
theorem dX3_copyFrom_73 : decode cX3_copyFrom 73 = .ok (.invokestatic 37, 3) := by decide +kernel
theorem dX3_copyFrom_76 : decode cX3_copyFrom 76 = .ok (.aload_n 1, 1) := by decide +kernel
theorem dX3_copyFrom_77 : decode cX3_copyFrom 77 = .ok (.getfield 24, 3) := by decide +kernel
theorem dX3_copyFrom_80 : decode cX3_copyFrom 80 = .ok (.iconst 0, 1) := by decide +kernel
theorem dX3_copyFrom_81 : decode cX3_copyFrom 81 = .ok (.aload_n 0, 1) := by decide +kernel
theorem dX3_copyFrom_82 : decode cX3_copyFrom 82 = .ok (.getfield 24, 3) := by decide +kernel
theorem dX3_copyFrom_85 : decode cX3_copyFrom 85 = .ok (.iconst 0, 1) := by decide +kernel
theorem dX3_copyFrom_86 : decode cX3_copyFrom 86 = .ok (.iconst 4, 1) := by decide +kernel
theorem dX3_copyFrom_87 : decode cX3_copyFrom 87 = .ok (.invokestatic 37, 3) := by decide +kernel
theorem dX3_copyFrom_90 : decode cX3_copyFrom 90 = .ok (.aload_n 1, 1) := by decide +kernel
theorem dX3_copyFrom_91 : decode cX3_copyFrom 91 = .ok (.getfield 27, 3) := by decide +kernel
theorem dX3_copyFrom_94 : decode cX3_copyFrom 94 = .ok (.iconst 0, 1) := by decide +kernel
theorem dX3_copyFrom_95 : decode cX3_copyFrom 95 = .ok (.aload_n 0, 1) := by decide +kernel
theorem dX3_copyFrom_96 : decode cX3_copyFrom 96 = .ok (.getfield 27, 3) := by decide +kernel
theorem dX3_copyFrom_99 : decode cX3_copyFrom 99 = .ok (.iconst 0, 1) := by decide +kernel
theorem dX3_copyFrom_100 : decode cX3_copyFrom 100 = .ok (.bipush 6, 2) := by decide +kernel
theorem dX3_copyFrom_102 : decode cX3_copyFrom 102 = .ok (.invokestatic 37, 3) := by decide +kernel
theorem dX3_copyFrom_105 : decode cX3_copyFrom 105 = .ok (.aload_n 1, 1) := by decide +kernel
theorem dX3_copyFrom_106 : decode cX3_copyFrom 106 = .ok (.getfield 30, 3) := by decide +kernel
theorem dX3_copyFrom_109 : decode cX3_copyFrom 109 = .ok (.iconst 0, 1) := by decide +kernel
theorem dX3_copyFrom_110 : decode cX3_copyFrom 110 = .ok (.aload_n 0, 1) := by decide +kernel
theorem dX3_copyFrom_111 : decode cX3_copyFrom 111 = .ok (.getfield 30, 3) := by decide +kernel
theorem dX3_copyFrom_114 : decode cX3_copyFrom 114 = .ok (.iconst 0, 1) := by decide +kernel
theorem dX3_copyFrom_115 : decode cX3_copyFrom 115 = .ok (.bipush 8, 2) := by decide +kernel
theorem dX3_copyFrom_117 : decode cX3_copyFrom 117 = .ok (.invokestatic 37, 3) := by decide +kernel
theorem dX3_copyFrom_120 : decode cX3_copyFrom 120 = .ok (.return_, 1) := by decide +kernel
theorem dX3_hasGroup_0 : decode cX3_hasGroup 0 = .ok (.iload_n 1, 1) := by decide +kernel
theorem dX3_hasGroup_1 : decode cX3_hasGroup 1 = .ok (.ifCond .lt 15, 3) := by decide +kernel
theorem dX3_hasGroup_4 : decode cX3_hasGroup 4 = .ok (.iload_n 1, 1) := by decide +kernel
theorem dX3_hasGroup_5 : decode cX3_hasGroup 5 = .ok (.aload_n 0, 1) := by decide +kernel
theorem dX3_hasGroup_6 : decode cX3_hasGroup 6 = .ok (.getfield 33, 3) := by decide +kernel
theorem dX3_hasGroup_9 : decode cX3_hasGroup 9 = .ok (.if_icmp .ge 7, 3) := by decide +kernel
theorem dX3_hasGroup_12 : decode cX3_hasGroup 12 = .ok (.iconst 1, 1) := by decide +kernel
theorem dX3_hasGroup_13 : decode cX3_hasGroup 13 = .ok (.goto 4, 3) := by decide +kernel
theorem dX3_hasGroup_16 : decode cX3_hasGroup 16 = .ok (.iconst 0, 1) := by decide +kernel
theorem dX3_hasGroup_17 : decode cX3_hasGroup 17 = .ok (.ireturn, 1) := by decide +kernel
theorem dX3_hasCamp_0 : decode cX3_hasCamp 0 = .ok (.iload_n 1, 1) := by decide +kernel
theorem dX3_hasCamp_1 : decode cX3_hasCamp 1 = .ok (.ifCond .lt 15, 3) := by decide +kernel
theorem dX3_hasCamp_4 : decode cX3_hasCamp 4 = .ok (.iload_n 1, 1) := by decide +kernel
theorem dX3_hasCamp_5 : decode cX3_hasCamp 5 = .ok (.aload_n 0, 1) := by decide +kernel
theorem dX3_hasCamp_6 : decode cX3_hasCamp 6 = .ok (.getfield 43, 3) := by decide +kernel
theorem dX3_hasCamp_9 : decode cX3_hasCamp 9 = .ok (.if_icmp .ge 7, 3) := by decide +kernel
theorem dX3_hasCamp_12 : decode cX3_hasCamp 12 = .ok (.iconst 1, 1) := by decide +kernel
theorem dX3_hasCamp_13 : decode cX3_hasCamp 13 = .ok (.goto 4, 3) := by decide +kernel
theorem dX3_hasCamp_16 : decode cX3_hasCamp 16 = .ok (.iconst 0, 1) := by decide +kernel
theorem dX3_hasCamp_17 : decode cX3_hasCamp 17 = .ok (.ireturn, 1) := by decide +kernel
theorem dX3_addGroup_0 : decode cX3_addGroup 0 = .ok (.aload_n 0, 1) := by decide +kernel
theorem dX3_addGroup_1 : decode cX3_addGroup 1 = .ok (.getfield 33, 3) := by decide +kernel
theorem dX3_addGroup_4 : decode cX3_addGroup 4 = .ok (.bipush 6, 2) := by decide +kernel
theorem dX3_addGroup_6 : decode cX3_addGroup 6 = .ok (.if_icmp .ge 33, 3) := by decide +kernel
theorem dX3_addGroup_9 : decode cX3_addGroup 9 = .ok (.aload_n 0, 1) := by decide +kernel
theorem dX3_addGroup_10 : decode cX3_addGroup 10 = .ok (.getfield 9, 3) := by decide +kernel
theorem dX3_addGroup_13 : decode cX3_addGroup 13 = .ok (.aload_n 0, 1) := by decide +kernel
theorem dX3_addGroup_14 : decode cX3_addGroup 14 = .ok (.getfield 33, 3) := by decide +kernel
theorem dX3_addGroup_17 : decode cX3_addGroup 17 = .ok (.iload_n 1, 1) := by decide +kernel
theorem dX3_addGroup_18 : decode cX3_addGroup 18 = .ok (.iastore, 1) := by decide +kernel
theorem dX3_addGroup_19 : decode cX3_addGroup 19 = .ok (.aload_n 0, 1) := by decide +kernel
theorem dX3_addGroup_20 : decode cX3_addGroup 20 = .ok (.getfield 15, 3) := by decide +kernel
theorem dX3_addGroup_23 : decode cX3_addGroup 23 = .ok (.aload_n 0, 1) := by decide +kernel
theorem dX3_addGroup_24 : decode cX3_addGroup 24 = .ok (.getfield 33, 3) := by decide +kernel
theorem dX3_addGroup_27 : decode cX3_addGroup 27 = .ok (.iload_n 2, 1) := by decide +kernel
theorem dX3_addGroup_28 : decode cX3_addGroup 28 = .ok (.iastore, 1) := by decide +kernel
theorem dX3_addGroup_29 : decode cX3_addGroup 29 = .ok (.aload_n 0, 1) := by decide +kernel
theorem dX3_addGroup_30 : decode cX3_addGroup 30 = .ok (.dup, 1) := by decide +kernel
theorem dX3_addGroup_31 : decode cX3_addGroup 31 = .ok (.getfield 33, 3) := by decide +kernel
theorem dX3_addGroup_34 : decode cX3_addGroup 34 = .ok (.iconst 1, 1) := by decide +kernel
theorem dX3_addGroup_35 : decode cX3_addGroup 35 = .ok (.iadd, 1) := by decide +kernel
theorem dX3_addGroup_36 : decode cX3_addGroup 36 = .ok (.putfield 33, 3) := by decide +kernel
theorem dX3_addGroup_39 : decode cX3_addGroup 39 = .ok (.return_, 1) := by decide +kernel
theorem dX3_addCamp_0 : decode cX3_addCamp 0 = .ok (.aload_n 0, 1) := by decide +kernel
theorem dX3_addCamp_1 : decode cX3_addCamp 1 = .ok (.getfield 43, 3) := by decide +kernel
theorem dX3_addCamp_4 : decode cX3_addCamp 4 = .ok (.iconst 4, 1) := by decide +kernel
theorem dX3_addCamp_5 : decode cX3_addCamp 5 = .ok (.if_icmp .ge 33, 3) := by decide +kernel
theorem dX3_addCamp_8 : decode cX3_addCamp 8 = .ok (.aload_n 0, 1) := by decide +kernel
theorem dX3_addCamp_9 : decode cX3_addCamp 9 = .ok (.getfield 21, 3) := by decide +kernel
theorem dX3_addCamp_12 : decode cX3_addCamp 12 = .ok (.aload_n 0, 1) := by decide +kernel
theorem dX3_addCamp_13 : decode cX3_addCamp 13 = .ok (.getfield 43, 3) := by decide +kernel
theorem dX3_addCamp_16 : decode cX3_addCamp 16 = .ok (.iload_n 1, 1) := by decide +kernel
theorem dX3_addCamp_17 : decode cX3_addCamp 17 = .ok (.iastore, 1) := by decide +kernel
theorem dX3_addCamp_18 : decode cX3_addCamp 18 = .ok (.aload_n 0, 1) := by decide +kernel
theorem dX3_addCamp_19 : decode cX3_addCamp 19 = .ok (.getfield 24, 3) := by decide +kernel
theorem dX3_addCamp_22 : decode cX3_addCamp 22 = .ok (.aload_n 0, 1) := by decide +kernel
theorem dX3_addCamp_23 : decode cX3_addCamp 23 = .ok (.getfield 43, 3) := by decide +kernel
theorem dX3_addCamp_26 : decode cX3_addCamp 26 = .ok (.iload_n 2, 1) := by decide +kernel
theorem dX3_addCamp_27 : decode cX3_addCamp 27 = .ok (.iastore, 1) := by decide +kernel
theorem dX3_addCamp_28 : decode cX3_addCamp 28 = .ok (.aload_n 0, 1) := by decide +kernel
theorem dX3_addCamp_29 : decode cX3_addCamp 29 = .ok (.dup, 1) := by decide +kernel
theorem dX3_addCamp_30 : decode cX3_addCamp 30 = .ok (.getfield 43, 3) := by decide +kernel
theorem dX3_addCamp_33 : decode cX3_addCamp 33 = .ok (.iconst 1, 1) := by decide +kernel
theorem dX3_addCamp_34 : decode cX3_addCamp 34 = .ok (.iadd, 1) := by decide +kernel
theorem dX3_addCamp_35 : decode cX3_addCamp 35 = .ok (.putfield 43, 3) := by decide +kernel
theorem dX3_addCamp_38 : decode cX3_addCamp 38 = .ok (.return_, 1) := by decide +kernel
theorem dX3_dropCamp_0 : decode cX3_dropCamp 0 = .ok (.iload_n 1, 1) := by decide +kernel
theorem dX3_dropCamp_1 : decode cX3_dropCamp 1 = .ok (.istore_n 2, 1) := by decide +kernel
theorem dX3_dropCamp_2 : decode cX3_dropCamp 2 = .ok (.iload_n 2, 1) := by decide +kernel
theorem dX3_dropCamp_3 : decode cX3_dropCamp 3 = .ok (.aload_n 0, 1) := by decide +kernel
theorem dX3_dropCamp_4 : decode cX3_dropCamp 4 = .ok (.getfield 43, 3) := by decide +kernel
theorem dX3_dropCamp_7 : decode cX3_dropCamp 7 = .ok (.iconst 1, 1) := by decide +kernel
theorem dX3_dropCamp_8 : decode cX3_dropCamp 8 = .ok (.isub, 1) := by decide +kernel
theorem dX3_dropCamp_9 : decode cX3_dropCamp 9 = .ok (.if_icmp .ge 37, 3) := by decide +kernel
theorem dX3_dropCamp_12 : decode cX3_dropCamp 12 = .ok (.aload_n 0, 1) := by decide +kernel
theorem dX3_dropCamp_13 : decode cX3_dropCamp 13 = .ok (.getfield 21, 3) := by decide +kernel
theorem dX3_dropCamp_16 : decode cX3_dropCamp 16 = .ok (.iload_n 2, 1) := by decide +kernel
theorem dX3_dropCamp_17 : decode cX3_dropCamp 17 = .ok (.aload_n 0, 1) := by decide +kernel
theorem dX3_dropCamp_18 : decode cX3_dropCamp 18 = .ok (.getfield 21, 3) := by decide +kernel
theorem dX3_dropCamp_21 : decode cX3_dropCamp 21 = .ok (.iload_n 2, 1) := by decide +kernel
theorem dX3_dropCamp_22 : decode cX3_dropCamp 22 = .ok (.iconst 1, 1) := by decide +kernel
theorem dX3_dropCamp_23 : decode cX3_dropCamp 23 = .ok (.iadd, 1) := by decide +kernel
theorem dX3_dropCamp_24 : decode cX3_dropCamp 24 = .ok (.iaload, 1) := by decide +kernel
theorem dX3_dropCamp_25 : decode cX3_dropCamp 25 = .ok (.iastore, 1) := by decide +kernel
theorem dX3_dropCamp_26 : decode cX3_dropCamp 26 = .ok (.aload_n 0, 1) := by decide +kernel
theorem dX3_dropCamp_27 : decode cX3_dropCamp 27 = .ok (.getfield 24, 3) := by decide +kernel
theorem dX3_dropCamp_30 : decode cX3_dropCamp 30 = .ok (.iload_n 2, 1) := by decide +kernel
theorem dX3_dropCamp_31 : decode cX3_dropCamp 31 = .ok (.aload_n 0, 1) := by decide +kernel
theorem dX3_dropCamp_32 : decode cX3_dropCamp 32 = .ok (.getfield 24, 3) := by decide +kernel
theorem dX3_dropCamp_35 : decode cX3_dropCamp 35 = .ok (.iload_n 2, 1) := by decide +kernel
theorem dX3_dropCamp_36 : decode cX3_dropCamp 36 = .ok (.iconst 1, 1) := by decide +kernel
theorem dX3_dropCamp_37 : decode cX3_dropCamp 37 = .ok (.iadd, 1) := by decide +kernel
theorem dX3_dropCamp_38 : decode cX3_dropCamp 38 = .ok (.iaload, 1) := by decide +kernel
theorem dX3_dropCamp_39 : decode cX3_dropCamp 39 = .ok (.iastore, 1) := by decide +kernel
theorem dX3_dropCamp_40 : decode cX3_dropCamp 40 = .ok (.iinc 2 1, 3) := by decide +kernel
theorem dX3_dropCamp_43 : decode cX3_dropCamp 43 = .ok (.goto (-41), 3) := by decide +kernel
theorem dX3_dropCamp_46 : decode cX3_dropCamp 46 = .ok (.aload_n 0, 1) := by decide +kernel
theorem dX3_dropCamp_47 : decode cX3_dropCamp 47 = .ok (.dup, 1) := by decide +kernel
theorem dX3_dropCamp_48 : decode cX3_dropCamp 48 = .ok (.getfield 43, 3) := by decide +kernel
theorem dX3_dropCamp_51 : decode cX3_dropCamp 51 = .ok (.iconst 1, 1) := by decide +kernel
theorem dX3_dropCamp_52 : decode cX3_dropCamp 52 = .ok (.isub, 1) := by decide +kernel
theorem dX3_dropCamp_53 : decode cX3_dropCamp 53 = .ok (.putfield 43, 3) := by decide +kernel
theorem dX3_dropCamp_56 : decode cX3_dropCamp 56 = .ok (.return_, 1) := by decide +kernel
theorem dX3_countOthers_0 : decode cX3_countOthers 0 = .ok (.iconst 0, 1) := by decide +kernel
theorem dX3_countOthers_1 : decode cX3_countOthers 1 = .ok (.istore 5, 2) := by decide +kernel
theorem dX3_countOthers_3 : decode cX3_countOthers 3 = .ok (.iload_n 2, 1) := by decide +kernel
theorem dX3_countOthers_4 : decode cX3_countOthers 4 = .ok (.istore 6, 2) := by decide +kernel
theorem dX3_countOthers_6 : decode cX3_countOthers 6 = .ok (.iload 6, 2) := by decide +kernel
theorem dX3_countOthers_8 : decode cX3_countOthers 8 = .ok (.iload_n 3, 1) := by decide +kernel
theorem dX3_countOthers_9 : decode cX3_countOthers 9 = .ok (.if_icmp .gt 29, 3) := by decide +kernel
theorem dX3_countOthers_12 : decode cX3_countOthers 12 = .ok (.aload_n 0, 1) := by decide +kernel
theorem dX3_countOthers_13 : decode cX3_countOthers 13 = .ok (.getfield 18, 3) := by decide +kernel
theorem dX3_countOthers_16 : decode cX3_countOthers 16 = .ok (.iload_n 1, 1) := by decide +kernel
theorem dX3_countOthers_17 : decode cX3_countOthers 17 = .ok (.bipush 70, 2) := by decide +kernel
theorem dX3_countOthers_19 : decode cX3_countOthers 19 = .ok (.imul, 1) := by decide +kernel
theorem dX3_countOthers_20 : decode cX3_countOthers 20 = .ok (.iload 6, 2) := by decide +kernel
theorem dX3_countOthers_22 : decode cX3_countOthers 22 = .ok (.iadd, 1) := by decide +kernel
theorem dX3_countOthers_23 : decode cX3_countOthers 23 = .ok (.iaload, 1) := by decide +kernel
theorem dX3_countOthers_24 : decode cX3_countOthers 24 = .ok (.iload 4, 2) := by decide +kernel
theorem dX3_countOthers_26 : decode cX3_countOthers 26 = .ok (.if_icmp .eq 6, 3) := by decide +kernel
theorem dX3_countOthers_29 : decode cX3_countOthers 29 = .ok (.iinc 5 1, 3) := by decide +kernel
theorem dX3_countOthers_32 : decode cX3_countOthers 32 = .ok (.iinc 6 1, 3) := by decide +kernel
theorem dX3_countOthers_35 : decode cX3_countOthers 35 = .ok (.goto (-29), 3) := by decide +kernel
theorem dX3_countOthers_38 : decode cX3_countOthers 38 = .ok (.iload 5, 2) := by decide +kernel
theorem dX3_countOthers_40 : decode cX3_countOthers 40 = .ok (.ireturn, 1) := by decide +kernel
theorem dX3_fillKinds_0 : decode cX3_fillKinds 0 = .ok (.iload_n 2, 1) := by decide +kernel
theorem dX3_fillKinds_1 : decode cX3_fillKinds 1 = .ok (.istore 5, 2) := by decide +kernel
theorem dX3_fillKinds_3 : decode cX3_fillKinds 3 = .ok (.iload 5, 2) := by decide +kernel
theorem dX3_fillKinds_5 : decode cX3_fillKinds 5 = .ok (.iload_n 3, 1) := by decide +kernel
theorem dX3_fillKinds_6 : decode cX3_fillKinds 6 = .ok (.if_icmp .gt 23, 3) := by decide +kernel
theorem dX3_fillKinds_9 : decode cX3_fillKinds 9 = .ok (.aload_n 0, 1) := by decide +kernel
theorem dX3_fillKinds_10 : decode cX3_fillKinds 10 = .ok (.getfield 18, 3) := by decide +kernel
theorem dX3_fillKinds_13 : decode cX3_fillKinds 13 = .ok (.iload_n 1, 1) := by decide +kernel
theorem dX3_fillKinds_14 : decode cX3_fillKinds 14 = .ok (.bipush 70, 2) := by decide +kernel
theorem dX3_fillKinds_16 : decode cX3_fillKinds 16 = .ok (.imul, 1) := by decide +kernel
theorem dX3_fillKinds_17 : decode cX3_fillKinds 17 = .ok (.iload 5, 2) := by decide +kernel
theorem dX3_fillKinds_19 : decode cX3_fillKinds 19 = .ok (.iadd, 1) := by decide +kernel
theorem dX3_fillKinds_20 : decode cX3_fillKinds 20 = .ok (.iload 4, 2) := by decide +kernel
theorem dX3_fillKinds_22 : decode cX3_fillKinds 22 = .ok (.iastore, 1) := by decide +kernel
theorem dX3_fillKinds_23 : decode cX3_fillKinds 23 = .ok (.iinc 5 1, 3) := by decide +kernel
theorem dX3_fillKinds_26 : decode cX3_fillKinds 26 = .ok (.goto (-23), 3) := by decide +kernel
theorem dX3_fillKinds_29 : decode cX3_fillKinds 29 = .ok (.return_, 1) := by decide +kernel
theorem dX3_repeatKinds_0 : decode cX3_repeatKinds 0 = .ok (.iload_n 2, 1) := by decide +kernel
theorem dX3_repeatKinds_1 : decode cX3_repeatKinds 1 = .ok (.iload_n 3, 1) := by decide +kernel
theorem dX3_repeatKinds_2 : decode cX3_repeatKinds 2 = .ok (.iadd, 1) := by decide +kernel
theorem dX3_repeatKinds_3 : decode cX3_repeatKinds 3 = .ok (.istore 5, 2) := by decide +kernel
theorem dX3_repeatKinds_5 : decode cX3_repeatKinds 5 = .ok (.iload 5, 2) := by decide +kernel
theorem dX3_repeatKinds_7 : decode cX3_repeatKinds 7 = .ok (.iload 4, 2) := by decide +kernel
theorem dX3_repeatKinds_9 : decode cX3_repeatKinds 9 = .ok (.if_icmp .ge 35, 3) := by decide +kernel
theorem dX3_repeatKinds_12 : decode cX3_repeatKinds 12 = .ok (.aload_n 0, 1) := by decide +kernel
theorem dX3_repeatKinds_13 : decode cX3_repeatKinds 13 = .ok (.getfield 18, 3) := by decide +kernel
theorem dX3_repeatKinds_16 : decode cX3_repeatKinds 16 = .ok (.iload_n 1, 1) := by decide +kernel
theorem dX3_repeatKinds_17 : decode cX3_repeatKinds 17 = .ok (.bipush 70, 2) := by decide +kernel
theorem dX3_repeatKinds_19 : decode cX3_repeatKinds 19 = .ok (.imul, 1) := by decide +kernel
theorem dX3_repeatKinds_20 : decode cX3_repeatKinds 20 = .ok (.iload 5, 2) := by decide +kernel
theorem dX3_repeatKinds_22 : decode cX3_repeatKinds 22 = .ok (.iadd, 1) := by decide +kernel
theorem dX3_repeatKinds_23 : decode cX3_repeatKinds 23 = .ok (.aload_n 0, 1) := by decide +kernel
theorem dX3_repeatKinds_24 : decode cX3_repeatKinds 24 = .ok (.getfield 18, 3) := by decide +kernel
theorem dX3_repeatKinds_27 : decode cX3_repeatKinds 27 = .ok (.iload_n 1, 1) := by decide +kernel
theorem dX3_repeatKinds_28 : decode cX3_repeatKinds 28 = .ok (.bipush 70, 2) := by decide +kernel
theorem dX3_repeatKinds_30 : decode cX3_repeatKinds 30 = .ok (.imul, 1) := by decide +kernel
theorem dX3_repeatKinds_31 : decode cX3_repeatKinds 31 = .ok (.iload 5, 2) := by decide +kernel
theorem dX3_repeatKinds_33 : decode cX3_repeatKinds 33 = .ok (.iadd, 1) := by decide +kernel
theorem dX3_repeatKinds_34 : decode cX3_repeatKinds 34 = .ok (.iload_n 3, 1) := by decide +kernel
theorem dX3_repeatKinds_35 : decode cX3_repeatKinds 35 = .ok (.isub, 1) := by decide +kernel
theorem dX3_repeatKinds_36 : decode cX3_repeatKinds 36 = .ok (.iaload, 1) := by decide +kernel
theorem dX3_repeatKinds_37 : decode cX3_repeatKinds 37 = .ok (.iastore, 1) := by decide +kernel
theorem dX3_repeatKinds_38 : decode cX3_repeatKinds 38 = .ok (.iinc 5 1, 3) := by decide +kernel
theorem dX3_repeatKinds_41 : decode cX3_repeatKinds 41 = .ok (.goto (-36), 3) := by decide +kernel
theorem dX3_repeatKinds_44 : decode cX3_repeatKinds 44 = .ok (.return_, 1) := by decide +kernel

def isTold (b : Nat) : Prop := sh b = some (.inl (3, [none, some (b + 1), some (b + 2), some (b + 3), none, some (b + 4), some (b + 5), some (b + 6), some (b + 7)])) ∧ sh (b + 1) = some (.inr (.inl (0, 6))) ∧ sh (b + 2) = some (.inr (.inl (0, 6))) ∧ sh (b + 3) = some (.inr (.inl (0, 420))) ∧ sh (b + 4) = some (.inr (.inl (0, 4))) ∧ sh (b + 5) = some (.inr (.inl (0, 4))) ∧ sh (b + 6) = some (.inr (.inl (0, 6))) ∧ sh (b + 7) = some (.inr (.inl (0, 8)))
theorem isTold_4 : isTold 4 := ⟨rfl, rfl, rfl, rfl, rfl, rfl, rfl, rfl⟩
theorem isTold_19 : isTold 19 := ⟨rfl, rfl, rfl, rfl, rfl, rfl, rfl, rfl⟩
/-- the j-th of the past -/
def pastB (j : Nat) : Nat := 52 + 8 * j
theorem isTold_past {j : Nat} (h : j < 8) : isTold (pastB j) := by
  unfold pastB
  rcases (show j = 0 ∨ j = 1 ∨ j = 2 ∨ j = 3 ∨ j = 4 ∨ j = 5 ∨ j = 6 ∨ j = 7 by omega) with rfl | rfl | rfl | rfl | rfl | rfl | rfl | rfl <;> exact ⟨rfl, rfl, rfl, rfl, rfl, rfl, rfl, rfl⟩
/-- places lo to hi-1 of a row hold v -/
def fillR (f : Nat → Int32) (lo hi : Nat) (v : Int32) : Nat → Int32 := fun j => if lo ≤ j ∧ j < hi then v else f j
theorem fillR_0 (f : Nat → Int32) (lo : Nat) (v : Int32) : fillR f lo lo v = f := by
  funext j; simp only [fillR]; rw [if_neg (by omega)]
theorem fillR_s (f : Nat → Int32) {lo hi : Nat} (v : Int32) (h : lo ≤ hi) : upd (fillR f lo hi v) hi v = fillR f lo (hi + 1) v := by
  funext j; simp only [fillR, upd]
  by_cases h1 : j = hi
  · rw [if_pos h1, if_pos (by omega)]
  · rw [if_neg h1]
    by_cases h2 : lo ≤ j ∧ j < hi
    · rw [if_pos h2, if_pos (by omega)]
    · rw [if_neg h2, if_neg (by omega)]
theorem upR_upR (σ : mS) (a : Nat) (f g : Nat → Int32) : upR (upR σ a f) a g = upR σ a g := by
  funext b; simp only [upR]; split <;> rfl
theorem upR_self (σ : mS) (a : Nat) : upR σ a (σ a) = σ := by
  funext b; simp only [upR]; split
  · rename_i h; rw [h]
  · rfl
section TOLD
variable {G : mG} {d b : Nat} {σ : mS}
theorem v_hasGroup (hb : isTold b) (g : Int32) : mV G mX3_hasGroup d [.ref b, .int g] σ (some (.int (bI (decide (nI 0 ≤ g) && decide (g < σ b 0))))) σ := by
  obtain ⟨s0, s1, s2, s3, s4, s5, s6, s7⟩ := hb
  refine mV_of fun Q hQ => ?_
  refine F_iload_n dX3_hasGroup_0 rfl ?_
  refine F_if_lt (tgt := 16) dX3_hasGroup_1 rfl (fun c1 => ?_) (fun c1 => ?_)
  · refine F_iconst (v := nI 0) dX3_hasGroup_16 rfl ?_
    refine F_zret dX3_hasGroup_17 rfl (by first | exact Or.inl rfl | exact Or.inr rfl | exact bI_01 _) ?_
    clear s0 s1 s2 s3 s4 s5 s6 s7
    first | exact Qb1 hQ (by simp_all [nI_0]) | exact Qb0 hQ (by simp only [nI_0, Bool.and_eq_false_iff, decide_eq_false_iff_not, Int32.not_le, Int32.not_lt]; first | exact Or.inl c1 | exact Or.inr (by assumption))
  · refine F_iload_n dX3_hasGroup_4 rfl ?_
    refine F_aload_n dX3_hasGroup_5 rfl ?_
    refine F_geti dX3_hasGroup_6 rfl rfl (by first | assumption | rfl) rfl ?_
    refine F_icmp_ge (tgt := 16) dX3_hasGroup_9 rfl (fun c9 => ?_) (fun c9 => ?_)
    · refine F_iconst (v := nI 0) dX3_hasGroup_16 rfl ?_
      refine F_zret dX3_hasGroup_17 rfl (by first | exact Or.inl rfl | exact Or.inr rfl | exact bI_01 _) ?_
      clear s0 s1 s2 s3 s4 s5 s6 s7
      first | exact Qb1 hQ (by simp_all [nI_0]) | exact Qb0 hQ (by simp only [nI_0, Bool.and_eq_false_iff, decide_eq_false_iff_not, Int32.not_le, Int32.not_lt]; first | exact Or.inl c1 | exact Or.inr (by assumption))
    · refine F_iconst (v := nI 1) dX3_hasGroup_12 rfl ?_
      refine F_goto (tgt := 17) dX3_hasGroup_13 rfl ?_
      refine F_zret dX3_hasGroup_17 rfl (by first | exact Or.inl rfl | exact Or.inr rfl | exact bI_01 _) ?_
      clear s0 s1 s2 s3 s4 s5 s6 s7
      first | exact Qb1 hQ (by simp_all [nI_0]) | exact Qb0 hQ (by simp only [nI_0, Bool.and_eq_false_iff, decide_eq_false_iff_not, Int32.not_le, Int32.not_lt]; first | exact Or.inl c1 | exact Or.inr (by assumption))

theorem v_hasCamp (hb : isTold b) (g : Int32) : mV G mX3_hasCamp d [.ref b, .int g] σ (some (.int (bI (decide (nI 0 ≤ g) && decide (g < σ b 4))))) σ := by
  obtain ⟨s0, s1, s2, s3, s4, s5, s6, s7⟩ := hb
  refine mV_of fun Q hQ => ?_
  refine F_iload_n dX3_hasCamp_0 rfl ?_
  refine F_if_lt (tgt := 16) dX3_hasCamp_1 rfl (fun c1 => ?_) (fun c1 => ?_)
  · refine F_iconst (v := nI 0) dX3_hasCamp_16 rfl ?_
    refine F_zret dX3_hasCamp_17 rfl (by first | exact Or.inl rfl | exact Or.inr rfl | exact bI_01 _) ?_
    clear s0 s1 s2 s3 s4 s5 s6 s7
    first | exact Qb1 hQ (by simp_all [nI_0]) | exact Qb0 hQ (by simp only [nI_0, Bool.and_eq_false_iff, decide_eq_false_iff_not, Int32.not_le, Int32.not_lt]; first | exact Or.inl c1 | exact Or.inr (by assumption))
  · refine F_iload_n dX3_hasCamp_4 rfl ?_
    refine F_aload_n dX3_hasCamp_5 rfl ?_
    refine F_geti dX3_hasCamp_6 rfl rfl (by first | assumption | rfl) rfl ?_
    refine F_icmp_ge (tgt := 16) dX3_hasCamp_9 rfl (fun c9 => ?_) (fun c9 => ?_)
    · refine F_iconst (v := nI 0) dX3_hasCamp_16 rfl ?_
      refine F_zret dX3_hasCamp_17 rfl (by first | exact Or.inl rfl | exact Or.inr rfl | exact bI_01 _) ?_
      clear s0 s1 s2 s3 s4 s5 s6 s7
      first | exact Qb1 hQ (by simp_all [nI_0]) | exact Qb0 hQ (by simp only [nI_0, Bool.and_eq_false_iff, decide_eq_false_iff_not, Int32.not_le, Int32.not_lt]; first | exact Or.inl c1 | exact Or.inr (by assumption))
    · refine F_iconst (v := nI 1) dX3_hasCamp_12 rfl ?_
      refine F_goto (tgt := 17) dX3_hasCamp_13 rfl ?_
      refine F_zret dX3_hasCamp_17 rfl (by first | exact Or.inl rfl | exact Or.inr rfl | exact bI_01 _) ?_
      clear s0 s1 s2 s3 s4 s5 s6 s7
      first | exact Qb1 hQ (by simp_all [nI_0]) | exact Qb0 hQ (by simp only [nI_0, Bool.and_eq_false_iff, decide_eq_false_iff_not, Int32.not_le, Int32.not_lt]; first | exact Or.inl c1 | exact Or.inr (by assumption))

theorem v_addGroup (hb : isTold b) (x y : Int32) {n : Nat} (hn : σ b 0 = nI n) (h6 : n < 6) : mV G mX3_addGroup d [.ref b, .int x, .int y] σ none (up (up (up σ (b + 1) n x) (b + 2) n y) b 0 (nI (n + 1))) := by
  obtain ⟨s0, s1, s2, s3, s4, s5, s6, s7⟩ := hb
  refine mV_of fun Q hQ => ?_
  refine F_aload_n dX3_addGroup_0 rfl ?_
  refine F_getE (v := nI n) dX3_addGroup_1 rfl rfl (by first | assumption | rfl) rfl (by simp [up, upR, hn]) ?_
  refine F_bipush (v := nI 6) dX3_addGroup_4 rfl ?_
  refine F_icmp_geN (tgt := 39) dX3_addGroup_6 rfl (by omega) (by omega) (fun c6 => ?_) (fun c6 => ?_)
  · exact absurd c6 (by omega)
  · refine F_aload_n dX3_addGroup_9 rfl ?_
    refine F_getr dX3_addGroup_10 rfl rfl (by first | assumption | rfl) rfl ?_
    refine F_aload_n dX3_addGroup_13 rfl ?_
    refine F_getE (v := nI n) dX3_addGroup_14 rfl rfl (by first | assumption | rfl) rfl (by simp [up, upR, hn]) ?_
    refine F_iload_n dX3_addGroup_17 rfl ?_
    refine F_iast dX3_addGroup_18 (by first | assumption | rfl) (by decide) (by omega) ?_
    refine F_aload_n dX3_addGroup_19 rfl ?_
    refine F_getr dX3_addGroup_20 rfl rfl (by first | assumption | rfl) rfl ?_
    refine F_aload_n dX3_addGroup_23 rfl ?_
    refine F_getE (v := nI n) dX3_addGroup_24 rfl rfl (by first | assumption | rfl) rfl (by simp [up, upR, hn]) ?_
    refine F_iload_n dX3_addGroup_27 rfl ?_
    refine F_iast dX3_addGroup_28 (by first | assumption | rfl) (by decide) (by omega) ?_
    refine F_aload_n dX3_addGroup_29 rfl ?_
    refine F_dup dX3_addGroup_30 rfl ?_
    refine F_getE (v := nI n) dX3_addGroup_31 rfl rfl (by first | assumption | rfl) rfl (by simp [up, upR, hn]) ?_
    refine F_iconst (v := nI 1) dX3_addGroup_34 rfl ?_
    refine F_iaddN dX3_addGroup_35 ?_
    refine F_put dX3_addGroup_36 rfl rfl (by first | assumption | rfl) rfl rfl rfl rfl ?_
    refine F_vret dX3_addGroup_39 rfl ?_
    exact hQ

theorem v_addCamp (hb : isTold b) (x y : Int32) {n : Nat} (hn : σ b 4 = nI n) (h6 : n < 4) : mV G mX3_addCamp d [.ref b, .int x, .int y] σ none (up (up (up σ (b + 4) n x) (b + 5) n y) b 4 (nI (n + 1))) := by
  obtain ⟨s0, s1, s2, s3, s4, s5, s6, s7⟩ := hb
  refine mV_of fun Q hQ => ?_
  refine F_aload_n dX3_addCamp_0 rfl ?_
  refine F_getE (v := nI n) dX3_addCamp_1 rfl rfl (by first | assumption | rfl) rfl (by simp [up, upR, hn]) ?_
  refine F_iconst (v := nI 4) dX3_addCamp_4 rfl ?_
  refine F_icmp_geN (tgt := 38) dX3_addCamp_5 rfl (by omega) (by omega) (fun c5 => ?_) (fun c5 => ?_)
  · exact absurd c5 (by omega)
  · refine F_aload_n dX3_addCamp_8 rfl ?_
    refine F_getr dX3_addCamp_9 rfl rfl (by first | assumption | rfl) rfl ?_
    refine F_aload_n dX3_addCamp_12 rfl ?_
    refine F_getE (v := nI n) dX3_addCamp_13 rfl rfl (by first | assumption | rfl) rfl (by simp [up, upR, hn]) ?_
    refine F_iload_n dX3_addCamp_16 rfl ?_
    refine F_iast dX3_addCamp_17 (by first | assumption | rfl) (by decide) (by omega) ?_
    refine F_aload_n dX3_addCamp_18 rfl ?_
    refine F_getr dX3_addCamp_19 rfl rfl (by first | assumption | rfl) rfl ?_
    refine F_aload_n dX3_addCamp_22 rfl ?_
    refine F_getE (v := nI n) dX3_addCamp_23 rfl rfl (by first | assumption | rfl) rfl (by simp [up, upR, hn]) ?_
    refine F_iload_n dX3_addCamp_26 rfl ?_
    refine F_iast dX3_addCamp_27 (by first | assumption | rfl) (by decide) (by omega) ?_
    refine F_aload_n dX3_addCamp_28 rfl ?_
    refine F_dup dX3_addCamp_29 rfl ?_
    refine F_getE (v := nI n) dX3_addCamp_30 rfl rfl (by first | assumption | rfl) rfl (by simp [up, upR, hn]) ?_
    refine F_iconst (v := nI 1) dX3_addCamp_33 rfl ?_
    refine F_iaddN dX3_addCamp_34 ?_
    refine F_put dX3_addCamp_35 rfl rfl (by first | assumption | rfl) rfl rfl rfl rfl ?_
    refine F_vret dX3_addCamp_38 rfl ?_
    exact hQ

theorem loopUp {P : Nat → Prop} (N : Nat) (h : ∀ e, e ≤ N → (e < N → P (e + 1)) → P e) : ∀ e, e ≤ N → P e := by
  intro e he
  obtain ⟨k, hk⟩ : ∃ k, e + k = N := ⟨N - e, by omega⟩
  induction k generalizing e with
  | zero => exact h e he (fun h1 => absurd h1 (by omega))
  | succ k ih => exact h e he (fun h1 => ih (e + 1) (by omega) (by omega))
theorem up_upR (σ : mS) (a : Nat) (f : Nat → Int32) (i : Nat) (v : Int32) : up (upR σ a f) a i v = upR σ a (upd f i v) := by
  unfold up
  rw [upR_s, upR_upR]
theorem up_fill (σ : mS) (a : Nat) (f : Nat → Int32) {lo hi : Nat} (v : Int32) (h : lo ≤ hi) : up (upR σ a (fillR f lo hi v)) a hi v = upR σ a (fillR f lo (hi + 1) v) := by
  rw [up_upR, fillR_s f v h]
theorem fill0 (σ : mS) (a lo : Nat) (v : Int32) : upR σ a (fillR (σ a) lo (lo + 0) v) = σ := by
  rw [Nat.add_zero, fillR_0, upR_self]
theorem up_cpy (σ : mS) (a : Nat) (f g : Nat → Int32) {sp dp n i : Nat} {v : Int32} (hi : i = dp + n) (hv : v = f (sp + n)) : up (upR σ a (va_cpy f g sp dp n)) a i v = upR σ a (va_cpy f g sp dp (n + 1)) := by
  subst hi; subst hv
  rw [up_upR, cpyS]
theorem cpy_0 (σ : mS) (a : Nat) (f : Nat → Int32) (sp dp : Nat) : upR σ a (va_cpy f (σ a) sp dp 0) = σ := by
  rw [cpy0, upR_self]
theorem up_sw (σ : mS) {a b : Nat} (g : Nat → Int32) (i : Nat) (v : Int32) (h : a ≠ b) : up (upR σ b g) a i v = upR (up σ a i v) b g := by
  funext c
  by_cases h1 : c = a
  · subst h1; simp [up, upR, h]
  · by_cases h2 : c = b
    · subst h2; simp [up, upR, h1]
    · simp [up, upR, h1, h2]
/-- how many of the first n -/
def cntB (p : Nat → Bool) : Nat → Nat
  | 0 => 0
  | n + 1 => cntB p n + (if p n = true then 1 else 0)
theorem cntB_le (p : Nat → Bool) (n : Nat) : cntB p n ≤ n := by
  induction n with
  | zero => exact Nat.le_refl 0
  | succ n ih => simp only [cntB]; split <;> omega
theorem cntB_congr {p q : Nat → Bool} {n : Nat} (h : ∀ i, i < n → p i = q i) : cntB p n = cntB q n := by
  induction n with
  | zero => rfl
  | succ n ih => simp only [cntB]; rw [ih (fun i hi => h i (by omega)), h n (by omega)]
def cp1 (σ : mS) (b o k n : Nat) : mS := upR σ (b + k) (va_cpy (σ (o + k)) (σ (b + k)) 0 0 n)
/-- all of o's goes to b -/
def copyT (σ : mS) (b o : Nat) : mS := cp1 (cp1 (cp1 (cp1 (up (cp1 (cp1 (cp1 (up σ b 0 (σ o 0)) b o 1 6) b o 2 6) b o 3 420) b 4 (σ o 4)) b o 4 4) b o 5 4) b o 6 6) b o 7 8
theorem v_copyFrom {o : Nat} (hb : isTold b) (ho : isTold o) (hd : b + 8 ≤ o ∨ o + 8 ≤ b) : mV G mX3_copyFrom d [.ref b, .ref o] σ none (copyT σ b o) := by
  obtain ⟨s0, s1, s2, s3, s4, s5, s6, s7⟩ := hb
  obtain ⟨t0, t1, t2, t3, t4, t5, t6, t7⟩ := ho
  refine mV_of fun Q hQ => ?_
  refine F_aload_n dX3_copyFrom_0 rfl ?_
  refine F_aload_n dX3_copyFrom_1 rfl ?_
  refine F_geti dX3_copyFrom_2 rfl rfl (by first | assumption | rfl) rfl ?_
  refine F_put dX3_copyFrom_5 rfl rfl (by first | assumption | rfl) rfl rfl rfl rfl ?_
  refine F_aload_n dX3_copyFrom_8 rfl ?_
  refine F_getr dX3_copyFrom_9 rfl rfl (by first | assumption | rfl) rfl ?_
  refine F_iconst (v := nI 0) dX3_copyFrom_12 rfl ?_
  refine F_aload_n dX3_copyFrom_13 rfl ?_
  refine F_getr dX3_copyFrom_14 rfl rfl (by first | assumption | rfl) rfl ?_
  refine F_iconst (v := nI 0) dX3_copyFrom_17 rfl ?_
  refine F_bipush (v := nI 6) dX3_copyFrom_18 rfl ?_
  refine F_copy dX3_copyFrom_20 rfl rfl (Nat.le_of_ble_eq_true rfl) (by first | assumption | rfl) (by first | assumption | rfl) (by decide) (by decide) (by omega) (by omega) ?_
  refine F_aload_n dX3_copyFrom_23 rfl ?_
  refine F_getr dX3_copyFrom_24 rfl rfl (by first | assumption | rfl) rfl ?_
  refine F_iconst (v := nI 0) dX3_copyFrom_27 rfl ?_
  refine F_aload_n dX3_copyFrom_28 rfl ?_
  refine F_getr dX3_copyFrom_29 rfl rfl (by first | assumption | rfl) rfl ?_
  refine F_iconst (v := nI 0) dX3_copyFrom_32 rfl ?_
  refine F_bipush (v := nI 6) dX3_copyFrom_33 rfl ?_
  refine F_copy dX3_copyFrom_35 rfl rfl (Nat.le_of_ble_eq_true rfl) (by first | assumption | rfl) (by first | assumption | rfl) (by decide) (by decide) (by omega) (by omega) ?_
  refine F_aload_n dX3_copyFrom_38 rfl ?_
  refine F_getr dX3_copyFrom_39 rfl rfl (by first | assumption | rfl) rfl ?_
  refine F_iconst (v := nI 0) dX3_copyFrom_42 rfl ?_
  refine F_aload_n dX3_copyFrom_43 rfl ?_
  refine F_getr dX3_copyFrom_44 rfl rfl (by first | assumption | rfl) rfl ?_
  refine F_iconst (v := nI 0) dX3_copyFrom_47 rfl ?_
  refine F_sipush (v := nI 420) dX3_copyFrom_48 rfl ?_
  refine F_copy dX3_copyFrom_51 rfl rfl (Nat.le_of_ble_eq_true rfl) (by first | assumption | rfl) (by first | assumption | rfl) (by decide) (by decide) (by omega) (by omega) ?_
  refine F_aload_n dX3_copyFrom_54 rfl ?_
  refine F_aload_n dX3_copyFrom_55 rfl ?_
  refine F_getE (v := σ o 4) dX3_copyFrom_56 rfl rfl (by first | assumption | rfl) rfl (by rw [upR_n _ _ (by omega), upR_n _ _ (by omega), upR_n _ _ (by omega), up_n _ _ _ (by omega)]) ?_
  refine F_put dX3_copyFrom_59 rfl rfl (by first | assumption | rfl) rfl rfl rfl rfl ?_
  refine F_aload_n dX3_copyFrom_62 rfl ?_
  refine F_getr dX3_copyFrom_63 rfl rfl (by first | assumption | rfl) rfl ?_
  refine F_iconst (v := nI 0) dX3_copyFrom_66 rfl ?_
  refine F_aload_n dX3_copyFrom_67 rfl ?_
  refine F_getr dX3_copyFrom_68 rfl rfl (by first | assumption | rfl) rfl ?_
  refine F_iconst (v := nI 0) dX3_copyFrom_71 rfl ?_
  refine F_iconst (v := nI 4) dX3_copyFrom_72 rfl ?_
  refine F_copy dX3_copyFrom_73 rfl rfl (Nat.le_of_ble_eq_true rfl) (by first | assumption | rfl) (by first | assumption | rfl) (by decide) (by decide) (by omega) (by omega) ?_
  refine F_aload_n dX3_copyFrom_76 rfl ?_
  refine F_getr dX3_copyFrom_77 rfl rfl (by first | assumption | rfl) rfl ?_
  refine F_iconst (v := nI 0) dX3_copyFrom_80 rfl ?_
  refine F_aload_n dX3_copyFrom_81 rfl ?_
  refine F_getr dX3_copyFrom_82 rfl rfl (by first | assumption | rfl) rfl ?_
  refine F_iconst (v := nI 0) dX3_copyFrom_85 rfl ?_
  refine F_iconst (v := nI 4) dX3_copyFrom_86 rfl ?_
  refine F_copy dX3_copyFrom_87 rfl rfl (Nat.le_of_ble_eq_true rfl) (by first | assumption | rfl) (by first | assumption | rfl) (by decide) (by decide) (by omega) (by omega) ?_
  refine F_aload_n dX3_copyFrom_90 rfl ?_
  refine F_getr dX3_copyFrom_91 rfl rfl (by first | assumption | rfl) rfl ?_
  refine F_iconst (v := nI 0) dX3_copyFrom_94 rfl ?_
  refine F_aload_n dX3_copyFrom_95 rfl ?_
  refine F_getr dX3_copyFrom_96 rfl rfl (by first | assumption | rfl) rfl ?_
  refine F_iconst (v := nI 0) dX3_copyFrom_99 rfl ?_
  refine F_bipush (v := nI 6) dX3_copyFrom_100 rfl ?_
  refine F_copy dX3_copyFrom_102 rfl rfl (Nat.le_of_ble_eq_true rfl) (by first | assumption | rfl) (by first | assumption | rfl) (by decide) (by decide) (by omega) (by omega) ?_
  refine F_aload_n dX3_copyFrom_105 rfl ?_
  refine F_getr dX3_copyFrom_106 rfl rfl (by first | assumption | rfl) rfl ?_
  refine F_iconst (v := nI 0) dX3_copyFrom_109 rfl ?_
  refine F_aload_n dX3_copyFrom_110 rfl ?_
  refine F_getr dX3_copyFrom_111 rfl rfl (by first | assumption | rfl) rfl ?_
  refine F_iconst (v := nI 0) dX3_copyFrom_114 rfl ?_
  refine F_bipush (v := nI 8) dX3_copyFrom_115 rfl ?_
  refine F_copy dX3_copyFrom_117 rfl rfl (Nat.le_of_ble_eq_true rfl) (by first | assumption | rfl) (by first | assumption | rfl) (by decide) (by decide) (by omega) (by omega) ?_
  refine F_vret dX3_copyFrom_120 rfl ?_
  exact hQ

theorem v_countOthers (hb : isTold b) {g a e : Nat} {kind : Int32} (hg : g < 6) (hab : a ≤ e) (he : e < 70) : mV G mX3_countOthers d [.ref b, .int (nI g), .int (nI a), .int (nI e), .int kind] σ (some (.int (nI (cntB (fun i => decide (¬ σ (b + 3) (g * 70 + (a + i)) = kind)) (e + 1 - a))))) σ := by
  obtain ⟨s0, s1, s2, s3, s4, s5, s6, s7⟩ := hb
  refine mV_of fun Q hQ => ?_
  have hl : ∀ x, x ≤ e + 1 - a → mF G mX3_countOthers d 6 [some (.ref b), some (.int (nI g)), some (.int (nI a)), some (.int (nI e)), some (.int kind), some (.int (nI (cntB (fun i => decide (¬ σ (b + 3) (g * 70 + (a + i)) = kind)) x))), some (.int (nI (a + x)))] [] σ Q := by
    refine loopUp (e + 1 - a) (fun x hx ih => ?_)
    have hle := cntB_le (fun i => decide (¬ σ (b + 3) (g * 70 + (a + i)) = kind)) x
    refine F_iload dX3_countOthers_6 rfl ?_
    refine F_iload_n dX3_countOthers_8 rfl ?_
    refine F_icmp_gtN (tgt := 38) dX3_countOthers_9 rfl (by omega) (by omega) (fun c9 => ?_) (fun c9 => ?_)
    · refine F_iload dX3_countOthers_38 rfl ?_
      refine F_iret dX3_countOthers_40 rfl ?_
      have e1 : x = e + 1 - a := by omega
      subst e1
      exact hQ
    · refine F_aload_n dX3_countOthers_12 rfl ?_
      refine F_getr dX3_countOthers_13 rfl rfl (by first | assumption | rfl) rfl ?_
      refine F_iload_n dX3_countOthers_16 rfl ?_
      refine F_bipush (v := nI 70) dX3_countOthers_17 rfl ?_
      refine F_imulN dX3_countOthers_19 ?_
      refine F_iload dX3_countOthers_20 rfl ?_
      refine F_iaddN dX3_countOthers_22 ?_
      refine F_iald dX3_countOthers_23 (by first | assumption | rfl) (by decide) (by omega) ?_
      refine F_iload dX3_countOthers_24 rfl ?_
      refine F_icmp_eq (tgt := 32) dX3_countOthers_26 rfl (fun c26 => ?_) (fun c26 => ?_)
      · refine F_iincN dX3_countOthers_32 rfl ?_
        refine F_goto (tgt := 6) dX3_countOthers_35 rfl ?_
        have ih := ih (by omega)
        simp only [cntB] at ih
        first
          | (rw [if_pos (by rw [decide_eq_true_eq]; exact c26)] at ih; exact ih)
          | (rw [if_neg (by rw [decide_eq_true_eq]; exact fun z => z c26)] at ih; exact ih)
      · refine F_iincN dX3_countOthers_29 rfl ?_
        refine F_iincN dX3_countOthers_32 rfl ?_
        refine F_goto (tgt := 6) dX3_countOthers_35 rfl ?_
        have ih := ih (by omega)
        simp only [cntB] at ih
        first
          | (rw [if_pos (by rw [decide_eq_true_eq]; exact c26)] at ih; exact ih)
          | (rw [if_neg (by rw [decide_eq_true_eq]; exact fun z => z c26)] at ih; exact ih)
  refine F_iconst (v := nI 0) dX3_countOthers_0 rfl ?_
  refine F_istore dX3_countOthers_1 (Nat.le_of_ble_eq_true rfl) ?_
  refine F_iload_n dX3_countOthers_3 rfl ?_
  refine F_istore dX3_countOthers_4 (Nat.le_of_ble_eq_true rfl) ?_
  exact hl 0 (by omega)

theorem v_fillKinds (hb : isTold b) {g a e : Nat} {kind : Int32} (hg : g < 6) (hab : a ≤ e) (he : e < 70) : mV G mX3_fillKinds d [.ref b, .int (nI g), .int (nI a), .int (nI e), .int kind] σ none (upR σ (b + 3) (fillR (σ (b + 3)) (g * 70 + a) (g * 70 + a + (e + 1 - a)) kind)) := by
  obtain ⟨s0, s1, s2, s3, s4, s5, s6, s7⟩ := hb
  refine mV_of fun Q hQ => ?_
  have hl : ∀ x, x ≤ e + 1 - a → mF G mX3_fillKinds d 3 [some (.ref b), some (.int (nI g)), some (.int (nI a)), some (.int (nI e)), some (.int kind), some (.int (nI (a + x)))] [] (upR σ (b + 3) (fillR (σ (b + 3)) (g * 70 + a) (g * 70 + a + x) kind)) Q := by
    refine loopUp (e + 1 - a) (fun x hx ih => ?_)
    refine F_iload dX3_fillKinds_3 rfl ?_
    refine F_iload_n dX3_fillKinds_5 rfl ?_
    refine F_icmp_gtN (tgt := 29) dX3_fillKinds_6 rfl (by omega) (by omega) (fun c6 => ?_) (fun c6 => ?_)
    · refine F_vret dX3_fillKinds_29 rfl ?_
      have e1 : x = e + 1 - a := by omega
      subst e1
      exact hQ
    · refine F_aload_n dX3_fillKinds_9 rfl ?_
      refine F_getr dX3_fillKinds_10 rfl rfl (by first | assumption | rfl) rfl ?_
      refine F_iload_n dX3_fillKinds_13 rfl ?_
      refine F_bipush (v := nI 70) dX3_fillKinds_14 rfl ?_
      refine F_imulN dX3_fillKinds_16 ?_
      refine F_iload dX3_fillKinds_17 rfl ?_
      refine F_iaddN dX3_fillKinds_19 ?_
      refine F_iload dX3_fillKinds_20 rfl ?_
      refine F_iast dX3_fillKinds_22 (by first | assumption | rfl) (by decide) (by omega) ?_
      refine F_iincN dX3_fillKinds_23 rfl ?_
      refine F_goto (tgt := 3) dX3_fillKinds_26 rfl ?_
      have e3 : g * 70 + (a + x) = g * 70 + a + x := by omega
      rw [e3]
      refine F_sg (up_fill _ _ _ _ (by omega)) ?_
      exact ih (by omega)
  refine F_iload_n dX3_fillKinds_0 rfl ?_
  refine F_istore dX3_fillKinds_1 (Nat.le_of_ble_eq_true rfl) ?_
  refine F_sg (fill0 _ (b + 3) (g * 70 + a) kind).symm ?_
  exact hl 0 (by omega)

theorem v_dropCamp (hb : isTold b) {c n : Nat} (hn : σ b 4 = nI n) (hc : c < n) (h4 : n ≤ 4) : mV G mX3_dropCamp d [.ref b, .int (nI c)] σ none (up (upR (upR σ (b + 4) (va_cpy (σ (b + 4)) (σ (b + 4)) (c + 1) c (n - 1 - c))) (b + 5) (va_cpy (σ (b + 5)) (σ (b + 5)) (c + 1) c (n - 1 - c))) b 4 (nI (n - 1))) := by
  obtain ⟨s0, s1, s2, s3, s4, s5, s6, s7⟩ := hb
  refine mV_of fun Q hQ => ?_
  have hl : ∀ x, x ≤ n - 1 - c → mF G mX3_dropCamp d 2 [some (.ref b), some (.int (nI c)), some (.int (nI (c + x)))] [] (upR (upR σ (b + 4) (va_cpy (σ (b + 4)) (σ (b + 4)) (c + 1) c x)) (b + 5) (va_cpy (σ (b + 5)) (σ (b + 5)) (c + 1) c x)) Q := by
    refine loopUp (n - 1 - c) (fun x hx ih => ?_)
    have hr4 : (upR (upR σ (b + 4) (va_cpy (σ (b + 4)) (σ (b + 4)) (c + 1) c x)) (b + 5) (va_cpy (σ (b + 5)) (σ (b + 5)) (c + 1) c x)) b 4 = nI n := by rw [upR_n _ _ (by omega), upR_n _ _ (by omega)]; exact hn
    refine F_iload_n dX3_dropCamp_2 rfl ?_
    refine F_aload_n dX3_dropCamp_3 rfl ?_
    refine F_getE (v := nI n) dX3_dropCamp_4 rfl rfl (by first | assumption | rfl) rfl hr4 ?_
    refine F_iconst (v := nI 1) dX3_dropCamp_7 rfl ?_
    refine F_isubN dX3_dropCamp_8 (by omega) ?_
    refine F_icmp_geN (tgt := 46) dX3_dropCamp_9 rfl (by omega) (by omega) (fun c9 => ?_) (fun c9 => ?_)
    · refine F_aload_n dX3_dropCamp_46 rfl ?_
      refine F_dup dX3_dropCamp_47 rfl ?_
      refine F_getE (v := nI n) dX3_dropCamp_48 rfl rfl (by first | assumption | rfl) rfl hr4 ?_
      refine F_iconst (v := nI 1) dX3_dropCamp_51 rfl ?_
      refine F_isubN dX3_dropCamp_52 (by omega) ?_
      refine F_put dX3_dropCamp_53 rfl rfl (by first | assumption | rfl) rfl rfl rfl rfl ?_
      refine F_vret dX3_dropCamp_56 rfl ?_
      have e1 : x = n - 1 - c := by omega
      subst e1
      exact hQ
    · refine F_aload_n dX3_dropCamp_12 rfl ?_
      refine F_getr dX3_dropCamp_13 rfl rfl (by first | assumption | rfl) rfl ?_
      refine F_iload_n dX3_dropCamp_16 rfl ?_
      refine F_aload_n dX3_dropCamp_17 rfl ?_
      refine F_getr dX3_dropCamp_18 rfl rfl (by first | assumption | rfl) rfl ?_
      refine F_iload_n dX3_dropCamp_21 rfl ?_
      refine F_iconst (v := nI 1) dX3_dropCamp_22 rfl ?_
      refine F_iaddN dX3_dropCamp_23 ?_
      refine F_ialdE (v := σ (b + 4) (c + 1 + x)) dX3_dropCamp_24 (by first | assumption | rfl) (by decide) (by omega) (by rw [upR_n _ _ (by omega), upR_s]; simp only [va_cpy]; rw [if_neg (by omega)]; congr 1; omega) ?_
      refine F_iast dX3_dropCamp_25 (by first | assumption | rfl) (by decide) (by omega) ?_
      refine F_aload_n dX3_dropCamp_26 rfl ?_
      refine F_getr dX3_dropCamp_27 rfl rfl (by first | assumption | rfl) rfl ?_
      refine F_iload_n dX3_dropCamp_30 rfl ?_
      refine F_aload_n dX3_dropCamp_31 rfl ?_
      refine F_getr dX3_dropCamp_32 rfl rfl (by first | assumption | rfl) rfl ?_
      refine F_iload_n dX3_dropCamp_35 rfl ?_
      refine F_iconst (v := nI 1) dX3_dropCamp_36 rfl ?_
      refine F_iaddN dX3_dropCamp_37 ?_
      refine F_ialdE (v := σ (b + 5) (c + 1 + x)) dX3_dropCamp_38 (by first | assumption | rfl) (by decide) (by omega) (by rw [up_n _ _ _ (by omega), upR_s]; simp only [va_cpy]; rw [if_neg (by omega)]; congr 1; omega) ?_
      refine F_iast dX3_dropCamp_39 (by first | assumption | rfl) (by decide) (by omega) ?_
      refine F_iincN dX3_dropCamp_40 rfl ?_
      refine F_goto (tgt := 2) dX3_dropCamp_43 rfl ?_
      refine F_sg ?_ (ih (by omega))
      rw [up_sw _ _ _ _ (show b + 4 ≠ b + 5 by omega), up_cpy _ _ _ _ rfl rfl, up_cpy _ _ _ _ rfl rfl]
  refine F_iload_n dX3_dropCamp_0 rfl ?_
  refine F_istore_n dX3_dropCamp_1 (Nat.le_of_ble_eq_true rfl) ?_
  refine F_sg ?_ (hl 0 (by omega))
  rw [cpy0, cpy0, upR_self]
  exact (upR_self σ (b + 5)).symm

end TOLD
end
section
/-! ===== the reference: small methods ===== -/
theorem dX5_isIn_0 : decode cX5_isIn 0 = .ok (.iload_n 0, 1) := by decide +kernel
theorem dX5_isIn_1 : decode cX5_isIn 1 = .ok (.iload_n 1, 1) := by decide +kernel
theorem dX5_isIn_2 : decode cX5_isIn 2 = .ok (.if_icmp .lt 12, 3) := by decide +kernel
theorem dX5_isIn_5 : decode cX5_isIn 5 = .ok (.iload_n 0, 1) := by decide +kernel
theorem dX5_isIn_6 : decode cX5_isIn 6 = .ok (.iload_n 2, 1) := by decide +kernel
theorem dX5_isIn_7 : decode cX5_isIn 7 = .ok (.if_icmp .gt 7, 3) := by decide +kernel
theorem dX5_isIn_10 : decode cX5_isIn 10 = .ok (.iconst 1, 1) := by decide +kernel
theorem dX5_isIn_11 : decode cX5_isIn 11 = .ok (.goto 4, 3) := by decide +kernel
theorem dX5_isIn_14 : decode cX5_isIn 14 = .ok (.iconst 0, 1) := by decide +kernel
theorem dX5_isIn_15 : decode cX5_isIn 15 = .ok (.ireturn, 1) := by decide +kernel
theorem dX5_of_0 : decode cX5_of 0 = .ok (.aload_n 0, 1) := by decide +kernel
theorem dX5_of_1 : decode cX5_of 1 = .ok (.getfield 7, 3) := by decide +kernel
theorem dX5_of_4 : decode cX5_of 4 = .ok (.bipush 6, 2) := by decide +kernel
theorem dX5_of_6 : decode cX5_of 6 = .ok (.iload_n 1, 1) := by decide +kernel
theorem dX5_of_7 : decode cX5_of 7 = .ok (.iadd, 1) := by decide +kernel
theorem dX5_of_8 : decode cX5_of 8 = .ok (.iaload, 1) := by decide +kernel
theorem dX5_of_9 : decode cX5_of 9 = .ok (.ireturn, 1) := by decide +kernel
theorem dX5_groups_0 : decode cX5_groups 0 = .ok (.aload_n 0, 1) := by decide +kernel
theorem dX5_groups_1 : decode cX5_groups 1 = .ok (.getfield 7, 3) := by decide +kernel
theorem dX5_groups_4 : decode cX5_groups 4 = .ok (.bipush 23, 2) := by decide +kernel
theorem dX5_groups_6 : decode cX5_groups 6 = .ok (.iaload, 1) := by decide +kernel
theorem dX5_groups_7 : decode cX5_groups 7 = .ok (.ireturn, 1) := by decide +kernel
theorem dX5_camps_0 : decode cX5_camps 0 = .ok (.aload_n 0, 1) := by decide +kernel
theorem dX5_camps_1 : decode cX5_camps 1 = .ok (.getfield 7, 3) := by decide +kernel
theorem dX5_camps_4 : decode cX5_camps 4 = .ok (.bipush 14, 2) := by decide +kernel
theorem dX5_camps_6 : decode cX5_camps 6 = .ok (.iaload, 1) := by decide +kernel
theorem dX5_camps_7 : decode cX5_camps 7 = .ok (.ireturn, 1) := by decide +kernel
theorem dX5_kindOf_0 : decode cX5_kindOf 0 = .ok (.aload_n 0, 1) := by decide +kernel
theorem dX5_kindOf_1 : decode cX5_kindOf 1 = .ok (.getfield 7, 3) := by decide +kernel
theorem dX5_kindOf_4 : decode cX5_kindOf 4 = .ok (.bipush 40, 2) := by decide +kernel
theorem dX5_kindOf_6 : decode cX5_kindOf 6 = .ok (.bipush 70, 2) := by decide +kernel
theorem dX5_kindOf_8 : decode cX5_kindOf 8 = .ok (.iload_n 1, 1) := by decide +kernel
theorem dX5_kindOf_9 : decode cX5_kindOf 9 = .ok (.imul, 1) := by decide +kernel
theorem dX5_kindOf_10 : decode cX5_kindOf 10 = .ok (.iadd, 1) := by decide +kernel
theorem dX5_kindOf_11 : decode cX5_kindOf 11 = .ok (.iload_n 2, 1) := by decide +kernel
theorem dX5_kindOf_12 : decode cX5_kindOf 12 = .ok (.iadd, 1) := by decide +kernel
theorem dX5_kindOf_13 : decode cX5_kindOf 13 = .ok (.iaload, 1) := by decide +kernel
theorem dX5_kindOf_14 : decode cX5_kindOf 14 = .ok (.ireturn, 1) := by decide +kernel
theorem dX5_isGroup_0 : decode cX5_isGroup 0 = .ok (.iload_n 1, 1) := by decide +kernel
theorem dX5_isGroup_1 : decode cX5_isGroup 1 = .ok (.iconst 0, 1) := by decide +kernel
theorem dX5_isGroup_2 : decode cX5_isGroup 2 = .ok (.aload_n 0, 1) := by decide +kernel
theorem dX5_isGroup_3 : decode cX5_isGroup 3 = .ok (.invokevirtual 64, 3) := by decide +kernel
theorem dX5_isGroup_6 : decode cX5_isGroup 6 = .ok (.iconst 1, 1) := by decide +kernel
theorem dX5_isGroup_7 : decode cX5_isGroup 7 = .ok (.isub, 1) := by decide +kernel
theorem dX5_isGroup_8 : decode cX5_isGroup 8 = .ok (.invokestatic 68, 3) := by decide +kernel
theorem dX5_isGroup_11 : decode cX5_isGroup 11 = .ok (.ireturn, 1) := by decide +kernel
theorem dX5_isDay_0 : decode cX5_isDay 0 = .ok (.iload_n 0, 1) := by decide +kernel
theorem dX5_isDay_1 : decode cX5_isDay 1 = .ok (.iconst 0, 1) := by decide +kernel
theorem dX5_isDay_2 : decode cX5_isDay 2 = .ok (.bipush 69, 2) := by decide +kernel
theorem dX5_isDay_4 : decode cX5_isDay 4 = .ok (.invokestatic 68, 3) := by decide +kernel
theorem dX5_isDay_7 : decode cX5_isDay 7 = .ok (.ireturn, 1) := by decide +kernel
theorem dX5_isOne_0 : decode cX5_isOne 0 = .ok (.aload_n 0, 1) := by decide +kernel
theorem dX5_isOne_1 : decode cX5_isOne 1 = .ok (.iload_n 1, 1) := by decide +kernel
theorem dX5_isOne_2 : decode cX5_isOne 2 = .ok (.invokevirtual 72, 3) := by decide +kernel
theorem dX5_isOne_5 : decode cX5_isOne 5 = .ok (.ifCond .eq 14, 3) := by decide +kernel
theorem dX5_isOne_8 : decode cX5_isOne 8 = .ok (.iload_n 2, 1) := by decide +kernel
theorem dX5_isOne_9 : decode cX5_isOne 9 = .ok (.invokestatic 76, 3) := by decide +kernel
theorem dX5_isOne_12 : decode cX5_isOne 12 = .ok (.ifCond .eq 7, 3) := by decide +kernel
theorem dX5_isOne_15 : decode cX5_isOne 15 = .ok (.iconst 1, 1) := by decide +kernel
theorem dX5_isOne_16 : decode cX5_isOne 16 = .ok (.goto 4, 3) := by decide +kernel
theorem dX5_isOne_19 : decode cX5_isOne 19 = .ok (.iconst 0, 1) := by decide +kernel
theorem dX5_isOne_20 : decode cX5_isOne 20 = .ok (.ireturn, 1) := by decide +kernel
theorem dX5_areDays_0 : decode cX5_areDays 0 = .ok (.aload_n 0, 1) := by decide +kernel
theorem dX5_areDays_1 : decode cX5_areDays 1 = .ok (.iload_n 1, 1) := by decide +kernel
theorem dX5_areDays_2 : decode cX5_areDays 2 = .ok (.iload_n 2, 1) := by decide +kernel
theorem dX5_areDays_3 : decode cX5_areDays 3 = .ok (.invokevirtual 79, 3) := by decide +kernel
theorem dX5_areDays_6 : decode cX5_areDays 6 = .ok (.ifCond .eq 19, 3) := by decide +kernel
theorem dX5_areDays_9 : decode cX5_areDays 9 = .ok (.iload_n 3, 1) := by decide +kernel
theorem dX5_areDays_10 : decode cX5_areDays 10 = .ok (.invokestatic 76, 3) := by decide +kernel
theorem dX5_areDays_13 : decode cX5_areDays 13 = .ok (.ifCond .eq 12, 3) := by decide +kernel
theorem dX5_areDays_16 : decode cX5_areDays 16 = .ok (.iload_n 2, 1) := by decide +kernel
theorem dX5_areDays_17 : decode cX5_areDays 17 = .ok (.iload_n 3, 1) := by decide +kernel
theorem dX5_areDays_18 : decode cX5_areDays 18 = .ok (.if_icmp .gt 7, 3) := by decide +kernel
theorem dX5_areDays_21 : decode cX5_areDays 21 = .ok (.iconst 1, 1) := by decide +kernel
theorem dX5_areDays_22 : decode cX5_areDays 22 = .ok (.goto 4, 3) := by decide +kernel
theorem dX5_areDays_25 : decode cX5_areDays 25 = .ok (.iconst 0, 1) := by decide +kernel
theorem dX5_areDays_26 : decode cX5_areDays 26 = .ok (.ireturn, 1) := by decide +kernel
theorem dX5_maySet_0 : decode cX5_maySet 0 = .ok (.iload_n 0, 1) := by decide +kernel
theorem dX5_maySet_1 : decode cX5_maySet 1 = .ok (.tableswitch 86 0 6 #[43, 43, 51, 51, 59, 69, 77], 43) := by decide +kernel
theorem dX5_maySet_44 : decode cX5_maySet 44 = .ok (.iload_n 1, 1) := by decide +kernel
theorem dX5_maySet_45 : decode cX5_maySet 45 = .ok (.iconst 2, 1) := by decide +kernel
theorem dX5_maySet_46 : decode cX5_maySet 46 = .ok (.bipush 99, 2) := by decide +kernel
theorem dX5_maySet_48 : decode cX5_maySet 48 = .ok (.invokestatic 68, 3) := by decide +kernel
theorem dX5_maySet_51 : decode cX5_maySet 51 = .ok (.ireturn, 1) := by decide +kernel
theorem dX5_maySet_52 : decode cX5_maySet 52 = .ok (.iload_n 1, 1) := by decide +kernel
theorem dX5_maySet_53 : decode cX5_maySet 53 = .ok (.iconst 1, 1) := by decide +kernel
theorem dX5_maySet_54 : decode cX5_maySet 54 = .ok (.bipush 9, 2) := by decide +kernel
theorem dX5_maySet_56 : decode cX5_maySet 56 = .ok (.invokestatic 68, 3) := by decide +kernel
theorem dX5_maySet_59 : decode cX5_maySet 59 = .ok (.ireturn, 1) := by decide +kernel
theorem dX5_maySet_60 : decode cX5_maySet 60 = .ok (.iload_n 1, 1) := by decide +kernel
theorem dX5_maySet_61 : decode cX5_maySet 61 = .ok (.bipush 100, 2) := by decide +kernel
theorem dX5_maySet_63 : decode cX5_maySet 63 = .ok (.sipush 400, 3) := by decide +kernel
theorem dX5_maySet_66 : decode cX5_maySet 66 = .ok (.invokestatic 68, 3) := by decide +kernel
theorem dX5_maySet_69 : decode cX5_maySet 69 = .ok (.ireturn, 1) := by decide +kernel
theorem dX5_maySet_70 : decode cX5_maySet 70 = .ok (.iload_n 1, 1) := by decide +kernel
theorem dX5_maySet_71 : decode cX5_maySet 71 = .ok (.iconst 1, 1) := by decide +kernel
theorem dX5_maySet_72 : decode cX5_maySet 72 = .ok (.bipush 14, 2) := by decide +kernel
theorem dX5_maySet_74 : decode cX5_maySet 74 = .ok (.invokestatic 68, 3) := by decide +kernel
theorem dX5_maySet_77 : decode cX5_maySet 77 = .ok (.ireturn, 1) := by decide +kernel
theorem dX5_maySet_78 : decode cX5_maySet 78 = .ok (.iload_n 1, 1) := by decide +kernel
theorem dX5_maySet_79 : decode cX5_maySet 79 = .ok (.iconst 0, 1) := by decide +kernel
theorem dX5_maySet_80 : decode cX5_maySet 80 = .ok (.sipush 2100, 3) := by decide +kernel
theorem dX5_maySet_83 : decode cX5_maySet 83 = .ok (.invokestatic 68, 3) := by decide +kernel
theorem dX5_maySet_86 : decode cX5_maySet 86 = .ok (.ireturn, 1) := by decide +kernel
theorem dX5_maySet_87 : decode cX5_maySet 87 = .ok (.iload_n 0, 1) := by decide +kernel
theorem dX5_maySet_88 : decode cX5_maySet 88 = .ok (.bipush 7, 2) := by decide +kernel
theorem dX5_maySet_90 : decode cX5_maySet 90 = .ok (.if_icmp .ne 19, 3) := by decide +kernel
theorem dX5_maySet_93 : decode cX5_maySet 93 = .ok (.iload_n 1, 1) := by decide +kernel
theorem dX5_maySet_94 : decode cX5_maySet 94 = .ok (.bipush 100, 2) := by decide +kernel
theorem dX5_maySet_96 : decode cX5_maySet 96 = .ok (.sipush 300, 3) := by decide +kernel
theorem dX5_maySet_99 : decode cX5_maySet 99 = .ok (.invokestatic 68, 3) := by decide +kernel
theorem dX5_maySet_102 : decode cX5_maySet 102 = .ok (.ifCond .eq 7, 3) := by decide +kernel
theorem dX5_maySet_105 : decode cX5_maySet 105 = .ok (.iconst 1, 1) := by decide +kernel
theorem dX5_maySet_106 : decode cX5_maySet 106 = .ok (.goto 4, 3) := by decide +kernel
theorem dX5_maySet_109 : decode cX5_maySet 109 = .ok (.iconst 0, 1) := by decide +kernel
theorem dX5_maySet_110 : decode cX5_maySet 110 = .ok (.ireturn, 1) := by decide +kernel
theorem dX5_comes_0 : decode cX5_comes 0 = .ok (.aload_n 0, 1) := by decide +kernel
theorem dX5_comes_1 : decode cX5_comes 1 = .ok (.invokevirtual 64, 3) := by decide +kernel
theorem dX5_comes_4 : decode cX5_comes 4 = .ok (.istore_n 3, 1) := by decide +kernel
theorem dX5_comes_5 : decode cX5_comes 5 = .ok (.aload_n 0, 1) := by decide +kernel
theorem dX5_comes_6 : decode cX5_comes 6 = .ok (.getfield 7, 3) := by decide +kernel
theorem dX5_comes_9 : decode cX5_comes 9 = .ok (.bipush 24, 2) := by decide +kernel
theorem dX5_comes_11 : decode cX5_comes 11 = .ok (.iconst 2, 1) := by decide +kernel
theorem dX5_comes_12 : decode cX5_comes 12 = .ok (.iload_n 3, 1) := by decide +kernel
theorem dX5_comes_13 : decode cX5_comes 13 = .ok (.imul, 1) := by decide +kernel
theorem dX5_comes_14 : decode cX5_comes 14 = .ok (.iadd, 1) := by decide +kernel
theorem dX5_comes_15 : decode cX5_comes 15 = .ok (.iload_n 1, 1) := by decide +kernel
theorem dX5_comes_16 : decode cX5_comes 16 = .ok (.iastore, 1) := by decide +kernel
theorem dX5_comes_17 : decode cX5_comes 17 = .ok (.aload_n 0, 1) := by decide +kernel
theorem dX5_comes_18 : decode cX5_comes 18 = .ok (.getfield 7, 3) := by decide +kernel
theorem dX5_comes_21 : decode cX5_comes 21 = .ok (.bipush 24, 2) := by decide +kernel
theorem dX5_comes_23 : decode cX5_comes 23 = .ok (.iconst 2, 1) := by decide +kernel
theorem dX5_comes_24 : decode cX5_comes 24 = .ok (.iload_n 3, 1) := by decide +kernel
theorem dX5_comes_25 : decode cX5_comes 25 = .ok (.imul, 1) := by decide +kernel
theorem dX5_comes_26 : decode cX5_comes 26 = .ok (.iadd, 1) := by decide +kernel
theorem dX5_comes_27 : decode cX5_comes 27 = .ok (.iconst 1, 1) := by decide +kernel
theorem dX5_comes_28 : decode cX5_comes 28 = .ok (.iadd, 1) := by decide +kernel
theorem dX5_comes_29 : decode cX5_comes 29 = .ok (.iload_n 2, 1) := by decide +kernel
theorem dX5_comes_30 : decode cX5_comes 30 = .ok (.iastore, 1) := by decide +kernel
theorem dX5_comes_31 : decode cX5_comes 31 = .ok (.iconst 0, 1) := by decide +kernel
theorem dX5_comes_32 : decode cX5_comes 32 = .ok (.istore 4, 2) := by decide +kernel
theorem dX5_comes_34 : decode cX5_comes 34 = .ok (.iload 4, 2) := by decide +kernel
theorem dX5_comes_36 : decode cX5_comes 36 = .ok (.bipush 70, 2) := by decide +kernel
theorem dX5_comes_38 : decode cX5_comes 38 = .ok (.if_icmp .ge 25, 3) := by decide +kernel
theorem dX5_comes_41 : decode cX5_comes 41 = .ok (.aload_n 0, 1) := by decide +kernel
theorem dX5_comes_42 : decode cX5_comes 42 = .ok (.getfield 7, 3) := by decide +kernel
theorem dX5_comes_45 : decode cX5_comes 45 = .ok (.bipush 40, 2) := by decide +kernel
theorem dX5_comes_47 : decode cX5_comes 47 = .ok (.bipush 70, 2) := by decide +kernel
theorem dX5_comes_49 : decode cX5_comes 49 = .ok (.iload_n 3, 1) := by decide +kernel
theorem dX5_comes_50 : decode cX5_comes 50 = .ok (.imul, 1) := by decide +kernel
theorem dX5_comes_51 : decode cX5_comes 51 = .ok (.iadd, 1) := by decide +kernel
theorem dX5_comes_52 : decode cX5_comes 52 = .ok (.iload 4, 2) := by decide +kernel
theorem dX5_comes_54 : decode cX5_comes 54 = .ok (.iadd, 1) := by decide +kernel
theorem dX5_comes_55 : decode cX5_comes 55 = .ok (.iconst 0, 1) := by decide +kernel
theorem dX5_comes_56 : decode cX5_comes 56 = .ok (.iastore, 1) := by decide +kernel
theorem dX5_comes_57 : decode cX5_comes 57 = .ok (.iinc 4 1, 3) := by decide +kernel
theorem dX5_comes_60 : decode cX5_comes 60 = .ok (.goto (-26), 3) := by decide +kernel
theorem dX5_comes_63 : decode cX5_comes 63 = .ok (.aload_n 0, 1) := by decide +kernel
theorem dX5_comes_64 : decode cX5_comes 64 = .ok (.getfield 7, 3) := by decide +kernel
theorem dX5_comes_67 : decode cX5_comes 67 = .ok (.bipush 23, 2) := by decide +kernel
theorem dX5_comes_69 : decode cX5_comes 69 = .ok (.dup2, 1) := by decide +kernel
theorem dX5_comes_70 : decode cX5_comes 70 = .ok (.iaload, 1) := by decide +kernel
theorem dX5_comes_71 : decode cX5_comes 71 = .ok (.iconst 1, 1) := by decide +kernel
theorem dX5_comes_72 : decode cX5_comes 72 = .ok (.iadd, 1) := by decide +kernel
theorem dX5_comes_73 : decode cX5_comes 73 = .ok (.iastore, 1) := by decide +kernel
theorem dX5_comes_74 : decode cX5_comes 74 = .ok (.return_, 1) := by decide +kernel
theorem dX5_campComes_0 : decode cX5_campComes 0 = .ok (.aload_n 0, 1) := by decide +kernel
theorem dX5_campComes_1 : decode cX5_campComes 1 = .ok (.getfield 7, 3) := by decide +kernel
theorem dX5_campComes_4 : decode cX5_campComes 4 = .ok (.bipush 15, 2) := by decide +kernel
theorem dX5_campComes_6 : decode cX5_campComes 6 = .ok (.iconst 2, 1) := by decide +kernel
theorem dX5_campComes_7 : decode cX5_campComes 7 = .ok (.aload_n 0, 1) := by decide +kernel
theorem dX5_campComes_8 : decode cX5_campComes 8 = .ok (.invokevirtual 86, 3) := by decide +kernel
theorem dX5_campComes_11 : decode cX5_campComes 11 = .ok (.imul, 1) := by decide +kernel
theorem dX5_campComes_12 : decode cX5_campComes 12 = .ok (.iadd, 1) := by decide +kernel
theorem dX5_campComes_13 : decode cX5_campComes 13 = .ok (.iload_n 1, 1) := by decide +kernel
theorem dX5_campComes_14 : decode cX5_campComes 14 = .ok (.iastore, 1) := by decide +kernel
theorem dX5_campComes_15 : decode cX5_campComes 15 = .ok (.aload_n 0, 1) := by decide +kernel
theorem dX5_campComes_16 : decode cX5_campComes 16 = .ok (.getfield 7, 3) := by decide +kernel
theorem dX5_campComes_19 : decode cX5_campComes 19 = .ok (.bipush 15, 2) := by decide +kernel
theorem dX5_campComes_21 : decode cX5_campComes 21 = .ok (.iconst 2, 1) := by decide +kernel
theorem dX5_campComes_22 : decode cX5_campComes 22 = .ok (.aload_n 0, 1) := by decide +kernel
theorem dX5_campComes_23 : decode cX5_campComes 23 = .ok (.invokevirtual 86, 3) := by decide +kernel
theorem dX5_campComes_26 : decode cX5_campComes 26 = .ok (.imul, 1) := by decide +kernel
theorem dX5_campComes_27 : decode cX5_campComes 27 = .ok (.iadd, 1) := by decide +kernel
theorem dX5_campComes_28 : decode cX5_campComes 28 = .ok (.iconst 1, 1) := by decide +kernel
theorem dX5_campComes_29 : decode cX5_campComes 29 = .ok (.iadd, 1) := by decide +kernel
theorem dX5_campComes_30 : decode cX5_campComes 30 = .ok (.iload_n 2, 1) := by decide +kernel
theorem dX5_campComes_31 : decode cX5_campComes 31 = .ok (.iastore, 1) := by decide +kernel
theorem dX5_campComes_32 : decode cX5_campComes 32 = .ok (.aload_n 0, 1) := by decide +kernel
theorem dX5_campComes_33 : decode cX5_campComes 33 = .ok (.getfield 7, 3) := by decide +kernel
theorem dX5_campComes_36 : decode cX5_campComes 36 = .ok (.bipush 14, 2) := by decide +kernel
theorem dX5_campComes_38 : decode cX5_campComes 38 = .ok (.dup2, 1) := by decide +kernel
theorem dX5_campComes_39 : decode cX5_campComes 39 = .ok (.iaload, 1) := by decide +kernel
theorem dX5_campComes_40 : decode cX5_campComes 40 = .ok (.iconst 1, 1) := by decide +kernel
theorem dX5_campComes_41 : decode cX5_campComes 41 = .ok (.iadd, 1) := by decide +kernel
theorem dX5_campComes_42 : decode cX5_campComes 42 = .ok (.iastore, 1) := by decide +kernel
theorem dX5_campComes_43 : decode cX5_campComes 43 = .ok (.return_, 1) := by decide +kernel
theorem dX5_thrown_0 : decode cX5_thrown 0 = .ok (.aload_n 0, 1) := by decide +kernel
theorem dX5_thrown_1 : decode cX5_thrown 1 = .ok (.getfield 61, 3) := by decide +kernel
theorem dX5_thrown_4 : decode cX5_thrown 4 = .ok (.ireturn, 1) := by decide +kernel

/-- is it a group, a day -/
def grB (x g : Int32) : Bool := decide (nI 0 ≤ g) && decide (g < x)
def dB (d : Int32) : Bool := decide (nI 0 ≤ d) && decide (d < nI 70)
theorem grB_n {x g : Int32} {n : Nat} (hx : x = nI n) (hn : n < 2 ^ 31) (h : grB x g = true) : ∃ j, j < n ∧ g = nI j := by
  subst hx
  simp only [grB, Bool.and_eq_true, decide_eq_true_eq] at h
  have h1 : n ≠ 0 := by
    intro z
    subst z
    exact absurd (Int32.lt_of_le_of_lt h.1 h.2) (fun z => Int32.lt_irrefl z)
  obtain ⟨k, rfl⟩ : ∃ k, n = k + 1 := ⟨n - 1, by omega⟩
  obtain ⟨j, hj, e⟩ := nI_ex (by omega) h.1 ((lt_nI hn).mp h.2)
  exact ⟨j, by omega, e⟩
theorem dB_n {d : Int32} (h : dB d = true) : ∃ j, j < 70 ∧ d = nI j := grB_n (x := nI 70) rfl (by decide) h
theorem dB_nI {j : Nat} (h : j < 70) : dB (nI j) = true := by
  simp only [dB, Bool.and_eq_true, decide_eq_true_eq]
  exact ⟨nI_le (Nat.zero_le _) (by omega), nI_lt h (by decide)⟩
theorem grB_nI {n j : Nat} (h : j < n) (hn : n < 2 ^ 31) : grB (nI n) (nI j) = true := by
  simp only [grB, Bool.and_eq_true, decide_eq_true_eq]
  exact ⟨nI_le (Nat.zero_le _) (by omega), nI_lt h hn⟩
theorem inR_day (d : Int32) : inR d (nI 0) (nI 69) = dB d := by
  simp only [inR, dB]
  rw [decide_eq_decide.mpr (lt_nI (x := d) (n := 69) (by decide))]
theorem inR_grp (g : Int32) {n : Nat} (hn : n < 2 ^ 31) : inR g (nI 0) (nI n - nI 1) = grB (nI n) g := by
  simp only [inR, grB]
  congr 1
  rw [decide_eq_decide]
  cases n with
  | zero =>
    have : (nI 0 - nI 1 : Int32) = -1 := by decide
    rw [this, Int32.le_iff_toInt_le, Int32.lt_iff_toInt_lt, nI_toInt (by decide)]
    have : (-1 : Int32).toInt = -1 := by decide
    rw [this]; omega
  | succ k =>
    rw [nI_sub (by omega), lt_nI hn]
    rfl
section MO
variable {G : mG} {d : Nat} {σ : mS}
theorem v_isIn (v a b : Int32) : mV G mX5_isIn d [.int v, .int a, .int b] σ (some (.int (bI (inR v a b)))) σ := by
  refine mV_of fun Q hQ => ?_
  refine F_iload_n dX5_isIn_0 rfl ?_
  refine F_iload_n dX5_isIn_1 rfl ?_
  refine F_icmp_lt (tgt := 14) dX5_isIn_2 rfl (fun c2 => ?_) (fun c2 => ?_)
  · refine F_iconst (v := nI 0) dX5_isIn_14 rfl ?_
    refine F_zret dX5_isIn_15 rfl (by first | exact Or.inl rfl | exact Or.inr rfl | exact bI_01 _) ?_
    first | exact Qb1 hQ (by simp_all [inR]) | exact Qb0 hQ (by simp only [inR, Bool.and_eq_false_iff, decide_eq_false_iff_not, Int32.not_le]; first | exact Or.inl c2 | exact Or.inr c7)
  · refine F_iload_n dX5_isIn_5 rfl ?_
    refine F_iload_n dX5_isIn_6 rfl ?_
    refine F_icmp_gt (tgt := 14) dX5_isIn_7 rfl (fun c7 => ?_) (fun c7 => ?_)
    · refine F_iconst (v := nI 0) dX5_isIn_14 rfl ?_
      refine F_zret dX5_isIn_15 rfl (by first | exact Or.inl rfl | exact Or.inr rfl | exact bI_01 _) ?_
      first | exact Qb1 hQ (by simp_all [inR]) | exact Qb0 hQ (by simp only [inR, Bool.and_eq_false_iff, decide_eq_false_iff_not, Int32.not_le]; first | exact Or.inl c2 | exact Or.inr c7)
    · refine F_iconst (v := nI 1) dX5_isIn_10 rfl ?_
      refine F_goto (tgt := 15) dX5_isIn_11 rfl ?_
      refine F_zret dX5_isIn_15 rfl (by first | exact Or.inl rfl | exact Or.inr rfl | exact bI_01 _) ?_
      first | exact Qb1 hQ (by simp_all [inR]) | exact Qb0 hQ (by simp only [inR, Bool.and_eq_false_iff, decide_eq_false_iff_not, Int32.not_le]; first | exact Or.inl c2 | exact Or.inr c7)

theorem v_of {k : Nat} (hk : k < 8) : mV G mX5_of d [.ref 116, .int (nI k)] σ (some (.int (σ 117 (6 + k)))) σ := by
  refine mV_of fun Q hQ => ?_
  refine F_aload_n dX5_of_0 rfl ?_
  refine F_getr dX5_of_1 rfl rfl (by first | assumption | rfl) rfl ?_
  refine F_bipush (v := nI 6) dX5_of_4 rfl ?_
  refine F_iload_n dX5_of_6 rfl ?_
  refine F_iaddN dX5_of_7 ?_
  refine F_iald dX5_of_8 (by first | assumption | rfl) (by decide) (by omega) ?_
  refine F_iret dX5_of_9 rfl ?_
  exact hQ

theorem v_groups : mV G mX5_groups d [.ref 116] σ (some (.int (σ 117 23))) σ := by
  refine mV_of fun Q hQ => ?_
  refine F_aload_n dX5_groups_0 rfl ?_
  refine F_getr dX5_groups_1 rfl rfl (by first | assumption | rfl) rfl ?_
  refine F_bipush (v := nI 23) dX5_groups_4 rfl ?_
  refine F_iald dX5_groups_6 (by first | assumption | rfl) (by decide) (by omega) ?_
  refine F_iret dX5_groups_7 rfl ?_
  exact hQ

theorem v_camps : mV G mX5_camps d [.ref 116] σ (some (.int (σ 117 14))) σ := by
  refine mV_of fun Q hQ => ?_
  refine F_aload_n dX5_camps_0 rfl ?_
  refine F_getr dX5_camps_1 rfl rfl (by first | assumption | rfl) rfl ?_
  refine F_bipush (v := nI 14) dX5_camps_4 rfl ?_
  refine F_iald dX5_camps_6 (by first | assumption | rfl) (by decide) (by omega) ?_
  refine F_iret dX5_camps_7 rfl ?_
  exact hQ

theorem v_thrown : mV G mX5_thrown d [.ref 116] σ (some (.int (σ 116 0))) σ := by
  refine mV_of fun Q hQ => ?_
  refine F_aload_n dX5_thrown_0 rfl ?_
  refine F_geti dX5_thrown_1 rfl rfl (by first | assumption | rfl) rfl ?_
  refine F_iret dX5_thrown_4 rfl ?_
  exact hQ

theorem v_kindOf {g e : Nat} (hg : g < 6) (he : e < 70) : mV G mX5_kindOf d [.ref 116, .int (nI g), .int (nI e)] σ (some (.int (σ 117 (40 + 70 * g + e)))) σ := by
  refine mV_of fun Q hQ => ?_
  refine F_aload_n dX5_kindOf_0 rfl ?_
  refine F_getr dX5_kindOf_1 rfl rfl (by first | assumption | rfl) rfl ?_
  refine F_bipush (v := nI 40) dX5_kindOf_4 rfl ?_
  refine F_bipush (v := nI 70) dX5_kindOf_6 rfl ?_
  refine F_iload_n dX5_kindOf_8 rfl ?_
  refine F_imulN dX5_kindOf_9 ?_
  refine F_iaddN dX5_kindOf_10 ?_
  refine F_iload_n dX5_kindOf_11 rfl ?_
  refine F_iaddN dX5_kindOf_12 ?_
  refine F_iald dX5_kindOf_13 (by first | assumption | rfl) (by decide) (by omega) ?_
  refine F_iret dX5_kindOf_14 rfl ?_
  exact hQ

theorem v_isGroup (g : Int32) {n : Nat} (hn : σ 117 23 = nI n) (h6 : n < 2 ^ 31) : mV G mX5_isGroup (d + 1) [.ref 116, .int g] σ (some (.int (bI (grB (σ 117 23) g)))) σ := by
  refine mV_of fun Q hQ => ?_
  refine F_iload_n dX5_isGroup_0 rfl ?_
  refine F_iconst (v := nI 0) dX5_isGroup_1 rfl ?_
  refine F_aload_n dX5_isGroup_2 rfl ?_
  refine F_cV0i (v_groups (d := d)) dX5_isGroup_3 rfl rfl (by decide) (by first | assumption | rfl) rfl rfl rfl (by decide) (Nat.le_of_ble_eq_true rfl) (by omega) ?_
  refine F_iconst (v := nI 1) dX5_isGroup_6 rfl ?_
  refine F_isub dX5_isGroup_7 ?_
  refine F_cS3i (v_isIn (d := d) _ _ _) dX5_isGroup_8 rfl rfl rfl (by decide) (Nat.le_of_ble_eq_true rfl) (by omega) ?_
  refine F_zret dX5_isGroup_11 rfl (by first | exact Or.inl rfl | exact Or.inr rfl | exact bI_01 _) ?_
  rw [hn, inR_grp g h6, ← hn]
  exact hQ

theorem v_isDay (e : Int32) : mV G mX5_isDay (d + 1) [.int e] σ (some (.int (bI (dB e)))) σ := by
  refine mV_of fun Q hQ => ?_
  refine F_iload_n dX5_isDay_0 rfl ?_
  refine F_iconst (v := nI 0) dX5_isDay_1 rfl ?_
  refine F_bipush (v := nI 69) dX5_isDay_2 rfl ?_
  refine F_cS3i (v_isIn (d := d) _ _ _) dX5_isDay_4 rfl rfl rfl (by decide) (Nat.le_of_ble_eq_true rfl) (by omega) ?_
  refine F_zret dX5_isDay_7 rfl (by first | exact Or.inl rfl | exact Or.inr rfl | exact bI_01 _) ?_
  rw [inR_day]
  exact hQ

theorem v_isOne (g e : Int32) {n : Nat} (hn : σ 117 23 = nI n) (h6 : n < 2 ^ 31) : mV G mX5_isOne (d + 2) [.ref 116, .int g, .int e] σ (some (.int (bI (grB (σ 117 23) g && dB e)))) σ := by
  refine mV_of fun Q hQ => ?_
  refine F_aload_n dX5_isOne_0 rfl ?_
  refine F_iload_n dX5_isOne_1 rfl ?_
  refine F_cV1i (v_isGroup (d := d) _ hn h6) dX5_isOne_2 rfl rfl (by decide) (by first | assumption | rfl) rfl rfl rfl (by decide) (Nat.le_of_ble_eq_true rfl) (by omega) ?_
  refine F_if_eqB (tgt := 19) dX5_isOne_5 rfl (fun c5 => ?_) (fun c5 => ?_)
  · refine F_iconst (v := nI 0) dX5_isOne_19 rfl ?_
    refine F_zret dX5_isOne_20 rfl (by first | exact Or.inl rfl | exact Or.inr rfl | exact bI_01 _) ?_
    clear hn
    first | exact Qb1 hQ (by simp [*]) | exact Qb0 hQ (by simp [*])
  · refine F_iload_n dX5_isOne_8 rfl ?_
    refine F_cS1i (v_isDay (d := d) _) dX5_isOne_9 rfl rfl rfl (by decide) (Nat.le_of_ble_eq_true rfl) (by omega) ?_
    refine F_if_eqB (tgt := 19) dX5_isOne_12 rfl (fun c12 => ?_) (fun c12 => ?_)
    · refine F_iconst (v := nI 0) dX5_isOne_19 rfl ?_
      refine F_zret dX5_isOne_20 rfl (by first | exact Or.inl rfl | exact Or.inr rfl | exact bI_01 _) ?_
      clear hn
      first | exact Qb1 hQ (by simp [*]) | exact Qb0 hQ (by simp [*])
    · refine F_iconst (v := nI 1) dX5_isOne_15 rfl ?_
      refine F_goto (tgt := 20) dX5_isOne_16 rfl ?_
      refine F_zret dX5_isOne_20 rfl (by first | exact Or.inl rfl | exact Or.inr rfl | exact bI_01 _) ?_
      clear hn
      first | exact Qb1 hQ (by simp [*]) | exact Qb0 hQ (by simp [*])

theorem v_areDays (g a e : Int32) {n : Nat} (hn : σ 117 23 = nI n) (h6 : n < 2 ^ 31) : mV G mX5_areDays (d + 3) [.ref 116, .int g, .int a, .int e] σ (some (.int (bI (grB (σ 117 23) g && dB a && dB e && decide (a ≤ e))))) σ := by
  refine mV_of fun Q hQ => ?_
  refine F_aload_n dX5_areDays_0 rfl ?_
  refine F_iload_n dX5_areDays_1 rfl ?_
  refine F_iload_n dX5_areDays_2 rfl ?_
  refine F_cV2i (v_isOne (d := d) _ _ hn h6) dX5_areDays_3 rfl rfl (by decide) (by first | assumption | rfl) rfl rfl rfl (by decide) (Nat.le_of_ble_eq_true rfl) (by omega) ?_
  refine F_if_eqB (tgt := 25) dX5_areDays_6 rfl (fun c6 => ?_) (fun c6 => ?_)
  · refine F_iconst (v := nI 0) dX5_areDays_25 rfl ?_
    refine F_zret dX5_areDays_26 rfl (by first | exact Or.inl rfl | exact Or.inr rfl | exact bI_01 _) ?_
    clear hn
    first | exact Qb1 hQ (by simp_all) | exact Qb0 hQ (by simp_all)
  · refine F_iload_n dX5_areDays_9 rfl ?_
    refine F_cS1i (v_isDay (d := d) _) dX5_areDays_10 rfl rfl rfl (by decide) (Nat.le_of_ble_eq_true rfl) (by omega) ?_
    refine F_if_eqB (tgt := 25) dX5_areDays_13 rfl (fun c13 => ?_) (fun c13 => ?_)
    · refine F_iconst (v := nI 0) dX5_areDays_25 rfl ?_
      refine F_zret dX5_areDays_26 rfl (by first | exact Or.inl rfl | exact Or.inr rfl | exact bI_01 _) ?_
      clear hn
      first | exact Qb1 hQ (by simp_all) | exact Qb0 hQ (by simp_all)
    · refine F_iload_n dX5_areDays_16 rfl ?_
      refine F_iload_n dX5_areDays_17 rfl ?_
      refine F_icmp_gt (tgt := 25) dX5_areDays_18 rfl (fun c18 => ?_) (fun c18 => ?_)
      · refine F_iconst (v := nI 0) dX5_areDays_25 rfl ?_
        refine F_zret dX5_areDays_26 rfl (by first | exact Or.inl rfl | exact Or.inr rfl | exact bI_01 _) ?_
        clear hn
        first | exact Qb1 hQ (by simp_all) | exact Qb0 hQ (by simp_all)
      · refine F_iconst (v := nI 1) dX5_areDays_21 rfl ?_
        refine F_goto (tgt := 26) dX5_areDays_22 rfl ?_
        refine F_zret dX5_areDays_26 rfl (by first | exact Or.inl rfl | exact Or.inr rfl | exact bI_01 _) ?_
        clear hn
        first | exact Qb1 hQ (by simp_all) | exact Qb0 hQ (by simp_all)

theorem v_maySet0 (v : Int32) : mV G mX5_maySet (d + 1) [.int (nI 0), .int v] σ (some (.int (bI (inR v (nI 2) (nI 99))))) σ := by
  refine mV_of fun Q hQ => ?_
  refine F_iload_n dX5_maySet_0 rfl ?_
  refine F_tableIn (off := 43) (tgt := 44) dX5_maySet_1 (by decide) (by decide) (by decide +kernel) rfl ?_
  refine F_iload_n dX5_maySet_44 rfl ?_
  refine F_iconst (v := nI 2) dX5_maySet_45 rfl ?_
  refine F_bipush (v := nI 99) dX5_maySet_46 rfl ?_
  refine F_cS3i (v_isIn (d := d) _ _ _) dX5_maySet_48 rfl rfl rfl (by decide) (Nat.le_of_ble_eq_true rfl) (by omega) ?_
  refine F_zret dX5_maySet_51 rfl (by first | exact Or.inl rfl | exact Or.inr rfl | exact bI_01 _) ?_
  first | exact hQ | exact Qb1 hQ (by assumption) | exact Qb0 hQ (by assumption)

theorem v_maySet1 (v : Int32) : mV G mX5_maySet (d + 1) [.int (nI 1), .int v] σ (some (.int (bI (inR v (nI 2) (nI 99))))) σ := by
  refine mV_of fun Q hQ => ?_
  refine F_iload_n dX5_maySet_0 rfl ?_
  refine F_tableIn (off := 43) (tgt := 44) dX5_maySet_1 (by decide) (by decide) (by decide +kernel) rfl ?_
  refine F_iload_n dX5_maySet_44 rfl ?_
  refine F_iconst (v := nI 2) dX5_maySet_45 rfl ?_
  refine F_bipush (v := nI 99) dX5_maySet_46 rfl ?_
  refine F_cS3i (v_isIn (d := d) _ _ _) dX5_maySet_48 rfl rfl rfl (by decide) (Nat.le_of_ble_eq_true rfl) (by omega) ?_
  refine F_zret dX5_maySet_51 rfl (by first | exact Or.inl rfl | exact Or.inr rfl | exact bI_01 _) ?_
  first | exact hQ | exact Qb1 hQ (by assumption) | exact Qb0 hQ (by assumption)

theorem v_maySet2 (v : Int32) : mV G mX5_maySet (d + 1) [.int (nI 2), .int v] σ (some (.int (bI (inR v (nI 1) (nI 9))))) σ := by
  refine mV_of fun Q hQ => ?_
  refine F_iload_n dX5_maySet_0 rfl ?_
  refine F_tableIn (off := 51) (tgt := 52) dX5_maySet_1 (by decide) (by decide) (by decide +kernel) rfl ?_
  refine F_iload_n dX5_maySet_52 rfl ?_
  refine F_iconst (v := nI 1) dX5_maySet_53 rfl ?_
  refine F_bipush (v := nI 9) dX5_maySet_54 rfl ?_
  refine F_cS3i (v_isIn (d := d) _ _ _) dX5_maySet_56 rfl rfl rfl (by decide) (Nat.le_of_ble_eq_true rfl) (by omega) ?_
  refine F_zret dX5_maySet_59 rfl (by first | exact Or.inl rfl | exact Or.inr rfl | exact bI_01 _) ?_
  first | exact hQ | exact Qb1 hQ (by assumption) | exact Qb0 hQ (by assumption)

theorem v_maySet3 (v : Int32) : mV G mX5_maySet (d + 1) [.int (nI 3), .int v] σ (some (.int (bI (inR v (nI 1) (nI 9))))) σ := by
  refine mV_of fun Q hQ => ?_
  refine F_iload_n dX5_maySet_0 rfl ?_
  refine F_tableIn (off := 51) (tgt := 52) dX5_maySet_1 (by decide) (by decide) (by decide +kernel) rfl ?_
  refine F_iload_n dX5_maySet_52 rfl ?_
  refine F_iconst (v := nI 1) dX5_maySet_53 rfl ?_
  refine F_bipush (v := nI 9) dX5_maySet_54 rfl ?_
  refine F_cS3i (v_isIn (d := d) _ _ _) dX5_maySet_56 rfl rfl rfl (by decide) (Nat.le_of_ble_eq_true rfl) (by omega) ?_
  refine F_zret dX5_maySet_59 rfl (by first | exact Or.inl rfl | exact Or.inr rfl | exact bI_01 _) ?_
  first | exact hQ | exact Qb1 hQ (by assumption) | exact Qb0 hQ (by assumption)

theorem v_maySet4 (v : Int32) : mV G mX5_maySet (d + 1) [.int (nI 4), .int v] σ (some (.int (bI (inR v (nI 100) (nI 400))))) σ := by
  refine mV_of fun Q hQ => ?_
  refine F_iload_n dX5_maySet_0 rfl ?_
  refine F_tableIn (off := 59) (tgt := 60) dX5_maySet_1 (by decide) (by decide) (by decide +kernel) rfl ?_
  refine F_iload_n dX5_maySet_60 rfl ?_
  refine F_bipush (v := nI 100) dX5_maySet_61 rfl ?_
  refine F_sipush (v := nI 400) dX5_maySet_63 rfl ?_
  refine F_cS3i (v_isIn (d := d) _ _ _) dX5_maySet_66 rfl rfl rfl (by decide) (Nat.le_of_ble_eq_true rfl) (by omega) ?_
  refine F_zret dX5_maySet_69 rfl (by first | exact Or.inl rfl | exact Or.inr rfl | exact bI_01 _) ?_
  first | exact hQ | exact Qb1 hQ (by assumption) | exact Qb0 hQ (by assumption)

theorem v_maySet5 (v : Int32) : mV G mX5_maySet (d + 1) [.int (nI 5), .int v] σ (some (.int (bI (inR v (nI 1) (nI 14))))) σ := by
  refine mV_of fun Q hQ => ?_
  refine F_iload_n dX5_maySet_0 rfl ?_
  refine F_tableIn (off := 69) (tgt := 70) dX5_maySet_1 (by decide) (by decide) (by decide +kernel) rfl ?_
  refine F_iload_n dX5_maySet_70 rfl ?_
  refine F_iconst (v := nI 1) dX5_maySet_71 rfl ?_
  refine F_bipush (v := nI 14) dX5_maySet_72 rfl ?_
  refine F_cS3i (v_isIn (d := d) _ _ _) dX5_maySet_74 rfl rfl rfl (by decide) (Nat.le_of_ble_eq_true rfl) (by omega) ?_
  refine F_zret dX5_maySet_77 rfl (by first | exact Or.inl rfl | exact Or.inr rfl | exact bI_01 _) ?_
  first | exact hQ | exact Qb1 hQ (by assumption) | exact Qb0 hQ (by assumption)

theorem v_maySet6 (v : Int32) : mV G mX5_maySet (d + 1) [.int (nI 6), .int v] σ (some (.int (bI (inR v (nI 0) (nI 2100))))) σ := by
  refine mV_of fun Q hQ => ?_
  refine F_iload_n dX5_maySet_0 rfl ?_
  refine F_tableIn (off := 77) (tgt := 78) dX5_maySet_1 (by decide) (by decide) (by decide +kernel) rfl ?_
  refine F_iload_n dX5_maySet_78 rfl ?_
  refine F_iconst (v := nI 0) dX5_maySet_79 rfl ?_
  refine F_sipush (v := nI 2100) dX5_maySet_80 rfl ?_
  refine F_cS3i (v_isIn (d := d) _ _ _) dX5_maySet_83 rfl rfl rfl (by decide) (Nat.le_of_ble_eq_true rfl) (by omega) ?_
  refine F_zret dX5_maySet_86 rfl (by first | exact Or.inl rfl | exact Or.inr rfl | exact bI_01 _) ?_
  first | exact hQ | exact Qb1 hQ (by assumption) | exact Qb0 hQ (by assumption)

theorem v_maySet7 (v : Int32) : mV G mX5_maySet (d + 1) [.int (nI 7), .int v] σ (some (.int (bI (inR v (nI 100) (nI 300))))) σ := by
  refine mV_of fun Q hQ => ?_
  refine F_iload_n dX5_maySet_0 rfl ?_
  refine F_tableOut (tgt := 87) dX5_maySet_1 (by decide) rfl ?_
  refine F_iload_n dX5_maySet_87 rfl ?_
  refine F_bipush (v := nI 7) dX5_maySet_88 rfl ?_
  refine F_icmp_neN (tgt := 109) dX5_maySet_90 rfl (by omega) (by omega) (fun c90 => ?_) (fun c90 => ?_)
  · exact absurd rfl c90
  · refine F_iload_n dX5_maySet_93 rfl ?_
    refine F_bipush (v := nI 100) dX5_maySet_94 rfl ?_
    refine F_sipush (v := nI 300) dX5_maySet_96 rfl ?_
    refine F_cS3i (v_isIn (d := d) _ _ _) dX5_maySet_99 rfl rfl rfl (by decide) (Nat.le_of_ble_eq_true rfl) (by omega) ?_
    refine F_if_eqB (tgt := 109) dX5_maySet_102 rfl (fun c102 => ?_) (fun c102 => ?_)
    · refine F_iconst (v := nI 0) dX5_maySet_109 rfl ?_
      refine F_zret dX5_maySet_110 rfl (by first | exact Or.inl rfl | exact Or.inr rfl | exact bI_01 _) ?_
      first | exact hQ | exact Qb1 hQ (by assumption) | exact Qb0 hQ (by assumption)
    · refine F_iconst (v := nI 1) dX5_maySet_105 rfl ?_
      refine F_goto (tgt := 110) dX5_maySet_106 rfl ?_
      refine F_zret dX5_maySet_110 rfl (by first | exact Or.inl rfl | exact Or.inr rfl | exact bI_01 _) ?_
      first | exact hQ | exact Qb1 hQ (by assumption) | exact Qb0 hQ (by assumption)

theorem mLeast_eq : ∀ k, k < 8 → mLeast.getD k 0 = nI ([2, 2, 1, 1, 100, 1, 0, 100].getD k 0) := by decide +kernel
theorem mMost_eq : ∀ k, k < 8 → mMost.getD k 0 = nI ([99, 99, 9, 9, 400, 14, 2100, 300].getD k 0) := by decide +kernel
theorem v_maySet (v : Int32) {k : Nat} (hk : k < 8) : mV G mX5_maySet (d + 1) [.int (nI k), .int v] σ (some (.int (bI (inR v (mLeast.getD k 0) (mMost.getD k 0))))) σ := by
  rcases (show k = 0 ∨ k = 1 ∨ k = 2 ∨ k = 3 ∨ k = 4 ∨ k = 5 ∨ k = 6 ∨ k = 7 by omega) with rfl | rfl | rfl | rfl | rfl | rfl | rfl | rfl
  · exact v_maySet0 v
  · exact v_maySet1 v
  · exact v_maySet2 v
  · exact v_maySet3 v
  · exact v_maySet4 v
  · exact v_maySet5 v
  · exact v_maySet6 v
  · exact v_maySet7 v
/-- the row with a group more -/
def comesF (f : Nat → Int32) (g : Nat) (x y : Int32) : Nat → Int32 := upd (fillR (upd (upd f (24 + 2 * g) x) (24 + 2 * g + 1) y) (40 + 70 * g) (40 + 70 * g + 70) (nI 0)) 23 (nI (g + 1))
theorem l_comes {g : Nat} (hg : g < 6) {x y : Int32} {Q : Option Value → mS → Prop} (hk : mF G mX5_comes d 63 [some (.ref 116), some (.int x), some (.int y), some (.int (nI g)), some (.int (nI 70))] [] (upR σ 117 (fillR (σ 117) (40 + 70 * g) (40 + 70 * g + 70) (nI 0))) Q) :
    ∀ e, e ≤ 70 → mF G mX5_comes d 34 [some (.ref 116), some (.int x), some (.int y), some (.int (nI g)), some (.int (nI e))] [] (upR σ 117 (fillR (σ 117) (40 + 70 * g) (40 + 70 * g + e) (nI 0))) Q := by
  refine loopUp 70 (fun e he ih => ?_)
  refine F_iload dX5_comes_34 rfl ?_
  refine F_bipush (v := nI 70) dX5_comes_36 rfl ?_
  refine F_icmp_geN (tgt := 63) dX5_comes_38 rfl (by omega) (by omega) (fun c38 => ?_) (fun c38 => ?_)
  · have : e = 70 := by omega
    subst this
    exact hk
  · refine F_aload_n dX5_comes_41 rfl ?_
    refine F_getr dX5_comes_42 rfl rfl (by first | assumption | rfl) rfl ?_
    refine F_bipush (v := nI 40) dX5_comes_45 rfl ?_
    refine F_bipush (v := nI 70) dX5_comes_47 rfl ?_
    refine F_iload_n dX5_comes_49 rfl ?_
    refine F_imulN dX5_comes_50 ?_
    refine F_iaddN dX5_comes_51 ?_
    refine F_iload dX5_comes_52 rfl ?_
    refine F_iaddN dX5_comes_54 ?_
    refine F_iconst (v := nI 0) dX5_comes_55 rfl ?_
    refine F_iast dX5_comes_56 (by first | assumption | rfl) (by decide) (by omega) ?_
    refine F_iincN dX5_comes_57 rfl ?_
    refine F_goto (tgt := 34) dX5_comes_60 rfl ?_
    refine F_sg (up_fill _ _ _ _ (by omega)) ?_
    exact ih (by omega)

theorem v_comes (x y : Int32) {g : Nat} (hn : σ 117 23 = nI g) (hg : g < 6) : mV G mX5_comes (d + 1) [.ref 116, .int x, .int y] σ none (upR σ 117 (comesF (σ 117) g x y)) := by
  refine mV_of fun Q hQ => ?_
  refine F_aload_n dX5_comes_0 rfl ?_
  refine F_cV0i (v_groups (d := d)) dX5_comes_1 rfl rfl (by decide) (by first | assumption | rfl) rfl rfl rfl (by decide) (Nat.le_of_ble_eq_true rfl) (by omega) ?_
  rw [hn]
  refine F_istore_n dX5_comes_4 (Nat.le_of_ble_eq_true rfl) ?_
  refine F_aload_n dX5_comes_5 rfl ?_
  refine F_getr dX5_comes_6 rfl rfl (by first | assumption | rfl) rfl ?_
  refine F_bipush (v := nI 24) dX5_comes_9 rfl ?_
  refine F_iconst (v := nI 2) dX5_comes_11 rfl ?_
  refine F_iload_n dX5_comes_12 rfl ?_
  refine F_imulN dX5_comes_13 ?_
  refine F_iaddN dX5_comes_14 ?_
  refine F_iload_n dX5_comes_15 rfl ?_
  refine F_iast dX5_comes_16 (by first | assumption | rfl) (by decide) (by omega) ?_
  refine F_aload_n dX5_comes_17 rfl ?_
  refine F_getr dX5_comes_18 rfl rfl (by first | assumption | rfl) rfl ?_
  refine F_bipush (v := nI 24) dX5_comes_21 rfl ?_
  refine F_iconst (v := nI 2) dX5_comes_23 rfl ?_
  refine F_iload_n dX5_comes_24 rfl ?_
  refine F_imulN dX5_comes_25 ?_
  refine F_iaddN dX5_comes_26 ?_
  refine F_iconst (v := nI 1) dX5_comes_27 rfl ?_
  refine F_iaddN dX5_comes_28 ?_
  refine F_iload_n dX5_comes_29 rfl ?_
  refine F_iast dX5_comes_30 (by first | assumption | rfl) (by decide) (by omega) ?_
  refine F_iconst (v := nI 0) dX5_comes_31 rfl ?_
  refine F_istore dX5_comes_32 (Nat.le_of_ble_eq_true rfl) ?_
  refine F_sg (fill0 _ 117 (40 + 70 * g) (nI 0)).symm ?_
  refine l_comes hg ?_ 0 (by omega)
  refine F_aload_n dX5_comes_63 rfl ?_
  refine F_getr dX5_comes_64 rfl rfl (by first | assumption | rfl) rfl ?_
  refine F_bipush (v := nI 23) dX5_comes_67 rfl ?_
  refine F_dup2 dX5_comes_69 rfl rfl ?_
  refine F_ialdE (v := nI g) dX5_comes_70 (by first | assumption | rfl) (by decide) (by omega) (by rw [upR_s]; simp only [fillR]; rw [if_neg (by omega), up_r _ _ _ (by omega), up_r _ _ _ (by omega)]; exact hn) ?_
  refine F_iconst (v := nI 1) dX5_comes_71 rfl ?_
  refine F_iaddN dX5_comes_72 ?_
  refine F_iast dX5_comes_73 (by first | assumption | rfl) (by decide) (by omega) ?_
  refine F_vret dX5_comes_74 rfl ?_
  refine Qn hQ ?_
  simp only [up, upR_upR, upR_s, comesF]

def campComesF (f : Nat → Int32) (c : Nat) (x y : Int32) : Nat → Int32 := upd (upd (upd f (15 + 2 * c) x) (15 + 2 * c + 1) y) 14 (nI (c + 1))
theorem v_campComes (x y : Int32) {c : Nat} (hn : σ 117 14 = nI c) (hc : c < 4) : mV G mX5_campComes (d + 1) [.ref 116, .int x, .int y] σ none (upR σ 117 (campComesF (σ 117) c x y)) := by
  refine mV_of fun Q hQ => ?_
  refine F_aload_n dX5_campComes_0 rfl ?_
  refine F_getr dX5_campComes_1 rfl rfl (by first | assumption | rfl) rfl ?_
  refine F_bipush (v := nI 15) dX5_campComes_4 rfl ?_
  refine F_iconst (v := nI 2) dX5_campComes_6 rfl ?_
  refine F_aload_n dX5_campComes_7 rfl ?_
  refine F_cV0i (v_camps (d := d)) dX5_campComes_8 rfl rfl (by decide) (by first | assumption | rfl) rfl rfl rfl (by decide) (Nat.le_of_ble_eq_true rfl) (by omega) ?_
  rw [hn]
  refine F_imulN dX5_campComes_11 ?_
  refine F_iaddN dX5_campComes_12 ?_
  refine F_iload_n dX5_campComes_13 rfl ?_
  refine F_iast dX5_campComes_14 (by first | assumption | rfl) (by decide) (by omega) ?_
  refine F_aload_n dX5_campComes_15 rfl ?_
  refine F_getr dX5_campComes_16 rfl rfl (by first | assumption | rfl) rfl ?_
  refine F_bipush (v := nI 15) dX5_campComes_19 rfl ?_
  refine F_iconst (v := nI 2) dX5_campComes_21 rfl ?_
  refine F_aload_n dX5_campComes_22 rfl ?_
  refine F_cV0i (v_camps (d := d)) dX5_campComes_23 rfl rfl (by decide) (by first | assumption | rfl) rfl rfl rfl (by decide) (Nat.le_of_ble_eq_true rfl) (by omega) ?_
  rw [up_r _ _ _ (by omega), hn]
  refine F_imulN dX5_campComes_26 ?_
  refine F_iaddN dX5_campComes_27 ?_
  refine F_iconst (v := nI 1) dX5_campComes_28 rfl ?_
  refine F_iaddN dX5_campComes_29 ?_
  refine F_iload_n dX5_campComes_30 rfl ?_
  refine F_iast dX5_campComes_31 (by first | assumption | rfl) (by decide) (by omega) ?_
  refine F_aload_n dX5_campComes_32 rfl ?_
  refine F_getr dX5_campComes_33 rfl rfl (by first | assumption | rfl) rfl ?_
  refine F_bipush (v := nI 14) dX5_campComes_36 rfl ?_
  refine F_dup2 dX5_campComes_38 rfl rfl ?_
  refine F_ialdE (v := nI c) dX5_campComes_39 (by first | assumption | rfl) (by decide) (by omega) (by rw [up_r _ _ _ (by omega), up_r _ _ _ (by omega)]; exact hn) ?_
  refine F_iconst (v := nI 1) dX5_campComes_40 rfl ?_
  refine F_iaddN dX5_campComes_41 ?_
  refine F_iast dX5_campComes_42 (by first | assumption | rfl) (by decide) (by omega) ?_
  refine F_vret dX5_campComes_43 rfl ?_
  refine Qn hQ ?_
  simp only [up, upR_upR, upR_s, campComesF]

end MO
end
section
/-! ===== the reference: what is told ===== -/
theorem dX5_keeps_0 : decode cX5_keeps 0 = .ok (.aload_n 0, 1) := by decide +kernel
theorem dX5_keeps_1 : decode cX5_keeps 1 = .ok (.getfield 83, 3) := by decide +kernel
theorem dX5_keeps_4 : decode cX5_keeps 4 = .ok (.bipush 8, 2) := by decide +kernel
theorem dX5_keeps_6 : decode cX5_keeps 6 = .ok (.if_icmp .ne 44, 3) := by decide +kernel
theorem dX5_keeps_9 : decode cX5_keeps 9 = .ok (.iconst 0, 1) := by decide +kernel
theorem dX5_keeps_10 : decode cX5_keeps 10 = .ok (.istore_n 2, 1) := by decide +kernel
theorem dX5_keeps_11 : decode cX5_keeps 11 = .ok (.iload_n 2, 1) := by decide +kernel
theorem dX5_keeps_12 : decode cX5_keeps 12 = .ok (.sipush 3220, 3) := by decide +kernel
theorem dX5_keeps_15 : decode cX5_keeps 15 = .ok (.if_icmp .ge 25, 3) := by decide +kernel
theorem dX5_keeps_18 : decode cX5_keeps 18 = .ok (.aload_n 0, 1) := by decide +kernel
theorem dX5_keeps_19 : decode cX5_keeps 19 = .ok (.getfield 13, 3) := by decide +kernel
theorem dX5_keeps_22 : decode cX5_keeps 22 = .ok (.iload_n 2, 1) := by decide +kernel
theorem dX5_keeps_23 : decode cX5_keeps 23 = .ok (.aload_n 0, 1) := by decide +kernel
theorem dX5_keeps_24 : decode cX5_keeps 24 = .ok (.getfield 13, 3) := by decide +kernel
theorem dX5_keeps_27 : decode cX5_keeps 27 = .ok (.sipush 460, 3) := by decide +kernel
theorem dX5_keeps_30 : decode cX5_keeps 30 = .ok (.iload_n 2, 1) := by decide +kernel
theorem dX5_keeps_31 : decode cX5_keeps 31 = .ok (.iadd, 1) := by decide +kernel
theorem dX5_keeps_32 : decode cX5_keeps 32 = .ok (.iaload, 1) := by decide +kernel
theorem dX5_keeps_33 : decode cX5_keeps 33 = .ok (.iastore, 1) := by decide +kernel
theorem dX5_keeps_34 : decode cX5_keeps 34 = .ok (.iinc 2 1, 3) := by decide +kernel
theorem dX5_keeps_37 : decode cX5_keeps 37 = .ok (.goto (-26), 3) := by decide +kernel
theorem dX5_keeps_40 : decode cX5_keeps 40 = .ok (.aload_n 0, 1) := by decide +kernel
theorem dX5_keeps_41 : decode cX5_keeps 41 = .ok (.dup, 1) := by decide +kernel
theorem dX5_keeps_42 : decode cX5_keeps 42 = .ok (.getfield 83, 3) := by decide +kernel
theorem dX5_keeps_45 : decode cX5_keeps 45 = .ok (.iconst 1, 1) := by decide +kernel
theorem dX5_keeps_46 : decode cX5_keeps 46 = .ok (.isub, 1) := by decide +kernel
theorem dX5_keeps_47 : decode cX5_keeps 47 = .ok (.putfield 83, 3) := by decide +kernel
theorem dX5_keeps_50 : decode cX5_keeps 50 = .ok (.iconst 0, 1) := by decide +kernel
theorem dX5_keeps_51 : decode cX5_keeps 51 = .ok (.istore_n 2, 1) := by decide +kernel
theorem dX5_keeps_52 : decode cX5_keeps 52 = .ok (.iload_n 2, 1) := by decide +kernel
theorem dX5_keeps_53 : decode cX5_keeps 53 = .ok (.sipush 460, 3) := by decide +kernel
theorem dX5_keeps_56 : decode cX5_keeps 56 = .ok (.if_icmp .ge 27, 3) := by decide +kernel
theorem dX5_keeps_59 : decode cX5_keeps 59 = .ok (.aload_n 0, 1) := by decide +kernel
theorem dX5_keeps_60 : decode cX5_keeps 60 = .ok (.getfield 13, 3) := by decide +kernel
theorem dX5_keeps_63 : decode cX5_keeps 63 = .ok (.sipush 460, 3) := by decide +kernel
theorem dX5_keeps_66 : decode cX5_keeps 66 = .ok (.aload_n 0, 1) := by decide +kernel
theorem dX5_keeps_67 : decode cX5_keeps 67 = .ok (.getfield 83, 3) := by decide +kernel
theorem dX5_keeps_70 : decode cX5_keeps 70 = .ok (.imul, 1) := by decide +kernel
theorem dX5_keeps_71 : decode cX5_keeps 71 = .ok (.iload_n 2, 1) := by decide +kernel
theorem dX5_keeps_72 : decode cX5_keeps 72 = .ok (.iadd, 1) := by decide +kernel
theorem dX5_keeps_73 : decode cX5_keeps 73 = .ok (.aload_n 1, 1) := by decide +kernel
theorem dX5_keeps_74 : decode cX5_keeps 74 = .ok (.iload_n 2, 1) := by decide +kernel
theorem dX5_keeps_75 : decode cX5_keeps 75 = .ok (.iaload, 1) := by decide +kernel
theorem dX5_keeps_76 : decode cX5_keeps 76 = .ok (.iastore, 1) := by decide +kernel
theorem dX5_keeps_77 : decode cX5_keeps 77 = .ok (.iinc 2 1, 3) := by decide +kernel
theorem dX5_keeps_80 : decode cX5_keeps 80 = .ok (.goto (-28), 3) := by decide +kernel
theorem dX5_keeps_83 : decode cX5_keeps 83 = .ok (.aload_n 0, 1) := by decide +kernel
theorem dX5_keeps_84 : decode cX5_keeps 84 = .ok (.dup, 1) := by decide +kernel
theorem dX5_keeps_85 : decode cX5_keeps 85 = .ok (.getfield 83, 3) := by decide +kernel
theorem dX5_keeps_88 : decode cX5_keeps 88 = .ok (.iconst 1, 1) := by decide +kernel
theorem dX5_keeps_89 : decode cX5_keeps 89 = .ok (.iadd, 1) := by decide +kernel
theorem dX5_keeps_90 : decode cX5_keeps 90 = .ok (.putfield 83, 3) := by decide +kernel
theorem dX5_keeps_93 : decode cX5_keeps 93 = .ok (.return_, 1) := by decide +kernel
theorem dX5_group_0 : decode cX5_group 0 = .ok (.aload_n 0, 1) := by decide +kernel
theorem dX5_group_1 : decode cX5_group 1 = .ok (.iconst 0, 1) := by decide +kernel
theorem dX5_group_2 : decode cX5_group 2 = .ok (.putfield 61, 3) := by decide +kernel
theorem dX5_group_5 : decode cX5_group 5 = .ok (.iload_n 1, 1) := by decide +kernel
theorem dX5_group_6 : decode cX5_group 6 = .ok (.iconst 0, 1) := by decide +kernel
theorem dX5_group_7 : decode cX5_group 7 = .ok (.sipush 9999, 3) := by decide +kernel
theorem dX5_group_10 : decode cX5_group 10 = .ok (.invokestatic 68, 3) := by decide +kernel
theorem dX5_group_13 : decode cX5_group 13 = .ok (.ifCond .eq 14, 3) := by decide +kernel
theorem dX5_group_16 : decode cX5_group 16 = .ok (.iload_n 2, 1) := by decide +kernel
theorem dX5_group_17 : decode cX5_group 17 = .ok (.iconst 0, 1) := by decide +kernel
theorem dX5_group_18 : decode cX5_group 18 = .ok (.sipush 9999, 3) := by decide +kernel
theorem dX5_group_21 : decode cX5_group 21 = .ok (.invokestatic 68, 3) := by decide +kernel
theorem dX5_group_24 : decode cX5_group 24 = .ok (.ifCond .ne 5, 3) := by decide +kernel
theorem dX5_group_27 : decode cX5_group 27 = .ok (.iconst (-1), 1) := by decide +kernel
theorem dX5_group_28 : decode cX5_group 28 = .ok (.ireturn, 1) := by decide +kernel
theorem dX5_group_29 : decode cX5_group 29 = .ok (.aload_n 0, 1) := by decide +kernel
theorem dX5_group_30 : decode cX5_group 30 = .ok (.invokevirtual 64, 3) := by decide +kernel
theorem dX5_group_33 : decode cX5_group 33 = .ok (.bipush 6, 2) := by decide +kernel
theorem dX5_group_35 : decode cX5_group 35 = .ok (.if_icmp .ne 6, 3) := by decide +kernel
theorem dX5_group_38 : decode cX5_group 38 = .ok (.bipush (-2), 2) := by decide +kernel
theorem dX5_group_40 : decode cX5_group 40 = .ok (.ireturn, 1) := by decide +kernel
theorem dX5_group_41 : decode cX5_group 41 = .ok (.aload_n 0, 1) := by decide +kernel
theorem dX5_group_42 : decode cX5_group 42 = .ok (.aload_n 0, 1) := by decide +kernel
theorem dX5_group_43 : decode cX5_group 43 = .ok (.getfield 7, 3) := by decide +kernel
theorem dX5_group_46 : decode cX5_group 46 = .ok (.invokevirtual 89, 3) := by decide +kernel
theorem dX5_group_49 : decode cX5_group 49 = .ok (.aload_n 0, 1) := by decide +kernel
theorem dX5_group_50 : decode cX5_group 50 = .ok (.iload_n 1, 1) := by decide +kernel
theorem dX5_group_51 : decode cX5_group 51 = .ok (.iload_n 2, 1) := by decide +kernel
theorem dX5_group_52 : decode cX5_group 52 = .ok (.invokevirtual 92, 3) := by decide +kernel
theorem dX5_group_55 : decode cX5_group 55 = .ok (.aload_n 0, 1) := by decide +kernel
theorem dX5_group_56 : decode cX5_group 56 = .ok (.invokevirtual 64, 3) := by decide +kernel
theorem dX5_group_59 : decode cX5_group 59 = .ok (.iconst 1, 1) := by decide +kernel
theorem dX5_group_60 : decode cX5_group 60 = .ok (.isub, 1) := by decide +kernel
theorem dX5_group_61 : decode cX5_group 61 = .ok (.ireturn, 1) := by decide +kernel
theorem dX5_load_0 : decode cX5_load 0 = .ok (.aload_n 0, 1) := by decide +kernel
theorem dX5_load_1 : decode cX5_load 1 = .ok (.iconst 0, 1) := by decide +kernel
theorem dX5_load_2 : decode cX5_load 2 = .ok (.putfield 61, 3) := by decide +kernel
theorem dX5_load_5 : decode cX5_load 5 = .ok (.iload_n 1, 1) := by decide +kernel
theorem dX5_load_6 : decode cX5_load 6 = .ok (.iconst 1, 1) := by decide +kernel
theorem dX5_load_7 : decode cX5_load 7 = .ok (.iconst 5, 1) := by decide +kernel
theorem dX5_load_8 : decode cX5_load 8 = .ok (.invokestatic 68, 3) := by decide +kernel
theorem dX5_load_11 : decode cX5_load 11 = .ok (.ifCond .eq 26, 3) := by decide +kernel
theorem dX5_load_14 : decode cX5_load 14 = .ok (.iload_n 2, 1) := by decide +kernel
theorem dX5_load_15 : decode cX5_load 15 = .ok (.iconst 0, 1) := by decide +kernel
theorem dX5_load_16 : decode cX5_load 16 = .ok (.sipush 300, 3) := by decide +kernel
theorem dX5_load_19 : decode cX5_load 19 = .ok (.invokestatic 68, 3) := by decide +kernel
theorem dX5_load_22 : decode cX5_load 22 = .ok (.ifCond .eq 15, 3) := by decide +kernel
theorem dX5_load_25 : decode cX5_load 25 = .ok (.aload_n 0, 1) := by decide +kernel
theorem dX5_load_26 : decode cX5_load 26 = .ok (.getfield 7, 3) := by decide +kernel
theorem dX5_load_29 : decode cX5_load 29 = .ok (.iconst 0, 1) := by decide +kernel
theorem dX5_load_30 : decode cX5_load 30 = .ok (.iload_n 1, 1) := by decide +kernel
theorem dX5_load_31 : decode cX5_load 31 = .ok (.iadd, 1) := by decide +kernel
theorem dX5_load_32 : decode cX5_load 32 = .ok (.iaload, 1) := by decide +kernel
theorem dX5_load_33 : decode cX5_load 33 = .ok (.iload_n 2, 1) := by decide +kernel
theorem dX5_load_34 : decode cX5_load 34 = .ok (.if_icmp .ne 5, 3) := by decide +kernel
theorem dX5_load_37 : decode cX5_load 37 = .ok (.iconst 0, 1) := by decide +kernel
theorem dX5_load_38 : decode cX5_load 38 = .ok (.ireturn, 1) := by decide +kernel
theorem dX5_load_39 : decode cX5_load 39 = .ok (.aload_n 0, 1) := by decide +kernel
theorem dX5_load_40 : decode cX5_load 40 = .ok (.getfield 7, 3) := by decide +kernel
theorem dX5_load_43 : decode cX5_load 43 = .ok (.iconst 0, 1) := by decide +kernel
theorem dX5_load_44 : decode cX5_load 44 = .ok (.iload_n 1, 1) := by decide +kernel
theorem dX5_load_45 : decode cX5_load 45 = .ok (.iadd, 1) := by decide +kernel
theorem dX5_load_46 : decode cX5_load 46 = .ok (.iload_n 2, 1) := by decide +kernel
theorem dX5_load_47 : decode cX5_load 47 = .ok (.iastore, 1) := by decide +kernel
theorem dX5_load_48 : decode cX5_load 48 = .ok (.iconst 1, 1) := by decide +kernel
theorem dX5_load_49 : decode cX5_load 49 = .ok (.ireturn, 1) := by decide +kernel
theorem dX5_set_0 : decode cX5_set 0 = .ok (.aload_n 0, 1) := by decide +kernel
theorem dX5_set_1 : decode cX5_set 1 = .ok (.iconst 0, 1) := by decide +kernel
theorem dX5_set_2 : decode cX5_set 2 = .ok (.putfield 61, 3) := by decide +kernel
theorem dX5_set_5 : decode cX5_set 5 = .ok (.iload_n 1, 1) := by decide +kernel
theorem dX5_set_6 : decode cX5_set 6 = .ok (.iconst 0, 1) := by decide +kernel
theorem dX5_set_7 : decode cX5_set 7 = .ok (.bipush 7, 2) := by decide +kernel
theorem dX5_set_9 : decode cX5_set 9 = .ok (.invokestatic 68, 3) := by decide +kernel
theorem dX5_set_12 : decode cX5_set 12 = .ok (.ifCond .eq 20, 3) := by decide +kernel
theorem dX5_set_15 : decode cX5_set 15 = .ok (.iload_n 1, 1) := by decide +kernel
theorem dX5_set_16 : decode cX5_set 16 = .ok (.iload_n 2, 1) := by decide +kernel
theorem dX5_set_17 : decode cX5_set 17 = .ok (.invokestatic 96, 3) := by decide +kernel
theorem dX5_set_20 : decode cX5_set 20 = .ok (.ifCond .eq 12, 3) := by decide +kernel
theorem dX5_set_23 : decode cX5_set 23 = .ok (.aload_n 0, 1) := by decide +kernel
theorem dX5_set_24 : decode cX5_set 24 = .ok (.iload_n 1, 1) := by decide +kernel
theorem dX5_set_25 : decode cX5_set 25 = .ok (.invokevirtual 99, 3) := by decide +kernel
theorem dX5_set_28 : decode cX5_set 28 = .ok (.iload_n 2, 1) := by decide +kernel
theorem dX5_set_29 : decode cX5_set 29 = .ok (.if_icmp .ne 5, 3) := by decide +kernel
theorem dX5_set_32 : decode cX5_set 32 = .ok (.iconst 0, 1) := by decide +kernel
theorem dX5_set_33 : decode cX5_set 33 = .ok (.ireturn, 1) := by decide +kernel
theorem dX5_set_34 : decode cX5_set 34 = .ok (.aload_n 0, 1) := by decide +kernel
theorem dX5_set_35 : decode cX5_set 35 = .ok (.getfield 7, 3) := by decide +kernel
theorem dX5_set_38 : decode cX5_set 38 = .ok (.bipush 6, 2) := by decide +kernel
theorem dX5_set_40 : decode cX5_set 40 = .ok (.iload_n 1, 1) := by decide +kernel
theorem dX5_set_41 : decode cX5_set 41 = .ok (.iadd, 1) := by decide +kernel
theorem dX5_set_42 : decode cX5_set 42 = .ok (.iload_n 2, 1) := by decide +kernel
theorem dX5_set_43 : decode cX5_set 43 = .ok (.iastore, 1) := by decide +kernel
theorem dX5_set_44 : decode cX5_set 44 = .ok (.iconst 1, 1) := by decide +kernel
theorem dX5_set_45 : decode cX5_set 45 = .ok (.ireturn, 1) := by decide +kernel
theorem dX5_camp_0 : decode cX5_camp 0 = .ok (.aload_n 0, 1) := by decide +kernel
theorem dX5_camp_1 : decode cX5_camp 1 = .ok (.iconst 0, 1) := by decide +kernel
theorem dX5_camp_2 : decode cX5_camp 2 = .ok (.putfield 61, 3) := by decide +kernel
theorem dX5_camp_5 : decode cX5_camp 5 = .ok (.iload_n 1, 1) := by decide +kernel
theorem dX5_camp_6 : decode cX5_camp 6 = .ok (.invokestatic 76, 3) := by decide +kernel
theorem dX5_camp_9 : decode cX5_camp 9 = .ok (.ifCond .eq 15, 3) := by decide +kernel
theorem dX5_camp_12 : decode cX5_camp 12 = .ok (.iload_n 2, 1) := by decide +kernel
theorem dX5_camp_13 : decode cX5_camp 13 = .ok (.invokestatic 76, 3) := by decide +kernel
theorem dX5_camp_16 : decode cX5_camp 16 = .ok (.ifCond .eq 8, 3) := by decide +kernel
theorem dX5_camp_19 : decode cX5_camp 19 = .ok (.iload_n 2, 1) := by decide +kernel
theorem dX5_camp_20 : decode cX5_camp 20 = .ok (.iload_n 1, 1) := by decide +kernel
theorem dX5_camp_21 : decode cX5_camp 21 = .ok (.if_icmp .ge 5, 3) := by decide +kernel
theorem dX5_camp_24 : decode cX5_camp 24 = .ok (.iconst (-1), 1) := by decide +kernel
theorem dX5_camp_25 : decode cX5_camp 25 = .ok (.ireturn, 1) := by decide +kernel
theorem dX5_camp_26 : decode cX5_camp 26 = .ok (.aload_n 0, 1) := by decide +kernel
theorem dX5_camp_27 : decode cX5_camp 27 = .ok (.invokevirtual 86, 3) := by decide +kernel
theorem dX5_camp_30 : decode cX5_camp 30 = .ok (.iconst 4, 1) := by decide +kernel
theorem dX5_camp_31 : decode cX5_camp 31 = .ok (.if_icmp .ne 6, 3) := by decide +kernel
theorem dX5_camp_34 : decode cX5_camp 34 = .ok (.bipush (-2), 2) := by decide +kernel
theorem dX5_camp_36 : decode cX5_camp 36 = .ok (.ireturn, 1) := by decide +kernel
theorem dX5_camp_37 : decode cX5_camp 37 = .ok (.aload_n 0, 1) := by decide +kernel
theorem dX5_camp_38 : decode cX5_camp 38 = .ok (.aload_n 0, 1) := by decide +kernel
theorem dX5_camp_39 : decode cX5_camp 39 = .ok (.getfield 7, 3) := by decide +kernel
theorem dX5_camp_42 : decode cX5_camp 42 = .ok (.invokevirtual 89, 3) := by decide +kernel
theorem dX5_camp_45 : decode cX5_camp 45 = .ok (.aload_n 0, 1) := by decide +kernel
theorem dX5_camp_46 : decode cX5_camp 46 = .ok (.iload_n 1, 1) := by decide +kernel
theorem dX5_camp_47 : decode cX5_camp 47 = .ok (.iload_n 2, 1) := by decide +kernel
theorem dX5_camp_48 : decode cX5_camp 48 = .ok (.invokevirtual 103, 3) := by decide +kernel
theorem dX5_camp_51 : decode cX5_camp 51 = .ok (.aload_n 0, 1) := by decide +kernel
theorem dX5_camp_52 : decode cX5_camp 52 = .ok (.invokevirtual 86, 3) := by decide +kernel
theorem dX5_camp_55 : decode cX5_camp 55 = .ok (.iconst 1, 1) := by decide +kernel
theorem dX5_camp_56 : decode cX5_camp 56 = .ok (.isub, 1) := by decide +kernel
theorem dX5_camp_57 : decode cX5_camp 57 = .ok (.ireturn, 1) := by decide +kernel
theorem dX5_strikes_0 : decode cX5_strikes 0 = .ok (.bipush 15, 2) := by decide +kernel
theorem dX5_strikes_2 : decode cX5_strikes 2 = .ok (.iconst 2, 1) := by decide +kernel
theorem dX5_strikes_3 : decode cX5_strikes 3 = .ok (.iload_n 1, 1) := by decide +kernel
theorem dX5_strikes_4 : decode cX5_strikes 4 = .ok (.imul, 1) := by decide +kernel
theorem dX5_strikes_5 : decode cX5_strikes 5 = .ok (.iadd, 1) := by decide +kernel
theorem dX5_strikes_6 : decode cX5_strikes 6 = .ok (.istore_n 2, 1) := by decide +kernel
theorem dX5_strikes_7 : decode cX5_strikes 7 = .ok (.iload_n 2, 1) := by decide +kernel
theorem dX5_strikes_8 : decode cX5_strikes 8 = .ok (.bipush 15, 2) := by decide +kernel
theorem dX5_strikes_10 : decode cX5_strikes 10 = .ok (.iconst 2, 1) := by decide +kernel
theorem dX5_strikes_11 : decode cX5_strikes 11 = .ok (.aload_n 0, 1) := by decide +kernel
theorem dX5_strikes_12 : decode cX5_strikes 12 = .ok (.invokevirtual 86, 3) := by decide +kernel
theorem dX5_strikes_15 : decode cX5_strikes 15 = .ok (.imul, 1) := by decide +kernel
theorem dX5_strikes_16 : decode cX5_strikes 16 = .ok (.iadd, 1) := by decide +kernel
theorem dX5_strikes_17 : decode cX5_strikes 17 = .ok (.iconst 2, 1) := by decide +kernel
theorem dX5_strikes_18 : decode cX5_strikes 18 = .ok (.isub, 1) := by decide +kernel
theorem dX5_strikes_19 : decode cX5_strikes 19 = .ok (.if_icmp .ge 23, 3) := by decide +kernel
theorem dX5_strikes_22 : decode cX5_strikes 22 = .ok (.aload_n 0, 1) := by decide +kernel
theorem dX5_strikes_23 : decode cX5_strikes 23 = .ok (.getfield 7, 3) := by decide +kernel
theorem dX5_strikes_26 : decode cX5_strikes 26 = .ok (.iload_n 2, 1) := by decide +kernel
theorem dX5_strikes_27 : decode cX5_strikes 27 = .ok (.aload_n 0, 1) := by decide +kernel
theorem dX5_strikes_28 : decode cX5_strikes 28 = .ok (.getfield 7, 3) := by decide +kernel
theorem dX5_strikes_31 : decode cX5_strikes 31 = .ok (.iload_n 2, 1) := by decide +kernel
theorem dX5_strikes_32 : decode cX5_strikes 32 = .ok (.iconst 2, 1) := by decide +kernel
theorem dX5_strikes_33 : decode cX5_strikes 33 = .ok (.iadd, 1) := by decide +kernel
theorem dX5_strikes_34 : decode cX5_strikes 34 = .ok (.iaload, 1) := by decide +kernel
theorem dX5_strikes_35 : decode cX5_strikes 35 = .ok (.iastore, 1) := by decide +kernel
theorem dX5_strikes_36 : decode cX5_strikes 36 = .ok (.iinc 2 1, 3) := by decide +kernel
theorem dX5_strikes_39 : decode cX5_strikes 39 = .ok (.goto (-32), 3) := by decide +kernel
theorem dX5_strikes_42 : decode cX5_strikes 42 = .ok (.aload_n 0, 1) := by decide +kernel
theorem dX5_strikes_43 : decode cX5_strikes 43 = .ok (.getfield 7, 3) := by decide +kernel
theorem dX5_strikes_46 : decode cX5_strikes 46 = .ok (.bipush 14, 2) := by decide +kernel
theorem dX5_strikes_48 : decode cX5_strikes 48 = .ok (.dup2, 1) := by decide +kernel
theorem dX5_strikes_49 : decode cX5_strikes 49 = .ok (.iaload, 1) := by decide +kernel
theorem dX5_strikes_50 : decode cX5_strikes 50 = .ok (.iconst 1, 1) := by decide +kernel
theorem dX5_strikes_51 : decode cX5_strikes 51 = .ok (.isub, 1) := by decide +kernel
theorem dX5_strikes_52 : decode cX5_strikes 52 = .ok (.iastore, 1) := by decide +kernel
theorem dX5_strikes_53 : decode cX5_strikes 53 = .ok (.return_, 1) := by decide +kernel
theorem dX5_strike_0 : decode cX5_strike 0 = .ok (.aload_n 0, 1) := by decide +kernel
theorem dX5_strike_1 : decode cX5_strike 1 = .ok (.iconst 0, 1) := by decide +kernel
theorem dX5_strike_2 : decode cX5_strike 2 = .ok (.putfield 61, 3) := by decide +kernel
theorem dX5_strike_5 : decode cX5_strike 5 = .ok (.iload_n 1, 1) := by decide +kernel
theorem dX5_strike_6 : decode cX5_strike 6 = .ok (.iconst 0, 1) := by decide +kernel
theorem dX5_strike_7 : decode cX5_strike 7 = .ok (.aload_n 0, 1) := by decide +kernel
theorem dX5_strike_8 : decode cX5_strike 8 = .ok (.invokevirtual 86, 3) := by decide +kernel
theorem dX5_strike_11 : decode cX5_strike 11 = .ok (.iconst 1, 1) := by decide +kernel
theorem dX5_strike_12 : decode cX5_strike 12 = .ok (.isub, 1) := by decide +kernel
theorem dX5_strike_13 : decode cX5_strike 13 = .ok (.invokestatic 68, 3) := by decide +kernel
theorem dX5_strike_16 : decode cX5_strike 16 = .ok (.ifCond .ne 5, 3) := by decide +kernel
theorem dX5_strike_19 : decode cX5_strike 19 = .ok (.iconst (-1), 1) := by decide +kernel
theorem dX5_strike_20 : decode cX5_strike 20 = .ok (.ireturn, 1) := by decide +kernel
theorem dX5_strike_21 : decode cX5_strike 21 = .ok (.aload_n 0, 1) := by decide +kernel
theorem dX5_strike_22 : decode cX5_strike 22 = .ok (.aload_n 0, 1) := by decide +kernel
theorem dX5_strike_23 : decode cX5_strike 23 = .ok (.getfield 7, 3) := by decide +kernel
theorem dX5_strike_26 : decode cX5_strike 26 = .ok (.invokevirtual 89, 3) := by decide +kernel
theorem dX5_strike_29 : decode cX5_strike 29 = .ok (.aload_n 0, 1) := by decide +kernel
theorem dX5_strike_30 : decode cX5_strike 30 = .ok (.iload_n 1, 1) := by decide +kernel
theorem dX5_strike_31 : decode cX5_strike 31 = .ok (.invokevirtual 106, 3) := by decide +kernel
theorem dX5_strike_34 : decode cX5_strike 34 = .ok (.aload_n 0, 1) := by decide +kernel
theorem dX5_strike_35 : decode cX5_strike 35 = .ok (.invokevirtual 86, 3) := by decide +kernel
theorem dX5_strike_38 : decode cX5_strike 38 = .ok (.ireturn, 1) := by decide +kernel
theorem dX5_plan_0 : decode cX5_plan 0 = .ok (.aload_n 0, 1) := by decide +kernel
theorem dX5_plan_1 : decode cX5_plan 1 = .ok (.iconst 0, 1) := by decide +kernel
theorem dX5_plan_2 : decode cX5_plan 2 = .ok (.putfield 61, 3) := by decide +kernel
theorem dX5_plan_5 : decode cX5_plan 5 = .ok (.aload_n 0, 1) := by decide +kernel
theorem dX5_plan_6 : decode cX5_plan 6 = .ok (.iload_n 1, 1) := by decide +kernel
theorem dX5_plan_7 : decode cX5_plan 7 = .ok (.iload_n 2, 1) := by decide +kernel
theorem dX5_plan_8 : decode cX5_plan 8 = .ok (.iload_n 3, 1) := by decide +kernel
theorem dX5_plan_9 : decode cX5_plan 9 = .ok (.invokevirtual 110, 3) := by decide +kernel
theorem dX5_plan_12 : decode cX5_plan 12 = .ok (.ifCond .eq 13, 3) := by decide +kernel
theorem dX5_plan_15 : decode cX5_plan 15 = .ok (.iload 4, 2) := by decide +kernel
theorem dX5_plan_17 : decode cX5_plan 17 = .ok (.iconst 0, 1) := by decide +kernel
theorem dX5_plan_18 : decode cX5_plan 18 = .ok (.iconst 5, 1) := by decide +kernel
theorem dX5_plan_19 : decode cX5_plan 19 = .ok (.invokestatic 68, 3) := by decide +kernel
theorem dX5_plan_22 : decode cX5_plan 22 = .ok (.ifCond .ne 5, 3) := by decide +kernel
theorem dX5_plan_25 : decode cX5_plan 25 = .ok (.iconst (-1), 1) := by decide +kernel
theorem dX5_plan_26 : decode cX5_plan 26 = .ok (.ireturn, 1) := by decide +kernel
theorem dX5_plan_27 : decode cX5_plan 27 = .ok (.iconst 0, 1) := by decide +kernel
theorem dX5_plan_28 : decode cX5_plan 28 = .ok (.istore 5, 2) := by decide +kernel
theorem dX5_plan_30 : decode cX5_plan 30 = .ok (.iload_n 2, 1) := by decide +kernel
theorem dX5_plan_31 : decode cX5_plan 31 = .ok (.istore 6, 2) := by decide +kernel
theorem dX5_plan_33 : decode cX5_plan 33 = .ok (.iload 6, 2) := by decide +kernel
theorem dX5_plan_35 : decode cX5_plan 35 = .ok (.iload_n 3, 1) := by decide +kernel
theorem dX5_plan_36 : decode cX5_plan 36 = .ok (.if_icmp .gt 31, 3) := by decide +kernel
theorem dX5_plan_39 : decode cX5_plan 39 = .ok (.iload 5, 2) := by decide +kernel
theorem dX5_plan_41 : decode cX5_plan 41 = .ok (.aload_n 0, 1) := by decide +kernel
theorem dX5_plan_42 : decode cX5_plan 42 = .ok (.iload_n 1, 1) := by decide +kernel
theorem dX5_plan_43 : decode cX5_plan 43 = .ok (.iload 6, 2) := by decide +kernel
theorem dX5_plan_45 : decode cX5_plan 45 = .ok (.invokevirtual 113, 3) := by decide +kernel
theorem dX5_plan_48 : decode cX5_plan 48 = .ok (.iload 4, 2) := by decide +kernel
theorem dX5_plan_50 : decode cX5_plan 50 = .ok (.if_icmp .eq 7, 3) := by decide +kernel
theorem dX5_plan_53 : decode cX5_plan 53 = .ok (.iconst 1, 1) := by decide +kernel
theorem dX5_plan_54 : decode cX5_plan 54 = .ok (.goto 4, 3) := by decide +kernel
theorem dX5_plan_57 : decode cX5_plan 57 = .ok (.iconst 0, 1) := by decide +kernel
theorem dX5_plan_58 : decode cX5_plan 58 = .ok (.iadd, 1) := by decide +kernel
theorem dX5_plan_59 : decode cX5_plan 59 = .ok (.istore 5, 2) := by decide +kernel
theorem dX5_plan_61 : decode cX5_plan 61 = .ok (.iinc 6 1, 3) := by decide +kernel
theorem dX5_plan_64 : decode cX5_plan 64 = .ok (.goto (-31), 3) := by decide +kernel
theorem dX5_plan_67 : decode cX5_plan 67 = .ok (.iload 5, 2) := by decide +kernel
theorem dX5_plan_69 : decode cX5_plan 69 = .ok (.ifCond .le 11, 3) := by decide +kernel
theorem dX5_plan_72 : decode cX5_plan 72 = .ok (.aload_n 0, 1) := by decide +kernel
theorem dX5_plan_73 : decode cX5_plan 73 = .ok (.aload_n 0, 1) := by decide +kernel
theorem dX5_plan_74 : decode cX5_plan 74 = .ok (.getfield 7, 3) := by decide +kernel
theorem dX5_plan_77 : decode cX5_plan 77 = .ok (.invokevirtual 89, 3) := by decide +kernel
theorem dX5_plan_80 : decode cX5_plan 80 = .ok (.iload_n 2, 1) := by decide +kernel
theorem dX5_plan_81 : decode cX5_plan 81 = .ok (.istore 6, 2) := by decide +kernel
theorem dX5_plan_83 : decode cX5_plan 83 = .ok (.iload 6, 2) := by decide +kernel
theorem dX5_plan_85 : decode cX5_plan 85 = .ok (.iload_n 3, 1) := by decide +kernel
theorem dX5_plan_86 : decode cX5_plan 86 = .ok (.if_icmp .gt 26, 3) := by decide +kernel
theorem dX5_plan_89 : decode cX5_plan 89 = .ok (.aload_n 0, 1) := by decide +kernel
theorem dX5_plan_90 : decode cX5_plan 90 = .ok (.getfield 7, 3) := by decide +kernel
theorem dX5_plan_93 : decode cX5_plan 93 = .ok (.bipush 40, 2) := by decide +kernel
theorem dX5_plan_95 : decode cX5_plan 95 = .ok (.bipush 70, 2) := by decide +kernel
theorem dX5_plan_97 : decode cX5_plan 97 = .ok (.iload_n 1, 1) := by decide +kernel
theorem dX5_plan_98 : decode cX5_plan 98 = .ok (.imul, 1) := by decide +kernel
theorem dX5_plan_99 : decode cX5_plan 99 = .ok (.iadd, 1) := by decide +kernel
theorem dX5_plan_100 : decode cX5_plan 100 = .ok (.iload 6, 2) := by decide +kernel
theorem dX5_plan_102 : decode cX5_plan 102 = .ok (.iadd, 1) := by decide +kernel
theorem dX5_plan_103 : decode cX5_plan 103 = .ok (.iload 4, 2) := by decide +kernel
theorem dX5_plan_105 : decode cX5_plan 105 = .ok (.iastore, 1) := by decide +kernel
theorem dX5_plan_106 : decode cX5_plan 106 = .ok (.iinc 6 1, 3) := by decide +kernel
theorem dX5_plan_109 : decode cX5_plan 109 = .ok (.goto (-26), 3) := by decide +kernel
theorem dX5_plan_112 : decode cX5_plan 112 = .ok (.iload 5, 2) := by decide +kernel
theorem dX5_plan_114 : decode cX5_plan 114 = .ok (.ireturn, 1) := by decide +kernel
theorem dX5_undo_0 : decode cX5_undo 0 = .ok (.aload_n 0, 1) := by decide +kernel
theorem dX5_undo_1 : decode cX5_undo 1 = .ok (.iconst 0, 1) := by decide +kernel
theorem dX5_undo_2 : decode cX5_undo 2 = .ok (.putfield 61, 3) := by decide +kernel
theorem dX5_undo_5 : decode cX5_undo 5 = .ok (.aload_n 0, 1) := by decide +kernel
theorem dX5_undo_6 : decode cX5_undo 6 = .ok (.getfield 83, 3) := by decide +kernel
theorem dX5_undo_9 : decode cX5_undo 9 = .ok (.ifCond .ne 5, 3) := by decide +kernel
theorem dX5_undo_12 : decode cX5_undo 12 = .ok (.iconst (-1), 1) := by decide +kernel
theorem dX5_undo_13 : decode cX5_undo 13 = .ok (.ireturn, 1) := by decide +kernel
theorem dX5_undo_14 : decode cX5_undo 14 = .ok (.aload_n 0, 1) := by decide +kernel
theorem dX5_undo_15 : decode cX5_undo 15 = .ok (.dup, 1) := by decide +kernel
theorem dX5_undo_16 : decode cX5_undo 16 = .ok (.getfield 83, 3) := by decide +kernel
theorem dX5_undo_19 : decode cX5_undo 19 = .ok (.iconst 1, 1) := by decide +kernel
theorem dX5_undo_20 : decode cX5_undo 20 = .ok (.isub, 1) := by decide +kernel
theorem dX5_undo_21 : decode cX5_undo 21 = .ok (.putfield 83, 3) := by decide +kernel
theorem dX5_undo_24 : decode cX5_undo 24 = .ok (.iconst 0, 1) := by decide +kernel
theorem dX5_undo_25 : decode cX5_undo 25 = .ok (.istore_n 1, 1) := by decide +kernel
theorem dX5_undo_26 : decode cX5_undo 26 = .ok (.iload_n 1, 1) := by decide +kernel
theorem dX5_undo_27 : decode cX5_undo 27 = .ok (.sipush 460, 3) := by decide +kernel
theorem dX5_undo_30 : decode cX5_undo 30 = .ok (.if_icmp .ge 30, 3) := by decide +kernel
theorem dX5_undo_33 : decode cX5_undo 33 = .ok (.aload_n 0, 1) := by decide +kernel
theorem dX5_undo_34 : decode cX5_undo 34 = .ok (.getfield 7, 3) := by decide +kernel
theorem dX5_undo_37 : decode cX5_undo 37 = .ok (.iload_n 1, 1) := by decide +kernel
theorem dX5_undo_38 : decode cX5_undo 38 = .ok (.aload_n 0, 1) := by decide +kernel
theorem dX5_undo_39 : decode cX5_undo 39 = .ok (.getfield 13, 3) := by decide +kernel
theorem dX5_undo_42 : decode cX5_undo 42 = .ok (.sipush 460, 3) := by decide +kernel
theorem dX5_undo_45 : decode cX5_undo 45 = .ok (.aload_n 0, 1) := by decide +kernel
theorem dX5_undo_46 : decode cX5_undo 46 = .ok (.getfield 83, 3) := by decide +kernel
theorem dX5_undo_49 : decode cX5_undo 49 = .ok (.imul, 1) := by decide +kernel
theorem dX5_undo_50 : decode cX5_undo 50 = .ok (.iload_n 1, 1) := by decide +kernel
theorem dX5_undo_51 : decode cX5_undo 51 = .ok (.iadd, 1) := by decide +kernel
theorem dX5_undo_52 : decode cX5_undo 52 = .ok (.iaload, 1) := by decide +kernel
theorem dX5_undo_53 : decode cX5_undo 53 = .ok (.iastore, 1) := by decide +kernel
theorem dX5_undo_54 : decode cX5_undo 54 = .ok (.iinc 1 1, 3) := by decide +kernel
theorem dX5_undo_57 : decode cX5_undo 57 = .ok (.goto (-31), 3) := by decide +kernel
theorem dX5_undo_60 : decode cX5_undo 60 = .ok (.aload_n 0, 1) := by decide +kernel
theorem dX5_undo_61 : decode cX5_undo 61 = .ok (.getfield 83, 3) := by decide +kernel
theorem dX5_undo_64 : decode cX5_undo 64 = .ok (.ireturn, 1) := by decide +kernel
theorem dX5_count_0 : decode cX5_count 0 = .ok (.aload_n 0, 1) := by decide +kernel
theorem dX5_count_1 : decode cX5_count 1 = .ok (.iconst 0, 1) := by decide +kernel
theorem dX5_count_2 : decode cX5_count 2 = .ok (.putfield 61, 3) := by decide +kernel
theorem dX5_count_5 : decode cX5_count 5 = .ok (.iload_n 1, 1) := by decide +kernel
theorem dX5_count_6 : decode cX5_count 6 = .ok (.bipush 10, 2) := by decide +kernel
theorem dX5_count_8 : decode cX5_count 8 = .ok (.bipush 15, 2) := by decide +kernel
theorem dX5_count_10 : decode cX5_count 10 = .ok (.invokestatic 68, 3) := by decide +kernel
theorem dX5_count_13 : decode cX5_count 13 = .ok (.ifCond .eq 15, 3) := by decide +kernel
theorem dX5_count_16 : decode cX5_count 16 = .ok (.aload_n 0, 1) := by decide +kernel
theorem dX5_count_17 : decode cX5_count 17 = .ok (.getfield 7, 3) := by decide +kernel
theorem dX5_count_20 : decode cX5_count 20 = .ok (.iconst 0, 1) := by decide +kernel
theorem dX5_count_21 : decode cX5_count 21 = .ok (.iload_n 1, 1) := by decide +kernel
theorem dX5_count_22 : decode cX5_count 22 = .ok (.iadd, 1) := by decide +kernel
theorem dX5_count_23 : decode cX5_count 23 = .ok (.bipush 10, 2) := by decide +kernel
theorem dX5_count_25 : decode cX5_count 25 = .ok (.isub, 1) := by decide +kernel
theorem dX5_count_26 : decode cX5_count 26 = .ok (.iaload, 1) := by decide +kernel
theorem dX5_count_27 : decode cX5_count 27 = .ok (.ireturn, 1) := by decide +kernel
theorem dX5_count_28 : decode cX5_count 28 = .ok (.iload_n 1, 1) := by decide +kernel
theorem dX5_count_29 : decode cX5_count 29 = .ok (.bipush 20, 2) := by decide +kernel
theorem dX5_count_31 : decode cX5_count 31 = .ok (.bipush 27, 2) := by decide +kernel
theorem dX5_count_33 : decode cX5_count 33 = .ok (.invokestatic 68, 3) := by decide +kernel
theorem dX5_count_36 : decode cX5_count 36 = .ok (.ifCond .eq 12, 3) := by decide +kernel
theorem dX5_count_39 : decode cX5_count 39 = .ok (.aload_n 0, 1) := by decide +kernel
theorem dX5_count_40 : decode cX5_count 40 = .ok (.iload_n 1, 1) := by decide +kernel
theorem dX5_count_41 : decode cX5_count 41 = .ok (.bipush 20, 2) := by decide +kernel
theorem dX5_count_43 : decode cX5_count 43 = .ok (.isub, 1) := by decide +kernel
theorem dX5_count_44 : decode cX5_count 44 = .ok (.invokevirtual 99, 3) := by decide +kernel
theorem dX5_count_47 : decode cX5_count 47 = .ok (.ireturn, 1) := by decide +kernel
theorem dX5_count_48 : decode cX5_count 48 = .ok (.iload_n 1, 1) := by decide +kernel
theorem dX5_count_49 : decode cX5_count 49 = .ok (.ifCond .ne 10, 3) := by decide +kernel
theorem dX5_count_52 : decode cX5_count 52 = .ok (.aload_n 0, 1) := by decide +kernel
theorem dX5_count_53 : decode cX5_count 53 = .ok (.invokevirtual 64, 3) := by decide +kernel
theorem dX5_count_56 : decode cX5_count 56 = .ok (.goto 40, 3) := by decide +kernel
theorem dX5_count_59 : decode cX5_count 59 = .ok (.iload_n 1, 1) := by decide +kernel
theorem dX5_count_60 : decode cX5_count 60 = .ok (.iconst 1, 1) := by decide +kernel
theorem dX5_count_61 : decode cX5_count 61 = .ok (.if_icmp .ne 10, 3) := by decide +kernel
theorem dX5_count_64 : decode cX5_count 64 = .ok (.aload_n 0, 1) := by decide +kernel
theorem dX5_count_65 : decode cX5_count 65 = .ok (.invokevirtual 86, 3) := by decide +kernel
theorem dX5_count_68 : decode cX5_count 68 = .ok (.goto 28, 3) := by decide +kernel
theorem dX5_count_71 : decode cX5_count 71 = .ok (.iload_n 1, 1) := by decide +kernel
theorem dX5_count_72 : decode cX5_count 72 = .ok (.iconst 2, 1) := by decide +kernel
theorem dX5_count_73 : decode cX5_count 73 = .ok (.if_icmp .ne 10, 3) := by decide +kernel
theorem dX5_count_76 : decode cX5_count 76 = .ok (.aload_n 0, 1) := by decide +kernel
theorem dX5_count_77 : decode cX5_count 77 = .ok (.getfield 117, 3) := by decide +kernel
theorem dX5_count_80 : decode cX5_count 80 = .ok (.goto 16, 3) := by decide +kernel
theorem dX5_count_83 : decode cX5_count 83 = .ok (.iload_n 1, 1) := by decide +kernel
theorem dX5_count_84 : decode cX5_count 84 = .ok (.iconst 3, 1) := by decide +kernel
theorem dX5_count_85 : decode cX5_count 85 = .ok (.if_icmp .ne 10, 3) := by decide +kernel
theorem dX5_count_88 : decode cX5_count 88 = .ok (.aload_n 0, 1) := by decide +kernel
theorem dX5_count_89 : decode cX5_count 89 = .ok (.getfield 83, 3) := by decide +kernel
theorem dX5_count_92 : decode cX5_count 92 = .ok (.goto 4, 3) := by decide +kernel
theorem dX5_count_95 : decode cX5_count 95 = .ok (.iconst (-1), 1) := by decide +kernel
theorem dX5_count_96 : decode cX5_count 96 = .ok (.ireturn, 1) := by decide +kernel
theorem dX5_camped_0 : decode cX5_camped 0 = .ok (.aload_n 0, 1) := by decide +kernel
theorem dX5_camped_1 : decode cX5_camped 1 = .ok (.iload_n 1, 1) := by decide +kernel
theorem dX5_camped_2 : decode cX5_camped 2 = .ok (.iconst 0, 1) := by decide +kernel
theorem dX5_camped_3 : decode cX5_camped 3 = .ok (.aload_n 0, 1) := by decide +kernel
theorem dX5_camped_4 : decode cX5_camped 4 = .ok (.invokevirtual 86, 3) := by decide +kernel
theorem dX5_camped_7 : decode cX5_camped 7 = .ok (.iconst 1, 1) := by decide +kernel
theorem dX5_camped_8 : decode cX5_camped 8 = .ok (.isub, 1) := by decide +kernel
theorem dX5_camped_9 : decode cX5_camped 9 = .ok (.invokestatic 68, 3) := by decide +kernel
theorem dX5_camped_12 : decode cX5_camped 12 = .ok (.ifCond .eq 7, 3) := by decide +kernel
theorem dX5_camped_15 : decode cX5_camped 15 = .ok (.iconst 0, 1) := by decide +kernel
theorem dX5_camped_16 : decode cX5_camped 16 = .ok (.goto 4, 3) := by decide +kernel
theorem dX5_camped_19 : decode cX5_camped 19 = .ok (.iconst 1, 1) := by decide +kernel
theorem dX5_camped_20 : decode cX5_camped 20 = .ok (.putfield 61, 3) := by decide +kernel
theorem dX5_camped_23 : decode cX5_camped 23 = .ok (.aload_n 0, 1) := by decide +kernel
theorem dX5_camped_24 : decode cX5_camped 24 = .ok (.getfield 61, 3) := by decide +kernel
theorem dX5_camped_27 : decode cX5_camped 27 = .ok (.iconst 1, 1) := by decide +kernel
theorem dX5_camped_28 : decode cX5_camped 28 = .ok (.if_icmp .ne 7, 3) := by decide +kernel
theorem dX5_camped_31 : decode cX5_camped 31 = .ok (.iconst 0, 1) := by decide +kernel
theorem dX5_camped_32 : decode cX5_camped 32 = .ok (.goto 24, 3) := by decide +kernel
theorem dX5_camped_35 : decode cX5_camped 35 = .ok (.aload_n 0, 1) := by decide +kernel
theorem dX5_camped_36 : decode cX5_camped 36 = .ok (.getfield 7, 3) := by decide +kernel
theorem dX5_camped_39 : decode cX5_camped 39 = .ok (.bipush 15, 2) := by decide +kernel
theorem dX5_camped_41 : decode cX5_camped 41 = .ok (.iconst 2, 1) := by decide +kernel
theorem dX5_camped_42 : decode cX5_camped 42 = .ok (.iload_n 1, 1) := by decide +kernel
theorem dX5_camped_43 : decode cX5_camped 43 = .ok (.imul, 1) := by decide +kernel
theorem dX5_camped_44 : decode cX5_camped 44 = .ok (.iadd, 1) := by decide +kernel
theorem dX5_camped_45 : decode cX5_camped 45 = .ok (.iload_n 2, 1) := by decide +kernel
theorem dX5_camped_46 : decode cX5_camped 46 = .ok (.ifCond .eq 7, 3) := by decide +kernel
theorem dX5_camped_49 : decode cX5_camped 49 = .ok (.iconst 1, 1) := by decide +kernel
theorem dX5_camped_50 : decode cX5_camped 50 = .ok (.goto 4, 3) := by decide +kernel
theorem dX5_camped_53 : decode cX5_camped 53 = .ok (.iconst 0, 1) := by decide +kernel
theorem dX5_camped_54 : decode cX5_camped 54 = .ok (.iadd, 1) := by decide +kernel
theorem dX5_camped_55 : decode cX5_camped 55 = .ok (.iaload, 1) := by decide +kernel
theorem dX5_camped_56 : decode cX5_camped 56 = .ok (.ireturn, 1) := by decide +kernel
theorem dX5_put_0 : decode cX5_put 0 = .ok (.bipush 24, 2) := by decide +kernel
theorem dX5_put_2 : decode cX5_put 2 = .ok (.istore_n 2, 1) := by decide +kernel
theorem dX5_put_3 : decode cX5_put 3 = .ok (.iload_n 2, 1) := by decide +kernel
theorem dX5_put_4 : decode cX5_put 4 = .ok (.ifCond .lt 32, 3) := by decide +kernel
theorem dX5_put_7 : decode cX5_put 7 = .ok (.aload_n 0, 1) := by decide +kernel
theorem dX5_put_8 : decode cX5_put 8 = .ok (.getfield 19, 3) := by decide +kernel
theorem dX5_put_11 : decode cX5_put 11 = .ok (.aload_n 0, 1) := by decide +kernel
theorem dX5_put_12 : decode cX5_put 12 = .ok (.getfield 117, 3) := by decide +kernel
theorem dX5_put_15 : decode cX5_put 15 = .ok (.iload_n 1, 1) := by decide +kernel
theorem dX5_put_16 : decode cX5_put 16 = .ok (.iload_n 2, 1) := by decide +kernel
theorem dX5_put_17 : decode cX5_put 17 = .ok (.ishr, 1) := by decide +kernel
theorem dX5_put_18 : decode cX5_put 18 = .ok (.i2b, 1) := by decide +kernel
theorem dX5_put_19 : decode cX5_put 19 = .ok (.bastore, 1) := by decide +kernel
theorem dX5_put_20 : decode cX5_put 20 = .ok (.aload_n 0, 1) := by decide +kernel
theorem dX5_put_21 : decode cX5_put 21 = .ok (.dup, 1) := by decide +kernel
theorem dX5_put_22 : decode cX5_put 22 = .ok (.getfield 117, 3) := by decide +kernel
theorem dX5_put_25 : decode cX5_put 25 = .ok (.iconst 1, 1) := by decide +kernel
theorem dX5_put_26 : decode cX5_put 26 = .ok (.iadd, 1) := by decide +kernel
theorem dX5_put_27 : decode cX5_put 27 = .ok (.putfield 117, 3) := by decide +kernel
theorem dX5_put_30 : decode cX5_put 30 = .ok (.iinc 2 (-8), 3) := by decide +kernel
theorem dX5_put_33 : decode cX5_put 33 = .ok (.goto (-30), 3) := by decide +kernel
theorem dX5_put_36 : decode cX5_put 36 = .ok (.return_, 1) := by decide +kernel
theorem dX5_feed_0 : decode cX5_feed 0 = .ok (.aload_n 0, 1) := by decide +kernel
theorem dX5_feed_1 : decode cX5_feed 1 = .ok (.iconst 0, 1) := by decide +kernel
theorem dX5_feed_2 : decode cX5_feed 2 = .ok (.putfield 61, 3) := by decide +kernel
theorem dX5_feed_5 : decode cX5_feed 5 = .ok (.aload_n 0, 1) := by decide +kernel
theorem dX5_feed_6 : decode cX5_feed 6 = .ok (.getfield 117, 3) := by decide +kernel
theorem dX5_feed_9 : decode cX5_feed 9 = .ok (.bipush 20, 2) := by decide +kernel
theorem dX5_feed_11 : decode cX5_feed 11 = .ok (.iadd, 1) := by decide +kernel
theorem dX5_feed_12 : decode cX5_feed 12 = .ok (.sipush 400, 3) := by decide +kernel
theorem dX5_feed_15 : decode cX5_feed 15 = .ok (.if_icmp .le 5, 3) := by decide +kernel
theorem dX5_feed_18 : decode cX5_feed 18 = .ok (.iconst (-1), 1) := by decide +kernel
theorem dX5_feed_19 : decode cX5_feed 19 = .ok (.ireturn, 1) := by decide +kernel
theorem dX5_feed_20 : decode cX5_feed 20 = .ok (.aload_n 0, 1) := by decide +kernel
theorem dX5_feed_21 : decode cX5_feed 21 = .ok (.iload_n 1, 1) := by decide +kernel
theorem dX5_feed_22 : decode cX5_feed 22 = .ok (.invokevirtual 120, 3) := by decide +kernel
theorem dX5_feed_25 : decode cX5_feed 25 = .ok (.aload_n 0, 1) := by decide +kernel
theorem dX5_feed_26 : decode cX5_feed 26 = .ok (.iload_n 2, 1) := by decide +kernel
theorem dX5_feed_27 : decode cX5_feed 27 = .ok (.invokevirtual 120, 3) := by decide +kernel
theorem dX5_feed_30 : decode cX5_feed 30 = .ok (.aload_n 0, 1) := by decide +kernel
theorem dX5_feed_31 : decode cX5_feed 31 = .ok (.iload_n 3, 1) := by decide +kernel
theorem dX5_feed_32 : decode cX5_feed 32 = .ok (.invokevirtual 120, 3) := by decide +kernel
theorem dX5_feed_35 : decode cX5_feed 35 = .ok (.aload_n 0, 1) := by decide +kernel
theorem dX5_feed_36 : decode cX5_feed 36 = .ok (.iload 4, 2) := by decide +kernel
theorem dX5_feed_38 : decode cX5_feed 38 = .ok (.invokevirtual 120, 3) := by decide +kernel
theorem dX5_feed_41 : decode cX5_feed 41 = .ok (.aload_n 0, 1) := by decide +kernel
theorem dX5_feed_42 : decode cX5_feed 42 = .ok (.iload 5, 2) := by decide +kernel
theorem dX5_feed_44 : decode cX5_feed 44 = .ok (.invokevirtual 120, 3) := by decide +kernel
theorem dX5_feed_47 : decode cX5_feed 47 = .ok (.aload_n 0, 1) := by decide +kernel
theorem dX5_feed_48 : decode cX5_feed 48 = .ok (.getfield 117, 3) := by decide +kernel
theorem dX5_feed_51 : decode cX5_feed 51 = .ok (.ireturn, 1) := by decide +kernel
theorem dX5_end_0 : decode cX5_end 0 = .ok (.aload_n 0, 1) := by decide +kernel
theorem dX5_end_1 : decode cX5_end 1 = .ok (.iconst 0, 1) := by decide +kernel
theorem dX5_end_2 : decode cX5_end 2 = .ok (.putfield 61, 3) := by decide +kernel
theorem dX5_end_5 : decode cX5_end 5 = .ok (.iload_n 1, 1) := by decide +kernel
theorem dX5_end_6 : decode cX5_end 6 = .ok (.iconst 0, 1) := by decide +kernel
theorem dX5_end_7 : decode cX5_end 7 = .ok (.aload_n 0, 1) := by decide +kernel
theorem dX5_end_8 : decode cX5_end 8 = .ok (.getfield 117, 3) := by decide +kernel
theorem dX5_end_11 : decode cX5_end 11 = .ok (.invokestatic 68, 3) := by decide +kernel
theorem dX5_end_14 : decode cX5_end 14 = .ok (.ifCond .ne 5, 3) := by decide +kernel
theorem dX5_end_17 : decode cX5_end 17 = .ok (.iconst 0, 1) := by decide +kernel
theorem dX5_end_18 : decode cX5_end 18 = .ok (.ireturn, 1) := by decide +kernel
theorem dX5_end_19 : decode cX5_end 19 = .ok (.aload_n 0, 1) := by decide +kernel
theorem dX5_end_20 : decode cX5_end 20 = .ok (.iload_n 1, 1) := by decide +kernel
theorem dX5_end_21 : decode cX5_end 21 = .ok (.putfield 117, 3) := by decide +kernel
theorem dX5_end_24 : decode cX5_end 24 = .ok (.iconst 1, 1) := by decide +kernel
theorem dX5_end_25 : decode cX5_end 25 = .ok (.ireturn, 1) := by decide +kernel
theorem dX5_fault_0 : decode cX5_fault 0 = .ok (.aload_n 0, 1) := by decide +kernel
theorem dX5_fault_1 : decode cX5_fault 1 = .ok (.iconst 0, 1) := by decide +kernel
theorem dX5_fault_2 : decode cX5_fault 2 = .ok (.putfield 61, 3) := by decide +kernel
theorem dX5_fault_5 : decode cX5_fault 5 = .ok (.aload_n 0, 1) := by decide +kernel
theorem dX5_fault_6 : decode cX5_fault 6 = .ok (.getfield 129, 3) := by decide +kernel
theorem dX5_fault_9 : decode cX5_fault 9 = .ok (.ireturn, 1) := by decide +kernel

section MT
variable {G : mG} {d : Nat} {σ : mS}
theorem l_keeps1 {r : Nat} {Q : Option Value → mS → Prop} (hk : mF G mX5_keeps d 40 [some (.ref 116), some (.ref r), some (.int (nI 3220))] [] (upR σ 118 (va_cpy (σ 118) (σ 118) 460 0 3220)) Q) :
    ∀ e, e ≤ 3220 → mF G mX5_keeps d 11 [some (.ref 116), some (.ref r), some (.int (nI e))] [] (upR σ 118 (va_cpy (σ 118) (σ 118) 460 0 e)) Q := by
  refine loopUp 3220 (fun e he ih => ?_)
  refine F_iload_n dX5_keeps_11 rfl ?_
  refine F_sipush (v := nI 3220) dX5_keeps_12 rfl ?_
  refine F_icmp_geN (tgt := 40) dX5_keeps_15 rfl (by omega) (by omega) (fun c15 => ?_) (fun c15 => ?_)
  · have : e = 3220 := by omega
    subst this
    exact hk
  · refine F_aload_n dX5_keeps_18 rfl ?_
    refine F_getr dX5_keeps_19 rfl rfl (by first | assumption | rfl) rfl ?_
    refine F_iload_n dX5_keeps_22 rfl ?_
    refine F_aload_n dX5_keeps_23 rfl ?_
    refine F_getr dX5_keeps_24 rfl rfl (by first | assumption | rfl) rfl ?_
    refine F_sipush (v := nI 460) dX5_keeps_27 rfl ?_
    refine F_iload_n dX5_keeps_30 rfl ?_
    refine F_iaddN dX5_keeps_31 ?_
    refine F_ialdE (v := σ 118 (460 + e)) dX5_keeps_32 (by first | assumption | rfl) (by decide) (by omega) (by rw [upR_s]; simp only [va_cpy]; rw [if_neg (by omega)]) ?_
    refine F_iast dX5_keeps_33 (by first | assumption | rfl) (by decide) (by omega) ?_
    refine F_iincN dX5_keeps_34 rfl ?_
    refine F_goto (tgt := 11) dX5_keeps_37 rfl ?_
    refine F_sg (up_cpy _ _ _ _ (Nat.zero_add e).symm rfl) ?_
    exact ih (by omega)

theorem l_keeps2 {r m : Nat} {R : Nat → Int32} (hr : sh r = some (.inr (.inl (0, 460)))) (hr8 : r ≠ 118) (hR : σ r = R) (hm : σ 116 4 = nI m) (hm7 : m ≤ 7) {Q : Option Value → mS → Prop} (hk : mF G mX5_keeps d 83 [some (.ref 116), some (.ref r), some (.int (nI 460))] [] (upR σ 118 (va_cpy R (σ 118) 0 (460 * m) 460)) Q) :
    ∀ e, e ≤ 460 → mF G mX5_keeps d 52 [some (.ref 116), some (.ref r), some (.int (nI e))] [] (upR σ 118 (va_cpy R (σ 118) 0 (460 * m) e)) Q := by
  refine loopUp 460 (fun e he ih => ?_)
  refine F_iload_n dX5_keeps_52 rfl ?_
  refine F_sipush (v := nI 460) dX5_keeps_53 rfl ?_
  refine F_icmp_geN (tgt := 83) dX5_keeps_56 rfl (by omega) (by omega) (fun c56 => ?_) (fun c56 => ?_)
  · have : e = 460 := by omega
    subst this
    exact hk
  · refine F_aload_n dX5_keeps_59 rfl ?_
    refine F_getr dX5_keeps_60 rfl rfl (by first | assumption | rfl) rfl ?_
    refine F_sipush (v := nI 460) dX5_keeps_63 rfl ?_
    refine F_aload_n dX5_keeps_66 rfl ?_
    refine F_getE (v := nI m) dX5_keeps_67 rfl rfl (by first | assumption | rfl) rfl (by rw [upR_n _ _ (by decide)]; exact hm) ?_
    refine F_imulN dX5_keeps_70 ?_
    refine F_iload_n dX5_keeps_71 rfl ?_
    refine F_iaddN dX5_keeps_72 ?_
    refine F_aload_n dX5_keeps_73 rfl ?_
    refine F_iload_n dX5_keeps_74 rfl ?_
    refine F_ialdE (v := R e) dX5_keeps_75 (by first | assumption | rfl) (by decide) (by omega) (by rw [upR_n _ _ hr8, hR]) ?_
    refine F_iast dX5_keeps_76 (by first | assumption | rfl) (by decide) (by omega) ?_
    refine F_iincN dX5_keeps_77 rfl ?_
    refine F_goto (tgt := 52) dX5_keeps_80 rfl ?_
    refine F_sg (up_cpy _ _ _ _ rfl (by rw [Nat.zero_add])) ?_
    exact ih (by omega)

/-- the row of the past with one more: the eldest of eight goes -/
def keptF (n : Nat) (K R : Nat → Int32) : Nat → Int32 := va_cpy R (if n = 8 then va_cpy K K 460 0 3220 else K) 0 (460 * min n 7) 460
theorem v_keeps {r n : Nat} (hr : sh r = some (.inr (.inl (0, 460)))) (hr8 : r ≠ 118) (hr6 : r ≠ 116) (hn : σ 116 4 = nI n) (hn8 : n ≤ 8) : mV G mX5_keeps d [.ref 116, .ref r] σ none (up (upR σ 118 (keptF n (σ 118) (σ r))) 116 4 (nI (min n 7 + 1))) := by
  refine mV_of fun Q hQ => ?_
  refine F_aload_n dX5_keeps_0 rfl ?_
  refine F_getE (v := nI n) dX5_keeps_1 rfl rfl (by first | assumption | rfl) rfl hn ?_
  refine F_bipush (v := nI 8) dX5_keeps_4 rfl ?_
  refine F_icmp_neN (tgt := 50) dX5_keeps_6 rfl (by omega) (by omega) (fun c6 => ?_) (fun c6 => ?_)
  · refine F_iconst (v := nI 0) dX5_keeps_50 rfl ?_
    refine F_istore_n dX5_keeps_51 (Nat.le_of_ble_eq_true rfl) ?_
    have hm7 : min n 7 = n := by omega
    refine F_sg (cpy_0 _ 118 (σ r) 0 (460 * n)).symm ?_
    refine l_keeps2 hr hr8 rfl hn (by omega) ?_ 0 (by omega)
    refine F_aload_n dX5_keeps_83 rfl ?_
    refine F_dup dX5_keeps_84 rfl ?_
    refine F_getE (v := nI n) dX5_keeps_85 rfl rfl (by first | assumption | rfl) rfl (by rw [upR_n _ _ (by decide)]; exact hn) ?_
    refine F_iconst (v := nI 1) dX5_keeps_88 rfl ?_
    refine F_iaddN dX5_keeps_89 ?_
    refine F_put dX5_keeps_90 rfl rfl (by first | assumption | rfl) rfl rfl rfl rfl ?_
    refine F_vret dX5_keeps_93 rfl ?_
    refine Qn hQ ?_
    simp only [keptF, hm7]
    rw [if_neg c6]
  · refine F_iconst (v := nI 0) dX5_keeps_9 rfl ?_
    refine F_istore_n dX5_keeps_10 (Nat.le_of_ble_eq_true rfl) ?_
    have hn8' : n = 8 := by omega
    subst hn8'
    refine F_sg (cpy_0 _ 118 (σ 118) 460 0).symm ?_
    refine l_keeps1 ?_ 0 (by omega)
    refine F_aload_n dX5_keeps_40 rfl ?_
    refine F_dup dX5_keeps_41 rfl ?_
    refine F_getE (v := nI 8) dX5_keeps_42 rfl rfl (by first | assumption | rfl) rfl (by rw [upR_n _ _ (by decide)]; exact hn) ?_
    refine F_iconst (v := nI 1) dX5_keeps_45 rfl ?_
    refine F_isubN dX5_keeps_46 (by omega) ?_
    refine F_put dX5_keeps_47 rfl rfl (by first | assumption | rfl) rfl rfl rfl rfl ?_
    refine F_iconst (v := nI 0) dX5_keeps_50 rfl ?_
    refine F_istore_n dX5_keeps_51 (Nat.le_of_ble_eq_true rfl) ?_
    refine F_sg (cpy_0 _ 118 (σ r) 0 (460 * 7)).symm ?_
    refine l_keeps2 (m := 7) hr hr8 (by rw [up_n _ _ _ hr6, upR_n _ _ hr8]) (up_s _ _ _ _) (by omega) ?_ 0 (by omega)
    refine F_aload_n dX5_keeps_83 rfl ?_
    refine F_dup dX5_keeps_84 rfl ?_
    refine F_getE (v := nI 7) dX5_keeps_85 rfl rfl (by first | assumption | rfl) rfl (by rw [upR_n _ _ (by decide)]; exact up_s _ _ _ _) ?_
    refine F_iconst (v := nI 1) dX5_keeps_88 rfl ?_
    refine F_iaddN dX5_keeps_89 ?_
    refine F_put dX5_keeps_90 rfl rfl (by first | assumption | rfl) rfl rfl rfl rfl ?_
    refine F_vret dX5_keeps_93 rfl ?_
    refine Qn hQ ?_
    rw [up_n _ _ _ (show (118 : Nat) ≠ 116 by decide), upR_s]
    simp only [keptF, if_true]
    funext b
    by_cases h1 : b = 116
    · subst h1
      simp [up, upR]
      funext j
      simp only [upd]
      split <;> rfl
    · by_cases h2 : b = 118
      · subst h2; simp [up, upR]
      · simp [up, upR, h1, h2]

end MT
end
section
/-! ===== the reference: group, load, set, camp, strike, undo ===== -/
section MT2
variable {G : mG} {d : Nat} {σ : mS}
theorem m_groupA (fit tired : Int32) (h : (inR fit (nI 0) (nI 9999) && inR tired (nI 0) (nI 9999)) = false) : mV G mX5_group (d + 1) [.ref 116, .int fit, .int tired] σ (some (.int (-1))) (up σ 116 0 (nI 0)) := by
  refine mV_of fun Q hQ => ?_
  refine F_aload_n dX5_group_0 rfl ?_
  refine F_iconst (v := nI 0) dX5_group_1 rfl ?_
  refine F_put dX5_group_2 rfl rfl (by first | assumption | rfl) rfl rfl rfl rfl ?_
  refine F_iload_n dX5_group_5 rfl ?_
  refine F_iconst (v := nI 0) dX5_group_6 rfl ?_
  refine F_sipush (v := nI 9999) dX5_group_7 rfl ?_
  refine F_cS3i (v_isIn (d := d) _ _ _) dX5_group_10 rfl rfl rfl (by decide) (Nat.le_of_ble_eq_true rfl) (by omega) ?_
  refine F_if_eqB (tgt := 27) dX5_group_13 rfl (fun c13 => ?_) (fun c13 => ?_)
  · refine F_iconst (v := (-1)) dX5_group_27 rfl ?_
    refine F_iret dX5_group_28 rfl ?_
    exact hQ
  · refine F_iload_n dX5_group_16 rfl ?_
    refine F_iconst (v := nI 0) dX5_group_17 rfl ?_
    refine F_sipush (v := nI 9999) dX5_group_18 rfl ?_
    refine F_cS3i (v_isIn (d := d) _ _ _) dX5_group_21 rfl rfl rfl (by decide) (Nat.le_of_ble_eq_true rfl) (by omega) ?_
    refine F_if_neB (tgt := 29) dX5_group_24 rfl (fun c24 => ?_) (fun c24 => ?_)
    · rw [c13, c24] at h
      cases h
    · refine F_iconst (v := (-1)) dX5_group_27 rfl ?_
      refine F_iret dX5_group_28 rfl ?_
      exact hQ

theorem m_groupB (fit tired : Int32) (h : (inR fit (nI 0) (nI 9999) && inR tired (nI 0) (nI 9999)) = true) (hn : σ 117 23 = nI 6) : mV G mX5_group (d + 1) [.ref 116, .int fit, .int tired] σ (some (.int (-2))) (up σ 116 0 (nI 0)) := by
  refine mV_of fun Q hQ => ?_
  refine F_aload_n dX5_group_0 rfl ?_
  refine F_iconst (v := nI 0) dX5_group_1 rfl ?_
  refine F_put dX5_group_2 rfl rfl (by first | assumption | rfl) rfl rfl rfl rfl ?_
  refine F_iload_n dX5_group_5 rfl ?_
  refine F_iconst (v := nI 0) dX5_group_6 rfl ?_
  refine F_sipush (v := nI 9999) dX5_group_7 rfl ?_
  refine F_cS3i (v_isIn (d := d) _ _ _) dX5_group_10 rfl rfl rfl (by decide) (Nat.le_of_ble_eq_true rfl) (by omega) ?_
  refine F_if_eqB (tgt := 27) dX5_group_13 rfl (fun c13 => ?_) (fun c13 => ?_)
  · rw [c13] at h
    cases h
  · refine F_iload_n dX5_group_16 rfl ?_
    refine F_iconst (v := nI 0) dX5_group_17 rfl ?_
    refine F_sipush (v := nI 9999) dX5_group_18 rfl ?_
    refine F_cS3i (v_isIn (d := d) _ _ _) dX5_group_21 rfl rfl rfl (by decide) (Nat.le_of_ble_eq_true rfl) (by omega) ?_
    refine F_if_neB (tgt := 29) dX5_group_24 rfl (fun c24 => ?_) (fun c24 => ?_)
    · refine F_aload_n dX5_group_29 rfl ?_
      refine F_cV0i (v_groups (d := d)) dX5_group_30 rfl rfl (by decide) (by first | assumption | rfl) rfl rfl rfl (by decide) (Nat.le_of_ble_eq_true rfl) (by omega) ?_
      refine F_top (y := nI 6) hn ?_
      refine F_bipush (v := nI 6) dX5_group_33 rfl ?_
      refine F_icmp_neN (tgt := 41) dX5_group_35 rfl (by omega) (by omega) (fun c35 => ?_) (fun c35 => ?_)
      · exact absurd rfl c35
      · refine F_bipush (v := (-2)) dX5_group_38 rfl ?_
        refine F_iret dX5_group_40 rfl ?_
        exact hQ
    · rw [c13, c24] at h
      cases h

theorem m_groupC (fit tired : Int32) (h : (inR fit (nI 0) (nI 9999) && inR tired (nI 0) (nI 9999)) = true) {n k : Nat} (hn : σ 117 23 = nI n) (h6 : n < 6) (hk : σ 116 4 = nI k) (hk8 : k ≤ 8) : mV G mX5_group (d + 2) [.ref 116, .int fit, .int tired] σ (some (.int (nI n))) (upR (up (upR (up σ 116 0 (nI 0)) 118 (keptF k (σ 118) (σ 117))) 116 4 (nI (min k 7 + 1))) 117 (comesF (σ 117) n fit tired)) := by
  refine mV_of fun Q hQ => ?_
  refine F_aload_n dX5_group_0 rfl ?_
  refine F_iconst (v := nI 0) dX5_group_1 rfl ?_
  refine F_put dX5_group_2 rfl rfl (by first | assumption | rfl) rfl rfl rfl rfl ?_
  refine F_iload_n dX5_group_5 rfl ?_
  refine F_iconst (v := nI 0) dX5_group_6 rfl ?_
  refine F_sipush (v := nI 9999) dX5_group_7 rfl ?_
  refine F_cS3i (v_isIn (d := d) _ _ _) dX5_group_10 rfl rfl rfl (by decide) (Nat.le_of_ble_eq_true rfl) (by omega) ?_
  refine F_if_eqB (tgt := 27) dX5_group_13 rfl (fun c13 => ?_) (fun c13 => ?_)
  · rw [c13] at h
    cases h
  · refine F_iload_n dX5_group_16 rfl ?_
    refine F_iconst (v := nI 0) dX5_group_17 rfl ?_
    refine F_sipush (v := nI 9999) dX5_group_18 rfl ?_
    refine F_cS3i (v_isIn (d := d) _ _ _) dX5_group_21 rfl rfl rfl (by decide) (Nat.le_of_ble_eq_true rfl) (by omega) ?_
    refine F_if_neB (tgt := 29) dX5_group_24 rfl (fun c24 => ?_) (fun c24 => ?_)
    · refine F_aload_n dX5_group_29 rfl ?_
      refine F_cV0i (v_groups (d := d)) dX5_group_30 rfl rfl (by decide) (by first | assumption | rfl) rfl rfl rfl (by decide) (Nat.le_of_ble_eq_true rfl) (by omega) ?_
      refine F_top (y := nI n) hn ?_
      refine F_bipush (v := nI 6) dX5_group_33 rfl ?_
      refine F_icmp_neN (tgt := 41) dX5_group_35 rfl (by omega) (by omega) (fun c35 => ?_) (fun c35 => ?_)
      · refine F_aload_n dX5_group_41 rfl ?_
        refine F_aload_n dX5_group_42 rfl ?_
        refine F_getr dX5_group_43 rfl rfl (by first | assumption | rfl) rfl ?_
        refine F_cV_r_v (v_keeps (d := d) (r := 117) rfl (by decide) (by decide) hk hk8) dX5_group_46 rfl rfl (by decide) (by first | assumption | rfl) rfl rfl rfl (by decide) (Nat.le_of_ble_eq_true rfl) (by omega) ?_
        refine F_aload_n dX5_group_49 rfl ?_
        refine F_iload_n dX5_group_50 rfl ?_
        refine F_iload_n dX5_group_51 rfl ?_
        refine F_cV2v (v_comes (d := d) _ _ hn h6) dX5_group_52 rfl rfl (by decide) (by first | assumption | rfl) rfl rfl rfl (by decide) (Nat.le_of_ble_eq_true rfl) (by omega) ?_
        refine F_aload_n dX5_group_55 rfl ?_
        refine F_cV0i (v_groups (d := d)) dX5_group_56 rfl rfl (by decide) (by first | assumption | rfl) rfl rfl rfl (by decide) (Nat.le_of_ble_eq_true rfl) (by omega) ?_
        refine F_top (y := nI (n + 1)) rfl ?_
        refine F_iconst (v := nI 1) dX5_group_59 rfl ?_
        refine F_isubN dX5_group_60 (by omega) ?_
        refine F_iret dX5_group_61 rfl ?_
        exact hQ
      · exact absurd c35 (by omega)
    · rw [c13, c24] at h
      cases h

theorem m_loadA (kind v : Int32) (h : (inR kind (nI 1) (nI 5) && inR v (nI 0) (nI 300)) = false) : mV G mX5_load (d + 1) [.ref 116, .int kind, .int v] σ (some (.int (nI 0))) (up σ 116 0 (nI 0)) := by
  refine mV_of fun Q hQ => ?_
  refine F_aload_n dX5_load_0 rfl ?_
  refine F_iconst (v := nI 0) dX5_load_1 rfl ?_
  refine F_put dX5_load_2 rfl rfl (by first | assumption | rfl) rfl rfl rfl rfl ?_
  refine F_iload_n dX5_load_5 rfl ?_
  refine F_iconst (v := nI 1) dX5_load_6 rfl ?_
  refine F_iconst (v := nI 5) dX5_load_7 rfl ?_
  refine F_cS3i (v_isIn (d := d) _ _ _) dX5_load_8 rfl rfl rfl (by decide) (Nat.le_of_ble_eq_true rfl) (by omega) ?_
  refine F_if_eqB (tgt := 37) dX5_load_11 rfl (fun c11 => ?_) (fun c11 => ?_)
  · refine F_iconst (v := nI 0) dX5_load_37 rfl ?_
    refine F_zret dX5_load_38 rfl (by first | exact Or.inl rfl | exact Or.inr rfl | exact bI_01 _) ?_
    exact hQ
  · refine F_iload_n dX5_load_14 rfl ?_
    refine F_iconst (v := nI 0) dX5_load_15 rfl ?_
    refine F_sipush (v := nI 300) dX5_load_16 rfl ?_
    refine F_cS3i (v_isIn (d := d) _ _ _) dX5_load_19 rfl rfl rfl (by decide) (Nat.le_of_ble_eq_true rfl) (by omega) ?_
    refine F_if_eqB (tgt := 37) dX5_load_22 rfl (fun c22 => ?_) (fun c22 => ?_)
    · refine F_iconst (v := nI 0) dX5_load_37 rfl ?_
      refine F_zret dX5_load_38 rfl (by first | exact Or.inl rfl | exact Or.inr rfl | exact bI_01 _) ?_
      exact hQ
    · rw [c11, c22] at h
      cases h

theorem m_loadB (v : Int32) {k : Nat} (hk : k < 6) (h : (inR (nI k) (nI 1) (nI 5) && inR v (nI 0) (nI 300)) = true) (hs : σ 117 k = v) : mV G mX5_load (d + 1) [.ref 116, .int (nI k), .int v] σ (some (.int (nI 0))) (up σ 116 0 (nI 0)) := by
  refine mV_of fun Q hQ => ?_
  refine F_aload_n dX5_load_0 rfl ?_
  refine F_iconst (v := nI 0) dX5_load_1 rfl ?_
  refine F_put dX5_load_2 rfl rfl (by first | assumption | rfl) rfl rfl rfl rfl ?_
  refine F_iload_n dX5_load_5 rfl ?_
  refine F_iconst (v := nI 1) dX5_load_6 rfl ?_
  refine F_iconst (v := nI 5) dX5_load_7 rfl ?_
  refine F_cS3i (v_isIn (d := d) _ _ _) dX5_load_8 rfl rfl rfl (by decide) (Nat.le_of_ble_eq_true rfl) (by omega) ?_
  refine F_if_eqB (tgt := 37) dX5_load_11 rfl (fun c11 => ?_) (fun c11 => ?_)
  · rw [c11] at h
    cases h
  · refine F_iload_n dX5_load_14 rfl ?_
    refine F_iconst (v := nI 0) dX5_load_15 rfl ?_
    refine F_sipush (v := nI 300) dX5_load_16 rfl ?_
    refine F_cS3i (v_isIn (d := d) _ _ _) dX5_load_19 rfl rfl rfl (by decide) (Nat.le_of_ble_eq_true rfl) (by omega) ?_
    refine F_if_eqB (tgt := 37) dX5_load_22 rfl (fun c22 => ?_) (fun c22 => ?_)
    · rw [c11, c22] at h
      cases h
    · refine F_aload_n dX5_load_25 rfl ?_
      refine F_getr dX5_load_26 rfl rfl (by first | assumption | rfl) rfl ?_
      refine F_iconst (v := nI 0) dX5_load_29 rfl ?_
      refine F_iload_n dX5_load_30 rfl ?_
      refine F_iaddN dX5_load_31 ?_
      refine F_ialdE (v := v) dX5_load_32 (by first | assumption | rfl) (by decide) (by omega) (by rw [Nat.zero_add]; exact hs) ?_
      refine F_iload_n dX5_load_33 rfl ?_
      refine F_icmp_ne (tgt := 39) dX5_load_34 rfl (fun c34 => ?_) (fun c34 => ?_)
      · exact absurd rfl c34
      · refine F_iconst (v := nI 0) dX5_load_37 rfl ?_
        refine F_zret dX5_load_38 rfl (by first | exact Or.inl rfl | exact Or.inr rfl | exact bI_01 _) ?_
        exact hQ

theorem m_loadC (v : Int32) {k : Nat} (hk : k < 6) (h : (inR (nI k) (nI 1) (nI 5) && inR v (nI 0) (nI 300)) = true) (hs : ¬ σ 117 k = v) : mV G mX5_load (d + 1) [.ref 116, .int (nI k), .int v] σ (some (.int (nI 1))) (upR (up σ 116 0 (nI 0)) 117 (upd (σ 117) k v)) := by
  refine mV_of fun Q hQ => ?_
  refine F_aload_n dX5_load_0 rfl ?_
  refine F_iconst (v := nI 0) dX5_load_1 rfl ?_
  refine F_put dX5_load_2 rfl rfl (by first | assumption | rfl) rfl rfl rfl rfl ?_
  refine F_iload_n dX5_load_5 rfl ?_
  refine F_iconst (v := nI 1) dX5_load_6 rfl ?_
  refine F_iconst (v := nI 5) dX5_load_7 rfl ?_
  refine F_cS3i (v_isIn (d := d) _ _ _) dX5_load_8 rfl rfl rfl (by decide) (Nat.le_of_ble_eq_true rfl) (by omega) ?_
  refine F_if_eqB (tgt := 37) dX5_load_11 rfl (fun c11 => ?_) (fun c11 => ?_)
  · rw [c11] at h
    cases h
  · refine F_iload_n dX5_load_14 rfl ?_
    refine F_iconst (v := nI 0) dX5_load_15 rfl ?_
    refine F_sipush (v := nI 300) dX5_load_16 rfl ?_
    refine F_cS3i (v_isIn (d := d) _ _ _) dX5_load_19 rfl rfl rfl (by decide) (Nat.le_of_ble_eq_true rfl) (by omega) ?_
    refine F_if_eqB (tgt := 37) dX5_load_22 rfl (fun c22 => ?_) (fun c22 => ?_)
    · rw [c11, c22] at h
      cases h
    · refine F_aload_n dX5_load_25 rfl ?_
      refine F_getr dX5_load_26 rfl rfl (by first | assumption | rfl) rfl ?_
      refine F_iconst (v := nI 0) dX5_load_29 rfl ?_
      refine F_iload_n dX5_load_30 rfl ?_
      refine F_iaddN dX5_load_31 ?_
      refine F_ialdE (v := σ 117 k) dX5_load_32 (by first | assumption | rfl) (by decide) (by omega) (by rw [Nat.zero_add]; rfl) ?_
      refine F_iload_n dX5_load_33 rfl ?_
      refine F_icmp_ne (tgt := 39) dX5_load_34 rfl (fun c34 => ?_) (fun c34 => ?_)
      · refine F_aload_n dX5_load_39 rfl ?_
        refine F_getr dX5_load_40 rfl rfl (by first | assumption | rfl) rfl ?_
        refine F_iconst (v := nI 0) dX5_load_43 rfl ?_
        refine F_iload_n dX5_load_44 rfl ?_
        refine F_iaddN dX5_load_45 ?_
        refine F_iload_n dX5_load_46 rfl ?_
        refine F_iast dX5_load_47 (by first | assumption | rfl) (by decide) (by omega) ?_
        refine F_iconst (v := nI 1) dX5_load_48 rfl ?_
        refine F_zret dX5_load_49 rfl (by first | exact Or.inl rfl | exact Or.inr rfl | exact bI_01 _) ?_
        rw [Nat.zero_add]
        exact hQ
      · exact absurd c34 hs

theorem m_setA (t v : Int32) (h : inR t (nI 0) (nI 7) = false) : mV G mX5_set (d + 1) [.ref 116, .int t, .int v] σ (some (.int (nI 0))) (up σ 116 0 (nI 0)) := by
  refine mV_of fun Q hQ => ?_
  refine F_aload_n dX5_set_0 rfl ?_
  refine F_iconst (v := nI 0) dX5_set_1 rfl ?_
  refine F_put dX5_set_2 rfl rfl (by first | assumption | rfl) rfl rfl rfl rfl ?_
  refine F_iload_n dX5_set_5 rfl ?_
  refine F_iconst (v := nI 0) dX5_set_6 rfl ?_
  refine F_bipush (v := nI 7) dX5_set_7 rfl ?_
  refine F_cS3i (v_isIn (d := d) _ _ _) dX5_set_9 rfl rfl rfl (by decide) (Nat.le_of_ble_eq_true rfl) (by omega) ?_
  refine F_if_eqB (tgt := 32) dX5_set_12 rfl (fun c12 => ?_) (fun c12 => ?_)
  · refine F_iconst (v := nI 0) dX5_set_32 rfl ?_
    refine F_zret dX5_set_33 rfl (by first | exact Or.inl rfl | exact Or.inr rfl | exact bI_01 _) ?_
    exact hQ
  · rw [c12] at h
    cases h

theorem m_setB (v : Int32) {k : Nat} (hk : k < 8) (h : inR v (mLeast.getD k 0) (mMost.getD k 0) = false) : mV G mX5_set (d + 2) [.ref 116, .int (nI k), .int v] σ (some (.int (nI 0))) (up σ 116 0 (nI 0)) := by
  refine mV_of fun Q hQ => ?_
  refine F_aload_n dX5_set_0 rfl ?_
  refine F_iconst (v := nI 0) dX5_set_1 rfl ?_
  refine F_put dX5_set_2 rfl rfl (by first | assumption | rfl) rfl rfl rfl rfl ?_
  refine F_iload_n dX5_set_5 rfl ?_
  refine F_iconst (v := nI 0) dX5_set_6 rfl ?_
  refine F_bipush (v := nI 7) dX5_set_7 rfl ?_
  refine F_cS3i (v_isIn (d := d) _ _ _) dX5_set_9 rfl rfl rfl (by decide) (Nat.le_of_ble_eq_true rfl) (by omega) ?_
  refine F_if_eqB (tgt := 32) dX5_set_12 rfl (fun c12 => ?_) (fun c12 => ?_)
  · refine F_iconst (v := nI 0) dX5_set_32 rfl ?_
    refine F_zret dX5_set_33 rfl (by first | exact Or.inl rfl | exact Or.inr rfl | exact bI_01 _) ?_
    exact hQ
  · refine F_iload_n dX5_set_15 rfl ?_
    refine F_iload_n dX5_set_16 rfl ?_
    refine F_cS2i (v_maySet (d := d) _ hk) dX5_set_17 rfl rfl rfl (by decide) (Nat.le_of_ble_eq_true rfl) (by omega) ?_
    refine F_if_eqB (tgt := 32) dX5_set_20 rfl (fun c20 => ?_) (fun c20 => ?_)
    · refine F_iconst (v := nI 0) dX5_set_32 rfl ?_
      refine F_zret dX5_set_33 rfl (by first | exact Or.inl rfl | exact Or.inr rfl | exact bI_01 _) ?_
      exact hQ
    · rw [c20] at h
      cases h

theorem m_setC (v : Int32) {k : Nat} (hk : k < 8) (h : inR v (mLeast.getD k 0) (mMost.getD k 0) = true) (hs : σ 117 (6 + k) = v) : mV G mX5_set (d + 2) [.ref 116, .int (nI k), .int v] σ (some (.int (nI 0))) (up σ 116 0 (nI 0)) := by
  refine mV_of fun Q hQ => ?_
  refine F_aload_n dX5_set_0 rfl ?_
  refine F_iconst (v := nI 0) dX5_set_1 rfl ?_
  refine F_put dX5_set_2 rfl rfl (by first | assumption | rfl) rfl rfl rfl rfl ?_
  refine F_iload_n dX5_set_5 rfl ?_
  refine F_iconst (v := nI 0) dX5_set_6 rfl ?_
  refine F_bipush (v := nI 7) dX5_set_7 rfl ?_
  refine F_cS3i (v_isIn (d := d) _ _ _) dX5_set_9 rfl rfl rfl (by decide) (Nat.le_of_ble_eq_true rfl) (by omega) ?_
  refine F_if_eqB (tgt := 32) dX5_set_12 rfl (fun c12 => ?_) (fun c12 => ?_)
  · rw [(show inR (nI k) (nI 0) (nI 7) = true by rw [inR_nI (by decide) (by decide) (by omega)]; simp; omega)] at c12
    cases c12
  · refine F_iload_n dX5_set_15 rfl ?_
    refine F_iload_n dX5_set_16 rfl ?_
    refine F_cS2i (v_maySet (d := d) _ hk) dX5_set_17 rfl rfl rfl (by decide) (Nat.le_of_ble_eq_true rfl) (by omega) ?_
    refine F_if_eqB (tgt := 32) dX5_set_20 rfl (fun c20 => ?_) (fun c20 => ?_)
    · rw [c20] at h
      cases h
    · refine F_aload_n dX5_set_23 rfl ?_
      refine F_iload_n dX5_set_24 rfl ?_
      refine F_cV1i (v_of (d := d) hk) dX5_set_25 rfl rfl (by decide) (by first | assumption | rfl) rfl rfl rfl (by decide) (Nat.le_of_ble_eq_true rfl) (by omega) ?_
      refine F_top (y := v) hs ?_
      refine F_iload_n dX5_set_28 rfl ?_
      refine F_icmp_ne (tgt := 34) dX5_set_29 rfl (fun c29 => ?_) (fun c29 => ?_)
      · exact absurd rfl c29
      · refine F_iconst (v := nI 0) dX5_set_32 rfl ?_
        refine F_zret dX5_set_33 rfl (by first | exact Or.inl rfl | exact Or.inr rfl | exact bI_01 _) ?_
        exact hQ

theorem m_setD (v : Int32) {k : Nat} (hk : k < 8) (h : inR v (mLeast.getD k 0) (mMost.getD k 0) = true) (hs : ¬ σ 117 (6 + k) = v) : mV G mX5_set (d + 2) [.ref 116, .int (nI k), .int v] σ (some (.int (nI 1))) (upR (up σ 116 0 (nI 0)) 117 (upd (σ 117) (6 + k) v)) := by
  refine mV_of fun Q hQ => ?_
  refine F_aload_n dX5_set_0 rfl ?_
  refine F_iconst (v := nI 0) dX5_set_1 rfl ?_
  refine F_put dX5_set_2 rfl rfl (by first | assumption | rfl) rfl rfl rfl rfl ?_
  refine F_iload_n dX5_set_5 rfl ?_
  refine F_iconst (v := nI 0) dX5_set_6 rfl ?_
  refine F_bipush (v := nI 7) dX5_set_7 rfl ?_
  refine F_cS3i (v_isIn (d := d) _ _ _) dX5_set_9 rfl rfl rfl (by decide) (Nat.le_of_ble_eq_true rfl) (by omega) ?_
  refine F_if_eqB (tgt := 32) dX5_set_12 rfl (fun c12 => ?_) (fun c12 => ?_)
  · rw [(show inR (nI k) (nI 0) (nI 7) = true by rw [inR_nI (by decide) (by decide) (by omega)]; simp; omega)] at c12
    cases c12
  · refine F_iload_n dX5_set_15 rfl ?_
    refine F_iload_n dX5_set_16 rfl ?_
    refine F_cS2i (v_maySet (d := d) _ hk) dX5_set_17 rfl rfl rfl (by decide) (Nat.le_of_ble_eq_true rfl) (by omega) ?_
    refine F_if_eqB (tgt := 32) dX5_set_20 rfl (fun c20 => ?_) (fun c20 => ?_)
    · rw [c20] at h
      cases h
    · refine F_aload_n dX5_set_23 rfl ?_
      refine F_iload_n dX5_set_24 rfl ?_
      refine F_cV1i (v_of (d := d) hk) dX5_set_25 rfl rfl (by decide) (by first | assumption | rfl) rfl rfl rfl (by decide) (Nat.le_of_ble_eq_true rfl) (by omega) ?_
      refine F_iload_n dX5_set_28 rfl ?_
      refine F_icmp_ne (tgt := 34) dX5_set_29 rfl (fun c29 => ?_) (fun c29 => ?_)
      · refine F_aload_n dX5_set_34 rfl ?_
        refine F_getr dX5_set_35 rfl rfl (by first | assumption | rfl) rfl ?_
        refine F_bipush (v := nI 6) dX5_set_38 rfl ?_
        refine F_iload_n dX5_set_40 rfl ?_
        refine F_iaddN dX5_set_41 ?_
        refine F_iload_n dX5_set_42 rfl ?_
        refine F_iast dX5_set_43 (by first | assumption | rfl) (by decide) (by omega) ?_
        refine F_iconst (v := nI 1) dX5_set_44 rfl ?_
        refine F_zret dX5_set_45 rfl (by first | exact Or.inl rfl | exact Or.inr rfl | exact bI_01 _) ?_
        exact hQ
      · exact absurd c29 hs

theorem m_campA (a b : Int32) (h : (dB a && dB b && decide (a ≤ b)) = false) : mV G mX5_camp (d + 2) [.ref 116, .int a, .int b] σ (some (.int (-1))) (up σ 116 0 (nI 0)) := by
  refine mV_of fun Q hQ => ?_
  refine F_aload_n dX5_camp_0 rfl ?_
  refine F_iconst (v := nI 0) dX5_camp_1 rfl ?_
  refine F_put dX5_camp_2 rfl rfl (by first | assumption | rfl) rfl rfl rfl rfl ?_
  refine F_iload_n dX5_camp_5 rfl ?_
  refine F_cS1i (v_isDay (d := d) _) dX5_camp_6 rfl rfl rfl (by decide) (Nat.le_of_ble_eq_true rfl) (by omega) ?_
  refine F_if_eqB (tgt := 24) dX5_camp_9 rfl (fun c9 => ?_) (fun c9 => ?_)
  · refine F_iconst (v := (-1)) dX5_camp_24 rfl ?_
    refine F_iret dX5_camp_25 rfl ?_
    exact hQ
  · refine F_iload_n dX5_camp_12 rfl ?_
    refine F_cS1i (v_isDay (d := d) _) dX5_camp_13 rfl rfl rfl (by decide) (Nat.le_of_ble_eq_true rfl) (by omega) ?_
    refine F_if_eqB (tgt := 24) dX5_camp_16 rfl (fun c16 => ?_) (fun c16 => ?_)
    · refine F_iconst (v := (-1)) dX5_camp_24 rfl ?_
      refine F_iret dX5_camp_25 rfl ?_
      exact hQ
    · refine F_iload_n dX5_camp_19 rfl ?_
      refine F_iload_n dX5_camp_20 rfl ?_
      refine F_icmp_ge (tgt := 26) dX5_camp_21 rfl (fun c21 => ?_) (fun c21 => ?_)
      · rw [c9, c16, decide_eq_true c21] at h
        cases h
      · refine F_iconst (v := (-1)) dX5_camp_24 rfl ?_
        refine F_iret dX5_camp_25 rfl ?_
        exact hQ

theorem m_campB (a b : Int32) (h : (dB a && dB b && decide (a ≤ b)) = true) (hn : σ 117 14 = nI 4) : mV G mX5_camp (d + 2) [.ref 116, .int a, .int b] σ (some (.int (-2))) (up σ 116 0 (nI 0)) := by
  refine mV_of fun Q hQ => ?_
  refine F_aload_n dX5_camp_0 rfl ?_
  refine F_iconst (v := nI 0) dX5_camp_1 rfl ?_
  refine F_put dX5_camp_2 rfl rfl (by first | assumption | rfl) rfl rfl rfl rfl ?_
  refine F_iload_n dX5_camp_5 rfl ?_
  refine F_cS1i (v_isDay (d := d) _) dX5_camp_6 rfl rfl rfl (by decide) (Nat.le_of_ble_eq_true rfl) (by omega) ?_
  refine F_if_eqB (tgt := 24) dX5_camp_9 rfl (fun c9 => ?_) (fun c9 => ?_)
  · rw [c9] at h
    cases h
  · refine F_iload_n dX5_camp_12 rfl ?_
    refine F_cS1i (v_isDay (d := d) _) dX5_camp_13 rfl rfl rfl (by decide) (Nat.le_of_ble_eq_true rfl) (by omega) ?_
    refine F_if_eqB (tgt := 24) dX5_camp_16 rfl (fun c16 => ?_) (fun c16 => ?_)
    · rw [c9, c16] at h
      cases h
    · refine F_iload_n dX5_camp_19 rfl ?_
      refine F_iload_n dX5_camp_20 rfl ?_
      refine F_icmp_ge (tgt := 26) dX5_camp_21 rfl (fun c21 => ?_) (fun c21 => ?_)
      · refine F_aload_n dX5_camp_26 rfl ?_
        refine F_cV0i (v_camps (d := d)) dX5_camp_27 rfl rfl (by decide) (by first | assumption | rfl) rfl rfl rfl (by decide) (Nat.le_of_ble_eq_true rfl) (by omega) ?_
        refine F_top (y := nI 4) hn ?_
        refine F_iconst (v := nI 4) dX5_camp_30 rfl ?_
        refine F_icmp_neN (tgt := 37) dX5_camp_31 rfl (by omega) (by omega) (fun c31 => ?_) (fun c31 => ?_)
        · exact absurd rfl c31
        · refine F_bipush (v := (-2)) dX5_camp_34 rfl ?_
          refine F_iret dX5_camp_36 rfl ?_
          exact hQ
      · rw [decide_eq_false c21, Bool.and_false] at h
        cases h

theorem m_campC (a b : Int32) (h : (dB a && dB b && decide (a ≤ b)) = true) {n k : Nat} (hn : σ 117 14 = nI n) (h4 : n < 4) (hk : σ 116 4 = nI k) (hk8 : k ≤ 8) : mV G mX5_camp (d + 2) [.ref 116, .int a, .int b] σ (some (.int (nI n))) (upR (up (upR (up σ 116 0 (nI 0)) 118 (keptF k (σ 118) (σ 117))) 116 4 (nI (min k 7 + 1))) 117 (campComesF (σ 117) n a b)) := by
  refine mV_of fun Q hQ => ?_
  refine F_aload_n dX5_camp_0 rfl ?_
  refine F_iconst (v := nI 0) dX5_camp_1 rfl ?_
  refine F_put dX5_camp_2 rfl rfl (by first | assumption | rfl) rfl rfl rfl rfl ?_
  refine F_iload_n dX5_camp_5 rfl ?_
  refine F_cS1i (v_isDay (d := d) _) dX5_camp_6 rfl rfl rfl (by decide) (Nat.le_of_ble_eq_true rfl) (by omega) ?_
  refine F_if_eqB (tgt := 24) dX5_camp_9 rfl (fun c9 => ?_) (fun c9 => ?_)
  · rw [c9] at h
    cases h
  · refine F_iload_n dX5_camp_12 rfl ?_
    refine F_cS1i (v_isDay (d := d) _) dX5_camp_13 rfl rfl rfl (by decide) (Nat.le_of_ble_eq_true rfl) (by omega) ?_
    refine F_if_eqB (tgt := 24) dX5_camp_16 rfl (fun c16 => ?_) (fun c16 => ?_)
    · rw [c9, c16] at h
      cases h
    · refine F_iload_n dX5_camp_19 rfl ?_
      refine F_iload_n dX5_camp_20 rfl ?_
      refine F_icmp_ge (tgt := 26) dX5_camp_21 rfl (fun c21 => ?_) (fun c21 => ?_)
      · refine F_aload_n dX5_camp_26 rfl ?_
        refine F_cV0i (v_camps (d := d)) dX5_camp_27 rfl rfl (by decide) (by first | assumption | rfl) rfl rfl rfl (by decide) (Nat.le_of_ble_eq_true rfl) (by omega) ?_
        refine F_top (y := nI n) hn ?_
        refine F_iconst (v := nI 4) dX5_camp_30 rfl ?_
        refine F_icmp_neN (tgt := 37) dX5_camp_31 rfl (by omega) (by omega) (fun c31 => ?_) (fun c31 => ?_)
        · refine F_aload_n dX5_camp_37 rfl ?_
          refine F_aload_n dX5_camp_38 rfl ?_
          refine F_getr dX5_camp_39 rfl rfl (by first | assumption | rfl) rfl ?_
          refine F_cV_r_v (v_keeps (d := d) (r := 117) rfl (by decide) (by decide) hk hk8) dX5_camp_42 rfl rfl (by decide) (by first | assumption | rfl) rfl rfl rfl (by decide) (Nat.le_of_ble_eq_true rfl) (by omega) ?_
          refine F_aload_n dX5_camp_45 rfl ?_
          refine F_iload_n dX5_camp_46 rfl ?_
          refine F_iload_n dX5_camp_47 rfl ?_
          refine F_cV2v (v_campComes (d := d) _ _ hn h4) dX5_camp_48 rfl rfl (by decide) (by first | assumption | rfl) rfl rfl rfl (by decide) (Nat.le_of_ble_eq_true rfl) (by omega) ?_
          refine F_aload_n dX5_camp_51 rfl ?_
          refine F_cV0i (v_camps (d := d)) dX5_camp_52 rfl rfl (by decide) (by first | assumption | rfl) rfl rfl rfl (by decide) (Nat.le_of_ble_eq_true rfl) (by omega) ?_
          refine F_top (y := nI (n + 1)) rfl ?_
          refine F_iconst (v := nI 1) dX5_camp_55 rfl ?_
          refine F_isubN dX5_camp_56 (by omega) ?_
          refine F_iret dX5_camp_57 rfl ?_
          exact hQ
        · exact absurd c31 (by omega)
      · rw [decide_eq_false c21, Bool.and_false] at h
        cases h

/-- the row without a camp -/
def strikesF (f : Nat → Int32) (c n : Nat) : Nat → Int32 := upd (va_cpy f f (17 + 2 * c) (15 + 2 * c) (2 * (n - 1 - c))) 14 (nI (n - 1))
theorem l_strikes {c n : Nat} (hn : σ 117 14 = nI n) (hc : c < n) (h4 : n ≤ 4) {Q : Option Value → mS → Prop} (hk : mF G mX5_strikes (d + 1) 42 [some (.ref 116), some (.int (nI c)), some (.int (nI (15 + 2 * c + 2 * (n - 1 - c))))] [] (upR σ 117 (va_cpy (σ 117) (σ 117) (17 + 2 * c) (15 + 2 * c) (2 * (n - 1 - c)))) Q) :
    ∀ e, e ≤ 2 * (n - 1 - c) → mF G mX5_strikes (d + 1) 7 [some (.ref 116), some (.int (nI c)), some (.int (nI (15 + 2 * c + e)))] [] (upR σ 117 (va_cpy (σ 117) (σ 117) (17 + 2 * c) (15 + 2 * c) e)) Q := by
  refine loopUp (2 * (n - 1 - c)) (fun e he ih => ?_)
  refine F_iload_n dX5_strikes_7 rfl ?_
  refine F_bipush (v := nI 15) dX5_strikes_8 rfl ?_
  refine F_iconst (v := nI 2) dX5_strikes_10 rfl ?_
  refine F_aload_n dX5_strikes_11 rfl ?_
  refine F_cV0i (v_camps (d := d)) dX5_strikes_12 rfl rfl (by decide) (by first | assumption | rfl) rfl rfl rfl (by decide) (Nat.le_of_ble_eq_true rfl) (by omega) ?_
  refine F_top (y := nI n) (by rw [upR_s]; simp only [va_cpy]; rw [if_neg (by omega)]; exact hn) ?_
  refine F_imulN dX5_strikes_15 ?_
  refine F_iaddN dX5_strikes_16 ?_
  refine F_iconst (v := nI 2) dX5_strikes_17 rfl ?_
  refine F_isubN dX5_strikes_18 (by omega) ?_
  refine F_icmp_geN (tgt := 42) dX5_strikes_19 rfl (by omega) (by omega) (fun c19 => ?_) (fun c19 => ?_)
  · have : e = 2 * (n - 1 - c) := by omega
    subst this
    exact hk
  · refine F_aload_n dX5_strikes_22 rfl ?_
    refine F_getr dX5_strikes_23 rfl rfl (by first | assumption | rfl) rfl ?_
    refine F_iload_n dX5_strikes_26 rfl ?_
    refine F_aload_n dX5_strikes_27 rfl ?_
    refine F_getr dX5_strikes_28 rfl rfl (by first | assumption | rfl) rfl ?_
    refine F_iload_n dX5_strikes_31 rfl ?_
    refine F_iconst (v := nI 2) dX5_strikes_32 rfl ?_
    refine F_iaddN dX5_strikes_33 ?_
    refine F_ialdE (v := σ 117 (17 + 2 * c + e)) dX5_strikes_34 (by first | assumption | rfl) (by decide) (by omega) (by rw [upR_s]; simp only [va_cpy]; rw [if_neg (by omega)]; congr 1; omega) ?_
    refine F_iast dX5_strikes_35 (by first | assumption | rfl) (by decide) (by omega) ?_
    refine F_iincN dX5_strikes_36 rfl ?_
    refine F_goto (tgt := 7) dX5_strikes_39 rfl ?_
    refine F_sg (up_cpy _ _ _ _ rfl rfl) ?_
    exact ih (by omega)

theorem v_strikes {c n : Nat} (hn : σ 117 14 = nI n) (hc : c < n) (h4 : n ≤ 4) : mV G mX5_strikes (d + 1) [.ref 116, .int (nI c)] σ none (upR σ 117 (strikesF (σ 117) c n)) := by
  refine mV_of fun Q hQ => ?_
  refine F_bipush (v := nI 15) dX5_strikes_0 rfl ?_
  refine F_iconst (v := nI 2) dX5_strikes_2 rfl ?_
  refine F_iload_n dX5_strikes_3 rfl ?_
  refine F_imulN dX5_strikes_4 ?_
  refine F_iaddN dX5_strikes_5 ?_
  refine F_istore_n dX5_strikes_6 (Nat.le_of_ble_eq_true rfl) ?_
  refine F_sg (cpy_0 _ 117 (σ 117) (17 + 2 * c) (15 + 2 * c)).symm ?_
  refine l_strikes hn hc h4 ?_ 0 (by omega)
  refine F_aload_n dX5_strikes_42 rfl ?_
  refine F_getr dX5_strikes_43 rfl rfl (by first | assumption | rfl) rfl ?_
  refine F_bipush (v := nI 14) dX5_strikes_46 rfl ?_
  refine F_dup2 dX5_strikes_48 rfl rfl ?_
  refine F_ialdE (v := nI n) dX5_strikes_49 (by first | assumption | rfl) (by decide) (by omega) (by rw [upR_s]; simp only [va_cpy]; rw [if_neg (by omega)]; exact hn) ?_
  refine F_iconst (v := nI 1) dX5_strikes_50 rfl ?_
  refine F_isubN dX5_strikes_51 (by omega) ?_
  refine F_iast dX5_strikes_52 (by first | assumption | rfl) (by decide) (by omega) ?_
  refine F_vret dX5_strikes_53 rfl ?_
  refine Qn hQ ?_
  rw [up_upR]
  rfl

theorem m_strikeA (c : Int32) {n : Nat} (hn : σ 117 14 = nI n) (h4 : n ≤ 4) (h : grB (σ 117 14) c = false) : mV G mX5_strike (d + 1) [.ref 116, .int c] σ (some (.int (-1))) (up σ 116 0 (nI 0)) := by
  refine mV_of fun Q hQ => ?_
  refine F_aload_n dX5_strike_0 rfl ?_
  refine F_iconst (v := nI 0) dX5_strike_1 rfl ?_
  refine F_put dX5_strike_2 rfl rfl (by first | assumption | rfl) rfl rfl rfl rfl ?_
  refine F_iload_n dX5_strike_5 rfl ?_
  refine F_iconst (v := nI 0) dX5_strike_6 rfl ?_
  refine F_aload_n dX5_strike_7 rfl ?_
  refine F_cV0i (v_camps (d := d)) dX5_strike_8 rfl rfl (by decide) (by first | assumption | rfl) rfl rfl rfl (by decide) (Nat.le_of_ble_eq_true rfl) (by omega) ?_
  refine F_top (y := nI n) hn ?_
  refine F_iconst (v := nI 1) dX5_strike_11 rfl ?_
  refine F_isub dX5_strike_12 ?_
  refine F_cS3i (v_isIn (d := d) _ _ _) dX5_strike_13 rfl rfl rfl (by decide) (Nat.le_of_ble_eq_true rfl) (by omega) ?_
  refine F_if_neB (tgt := 21) dX5_strike_16 rfl (fun c16 => ?_) (fun c16 => ?_)
  · rw [inR_grp c (by omega), ← hn, h] at c16
    cases c16
  · refine F_iconst (v := (-1)) dX5_strike_19 rfl ?_
    refine F_iret dX5_strike_20 rfl ?_
    exact hQ

theorem m_strikeB {c n k : Nat} (hn : σ 117 14 = nI n) (hc : c < n) (h4 : n ≤ 4) (hk : σ 116 4 = nI k) (hk8 : k ≤ 8) : mV G mX5_strike (d + 2) [.ref 116, .int (nI c)] σ (some (.int (nI (n - 1)))) (upR (up (upR (up σ 116 0 (nI 0)) 118 (keptF k (σ 118) (σ 117))) 116 4 (nI (min k 7 + 1))) 117 (strikesF (σ 117) c n)) := by
  refine mV_of fun Q hQ => ?_
  refine F_aload_n dX5_strike_0 rfl ?_
  refine F_iconst (v := nI 0) dX5_strike_1 rfl ?_
  refine F_put dX5_strike_2 rfl rfl (by first | assumption | rfl) rfl rfl rfl rfl ?_
  refine F_iload_n dX5_strike_5 rfl ?_
  refine F_iconst (v := nI 0) dX5_strike_6 rfl ?_
  refine F_aload_n dX5_strike_7 rfl ?_
  refine F_cV0i (v_camps (d := d)) dX5_strike_8 rfl rfl (by decide) (by first | assumption | rfl) rfl rfl rfl (by decide) (Nat.le_of_ble_eq_true rfl) (by omega) ?_
  refine F_top (y := nI n) hn ?_
  refine F_iconst (v := nI 1) dX5_strike_11 rfl ?_
  refine F_isub dX5_strike_12 ?_
  refine F_cS3i (v_isIn (d := d) _ _ _) dX5_strike_13 rfl rfl rfl (by decide) (Nat.le_of_ble_eq_true rfl) (by omega) ?_
  refine F_if_neB (tgt := 21) dX5_strike_16 rfl (fun c16 => ?_) (fun c16 => ?_)
  · refine F_aload_n dX5_strike_21 rfl ?_
    refine F_aload_n dX5_strike_22 rfl ?_
    refine F_getr dX5_strike_23 rfl rfl (by first | assumption | rfl) rfl ?_
    refine F_cV_r_v (v_keeps (d := d) (r := 117) rfl (by decide) (by decide) hk hk8) dX5_strike_26 rfl rfl (by decide) (by first | assumption | rfl) rfl rfl rfl (by decide) (Nat.le_of_ble_eq_true rfl) (by omega) ?_
    refine F_aload_n dX5_strike_29 rfl ?_
    refine F_iload_n dX5_strike_30 rfl ?_
    refine F_cV1v (v_strikes (d := d) hn hc h4) dX5_strike_31 rfl rfl (by decide) (by first | assumption | rfl) rfl rfl rfl (by decide) (Nat.le_of_ble_eq_true rfl) (by omega) ?_
    refine F_aload_n dX5_strike_34 rfl ?_
    refine F_cV0i (v_camps (d := d)) dX5_strike_35 rfl rfl (by decide) (by first | assumption | rfl) rfl rfl rfl (by decide) (Nat.le_of_ble_eq_true rfl) (by omega) ?_
    refine F_iret dX5_strike_38 rfl ?_
    exact hQ
  · rw [inR_grp _ (by omega), grB_nI hc (by omega)] at c16
    cases c16

theorem l_undo {k : Nat} (hk7 : k ≤ 7) (hk : σ 116 4 = nI k) {Q : Option Value → mS → Prop} (hx : mF G mX5_undo d 60 [some (.ref 116), some (.int (nI 460))] [] (upR σ 117 (va_cpy (σ 118) (σ 117) (460 * k) 0 460)) Q) :
    ∀ e, e ≤ 460 → mF G mX5_undo d 26 [some (.ref 116), some (.int (nI e))] [] (upR σ 117 (va_cpy (σ 118) (σ 117) (460 * k) 0 e)) Q := by
  refine loopUp 460 (fun e he ih => ?_)
  refine F_iload_n dX5_undo_26 rfl ?_
  refine F_sipush (v := nI 460) dX5_undo_27 rfl ?_
  refine F_icmp_geN (tgt := 60) dX5_undo_30 rfl (by omega) (by omega) (fun c30 => ?_) (fun c30 => ?_)
  · have : e = 460 := by omega
    subst this
    exact hx
  · refine F_aload_n dX5_undo_33 rfl ?_
    refine F_getr dX5_undo_34 rfl rfl (by first | assumption | rfl) rfl ?_
    refine F_iload_n dX5_undo_37 rfl ?_
    refine F_aload_n dX5_undo_38 rfl ?_
    refine F_getr dX5_undo_39 rfl rfl (by first | assumption | rfl) rfl ?_
    refine F_sipush (v := nI 460) dX5_undo_42 rfl ?_
    refine F_aload_n dX5_undo_45 rfl ?_
    refine F_getE (v := nI k) dX5_undo_46 rfl rfl (by first | assumption | rfl) rfl hk ?_
    refine F_imulN dX5_undo_49 ?_
    refine F_iload_n dX5_undo_50 rfl ?_
    refine F_iaddN dX5_undo_51 ?_
    refine F_iald dX5_undo_52 (by first | assumption | rfl) (by decide) (by omega) ?_
    refine F_iast dX5_undo_53 (by first | assumption | rfl) (by decide) (by omega) ?_
    refine F_iincN dX5_undo_54 rfl ?_
    refine F_goto (tgt := 26) dX5_undo_57 rfl ?_
    refine F_sg (up_cpy _ _ _ _ (Nat.zero_add e).symm rfl) ?_
    exact ih (by omega)

theorem m_undoA (hk : σ 116 4 = nI 0) : mV G mX5_undo d [.ref 116] σ (some (.int (-1))) (up σ 116 0 (nI 0)) := by
  refine mV_of fun Q hQ => ?_
  refine F_aload_n dX5_undo_0 rfl ?_
  refine F_iconst (v := nI 0) dX5_undo_1 rfl ?_
  refine F_put dX5_undo_2 rfl rfl (by first | assumption | rfl) rfl rfl rfl rfl ?_
  refine F_aload_n dX5_undo_5 rfl ?_
  refine F_getE (v := nI 0) dX5_undo_6 rfl rfl (by first | assumption | rfl) rfl hk ?_
  refine F_if_neN (tgt := 14) dX5_undo_9 rfl (by omega) (fun c9 => ?_) (fun c9 => ?_)
  · exact absurd rfl c9
  · refine F_iconst (v := (-1)) dX5_undo_12 rfl ?_
    refine F_iret dX5_undo_13 rfl ?_
    exact hQ

theorem m_undoB {k : Nat} (hk : σ 116 4 = nI (k + 1)) (hk7 : k ≤ 7) : mV G mX5_undo d [.ref 116] σ (some (.int (nI k))) (upR (up (up σ 116 0 (nI 0)) 116 4 (nI k)) 117 (va_cpy (σ 118) (σ 117) (460 * k) 0 460)) := by
  refine mV_of fun Q hQ => ?_
  refine F_aload_n dX5_undo_0 rfl ?_
  refine F_iconst (v := nI 0) dX5_undo_1 rfl ?_
  refine F_put dX5_undo_2 rfl rfl (by first | assumption | rfl) rfl rfl rfl rfl ?_
  refine F_aload_n dX5_undo_5 rfl ?_
  refine F_getE (v := nI (k + 1)) dX5_undo_6 rfl rfl (by first | assumption | rfl) rfl hk ?_
  refine F_if_neN (tgt := 14) dX5_undo_9 rfl (by omega) (fun c9 => ?_) (fun c9 => ?_)
  · refine F_aload_n dX5_undo_14 rfl ?_
    refine F_dup dX5_undo_15 rfl ?_
    refine F_getE (v := nI (k + 1)) dX5_undo_16 rfl rfl (by first | assumption | rfl) rfl hk ?_
    refine F_iconst (v := nI 1) dX5_undo_19 rfl ?_
    refine F_isubN dX5_undo_20 (by omega) ?_
    refine F_put dX5_undo_21 rfl rfl (by first | assumption | rfl) rfl rfl rfl rfl ?_
    refine F_iconst (v := nI 0) dX5_undo_24 rfl ?_
    refine F_istore_n dX5_undo_25 (Nat.le_of_ble_eq_true rfl) ?_
    refine F_sg (cpy_0 _ 117 (σ 118) (460 * k) 0).symm ?_
    refine l_undo hk7 (up_s _ _ _ _) ?_ 0 (by omega)
    refine F_aload_n dX5_undo_60 rfl ?_
    refine F_getE (v := nI k) dX5_undo_61 rfl rfl (by first | assumption | rfl) rfl rfl ?_
    refine F_iret dX5_undo_64 rfl ?_
    exact hQ
  · exact absurd c9 (by omega)

end MT2
end
section
/-! ===== the reference: plan, count, camped, the tape ===== -/
section MP
variable {G : mG} {d : Nat} {σ : mS}
theorem m_planA (g a b kind : Int32) {n : Nat} (hn : σ 117 23 = nI n) (h6 : n < 2 ^ 31) (h : (grB (σ 117 23) g && dB a && dB b && decide (a ≤ b) && inR kind (nI 0) (nI 5)) = false) : mV G mX5_plan (d + 4) [.ref 116, .int g, .int a, .int b, .int kind] σ (some (.int (-1))) (up σ 116 0 (nI 0)) := by
  refine mV_of fun Q hQ => ?_
  refine F_aload_n dX5_plan_0 rfl ?_
  refine F_iconst (v := nI 0) dX5_plan_1 rfl ?_
  refine F_put dX5_plan_2 rfl rfl (by first | assumption | rfl) rfl rfl rfl rfl ?_
  refine F_aload_n dX5_plan_5 rfl ?_
  refine F_iload_n dX5_plan_6 rfl ?_
  refine F_iload_n dX5_plan_7 rfl ?_
  refine F_iload_n dX5_plan_8 rfl ?_
  refine F_cV3i (v_areDays (d := d) _ _ _ hn h6) dX5_plan_9 rfl rfl (by decide) (by first | assumption | rfl) rfl rfl rfl (by decide) (Nat.le_of_ble_eq_true rfl) (by omega) ?_
  refine F_if_eqB (tgt := 25) dX5_plan_12 rfl (fun c12 => ?_) (fun c12 => ?_)
  · refine F_iconst (v := (-1)) dX5_plan_25 rfl ?_
    refine F_iret dX5_plan_26 rfl ?_
    exact hQ
  · refine F_iload dX5_plan_15 rfl ?_
    refine F_iconst (v := nI 0) dX5_plan_17 rfl ?_
    refine F_iconst (v := nI 5) dX5_plan_18 rfl ?_
    refine F_cS3i (v_isIn (d := d) _ _ _) dX5_plan_19 rfl rfl rfl (by decide) (Nat.le_of_ble_eq_true rfl) (by omega) ?_
    refine F_if_neB (tgt := 27) dX5_plan_22 rfl (fun c22 => ?_) (fun c22 => ?_)
    · have c12 : (grB (σ 117 23) g && dB a && dB b && decide (a ≤ b)) = true := c12
      rw [c12, c22] at h
      cases h
    · refine F_iconst (v := (-1)) dX5_plan_25 rfl ?_
      refine F_iret dX5_plan_26 rfl ?_
      exact hQ

theorem l_plan1 {g a b : Nat} {kind : Int32} (hg : g < 6) (hab : a ≤ b) (hb : b < 70) {Q : Option Value → mS → Prop} (hk : mF G mX5_plan (d + 1) 67 [some (.ref 116), some (.int (nI g)), some (.int (nI a)), some (.int (nI b)), some (.int kind), some (.int (nI (cntB (fun i => decide (¬ σ 117 (40 + 70 * g + (a + i)) = kind)) (b + 1 - a)))), some (.int (nI (b + 1)))] [] σ Q) :
    ∀ e, e ≤ b + 1 - a → mF G mX5_plan (d + 1) 33 [some (.ref 116), some (.int (nI g)), some (.int (nI a)), some (.int (nI b)), some (.int kind), some (.int (nI (cntB (fun i => decide (¬ σ 117 (40 + 70 * g + (a + i)) = kind)) e))), some (.int (nI (a + e)))] [] σ Q := by
  refine loopUp (b + 1 - a) (fun e he ih => ?_)
  have hle := cntB_le (fun i => decide (¬ σ 117 (40 + 70 * g + (a + i)) = kind)) e
  refine F_iload dX5_plan_33 rfl ?_
  refine F_iload_n dX5_plan_35 rfl ?_
  refine F_icmp_gtN (tgt := 67) dX5_plan_36 rfl (by omega) (by omega) (fun c36 => ?_) (fun c36 => ?_)
  · have e1 : e = b + 1 - a := by omega
    subst e1
    have e2 : a + (b + 1 - a) = b + 1 := by omega
    rw [e2]
    exact hk
  · refine F_iload dX5_plan_39 rfl ?_
    refine F_aload_n dX5_plan_41 rfl ?_
    refine F_iload_n dX5_plan_42 rfl ?_
    refine F_iload dX5_plan_43 rfl ?_
    refine F_cV2i (v_kindOf (d := d) hg (by omega)) dX5_plan_45 rfl rfl (by decide) (by first | assumption | rfl) rfl rfl rfl (by decide) (Nat.le_of_ble_eq_true rfl) (by omega) ?_
    refine F_iload dX5_plan_48 rfl ?_
    refine F_icmp_eq (tgt := 57) dX5_plan_50 rfl (fun c50 => ?_) (fun c50 => ?_)
    · refine F_iconst (v := nI 0) dX5_plan_57 rfl ?_
      refine F_iaddN dX5_plan_58 ?_
      refine F_istore dX5_plan_59 (Nat.le_of_ble_eq_true rfl) ?_
      refine F_iincN dX5_plan_61 rfl ?_
      refine F_goto (tgt := 33) dX5_plan_64 rfl ?_
      have ih := ih (by omega)
      simp only [cntB] at ih
      first
        | (rw [if_pos (by rw [decide_eq_true_eq]; exact c50)] at ih; exact ih)
        | (rw [if_neg (by rw [decide_eq_true_eq]; exact fun z => z c50)] at ih; exact ih)
    · refine F_iconst (v := nI 1) dX5_plan_53 rfl ?_
      refine F_goto (tgt := 58) dX5_plan_54 rfl ?_
      refine F_iaddN dX5_plan_58 ?_
      refine F_istore dX5_plan_59 (Nat.le_of_ble_eq_true rfl) ?_
      refine F_iincN dX5_plan_61 rfl ?_
      refine F_goto (tgt := 33) dX5_plan_64 rfl ?_
      have ih := ih (by omega)
      simp only [cntB] at ih
      first
        | (rw [if_pos (by rw [decide_eq_true_eq]; exact c50)] at ih; exact ih)
        | (rw [if_neg (by rw [decide_eq_true_eq]; exact fun z => z c50)] at ih; exact ih)

theorem l_plan2 {g a b : Nat} {kind many : Int32} (hg : g < 6) (hab : a ≤ b) (hb : b < 70) {Q : Option Value → mS → Prop} (hk : mF G mX5_plan d 112 [some (.ref 116), some (.int (nI g)), some (.int (nI a)), some (.int (nI b)), some (.int kind), some (.int many), some (.int (nI (b + 1)))] [] (upR σ 117 (fillR (σ 117) (40 + 70 * g + a) (40 + 70 * g + a + (b + 1 - a)) kind)) Q) :
    ∀ e, e ≤ b + 1 - a → mF G mX5_plan d 83 [some (.ref 116), some (.int (nI g)), some (.int (nI a)), some (.int (nI b)), some (.int kind), some (.int many), some (.int (nI (a + e)))] [] (upR σ 117 (fillR (σ 117) (40 + 70 * g + a) (40 + 70 * g + a + e) kind)) Q := by
  refine loopUp (b + 1 - a) (fun e he ih => ?_)
  refine F_iload dX5_plan_83 rfl ?_
  refine F_iload_n dX5_plan_85 rfl ?_
  refine F_icmp_gtN (tgt := 112) dX5_plan_86 rfl (by omega) (by omega) (fun c86 => ?_) (fun c86 => ?_)
  · have e1 : e = b + 1 - a := by omega
    subst e1
    have e2 : a + (b + 1 - a) = b + 1 := by omega
    rw [e2]
    exact hk
  · refine F_aload_n dX5_plan_89 rfl ?_
    refine F_getr dX5_plan_90 rfl rfl (by first | assumption | rfl) rfl ?_
    refine F_bipush (v := nI 40) dX5_plan_93 rfl ?_
    refine F_bipush (v := nI 70) dX5_plan_95 rfl ?_
    refine F_iload_n dX5_plan_97 rfl ?_
    refine F_imulN dX5_plan_98 ?_
    refine F_iaddN dX5_plan_99 ?_
    refine F_iload dX5_plan_100 rfl ?_
    refine F_iaddN dX5_plan_102 ?_
    refine F_iload dX5_plan_103 rfl ?_
    refine F_iast dX5_plan_105 (by first | assumption | rfl) (by decide) (by omega) ?_
    refine F_iincN dX5_plan_106 rfl ?_
    refine F_goto (tgt := 83) dX5_plan_109 rfl ?_
    have e3 : 40 + 70 * g + (a + e) = 40 + 70 * g + a + e := by omega
    rw [e3]
    refine F_sg (up_fill _ _ _ _ (by omega)) ?_
    exact ih (by omega)

theorem m_planB {g a b n : Nat} {kind : Int32} (hn : σ 117 23 = nI n) (h6 : n ≤ 6) (hg : g < n) (hab : a ≤ b) (hb : b < 70) (h : inR kind (nI 0) (nI 5) = true) (h0 : cntB (fun i => decide (¬ σ 117 (40 + 70 * g + (a + i)) = kind)) (b + 1 - a) = 0) : mV G mX5_plan (d + 4) [.ref 116, .int (nI g), .int (nI a), .int (nI b), .int kind] σ (some (.int (nI 0))) (upR (up σ 116 0 (nI 0)) 117 (fillR (σ 117) (40 + 70 * g + a) (40 + 70 * g + a + (b + 1 - a)) kind)) := by
  refine mV_of fun Q hQ => ?_
  refine F_aload_n dX5_plan_0 rfl ?_
  refine F_iconst (v := nI 0) dX5_plan_1 rfl ?_
  refine F_put dX5_plan_2 rfl rfl (by first | assumption | rfl) rfl rfl rfl rfl ?_
  refine F_aload_n dX5_plan_5 rfl ?_
  refine F_iload_n dX5_plan_6 rfl ?_
  refine F_iload_n dX5_plan_7 rfl ?_
  refine F_iload_n dX5_plan_8 rfl ?_
  refine F_cV3i (v_areDays (d := d) _ _ _ hn (by omega)) dX5_plan_9 rfl rfl (by decide) (by first | assumption | rfl) rfl rfl rfl (by decide) (Nat.le_of_ble_eq_true rfl) (by omega) ?_
  refine F_if_eqB (tgt := 25) dX5_plan_12 rfl (fun c12 => ?_) (fun c12 => ?_)
  · rw [show up σ 116 0 (nI 0) 117 23 = nI n from hn, grB_nI hg (by omega), dB_nI (by omega), dB_nI hb, decide_eq_true (nI_le hab (by omega))] at c12
    cases c12
  · refine F_iload dX5_plan_15 rfl ?_
    refine F_iconst (v := nI 0) dX5_plan_17 rfl ?_
    refine F_iconst (v := nI 5) dX5_plan_18 rfl ?_
    refine F_cS3i (v_isIn (d := d) _ _ _) dX5_plan_19 rfl rfl rfl (by decide) (Nat.le_of_ble_eq_true rfl) (by omega) ?_
    refine F_if_neB (tgt := 27) dX5_plan_22 rfl (fun c22 => ?_) (fun c22 => ?_)
    · refine F_iconst (v := nI 0) dX5_plan_27 rfl ?_
      refine F_istore dX5_plan_28 (Nat.le_of_ble_eq_true rfl) ?_
      refine F_iload_n dX5_plan_30 rfl ?_
      refine F_istore dX5_plan_31 (Nat.le_of_ble_eq_true rfl) ?_
      have hg : g < 6 := by omega
      refine l_plan1 (σ := up σ 116 0 (nI 0)) hg hab hb ?_ 0 (by omega)
      have h0 : cntB (fun i => decide (¬ up σ 116 0 (nI 0) 117 (40 + 70 * g + (a + i)) = kind)) (b + 1 - a) = 0 := h0
      rw [h0]
      refine F_iload dX5_plan_67 rfl ?_
      refine F_if_leN (tgt := 80) dX5_plan_69 rfl (by omega) (fun c69 => ?_) (fun c69 => ?_)
      · refine F_iload_n dX5_plan_80 rfl ?_
        refine F_istore dX5_plan_81 (Nat.le_of_ble_eq_true rfl) ?_
        refine F_sg (fill0 _ 117 (40 + 70 * g + a) kind).symm ?_
        refine l_plan2 hg hab hb ?_ 0 (by omega)
        refine F_iload dX5_plan_112 rfl ?_
        refine F_iret dX5_plan_114 rfl ?_
        exact hQ
      · exact absurd c69 (by omega)
    · rw [h] at c22
      cases c22

theorem m_planC {g a b n k : Nat} {kind : Int32} (hn : σ 117 23 = nI n) (h6 : n ≤ 6) (hg : g < n) (hab : a ≤ b) (hb : b < 70) (h : inR kind (nI 0) (nI 5) = true) (h0 : 0 < cntB (fun i => decide (¬ σ 117 (40 + 70 * g + (a + i)) = kind)) (b + 1 - a)) (hk : σ 116 4 = nI k) (hk8 : k ≤ 8) : mV G mX5_plan (d + 4) [.ref 116, .int (nI g), .int (nI a), .int (nI b), .int kind] σ (some (.int (nI (cntB (fun i => decide (¬ σ 117 (40 + 70 * g + (a + i)) = kind)) (b + 1 - a))))) (upR (up (upR (up σ 116 0 (nI 0)) 118 (keptF k (σ 118) (σ 117))) 116 4 (nI (min k 7 + 1))) 117 (fillR (σ 117) (40 + 70 * g + a) (40 + 70 * g + a + (b + 1 - a)) kind)) := by
  refine mV_of fun Q hQ => ?_
  refine F_aload_n dX5_plan_0 rfl ?_
  refine F_iconst (v := nI 0) dX5_plan_1 rfl ?_
  refine F_put dX5_plan_2 rfl rfl (by first | assumption | rfl) rfl rfl rfl rfl ?_
  refine F_aload_n dX5_plan_5 rfl ?_
  refine F_iload_n dX5_plan_6 rfl ?_
  refine F_iload_n dX5_plan_7 rfl ?_
  refine F_iload_n dX5_plan_8 rfl ?_
  refine F_cV3i (v_areDays (d := d) _ _ _ hn (by omega)) dX5_plan_9 rfl rfl (by decide) (by first | assumption | rfl) rfl rfl rfl (by decide) (Nat.le_of_ble_eq_true rfl) (by omega) ?_
  refine F_if_eqB (tgt := 25) dX5_plan_12 rfl (fun c12 => ?_) (fun c12 => ?_)
  · rw [show up σ 116 0 (nI 0) 117 23 = nI n from hn, grB_nI hg (by omega), dB_nI (by omega), dB_nI hb, decide_eq_true (nI_le hab (by omega))] at c12
    cases c12
  · refine F_iload dX5_plan_15 rfl ?_
    refine F_iconst (v := nI 0) dX5_plan_17 rfl ?_
    refine F_iconst (v := nI 5) dX5_plan_18 rfl ?_
    refine F_cS3i (v_isIn (d := d) _ _ _) dX5_plan_19 rfl rfl rfl (by decide) (Nat.le_of_ble_eq_true rfl) (by omega) ?_
    refine F_if_neB (tgt := 27) dX5_plan_22 rfl (fun c22 => ?_) (fun c22 => ?_)
    · refine F_iconst (v := nI 0) dX5_plan_27 rfl ?_
      refine F_istore dX5_plan_28 (Nat.le_of_ble_eq_true rfl) ?_
      refine F_iload_n dX5_plan_30 rfl ?_
      refine F_istore dX5_plan_31 (Nat.le_of_ble_eq_true rfl) ?_
      have hg : g < 6 := by omega
      refine l_plan1 (σ := up σ 116 0 (nI 0)) hg hab hb ?_ 0 (by omega)
      have hle := cntB_le (fun i => decide (¬ σ 117 (40 + 70 * g + (a + i)) = kind)) (b + 1 - a)
      refine F_lo (lo2 := [some (.ref 116), some (.int (nI g)), some (.int (nI a)), some (.int (nI b)), some (.int kind), some (.int (nI (cntB (fun i => decide (¬ σ 117 (40 + 70 * g + (a + i)) = kind)) (b + 1 - a)))), some (.int (nI (b + 1)))]) rfl ?_
      refine F_iload dX5_plan_67 rfl ?_
      refine F_if_leN (tgt := 80) dX5_plan_69 rfl (by omega) (fun c69 => ?_) (fun c69 => ?_)
      · exact absurd c69 (by omega)
      · refine F_aload_n dX5_plan_72 rfl ?_
        refine F_aload_n dX5_plan_73 rfl ?_
        refine F_getr dX5_plan_74 rfl rfl (by first | assumption | rfl) rfl ?_
        refine F_cV_r_v (v_keeps (d := d) (r := 117) rfl (by decide) (by decide) hk hk8) dX5_plan_77 rfl rfl (by decide) (by first | assumption | rfl) rfl rfl rfl (by decide) (Nat.le_of_ble_eq_true rfl) (by omega) ?_
        refine F_iload_n dX5_plan_80 rfl ?_
        refine F_istore dX5_plan_81 (Nat.le_of_ble_eq_true rfl) ?_
        refine F_sg (fill0 _ 117 (40 + 70 * g + a) kind).symm ?_
        refine l_plan2 hg hab hb ?_ 0 (by omega)
        refine F_iload dX5_plan_112 rfl ?_
        refine F_iret dX5_plan_114 rfl ?_
        exact hQ
    · rw [h] at c22
      cases c22

theorem m_count10 {k : Nat} (hk : k < 6) : mV G mX5_count (d + 1) [.ref 116, .int (nI (10 + k))] σ (some (.int (σ 117 k))) (up σ 116 0 (nI 0)) := by
  refine mV_of fun Q hQ => ?_
  refine F_aload_n dX5_count_0 rfl ?_
  refine F_iconst (v := nI 0) dX5_count_1 rfl ?_
  refine F_put dX5_count_2 rfl rfl (by first | assumption | rfl) rfl rfl rfl rfl ?_
  refine F_iload_n dX5_count_5 rfl ?_
  refine F_bipush (v := nI 10) dX5_count_6 rfl ?_
  refine F_bipush (v := nI 15) dX5_count_8 rfl ?_
  refine F_cS3i (v_isIn (d := d) _ _ _) dX5_count_10 rfl rfl rfl (by decide) (Nat.le_of_ble_eq_true rfl) (by omega) ?_
  refine F_if_eqB (tgt := 28) dX5_count_13 rfl (fun c13 => ?_) (fun c13 => ?_)
  · rw [(show inR (nI (10 + k)) (nI 10) (nI 15) = true by rw [inR_nI (by decide) (by decide) (by omega)]; simp; omega)] at c13
    cases c13
  · refine F_aload_n dX5_count_16 rfl ?_
    refine F_getr dX5_count_17 rfl rfl (by first | assumption | rfl) rfl ?_
    refine F_iconst (v := nI 0) dX5_count_20 rfl ?_
    refine F_iload_n dX5_count_21 rfl ?_
    refine F_iaddN dX5_count_22 ?_
    refine F_bipush (v := nI 10) dX5_count_23 rfl ?_
    refine F_isubN dX5_count_25 (by omega) ?_
    refine F_ialdE (v := σ 117 k) dX5_count_26 (by first | assumption | rfl) (by decide) (by omega) (by show σ 117 _ = _; congr 1; omega) ?_
    refine F_iret dX5_count_27 rfl ?_
    exact hQ

theorem m_count20 {k : Nat} (hk : k < 8) : mV G mX5_count (d + 1) [.ref 116, .int (nI (20 + k))] σ (some (.int (σ 117 (6 + k)))) (up σ 116 0 (nI 0)) := by
  refine mV_of fun Q hQ => ?_
  refine F_aload_n dX5_count_0 rfl ?_
  refine F_iconst (v := nI 0) dX5_count_1 rfl ?_
  refine F_put dX5_count_2 rfl rfl (by first | assumption | rfl) rfl rfl rfl rfl ?_
  refine F_iload_n dX5_count_5 rfl ?_
  refine F_bipush (v := nI 10) dX5_count_6 rfl ?_
  refine F_bipush (v := nI 15) dX5_count_8 rfl ?_
  refine F_cS3i (v_isIn (d := d) _ _ _) dX5_count_10 rfl rfl rfl (by decide) (Nat.le_of_ble_eq_true rfl) (by omega) ?_
  refine F_if_eqB (tgt := 28) dX5_count_13 rfl (fun c13 => ?_) (fun c13 => ?_)
  · refine F_iload_n dX5_count_28 rfl ?_
    refine F_bipush (v := nI 20) dX5_count_29 rfl ?_
    refine F_bipush (v := nI 27) dX5_count_31 rfl ?_
    refine F_cS3i (v_isIn (d := d) _ _ _) dX5_count_33 rfl rfl rfl (by decide) (Nat.le_of_ble_eq_true rfl) (by omega) ?_
    refine F_if_eqB (tgt := 48) dX5_count_36 rfl (fun c36 => ?_) (fun c36 => ?_)
    · rw [(show inR (nI (20 + k)) (nI 20) (nI 27) = true by rw [inR_nI (by decide) (by decide) (by omega)]; simp; omega)] at c36
      cases c36
    · refine F_aload_n dX5_count_39 rfl ?_
      refine F_iload_n dX5_count_40 rfl ?_
      refine F_bipush (v := nI 20) dX5_count_41 rfl ?_
      refine F_isubN dX5_count_43 (by omega) ?_
      refine F_top (y := nI k) (by congr 1; omega) ?_
      refine F_cV1i (v_of (d := d) hk) dX5_count_44 rfl rfl (by decide) (by first | assumption | rfl) rfl rfl rfl (by decide) (Nat.le_of_ble_eq_true rfl) (by omega) ?_
      refine F_iret dX5_count_47 rfl ?_
      exact hQ
  · rw [(show inR (nI (20 + k)) (nI 10) (nI 15) = false by rw [inR_nI (by decide) (by decide) (by omega)]; simp; omega)] at c13
    cases c13

theorem m_count0 : mV G mX5_count (d + 1) [.ref 116, .int (nI 0)] σ (some (.int (σ 117 23))) (up σ 116 0 (nI 0)) := by
  refine mV_of fun Q hQ => ?_
  refine F_aload_n dX5_count_0 rfl ?_
  refine F_iconst (v := nI 0) dX5_count_1 rfl ?_
  refine F_put dX5_count_2 rfl rfl (by first | assumption | rfl) rfl rfl rfl rfl ?_
  refine F_iload_n dX5_count_5 rfl ?_
  refine F_bipush (v := nI 10) dX5_count_6 rfl ?_
  refine F_bipush (v := nI 15) dX5_count_8 rfl ?_
  refine F_cS3i (v_isIn (d := d) _ _ _) dX5_count_10 rfl rfl rfl (by decide) (Nat.le_of_ble_eq_true rfl) (by omega) ?_
  refine F_if_eqB (tgt := 28) dX5_count_13 rfl (fun c13 => ?_) (fun c13 => ?_)
  · refine F_iload_n dX5_count_28 rfl ?_
    refine F_bipush (v := nI 20) dX5_count_29 rfl ?_
    refine F_bipush (v := nI 27) dX5_count_31 rfl ?_
    refine F_cS3i (v_isIn (d := d) _ _ _) dX5_count_33 rfl rfl rfl (by decide) (Nat.le_of_ble_eq_true rfl) (by omega) ?_
    refine F_if_eqB (tgt := 48) dX5_count_36 rfl (fun c36 => ?_) (fun c36 => ?_)
    · refine F_iload_n dX5_count_48 rfl ?_
      refine F_if_neN (tgt := 59) dX5_count_49 rfl (by omega) (fun c49 => ?_) (fun c49 => ?_)
      · exact absurd rfl c49
      · refine F_aload_n dX5_count_52 rfl ?_
        refine F_cV0i (v_groups (d := d)) dX5_count_53 rfl rfl (by decide) (by first | assumption | rfl) rfl rfl rfl (by decide) (Nat.le_of_ble_eq_true rfl) (by omega) ?_
        refine F_goto (tgt := 96) dX5_count_56 rfl ?_
        refine F_iret dX5_count_96 rfl ?_
        exact hQ
    · rw [(show inR (nI 0) (nI 20) (nI 27) = false by decide +kernel)] at c36
      cases c36
  · rw [(show inR (nI 0) (nI 10) (nI 15) = false by decide +kernel)] at c13
    cases c13

theorem m_count1 : mV G mX5_count (d + 1) [.ref 116, .int (nI 1)] σ (some (.int (σ 117 14))) (up σ 116 0 (nI 0)) := by
  refine mV_of fun Q hQ => ?_
  refine F_aload_n dX5_count_0 rfl ?_
  refine F_iconst (v := nI 0) dX5_count_1 rfl ?_
  refine F_put dX5_count_2 rfl rfl (by first | assumption | rfl) rfl rfl rfl rfl ?_
  refine F_iload_n dX5_count_5 rfl ?_
  refine F_bipush (v := nI 10) dX5_count_6 rfl ?_
  refine F_bipush (v := nI 15) dX5_count_8 rfl ?_
  refine F_cS3i (v_isIn (d := d) _ _ _) dX5_count_10 rfl rfl rfl (by decide) (Nat.le_of_ble_eq_true rfl) (by omega) ?_
  refine F_if_eqB (tgt := 28) dX5_count_13 rfl (fun c13 => ?_) (fun c13 => ?_)
  · refine F_iload_n dX5_count_28 rfl ?_
    refine F_bipush (v := nI 20) dX5_count_29 rfl ?_
    refine F_bipush (v := nI 27) dX5_count_31 rfl ?_
    refine F_cS3i (v_isIn (d := d) _ _ _) dX5_count_33 rfl rfl rfl (by decide) (Nat.le_of_ble_eq_true rfl) (by omega) ?_
    refine F_if_eqB (tgt := 48) dX5_count_36 rfl (fun c36 => ?_) (fun c36 => ?_)
    · refine F_iload_n dX5_count_48 rfl ?_
      refine F_if_neN (tgt := 59) dX5_count_49 rfl (by omega) (fun c49 => ?_) (fun c49 => ?_)
      · refine F_iload_n dX5_count_59 rfl ?_
        refine F_iconst (v := nI 1) dX5_count_60 rfl ?_
        refine F_icmp_neN (tgt := 71) dX5_count_61 rfl (by omega) (by omega) (fun c61 => ?_) (fun c61 => ?_)
        · exact absurd rfl c61
        · refine F_aload_n dX5_count_64 rfl ?_
          refine F_cV0i (v_camps (d := d)) dX5_count_65 rfl rfl (by decide) (by first | assumption | rfl) rfl rfl rfl (by decide) (Nat.le_of_ble_eq_true rfl) (by omega) ?_
          refine F_goto (tgt := 96) dX5_count_68 rfl ?_
          refine F_iret dX5_count_96 rfl ?_
          exact hQ
      · exact absurd c49 (by decide)
    · rw [(show inR (nI 1) (nI 20) (nI 27) = false by decide +kernel)] at c36
      cases c36
  · rw [(show inR (nI 1) (nI 10) (nI 15) = false by decide +kernel)] at c13
    cases c13

theorem m_count2 : mV G mX5_count (d + 1) [.ref 116, .int (nI 2)] σ (some (.int (σ 116 6))) (up σ 116 0 (nI 0)) := by
  refine mV_of fun Q hQ => ?_
  refine F_aload_n dX5_count_0 rfl ?_
  refine F_iconst (v := nI 0) dX5_count_1 rfl ?_
  refine F_put dX5_count_2 rfl rfl (by first | assumption | rfl) rfl rfl rfl rfl ?_
  refine F_iload_n dX5_count_5 rfl ?_
  refine F_bipush (v := nI 10) dX5_count_6 rfl ?_
  refine F_bipush (v := nI 15) dX5_count_8 rfl ?_
  refine F_cS3i (v_isIn (d := d) _ _ _) dX5_count_10 rfl rfl rfl (by decide) (Nat.le_of_ble_eq_true rfl) (by omega) ?_
  refine F_if_eqB (tgt := 28) dX5_count_13 rfl (fun c13 => ?_) (fun c13 => ?_)
  · refine F_iload_n dX5_count_28 rfl ?_
    refine F_bipush (v := nI 20) dX5_count_29 rfl ?_
    refine F_bipush (v := nI 27) dX5_count_31 rfl ?_
    refine F_cS3i (v_isIn (d := d) _ _ _) dX5_count_33 rfl rfl rfl (by decide) (Nat.le_of_ble_eq_true rfl) (by omega) ?_
    refine F_if_eqB (tgt := 48) dX5_count_36 rfl (fun c36 => ?_) (fun c36 => ?_)
    · refine F_iload_n dX5_count_48 rfl ?_
      refine F_if_neN (tgt := 59) dX5_count_49 rfl (by omega) (fun c49 => ?_) (fun c49 => ?_)
      · refine F_iload_n dX5_count_59 rfl ?_
        refine F_iconst (v := nI 1) dX5_count_60 rfl ?_
        refine F_icmp_neN (tgt := 71) dX5_count_61 rfl (by omega) (by omega) (fun c61 => ?_) (fun c61 => ?_)
        · refine F_iload_n dX5_count_71 rfl ?_
          refine F_iconst (v := nI 2) dX5_count_72 rfl ?_
          refine F_icmp_neN (tgt := 83) dX5_count_73 rfl (by omega) (by omega) (fun c73 => ?_) (fun c73 => ?_)
          · exact absurd rfl c73
          · refine F_aload_n dX5_count_76 rfl ?_
            refine F_geti dX5_count_77 rfl rfl (by first | assumption | rfl) rfl ?_
            refine F_goto (tgt := 96) dX5_count_80 rfl ?_
            refine F_iret dX5_count_96 rfl ?_
            exact hQ
        · exact absurd c61 (by decide)
      · exact absurd c49 (by decide)
    · rw [(show inR (nI 2) (nI 20) (nI 27) = false by decide +kernel)] at c36
      cases c36
  · rw [(show inR (nI 2) (nI 10) (nI 15) = false by decide +kernel)] at c13
    cases c13

theorem m_count3 : mV G mX5_count (d + 1) [.ref 116, .int (nI 3)] σ (some (.int (σ 116 4))) (up σ 116 0 (nI 0)) := by
  refine mV_of fun Q hQ => ?_
  refine F_aload_n dX5_count_0 rfl ?_
  refine F_iconst (v := nI 0) dX5_count_1 rfl ?_
  refine F_put dX5_count_2 rfl rfl (by first | assumption | rfl) rfl rfl rfl rfl ?_
  refine F_iload_n dX5_count_5 rfl ?_
  refine F_bipush (v := nI 10) dX5_count_6 rfl ?_
  refine F_bipush (v := nI 15) dX5_count_8 rfl ?_
  refine F_cS3i (v_isIn (d := d) _ _ _) dX5_count_10 rfl rfl rfl (by decide) (Nat.le_of_ble_eq_true rfl) (by omega) ?_
  refine F_if_eqB (tgt := 28) dX5_count_13 rfl (fun c13 => ?_) (fun c13 => ?_)
  · refine F_iload_n dX5_count_28 rfl ?_
    refine F_bipush (v := nI 20) dX5_count_29 rfl ?_
    refine F_bipush (v := nI 27) dX5_count_31 rfl ?_
    refine F_cS3i (v_isIn (d := d) _ _ _) dX5_count_33 rfl rfl rfl (by decide) (Nat.le_of_ble_eq_true rfl) (by omega) ?_
    refine F_if_eqB (tgt := 48) dX5_count_36 rfl (fun c36 => ?_) (fun c36 => ?_)
    · refine F_iload_n dX5_count_48 rfl ?_
      refine F_if_neN (tgt := 59) dX5_count_49 rfl (by omega) (fun c49 => ?_) (fun c49 => ?_)
      · refine F_iload_n dX5_count_59 rfl ?_
        refine F_iconst (v := nI 1) dX5_count_60 rfl ?_
        refine F_icmp_neN (tgt := 71) dX5_count_61 rfl (by omega) (by omega) (fun c61 => ?_) (fun c61 => ?_)
        · refine F_iload_n dX5_count_71 rfl ?_
          refine F_iconst (v := nI 2) dX5_count_72 rfl ?_
          refine F_icmp_neN (tgt := 83) dX5_count_73 rfl (by omega) (by omega) (fun c73 => ?_) (fun c73 => ?_)
          · refine F_iload_n dX5_count_83 rfl ?_
            refine F_iconst (v := nI 3) dX5_count_84 rfl ?_
            refine F_icmp_neN (tgt := 95) dX5_count_85 rfl (by omega) (by omega) (fun c85 => ?_) (fun c85 => ?_)
            · exact absurd rfl c85
            · refine F_aload_n dX5_count_88 rfl ?_
              refine F_geti dX5_count_89 rfl rfl (by first | assumption | rfl) rfl ?_
              refine F_goto (tgt := 96) dX5_count_92 rfl ?_
              refine F_iret dX5_count_96 rfl ?_
              exact hQ
          · exact absurd c73 (by decide)
        · exact absurd c61 (by decide)
      · exact absurd c49 (by decide)
    · rw [(show inR (nI 3) (nI 20) (nI 27) = false by decide +kernel)] at c36
      cases c36
  · rw [(show inR (nI 3) (nI 10) (nI 15) = false by decide +kernel)] at c13
    cases c13

theorem m_countX (w : Int32) (h1 : inR w (nI 10) (nI 15) = false) (h2 : inR w (nI 20) (nI 27) = false) (h3 : ¬ w = nI 0) (h4 : ¬ w = nI 1) (h5 : ¬ w = nI 2) (h6 : ¬ w = nI 3) : mV G mX5_count (d + 1) [.ref 116, .int w] σ (some (.int (-1))) (up σ 116 0 (nI 0)) := by
  refine mV_of fun Q hQ => ?_
  refine F_aload_n dX5_count_0 rfl ?_
  refine F_iconst (v := nI 0) dX5_count_1 rfl ?_
  refine F_put dX5_count_2 rfl rfl (by first | assumption | rfl) rfl rfl rfl rfl ?_
  refine F_iload_n dX5_count_5 rfl ?_
  refine F_bipush (v := nI 10) dX5_count_6 rfl ?_
  refine F_bipush (v := nI 15) dX5_count_8 rfl ?_
  refine F_cS3i (v_isIn (d := d) _ _ _) dX5_count_10 rfl rfl rfl (by decide) (Nat.le_of_ble_eq_true rfl) (by omega) ?_
  refine F_if_eqB (tgt := 28) dX5_count_13 rfl (fun c13 => ?_) (fun c13 => ?_)
  · refine F_iload_n dX5_count_28 rfl ?_
    refine F_bipush (v := nI 20) dX5_count_29 rfl ?_
    refine F_bipush (v := nI 27) dX5_count_31 rfl ?_
    refine F_cS3i (v_isIn (d := d) _ _ _) dX5_count_33 rfl rfl rfl (by decide) (Nat.le_of_ble_eq_true rfl) (by omega) ?_
    refine F_if_eqB (tgt := 48) dX5_count_36 rfl (fun c36 => ?_) (fun c36 => ?_)
    · refine F_iload_n dX5_count_48 rfl ?_
      refine F_if_ne (tgt := 59) dX5_count_49 rfl (fun c49 => ?_) (fun c49 => ?_)
      · refine F_iload_n dX5_count_59 rfl ?_
        refine F_iconst (v := nI 1) dX5_count_60 rfl ?_
        refine F_icmp_ne (tgt := 71) dX5_count_61 rfl (fun c61 => ?_) (fun c61 => ?_)
        · refine F_iload_n dX5_count_71 rfl ?_
          refine F_iconst (v := nI 2) dX5_count_72 rfl ?_
          refine F_icmp_ne (tgt := 83) dX5_count_73 rfl (fun c73 => ?_) (fun c73 => ?_)
          · refine F_iload_n dX5_count_83 rfl ?_
            refine F_iconst (v := nI 3) dX5_count_84 rfl ?_
            refine F_icmp_ne (tgt := 95) dX5_count_85 rfl (fun c85 => ?_) (fun c85 => ?_)
            · refine F_iconst (v := (-1)) dX5_count_95 rfl ?_
              refine F_iret dX5_count_96 rfl ?_
              exact hQ
            · exact absurd c85 h6
          · exact absurd c73 h5
        · exact absurd c61 h4
      · exact absurd c49 h3
    · rw [h2] at c36
      cases c36
  · rw [h1] at c13
    cases c13

theorem m_campedA (c last : Int32) {n : Nat} (hn : σ 117 14 = nI n) (h4 : n ≤ 4) (h : grB (σ 117 14) c = false) : mV G mX5_camped (d + 1) [.ref 116, .int c, .int last] σ (some (.int (nI 0))) (up σ 116 0 (nI 1)) := by
  refine mV_of fun Q hQ => ?_
  refine F_aload_n dX5_camped_0 rfl ?_
  refine F_iload_n dX5_camped_1 rfl ?_
  refine F_iconst (v := nI 0) dX5_camped_2 rfl ?_
  refine F_aload_n dX5_camped_3 rfl ?_
  refine F_cV0i (v_camps (d := d)) dX5_camped_4 rfl rfl (by decide) (by first | assumption | rfl) rfl rfl rfl (by decide) (Nat.le_of_ble_eq_true rfl) (by omega) ?_
  refine F_top (y := nI n) hn ?_
  refine F_iconst (v := nI 1) dX5_camped_7 rfl ?_
  refine F_isub dX5_camped_8 ?_
  refine F_cS3i (v_isIn (d := d) _ _ _) dX5_camped_9 rfl rfl rfl (by decide) (Nat.le_of_ble_eq_true rfl) (by omega) ?_
  refine F_if_eqB (tgt := 19) dX5_camped_12 rfl (fun c12 => ?_) (fun c12 => ?_)
  · refine F_iconst (v := nI 1) dX5_camped_19 rfl ?_
    refine F_put dX5_camped_20 rfl rfl (by first | assumption | rfl) rfl rfl rfl rfl ?_
    refine F_aload_n dX5_camped_23 rfl ?_
    refine F_getE (v := nI 1) dX5_camped_24 rfl rfl (by first | assumption | rfl) rfl rfl ?_
    refine F_iconst (v := nI 1) dX5_camped_27 rfl ?_
    refine F_icmp_neN (tgt := 35) dX5_camped_28 rfl (by omega) (by omega) (fun c28 => ?_) (fun c28 => ?_)
    · exact absurd rfl c28
    · refine F_iconst (v := nI 0) dX5_camped_31 rfl ?_
      refine F_goto (tgt := 56) dX5_camped_32 rfl ?_
      refine F_iret dX5_camped_56 rfl ?_
      exact hQ
  · rw [inR_grp c (by omega), ← hn, h] at c12
    cases c12

theorem m_campedB {c n : Nat} (last : Int32) (hn : σ 117 14 = nI n) (hc : c < n) (h4 : n ≤ 4) : mV G mX5_camped (d + 1) [.ref 116, .int (nI c), .int last] σ (some (.int (σ 117 (15 + 2 * c + (if last = 0 then 0 else 1))))) (up σ 116 0 (nI 0)) := by
  refine mV_of fun Q hQ => ?_
  refine F_aload_n dX5_camped_0 rfl ?_
  refine F_iload_n dX5_camped_1 rfl ?_
  refine F_iconst (v := nI 0) dX5_camped_2 rfl ?_
  refine F_aload_n dX5_camped_3 rfl ?_
  refine F_cV0i (v_camps (d := d)) dX5_camped_4 rfl rfl (by decide) (by first | assumption | rfl) rfl rfl rfl (by decide) (Nat.le_of_ble_eq_true rfl) (by omega) ?_
  refine F_top (y := nI n) hn ?_
  refine F_iconst (v := nI 1) dX5_camped_7 rfl ?_
  refine F_isub dX5_camped_8 ?_
  refine F_cS3i (v_isIn (d := d) _ _ _) dX5_camped_9 rfl rfl rfl (by decide) (Nat.le_of_ble_eq_true rfl) (by omega) ?_
  refine F_if_eqB (tgt := 19) dX5_camped_12 rfl (fun c12 => ?_) (fun c12 => ?_)
  · rw [inR_grp _ (by omega), grB_nI hc (by omega)] at c12
    cases c12
  · refine F_iconst (v := nI 0) dX5_camped_15 rfl ?_
    refine F_goto (tgt := 20) dX5_camped_16 rfl ?_
    refine F_put dX5_camped_20 rfl rfl (by first | assumption | rfl) rfl rfl rfl rfl ?_
    refine F_aload_n dX5_camped_23 rfl ?_
    refine F_getE (v := nI 0) dX5_camped_24 rfl rfl (by first | assumption | rfl) rfl rfl ?_
    refine F_iconst (v := nI 1) dX5_camped_27 rfl ?_
    refine F_icmp_neN (tgt := 35) dX5_camped_28 rfl (by omega) (by omega) (fun c28 => ?_) (fun c28 => ?_)
    · refine F_aload_n dX5_camped_35 rfl ?_
      refine F_getr dX5_camped_36 rfl rfl (by first | assumption | rfl) rfl ?_
      refine F_bipush (v := nI 15) dX5_camped_39 rfl ?_
      refine F_iconst (v := nI 2) dX5_camped_41 rfl ?_
      refine F_iload_n dX5_camped_42 rfl ?_
      refine F_imulN dX5_camped_43 ?_
      refine F_iaddN dX5_camped_44 ?_
      refine F_iload_n dX5_camped_45 rfl ?_
      refine F_if_eq (tgt := 53) dX5_camped_46 rfl (fun c46 => ?_) (fun c46 => ?_)
      · refine F_iconst (v := nI 0) dX5_camped_53 rfl ?_
        refine F_iaddN dX5_camped_54 ?_
        refine F_iald dX5_camped_55 (by first | assumption | rfl) (by decide) (by omega) ?_
        refine F_iret dX5_camped_56 rfl ?_
        first | (rw [if_pos c46] at hQ; exact hQ) | (rw [if_neg c46] at hQ; exact hQ)
      · refine F_iconst (v := nI 1) dX5_camped_49 rfl ?_
        refine F_goto (tgt := 54) dX5_camped_50 rfl ?_
        refine F_iaddN dX5_camped_54 ?_
        refine F_iald dX5_camped_55 (by first | assumption | rfl) (by decide) (by omega) ?_
        refine F_iret dX5_camped_56 rfl ?_
        first | (rw [if_pos c46] at hQ; exact hQ) | (rw [if_neg c46] at hQ; exact hQ)
    · exact absurd c28 (by decide)

/-- the bytes of a number, the highest first -/
def byF (w : Int32) (s : Nat) : Int32 := vp_nar .byte (w >>> (nI s &&& 31)).toInt8.toInt32
def put4 (f : Nat → Int32) (n : Nat) (w : Int32) : Nat → Int32 := upd (upd (upd (upd f n (byF w 24)) (n + 1) (byF w 16)) (n + 2) (byF w 8)) (n + 3) (byF w 0)
theorem l_put24 {w : Int32} {n : Nat} (hn : σ 116 6 = nI n) (h4 : n < 400) {Q : Option Value → mS → Prop} (hk : mF G mX5_put d 3 [some (.ref 116), some (.int w), some (.int (nI 16))] [] (up (up σ 120 n (byF w 24)) 116 6 (nI (n + 1))) Q) : mF G mX5_put d 3 [some (.ref 116), some (.int w), some (.int (nI 24))] [] σ Q := by
  refine F_iload_n dX5_put_3 rfl ?_
  refine F_if_ltN (tgt := 36) dX5_put_4 rfl (by omega) ?_
  refine F_aload_n dX5_put_7 rfl ?_
  refine F_getr dX5_put_8 rfl rfl (by first | assumption | rfl) rfl ?_
  refine F_aload_n dX5_put_11 rfl ?_
  refine F_getE (v := nI n) dX5_put_12 rfl rfl (by first | assumption | rfl) rfl hn ?_
  refine F_iload_n dX5_put_15 rfl ?_
  refine F_iload_n dX5_put_16 rfl ?_
  refine F_ishr dX5_put_17 ?_
  refine F_i2b dX5_put_18 ?_
  refine F_bast dX5_put_19 (by first | assumption | rfl) (by decide) (by omega) ?_
  refine F_aload_n dX5_put_20 rfl ?_
  refine F_dup dX5_put_21 rfl ?_
  refine F_getE (v := nI n) dX5_put_22 rfl rfl (by first | assumption | rfl) rfl hn ?_
  refine F_iconst (v := nI 1) dX5_put_25 rfl ?_
  refine F_iaddN dX5_put_26 ?_
  refine F_put dX5_put_27 rfl rfl (by first | assumption | rfl) rfl rfl rfl rfl ?_
  refine F_iinc (v := nI 16) dX5_put_30 rfl (by decide) ?_
  refine F_goto (tgt := 3) dX5_put_33 rfl ?_
  exact hk

theorem l_put16 {w : Int32} {n : Nat} (hn : σ 116 6 = nI n) (h4 : n < 400) {Q : Option Value → mS → Prop} (hk : mF G mX5_put d 3 [some (.ref 116), some (.int w), some (.int (nI 8))] [] (up (up σ 120 n (byF w 16)) 116 6 (nI (n + 1))) Q) : mF G mX5_put d 3 [some (.ref 116), some (.int w), some (.int (nI 16))] [] σ Q := by
  refine F_iload_n dX5_put_3 rfl ?_
  refine F_if_ltN (tgt := 36) dX5_put_4 rfl (by omega) ?_
  refine F_aload_n dX5_put_7 rfl ?_
  refine F_getr dX5_put_8 rfl rfl (by first | assumption | rfl) rfl ?_
  refine F_aload_n dX5_put_11 rfl ?_
  refine F_getE (v := nI n) dX5_put_12 rfl rfl (by first | assumption | rfl) rfl hn ?_
  refine F_iload_n dX5_put_15 rfl ?_
  refine F_iload_n dX5_put_16 rfl ?_
  refine F_ishr dX5_put_17 ?_
  refine F_i2b dX5_put_18 ?_
  refine F_bast dX5_put_19 (by first | assumption | rfl) (by decide) (by omega) ?_
  refine F_aload_n dX5_put_20 rfl ?_
  refine F_dup dX5_put_21 rfl ?_
  refine F_getE (v := nI n) dX5_put_22 rfl rfl (by first | assumption | rfl) rfl hn ?_
  refine F_iconst (v := nI 1) dX5_put_25 rfl ?_
  refine F_iaddN dX5_put_26 ?_
  refine F_put dX5_put_27 rfl rfl (by first | assumption | rfl) rfl rfl rfl rfl ?_
  refine F_iinc (v := nI 8) dX5_put_30 rfl (by decide) ?_
  refine F_goto (tgt := 3) dX5_put_33 rfl ?_
  exact hk

theorem l_put8 {w : Int32} {n : Nat} (hn : σ 116 6 = nI n) (h4 : n < 400) {Q : Option Value → mS → Prop} (hk : mF G mX5_put d 3 [some (.ref 116), some (.int w), some (.int (nI 0))] [] (up (up σ 120 n (byF w 8)) 116 6 (nI (n + 1))) Q) : mF G mX5_put d 3 [some (.ref 116), some (.int w), some (.int (nI 8))] [] σ Q := by
  refine F_iload_n dX5_put_3 rfl ?_
  refine F_if_ltN (tgt := 36) dX5_put_4 rfl (by omega) ?_
  refine F_aload_n dX5_put_7 rfl ?_
  refine F_getr dX5_put_8 rfl rfl (by first | assumption | rfl) rfl ?_
  refine F_aload_n dX5_put_11 rfl ?_
  refine F_getE (v := nI n) dX5_put_12 rfl rfl (by first | assumption | rfl) rfl hn ?_
  refine F_iload_n dX5_put_15 rfl ?_
  refine F_iload_n dX5_put_16 rfl ?_
  refine F_ishr dX5_put_17 ?_
  refine F_i2b dX5_put_18 ?_
  refine F_bast dX5_put_19 (by first | assumption | rfl) (by decide) (by omega) ?_
  refine F_aload_n dX5_put_20 rfl ?_
  refine F_dup dX5_put_21 rfl ?_
  refine F_getE (v := nI n) dX5_put_22 rfl rfl (by first | assumption | rfl) rfl hn ?_
  refine F_iconst (v := nI 1) dX5_put_25 rfl ?_
  refine F_iaddN dX5_put_26 ?_
  refine F_put dX5_put_27 rfl rfl (by first | assumption | rfl) rfl rfl rfl rfl ?_
  refine F_iinc (v := nI 0) dX5_put_30 rfl (by decide) ?_
  refine F_goto (tgt := 3) dX5_put_33 rfl ?_
  exact hk

theorem l_put0 {w : Int32} {n : Nat} (hn : σ 116 6 = nI n) (h4 : n < 400) {Q : Option Value → mS → Prop} (hk : mF G mX5_put d 3 [some (.ref 116), some (.int w), some (.int (-8))] [] (up (up σ 120 n (byF w 0)) 116 6 (nI (n + 1))) Q) : mF G mX5_put d 3 [some (.ref 116), some (.int w), some (.int (nI 0))] [] σ Q := by
  refine F_iload_n dX5_put_3 rfl ?_
  refine F_if_ltN (tgt := 36) dX5_put_4 rfl (by omega) ?_
  refine F_aload_n dX5_put_7 rfl ?_
  refine F_getr dX5_put_8 rfl rfl (by first | assumption | rfl) rfl ?_
  refine F_aload_n dX5_put_11 rfl ?_
  refine F_getE (v := nI n) dX5_put_12 rfl rfl (by first | assumption | rfl) rfl hn ?_
  refine F_iload_n dX5_put_15 rfl ?_
  refine F_iload_n dX5_put_16 rfl ?_
  refine F_ishr dX5_put_17 ?_
  refine F_i2b dX5_put_18 ?_
  refine F_bast dX5_put_19 (by first | assumption | rfl) (by decide) (by omega) ?_
  refine F_aload_n dX5_put_20 rfl ?_
  refine F_dup dX5_put_21 rfl ?_
  refine F_getE (v := nI n) dX5_put_22 rfl rfl (by first | assumption | rfl) rfl hn ?_
  refine F_iconst (v := nI 1) dX5_put_25 rfl ?_
  refine F_iaddN dX5_put_26 ?_
  refine F_put dX5_put_27 rfl rfl (by first | assumption | rfl) rfl rfl rfl rfl ?_
  refine F_iinc (v := -8) dX5_put_30 rfl (by decide) ?_
  refine F_goto (tgt := 3) dX5_put_33 rfl ?_
  exact hk

theorem v_put (w : Int32) {n : Nat} (hn : σ 116 6 = nI n) (h4 : n + 4 ≤ 400) : mV G mX5_put d [.ref 116, .int w] σ none (up (upR σ 120 (put4 (σ 120) n w)) 116 6 (nI (n + 4))) := by
  refine mV_of fun Q hQ => ?_
  refine F_bipush (v := nI 24) dX5_put_0 rfl ?_
  refine F_istore_n dX5_put_2 (Nat.le_of_ble_eq_true rfl) ?_
  refine l_put24 hn (by omega) ?_
  refine l_put16 (n := n + 1) rfl (by omega) ?_
  refine l_put8 (n := n + 2) rfl (by omega) ?_
  refine l_put0 (n := n + 3) rfl (by omega) ?_
  refine F_iload_n dX5_put_3 rfl ?_
  refine F_if_lt (tgt := 36) dX5_put_4 rfl (fun c4 => ?_) (fun c4 => ?_)
  · refine F_vret dX5_put_36 rfl ?_
    refine Qn hQ ?_
    funext b
    by_cases h1 : b = 116
    · subst h1
      simp [up, upR]
      funext j
      simp only [upd]
      split <;> rfl
    · by_cases h2 : b = 120
      · subst h2; simp [up, upR, put4]
      · simp [up, upR, h1, h2]
  · exact absurd (by decide) c4

theorem m_feedA (a b c e f : Int32) {n : Nat} (hn : σ 116 6 = nI n) (h : n ≤ 400) (hf : 400 < n + 20) : mV G mX5_feed (d + 1) [.ref 116, .int a, .int b, .int c, .int e, .int f] σ (some (.int (-1))) (up σ 116 0 (nI 0)) := by
  refine mV_of fun Q hQ => ?_
  refine F_aload_n dX5_feed_0 rfl ?_
  refine F_iconst (v := nI 0) dX5_feed_1 rfl ?_
  refine F_put dX5_feed_2 rfl rfl (by first | assumption | rfl) rfl rfl rfl rfl ?_
  refine F_aload_n dX5_feed_5 rfl ?_
  refine F_getE (v := nI n) dX5_feed_6 rfl rfl (by first | assumption | rfl) rfl hn ?_
  refine F_bipush (v := nI 20) dX5_feed_9 rfl ?_
  refine F_iaddN dX5_feed_11 ?_
  refine F_sipush (v := nI 400) dX5_feed_12 rfl ?_
  refine F_icmp_leN (tgt := 20) dX5_feed_15 rfl (by omega) (by omega) (fun c15 => ?_) (fun c15 => ?_)
  · exact absurd c15 (by omega)
  · refine F_iconst (v := (-1)) dX5_feed_18 rfl ?_
    refine F_iret dX5_feed_19 rfl ?_
    exact hQ

theorem m_feedB (a b c e f : Int32) {n : Nat} (hn : σ 116 6 = nI n) (hf : n + 20 ≤ 400) : mV G mX5_feed (d + 1) [.ref 116, .int a, .int b, .int c, .int e, .int f] σ (some (.int (nI (n + 20)))) (up (upR (up σ 116 0 (nI 0)) 120 (put4 (put4 (put4 (put4 (put4 (σ 120) n a) (n + 4) b) (n + 8) c) (n + 12) e) (n + 16) f)) 116 6 (nI (n + 20))) := by
  refine mV_of fun Q hQ => ?_
  refine F_aload_n dX5_feed_0 rfl ?_
  refine F_iconst (v := nI 0) dX5_feed_1 rfl ?_
  refine F_put dX5_feed_2 rfl rfl (by first | assumption | rfl) rfl rfl rfl rfl ?_
  refine F_aload_n dX5_feed_5 rfl ?_
  refine F_getE (v := nI n) dX5_feed_6 rfl rfl (by first | assumption | rfl) rfl hn ?_
  refine F_bipush (v := nI 20) dX5_feed_9 rfl ?_
  refine F_iaddN dX5_feed_11 ?_
  refine F_sipush (v := nI 400) dX5_feed_12 rfl ?_
  refine F_icmp_leN (tgt := 20) dX5_feed_15 rfl (by omega) (by omega) (fun c15 => ?_) (fun c15 => ?_)
  · refine F_aload_n dX5_feed_20 rfl ?_
    refine F_iload_n dX5_feed_21 rfl ?_
    refine F_cV1v (v_put (d := d) _ (n := n) hn (by omega)) dX5_feed_22 rfl rfl (by decide) (by first | assumption | rfl) rfl rfl rfl (by decide) (Nat.le_of_ble_eq_true rfl) (by omega) ?_
    refine F_aload_n dX5_feed_25 rfl ?_
    refine F_iload_n dX5_feed_26 rfl ?_
    refine F_cV1v (v_put (d := d) _ (n := n + 4) rfl (by omega)) dX5_feed_27 rfl rfl (by decide) (by first | assumption | rfl) rfl rfl rfl (by decide) (Nat.le_of_ble_eq_true rfl) (by omega) ?_
    refine F_aload_n dX5_feed_30 rfl ?_
    refine F_iload_n dX5_feed_31 rfl ?_
    refine F_cV1v (v_put (d := d) _ (n := n + 8) rfl (by omega)) dX5_feed_32 rfl rfl (by decide) (by first | assumption | rfl) rfl rfl rfl (by decide) (Nat.le_of_ble_eq_true rfl) (by omega) ?_
    refine F_aload_n dX5_feed_35 rfl ?_
    refine F_iload dX5_feed_36 rfl ?_
    refine F_cV1v (v_put (d := d) _ (n := n + 12) rfl (by omega)) dX5_feed_38 rfl rfl (by decide) (by first | assumption | rfl) rfl rfl rfl (by decide) (Nat.le_of_ble_eq_true rfl) (by omega) ?_
    refine F_aload_n dX5_feed_41 rfl ?_
    refine F_iload dX5_feed_42 rfl ?_
    refine F_cV1v (v_put (d := d) _ (n := n + 16) rfl (by omega)) dX5_feed_44 rfl rfl (by decide) (by first | assumption | rfl) rfl rfl rfl (by decide) (Nat.le_of_ble_eq_true rfl) (by omega) ?_
    refine F_aload_n dX5_feed_47 rfl ?_
    refine F_getE (v := nI (n + 20)) dX5_feed_48 rfl rfl (by first | assumption | rfl) rfl rfl ?_
    refine F_iret dX5_feed_51 rfl ?_
    refine Qn hQ ?_
    funext b0
    by_cases h1 : b0 = 116
    · subst h1
      simp [up, upR]
      funext j
      simp only [upd]
      split <;> rfl
    · by_cases h2 : b0 = 120
      · subst h2; simp [up, upR]
      · simp [up, upR, h1, h2]
  · exact absurd hf c15

theorem m_endA (n : Int32) (h : inR n (nI 0) (σ 116 6) = false) : mV G mX5_end (d + 1) [.ref 116, .int n] σ (some (.int (nI 0))) (up σ 116 0 (nI 0)) := by
  refine mV_of fun Q hQ => ?_
  refine F_aload_n dX5_end_0 rfl ?_
  refine F_iconst (v := nI 0) dX5_end_1 rfl ?_
  refine F_put dX5_end_2 rfl rfl (by first | assumption | rfl) rfl rfl rfl rfl ?_
  refine F_iload_n dX5_end_5 rfl ?_
  refine F_iconst (v := nI 0) dX5_end_6 rfl ?_
  refine F_aload_n dX5_end_7 rfl ?_
  refine F_geti dX5_end_8 rfl rfl (by first | assumption | rfl) rfl ?_
  refine F_cS3i (v_isIn (d := d) _ _ _) dX5_end_11 rfl rfl rfl (by decide) (Nat.le_of_ble_eq_true rfl) (by omega) ?_
  refine F_if_neB (tgt := 19) dX5_end_14 rfl (fun c14 => ?_) (fun c14 => ?_)
  · rw [show inR n (nI 0) (σ 116 6) = true from c14] at h
    cases h
  · refine F_iconst (v := nI 0) dX5_end_17 rfl ?_
    refine F_zret dX5_end_18 rfl (by first | exact Or.inl rfl | exact Or.inr rfl | exact bI_01 _) ?_
    exact hQ

theorem m_endB (n : Int32) (h : inR n (nI 0) (σ 116 6) = true) : mV G mX5_end (d + 1) [.ref 116, .int n] σ (some (.int (nI 1))) (up (up σ 116 0 (nI 0)) 116 6 n) := by
  refine mV_of fun Q hQ => ?_
  refine F_aload_n dX5_end_0 rfl ?_
  refine F_iconst (v := nI 0) dX5_end_1 rfl ?_
  refine F_put dX5_end_2 rfl rfl (by first | assumption | rfl) rfl rfl rfl rfl ?_
  refine F_iload_n dX5_end_5 rfl ?_
  refine F_iconst (v := nI 0) dX5_end_6 rfl ?_
  refine F_aload_n dX5_end_7 rfl ?_
  refine F_geti dX5_end_8 rfl rfl (by first | assumption | rfl) rfl ?_
  refine F_cS3i (v_isIn (d := d) _ _ _) dX5_end_11 rfl rfl rfl (by decide) (Nat.le_of_ble_eq_true rfl) (by omega) ?_
  refine F_if_neB (tgt := 19) dX5_end_14 rfl (fun c14 => ?_) (fun c14 => ?_)
  · refine F_aload_n dX5_end_19 rfl ?_
    refine F_iload_n dX5_end_20 rfl ?_
    refine F_put dX5_end_21 rfl rfl (by first | assumption | rfl) rfl rfl rfl rfl ?_
    refine F_iconst (v := nI 1) dX5_end_24 rfl ?_
    refine F_zret dX5_end_25 rfl (by first | exact Or.inl rfl | exact Or.inr rfl | exact bI_01 _) ?_
    exact hQ
  · rw [show inR n (nI 0) (σ 116 6) = false from c14] at h
    cases h

theorem m_fault  : mV G mX5_fault d [.ref 116] σ (some (.int (σ 116 7))) (up σ 116 0 (nI 0)) := by
  refine mV_of fun Q hQ => ?_
  refine F_aload_n dX5_fault_0 rfl ?_
  refine F_iconst (v := nI 0) dX5_fault_1 rfl ?_
  refine F_put dX5_fault_2 rfl rfl (by first | assumption | rfl) rfl rfl rfl rfl ?_
  refine F_aload_n dX5_fault_5 rfl ?_
  refine F_geti dX5_fault_6 rfl rfl (by first | assumption | rfl) rfl ?_
  refine F_iret dX5_fault_9 rfl ?_
  exact hQ

end MP
end
section
/-! ===== the book: what is told ===== -/
theorem dX4_remember_0 : decode cX4_remember 0 = .ok (.aload_n 0, 1) := by decide +kernel
theorem dX4_remember_1 : decode cX4_remember 1 = .ok (.getfield 16, 3) := by decide +kernel
theorem dX4_remember_4 : decode cX4_remember 4 = .ok (.aload_n 0, 1) := by decide +kernel
theorem dX4_remember_5 : decode cX4_remember 5 = .ok (.getfield 125, 3) := by decide +kernel
theorem dX4_remember_8 : decode cX4_remember 8 = .ok (.aaload, 1) := by decide +kernel
theorem dX4_remember_9 : decode cX4_remember 9 = .ok (.aload_n 0, 1) := by decide +kernel
theorem dX4_remember_10 : decode cX4_remember 10 = .ok (.getfield 10, 3) := by decide +kernel
theorem dX4_remember_13 : decode cX4_remember 13 = .ok (.invokevirtual 68, 3) := by decide +kernel
theorem dX4_remember_16 : decode cX4_remember 16 = .ok (.aload_n 0, 1) := by decide +kernel
theorem dX4_remember_17 : decode cX4_remember 17 = .ok (.aload_n 0, 1) := by decide +kernel
theorem dX4_remember_18 : decode cX4_remember 18 = .ok (.getfield 125, 3) := by decide +kernel
theorem dX4_remember_21 : decode cX4_remember 21 = .ok (.iconst 1, 1) := by decide +kernel
theorem dX4_remember_22 : decode cX4_remember 22 = .ok (.iadd, 1) := by decide +kernel
theorem dX4_remember_23 : decode cX4_remember 23 = .ok (.bipush 8, 2) := by decide +kernel
theorem dX4_remember_25 : decode cX4_remember 25 = .ok (.irem, 1) := by decide +kernel
theorem dX4_remember_26 : decode cX4_remember 26 = .ok (.putfield 125, 3) := by decide +kernel
theorem dX4_remember_29 : decode cX4_remember 29 = .ok (.aload_n 0, 1) := by decide +kernel
theorem dX4_remember_30 : decode cX4_remember 30 = .ok (.aload_n 0, 1) := by decide +kernel
theorem dX4_remember_31 : decode cX4_remember 31 = .ok (.getfield 122, 3) := by decide +kernel
theorem dX4_remember_34 : decode cX4_remember 34 = .ok (.iconst 1, 1) := by decide +kernel
theorem dX4_remember_35 : decode cX4_remember 35 = .ok (.iadd, 1) := by decide +kernel
theorem dX4_remember_36 : decode cX4_remember 36 = .ok (.bipush 8, 2) := by decide +kernel
theorem dX4_remember_38 : decode cX4_remember 38 = .ok (.invokestatic 186, 3) := by decide +kernel
theorem dX4_remember_41 : decode cX4_remember 41 = .ok (.putfield 122, 3) := by decide +kernel
theorem dX4_remember_44 : decode cX4_remember 44 = .ok (.return_, 1) := by decide +kernel
theorem dX4_group_0 : decode cX4_group 0 = .ok (.iload_n 1, 1) := by decide +kernel
theorem dX4_group_1 : decode cX4_group 1 = .ok (.invokestatic 75, 3) := by decide +kernel
theorem dX4_group_4 : decode cX4_group 4 = .ok (.ifCond .eq 10, 3) := by decide +kernel
theorem dX4_group_7 : decode cX4_group 7 = .ok (.iload_n 2, 1) := by decide +kernel
theorem dX4_group_8 : decode cX4_group 8 = .ok (.invokestatic 75, 3) := by decide +kernel
theorem dX4_group_11 : decode cX4_group 11 = .ok (.ifCond .ne 5, 3) := by decide +kernel
theorem dX4_group_14 : decode cX4_group 14 = .ok (.iconst (-1), 1) := by decide +kernel
theorem dX4_group_15 : decode cX4_group 15 = .ok (.ireturn, 1) := by decide +kernel
theorem dX4_group_16 : decode cX4_group 16 = .ok (.aload_n 0, 1) := by decide +kernel
theorem dX4_group_17 : decode cX4_group 17 = .ok (.getfield 10, 3) := by decide +kernel
theorem dX4_group_20 : decode cX4_group 20 = .ok (.getfield 79, 3) := by decide +kernel
theorem dX4_group_23 : decode cX4_group 23 = .ok (.bipush 6, 2) := by decide +kernel
theorem dX4_group_25 : decode cX4_group 25 = .ok (.if_icmp .lt 6, 3) := by decide +kernel
theorem dX4_group_28 : decode cX4_group 28 = .ok (.bipush (-2), 2) := by decide +kernel
theorem dX4_group_30 : decode cX4_group 30 = .ok (.ireturn, 1) := by decide +kernel
theorem dX4_group_31 : decode cX4_group 31 = .ok (.aload_n 0, 1) := by decide +kernel
theorem dX4_group_32 : decode cX4_group 32 = .ok (.invokevirtual 62, 3) := by decide +kernel
theorem dX4_group_35 : decode cX4_group 35 = .ok (.aload_n 0, 1) := by decide +kernel
theorem dX4_group_36 : decode cX4_group 36 = .ok (.getfield 10, 3) := by decide +kernel
theorem dX4_group_39 : decode cX4_group 39 = .ok (.iload_n 1, 1) := by decide +kernel
theorem dX4_group_40 : decode cX4_group 40 = .ok (.iload_n 2, 1) := by decide +kernel
theorem dX4_group_41 : decode cX4_group 41 = .ok (.invokevirtual 82, 3) := by decide +kernel
theorem dX4_group_44 : decode cX4_group 44 = .ok (.aload_n 0, 1) := by decide +kernel
theorem dX4_group_45 : decode cX4_group 45 = .ok (.getfield 10, 3) := by decide +kernel
theorem dX4_group_48 : decode cX4_group 48 = .ok (.getfield 79, 3) := by decide +kernel
theorem dX4_group_51 : decode cX4_group 51 = .ok (.iconst 1, 1) := by decide +kernel
theorem dX4_group_52 : decode cX4_group 52 = .ok (.isub, 1) := by decide +kernel
theorem dX4_group_53 : decode cX4_group 53 = .ok (.ireturn, 1) := by decide +kernel
theorem dX4_load_0 : decode cX4_load 0 = .ok (.iload_n 1, 1) := by decide +kernel
theorem dX4_load_1 : decode cX4_load 1 = .ok (.ifCond .le 33, 3) := by decide +kernel
theorem dX4_load_4 : decode cX4_load 4 = .ok (.iload_n 1, 1) := by decide +kernel
theorem dX4_load_5 : decode cX4_load 5 = .ok (.bipush 6, 2) := by decide +kernel
theorem dX4_load_7 : decode cX4_load 7 = .ok (.if_icmp .ge 27, 3) := by decide +kernel
theorem dX4_load_10 : decode cX4_load 10 = .ok (.iload_n 2, 1) := by decide +kernel
theorem dX4_load_11 : decode cX4_load 11 = .ok (.ifCond .lt 23, 3) := by decide +kernel
theorem dX4_load_14 : decode cX4_load 14 = .ok (.iload_n 2, 1) := by decide +kernel
theorem dX4_load_15 : decode cX4_load 15 = .ok (.sipush 300, 3) := by decide +kernel
theorem dX4_load_18 : decode cX4_load 18 = .ok (.if_icmp .gt 16, 3) := by decide +kernel
theorem dX4_load_21 : decode cX4_load 21 = .ok (.aload_n 0, 1) := by decide +kernel
theorem dX4_load_22 : decode cX4_load 22 = .ok (.getfield 10, 3) := by decide +kernel
theorem dX4_load_25 : decode cX4_load 25 = .ok (.getfield 86, 3) := by decide +kernel
theorem dX4_load_28 : decode cX4_load 28 = .ok (.iload_n 1, 1) := by decide +kernel
theorem dX4_load_29 : decode cX4_load 29 = .ok (.iaload, 1) := by decide +kernel
theorem dX4_load_30 : decode cX4_load 30 = .ok (.iload_n 2, 1) := by decide +kernel
theorem dX4_load_31 : decode cX4_load 31 = .ok (.if_icmp .ne 5, 3) := by decide +kernel
theorem dX4_load_34 : decode cX4_load 34 = .ok (.iconst 0, 1) := by decide +kernel
theorem dX4_load_35 : decode cX4_load 35 = .ok (.ireturn, 1) := by decide +kernel
theorem dX4_load_36 : decode cX4_load 36 = .ok (.aload_n 0, 1) := by decide +kernel
theorem dX4_load_37 : decode cX4_load 37 = .ok (.getfield 10, 3) := by decide +kernel
theorem dX4_load_40 : decode cX4_load 40 = .ok (.getfield 86, 3) := by decide +kernel
theorem dX4_load_43 : decode cX4_load 43 = .ok (.iload_n 1, 1) := by decide +kernel
theorem dX4_load_44 : decode cX4_load 44 = .ok (.iload_n 2, 1) := by decide +kernel
theorem dX4_load_45 : decode cX4_load 45 = .ok (.iastore, 1) := by decide +kernel
theorem dX4_load_46 : decode cX4_load 46 = .ok (.iconst 1, 1) := by decide +kernel
theorem dX4_load_47 : decode cX4_load 47 = .ok (.ireturn, 1) := by decide +kernel
theorem dX4_set_0 : decode cX4_set 0 = .ok (.iload_n 1, 1) := by decide +kernel
theorem dX4_set_1 : decode cX4_set 1 = .ok (.iload_n 2, 1) := by decide +kernel
theorem dX4_set_2 : decode cX4_set 2 = .ok (.invokestatic 89, 3) := by decide +kernel
theorem dX4_set_5 : decode cX4_set 5 = .ok (.ifCond .eq 16, 3) := by decide +kernel
theorem dX4_set_8 : decode cX4_set 8 = .ok (.aload_n 0, 1) := by decide +kernel
theorem dX4_set_9 : decode cX4_set 9 = .ok (.getfield 10, 3) := by decide +kernel
theorem dX4_set_12 : decode cX4_set 12 = .ok (.getfield 93, 3) := by decide +kernel
theorem dX4_set_15 : decode cX4_set 15 = .ok (.iload_n 1, 1) := by decide +kernel
theorem dX4_set_16 : decode cX4_set 16 = .ok (.iaload, 1) := by decide +kernel
theorem dX4_set_17 : decode cX4_set 17 = .ok (.iload_n 2, 1) := by decide +kernel
theorem dX4_set_18 : decode cX4_set 18 = .ok (.if_icmp .ne 5, 3) := by decide +kernel
theorem dX4_set_21 : decode cX4_set 21 = .ok (.iconst 0, 1) := by decide +kernel
theorem dX4_set_22 : decode cX4_set 22 = .ok (.ireturn, 1) := by decide +kernel
theorem dX4_set_23 : decode cX4_set 23 = .ok (.aload_n 0, 1) := by decide +kernel
theorem dX4_set_24 : decode cX4_set 24 = .ok (.getfield 10, 3) := by decide +kernel
theorem dX4_set_27 : decode cX4_set 27 = .ok (.getfield 93, 3) := by decide +kernel
theorem dX4_set_30 : decode cX4_set 30 = .ok (.iload_n 1, 1) := by decide +kernel
theorem dX4_set_31 : decode cX4_set 31 = .ok (.iload_n 2, 1) := by decide +kernel
theorem dX4_set_32 : decode cX4_set 32 = .ok (.iastore, 1) := by decide +kernel
theorem dX4_set_33 : decode cX4_set 33 = .ok (.iconst 1, 1) := by decide +kernel
theorem dX4_set_34 : decode cX4_set 34 = .ok (.ireturn, 1) := by decide +kernel
theorem dX4_camp_0 : decode cX4_camp 0 = .ok (.iload_n 1, 1) := by decide +kernel
theorem dX4_camp_1 : decode cX4_camp 1 = .ok (.iload_n 2, 1) := by decide +kernel
theorem dX4_camp_2 : decode cX4_camp 2 = .ok (.invokestatic 96, 3) := by decide +kernel
theorem dX4_camp_5 : decode cX4_camp 5 = .ok (.ifCond .ne 5, 3) := by decide +kernel
theorem dX4_camp_8 : decode cX4_camp 8 = .ok (.iconst (-1), 1) := by decide +kernel
theorem dX4_camp_9 : decode cX4_camp 9 = .ok (.ireturn, 1) := by decide +kernel
theorem dX4_camp_10 : decode cX4_camp 10 = .ok (.aload_n 0, 1) := by decide +kernel
theorem dX4_camp_11 : decode cX4_camp 11 = .ok (.getfield 10, 3) := by decide +kernel
theorem dX4_camp_14 : decode cX4_camp 14 = .ok (.getfield 99, 3) := by decide +kernel
theorem dX4_camp_17 : decode cX4_camp 17 = .ok (.iconst 4, 1) := by decide +kernel
theorem dX4_camp_18 : decode cX4_camp 18 = .ok (.if_icmp .lt 6, 3) := by decide +kernel
theorem dX4_camp_21 : decode cX4_camp 21 = .ok (.bipush (-2), 2) := by decide +kernel
theorem dX4_camp_23 : decode cX4_camp 23 = .ok (.ireturn, 1) := by decide +kernel
theorem dX4_camp_24 : decode cX4_camp 24 = .ok (.aload_n 0, 1) := by decide +kernel
theorem dX4_camp_25 : decode cX4_camp 25 = .ok (.invokevirtual 62, 3) := by decide +kernel
theorem dX4_camp_28 : decode cX4_camp 28 = .ok (.aload_n 0, 1) := by decide +kernel
theorem dX4_camp_29 : decode cX4_camp 29 = .ok (.getfield 10, 3) := by decide +kernel
theorem dX4_camp_32 : decode cX4_camp 32 = .ok (.iload_n 1, 1) := by decide +kernel
theorem dX4_camp_33 : decode cX4_camp 33 = .ok (.iload_n 2, 1) := by decide +kernel
theorem dX4_camp_34 : decode cX4_camp 34 = .ok (.invokevirtual 102, 3) := by decide +kernel
theorem dX4_camp_37 : decode cX4_camp 37 = .ok (.aload_n 0, 1) := by decide +kernel
theorem dX4_camp_38 : decode cX4_camp 38 = .ok (.getfield 10, 3) := by decide +kernel
theorem dX4_camp_41 : decode cX4_camp 41 = .ok (.getfield 99, 3) := by decide +kernel
theorem dX4_camp_44 : decode cX4_camp 44 = .ok (.iconst 1, 1) := by decide +kernel
theorem dX4_camp_45 : decode cX4_camp 45 = .ok (.isub, 1) := by decide +kernel
theorem dX4_camp_46 : decode cX4_camp 46 = .ok (.ireturn, 1) := by decide +kernel
theorem dX4_strike_0 : decode cX4_strike 0 = .ok (.aload_n 0, 1) := by decide +kernel
theorem dX4_strike_1 : decode cX4_strike 1 = .ok (.getfield 10, 3) := by decide +kernel
theorem dX4_strike_4 : decode cX4_strike 4 = .ok (.iload_n 1, 1) := by decide +kernel
theorem dX4_strike_5 : decode cX4_strike 5 = .ok (.invokevirtual 105, 3) := by decide +kernel
theorem dX4_strike_8 : decode cX4_strike 8 = .ok (.ifCond .ne 5, 3) := by decide +kernel
theorem dX4_strike_11 : decode cX4_strike 11 = .ok (.iconst (-1), 1) := by decide +kernel
theorem dX4_strike_12 : decode cX4_strike 12 = .ok (.ireturn, 1) := by decide +kernel
theorem dX4_strike_13 : decode cX4_strike 13 = .ok (.aload_n 0, 1) := by decide +kernel
theorem dX4_strike_14 : decode cX4_strike 14 = .ok (.invokevirtual 62, 3) := by decide +kernel
theorem dX4_strike_17 : decode cX4_strike 17 = .ok (.aload_n 0, 1) := by decide +kernel
theorem dX4_strike_18 : decode cX4_strike 18 = .ok (.getfield 10, 3) := by decide +kernel
theorem dX4_strike_21 : decode cX4_strike 21 = .ok (.iload_n 1, 1) := by decide +kernel
theorem dX4_strike_22 : decode cX4_strike 22 = .ok (.invokevirtual 108, 3) := by decide +kernel
theorem dX4_strike_25 : decode cX4_strike 25 = .ok (.aload_n 0, 1) := by decide +kernel
theorem dX4_strike_26 : decode cX4_strike 26 = .ok (.getfield 10, 3) := by decide +kernel
theorem dX4_strike_29 : decode cX4_strike 29 = .ok (.getfield 99, 3) := by decide +kernel
theorem dX4_strike_32 : decode cX4_strike 32 = .ok (.ireturn, 1) := by decide +kernel
theorem dX4_plan_0 : decode cX4_plan 0 = .ok (.aload_n 0, 1) := by decide +kernel
theorem dX4_plan_1 : decode cX4_plan 1 = .ok (.getfield 10, 3) := by decide +kernel
theorem dX4_plan_4 : decode cX4_plan 4 = .ok (.iload_n 1, 1) := by decide +kernel
theorem dX4_plan_5 : decode cX4_plan 5 = .ok (.invokevirtual 111, 3) := by decide +kernel
theorem dX4_plan_8 : decode cX4_plan 8 = .ok (.ifCond .eq 23, 3) := by decide +kernel
theorem dX4_plan_11 : decode cX4_plan 11 = .ok (.iload_n 2, 1) := by decide +kernel
theorem dX4_plan_12 : decode cX4_plan 12 = .ok (.iload_n 3, 1) := by decide +kernel
theorem dX4_plan_13 : decode cX4_plan 13 = .ok (.invokestatic 96, 3) := by decide +kernel
theorem dX4_plan_16 : decode cX4_plan 16 = .ok (.ifCond .eq 15, 3) := by decide +kernel
theorem dX4_plan_19 : decode cX4_plan 19 = .ok (.iload 4, 2) := by decide +kernel
theorem dX4_plan_21 : decode cX4_plan 21 = .ok (.ifCond .lt 10, 3) := by decide +kernel
theorem dX4_plan_24 : decode cX4_plan 24 = .ok (.iload 4, 2) := by decide +kernel
theorem dX4_plan_26 : decode cX4_plan 26 = .ok (.bipush 6, 2) := by decide +kernel
theorem dX4_plan_28 : decode cX4_plan 28 = .ok (.if_icmp .lt 5, 3) := by decide +kernel
theorem dX4_plan_31 : decode cX4_plan 31 = .ok (.iconst (-1), 1) := by decide +kernel
theorem dX4_plan_32 : decode cX4_plan 32 = .ok (.ireturn, 1) := by decide +kernel
theorem dX4_plan_33 : decode cX4_plan 33 = .ok (.aload_n 0, 1) := by decide +kernel
theorem dX4_plan_34 : decode cX4_plan 34 = .ok (.getfield 10, 3) := by decide +kernel
theorem dX4_plan_37 : decode cX4_plan 37 = .ok (.iload_n 1, 1) := by decide +kernel
theorem dX4_plan_38 : decode cX4_plan 38 = .ok (.iload_n 2, 1) := by decide +kernel
theorem dX4_plan_39 : decode cX4_plan 39 = .ok (.iload_n 3, 1) := by decide +kernel
theorem dX4_plan_40 : decode cX4_plan 40 = .ok (.iload 4, 2) := by decide +kernel
theorem dX4_plan_42 : decode cX4_plan 42 = .ok (.invokevirtual 114, 3) := by decide +kernel
theorem dX4_plan_45 : decode cX4_plan 45 = .ok (.istore 5, 2) := by decide +kernel
theorem dX4_plan_47 : decode cX4_plan 47 = .ok (.iload 5, 2) := by decide +kernel
theorem dX4_plan_49 : decode cX4_plan 49 = .ok (.ifCond .le 19, 3) := by decide +kernel
theorem dX4_plan_52 : decode cX4_plan 52 = .ok (.aload_n 0, 1) := by decide +kernel
theorem dX4_plan_53 : decode cX4_plan 53 = .ok (.invokevirtual 62, 3) := by decide +kernel
theorem dX4_plan_56 : decode cX4_plan 56 = .ok (.aload_n 0, 1) := by decide +kernel
theorem dX4_plan_57 : decode cX4_plan 57 = .ok (.getfield 10, 3) := by decide +kernel
theorem dX4_plan_60 : decode cX4_plan 60 = .ok (.iload_n 1, 1) := by decide +kernel
theorem dX4_plan_61 : decode cX4_plan 61 = .ok (.iload_n 2, 1) := by decide +kernel
theorem dX4_plan_62 : decode cX4_plan 62 = .ok (.iload_n 3, 1) := by decide +kernel
theorem dX4_plan_63 : decode cX4_plan 63 = .ok (.iload 4, 2) := by decide +kernel
theorem dX4_plan_65 : decode cX4_plan 65 = .ok (.invokevirtual 118, 3) := by decide +kernel
theorem dX4_plan_68 : decode cX4_plan 68 = .ok (.iload 5, 2) := by decide +kernel
theorem dX4_plan_70 : decode cX4_plan 70 = .ok (.ireturn, 1) := by decide +kernel
theorem dX4_undo_0 : decode cX4_undo 0 = .ok (.aload_n 0, 1) := by decide +kernel
theorem dX4_undo_1 : decode cX4_undo 1 = .ok (.getfield 122, 3) := by decide +kernel
theorem dX4_undo_4 : decode cX4_undo 4 = .ok (.ifCond .ne 5, 3) := by decide +kernel
theorem dX4_undo_7 : decode cX4_undo 7 = .ok (.iconst (-1), 1) := by decide +kernel
theorem dX4_undo_8 : decode cX4_undo 8 = .ok (.ireturn, 1) := by decide +kernel
theorem dX4_undo_9 : decode cX4_undo 9 = .ok (.aload_n 0, 1) := by decide +kernel
theorem dX4_undo_10 : decode cX4_undo 10 = .ok (.dup, 1) := by decide +kernel
theorem dX4_undo_11 : decode cX4_undo 11 = .ok (.getfield 122, 3) := by decide +kernel
theorem dX4_undo_14 : decode cX4_undo 14 = .ok (.iconst 1, 1) := by decide +kernel
theorem dX4_undo_15 : decode cX4_undo 15 = .ok (.isub, 1) := by decide +kernel
theorem dX4_undo_16 : decode cX4_undo 16 = .ok (.putfield 122, 3) := by decide +kernel
theorem dX4_undo_19 : decode cX4_undo 19 = .ok (.aload_n 0, 1) := by decide +kernel
theorem dX4_undo_20 : decode cX4_undo 20 = .ok (.aload_n 0, 1) := by decide +kernel
theorem dX4_undo_21 : decode cX4_undo 21 = .ok (.getfield 125, 3) := by decide +kernel
theorem dX4_undo_24 : decode cX4_undo 24 = .ok (.bipush 8, 2) := by decide +kernel
theorem dX4_undo_26 : decode cX4_undo 26 = .ok (.iadd, 1) := by decide +kernel
theorem dX4_undo_27 : decode cX4_undo 27 = .ok (.iconst 1, 1) := by decide +kernel
theorem dX4_undo_28 : decode cX4_undo 28 = .ok (.isub, 1) := by decide +kernel
theorem dX4_undo_29 : decode cX4_undo 29 = .ok (.bipush 8, 2) := by decide +kernel
theorem dX4_undo_31 : decode cX4_undo 31 = .ok (.irem, 1) := by decide +kernel
theorem dX4_undo_32 : decode cX4_undo 32 = .ok (.putfield 125, 3) := by decide +kernel
theorem dX4_undo_35 : decode cX4_undo 35 = .ok (.aload_n 0, 1) := by decide +kernel
theorem dX4_undo_36 : decode cX4_undo 36 = .ok (.getfield 10, 3) := by decide +kernel
theorem dX4_undo_39 : decode cX4_undo 39 = .ok (.aload_n 0, 1) := by decide +kernel
theorem dX4_undo_40 : decode cX4_undo 40 = .ok (.getfield 16, 3) := by decide +kernel
theorem dX4_undo_43 : decode cX4_undo 43 = .ok (.aload_n 0, 1) := by decide +kernel
theorem dX4_undo_44 : decode cX4_undo 44 = .ok (.getfield 125, 3) := by decide +kernel
theorem dX4_undo_47 : decode cX4_undo 47 = .ok (.aaload, 1) := by decide +kernel
theorem dX4_undo_48 : decode cX4_undo 48 = .ok (.invokevirtual 68, 3) := by decide +kernel
theorem dX4_undo_51 : decode cX4_undo 51 = .ok (.aload_n 0, 1) := by decide +kernel
theorem dX4_undo_52 : decode cX4_undo 52 = .ok (.getfield 122, 3) := by decide +kernel
theorem dX4_undo_55 : decode cX4_undo 55 = .ok (.ireturn, 1) := by decide +kernel
theorem dX4_count_0 : decode cX4_count 0 = .ok (.iload_n 1, 1) := by decide +kernel
theorem dX4_count_1 : decode cX4_count 1 = .ok (.tableswitch 63 0 3 #[31, 39, 47, 58], 31) := by decide +kernel
theorem dX4_count_32 : decode cX4_count 32 = .ok (.aload_n 0, 1) := by decide +kernel
theorem dX4_count_33 : decode cX4_count 33 = .ok (.getfield 10, 3) := by decide +kernel
theorem dX4_count_36 : decode cX4_count 36 = .ok (.getfield 79, 3) := by decide +kernel
theorem dX4_count_39 : decode cX4_count 39 = .ok (.ireturn, 1) := by decide +kernel
theorem dX4_count_40 : decode cX4_count 40 = .ok (.aload_n 0, 1) := by decide +kernel
theorem dX4_count_41 : decode cX4_count 41 = .ok (.getfield 10, 3) := by decide +kernel
theorem dX4_count_44 : decode cX4_count 44 = .ok (.getfield 99, 3) := by decide +kernel
theorem dX4_count_47 : decode cX4_count 47 = .ok (.ireturn, 1) := by decide +kernel
theorem dX4_count_48 : decode cX4_count 48 = .ok (.aload_n 0, 1) := by decide +kernel
theorem dX4_count_49 : decode cX4_count 49 = .ok (.getfield 23, 3) := by decide +kernel
theorem dX4_count_52 : decode cX4_count 52 = .ok (.getfield 41, 3) := by decide +kernel
theorem dX4_count_55 : decode cX4_count 55 = .ok (.getfield 45, 3) := by decide +kernel
theorem dX4_count_58 : decode cX4_count 58 = .ok (.ireturn, 1) := by decide +kernel
theorem dX4_count_59 : decode cX4_count 59 = .ok (.aload_n 0, 1) := by decide +kernel
theorem dX4_count_60 : decode cX4_count 60 = .ok (.getfield 122, 3) := by decide +kernel
theorem dX4_count_63 : decode cX4_count 63 = .ok (.ireturn, 1) := by decide +kernel
theorem dX4_count_64 : decode cX4_count 64 = .ok (.aload_n 0, 1) := by decide +kernel
theorem dX4_count_65 : decode cX4_count 65 = .ok (.iload_n 1, 1) := by decide +kernel
theorem dX4_count_66 : decode cX4_count 66 = .ok (.invokevirtual 128, 3) := by decide +kernel
theorem dX4_count_69 : decode cX4_count 69 = .ok (.ireturn, 1) := by decide +kernel
theorem dX4_countNumber_0 : decode cX4_countNumber 0 = .ok (.iload_n 1, 1) := by decide +kernel
theorem dX4_countNumber_1 : decode cX4_countNumber 1 = .ok (.bipush 10, 2) := by decide +kernel
theorem dX4_countNumber_3 : decode cX4_countNumber 3 = .ok (.if_icmp .lt 22, 3) := by decide +kernel
theorem dX4_countNumber_6 : decode cX4_countNumber 6 = .ok (.iload_n 1, 1) := by decide +kernel
theorem dX4_countNumber_7 : decode cX4_countNumber 7 = .ok (.bipush 16, 2) := by decide +kernel
theorem dX4_countNumber_9 : decode cX4_countNumber 9 = .ok (.if_icmp .ge 16, 3) := by decide +kernel
theorem dX4_countNumber_12 : decode cX4_countNumber 12 = .ok (.aload_n 0, 1) := by decide +kernel
theorem dX4_countNumber_13 : decode cX4_countNumber 13 = .ok (.getfield 10, 3) := by decide +kernel
theorem dX4_countNumber_16 : decode cX4_countNumber 16 = .ok (.getfield 86, 3) := by decide +kernel
theorem dX4_countNumber_19 : decode cX4_countNumber 19 = .ok (.iload_n 1, 1) := by decide +kernel
theorem dX4_countNumber_20 : decode cX4_countNumber 20 = .ok (.bipush 10, 2) := by decide +kernel
theorem dX4_countNumber_22 : decode cX4_countNumber 22 = .ok (.isub, 1) := by decide +kernel
theorem dX4_countNumber_23 : decode cX4_countNumber 23 = .ok (.iaload, 1) := by decide +kernel
theorem dX4_countNumber_24 : decode cX4_countNumber 24 = .ok (.ireturn, 1) := by decide +kernel
theorem dX4_countNumber_25 : decode cX4_countNumber 25 = .ok (.iload_n 1, 1) := by decide +kernel
theorem dX4_countNumber_26 : decode cX4_countNumber 26 = .ok (.bipush 20, 2) := by decide +kernel
theorem dX4_countNumber_28 : decode cX4_countNumber 28 = .ok (.if_icmp .lt 22, 3) := by decide +kernel
theorem dX4_countNumber_31 : decode cX4_countNumber 31 = .ok (.iload_n 1, 1) := by decide +kernel
theorem dX4_countNumber_32 : decode cX4_countNumber 32 = .ok (.bipush 28, 2) := by decide +kernel
theorem dX4_countNumber_34 : decode cX4_countNumber 34 = .ok (.if_icmp .ge 16, 3) := by decide +kernel
theorem dX4_countNumber_37 : decode cX4_countNumber 37 = .ok (.aload_n 0, 1) := by decide +kernel
theorem dX4_countNumber_38 : decode cX4_countNumber 38 = .ok (.getfield 10, 3) := by decide +kernel
theorem dX4_countNumber_41 : decode cX4_countNumber 41 = .ok (.getfield 93, 3) := by decide +kernel
theorem dX4_countNumber_44 : decode cX4_countNumber 44 = .ok (.iload_n 1, 1) := by decide +kernel
theorem dX4_countNumber_45 : decode cX4_countNumber 45 = .ok (.bipush 20, 2) := by decide +kernel
theorem dX4_countNumber_47 : decode cX4_countNumber 47 = .ok (.isub, 1) := by decide +kernel
theorem dX4_countNumber_48 : decode cX4_countNumber 48 = .ok (.iaload, 1) := by decide +kernel
theorem dX4_countNumber_49 : decode cX4_countNumber 49 = .ok (.ireturn, 1) := by decide +kernel
theorem dX4_countNumber_50 : decode cX4_countNumber 50 = .ok (.iconst (-1), 1) := by decide +kernel
theorem dX4_countNumber_51 : decode cX4_countNumber 51 = .ok (.ireturn, 1) := by decide +kernel
theorem dX4_feed_0 : decode cX4_feed 0 = .ok (.aload_n 0, 1) := by decide +kernel
theorem dX4_feed_1 : decode cX4_feed 1 = .ok (.getfield 23, 3) := by decide +kernel
theorem dX4_feed_4 : decode cX4_feed 4 = .ok (.getfield 41, 3) := by decide +kernel
theorem dX4_feed_7 : decode cX4_feed 7 = .ok (.astore 6, 2) := by decide +kernel
theorem dX4_feed_9 : decode cX4_feed 9 = .ok (.aload 6, 2) := by decide +kernel
theorem dX4_feed_11 : decode cX4_feed 11 = .ok (.getfield 45, 3) := by decide +kernel
theorem dX4_feed_14 : decode cX4_feed 14 = .ok (.sipush 380, 3) := by decide +kernel
theorem dX4_feed_17 : decode cX4_feed 17 = .ok (.if_icmp .le 5, 3) := by decide +kernel
theorem dX4_feed_20 : decode cX4_feed 20 = .ok (.iconst (-1), 1) := by decide +kernel
theorem dX4_feed_21 : decode cX4_feed 21 = .ok (.ireturn, 1) := by decide +kernel
theorem dX4_feed_22 : decode cX4_feed 22 = .ok (.aload 6, 2) := by decide +kernel
theorem dX4_feed_24 : decode cX4_feed 24 = .ok (.iload_n 1, 1) := by decide +kernel
theorem dX4_feed_25 : decode cX4_feed 25 = .ok (.invokevirtual 51, 3) := by decide +kernel
theorem dX4_feed_28 : decode cX4_feed 28 = .ok (.aload 6, 2) := by decide +kernel
theorem dX4_feed_30 : decode cX4_feed 30 = .ok (.iload_n 2, 1) := by decide +kernel
theorem dX4_feed_31 : decode cX4_feed 31 = .ok (.invokevirtual 51, 3) := by decide +kernel
theorem dX4_feed_34 : decode cX4_feed 34 = .ok (.aload 6, 2) := by decide +kernel
theorem dX4_feed_36 : decode cX4_feed 36 = .ok (.iload_n 3, 1) := by decide +kernel
theorem dX4_feed_37 : decode cX4_feed 37 = .ok (.invokevirtual 51, 3) := by decide +kernel
theorem dX4_feed_40 : decode cX4_feed 40 = .ok (.aload 6, 2) := by decide +kernel
theorem dX4_feed_42 : decode cX4_feed 42 = .ok (.iload 4, 2) := by decide +kernel
theorem dX4_feed_44 : decode cX4_feed 44 = .ok (.invokevirtual 51, 3) := by decide +kernel
theorem dX4_feed_47 : decode cX4_feed 47 = .ok (.aload 6, 2) := by decide +kernel
theorem dX4_feed_49 : decode cX4_feed 49 = .ok (.iload 5, 2) := by decide +kernel
theorem dX4_feed_51 : decode cX4_feed 51 = .ok (.invokevirtual 51, 3) := by decide +kernel
theorem dX4_feed_54 : decode cX4_feed 54 = .ok (.aload 6, 2) := by decide +kernel
theorem dX4_feed_56 : decode cX4_feed 56 = .ok (.getfield 45, 3) := by decide +kernel
theorem dX4_feed_59 : decode cX4_feed 59 = .ok (.ireturn, 1) := by decide +kernel
theorem dX4_end_0 : decode cX4_end 0 = .ok (.iload_n 1, 1) := by decide +kernel
theorem dX4_end_1 : decode cX4_end 1 = .ok (.ifCond .lt 17, 3) := by decide +kernel
theorem dX4_end_4 : decode cX4_end 4 = .ok (.iload_n 1, 1) := by decide +kernel
theorem dX4_end_5 : decode cX4_end 5 = .ok (.aload_n 0, 1) := by decide +kernel
theorem dX4_end_6 : decode cX4_end 6 = .ok (.getfield 23, 3) := by decide +kernel
theorem dX4_end_9 : decode cX4_end 9 = .ok (.getfield 41, 3) := by decide +kernel
theorem dX4_end_12 : decode cX4_end 12 = .ok (.getfield 45, 3) := by decide +kernel
theorem dX4_end_15 : decode cX4_end 15 = .ok (.if_icmp .le 5, 3) := by decide +kernel
theorem dX4_end_18 : decode cX4_end 18 = .ok (.iconst 0, 1) := by decide +kernel
theorem dX4_end_19 : decode cX4_end 19 = .ok (.ireturn, 1) := by decide +kernel
theorem dX4_end_20 : decode cX4_end 20 = .ok (.aload_n 0, 1) := by decide +kernel
theorem dX4_end_21 : decode cX4_end 21 = .ok (.getfield 23, 3) := by decide +kernel
theorem dX4_end_24 : decode cX4_end 24 = .ok (.getfield 41, 3) := by decide +kernel
theorem dX4_end_27 : decode cX4_end 27 = .ok (.iload_n 1, 1) := by decide +kernel
theorem dX4_end_28 : decode cX4_end 28 = .ok (.putfield 45, 3) := by decide +kernel
theorem dX4_end_31 : decode cX4_end 31 = .ok (.iconst 1, 1) := by decide +kernel
theorem dX4_end_32 : decode cX4_end 32 = .ok (.ireturn, 1) := by decide +kernel
theorem dX4_fault_0 : decode cX4_fault 0 = .ok (.aload_n 0, 1) := by decide +kernel
theorem dX4_fault_1 : decode cX4_fault 1 = .ok (.getfield 23, 3) := by decide +kernel
theorem dX4_fault_4 : decode cX4_fault 4 = .ok (.getfield 72, 3) := by decide +kernel
theorem dX4_fault_7 : decode cX4_fault 7 = .ok (.ireturn, 1) := by decide +kernel
theorem dX4_canBeAtFirst_0 : decode cX4_canBeAtFirst 0 = .ok (.iload_n 0, 1) := by decide +kernel
theorem dX4_canBeAtFirst_1 : decode cX4_canBeAtFirst 1 = .ok (.ifCond .lt 14, 3) := by decide +kernel
theorem dX4_canBeAtFirst_4 : decode cX4_canBeAtFirst 4 = .ok (.iload_n 0, 1) := by decide +kernel
theorem dX4_canBeAtFirst_5 : decode cX4_canBeAtFirst 5 = .ok (.sipush 9999, 3) := by decide +kernel
theorem dX4_canBeAtFirst_8 : decode cX4_canBeAtFirst 8 = .ok (.if_icmp .gt 7, 3) := by decide +kernel
theorem dX4_canBeAtFirst_11 : decode cX4_canBeAtFirst 11 = .ok (.iconst 1, 1) := by decide +kernel
theorem dX4_canBeAtFirst_12 : decode cX4_canBeAtFirst 12 = .ok (.goto 4, 3) := by decide +kernel
theorem dX4_canBeAtFirst_15 : decode cX4_canBeAtFirst 15 = .ok (.iconst 0, 1) := by decide +kernel
theorem dX4_canBeAtFirst_16 : decode cX4_canBeAtFirst 16 = .ok (.ireturn, 1) := by decide +kernel
theorem dX4_canBeSetting_0 : decode cX4_canBeSetting 0 = .ok (.iload_n 0, 1) := by decide +kernel
theorem dX4_canBeSetting_1 : decode cX4_canBeSetting 1 = .ok (.ifCond .lt 31, 3) := by decide +kernel
theorem dX4_canBeSetting_4 : decode cX4_canBeSetting 4 = .ok (.iload_n 0, 1) := by decide +kernel
theorem dX4_canBeSetting_5 : decode cX4_canBeSetting 5 = .ok (.bipush 8, 2) := by decide +kernel
theorem dX4_canBeSetting_7 : decode cX4_canBeSetting 7 = .ok (.if_icmp .ge 25, 3) := by decide +kernel
theorem dX4_canBeSetting_10 : decode cX4_canBeSetting 10 = .ok (.iload_n 1, 1) := by decide +kernel
theorem dX4_canBeSetting_11 : decode cX4_canBeSetting 11 = .ok (.getstatic 213, 3) := by decide +kernel
theorem dX4_canBeSetting_14 : decode cX4_canBeSetting 14 = .ok (.iload_n 0, 1) := by decide +kernel
theorem dX4_canBeSetting_15 : decode cX4_canBeSetting 15 = .ok (.iaload, 1) := by decide +kernel
theorem dX4_canBeSetting_16 : decode cX4_canBeSetting 16 = .ok (.if_icmp .lt 16, 3) := by decide +kernel
theorem dX4_canBeSetting_19 : decode cX4_canBeSetting 19 = .ok (.iload_n 1, 1) := by decide +kernel
theorem dX4_canBeSetting_20 : decode cX4_canBeSetting 20 = .ok (.getstatic 216, 3) := by decide +kernel
theorem dX4_canBeSetting_23 : decode cX4_canBeSetting 23 = .ok (.iload_n 0, 1) := by decide +kernel
theorem dX4_canBeSetting_24 : decode cX4_canBeSetting 24 = .ok (.iaload, 1) := by decide +kernel
theorem dX4_canBeSetting_25 : decode cX4_canBeSetting 25 = .ok (.if_icmp .gt 7, 3) := by decide +kernel
theorem dX4_canBeSetting_28 : decode cX4_canBeSetting 28 = .ok (.iconst 1, 1) := by decide +kernel
theorem dX4_canBeSetting_29 : decode cX4_canBeSetting 29 = .ok (.goto 4, 3) := by decide +kernel
theorem dX4_canBeSetting_32 : decode cX4_canBeSetting 32 = .ok (.iconst 0, 1) := by decide +kernel
theorem dX4_canBeSetting_33 : decode cX4_canBeSetting 33 = .ok (.ireturn, 1) := by decide +kernel
theorem dX4_areDays_0 : decode cX4_areDays 0 = .ok (.iload_n 0, 1) := by decide +kernel
theorem dX4_areDays_1 : decode cX4_areDays 1 = .ok (.invokestatic 145, 3) := by decide +kernel
theorem dX4_areDays_4 : decode cX4_areDays 4 = .ok (.ifCond .eq 19, 3) := by decide +kernel
theorem dX4_areDays_7 : decode cX4_areDays 7 = .ok (.iload_n 1, 1) := by decide +kernel
theorem dX4_areDays_8 : decode cX4_areDays 8 = .ok (.invokestatic 145, 3) := by decide +kernel
theorem dX4_areDays_11 : decode cX4_areDays 11 = .ok (.ifCond .eq 12, 3) := by decide +kernel
theorem dX4_areDays_14 : decode cX4_areDays 14 = .ok (.iload_n 0, 1) := by decide +kernel
theorem dX4_areDays_15 : decode cX4_areDays 15 = .ok (.iload_n 1, 1) := by decide +kernel
theorem dX4_areDays_16 : decode cX4_areDays 16 = .ok (.if_icmp .gt 7, 3) := by decide +kernel
theorem dX4_areDays_19 : decode cX4_areDays 19 = .ok (.iconst 1, 1) := by decide +kernel
theorem dX4_areDays_20 : decode cX4_areDays 20 = .ok (.goto 4, 3) := by decide +kernel
theorem dX4_areDays_23 : decode cX4_areDays 23 = .ok (.iconst 0, 1) := by decide +kernel
theorem dX4_areDays_24 : decode cX4_areDays 24 = .ok (.ireturn, 1) := by decide +kernel
theorem dX4_isDay_0 : decode cX4_isDay 0 = .ok (.iload_n 0, 1) := by decide +kernel
theorem dX4_isDay_1 : decode cX4_isDay 1 = .ok (.ifCond .lt 13, 3) := by decide +kernel
theorem dX4_isDay_4 : decode cX4_isDay 4 = .ok (.iload_n 0, 1) := by decide +kernel
theorem dX4_isDay_5 : decode cX4_isDay 5 = .ok (.bipush 70, 2) := by decide +kernel
theorem dX4_isDay_7 : decode cX4_isDay 7 = .ok (.if_icmp .ge 7, 3) := by decide +kernel
theorem dX4_isDay_10 : decode cX4_isDay 10 = .ok (.iconst 1, 1) := by decide +kernel
theorem dX4_isDay_11 : decode cX4_isDay 11 = .ok (.goto 4, 3) := by decide +kernel
theorem dX4_isDay_14 : decode cX4_isDay 14 = .ok (.iconst 0, 1) := by decide +kernel
theorem dX4_isDay_15 : decode cX4_isDay 15 = .ok (.ireturn, 1) := by decide +kernel
theorem dX1_append_0 : decode cX1_append 0 = .ok (.bipush 24, 2) := by decide +kernel
theorem dX1_append_2 : decode cX1_append 2 = .ok (.istore_n 2, 1) := by decide +kernel
theorem dX1_append_3 : decode cX1_append 3 = .ok (.iload_n 2, 1) := by decide +kernel
theorem dX1_append_4 : decode cX1_append 4 = .ok (.ifCond .lt 42, 3) := by decide +kernel
theorem dX1_append_7 : decode cX1_append 7 = .ok (.aload_n 0, 1) := by decide +kernel
theorem dX1_append_8 : decode cX1_append 8 = .ok (.getfield 25, 3) := by decide +kernel
theorem dX1_append_11 : decode cX1_append 11 = .ok (.sipush 400, 3) := by decide +kernel
theorem dX1_append_14 : decode cX1_append 14 = .ok (.if_icmp .ge 32, 3) := by decide +kernel
theorem dX1_append_17 : decode cX1_append 17 = .ok (.aload_n 0, 1) := by decide +kernel
theorem dX1_append_18 : decode cX1_append 18 = .ok (.getfield 9, 3) := by decide +kernel
theorem dX1_append_21 : decode cX1_append 21 = .ok (.aload_n 0, 1) := by decide +kernel
theorem dX1_append_22 : decode cX1_append 22 = .ok (.getfield 25, 3) := by decide +kernel
theorem dX1_append_25 : decode cX1_append 25 = .ok (.iload_n 1, 1) := by decide +kernel
theorem dX1_append_26 : decode cX1_append 26 = .ok (.iload_n 2, 1) := by decide +kernel
theorem dX1_append_27 : decode cX1_append 27 = .ok (.ishr, 1) := by decide +kernel
theorem dX1_append_28 : decode cX1_append 28 = .ok (.i2b, 1) := by decide +kernel
theorem dX1_append_29 : decode cX1_append 29 = .ok (.bastore, 1) := by decide +kernel
theorem dX1_append_30 : decode cX1_append 30 = .ok (.aload_n 0, 1) := by decide +kernel
theorem dX1_append_31 : decode cX1_append 31 = .ok (.dup, 1) := by decide +kernel
theorem dX1_append_32 : decode cX1_append 32 = .ok (.getfield 25, 3) := by decide +kernel
theorem dX1_append_35 : decode cX1_append 35 = .ok (.iconst 1, 1) := by decide +kernel
theorem dX1_append_36 : decode cX1_append 36 = .ok (.iadd, 1) := by decide +kernel
theorem dX1_append_37 : decode cX1_append 37 = .ok (.putfield 25, 3) := by decide +kernel
theorem dX1_append_40 : decode cX1_append 40 = .ok (.iinc 2 (-8), 3) := by decide +kernel
theorem dX1_append_43 : decode cX1_append 43 = .ok (.goto (-40), 3) := by decide +kernel
theorem dX1_append_46 : decode cX1_append 46 = .ok (.return_, 1) := by decide +kernel

theorem nI_div {a b : Nat} (ha : a < 2 ^ 31) (hb : b < 2 ^ 31) : nI a / nI b = nI (a / b) := by
  apply Int32.toInt_inj.mp
  have h1 : a / b < 2 ^ 31 := Nat.lt_of_le_of_lt (Nat.div_le_self a b) ha
  rw [Int32.toInt_div_of_ne_right _ _ (by
    intro h
    have := congrArg Int32.toInt h
    rw [nI_toInt hb] at this
    have e : (-1 : Int32).toInt = -1 := by decide
    omega), nI_toInt ha, nI_toInt hb, nI_toInt h1]
  exact (Int.ofNat_tdiv a b).symm
theorem nI_rem {a b : Nat} (ha : a < 2 ^ 31) (hb : b < 2 ^ 31) : nI a - nI a / nI b * nI b = nI (a % b) := by
  rw [nI_div ha hb, nI_mul, nI_sub (Nat.div_mul_le_self a b)]
  congr 1
  have := Nat.mod_add_div a b
  rw [Nat.mul_comm] at this
  omega
theorem le0_iff (k : Int32) : k ≤ 0 ↔ ¬ nI 1 ≤ k := by
  have e : (nI 1).toInt = 1 := nI_toInt (by decide)
  rw [Int32.le_iff_toInt_le, Int32.le_iff_toInt_le, e, Int32.toInt_zero]; omega
theorem lt0_iff (k : Int32) : k < 0 ↔ ¬ nI 0 ≤ k := by
  rw [nI_0, Int32.not_le]
theorem ge_iff {n : Nat} (hn : n + 1 < 2 ^ 31) (k : Int32) : nI (n + 1) ≤ k ↔ ¬ k ≤ nI n := by
  rw [Int32.le_iff_toInt_le, Int32.le_iff_toInt_le, nI_toInt hn, nI_toInt (by omega)]; omega
theorem past_at {j : Nat} (h : j < 8) : [52, 60, 68, 76, 84, 92, 100, 108][j]? = some (pastB j) := by
  unfold pastB
  rcases (show j = 0 ∨ j = 1 ∨ j = 2 ∨ j = 3 ∨ j = 4 ∨ j = 5 ∨ j = 6 ∨ j = 7 by omega) with rfl | rfl | rfl | rfl | rfl | rfl | rfl | rfl <;> rfl
section BT
variable {G : mG} {d : Nat} {σ : mS}
theorem v_bIsDay (e : Int32) : mV G mX4_isDay d [.int e] σ (some (.int (bI (dB e)))) σ := by
  refine mV_of fun Q hQ => ?_
  refine F_iload_n dX4_isDay_0 rfl ?_
  refine F_if_lt (tgt := 14) dX4_isDay_1 rfl (fun c1 => ?_) (fun c1 => ?_)
  · refine F_iconst (v := nI 0) dX4_isDay_14 rfl ?_
    refine F_zret dX4_isDay_15 rfl (by first | exact Or.inl rfl | exact Or.inr rfl | exact bI_01 _) ?_
    rw [lt0_iff] at c1
    first | exact Qb1 hQ (by simp only [dB, Bool.and_eq_true, decide_eq_true_eq]; exact ⟨Decidable.not_not.mp c1, Int32.not_le.mp c7⟩) | exact Qb0 hQ (by rw [dB, decide_eq_false c1]; rfl) | exact Qb0 hQ (by rw [dB, decide_eq_false (Int32.not_lt.mpr c7), Bool.and_false])
  · refine F_iload_n dX4_isDay_4 rfl ?_
    refine F_bipush (v := nI 70) dX4_isDay_5 rfl ?_
    refine F_icmp_ge (tgt := 14) dX4_isDay_7 rfl (fun c7 => ?_) (fun c7 => ?_)
    · refine F_iconst (v := nI 0) dX4_isDay_14 rfl ?_
      refine F_zret dX4_isDay_15 rfl (by first | exact Or.inl rfl | exact Or.inr rfl | exact bI_01 _) ?_
      rw [lt0_iff] at c1
      first | exact Qb1 hQ (by simp only [dB, Bool.and_eq_true, decide_eq_true_eq]; exact ⟨Decidable.not_not.mp c1, Int32.not_le.mp c7⟩) | exact Qb0 hQ (by rw [dB, decide_eq_false c1]; rfl) | exact Qb0 hQ (by rw [dB, decide_eq_false (Int32.not_lt.mpr c7), Bool.and_false])
    · refine F_iconst (v := nI 1) dX4_isDay_10 rfl ?_
      refine F_goto (tgt := 15) dX4_isDay_11 rfl ?_
      refine F_zret dX4_isDay_15 rfl (by first | exact Or.inl rfl | exact Or.inr rfl | exact bI_01 _) ?_
      rw [lt0_iff] at c1
      first | exact Qb1 hQ (by simp only [dB, Bool.and_eq_true, decide_eq_true_eq]; exact ⟨Decidable.not_not.mp c1, Int32.not_le.mp c7⟩) | exact Qb0 hQ (by rw [dB, decide_eq_false c1]; rfl) | exact Qb0 hQ (by rw [dB, decide_eq_false (Int32.not_lt.mpr c7), Bool.and_false])

theorem v_bAreDays (a b : Int32) : mV G mX4_areDays (d + 1) [.int a, .int b] σ (some (.int (bI (dB a && dB b && decide (a ≤ b))))) σ := by
  refine mV_of fun Q hQ => ?_
  refine F_iload_n dX4_areDays_0 rfl ?_
  refine F_cS1i (v_bIsDay (d := d) _) dX4_areDays_1 rfl rfl rfl (by decide) (Nat.le_of_ble_eq_true rfl) (by omega) ?_
  refine F_if_eqB (tgt := 23) dX4_areDays_4 rfl (fun c4 => ?_) (fun c4 => ?_)
  · refine F_iconst (v := nI 0) dX4_areDays_23 rfl ?_
    refine F_zret dX4_areDays_24 rfl (by first | exact Or.inl rfl | exact Or.inr rfl | exact bI_01 _) ?_
    first | exact Qb1 hQ (by simp_all) | exact Qb0 hQ (by simp_all)
  · refine F_iload_n dX4_areDays_7 rfl ?_
    refine F_cS1i (v_bIsDay (d := d) _) dX4_areDays_8 rfl rfl rfl (by decide) (Nat.le_of_ble_eq_true rfl) (by omega) ?_
    refine F_if_eqB (tgt := 23) dX4_areDays_11 rfl (fun c11 => ?_) (fun c11 => ?_)
    · refine F_iconst (v := nI 0) dX4_areDays_23 rfl ?_
      refine F_zret dX4_areDays_24 rfl (by first | exact Or.inl rfl | exact Or.inr rfl | exact bI_01 _) ?_
      first | exact Qb1 hQ (by simp_all) | exact Qb0 hQ (by simp_all)
    · refine F_iload_n dX4_areDays_14 rfl ?_
      refine F_iload_n dX4_areDays_15 rfl ?_
      refine F_icmp_gt (tgt := 23) dX4_areDays_16 rfl (fun c16 => ?_) (fun c16 => ?_)
      · refine F_iconst (v := nI 0) dX4_areDays_23 rfl ?_
        refine F_zret dX4_areDays_24 rfl (by first | exact Or.inl rfl | exact Or.inr rfl | exact bI_01 _) ?_
        first | exact Qb1 hQ (by simp_all) | exact Qb0 hQ (by simp_all)
      · refine F_iconst (v := nI 1) dX4_areDays_19 rfl ?_
        refine F_goto (tgt := 24) dX4_areDays_20 rfl ?_
        refine F_zret dX4_areDays_24 rfl (by first | exact Or.inl rfl | exact Or.inr rfl | exact bI_01 _) ?_
        first | exact Qb1 hQ (by simp_all) | exact Qb0 hQ (by simp_all)

theorem v_canBeAtFirst (v : Int32) : mV G mX4_canBeAtFirst d [.int v] σ (some (.int (bI (inR v (nI 0) (nI 9999))))) σ := by
  refine mV_of fun Q hQ => ?_
  refine F_iload_n dX4_canBeAtFirst_0 rfl ?_
  refine F_if_lt (tgt := 15) dX4_canBeAtFirst_1 rfl (fun c1 => ?_) (fun c1 => ?_)
  · refine F_iconst (v := nI 0) dX4_canBeAtFirst_15 rfl ?_
    refine F_zret dX4_canBeAtFirst_16 rfl (by first | exact Or.inl rfl | exact Or.inr rfl | exact bI_01 _) ?_
    rw [lt0_iff] at c1
    first | exact Qb1 hQ (by simp only [inR, Bool.and_eq_true, decide_eq_true_eq]; exact ⟨Decidable.not_not.mp c1, Int32.not_lt.mp c8⟩) | exact Qb0 hQ (by rw [inR, decide_eq_false c1]; rfl) | exact Qb0 hQ (by rw [inR, decide_eq_false (Int32.not_le.mpr c8), Bool.and_false])
  · refine F_iload_n dX4_canBeAtFirst_4 rfl ?_
    refine F_sipush (v := nI 9999) dX4_canBeAtFirst_5 rfl ?_
    refine F_icmp_gt (tgt := 15) dX4_canBeAtFirst_8 rfl (fun c8 => ?_) (fun c8 => ?_)
    · refine F_iconst (v := nI 0) dX4_canBeAtFirst_15 rfl ?_
      refine F_zret dX4_canBeAtFirst_16 rfl (by first | exact Or.inl rfl | exact Or.inr rfl | exact bI_01 _) ?_
      rw [lt0_iff] at c1
      first | exact Qb1 hQ (by simp only [inR, Bool.and_eq_true, decide_eq_true_eq]; exact ⟨Decidable.not_not.mp c1, Int32.not_lt.mp c8⟩) | exact Qb0 hQ (by rw [inR, decide_eq_false c1]; rfl) | exact Qb0 hQ (by rw [inR, decide_eq_false (Int32.not_le.mpr c8), Bool.and_false])
    · refine F_iconst (v := nI 1) dX4_canBeAtFirst_11 rfl ?_
      refine F_goto (tgt := 16) dX4_canBeAtFirst_12 rfl ?_
      refine F_zret dX4_canBeAtFirst_16 rfl (by first | exact Or.inl rfl | exact Or.inr rfl | exact bI_01 _) ?_
      rw [lt0_iff] at c1
      first | exact Qb1 hQ (by simp only [inR, Bool.and_eq_true, decide_eq_true_eq]; exact ⟨Decidable.not_not.mp c1, Int32.not_lt.mp c8⟩) | exact Qb0 hQ (by rw [inR, decide_eq_false c1]; rfl) | exact Qb0 hQ (by rw [inR, decide_eq_false (Int32.not_le.mpr c8), Bool.and_false])

theorem v_canBeSettingA (t v : Int32) (h : inR t (nI 0) (nI 7) = false) : mV G mX4_canBeSetting d [.int t, .int v] σ (some (.int (bI false))) σ := by
  refine mV_of fun Q hQ => ?_
  refine F_iload_n dX4_canBeSetting_0 rfl ?_
  refine F_if_lt (tgt := 32) dX4_canBeSetting_1 rfl (fun c1 => ?_) (fun c1 => ?_)
  · refine F_iconst (v := nI 0) dX4_canBeSetting_32 rfl ?_
    refine F_zret dX4_canBeSetting_33 rfl (by first | exact Or.inl rfl | exact Or.inr rfl | exact bI_01 _) ?_
    exact hQ
  · refine F_iload_n dX4_canBeSetting_4 rfl ?_
    refine F_bipush (v := nI 8) dX4_canBeSetting_5 rfl ?_
    refine F_icmp_ge (tgt := 32) dX4_canBeSetting_7 rfl (fun c7 => ?_) (fun c7 => ?_)
    · refine F_iconst (v := nI 0) dX4_canBeSetting_32 rfl ?_
      refine F_zret dX4_canBeSetting_33 rfl (by first | exact Or.inl rfl | exact Or.inr rfl | exact bI_01 _) ?_
      exact hQ
    · exfalso
      rw [lt0_iff, Decidable.not_not] at c1
      rw [ge_iff (n := 7) (by decide), Decidable.not_not] at c7
      rw [inR, decide_eq_true c1, decide_eq_true c7] at h
      cases h

theorem v_canBeSettingB (v : Int32) {k : Nat} (hk : k < 8) : mV G mX4_canBeSetting d [.int (nI k), .int v] σ (some (.int (bI (inR v (mLeast.getD k 0) (mMost.getD k 0))))) σ := by
  refine mV_of fun Q hQ => ?_
  refine F_iload_n dX4_canBeSetting_0 rfl ?_
  refine F_if_ltN (tgt := 32) dX4_canBeSetting_1 rfl (by omega) ?_
  refine F_iload_n dX4_canBeSetting_4 rfl ?_
  refine F_bipush (v := nI 8) dX4_canBeSetting_5 rfl ?_
  refine F_icmp_geN (tgt := 32) dX4_canBeSetting_7 rfl (by omega) (by omega) (fun c7 => ?_) (fun c7 => ?_)
  · exact absurd c7 (by omega)
  · refine F_iload_n dX4_canBeSetting_10 rfl ?_
    refine F_getstatic dX4_canBeSetting_11 rfl rfl ?_
    refine F_iload_n dX4_canBeSetting_14 rfl ?_
    refine F_ialdX dX4_canBeSetting_15 (by decide) hk (show 8 < 2 ^ 31 by decide) ?_
    refine F_icmp_lt (tgt := 32) dX4_canBeSetting_16 rfl (fun c16 => ?_) (fun c16 => ?_)
    · refine F_iconst (v := nI 0) dX4_canBeSetting_32 rfl ?_
      refine F_zret dX4_canBeSetting_33 rfl (by first | exact Or.inl rfl | exact Or.inr rfl | exact bI_01 _) ?_
      have c16 : _ := c16
      first | exact Qb1 hQ (by simp only [inR, Bool.and_eq_true, decide_eq_true_eq]; exact ⟨Int32.not_lt.mp c16, Int32.not_lt.mp c25⟩) | exact Qb0 hQ (by simp only [inR, Bool.and_eq_false_iff, decide_eq_false_iff_not, Int32.not_le]; exact Or.inl c16) | exact Qb0 hQ (by simp only [inR, Bool.and_eq_false_iff, decide_eq_false_iff_not, Int32.not_le]; exact Or.inr c25)
    · refine F_iload_n dX4_canBeSetting_19 rfl ?_
      refine F_getstatic dX4_canBeSetting_20 rfl rfl ?_
      refine F_iload_n dX4_canBeSetting_23 rfl ?_
      refine F_ialdX dX4_canBeSetting_24 (by decide) hk (show 8 < 2 ^ 31 by decide) ?_
      refine F_icmp_gt (tgt := 32) dX4_canBeSetting_25 rfl (fun c25 => ?_) (fun c25 => ?_)
      · refine F_iconst (v := nI 0) dX4_canBeSetting_32 rfl ?_
        refine F_zret dX4_canBeSetting_33 rfl (by first | exact Or.inl rfl | exact Or.inr rfl | exact bI_01 _) ?_
        have c16 : _ := c16
        first | exact Qb1 hQ (by simp only [inR, Bool.and_eq_true, decide_eq_true_eq]; exact ⟨Int32.not_lt.mp c16, Int32.not_lt.mp c25⟩) | exact Qb0 hQ (by simp only [inR, Bool.and_eq_false_iff, decide_eq_false_iff_not, Int32.not_le]; exact Or.inl c16) | exact Qb0 hQ (by simp only [inR, Bool.and_eq_false_iff, decide_eq_false_iff_not, Int32.not_le]; exact Or.inr c25)
      · refine F_iconst (v := nI 1) dX4_canBeSetting_28 rfl ?_
        refine F_goto (tgt := 33) dX4_canBeSetting_29 rfl ?_
        refine F_zret dX4_canBeSetting_33 rfl (by first | exact Or.inl rfl | exact Or.inr rfl | exact bI_01 _) ?_
        have c16 : _ := c16
        first | exact Qb1 hQ (by simp only [inR, Bool.and_eq_true, decide_eq_true_eq]; exact ⟨Int32.not_lt.mp c16, Int32.not_lt.mp c25⟩) | exact Qb0 hQ (by simp only [inR, Bool.and_eq_false_iff, decide_eq_false_iff_not, Int32.not_le]; exact Or.inl c16) | exact Qb0 hQ (by simp only [inR, Bool.and_eq_false_iff, decide_eq_false_iff_not, Int32.not_le]; exact Or.inr c25)

/-- the state that is remembered goes behind the others -/
def remS (σ : mS) (j u : Nat) : mS := up (up (copyT σ (pastB j) 4) 3 3 (nI ((j + 1) % 8))) 3 2 (nI (min (u + 1) 8))
theorem copyT_far (σ : mS) {b o a : Nat} (h : a < b ∨ b + 8 ≤ a) : copyT σ b o a = σ a := by
  simp only [copyT, cp1]
  rw [upR_n _ _ (by omega), upR_n _ _ (by omega), upR_n _ _ (by omega), upR_n _ _ (by omega), up_n _ _ _ (by omega), upR_n _ _ (by omega), upR_n _ _ (by omega), upR_n _ _ (by omega), up_n _ _ _ (by omega)]
theorem pastB_ge (j : Nat) : 52 ≤ pastB j := Nat.le_add_right _ _
theorem v_remember {j u : Nat} (hj : σ 3 3 = nI j) (hj8 : j < 8) (hu : σ 3 2 = nI u) (hu8 : u ≤ 8) : mV G mX4_remember (d + 1) [.ref 3] σ none (remS σ j u) := by
  refine mV_of fun Q hQ => ?_
  have hp := pastB_ge j
  have hc : ∀ i, copyT σ (pastB j) 4 3 i = σ 3 i := fun i => by rw [copyT_far _ (by omega)]
  refine F_aload_n dX4_remember_0 rfl ?_
  refine F_getr dX4_remember_1 rfl rfl (by first | assumption | rfl) rfl ?_
  refine F_aload_n dX4_remember_4 rfl ?_
  refine F_getE (v := nI j) dX4_remember_5 rfl rfl (by first | assumption | rfl) rfl hj ?_
  refine F_aald dX4_remember_8 (by first | assumption | rfl) (by decide) (past_at hj8) ?_
  refine F_aload_n dX4_remember_9 rfl ?_
  refine F_getr dX4_remember_10 rfl rfl (by first | assumption | rfl) rfl ?_
  refine F_cV_r_v (v_copyFrom (d := d) (isTold_past hj8) isTold_4 (by omega)) dX4_remember_13 rfl rfl (by decide) (isTold_past hj8).1 rfl rfl rfl (by decide) (Nat.le_of_ble_eq_true rfl) (by omega) ?_
  refine F_aload_n dX4_remember_16 rfl ?_
  refine F_aload_n dX4_remember_17 rfl ?_
  refine F_getE (v := nI j) dX4_remember_18 rfl rfl (by first | assumption | rfl) rfl (by rw [hc]; exact hj) ?_
  refine F_iconst (v := nI 1) dX4_remember_21 rfl ?_
  refine F_iaddN dX4_remember_22 ?_
  refine F_bipush (v := nI 8) dX4_remember_23 rfl ?_
  refine F_irem dX4_remember_25 (by decide) ?_
  refine F_top (nI_rem (by omega) (by decide)) ?_
  refine F_put dX4_remember_26 rfl rfl (by first | assumption | rfl) rfl rfl rfl rfl ?_
  refine F_aload_n dX4_remember_29 rfl ?_
  refine F_aload_n dX4_remember_30 rfl ?_
  refine F_getE (v := nI u) dX4_remember_31 rfl rfl (by first | assumption | rfl) rfl (by rw [up_r _ _ _ (by decide), hc]; exact hu) ?_
  refine F_iconst (v := nI 1) dX4_remember_34 rfl ?_
  refine F_iaddN dX4_remember_35 ?_
  refine F_bipush (v := nI 8) dX4_remember_36 rfl ?_
  refine F_min dX4_remember_38 rfl rfl (Nat.le_of_ble_eq_true rfl) ?_
  refine F_top (y := nI (min (u + 1) 8)) (by
    by_cases h : 8 < u + 1
    · rw [if_pos (nI_lt h (by omega)), show min (u + 1) 8 = 8 by omega]
    · rw [if_neg (nI_nlt (by omega) (by omega)), show min (u + 1) 8 = u + 1 by omega]) ?_
  refine F_put dX4_remember_41 rfl rfl (by first | assumption | rfl) rfl rfl rfl rfl ?_
  refine F_vret dX4_remember_44 rfl ?_
  exact hQ

theorem b_groupA (fit tired : Int32) (h : (inR fit (nI 0) (nI 9999) && inR tired (nI 0) (nI 9999)) = false) : mV G mX4_group (d + 1) [.ref 3, .int fit, .int tired] σ (some (.int (-1))) σ := by
  refine mV_of fun Q hQ => ?_
  refine F_iload_n dX4_group_0 rfl ?_
  refine F_cS1i (v_canBeAtFirst (d := d) _) dX4_group_1 rfl rfl rfl (by decide) (Nat.le_of_ble_eq_true rfl) (by omega) ?_
  refine F_if_eqB (tgt := 14) dX4_group_4 rfl (fun c4 => ?_) (fun c4 => ?_)
  · refine F_iconst (v := (-1)) dX4_group_14 rfl ?_
    refine F_iret dX4_group_15 rfl ?_
    exact hQ
  · refine F_iload_n dX4_group_7 rfl ?_
    refine F_cS1i (v_canBeAtFirst (d := d) _) dX4_group_8 rfl rfl rfl (by decide) (Nat.le_of_ble_eq_true rfl) (by omega) ?_
    refine F_if_neB (tgt := 16) dX4_group_11 rfl (fun c11 => ?_) (fun c11 => ?_)
    · rw [c4, c11] at h
      cases h
    · refine F_iconst (v := (-1)) dX4_group_14 rfl ?_
      refine F_iret dX4_group_15 rfl ?_
      exact hQ

theorem b_groupB (fit tired : Int32) (h : (inR fit (nI 0) (nI 9999) && inR tired (nI 0) (nI 9999)) = true) (hn : σ 4 0 = nI 6) : mV G mX4_group (d + 1) [.ref 3, .int fit, .int tired] σ (some (.int (-2))) σ := by
  refine mV_of fun Q hQ => ?_
  refine F_iload_n dX4_group_0 rfl ?_
  refine F_cS1i (v_canBeAtFirst (d := d) _) dX4_group_1 rfl rfl rfl (by decide) (Nat.le_of_ble_eq_true rfl) (by omega) ?_
  refine F_if_eqB (tgt := 14) dX4_group_4 rfl (fun c4 => ?_) (fun c4 => ?_)
  · rw [c4] at h
    cases h
  · refine F_iload_n dX4_group_7 rfl ?_
    refine F_cS1i (v_canBeAtFirst (d := d) _) dX4_group_8 rfl rfl rfl (by decide) (Nat.le_of_ble_eq_true rfl) (by omega) ?_
    refine F_if_neB (tgt := 16) dX4_group_11 rfl (fun c11 => ?_) (fun c11 => ?_)
    · refine F_aload_n dX4_group_16 rfl ?_
      refine F_getr dX4_group_17 rfl rfl (by first | assumption | rfl) rfl ?_
      refine F_getE (v := nI 6) dX4_group_20 rfl rfl (by first | assumption | rfl) rfl hn ?_
      refine F_bipush (v := nI 6) dX4_group_23 rfl ?_
      refine F_icmp_ltN (tgt := 31) dX4_group_25 rfl (by omega) (by omega) (fun c25 => ?_) (fun c25 => ?_)
      · exact absurd c25 (by decide)
      · refine F_bipush (v := (-2)) dX4_group_28 rfl ?_
        refine F_iret dX4_group_30 rfl ?_
        exact hQ
    · rw [c4, c11] at h
      cases h

theorem remS_far (σ : mS) {j u a : Nat} (h : 4 ≤ a) (h2 : a < 52) : remS σ j u a = σ a := by
  have hp := pastB_ge j
  simp only [remS]
  rw [up_n _ _ _ (by omega), up_n _ _ _ (by omega), copyT_far _ (by omega)]
theorem b_groupC (fit tired : Int32) (h : (inR fit (nI 0) (nI 9999) && inR tired (nI 0) (nI 9999)) = true) {n : Nat} (hn : σ 4 0 = nI n) (h6 : n < 6) {j u : Nat} (hj : σ 3 3 = nI j) (hj8 : j < 8) (hu : σ 3 2 = nI u) (hu8 : u ≤ 8) : mV G mX4_group (d + 2) [.ref 3, .int fit, .int tired] σ (some (.int (nI n))) (up (up (up (remS σ j u) 5 n fit) 6 n tired) 4 0 (nI (n + 1))) := by
  refine mV_of fun Q hQ => ?_
  have hr : remS σ j u 4 0 = nI n := by rw [remS_far _ (by omega) (by omega)]; exact hn
  refine F_iload_n dX4_group_0 rfl ?_
  refine F_cS1i (v_canBeAtFirst (d := d) _) dX4_group_1 rfl rfl rfl (by decide) (Nat.le_of_ble_eq_true rfl) (by omega) ?_
  refine F_if_eqB (tgt := 14) dX4_group_4 rfl (fun c4 => ?_) (fun c4 => ?_)
  · rw [c4] at h
    cases h
  · refine F_iload_n dX4_group_7 rfl ?_
    refine F_cS1i (v_canBeAtFirst (d := d) _) dX4_group_8 rfl rfl rfl (by decide) (Nat.le_of_ble_eq_true rfl) (by omega) ?_
    refine F_if_neB (tgt := 16) dX4_group_11 rfl (fun c11 => ?_) (fun c11 => ?_)
    · refine F_aload_n dX4_group_16 rfl ?_
      refine F_getr dX4_group_17 rfl rfl (by first | assumption | rfl) rfl ?_
      refine F_getE (v := nI n) dX4_group_20 rfl rfl (by first | assumption | rfl) rfl hn ?_
      refine F_bipush (v := nI 6) dX4_group_23 rfl ?_
      refine F_icmp_ltN (tgt := 31) dX4_group_25 rfl (by omega) (by omega) (fun c25 => ?_) (fun c25 => ?_)
      · refine F_aload_n dX4_group_31 rfl ?_
        refine F_cV0v (v_remember (d := d) hj hj8 hu hu8) dX4_group_32 rfl rfl (by decide) (by first | assumption | rfl) rfl rfl rfl (by decide) (Nat.le_of_ble_eq_true rfl) (by omega) ?_
        refine F_aload_n dX4_group_35 rfl ?_
        refine F_getr dX4_group_36 rfl rfl (by first | assumption | rfl) rfl ?_
        refine F_iload_n dX4_group_39 rfl ?_
        refine F_iload_n dX4_group_40 rfl ?_
        refine F_cV2v (v_addGroup (d := d) isTold_4 _ _ hr h6) dX4_group_41 rfl rfl (by decide) (by first | assumption | rfl) rfl rfl rfl (by decide) (Nat.le_of_ble_eq_true rfl) (by omega) ?_
        refine F_aload_n dX4_group_44 rfl ?_
        refine F_getr dX4_group_45 rfl rfl (by first | assumption | rfl) rfl ?_
        refine F_getE (v := nI (n + 1)) dX4_group_48 rfl rfl (by first | assumption | rfl) rfl rfl ?_
        refine F_iconst (v := nI 1) dX4_group_51 rfl ?_
        refine F_isubN dX4_group_52 (by omega) ?_
        refine F_iret dX4_group_53 rfl ?_
        exact hQ
      · exact absurd h6 c25
    · rw [c4, c11] at h
      cases h

theorem b_loadA (kind v : Int32) (h : (inR kind (nI 1) (nI 5) && inR v (nI 0) (nI 300)) = false) : mV G mX4_load d [.ref 3, .int kind, .int v] σ (some (.int (nI 0))) σ := by
  refine mV_of fun Q hQ => ?_
  refine F_iload_n dX4_load_0 rfl ?_
  refine F_if_le (tgt := 34) dX4_load_1 rfl (fun c1 => ?_) (fun c1 => ?_)
  · refine F_iconst (v := nI 0) dX4_load_34 rfl ?_
    refine F_zret dX4_load_35 rfl (by first | exact Or.inl rfl | exact Or.inr rfl | exact bI_01 _) ?_
    exact hQ
  · refine F_iload_n dX4_load_4 rfl ?_
    refine F_bipush (v := nI 6) dX4_load_5 rfl ?_
    refine F_icmp_ge (tgt := 34) dX4_load_7 rfl (fun c7 => ?_) (fun c7 => ?_)
    · refine F_iconst (v := nI 0) dX4_load_34 rfl ?_
      refine F_zret dX4_load_35 rfl (by first | exact Or.inl rfl | exact Or.inr rfl | exact bI_01 _) ?_
      exact hQ
    · refine F_iload_n dX4_load_10 rfl ?_
      refine F_if_lt (tgt := 34) dX4_load_11 rfl (fun c11 => ?_) (fun c11 => ?_)
      · refine F_iconst (v := nI 0) dX4_load_34 rfl ?_
        refine F_zret dX4_load_35 rfl (by first | exact Or.inl rfl | exact Or.inr rfl | exact bI_01 _) ?_
        exact hQ
      · refine F_iload_n dX4_load_14 rfl ?_
        refine F_sipush (v := nI 300) dX4_load_15 rfl ?_
        refine F_icmp_gt (tgt := 34) dX4_load_18 rfl (fun c18 => ?_) (fun c18 => ?_)
        · refine F_iconst (v := nI 0) dX4_load_34 rfl ?_
          refine F_zret dX4_load_35 rfl (by first | exact Or.inl rfl | exact Or.inr rfl | exact bI_01 _) ?_
          exact hQ
        · exfalso
          rw [le0_iff, Decidable.not_not] at c1
          rw [ge_iff (n := 5) (by decide), Decidable.not_not] at c7
          rw [lt0_iff, Decidable.not_not] at c11
          rw [inR, inR, decide_eq_true c1, decide_eq_true c7, decide_eq_true c11, decide_eq_true (Int32.not_lt.mp c18)] at h
          cases h

theorem b_loadB (v : Int32) {k : Nat} (hk : k < 6) (h : (inR (nI k) (nI 1) (nI 5) && inR v (nI 0) (nI 300)) = true) (hs : σ 10 k = v) : mV G mX4_load d [.ref 3, .int (nI k), .int v] σ (some (.int (nI 0))) σ := by
  refine mV_of fun Q hQ => ?_
  have hb := h
  rw [Bool.and_eq_true, inR_nI (by decide) (by decide) (by omega), Bool.and_eq_true, decide_eq_true_eq, decide_eq_true_eq] at hb
  obtain ⟨⟨h1, h5⟩, hv⟩ := hb
  simp only [inR, Bool.and_eq_true, decide_eq_true_eq] at hv
  refine F_iload_n dX4_load_0 rfl ?_
  refine F_if_leN (tgt := 34) dX4_load_1 rfl (by omega) (fun c1 => ?_) (fun c1 => ?_)
  · exact absurd c1 (by omega)
  · refine F_iload_n dX4_load_4 rfl ?_
    refine F_bipush (v := nI 6) dX4_load_5 rfl ?_
    refine F_icmp_geN (tgt := 34) dX4_load_7 rfl (by omega) (by omega) (fun c7 => ?_) (fun c7 => ?_)
    · exact absurd c7 (by omega)
    · refine F_iload_n dX4_load_10 rfl ?_
      refine F_if_lt (tgt := 34) dX4_load_11 rfl (fun c11 => ?_) (fun c11 => ?_)
      · exact absurd hv.1 ((lt0_iff v).mp c11)
      · refine F_iload_n dX4_load_14 rfl ?_
        refine F_sipush (v := nI 300) dX4_load_15 rfl ?_
        refine F_icmp_gt (tgt := 34) dX4_load_18 rfl (fun c18 => ?_) (fun c18 => ?_)
        · exact absurd hv.2 (Int32.not_le.mpr c18)
        · refine F_aload_n dX4_load_21 rfl ?_
          refine F_getr dX4_load_22 rfl rfl (by first | assumption | rfl) rfl ?_
          refine F_getr dX4_load_25 rfl rfl (by first | assumption | rfl) rfl ?_
          refine F_iload_n dX4_load_28 rfl ?_
          refine F_ialdE (v := v) dX4_load_29 (by first | assumption | rfl) (by decide) (by omega) hs ?_
          refine F_iload_n dX4_load_30 rfl ?_
          refine F_icmp_ne (tgt := 36) dX4_load_31 rfl (fun c31 => ?_) (fun c31 => ?_)
          · exact absurd rfl c31
          · refine F_iconst (v := nI 0) dX4_load_34 rfl ?_
            refine F_zret dX4_load_35 rfl (by first | exact Or.inl rfl | exact Or.inr rfl | exact bI_01 _) ?_
            exact hQ

theorem b_loadC (v : Int32) {k : Nat} (hk : k < 6) (h : (inR (nI k) (nI 1) (nI 5) && inR v (nI 0) (nI 300)) = true) (hs : ¬ σ 10 k = v) : mV G mX4_load d [.ref 3, .int (nI k), .int v] σ (some (.int (nI 1))) (up σ 10 k v) := by
  refine mV_of fun Q hQ => ?_
  have hb := h
  rw [Bool.and_eq_true, inR_nI (by decide) (by decide) (by omega), Bool.and_eq_true, decide_eq_true_eq, decide_eq_true_eq] at hb
  obtain ⟨⟨h1, h5⟩, hv⟩ := hb
  simp only [inR, Bool.and_eq_true, decide_eq_true_eq] at hv
  refine F_iload_n dX4_load_0 rfl ?_
  refine F_if_leN (tgt := 34) dX4_load_1 rfl (by omega) (fun c1 => ?_) (fun c1 => ?_)
  · exact absurd c1 (by omega)
  · refine F_iload_n dX4_load_4 rfl ?_
    refine F_bipush (v := nI 6) dX4_load_5 rfl ?_
    refine F_icmp_geN (tgt := 34) dX4_load_7 rfl (by omega) (by omega) (fun c7 => ?_) (fun c7 => ?_)
    · exact absurd c7 (by omega)
    · refine F_iload_n dX4_load_10 rfl ?_
      refine F_if_lt (tgt := 34) dX4_load_11 rfl (fun c11 => ?_) (fun c11 => ?_)
      · exact absurd hv.1 ((lt0_iff v).mp c11)
      · refine F_iload_n dX4_load_14 rfl ?_
        refine F_sipush (v := nI 300) dX4_load_15 rfl ?_
        refine F_icmp_gt (tgt := 34) dX4_load_18 rfl (fun c18 => ?_) (fun c18 => ?_)
        · exact absurd hv.2 (Int32.not_le.mpr c18)
        · refine F_aload_n dX4_load_21 rfl ?_
          refine F_getr dX4_load_22 rfl rfl (by first | assumption | rfl) rfl ?_
          refine F_getr dX4_load_25 rfl rfl (by first | assumption | rfl) rfl ?_
          refine F_iload_n dX4_load_28 rfl ?_
          refine F_iald dX4_load_29 (by first | assumption | rfl) (by decide) (by omega) ?_
          refine F_iload_n dX4_load_30 rfl ?_
          refine F_icmp_ne (tgt := 36) dX4_load_31 rfl (fun c31 => ?_) (fun c31 => ?_)
          · refine F_aload_n dX4_load_36 rfl ?_
            refine F_getr dX4_load_37 rfl rfl (by first | assumption | rfl) rfl ?_
            refine F_getr dX4_load_40 rfl rfl (by first | assumption | rfl) rfl ?_
            refine F_iload_n dX4_load_43 rfl ?_
            refine F_iload_n dX4_load_44 rfl ?_
            refine F_iast dX4_load_45 (by first | assumption | rfl) (by decide) (by omega) ?_
            refine F_iconst (v := nI 1) dX4_load_46 rfl ?_
            refine F_zret dX4_load_47 rfl (by first | exact Or.inl rfl | exact Or.inr rfl | exact bI_01 _) ?_
            exact hQ
          · exact absurd c31 hs

theorem b_setA (t v : Int32) (h : inR t (nI 0) (nI 7) = false) : mV G mX4_set (d + 1) [.ref 3, .int t, .int v] σ (some (.int (nI 0))) σ := by
  refine mV_of fun Q hQ => ?_
  refine F_iload_n dX4_set_0 rfl ?_
  refine F_iload_n dX4_set_1 rfl ?_
  refine F_cS2i (v_canBeSettingA (d := d) _ _ h) dX4_set_2 rfl rfl rfl (by decide) (Nat.le_of_ble_eq_true rfl) (by omega) ?_
  refine F_if_eqB (tgt := 21) dX4_set_5 rfl (fun c5 => ?_) (fun c5 => ?_)
  · refine F_iconst (v := nI 0) dX4_set_21 rfl ?_
    refine F_zret dX4_set_22 rfl (by first | exact Or.inl rfl | exact Or.inr rfl | exact bI_01 _) ?_
    exact hQ
  · cases c5

theorem b_setB (v : Int32) {k : Nat} (hk : k < 8) (h : inR v (mLeast.getD k 0) (mMost.getD k 0) = false) : mV G mX4_set (d + 1) [.ref 3, .int (nI k), .int v] σ (some (.int (nI 0))) σ := by
  refine mV_of fun Q hQ => ?_
  refine F_iload_n dX4_set_0 rfl ?_
  refine F_iload_n dX4_set_1 rfl ?_
  refine F_cS2i (v_canBeSettingB (d := d) _ hk) dX4_set_2 rfl rfl rfl (by decide) (Nat.le_of_ble_eq_true rfl) (by omega) ?_
  refine F_if_eqB (tgt := 21) dX4_set_5 rfl (fun c5 => ?_) (fun c5 => ?_)
  · refine F_iconst (v := nI 0) dX4_set_21 rfl ?_
    refine F_zret dX4_set_22 rfl (by first | exact Or.inl rfl | exact Or.inr rfl | exact bI_01 _) ?_
    exact hQ
  · rw [h] at c5
    cases c5

theorem b_setC (v : Int32) {k : Nat} (hk : k < 8) (h : inR v (mLeast.getD k 0) (mMost.getD k 0) = true) (hs : σ 11 k = v) : mV G mX4_set (d + 1) [.ref 3, .int (nI k), .int v] σ (some (.int (nI 0))) σ := by
  refine mV_of fun Q hQ => ?_
  refine F_iload_n dX4_set_0 rfl ?_
  refine F_iload_n dX4_set_1 rfl ?_
  refine F_cS2i (v_canBeSettingB (d := d) _ hk) dX4_set_2 rfl rfl rfl (by decide) (Nat.le_of_ble_eq_true rfl) (by omega) ?_
  refine F_if_eqB (tgt := 21) dX4_set_5 rfl (fun c5 => ?_) (fun c5 => ?_)
  · rw [h] at c5
    cases c5
  · refine F_aload_n dX4_set_8 rfl ?_
    refine F_getr dX4_set_9 rfl rfl (by first | assumption | rfl) rfl ?_
    refine F_getr dX4_set_12 rfl rfl (by first | assumption | rfl) rfl ?_
    refine F_iload_n dX4_set_15 rfl ?_
    refine F_ialdE (v := v) dX4_set_16 (by first | assumption | rfl) (by decide) (by omega) hs ?_
    refine F_iload_n dX4_set_17 rfl ?_
    refine F_icmp_ne (tgt := 23) dX4_set_18 rfl (fun c18 => ?_) (fun c18 => ?_)
    · exact absurd rfl c18
    · refine F_iconst (v := nI 0) dX4_set_21 rfl ?_
      refine F_zret dX4_set_22 rfl (by first | exact Or.inl rfl | exact Or.inr rfl | exact bI_01 _) ?_
      exact hQ

theorem b_setD (v : Int32) {k : Nat} (hk : k < 8) (h : inR v (mLeast.getD k 0) (mMost.getD k 0) = true) (hs : ¬ σ 11 k = v) : mV G mX4_set (d + 1) [.ref 3, .int (nI k), .int v] σ (some (.int (nI 1))) (up σ 11 k v) := by
  refine mV_of fun Q hQ => ?_
  refine F_iload_n dX4_set_0 rfl ?_
  refine F_iload_n dX4_set_1 rfl ?_
  refine F_cS2i (v_canBeSettingB (d := d) _ hk) dX4_set_2 rfl rfl rfl (by decide) (Nat.le_of_ble_eq_true rfl) (by omega) ?_
  refine F_if_eqB (tgt := 21) dX4_set_5 rfl (fun c5 => ?_) (fun c5 => ?_)
  · rw [h] at c5
    cases c5
  · refine F_aload_n dX4_set_8 rfl ?_
    refine F_getr dX4_set_9 rfl rfl (by first | assumption | rfl) rfl ?_
    refine F_getr dX4_set_12 rfl rfl (by first | assumption | rfl) rfl ?_
    refine F_iload_n dX4_set_15 rfl ?_
    refine F_iald dX4_set_16 (by first | assumption | rfl) (by decide) (by omega) ?_
    refine F_iload_n dX4_set_17 rfl ?_
    refine F_icmp_ne (tgt := 23) dX4_set_18 rfl (fun c18 => ?_) (fun c18 => ?_)
    · refine F_aload_n dX4_set_23 rfl ?_
      refine F_getr dX4_set_24 rfl rfl (by first | assumption | rfl) rfl ?_
      refine F_getr dX4_set_27 rfl rfl (by first | assumption | rfl) rfl ?_
      refine F_iload_n dX4_set_30 rfl ?_
      refine F_iload_n dX4_set_31 rfl ?_
      refine F_iast dX4_set_32 (by first | assumption | rfl) (by decide) (by omega) ?_
      refine F_iconst (v := nI 1) dX4_set_33 rfl ?_
      refine F_zret dX4_set_34 rfl (by first | exact Or.inl rfl | exact Or.inr rfl | exact bI_01 _) ?_
      exact hQ
    · exact absurd c18 hs

theorem b_campA (a b : Int32) (h : (dB a && dB b && decide (a ≤ b)) = false) : mV G mX4_camp (d + 2) [.ref 3, .int a, .int b] σ (some (.int (-1))) σ := by
  refine mV_of fun Q hQ => ?_
  refine F_iload_n dX4_camp_0 rfl ?_
  refine F_iload_n dX4_camp_1 rfl ?_
  refine F_cS2i (v_bAreDays (d := d) _ _) dX4_camp_2 rfl rfl rfl (by decide) (Nat.le_of_ble_eq_true rfl) (by omega) ?_
  refine F_if_neB (tgt := 10) dX4_camp_5 rfl (fun c5 => ?_) (fun c5 => ?_)
  · rw [c5] at h
    cases h
  · refine F_iconst (v := (-1)) dX4_camp_8 rfl ?_
    refine F_iret dX4_camp_9 rfl ?_
    exact hQ

theorem b_campB (a b : Int32) (h : (dB a && dB b && decide (a ≤ b)) = true) (hn : σ 4 4 = nI 4) : mV G mX4_camp (d + 2) [.ref 3, .int a, .int b] σ (some (.int (-2))) σ := by
  refine mV_of fun Q hQ => ?_
  refine F_iload_n dX4_camp_0 rfl ?_
  refine F_iload_n dX4_camp_1 rfl ?_
  refine F_cS2i (v_bAreDays (d := d) _ _) dX4_camp_2 rfl rfl rfl (by decide) (Nat.le_of_ble_eq_true rfl) (by omega) ?_
  refine F_if_neB (tgt := 10) dX4_camp_5 rfl (fun c5 => ?_) (fun c5 => ?_)
  · refine F_aload_n dX4_camp_10 rfl ?_
    refine F_getr dX4_camp_11 rfl rfl (by first | assumption | rfl) rfl ?_
    refine F_getE (v := nI 4) dX4_camp_14 rfl rfl (by first | assumption | rfl) rfl hn ?_
    refine F_iconst (v := nI 4) dX4_camp_17 rfl ?_
    refine F_icmp_ltN (tgt := 24) dX4_camp_18 rfl (by omega) (by omega) (fun c18 => ?_) (fun c18 => ?_)
    · exact absurd c18 (by decide)
    · refine F_bipush (v := (-2)) dX4_camp_21 rfl ?_
      refine F_iret dX4_camp_23 rfl ?_
      exact hQ
  · rw [c5] at h
    cases h

theorem b_campC (a b : Int32) (h : (dB a && dB b && decide (a ≤ b)) = true) {n : Nat} (hn : σ 4 4 = nI n) (h4 : n < 4) {j u : Nat} (hj : σ 3 3 = nI j) (hj8 : j < 8) (hu : σ 3 2 = nI u) (hu8 : u ≤ 8) : mV G mX4_camp (d + 2) [.ref 3, .int a, .int b] σ (some (.int (nI n))) (up (up (up (remS σ j u) 8 n a) 9 n b) 4 4 (nI (n + 1))) := by
  refine mV_of fun Q hQ => ?_
  have hr : remS σ j u 4 4 = nI n := by rw [remS_far _ (by omega) (by omega)]; exact hn
  refine F_iload_n dX4_camp_0 rfl ?_
  refine F_iload_n dX4_camp_1 rfl ?_
  refine F_cS2i (v_bAreDays (d := d) _ _) dX4_camp_2 rfl rfl rfl (by decide) (Nat.le_of_ble_eq_true rfl) (by omega) ?_
  refine F_if_neB (tgt := 10) dX4_camp_5 rfl (fun c5 => ?_) (fun c5 => ?_)
  · refine F_aload_n dX4_camp_10 rfl ?_
    refine F_getr dX4_camp_11 rfl rfl (by first | assumption | rfl) rfl ?_
    refine F_getE (v := nI n) dX4_camp_14 rfl rfl (by first | assumption | rfl) rfl hn ?_
    refine F_iconst (v := nI 4) dX4_camp_17 rfl ?_
    refine F_icmp_ltN (tgt := 24) dX4_camp_18 rfl (by omega) (by omega) (fun c18 => ?_) (fun c18 => ?_)
    · refine F_aload_n dX4_camp_24 rfl ?_
      refine F_cV0v (v_remember (d := d) hj hj8 hu hu8) dX4_camp_25 rfl rfl (by decide) (by first | assumption | rfl) rfl rfl rfl (by decide) (Nat.le_of_ble_eq_true rfl) (by omega) ?_
      refine F_aload_n dX4_camp_28 rfl ?_
      refine F_getr dX4_camp_29 rfl rfl (by first | assumption | rfl) rfl ?_
      refine F_iload_n dX4_camp_32 rfl ?_
      refine F_iload_n dX4_camp_33 rfl ?_
      refine F_cV2v (v_addCamp (d := d) isTold_4 _ _ hr h4) dX4_camp_34 rfl rfl (by decide) (by first | assumption | rfl) rfl rfl rfl (by decide) (Nat.le_of_ble_eq_true rfl) (by omega) ?_
      refine F_aload_n dX4_camp_37 rfl ?_
      refine F_getr dX4_camp_38 rfl rfl (by first | assumption | rfl) rfl ?_
      refine F_getE (v := nI (n + 1)) dX4_camp_41 rfl rfl (by first | assumption | rfl) rfl rfl ?_
      refine F_iconst (v := nI 1) dX4_camp_44 rfl ?_
      refine F_isubN dX4_camp_45 (by omega) ?_
      refine F_iret dX4_camp_46 rfl ?_
      exact hQ
    · exact absurd h4 c18
  · rw [c5] at h
    cases h

theorem b_strikeA (c : Int32) (h : grB (σ 4 4) c = false) : mV G mX4_strike (d + 1) [.ref 3, .int c] σ (some (.int (-1))) σ := by
  refine mV_of fun Q hQ => ?_
  refine F_aload_n dX4_strike_0 rfl ?_
  refine F_getr dX4_strike_1 rfl rfl (by first | assumption | rfl) rfl ?_
  refine F_iload_n dX4_strike_4 rfl ?_
  refine F_cV1i (v_hasCamp (d := d) isTold_4 _) dX4_strike_5 rfl rfl (by decide) (by first | assumption | rfl) rfl rfl rfl (by decide) (Nat.le_of_ble_eq_true rfl) (by omega) ?_
  refine F_if_neB (tgt := 13) dX4_strike_8 rfl (fun c8 => ?_) (fun c8 => ?_)
  · have c8 : grB (σ 4 4) c = true := c8
    rw [h] at c8
    cases c8
  · refine F_iconst (v := (-1)) dX4_strike_11 rfl ?_
    refine F_iret dX4_strike_12 rfl ?_
    exact hQ

theorem b_strikeB {c n : Nat} (hn : σ 4 4 = nI n) (hc : c < n) (h4 : n ≤ 4) {j u : Nat} (hj : σ 3 3 = nI j) (hj8 : j < 8) (hu : σ 3 2 = nI u) (hu8 : u ≤ 8) : mV G mX4_strike (d + 2) [.ref 3, .int (nI c)] σ (some (.int (nI (n - 1)))) (up (upR (upR (remS σ j u) 8 (va_cpy (σ 8) (σ 8) (c + 1) c (n - 1 - c))) 9 (va_cpy (σ 9) (σ 9) (c + 1) c (n - 1 - c))) 4 4 (nI (n - 1))) := by
  refine mV_of fun Q hQ => ?_
  have hr : remS σ j u 4 4 = nI n := by rw [remS_far _ (by omega) (by omega)]; exact hn
  have hr8 : remS σ j u 8 = σ 8 := remS_far _ (by omega) (by omega)
  have hr9 : remS σ j u 9 = σ 9 := remS_far _ (by omega) (by omega)
  refine F_aload_n dX4_strike_0 rfl ?_
  refine F_getr dX4_strike_1 rfl rfl (by first | assumption | rfl) rfl ?_
  refine F_iload_n dX4_strike_4 rfl ?_
  refine F_cV1i (v_hasCamp (d := d) isTold_4 _) dX4_strike_5 rfl rfl (by decide) (by first | assumption | rfl) rfl rfl rfl (by decide) (Nat.le_of_ble_eq_true rfl) (by omega) ?_
  refine F_if_neB (tgt := 13) dX4_strike_8 rfl (fun c8 => ?_) (fun c8 => ?_)
  · refine F_aload_n dX4_strike_13 rfl ?_
    refine F_cV0v (v_remember (d := d) hj hj8 hu hu8) dX4_strike_14 rfl rfl (by decide) (by first | assumption | rfl) rfl rfl rfl (by decide) (Nat.le_of_ble_eq_true rfl) (by omega) ?_
    refine F_aload_n dX4_strike_17 rfl ?_
    refine F_getr dX4_strike_18 rfl rfl (by first | assumption | rfl) rfl ?_
    refine F_iload_n dX4_strike_21 rfl ?_
    refine F_cV1v (v_dropCamp (d := d) isTold_4 hr hc h4) dX4_strike_22 rfl rfl (by decide) (by first | assumption | rfl) rfl rfl rfl (by decide) (Nat.le_of_ble_eq_true rfl) (by omega) ?_
    refine F_aload_n dX4_strike_25 rfl ?_
    refine F_getr dX4_strike_26 rfl rfl (by first | assumption | rfl) rfl ?_
    refine F_getE (v := nI (n - 1)) dX4_strike_29 rfl rfl (by first | assumption | rfl) rfl rfl ?_
    refine F_iret dX4_strike_32 rfl ?_
    rw [← hr8, ← hr9] at hQ
    exact hQ
  · have c8 : grB (σ 4 4) (nI c) = false := c8
    rw [hn, grB_nI hc (by omega)] at c8
    cases c8

theorem b_planA (g a b kind : Int32) (h : (grB (σ 4 0) g && dB a && dB b && decide (a ≤ b) && inR kind (nI 0) (nI 5)) = false) : mV G mX4_plan (d + 2) [.ref 3, .int g, .int a, .int b, .int kind] σ (some (.int (-1))) σ := by
  refine mV_of fun Q hQ => ?_
  refine F_aload_n dX4_plan_0 rfl ?_
  refine F_getr dX4_plan_1 rfl rfl (by first | assumption | rfl) rfl ?_
  refine F_iload_n dX4_plan_4 rfl ?_
  refine F_cV1i (v_hasGroup (d := d) isTold_4 _) dX4_plan_5 rfl rfl (by decide) (by first | assumption | rfl) rfl rfl rfl (by decide) (Nat.le_of_ble_eq_true rfl) (by omega) ?_
  refine F_if_eqB (tgt := 31) dX4_plan_8 rfl (fun c8 => ?_) (fun c8 => ?_)
  · refine F_iconst (v := (-1)) dX4_plan_31 rfl ?_
    refine F_iret dX4_plan_32 rfl ?_
    exact hQ
  · refine F_iload_n dX4_plan_11 rfl ?_
    refine F_iload_n dX4_plan_12 rfl ?_
    refine F_cS2i (v_bAreDays (d := d) _ _) dX4_plan_13 rfl rfl rfl (by decide) (Nat.le_of_ble_eq_true rfl) (by omega) ?_
    refine F_if_eqB (tgt := 31) dX4_plan_16 rfl (fun c16 => ?_) (fun c16 => ?_)
    · refine F_iconst (v := (-1)) dX4_plan_31 rfl ?_
      refine F_iret dX4_plan_32 rfl ?_
      exact hQ
    · refine F_iload dX4_plan_19 rfl ?_
      refine F_if_lt (tgt := 31) dX4_plan_21 rfl (fun c21 => ?_) (fun c21 => ?_)
      · refine F_iconst (v := (-1)) dX4_plan_31 rfl ?_
        refine F_iret dX4_plan_32 rfl ?_
        exact hQ
      · refine F_iload dX4_plan_24 rfl ?_
        refine F_bipush (v := nI 6) dX4_plan_26 rfl ?_
        refine F_icmp_lt (tgt := 33) dX4_plan_28 rfl (fun c28 => ?_) (fun c28 => ?_)
        · exfalso
          have c8 : grB (σ 4 0) g = true := c8
          rw [lt0_iff, Decidable.not_not] at c21
          rw [lt_nI (n := 5) (by decide)] at c28
          rw [Bool.and_assoc, Bool.and_assoc, Bool.and_assoc, c8, ← Bool.and_assoc, ← Bool.and_assoc, ← Bool.and_assoc] at h
          rw [Bool.true_and, c16, inR, decide_eq_true c21, decide_eq_true c28] at h
          cases h
        · refine F_iconst (v := (-1)) dX4_plan_31 rfl ?_
          refine F_iret dX4_plan_32 rfl ?_
          exact hQ

theorem b_planB {g a b n : Nat} {kind : Int32} (hn : σ 4 0 = nI n) (h6 : n ≤ 6) (hg : g < n) (hab : a ≤ b) (hb : b < 70) (h : inR kind (nI 0) (nI 5) = true) (h0 : cntB (fun i => decide (¬ σ 7 (g * 70 + (a + i)) = kind)) (b + 1 - a) = 0) : mV G mX4_plan (d + 2) [.ref 3, .int (nI g), .int (nI a), .int (nI b), .int kind] σ (some (.int (nI 0))) σ := by
  refine mV_of fun Q hQ => ?_
  have hk := h
  simp only [inR, Bool.and_eq_true, decide_eq_true_eq] at hk
  refine F_aload_n dX4_plan_0 rfl ?_
  refine F_getr dX4_plan_1 rfl rfl (by first | assumption | rfl) rfl ?_
  refine F_iload_n dX4_plan_4 rfl ?_
  refine F_cV1i (v_hasGroup (d := d) isTold_4 _) dX4_plan_5 rfl rfl (by decide) (by first | assumption | rfl) rfl rfl rfl (by decide) (Nat.le_of_ble_eq_true rfl) (by omega) ?_
  refine F_if_eqB (tgt := 31) dX4_plan_8 rfl (fun c8 => ?_) (fun c8 => ?_)
  · have c8 : grB (σ 4 0) (nI g) = false := c8
    rw [hn, grB_nI hg (by omega)] at c8
    cases c8
  · refine F_iload_n dX4_plan_11 rfl ?_
    refine F_iload_n dX4_plan_12 rfl ?_
    refine F_cS2i (v_bAreDays (d := d) _ _) dX4_plan_13 rfl rfl rfl (by decide) (Nat.le_of_ble_eq_true rfl) (by omega) ?_
    refine F_if_eqB (tgt := 31) dX4_plan_16 rfl (fun c16 => ?_) (fun c16 => ?_)
    · rw [dB_nI (by omega), dB_nI hb, decide_eq_true (nI_le hab (by omega))] at c16
      cases c16
    · refine F_iload dX4_plan_19 rfl ?_
      refine F_if_lt (tgt := 31) dX4_plan_21 rfl (fun c21 => ?_) (fun c21 => ?_)
      · exact absurd hk.1 ((lt0_iff kind).mp c21)
      · refine F_iload dX4_plan_24 rfl ?_
        refine F_bipush (v := nI 6) dX4_plan_26 rfl ?_
        refine F_icmp_lt (tgt := 33) dX4_plan_28 rfl (fun c28 => ?_) (fun c28 => ?_)
        · refine F_aload_n dX4_plan_33 rfl ?_
          refine F_getr dX4_plan_34 rfl rfl (by first | assumption | rfl) rfl ?_
          refine F_iload_n dX4_plan_37 rfl ?_
          refine F_iload_n dX4_plan_38 rfl ?_
          refine F_iload_n dX4_plan_39 rfl ?_
          refine F_iload dX4_plan_40 rfl ?_
          refine F_cV4i (v_countOthers (d := d) isTold_4 (by omega) hab hb) dX4_plan_42 rfl rfl (by decide) (by first | assumption | rfl) rfl rfl rfl (by decide) (Nat.le_of_ble_eq_true rfl) (by omega) ?_
          refine F_top (y := nI 0) (by rw [h0]) ?_
          refine F_istore dX4_plan_45 (Nat.le_of_ble_eq_true rfl) ?_
          refine F_iload dX4_plan_47 rfl ?_
          refine F_if_leN (tgt := 68) dX4_plan_49 rfl (by omega) (fun c49 => ?_) (fun c49 => ?_)
          · refine F_iload dX4_plan_68 rfl ?_
            refine F_iret dX4_plan_70 rfl ?_
            exact hQ
          · exact absurd c49 (by omega)
        · exact absurd ((lt_nI (n := 5) (by decide)).mpr hk.2) c28

theorem b_planC {g a b n : Nat} {kind : Int32} (hn : σ 4 0 = nI n) (h6 : n ≤ 6) (hg : g < n) (hab : a ≤ b) (hb : b < 70) (h : inR kind (nI 0) (nI 5) = true) (h0 : 0 < cntB (fun i => decide (¬ σ 7 (g * 70 + (a + i)) = kind)) (b + 1 - a)) {j u : Nat} (hj : σ 3 3 = nI j) (hj8 : j < 8) (hu : σ 3 2 = nI u) (hu8 : u ≤ 8) : mV G mX4_plan (d + 2) [.ref 3, .int (nI g), .int (nI a), .int (nI b), .int kind] σ (some (.int (nI (cntB (fun i => decide (¬ σ 7 (g * 70 + (a + i)) = kind)) (b + 1 - a))))) (upR (remS σ j u) 7 (fillR (σ 7) (g * 70 + a) (g * 70 + a + (b + 1 - a)) kind)) := by
  refine mV_of fun Q hQ => ?_
  have hk := h
  simp only [inR, Bool.and_eq_true, decide_eq_true_eq] at hk
  have hr7 : remS σ j u 7 = σ 7 := remS_far _ (by omega) (by omega)
  have hle := cntB_le (fun i => decide (¬ σ 7 (g * 70 + (a + i)) = kind)) (b + 1 - a)
  refine F_aload_n dX4_plan_0 rfl ?_
  refine F_getr dX4_plan_1 rfl rfl (by first | assumption | rfl) rfl ?_
  refine F_iload_n dX4_plan_4 rfl ?_
  refine F_cV1i (v_hasGroup (d := d) isTold_4 _) dX4_plan_5 rfl rfl (by decide) (by first | assumption | rfl) rfl rfl rfl (by decide) (Nat.le_of_ble_eq_true rfl) (by omega) ?_
  refine F_if_eqB (tgt := 31) dX4_plan_8 rfl (fun c8 => ?_) (fun c8 => ?_)
  · have c8 : grB (σ 4 0) (nI g) = false := c8
    rw [hn, grB_nI hg (by omega)] at c8
    cases c8
  · refine F_iload_n dX4_plan_11 rfl ?_
    refine F_iload_n dX4_plan_12 rfl ?_
    refine F_cS2i (v_bAreDays (d := d) _ _) dX4_plan_13 rfl rfl rfl (by decide) (Nat.le_of_ble_eq_true rfl) (by omega) ?_
    refine F_if_eqB (tgt := 31) dX4_plan_16 rfl (fun c16 => ?_) (fun c16 => ?_)
    · rw [dB_nI (by omega), dB_nI hb, decide_eq_true (nI_le hab (by omega))] at c16
      cases c16
    · refine F_iload dX4_plan_19 rfl ?_
      refine F_if_lt (tgt := 31) dX4_plan_21 rfl (fun c21 => ?_) (fun c21 => ?_)
      · exact absurd hk.1 ((lt0_iff kind).mp c21)
      · refine F_iload dX4_plan_24 rfl ?_
        refine F_bipush (v := nI 6) dX4_plan_26 rfl ?_
        refine F_icmp_lt (tgt := 33) dX4_plan_28 rfl (fun c28 => ?_) (fun c28 => ?_)
        · refine F_aload_n dX4_plan_33 rfl ?_
          refine F_getr dX4_plan_34 rfl rfl (by first | assumption | rfl) rfl ?_
          refine F_iload_n dX4_plan_37 rfl ?_
          refine F_iload_n dX4_plan_38 rfl ?_
          refine F_iload_n dX4_plan_39 rfl ?_
          refine F_iload dX4_plan_40 rfl ?_
          refine F_cV4i (v_countOthers (d := d) isTold_4 (by omega) hab hb) dX4_plan_42 rfl rfl (by decide) (by first | assumption | rfl) rfl rfl rfl (by decide) (Nat.le_of_ble_eq_true rfl) (by omega) ?_
          refine F_top (y := nI (cntB (fun i => decide (¬ σ 7 (g * 70 + (a + i)) = kind)) (b + 1 - a))) rfl ?_
          refine F_istore dX4_plan_45 (Nat.le_of_ble_eq_true rfl) ?_
          refine F_iload dX4_plan_47 rfl ?_
          refine F_if_leN (tgt := 68) dX4_plan_49 rfl (by omega) (fun c49 => ?_) (fun c49 => ?_)
          · exact absurd c49 (by omega)
          · refine F_aload_n dX4_plan_52 rfl ?_
            refine F_cV0v (v_remember (d := d) hj hj8 hu hu8) dX4_plan_53 rfl rfl (by decide) (by first | assumption | rfl) rfl rfl rfl (by decide) (Nat.le_of_ble_eq_true rfl) (by omega) ?_
            refine F_aload_n dX4_plan_56 rfl ?_
            refine F_getr dX4_plan_57 rfl rfl (by first | assumption | rfl) rfl ?_
            refine F_iload_n dX4_plan_60 rfl ?_
            refine F_iload_n dX4_plan_61 rfl ?_
            refine F_iload_n dX4_plan_62 rfl ?_
            refine F_iload dX4_plan_63 rfl ?_
            refine F_cV4v (v_fillKinds (d := d) isTold_4 (by omega) hab hb) dX4_plan_65 rfl rfl (by decide) (by first | assumption | rfl) rfl rfl rfl (by decide) (Nat.le_of_ble_eq_true rfl) (by omega) ?_
            refine F_iload dX4_plan_68 rfl ?_
            refine F_iret dX4_plan_70 rfl ?_
            refine Qv hQ rfl ?_
            show upR (remS σ j u) 7 (fillR (remS σ j u 7) _ _ _) = _
            rw [hr7]
        · exact absurd ((lt_nI (n := 5) (by decide)).mpr hk.2) c28

theorem b_undoA (hu : σ 3 2 = nI 0) : mV G mX4_undo (d + 1) [.ref 3] σ (some (.int (-1))) σ := by
  refine mV_of fun Q hQ => ?_
  refine F_aload_n dX4_undo_0 rfl ?_
  refine F_getE (v := nI 0) dX4_undo_1 rfl rfl (by first | assumption | rfl) rfl hu ?_
  refine F_if_neN (tgt := 9) dX4_undo_4 rfl (by omega) (fun c4 => ?_) (fun c4 => ?_)
  · exact absurd rfl c4
  · refine F_iconst (v := (-1)) dX4_undo_7 rfl ?_
    refine F_iret dX4_undo_8 rfl ?_
    exact hQ

theorem b_undoB {j u : Nat} (hj : σ 3 3 = nI j) (hj8 : j < 8) (hu : σ 3 2 = nI (u + 1)) (hu8 : u < 8) : mV G mX4_undo (d + 1) [.ref 3] σ (some (.int (nI u))) (copyT (up (up σ 3 2 (nI u)) 3 3 (nI ((j + 7) % 8))) 4 (pastB ((j + 7) % 8))) := by
  refine mV_of fun Q hQ => ?_
  have hp := pastB_ge ((j + 7) % 8)
  have hm : (j + 7) % 8 < 8 := Nat.mod_lt _ (by decide)
  refine F_aload_n dX4_undo_0 rfl ?_
  refine F_getE (v := nI (u + 1)) dX4_undo_1 rfl rfl (by first | assumption | rfl) rfl hu ?_
  refine F_if_neN (tgt := 9) dX4_undo_4 rfl (by omega) (fun c4 => ?_) (fun c4 => ?_)
  · refine F_aload_n dX4_undo_9 rfl ?_
    refine F_dup dX4_undo_10 rfl ?_
    refine F_getE (v := nI (u + 1)) dX4_undo_11 rfl rfl (by first | assumption | rfl) rfl hu ?_
    refine F_iconst (v := nI 1) dX4_undo_14 rfl ?_
    refine F_isubN dX4_undo_15 (by omega) ?_
    refine F_put dX4_undo_16 rfl rfl (by first | assumption | rfl) rfl rfl rfl rfl ?_
    refine F_aload_n dX4_undo_19 rfl ?_
    refine F_aload_n dX4_undo_20 rfl ?_
    refine F_getE (v := nI j) dX4_undo_21 rfl rfl (by first | assumption | rfl) rfl hj ?_
    refine F_bipush (v := nI 8) dX4_undo_24 rfl ?_
    refine F_iaddN dX4_undo_26 ?_
    refine F_iconst (v := nI 1) dX4_undo_27 rfl ?_
    refine F_isubN dX4_undo_28 (by omega) ?_
    refine F_bipush (v := nI 8) dX4_undo_29 rfl ?_
    refine F_irem dX4_undo_31 (by decide) ?_
    refine F_top (y := nI ((j + 7) % 8)) (nI_rem (by omega) (by decide)) ?_
    refine F_put dX4_undo_32 rfl rfl (by first | assumption | rfl) rfl rfl rfl rfl ?_
    refine F_aload_n dX4_undo_35 rfl ?_
    refine F_getr dX4_undo_36 rfl rfl (by first | assumption | rfl) rfl ?_
    refine F_aload_n dX4_undo_39 rfl ?_
    refine F_getr dX4_undo_40 rfl rfl (by first | assumption | rfl) rfl ?_
    refine F_aload_n dX4_undo_43 rfl ?_
    refine F_getE (v := nI ((j + 7) % 8)) dX4_undo_44 rfl rfl (by first | assumption | rfl) rfl rfl ?_
    refine F_aald dX4_undo_47 (by first | assumption | rfl) (by decide) (past_at hm) ?_
    refine F_cV_r_v (v_copyFrom (d := d) isTold_4 (isTold_past hm) (by omega)) dX4_undo_48 rfl rfl (by decide) (by first | assumption | rfl) rfl rfl rfl (by decide) (Nat.le_of_ble_eq_true rfl) (by omega) ?_
    refine F_aload_n dX4_undo_51 rfl ?_
    refine F_getE (v := nI u) dX4_undo_52 rfl rfl (by first | assumption | rfl) rfl (by rw [copyT_far _ (by omega)]; rfl) ?_
    refine F_iret dX4_undo_55 rfl ?_
    exact hQ
  · exact absurd c4 (by omega)

theorem b_count0  : mV G mX4_count (d + 1) [.ref 3, .int (nI 0)] σ (some (.int (σ 4 0))) σ := by
  refine mV_of fun Q hQ => ?_
  refine F_iload_n dX4_count_0 rfl ?_
  refine F_tableIn (off := 31) (tgt := 32) dX4_count_1 (by decide) (by decide) (by decide +kernel) rfl ?_
  refine F_aload_n dX4_count_32 rfl ?_
  refine F_getr dX4_count_33 rfl rfl (by first | assumption | rfl) rfl ?_
  refine F_geti dX4_count_36 rfl rfl (by first | assumption | rfl) rfl ?_
  refine F_iret dX4_count_39 rfl ?_
  exact hQ

theorem b_count1  : mV G mX4_count (d + 1) [.ref 3, .int (nI 1)] σ (some (.int (σ 4 4))) σ := by
  refine mV_of fun Q hQ => ?_
  refine F_iload_n dX4_count_0 rfl ?_
  refine F_tableIn (off := 39) (tgt := 40) dX4_count_1 (by decide) (by decide) (by decide +kernel) rfl ?_
  refine F_aload_n dX4_count_40 rfl ?_
  refine F_getr dX4_count_41 rfl rfl (by first | assumption | rfl) rfl ?_
  refine F_geti dX4_count_44 rfl rfl (by first | assumption | rfl) rfl ?_
  refine F_iret dX4_count_47 rfl ?_
  exact hQ

theorem b_count2  : mV G mX4_count (d + 1) [.ref 3, .int (nI 2)] σ (some (.int (σ 14 1))) σ := by
  refine mV_of fun Q hQ => ?_
  refine F_iload_n dX4_count_0 rfl ?_
  refine F_tableIn (off := 47) (tgt := 48) dX4_count_1 (by decide) (by decide) (by decide +kernel) rfl ?_
  refine F_aload_n dX4_count_48 rfl ?_
  refine F_getr dX4_count_49 rfl rfl (by first | assumption | rfl) rfl ?_
  refine F_getr dX4_count_52 rfl rfl (by first | assumption | rfl) rfl ?_
  refine F_geti dX4_count_55 rfl rfl (by first | assumption | rfl) rfl ?_
  refine F_iret dX4_count_58 rfl ?_
  exact hQ

theorem b_count3  : mV G mX4_count (d + 1) [.ref 3, .int (nI 3)] σ (some (.int (σ 3 2))) σ := by
  refine mV_of fun Q hQ => ?_
  refine F_iload_n dX4_count_0 rfl ?_
  refine F_tableIn (off := 58) (tgt := 59) dX4_count_1 (by decide) (by decide) (by decide +kernel) rfl ?_
  refine F_aload_n dX4_count_59 rfl ?_
  refine F_geti dX4_count_60 rfl rfl (by first | assumption | rfl) rfl ?_
  refine F_iret dX4_count_63 rfl ?_
  exact hQ

theorem v_countNumber10 {k : Nat} (hk : k < 6) : mV G mX4_countNumber d [.ref 3, .int (nI (10 + k))] σ (some (.int (σ 10 k))) σ := by
  refine mV_of fun Q hQ => ?_
  refine F_iload_n dX4_countNumber_0 rfl ?_
  refine F_bipush (v := nI 10) dX4_countNumber_1 rfl ?_
  refine F_icmp_ltN (tgt := 25) dX4_countNumber_3 rfl (by omega) (by omega) (fun c3 => ?_) (fun c3 => ?_)
  · exact absurd c3 (by omega)
  · refine F_iload_n dX4_countNumber_6 rfl ?_
    refine F_bipush (v := nI 16) dX4_countNumber_7 rfl ?_
    refine F_icmp_geN (tgt := 25) dX4_countNumber_9 rfl (by omega) (by omega) (fun c9 => ?_) (fun c9 => ?_)
    · exact absurd c9 (by omega)
    · refine F_aload_n dX4_countNumber_12 rfl ?_
      refine F_getr dX4_countNumber_13 rfl rfl (by first | assumption | rfl) rfl ?_
      refine F_getr dX4_countNumber_16 rfl rfl (by first | assumption | rfl) rfl ?_
      refine F_iload_n dX4_countNumber_19 rfl ?_
      refine F_bipush (v := nI 10) dX4_countNumber_20 rfl ?_
      refine F_isubN dX4_countNumber_22 (by omega) ?_
      refine F_ialdE (v := σ 10 k) dX4_countNumber_23 (by first | assumption | rfl) (by decide) (by omega) (by congr 1; omega) ?_
      refine F_iret dX4_countNumber_24 rfl ?_
      exact hQ

theorem v_countNumber20 {k : Nat} (hk : k < 8) : mV G mX4_countNumber d [.ref 3, .int (nI (20 + k))] σ (some (.int (σ 11 k))) σ := by
  refine mV_of fun Q hQ => ?_
  refine F_iload_n dX4_countNumber_0 rfl ?_
  refine F_bipush (v := nI 10) dX4_countNumber_1 rfl ?_
  refine F_icmp_ltN (tgt := 25) dX4_countNumber_3 rfl (by omega) (by omega) (fun c3 => ?_) (fun c3 => ?_)
  · exact absurd c3 (by omega)
  · refine F_iload_n dX4_countNumber_6 rfl ?_
    refine F_bipush (v := nI 16) dX4_countNumber_7 rfl ?_
    refine F_icmp_geN (tgt := 25) dX4_countNumber_9 rfl (by omega) (by omega) (fun c9 => ?_) (fun c9 => ?_)
    · refine F_iload_n dX4_countNumber_25 rfl ?_
      refine F_bipush (v := nI 20) dX4_countNumber_26 rfl ?_
      refine F_icmp_ltN (tgt := 50) dX4_countNumber_28 rfl (by omega) (by omega) (fun c28 => ?_) (fun c28 => ?_)
      · exact absurd c28 (by omega)
      · refine F_iload_n dX4_countNumber_31 rfl ?_
        refine F_bipush (v := nI 28) dX4_countNumber_32 rfl ?_
        refine F_icmp_geN (tgt := 50) dX4_countNumber_34 rfl (by omega) (by omega) (fun c34 => ?_) (fun c34 => ?_)
        · exact absurd c34 (by omega)
        · refine F_aload_n dX4_countNumber_37 rfl ?_
          refine F_getr dX4_countNumber_38 rfl rfl (by first | assumption | rfl) rfl ?_
          refine F_getr dX4_countNumber_41 rfl rfl (by first | assumption | rfl) rfl ?_
          refine F_iload_n dX4_countNumber_44 rfl ?_
          refine F_bipush (v := nI 20) dX4_countNumber_45 rfl ?_
          refine F_isubN dX4_countNumber_47 (by omega) ?_
          refine F_ialdE (v := σ 11 k) dX4_countNumber_48 (by first | assumption | rfl) (by decide) (by omega) (by congr 1; omega) ?_
          refine F_iret dX4_countNumber_49 rfl ?_
          exact hQ
    · exact absurd (show 16 ≤ 20 + k by omega) c9

theorem v_countNumberX (w : Int32) (h1 : inR w (nI 10) (nI 15) = false) (h2 : inR w (nI 20) (nI 27) = false) : mV G mX4_countNumber d [.ref 3, .int w] σ (some (.int (-1))) σ := by
  refine mV_of fun Q hQ => ?_
  refine F_iload_n dX4_countNumber_0 rfl ?_
  refine F_bipush (v := nI 10) dX4_countNumber_1 rfl ?_
  refine F_icmp_lt (tgt := 25) dX4_countNumber_3 rfl (fun c3 => ?_) (fun c3 => ?_)
  · refine F_iload_n dX4_countNumber_25 rfl ?_
    refine F_bipush (v := nI 20) dX4_countNumber_26 rfl ?_
    refine F_icmp_lt (tgt := 50) dX4_countNumber_28 rfl (fun c28 => ?_) (fun c28 => ?_)
    · refine F_iconst (v := (-1)) dX4_countNumber_50 rfl ?_
      refine F_iret dX4_countNumber_51 rfl ?_
      exact hQ
    · refine F_iload_n dX4_countNumber_31 rfl ?_
      refine F_bipush (v := nI 28) dX4_countNumber_32 rfl ?_
      refine F_icmp_ge (tgt := 50) dX4_countNumber_34 rfl (fun c34 => ?_) (fun c34 => ?_)
      · refine F_iconst (v := (-1)) dX4_countNumber_50 rfl ?_
        refine F_iret dX4_countNumber_51 rfl ?_
        exact hQ
      · exfalso
        rw [ge_iff (n := 27) (by decide), Decidable.not_not] at c34
        rw [inR, decide_eq_true (Int32.not_lt.mp c28), decide_eq_true c34] at h2
        cases h2
  · refine F_iload_n dX4_countNumber_6 rfl ?_
    refine F_bipush (v := nI 16) dX4_countNumber_7 rfl ?_
    refine F_icmp_ge (tgt := 25) dX4_countNumber_9 rfl (fun c9 => ?_) (fun c9 => ?_)
    · refine F_iload_n dX4_countNumber_25 rfl ?_
      refine F_bipush (v := nI 20) dX4_countNumber_26 rfl ?_
      refine F_icmp_lt (tgt := 50) dX4_countNumber_28 rfl (fun c28 => ?_) (fun c28 => ?_)
      · refine F_iconst (v := (-1)) dX4_countNumber_50 rfl ?_
        refine F_iret dX4_countNumber_51 rfl ?_
        exact hQ
      · refine F_iload_n dX4_countNumber_31 rfl ?_
        refine F_bipush (v := nI 28) dX4_countNumber_32 rfl ?_
        refine F_icmp_ge (tgt := 50) dX4_countNumber_34 rfl (fun c34 => ?_) (fun c34 => ?_)
        · refine F_iconst (v := (-1)) dX4_countNumber_50 rfl ?_
          refine F_iret dX4_countNumber_51 rfl ?_
          exact hQ
        · exfalso
          rw [ge_iff (n := 27) (by decide), Decidable.not_not] at c34
          rw [inR, decide_eq_true (Int32.not_lt.mp c28), decide_eq_true c34] at h2
          cases h2
    · exfalso
      rw [ge_iff (n := 15) (by decide), Decidable.not_not] at c9
      rw [inR, decide_eq_true (Int32.not_lt.mp c3), decide_eq_true c9] at h1
      cases h1

theorem b_count10 {k : Nat} (hk : k < 6) : mV G mX4_count (d + 1) [.ref 3, .int (nI (10 + k))] σ (some (.int (σ 10 k))) σ := by
  refine mV_of fun Q hQ => ?_
  refine F_iload_n dX4_count_0 rfl ?_
  refine F_tableOut (tgt := 64) dX4_count_1 (Or.inr (by rw [nI_toInt (by omega)]; omega)) rfl ?_
  refine F_aload_n dX4_count_64 rfl ?_
  refine F_iload_n dX4_count_65 rfl ?_
  refine F_cV1i (v_countNumber10 (d := d) hk) dX4_count_66 rfl rfl (by decide) (by first | assumption | rfl) rfl rfl rfl (by decide) (Nat.le_of_ble_eq_true rfl) (by omega) ?_
  refine F_iret dX4_count_69 rfl ?_
  exact hQ

theorem b_count20 {k : Nat} (hk : k < 8) : mV G mX4_count (d + 1) [.ref 3, .int (nI (20 + k))] σ (some (.int (σ 11 k))) σ := by
  refine mV_of fun Q hQ => ?_
  refine F_iload_n dX4_count_0 rfl ?_
  refine F_tableOut (tgt := 64) dX4_count_1 (Or.inr (by rw [nI_toInt (by omega)]; omega)) rfl ?_
  refine F_aload_n dX4_count_64 rfl ?_
  refine F_iload_n dX4_count_65 rfl ?_
  refine F_cV1i (v_countNumber20 (d := d) hk) dX4_count_66 rfl rfl (by decide) (by first | assumption | rfl) rfl rfl rfl (by decide) (Nat.le_of_ble_eq_true rfl) (by omega) ?_
  refine F_iret dX4_count_69 rfl ?_
  exact hQ

theorem b_countX (w : Int32) (h1 : inR w (nI 10) (nI 15) = false) (h2 : inR w (nI 20) (nI 27) = false) (h3 : ¬ w = nI 0) (h4 : ¬ w = nI 1) (h5 : ¬ w = nI 2) (h6 : ¬ w = nI 3) : mV G mX4_count (d + 1) [.ref 3, .int w] σ (some (.int (-1))) σ := by
  refine mV_of fun Q hQ => ?_
  have h7 : w.toInt < 0 ∨ 3 < w.toInt := by
    by_cases hw : w.toInt < 0
    · exact Or.inl hw
    · refine Or.inr ?_
      have e3 : ¬ w.toInt = 0 := fun z => h3 (Int32.toInt_inj.mp (by rw [z]; rfl))
      have e4 : ¬ w.toInt = 1 := fun z => h4 (Int32.toInt_inj.mp (by rw [z]; rfl))
      have e5 : ¬ w.toInt = 2 := fun z => h5 (Int32.toInt_inj.mp (by rw [z]; rfl))
      have e6 : ¬ w.toInt = 3 := fun z => h6 (Int32.toInt_inj.mp (by rw [z]; rfl))
      omega
  refine F_iload_n dX4_count_0 rfl ?_
  refine F_tableOut (tgt := 64) dX4_count_1 h7 rfl ?_
  refine F_aload_n dX4_count_64 rfl ?_
  refine F_iload_n dX4_count_65 rfl ?_
  refine F_cV1i (v_countNumberX (d := d) _ h1 h2) dX4_count_66 rfl rfl (by decide) (by first | assumption | rfl) rfl rfl rfl (by decide) (Nat.le_of_ble_eq_true rfl) (by omega) ?_
  refine F_iret dX4_count_69 rfl ?_
  exact hQ

theorem l_app24 {w : Int32} {n : Nat} (hn : σ 14 1 = nI n) (h4 : n < 400) {Q : Option Value → mS → Prop} (hk : mF G mX1_append d 3 [some (.ref 14), some (.int w), some (.int (nI 16))] [] (up (up σ 15 n (byF w 24)) 14 1 (nI (n + 1))) Q) : mF G mX1_append d 3 [some (.ref 14), some (.int w), some (.int (nI 24))] [] σ Q := by
  refine F_iload_n dX1_append_3 rfl ?_
  refine F_if_ltN (tgt := 46) dX1_append_4 rfl (by omega) ?_
  refine F_aload_n dX1_append_7 rfl ?_
  refine F_getE (v := nI n) dX1_append_8 rfl rfl (by first | assumption | rfl) rfl hn ?_
  refine F_sipush (v := nI 400) dX1_append_11 rfl ?_
  refine F_icmp_geN (tgt := 46) dX1_append_14 rfl (by omega) (by omega) (fun c14 => ?_) (fun c14 => ?_)
  · exact absurd c14 (by omega)
  · refine F_aload_n dX1_append_17 rfl ?_
    refine F_getr dX1_append_18 rfl rfl (by first | assumption | rfl) rfl ?_
    refine F_aload_n dX1_append_21 rfl ?_
    refine F_getE (v := nI n) dX1_append_22 rfl rfl (by first | assumption | rfl) rfl hn ?_
    refine F_iload_n dX1_append_25 rfl ?_
    refine F_iload_n dX1_append_26 rfl ?_
    refine F_ishr dX1_append_27 ?_
    refine F_i2b dX1_append_28 ?_
    refine F_bast dX1_append_29 (by first | assumption | rfl) (by decide) (by omega) ?_
    refine F_aload_n dX1_append_30 rfl ?_
    refine F_dup dX1_append_31 rfl ?_
    refine F_getE (v := nI n) dX1_append_32 rfl rfl (by first | assumption | rfl) rfl hn ?_
    refine F_iconst (v := nI 1) dX1_append_35 rfl ?_
    refine F_iaddN dX1_append_36 ?_
    refine F_put dX1_append_37 rfl rfl (by first | assumption | rfl) rfl rfl rfl rfl ?_
    refine F_iinc (v := nI 16) dX1_append_40 rfl (by decide) ?_
    refine F_goto (tgt := 3) dX1_append_43 rfl ?_
    exact hk

theorem l_app16 {w : Int32} {n : Nat} (hn : σ 14 1 = nI n) (h4 : n < 400) {Q : Option Value → mS → Prop} (hk : mF G mX1_append d 3 [some (.ref 14), some (.int w), some (.int (nI 8))] [] (up (up σ 15 n (byF w 16)) 14 1 (nI (n + 1))) Q) : mF G mX1_append d 3 [some (.ref 14), some (.int w), some (.int (nI 16))] [] σ Q := by
  refine F_iload_n dX1_append_3 rfl ?_
  refine F_if_ltN (tgt := 46) dX1_append_4 rfl (by omega) ?_
  refine F_aload_n dX1_append_7 rfl ?_
  refine F_getE (v := nI n) dX1_append_8 rfl rfl (by first | assumption | rfl) rfl hn ?_
  refine F_sipush (v := nI 400) dX1_append_11 rfl ?_
  refine F_icmp_geN (tgt := 46) dX1_append_14 rfl (by omega) (by omega) (fun c14 => ?_) (fun c14 => ?_)
  · exact absurd c14 (by omega)
  · refine F_aload_n dX1_append_17 rfl ?_
    refine F_getr dX1_append_18 rfl rfl (by first | assumption | rfl) rfl ?_
    refine F_aload_n dX1_append_21 rfl ?_
    refine F_getE (v := nI n) dX1_append_22 rfl rfl (by first | assumption | rfl) rfl hn ?_
    refine F_iload_n dX1_append_25 rfl ?_
    refine F_iload_n dX1_append_26 rfl ?_
    refine F_ishr dX1_append_27 ?_
    refine F_i2b dX1_append_28 ?_
    refine F_bast dX1_append_29 (by first | assumption | rfl) (by decide) (by omega) ?_
    refine F_aload_n dX1_append_30 rfl ?_
    refine F_dup dX1_append_31 rfl ?_
    refine F_getE (v := nI n) dX1_append_32 rfl rfl (by first | assumption | rfl) rfl hn ?_
    refine F_iconst (v := nI 1) dX1_append_35 rfl ?_
    refine F_iaddN dX1_append_36 ?_
    refine F_put dX1_append_37 rfl rfl (by first | assumption | rfl) rfl rfl rfl rfl ?_
    refine F_iinc (v := nI 8) dX1_append_40 rfl (by decide) ?_
    refine F_goto (tgt := 3) dX1_append_43 rfl ?_
    exact hk

theorem l_app8 {w : Int32} {n : Nat} (hn : σ 14 1 = nI n) (h4 : n < 400) {Q : Option Value → mS → Prop} (hk : mF G mX1_append d 3 [some (.ref 14), some (.int w), some (.int (nI 0))] [] (up (up σ 15 n (byF w 8)) 14 1 (nI (n + 1))) Q) : mF G mX1_append d 3 [some (.ref 14), some (.int w), some (.int (nI 8))] [] σ Q := by
  refine F_iload_n dX1_append_3 rfl ?_
  refine F_if_ltN (tgt := 46) dX1_append_4 rfl (by omega) ?_
  refine F_aload_n dX1_append_7 rfl ?_
  refine F_getE (v := nI n) dX1_append_8 rfl rfl (by first | assumption | rfl) rfl hn ?_
  refine F_sipush (v := nI 400) dX1_append_11 rfl ?_
  refine F_icmp_geN (tgt := 46) dX1_append_14 rfl (by omega) (by omega) (fun c14 => ?_) (fun c14 => ?_)
  · exact absurd c14 (by omega)
  · refine F_aload_n dX1_append_17 rfl ?_
    refine F_getr dX1_append_18 rfl rfl (by first | assumption | rfl) rfl ?_
    refine F_aload_n dX1_append_21 rfl ?_
    refine F_getE (v := nI n) dX1_append_22 rfl rfl (by first | assumption | rfl) rfl hn ?_
    refine F_iload_n dX1_append_25 rfl ?_
    refine F_iload_n dX1_append_26 rfl ?_
    refine F_ishr dX1_append_27 ?_
    refine F_i2b dX1_append_28 ?_
    refine F_bast dX1_append_29 (by first | assumption | rfl) (by decide) (by omega) ?_
    refine F_aload_n dX1_append_30 rfl ?_
    refine F_dup dX1_append_31 rfl ?_
    refine F_getE (v := nI n) dX1_append_32 rfl rfl (by first | assumption | rfl) rfl hn ?_
    refine F_iconst (v := nI 1) dX1_append_35 rfl ?_
    refine F_iaddN dX1_append_36 ?_
    refine F_put dX1_append_37 rfl rfl (by first | assumption | rfl) rfl rfl rfl rfl ?_
    refine F_iinc (v := nI 0) dX1_append_40 rfl (by decide) ?_
    refine F_goto (tgt := 3) dX1_append_43 rfl ?_
    exact hk

theorem l_app0 {w : Int32} {n : Nat} (hn : σ 14 1 = nI n) (h4 : n < 400) {Q : Option Value → mS → Prop} (hk : mF G mX1_append d 3 [some (.ref 14), some (.int w), some (.int (-8))] [] (up (up σ 15 n (byF w 0)) 14 1 (nI (n + 1))) Q) : mF G mX1_append d 3 [some (.ref 14), some (.int w), some (.int (nI 0))] [] σ Q := by
  refine F_iload_n dX1_append_3 rfl ?_
  refine F_if_ltN (tgt := 46) dX1_append_4 rfl (by omega) ?_
  refine F_aload_n dX1_append_7 rfl ?_
  refine F_getE (v := nI n) dX1_append_8 rfl rfl (by first | assumption | rfl) rfl hn ?_
  refine F_sipush (v := nI 400) dX1_append_11 rfl ?_
  refine F_icmp_geN (tgt := 46) dX1_append_14 rfl (by omega) (by omega) (fun c14 => ?_) (fun c14 => ?_)
  · exact absurd c14 (by omega)
  · refine F_aload_n dX1_append_17 rfl ?_
    refine F_getr dX1_append_18 rfl rfl (by first | assumption | rfl) rfl ?_
    refine F_aload_n dX1_append_21 rfl ?_
    refine F_getE (v := nI n) dX1_append_22 rfl rfl (by first | assumption | rfl) rfl hn ?_
    refine F_iload_n dX1_append_25 rfl ?_
    refine F_iload_n dX1_append_26 rfl ?_
    refine F_ishr dX1_append_27 ?_
    refine F_i2b dX1_append_28 ?_
    refine F_bast dX1_append_29 (by first | assumption | rfl) (by decide) (by omega) ?_
    refine F_aload_n dX1_append_30 rfl ?_
    refine F_dup dX1_append_31 rfl ?_
    refine F_getE (v := nI n) dX1_append_32 rfl rfl (by first | assumption | rfl) rfl hn ?_
    refine F_iconst (v := nI 1) dX1_append_35 rfl ?_
    refine F_iaddN dX1_append_36 ?_
    refine F_put dX1_append_37 rfl rfl (by first | assumption | rfl) rfl rfl rfl rfl ?_
    refine F_iinc (v := -8) dX1_append_40 rfl (by decide) ?_
    refine F_goto (tgt := 3) dX1_append_43 rfl ?_
    exact hk

theorem v_append (w : Int32) {n : Nat} (hn : σ 14 1 = nI n) (h4 : n + 4 ≤ 400) : mV G mX1_append d [.ref 14, .int w] σ none (up (upR σ 15 (put4 (σ 15) n w)) 14 1 (nI (n + 4))) := by
  refine mV_of fun Q hQ => ?_
  refine F_bipush (v := nI 24) dX1_append_0 rfl ?_
  refine F_istore_n dX1_append_2 (Nat.le_of_ble_eq_true rfl) ?_
  refine l_app24 hn (by omega) ?_
  refine l_app16 (n := n + 1) rfl (by omega) ?_
  refine l_app8 (n := n + 2) rfl (by omega) ?_
  refine l_app0 (n := n + 3) rfl (by omega) ?_
  refine F_iload_n dX1_append_3 rfl ?_
  refine F_if_lt (tgt := 46) dX1_append_4 rfl (fun c4 => ?_) (fun c4 => ?_)
  · refine F_vret dX1_append_46 rfl ?_
    refine Qn hQ ?_
    funext b0
    by_cases h1 : b0 = 14
    · subst h1
      simp [up, upR]
      funext j
      simp only [upd]
      split <;> rfl
    · by_cases h2 : b0 = 15
      · subst h2; simp [up, upR, put4]
      · simp [up, upR, h1, h2]
  · exact absurd (by decide) c4

theorem b_feedA (a b c e f : Int32) {n : Nat} (hn : σ 14 1 = nI n) (h : n ≤ 400) (hf : 400 < n + 20) : mV G mX4_feed (d + 1) [.ref 3, .int a, .int b, .int c, .int e, .int f] σ (some (.int (-1))) σ := by
  refine mV_of fun Q hQ => ?_
  refine F_aload_n dX4_feed_0 rfl ?_
  refine F_getr dX4_feed_1 rfl rfl (by first | assumption | rfl) rfl ?_
  refine F_getr dX4_feed_4 rfl rfl (by first | assumption | rfl) rfl ?_
  refine F_astore dX4_feed_7 (Nat.le_of_ble_eq_true rfl) ?_
  refine F_aload dX4_feed_9 rfl ?_
  refine F_getE (v := nI n) dX4_feed_11 rfl rfl (by first | assumption | rfl) rfl hn ?_
  refine F_sipush (v := nI 380) dX4_feed_14 rfl ?_
  refine F_icmp_leN (tgt := 22) dX4_feed_17 rfl (by omega) (by omega) (fun c17 => ?_) (fun c17 => ?_)
  · exact absurd c17 (by omega)
  · refine F_iconst (v := (-1)) dX4_feed_20 rfl ?_
    refine F_iret dX4_feed_21 rfl ?_
    exact hQ

theorem b_feedB (a b c e f : Int32) {n : Nat} (hn : σ 14 1 = nI n) (hf : n + 20 ≤ 400) : mV G mX4_feed (d + 1) [.ref 3, .int a, .int b, .int c, .int e, .int f] σ (some (.int (nI (n + 20)))) (up (upR σ 15 (put4 (put4 (put4 (put4 (put4 (σ 15) n a) (n + 4) b) (n + 8) c) (n + 12) e) (n + 16) f)) 14 1 (nI (n + 20))) := by
  refine mV_of fun Q hQ => ?_
  refine F_aload_n dX4_feed_0 rfl ?_
  refine F_getr dX4_feed_1 rfl rfl (by first | assumption | rfl) rfl ?_
  refine F_getr dX4_feed_4 rfl rfl (by first | assumption | rfl) rfl ?_
  refine F_astore dX4_feed_7 (Nat.le_of_ble_eq_true rfl) ?_
  refine F_aload dX4_feed_9 rfl ?_
  refine F_getE (v := nI n) dX4_feed_11 rfl rfl (by first | assumption | rfl) rfl hn ?_
  refine F_sipush (v := nI 380) dX4_feed_14 rfl ?_
  refine F_icmp_leN (tgt := 22) dX4_feed_17 rfl (by omega) (by omega) (fun c17 => ?_) (fun c17 => ?_)
  · refine F_aload dX4_feed_22 rfl ?_
    refine F_iload_n dX4_feed_24 rfl ?_
    refine F_cV1v (v_append (d := d) _ (n := n + 0) hn (by omega)) dX4_feed_25 rfl rfl (by decide) (by first | assumption | rfl) rfl rfl rfl (by decide) (Nat.le_of_ble_eq_true rfl) (by omega) ?_
    refine F_aload dX4_feed_28 rfl ?_
    refine F_iload_n dX4_feed_30 rfl ?_
    refine F_cV1v (v_append (d := d) _ (n := n + 4) rfl (by omega)) dX4_feed_31 rfl rfl (by decide) (by first | assumption | rfl) rfl rfl rfl (by decide) (Nat.le_of_ble_eq_true rfl) (by omega) ?_
    refine F_aload dX4_feed_34 rfl ?_
    refine F_iload_n dX4_feed_36 rfl ?_
    refine F_cV1v (v_append (d := d) _ (n := n + 8) rfl (by omega)) dX4_feed_37 rfl rfl (by decide) (by first | assumption | rfl) rfl rfl rfl (by decide) (Nat.le_of_ble_eq_true rfl) (by omega) ?_
    refine F_aload dX4_feed_40 rfl ?_
    refine F_iload dX4_feed_42 rfl ?_
    refine F_cV1v (v_append (d := d) _ (n := n + 12) rfl (by omega)) dX4_feed_44 rfl rfl (by decide) (by first | assumption | rfl) rfl rfl rfl (by decide) (Nat.le_of_ble_eq_true rfl) (by omega) ?_
    refine F_aload dX4_feed_47 rfl ?_
    refine F_iload dX4_feed_49 rfl ?_
    refine F_cV1v (v_append (d := d) _ (n := n + 16) rfl (by omega)) dX4_feed_51 rfl rfl (by decide) (by first | assumption | rfl) rfl rfl rfl (by decide) (Nat.le_of_ble_eq_true rfl) (by omega) ?_
    refine F_aload dX4_feed_54 rfl ?_
    refine F_getE (v := nI (n + 20)) dX4_feed_56 rfl rfl (by first | assumption | rfl) rfl rfl ?_
    refine F_iret dX4_feed_59 rfl ?_
    refine Qn hQ ?_
    funext b0
    by_cases h1 : b0 = 14
    · subst h1
      simp [up, upR]
      funext j
      simp only [upd]
      split <;> rfl
    · by_cases h2 : b0 = 15
      · subst h2; simp [up, upR]
      · simp [up, upR, h1, h2]
  · exact absurd (show n ≤ 380 by omega) c17

theorem b_endA (n : Int32) (h : inR n (nI 0) (σ 14 1) = false) : mV G mX4_end d [.ref 3, .int n] σ (some (.int (nI 0))) σ := by
  refine mV_of fun Q hQ => ?_
  refine F_iload_n dX4_end_0 rfl ?_
  refine F_if_lt (tgt := 18) dX4_end_1 rfl (fun c1 => ?_) (fun c1 => ?_)
  · refine F_iconst (v := nI 0) dX4_end_18 rfl ?_
    refine F_zret dX4_end_19 rfl (by first | exact Or.inl rfl | exact Or.inr rfl | exact bI_01 _) ?_
    exact hQ
  · refine F_iload_n dX4_end_4 rfl ?_
    refine F_aload_n dX4_end_5 rfl ?_
    refine F_getr dX4_end_6 rfl rfl (by first | assumption | rfl) rfl ?_
    refine F_getr dX4_end_9 rfl rfl (by first | assumption | rfl) rfl ?_
    refine F_geti dX4_end_12 rfl rfl (by first | assumption | rfl) rfl ?_
    refine F_icmp_le (tgt := 20) dX4_end_15 rfl (fun c15 => ?_) (fun c15 => ?_)
    · exfalso
      rw [lt0_iff, Decidable.not_not] at c1
      rw [inR, decide_eq_true c1, decide_eq_true c15] at h
      cases h
    · refine F_iconst (v := nI 0) dX4_end_18 rfl ?_
      refine F_zret dX4_end_19 rfl (by first | exact Or.inl rfl | exact Or.inr rfl | exact bI_01 _) ?_
      exact hQ

theorem b_endB (n : Int32) (h : inR n (nI 0) (σ 14 1) = true) : mV G mX4_end d [.ref 3, .int n] σ (some (.int (nI 1))) (up σ 14 1 n) := by
  refine mV_of fun Q hQ => ?_
  have hk := h
  simp only [inR, Bool.and_eq_true, decide_eq_true_eq] at hk
  refine F_iload_n dX4_end_0 rfl ?_
  refine F_if_lt (tgt := 18) dX4_end_1 rfl (fun c1 => ?_) (fun c1 => ?_)
  · exact absurd hk.1 ((lt0_iff n).mp c1)
  · refine F_iload_n dX4_end_4 rfl ?_
    refine F_aload_n dX4_end_5 rfl ?_
    refine F_getr dX4_end_6 rfl rfl (by first | assumption | rfl) rfl ?_
    refine F_getr dX4_end_9 rfl rfl (by first | assumption | rfl) rfl ?_
    refine F_geti dX4_end_12 rfl rfl (by first | assumption | rfl) rfl ?_
    refine F_icmp_le (tgt := 20) dX4_end_15 rfl (fun c15 => ?_) (fun c15 => ?_)
    · refine F_aload_n dX4_end_20 rfl ?_
      refine F_getr dX4_end_21 rfl rfl (by first | assumption | rfl) rfl ?_
      refine F_getr dX4_end_24 rfl rfl (by first | assumption | rfl) rfl ?_
      refine F_iload_n dX4_end_27 rfl ?_
      refine F_put dX4_end_28 rfl rfl (by first | assumption | rfl) rfl rfl rfl rfl ?_
      refine F_iconst (v := nI 1) dX4_end_31 rfl ?_
      refine F_zret dX4_end_32 rfl (by first | exact Or.inl rfl | exact Or.inr rfl | exact bI_01 _) ?_
      exact hQ
    · exact absurd hk.2 c15

theorem b_fault  : mV G mX4_fault d [.ref 3] σ (some (.int (σ 13 3))) σ := by
  refine mV_of fun Q hQ => ?_
  refine F_aload_n dX4_fault_0 rfl ?_
  refine F_getr dX4_fault_1 rfl rfl (by first | assumption | rfl) rfl ?_
  refine F_geti dX4_fault_4 rfl rfl (by first | assumption | rfl) rfl ?_
  refine F_iret dX4_fault_7 rfl ?_
  exact hQ

end BT
end
section
/-! ===== day by day: what comes out, as numbers ===== -/
/-- settings, what is planned a day, days in camps, fit and tired as day 0 begins -/
abbrev sP : Type := (Nat → Int32) × (Nat → Int32) × (Nat → Bool) × Int32 × Int32
def sLd (p : sP) (n : Nat) (S : Nat → Int32) (h : Nat) : Int32 :=
  if n < h then nI 0 else
    if p.1 6 - (S n - S (n - n % 7)) < (if p.2.2.1 n = true then p.2.1 n * p.1 7 / nI 100 else p.2.1 n) then p.1 6 - (S n - S (n - n % 7)) else (if p.2.2.1 n = true then p.2.1 n * p.1 7 / nI 100 else p.2.1 n)
def sIj (p : sP) (n : Nat) (S : Nat → Int32) (h : Nat) : Bool :=
  !decide (n < h) && decide (20 ≤ n) && decide (p.1 4 * (S (n + 1) - S (n + 1 - 28)) < (S (n + 1) - S (n + 1 - 7)) * nI 400)
def sSt (p : sP) : Nat → (Nat → Int32) × Int32 × Int32 × Nat
  | 0 => (fun _ => nI 0, p.2.2.2.1, p.2.2.2.2, 0)
  | n + 1 =>
    (upd (sSt p n).1 (n + 1) ((sSt p n).1 n + sLd p n (sSt p n).1 (sSt p n).2.2.2),
     ((sSt p n).2.1 - (sSt p n).2.1 / p.1 0) + nI 10 * sLd p n (sSt p n).1 (sSt p n).2.2.2,
     ((sSt p n).2.2.1 - (sSt p n).2.2.1 / p.1 1) + nI 10 * sLd p n (sSt p n).1 (sSt p n).2.2.2,
     if sIj p n (upd (sSt p n).1 (n + 1) ((sSt p n).1 n + sLd p n (sSt p n).1 (sSt p n).2.2.2)) (sSt p n).2.2.2 = true then n + 1 + (p.1 5).toNatClampNeg else (sSt p n).2.2.2)
def sSum (p : sP) (k : Nat) : Int32 := (sSt p k).1 k
def sFit (p : sP) (k : Nat) : Int32 := (sSt p k).2.1
def sTir (p : sP) (k : Nat) : Int32 := (sSt p k).2.2.1
def sHl (p : sP) (k : Nat) : Nat := (sSt p k).2.2.2
theorem sSt_le (p : sP) : ∀ n k, k ≤ n → (sSt p n).1 k = sSum p k := by
  intro n
  induction n with
  | zero =>
    intro k hk
    have : k = 0 := by omega
    subst this
    rfl
  | succ n ih =>
    intro k hk
    by_cases h : k = n + 1
    · subst h; rfl
    · have h1 : (sSt p (n + 1)).1 k = (sSt p n).1 k := by simp only [sSt, upd]; rw [if_neg h]
      rw [h1]
      exact ih k (by omega)
/-- the load of a day, whether one is injured on it -/
def sLoad (p : sP) (n : Nat) : Int32 := sLd p n (sSum p) (sHl p n)
def sInj (p : sP) (n : Nat) : Bool := sIj p n (sSum p) (sHl p n)
theorem sLd_eq (p : sP) (n : Nat) (h : Nat) : sLd p n (sSt p n).1 h = sLd p n (sSum p) h := by
  simp only [sLd]
  rw [sSt_le p n n (Nat.le_refl n), sSt_le p n (n - n % 7) (Nat.sub_le _ _)]
theorem sSum_0 (p : sP) : sSum p 0 = nI 0 := rfl
theorem sSum_s (p : sP) (n : Nat) : sSum p (n + 1) = sSum p n + sLoad p n := by
  show upd (sSt p n).1 (n + 1) _ (n + 1) = _
  simp only [upd, if_true]
  rw [sLd_eq]
  rfl
theorem sFit_s (p : sP) (n : Nat) : sFit p (n + 1) = (sFit p n - sFit p n / p.1 0) + nI 10 * sLoad p n := by
  show ((sSt p n).2.1 - (sSt p n).2.1 / p.1 0) + nI 10 * _ = _
  rw [sLd_eq]
  rfl
theorem sTir_s (p : sP) (n : Nat) : sTir p (n + 1) = (sTir p n - sTir p n / p.1 1) + nI 10 * sLoad p n := by
  show ((sSt p n).2.2.1 - (sSt p n).2.2.1 / p.1 1) + nI 10 * _ = _
  rw [sLd_eq]
  rfl
theorem sIj_eq (p : sP) (n : Nat) (h : Nat) : sIj p n (upd (sSt p n).1 (n + 1) ((sSt p n).1 n + sLd p n (sSt p n).1 (sSt p n).2.2.2)) h = sIj p n (sSum p) h := by
  have e : ∀ k, k ≤ n + 1 → upd (sSt p n).1 (n + 1) ((sSt p n).1 n + sLd p n (sSt p n).1 (sSt p n).2.2.2) k = sSum p k := fun k hk => sSt_le p (n + 1) k hk
  simp only [sIj]
  rw [e (n + 1) (Nat.le_refl _), e (n + 1 - 28) (Nat.sub_le _ _), e (n + 1 - 7) (Nat.sub_le _ _)]
theorem sHl_0 (p : sP) : sHl p 0 = 0 := rfl
theorem sHl_s (p : sP) (n : Nat) : sHl p (n + 1) = if sInj p n = true then n + 1 + (p.1 5).toNatClampNeg else sHl p n := by
  show (if sIj p n (upd (sSt p n).1 (n + 1) ((sSt p n).1 n + sLd p n (sSt p n).1 (sSt p n).2.2.2)) (sSt p n).2.2.2 = true then n + 1 + (p.1 5).toNatClampNeg else (sSt p n).2.2.2) = _
  rw [sIj_eq]
  rfl
/-- the same settings, plans and camps for the first n days -/
def sEq (p q : sP) (n : Nat) : Prop := (∀ k, k < 8 → p.1 k = q.1 k) ∧ (∀ k, k < n → p.2.1 k = q.2.1 k ∧ p.2.2.1 k = q.2.2.1 k) ∧ p.2.2.2.1 = q.2.2.2.1 ∧ p.2.2.2.2 = q.2.2.2.2
theorem sSt_congr {p q : sP} {n : Nat} (h : sEq p q n) : sSt p n = sSt q n := by
  induction n with
  | zero => simp only [sSt]; rw [h.2.2.1, h.2.2.2]
  | succ n ih =>
    have ih := ih ⟨h.1, fun k hk => h.2.1 k (by omega), h.2.2⟩
    have e1 : ∀ S hh, sLd p n S hh = sLd q n S hh := by
      intro S hh
      simp only [sLd]
      rw [(h.2.1 n (by omega)).1, (h.2.1 n (by omega)).2, h.1 6 (by omega), h.1 7 (by omega)]
    have e2 : ∀ S hh, sIj p n S hh = sIj q n S hh := by
      intro S hh
      simp only [sIj]
      rw [h.1 4 (by omega)]
    simp only [sSt]
    rw [ih, e1, e2, h.1 0 (by omega), h.1 1 (by omega), h.1 5 (by omega)]
theorem sEq.mono {p q : sP} {n k : Nat} (h : sEq p q n) (hk : k ≤ n) : sEq p q k := ⟨h.1, fun j hj => h.2.1 j (by omega), h.2.2⟩
theorem sEq.fit {p q : sP} {n : Nat} (h : sEq p q n) : sFit p n = sFit q n := by unfold sFit; rw [sSt_congr h]
theorem sEq.tir {p q : sP} {n : Nat} (h : sEq p q n) : sTir p n = sTir q n := by unfold sTir; rw [sSt_congr h]
theorem sEq.hl {p q : sP} {n : Nat} (h : sEq p q n) : sHl p n = sHl q n := by unfold sHl; rw [sSt_congr h]
theorem sEq.sum {p q : sP} {n : Nat} (h : sEq p q n) : sSum p n = sSum q n := by unfold sSum; rw [sSt_congr h]
theorem sEq.load {p q : sP} {n k : Nat} (h : sEq p q n) (hk : k < n) : sLoad p k = sLoad q k := by
  have h1 := (h.mono (show k ≤ n by omega)).sum
  have h2 := (h.mono (show k - k % 7 ≤ n by omega)).sum
  have h3 := (h.mono (show k ≤ n by omega)).hl
  simp only [sLoad, sLd]
  rw [h1, h2, h3, (h.2.1 k hk).1, (h.2.1 k hk).2, h.1 6 (by omega), h.1 7 (by omega)]
theorem sEq.inj {p q : sP} {n k : Nat} (h : sEq p q n) (hk : k < n) : sInj p k = sInj q k := by
  simp only [sInj, sIj]
  rw [(h.mono (show k + 1 ≤ n by omega)).sum, (h.mono (show k + 1 - 28 ≤ n by omega)).sum, (h.mono (show k + 1 - 7 ≤ n by omega)).sum, (h.mono (show k ≤ n by omega)).hl, h.1 4 (by omega)]
/-- form as a day ends -/
def sForm (p : sP) (n : Nat) : Int32 := p.1 2 * sFit p (n + 1) - p.1 3 * sTir p (n + 1)
theorem sEq.form {p q : sP} {n k : Nat} (h : sEq p q n) (hk : k < n) : sForm p k = sForm q k := by
  simp only [sForm]
  rw [(h.mono (show k + 1 ≤ n by omega)).fit, (h.mono (show k + 1 ≤ n by omega)).tir, h.1 2 (by omega), h.1 3 (by omega)]
theorem sEq.sym {p q : sP} {n : Nat} (h : sEq p q n) : sEq q p n := ⟨fun k hk => (h.1 k hk).symm, fun k hk => ⟨(h.2.1 k hk).1.symm, (h.2.1 k hk).2.symm⟩, h.2.2.1.symm, h.2.2.2.symm⟩
/-- what settings may be -/
def sOk (s : Nat → Int32) : Prop := ∀ k, k < 8 → inR (s k) (mLeast.getD k 0) (mMost.getD k 0) = true
theorem sOk_n {s : Nat → Int32} (h : sOk s) {k a b : Nat} (hk : k < 8) (ha : mLeast.getD k 0 = nI a) (hb : mMost.getD k 0 = nI b) (hab : b < 2 ^ 31) (haa : a < 2 ^ 31) : ∃ v, a ≤ v ∧ v ≤ b ∧ s k = nI v := by
  have h1 := h k hk
  rw [ha, hb] at h1
  simp only [inR, Bool.and_eq_true, decide_eq_true_eq] at h1
  have h0 : nI 0 ≤ s k := Int32.le_trans (nI_le (Nat.zero_le a) haa) h1.1
  obtain ⟨v, hv, e⟩ := nI_ex hab h0 h1.2
  refine ⟨v, ?_, hv, e⟩
  have := h1.1
  rw [e] at this
  exact (nI_le_iff haa (by omega)).mp this
theorem sHl_le (p : sP) (h : sOk p.1) : ∀ n, sHl p n ≤ n + 14 := by
  obtain ⟨v, -, hv, e⟩ := sOk_n h (k := 5) (a := 1) (b := 14) (by omega) (by decide +kernel) (by decide +kernel) (by decide) (by decide)
  intro n
  induction n with
  | zero => exact Nat.zero_le _
  | succ n ih =>
    rw [sHl_s]
    split
    · rw [e, nI_clamp (by omega)]; omega
    · omega
end
section
/-! ===== Course: its methods ===== -/
theorem dX0_follow_0 : decode cX0_follow 0 = .ok (.aload_n 1, 1) := by decide +kernel
theorem dX0_follow_1 : decode cX0_follow 1 = .ok (.getfield 43, 3) := by decide +kernel
theorem dX0_follow_4 : decode cX0_follow 4 = .ok (.iconst 0, 1) := by decide +kernel
theorem dX0_follow_5 : decode cX0_follow 5 = .ok (.aload_n 0, 1) := by decide +kernel
theorem dX0_follow_6 : decode cX0_follow 6 = .ok (.getfield 9, 3) := by decide +kernel
theorem dX0_follow_9 : decode cX0_follow 9 = .ok (.iconst 0, 1) := by decide +kernel
theorem dX0_follow_10 : decode cX0_follow 10 = .ok (.bipush 8, 2) := by decide +kernel
theorem dX0_follow_12 : decode cX0_follow 12 = .ok (.invokestatic 46, 3) := by decide +kernel
theorem dX0_follow_15 : decode cX0_follow 15 = .ok (.aload_n 1, 1) := by decide +kernel
theorem dX0_follow_16 : decode cX0_follow 16 = .ok (.getfield 52, 3) := by decide +kernel
theorem dX0_follow_19 : decode cX0_follow 19 = .ok (.iconst 0, 1) := by decide +kernel
theorem dX0_follow_20 : decode cX0_follow 20 = .ok (.aload_n 0, 1) := by decide +kernel
theorem dX0_follow_21 : decode cX0_follow 21 = .ok (.getfield 15, 3) := by decide +kernel
theorem dX0_follow_24 : decode cX0_follow 24 = .ok (.iconst 0, 1) := by decide +kernel
theorem dX0_follow_25 : decode cX0_follow 25 = .ok (.bipush 6, 2) := by decide +kernel
theorem dX0_follow_27 : decode cX0_follow 27 = .ok (.invokestatic 46, 3) := by decide +kernel
theorem dX0_follow_30 : decode cX0_follow 30 = .ok (.aload_n 1, 1) := by decide +kernel
theorem dX0_follow_31 : decode cX0_follow 31 = .ok (.getfield 53, 3) := by decide +kernel
theorem dX0_follow_34 : decode cX0_follow 34 = .ok (.iload_n 2, 1) := by decide +kernel
theorem dX0_follow_35 : decode cX0_follow 35 = .ok (.bipush 70, 2) := by decide +kernel
theorem dX0_follow_37 : decode cX0_follow 37 = .ok (.imul, 1) := by decide +kernel
theorem dX0_follow_38 : decode cX0_follow 38 = .ok (.aload_n 0, 1) := by decide +kernel
theorem dX0_follow_39 : decode cX0_follow 39 = .ok (.getfield 18, 3) := by decide +kernel
theorem dX0_follow_42 : decode cX0_follow 42 = .ok (.iconst 0, 1) := by decide +kernel
theorem dX0_follow_43 : decode cX0_follow 43 = .ok (.bipush 70, 2) := by decide +kernel
theorem dX0_follow_45 : decode cX0_follow 45 = .ok (.invokestatic 46, 3) := by decide +kernel
theorem dX0_follow_48 : decode cX0_follow 48 = .ok (.iconst 0, 1) := by decide +kernel
theorem dX0_follow_49 : decode cX0_follow 49 = .ok (.istore 5, 2) := by decide +kernel
theorem dX0_follow_51 : decode cX0_follow 51 = .ok (.iload 5, 2) := by decide +kernel
theorem dX0_follow_53 : decode cX0_follow 53 = .ok (.bipush 70, 2) := by decide +kernel
theorem dX0_follow_55 : decode cX0_follow 55 = .ok (.if_icmp .ge 17, 3) := by decide +kernel
theorem dX0_follow_58 : decode cX0_follow 58 = .ok (.aload_n 0, 1) := by decide +kernel
theorem dX0_follow_59 : decode cX0_follow 59 = .ok (.getfield 21, 3) := by decide +kernel
theorem dX0_follow_62 : decode cX0_follow 62 = .ok (.iload 5, 2) := by decide +kernel
theorem dX0_follow_64 : decode cX0_follow 64 = .ok (.iconst 0, 1) := by decide +kernel
theorem dX0_follow_65 : decode cX0_follow 65 = .ok (.bastore, 1) := by decide +kernel
theorem dX0_follow_66 : decode cX0_follow 66 = .ok (.iinc 5 1, 3) := by decide +kernel
theorem dX0_follow_69 : decode cX0_follow 69 = .ok (.goto (-18), 3) := by decide +kernel
theorem dX0_follow_72 : decode cX0_follow 72 = .ok (.iconst 0, 1) := by decide +kernel
theorem dX0_follow_73 : decode cX0_follow 73 = .ok (.istore 5, 2) := by decide +kernel
theorem dX0_follow_75 : decode cX0_follow 75 = .ok (.iload 5, 2) := by decide +kernel
theorem dX0_follow_77 : decode cX0_follow 77 = .ok (.aload_n 1, 1) := by decide +kernel
theorem dX0_follow_78 : decode cX0_follow 78 = .ok (.getfield 54, 3) := by decide +kernel
theorem dX0_follow_81 : decode cX0_follow 81 = .ok (.if_icmp .ge 33, 3) := by decide +kernel
theorem dX0_follow_84 : decode cX0_follow 84 = .ok (.iload 5, 2) := by decide +kernel
theorem dX0_follow_86 : decode cX0_follow 86 = .ok (.iload_n 3, 1) := by decide +kernel
theorem dX0_follow_87 : decode cX0_follow 87 = .ok (.if_icmp .eq 21, 3) := by decide +kernel
theorem dX0_follow_90 : decode cX0_follow 90 = .ok (.aload_n 0, 1) := by decide +kernel
theorem dX0_follow_91 : decode cX0_follow 91 = .ok (.aload_n 1, 1) := by decide +kernel
theorem dX0_follow_92 : decode cX0_follow 92 = .ok (.getfield 58, 3) := by decide +kernel
theorem dX0_follow_95 : decode cX0_follow 95 = .ok (.iload 5, 2) := by decide +kernel
theorem dX0_follow_97 : decode cX0_follow 97 = .ok (.iaload, 1) := by decide +kernel
theorem dX0_follow_98 : decode cX0_follow 98 = .ok (.aload_n 1, 1) := by decide +kernel
theorem dX0_follow_99 : decode cX0_follow 99 = .ok (.getfield 61, 3) := by decide +kernel
theorem dX0_follow_102 : decode cX0_follow 102 = .ok (.iload 5, 2) := by decide +kernel
theorem dX0_follow_104 : decode cX0_follow 104 = .ok (.iaload, 1) := by decide +kernel
theorem dX0_follow_105 : decode cX0_follow 105 = .ok (.invokevirtual 64, 3) := by decide +kernel
theorem dX0_follow_108 : decode cX0_follow 108 = .ok (.iinc 5 1, 3) := by decide +kernel
theorem dX0_follow_111 : decode cX0_follow 111 = .ok (.goto (-36), 3) := by decide +kernel
theorem dX0_follow_114 : decode cX0_follow 114 = .ok (.aload_n 0, 1) := by decide +kernel
theorem dX0_follow_115 : decode cX0_follow 115 = .ok (.getfield 28, 3) := by decide +kernel
theorem dX0_follow_118 : decode cX0_follow 118 = .ok (.iconst 0, 1) := by decide +kernel
theorem dX0_follow_119 : decode cX0_follow 119 = .ok (.aload_n 1, 1) := by decide +kernel
theorem dX0_follow_120 : decode cX0_follow 120 = .ok (.getfield 68, 3) := by decide +kernel
theorem dX0_follow_123 : decode cX0_follow 123 = .ok (.iload_n 2, 1) := by decide +kernel
theorem dX0_follow_124 : decode cX0_follow 124 = .ok (.iaload, 1) := by decide +kernel
theorem dX0_follow_125 : decode cX0_follow 125 = .ok (.iastore, 1) := by decide +kernel
theorem dX0_follow_126 : decode cX0_follow 126 = .ok (.aload_n 0, 1) := by decide +kernel
theorem dX0_follow_127 : decode cX0_follow 127 = .ok (.getfield 31, 3) := by decide +kernel
theorem dX0_follow_130 : decode cX0_follow 130 = .ok (.iconst 0, 1) := by decide +kernel
theorem dX0_follow_131 : decode cX0_follow 131 = .ok (.aload_n 1, 1) := by decide +kernel
theorem dX0_follow_132 : decode cX0_follow 132 = .ok (.getfield 71, 3) := by decide +kernel
theorem dX0_follow_135 : decode cX0_follow 135 = .ok (.iload_n 2, 1) := by decide +kernel
theorem dX0_follow_136 : decode cX0_follow 136 = .ok (.iaload, 1) := by decide +kernel
theorem dX0_follow_137 : decode cX0_follow 137 = .ok (.iastore, 1) := by decide +kernel
theorem dX0_follow_138 : decode cX0_follow 138 = .ok (.aload_n 0, 1) := by decide +kernel
theorem dX0_follow_139 : decode cX0_follow 139 = .ok (.iconst 0, 1) := by decide +kernel
theorem dX0_follow_140 : decode cX0_follow 140 = .ok (.iload 4, 2) := by decide +kernel
theorem dX0_follow_142 : decode cX0_follow 142 = .ok (.invokevirtual 74, 3) := by decide +kernel
theorem dX0_follow_145 : decode cX0_follow 145 = .ok (.return_, 1) := by decide +kernel
theorem dX0_pitch_0 : decode cX0_pitch 0 = .ok (.iload_n 1, 1) := by decide +kernel
theorem dX0_pitch_1 : decode cX0_pitch 1 = .ok (.istore_n 3, 1) := by decide +kernel
theorem dX0_pitch_2 : decode cX0_pitch 2 = .ok (.iload_n 3, 1) := by decide +kernel
theorem dX0_pitch_3 : decode cX0_pitch 3 = .ok (.iload_n 2, 1) := by decide +kernel
theorem dX0_pitch_4 : decode cX0_pitch 4 = .ok (.if_icmp .gt 16, 3) := by decide +kernel
theorem dX0_pitch_7 : decode cX0_pitch 7 = .ok (.aload_n 0, 1) := by decide +kernel
theorem dX0_pitch_8 : decode cX0_pitch 8 = .ok (.getfield 21, 3) := by decide +kernel
theorem dX0_pitch_11 : decode cX0_pitch 11 = .ok (.iload_n 3, 1) := by decide +kernel
theorem dX0_pitch_12 : decode cX0_pitch 12 = .ok (.iconst 1, 1) := by decide +kernel
theorem dX0_pitch_13 : decode cX0_pitch 13 = .ok (.bastore, 1) := by decide +kernel
theorem dX0_pitch_14 : decode cX0_pitch 14 = .ok (.iinc 3 1, 3) := by decide +kernel
theorem dX0_pitch_17 : decode cX0_pitch 17 = .ok (.goto (-15), 3) := by decide +kernel
theorem dX0_pitch_20 : decode cX0_pitch 20 = .ok (.return_, 1) := by decide +kernel
theorem dX0_live_0 : decode cX0_live 0 = .ok (.iload_n 1, 1) := by decide +kernel
theorem dX0_live_1 : decode cX0_live 1 = .ok (.istore_n 3, 1) := by decide +kernel
theorem dX0_live_2 : decode cX0_live 2 = .ok (.iload_n 3, 1) := by decide +kernel
theorem dX0_live_3 : decode cX0_live 3 = .ok (.iload_n 2, 1) := by decide +kernel
theorem dX0_live_4 : decode cX0_live 4 = .ok (.if_icmp .gt 25, 3) := by decide +kernel
theorem dX0_live_7 : decode cX0_live 7 = .ok (.aload_n 0, 1) := by decide +kernel
theorem dX0_live_8 : decode cX0_live 8 = .ok (.iload_n 3, 1) := by decide +kernel
theorem dX0_live_9 : decode cX0_live 9 = .ok (.aload_n 0, 1) := by decide +kernel
theorem dX0_live_10 : decode cX0_live 10 = .ok (.getfield 15, 3) := by decide +kernel
theorem dX0_live_13 : decode cX0_live 13 = .ok (.aload_n 0, 1) := by decide +kernel
theorem dX0_live_14 : decode cX0_live 14 = .ok (.getfield 18, 3) := by decide +kernel
theorem dX0_live_17 : decode cX0_live 17 = .ok (.iload_n 3, 1) := by decide +kernel
theorem dX0_live_18 : decode cX0_live 18 = .ok (.iaload, 1) := by decide +kernel
theorem dX0_live_19 : decode cX0_live 19 = .ok (.iaload, 1) := by decide +kernel
theorem dX0_live_20 : decode cX0_live 20 = .ok (.invokevirtual 77, 3) := by decide +kernel
theorem dX0_live_23 : decode cX0_live 23 = .ok (.iinc 3 1, 3) := by decide +kernel
theorem dX0_live_26 : decode cX0_live 26 = .ok (.goto (-24), 3) := by decide +kernel
theorem dX0_live_29 : decode cX0_live 29 = .ok (.return_, 1) := by decide +kernel
theorem dX0_liveDay_0 : decode cX0_liveDay 0 = .ok (.aload_n 0, 1) := by decide +kernel
theorem dX0_liveDay_1 : decode cX0_liveDay 1 = .ok (.iload_n 1, 1) := by decide +kernel
theorem dX0_liveDay_2 : decode cX0_liveDay 2 = .ok (.invokevirtual 80, 3) := by decide +kernel
theorem dX0_liveDay_5 : decode cX0_liveDay 5 = .ok (.ifCond .eq 7, 3) := by decide +kernel
theorem dX0_liveDay_8 : decode cX0_liveDay 8 = .ok (.iconst 0, 1) := by decide +kernel
theorem dX0_liveDay_9 : decode cX0_liveDay 9 = .ok (.goto 9, 3) := by decide +kernel
theorem dX0_liveDay_12 : decode cX0_liveDay 12 = .ok (.aload_n 0, 1) := by decide +kernel
theorem dX0_liveDay_13 : decode cX0_liveDay 13 = .ok (.iload_n 1, 1) := by decide +kernel
theorem dX0_liveDay_14 : decode cX0_liveDay 14 = .ok (.iload_n 2, 1) := by decide +kernel
theorem dX0_liveDay_15 : decode cX0_liveDay 15 = .ok (.invokevirtual 84, 3) := by decide +kernel
theorem dX0_liveDay_18 : decode cX0_liveDay 18 = .ok (.istore_n 3, 1) := by decide +kernel
theorem dX0_liveDay_19 : decode cX0_liveDay 19 = .ok (.aload_n 0, 1) := by decide +kernel
theorem dX0_liveDay_20 : decode cX0_liveDay 20 = .ok (.getfield 25, 3) := by decide +kernel
theorem dX0_liveDay_23 : decode cX0_liveDay 23 = .ok (.iload_n 1, 1) := by decide +kernel
theorem dX0_liveDay_24 : decode cX0_liveDay 24 = .ok (.iload_n 3, 1) := by decide +kernel
theorem dX0_liveDay_25 : decode cX0_liveDay 25 = .ok (.iastore, 1) := by decide +kernel
theorem dX0_liveDay_26 : decode cX0_liveDay 26 = .ok (.aload_n 0, 1) := by decide +kernel
theorem dX0_liveDay_27 : decode cX0_liveDay 27 = .ok (.getfield 34, 3) := by decide +kernel
theorem dX0_liveDay_30 : decode cX0_liveDay 30 = .ok (.iload_n 1, 1) := by decide +kernel
theorem dX0_liveDay_31 : decode cX0_liveDay 31 = .ok (.iconst 1, 1) := by decide +kernel
theorem dX0_liveDay_32 : decode cX0_liveDay 32 = .ok (.iadd, 1) := by decide +kernel
theorem dX0_liveDay_33 : decode cX0_liveDay 33 = .ok (.aload_n 0, 1) := by decide +kernel
theorem dX0_liveDay_34 : decode cX0_liveDay 34 = .ok (.getfield 34, 3) := by decide +kernel
theorem dX0_liveDay_37 : decode cX0_liveDay 37 = .ok (.iload_n 1, 1) := by decide +kernel
theorem dX0_liveDay_38 : decode cX0_liveDay 38 = .ok (.iaload, 1) := by decide +kernel
theorem dX0_liveDay_39 : decode cX0_liveDay 39 = .ok (.iload_n 3, 1) := by decide +kernel
theorem dX0_liveDay_40 : decode cX0_liveDay 40 = .ok (.iadd, 1) := by decide +kernel
theorem dX0_liveDay_41 : decode cX0_liveDay 41 = .ok (.iastore, 1) := by decide +kernel
theorem dX0_liveDay_42 : decode cX0_liveDay 42 = .ok (.aload_n 0, 1) := by decide +kernel
theorem dX0_liveDay_43 : decode cX0_liveDay 43 = .ok (.getfield 28, 3) := by decide +kernel
theorem dX0_liveDay_46 : decode cX0_liveDay 46 = .ok (.iload_n 1, 1) := by decide +kernel
theorem dX0_liveDay_47 : decode cX0_liveDay 47 = .ok (.iconst 1, 1) := by decide +kernel
theorem dX0_liveDay_48 : decode cX0_liveDay 48 = .ok (.iadd, 1) := by decide +kernel
theorem dX0_liveDay_49 : decode cX0_liveDay 49 = .ok (.aload_n 0, 1) := by decide +kernel
theorem dX0_liveDay_50 : decode cX0_liveDay 50 = .ok (.getfield 28, 3) := by decide +kernel
theorem dX0_liveDay_53 : decode cX0_liveDay 53 = .ok (.iload_n 1, 1) := by decide +kernel
theorem dX0_liveDay_54 : decode cX0_liveDay 54 = .ok (.iaload, 1) := by decide +kernel
theorem dX0_liveDay_55 : decode cX0_liveDay 55 = .ok (.aload_n 0, 1) := by decide +kernel
theorem dX0_liveDay_56 : decode cX0_liveDay 56 = .ok (.getfield 9, 3) := by decide +kernel
theorem dX0_liveDay_59 : decode cX0_liveDay 59 = .ok (.iconst 0, 1) := by decide +kernel
theorem dX0_liveDay_60 : decode cX0_liveDay 60 = .ok (.iaload, 1) := by decide +kernel
theorem dX0_liveDay_61 : decode cX0_liveDay 61 = .ok (.invokestatic 88, 3) := by decide +kernel
theorem dX0_liveDay_64 : decode cX0_liveDay 64 = .ok (.bipush 10, 2) := by decide +kernel
theorem dX0_liveDay_66 : decode cX0_liveDay 66 = .ok (.iload_n 3, 1) := by decide +kernel
theorem dX0_liveDay_67 : decode cX0_liveDay 67 = .ok (.imul, 1) := by decide +kernel
theorem dX0_liveDay_68 : decode cX0_liveDay 68 = .ok (.iadd, 1) := by decide +kernel
theorem dX0_liveDay_69 : decode cX0_liveDay 69 = .ok (.iastore, 1) := by decide +kernel
theorem dX0_liveDay_70 : decode cX0_liveDay 70 = .ok (.aload_n 0, 1) := by decide +kernel
theorem dX0_liveDay_71 : decode cX0_liveDay 71 = .ok (.getfield 31, 3) := by decide +kernel
theorem dX0_liveDay_74 : decode cX0_liveDay 74 = .ok (.iload_n 1, 1) := by decide +kernel
theorem dX0_liveDay_75 : decode cX0_liveDay 75 = .ok (.iconst 1, 1) := by decide +kernel
theorem dX0_liveDay_76 : decode cX0_liveDay 76 = .ok (.iadd, 1) := by decide +kernel
theorem dX0_liveDay_77 : decode cX0_liveDay 77 = .ok (.aload_n 0, 1) := by decide +kernel
theorem dX0_liveDay_78 : decode cX0_liveDay 78 = .ok (.getfield 31, 3) := by decide +kernel
theorem dX0_liveDay_81 : decode cX0_liveDay 81 = .ok (.iload_n 1, 1) := by decide +kernel
theorem dX0_liveDay_82 : decode cX0_liveDay 82 = .ok (.iaload, 1) := by decide +kernel
theorem dX0_liveDay_83 : decode cX0_liveDay 83 = .ok (.aload_n 0, 1) := by decide +kernel
theorem dX0_liveDay_84 : decode cX0_liveDay 84 = .ok (.getfield 9, 3) := by decide +kernel
theorem dX0_liveDay_87 : decode cX0_liveDay 87 = .ok (.iconst 1, 1) := by decide +kernel
theorem dX0_liveDay_88 : decode cX0_liveDay 88 = .ok (.iaload, 1) := by decide +kernel
theorem dX0_liveDay_89 : decode cX0_liveDay 89 = .ok (.invokestatic 88, 3) := by decide +kernel
theorem dX0_liveDay_92 : decode cX0_liveDay 92 = .ok (.bipush 10, 2) := by decide +kernel
theorem dX0_liveDay_94 : decode cX0_liveDay 94 = .ok (.iload_n 3, 1) := by decide +kernel
theorem dX0_liveDay_95 : decode cX0_liveDay 95 = .ok (.imul, 1) := by decide +kernel
theorem dX0_liveDay_96 : decode cX0_liveDay 96 = .ok (.iadd, 1) := by decide +kernel
theorem dX0_liveDay_97 : decode cX0_liveDay 97 = .ok (.iastore, 1) := by decide +kernel
theorem dX0_liveDay_98 : decode cX0_liveDay 98 = .ok (.aload_n 0, 1) := by decide +kernel
theorem dX0_liveDay_99 : decode cX0_liveDay 99 = .ok (.getfield 40, 3) := by decide +kernel
theorem dX0_liveDay_102 : decode cX0_liveDay 102 = .ok (.iload_n 1, 1) := by decide +kernel
theorem dX0_liveDay_103 : decode cX0_liveDay 103 = .ok (.aload_n 0, 1) := by decide +kernel
theorem dX0_liveDay_104 : decode cX0_liveDay 104 = .ok (.iload_n 1, 1) := by decide +kernel
theorem dX0_liveDay_105 : decode cX0_liveDay 105 = .ok (.invokevirtual 80, 3) := by decide +kernel
theorem dX0_liveDay_108 : decode cX0_liveDay 108 = .ok (.ifCond .ne 15, 3) := by decide +kernel
theorem dX0_liveDay_111 : decode cX0_liveDay 111 = .ok (.aload_n 0, 1) := by decide +kernel
theorem dX0_liveDay_112 : decode cX0_liveDay 112 = .ok (.iload_n 1, 1) := by decide +kernel
theorem dX0_liveDay_113 : decode cX0_liveDay 113 = .ok (.invokevirtual 91, 3) := by decide +kernel
theorem dX0_liveDay_116 : decode cX0_liveDay 116 = .ok (.ifCond .eq 7, 3) := by decide +kernel
theorem dX0_liveDay_119 : decode cX0_liveDay 119 = .ok (.iconst 1, 1) := by decide +kernel
theorem dX0_liveDay_120 : decode cX0_liveDay 120 = .ok (.goto 4, 3) := by decide +kernel
theorem dX0_liveDay_123 : decode cX0_liveDay 123 = .ok (.iconst 0, 1) := by decide +kernel
theorem dX0_liveDay_124 : decode cX0_liveDay 124 = .ok (.bastore, 1) := by decide +kernel
theorem dX0_liveDay_125 : decode cX0_liveDay 125 = .ok (.aload_n 0, 1) := by decide +kernel
theorem dX0_liveDay_126 : decode cX0_liveDay 126 = .ok (.getfield 37, 3) := by decide +kernel
theorem dX0_liveDay_129 : decode cX0_liveDay 129 = .ok (.iload_n 1, 1) := by decide +kernel
theorem dX0_liveDay_130 : decode cX0_liveDay 130 = .ok (.iconst 1, 1) := by decide +kernel
theorem dX0_liveDay_131 : decode cX0_liveDay 131 = .ok (.iadd, 1) := by decide +kernel
theorem dX0_liveDay_132 : decode cX0_liveDay 132 = .ok (.aload_n 0, 1) := by decide +kernel
theorem dX0_liveDay_133 : decode cX0_liveDay 133 = .ok (.getfield 40, 3) := by decide +kernel
theorem dX0_liveDay_136 : decode cX0_liveDay 136 = .ok (.iload_n 1, 1) := by decide +kernel
theorem dX0_liveDay_137 : decode cX0_liveDay 137 = .ok (.baload, 1) := by decide +kernel
theorem dX0_liveDay_138 : decode cX0_liveDay 138 = .ok (.ifCond .eq 16, 3) := by decide +kernel
theorem dX0_liveDay_141 : decode cX0_liveDay 141 = .ok (.iload_n 1, 1) := by decide +kernel
theorem dX0_liveDay_142 : decode cX0_liveDay 142 = .ok (.iconst 1, 1) := by decide +kernel
theorem dX0_liveDay_143 : decode cX0_liveDay 143 = .ok (.iadd, 1) := by decide +kernel
theorem dX0_liveDay_144 : decode cX0_liveDay 144 = .ok (.aload_n 0, 1) := by decide +kernel
theorem dX0_liveDay_145 : decode cX0_liveDay 145 = .ok (.getfield 9, 3) := by decide +kernel
theorem dX0_liveDay_148 : decode cX0_liveDay 148 = .ok (.iconst 5, 1) := by decide +kernel
theorem dX0_liveDay_149 : decode cX0_liveDay 149 = .ok (.iaload, 1) := by decide +kernel
theorem dX0_liveDay_150 : decode cX0_liveDay 150 = .ok (.iadd, 1) := by decide +kernel
theorem dX0_liveDay_151 : decode cX0_liveDay 151 = .ok (.goto 9, 3) := by decide +kernel
theorem dX0_liveDay_154 : decode cX0_liveDay 154 = .ok (.aload_n 0, 1) := by decide +kernel
theorem dX0_liveDay_155 : decode cX0_liveDay 155 = .ok (.getfield 37, 3) := by decide +kernel
theorem dX0_liveDay_158 : decode cX0_liveDay 158 = .ok (.iload_n 1, 1) := by decide +kernel
theorem dX0_liveDay_159 : decode cX0_liveDay 159 = .ok (.iaload, 1) := by decide +kernel
theorem dX0_liveDay_160 : decode cX0_liveDay 160 = .ok (.iastore, 1) := by decide +kernel
theorem dX0_liveDay_161 : decode cX0_liveDay 161 = .ok (.return_, 1) := by decide +kernel
theorem dX0_held_0 : decode cX0_held 0 = .ok (.aload_n 0, 1) := by decide +kernel
theorem dX0_held_1 : decode cX0_held 1 = .ok (.getfield 21, 3) := by decide +kernel
theorem dX0_held_4 : decode cX0_held 4 = .ok (.iload_n 1, 1) := by decide +kernel
theorem dX0_held_5 : decode cX0_held 5 = .ok (.baload, 1) := by decide +kernel
theorem dX0_held_6 : decode cX0_held 6 = .ok (.ifCond .eq 18, 3) := by decide +kernel
theorem dX0_held_9 : decode cX0_held 9 = .ok (.iload_n 2, 1) := by decide +kernel
theorem dX0_held_10 : decode cX0_held 10 = .ok (.aload_n 0, 1) := by decide +kernel
theorem dX0_held_11 : decode cX0_held 11 = .ok (.getfield 9, 3) := by decide +kernel
theorem dX0_held_14 : decode cX0_held 14 = .ok (.bipush 7, 2) := by decide +kernel
theorem dX0_held_16 : decode cX0_held 16 = .ok (.iaload, 1) := by decide +kernel
theorem dX0_held_17 : decode cX0_held 17 = .ok (.imul, 1) := by decide +kernel
theorem dX0_held_18 : decode cX0_held 18 = .ok (.bipush 100, 2) := by decide +kernel
theorem dX0_held_20 : decode cX0_held 20 = .ok (.idiv, 1) := by decide +kernel
theorem dX0_held_21 : decode cX0_held 21 = .ok (.goto 4, 3) := by decide +kernel
theorem dX0_held_24 : decode cX0_held 24 = .ok (.iload_n 2, 1) := by decide +kernel
theorem dX0_held_25 : decode cX0_held 25 = .ok (.istore_n 3, 1) := by decide +kernel
theorem dX0_held_26 : decode cX0_held 26 = .ok (.aload_n 0, 1) := by decide +kernel
theorem dX0_held_27 : decode cX0_held 27 = .ok (.getfield 34, 3) := by decide +kernel
theorem dX0_held_30 : decode cX0_held 30 = .ok (.iload_n 1, 1) := by decide +kernel
theorem dX0_held_31 : decode cX0_held 31 = .ok (.iaload, 1) := by decide +kernel
theorem dX0_held_32 : decode cX0_held 32 = .ok (.aload_n 0, 1) := by decide +kernel
theorem dX0_held_33 : decode cX0_held 33 = .ok (.getfield 34, 3) := by decide +kernel
theorem dX0_held_36 : decode cX0_held 36 = .ok (.iload_n 1, 1) := by decide +kernel
theorem dX0_held_37 : decode cX0_held 37 = .ok (.iload_n 1, 1) := by decide +kernel
theorem dX0_held_38 : decode cX0_held 38 = .ok (.bipush 7, 2) := by decide +kernel
theorem dX0_held_40 : decode cX0_held 40 = .ok (.irem, 1) := by decide +kernel
theorem dX0_held_41 : decode cX0_held 41 = .ok (.isub, 1) := by decide +kernel
theorem dX0_held_42 : decode cX0_held 42 = .ok (.iaload, 1) := by decide +kernel
theorem dX0_held_43 : decode cX0_held 43 = .ok (.isub, 1) := by decide +kernel
theorem dX0_held_44 : decode cX0_held 44 = .ok (.istore 4, 2) := by decide +kernel
theorem dX0_held_46 : decode cX0_held 46 = .ok (.iload_n 3, 1) := by decide +kernel
theorem dX0_held_47 : decode cX0_held 47 = .ok (.aload_n 0, 1) := by decide +kernel
theorem dX0_held_48 : decode cX0_held 48 = .ok (.getfield 9, 3) := by decide +kernel
theorem dX0_held_51 : decode cX0_held 51 = .ok (.bipush 6, 2) := by decide +kernel
theorem dX0_held_53 : decode cX0_held 53 = .ok (.iaload, 1) := by decide +kernel
theorem dX0_held_54 : decode cX0_held 54 = .ok (.iload 4, 2) := by decide +kernel
theorem dX0_held_56 : decode cX0_held 56 = .ok (.isub, 1) := by decide +kernel
theorem dX0_held_57 : decode cX0_held 57 = .ok (.invokestatic 94, 3) := by decide +kernel
theorem dX0_held_60 : decode cX0_held 60 = .ok (.ireturn, 1) := by decide +kernel
theorem dX0_decayed_0 : decode cX0_decayed 0 = .ok (.iload_n 1, 1) := by decide +kernel
theorem dX0_decayed_1 : decode cX0_decayed 1 = .ok (.ifCond .ne 7, 3) := by decide +kernel
theorem dX0_decayed_4 : decode cX0_decayed 4 = .ok (.iload_n 0, 1) := by decide +kernel
theorem dX0_decayed_5 : decode cX0_decayed 5 = .ok (.goto 8, 3) := by decide +kernel
theorem dX0_decayed_8 : decode cX0_decayed 8 = .ok (.iload_n 0, 1) := by decide +kernel
theorem dX0_decayed_9 : decode cX0_decayed 9 = .ok (.iload_n 0, 1) := by decide +kernel
theorem dX0_decayed_10 : decode cX0_decayed 10 = .ok (.iload_n 1, 1) := by decide +kernel
theorem dX0_decayed_11 : decode cX0_decayed 11 = .ok (.idiv, 1) := by decide +kernel
theorem dX0_decayed_12 : decode cX0_decayed 12 = .ok (.isub, 1) := by decide +kernel
theorem dX0_decayed_13 : decode cX0_decayed 13 = .ok (.ireturn, 1) := by decide +kernel
theorem dX0_isHurt_0 : decode cX0_isHurt 0 = .ok (.iload_n 1, 1) := by decide +kernel
theorem dX0_isHurt_1 : decode cX0_isHurt 1 = .ok (.aload_n 0, 1) := by decide +kernel
theorem dX0_isHurt_2 : decode cX0_isHurt 2 = .ok (.getfield 37, 3) := by decide +kernel
theorem dX0_isHurt_5 : decode cX0_isHurt 5 = .ok (.iload_n 1, 1) := by decide +kernel
theorem dX0_isHurt_6 : decode cX0_isHurt 6 = .ok (.iaload, 1) := by decide +kernel
theorem dX0_isHurt_7 : decode cX0_isHurt 7 = .ok (.if_icmp .ge 7, 3) := by decide +kernel
theorem dX0_isHurt_10 : decode cX0_isHurt 10 = .ok (.iconst 1, 1) := by decide +kernel
theorem dX0_isHurt_11 : decode cX0_isHurt 11 = .ok (.goto 4, 3) := by decide +kernel
theorem dX0_isHurt_14 : decode cX0_isHurt 14 = .ok (.iconst 0, 1) := by decide +kernel
theorem dX0_isHurt_15 : decode cX0_isHurt 15 = .ok (.ireturn, 1) := by decide +kernel
theorem dX0_isTooMuch_0 : decode cX0_isTooMuch 0 = .ok (.iload_n 1, 1) := by decide +kernel
theorem dX0_isTooMuch_1 : decode cX0_isTooMuch 1 = .ok (.bipush 20, 2) := by decide +kernel
theorem dX0_isTooMuch_3 : decode cX0_isTooMuch 3 = .ok (.if_icmp .lt 31, 3) := by decide +kernel
theorem dX0_isTooMuch_6 : decode cX0_isTooMuch 6 = .ok (.aload_n 0, 1) := by decide +kernel
theorem dX0_isTooMuch_7 : decode cX0_isTooMuch 7 = .ok (.iload_n 1, 1) := by decide +kernel
theorem dX0_isTooMuch_8 : decode cX0_isTooMuch 8 = .ok (.invokevirtual 99, 3) := by decide +kernel
theorem dX0_isTooMuch_11 : decode cX0_isTooMuch 11 = .ok (.sipush 400, 3) := by decide +kernel
theorem dX0_isTooMuch_14 : decode cX0_isTooMuch 14 = .ok (.imul, 1) := by decide +kernel
theorem dX0_isTooMuch_15 : decode cX0_isTooMuch 15 = .ok (.aload_n 0, 1) := by decide +kernel
theorem dX0_isTooMuch_16 : decode cX0_isTooMuch 16 = .ok (.getfield 9, 3) := by decide +kernel
theorem dX0_isTooMuch_19 : decode cX0_isTooMuch 19 = .ok (.iconst 4, 1) := by decide +kernel
theorem dX0_isTooMuch_20 : decode cX0_isTooMuch 20 = .ok (.iaload, 1) := by decide +kernel
theorem dX0_isTooMuch_21 : decode cX0_isTooMuch 21 = .ok (.aload_n 0, 1) := by decide +kernel
theorem dX0_isTooMuch_22 : decode cX0_isTooMuch 22 = .ok (.iload_n 1, 1) := by decide +kernel
theorem dX0_isTooMuch_23 : decode cX0_isTooMuch 23 = .ok (.invokevirtual 103, 3) := by decide +kernel
theorem dX0_isTooMuch_26 : decode cX0_isTooMuch 26 = .ok (.imul, 1) := by decide +kernel
theorem dX0_isTooMuch_27 : decode cX0_isTooMuch 27 = .ok (.if_icmp .le 7, 3) := by decide +kernel
theorem dX0_isTooMuch_30 : decode cX0_isTooMuch 30 = .ok (.iconst 1, 1) := by decide +kernel
theorem dX0_isTooMuch_31 : decode cX0_isTooMuch 31 = .ok (.goto 4, 3) := by decide +kernel
theorem dX0_isTooMuch_34 : decode cX0_isTooMuch 34 = .ok (.iconst 0, 1) := by decide +kernel
theorem dX0_isTooMuch_35 : decode cX0_isTooMuch 35 = .ok (.ireturn, 1) := by decide +kernel
theorem dX0_acute_0 : decode cX0_acute 0 = .ok (.aload_n 0, 1) := by decide +kernel
theorem dX0_acute_1 : decode cX0_acute 1 = .ok (.getfield 34, 3) := by decide +kernel
theorem dX0_acute_4 : decode cX0_acute 4 = .ok (.iload_n 1, 1) := by decide +kernel
theorem dX0_acute_5 : decode cX0_acute 5 = .ok (.iconst 1, 1) := by decide +kernel
theorem dX0_acute_6 : decode cX0_acute 6 = .ok (.iadd, 1) := by decide +kernel
theorem dX0_acute_7 : decode cX0_acute 7 = .ok (.iaload, 1) := by decide +kernel
theorem dX0_acute_8 : decode cX0_acute 8 = .ok (.aload_n 0, 1) := by decide +kernel
theorem dX0_acute_9 : decode cX0_acute 9 = .ok (.getfield 34, 3) := by decide +kernel
theorem dX0_acute_12 : decode cX0_acute 12 = .ok (.iconst 0, 1) := by decide +kernel
theorem dX0_acute_13 : decode cX0_acute 13 = .ok (.iload_n 1, 1) := by decide +kernel
theorem dX0_acute_14 : decode cX0_acute 14 = .ok (.iconst 1, 1) := by decide +kernel
theorem dX0_acute_15 : decode cX0_acute 15 = .ok (.iadd, 1) := by decide +kernel
theorem dX0_acute_16 : decode cX0_acute 16 = .ok (.bipush 7, 2) := by decide +kernel
theorem dX0_acute_18 : decode cX0_acute 18 = .ok (.isub, 1) := by decide +kernel
theorem dX0_acute_19 : decode cX0_acute 19 = .ok (.invokestatic 106, 3) := by decide +kernel
theorem dX0_acute_22 : decode cX0_acute 22 = .ok (.iaload, 1) := by decide +kernel
theorem dX0_acute_23 : decode cX0_acute 23 = .ok (.isub, 1) := by decide +kernel
theorem dX0_acute_24 : decode cX0_acute 24 = .ok (.ireturn, 1) := by decide +kernel
theorem dX0_chronic_0 : decode cX0_chronic 0 = .ok (.aload_n 0, 1) := by decide +kernel
theorem dX0_chronic_1 : decode cX0_chronic 1 = .ok (.getfield 34, 3) := by decide +kernel
theorem dX0_chronic_4 : decode cX0_chronic 4 = .ok (.iload_n 1, 1) := by decide +kernel
theorem dX0_chronic_5 : decode cX0_chronic 5 = .ok (.iconst 1, 1) := by decide +kernel
theorem dX0_chronic_6 : decode cX0_chronic 6 = .ok (.iadd, 1) := by decide +kernel
theorem dX0_chronic_7 : decode cX0_chronic 7 = .ok (.iaload, 1) := by decide +kernel
theorem dX0_chronic_8 : decode cX0_chronic 8 = .ok (.aload_n 0, 1) := by decide +kernel
theorem dX0_chronic_9 : decode cX0_chronic 9 = .ok (.getfield 34, 3) := by decide +kernel
theorem dX0_chronic_12 : decode cX0_chronic 12 = .ok (.iconst 0, 1) := by decide +kernel
theorem dX0_chronic_13 : decode cX0_chronic 13 = .ok (.iload_n 1, 1) := by decide +kernel
theorem dX0_chronic_14 : decode cX0_chronic 14 = .ok (.iconst 1, 1) := by decide +kernel
theorem dX0_chronic_15 : decode cX0_chronic 15 = .ok (.iadd, 1) := by decide +kernel
theorem dX0_chronic_16 : decode cX0_chronic 16 = .ok (.bipush 28, 2) := by decide +kernel
theorem dX0_chronic_18 : decode cX0_chronic 18 = .ok (.isub, 1) := by decide +kernel
theorem dX0_chronic_19 : decode cX0_chronic 19 = .ok (.invokestatic 106, 3) := by decide +kernel
theorem dX0_chronic_22 : decode cX0_chronic 22 = .ok (.iaload, 1) := by decide +kernel
theorem dX0_chronic_23 : decode cX0_chronic 23 = .ok (.isub, 1) := by decide +kernel
theorem dX0_chronic_24 : decode cX0_chronic 24 = .ok (.ireturn, 1) := by decide +kernel
theorem dX0_formOf_0 : decode cX0_formOf 0 = .ok (.aload_n 0, 1) := by decide +kernel
theorem dX0_formOf_1 : decode cX0_formOf 1 = .ok (.getfield 9, 3) := by decide +kernel
theorem dX0_formOf_4 : decode cX0_formOf 4 = .ok (.iconst 2, 1) := by decide +kernel
theorem dX0_formOf_5 : decode cX0_formOf 5 = .ok (.iaload, 1) := by decide +kernel
theorem dX0_formOf_6 : decode cX0_formOf 6 = .ok (.aload_n 0, 1) := by decide +kernel
theorem dX0_formOf_7 : decode cX0_formOf 7 = .ok (.getfield 28, 3) := by decide +kernel
theorem dX0_formOf_10 : decode cX0_formOf 10 = .ok (.iload_n 1, 1) := by decide +kernel
theorem dX0_formOf_11 : decode cX0_formOf 11 = .ok (.iconst 1, 1) := by decide +kernel
theorem dX0_formOf_12 : decode cX0_formOf 12 = .ok (.iadd, 1) := by decide +kernel
theorem dX0_formOf_13 : decode cX0_formOf 13 = .ok (.iaload, 1) := by decide +kernel
theorem dX0_formOf_14 : decode cX0_formOf 14 = .ok (.imul, 1) := by decide +kernel
theorem dX0_formOf_15 : decode cX0_formOf 15 = .ok (.aload_n 0, 1) := by decide +kernel
theorem dX0_formOf_16 : decode cX0_formOf 16 = .ok (.getfield 9, 3) := by decide +kernel
theorem dX0_formOf_19 : decode cX0_formOf 19 = .ok (.iconst 3, 1) := by decide +kernel
theorem dX0_formOf_20 : decode cX0_formOf 20 = .ok (.iaload, 1) := by decide +kernel
theorem dX0_formOf_21 : decode cX0_formOf 21 = .ok (.aload_n 0, 1) := by decide +kernel
theorem dX0_formOf_22 : decode cX0_formOf 22 = .ok (.getfield 31, 3) := by decide +kernel
theorem dX0_formOf_25 : decode cX0_formOf 25 = .ok (.iload_n 1, 1) := by decide +kernel
theorem dX0_formOf_26 : decode cX0_formOf 26 = .ok (.iconst 1, 1) := by decide +kernel
theorem dX0_formOf_27 : decode cX0_formOf 27 = .ok (.iadd, 1) := by decide +kernel
theorem dX0_formOf_28 : decode cX0_formOf 28 = .ok (.iaload, 1) := by decide +kernel
theorem dX0_formOf_29 : decode cX0_formOf 29 = .ok (.imul, 1) := by decide +kernel
theorem dX0_formOf_30 : decode cX0_formOf 30 = .ok (.isub, 1) := by decide +kernel
theorem dX0_formOf_31 : decode cX0_formOf 31 = .ok (.ireturn, 1) := by decide +kernel
theorem dX0_tryRows_0 : decode cX0_tryRows 0 = .ok (.iload_n 1, 1) := by decide +kernel
theorem dX0_tryRows_1 : decode cX0_tryRows 1 = .ok (.iload_n 2, 1) := by decide +kernel
theorem dX0_tryRows_2 : decode cX0_tryRows 2 = .ok (.isub, 1) := by decide +kernel
theorem dX0_tryRows_3 : decode cX0_tryRows 3 = .ok (.istore 4, 2) := by decide +kernel
theorem dX0_tryRows_5 : decode cX0_tryRows 5 = .ok (.iload_n 2, 1) := by decide +kernel
theorem dX0_tryRows_6 : decode cX0_tryRows 6 = .ok (.ifCond .gt 16, 3) := by decide +kernel
theorem dX0_tryRows_9 : decode cX0_tryRows 9 = .ok (.aload_n 0, 1) := by decide +kernel
theorem dX0_tryRows_10 : decode cX0_tryRows 10 = .ok (.iload_n 1, 1) := by decide +kernel
theorem dX0_tryRows_11 : decode cX0_tryRows 11 = .ok (.iload_n 1, 1) := by decide +kernel
theorem dX0_tryRows_12 : decode cX0_tryRows 12 = .ok (.invokevirtual 74, 3) := by decide +kernel
theorem dX0_tryRows_15 : decode cX0_tryRows 15 = .ok (.aload_n 0, 1) := by decide +kernel
theorem dX0_tryRows_16 : decode cX0_tryRows 16 = .ok (.iload_n 1, 1) := by decide +kernel
theorem dX0_tryRows_17 : decode cX0_tryRows 17 = .ok (.iload_n 3, 1) := by decide +kernel
theorem dX0_tryRows_18 : decode cX0_tryRows 18 = .ok (.invokevirtual 109, 3) := by decide +kernel
theorem dX0_tryRows_21 : decode cX0_tryRows 21 = .ok (.return_, 1) := by decide +kernel
theorem dX0_tryRows_22 : decode cX0_tryRows 22 = .ok (.iconst 0, 1) := by decide +kernel
theorem dX0_tryRows_23 : decode cX0_tryRows 23 = .ok (.istore 5, 2) := by decide +kernel
theorem dX0_tryRows_25 : decode cX0_tryRows 25 = .ok (.iload 5, 2) := by decide +kernel
theorem dX0_tryRows_27 : decode cX0_tryRows 27 = .ok (.bipush 6, 2) := by decide +kernel
theorem dX0_tryRows_29 : decode cX0_tryRows 29 = .ok (.if_icmp .ge 51, 3) := by decide +kernel
theorem dX0_tryRows_32 : decode cX0_tryRows 32 = .ok (.aload_n 0, 1) := by decide +kernel
theorem dX0_tryRows_33 : decode cX0_tryRows 33 = .ok (.getfield 18, 3) := by decide +kernel
theorem dX0_tryRows_36 : decode cX0_tryRows 36 = .ok (.iload 4, 2) := by decide +kernel
theorem dX0_tryRows_38 : decode cX0_tryRows 38 = .ok (.iload 5, 2) := by decide +kernel
theorem dX0_tryRows_40 : decode cX0_tryRows 40 = .ok (.iastore, 1) := by decide +kernel
theorem dX0_tryRows_41 : decode cX0_tryRows 41 = .ok (.aload_n 0, 1) := by decide +kernel
theorem dX0_tryRows_42 : decode cX0_tryRows 42 = .ok (.iload 4, 2) := by decide +kernel
theorem dX0_tryRows_44 : decode cX0_tryRows 44 = .ok (.iload 4, 2) := by decide +kernel
theorem dX0_tryRows_46 : decode cX0_tryRows 46 = .ok (.invokevirtual 74, 3) := by decide +kernel
theorem dX0_tryRows_49 : decode cX0_tryRows 49 = .ok (.aload_n 0, 1) := by decide +kernel
theorem dX0_tryRows_50 : decode cX0_tryRows 50 = .ok (.getfield 40, 3) := by decide +kernel
theorem dX0_tryRows_53 : decode cX0_tryRows 53 = .ok (.iload 4, 2) := by decide +kernel
theorem dX0_tryRows_55 : decode cX0_tryRows 55 = .ok (.baload, 1) := by decide +kernel
theorem dX0_tryRows_56 : decode cX0_tryRows 56 = .ok (.ifCond .ne 18, 3) := by decide +kernel
theorem dX0_tryRows_59 : decode cX0_tryRows 59 = .ok (.aload_n 0, 1) := by decide +kernel
theorem dX0_tryRows_60 : decode cX0_tryRows 60 = .ok (.iload_n 1, 1) := by decide +kernel
theorem dX0_tryRows_61 : decode cX0_tryRows 61 = .ok (.iload_n 2, 1) := by decide +kernel
theorem dX0_tryRows_62 : decode cX0_tryRows 62 = .ok (.iconst 1, 1) := by decide +kernel
theorem dX0_tryRows_63 : decode cX0_tryRows 63 = .ok (.isub, 1) := by decide +kernel
theorem dX0_tryRows_64 : decode cX0_tryRows 64 = .ok (.iload_n 3, 1) := by decide +kernel
theorem dX0_tryRows_65 : decode cX0_tryRows 65 = .ok (.bipush 10, 2) := by decide +kernel
theorem dX0_tryRows_67 : decode cX0_tryRows 67 = .ok (.imul, 1) := by decide +kernel
theorem dX0_tryRows_68 : decode cX0_tryRows 68 = .ok (.iload 5, 2) := by decide +kernel
theorem dX0_tryRows_70 : decode cX0_tryRows 70 = .ok (.iadd, 1) := by decide +kernel
theorem dX0_tryRows_71 : decode cX0_tryRows 71 = .ok (.invokevirtual 112, 3) := by decide +kernel
theorem dX0_tryRows_74 : decode cX0_tryRows 74 = .ok (.iinc 5 1, 3) := by decide +kernel
theorem dX0_tryRows_77 : decode cX0_tryRows 77 = .ok (.goto (-52), 3) := by decide +kernel
theorem dX0_tryRows_80 : decode cX0_tryRows 80 = .ok (.return_, 1) := by decide +kernel
theorem dX0_keepIfBetter_0 : decode cX0_keepIfBetter 0 = .ok (.aload_n 0, 1) := by decide +kernel
theorem dX0_keepIfBetter_1 : decode cX0_keepIfBetter 1 = .ok (.getfield 40, 3) := by decide +kernel
theorem dX0_keepIfBetter_4 : decode cX0_keepIfBetter 4 = .ok (.iload_n 1, 1) := by decide +kernel
theorem dX0_keepIfBetter_5 : decode cX0_keepIfBetter 5 = .ok (.baload, 1) := by decide +kernel
theorem dX0_keepIfBetter_6 : decode cX0_keepIfBetter 6 = .ok (.ifCond .ne 29, 3) := by decide +kernel
theorem dX0_keepIfBetter_9 : decode cX0_keepIfBetter 9 = .ok (.aload_n 0, 1) := by decide +kernel
theorem dX0_keepIfBetter_10 : decode cX0_keepIfBetter 10 = .ok (.iload_n 1, 1) := by decide +kernel
theorem dX0_keepIfBetter_11 : decode cX0_keepIfBetter 11 = .ok (.invokevirtual 116, 3) := by decide +kernel
theorem dX0_keepIfBetter_14 : decode cX0_keepIfBetter 14 = .ok (.aload_n 0, 1) := by decide +kernel
theorem dX0_keepIfBetter_15 : decode cX0_keepIfBetter 15 = .ok (.getfield 119, 3) := by decide +kernel
theorem dX0_keepIfBetter_18 : decode cX0_keepIfBetter 18 = .ok (.if_icmp .le 17, 3) := by decide +kernel
theorem dX0_keepIfBetter_21 : decode cX0_keepIfBetter 21 = .ok (.aload_n 0, 1) := by decide +kernel
theorem dX0_keepIfBetter_22 : decode cX0_keepIfBetter 22 = .ok (.aload_n 0, 1) := by decide +kernel
theorem dX0_keepIfBetter_23 : decode cX0_keepIfBetter 23 = .ok (.iload_n 1, 1) := by decide +kernel
theorem dX0_keepIfBetter_24 : decode cX0_keepIfBetter 24 = .ok (.invokevirtual 116, 3) := by decide +kernel
theorem dX0_keepIfBetter_27 : decode cX0_keepIfBetter 27 = .ok (.putfield 119, 3) := by decide +kernel
theorem dX0_keepIfBetter_30 : decode cX0_keepIfBetter 30 = .ok (.aload_n 0, 1) := by decide +kernel
theorem dX0_keepIfBetter_31 : decode cX0_keepIfBetter 31 = .ok (.iload_n 2, 1) := by decide +kernel
theorem dX0_keepIfBetter_32 : decode cX0_keepIfBetter 32 = .ok (.putfield 122, 3) := by decide +kernel
theorem dX0_keepIfBetter_35 : decode cX0_keepIfBetter 35 = .ok (.return_, 1) := by decide +kernel

def isCourse (c : Nat) : Prop := sh c = some (.inl (0, [some (c + 1), some (c + 2), some (c + 3), some (c + 4), some (c + 5), some (c + 6), some (c + 7), some (c + 8), some (c + 9), some (c + 10), none, none])) ∧ sh (c + 1) = some (.inr (.inl (0, 8))) ∧ sh (c + 2) = some (.inr (.inl (0, 6))) ∧ sh (c + 3) = some (.inr (.inl (0, 70))) ∧ sh (c + 4) = some (.inr (.inl (2, 70))) ∧ sh (c + 5) = some (.inr (.inl (0, 70))) ∧ sh (c + 6) = some (.inr (.inl (0, 71))) ∧ sh (c + 7) = some (.inr (.inl (0, 71))) ∧ sh (c + 8) = some (.inr (.inl (0, 71))) ∧ sh (c + 9) = some (.inr (.inl (0, 71))) ∧ sh (c + 10) = some (.inr (.inl (2, 70)))
theorem isCourse_29 : isCourse 29 := ⟨rfl, rfl, rfl, rfl, rfl, rfl, rfl, rfl, rfl, rfl, rfl⟩
theorem isCourse_40 : isCourse 40 := ⟨rfl, rfl, rfl, rfl, rfl, rfl, rfl, rfl, rfl, rfl, rfl⟩
/-- the first n days have been lived -/
def Lived (σ : mS) (c : Nat) (p : sP) (n : Nat) : Prop := (∀ k, k < 8 → σ (c + 1) k = p.1 k) ∧ (∀ k, k < 70 → σ (c + 4) k = bI (p.2.2.1 k)) ∧ (∀ k, k ≤ n → σ (c + 6) k = sFit p k ∧ σ (c + 7) k = sTir p k ∧ σ (c + 8) k = sSum p k ∧ σ (c + 9) k = nI (sHl p k)) ∧ ∀ k, k < n → σ (c + 5) k = sLoad p k ∧ σ (c + 10) k = bI (sInj p k)
theorem Lived.mono {σ : mS} {c n k : Nat} {p : sP} (h : Lived σ c p n) (hk : k ≤ n) : Lived σ c p k := ⟨h.1, h.2.1, fun j hj => h.2.2.1 j (by omega), fun j hj => h.2.2.2 j (by omega)⟩
theorem Lived.congr {σ : mS} {c n : Nat} {p q : sP} (h : Lived σ c p n) (hq : sEq p q n) (hc : ∀ k, k < 70 → p.2.2.1 k = q.2.2.1 k) : Lived σ c q n := by
  refine ⟨fun k hk => by rw [h.1 k hk, hq.1 k hk], fun k hk => by rw [h.2.1 k hk, hc k hk], fun k hk => ?_, fun k hk => ?_⟩
  · obtain ⟨h1, h2, h3, h4⟩ := h.2.2.1 k hk
    have e := hq.mono hk
    exact ⟨by rw [h1, e.fit], by rw [h2, e.tir], by rw [h3, e.sum], by rw [h4, e.hl]⟩
  · obtain ⟨h1, h2⟩ := h.2.2.2 k hk
    exact ⟨by rw [h1, hq.load hk], by rw [h2, hq.inj hk]⟩
theorem nar_b (b : Bool) : vp_nar .boolean (bI b) = bI b := by cases b <;> rfl
theorem nar_1 : vp_nar .boolean (nI 1) = bI true := rfl
theorem nar_0 : vp_nar .boolean (nI 0) = bI false := rfl
theorem max0 {n m : Nat} (hn : n < 2 ^ 31) (hm : m < 2 ^ 31) : (if nI 0 < nI n - nI m then nI n - nI m else nI 0) = nI (n - m) := by
  by_cases h : m ≤ n
  · rw [nI_sub h]
    by_cases h0 : 0 < n - m
    · rw [if_pos (nI_lt h0 (by omega))]
    · rw [show n - m = 0 by omega, if_neg (fun z => Int32.lt_irrefl z)]
  · rw [if_neg, show n - m = 0 by omega]
    have e : nI m - nI n = nI (m - n) := nI_sub (by omega)
    have e2 : nI n - nI m = -(nI (m - n)) := by rw [← e]; exact (Int32.neg_sub ..).symm
    rw [e2, Int32.lt_iff_toInt_lt, Int32.toInt_neg, nI_toInt (by decide), nI_toInt (by omega)]
    have h2 : (-(((m - n : Nat) : Int))).bmod (2 ^ 32) = -((m - n : Nat) : Int) := by
      rw [Int.bmod_eq_of_le (by omega) (by omega)]
    rw [h2]
    omega
section CO
variable {G : mG} {d c : Nat} {σ : mS}
theorem v_decayed (v e : Int32) : mV G mX0_decayed d [.int v, .int e] σ (some (.int (v - v / e))) σ := by
  refine mV_of fun Q hQ => ?_
  refine F_iload_n dX0_decayed_0 rfl ?_
  refine F_if_ne (tgt := 8) dX0_decayed_1 rfl (fun c1 => ?_) (fun c1 => ?_)
  · refine F_iload_n dX0_decayed_8 rfl ?_
    refine F_iload_n dX0_decayed_9 rfl ?_
    refine F_iload_n dX0_decayed_10 rfl ?_
    refine F_idiv dX0_decayed_11 c1 ?_
    refine F_isub dX0_decayed_12 ?_
    refine F_iret dX0_decayed_13 rfl ?_
    first | exact hQ | (rw [c1, Int32.div_zero, Int32.sub_zero] at hQ; exact hQ)
  · refine F_iload_n dX0_decayed_4 rfl ?_
    refine F_goto (tgt := 13) dX0_decayed_5 rfl ?_
    refine F_iret dX0_decayed_13 rfl ?_
    first | exact hQ | (rw [c1, Int32.div_zero, Int32.sub_zero] at hQ; exact hQ)

theorem v_isHurt (hc : isCourse c) {n h : Nat} (hn : n < 70) (hh : σ (c + 9) n = nI h) (hb : h < 2 ^ 31) : mV G mX0_isHurt d [.ref c, .int (nI n)] σ (some (.int (bI (decide (n < h))))) σ := by
  obtain ⟨s0, s1, s2, s3, s4, s5, s6, s7, s8, s9, s10⟩ := hc
  refine mV_of fun Q hQ => ?_
  refine F_iload_n dX0_isHurt_0 rfl ?_
  refine F_aload_n dX0_isHurt_1 rfl ?_
  refine F_getr dX0_isHurt_2 rfl rfl (by first | assumption | rfl) rfl ?_
  refine F_iload_n dX0_isHurt_5 rfl ?_
  refine F_ialdE (v := nI h) dX0_isHurt_6 (by first | assumption | rfl) (by decide) (by omega) hh ?_
  refine F_icmp_geN (tgt := 14) dX0_isHurt_7 rfl (by omega) (by omega) (fun c7 => ?_) (fun c7 => ?_)
  · refine F_iconst (v := nI 0) dX0_isHurt_14 rfl ?_
    refine F_zret dX0_isHurt_15 rfl (by first | exact Or.inl rfl | exact Or.inr rfl | exact bI_01 _) ?_
    first | exact Qb1 hQ (decide_eq_true (by omega)) | exact Qb0 hQ (decide_eq_false (by omega))
  · refine F_iconst (v := nI 1) dX0_isHurt_10 rfl ?_
    refine F_goto (tgt := 15) dX0_isHurt_11 rfl ?_
    refine F_zret dX0_isHurt_15 rfl (by first | exact Or.inl rfl | exact Or.inr rfl | exact bI_01 _) ?_
    first | exact Qb1 hQ (decide_eq_true (by omega)) | exact Qb0 hQ (decide_eq_false (by omega))

theorem v_acute (hc : isCourse c) {n : Nat} (hn : n < 70) : mV G mX0_acute d [.ref c, .int (nI n)] σ (some (.int (σ (c + 8) (n + 1) - σ (c + 8) (n + 1 - 7)))) σ := by
  obtain ⟨s0, s1, s2, s3, s4, s5, s6, s7, s8, s9, s10⟩ := hc
  refine mV_of fun Q hQ => ?_
  refine F_aload_n dX0_acute_0 rfl ?_
  refine F_getr dX0_acute_1 rfl rfl (by first | assumption | rfl) rfl ?_
  refine F_iload_n dX0_acute_4 rfl ?_
  refine F_iconst (v := nI 1) dX0_acute_5 rfl ?_
  refine F_iaddN dX0_acute_6 ?_
  refine F_iald dX0_acute_7 (by first | assumption | rfl) (by decide) (by omega) ?_
  refine F_aload_n dX0_acute_8 rfl ?_
  refine F_getr dX0_acute_9 rfl rfl (by first | assumption | rfl) rfl ?_
  refine F_iconst (v := nI 0) dX0_acute_12 rfl ?_
  refine F_iload_n dX0_acute_13 rfl ?_
  refine F_iconst (v := nI 1) dX0_acute_14 rfl ?_
  refine F_iaddN dX0_acute_15 ?_
  refine F_bipush (v := nI 7) dX0_acute_16 rfl ?_
  refine F_isub dX0_acute_18 ?_
  refine F_max dX0_acute_19 rfl rfl (Nat.le_of_ble_eq_true rfl) ?_
  refine F_top (y := nI (n + 1 - 7)) (max0 (by omega) (by decide)) ?_
  refine F_iald dX0_acute_22 (by first | assumption | rfl) (by decide) (by omega) ?_
  refine F_isub dX0_acute_23 ?_
  refine F_iret dX0_acute_24 rfl ?_
  exact hQ

theorem v_chronic (hc : isCourse c) {n : Nat} (hn : n < 70) : mV G mX0_chronic d [.ref c, .int (nI n)] σ (some (.int (σ (c + 8) (n + 1) - σ (c + 8) (n + 1 - 28)))) σ := by
  obtain ⟨s0, s1, s2, s3, s4, s5, s6, s7, s8, s9, s10⟩ := hc
  refine mV_of fun Q hQ => ?_
  refine F_aload_n dX0_chronic_0 rfl ?_
  refine F_getr dX0_chronic_1 rfl rfl (by first | assumption | rfl) rfl ?_
  refine F_iload_n dX0_chronic_4 rfl ?_
  refine F_iconst (v := nI 1) dX0_chronic_5 rfl ?_
  refine F_iaddN dX0_chronic_6 ?_
  refine F_iald dX0_chronic_7 (by first | assumption | rfl) (by decide) (by omega) ?_
  refine F_aload_n dX0_chronic_8 rfl ?_
  refine F_getr dX0_chronic_9 rfl rfl (by first | assumption | rfl) rfl ?_
  refine F_iconst (v := nI 0) dX0_chronic_12 rfl ?_
  refine F_iload_n dX0_chronic_13 rfl ?_
  refine F_iconst (v := nI 1) dX0_chronic_14 rfl ?_
  refine F_iaddN dX0_chronic_15 ?_
  refine F_bipush (v := nI 28) dX0_chronic_16 rfl ?_
  refine F_isub dX0_chronic_18 ?_
  refine F_max dX0_chronic_19 rfl rfl (Nat.le_of_ble_eq_true rfl) ?_
  refine F_top (y := nI (n + 1 - 28)) (max0 (by omega) (by decide)) ?_
  refine F_iald dX0_chronic_22 (by first | assumption | rfl) (by decide) (by omega) ?_
  refine F_isub dX0_chronic_23 ?_
  refine F_iret dX0_chronic_24 rfl ?_
  exact hQ

theorem v_isTooMuch (hc : isCourse c) {n : Nat} (hn : n < 70) : mV G mX0_isTooMuch (d + 1) [.ref c, .int (nI n)] σ (some (.int (bI (decide (20 ≤ n) && decide (σ (c + 1) 4 * (σ (c + 8) (n + 1) - σ (c + 8) (n + 1 - 28)) < (σ (c + 8) (n + 1) - σ (c + 8) (n + 1 - 7)) * nI 400))))) σ := by
  obtain ⟨s0, s1, s2, s3, s4, s5, s6, s7, s8, s9, s10⟩ := hc
  refine mV_of fun Q hQ => ?_
  have hc : isCourse c := ⟨s0, s1, s2, s3, s4, s5, s6, s7, s8, s9, s10⟩
  refine F_iload_n dX0_isTooMuch_0 rfl ?_
  refine F_bipush (v := nI 20) dX0_isTooMuch_1 rfl ?_
  refine F_icmp_ltN (tgt := 34) dX0_isTooMuch_3 rfl (by omega) (by omega) (fun c3 => ?_) (fun c3 => ?_)
  · refine F_iconst (v := nI 0) dX0_isTooMuch_34 rfl ?_
    refine F_zret dX0_isTooMuch_35 rfl (by first | exact Or.inl rfl | exact Or.inr rfl | exact bI_01 _) ?_
    clear s0 s1 s2 s3 s4 s5 s6 s7 s8 s9 s10
    first | exact Qb0 hQ (by rw [decide_eq_false (show ¬ 20 ≤ n by omega)]; rfl) | exact Qb0 hQ (by rw [decide_eq_false (Int32.not_lt.mpr c27), Bool.and_false]) | exact Qb1 hQ (by rw [decide_eq_true (show 20 ≤ n by omega), decide_eq_true (Int32.not_le.mp c27)]; rfl)
  · refine F_aload_n dX0_isTooMuch_6 rfl ?_
    refine F_iload_n dX0_isTooMuch_7 rfl ?_
    refine F_cV1i (v_acute (d := d) hc hn) dX0_isTooMuch_8 rfl rfl (by decide) (by first | assumption | rfl) rfl rfl rfl (by decide) (Nat.le_of_ble_eq_true rfl) (by omega) ?_
    refine F_sipush (v := nI 400) dX0_isTooMuch_11 rfl ?_
    refine F_imul dX0_isTooMuch_14 ?_
    refine F_aload_n dX0_isTooMuch_15 rfl ?_
    refine F_getr dX0_isTooMuch_16 rfl rfl (by first | assumption | rfl) rfl ?_
    refine F_iconst (v := nI 4) dX0_isTooMuch_19 rfl ?_
    refine F_iald dX0_isTooMuch_20 (by first | assumption | rfl) (by decide) (by omega) ?_
    refine F_aload_n dX0_isTooMuch_21 rfl ?_
    refine F_iload_n dX0_isTooMuch_22 rfl ?_
    refine F_cV1i (v_chronic (d := d) hc hn) dX0_isTooMuch_23 rfl rfl (by decide) (by first | assumption | rfl) rfl rfl rfl (by decide) (Nat.le_of_ble_eq_true rfl) (by omega) ?_
    refine F_imul dX0_isTooMuch_26 ?_
    refine F_icmp_le (tgt := 34) dX0_isTooMuch_27 rfl (fun c27 => ?_) (fun c27 => ?_)
    · refine F_iconst (v := nI 0) dX0_isTooMuch_34 rfl ?_
      refine F_zret dX0_isTooMuch_35 rfl (by first | exact Or.inl rfl | exact Or.inr rfl | exact bI_01 _) ?_
      clear s0 s1 s2 s3 s4 s5 s6 s7 s8 s9 s10
      first | exact Qb0 hQ (by rw [decide_eq_false (show ¬ 20 ≤ n by omega)]; rfl) | exact Qb0 hQ (by rw [decide_eq_false (Int32.not_lt.mpr c27), Bool.and_false]) | exact Qb1 hQ (by rw [decide_eq_true (show 20 ≤ n by omega), decide_eq_true (Int32.not_le.mp c27)]; rfl)
    · refine F_iconst (v := nI 1) dX0_isTooMuch_30 rfl ?_
      refine F_goto (tgt := 35) dX0_isTooMuch_31 rfl ?_
      refine F_zret dX0_isTooMuch_35 rfl (by first | exact Or.inl rfl | exact Or.inr rfl | exact bI_01 _) ?_
      clear s0 s1 s2 s3 s4 s5 s6 s7 s8 s9 s10
      first | exact Qb0 hQ (by rw [decide_eq_false (show ¬ 20 ≤ n by omega)]; rfl) | exact Qb0 hQ (by rw [decide_eq_false (Int32.not_lt.mpr c27), Bool.and_false]) | exact Qb1 hQ (by rw [decide_eq_true (show 20 ≤ n by omega), decide_eq_true (Int32.not_le.mp c27)]; rfl)

theorem v_formOf (hc : isCourse c) {n : Nat} (hn : n < 70) : mV G mX0_formOf d [.ref c, .int (nI n)] σ (some (.int (σ (c + 1) 2 * σ (c + 6) (n + 1) - σ (c + 1) 3 * σ (c + 7) (n + 1)))) σ := by
  obtain ⟨s0, s1, s2, s3, s4, s5, s6, s7, s8, s9, s10⟩ := hc
  refine mV_of fun Q hQ => ?_
  refine F_aload_n dX0_formOf_0 rfl ?_
  refine F_getr dX0_formOf_1 rfl rfl (by first | assumption | rfl) rfl ?_
  refine F_iconst (v := nI 2) dX0_formOf_4 rfl ?_
  refine F_iald dX0_formOf_5 (by first | assumption | rfl) (by decide) (by omega) ?_
  refine F_aload_n dX0_formOf_6 rfl ?_
  refine F_getr dX0_formOf_7 rfl rfl (by first | assumption | rfl) rfl ?_
  refine F_iload_n dX0_formOf_10 rfl ?_
  refine F_iconst (v := nI 1) dX0_formOf_11 rfl ?_
  refine F_iaddN dX0_formOf_12 ?_
  refine F_iald dX0_formOf_13 (by first | assumption | rfl) (by decide) (by omega) ?_
  refine F_imul dX0_formOf_14 ?_
  refine F_aload_n dX0_formOf_15 rfl ?_
  refine F_getr dX0_formOf_16 rfl rfl (by first | assumption | rfl) rfl ?_
  refine F_iconst (v := nI 3) dX0_formOf_19 rfl ?_
  refine F_iald dX0_formOf_20 (by first | assumption | rfl) (by decide) (by omega) ?_
  refine F_aload_n dX0_formOf_21 rfl ?_
  refine F_getr dX0_formOf_22 rfl rfl (by first | assumption | rfl) rfl ?_
  refine F_iload_n dX0_formOf_25 rfl ?_
  refine F_iconst (v := nI 1) dX0_formOf_26 rfl ?_
  refine F_iaddN dX0_formOf_27 ?_
  refine F_iald dX0_formOf_28 (by first | assumption | rfl) (by decide) (by omega) ?_
  refine F_imul dX0_formOf_29 ?_
  refine F_isub dX0_formOf_30 ?_
  refine F_iret dX0_formOf_31 rfl ?_
  exact hQ

theorem v_held (hc : isCourse c) {n : Nat} (hn : n < 70) (x : Int32) {b : Bool} (hb : σ (c + 4) n = bI b) : mV G mX0_held d [.ref c, .int (nI n), .int x] σ (some (.int (if σ (c + 1) 6 - (σ (c + 8) n - σ (c + 8) (n - n % 7)) < (if b = true then x * σ (c + 1) 7 / nI 100 else x) then σ (c + 1) 6 - (σ (c + 8) n - σ (c + 8) (n - n % 7)) else (if b = true then x * σ (c + 1) 7 / nI 100 else x)))) σ := by
  obtain ⟨s0, s1, s2, s3, s4, s5, s6, s7, s8, s9, s10⟩ := hc
  refine mV_of fun Q hQ => ?_
  refine F_aload_n dX0_held_0 rfl ?_
  refine F_getr dX0_held_1 rfl rfl (by first | assumption | rfl) rfl ?_
  refine F_iload_n dX0_held_4 rfl ?_
  refine F_zaldE (v := bI b) dX0_held_5 (by first | assumption | rfl) (by decide) (by omega) hb ?_
  refine F_if_eqB (tgt := 24) dX0_held_6 rfl (fun c6 => ?_) (fun c6 => ?_)
  · refine F_iload_n dX0_held_24 rfl ?_
    refine F_istore_n dX0_held_25 (Nat.le_of_ble_eq_true rfl) ?_
    refine F_aload_n dX0_held_26 rfl ?_
    refine F_getr dX0_held_27 rfl rfl (by first | assumption | rfl) rfl ?_
    refine F_iload_n dX0_held_30 rfl ?_
    refine F_iald dX0_held_31 (by first | assumption | rfl) (by decide) (by omega) ?_
    refine F_aload_n dX0_held_32 rfl ?_
    refine F_getr dX0_held_33 rfl rfl (by first | assumption | rfl) rfl ?_
    refine F_iload_n dX0_held_36 rfl ?_
    refine F_iload_n dX0_held_37 rfl ?_
    refine F_bipush (v := nI 7) dX0_held_38 rfl ?_
    refine F_irem dX0_held_40 (by decide) ?_
    refine F_top (nI_rem (by omega) (by decide)) ?_
    refine F_isubN dX0_held_41 (Nat.mod_le n 7) ?_
    refine F_iald dX0_held_42 (by first | assumption | rfl) (by decide) (by have := Nat.sub_le n (n % 7); omega) ?_
    refine F_isub dX0_held_43 ?_
    refine F_istore dX0_held_44 (Nat.le_of_ble_eq_true rfl) ?_
    refine F_iload_n dX0_held_46 rfl ?_
    refine F_aload_n dX0_held_47 rfl ?_
    refine F_getr dX0_held_48 rfl rfl (by first | assumption | rfl) rfl ?_
    refine F_bipush (v := nI 6) dX0_held_51 rfl ?_
    refine F_iald dX0_held_53 (by first | assumption | rfl) (by decide) (by omega) ?_
    refine F_iload dX0_held_54 rfl ?_
    refine F_isub dX0_held_56 ?_
    refine F_min dX0_held_57 rfl rfl (Nat.le_of_ble_eq_true rfl) ?_
    refine F_iret dX0_held_60 rfl ?_
    clear s0 s1 s2 s3 s4 s5 s6 s7 s8 s9 s10
    subst c6
    exact hQ
  · refine F_iload_n dX0_held_9 rfl ?_
    refine F_aload_n dX0_held_10 rfl ?_
    refine F_getr dX0_held_11 rfl rfl (by first | assumption | rfl) rfl ?_
    refine F_bipush (v := nI 7) dX0_held_14 rfl ?_
    refine F_iald dX0_held_16 (by first | assumption | rfl) (by decide) (by omega) ?_
    refine F_imul dX0_held_17 ?_
    refine F_bipush (v := nI 100) dX0_held_18 rfl ?_
    refine F_idiv dX0_held_20 (by decide) ?_
    refine F_goto (tgt := 25) dX0_held_21 rfl ?_
    refine F_istore_n dX0_held_25 (Nat.le_of_ble_eq_true rfl) ?_
    refine F_aload_n dX0_held_26 rfl ?_
    refine F_getr dX0_held_27 rfl rfl (by first | assumption | rfl) rfl ?_
    refine F_iload_n dX0_held_30 rfl ?_
    refine F_iald dX0_held_31 (by first | assumption | rfl) (by decide) (by omega) ?_
    refine F_aload_n dX0_held_32 rfl ?_
    refine F_getr dX0_held_33 rfl rfl (by first | assumption | rfl) rfl ?_
    refine F_iload_n dX0_held_36 rfl ?_
    refine F_iload_n dX0_held_37 rfl ?_
    refine F_bipush (v := nI 7) dX0_held_38 rfl ?_
    refine F_irem dX0_held_40 (by decide) ?_
    refine F_top (nI_rem (by omega) (by decide)) ?_
    refine F_isubN dX0_held_41 (Nat.mod_le n 7) ?_
    refine F_iald dX0_held_42 (by first | assumption | rfl) (by decide) (by have := Nat.sub_le n (n % 7); omega) ?_
    refine F_isub dX0_held_43 ?_
    refine F_istore dX0_held_44 (Nat.le_of_ble_eq_true rfl) ?_
    refine F_iload_n dX0_held_46 rfl ?_
    refine F_aload_n dX0_held_47 rfl ?_
    refine F_getr dX0_held_48 rfl rfl (by first | assumption | rfl) rfl ?_
    refine F_bipush (v := nI 6) dX0_held_51 rfl ?_
    refine F_iald dX0_held_53 (by first | assumption | rfl) (by decide) (by omega) ?_
    refine F_iload dX0_held_54 rfl ?_
    refine F_isub dX0_held_56 ?_
    refine F_min dX0_held_57 rfl rfl (Nat.le_of_ble_eq_true rfl) ?_
    refine F_iret dX0_held_60 rfl ?_
    clear s0 s1 s2 s3 s4 s5 s6 s7 s8 s9 s10
    subst c6
    exact hQ

/-- the memory behind one more day -/
def livS (σ : mS) (c n : Nat) (p : sP) : mS := up (up (up (up (up (up σ (c + 5) n (sLoad p n)) (c + 8) (n + 1) (sSum p (n + 1))) (c + 6) (n + 1) (sFit p (n + 1))) (c + 7) (n + 1) (sTir p (n + 1))) (c + 10) n (bI (sInj p n))) (c + 9) (n + 1) (nI (sHl p (n + 1)))
theorem livS_far (σ : mS) {c n a : Nat} (p : sP) (h : a < c + 5 ∨ c + 10 < a) : livS σ c n p a = σ a := by
  simp only [livS]
  rw [up_n _ _ _ (by omega), up_n _ _ _ (by omega), up_n _ _ _ (by omega), up_n _ _ _ (by omega), up_n _ _ _ (by omega), up_n _ _ _ (by omega)]
theorem Lived.next {p : sP} {n : Nat} (h : Lived σ c p n) : Lived (livS σ c n p) c p (n + 1) := by
  have r5 : livS σ c n p (c + 5) = upd (σ (c + 5)) n (sLoad p n) := by
    simp only [livS]
    rw [up_n _ _ _ (by omega), up_n _ _ _ (by omega), up_n _ _ _ (by omega), up_n _ _ _ (by omega), up_n _ _ _ (by omega)]
    simp [up, upR]
  have r8 : livS σ c n p (c + 8) = upd (σ (c + 8)) (n + 1) (sSum p (n + 1)) := by
    simp only [livS]
    rw [up_n _ _ _ (by omega), up_n _ _ _ (by omega), up_n _ _ _ (by omega), up_n _ _ _ (by omega)]
    simp [up, upR]
  have r6 : livS σ c n p (c + 6) = upd (σ (c + 6)) (n + 1) (sFit p (n + 1)) := by
    simp only [livS]
    rw [up_n _ _ _ (by omega), up_n _ _ _ (by omega), up_n _ _ _ (by omega)]
    simp [up, upR]
  have r7 : livS σ c n p (c + 7) = upd (σ (c + 7)) (n + 1) (sTir p (n + 1)) := by
    simp only [livS]
    rw [up_n _ _ _ (by omega), up_n _ _ _ (by omega)]
    simp [up, upR]
  have r10 : livS σ c n p (c + 10) = upd (σ (c + 10)) n (bI (sInj p n)) := by
    simp only [livS]
    rw [up_n _ _ _ (by omega)]
    simp [up, upR]
  have r9 : livS σ c n p (c + 9) = upd (σ (c + 9)) (n + 1) (nI (sHl p (n + 1))) := by
    simp [livS, up, upR]
  refine ⟨fun k hk => by rw [livS_far _ _ (by omega)]; exact h.1 k hk, fun k hk => by rw [livS_far _ _ (by omega)]; exact h.2.1 k hk, fun k hk => ?_, fun k hk => ?_⟩
  · rw [r6, r7, r8, r9]
    by_cases h1 : k = n + 1
    · subst h1; simp [upd]
    · obtain ⟨a1, a2, a3, a4⟩ := h.2.2.1 k (by omega)
      simp only [upd, if_neg h1]
      exact ⟨a1, a2, a3, a4⟩
  · rw [r5, r10]
    by_cases h1 : k = n
    · subst h1; simp [upd]
    · obtain ⟨a1, a2⟩ := h.2.2.2 k (by omega)
      simp only [upd, if_neg h1]
      exact ⟨a1, a2⟩
theorem l_live160 (hc : isCourse c) {n : Nat} {p : sP} (hn : n < 70) (hL : Lived σ c p n) (hs : sOk p.1) {Q : Option Value → mS → Prop} (hQ : Q none (livS σ c n p)) : mF G mX0_liveDay (d + 2) 160 [some (.ref c), some (.int (nI n)), some (.int (p.2.1 n)), some (.int (sLoad p n))] [.int (nI (sHl p (n + 1))), .int (nI (n + 1)), .ref (c + 9)] (up (up (up (up (up σ (c + 5) n (sLoad p n)) (c + 8) (n + 1) (sSum p (n + 1))) (c + 6) (n + 1) (sFit p (n + 1))) (c + 7) (n + 1) (sTir p (n + 1))) (c + 10) n (bI (sInj p n))) Q := by
  obtain ⟨s0, s1, s2, s3, s4, s5, s6, s7, s8, s9, s10⟩ := hc
  refine F_iast dX0_liveDay_160 (by first | assumption | rfl) (by decide) (by omega) ?_
  refine F_vret dX0_liveDay_161 rfl ?_
  exact hQ

theorem l_live125 (hc : isCourse c) {n : Nat} {p : sP} (hn : n < 70) (hL : Lived σ c p n) (hs : sOk p.1) {Q : Option Value → mS → Prop} (hQ : Q none (livS σ c n p)) : mF G mX0_liveDay (d + 2) 125 [some (.ref c), some (.int (nI n)), some (.int (p.2.1 n)), some (.int (sLoad p n))] [] (up (up (up (up (up σ (c + 5) n (sLoad p n)) (c + 8) (n + 1) (sSum p (n + 1))) (c + 6) (n + 1) (sFit p (n + 1))) (c + 7) (n + 1) (sTir p (n + 1))) (c + 10) n (bI (sInj p n))) Q := by
  have h160 := l_live160 (G := G) (d := d) hc hn hL hs hQ
  obtain ⟨hv, h1, h14, eh⟩ := sOk_n hs (k := 5) (a := 1) (b := 14) (by omega) (by decide +kernel) (by decide +kernel) (by decide) (by decide)
  obtain ⟨s0, s1, s2, s3, s4, s5, s6, s7, s8, s9, s10⟩ := hc
  refine F_aload_n dX0_liveDay_125 rfl ?_
  refine F_getr dX0_liveDay_126 rfl rfl (by first | assumption | rfl) rfl ?_
  refine F_iload_n dX0_liveDay_129 rfl ?_
  refine F_iconst (v := nI 1) dX0_liveDay_130 rfl ?_
  refine F_iaddN dX0_liveDay_131 ?_
  refine F_aload_n dX0_liveDay_132 rfl ?_
  refine F_getr dX0_liveDay_133 rfl rfl (by first | assumption | rfl) rfl ?_
  refine F_iload_n dX0_liveDay_136 rfl ?_
  refine F_zaldE (v := bI (sInj p n)) dX0_liveDay_137 (by first | assumption | rfl) (by decide) (by omega) (up_s _ _ _ _) ?_
  refine F_if_eqB (tgt := 154) dX0_liveDay_138 rfl (fun c138 => ?_) (fun c138 => ?_)
  · refine F_aload_n dX0_liveDay_154 rfl ?_
    refine F_getr dX0_liveDay_155 rfl rfl (by first | assumption | rfl) rfl ?_
    refine F_iload_n dX0_liveDay_158 rfl ?_
    refine F_ialdE (v := nI (sHl p n)) dX0_liveDay_159 (by first | assumption | rfl) (by decide) (by omega) (by rw [up_n _ _ _ (by omega), up_n _ _ _ (by omega), up_n _ _ _ (by omega), up_n _ _ _ (by omega), up_n _ _ _ (by omega)]; exact (hL.2.2.1 n (Nat.le_refl n)).2.2.2) ?_
    refine F_top (y := nI (sHl p (n + 1))) ?_ h160
    rw [sHl_s]
    first
      | (rw [if_pos c138, eh, nI_clamp (by omega)])
      | (rw [if_neg (by rw [c138]; decide)])
  · refine F_iload_n dX0_liveDay_141 rfl ?_
    refine F_iconst (v := nI 1) dX0_liveDay_142 rfl ?_
    refine F_iaddN dX0_liveDay_143 ?_
    refine F_aload_n dX0_liveDay_144 rfl ?_
    refine F_getr dX0_liveDay_145 rfl rfl (by first | assumption | rfl) rfl ?_
    refine F_iconst (v := nI 5) dX0_liveDay_148 rfl ?_
    refine F_ialdE (v := nI hv) dX0_liveDay_149 (by first | assumption | rfl) (by decide) (by omega) (by rw [up_n _ _ _ (by omega), up_n _ _ _ (by omega), up_n _ _ _ (by omega), up_n _ _ _ (by omega), up_n _ _ _ (by omega), hL.1 5 (by omega)]; exact eh) ?_
    refine F_iaddN dX0_liveDay_150 ?_
    refine F_goto (tgt := 160) dX0_liveDay_151 rfl ?_
    refine F_top (y := nI (sHl p (n + 1))) ?_ h160
    rw [sHl_s]
    first
      | (rw [if_pos c138, eh, nI_clamp (by omega)])
      | (rw [if_neg (by rw [c138]; decide)])

theorem l_live124 (hc : isCourse c) {n : Nat} {p : sP} (hn : n < 70) (hL : Lived σ c p n) (hs : sOk p.1) {Q : Option Value → mS → Prop} (hQ : Q none (livS σ c n p)) : mF G mX0_liveDay (d + 2) 124 [some (.ref c), some (.int (nI n)), some (.int (p.2.1 n)), some (.int (sLoad p n))] [.int (bI (sInj p n)), .int (nI n), .ref (c + 10)] (up (up (up (up σ (c + 5) n (sLoad p n)) (c + 8) (n + 1) (sSum p (n + 1))) (c + 6) (n + 1) (sFit p (n + 1))) (c + 7) (n + 1) (sTir p (n + 1))) Q := by
  have h125 := l_live125 (G := G) (d := d) hc hn hL hs hQ
  obtain ⟨s0, s1, s2, s3, s4, s5, s6, s7, s8, s9, s10⟩ := hc
  refine F_zast dX0_liveDay_124 (by first | assumption | rfl) (by decide) (by omega) ?_
  rw [nar_b]
  exact h125

theorem l_live18 (hc : isCourse c) {n : Nat} {p : sP} (hn : n < 70) (hL : Lived σ c p n) (hs : sOk p.1) {Q : Option Value → mS → Prop} (hQ : Q none (livS σ c n p)) : mF G mX0_liveDay (d + 2) 18 [some (.ref c), some (.int (nI n)), some (.int (p.2.1 n)), none] [.int (sLoad p n)] σ Q := by
  have h124 := l_live124 (G := G) (d := d) hc hn hL hs hQ
  obtain ⟨e6, e7, e8, e9⟩ := hL.2.2.1 n (Nat.le_refl n)
  have hhl := sHl_le p hs n
  have u9 : (up (up (up (up σ (c + 5) n (sLoad p n)) (c + 8) (n + 1) (sSum p (n + 1))) (c + 6) (n + 1) (sFit p (n + 1))) (c + 7) (n + 1) (sTir p (n + 1))) (c + 9) n = nI (sHl p n) := by rw [up_n _ _ _ (by omega), up_n _ _ _ (by omega), up_n _ _ _ (by omega), up_n _ _ _ (by omega)]; exact e9
  have u1 : ∀ k, k < 8 → (up (up (up (up σ (c + 5) n (sLoad p n)) (c + 8) (n + 1) (sSum p (n + 1))) (c + 6) (n + 1) (sFit p (n + 1))) (c + 7) (n + 1) (sTir p (n + 1))) (c + 1) k = p.1 k := fun k hk => by rw [up_n _ _ _ (by omega), up_n _ _ _ (by omega), up_n _ _ _ (by omega), up_n _ _ _ (by omega)]; exact hL.1 k hk
  have u8 : ∀ k, k ≤ n + 1 → (up (up (up (up σ (c + 5) n (sLoad p n)) (c + 8) (n + 1) (sSum p (n + 1))) (c + 6) (n + 1) (sFit p (n + 1))) (c + 7) (n + 1) (sTir p (n + 1))) (c + 8) k = sSum p k := fun k hk => by
    rw [up_n _ _ _ (by omega), up_n _ _ _ (by omega)]
    by_cases h1 : k = n + 1
    · subst h1; exact up_s _ _ _ _
    · rw [up_r _ _ _ h1, up_n _ _ _ (by omega)]; exact (hL.2.2.1 k (by omega)).2.2.1
  have hc0 := hc
  obtain ⟨s0, s1, s2, s3, s4, s5, s6, s7, s8, s9, s10⟩ := hc
  refine F_istore_n dX0_liveDay_18 (Nat.le_of_ble_eq_true rfl) ?_
  refine F_aload_n dX0_liveDay_19 rfl ?_
  refine F_getr dX0_liveDay_20 rfl rfl (by first | assumption | rfl) rfl ?_
  refine F_iload_n dX0_liveDay_23 rfl ?_
  refine F_iload_n dX0_liveDay_24 rfl ?_
  refine F_iast dX0_liveDay_25 (by first | assumption | rfl) (by decide) (by omega) ?_
  refine F_aload_n dX0_liveDay_26 rfl ?_
  refine F_getr dX0_liveDay_27 rfl rfl (by first | assumption | rfl) rfl ?_
  refine F_iload_n dX0_liveDay_30 rfl ?_
  refine F_iconst (v := nI 1) dX0_liveDay_31 rfl ?_
  refine F_iaddN dX0_liveDay_32 ?_
  refine F_aload_n dX0_liveDay_33 rfl ?_
  refine F_getr dX0_liveDay_34 rfl rfl (by first | assumption | rfl) rfl ?_
  refine F_iload_n dX0_liveDay_37 rfl ?_
  refine F_ialdE (v := sSum p n) dX0_liveDay_38 (by first | assumption | rfl) (by decide) (by omega) (by rw [up_n _ _ _ (by omega)]; exact e8) ?_
  refine F_iload_n dX0_liveDay_39 rfl ?_
  refine F_iadd dX0_liveDay_40 ?_
  refine F_top (sSum_s p n).symm ?_
  refine F_iast dX0_liveDay_41 (by first | assumption | rfl) (by decide) (by omega) ?_
  refine F_aload_n dX0_liveDay_42 rfl ?_
  refine F_getr dX0_liveDay_43 rfl rfl (by first | assumption | rfl) rfl ?_
  refine F_iload_n dX0_liveDay_46 rfl ?_
  refine F_iconst (v := nI 1) dX0_liveDay_47 rfl ?_
  refine F_iaddN dX0_liveDay_48 ?_
  refine F_aload_n dX0_liveDay_49 rfl ?_
  refine F_getr dX0_liveDay_50 rfl rfl (by first | assumption | rfl) rfl ?_
  refine F_iload_n dX0_liveDay_53 rfl ?_
  refine F_ialdE (v := sFit p n) dX0_liveDay_54 (by first | assumption | rfl) (by decide) (by omega) (by rw [up_n _ _ _ (by omega), up_n _ _ _ (by omega)]; exact e6) ?_
  refine F_aload_n dX0_liveDay_55 rfl ?_
  refine F_getr dX0_liveDay_56 rfl rfl (by first | assumption | rfl) rfl ?_
  refine F_iconst (v := nI 0) dX0_liveDay_59 rfl ?_
  refine F_ialdE (v := p.1 0) dX0_liveDay_60 (by first | assumption | rfl) (by decide) (by omega) (by rw [up_n _ _ _ (by omega), up_n _ _ _ (by omega)]; exact hL.1 0 (by omega)) ?_
  refine F_cS2i (v_decayed (d := d) _ _) dX0_liveDay_61 rfl rfl rfl (by decide) (Nat.le_of_ble_eq_true rfl) (by omega) ?_
  refine F_bipush (v := nI 10) dX0_liveDay_64 rfl ?_
  refine F_iload_n dX0_liveDay_66 rfl ?_
  refine F_imul dX0_liveDay_67 ?_
  refine F_iadd dX0_liveDay_68 ?_
  refine F_top (sFit_s p n).symm ?_
  refine F_iast dX0_liveDay_69 (by first | assumption | rfl) (by decide) (by omega) ?_
  refine F_aload_n dX0_liveDay_70 rfl ?_
  refine F_getr dX0_liveDay_71 rfl rfl (by first | assumption | rfl) rfl ?_
  refine F_iload_n dX0_liveDay_74 rfl ?_
  refine F_iconst (v := nI 1) dX0_liveDay_75 rfl ?_
  refine F_iaddN dX0_liveDay_76 ?_
  refine F_aload_n dX0_liveDay_77 rfl ?_
  refine F_getr dX0_liveDay_78 rfl rfl (by first | assumption | rfl) rfl ?_
  refine F_iload_n dX0_liveDay_81 rfl ?_
  refine F_ialdE (v := sTir p n) dX0_liveDay_82 (by first | assumption | rfl) (by decide) (by omega) (by rw [up_n _ _ _ (by omega), up_n _ _ _ (by omega), up_n _ _ _ (by omega)]; exact e7) ?_
  refine F_aload_n dX0_liveDay_83 rfl ?_
  refine F_getr dX0_liveDay_84 rfl rfl (by first | assumption | rfl) rfl ?_
  refine F_iconst (v := nI 1) dX0_liveDay_87 rfl ?_
  refine F_ialdE (v := p.1 1) dX0_liveDay_88 (by first | assumption | rfl) (by decide) (by omega) (by rw [up_n _ _ _ (by omega), up_n _ _ _ (by omega), up_n _ _ _ (by omega)]; exact hL.1 1 (by omega)) ?_
  refine F_cS2i (v_decayed (d := d) _ _) dX0_liveDay_89 rfl rfl rfl (by decide) (Nat.le_of_ble_eq_true rfl) (by omega) ?_
  refine F_bipush (v := nI 10) dX0_liveDay_92 rfl ?_
  refine F_iload_n dX0_liveDay_94 rfl ?_
  refine F_imul dX0_liveDay_95 ?_
  refine F_iadd dX0_liveDay_96 ?_
  refine F_top (sTir_s p n).symm ?_
  refine F_iast dX0_liveDay_97 (by first | assumption | rfl) (by decide) (by omega) ?_
  refine F_aload_n dX0_liveDay_98 rfl ?_
  refine F_getr dX0_liveDay_99 rfl rfl (by first | assumption | rfl) rfl ?_
  refine F_iload_n dX0_liveDay_102 rfl ?_
  refine F_aload_n dX0_liveDay_103 rfl ?_
  refine F_iload_n dX0_liveDay_104 rfl ?_
  refine F_cV1i (v_isHurt (d := d) hc0 hn u9 (by omega)) dX0_liveDay_105 rfl rfl (by decide) (by first | assumption | rfl) rfl rfl rfl (by decide) (Nat.le_of_ble_eq_true rfl) (by omega) ?_
  refine F_if_neB (tgt := 123) dX0_liveDay_108 rfl (fun c108 => ?_) (fun c108 => ?_)
  · refine F_iconst (v := nI 0) dX0_liveDay_123 rfl ?_
    refine F_top (y := bI (sInj p n)) ?_ h124
    have e : sInj p n = (!decide (n < sHl p n) && (decide (20 ≤ n) && decide (p.1 4 * (sSum p (n + 1) - sSum p (n + 1 - 28)) < (sSum p (n + 1) - sSum p (n + 1 - 7)) * nI 400))) := by simp only [sInj, sIj, Bool.and_assoc]
    rw [e, c108]
    first
      | (rw [u1 4 (by omega), u8 (n + 1) (by omega), u8 (n + 1 - 28) (by omega), u8 (n + 1 - 7) (by omega)] at c116
         rw [c116]
         rfl)
      | rfl
  · refine F_aload_n dX0_liveDay_111 rfl ?_
    refine F_iload_n dX0_liveDay_112 rfl ?_
    refine F_cV1i (v_isTooMuch (d := d) hc0 hn) dX0_liveDay_113 rfl rfl (by decide) (by first | assumption | rfl) rfl rfl rfl (by decide) (Nat.le_of_ble_eq_true rfl) (by omega) ?_
    refine F_if_eqB (tgt := 123) dX0_liveDay_116 rfl (fun c116 => ?_) (fun c116 => ?_)
    · refine F_iconst (v := nI 0) dX0_liveDay_123 rfl ?_
      refine F_top (y := bI (sInj p n)) ?_ h124
      have e : sInj p n = (!decide (n < sHl p n) && (decide (20 ≤ n) && decide (p.1 4 * (sSum p (n + 1) - sSum p (n + 1 - 28)) < (sSum p (n + 1) - sSum p (n + 1 - 7)) * nI 400))) := by simp only [sInj, sIj, Bool.and_assoc]
      rw [e, c108]
      first
        | (rw [u1 4 (by omega), u8 (n + 1) (by omega), u8 (n + 1 - 28) (by omega), u8 (n + 1 - 7) (by omega)] at c116
           rw [c116]
           rfl)
        | rfl
    · refine F_iconst (v := nI 1) dX0_liveDay_119 rfl ?_
      refine F_goto (tgt := 124) dX0_liveDay_120 rfl ?_
      refine F_top (y := bI (sInj p n)) ?_ h124
      have e : sInj p n = (!decide (n < sHl p n) && (decide (20 ≤ n) && decide (p.1 4 * (sSum p (n + 1) - sSum p (n + 1 - 28)) < (sSum p (n + 1) - sSum p (n + 1 - 7)) * nI 400))) := by simp only [sInj, sIj, Bool.and_assoc]
      rw [e, c108]
      first
        | (rw [u1 4 (by omega), u8 (n + 1) (by omega), u8 (n + 1 - 28) (by omega), u8 (n + 1 - 7) (by omega)] at c116
           rw [c116]
           rfl)
        | rfl

theorem v_liveDay (hc : isCourse c) {n : Nat} {p : sP} (hn : n < 70) (hL : Lived σ c p n) (hs : sOk p.1) : mV G mX0_liveDay (d + 2) [.ref c, .int (nI n), .int (p.2.1 n)] σ none (livS σ c n p) := by
  obtain ⟨s0, s1, s2, s3, s4, s5, s6, s7, s8, s9, s10⟩ := hc
  refine mV_of fun Q hQ => ?_
  have hc : isCourse c := ⟨s0, s1, s2, s3, s4, s5, s6, s7, s8, s9, s10⟩
  have h18 := l_live18 (G := G) (d := d) hc hn hL hs hQ
  have e9 := (hL.2.2.1 n (Nat.le_refl n)).2.2.2
  have hhl := sHl_le p hs n
  refine F_aload_n dX0_liveDay_0 rfl ?_
  refine F_iload_n dX0_liveDay_1 rfl ?_
  refine F_cV1i (v_isHurt (d := d) hc hn e9 (by omega)) dX0_liveDay_2 rfl rfl (by decide) (by first | assumption | rfl) rfl rfl rfl (by decide) (Nat.le_of_ble_eq_true rfl) (by omega) ?_
  refine F_if_eqB (tgt := 12) dX0_liveDay_5 rfl (fun c5 => ?_) (fun c5 => ?_)
  · refine F_aload_n dX0_liveDay_12 rfl ?_
    refine F_iload_n dX0_liveDay_13 rfl ?_
    refine F_iload_n dX0_liveDay_14 rfl ?_
    refine F_cV2i (v_held (d := d) hc hn _ (hL.2.1 n hn)) dX0_liveDay_15 rfl rfl (by decide) (by first | assumption | rfl) rfl rfl rfl (by decide) (Nat.le_of_ble_eq_true rfl) (by omega) ?_
    refine F_top (y := sLoad p n) ?_ h18
    simp only [sLoad, sLd]
    first
      | rw [if_pos (of_decide_eq_true c5)]
      | (rw [if_neg (of_decide_eq_false c5), hL.1 6 (by omega), hL.1 7 (by omega), (hL.2.2.1 n (Nat.le_refl n)).2.2.1, (hL.2.2.1 (n - n % 7) (Nat.sub_le _ _)).2.2.1])
  · refine F_iconst (v := nI 0) dX0_liveDay_8 rfl ?_
    refine F_goto (tgt := 18) dX0_liveDay_9 rfl ?_
    refine F_top (y := sLoad p n) ?_ h18
    simp only [sLoad, sLd]
    first
      | rw [if_pos (of_decide_eq_true c5)]
      | (rw [if_neg (of_decide_eq_false c5), hL.1 6 (by omega), hL.1 7 (by omega), (hL.2.2.1 n (Nat.le_refl n)).2.2.1, (hL.2.2.1 (n - n % 7) (Nat.sub_le _ _)).2.2.1])

end CO
end
section
/-! ===== Course: live, pitch, follow ===== -/
theorem le_pred {a n : Nat} (ha : a < 2 ^ 31) (hn : n < 2 ^ 31) : nI a ≤ nI n - nI 1 ↔ a < n := by
  cases n with
  | zero =>
    have : (nI 0 - nI 1 : Int32) = -1 := by decide
    rw [this, Int32.le_iff_toInt_le, nI_toInt ha]
    have : (-1 : Int32).toInt = -1 := by decide
    rw [this]; omega
  | succ k =>
    rw [nI_sub (by omega), Nat.add_sub_cancel, nI_le_iff ha (by omega)]
    omega
/-- m days more, from day n on -/
def lvS (σ : mS) (c : Nat) (p : sP) (n : Nat) : Nat → mS
  | 0 => σ
  | m + 1 => livS (lvS σ c p n m) c (n + m) p
theorem lvS_far (σ : mS) {c n a : Nat} (p : sP) (h : a < c + 5 ∨ c + 10 < a) : ∀ m, lvS σ c p n m a = σ a := by
  intro m
  induction m with
  | zero => rfl
  | succ m ih => simp only [lvS]; rw [livS_far _ _ h]; exact ih
theorem Lived.nexts {σ : mS} {c n : Nat} {p : sP} (h : Lived σ c p n) : ∀ m, Lived (lvS σ c p n m) c p (n + m) := by
  intro m
  induction m with
  | zero => exact h
  | succ m ih => exact ih.next
section CL
variable {G : mG} {d c : Nat} {σ : mS}
theorem v_live (hc : isCourse c) {n N : Nat} {x : Int32} {p : sP} (hx : x = nI N - nI 1) (hnN : n ≤ N) (hN : N ≤ 70) (hL : Lived σ c p n) (hs : sOk p.1) (hk : ∀ k, n ≤ k → k < N → ∃ j, j < 6 ∧ σ (c + 3) k = nI j ∧ σ (c + 2) j = p.2.1 k) : mV G mX0_live (d + 3) [.ref c, .int (nI n), .int x] σ none (lvS σ c p n (N - n)) := by
  refine mV_of fun Q hQ => ?_
  have hl : ∀ m, m ≤ N - n → mF G mX0_live (d + 3) 2 [some (.ref c), some (.int (nI n)), some (.int x), some (.int (nI (n + m)))] [] (lvS σ c p n m) Q := by
    refine loopUp (N - n) (fun m hm ih => ?_)
    have hLm := hL.nexts m
    have hc0 := hc
    obtain ⟨s0, s1, s2, s3, s4, s5, s6, s7, s8, s9, s10⟩ := hc
    refine F_iload_n dX0_live_2 rfl ?_
    refine F_iload_n dX0_live_3 rfl ?_
    refine F_icmp_gt (tgt := 29) dX0_live_4 rfl (fun c4 => ?_) (fun c4 => ?_)
    · refine F_vret dX0_live_29 rfl ?_
      rw [hx, ← Int32.not_le, le_pred (by omega) (by omega)] at c4
      have e1 : m = N - n := by omega
      subst e1
      exact hQ
    · rw [hx, Int32.not_lt, le_pred (by omega) (by omega)] at c4
      obtain ⟨j, hj, hj1, hj2⟩ := hk (n + m) (by omega) c4
      refine F_aload_n dX0_live_7 rfl ?_
      refine F_iload_n dX0_live_8 rfl ?_
      refine F_aload_n dX0_live_9 rfl ?_
      refine F_getr dX0_live_10 rfl rfl (by first | assumption | rfl) rfl ?_
      refine F_aload_n dX0_live_13 rfl ?_
      refine F_getr dX0_live_14 rfl rfl (by first | assumption | rfl) rfl ?_
      refine F_iload_n dX0_live_17 rfl ?_
      refine F_ialdE (v := nI j) dX0_live_18 (by first | assumption | rfl) (by decide) (by omega) (by rw [lvS_far _ _ (by omega)]; exact hj1) ?_
      refine F_ialdE (v := p.2.1 (n + m)) dX0_live_19 (by first | assumption | rfl) (by decide) (by omega) (by rw [lvS_far _ _ (by omega)]; exact hj2) ?_
      refine F_cV2v (v_liveDay (d := d) hc0 (by omega) hLm hs) dX0_live_20 rfl rfl (by decide) (by first | assumption | rfl) rfl rfl rfl (by decide) (Nat.le_of_ble_eq_true rfl) (by omega) ?_
      refine F_iincN dX0_live_23 rfl ?_
      refine F_goto (tgt := 2) dX0_live_26 rfl ?_
      exact ih (by omega)
  refine F_iload_n dX0_live_0 rfl ?_
  refine F_istore_n dX0_live_1 (Nat.le_of_ble_eq_true rfl) ?_
  exact hl 0 (by omega)

theorem v_pitch (hc : isCourse c) {a e : Nat} (hab : a ≤ e) (he : e < 70) : mV G mX0_pitch d [.ref c, .int (nI a), .int (nI e)] σ none (upR σ (c + 4) (fillR (σ (c + 4)) a (a + (e + 1 - a)) (bI true))) := by
  refine mV_of fun Q hQ => ?_
  obtain ⟨s0, s1, s2, s3, s4, s5, s6, s7, s8, s9, s10⟩ := hc
  have hl : ∀ x, x ≤ e + 1 - a → mF G mX0_pitch d 2 [some (.ref c), some (.int (nI a)), some (.int (nI e)), some (.int (nI (a + x)))] [] (upR σ (c + 4) (fillR (σ (c + 4)) a (a + x) (bI true))) Q := by
    refine loopUp (e + 1 - a) (fun x hx ih => ?_)
    refine F_iload_n dX0_pitch_2 rfl ?_
    refine F_iload_n dX0_pitch_3 rfl ?_
    refine F_icmp_gtN (tgt := 20) dX0_pitch_4 rfl (by omega) (by omega) (fun c4 => ?_) (fun c4 => ?_)
    · refine F_vret dX0_pitch_20 rfl ?_
      have e1 : x = e + 1 - a := by omega
      subst e1
      exact hQ
    · refine F_aload_n dX0_pitch_7 rfl ?_
      refine F_getr dX0_pitch_8 rfl rfl (by first | assumption | rfl) rfl ?_
      refine F_iload_n dX0_pitch_11 rfl ?_
      refine F_iconst (v := nI 1) dX0_pitch_12 rfl ?_
      refine F_zast dX0_pitch_13 (by first | assumption | rfl) (by decide) (by omega) ?_
      refine F_iincN dX0_pitch_14 rfl ?_
      refine F_goto (tgt := 2) dX0_pitch_17 rfl ?_
      rw [nar_1]
      refine F_sg (up_fill _ _ _ _ (by omega)) ?_
      exact ih (by omega)
  refine F_iload_n dX0_pitch_0 rfl ?_
  refine F_istore_n dX0_pitch_1 (Nat.le_of_ble_eq_true rfl) ?_
  refine F_sg (fill0 _ (c + 4) a (bI true)).symm ?_
  exact hl 0 (by omega)

/-- is day k in a camp, of the first n, but x -/
def cfN (F L : Nat → Int32) (x : Int32) (k : Nat) : Nat → Bool
  | 0 => false
  | n + 1 => cfN F L x k n || (!decide (nI n = x) && (decide (F n ≤ nI k) && decide (nI k ≤ L n)))
/-- what the book says of a group -/
def pB (σ : mS) (g nc : Nat) (x : Int32) : sP := (σ 11, fun k => σ 10 (σ 7 (g * 70 + k)).toNatClampNeg, fun k => cfN (σ 8) (σ 9) x k nc, σ 5 g, σ 6 g)
/-- the camps are days -/
def okC (F L : Nat → Int32) (n : Nat) : Prop := ∀ i, i < n → ∃ a e, a ≤ e ∧ e < 70 ∧ F i = nI a ∧ L i = nI e
def okK (K : Nat → Int32) (g : Nat) : Prop := ∀ k, k < 70 → ∃ j, j < 6 ∧ K (g * 70 + k) = nI j
/-- the row of camp days, behind the first i camps -/
def rowC (σ : mS) (x : Int32) (i : Nat) : Nat → Int32 := fun k => if k < 70 then bI (cfN (σ 8) (σ 9) x k i) else 0
def fwA (σ : mS) (c g : Nat) : mS := (upR (upR (upR σ (c + 1) (va_cpy (σ 11) (σ (c + 1)) 0 0 8)) (c + 2) (va_cpy (σ 10) (σ (c + 2)) 0 0 6)) (c + 3) (va_cpy (σ 7) (σ (c + 3)) (g * 70) 0 70))
theorem fwA_far (σ : mS) {c g a : Nat} (h : a < c + 1 ∨ c + 3 < a) : fwA σ c g a = σ a := by
  simp only [fwA]
  rw [upR_n _ _ (by omega), upR_n _ _ (by omega), upR_n _ _ (by omega)]
theorem fwA_1 (σ : mS) (c g : Nat) {k : Nat} (hk : k < 8) : fwA σ c g (c + 1) k = σ 11 k := by
  simp only [fwA]
  rw [upR_n _ _ (by omega), upR_n _ _ (by omega), upR_s]
  simp only [va_cpy]
  rw [if_pos (by omega)]
  congr 1; omega
theorem fwA_2 (σ : mS) (c g : Nat) {k : Nat} (hk : k < 6) : fwA σ c g (c + 2) k = σ 10 k := by
  simp only [fwA]
  rw [upR_n _ _ (by omega), upR_s]
  simp only [va_cpy]
  rw [if_pos (by omega)]
  congr 1; omega
theorem fwA_3 (σ : mS) (c g : Nat) {k : Nat} (hk : k < 70) : fwA σ c g (c + 3) k = σ 7 (g * 70 + k) := by
  simp only [fwA]
  rw [upR_s]
  simp only [va_cpy]
  rw [if_pos (by omega)]
  congr 1
/-- the end of follow: fit and tired as day 0 begins, and the days lived -/
def fwE (σ : mS) (c g n : Nat) (x : Int32) : mS := up (up (upR (fwA σ c g) (c + 4) (rowC σ x n)) (c + 6) 0 (σ 5 g)) (c + 7) 0 (σ 6 g)
def fwS (σ : mS) (c g n N : Nat) (x : Int32) : mS := lvS (fwE σ c g n x) c (pB σ g n x) 0 N
theorem fwE_far (σ : mS) {c g n a : Nat} {x : Int32} (h : a < c + 1 ∨ (c + 4 < a ∧ a ≠ c + 6 ∧ a ≠ c + 7)) : fwE σ c g n x a = σ a := by
  simp only [fwE]
  rw [up_n _ _ _ (by omega), up_n _ _ _ (by omega), upR_n _ _ (by omega), fwA_far _ (by omega)]
theorem fwE_L {g n : Nat} {x : Int32} (h8 : σ (c + 8) 0 = nI 0) (h9 : σ (c + 9) 0 = nI 0) : Lived (fwE σ c g n x) c (pB σ g n x) 0 := by
  refine ⟨fun k hk => ?_, fun k hk => ?_, fun k hk => ?_, fun k hk => absurd hk (by omega)⟩
  · simp only [fwE]
    rw [up_n _ _ _ (by omega), up_n _ _ _ (by omega), upR_n _ _ (by omega), fwA_1 _ _ _ hk]
    rfl
  · simp only [fwE]
    rw [up_n _ _ _ (by omega), up_n _ _ _ (by omega), upR_s]
    simp only [rowC]
    rw [if_pos hk]
    rfl
  · have : k = 0 := by omega
    subst this
    refine ⟨?_, ?_, ?_, ?_⟩
    · simp only [fwE]; rw [up_n _ _ _ (by omega), up_s]; rfl
    · simp only [fwE]; rw [up_s]; rfl
    · rw [fwE_far _ (by omega)]; exact h8
    · rw [fwE_far _ (by omega)]; exact h9
theorem l_follow114 (hc : isCourse c) (hc4 : 11 < c) {g n N : Nat} {x y : Int32} (hg : g < 6) (hn : σ 4 4 = nI n) (h4 : n ≤ 4) (hy : y = nI N - nI 1) (hN : N ≤ 70) (hC : okC (σ 8) (σ 9) n) (hK : okK (σ 7) g) (hs : sOk (σ 11)) (h8 : σ (c + 8) 0 = nI 0) (h9 : σ (c + 9) 0 = nI 0) {Q : Option Value → mS → Prop} (hQ : Q none (fwS σ c g n N x)) : mF G mX0_follow (d + 4) 114 [some (.ref c), some (.ref 4), some (.int (nI g)), some (.int x), some (.int y), some (.int (nI n))] [] (upR (fwA σ c g) (c + 4) (rowC σ x n)) Q := by
  have hL : Lived (fwE σ c g n x) c (pB σ g n x) 0 := fwE_L h8 h9
  have hkk : ∀ k, 0 ≤ k → k < N → ∃ j, j < 6 ∧ fwE σ c g n x (c + 3) k = nI j ∧ fwE σ c g n x (c + 2) j = (pB σ g n x).2.1 k := by
    intro k _ hk
    obtain ⟨j, hj, e⟩ := hK k (by omega)
    refine ⟨j, hj, ?_, ?_⟩
    · simp only [fwE]
      rw [up_n _ _ _ (by omega), up_n _ _ _ (by omega), upR_n _ _ (by omega), fwA_3 _ _ _ (by omega)]
      exact e
    · simp only [fwE]
      rw [up_n _ _ _ (by omega), up_n _ _ _ (by omega), upR_n _ _ (by omega), fwA_2 _ _ _ hj]
      simp only [pB]
      rw [e, nI_clamp (by omega)]
  have hc0 := hc
  obtain ⟨s0, s1, s2, s3, s4, s5, s6, s7, s8, s9, s10⟩ := hc
  refine F_aload_n dX0_follow_114 rfl ?_
  refine F_getr dX0_follow_115 rfl rfl (by first | assumption | rfl) rfl ?_
  refine F_iconst (v := nI 0) dX0_follow_118 rfl ?_
  refine F_aload_n dX0_follow_119 rfl ?_
  refine F_getr dX0_follow_120 rfl rfl (by first | assumption | rfl) rfl ?_
  refine F_iload_n dX0_follow_123 rfl ?_
  refine F_ialdE (v := σ 5 g) dX0_follow_124 (by first | assumption | rfl) (by decide) (by omega) (by rw [upR_n _ _ (by omega), fwA_far _ (by omega)]) ?_
  refine F_iast dX0_follow_125 (by first | assumption | rfl) (by decide) (by omega) ?_
  refine F_aload_n dX0_follow_126 rfl ?_
  refine F_getr dX0_follow_127 rfl rfl (by first | assumption | rfl) rfl ?_
  refine F_iconst (v := nI 0) dX0_follow_130 rfl ?_
  refine F_aload_n dX0_follow_131 rfl ?_
  refine F_getr dX0_follow_132 rfl rfl (by first | assumption | rfl) rfl ?_
  refine F_iload_n dX0_follow_135 rfl ?_
  refine F_ialdE (v := σ 6 g) dX0_follow_136 (by first | assumption | rfl) (by decide) (by omega) (by rw [up_n _ _ _ (by omega), upR_n _ _ (by omega), fwA_far _ (by omega)]) ?_
  refine F_iast dX0_follow_137 (by first | assumption | rfl) (by decide) (by omega) ?_
  refine F_aload_n dX0_follow_138 rfl ?_
  refine F_iconst (v := nI 0) dX0_follow_139 rfl ?_
  refine F_iload dX0_follow_140 rfl ?_
  refine F_cV2v (v_live (d := d) (n := 0) (p := pB σ g n x) hc0 hy (Nat.zero_le N) hN hL hs hkk) dX0_follow_142 rfl rfl (by decide) (by first | assumption | rfl) rfl rfl rfl (by decide) (Nat.le_of_ble_eq_true rfl) (by omega) ?_
  refine F_vret dX0_follow_145 rfl ?_
  exact hQ

theorem rowC_s (σ : mS) (x : Int32) {i a e : Nat} (hF : σ 8 i = nI a) (hL : σ 9 i = nI e) (hae : a ≤ e) (he : e < 70) (hx : ¬ nI i = x) : fillR (rowC σ x i) a (a + (e + 1 - a)) (bI true) = rowC σ x (i + 1) := by
  funext k
  simp only [fillR, rowC, cfN]
  rw [decide_eq_false hx, hF, hL]
  by_cases hk : k < 70
  · rw [if_pos hk, if_pos hk, decide_eq_decide.mpr (nI_le_iff (by omega) (by omega)), decide_eq_decide.mpr (nI_le_iff (by omega) (by omega))]
    by_cases h1 : a ≤ k ∧ k < a + (e + 1 - a)
    · rw [if_pos h1, decide_eq_true h1.1, decide_eq_true (show k ≤ e by omega)]
      simp
    · rw [if_neg h1]
      congr 1
      by_cases h2 : a ≤ k
      · rw [decide_eq_false (show ¬ k ≤ e by omega)]; simp
      · rw [decide_eq_false h2]; simp
  · rw [if_neg (by omega), if_neg hk, if_neg hk]
theorem rowC_x (σ : mS) (x : Int32) {i : Nat} (hx : nI i = x) : rowC σ x i = rowC σ x (i + 1) := by
  funext k
  simp only [rowC, cfN]
  rw [decide_eq_true hx]
  simp
theorem l_follow75 (hc : isCourse c) (hc4 : 11 < c) {g n N : Nat} {x y : Int32} (hg : g < 6) (hn : σ 4 4 = nI n) (h4 : n ≤ 4) (hy : y = nI N - nI 1) (hN : N ≤ 70) (hC : okC (σ 8) (σ 9) n) (hK : okK (σ 7) g) (hs : sOk (σ 11)) (h8 : σ (c + 8) 0 = nI 0) (h9 : σ (c + 9) 0 = nI 0) {Q : Option Value → mS → Prop} (hQ : Q none (fwS σ c g n N x)) : ∀ i, i ≤ n → mF G mX0_follow (d + 4) 75 [some (.ref c), some (.ref 4), some (.int (nI g)), some (.int x), some (.int y), some (.int (nI i))] [] (upR (fwA σ c g) (c + 4) (rowC σ x i)) Q := by
  refine loopUp n (fun i hi ih => ?_)
  have h114 := l_follow114 (G := G) (d := d) hc hc4 hg hn h4 hy hN hC hK hs h8 h9 hQ
  have hc0 := hc
  have r8 : (upR (fwA σ c g) (c + 4) (rowC σ x i)) 8 = σ 8 := by rw [upR_n _ _ (by omega), fwA_far _ (by omega)]
  have r9 : (upR (fwA σ c g) (c + 4) (rowC σ x i)) 9 = σ 9 := by rw [upR_n _ _ (by omega), fwA_far _ (by omega)]
  have r4 : (upR (fwA σ c g) (c + 4) (rowC σ x i)) 4 4 = nI n := by rw [upR_n _ _ (by omega), fwA_far _ (by omega)]; exact hn
  obtain ⟨s0, s1, s2, s3, s4, s5, s6, s7, s8, s9, s10⟩ := hc
  refine F_iload dX0_follow_75 rfl ?_
  refine F_aload_n dX0_follow_77 rfl ?_
  refine F_getE (v := nI n) dX0_follow_78 rfl rfl (by first | assumption | rfl) rfl r4 ?_
  refine F_icmp_geN (tgt := 114) dX0_follow_81 rfl (by omega) (by omega) (fun c81 => ?_) (fun c81 => ?_)
  · have e1 : i = n := by omega
    subst e1
    exact h114
  · obtain ⟨a, e, hae, he, ha, hee⟩ := hC i (by omega)
    refine F_iload dX0_follow_84 rfl ?_
    refine F_iload_n dX0_follow_86 rfl ?_
    refine F_icmp_eq (tgt := 108) dX0_follow_87 rfl (fun c87 => ?_) (fun c87 => ?_)
    · refine F_iincN dX0_follow_108 rfl ?_
      refine F_goto (tgt := 75) dX0_follow_111 rfl ?_
      first
        | (refine F_sg ?_ (ih (by omega))
           rw [upR_upR, upR_s, rowC_s σ x ha hee hae he c87])
        | (refine F_sg ?_ (ih (by omega))
           rw [rowC_x σ x c87])
    · refine F_aload_n dX0_follow_90 rfl ?_
      refine F_aload_n dX0_follow_91 rfl ?_
      refine F_getr dX0_follow_92 rfl rfl (by first | assumption | rfl) rfl ?_
      refine F_iload dX0_follow_95 rfl ?_
      refine F_ialdE (v := nI a) dX0_follow_97 (by first | assumption | rfl) (by decide) (by omega) (by rw [r8]; exact ha) ?_
      refine F_aload_n dX0_follow_98 rfl ?_
      refine F_getr dX0_follow_99 rfl rfl (by first | assumption | rfl) rfl ?_
      refine F_iload dX0_follow_102 rfl ?_
      refine F_ialdE (v := nI e) dX0_follow_104 (by first | assumption | rfl) (by decide) (by omega) (by rw [r9]; exact hee) ?_
      refine F_cV2v (v_pitch (d := d) hc0 hae he) dX0_follow_105 rfl rfl (by decide) (by first | assumption | rfl) rfl rfl rfl (by decide) (Nat.le_of_ble_eq_true rfl) (by omega) ?_
      refine F_iincN dX0_follow_108 rfl ?_
      refine F_goto (tgt := 75) dX0_follow_111 rfl ?_
      first
        | (refine F_sg ?_ (ih (by omega))
           rw [upR_upR, upR_s, rowC_s σ x ha hee hae he c87])
        | (refine F_sg ?_ (ih (by omega))
           rw [rowC_x σ x c87])

theorem v_follow (hc : isCourse c) (hc4 : 11 < c) {g n N : Nat} {x y : Int32} (hg : g < 6) (hn : σ 4 4 = nI n) (h4 : n ≤ 4) (hy : y = nI N - nI 1) (hN : N ≤ 70) (hC : okC (σ 8) (σ 9) n) (hK : okK (σ 7) g) (hs : sOk (σ 11)) (h8 : σ (c + 8) 0 = nI 0) (h9 : σ (c + 9) 0 = nI 0) (hz : ∀ k, 70 ≤ k → σ (c + 4) k = 0) : mV G mX0_follow (d + 4) [.ref c, .ref 4, .int (nI g), .int x, .int y] σ none (fwS σ c g n N x) := by
  refine mV_of fun Q hQ => ?_
  have h75 := l_follow75 (G := G) (d := d) hc hc4 hg hn h4 hy hN hC hK hs h8 h9 hQ
  have hc0 := hc
  obtain ⟨s0, s1, s2, s3, s4, s5, s6, s7, s8, s9, s10⟩ := hc
  have hl : ∀ e, e ≤ 70 → mF G mX0_follow (d + 4) 51 [some (.ref c), some (.ref 4), some (.int (nI g)), some (.int x), some (.int y), some (.int (nI e))] [] (upR (fwA σ c g) (c + 4) (fillR (σ (c + 4)) 0 (0 + e) (bI false))) Q := by
    refine loopUp 70 (fun e he ih => ?_)
    refine F_iload dX0_follow_51 rfl ?_
    refine F_bipush (v := nI 70) dX0_follow_53 rfl ?_
    refine F_icmp_geN (tgt := 72) dX0_follow_55 rfl (by omega) (by omega) (fun c55 => ?_) (fun c55 => ?_)
    · have e1 : e = 70 := by omega
      subst e1
      refine F_iconst (v := nI 0) dX0_follow_72 rfl ?_
      refine F_istore dX0_follow_73 (Nat.le_of_ble_eq_true rfl) ?_
      refine F_sg ?_ (h75 0 (Nat.zero_le n))
      congr 1
      funext k
      simp only [fillR, rowC, cfN]
      by_cases h : k < 70
      · rw [if_pos (by omega), if_pos h]
      · rw [if_neg (by omega), if_neg h]
        exact hz k (by omega)
    · refine F_aload_n dX0_follow_58 rfl ?_
      refine F_getr dX0_follow_59 rfl rfl (by first | assumption | rfl) rfl ?_
      refine F_iload dX0_follow_62 rfl ?_
      refine F_iconst (v := nI 0) dX0_follow_64 rfl ?_
      refine F_zast dX0_follow_65 (by first | assumption | rfl) (by decide) (by omega) ?_
      refine F_iincN dX0_follow_66 rfl ?_
      refine F_goto (tgt := 51) dX0_follow_69 rfl ?_
      rw [nar_0]
      refine F_sg ?_ (ih (by omega))
      have e3 := up_fill (fwA σ c g) (c + 4) (σ (c + 4)) (lo := 0) (hi := 0 + e) (bI false) (Nat.zero_le _)
      simp only [Nat.zero_add] at e3 ⊢
      exact e3
  refine F_aload_n dX0_follow_0 rfl ?_
  refine F_getr dX0_follow_1 rfl rfl (by first | assumption | rfl) rfl ?_
  refine F_iconst (v := nI 0) dX0_follow_4 rfl ?_
  refine F_aload_n dX0_follow_5 rfl ?_
  refine F_getr dX0_follow_6 rfl rfl (by first | assumption | rfl) rfl ?_
  refine F_iconst (v := nI 0) dX0_follow_9 rfl ?_
  refine F_bipush (v := nI 8) dX0_follow_10 rfl ?_
  refine F_copy dX0_follow_12 rfl rfl (Nat.le_of_ble_eq_true rfl) (by first | assumption | rfl) (by first | assumption | rfl) (by decide) (by decide) (by omega) (by omega) ?_
  refine F_aload_n dX0_follow_15 rfl ?_
  refine F_getr dX0_follow_16 rfl rfl (by first | assumption | rfl) rfl ?_
  refine F_iconst (v := nI 0) dX0_follow_19 rfl ?_
  refine F_aload_n dX0_follow_20 rfl ?_
  refine F_getr dX0_follow_21 rfl rfl (by first | assumption | rfl) rfl ?_
  refine F_iconst (v := nI 0) dX0_follow_24 rfl ?_
  refine F_bipush (v := nI 6) dX0_follow_25 rfl ?_
  refine F_copy dX0_follow_27 rfl rfl (Nat.le_of_ble_eq_true rfl) (by first | assumption | rfl) (by first | assumption | rfl) (by decide) (by decide) (by omega) (by omega) ?_
  refine F_aload_n dX0_follow_30 rfl ?_
  refine F_getr dX0_follow_31 rfl rfl (by first | assumption | rfl) rfl ?_
  refine F_iload_n dX0_follow_34 rfl ?_
  refine F_bipush (v := nI 70) dX0_follow_35 rfl ?_
  refine F_imulN dX0_follow_37 ?_
  refine F_aload_n dX0_follow_38 rfl ?_
  refine F_getr dX0_follow_39 rfl rfl (by first | assumption | rfl) rfl ?_
  refine F_iconst (v := nI 0) dX0_follow_42 rfl ?_
  refine F_bipush (v := nI 70) dX0_follow_43 rfl ?_
  refine F_copy dX0_follow_45 rfl rfl (Nat.le_of_ble_eq_true rfl) (by first | assumption | rfl) (by first | assumption | rfl) (by decide) (by decide) (by omega) (by omega) ?_
  refine F_iconst (v := nI 0) dX0_follow_48 rfl ?_
  refine F_istore dX0_follow_49 (Nat.le_of_ble_eq_true rfl) ?_
  refine F_sg ?_ (hl 0 (by omega))
  rw [Nat.add_zero, fillR_0]
  have e4 : fwA σ c g (c + 4) = σ (c + 4) := fwA_far _ (by omega)
  rw [← e4, upR_self]
  simp only [fwA, upR_n _ _ (show (10 : Nat) ≠ c + 1 by omega), upR_n _ _ (show (7 : Nat) ≠ c + 1 by omega), upR_n _ _ (show (7 : Nat) ≠ c + 2 by omega), upR_n _ _ (show c + 2 ≠ c + 1 by omega), upR_n _ _ (show c + 3 ≠ c + 1 by omega), upR_n _ _ (show c + 3 ≠ c + 2 by omega)]

end CL
end
section
/-! ===== the reference: day by day ===== -/
theorem dX5_isCamp_0 : decode cX5_isCamp 0 = .ok (.iconst 0, 1) := by decide +kernel
theorem dX5_isCamp_1 : decode cX5_isCamp 1 = .ok (.istore_n 2, 1) := by decide +kernel
theorem dX5_isCamp_2 : decode cX5_isCamp 2 = .ok (.iload_n 2, 1) := by decide +kernel
theorem dX5_isCamp_3 : decode cX5_isCamp 3 = .ok (.aload_n 0, 1) := by decide +kernel
theorem dX5_isCamp_4 : decode cX5_isCamp 4 = .ok (.invokevirtual 86, 3) := by decide +kernel
theorem dX5_isCamp_7 : decode cX5_isCamp 7 = .ok (.if_icmp .ge 50, 3) := by decide +kernel
theorem dX5_isCamp_10 : decode cX5_isCamp 10 = .ok (.iload_n 2, 1) := by decide +kernel
theorem dX5_isCamp_11 : decode cX5_isCamp 11 = .ok (.aload_n 0, 1) := by decide +kernel
theorem dX5_isCamp_12 : decode cX5_isCamp 12 = .ok (.getfield 51, 3) := by decide +kernel
theorem dX5_isCamp_15 : decode cX5_isCamp 15 = .ok (.if_icmp .eq 36, 3) := by decide +kernel
theorem dX5_isCamp_18 : decode cX5_isCamp 18 = .ok (.iload_n 1, 1) := by decide +kernel
theorem dX5_isCamp_19 : decode cX5_isCamp 19 = .ok (.aload_n 0, 1) := by decide +kernel
theorem dX5_isCamp_20 : decode cX5_isCamp 20 = .ok (.getfield 7, 3) := by decide +kernel
theorem dX5_isCamp_23 : decode cX5_isCamp 23 = .ok (.bipush 15, 2) := by decide +kernel
theorem dX5_isCamp_25 : decode cX5_isCamp 25 = .ok (.iconst 2, 1) := by decide +kernel
theorem dX5_isCamp_26 : decode cX5_isCamp 26 = .ok (.iload_n 2, 1) := by decide +kernel
theorem dX5_isCamp_27 : decode cX5_isCamp 27 = .ok (.imul, 1) := by decide +kernel
theorem dX5_isCamp_28 : decode cX5_isCamp 28 = .ok (.iadd, 1) := by decide +kernel
theorem dX5_isCamp_29 : decode cX5_isCamp 29 = .ok (.iaload, 1) := by decide +kernel
theorem dX5_isCamp_30 : decode cX5_isCamp 30 = .ok (.aload_n 0, 1) := by decide +kernel
theorem dX5_isCamp_31 : decode cX5_isCamp 31 = .ok (.getfield 7, 3) := by decide +kernel
theorem dX5_isCamp_34 : decode cX5_isCamp 34 = .ok (.bipush 15, 2) := by decide +kernel
theorem dX5_isCamp_36 : decode cX5_isCamp 36 = .ok (.iconst 2, 1) := by decide +kernel
theorem dX5_isCamp_37 : decode cX5_isCamp 37 = .ok (.iload_n 2, 1) := by decide +kernel
theorem dX5_isCamp_38 : decode cX5_isCamp 38 = .ok (.imul, 1) := by decide +kernel
theorem dX5_isCamp_39 : decode cX5_isCamp 39 = .ok (.iadd, 1) := by decide +kernel
theorem dX5_isCamp_40 : decode cX5_isCamp 40 = .ok (.iconst 1, 1) := by decide +kernel
theorem dX5_isCamp_41 : decode cX5_isCamp 41 = .ok (.iadd, 1) := by decide +kernel
theorem dX5_isCamp_42 : decode cX5_isCamp 42 = .ok (.iaload, 1) := by decide +kernel
theorem dX5_isCamp_43 : decode cX5_isCamp 43 = .ok (.invokestatic 68, 3) := by decide +kernel
theorem dX5_isCamp_46 : decode cX5_isCamp 46 = .ok (.ifCond .eq 5, 3) := by decide +kernel
theorem dX5_isCamp_49 : decode cX5_isCamp 49 = .ok (.iconst 1, 1) := by decide +kernel
theorem dX5_isCamp_50 : decode cX5_isCamp 50 = .ok (.ireturn, 1) := by decide +kernel
theorem dX5_isCamp_51 : decode cX5_isCamp 51 = .ok (.iinc 2 1, 3) := by decide +kernel
theorem dX5_isCamp_54 : decode cX5_isCamp 54 = .ok (.goto (-52), 3) := by decide +kernel
theorem dX5_isCamp_57 : decode cX5_isCamp 57 = .ok (.iconst 0, 1) := by decide +kernel
theorem dX5_isCamp_58 : decode cX5_isCamp 58 = .ok (.ireturn, 1) := by decide +kernel
theorem dX5_acute_0 : decode cX5_acute 0 = .ok (.aload_n 0, 1) := by decide +kernel
theorem dX5_acute_1 : decode cX5_acute 1 = .ok (.getfield 41, 3) := by decide +kernel
theorem dX5_acute_4 : decode cX5_acute 4 = .ok (.iload_n 1, 1) := by decide +kernel
theorem dX5_acute_5 : decode cX5_acute 5 = .ok (.iconst 1, 1) := by decide +kernel
theorem dX5_acute_6 : decode cX5_acute 6 = .ok (.iadd, 1) := by decide +kernel
theorem dX5_acute_7 : decode cX5_acute 7 = .ok (.iaload, 1) := by decide +kernel
theorem dX5_acute_8 : decode cX5_acute 8 = .ok (.aload_n 0, 1) := by decide +kernel
theorem dX5_acute_9 : decode cX5_acute 9 = .ok (.getfield 41, 3) := by decide +kernel
theorem dX5_acute_12 : decode cX5_acute 12 = .ok (.iload_n 1, 1) := by decide +kernel
theorem dX5_acute_13 : decode cX5_acute 13 = .ok (.bipush 7, 2) := by decide +kernel
theorem dX5_acute_15 : decode cX5_acute 15 = .ok (.if_icmp .ge 7, 3) := by decide +kernel
theorem dX5_acute_18 : decode cX5_acute 18 = .ok (.iconst 0, 1) := by decide +kernel
theorem dX5_acute_19 : decode cX5_acute 19 = .ok (.goto 7, 3) := by decide +kernel
theorem dX5_acute_22 : decode cX5_acute 22 = .ok (.iload_n 1, 1) := by decide +kernel
theorem dX5_acute_23 : decode cX5_acute 23 = .ok (.bipush 6, 2) := by decide +kernel
theorem dX5_acute_25 : decode cX5_acute 25 = .ok (.isub, 1) := by decide +kernel
theorem dX5_acute_26 : decode cX5_acute 26 = .ok (.iaload, 1) := by decide +kernel
theorem dX5_acute_27 : decode cX5_acute 27 = .ok (.isub, 1) := by decide +kernel
theorem dX5_acute_28 : decode cX5_acute 28 = .ok (.ireturn, 1) := by decide +kernel
theorem dX5_chronic_0 : decode cX5_chronic 0 = .ok (.aload_n 0, 1) := by decide +kernel
theorem dX5_chronic_1 : decode cX5_chronic 1 = .ok (.getfield 41, 3) := by decide +kernel
theorem dX5_chronic_4 : decode cX5_chronic 4 = .ok (.iload_n 1, 1) := by decide +kernel
theorem dX5_chronic_5 : decode cX5_chronic 5 = .ok (.iconst 1, 1) := by decide +kernel
theorem dX5_chronic_6 : decode cX5_chronic 6 = .ok (.iadd, 1) := by decide +kernel
theorem dX5_chronic_7 : decode cX5_chronic 7 = .ok (.iaload, 1) := by decide +kernel
theorem dX5_chronic_8 : decode cX5_chronic 8 = .ok (.aload_n 0, 1) := by decide +kernel
theorem dX5_chronic_9 : decode cX5_chronic 9 = .ok (.getfield 41, 3) := by decide +kernel
theorem dX5_chronic_12 : decode cX5_chronic 12 = .ok (.iload_n 1, 1) := by decide +kernel
theorem dX5_chronic_13 : decode cX5_chronic 13 = .ok (.bipush 28, 2) := by decide +kernel
theorem dX5_chronic_15 : decode cX5_chronic 15 = .ok (.if_icmp .ge 7, 3) := by decide +kernel
theorem dX5_chronic_18 : decode cX5_chronic 18 = .ok (.iconst 0, 1) := by decide +kernel
theorem dX5_chronic_19 : decode cX5_chronic 19 = .ok (.goto 7, 3) := by decide +kernel
theorem dX5_chronic_22 : decode cX5_chronic 22 = .ok (.iload_n 1, 1) := by decide +kernel
theorem dX5_chronic_23 : decode cX5_chronic 23 = .ok (.bipush 27, 2) := by decide +kernel
theorem dX5_chronic_25 : decode cX5_chronic 25 = .ok (.isub, 1) := by decide +kernel
theorem dX5_chronic_26 : decode cX5_chronic 26 = .ok (.iaload, 1) := by decide +kernel
theorem dX5_chronic_27 : decode cX5_chronic 27 = .ok (.isub, 1) := by decide +kernel
theorem dX5_chronic_28 : decode cX5_chronic 28 = .ok (.ireturn, 1) := by decide +kernel
theorem dX5_goes_0 : decode cX5_goes 0 = .ok (.aload_n 0, 1) := by decide +kernel
theorem dX5_goes_1 : decode cX5_goes 1 = .ok (.getfield 7, 3) := by decide +kernel
theorem dX5_goes_4 : decode cX5_goes 4 = .ok (.bipush 24, 2) := by decide +kernel
theorem dX5_goes_6 : decode cX5_goes 6 = .ok (.iconst 2, 1) := by decide +kernel
theorem dX5_goes_7 : decode cX5_goes 7 = .ok (.iload_n 1, 1) := by decide +kernel
theorem dX5_goes_8 : decode cX5_goes 8 = .ok (.imul, 1) := by decide +kernel
theorem dX5_goes_9 : decode cX5_goes 9 = .ok (.iadd, 1) := by decide +kernel
theorem dX5_goes_10 : decode cX5_goes 10 = .ok (.iaload, 1) := by decide +kernel
theorem dX5_goes_11 : decode cX5_goes 11 = .ok (.istore_n 3, 1) := by decide +kernel
theorem dX5_goes_12 : decode cX5_goes 12 = .ok (.aload_n 0, 1) := by decide +kernel
theorem dX5_goes_13 : decode cX5_goes 13 = .ok (.getfield 7, 3) := by decide +kernel
theorem dX5_goes_16 : decode cX5_goes 16 = .ok (.bipush 24, 2) := by decide +kernel
theorem dX5_goes_18 : decode cX5_goes 18 = .ok (.iconst 2, 1) := by decide +kernel
theorem dX5_goes_19 : decode cX5_goes 19 = .ok (.iload_n 1, 1) := by decide +kernel
theorem dX5_goes_20 : decode cX5_goes 20 = .ok (.imul, 1) := by decide +kernel
theorem dX5_goes_21 : decode cX5_goes 21 = .ok (.iadd, 1) := by decide +kernel
theorem dX5_goes_22 : decode cX5_goes 22 = .ok (.iconst 1, 1) := by decide +kernel
theorem dX5_goes_23 : decode cX5_goes 23 = .ok (.iadd, 1) := by decide +kernel
theorem dX5_goes_24 : decode cX5_goes 24 = .ok (.iaload, 1) := by decide +kernel
theorem dX5_goes_25 : decode cX5_goes 25 = .ok (.istore 4, 2) := by decide +kernel
theorem dX5_goes_27 : decode cX5_goes 27 = .ok (.iconst (-1), 1) := by decide +kernel
theorem dX5_goes_28 : decode cX5_goes 28 = .ok (.istore 5, 2) := by decide +kernel
theorem dX5_goes_30 : decode cX5_goes 30 = .ok (.iconst 0, 1) := by decide +kernel
theorem dX5_goes_31 : decode cX5_goes 31 = .ok (.istore 6, 2) := by decide +kernel
theorem dX5_goes_33 : decode cX5_goes 33 = .ok (.iload 6, 2) := by decide +kernel
theorem dX5_goes_35 : decode cX5_goes 35 = .ok (.iload_n 2, 1) := by decide +kernel
theorem dX5_goes_36 : decode cX5_goes 36 = .ok (.if_icmp .gt 317, 3) := by decide +kernel
theorem dX5_goes_39 : decode cX5_goes 39 = .ok (.aload_n 0, 1) := by decide +kernel
theorem dX5_goes_40 : decode cX5_goes 40 = .ok (.getfield 44, 3) := by decide +kernel
theorem dX5_goes_43 : decode cX5_goes 43 = .ok (.iload 6, 2) := by decide +kernel
theorem dX5_goes_45 : decode cX5_goes 45 = .ok (.iload 6, 2) := by decide +kernel
theorem dX5_goes_47 : decode cX5_goes 47 = .ok (.iload 5, 2) := by decide +kernel
theorem dX5_goes_49 : decode cX5_goes 49 = .ok (.if_icmp .gt 7, 3) := by decide +kernel
theorem dX5_goes_52 : decode cX5_goes 52 = .ok (.iconst 1, 1) := by decide +kernel
theorem dX5_goes_53 : decode cX5_goes 53 = .ok (.goto 4, 3) := by decide +kernel
theorem dX5_goes_56 : decode cX5_goes 56 = .ok (.iconst 0, 1) := by decide +kernel
theorem dX5_goes_57 : decode cX5_goes 57 = .ok (.bastore, 1) := by decide +kernel
theorem dX5_goes_58 : decode cX5_goes 58 = .ok (.iload 6, 2) := by decide +kernel
theorem dX5_goes_60 : decode cX5_goes 60 = .ok (.aload_n 0, 1) := by decide +kernel
theorem dX5_goes_61 : decode cX5_goes 61 = .ok (.getfield 55, 3) := by decide +kernel
theorem dX5_goes_64 : decode cX5_goes 64 = .ok (.if_icmp .ne 10, 3) := by decide +kernel
theorem dX5_goes_67 : decode cX5_goes 67 = .ok (.aload_n 0, 1) := by decide +kernel
theorem dX5_goes_68 : decode cX5_goes 68 = .ok (.getfield 182, 3) := by decide +kernel
theorem dX5_goes_71 : decode cX5_goes 71 = .ok (.goto 17, 3) := by decide +kernel
theorem dX5_goes_74 : decode cX5_goes 74 = .ok (.aload_n 0, 1) := by decide +kernel
theorem dX5_goes_75 : decode cX5_goes 75 = .ok (.getfield 7, 3) := by decide +kernel
theorem dX5_goes_78 : decode cX5_goes 78 = .ok (.iconst 0, 1) := by decide +kernel
theorem dX5_goes_79 : decode cX5_goes 79 = .ok (.aload_n 0, 1) := by decide +kernel
theorem dX5_goes_80 : decode cX5_goes 80 = .ok (.iload_n 1, 1) := by decide +kernel
theorem dX5_goes_81 : decode cX5_goes 81 = .ok (.iload 6, 2) := by decide +kernel
theorem dX5_goes_83 : decode cX5_goes 83 = .ok (.invokevirtual 113, 3) := by decide +kernel
theorem dX5_goes_86 : decode cX5_goes 86 = .ok (.iadd, 1) := by decide +kernel
theorem dX5_goes_87 : decode cX5_goes 87 = .ok (.iaload, 1) := by decide +kernel
theorem dX5_goes_88 : decode cX5_goes 88 = .ok (.istore 7, 2) := by decide +kernel
theorem dX5_goes_90 : decode cX5_goes 90 = .ok (.aload_n 0, 1) := by decide +kernel
theorem dX5_goes_91 : decode cX5_goes 91 = .ok (.iload 6, 2) := by decide +kernel
theorem dX5_goes_93 : decode cX5_goes 93 = .ok (.invokevirtual 185, 3) := by decide +kernel
theorem dX5_goes_96 : decode cX5_goes 96 = .ok (.ifCond .eq 18, 3) := by decide +kernel
theorem dX5_goes_99 : decode cX5_goes 99 = .ok (.iload 7, 2) := by decide +kernel
theorem dX5_goes_101 : decode cX5_goes 101 = .ok (.aload_n 0, 1) := by decide +kernel
theorem dX5_goes_102 : decode cX5_goes 102 = .ok (.bipush 7, 2) := by decide +kernel
theorem dX5_goes_104 : decode cX5_goes 104 = .ok (.invokevirtual 99, 3) := by decide +kernel
theorem dX5_goes_107 : decode cX5_goes 107 = .ok (.imul, 1) := by decide +kernel
theorem dX5_goes_108 : decode cX5_goes 108 = .ok (.bipush 100, 2) := by decide +kernel
theorem dX5_goes_110 : decode cX5_goes 110 = .ok (.idiv, 1) := by decide +kernel
theorem dX5_goes_111 : decode cX5_goes 111 = .ok (.goto 5, 3) := by decide +kernel
theorem dX5_goes_114 : decode cX5_goes 114 = .ok (.iload 7, 2) := by decide +kernel
theorem dX5_goes_116 : decode cX5_goes 116 = .ok (.istore 7, 2) := by decide +kernel
theorem dX5_goes_118 : decode cX5_goes 118 = .ok (.aload_n 0, 1) := by decide +kernel
theorem dX5_goes_119 : decode cX5_goes 119 = .ok (.bipush 6, 2) := by decide +kernel
theorem dX5_goes_121 : decode cX5_goes 121 = .ok (.invokevirtual 99, 3) := by decide +kernel
theorem dX5_goes_124 : decode cX5_goes 124 = .ok (.aload_n 0, 1) := by decide +kernel
theorem dX5_goes_125 : decode cX5_goes 125 = .ok (.getfield 41, 3) := by decide +kernel
theorem dX5_goes_128 : decode cX5_goes 128 = .ok (.iload 6, 2) := by decide +kernel
theorem dX5_goes_130 : decode cX5_goes 130 = .ok (.iaload, 1) := by decide +kernel
theorem dX5_goes_131 : decode cX5_goes 131 = .ok (.aload_n 0, 1) := by decide +kernel
theorem dX5_goes_132 : decode cX5_goes 132 = .ok (.getfield 41, 3) := by decide +kernel
theorem dX5_goes_135 : decode cX5_goes 135 = .ok (.iload 6, 2) := by decide +kernel
theorem dX5_goes_137 : decode cX5_goes 137 = .ok (.bipush 7, 2) := by decide +kernel
theorem dX5_goes_139 : decode cX5_goes 139 = .ok (.idiv, 1) := by decide +kernel
theorem dX5_goes_140 : decode cX5_goes 140 = .ok (.bipush 7, 2) := by decide +kernel
theorem dX5_goes_142 : decode cX5_goes 142 = .ok (.imul, 1) := by decide +kernel
theorem dX5_goes_143 : decode cX5_goes 143 = .ok (.iaload, 1) := by decide +kernel
theorem dX5_goes_144 : decode cX5_goes 144 = .ok (.isub, 1) := by decide +kernel
theorem dX5_goes_145 : decode cX5_goes 145 = .ok (.isub, 1) := by decide +kernel
theorem dX5_goes_146 : decode cX5_goes 146 = .ok (.istore 8, 2) := by decide +kernel
theorem dX5_goes_148 : decode cX5_goes 148 = .ok (.iload 7, 2) := by decide +kernel
theorem dX5_goes_150 : decode cX5_goes 150 = .ok (.iload 8, 2) := by decide +kernel
theorem dX5_goes_152 : decode cX5_goes 152 = .ok (.if_icmp .le 8, 3) := by decide +kernel
theorem dX5_goes_155 : decode cX5_goes 155 = .ok (.iload 8, 2) := by decide +kernel
theorem dX5_goes_157 : decode cX5_goes 157 = .ok (.goto 5, 3) := by decide +kernel
theorem dX5_goes_160 : decode cX5_goes 160 = .ok (.iload 7, 2) := by decide +kernel
theorem dX5_goes_162 : decode cX5_goes 162 = .ok (.istore 7, 2) := by decide +kernel
theorem dX5_goes_164 : decode cX5_goes 164 = .ok (.aload_n 0, 1) := by decide +kernel
theorem dX5_goes_165 : decode cX5_goes 165 = .ok (.getfield 32, 3) := by decide +kernel
theorem dX5_goes_168 : decode cX5_goes 168 = .ok (.iload 6, 2) := by decide +kernel
theorem dX5_goes_170 : decode cX5_goes 170 = .ok (.aload_n 0, 1) := by decide +kernel
theorem dX5_goes_171 : decode cX5_goes 171 = .ok (.getfield 44, 3) := by decide +kernel
theorem dX5_goes_174 : decode cX5_goes 174 = .ok (.iload 6, 2) := by decide +kernel
theorem dX5_goes_176 : decode cX5_goes 176 = .ok (.baload, 1) := by decide +kernel
theorem dX5_goes_177 : decode cX5_goes 177 = .ok (.ifCond .eq 7, 3) := by decide +kernel
theorem dX5_goes_180 : decode cX5_goes 180 = .ok (.iconst 0, 1) := by decide +kernel
theorem dX5_goes_181 : decode cX5_goes 181 = .ok (.goto 5, 3) := by decide +kernel
theorem dX5_goes_184 : decode cX5_goes 184 = .ok (.iload 7, 2) := by decide +kernel
theorem dX5_goes_186 : decode cX5_goes 186 = .ok (.iastore, 1) := by decide +kernel
theorem dX5_goes_187 : decode cX5_goes 187 = .ok (.aload_n 0, 1) := by decide +kernel
theorem dX5_goes_188 : decode cX5_goes 188 = .ok (.getfield 41, 3) := by decide +kernel
theorem dX5_goes_191 : decode cX5_goes 191 = .ok (.iload 6, 2) := by decide +kernel
theorem dX5_goes_193 : decode cX5_goes 193 = .ok (.iconst 1, 1) := by decide +kernel
theorem dX5_goes_194 : decode cX5_goes 194 = .ok (.iadd, 1) := by decide +kernel
theorem dX5_goes_195 : decode cX5_goes 195 = .ok (.aload_n 0, 1) := by decide +kernel
theorem dX5_goes_196 : decode cX5_goes 196 = .ok (.getfield 41, 3) := by decide +kernel
theorem dX5_goes_199 : decode cX5_goes 199 = .ok (.iload 6, 2) := by decide +kernel
theorem dX5_goes_201 : decode cX5_goes 201 = .ok (.iaload, 1) := by decide +kernel
theorem dX5_goes_202 : decode cX5_goes 202 = .ok (.aload_n 0, 1) := by decide +kernel
theorem dX5_goes_203 : decode cX5_goes 203 = .ok (.getfield 32, 3) := by decide +kernel
theorem dX5_goes_206 : decode cX5_goes 206 = .ok (.iload 6, 2) := by decide +kernel
theorem dX5_goes_208 : decode cX5_goes 208 = .ok (.iaload, 1) := by decide +kernel
theorem dX5_goes_209 : decode cX5_goes 209 = .ok (.iadd, 1) := by decide +kernel
theorem dX5_goes_210 : decode cX5_goes 210 = .ok (.iastore, 1) := by decide +kernel
theorem dX5_goes_211 : decode cX5_goes 211 = .ok (.iload_n 3, 1) := by decide +kernel
theorem dX5_goes_212 : decode cX5_goes 212 = .ok (.bipush 10, 2) := by decide +kernel
theorem dX5_goes_214 : decode cX5_goes 214 = .ok (.aload_n 0, 1) := by decide +kernel
theorem dX5_goes_215 : decode cX5_goes 215 = .ok (.getfield 32, 3) := by decide +kernel
theorem dX5_goes_218 : decode cX5_goes 218 = .ok (.iload 6, 2) := by decide +kernel
theorem dX5_goes_220 : decode cX5_goes 220 = .ok (.iaload, 1) := by decide +kernel
theorem dX5_goes_221 : decode cX5_goes 221 = .ok (.imul, 1) := by decide +kernel
theorem dX5_goes_222 : decode cX5_goes 222 = .ok (.iload_n 3, 1) := by decide +kernel
theorem dX5_goes_223 : decode cX5_goes 223 = .ok (.aload_n 0, 1) := by decide +kernel
theorem dX5_goes_224 : decode cX5_goes 224 = .ok (.iconst 0, 1) := by decide +kernel
theorem dX5_goes_225 : decode cX5_goes 225 = .ok (.invokevirtual 99, 3) := by decide +kernel
theorem dX5_goes_228 : decode cX5_goes 228 = .ok (.idiv, 1) := by decide +kernel
theorem dX5_goes_229 : decode cX5_goes 229 = .ok (.isub, 1) := by decide +kernel
theorem dX5_goes_230 : decode cX5_goes 230 = .ok (.iadd, 1) := by decide +kernel
theorem dX5_goes_231 : decode cX5_goes 231 = .ok (.istore_n 3, 1) := by decide +kernel
theorem dX5_goes_232 : decode cX5_goes 232 = .ok (.iload 4, 2) := by decide +kernel
theorem dX5_goes_234 : decode cX5_goes 234 = .ok (.bipush 10, 2) := by decide +kernel
theorem dX5_goes_236 : decode cX5_goes 236 = .ok (.aload_n 0, 1) := by decide +kernel
theorem dX5_goes_237 : decode cX5_goes 237 = .ok (.getfield 32, 3) := by decide +kernel
theorem dX5_goes_240 : decode cX5_goes 240 = .ok (.iload 6, 2) := by decide +kernel
theorem dX5_goes_242 : decode cX5_goes 242 = .ok (.iaload, 1) := by decide +kernel
theorem dX5_goes_243 : decode cX5_goes 243 = .ok (.imul, 1) := by decide +kernel
theorem dX5_goes_244 : decode cX5_goes 244 = .ok (.iload 4, 2) := by decide +kernel
theorem dX5_goes_246 : decode cX5_goes 246 = .ok (.aload_n 0, 1) := by decide +kernel
theorem dX5_goes_247 : decode cX5_goes 247 = .ok (.iconst 1, 1) := by decide +kernel
theorem dX5_goes_248 : decode cX5_goes 248 = .ok (.invokevirtual 99, 3) := by decide +kernel
theorem dX5_goes_251 : decode cX5_goes 251 = .ok (.idiv, 1) := by decide +kernel
theorem dX5_goes_252 : decode cX5_goes 252 = .ok (.isub, 1) := by decide +kernel
theorem dX5_goes_253 : decode cX5_goes 253 = .ok (.iadd, 1) := by decide +kernel
theorem dX5_goes_254 : decode cX5_goes 254 = .ok (.istore 4, 2) := by decide +kernel
theorem dX5_goes_256 : decode cX5_goes 256 = .ok (.aload_n 0, 1) := by decide +kernel
theorem dX5_goes_257 : decode cX5_goes 257 = .ok (.getfield 35, 3) := by decide +kernel
theorem dX5_goes_260 : decode cX5_goes 260 = .ok (.iload 6, 2) := by decide +kernel
theorem dX5_goes_262 : decode cX5_goes 262 = .ok (.iload_n 3, 1) := by decide +kernel
theorem dX5_goes_263 : decode cX5_goes 263 = .ok (.iastore, 1) := by decide +kernel
theorem dX5_goes_264 : decode cX5_goes 264 = .ok (.aload_n 0, 1) := by decide +kernel
theorem dX5_goes_265 : decode cX5_goes 265 = .ok (.getfield 38, 3) := by decide +kernel
theorem dX5_goes_268 : decode cX5_goes 268 = .ok (.iload 6, 2) := by decide +kernel
theorem dX5_goes_270 : decode cX5_goes 270 = .ok (.iload 4, 2) := by decide +kernel
theorem dX5_goes_272 : decode cX5_goes 272 = .ok (.iastore, 1) := by decide +kernel
theorem dX5_goes_273 : decode cX5_goes 273 = .ok (.aload_n 0, 1) := by decide +kernel
theorem dX5_goes_274 : decode cX5_goes 274 = .ok (.getfield 48, 3) := by decide +kernel
theorem dX5_goes_277 : decode cX5_goes 277 = .ok (.iload 6, 2) := by decide +kernel
theorem dX5_goes_279 : decode cX5_goes 279 = .ok (.iload 6, 2) := by decide +kernel
theorem dX5_goes_281 : decode cX5_goes 281 = .ok (.bipush 20, 2) := by decide +kernel
theorem dX5_goes_283 : decode cX5_goes 283 = .ok (.if_icmp .lt 42, 3) := by decide +kernel
theorem dX5_goes_286 : decode cX5_goes 286 = .ok (.aload_n 0, 1) := by decide +kernel
theorem dX5_goes_287 : decode cX5_goes 287 = .ok (.getfield 44, 3) := by decide +kernel
theorem dX5_goes_290 : decode cX5_goes 290 = .ok (.iload 6, 2) := by decide +kernel
theorem dX5_goes_292 : decode cX5_goes 292 = .ok (.baload, 1) := by decide +kernel
theorem dX5_goes_293 : decode cX5_goes 293 = .ok (.ifCond .ne 32, 3) := by decide +kernel
theorem dX5_goes_296 : decode cX5_goes 296 = .ok (.aload_n 0, 1) := by decide +kernel
theorem dX5_goes_297 : decode cX5_goes 297 = .ok (.iload 6, 2) := by decide +kernel
theorem dX5_goes_299 : decode cX5_goes 299 = .ok (.invokevirtual 188, 3) := by decide +kernel
theorem dX5_goes_302 : decode cX5_goes 302 = .ok (.sipush 400, 3) := by decide +kernel
theorem dX5_goes_305 : decode cX5_goes 305 = .ok (.imul, 1) := by decide +kernel
theorem dX5_goes_306 : decode cX5_goes 306 = .ok (.aload_n 0, 1) := by decide +kernel
theorem dX5_goes_307 : decode cX5_goes 307 = .ok (.iconst 4, 1) := by decide +kernel
theorem dX5_goes_308 : decode cX5_goes 308 = .ok (.invokevirtual 99, 3) := by decide +kernel
theorem dX5_goes_311 : decode cX5_goes 311 = .ok (.aload_n 0, 1) := by decide +kernel
theorem dX5_goes_312 : decode cX5_goes 312 = .ok (.iload 6, 2) := by decide +kernel
theorem dX5_goes_314 : decode cX5_goes 314 = .ok (.invokevirtual 191, 3) := by decide +kernel
theorem dX5_goes_317 : decode cX5_goes 317 = .ok (.imul, 1) := by decide +kernel
theorem dX5_goes_318 : decode cX5_goes 318 = .ok (.if_icmp .le 7, 3) := by decide +kernel
theorem dX5_goes_321 : decode cX5_goes 321 = .ok (.iconst 1, 1) := by decide +kernel
theorem dX5_goes_322 : decode cX5_goes 322 = .ok (.goto 4, 3) := by decide +kernel
theorem dX5_goes_325 : decode cX5_goes 325 = .ok (.iconst 0, 1) := by decide +kernel
theorem dX5_goes_326 : decode cX5_goes 326 = .ok (.bastore, 1) := by decide +kernel
theorem dX5_goes_327 : decode cX5_goes 327 = .ok (.aload_n 0, 1) := by decide +kernel
theorem dX5_goes_328 : decode cX5_goes 328 = .ok (.getfield 48, 3) := by decide +kernel
theorem dX5_goes_331 : decode cX5_goes 331 = .ok (.iload 6, 2) := by decide +kernel
theorem dX5_goes_333 : decode cX5_goes 333 = .ok (.baload, 1) := by decide +kernel
theorem dX5_goes_334 : decode cX5_goes 334 = .ok (.ifCond .eq 13, 3) := by decide +kernel
theorem dX5_goes_337 : decode cX5_goes 337 = .ok (.iload 6, 2) := by decide +kernel
theorem dX5_goes_339 : decode cX5_goes 339 = .ok (.aload_n 0, 1) := by decide +kernel
theorem dX5_goes_340 : decode cX5_goes 340 = .ok (.iconst 5, 1) := by decide +kernel
theorem dX5_goes_341 : decode cX5_goes 341 = .ok (.invokevirtual 99, 3) := by decide +kernel
theorem dX5_goes_344 : decode cX5_goes 344 = .ok (.iadd, 1) := by decide +kernel
theorem dX5_goes_345 : decode cX5_goes 345 = .ok (.istore 5, 2) := by decide +kernel
theorem dX5_goes_347 : decode cX5_goes 347 = .ok (.iinc 6 1, 3) := by decide +kernel
theorem dX5_goes_350 : decode cX5_goes 350 = .ok (.goto (-317), 3) := by decide +kernel
theorem dX5_goes_353 : decode cX5_goes 353 = .ok (.return_, 1) := by decide +kernel
theorem dX5_formAt_0 : decode cX5_formAt 0 = .ok (.aload_n 0, 1) := by decide +kernel
theorem dX5_formAt_1 : decode cX5_formAt 1 = .ok (.iconst 2, 1) := by decide +kernel
theorem dX5_formAt_2 : decode cX5_formAt 2 = .ok (.invokevirtual 99, 3) := by decide +kernel
theorem dX5_formAt_5 : decode cX5_formAt 5 = .ok (.aload_n 0, 1) := by decide +kernel
theorem dX5_formAt_6 : decode cX5_formAt 6 = .ok (.getfield 35, 3) := by decide +kernel
theorem dX5_formAt_9 : decode cX5_formAt 9 = .ok (.iload_n 1, 1) := by decide +kernel
theorem dX5_formAt_10 : decode cX5_formAt 10 = .ok (.iaload, 1) := by decide +kernel
theorem dX5_formAt_11 : decode cX5_formAt 11 = .ok (.imul, 1) := by decide +kernel
theorem dX5_formAt_12 : decode cX5_formAt 12 = .ok (.aload_n 0, 1) := by decide +kernel
theorem dX5_formAt_13 : decode cX5_formAt 13 = .ok (.iconst 3, 1) := by decide +kernel
theorem dX5_formAt_14 : decode cX5_formAt 14 = .ok (.invokevirtual 99, 3) := by decide +kernel
theorem dX5_formAt_17 : decode cX5_formAt 17 = .ok (.aload_n 0, 1) := by decide +kernel
theorem dX5_formAt_18 : decode cX5_formAt 18 = .ok (.getfield 38, 3) := by decide +kernel
theorem dX5_formAt_21 : decode cX5_formAt 21 = .ok (.iload_n 1, 1) := by decide +kernel
theorem dX5_formAt_22 : decode cX5_formAt 22 = .ok (.iaload, 1) := by decide +kernel
theorem dX5_formAt_23 : decode cX5_formAt 23 = .ok (.imul, 1) := by decide +kernel
theorem dX5_formAt_24 : decode cX5_formAt 24 = .ok (.isub, 1) := by decide +kernel
theorem dX5_formAt_25 : decode cX5_formAt 25 = .ok (.ireturn, 1) := by decide +kernel
theorem dX5_formOf_0 : decode cX5_formOf 0 = .ok (.aload_n 0, 1) := by decide +kernel
theorem dX5_formOf_1 : decode cX5_formOf 1 = .ok (.iload_n 1, 1) := by decide +kernel
theorem dX5_formOf_2 : decode cX5_formOf 2 = .ok (.iload_n 2, 1) := by decide +kernel
theorem dX5_formOf_3 : decode cX5_formOf 3 = .ok (.invokevirtual 194, 3) := by decide +kernel
theorem dX5_formOf_6 : decode cX5_formOf 6 = .ok (.aload_n 0, 1) := by decide +kernel
theorem dX5_formOf_7 : decode cX5_formOf 7 = .ok (.iload_n 2, 1) := by decide +kernel
theorem dX5_formOf_8 : decode cX5_formOf 8 = .ok (.invokevirtual 197, 3) := by decide +kernel
theorem dX5_formOf_11 : decode cX5_formOf 11 = .ok (.ireturn, 1) := by decide +kernel

theorem add_sub_sw (f a b : Int32) : f + (a - b) = (f - b) + a := by
  rw [Int32.sub_eq_add_neg, Int32.sub_eq_add_neg, Int32.add_comm a (-b), Int32.add_assoc]
section MG
variable {G : mG} {d : Nat} {σ : mS}
theorem v_isCamp {k nc : Nat} (hk : k < 70) (hn : σ 117 14 = nI nc) (h4 : nc ≤ 4) : mV G mX5_isCamp (d + 1) [.ref 116, .int (nI k)] σ (some (.int (bI (cfN (fun i => σ 117 (15 + 2 * i)) (fun i => σ 117 (15 + 2 * i + 1)) (σ 116 23) k nc)))) σ := by
  refine mV_of fun Q hQ => ?_
  have mono : ∀ a b, a ≤ b → (cfN (fun i => σ 117 (15 + 2 * i)) (fun i => σ 117 (15 + 2 * i + 1)) (σ 116 23) k a) = true → (cfN (fun i => σ 117 (15 + 2 * i)) (fun i => σ 117 (15 + 2 * i + 1)) (σ 116 23) k b) = true := by
    intro a b hab h
    induction b with
    | zero =>
      have : a = 0 := by omega
      subst this
      exact h
    | succ b ih =>
      by_cases hb : a = b + 1
      · subst hb; exact h
      · simp only [cfN]
        rw [ih (by omega)]
        rfl
  have hl : ∀ c, c ≤ nc → (cfN (fun i => σ 117 (15 + 2 * i)) (fun i => σ 117 (15 + 2 * i + 1)) (σ 116 23) k c) = false → mF G mX5_isCamp (d + 1) 2 [some (.ref 116), some (.int (nI k)), some (.int (nI c))] [] σ Q := by
    refine loopUp nc (fun c hc ih hf => ?_)
    refine F_iload_n dX5_isCamp_2 rfl ?_
    refine F_aload_n dX5_isCamp_3 rfl ?_
    refine F_cV0i (v_camps (d := d)) dX5_isCamp_4 rfl rfl (by decide) (by first | assumption | rfl) rfl rfl rfl (by decide) (Nat.le_of_ble_eq_true rfl) (by omega) ?_
    refine F_top hn ?_
    refine F_icmp_geN (tgt := 57) dX5_isCamp_7 rfl (by omega) (by omega) (fun c7 => ?_) (fun c7 => ?_)
    · refine F_iconst (v := nI 0) dX5_isCamp_57 rfl ?_
      refine F_zret dX5_isCamp_58 rfl (by first | exact Or.inl rfl | exact Or.inr rfl | exact bI_01 _) ?_
      have e1 : c = nc := by omega
      subst e1
      exact Qb0 hQ hf
    · refine F_iload_n dX5_isCamp_10 rfl ?_
      refine F_aload_n dX5_isCamp_11 rfl ?_
      refine F_geti dX5_isCamp_12 rfl rfl (by first | assumption | rfl) rfl ?_
      refine F_icmp_eq (tgt := 51) dX5_isCamp_15 rfl (fun c15 => ?_) (fun c15 => ?_)
      · refine F_iincN dX5_isCamp_51 rfl ?_
        refine F_goto (tgt := 2) dX5_isCamp_54 rfl ?_
        refine ih (by omega) ?_
        simp only [cfN]
        first
          | (simp only [inR] at c46
             rw [hf, c46, Bool.and_false]
             rfl)
          | (rw [hf, decide_eq_true c15]
             rfl)
      · refine F_iload_n dX5_isCamp_18 rfl ?_
        refine F_aload_n dX5_isCamp_19 rfl ?_
        refine F_getr dX5_isCamp_20 rfl rfl (by first | assumption | rfl) rfl ?_
        refine F_bipush (v := nI 15) dX5_isCamp_23 rfl ?_
        refine F_iconst (v := nI 2) dX5_isCamp_25 rfl ?_
        refine F_iload_n dX5_isCamp_26 rfl ?_
        refine F_imulN dX5_isCamp_27 ?_
        refine F_iaddN dX5_isCamp_28 ?_
        refine F_iald dX5_isCamp_29 (by first | assumption | rfl) (by decide) (by omega) ?_
        refine F_aload_n dX5_isCamp_30 rfl ?_
        refine F_getr dX5_isCamp_31 rfl rfl (by first | assumption | rfl) rfl ?_
        refine F_bipush (v := nI 15) dX5_isCamp_34 rfl ?_
        refine F_iconst (v := nI 2) dX5_isCamp_36 rfl ?_
        refine F_iload_n dX5_isCamp_37 rfl ?_
        refine F_imulN dX5_isCamp_38 ?_
        refine F_iaddN dX5_isCamp_39 ?_
        refine F_iconst (v := nI 1) dX5_isCamp_40 rfl ?_
        refine F_iaddN dX5_isCamp_41 ?_
        refine F_iald dX5_isCamp_42 (by first | assumption | rfl) (by decide) (by omega) ?_
        refine F_cS3i (v_isIn (d := d) _ _ _) dX5_isCamp_43 rfl rfl rfl (by decide) (Nat.le_of_ble_eq_true rfl) (by omega) ?_
        refine F_if_eqB (tgt := 51) dX5_isCamp_46 rfl (fun c46 => ?_) (fun c46 => ?_)
        · refine F_iincN dX5_isCamp_51 rfl ?_
          refine F_goto (tgt := 2) dX5_isCamp_54 rfl ?_
          refine ih (by omega) ?_
          simp only [cfN]
          first
            | (simp only [inR] at c46
               rw [hf, c46, Bool.and_false]
               rfl)
            | (rw [hf, decide_eq_true c15]
               rfl)
        · refine F_iconst (v := nI 1) dX5_isCamp_49 rfl ?_
          refine F_zret dX5_isCamp_50 rfl (by first | exact Or.inl rfl | exact Or.inr rfl | exact bI_01 _) ?_
          refine Qb1 hQ (mono (c + 1) nc (by omega) ?_)
          simp only [cfN]
          simp only [inR] at c46
          rw [hf, decide_eq_false c15, c46]
          rfl
  refine F_iconst (v := nI 0) dX5_isCamp_0 rfl ?_
  refine F_istore_n dX5_isCamp_1 (Nat.le_of_ble_eq_true rfl) ?_
  exact hl 0 (Nat.zero_le nc) rfl

theorem v_macute {n : Nat} (hn : n < 70) : mV G mX5_acute d [.ref 116, .int (nI n)] σ (some (.int (σ 127 (n + 1) - σ 127 (n + 1 - 7)))) σ := by
  refine mV_of fun Q hQ => ?_
  refine F_aload_n dX5_acute_0 rfl ?_
  refine F_getr dX5_acute_1 rfl rfl (by first | assumption | rfl) rfl ?_
  refine F_iload_n dX5_acute_4 rfl ?_
  refine F_iconst (v := nI 1) dX5_acute_5 rfl ?_
  refine F_iaddN dX5_acute_6 ?_
  refine F_iald dX5_acute_7 (by first | assumption | rfl) (by decide) (by omega) ?_
  refine F_aload_n dX5_acute_8 rfl ?_
  refine F_getr dX5_acute_9 rfl rfl (by first | assumption | rfl) rfl ?_
  refine F_iload_n dX5_acute_12 rfl ?_
  refine F_bipush (v := nI 7) dX5_acute_13 rfl ?_
  refine F_icmp_geN (tgt := 22) dX5_acute_15 rfl (by omega) (by omega) (fun c15 => ?_) (fun c15 => ?_)
  · refine F_iload_n dX5_acute_22 rfl ?_
    refine F_bipush (v := nI 6) dX5_acute_23 rfl ?_
    refine F_isubN dX5_acute_25 (by omega) ?_
    refine F_iald dX5_acute_26 (by first | assumption | rfl) (by decide) (by omega) ?_
    refine F_isub dX5_acute_27 ?_
    refine F_iret dX5_acute_28 rfl ?_
    first | (rw [show n + 1 - 7 = 0 by omega] at hQ; exact hQ) | (rw [show n + 1 - 7 = n - 6 by omega] at hQ; exact hQ)
  · refine F_iconst (v := nI 0) dX5_acute_18 rfl ?_
    refine F_goto (tgt := 26) dX5_acute_19 rfl ?_
    refine F_iald dX5_acute_26 (by first | assumption | rfl) (by decide) (by omega) ?_
    refine F_isub dX5_acute_27 ?_
    refine F_iret dX5_acute_28 rfl ?_
    first | (rw [show n + 1 - 7 = 0 by omega] at hQ; exact hQ) | (rw [show n + 1 - 7 = n - 6 by omega] at hQ; exact hQ)

theorem v_mchronic {n : Nat} (hn : n < 70) : mV G mX5_chronic d [.ref 116, .int (nI n)] σ (some (.int (σ 127 (n + 1) - σ 127 (n + 1 - 28)))) σ := by
  refine mV_of fun Q hQ => ?_
  refine F_aload_n dX5_chronic_0 rfl ?_
  refine F_getr dX5_chronic_1 rfl rfl (by first | assumption | rfl) rfl ?_
  refine F_iload_n dX5_chronic_4 rfl ?_
  refine F_iconst (v := nI 1) dX5_chronic_5 rfl ?_
  refine F_iaddN dX5_chronic_6 ?_
  refine F_iald dX5_chronic_7 (by first | assumption | rfl) (by decide) (by omega) ?_
  refine F_aload_n dX5_chronic_8 rfl ?_
  refine F_getr dX5_chronic_9 rfl rfl (by first | assumption | rfl) rfl ?_
  refine F_iload_n dX5_chronic_12 rfl ?_
  refine F_bipush (v := nI 28) dX5_chronic_13 rfl ?_
  refine F_icmp_geN (tgt := 22) dX5_chronic_15 rfl (by omega) (by omega) (fun c15 => ?_) (fun c15 => ?_)
  · refine F_iload_n dX5_chronic_22 rfl ?_
    refine F_bipush (v := nI 27) dX5_chronic_23 rfl ?_
    refine F_isubN dX5_chronic_25 (by omega) ?_
    refine F_iald dX5_chronic_26 (by first | assumption | rfl) (by decide) (by omega) ?_
    refine F_isub dX5_chronic_27 ?_
    refine F_iret dX5_chronic_28 rfl ?_
    first | (rw [show n + 1 - 28 = 0 by omega] at hQ; exact hQ) | (rw [show n + 1 - 28 = n - 27 by omega] at hQ; exact hQ)
  · refine F_iconst (v := nI 0) dX5_chronic_18 rfl ?_
    refine F_goto (tgt := 26) dX5_chronic_19 rfl ?_
    refine F_iald dX5_chronic_26 (by first | assumption | rfl) (by decide) (by omega) ?_
    refine F_isub dX5_chronic_27 ?_
    refine F_iret dX5_chronic_28 rfl ?_
    first | (rw [show n + 1 - 28 = 0 by omega] at hQ; exact hQ) | (rw [show n + 1 - 28 = n - 27 by omega] at hQ; exact hQ)

theorem v_formAt {n : Nat} (hn : n < 70) : mV G mX5_formAt (d + 1) [.ref 116, .int (nI n)] σ (some (.int (σ 117 8 * σ 125 n - σ 117 9 * σ 126 n))) σ := by
  refine mV_of fun Q hQ => ?_
  refine F_aload_n dX5_formAt_0 rfl ?_
  refine F_iconst (v := nI 2) dX5_formAt_1 rfl ?_
  refine F_cV1i (v_of (d := d) (k := 2) (by omega)) dX5_formAt_2 rfl rfl (by decide) (by first | assumption | rfl) rfl rfl rfl (by decide) (Nat.le_of_ble_eq_true rfl) (by omega) ?_
  refine F_aload_n dX5_formAt_5 rfl ?_
  refine F_getr dX5_formAt_6 rfl rfl (by first | assumption | rfl) rfl ?_
  refine F_iload_n dX5_formAt_9 rfl ?_
  refine F_iald dX5_formAt_10 (by first | assumption | rfl) (by decide) (by omega) ?_
  refine F_imul dX5_formAt_11 ?_
  refine F_aload_n dX5_formAt_12 rfl ?_
  refine F_iconst (v := nI 3) dX5_formAt_13 rfl ?_
  refine F_cV1i (v_of (d := d) (k := 3) (by omega)) dX5_formAt_14 rfl rfl (by decide) (by first | assumption | rfl) rfl rfl rfl (by decide) (Nat.le_of_ble_eq_true rfl) (by omega) ?_
  refine F_aload_n dX5_formAt_17 rfl ?_
  refine F_getr dX5_formAt_18 rfl rfl (by first | assumption | rfl) rfl ?_
  refine F_iload_n dX5_formAt_21 rfl ?_
  refine F_iald dX5_formAt_22 (by first | assumption | rfl) (by decide) (by omega) ?_
  refine F_imul dX5_formAt_23 ?_
  refine F_isub dX5_formAt_24 ?_
  refine F_iret dX5_formAt_25 rfl ?_
  exact hQ

/-- the first n days have been gone through -/
def Gone (σ : mS) (p : sP) (n : Nat) : Prop := (∀ k, k ≤ n → σ 127 k = sSum p k) ∧ ∀ k, k < n → σ 124 k = sLoad p k ∧ σ 125 k = sFit p (k + 1) ∧ σ 126 k = sTir p (k + 1) ∧ σ 128 k = bI (decide (k < sHl p k)) ∧ σ 129 k = bI (sInj p k)
/-- what the reference says of a group -/
def pM (σ : mS) (g nc : Nat) : sP := (fun k => σ 117 (6 + k), fun k => if nI k = σ 116 24 then σ 116 25 else σ 117 (σ 117 (40 + 70 * g + k)).toNatClampNeg, fun k => cfN (fun i => σ 117 (15 + 2 * i)) (fun i => σ 117 (15 + 2 * i + 1)) (σ 116 23) k nc, σ 117 (24 + 2 * g), σ 117 (24 + 2 * g + 1))
def gnS (σ : mS) (n : Nat) (p : sP) : mS := up (up (up (up (up (up σ 128 n (bI (decide (n < sHl p n)))) 124 n (sLoad p n)) 127 (n + 1) (sSum p (n + 1))) 125 n (sFit p (n + 1))) 126 n (sTir p (n + 1))) 129 n (bI (sInj p n))
theorem gnS_far (σ : mS) {n a : Nat} (p : sP) (h : a < 124 ∨ 129 < a) : gnS σ n p a = σ a := by
  simp only [gnS]
  rw [up_n _ _ _ (by omega), up_n _ _ _ (by omega), up_n _ _ _ (by omega), up_n _ _ _ (by omega), up_n _ _ _ (by omega), up_n _ _ _ (by omega)]
def goN (σ : mS) (p : sP) : Nat → mS
  | 0 => σ
  | m + 1 => gnS (goN σ p m) m p
theorem goN_far (σ : mS) {a : Nat} (p : sP) (h : a < 124 ∨ 129 < a) : ∀ m, goN σ p m a = σ a := by
  intro m
  induction m with
  | zero => rfl
  | succ m ih => simp only [goN]; rw [gnS_far _ _ h]; exact ih
theorem Gone.next {p : sP} {n : Nat} (h : Gone σ p n) : Gone (gnS σ n p) p (n + 1) := by
  have r8 : gnS σ n p 128 = upd (σ 128) n (bI (decide (n < sHl p n))) := rfl
  have r4 : gnS σ n p 124 = upd (σ 124) n (sLoad p n) := rfl
  have r7 : gnS σ n p 127 = upd (σ 127) (n + 1) (sSum p (n + 1)) := rfl
  have r5 : gnS σ n p 125 = upd (σ 125) n (sFit p (n + 1)) := rfl
  have r6 : gnS σ n p 126 = upd (σ 126) n (sTir p (n + 1)) := rfl
  have r9 : gnS σ n p 129 = upd (σ 129) n (bI (sInj p n)) := rfl
  refine ⟨fun k hk => ?_, fun k hk => ?_⟩
  · rw [r7]
    by_cases h1 : k = n + 1
    · subst h1; simp [upd]
    · simp only [upd, if_neg h1]; exact h.1 k (by omega)
  · rw [r4, r5, r6, r8, r9]
    by_cases h1 : k = n
    · subst h1; simp [upd]
    · simp only [upd, if_neg h1]; exact h.2 k (by omega)
theorem Gone.nexts {p : sP} (h : Gone σ p 0) : ∀ m, Gone (goN σ p m) p m := by
  intro m
  induction m with
  | zero => exact h
  | succ m ih => exact ih.next
/-- hurt to this day -/
def hTo (p : sP) (n : Nat) : Int32 := nI (sHl p n) - nI 1
theorem l_goes347 {g to n : Nat} {p : sP} (hn : n < 70) (hL : Gone σ p n) (hs : sOk p.1) (h7 : ∀ k, k < 8 → σ 117 (6 + k) = p.1 k) {Q : Option Value → mS → Prop} (hk : ∀ l7 l8, mF G mX5_goes (d + 2) 33 [some (.ref 116), some (.int (nI g)), some (.int (nI to)), some (.int (sFit p (n + 1))), some (.int (sTir p (n + 1))), some (.int (hTo p (n + 1))), some (.int (nI (n + 1))), l7, l8] [] (gnS σ n p) Q) (l7 l8 : Option Value) : mF G mX5_goes (d + 2) 347 [some (.ref 116), some (.int (nI g)), some (.int (nI to)), some (.int (sFit p (n + 1))), some (.int (sTir p (n + 1))), some (.int (hTo p (n + 1))), some (.int (nI (n))), l7, l8] [] (gnS σ n p) Q := by
  refine F_iincN dX5_goes_347 rfl ?_
  refine F_goto (tgt := 33) dX5_goes_350 rfl ?_
  exact hk _ _

theorem l_goes326 {g to n : Nat} {p : sP} (hn : n < 70) (hL : Gone σ p n) (hs : sOk p.1) (h7 : ∀ k, k < 8 → σ 117 (6 + k) = p.1 k) {Q : Option Value → mS → Prop} (hk : ∀ l7 l8, mF G mX5_goes (d + 2) 33 [some (.ref 116), some (.int (nI g)), some (.int (nI to)), some (.int (sFit p (n + 1))), some (.int (sTir p (n + 1))), some (.int (hTo p (n + 1))), some (.int (nI (n + 1))), l7, l8] [] (gnS σ n p) Q) (l7 l8 : Option Value) : mF G mX5_goes (d + 2) 326 [some (.ref 116), some (.int (nI g)), some (.int (nI to)), some (.int (sFit p (n + 1))), some (.int (sTir p (n + 1))), some (.int (hTo p n)), some (.int (nI (n))), l7, l8] [.int (bI (sInj p n)), .int (nI n), .ref 129] (up (up (up (up (up σ 128 n (bI (decide (n < sHl p n)))) 124 n (sLoad p n)) 127 (n + 1) (sSum p (n + 1))) 125 n (sFit p (n + 1))) 126 n (sTir p (n + 1))) Q := by
  have h347 := l_goes347 (G := G) (d := d) hn hL hs h7 hk l7 l8
  obtain ⟨hv, h1, h14, eh⟩ := sOk_n hs (k := 5) (a := 1) (b := 14) (by omega) (by decide +kernel) (by decide +kernel) (by decide) (by decide)
  refine F_zast dX5_goes_326 (by first | assumption | rfl) (by decide) (by omega) ?_
  rw [nar_b]
  refine F_aload_n dX5_goes_327 rfl ?_
  refine F_getr dX5_goes_328 rfl rfl (by first | assumption | rfl) rfl ?_
  refine F_iload dX5_goes_331 rfl ?_
  refine F_zaldE (v := bI (sInj p n)) dX5_goes_333 (by first | assumption | rfl) (by decide) (by omega) (up_s _ _ _ _) ?_
  refine F_if_eqB (tgt := 347) dX5_goes_334 rfl (fun c334 => ?_) (fun c334 => ?_)
  · have e : hTo p (n + 1) = (if sInj p n = true then nI (n + hv) else hTo p n) := by
      simp only [hTo]
      rw [sHl_s]
      by_cases hj : sInj p n = true
      · rw [if_pos hj, if_pos hj, eh, nI_clamp (by omega), nI_sub (by omega)]; congr 1; omega
      · rw [if_neg hj, if_neg hj]
    rw [e] at h347
    first
      | (rw [if_pos c334] at h347; exact h347)
      | (rw [if_neg (by rw [c334]; decide)] at h347; exact h347)
  · refine F_iload dX5_goes_337 rfl ?_
    refine F_aload_n dX5_goes_339 rfl ?_
    refine F_iconst (v := nI 5) dX5_goes_340 rfl ?_
    refine F_cV1i (v_of (d := d) (k := 5) (by omega)) dX5_goes_341 rfl rfl (by decide) (by first | assumption | rfl) rfl rfl rfl (by decide) (Nat.le_of_ble_eq_true rfl) (by omega) ?_
    refine F_top (y := nI hv) ((h7 5 (by omega)).trans eh) ?_
    refine F_iaddN dX5_goes_344 ?_
    refine F_istore dX5_goes_345 (Nat.le_of_ble_eq_true rfl) ?_
    have e : hTo p (n + 1) = (if sInj p n = true then nI (n + hv) else hTo p n) := by
      simp only [hTo]
      rw [sHl_s]
      by_cases hj : sInj p n = true
      · rw [if_pos hj, if_pos hj, eh, nI_clamp (by omega), nI_sub (by omega)]; congr 1; omega
      · rw [if_neg hj, if_neg hj]
    rw [e] at h347
    first
      | (rw [if_pos c334] at h347; exact h347)
      | (rw [if_neg (by rw [c334]; decide)] at h347; exact h347)

theorem l_goes273 {g to n : Nat} {p : sP} (hn : n < 70) (hL : Gone σ p n) (hs : sOk p.1) (h7 : ∀ k, k < 8 → σ 117 (6 + k) = p.1 k) {Q : Option Value → mS → Prop} (hk : ∀ l7 l8, mF G mX5_goes (d + 2) 33 [some (.ref 116), some (.int (nI g)), some (.int (nI to)), some (.int (sFit p (n + 1))), some (.int (sTir p (n + 1))), some (.int (hTo p (n + 1))), some (.int (nI (n + 1))), l7, l8] [] (gnS σ n p) Q) (l7 l8 : Option Value) : mF G mX5_goes (d + 2) 273 [some (.ref 116), some (.int (nI g)), some (.int (nI to)), some (.int (sFit p (n + 1))), some (.int (sTir p (n + 1))), some (.int (hTo p n)), some (.int (nI (n))), l7, l8] [] (up (up (up (up (up σ 128 n (bI (decide (n < sHl p n)))) 124 n (sLoad p n)) 127 (n + 1) (sSum p (n + 1))) 125 n (sFit p (n + 1))) 126 n (sTir p (n + 1))) Q := by
  have h326 := l_goes326 (G := G) (d := d) hn hL hs h7 hk l7 l8
  have u8 : ∀ k, k ≤ n + 1 → (up (up (up (up (up σ 128 n (bI (decide (n < sHl p n)))) 124 n (sLoad p n)) 127 (n + 1) (sSum p (n + 1))) 125 n (sFit p (n + 1))) 126 n (sTir p (n + 1))) 127 k = sSum p k := fun k hk => by
    show upd (σ 127) (n + 1) (sSum p (n + 1)) k = _
    by_cases h1 : k = n + 1
    · subst h1; simp [upd]
    · simp only [upd, if_neg h1]; exact hL.1 k (by omega)
  refine F_aload_n dX5_goes_273 rfl ?_
  refine F_getr dX5_goes_274 rfl rfl (by first | assumption | rfl) rfl ?_
  refine F_iload dX5_goes_277 rfl ?_
  refine F_iload dX5_goes_279 rfl ?_
  refine F_bipush (v := nI 20) dX5_goes_281 rfl ?_
  refine F_icmp_ltN (tgt := 325) dX5_goes_283 rfl (by omega) (by omega) (fun c283 => ?_) (fun c283 => ?_)
  · refine F_iconst (v := nI 0) dX5_goes_325 rfl ?_
    refine F_top (y := bI (sInj p n)) ?_ h326
    have e : sInj p n = (!decide (n < sHl p n) && decide (20 ≤ n) && decide (p.1 4 * (sSum p (n + 1) - sSum p (n + 1 - 28)) < (sSum p (n + 1) - sSum p (n + 1 - 7)) * nI 400)) := rfl
    rw [e]
    first
      | (rw [decide_eq_false (show ¬ 20 ≤ n by omega), Bool.and_false]; rfl)
      | (rw [c293]; rfl)
      | (rw [u8 (n + 1) (by omega), u8 (n + 1 - 28) (by omega), u8 (n + 1 - 7) (by omega)] at c318
         rw [c293, decide_eq_true (show 20 ≤ n by omega)]
         first
           | (rw [decide_eq_true (Int32.not_le.mp c318)]; rfl)
           | (rw [decide_eq_false (Int32.not_lt.mpr c318)]; rfl))
  · refine F_aload_n dX5_goes_286 rfl ?_
    refine F_getr dX5_goes_287 rfl rfl (by first | assumption | rfl) rfl ?_
    refine F_iload dX5_goes_290 rfl ?_
    refine F_zaldE (v := bI (decide (n < sHl p n))) dX5_goes_292 (by first | assumption | rfl) (by decide) (by omega) (by show upd (σ 128) n _ n = _; simp [upd]) ?_
    refine F_if_neB (tgt := 325) dX5_goes_293 rfl (fun c293 => ?_) (fun c293 => ?_)
    · refine F_iconst (v := nI 0) dX5_goes_325 rfl ?_
      refine F_top (y := bI (sInj p n)) ?_ h326
      have e : sInj p n = (!decide (n < sHl p n) && decide (20 ≤ n) && decide (p.1 4 * (sSum p (n + 1) - sSum p (n + 1 - 28)) < (sSum p (n + 1) - sSum p (n + 1 - 7)) * nI 400)) := rfl
      rw [e]
      first
        | (rw [decide_eq_false (show ¬ 20 ≤ n by omega), Bool.and_false]; rfl)
        | (rw [c293]; rfl)
        | (rw [u8 (n + 1) (by omega), u8 (n + 1 - 28) (by omega), u8 (n + 1 - 7) (by omega)] at c318
           rw [c293, decide_eq_true (show 20 ≤ n by omega)]
           first
             | (rw [decide_eq_true (Int32.not_le.mp c318)]; rfl)
             | (rw [decide_eq_false (Int32.not_lt.mpr c318)]; rfl))
    · refine F_aload_n dX5_goes_296 rfl ?_
      refine F_iload dX5_goes_297 rfl ?_
      refine F_cV1i (v_macute (d := d) hn) dX5_goes_299 rfl rfl (by decide) (by first | assumption | rfl) rfl rfl rfl (by decide) (Nat.le_of_ble_eq_true rfl) (by omega) ?_
      refine F_sipush (v := nI 400) dX5_goes_302 rfl ?_
      refine F_imul dX5_goes_305 ?_
      refine F_aload_n dX5_goes_306 rfl ?_
      refine F_iconst (v := nI 4) dX5_goes_307 rfl ?_
      refine F_cV1i (v_of (d := d) (k := 4) (by omega)) dX5_goes_308 rfl rfl (by decide) (by first | assumption | rfl) rfl rfl rfl (by decide) (Nat.le_of_ble_eq_true rfl) (by omega) ?_
      refine F_top (y := p.1 4) (h7 4 (by omega)) ?_
      refine F_aload_n dX5_goes_311 rfl ?_
      refine F_iload dX5_goes_312 rfl ?_
      refine F_cV1i (v_mchronic (d := d) hn) dX5_goes_314 rfl rfl (by decide) (by first | assumption | rfl) rfl rfl rfl (by decide) (Nat.le_of_ble_eq_true rfl) (by omega) ?_
      refine F_imul dX5_goes_317 ?_
      refine F_icmp_le (tgt := 325) dX5_goes_318 rfl (fun c318 => ?_) (fun c318 => ?_)
      · refine F_iconst (v := nI 0) dX5_goes_325 rfl ?_
        refine F_top (y := bI (sInj p n)) ?_ h326
        have e : sInj p n = (!decide (n < sHl p n) && decide (20 ≤ n) && decide (p.1 4 * (sSum p (n + 1) - sSum p (n + 1 - 28)) < (sSum p (n + 1) - sSum p (n + 1 - 7)) * nI 400)) := rfl
        rw [e]
        first
          | (rw [decide_eq_false (show ¬ 20 ≤ n by omega), Bool.and_false]; rfl)
          | (rw [c293]; rfl)
          | (rw [u8 (n + 1) (by omega), u8 (n + 1 - 28) (by omega), u8 (n + 1 - 7) (by omega)] at c318
             rw [c293, decide_eq_true (show 20 ≤ n by omega)]
             first
               | (rw [decide_eq_true (Int32.not_le.mp c318)]; rfl)
               | (rw [decide_eq_false (Int32.not_lt.mpr c318)]; rfl))
      · refine F_iconst (v := nI 1) dX5_goes_321 rfl ?_
        refine F_goto (tgt := 326) dX5_goes_322 rfl ?_
        refine F_top (y := bI (sInj p n)) ?_ h326
        have e : sInj p n = (!decide (n < sHl p n) && decide (20 ≤ n) && decide (p.1 4 * (sSum p (n + 1) - sSum p (n + 1 - 28)) < (sSum p (n + 1) - sSum p (n + 1 - 7)) * nI 400)) := rfl
        rw [e]
        first
          | (rw [decide_eq_false (show ¬ 20 ≤ n by omega), Bool.and_false]; rfl)
          | (rw [c293]; rfl)
          | (rw [u8 (n + 1) (by omega), u8 (n + 1 - 28) (by omega), u8 (n + 1 - 7) (by omega)] at c318
             rw [c293, decide_eq_true (show 20 ≤ n by omega)]
             first
               | (rw [decide_eq_true (Int32.not_le.mp c318)]; rfl)
               | (rw [decide_eq_false (Int32.not_lt.mpr c318)]; rfl))

theorem l_goes186 {g to n : Nat} {p : sP} (hn : n < 70) (hL : Gone σ p n) (hs : sOk p.1) (h7 : ∀ k, k < 8 → σ 117 (6 + k) = p.1 k) {Q : Option Value → mS → Prop} (hk : ∀ l7 l8, mF G mX5_goes (d + 2) 33 [some (.ref 116), some (.int (nI g)), some (.int (nI to)), some (.int (sFit p (n + 1))), some (.int (sTir p (n + 1))), some (.int (hTo p (n + 1))), some (.int (nI (n + 1))), l7, l8] [] (gnS σ n p) Q) (l7 l8 : Option Value) : mF G mX5_goes (d + 2) 186 [some (.ref 116), some (.int (nI g)), some (.int (nI to)), some (.int (sFit p n)), some (.int (sTir p n)), some (.int (hTo p n)), some (.int (nI (n))), l7, l8] [.int (sLoad p n), .int (nI n), .ref 124] (up σ 128 n (bI (decide (n < sHl p n)))) Q := by
  have h273 := l_goes273 (G := G) (d := d) hn hL hs h7 hk l7 l8
  obtain ⟨z0, q0, r0, e0⟩ := sOk_n hs (k := 0) (a := 2) (b := 99) (by omega) (by decide +kernel) (by decide +kernel) (by decide) (by decide)
  obtain ⟨z1, q1, r1, e1⟩ := sOk_n hs (k := 1) (a := 2) (b := 99) (by omega) (by decide +kernel) (by decide +kernel) (by decide) (by decide)
  have hL1 : ∀ τ : mS, τ 124 = upd (σ 124) n (sLoad p n) → τ 124 n = sLoad p n := fun τ h => by rw [h]; simp [upd]
  refine F_iast dX5_goes_186 (by first | assumption | rfl) (by decide) (by omega) ?_
  refine F_aload_n dX5_goes_187 rfl ?_
  refine F_getr dX5_goes_188 rfl rfl (by first | assumption | rfl) rfl ?_
  refine F_iload dX5_goes_191 rfl ?_
  refine F_iconst (v := nI 1) dX5_goes_193 rfl ?_
  refine F_iaddN dX5_goes_194 ?_
  refine F_aload_n dX5_goes_195 rfl ?_
  refine F_getr dX5_goes_196 rfl rfl (by first | assumption | rfl) rfl ?_
  refine F_iload dX5_goes_199 rfl ?_
  refine F_ialdE (v := sSum p n) dX5_goes_201 (by first | assumption | rfl) (by decide) (by omega) (hL.1 n (Nat.le_refl n)) ?_
  refine F_aload_n dX5_goes_202 rfl ?_
  refine F_getr dX5_goes_203 rfl rfl (by first | assumption | rfl) rfl ?_
  refine F_iload dX5_goes_206 rfl ?_
  refine F_ialdE (v := sLoad p n) dX5_goes_208 (by first | assumption | rfl) (by decide) (by omega) (hL1 _ rfl) ?_
  refine F_iadd dX5_goes_209 ?_
  refine F_top (sSum_s p n).symm ?_
  refine F_iast dX5_goes_210 (by first | assumption | rfl) (by decide) (by omega) ?_
  refine F_iload_n dX5_goes_211 rfl ?_
  refine F_bipush (v := nI 10) dX5_goes_212 rfl ?_
  refine F_aload_n dX5_goes_214 rfl ?_
  refine F_getr dX5_goes_215 rfl rfl (by first | assumption | rfl) rfl ?_
  refine F_iload dX5_goes_218 rfl ?_
  refine F_ialdE (v := sLoad p n) dX5_goes_220 (by first | assumption | rfl) (by decide) (by omega) (hL1 _ rfl) ?_
  refine F_imul dX5_goes_221 ?_
  refine F_iload_n dX5_goes_222 rfl ?_
  refine F_aload_n dX5_goes_223 rfl ?_
  refine F_iconst (v := nI 0) dX5_goes_224 rfl ?_
  refine F_cV1i (v_of (d := d) (k := 0) (by omega)) dX5_goes_225 rfl rfl (by decide) (by first | assumption | rfl) rfl rfl rfl (by decide) (Nat.le_of_ble_eq_true rfl) (by omega) ?_
  refine F_top (y := p.1 0) (h7 0 (by omega)) ?_
  refine F_idiv dX5_goes_228 (by rw [e0]; exact nI_ne0 (by omega) (by omega)) ?_
  refine F_isub dX5_goes_229 ?_
  refine F_iadd dX5_goes_230 ?_
  refine F_top (y := sFit p (n + 1)) (by rw [add_sub_sw, sFit_s]) ?_
  refine F_istore_n dX5_goes_231 (Nat.le_of_ble_eq_true rfl) ?_
  refine F_iload dX5_goes_232 rfl ?_
  refine F_bipush (v := nI 10) dX5_goes_234 rfl ?_
  refine F_aload_n dX5_goes_236 rfl ?_
  refine F_getr dX5_goes_237 rfl rfl (by first | assumption | rfl) rfl ?_
  refine F_iload dX5_goes_240 rfl ?_
  refine F_ialdE (v := sLoad p n) dX5_goes_242 (by first | assumption | rfl) (by decide) (by omega) (hL1 _ rfl) ?_
  refine F_imul dX5_goes_243 ?_
  refine F_iload dX5_goes_244 rfl ?_
  refine F_aload_n dX5_goes_246 rfl ?_
  refine F_iconst (v := nI 1) dX5_goes_247 rfl ?_
  refine F_cV1i (v_of (d := d) (k := 1) (by omega)) dX5_goes_248 rfl rfl (by decide) (by first | assumption | rfl) rfl rfl rfl (by decide) (Nat.le_of_ble_eq_true rfl) (by omega) ?_
  refine F_top (y := p.1 1) (h7 1 (by omega)) ?_
  refine F_idiv dX5_goes_251 (by rw [e1]; exact nI_ne0 (by omega) (by omega)) ?_
  refine F_isub dX5_goes_252 ?_
  refine F_iadd dX5_goes_253 ?_
  refine F_top (y := sTir p (n + 1)) (by rw [add_sub_sw, sTir_s]) ?_
  refine F_istore dX5_goes_254 (Nat.le_of_ble_eq_true rfl) ?_
  refine F_aload_n dX5_goes_256 rfl ?_
  refine F_getr dX5_goes_257 rfl rfl (by first | assumption | rfl) rfl ?_
  refine F_iload dX5_goes_260 rfl ?_
  refine F_iload_n dX5_goes_262 rfl ?_
  refine F_iast dX5_goes_263 (by first | assumption | rfl) (by decide) (by omega) ?_
  refine F_aload_n dX5_goes_264 rfl ?_
  refine F_getr dX5_goes_265 rfl rfl (by first | assumption | rfl) rfl ?_
  refine F_iload dX5_goes_268 rfl ?_
  refine F_iload dX5_goes_270 rfl ?_
  refine F_iast dX5_goes_272 (by first | assumption | rfl) (by decide) (by omega) ?_
  exact h273

theorem l_goes164 {g to n : Nat} {p : sP} (hn : n < 70) (hL : Gone σ p n) (hs : sOk p.1) (h7 : ∀ k, k < 8 → σ 117 (6 + k) = p.1 k) {Q : Option Value → mS → Prop} (hk : ∀ l7 l8, mF G mX5_goes (d + 2) 33 [some (.ref 116), some (.int (nI g)), some (.int (nI to)), some (.int (sFit p (n + 1))), some (.int (sTir p (n + 1))), some (.int (hTo p (n + 1))), some (.int (nI (n + 1))), l7, l8] [] (gnS σ n p) Q) (l8 : Option Value) {v : Int32} (hv : (if n < sHl p n then nI 0 else v) = sLoad p n) : mF G mX5_goes (d + 2) 164 [some (.ref 116), some (.int (nI g)), some (.int (nI to)), some (.int (sFit p n)), some (.int (sTir p n)), some (.int (hTo p n)), some (.int (nI (n))), some (.int v), l8] [] (up σ 128 n (bI (decide (n < sHl p n)))) Q := by
  have h186 := l_goes186 (G := G) (d := d) hn hL hs h7 hk (some (.int v)) l8
  refine F_aload_n dX5_goes_164 rfl ?_
  refine F_getr dX5_goes_165 rfl rfl (by first | assumption | rfl) rfl ?_
  refine F_iload dX5_goes_168 rfl ?_
  refine F_aload_n dX5_goes_170 rfl ?_
  refine F_getr dX5_goes_171 rfl rfl (by first | assumption | rfl) rfl ?_
  refine F_iload dX5_goes_174 rfl ?_
  refine F_zaldE (v := bI (decide (n < sHl p n))) dX5_goes_176 (by first | assumption | rfl) (by decide) (by omega) (up_s _ _ _ _) ?_
  refine F_if_eqB (tgt := 184) dX5_goes_177 rfl (fun c177 => ?_) (fun c177 => ?_)
  · refine F_iload dX5_goes_184 rfl ?_
    refine F_top (y := sLoad p n) ?_ h186
    first
      | (rw [if_pos (of_decide_eq_true c177)] at hv; exact hv)
      | (rw [if_neg (of_decide_eq_false c177)] at hv; exact hv)
  · refine F_iconst (v := nI 0) dX5_goes_180 rfl ?_
    refine F_goto (tgt := 186) dX5_goes_181 rfl ?_
    refine F_top (y := sLoad p n) ?_ h186
    first
      | (rw [if_pos (of_decide_eq_true c177)] at hv; exact hv)
      | (rw [if_neg (of_decide_eq_false c177)] at hv; exact hv)

theorem l_goes116 {g to n : Nat} {p : sP} (hn : n < 70) (hL : Gone σ p n) (hs : sOk p.1) (h7 : ∀ k, k < 8 → σ 117 (6 + k) = p.1 k) {Q : Option Value → mS → Prop} (hk : ∀ l7 l8, mF G mX5_goes (d + 2) 33 [some (.ref 116), some (.int (nI g)), some (.int (nI to)), some (.int (sFit p (n + 1))), some (.int (sTir p (n + 1))), some (.int (hTo p (n + 1))), some (.int (nI (n + 1))), l7, l8] [] (gnS σ n p) Q) (l7 l8 : Option Value) : mF G mX5_goes (d + 2) 116 [some (.ref 116), some (.int (nI g)), some (.int (nI to)), some (.int (sFit p n)), some (.int (sTir p n)), some (.int (hTo p n)), some (.int (nI (n))), l7, l8] [.int (if p.2.2.1 n = true then p.2.1 n * p.1 7 / nI 100 else p.2.1 n)] (up σ 128 n (bI (decide (n < sHl p n)))) Q := by
  have h164 := fun (l8 : Option Value) (v : Int32) hv => l_goes164 (G := G) (d := d) hn hL hs h7 hk l8 (v := v) hv
  have hm : n / 7 * 7 = n - n % 7 := by have := Nat.mod_add_div n 7; omega
  have hm2 : n - n % 7 ≤ n := Nat.sub_le _ _
  have u8 : ∀ k, k ≤ n → (up σ 128 n (bI (decide (n < sHl p n)))) 127 k = sSum p k := fun k hk => hL.1 k hk
  have eL : sLoad p n = if n < sHl p n then nI 0 else if p.1 6 - (sSum p n - sSum p (n - n % 7)) < (if p.2.2.1 n = true then p.2.1 n * p.1 7 / nI 100 else p.2.1 n) then p.1 6 - (sSum p n - sSum p (n - n % 7)) else (if p.2.2.1 n = true then p.2.1 n * p.1 7 / nI 100 else p.2.1 n) := rfl
  refine F_istore dX5_goes_116 (Nat.le_of_ble_eq_true rfl) ?_
  refine F_aload_n dX5_goes_118 rfl ?_
  refine F_bipush (v := nI 6) dX5_goes_119 rfl ?_
  refine F_cV1i (v_of (d := d) (k := 6) (by omega)) dX5_goes_121 rfl rfl (by decide) (by first | assumption | rfl) rfl rfl rfl (by decide) (Nat.le_of_ble_eq_true rfl) (by omega) ?_
  refine F_top (y := p.1 6) (h7 6 (by omega)) ?_
  refine F_aload_n dX5_goes_124 rfl ?_
  refine F_getr dX5_goes_125 rfl rfl (by first | assumption | rfl) rfl ?_
  refine F_iload dX5_goes_128 rfl ?_
  refine F_ialdE (v := sSum p n) dX5_goes_130 (by first | assumption | rfl) (by decide) (by omega) (u8 n (Nat.le_refl n)) ?_
  refine F_aload_n dX5_goes_131 rfl ?_
  refine F_getr dX5_goes_132 rfl rfl (by first | assumption | rfl) rfl ?_
  refine F_iload dX5_goes_135 rfl ?_
  refine F_bipush (v := nI 7) dX5_goes_137 rfl ?_
  refine F_idiv dX5_goes_139 (by decide) ?_
  refine F_top (nI_div (by omega) (by decide)) ?_
  refine F_bipush (v := nI 7) dX5_goes_140 rfl ?_
  refine F_imulN dX5_goes_142 ?_
  refine F_ialdE (v := sSum p (n - n % 7)) dX5_goes_143 (by first | assumption | rfl) (by decide) (by omega) (by rw [hm]; exact u8 _ hm2) ?_
  refine F_isub dX5_goes_144 ?_
  refine F_isub dX5_goes_145 ?_
  refine F_istore dX5_goes_146 (Nat.le_of_ble_eq_true rfl) ?_
  refine F_iload dX5_goes_148 rfl ?_
  refine F_iload dX5_goes_150 rfl ?_
  refine F_icmp_le (tgt := 160) dX5_goes_152 rfl (fun c152 => ?_) (fun c152 => ?_)
  · refine F_iload dX5_goes_160 rfl ?_
    refine F_istore dX5_goes_162 (Nat.le_of_ble_eq_true rfl) ?_
    refine h164 _ _ ?_
    rw [eL]
    congr 1
    first
      | rw [if_pos (Int32.not_le.mp c152)]
      | rw [if_neg (Int32.not_lt.mpr c152)]
  · refine F_iload dX5_goes_155 rfl ?_
    refine F_goto (tgt := 162) dX5_goes_157 rfl ?_
    refine F_istore dX5_goes_162 (Nat.le_of_ble_eq_true rfl) ?_
    refine h164 _ _ ?_
    rw [eL]
    congr 1
    first
      | rw [if_pos (Int32.not_le.mp c152)]
      | rw [if_neg (Int32.not_lt.mpr c152)]

theorem l_goes88 {g to n : Nat} {p : sP} (hn : n < 70) (hL : Gone σ p n) (hs : sOk p.1) (h7 : ∀ k, k < 8 → σ 117 (6 + k) = p.1 k) {Q : Option Value → mS → Prop} (hk : ∀ l7 l8, mF G mX5_goes (d + 2) 33 [some (.ref 116), some (.int (nI g)), some (.int (nI to)), some (.int (sFit p (n + 1))), some (.int (sTir p (n + 1))), some (.int (hTo p (n + 1))), some (.int (nI (n + 1))), l7, l8] [] (gnS σ n p) Q) {nc : Nat} (h14 : σ 117 14 = nI nc) (h4 : nc ≤ 4) (hcf : cfN (fun i => σ 117 (15 + 2 * i)) (fun i => σ 117 (15 + 2 * i + 1)) (σ 116 23) n nc = p.2.2.1 n) (l7 l8 : Option Value) : mF G mX5_goes (d + 2) 88 [some (.ref 116), some (.int (nI g)), some (.int (nI to)), some (.int (sFit p n)), some (.int (sTir p n)), some (.int (hTo p n)), some (.int (nI (n))), l7, l8] [.int (p.2.1 n)] (up σ 128 n (bI (decide (n < sHl p n)))) Q := by
  have h116 := fun l7 l8 => l_goes116 (G := G) (d := d) hn hL hs h7 hk l7 l8
  refine F_istore dX5_goes_88 (Nat.le_of_ble_eq_true rfl) ?_
  refine F_aload_n dX5_goes_90 rfl ?_
  refine F_iload dX5_goes_91 rfl ?_
  refine F_cV1i (v_isCamp (d := d) hn h14 h4) dX5_goes_93 rfl rfl (by decide) (by first | assumption | rfl) rfl rfl rfl (by decide) (Nat.le_of_ble_eq_true rfl) (by omega) ?_
  refine F_if_eqB (tgt := 114) dX5_goes_96 rfl (fun c96 => ?_) (fun c96 => ?_)
  · refine F_iload dX5_goes_114 rfl ?_
    refine F_top ?_ (h116 _ l8)
    rw [← hcf]
    first
      | rw [if_pos (show cfN (fun i => σ 117 (15 + 2 * i)) (fun i => σ 117 (15 + 2 * i + 1)) (σ 116 23) n nc = true from c96)]
      | rw [if_neg (by rw [show cfN (fun i => σ 117 (15 + 2 * i)) (fun i => σ 117 (15 + 2 * i + 1)) (σ 116 23) n nc = false from c96]; decide)]
  · refine F_iload dX5_goes_99 rfl ?_
    refine F_aload_n dX5_goes_101 rfl ?_
    refine F_bipush (v := nI 7) dX5_goes_102 rfl ?_
    refine F_cV1i (v_of (d := d) (k := 7) (by omega)) dX5_goes_104 rfl rfl (by decide) (by first | assumption | rfl) rfl rfl rfl (by decide) (Nat.le_of_ble_eq_true rfl) (by omega) ?_
    refine F_top (y := p.1 7) (h7 7 (by omega)) ?_
    refine F_imul dX5_goes_107 ?_
    refine F_bipush (v := nI 100) dX5_goes_108 rfl ?_
    refine F_idiv dX5_goes_110 (by decide) ?_
    refine F_goto (tgt := 116) dX5_goes_111 rfl ?_
    refine F_top ?_ (h116 _ l8)
    rw [← hcf]
    first
      | rw [if_pos (show cfN (fun i => σ 117 (15 + 2 * i)) (fun i => σ 117 (15 + 2 * i + 1)) (σ 116 23) n nc = true from c96)]
      | rw [if_neg (by rw [show cfN (fun i => σ 117 (15 + 2 * i)) (fun i => σ 117 (15 + 2 * i + 1)) (σ 116 23) n nc = false from c96]; decide)]

theorem l_goes33 {g to n : Nat} {p : sP} (hn : n < 70) (hL : Gone σ p n) (hs : sOk p.1) (h7 : ∀ k, k < 8 → σ 117 (6 + k) = p.1 k) {Q : Option Value → mS → Prop} (hk : ∀ l7 l8, mF G mX5_goes (d + 2) 33 [some (.ref 116), some (.int (nI g)), some (.int (nI to)), some (.int (sFit p (n + 1))), some (.int (sTir p (n + 1))), some (.int (hTo p (n + 1))), some (.int (nI (n + 1))), l7, l8] [] (gnS σ n p) Q) {nc : Nat} (hto : n ≤ to) (ht : to < 70) (hg : g < 6) (h14 : σ 117 14 = nI nc) (h4 : nc ≤ 4) (hcf : cfN (fun i => σ 117 (15 + 2 * i)) (fun i => σ 117 (15 + 2 * i + 1)) (σ 116 23) n nc = p.2.2.1 n) (hkd : ∃ j, j < 6 ∧ σ 117 (40 + 70 * g + n) = nI j) (hld : (if nI n = σ 116 24 then σ 116 25 else σ 117 (σ 117 (40 + 70 * g + n)).toNatClampNeg) = p.2.1 n) (l7 l8 : Option Value) : mF G mX5_goes (d + 2) 33 [some (.ref 116), some (.int (nI g)), some (.int (nI to)), some (.int (sFit p n)), some (.int (sTir p n)), some (.int (hTo p n)), some (.int (nI (n))), l7, l8] [] σ Q := by
  have h88 := fun l7 l8 => l_goes88 (G := G) (d := d) hn hL hs h7 hk h14 h4 hcf l7 l8
  obtain ⟨j, hj, ej⟩ := hkd
  have hhl := sHl_le p hs n
  have eh : ∀ b, b = decide (n < sHl p n) → ∀ v, vp_nar .boolean v = bI b → up σ 128 n (vp_nar .boolean v) = (up σ 128 n (bI (decide (n < sHl p n)))) := fun b hb v hv => by rw [hv, hb]
  refine F_iload dX5_goes_33 rfl ?_
  refine F_iload_n dX5_goes_35 rfl ?_
  refine F_icmp_gtN (tgt := 353) dX5_goes_36 rfl (by omega) (by omega) (fun c36 => ?_) (fun c36 => ?_)
  · exact absurd c36 (by omega)
  · refine F_aload_n dX5_goes_39 rfl ?_
    refine F_getr dX5_goes_40 rfl rfl (by first | assumption | rfl) rfl ?_
    refine F_iload dX5_goes_43 rfl ?_
    refine F_iload dX5_goes_45 rfl ?_
    refine F_iload dX5_goes_47 rfl ?_
    refine F_icmp_gt (tgt := 56) dX5_goes_49 rfl (fun c49 => ?_) (fun c49 => ?_)
    · refine F_iconst (v := nI 0) dX5_goes_56 rfl ?_
      refine F_zast dX5_goes_57 (by first | assumption | rfl) (by decide) (by omega) ?_
      refine F_sg (σ2 := (up σ 128 n (bI (decide (n < sHl p n))))) ?_ ?_
      · simp only [hTo] at c49
        first
          | (rw [← Int32.not_le, le_pred (by omega) (by omega)] at c49; exact eh _ (decide_eq_false c49).symm _ rfl)
          | (rw [Int32.not_lt, le_pred (by omega) (by omega)] at c49; exact eh _ (decide_eq_true c49).symm _ rfl)
      refine F_iload dX5_goes_58 rfl ?_
      refine F_aload_n dX5_goes_60 rfl ?_
      refine F_geti dX5_goes_61 rfl rfl (by first | assumption | rfl) rfl ?_
      refine F_icmp_ne (tgt := 74) dX5_goes_64 rfl (fun c64 => ?_) (fun c64 => ?_)
      · refine F_aload_n dX5_goes_74 rfl ?_
        refine F_getr dX5_goes_75 rfl rfl (by first | assumption | rfl) rfl ?_
        refine F_iconst (v := nI 0) dX5_goes_78 rfl ?_
        refine F_aload_n dX5_goes_79 rfl ?_
        refine F_iload_n dX5_goes_80 rfl ?_
        refine F_iload dX5_goes_81 rfl ?_
        refine F_cV2i (v_kindOf (d := d) hg hn) dX5_goes_83 rfl rfl (by decide) (by first | assumption | rfl) rfl rfl rfl (by decide) (Nat.le_of_ble_eq_true rfl) (by omega) ?_
        refine F_top (y := nI j) ej ?_
        refine F_iaddN dX5_goes_86 ?_
        refine F_iald dX5_goes_87 (by first | assumption | rfl) (by decide) (by omega) ?_
        refine F_top ?_ (h88 l7 l8)
        rw [← hld]
        first
          | (rw [if_pos (show nI n = σ 116 24 from c64)]; rfl)
          | (rw [if_neg (show ¬ nI n = σ 116 24 from c64), ej, nI_clamp (by omega), Nat.zero_add]; rfl)
      · refine F_aload_n dX5_goes_67 rfl ?_
        refine F_geti dX5_goes_68 rfl rfl (by first | assumption | rfl) rfl ?_
        refine F_goto (tgt := 88) dX5_goes_71 rfl ?_
        refine F_top ?_ (h88 l7 l8)
        rw [← hld]
        first
          | (rw [if_pos (show nI n = σ 116 24 from c64)]; rfl)
          | (rw [if_neg (show ¬ nI n = σ 116 24 from c64), ej, nI_clamp (by omega), Nat.zero_add]; rfl)
    · refine F_iconst (v := nI 1) dX5_goes_52 rfl ?_
      refine F_goto (tgt := 57) dX5_goes_53 rfl ?_
      refine F_zast dX5_goes_57 (by first | assumption | rfl) (by decide) (by omega) ?_
      refine F_sg (σ2 := (up σ 128 n (bI (decide (n < sHl p n))))) ?_ ?_
      · simp only [hTo] at c49
        first
          | (rw [← Int32.not_le, le_pred (by omega) (by omega)] at c49; exact eh _ (decide_eq_false c49).symm _ rfl)
          | (rw [Int32.not_lt, le_pred (by omega) (by omega)] at c49; exact eh _ (decide_eq_true c49).symm _ rfl)
      refine F_iload dX5_goes_58 rfl ?_
      refine F_aload_n dX5_goes_60 rfl ?_
      refine F_geti dX5_goes_61 rfl rfl (by first | assumption | rfl) rfl ?_
      refine F_icmp_ne (tgt := 74) dX5_goes_64 rfl (fun c64 => ?_) (fun c64 => ?_)
      · refine F_aload_n dX5_goes_74 rfl ?_
        refine F_getr dX5_goes_75 rfl rfl (by first | assumption | rfl) rfl ?_
        refine F_iconst (v := nI 0) dX5_goes_78 rfl ?_
        refine F_aload_n dX5_goes_79 rfl ?_
        refine F_iload_n dX5_goes_80 rfl ?_
        refine F_iload dX5_goes_81 rfl ?_
        refine F_cV2i (v_kindOf (d := d) hg hn) dX5_goes_83 rfl rfl (by decide) (by first | assumption | rfl) rfl rfl rfl (by decide) (Nat.le_of_ble_eq_true rfl) (by omega) ?_
        refine F_top (y := nI j) ej ?_
        refine F_iaddN dX5_goes_86 ?_
        refine F_iald dX5_goes_87 (by first | assumption | rfl) (by decide) (by omega) ?_
        refine F_top ?_ (h88 l7 l8)
        rw [← hld]
        first
          | (rw [if_pos (show nI n = σ 116 24 from c64)]; rfl)
          | (rw [if_neg (show ¬ nI n = σ 116 24 from c64), ej, nI_clamp (by omega), Nat.zero_add]; rfl)
      · refine F_aload_n dX5_goes_67 rfl ?_
        refine F_geti dX5_goes_68 rfl rfl (by first | assumption | rfl) rfl ?_
        refine F_goto (tgt := 88) dX5_goes_71 rfl ?_
        refine F_top ?_ (h88 l7 l8)
        rw [← hld]
        first
          | (rw [if_pos (show nI n = σ 116 24 from c64)]; rfl)
          | (rw [if_neg (show ¬ nI n = σ 116 24 from c64), ej, nI_clamp (by omega), Nat.zero_add]; rfl)

theorem v_goes {g nc to : Nat} (hg : g < 6) (ht : to < 70) (h14 : σ 117 14 = nI nc) (h4 : nc ≤ 4) (hs : sOk (pM σ g nc).1) (hkd : ∀ k, k < 70 → ∃ j, j < 6 ∧ σ 117 (40 + 70 * g + k) = nI j) (h0 : σ 127 0 = nI 0) : mV G mX5_goes (d + 2) [.ref 116, .int (nI g), .int (nI to)] σ none (goN σ (pM σ g nc) (to + 1)) := by
  refine mV_of fun Q hQ => ?_
  have hG0 : Gone σ (pM σ g nc) 0 := ⟨fun k hk => by
    have : k = 0 := by omega
    subst this
    exact h0, fun k hk => absurd hk (by omega)⟩
  have far : ∀ n a, a < 124 → goN σ (pM σ g nc) n a = σ a := fun n a ha => goN_far σ _ (Or.inl ha) n
  have hl : ∀ n, n ≤ to + 1 → ∀ l7 l8, mF G mX5_goes (d + 2) 33 [some (.ref 116), some (.int (nI g)), some (.int (nI to)), some (.int (sFit (pM σ g nc) n)), some (.int (sTir (pM σ g nc) n)), some (.int (hTo (pM σ g nc) n)), some (.int (nI (n))), l7, l8] [] (goN σ (pM σ g nc) n) Q := by
    refine loopUp (to + 1) (fun n hn ih l7 l8 => ?_)
    by_cases he : n = to + 1
    · subst he
      refine F_iload dX5_goes_33 rfl ?_
      refine F_iload_n dX5_goes_35 rfl ?_
      refine F_icmp_gtN (tgt := 353) dX5_goes_36 rfl (by omega) (by omega) (fun c36 => ?_) (fun c36 => ?_)
      · refine F_vret dX5_goes_353 rfl ?_
        exact hQ
      · exact absurd (show to < to + 1 by omega) c36
    · refine l_goes33 (nc := nc) (by omega) (hG0.nexts n) hs (fun k hk => by rw [far n 117 (by omega)]; rfl) (fun l7 l8 => ih (by omega) l7 l8) (by omega) ht hg (by rw [far n 117 (by omega)]; exact h14) h4 ?_ ?_ ?_ l7 l8
      · rw [far n 117 (by omega), far n 116 (by omega)]; rfl
      · rw [far n 117 (by omega)]; exact hkd n (by omega)
      · rw [far n 117 (by omega), far n 116 (by omega)]; rfl
  refine F_aload_n dX5_goes_0 rfl ?_
  refine F_getr dX5_goes_1 rfl rfl (by first | assumption | rfl) rfl ?_
  refine F_bipush (v := nI 24) dX5_goes_4 rfl ?_
  refine F_iconst (v := nI 2) dX5_goes_6 rfl ?_
  refine F_iload_n dX5_goes_7 rfl ?_
  refine F_imulN dX5_goes_8 ?_
  refine F_iaddN dX5_goes_9 ?_
  refine F_iald dX5_goes_10 (by first | assumption | rfl) (by decide) (by omega) ?_
  refine F_istore_n dX5_goes_11 (Nat.le_of_ble_eq_true rfl) ?_
  refine F_aload_n dX5_goes_12 rfl ?_
  refine F_getr dX5_goes_13 rfl rfl (by first | assumption | rfl) rfl ?_
  refine F_bipush (v := nI 24) dX5_goes_16 rfl ?_
  refine F_iconst (v := nI 2) dX5_goes_18 rfl ?_
  refine F_iload_n dX5_goes_19 rfl ?_
  refine F_imulN dX5_goes_20 ?_
  refine F_iaddN dX5_goes_21 ?_
  refine F_iconst (v := nI 1) dX5_goes_22 rfl ?_
  refine F_iaddN dX5_goes_23 ?_
  refine F_iald dX5_goes_24 (by first | assumption | rfl) (by decide) (by omega) ?_
  refine F_istore dX5_goes_25 (Nat.le_of_ble_eq_true rfl) ?_
  refine F_iconst (v := (-1)) dX5_goes_27 rfl ?_
  refine F_istore dX5_goes_28 (Nat.le_of_ble_eq_true rfl) ?_
  refine F_iconst (v := nI 0) dX5_goes_30 rfl ?_
  refine F_istore dX5_goes_31 (Nat.le_of_ble_eq_true rfl) ?_
  refine F_lo ?_ (hl 0 (Nat.zero_le _) none none)
  rfl

theorem v_mformOf {g nc to : Nat} (hg : g < 6) (ht : to < 70) (h14 : σ 117 14 = nI nc) (h4 : nc ≤ 4) (hs : sOk (pM σ g nc).1) (hkd : ∀ k, k < 70 → ∃ j, j < 6 ∧ σ 117 (40 + 70 * g + k) = nI j) (h0 : σ 127 0 = nI 0) : mV G mX5_formOf (d + 3) [.ref 116, .int (nI g), .int (nI to)] σ (some (.int (sForm (pM σ g nc) to))) (goN σ (pM σ g nc) (to + 1)) := by
  refine mV_of fun Q hQ => ?_
  have hG0 : Gone σ (pM σ g nc) 0 := ⟨fun k hk => by
    have : k = 0 := by omega
    subst this
    exact h0, fun k hk => absurd hk (by omega)⟩
  have hG := (hG0.nexts (to + 1)).2 to (by omega)
  refine F_aload_n dX5_formOf_0 rfl ?_
  refine F_iload_n dX5_formOf_1 rfl ?_
  refine F_iload_n dX5_formOf_2 rfl ?_
  refine F_cV2v (v_goes (d := d) hg ht h14 h4 hs hkd h0) dX5_formOf_3 rfl rfl (by decide) (by first | assumption | rfl) rfl rfl rfl (by decide) (Nat.le_of_ble_eq_true rfl) (by omega) ?_
  refine F_aload_n dX5_formOf_6 rfl ?_
  refine F_iload_n dX5_formOf_7 rfl ?_
  refine F_cV1i (v_formAt (d := d) ht) dX5_formOf_8 rfl rfl (by decide) (by first | assumption | rfl) rfl rfl rfl (by decide) (Nat.le_of_ble_eq_true rfl) (by omega) ?_
  refine F_iret dX5_formOf_11 rfl ?_
  refine Qr hQ ?_ rfl
  rw [goN_far _ _ (by omega), hG.2.1, hG.2.2.1]
  rfl

end MG
end
section
/-! ===== what the book and the reference have in common ===== -/
/-- a row of the reference's, with n groups and c camps -/
def okB (f : Nat → Int32) (n c : Nat) : Prop := n ≤ 6 ∧ c ≤ 4 ∧ f 23 = nI n ∧ f 14 = nI c ∧ sOk (fun k => f (6 + k)) ∧ (∀ k, k < 6 → ∃ v, v ≤ 300 ∧ f k = nI v) ∧ f 0 = nI 0 ∧ (∀ i, i < c → ∃ a e, a ≤ e ∧ e < 70 ∧ f (15 + 2 * i) = nI a ∧ f (15 + 2 * i + 1) = nI e) ∧ ∀ g, g < n → (∃ v, v ≤ 9999 ∧ f (24 + 2 * g) = nI v) ∧ (∃ v, v ≤ 9999 ∧ f (24 + 2 * g + 1) = nI v) ∧ ∀ d, d < 70 → ∃ j, j < 6 ∧ f (40 + 70 * g + d) = nI j
/-- the rows of a Told say what f says -/
def TRf (r0 r1 r2 r3 r4 r5 r6 r7 f : Nat → Int32) (n c : Nat) : Prop := okB f n c ∧ r0 0 = nI n ∧ r0 4 = nI c ∧ (∀ k, k < 8 → r7 k = f (6 + k)) ∧ (∀ k, k < 6 → r6 k = f k) ∧ (∀ i, i < c → r4 i = f (15 + 2 * i) ∧ r5 i = f (15 + 2 * i + 1)) ∧ (∀ g, g < n → r1 g = f (24 + 2 * g) ∧ r2 g = f (24 + 2 * g + 1) ∧ ∀ d, d < 70 → r3 (g * 70 + d) = f (40 + 70 * g + d)) ∧ ∀ j, n * 70 ≤ j → j < 420 → r3 j = nI 0
def TR (σ : mS) (b : Nat) (f : Nat → Int32) (n c : Nat) : Prop := TRf (σ b) (σ (b + 1)) (σ (b + 2)) (σ (b + 3)) (σ (b + 4)) (σ (b + 5)) (σ (b + 6)) (σ (b + 7)) f n c
theorem okB.congr {f f2 : Nat → Int32} {n c : Nat} (h : okB f n c) (hf : ∀ x, x < 460 → f x = f2 x) : okB f2 n c := by
  obtain ⟨h1, h2, h3, h4, h5, h6, h7, h8, h9⟩ := h
  refine ⟨h1, h2, by rw [← hf _ (by omega)]; exact h3, by rw [← hf _ (by omega)]; exact h4, fun k hk => ?_, fun k hk => ?_, by rw [← hf _ (by omega)]; exact h7, fun i hi => ?_, fun g hg => ⟨?_, ?_, fun d hd => ?_⟩⟩
  · show inR (f2 (6 + k)) _ _ = true
    rw [← hf _ (by omega)]; exact h5 k hk
  · rw [← hf _ (by omega)]; exact h6 k hk
  · rw [← hf _ (by omega), ← hf _ (by omega)]; exact h8 i hi
  · rw [← hf _ (by omega)]; exact (h9 g hg).1
  · rw [← hf _ (by omega)]; exact (h9 g hg).2.1
  · rw [← hf _ (by omega)]; exact (h9 g hg).2.2 d hd
theorem TRf.congr {r0 r1 r2 r3 r4 r5 r6 r7 f f2 : Nat → Int32} {n c : Nat} (h : TRf r0 r1 r2 r3 r4 r5 r6 r7 f n c) (hf : ∀ x, x < 460 → f x = f2 x) : TRf r0 r1 r2 r3 r4 r5 r6 r7 f2 n c := by
  obtain ⟨h0, h1, h2, h3, h4, h5, h6, h7⟩ := h
  have hn := h0.1
  have hc := h0.2.1
  refine ⟨h0.congr hf, h1, h2, fun k hk => ?_, fun k hk => ?_, fun i hi => ?_, fun g hg => ?_, h7⟩
  · rw [← hf _ (by omega)]; exact h3 k hk
  · rw [← hf _ (by omega)]; exact h4 k hk
  · rw [← hf _ (by omega), ← hf _ (by omega)]; exact h5 i hi
  · rw [← hf _ (by omega), ← hf _ (by omega)]
    refine ⟨(h6 g hg).1, (h6 g hg).2.1, fun d hd => ?_⟩
    rw [← hf _ (by omega)]; exact (h6 g hg).2.2 d hd
theorem TR.rows {σ τ : mS} {b b2 : Nat} {f : Nat → Int32} {n c : Nat} (h : TR σ b f n c) (hr : ∀ k, k < 8 → τ (b2 + k) = σ (b + k)) : TR τ b2 f n c := by
  unfold TR at h ⊢
  rw [hr 1 (by omega), hr 2 (by omega), hr 3 (by omega), hr 4 (by omega), hr 5 (by omega), hr 6 (by omega), hr 7 (by omega), show τ b2 = σ b from hr 0 (by omega)]
  exact h
theorem cpy_in (f g : Nat → Int32) {n k : Nat} (h : k < n) : va_cpy f g 0 0 n k = f k := by
  simp only [va_cpy]; rw [if_pos (by omega)]; congr 1; omega
/-- a copy says the same -/
theorem TR_copy {σ : mS} {b o : Nat} {f : Nat → Int32} {n c : Nat} (h : TR σ o f n c) (hd : b + 8 ≤ o ∨ o + 8 ≤ b) : TR (copyT σ b o) b f n c := by
  have e0 : copyT σ b o b = upd (upd (σ b) 0 (σ o 0)) 4 (σ o 4) := by
    simp only [copyT, cp1]
    rw [upR_n _ _ (by omega), upR_n _ _ (by omega), upR_n _ _ (by omega), upR_n _ _ (by omega)]
    simp [up, upR]
  have e7 : ∀ k, k < 8 → copyT σ b o (b + 7) k = σ (o + 7) k := by
    intro k hk
    simp only [copyT, cp1]
    rw [upR_s, cpy_in _ _ hk, upR_n _ _ (by omega), upR_n _ _ (by omega), upR_n _ _ (by omega), up_n _ _ _ (by omega), upR_n _ _ (by omega), upR_n _ _ (by omega), upR_n _ _ (by omega), up_n _ _ _ (by omega)]
  have e6 : ∀ k, k < 6 → copyT σ b o (b + 6) k = σ (o + 6) k := by
    intro k hk
    simp only [copyT, cp1]
    rw [upR_n _ _ (by omega), upR_s, cpy_in _ _ hk, upR_n _ _ (by omega), upR_n _ _ (by omega), up_n _ _ _ (by omega), upR_n _ _ (by omega), upR_n _ _ (by omega), upR_n _ _ (by omega), up_n _ _ _ (by omega)]
  have e5 : ∀ k, k < 4 → copyT σ b o (b + 5) k = σ (o + 5) k := by
    intro k hk
    simp only [copyT, cp1]
    rw [upR_n _ _ (by omega), upR_n _ _ (by omega), upR_s, cpy_in _ _ hk, upR_n _ _ (by omega), up_n _ _ _ (by omega), upR_n _ _ (by omega), upR_n _ _ (by omega), upR_n _ _ (by omega), up_n _ _ _ (by omega)]
  have e4 : ∀ k, k < 4 → copyT σ b o (b + 4) k = σ (o + 4) k := by
    intro k hk
    simp only [copyT, cp1]
    rw [upR_n _ _ (by omega), upR_n _ _ (by omega), upR_n _ _ (by omega), upR_s, cpy_in _ _ hk, up_n _ _ _ (by omega), upR_n _ _ (by omega), upR_n _ _ (by omega), upR_n _ _ (by omega), up_n _ _ _ (by omega)]
  have e3 : ∀ k, k < 420 → copyT σ b o (b + 3) k = σ (o + 3) k := by
    intro k hk
    simp only [copyT, cp1]
    rw [upR_n _ _ (by omega), upR_n _ _ (by omega), upR_n _ _ (by omega), upR_n _ _ (by omega), up_n _ _ _ (by omega), upR_s, cpy_in _ _ hk, upR_n _ _ (by omega), upR_n _ _ (by omega), up_n _ _ _ (by omega)]
  have e2 : ∀ k, k < 6 → copyT σ b o (b + 2) k = σ (o + 2) k := by
    intro k hk
    simp only [copyT, cp1]
    rw [upR_n _ _ (by omega), upR_n _ _ (by omega), upR_n _ _ (by omega), upR_n _ _ (by omega), up_n _ _ _ (by omega), upR_n _ _ (by omega), upR_s, cpy_in _ _ hk, upR_n _ _ (by omega), up_n _ _ _ (by omega)]
  have e1 : ∀ k, k < 6 → copyT σ b o (b + 1) k = σ (o + 1) k := by
    intro k hk
    simp only [copyT, cp1]
    rw [upR_n _ _ (by omega), upR_n _ _ (by omega), upR_n _ _ (by omega), upR_n _ _ (by omega), up_n _ _ _ (by omega), upR_n _ _ (by omega), upR_n _ _ (by omega), upR_s, cpy_in _ _ hk, up_n _ _ _ (by omega)]
  obtain ⟨h0, h1, h2, h3, h4, h5, h6, h7⟩ := h
  have hn := h0.1
  have hc := h0.2.1
  refine ⟨h0, ?_, ?_, fun k hk => ?_, fun k hk => ?_, fun i hi => ?_, fun g hg => ⟨?_, ?_, fun d hd => ?_⟩, fun j hj hj2 => ?_⟩
  · rw [e0]; simp only [upd]; exact h1
  · rw [e0]; simp only [upd]; exact h2
  · rw [e7 k hk]; exact h3 k hk
  · rw [e6 k hk]; exact h4 k hk
  · rw [e4 i (by omega), e5 i (by omega)]; exact h5 i hi
  · rw [e1 g (by omega)]; exact (h6 g hg).1
  · rw [e2 g (by omega)]; exact (h6 g hg).2.1
  · rw [e3 _ (by omega)]; exact (h6 g hg).2.2 d hd
  · rw [e3 _ hj2]; exact h7 j hj hj2
section TRS
variable {r0 r1 r2 r3 r4 r5 r6 r7 f : Nat → Int32} {n c : Nat}
/-- a group more -/
theorem TRf.group (h : TRf r0 r1 r2 r3 r4 r5 r6 r7 f n c) (hn6 : n < 6) {x y : Int32} (hx : ∃ v, v ≤ 9999 ∧ x = nI v) (hy : ∃ v, v ≤ 9999 ∧ y = nI v) : TRf (upd r0 0 (nI (n + 1))) (upd r1 n x) (upd r2 n y) r3 r4 r5 r6 r7 (comesF f n x y) (n + 1) c := by
  obtain ⟨⟨hn, hc, b3, b4, b5, b6, b7, b8, b9⟩, h1, h2, h3, h4, h5, h6, h7⟩ := h
  have lo : ∀ j, j < 23 → comesF f n x y j = f j := fun j hj => by
    simp only [comesF, upd, fillR]
    rw [if_neg (by omega), if_neg (by omega), if_neg (by omega), if_neg (by omega)]
  have e24 : ∀ g, g < n → comesF f n x y (24 + 2 * g) = f (24 + 2 * g) := fun g hg => by
    simp only [comesF, upd, fillR]
    rw [if_neg (by omega), if_neg (by omega), if_neg (by omega), if_neg (by omega)]
  have e25 : ∀ g, g < n → comesF f n x y (24 + 2 * g + 1) = f (24 + 2 * g + 1) := fun g hg => by
    simp only [comesF, upd, fillR]
    rw [if_neg (by omega), if_neg (by omega), if_neg (by omega), if_neg (by omega)]
  have n24 : comesF f n x y (24 + 2 * n) = x := by
    simp only [comesF, upd, fillR]
    rw [if_neg (by omega), if_neg (by omega), if_neg (by omega), if_pos trivial]
  have n25 : comesF f n x y (24 + 2 * n + 1) = y := by
    simp only [comesF, upd, fillR]
    rw [if_neg (by omega), if_neg (by omega), if_pos trivial]
  have e40 : ∀ g d, g < n → d < 70 → comesF f n x y (40 + 70 * g + d) = f (40 + 70 * g + d) := fun g d hg hd => by
    simp only [comesF, upd, fillR]
    rw [if_neg (by omega), if_neg (by omega), if_neg (by omega), if_neg (by omega)]
  have n40 : ∀ d, d < 70 → comesF f n x y (40 + 70 * n + d) = nI 0 := fun d hd => by
    simp only [comesF, upd, fillR]
    rw [if_neg (by omega), if_pos (by omega)]
  refine ⟨⟨by omega, hc, ?_, by rw [lo _ (by omega)]; exact b4, fun k hk => ?_, fun k hk => by rw [lo _ (by omega)]; exact b6 k hk, by rw [lo _ (by omega)]; exact b7, fun i hi => by rw [lo _ (by omega), lo _ (by omega)]; exact b8 i hi, fun g hg => ?_⟩, ?_, ?_, fun k hk => by rw [lo _ (by omega)]; exact h3 k hk, fun k hk => by rw [lo _ (by omega)]; exact h4 k hk, fun i hi => by rw [lo _ (by omega), lo _ (by omega)]; exact h5 i hi, fun g hg => ?_, fun j hj hj2 => h7 j (by omega) hj2⟩
  · simp [comesF, upd]
  · show inR (comesF f n x y (6 + k)) _ _ = true
    rw [lo _ (by omega)]; exact b5 k hk
  · by_cases e : g = n
    · subst e
      exact ⟨by rw [n24]; exact hx, by rw [n25]; exact hy, fun d hd => ⟨0, by omega, n40 d hd⟩⟩
    · rw [e24 g (by omega), e25 g (by omega)]
      refine ⟨(b9 g (by omega)).1, (b9 g (by omega)).2.1, fun d hd => ?_⟩
      rw [e40 g d (by omega) hd]; exact (b9 g (by omega)).2.2 d hd
  · simp [upd]
  · simp only [upd]; exact h2
  · by_cases e : g = n
    · subst e
      refine ⟨by rw [n24]; simp [upd], by rw [n25]; simp [upd], fun d hd => ?_⟩
      rw [n40 d hd]; exact h7 _ (by omega) (by omega)
    · rw [e24 g (by omega), e25 g (by omega)]
      refine ⟨by simp only [upd, if_neg e]; exact (h6 g (by omega)).1, by simp only [upd, if_neg e]; exact (h6 g (by omega)).2.1, fun d hd => ?_⟩
      rw [e40 g d (by omega) hd]; exact (h6 g (by omega)).2.2 d hd
/-- a load that is another -/
theorem TRf.load (h : TRf r0 r1 r2 r3 r4 r5 r6 r7 f n c) {k : Nat} (hk : k < 6) (hk0 : 0 < k) {x : Int32} (hx : ∃ v, v ≤ 300 ∧ x = nI v) : TRf r0 r1 r2 r3 r4 r5 (upd r6 k x) r7 (upd f k x) n c := by
  obtain ⟨⟨hn, hc, b3, b4, b5, b6, b7, b8, b9⟩, h1, h2, h3, h4, h5, h6, h7⟩ := h
  have hi : ∀ j, 6 ≤ j → upd f k x j = f j := fun j hj => by simp only [upd]; rw [if_neg (by omega)]
  refine ⟨⟨hn, hc, by rw [hi _ (by omega)]; exact b3, by rw [hi _ (by omega)]; exact b4, fun q hq => ?_, fun q hq => ?_, ?_, fun i hi2 => by rw [hi _ (by omega), hi _ (by omega)]; exact b8 i hi2, fun g hg => ⟨by rw [hi _ (by omega)]; exact (b9 g hg).1, by rw [hi _ (by omega)]; exact (b9 g hg).2.1, fun d hd => by rw [hi _ (by omega)]; exact (b9 g hg).2.2 d hd⟩⟩, h1, h2, fun q hq => by rw [hi _ (by omega)]; exact h3 q hq, fun q hq => ?_, fun i hi2 => by rw [hi _ (by omega), hi _ (by omega)]; exact h5 i hi2, fun g hg => ⟨by rw [hi _ (by omega)]; exact (h6 g hg).1, by rw [hi _ (by omega)]; exact (h6 g hg).2.1, fun d hd => by rw [hi _ (by omega)]; exact (h6 g hg).2.2 d hd⟩, h7⟩
  · show inR (upd f k x (6 + q)) _ _ = true
    rw [hi _ (by omega)]; exact b5 q hq
  · by_cases e : q = k
    · subst e; simp only [upd, if_true]; exact hx
    · simp only [upd, if_neg e]; exact b6 q hq
  · simp only [upd]; rw [if_neg (by omega)]; exact b7
  · by_cases e : q = k
    · subst e; simp [upd]
    · simp only [upd, if_neg e]; exact h4 q hq
/-- a setting that is another -/
theorem TRf.set (h : TRf r0 r1 r2 r3 r4 r5 r6 r7 f n c) {k : Nat} (hk : k < 8) {x : Int32} (hx : inR x (mLeast.getD k 0) (mMost.getD k 0) = true) : TRf r0 r1 r2 r3 r4 r5 r6 (upd r7 k x) (upd f (6 + k) x) n c := by
  obtain ⟨⟨hn, hc, b3, b4, b5, b6, b7, b8, b9⟩, h1, h2, h3, h4, h5, h6, h7⟩ := h
  have hi : ∀ j, j < 6 ∨ 14 ≤ j → upd f (6 + k) x j = f j := fun j hj => by simp only [upd]; rw [if_neg (by omega)]
  refine ⟨⟨hn, hc, by rw [hi _ (by omega)]; exact b3, by rw [hi _ (by omega)]; exact b4, fun q hq => ?_, fun q hq => by rw [hi _ (by omega)]; exact b6 q hq, by rw [hi _ (by omega)]; exact b7, fun i hi2 => by rw [hi _ (by omega), hi _ (by omega)]; exact b8 i hi2, fun g hg => ⟨by rw [hi _ (by omega)]; exact (b9 g hg).1, by rw [hi _ (by omega)]; exact (b9 g hg).2.1, fun d hd => by rw [hi _ (by omega)]; exact (b9 g hg).2.2 d hd⟩⟩, h1, h2, fun q hq => ?_, fun q hq => by rw [hi _ (by omega)]; exact h4 q hq, fun i hi2 => by rw [hi _ (by omega), hi _ (by omega)]; exact h5 i hi2, fun g hg => ⟨by rw [hi _ (by omega)]; exact (h6 g hg).1, by rw [hi _ (by omega)]; exact (h6 g hg).2.1, fun d hd => by rw [hi _ (by omega)]; exact (h6 g hg).2.2 d hd⟩, h7⟩
  · show inR (upd f (6 + k) x (6 + q)) _ _ = true
    by_cases e : q = k
    · subst e; simp only [upd, if_true]; exact hx
    · simp only [upd]; rw [if_neg (by omega)]; exact b5 q hq
  · by_cases e : q = k
    · subst e; simp [upd]
    · simp only [upd, if_neg e]; rw [if_neg (by omega)]; exact h3 q hq
/-- a camp more -/
theorem TRf.camp (h : TRf r0 r1 r2 r3 r4 r5 r6 r7 f n c) (hc4 : c < 4) {a e : Nat} (hae : a ≤ e) (he : e < 70) : TRf (upd r0 4 (nI (c + 1))) r1 r2 r3 (upd r4 c (nI a)) (upd r5 c (nI e)) r6 r7 (campComesF f c (nI a) (nI e)) n (c + 1) := by
  obtain ⟨⟨hn, hc, b3, b4, b5, b6, b7, b8, b9⟩, h1, h2, h3, h4, h5, h6, h7⟩ := h
  have hi : ∀ j, j < 14 ∨ 23 ≤ j → campComesF f c (nI a) (nI e) j = f j := fun j hj => by
    simp only [campComesF, upd]
    rw [if_neg (by omega), if_neg (by omega), if_neg (by omega)]
  have e1 : ∀ i, i < c → campComesF f c (nI a) (nI e) (15 + 2 * i) = f (15 + 2 * i) := fun i hi => by
    simp only [campComesF, upd]
    rw [if_neg (by omega), if_neg (by omega), if_neg (by omega)]
  have e2 : ∀ i, i < c → campComesF f c (nI a) (nI e) (15 + 2 * i + 1) = f (15 + 2 * i + 1) := fun i hi => by
    simp only [campComesF, upd]
    rw [if_neg (by omega), if_neg (by omega), if_neg (by omega)]
  have n1 : campComesF f c (nI a) (nI e) (15 + 2 * c) = nI a := by
    simp only [campComesF, upd]
    rw [if_neg (by omega), if_neg (by omega), if_pos trivial]
  have n2 : campComesF f c (nI a) (nI e) (15 + 2 * c + 1) = nI e := by
    simp only [campComesF, upd]
    rw [if_neg (by omega), if_pos trivial]
  refine ⟨⟨hn, by omega, by rw [hi _ (by omega)]; exact b3, by simp [campComesF, upd], fun q hq => ?_, fun q hq => by rw [hi _ (by omega)]; exact b6 q hq, by rw [hi _ (by omega)]; exact b7, fun i hi2 => ?_, fun g hg => ⟨by rw [hi _ (by omega)]; exact (b9 g hg).1, by rw [hi _ (by omega)]; exact (b9 g hg).2.1, fun d hd => by rw [hi _ (by omega)]; exact (b9 g hg).2.2 d hd⟩⟩, by simp only [upd]; exact h1, by simp [upd], fun q hq => by rw [hi _ (by omega)]; exact h3 q hq, fun q hq => by rw [hi _ (by omega)]; exact h4 q hq, fun i hi2 => ?_, fun g hg => ⟨by rw [hi _ (by omega)]; exact (h6 g hg).1, by rw [hi _ (by omega)]; exact (h6 g hg).2.1, fun d hd => by rw [hi _ (by omega)]; exact (h6 g hg).2.2 d hd⟩, h7⟩
  · show inR (campComesF f c (nI a) (nI e) (6 + q)) _ _ = true
    rw [hi _ (by omega)]; exact b5 q hq
  · by_cases ei : i = c
    · subst ei; exact ⟨a, e, hae, he, n1, n2⟩
    · rw [e1 i (by omega), e2 i (by omega)]; exact b8 i (by omega)
  · by_cases ei : i = c
    · subst ei; rw [n1, n2]; simp [upd]
    · rw [e1 i (by omega), e2 i (by omega)]
      simp only [upd, if_neg ei]
      exact h5 i (by omega)
/-- a camp goes -/
theorem TRf.strike (h : TRf r0 r1 r2 r3 r4 r5 r6 r7 f n c) {q : Nat} (hq : q < c) : TRf (upd r0 4 (nI (c - 1))) r1 r2 r3 (va_cpy r4 r4 (q + 1) q (c - 1 - q)) (va_cpy r5 r5 (q + 1) q (c - 1 - q)) r6 r7 (strikesF f q c) n (c - 1) := by
  obtain ⟨⟨hn, hc, b3, b4, b5, b6, b7, b8, b9⟩, h1, h2, h3, h4, h5, h6, h7⟩ := h
  have hi : ∀ j, j < 14 ∨ 23 ≤ j → strikesF f q c j = f j := fun j hj => by
    simp only [strikesF, upd, va_cpy]
    rw [if_neg (by omega), if_neg (by omega)]
  have e1 : ∀ i, i < c - 1 → strikesF f q c (15 + 2 * i) = f (15 + 2 * (if i < q then i else i + 1)) := fun i hi => by
    simp only [strikesF, upd, va_cpy]
    rw [if_neg (by omega)]
    by_cases h : i < q
    · rw [if_neg (by omega), if_pos h]
    · rw [if_pos (by omega), if_neg h]; congr 1; omega
  have e2 : ∀ i, i < c - 1 → strikesF f q c (15 + 2 * i + 1) = f (15 + 2 * (if i < q then i else i + 1) + 1) := fun i hi => by
    simp only [strikesF, upd, va_cpy]
    rw [if_neg (by omega)]
    by_cases h : i < q
    · rw [if_neg (by omega), if_pos h]
    · rw [if_pos (by omega), if_neg h]; congr 1; omega
  have e3 : ∀ (r : Nat → Int32) i, i < c - 1 → va_cpy r r (q + 1) q (c - 1 - q) i = r (if i < q then i else i + 1) := fun r i hi => by
    simp only [va_cpy]
    by_cases h : i < q
    · rw [if_neg (by omega), if_pos h]
    · rw [if_pos (by omega), if_neg h]; congr 1; omega
  have hlt : ∀ i, i < c - 1 → (if i < q then i else i + 1) < c := fun i hi => by split <;> omega
  refine ⟨⟨hn, by omega, by rw [hi _ (by omega)]; exact b3, by simp [strikesF, upd], fun k hk => ?_, fun k hk => by rw [hi _ (by omega)]; exact b6 k hk, by rw [hi _ (by omega)]; exact b7, fun i hi2 => ?_, fun g hg => ⟨by rw [hi _ (by omega)]; exact (b9 g hg).1, by rw [hi _ (by omega)]; exact (b9 g hg).2.1, fun d hd => by rw [hi _ (by omega)]; exact (b9 g hg).2.2 d hd⟩⟩, by simp only [upd]; exact h1, by simp [upd], fun k hk => by rw [hi _ (by omega)]; exact h3 k hk, fun k hk => by rw [hi _ (by omega)]; exact h4 k hk, fun i hi2 => ?_, fun g hg => ⟨by rw [hi _ (by omega)]; exact (h6 g hg).1, by rw [hi _ (by omega)]; exact (h6 g hg).2.1, fun d hd => by rw [hi _ (by omega)]; exact (h6 g hg).2.2 d hd⟩, h7⟩
  · show inR (strikesF f q c (6 + k)) _ _ = true
    rw [hi _ (by omega)]; exact b5 k hk
  · rw [e1 i hi2, e2 i hi2]; exact b8 _ (hlt i hi2)
  · rw [e1 i hi2, e2 i hi2, e3 r4 i hi2, e3 r5 i hi2]; exact h5 _ (hlt i hi2)
/-- days of a group are of a kind -/
theorem TRf.plan (h : TRf r0 r1 r2 r3 r4 r5 r6 r7 f n c) {g a m k : Nat} (hg : g < n) (hm : a + m ≤ 70) (hk : k < 6) : TRf r0 r1 r2 (fillR r3 (g * 70 + a) (g * 70 + a + m) (nI k)) r4 r5 r6 r7 (fillR f (40 + 70 * g + a) (40 + 70 * g + a + m) (nI k)) n c := by
  obtain ⟨⟨hn, hc, b3, b4, b5, b6, b7, b8, b9⟩, h1, h2, h3, h4, h5, h6, h7⟩ := h
  have hi : ∀ j, j < 40 → fillR f (40 + 70 * g + a) (40 + 70 * g + a + m) (nI k) j = f j := fun j hj => by
    simp only [fillR]
    rw [if_neg (by omega)]
  refine ⟨⟨hn, hc, by rw [hi _ (by omega)]; exact b3, by rw [hi _ (by omega)]; exact b4, fun q hq => ?_, fun q hq => by rw [hi _ (by omega)]; exact b6 q hq, by rw [hi _ (by omega)]; exact b7, fun i hi2 => by rw [hi _ (by omega), hi _ (by omega)]; exact b8 i hi2, fun g2 hg2 => ⟨by rw [hi _ (by omega)]; exact (b9 g2 hg2).1, by rw [hi _ (by omega)]; exact (b9 g2 hg2).2.1, fun d hd => ?_⟩⟩, h1, h2, fun q hq => by rw [hi _ (by omega)]; exact h3 q hq, fun q hq => by rw [hi _ (by omega)]; exact h4 q hq, fun i hi2 => by rw [hi _ (by omega), hi _ (by omega)]; exact h5 i hi2, fun g2 hg2 => ⟨by rw [hi _ (by omega)]; exact (h6 g2 hg2).1, by rw [hi _ (by omega)]; exact (h6 g2 hg2).2.1, fun d hd => ?_⟩, fun j hj hj2 => ?_⟩
  · show inR (fillR f _ _ _ (6 + q)) _ _ = true
    rw [hi _ (by omega)]; exact b5 q hq
  · simp only [fillR]
    split
    · exact ⟨k, hk, rfl⟩
    · exact (b9 g2 hg2).2.2 d hd
  · simp only [fillR]
    by_cases h : g * 70 + a ≤ g2 * 70 + d ∧ g2 * 70 + d < g * 70 + a + m
    · rw [if_pos h, if_pos (by omega)]
    · rw [if_neg h, if_neg (by omega)]; exact (h6 g2 hg2).2.2 d hd
  · simp only [fillR]
    have : g * 70 + 70 ≤ n * 70 := by omega
    rw [if_neg (by omega)]; exact h7 j hj hj2
end TRS
end
section
/-! ===== the relation, and the calls that tell ===== -/
def RC (σ : mS) : Prop := σ 116 23 = -1 ∧ σ 116 24 = -1 ∧ σ 127 0 = nI 0 ∧ (σ 37 0 = nI 0 ∧ σ 38 0 = nI 0 ∧ ∀ k, 70 ≤ k → σ 33 k = 0) ∧ (σ 48 0 = nI 0 ∧ σ 49 0 = nI 0 ∧ ∀ k, 70 ≤ k → σ 44 k = 0)
/-- what can be undone: k states, the next place j -/
def RU (σ : mS) (k j : Nat) : Prop := k ≤ 8 ∧ j < 8 ∧ σ 116 4 = nI k ∧ σ 3 2 = nI k ∧ σ 3 3 = nI j ∧ ∀ i, i < k → ∃ n c, TR σ (pastB ((j + 8 - k + i) % 8)) (fun x => σ 118 (460 * i + x)) n c
/-- the tape -/
def isByte (v : Int32) : Prop := -128 ≤ v.toInt ∧ v.toInt ≤ 127
def RP (σ : mS) (m : Nat) : Prop := m ≤ 400 ∧ σ 14 1 = nI m ∧ σ 116 6 = nI m ∧ ∀ i, i < m → σ 15 i = σ 120 i ∧ isByte (σ 15 i)
def Rel (σ : mS) : Prop := ∃ n c k j m, TR σ 4 (σ 117) n c ∧ RC σ ∧ RU σ k j ∧ RP σ m ∧ σ 13 3 = σ 116 7
theorem RU.frame {σ τ : mS} {k j : Nat} (h : RU σ k j) (hr : ∀ a, 52 ≤ a → a < 116 → τ a = σ a) (h3 : τ 3 = σ 3) (h8 : τ 118 = σ 118) (h4 : τ 116 4 = σ 116 4) : RU τ k j := by
  obtain ⟨a1, a2, a3, a4, a5, a6⟩ := h
  refine ⟨a1, a2, by rw [h4]; exact a3, by rw [h3]; exact a4, by rw [h3]; exact a5, fun i hi => ?_⟩
  obtain ⟨n, c, hT⟩ := a6 i hi
  refine ⟨n, c, ?_⟩
  rw [h8]
  have hm : (j + 8 - k + i) % 8 < 8 := Nat.mod_lt _ (by decide)
  exact hT.rows (fun q hq => hr _ (by unfold pastB; omega) (by unfold pastB; omega))
theorem Rel.frame {σ τ : mS} (h : Rel σ) (hr : ∀ a, a < 16 ∨ (52 ≤ a ∧ a < 116) ∨ a = 117 ∨ a = 118 ∨ a = 120 → τ a = σ a) (h4 : τ 116 4 = σ 116 4) (h6 : τ 116 6 = σ 116 6) (h7 : τ 116 7 = σ 116 7) (hc : RC τ) : Rel τ := by
  obtain ⟨n, c, k, j, m, hT, -, hU, ⟨p1, p2, p3, p4⟩, hF⟩ := h
  refine ⟨n, c, k, j, m, ?_, hc, hU.frame (fun a h1 h2 => hr a (by omega)) (hr 3 (by omega)) (hr 118 (by omega)) h4, ⟨p1, by rw [hr 14 (by omega)]; exact p2, by rw [h6]; exact p3, fun i hi => ?_⟩, ?_⟩
  · rw [hr 117 (by omega)]
    exact hT.rows (fun q hq => hr _ (by omega))
  · rw [hr 15 (by omega), hr 120 (by omega)]; exact p4 i hi
  · rw [hr 13 (by omega), h7]; exact hF
/-- only the mark of a throw is another -/
theorem Rel.thrown {σ : mS} (h : Rel σ) (v : Int32) : Rel (up σ 116 0 v) := by
  have hc : RC σ := by obtain ⟨n, c, k, j, m, hT, hC, -⟩ := h; exact hC
  exact h.frame (fun a ha => up_n σ _ _ (by omega)) rfl rfl rfl hc
theorem remS_past (σ : mS) {j u a : Nat} (h : 4 ≤ a) : remS σ j u a = copyT σ (pastB j) 4 a := by
  simp only [remS]
  rw [up_n _ _ _ (by omega), up_n _ _ _ (by omega)]
theorem remS_hi (σ : mS) {j u a : Nat} (hj : j < 8) (h : 116 ≤ a) : remS σ j u a = σ a := by
  rw [remS_past _ (by omega), copyT_far _ (by unfold pastB; omega)]
/-- what is remembered on both sides -/
theorem RU.rem {σ τ : mS} {n c k j : Nat} (hT : TR σ 4 (σ 117) n c) (h : RU σ k j) (t4 : τ 116 4 = nI (min k 7 + 1)) (t2 : τ 3 2 = nI (min (k + 1) 8)) (t3 : τ 3 3 = nI ((j + 1) % 8)) (t8 : τ 118 = keptF k (σ 118) (σ 117)) (hr : ∀ a, 52 ≤ a → a < 116 → τ a = remS σ j k a) : RU τ (min k 7 + 1) ((j + 1) % 8) := by
  obtain ⟨a1, a2, a3, a4, a5, a6⟩ := h
  have hk : min (k + 1) 8 = min k 7 + 1 := by omega
  refine ⟨by omega, Nat.mod_lt _ (by decide), t4, by rw [t2, hk], t3, fun i hi => ?_⟩
  by_cases hl : i = min k 7
  · subst hl
    have e : ((j + 1) % 8 + 8 - (min k 7 + 1) + min k 7) % 8 = j := by omega
    rw [e]
    have h1 : TR (copyT σ (pastB j) 4) (pastB j) (σ 117) n c := TR_copy hT (by unfold pastB; omega)
    have h2 : TR τ (pastB j) (σ 117) n c := h1.rows (fun q hq => by rw [hr _ (by unfold pastB; omega) (by unfold pastB; omega), remS_past _ (by unfold pastB; omega)])
    refine ⟨n, c, TRf.congr h2 (fun x hx => ?_)⟩
    rw [t8]
    simp only [keptF, va_cpy]
    rw [if_pos (by omega)]
    congr 1; omega
  · have hi2 : i < min k 7 := by omega
    have hs : ((j + 1) % 8 + 8 - (min k 7 + 1) + i) % 8 = (j + 8 - k + (i + (if k = 8 then 1 else 0))) % 8 := by
      by_cases e : k = 8
      · rw [if_pos e]; omega
      · rw [if_neg e]; omega
    have hi3 : i + (if k = 8 then 1 else 0) < k := by split <;> omega
    obtain ⟨n2, c2, hT2⟩ := a6 _ hi3
    rw [hs]
    have hne : (j + 8 - k + (i + (if k = 8 then 1 else 0))) % 8 ≠ j := by
      by_cases e : k = 8
      · rw [if_pos e]; omega
      · rw [if_neg e]; omega
    have hm : (j + 8 - k + (i + (if k = 8 then 1 else 0))) % 8 < 8 := Nat.mod_lt _ (by decide)
    generalize hz : (j + 8 - k + (i + (if k = 8 then 1 else 0))) % 8 = z at *
    refine ⟨n2, c2, TRf.congr (TR.rows hT2 (fun q hq => ?_)) (fun x hx => ?_)⟩
    · rw [hr _ (by unfold pastB; omega) (by unfold pastB; omega), remS_past _ (by unfold pastB; omega), copyT_far _ (by unfold pastB; omega)]
    · rw [t8]
      simp only [keptF]
      by_cases e : k = 8
      · rw [if_pos e, if_pos e]
        simp only [va_cpy]
        rw [if_neg (by omega), if_pos (by omega)]
        congr 1; omega
      · rw [if_neg e, if_neg e]
        simp only [va_cpy]
        rw [if_neg (by omega)]
        rfl
theorem inR_ex {x : Int32} {n : Nat} (hn : n < 2 ^ 31) (h : inR x (nI 0) (nI n) = true) : ∃ v, v ≤ n ∧ x = nI v := inR_n hn h
/-- a call on both sides: the same answer, and the relation still -/
def Same (G : mG) (I J : mI) (as : List Value) (σ : mS) : Prop := ∃ (r : Int32) (σ1 σ2 : mS), mV G I 12 (.ref 3 :: as) σ (some (.int r)) σ1 ∧ mV G J 12 (.ref 116 :: as) σ1 (some (.int r)) σ2 ∧ Rel σ2
section OPS
variable {G : mG} {σ : mS}
/-- behind a remembering: the book's state τ, the reference's after it -/
theorem Rel.rem {τ : mS} {n c k j m n2 c2 : Nat} {f : Nat → Int32} (hT : TR σ 4 (σ 117) n c) (hC : RC σ) (hU : RU σ k j) (hP : RP σ m) (hF : σ 13 3 = σ 116 7)
    (hr : ∀ a, (12 ≤ a ∧ a < 116) ∨ a = 3 → τ a = remS σ j k a) (h6 : ∀ a, 116 ≤ a → τ a = σ a) (hT2 : TR τ 4 f n2 c2) :
    Rel (upR (up (upR (up τ 116 0 (nI 0)) 118 (keptF k (τ 118) (τ 117))) 116 4 (nI (min k 7 + 1))) 117 f) := by
  have hj := hU.2.1
  have hrem : ∀ a, (12 ≤ a ∧ a < 52) → τ a = σ a := fun a ha => by rw [hr a (by omega), remS_far _ (by omega) (by omega)]
  refine ⟨n2, c2, min k 7 + 1, (j + 1) % 8, m, TR.rows hT2 (fun q hq => ?_), ?_, hU.rem hT rfl ?_ ?_ ?_ (fun a h1 h2 => ?_), ?_, ?_⟩
  · rw [upR_n _ _ (by omega), up_n _ _ _ (by omega), upR_n _ _ (by omega), up_n _ _ _ (by omega)]
  · obtain ⟨c1, c2, c3, c4, c5⟩ := hC
    refine ⟨?_, ?_, ?_, ?_, ?_⟩
    · show τ 116 23 = _; rw [h6 116 (by omega)]; exact c1
    · show τ 116 24 = _; rw [h6 116 (by omega)]; exact c2
    · show τ 127 0 = _; rw [h6 127 (by omega)]; exact c3
    · show τ 37 0 = _ ∧ τ 38 0 = _ ∧ ∀ k, _ → τ 33 k = 0
      rw [hrem 37 (by omega), hrem 38 (by omega), hrem 33 (by omega)]; exact c4
    · show τ 48 0 = _ ∧ τ 49 0 = _ ∧ ∀ k, _ → τ 44 k = 0
      rw [hrem 48 (by omega), hrem 49 (by omega), hrem 44 (by omega)]; exact c5
  · show τ 3 2 = _
    rw [hr 3 (by omega)]
    simp only [remS]
    rw [up_s]
  · show τ 3 3 = _
    rw [hr 3 (by omega)]
    simp only [remS]
    rw [up_r _ _ _ (by decide), up_s]
  · show keptF k (τ 118) (τ 117) = _
    rw [h6 118 (by omega), h6 117 (by omega)]
  · rw [upR_n _ _ (by omega), up_n _ _ _ (by omega), upR_n _ _ (by omega), up_n _ _ _ (by omega), hr a (by omega)]
  · obtain ⟨p1, p2, p3, p4⟩ := hP
    refine ⟨p1, ?_, ?_, fun i hi => ?_⟩
    · show τ 14 1 = _; rw [hrem 14 (by omega)]; exact p2
    · show τ 116 6 = _; rw [h6 116 (by omega)]; exact p3
    · show τ 15 i = τ 120 i ∧ isByte (τ 15 i)
      rw [hrem 15 (by omega), h6 120 (by omega)]; exact p4 i hi
  · show τ 13 3 = τ 116 7
    rw [hrem 13 (by omega), h6 116 (by omega)]; exact hF
theorem op_group (h : Rel σ) (fit tired : Int32) : Same G mX4_group mX5_group [.int fit, .int tired] σ := by
  by_cases hA : (inR fit (nI 0) (nI 9999) && inR tired (nI 0) (nI 9999)) = true
  · obtain ⟨n, c, k, j, m, hT, hC, hU, hP, hF⟩ := id h
    have hb := hT.1
    by_cases h6 : n = 6
    · subst h6
      exact ⟨-2, σ, _, b_groupB (d := 11) fit tired hA hT.2.1, m_groupB (d := 11) fit tired hA hb.2.2.1, h.thrown _⟩
    · have hn6 : n < 6 := by have := hb.1; omega
      obtain ⟨u1, u2, u3, u4, u5, -⟩ := id hU
      have e7 : ∀ a, 116 ≤ a → up (up (up (remS σ j k) 5 n fit) 6 n tired) 4 0 (nI (n + 1)) a = σ a := fun a ha => by
        rw [up_n _ _ _ (by omega), up_n _ _ _ (by omega), up_n _ _ _ (by omega), remS_hi _ u2 ha]
      have hx := Bool.and_eq_true_iff.mp hA
      refine ⟨nI n, _, _, b_groupC (d := 10) fit tired hA hT.2.1 hn6 u5 u2 u4 u1, m_groupC (d := 10) fit tired hA (n := n) (k := k) ?_ hn6 ?_ u1, ?_⟩
      · rw [e7 117 (by omega)]; exact hb.2.2.1
      · rw [e7 116 (by omega)]; exact u3
      · refine Rel.rem hT hC hU hP hF (fun a ha => ?_) e7 (n2 := n + 1) (c2 := c) ?_
        · rw [up_n _ _ _ (by omega), up_n _ _ _ (by omega), up_n _ _ _ (by omega)]
        · have hg := TRf.group hT hn6 (inR_ex (by decide) hx.1) (inR_ex (by decide) hx.2)
          rw [e7 117 (by omega)]
          have q : ∀ a, 4 ≤ a → a < 12 → remS σ j k a = σ a := fun a h1 h2 => remS_far _ h1 (by omega)
          show TRf (upd (remS σ j k 4) 0 _) (upd (remS σ j k 5) n _) (upd (remS σ j k 6) n _) (remS σ j k 7) (remS σ j k 8) (remS σ j k 9) (remS σ j k 10) (remS σ j k 11) _ _ _
          rw [q 4 (by omega) (by omega), q 5 (by omega) (by omega), q 6 (by omega) (by omega), q 7 (by omega) (by omega), q 8 (by omega) (by omega), q 9 (by omega) (by omega), q 10 (by omega) (by omega), q 11 (by omega) (by omega)]
          exact hg
  · have hA := Bool.not_eq_true _ ▸ hA
    exact ⟨-1, σ, _, b_groupA (d := 11) fit tired hA, m_groupA (d := 11) fit tired hA, h.thrown _⟩
theorem op_load (h : Rel σ) (kind v : Int32) : Same G mX4_load mX5_load [.int kind, .int v] σ := by
  by_cases hA : (inR kind (nI 1) (nI 5) && inR v (nI 0) (nI 300)) = true
  · obtain ⟨n, c, k, j, m, hT, hC, hU, hP, hF⟩ := id h
    obtain ⟨hx1, hx2⟩ := Bool.and_eq_true_iff.mp hA
    have hx1' := hx1
    simp only [inR, Bool.and_eq_true, decide_eq_true_eq] at hx1'
    obtain ⟨q, hq, e⟩ := nI_ex (x := kind) (n := 5) (by decide) (Int32.le_trans (nI_le (Nat.zero_le 1) (by decide)) hx1'.1) hx1'.2
    subst e
    have hq0 : 0 < q := by
      have := (nI_le_iff (a := 1) (b := q) (by decide) (by omega)).mp hx1'.1
      omega
    have hs := hT.2.2.2.2.1 q (by omega)
    have hs : σ 10 q = σ 117 q := hs
    by_cases hB : σ 10 q = v
    · exact ⟨nI 0, σ, _, b_loadB (d := 12) v (by omega) hA hB, m_loadB (d := 11) v (by omega) hA (hs ▸ hB), h.thrown _⟩
    · refine ⟨nI 1, _, _, b_loadC (d := 12) v (by omega) hA hB, m_loadC (d := 11) v (by omega) hA (by show ¬ σ 117 q = v; rw [← hs]; exact hB), n, c, k, j, m, ?_, hC, hU.frame (fun a h1 h2 => ?_) rfl rfl rfl, hP, hF⟩
      · exact TRf.load hT (by omega) hq0 (inR_ex (by decide) hx2)
      · rw [upR_n _ _ (by omega), up_n _ _ _ (by omega), up_n _ _ _ (by omega)]
  · have hA := Bool.not_eq_true _ ▸ hA
    exact ⟨nI 0, σ, _, b_loadA (d := 12) kind v hA, m_loadA (d := 11) kind v hA, h.thrown _⟩
theorem op_set (h : Rel σ) (t v : Int32) : Same G mX4_set mX5_set [.int t, .int v] σ := by
  by_cases hA : inR t (nI 0) (nI 7) = true
  · obtain ⟨n, c, k, j, m, hT, hC, hU, hP, hF⟩ := id h
    obtain ⟨q, hq, e⟩ := inR_n (by decide) hA
    subst e
    have hq8 : q < 8 := by omega
    by_cases hB : inR v (mLeast.getD q 0) (mMost.getD q 0) = true
    · have hs : σ 11 q = σ 117 (6 + q) := hT.2.2.2.1 q hq8
      by_cases hD : σ 11 q = v
      · exact ⟨nI 0, σ, _, b_setC (d := 11) v hq8 hB hD, m_setC (d := 10) v hq8 hB (hs ▸ hD), h.thrown _⟩
      · refine ⟨nI 1, _, _, b_setD (d := 11) v hq8 hB hD, m_setD (d := 10) v hq8 hB (by show ¬ σ 117 (6 + q) = v; rw [← hs]; exact hD), n, c, k, j, m, ?_, hC, hU.frame (fun a h1 h2 => ?_) rfl rfl rfl, hP, hF⟩
        · exact TRf.set hT hq8 hB
        · rw [upR_n _ _ (by omega), up_n _ _ _ (by omega), up_n _ _ _ (by omega)]
    · have hB := Bool.not_eq_true _ ▸ hB
      exact ⟨nI 0, σ, _, b_setB (d := 11) v hq8 hB, m_setB (d := 10) v hq8 hB, h.thrown _⟩
  · have hA := Bool.not_eq_true _ ▸ hA
    exact ⟨nI 0, σ, _, b_setA (d := 11) t v hA, m_setA (d := 11) t v hA, h.thrown _⟩
theorem days_n {a b : Int32} (h : (dB a && dB b && decide (a ≤ b)) = true) : ∃ x y, x ≤ y ∧ y < 70 ∧ a = nI x ∧ b = nI y := by
  simp only [Bool.and_eq_true, decide_eq_true_eq] at h
  obtain ⟨x, hx, ex⟩ := dB_n h.1.1
  obtain ⟨y, hy, ey⟩ := dB_n h.1.2
  have := h.2
  rw [ex, ey, nI_le_iff (by omega) (by omega)] at this
  exact ⟨x, y, this, hy, ex, ey⟩
theorem op_camp (h : Rel σ) (a b : Int32) : Same G mX4_camp mX5_camp [.int a, .int b] σ := by
  by_cases hA : (dB a && dB b && decide (a ≤ b)) = true
  · obtain ⟨n, c, k, j, m, hT, hC, hU, hP, hF⟩ := id h
    have hb := hT.1
    by_cases h4 : c = 4
    · subst h4
      exact ⟨-2, σ, _, b_campB (d := 10) a b hA hT.2.2.1, m_campB (d := 10) a b hA hb.2.2.2.1, h.thrown _⟩
    · have hc4 : c < 4 := by have := hb.2.1; omega
      obtain ⟨x, y, hxy, hy, ex, ey⟩ := days_n hA
      subst ex; subst ey
      obtain ⟨u1, u2, u3, u4, u5, -⟩ := id hU
      have e7 : ∀ q, 116 ≤ q → up (up (up (remS σ j k) 8 c (nI x)) 9 c (nI y)) 4 4 (nI (c + 1)) q = σ q := fun q hq => by
        rw [up_n _ _ _ (by omega), up_n _ _ _ (by omega), up_n _ _ _ (by omega), remS_hi _ u2 hq]
      refine ⟨nI c, _, _, b_campC (d := 10) _ _ hA hT.2.2.1 hc4 u5 u2 u4 u1, m_campC (d := 10) _ _ hA (n := c) (k := k) ?_ hc4 ?_ u1, ?_⟩
      · rw [e7 117 (by omega)]; exact hb.2.2.2.1
      · rw [e7 116 (by omega)]; exact u3
      · refine Rel.rem hT hC hU hP hF (fun q hq => ?_) e7 (n2 := n) (c2 := c + 1) ?_
        · rw [up_n _ _ _ (by omega), up_n _ _ _ (by omega), up_n _ _ _ (by omega)]
        · have hg := TRf.camp hT hc4 hxy hy
          rw [e7 117 (by omega)]
          have q : ∀ a, 4 ≤ a → a < 12 → remS σ j k a = σ a := fun a h1 h2 => remS_far _ h1 (by omega)
          show TRf (upd (remS σ j k 4) 4 _) (remS σ j k 5) (remS σ j k 6) (remS σ j k 7) (upd (remS σ j k 8) c _) (upd (remS σ j k 9) c _) (remS σ j k 10) (remS σ j k 11) _ _ _
          rw [q 4 (by omega) (by omega), q 5 (by omega) (by omega), q 6 (by omega) (by omega), q 7 (by omega) (by omega), q 8 (by omega) (by omega), q 9 (by omega) (by omega), q 10 (by omega) (by omega), q 11 (by omega) (by omega)]
          exact hg
  · have hA := Bool.not_eq_true _ ▸ hA
    exact ⟨-1, σ, _, b_campA (d := 10) a b hA, m_campA (d := 10) a b hA, h.thrown _⟩
theorem op_strike (h : Rel σ) (x : Int32) : Same G mX4_strike mX5_strike [.int x] σ := by
  obtain ⟨n, c, k, j, m, hT, hC, hU, hP, hF⟩ := id h
  have hb := hT.1
  have h44 : σ 4 4 = nI c := hT.2.2.1
  have h14 : σ 117 14 = nI c := hb.2.2.2.1
  have hc4 := hb.2.1
  by_cases hA : grB (nI c) x = true
  · obtain ⟨q, hq, e⟩ := grB_n rfl (by omega) hA
    subst e
    obtain ⟨u1, u2, u3, u4, u5, -⟩ := id hU
    have e7 : ∀ a, 116 ≤ a → up (upR (upR (remS σ j k) 8 (va_cpy (σ 8) (σ 8) (q + 1) q (c - 1 - q))) 9 (va_cpy (σ 9) (σ 9) (q + 1) q (c - 1 - q))) 4 4 (nI (c - 1)) a = σ a := fun a ha => by
      rw [up_n _ _ _ (by omega), upR_n _ _ (by omega), upR_n _ _ (by omega), remS_hi _ u2 ha]
    refine ⟨nI (c - 1), _, _, b_strikeB (d := 10) h44 hq hc4 u5 u2 u4 u1, m_strikeB (d := 10) (n := c) (k := k) ?_ hq hc4 ?_ u1, ?_⟩
    · rw [e7 117 (by omega)]; exact h14
    · rw [e7 116 (by omega)]; exact u3
    · refine Rel.rem hT hC hU hP hF (fun a ha => ?_) e7 (n2 := n) (c2 := c - 1) ?_
      · rw [up_n _ _ _ (by omega), upR_n _ _ (by omega), upR_n _ _ (by omega)]
      · have hg := TRf.strike hT hq
        rw [e7 117 (by omega)]
        have q2 : ∀ a, 4 ≤ a → a < 12 → remS σ j k a = σ a := fun a h1 h2 => remS_far _ h1 (by omega)
        show TRf (upd (remS σ j k 4) 4 _) (remS σ j k 5) (remS σ j k 6) (remS σ j k 7) (va_cpy (σ 8) (σ 8) _ _ _) (va_cpy (σ 9) (σ 9) _ _ _) (remS σ j k 10) (remS σ j k 11) _ _ _
        rw [q2 4 (by omega) (by omega), q2 5 (by omega) (by omega), q2 6 (by omega) (by omega), q2 7 (by omega) (by omega), q2 10 (by omega) (by omega), q2 11 (by omega) (by omega)]
        exact hg
  · have hA := Bool.not_eq_true _ ▸ hA
    exact ⟨-1, σ, _, b_strikeA (d := 11) x (by rw [h44]; exact hA), m_strikeA (d := 11) x h14 hc4 (by rw [h14]; exact hA), h.thrown _⟩
theorem op_plan (h : Rel σ) (g a b kind : Int32) : Same G mX4_plan mX5_plan [.int g, .int a, .int b, .int kind] σ := by
  obtain ⟨n, c, k, j, m, hT, hC, hU, hP, hF⟩ := id h
  have hb := hT.1
  have h40 : σ 4 0 = nI n := hT.2.1
  have h23 : σ 117 23 = nI n := hb.2.2.1
  have hn6 := hb.1
  by_cases hA : (grB (nI n) g && dB a && dB b && decide (a ≤ b) && inR kind (nI 0) (nI 5)) = true
  · have hA2 := hA
    simp only [Bool.and_eq_true] at hA2
    obtain ⟨⟨⟨⟨g1, g2⟩, g3⟩, g4⟩, g5⟩ := hA2
    obtain ⟨gn, hgn, eg⟩ := grB_n rfl (by omega) g1
    obtain ⟨x, y, hxy, hy, ex, ey⟩ := days_n (show (dB a && dB b && decide (a ≤ b)) = true by rw [g2, g3, g4]; rfl)
    obtain ⟨kn, hkn, ek⟩ := inR_n (by decide) g5
    subst eg; subst ex; subst ey; subst ek
    obtain ⟨u1, u2, u3, u4, u5, -⟩ := id hU
    have hcc : cntB (fun i => decide (¬ σ 7 (gn * 70 + (x + i)) = nI kn)) (y + 1 - x) = cntB (fun i => decide (¬ σ 117 (40 + 70 * gn + (x + i)) = nI kn)) (y + 1 - x) := by
      refine cntB_congr (fun i hi => ?_)
      rw [show σ 7 (gn * 70 + (x + i)) = σ 117 (40 + 70 * gn + (x + i)) from (hT.2.2.2.2.2.2.1 gn hgn).2.2 (x + i) (by omega)]
    have hpl := TRf.plan hT hgn (a := x) (m := y + 1 - x) (k := kn) (by omega) (by omega)
    by_cases h0 : cntB (fun i => decide (¬ σ 117 (40 + 70 * gn + (x + i)) = nI kn)) (y + 1 - x) = 0
    · refine ⟨nI 0, σ, _, b_planB (d := 10) h40 hn6 hgn hxy hy g5 (hcc.trans h0), m_planB (d := 8) h23 hn6 hgn hxy hy g5 h0, ?_⟩
      have hall : ∀ q, (∀ i, i < q → σ 117 (40 + 70 * gn + (x + i)) = nI kn) ∨ 0 < cntB (fun i => decide (¬ σ 117 (40 + 70 * gn + (x + i)) = nI kn)) q := by
        intro q
        induction q with
        | zero => exact Or.inl (fun i hi => absurd hi (by omega))
        | succ q ih =>
          rcases ih with ih | ih
          · by_cases e : σ 117 (40 + 70 * gn + (x + q)) = nI kn
            · refine Or.inl (fun i hi => ?_)
              by_cases ei : i = q
              · subst ei; exact e
              · exact ih i (by omega)
            · refine Or.inr ?_
              simp only [cntB]
              rw [if_pos (by rw [decide_eq_true_eq]; exact e)]
              omega
          · refine Or.inr ?_
            simp only [cntB]
            omega
      rcases hall (y + 1 - x) with hal | hal
      · have e1 : fillR (σ 117) (40 + 70 * gn + x) (40 + 70 * gn + x + (y + 1 - x)) (nI kn) = σ 117 := by
          funext q
          simp only [fillR]
          split
          · rename_i hq
            have := hal (q - (40 + 70 * gn + x)) (by omega)
            rw [← this]
            congr 1
            omega
          · rfl
        rw [e1]
        exact h.frame (fun q hq => by
          by_cases e : q = 117
          · subst e; exact upR_s _ _ _
          · rw [upR_n _ _ e, up_n _ _ _ (by omega)]) rfl rfl rfl hC
      · omega
    · have h0' : 0 < cntB (fun i => decide (¬ σ 117 (40 + 70 * gn + (x + i)) = nI kn)) (y + 1 - x) := by omega
      have e7 : ∀ q, 116 ≤ q → upR (remS σ j k) 7 (fillR (σ 7) (gn * 70 + x) (gn * 70 + x + (y + 1 - x)) (nI kn)) q = σ q := fun q hq => by
        rw [upR_n _ _ (by omega), remS_hi _ u2 hq]
      have e117 := e7 117 (by omega)
      have bp := b_planC (G := G) (d := 10) h40 hn6 hgn hxy hy g5 (by rw [hcc]; exact h0') u5 u2 u4 u1
      rw [hcc] at bp
      have mp := m_planC (G := G) (d := 8) (σ := upR (remS σ j k) 7 (fillR (σ 7) (gn * 70 + x) (gn * 70 + x + (y + 1 - x)) (nI kn))) (k := k) (n := n) (g := gn) (a := x) (b := y) (kind := nI kn) (by rw [e117]; exact h23) hn6 hgn hxy hy g5 (by rw [e117]; exact h0') (by rw [e7 116 (by omega)]; exact u3) u1
      rw [e117] at mp
      refine ⟨_, _, _, bp, mp, ?_⟩
      have hq := Rel.rem (τ := upR (remS σ j k) 7 (fillR (σ 7) (gn * 70 + x) (gn * 70 + x + (y + 1 - x)) (nI kn))) hT hC hU hP hF (fun q hq => by rw [upR_n _ _ (by omega)]) e7 (f := fillR (σ 117) (40 + 70 * gn + x) (40 + 70 * gn + x + (y + 1 - x)) (nI kn)) (n2 := n) (c2 := c) ?_
      · rw [e117] at hq
        exact hq
      · have q2 : ∀ a, 4 ≤ a → a < 12 → remS σ j k a = σ a := fun a h1 h2 => remS_far _ h1 (by omega)
        show TRf (remS σ j k 4) (remS σ j k 5) (remS σ j k 6) (fillR (σ 7) _ _ _) (remS σ j k 8) (remS σ j k 9) (remS σ j k 10) (remS σ j k 11) _ _ _
        rw [q2 4 (by omega) (by omega), q2 5 (by omega) (by omega), q2 6 (by omega) (by omega), q2 8 (by omega) (by omega), q2 9 (by omega) (by omega), q2 10 (by omega) (by omega), q2 11 (by omega) (by omega)]
        exact hpl
  · have hA := Bool.not_eq_true _ ▸ hA
    exact ⟨-1, σ, _, b_planA (d := 10) g a b kind (by rw [h40]; exact hA), m_planA (d := 8) g a b kind h23 (by omega) (by rw [h23]; exact hA), h.thrown _⟩
theorem op_undo (h : Rel σ) : Same G mX4_undo mX5_undo [] σ := by
  obtain ⟨n, c, k, j, m, hT, hC, hU, hP, hF⟩ := id h
  obtain ⟨u1, u2, u3, u4, u5, u6⟩ := id hU
  cases k with
  | zero => exact ⟨-1, σ, _, b_undoA (d := 11) u4, m_undoA (d := 12) u3, h.thrown _⟩
  | succ k =>
    have hm : (j + 7) % 8 < 8 := Nat.mod_lt _ (by decide)
    have hp := pastB_ge ((j + 7) % 8)
    obtain ⟨n2, c2, hT2⟩ := u6 k (by omega)
    have es : (j + 8 - (k + 1) + k) % 8 = (j + 7) % 8 := by omega
    rw [es] at hT2
    have e7 : ∀ a, 12 ≤ a → copyT (up (up σ 3 2 (nI k)) 3 3 (nI ((j + 7) % 8))) 4 (pastB ((j + 7) % 8)) a = σ a := fun a ha => by
      rw [copyT_far _ (by omega), up_n _ _ _ (by omega), up_n _ _ _ (by omega)]
    have e3 : copyT (up (up σ 3 2 (nI k)) 3 3 (nI ((j + 7) % 8))) 4 (pastB ((j + 7) % 8)) 3 = upd (upd (σ 3) 2 (nI k)) 3 (nI ((j + 7) % 8)) := by
      rw [copyT_far _ (by omega)]; simp [up, upR]
    have mu := m_undoB (G := G) (d := 12) (σ := copyT (up (up σ 3 2 (nI k)) 3 3 (nI ((j + 7) % 8))) 4 (pastB ((j + 7) % 8))) (k := k) (by rw [e7 116 (by omega)]; exact u3) (by omega)
    refine ⟨nI k, _, _, b_undoB (d := 11) u5 u2 u4 (by omega), mu, n2, c2, k, (j + 7) % 8, m, ?_, ?_, ?_, ?_, ?_⟩
    · have h1 : TR (up (up σ 3 2 (nI k)) 3 3 (nI ((j + 7) % 8))) (pastB ((j + 7) % 8)) (fun x => σ 118 (460 * k + x)) n2 c2 := hT2.rows (fun q hq => by rw [up_n _ _ _ (by omega), up_n _ _ _ (by omega)])
      have h2 := TR_copy (b := 4) h1 (by omega)
      refine TRf.congr (TR.rows h2 (fun q hq => ?_)) (fun x hx => ?_)
      · rw [upR_n _ _ (by omega), up_n _ _ _ (by omega), up_n _ _ _ (by omega)]
      · rw [upR_s, e7 118 (by omega)]
        simp only [va_cpy]
        rw [if_pos (by omega)]
        congr 1
    · obtain ⟨c1, c2, c3, c4, c5⟩ := hC
      refine ⟨?_, ?_, ?_, ?_, ?_⟩
      · show copyT (up (up σ 3 2 (nI k)) 3 3 (nI ((j + 7) % 8))) 4 (pastB ((j + 7) % 8)) 116 23 = _; rw [e7 116 (by omega)]; exact c1
      · show copyT (up (up σ 3 2 (nI k)) 3 3 (nI ((j + 7) % 8))) 4 (pastB ((j + 7) % 8)) 116 24 = _; rw [e7 116 (by omega)]; exact c2
      · show copyT (up (up σ 3 2 (nI k)) 3 3 (nI ((j + 7) % 8))) 4 (pastB ((j + 7) % 8)) 127 0 = _; rw [e7 127 (by omega)]; exact c3
      · show copyT (up (up σ 3 2 (nI k)) 3 3 (nI ((j + 7) % 8))) 4 (pastB ((j + 7) % 8)) 37 0 = _ ∧ copyT (up (up σ 3 2 (nI k)) 3 3 (nI ((j + 7) % 8))) 4 (pastB ((j + 7) % 8)) 38 0 = _ ∧ ∀ q, 70 ≤ q → copyT (up (up σ 3 2 (nI k)) 3 3 (nI ((j + 7) % 8))) 4 (pastB ((j + 7) % 8)) 33 q = 0
        rw [e7 37 (by omega), e7 38 (by omega), e7 33 (by omega)]; exact c4
      · show copyT (up (up σ 3 2 (nI k)) 3 3 (nI ((j + 7) % 8))) 4 (pastB ((j + 7) % 8)) 48 0 = _ ∧ copyT (up (up σ 3 2 (nI k)) 3 3 (nI ((j + 7) % 8))) 4 (pastB ((j + 7) % 8)) 49 0 = _ ∧ ∀ q, 70 ≤ q → copyT (up (up σ 3 2 (nI k)) 3 3 (nI ((j + 7) % 8))) 4 (pastB ((j + 7) % 8)) 44 q = 0
        rw [e7 48 (by omega), e7 49 (by omega), e7 44 (by omega)]; exact c5
    · refine ⟨by omega, hm, rfl, ?_, ?_, fun i hi => ?_⟩
      · show copyT (up (up σ 3 2 (nI k)) 3 3 (nI ((j + 7) % 8))) 4 (pastB ((j + 7) % 8)) 3 2 = _; rw [e3]; simp [upd]
      · show copyT (up (up σ 3 2 (nI k)) 3 3 (nI ((j + 7) % 8))) 4 (pastB ((j + 7) % 8)) 3 3 = _; rw [e3]; simp [upd]
      · obtain ⟨n3, c3, hT3⟩ := u6 i (by omega)
        have e5 : ((j + 7) % 8 + 8 - k + i) % 8 = (j + 8 - (k + 1) + i) % 8 := by omega
        rw [e5]
        refine ⟨n3, c3, TRf.congr (TR.rows hT3 (fun q hq => ?_)) (fun x hx => ?_)⟩
        · have hp2 := pastB_ge ((j + 8 - (k + 1) + i) % 8)
          have hm2 : (j + 8 - (k + 1) + i) % 8 < 8 := Nat.mod_lt _ (by decide)
          have hp3 : pastB ((j + 8 - (k + 1) + i) % 8) ≤ 108 := by unfold pastB; omega
          rw [upR_n _ _ (by omega), up_n _ _ _ (by omega), up_n _ _ _ (by omega), e7 _ (by omega)]
        · show _ = copyT (up (up σ 3 2 (nI k)) 3 3 (nI ((j + 7) % 8))) 4 (pastB ((j + 7) % 8)) 118 _
          rw [e7 118 (by omega)]
    · obtain ⟨p1, p2, p3, p4⟩ := hP
      refine ⟨p1, ?_, ?_, fun i hi => ?_⟩
      · show copyT (up (up σ 3 2 (nI k)) 3 3 (nI ((j + 7) % 8))) 4 (pastB ((j + 7) % 8)) 14 1 = _; rw [e7 14 (by omega)]; exact p2
      · show copyT (up (up σ 3 2 (nI k)) 3 3 (nI ((j + 7) % 8))) 4 (pastB ((j + 7) % 8)) 116 6 = _; rw [e7 116 (by omega)]; exact p3
      · show copyT (up (up σ 3 2 (nI k)) 3 3 (nI ((j + 7) % 8))) 4 (pastB ((j + 7) % 8)) 15 i = copyT (up (up σ 3 2 (nI k)) 3 3 (nI ((j + 7) % 8))) 4 (pastB ((j + 7) % 8)) 120 i ∧ isByte (copyT (up (up σ 3 2 (nI k)) 3 3 (nI ((j + 7) % 8))) 4 (pastB ((j + 7) % 8)) 15 i)
        rw [e7 15 (by omega), e7 120 (by omega)]; exact p4 i hi
    · show copyT (up (up σ 3 2 (nI k)) 3 3 (nI ((j + 7) % 8))) 4 (pastB ((j + 7) % 8)) 13 3 = copyT (up (up σ 3 2 (nI k)) 3 3 (nI ((j + 7) % 8))) 4 (pastB ((j + 7) % 8)) 116 7
      rw [e7 13 (by omega), e7 116 (by omega)]; exact hF
theorem op_count (h : Rel σ) (w : Int32) : Same G mX4_count mX5_count [.int w] σ := by
  obtain ⟨n, c, k, j, m, hT, hC, hU, hP, hF⟩ := id h
  by_cases h1 : inR w (nI 10) (nI 15) = true
  · have h1' := h1
    simp only [inR, Bool.and_eq_true, decide_eq_true_eq] at h1'
    obtain ⟨q, hq, e⟩ := nI_ex (x := w) (n := 15) (by decide) (Int32.le_trans (nI_le (Nat.zero_le 10) (by decide)) h1'.1) h1'.2
    subst e
    have h10 := (nI_le_iff (a := 10) (b := q) (by decide) (by omega)).mp h1'.1
    obtain ⟨i, rfl⟩ : ∃ i, q = 10 + i := ⟨q - 10, by omega⟩
    exact ⟨_, σ, _, b_count10 (d := 11) (k := i) (by omega), by rw [show σ 10 i = σ 117 i from hT.2.2.2.2.1 i (by omega)]; exact m_count10 (d := 11) (by omega), h.thrown _⟩
  · have h1 := Bool.not_eq_true _ ▸ h1
    by_cases h2 : inR w (nI 20) (nI 27) = true
    · have h2' := h2
      simp only [inR, Bool.and_eq_true, decide_eq_true_eq] at h2'
      obtain ⟨q, hq, e⟩ := nI_ex (x := w) (n := 27) (by decide) (Int32.le_trans (nI_le (Nat.zero_le 20) (by decide)) h2'.1) h2'.2
      subst e
      have h20 := (nI_le_iff (a := 20) (b := q) (by decide) (by omega)).mp h2'.1
      obtain ⟨i, rfl⟩ : ∃ i, q = 20 + i := ⟨q - 20, by omega⟩
      exact ⟨_, σ, _, b_count20 (d := 11) (k := i) (by omega), by rw [show σ 11 i = σ 117 (6 + i) from hT.2.2.2.1 i (by omega)]; exact m_count20 (d := 11) (by omega), h.thrown _⟩
    · have h2 := Bool.not_eq_true _ ▸ h2
      by_cases e0 : w = nI 0
      · subst e0
        exact ⟨_, σ, _, b_count0 (d := 11), by rw [show σ 4 0 = σ 117 23 from hT.2.1.trans hT.1.2.2.1.symm]; exact m_count0 (d := 11), h.thrown _⟩
      · by_cases e1 : w = nI 1
        · subst e1
          exact ⟨_, σ, _, b_count1 (d := 11), by rw [show σ 4 4 = σ 117 14 from hT.2.2.1.trans hT.1.2.2.2.1.symm]; exact m_count1 (d := 11), h.thrown _⟩
        · by_cases e2 : w = nI 2
          · subst e2
            exact ⟨_, σ, _, b_count2 (d := 11), by rw [show σ 14 1 = σ 116 6 from hP.2.1.trans hP.2.2.1.symm]; exact m_count2 (d := 11), h.thrown _⟩
          · by_cases e3 : w = nI 3
            · subst e3
              exact ⟨_, σ, _, b_count3 (d := 11), by rw [show σ 3 2 = σ 116 4 from hU.2.2.2.1.trans hU.2.2.1.symm]; exact m_count3 (d := 11), h.thrown _⟩
            · exact ⟨-1, σ, _, b_countX (d := 11) w h1 h2 e0 e1 e2 e3, m_countX (d := 11) w h1 h2 e0 e1 e2 e3, h.thrown _⟩
theorem isByte_nar (x : Int32) : isByte (vp_nar .byte x) := by
  show isByte x.toInt8.toInt32
  unfold isByte
  rw [Int8.toInt_toInt32]
  have h1 := Int8.le_toInt x.toInt8
  have h2 := Int8.toInt_lt x.toInt8
  omega
theorem op_feed (h : Rel σ) (a b c e f : Int32) : Same G mX4_feed mX5_feed [.int a, .int b, .int c, .int e, .int f] σ := by
  obtain ⟨n, cc, k, j, m, hT, hC, hU, hP, hF⟩ := id h
  obtain ⟨p1, p2, p3, p4⟩ := hP
  by_cases hf : m + 20 ≤ 400
  · refine ⟨nI (m + 20), _, _, b_feedB (d := 11) a b c e f p2 hf, m_feedB (d := 11) a b c e f p3 hf, n, cc, k, j, m + 20, ?_, hC, hU.frame (fun q h1 h2 => ?_) rfl rfl rfl, ⟨hf, rfl, rfl, fun i hi => ?_⟩, hF⟩
    · exact TR.rows hT (fun q hq => by rw [up_n _ _ _ (by omega), upR_n _ _ (by omega), up_n _ _ _ (by omega), up_n _ _ _ (by omega), upR_n _ _ (by omega)])
    · rw [up_n _ _ _ (by omega), upR_n _ _ (by omega), up_n _ _ _ (by omega), up_n _ _ _ (by omega), upR_n _ _ (by omega)]
    · show put4 (put4 (put4 (put4 (put4 (σ 15) m a) (m + 4) b) (m + 8) c) (m + 12) e) (m + 16) f i = put4 (put4 (put4 (put4 (put4 (σ 120) m a) (m + 4) b) (m + 8) c) (m + 12) e) (m + 16) f i ∧ isByte (put4 (put4 (put4 (put4 (put4 (σ 15) m a) (m + 4) b) (m + 8) c) (m + 12) e) (m + 16) f i)
      have step : ∀ (F1 F2 : Nat → Int32) (q : Nat) (w : Int32), (∀ i, i < q → F1 i = F2 i ∧ isByte (F1 i)) → ∀ i, i < q + 4 → put4 F1 q w i = put4 F2 q w i ∧ isByte (put4 F1 q w i) := by
        intro F1 F2 q w hq i hi
        simp only [put4, upd]
        by_cases e3 : i = q + 3
        · rw [if_pos e3, if_pos e3]; exact ⟨rfl, isByte_nar _⟩
        · rw [if_neg e3, if_neg e3]
          by_cases e2 : i = q + 2
          · rw [if_pos e2, if_pos e2]; exact ⟨rfl, isByte_nar _⟩
          · rw [if_neg e2, if_neg e2]
            by_cases e1 : i = q + 1
            · rw [if_pos e1, if_pos e1]; exact ⟨rfl, isByte_nar _⟩
            · rw [if_neg e1, if_neg e1]
              by_cases e0 : i = q
              · rw [if_pos e0, if_pos e0]; exact ⟨rfl, isByte_nar _⟩
              · rw [if_neg e0, if_neg e0]; exact hq i (by omega)
      exact step _ _ (m + 16) f (step _ _ (m + 12) e (step _ _ (m + 8) c (step _ _ (m + 4) b (step _ _ m a p4)))) i hi
  · exact ⟨-1, σ, _, b_feedA (d := 11) a b c e f p2 p1 (by omega), m_feedA (d := 11) a b c e f p3 p1 (by omega), h.thrown _⟩
theorem op_end (h : Rel σ) (x : Int32) : Same G mX4_end mX5_end [.int x] σ := by
  obtain ⟨n, cc, k, j, m, hT, hC, hU, hP, hF⟩ := id h
  obtain ⟨p1, p2, p3, p4⟩ := hP
  by_cases hA : inR x (nI 0) (nI m) = true
  · obtain ⟨q, hq, e⟩ := inR_n (by omega) hA
    subst e
    refine ⟨nI 1, _, _, b_endB (d := 12) (nI q) (by rw [p2]; exact hA), m_endB (d := 11) (nI q) (by show inR (nI q) (nI 0) (σ 116 6) = true; rw [p3]; exact hA), n, cc, k, j, q, ?_, hC, hU.frame (fun a h1 h2 => ?_) rfl rfl rfl, ⟨by omega, rfl, rfl, fun i hi => p4 i (by omega)⟩, hF⟩
    · exact TR.rows hT (fun a ha => by rw [up_n _ _ _ (by omega), up_n _ _ _ (by omega), up_n _ _ _ (by omega)])
    · rw [up_n _ _ _ (by omega), up_n _ _ _ (by omega), up_n _ _ _ (by omega)]
  · have hA := Bool.not_eq_true _ ▸ hA
    exact ⟨nI 0, σ, _, b_endA (d := 12) x (by rw [p2]; exact hA), m_endA (d := 11) x (by rw [p3]; exact hA), h.thrown _⟩
theorem op_fault (h : Rel σ) : Same G mX4_fault mX5_fault [] σ := by
  obtain ⟨n, cc, k, j, m, hT, hC, hU, hP, hF⟩ := id h
  exact ⟨_, σ, _, b_fault (d := 12), by rw [hF]; exact m_fault (d := 12), h.thrown _⟩
end OPS
end
section
/-! ===== questions: what both sides find from day to day ===== -/
/-- what the reference's row says of a group, a camp left out -/
def pQ (f : Nat → Int32) (g nc : Nat) (x : Int32) : sP := (fun k => f (6 + k), fun k => f (f (40 + 70 * g + k)).toNatClampNeg, fun k => cfN (fun i => f (15 + 2 * i)) (fun i => f (15 + 2 * i + 1)) x k nc, f (24 + 2 * g), f (24 + 2 * g + 1))
theorem cfN_congr {F F2 L L2 : Nat → Int32} (x : Int32) (k : Nat) : ∀ n, (∀ i, i < n → F i = F2 i ∧ L i = L2 i) → cfN F L x k n = cfN F2 L2 x k n := by
  intro n
  induction n with
  | zero => intro _; rfl
  | succ n ih =>
    intro h
    simp only [cfN]
    rw [ih (fun i hi => h i (by omega)), (h n (by omega)).1, (h n (by omega)).2]
theorem okB.s {f : Nat → Int32} {n c : Nat} (h : okB f n c) (g nc : Nat) (x : Int32) : sOk (pQ f g nc x).1 := h.2.2.2.2.1
theorem pB_pQ {σ : mS} {f : Nat → Int32} {n c g : Nat} (h : TR σ 4 f n c) (hg : g < n) (x : Int32) : sEq (pB σ g c x) (pQ f g c x) 70 := by
  obtain ⟨h0, h1, h2, h3, h4, h5, h6, h7⟩ := h
  refine ⟨fun k hk => h3 k hk, fun k hk => ⟨?_, ?_⟩, (h6 g hg).1, (h6 g hg).2.1⟩
  · obtain ⟨j, hj, e⟩ := (h0.2.2.2.2.2.2.2.2 g hg).2.2 k hk
    show σ 10 (σ 7 (g * 70 + k)).toNatClampNeg = f (f (40 + 70 * g + k)).toNatClampNeg
    rw [show σ 7 (g * 70 + k) = f (40 + 70 * g + k) from (h6 g hg).2.2 k hk, e, nI_clamp (by omega)]
    exact h4 j hj
  · exact cfN_congr x k c (fun i hi => h5 i hi)
theorem pM_pQ {σ : mS} {n c g : Nat} (h24 : σ 116 24 = -1) : sEq (pM σ g c) (pQ (σ 117) g c (σ 116 23)) 70 := by
  refine ⟨fun k hk => rfl, fun k hk => ⟨?_, rfl⟩, rfl, rfl⟩
  show (if nI k = σ 116 24 then σ 116 25 else _) = _
  rw [h24, if_neg]
  · rfl
  · intro e
    have := congrArg Int32.toInt e
    rw [nI_toInt (by omega)] at this
    have e2 : (-1 : Int32).toInt = -1 := by decide
    omega
theorem Gone.congr {σ : mS} {p q : sP} {n : Nat} (h : Gone σ p n) (hq : sEq p q n) : Gone σ q n := by
  refine ⟨fun k hk => (h.1 k hk).trans (hq.mono hk).sum, fun k hk => ?_⟩
  obtain ⟨a1, a2, a3, a4, a5⟩ := h.2 k hk
  refine ⟨a1.trans (hq.load hk), a2.trans (hq.mono (show k + 1 ≤ n by omega)).fit, a3.trans (hq.mono (show k + 1 ≤ n by omega)).tir, ?_, ?_⟩
  · rw [a4, (hq.mono (show k ≤ n by omega)).hl]
  · rw [a5, hq.inj hk]
/-- course a has followed group g for N days -/
def Fw (τ : mS) (a : Nat) (f : Nat → Int32) (g nc : Nat) (x : Int32) (N : Nat) : Prop := Lived τ a (pQ f g nc x) N ∧ (∀ k, k < 70 → τ (a + 3) k = f (40 + 70 * g + k)) ∧ ∀ j, j < 6 → τ (a + 2) j = f j
def QR (σ : mS) (n c : Nat) : Prop := TR σ 4 (σ 117) n c ∧ RC σ
/-- only what is found from day to day is another -/
def Fr (σ τ : mS) : Prop := (∀ a, a < 16 ∨ (52 ≤ a ∧ a < 116) ∨ a = 117 ∨ a = 118 ∨ a = 120 → τ a = σ a) ∧ τ 116 4 = σ 116 4 ∧ τ 116 6 = σ 116 6 ∧ τ 116 7 = σ 116 7 ∧ RC τ
theorem Fr.qr {σ τ : mS} {n c : Nat} (h : Fr σ τ) (hq : QR σ n c) : QR τ n c := by
  refine ⟨?_, h.2.2.2.2⟩
  rw [h.1 117 (by omega)]
  exact hq.1.rows (fun q hq => h.1 _ (by omega))
theorem Fr.trans {σ τ υ : mS} (h : Fr σ τ) (h2 : Fr τ υ) : Fr σ υ := ⟨fun a ha => (h2.1 a ha).trans (h.1 a ha), h2.2.1.trans h.2.1, h2.2.2.1.trans h.2.2.1, h2.2.2.2.1.trans h.2.2.2.1, h2.2.2.2.2⟩
theorem Rel.fr {σ τ : mS} (h : Rel σ) (hf : Fr σ τ) : Rel τ := h.frame hf.1 hf.2.1 hf.2.2.1 hf.2.2.2.1 hf.2.2.2.2
theorem Fr.thrown {σ : mS} {n c : Nat} (hq : QR σ n c) (v : Int32) : Fr σ (up σ 116 0 v) := ⟨fun a ha => up_n σ _ _ (by omega), rfl, rfl, rfl, hq.2⟩
theorem Fr.rfl {σ : mS} {n c : Nat} (hq : QR σ n c) : Fr σ σ := ⟨fun a ha => Eq.refl _, Eq.refl _, Eq.refl _, Eq.refl _, hq.2⟩
/-- a question to both sides -/
def Ask (G : mG) (I : mI) (as : List Value) (r : Int32) (σ : mS) : Prop := ∃ τ, mV G I 12 as σ (some (.int r)) τ ∧ Fr σ τ
theorem Same.of {G : mG} {I J : mI} {as : List Value} {σ : mS} (h : Rel σ) (hB : ∀ n c, QR σ n c → ∃ r, Ask G I (.ref 3 :: as) r σ ∧ ∀ σ2, σ2 117 = σ 117 → QR σ2 n c → Ask G J (.ref 116 :: as) r σ2) : Same G I J as σ := by
  obtain ⟨n, c, k, j, m, hT, hC, hU, hP, hF⟩ := id h
  obtain ⟨r, ⟨τ, h1, f1⟩, h2⟩ := hB n c ⟨hT, hC⟩
  obtain ⟨υ, h3, f2⟩ := h2 τ (f1.1 117 (by omega)) (f1.qr ⟨hT, hC⟩)
  exact ⟨r, τ, υ, h1, h3, h.fr (f1.trans f2)⟩
section QU
variable {G : mG} {d : Nat} {σ : mS}
theorem q_follow {n c a g N : Nat} (ha : a = 29 ∨ a = 40) (hq : QR σ n c) (hg : g < n) (hN : N ≤ 70) (x : Int32) {y : Int32} (hy : y = nI N - nI 1) : ∃ τ, mV G mX0_follow (d + 4) [.ref a, .ref 4, .int (nI g), .int x, .int y] σ none τ ∧ Fw τ a (σ 117) g c x N ∧ RC τ ∧ ∀ b, b ≤ a ∨ a + 10 < b → τ b = σ b := by
  obtain ⟨hT, hC⟩ := hq
  have hB := pB_pQ hT hg x
  obtain ⟨h0, h1, h2, h3, h4, h5, h6, h7⟩ := hT
  obtain ⟨c1, c2, c3, c4, c5⟩ := hC
  have hn6 := h0.1
  have hac : isCourse a ∧ 11 < a ∧ σ (a + 8) 0 = nI 0 ∧ σ (a + 9) 0 = nI 0 ∧ ∀ k, 70 ≤ k → σ (a + 4) k = 0 := by
    rcases ha with e | e
    · subst e; exact ⟨isCourse_29, by omega, c4.1, c4.2.1, c4.2.2⟩
    · subst e; exact ⟨isCourse_40, by omega, c5.1, c5.2.1, c5.2.2⟩
  obtain ⟨i1, i2, i3, i4, i5⟩ := hac
  have hs : sOk (σ 11) := fun k hk => by
    have := h0.2.2.2.2.1 k hk
    rw [show σ 11 k = σ 117 (6 + k) from h3 k hk]; exact this
  have hcc : okC (σ 8) (σ 9) c := fun i hi => by
    obtain ⟨u, e, q1, q2, q3, q4⟩ := h0.2.2.2.2.2.2.2.1 i hi
    exact ⟨u, e, q1, q2, (h5 i hi).1.trans q3, (h5 i hi).2.trans q4⟩
  have hkk : okK (σ 7) g := fun k hk => by
    obtain ⟨j, hj, e⟩ := (h0.2.2.2.2.2.2.2.2 g hg).2.2 k hk
    exact ⟨j, hj, ((h6 g hg).2.2 k hk).trans e⟩
  have hL0 : Lived (fwS σ a g c N x) a (pB σ g c x) N := by
    have := (fwE_L (σ := σ) (c := a) (g := g) (n := c) (x := x) i3 i4).nexts N
    rw [Nat.zero_add] at this
    exact this
  have far : ∀ b, b ≤ a ∨ a + 10 < b → fwS σ a g c N x b = σ b := fun b hb => by
    unfold fwS
    rw [lvS_far _ _ (by omega), fwE_far _ (by omega)]
  have r4 : ∀ k, 70 ≤ k → fwS σ a g c N x (a + 4) k = 0 := fun k hk => by
    unfold fwS
    rw [lvS_far _ _ (by omega)]
    simp only [fwE]
    rw [up_n _ _ _ (by omega), up_n _ _ _ (by omega), upR_s]
    simp only [rowC]
    rw [if_neg (by omega)]
  have hz := hL0.2.2.1 0 (by omega)
  refine ⟨_, v_follow (G := G) (d := d) i1 i2 (by omega) h2 h0.2.1 hy hN hcc hkk hs i3 i4 i5, ⟨hL0.congr (hB.mono hN) (fun k hk => (hB.2.1 k hk).2), fun k hk => ?_, fun j hj => ?_⟩, ?_, far⟩
  · unfold fwS
    rw [lvS_far _ _ (by omega)]
    simp only [fwE]
    rw [up_n _ _ _ (by omega), up_n _ _ _ (by omega), upR_n _ _ (by omega), fwA_3 _ _ _ hk]
    exact (h6 g hg).2.2 k hk
  · unfold fwS
    rw [lvS_far _ _ (by omega)]
    simp only [fwE]
    rw [up_n _ _ _ (by omega), up_n _ _ _ (by omega), upR_n _ _ (by omega), fwA_2 _ _ _ hj]
    exact h4 j hj
  · refine ⟨by rw [far 116 (by omega)]; exact c1, by rw [far 116 (by omega)]; exact c2, by rw [far 127 (by omega)]; exact c3, ?_, ?_⟩
    · rcases ha with e | e
      · subst e; exact ⟨hz.2.2.1, hz.2.2.2, r4⟩
      · subst e; rw [far 37 (by omega), far 38 (by omega), far 33 (by omega)]; exact c4
    · rcases ha with e | e
      · subst e; rw [far 48 (by omega), far 49 (by omega), far 44 (by omega)]; exact c5
      · subst e; exact ⟨hz.2.2.1, hz.2.2.2, r4⟩
theorem q_frB {n c a : Nat} {τ : mS} (ha : a = 29 ∨ a = 40) (hC : RC τ) (far : ∀ b, b ≤ a ∨ a + 10 < b → τ b = σ b) : Fr σ τ := by
  refine ⟨fun b hb => far b ?_, ?_, ?_, ?_, hC⟩
  · rcases ha with e | e <;> omega
  all_goals rw [far 116 (by rcases ha with e | e <;> omega)]
theorem q_goes {n c g to : Nat} (hb : okB (σ 117) n c) (h24 : σ 116 24 = -1) (h0 : σ 127 0 = nI 0) (hg : g < n) (ht : to < 70) : ∃ τ, mV G mX5_goes (d + 2) [.ref 116, .int (nI g), .int (nI to)] σ none τ ∧ Gone τ (pQ (σ 117) g c (σ 116 23)) (to + 1) ∧ ∀ b, b < 124 ∨ 129 < b → τ b = σ b := by
  have hn6 := hb.1
  have hG : Gone σ (pM σ g c) 0 := ⟨fun k hk => by
    have : k = 0 := by omega
    subst this
    exact h0, fun k hk => absurd hk (Nat.not_lt_zero k)⟩
  exact ⟨_, v_goes (G := G) (d := d) (by omega) ht hb.2.2.2.1 hb.2.1 hb.2.2.2.2.1 (hb.2.2.2.2.2.2.2.2 g hg).2.2 h0, (hG.nexts (to + 1)).congr ((pM_pQ (n := n) h24).mono (by omega)), fun b h => goN_far _ _ h _⟩
theorem q_form {n c g to : Nat} (hb : okB (σ 117) n c) (h24 : σ 116 24 = -1) (h0 : σ 127 0 = nI 0) (hg : g < n) (ht : to < 70) : ∃ τ, mV G mX5_formOf (d + 3) [.ref 116, .int (nI g), .int (nI to)] σ (some (.int (sForm (pQ (σ 117) g c (σ 116 23)) to))) τ ∧ Gone τ (pQ (σ 117) g c (σ 116 23)) (to + 1) ∧ ∀ b, b < 124 ∨ 129 < b → τ b = σ b := by
  have hn6 := hb.1
  have hG : Gone σ (pM σ g c) 0 := ⟨fun k hk => by
    have : k = 0 := by omega
    subst this
    exact h0, fun k hk => absurd hk (Nat.not_lt_zero k)⟩
  have hE := pM_pQ (σ := σ) (n := n) (g := g) (c := c) h24
  refine ⟨_, ?_, (hG.nexts (to + 1)).congr (hE.mono (by omega)), fun b h => goN_far _ _ h _⟩
  rw [← hE.form ht]
  exact v_mformOf (G := G) (d := d) (by omega) ht hb.2.2.2.1 hb.2.1 hb.2.2.2.2.1 (hb.2.2.2.2.2.2.2.2 g hg).2.2 h0
theorem q_frM {τ : mS} {n c : Nat} (hq : QR σ n c) (h0 : τ 127 0 = nI 0) (far : ∀ b, b < 124 ∨ 130 < b → τ b = σ b) : Fr σ τ := by
  refine ⟨fun b hb => far b (by omega), by rw [far 116 (by omega)], by rw [far 116 (by omega)], by rw [far 116 (by omega)], ?_⟩
  obtain ⟨-, c1, c2, c3, c4, c5⟩ := hq
  refine ⟨by rw [far 116 (by omega)]; exact c1, by rw [far 116 (by omega)]; exact c2, h0, ?_, ?_⟩
  · rw [far 37 (by omega), far 38 (by omega), far 33 (by omega)]; exact c4
  · rw [far 48 (by omega), far 49 (by omega), far 44 (by omega)]; exact c5
/-- a course's form -/
theorem q_formOf {a g nc N k : Nat} {f : Nat → Int32} {x : Int32} (ha : isCourse a) (h : Fw σ a f g nc x N) (hk : k < N) (hN : N ≤ 70) : mV G mX0_formOf d [.ref a, .int (nI k)] σ (some (.int (sForm (pQ f g nc x) k))) σ := by
  have hv := v_formOf (G := G) (d := d) (σ := σ) ha (n := k) (by omega)
  have h1 := h.1.2.2.1 (k + 1) (by omega)
  rw [h.1.1 2 (by omega), h.1.1 3 (by omega), h1.1, h1.2.1] at hv
  exact hv
end QU
end
